/-! ===== the reference: both tables filled ===== -/
def zTb (m : zMem) (sz : Int) (cell : Int → Int → Int → Int) : Prop := ∀ r c k : Int, 0 ≤ r ∧ r < sz → 0 ≤ c ∧ c < sz → 0 ≤ k ∧ k < 9 → m 78 (9 * (8 * r + c) + k) = cell r c k
theorem zTk.keep {m m2 : zMem} {c d : Int → Int} {le : Int} (h : zTk m c d le) (h1 : m2 76 = m 76) (h2 : m2 77 = m 77) (h3 : m2 67 15 = m 67 15) (h4 : m2 67 16 = m 67 16) : zTk m2 c d le := by
  unfold zTk
  rw [h1, h2, h3, h4]
  exact h
/-- power k of the product of two parts, as far as the first n -/
def zpr (c d : Int → Int) (le a b k : Int) : Nat → Int
  | 0 => 0
  | n + 1 => zpr c d le a b k n + zpt c le a n * zpt d le b (k - n)
def zbz (c d : Int → Int) (le r cc k : Int) : Nat → Int
  | 0 => 0
  | n + 1 => zbz c d le r cc k n + zpr c d le (cc + n + 1) (r - n) k (k + 1).toNat - zpr c d le (r - n) (cc + n + 1) k (k + 1).toNat
/-- how many summands a cell of the second table has -/
def zbn (sz r cc : Int) : Nat := (min (r + 1) (sz - cc)).toNat
def zbc (c d : Int → Int) (le p sz r cc k : Int) : Int := zbz c d le r cc k (zbn sz r cc) % p

set_option maxRecDepth 100000 in
set_option maxHeartbeats 4000000 in
theorem sp_X11_fillsSylvester {l : Launch} {L : Nat} {mem : zMem} {Q : zQ} (c d : Int → Int) (le : Int)  (hk : zTk mem c d le) (hn : 0 ≤ zdeg c le 25 ∧ 0 ≤ zdeg d le 25) (k : ∀ (mem2 : zMem), (mem2 67 18 = zdeg c le 25 + zdeg d le 25) → (zTb mem2 (zdeg c le 25 + zdeg d le 25) (zsyl c d le)) → ((∀ a : Nat, a ≠ 67 → a ≠ 78 → mem2 a = mem a) ∧ ∀ s : Int, s ≠ 18 → mem2 67 s = mem 67 s) → Q none (zS L) mem2) : zw_Ok l mm_X11_fillsSylvester [zR 67] (zS L) mem Q := by
  refine zw_enter (by decide) (Nat.le_of_ble_eq_true rfl) rfl ?_
  show zw_Wp l mm_X11_fillsSylvester (zS L) 0 [some (zR 67), none, none, none] [] mem 0 0 Q
  have d1 := zdeg_4 (c := c) hk.2.2.2.2
  have d2 := zdeg_4 (c := d) hk.2.2.2.2
  have e15 : mem 67 15 = zdeg c le 25 := hk.2.2.1
  have e16 : mem 67 16 = zdeg d le 25 := hk.2.2.2.1
  refine wp_aload_n dd_X11_fillsSylvester_0 rfl ?_
  refine wp_aload_n dd_X11_fillsSylvester_1 rfl ?_
  refine wp_getZ 15 rfl dd_X11_fillsSylvester_2 gf_X11_180 rfl kk_67 (by decide) (zlt rfl) ?_
  refine wp_aload_n dd_X11_fillsSylvester_5 rfl ?_
  refine wp_getZ 16 rfl dd_X11_fillsSylvester_6 gf_X11_183 rfl kk_67 (by decide) (zlt rfl) ?_
  refine wp_iaddC dd_X11_fillsSylvester_9 (by omega) ?_
  refine wp_putzI 18 rfl dd_X11_fillsSylvester_10 pf_X11_186 rfl kk_67 (by decide) (zlt rfl) ?_
  refine wp_iconst dd_X11_fillsSylvester_13 (zr_lit rfl) ?_
  refine wp_istore_n (ls2 := [some (zR 67), some (zI 0), none, none]) dd_X11_fillsSylvester_14 rfl (by decide) rfl ?_
  have lp15 : ∀ (nf : Nat) (r : Int) (mm : zMem), (0 ≤ r) → (r ≤ (mem 67 15 + mem 67 16)) → (∀ r2 c2 k2 : Int, 0 ≤ r2 ∧ r2 < (mem 67 15 + mem 67 16) → 0 ≤ c2 ∧ c2 < (mem 67 15 + mem 67 16) → 0 ≤ k2 ∧ k2 < 9 → (r2 < r) → mm 78 (9 * (8 * r2 + c2) + k2) = zsyl c d le r2 c2 k2) → (∀ a : Nat, a ≠ 78 → mm a = (zu mem 67 18 (mem 67 15 + mem 67 16)) a) → ((mem 67 15 + mem 67 16) - r) < (nf : Int) → zw_Wp l mm_X11_fillsSylvester (zS L) 15 [some (zR 67), some (zI r), none, none] [] mm 0 0 Q := by
    intro nf
    induction nf with
    | zero =>
      intro r mm h0 h1 h2 h3 hmu
      exfalso; omega
    | succ nf ih15 =>
      intro r mm h0 h1 h2 h3 hmu
      have hm67 : mm 67 = (zu mem 67 18 (mem 67 15 + mem 67 16)) 67 := h3 67 (by decide)
      have hm18 : mm 67 18 = (mem 67 15 + mem 67 16) := by rw [hm67]; exact zu_s
      refine wp_iload_n dd_X11_fillsSylvester_15 rfl ?_
      refine wp_aload_n dd_X11_fillsSylvester_16 rfl ?_
      refine wp_getZ 18 rfl dd_X11_fillsSylvester_17 gf_X11_186 rfl kk_67 (by decide) (zlt rfl) ?_
      refine wp_icmp_ge (tgt := 117) dd_X11_fillsSylvester_20 (by decide) (fun c20_1 => ?_) (fun c20_1 => ?_)
      · skip
        refine wp_return (st := []) dd_X11_fillsSylvester_117 rfl ?_
        refine k mm ?_ (fun r2 c2 k2 q1 q2 q3 => h2 r2 c2 k2 (by omega) (by omega) q3 (by omega)) ⟨fun a g1 g2 => ?_, fun s g1 => ?_⟩
        · rw [hm18]; omega
        · rw [h3 a g2, zu_row g1]
        · rw [hm67, zu_n (Or.inr g1)]
      · skip
        refine wp_iconst dd_X11_fillsSylvester_23 (zr_lit rfl) ?_
        refine wp_istore_n (ls2 := [some (zR 67), some (zI r), some (zI 0), none]) dd_X11_fillsSylvester_24 rfl (by decide) rfl ?_
        have lp25 : ∀ (nf : Nat) (cc : Int) (mm : zMem), (0 ≤ cc) → (cc ≤ (mem 67 15 + mem 67 16)) → (∀ r2 c2 k2 : Int, 0 ≤ r2 ∧ r2 < (mem 67 15 + mem 67 16) → 0 ≤ c2 ∧ c2 < (mem 67 15 + mem 67 16) → 0 ≤ k2 ∧ k2 < 9 → (r2 < r ∨ r2 = r ∧ c2 < cc) → mm 78 (9 * (8 * r2 + c2) + k2) = zsyl c d le r2 c2 k2) → (∀ a : Nat, a ≠ 78 → mm a = (zu mem 67 18 (mem 67 15 + mem 67 16)) a) → ((mem 67 15 + mem 67 16) - cc) < (nf : Int) → zw_Wp l mm_X11_fillsSylvester (zS L) 25 [some (zR 67), some (zI r), some (zI cc), none] [] mm 0 0 Q := by
          intro nf
          induction nf with
          | zero =>
            intro cc mm h4 h5 h2 h3 hmu
            exfalso; omega
          | succ nf ih25 =>
            intro cc mm h4 h5 h2 h3 hmu
            have hm67 : mm 67 = (zu mem 67 18 (mem 67 15 + mem 67 16)) 67 := h3 67 (by decide)
            have hm18 : mm 67 18 = (mem 67 15 + mem 67 16) := by rw [hm67]; exact zu_s
            refine wp_iload_n dd_X11_fillsSylvester_25 rfl ?_
            refine wp_aload_n dd_X11_fillsSylvester_26 rfl ?_
            refine wp_getZ 18 rfl dd_X11_fillsSylvester_27 gf_X11_186 rfl kk_67 (by decide) (zlt rfl) ?_
            refine wp_icmp_ge (tgt := 111) dd_X11_fillsSylvester_30 (by decide) (fun c30_2 => ?_) (fun c30_2 => ?_)
            · skip
              refine wp_iincC (ls2 := [some (zR 67), some (zI (r + 1)), some (zI cc), none]) dd_X11_fillsSylvester_111 rfl rfl (by decide) (by omega) rfl ?_
              refine wp_goto (tgt := 15) dd_X11_fillsSylvester_114 (by decide) ?_
              refine wp_ls (zw_sub_of (a := [some (zR 67), some (zI (r + 1)), none, none]) (And.intro rfl (And.intro rfl (trivial)))) ?_
              refine ih15 (r + 1) mm ?_ ?_ ?_ ?_ ?_
              · first | omega | assumption | (intros; omega)
              · first | omega | assumption | (intros; omega)
              · intro r2 c2 k2 q1 q2 q3 q4; exact h2 r2 c2 k2 q1 q2 q3 (by omega)
              · first | omega | assumption | (intros; omega)
              · omega
            · skip
              refine wp_iconst dd_X11_fillsSylvester_33 (zr_lit rfl) ?_
              refine wp_istore_n (ls2 := [some (zR 67), some (zI r), some (zI cc), some (zI 0)]) dd_X11_fillsSylvester_34 rfl (by decide) rfl ?_
              have lp35 : ∀ (nf : Nat) (kk : Int) (mm : zMem), (0 ≤ kk) → (kk ≤ 9) → (∀ r2 c2 k2 : Int, 0 ≤ r2 ∧ r2 < (mem 67 15 + mem 67 16) → 0 ≤ c2 ∧ c2 < (mem 67 15 + mem 67 16) → 0 ≤ k2 ∧ k2 < 9 → (r2 < r ∨ r2 = r ∧ (c2 < cc ∨ c2 = cc ∧ k2 < kk)) → mm 78 (9 * (8 * r2 + c2) + k2) = zsyl c d le r2 c2 k2) → (∀ a : Nat, a ≠ 78 → mm a = (zu mem 67 18 (mem 67 15 + mem 67 16)) a) → (9 - kk) < (nf : Int) → zw_Wp l mm_X11_fillsSylvester (zS L) 35 [some (zR 67), some (zI r), some (zI cc), some (zI kk)] [] mm 0 0 Q := by
                intro nf
                induction nf with
                | zero =>
                  intro kk mm h6 h7 h2 h3 hmu
                  exfalso; omega
                | succ nf ih35 =>
                  intro kk mm h6 h7 h2 h3 hmu
                  have hm67 : mm 67 = (zu mem 67 18 (mem 67 15 + mem 67 16)) 67 := h3 67 (by decide)
                  have hm18 : mm 67 18 = (mem 67 15 + mem 67 16) := by rw [hm67]; exact zu_s
                  have hkm : zTk mm c d le := hk.keep (h3 76 (by decide)) (h3 77 (by decide)) (by rw [hm67]; exact zu_n (Or.inr (by decide))) (by rw [hm67]; exact zu_n (Or.inr (by decide)))
                  have hm15 : mm 67 15 = zdeg c le 25 := hkm.2.2.1
                  have hm16 : mm 67 16 = zdeg d le 25 := hkm.2.2.2.1
                  refine wp_iload_n dd_X11_fillsSylvester_35 rfl ?_
                  refine wp_bipush dd_X11_fillsSylvester_36 (by decide) ?_
                  refine wp_icmp_ge (tgt := 105) dd_X11_fillsSylvester_38 (by decide) (fun c38_3 => ?_) (fun c38_3 => ?_)
                  · skip
                    refine wp_iincC (ls2 := [some (zR 67), some (zI r), some (zI (cc + 1)), some (zI kk)]) dd_X11_fillsSylvester_105 rfl rfl (by decide) (by omega) rfl ?_
                    refine wp_goto (tgt := 25) dd_X11_fillsSylvester_108 (by decide) ?_
                    refine wp_ls (zw_sub_of (a := [some (zR 67), some (zI r), some (zI (cc + 1)), none]) (And.intro rfl (And.intro rfl (And.intro rfl (trivial))))) ?_
                    refine ih25 (cc + 1) mm ?_ ?_ ?_ ?_ ?_
                    · first | omega | assumption | (intros; omega)
                    · first | omega | assumption | (intros; omega)
                    · intro r2 c2 k2 q1 q2 q3 q4; exact h2 r2 c2 k2 q1 q2 q3 (by omega)
                    · first | omega | assumption | (intros; omega)
                    · omega
                  · skip
                    refine wp_aload_n dd_X11_fillsSylvester_41 rfl ?_
                    refine wp_getR dd_X11_fillsSylvester_42 gf_X11_58 rfl kk_67 (by decide) (zlt rfl) rr_67_17 ?_
                    refine wp_bipush dd_X11_fillsSylvester_45 (by decide) ?_
                    refine wp_bipush dd_X11_fillsSylvester_47 (by decide) ?_
                    refine wp_iload_n dd_X11_fillsSylvester_49 rfl ?_
                    refine wp_imulC dd_X11_fillsSylvester_50 (by omega) ?_
                    refine wp_iload_n dd_X11_fillsSylvester_51 rfl ?_
                    refine wp_iaddC dd_X11_fillsSylvester_52 (by omega) ?_
                    refine wp_imulC dd_X11_fillsSylvester_53 (by omega) ?_
                    refine wp_iload_n dd_X11_fillsSylvester_54 rfl ?_
                    refine wp_iaddC dd_X11_fillsSylvester_55 (by omega) ?_
                    refine wp_iload_n dd_X11_fillsSylvester_56 rfl ?_
                    refine wp_aload_n dd_X11_fillsSylvester_57 rfl ?_
                    refine wp_getZ 16 rfl dd_X11_fillsSylvester_58 gf_X11_183 rfl kk_67 (by decide) (zlt rfl) ?_
                    refine wp_icmp_ge (tgt := 80) dd_X11_fillsSylvester_61 (by decide) (fun c61_4 => ?_) (fun c61_4 => ?_)
                    · skip
                      refine wp_aload_n dd_X11_fillsSylvester_80 rfl ?_
                      refine wp_aload_n dd_X11_fillsSylvester_81 rfl ?_
                      refine wp_getZ 16 rfl dd_X11_fillsSylvester_82 gf_X11_183 rfl kk_67 (by decide) (zlt rfl) ?_
                      refine wp_iload_n dd_X11_fillsSylvester_85 rfl ?_
                      refine wp_iaddC dd_X11_fillsSylvester_86 (by omega) ?_
                      refine wp_aload_n dd_X11_fillsSylvester_87 rfl ?_
                      refine wp_getZ 16 rfl dd_X11_fillsSylvester_88 gf_X11_183 rfl kk_67 (by decide) (zlt rfl) ?_
                      refine wp_isubC dd_X11_fillsSylvester_91 (by omega) ?_
                      refine wp_iload_n dd_X11_fillsSylvester_92 rfl ?_
                      refine wp_isubC dd_X11_fillsSylvester_93 (by omega) ?_
                      refine wp_iload_n dd_X11_fillsSylvester_94 rfl ?_
                      refine wp_callV (M' := mm_X11_twoAt) (As := [zI ((((mm 67 16) + r) - (mm 67 16)) - cc), zI kk]) (rest := [zI ((9 * ((8 * r) + cc)) + kk), zR 78]) dd_X11_fillsSylvester_95 lk_X11_192 mV_X11_twoAt kk_67 (zlt rfl) ⟨_, _, rfl⟩ rfl (by decide) (by decide) (Nat.le_of_ble_eq_true rfl) rfl (sp_X11_twoAt c d le ((((mm 67 16) + r) - (mm 67 16)) - cc) kk hkm (by omega) ?_)
                      show zw_Wp l mm_X11_fillsSylvester (zS L) 98 [some (zR 67), some (zI r), some (zI cc), some (zI kk)] [zI (zpt d le ((((mm 67 16) + r) - (mm 67 16)) - cc) kk), zI ((9 * ((8 * r) + cc)) + kk), zR 78] mm 0 0 Q
                      refine wp_iast dd_X11_fillsSylvester_98 kk_78 (zlt rfl) (by omega) (by omega) ?_
                      refine wp_iincC (ls2 := [some (zR 67), some (zI r), some (zI cc), some (zI (kk + 1))]) dd_X11_fillsSylvester_99 rfl rfl (by decide) (by omega) rfl ?_
                      refine wp_goto (tgt := 35) dd_X11_fillsSylvester_102 (by decide) ?_
                      refine ih35 (kk + 1) (zu mm 78 ((9 * ((8 * r) + cc)) + kk) (zpt d le ((((mm 67 16) + r) - (mm 67 16)) - cc) kk)) ?_ ?_ ?_ ?_ ?_
                      · first | omega | assumption | (intros; omega)
                      · first | omega | assumption | (intros; omega)
                      · intro r2 c2 k2 q1 q2 q3 q4
                        by_cases hx : r2 = r ∧ c2 = cc ∧ k2 = kk
                        · obtain ⟨rfl, rfl, rfl⟩ := hx
                          rw [zu_s]
                          unfold zsyl
                          first
                          | (rw [if_pos (by omega), hm15])
                          | (rw [if_neg (by omega), show mm 67 16 + r2 - mm 67 16 - c2 = r2 - c2 by omega])
                        · rw [zu_n (Or.inr (by omega))]; exact h2 r2 c2 k2 q1 q2 q3 (by omega)
                      · intro a ha; rw [zu_row ha]; exact h3 a ha
                      · omega
                    · skip
                      refine wp_aload_n dd_X11_fillsSylvester_64 rfl ?_
                      refine wp_aload_n dd_X11_fillsSylvester_65 rfl ?_
                      refine wp_getZ 15 rfl dd_X11_fillsSylvester_66 gf_X11_180 rfl kk_67 (by decide) (zlt rfl) ?_
                      refine wp_iload_n dd_X11_fillsSylvester_69 rfl ?_
                      refine wp_iaddC dd_X11_fillsSylvester_70 (by omega) ?_
                      refine wp_iload_n dd_X11_fillsSylvester_71 rfl ?_
                      refine wp_isubC dd_X11_fillsSylvester_72 (by omega) ?_
                      refine wp_iload_n dd_X11_fillsSylvester_73 rfl ?_
                      refine wp_callV (M' := mm_X11_oneAt) (As := [zI (((mm 67 15) + r) - cc), zI kk]) (rest := [zI ((9 * ((8 * r) + cc)) + kk), zR 78]) dd_X11_fillsSylvester_74 lk_X11_189 mV_X11_oneAt kk_67 (zlt rfl) ⟨_, _, rfl⟩ rfl (by decide) (by decide) (Nat.le_of_ble_eq_true rfl) rfl (sp_X11_oneAt c d le (((mm 67 15) + r) - cc) kk hkm (by omega) ?_)
                      show zw_Wp l mm_X11_fillsSylvester (zS L) 77 [some (zR 67), some (zI r), some (zI cc), some (zI kk)] [zI (zpt c le (((mm 67 15) + r) - cc) kk), zI ((9 * ((8 * r) + cc)) + kk), zR 78] mm 0 0 Q
                      refine wp_goto (tgt := 98) dd_X11_fillsSylvester_77 (by decide) ?_
                      refine wp_iast dd_X11_fillsSylvester_98 kk_78 (zlt rfl) (by omega) (by omega) ?_
                      refine wp_iincC (ls2 := [some (zR 67), some (zI r), some (zI cc), some (zI (kk + 1))]) dd_X11_fillsSylvester_99 rfl rfl (by decide) (by omega) rfl ?_
                      refine wp_goto (tgt := 35) dd_X11_fillsSylvester_102 (by decide) ?_
                      refine ih35 (kk + 1) (zu mm 78 ((9 * ((8 * r) + cc)) + kk) (zpt c le (((mm 67 15) + r) - cc) kk)) ?_ ?_ ?_ ?_ ?_
                      · first | omega | assumption | (intros; omega)
                      · first | omega | assumption | (intros; omega)
                      · intro r2 c2 k2 q1 q2 q3 q4
                        by_cases hx : r2 = r ∧ c2 = cc ∧ k2 = kk
                        · obtain ⟨rfl, rfl, rfl⟩ := hx
                          rw [zu_s]
                          unfold zsyl
                          first
                          | (rw [if_pos (by omega), hm15])
                          | (rw [if_neg (by omega), show mm 67 16 + r2 - mm 67 16 - c2 = r2 - c2 by omega])
                        · rw [zu_n (Or.inr (by omega))]; exact h2 r2 c2 k2 q1 q2 q3 (by omega)
                      · intro a ha; rw [zu_row ha]; exact h3 a ha
                      · omega
              refine lp35 ((9 - 0 : Int)).toNat.succ 0 mm ?_ ?_ ?_ ?_ ?_
              · first | omega | assumption | (intros; omega)
              · first | omega | assumption | (intros; omega)
              · intro r2 c2 k2 q1 q2 q3 q4; exact h2 r2 c2 k2 q1 q2 q3 (by omega)
              · first | omega | assumption | (intros; omega)
              · omega
        refine lp25 (((mem 67 15 + mem 67 16) - 0 : Int)).toNat.succ 0 mm ?_ ?_ ?_ ?_ ?_
        · first | omega | assumption | (intros; omega)
        · first | omega | assumption | (intros; omega)
        · intro r2 c2 k2 q1 q2 q3 q4; exact h2 r2 c2 k2 q1 q2 q3 (by omega)
        · first | omega | assumption | (intros; omega)
        · omega
  refine lp15 (((mem 67 15 + mem 67 16) - 0 : Int)).toNat.succ 0 (zu mem 67 18 ((mem 67 15) + (mem 67 16))) ?_ ?_ ?_ ?_ ?_
  · first | omega | assumption | (intros; omega)
  · first | omega | assumption | (intros; omega)
  · intros; omega
  · intros; rfl
  · omega


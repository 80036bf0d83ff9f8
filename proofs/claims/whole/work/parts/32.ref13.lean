/-! ===== determinants: minors of the first rows, by sets of columns ===== -/
def zmsm (cell : Int → Int → Int → Int) (prev : Int → Int → Int) (s d : Int) : Nat → Int
  | 0 => 0
  | c + 1 => zmsm cell prev s d c + (if s / 2 ^ c % 2 = 1 then zsg s c * zcn (cell (zbits s - 1) c) (prev (s - 2 ^ c)) d 9 else 0)
def zmt (cell : Int → Int → Int → Int) (p : Int) (sz : Nat) : Nat → Int → Int → Int
  | 0, _, _ => 0
  | n + 1, s, d => if s = n then (if n = 0 then (if d = 0 then 1 else 0) else zmsm cell (zmt cell p sz n) n d sz % p) else zmt cell p sz n s d
theorem zmt_rg {cell : Int → Int → Int → Int} {p : Int} {sz : Nat} (hp : 2 ≤ p) : ∀ (n : Nat) (s d : Int), 0 ≤ zmt cell p sz n s d ∧ zmt cell p sz n s d < p
  | 0, _, _ => by unfold zmt; omega
  | n + 1, s, d => by
    unfold zmt
    split
    · split
      · split <;> omega
      · exact zm_rg (by omega)
    · exact zmt_rg hp n s d
def zdet (cell : Int → Int → Int → Int) (p sz d : Int) : Int := zmt cell p sz.toNat (2 ^ sz.toNat) (1 * 2 ^ sz.toNat - 1) d
theorem z2_all : ∀ z ∈ List.range 9, (1 : Int) ≤ 1 * 2 ^ z ∧ (1 : Int) * 2 ^ z ≤ 256 ∧ ((1 : Int) * 2 ^ z).toNat = 2 ^ z ∧ ∀ s ∈ List.range 256, 0 < s → (s : Int) < 1 * 2 ^ z → 1 ≤ zbits s ∧ zbits s ≤ z := by decide +kernel
theorem z2_sz {sz : Int} (h : 0 ≤ sz ∧ sz ≤ 8) : (1 : Int) ≤ 1 * 2 ^ sz.toNat ∧ (1 : Int) * 2 ^ sz.toNat ≤ 256 ∧ ((1 : Int) * 2 ^ sz.toNat).toNat = 2 ^ sz.toNat ∧ ∀ s : Int, 0 < s → s < 1 * 2 ^ sz.toNat → 1 ≤ zbits s ∧ zbits s ≤ sz := by
  obtain ⟨h1, h2, h3, h4⟩ := z2_all sz.toNat (List.mem_range.mpr (by omega))
  refine ⟨h1, h2, h3, fun s q1 q2 => ?_⟩
  obtain ⟨x, rfl⟩ := Int.eq_ofNat_of_zero_le (show 0 ≤ s by omega)
  have h5 := h4 x (List.mem_range.mpr (by omega)) (by omega) q2
  omega
def zCr (cell : Int → Int → Int → Int) (p sz : Int) : Prop := ∀ r c k : Int, 0 ≤ r ∧ r < sz → 0 ≤ c ∧ c < sz → 0 ≤ k ∧ k < 9 → 0 ≤ cell r c k ∧ cell r c k < p
theorem zTb.keep {m m2 : zMem} {sz : Int} {cell : Int → Int → Int → Int} (h : zTb m sz cell) (e : m2 78 = m 78) : zTb m2 sz cell := by
  unfold zTb
  rw [e]
  exact h

set_option maxRecDepth 100000 in
set_option maxHeartbeats 4000000 in
theorem sp_X11_determinant {l : Launch} {L : Nat} {mem : zMem} {Q : zQ} (cell : Int → Int → Int → Int) (sz : Int)  (hp : zPr (mem 67 1)) (hs : mem 67 18 = sz ∧ 0 ≤ sz ∧ sz ≤ 8) (ht : zTb mem sz cell) (hcr : zCr cell (mem 67 1) sz) (k : ∀ (mem2 : zMem), (∀ d : Int, 0 ≤ d → d < 41 → mem2 79 (41 * (1 * 2 ^ sz.toNat - 1) + d) = zdet cell (mem 67 1) sz d) → (∀ a : Nat, a ≠ 79 → mem2 a = mem a) → Q (some (zI (41 * (1 * 2 ^ sz.toNat - 1)))) (zS L) mem2) : zw_Ok l mm_X11_determinant [zR 67] (zS L) mem Q := by
  refine zw_enter (by decide) (Nat.le_of_ble_eq_true rfl) rfl ?_
  show zw_Wp l mm_X11_determinant (zS L) 0 [some (zR 67), none, none] [] mem 0 0 Q
  have hpr := hp.rg
  obtain ⟨n1, n2, n3, n4⟩ := z2_sz hs.2
  have e1p : (1 : Int) % mem 67 1 = 1 := Int.emod_eq_of_lt (by omega) (by omega)
  refine wp_iconst dd_X11_determinant_0 (zr_lit rfl) ?_
  refine wp_istore_n (ls2 := [some (zR 67), some (zI 0), none]) dd_X11_determinant_1 rfl (by decide) rfl ?_
  have lp2 : ∀ (nf : Nat) (d : Int) (mm : zMem), (0 ≤ d) → (d ≤ 41) → (∀ x : Int, 0 ≤ x → x < d → mm 79 x = if x = 0 then 1 else 0) → (∀ a : Nat, a ≠ 79 → mm a = mem a) → (41 - d) < (nf : Int) → zw_Wp l mm_X11_determinant (zS L) 2 [some (zR 67), some (zI d), none] [] mm 0 0 Q := by
    intro nf
    induction nf with
    | zero =>
      intro d mm h0 h1 h2 h3 hmu
      exfalso; omega
    | succ nf ih2 =>
      intro d mm h0 h1 h2 h3 hmu
      have hm1 : mm 67 1 = mem 67 1 := by rw [h3 67 (by decide)]
      have hm18 : mm 67 18 = sz := by rw [h3 67 (by decide)]; exact hs.1
      refine wp_iload_n dd_X11_determinant_2 rfl ?_
      refine wp_bipush dd_X11_determinant_3 (by decide) ?_
      refine wp_icmp_ge (tgt := 34) dd_X11_determinant_5 (by decide) (fun c5_1 => ?_) (fun c5_1 => ?_)
      · skip
        refine wp_iconst dd_X11_determinant_34 (zr_lit rfl) ?_
        refine wp_istore_n (ls2 := [some (zR 67), some (zI 1), none]) dd_X11_determinant_35 rfl (by decide) rfl ?_
        have lp36 : ∀ (nf : Nat) (s : Int) (mm : zMem), (1 ≤ s) → (s ≤ 1 * 2 ^ sz.toNat) → (∀ y d : Int, 0 ≤ y → y < s → 0 ≤ d → d < 41 → mm 79 (41 * y + d) = zmt cell (mem 67 1) sz.toNat s.toNat y d) → (∀ a : Nat, a ≠ 79 → mm a = mem a) → (256 - s) < (nf : Int) → zw_Wp l mm_X11_determinant (zS L) 36 [some (zR 67), some (zI s), none] [] mm 0 0 Q := by
          intro nf
          induction nf with
          | zero =>
            intro s mm h0 h1 h2 h3 hmu
            exfalso; omega
          | succ nf ih36 =>
            intro s mm h0 h1 h2 h3 hmu
            have hm1 : mm 67 1 = mem 67 1 := by rw [h3 67 (by decide)]
            have hm18 : mm 67 18 = sz := by rw [h3 67 (by decide)]; exact hs.1
            refine wp_iload_n dd_X11_determinant_36 rfl ?_
            refine wp_iconst dd_X11_determinant_37 (zr_lit rfl) ?_
            refine wp_aload_n dd_X11_determinant_38 rfl ?_
            refine wp_getZ 18 rfl dd_X11_determinant_39 gf_X11_186 rfl kk_67 (by decide) (zlt rfl) ?_
            refine wp_ishlP dd_X11_determinant_42 (by decide) (by omega) (by rw [hm18]; omega) ?_
            rw [hm18]
            refine wp_icmp_ge (tgt := 109) dd_X11_determinant_43 (by decide) (fun c43_2 => ?_) (fun c43_2 => ?_)
            · skip
              refine wp_bipush dd_X11_determinant_109 (by decide) ?_
              refine wp_iconst dd_X11_determinant_111 (zr_lit rfl) ?_
              refine wp_aload_n dd_X11_determinant_112 rfl ?_
              refine wp_getZ 18 rfl dd_X11_determinant_113 gf_X11_186 rfl kk_67 (by decide) (zlt rfl) ?_
              refine wp_ishlP dd_X11_determinant_116 (by decide) (by omega) (by rw [hm18]; omega) ?_
              rw [hm18]
              refine wp_iconst dd_X11_determinant_117 (zr_lit rfl) ?_
              refine wp_isubC dd_X11_determinant_118 (by omega) ?_
              refine wp_imulC dd_X11_determinant_119 (by omega) ?_
              refine wp_ireturn (st := []) dd_X11_determinant_120 rfl ?_
              refine k mm (fun d2 q1 q2 => ?_) h3
              have hse : s = 1 * 2 ^ sz.toNat := by rw [hm18] at *; omega
              rw [h2 _ d2 (by omega) (by omega) q1 q2]
              unfold zdet
              rw [← n3, ← hse]
            · skip
              refine wp_iconst dd_X11_determinant_46 (zr_lit rfl) ?_
              refine wp_istore_n (ls2 := [some (zR 67), some (zI s), some (zI 0)]) dd_X11_determinant_47 rfl (by decide) rfl ?_
              have lp48 : ∀ (nf : Nat) (d : Int) (mm : zMem), (0 ≤ d) → (d ≤ 41) → (∀ x : Int, 0 ≤ x → x < d → mm 79 (41 * s + x) = 0) → (∀ y d : Int, 0 ≤ y → y < s → 0 ≤ d → d < 41 → mm 79 (41 * y + d) = zmt cell (mem 67 1) sz.toNat s.toNat y d) → (∀ a : Nat, a ≠ 79 → mm a = mem a) → (41 - d) < (nf : Int) → zw_Wp l mm_X11_determinant (zS L) 48 [some (zR 67), some (zI s), some (zI d)] [] mm 0 0 Q := by
                intro nf
                induction nf with
                | zero =>
                  intro d mm h4 h5 hN hO h3 hmu
                  exfalso; omega
                | succ nf ih48 =>
                  intro d mm h4 h5 hN hO h3 hmu
                  have hm1 : mm 67 1 = mem 67 1 := by rw [h3 67 (by decide)]
                  have hm18 : mm 67 18 = sz := by rw [h3 67 (by decide)]; exact hs.1
                  refine wp_iload_n dd_X11_determinant_48 rfl ?_
                  refine wp_bipush dd_X11_determinant_49 (by decide) ?_
                  refine wp_icmp_ge (tgt := 72) dd_X11_determinant_51 (by decide) (fun c51_3 => ?_) (fun c51_3 => ?_)
                  · skip
                    refine wp_iconst dd_X11_determinant_72 (zr_lit rfl) ?_
                    refine wp_istore_n (ls2 := [some (zR 67), some (zI s), some (zI 0)]) dd_X11_determinant_73 rfl (by decide) rfl ?_
                    have lp74 : ∀ (nf : Nat) (cc : Int) (mm : zMem), (0 ≤ cc) → (cc ≤ sz) → (∀ x : Int, 0 ≤ x → x < 41 → mm 79 (41 * s + x) = zmsm cell (zmt cell (mem 67 1) sz.toNat s.toNat) s x cc.toNat % mem 67 1) → (∀ y d : Int, 0 ≤ y → y < s → 0 ≤ d → d < 41 → mm 79 (41 * y + d) = zmt cell (mem 67 1) sz.toNat s.toNat y d) → (∀ a : Nat, a ≠ 79 → mm a = mem a) → (sz - cc) < (nf : Int) → zw_Wp l mm_X11_determinant (zS L) 74 [some (zR 67), some (zI s), some (zI cc)] [] mm 0 0 Q := by
                      intro nf
                      induction nf with
                      | zero =>
                        intro cc mm h4 h5 hN hO h3 hmu
                        exfalso; omega
                      | succ nf ih74 =>
                        intro cc mm h4 h5 hN hO h3 hmu
                        have hm1 : mm 67 1 = mem 67 1 := by rw [h3 67 (by decide)]
                        have hm18 : mm 67 18 = sz := by rw [h3 67 (by decide)]; exact hs.1
                        have hsr := zsr_rg (s := s) (k := cc.toNat) (by omega)
                        have hnb := n4 s (by omega)
                        refine wp_iload_n dd_X11_determinant_74 rfl ?_
                        refine wp_aload_n dd_X11_determinant_75 rfl ?_
                        refine wp_getZ 18 rfl dd_X11_determinant_76 gf_X11_186 rfl kk_67 (by decide) (zlt rfl) ?_
                        refine wp_icmp_ge (tgt := 103) dd_X11_determinant_79 (by decide) (fun c79_4 => ?_) (fun c79_4 => ?_)
                        · skip
                          refine wp_iincC (ls2 := [some (zR 67), some (zI (s + 1)), some (zI cc)]) dd_X11_determinant_103 rfl rfl (by decide) (by omega) rfl ?_
                          refine wp_goto (tgt := 36) dd_X11_determinant_106 (by decide) ?_
                          refine wp_ls (zw_sub_of (a := [some (zR 67), some (zI (s + 1)), none]) (And.intro rfl (And.intro rfl (trivial)))) ?_
                          refine ih36 (s + 1) mm ?_ ?_ ?_ ?_ ?_
                          · first | omega | assumption | (intros; omega)
                          · first | omega | assumption | (intros; omega)
                          · intro y d2 q1 q2 q3 q4
                            rw [show (s + 1).toNat = s.toNat + 1 by omega, zmt, show ((s.toNat : Nat) : Int) = s by omega]
                            by_cases hy : y = s
                            · subst hy
                              rw [if_pos rfl, if_neg (by omega), hN d2 q3 q4, show cc.toNat = sz.toNat by omega]
                            · rw [if_neg hy, hO y d2 q1 (by omega) q3 q4]
                          · first | omega | assumption | (intros; omega)
                          · omega
                        · skip
                          refine wp_iload_n dd_X11_determinant_82 rfl ?_
                          refine wp_iload_n dd_X11_determinant_83 rfl ?_
                          refine wp_ishrP dd_X11_determinant_84 (by omega) (by omega) ?_
                          refine wp_iconst dd_X11_determinant_85 (zr_lit rfl) ?_
                          refine wp_iand1 dd_X11_determinant_86 (by omega) ?_
                          refine wp_iconst dd_X11_determinant_87 (zr_lit rfl) ?_
                          refine wp_icmp_ne (tgt := 97) dd_X11_determinant_88 (by decide) (fun c88_5 => ?_) (fun c88_5 => ?_)
                          · skip
                            have hbit : ¬ s / 2 ^ cc.toNat % 2 = 1 := c88_5
                            refine wp_iincC (ls2 := [some (zR 67), some (zI s), some (zI (cc + 1))]) dd_X11_determinant_97 rfl rfl (by decide) (by omega) rfl ?_
                            refine wp_goto (tgt := 74) dd_X11_determinant_100 (by decide) ?_
                            refine ih74 (cc + 1) mm ?_ ?_ ?_ ?_ ?_ ?_
                            · first | omega | assumption | (intros; omega)
                            · first | omega | assumption | (intros; omega)
                            · intro x q1 q2
                              rw [show (cc + 1).toNat = cc.toNat + 1 by omega, zmsm, show ((cc.toNat : Nat) : Int) = cc by omega]
                              first
                              | (rw [if_neg hbit, Int.add_zero]; exact hN x q1 q2)
                              | (rw [if_pos hbit, hf9 x q1 q2, hm1, Int.emod_add_emod])
                            · first
                              | assumption
                              | (intro y d2 q1 q2 q3 q4; rw [hr9.2 _ (by omega)]; exact hO y d2 q1 q2 q3 q4)
                            · first
                              | assumption
                              | (intro a ha; rw [hr9.1 a ha]; exact h3 a ha)
                            · omega
                          · skip
                            have hbit : s / 2 ^ cc.toNat % 2 = 1 := c88_5
                            refine wp_aload_n dd_X11_determinant_91 rfl ?_
                            refine wp_iload_n dd_X11_determinant_92 rfl ?_
                            refine wp_iload_n dd_X11_determinant_93 rfl ?_
                            obtain ⟨hbx, hby⟩ := zband (s := s) (c := cc) (by omega) (by omega) hbit
                            have h2p : (0 : Int) < 2 ^ cc.toNat := Int.pow_pos (by decide)
                            have hnb2 := hnb (by omega)
                            refine wp_callV (M' := mm_X11_addsColumn) (As := [zI s, zI cc]) (rest := []) dd_X11_determinant_94 lk_X11_214 mV_X11_addsColumn kk_67 (zlt rfl) ⟨_, _, rfl⟩ rfl (by decide) (by decide) (Nat.le_of_ble_eq_true rfl) rfl (sp_X11_addsColumn cell (fun x => zmsm cell (zmt cell (mem 67 1) sz.toNat s.toNat) s x cc.toNat % mem 67 1) (zmt cell (mem 67 1) sz.toNat s.toNat (s - 2 ^ cc.toNat)) sz s cc (by rw [hm1]; exact hp) (by first | assumption | omega) (by first | assumption | omega) hbit (by first | assumption | omega) (ht.keep (h3 78 (by decide))) (fun k hk9 => by rw [hm1]; exact hcr _ _ _ (by omega) (by omega) hk9) (fun x q1 q2 => by rw [hm1]; exact ⟨hN x q1 q2, zm_rg (by omega)⟩) (fun x q1 q2 => by rw [hm1]; exact ⟨hO _ x (by omega) (by omega) q1 q2, zmt_rg (by omega) _ _ _⟩) (fun me hf9 hr9 => ?_))
                            show zw_Wp l mm_X11_determinant (zS L) 97 [some (zR 67), some (zI s), some (zI cc)] [] me 0 0 Q
                            refine wp_iincC (ls2 := [some (zR 67), some (zI s), some (zI (cc + 1))]) dd_X11_determinant_97 rfl rfl (by decide) (by omega) rfl ?_
                            refine wp_goto (tgt := 74) dd_X11_determinant_100 (by decide) ?_
                            refine ih74 (cc + 1) me ?_ ?_ ?_ ?_ ?_ ?_
                            · first | omega | assumption | (intros; omega)
                            · first | omega | assumption | (intros; omega)
                            · intro x q1 q2
                              rw [show (cc + 1).toNat = cc.toNat + 1 by omega, zmsm, show ((cc.toNat : Nat) : Int) = cc by omega]
                              first
                              | (rw [if_neg hbit, Int.add_zero]; exact hN x q1 q2)
                              | (rw [if_pos hbit, hf9 x q1 q2, hm1, Int.emod_add_emod])
                            · first
                              | assumption
                              | (intro y d2 q1 q2 q3 q4; rw [hr9.2 _ (by omega)]; exact hO y d2 q1 q2 q3 q4)
                            · first
                              | assumption
                              | (intro a ha; rw [hr9.1 a ha]; exact h3 a ha)
                            · omega
                    refine lp74 ((sz - 0 : Int)).toNat.succ 0 mm ?_ ?_ ?_ ?_ ?_ ?_
                    · first | omega | assumption | (intros; omega)
                    · first | omega | assumption | (intros; omega)
                    · intro x q1 q2; rw [hN x q1 (by omega)]; show (0 : Int) = 0 % _; rw [Int.zero_emod]
                    · first | omega | assumption | (intros; omega)
                    · first | omega | assumption | (intros; omega)
                    · omega
                  · skip
                    refine wp_aload_n dd_X11_determinant_54 rfl ?_
                    refine wp_getR dd_X11_determinant_55 gf_X11_61 rfl kk_67 (by decide) (zlt rfl) rr_67_19 ?_
                    refine wp_bipush dd_X11_determinant_58 (by decide) ?_
                    refine wp_iload_n dd_X11_determinant_60 rfl ?_
                    refine wp_imulC dd_X11_determinant_61 (by omega) ?_
                    refine wp_iload_n dd_X11_determinant_62 rfl ?_
                    refine wp_iaddC dd_X11_determinant_63 (by omega) ?_
                    refine wp_iconst dd_X11_determinant_64 (zr_lit rfl) ?_
                    refine wp_iast dd_X11_determinant_65 kk_79 (zlt rfl) (by omega) (by omega) ?_
                    refine wp_iincC (ls2 := [some (zR 67), some (zI s), some (zI (d + 1))]) dd_X11_determinant_66 rfl rfl (by decide) (by omega) rfl ?_
                    refine wp_goto (tgt := 48) dd_X11_determinant_69 (by decide) ?_
                    refine ih48 (d + 1) (zu mm 79 ((41 * s) + d) 0) ?_ ?_ ?_ ?_ ?_ ?_
                    · first | omega | assumption | (intros; omega)
                    · first | omega | assumption | (intros; omega)
                    · intro x q1 q2
                      by_cases hx : x = d
                      · subst hx; rw [zu_s]
                      · rw [zu_n (Or.inr (by omega))]; exact hN x q1 (by omega)
                    · intro y d2 q1 q2 q3 q4; rw [zu_n (Or.inr (by omega))]; exact hO y d2 q1 q2 q3 q4
                    · intro a ha; rw [zu_row ha]; exact h3 a ha
                    · omega
              refine lp48 ((41 - 0 : Int)).toNat.succ 0 mm ?_ ?_ ?_ ?_ ?_ ?_
              · first | omega | assumption | (intros; omega)
              · first | omega | assumption | (intros; omega)
              · intros; omega
              · first | omega | assumption | (intros; omega)
              · first | omega | assumption | (intros; omega)
              · omega
        refine lp36 ((256 - 1 : Int)).toNat.succ 1 mm ?_ ?_ ?_ ?_ ?_
        · first | omega | assumption | (intros; omega)
        · first | omega | assumption | (intros; omega)
        · intro y d2 q1 q2 q3 q4
          rw [show y = 0 by omega, show 41 * 0 + d2 = d2 by omega, h2 d2 q3 (by omega)]
          show _ = zmt _ _ _ (0 + 1) _ _
          rw [zmt, if_pos (show (0 : Int) = ((0 : Nat) : Int) from rfl), if_pos rfl]
        · first | omega | assumption | (intros; omega)
        · omega
      · skip
        refine wp_aload_n dd_X11_determinant_8 rfl ?_
        refine wp_getR dd_X11_determinant_9 gf_X11_61 rfl kk_67 (by decide) (zlt rfl) rr_67_19 ?_
        refine wp_iload_n dd_X11_determinant_12 rfl ?_
        refine wp_iload_n dd_X11_determinant_13 rfl ?_
        refine wp_if_ne (tgt := 26) dd_X11_determinant_14 (by decide) (fun c14_6 => ?_) (fun c14_6 => ?_)
        · skip
          refine wp_iconst dd_X11_determinant_26 (zr_lit rfl) ?_
          refine wp_iast dd_X11_determinant_27 kk_79 (zlt rfl) (by omega) (by omega) ?_
          refine wp_iincC (ls2 := [some (zR 67), some (zI (d + 1)), none]) dd_X11_determinant_28 rfl rfl (by decide) (by omega) rfl ?_
          refine wp_goto (tgt := 2) dd_X11_determinant_31 (by decide) ?_
          refine ih2 (d + 1) (zu mm 79 d 0) ?_ ?_ ?_ ?_ ?_
          · first | omega | assumption | (intros; omega)
          · first | omega | assumption | (intros; omega)
          · intro x q1 q2
            by_cases hx : x = d
            · subst hx; rw [zu_s]; first | (rw [if_pos (by assumption), hm1]; exact e1p) | rw [if_neg (by assumption)]
            · rw [zu_n (Or.inr hx)]; exact h2 x q1 (by omega)
          · intro a ha; rw [zu_row ha]; exact h3 a ha
          · omega
        · skip
          refine wp_iconst dd_X11_determinant_17 (zr_lit rfl) ?_
          refine wp_aload_n dd_X11_determinant_18 rfl ?_
          refine wp_getZ 1 rfl dd_X11_determinant_19 gf_X11_9 rfl kk_67 (by decide) (zlt rfl) ?_
          refine wp_iremP dd_X11_determinant_22 (by omega) (by omega) ?_
          refine wp_goto (tgt := 27) dd_X11_determinant_23 (by decide) ?_
          refine wp_iast dd_X11_determinant_27 kk_79 (zlt rfl) (by omega) (by omega) ?_
          refine wp_iincC (ls2 := [some (zR 67), some (zI (d + 1)), none]) dd_X11_determinant_28 rfl rfl (by decide) (by omega) rfl ?_
          refine wp_goto (tgt := 2) dd_X11_determinant_31 (by decide) ?_
          refine ih2 (d + 1) (zu mm 79 d (1 % (mm 67 1))) ?_ ?_ ?_ ?_ ?_
          · first | omega | assumption | (intros; omega)
          · first | omega | assumption | (intros; omega)
          · intro x q1 q2
            by_cases hx : x = d
            · subst hx; rw [zu_s]; first | (rw [if_pos (by assumption), hm1]; exact e1p) | rw [if_neg (by assumption)]
            · rw [zu_n (Or.inr hx)]; exact h2 x q1 (by omega)
          · intro a ha; rw [zu_row ha]; exact h3 a ha
          · omega
  refine lp2 ((41 - 0 : Int)).toNat.succ 0 mem ?_ ?_ ?_ ?_ ?_
  · first | omega | assumption | (intros; omega)
  · first | omega | assumption | (intros; omega)
  · intros; omega
  · intros; rfl
  · omega


/-! ===== the reference: rows at a value ===== -/
def zsa (c : Int → Int) (le v p : Int) : Int → Int := fun i => zhr (fun j => zpt c le i j) v p 5 5
theorem zTk_kp {m m2 : zMem} {c d : Int → Int} {le : Int} (h : zTk m c d le) (e1 : m2 67 = m 67) (e2 : m2 76 = m 76) (e3 : m2 77 = m 77) : zTk m2 c d le := by
  unfold zTk
  rw [e1, e2, e3]
  exact h
theorem zdp_cg {f g : Int → Int} : ∀ n : Nat, (∀ x : Int, 0 ≤ x → x < n → f x = g x) → zdp f n = zdp g n
  | 0, _ => rfl
  | n + 1, h => by
    rw [zdp, zdp, h n (by omega) (by omega), zdp_cg n (fun x q1 q2 => h x q1 (by omega))]

set_option maxRecDepth 100000 in
set_option maxHeartbeats 4000000 in
theorem sp_X11_standsAt {l : Launch} {L : Nat} {mem : zMem} {Q : zQ} (c d : Int → Int) (le : Int) (v : Int) (hp : zPr (mem 67 1)) (hk : zTk mem c d le) (hv : 0 ≤ v ∧ v ≤ 31) (hc : ∀ x y : Int, 0 ≤ zpt c le x y ∧ zpt c le x y < mem 67 1) (hd : ∀ x y : Int, 0 ≤ zpt d le x y ∧ zpt d le x y < mem 67 1) (k : ∀ (mem2 : zMem), (∀ x : Int, 0 ≤ x → x < 5 → mem2 81 x = zsa c le v (mem 67 1) x) → (∀ x : Int, 0 ≤ x → x < 5 → mem2 82 x = zsa d le v (mem 67 1) x) → (mem2 67 24 = zdp (zsa c le v (mem 67 1)) 5) → (mem2 67 25 = zdp (zsa d le v (mem 67 1)) 5) → ((∀ q : Nat, q ≠ 67 → q ≠ 81 → q ≠ 82 → mem2 q = mem q) ∧ ∀ s : Int, s ≠ 24 → s ≠ 25 → mem2 67 s = mem 67 s) → Q none (zS L) mem2) : zw_Ok l mm_X11_standsAt [zR 67, zI v] (zS L) mem Q := by
  refine zw_okA (fun hA => ?_)
  have rg_v : -2147483648 ≤ v ∧ v < 2147483648 := hA.2.1
  refine zw_enter (by decide) (Nat.le_of_ble_eq_true rfl) rfl ?_
  show zw_Wp l mm_X11_standsAt (zS L) 0 [some (zR 67), some (zI v), none, none] [] mem 0 0 Q
  have hpr := hp.rg
  refine wp_iconst dd_X11_standsAt_0 (zr_lit rfl) ?_
  refine wp_istore_n (ls2 := [some (zR 67), some (zI v), some (zI 0), none]) dd_X11_standsAt_1 rfl (by decide) rfl ?_
  have lp2 : ∀ (nf : Nat) (i : Int) (mm : zMem), (0 ≤ i) → (i ≤ 5) → (∀ x : Int, 0 ≤ x → x < i → mm 81 x = zsa c le v (mem 67 1) x ∧ mm 82 x = zsa d le v (mem 67 1) x) → (∀ q : Nat, q ≠ 81 → q ≠ 82 → mm q = mem q) → (5 - i) < (nf : Int) → zw_Wp l mm_X11_standsAt (zS L) 2 [some (zR 67), some (zI v), some (zI i), none] [] mm 0 0 Q := by
    intro nf
    induction nf with
    | zero =>
      intro i mm h0 h1 h2 h3 hmu
      exfalso; omega
    | succ nf ih2 =>
      intro i mm h0 h1 h2 h3 hmu
      refine wp_iload_n dd_X11_standsAt_2 rfl ?_
      refine wp_iconst dd_X11_standsAt_3 (zr_lit rfl) ?_
      refine wp_icmp_ge (tgt := 91) dd_X11_standsAt_4 (by decide) (fun c4_1 => ?_) (fun c4_1 => ?_)
      · skip
        refine wp_aload_n dd_X11_standsAt_91 rfl ?_
        refine wp_aload_n dd_X11_standsAt_92 rfl ?_
        refine wp_getR dd_X11_standsAt_93 gf_X11_67 rfl kk_67 (by decide) (zlt rfl) rr_67_21 ?_
        refine wp_iconst dd_X11_standsAt_96 (zr_lit rfl) ?_
        refine wp_callS (M' := mm_X11_deepOf) (As := [zR 81, zI 4]) (rest := [zR 67]) dd_X11_standsAt_97 lk_X11_230 mS_X11_deepOf rfl (by decide) (by decide) (Nat.le_of_ble_eq_true rfl) rfl (sp_X11_deepOf  81 4 kk_81 (zlt rfl) (by decide) ?_)
        show zw_Wp l mm_X11_standsAt (zS L) 100 [some (zR 67), some (zI v), some (zI i), none] [zI (zdp (mm 81) (4 + 1 : Int).toNat), zR 67] mm 0 0 Q
        refine wp_putzI 24 rfl dd_X11_standsAt_100 pf_X11_234 rfl kk_67 (by decide) (zlt rfl) ?_
        refine wp_aload_n dd_X11_standsAt_103 rfl ?_
        refine wp_aload_n dd_X11_standsAt_104 rfl ?_
        refine wp_getR dd_X11_standsAt_105 gf_X11_70 rfl kk_67 (by decide) (zlt rfl) rr_67_22 ?_
        refine wp_iconst dd_X11_standsAt_108 (zr_lit rfl) ?_
        refine wp_callS (M' := mm_X11_deepOf) (As := [zR 82, zI 4]) (rest := [zR 67]) dd_X11_standsAt_109 lk_X11_230 mS_X11_deepOf rfl (by decide) (by decide) (Nat.le_of_ble_eq_true rfl) rfl (sp_X11_deepOf  82 4 kk_82 (zlt rfl) (by decide) ?_)
        show zw_Wp l mm_X11_standsAt (zS L) 112 [some (zR 67), some (zI v), some (zI i), none] [zI (zdp ((zu mm 67 24 (zdp (mm 81) (4 + 1 : Int).toNat)) 82) (4 + 1 : Int).toNat), zR 67] (zu mm 67 24 (zdp (mm 81) (4 + 1 : Int).toNat)) 0 0 Q
        refine wp_putzI 25 rfl dd_X11_standsAt_112 pf_X11_237 rfl kk_67 (by decide) (zlt rfl) ?_
        refine wp_return (st := []) dd_X11_standsAt_115 rfl ?_
        have h81 : ∀ x : Int, 0 ≤ x → x < 5 → mm 81 x = zsa c le v (mem 67 1) x := fun x q1 q2 => (h2 x q1 (by omega)).1
        have h82 : ∀ x : Int, 0 ≤ x → x < 5 → mm 82 x = zsa d le v (mem 67 1) x := fun x q1 q2 => (h2 x q1 (by omega)).2
        refine k _ (fun x q1 q2 => ?_) (fun x q1 q2 => ?_) ?_ ?_ ⟨fun q g1 g2 g3 => ?_, fun s g1 g2 => ?_⟩
        · rw [zu_row (by decide), zu_row (by decide)]; exact h81 x q1 q2
        · rw [zu_row (by decide), zu_row (by decide)]; exact h82 x q1 q2
        · rw [zu_n (Or.inr (by decide)), zu_s]; exact zdp_cg 5 h81
        · rw [zu_s, zu_row (by decide)]; exact zdp_cg 5 h82
        · rw [zu_row g1, zu_row g1]; exact h3 q g2 g3
        · rw [zu_n (Or.inr g2), zu_n (Or.inr g1), h3 67 (by decide) (by decide)]
      · skip
        refine wp_aload_n dd_X11_standsAt_7 rfl ?_
        refine wp_getR dd_X11_standsAt_8 gf_X11_67 rfl kk_67 (by decide) (zlt rfl) rr_67_21 ?_
        refine wp_iload_n dd_X11_standsAt_11 rfl ?_
        refine wp_iconst dd_X11_standsAt_12 (zr_lit rfl) ?_
        refine wp_iast dd_X11_standsAt_13 kk_81 (zlt rfl) (by omega) (by omega) ?_
        refine wp_aload_n dd_X11_standsAt_14 rfl ?_
        refine wp_getR dd_X11_standsAt_15 gf_X11_70 rfl kk_67 (by decide) (zlt rfl) rr_67_22 ?_
        refine wp_iload_n dd_X11_standsAt_18 rfl ?_
        refine wp_iconst dd_X11_standsAt_19 (zr_lit rfl) ?_
        refine wp_iast dd_X11_standsAt_20 kk_82 (zlt rfl) (by omega) (by omega) ?_
        refine wp_iconst dd_X11_standsAt_21 (zr_lit rfl) ?_
        refine wp_istore_n (ls2 := [some (zR 67), some (zI v), some (zI i), some (zI 4)]) dd_X11_standsAt_22 rfl (by decide) rfl ?_
        have lp23 : ∀ (nf : Nat) (j : Int) (mn : zMem), (-1 ≤ j) → (j ≤ 4) → (mn 81 i = zhr (fun y => zpt c le i y) v (mem 67 1) 5 (4 - j).toNat) → (mn 82 i = zhr (fun y => zpt d le i y) v (mem 67 1) 5 (4 - j).toNat) → (∀ x : Int, x ≠ i → mn 81 x = mm 81 x ∧ mn 82 x = mm 82 x) → (∀ q : Nat, q ≠ 81 → q ≠ 82 → mn q = mm q) → (j + 1) < (nf : Int) → zw_Wp l mm_X11_standsAt (zS L) 23 [some (zR 67), some (zI v), some (zI i), some (zI j)] [] mn 0 0 Q := by
          intro nf
          induction nf with
          | zero =>
            intro j mn j0 j1 k1 k2 k3 k4 hmu
            exfalso; omega
          | succ nf ih23 =>
            intro j mn j0 j1 k1 k2 k3 k4 hmu
            have hn67 : mn 67 = mem 67 := by rw [k4 67 (by decide) (by decide), h3 67 (by decide) (by decide)]
            have hn1 : mn 67 1 = mem 67 1 := by rw [hn67]
            have hTm : zTk mn c d le := zTk_kp hk hn67 (by rw [k4 76 (by decide) (by decide), h3 76 (by decide) (by decide)]) (by rw [k4 77 (by decide) (by decide), h3 77 (by decide) (by decide)])
            have ha1 : 0 ≤ mn 81 i ∧ mn 81 i < mem 67 1 := by rw [k1]; exact zhr_rg (by omega) _
            have ha2 : 0 ≤ mn 82 i ∧ mn 82 i < mem 67 1 := by rw [k2]; exact zhr_rg (by omega) _
            have hb1 := zmul_rg (a := mn 81 i) (b := v) (A := 31) (B := 31) (by omega) (by omega) (by omega) (by omega)
            have hb2 := zmul_rg (a := mn 82 i) (b := v) (A := 31) (B := 31) (by omega) (by omega) (by omega) (by omega)
            have hc9 := hc i j
            have hd9 := hd i j
            refine wp_iload_n dd_X11_standsAt_23 rfl ?_
            refine wp_if_lt (tgt := 85) dd_X11_standsAt_24 (by decide) (fun c24_2 => ?_) (fun c24_2 => ?_)
            · skip
              refine wp_iincC (ls2 := [some (zR 67), some (zI v), some (zI (i + 1)), some (zI j)]) dd_X11_standsAt_85 rfl rfl (by decide) (by omega) rfl ?_
              refine wp_goto (tgt := 2) dd_X11_standsAt_88 (by decide) ?_
              refine wp_ls (zw_sub_of (a := [some (zR 67), some (zI v), some (zI (i + 1)), none]) (And.intro rfl (And.intro rfl (And.intro rfl (trivial))))) ?_
              refine ih2 (i + 1) mn ?_ ?_ ?_ ?_ ?_
              · first | omega | assumption | (intros; omega)
              · first | omega | assumption | (intros; omega)
              · intro x q1 q2
                by_cases hx : x = i
                · subst hx; exact ⟨by rw [k1, show (4 - j).toNat = 5 by omega]; rfl, by rw [k2, show (4 - j).toNat = 5 by omega]; rfl⟩
                · exact ⟨(k3 x hx).1.trans (h2 x q1 (by omega)).1, (k3 x hx).2.trans (h2 x q1 (by omega)).2⟩
              · intro q g1 g2; rw [k4 q g1 g2]; exact h3 q g1 g2
              · omega
            · skip
              refine wp_aload_n dd_X11_standsAt_27 rfl ?_
              refine wp_getR dd_X11_standsAt_28 gf_X11_67 rfl kk_67 (by decide) (zlt rfl) rr_67_21 ?_
              refine wp_iload_n dd_X11_standsAt_31 rfl ?_
              refine wp_aload_n dd_X11_standsAt_32 rfl ?_
              refine wp_getR dd_X11_standsAt_33 gf_X11_67 rfl kk_67 (by decide) (zlt rfl) rr_67_21 ?_
              refine wp_iload_n dd_X11_standsAt_36 rfl ?_
              refine wp_iald dd_X11_standsAt_37 kk_81 (zlt rfl) (by omega) (by omega) ?_
              refine wp_iload_n dd_X11_standsAt_38 rfl ?_
              refine wp_imulC dd_X11_standsAt_39 (by omega) ?_
              refine wp_aload_n dd_X11_standsAt_40 rfl ?_
              refine wp_iload_n dd_X11_standsAt_41 rfl ?_
              refine wp_iload_n dd_X11_standsAt_42 rfl ?_
              refine wp_callV (M' := mm_X11_oneAt) (As := [zI i, zI j]) (rest := [zI ((mn 81 i) * v), zI i, zR 81]) dd_X11_standsAt_43 lk_X11_189 mV_X11_oneAt kk_67 (zlt rfl) ⟨_, _, rfl⟩ rfl (by decide) (by decide) (Nat.le_of_ble_eq_true rfl) rfl (sp_X11_oneAt c d le i j hTm (by omega) ?_)
              show zw_Wp l mm_X11_standsAt (zS L) 46 [some (zR 67), some (zI v), some (zI i), some (zI j)] [zI (zpt c le i j), zI ((mn 81 i) * v), zI i, zR 81] mn 0 0 Q
              refine wp_iaddC dd_X11_standsAt_46 (by omega) ?_
              refine wp_aload_n dd_X11_standsAt_47 rfl ?_
              refine wp_getZ 1 rfl dd_X11_standsAt_48 gf_X11_9 rfl kk_67 (by decide) (zlt rfl) ?_
              refine wp_iremP dd_X11_standsAt_51 (by omega) (by omega) ?_
              refine wp_iast dd_X11_standsAt_52 kk_81 (zlt rfl) (by omega) (by omega) ?_
              refine wp_aload_n dd_X11_standsAt_53 rfl ?_
              refine wp_getR dd_X11_standsAt_54 gf_X11_70 rfl kk_67 (by decide) (zlt rfl) rr_67_22 ?_
              refine wp_iload_n dd_X11_standsAt_57 rfl ?_
              refine wp_aload_n dd_X11_standsAt_58 rfl ?_
              refine wp_getR dd_X11_standsAt_59 gf_X11_70 rfl kk_67 (by decide) (zlt rfl) rr_67_22 ?_
              refine wp_iload_n dd_X11_standsAt_62 rfl ?_
              refine wp_ialdV (v := mn 82 i) (by rw [zu_row (by decide)]) dd_X11_standsAt_63 kk_82 (zlt rfl) (by omega) (by omega) ?_
              refine wp_iload_n dd_X11_standsAt_64 rfl ?_
              refine wp_imulC dd_X11_standsAt_65 (by omega) ?_
              refine wp_aload_n dd_X11_standsAt_66 rfl ?_
              refine wp_iload_n dd_X11_standsAt_67 rfl ?_
              refine wp_iload_n dd_X11_standsAt_68 rfl ?_
              refine wp_callV (M' := mm_X11_twoAt) (As := [zI i, zI j]) (rest := [zI ((mn 82 i) * v), zI i, zR 82]) dd_X11_standsAt_69 lk_X11_192 mV_X11_twoAt kk_67 (zlt rfl) ⟨_, _, rfl⟩ rfl (by decide) (by decide) (Nat.le_of_ble_eq_true rfl) rfl (sp_X11_twoAt c d le i j (zTk_kp hTm (zu_row (by decide)) (zu_row (by decide)) (zu_row (by decide))) (by omega) ?_)
              show zw_Wp l mm_X11_standsAt (zS L) 72 [some (zR 67), some (zI v), some (zI i), some (zI j)] [zI (zpt d le i j), zI ((mn 82 i) * v), zI i, zR 82] (zu mn 81 i ((((mn 81 i) * v) + (zpt c le i j)) % (mn 67 1))) 0 0 Q
              refine wp_iaddC dd_X11_standsAt_72 (by omega) ?_
              refine wp_aload_n dd_X11_standsAt_73 rfl ?_
              refine wp_getV 1 (v := mn 67 1) rfl (by rw [zu_row (by decide)]) dd_X11_standsAt_74 gf_X11_9 rfl kk_67 (by decide) (zlt rfl) ?_
              refine wp_iremP dd_X11_standsAt_77 (by omega) (by omega) ?_
              refine wp_iast dd_X11_standsAt_78 kk_82 (zlt rfl) (by omega) (by omega) ?_
              refine wp_iincC (ls2 := [some (zR 67), some (zI v), some (zI i), some (zI (j + (-1)))]) dd_X11_standsAt_79 rfl rfl (by decide) (by omega) rfl ?_
              refine wp_goto (tgt := 23) dd_X11_standsAt_82 (by decide) ?_
              refine ih23 (j + (-1)) (zu (zu mn 81 i ((((mn 81 i) * v) + (zpt c le i j)) % (mn 67 1))) 82 i ((((mn 82 i) * v) + (zpt d le i j)) % (mn 67 1))) ?_ ?_ ?_ ?_ ?_ ?_ ?_
              · first | omega | assumption | (intros; omega)
              · first | omega | assumption | (intros; omega)
              · rw [zu_row (by decide), zu_s, show (4 - (j + -1)).toNat = (4 - j).toNat + 1 by omega, zhr, ← k1, show (5 : Int) - 1 - (((4 - j).toNat : Nat) : Int) = j by omega, hn1]
              · rw [zu_s, show (4 - (j + -1)).toNat = (4 - j).toNat + 1 by omega, zhr, ← k2, show (5 : Int) - 1 - (((4 - j).toNat : Nat) : Int) = j by omega, hn1]
              · intro x hx; exact ⟨by rw [zu_row (by decide), zu_n (Or.inr hx)]; exact (k3 x hx).1, by rw [zu_n (Or.inr hx), zu_row (by decide)]; exact (k3 x hx).2⟩
              · intro q g1 g2; rw [zu_row g2, zu_row g1]; exact k4 q g1 g2
              · omega
        refine lp23 ((4 + 1 : Int)).toNat.succ 4 (zu (zu mm 81 i 0) 82 i 0) ?_ ?_ ?_ ?_ ?_ ?_ ?_
        · first | omega | assumption | (intros; omega)
        · first | omega | assumption | (intros; omega)
        · rw [zu_row (by decide), zu_s]; rfl
        · rw [zu_s]; rfl
        · intro x hx; exact ⟨by rw [zu_row (by decide), zu_n (Or.inr hx)], by rw [zu_n (Or.inr hx), zu_row (by decide)]⟩
        · intro q g1 g2; rw [zu_row g2, zu_row g1]
        · omega
  refine lp2 ((5 - 0 : Int)).toNat.succ 0 mem ?_ ?_ ?_ ?_ ?_
  · first | omega | assumption | (intros; omega)
  · first | omega | assumption | (intros; omega)
  · intros; omega
  · intros; rfl
  · omega

set_option maxRecDepth 100000 in
set_option maxHeartbeats 4000000 in
theorem sp_X11_notAt {l : Launch} {L : Nat} {mem : zMem} {Q : zQ}  (a : Int) (b : Int) (le : Int) (v : Int) (hp : zPr (mem 67 1)) (hn : 0 ≤ mem 67 5 ∧ mem 67 5 ≤ 6) (hTa : ∀ q : Int, 0 ≤ q → q < mem 67 5 → zT mem q) (k : Q (some (zI (if zyB mem a b le 0 ≠ 0 then zyB mem a b le 0 else if v < 0 then -4 else if mem 67 1 ≤ v then -6 else 0))) (zS L) mem) : zw_Ok l mm_X11_notAt [zR 67, zI a, zI b, zI le, zI v] (zS L) mem Q := by
  refine zw_okA (fun hA => ?_)
  have rg_a : -2147483648 ≤ a ∧ a < 2147483648 := hA.2.1
  have rg_b : -2147483648 ≤ b ∧ b < 2147483648 := hA.2.2.1
  have rg_le : -2147483648 ≤ le ∧ le < 2147483648 := hA.2.2.2.1
  have rg_v : -2147483648 ≤ v ∧ v < 2147483648 := hA.2.2.2.2.1
  refine zw_enter (by decide) (Nat.le_of_ble_eq_true rfl) rfl ?_
  show zw_Wp l mm_X11_notAt (zS L) 0 [some (zR 67), some (zI a), some (zI b), some (zI le), some (zI v), none] [] mem 0 0 Q
  have hpr := hp.rg
  refine wp_aload_n dd_X11_notAt_0 rfl ?_
  refine wp_iload_n dd_X11_notAt_1 rfl ?_
  refine wp_iload_n dd_X11_notAt_2 rfl ?_
  refine wp_iload_n dd_X11_notAt_3 rfl ?_
  refine wp_callV (M' := mm_X11_notBoth) (As := [zI a, zI b, zI le]) (rest := []) dd_X11_notAt_4 lk_X11_251 mV_X11_notBoth kk_67 (zlt rfl) ⟨_, _, rfl⟩ rfl (by decide) (by decide) (Nat.le_of_ble_eq_true rfl) rfl (sp_X11_notBoth  a b le (by first | assumption | omega) (by first | assumption | omega) (by first | assumption | omega) ?_)
  show zw_Wp l mm_X11_notAt (zS L) 7 [some (zR 67), some (zI a), some (zI b), some (zI le), some (zI v), none] [zI (if ¬ ((0 ≤ a ∧ a < mem 67 5) ∧ (0 ≤ b ∧ b < mem 67 5) ∧ 0 ≤ le ∧ le ≤ 1) then -1 else if ¬ (0 ≤ 0 ∧ 0 ≤ 1) then -2 else if zdeg (zco mem a) 0 25 < 0 ∨ zdeg (zco mem b) 0 25 < 0 then -3 else 0)] mem 0 0 Q
  change zw_Wp l _ _ 7 _ (zI (zyB mem a b le 0) :: _) _ _ _ _
  have hyc := zyB_c mem a b le 0
  refine wp_istore (ls2 := [some (zR 67), some (zI a), some (zI b), some (zI le), some (zI v), some (zI (zyB mem a b le 0))]) dd_X11_notAt_7 rfl (by decide) rfl ?_
  refine wp_iload dd_X11_notAt_9 rfl ?_
  refine wp_if_eq (tgt := 19) dd_X11_notAt_11 (by decide) (fun c11_1 => ?_) (fun c11_1 => ?_)
  · skip
    refine wp_iload dd_X11_notAt_19 rfl ?_
    refine wp_if_ge (tgt := 29) dd_X11_notAt_21 (by decide) (fun c21_2 => ?_) (fun c21_2 => ?_)
    · skip
      refine wp_iload dd_X11_notAt_29 rfl ?_
      refine wp_aload_n dd_X11_notAt_31 rfl ?_
      refine wp_getZ 1 rfl dd_X11_notAt_32 gf_X11_9 rfl kk_67 (by decide) (zlt rfl) ?_
      refine wp_icmp_lt (tgt := 43) dd_X11_notAt_35 (by decide) (fun c35_3 => ?_) (fun c35_3 => ?_)
      · skip
        refine wp_iconst dd_X11_notAt_43 (zr_lit rfl) ?_
        refine wp_ireturn (st := []) dd_X11_notAt_44 rfl ?_
        refine zq_I ?_ ?_ k
        · repeat first | rw [if_pos (by omega)] | rw [if_neg (by omega)]
        · rfl
      · skip
        refine wp_bipush dd_X11_notAt_38 (by decide) ?_
        refine wp_goto (tgt := 44) dd_X11_notAt_40 (by decide) ?_
        refine wp_ireturn (st := []) dd_X11_notAt_44 rfl ?_
        refine zq_I ?_ ?_ k
        · repeat first | rw [if_pos (by omega)] | rw [if_neg (by omega)]
        · rfl
    · skip
      refine wp_bipush dd_X11_notAt_24 (by decide) ?_
      refine wp_goto (tgt := 44) dd_X11_notAt_26 (by decide) ?_
      refine wp_ireturn (st := []) dd_X11_notAt_44 rfl ?_
      refine zq_I ?_ ?_ k
      · repeat first | rw [if_pos (by omega)] | rw [if_neg (by omega)]
      · rfl
  · skip
    refine wp_iload dd_X11_notAt_14 rfl ?_
    refine wp_goto (tgt := 44) dd_X11_notAt_16 (by decide) ?_
    refine wp_ireturn (st := []) dd_X11_notAt_44 rfl ?_
    refine zq_I ?_ ?_ k
    · repeat first | rw [if_pos (by omega)] | rw [if_neg (by omega)]
    · rfl


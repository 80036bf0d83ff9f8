/-! ===== the class: chains of remainders ===== -/
/-- the degree as the class tells it: -9 of nought -/
def zd9 (f : Int → Int) : Int := if zdp f 5 < 0 then -9 else zdp f 5
theorem zdp_hi {f : Int → Int} : ∀ {n : Nat} {x : Int}, zdp f n < x → x < n → f x = 0 ∨ x < 0
  | 0, x, h1, h2 => by omega
  | n + 1, x, h1, h2 => by
    unfold zdp at h1
    by_cases q : f n ≠ 0
    · rw [if_pos q] at h1; omega
    · rw [if_neg q] at h1
      by_cases e : x = n
      · rw [e]; exact Or.inl (Classical.not_not.mp q)
      · exact zdp_hi h1 (by omega)
theorem zdp_un {f : Int → Int} {d : Int} (h : (d = -9 ∧ ∀ j : Int, 0 ≤ j → j < ((5 : Nat) : Int) → f j = 0) ∨ (0 ≤ d ∧ d < ((5 : Nat) : Int) ∧ f d ≠ 0 ∧ ∀ j : Int, d < j → j < ((5 : Nat) : Int) → f j = 0)) : d = zd9 f := by
  have h1 := zdp_rg f 5
  unfold zd9
  rcases h with ⟨h2, h3⟩ | ⟨h2, h3, h4, h5⟩
  · by_cases q : zdp f 5 < 0
    · rw [if_pos q]; exact h2
    · exact absurd (h3 _ (by omega) (by omega)) (zdp_at (f := f) (n := 5) (by omega))
  · by_cases q : zdp f 5 < d
    · rcases zdp_hi (f := f) (n := 5) q (by omega) with z | z
      · exact absurd z h4
      · omega
    · rw [if_neg (by omega)]
      by_cases e : d = zdp f 5
      · exact e
      · exact absurd (h5 (zdp f 5) (by omega) (by omega)) (zdp_at (f := f) (n := 5) (by omega))
theorem zd9_c (f : Int → Int) : (zd9 f = -9 ∧ zdp f 5 = -1) ∨ (0 ≤ zd9 f ∧ zd9 f ≤ 4 ∧ zdp f 5 = zd9 f) := by
  have h1 := zdp_rg f 5
  unfold zd9
  split <;> omega
theorem zd9_cg {f g : Int → Int} (h : ∀ x : Int, 0 ≤ x → x < 5 → f x = g x) : zd9 f = zd9 g := by
  unfold zd9
  rw [zdp_cg 5 h]
/-- nothing to take away: a step changes nothing -/
theorem zqs_id {g f : Int → Int} {e v p i : Int} (h0 : f i = 0) (hf : ∀ x : Int, 0 ≤ x → x < 9 → 0 ≤ f x ∧ f x < p) : ∀ x : Int, 0 ≤ x → x < 9 → zqs g e v p i f x = f x := by
  intro x q1 q2
  unfold zqs
  have := hf x q1 q2
  split
  · rw [h0, Int.zero_mul, Int.zero_emod, Int.zero_mul, Int.sub_zero, Int.emod_eq_of_lt this.1 this.2]
  · rfl
theorem zqr_id {g : Int → Int} {e v p : Int} (he : 0 ≤ e ∧ e ≤ 4) (m : Nat) : ∀ (k : Nat) (f : Int → Int), (k : Int) + m ≤ 9 - e → (∀ x : Int, e + m ≤ x → x < 9 → f x = 0) → (∀ x : Int, 0 ≤ x → x < 9 → 0 ≤ f x ∧ f x < p) → ∀ x : Int, 0 ≤ x → x < 9 → zqr g e v p (m + k) f x = zqr g e v p m f x
  | 0, _, _, _, _, _, _, _ => rfl
  | k + 1, f, hk, h0, hf, x, q1, q2 => by
    have hid := zqs_id (g := g) (e := e) (v := v) (p := p) (i := e + (m + k : Nat)) (f := f) (h0 _ (by omega) (by omega)) hf
    rw [show m + (k + 1) = (m + k) + 1 from rfl, zqr, zqr_cg he (fun _ _ _ => rfl) (m + k) _ f (by omega) hid x q1 q2]
    exact zqr_id he m k f (by omega) h0 hf x q1 q2

set_option maxRecDepth 100000 in
set_option maxHeartbeats 4000000 in
theorem sp_X0_divide {l : Launch} {L : Nat} {mem : zMem} {Q : zQ}  (o : Nat) (r : Nat) (p : Int) (hk1 : (zS L).2.1 o = (0, 5)) (hi1 : o < (zS L).1) (hk2 : (zS L).2.1 r = (0, 5)) (hi2 : r < (zS L).1) (hor : o ≠ r) (hp : zPr p) (hf : ∀ x : Int, 0 ≤ x → x < 5 → 0 ≤ mem o x ∧ mem o x < p) (hg : ∀ x : Int, 0 ≤ x → x < 5 → 0 ≤ mem r x ∧ mem r x < p) (hd0 : 0 ≤ zdp (mem r) 5) (k : ∀ (mem2 : zMem), (∀ x : Int, 0 ≤ x → x < 5 → mem2 o x = zrm p (mem r) (mem o) x) → (∀ a : Nat, a ≠ o → mem2 a = mem a) → Q none (zS L) mem2) : zw_Ok l mm_X0_divide [zR o, zR r, zI p] (zS L) mem Q := by
  refine zw_okA (fun hA => ?_)
  have rg_p : -2147483648 ≤ p ∧ p < 2147483648 := hA.2.2.1
  refine zw_enter (by decide) (Nat.le_of_ble_eq_true rfl) rfl ?_
  show zw_Wp l mm_X0_divide (zS L) 0 [some (zR o), some (zR r), some (zI p), none, none, none, none, none, none] [] mem 0 0 Q
  have hpr := hp.rg
  have hE := zdp_rg (mem r) 5
  have hv : 0 ≤ zinv (mem r (zdp (mem r) 5)) p ∧ zinv (mem r (zdp (mem r) 5)) p < p := zm_rg (by omega)
  have hnz := zdp_at (f := mem r) (n := 5) hd0
  have hgE := hg (zdp (mem r) 5) (by omega) (by omega)
  refine wp_aload_n dd_X0_divide_0 rfl ?_
  refine wp_callS (M' := mm_X2_degreeOf) (As := [zR r]) (rest := []) dd_X0_divide_1 lk_X0_25 mS_X2_degreeOf rfl (by decide) (by decide) (Nat.le_of_ble_eq_true rfl) rfl (sp_X2_degreeOf  r hk2 hi2 (by decide) (fun d2 hd2 => ?_))
  show zw_Wp l mm_X0_divide (zS L) 4 [some (zR o), some (zR r), some (zI p), none, none, none, none, none, none] [zI d2] mem 0 0 Q
  have e2 := zdp_un hd2
  have c2 := zd9_c (mem r)
  have e3 : d2 = zdp (mem r) 5 := by omega
  rw [show (d2 : Int) = zdp (mem r) 5 from e3]
  refine wp_istore_n (ls2 := [some (zR o), some (zR r), some (zI p), some (zI (zdp (mem r) 5)), none, none, none, none, none]) dd_X0_divide_4 rfl (by decide) rfl ?_
  refine wp_iload_n dd_X0_divide_5 rfl ?_
  refine wp_if_ge (tgt := 10) dd_X0_divide_6 (by decide) (fun c6_1 => ?_) (fun c6_1 => ?_)
  · skip
    refine wp_aload_n dd_X0_divide_10 rfl ?_
    refine wp_iload_n dd_X0_divide_11 rfl ?_
    refine wp_iald dd_X0_divide_12 hk2 hi2 (by omega) (by omega) ?_
    refine wp_iload_n dd_X0_divide_13 rfl ?_
    refine wp_callS (M' := mm_X2_inverse) (As := [zI (mem r (zdp (mem r) 5)), zI p]) (rest := []) dd_X0_divide_14 lk_X0_39 mS_X2_inverse rfl (by decide) (by decide) (Nat.le_of_ble_eq_true rfl) rfl (sp_X2_inverse  (mem r (zdp (mem r) 5)) p hp (by omega) ?_)
    show zw_Wp l mm_X0_divide (zS L) 17 [some (zR o), some (zR r), some (zI p), some (zI (zdp (mem r) 5)), none, none, none, none, none] [zI (zinv (mem r (zdp (mem r) 5)) p)] mem 0 0 Q
    refine wp_istore (ls2 := [some (zR o), some (zR r), some (zI p), some (zI (zdp (mem r) 5)), some (zI (zinv (mem r (zdp (mem r) 5)) p)), none, none, none, none]) dd_X0_divide_17 rfl (by decide) rfl ?_
    refine wp_aload_n dd_X0_divide_19 rfl ?_
    refine wp_callS (M' := mm_X2_degreeOf) (As := [zR o]) (rest := []) dd_X0_divide_20 lk_X0_25 mS_X2_degreeOf rfl (by decide) (by decide) (Nat.le_of_ble_eq_true rfl) rfl (sp_X2_degreeOf  o hk1 hi1 (by decide) (fun d1 hd1 => ?_))
    show zw_Wp l mm_X0_divide (zS L) 23 [some (zR o), some (zR r), some (zI p), some (zI (zdp (mem r) 5)), some (zI (zinv (mem r (zdp (mem r) 5)) p)), none, none, none, none] [zI d1] mem 0 0 Q
    have e1 := zdp_un hd1
    have c1 := zd9_c (mem o)
    refine wp_istore (ls2 := [some (zR o), some (zR r), some (zI p), some (zI (zdp (mem r) 5)), some (zI (zinv (mem r (zdp (mem r) 5)) p)), some (zI d1), none, none, none]) dd_X0_divide_23 rfl (by decide) rfl ?_
    have lp25 : ∀ (nf : Nat) (i : Int) (mm : zMem), (-9 ≤ i) → (i ≤ 4) → (∀ q : Nat, q ≠ o → mm q = mem q) → (∀ x : Int, 0 ≤ x → x < 5 → 0 ≤ mm o x ∧ mm o x < p) → (∀ x : Int, 0 ≤ x → x < 9 → zqr (mem r) (zdp (mem r) 5) (zinv (mem r (zdp (mem r) 5)) p) p (i - zdp (mem r) 5 + 1).toNat (z5 (mm o)) x = zrm p (mem r) (mem o) x) → (i + 10) < (nf : Int) → zw_Wp l mm_X0_divide (zS L) 25 [some (zR o), some (zR r), some (zI p), some (zI (zdp (mem r) 5)), some (zI (zinv (mem r (zdp (mem r) 5)) p)), some (zI i), none, none, none] [] mm 0 0 Q := by
      intro nf
      induction nf with
      | zero =>
        intro i mm i0 i1 h3 h4 h2 hmu
        exfalso; omega
      | succ nf ih25 =>
        intro i mm i0 i1 h3 h4 h2 hmu
        refine wp_iload dd_X0_divide_25 rfl ?_
        refine wp_iload_n dd_X0_divide_27 rfl ?_
        refine wp_icmp_lt (tgt := 92) dd_X0_divide_28 (by decide) (fun c28_2 => ?_) (fun c28_2 => ?_)
        · skip
          refine wp_return (st := []) dd_X0_divide_92 rfl ?_
          refine k mm (fun x q1 q2 => ?_) h3
          have e9 := h2 x q1 (by omega)
          rw [show (i - zdp (mem r) 5 + 1).toNat = 0 by omega] at e9
          rw [← e9]
          show mm o x = z5 (mm o) x
          unfold z5
          rw [if_pos ⟨q1, q2⟩]
        · skip
          have hfi := h4 i (by omega) (by omega)
          have hmu1 := zmul_rg (a := mm o i) (b := zinv (mem r (zdp (mem r) 5)) p) (A := 31) (B := 31) (by omega) (by omega) (by omega) (by omega)
          have ht9 := zm_rg (a := mm o i * zinv (mem r (zdp (mem r) 5)) p) (p := p) (by omega)
          refine wp_aload_n dd_X0_divide_31 rfl ?_
          refine wp_iload dd_X0_divide_32 rfl ?_
          refine wp_iald dd_X0_divide_34 hk1 hi1 (by omega) (by omega) ?_
          refine wp_iload dd_X0_divide_35 rfl ?_
          refine wp_imulC dd_X0_divide_37 (by omega) ?_
          refine wp_iload_n dd_X0_divide_38 rfl ?_
          refine wp_iremP dd_X0_divide_39 (by omega) (by omega) ?_
          refine wp_istore (ls2 := [some (zR o), some (zR r), some (zI p), some (zI (zdp (mem r) 5)), some (zI (zinv (mem r (zdp (mem r) 5)) p)), some (zI i), some (zI (((mm o i) * (zinv (mem r (zdp (mem r) 5)) p)) % p)), none, none]) dd_X0_divide_40 rfl (by decide) rfl ?_
          refine wp_iconst dd_X0_divide_42 (zr_lit rfl) ?_
          refine wp_istore (ls2 := [some (zR o), some (zR r), some (zI p), some (zI (zdp (mem r) 5)), some (zI (zinv (mem r (zdp (mem r) 5)) p)), some (zI i), some (zI (((mm o i) * (zinv (mem r (zdp (mem r) 5)) p)) % p)), some (zI 0), none]) dd_X0_divide_43 rfl (by decide) rfl ?_
          have lp45 : ∀ (nf : Nat) (j : Int) (mn : zMem), (0 ≤ j) → (j ≤ zdp (mem r) 5 + 1) → (∀ x : Int, 0 ≤ x → x < 5 → mn o x = if i - zdp (mem r) 5 ≤ x ∧ x < i - zdp (mem r) 5 + j then (mm o x - mm o i * zinv (mem r (zdp (mem r) 5)) p % p * mem r (x - (i - zdp (mem r) 5))) % p else mm o x) → (∀ q : Nat, q ≠ o → mn q = mm q) → (zdp (mem r) 5 + 1 - j) < (nf : Int) → zw_Wp l mm_X0_divide (zS L) 45 [some (zR o), some (zR r), some (zI p), some (zI (zdp (mem r) 5)), some (zI (zinv (mem r (zdp (mem r) 5)) p)), some (zI i), some (zI (((mm o i) * (zinv (mem r (zdp (mem r) 5)) p)) % p)), some (zI j), none] [] mn 0 0 Q := by
            intro nf
            induction nf with
            | zero =>
              intro j mn j0 j1 j2 j3 hmu
              exfalso; omega
            | succ nf ih45 =>
              intro j mn j0 j1 j2 j3 hmu
              have hrj : mn r j = mem r j := by rw [j3 r (fun q => hor q.symm), h3 r (fun q => hor q.symm)]
              refine wp_iload dd_X0_divide_45 rfl ?_
              refine wp_iload_n dd_X0_divide_47 rfl ?_
              refine wp_icmp_gt (tgt := 86) dd_X0_divide_48 (by decide) (fun c48_3 => ?_) (fun c48_3 => ?_)
              · skip
                refine wp_iincC (ls2 := [some (zR o), some (zR r), some (zI p), some (zI (zdp (mem r) 5)), some (zI (zinv (mem r (zdp (mem r) 5)) p)), some (zI (i + (-1))), some (zI (((mm o i) * (zinv (mem r (zdp (mem r) 5)) p)) % p)), some (zI j), none]) dd_X0_divide_86 rfl rfl (by decide) (by omega) rfl ?_
                refine wp_goto (tgt := 25) dd_X0_divide_89 (by decide) ?_
                refine wp_ls (zw_sub_of (a := [some (zR o), some (zR r), some (zI p), some (zI (zdp (mem r) 5)), some (zI (zinv (mem r (zdp (mem r) 5)) p)), some (zI (i + (-1))), none, none, none]) (And.intro rfl (And.intro rfl (And.intro rfl (And.intro rfl (And.intro rfl (And.intro rfl (trivial)))))))) ?_
                refine ih25 (i + (-1)) mn ?_ ?_ ?_ ?_ ?_ ?_
                · first | omega | assumption | (intros; omega)
                · first | omega | assumption | (intros; omega)
                · intro q hq; rw [j3 q hq]; exact h3 q hq
                · intro x q1 q2; rw [j2 x q1 q2]; split; exact zm_rg (by omega); exact h4 x q1 q2
                · intro x q1 q2
                  rw [← h2 x q1 q2, show (i - zdp (mem r) 5 + 1).toNat = (i + -1 - zdp (mem r) 5 + 1).toNat + 1 by omega, zqr, show zdp (mem r) 5 + (((i + -1 - zdp (mem r) 5 + 1).toNat : Nat) : Int) = i by omega]
                  refine zqr_cg ⟨hd0, by omega⟩ (fun _ _ _ => rfl) _ _ _ (by omega) (fun y q3 q4 => ?_) x q1 q2
                  unfold zqs
                  unfold z5
                  by_cases hy : 0 ≤ y ∧ y < 5
                  · rw [if_pos hy, if_pos (show 0 ≤ i ∧ i < 5 by omega), j2 y hy.1 hy.2]
                    by_cases hx : i - zdp (mem r) 5 ≤ y ∧ y ≤ i
                    · rw [if_pos hx, if_pos (by omega), if_pos hy]
                    · rw [if_neg hx, if_neg (by omega), if_pos hy]
                  · rw [if_neg hy, if_neg (show ¬ (i - zdp (mem r) 5 ≤ y ∧ y ≤ i) by omega), if_neg hy]
                · omega
              · skip
                have hgj := hg j (by omega) (by omega)
                rw [← hrj] at hgj
                have hmu2 := zmul_rg (a := mm o i * zinv (mem r (zdp (mem r) 5)) p % p) (b := mn r j) (A := 31) (B := 31) (by omega) (by omega) (by omega) (by omega)
                have hnl : mn o (i - zdp (mem r) 5 + j) = mm o (i - zdp (mem r) 5 + j) := by rw [j2 _ (by omega) (by omega), if_neg (by omega)]
                have hnr := h4 (i - zdp (mem r) 5 + j) (by omega) (by omega)
                refine wp_iload dd_X0_divide_51 rfl ?_
                refine wp_iload_n dd_X0_divide_53 rfl ?_
                refine wp_isubC dd_X0_divide_54 (by omega) ?_
                refine wp_iload dd_X0_divide_55 rfl ?_
                refine wp_iaddC dd_X0_divide_57 (by omega) ?_
                refine wp_istore (ls2 := [some (zR o), some (zR r), some (zI p), some (zI (zdp (mem r) 5)), some (zI (zinv (mem r (zdp (mem r) 5)) p)), some (zI i), some (zI (((mm o i) * (zinv (mem r (zdp (mem r) 5)) p)) % p)), some (zI j), some (zI ((i - (zdp (mem r) 5)) + j))]) dd_X0_divide_58 rfl (by decide) rfl ?_
                refine wp_aload_n dd_X0_divide_60 rfl ?_
                refine wp_iload dd_X0_divide_61 rfl ?_
                refine wp_aload_n dd_X0_divide_63 rfl ?_
                refine wp_iload dd_X0_divide_64 rfl ?_
                refine wp_iald dd_X0_divide_66 hk1 hi1 (by omega) (by omega) ?_
                refine wp_iload dd_X0_divide_67 rfl ?_
                refine wp_aload_n dd_X0_divide_69 rfl ?_
                refine wp_iload dd_X0_divide_70 rfl ?_
                refine wp_iald dd_X0_divide_72 hk2 hi2 (by omega) (by omega) ?_
                refine wp_imulC dd_X0_divide_73 (by omega) ?_
                refine wp_isubC dd_X0_divide_74 (by omega) ?_
                refine wp_iload_n dd_X0_divide_75 rfl ?_
                refine wp_callS (M' := mm_J9_floorMod_7cf53) (As := [zI ((mn o ((i - (zdp (mem r) 5)) + j)) - ((((mm o i) * (zinv (mem r (zdp (mem r) 5)) p)) % p) * (mn r j))), zI p]) (rest := [zI ((i - (zdp (mem r) 5)) + j), zR o]) dd_X0_divide_76 lk_X0_43 mS_J9_floorMod_7cf53 rfl (by decide) (by decide) (Nat.le_of_ble_eq_true rfl) rfl (sp_J9_floorMod_7cf53  ((mn o ((i - (zdp (mem r) 5)) + j)) - ((((mm o i) * (zinv (mem r (zdp (mem r) 5)) p)) % p) * (mn r j))) p (by first | assumption | omega) ?_)
                show zw_Wp l mm_X0_divide (zS L) 79 [some (zR o), some (zR r), some (zI p), some (zI (zdp (mem r) 5)), some (zI (zinv (mem r (zdp (mem r) 5)) p)), some (zI i), some (zI (((mm o i) * (zinv (mem r (zdp (mem r) 5)) p)) % p)), some (zI j), some (zI ((i - (zdp (mem r) 5)) + j))] [zI (((mn o ((i - (zdp (mem r) 5)) + j)) - ((((mm o i) * (zinv (mem r (zdp (mem r) 5)) p)) % p) * (mn r j))) % p), zI ((i - (zdp (mem r) 5)) + j), zR o] mn 0 0 Q
                refine wp_iast dd_X0_divide_79 hk1 hi1 (by omega) (by omega) ?_
                refine wp_iincC (ls2 := [some (zR o), some (zR r), some (zI p), some (zI (zdp (mem r) 5)), some (zI (zinv (mem r (zdp (mem r) 5)) p)), some (zI i), some (zI (((mm o i) * (zinv (mem r (zdp (mem r) 5)) p)) % p)), some (zI (j + 1)), some (zI ((i - (zdp (mem r) 5)) + j))]) dd_X0_divide_80 rfl rfl (by decide) (by omega) rfl ?_
                refine wp_goto (tgt := 45) dd_X0_divide_83 (by decide) ?_
                refine wp_ls (zw_sub_of (a := [some (zR o), some (zR r), some (zI p), some (zI (zdp (mem r) 5)), some (zI (zinv (mem r (zdp (mem r) 5)) p)), some (zI i), some (zI (((mm o i) * (zinv (mem r (zdp (mem r) 5)) p)) % p)), some (zI (j + 1)), none]) (And.intro rfl (And.intro rfl (And.intro rfl (And.intro rfl (And.intro rfl (And.intro rfl (And.intro rfl (And.intro rfl (trivial)))))))))) ?_
                refine ih45 (j + 1) (zu mn o ((i - (zdp (mem r) 5)) + j) (((mn o ((i - (zdp (mem r) 5)) + j)) - ((((mm o i) * (zinv (mem r (zdp (mem r) 5)) p)) % p) * (mn r j))) % p)) ?_ ?_ ?_ ?_ ?_
                · first | omega | assumption | (intros; omega)
                · first | omega | assumption | (intros; omega)
                · intro x q1 q2
                  by_cases hx : x = i - zdp (mem r) 5 + j
                  · subst hx; rw [zu_s, if_pos (by omega), j2 (i - zdp (mem r) 5 + j) q1 q2, if_neg (by omega), hrj, show i - zdp (mem r) 5 + j - (i - zdp (mem r) 5) = j by omega]
                  · rw [zu_n (Or.inr hx), j2 x q1 q2]
                    by_cases hl9 : i - zdp (mem r) 5 ≤ x ∧ x < i - zdp (mem r) 5 + j
                    · rw [if_pos hl9, if_pos (by omega)]
                    · rw [if_neg hl9, if_neg (by omega)]
                · intro q hq; rw [zu_row hq]; exact j3 q hq
                · omega
          refine lp45 ((zdp (mem r) 5 + 1 - 0 : Int)).toNat.succ 0 mm ?_ ?_ ?_ ?_ ?_
          · first | omega | assumption | (intros; omega)
          · first | omega | assumption | (intros; omega)
          · intro x q1 q2; rw [if_neg (by omega)]
          · intros; rfl
          · omega
    refine lp25 ((d1 + 10 : Int)).toNat.succ d1 mem ?_ ?_ ?_ ?_ ?_ ?_
    · first | omega | assumption | (intros; omega)
    · first | omega | assumption | (intros; omega)
    · intros; rfl
    · exact hf
    · intro x q1 q2
      unfold zrm
      have hz5r : ∀ x : Int, 0 ≤ x → x < 9 → 0 ≤ z5 (mem o) x ∧ z5 (mem o) x < p := fun x q1 q2 => by unfold z5; split; exact hf x q1 (by omega); omega
      have hid := zqr_id (g := mem r) (e := zdp (mem r) 5) (v := zinv (mem r (zdp (mem r) 5)) p) (p := p) ⟨hd0, by omega⟩ (d1 - zdp (mem r) 5 + 1).toNat (9 - zdp (mem r) 5 - (d1 - zdp (mem r) 5 + 1).toNat).toNat (z5 (mem o)) (by omega) (fun x q3 q4 => by
        unfold z5
        by_cases q5 : 0 ≤ x ∧ x < 5
        · rw [if_pos q5]
          rcases zdp_hi (f := mem o) (n := 5) (x := x) (by omega) (by omega) with z | z
          · exact z
          · omega
        · rw [if_neg q5]) hz5r x q1 q2
      rw [← hid]
      congr 1
      omega
    · omega
  · skip
    exfalso; omega

set_option maxRecDepth 100000 in
set_option maxHeartbeats 4000000 in
theorem sp_X0_note {l : Launch} {L : Nat} {mem : zMem} {Q : zQ}  (d : Int) (hn : 0 ≤ mem 53 2 ∧ mem 53 2 < 8) (k : ∀ (mem2 : zMem), ((d < 0 ∧ mem2 = mem) ∨ (0 ≤ d ∧ mem2 = zu (zu mem 56 (mem 53 2) d) 53 2 (mem 53 2 + 1))) → Q none (zS L) mem2) : zw_Ok l mm_X0_note [zR 53, zI d] (zS L) mem Q := by
  refine zw_okA (fun hA => ?_)
  have rg_d : -2147483648 ≤ d ∧ d < 2147483648 := hA.2.1
  refine zw_enter (by decide) (Nat.le_of_ble_eq_true rfl) rfl ?_
  show zw_Wp l mm_X0_note (zS L) 0 [some (zR 53), some (zI d)] [] mem 0 0 Q
  refine wp_iload_n dd_X0_note_0 rfl ?_
  refine wp_if_lt (tgt := 33) dd_X0_note_1 (by decide) (fun c1_1 => ?_) (fun c1_1 => ?_)
  · skip
    refine wp_return (st := []) dd_X0_note_33 rfl ?_
    exact k _ (Or.inl ⟨by omega, rfl⟩)
  · skip
    refine wp_aload_n dd_X0_note_4 rfl ?_
    refine wp_getZ 2 rfl dd_X0_note_5 gf_X0_21 rfl kk_53 (by decide) (zlt rfl) ?_
    refine wp_bipush dd_X0_note_8 (by decide) ?_
    refine wp_icmp_ge (tgt := 33) dd_X0_note_10 (by decide) (fun c10_2 => ?_) (fun c10_2 => ?_)
    · skip
      exfalso; omega
    · skip
      refine wp_aload_n dd_X0_note_13 rfl ?_
      refine wp_getR dd_X0_note_14 gf_X0_18 rfl kk_53 (by decide) (zlt rfl) rr_53_3 ?_
      refine wp_aload_n dd_X0_note_17 rfl ?_
      refine wp_getZ 2 rfl dd_X0_note_18 gf_X0_21 rfl kk_53 (by decide) (zlt rfl) ?_
      refine wp_iload_n dd_X0_note_21 rfl ?_
      refine wp_iast dd_X0_note_22 kk_56 (zlt rfl) (by omega) (by omega) ?_
      refine wp_aload_n dd_X0_note_23 rfl ?_
      refine wp_dup dd_X0_note_24 rfl ?_
      refine wp_getV 2 (v := mem 53 2) rfl (by rw [zu_row (by decide)]) dd_X0_note_25 gf_X0_21 rfl kk_53 (by decide) (zlt rfl) ?_
      refine wp_iconst dd_X0_note_28 (zr_lit rfl) ?_
      refine wp_iaddC dd_X0_note_29 (by omega) ?_
      refine wp_putzI 2 rfl dd_X0_note_30 pf_X0_21 rfl kk_53 (by decide) (zlt rfl) ?_
      refine wp_return (st := []) dd_X0_note_33 rfl ?_
      exact k _ (Or.inr ⟨by omega, rfl⟩)

set_option maxRecDepth 100000 in
set_option maxHeartbeats 4000000 in
theorem sp_X0_linkDegree {l : Launch} {L : Nat} {mem : zMem} {Q : zQ}  (i : Int) (hn : 0 ≤ mem 53 2 ∧ mem 53 2 ≤ 8) (k : Q (some (zI (if 0 ≤ i ∧ i < mem 53 2 then mem 56 i else -9))) (zS L) mem) : zw_Ok l mm_X0_linkDegree [zR 53, zI i] (zS L) mem Q := by
  refine zw_okA (fun hA => ?_)
  have rg_i : -2147483648 ≤ i ∧ i < 2147483648 := hA.2.1
  refine zw_enter (by decide) (Nat.le_of_ble_eq_true rfl) rfl ?_
  show zw_Wp l mm_X0_linkDegree (zS L) 0 [some (zR 53), some (zI i)] [] mem 0 0 Q
  refine wp_iload_n dd_X0_linkDegree_0 rfl ?_
  refine wp_if_lt (tgt := 21) dd_X0_linkDegree_1 (by decide) (fun c1_1 => ?_) (fun c1_1 => ?_)
  · skip
    refine wp_bipush dd_X0_linkDegree_21 (by decide) ?_
    refine wp_ireturn (st := []) dd_X0_linkDegree_23 rfl ?_
    refine zq_I ?_ ?_ k
    · first | rfl | omega | (rw [if_pos (by omega)]) | (rw [if_neg (by omega)])
    · rfl
  · skip
    refine wp_iload_n dd_X0_linkDegree_4 rfl ?_
    refine wp_aload_n dd_X0_linkDegree_5 rfl ?_
    refine wp_getZ 2 rfl dd_X0_linkDegree_6 gf_X0_21 rfl kk_53 (by decide) (zlt rfl) ?_
    refine wp_icmp_ge (tgt := 21) dd_X0_linkDegree_9 (by decide) (fun c9_2 => ?_) (fun c9_2 => ?_)
    · skip
      refine wp_bipush dd_X0_linkDegree_21 (by decide) ?_
      refine wp_ireturn (st := []) dd_X0_linkDegree_23 rfl ?_
      refine zq_I ?_ ?_ k
      · first | rfl | omega | (rw [if_pos (by omega)]) | (rw [if_neg (by omega)])
      · rfl
    · skip
      refine wp_aload_n dd_X0_linkDegree_12 rfl ?_
      refine wp_getR dd_X0_linkDegree_13 gf_X0_18 rfl kk_53 (by decide) (zlt rfl) rr_53_3 ?_
      refine wp_iload_n dd_X0_linkDegree_16 rfl ?_
      refine wp_iald dd_X0_linkDegree_17 kk_56 (zlt rfl) (by omega) (by omega) ?_
      refine wp_goto (tgt := 23) dd_X0_linkDegree_18 (by decide) ?_
      refine wp_ireturn (st := []) dd_X0_linkDegree_23 rfl ?_
      refine zq_I ?_ ?_ k
      · first | rfl | omega | (rw [if_pos (by omega)]) | (rw [if_neg (by omega)])
      · rfl

set_option maxRecDepth 100000 in
set_option maxHeartbeats 4000000 in
theorem sp_X0_lastDegree {l : Launch} {L : Nat} {mem : zMem} {Q : zQ}   (hn : 0 ≤ mem 53 2 ∧ mem 53 2 ≤ 8) (k : Q (some (zI (if 0 < mem 53 2 then mem 56 (mem 53 2 - 1) else -9))) (zS L) mem) : zw_Ok l mm_X0_lastDegree [zR 53] (zS L) mem Q := by
  refine zw_enter (by decide) (Nat.le_of_ble_eq_true rfl) rfl ?_
  show zw_Wp l mm_X0_lastDegree (zS L) 0 [some (zR 53)] [] mem 0 0 Q
  refine wp_aload_n dd_X0_lastDegree_0 rfl ?_
  refine wp_aload_n dd_X0_lastDegree_1 rfl ?_
  refine wp_getZ 2 rfl dd_X0_lastDegree_2 gf_X0_21 rfl kk_53 (by decide) (zlt rfl) ?_
  refine wp_iconst dd_X0_lastDegree_5 (zr_lit rfl) ?_
  refine wp_isubC dd_X0_lastDegree_6 (by omega) ?_
  refine wp_callV (M' := mm_X0_linkDegree) (As := [zI ((mem 53 2) - 1)]) (rest := []) dd_X0_lastDegree_7 lk_X0_48 mV_X0_linkDegree kk_53 (zlt rfl) ⟨_, _, rfl⟩ rfl (by decide) (by decide) (Nat.le_of_ble_eq_true rfl) rfl (sp_X0_linkDegree  ((mem 53 2) - 1) (by first | assumption | omega) ?_)
  show zw_Wp l mm_X0_lastDegree (zS L) 10 [some (zR 53)] [zI (if 0 ≤ ((mem 53 2) - 1) ∧ ((mem 53 2) - 1) < mem 53 2 then mem 56 ((mem 53 2) - 1) else -9)] mem 0 0 Q
  refine wp_ireturn (st := []) dd_X0_lastDegree_10 rfl ?_
  refine zq_I ?_ rfl k
  by_cases q : 0 < mem 53 2
  · rw [if_pos q, if_pos (by omega)]
  · rw [if_neg q, if_neg (by omega)]

set_option maxRecDepth 100000 in
set_option maxHeartbeats 4000000 in
theorem sp_X0_raise {l : Launch} {L : Nat} {mem : zMem} {Q : zQ}    (k : ∀ (mem2 : zMem), (∀ x : Int, 0 ≤ x → x < 5 → mem2 55 x = if x = 0 then 0 else mem 55 (x - 1)) → (∀ a : Nat, a ≠ 55 → mem2 a = mem a) → Q none (zS L) mem2) : zw_Ok l mm_X0_raise [zR 53] (zS L) mem Q := by
  refine zw_enter (by decide) (Nat.le_of_ble_eq_true rfl) rfl ?_
  show zw_Wp l mm_X0_raise (zS L) 0 [some (zR 53), none] [] mem 0 0 Q
  refine wp_iconst dd_X0_raise_0 (zr_lit rfl) ?_
  refine wp_istore_n (ls2 := [some (zR 53), some (zI 4)]) dd_X0_raise_1 rfl (by decide) rfl ?_
  have lp2 : ∀ (nf : Nat) (i : Int) (mm : zMem), (0 ≤ i) → (i ≤ 4) → (∀ x : Int, 0 ≤ x → x < 5 → mm 55 x = if i < x then mem 55 (x - 1) else mem 55 x) → (∀ a : Nat, a ≠ 55 → mm a = mem a) → (i) < (nf : Int) → zw_Wp l mm_X0_raise (zS L) 2 [some (zR 53), some (zI i)] [] mm 0 0 Q := by
    intro nf
    induction nf with
    | zero =>
      intro i mm i0 i1 h2 h3 hmu
      exfalso; omega
    | succ nf ih2 =>
      intro i mm i0 i1 h2 h3 hmu
      refine wp_iload_n dd_X0_raise_2 rfl ?_
      refine wp_if_le (tgt := 26) dd_X0_raise_3 (by decide) (fun c3_1 => ?_) (fun c3_1 => ?_)
      · skip
        refine wp_aload_n dd_X0_raise_26 rfl ?_
        refine wp_getR dd_X0_raise_27 gf_X0_15 rfl kk_53 (by decide) (zlt rfl) rr_53_1 ?_
        refine wp_iconst dd_X0_raise_30 (zr_lit rfl) ?_
        refine wp_iconst dd_X0_raise_31 (zr_lit rfl) ?_
        refine wp_iast dd_X0_raise_32 kk_55 (zlt rfl) (by omega) (by omega) ?_
        refine wp_return (st := []) dd_X0_raise_33 rfl ?_
        refine k _ (fun x q1 q2 => ?_) (fun a ha => by rw [zu_row ha]; exact h3 a ha)
        by_cases hx : x = 0
        · rw [hx, zu_s, if_pos rfl]
        · rw [zu_n (Or.inr hx), if_neg hx, h2 x q1 q2, if_pos (by omega)]
      · skip
        refine wp_aload_n dd_X0_raise_6 rfl ?_
        refine wp_getR dd_X0_raise_7 gf_X0_15 rfl kk_53 (by decide) (zlt rfl) rr_53_1 ?_
        refine wp_iload_n dd_X0_raise_10 rfl ?_
        refine wp_aload_n dd_X0_raise_11 rfl ?_
        refine wp_getR dd_X0_raise_12 gf_X0_15 rfl kk_53 (by decide) (zlt rfl) rr_53_1 ?_
        refine wp_iload_n dd_X0_raise_15 rfl ?_
        refine wp_iconst dd_X0_raise_16 (zr_lit rfl) ?_
        refine wp_isubC dd_X0_raise_17 (by omega) ?_
        refine wp_iald dd_X0_raise_18 kk_55 (zlt rfl) (by omega) (by omega) ?_
        refine wp_iast dd_X0_raise_19 kk_55 (zlt rfl) (by omega) (by omega) ?_
        refine wp_iincC (ls2 := [some (zR 53), some (zI (i + (-1)))]) dd_X0_raise_20 rfl rfl (by decide) (by omega) rfl ?_
        refine wp_goto (tgt := 2) dd_X0_raise_23 (by decide) ?_
        refine ih2 (i + (-1)) (zu mm 55 i (mm 55 (i - 1))) ?_ ?_ ?_ ?_ ?_
        · first | omega | assumption | (intros; omega)
        · first | omega | assumption | (intros; omega)
        · intro x q1 q2
          by_cases hx : x = i
          · subst hx; rw [zu_s, if_pos (by omega), h2 (x - 1) (by omega) (by omega), if_neg (by omega)]
          · rw [zu_n (Or.inr hx), h2 x q1 q2]
            by_cases hl9 : i < x
            · rw [if_pos hl9, if_pos (by omega)]
            · rw [if_neg hl9, if_neg (by omega)]
        · intro a ha; rw [zu_row ha]; exact h3 a ha
        · omega
  refine lp2 ((4 : Int)).toNat.succ 4 mem ?_ ?_ ?_ ?_ ?_
  · first | omega | assumption | (intros; omega)
  · first | omega | assumption | (intros; omega)
  · intro x q1 q2; rw [if_neg (by omega)]
  · intros; rfl
  · omega


/-! ===== the reference: division with remainder ===== -/
/-- the deepest power, or -1 -/
def zdp (f : Int → Int) : Nat → Int
  | 0 => -1
  | n + 1 => if f n ≠ 0 then n else zdp f n
/-- one step of a division: the power i goes -/
def zqs (g : Int → Int) (e v p i : Int) (f : Int → Int) : Int → Int := fun x => if i - e ≤ x ∧ x ≤ i then (f x - f i * v % p * g (x - (i - e))) % p else f x
def zqr (g : Int → Int) (e v p : Int) : Nat → (Int → Int) → Int → Int
  | 0, f => f
  | k + 1, f => zqr g e v p k (zqs g e v p (e + k) f)
theorem zqs_rg {g f : Int → Int} {e v p i : Int} (hp : 0 < p) (h : ∀ x : Int, 0 ≤ x → x < 9 → 0 ≤ f x ∧ f x < p) : ∀ x : Int, 0 ≤ x → x < 9 → 0 ≤ zqs g e v p i f x ∧ zqs g e v p i f x < p := by
  intro x q1 q2
  unfold zqs
  split
  · exact zm_rg hp
  · exact h x q1 q2
theorem zqr_rg {g : Int → Int} {e v p : Int} (hp : 0 < p) : ∀ (k : Nat) (f : Int → Int), (∀ x : Int, 0 ≤ x → x < 9 → 0 ≤ f x ∧ f x < p) → ∀ x : Int, 0 ≤ x → x < 9 → 0 ≤ zqr g e v p k f x ∧ zqr g e v p k f x < p
  | 0, _, h => h
  | k + 1, _, h => zqr_rg hp k _ (zqs_rg hp h)
theorem zdp_rg (f : Int → Int) : ∀ n : Nat, -1 ≤ zdp f n ∧ zdp f n < n
  | 0 => by unfold zdp; omega
  | n + 1 => by
    have := zdp_rg f n
    unfold zdp
    split <;> omega
theorem zdp_at {f : Int → Int} : ∀ {n : Nat}, 0 ≤ zdp f n → f (zdp f n) ≠ 0
  | 0, h => by unfold zdp at h; omega
  | n + 1, h => by
    unfold zdp at h ⊢
    split
    · assumption
    · rename_i q
      rw [if_neg q] at h
      exact zdp_at h

set_option maxRecDepth 100000 in
set_option maxHeartbeats 4000000 in
theorem sp_X11_deepOf {l : Launch} {L : Nat} {mem : zMem} {Q : zQ}  (o : Nat) (n : Int) (hk : (zS L).2.1 o = (0, 5)) (hi : o < (zS L).1) (hn : -1 ≤ n ∧ n ≤ 4) (k : Q (some (zI (zdp (mem o) (n + 1 : Int).toNat))) (zS L) mem) : zw_Ok l mm_X11_deepOf [zR o, zI n] (zS L) mem Q := by
  refine zw_okA (fun hA => ?_)
  have rg_n : -2147483648 ≤ n ∧ n < 2147483648 := hA.2.1
  refine zw_enter (by decide) (Nat.le_of_ble_eq_true rfl) rfl ?_
  show zw_Wp l mm_X11_deepOf (zS L) 0 [some (zR o), some (zI n), none] [] mem 0 0 Q
  refine wp_iload_n dd_X11_deepOf_0 rfl ?_
  refine wp_istore_n (ls2 := [some (zR o), some (zI n), some (zI n)]) dd_X11_deepOf_1 rfl (by decide) rfl ?_
  have lp2 : ∀ (nf : Nat) (i : Int), (-1 ≤ i) → (i ≤ n) → (zdp (mem o) (n + 1).toNat = zdp (mem o) (i + 1).toNat) → (i + 1) < (nf : Int) → zw_Wp l mm_X11_deepOf (zS L) 2 [some (zR o), some (zI n), some (zI i)] [] mem 0 0 Q := by
    intro nf
    induction nf with
    | zero =>
      intro i h0 h1 h2 hmu
      exfalso; omega
    | succ nf ih2 =>
      intro i h0 h1 h2 hmu
      refine wp_iload_n dd_X11_deepOf_2 rfl ?_
      refine wp_if_lt (tgt := 18) dd_X11_deepOf_3 (by decide) (fun c3_1 => ?_) (fun c3_1 => ?_)
      · skip
        refine wp_iload_n dd_X11_deepOf_18 rfl ?_
        refine wp_ireturn (st := []) dd_X11_deepOf_19 rfl ?_
        refine zq_I ?_ ?_ k
        · rw [h2]
          first
          | (rw [show (i + 1).toNat = 0 by omega, zdp]; omega)
          | (rw [show (i + 1).toNat = i.toNat + 1 by omega, zdp, show ((i.toNat : Nat) : Int) = i by omega, if_pos (by assumption)])
        · rfl
      · skip
        refine wp_aload_n dd_X11_deepOf_6 rfl ?_
        refine wp_iload_n dd_X11_deepOf_7 rfl ?_
        refine wp_iald dd_X11_deepOf_8 hk hi (by omega) (by omega) ?_
        refine wp_if_ne (tgt := 18) dd_X11_deepOf_9 (by decide) (fun c9_2 => ?_) (fun c9_2 => ?_)
        · skip
          refine wp_iload_n dd_X11_deepOf_18 rfl ?_
          refine wp_ireturn (st := []) dd_X11_deepOf_19 rfl ?_
          refine zq_I ?_ ?_ k
          · rw [h2]
            first
            | (rw [show (i + 1).toNat = 0 by omega, zdp]; omega)
            | (rw [show (i + 1).toNat = i.toNat + 1 by omega, zdp, show ((i.toNat : Nat) : Int) = i by omega, if_pos (by assumption)])
          · rfl
        · skip
          refine wp_iincC (ls2 := [some (zR o), some (zI n), some (zI (i + (-1)))]) dd_X11_deepOf_12 rfl rfl (by decide) (by omega) rfl ?_
          refine wp_goto (tgt := 2) dd_X11_deepOf_15 (by decide) ?_
          refine ih2 (i + (-1)) ?_ ?_ ?_ ?_
          · first | omega | assumption | (intros; omega)
          · first | omega | assumption | (intros; omega)
          · rw [h2, show (i + 1).toNat = (i + -1 + 1).toNat + 1 by omega, zdp, show (((i + -1 + 1).toNat : Nat) : Int) = i by omega, if_neg (by omega)]
          · omega
  refine lp2 ((n + 1 : Int)).toNat.succ n ?_ ?_ ?_ ?_
  · first | omega | assumption | (intros; omega)
  · first | omega | assumption | (intros; omega)
  · rfl
  · omega

set_option maxRecDepth 100000 in
set_option maxHeartbeats 4000000 in
theorem sp_X11_takesLeft {l : Launch} {L : Nat} {mem : zMem} {Q : zQ}  (o : Nat) (hk : (zS L).2.1 o = (0, 5)) (hi : o < (zS L).1) (ho : o ≠ 83) (k : ∀ (mem2 : zMem), (∀ x : Int, mem2 83 x = if 0 ≤ x ∧ x < 9 then (if x < 5 then mem o x else 0) else mem 83 x) → (∀ q : Nat, q ≠ 83 → mem2 q = mem q) → Q none (zS L) mem2) : zw_Ok l mm_X11_takesLeft [zR 67, zR o] (zS L) mem Q := by
  refine zw_enter (by decide) (Nat.le_of_ble_eq_true rfl) rfl ?_
  show zw_Wp l mm_X11_takesLeft (zS L) 0 [some (zR 67), some (zR o), none] [] mem 0 0 Q
  refine wp_iconst dd_X11_takesLeft_0 (zr_lit rfl) ?_
  refine wp_istore_n (ls2 := [some (zR 67), some (zR o), some (zI 0)]) dd_X11_takesLeft_1 rfl (by decide) rfl ?_
  have lp2 : ∀ (nf : Nat) (t : Int) (mm : zMem), (0 ≤ t) → (t ≤ 9) → (∀ x : Int, mm 83 x = if 0 ≤ x ∧ x < t then (if x < 5 then mem o x else 0) else mem 83 x) → (∀ q : Nat, q ≠ 83 → mm q = mem q) → (9 - t) < (nf : Int) → zw_Wp l mm_X11_takesLeft (zS L) 2 [some (zR 67), some (zR o), some (zI t)] [] mm 0 0 Q := by
    intro nf
    induction nf with
    | zero =>
      intro t mm h0 h1 h2 h3 hmu
      exfalso; omega
    | succ nf ih2 =>
      intro t mm h0 h1 h2 h3 hmu
      refine wp_iload_n dd_X11_takesLeft_2 rfl ?_
      refine wp_bipush dd_X11_takesLeft_3 (by decide) ?_
      refine wp_icmp_ge (tgt := 32) dd_X11_takesLeft_5 (by decide) (fun c5_1 => ?_) (fun c5_1 => ?_)
      · skip
        refine wp_return (st := []) dd_X11_takesLeft_32 rfl ?_
        exact k mm (fun x => by rw [h2 x, show t = 9 by omega]) h3
      · skip
        refine wp_aload_n dd_X11_takesLeft_8 rfl ?_
        refine wp_getR dd_X11_takesLeft_9 gf_X11_73 rfl kk_67 (by decide) (zlt rfl) rr_67_23 ?_
        refine wp_iload_n dd_X11_takesLeft_12 rfl ?_
        refine wp_iload_n dd_X11_takesLeft_13 rfl ?_
        refine wp_iconst dd_X11_takesLeft_14 (zr_lit rfl) ?_
        refine wp_icmp_ge (tgt := 24) dd_X11_takesLeft_15 (by decide) (fun c15_2 => ?_) (fun c15_2 => ?_)
        · skip
          refine wp_iconst dd_X11_takesLeft_24 (zr_lit rfl) ?_
          refine wp_iast dd_X11_takesLeft_25 kk_83 (zlt rfl) (by omega) (by omega) ?_
          refine wp_iincC (ls2 := [some (zR 67), some (zR o), some (zI (t + 1))]) dd_X11_takesLeft_26 rfl rfl (by decide) (by omega) rfl ?_
          refine wp_goto (tgt := 2) dd_X11_takesLeft_29 (by decide) ?_
          refine ih2 (t + 1) (zu mm 83 t 0) ?_ ?_ ?_ ?_ ?_
          · first | omega | assumption | (intros; omega)
          · first | omega | assumption | (intros; omega)
          · intro x
            by_cases hx : x = t
            · subst hx; rw [zu_s, if_pos (by omega)]
              first | (rw [if_pos (by omega), h3 o ho]) | (rw [if_neg (by omega)])
            · rw [zu_n (Or.inr hx), h2 x]
              by_cases hl : 0 ≤ x ∧ x < t
              · rw [if_pos hl, if_pos (show 0 ≤ x ∧ x < t + 1 by omega)]
              · rw [if_neg hl, if_neg (show ¬ (0 ≤ x ∧ x < t + 1) by omega)]
          · intro q hq; rw [zu_row hq]; exact h3 q hq
          · omega
        · skip
          refine wp_aload_n dd_X11_takesLeft_18 rfl ?_
          refine wp_iload_n dd_X11_takesLeft_19 rfl ?_
          refine wp_iald dd_X11_takesLeft_20 hk hi (by omega) (by omega) ?_
          refine wp_goto (tgt := 25) dd_X11_takesLeft_21 (by decide) ?_
          refine wp_iast dd_X11_takesLeft_25 kk_83 (zlt rfl) (by omega) (by omega) ?_
          refine wp_iincC (ls2 := [some (zR 67), some (zR o), some (zI (t + 1))]) dd_X11_takesLeft_26 rfl rfl (by decide) (by omega) rfl ?_
          refine wp_goto (tgt := 2) dd_X11_takesLeft_29 (by decide) ?_
          refine ih2 (t + 1) (zu mm 83 t (mm o t)) ?_ ?_ ?_ ?_ ?_
          · first | omega | assumption | (intros; omega)
          · first | omega | assumption | (intros; omega)
          · intro x
            by_cases hx : x = t
            · subst hx; rw [zu_s, if_pos (by omega)]
              first | (rw [if_pos (by omega), h3 o ho]) | (rw [if_neg (by omega)])
            · rw [zu_n (Or.inr hx), h2 x]
              by_cases hl : 0 ≤ x ∧ x < t
              · rw [if_pos hl, if_pos (show 0 ≤ x ∧ x < t + 1 by omega)]
              · rw [if_neg hl, if_neg (show ¬ (0 ≤ x ∧ x < t + 1) by omega)]
          · intro q hq; rw [zu_row hq]; exact h3 q hq
          · omega
  refine lp2 ((9 - 0 : Int)).toNat.succ 0 mem ?_ ?_ ?_ ?_ ?_
  · first | omega | assumption | (intros; omega)
  · first | omega | assumption | (intros; omega)
  · intro x; rw [if_neg (by omega)]
  · intros; rfl
  · omega

set_option maxRecDepth 100000 in
set_option maxHeartbeats 4000000 in
theorem sp_X11_divides {l : Launch} {L : Nat} {mem : zMem} {Q : zQ}  (o : Nat) (e : Int) (hp : zPr (mem 67 1)) (hk : (zS L).2.1 o = (0, 5)) (hi : o < (zS L).1) (ho : o ≠ 83) (he : 0 ≤ e ∧ e ≤ 4) (hg : ∀ x : Int, 0 ≤ x → x < 5 → 0 ≤ mem o x ∧ mem o x < mem 67 1) (hl : ∀ x : Int, 0 ≤ x → x < 9 → 0 ≤ mem 83 x ∧ mem 83 x < mem 67 1) (k : ∀ (mem2 : zMem), (mem2 83 = zqr (mem o) e (zinv (mem o e) (mem 67 1)) (mem 67 1) (9 - e).toNat (mem 83)) → (∀ q : Nat, q ≠ 83 → mem2 q = mem q) → Q none (zS L) mem2) : zw_Ok l mm_X11_divides [zR 67, zR o, zI e] (zS L) mem Q := by
  refine zw_okA (fun hA => ?_)
  have rg_e : -2147483648 ≤ e ∧ e < 2147483648 := hA.2.2.1
  refine zw_enter (by decide) (Nat.le_of_ble_eq_true rfl) rfl ?_
  show zw_Wp l mm_X11_divides (zS L) 0 [some (zR 67), some (zR o), some (zI e), none, none, none, none] [] mem 0 0 Q
  have hpr := hp.rg
  have hv : 0 ≤ zinv (mem o e) (mem 67 1) ∧ zinv (mem o e) (mem 67 1) < mem 67 1 := zm_rg (by omega)
  refine wp_aload_n dd_X11_divides_0 rfl ?_
  refine wp_aload_n dd_X11_divides_1 rfl ?_
  refine wp_iload_n dd_X11_divides_2 rfl ?_
  refine wp_iald dd_X11_divides_3 hk hi (by omega) (by omega) ?_
  refine wp_callV (M' := mm_X11_inverse) (As := [zI (mem o e)]) (rest := []) dd_X11_divides_4 lk_X11_240 mV_X11_inverse kk_67 (zlt rfl) ⟨_, _, rfl⟩ rfl (by decide) (by decide) (Nat.le_of_ble_eq_true rfl) rfl (sp_X11_inverse  (mem o e) (by first | assumption | omega) ?_)
  show zw_Wp l mm_X11_divides (zS L) 7 [some (zR 67), some (zR o), some (zI e), none, none, none, none] [zI (zinv (mem o e) (mem 67 1))] mem 0 0 Q
  refine wp_istore_n (ls2 := [some (zR 67), some (zR o), some (zI e), some (zI (zinv (mem o e) (mem 67 1))), none, none, none]) dd_X11_divides_7 rfl (by decide) rfl ?_
  refine wp_bipush dd_X11_divides_8 (by decide) ?_
  refine wp_istore (ls2 := [some (zR 67), some (zR o), some (zI e), some (zI (zinv (mem o e) (mem 67 1))), some (zI 8), none, none]) dd_X11_divides_10 rfl (by decide) rfl ?_
  have lp12 : ∀ (nf : Nat) (i : Int) (mm : zMem), (e - 1 ≤ i) → (i ≤ 8) → (zqr (mem o) e (zinv (mem o e) (mem 67 1)) (mem 67 1) (i - e + 1).toNat (mm 83) = zqr (mem o) e (zinv (mem o e) (mem 67 1)) (mem 67 1) (9 - e).toNat (mem 83)) → (∀ q : Nat, q ≠ 83 → mm q = mem q) → (∀ x : Int, 0 ≤ x → x < 9 → 0 ≤ mm 83 x ∧ mm 83 x < mem 67 1) → (i - e + 1) < (nf : Int) → zw_Wp l mm_X11_divides (zS L) 12 [some (zR 67), some (zR o), some (zI e), some (zI (zinv (mem o e) (mem 67 1))), some (zI i), none, none] [] mm 0 0 Q := by
    intro nf
    induction nf with
    | zero =>
      intro i mm h0 h1 h2 h3 h4 hmu
      exfalso; omega
    | succ nf ih12 =>
      intro i mm h0 h1 h2 h3 h4 hmu
      have hm1 : mm 67 1 = mem 67 1 := by rw [h3 67 (by decide)]
      refine wp_iload dd_X11_divides_12 rfl ?_
      refine wp_iload_n dd_X11_divides_14 rfl ?_
      refine wp_icmp_lt (tgt := 91) dd_X11_divides_15 (by decide) (fun c15_1 => ?_) (fun c15_1 => ?_)
      · skip
        refine wp_return (st := []) dd_X11_divides_91 rfl ?_
        refine k mm ?_ h3
        rw [← h2, show (i - e + 1).toNat = 0 by omega]; rfl
      · skip
        have hfi := h4 i (by omega) (by omega)
        have hmu1 := zmul_rg (a := mm 83 i) (b := zinv (mem o e) (mem 67 1)) (A := 31) (B := 31) (by omega) (by omega) (by omega) (by omega)
        have ht9 := zm_rg (a := mm 83 i * zinv (mem o e) (mem 67 1)) (p := mm 67 1) (by omega)
        refine wp_aload_n dd_X11_divides_18 rfl ?_
        refine wp_getR dd_X11_divides_19 gf_X11_73 rfl kk_67 (by decide) (zlt rfl) rr_67_23 ?_
        refine wp_iload dd_X11_divides_22 rfl ?_
        refine wp_iald dd_X11_divides_24 kk_83 (zlt rfl) (by omega) (by omega) ?_
        refine wp_iload_n dd_X11_divides_25 rfl ?_
        refine wp_imulC dd_X11_divides_26 (by omega) ?_
        refine wp_aload_n dd_X11_divides_27 rfl ?_
        refine wp_getZ 1 rfl dd_X11_divides_28 gf_X11_9 rfl kk_67 (by decide) (zlt rfl) ?_
        refine wp_iremP dd_X11_divides_31 (by omega) (by omega) ?_
        refine wp_istore (ls2 := [some (zR 67), some (zR o), some (zI e), some (zI (zinv (mem o e) (mem 67 1))), some (zI i), some (zI (((mm 83 i) * (zinv (mem o e) (mem 67 1))) % (mm 67 1))), none]) dd_X11_divides_32 rfl (by decide) rfl ?_
        refine wp_iconst dd_X11_divides_34 (zr_lit rfl) ?_
        refine wp_istore (ls2 := [some (zR 67), some (zR o), some (zI e), some (zI (zinv (mem o e) (mem 67 1))), some (zI i), some (zI (((mm 83 i) * (zinv (mem o e) (mem 67 1))) % (mm 67 1))), some (zI 0)]) dd_X11_divides_35 rfl (by decide) rfl ?_
        have lp37 : ∀ (nf : Nat) (j : Int) (mn : zMem), (0 ≤ j) → (j ≤ e + 1) → (∀ x : Int, mn 83 x = if i - e ≤ x ∧ x < i - e + j then (mm 83 x - mm 83 i * zinv (mem o e) (mem 67 1) % mem 67 1 * mem o (x - (i - e))) % mem 67 1 else mm 83 x) → (∀ q : Nat, q ≠ 83 → mn q = mm q) → (e + 1 - j) < (nf : Int) → zw_Wp l mm_X11_divides (zS L) 37 [some (zR 67), some (zR o), some (zI e), some (zI (zinv (mem o e) (mem 67 1))), some (zI i), some (zI (((mm 83 i) * (zinv (mem o e) (mem 67 1))) % (mm 67 1))), some (zI j)] [] mn 0 0 Q := by
          intro nf
          induction nf with
          | zero =>
            intro j mn j0 j1 j2 j3 hmu
            exfalso; omega
          | succ nf ih37 =>
            intro j mn j0 j1 j2 j3 hmu
            have hn1 : mn 67 1 = mem 67 1 := by rw [j3 67 (by decide), hm1]
            refine wp_iload dd_X11_divides_37 rfl ?_
            refine wp_iload_n dd_X11_divides_39 rfl ?_
            refine wp_icmp_gt (tgt := 85) dd_X11_divides_40 (by decide) (fun c40_2 => ?_) (fun c40_2 => ?_)
            · skip
              refine wp_iincC (ls2 := [some (zR 67), some (zR o), some (zI e), some (zI (zinv (mem o e) (mem 67 1))), some (zI (i + (-1))), some (zI (((mm 83 i) * (zinv (mem o e) (mem 67 1))) % (mm 67 1))), some (zI j)]) dd_X11_divides_85 rfl rfl (by decide) (by omega) rfl ?_
              refine wp_goto (tgt := 12) dd_X11_divides_88 (by decide) ?_
              refine wp_ls (zw_sub_of (a := [some (zR 67), some (zR o), some (zI e), some (zI (zinv (mem o e) (mem 67 1))), some (zI (i + (-1))), none, none]) (And.intro rfl (And.intro rfl (And.intro rfl (And.intro rfl (And.intro rfl (trivial))))))) ?_
              refine ih12 (i + (-1)) mn ?_ ?_ ?_ ?_ ?_ ?_
              · first | omega | assumption | (intros; omega)
              · first | omega | assumption | (intros; omega)
              · rw [← h2, show (i - e + 1).toNat = (i + -1 - e + 1).toNat + 1 by omega, zqr, show e + (((i + -1 - e + 1).toNat : Nat) : Int) = i by omega]
                congr 1
                funext x
                rw [j2 x]
                unfold zqs
                by_cases hx : i - e ≤ x ∧ x ≤ i
                · rw [if_pos hx, if_pos (by omega)]
                · rw [if_neg hx, if_neg (by omega)]
              · intro q hq; rw [j3 q hq]; exact h3 q hq
              · intro x q1 q2
                rw [j2 x]
                split
                · exact zm_rg (by omega)
                · exact h4 x q1 q2
              · omega
            · skip
              have hoj : mn o j = mem o j := by rw [j3 o ho, h3 o ho]
              have hgj := hg j (by omega) (by omega)
              have hmu2 := zmul_rg (a := mm 83 i * zinv (mem o e) (mem 67 1) % mm 67 1) (b := mn o j) (A := 31) (B := 31) (by omega) (by omega) (by omega) (by omega)
              have hnl : mn 83 (i - e + j) = mm 83 (i - e + j) := by rw [j2, if_neg (by omega)]
              have hnr := h4 (i - e + j) (by omega) (by omega)
              refine wp_aload_n dd_X11_divides_43 rfl ?_
              refine wp_getR dd_X11_divides_44 gf_X11_73 rfl kk_67 (by decide) (zlt rfl) rr_67_23 ?_
              refine wp_iload dd_X11_divides_47 rfl ?_
              refine wp_iload_n dd_X11_divides_49 rfl ?_
              refine wp_isubC dd_X11_divides_50 (by omega) ?_
              refine wp_iload dd_X11_divides_51 rfl ?_
              refine wp_iaddC dd_X11_divides_53 (by omega) ?_
              refine wp_aload_n dd_X11_divides_54 rfl ?_
              refine wp_aload_n dd_X11_divides_55 rfl ?_
              refine wp_getR dd_X11_divides_56 gf_X11_73 rfl kk_67 (by decide) (zlt rfl) rr_67_23 ?_
              refine wp_iload dd_X11_divides_59 rfl ?_
              refine wp_iload_n dd_X11_divides_61 rfl ?_
              refine wp_isubC dd_X11_divides_62 (by omega) ?_
              refine wp_iload dd_X11_divides_63 rfl ?_
              refine wp_iaddC dd_X11_divides_65 (by omega) ?_
              refine wp_iald dd_X11_divides_66 kk_83 (zlt rfl) (by omega) (by omega) ?_
              refine wp_iload dd_X11_divides_67 rfl ?_
              refine wp_aload_n dd_X11_divides_69 rfl ?_
              refine wp_iload dd_X11_divides_70 rfl ?_
              refine wp_iald dd_X11_divides_72 hk hi (by omega) (by omega) ?_
              refine wp_imulC dd_X11_divides_73 (by omega) ?_
              refine wp_isubC dd_X11_divides_74 (by omega) ?_
              refine wp_callV (M' := mm_X11_rest) (As := [zI ((mn 83 ((i - e) + j)) - ((((mm 83 i) * (zinv (mem o e) (mem 67 1))) % (mm 67 1)) * (mn o j)))]) (rest := [zI ((i - e) + j), zR 83]) dd_X11_divides_75 lk_X11_13 mV_X11_rest kk_67 (zlt rfl) ⟨_, _, rfl⟩ rfl (by decide) (by decide) (Nat.le_of_ble_eq_true rfl) rfl (sp_X11_rest  ((mn 83 ((i - e) + j)) - ((((mm 83 i) * (zinv (mem o e) (mem 67 1))) % (mm 67 1)) * (mn o j))) (by rw [hn1]; exact hp) ?_)
              show zw_Wp l mm_X11_divides (zS L) 78 [some (zR 67), some (zR o), some (zI e), some (zI (zinv (mem o e) (mem 67 1))), some (zI i), some (zI (((mm 83 i) * (zinv (mem o e) (mem 67 1))) % (mm 67 1))), some (zI j)] [zI (((mn 83 ((i - e) + j)) - ((((mm 83 i) * (zinv (mem o e) (mem 67 1))) % (mm 67 1)) * (mn o j))) % mn 67 1), zI ((i - e) + j), zR 83] mn 0 0 Q
              refine wp_iast dd_X11_divides_78 kk_83 (zlt rfl) (by omega) (by omega) ?_
              refine wp_iincC (ls2 := [some (zR 67), some (zR o), some (zI e), some (zI (zinv (mem o e) (mem 67 1))), some (zI i), some (zI (((mm 83 i) * (zinv (mem o e) (mem 67 1))) % (mm 67 1))), some (zI (j + 1))]) dd_X11_divides_79 rfl rfl (by decide) (by omega) rfl ?_
              refine wp_goto (tgt := 37) dd_X11_divides_82 (by decide) ?_
              refine ih37 (j + 1) (zu mn 83 ((i - e) + j) (((mn 83 ((i - e) + j)) - ((((mm 83 i) * (zinv (mem o e) (mem 67 1))) % (mm 67 1)) * (mn o j))) % mn 67 1)) ?_ ?_ ?_ ?_ ?_
              · first | omega | assumption | (intros; omega)
              · first | omega | assumption | (intros; omega)
              · intro x
                by_cases hx : x = i - e + j
                · subst hx; rw [zu_s, if_pos (by omega), hn1, hm1, j2 (i - e + j), if_neg (by omega), j3 o ho, h3 o ho, show i - e + j - (i - e) = j by omega]
                · rw [zu_n (Or.inr hx), j2 x]
                  by_cases hl9 : i - e ≤ x ∧ x < i - e + j
                  · rw [if_pos hl9, if_pos (by omega)]
                  · rw [if_neg hl9, if_neg (by omega)]
              · intro q hq; rw [zu_row hq]; exact j3 q hq
              · omega
        refine lp37 ((e + 1 - 0 : Int)).toNat.succ 0 mm ?_ ?_ ?_ ?_ ?_
        · first | omega | assumption | (intros; omega)
        · first | omega | assumption | (intros; omega)
        · intro x; rw [if_neg (by omega)]
        · intros; rfl
        · omega
  refine lp12 ((8 - e + 1 : Int)).toNat.succ 8 mem ?_ ?_ ?_ ?_ ?_ ?_
  · first | omega | assumption | (intros; omega)
  · first | omega | assumption | (intros; omega)
  · rw [show (8 - e + 1 : Int) = 9 - e by omega]
  · intros; rfl
  · exact hl
  · omega


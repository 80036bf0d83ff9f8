/-! ===== the class: chains, multiples, tables filled ===== -/
def zlw (m : zMem) : Int := if 0 < m 53 2 then m 56 (m 53 2 - 1) else -9
theorem zlw_s {m : zMem} {n v : Int} (h : 0 ≤ n) : zlw (zu (zu m 56 n v) 53 2 (n + 1)) = v := by
  unfold zlw
  rw [zu_s, if_pos (by omega), zu_row (by decide), show n + 1 - 1 = n by omega, zu_s]
theorem zlw_kp {m m2 : zMem} (h1 : m2 53 2 = m 53 2) (h2 : m2 56 = m 56) : zlw m2 = zlw m := by
  unfold zlw
  rw [h1, h2]
theorem zrm_0 {p : Int} {g f : Int → Int} (hp : zPr p) (hg : ∀ x : Int, 0 ≤ x → x < 5 → 0 ≤ g x ∧ g x < p) (h0 : 0 ≤ zdp g 5) : ∀ x : Int, zdp g 5 ≤ x → x < 9 → zrm p g f x = 0 := by
  intro x q1 q2
  have h1 := zdp_rg g 5
  have h3 := zdp_at h0
  have h4 := hg _ h0 (by omega)
  exact zqr_0 h0 (zinv_ok hp (by omega) h4.2).1 _ _ (fun x q1 q2 => by omega) _ q1 q2
/-- what the reference shifts is what the class raises -/
theorem zmx_st {p : Int} {f g h h2 : Int → Int} {r : Nat} (hp : zPr p) (hf : ∀ x : Int, 0 ≤ x → x < 5 → 0 ≤ f x ∧ f x < p) (h0 : 0 ≤ zdp f 5) (hx : ∀ x : Int, 0 ≤ x → x < 9 → zmx p f g r x = z5 h x) (h9 : ∀ x : Int, 0 ≤ x → x < 5 → h2 x = if x = 0 then 0 else zrm p f h (x - 1)) : (∀ x : Int, 0 ≤ x → x < 9 → zmr p f (zmx p f g r) x = zrm p f h x) ∧ ∀ x : Int, 0 ≤ x → x < 9 → zmx p f g (r + 1) x = z5 h2 x := by
  have h1 := zdp_rg f 5
  have key : ∀ x : Int, 0 ≤ x → x < 9 → zmr p f (zmx p f g r) x = zrm p f h x := by
    intro x q1 q2
    exact zqr_cg ⟨h0, by omega⟩ (fun _ _ _ => rfl) _ _ _ (by omega) hx x q1 q2
  refine ⟨key, fun x q1 q2 => ?_⟩
  show zshf (zmr p f (zmx p f g r)) x = z5 h2 x
  unfold zshf z5
  by_cases e0 : x = 0
  · rw [if_neg (by omega), if_pos (by omega), h9 x q1 (by omega), if_pos e0]
  · rw [if_pos (by omega), key (x - 1) (by omega) (by omega)]
    by_cases e5 : x < 5
    · rw [if_pos (by omega), h9 x q1 e5, if_neg e0]
    · rw [if_neg (by omega)]
      exact zrm_0 hp hf h0 (x - 1) (by omega) (by omega)

set_option maxRecDepth 100000 in
set_option maxHeartbeats 4000000 in
theorem sp_X0_divideOn {l : Launch} {L : Nat} {mem : zMem} {Q : zQ}  (p : Int) (hp : zPr p) (hf : ∀ x : Int, 0 ≤ x → x < 5 → 0 ≤ mem 54 x ∧ mem 54 x < p) (hg : ∀ x : Int, 0 ≤ x → x < 5 → 0 ≤ mem 55 x ∧ mem 55 x < p) (k : ∀ (mem2 : zMem), (0 ≤ mem2 53 2 ∧ mem2 53 2 ≤ 8) → (∀ k9 : Int, -2 ≤ k9 → zrs0 p k9 (mem 54) (mem 55) = if k9 = -1 then mem2 53 2 else if k9 = -2 then zlw mem2 else if k9 < mem2 53 2 then mem2 56 k9 else -9) → (∀ a : Nat, a ≠ 53 → a ≠ 54 → a ≠ 55 → a ≠ 56 → mem2 a = mem a) → Q none (zS L) mem2) : zw_Ok l mm_X0_divideOn [zR 53, zI p] (zS L) mem Q := by
  refine zw_okA (fun hA => ?_)
  have rg_p : -2147483648 ≤ p ∧ p < 2147483648 := hA.2.1
  refine zw_enter (by decide) (Nat.le_of_ble_eq_true rfl) rfl ?_
  show zw_Wp l mm_X0_divideOn (zS L) 0 [some (zR 53), some (zI p), none, none, none, none] [] mem 0 0 Q
  have hpr := hp.rg
  have g54 := zdp_rg (mem 54) 5
  have g55 := zdp_rg (mem 55) 5
  refine wp_aload_n dd_X0_divideOn_0 rfl ?_
  refine wp_iconst dd_X0_divideOn_1 (zr_lit rfl) ?_
  refine wp_putzI 2 rfl dd_X0_divideOn_2 pf_X0_21 rfl kk_53 (by decide) (zlt rfl) ?_
  refine wp_aload_n dd_X0_divideOn_5 rfl ?_
  refine wp_getR dd_X0_divideOn_6 gf_X0_9 rfl kk_53 (by decide) (zlt rfl) rr_53_0 ?_
  refine wp_astore_n (ls2 := [some (zR 53), some (zI p), some (zR 54), none, none, none]) dd_X0_divideOn_9 rfl (by decide) rfl ?_
  refine wp_aload_n dd_X0_divideOn_10 rfl ?_
  refine wp_getR dd_X0_divideOn_11 gf_X0_15 rfl kk_53 (by decide) (zlt rfl) rr_53_1 ?_
  refine wp_astore_n (ls2 := [some (zR 53), some (zI p), some (zR 54), some (zR 55), none, none]) dd_X0_divideOn_14 rfl (by decide) rfl ?_
  refine wp_aload_n dd_X0_divideOn_15 rfl ?_
  refine wp_aload_n dd_X0_divideOn_16 rfl ?_
  refine wp_callS (M' := mm_X2_degreeOf) (As := [zR 54]) (rest := [zR 53]) dd_X0_divideOn_17 lk_X0_25 mS_X2_degreeOf rfl (by decide) (by decide) (Nat.le_of_ble_eq_true rfl) rfl (sp_X2_degreeOf  54 kk_54 (zlt rfl) (by decide) (fun d1 hd1 => ?_))
  show zw_Wp l mm_X0_divideOn (zS L) 20 [some (zR 53), some (zI p), some (zR 54), some (zR 55), none, none] [zI d1, zR 53] (zu mem 53 2 0) 0 0 Q
  rw [zu_row (by decide)] at hd1
  have e1 := zdp_un hd1
  have c1 := zd9_c (mem 54)
  refine wp_callV (M' := mm_X0_note) (As := [zI d1]) (rest := []) dd_X0_divideOn_20 lk_X0_31 mV_X0_note kk_53 (zlt rfl) ⟨_, _, rfl⟩ rfl (by decide) (by decide) (Nat.le_of_ble_eq_true rfl) rfl (sp_X0_note  d1 (by rw [zu_s]; decide) (fun me fe => ?_))
  show zw_Wp l mm_X0_divideOn (zS L) 23 [some (zR 53), some (zI p), some (zR 54), some (zR 55), none, none] [] me 0 0 Q
  rw [zu_s] at fe
  have s0 : (me 54 = mem 54 ∧ me 55 = mem 55) ∧ (∀ a : Nat, a ≠ 53 → a ≠ 56 → me a = mem a) := by
    rcases fe with ⟨-, h⟩ | ⟨-, h⟩
    · rw [h]; exact ⟨⟨zu_row (by decide), zu_row (by decide)⟩, fun a q1 q2 => zu_row q1⟩
    · rw [h]; exact ⟨⟨by rw [zu_row (by decide), zu_row (by decide), zu_row (by decide)], by rw [zu_row (by decide), zu_row (by decide), zu_row (by decide)]⟩, fun a q1 q2 => by rw [zu_row q1, zu_row q2, zu_row q1]⟩
  have s1 : (d1 < 0 ∧ me 53 2 = 0 ∧ zlw me = -9) ∨ (0 ≤ d1 ∧ me 53 2 = 1 ∧ me 56 0 = d1 ∧ zlw me = d1) := by
    rcases fe with ⟨h1, h⟩ | ⟨h1, h⟩
    · refine Or.inl ⟨h1, by rw [h, zu_s], ?_⟩
      unfold zlw; rw [h, zu_s, if_neg (by decide)]
    · refine Or.inr ⟨h1, by rw [h, zu_s]; rfl, by rw [h, zu_row (by decide), zu_s], ?_⟩
      rw [h]; exact zlw_s (by decide)
  refine wp_iconst dd_X0_divideOn_23 (zr_lit rfl) ?_
  refine wp_istore (ls2 := [some (zR 53), some (zI p), some (zR 54), some (zR 55), some (zI 0), none]) dd_X0_divideOn_24 rfl (by decide) rfl ?_
  have lp26 : ∀ (nf : Nat) (o : Nat) (r : Nat) (i : Int) (mm : zMem), ((o = 54 ∧ r = 55) ∨ (o = 55 ∧ r = 54)) → (0 ≤ i ∧ i ≤ 8 ∧ zdp (mm r) 5 + i ≤ 4) → (0 ≤ mm 53 2 ∧ mm 53 2 ≤ i + 1) → (∀ x : Int, 0 ≤ x → x < 5 → 0 ≤ mm o x ∧ mm o x < p) → (∀ x : Int, 0 ≤ x → x < 5 → 0 ≤ mm r x ∧ mm r x < p) → (∀ k9 : Int, -2 ≤ k9 → (0 ≤ k9 ∧ k9 < mm 53 2 ∧ zrs0 p k9 (mem 54) (mem 55) = mm 56 k9) ∨ ((k9 < 0 ∨ mm 53 2 ≤ k9) ∧ zrs0 p k9 (mem 54) (mem 55) = zrs p k9 (6 - i).toNat (mm 53 2) (zlw mm) (mm o) (mm r))) → (∀ a : Nat, a ≠ 53 → a ≠ 54 → a ≠ 55 → a ≠ 56 → mm a = mem a) → (8 - i) < (nf : Int) → zw_Wp l mm_X0_divideOn (zS L) 26 [some (zR 53), some (zI p), some (zR o), some (zR r), some (zI i), none] [] mm 0 0 Q := by
    intro nf
    induction nf with
    | zero =>
      intro o r i mm ho i0 n0 r1 r2 hC fr hmu
      exfalso; omega
    | succ nf ih26 =>
      intro o r i mm ho i0 n0 r1 r2 hC fr hmu
      have hko : (zS L).2.1 o = (0, 5) := by rcases ho with ⟨h, -⟩ | ⟨h, -⟩ <;> rw [h] <;> rfl
      have hkr : (zS L).2.1 r = (0, 5) := by rcases ho with ⟨-, h⟩ | ⟨-, h⟩ <;> rw [h] <;> rfl
      have hio : o < (zS L).1 := by show o < 89; omega
      have hir : r < (zS L).1 := by show r < 89; omega
      have gm := zdp_rg (mm r) 5
      refine wp_iload dd_X0_divideOn_26 rfl ?_
      refine wp_bipush dd_X0_divideOn_28 (by decide) ?_
      refine wp_icmp_ge (tgt := 68) dd_X0_divideOn_30 (by decide) (fun c30_1 => ?_) (fun c30_1 => ?_)
      · skip
        refine wp_return (st := []) dd_X0_divideOn_68 rfl ?_
        refine k mm (by omega) (fun k9 hk9 => ?_) fr
        rcases hC k9 hk9 with ⟨z1, z2, z3⟩ | ⟨z1, z2⟩
        · rw [z3, if_neg (by omega), if_neg (by omega), if_pos z2]
        · rw [z2, show (6 - i).toNat = (5 - i).toNat + 1 by omega, zrs, if_pos (by omega)]
          by_cases q1 : k9 = -1
          · rw [if_pos q1, if_pos q1]
          · rw [if_neg q1, if_neg q1]
            by_cases q2 : k9 = -2
            · rw [if_pos q2, if_pos q2]
            · rw [if_neg q2, if_neg q2, if_neg (by omega)]
      · skip
        refine wp_aload_n dd_X0_divideOn_33 rfl ?_
        refine wp_callS (M' := mm_X2_degreeOf) (As := [zR r]) (rest := []) dd_X0_divideOn_34 lk_X0_25 mS_X2_degreeOf rfl (by decide) (by decide) (Nat.le_of_ble_eq_true rfl) rfl (sp_X2_degreeOf  r hkr hir (by decide) (fun d2 hd2 => ?_))
        show zw_Wp l mm_X0_divideOn (zS L) 37 [some (zR 53), some (zI p), some (zR o), some (zR r), some (zI i), none] [zI d2] mm 0 0 Q
        have e2 := zdp_un hd2
        have c2 := zd9_c (mm r)
        refine wp_if_lt (tgt := 68) dd_X0_divideOn_37 (by decide) (fun c37_2 => ?_) (fun c37_2 => ?_)
        · skip
          refine wp_return (st := []) dd_X0_divideOn_68 rfl ?_
          refine k mm (by omega) (fun k9 hk9 => ?_) fr
          rcases hC k9 hk9 with ⟨z1, z2, z3⟩ | ⟨z1, z2⟩
          · rw [z3, if_neg (by omega), if_neg (by omega), if_pos z2]
          · rw [z2, show (6 - i).toNat = (5 - i).toNat + 1 by omega, zrs, if_pos (by omega)]
            by_cases q1 : k9 = -1
            · rw [if_pos q1, if_pos q1]
            · rw [if_neg q1, if_neg q1]
              by_cases q2 : k9 = -2
              · rw [if_pos q2, if_pos q2]
              · rw [if_neg q2, if_neg q2, if_neg (by omega)]
        · skip
          refine wp_aload_n dd_X0_divideOn_40 rfl ?_
          refine wp_aload_n dd_X0_divideOn_41 rfl ?_
          refine wp_callS (M' := mm_X2_degreeOf) (As := [zR r]) (rest := [zR 53]) dd_X0_divideOn_42 lk_X0_25 mS_X2_degreeOf rfl (by decide) (by decide) (Nat.le_of_ble_eq_true rfl) rfl (sp_X2_degreeOf  r hkr hir (by decide) (fun d3 hd3 => ?_))
          show zw_Wp l mm_X0_divideOn (zS L) 45 [some (zR 53), some (zI p), some (zR o), some (zR r), some (zI i), none] [zI d3, zR 53] mm 0 0 Q
          have e3 := zdp_un hd3
          refine wp_callV (M' := mm_X0_note) (As := [zI d3]) (rest := []) dd_X0_divideOn_45 lk_X0_31 mV_X0_note kk_53 (zlt rfl) ⟨_, _, rfl⟩ rfl (by decide) (by decide) (Nat.le_of_ble_eq_true rfl) rfl (sp_X0_note  d3 (by omega) (fun me9 fe9 => ?_))
          show zw_Wp l mm_X0_divideOn (zS L) 48 [some (zR 53), some (zI p), some (zR o), some (zR r), some (zI i), none] [] me9 0 0 Q
          have hme : me9 = zu (zu mm 56 (mm 53 2) d3) 53 2 (mm 53 2 + 1) := by
            rcases fe9 with ⟨h1, -⟩ | ⟨-, h⟩
            · omega
            · exact h
          have meo : me9 o = mm o := by rw [hme, zu_row (by omega), zu_row (by omega)]
          have mer : me9 r = mm r := by rw [hme, zu_row (by omega), zu_row (by omega)]
          have hlt := zrm_lt (f := mm o) hp r2 (by omega)
          have hlr := zdp_rg (zrm p (mm r) (mm o)) 5
          refine wp_aload_n dd_X0_divideOn_48 rfl ?_
          refine wp_aload_n dd_X0_divideOn_49 rfl ?_
          refine wp_iload_n dd_X0_divideOn_50 rfl ?_
          refine wp_callS (M' := mm_X0_divide) (As := [zR o, zR r, zI p]) (rest := []) dd_X0_divideOn_51 lk_X0_35 mS_X0_divide rfl (by decide) (by decide) (Nat.le_of_ble_eq_true rfl) rfl (sp_X0_divide  o r p hko hio hkr hir (by omega) hp (by rw [meo]; exact r1) (by rw [mer]; exact r2) (by rw [mer]; omega) (fun mf fd gd => ?_))
          show zw_Wp l mm_X0_divideOn (zS L) 54 [some (zR 53), some (zI p), some (zR o), some (zR r), some (zI i), none] [] mf 0 0 Q
          rw [meo, mer] at fd
          refine wp_aload_n dd_X0_divideOn_54 rfl ?_
          refine wp_astore (ls2 := [some (zR 53), some (zI p), some (zR o), some (zR r), some (zI i), some (zR o)]) dd_X0_divideOn_55 rfl (by decide) rfl ?_
          refine wp_aload_n dd_X0_divideOn_57 rfl ?_
          refine wp_astore_n (ls2 := [some (zR 53), some (zI p), some (zR r), some (zR r), some (zI i), some (zR o)]) dd_X0_divideOn_58 rfl (by decide) rfl ?_
          refine wp_aload dd_X0_divideOn_59 rfl ?_
          refine wp_astore_n (ls2 := [some (zR 53), some (zI p), some (zR r), some (zR o), some (zI i), some (zR o)]) dd_X0_divideOn_61 rfl (by decide) rfl ?_
          refine wp_iincC (ls2 := [some (zR 53), some (zI p), some (zR r), some (zR o), some (zI (i + 1)), some (zR o)]) dd_X0_divideOn_62 rfl rfl (by decide) (by omega) rfl ?_
          refine wp_goto (tgt := 26) dd_X0_divideOn_65 (by decide) ?_
          refine wp_ls (zw_sub_of (a := [some (zR 53), some (zI p), some (zR r), some (zR o), some (zI (i + 1)), none]) (And.intro rfl (And.intro rfl (And.intro rfl (And.intro rfl (And.intro rfl (trivial))))))) ?_
          refine ih26 r o (i + 1) mf ?_ ?_ ?_ ?_ ?_ ?_ ?_ ?_
          · omega
          · rw [zdp_cg 5 fd]; omega
          · rw [gd 53 (by omega), hme, zu_s]; omega
          · intro x q1 q2; rw [gd r (by omega), hme, zu_row (by omega), zu_row (by omega)]; exact r2 x q1 q2
          · intro x q1 q2; rw [fd x q1 q2]; exact zrm_rg (by omega) r1 x q1 (by omega)
          · intro k9 hk9
            have e53 : (mf 53 2 = mm 53 2 + 1) := by rw [gd 53 (by omega), hme, zu_s]
            have e56 : mf 56 = zu mm 56 (mm 53 2) d3 56 := by rw [gd 56 (by omega), hme, zu_row (by decide)]
            have elw : zlw mf = d3 := by
              rw [zlw_kp (m := me9) (by rw [gd 53 (by omega)]) (gd 56 (by omega)), hme]; exact zlw_s n0.1
            rcases hC k9 hk9 with ⟨z1, z2, z3⟩ | ⟨z1, z2⟩
            · refine Or.inl ⟨z1, by omega, ?_⟩
              rw [e56, zu_n (Or.inr (by omega))]; exact z3
            · rw [show (6 - i).toNat = (6 - (i + 1)).toNat + 1 by omega, zrs, if_neg (by omega)] at z2
              by_cases q : k9 = mm 53 2
              · refine Or.inl ⟨by omega, by omega, ?_⟩
                rw [z2, if_pos q, e56, q, zu_s]; omega
              · refine Or.inr ⟨by omega, ?_⟩
                rw [z2, if_neg q, e53, elw, show zdp (mm r) 5 = d3 by omega]
                refine zrs_cg _ _ _ _ _ _ _ (fun x q1 q2 => ?_) (fun x q1 q2 => ?_)
                · rw [gd r (by omega), mer]
                · rw [fd x q1 q2]
          · intro a h1 h2 h3 h4; rw [gd a (by omega), hme, zu_row h1, zu_row h4]; exact fr a h1 h2 h3 h4
          · omega
  refine lp26 ((8 - 0 : Int)).toNat.succ 54 55 0 me ?_ ?_ ?_ ?_ ?_ ?_ ?_ ?_
  · exact Or.inl ⟨rfl, rfl⟩
  · rw [s0.1.2]; omega
  · first | omega | assumption | (intros; omega)
  · rw [s0.1.1]; exact hf
  · rw [s0.1.2]; exact hg
  · intro k9 hk9
    unfold zrs0
    rcases s1 with ⟨h1, h2, h3⟩ | ⟨h1, h2, h3, h4⟩
    · refine Or.inr ⟨by omega, ?_⟩
      rw [if_pos (by omega), h2, h3, s0.1.1, s0.1.2]; rfl
    · rw [if_neg (show ¬ zdp (mem 54) 5 < 0 by omega)]
      by_cases q : k9 = 0
      · refine Or.inl ⟨by omega, by omega, ?_⟩
        rw [if_pos q, q, h3]; omega
      · refine Or.inr ⟨by omega, ?_⟩
        rw [if_neg q, h2, h4, s0.1.1, s0.1.2, show zdp (mem 54) 5 = d1 by omega]; rfl
  · intro a h1 h2 h3 h4; exact s0.2 a h1 h4
  · omega

set_option maxRecDepth 100000 in
set_option maxHeartbeats 4000000 in
theorem sp_X0_layMultiples {l : Launch} {L : Nat} {mem : zMem} {Q : zQ}  (d : Int) (p : Int) (hp : zPr p) (hf : ∀ x : Int, 0 ≤ x → x < 5 → 0 ≤ mem 54 x ∧ mem 54 x < p) (hg : ∀ x : Int, 0 ≤ x → x < 5 → 0 ≤ mem 55 x ∧ mem 55 x < p) (hd : 0 ≤ d ∧ d = zdp (mem 54) 5) (hz : ∀ x : Int, 0 ≤ x → x < 576 → mem 50 x = 0) (k : ∀ (mem2 : zMem), (zTc mem2 d (znc p (mem 54) (mem 55))) → (∀ a : Nat, a ≠ 50 → a ≠ 55 → mem2 a = mem a) → Q none (zS L) mem2) : zw_Ok l mm_X0_layMultiples [zR 53, zR 48, zI d, zI p] (zS L) mem Q := by
  refine zw_okA (fun hA => ?_)
  have rg_d : -2147483648 ≤ d ∧ d < 2147483648 := hA.2.2.1
  have rg_p : -2147483648 ≤ p ∧ p < 2147483648 := hA.2.2.2.1
  refine zw_enter (by decide) (Nat.le_of_ble_eq_true rfl) rfl ?_
  show zw_Wp l mm_X0_layMultiples (zS L) 0 [some (zR 53), some (zR 48), some (zI d), some (zI p), none, none] [] mem 0 0 Q
  have hpr := hp.rg
  have hdg := zdp_rg (mem 54) 5
  refine wp_iconst dd_X0_layMultiples_0 (zr_lit rfl) ?_
  refine wp_istore (ls2 := [some (zR 53), some (zR 48), some (zI d), some (zI p), some (zI 0), none]) dd_X0_layMultiples_1 rfl (by decide) rfl ?_
  have lp3 : ∀ (nf : Nat) (i : Int) (mm : zMem), (0 ≤ i) → (i ≤ d) → (∀ r c k9 : Int, 0 ≤ r ∧ r < d → 0 ≤ c ∧ c < d → 0 ≤ k9 ∧ k9 < 9 → mm 50 ((r * 8 + c) * 9 + k9) = if r < i then znc p (mem 54) (mem 55) r c k9 else 0) → (∀ x : Int, 0 ≤ x → x < 9 → zmx p (mem 54) (mem 55) i.toNat x = z5 (mm 55) x) → (∀ x : Int, 0 ≤ x → x < 5 → 0 ≤ mm 55 x ∧ mm 55 x < p) → (∀ a : Nat, a ≠ 50 → a ≠ 55 → mm a = mem a) → (d - i) < (nf : Int) → zw_Wp l mm_X0_layMultiples (zS L) 3 [some (zR 53), some (zR 48), some (zI d), some (zI p), some (zI i), none] [] mm 0 0 Q := by
    intro nf
    induction nf with
    | zero =>
      intro i mm i0 i1 h2 hm hg2 h3 hmu
      exfalso; omega
    | succ nf ih3 =>
      intro i mm i0 i1 h2 hm hg2 h3 hmu
      have m54 : mm 54 = mem 54 := h3 54 (by decide) (by decide)
      refine wp_iload dd_X0_layMultiples_3 rfl ?_
      refine wp_iload_n dd_X0_layMultiples_5 rfl ?_
      refine wp_icmp_ge (tgt := 67) dd_X0_layMultiples_6 (by decide) (fun c6_1 => ?_) (fun c6_1 => ?_)
      · skip
        refine wp_return (st := []) dd_X0_layMultiples_67 rfl ?_
        exact k mm (fun r c k9 q1 q2 q3 => by rw [h2 r c k9 q1 q2 q3, if_pos (by omega)]) h3
      · skip
        refine wp_aload_n dd_X0_layMultiples_9 rfl ?_
        refine wp_getR dd_X0_layMultiples_10 gf_X0_15 rfl kk_53 (by decide) (zlt rfl) rr_53_1 ?_
        refine wp_aload_n dd_X0_layMultiples_13 rfl ?_
        refine wp_getR dd_X0_layMultiples_14 gf_X0_9 rfl kk_53 (by decide) (zlt rfl) rr_53_0 ?_
        refine wp_iload_n dd_X0_layMultiples_17 rfl ?_
        refine wp_callS (M' := mm_X0_divide) (As := [zR 55, zR 54, zI p]) (rest := []) dd_X0_layMultiples_18 lk_X0_35 mS_X0_divide rfl (by decide) (by decide) (Nat.le_of_ble_eq_true rfl) rfl (sp_X0_divide  55 54 p kk_55 (zlt rfl) kk_54 (zlt rfl) (by decide) hp hg2 (by rw [m54]; exact hf) (by rw [m54]; omega) (fun me fd gd => ?_))
        show zw_Wp l mm_X0_layMultiples (zS L) 21 [some (zR 53), some (zR 48), some (zI d), some (zI p), some (zI i), none] [] me 0 0 Q
        have key := (zmx_st (h2 := fun x => if x = 0 then 0 else zrm p (mem 54) (mm 55) (x - 1)) hp hf (by omega) hm (fun _ _ _ => rfl)).1
        refine wp_iconst dd_X0_layMultiples_21 (zr_lit rfl) ?_
        refine wp_istore (ls2 := [some (zR 53), some (zR 48), some (zI d), some (zI p), some (zI i), some (zI 0)]) dd_X0_layMultiples_22 rfl (by decide) rfl ?_
        have lp24 : ∀ (nf : Nat) (j : Int) (mn : zMem), (0 ≤ j) → (j ≤ d) → (∀ r c k9 : Int, 0 ≤ r ∧ r < d → 0 ≤ c ∧ c < d → 0 ≤ k9 ∧ k9 < 9 → mn 50 ((r * 8 + c) * 9 + k9) = if r < i ∨ (r = i ∧ c < j) then znc p (mem 54) (mem 55) r c k9 else 0) → (∀ a : Nat, a ≠ 50 → mn a = me a) → (d - j) < (nf : Int) → zw_Wp l mm_X0_layMultiples (zS L) 24 [some (zR 53), some (zR 48), some (zI d), some (zI p), some (zI i), some (zI j)] [] mn 0 0 Q := by
          intro nf
          induction nf with
          | zero =>
            intro j mn j0 j1 j2 j3 hmu
            exfalso; omega
          | succ nf ih24 =>
            intro j mn j0 j1 j2 j3 hmu
            refine wp_iload dd_X0_layMultiples_24 rfl ?_
            refine wp_iload_n dd_X0_layMultiples_26 rfl ?_
            refine wp_icmp_ge (tgt := 57) dd_X0_layMultiples_27 (by decide) (fun c27_2 => ?_) (fun c27_2 => ?_)
            · skip
              refine wp_aload_n dd_X0_layMultiples_57 rfl ?_
              refine wp_callV (M' := mm_X0_raise) (As := []) (rest := []) dd_X0_layMultiples_58 lk_X0_58 mV_X0_raise kk_53 (zlt rfl) ⟨_, _, rfl⟩ rfl (by decide) (by decide) (Nat.le_of_ble_eq_true rfl) rfl (sp_X0_raise    (fun mr fr9 gr => ?_))
              show zw_Wp l mm_X0_layMultiples (zS L) 61 [some (zR 53), some (zR 48), some (zI d), some (zI p), some (zI i), some (zI j)] [] mr 0 0 Q
              refine wp_iincC (ls2 := [some (zR 53), some (zR 48), some (zI d), some (zI p), some (zI (i + 1)), some (zI j)]) dd_X0_layMultiples_61 rfl rfl (by decide) (by omega) rfl ?_
              refine wp_goto (tgt := 3) dd_X0_layMultiples_64 (by decide) ?_
              refine wp_ls (zw_sub_of (a := [some (zR 53), some (zR 48), some (zI d), some (zI p), some (zI (i + 1)), none]) (And.intro rfl (And.intro rfl (And.intro rfl (And.intro rfl (And.intro rfl (trivial))))))) ?_
              refine ih3 (i + 1) mr ?_ ?_ ?_ ?_ ?_ ?_ ?_
              · first | omega | assumption | (intros; omega)
              · first | omega | assumption | (intros; omega)
              · intro r c k9 q1 q2 q3
                rw [gr 50 (by decide), j2 r c k9 q1 q2 q3]
                by_cases q : r < i + 1
                · rw [if_pos q, if_pos (by omega)]
                · rw [if_neg q, if_neg (by omega)]
              · rw [show (i + 1).toNat = i.toNat + 1 by omega]; exact (zmx_st hp hf (by omega) hm (fun x q1 q2 => by rw [fr9 x q1 q2, j3 55 (by decide)]; split; rfl; rw [fd _ (by omega) (by omega), m54])).2
              · intro x q1 q2
                rw [fr9 x q1 q2]
                by_cases q : x = 0
                · rw [if_pos q]; omega
                · rw [if_neg q, j3 55 (by decide), fd _ (by omega) (by omega)]; exact zrm_rg (by omega) hg2 _ (by omega) (by omega)
              · intro a q1 q2; rw [gr a q2, j3 a q1, gd a q2]; exact h3 a q1 q2
              · omega
            · skip
              refine wp_iload dd_X0_layMultiples_30 rfl ?_
              refine wp_iconst dd_X0_layMultiples_32 (zr_lit rfl) ?_
              refine wp_icmp_ge (tgt := 57) dd_X0_layMultiples_33 (by decide) (fun c33_3 => ?_) (fun c33_3 => ?_)
              · skip
                refine wp_aload_n dd_X0_layMultiples_57 rfl ?_
                refine wp_callV (M' := mm_X0_raise) (As := []) (rest := []) dd_X0_layMultiples_58 lk_X0_58 mV_X0_raise kk_53 (zlt rfl) ⟨_, _, rfl⟩ rfl (by decide) (by decide) (Nat.le_of_ble_eq_true rfl) rfl (sp_X0_raise    (fun mr fr9 gr => ?_))
                show zw_Wp l mm_X0_layMultiples (zS L) 61 [some (zR 53), some (zR 48), some (zI d), some (zI p), some (zI i), some (zI j)] [] mr 0 0 Q
                refine wp_iincC (ls2 := [some (zR 53), some (zR 48), some (zI d), some (zI p), some (zI (i + 1)), some (zI j)]) dd_X0_layMultiples_61 rfl rfl (by decide) (by omega) rfl ?_
                refine wp_goto (tgt := 3) dd_X0_layMultiples_64 (by decide) ?_
                refine wp_ls (zw_sub_of (a := [some (zR 53), some (zR 48), some (zI d), some (zI p), some (zI (i + 1)), none]) (And.intro rfl (And.intro rfl (And.intro rfl (And.intro rfl (And.intro rfl (trivial))))))) ?_
                refine ih3 (i + 1) mr ?_ ?_ ?_ ?_ ?_ ?_ ?_
                · first | omega | assumption | (intros; omega)
                · first | omega | assumption | (intros; omega)
                · intro r c k9 q1 q2 q3
                  rw [gr 50 (by decide), j2 r c k9 q1 q2 q3]
                  by_cases q : r < i + 1
                  · rw [if_pos q, if_pos (by omega)]
                  · rw [if_neg q, if_neg (by omega)]
                · rw [show (i + 1).toNat = i.toNat + 1 by omega]; exact (zmx_st hp hf (by omega) hm (fun x q1 q2 => by rw [fr9 x q1 q2, j3 55 (by decide)]; split; rfl; rw [fd _ (by omega) (by omega), m54])).2
                · intro x q1 q2
                  rw [fr9 x q1 q2]
                  by_cases q : x = 0
                  · rw [if_pos q]; omega
                  · rw [if_neg q, j3 55 (by decide), fd _ (by omega) (by omega)]; exact zrm_rg (by omega) hg2 _ (by omega) (by omega)
                · intro a q1 q2; rw [gr a q2, j3 a q1, gd a q2]; exact h3 a q1 q2
                · omega
              · skip
                refine wp_aload_n dd_X0_layMultiples_36 rfl ?_
                refine wp_iload dd_X0_layMultiples_37 rfl ?_
                refine wp_iload dd_X0_layMultiples_39 rfl ?_
                refine wp_aload_n dd_X0_layMultiples_41 rfl ?_
                refine wp_getR dd_X0_layMultiples_42 gf_X0_15 rfl kk_53 (by decide) (zlt rfl) rr_53_1 ?_
                refine wp_iload dd_X0_layMultiples_45 rfl ?_
                refine wp_iald dd_X0_layMultiples_47 kk_55 (zlt rfl) (by omega) (by omega) ?_
                refine wp_callV (M' := mm_X9_setNumber) (As := [zI i, zI j, zI (mn 55 j)]) (rest := []) dd_X0_layMultiples_48 lk_X0_52 mV_X9_setNumber kk_48 (zlt rfl) ⟨_, _, rfl⟩ rfl (by decide) (by decide) (Nat.le_of_ble_eq_true rfl) rfl (sp_X9_setNumber  i j (mn 55 j) (by omega) (by omega) ?_)
                show zw_Wp l mm_X0_layMultiples (zS L) 51 [some (zR 53), some (zR 48), some (zI d), some (zI p), some (zI i), some (zI j)] [] (zu mn 50 ((i * 8 + j) * 9) (mn 55 j)) 0 0 Q
                refine wp_iincC (ls2 := [some (zR 53), some (zR 48), some (zI d), some (zI p), some (zI i), some (zI (j + 1))]) dd_X0_layMultiples_51 rfl rfl (by decide) (by omega) rfl ?_
                refine wp_goto (tgt := 24) dd_X0_layMultiples_54 (by decide) ?_
                refine ih24 (j + 1) (zu mn 50 ((i * 8 + j) * 9) (mn 55 j)) ?_ ?_ ?_ ?_ ?_
                · first | omega | assumption | (intros; omega)
                · first | omega | assumption | (intros; omega)
                · intro r c k9 q1 q2 q3
                  by_cases hx : r = i ∧ c = j ∧ k9 = 0
                  · obtain ⟨rfl, rfl, rfl⟩ := hx
                    rw [Int.add_zero, zu_s, if_pos (by omega), j3 55 (by decide), fd c (by omega) (by omega), m54]
                    unfold znc
                    rw [if_pos rfl]
                    exact (key c (by omega) (by omega)).symm
                  · rw [zu_n (Or.inr (by omega)), j2 r c k9 q1 q2 q3]
                    by_cases q : r < i ∨ (r = i ∧ c < j)
                    · rw [if_pos q, if_pos (by omega)]
                    · rw [if_neg q]
                      by_cases q4 : r < i ∨ (r = i ∧ c < j + 1)
                      · rw [if_pos q4]
                        unfold znc
                        rw [if_neg (by omega)]
                      · rw [if_neg q4]
                · intro a ha; rw [zu_row ha]; exact j3 a ha
                · omega
        refine lp24 ((d - 0 : Int)).toNat.succ 0 me ?_ ?_ ?_ ?_ ?_
        · first | omega | assumption | (intros; omega)
        · first | omega | assumption | (intros; omega)
        · intro r c k9 q1 q2 q3; rw [gd 50 (by decide), h2 r c k9 q1 q2 q3]; by_cases q : r < i; rw [if_pos q, if_pos (by omega)]; rw [if_neg q, if_neg (by omega)]
        · intros; rfl
        · omega
  refine lp3 ((d - 0 : Int)).toNat.succ 0 mem ?_ ?_ ?_ ?_ ?_ ?_ ?_
  · first | omega | assumption | (intros; omega)
  · first | omega | assumption | (intros; omega)
  · intro r c k9 q1 q2 q3; rw [if_neg (by omega)]; exact hz _ (by omega) (by omega)
  · intros; rfl
  · exact hg
  · intros; rfl
  · omega

set_option maxRecDepth 100000 in
set_option maxHeartbeats 4000000 in
theorem sp_X9_fill {l : Launch} {L : Nat} {mem : zMem} {Q : zQ} (c d : Int → Int) (o : Nat) (r : Nat) (le : Int) (tb : Int) (p : Int) (ho : zP o) (ho2 : zP r) (hc : zRw mem o c) (hd : zRw mem r d) (hl : le = 0 ∨ le = 1) (htb : tb = 0 ∨ tb = 1) (hn : 0 ≤ zdeg c le 25 ∧ 0 ≤ zdeg d le 25) (hp : 2 ≤ p ∧ p ≤ 31) (hcr : ∀ x y : Int, 0 ≤ zpt c le x y ∧ zpt c le x y < p) (hdr : ∀ x y : Int, 0 ≤ zpt d le x y ∧ zpt d le x y < p) (k : ∀ (mem2 : zMem), (mem2 48 4 = zsz c d le tb ∧ mem2 48 5 = (if tb = 0 then 4 else 8)) → (zTc mem2 (zsz c d le tb) (zcl c d le p tb)) → (∀ a : Nat, a ≠ 48 → a ≠ 50 → mem2 a = mem a) → Q none (zS L) mem2) : zw_Ok l mm_X9_fill [zR 48, zR o, zR r, zI le, zI tb, zI p] (zS L) mem Q := by
  refine zw_okA (fun hA => ?_)
  have rg_le : -2147483648 ≤ le ∧ le < 2147483648 := hA.2.2.2.1
  have rg_tb : -2147483648 ≤ tb ∧ tb < 2147483648 := hA.2.2.2.2.1
  have rg_p : -2147483648 ≤ p ∧ p < 2147483648 := hA.2.2.2.2.2.1
  refine zw_enter (by decide) (Nat.le_of_ble_eq_true rfl) rfl ?_
  show zw_Wp l mm_X9_fill (zS L) 0 [some (zR 48), some (zR o), some (zR r), some (zI le), some (zI tb), some (zI p), none, none] [] mem 0 0 Q
  have o50 := ho.lt
  have r50 := ho2.lt
  have d1 := zdeg_4 (c := c) hl
  have d2 := zdeg_4 (c := d) hl
  have hsz : 0 ≤ zsz c d le tb ∧ zsz c d le tb ≤ 8 ∧ (tb ≠ 0 → zsz c d le tb ≤ 4) := by
    unfold zsz
    by_cases q : tb = 0
    · rw [if_pos q]; omega
    · rw [if_neg q]; omega
  refine wp_aload_n dd_X9_fill_0 rfl ?_
  refine wp_aload_n dd_X9_fill_1 rfl ?_
  refine wp_aload_n dd_X9_fill_2 rfl ?_
  refine wp_iload_n dd_X9_fill_3 rfl ?_
  refine wp_iload dd_X9_fill_4 rfl ?_
  refine wp_callS (M' := mm_X9_sizeOf) (As := [zR o, zR r, zI le, zI tb]) (rest := [zR 48]) dd_X9_fill_6 lk_X9_55 mS_X9_sizeOf rfl (by decide) (by decide) (Nat.le_of_ble_eq_true rfl) rfl (sp_X9_sizeOf c d o r le tb ho ho2 hc hd hl hn ?_)
  show zw_Wp l mm_X9_fill (zS L) 9 [some (zR 48), some (zR o), some (zR r), some (zI le), some (zI tb), some (zI p), none, none] [zI (zsz c d le tb), zR 48] mem 0 0 Q
  have ih20 : ∀ (sp : Int), (sp = if tb = 0 then 4 else 8) → (0 : Int) < 1 → zw_Wp l mm_X9_fill (zS L) 20 [some (zR 48), some (zR o), some (zR r), some (zI le), some (zI tb), some (zI p), none, none] [zI sp, zI (zsz c d le tb), zR 48] mem 0 0 Q := by
    intro sp hsp hone
    refine wp_callV (M' := mm_X9_clear) (As := [zI (zsz c d le tb), zI sp]) (rest := []) dd_X9_fill_20 lk_X9_59 mV_X9_clear kk_48 (zlt rfl) ⟨_, _, rfl⟩ rfl (by decide) (by decide) (Nat.le_of_ble_eq_true rfl) rfl (sp_X9_clear  (zsz c d le tb) sp  (fun m1 s1 f1 g1 => ?_))
    show zw_Wp l mm_X9_fill (zS L) 23 [some (zR 48), some (zR o), some (zR r), some (zI le), some (zI tb), some (zI p), none, none] [] m1 0 0 Q
    have hsp2 : (tb = 0 ∧ sp = 4) ∨ (tb = 1 ∧ sp = 8) := by rw [hsp]; rcases htb with h | h <;> rw [h] <;> decide
    have ho1 : m1 (o + 2) = mem (o + 2) := g1 _ (by omega) (by omega)
    have hr1 : m1 (r + 2) = mem (r + 2) := g1 _ (by omega) (by omega)
    have e1 : zdeg (m1 (o + 2)) le 25 = zdeg c le 25 := by rw [ho1]; exact hc.deg le
    have e2 : zdeg ((zu m1 48 6 (zdeg c le 25)) (r + 2)) le 25 = zdeg d le 25 := by rw [zu_row (by omega), hr1]; exact hd.deg le
    refine wp_aload_n dd_X9_fill_23 rfl ?_
    refine wp_aload_n dd_X9_fill_24 rfl ?_
    refine wp_iload_n dd_X9_fill_25 rfl ?_
    refine wp_callV (M' := mm_X4_degreeIn) (As := [zI le]) (rest := [zR 48]) dd_X9_fill_26 lk_X9_24 mV_X4_degreeIn ho.k ho.i ⟨_, _, rfl⟩ rfl (by decide) (by decide) (Nat.le_of_ble_eq_true rfl) rfl (sp_X4_degreeIn  o le (by first | assumption | omega) (by first | assumption | omega) ?_)
    show zw_Wp l mm_X9_fill (zS L) 29 [some (zR 48), some (zR o), some (zR r), some (zI le), some (zI tb), some (zI p), none, none] [zI (zdeg (m1 (o + 2)) le 25), zR 48] m1 0 0 Q
    rw [show (zdeg (m1 (o + 2)) le 25 : Int) = zdeg c le 25 from e1]
    refine wp_putzI 6 rfl dd_X9_fill_29 pf_X9_63 rfl kk_48 (by decide) (zlt rfl) ?_
    refine wp_aload_n dd_X9_fill_32 rfl ?_
    refine wp_aload_n dd_X9_fill_33 rfl ?_
    refine wp_iload_n dd_X9_fill_34 rfl ?_
    refine wp_callV (M' := mm_X4_degreeIn) (As := [zI le]) (rest := [zR 48]) dd_X9_fill_35 lk_X9_24 mV_X4_degreeIn ho2.k ho2.i ⟨_, _, rfl⟩ rfl (by decide) (by decide) (Nat.le_of_ble_eq_true rfl) rfl (sp_X4_degreeIn  r le (by first | assumption | omega) (by first | assumption | omega) ?_)
    show zw_Wp l mm_X9_fill (zS L) 38 [some (zR 48), some (zR o), some (zR r), some (zI le), some (zI tb), some (zI p), none, none] [zI (zdeg ((zu m1 48 6 (zdeg c le 25)) (r + 2)) le 25), zR 48] (zu m1 48 6 (zdeg c le 25)) 0 0 Q
    rw [show (zdeg ((zu m1 48 6 (zdeg c le 25)) (r + 2)) le 25 : Int) = zdeg d le 25 from e2]
    refine wp_putzI 7 rfl dd_X9_fill_38 pf_X9_66 rfl kk_48 (by decide) (zlt rfl) ?_
    obtain ⟨mb, hmb⟩ : ∃ mb, mb = zu (zu m1 48 6 (zdeg c le 25)) 48 7 (zdeg d le 25) := ⟨_, rfl⟩
    have b4 : mb 48 4 = zsz c d le tb := by rw [hmb, zu_n (Or.inr (by decide)), zu_n (Or.inr (by decide)), s1.1]; omega
    have b5 : mb 48 5 = sp := by rw [hmb, zu_n (Or.inr (by decide)), zu_n (Or.inr (by decide))]; exact s1.2.1
    have b6 : mb 48 6 = zdeg c le 25 := by rw [hmb, zu_n (Or.inr (by decide)), zu_s]
    have b7 : mb 48 7 = zdeg d le 25 := by rw [hmb, zu_s]
    have b50 : ∀ x : Int, 0 ≤ x → x < 576 → mb 50 x = 0 := by rw [hmb, zu_row (by decide), zu_row (by decide)]; exact f1
    have bq : ∀ a : Nat, a ≠ 48 → a ≠ 50 → mb a = mem a := fun a q1 q2 => by rw [hmb, zu_row q1, zu_row q1]; exact g1 a q1 q2
    rw [← hmb]
    refine wp_iconst dd_X9_fill_41 (zr_lit rfl) ?_
    refine wp_istore (ls2 := [some (zR 48), some (zR o), some (zR r), some (zI le), some (zI tb), some (zI p), some (zI 0), none]) dd_X9_fill_42 rfl (by decide) rfl ?_
    have lp44 : ∀ (nf : Nat) (i : Int) (mm : zMem), (0 ≤ i) → (i ≤ zsz c d le tb) → (∀ r9 c9 k9 : Int, 0 ≤ r9 ∧ r9 < zsz c d le tb → 0 ≤ c9 ∧ c9 < zsz c d le tb → 0 ≤ k9 ∧ k9 < 9 → mm 50 ((r9 * 8 + c9) * 9 + k9) = if r9 < i then zcl c d le p tb r9 c9 k9 else 0) → (∀ a : Nat, a ≠ 50 → mm a = mb a) → (zsz c d le tb - i) < (nf : Int) → zw_Wp l mm_X9_fill (zS L) 44 [some (zR 48), some (zR o), some (zR r), some (zI le), some (zI tb), some (zI p), some (zI i), none] [] mm 0 0 Q := by
      intro nf
      induction nf with
      | zero =>
        intro i mm i0 i1 h2 h3 hmu
        exfalso; omega
      | succ nf ih44 =>
        intro i mm i0 i1 h2 h3 hmu
        have m4 : mm 48 4 = zsz c d le tb := by rw [h3 48 (by decide)]; exact b4
        refine wp_iload dd_X9_fill_44 rfl ?_
        refine wp_aload_n dd_X9_fill_46 rfl ?_
        refine wp_getZ 4 rfl dd_X9_fill_47 gf_X9_39 rfl kk_48 (by decide) (zlt rfl) ?_
        refine wp_icmp_ge (tgt := 120) dd_X9_fill_50 (by decide) (fun c50_1 => ?_) (fun c50_1 => ?_)
        · skip
          refine wp_return (st := []) dd_X9_fill_120 rfl ?_
          refine k mm ⟨m4, ?_⟩ (fun r9 c9 k9 q1 q2 q3 => by rw [h2 r9 c9 k9 q1 q2 q3, if_pos (by omega)]) (fun a q1 q2 => by rw [h3 a q2]; exact bq a q1 q2)
          rw [h3 48 (by decide), b5]; exact hsp
        · skip
          refine wp_iconst dd_X9_fill_53 (zr_lit rfl) ?_
          refine wp_istore (ls2 := [some (zR 48), some (zR o), some (zR r), some (zI le), some (zI tb), some (zI p), some (zI i), some (zI 0)]) dd_X9_fill_54 rfl (by decide) rfl ?_
          have lp56 : ∀ (nf : Nat) (j : Int) (mm : zMem), (0 ≤ j) → (j ≤ zsz c d le tb) → (∀ r9 c9 k9 : Int, 0 ≤ r9 ∧ r9 < zsz c d le tb → 0 ≤ c9 ∧ c9 < zsz c d le tb → 0 ≤ k9 ∧ k9 < 9 → mm 50 ((r9 * 8 + c9) * 9 + k9) = if r9 < i ∨ (r9 = i ∧ c9 < j) then zcl c d le p tb r9 c9 k9 else 0) → (∀ a : Nat, a ≠ 50 → mm a = mb a) → (zsz c d le tb - j) < (nf : Int) → zw_Wp l mm_X9_fill (zS L) 56 [some (zR 48), some (zR o), some (zR r), some (zI le), some (zI tb), some (zI p), some (zI i), some (zI j)] [] mm 0 0 Q := by
            intro nf
            induction nf with
            | zero =>
              intro j mm j0 j1 j2 j3 hmu
              exfalso; omega
            | succ nf ih56 =>
              intro j mm j0 j1 j2 j3 hmu
              have m48 : mm 48 = mb 48 := j3 48 (by decide)
              have m4 : mm 48 4 = zsz c d le tb := by rw [m48]; exact b4
              have m5 : mm 48 5 = sp := by rw [m48]; exact b5
              have m6 : mm 48 6 = zdeg c le 25 := by rw [m48]; exact b6
              have m7 : mm 48 7 = zdeg d le 25 := by rw [m48]; exact b7
              have hcm : zRw mm o c := hc.keep ((j3 _ (by omega)).trans (bq _ (by omega) (by omega)))
              have hdm : zRw mm r d := hd.keep ((j3 _ (by omega)).trans (bq _ (by omega) (by omega)))
              have hnow : ∀ k9 : Int, 0 ≤ k9 ∧ k9 < 9 → j < zsz c d le tb → i < zsz c d le tb → mm 50 ((i * 8 + j) * 9 + k9) = 0 := fun k9 q3 q4 q5 => by rw [j2 i j k9 (by omega) (by omega) q3, if_neg (by omega)]
              refine wp_iload dd_X9_fill_56 rfl ?_
              refine wp_aload_n dd_X9_fill_58 rfl ?_
              refine wp_getZ 4 rfl dd_X9_fill_59 gf_X9_39 rfl kk_48 (by decide) (zlt rfl) ?_
              refine wp_icmp_ge (tgt := 114) dd_X9_fill_62 (by decide) (fun c62_2 => ?_) (fun c62_2 => ?_)
              · skip
                refine wp_iincC (ls2 := [some (zR 48), some (zR o), some (zR r), some (zI le), some (zI tb), some (zI p), some (zI (i + 1)), some (zI j)]) dd_X9_fill_114 rfl rfl (by decide) (by omega) rfl ?_
                refine wp_goto (tgt := 44) dd_X9_fill_117 (by decide) ?_
                refine wp_ls (zw_sub_of (a := [some (zR 48), some (zR o), some (zR r), some (zI le), some (zI tb), some (zI p), some (zI (i + 1)), none]) (And.intro rfl (And.intro rfl (And.intro rfl (And.intro rfl (And.intro rfl (And.intro rfl (And.intro rfl (trivial))))))))) ?_
                refine ih44 (i + 1) mm ?_ ?_ ?_ ?_ ?_
                · first | omega | assumption | (intros; omega)
                · first | omega | assumption | (intros; omega)
                · intro r9 c9 k9 q1 q2 q3
                  rw [j2 r9 c9 k9 q1 q2 q3]
                  by_cases q : r9 < i + 1
                  · rw [if_pos q, if_pos (by omega)]
                  · rw [if_neg q, if_neg (by omega)]
                · exact j3
                · omega
              · skip
                refine wp_iload dd_X9_fill_65 rfl ?_
                refine wp_if_ne (tgt := 84) dd_X9_fill_67 (by decide) (fun c67_3 => ?_) (fun c67_3 => ?_)
                · skip
                  refine wp_aload_n dd_X9_fill_84 rfl ?_
                  refine wp_aload_n dd_X9_fill_85 rfl ?_
                  refine wp_aload_n dd_X9_fill_86 rfl ?_
                  refine wp_iload_n dd_X9_fill_87 rfl ?_
                  refine wp_iload dd_X9_fill_88 rfl ?_
                  refine wp_iload dd_X9_fill_90 rfl ?_
                  refine wp_callV (M' := mm_X9_fillBezout) (As := [zR o, zR r, zI le, zI i, zI j]) (rest := []) dd_X9_fill_92 lk_X9_73 mV_X9_fillBezout kk_48 (zlt rfl) ⟨_, _, rfl⟩ rfl (by decide) (by decide) (Nat.le_of_ble_eq_true rfl) rfl (sp_X9_fillBezout c d p o r le i j ho ho2 hcm hdm hl (by omega) (by omega) (by rw [m4]; omega) hp.2 hcr hdr (fun x q1 q2 => by have := hnow (x - (i * 8 + j) * 9) (by omega) (by omega) (by omega); rw [show (i * 8 + j) * 9 + (x - (i * 8 + j) * 9) = x by omega] at this; exact this) (fun ms fs gs => ?_))
                  show zw_Wp l mm_X9_fill (zS L) 95 [some (zR 48), some (zR o), some (zR r), some (zI le), some (zI tb), some (zI p), some (zI i), some (zI j)] [] ms 0 0 Q
                  refine wp_aload_n dd_X9_fill_95 rfl ?_
                  refine wp_iload dd_X9_fill_96 rfl ?_
                  refine wp_iload dd_X9_fill_98 rfl ?_
                  refine wp_callS (M' := mm_X9_baseOf) (As := [zI i, zI j]) (rest := [zR 48]) dd_X9_fill_100 lk_X9_52 mS_X9_baseOf rfl (by decide) (by decide) (Nat.le_of_ble_eq_true rfl) rfl (sp_X9_baseOf  i j (by first | assumption | omega) (by first | assumption | omega) ?_)
                  show zw_Wp l mm_X9_fill (zS L) 103 [some (zR 48), some (zR o), some (zR r), some (zI le), some (zI tb), some (zI p), some (zI i), some (zI j)] [zI ((i * 8 + j) * 9), zR 48] ms 0 0 Q
                  refine wp_iload dd_X9_fill_103 rfl ?_
                  refine wp_callV (M' := mm_X9_reduceCell) (As := [zI ((i * 8 + j) * 9), zI p]) (rest := []) dd_X9_fill_105 lk_X9_76 mV_X9_reduceCell kk_48 (zlt rfl) ⟨_, _, rfl⟩ rfl (by decide) (by decide) (Nat.le_of_ble_eq_true rfl) rfl (sp_X9_reduceCell  ((i * 8 + j) * 9) p (by omega) (by omega) (by rw [gs 48 (by decide), m5]; omega) (fun mr fr9 gr => ?_))
                  show zw_Wp l mm_X9_fill (zS L) 108 [some (zR 48), some (zR o), some (zR r), some (zI le), some (zI tb), some (zI p), some (zI i), some (zI j)] [] mr 0 0 Q
                  rw [gs 48 (by decide), m5] at fr9
                  have hred : ∀ q k9 : Int, (0 ≤ q ∧ q < 64) → 0 ≤ k9 ∧ k9 < 9 → mr 50 (q * 9 + k9) = if q = i * 8 + j then zcl c d le p tb i j k9 else mm 50 (q * 9 + k9) := by
                    intro q k9 hq hk
                    rw [fr9 (q * 9 + k9), fs (q * 9 + k9)]
                    by_cases hx : q = i * 8 + j
                    · rw [if_pos hx, hx]
                      unfold zcl
                      first
                      | (rw [if_pos (show tb = 0 by omega)]
                         by_cases q4 : k9 ≤ 4
                         · rw [if_pos (by omega), if_pos (by omega), show (i * 8 + j) * 9 + k9 - (i * 8 + j) * 9 = k9 by omega]
                           have hv : 0 ≤ zsyl c d le i j k9 ∧ zsyl c d le i j k9 < p := by unfold zsyl; split; exact hcr _ _; exact hdr _ _
                           exact Int.emod_eq_of_lt hv.1 hv.2
                         · rw [if_neg (by omega), if_neg (by omega), hnow k9 hk (by omega) (by omega)]
                           unfold zsyl
                           split
                           · exact (zpt_o (Or.inr (by omega))).symm
                           · exact (zpt_o (Or.inr (by omega))).symm)
                      | (rw [if_neg (show ¬ tb = 0 by omega), if_pos (by omega), if_pos (by omega), show (i * 8 + j) * 9 + k9 - (i * 8 + j) * 9 = k9 by omega]
                         unfold zbc
                         rw [m4]
                         unfold zsz
                         rw [if_neg (show ¬ tb = 0 by omega)])
                    · rw [if_neg hx, if_neg (by omega), if_neg (by omega)]
                  refine wp_iincC (ls2 := [some (zR 48), some (zR o), some (zR r), some (zI le), some (zI tb), some (zI p), some (zI i), some (zI (j + 1))]) dd_X9_fill_108 rfl rfl (by decide) (by omega) rfl ?_
                  refine wp_goto (tgt := 56) dd_X9_fill_111 (by decide) ?_
                  refine ih56 (j + 1) mr ?_ ?_ ?_ ?_ ?_
                  · first | omega | assumption | (intros; omega)
                  · first | omega | assumption | (intros; omega)
                  · intro r9 c9 k9 q1 q2 q3
                    rw [hred (r9 * 8 + c9) k9 (by omega) q3]
                    by_cases hx : r9 = i ∧ c9 = j
                    · rw [if_pos (by omega), if_pos (by omega), hx.1, hx.2]
                    · rw [if_neg (by omega), j2 r9 c9 k9 q1 q2 q3]
                      by_cases q : r9 < i ∨ (r9 = i ∧ c9 < j)
                      · rw [if_pos q, if_pos (by omega)]
                      · rw [if_neg q, if_neg (by omega)]
                  · intro a ha; rw [gr a ha, gs a ha]; exact j3 a ha
                  · omega
                · skip
                  refine wp_aload_n dd_X9_fill_70 rfl ?_
                  refine wp_aload_n dd_X9_fill_71 rfl ?_
                  refine wp_aload_n dd_X9_fill_72 rfl ?_
                  refine wp_iload_n dd_X9_fill_73 rfl ?_
                  refine wp_iload dd_X9_fill_74 rfl ?_
                  refine wp_iload dd_X9_fill_76 rfl ?_
                  refine wp_callV (M' := mm_X9_fillSylvester) (As := [zR o, zR r, zI le, zI i, zI j]) (rest := []) dd_X9_fill_78 lk_X9_69 mV_X9_fillSylvester kk_48 (zlt rfl) ⟨_, _, rfl⟩ rfl (by decide) (by decide) (Nat.le_of_ble_eq_true rfl) rfl (sp_X9_fillSylvester c d o r le i j ho ho2 hcm hdm hl (by omega) (by omega) m6 m7 (fun ms fs gs => ?_))
                  show zw_Wp l mm_X9_fill (zS L) 81 [some (zR 48), some (zR o), some (zR r), some (zI le), some (zI tb), some (zI p), some (zI i), some (zI j)] [] ms 0 0 Q
                  refine wp_goto (tgt := 95) dd_X9_fill_81 (by decide) ?_
                  refine wp_aload_n dd_X9_fill_95 rfl ?_
                  refine wp_iload dd_X9_fill_96 rfl ?_
                  refine wp_iload dd_X9_fill_98 rfl ?_
                  refine wp_callS (M' := mm_X9_baseOf) (As := [zI i, zI j]) (rest := [zR 48]) dd_X9_fill_100 lk_X9_52 mS_X9_baseOf rfl (by decide) (by decide) (Nat.le_of_ble_eq_true rfl) rfl (sp_X9_baseOf  i j (by first | assumption | omega) (by first | assumption | omega) ?_)
                  show zw_Wp l mm_X9_fill (zS L) 103 [some (zR 48), some (zR o), some (zR r), some (zI le), some (zI tb), some (zI p), some (zI i), some (zI j)] [zI ((i * 8 + j) * 9), zR 48] ms 0 0 Q
                  refine wp_iload dd_X9_fill_103 rfl ?_
                  refine wp_callV (M' := mm_X9_reduceCell) (As := [zI ((i * 8 + j) * 9), zI p]) (rest := []) dd_X9_fill_105 lk_X9_76 mV_X9_reduceCell kk_48 (zlt rfl) ⟨_, _, rfl⟩ rfl (by decide) (by decide) (Nat.le_of_ble_eq_true rfl) rfl (sp_X9_reduceCell  ((i * 8 + j) * 9) p (by omega) (by omega) (by rw [gs 48 (by decide), m5]; omega) (fun mr fr9 gr => ?_))
                  show zw_Wp l mm_X9_fill (zS L) 108 [some (zR 48), some (zR o), some (zR r), some (zI le), some (zI tb), some (zI p), some (zI i), some (zI j)] [] mr 0 0 Q
                  rw [gs 48 (by decide), m5] at fr9
                  have hred : ∀ q k9 : Int, (0 ≤ q ∧ q < 64) → 0 ≤ k9 ∧ k9 < 9 → mr 50 (q * 9 + k9) = if q = i * 8 + j then zcl c d le p tb i j k9 else mm 50 (q * 9 + k9) := by
                    intro q k9 hq hk
                    rw [fr9 (q * 9 + k9), fs (q * 9 + k9)]
                    by_cases hx : q = i * 8 + j
                    · rw [if_pos hx, hx]
                      unfold zcl
                      first
                      | (rw [if_pos (show tb = 0 by omega)]
                         by_cases q4 : k9 ≤ 4
                         · rw [if_pos (by omega), if_pos (by omega), show (i * 8 + j) * 9 + k9 - (i * 8 + j) * 9 = k9 by omega]
                           have hv : 0 ≤ zsyl c d le i j k9 ∧ zsyl c d le i j k9 < p := by unfold zsyl; split; exact hcr _ _; exact hdr _ _
                           exact Int.emod_eq_of_lt hv.1 hv.2
                         · rw [if_neg (by omega), if_neg (by omega), hnow k9 hk (by omega) (by omega)]
                           unfold zsyl
                           split
                           · exact (zpt_o (Or.inr (by omega))).symm
                           · exact (zpt_o (Or.inr (by omega))).symm)
                      | (rw [if_neg (show ¬ tb = 0 by omega), if_pos (by omega), if_pos (by omega), show (i * 8 + j) * 9 + k9 - (i * 8 + j) * 9 = k9 by omega]
                         unfold zbc
                         rw [m4]
                         unfold zsz
                         rw [if_neg (show ¬ tb = 0 by omega)])
                    · rw [if_neg hx, if_neg (by omega), if_neg (by omega)]
                  refine wp_iincC (ls2 := [some (zR 48), some (zR o), some (zR r), some (zI le), some (zI tb), some (zI p), some (zI i), some (zI (j + 1))]) dd_X9_fill_108 rfl rfl (by decide) (by omega) rfl ?_
                  refine wp_goto (tgt := 56) dd_X9_fill_111 (by decide) ?_
                  refine ih56 (j + 1) mr ?_ ?_ ?_ ?_ ?_
                  · first | omega | assumption | (intros; omega)
                  · first | omega | assumption | (intros; omega)
                  · intro r9 c9 k9 q1 q2 q3
                    rw [hred (r9 * 8 + c9) k9 (by omega) q3]
                    by_cases hx : r9 = i ∧ c9 = j
                    · rw [if_pos (by omega), if_pos (by omega), hx.1, hx.2]
                    · rw [if_neg (by omega), j2 r9 c9 k9 q1 q2 q3]
                      by_cases q : r9 < i ∨ (r9 = i ∧ c9 < j)
                      · rw [if_pos q, if_pos (by omega)]
                      · rw [if_neg q, if_neg (by omega)]
                  · intro a ha; rw [gr a ha, gs a ha]; exact j3 a ha
                  · omega
          refine lp56 ((zsz c d le tb - 0 : Int)).toNat.succ 0 mm ?_ ?_ ?_ ?_ ?_
          · first | omega | assumption | (intros; omega)
          · first | omega | assumption | (intros; omega)
          · intro r9 c9 k9 q1 q2 q3
            rw [h2 r9 c9 k9 q1 q2 q3]
            by_cases q : r9 < i
            · rw [if_pos q, if_pos (by omega)]
            · rw [if_neg q, if_neg (by omega)]
          · first | omega | assumption | (intros; omega)
          · omega
    refine lp44 ((zsz c d le tb - 0 : Int)).toNat.succ 0 mb ?_ ?_ ?_ ?_ ?_
    · first | omega | assumption | (intros; omega)
    · first | omega | assumption | (intros; omega)
    · intro r9 c9 k9 q1 q2 q3; rw [if_neg (by omega)]; exact b50 _ (by omega) (by omega)
    · intros; rfl
    · omega
  refine wp_iload dd_X9_fill_9 rfl ?_
  refine wp_if_ne (tgt := 18) dd_X9_fill_11 (by decide) (fun c11_4 => ?_) (fun c11_4 => ?_)
  · skip
    refine wp_bipush dd_X9_fill_18 (by decide) ?_
    refine ih20 8 ?_ ?_
    · first | rw [if_pos (by omega)] | rw [if_neg (by omega)]
    · omega
  · skip
    refine wp_iconst dd_X9_fill_14 (zr_lit rfl) ?_
    refine wp_goto (tgt := 20) dd_X9_fill_15 (by decide) ?_
    refine ih20 4 ?_ ?_
    · first | rw [if_pos (by omega)] | rw [if_neg (by omega)]
    · omega


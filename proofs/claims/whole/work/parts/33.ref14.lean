/-! ===== the reference: results ===== -/
/-- what is left alone by a call that only asks -/
def zKp (m m2 : zMem) : Prop := (∀ a : Nat, a ≠ 67 → a ≠ 75 → a ≠ 76 → a ≠ 77 → a ≠ 78 → a ≠ 79 → a ≠ 80 → a ≠ 81 → a ≠ 82 → a ≠ 83 → a ≠ 84 → a ≠ 85 → m2 a = m a) ∧ ∀ s : Int, s ≠ 12 → s ≠ 15 → s ≠ 16 → s ≠ 18 → s ≠ 24 → s ≠ 25 → s ≠ 28 → s ≠ 29 → m2 67 s = m 67 s
theorem zKp.rf {m : zMem} : zKp m m := ⟨fun a _ _ _ _ _ _ _ _ _ _ _ _ => rfl, fun s _ _ _ _ _ _ _ _ => rfl⟩
theorem zKp.tr {m m1 m2 : zMem} (h : zKp m m1) (k : zKp m1 m2) : zKp m m2 := ⟨fun a h1 h2 h3 h4 h5 h6 h7 h8 h9 h10 h11 h12 => (k.1 a h1 h2 h3 h4 h5 h6 h7 h8 h9 h10 h11 h12).trans (h.1 a h1 h2 h3 h4 h5 h6 h7 h8 h9 h10 h11 h12), fun s h1 h2 h3 h4 h5 h6 h7 h8 => (k.2 s h1 h2 h3 h4 h5 h6 h7 h8).trans (h.2 s h1 h2 h3 h4 h5 h6 h7 h8)⟩
theorem zKp.kp {m m2 : zMem} (h : zKp m m2) : zkp m m2 := ⟨h.2 1 (by decide) (by decide) (by decide) (by decide) (by decide) (by decide) (by decide) (by decide), h.2 5 (by decide) (by decide) (by decide) (by decide) (by decide) (by decide) (by decide) (by decide), h.1 69 (by decide) (by decide) (by decide) (by decide) (by decide) (by decide) (by decide) (by decide) (by decide) (by decide) (by decide) (by decide), h.1 70 (by decide) (by decide) (by decide) (by decide) (by decide) (by decide) (by decide) (by decide) (by decide) (by decide) (by decide) (by decide), h.1 71 (by decide) (by decide) (by decide) (by decide) (by decide) (by decide) (by decide) (by decide) (by decide) (by decide) (by decide) (by decide)⟩
abbrev zcm (mem : zMem) (a b le tb : Int) : Int → Int → Int → Int := zcl (zco mem a) (zco mem b) le (mem 67 1) tb
abbrev zsm (mem : zMem) (a b le tb : Int) : Int := zsz (zco mem a) (zco mem b) le tb
/-- the result: a coefficient -/
def zre (mem : zMem) (a b le tb d : Int) : Int := zdet (zcm mem a b le tb) (mem 67 1) (zsm mem a b le tb) d
theorem zcl_rg {c d : Int → Int} {le p tb sz : Int} (hp : 0 < p) (hc : ∀ x y : Int, 0 ≤ zpt c le x y ∧ zpt c le x y < p) (hd : ∀ x y : Int, 0 ≤ zpt d le x y ∧ zpt d le x y < p) : zCr (zcl c d le p tb) p sz := by
  intro r cc k _ _ _
  unfold zcl
  split
  · unfold zsyl
    split
    · exact hc _ _
    · exact hd _ _
  · exact zm_rg hp
theorem zdg_nn {c : Int → Int} {le : Int} (hl : le = 0 ∨ le = 1) (h : ¬ zdeg c 0 25 < 0) : 0 ≤ zdeg c le 25 := by
  have h0 := (zdeg_P c 0 25 (by omega)).1
  rcases h0 with h0 | ⟨h0, -, t, h1, h2, h3, -⟩
  · omega
  · have h4 := (zdeg_P c le 25 (by omega)).2 t h1 h2 h3
    have h5 : 0 ≤ zvv le (t / 5) (t % 5) := by unfold zvv; omega
    omega

set_option maxRecDepth 100000 in
set_option maxHeartbeats 4000000 in
theorem sp_X11_fills {l : Launch} {L : Nat} {mem : zMem} {Q : zQ}  (a : Int) (b : Int) (le : Int) (tb : Int) (hp : zPr (mem 67 1)) (hTx : zT mem a) (hTy : zT mem b) (hl : le = 0 ∨ le = 1) (htb : tb = 0 ∨ tb = 1) (hna : ¬ zdeg (zco mem a) 0 25 < 0) (hnb : ¬ zdeg (zco mem b) 0 25 < 0) (k : ∀ (mem2 : zMem), (mem2 67 18 = zsm mem a b le tb) → (zTb mem2 (zsm mem a b le tb) (zcm mem a b le tb)) → (zKp mem mem2) → Q none (zS L) mem2) : zw_Ok l mm_X11_fills [zR 67, zI a, zI b, zI le, zI tb] (zS L) mem Q := by
  refine zw_okA (fun hA => ?_)
  have rg_a : -2147483648 ≤ a ∧ a < 2147483648 := hA.2.1
  have rg_b : -2147483648 ≤ b ∧ b < 2147483648 := hA.2.2.1
  have rg_le : -2147483648 ≤ le ∧ le < 2147483648 := hA.2.2.2.1
  have rg_tb : -2147483648 ≤ tb ∧ tb < 2147483648 := hA.2.2.2.2.1
  refine zw_enter (by decide) (Nat.le_of_ble_eq_true rfl) rfl ?_
  show zw_Wp l mm_X11_fills (zS L) 0 [some (zR 67), some (zI a), some (zI b), some (zI le), some (zI tb)] [] mem 0 0 Q
  have hpr := hp.rg
  have dn1 := zdg_nn (c := zco mem a) hl hna
  have dn2 := zdg_nn (c := zco mem b) hl hnb
  have d1 := zdeg_4 (c := zco mem a) hl
  have d2 := zdeg_4 (c := zco mem b) hl
  have hpc : ∀ x y : Int, 0 ≤ zpt (zco mem a) le x y ∧ zpt (zco mem a) le x y < mem 67 1 := fun x y => zpt_rg (by omega) (zco_rg hp hTx)
  have hpd : ∀ x y : Int, 0 ≤ zpt (zco mem b) le x y ∧ zpt (zco mem b) le x y < mem 67 1 := fun x y => zpt_rg (by omega) (zco_rg hp hTy)
  refine wp_aload_n dd_X11_fills_0 rfl ?_
  refine wp_iload_n dd_X11_fills_1 rfl ?_
  refine wp_iload_n dd_X11_fills_2 rfl ?_
  refine wp_iload_n dd_X11_fills_3 rfl ?_
  refine wp_callV (M' := mm_X11_takes) (As := [zI a, zI b, zI le]) (rest := []) dd_X11_fills_4 lk_X11_201 mV_X11_takes kk_67 (zlt rfl) ⟨_, _, rfl⟩ rfl (by decide) (by decide) (Nat.le_of_ble_eq_true rfl) rfl (sp_X11_takes  a b le (by first | assumption | omega) (by first | assumption | omega) (by first | assumption | omega) (by first | assumption | omega) (fun me f1 g1 => ?_))
  show zw_Wp l mm_X11_fills (zS L) 7 [some (zR 67), some (zI a), some (zI b), some (zI le), some (zI tb)] [] me 0 0 Q
  have hK1 : zKp mem me := ⟨fun q h1 h2 h3 h4 h5 h6 h7 h8 h9 h10 h11 h12 => g1.1 q h1 h3 h4, fun s h1 h2 h3 h4 h5 h6 h7 h8 => g1.2 s h2 h3⟩
  have hm1 : me 67 1 = mem 67 1 := hK1.kp.1
  refine wp_iload dd_X11_fills_7 rfl ?_
  refine wp_if_ne (tgt := 19) dd_X11_fills_9 (by decide) (fun c9_1 => ?_) (fun c9_1 => ?_)
  · skip
    refine wp_aload_n dd_X11_fills_19 rfl ?_
    refine wp_callV (M' := mm_X11_fillsBezout) (As := []) (rest := []) dd_X11_fills_20 lk_X11_208 mV_X11_fillsBezout kk_67 (zlt rfl) ⟨_, _, rfl⟩ rfl (by decide) (by decide) (Nat.le_of_ble_eq_true rfl) rfl (sp_X11_fillsBezout (zco mem a) (zco mem b) le  (by rw [hm1]; exact hp) f1 (by rw [hm1]; exact hpc) (by rw [hm1]; exact hpd) ⟨dn1, dn2⟩ (fun mf s2 f2 g2 => ?_))
    show zw_Wp l mm_X11_fills (zS L) 23 [some (zR 67), some (zI a), some (zI b), some (zI le), some (zI tb)] [] mf 0 0 Q
    refine wp_return (st := []) dd_X11_fills_23 rfl ?_
    have hK2 : zKp mem mf := hK1.tr ⟨fun q h1 h2 h3 h4 h5 h6 h7 h8 h9 h10 h11 h12 => g2.1 q h1 h5, fun s h1 h2 h3 h4 h5 h6 h7 h8 => g2.2 s h4⟩
    refine k mf ?_ ?_ hK2
    · unfold zsm zsz
      first | (rw [if_pos (by omega)]; exact s2) | (rw [if_neg (by omega)]; exact s2)
    · unfold zsm zcm zsz zcl
      first
      | (rw [if_pos (by omega), if_pos (by omega)]; exact f2)
      | (rw [if_neg (by omega), if_neg (by omega), ← hm1]; exact f2)
  · skip
    refine wp_aload_n dd_X11_fills_12 rfl ?_
    refine wp_callV (M' := mm_X11_fillsSylvester) (As := []) (rest := []) dd_X11_fills_13 lk_X11_205 mV_X11_fillsSylvester kk_67 (zlt rfl) ⟨_, _, rfl⟩ rfl (by decide) (by decide) (Nat.le_of_ble_eq_true rfl) rfl (sp_X11_fillsSylvester (zco mem a) (zco mem b) le  f1 ⟨dn1, dn2⟩ (fun mf s2 f2 g2 => ?_))
    show zw_Wp l mm_X11_fills (zS L) 16 [some (zR 67), some (zI a), some (zI b), some (zI le), some (zI tb)] [] mf 0 0 Q
    refine wp_goto (tgt := 23) dd_X11_fills_16 (by decide) ?_
    refine wp_return (st := []) dd_X11_fills_23 rfl ?_
    have hK2 : zKp mem mf := hK1.tr ⟨fun q h1 h2 h3 h4 h5 h6 h7 h8 h9 h10 h11 h12 => g2.1 q h1 h5, fun s h1 h2 h3 h4 h5 h6 h7 h8 => g2.2 s h4⟩
    refine k mf ?_ ?_ hK2
    · unfold zsm zsz
      first | (rw [if_pos (by omega)]; exact s2) | (rw [if_neg (by omega)]; exact s2)
    · unfold zsm zcm zsz zcl
      first
      | (rw [if_pos (by omega), if_pos (by omega)]; exact f2)
      | (rw [if_neg (by omega), if_neg (by omega), ← hm1]; exact f2)

set_option maxRecDepth 100000 in
set_option maxHeartbeats 4000000 in
theorem sp_X11_results {l : Launch} {L : Nat} {mem : zMem} {Q : zQ}  (a : Int) (b : Int) (le : Int) (tb : Int) (hp : zPr (mem 67 1)) (hTx : zT mem a) (hTy : zT mem b) (hl : le = 0 ∨ le = 1) (htb : tb = 0 ∨ tb = 1) (hna : ¬ zdeg (zco mem a) 0 25 < 0) (hnb : ¬ zdeg (zco mem b) 0 25 < 0) (k : ∀ (mem2 : zMem), (∀ d : Int, 0 ≤ d → d < 41 → mem2 80 d = zre mem a b le tb d) → (zKp mem mem2) → Q none (zS L) mem2) : zw_Ok l mm_X11_results [zR 67, zI a, zI b, zI le, zI tb] (zS L) mem Q := by
  refine zw_okA (fun hA => ?_)
  have rg_a : -2147483648 ≤ a ∧ a < 2147483648 := hA.2.1
  have rg_b : -2147483648 ≤ b ∧ b < 2147483648 := hA.2.2.1
  have rg_le : -2147483648 ≤ le ∧ le < 2147483648 := hA.2.2.2.1
  have rg_tb : -2147483648 ≤ tb ∧ tb < 2147483648 := hA.2.2.2.2.1
  refine zw_enter (by decide) (Nat.le_of_ble_eq_true rfl) rfl ?_
  show zw_Wp l mm_X11_results (zS L) 0 [some (zR 67), some (zI a), some (zI b), some (zI le), some (zI tb), none, none] [] mem 0 0 Q
  have hpr := hp.rg
  have dn1 := zdg_nn (c := zco mem a) hl hna
  have dn2 := zdg_nn (c := zco mem b) hl hnb
  have d1 := zdeg_4 (c := zco mem a) hl
  have d2 := zdeg_4 (c := zco mem b) hl
  have hpc : ∀ x y : Int, 0 ≤ zpt (zco mem a) le x y ∧ zpt (zco mem a) le x y < mem 67 1 := fun x y => zpt_rg (by omega) (zco_rg hp hTx)
  have hpd : ∀ x y : Int, 0 ≤ zpt (zco mem b) le x y ∧ zpt (zco mem b) le x y < mem 67 1 := fun x y => zpt_rg (by omega) (zco_rg hp hTy)
  have hsz : 0 ≤ zsm mem a b le tb ∧ zsm mem a b le tb ≤ 8 := by unfold zsm zsz; split <;> omega
  refine wp_aload_n dd_X11_results_0 rfl ?_
  refine wp_iload_n dd_X11_results_1 rfl ?_
  refine wp_iload_n dd_X11_results_2 rfl ?_
  refine wp_iload_n dd_X11_results_3 rfl ?_
  refine wp_iload dd_X11_results_4 rfl ?_
  refine wp_callV (M' := mm_X11_fills) (As := [zI a, zI b, zI le, zI tb]) (rest := []) dd_X11_results_6 lk_X11_217 mV_X11_fills kk_67 (zlt rfl) ⟨_, _, rfl⟩ rfl (by decide) (by decide) (Nat.le_of_ble_eq_true rfl) rfl (sp_X11_fills  a b le tb hp hTx hTy hl htb hna hnb (fun me s1 f1 K1 => ?_))
  show zw_Wp l mm_X11_results (zS L) 9 [some (zR 67), some (zI a), some (zI b), some (zI le), some (zI tb), none, none] [] me 0 0 Q
  have hm1 : me 67 1 = mem 67 1 := K1.kp.1
  refine wp_aload_n dd_X11_results_9 rfl ?_
  refine wp_callV (M' := mm_X11_determinant) (As := []) (rest := []) dd_X11_results_10 lk_X11_221 mV_X11_determinant kk_67 (zlt rfl) ⟨_, _, rfl⟩ rfl (by decide) (by decide) (Nat.le_of_ble_eq_true rfl) rfl (sp_X11_determinant (zcm mem a b le tb) (zsm mem a b le tb)  (by rw [hm1]; exact hp) ⟨s1, hsz⟩ f1 (by rw [hm1]; exact zcl_rg (by omega) hpc hpd) (fun mf f2 g2 => ?_))
  show zw_Wp l mm_X11_results (zS L) 13 [some (zR 67), some (zI a), some (zI b), some (zI le), some (zI tb), none, none] [zI (41 * (1 * 2 ^ (zsm mem a b le tb).toNat - 1))] mf 0 0 Q
  obtain ⟨n1, n2, n3, n4⟩ := z2_sz hsz
  rw [hm1] at f2
  refine wp_istore (ls2 := [some (zR 67), some (zI a), some (zI b), some (zI le), some (zI tb), some (zI (41 * (1 * 2 ^ (zsm mem a b le tb).toNat - 1))), none]) dd_X11_results_13 rfl (by decide) rfl ?_
  refine wp_iconst dd_X11_results_15 (zr_lit rfl) ?_
  refine wp_istore (ls2 := [some (zR 67), some (zI a), some (zI b), some (zI le), some (zI tb), some (zI (41 * (1 * 2 ^ (zsm mem a b le tb).toNat - 1))), some (zI 0)]) dd_X11_results_16 rfl (by decide) rfl ?_
  have lp18 : ∀ (nf : Nat) (d : Int) (mm : zMem), (0 ≤ d) → (d ≤ 41) → (∀ x : Int, 0 ≤ x → x < d → mm 80 x = zre mem a b le tb x) → (∀ q : Nat, q ≠ 80 → mm q = mf q) → (41 - d) < (nf : Int) → zw_Wp l mm_X11_results (zS L) 18 [some (zR 67), some (zI a), some (zI b), some (zI le), some (zI tb), some (zI (41 * (1 * 2 ^ (zsm mem a b le tb).toNat - 1))), some (zI d)] [] mm 0 0 Q := by
    intro nf
    induction nf with
    | zero =>
      intro d mm h0 h1 h2 h3 hmu
      exfalso; omega
    | succ nf ih18 =>
      intro d mm h0 h1 h2 h3 hmu
      refine wp_iload dd_X11_results_18 rfl ?_
      refine wp_bipush dd_X11_results_20 (by decide) ?_
      refine wp_icmp_ge (tgt := 48) dd_X11_results_22 (by decide) (fun c22_1 => ?_) (fun c22_1 => ?_)
      · skip
        refine wp_return (st := []) dd_X11_results_48 rfl ?_
        exact k mm (fun x q1 q2 => h2 x q1 (by omega)) (K1.tr ⟨fun q h1 h2 h3a h4 h5 h6 h7 h8 h9 h10 h11 h12 => by rw [h3 q h7, g2 q h6], fun s _ _ _ _ _ _ _ _ => by rw [h3 67 (by decide), g2 67 (by decide)]⟩)
      · skip
        refine wp_aload_n dd_X11_results_25 rfl ?_
        refine wp_getR dd_X11_results_26 gf_X11_64 rfl kk_67 (by decide) (zlt rfl) rr_67_20 ?_
        refine wp_iload dd_X11_results_29 rfl ?_
        refine wp_aload_n dd_X11_results_31 rfl ?_
        refine wp_getR dd_X11_results_32 gf_X11_61 rfl kk_67 (by decide) (zlt rfl) rr_67_19 ?_
        refine wp_iload dd_X11_results_35 rfl ?_
        refine wp_iload dd_X11_results_37 rfl ?_
        refine wp_iaddC dd_X11_results_39 (by omega) ?_
        refine wp_iald dd_X11_results_40 kk_79 (zlt rfl) (by omega) (by omega) ?_
        refine wp_iast dd_X11_results_41 kk_80 (zlt rfl) (by omega) (by omega) ?_
        refine wp_iincC (ls2 := [some (zR 67), some (zI a), some (zI b), some (zI le), some (zI tb), some (zI (41 * (1 * 2 ^ (zsm mem a b le tb).toNat - 1))), some (zI (d + 1))]) dd_X11_results_42 rfl rfl (by decide) (by omega) rfl ?_
        refine wp_goto (tgt := 18) dd_X11_results_45 (by decide) ?_
        refine ih18 (d + 1) (zu mm 80 d (mm 79 ((41 * (1 * 2 ^ (zsm mem a b le tb).toNat - 1)) + d))) ?_ ?_ ?_ ?_ ?_
        · first | omega | assumption | (intros; omega)
        · first | omega | assumption | (intros; omega)
        · intro x q1 q2
          by_cases hx : x = d
          · subst hx; rw [zu_s, h3 79 (by decide)]; exact f2 x q1 (by omega)
          · rw [zu_n (Or.inr hx)]; exact h2 x q1 (by omega)
        · intro q hq; rw [zu_row hq]; exact h3 q hq
        · omega
  refine lp18 ((41 - 0 : Int)).toNat.succ 0 mf ?_ ?_ ?_ ?_ ?_
  · first | omega | assumption | (intros; omega)
  · first | omega | assumption | (intros; omega)
  · intros; omega
  · intros; rfl
  · omega

set_option maxRecDepth 100000 in
set_option maxHeartbeats 4000000 in
theorem sp_X11_resultAt {l : Launch} {L : Nat} {mem : zMem} {Q : zQ}  (v : Int) (hp : zPr (mem 67 1)) (hv : 0 ≤ v ∧ v ≤ 31) (hr8 : ∀ d : Int, 0 ≤ d → d < 41 → 0 ≤ mem 80 d ∧ mem 80 d ≤ 31) (k : Q (some (zI (zhr (mem 80) v (mem 67 1) 41 41))) (zS L) mem) : zw_Ok l mm_X11_resultAt [zR 67, zI v] (zS L) mem Q := by
  refine zw_okA (fun hA => ?_)
  have rg_v : -2147483648 ≤ v ∧ v < 2147483648 := hA.2.1
  refine zw_enter (by decide) (Nat.le_of_ble_eq_true rfl) rfl ?_
  show zw_Wp l mm_X11_resultAt (zS L) 0 [some (zR 67), some (zI v), none, none] [] mem 0 0 Q
  have hpr := hp.rg
  refine wp_iconst dd_X11_resultAt_0 (zr_lit rfl) ?_
  refine wp_istore_n (ls2 := [some (zR 67), some (zI v), some (zI 0), none]) dd_X11_resultAt_1 rfl (by decide) rfl ?_
  refine wp_bipush dd_X11_resultAt_2 (by decide) ?_
  refine wp_istore_n (ls2 := [some (zR 67), some (zI v), some (zI 0), some (zI 40)]) dd_X11_resultAt_4 rfl (by decide) rfl ?_
  have lp5 : ∀ (nf : Nat) (w : Int) (i : Int), (-1 ≤ i) → (i ≤ 40) → (w = zhr (mem 80) v (mem 67 1) 41 (40 - i).toNat) → (i + 1) < (nf : Int) → zw_Wp l mm_X11_resultAt (zS L) 5 [some (zR 67), some (zI v), some (zI w), some (zI i)] [] mem 0 0 Q := by
    intro nf
    induction nf with
    | zero =>
      intro w i h0 h1 h2 hmu
      exfalso; omega
    | succ nf ih5 =>
      intro w i h0 h1 h2 hmu
      have hw : 0 ≤ w ∧ w < mem 67 1 := by rw [h2]; exact zhr_rg (by omega) _
      have hwv := zmul_rg (a := w) (b := v) (A := 31) (B := 31) (by omega) (by omega) (by omega) (by omega)
      refine wp_iload_n dd_X11_resultAt_5 rfl ?_
      refine wp_if_lt (tgt := 31) dd_X11_resultAt_6 (by decide) (fun c6_1 => ?_) (fun c6_1 => ?_)
      · skip
        refine wp_iload_n dd_X11_resultAt_31 rfl ?_
        refine wp_ireturn (st := []) dd_X11_resultAt_32 rfl ?_
        refine zq_I ?_ ?_ k
        · rw [h2, show (40 - i).toNat = 41 by omega]
        · rfl
      · skip
        refine wp_iload_n dd_X11_resultAt_9 rfl ?_
        refine wp_iload_n dd_X11_resultAt_10 rfl ?_
        refine wp_imulC dd_X11_resultAt_11 (by omega) ?_
        refine wp_aload_n dd_X11_resultAt_12 rfl ?_
        refine wp_getR dd_X11_resultAt_13 gf_X11_64 rfl kk_67 (by decide) (zlt rfl) rr_67_20 ?_
        refine wp_iload_n dd_X11_resultAt_16 rfl ?_
        have hm := hr8 i (by omega) (by omega)
        refine wp_iald dd_X11_resultAt_17 kk_80 (zlt rfl) (by omega) (by omega) ?_
        refine wp_iaddC dd_X11_resultAt_18 (by omega) ?_
        refine wp_aload_n dd_X11_resultAt_19 rfl ?_
        refine wp_getZ 1 rfl dd_X11_resultAt_20 gf_X11_9 rfl kk_67 (by decide) (zlt rfl) ?_
        refine wp_iremP dd_X11_resultAt_23 (by omega) (by omega) ?_
        refine wp_istore_n (ls2 := [some (zR 67), some (zI v), some (zI (((w * v) + (mem 80 i)) % (mem 67 1))), some (zI i)]) dd_X11_resultAt_24 rfl (by decide) rfl ?_
        refine wp_iincC (ls2 := [some (zR 67), some (zI v), some (zI (((w * v) + (mem 80 i)) % (mem 67 1))), some (zI (i + (-1)))]) dd_X11_resultAt_25 rfl rfl (by decide) (by omega) rfl ?_
        refine wp_goto (tgt := 5) dd_X11_resultAt_28 (by decide) ?_
        refine ih5 (((w * v) + (mem 80 i)) % (mem 67 1)) (i + (-1)) ?_ ?_ ?_ ?_
        · first | omega | assumption | (intros; omega)
        · first | omega | assumption | (intros; omega)
        · rw [show (40 - (i + -1)).toNat = (40 - i).toNat + 1 by omega, zhr, ← h2, show (41 : Int) - 1 - ((40 - i).toNat : Int) = i by omega]
        · omega
  refine lp5 ((40 + 1 : Int)).toNat.succ 0 40 ?_ ?_ ?_ ?_
  · first | omega | assumption | (intros; omega)
  · first | omega | assumption | (intros; omega)
  · rfl
  · omega


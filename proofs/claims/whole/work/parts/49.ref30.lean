/-! ===== the reference: corners, areas, sums, mixed ===== -/
def zyC (mem : zMem) (q k : Int) : Int := if ¬ (0 ≤ q ∧ q < mem 67 5) then -1 else if zdeg (zco mem q) 0 25 < 0 then -3 else if k < 0 then -4 else 0
def zyD (mem : zMem) (q : Int) : Int := if ¬ (0 ≤ q ∧ q < mem 67 5) then -1 else if zdeg (zco mem q) 0 25 < 0 then -3 else 0
def zyS (mem : zMem) (a b k : Int) : Int := if zyB mem a b 0 0 ≠ 0 then zyB mem a b 0 0 else if k < -1 then -4 else 0
def zH1 (mem : zMem) (q : Int) (f : Int → Int) (n : Int) : Prop := (0 ≤ q ∧ q < mem 67 5) → ¬ zdeg (zco mem q) 0 25 < 0 → zHu (zP1 (zco mem q)) f n
def zH2 (mem : zMem) (a b : Int) (f : Int → Int) (n : Int) : Prop := zyB mem a b 0 0 = 0 → zHu (zP2 (zco mem a) (zco mem b)) f n
theorem zKp_hu {m m2 : zMem} (h : (∀ q : Nat, q ≠ 67 → q ≠ 84 → q ≠ 85 → m2 q = m q) ∧ ∀ s : Int, s ≠ 28 → m2 67 s = m 67 s) : zKp m m2 := ⟨fun q h1 h2 h3 h4 h5 h6 h7 h8 h9 h10 h11 h12 => h.1 q h1 h11 h12, fun s h1 h2 h3 h4 h5 h6 h7 h8 => h.2 s h7⟩
theorem zCs.bd {m : zMem} {f : Int → Int} {n : Int} (h : zCs m f n) : -18000 ≤ zar f (n - 2).toNat ∧ zar f (n - 2).toNat ≤ 18000 := zar_bd (fun i q1 q2 => (h.2.2 i q1 q2).2) h.2.1
def zmd (x y z : Int) : Int := zwr ((x - (y + z)).tdiv 2)

set_option maxRecDepth 100000 in
set_option maxHeartbeats 4000000 in
theorem sp_X11_corner {l : Launch} {L : Nat} {mem : zMem} {Q : zQ} (f : Int → Int) (n : Int) (q : Int) (k0 : Int) (hp : zPr (mem 67 1)) (hn : 0 ≤ mem 67 5 ∧ mem 67 5 ≤ 6) (hTa : ∀ q : Int, 0 ≤ q → q < mem 67 5 → zT mem q) (hH : zH1 mem q f n) (k : ∀ (r : Int) (mem2 : zMem), ((zyC mem q k0 ≠ 0 ∧ r = zyC mem q k0 ∧ mem2 = zno mem (zyC mem q k0)) ∨ (zyC mem q k0 = 0 ∧ r = zcr f n k0 ∧ zKp mem mem2)) → Q (some (zI r)) (zS L) mem2) : zw_Ok l mm_X11_corner [zR 67, zI q, zI k0] (zS L) mem Q := by
  refine zw_okA (fun hA => ?_)
  have rg_q : -2147483648 ≤ q ∧ q < 2147483648 := hA.2.1
  have rg_k0 : -2147483648 ≤ k0 ∧ k0 < 2147483648 := hA.2.2.1
  refine zw_enter (by decide) (Nat.le_of_ble_eq_true rfl) rfl ?_
  show zw_Wp l mm_X11_corner (zS L) 0 [some (zR 67), some (zI q), some (zI k0), none] [] mem 0 0 Q
  have hpr := hp.rg
  refine wp_aload_n dd_X11_corner_0 rfl ?_
  refine wp_iload_n dd_X11_corner_1 rfl ?_
  refine wp_callV (M' := mm_X11_isPoly) (As := [zI q]) (rest := []) dd_X11_corner_2 lk_X11_154 mV_X11_isPoly kk_67 (zlt rfl) ⟨_, _, rfl⟩ rfl (by decide) (by decide) (Nat.le_of_ble_eq_true rfl) rfl (sp_X11_isPoly  q (by first | assumption | omega) ?_)
  show zw_Wp l mm_X11_corner (zS L) 5 [some (zR 67), some (zI q), some (zI k0), none] [zI (if 0 ≤ q ∧ q < mem 67 5 then 1 else 0)] mem 0 0 Q
  refine wp_if_ne (tgt := 12) dd_X11_corner_5 (by decide) (fun c5_1 => ?_) (fun c5_1 => ?_)
  · skip
    refine wp_aload_n dd_X11_corner_12 rfl ?_
    refine wp_iload_n dd_X11_corner_13 rfl ?_
    refine wp_callV (M' := mm_X11_isNought) (As := [zI q]) (rest := []) dd_X11_corner_14 lk_X11_173 mV_X11_isNought kk_67 (zlt rfl) ⟨_, _, rfl⟩ rfl (by decide) (by decide) (Nat.le_of_ble_eq_true rfl) rfl (sp_X11_isNought  q (by first | assumption | omega) (hTa q (by omega) (by omega)) ?_)
    show zw_Wp l mm_X11_corner (zS L) 17 [some (zR 67), some (zI q), some (zI k0), none] [zI (if zdeg (zco mem q) 0 25 < 0 then 1 else 0)] mem 0 0 Q
    refine wp_if_eq (tgt := 25) dd_X11_corner_17 (by decide) (fun c17_2 => ?_) (fun c17_2 => ?_)
    · skip
      refine wp_iload_n dd_X11_corner_25 rfl ?_
      refine wp_if_ge (tgt := 34) dd_X11_corner_26 (by decide) (fun c26_3 => ?_) (fun c26_3 => ?_)
      · skip
        refine wp_iconst dd_X11_corner_34 (zr_lit rfl) ?_
        refine wp_istore_n (ls2 := [some (zR 67), some (zI q), some (zI k0), some (zI 0)]) dd_X11_corner_35 rfl (by decide) rfl ?_
        refine wp_iload_n dd_X11_corner_36 rfl ?_
        refine wp_if_eq (tgt := 46) dd_X11_corner_37 (by decide) (fun c37_4 => ?_) (fun c37_4 => absurd c37_4 (by decide))
        refine wp_aload_n dd_X11_corner_46 rfl ?_
        refine wp_iload_n dd_X11_corner_47 rfl ?_
        refine wp_callV (M' := mm_X11_wrapsOne) (As := [zI q]) (rest := []) dd_X11_corner_48 lk_X11_286 mV_X11_wrapsOne kk_67 (zlt rfl) ⟨_, _, rfl⟩ rfl (by decide) (by decide) (Nat.le_of_ble_eq_true rfl) rfl (sp_X11_wrapsOne f n q hp (hTa q (by omega) (by omega)) (hH (by omega) (by omega)) (fun mz fz gz => ?_))
        show zw_Wp l mm_X11_corner (zS L) 51 [some (zR 67), some (zI q), some (zI k0), some (zI 0)] [] mz 0 0 Q
        refine wp_aload_n dd_X11_corner_51 rfl ?_
        refine wp_iload_n dd_X11_corner_52 rfl ?_
        refine wp_callV (M' := mm_X11_cornerAt) (As := [zI k0]) (rest := []) dd_X11_corner_53 lk_X11_289 mV_X11_cornerAt kk_67 (zlt rfl) ⟨_, _, rfl⟩ rfl (by decide) (by decide) (Nat.le_of_ble_eq_true rfl) rfl (sp_X11_cornerAt  k0 (by omega) fz.co ?_)
        show zw_Wp l mm_X11_corner (zS L) 56 [some (zR 67), some (zI q), some (zI k0), some (zI 0)] [zI (zcor mz k0)] mz 0 0 Q
        refine wp_ireturn (st := []) dd_X11_corner_56 rfl ?_
        have hw : zyC mem q k0 = 0 := by unfold zyC; repeat first | rw [if_pos (by omega)] | rw [if_neg (by omega)]
        exact k _ _ (Or.inr ⟨hw, fz.cr (by omega), zKp_hu gz⟩)
      · skip
        refine wp_bipush dd_X11_corner_29 (by decide) ?_
        refine wp_goto (tgt := 35) dd_X11_corner_31 (by decide) ?_
        refine wp_istore_n (ls2 := [some (zR 67), some (zI q), some (zI k0), some (zI (-4))]) dd_X11_corner_35 rfl (by decide) rfl ?_
        refine wp_iload_n dd_X11_corner_36 rfl ?_
        refine wp_if_eq (tgt := 46) dd_X11_corner_37 (by decide) (fun c37_5 => absurd c37_5 (by decide)) (fun c37_5 => ?_)
        refine wp_aload_n dd_X11_corner_40 rfl ?_
        refine wp_iload_n dd_X11_corner_41 rfl ?_
        refine wp_callV (M' := mm_X11_no) (As := [zI (-4)]) (rest := []) dd_X11_corner_42 lk_X11_120 mV_X11_no kk_67 (zlt rfl) ⟨_, _, rfl⟩ rfl (by decide) (by decide) (Nat.le_of_ble_eq_true rfl) rfl (sp_X11_no  (-4) (by first | assumption | omega) ?_)
        show zw_Wp l mm_X11_corner (zS L) 45 [some (zR 67), some (zI q), some (zI k0), some (zI (-4))] [zI (-4)] (zu mem 68 (-(-4)) (zwr (mem 68 (-(-4)) + 1))) 0 0 Q
        refine wp_ireturn (st := []) dd_X11_corner_45 rfl ?_
        have hw : zyC mem q k0 = (-4) := by unfold zyC; repeat first | rw [if_pos (by omega)] | rw [if_neg (by omega)]
        exact k _ _ (Or.inl ⟨by rw [hw]; decide, hw.symm, by rw [hw]; rfl⟩)
    · skip
      refine wp_bipush dd_X11_corner_20 (by decide) ?_
      refine wp_goto (tgt := 35) dd_X11_corner_22 (by decide) ?_
      refine wp_istore_n (ls2 := [some (zR 67), some (zI q), some (zI k0), some (zI (-3))]) dd_X11_corner_35 rfl (by decide) rfl ?_
      refine wp_iload_n dd_X11_corner_36 rfl ?_
      refine wp_if_eq (tgt := 46) dd_X11_corner_37 (by decide) (fun c37_6 => absurd c37_6 (by decide)) (fun c37_6 => ?_)
      refine wp_aload_n dd_X11_corner_40 rfl ?_
      refine wp_iload_n dd_X11_corner_41 rfl ?_
      refine wp_callV (M' := mm_X11_no) (As := [zI (-3)]) (rest := []) dd_X11_corner_42 lk_X11_120 mV_X11_no kk_67 (zlt rfl) ⟨_, _, rfl⟩ rfl (by decide) (by decide) (Nat.le_of_ble_eq_true rfl) rfl (sp_X11_no  (-3) (by first | assumption | omega) ?_)
      show zw_Wp l mm_X11_corner (zS L) 45 [some (zR 67), some (zI q), some (zI k0), some (zI (-3))] [zI (-3)] (zu mem 68 (-(-3)) (zwr (mem 68 (-(-3)) + 1))) 0 0 Q
      refine wp_ireturn (st := []) dd_X11_corner_45 rfl ?_
      have hw : zyC mem q k0 = (-3) := by unfold zyC; repeat first | rw [if_pos (by omega)] | rw [if_neg (by omega)]
      exact k _ _ (Or.inl ⟨by rw [hw]; decide, hw.symm, by rw [hw]; rfl⟩)
  · skip
    refine wp_iconst dd_X11_corner_8 (zr_lit rfl) ?_
    refine wp_goto (tgt := 35) dd_X11_corner_9 (by decide) ?_
    refine wp_istore_n (ls2 := [some (zR 67), some (zI q), some (zI k0), some (zI (-1))]) dd_X11_corner_35 rfl (by decide) rfl ?_
    refine wp_iload_n dd_X11_corner_36 rfl ?_
    refine wp_if_eq (tgt := 46) dd_X11_corner_37 (by decide) (fun c37_7 => absurd c37_7 (by decide)) (fun c37_7 => ?_)
    refine wp_aload_n dd_X11_corner_40 rfl ?_
    refine wp_iload_n dd_X11_corner_41 rfl ?_
    refine wp_callV (M' := mm_X11_no) (As := [zI (-1)]) (rest := []) dd_X11_corner_42 lk_X11_120 mV_X11_no kk_67 (zlt rfl) ⟨_, _, rfl⟩ rfl (by decide) (by decide) (Nat.le_of_ble_eq_true rfl) rfl (sp_X11_no  (-1) (by first | assumption | omega) ?_)
    show zw_Wp l mm_X11_corner (zS L) 45 [some (zR 67), some (zI q), some (zI k0), some (zI (-1))] [zI (-1)] (zu mem 68 (-(-1)) (zwr (mem 68 (-(-1)) + 1))) 0 0 Q
    refine wp_ireturn (st := []) dd_X11_corner_45 rfl ?_
    have hw : zyC mem q k0 = (-1) := by unfold zyC; repeat first | rw [if_pos (by omega)] | rw [if_neg (by omega)]
    exact k _ _ (Or.inl ⟨by rw [hw]; decide, hw.symm, by rw [hw]; rfl⟩)

set_option maxRecDepth 100000 in
set_option maxHeartbeats 4000000 in
theorem sp_X11_areaOf {l : Launch} {L : Nat} {mem : zMem} {Q : zQ} (f : Int → Int) (n : Int) (q : Int) (hp : zPr (mem 67 1)) (hT : zT mem q) (hH : zHu (zP1 (zco mem q)) f n) (k : ∀ (mem2 : zMem), (zCs mem2 f n) → ((∀ q : Nat, q ≠ 67 → q ≠ 84 → q ≠ 85 → mem2 q = mem q) ∧ ∀ s : Int, s ≠ 28 → mem2 67 s = mem 67 s) → Q (some (zI (zar f (n - 2).toNat))) (zS L) mem2) : zw_Ok l mm_X11_areaOf [zR 67, zI q] (zS L) mem Q := by
  refine zw_okA (fun hA => ?_)
  have rg_q : -2147483648 ≤ q ∧ q < 2147483648 := hA.2.1
  refine zw_enter (by decide) (Nat.le_of_ble_eq_true rfl) rfl ?_
  show zw_Wp l mm_X11_areaOf (zS L) 0 [some (zR 67), some (zI q)] [] mem 0 0 Q
  refine wp_aload_n dd_X11_areaOf_0 rfl ?_
  refine wp_iload_n dd_X11_areaOf_1 rfl ?_
  refine wp_callV (M' := mm_X11_wrapsOne) (As := [zI q]) (rest := []) dd_X11_areaOf_2 lk_X11_286 mV_X11_wrapsOne kk_67 (zlt rfl) ⟨_, _, rfl⟩ rfl (by decide) (by decide) (Nat.le_of_ble_eq_true rfl) rfl (sp_X11_wrapsOne f n q hp hT hH (fun mz fz gz => ?_))
  show zw_Wp l mm_X11_areaOf (zS L) 5 [some (zR 67), some (zI q)] [] mz 0 0 Q
  refine wp_aload_n dd_X11_areaOf_5 rfl ?_
  refine wp_callV (M' := mm_X11_areaNow) (As := []) (rest := []) dd_X11_areaOf_6 lk_X11_292 mV_X11_areaNow kk_67 (zlt rfl) ⟨_, _, rfl⟩ rfl (by decide) (by decide) (Nat.le_of_ble_eq_true rfl) rfl (sp_X11_areaNow   fz.co ?_)
  show zw_Wp l mm_X11_areaOf (zS L) 9 [some (zR 67), some (zI q)] [zI (zar (mz 85) (mz 67 28 - 2).toNat)] mz 0 0 Q
  refine wp_ireturn (st := []) dd_X11_areaOf_9 rfl ?_
  refine zq_I (fz.ar) rfl (k mz fz gz)

set_option maxRecDepth 100000 in
set_option maxHeartbeats 4000000 in
theorem sp_X11_area {l : Launch} {L : Nat} {mem : zMem} {Q : zQ} (f : Int → Int) (n : Int) (q : Int) (hp : zPr (mem 67 1)) (hn : 0 ≤ mem 67 5 ∧ mem 67 5 ≤ 6) (hTa : ∀ q : Int, 0 ≤ q → q < mem 67 5 → zT mem q) (hH : zH1 mem q f n) (k : ∀ (r : Int) (mem2 : zMem), ((zyD mem q ≠ 0 ∧ r = zyD mem q ∧ mem2 = zno mem (zyD mem q)) ∨ (zyD mem q = 0 ∧ r = zar f (n - 2).toNat ∧ zKp mem mem2)) → Q (some (zI r)) (zS L) mem2) : zw_Ok l mm_X11_area [zR 67, zI q] (zS L) mem Q := by
  refine zw_okA (fun hA => ?_)
  have rg_q : -2147483648 ≤ q ∧ q < 2147483648 := hA.2.1
  refine zw_enter (by decide) (Nat.le_of_ble_eq_true rfl) rfl ?_
  show zw_Wp l mm_X11_area (zS L) 0 [some (zR 67), some (zI q), none] [] mem 0 0 Q
  have hpr := hp.rg
  refine wp_aload_n dd_X11_area_0 rfl ?_
  refine wp_iload_n dd_X11_area_1 rfl ?_
  refine wp_callV (M' := mm_X11_isPoly) (As := [zI q]) (rest := []) dd_X11_area_2 lk_X11_154 mV_X11_isPoly kk_67 (zlt rfl) ⟨_, _, rfl⟩ rfl (by decide) (by decide) (Nat.le_of_ble_eq_true rfl) rfl (sp_X11_isPoly  q (by first | assumption | omega) ?_)
  show zw_Wp l mm_X11_area (zS L) 5 [some (zR 67), some (zI q), none] [zI (if 0 ≤ q ∧ q < mem 67 5 then 1 else 0)] mem 0 0 Q
  refine wp_if_ne (tgt := 12) dd_X11_area_5 (by decide) (fun c5_1 => ?_) (fun c5_1 => ?_)
  · skip
    refine wp_aload_n dd_X11_area_12 rfl ?_
    refine wp_iload_n dd_X11_area_13 rfl ?_
    refine wp_callV (M' := mm_X11_isNought) (As := [zI q]) (rest := []) dd_X11_area_14 lk_X11_173 mV_X11_isNought kk_67 (zlt rfl) ⟨_, _, rfl⟩ rfl (by decide) (by decide) (Nat.le_of_ble_eq_true rfl) rfl (sp_X11_isNought  q (by first | assumption | omega) (hTa q (by omega) (by omega)) ?_)
    show zw_Wp l mm_X11_area (zS L) 17 [some (zR 67), some (zI q), none] [zI (if zdeg (zco mem q) 0 25 < 0 then 1 else 0)] mem 0 0 Q
    refine wp_if_eq (tgt := 25) dd_X11_area_17 (by decide) (fun c17_2 => ?_) (fun c17_2 => ?_)
    · skip
      refine wp_iconst dd_X11_area_25 (zr_lit rfl) ?_
      refine wp_istore_n (ls2 := [some (zR 67), some (zI q), some (zI 0)]) dd_X11_area_26 rfl (by decide) rfl ?_
      refine wp_iload_n dd_X11_area_27 rfl ?_
      refine wp_if_eq (tgt := 39) dd_X11_area_28 (by decide) (fun c28_3 => ?_) (fun c28_3 => absurd c28_3 (by decide))
      refine wp_aload_n dd_X11_area_39 rfl ?_
      refine wp_iload_n dd_X11_area_40 rfl ?_
      refine wp_callV (M' := mm_X11_areaOf) (As := [zI q]) (rest := []) dd_X11_area_41 lk_X11_295 mV_X11_areaOf kk_67 (zlt rfl) ⟨_, _, rfl⟩ rfl (by decide) (by decide) (Nat.le_of_ble_eq_true rfl) rfl (sp_X11_areaOf f n q hp (hTa q (by omega) (by omega)) (hH (by omega) (by omega)) (fun mz fz gz => ?_))
      show zw_Wp l mm_X11_area (zS L) 44 [some (zR 67), some (zI q), some (zI 0)] [zI (zar f (n - 2).toNat)] mz 0 0 Q
      refine wp_ireturn (st := []) dd_X11_area_44 rfl ?_
      have hw : zyD mem q = 0 := by unfold zyD; repeat first | rw [if_pos (by omega)] | rw [if_neg (by omega)]
      exact k _ _ (Or.inr ⟨hw, rfl, zKp_hu gz⟩)
    · skip
      refine wp_bipush dd_X11_area_20 (by decide) ?_
      refine wp_goto (tgt := 26) dd_X11_area_22 (by decide) ?_
      refine wp_istore_n (ls2 := [some (zR 67), some (zI q), some (zI (-3))]) dd_X11_area_26 rfl (by decide) rfl ?_
      refine wp_iload_n dd_X11_area_27 rfl ?_
      refine wp_if_eq (tgt := 39) dd_X11_area_28 (by decide) (fun c28_4 => absurd c28_4 (by decide)) (fun c28_4 => ?_)
      refine wp_aload_n dd_X11_area_31 rfl ?_
      refine wp_iload_n dd_X11_area_32 rfl ?_
      refine wp_callV (M' := mm_X11_no) (As := [zI (-3)]) (rest := []) dd_X11_area_33 lk_X11_120 mV_X11_no kk_67 (zlt rfl) ⟨_, _, rfl⟩ rfl (by decide) (by decide) (Nat.le_of_ble_eq_true rfl) rfl (sp_X11_no  (-3) (by first | assumption | omega) ?_)
      show zw_Wp l mm_X11_area (zS L) 36 [some (zR 67), some (zI q), some (zI (-3))] [zI (-3)] (zu mem 68 (-(-3)) (zwr (mem 68 (-(-3)) + 1))) 0 0 Q
      refine wp_goto (tgt := 44) dd_X11_area_36 (by decide) ?_
      refine wp_ireturn (st := []) dd_X11_area_44 rfl ?_
      have hw : zyD mem q = (-3) := by unfold zyD; repeat first | rw [if_pos (by omega)] | rw [if_neg (by omega)]
      exact k _ _ (Or.inl ⟨by rw [hw]; decide, hw.symm, by rw [hw]; rfl⟩)
  · skip
    refine wp_iconst dd_X11_area_8 (zr_lit rfl) ?_
    refine wp_goto (tgt := 26) dd_X11_area_9 (by decide) ?_
    refine wp_istore_n (ls2 := [some (zR 67), some (zI q), some (zI (-1))]) dd_X11_area_26 rfl (by decide) rfl ?_
    refine wp_iload_n dd_X11_area_27 rfl ?_
    refine wp_if_eq (tgt := 39) dd_X11_area_28 (by decide) (fun c28_5 => absurd c28_5 (by decide)) (fun c28_5 => ?_)
    refine wp_aload_n dd_X11_area_31 rfl ?_
    refine wp_iload_n dd_X11_area_32 rfl ?_
    refine wp_callV (M' := mm_X11_no) (As := [zI (-1)]) (rest := []) dd_X11_area_33 lk_X11_120 mV_X11_no kk_67 (zlt rfl) ⟨_, _, rfl⟩ rfl (by decide) (by decide) (Nat.le_of_ble_eq_true rfl) rfl (sp_X11_no  (-1) (by first | assumption | omega) ?_)
    show zw_Wp l mm_X11_area (zS L) 36 [some (zR 67), some (zI q), some (zI (-1))] [zI (-1)] (zu mem 68 (-(-1)) (zwr (mem 68 (-(-1)) + 1))) 0 0 Q
    refine wp_goto (tgt := 44) dd_X11_area_36 (by decide) ?_
    refine wp_ireturn (st := []) dd_X11_area_44 rfl ?_
    have hw : zyD mem q = (-1) := by unfold zyD; repeat first | rw [if_pos (by omega)] | rw [if_neg (by omega)]
    exact k _ _ (Or.inl ⟨by rw [hw]; decide, hw.symm, by rw [hw]; rfl⟩)

set_option maxRecDepth 100000 in
set_option maxHeartbeats 4000000 in
theorem sp_X11_sum {l : Launch} {L : Nat} {mem : zMem} {Q : zQ} (f : Int → Int) (n : Int) (a : Int) (b : Int) (k0 : Int) (hp : zPr (mem 67 1)) (hn : 0 ≤ mem 67 5 ∧ mem 67 5 ≤ 6) (hTa : ∀ q : Int, 0 ≤ q → q < mem 67 5 → zT mem q) (hH : zH2 mem a b f n) (k : ∀ (r : Int) (mem2 : zMem), ((zyS mem a b k0 ≠ 0 ∧ r = zyS mem a b k0 ∧ mem2 = zno mem (zyS mem a b k0)) ∨ (zyS mem a b k0 = 0 ∧ r = (if k0 < 0 then zar f (n - 2).toNat else zcr f n k0) ∧ zKp mem mem2)) → Q (some (zI r)) (zS L) mem2) : zw_Ok l mm_X11_sum [zR 67, zI a, zI b, zI k0] (zS L) mem Q := by
  refine zw_okA (fun hA => ?_)
  have rg_a : -2147483648 ≤ a ∧ a < 2147483648 := hA.2.1
  have rg_b : -2147483648 ≤ b ∧ b < 2147483648 := hA.2.2.1
  have rg_k0 : -2147483648 ≤ k0 ∧ k0 < 2147483648 := hA.2.2.2.1
  refine zw_enter (by decide) (Nat.le_of_ble_eq_true rfl) rfl ?_
  show zw_Wp l mm_X11_sum (zS L) 0 [some (zR 67), some (zI a), some (zI b), some (zI k0), none] [] mem 0 0 Q
  have hpr := hp.rg
  refine wp_aload_n dd_X11_sum_0 rfl ?_
  refine wp_iload_n dd_X11_sum_1 rfl ?_
  refine wp_iload_n dd_X11_sum_2 rfl ?_
  refine wp_iconst dd_X11_sum_3 (zr_lit rfl) ?_
  refine wp_callV (M' := mm_X11_notBoth) (As := [zI a, zI b, zI 0]) (rest := []) dd_X11_sum_4 lk_X11_251 mV_X11_notBoth kk_67 (zlt rfl) ⟨_, _, rfl⟩ rfl (by decide) (by decide) (Nat.le_of_ble_eq_true rfl) rfl (sp_X11_notBoth  a b 0 (by first | assumption | omega) (by first | assumption | omega) (by first | assumption | omega) ?_)
  show zw_Wp l mm_X11_sum (zS L) 7 [some (zR 67), some (zI a), some (zI b), some (zI k0), none] [zI (if ¬ ((0 ≤ a ∧ a < mem 67 5) ∧ (0 ≤ b ∧ b < mem 67 5) ∧ 0 ≤ 0 ∧ 0 ≤ 1) then -1 else if ¬ (0 ≤ 0 ∧ 0 ≤ 1) then -2 else if zdeg (zco mem a) 0 25 < 0 ∨ zdeg (zco mem b) 0 25 < 0 then -3 else 0)] mem 0 0 Q
  change zw_Wp l _ _ 7 _ (zI (zyB mem a b 0 0) :: _) _ _ _ _
  have hyc := zyB_c mem a b 0 0
  refine wp_istore (ls2 := [some (zR 67), some (zI a), some (zI b), some (zI k0), some (zI (zyB mem a b 0 0))]) dd_X11_sum_7 rfl (by decide) rfl ?_
  refine wp_iload dd_X11_sum_9 rfl ?_
  refine wp_if_ne (tgt := 23) dd_X11_sum_11 (by decide) (fun c11_1 => ?_) (fun c11_1 => ?_)
  · skip
    refine wp_iload dd_X11_sum_23 rfl ?_
    refine wp_if_eq (tgt := 35) dd_X11_sum_25 (by decide) (fun c25_2 => ?_) (fun c25_2 => ?_)
    · skip
      have hz : zyB mem a b 0 0 = 0 := by omega
      obtain ⟨⟨hia, hib, hl, htb⟩, hna, hnb⟩ := zyB_0 hz
      have hTx := hTa a hia.1 hia.2
      have hTy := hTa b hib.1 hib.2
      refine wp_aload_n dd_X11_sum_35 rfl ?_
      refine wp_iload_n dd_X11_sum_36 rfl ?_
      refine wp_iload_n dd_X11_sum_37 rfl ?_
      refine wp_callV (M' := mm_X11_wrapsSum) (As := [zI a, zI b]) (rest := []) dd_X11_sum_38 lk_X11_298 mV_X11_wrapsSum kk_67 (zlt rfl) ⟨_, _, rfl⟩ rfl (by decide) (by decide) (Nat.le_of_ble_eq_true rfl) rfl (sp_X11_wrapsSum f n a b hp hTx hTy (hH hz) (fun mz fz gz => ?_))
      show zw_Wp l mm_X11_sum (zS L) 41 [some (zR 67), some (zI a), some (zI b), some (zI k0), some (zI (zyB mem a b 0 0))] [] mz 0 0 Q
      refine wp_iload_n dd_X11_sum_41 rfl ?_
      refine wp_if_ge (tgt := 52) dd_X11_sum_42 (by decide) (fun c42_3 => ?_) (fun c42_3 => ?_)
      · skip
        refine wp_aload_n dd_X11_sum_52 rfl ?_
        refine wp_iload_n dd_X11_sum_53 rfl ?_
        refine wp_callV (M' := mm_X11_cornerAt) (As := [zI k0]) (rest := []) dd_X11_sum_54 lk_X11_289 mV_X11_cornerAt kk_67 (zlt rfl) ⟨_, _, rfl⟩ rfl (by decide) (by decide) (Nat.le_of_ble_eq_true rfl) rfl (sp_X11_cornerAt  k0 (by omega) fz.co ?_)
        show zw_Wp l mm_X11_sum (zS L) 57 [some (zR 67), some (zI a), some (zI b), some (zI k0), some (zI (zyB mem a b 0 0))] [zI (zcor mz k0)] mz 0 0 Q
        refine wp_ireturn (st := []) dd_X11_sum_57 rfl ?_
        have hw : zyS mem a b k0 = 0 := by unfold zyS; split <;> first | omega | (split <;> omega)
        exact k _ _ (Or.inr ⟨hw, by rw [if_neg (by omega)]; exact fz.cr (by omega), zKp_hu gz⟩)
      · skip
        refine wp_aload_n dd_X11_sum_45 rfl ?_
        refine wp_callV (M' := mm_X11_areaNow) (As := []) (rest := []) dd_X11_sum_46 lk_X11_292 mV_X11_areaNow kk_67 (zlt rfl) ⟨_, _, rfl⟩ rfl (by decide) (by decide) (Nat.le_of_ble_eq_true rfl) rfl (sp_X11_areaNow   fz.co ?_)
        show zw_Wp l mm_X11_sum (zS L) 49 [some (zR 67), some (zI a), some (zI b), some (zI k0), some (zI (zyB mem a b 0 0))] [zI (zar (mz 85) (mz 67 28 - 2).toNat)] mz 0 0 Q
        refine wp_goto (tgt := 57) dd_X11_sum_49 (by decide) ?_
        refine wp_ireturn (st := []) dd_X11_sum_57 rfl ?_
        have hw : zyS mem a b k0 = 0 := by unfold zyS; split <;> first | omega | (split <;> omega)
        exact k _ _ (Or.inr ⟨hw, by rw [if_pos (by omega)]; exact fz.ar, zKp_hu gz⟩)
    · skip
      refine wp_aload_n dd_X11_sum_28 rfl ?_
      refine wp_iload dd_X11_sum_29 rfl ?_
      refine wp_callV (M' := mm_X11_no) (As := [zI (zyB mem a b 0 0)]) (rest := []) dd_X11_sum_31 lk_X11_120 mV_X11_no kk_67 (zlt rfl) ⟨_, _, rfl⟩ rfl (by decide) (by decide) (Nat.le_of_ble_eq_true rfl) rfl (sp_X11_no  (zyB mem a b 0 0) (by first | assumption | omega) ?_)
      show zw_Wp l mm_X11_sum (zS L) 34 [some (zR 67), some (zI a), some (zI b), some (zI k0), some (zI (zyB mem a b 0 0))] [zI (zyB mem a b 0 0)] (zu mem 68 (-(zyB mem a b 0 0)) (zwr (mem 68 (-(zyB mem a b 0 0)) + 1))) 0 0 Q
      refine wp_ireturn (st := []) dd_X11_sum_34 rfl ?_
      have hw : zyS mem a b k0 = (zyB mem a b 0 0) := by unfold zyS; split <;> first | omega | (split <;> omega)
      exact k _ _ (Or.inl ⟨by rw [hw]; omega, hw.symm, by rw [hw]; rfl⟩)
  · skip
    refine wp_iload_n dd_X11_sum_14 rfl ?_
    refine wp_iconst dd_X11_sum_15 (zr_lit rfl) ?_
    refine wp_icmp_ge (tgt := 23) dd_X11_sum_16 (by decide) (fun c16_4 => ?_) (fun c16_4 => ?_)
    · skip
      refine wp_iload dd_X11_sum_23 rfl ?_
      refine wp_if_eq (tgt := 35) dd_X11_sum_25 (by decide) (fun c25_5 => ?_) (fun c25_5 => ?_)
      · skip
        have hz : zyB mem a b 0 0 = 0 := by omega
        obtain ⟨⟨hia, hib, hl, htb⟩, hna, hnb⟩ := zyB_0 hz
        have hTx := hTa a hia.1 hia.2
        have hTy := hTa b hib.1 hib.2
        refine wp_aload_n dd_X11_sum_35 rfl ?_
        refine wp_iload_n dd_X11_sum_36 rfl ?_
        refine wp_iload_n dd_X11_sum_37 rfl ?_
        refine wp_callV (M' := mm_X11_wrapsSum) (As := [zI a, zI b]) (rest := []) dd_X11_sum_38 lk_X11_298 mV_X11_wrapsSum kk_67 (zlt rfl) ⟨_, _, rfl⟩ rfl (by decide) (by decide) (Nat.le_of_ble_eq_true rfl) rfl (sp_X11_wrapsSum f n a b hp hTx hTy (hH hz) (fun mz fz gz => ?_))
        show zw_Wp l mm_X11_sum (zS L) 41 [some (zR 67), some (zI a), some (zI b), some (zI k0), some (zI (zyB mem a b 0 0))] [] mz 0 0 Q
        refine wp_iload_n dd_X11_sum_41 rfl ?_
        refine wp_if_ge (tgt := 52) dd_X11_sum_42 (by decide) (fun c42_6 => ?_) (fun c42_6 => ?_)
        · skip
          refine wp_aload_n dd_X11_sum_52 rfl ?_
          refine wp_iload_n dd_X11_sum_53 rfl ?_
          refine wp_callV (M' := mm_X11_cornerAt) (As := [zI k0]) (rest := []) dd_X11_sum_54 lk_X11_289 mV_X11_cornerAt kk_67 (zlt rfl) ⟨_, _, rfl⟩ rfl (by decide) (by decide) (Nat.le_of_ble_eq_true rfl) rfl (sp_X11_cornerAt  k0 (by omega) fz.co ?_)
          show zw_Wp l mm_X11_sum (zS L) 57 [some (zR 67), some (zI a), some (zI b), some (zI k0), some (zI (zyB mem a b 0 0))] [zI (zcor mz k0)] mz 0 0 Q
          refine wp_ireturn (st := []) dd_X11_sum_57 rfl ?_
          have hw : zyS mem a b k0 = 0 := by unfold zyS; split <;> first | omega | (split <;> omega)
          exact k _ _ (Or.inr ⟨hw, by rw [if_neg (by omega)]; exact fz.cr (by omega), zKp_hu gz⟩)
        · skip
          refine wp_aload_n dd_X11_sum_45 rfl ?_
          refine wp_callV (M' := mm_X11_areaNow) (As := []) (rest := []) dd_X11_sum_46 lk_X11_292 mV_X11_areaNow kk_67 (zlt rfl) ⟨_, _, rfl⟩ rfl (by decide) (by decide) (Nat.le_of_ble_eq_true rfl) rfl (sp_X11_areaNow   fz.co ?_)
          show zw_Wp l mm_X11_sum (zS L) 49 [some (zR 67), some (zI a), some (zI b), some (zI k0), some (zI (zyB mem a b 0 0))] [zI (zar (mz 85) (mz 67 28 - 2).toNat)] mz 0 0 Q
          refine wp_goto (tgt := 57) dd_X11_sum_49 (by decide) ?_
          refine wp_ireturn (st := []) dd_X11_sum_57 rfl ?_
          have hw : zyS mem a b k0 = 0 := by unfold zyS; split <;> first | omega | (split <;> omega)
          exact k _ _ (Or.inr ⟨hw, by rw [if_pos (by omega)]; exact fz.ar, zKp_hu gz⟩)
      · skip
        refine wp_aload_n dd_X11_sum_28 rfl ?_
        refine wp_iload dd_X11_sum_29 rfl ?_
        refine wp_callV (M' := mm_X11_no) (As := [zI (zyB mem a b 0 0)]) (rest := []) dd_X11_sum_31 lk_X11_120 mV_X11_no kk_67 (zlt rfl) ⟨_, _, rfl⟩ rfl (by decide) (by decide) (Nat.le_of_ble_eq_true rfl) rfl (sp_X11_no  (zyB mem a b 0 0) (by first | assumption | omega) ?_)
        show zw_Wp l mm_X11_sum (zS L) 34 [some (zR 67), some (zI a), some (zI b), some (zI k0), some (zI (zyB mem a b 0 0))] [zI (zyB mem a b 0 0)] (zu mem 68 (-(zyB mem a b 0 0)) (zwr (mem 68 (-(zyB mem a b 0 0)) + 1))) 0 0 Q
        refine wp_ireturn (st := []) dd_X11_sum_34 rfl ?_
        have hw : zyS mem a b k0 = (zyB mem a b 0 0) := by unfold zyS; split <;> first | omega | (split <;> omega)
        exact k _ _ (Or.inl ⟨by rw [hw]; omega, hw.symm, by rw [hw]; rfl⟩)
    · skip
      refine wp_bipush dd_X11_sum_19 (by decide) ?_
      refine wp_istore (ls2 := [some (zR 67), some (zI a), some (zI b), some (zI k0), some (zI (-4))]) dd_X11_sum_21 rfl (by decide) rfl ?_
      refine wp_iload dd_X11_sum_23 rfl ?_
      refine wp_if_eq (tgt := 35) dd_X11_sum_25 (by decide) (fun c25_7 => absurd c25_7 (by decide)) (fun c25_7 => ?_)
      refine wp_aload_n dd_X11_sum_28 rfl ?_
      refine wp_iload dd_X11_sum_29 rfl ?_
      refine wp_callV (M' := mm_X11_no) (As := [zI (-4)]) (rest := []) dd_X11_sum_31 lk_X11_120 mV_X11_no kk_67 (zlt rfl) ⟨_, _, rfl⟩ rfl (by decide) (by decide) (Nat.le_of_ble_eq_true rfl) rfl (sp_X11_no  (-4) (by first | assumption | omega) ?_)
      show zw_Wp l mm_X11_sum (zS L) 34 [some (zR 67), some (zI a), some (zI b), some (zI k0), some (zI (-4))] [zI (-4)] (zu mem 68 (-(-4)) (zwr (mem 68 (-(-4)) + 1))) 0 0 Q
      refine wp_ireturn (st := []) dd_X11_sum_34 rfl ?_
      have hw : zyS mem a b k0 = (-4) := by unfold zyS; split <;> first | omega | (split <;> omega)
      exact k _ _ (Or.inl ⟨by rw [hw]; omega, hw.symm, by rw [hw]; rfl⟩)

set_option maxRecDepth 100000 in
set_option maxHeartbeats 4000000 in
theorem sp_X11_mixed {l : Launch} {L : Nat} {mem : zMem} {Q : zQ} (f1 f2 f3 : Int → Int) (n1 n2 n3 : Int) (a : Int) (b : Int) (hp : zPr (mem 67 1)) (hn : 0 ≤ mem 67 5 ∧ mem 67 5 ≤ 6) (hTa : ∀ q : Int, 0 ≤ q → q < mem 67 5 → zT mem q) (hH1 : zH1 mem a f1 n1) (hH2 : zH1 mem b f2 n2) (hH3 : zH2 mem a b f3 n3) (k : ∀ (r : Int) (mem2 : zMem), ((zyB mem a b 0 0 ≠ 0 ∧ r = zyB mem a b 0 0 ∧ mem2 = zno mem (zyB mem a b 0 0)) ∨ (zyB mem a b 0 0 = 0 ∧ r = zmd (zar f3 (n3 - 2).toNat) (zar f1 (n1 - 2).toNat) (zar f2 (n2 - 2).toNat) ∧ zKp mem mem2)) → Q (some (zI r)) (zS L) mem2) : zw_Ok l mm_X11_mixed [zR 67, zI a, zI b] (zS L) mem Q := by
  refine zw_okA (fun hA => ?_)
  have rg_a : -2147483648 ≤ a ∧ a < 2147483648 := hA.2.1
  have rg_b : -2147483648 ≤ b ∧ b < 2147483648 := hA.2.2.1
  refine zw_enter (by decide) (Nat.le_of_ble_eq_true rfl) rfl ?_
  show zw_Wp l mm_X11_mixed (zS L) 0 [some (zR 67), some (zI a), some (zI b), none, none] [] mem 0 0 Q
  have hpr := hp.rg
  refine wp_aload_n dd_X11_mixed_0 rfl ?_
  refine wp_iload_n dd_X11_mixed_1 rfl ?_
  refine wp_iload_n dd_X11_mixed_2 rfl ?_
  refine wp_iconst dd_X11_mixed_3 (zr_lit rfl) ?_
  refine wp_callV (M' := mm_X11_notBoth) (As := [zI a, zI b, zI 0]) (rest := []) dd_X11_mixed_4 lk_X11_251 mV_X11_notBoth kk_67 (zlt rfl) ⟨_, _, rfl⟩ rfl (by decide) (by decide) (Nat.le_of_ble_eq_true rfl) rfl (sp_X11_notBoth  a b 0 (by first | assumption | omega) (by first | assumption | omega) (by first | assumption | omega) ?_)
  show zw_Wp l mm_X11_mixed (zS L) 7 [some (zR 67), some (zI a), some (zI b), none, none] [zI (if ¬ ((0 ≤ a ∧ a < mem 67 5) ∧ (0 ≤ b ∧ b < mem 67 5) ∧ 0 ≤ 0 ∧ 0 ≤ 1) then -1 else if ¬ (0 ≤ 0 ∧ 0 ≤ 1) then -2 else if zdeg (zco mem a) 0 25 < 0 ∨ zdeg (zco mem b) 0 25 < 0 then -3 else 0)] mem 0 0 Q
  change zw_Wp l _ _ 7 _ (zI (zyB mem a b 0 0) :: _) _ _ _ _
  have hyc := zyB_c mem a b 0 0
  refine wp_istore_n (ls2 := [some (zR 67), some (zI a), some (zI b), some (zI (zyB mem a b 0 0)), none]) dd_X11_mixed_7 rfl (by decide) rfl ?_
  refine wp_iload_n dd_X11_mixed_8 rfl ?_
  refine wp_if_eq (tgt := 18) dd_X11_mixed_9 (by decide) (fun c9_1 => ?_) (fun c9_1 => ?_)
  · skip
    have hz : zyB mem a b 0 0 = 0 := by omega
    obtain ⟨⟨hia, hib, hl, htb⟩, hna, hnb⟩ := zyB_0 hz
    have hTx := hTa a hia.1 hia.2
    have hTy := hTa b hib.1 hib.2
    refine wp_aload_n dd_X11_mixed_18 rfl ?_
    refine wp_iload_n dd_X11_mixed_19 rfl ?_
    refine wp_callV (M' := mm_X11_areaOf) (As := [zI a]) (rest := []) dd_X11_mixed_20 lk_X11_295 mV_X11_areaOf kk_67 (zlt rfl) ⟨_, _, rfl⟩ rfl (by decide) (by decide) (Nat.le_of_ble_eq_true rfl) rfl (sp_X11_areaOf f1 n1 a hp hTx (hH1 hia hna) (fun m1 w1 g1 => ?_))
    show zw_Wp l mm_X11_mixed (zS L) 23 [some (zR 67), some (zI a), some (zI b), some (zI (zyB mem a b 0 0)), none] [zI (zar f1 (n1 - 2).toNat)] m1 0 0 Q
    have K1 := zKp_hu g1
    have b1 := w1.bd
    refine wp_aload_n dd_X11_mixed_23 rfl ?_
    refine wp_iload_n dd_X11_mixed_24 rfl ?_
    refine wp_callV (M' := mm_X11_areaOf) (As := [zI b]) (rest := [zI (zar f1 (n1 - 2).toNat)]) dd_X11_mixed_25 lk_X11_295 mV_X11_areaOf kk_67 (zlt rfl) ⟨_, _, rfl⟩ rfl (by decide) (by decide) (Nat.le_of_ble_eq_true rfl) rfl (sp_X11_areaOf f2 n2 b (by rw [K1.kp.1]; exact hp) (K1.kp.T hTy) (by rw [K1.kp.co b]; exact hH2 hib hnb) (fun m2 w2 g2 => ?_))
    show zw_Wp l mm_X11_mixed (zS L) 28 [some (zR 67), some (zI a), some (zI b), some (zI (zyB mem a b 0 0)), none] [zI (zar f2 (n2 - 2).toNat), zI (zar f1 (n1 - 2).toNat)] m2 0 0 Q
    have K2 := K1.tr (zKp_hu g2)
    have b2 := w2.bd
    refine wp_iaddC dd_X11_mixed_28 (by omega) ?_
    refine wp_istore (ls2 := [some (zR 67), some (zI a), some (zI b), some (zI (zyB mem a b 0 0)), some (zI ((zar f1 (n1 - 2).toNat) + (zar f2 (n2 - 2).toNat)))]) dd_X11_mixed_29 rfl (by decide) rfl ?_
    refine wp_aload_n dd_X11_mixed_31 rfl ?_
    refine wp_iload_n dd_X11_mixed_32 rfl ?_
    refine wp_iload_n dd_X11_mixed_33 rfl ?_
    refine wp_callV (M' := mm_X11_wrapsSum) (As := [zI a, zI b]) (rest := []) dd_X11_mixed_34 lk_X11_298 mV_X11_wrapsSum kk_67 (zlt rfl) ⟨_, _, rfl⟩ rfl (by decide) (by decide) (Nat.le_of_ble_eq_true rfl) rfl (sp_X11_wrapsSum f3 n3 a b (by rw [K2.kp.1]; exact hp) (K2.kp.T hTx) (K2.kp.T hTy) (by rw [K2.kp.co a, K2.kp.co b]; exact hH3 hz) (fun m3 w3 g3 => ?_))
    show zw_Wp l mm_X11_mixed (zS L) 37 [some (zR 67), some (zI a), some (zI b), some (zI (zyB mem a b 0 0)), some (zI ((zar f1 (n1 - 2).toNat) + (zar f2 (n2 - 2).toNat)))] [] m3 0 0 Q
    have K3 := K2.tr (zKp_hu g3)
    have b3 := w3.bd
    refine wp_aload_n dd_X11_mixed_37 rfl ?_
    refine wp_callV (M' := mm_X11_areaNow) (As := []) (rest := []) dd_X11_mixed_38 lk_X11_292 mV_X11_areaNow kk_67 (zlt rfl) ⟨_, _, rfl⟩ rfl (by decide) (by decide) (Nat.le_of_ble_eq_true rfl) rfl (sp_X11_areaNow   w3.co ?_)
    show zw_Wp l mm_X11_mixed (zS L) 41 [some (zR 67), some (zI a), some (zI b), some (zI (zyB mem a b 0 0)), some (zI ((zar f1 (n1 - 2).toNat) + (zar f2 (n2 - 2).toNat)))] [zI (zar (m3 85) (m3 67 28 - 2).toNat)] m3 0 0 Q
    rw [show (zar (m3 85) (m3 67 28 - 2).toNat : Int) = zar f3 (n3 - 2).toNat from w3.ar]
    refine wp_iload dd_X11_mixed_41 rfl ?_
    refine wp_isubC dd_X11_mixed_43 (by omega) ?_
    refine wp_iconst dd_X11_mixed_44 (zr_lit rfl) ?_
    refine wp_idiv dd_X11_mixed_45 (by omega) ?_
    refine wp_ireturn (st := []) dd_X11_mixed_46 rfl ?_
    exact k _ _ (Or.inr ⟨hz, rfl, K3⟩)
  · skip
    refine wp_aload_n dd_X11_mixed_12 rfl ?_
    refine wp_iload_n dd_X11_mixed_13 rfl ?_
    refine wp_callV (M' := mm_X11_no) (As := [zI (zyB mem a b 0 0)]) (rest := []) dd_X11_mixed_14 lk_X11_120 mV_X11_no kk_67 (zlt rfl) ⟨_, _, rfl⟩ rfl (by decide) (by decide) (Nat.le_of_ble_eq_true rfl) rfl (sp_X11_no  (zyB mem a b 0 0) (by first | assumption | omega) ?_)
    show zw_Wp l mm_X11_mixed (zS L) 17 [some (zR 67), some (zI a), some (zI b), some (zI (zyB mem a b 0 0)), none] [zI (zyB mem a b 0 0)] (zu mem 68 (-(zyB mem a b 0 0)) (zwr (mem 68 (-(zyB mem a b 0 0)) + 1))) 0 0 Q
    refine wp_ireturn (st := []) dd_X11_mixed_17 rfl ?_
    exact k _ _ (Or.inl ⟨by assumption, rfl, rfl⟩)


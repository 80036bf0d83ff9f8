set_option maxRecDepth 100000 in
set_option maxHeartbeats 4000000 in
theorem sp_X11_corner_w {l : Launch} {L : Nat} {mem : zMem} {Q : zQ} (f : Int → Int) (n : Int) (q : Int) (k0 : Int) (hp : zPr (mem 67 1)) (hn : 0 ≤ mem 67 5 ∧ mem 67 5 ≤ 6) (hTa : ∀ q : Int, 0 ≤ q → q < mem 67 5 → zT mem q) (hH : zyC mem q k0 = 0 → zHu (zP1 (zco mem q)) f n) (k : ∀ (r : Int) (mem2 : zMem), ((zyC mem q k0 ≠ 0 ∧ r = zyC mem q k0 ∧ mem2 = zno mem (zyC mem q k0)) ∨ (zyC mem q k0 = 0 ∧ r = zcr f n k0 ∧ zKp mem mem2)) → Q (some (zI r)) (zS L) mem2) : zw_Ok l mm_X11_corner [zR 67, zI q, zI k0] (zS L) mem Q := by
  refine zw_okA (fun hA => ?_)
  have rg_q : -2147483648 ≤ q ∧ q < 2147483648 := hA.2.1
  have rg_k0 : -2147483648 ≤ k0 ∧ k0 < 2147483648 := hA.2.2.1
  refine zw_enter (by decide) (Nat.le_of_ble_eq_true rfl) rfl ?_
  show zw_Wp l mm_X11_corner (zS L) 0 [some (zR 67), some (zI q), some (zI k0), none] [] mem 0 0 Q
  have hpr := hp.rg
  refine wp_aload_n dd_X11_corner_0 rfl ?_
  refine wp_iload_n dd_X11_corner_1 rfl ?_
  refine wp_callV (M' := mm_X11_isPoly) (As := [zI q]) (rest := []) dd_X11_corner_2 lk_X11_154 mV_X11_isPoly kk_67 (zlt rfl) ⟨_, _, rfl⟩ rfl (by decide) (by decide) (Nat.le_of_ble_eq_true rfl) rfl (sp_X11_isPoly  q (by first | assumption | omega) ?_)
  show zw_Wp l mm_X11_corner (zS L) 5 [some (zR 67), some (zI q), some (zI k0), none] [zI (if 0 ≤ q ∧ q < mem 67 5 then 1 else 0)] mem 0 0 Q
  refine wp_if_ne (tgt := 12) dd_X11_corner_5 (by decide) (fun c5_1 => ?_) (fun c5_1 => ?_)
  · skip
    refine wp_aload_n dd_X11_corner_12 rfl ?_
    refine wp_iload_n dd_X11_corner_13 rfl ?_
    refine wp_callV (M' := mm_X11_isNought) (As := [zI q]) (rest := []) dd_X11_corner_14 lk_X11_173 mV_X11_isNought kk_67 (zlt rfl) ⟨_, _, rfl⟩ rfl (by decide) (by decide) (Nat.le_of_ble_eq_true rfl) rfl (sp_X11_isNought  q (by first | assumption | omega) (hTa q (by omega) (by omega)) ?_)
    show zw_Wp l mm_X11_corner (zS L) 17 [some (zR 67), some (zI q), some (zI k0), none] [zI (if zdeg (zco mem q) 0 25 < 0 then 1 else 0)] mem 0 0 Q
    refine wp_if_eq (tgt := 25) dd_X11_corner_17 (by decide) (fun c17_2 => ?_) (fun c17_2 => ?_)
    · skip
      refine wp_iload_n dd_X11_corner_25 rfl ?_
      refine wp_if_ge (tgt := 34) dd_X11_corner_26 (by decide) (fun c26_3 => ?_) (fun c26_3 => ?_)
      · skip
        refine wp_iconst dd_X11_corner_34 (zr_lit rfl) ?_
        refine wp_istore_n (ls2 := [some (zR 67), some (zI q), some (zI k0), some (zI 0)]) dd_X11_corner_35 rfl (by decide) rfl ?_
        refine wp_iload_n dd_X11_corner_36 rfl ?_
        refine wp_if_eq (tgt := 46) dd_X11_corner_37 (by decide) (fun c37_4 => ?_) (fun c37_4 => absurd c37_4 (by decide))
        have hw9 : zyC mem q k0 = 0 := by unfold zyC; repeat first | rw [if_pos (by omega)] | rw [if_neg (by omega)]
        refine wp_aload_n dd_X11_corner_46 rfl ?_
        refine wp_iload_n dd_X11_corner_47 rfl ?_
        refine wp_callV (M' := mm_X11_wrapsOne) (As := [zI q]) (rest := []) dd_X11_corner_48 lk_X11_286 mV_X11_wrapsOne kk_67 (zlt rfl) ⟨_, _, rfl⟩ rfl (by decide) (by decide) (Nat.le_of_ble_eq_true rfl) rfl (sp_X11_wrapsOne f n q hp (hTa q (by omega) (by omega)) (hH hw9) (fun mz fz gz => ?_))
        show zw_Wp l mm_X11_corner (zS L) 51 [some (zR 67), some (zI q), some (zI k0), some (zI 0)] [] mz 0 0 Q
        refine wp_aload_n dd_X11_corner_51 rfl ?_
        refine wp_iload_n dd_X11_corner_52 rfl ?_
        refine wp_callV (M' := mm_X11_cornerAt) (As := [zI k0]) (rest := []) dd_X11_corner_53 lk_X11_289 mV_X11_cornerAt kk_67 (zlt rfl) ⟨_, _, rfl⟩ rfl (by decide) (by decide) (Nat.le_of_ble_eq_true rfl) rfl (sp_X11_cornerAt  k0 (by omega) fz.co ?_)
        show zw_Wp l mm_X11_corner (zS L) 56 [some (zR 67), some (zI q), some (zI k0), some (zI 0)] [zI (zcor mz k0)] mz 0 0 Q
        refine wp_ireturn (st := []) dd_X11_corner_56 rfl ?_
        exact k _ _ (Or.inr ⟨hw9, fz.cr (by omega), zKp_hu gz⟩)
      · skip
        refine wp_bipush dd_X11_corner_29 (by decide) ?_
        refine wp_goto (tgt := 35) dd_X11_corner_31 (by decide) ?_
        refine wp_istore_n (ls2 := [some (zR 67), some (zI q), some (zI k0), some (zI (-4))]) dd_X11_corner_35 rfl (by decide) rfl ?_
        refine wp_iload_n dd_X11_corner_36 rfl ?_
        refine wp_if_eq (tgt := 46) dd_X11_corner_37 (by decide) (fun c37_5 => absurd c37_5 (by decide)) (fun c37_5 => ?_)
        refine wp_aload_n dd_X11_corner_40 rfl ?_
        refine wp_iload_n dd_X11_corner_41 rfl ?_
        refine wp_callV (M' := mm_X11_no) (As := [zI (-4)]) (rest := []) dd_X11_corner_42 lk_X11_120 mV_X11_no kk_67 (zlt rfl) ⟨_, _, rfl⟩ rfl (by decide) (by decide) (Nat.le_of_ble_eq_true rfl) rfl (sp_X11_no  (-4) (by first | assumption | omega) ?_)
        show zw_Wp l mm_X11_corner (zS L) 45 [some (zR 67), some (zI q), some (zI k0), some (zI (-4))] [zI (-4)] (zu mem 68 (-(-4)) (zwr (mem 68 (-(-4)) + 1))) 0 0 Q
        refine wp_ireturn (st := []) dd_X11_corner_45 rfl ?_
        have hw : zyC mem q k0 = (-4) := by unfold zyC; repeat first | rw [if_pos (by omega)] | rw [if_neg (by omega)]
        exact k _ _ (Or.inl ⟨by rw [hw]; decide, hw.symm, by rw [hw]; rfl⟩)
    · skip
      refine wp_bipush dd_X11_corner_20 (by decide) ?_
      refine wp_goto (tgt := 35) dd_X11_corner_22 (by decide) ?_
      refine wp_istore_n (ls2 := [some (zR 67), some (zI q), some (zI k0), some (zI (-3))]) dd_X11_corner_35 rfl (by decide) rfl ?_
      refine wp_iload_n dd_X11_corner_36 rfl ?_
      refine wp_if_eq (tgt := 46) dd_X11_corner_37 (by decide) (fun c37_6 => absurd c37_6 (by decide)) (fun c37_6 => ?_)
      refine wp_aload_n dd_X11_corner_40 rfl ?_
      refine wp_iload_n dd_X11_corner_41 rfl ?_
      refine wp_callV (M' := mm_X11_no) (As := [zI (-3)]) (rest := []) dd_X11_corner_42 lk_X11_120 mV_X11_no kk_67 (zlt rfl) ⟨_, _, rfl⟩ rfl (by decide) (by decide) (Nat.le_of_ble_eq_true rfl) rfl (sp_X11_no  (-3) (by first | assumption | omega) ?_)
      show zw_Wp l mm_X11_corner (zS L) 45 [some (zR 67), some (zI q), some (zI k0), some (zI (-3))] [zI (-3)] (zu mem 68 (-(-3)) (zwr (mem 68 (-(-3)) + 1))) 0 0 Q
      refine wp_ireturn (st := []) dd_X11_corner_45 rfl ?_
      have hw : zyC mem q k0 = (-3) := by unfold zyC; repeat first | rw [if_pos (by omega)] | rw [if_neg (by omega)]
      exact k _ _ (Or.inl ⟨by rw [hw]; decide, hw.symm, by rw [hw]; rfl⟩)
  · skip
    refine wp_iconst dd_X11_corner_8 (zr_lit rfl) ?_
    refine wp_goto (tgt := 35) dd_X11_corner_9 (by decide) ?_
    refine wp_istore_n (ls2 := [some (zR 67), some (zI q), some (zI k0), some (zI (-1))]) dd_X11_corner_35 rfl (by decide) rfl ?_
    refine wp_iload_n dd_X11_corner_36 rfl ?_
    refine wp_if_eq (tgt := 46) dd_X11_corner_37 (by decide) (fun c37_7 => absurd c37_7 (by decide)) (fun c37_7 => ?_)
    refine wp_aload_n dd_X11_corner_40 rfl ?_
    refine wp_iload_n dd_X11_corner_41 rfl ?_
    refine wp_callV (M' := mm_X11_no) (As := [zI (-1)]) (rest := []) dd_X11_corner_42 lk_X11_120 mV_X11_no kk_67 (zlt rfl) ⟨_, _, rfl⟩ rfl (by decide) (by decide) (Nat.le_of_ble_eq_true rfl) rfl (sp_X11_no  (-1) (by first | assumption | omega) ?_)
    show zw_Wp l mm_X11_corner (zS L) 45 [some (zR 67), some (zI q), some (zI k0), some (zI (-1))] [zI (-1)] (zu mem 68 (-(-1)) (zwr (mem 68 (-(-1)) + 1))) 0 0 Q
    refine wp_ireturn (st := []) dd_X11_corner_45 rfl ?_
    have hw : zyC mem q k0 = (-1) := by unfold zyC; repeat first | rw [if_pos (by omega)] | rw [if_neg (by omega)]
    exact k _ _ (Or.inl ⟨by rw [hw]; decide, hw.symm, by rw [hw]; rfl⟩)

set_option maxRecDepth 100000 in
set_option maxHeartbeats 4000000 in
theorem sp_X11_sum_w {l : Launch} {L : Nat} {mem : zMem} {Q : zQ} (f : Int → Int) (n : Int) (a : Int) (b : Int) (k0 : Int) (hp : zPr (mem 67 1)) (hn : 0 ≤ mem 67 5 ∧ mem 67 5 ≤ 6) (hTa : ∀ q : Int, 0 ≤ q → q < mem 67 5 → zT mem q) (hH : zyS mem a b k0 = 0 → zHu (zP2 (zco mem a) (zco mem b)) f n) (k : ∀ (r : Int) (mem2 : zMem), ((zyS mem a b k0 ≠ 0 ∧ r = zyS mem a b k0 ∧ mem2 = zno mem (zyS mem a b k0)) ∨ (zyS mem a b k0 = 0 ∧ r = (if k0 < 0 then zar f (n - 2).toNat else zcr f n k0) ∧ zKp mem mem2)) → Q (some (zI r)) (zS L) mem2) : zw_Ok l mm_X11_sum [zR 67, zI a, zI b, zI k0] (zS L) mem Q := by
  refine zw_okA (fun hA => ?_)
  have rg_a : -2147483648 ≤ a ∧ a < 2147483648 := hA.2.1
  have rg_b : -2147483648 ≤ b ∧ b < 2147483648 := hA.2.2.1
  have rg_k0 : -2147483648 ≤ k0 ∧ k0 < 2147483648 := hA.2.2.2.1
  refine zw_enter (by decide) (Nat.le_of_ble_eq_true rfl) rfl ?_
  show zw_Wp l mm_X11_sum (zS L) 0 [some (zR 67), some (zI a), some (zI b), some (zI k0), none] [] mem 0 0 Q
  have hpr := hp.rg
  refine wp_aload_n dd_X11_sum_0 rfl ?_
  refine wp_iload_n dd_X11_sum_1 rfl ?_
  refine wp_iload_n dd_X11_sum_2 rfl ?_
  refine wp_iconst dd_X11_sum_3 (zr_lit rfl) ?_
  refine wp_callV (M' := mm_X11_notBoth) (As := [zI a, zI b, zI 0]) (rest := []) dd_X11_sum_4 lk_X11_251 mV_X11_notBoth kk_67 (zlt rfl) ⟨_, _, rfl⟩ rfl (by decide) (by decide) (Nat.le_of_ble_eq_true rfl) rfl (sp_X11_notBoth  a b 0 (by first | assumption | omega) (by first | assumption | omega) (by first | assumption | omega) ?_)
  show zw_Wp l mm_X11_sum (zS L) 7 [some (zR 67), some (zI a), some (zI b), some (zI k0), none] [zI (if ¬ ((0 ≤ a ∧ a < mem 67 5) ∧ (0 ≤ b ∧ b < mem 67 5) ∧ 0 ≤ 0 ∧ 0 ≤ 1) then -1 else if ¬ (0 ≤ 0 ∧ 0 ≤ 1) then -2 else if zdeg (zco mem a) 0 25 < 0 ∨ zdeg (zco mem b) 0 25 < 0 then -3 else 0)] mem 0 0 Q
  change zw_Wp l _ _ 7 _ (zI (zyB mem a b 0 0) :: _) _ _ _ _
  have hyc := zyB_c mem a b 0 0
  refine wp_istore (ls2 := [some (zR 67), some (zI a), some (zI b), some (zI k0), some (zI (zyB mem a b 0 0))]) dd_X11_sum_7 rfl (by decide) rfl ?_
  refine wp_iload dd_X11_sum_9 rfl ?_
  refine wp_if_ne (tgt := 23) dd_X11_sum_11 (by decide) (fun c11_1 => ?_) (fun c11_1 => ?_)
  · skip
    refine wp_iload dd_X11_sum_23 rfl ?_
    refine wp_if_eq (tgt := 35) dd_X11_sum_25 (by decide) (fun c25_2 => ?_) (fun c25_2 => ?_)
    · skip
      have hz : zyB mem a b 0 0 = 0 := by omega
      obtain ⟨⟨hia, hib, hl, htb⟩, hna, hnb⟩ := zyB_0 hz
      have hTx := hTa a hia.1 hia.2
      have hTy := hTa b hib.1 hib.2
      have hw : zyS mem a b k0 = 0 := by unfold zyS; split <;> first | omega | (split <;> omega)
      refine wp_aload_n dd_X11_sum_35 rfl ?_
      refine wp_iload_n dd_X11_sum_36 rfl ?_
      refine wp_iload_n dd_X11_sum_37 rfl ?_
      refine wp_callV (M' := mm_X11_wrapsSum) (As := [zI a, zI b]) (rest := []) dd_X11_sum_38 lk_X11_298 mV_X11_wrapsSum kk_67 (zlt rfl) ⟨_, _, rfl⟩ rfl (by decide) (by decide) (Nat.le_of_ble_eq_true rfl) rfl (sp_X11_wrapsSum f n a b hp hTx hTy (hH hw) (fun mz fz gz => ?_))
      show zw_Wp l mm_X11_sum (zS L) 41 [some (zR 67), some (zI a), some (zI b), some (zI k0), some (zI (zyB mem a b 0 0))] [] mz 0 0 Q
      refine wp_iload_n dd_X11_sum_41 rfl ?_
      refine wp_if_ge (tgt := 52) dd_X11_sum_42 (by decide) (fun c42_3 => ?_) (fun c42_3 => ?_)
      · skip
        refine wp_aload_n dd_X11_sum_52 rfl ?_
        refine wp_iload_n dd_X11_sum_53 rfl ?_
        refine wp_callV (M' := mm_X11_cornerAt) (As := [zI k0]) (rest := []) dd_X11_sum_54 lk_X11_289 mV_X11_cornerAt kk_67 (zlt rfl) ⟨_, _, rfl⟩ rfl (by decide) (by decide) (Nat.le_of_ble_eq_true rfl) rfl (sp_X11_cornerAt  k0 (by omega) fz.co ?_)
        show zw_Wp l mm_X11_sum (zS L) 57 [some (zR 67), some (zI a), some (zI b), some (zI k0), some (zI (zyB mem a b 0 0))] [zI (zcor mz k0)] mz 0 0 Q
        refine wp_ireturn (st := []) dd_X11_sum_57 rfl ?_
        exact k _ _ (Or.inr ⟨hw, by rw [if_neg (by omega)]; exact fz.cr (by omega), zKp_hu gz⟩)
      · skip
        refine wp_aload_n dd_X11_sum_45 rfl ?_
        refine wp_callV (M' := mm_X11_areaNow) (As := []) (rest := []) dd_X11_sum_46 lk_X11_292 mV_X11_areaNow kk_67 (zlt rfl) ⟨_, _, rfl⟩ rfl (by decide) (by decide) (Nat.le_of_ble_eq_true rfl) rfl (sp_X11_areaNow   fz.co ?_)
        show zw_Wp l mm_X11_sum (zS L) 49 [some (zR 67), some (zI a), some (zI b), some (zI k0), some (zI (zyB mem a b 0 0))] [zI (zar (mz 85) (mz 67 28 - 2).toNat)] mz 0 0 Q
        refine wp_goto (tgt := 57) dd_X11_sum_49 (by decide) ?_
        refine wp_ireturn (st := []) dd_X11_sum_57 rfl ?_
        exact k _ _ (Or.inr ⟨hw, by rw [if_pos (by omega)]; exact fz.ar, zKp_hu gz⟩)
    · skip
      refine wp_aload_n dd_X11_sum_28 rfl ?_
      refine wp_iload dd_X11_sum_29 rfl ?_
      refine wp_callV (M' := mm_X11_no) (As := [zI (zyB mem a b 0 0)]) (rest := []) dd_X11_sum_31 lk_X11_120 mV_X11_no kk_67 (zlt rfl) ⟨_, _, rfl⟩ rfl (by decide) (by decide) (Nat.le_of_ble_eq_true rfl) rfl (sp_X11_no  (zyB mem a b 0 0) (by first | assumption | omega) ?_)
      show zw_Wp l mm_X11_sum (zS L) 34 [some (zR 67), some (zI a), some (zI b), some (zI k0), some (zI (zyB mem a b 0 0))] [zI (zyB mem a b 0 0)] (zu mem 68 (-(zyB mem a b 0 0)) (zwr (mem 68 (-(zyB mem a b 0 0)) + 1))) 0 0 Q
      refine wp_ireturn (st := []) dd_X11_sum_34 rfl ?_
      have hw : zyS mem a b k0 = (zyB mem a b 0 0) := by unfold zyS; split <;> first | omega | (split <;> omega)
      exact k _ _ (Or.inl ⟨by rw [hw]; omega, hw.symm, by rw [hw]; rfl⟩)
  · skip
    refine wp_iload_n dd_X11_sum_14 rfl ?_
    refine wp_iconst dd_X11_sum_15 (zr_lit rfl) ?_
    refine wp_icmp_ge (tgt := 23) dd_X11_sum_16 (by decide) (fun c16_4 => ?_) (fun c16_4 => ?_)
    · skip
      refine wp_iload dd_X11_sum_23 rfl ?_
      refine wp_if_eq (tgt := 35) dd_X11_sum_25 (by decide) (fun c25_5 => ?_) (fun c25_5 => ?_)
      · skip
        have hz : zyB mem a b 0 0 = 0 := by omega
        obtain ⟨⟨hia, hib, hl, htb⟩, hna, hnb⟩ := zyB_0 hz
        have hTx := hTa a hia.1 hia.2
        have hTy := hTa b hib.1 hib.2
        have hw : zyS mem a b k0 = 0 := by unfold zyS; split <;> first | omega | (split <;> omega)
        refine wp_aload_n dd_X11_sum_35 rfl ?_
        refine wp_iload_n dd_X11_sum_36 rfl ?_
        refine wp_iload_n dd_X11_sum_37 rfl ?_
        refine wp_callV (M' := mm_X11_wrapsSum) (As := [zI a, zI b]) (rest := []) dd_X11_sum_38 lk_X11_298 mV_X11_wrapsSum kk_67 (zlt rfl) ⟨_, _, rfl⟩ rfl (by decide) (by decide) (Nat.le_of_ble_eq_true rfl) rfl (sp_X11_wrapsSum f n a b hp hTx hTy (hH hw) (fun mz fz gz => ?_))
        show zw_Wp l mm_X11_sum (zS L) 41 [some (zR 67), some (zI a), some (zI b), some (zI k0), some (zI (zyB mem a b 0 0))] [] mz 0 0 Q
        refine wp_iload_n dd_X11_sum_41 rfl ?_
        refine wp_if_ge (tgt := 52) dd_X11_sum_42 (by decide) (fun c42_6 => ?_) (fun c42_6 => ?_)
        · skip
          refine wp_aload_n dd_X11_sum_52 rfl ?_
          refine wp_iload_n dd_X11_sum_53 rfl ?_
          refine wp_callV (M' := mm_X11_cornerAt) (As := [zI k0]) (rest := []) dd_X11_sum_54 lk_X11_289 mV_X11_cornerAt kk_67 (zlt rfl) ⟨_, _, rfl⟩ rfl (by decide) (by decide) (Nat.le_of_ble_eq_true rfl) rfl (sp_X11_cornerAt  k0 (by omega) fz.co ?_)
          show zw_Wp l mm_X11_sum (zS L) 57 [some (zR 67), some (zI a), some (zI b), some (zI k0), some (zI (zyB mem a b 0 0))] [zI (zcor mz k0)] mz 0 0 Q
          refine wp_ireturn (st := []) dd_X11_sum_57 rfl ?_
          exact k _ _ (Or.inr ⟨hw, by rw [if_neg (by omega)]; exact fz.cr (by omega), zKp_hu gz⟩)
        · skip
          refine wp_aload_n dd_X11_sum_45 rfl ?_
          refine wp_callV (M' := mm_X11_areaNow) (As := []) (rest := []) dd_X11_sum_46 lk_X11_292 mV_X11_areaNow kk_67 (zlt rfl) ⟨_, _, rfl⟩ rfl (by decide) (by decide) (Nat.le_of_ble_eq_true rfl) rfl (sp_X11_areaNow   fz.co ?_)
          show zw_Wp l mm_X11_sum (zS L) 49 [some (zR 67), some (zI a), some (zI b), some (zI k0), some (zI (zyB mem a b 0 0))] [zI (zar (mz 85) (mz 67 28 - 2).toNat)] mz 0 0 Q
          refine wp_goto (tgt := 57) dd_X11_sum_49 (by decide) ?_
          refine wp_ireturn (st := []) dd_X11_sum_57 rfl ?_
          exact k _ _ (Or.inr ⟨hw, by rw [if_pos (by omega)]; exact fz.ar, zKp_hu gz⟩)
      · skip
        refine wp_aload_n dd_X11_sum_28 rfl ?_
        refine wp_iload dd_X11_sum_29 rfl ?_
        refine wp_callV (M' := mm_X11_no) (As := [zI (zyB mem a b 0 0)]) (rest := []) dd_X11_sum_31 lk_X11_120 mV_X11_no kk_67 (zlt rfl) ⟨_, _, rfl⟩ rfl (by decide) (by decide) (Nat.le_of_ble_eq_true rfl) rfl (sp_X11_no  (zyB mem a b 0 0) (by first | assumption | omega) ?_)
        show zw_Wp l mm_X11_sum (zS L) 34 [some (zR 67), some (zI a), some (zI b), some (zI k0), some (zI (zyB mem a b 0 0))] [zI (zyB mem a b 0 0)] (zu mem 68 (-(zyB mem a b 0 0)) (zwr (mem 68 (-(zyB mem a b 0 0)) + 1))) 0 0 Q
        refine wp_ireturn (st := []) dd_X11_sum_34 rfl ?_
        have hw : zyS mem a b k0 = (zyB mem a b 0 0) := by unfold zyS; split <;> first | omega | (split <;> omega)
        exact k _ _ (Or.inl ⟨by rw [hw]; omega, hw.symm, by rw [hw]; rfl⟩)
    · skip
      refine wp_bipush dd_X11_sum_19 (by decide) ?_
      refine wp_istore (ls2 := [some (zR 67), some (zI a), some (zI b), some (zI k0), some (zI (-4))]) dd_X11_sum_21 rfl (by decide) rfl ?_
      refine wp_iload dd_X11_sum_23 rfl ?_
      refine wp_if_eq (tgt := 35) dd_X11_sum_25 (by decide) (fun c25_7 => absurd c25_7 (by decide)) (fun c25_7 => ?_)
      refine wp_aload_n dd_X11_sum_28 rfl ?_
      refine wp_iload dd_X11_sum_29 rfl ?_
      refine wp_callV (M' := mm_X11_no) (As := [zI (-4)]) (rest := []) dd_X11_sum_31 lk_X11_120 mV_X11_no kk_67 (zlt rfl) ⟨_, _, rfl⟩ rfl (by decide) (by decide) (Nat.le_of_ble_eq_true rfl) rfl (sp_X11_no  (-4) (by first | assumption | omega) ?_)
      show zw_Wp l mm_X11_sum (zS L) 34 [some (zR 67), some (zI a), some (zI b), some (zI k0), some (zI (-4))] [zI (-4)] (zu mem 68 (-(-4)) (zwr (mem 68 (-(-4)) + 1))) 0 0 Q
      refine wp_ireturn (st := []) dd_X11_sum_34 rfl ?_
      have hw : zyS mem a b k0 = (-4) := by unfold zyS; split <;> first | omega | (split <;> omega)
      exact k _ _ (Or.inl ⟨by rw [hw]; omega, hw.symm, by rw [hw]; rfl⟩)

set_option maxRecDepth 100000 in
set_option maxHeartbeats 4000000 in
theorem sp_X11_mixed_w {l : Launch} {L : Nat} {mem : zMem} {Q : zQ} (f1 f2 f3 : Int → Int) (n1 n2 n3 : Int) (a : Int) (b : Int) (hp : zPr (mem 67 1)) (hn : 0 ≤ mem 67 5 ∧ mem 67 5 ≤ 6) (hTa : ∀ q : Int, 0 ≤ q → q < mem 67 5 → zT mem q) (hH : zyB mem a b 0 0 = 0 → zHu (zP1 (zco mem a)) f1 n1 ∧ zHu (zP1 (zco mem b)) f2 n2 ∧ zHu (zP2 (zco mem a) (zco mem b)) f3 n3) (k : ∀ (r : Int) (mem2 : zMem), ((zyB mem a b 0 0 ≠ 0 ∧ r = zyB mem a b 0 0 ∧ mem2 = zno mem (zyB mem a b 0 0)) ∨ (zyB mem a b 0 0 = 0 ∧ r = zmd (zar f3 (n3 - 2).toNat) (zar f1 (n1 - 2).toNat) (zar f2 (n2 - 2).toNat) ∧ zKp mem mem2)) → Q (some (zI r)) (zS L) mem2) : zw_Ok l mm_X11_mixed [zR 67, zI a, zI b] (zS L) mem Q := by
  refine zw_okA (fun hA => ?_)
  have rg_a : -2147483648 ≤ a ∧ a < 2147483648 := hA.2.1
  have rg_b : -2147483648 ≤ b ∧ b < 2147483648 := hA.2.2.1
  refine zw_enter (by decide) (Nat.le_of_ble_eq_true rfl) rfl ?_
  show zw_Wp l mm_X11_mixed (zS L) 0 [some (zR 67), some (zI a), some (zI b), none, none] [] mem 0 0 Q
  have hpr := hp.rg
  refine wp_aload_n dd_X11_mixed_0 rfl ?_
  refine wp_iload_n dd_X11_mixed_1 rfl ?_
  refine wp_iload_n dd_X11_mixed_2 rfl ?_
  refine wp_iconst dd_X11_mixed_3 (zr_lit rfl) ?_
  refine wp_callV (M' := mm_X11_notBoth) (As := [zI a, zI b, zI 0]) (rest := []) dd_X11_mixed_4 lk_X11_251 mV_X11_notBoth kk_67 (zlt rfl) ⟨_, _, rfl⟩ rfl (by decide) (by decide) (Nat.le_of_ble_eq_true rfl) rfl (sp_X11_notBoth  a b 0 (by first | assumption | omega) (by first | assumption | omega) (by first | assumption | omega) ?_)
  show zw_Wp l mm_X11_mixed (zS L) 7 [some (zR 67), some (zI a), some (zI b), none, none] [zI (if ¬ ((0 ≤ a ∧ a < mem 67 5) ∧ (0 ≤ b ∧ b < mem 67 5) ∧ 0 ≤ 0 ∧ 0 ≤ 1) then -1 else if ¬ (0 ≤ 0 ∧ 0 ≤ 1) then -2 else if zdeg (zco mem a) 0 25 < 0 ∨ zdeg (zco mem b) 0 25 < 0 then -3 else 0)] mem 0 0 Q
  change zw_Wp l _ _ 7 _ (zI (zyB mem a b 0 0) :: _) _ _ _ _
  have hyc := zyB_c mem a b 0 0
  refine wp_istore_n (ls2 := [some (zR 67), some (zI a), some (zI b), some (zI (zyB mem a b 0 0)), none]) dd_X11_mixed_7 rfl (by decide) rfl ?_
  refine wp_iload_n dd_X11_mixed_8 rfl ?_
  refine wp_if_eq (tgt := 18) dd_X11_mixed_9 (by decide) (fun c9_1 => ?_) (fun c9_1 => ?_)
  · skip
    have hz : zyB mem a b 0 0 = 0 := by omega
    obtain ⟨⟨hia, hib, hl, htb⟩, hna, hnb⟩ := zyB_0 hz
    have hTx := hTa a hia.1 hia.2
    have hTy := hTa b hib.1 hib.2
    obtain ⟨hH1, hH2, hH3⟩ := hH hz
    refine wp_aload_n dd_X11_mixed_18 rfl ?_
    refine wp_iload_n dd_X11_mixed_19 rfl ?_
    refine wp_callV (M' := mm_X11_areaOf) (As := [zI a]) (rest := []) dd_X11_mixed_20 lk_X11_295 mV_X11_areaOf kk_67 (zlt rfl) ⟨_, _, rfl⟩ rfl (by decide) (by decide) (Nat.le_of_ble_eq_true rfl) rfl (sp_X11_areaOf f1 n1 a hp hTx hH1 (fun m1 w1 g1 => ?_))
    show zw_Wp l mm_X11_mixed (zS L) 23 [some (zR 67), some (zI a), some (zI b), some (zI (zyB mem a b 0 0)), none] [zI (zar f1 (n1 - 2).toNat)] m1 0 0 Q
    have K1 := zKp_hu g1
    have b1 := w1.bd
    refine wp_aload_n dd_X11_mixed_23 rfl ?_
    refine wp_iload_n dd_X11_mixed_24 rfl ?_
    refine wp_callV (M' := mm_X11_areaOf) (As := [zI b]) (rest := [zI (zar f1 (n1 - 2).toNat)]) dd_X11_mixed_25 lk_X11_295 mV_X11_areaOf kk_67 (zlt rfl) ⟨_, _, rfl⟩ rfl (by decide) (by decide) (Nat.le_of_ble_eq_true rfl) rfl (sp_X11_areaOf f2 n2 b (by rw [K1.kp.1]; exact hp) (K1.kp.T hTy) (by rw [K1.kp.co b]; exact hH2) (fun m2 w2 g2 => ?_))
    show zw_Wp l mm_X11_mixed (zS L) 28 [some (zR 67), some (zI a), some (zI b), some (zI (zyB mem a b 0 0)), none] [zI (zar f2 (n2 - 2).toNat), zI (zar f1 (n1 - 2).toNat)] m2 0 0 Q
    have K2 := K1.tr (zKp_hu g2)
    have b2 := w2.bd
    refine wp_iaddC dd_X11_mixed_28 (by omega) ?_
    refine wp_istore (ls2 := [some (zR 67), some (zI a), some (zI b), some (zI (zyB mem a b 0 0)), some (zI ((zar f1 (n1 - 2).toNat) + (zar f2 (n2 - 2).toNat)))]) dd_X11_mixed_29 rfl (by decide) rfl ?_
    refine wp_aload_n dd_X11_mixed_31 rfl ?_
    refine wp_iload_n dd_X11_mixed_32 rfl ?_
    refine wp_iload_n dd_X11_mixed_33 rfl ?_
    refine wp_callV (M' := mm_X11_wrapsSum) (As := [zI a, zI b]) (rest := []) dd_X11_mixed_34 lk_X11_298 mV_X11_wrapsSum kk_67 (zlt rfl) ⟨_, _, rfl⟩ rfl (by decide) (by decide) (Nat.le_of_ble_eq_true rfl) rfl (sp_X11_wrapsSum f3 n3 a b (by rw [K2.kp.1]; exact hp) (K2.kp.T hTx) (K2.kp.T hTy) (by rw [K2.kp.co a, K2.kp.co b]; exact hH3) (fun m3 w3 g3 => ?_))
    show zw_Wp l mm_X11_mixed (zS L) 37 [some (zR 67), some (zI a), some (zI b), some (zI (zyB mem a b 0 0)), some (zI ((zar f1 (n1 - 2).toNat) + (zar f2 (n2 - 2).toNat)))] [] m3 0 0 Q
    have K3 := K2.tr (zKp_hu g3)
    have b3 := w3.bd
    refine wp_aload_n dd_X11_mixed_37 rfl ?_
    refine wp_callV (M' := mm_X11_areaNow) (As := []) (rest := []) dd_X11_mixed_38 lk_X11_292 mV_X11_areaNow kk_67 (zlt rfl) ⟨_, _, rfl⟩ rfl (by decide) (by decide) (Nat.le_of_ble_eq_true rfl) rfl (sp_X11_areaNow   w3.co ?_)
    show zw_Wp l mm_X11_mixed (zS L) 41 [some (zR 67), some (zI a), some (zI b), some (zI (zyB mem a b 0 0)), some (zI ((zar f1 (n1 - 2).toNat) + (zar f2 (n2 - 2).toNat)))] [zI (zar (m3 85) (m3 67 28 - 2).toNat)] m3 0 0 Q
    rw [show (zar (m3 85) (m3 67 28 - 2).toNat : Int) = zar f3 (n3 - 2).toNat from w3.ar]
    refine wp_iload dd_X11_mixed_41 rfl ?_
    refine wp_isubC dd_X11_mixed_43 (by omega) ?_
    refine wp_iconst dd_X11_mixed_44 (zr_lit rfl) ?_
    refine wp_idiv dd_X11_mixed_45 (by omega) ?_
    refine wp_ireturn (st := []) dd_X11_mixed_46 rfl ?_
    exact k _ _ (Or.inr ⟨hz, rfl, K3⟩)
  · skip
    refine wp_aload_n dd_X11_mixed_12 rfl ?_
    refine wp_iload_n dd_X11_mixed_13 rfl ?_
    refine wp_callV (M' := mm_X11_no) (As := [zI (zyB mem a b 0 0)]) (rest := []) dd_X11_mixed_14 lk_X11_120 mV_X11_no kk_67 (zlt rfl) ⟨_, _, rfl⟩ rfl (by decide) (by decide) (Nat.le_of_ble_eq_true rfl) rfl (sp_X11_no  (zyB mem a b 0 0) (by first | assumption | omega) ?_)
    show zw_Wp l mm_X11_mixed (zS L) 17 [some (zR 67), some (zI a), some (zI b), some (zI (zyB mem a b 0 0)), none] [zI (zyB mem a b 0 0)] (zu mem 68 (-(zyB mem a b 0 0)) (zwr (mem 68 (-(zyB mem a b 0 0)) + 1))) 0 0 Q
    refine wp_ireturn (st := []) dd_X11_mixed_17 rfl ?_
    exact k _ _ (Or.inl ⟨by assumption, rfl, rfl⟩)

/-! ===== words of the reference, where its cells are as they were ===== -/
theorem zyP_kp {m m1 : zMem} (h : zkp m m1) (q i j : Int) : zyP m1 q i j = zyP m q i j := by
  simp only [zyP, h.1, h.2.1, h.co, zyB_kp h]
theorem zyV_kp {m m1 : zMem} (h : zkp m m1) (q x y : Int) : zyV m1 q x y = zyV m q x y := by
  simp only [zyV, h.1, h.2.1, h.co, zyB_kp h]
theorem zyK_kp {m m1 : zMem} (h : zkp m m1) (q o k : Int) : zyK m1 q o k = zyK m q o k := by
  simp only [zyK, h.1, h.2.1, h.co, zyB_kp h]
theorem zyQ_kp {m m1 : zMem} (h : zkp m m1) (q n w : Int) : zyQ m1 q n w = zyQ m q n w := by
  simp only [zyQ, h.1, h.2.1, h.co, zyB_kp h]
theorem zyA_kp {m m1 : zMem} (h : zkp m m1) (a b le v : Int) : zyA m1 a b le v = zyA m a b le v := by
  simp only [zyA, h.1, h.2.1, h.co, zyB_kp h]
theorem zyW_kp {m m1 : zMem} (h : zkp m m1) (q w : Int) : zyW m1 q w = zyW m q w := by
  simp only [zyW, h.1, h.2.1, h.co, zyB_kp h]
theorem zyE_kp {m m1 : zMem} (h : zkp m m1) (a b le tb i j k : Int) : zyE m1 a b le tb i j k = zyE m a b le tb i j k := by
  simp only [zyE, zsm, h.1, h.2.1, h.co, zyB_kp h]
theorem zyR_kp {m m1 : zMem} (h : zkp m m1) (a b le tb d : Int) : zyR m1 a b le tb d = zyR m a b le tb d := by
  simp only [zyR, h.1, h.2.1, h.co, zyB_kp h]
theorem zyX_kp {m m1 : zMem} (h : zkp m m1) (a b le tb v : Int) : zyX m1 a b le tb v = zyX m a b le tb v := by
  simp only [zyX, h.1, h.2.1, h.co, zyB_kp h]
theorem zyM_kp {m m1 : zMem} (h : zkp m m1) (a b le v k : Int) : zyM m1 a b le v k = zyM m a b le v k := by
  simp only [zyM, h.1, h.2.1, h.co, zyB_kp h]
theorem zyF_kp {m m1 : zMem} (h : zkp m m1) (a b le : Int) : zyF m1 a b le = zyF m a b le := by
  simp only [zyF, h.1, h.2.1, h.co, zyB_kp h]
theorem zyG_kp {m m1 : zMem} (h : zkp m m1) (a b k : Int) : zyG m1 a b k = zyG m a b k := by
  simp only [zyG, h.1, h.2.1, h.co, zyB_kp h]
theorem zyC_kp {m m1 : zMem} (h : zkp m m1) (q k : Int) : zyC m1 q k = zyC m q k := by
  simp only [zyC, h.1, h.2.1, h.co, zyB_kp h]
theorem zyD_kp {m m1 : zMem} (h : zkp m m1) (q : Int) : zyD m1 q = zyD m q := by
  simp only [zyD, h.1, h.2.1, h.co, zyB_kp h]
theorem zyS_kp {m m1 : zMem} (h : zkp m m1) (a b k : Int) : zyS m1 a b k = zyS m a b k := by
  simp only [zyS, h.1, h.2.1, h.co, zyB_kp h]
theorem zyT_kp {m m1 : zMem} (h : zkp m m1) (q kd fg : Int) : zyT m1 q kd fg = zyT m q kd fg := by
  simp only [zyT, h.1, h.2.1, h.co, zyB_kp h]
theorem zyU_kp {m m1 : zMem} (h : zkp m m1) (q w : Int) : zyU m1 q w = zyU m q w := by
  simp only [zyU, h.1, h.2.1, h.co, zyB_kp h]
theorem zof_kp {m m1 : zMem} (h : zkp m m1) (q w : Int) : zof m1 q w = zof m q w := by
  simp only [zof, h.1, h.2.1, h.co, zyB_kp h, h.2.2.2.1, h.2.2.2.2]
theorem zod_kp {m m1 : zMem} (h : zkp m m1) (q w : Int) : zod m1 q w = zod m q w := by
  simp only [zod, h.1, h.2.1, h.co, zyB_kp h]
theorem zre_kp {m m1 : zMem} (h : zkp m m1) (a b le tb d : Int) : zre m1 a b le tb d = zre m a b le tb d := by
  simp only [zre, zcm, zsm, h.1, h.2.1, h.co, zyB_kp h]
theorem zKp.no {m m1 : zMem} (h : zKp m m1) (w : Int) : zKp (zno m w) (zno m1 w) := by
  refine ⟨fun a h1 h2 h3 h4 h5 h6 h7 h8 h9 h10 h11 h12 => ?_, fun s h1 h2 h3 h4 h5 h6 h7 h8 => ?_⟩
  · have e := h.1 a h1 h2 h3 h4 h5 h6 h7 h8 h9 h10 h11 h12
    unfold zno
    have e68 := h.at (a := 68) (by omega)
    by_cases q : a = 68
    · subst q
      funext b
      by_cases q2 : b = -w
      · rw [q2, zu_s, zu_s, e68]
      · rw [zu_n (Or.inr q2), zu_n (Or.inr q2), e]
    · rw [zu_row q, zu_row q]; exact e
  · unfold zno
    rw [zu_row (by decide), zu_row (by decide)]; exact h.2 s h1 h2 h3 h4 h5 h6 h7 h8
theorem zAn.tie2 {m m1 m2 : zMem} {r r2 y v : Int} (h : zAn m m1 r y v) (hI : zInv m) (hy : y = 0 ∨ (-6 ≤ y ∧ y ≤ -1)) (k : (y ≠ 0 ∧ r2 = y ∧ ∃ m9, zKp m1 m9 ∧ m2 = zno m9 y) ∨ (y = 0 ∧ r2 = v ∧ zKp m1 m2)) : r2 = r ∧ zInv m2 := by
  rcases h with ⟨h1, h2, h3⟩ | ⟨h1, h2, h3⟩
  · rcases k with ⟨-, k2, m9, k3, k4⟩ | ⟨k1, -⟩
    · refine ⟨by omega, ?_⟩
      rw [k4]
      rw [h3] at k3
      exact (hI.no (by omega)).ask zCk.rf (k3.no y)
    · omega
  · rcases k with ⟨k1, -⟩ | ⟨-, k2, k3⟩
    · omega
    · exact ⟨by omega, hI.ask h3 k3⟩
theorem zKp_29 {m : zMem} {v : Int} : zKp m (zu m 67 29 v) := ⟨fun a h1 _ _ _ _ _ _ _ _ _ _ _ => zu_row h1, fun s _ _ _ _ _ _ _ h8 => zu_n (Or.inr h8)⟩
theorem rf_coefficient {l : Launch} {L : Nat} {mem m1 : zMem} {Q : zQ} (q i j : Int) (r : Int) (hI : zInv mem) (hP : zAn mem m1 r (zyP mem q i j) (zco mem q (5 * i + j))) (k : ∀ m2 : zMem, zInv m2 → Q (some (zI r)) (zS L) m2) : zw_Ok l mm_X11_coefficient [zR 67, zI q, zI i, zI j] (zS L) m1 Q := by
  have hh : zHi mem m1 := hP.hi
  have hk := hh.kp
  have e67 := hh 67 (by decide) (by decide)
  obtain ⟨R1, R2, R3, R4, R5, R6, R7⟩ := hI.rf.hi hh
  refine sp_X11_coefficient  q i j R1 R2 R3 (fun r2 m2 hf => ?_)
  rw [zyP_kp hk, hk.co q] at hf
  obtain ⟨e, hI2⟩ := hP.tie hI (by unfold zyP; omega) (by
    rcases hf with z | ⟨z1, z2, z3⟩
    · exact Or.inl z
    · exact Or.inr ⟨z1, z2, by rw [z3]; exact zKp.rf⟩)
  rw [e]; exact k m2 hI2

theorem rf_term {l : Launch} {L : Nat} {mem m1 : zMem} {Q : zQ} (q od k0 : Int) (r : Int) (hI : zInv mem) (hP : zAn mem m1 r (zyK mem q od k0) (zkt od (zco mem q) k0)) (k : ∀ m2 : zMem, zInv m2 → Q (some (zI r)) (zS L) m2) : zw_Ok l mm_X11_term [zR 67, zI q, zI od, zI k0] (zS L) m1 Q := by
  have hh : zHi mem m1 := hP.hi
  have hk := hh.kp
  have e67 := hh 67 (by decide) (by decide)
  obtain ⟨R1, R2, R3, R4, R5, R6, R7⟩ := hI.rf.hi hh
  refine sp_X11_term  q od k0 R1 R2 R3 (fun r2 m2 hf => ?_)
  rw [zyK_kp hk, hk.co q] at hf
  obtain ⟨e, hI2⟩ := hP.tie hI (by unfold zyK; omega) (by
    rcases hf with z | ⟨z1, z2, z3⟩
    · exact Or.inl z
    · exact Or.inr ⟨z1, z2, by rw [z3]; exact zKp.rf⟩)
  rw [e]; exact k m2 hI2

theorem rf_value {l : Launch} {L : Nat} {mem m1 : zMem} {Q : zQ} (q x y : Int) (r : Int) (hI : zInv mem) (hP : zAn mem m1 r (zyV mem q x y) (zvs (zco mem q) x y (mem 67 1) 25)) (k : ∀ m2 : zMem, zInv m2 → Q (some (zI r)) (zS L) m2) : zw_Ok l mm_X11_value [zR 67, zI q, zI x, zI y] (zS L) m1 Q := by
  have hh : zHi mem m1 := hP.hi
  have hk := hh.kp
  have e67 := hh 67 (by decide) (by decide)
  obtain ⟨R1, R2, R3, R4, R5, R6, R7⟩ := hI.rf.hi hh
  refine sp_X11_value  q x y R1 R2 R3 (fun r2 m2 hf => ?_)
  rw [zyV_kp hk, hk.co q, hk.1] at hf
  obtain ⟨e, hI2⟩ := hP.tie hI (by unfold zyV; omega) (by
    rcases hf with z | ⟨z1, z2, z3⟩
    · exact Or.inl z
    · exact Or.inr ⟨z1, z2, by rw [z3]; exact zKp.rf⟩)
  rw [e]; exact k m2 hI2

theorem rf_of {l : Launch} {L : Nat} {mem m1 : zMem} {Q : zQ} (q w : Int) (r : Int) (hI : zInv mem) (hP : zAn mem m1 r (zyW mem q w) (zof mem q w)) (k : ∀ m2 : zMem, zInv m2 → Q (some (zI r)) (zS L) m2) : zw_Ok l mm_X11_of [zR 67, zI q, zI w] (zS L) m1 Q := by
  have hh : zHi mem m1 := hP.hi
  have hk := hh.kp
  have e67 := hh 67 (by decide) (by decide)
  obtain ⟨R1, R2, R3, R4, R5, R6, R7⟩ := hI.rf.hi hh
  refine sp_X11_of  q w R1 R2 R3 (fun r2 m2 hf => ?_)
  rw [hk.2.1, hk.co q, hk.2.2.2.1, hk.2.2.2.2] at hf
  obtain ⟨e, hI2⟩ := hP.tie hI (by unfold zyW; omega) (by
    unfold zyW zof
    rcases hf with ⟨z1, z2, z3⟩ | ⟨z1, ⟨z2, z3, z4⟩ | ⟨z2, z3⟩⟩
    · rw [if_pos z1]; exact Or.inl ⟨by decide, z2, z3⟩
    · rw [if_neg (by omega), if_pos z2]; exact Or.inl ⟨by decide, z3, z4⟩
    · rw [if_neg (by omega), if_neg (by omega)]
      refine Or.inr ⟨rfl, ?_, by rw [z2]; exact zKp.rf⟩
      rcases z3 with ⟨e, z⟩ | ⟨e, z⟩ | ⟨e, z⟩ | ⟨e, z⟩ | ⟨e, z⟩ | ⟨e, z⟩
      · rw [if_pos e]; exact z
      · rw [if_neg (by omega), if_pos e]; exact z
      · rw [if_neg (by omega), if_neg (by omega), if_pos e]; exact z
      · rw [if_neg (by omega), if_neg (by omega), if_neg (by omega), if_pos e]; exact z
      · rw [if_neg (by omega), if_neg (by omega), if_neg (by omega), if_neg (by omega), if_pos e]; exact z
      · rw [if_neg (by omega), if_neg (by omega), if_neg (by omega), if_neg (by omega), if_neg (by omega)]; exact z)
  rw [e]; exact k m2 hI2

theorem rf_rows {l : Launch} {L : Nat} {mem m1 : zMem} {Q : zQ} (a b le tb : Int) (r : Int) (hI : zInv mem) (hP : zAn mem m1 r (zyB mem a b le tb) (zsm mem a b le tb)) (k : ∀ m2 : zMem, zInv m2 → Q (some (zI r)) (zS L) m2) : zw_Ok l mm_X11_rows [zR 67, zI a, zI b, zI le, zI tb] (zS L) m1 Q := by
  have hh : zHi mem m1 := hP.hi
  have hk := hh.kp
  have e67 := hh 67 (by decide) (by decide)
  obtain ⟨R1, R2, R3, R4, R5, R6, R7⟩ := hI.rf.hi hh
  refine sp_X11_rows  a b le tb R1 R2 R3 (fun r2 m2 hf => ?_)
  obtain ⟨e, hI2⟩ := hP.tie hI (by have := zyB_c mem a b le tb; omega) (by
    have e1 : zsm m1 a b le tb = zsm mem a b le tb := by unfold zsm; rw [hk.co, hk.co]
    rw [zyB_kp hk, e1] at hf
    exact hf)
  rw [e]; exact k m2 hI2

theorem rf_entry {l : Launch} {L : Nat} {mem m1 : zMem} {Q : zQ} (a b le tb i j k0 : Int) (r : Int) (hI : zInv mem) (hP : zAn mem m1 r (zyE mem a b le tb i j k0) (zcm mem a b le tb i j k0)) (k : ∀ m2 : zMem, zInv m2 → Q (some (zI r)) (zS L) m2) : zw_Ok l mm_X11_entry [zR 67, zI a, zI b, zI le, zI tb, zI i, zI j, zI k0] (zS L) m1 Q := by
  have hh : zHi mem m1 := hP.hi
  have hk := hh.kp
  have e67 := hh 67 (by decide) (by decide)
  obtain ⟨R1, R2, R3, R4, R5, R6, R7⟩ := hI.rf.hi hh
  refine sp_X11_entry  a b le tb i j k0 R1 R2 R3 (fun r2 m2 hf => ?_)
  obtain ⟨e, hI2⟩ := hP.tie2 hI (by have := zyB_c mem a b le tb; unfold zyE; split; omega; split; omega; split <;> omega) (by
    have e1 : zsm m1 a b le tb = zsm mem a b le tb := by unfold zsm; rw [hk.co, hk.co]
    have e2 : zcm m1 a b le tb = zcm mem a b le tb := by unfold zcm; rw [hk.co, hk.co, hk.1]
    rw [zyB_kp hk, e1, e2] at hf
    unfold zyE
    rcases hf with ⟨z1, z2, z3⟩ | ⟨z1, ⟨z2, z3, z4⟩ | ⟨z2, z3, z4, m9, z5, ⟨z6, z7, z8⟩ | ⟨z6, z7, z8, z9, z10⟩⟩⟩
    · rw [if_pos z1]; exact Or.inl ⟨z1, z2, m1, zKp.rf, z3⟩
    · rw [if_neg (by omega), if_pos z2]; exact Or.inl ⟨by decide, z3, m1, zKp.rf, z4⟩
    · rw [if_neg (by omega), if_neg (by omega), if_pos z6]; exact Or.inl ⟨by decide, z7, m9, z5, z8⟩
    · rw [if_neg (by omega), if_neg (by omega), if_neg (by omega)]; exact Or.inr ⟨rfl, z9, by rw [z10]; exact z5⟩)
  rw [e]; exact k m2 hI2

theorem rf_result {l : Launch} {L : Nat} {mem m1 : zMem} {Q : zQ} (a b le tb d : Int) (r : Int) (hI : zInv mem) (hP : zAn mem m1 r (zyR mem a b le tb d) (zre mem a b le tb d)) (k : ∀ m2 : zMem, zInv m2 → Q (some (zI r)) (zS L) m2) : zw_Ok l mm_X11_result [zR 67, zI a, zI b, zI le, zI tb, zI d] (zS L) m1 Q := by
  have hh : zHi mem m1 := hP.hi
  have hk := hh.kp
  have e67 := hh 67 (by decide) (by decide)
  obtain ⟨R1, R2, R3, R4, R5, R6, R7⟩ := hI.rf.hi hh
  refine sp_X11_result  a b le tb d R1 R2 R3 (fun r2 m2 hf => ?_)
  rw [zyB_kp hk, zre_kp hk] at hf
  obtain ⟨e, hI2⟩ := hP.tie hI (by have := zyB_c mem a b le tb; unfold zyR; split; omega; split; omega; split <;> omega) (by
    unfold zyR
    rcases hf with ⟨z1, z2, z3⟩ | ⟨z1, ⟨z2, z3, z4⟩ | ⟨z2, z3, z4⟩ | ⟨z2, z3, z4, z5⟩⟩
    · rw [if_pos z1]; exact Or.inl ⟨z1, z2, z3⟩
    · rw [if_neg (by omega), if_pos z2]; exact Or.inl ⟨by decide, z3, z4⟩
    · rw [if_neg (by omega), if_neg (by omega), if_pos z2]; exact Or.inl ⟨by decide, z3, z4⟩
    · rw [if_neg (by omega), if_neg (by omega), if_neg (by omega)]; exact Or.inr ⟨rfl, z4, z5⟩)
  rw [e]; exact k m2 hI2

theorem rf_degree {l : Launch} {L : Nat} {mem m1 : zMem} {Q : zQ} (a b le tb : Int) (r : Int) (hI : zInv mem) (hP : zAn mem m1 r (zyB mem a b le tb) (zrdg (zre mem a b le tb) 41)) (k : ∀ m2 : zMem, zInv m2 → Q (some (zI r)) (zS L) m2) : zw_Ok l mm_X11_degree [zR 67, zI a, zI b, zI le, zI tb] (zS L) m1 Q := by
  have hh : zHi mem m1 := hP.hi
  have hk := hh.kp
  have e67 := hh 67 (by decide) (by decide)
  obtain ⟨R1, R2, R3, R4, R5, R6, R7⟩ := hI.rf.hi hh
  refine sp_X11_degree  a b le tb R1 R2 R3 (fun r2 m2 hf => ?_)
  obtain ⟨e, hI2⟩ := hP.tie hI (by have := zyB_c mem a b le tb; omega) (by
    have e1 : zre m1 a b le tb = zre mem a b le tb := by funext d; exact zre_kp hk a b le tb d
    rw [zyB_kp hk, e1] at hf
    exact hf)
  rw [e]; exact k m2 hI2

theorem rf_at {l : Launch} {L : Nat} {mem m1 : zMem} {Q : zQ} (a b le tb v : Int) (r : Int) (hI : zInv mem) (hP : zAn mem m1 r (zyX mem a b le tb v) (zhr (zre mem a b le tb) v (mem 67 1) 41 41)) (k : ∀ m2 : zMem, zInv m2 → Q (some (zI r)) (zS L) m2) : zw_Ok l mm_X11_at [zR 67, zI a, zI b, zI le, zI tb, zI v] (zS L) m1 Q := by
  have hh : zHi mem m1 := hP.hi
  have hk := hh.kp
  have e67 := hh 67 (by decide) (by decide)
  obtain ⟨R1, R2, R3, R4, R5, R6, R7⟩ := hI.rf.hi hh
  refine sp_X11_at  a b le tb v R1 R2 R3 (fun r2 m2 hf => ?_)
  obtain ⟨e, hI2⟩ := hP.tie hI (by have := zyB_c mem a b le tb; unfold zyX; split; omega; split; omega; split <;> omega) (by
    have e1 : zre m1 a b le tb = zre mem a b le tb := by funext d; exact zre_kp hk a b le tb d
    rw [zyB_kp hk, e1, hk.1] at hf
    unfold zyX
    rcases hf with ⟨z1, z2, z3⟩ | ⟨z1, ⟨z2, z3, z4⟩ | ⟨z2, z3, z4⟩ | ⟨z2, z3, z4, z5⟩⟩
    · rw [if_pos z1]; exact Or.inl ⟨z1, z2, z3⟩
    · rw [if_neg (by omega), if_pos z2]; exact Or.inl ⟨by decide, z3, z4⟩
    · rw [if_neg (by omega), if_neg (by have := hI.1.1.rg; omega), if_pos z2]; exact Or.inl ⟨by decide, z3, z4⟩
    · rw [if_neg (by omega), if_neg (by omega), if_neg (by omega)]; exact Or.inr ⟨rfl, z4, z5⟩)
  rw [e]; exact k m2 hI2

theorem rf_zeros {l : Launch} {L : Nat} {mem m1 : zMem} {Q : zQ} (a b le : Int) (r : Int) (hI : zInv mem) (hP : zAn mem m1 r (zyB mem a b le 0) (zzs (fun v => zhr (zre mem a b le 0) v (mem 67 1) 41 41) (mem 67 1).toNat)) (k : ∀ m2 : zMem, zInv m2 → Q (some (zI r)) (zS L) m2) : zw_Ok l mm_X11_zeros [zR 67, zI a, zI b, zI le] (zS L) m1 Q := by
  have hh : zHi mem m1 := hP.hi
  have hk := hh.kp
  have e67 := hh 67 (by decide) (by decide)
  obtain ⟨R1, R2, R3, R4, R5, R6, R7⟩ := hI.rf.hi hh
  refine sp_X11_zeros  a b le R1 R2 R3 (fun r2 m2 hf => ?_)
  obtain ⟨e, hI2⟩ := hP.tie hI (by have := zyB_c mem a b le 0; omega) (by
    have e1 : zre m1 a b le 0 = zre mem a b le 0 := by funext d; exact zre_kp hk a b le 0 d
    rw [zyB_kp hk, e1, hk.1] at hf
    exact hf)
  rw [e]; exact k m2 hI2

theorem rf_remainder {l : Launch} {L : Nat} {mem m1 : zMem} {Q : zQ} (a b le v k0 : Int) (r : Int) (hI : zInv mem) (hP : zAn mem m1 r (zyM mem a b le v k0) (zrs0 (mem 67 1) k0 (zsa (zco mem a) le v (mem 67 1)) (zsa (zco mem b) le v (mem 67 1)))) (k : ∀ m2 : zMem, zInv m2 → Q (some (zI r)) (zS L) m2) : zw_Ok l mm_X11_remainder [zR 67, zI a, zI b, zI le, zI v, zI k0] (zS L) m1 Q := by
  have hh : zHi mem m1 := hP.hi
  have hk := hh.kp
  have e67 := hh 67 (by decide) (by decide)
  obtain ⟨R1, R2, R3, R4, R5, R6, R7⟩ := hI.rf.hi hh
  refine sp_X11_remainder  a b le v k0 R1 R2 R3 (fun r2 m2 hf => ?_)
  rw [zyB_kp hk, hk.co a, hk.co b, hk.1] at hf
  obtain ⟨e, hI2⟩ := hP.tie hI (by have := zyB_c mem a b le 0; unfold zyM; split; omega; split; omega; split <;> omega) (by
    unfold zyM
    rcases hf with ⟨z1, z2, z3⟩ | ⟨z1, ⟨z2, z3, z4⟩ | ⟨z2, z3, z4, z5, z6⟩ | ⟨z2, z3, z4, z5, z6⟩⟩
    · rw [if_pos z1]; exact Or.inl ⟨z1, z2, z3⟩
    · rw [if_neg (by omega), if_pos z2]; exact Or.inl ⟨by decide, z3, z4⟩
    · rw [if_neg (by omega), if_neg (by omega), if_pos z4]; exact Or.inl ⟨by decide, z5, z6⟩
    · rw [if_neg (by omega), if_neg (by omega), if_neg (by omega)]; exact Or.inr ⟨rfl, z5, z6⟩)
  rw [e]; exact k m2 hI2

theorem rf_common {l : Launch} {L : Nat} {mem m1 : zMem} {Q : zQ} (a b le v : Int) (r : Int) (hI : zInv mem) (hP : zAn mem m1 r (zyA mem a b le v) (zrs0 (mem 67 1) (-2) (zsa (zco mem a) le v (mem 67 1)) (zsa (zco mem b) le v (mem 67 1)))) (k : ∀ m2 : zMem, zInv m2 → Q (some (zI r)) (zS L) m2) : zw_Ok l mm_X11_common [zR 67, zI a, zI b, zI le, zI v] (zS L) m1 Q := by
  have hh : zHi mem m1 := hP.hi
  have hk := hh.kp
  have e67 := hh 67 (by decide) (by decide)
  obtain ⟨R1, R2, R3, R4, R5, R6, R7⟩ := hI.rf.hi hh
  refine sp_X11_common  a b le v R1 R2 R3 (fun r2 m2 hf => ?_)
  rw [zyA_kp hk, hk.co a, hk.co b, hk.1] at hf
  obtain ⟨e, hI2⟩ := hP.tie hI (by have := zyA_c mem a b le v; omega) (by
    exact hf)
  rw [e]; exact k m2 hI2

theorem rf_norm {l : Launch} {L : Nat} {mem m1 : zMem} {Q : zQ} (a b le v : Int) (r : Int) (hI : zInv mem) (hP : zAn mem m1 r (zyA mem a b le v) (if zdp (zsa (zco mem a) le v (mem 67 1)) 5 < 0 then -9 else zdet (znc (mem 67 1) (zsa (zco mem a) le v (mem 67 1)) (zsa (zco mem b) le v (mem 67 1))) (mem 67 1) (zdp (zsa (zco mem a) le v (mem 67 1)) 5) 0)) (k : ∀ m2 : zMem, zInv m2 → Q (some (zI r)) (zS L) m2) : zw_Ok l mm_X11_norm [zR 67, zI a, zI b, zI le, zI v] (zS L) m1 Q := by
  have hh : zHi mem m1 := hP.hi
  have hk := hh.kp
  have e67 := hh 67 (by decide) (by decide)
  obtain ⟨R1, R2, R3, R4, R5, R6, R7⟩ := hI.rf.hi hh
  refine sp_X11_norm  a b le v R1 R2 R3 (fun r2 m2 hf => ?_)
  rw [zyA_kp hk, hk.co a, hk.co b, hk.1] at hf
  obtain ⟨e, hI2⟩ := hP.tie hI (by have := zyA_c mem a b le v; omega) (by
    rcases hf with z | ⟨z1, ⟨z2, z3, z4⟩ | ⟨z2, z3, z4⟩⟩
    · exact Or.inl z
    · exact Or.inr ⟨z1, by rw [if_pos z2]; exact z3, z4⟩
    · exact Or.inr ⟨z1, by rw [if_neg (by omega)]; exact z3, z4⟩)
  rw [e]; exact k m2 hI2

theorem rf_extra {l : Launch} {L : Nat} {mem m1 : zMem} {Q : zQ} (a b le : Int) (r : Int) (hI : zInv mem) (hP : zAn mem m1 r (zyB mem a b le 0) (zrs0 (mem 67 1) (-2) (zld (zco mem a) le) (zld (zco mem b) le))) (k : ∀ m2 : zMem, zInv m2 → Q (some (zI r)) (zS L) m2) : zw_Ok l mm_X11_extra [zR 67, zI a, zI b, zI le] (zS L) m1 Q := by
  have hh : zHi mem m1 := hP.hi
  have hk := hh.kp
  have e67 := hh 67 (by decide) (by decide)
  obtain ⟨R1, R2, R3, R4, R5, R6, R7⟩ := hI.rf.hi hh
  refine sp_X11_extra  a b le R1 R2 R3 (fun r2 m2 hf => ?_)
  rw [zyB_kp hk, hk.co a, hk.co b, hk.1] at hf
  obtain ⟨e, hI2⟩ := hP.tie hI (by have := zyB_c mem a b le 0; omega) (by
    exact hf)
  rw [e]; exact k m2 hI2

theorem rf_lifted {l : Launch} {L : Nat} {mem m1 : zMem} {Q : zQ} (a b le : Int) (r : Int) (hI : zInv mem) (hP : zAn mem m1 r (zyF mem a b le) (zbX (zri (zco mem a) (zco mem b) (mem 67 1)) le (mem 67 1) (mem 67 1).toNat)) (k : ∀ m2 : zMem, zInv m2 → Q (some (zI r)) (zS L) m2) : zw_Ok l mm_X11_lifted [zR 67, zI a, zI b, zI le] (zS L) m1 Q := by
  have hh : zHi mem m1 := hP.hi
  have hk := hh.kp
  have e67 := hh 67 (by decide) (by decide)
  obtain ⟨R1, R2, R3, R4, R5, R6, R7⟩ := hI.rf.hi hh
  refine sp_X11_lifted  a b le R1 R2 R3 (fun r2 m2 hf => ?_)
  rw [hk.2.1, hk.co a, hk.co b, hk.1] at hf
  obtain ⟨e, hI2⟩ := hP.tie hI (by unfold zyF; omega) (by
    unfold zyF
    rcases hf with ⟨z1, z2, z3⟩ | ⟨z1, z2, z3⟩
    · rw [if_neg z1]; exact Or.inl ⟨by decide, z2, z3⟩
    · rw [if_pos (by omega)]; exact Or.inr ⟨rfl, z2, by rw [z3]; exact zKp.rf⟩)
  rw [e]; exact k m2 hI2

theorem rf_root {l : Launch} {L : Nat} {mem m1 : zMem} {Q : zQ} (a b k0 : Int) (r : Int) (hI : zInv mem) (hP : zAn mem m1 r (zyG mem a b k0) (if k0 = -1 then zcX (zri (zco mem a) (zco mem b) (mem 67 1)) (mem 67 1) (mem 67 1).toNat else zRX (zri (zco mem a) (zco mem b) (mem 67 1)) (mem 67 1) (mem 67 1).toNat k0)) (k : ∀ m2 : zMem, zInv m2 → Q (some (zI r)) (zS L) m2) : zw_Ok l mm_X11_root [zR 67, zI a, zI b, zI k0] (zS L) m1 Q := by
  have hh : zHi mem m1 := hP.hi
  have hk := hh.kp
  have e67 := hh 67 (by decide) (by decide)
  obtain ⟨R1, R2, R3, R4, R5, R6, R7⟩ := hI.rf.hi hh
  refine sp_X11_root  a b k0 R1 R2 R3 (fun r2 m2 hf => ?_)
  rw [hk.2.1, hk.co a, hk.co b, hk.1] at hf
  obtain ⟨e, hI2⟩ := hP.tie hI (by unfold zyG; omega) (by
    unfold zyG
    rcases hf with ⟨z1, z2, z3⟩ | ⟨z1, ⟨z2, z3, z4⟩ | ⟨z2, z3, z4⟩ | ⟨z2, z3, z4⟩⟩
    · rw [if_pos z1]; exact Or.inl ⟨by decide, z2, z3⟩
    · rw [if_neg z1, if_pos z2]; exact Or.inl ⟨by decide, z3, z4⟩
    · rw [if_neg z1, if_neg (by omega), if_pos z2]; exact Or.inr ⟨rfl, z3, by rw [z4]; exact zKp.rf⟩
    · rw [if_neg z1, if_neg (by omega), if_neg (by omega)]; exact Or.inr ⟨rfl, z3, by rw [z4]; exact zKp.rf⟩)
  rw [e]; exact k m2 hI2

theorem rf_without {l : Launch} {L : Nat} {mem m1 : zMem} {Q : zQ} (a b : Int) (r : Int) (hI : zInv mem) (hP : zAn mem m1 r (zyG mem a b 0) (zcX (znz (zri (zco mem a) (zco mem b) (mem 67 1))) (mem 67 1) (mem 67 1).toNat)) (k : ∀ m2 : zMem, zInv m2 → Q (some (zI r)) (zS L) m2) : zw_Ok l mm_X11_without [zR 67, zI a, zI b] (zS L) m1 Q := by
  have hh : zHi mem m1 := hP.hi
  have hk := hh.kp
  have e67 := hh 67 (by decide) (by decide)
  obtain ⟨R1, R2, R3, R4, R5, R6, R7⟩ := hI.rf.hi hh
  refine sp_X11_without  a b R1 R2 R3 (fun r2 m2 hf => ?_)
  rw [hk.2.1, hk.co a, hk.co b, hk.1] at hf
  obtain ⟨e, hI2⟩ := hP.tie hI (by unfold zyG; omega) (by
    unfold zyG
    rcases hf with ⟨z1, z2, z3⟩ | ⟨z1, z2, z3⟩
    · rw [if_pos z1]; exact Or.inl ⟨by decide, z2, z3⟩
    · rw [if_neg z1, if_neg (by decide)]; exact Or.inr ⟨rfl, z2, by rw [z3]; exact zKp.rf⟩)
  rw [e]; exact k m2 hI2

theorem rf_lots {l : Launch} {L : Nat} {mem m1 : zMem} {Q : zQ} (q n z w : Int) (r : Int) (hI : zInv mem) (hP : zAn mem m1 r (zyQ mem q n w) (if w = 0 then zlc (fun x y => zvs (zco mem q) x y (mem 67 1) 25) z (mem 67 1) n.toNat else zlv (fun x y => zvs (zco mem q) x y (mem 67 1) 25) z (mem 67 1) n.toNat)) (k : ∀ m2 : zMem, zInv m2 → Q (some (zI r)) (zS L) m2) : zw_Ok l mm_X11_lots [zR 67, zI q, zI n, zI z, zI w] (zS L) m1 Q := by
  have hh : zHi mem m1 := hP.hi
  have hk := hh.kp
  have e67 := hh 67 (by decide) (by decide)
  obtain ⟨R1, R2, R3, R4, R5, R6, R7⟩ := hI.rf.hi hh
  refine sp_X11_lots  q n z w R1 R2 R3 (fun r2 m2 hf => ?_)
  rw [zyQ_kp hk, hk.co q, hk.1] at hf
  obtain ⟨e, hI2⟩ := hP.tie hI (by unfold zyQ; omega) (by
    rcases hf with z | ⟨z1, z2, v9, z3⟩
    · exact Or.inl z
    · exact Or.inr ⟨z1, z2, by rw [z3]; exact zKp_29⟩)
  rw [e]; exact k m2 hI2

theorem rf_corner {l : Launch} {L : Nat} {mem m1 : zMem} {Q : zQ} (q k0 : Int) (f : Int → Int) (n : Int) (r : Int) (hI : zInv mem) (hH : zyC mem q k0 = 0 → zHu (zP1 (zco mem q)) f n) (hP : zAn mem m1 r (zyC mem q k0) (zcr f n k0)) (k : ∀ m2 : zMem, zInv m2 → Q (some (zI r)) (zS L) m2) : zw_Ok l mm_X11_corner [zR 67, zI q, zI k0] (zS L) m1 Q := by
  have hh : zHi mem m1 := hP.hi
  have hk := hh.kp
  have e67 := hh 67 (by decide) (by decide)
  obtain ⟨R1, R2, R3, R4, R5, R6, R7⟩ := hI.rf.hi hh
  refine sp_X11_corner_w f n q k0 R1 R2 R3 (by rw [zyC_kp hk, hk.co q]; exact hH) (fun r2 m2 hf => ?_)
  rw [zyC_kp hk] at hf
  obtain ⟨e, hI2⟩ := hP.tie hI (by unfold zyC; omega) (by
    exact hf)
  rw [e]; exact k m2 hI2

theorem rf_area {l : Launch} {L : Nat} {mem m1 : zMem} {Q : zQ} (q : Int) (f : Int → Int) (n : Int) (r : Int) (hI : zInv mem) (hH : zyD mem q = 0 → zHu (zP1 (zco mem q)) f n) (hP : zAn mem m1 r (zyD mem q) (zar f (n - 2).toNat)) (k : ∀ m2 : zMem, zInv m2 → Q (some (zI r)) (zS L) m2) : zw_Ok l mm_X11_area [zR 67, zI q] (zS L) m1 Q := by
  have hh : zHi mem m1 := hP.hi
  have hk := hh.kp
  have e67 := hh 67 (by decide) (by decide)
  obtain ⟨R1, R2, R3, R4, R5, R6, R7⟩ := hI.rf.hi hh
  refine sp_X11_area f n q R1 R2 R3 (by unfold zH1; rw [hk.co q, hk.2.1]; exact fun h1 h2 => hH (by unfold zyD; rw [if_neg (by omega), if_neg h2])) (fun r2 m2 hf => ?_)
  rw [zyD_kp hk] at hf
  obtain ⟨e, hI2⟩ := hP.tie hI (by unfold zyD; omega) (by
    exact hf)
  rw [e]; exact k m2 hI2

theorem rf_sum {l : Launch} {L : Nat} {mem m1 : zMem} {Q : zQ} (a b k0 : Int) (f : Int → Int) (n : Int) (r : Int) (hI : zInv mem) (hH : zyS mem a b k0 = 0 → zHu (zP2 (zco mem a) (zco mem b)) f n) (hP : zAn mem m1 r (zyS mem a b k0) (if k0 < 0 then zar f (n - 2).toNat else zcr f n k0)) (k : ∀ m2 : zMem, zInv m2 → Q (some (zI r)) (zS L) m2) : zw_Ok l mm_X11_sum [zR 67, zI a, zI b, zI k0] (zS L) m1 Q := by
  have hh : zHi mem m1 := hP.hi
  have hk := hh.kp
  have e67 := hh 67 (by decide) (by decide)
  obtain ⟨R1, R2, R3, R4, R5, R6, R7⟩ := hI.rf.hi hh
  refine sp_X11_sum_w f n a b k0 R1 R2 R3 (by rw [zyS_kp hk, hk.co a, hk.co b]; exact hH) (fun r2 m2 hf => ?_)
  rw [zyS_kp hk] at hf
  obtain ⟨e, hI2⟩ := hP.tie hI (by have := zyB_c mem a b 0 0; unfold zyS; split; omega; split <;> omega) (by
    exact hf)
  rw [e]; exact k m2 hI2

theorem rf_mixed {l : Launch} {L : Nat} {mem m1 : zMem} {Q : zQ} (a b : Int) (f1 f2 f3 : Int → Int) (n1 n2 n3 : Int) (r : Int) (hI : zInv mem) (hH : zyB mem a b 0 0 = 0 → zHu (zP1 (zco mem a)) f1 n1 ∧ zHu (zP1 (zco mem b)) f2 n2 ∧ zHu (zP2 (zco mem a) (zco mem b)) f3 n3) (hP : zAn mem m1 r (zyB mem a b 0 0) (zmd (zar f3 (n3 - 2).toNat) (zar f1 (n1 - 2).toNat) (zar f2 (n2 - 2).toNat))) (k : ∀ m2 : zMem, zInv m2 → Q (some (zI r)) (zS L) m2) : zw_Ok l mm_X11_mixed [zR 67, zI a, zI b] (zS L) m1 Q := by
  have hh : zHi mem m1 := hP.hi
  have hk := hh.kp
  have e67 := hh 67 (by decide) (by decide)
  obtain ⟨R1, R2, R3, R4, R5, R6, R7⟩ := hI.rf.hi hh
  refine sp_X11_mixed_w f1 f2 f3 n1 n2 n3 a b R1 R2 R3 (by rw [zyB_kp hk, hk.co a, hk.co b]; exact hH) (fun r2 m2 hf => ?_)
  rw [zyB_kp hk] at hf
  obtain ⟨e, hI2⟩ := hP.tie hI (by have := zyB_c mem a b 0 0; omega) (by
    exact hf)
  rw [e]; exact k m2 hI2

theorem rf_odds {l : Launch} {L : Nat} {mem m1 : zMem} {Q : zQ} (q w : Int) (r : Int) (hI : zInv mem) (hP : zAJ mem m1 r (zyU mem q w) (zod mem q w)) (k : ∀ m2 : zMem, zInv m2 → Q (some (zJ r)) (zS L) m2) : zw_Ok l mm_X11_odds [zR 67, zI q, zI w] (zS L) m1 Q := by
  have hh : zHi mem m1 := by rcases hP with ⟨-, -, z⟩ | ⟨-, -, z⟩; rw [z]; exact zCn.hi; exact z.hi
  have hk := hh.kp
  have e67 := hh 67 (by decide) (by decide)
  obtain ⟨R1, R2, R3, R4, R5, R6, R7⟩ := hI.rf.hi hh
  refine sp_X11_odds  q w R1 R2 R3 (fun r2 m2 hf => ?_)
  rw [hk.2.1, hk.co q, hk.1] at hf
  have hd : zod mem q w = (if w = 0 then zcX (zri (zco mem q) (zco mem q) (mem 67 1)) (mem 67 1) (mem 67 1).toNat else mem 67 1 * mem 67 1) / zgcd (zcX (zri (zco mem q) (zco mem q) (mem 67 1)) (mem 67 1) (mem 67 1).toNat) (mem 67 1 * mem 67 1) := rfl
  rw [← hd] at hf
  obtain ⟨e, hI2⟩ : r2 = r ∧ zInv m2 := by
    unfold zAJ zyU at hP
    rcases hf with ⟨z1, z2, z3⟩ | ⟨z1, z2, z3, z4⟩ | ⟨z1, z2, z3, z4⟩
    · rw [if_pos z1] at hP
      rcases hP with ⟨h1, h2, h3⟩ | ⟨h1, -⟩
      · exact ⟨by omega, by rw [z3, h3]; exact hI.no (by decide)⟩
      · exact absurd h1 (by decide)
    · rw [if_neg (by omega), if_pos z2] at hP
      rcases hP with ⟨h1, h2, h3⟩ | ⟨h1, -⟩
      · exact ⟨by omega, by rw [z4, h3]; exact hI.no (by decide)⟩
      · exact absurd h1 (by decide)
    · rw [if_neg (by omega), if_neg (by omega)] at hP
      rcases hP with ⟨h1, -⟩ | ⟨h1, h2, h3⟩
      · exact absurd rfl h1
      · exact ⟨by rw [z4, h2], by rw [z3]; exact hI.ask h3 zKp.rf⟩
  rw [e]; exact k m2 hI2


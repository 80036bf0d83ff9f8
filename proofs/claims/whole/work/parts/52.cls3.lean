/-! ===== the class: reading ===== -/
def zcx (mem : zMem) (i : Int) : Int := if 0 ≤ i ∧ i < mem 41 0 then mem 43 i else -9
def zRd (mem : zMem) (X : Int → Int) : Prop := zcx mem = X ∧ (0 ≤ mem 41 0 ∧ mem 41 0 ≤ 72) ∧ ∀ i : Int, 0 ≤ i → i < mem 41 0 → 0 ≤ mem 43 i ∧ mem 43 i ≤ 255
theorem zRd.keep {m m2 : zMem} {X : Int → Int} (h : zRd m X) (e0 : m2 41 0 = m 41 0) (e1 : m2 43 = m 43) : zRd m2 X := by
  unfold zRd zcx
  rw [e0, e1]
  exact h
theorem zRd.b {m : zMem} {X : Int → Int} (h : zRd m X) (i : Int) : (X i = -9 ∧ (0 ≤ i → m 41 0 ≤ i)) ∨ (0 ≤ X i ∧ X i ≤ 255 ∧ 0 ≤ i ∧ i < m 41 0) := by
  obtain ⟨h1, h2, h3⟩ := h
  rw [← h1]
  unfold zcx
  by_cases q : 0 ≤ i ∧ i < m 41 0
  · rw [if_pos q]; have := h3 i q.1 q.2; omega
  · rw [if_neg q]; omega
theorem zRd.at {m : zMem} {X : Int → Int} (h : zRd m X) {i : Int} (h0 : 0 ≤ i) (h1 : i < m 41 0) : m 43 i = X i := by
  rw [← h.1]
  unfold zcx
  rw [if_pos ⟨h0, h1⟩]
theorem zRd.no {m : zMem} {X : Int → Int} (h : zRd m X) {i : Int} (h1 : m 41 0 ≤ i) : X i = -9 := by
  rw [← h.1]
  unfold zcx
  rw [if_neg (by omega)]
def zA3 (m m2 : zMem) (b : Int) : Prop := m2 41 3 = b ∧ (∀ s : Int, s ≠ 3 → m2 41 s = m 41 s) ∧ ∀ q : Nat, q ≠ 41 → m2 q = m q
theorem zA3.rf {m : zMem} {a : Int} (h : m 41 3 = a) : zA3 m m a := ⟨h, fun _ _ => rfl, fun _ _ => rfl⟩
theorem zA3.put {m m2 : zMem} {b : Int} (h : zA3 m m2 b) (c : Int) : zA3 m (zu m2 41 3 c) c := ⟨zu_s, fun s hs => by rw [zu_n (Or.inr hs)]; exact h.2.1 s hs, fun q hq => by rw [zu_row hq]; exact h.2.2 q hq⟩
theorem zA3.rd {m m2 : zMem} {b : Int} {X : Int → Int} (h : zA3 m m2 b) (k : zRd m X) : zRd m2 X := k.keep (h.2.1 0 (by decide)) (h.2.2 43 (by decide))
theorem zpP_le {X : Int → Int} {c a N : Int} (h : ∀ i : Int, N ≤ i → X i = -9) (hc : 0 ≤ c) (ha : a ≤ N) : zpP X c a ≤ N := by
  have h0 := h a
  have h1 := h (a + 1)
  have h2 := h (a + 2)
  unfold zpP zrp
  by_cases q : X a = c
  · rw [if_pos q]
    by_cases q1 : X (a + 1) = 94
    · rw [if_pos q1]
      by_cases q2 : 49 ≤ X (a + 2) ∧ X (a + 2) ≤ 52
      · rw [if_pos q2]; omega
      · rw [if_neg q2]; omega
    · rw [if_neg q1]; omega
  · rw [if_neg q]; exact ha
theorem zt3_le {X : Int → Int} {a N : Int} (h : ∀ i : Int, N ≤ i → X i = -9) (ha : a ≤ N) : zt3 X a ≤ N := by
  have h0 := h a
  have h1 := h (a + 1)
  have hN : zpN X a ≤ N := by
    unfold zpN
    by_cases q : 48 ≤ X a ∧ X a ≤ 57
    · rw [if_pos q]
      by_cases q1 : 48 ≤ X (a + 1) ∧ X (a + 1) ≤ 57
      · rw [if_pos q1]; omega
      · rw [if_neg q1]; omega
    · rw [if_neg q]; exact ha
  exact zpP_le h (by decide) (zpP_le h (by decide) hN)

set_option maxRecDepth 100000 in
set_option maxHeartbeats 4000000 in
theorem sp_X6_isFull {l : Launch} {L : Nat} {mem : zMem} {Q : zQ}    (k : Q (some (zI (if 72 ≤ mem 41 0 then 1 else 0))) (zS L) mem) : zw_Ok l mm_X6_isFull [zR 41] (zS L) mem Q := by
  refine zw_enter (by decide) (Nat.le_of_ble_eq_true rfl) rfl ?_
  show zw_Wp l mm_X6_isFull (zS L) 0 [some (zR 41)] [] mem 0 0 Q
  refine wp_aload_n dd_X6_isFull_0 rfl ?_
  refine wp_getZ 0 rfl dd_X6_isFull_1 gf_X6_18 rfl kk_41 (by decide) (zlt rfl) ?_
  refine wp_bipush dd_X6_isFull_4 (by decide) ?_
  refine wp_icmp_lt (tgt := 13) dd_X6_isFull_6 (by decide) (fun c6_1 => ?_) (fun c6_1 => ?_)
  · skip
    refine wp_iconst dd_X6_isFull_13 (zr_lit rfl) ?_
    refine wp_zreturn (st := []) dd_X6_isFull_14 rfl (by omega) ?_
    refine zq_I ?_ ?_ k
    · first | rfl | omega | (rw [if_pos (by omega)]) | (rw [if_neg (by omega)])
    · rfl
  · skip
    refine wp_iconst dd_X6_isFull_9 (zr_lit rfl) ?_
    refine wp_goto (tgt := 14) dd_X6_isFull_10 (by decide) ?_
    refine wp_zreturn (st := []) dd_X6_isFull_14 rfl (by omega) ?_
    refine zq_I ?_ ?_ k
    · first | rfl | omega | (rw [if_pos (by omega)]) | (rw [if_neg (by omega)])
    · rfl

set_option maxRecDepth 100000 in
set_option maxHeartbeats 4000000 in
theorem sp_X6_take {l : Launch} {L : Nat} {mem : zMem} {Q : zQ}  (c : Int) (hs : 0 ≤ mem 41 0 ∧ mem 41 0 < 72) (k : Q (some (zI (mem 41 0 + 1))) (zS L) (zu (zu mem 43 (mem 41 0) c) 41 0 (mem 41 0 + 1))) : zw_Ok l mm_X6_take [zR 41, zI c] (zS L) mem Q := by
  refine zw_okA (fun hA => ?_)
  have rg_c : -2147483648 ≤ c ∧ c < 2147483648 := hA.2.1
  refine zw_enter (by decide) (Nat.le_of_ble_eq_true rfl) rfl ?_
  show zw_Wp l mm_X6_take (zS L) 0 [some (zR 41), some (zI c)] [] mem 0 0 Q
  refine wp_aload_n dd_X6_take_0 rfl ?_
  refine wp_getZ 0 rfl dd_X6_take_1 gf_X6_18 rfl kk_41 (by decide) (zlt rfl) ?_
  refine wp_bipush dd_X6_take_4 (by decide) ?_
  refine wp_icmp_ge (tgt := 29) dd_X6_take_6 (by decide) (fun c6_1 => ?_) (fun c6_1 => ?_)
  · skip
    exfalso; omega
  · skip
    refine wp_aload_n dd_X6_take_9 rfl ?_
    refine wp_getR dd_X6_take_10 gf_X6_15 rfl kk_41 (by decide) (zlt rfl) rr_41_2 ?_
    refine wp_aload_n dd_X6_take_13 rfl ?_
    refine wp_getZ 0 rfl dd_X6_take_14 gf_X6_18 rfl kk_41 (by decide) (zlt rfl) ?_
    refine wp_iload_n dd_X6_take_17 rfl ?_
    refine wp_iast dd_X6_take_18 kk_43 (zlt rfl) (by omega) (by omega) ?_
    refine wp_aload_n dd_X6_take_19 rfl ?_
    refine wp_dup dd_X6_take_20 rfl ?_
    refine wp_getV 0 (v := mem 41 0) rfl (by rw [zu_row (by decide)]) dd_X6_take_21 gf_X6_18 rfl kk_41 (by decide) (zlt rfl) ?_
    refine wp_iconst dd_X6_take_24 (zr_lit rfl) ?_
    refine wp_iaddC dd_X6_take_25 (by omega) ?_
    refine wp_putzI 0 rfl dd_X6_take_26 pf_X6_18 rfl kk_41 (by decide) (zlt rfl) ?_
    refine wp_aload_n dd_X6_take_29 rfl ?_
    refine wp_getV 0 (v := (mem 41 0) + 1) rfl (by rw [zu_s]) dd_X6_take_30 gf_X6_18 rfl kk_41 (by decide) (zlt rfl) ?_
    refine wp_ireturn (st := []) dd_X6_take_33 rfl ?_
    refine zq_I ?_ ?_ k
    · first | rfl | omega | (rw [if_pos (by omega)]) | (rw [if_neg (by omega)])
    · rfl

set_option maxRecDepth 100000 in
set_option maxHeartbeats 4000000 in
theorem sp_X6_forget {l : Launch} {L : Nat} {mem : zMem} {Q : zQ}    (k : Q none (zS L) (zu mem 41 0 0)) : zw_Ok l mm_X6_forget [zR 41] (zS L) mem Q := by
  refine zw_enter (by decide) (Nat.le_of_ble_eq_true rfl) rfl ?_
  show zw_Wp l mm_X6_forget (zS L) 0 [some (zR 41)] [] mem 0 0 Q
  refine wp_aload_n dd_X6_forget_0 rfl ?_
  refine wp_iconst dd_X6_forget_1 (zr_lit rfl) ?_
  refine wp_putzI 0 rfl dd_X6_forget_2 pf_X6_18 rfl kk_41 (by decide) (zlt rfl) ?_
  refine wp_return (st := []) dd_X6_forget_5 rfl ?_
  exact k

set_option maxRecDepth 100000 in
set_option maxHeartbeats 4000000 in
theorem sp_X6_next {l : Launch} {L : Nat} {mem : zMem} {Q : zQ} (X : Int → Int) (a : Int)  (hR : zRd mem X) (hAt : mem 41 3 = a) (ha : 0 ≤ a ∧ a ≤ 200) (k : Q (some (zI (if X (a) = -9 then -1 else X (a)))) (zS L) mem) : zw_Ok l mm_X6_next [zR 41] (zS L) mem Q := by
  refine zw_enter (by decide) (Nat.le_of_ble_eq_true rfl) rfl ?_
  show zw_Wp l mm_X6_next (zS L) 0 [some (zR 41)] [] mem 0 0 Q
  have hb := hR.b a
  have hs := hR.2.1
  refine wp_aload_n dd_X6_next_0 rfl ?_
  refine wp_getZ 3 rfl dd_X6_next_1 gf_X6_28 rfl kk_41 (by decide) (zlt rfl) ?_
  rw [show (mem 41 3 : Int) = a from hAt]
  refine wp_if_lt (tgt := 30) dd_X6_next_4 (by decide) (fun c4_1 => ?_) (fun c4_1 => ?_)
  · skip
    refine wp_iconst dd_X6_next_30 (zr_lit rfl) ?_
    refine wp_ireturn (st := []) dd_X6_next_31 rfl ?_
    refine zq_I ?_ ?_ k
    · first | (rw [if_neg (by omega)]; omega) | (rw [if_pos (by omega)])
    · rfl
  · skip
    refine wp_aload_n dd_X6_next_7 rfl ?_
    refine wp_getZ 3 rfl dd_X6_next_8 gf_X6_28 rfl kk_41 (by decide) (zlt rfl) ?_
    rw [show (mem 41 3 : Int) = a from hAt]
    refine wp_aload_n dd_X6_next_11 rfl ?_
    refine wp_getZ 0 rfl dd_X6_next_12 gf_X6_18 rfl kk_41 (by decide) (zlt rfl) ?_
    refine wp_icmp_ge (tgt := 30) dd_X6_next_15 (by decide) (fun c15_2 => ?_) (fun c15_2 => ?_)
    · skip
      refine wp_iconst dd_X6_next_30 (zr_lit rfl) ?_
      refine wp_ireturn (st := []) dd_X6_next_31 rfl ?_
      refine zq_I ?_ ?_ k
      · first | (rw [if_neg (by omega)]; omega) | (rw [if_pos (by omega)])
      · rfl
    · skip
      refine wp_aload_n dd_X6_next_18 rfl ?_
      refine wp_getR dd_X6_next_19 gf_X6_15 rfl kk_41 (by decide) (zlt rfl) rr_41_2 ?_
      refine wp_aload_n dd_X6_next_22 rfl ?_
      refine wp_getZ 3 rfl dd_X6_next_23 gf_X6_28 rfl kk_41 (by decide) (zlt rfl) ?_
      rw [show (mem 41 3 : Int) = a from hAt]
      refine wp_iald dd_X6_next_26 kk_43 (zlt rfl) (by omega) (by omega) ?_
      have h43 := hR.at ha.1 (by omega)
      refine wp_goto (tgt := 31) dd_X6_next_27 (by decide) ?_
      refine wp_ireturn (st := []) dd_X6_next_31 rfl ?_
      refine zq_I ?_ ?_ k
      · first | (rw [if_neg (by omega)]; omega) | (rw [if_pos (by omega)])
      · rfl

set_option maxRecDepth 100000 in
set_option maxHeartbeats 4000000 in
theorem sp_X6_readPower {l : Launch} {L : Nat} {mem : zMem} {Q : zQ} (X : Int → Int) (a : Int) (c : Int) (hR : zRd mem X) (hAt : mem 41 3 = a) (ha : 0 ≤ a ∧ a ≤ 150) (hc : 100 ≤ c ∧ c ≤ 130) (k : ∀ (r : Int) (mem2 : zMem), (r = if zvP X c a < 0 then -1 else zvP X c a) → (zA3 mem mem2 (zpP X c a)) → Q (some (zI r)) (zS L) mem2) : zw_Ok l mm_X6_readPower [zR 41, zI c] (zS L) mem Q := by
  refine zw_okA (fun hA => ?_)
  have rg_c : -2147483648 ≤ c ∧ c < 2147483648 := hA.2.1
  refine zw_enter (by decide) (Nat.le_of_ble_eq_true rfl) rfl ?_
  show zw_Wp l mm_X6_readPower (zS L) 0 [some (zR 41), some (zI c), none] [] mem 0 0 Q
  have hA2 := zA3.rf hAt
  have hB2 := hA2.put (a + 1)
  have hC2 := hB2.put (a + 2)
  have hD2 := hC2.put (a + 3)
  have b0 := hR.b a
  have b1 := hR.b (a + 1)
  have b2 := hR.b (a + 2)
  refine wp_aload_n dd_X6_readPower_0 rfl ?_
  refine wp_callV (M' := mm_X6_next) (As := []) (rest := []) dd_X6_readPower_1 lk_X6_31 mV_X6_next kk_41 (zlt rfl) ⟨_, _, rfl⟩ rfl (by decide) (by decide) (Nat.le_of_ble_eq_true rfl) rfl (sp_X6_next X (a)  (hA2.rd hR) hA2.1 (by omega) ?_)
  show zw_Wp l mm_X6_readPower (zS L) 4 [some (zR 41), some (zI c), none] [zI (if X (a) = -9 then -1 else X (a))] mem 0 0 Q
  refine wp_iload_n dd_X6_readPower_4 rfl ?_
  refine wp_icmp_eq (tgt := 10) dd_X6_readPower_5 (by decide) (fun c5_1 => ?_) (fun c5_1 => ?_)
  · skip
    refine wp_aload_n dd_X6_readPower_10 rfl ?_
    refine wp_dup dd_X6_readPower_11 rfl ?_
    refine wp_getZ 3 rfl dd_X6_readPower_12 gf_X6_28 rfl kk_41 (by decide) (zlt rfl) ?_
    rw [show (mem 41 3 : Int) = a from hAt]
    refine wp_iconst dd_X6_readPower_15 (zr_lit rfl) ?_
    refine wp_iaddC dd_X6_readPower_16 (by omega) ?_
    refine wp_putzI 3 rfl dd_X6_readPower_17 pf_X6_28 rfl kk_41 (by decide) (zlt rfl) ?_
    refine wp_aload_n dd_X6_readPower_20 rfl ?_
    refine wp_callV (M' := mm_X6_next) (As := []) (rest := []) dd_X6_readPower_21 lk_X6_31 mV_X6_next kk_41 (zlt rfl) ⟨_, _, rfl⟩ rfl (by decide) (by decide) (Nat.le_of_ble_eq_true rfl) rfl (sp_X6_next X (a + 1)  (hB2.rd hR) hB2.1 (by omega) ?_)
    show zw_Wp l mm_X6_readPower (zS L) 24 [some (zR 41), some (zI c), none] [zI (if X ((a + 1)) = -9 then -1 else X ((a + 1)))] (zu mem 41 3 (a + 1)) 0 0 Q
    refine wp_bipush dd_X6_readPower_24 (by decide) ?_
    refine wp_icmp_eq (tgt := 31) dd_X6_readPower_26 (by decide) (fun c26_2 => ?_) (fun c26_2 => ?_)
    · skip
      refine wp_aload_n dd_X6_readPower_31 rfl ?_
      refine wp_dup dd_X6_readPower_32 rfl ?_
      refine wp_getV 3 (v := a + 1) rfl (by rw [zu_s]) dd_X6_readPower_33 gf_X6_28 rfl kk_41 (by decide) (zlt rfl) ?_
      refine wp_iconst dd_X6_readPower_36 (zr_lit rfl) ?_
      refine wp_iaddC dd_X6_readPower_37 (by omega) ?_
      refine wp_putzI 3 rfl dd_X6_readPower_38 pf_X6_28 rfl kk_41 (by decide) (zlt rfl) ?_
      rw [show (a + 1 + 1 : Int) = a + 2 by omega]
      refine wp_aload_n dd_X6_readPower_41 rfl ?_
      refine wp_callV (M' := mm_X6_next) (As := []) (rest := []) dd_X6_readPower_42 lk_X6_31 mV_X6_next kk_41 (zlt rfl) ⟨_, _, rfl⟩ rfl (by decide) (by decide) (Nat.le_of_ble_eq_true rfl) rfl (sp_X6_next X (a + 2)  (hC2.rd hR) hC2.1 (by omega) ?_)
      show zw_Wp l mm_X6_readPower (zS L) 45 [some (zR 41), some (zI c), none] [zI (if X ((a + 2)) = -9 then -1 else X ((a + 2)))] (zu (zu mem 41 3 (a + 1)) 41 3 (a + 2)) 0 0 Q
      refine wp_bipush dd_X6_readPower_45 (by decide) ?_
      refine wp_isubC dd_X6_readPower_47 (by omega) ?_
      refine wp_istore_n (ls2 := [some (zR 41), some (zI c), some (zI ((if X ((a + 2)) = -9 then -1 else X ((a + 2))) - 48))]) dd_X6_readPower_48 rfl (by decide) rfl ?_
      refine wp_iload_n dd_X6_readPower_49 rfl ?_
      refine wp_iconst dd_X6_readPower_50 (zr_lit rfl) ?_
      refine wp_icmp_lt (tgt := 59) dd_X6_readPower_51 (by decide) (fun c51_3 => ?_) (fun c51_3 => ?_)
      · skip
        refine wp_iconst dd_X6_readPower_59 (zr_lit rfl) ?_
        refine wp_ireturn (st := []) dd_X6_readPower_60 rfl ?_
        have hv9 : zvP X c a = -9 := by unfold zvP zrv; rw [if_pos (by omega), if_pos (by omega), if_neg (by omega)]
        refine k _ _ ?_ ?_
        · omega
        · unfold zpP zrp; rw [if_pos (by omega), if_pos (by omega), if_neg (by omega)]; exact hC2
      · skip
        refine wp_iload_n dd_X6_readPower_54 rfl ?_
        refine wp_iconst dd_X6_readPower_55 (zr_lit rfl) ?_
        refine wp_icmp_le (tgt := 61) dd_X6_readPower_56 (by decide) (fun c56_4 => ?_) (fun c56_4 => ?_)
        · skip
          refine wp_aload_n dd_X6_readPower_61 rfl ?_
          refine wp_dup dd_X6_readPower_62 rfl ?_
          refine wp_getV 3 (v := a + 2) rfl (by rw [zu_s]) dd_X6_readPower_63 gf_X6_28 rfl kk_41 (by decide) (zlt rfl) ?_
          refine wp_iconst dd_X6_readPower_66 (zr_lit rfl) ?_
          refine wp_iaddC dd_X6_readPower_67 (by omega) ?_
          refine wp_putzI 3 rfl dd_X6_readPower_68 pf_X6_28 rfl kk_41 (by decide) (zlt rfl) ?_
          rw [show (a + 2 + 1 : Int) = a + 3 by omega]
          refine wp_iload_n dd_X6_readPower_71 rfl ?_
          refine wp_ireturn (st := []) dd_X6_readPower_72 rfl ?_
          have hv9 : zvP X c a = X (a + 2) - 48 := by unfold zvP zrv; rw [if_pos (by omega), if_pos (by omega), if_pos (by omega)]
          refine k _ _ ?_ ?_
          · omega
          · unfold zpP zrp; rw [if_pos (by omega), if_pos (by omega), if_pos (by omega)]; exact hD2
        · skip
          refine wp_iconst dd_X6_readPower_59 (zr_lit rfl) ?_
          refine wp_ireturn (st := []) dd_X6_readPower_60 rfl ?_
          have hv9 : zvP X c a = -9 := by unfold zvP zrv; rw [if_pos (by omega), if_pos (by omega), if_neg (by omega)]
          refine k _ _ ?_ ?_
          · omega
          · unfold zpP zrp; rw [if_pos (by omega), if_pos (by omega), if_neg (by omega)]; exact hC2
    · skip
      refine wp_iconst dd_X6_readPower_29 (zr_lit rfl) ?_
      refine wp_ireturn (st := []) dd_X6_readPower_30 rfl ?_
      have hv9 : zvP X c a = 1 := by unfold zvP zrv; rw [if_pos (by omega), if_neg (by omega)]
      refine k _ _ ?_ ?_
      · omega
      · unfold zpP zrp; rw [if_pos (by omega), if_neg (by omega)]; exact hB2
  · skip
    refine wp_iconst dd_X6_readPower_8 (zr_lit rfl) ?_
    refine wp_ireturn (st := []) dd_X6_readPower_9 rfl ?_
    have hv9 : zvP X c a = 0 := by unfold zvP; rw [if_neg (by omega)]
    refine k _ _ ?_ ?_
    · omega
    · unfold zpP; rw [if_neg (by omega)]; exact hA2

set_option maxRecDepth 100000 in
set_option maxHeartbeats 4000000 in
theorem sp_X6_readNumber {l : Launch} {L : Nat} {mem : zMem} {Q : zQ} (X : Int → Int) (a : Int)  (hR : zRd mem X) (hAt : mem 41 3 = a) (ha : 0 ≤ a ∧ a ≤ 150) (k : ∀ (mem2 : zMem), (mem2 41 3 = zpN X a ∧ mem2 41 4 = zvN X a) → (∀ s : Int, s ≠ 3 → s ≠ 4 → mem2 41 s = mem 41 s) → (∀ q : Nat, q ≠ 41 → mem2 q = mem q) → Q none (zS L) mem2) : zw_Ok l mm_X6_readNumber [zR 41] (zS L) mem Q := by
  refine zw_enter (by decide) (Nat.le_of_ble_eq_true rfl) rfl ?_
  show zw_Wp l mm_X6_readNumber (zS L) 0 [some (zR 41), none] [] mem 0 0 Q
  refine wp_aload_n dd_X6_readNumber_0 rfl ?_
  refine wp_iconst dd_X6_readNumber_1 (zr_lit rfl) ?_
  refine wp_putzI 4 rfl dd_X6_readNumber_2 pf_X6_45 rfl kk_41 (by decide) (zlt rfl) ?_
  refine wp_aload_n dd_X6_readNumber_5 rfl ?_
  refine wp_getV 3 (v := mem 41 3) rfl (by rw [zu_n (Or.inr (by decide))]) dd_X6_readNumber_6 gf_X6_28 rfl kk_41 (by decide) (zlt rfl) ?_
  rw [show (mem 41 3 : Int) = a from hAt]
  refine wp_istore_n (ls2 := [some (zR 41), some (zI a)]) dd_X6_readNumber_9 rfl (by decide) rfl ?_
  have lp10 : ∀ (nf : Nat) (mm : zMem), (a ≤ mm 41 3 ∧ mm 41 3 ≤ a + 2) → ((mm 41 3 = a ∧ mm 41 4 = 0) ∨ (mm 41 3 = a + 1 ∧ (48 ≤ X a ∧ X a ≤ 57) ∧ mm 41 4 = X a - 48) ∨ (mm 41 3 = a + 2 ∧ (48 ≤ X a ∧ X a ≤ 57) ∧ (48 ≤ X (a + 1) ∧ X (a + 1) ≤ 57) ∧ mm 41 4 = 10 * (X a - 48) + X (a + 1) - 48)) → (∀ s : Int, s ≠ 3 → s ≠ 4 → mm 41 s = mem 41 s) → (∀ q : Nat, q ≠ 41 → mm q = mem q) → (a + 2 - mm 41 3) < (nf : Int) → zw_Wp l mm_X6_readNumber (zS L) 10 [some (zR 41), some (zI a)] [] mm 0 0 Q := by
    intro nf
    induction nf with
    | zero =>
      intro mm hb hd hs hq hmu
      exfalso; omega
    | succ nf ih10 =>
      intro mm hb hd hs hq hmu
      have hRm : zRd mm X := hR.keep (hs 0 (by decide) (by decide)) (hq 43 (by decide))
      have bx := hRm.b (mm 41 3)
      have x0 : mm 41 3 = a → X (mm 41 3) = X a := fun h => by rw [h]
      have x1 : mm 41 3 = a + 1 → X (mm 41 3) = X (a + 1) := fun h => by rw [h]
      refine wp_aload_n dd_X6_readNumber_10 rfl ?_
      refine wp_getZ 3 rfl dd_X6_readNumber_11 gf_X6_28 rfl kk_41 (by decide) (zlt rfl) ?_
      refine wp_iload_n dd_X6_readNumber_14 rfl ?_
      refine wp_iconst dd_X6_readNumber_15 (zr_lit rfl) ?_
      refine wp_iaddC dd_X6_readNumber_16 (by omega) ?_
      refine wp_icmp_ge (tgt := 70) dd_X6_readNumber_17 (by decide) (fun c17_1 => ?_) (fun c17_1 => ?_)
      · skip
        have hfin : (mm 41 3 = a ∧ zpN X a = a ∧ zvN X a = 1) ∨ (mm 41 3 ≠ a ∧ mm 41 3 = zpN X a ∧ mm 41 4 = zvN X a) := by
          unfold zpN zvN
          by_cases q : 48 ≤ X a ∧ X a ≤ 57
          · rw [if_pos q, if_pos q]
            by_cases q1 : 48 ≤ X (a + 1) ∧ X (a + 1) ≤ 57
            · rw [if_pos q1, if_pos q1]; omega
            · rw [if_neg q1, if_neg q1]; omega
          · rw [if_neg q, if_neg q]; omega
        refine wp_aload_n dd_X6_readNumber_70 rfl ?_
        refine wp_getZ 3 rfl dd_X6_readNumber_71 gf_X6_28 rfl kk_41 (by decide) (zlt rfl) ?_
        refine wp_iload_n dd_X6_readNumber_74 rfl ?_
        refine wp_icmp_ne (tgt := 83) dd_X6_readNumber_75 (by decide) (fun c75_2 => ?_) (fun c75_2 => ?_)
        · skip
          refine wp_return (st := []) dd_X6_readNumber_83 rfl ?_
          exact k _ (by omega) hs hq
        · skip
          refine wp_aload_n dd_X6_readNumber_78 rfl ?_
          refine wp_iconst dd_X6_readNumber_79 (zr_lit rfl) ?_
          refine wp_putzI 4 rfl dd_X6_readNumber_80 pf_X6_45 rfl kk_41 (by decide) (zlt rfl) ?_
          refine wp_return (st := []) dd_X6_readNumber_83 rfl ?_
          refine k _ ⟨?_, ?_⟩ (fun s h1 h2 => ?_) (fun q h1 => ?_)
          · rw [zu_n (Or.inr (by decide))]; omega
          · rw [zu_s]; omega
          · rw [zu_n (Or.inr h2)]; exact hs s h1 h2
          · rw [zu_row h1]; exact hq q h1
      · skip
        refine wp_aload_n dd_X6_readNumber_20 rfl ?_
        refine wp_callV (M' := mm_X6_next) (As := []) (rest := []) dd_X6_readNumber_21 lk_X6_31 mV_X6_next kk_41 (zlt rfl) ⟨_, _, rfl⟩ rfl (by decide) (by decide) (Nat.le_of_ble_eq_true rfl) rfl (sp_X6_next X (mm 41 3)  hRm rfl (by omega) ?_)
        show zw_Wp l mm_X6_readNumber (zS L) 24 [some (zR 41), some (zI a)] [zI (if X ((mm 41 3)) = -9 then -1 else X ((mm 41 3)))] mm 0 0 Q
        refine wp_bipush dd_X6_readNumber_24 (by decide) ?_
        refine wp_icmp_lt (tgt := 70) dd_X6_readNumber_26 (by decide) (fun c26_3 => ?_) (fun c26_3 => ?_)
        · skip
          have hfin : (mm 41 3 = a ∧ zpN X a = a ∧ zvN X a = 1) ∨ (mm 41 3 ≠ a ∧ mm 41 3 = zpN X a ∧ mm 41 4 = zvN X a) := by
            unfold zpN zvN
            by_cases q : 48 ≤ X a ∧ X a ≤ 57
            · rw [if_pos q, if_pos q]
              by_cases q1 : 48 ≤ X (a + 1) ∧ X (a + 1) ≤ 57
              · rw [if_pos q1, if_pos q1]; omega
              · rw [if_neg q1, if_neg q1]; omega
            · rw [if_neg q, if_neg q]; omega
          refine wp_aload_n dd_X6_readNumber_70 rfl ?_
          refine wp_getZ 3 rfl dd_X6_readNumber_71 gf_X6_28 rfl kk_41 (by decide) (zlt rfl) ?_
          refine wp_iload_n dd_X6_readNumber_74 rfl ?_
          refine wp_icmp_ne (tgt := 83) dd_X6_readNumber_75 (by decide) (fun c75_4 => ?_) (fun c75_4 => ?_)
          · skip
            refine wp_return (st := []) dd_X6_readNumber_83 rfl ?_
            exact k _ (by omega) hs hq
          · skip
            refine wp_aload_n dd_X6_readNumber_78 rfl ?_
            refine wp_iconst dd_X6_readNumber_79 (zr_lit rfl) ?_
            refine wp_putzI 4 rfl dd_X6_readNumber_80 pf_X6_45 rfl kk_41 (by decide) (zlt rfl) ?_
            refine wp_return (st := []) dd_X6_readNumber_83 rfl ?_
            refine k _ ⟨?_, ?_⟩ (fun s h1 h2 => ?_) (fun q h1 => ?_)
            · rw [zu_n (Or.inr (by decide))]; omega
            · rw [zu_s]; omega
            · rw [zu_n (Or.inr h2)]; exact hs s h1 h2
            · rw [zu_row h1]; exact hq q h1
        · skip
          refine wp_aload_n dd_X6_readNumber_29 rfl ?_
          refine wp_callV (M' := mm_X6_next) (As := []) (rest := []) dd_X6_readNumber_30 lk_X6_31 mV_X6_next kk_41 (zlt rfl) ⟨_, _, rfl⟩ rfl (by decide) (by decide) (Nat.le_of_ble_eq_true rfl) rfl (sp_X6_next X (mm 41 3)  hRm rfl (by omega) ?_)
          show zw_Wp l mm_X6_readNumber (zS L) 33 [some (zR 41), some (zI a)] [zI (if X ((mm 41 3)) = -9 then -1 else X ((mm 41 3)))] mm 0 0 Q
          refine wp_bipush dd_X6_readNumber_33 (by decide) ?_
          refine wp_icmp_gt (tgt := 70) dd_X6_readNumber_35 (by decide) (fun c35_5 => ?_) (fun c35_5 => ?_)
          · skip
            have hfin : (mm 41 3 = a ∧ zpN X a = a ∧ zvN X a = 1) ∨ (mm 41 3 ≠ a ∧ mm 41 3 = zpN X a ∧ mm 41 4 = zvN X a) := by
              unfold zpN zvN
              by_cases q : 48 ≤ X a ∧ X a ≤ 57
              · rw [if_pos q, if_pos q]
                by_cases q1 : 48 ≤ X (a + 1) ∧ X (a + 1) ≤ 57
                · rw [if_pos q1, if_pos q1]; omega
                · rw [if_neg q1, if_neg q1]; omega
              · rw [if_neg q, if_neg q]; omega
            refine wp_aload_n dd_X6_readNumber_70 rfl ?_
            refine wp_getZ 3 rfl dd_X6_readNumber_71 gf_X6_28 rfl kk_41 (by decide) (zlt rfl) ?_
            refine wp_iload_n dd_X6_readNumber_74 rfl ?_
            refine wp_icmp_ne (tgt := 83) dd_X6_readNumber_75 (by decide) (fun c75_6 => ?_) (fun c75_6 => ?_)
            · skip
              refine wp_return (st := []) dd_X6_readNumber_83 rfl ?_
              exact k _ (by omega) hs hq
            · skip
              refine wp_aload_n dd_X6_readNumber_78 rfl ?_
              refine wp_iconst dd_X6_readNumber_79 (zr_lit rfl) ?_
              refine wp_putzI 4 rfl dd_X6_readNumber_80 pf_X6_45 rfl kk_41 (by decide) (zlt rfl) ?_
              refine wp_return (st := []) dd_X6_readNumber_83 rfl ?_
              refine k _ ⟨?_, ?_⟩ (fun s h1 h2 => ?_) (fun q h1 => ?_)
              · rw [zu_n (Or.inr (by decide))]; omega
              · rw [zu_s]; omega
              · rw [zu_n (Or.inr h2)]; exact hs s h1 h2
              · rw [zu_row h1]; exact hq q h1
          · skip
            refine wp_aload_n dd_X6_readNumber_38 rfl ?_
            refine wp_bipush dd_X6_readNumber_39 (by decide) ?_
            refine wp_aload_n dd_X6_readNumber_41 rfl ?_
            refine wp_getZ 4 rfl dd_X6_readNumber_42 gf_X6_45 rfl kk_41 (by decide) (zlt rfl) ?_
            refine wp_imulC dd_X6_readNumber_45 (by omega) ?_
            refine wp_aload_n dd_X6_readNumber_46 rfl ?_
            refine wp_callV (M' := mm_X6_next) (As := []) (rest := [zI (10 * (mm 41 4)), zR 41]) dd_X6_readNumber_47 lk_X6_31 mV_X6_next kk_41 (zlt rfl) ⟨_, _, rfl⟩ rfl (by decide) (by decide) (Nat.le_of_ble_eq_true rfl) rfl (sp_X6_next X (mm 41 3)  hRm rfl (by omega) ?_)
            show zw_Wp l mm_X6_readNumber (zS L) 50 [some (zR 41), some (zI a)] [zI (if X ((mm 41 3)) = -9 then -1 else X ((mm 41 3))), zI (10 * (mm 41 4)), zR 41] mm 0 0 Q
            refine wp_iaddC dd_X6_readNumber_50 (by omega) ?_
            refine wp_bipush dd_X6_readNumber_51 (by decide) ?_
            refine wp_isubC dd_X6_readNumber_53 (by omega) ?_
            refine wp_putzI 4 rfl dd_X6_readNumber_54 pf_X6_45 rfl kk_41 (by decide) (zlt rfl) ?_
            refine wp_aload_n dd_X6_readNumber_57 rfl ?_
            refine wp_dup dd_X6_readNumber_58 rfl ?_
            refine wp_getV 3 (v := mm 41 3) rfl (by rw [zu_n (Or.inr (by decide))]) dd_X6_readNumber_59 gf_X6_28 rfl kk_41 (by decide) (zlt rfl) ?_
            refine wp_iconst dd_X6_readNumber_62 (zr_lit rfl) ?_
            refine wp_iaddC dd_X6_readNumber_63 (by omega) ?_
            refine wp_putzI 3 rfl dd_X6_readNumber_64 pf_X6_28 rfl kk_41 (by decide) (zlt rfl) ?_
            refine wp_goto (tgt := 10) dd_X6_readNumber_67 (by decide) ?_
            refine ih10 (zu (zu mm 41 4 (((10 * (mm 41 4)) + (if X ((mm 41 3)) = -9 then -1 else X ((mm 41 3)))) - 48)) 41 3 ((mm 41 3) + 1)) ?_ ?_ ?_ ?_ ?_
            · rw [zu_s]; omega
            · rw [zu_s, zu_n (Or.inr (by decide)), zu_s]; omega
            · intro s h1 h2; rw [zu_n (Or.inr h1), zu_n (Or.inr h2)]; exact hs s h1 h2
            · intro q h1; rw [zu_row h1, zu_row h1]; exact hq q h1
            · rw [zu_s]; omega
  refine lp10 ((a + 2 - (zu mem 41 4 0) 41 3 : Int)).toNat.succ (zu mem 41 4 0) ?_ ?_ ?_ ?_ ?_
  · rw [zu_n (Or.inr (by decide))]; omega
  · exact Or.inl ⟨by rw [zu_n (Or.inr (by decide))]; exact hAt, zu_s⟩
  · intro s h1 h2; rw [zu_n (Or.inr h2)]
  · intro q hq; rw [zu_row hq]
  · omega

set_option maxRecDepth 100000 in
set_option maxHeartbeats 4000000 in
theorem sp_X6_readTerm {l : Launch} {L : Nat} {mem : zMem} {Q : zQ} (X : Int → Int) (a : Int)  (hR : zRd mem X) (hAt : mem 41 3 = a) (ha : 0 ≤ a ∧ a ≤ 100) (k : ∀ (r : Int) (mem2 : zMem), (r = zto X a) → (mem2 41 3 = zte X a) → (zto X a = 1 → mem2 41 4 = zvN X a ∧ mem2 41 5 = zti X a ∧ mem2 41 6 = ztj X a) → (∀ s : Int, s ≠ 3 → s ≠ 4 → s ≠ 5 → s ≠ 6 → mem2 41 s = mem 41 s) → (∀ q : Nat, q ≠ 41 → mem2 q = mem q) → Q (some (zI r)) (zS L) mem2) : zw_Ok l mm_X6_readTerm [zR 41] (zS L) mem Q := by
  refine zw_enter (by decide) (Nat.le_of_ble_eq_true rfl) rfl ?_
  show zw_Wp l mm_X6_readTerm (zS L) 0 [some (zR 41), none] [] mem 0 0 Q
  have cN := zpN_c X a
  have c1 := zvP_c X 120 (zpN X a)
  have c2 := zvP_c X 121 (zt2 X a)
  have d1 : zvP X 120 (zpN X a) = zti X a := rfl
  have d2 : zpP X 120 (zpN X a) = zt2 X a := rfl
  have d3 : zvP X 121 (zt2 X a) = ztj X a := rfl
  have d4 : zpP X 121 (zt2 X a) = zt3 X a := rfl
  rw [d1, d2] at c1
  rw [d3, d4] at c2
  refine wp_aload_n dd_X6_readTerm_0 rfl ?_
  refine wp_getZ 3 rfl dd_X6_readTerm_1 gf_X6_28 rfl kk_41 (by decide) (zlt rfl) ?_
  rw [show (mem 41 3 : Int) = a from hAt]
  refine wp_istore_n (ls2 := [some (zR 41), some (zI a)]) dd_X6_readTerm_4 rfl (by decide) rfl ?_
  refine wp_aload_n dd_X6_readTerm_5 rfl ?_
  refine wp_callV (M' := mm_X6_readNumber) (As := []) (rest := []) dd_X6_readTerm_6 lk_X6_48 mV_X6_readNumber kk_41 (zlt rfl) ⟨_, _, rfl⟩ rfl (by decide) (by decide) (Nat.le_of_ble_eq_true rfl) rfl (sp_X6_readNumber X a  hR hAt (by omega) (fun m1 f1 s1 g1 => ?_))
  show zw_Wp l mm_X6_readTerm (zS L) 9 [some (zR 41), some (zI a)] [] m1 0 0 Q
  refine wp_aload_n dd_X6_readTerm_9 rfl ?_
  refine wp_aload_n dd_X6_readTerm_10 rfl ?_
  refine wp_bipush dd_X6_readTerm_11 (by decide) ?_
  refine wp_callV (M' := mm_X6_readPower) (As := [zI 120]) (rest := [zR 41]) dd_X6_readTerm_13 lk_X6_51 mV_X6_readPower kk_41 (zlt rfl) ⟨_, _, rfl⟩ rfl (by decide) (by decide) (Nat.le_of_ble_eq_true rfl) rfl (sp_X6_readPower X (zpN X a) 120 (hR.keep (s1 0 (by decide) (by decide)) (g1 43 (by decide))) f1.1 (by omega) (by decide) (fun rx mx fx gx => ?_))
  show zw_Wp l mm_X6_readTerm (zS L) 16 [some (zR 41), some (zI a)] [zI rx, zR 41] mx 0 0 Q
  rw [d1] at fx
  rw [d2] at gx
  have hRx : zRd (zu mx 41 5 rx) X := hR.keep (by rw [zu_n (Or.inr (by decide)), gx.2.1 0 (by decide)]; exact s1 0 (by decide) (by decide)) (by rw [zu_row (by decide), gx.2.2 43 (by decide)]; exact g1 43 (by decide))
  refine wp_putzI 5 rfl dd_X6_readTerm_16 pf_X6_39 rfl kk_41 (by decide) (zlt rfl) ?_
  refine wp_aload_n dd_X6_readTerm_19 rfl ?_
  refine wp_getV 5 (v := rx) rfl (by rw [zu_s]) dd_X6_readTerm_20 gf_X6_39 rfl kk_41 (by decide) (zlt rfl) ?_
  refine wp_if_ge (tgt := 28) dd_X6_readTerm_23 (by decide) (fun c23_1 => ?_) (fun c23_1 => ?_)
  · skip
    refine wp_aload_n dd_X6_readTerm_28 rfl ?_
    refine wp_aload_n dd_X6_readTerm_29 rfl ?_
    refine wp_bipush dd_X6_readTerm_30 (by decide) ?_
    refine wp_callV (M' := mm_X6_readPower) (As := [zI 121]) (rest := [zR 41]) dd_X6_readTerm_32 lk_X6_51 mV_X6_readPower kk_41 (zlt rfl) ⟨_, _, rfl⟩ rfl (by decide) (by decide) (Nat.le_of_ble_eq_true rfl) rfl (sp_X6_readPower X (zt2 X a) 121 hRx (by rw [zu_n (Or.inr (by decide))]; exact gx.1) (by omega) (by decide) (fun ry my fy gy => ?_))
    show zw_Wp l mm_X6_readTerm (zS L) 35 [some (zR 41), some (zI a)] [zI ry, zR 41] my 0 0 Q
    rw [d3] at fy
    rw [d4] at gy
    have hti : 0 ≤ zti X a ∧ rx = zti X a := by omega
    have hy3 : my 41 3 = zt3 X a := gy.1
    refine wp_putzI 6 rfl dd_X6_readTerm_35 pf_X6_42 rfl kk_41 (by decide) (zlt rfl) ?_
    refine wp_aload_n dd_X6_readTerm_38 rfl ?_
    refine wp_getV 6 (v := ry) rfl (by rw [zu_s]) dd_X6_readTerm_39 gf_X6_42 rfl kk_41 (by decide) (zlt rfl) ?_
    refine wp_if_lt (tgt := 57) dd_X6_readTerm_42 (by decide) (fun c42_2 => ?_) (fun c42_2 => ?_)
    · skip
      refine wp_iconst dd_X6_readTerm_57 (zr_lit rfl) ?_
      refine wp_zreturn (st := []) dd_X6_readTerm_58 rfl (by omega) ?_
      have hto : zto X a = 0 := by unfold zto; first | (rw [if_pos (by omega)]) | (rw [if_neg (by omega)])
      refine k _ _ hto.symm ?_ ?_ ?_ ?_
      · rw [zu_n (Or.inr (by decide)), gy.1]; unfold zte; rw [if_neg (by omega)]
      · intro q
        refine ⟨?_, ?_, ?_⟩
        · rw [zu_n (Or.inr (by decide)), gy.2.1 4 (by decide), zu_n (Or.inr (by decide)), gx.2.1 4 (by decide)]; exact f1.2
        · rw [zu_n (Or.inr (by decide)), gy.2.1 5 (by decide), zu_s]; exact hti.2
        · rw [zu_s]; omega
      · intro s h1 h2 h3 h4; rw [zu_n (Or.inr h4), gy.2.1 s h1, zu_n (Or.inr h3), gx.2.1 s h1]; exact s1 s h1 h2
      · intro q h1; rw [zu_row h1, gy.2.2 q h1, zu_row h1, gx.2.2 q h1]; exact g1 q h1
    · skip
      refine wp_aload_n dd_X6_readTerm_45 rfl ?_
      refine wp_getV 3 (v := my 41 3) rfl (by rw [zu_n (Or.inr (by decide))]) dd_X6_readTerm_46 gf_X6_28 rfl kk_41 (by decide) (zlt rfl) ?_
      refine wp_iload_n dd_X6_readTerm_49 rfl ?_
      refine wp_icmp_le (tgt := 57) dd_X6_readTerm_50 (by decide) (fun c50_3 => ?_) (fun c50_3 => ?_)
      · skip
        refine wp_iconst dd_X6_readTerm_57 (zr_lit rfl) ?_
        refine wp_zreturn (st := []) dd_X6_readTerm_58 rfl (by omega) ?_
        have hto : zto X a = 0 := by unfold zto; first | (rw [if_pos (by omega)]) | (rw [if_neg (by omega)])
        refine k _ _ hto.symm ?_ ?_ ?_ ?_
        · rw [zu_n (Or.inr (by decide)), gy.1]; unfold zte; rw [if_neg (by omega)]
        · intro q
          refine ⟨?_, ?_, ?_⟩
          · rw [zu_n (Or.inr (by decide)), gy.2.1 4 (by decide), zu_n (Or.inr (by decide)), gx.2.1 4 (by decide)]; exact f1.2
          · rw [zu_n (Or.inr (by decide)), gy.2.1 5 (by decide), zu_s]; exact hti.2
          · rw [zu_s]; omega
        · intro s h1 h2 h3 h4; rw [zu_n (Or.inr h4), gy.2.1 s h1, zu_n (Or.inr h3), gx.2.1 s h1]; exact s1 s h1 h2
        · intro q h1; rw [zu_row h1, gy.2.2 q h1, zu_row h1, gx.2.2 q h1]; exact g1 q h1
      · skip
        refine wp_iconst dd_X6_readTerm_53 (zr_lit rfl) ?_
        refine wp_goto (tgt := 58) dd_X6_readTerm_54 (by decide) ?_
        refine wp_zreturn (st := []) dd_X6_readTerm_58 rfl (by omega) ?_
        have hto : zto X a = 1 := by unfold zto; first | (rw [if_pos (by omega)]) | (rw [if_neg (by omega)])
        refine k _ _ hto.symm ?_ ?_ ?_ ?_
        · rw [zu_n (Or.inr (by decide)), gy.1]; unfold zte; rw [if_neg (by omega)]
        · intro q
          refine ⟨?_, ?_, ?_⟩
          · rw [zu_n (Or.inr (by decide)), gy.2.1 4 (by decide), zu_n (Or.inr (by decide)), gx.2.1 4 (by decide)]; exact f1.2
          · rw [zu_n (Or.inr (by decide)), gy.2.1 5 (by decide), zu_s]; exact hti.2
          · rw [zu_s]; omega
        · intro s h1 h2 h3 h4; rw [zu_n (Or.inr h4), gy.2.1 s h1, zu_n (Or.inr h3), gx.2.1 s h1]; exact s1 s h1 h2
        · intro q h1; rw [zu_row h1, gy.2.2 q h1, zu_row h1, gx.2.2 q h1]; exact g1 q h1
  · skip
    refine wp_iconst dd_X6_readTerm_26 (zr_lit rfl) ?_
    refine wp_zreturn (st := []) dd_X6_readTerm_27 rfl (by omega) ?_
    have hti : zti X a < 0 := by omega
    refine k _ _ ?_ ?_ ?_ ?_ ?_
    · unfold zto; rw [if_neg (by omega)]
    · rw [zu_n (Or.inr (by decide)), gx.1]; unfold zte; rw [if_pos hti]
    · intro q; unfold zto at q; rw [if_neg (by omega)] at q; omega
    · intro s h1 h2 h3 h4; rw [zu_n (Or.inr h3), gx.2.1 s h1]; exact s1 s h1 h2
    · intro q h1; rw [zu_row h1, gx.2.2 q h1]; exact g1 q h1

set_option maxRecDepth 100000 in
set_option maxHeartbeats 4000000 in
theorem sp_X6_read {l : Launch} {L : Nat} {mem : zMem} {Q : zQ} (X : Int → Int)  (hR : zRd mem X) (k : ∀ (r : Int) (mem2 : zMem), (((zall X (mem 41 0)).1 = 0 ∧ r = (zall X (mem 41 0)).2.1 ∧ 0 ≤ r ∧ r ≤ 200) ∨ ((zall X (mem 41 0)).1 = 1 ∧ r = -1 ∧ ∀ t : Int, 0 ≤ t → t < 25 → mem2 42 t = (zall X (mem 41 0)).2.2 t)) → (∀ s : Int, s ≠ 3 → s ≠ 4 → s ≠ 5 → s ≠ 6 → mem2 41 s = mem 41 s) → (∀ q : Nat, q ≠ 41 → q ≠ 42 → mem2 q = mem q) → Q (some (zI r)) (zS L) mem2) : zw_Ok l mm_X6_read [zR 41] (zS L) mem Q := by
  refine zw_enter (by decide) (Nat.le_of_ble_eq_true rfl) rfl ?_
  show zw_Wp l mm_X6_read (zS L) 0 [some (zR 41), none, none, none] [] mem 0 0 Q
  have hsz := hR.2.1
  have hno : ∀ i : Int, mem 41 0 ≤ i → X i = -9 := fun i hi => hR.no hi
  have hb0 := hR.b 0
  refine wp_aload_n dd_X6_read_0 rfl ?_
  refine wp_getR dd_X6_read_1 gf_X6_9 rfl kk_41 (by decide) (zlt rfl) rr_41_1 ?_
  refine wp_iconst dd_X6_read_4 (zr_lit rfl) ?_
  refine wp_callS (M' := mm_J7_fill_53178) (As := [zR 42, zI 0]) (rest := []) dd_X6_read_5 lk_X6_22 mS_J7_fill_53178 rfl (by decide) (by decide) (Nat.le_of_ble_eq_true rfl) rfl (sp_J7_fill_53178  42 0 kk_42 (zlt rfl) (by decide) (fun mf ff gf => ?_))
  show zw_Wp l mm_X6_read (zS L) 8 [some (zR 41), none, none, none] [] mf 0 0 Q
  have hRf : zRd (zu mf 41 3 0) X := hR.keep (by rw [zu_n (Or.inr (by decide)), gf 41 (by decide)]) (by rw [zu_row (by decide)]; exact gf 43 (by decide))
  refine wp_aload_n dd_X6_read_8 rfl ?_
  refine wp_iconst dd_X6_read_9 (zr_lit rfl) ?_
  refine wp_putzI 3 rfl dd_X6_read_10 pf_X6_28 rfl kk_41 (by decide) (zlt rfl) ?_
  refine wp_iconst dd_X6_read_13 (zr_lit rfl) ?_
  refine wp_istore_n (ls2 := [some (zR 41), some (zI 1), none, none]) dd_X6_read_14 rfl (by decide) rfl ?_
  have ih36 : ∀ (sg : Int) (mi : zMem), ((sg = -1 ∧ X 0 = 45 ∧ mi 41 3 = 1) ∨ (sg = 1 ∧ X 0 ≠ 45 ∧ mi 41 3 = 0)) → (∀ s : Int, s ≠ 3 → mi 41 s = mem 41 s) → (∀ q : Nat, q ≠ 41 → mi q = mf q) → (0 : Int) < 1 → zw_Wp l mm_X6_read (zS L) 36 [some (zR 41), some (zI sg), none, none] [] mi 0 0 Q := by
    intro sg mi hsg si qi hone
    refine wp_iconst dd_X6_read_36 (zr_lit rfl) ?_
    refine wp_istore_n (ls2 := [some (zR 41), some (zI sg), some (zI 0), none]) dd_X6_read_37 rfl (by decide) rfl ?_
    have lp38 : ∀ (nf : Nat) (sg : Int) (i : Int) (mm : zMem) (S : Int → Int), (0 ≤ i) → (i ≤ 73) → (sg = 1 ∨ sg = -1) → (i ≤ mm 41 3 ∧ mm 41 3 ≤ mem 41 0) → (zall X (mem 41 0) = zrun X (mem 41 0) (80 - i).toNat (mm 41 3) sg S) → (∀ t : Int, 0 ≤ t → t < 25 → mm 42 t = S t ∧ -99 * i ≤ S t ∧ S t ≤ 99 * i) → (∀ s : Int, s ≠ 3 → s ≠ 4 → s ≠ 5 → s ≠ 6 → mm 41 s = mem 41 s) → (∀ q : Nat, q ≠ 41 → q ≠ 42 → mm q = mem q) → (73 - i) < (nf : Int) → zw_Wp l mm_X6_read (zS L) 38 [some (zR 41), some (zI sg), some (zI i), none] [] mm 0 0 Q := by
      intro nf
      induction nf with
      | zero =>
        intro sg i mm S i0 i1 hg hp9 hc hS ms mq hmu
        exfalso; omega
      | succ nf ih38 =>
        intro sg i mm S i0 i1 hg hp9 hc hS ms mq hmu
        have hRm : zRd mm X := hR.keep (ms 0 (by decide) (by decide) (by decide) (by decide)) (mq 43 (by decide) (by decide))
        have hle := zt3_le (a := mm 41 3) hno hp9.2
        have hte := zte_c X (mm 41 3)
        refine wp_iload_n dd_X6_read_38 rfl ?_
        refine wp_bipush dd_X6_read_39 (by decide) ?_
        refine wp_icmp_gt (tgt := 138) dd_X6_read_41 (by decide) (fun c41_1 => ?_) (fun c41_1 => ?_)
        · skip
          refine wp_aload_n dd_X6_read_138 rfl ?_
          refine wp_getZ 3 rfl dd_X6_read_139 gf_X6_28 rfl kk_41 (by decide) (zlt rfl) ?_
          refine wp_ireturn (st := []) dd_X6_read_142 rfl ?_
          exfalso; omega
        · skip
          refine wp_aload_n dd_X6_read_44 rfl ?_
          refine wp_callV (M' := mm_X6_readTerm) (As := []) (rest := []) dd_X6_read_45 lk_X6_35 mV_X6_readTerm kk_41 (zlt rfl) ⟨_, _, rfl⟩ rfl (by decide) (by decide) (Nat.le_of_ble_eq_true rfl) rfl (sp_X6_readTerm X (mm 41 3)  hRm rfl (by omega) (fun rt mt ft pt vt st9 rt9 => ?_))
          show zw_Wp l mm_X6_read (zS L) 48 [some (zR 41), some (zI sg), some (zI i), none] [zI rt] mt 0 0 Q
          rw [show (80 - i).toNat = (80 - (i + 1)).toNat + 1 by omega] at hc
          have h01 := zto_01 X (mm 41 3)
          refine wp_if_ne (tgt := 56) dd_X6_read_48 (by decide) (fun c48_2 => ?_) (fun c48_2 => ?_)
          · skip
            have hto1 : zto X (mm 41 3) = 1 := by omega
            obtain ⟨v4, v5, v6⟩ := vt hto1
            obtain ⟨-, ci, cj, ca, ce, cv⟩ := zto_c (show zto X (mm 41 3) ≠ 0 by omega)
            rw [zrun_yes (by omega)] at hc
            rw [ce] at pt
            have hsv : sg * zvN X (mm 41 3) = zvN X (mm 41 3) ∨ sg * zvN X (mm 41 3) = - zvN X (mm 41 3) := by
              rcases hg with rfl | rfl
              · exact Or.inl (Int.one_mul _)
              · exact Or.inr (by rw [Int.neg_mul, Int.one_mul])
            have hold := hS (5 * zti X (mm 41 3) + ztj X (mm 41 3)) (by omega) (by omega)
            rw [← rt9 42 (by decide)] at hold
            have hb9 := hRm.b (zt3 X (mm 41 3))
            have m0 := ms 0 (by decide) (by decide) (by decide) (by decide)
            have t0 := st9 0 (by decide) (by decide) (by decide) (by decide)
            refine wp_aload_n dd_X6_read_56 rfl ?_
            refine wp_getR dd_X6_read_57 gf_X6_9 rfl kk_41 (by decide) (zlt rfl) rr_41_1 ?_
            refine wp_iconst dd_X6_read_60 (zr_lit rfl) ?_
            refine wp_aload_n dd_X6_read_61 rfl ?_
            refine wp_getZ 5 rfl dd_X6_read_62 gf_X6_39 rfl kk_41 (by decide) (zlt rfl) ?_
            rw [show (mt 41 5 : Int) = zti X (mm 41 3) from v5]
            refine wp_imulC dd_X6_read_65 (by omega) ?_
            refine wp_aload_n dd_X6_read_66 rfl ?_
            refine wp_getZ 6 rfl dd_X6_read_67 gf_X6_42 rfl kk_41 (by decide) (zlt rfl) ?_
            rw [show (mt 41 6 : Int) = ztj X (mm 41 3) from v6]
            refine wp_iaddC dd_X6_read_70 (by omega) ?_
            refine wp_dup2 dd_X6_read_71 rfl rfl ?_
            refine wp_iald dd_X6_read_72 kk_42 (zlt rfl) (by omega) (by omega) ?_
            refine wp_iload_n dd_X6_read_73 rfl ?_
            refine wp_aload_n dd_X6_read_74 rfl ?_
            refine wp_getZ 4 rfl dd_X6_read_75 gf_X6_45 rfl kk_41 (by decide) (zlt rfl) ?_
            rw [show (mt 41 4 : Int) = zvN X (mm 41 3) from v4]
            refine wp_imulC dd_X6_read_78 (by omega) ?_
            refine wp_iaddC dd_X6_read_79 (by omega) ?_
            refine wp_iast dd_X6_read_80 kk_42 (zlt rfl) (by omega) (by omega) ?_
            have hmS : ∀ t : Int, 0 ≤ t → t < 25 → (zu mt 42 ((5 * (zti X (mm 41 3))) + (ztj X (mm 41 3))) ((mt 42 ((5 * (zti X (mm 41 3))) + (ztj X (mm 41 3)))) + (sg * (zvN X (mm 41 3))))) 42 t = (zad S (5 * zti X (mm 41 3) + ztj X (mm 41 3)) (sg * zvN X (mm 41 3))) t ∧ -99 * (i + 1) ≤ (zad S (5 * zti X (mm 41 3) + ztj X (mm 41 3)) (sg * zvN X (mm 41 3))) t ∧ (zad S (5 * zti X (mm 41 3) + ztj X (mm 41 3)) (sg * zvN X (mm 41 3))) t ≤ 99 * (i + 1) := by
              intro t q1 q2
              have ht9 := hS t q1 q2
              rw [← rt9 42 (by decide)] at ht9
              unfold zad
              by_cases e : t = 5 * zti X (mm 41 3) + ztj X (mm 41 3)
              · subst e; rw [zu_s, if_pos rfl]; omega
              · rw [zu_n (Or.inr e), if_neg e]; omega
            have hRn : zRd (zu mt 42 ((5 * (zti X (mm 41 3))) + (ztj X (mm 41 3))) ((mt 42 ((5 * (zti X (mm 41 3))) + (ztj X (mm 41 3)))) + (sg * (zvN X (mm 41 3))))) X := hRm.keep (by rw [zu_row (by decide)]; exact t0) (by rw [zu_row (by decide)]; exact rt9 43 (by decide))
            have pt2 : (zu mt 42 ((5 * (zti X (mm 41 3))) + (ztj X (mm 41 3))) ((mt 42 ((5 * (zti X (mm 41 3))) + (ztj X (mm 41 3)))) + (sg * (zvN X (mm 41 3))))) 41 3 = zt3 X (mm 41 3) := by rw [zu_row (by decide)]; exact pt
            have ms2 : ∀ s : Int, s ≠ 3 → s ≠ 4 → s ≠ 5 → s ≠ 6 → (zu mt 42 ((5 * (zti X (mm 41 3))) + (ztj X (mm 41 3))) ((mt 42 ((5 * (zti X (mm 41 3))) + (ztj X (mm 41 3)))) + (sg * (zvN X (mm 41 3))))) 41 s = mem 41 s := fun s h1 h2 h3 h4 => by rw [zu_row (by decide), st9 s h1 h2 h3 h4]; exact ms s h1 h2 h3 h4
            have mq2 : ∀ q : Nat, q ≠ 41 → q ≠ 42 → (zu mt 42 ((5 * (zti X (mm 41 3))) + (ztj X (mm 41 3))) ((mt 42 ((5 * (zti X (mm 41 3))) + (ztj X (mm 41 3)))) + (sg * (zvN X (mm 41 3))))) q = mem q := fun q h1 h2 => by rw [zu_row h2, rt9 q h1]; exact mq q h1 h2
            obtain ⟨mg, hmg⟩ : ∃ mg, mg = zu mt 42 ((5 * (zti X (mm 41 3))) + (ztj X (mm 41 3))) ((mt 42 ((5 * (zti X (mm 41 3))) + (ztj X (mm 41 3)))) + (sg * (zvN X (mm 41 3)))) := ⟨_, rfl⟩
            rw [← hmg] at hmS hRn pt2 ms2 mq2
            rw [← hmg]
            refine wp_aload_n dd_X6_read_81 rfl ?_
            refine wp_callV (M' := mm_X6_next) (As := []) (rest := []) dd_X6_read_82 lk_X6_31 mV_X6_next kk_41 (zlt rfl) ⟨_, _, rfl⟩ rfl (by decide) (by decide) (Nat.le_of_ble_eq_true rfl) rfl (sp_X6_next X (zt3 X (mm 41 3))  hRn pt2 (by omega) ?_)
            show zw_Wp l mm_X6_read (zS L) 85 [some (zR 41), some (zI sg), some (zI i), none] [zI (if X ((zt3 X (mm 41 3))) = -9 then -1 else X ((zt3 X (mm 41 3))))] mg 0 0 Q
            have hmx := hc
            unfold zrst at hmx
            refine wp_istore_n (ls2 := [some (zR 41), some (zI sg), some (zI i), some (zI (if X ((zt3 X (mm 41 3))) = -9 then -1 else X ((zt3 X (mm 41 3)))))]) dd_X6_read_85 rfl (by decide) rfl ?_
            refine wp_iload_n dd_X6_read_86 rfl ?_
            refine wp_iconst dd_X6_read_87 (zr_lit rfl) ?_
            refine wp_icmp_ne (tgt := 93) dd_X6_read_88 (by decide) (fun c88_3 => ?_) (fun c88_3 => ?_)
            · skip
              refine wp_iload_n dd_X6_read_93 rfl ?_
              refine wp_bipush dd_X6_read_94 (by decide) ?_
              refine wp_icmp_eq (tgt := 110) dd_X6_read_96 (by decide) (fun c96_4 => ?_) (fun c96_4 => ?_)
              · skip
                refine wp_iload_n dd_X6_read_110 rfl ?_
                refine wp_bipush dd_X6_read_111 (by decide) ?_
                refine wp_icmp_ne (tgt := 120) dd_X6_read_113 (by decide) (fun c113_5 => ?_) (fun c113_5 => ?_)
                · skip
                  refine wp_iconst dd_X6_read_120 (zr_lit rfl) ?_
                  refine wp_istore_n (ls2 := [some (zR 41), some (zI (-1)), some (zI i), some (zI (if X ((zt3 X (mm 41 3))) = -9 then -1 else X ((zt3 X (mm 41 3)))))]) dd_X6_read_121 rfl (by decide) rfl ?_
                  refine wp_aload_n dd_X6_read_122 rfl ?_
                  refine wp_dup dd_X6_read_123 rfl ?_
                  refine wp_getZ 3 rfl dd_X6_read_124 gf_X6_28 rfl kk_41 (by decide) (zlt rfl) ?_
                  refine wp_iconst dd_X6_read_127 (zr_lit rfl) ?_
                  refine wp_iaddC dd_X6_read_128 (by omega) ?_
                  refine wp_putzI 3 rfl dd_X6_read_129 pf_X6_28 rfl kk_41 (by decide) (zlt rfl) ?_
                  refine wp_iincC (ls2 := [some (zR 41), some (zI (-1)), some (zI (i + 1)), some (zI (if X ((zt3 X (mm 41 3))) = -9 then -1 else X ((zt3 X (mm 41 3)))))]) dd_X6_read_132 rfl rfl (by decide) (by omega) rfl ?_
                  refine wp_goto (tgt := 38) dd_X6_read_135 (by decide) ?_
                  refine wp_ls (zw_sub_of (a := [some (zR 41), some (zI (-1)), some (zI (i + 1)), none]) (And.intro rfl (And.intro rfl (And.intro rfl (trivial))))) ?_
                  refine ih38 (-1) (i + 1) (zu mg 41 3 ((mg 41 3) + 1)) (zad S (5 * zti X (mm 41 3) + ztj X (mm 41 3)) (sg * zvN X (mm 41 3))) ?_ ?_ ?_ ?_ ?_ ?_ ?_ ?_ ?_
                  · first | omega | assumption | (intros; omega)
                  · first | omega | assumption | (intros; omega)
                  · first | omega | assumption | (intros; omega)
                  · rw [zu_s]; omega
                  · rw [zu_s, pt2]
                    rw [if_pos (by omega)] at hmx
                    rw [hmx]
                    first | (exfalso; omega) | (rw [if_pos (by omega)]) | (rw [if_neg (by omega)])
                  · intro t q1 q2; rw [zu_row (by decide)]; exact hmS t q1 q2
                  · intro s h1 h2 h3 h4; rw [zu_n (Or.inr h1)]; exact ms2 s h1 h2 h3 h4
                  · intro q h1 h2; rw [zu_row h1]; exact mq2 q h1 h2
                  · omega
                · skip
                  refine wp_iconst dd_X6_read_116 (zr_lit rfl) ?_
                  refine wp_goto (tgt := 121) dd_X6_read_117 (by decide) ?_
                  refine wp_istore_n (ls2 := [some (zR 41), some (zI 1), some (zI i), some (zI (if X ((zt3 X (mm 41 3))) = -9 then -1 else X ((zt3 X (mm 41 3)))))]) dd_X6_read_121 rfl (by decide) rfl ?_
                  refine wp_aload_n dd_X6_read_122 rfl ?_
                  refine wp_dup dd_X6_read_123 rfl ?_
                  refine wp_getZ 3 rfl dd_X6_read_124 gf_X6_28 rfl kk_41 (by decide) (zlt rfl) ?_
                  refine wp_iconst dd_X6_read_127 (zr_lit rfl) ?_
                  refine wp_iaddC dd_X6_read_128 (by omega) ?_
                  refine wp_putzI 3 rfl dd_X6_read_129 pf_X6_28 rfl kk_41 (by decide) (zlt rfl) ?_
                  refine wp_iincC (ls2 := [some (zR 41), some (zI 1), some (zI (i + 1)), some (zI (if X ((zt3 X (mm 41 3))) = -9 then -1 else X ((zt3 X (mm 41 3)))))]) dd_X6_read_132 rfl rfl (by decide) (by omega) rfl ?_
                  refine wp_goto (tgt := 38) dd_X6_read_135 (by decide) ?_
                  refine wp_ls (zw_sub_of (a := [some (zR 41), some (zI 1), some (zI (i + 1)), none]) (And.intro rfl (And.intro rfl (And.intro rfl (trivial))))) ?_
                  refine ih38 1 (i + 1) (zu mg 41 3 ((mg 41 3) + 1)) (zad S (5 * zti X (mm 41 3) + ztj X (mm 41 3)) (sg * zvN X (mm 41 3))) ?_ ?_ ?_ ?_ ?_ ?_ ?_ ?_ ?_
                  · first | omega | assumption | (intros; omega)
                  · first | omega | assumption | (intros; omega)
                  · first | omega | assumption | (intros; omega)
                  · rw [zu_s]; omega
                  · rw [zu_s, pt2]
                    rw [if_pos (by omega)] at hmx
                    rw [hmx]
                    first | (exfalso; omega) | (rw [if_pos (by omega)]) | (rw [if_neg (by omega)])
                  · intro t q1 q2; rw [zu_row (by decide)]; exact hmS t q1 q2
                  · intro s h1 h2 h3 h4; rw [zu_n (Or.inr h1)]; exact ms2 s h1 h2 h3 h4
                  · intro q h1 h2; rw [zu_row h1]; exact mq2 q h1 h2
                  · omega
              · skip
                refine wp_iload_n dd_X6_read_99 rfl ?_
                refine wp_bipush dd_X6_read_100 (by decide) ?_
                refine wp_icmp_eq (tgt := 110) dd_X6_read_102 (by decide) (fun c102_6 => ?_) (fun c102_6 => ?_)
                · skip
                  refine wp_iload_n dd_X6_read_110 rfl ?_
                  refine wp_bipush dd_X6_read_111 (by decide) ?_
                  refine wp_icmp_ne (tgt := 120) dd_X6_read_113 (by decide) (fun c113_7 => ?_) (fun c113_7 => ?_)
                  · skip
                    refine wp_iconst dd_X6_read_120 (zr_lit rfl) ?_
                    refine wp_istore_n (ls2 := [some (zR 41), some (zI (-1)), some (zI i), some (zI (if X ((zt3 X (mm 41 3))) = -9 then -1 else X ((zt3 X (mm 41 3)))))]) dd_X6_read_121 rfl (by decide) rfl ?_
                    refine wp_aload_n dd_X6_read_122 rfl ?_
                    refine wp_dup dd_X6_read_123 rfl ?_
                    refine wp_getZ 3 rfl dd_X6_read_124 gf_X6_28 rfl kk_41 (by decide) (zlt rfl) ?_
                    refine wp_iconst dd_X6_read_127 (zr_lit rfl) ?_
                    refine wp_iaddC dd_X6_read_128 (by omega) ?_
                    refine wp_putzI 3 rfl dd_X6_read_129 pf_X6_28 rfl kk_41 (by decide) (zlt rfl) ?_
                    refine wp_iincC (ls2 := [some (zR 41), some (zI (-1)), some (zI (i + 1)), some (zI (if X ((zt3 X (mm 41 3))) = -9 then -1 else X ((zt3 X (mm 41 3)))))]) dd_X6_read_132 rfl rfl (by decide) (by omega) rfl ?_
                    refine wp_goto (tgt := 38) dd_X6_read_135 (by decide) ?_
                    refine wp_ls (zw_sub_of (a := [some (zR 41), some (zI (-1)), some (zI (i + 1)), none]) (And.intro rfl (And.intro rfl (And.intro rfl (trivial))))) ?_
                    refine ih38 (-1) (i + 1) (zu mg 41 3 ((mg 41 3) + 1)) (zad S (5 * zti X (mm 41 3) + ztj X (mm 41 3)) (sg * zvN X (mm 41 3))) ?_ ?_ ?_ ?_ ?_ ?_ ?_ ?_ ?_
                    · first | omega | assumption | (intros; omega)
                    · first | omega | assumption | (intros; omega)
                    · first | omega | assumption | (intros; omega)
                    · rw [zu_s]; omega
                    · rw [zu_s, pt2]
                      rw [if_pos (by omega)] at hmx
                      rw [hmx]
                      first | (exfalso; omega) | (rw [if_pos (by omega)]) | (rw [if_neg (by omega)])
                    · intro t q1 q2; rw [zu_row (by decide)]; exact hmS t q1 q2
                    · intro s h1 h2 h3 h4; rw [zu_n (Or.inr h1)]; exact ms2 s h1 h2 h3 h4
                    · intro q h1 h2; rw [zu_row h1]; exact mq2 q h1 h2
                    · omega
                  · skip
                    refine wp_iconst dd_X6_read_116 (zr_lit rfl) ?_
                    refine wp_goto (tgt := 121) dd_X6_read_117 (by decide) ?_
                    refine wp_istore_n (ls2 := [some (zR 41), some (zI 1), some (zI i), some (zI (if X ((zt3 X (mm 41 3))) = -9 then -1 else X ((zt3 X (mm 41 3)))))]) dd_X6_read_121 rfl (by decide) rfl ?_
                    refine wp_aload_n dd_X6_read_122 rfl ?_
                    refine wp_dup dd_X6_read_123 rfl ?_
                    refine wp_getZ 3 rfl dd_X6_read_124 gf_X6_28 rfl kk_41 (by decide) (zlt rfl) ?_
                    refine wp_iconst dd_X6_read_127 (zr_lit rfl) ?_
                    refine wp_iaddC dd_X6_read_128 (by omega) ?_
                    refine wp_putzI 3 rfl dd_X6_read_129 pf_X6_28 rfl kk_41 (by decide) (zlt rfl) ?_
                    refine wp_iincC (ls2 := [some (zR 41), some (zI 1), some (zI (i + 1)), some (zI (if X ((zt3 X (mm 41 3))) = -9 then -1 else X ((zt3 X (mm 41 3)))))]) dd_X6_read_132 rfl rfl (by decide) (by omega) rfl ?_
                    refine wp_goto (tgt := 38) dd_X6_read_135 (by decide) ?_
                    refine wp_ls (zw_sub_of (a := [some (zR 41), some (zI 1), some (zI (i + 1)), none]) (And.intro rfl (And.intro rfl (And.intro rfl (trivial))))) ?_
                    refine ih38 1 (i + 1) (zu mg 41 3 ((mg 41 3) + 1)) (zad S (5 * zti X (mm 41 3) + ztj X (mm 41 3)) (sg * zvN X (mm 41 3))) ?_ ?_ ?_ ?_ ?_ ?_ ?_ ?_ ?_
                    · first | omega | assumption | (intros; omega)
                    · first | omega | assumption | (intros; omega)
                    · first | omega | assumption | (intros; omega)
                    · rw [zu_s]; omega
                    · rw [zu_s, pt2]
                      rw [if_pos (by omega)] at hmx
                      rw [hmx]
                      first | (exfalso; omega) | (rw [if_pos (by omega)]) | (rw [if_neg (by omega)])
                    · intro t q1 q2; rw [zu_row (by decide)]; exact hmS t q1 q2
                    · intro s h1 h2 h3 h4; rw [zu_n (Or.inr h1)]; exact ms2 s h1 h2 h3 h4
                    · intro q h1 h2; rw [zu_row h1]; exact mq2 q h1 h2
                    · omega
                · skip
                  refine wp_aload_n dd_X6_read_105 rfl ?_
                  refine wp_getZ 3 rfl dd_X6_read_106 gf_X6_28 rfl kk_41 (by decide) (zlt rfl) ?_
                  refine wp_ireturn (st := []) dd_X6_read_109 rfl ?_
                  rw [if_neg (by omega), if_neg (by omega)] at hmx
                  refine k _ _ (Or.inl ⟨by rw [hmx], by rw [hmx]; exact pt2, by omega, by omega⟩) ms2 mq2
            · skip
              refine wp_iconst dd_X6_read_91 (zr_lit rfl) ?_
              refine wp_ireturn (st := []) dd_X6_read_92 rfl ?_
              rw [if_neg (by omega), if_pos (by omega)] at hmx
              refine k _ _ (Or.inr ⟨by rw [hmx], rfl, fun t q1 q2 => by rw [hmx]; exact (hmS t q1 q2).1⟩) ms2 mq2
          · skip
            refine wp_aload_n dd_X6_read_51 rfl ?_
            refine wp_getZ 3 rfl dd_X6_read_52 gf_X6_28 rfl kk_41 (by decide) (zlt rfl) ?_
            refine wp_ireturn (st := []) dd_X6_read_55 rfl ?_
            rw [zrun_no (by omega)] at hc
            refine k _ _ (Or.inl ⟨by rw [hc], by rw [hc]; exact pt, by omega, by omega⟩) (fun s h1 h2 h3 h4 => by rw [st9 s h1 h2 h3 h4]; exact ms s h1 h2 h3 h4) (fun q h1 h2 => by rw [rt9 q h1]; exact mq q h1 h2)
    refine lp38 ((73 - 0 : Int)).toNat.succ sg 0 mi (fun _ => 0) ?_ ?_ ?_ ?_ ?_ ?_ ?_ ?_ ?_
    · first | omega | assumption | (intros; omega)
    · first | omega | assumption | (intros; omega)
    · first | omega | assumption | (intros; omega)
    · first | omega | assumption | (intros; omega)
    · unfold zall
      rcases hsg with h | h
      · rw [if_pos h.2.1, if_pos h.2.1, h.1, h.2.2]; rfl
      · rw [if_neg h.2.1, if_neg h.2.1, h.1, h.2.2]; rfl
    · intro t q1 q2; rw [qi 42 (by decide)]; exact ⟨ff t q1 q2, by omega, by omega⟩
    · intro s h1 h2 h3 h4; exact si s h1
    · intro q h1 h2; rw [qi q h1]; exact gf q h2
    · omega
  refine wp_aload_n dd_X6_read_15 rfl ?_
  refine wp_callV (M' := mm_X6_next) (As := []) (rest := []) dd_X6_read_16 lk_X6_31 mV_X6_next kk_41 (zlt rfl) ⟨_, _, rfl⟩ rfl (by decide) (by decide) (Nat.le_of_ble_eq_true rfl) rfl (sp_X6_next X 0  hRf zu_s (by omega) ?_)
  show zw_Wp l mm_X6_read (zS L) 19 [some (zR 41), some (zI 1), none, none] [zI (if X (0) = -9 then -1 else X (0))] (zu mf 41 3 0) 0 0 Q
  refine wp_bipush dd_X6_read_19 (by decide) ?_
  refine wp_icmp_ne (tgt := 36) dd_X6_read_21 (by decide) (fun c21_8 => ?_) (fun c21_8 => ?_)
  · skip
    refine ih36 1 (zu mf 41 3 0) ?_ ?_ ?_ ?_
    · first | (refine Or.inl ⟨rfl, by omega, ?_⟩; rw [zu_s]) | (refine Or.inr ⟨rfl, by omega, ?_⟩; rw [zu_s])
    · intro s hs; first | (rw [zu_n (Or.inr hs), zu_n (Or.inr hs), gf 41 (by decide)]) | (rw [zu_n (Or.inr hs), gf 41 (by decide)])
    · intro q hq; first | (rw [zu_row hq, zu_row hq]) | (rw [zu_row hq])
    · omega
  · skip
    refine wp_iconst dd_X6_read_24 (zr_lit rfl) ?_
    refine wp_istore_n (ls2 := [some (zR 41), some (zI (-1)), none, none]) dd_X6_read_25 rfl (by decide) rfl ?_
    refine wp_aload_n dd_X6_read_26 rfl ?_
    refine wp_dup dd_X6_read_27 rfl ?_
    refine wp_getV 3 (v := 0) rfl (by rw [zu_s]) dd_X6_read_28 gf_X6_28 rfl kk_41 (by decide) (zlt rfl) ?_
    refine wp_iconst dd_X6_read_31 (zr_lit rfl) ?_
    refine wp_iaddC dd_X6_read_32 (by decide) ?_
    show zw_Wp l mm_X6_read (zS L) 33 [some (zR 41), some (zI (-1)), none, none] [zI 1, zR 41] (zu mf 41 3 0) 0 0 Q
    refine wp_putzI 3 rfl dd_X6_read_33 pf_X6_28 rfl kk_41 (by decide) (zlt rfl) ?_
    refine ih36 (-1) (zu (zu mf 41 3 0) 41 3 1) ?_ ?_ ?_ ?_
    · first | (refine Or.inl ⟨rfl, by omega, ?_⟩; rw [zu_s]) | (refine Or.inr ⟨rfl, by omega, ?_⟩; rw [zu_s])
    · intro s hs; first | (rw [zu_n (Or.inr hs), zu_n (Or.inr hs), gf 41 (by decide)]) | (rw [zu_n (Or.inr hs), gf 41 (by decide)])
    · intro q hq; first | (rw [zu_row hq, zu_row hq]) | (rw [zu_row hq])
    · omega


/-! ===== the reference: corners, and what is read next ===== -/
/-- the corners are places -/
def zCo (mem : zMem) : Prop := (0 ≤ mem 67 28 ∧ mem 67 28 ≤ 90) ∧ ∀ x : Int, 0 ≤ x → x < mem 67 28 → 0 ≤ mem 85 x ∧ mem 85 x < 144
/-- twice the area: triangles from the first corner -/
def zar (f : Int → Int) : Nat → Int
  | 0 => 0
  | n + 1 => zar f n + ztn (f 0) (f (n + 1)) (f (n + 2))
def zcor (mem : zMem) (i : Int) : Int := if i < mem 67 28 then 10 * (mem 85 i / 16) + mem 85 i % 16 else -9
def znx (mem : zMem) (i : Int) : Int := if i < mem 67 11 then mem 74 i else -9
theorem zar_rg {f : Int → Int} : ∀ n : Nat, (∀ x : Int, 0 ≤ x → x < n + 2 → 0 ≤ f x ∧ f x < 144) → -450 * (n : Int) ≤ zar f n ∧ zar f n ≤ 450 * n
  | 0, _ => by unfold zar; omega
  | n + 1, h => by
    have h1 := zar_rg n (fun x q1 q2 => h x q1 (by omega))
    have h2 := ztn_rg (h 0 (by omega) (by omega)) (h (n + 1) (by omega) (by omega)) (h (n + 2) (by omega) (by omega))
    unfold zar
    omega

set_option maxRecDepth 100000 in
set_option maxHeartbeats 4000000 in
theorem sp_X11_cornerAt {l : Launch} {L : Nat} {mem : zMem} {Q : zQ}  (i : Int) (hi : 0 ≤ i) (hc : zCo mem) (k : Q (some (zI (zcor mem i))) (zS L) mem) : zw_Ok l mm_X11_cornerAt [zR 67, zI i] (zS L) mem Q := by
  refine zw_okA (fun hA => ?_)
  have rg_i : -2147483648 ≤ i ∧ i < 2147483648 := hA.2.1
  refine zw_enter (by decide) (Nat.le_of_ble_eq_true rfl) rfl ?_
  show zw_Wp l mm_X11_cornerAt (zS L) 0 [some (zR 67), some (zI i)] [] mem 0 0 Q
  have hc1 := hc.1
  have hc2 := hc.2 i hi
  refine wp_iload_n dd_X11_cornerAt_0 rfl ?_
  refine wp_aload_n dd_X11_cornerAt_1 rfl ?_
  refine wp_getZ 28 rfl dd_X11_cornerAt_2 gf_X11_274 rfl kk_67 (by decide) (zlt rfl) ?_
  refine wp_icmp_ge (tgt := 33) dd_X11_cornerAt_5 (by decide) (fun c5_1 => ?_) (fun c5_1 => ?_)
  · skip
    refine wp_bipush dd_X11_cornerAt_33 (by decide) ?_
    refine wp_ireturn (st := []) dd_X11_cornerAt_35 rfl ?_
    refine zq_I ?_ ?_ k
    · unfold zcor; first | rw [if_pos (by omega)] | rw [if_neg (by omega)]
    · rfl
  · skip
    refine wp_bipush dd_X11_cornerAt_8 (by decide) ?_
    refine wp_aload_n dd_X11_cornerAt_10 rfl ?_
    refine wp_getR dd_X11_cornerAt_11 gf_X11_80 rfl kk_67 (by decide) (zlt rfl) rr_67_27 ?_
    refine wp_iload_n dd_X11_cornerAt_14 rfl ?_
    refine wp_iald dd_X11_cornerAt_15 kk_85 (zlt rfl) (by omega) (by omega) ?_
    refine wp_bipush dd_X11_cornerAt_16 (by decide) ?_
    refine wp_idivP dd_X11_cornerAt_18 (by omega) (by omega) ?_
    refine wp_imulC dd_X11_cornerAt_19 (by omega) ?_
    refine wp_aload_n dd_X11_cornerAt_20 rfl ?_
    refine wp_getR dd_X11_cornerAt_21 gf_X11_80 rfl kk_67 (by decide) (zlt rfl) rr_67_27 ?_
    refine wp_iload_n dd_X11_cornerAt_24 rfl ?_
    refine wp_iald dd_X11_cornerAt_25 kk_85 (zlt rfl) (by omega) (by omega) ?_
    refine wp_bipush dd_X11_cornerAt_26 (by decide) ?_
    refine wp_iremP dd_X11_cornerAt_28 (by omega) (by omega) ?_
    refine wp_iaddC dd_X11_cornerAt_29 (by omega) ?_
    refine wp_goto (tgt := 35) dd_X11_cornerAt_30 (by decide) ?_
    refine wp_ireturn (st := []) dd_X11_cornerAt_35 rfl ?_
    refine zq_I ?_ ?_ k
    · unfold zcor; first | rw [if_pos (by omega)] | rw [if_neg (by omega)]
    · rfl

set_option maxRecDepth 100000 in
set_option maxHeartbeats 4000000 in
theorem sp_X11_next {l : Launch} {L : Nat} {mem : zMem} {Q : zQ}   (ha : 0 ≤ mem 67 12) (ht : mem 67 11 ≤ 72) (k : Q (some (zI (znx mem (mem 67 12)))) (zS L) mem) : zw_Ok l mm_X11_next [zR 67] (zS L) mem Q := by
  refine zw_enter (by decide) (Nat.le_of_ble_eq_true rfl) rfl ?_
  show zw_Wp l mm_X11_next (zS L) 0 [some (zR 67)] [] mem 0 0 Q
  refine wp_aload_n dd_X11_next_0 rfl ?_
  refine wp_getZ 12 rfl dd_X11_next_1 gf_X11_126 rfl kk_67 (by decide) (zlt rfl) ?_
  refine wp_aload_n dd_X11_next_4 rfl ?_
  refine wp_getZ 11 rfl dd_X11_next_5 gf_X11_123 rfl kk_67 (by decide) (zlt rfl) ?_
  refine wp_icmp_ge (tgt := 23) dd_X11_next_8 (by decide) (fun c8_1 => ?_) (fun c8_1 => ?_)
  · skip
    refine wp_bipush dd_X11_next_23 (by decide) ?_
    refine wp_ireturn (st := []) dd_X11_next_25 rfl ?_
    refine zq_I ?_ ?_ k
    · unfold znx; first | rw [if_pos (by omega)] | rw [if_neg (by omega)]
    · rfl
  · skip
    refine wp_aload_n dd_X11_next_11 rfl ?_
    refine wp_getR dd_X11_next_12 gf_X11_46 rfl kk_67 (by decide) (zlt rfl) rr_67_9 ?_
    refine wp_aload_n dd_X11_next_15 rfl ?_
    refine wp_getZ 12 rfl dd_X11_next_16 gf_X11_126 rfl kk_67 (by decide) (zlt rfl) ?_
    refine wp_iald dd_X11_next_19 kk_74 (zlt rfl) (by omega) (by omega) ?_
    refine wp_goto (tgt := 25) dd_X11_next_20 (by decide) ?_
    refine wp_ireturn (st := []) dd_X11_next_25 rfl ?_
    refine zq_I ?_ ?_ k
    · unfold znx; first | rw [if_pos (by omega)] | rw [if_neg (by omega)]
    · rfl

set_option maxRecDepth 100000 in
set_option maxHeartbeats 4000000 in
theorem sp_X11_areaNow {l : Launch} {L : Nat} {mem : zMem} {Q : zQ}   (hc : zCo mem) (k : Q (some (zI (zar (mem 85) (mem 67 28 - 2).toNat))) (zS L) mem) : zw_Ok l mm_X11_areaNow [zR 67] (zS L) mem Q := by
  refine zw_enter (by decide) (Nat.le_of_ble_eq_true rfl) rfl ?_
  show zw_Wp l mm_X11_areaNow (zS L) 0 [some (zR 67), none, none] [] mem 0 0 Q
  have hc1 := hc.1
  have hc2 := hc.2
  refine wp_iconst dd_X11_areaNow_0 (zr_lit rfl) ?_
  refine wp_istore_n (ls2 := [some (zR 67), some (zI 0), none]) dd_X11_areaNow_1 rfl (by decide) rfl ?_
  refine wp_iconst dd_X11_areaNow_2 (zr_lit rfl) ?_
  refine wp_istore_n (ls2 := [some (zR 67), some (zI 0), some (zI 1)]) dd_X11_areaNow_3 rfl (by decide) rfl ?_
  have lp4 : ∀ (nf : Nat) (w : Int) (i : Int), (1 ≤ i) → (i = 1 ∨ i < mem 67 28) → (w = zar (mem 85) (i - 1).toNat) → (91 - i) < (nf : Int) → zw_Wp l mm_X11_areaNow (zS L) 4 [some (zR 67), some (zI w), some (zI i)] [] mem 0 0 Q := by
    intro nf
    induction nf with
    | zero =>
      intro w i h0 h1 h2 hmu
      exfalso; omega
    | succ nf ih4 =>
      intro w i h0 h1 h2 hmu
      have hw : -40500 ≤ w ∧ w ≤ 40500 := by
        rcases h1 with h1 | h1
        · rw [h2, h1]; show (-40500 : Int) ≤ 0 ∧ (0 : Int) ≤ 40500; decide
        · have := zar_rg (f := mem 85) (i - 1).toNat (fun x q1 q2 => hc2 x q1 (by omega))
          omega
      refine wp_iload_n dd_X11_areaNow_4 rfl ?_
      refine wp_iconst dd_X11_areaNow_5 (zr_lit rfl) ?_
      refine wp_iaddC dd_X11_areaNow_6 (by omega) ?_
      refine wp_aload_n dd_X11_areaNow_7 rfl ?_
      refine wp_getZ 28 rfl dd_X11_areaNow_8 gf_X11_274 rfl kk_67 (by decide) (zlt rfl) ?_
      refine wp_icmp_ge (tgt := 46) dd_X11_areaNow_11 (by decide) (fun c11_1 => ?_) (fun c11_1 => ?_)
      · skip
        refine wp_iload_n dd_X11_areaNow_46 rfl ?_
        refine wp_ireturn (st := []) dd_X11_areaNow_47 rfl ?_
        refine zq_I ?_ ?_ k
        · rw [h2, show (i - 1).toNat = (mem 67 28 - 2).toNat by omega]
        · rfl
      · skip
        have v0 := hc2 0 (by omega) (by omega)
        have v1 := hc2 i (by omega) (by omega)
        have v2 := hc2 (i + 1) (by omega) (by omega)
        have v3 := ztn_rg v0 v1 v2
        refine wp_iload_n dd_X11_areaNow_14 rfl ?_
        refine wp_aload_n dd_X11_areaNow_15 rfl ?_
        refine wp_getR dd_X11_areaNow_16 gf_X11_80 rfl kk_67 (by decide) (zlt rfl) rr_67_27 ?_
        refine wp_iconst dd_X11_areaNow_19 (zr_lit rfl) ?_
        refine wp_iald dd_X11_areaNow_20 kk_85 (zlt rfl) (by omega) (by omega) ?_
        refine wp_aload_n dd_X11_areaNow_21 rfl ?_
        refine wp_getR dd_X11_areaNow_22 gf_X11_80 rfl kk_67 (by decide) (zlt rfl) rr_67_27 ?_
        refine wp_iload_n dd_X11_areaNow_25 rfl ?_
        refine wp_iald dd_X11_areaNow_26 kk_85 (zlt rfl) (by omega) (by omega) ?_
        refine wp_aload_n dd_X11_areaNow_27 rfl ?_
        refine wp_getR dd_X11_areaNow_28 gf_X11_80 rfl kk_67 (by decide) (zlt rfl) rr_67_27 ?_
        refine wp_iload_n dd_X11_areaNow_31 rfl ?_
        refine wp_iconst dd_X11_areaNow_32 (zr_lit rfl) ?_
        refine wp_iaddC dd_X11_areaNow_33 (by omega) ?_
        refine wp_iald dd_X11_areaNow_34 kk_85 (zlt rfl) (by omega) (by omega) ?_
        refine wp_callS (M' := mm_X11_turns) (As := [zI (mem 85 0), zI (mem 85 i), zI (mem 85 (i + 1))]) (rest := [zI w]) dd_X11_areaNow_35 lk_X11_268 mS_X11_turns rfl (by decide) (by decide) (Nat.le_of_ble_eq_true rfl) rfl (sp_X11_turns  (mem 85 0) (mem 85 i) (mem 85 (i + 1)) (by first | assumption | omega) (by first | assumption | omega) (by first | assumption | omega) ?_)
        show zw_Wp l mm_X11_areaNow (zS L) 38 [some (zR 67), some (zI w), some (zI i)] [zI (ztn (mem 85 0) (mem 85 i) (mem 85 (i + 1))), zI w] mem 0 0 Q
        refine wp_iaddC dd_X11_areaNow_38 (by omega) ?_
        refine wp_istore_n (ls2 := [some (zR 67), some (zI (w + (ztn (mem 85 0) (mem 85 i) (mem 85 (i + 1))))), some (zI i)]) dd_X11_areaNow_39 rfl (by decide) rfl ?_
        refine wp_iincC (ls2 := [some (zR 67), some (zI (w + (ztn (mem 85 0) (mem 85 i) (mem 85 (i + 1))))), some (zI (i + 1))]) dd_X11_areaNow_40 rfl rfl (by decide) (by omega) rfl ?_
        refine wp_goto (tgt := 4) dd_X11_areaNow_43 (by decide) ?_
        refine ih4 (w + (ztn (mem 85 0) (mem 85 i) (mem 85 (i + 1)))) (i + 1) ?_ ?_ ?_ ?_
        · first | omega | assumption | (intros; omega)
        · first | omega | assumption | (intros; omega)
        · rw [show (i + 1 - 1).toNat = (i - 1).toNat + 1 by omega, zar, ← h2, show (((i - 1).toNat : Nat) : Int) + 1 = i by omega, show (((i - 1).toNat : Nat) : Int) + 2 = i + 1 by omega]
        · omega
  refine lp4 ((91 - 1 : Int)).toNat.succ 0 1 ?_ ?_ ?_ ?_
  · first | omega | assumption | (intros; omega)
  · first | omega | assumption | (intros; omega)
  · rfl
  · omega


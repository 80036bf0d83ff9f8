/-! ===== the reference: points in the plane ===== -/
/-- which way a, b, c turn (places 16 x + y) -/
def ztn (a b c : Int) : Int := (b / 16 - a / 16) * (c % 16 - a % 16) - (b % 16 - a % 16) * (c / 16 - a / 16)
def zfar (a b : Int) : Int := (b / 16 - a / 16) * (b / 16 - a / 16) + (b % 16 - a % 16) * (b % 16 - a % 16)
theorem zml2 {x y : Int} (hx : -15 ≤ x ∧ x ≤ 15) (hy : -15 ≤ y ∧ y ≤ 15) : -225 ≤ x * y ∧ x * y ≤ 225 := by
  have h1 := Int.mul_nonneg (show 0 ≤ 15 - x by omega) (show 0 ≤ 15 - y by omega)
  have h2 := Int.mul_nonneg (show 0 ≤ 15 + x by omega) (show 0 ≤ 15 + y by omega)
  have h3 := Int.mul_nonneg (show 0 ≤ 15 - x by omega) (show 0 ≤ 15 + y by omega)
  have h4 := Int.mul_nonneg (show 0 ≤ 15 + x by omega) (show 0 ≤ 15 - y by omega)
  simp only [Int.sub_mul, Int.add_mul, Int.mul_sub, Int.mul_add] at h1 h2 h3 h4
  omega
theorem ztn_rg {a b c : Int} (ha : 0 ≤ a ∧ a < 144) (hb : 0 ≤ b ∧ b < 144) (hc : 0 ≤ c ∧ c < 144) : -450 ≤ ztn a b c ∧ ztn a b c ≤ 450 := by
  have h1 := zml2 (x := b / 16 - a / 16) (y := c % 16 - a % 16) (by omega) (by omega)
  have h2 := zml2 (x := b % 16 - a % 16) (y := c / 16 - a / 16) (by omega) (by omega)
  unfold ztn
  omega

set_option maxRecDepth 100000 in
set_option maxHeartbeats 4000000 in
theorem sp_X11_turns {l : Launch} {L : Nat} {mem : zMem} {Q : zQ}  (a : Int) (b : Int) (c : Int) (ha : 0 ≤ a ∧ a < 144) (hb : 0 ≤ b ∧ b < 144) (hc : 0 ≤ c ∧ c < 144) (k : Q (some (zI (ztn a b c))) (zS L) mem) : zw_Ok l mm_X11_turns [zI a, zI b, zI c] (zS L) mem Q := by
  refine zw_okA (fun hA => ?_)
  have rg_a : -2147483648 ≤ a ∧ a < 2147483648 := hA.1
  have rg_b : -2147483648 ≤ b ∧ b < 2147483648 := hA.2.1
  have rg_c : -2147483648 ≤ c ∧ c < 2147483648 := hA.2.2.1
  refine zw_enter (by decide) (Nat.le_of_ble_eq_true rfl) rfl ?_
  show zw_Wp l mm_X11_turns (zS L) 0 [some (zI a), some (zI b), some (zI c)] [] mem 0 0 Q
  have w1 := zml2 (x := b / 16 - a / 16) (y := c % 16 - a % 16) (by omega) (by omega)
  have w2 := zml2 (x := b % 16 - a % 16) (y := c / 16 - a / 16) (by omega) (by omega)
  refine wp_iload_n dd_X11_turns_0 rfl ?_
  refine wp_bipush dd_X11_turns_1 (by decide) ?_
  refine wp_idivP dd_X11_turns_3 (by omega) (by omega) ?_
  refine wp_iload_n dd_X11_turns_4 rfl ?_
  refine wp_bipush dd_X11_turns_5 (by decide) ?_
  refine wp_idivP dd_X11_turns_7 (by omega) (by omega) ?_
  refine wp_isubC dd_X11_turns_8 (by omega) ?_
  refine wp_iload_n dd_X11_turns_9 rfl ?_
  refine wp_bipush dd_X11_turns_10 (by decide) ?_
  refine wp_iremP dd_X11_turns_12 (by omega) (by omega) ?_
  refine wp_iload_n dd_X11_turns_13 rfl ?_
  refine wp_bipush dd_X11_turns_14 (by decide) ?_
  refine wp_iremP dd_X11_turns_16 (by omega) (by omega) ?_
  refine wp_isubC dd_X11_turns_17 (by omega) ?_
  refine wp_imulC dd_X11_turns_18 (by omega) ?_
  refine wp_iload_n dd_X11_turns_19 rfl ?_
  refine wp_bipush dd_X11_turns_20 (by decide) ?_
  refine wp_iremP dd_X11_turns_22 (by omega) (by omega) ?_
  refine wp_iload_n dd_X11_turns_23 rfl ?_
  refine wp_bipush dd_X11_turns_24 (by decide) ?_
  refine wp_iremP dd_X11_turns_26 (by omega) (by omega) ?_
  refine wp_isubC dd_X11_turns_27 (by omega) ?_
  refine wp_iload_n dd_X11_turns_28 rfl ?_
  refine wp_bipush dd_X11_turns_29 (by decide) ?_
  refine wp_idivP dd_X11_turns_31 (by omega) (by omega) ?_
  refine wp_iload_n dd_X11_turns_32 rfl ?_
  refine wp_bipush dd_X11_turns_33 (by decide) ?_
  refine wp_idivP dd_X11_turns_35 (by omega) (by omega) ?_
  refine wp_isubC dd_X11_turns_36 (by omega) ?_
  refine wp_imulC dd_X11_turns_37 (by omega) ?_
  refine wp_isubC dd_X11_turns_38 (by omega) ?_
  refine wp_ireturn (st := []) dd_X11_turns_39 rfl ?_
  refine zq_I ?_ ?_ k
  · first | rfl | omega | (rw [if_pos (by omega)]) | (rw [if_neg (by omega)])
  · rfl

set_option maxRecDepth 100000 in
set_option maxHeartbeats 4000000 in
theorem sp_X11_far {l : Launch} {L : Nat} {mem : zMem} {Q : zQ}  (a : Int) (b : Int) (ha : 0 ≤ a ∧ a < 144) (hb : 0 ≤ b ∧ b < 144) (k : Q (some (zI (zfar a b))) (zS L) mem) : zw_Ok l mm_X11_far [zI a, zI b] (zS L) mem Q := by
  refine zw_okA (fun hA => ?_)
  have rg_a : -2147483648 ≤ a ∧ a < 2147483648 := hA.1
  have rg_b : -2147483648 ≤ b ∧ b < 2147483648 := hA.2.1
  refine zw_enter (by decide) (Nat.le_of_ble_eq_true rfl) rfl ?_
  show zw_Wp l mm_X11_far (zS L) 0 [some (zI a), some (zI b), none, none] [] mem 0 0 Q
  have w1 := zml2 (x := b / 16 - a / 16) (y := b / 16 - a / 16) (by omega) (by omega)
  have w2 := zml2 (x := b % 16 - a % 16) (y := b % 16 - a % 16) (by omega) (by omega)
  refine wp_iload_n dd_X11_far_0 rfl ?_
  refine wp_bipush dd_X11_far_1 (by decide) ?_
  refine wp_idivP dd_X11_far_3 (by omega) (by omega) ?_
  refine wp_iload_n dd_X11_far_4 rfl ?_
  refine wp_bipush dd_X11_far_5 (by decide) ?_
  refine wp_idivP dd_X11_far_7 (by omega) (by omega) ?_
  refine wp_isubC dd_X11_far_8 (by omega) ?_
  refine wp_istore_n (ls2 := [some (zI a), some (zI b), some (zI ((b / 16) - (a / 16))), none]) dd_X11_far_9 rfl (by decide) rfl ?_
  refine wp_iload_n dd_X11_far_10 rfl ?_
  refine wp_bipush dd_X11_far_11 (by decide) ?_
  refine wp_iremP dd_X11_far_13 (by omega) (by omega) ?_
  refine wp_iload_n dd_X11_far_14 rfl ?_
  refine wp_bipush dd_X11_far_15 (by decide) ?_
  refine wp_iremP dd_X11_far_17 (by omega) (by omega) ?_
  refine wp_isubC dd_X11_far_18 (by omega) ?_
  refine wp_istore_n (ls2 := [some (zI a), some (zI b), some (zI ((b / 16) - (a / 16))), some (zI ((b % 16) - (a % 16)))]) dd_X11_far_19 rfl (by decide) rfl ?_
  refine wp_iload_n dd_X11_far_20 rfl ?_
  refine wp_iload_n dd_X11_far_21 rfl ?_
  refine wp_imulC dd_X11_far_22 (by omega) ?_
  refine wp_iload_n dd_X11_far_23 rfl ?_
  refine wp_iload_n dd_X11_far_24 rfl ?_
  refine wp_imulC dd_X11_far_25 (by omega) ?_
  refine wp_iaddC dd_X11_far_26 (by omega) ?_
  refine wp_ireturn (st := []) dd_X11_far_27 rfl ?_
  refine zq_I ?_ ?_ k
  · first | rfl | omega | (rw [if_pos (by omega)]) | (rw [if_neg (by omega)])
  · rfl

set_option maxRecDepth 100000 in
set_option maxHeartbeats 4000000 in
theorem sp_X11_clears {l : Launch} {L : Nat} {mem : zMem} {Q : zQ}    (k : ∀ (mem2 : zMem), (∀ x : Int, 0 ≤ x → x < 144 → mem2 84 x = 0) → (∀ q : Nat, q ≠ 84 → mem2 q = mem q) → Q none (zS L) mem2) : zw_Ok l mm_X11_clears [zR 67] (zS L) mem Q := by
  refine zw_enter (by decide) (Nat.le_of_ble_eq_true rfl) rfl ?_
  show zw_Wp l mm_X11_clears (zS L) 0 [some (zR 67), none] [] mem 0 0 Q
  refine wp_iconst dd_X11_clears_0 (zr_lit rfl) ?_
  refine wp_istore_n (ls2 := [some (zR 67), some (zI 0)]) dd_X11_clears_1 rfl (by decide) rfl ?_
  have lp2 : ∀ (nf : Nat) (i : Int) (mm : zMem), (0 ≤ i) → (i ≤ 144) → (∀ x : Int, 0 ≤ x → x < i → mm 84 x = 0) → (∀ q : Nat, q ≠ 84 → mm q = mem q) → (144 - i) < (nf : Int) → zw_Wp l mm_X11_clears (zS L) 2 [some (zR 67), some (zI i)] [] mm 0 0 Q := by
    intro nf
    induction nf with
    | zero =>
      intro i mm h0 h1 h2 h3 hmu
      exfalso; omega
    | succ nf ih2 =>
      intro i mm h0 h1 h2 h3 hmu
      refine wp_iload_n dd_X11_clears_2 rfl ?_
      refine wp_sipush dd_X11_clears_3 (by decide) ?_
      refine wp_icmp_ge (tgt := 22) dd_X11_clears_6 (by decide) (fun c6_1 => ?_) (fun c6_1 => ?_)
      · skip
        refine wp_return (st := []) dd_X11_clears_22 rfl ?_
        exact k mm (fun x q1 q2 => h2 x q1 (by omega)) h3
      · skip
        refine wp_aload_n dd_X11_clears_9 rfl ?_
        refine wp_getR dd_X11_clears_10 gf_X11_76 rfl kk_67 (by decide) (zlt rfl) rr_67_26 ?_
        refine wp_iload_n dd_X11_clears_13 rfl ?_
        refine wp_iconst dd_X11_clears_14 (zr_lit rfl) ?_
        refine wp_bast dd_X11_clears_15 kk_84 (zlt rfl) (by omega) (by omega) (by omega) ?_
        refine wp_iincC (ls2 := [some (zR 67), some (zI (i + 1))]) dd_X11_clears_16 rfl rfl (by decide) (by omega) rfl ?_
        refine wp_goto (tgt := 2) dd_X11_clears_19 (by decide) ?_
        refine ih2 (i + 1) (zu mm 84 i 0) ?_ ?_ ?_ ?_ ?_
        · first | omega | assumption | (intros; omega)
        · first | omega | assumption | (intros; omega)
        · intro x q1 q2
          by_cases hx : x = i
          · subst hx; rw [zu_s]
          · rw [zu_n (Or.inr hx)]; exact h2 x q1 (by omega)
        · intro q hq; rw [zu_row hq]; exact h3 q hq
        · omega
  refine lp2 ((144 - 0 : Int)).toNat.succ 0 mem ?_ ?_ ?_ ?_ ?_
  · first | omega | assumption | (intros; omega)
  · first | omega | assumption | (intros; omega)
  · intros; omega
  · intros; rfl
  · omega


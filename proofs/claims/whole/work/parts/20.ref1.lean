/-! ===== the reference: its numbers ===== -/
abbrev zp (mem : zMem) : Int := mem 67 1
def ztd (mem : zMem) (q x : Int) : Int := mem 69 (25 * q + x)
/-- coefficients of polynomial q, by places 5 i + j -/
def zco (mem : zMem) (q t : Int) : Int := zcf (mem 70 q) (mem 71 q) (mem 67 1) (ztd mem q) (t / 5) (t % 5)
def zT (mem : zMem) (q : Int) : Prop := (0 ≤ q ∧ q ≤ 5) ∧ (0 ≤ mem 70 q ∧ mem 70 q ≤ 5) ∧ (0 ≤ mem 71 q ∧ mem 71 q ≤ 9) ∧ ∀ x : Int, 0 ≤ x → x < 25 → 0 ≤ ztd mem q x ∧ ztd mem q x < mem 67 1
theorem zco_rg {mem : zMem} {q : Int} (hp : zPr (mem 67 1)) (h : zT mem q) : ∀ t : Int, 0 ≤ t → t < 25 → 0 ≤ zco mem q t ∧ zco mem q t < mem 67 1 := by
  intro t h1 h2
  have := hp.rg
  exact zcf_rg (by omega) (by omega) (by omega) h.2.2.2
theorem zre_eq {v p : Int} (hp : 0 < p) : (v.tmod p + p) % p = v % p := by
  have h := Int.mul_tdiv_add_tmod v p
  have h4 : v = v.tmod p + p * v.tdiv p := by omega
  rw [Int.add_emod_right]
  rw [show v % p = (v.tmod p + p * v.tdiv p) % p by rw [← h4], Int.add_mul_emod_self_left]
theorem zpr_iff {n : Int} (h : 2 ≤ n ∧ n ≤ 31) : zPr n ↔ ∀ d : Int, 2 ≤ d → d < n → n % d ≠ 0 := by
  obtain ⟨x, rfl⟩ := Int.eq_ofNat_of_zero_le (show 0 ≤ n by omega)
  have key : ∀ x ∈ List.range 32, 2 ≤ x → ((x ∈ [2, 3, 5, 7, 11, 13, 17, 19, 23, 29, 31]) ↔ ∀ d ∈ List.range 31, 2 ≤ d → d < x → x % d ≠ 0) := by decide +kernel
  have k1 := key x (List.mem_range.mpr (by omega)) (by omega)
  have e1 : zPr (x : Int) ↔ x ∈ [2, 3, 5, 7, 11, 13, 17, 19, 23, 29, 31] := by
    unfold zPr
    simp only [List.mem_cons, List.not_mem_nil, or_false]
    omega
  rw [e1, k1]
  constructor
  · intro q d h1 h2 h3
    obtain ⟨y, rfl⟩ := Int.eq_ofNat_of_zero_le (show 0 ≤ d by omega)
    exact q y (List.mem_range.mpr (by omega)) (by omega) (by omega) (by omega)
  · intro q d _ h1 h2 h3
    exact q d (by omega) (by omega) (by omega)
theorem zp_pow {v p : Int} {k : Nat} : (v ^ k % p * (v % p)) % p = v ^ (k + 1) % p := by rw [zm_mul, zm_mul2, ← Int.pow_succ]

set_option maxRecDepth 100000 in
set_option maxHeartbeats 4000000 in
theorem sp_X11_no {l : Launch} {L : Nat} {mem : zMem} {Q : zQ}  (w : Int) (hw : -6 ≤ w ∧ w ≤ -1) (k : Q (some (zI w)) (zS L) (zu mem 68 (-w) (zwr (mem 68 (-w) + 1)))) : zw_Ok l mm_X11_no [zR 67, zI w] (zS L) mem Q := by
  refine zw_okA (fun hA => ?_)
  have rg_w : -2147483648 ≤ w ∧ w < 2147483648 := hA.2.1
  refine zw_enter (by decide) (Nat.le_of_ble_eq_true rfl) rfl ?_
  show zw_Wp l mm_X11_no (zS L) 0 [some (zR 67), some (zI w)] [] mem 0 0 Q
  refine wp_aload_n dd_X11_no_0 rfl ?_
  refine wp_getR dd_X11_no_1 gf_X11_1 rfl kk_67 (by decide) (zlt rfl) rr_67_0 ?_
  refine wp_iload_n dd_X11_no_4 rfl ?_
  refine wp_inegC dd_X11_no_5 (by omega) ?_
  refine wp_dup2 dd_X11_no_6 rfl rfl ?_
  refine wp_iald dd_X11_no_7 kk_68 (zlt rfl) (by omega) (by omega) ?_
  refine wp_iconst dd_X11_no_8 (zr_lit rfl) ?_
  refine wp_iadd dd_X11_no_9 ?_
  refine wp_iast dd_X11_no_10 kk_68 (zlt rfl) (by omega) (by omega) ?_
  refine wp_iload_n dd_X11_no_11 rfl ?_
  refine wp_ireturn (st := []) dd_X11_no_12 rfl ?_
  refine zq_I ?_ ?_ k
  · first | rfl | omega | (rw [if_pos (by omega)]) | (rw [if_neg (by omega)])
  · rfl

set_option maxRecDepth 100000 in
set_option maxHeartbeats 4000000 in
theorem sp_X11_lowest {l : Launch} {L : Nat} {mem : zMem} {Q : zQ}  (w : Int) (hw : -6 ≤ w ∧ w ≤ -1) (k : Q (some (zJ (4000000000000000000 - w))) (zS L) (zu mem 68 (-w) (zwr (mem 68 (-w) + 1)))) : zw_Ok l mm_X11_lowest [zR 67, zI w] (zS L) mem Q := by
  refine zw_okA (fun hA => ?_)
  have rg_w : -2147483648 ≤ w ∧ w < 2147483648 := hA.2.1
  refine zw_enter (by decide) (Nat.le_of_ble_eq_true rfl) rfl ?_
  show zw_Wp l mm_X11_lowest (zS L) 0 [some (zR 67), some (zI w)] [] mem 0 0 Q
  refine wp_aload_n dd_X11_lowest_0 rfl ?_
  refine wp_getR dd_X11_lowest_1 gf_X11_1 rfl kk_67 (by decide) (zlt rfl) rr_67_0 ?_
  refine wp_iload_n dd_X11_lowest_4 rfl ?_
  refine wp_inegC dd_X11_lowest_5 (by omega) ?_
  refine wp_dup2 dd_X11_lowest_6 rfl rfl ?_
  refine wp_iald dd_X11_lowest_7 kk_68 (zlt rfl) (by omega) (by omega) ?_
  refine wp_iconst dd_X11_lowest_8 (zr_lit rfl) ?_
  refine wp_iadd dd_X11_lowest_9 ?_
  refine wp_iast dd_X11_lowest_10 kk_68 (zlt rfl) (by omega) (by omega) ?_
  refine wp_ldc2 dd_X11_lowest_11 kc_X11_7 ?_
  show zw_Wp l mm_X11_lowest (zS L) 14 [some (zR 67), some (zI w)] [zJ 4000000000000000000] (zu mem 68 (-w) (zwr ((mem 68 (-w)) + 1))) 0 0 Q
  refine wp_iload_n dd_X11_lowest_14 rfl ?_
  refine wp_i2l dd_X11_lowest_15 ?_
  refine wp_lsubC dd_X11_lowest_16 (by omega) ?_
  refine wp_lreturn (st := []) dd_X11_lowest_17 rfl ?_
  refine zq_J ?_ ?_ k
  · first | rfl | omega | (rw [if_pos (by omega)]) | (rw [if_neg (by omega)])
  · rfl

set_option maxRecDepth 100000 in
set_option maxHeartbeats 4000000 in
theorem sp_X11_isIn {l : Launch} {L : Nat} {mem : zMem} {Q : zQ}  (v : Int) (a : Int) (b : Int)  (k : Q (some (zI (if a ≤ v ∧ v ≤ b then 1 else 0))) (zS L) mem) : zw_Ok l mm_X11_isIn [zI v, zI a, zI b] (zS L) mem Q := by
  refine zw_okA (fun hA => ?_)
  have rg_v : -2147483648 ≤ v ∧ v < 2147483648 := hA.1
  have rg_a : -2147483648 ≤ a ∧ a < 2147483648 := hA.2.1
  have rg_b : -2147483648 ≤ b ∧ b < 2147483648 := hA.2.2.1
  refine zw_enter (by decide) (Nat.le_of_ble_eq_true rfl) rfl ?_
  show zw_Wp l mm_X11_isIn (zS L) 0 [some (zI v), some (zI a), some (zI b)] [] mem 0 0 Q
  refine wp_iload_n dd_X11_isIn_0 rfl ?_
  refine wp_iload_n dd_X11_isIn_1 rfl ?_
  refine wp_icmp_lt (tgt := 14) dd_X11_isIn_2 (by decide) (fun c2_1 => ?_) (fun c2_1 => ?_)
  · skip
    refine wp_iconst dd_X11_isIn_14 (zr_lit rfl) ?_
    refine wp_zreturn (st := []) dd_X11_isIn_15 rfl (by omega) ?_
    refine zq_I ?_ ?_ k
    · first | rfl | omega | (rw [if_pos (by omega)]) | (rw [if_neg (by omega)])
    · rfl
  · skip
    refine wp_iload_n dd_X11_isIn_5 rfl ?_
    refine wp_iload_n dd_X11_isIn_6 rfl ?_
    refine wp_icmp_gt (tgt := 14) dd_X11_isIn_7 (by decide) (fun c7_2 => ?_) (fun c7_2 => ?_)
    · skip
      refine wp_iconst dd_X11_isIn_14 (zr_lit rfl) ?_
      refine wp_zreturn (st := []) dd_X11_isIn_15 rfl (by omega) ?_
      refine zq_I ?_ ?_ k
      · first | rfl | omega | (rw [if_pos (by omega)]) | (rw [if_neg (by omega)])
      · rfl
    · skip
      refine wp_iconst dd_X11_isIn_10 (zr_lit rfl) ?_
      refine wp_goto (tgt := 15) dd_X11_isIn_11 (by decide) ?_
      refine wp_zreturn (st := []) dd_X11_isIn_15 rfl (by omega) ?_
      refine zq_I ?_ ?_ k
      · first | rfl | omega | (rw [if_pos (by omega)]) | (rw [if_neg (by omega)])
      · rfl

set_option maxRecDepth 100000 in
set_option maxHeartbeats 4000000 in
theorem sp_X11_rest {l : Launch} {L : Nat} {mem : zMem} {Q : zQ}  (v : Int) (hp : zPr (mem 67 1)) (k : Q (some (zI (v % mem 67 1))) (zS L) mem) : zw_Ok l mm_X11_rest [zR 67, zI v] (zS L) mem Q := by
  refine zw_okA (fun hA => ?_)
  have rg_v : -2147483648 ≤ v ∧ v < 2147483648 := hA.2.1
  refine zw_enter (by decide) (Nat.le_of_ble_eq_true rfl) rfl ?_
  show zw_Wp l mm_X11_rest (zS L) 0 [some (zR 67), some (zI v)] [] mem 0 0 Q
  have hpr := hp.rg
  have t1 := Int.lt_tmod_of_pos v (show 0 < mem 67 1 by omega)
  have t2 := Int.tmod_lt_of_pos v (show 0 < mem 67 1 by omega)
  refine wp_iload_n dd_X11_rest_0 rfl ?_
  refine wp_aload_n dd_X11_rest_1 rfl ?_
  refine wp_getZ 1 rfl dd_X11_rest_2 gf_X11_9 rfl kk_67 (by decide) (zlt rfl) ?_
  refine wp_irem dd_X11_rest_5 (by omega) ?_
  refine wp_aload_n dd_X11_rest_6 rfl ?_
  refine wp_getZ 1 rfl dd_X11_rest_7 gf_X11_9 rfl kk_67 (by decide) (zlt rfl) ?_
  refine wp_iaddC dd_X11_rest_10 (by omega) ?_
  refine wp_aload_n dd_X11_rest_11 rfl ?_
  refine wp_getZ 1 rfl dd_X11_rest_12 gf_X11_9 rfl kk_67 (by decide) (zlt rfl) ?_
  refine wp_iremP dd_X11_rest_15 (by omega) (by omega) ?_
  refine wp_ireturn (st := []) dd_X11_rest_16 rfl ?_
  refine zq_I ?_ ?_ k
  · exact zre_eq (by omega)
  · rfl

set_option maxRecDepth 100000 in
set_option maxHeartbeats 4000000 in
theorem sp_X11_power {l : Launch} {L : Nat} {mem : zMem} {Q : zQ}  (v : Int) (n : Int) (hp : zPr (mem 67 1)) (hn : 0 ≤ n ∧ n ≤ 31) (k : Q (some (zI (v ^ n.toNat % mem 67 1))) (zS L) mem) : zw_Ok l mm_X11_power [zR 67, zI v, zI n] (zS L) mem Q := by
  refine zw_okA (fun hA => ?_)
  have rg_v : -2147483648 ≤ v ∧ v < 2147483648 := hA.2.1
  have rg_n : -2147483648 ≤ n ∧ n < 2147483648 := hA.2.2.1
  refine zw_enter (by decide) (Nat.le_of_ble_eq_true rfl) rfl ?_
  show zw_Wp l mm_X11_power (zS L) 0 [some (zR 67), some (zI v), some (zI n), none, none] [] mem 0 0 Q
  have hpr := hp.rg
  refine wp_iconst dd_X11_power_0 (zr_lit rfl) ?_
  refine wp_aload_n dd_X11_power_1 rfl ?_
  refine wp_getZ 1 rfl dd_X11_power_2 gf_X11_9 rfl kk_67 (by decide) (zlt rfl) ?_
  refine wp_iremP dd_X11_power_5 (by omega) (by omega) ?_
  refine wp_istore_n (ls2 := [some (zR 67), some (zI v), some (zI n), some (zI (1 % (mem 67 1))), none]) dd_X11_power_6 rfl (by decide) rfl ?_
  refine wp_iconst dd_X11_power_7 (zr_lit rfl) ?_
  refine wp_istore (ls2 := [some (zR 67), some (zI v), some (zI n), some (zI (1 % (mem 67 1))), some (zI 0)]) dd_X11_power_8 rfl (by decide) rfl ?_
  have lp10 : ∀ (nf : Nat) (w : Int) (i : Int), (0 ≤ i) → (i ≤ n) → (w = v ^ i.toNat % mem 67 1) → (n - i) < (nf : Int) → zw_Wp l mm_X11_power (zS L) 10 [some (zR 67), some (zI v), some (zI n), some (zI w), some (zI i)] [] mem 0 0 Q := by
    intro nf
    induction nf with
    | zero =>
      intro w i h0 h1 h2 hmu
      exfalso; omega
    | succ nf ih10 =>
      intro w i h0 h1 h2 hmu
      have hw : 0 ≤ w ∧ w < mem 67 1 := by rw [h2]; exact zm_rg (by omega)
      have hvm := zm_rg (a := v) (p := mem 67 1) (by omega)
      have hwb := zmul_rg (a := w) (b := v % mem 67 1) (A := 31) (B := 31) (by omega) (by omega) (by omega) (by omega)
      refine wp_iload dd_X11_power_10 rfl ?_
      refine wp_iload_n dd_X11_power_12 rfl ?_
      refine wp_icmp_ge (tgt := 35) dd_X11_power_13 (by decide) (fun c13_1 => ?_) (fun c13_1 => ?_)
      · skip
        refine wp_iload_n dd_X11_power_35 rfl ?_
        refine wp_ireturn (st := []) dd_X11_power_36 rfl ?_
        refine zq_I ?_ ?_ k
        · rw [h2, show i = n by omega]
        · rfl
      · skip
        refine wp_iload_n dd_X11_power_16 rfl ?_
        refine wp_aload_n dd_X11_power_17 rfl ?_
        refine wp_iload_n dd_X11_power_18 rfl ?_
        refine wp_callV (M' := mm_X11_rest) (As := [zI v]) (rest := [zI w]) dd_X11_power_19 lk_X11_13 mV_X11_rest kk_67 (zlt rfl) ⟨_, _, rfl⟩ rfl (by decide) (by decide) (Nat.le_of_ble_eq_true rfl) rfl (sp_X11_rest  v (by first | assumption | omega) ?_)
        show zw_Wp l mm_X11_power (zS L) 22 [some (zR 67), some (zI v), some (zI n), some (zI w), some (zI i)] [zI (v % mem 67 1), zI w] mem 0 0 Q
        refine wp_imulC dd_X11_power_22 (by omega) ?_
        refine wp_aload_n dd_X11_power_23 rfl ?_
        refine wp_getZ 1 rfl dd_X11_power_24 gf_X11_9 rfl kk_67 (by decide) (zlt rfl) ?_
        refine wp_iremP dd_X11_power_27 (by omega) (by omega) ?_
        refine wp_istore_n (ls2 := [some (zR 67), some (zI v), some (zI n), some (zI ((w * (v % mem 67 1)) % (mem 67 1))), some (zI i)]) dd_X11_power_28 rfl (by decide) rfl ?_
        refine wp_iincC (ls2 := [some (zR 67), some (zI v), some (zI n), some (zI ((w * (v % mem 67 1)) % (mem 67 1))), some (zI (i + 1))]) dd_X11_power_29 rfl rfl (by decide) (by omega) rfl ?_
        refine wp_goto (tgt := 10) dd_X11_power_32 (by decide) ?_
        refine ih10 ((w * (v % mem 67 1)) % (mem 67 1)) (i + 1) ?_ ?_ ?_ ?_
        · first | omega | assumption | (intros; omega)
        · first | omega | assumption | (intros; omega)
        · rw [show (i + 1).toNat = i.toNat + 1 by omega, ← zp_pow, ← h2]
        · omega
  refine lp10 ((n - 0 : Int)).toNat.succ (1 % (mem 67 1)) 0 ?_ ?_ ?_ ?_
  · first | omega | assumption | (intros; omega)
  · first | omega | assumption | (intros; omega)
  · show (1 : Int) % mem 67 1 = v ^ 0 % mem 67 1; rw [Int.pow_zero]
  · omega

set_option maxRecDepth 100000 in
set_option maxHeartbeats 4000000 in
theorem sp_X11_inverse {l : Launch} {L : Nat} {mem : zMem} {Q : zQ}  (v : Int) (hp : zPr (mem 67 1)) (k : Q (some (zI (zinv v (mem 67 1)))) (zS L) mem) : zw_Ok l mm_X11_inverse [zR 67, zI v] (zS L) mem Q := by
  refine zw_okA (fun hA => ?_)
  have rg_v : -2147483648 ≤ v ∧ v < 2147483648 := hA.2.1
  refine zw_enter (by decide) (Nat.le_of_ble_eq_true rfl) rfl ?_
  show zw_Wp l mm_X11_inverse (zS L) 0 [some (zR 67), some (zI v)] [] mem 0 0 Q
  have hpr := hp.rg
  refine wp_aload_n dd_X11_inverse_0 rfl ?_
  refine wp_iload_n dd_X11_inverse_1 rfl ?_
  refine wp_aload_n dd_X11_inverse_2 rfl ?_
  refine wp_getZ 1 rfl dd_X11_inverse_3 gf_X11_9 rfl kk_67 (by decide) (zlt rfl) ?_
  refine wp_iconst dd_X11_inverse_6 (zr_lit rfl) ?_
  refine wp_isubC dd_X11_inverse_7 (by omega) ?_
  refine wp_callV (M' := mm_X11_power) (As := [zI v, zI ((mem 67 1) - 2)]) (rest := []) dd_X11_inverse_8 lk_X11_17 mV_X11_power kk_67 (zlt rfl) ⟨_, _, rfl⟩ rfl (by decide) (by decide) (Nat.le_of_ble_eq_true rfl) rfl (sp_X11_power  v ((mem 67 1) - 2) (by first | assumption | omega) (by first | assumption | omega) ?_)
  show zw_Wp l mm_X11_inverse (zS L) 11 [some (zR 67), some (zI v)] [zI (v ^ ((mem 67 1) - 2).toNat % mem 67 1)] mem 0 0 Q
  refine wp_ireturn (st := []) dd_X11_inverse_11 rfl ?_
  refine zq_I ?_ ?_ k
  · first | rfl | omega | (rw [if_pos (by omega)]) | (rw [if_neg (by omega)])
  · rfl

set_option maxRecDepth 100000 in
set_option maxHeartbeats 4000000 in
theorem sp_X11_isPrime {l : Launch} {L : Nat} {mem : zMem} {Q : zQ}  (n : Int)  (k : ∀ (r : Int), ((r = 1 ∧ zPr n) ∨ (r = 0 ∧ ¬ zPr n)) → Q (some (zI r)) (zS L) mem) : zw_Ok l mm_X11_isPrime [zI n] (zS L) mem Q := by
  refine zw_okA (fun hA => ?_)
  have rg_n : -2147483648 ≤ n ∧ n < 2147483648 := hA.1
  refine zw_enter (by decide) (Nat.le_of_ble_eq_true rfl) rfl ?_
  show zw_Wp l mm_X11_isPrime (zS L) 0 [some (zI n), none, none] [] mem 0 0 Q
  refine wp_iload_n dd_X11_isPrime_0 rfl ?_
  refine wp_iconst dd_X11_isPrime_1 (zr_lit rfl) ?_
  refine wp_bipush dd_X11_isPrime_2 (by decide) ?_
  refine wp_callS (M' := mm_X11_isIn) (As := [zI n, zI 2, zI 31]) (rest := []) dd_X11_isPrime_4 lk_X11_21 mS_X11_isIn rfl (by decide) (by decide) (Nat.le_of_ble_eq_true rfl) rfl (sp_X11_isIn  n 2 31  ?_)
  show zw_Wp l mm_X11_isPrime (zS L) 7 [some (zI n), none, none] [zI (if 2 ≤ n ∧ n ≤ 31 then 1 else 0)] mem 0 0 Q
  refine wp_istore_n (ls2 := [some (zI n), some (zI (if 2 ≤ n ∧ n ≤ 31 then 1 else 0)), none]) dd_X11_isPrime_7 rfl (by decide) rfl ?_
  refine wp_iconst dd_X11_isPrime_8 (zr_lit rfl) ?_
  refine wp_istore_n (ls2 := [some (zI n), some (zI (if 2 ≤ n ∧ n ≤ 31 then 1 else 0)), some (zI 2)]) dd_X11_isPrime_9 rfl (by decide) rfl ?_
  have lp10 : ∀ (nf : Nat) (b : Int) (i : Int), (2 ≤ i) → (i ≤ 32) → (b = 0 ∨ b = 1) → (b = 1 → (2 ≤ n ∧ n ≤ 31) ∧ i ≤ n ∧ ∀ d : Int, 2 ≤ d → d < i → n % d ≠ 0) → (b = 0 → ¬ zPr n) → (33 - i) < (nf : Int) → zw_Wp l mm_X11_isPrime (zS L) 10 [some (zI n), some (zI b), some (zI i)] [] mem 0 0 Q := by
    intro nf
    induction nf with
    | zero =>
      intro b i h0 hi h1 h2 h3 hmu
      exfalso; omega
    | succ nf ih10 =>
      intro b i h0 hi h1 h2 h3 hmu
      have hb2 : b = 1 → i ≤ 31 := fun q => by have := h2 q; omega
      have hb3 : 2 ≤ n ∧ n ≤ 31 ∨ b = 0 := by rcases h1 with h1 | h1; exact Or.inr h1; exact Or.inl (h2 h1).1
      refine wp_iload_n dd_X11_isPrime_10 rfl ?_
      refine wp_if_eq (tgt := 37) dd_X11_isPrime_11 (by decide) (fun c11_1 => ?_) (fun c11_1 => ?_)
      · skip
        refine wp_iload_n dd_X11_isPrime_37 rfl ?_
        refine wp_zreturn (st := []) dd_X11_isPrime_38 rfl (by omega) ?_
        first
        | exact k _ (Or.inr ⟨by omega, h3 (by omega)⟩)
        | (obtain ⟨g1, g2, g3⟩ := h2 (by omega); exact k _ (Or.inl ⟨by omega, (zpr_iff g1).mpr (fun d q1 q2 => g3 d q1 (by omega))⟩))
      · skip
        refine wp_iload_n dd_X11_isPrime_14 rfl ?_
        refine wp_iload_n dd_X11_isPrime_15 rfl ?_
        refine wp_icmp_ge (tgt := 37) dd_X11_isPrime_16 (by decide) (fun c16_2 => ?_) (fun c16_2 => ?_)
        · skip
          refine wp_iload_n dd_X11_isPrime_37 rfl ?_
          refine wp_zreturn (st := []) dd_X11_isPrime_38 rfl (by omega) ?_
          first
          | exact k _ (Or.inr ⟨by omega, h3 (by omega)⟩)
          | (obtain ⟨g1, g2, g3⟩ := h2 (by omega); exact k _ (Or.inl ⟨by omega, (zpr_iff g1).mpr (fun d q1 q2 => g3 d q1 (by omega))⟩))
        · skip
          refine wp_iload_n dd_X11_isPrime_19 rfl ?_
          refine wp_iload_n dd_X11_isPrime_20 rfl ?_
          refine wp_iremP dd_X11_isPrime_21 (by omega) (by omega) ?_
          refine wp_if_eq (tgt := 29) dd_X11_isPrime_22 (by decide) (fun c22_3 => ?_) (fun c22_3 => ?_)
          · skip
            refine wp_iconst dd_X11_isPrime_29 (zr_lit rfl) ?_
            refine wp_istore_n (ls2 := [some (zI n), some (zI 0), some (zI i)]) dd_X11_isPrime_30 rfl (by decide) rfl ?_
            refine wp_iincC (ls2 := [some (zI n), some (zI 0), some (zI (i + 1))]) dd_X11_isPrime_31 rfl rfl (by decide) (by omega) rfl ?_
            refine wp_goto (tgt := 10) dd_X11_isPrime_34 (by decide) ?_
            refine ih10 0 (i + 1) ?_ ?_ ?_ ?_ ?_ ?_
            · first | omega | assumption | (intros; omega)
            · first | omega | assumption | (intros; omega)
            · first | omega | assumption | (intros; omega)
            · first
              | (intro q; omega)
              | (intro q; obtain ⟨g1, g2, g3⟩ := h2 (by omega); refine ⟨g1, by omega, fun d q1 q2 => ?_⟩; by_cases hd : d = i; · subst hd; assumption
                 · exact g3 d q1 (by omega))
            · first
              | (intro q; omega)
              | (intro q hz; obtain ⟨g1, g2, g3⟩ := h2 (by omega); exact (zpr_iff g1).mp hz i h0 (by omega) (by assumption))
            · omega
          · skip
            refine wp_iconst dd_X11_isPrime_25 (zr_lit rfl) ?_
            refine wp_goto (tgt := 30) dd_X11_isPrime_26 (by decide) ?_
            refine wp_istore_n (ls2 := [some (zI n), some (zI 1), some (zI i)]) dd_X11_isPrime_30 rfl (by decide) rfl ?_
            refine wp_iincC (ls2 := [some (zI n), some (zI 1), some (zI (i + 1))]) dd_X11_isPrime_31 rfl rfl (by decide) (by omega) rfl ?_
            refine wp_goto (tgt := 10) dd_X11_isPrime_34 (by decide) ?_
            refine ih10 1 (i + 1) ?_ ?_ ?_ ?_ ?_ ?_
            · first | omega | assumption | (intros; omega)
            · first | omega | assumption | (intros; omega)
            · first | omega | assumption | (intros; omega)
            · first
              | (intro q; omega)
              | (intro q; obtain ⟨g1, g2, g3⟩ := h2 (by omega); refine ⟨g1, by omega, fun d q1 q2 => ?_⟩; by_cases hd : d = i; · subst hd; assumption
                 · exact g3 d q1 (by omega))
            · first
              | (intro q; omega)
              | (intro q hz; obtain ⟨g1, g2, g3⟩ := h2 (by omega); exact (zpr_iff g1).mp hz i h0 (by omega) (by assumption))
            · omega
  refine lp10 ((33 - 2 : Int)).toNat.succ (if 2 ≤ n ∧ n ≤ 31 then 1 else 0) 2 ?_ ?_ ?_ ?_ ?_ ?_
  · first | omega | assumption | (intros; omega)
  · first | omega | assumption | (intros; omega)
  · split <;> omega
  · intro q
    have hn : 2 ≤ n ∧ n ≤ 31 := by
      by_cases hn : 2 ≤ n ∧ n ≤ 31
      · exact hn
      · rw [if_neg hn] at q; omega
    exact ⟨hn, hn.1, fun d q1 q2 => by omega⟩
  · intro q hz; have := hz.rg; rw [if_pos this] at q; omega
  · omega

set_option maxRecDepth 100000 in
set_option maxHeartbeats 4000000 in
theorem sp_X11_isPoly {l : Launch} {L : Nat} {mem : zMem} {Q : zQ}  (q : Int) (hn : 0 ≤ mem 67 5 ∧ mem 67 5 ≤ 6) (k : Q (some (zI (if 0 ≤ q ∧ q < mem 67 5 then 1 else 0))) (zS L) mem) : zw_Ok l mm_X11_isPoly [zR 67, zI q] (zS L) mem Q := by
  refine zw_okA (fun hA => ?_)
  have rg_q : -2147483648 ≤ q ∧ q < 2147483648 := hA.2.1
  refine zw_enter (by decide) (Nat.le_of_ble_eq_true rfl) rfl ?_
  show zw_Wp l mm_X11_isPoly (zS L) 0 [some (zR 67), some (zI q)] [] mem 0 0 Q
  refine wp_iload_n dd_X11_isPoly_0 rfl ?_
  refine wp_iconst dd_X11_isPoly_1 (zr_lit rfl) ?_
  refine wp_aload_n dd_X11_isPoly_2 rfl ?_
  refine wp_getZ 5 rfl dd_X11_isPoly_3 gf_X11_95 rfl kk_67 (by decide) (zlt rfl) ?_
  refine wp_iconst dd_X11_isPoly_6 (zr_lit rfl) ?_
  refine wp_isubC dd_X11_isPoly_7 (by omega) ?_
  refine wp_callS (M' := mm_X11_isIn) (As := [zI q, zI 0, zI ((mem 67 5) - 1)]) (rest := []) dd_X11_isPoly_8 lk_X11_21 mS_X11_isIn rfl (by decide) (by decide) (Nat.le_of_ble_eq_true rfl) rfl (sp_X11_isIn  q 0 ((mem 67 5) - 1)  ?_)
  show zw_Wp l mm_X11_isPoly (zS L) 11 [some (zR 67), some (zI q)] [zI (if 0 ≤ q ∧ q ≤ ((mem 67 5) - 1) then 1 else 0)] mem 0 0 Q
  refine wp_zreturn (st := []) dd_X11_isPoly_11 rfl (by split <;> omega) ?_
  refine zq_I ?_ ?_ k
  · first | rfl | (congr 1; apply propext; omega)
  · rfl

set_option maxRecDepth 100000 in
set_option maxHeartbeats 4000000 in
theorem sp_X11_toldOf {l : Launch} {L : Nat} {mem : zMem} {Q : zQ}  (q : Int) (i : Int) (j : Int) (hq : 0 ≤ q ∧ q ≤ 5) (hi : 0 ≤ i ∧ i ≤ 4) (hj : 0 ≤ j ∧ j ≤ 4) (k : Q (some (zI (ztd mem q (5 * i + j)))) (zS L) mem) : zw_Ok l mm_X11_toldOf [zR 67, zI q, zI i, zI j] (zS L) mem Q := by
  refine zw_okA (fun hA => ?_)
  have rg_q : -2147483648 ≤ q ∧ q < 2147483648 := hA.2.1
  have rg_i : -2147483648 ≤ i ∧ i < 2147483648 := hA.2.2.1
  have rg_j : -2147483648 ≤ j ∧ j < 2147483648 := hA.2.2.2.1
  refine zw_enter (by decide) (Nat.le_of_ble_eq_true rfl) rfl ?_
  show zw_Wp l mm_X11_toldOf (zS L) 0 [some (zR 67), some (zI q), some (zI i), some (zI j)] [] mem 0 0 Q
  refine wp_aload_n dd_X11_toldOf_0 rfl ?_
  refine wp_getR dd_X11_toldOf_1 gf_X11_31 rfl kk_67 (by decide) (zlt rfl) rr_67_2 ?_
  refine wp_bipush dd_X11_toldOf_4 (by decide) ?_
  refine wp_iload_n dd_X11_toldOf_6 rfl ?_
  refine wp_imulC dd_X11_toldOf_7 (by omega) ?_
  refine wp_iconst dd_X11_toldOf_8 (zr_lit rfl) ?_
  refine wp_iload_n dd_X11_toldOf_9 rfl ?_
  refine wp_imulC dd_X11_toldOf_10 (by omega) ?_
  refine wp_iaddC dd_X11_toldOf_11 (by omega) ?_
  refine wp_iload_n dd_X11_toldOf_12 rfl ?_
  refine wp_iaddC dd_X11_toldOf_13 (by omega) ?_
  refine wp_iald dd_X11_toldOf_14 kk_69 (zlt rfl) (by omega) (by omega) ?_
  refine wp_ireturn (st := []) dd_X11_toldOf_15 rfl ?_
  refine zq_I ?_ ?_ k
  · unfold ztd; rw [show 25 * q + 5 * i + j = 25 * q + (5 * i + j) by omega]
  · rfl

set_option maxRecDepth 100000 in
set_option maxHeartbeats 4000000 in
theorem sp_X11_evenOf {l : Launch} {L : Nat} {mem : zMem} {Q : zQ}  (q : Int) (i : Int) (j : Int) (hq : 0 ≤ q ∧ q ≤ 5) (hi : 0 ≤ i ∧ i ≤ 4) (hj : 0 ≤ j ∧ j ≤ 4) (k : Q (some (zI (zev (ztd mem q) i j))) (zS L) mem) : zw_Ok l mm_X11_evenOf [zR 67, zI q, zI i, zI j] (zS L) mem Q := by
  refine zw_okA (fun hA => ?_)
  have rg_q : -2147483648 ≤ q ∧ q < 2147483648 := hA.2.1
  have rg_i : -2147483648 ≤ i ∧ i < 2147483648 := hA.2.2.1
  have rg_j : -2147483648 ≤ j ∧ j < 2147483648 := hA.2.2.2.1
  refine zw_enter (by decide) (Nat.le_of_ble_eq_true rfl) rfl ?_
  show zw_Wp l mm_X11_evenOf (zS L) 0 [some (zR 67), some (zI q), some (zI i), some (zI j)] [] mem 0 0 Q
  refine wp_iload_n dd_X11_evenOf_0 rfl ?_
  refine wp_iconst dd_X11_evenOf_1 (zr_lit rfl) ?_
  refine wp_iremP dd_X11_evenOf_2 (by omega) (by omega) ?_
  refine wp_iconst dd_X11_evenOf_3 (zr_lit rfl) ?_
  refine wp_icmp_ne (tgt := 11) dd_X11_evenOf_4 (by decide) (fun c4_1 => ?_) (fun c4_1 => ?_)
  · skip
    refine wp_aload_n dd_X11_evenOf_11 rfl ?_
    refine wp_iload_n dd_X11_evenOf_12 rfl ?_
    refine wp_iload_n dd_X11_evenOf_13 rfl ?_
    refine wp_iload_n dd_X11_evenOf_14 rfl ?_
    refine wp_callV (M' := mm_X11_toldOf) (As := [zI q, zI i, zI j]) (rest := []) dd_X11_evenOf_15 lk_X11_98 mV_X11_toldOf kk_67 (zlt rfl) ⟨_, _, rfl⟩ rfl (by decide) (by decide) (Nat.le_of_ble_eq_true rfl) rfl (sp_X11_toldOf  q i j (by first | assumption | omega) (by first | assumption | omega) (by first | assumption | omega) ?_)
    show zw_Wp l mm_X11_evenOf (zS L) 18 [some (zR 67), some (zI q), some (zI i), some (zI j)] [zI (ztd mem q (5 * i + j))] mem 0 0 Q
    refine wp_ireturn (st := []) dd_X11_evenOf_18 rfl ?_
    refine zq_I ?_ ?_ k
    · unfold zev; first | rw [if_pos (by omega)] | rw [if_neg (by omega)]
    · rfl
  · skip
    refine wp_iconst dd_X11_evenOf_7 (zr_lit rfl) ?_
    refine wp_goto (tgt := 18) dd_X11_evenOf_8 (by decide) ?_
    refine wp_ireturn (st := []) dd_X11_evenOf_18 rfl ?_
    refine zq_I ?_ ?_ k
    · unfold zev; first | rw [if_pos (by omega)] | rw [if_neg (by omega)]
    · rfl

theorem zq_a (a x t p : Int) : (a + x % p * t) % p = (a + x * t) % p := by rw [Int.add_emod, zm_mul, ← Int.add_emod]
theorem zq_v {V W B f t p v b2 : Int} (hv : v = (V + W % p * B % p * t) % p) : v = (V + W * B * t) % p := by rw [hv, zq_a, Int.add_emod, Int.mul_assoc, zm_mul, ← Int.add_emod, ← Int.mul_assoc]
theorem zq_s {v V x p : Int} (h : v = V % p) : (v + x) % p = (V + x) % p := by rw [h, Int.emod_add_emod]
theorem zq_w (W B t p : Int) (b : Int) (hb : b = B % p) : (W % p * b % p * t) % p = (W * B * t) % p := by rw [hb, zm_mul, Int.mul_assoc, zm_mul, Int.mul_left_comm, Int.mul_assoc, zm_mul, Int.mul_left_comm]
theorem zq_st {v V W B t p b : Int} (hv : v = V % p) (hb : b = B % p) : (v + W % p * b % p * t) % p = (V + W * B * t) % p := by
  rw [hv, Int.emod_add_emod, Int.add_emod, zq_w W B t p b hb, ← Int.add_emod]
theorem zq_by {b B f p : Int} (hb : b = B % p) : b * (f % p) % p = B * f % p := by rw [hb, zm_mul, zm_mul2]
set_option maxRecDepth 100000 in
set_option maxHeartbeats 4000000 in
theorem sp_X11_shiftedOf_0 {l : Launch} {L : Nat} {mem : zMem} {Q : zQ}  (q : Int) (j : Int) (hp : zPr (mem 67 1)) (hT : zT mem q) (hj : 0 ≤ j ∧ j ≤ 4) (k : Q (some (zI (zsf (mem 71 q) (mem 67 1) (fun k => ztd mem q (5 * k + j)) 0))) (zS L) mem) : zw_Ok l mm_X11_shiftedOf [zR 67, zI q, zI 0, zI j] (zS L) mem Q := by
  refine zw_okA (fun hA => ?_)
  have rg_q : -2147483648 ≤ q ∧ q < 2147483648 := hA.2.1
  have rg_j : -2147483648 ≤ j ∧ j < 2147483648 := hA.2.2.2.1
  refine zw_enter (by decide) (Nat.le_of_ble_eq_true rfl) rfl ?_
  show zw_Wp l mm_X11_shiftedOf (zS L) 0 [some (zR 67), some (zI q), some (zI 0), some (zI j), none, none, none, none] [] mem 0 0 Q
  have hpr := hp.rg
  obtain ⟨hq, hkd, hfg, ht⟩ := hT
  have hfm := zm_rg (a := mem 71 q) (p := mem 67 1) (by omega)
  refine wp_iconst dd_X11_shiftedOf_0 (zr_lit rfl) ?_
  refine wp_istore (ls2 := [some (zR 67), some (zI q), some (zI 0), some (zI j), some (zI 0), none, none, none]) dd_X11_shiftedOf_1 rfl (by decide) rfl ?_
  refine wp_iconst dd_X11_shiftedOf_3 (zr_lit rfl) ?_
  refine wp_istore (ls2 := [some (zR 67), some (zI q), some (zI 0), some (zI j), some (zI 0), some (zI 1), none, none]) dd_X11_shiftedOf_4 rfl (by decide) rfl ?_
  refine wp_iconst dd_X11_shiftedOf_6 (zr_lit rfl) ?_
  refine wp_istore (ls2 := [some (zR 67), some (zI q), some (zI 0), some (zI j), some (zI 0), some (zI 1), some (zI 1), none]) dd_X11_shiftedOf_7 rfl (by decide) rfl ?_
  refine wp_iload_n dd_X11_shiftedOf_9 rfl ?_
  refine wp_istore (ls2 := [some (zR 67), some (zI q), some (zI 0), some (zI j), some (zI 0), some (zI 1), some (zI 1), some (zI 0)]) dd_X11_shiftedOf_10 rfl (by decide) rfl ?_
  refine wp_iload dd_X11_shiftedOf_12 rfl ?_
  refine wp_iconst dd_X11_shiftedOf_14 (zr_lit rfl) ?_
  refine wp_icmp_ge (tgt := 93) dd_X11_shiftedOf_15 (by decide) (fun c15_1 => absurd c15_1 (by decide)) (fun c15_1 => ?_)
  have hb0 : 0 ≤ 1 ∧ 1 < mem 67 1 := by first | exact zm_rg (by omega) | omega
  have hv0 : 0 ≤ 0 ∧ 0 < mem 67 1 := by first | exact zm_rg (by omega) | omega
  have hw0 := zm_rg (a := 1) (p := mem 67 1) (by omega)
  have hm0 := zmul_rg (a := 1 % mem 67 1) (b := 1) (A := 31) (B := 31) (by omega) (by omega) (by omega) (by omega)
  have hx0 := zm_rg (a := 1 % mem 67 1 * 1) (p := mem 67 1) (by omega)
  have ht0 := ht (5 * 0 + j) (by omega) (by omega)
  have hy0 := zmul_rg (a := 1 % mem 67 1 * 1 % mem 67 1) (b := ztd mem q (5 * 0 + j)) (A := 31) (B := 31) (by omega) (by omega) (by omega) (by omega)
  have hz0 := zmul_rg (a := 1) (b := mem 71 q % mem 67 1) (A := 31) (B := 31) (by omega) (by omega) (by omega) (by omega)
  refine wp_iload dd_X11_shiftedOf_18 rfl ?_
  refine wp_aload_n dd_X11_shiftedOf_20 rfl ?_
  refine wp_iload dd_X11_shiftedOf_21 rfl ?_
  refine wp_callV (M' := mm_X11_rest) (As := [zI 1]) (rest := [zI 0]) dd_X11_shiftedOf_23 lk_X11_13 mV_X11_rest kk_67 (zlt rfl) ⟨_, _, rfl⟩ rfl (by decide) (by decide) (Nat.le_of_ble_eq_true rfl) rfl (sp_X11_rest  1 (by first | assumption | omega) ?_)
  show zw_Wp l mm_X11_shiftedOf (zS L) 26 [some (zR 67), some (zI q), some (zI 0), some (zI j), some (zI 0), some (zI 1), some (zI 1), some (zI 0)] [zI (1 % mem 67 1), zI 0] mem 0 0 Q
  refine wp_iload dd_X11_shiftedOf_26 rfl ?_
  refine wp_imulC dd_X11_shiftedOf_28 (by omega) ?_
  refine wp_aload_n dd_X11_shiftedOf_29 rfl ?_
  refine wp_getZ 1 rfl dd_X11_shiftedOf_30 gf_X11_9 rfl kk_67 (by decide) (zlt rfl) ?_
  refine wp_iremP dd_X11_shiftedOf_33 (by omega) (by omega) ?_
  refine wp_aload_n dd_X11_shiftedOf_34 rfl ?_
  refine wp_iload_n dd_X11_shiftedOf_35 rfl ?_
  refine wp_iload dd_X11_shiftedOf_36 rfl ?_
  refine wp_iload_n dd_X11_shiftedOf_38 rfl ?_
  refine wp_callV (M' := mm_X11_toldOf) (As := [zI q, zI 0, zI j]) (rest := [zI (((1 % mem 67 1) * 1) % (mem 67 1)), zI 0]) dd_X11_shiftedOf_39 lk_X11_98 mV_X11_toldOf kk_67 (zlt rfl) ⟨_, _, rfl⟩ rfl (by decide) (by decide) (Nat.le_of_ble_eq_true rfl) rfl (sp_X11_toldOf  q 0 j (by first | assumption | omega) (by decide) (by first | assumption | omega) ?_)
  show zw_Wp l mm_X11_shiftedOf (zS L) 42 [some (zR 67), some (zI q), some (zI 0), some (zI j), some (zI 0), some (zI 1), some (zI 1), some (zI 0)] [zI (ztd mem q (5 * 0 + j)), zI (((1 % mem 67 1) * 1) % (mem 67 1)), zI 0] mem 0 0 Q
  refine wp_imulC dd_X11_shiftedOf_42 (by omega) ?_
  refine wp_iaddC dd_X11_shiftedOf_43 (by omega) ?_
  refine wp_aload_n dd_X11_shiftedOf_44 rfl ?_
  refine wp_getZ 1 rfl dd_X11_shiftedOf_45 gf_X11_9 rfl kk_67 (by decide) (zlt rfl) ?_
  refine wp_iremP dd_X11_shiftedOf_48 (by omega) (by omega) ?_
  refine wp_istore (ls2 := [some (zR 67), some (zI q), some (zI 0), some (zI j), some (zI ((0 + ((((1 % mem 67 1) * 1) % (mem 67 1)) * (ztd mem q (5 * 0 + j)))) % (mem 67 1))), some (zI 1), some (zI 1), some (zI 0)]) dd_X11_shiftedOf_49 rfl (by decide) rfl ?_
  refine wp_iload dd_X11_shiftedOf_51 rfl ?_
  refine wp_iload dd_X11_shiftedOf_53 rfl ?_
  refine wp_iconst dd_X11_shiftedOf_55 (zr_lit rfl) ?_
  refine wp_iaddC dd_X11_shiftedOf_56 (by decide) ?_
  show zw_Wp l mm_X11_shiftedOf (zS L) 57 [some (zR 67), some (zI q), some (zI 0), some (zI j), some (zI ((0 + ((((1 % mem 67 1) * 1) % (mem 67 1)) * (ztd mem q (5 * 0 + j)))) % (mem 67 1))), some (zI 1), some (zI 1), some (zI 0)] [zI 1, zI 1] mem 0 0 Q
  refine wp_imulC dd_X11_shiftedOf_57 (by decide) ?_
  show zw_Wp l mm_X11_shiftedOf (zS L) 58 [some (zR 67), some (zI q), some (zI 0), some (zI j), some (zI ((0 + ((((1 % mem 67 1) * 1) % (mem 67 1)) * (ztd mem q (5 * 0 + j)))) % (mem 67 1))), some (zI 1), some (zI 1), some (zI 0)] [zI 1] mem 0 0 Q
  refine wp_iload dd_X11_shiftedOf_58 rfl ?_
  refine wp_iconst dd_X11_shiftedOf_60 (zr_lit rfl) ?_
  refine wp_iaddC dd_X11_shiftedOf_61 (by decide) ?_
  show zw_Wp l mm_X11_shiftedOf (zS L) 62 [some (zR 67), some (zI q), some (zI 0), some (zI j), some (zI ((0 + ((((1 % mem 67 1) * 1) % (mem 67 1)) * (ztd mem q (5 * 0 + j)))) % (mem 67 1))), some (zI 1), some (zI 1), some (zI 0)] [zI 1, zI 1] mem 0 0 Q
  refine wp_iload_n dd_X11_shiftedOf_62 rfl ?_
  refine wp_isubC dd_X11_shiftedOf_63 (by decide) ?_
  show zw_Wp l mm_X11_shiftedOf (zS L) 64 [some (zR 67), some (zI q), some (zI 0), some (zI j), some (zI ((0 + ((((1 % mem 67 1) * 1) % (mem 67 1)) * (ztd mem q (5 * 0 + j)))) % (mem 67 1))), some (zI 1), some (zI 1), some (zI 0)] [zI 1, zI 1] mem 0 0 Q
  refine wp_idivP dd_X11_shiftedOf_64 (by decide) (by decide) ?_
  show zw_Wp l mm_X11_shiftedOf (zS L) 65 [some (zR 67), some (zI q), some (zI 0), some (zI j), some (zI ((0 + ((((1 % mem 67 1) * 1) % (mem 67 1)) * (ztd mem q (5 * 0 + j)))) % (mem 67 1))), some (zI 1), some (zI 1), some (zI 0)] [zI 1] mem 0 0 Q
  refine wp_istore (ls2 := [some (zR 67), some (zI q), some (zI 0), some (zI j), some (zI ((0 + ((((1 % mem 67 1) * 1) % (mem 67 1)) * (ztd mem q (5 * 0 + j)))) % (mem 67 1))), some (zI 1), some (zI 1), some (zI 0)]) dd_X11_shiftedOf_65 rfl (by decide) rfl ?_
  refine wp_iload dd_X11_shiftedOf_67 rfl ?_
  refine wp_aload_n dd_X11_shiftedOf_69 rfl ?_
  refine wp_aload_n dd_X11_shiftedOf_70 rfl ?_
  refine wp_getR dd_X11_shiftedOf_71 gf_X11_37 rfl kk_67 (by decide) (zlt rfl) rr_67_4 ?_
  refine wp_iload_n dd_X11_shiftedOf_74 rfl ?_
  refine wp_iald dd_X11_shiftedOf_75 kk_71 (zlt rfl) (by omega) (by omega) ?_
  refine wp_callV (M' := mm_X11_rest) (As := [zI (mem 71 q)]) (rest := [zI 1]) dd_X11_shiftedOf_76 lk_X11_13 mV_X11_rest kk_67 (zlt rfl) ⟨_, _, rfl⟩ rfl (by decide) (by decide) (Nat.le_of_ble_eq_true rfl) rfl (sp_X11_rest  (mem 71 q) (by first | assumption | omega) ?_)
  show zw_Wp l mm_X11_shiftedOf (zS L) 79 [some (zR 67), some (zI q), some (zI 0), some (zI j), some (zI ((0 + ((((1 % mem 67 1) * 1) % (mem 67 1)) * (ztd mem q (5 * 0 + j)))) % (mem 67 1))), some (zI 1), some (zI 1), some (zI 0)] [zI ((mem 71 q) % mem 67 1), zI 1] mem 0 0 Q
  refine wp_imulC dd_X11_shiftedOf_79 (by omega) ?_
  refine wp_aload_n dd_X11_shiftedOf_80 rfl ?_
  refine wp_getZ 1 rfl dd_X11_shiftedOf_81 gf_X11_9 rfl kk_67 (by decide) (zlt rfl) ?_
  refine wp_iremP dd_X11_shiftedOf_84 (by omega) (by omega) ?_
  refine wp_istore (ls2 := [some (zR 67), some (zI q), some (zI 0), some (zI j), some (zI ((0 + ((((1 % mem 67 1) * 1) % (mem 67 1)) * (ztd mem q (5 * 0 + j)))) % (mem 67 1))), some (zI 1), some (zI ((1 * ((mem 71 q) % mem 67 1)) % (mem 67 1))), some (zI 0)]) dd_X11_shiftedOf_85 rfl (by decide) rfl ?_
  refine wp_iincC (ls2 := [some (zR 67), some (zI q), some (zI 0), some (zI j), some (zI ((0 + ((((1 % mem 67 1) * 1) % (mem 67 1)) * (ztd mem q (5 * 0 + j)))) % (mem 67 1))), some (zI 1), some (zI ((1 * ((mem 71 q) % mem 67 1)) % (mem 67 1))), some (zI 1)]) dd_X11_shiftedOf_87 rfl rfl (by decide) (by omega) rfl ?_
  refine wp_goto (tgt := 12) dd_X11_shiftedOf_90 (by decide) ?_
  refine wp_iload dd_X11_shiftedOf_12 rfl ?_
  refine wp_iconst dd_X11_shiftedOf_14 (zr_lit rfl) ?_
  refine wp_icmp_ge (tgt := 93) dd_X11_shiftedOf_15 (by decide) (fun c15_2 => absurd c15_2 (by decide)) (fun c15_2 => ?_)
  have hb1 : 0 ≤ ((1 * ((mem 71 q) % mem 67 1)) % (mem 67 1)) ∧ ((1 * ((mem 71 q) % mem 67 1)) % (mem 67 1)) < mem 67 1 := by first | exact zm_rg (by omega) | omega
  have hv1 : 0 ≤ ((0 + ((((1 % mem 67 1) * 1) % (mem 67 1)) * (ztd mem q (5 * 0 + j)))) % (mem 67 1)) ∧ ((0 + ((((1 % mem 67 1) * 1) % (mem 67 1)) * (ztd mem q (5 * 0 + j)))) % (mem 67 1)) < mem 67 1 := by first | exact zm_rg (by omega) | omega
  have hw1 := zm_rg (a := 1) (p := mem 67 1) (by omega)
  have hm1 := zmul_rg (a := 1 % mem 67 1) (b := ((1 * ((mem 71 q) % mem 67 1)) % (mem 67 1))) (A := 31) (B := 31) (by omega) (by omega) (by omega) (by omega)
  have hx1 := zm_rg (a := 1 % mem 67 1 * ((1 * ((mem 71 q) % mem 67 1)) % (mem 67 1))) (p := mem 67 1) (by omega)
  have ht1 := ht (5 * 1 + j) (by omega) (by omega)
  have hy1 := zmul_rg (a := 1 % mem 67 1 * ((1 * ((mem 71 q) % mem 67 1)) % (mem 67 1)) % mem 67 1) (b := ztd mem q (5 * 1 + j)) (A := 31) (B := 31) (by omega) (by omega) (by omega) (by omega)
  have hz1 := zmul_rg (a := ((1 * ((mem 71 q) % mem 67 1)) % (mem 67 1))) (b := mem 71 q % mem 67 1) (A := 31) (B := 31) (by omega) (by omega) (by omega) (by omega)
  refine wp_iload dd_X11_shiftedOf_18 rfl ?_
  refine wp_aload_n dd_X11_shiftedOf_20 rfl ?_
  refine wp_iload dd_X11_shiftedOf_21 rfl ?_
  refine wp_callV (M' := mm_X11_rest) (As := [zI 1]) (rest := [zI ((0 + ((((1 % mem 67 1) * 1) % (mem 67 1)) * (ztd mem q (5 * 0 + j)))) % (mem 67 1))]) dd_X11_shiftedOf_23 lk_X11_13 mV_X11_rest kk_67 (zlt rfl) ⟨_, _, rfl⟩ rfl (by decide) (by decide) (Nat.le_of_ble_eq_true rfl) rfl (sp_X11_rest  1 (by first | assumption | omega) ?_)
  show zw_Wp l mm_X11_shiftedOf (zS L) 26 [some (zR 67), some (zI q), some (zI 0), some (zI j), some (zI ((0 + ((((1 % mem 67 1) * 1) % (mem 67 1)) * (ztd mem q (5 * 0 + j)))) % (mem 67 1))), some (zI 1), some (zI ((1 * ((mem 71 q) % mem 67 1)) % (mem 67 1))), some (zI 1)] [zI (1 % mem 67 1), zI ((0 + ((((1 % mem 67 1) * 1) % (mem 67 1)) * (ztd mem q (5 * 0 + j)))) % (mem 67 1))] mem 0 0 Q
  refine wp_iload dd_X11_shiftedOf_26 rfl ?_
  refine wp_imulC dd_X11_shiftedOf_28 (by omega) ?_
  refine wp_aload_n dd_X11_shiftedOf_29 rfl ?_
  refine wp_getZ 1 rfl dd_X11_shiftedOf_30 gf_X11_9 rfl kk_67 (by decide) (zlt rfl) ?_
  refine wp_iremP dd_X11_shiftedOf_33 (by omega) (by omega) ?_
  refine wp_aload_n dd_X11_shiftedOf_34 rfl ?_
  refine wp_iload_n dd_X11_shiftedOf_35 rfl ?_
  refine wp_iload dd_X11_shiftedOf_36 rfl ?_
  refine wp_iload_n dd_X11_shiftedOf_38 rfl ?_
  refine wp_callV (M' := mm_X11_toldOf) (As := [zI q, zI 1, zI j]) (rest := [zI (((1 % mem 67 1) * ((1 * ((mem 71 q) % mem 67 1)) % (mem 67 1))) % (mem 67 1)), zI ((0 + ((((1 % mem 67 1) * 1) % (mem 67 1)) * (ztd mem q (5 * 0 + j)))) % (mem 67 1))]) dd_X11_shiftedOf_39 lk_X11_98 mV_X11_toldOf kk_67 (zlt rfl) ⟨_, _, rfl⟩ rfl (by decide) (by decide) (Nat.le_of_ble_eq_true rfl) rfl (sp_X11_toldOf  q 1 j (by first | assumption | omega) (by decide) (by first | assumption | omega) ?_)
  show zw_Wp l mm_X11_shiftedOf (zS L) 42 [some (zR 67), some (zI q), some (zI 0), some (zI j), some (zI ((0 + ((((1 % mem 67 1) * 1) % (mem 67 1)) * (ztd mem q (5 * 0 + j)))) % (mem 67 1))), some (zI 1), some (zI ((1 * ((mem 71 q) % mem 67 1)) % (mem 67 1))), some (zI 1)] [zI (ztd mem q (5 * 1 + j)), zI (((1 % mem 67 1) * ((1 * ((mem 71 q) % mem 67 1)) % (mem 67 1))) % (mem 67 1)), zI ((0 + ((((1 % mem 67 1) * 1) % (mem 67 1)) * (ztd mem q (5 * 0 + j)))) % (mem 67 1))] mem 0 0 Q
  refine wp_imulC dd_X11_shiftedOf_42 (by omega) ?_
  refine wp_iaddC dd_X11_shiftedOf_43 (by omega) ?_
  refine wp_aload_n dd_X11_shiftedOf_44 rfl ?_
  refine wp_getZ 1 rfl dd_X11_shiftedOf_45 gf_X11_9 rfl kk_67 (by decide) (zlt rfl) ?_
  refine wp_iremP dd_X11_shiftedOf_48 (by omega) (by omega) ?_
  refine wp_istore (ls2 := [some (zR 67), some (zI q), some (zI 0), some (zI j), some (zI ((((0 + ((((1 % mem 67 1) * 1) % (mem 67 1)) * (ztd mem q (5 * 0 + j)))) % (mem 67 1)) + ((((1 % mem 67 1) * ((1 * ((mem 71 q) % mem 67 1)) % (mem 67 1))) % (mem 67 1)) * (ztd mem q (5 * 1 + j)))) % (mem 67 1))), some (zI 1), some (zI ((1 * ((mem 71 q) % mem 67 1)) % (mem 67 1))), some (zI 1)]) dd_X11_shiftedOf_49 rfl (by decide) rfl ?_
  refine wp_iload dd_X11_shiftedOf_51 rfl ?_
  refine wp_iload dd_X11_shiftedOf_53 rfl ?_
  refine wp_iconst dd_X11_shiftedOf_55 (zr_lit rfl) ?_
  refine wp_iaddC dd_X11_shiftedOf_56 (by decide) ?_
  show zw_Wp l mm_X11_shiftedOf (zS L) 57 [some (zR 67), some (zI q), some (zI 0), some (zI j), some (zI ((((0 + ((((1 % mem 67 1) * 1) % (mem 67 1)) * (ztd mem q (5 * 0 + j)))) % (mem 67 1)) + ((((1 % mem 67 1) * ((1 * ((mem 71 q) % mem 67 1)) % (mem 67 1))) % (mem 67 1)) * (ztd mem q (5 * 1 + j)))) % (mem 67 1))), some (zI 1), some (zI ((1 * ((mem 71 q) % mem 67 1)) % (mem 67 1))), some (zI 1)] [zI 2, zI 1] mem 0 0 Q
  refine wp_imulC dd_X11_shiftedOf_57 (by decide) ?_
  show zw_Wp l mm_X11_shiftedOf (zS L) 58 [some (zR 67), some (zI q), some (zI 0), some (zI j), some (zI ((((0 + ((((1 % mem 67 1) * 1) % (mem 67 1)) * (ztd mem q (5 * 0 + j)))) % (mem 67 1)) + ((((1 % mem 67 1) * ((1 * ((mem 71 q) % mem 67 1)) % (mem 67 1))) % (mem 67 1)) * (ztd mem q (5 * 1 + j)))) % (mem 67 1))), some (zI 1), some (zI ((1 * ((mem 71 q) % mem 67 1)) % (mem 67 1))), some (zI 1)] [zI 2] mem 0 0 Q
  refine wp_iload dd_X11_shiftedOf_58 rfl ?_
  refine wp_iconst dd_X11_shiftedOf_60 (zr_lit rfl) ?_
  refine wp_iaddC dd_X11_shiftedOf_61 (by decide) ?_
  show zw_Wp l mm_X11_shiftedOf (zS L) 62 [some (zR 67), some (zI q), some (zI 0), some (zI j), some (zI ((((0 + ((((1 % mem 67 1) * 1) % (mem 67 1)) * (ztd mem q (5 * 0 + j)))) % (mem 67 1)) + ((((1 % mem 67 1) * ((1 * ((mem 71 q) % mem 67 1)) % (mem 67 1))) % (mem 67 1)) * (ztd mem q (5 * 1 + j)))) % (mem 67 1))), some (zI 1), some (zI ((1 * ((mem 71 q) % mem 67 1)) % (mem 67 1))), some (zI 1)] [zI 2, zI 2] mem 0 0 Q
  refine wp_iload_n dd_X11_shiftedOf_62 rfl ?_
  refine wp_isubC dd_X11_shiftedOf_63 (by decide) ?_
  show zw_Wp l mm_X11_shiftedOf (zS L) 64 [some (zR 67), some (zI q), some (zI 0), some (zI j), some (zI ((((0 + ((((1 % mem 67 1) * 1) % (mem 67 1)) * (ztd mem q (5 * 0 + j)))) % (mem 67 1)) + ((((1 % mem 67 1) * ((1 * ((mem 71 q) % mem 67 1)) % (mem 67 1))) % (mem 67 1)) * (ztd mem q (5 * 1 + j)))) % (mem 67 1))), some (zI 1), some (zI ((1 * ((mem 71 q) % mem 67 1)) % (mem 67 1))), some (zI 1)] [zI 2, zI 2] mem 0 0 Q
  refine wp_idivP dd_X11_shiftedOf_64 (by decide) (by decide) ?_
  show zw_Wp l mm_X11_shiftedOf (zS L) 65 [some (zR 67), some (zI q), some (zI 0), some (zI j), some (zI ((((0 + ((((1 % mem 67 1) * 1) % (mem 67 1)) * (ztd mem q (5 * 0 + j)))) % (mem 67 1)) + ((((1 % mem 67 1) * ((1 * ((mem 71 q) % mem 67 1)) % (mem 67 1))) % (mem 67 1)) * (ztd mem q (5 * 1 + j)))) % (mem 67 1))), some (zI 1), some (zI ((1 * ((mem 71 q) % mem 67 1)) % (mem 67 1))), some (zI 1)] [zI 1] mem 0 0 Q
  refine wp_istore (ls2 := [some (zR 67), some (zI q), some (zI 0), some (zI j), some (zI ((((0 + ((((1 % mem 67 1) * 1) % (mem 67 1)) * (ztd mem q (5 * 0 + j)))) % (mem 67 1)) + ((((1 % mem 67 1) * ((1 * ((mem 71 q) % mem 67 1)) % (mem 67 1))) % (mem 67 1)) * (ztd mem q (5 * 1 + j)))) % (mem 67 1))), some (zI 1), some (zI ((1 * ((mem 71 q) % mem 67 1)) % (mem 67 1))), some (zI 1)]) dd_X11_shiftedOf_65 rfl (by decide) rfl ?_
  refine wp_iload dd_X11_shiftedOf_67 rfl ?_
  refine wp_aload_n dd_X11_shiftedOf_69 rfl ?_
  refine wp_aload_n dd_X11_shiftedOf_70 rfl ?_
  refine wp_getR dd_X11_shiftedOf_71 gf_X11_37 rfl kk_67 (by decide) (zlt rfl) rr_67_4 ?_
  refine wp_iload_n dd_X11_shiftedOf_74 rfl ?_
  refine wp_iald dd_X11_shiftedOf_75 kk_71 (zlt rfl) (by omega) (by omega) ?_
  refine wp_callV (M' := mm_X11_rest) (As := [zI (mem 71 q)]) (rest := [zI ((1 * ((mem 71 q) % mem 67 1)) % (mem 67 1))]) dd_X11_shiftedOf_76 lk_X11_13 mV_X11_rest kk_67 (zlt rfl) ⟨_, _, rfl⟩ rfl (by decide) (by decide) (Nat.le_of_ble_eq_true rfl) rfl (sp_X11_rest  (mem 71 q) (by first | assumption | omega) ?_)
  show zw_Wp l mm_X11_shiftedOf (zS L) 79 [some (zR 67), some (zI q), some (zI 0), some (zI j), some (zI ((((0 + ((((1 % mem 67 1) * 1) % (mem 67 1)) * (ztd mem q (5 * 0 + j)))) % (mem 67 1)) + ((((1 % mem 67 1) * ((1 * ((mem 71 q) % mem 67 1)) % (mem 67 1))) % (mem 67 1)) * (ztd mem q (5 * 1 + j)))) % (mem 67 1))), some (zI 1), some (zI ((1 * ((mem 71 q) % mem 67 1)) % (mem 67 1))), some (zI 1)] [zI ((mem 71 q) % mem 67 1), zI ((1 * ((mem 71 q) % mem 67 1)) % (mem 67 1))] mem 0 0 Q
  refine wp_imulC dd_X11_shiftedOf_79 (by omega) ?_
  refine wp_aload_n dd_X11_shiftedOf_80 rfl ?_
  refine wp_getZ 1 rfl dd_X11_shiftedOf_81 gf_X11_9 rfl kk_67 (by decide) (zlt rfl) ?_
  refine wp_iremP dd_X11_shiftedOf_84 (by omega) (by omega) ?_
  refine wp_istore (ls2 := [some (zR 67), some (zI q), some (zI 0), some (zI j), some (zI ((((0 + ((((1 % mem 67 1) * 1) % (mem 67 1)) * (ztd mem q (5 * 0 + j)))) % (mem 67 1)) + ((((1 % mem 67 1) * ((1 * ((mem 71 q) % mem 67 1)) % (mem 67 1))) % (mem 67 1)) * (ztd mem q (5 * 1 + j)))) % (mem 67 1))), some (zI 1), some (zI ((((1 * ((mem 71 q) % mem 67 1)) % (mem 67 1)) * ((mem 71 q) % mem 67 1)) % (mem 67 1))), some (zI 1)]) dd_X11_shiftedOf_85 rfl (by decide) rfl ?_
  refine wp_iincC (ls2 := [some (zR 67), some (zI q), some (zI 0), some (zI j), some (zI ((((0 + ((((1 % mem 67 1) * 1) % (mem 67 1)) * (ztd mem q (5 * 0 + j)))) % (mem 67 1)) + ((((1 % mem 67 1) * ((1 * ((mem 71 q) % mem 67 1)) % (mem 67 1))) % (mem 67 1)) * (ztd mem q (5 * 1 + j)))) % (mem 67 1))), some (zI 1), some (zI ((((1 * ((mem 71 q) % mem 67 1)) % (mem 67 1)) * ((mem 71 q) % mem 67 1)) % (mem 67 1))), some (zI 2)]) dd_X11_shiftedOf_87 rfl rfl (by decide) (by omega) rfl ?_
  refine wp_goto (tgt := 12) dd_X11_shiftedOf_90 (by decide) ?_
  refine wp_iload dd_X11_shiftedOf_12 rfl ?_
  refine wp_iconst dd_X11_shiftedOf_14 (zr_lit rfl) ?_
  refine wp_icmp_ge (tgt := 93) dd_X11_shiftedOf_15 (by decide) (fun c15_3 => absurd c15_3 (by decide)) (fun c15_3 => ?_)
  have hb2 : 0 ≤ ((((1 * ((mem 71 q) % mem 67 1)) % (mem 67 1)) * ((mem 71 q) % mem 67 1)) % (mem 67 1)) ∧ ((((1 * ((mem 71 q) % mem 67 1)) % (mem 67 1)) * ((mem 71 q) % mem 67 1)) % (mem 67 1)) < mem 67 1 := by first | exact zm_rg (by omega) | omega
  have hv2 : 0 ≤ ((((0 + ((((1 % mem 67 1) * 1) % (mem 67 1)) * (ztd mem q (5 * 0 + j)))) % (mem 67 1)) + ((((1 % mem 67 1) * ((1 * ((mem 71 q) % mem 67 1)) % (mem 67 1))) % (mem 67 1)) * (ztd mem q (5 * 1 + j)))) % (mem 67 1)) ∧ ((((0 + ((((1 % mem 67 1) * 1) % (mem 67 1)) * (ztd mem q (5 * 0 + j)))) % (mem 67 1)) + ((((1 % mem 67 1) * ((1 * ((mem 71 q) % mem 67 1)) % (mem 67 1))) % (mem 67 1)) * (ztd mem q (5 * 1 + j)))) % (mem 67 1)) < mem 67 1 := by first | exact zm_rg (by omega) | omega
  have hw2 := zm_rg (a := 1) (p := mem 67 1) (by omega)
  have hm2 := zmul_rg (a := 1 % mem 67 1) (b := ((((1 * ((mem 71 q) % mem 67 1)) % (mem 67 1)) * ((mem 71 q) % mem 67 1)) % (mem 67 1))) (A := 31) (B := 31) (by omega) (by omega) (by omega) (by omega)
  have hx2 := zm_rg (a := 1 % mem 67 1 * ((((1 * ((mem 71 q) % mem 67 1)) % (mem 67 1)) * ((mem 71 q) % mem 67 1)) % (mem 67 1))) (p := mem 67 1) (by omega)
  have ht2 := ht (5 * 2 + j) (by omega) (by omega)
  have hy2 := zmul_rg (a := 1 % mem 67 1 * ((((1 * ((mem 71 q) % mem 67 1)) % (mem 67 1)) * ((mem 71 q) % mem 67 1)) % (mem 67 1)) % mem 67 1) (b := ztd mem q (5 * 2 + j)) (A := 31) (B := 31) (by omega) (by omega) (by omega) (by omega)
  have hz2 := zmul_rg (a := ((((1 * ((mem 71 q) % mem 67 1)) % (mem 67 1)) * ((mem 71 q) % mem 67 1)) % (mem 67 1))) (b := mem 71 q % mem 67 1) (A := 31) (B := 31) (by omega) (by omega) (by omega) (by omega)
  refine wp_iload dd_X11_shiftedOf_18 rfl ?_
  refine wp_aload_n dd_X11_shiftedOf_20 rfl ?_
  refine wp_iload dd_X11_shiftedOf_21 rfl ?_
  refine wp_callV (M' := mm_X11_rest) (As := [zI 1]) (rest := [zI ((((0 + ((((1 % mem 67 1) * 1) % (mem 67 1)) * (ztd mem q (5 * 0 + j)))) % (mem 67 1)) + ((((1 % mem 67 1) * ((1 * ((mem 71 q) % mem 67 1)) % (mem 67 1))) % (mem 67 1)) * (ztd mem q (5 * 1 + j)))) % (mem 67 1))]) dd_X11_shiftedOf_23 lk_X11_13 mV_X11_rest kk_67 (zlt rfl) ⟨_, _, rfl⟩ rfl (by decide) (by decide) (Nat.le_of_ble_eq_true rfl) rfl (sp_X11_rest  1 (by first | assumption | omega) ?_)
  show zw_Wp l mm_X11_shiftedOf (zS L) 26 [some (zR 67), some (zI q), some (zI 0), some (zI j), some (zI ((((0 + ((((1 % mem 67 1) * 1) % (mem 67 1)) * (ztd mem q (5 * 0 + j)))) % (mem 67 1)) + ((((1 % mem 67 1) * ((1 * ((mem 71 q) % mem 67 1)) % (mem 67 1))) % (mem 67 1)) * (ztd mem q (5 * 1 + j)))) % (mem 67 1))), some (zI 1), some (zI ((((1 * ((mem 71 q) % mem 67 1)) % (mem 67 1)) * ((mem 71 q) % mem 67 1)) % (mem 67 1))), some (zI 2)] [zI (1 % mem 67 1), zI ((((0 + ((((1 % mem 67 1) * 1) % (mem 67 1)) * (ztd mem q (5 * 0 + j)))) % (mem 67 1)) + ((((1 % mem 67 1) * ((1 * ((mem 71 q) % mem 67 1)) % (mem 67 1))) % (mem 67 1)) * (ztd mem q (5 * 1 + j)))) % (mem 67 1))] mem 0 0 Q
  refine wp_iload dd_X11_shiftedOf_26 rfl ?_
  refine wp_imulC dd_X11_shiftedOf_28 (by omega) ?_
  refine wp_aload_n dd_X11_shiftedOf_29 rfl ?_
  refine wp_getZ 1 rfl dd_X11_shiftedOf_30 gf_X11_9 rfl kk_67 (by decide) (zlt rfl) ?_
  refine wp_iremP dd_X11_shiftedOf_33 (by omega) (by omega) ?_
  refine wp_aload_n dd_X11_shiftedOf_34 rfl ?_
  refine wp_iload_n dd_X11_shiftedOf_35 rfl ?_
  refine wp_iload dd_X11_shiftedOf_36 rfl ?_
  refine wp_iload_n dd_X11_shiftedOf_38 rfl ?_
  refine wp_callV (M' := mm_X11_toldOf) (As := [zI q, zI 2, zI j]) (rest := [zI (((1 % mem 67 1) * ((((1 * ((mem 71 q) % mem 67 1)) % (mem 67 1)) * ((mem 71 q) % mem 67 1)) % (mem 67 1))) % (mem 67 1)), zI ((((0 + ((((1 % mem 67 1) * 1) % (mem 67 1)) * (ztd mem q (5 * 0 + j)))) % (mem 67 1)) + ((((1 % mem 67 1) * ((1 * ((mem 71 q) % mem 67 1)) % (mem 67 1))) % (mem 67 1)) * (ztd mem q (5 * 1 + j)))) % (mem 67 1))]) dd_X11_shiftedOf_39 lk_X11_98 mV_X11_toldOf kk_67 (zlt rfl) ⟨_, _, rfl⟩ rfl (by decide) (by decide) (Nat.le_of_ble_eq_true rfl) rfl (sp_X11_toldOf  q 2 j (by first | assumption | omega) (by decide) (by first | assumption | omega) ?_)
  show zw_Wp l mm_X11_shiftedOf (zS L) 42 [some (zR 67), some (zI q), some (zI 0), some (zI j), some (zI ((((0 + ((((1 % mem 67 1) * 1) % (mem 67 1)) * (ztd mem q (5 * 0 + j)))) % (mem 67 1)) + ((((1 % mem 67 1) * ((1 * ((mem 71 q) % mem 67 1)) % (mem 67 1))) % (mem 67 1)) * (ztd mem q (5 * 1 + j)))) % (mem 67 1))), some (zI 1), some (zI ((((1 * ((mem 71 q) % mem 67 1)) % (mem 67 1)) * ((mem 71 q) % mem 67 1)) % (mem 67 1))), some (zI 2)] [zI (ztd mem q (5 * 2 + j)), zI (((1 % mem 67 1) * ((((1 * ((mem 71 q) % mem 67 1)) % (mem 67 1)) * ((mem 71 q) % mem 67 1)) % (mem 67 1))) % (mem 67 1)), zI ((((0 + ((((1 % mem 67 1) * 1) % (mem 67 1)) * (ztd mem q (5 * 0 + j)))) % (mem 67 1)) + ((((1 % mem 67 1) * ((1 * ((mem 71 q) % mem 67 1)) % (mem 67 1))) % (mem 67 1)) * (ztd mem q (5 * 1 + j)))) % (mem 67 1))] mem 0 0 Q
  refine wp_imulC dd_X11_shiftedOf_42 (by omega) ?_
  refine wp_iaddC dd_X11_shiftedOf_43 (by omega) ?_
  refine wp_aload_n dd_X11_shiftedOf_44 rfl ?_
  refine wp_getZ 1 rfl dd_X11_shiftedOf_45 gf_X11_9 rfl kk_67 (by decide) (zlt rfl) ?_
  refine wp_iremP dd_X11_shiftedOf_48 (by omega) (by omega) ?_
  refine wp_istore (ls2 := [some (zR 67), some (zI q), some (zI 0), some (zI j), some (zI ((((((0 + ((((1 % mem 67 1) * 1) % (mem 67 1)) * (ztd mem q (5 * 0 + j)))) % (mem 67 1)) + ((((1 % mem 67 1) * ((1 * ((mem 71 q) % mem 67 1)) % (mem 67 1))) % (mem 67 1)) * (ztd mem q (5 * 1 + j)))) % (mem 67 1)) + ((((1 % mem 67 1) * ((((1 * ((mem 71 q) % mem 67 1)) % (mem 67 1)) * ((mem 71 q) % mem 67 1)) % (mem 67 1))) % (mem 67 1)) * (ztd mem q (5 * 2 + j)))) % (mem 67 1))), some (zI 1), some (zI ((((1 * ((mem 71 q) % mem 67 1)) % (mem 67 1)) * ((mem 71 q) % mem 67 1)) % (mem 67 1))), some (zI 2)]) dd_X11_shiftedOf_49 rfl (by decide) rfl ?_
  refine wp_iload dd_X11_shiftedOf_51 rfl ?_
  refine wp_iload dd_X11_shiftedOf_53 rfl ?_
  refine wp_iconst dd_X11_shiftedOf_55 (zr_lit rfl) ?_
  refine wp_iaddC dd_X11_shiftedOf_56 (by decide) ?_
  show zw_Wp l mm_X11_shiftedOf (zS L) 57 [some (zR 67), some (zI q), some (zI 0), some (zI j), some (zI ((((((0 + ((((1 % mem 67 1) * 1) % (mem 67 1)) * (ztd mem q (5 * 0 + j)))) % (mem 67 1)) + ((((1 % mem 67 1) * ((1 * ((mem 71 q) % mem 67 1)) % (mem 67 1))) % (mem 67 1)) * (ztd mem q (5 * 1 + j)))) % (mem 67 1)) + ((((1 % mem 67 1) * ((((1 * ((mem 71 q) % mem 67 1)) % (mem 67 1)) * ((mem 71 q) % mem 67 1)) % (mem 67 1))) % (mem 67 1)) * (ztd mem q (5 * 2 + j)))) % (mem 67 1))), some (zI 1), some (zI ((((1 * ((mem 71 q) % mem 67 1)) % (mem 67 1)) * ((mem 71 q) % mem 67 1)) % (mem 67 1))), some (zI 2)] [zI 3, zI 1] mem 0 0 Q
  refine wp_imulC dd_X11_shiftedOf_57 (by decide) ?_
  show zw_Wp l mm_X11_shiftedOf (zS L) 58 [some (zR 67), some (zI q), some (zI 0), some (zI j), some (zI ((((((0 + ((((1 % mem 67 1) * 1) % (mem 67 1)) * (ztd mem q (5 * 0 + j)))) % (mem 67 1)) + ((((1 % mem 67 1) * ((1 * ((mem 71 q) % mem 67 1)) % (mem 67 1))) % (mem 67 1)) * (ztd mem q (5 * 1 + j)))) % (mem 67 1)) + ((((1 % mem 67 1) * ((((1 * ((mem 71 q) % mem 67 1)) % (mem 67 1)) * ((mem 71 q) % mem 67 1)) % (mem 67 1))) % (mem 67 1)) * (ztd mem q (5 * 2 + j)))) % (mem 67 1))), some (zI 1), some (zI ((((1 * ((mem 71 q) % mem 67 1)) % (mem 67 1)) * ((mem 71 q) % mem 67 1)) % (mem 67 1))), some (zI 2)] [zI 3] mem 0 0 Q
  refine wp_iload dd_X11_shiftedOf_58 rfl ?_
  refine wp_iconst dd_X11_shiftedOf_60 (zr_lit rfl) ?_
  refine wp_iaddC dd_X11_shiftedOf_61 (by decide) ?_
  show zw_Wp l mm_X11_shiftedOf (zS L) 62 [some (zR 67), some (zI q), some (zI 0), some (zI j), some (zI ((((((0 + ((((1 % mem 67 1) * 1) % (mem 67 1)) * (ztd mem q (5 * 0 + j)))) % (mem 67 1)) + ((((1 % mem 67 1) * ((1 * ((mem 71 q) % mem 67 1)) % (mem 67 1))) % (mem 67 1)) * (ztd mem q (5 * 1 + j)))) % (mem 67 1)) + ((((1 % mem 67 1) * ((((1 * ((mem 71 q) % mem 67 1)) % (mem 67 1)) * ((mem 71 q) % mem 67 1)) % (mem 67 1))) % (mem 67 1)) * (ztd mem q (5 * 2 + j)))) % (mem 67 1))), some (zI 1), some (zI ((((1 * ((mem 71 q) % mem 67 1)) % (mem 67 1)) * ((mem 71 q) % mem 67 1)) % (mem 67 1))), some (zI 2)] [zI 3, zI 3] mem 0 0 Q
  refine wp_iload_n dd_X11_shiftedOf_62 rfl ?_
  refine wp_isubC dd_X11_shiftedOf_63 (by decide) ?_
  show zw_Wp l mm_X11_shiftedOf (zS L) 64 [some (zR 67), some (zI q), some (zI 0), some (zI j), some (zI ((((((0 + ((((1 % mem 67 1) * 1) % (mem 67 1)) * (ztd mem q (5 * 0 + j)))) % (mem 67 1)) + ((((1 % mem 67 1) * ((1 * ((mem 71 q) % mem 67 1)) % (mem 67 1))) % (mem 67 1)) * (ztd mem q (5 * 1 + j)))) % (mem 67 1)) + ((((1 % mem 67 1) * ((((1 * ((mem 71 q) % mem 67 1)) % (mem 67 1)) * ((mem 71 q) % mem 67 1)) % (mem 67 1))) % (mem 67 1)) * (ztd mem q (5 * 2 + j)))) % (mem 67 1))), some (zI 1), some (zI ((((1 * ((mem 71 q) % mem 67 1)) % (mem 67 1)) * ((mem 71 q) % mem 67 1)) % (mem 67 1))), some (zI 2)] [zI 3, zI 3] mem 0 0 Q
  refine wp_idivP dd_X11_shiftedOf_64 (by decide) (by decide) ?_
  show zw_Wp l mm_X11_shiftedOf (zS L) 65 [some (zR 67), some (zI q), some (zI 0), some (zI j), some (zI ((((((0 + ((((1 % mem 67 1) * 1) % (mem 67 1)) * (ztd mem q (5 * 0 + j)))) % (mem 67 1)) + ((((1 % mem 67 1) * ((1 * ((mem 71 q) % mem 67 1)) % (mem 67 1))) % (mem 67 1)) * (ztd mem q (5 * 1 + j)))) % (mem 67 1)) + ((((1 % mem 67 1) * ((((1 * ((mem 71 q) % mem 67 1)) % (mem 67 1)) * ((mem 71 q) % mem 67 1)) % (mem 67 1))) % (mem 67 1)) * (ztd mem q (5 * 2 + j)))) % (mem 67 1))), some (zI 1), some (zI ((((1 * ((mem 71 q) % mem 67 1)) % (mem 67 1)) * ((mem 71 q) % mem 67 1)) % (mem 67 1))), some (zI 2)] [zI 1] mem 0 0 Q
  refine wp_istore (ls2 := [some (zR 67), some (zI q), some (zI 0), some (zI j), some (zI ((((((0 + ((((1 % mem 67 1) * 1) % (mem 67 1)) * (ztd mem q (5 * 0 + j)))) % (mem 67 1)) + ((((1 % mem 67 1) * ((1 * ((mem 71 q) % mem 67 1)) % (mem 67 1))) % (mem 67 1)) * (ztd mem q (5 * 1 + j)))) % (mem 67 1)) + ((((1 % mem 67 1) * ((((1 * ((mem 71 q) % mem 67 1)) % (mem 67 1)) * ((mem 71 q) % mem 67 1)) % (mem 67 1))) % (mem 67 1)) * (ztd mem q (5 * 2 + j)))) % (mem 67 1))), some (zI 1), some (zI ((((1 * ((mem 71 q) % mem 67 1)) % (mem 67 1)) * ((mem 71 q) % mem 67 1)) % (mem 67 1))), some (zI 2)]) dd_X11_shiftedOf_65 rfl (by decide) rfl ?_
  refine wp_iload dd_X11_shiftedOf_67 rfl ?_
  refine wp_aload_n dd_X11_shiftedOf_69 rfl ?_
  refine wp_aload_n dd_X11_shiftedOf_70 rfl ?_
  refine wp_getR dd_X11_shiftedOf_71 gf_X11_37 rfl kk_67 (by decide) (zlt rfl) rr_67_4 ?_
  refine wp_iload_n dd_X11_shiftedOf_74 rfl ?_
  refine wp_iald dd_X11_shiftedOf_75 kk_71 (zlt rfl) (by omega) (by omega) ?_
  refine wp_callV (M' := mm_X11_rest) (As := [zI (mem 71 q)]) (rest := [zI ((((1 * ((mem 71 q) % mem 67 1)) % (mem 67 1)) * ((mem 71 q) % mem 67 1)) % (mem 67 1))]) dd_X11_shiftedOf_76 lk_X11_13 mV_X11_rest kk_67 (zlt rfl) ⟨_, _, rfl⟩ rfl (by decide) (by decide) (Nat.le_of_ble_eq_true rfl) rfl (sp_X11_rest  (mem 71 q) (by first | assumption | omega) ?_)
  show zw_Wp l mm_X11_shiftedOf (zS L) 79 [some (zR 67), some (zI q), some (zI 0), some (zI j), some (zI ((((((0 + ((((1 % mem 67 1) * 1) % (mem 67 1)) * (ztd mem q (5 * 0 + j)))) % (mem 67 1)) + ((((1 % mem 67 1) * ((1 * ((mem 71 q) % mem 67 1)) % (mem 67 1))) % (mem 67 1)) * (ztd mem q (5 * 1 + j)))) % (mem 67 1)) + ((((1 % mem 67 1) * ((((1 * ((mem 71 q) % mem 67 1)) % (mem 67 1)) * ((mem 71 q) % mem 67 1)) % (mem 67 1))) % (mem 67 1)) * (ztd mem q (5 * 2 + j)))) % (mem 67 1))), some (zI 1), some (zI ((((1 * ((mem 71 q) % mem 67 1)) % (mem 67 1)) * ((mem 71 q) % mem 67 1)) % (mem 67 1))), some (zI 2)] [zI ((mem 71 q) % mem 67 1), zI ((((1 * ((mem 71 q) % mem 67 1)) % (mem 67 1)) * ((mem 71 q) % mem 67 1)) % (mem 67 1))] mem 0 0 Q
  refine wp_imulC dd_X11_shiftedOf_79 (by omega) ?_
  refine wp_aload_n dd_X11_shiftedOf_80 rfl ?_
  refine wp_getZ 1 rfl dd_X11_shiftedOf_81 gf_X11_9 rfl kk_67 (by decide) (zlt rfl) ?_
  refine wp_iremP dd_X11_shiftedOf_84 (by omega) (by omega) ?_
  refine wp_istore (ls2 := [some (zR 67), some (zI q), some (zI 0), some (zI j), some (zI ((((((0 + ((((1 % mem 67 1) * 1) % (mem 67 1)) * (ztd mem q (5 * 0 + j)))) % (mem 67 1)) + ((((1 % mem 67 1) * ((1 * ((mem 71 q) % mem 67 1)) % (mem 67 1))) % (mem 67 1)) * (ztd mem q (5 * 1 + j)))) % (mem 67 1)) + ((((1 % mem 67 1) * ((((1 * ((mem 71 q) % mem 67 1)) % (mem 67 1)) * ((mem 71 q) % mem 67 1)) % (mem 67 1))) % (mem 67 1)) * (ztd mem q (5 * 2 + j)))) % (mem 67 1))), some (zI 1), some (zI ((((((1 * ((mem 71 q) % mem 67 1)) % (mem 67 1)) * ((mem 71 q) % mem 67 1)) % (mem 67 1)) * ((mem 71 q) % mem 67 1)) % (mem 67 1))), some (zI 2)]) dd_X11_shiftedOf_85 rfl (by decide) rfl ?_
  refine wp_iincC (ls2 := [some (zR 67), some (zI q), some (zI 0), some (zI j), some (zI ((((((0 + ((((1 % mem 67 1) * 1) % (mem 67 1)) * (ztd mem q (5 * 0 + j)))) % (mem 67 1)) + ((((1 % mem 67 1) * ((1 * ((mem 71 q) % mem 67 1)) % (mem 67 1))) % (mem 67 1)) * (ztd mem q (5 * 1 + j)))) % (mem 67 1)) + ((((1 % mem 67 1) * ((((1 * ((mem 71 q) % mem 67 1)) % (mem 67 1)) * ((mem 71 q) % mem 67 1)) % (mem 67 1))) % (mem 67 1)) * (ztd mem q (5 * 2 + j)))) % (mem 67 1))), some (zI 1), some (zI ((((((1 * ((mem 71 q) % mem 67 1)) % (mem 67 1)) * ((mem 71 q) % mem 67 1)) % (mem 67 1)) * ((mem 71 q) % mem 67 1)) % (mem 67 1))), some (zI 3)]) dd_X11_shiftedOf_87 rfl rfl (by decide) (by omega) rfl ?_
  refine wp_goto (tgt := 12) dd_X11_shiftedOf_90 (by decide) ?_
  refine wp_iload dd_X11_shiftedOf_12 rfl ?_
  refine wp_iconst dd_X11_shiftedOf_14 (zr_lit rfl) ?_
  refine wp_icmp_ge (tgt := 93) dd_X11_shiftedOf_15 (by decide) (fun c15_4 => absurd c15_4 (by decide)) (fun c15_4 => ?_)
  have hb3 : 0 ≤ ((((((1 * ((mem 71 q) % mem 67 1)) % (mem 67 1)) * ((mem 71 q) % mem 67 1)) % (mem 67 1)) * ((mem 71 q) % mem 67 1)) % (mem 67 1)) ∧ ((((((1 * ((mem 71 q) % mem 67 1)) % (mem 67 1)) * ((mem 71 q) % mem 67 1)) % (mem 67 1)) * ((mem 71 q) % mem 67 1)) % (mem 67 1)) < mem 67 1 := by first | exact zm_rg (by omega) | omega
  have hv3 : 0 ≤ ((((((0 + ((((1 % mem 67 1) * 1) % (mem 67 1)) * (ztd mem q (5 * 0 + j)))) % (mem 67 1)) + ((((1 % mem 67 1) * ((1 * ((mem 71 q) % mem 67 1)) % (mem 67 1))) % (mem 67 1)) * (ztd mem q (5 * 1 + j)))) % (mem 67 1)) + ((((1 % mem 67 1) * ((((1 * ((mem 71 q) % mem 67 1)) % (mem 67 1)) * ((mem 71 q) % mem 67 1)) % (mem 67 1))) % (mem 67 1)) * (ztd mem q (5 * 2 + j)))) % (mem 67 1)) ∧ ((((((0 + ((((1 % mem 67 1) * 1) % (mem 67 1)) * (ztd mem q (5 * 0 + j)))) % (mem 67 1)) + ((((1 % mem 67 1) * ((1 * ((mem 71 q) % mem 67 1)) % (mem 67 1))) % (mem 67 1)) * (ztd mem q (5 * 1 + j)))) % (mem 67 1)) + ((((1 % mem 67 1) * ((((1 * ((mem 71 q) % mem 67 1)) % (mem 67 1)) * ((mem 71 q) % mem 67 1)) % (mem 67 1))) % (mem 67 1)) * (ztd mem q (5 * 2 + j)))) % (mem 67 1)) < mem 67 1 := by first | exact zm_rg (by omega) | omega
  have hw3 := zm_rg (a := 1) (p := mem 67 1) (by omega)
  have hm3 := zmul_rg (a := 1 % mem 67 1) (b := ((((((1 * ((mem 71 q) % mem 67 1)) % (mem 67 1)) * ((mem 71 q) % mem 67 1)) % (mem 67 1)) * ((mem 71 q) % mem 67 1)) % (mem 67 1))) (A := 31) (B := 31) (by omega) (by omega) (by omega) (by omega)
  have hx3 := zm_rg (a := 1 % mem 67 1 * ((((((1 * ((mem 71 q) % mem 67 1)) % (mem 67 1)) * ((mem 71 q) % mem 67 1)) % (mem 67 1)) * ((mem 71 q) % mem 67 1)) % (mem 67 1))) (p := mem 67 1) (by omega)
  have ht3 := ht (5 * 3 + j) (by omega) (by omega)
  have hy3 := zmul_rg (a := 1 % mem 67 1 * ((((((1 * ((mem 71 q) % mem 67 1)) % (mem 67 1)) * ((mem 71 q) % mem 67 1)) % (mem 67 1)) * ((mem 71 q) % mem 67 1)) % (mem 67 1)) % mem 67 1) (b := ztd mem q (5 * 3 + j)) (A := 31) (B := 31) (by omega) (by omega) (by omega) (by omega)
  have hz3 := zmul_rg (a := ((((((1 * ((mem 71 q) % mem 67 1)) % (mem 67 1)) * ((mem 71 q) % mem 67 1)) % (mem 67 1)) * ((mem 71 q) % mem 67 1)) % (mem 67 1))) (b := mem 71 q % mem 67 1) (A := 31) (B := 31) (by omega) (by omega) (by omega) (by omega)
  refine wp_iload dd_X11_shiftedOf_18 rfl ?_
  refine wp_aload_n dd_X11_shiftedOf_20 rfl ?_
  refine wp_iload dd_X11_shiftedOf_21 rfl ?_
  refine wp_callV (M' := mm_X11_rest) (As := [zI 1]) (rest := [zI ((((((0 + ((((1 % mem 67 1) * 1) % (mem 67 1)) * (ztd mem q (5 * 0 + j)))) % (mem 67 1)) + ((((1 % mem 67 1) * ((1 * ((mem 71 q) % mem 67 1)) % (mem 67 1))) % (mem 67 1)) * (ztd mem q (5 * 1 + j)))) % (mem 67 1)) + ((((1 % mem 67 1) * ((((1 * ((mem 71 q) % mem 67 1)) % (mem 67 1)) * ((mem 71 q) % mem 67 1)) % (mem 67 1))) % (mem 67 1)) * (ztd mem q (5 * 2 + j)))) % (mem 67 1))]) dd_X11_shiftedOf_23 lk_X11_13 mV_X11_rest kk_67 (zlt rfl) ⟨_, _, rfl⟩ rfl (by decide) (by decide) (Nat.le_of_ble_eq_true rfl) rfl (sp_X11_rest  1 (by first | assumption | omega) ?_)
  show zw_Wp l mm_X11_shiftedOf (zS L) 26 [some (zR 67), some (zI q), some (zI 0), some (zI j), some (zI ((((((0 + ((((1 % mem 67 1) * 1) % (mem 67 1)) * (ztd mem q (5 * 0 + j)))) % (mem 67 1)) + ((((1 % mem 67 1) * ((1 * ((mem 71 q) % mem 67 1)) % (mem 67 1))) % (mem 67 1)) * (ztd mem q (5 * 1 + j)))) % (mem 67 1)) + ((((1 % mem 67 1) * ((((1 * ((mem 71 q) % mem 67 1)) % (mem 67 1)) * ((mem 71 q) % mem 67 1)) % (mem 67 1))) % (mem 67 1)) * (ztd mem q (5 * 2 + j)))) % (mem 67 1))), some (zI 1), some (zI ((((((1 * ((mem 71 q) % mem 67 1)) % (mem 67 1)) * ((mem 71 q) % mem 67 1)) % (mem 67 1)) * ((mem 71 q) % mem 67 1)) % (mem 67 1))), some (zI 3)] [zI (1 % mem 67 1), zI ((((((0 + ((((1 % mem 67 1) * 1) % (mem 67 1)) * (ztd mem q (5 * 0 + j)))) % (mem 67 1)) + ((((1 % mem 67 1) * ((1 * ((mem 71 q) % mem 67 1)) % (mem 67 1))) % (mem 67 1)) * (ztd mem q (5 * 1 + j)))) % (mem 67 1)) + ((((1 % mem 67 1) * ((((1 * ((mem 71 q) % mem 67 1)) % (mem 67 1)) * ((mem 71 q) % mem 67 1)) % (mem 67 1))) % (mem 67 1)) * (ztd mem q (5 * 2 + j)))) % (mem 67 1))] mem 0 0 Q
  refine wp_iload dd_X11_shiftedOf_26 rfl ?_
  refine wp_imulC dd_X11_shiftedOf_28 (by omega) ?_
  refine wp_aload_n dd_X11_shiftedOf_29 rfl ?_
  refine wp_getZ 1 rfl dd_X11_shiftedOf_30 gf_X11_9 rfl kk_67 (by decide) (zlt rfl) ?_
  refine wp_iremP dd_X11_shiftedOf_33 (by omega) (by omega) ?_
  refine wp_aload_n dd_X11_shiftedOf_34 rfl ?_
  refine wp_iload_n dd_X11_shiftedOf_35 rfl ?_
  refine wp_iload dd_X11_shiftedOf_36 rfl ?_
  refine wp_iload_n dd_X11_shiftedOf_38 rfl ?_
  refine wp_callV (M' := mm_X11_toldOf) (As := [zI q, zI 3, zI j]) (rest := [zI (((1 % mem 67 1) * ((((((1 * ((mem 71 q) % mem 67 1)) % (mem 67 1)) * ((mem 71 q) % mem 67 1)) % (mem 67 1)) * ((mem 71 q) % mem 67 1)) % (mem 67 1))) % (mem 67 1)), zI ((((((0 + ((((1 % mem 67 1) * 1) % (mem 67 1)) * (ztd mem q (5 * 0 + j)))) % (mem 67 1)) + ((((1 % mem 67 1) * ((1 * ((mem 71 q) % mem 67 1)) % (mem 67 1))) % (mem 67 1)) * (ztd mem q (5 * 1 + j)))) % (mem 67 1)) + ((((1 % mem 67 1) * ((((1 * ((mem 71 q) % mem 67 1)) % (mem 67 1)) * ((mem 71 q) % mem 67 1)) % (mem 67 1))) % (mem 67 1)) * (ztd mem q (5 * 2 + j)))) % (mem 67 1))]) dd_X11_shiftedOf_39 lk_X11_98 mV_X11_toldOf kk_67 (zlt rfl) ⟨_, _, rfl⟩ rfl (by decide) (by decide) (Nat.le_of_ble_eq_true rfl) rfl (sp_X11_toldOf  q 3 j (by first | assumption | omega) (by decide) (by first | assumption | omega) ?_)
  show zw_Wp l mm_X11_shiftedOf (zS L) 42 [some (zR 67), some (zI q), some (zI 0), some (zI j), some (zI ((((((0 + ((((1 % mem 67 1) * 1) % (mem 67 1)) * (ztd mem q (5 * 0 + j)))) % (mem 67 1)) + ((((1 % mem 67 1) * ((1 * ((mem 71 q) % mem 67 1)) % (mem 67 1))) % (mem 67 1)) * (ztd mem q (5 * 1 + j)))) % (mem 67 1)) + ((((1 % mem 67 1) * ((((1 * ((mem 71 q) % mem 67 1)) % (mem 67 1)) * ((mem 71 q) % mem 67 1)) % (mem 67 1))) % (mem 67 1)) * (ztd mem q (5 * 2 + j)))) % (mem 67 1))), some (zI 1), some (zI ((((((1 * ((mem 71 q) % mem 67 1)) % (mem 67 1)) * ((mem 71 q) % mem 67 1)) % (mem 67 1)) * ((mem 71 q) % mem 67 1)) % (mem 67 1))), some (zI 3)] [zI (ztd mem q (5 * 3 + j)), zI (((1 % mem 67 1) * ((((((1 * ((mem 71 q) % mem 67 1)) % (mem 67 1)) * ((mem 71 q) % mem 67 1)) % (mem 67 1)) * ((mem 71 q) % mem 67 1)) % (mem 67 1))) % (mem 67 1)), zI ((((((0 + ((((1 % mem 67 1) * 1) % (mem 67 1)) * (ztd mem q (5 * 0 + j)))) % (mem 67 1)) + ((((1 % mem 67 1) * ((1 * ((mem 71 q) % mem 67 1)) % (mem 67 1))) % (mem 67 1)) * (ztd mem q (5 * 1 + j)))) % (mem 67 1)) + ((((1 % mem 67 1) * ((((1 * ((mem 71 q) % mem 67 1)) % (mem 67 1)) * ((mem 71 q) % mem 67 1)) % (mem 67 1))) % (mem 67 1)) * (ztd mem q (5 * 2 + j)))) % (mem 67 1))] mem 0 0 Q
  refine wp_imulC dd_X11_shiftedOf_42 (by omega) ?_
  refine wp_iaddC dd_X11_shiftedOf_43 (by omega) ?_
  refine wp_aload_n dd_X11_shiftedOf_44 rfl ?_
  refine wp_getZ 1 rfl dd_X11_shiftedOf_45 gf_X11_9 rfl kk_67 (by decide) (zlt rfl) ?_
  refine wp_iremP dd_X11_shiftedOf_48 (by omega) (by omega) ?_
  refine wp_istore (ls2 := [some (zR 67), some (zI q), some (zI 0), some (zI j), some (zI ((((((((0 + ((((1 % mem 67 1) * 1) % (mem 67 1)) * (ztd mem q (5 * 0 + j)))) % (mem 67 1)) + ((((1 % mem 67 1) * ((1 * ((mem 71 q) % mem 67 1)) % (mem 67 1))) % (mem 67 1)) * (ztd mem q (5 * 1 + j)))) % (mem 67 1)) + ((((1 % mem 67 1) * ((((1 * ((mem 71 q) % mem 67 1)) % (mem 67 1)) * ((mem 71 q) % mem 67 1)) % (mem 67 1))) % (mem 67 1)) * (ztd mem q (5 * 2 + j)))) % (mem 67 1)) + ((((1 % mem 67 1) * ((((((1 * ((mem 71 q) % mem 67 1)) % (mem 67 1)) * ((mem 71 q) % mem 67 1)) % (mem 67 1)) * ((mem 71 q) % mem 67 1)) % (mem 67 1))) % (mem 67 1)) * (ztd mem q (5 * 3 + j)))) % (mem 67 1))), some (zI 1), some (zI ((((((1 * ((mem 71 q) % mem 67 1)) % (mem 67 1)) * ((mem 71 q) % mem 67 1)) % (mem 67 1)) * ((mem 71 q) % mem 67 1)) % (mem 67 1))), some (zI 3)]) dd_X11_shiftedOf_49 rfl (by decide) rfl ?_
  refine wp_iload dd_X11_shiftedOf_51 rfl ?_
  refine wp_iload dd_X11_shiftedOf_53 rfl ?_
  refine wp_iconst dd_X11_shiftedOf_55 (zr_lit rfl) ?_
  refine wp_iaddC dd_X11_shiftedOf_56 (by decide) ?_
  show zw_Wp l mm_X11_shiftedOf (zS L) 57 [some (zR 67), some (zI q), some (zI 0), some (zI j), some (zI ((((((((0 + ((((1 % mem 67 1) * 1) % (mem 67 1)) * (ztd mem q (5 * 0 + j)))) % (mem 67 1)) + ((((1 % mem 67 1) * ((1 * ((mem 71 q) % mem 67 1)) % (mem 67 1))) % (mem 67 1)) * (ztd mem q (5 * 1 + j)))) % (mem 67 1)) + ((((1 % mem 67 1) * ((((1 * ((mem 71 q) % mem 67 1)) % (mem 67 1)) * ((mem 71 q) % mem 67 1)) % (mem 67 1))) % (mem 67 1)) * (ztd mem q (5 * 2 + j)))) % (mem 67 1)) + ((((1 % mem 67 1) * ((((((1 * ((mem 71 q) % mem 67 1)) % (mem 67 1)) * ((mem 71 q) % mem 67 1)) % (mem 67 1)) * ((mem 71 q) % mem 67 1)) % (mem 67 1))) % (mem 67 1)) * (ztd mem q (5 * 3 + j)))) % (mem 67 1))), some (zI 1), some (zI ((((((1 * ((mem 71 q) % mem 67 1)) % (mem 67 1)) * ((mem 71 q) % mem 67 1)) % (mem 67 1)) * ((mem 71 q) % mem 67 1)) % (mem 67 1))), some (zI 3)] [zI 4, zI 1] mem 0 0 Q
  refine wp_imulC dd_X11_shiftedOf_57 (by decide) ?_
  show zw_Wp l mm_X11_shiftedOf (zS L) 58 [some (zR 67), some (zI q), some (zI 0), some (zI j), some (zI ((((((((0 + ((((1 % mem 67 1) * 1) % (mem 67 1)) * (ztd mem q (5 * 0 + j)))) % (mem 67 1)) + ((((1 % mem 67 1) * ((1 * ((mem 71 q) % mem 67 1)) % (mem 67 1))) % (mem 67 1)) * (ztd mem q (5 * 1 + j)))) % (mem 67 1)) + ((((1 % mem 67 1) * ((((1 * ((mem 71 q) % mem 67 1)) % (mem 67 1)) * ((mem 71 q) % mem 67 1)) % (mem 67 1))) % (mem 67 1)) * (ztd mem q (5 * 2 + j)))) % (mem 67 1)) + ((((1 % mem 67 1) * ((((((1 * ((mem 71 q) % mem 67 1)) % (mem 67 1)) * ((mem 71 q) % mem 67 1)) % (mem 67 1)) * ((mem 71 q) % mem 67 1)) % (mem 67 1))) % (mem 67 1)) * (ztd mem q (5 * 3 + j)))) % (mem 67 1))), some (zI 1), some (zI ((((((1 * ((mem 71 q) % mem 67 1)) % (mem 67 1)) * ((mem 71 q) % mem 67 1)) % (mem 67 1)) * ((mem 71 q) % mem 67 1)) % (mem 67 1))), some (zI 3)] [zI 4] mem 0 0 Q
  refine wp_iload dd_X11_shiftedOf_58 rfl ?_
  refine wp_iconst dd_X11_shiftedOf_60 (zr_lit rfl) ?_
  refine wp_iaddC dd_X11_shiftedOf_61 (by decide) ?_
  show zw_Wp l mm_X11_shiftedOf (zS L) 62 [some (zR 67), some (zI q), some (zI 0), some (zI j), some (zI ((((((((0 + ((((1 % mem 67 1) * 1) % (mem 67 1)) * (ztd mem q (5 * 0 + j)))) % (mem 67 1)) + ((((1 % mem 67 1) * ((1 * ((mem 71 q) % mem 67 1)) % (mem 67 1))) % (mem 67 1)) * (ztd mem q (5 * 1 + j)))) % (mem 67 1)) + ((((1 % mem 67 1) * ((((1 * ((mem 71 q) % mem 67 1)) % (mem 67 1)) * ((mem 71 q) % mem 67 1)) % (mem 67 1))) % (mem 67 1)) * (ztd mem q (5 * 2 + j)))) % (mem 67 1)) + ((((1 % mem 67 1) * ((((((1 * ((mem 71 q) % mem 67 1)) % (mem 67 1)) * ((mem 71 q) % mem 67 1)) % (mem 67 1)) * ((mem 71 q) % mem 67 1)) % (mem 67 1))) % (mem 67 1)) * (ztd mem q (5 * 3 + j)))) % (mem 67 1))), some (zI 1), some (zI ((((((1 * ((mem 71 q) % mem 67 1)) % (mem 67 1)) * ((mem 71 q) % mem 67 1)) % (mem 67 1)) * ((mem 71 q) % mem 67 1)) % (mem 67 1))), some (zI 3)] [zI 4, zI 4] mem 0 0 Q
  refine wp_iload_n dd_X11_shiftedOf_62 rfl ?_
  refine wp_isubC dd_X11_shiftedOf_63 (by decide) ?_
  show zw_Wp l mm_X11_shiftedOf (zS L) 64 [some (zR 67), some (zI q), some (zI 0), some (zI j), some (zI ((((((((0 + ((((1 % mem 67 1) * 1) % (mem 67 1)) * (ztd mem q (5 * 0 + j)))) % (mem 67 1)) + ((((1 % mem 67 1) * ((1 * ((mem 71 q) % mem 67 1)) % (mem 67 1))) % (mem 67 1)) * (ztd mem q (5 * 1 + j)))) % (mem 67 1)) + ((((1 % mem 67 1) * ((((1 * ((mem 71 q) % mem 67 1)) % (mem 67 1)) * ((mem 71 q) % mem 67 1)) % (mem 67 1))) % (mem 67 1)) * (ztd mem q (5 * 2 + j)))) % (mem 67 1)) + ((((1 % mem 67 1) * ((((((1 * ((mem 71 q) % mem 67 1)) % (mem 67 1)) * ((mem 71 q) % mem 67 1)) % (mem 67 1)) * ((mem 71 q) % mem 67 1)) % (mem 67 1))) % (mem 67 1)) * (ztd mem q (5 * 3 + j)))) % (mem 67 1))), some (zI 1), some (zI ((((((1 * ((mem 71 q) % mem 67 1)) % (mem 67 1)) * ((mem 71 q) % mem 67 1)) % (mem 67 1)) * ((mem 71 q) % mem 67 1)) % (mem 67 1))), some (zI 3)] [zI 4, zI 4] mem 0 0 Q
  refine wp_idivP dd_X11_shiftedOf_64 (by decide) (by decide) ?_
  show zw_Wp l mm_X11_shiftedOf (zS L) 65 [some (zR 67), some (zI q), some (zI 0), some (zI j), some (zI ((((((((0 + ((((1 % mem 67 1) * 1) % (mem 67 1)) * (ztd mem q (5 * 0 + j)))) % (mem 67 1)) + ((((1 % mem 67 1) * ((1 * ((mem 71 q) % mem 67 1)) % (mem 67 1))) % (mem 67 1)) * (ztd mem q (5 * 1 + j)))) % (mem 67 1)) + ((((1 % mem 67 1) * ((((1 * ((mem 71 q) % mem 67 1)) % (mem 67 1)) * ((mem 71 q) % mem 67 1)) % (mem 67 1))) % (mem 67 1)) * (ztd mem q (5 * 2 + j)))) % (mem 67 1)) + ((((1 % mem 67 1) * ((((((1 * ((mem 71 q) % mem 67 1)) % (mem 67 1)) * ((mem 71 q) % mem 67 1)) % (mem 67 1)) * ((mem 71 q) % mem 67 1)) % (mem 67 1))) % (mem 67 1)) * (ztd mem q (5 * 3 + j)))) % (mem 67 1))), some (zI 1), some (zI ((((((1 * ((mem 71 q) % mem 67 1)) % (mem 67 1)) * ((mem 71 q) % mem 67 1)) % (mem 67 1)) * ((mem 71 q) % mem 67 1)) % (mem 67 1))), some (zI 3)] [zI 1] mem 0 0 Q
  refine wp_istore (ls2 := [some (zR 67), some (zI q), some (zI 0), some (zI j), some (zI ((((((((0 + ((((1 % mem 67 1) * 1) % (mem 67 1)) * (ztd mem q (5 * 0 + j)))) % (mem 67 1)) + ((((1 % mem 67 1) * ((1 * ((mem 71 q) % mem 67 1)) % (mem 67 1))) % (mem 67 1)) * (ztd mem q (5 * 1 + j)))) % (mem 67 1)) + ((((1 % mem 67 1) * ((((1 * ((mem 71 q) % mem 67 1)) % (mem 67 1)) * ((mem 71 q) % mem 67 1)) % (mem 67 1))) % (mem 67 1)) * (ztd mem q (5 * 2 + j)))) % (mem 67 1)) + ((((1 % mem 67 1) * ((((((1 * ((mem 71 q) % mem 67 1)) % (mem 67 1)) * ((mem 71 q) % mem 67 1)) % (mem 67 1)) * ((mem 71 q) % mem 67 1)) % (mem 67 1))) % (mem 67 1)) * (ztd mem q (5 * 3 + j)))) % (mem 67 1))), some (zI 1), some (zI ((((((1 * ((mem 71 q) % mem 67 1)) % (mem 67 1)) * ((mem 71 q) % mem 67 1)) % (mem 67 1)) * ((mem 71 q) % mem 67 1)) % (mem 67 1))), some (zI 3)]) dd_X11_shiftedOf_65 rfl (by decide) rfl ?_
  refine wp_iload dd_X11_shiftedOf_67 rfl ?_
  refine wp_aload_n dd_X11_shiftedOf_69 rfl ?_
  refine wp_aload_n dd_X11_shiftedOf_70 rfl ?_
  refine wp_getR dd_X11_shiftedOf_71 gf_X11_37 rfl kk_67 (by decide) (zlt rfl) rr_67_4 ?_
  refine wp_iload_n dd_X11_shiftedOf_74 rfl ?_
  refine wp_iald dd_X11_shiftedOf_75 kk_71 (zlt rfl) (by omega) (by omega) ?_
  refine wp_callV (M' := mm_X11_rest) (As := [zI (mem 71 q)]) (rest := [zI ((((((1 * ((mem 71 q) % mem 67 1)) % (mem 67 1)) * ((mem 71 q) % mem 67 1)) % (mem 67 1)) * ((mem 71 q) % mem 67 1)) % (mem 67 1))]) dd_X11_shiftedOf_76 lk_X11_13 mV_X11_rest kk_67 (zlt rfl) ⟨_, _, rfl⟩ rfl (by decide) (by decide) (Nat.le_of_ble_eq_true rfl) rfl (sp_X11_rest  (mem 71 q) (by first | assumption | omega) ?_)
  show zw_Wp l mm_X11_shiftedOf (zS L) 79 [some (zR 67), some (zI q), some (zI 0), some (zI j), some (zI ((((((((0 + ((((1 % mem 67 1) * 1) % (mem 67 1)) * (ztd mem q (5 * 0 + j)))) % (mem 67 1)) + ((((1 % mem 67 1) * ((1 * ((mem 71 q) % mem 67 1)) % (mem 67 1))) % (mem 67 1)) * (ztd mem q (5 * 1 + j)))) % (mem 67 1)) + ((((1 % mem 67 1) * ((((1 * ((mem 71 q) % mem 67 1)) % (mem 67 1)) * ((mem 71 q) % mem 67 1)) % (mem 67 1))) % (mem 67 1)) * (ztd mem q (5 * 2 + j)))) % (mem 67 1)) + ((((1 % mem 67 1) * ((((((1 * ((mem 71 q) % mem 67 1)) % (mem 67 1)) * ((mem 71 q) % mem 67 1)) % (mem 67 1)) * ((mem 71 q) % mem 67 1)) % (mem 67 1))) % (mem 67 1)) * (ztd mem q (5 * 3 + j)))) % (mem 67 1))), some (zI 1), some (zI ((((((1 * ((mem 71 q) % mem 67 1)) % (mem 67 1)) * ((mem 71 q) % mem 67 1)) % (mem 67 1)) * ((mem 71 q) % mem 67 1)) % (mem 67 1))), some (zI 3)] [zI ((mem 71 q) % mem 67 1), zI ((((((1 * ((mem 71 q) % mem 67 1)) % (mem 67 1)) * ((mem 71 q) % mem 67 1)) % (mem 67 1)) * ((mem 71 q) % mem 67 1)) % (mem 67 1))] mem 0 0 Q
  refine wp_imulC dd_X11_shiftedOf_79 (by omega) ?_
  refine wp_aload_n dd_X11_shiftedOf_80 rfl ?_
  refine wp_getZ 1 rfl dd_X11_shiftedOf_81 gf_X11_9 rfl kk_67 (by decide) (zlt rfl) ?_
  refine wp_iremP dd_X11_shiftedOf_84 (by omega) (by omega) ?_
  refine wp_istore (ls2 := [some (zR 67), some (zI q), some (zI 0), some (zI j), some (zI ((((((((0 + ((((1 % mem 67 1) * 1) % (mem 67 1)) * (ztd mem q (5 * 0 + j)))) % (mem 67 1)) + ((((1 % mem 67 1) * ((1 * ((mem 71 q) % mem 67 1)) % (mem 67 1))) % (mem 67 1)) * (ztd mem q (5 * 1 + j)))) % (mem 67 1)) + ((((1 % mem 67 1) * ((((1 * ((mem 71 q) % mem 67 1)) % (mem 67 1)) * ((mem 71 q) % mem 67 1)) % (mem 67 1))) % (mem 67 1)) * (ztd mem q (5 * 2 + j)))) % (mem 67 1)) + ((((1 % mem 67 1) * ((((((1 * ((mem 71 q) % mem 67 1)) % (mem 67 1)) * ((mem 71 q) % mem 67 1)) % (mem 67 1)) * ((mem 71 q) % mem 67 1)) % (mem 67 1))) % (mem 67 1)) * (ztd mem q (5 * 3 + j)))) % (mem 67 1))), some (zI 1), some (zI ((((((((1 * ((mem 71 q) % mem 67 1)) % (mem 67 1)) * ((mem 71 q) % mem 67 1)) % (mem 67 1)) * ((mem 71 q) % mem 67 1)) % (mem 67 1)) * ((mem 71 q) % mem 67 1)) % (mem 67 1))), some (zI 3)]) dd_X11_shiftedOf_85 rfl (by decide) rfl ?_
  refine wp_iincC (ls2 := [some (zR 67), some (zI q), some (zI 0), some (zI j), some (zI ((((((((0 + ((((1 % mem 67 1) * 1) % (mem 67 1)) * (ztd mem q (5 * 0 + j)))) % (mem 67 1)) + ((((1 % mem 67 1) * ((1 * ((mem 71 q) % mem 67 1)) % (mem 67 1))) % (mem 67 1)) * (ztd mem q (5 * 1 + j)))) % (mem 67 1)) + ((((1 % mem 67 1) * ((((1 * ((mem 71 q) % mem 67 1)) % (mem 67 1)) * ((mem 71 q) % mem 67 1)) % (mem 67 1))) % (mem 67 1)) * (ztd mem q (5 * 2 + j)))) % (mem 67 1)) + ((((1 % mem 67 1) * ((((((1 * ((mem 71 q) % mem 67 1)) % (mem 67 1)) * ((mem 71 q) % mem 67 1)) % (mem 67 1)) * ((mem 71 q) % mem 67 1)) % (mem 67 1))) % (mem 67 1)) * (ztd mem q (5 * 3 + j)))) % (mem 67 1))), some (zI 1), some (zI ((((((((1 * ((mem 71 q) % mem 67 1)) % (mem 67 1)) * ((mem 71 q) % mem 67 1)) % (mem 67 1)) * ((mem 71 q) % mem 67 1)) % (mem 67 1)) * ((mem 71 q) % mem 67 1)) % (mem 67 1))), some (zI 4)]) dd_X11_shiftedOf_87 rfl rfl (by decide) (by omega) rfl ?_
  refine wp_goto (tgt := 12) dd_X11_shiftedOf_90 (by decide) ?_
  refine wp_iload dd_X11_shiftedOf_12 rfl ?_
  refine wp_iconst dd_X11_shiftedOf_14 (zr_lit rfl) ?_
  refine wp_icmp_ge (tgt := 93) dd_X11_shiftedOf_15 (by decide) (fun c15_5 => absurd c15_5 (by decide)) (fun c15_5 => ?_)
  have hb4 : 0 ≤ ((((((((1 * ((mem 71 q) % mem 67 1)) % (mem 67 1)) * ((mem 71 q) % mem 67 1)) % (mem 67 1)) * ((mem 71 q) % mem 67 1)) % (mem 67 1)) * ((mem 71 q) % mem 67 1)) % (mem 67 1)) ∧ ((((((((1 * ((mem 71 q) % mem 67 1)) % (mem 67 1)) * ((mem 71 q) % mem 67 1)) % (mem 67 1)) * ((mem 71 q) % mem 67 1)) % (mem 67 1)) * ((mem 71 q) % mem 67 1)) % (mem 67 1)) < mem 67 1 := by first | exact zm_rg (by omega) | omega
  have hv4 : 0 ≤ ((((((((0 + ((((1 % mem 67 1) * 1) % (mem 67 1)) * (ztd mem q (5 * 0 + j)))) % (mem 67 1)) + ((((1 % mem 67 1) * ((1 * ((mem 71 q) % mem 67 1)) % (mem 67 1))) % (mem 67 1)) * (ztd mem q (5 * 1 + j)))) % (mem 67 1)) + ((((1 % mem 67 1) * ((((1 * ((mem 71 q) % mem 67 1)) % (mem 67 1)) * ((mem 71 q) % mem 67 1)) % (mem 67 1))) % (mem 67 1)) * (ztd mem q (5 * 2 + j)))) % (mem 67 1)) + ((((1 % mem 67 1) * ((((((1 * ((mem 71 q) % mem 67 1)) % (mem 67 1)) * ((mem 71 q) % mem 67 1)) % (mem 67 1)) * ((mem 71 q) % mem 67 1)) % (mem 67 1))) % (mem 67 1)) * (ztd mem q (5 * 3 + j)))) % (mem 67 1)) ∧ ((((((((0 + ((((1 % mem 67 1) * 1) % (mem 67 1)) * (ztd mem q (5 * 0 + j)))) % (mem 67 1)) + ((((1 % mem 67 1) * ((1 * ((mem 71 q) % mem 67 1)) % (mem 67 1))) % (mem 67 1)) * (ztd mem q (5 * 1 + j)))) % (mem 67 1)) + ((((1 % mem 67 1) * ((((1 * ((mem 71 q) % mem 67 1)) % (mem 67 1)) * ((mem 71 q) % mem 67 1)) % (mem 67 1))) % (mem 67 1)) * (ztd mem q (5 * 2 + j)))) % (mem 67 1)) + ((((1 % mem 67 1) * ((((((1 * ((mem 71 q) % mem 67 1)) % (mem 67 1)) * ((mem 71 q) % mem 67 1)) % (mem 67 1)) * ((mem 71 q) % mem 67 1)) % (mem 67 1))) % (mem 67 1)) * (ztd mem q (5 * 3 + j)))) % (mem 67 1)) < mem 67 1 := by first | exact zm_rg (by omega) | omega
  have hw4 := zm_rg (a := 1) (p := mem 67 1) (by omega)
  have hm4 := zmul_rg (a := 1 % mem 67 1) (b := ((((((((1 * ((mem 71 q) % mem 67 1)) % (mem 67 1)) * ((mem 71 q) % mem 67 1)) % (mem 67 1)) * ((mem 71 q) % mem 67 1)) % (mem 67 1)) * ((mem 71 q) % mem 67 1)) % (mem 67 1))) (A := 31) (B := 31) (by omega) (by omega) (by omega) (by omega)
  have hx4 := zm_rg (a := 1 % mem 67 1 * ((((((((1 * ((mem 71 q) % mem 67 1)) % (mem 67 1)) * ((mem 71 q) % mem 67 1)) % (mem 67 1)) * ((mem 71 q) % mem 67 1)) % (mem 67 1)) * ((mem 71 q) % mem 67 1)) % (mem 67 1))) (p := mem 67 1) (by omega)
  have ht4 := ht (5 * 4 + j) (by omega) (by omega)
  have hy4 := zmul_rg (a := 1 % mem 67 1 * ((((((((1 * ((mem 71 q) % mem 67 1)) % (mem 67 1)) * ((mem 71 q) % mem 67 1)) % (mem 67 1)) * ((mem 71 q) % mem 67 1)) % (mem 67 1)) * ((mem 71 q) % mem 67 1)) % (mem 67 1)) % mem 67 1) (b := ztd mem q (5 * 4 + j)) (A := 31) (B := 31) (by omega) (by omega) (by omega) (by omega)
  have hz4 := zmul_rg (a := ((((((((1 * ((mem 71 q) % mem 67 1)) % (mem 67 1)) * ((mem 71 q) % mem 67 1)) % (mem 67 1)) * ((mem 71 q) % mem 67 1)) % (mem 67 1)) * ((mem 71 q) % mem 67 1)) % (mem 67 1))) (b := mem 71 q % mem 67 1) (A := 31) (B := 31) (by omega) (by omega) (by omega) (by omega)
  refine wp_iload dd_X11_shiftedOf_18 rfl ?_
  refine wp_aload_n dd_X11_shiftedOf_20 rfl ?_
  refine wp_iload dd_X11_shiftedOf_21 rfl ?_
  refine wp_callV (M' := mm_X11_rest) (As := [zI 1]) (rest := [zI ((((((((0 + ((((1 % mem 67 1) * 1) % (mem 67 1)) * (ztd mem q (5 * 0 + j)))) % (mem 67 1)) + ((((1 % mem 67 1) * ((1 * ((mem 71 q) % mem 67 1)) % (mem 67 1))) % (mem 67 1)) * (ztd mem q (5 * 1 + j)))) % (mem 67 1)) + ((((1 % mem 67 1) * ((((1 * ((mem 71 q) % mem 67 1)) % (mem 67 1)) * ((mem 71 q) % mem 67 1)) % (mem 67 1))) % (mem 67 1)) * (ztd mem q (5 * 2 + j)))) % (mem 67 1)) + ((((1 % mem 67 1) * ((((((1 * ((mem 71 q) % mem 67 1)) % (mem 67 1)) * ((mem 71 q) % mem 67 1)) % (mem 67 1)) * ((mem 71 q) % mem 67 1)) % (mem 67 1))) % (mem 67 1)) * (ztd mem q (5 * 3 + j)))) % (mem 67 1))]) dd_X11_shiftedOf_23 lk_X11_13 mV_X11_rest kk_67 (zlt rfl) ⟨_, _, rfl⟩ rfl (by decide) (by decide) (Nat.le_of_ble_eq_true rfl) rfl (sp_X11_rest  1 (by first | assumption | omega) ?_)
  show zw_Wp l mm_X11_shiftedOf (zS L) 26 [some (zR 67), some (zI q), some (zI 0), some (zI j), some (zI ((((((((0 + ((((1 % mem 67 1) * 1) % (mem 67 1)) * (ztd mem q (5 * 0 + j)))) % (mem 67 1)) + ((((1 % mem 67 1) * ((1 * ((mem 71 q) % mem 67 1)) % (mem 67 1))) % (mem 67 1)) * (ztd mem q (5 * 1 + j)))) % (mem 67 1)) + ((((1 % mem 67 1) * ((((1 * ((mem 71 q) % mem 67 1)) % (mem 67 1)) * ((mem 71 q) % mem 67 1)) % (mem 67 1))) % (mem 67 1)) * (ztd mem q (5 * 2 + j)))) % (mem 67 1)) + ((((1 % mem 67 1) * ((((((1 * ((mem 71 q) % mem 67 1)) % (mem 67 1)) * ((mem 71 q) % mem 67 1)) % (mem 67 1)) * ((mem 71 q) % mem 67 1)) % (mem 67 1))) % (mem 67 1)) * (ztd mem q (5 * 3 + j)))) % (mem 67 1))), some (zI 1), some (zI ((((((((1 * ((mem 71 q) % mem 67 1)) % (mem 67 1)) * ((mem 71 q) % mem 67 1)) % (mem 67 1)) * ((mem 71 q) % mem 67 1)) % (mem 67 1)) * ((mem 71 q) % mem 67 1)) % (mem 67 1))), some (zI 4)] [zI (1 % mem 67 1), zI ((((((((0 + ((((1 % mem 67 1) * 1) % (mem 67 1)) * (ztd mem q (5 * 0 + j)))) % (mem 67 1)) + ((((1 % mem 67 1) * ((1 * ((mem 71 q) % mem 67 1)) % (mem 67 1))) % (mem 67 1)) * (ztd mem q (5 * 1 + j)))) % (mem 67 1)) + ((((1 % mem 67 1) * ((((1 * ((mem 71 q) % mem 67 1)) % (mem 67 1)) * ((mem 71 q) % mem 67 1)) % (mem 67 1))) % (mem 67 1)) * (ztd mem q (5 * 2 + j)))) % (mem 67 1)) + ((((1 % mem 67 1) * ((((((1 * ((mem 71 q) % mem 67 1)) % (mem 67 1)) * ((mem 71 q) % mem 67 1)) % (mem 67 1)) * ((mem 71 q) % mem 67 1)) % (mem 67 1))) % (mem 67 1)) * (ztd mem q (5 * 3 + j)))) % (mem 67 1))] mem 0 0 Q
  refine wp_iload dd_X11_shiftedOf_26 rfl ?_
  refine wp_imulC dd_X11_shiftedOf_28 (by omega) ?_
  refine wp_aload_n dd_X11_shiftedOf_29 rfl ?_
  refine wp_getZ 1 rfl dd_X11_shiftedOf_30 gf_X11_9 rfl kk_67 (by decide) (zlt rfl) ?_
  refine wp_iremP dd_X11_shiftedOf_33 (by omega) (by omega) ?_
  refine wp_aload_n dd_X11_shiftedOf_34 rfl ?_
  refine wp_iload_n dd_X11_shiftedOf_35 rfl ?_
  refine wp_iload dd_X11_shiftedOf_36 rfl ?_
  refine wp_iload_n dd_X11_shiftedOf_38 rfl ?_
  refine wp_callV (M' := mm_X11_toldOf) (As := [zI q, zI 4, zI j]) (rest := [zI (((1 % mem 67 1) * ((((((((1 * ((mem 71 q) % mem 67 1)) % (mem 67 1)) * ((mem 71 q) % mem 67 1)) % (mem 67 1)) * ((mem 71 q) % mem 67 1)) % (mem 67 1)) * ((mem 71 q) % mem 67 1)) % (mem 67 1))) % (mem 67 1)), zI ((((((((0 + ((((1 % mem 67 1) * 1) % (mem 67 1)) * (ztd mem q (5 * 0 + j)))) % (mem 67 1)) + ((((1 % mem 67 1) * ((1 * ((mem 71 q) % mem 67 1)) % (mem 67 1))) % (mem 67 1)) * (ztd mem q (5 * 1 + j)))) % (mem 67 1)) + ((((1 % mem 67 1) * ((((1 * ((mem 71 q) % mem 67 1)) % (mem 67 1)) * ((mem 71 q) % mem 67 1)) % (mem 67 1))) % (mem 67 1)) * (ztd mem q (5 * 2 + j)))) % (mem 67 1)) + ((((1 % mem 67 1) * ((((((1 * ((mem 71 q) % mem 67 1)) % (mem 67 1)) * ((mem 71 q) % mem 67 1)) % (mem 67 1)) * ((mem 71 q) % mem 67 1)) % (mem 67 1))) % (mem 67 1)) * (ztd mem q (5 * 3 + j)))) % (mem 67 1))]) dd_X11_shiftedOf_39 lk_X11_98 mV_X11_toldOf kk_67 (zlt rfl) ⟨_, _, rfl⟩ rfl (by decide) (by decide) (Nat.le_of_ble_eq_true rfl) rfl (sp_X11_toldOf  q 4 j (by first | assumption | omega) (by decide) (by first | assumption | omega) ?_)
  show zw_Wp l mm_X11_shiftedOf (zS L) 42 [some (zR 67), some (zI q), some (zI 0), some (zI j), some (zI ((((((((0 + ((((1 % mem 67 1) * 1) % (mem 67 1)) * (ztd mem q (5 * 0 + j)))) % (mem 67 1)) + ((((1 % mem 67 1) * ((1 * ((mem 71 q) % mem 67 1)) % (mem 67 1))) % (mem 67 1)) * (ztd mem q (5 * 1 + j)))) % (mem 67 1)) + ((((1 % mem 67 1) * ((((1 * ((mem 71 q) % mem 67 1)) % (mem 67 1)) * ((mem 71 q) % mem 67 1)) % (mem 67 1))) % (mem 67 1)) * (ztd mem q (5 * 2 + j)))) % (mem 67 1)) + ((((1 % mem 67 1) * ((((((1 * ((mem 71 q) % mem 67 1)) % (mem 67 1)) * ((mem 71 q) % mem 67 1)) % (mem 67 1)) * ((mem 71 q) % mem 67 1)) % (mem 67 1))) % (mem 67 1)) * (ztd mem q (5 * 3 + j)))) % (mem 67 1))), some (zI 1), some (zI ((((((((1 * ((mem 71 q) % mem 67 1)) % (mem 67 1)) * ((mem 71 q) % mem 67 1)) % (mem 67 1)) * ((mem 71 q) % mem 67 1)) % (mem 67 1)) * ((mem 71 q) % mem 67 1)) % (mem 67 1))), some (zI 4)] [zI (ztd mem q (5 * 4 + j)), zI (((1 % mem 67 1) * ((((((((1 * ((mem 71 q) % mem 67 1)) % (mem 67 1)) * ((mem 71 q) % mem 67 1)) % (mem 67 1)) * ((mem 71 q) % mem 67 1)) % (mem 67 1)) * ((mem 71 q) % mem 67 1)) % (mem 67 1))) % (mem 67 1)), zI ((((((((0 + ((((1 % mem 67 1) * 1) % (mem 67 1)) * (ztd mem q (5 * 0 + j)))) % (mem 67 1)) + ((((1 % mem 67 1) * ((1 * ((mem 71 q) % mem 67 1)) % (mem 67 1))) % (mem 67 1)) * (ztd mem q (5 * 1 + j)))) % (mem 67 1)) + ((((1 % mem 67 1) * ((((1 * ((mem 71 q) % mem 67 1)) % (mem 67 1)) * ((mem 71 q) % mem 67 1)) % (mem 67 1))) % (mem 67 1)) * (ztd mem q (5 * 2 + j)))) % (mem 67 1)) + ((((1 % mem 67 1) * ((((((1 * ((mem 71 q) % mem 67 1)) % (mem 67 1)) * ((mem 71 q) % mem 67 1)) % (mem 67 1)) * ((mem 71 q) % mem 67 1)) % (mem 67 1))) % (mem 67 1)) * (ztd mem q (5 * 3 + j)))) % (mem 67 1))] mem 0 0 Q
  refine wp_imulC dd_X11_shiftedOf_42 (by omega) ?_
  refine wp_iaddC dd_X11_shiftedOf_43 (by omega) ?_
  refine wp_aload_n dd_X11_shiftedOf_44 rfl ?_
  refine wp_getZ 1 rfl dd_X11_shiftedOf_45 gf_X11_9 rfl kk_67 (by decide) (zlt rfl) ?_
  refine wp_iremP dd_X11_shiftedOf_48 (by omega) (by omega) ?_
  refine wp_istore (ls2 := [some (zR 67), some (zI q), some (zI 0), some (zI j), some (zI ((((((((((0 + ((((1 % mem 67 1) * 1) % (mem 67 1)) * (ztd mem q (5 * 0 + j)))) % (mem 67 1)) + ((((1 % mem 67 1) * ((1 * ((mem 71 q) % mem 67 1)) % (mem 67 1))) % (mem 67 1)) * (ztd mem q (5 * 1 + j)))) % (mem 67 1)) + ((((1 % mem 67 1) * ((((1 * ((mem 71 q) % mem 67 1)) % (mem 67 1)) * ((mem 71 q) % mem 67 1)) % (mem 67 1))) % (mem 67 1)) * (ztd mem q (5 * 2 + j)))) % (mem 67 1)) + ((((1 % mem 67 1) * ((((((1 * ((mem 71 q) % mem 67 1)) % (mem 67 1)) * ((mem 71 q) % mem 67 1)) % (mem 67 1)) * ((mem 71 q) % mem 67 1)) % (mem 67 1))) % (mem 67 1)) * (ztd mem q (5 * 3 + j)))) % (mem 67 1)) + ((((1 % mem 67 1) * ((((((((1 * ((mem 71 q) % mem 67 1)) % (mem 67 1)) * ((mem 71 q) % mem 67 1)) % (mem 67 1)) * ((mem 71 q) % mem 67 1)) % (mem 67 1)) * ((mem 71 q) % mem 67 1)) % (mem 67 1))) % (mem 67 1)) * (ztd mem q (5 * 4 + j)))) % (mem 67 1))), some (zI 1), some (zI ((((((((1 * ((mem 71 q) % mem 67 1)) % (mem 67 1)) * ((mem 71 q) % mem 67 1)) % (mem 67 1)) * ((mem 71 q) % mem 67 1)) % (mem 67 1)) * ((mem 71 q) % mem 67 1)) % (mem 67 1))), some (zI 4)]) dd_X11_shiftedOf_49 rfl (by decide) rfl ?_
  refine wp_iload dd_X11_shiftedOf_51 rfl ?_
  refine wp_iload dd_X11_shiftedOf_53 rfl ?_
  refine wp_iconst dd_X11_shiftedOf_55 (zr_lit rfl) ?_
  refine wp_iaddC dd_X11_shiftedOf_56 (by decide) ?_
  show zw_Wp l mm_X11_shiftedOf (zS L) 57 [some (zR 67), some (zI q), some (zI 0), some (zI j), some (zI ((((((((((0 + ((((1 % mem 67 1) * 1) % (mem 67 1)) * (ztd mem q (5 * 0 + j)))) % (mem 67 1)) + ((((1 % mem 67 1) * ((1 * ((mem 71 q) % mem 67 1)) % (mem 67 1))) % (mem 67 1)) * (ztd mem q (5 * 1 + j)))) % (mem 67 1)) + ((((1 % mem 67 1) * ((((1 * ((mem 71 q) % mem 67 1)) % (mem 67 1)) * ((mem 71 q) % mem 67 1)) % (mem 67 1))) % (mem 67 1)) * (ztd mem q (5 * 2 + j)))) % (mem 67 1)) + ((((1 % mem 67 1) * ((((((1 * ((mem 71 q) % mem 67 1)) % (mem 67 1)) * ((mem 71 q) % mem 67 1)) % (mem 67 1)) * ((mem 71 q) % mem 67 1)) % (mem 67 1))) % (mem 67 1)) * (ztd mem q (5 * 3 + j)))) % (mem 67 1)) + ((((1 % mem 67 1) * ((((((((1 * ((mem 71 q) % mem 67 1)) % (mem 67 1)) * ((mem 71 q) % mem 67 1)) % (mem 67 1)) * ((mem 71 q) % mem 67 1)) % (mem 67 1)) * ((mem 71 q) % mem 67 1)) % (mem 67 1))) % (mem 67 1)) * (ztd mem q (5 * 4 + j)))) % (mem 67 1))), some (zI 1), some (zI ((((((((1 * ((mem 71 q) % mem 67 1)) % (mem 67 1)) * ((mem 71 q) % mem 67 1)) % (mem 67 1)) * ((mem 71 q) % mem 67 1)) % (mem 67 1)) * ((mem 71 q) % mem 67 1)) % (mem 67 1))), some (zI 4)] [zI 5, zI 1] mem 0 0 Q
  refine wp_imulC dd_X11_shiftedOf_57 (by decide) ?_
  show zw_Wp l mm_X11_shiftedOf (zS L) 58 [some (zR 67), some (zI q), some (zI 0), some (zI j), some (zI ((((((((((0 + ((((1 % mem 67 1) * 1) % (mem 67 1)) * (ztd mem q (5 * 0 + j)))) % (mem 67 1)) + ((((1 % mem 67 1) * ((1 * ((mem 71 q) % mem 67 1)) % (mem 67 1))) % (mem 67 1)) * (ztd mem q (5 * 1 + j)))) % (mem 67 1)) + ((((1 % mem 67 1) * ((((1 * ((mem 71 q) % mem 67 1)) % (mem 67 1)) * ((mem 71 q) % mem 67 1)) % (mem 67 1))) % (mem 67 1)) * (ztd mem q (5 * 2 + j)))) % (mem 67 1)) + ((((1 % mem 67 1) * ((((((1 * ((mem 71 q) % mem 67 1)) % (mem 67 1)) * ((mem 71 q) % mem 67 1)) % (mem 67 1)) * ((mem 71 q) % mem 67 1)) % (mem 67 1))) % (mem 67 1)) * (ztd mem q (5 * 3 + j)))) % (mem 67 1)) + ((((1 % mem 67 1) * ((((((((1 * ((mem 71 q) % mem 67 1)) % (mem 67 1)) * ((mem 71 q) % mem 67 1)) % (mem 67 1)) * ((mem 71 q) % mem 67 1)) % (mem 67 1)) * ((mem 71 q) % mem 67 1)) % (mem 67 1))) % (mem 67 1)) * (ztd mem q (5 * 4 + j)))) % (mem 67 1))), some (zI 1), some (zI ((((((((1 * ((mem 71 q) % mem 67 1)) % (mem 67 1)) * ((mem 71 q) % mem 67 1)) % (mem 67 1)) * ((mem 71 q) % mem 67 1)) % (mem 67 1)) * ((mem 71 q) % mem 67 1)) % (mem 67 1))), some (zI 4)] [zI 5] mem 0 0 Q
  refine wp_iload dd_X11_shiftedOf_58 rfl ?_
  refine wp_iconst dd_X11_shiftedOf_60 (zr_lit rfl) ?_
  refine wp_iaddC dd_X11_shiftedOf_61 (by decide) ?_
  show zw_Wp l mm_X11_shiftedOf (zS L) 62 [some (zR 67), some (zI q), some (zI 0), some (zI j), some (zI ((((((((((0 + ((((1 % mem 67 1) * 1) % (mem 67 1)) * (ztd mem q (5 * 0 + j)))) % (mem 67 1)) + ((((1 % mem 67 1) * ((1 * ((mem 71 q) % mem 67 1)) % (mem 67 1))) % (mem 67 1)) * (ztd mem q (5 * 1 + j)))) % (mem 67 1)) + ((((1 % mem 67 1) * ((((1 * ((mem 71 q) % mem 67 1)) % (mem 67 1)) * ((mem 71 q) % mem 67 1)) % (mem 67 1))) % (mem 67 1)) * (ztd mem q (5 * 2 + j)))) % (mem 67 1)) + ((((1 % mem 67 1) * ((((((1 * ((mem 71 q) % mem 67 1)) % (mem 67 1)) * ((mem 71 q) % mem 67 1)) % (mem 67 1)) * ((mem 71 q) % mem 67 1)) % (mem 67 1))) % (mem 67 1)) * (ztd mem q (5 * 3 + j)))) % (mem 67 1)) + ((((1 % mem 67 1) * ((((((((1 * ((mem 71 q) % mem 67 1)) % (mem 67 1)) * ((mem 71 q) % mem 67 1)) % (mem 67 1)) * ((mem 71 q) % mem 67 1)) % (mem 67 1)) * ((mem 71 q) % mem 67 1)) % (mem 67 1))) % (mem 67 1)) * (ztd mem q (5 * 4 + j)))) % (mem 67 1))), some (zI 1), some (zI ((((((((1 * ((mem 71 q) % mem 67 1)) % (mem 67 1)) * ((mem 71 q) % mem 67 1)) % (mem 67 1)) * ((mem 71 q) % mem 67 1)) % (mem 67 1)) * ((mem 71 q) % mem 67 1)) % (mem 67 1))), some (zI 4)] [zI 5, zI 5] mem 0 0 Q
  refine wp_iload_n dd_X11_shiftedOf_62 rfl ?_
  refine wp_isubC dd_X11_shiftedOf_63 (by decide) ?_
  show zw_Wp l mm_X11_shiftedOf (zS L) 64 [some (zR 67), some (zI q), some (zI 0), some (zI j), some (zI ((((((((((0 + ((((1 % mem 67 1) * 1) % (mem 67 1)) * (ztd mem q (5 * 0 + j)))) % (mem 67 1)) + ((((1 % mem 67 1) * ((1 * ((mem 71 q) % mem 67 1)) % (mem 67 1))) % (mem 67 1)) * (ztd mem q (5 * 1 + j)))) % (mem 67 1)) + ((((1 % mem 67 1) * ((((1 * ((mem 71 q) % mem 67 1)) % (mem 67 1)) * ((mem 71 q) % mem 67 1)) % (mem 67 1))) % (mem 67 1)) * (ztd mem q (5 * 2 + j)))) % (mem 67 1)) + ((((1 % mem 67 1) * ((((((1 * ((mem 71 q) % mem 67 1)) % (mem 67 1)) * ((mem 71 q) % mem 67 1)) % (mem 67 1)) * ((mem 71 q) % mem 67 1)) % (mem 67 1))) % (mem 67 1)) * (ztd mem q (5 * 3 + j)))) % (mem 67 1)) + ((((1 % mem 67 1) * ((((((((1 * ((mem 71 q) % mem 67 1)) % (mem 67 1)) * ((mem 71 q) % mem 67 1)) % (mem 67 1)) * ((mem 71 q) % mem 67 1)) % (mem 67 1)) * ((mem 71 q) % mem 67 1)) % (mem 67 1))) % (mem 67 1)) * (ztd mem q (5 * 4 + j)))) % (mem 67 1))), some (zI 1), some (zI ((((((((1 * ((mem 71 q) % mem 67 1)) % (mem 67 1)) * ((mem 71 q) % mem 67 1)) % (mem 67 1)) * ((mem 71 q) % mem 67 1)) % (mem 67 1)) * ((mem 71 q) % mem 67 1)) % (mem 67 1))), some (zI 4)] [zI 5, zI 5] mem 0 0 Q
  refine wp_idivP dd_X11_shiftedOf_64 (by decide) (by decide) ?_
  show zw_Wp l mm_X11_shiftedOf (zS L) 65 [some (zR 67), some (zI q), some (zI 0), some (zI j), some (zI ((((((((((0 + ((((1 % mem 67 1) * 1) % (mem 67 1)) * (ztd mem q (5 * 0 + j)))) % (mem 67 1)) + ((((1 % mem 67 1) * ((1 * ((mem 71 q) % mem 67 1)) % (mem 67 1))) % (mem 67 1)) * (ztd mem q (5 * 1 + j)))) % (mem 67 1)) + ((((1 % mem 67 1) * ((((1 * ((mem 71 q) % mem 67 1)) % (mem 67 1)) * ((mem 71 q) % mem 67 1)) % (mem 67 1))) % (mem 67 1)) * (ztd mem q (5 * 2 + j)))) % (mem 67 1)) + ((((1 % mem 67 1) * ((((((1 * ((mem 71 q) % mem 67 1)) % (mem 67 1)) * ((mem 71 q) % mem 67 1)) % (mem 67 1)) * ((mem 71 q) % mem 67 1)) % (mem 67 1))) % (mem 67 1)) * (ztd mem q (5 * 3 + j)))) % (mem 67 1)) + ((((1 % mem 67 1) * ((((((((1 * ((mem 71 q) % mem 67 1)) % (mem 67 1)) * ((mem 71 q) % mem 67 1)) % (mem 67 1)) * ((mem 71 q) % mem 67 1)) % (mem 67 1)) * ((mem 71 q) % mem 67 1)) % (mem 67 1))) % (mem 67 1)) * (ztd mem q (5 * 4 + j)))) % (mem 67 1))), some (zI 1), some (zI ((((((((1 * ((mem 71 q) % mem 67 1)) % (mem 67 1)) * ((mem 71 q) % mem 67 1)) % (mem 67 1)) * ((mem 71 q) % mem 67 1)) % (mem 67 1)) * ((mem 71 q) % mem 67 1)) % (mem 67 1))), some (zI 4)] [zI 1] mem 0 0 Q
  refine wp_istore (ls2 := [some (zR 67), some (zI q), some (zI 0), some (zI j), some (zI ((((((((((0 + ((((1 % mem 67 1) * 1) % (mem 67 1)) * (ztd mem q (5 * 0 + j)))) % (mem 67 1)) + ((((1 % mem 67 1) * ((1 * ((mem 71 q) % mem 67 1)) % (mem 67 1))) % (mem 67 1)) * (ztd mem q (5 * 1 + j)))) % (mem 67 1)) + ((((1 % mem 67 1) * ((((1 * ((mem 71 q) % mem 67 1)) % (mem 67 1)) * ((mem 71 q) % mem 67 1)) % (mem 67 1))) % (mem 67 1)) * (ztd mem q (5 * 2 + j)))) % (mem 67 1)) + ((((1 % mem 67 1) * ((((((1 * ((mem 71 q) % mem 67 1)) % (mem 67 1)) * ((mem 71 q) % mem 67 1)) % (mem 67 1)) * ((mem 71 q) % mem 67 1)) % (mem 67 1))) % (mem 67 1)) * (ztd mem q (5 * 3 + j)))) % (mem 67 1)) + ((((1 % mem 67 1) * ((((((((1 * ((mem 71 q) % mem 67 1)) % (mem 67 1)) * ((mem 71 q) % mem 67 1)) % (mem 67 1)) * ((mem 71 q) % mem 67 1)) % (mem 67 1)) * ((mem 71 q) % mem 67 1)) % (mem 67 1))) % (mem 67 1)) * (ztd mem q (5 * 4 + j)))) % (mem 67 1))), some (zI 1), some (zI ((((((((1 * ((mem 71 q) % mem 67 1)) % (mem 67 1)) * ((mem 71 q) % mem 67 1)) % (mem 67 1)) * ((mem 71 q) % mem 67 1)) % (mem 67 1)) * ((mem 71 q) % mem 67 1)) % (mem 67 1))), some (zI 4)]) dd_X11_shiftedOf_65 rfl (by decide) rfl ?_
  refine wp_iload dd_X11_shiftedOf_67 rfl ?_
  refine wp_aload_n dd_X11_shiftedOf_69 rfl ?_
  refine wp_aload_n dd_X11_shiftedOf_70 rfl ?_
  refine wp_getR dd_X11_shiftedOf_71 gf_X11_37 rfl kk_67 (by decide) (zlt rfl) rr_67_4 ?_
  refine wp_iload_n dd_X11_shiftedOf_74 rfl ?_
  refine wp_iald dd_X11_shiftedOf_75 kk_71 (zlt rfl) (by omega) (by omega) ?_
  refine wp_callV (M' := mm_X11_rest) (As := [zI (mem 71 q)]) (rest := [zI ((((((((1 * ((mem 71 q) % mem 67 1)) % (mem 67 1)) * ((mem 71 q) % mem 67 1)) % (mem 67 1)) * ((mem 71 q) % mem 67 1)) % (mem 67 1)) * ((mem 71 q) % mem 67 1)) % (mem 67 1))]) dd_X11_shiftedOf_76 lk_X11_13 mV_X11_rest kk_67 (zlt rfl) ⟨_, _, rfl⟩ rfl (by decide) (by decide) (Nat.le_of_ble_eq_true rfl) rfl (sp_X11_rest  (mem 71 q) (by first | assumption | omega) ?_)
  show zw_Wp l mm_X11_shiftedOf (zS L) 79 [some (zR 67), some (zI q), some (zI 0), some (zI j), some (zI ((((((((((0 + ((((1 % mem 67 1) * 1) % (mem 67 1)) * (ztd mem q (5 * 0 + j)))) % (mem 67 1)) + ((((1 % mem 67 1) * ((1 * ((mem 71 q) % mem 67 1)) % (mem 67 1))) % (mem 67 1)) * (ztd mem q (5 * 1 + j)))) % (mem 67 1)) + ((((1 % mem 67 1) * ((((1 * ((mem 71 q) % mem 67 1)) % (mem 67 1)) * ((mem 71 q) % mem 67 1)) % (mem 67 1))) % (mem 67 1)) * (ztd mem q (5 * 2 + j)))) % (mem 67 1)) + ((((1 % mem 67 1) * ((((((1 * ((mem 71 q) % mem 67 1)) % (mem 67 1)) * ((mem 71 q) % mem 67 1)) % (mem 67 1)) * ((mem 71 q) % mem 67 1)) % (mem 67 1))) % (mem 67 1)) * (ztd mem q (5 * 3 + j)))) % (mem 67 1)) + ((((1 % mem 67 1) * ((((((((1 * ((mem 71 q) % mem 67 1)) % (mem 67 1)) * ((mem 71 q) % mem 67 1)) % (mem 67 1)) * ((mem 71 q) % mem 67 1)) % (mem 67 1)) * ((mem 71 q) % mem 67 1)) % (mem 67 1))) % (mem 67 1)) * (ztd mem q (5 * 4 + j)))) % (mem 67 1))), some (zI 1), some (zI ((((((((1 * ((mem 71 q) % mem 67 1)) % (mem 67 1)) * ((mem 71 q) % mem 67 1)) % (mem 67 1)) * ((mem 71 q) % mem 67 1)) % (mem 67 1)) * ((mem 71 q) % mem 67 1)) % (mem 67 1))), some (zI 4)] [zI ((mem 71 q) % mem 67 1), zI ((((((((1 * ((mem 71 q) % mem 67 1)) % (mem 67 1)) * ((mem 71 q) % mem 67 1)) % (mem 67 1)) * ((mem 71 q) % mem 67 1)) % (mem 67 1)) * ((mem 71 q) % mem 67 1)) % (mem 67 1))] mem 0 0 Q
  refine wp_imulC dd_X11_shiftedOf_79 (by omega) ?_
  refine wp_aload_n dd_X11_shiftedOf_80 rfl ?_
  refine wp_getZ 1 rfl dd_X11_shiftedOf_81 gf_X11_9 rfl kk_67 (by decide) (zlt rfl) ?_
  refine wp_iremP dd_X11_shiftedOf_84 (by omega) (by omega) ?_
  refine wp_istore (ls2 := [some (zR 67), some (zI q), some (zI 0), some (zI j), some (zI ((((((((((0 + ((((1 % mem 67 1) * 1) % (mem 67 1)) * (ztd mem q (5 * 0 + j)))) % (mem 67 1)) + ((((1 % mem 67 1) * ((1 * ((mem 71 q) % mem 67 1)) % (mem 67 1))) % (mem 67 1)) * (ztd mem q (5 * 1 + j)))) % (mem 67 1)) + ((((1 % mem 67 1) * ((((1 * ((mem 71 q) % mem 67 1)) % (mem 67 1)) * ((mem 71 q) % mem 67 1)) % (mem 67 1))) % (mem 67 1)) * (ztd mem q (5 * 2 + j)))) % (mem 67 1)) + ((((1 % mem 67 1) * ((((((1 * ((mem 71 q) % mem 67 1)) % (mem 67 1)) * ((mem 71 q) % mem 67 1)) % (mem 67 1)) * ((mem 71 q) % mem 67 1)) % (mem 67 1))) % (mem 67 1)) * (ztd mem q (5 * 3 + j)))) % (mem 67 1)) + ((((1 % mem 67 1) * ((((((((1 * ((mem 71 q) % mem 67 1)) % (mem 67 1)) * ((mem 71 q) % mem 67 1)) % (mem 67 1)) * ((mem 71 q) % mem 67 1)) % (mem 67 1)) * ((mem 71 q) % mem 67 1)) % (mem 67 1))) % (mem 67 1)) * (ztd mem q (5 * 4 + j)))) % (mem 67 1))), some (zI 1), some (zI ((((((((((1 * ((mem 71 q) % mem 67 1)) % (mem 67 1)) * ((mem 71 q) % mem 67 1)) % (mem 67 1)) * ((mem 71 q) % mem 67 1)) % (mem 67 1)) * ((mem 71 q) % mem 67 1)) % (mem 67 1)) * ((mem 71 q) % mem 67 1)) % (mem 67 1))), some (zI 4)]) dd_X11_shiftedOf_85 rfl (by decide) rfl ?_
  refine wp_iincC (ls2 := [some (zR 67), some (zI q), some (zI 0), some (zI j), some (zI ((((((((((0 + ((((1 % mem 67 1) * 1) % (mem 67 1)) * (ztd mem q (5 * 0 + j)))) % (mem 67 1)) + ((((1 % mem 67 1) * ((1 * ((mem 71 q) % mem 67 1)) % (mem 67 1))) % (mem 67 1)) * (ztd mem q (5 * 1 + j)))) % (mem 67 1)) + ((((1 % mem 67 1) * ((((1 * ((mem 71 q) % mem 67 1)) % (mem 67 1)) * ((mem 71 q) % mem 67 1)) % (mem 67 1))) % (mem 67 1)) * (ztd mem q (5 * 2 + j)))) % (mem 67 1)) + ((((1 % mem 67 1) * ((((((1 * ((mem 71 q) % mem 67 1)) % (mem 67 1)) * ((mem 71 q) % mem 67 1)) % (mem 67 1)) * ((mem 71 q) % mem 67 1)) % (mem 67 1))) % (mem 67 1)) * (ztd mem q (5 * 3 + j)))) % (mem 67 1)) + ((((1 % mem 67 1) * ((((((((1 * ((mem 71 q) % mem 67 1)) % (mem 67 1)) * ((mem 71 q) % mem 67 1)) % (mem 67 1)) * ((mem 71 q) % mem 67 1)) % (mem 67 1)) * ((mem 71 q) % mem 67 1)) % (mem 67 1))) % (mem 67 1)) * (ztd mem q (5 * 4 + j)))) % (mem 67 1))), some (zI 1), some (zI ((((((((((1 * ((mem 71 q) % mem 67 1)) % (mem 67 1)) * ((mem 71 q) % mem 67 1)) % (mem 67 1)) * ((mem 71 q) % mem 67 1)) % (mem 67 1)) * ((mem 71 q) % mem 67 1)) % (mem 67 1)) * ((mem 71 q) % mem 67 1)) % (mem 67 1))), some (zI 5)]) dd_X11_shiftedOf_87 rfl rfl (by decide) (by omega) rfl ?_
  refine wp_goto (tgt := 12) dd_X11_shiftedOf_90 (by decide) ?_
  refine wp_iload dd_X11_shiftedOf_12 rfl ?_
  refine wp_iconst dd_X11_shiftedOf_14 (zr_lit rfl) ?_
  refine wp_icmp_ge (tgt := 93) dd_X11_shiftedOf_15 (by decide) (fun c15_6 => ?_) (fun c15_6 => absurd c15_6 (by decide))
  refine wp_iload dd_X11_shiftedOf_93 rfl ?_
  refine wp_ireturn (st := []) dd_X11_shiftedOf_95 rfl ?_
  refine zq_I ?_ ?_ k
  · have eb0 : (1 : Int) = 1 % mem 67 1 := (Int.emod_eq_of_lt (by omega) (by omega)).symm
    have ev0 : (0 : Int) = 0 % mem 67 1 := (Int.emod_eq_of_lt (by omega) (by omega)).symm
    have ev1 := zq_st (W := 1) (t := ztd mem q (5 * 0 + j)) ev0 eb0
    have eb1 := zq_by (f := mem 71 q) eb0
    have ev2 := zq_st (W := 1) (t := ztd mem q (5 * 1 + j)) ev1 eb1
    have eb2 := zq_by (f := mem 71 q) eb1
    have ev3 := zq_st (W := 1) (t := ztd mem q (5 * 2 + j)) ev2 eb2
    have eb3 := zq_by (f := mem 71 q) eb2
    have ev4 := zq_st (W := 1) (t := ztd mem q (5 * 3 + j)) ev3 eb3
    have eb4 := zq_by (f := mem 71 q) eb3
    have ev5 := zq_st (W := 1) (t := ztd mem q (5 * 4 + j)) ev4 eb4
    have eb5 := zq_by (f := mem 71 q) eb4
    refine ev5.trans ?_
    unfold zsf
    rw [if_pos rfl]
    congr 1; grind
  · rfl

set_option maxRecDepth 100000 in
set_option maxHeartbeats 4000000 in
theorem sp_X11_shiftedOf_1 {l : Launch} {L : Nat} {mem : zMem} {Q : zQ}  (q : Int) (j : Int) (hp : zPr (mem 67 1)) (hT : zT mem q) (hj : 0 ≤ j ∧ j ≤ 4) (k : Q (some (zI (zsf (mem 71 q) (mem 67 1) (fun k => ztd mem q (5 * k + j)) 1))) (zS L) mem) : zw_Ok l mm_X11_shiftedOf [zR 67, zI q, zI 1, zI j] (zS L) mem Q := by
  refine zw_okA (fun hA => ?_)
  have rg_q : -2147483648 ≤ q ∧ q < 2147483648 := hA.2.1
  have rg_j : -2147483648 ≤ j ∧ j < 2147483648 := hA.2.2.2.1
  refine zw_enter (by decide) (Nat.le_of_ble_eq_true rfl) rfl ?_
  show zw_Wp l mm_X11_shiftedOf (zS L) 0 [some (zR 67), some (zI q), some (zI 1), some (zI j), none, none, none, none] [] mem 0 0 Q
  have hpr := hp.rg
  obtain ⟨hq, hkd, hfg, ht⟩ := hT
  have hfm := zm_rg (a := mem 71 q) (p := mem 67 1) (by omega)
  refine wp_iconst dd_X11_shiftedOf_0 (zr_lit rfl) ?_
  refine wp_istore (ls2 := [some (zR 67), some (zI q), some (zI 1), some (zI j), some (zI 0), none, none, none]) dd_X11_shiftedOf_1 rfl (by decide) rfl ?_
  refine wp_iconst dd_X11_shiftedOf_3 (zr_lit rfl) ?_
  refine wp_istore (ls2 := [some (zR 67), some (zI q), some (zI 1), some (zI j), some (zI 0), some (zI 1), none, none]) dd_X11_shiftedOf_4 rfl (by decide) rfl ?_
  refine wp_iconst dd_X11_shiftedOf_6 (zr_lit rfl) ?_
  refine wp_istore (ls2 := [some (zR 67), some (zI q), some (zI 1), some (zI j), some (zI 0), some (zI 1), some (zI 1), none]) dd_X11_shiftedOf_7 rfl (by decide) rfl ?_
  refine wp_iload_n dd_X11_shiftedOf_9 rfl ?_
  refine wp_istore (ls2 := [some (zR 67), some (zI q), some (zI 1), some (zI j), some (zI 0), some (zI 1), some (zI 1), some (zI 1)]) dd_X11_shiftedOf_10 rfl (by decide) rfl ?_
  refine wp_iload dd_X11_shiftedOf_12 rfl ?_
  refine wp_iconst dd_X11_shiftedOf_14 (zr_lit rfl) ?_
  refine wp_icmp_ge (tgt := 93) dd_X11_shiftedOf_15 (by decide) (fun c15_1 => absurd c15_1 (by decide)) (fun c15_1 => ?_)
  have hb1 : 0 ≤ 1 ∧ 1 < mem 67 1 := by first | exact zm_rg (by omega) | omega
  have hv1 : 0 ≤ 0 ∧ 0 < mem 67 1 := by first | exact zm_rg (by omega) | omega
  have hw1 := zm_rg (a := 1) (p := mem 67 1) (by omega)
  have hm1 := zmul_rg (a := 1 % mem 67 1) (b := 1) (A := 31) (B := 31) (by omega) (by omega) (by omega) (by omega)
  have hx1 := zm_rg (a := 1 % mem 67 1 * 1) (p := mem 67 1) (by omega)
  have ht1 := ht (5 * 1 + j) (by omega) (by omega)
  have hy1 := zmul_rg (a := 1 % mem 67 1 * 1 % mem 67 1) (b := ztd mem q (5 * 1 + j)) (A := 31) (B := 31) (by omega) (by omega) (by omega) (by omega)
  have hz1 := zmul_rg (a := 1) (b := mem 71 q % mem 67 1) (A := 31) (B := 31) (by omega) (by omega) (by omega) (by omega)
  refine wp_iload dd_X11_shiftedOf_18 rfl ?_
  refine wp_aload_n dd_X11_shiftedOf_20 rfl ?_
  refine wp_iload dd_X11_shiftedOf_21 rfl ?_
  refine wp_callV (M' := mm_X11_rest) (As := [zI 1]) (rest := [zI 0]) dd_X11_shiftedOf_23 lk_X11_13 mV_X11_rest kk_67 (zlt rfl) ⟨_, _, rfl⟩ rfl (by decide) (by decide) (Nat.le_of_ble_eq_true rfl) rfl (sp_X11_rest  1 (by first | assumption | omega) ?_)
  show zw_Wp l mm_X11_shiftedOf (zS L) 26 [some (zR 67), some (zI q), some (zI 1), some (zI j), some (zI 0), some (zI 1), some (zI 1), some (zI 1)] [zI (1 % mem 67 1), zI 0] mem 0 0 Q
  refine wp_iload dd_X11_shiftedOf_26 rfl ?_
  refine wp_imulC dd_X11_shiftedOf_28 (by omega) ?_
  refine wp_aload_n dd_X11_shiftedOf_29 rfl ?_
  refine wp_getZ 1 rfl dd_X11_shiftedOf_30 gf_X11_9 rfl kk_67 (by decide) (zlt rfl) ?_
  refine wp_iremP dd_X11_shiftedOf_33 (by omega) (by omega) ?_
  refine wp_aload_n dd_X11_shiftedOf_34 rfl ?_
  refine wp_iload_n dd_X11_shiftedOf_35 rfl ?_
  refine wp_iload dd_X11_shiftedOf_36 rfl ?_
  refine wp_iload_n dd_X11_shiftedOf_38 rfl ?_
  refine wp_callV (M' := mm_X11_toldOf) (As := [zI q, zI 1, zI j]) (rest := [zI (((1 % mem 67 1) * 1) % (mem 67 1)), zI 0]) dd_X11_shiftedOf_39 lk_X11_98 mV_X11_toldOf kk_67 (zlt rfl) ⟨_, _, rfl⟩ rfl (by decide) (by decide) (Nat.le_of_ble_eq_true rfl) rfl (sp_X11_toldOf  q 1 j (by first | assumption | omega) (by decide) (by first | assumption | omega) ?_)
  show zw_Wp l mm_X11_shiftedOf (zS L) 42 [some (zR 67), some (zI q), some (zI 1), some (zI j), some (zI 0), some (zI 1), some (zI 1), some (zI 1)] [zI (ztd mem q (5 * 1 + j)), zI (((1 % mem 67 1) * 1) % (mem 67 1)), zI 0] mem 0 0 Q
  refine wp_imulC dd_X11_shiftedOf_42 (by omega) ?_
  refine wp_iaddC dd_X11_shiftedOf_43 (by omega) ?_
  refine wp_aload_n dd_X11_shiftedOf_44 rfl ?_
  refine wp_getZ 1 rfl dd_X11_shiftedOf_45 gf_X11_9 rfl kk_67 (by decide) (zlt rfl) ?_
  refine wp_iremP dd_X11_shiftedOf_48 (by omega) (by omega) ?_
  refine wp_istore (ls2 := [some (zR 67), some (zI q), some (zI 1), some (zI j), some (zI ((0 + ((((1 % mem 67 1) * 1) % (mem 67 1)) * (ztd mem q (5 * 1 + j)))) % (mem 67 1))), some (zI 1), some (zI 1), some (zI 1)]) dd_X11_shiftedOf_49 rfl (by decide) rfl ?_
  refine wp_iload dd_X11_shiftedOf_51 rfl ?_
  refine wp_iload dd_X11_shiftedOf_53 rfl ?_
  refine wp_iconst dd_X11_shiftedOf_55 (zr_lit rfl) ?_
  refine wp_iaddC dd_X11_shiftedOf_56 (by decide) ?_
  show zw_Wp l mm_X11_shiftedOf (zS L) 57 [some (zR 67), some (zI q), some (zI 1), some (zI j), some (zI ((0 + ((((1 % mem 67 1) * 1) % (mem 67 1)) * (ztd mem q (5 * 1 + j)))) % (mem 67 1))), some (zI 1), some (zI 1), some (zI 1)] [zI 2, zI 1] mem 0 0 Q
  refine wp_imulC dd_X11_shiftedOf_57 (by decide) ?_
  show zw_Wp l mm_X11_shiftedOf (zS L) 58 [some (zR 67), some (zI q), some (zI 1), some (zI j), some (zI ((0 + ((((1 % mem 67 1) * 1) % (mem 67 1)) * (ztd mem q (5 * 1 + j)))) % (mem 67 1))), some (zI 1), some (zI 1), some (zI 1)] [zI 2] mem 0 0 Q
  refine wp_iload dd_X11_shiftedOf_58 rfl ?_
  refine wp_iconst dd_X11_shiftedOf_60 (zr_lit rfl) ?_
  refine wp_iaddC dd_X11_shiftedOf_61 (by decide) ?_
  show zw_Wp l mm_X11_shiftedOf (zS L) 62 [some (zR 67), some (zI q), some (zI 1), some (zI j), some (zI ((0 + ((((1 % mem 67 1) * 1) % (mem 67 1)) * (ztd mem q (5 * 1 + j)))) % (mem 67 1))), some (zI 1), some (zI 1), some (zI 1)] [zI 2, zI 2] mem 0 0 Q
  refine wp_iload_n dd_X11_shiftedOf_62 rfl ?_
  refine wp_isubC dd_X11_shiftedOf_63 (by decide) ?_
  show zw_Wp l mm_X11_shiftedOf (zS L) 64 [some (zR 67), some (zI q), some (zI 1), some (zI j), some (zI ((0 + ((((1 % mem 67 1) * 1) % (mem 67 1)) * (ztd mem q (5 * 1 + j)))) % (mem 67 1))), some (zI 1), some (zI 1), some (zI 1)] [zI 1, zI 2] mem 0 0 Q
  refine wp_idivP dd_X11_shiftedOf_64 (by decide) (by decide) ?_
  show zw_Wp l mm_X11_shiftedOf (zS L) 65 [some (zR 67), some (zI q), some (zI 1), some (zI j), some (zI ((0 + ((((1 % mem 67 1) * 1) % (mem 67 1)) * (ztd mem q (5 * 1 + j)))) % (mem 67 1))), some (zI 1), some (zI 1), some (zI 1)] [zI 2] mem 0 0 Q
  refine wp_istore (ls2 := [some (zR 67), some (zI q), some (zI 1), some (zI j), some (zI ((0 + ((((1 % mem 67 1) * 1) % (mem 67 1)) * (ztd mem q (5 * 1 + j)))) % (mem 67 1))), some (zI 2), some (zI 1), some (zI 1)]) dd_X11_shiftedOf_65 rfl (by decide) rfl ?_
  refine wp_iload dd_X11_shiftedOf_67 rfl ?_
  refine wp_aload_n dd_X11_shiftedOf_69 rfl ?_
  refine wp_aload_n dd_X11_shiftedOf_70 rfl ?_
  refine wp_getR dd_X11_shiftedOf_71 gf_X11_37 rfl kk_67 (by decide) (zlt rfl) rr_67_4 ?_
  refine wp_iload_n dd_X11_shiftedOf_74 rfl ?_
  refine wp_iald dd_X11_shiftedOf_75 kk_71 (zlt rfl) (by omega) (by omega) ?_
  refine wp_callV (M' := mm_X11_rest) (As := [zI (mem 71 q)]) (rest := [zI 1]) dd_X11_shiftedOf_76 lk_X11_13 mV_X11_rest kk_67 (zlt rfl) ⟨_, _, rfl⟩ rfl (by decide) (by decide) (Nat.le_of_ble_eq_true rfl) rfl (sp_X11_rest  (mem 71 q) (by first | assumption | omega) ?_)
  show zw_Wp l mm_X11_shiftedOf (zS L) 79 [some (zR 67), some (zI q), some (zI 1), some (zI j), some (zI ((0 + ((((1 % mem 67 1) * 1) % (mem 67 1)) * (ztd mem q (5 * 1 + j)))) % (mem 67 1))), some (zI 2), some (zI 1), some (zI 1)] [zI ((mem 71 q) % mem 67 1), zI 1] mem 0 0 Q
  refine wp_imulC dd_X11_shiftedOf_79 (by omega) ?_
  refine wp_aload_n dd_X11_shiftedOf_80 rfl ?_
  refine wp_getZ 1 rfl dd_X11_shiftedOf_81 gf_X11_9 rfl kk_67 (by decide) (zlt rfl) ?_
  refine wp_iremP dd_X11_shiftedOf_84 (by omega) (by omega) ?_
  refine wp_istore (ls2 := [some (zR 67), some (zI q), some (zI 1), some (zI j), some (zI ((0 + ((((1 % mem 67 1) * 1) % (mem 67 1)) * (ztd mem q (5 * 1 + j)))) % (mem 67 1))), some (zI 2), some (zI ((1 * ((mem 71 q) % mem 67 1)) % (mem 67 1))), some (zI 1)]) dd_X11_shiftedOf_85 rfl (by decide) rfl ?_
  refine wp_iincC (ls2 := [some (zR 67), some (zI q), some (zI 1), some (zI j), some (zI ((0 + ((((1 % mem 67 1) * 1) % (mem 67 1)) * (ztd mem q (5 * 1 + j)))) % (mem 67 1))), some (zI 2), some (zI ((1 * ((mem 71 q) % mem 67 1)) % (mem 67 1))), some (zI 2)]) dd_X11_shiftedOf_87 rfl rfl (by decide) (by omega) rfl ?_
  refine wp_goto (tgt := 12) dd_X11_shiftedOf_90 (by decide) ?_
  refine wp_iload dd_X11_shiftedOf_12 rfl ?_
  refine wp_iconst dd_X11_shiftedOf_14 (zr_lit rfl) ?_
  refine wp_icmp_ge (tgt := 93) dd_X11_shiftedOf_15 (by decide) (fun c15_2 => absurd c15_2 (by decide)) (fun c15_2 => ?_)
  have hb2 : 0 ≤ ((1 * ((mem 71 q) % mem 67 1)) % (mem 67 1)) ∧ ((1 * ((mem 71 q) % mem 67 1)) % (mem 67 1)) < mem 67 1 := by first | exact zm_rg (by omega) | omega
  have hv2 : 0 ≤ ((0 + ((((1 % mem 67 1) * 1) % (mem 67 1)) * (ztd mem q (5 * 1 + j)))) % (mem 67 1)) ∧ ((0 + ((((1 % mem 67 1) * 1) % (mem 67 1)) * (ztd mem q (5 * 1 + j)))) % (mem 67 1)) < mem 67 1 := by first | exact zm_rg (by omega) | omega
  have hw2 := zm_rg (a := 2) (p := mem 67 1) (by omega)
  have hm2 := zmul_rg (a := 2 % mem 67 1) (b := ((1 * ((mem 71 q) % mem 67 1)) % (mem 67 1))) (A := 31) (B := 31) (by omega) (by omega) (by omega) (by omega)
  have hx2 := zm_rg (a := 2 % mem 67 1 * ((1 * ((mem 71 q) % mem 67 1)) % (mem 67 1))) (p := mem 67 1) (by omega)
  have ht2 := ht (5 * 2 + j) (by omega) (by omega)
  have hy2 := zmul_rg (a := 2 % mem 67 1 * ((1 * ((mem 71 q) % mem 67 1)) % (mem 67 1)) % mem 67 1) (b := ztd mem q (5 * 2 + j)) (A := 31) (B := 31) (by omega) (by omega) (by omega) (by omega)
  have hz2 := zmul_rg (a := ((1 * ((mem 71 q) % mem 67 1)) % (mem 67 1))) (b := mem 71 q % mem 67 1) (A := 31) (B := 31) (by omega) (by omega) (by omega) (by omega)
  refine wp_iload dd_X11_shiftedOf_18 rfl ?_
  refine wp_aload_n dd_X11_shiftedOf_20 rfl ?_
  refine wp_iload dd_X11_shiftedOf_21 rfl ?_
  refine wp_callV (M' := mm_X11_rest) (As := [zI 2]) (rest := [zI ((0 + ((((1 % mem 67 1) * 1) % (mem 67 1)) * (ztd mem q (5 * 1 + j)))) % (mem 67 1))]) dd_X11_shiftedOf_23 lk_X11_13 mV_X11_rest kk_67 (zlt rfl) ⟨_, _, rfl⟩ rfl (by decide) (by decide) (Nat.le_of_ble_eq_true rfl) rfl (sp_X11_rest  2 (by first | assumption | omega) ?_)
  show zw_Wp l mm_X11_shiftedOf (zS L) 26 [some (zR 67), some (zI q), some (zI 1), some (zI j), some (zI ((0 + ((((1 % mem 67 1) * 1) % (mem 67 1)) * (ztd mem q (5 * 1 + j)))) % (mem 67 1))), some (zI 2), some (zI ((1 * ((mem 71 q) % mem 67 1)) % (mem 67 1))), some (zI 2)] [zI (2 % mem 67 1), zI ((0 + ((((1 % mem 67 1) * 1) % (mem 67 1)) * (ztd mem q (5 * 1 + j)))) % (mem 67 1))] mem 0 0 Q
  refine wp_iload dd_X11_shiftedOf_26 rfl ?_
  refine wp_imulC dd_X11_shiftedOf_28 (by omega) ?_
  refine wp_aload_n dd_X11_shiftedOf_29 rfl ?_
  refine wp_getZ 1 rfl dd_X11_shiftedOf_30 gf_X11_9 rfl kk_67 (by decide) (zlt rfl) ?_
  refine wp_iremP dd_X11_shiftedOf_33 (by omega) (by omega) ?_
  refine wp_aload_n dd_X11_shiftedOf_34 rfl ?_
  refine wp_iload_n dd_X11_shiftedOf_35 rfl ?_
  refine wp_iload dd_X11_shiftedOf_36 rfl ?_
  refine wp_iload_n dd_X11_shiftedOf_38 rfl ?_
  refine wp_callV (M' := mm_X11_toldOf) (As := [zI q, zI 2, zI j]) (rest := [zI (((2 % mem 67 1) * ((1 * ((mem 71 q) % mem 67 1)) % (mem 67 1))) % (mem 67 1)), zI ((0 + ((((1 % mem 67 1) * 1) % (mem 67 1)) * (ztd mem q (5 * 1 + j)))) % (mem 67 1))]) dd_X11_shiftedOf_39 lk_X11_98 mV_X11_toldOf kk_67 (zlt rfl) ⟨_, _, rfl⟩ rfl (by decide) (by decide) (Nat.le_of_ble_eq_true rfl) rfl (sp_X11_toldOf  q 2 j (by first | assumption | omega) (by decide) (by first | assumption | omega) ?_)
  show zw_Wp l mm_X11_shiftedOf (zS L) 42 [some (zR 67), some (zI q), some (zI 1), some (zI j), some (zI ((0 + ((((1 % mem 67 1) * 1) % (mem 67 1)) * (ztd mem q (5 * 1 + j)))) % (mem 67 1))), some (zI 2), some (zI ((1 * ((mem 71 q) % mem 67 1)) % (mem 67 1))), some (zI 2)] [zI (ztd mem q (5 * 2 + j)), zI (((2 % mem 67 1) * ((1 * ((mem 71 q) % mem 67 1)) % (mem 67 1))) % (mem 67 1)), zI ((0 + ((((1 % mem 67 1) * 1) % (mem 67 1)) * (ztd mem q (5 * 1 + j)))) % (mem 67 1))] mem 0 0 Q
  refine wp_imulC dd_X11_shiftedOf_42 (by omega) ?_
  refine wp_iaddC dd_X11_shiftedOf_43 (by omega) ?_
  refine wp_aload_n dd_X11_shiftedOf_44 rfl ?_
  refine wp_getZ 1 rfl dd_X11_shiftedOf_45 gf_X11_9 rfl kk_67 (by decide) (zlt rfl) ?_
  refine wp_iremP dd_X11_shiftedOf_48 (by omega) (by omega) ?_
  refine wp_istore (ls2 := [some (zR 67), some (zI q), some (zI 1), some (zI j), some (zI ((((0 + ((((1 % mem 67 1) * 1) % (mem 67 1)) * (ztd mem q (5 * 1 + j)))) % (mem 67 1)) + ((((2 % mem 67 1) * ((1 * ((mem 71 q) % mem 67 1)) % (mem 67 1))) % (mem 67 1)) * (ztd mem q (5 * 2 + j)))) % (mem 67 1))), some (zI 2), some (zI ((1 * ((mem 71 q) % mem 67 1)) % (mem 67 1))), some (zI 2)]) dd_X11_shiftedOf_49 rfl (by decide) rfl ?_
  refine wp_iload dd_X11_shiftedOf_51 rfl ?_
  refine wp_iload dd_X11_shiftedOf_53 rfl ?_
  refine wp_iconst dd_X11_shiftedOf_55 (zr_lit rfl) ?_
  refine wp_iaddC dd_X11_shiftedOf_56 (by decide) ?_
  show zw_Wp l mm_X11_shiftedOf (zS L) 57 [some (zR 67), some (zI q), some (zI 1), some (zI j), some (zI ((((0 + ((((1 % mem 67 1) * 1) % (mem 67 1)) * (ztd mem q (5 * 1 + j)))) % (mem 67 1)) + ((((2 % mem 67 1) * ((1 * ((mem 71 q) % mem 67 1)) % (mem 67 1))) % (mem 67 1)) * (ztd mem q (5 * 2 + j)))) % (mem 67 1))), some (zI 2), some (zI ((1 * ((mem 71 q) % mem 67 1)) % (mem 67 1))), some (zI 2)] [zI 3, zI 2] mem 0 0 Q
  refine wp_imulC dd_X11_shiftedOf_57 (by decide) ?_
  show zw_Wp l mm_X11_shiftedOf (zS L) 58 [some (zR 67), some (zI q), some (zI 1), some (zI j), some (zI ((((0 + ((((1 % mem 67 1) * 1) % (mem 67 1)) * (ztd mem q (5 * 1 + j)))) % (mem 67 1)) + ((((2 % mem 67 1) * ((1 * ((mem 71 q) % mem 67 1)) % (mem 67 1))) % (mem 67 1)) * (ztd mem q (5 * 2 + j)))) % (mem 67 1))), some (zI 2), some (zI ((1 * ((mem 71 q) % mem 67 1)) % (mem 67 1))), some (zI 2)] [zI 6] mem 0 0 Q
  refine wp_iload dd_X11_shiftedOf_58 rfl ?_
  refine wp_iconst dd_X11_shiftedOf_60 (zr_lit rfl) ?_
  refine wp_iaddC dd_X11_shiftedOf_61 (by decide) ?_
  show zw_Wp l mm_X11_shiftedOf (zS L) 62 [some (zR 67), some (zI q), some (zI 1), some (zI j), some (zI ((((0 + ((((1 % mem 67 1) * 1) % (mem 67 1)) * (ztd mem q (5 * 1 + j)))) % (mem 67 1)) + ((((2 % mem 67 1) * ((1 * ((mem 71 q) % mem 67 1)) % (mem 67 1))) % (mem 67 1)) * (ztd mem q (5 * 2 + j)))) % (mem 67 1))), some (zI 2), some (zI ((1 * ((mem 71 q) % mem 67 1)) % (mem 67 1))), some (zI 2)] [zI 3, zI 6] mem 0 0 Q
  refine wp_iload_n dd_X11_shiftedOf_62 rfl ?_
  refine wp_isubC dd_X11_shiftedOf_63 (by decide) ?_
  show zw_Wp l mm_X11_shiftedOf (zS L) 64 [some (zR 67), some (zI q), some (zI 1), some (zI j), some (zI ((((0 + ((((1 % mem 67 1) * 1) % (mem 67 1)) * (ztd mem q (5 * 1 + j)))) % (mem 67 1)) + ((((2 % mem 67 1) * ((1 * ((mem 71 q) % mem 67 1)) % (mem 67 1))) % (mem 67 1)) * (ztd mem q (5 * 2 + j)))) % (mem 67 1))), some (zI 2), some (zI ((1 * ((mem 71 q) % mem 67 1)) % (mem 67 1))), some (zI 2)] [zI 2, zI 6] mem 0 0 Q
  refine wp_idivP dd_X11_shiftedOf_64 (by decide) (by decide) ?_
  show zw_Wp l mm_X11_shiftedOf (zS L) 65 [some (zR 67), some (zI q), some (zI 1), some (zI j), some (zI ((((0 + ((((1 % mem 67 1) * 1) % (mem 67 1)) * (ztd mem q (5 * 1 + j)))) % (mem 67 1)) + ((((2 % mem 67 1) * ((1 * ((mem 71 q) % mem 67 1)) % (mem 67 1))) % (mem 67 1)) * (ztd mem q (5 * 2 + j)))) % (mem 67 1))), some (zI 2), some (zI ((1 * ((mem 71 q) % mem 67 1)) % (mem 67 1))), some (zI 2)] [zI 3] mem 0 0 Q
  refine wp_istore (ls2 := [some (zR 67), some (zI q), some (zI 1), some (zI j), some (zI ((((0 + ((((1 % mem 67 1) * 1) % (mem 67 1)) * (ztd mem q (5 * 1 + j)))) % (mem 67 1)) + ((((2 % mem 67 1) * ((1 * ((mem 71 q) % mem 67 1)) % (mem 67 1))) % (mem 67 1)) * (ztd mem q (5 * 2 + j)))) % (mem 67 1))), some (zI 3), some (zI ((1 * ((mem 71 q) % mem 67 1)) % (mem 67 1))), some (zI 2)]) dd_X11_shiftedOf_65 rfl (by decide) rfl ?_
  refine wp_iload dd_X11_shiftedOf_67 rfl ?_
  refine wp_aload_n dd_X11_shiftedOf_69 rfl ?_
  refine wp_aload_n dd_X11_shiftedOf_70 rfl ?_
  refine wp_getR dd_X11_shiftedOf_71 gf_X11_37 rfl kk_67 (by decide) (zlt rfl) rr_67_4 ?_
  refine wp_iload_n dd_X11_shiftedOf_74 rfl ?_
  refine wp_iald dd_X11_shiftedOf_75 kk_71 (zlt rfl) (by omega) (by omega) ?_
  refine wp_callV (M' := mm_X11_rest) (As := [zI (mem 71 q)]) (rest := [zI ((1 * ((mem 71 q) % mem 67 1)) % (mem 67 1))]) dd_X11_shiftedOf_76 lk_X11_13 mV_X11_rest kk_67 (zlt rfl) ⟨_, _, rfl⟩ rfl (by decide) (by decide) (Nat.le_of_ble_eq_true rfl) rfl (sp_X11_rest  (mem 71 q) (by first | assumption | omega) ?_)
  show zw_Wp l mm_X11_shiftedOf (zS L) 79 [some (zR 67), some (zI q), some (zI 1), some (zI j), some (zI ((((0 + ((((1 % mem 67 1) * 1) % (mem 67 1)) * (ztd mem q (5 * 1 + j)))) % (mem 67 1)) + ((((2 % mem 67 1) * ((1 * ((mem 71 q) % mem 67 1)) % (mem 67 1))) % (mem 67 1)) * (ztd mem q (5 * 2 + j)))) % (mem 67 1))), some (zI 3), some (zI ((1 * ((mem 71 q) % mem 67 1)) % (mem 67 1))), some (zI 2)] [zI ((mem 71 q) % mem 67 1), zI ((1 * ((mem 71 q) % mem 67 1)) % (mem 67 1))] mem 0 0 Q
  refine wp_imulC dd_X11_shiftedOf_79 (by omega) ?_
  refine wp_aload_n dd_X11_shiftedOf_80 rfl ?_
  refine wp_getZ 1 rfl dd_X11_shiftedOf_81 gf_X11_9 rfl kk_67 (by decide) (zlt rfl) ?_
  refine wp_iremP dd_X11_shiftedOf_84 (by omega) (by omega) ?_
  refine wp_istore (ls2 := [some (zR 67), some (zI q), some (zI 1), some (zI j), some (zI ((((0 + ((((1 % mem 67 1) * 1) % (mem 67 1)) * (ztd mem q (5 * 1 + j)))) % (mem 67 1)) + ((((2 % mem 67 1) * ((1 * ((mem 71 q) % mem 67 1)) % (mem 67 1))) % (mem 67 1)) * (ztd mem q (5 * 2 + j)))) % (mem 67 1))), some (zI 3), some (zI ((((1 * ((mem 71 q) % mem 67 1)) % (mem 67 1)) * ((mem 71 q) % mem 67 1)) % (mem 67 1))), some (zI 2)]) dd_X11_shiftedOf_85 rfl (by decide) rfl ?_
  refine wp_iincC (ls2 := [some (zR 67), some (zI q), some (zI 1), some (zI j), some (zI ((((0 + ((((1 % mem 67 1) * 1) % (mem 67 1)) * (ztd mem q (5 * 1 + j)))) % (mem 67 1)) + ((((2 % mem 67 1) * ((1 * ((mem 71 q) % mem 67 1)) % (mem 67 1))) % (mem 67 1)) * (ztd mem q (5 * 2 + j)))) % (mem 67 1))), some (zI 3), some (zI ((((1 * ((mem 71 q) % mem 67 1)) % (mem 67 1)) * ((mem 71 q) % mem 67 1)) % (mem 67 1))), some (zI 3)]) dd_X11_shiftedOf_87 rfl rfl (by decide) (by omega) rfl ?_
  refine wp_goto (tgt := 12) dd_X11_shiftedOf_90 (by decide) ?_
  refine wp_iload dd_X11_shiftedOf_12 rfl ?_
  refine wp_iconst dd_X11_shiftedOf_14 (zr_lit rfl) ?_
  refine wp_icmp_ge (tgt := 93) dd_X11_shiftedOf_15 (by decide) (fun c15_3 => absurd c15_3 (by decide)) (fun c15_3 => ?_)
  have hb3 : 0 ≤ ((((1 * ((mem 71 q) % mem 67 1)) % (mem 67 1)) * ((mem 71 q) % mem 67 1)) % (mem 67 1)) ∧ ((((1 * ((mem 71 q) % mem 67 1)) % (mem 67 1)) * ((mem 71 q) % mem 67 1)) % (mem 67 1)) < mem 67 1 := by first | exact zm_rg (by omega) | omega
  have hv3 : 0 ≤ ((((0 + ((((1 % mem 67 1) * 1) % (mem 67 1)) * (ztd mem q (5 * 1 + j)))) % (mem 67 1)) + ((((2 % mem 67 1) * ((1 * ((mem 71 q) % mem 67 1)) % (mem 67 1))) % (mem 67 1)) * (ztd mem q (5 * 2 + j)))) % (mem 67 1)) ∧ ((((0 + ((((1 % mem 67 1) * 1) % (mem 67 1)) * (ztd mem q (5 * 1 + j)))) % (mem 67 1)) + ((((2 % mem 67 1) * ((1 * ((mem 71 q) % mem 67 1)) % (mem 67 1))) % (mem 67 1)) * (ztd mem q (5 * 2 + j)))) % (mem 67 1)) < mem 67 1 := by first | exact zm_rg (by omega) | omega
  have hw3 := zm_rg (a := 3) (p := mem 67 1) (by omega)
  have hm3 := zmul_rg (a := 3 % mem 67 1) (b := ((((1 * ((mem 71 q) % mem 67 1)) % (mem 67 1)) * ((mem 71 q) % mem 67 1)) % (mem 67 1))) (A := 31) (B := 31) (by omega) (by omega) (by omega) (by omega)
  have hx3 := zm_rg (a := 3 % mem 67 1 * ((((1 * ((mem 71 q) % mem 67 1)) % (mem 67 1)) * ((mem 71 q) % mem 67 1)) % (mem 67 1))) (p := mem 67 1) (by omega)
  have ht3 := ht (5 * 3 + j) (by omega) (by omega)
  have hy3 := zmul_rg (a := 3 % mem 67 1 * ((((1 * ((mem 71 q) % mem 67 1)) % (mem 67 1)) * ((mem 71 q) % mem 67 1)) % (mem 67 1)) % mem 67 1) (b := ztd mem q (5 * 3 + j)) (A := 31) (B := 31) (by omega) (by omega) (by omega) (by omega)
  have hz3 := zmul_rg (a := ((((1 * ((mem 71 q) % mem 67 1)) % (mem 67 1)) * ((mem 71 q) % mem 67 1)) % (mem 67 1))) (b := mem 71 q % mem 67 1) (A := 31) (B := 31) (by omega) (by omega) (by omega) (by omega)
  refine wp_iload dd_X11_shiftedOf_18 rfl ?_
  refine wp_aload_n dd_X11_shiftedOf_20 rfl ?_
  refine wp_iload dd_X11_shiftedOf_21 rfl ?_
  refine wp_callV (M' := mm_X11_rest) (As := [zI 3]) (rest := [zI ((((0 + ((((1 % mem 67 1) * 1) % (mem 67 1)) * (ztd mem q (5 * 1 + j)))) % (mem 67 1)) + ((((2 % mem 67 1) * ((1 * ((mem 71 q) % mem 67 1)) % (mem 67 1))) % (mem 67 1)) * (ztd mem q (5 * 2 + j)))) % (mem 67 1))]) dd_X11_shiftedOf_23 lk_X11_13 mV_X11_rest kk_67 (zlt rfl) ⟨_, _, rfl⟩ rfl (by decide) (by decide) (Nat.le_of_ble_eq_true rfl) rfl (sp_X11_rest  3 (by first | assumption | omega) ?_)
  show zw_Wp l mm_X11_shiftedOf (zS L) 26 [some (zR 67), some (zI q), some (zI 1), some (zI j), some (zI ((((0 + ((((1 % mem 67 1) * 1) % (mem 67 1)) * (ztd mem q (5 * 1 + j)))) % (mem 67 1)) + ((((2 % mem 67 1) * ((1 * ((mem 71 q) % mem 67 1)) % (mem 67 1))) % (mem 67 1)) * (ztd mem q (5 * 2 + j)))) % (mem 67 1))), some (zI 3), some (zI ((((1 * ((mem 71 q) % mem 67 1)) % (mem 67 1)) * ((mem 71 q) % mem 67 1)) % (mem 67 1))), some (zI 3)] [zI (3 % mem 67 1), zI ((((0 + ((((1 % mem 67 1) * 1) % (mem 67 1)) * (ztd mem q (5 * 1 + j)))) % (mem 67 1)) + ((((2 % mem 67 1) * ((1 * ((mem 71 q) % mem 67 1)) % (mem 67 1))) % (mem 67 1)) * (ztd mem q (5 * 2 + j)))) % (mem 67 1))] mem 0 0 Q
  refine wp_iload dd_X11_shiftedOf_26 rfl ?_
  refine wp_imulC dd_X11_shiftedOf_28 (by omega) ?_
  refine wp_aload_n dd_X11_shiftedOf_29 rfl ?_
  refine wp_getZ 1 rfl dd_X11_shiftedOf_30 gf_X11_9 rfl kk_67 (by decide) (zlt rfl) ?_
  refine wp_iremP dd_X11_shiftedOf_33 (by omega) (by omega) ?_
  refine wp_aload_n dd_X11_shiftedOf_34 rfl ?_
  refine wp_iload_n dd_X11_shiftedOf_35 rfl ?_
  refine wp_iload dd_X11_shiftedOf_36 rfl ?_
  refine wp_iload_n dd_X11_shiftedOf_38 rfl ?_
  refine wp_callV (M' := mm_X11_toldOf) (As := [zI q, zI 3, zI j]) (rest := [zI (((3 % mem 67 1) * ((((1 * ((mem 71 q) % mem 67 1)) % (mem 67 1)) * ((mem 71 q) % mem 67 1)) % (mem 67 1))) % (mem 67 1)), zI ((((0 + ((((1 % mem 67 1) * 1) % (mem 67 1)) * (ztd mem q (5 * 1 + j)))) % (mem 67 1)) + ((((2 % mem 67 1) * ((1 * ((mem 71 q) % mem 67 1)) % (mem 67 1))) % (mem 67 1)) * (ztd mem q (5 * 2 + j)))) % (mem 67 1))]) dd_X11_shiftedOf_39 lk_X11_98 mV_X11_toldOf kk_67 (zlt rfl) ⟨_, _, rfl⟩ rfl (by decide) (by decide) (Nat.le_of_ble_eq_true rfl) rfl (sp_X11_toldOf  q 3 j (by first | assumption | omega) (by decide) (by first | assumption | omega) ?_)
  show zw_Wp l mm_X11_shiftedOf (zS L) 42 [some (zR 67), some (zI q), some (zI 1), some (zI j), some (zI ((((0 + ((((1 % mem 67 1) * 1) % (mem 67 1)) * (ztd mem q (5 * 1 + j)))) % (mem 67 1)) + ((((2 % mem 67 1) * ((1 * ((mem 71 q) % mem 67 1)) % (mem 67 1))) % (mem 67 1)) * (ztd mem q (5 * 2 + j)))) % (mem 67 1))), some (zI 3), some (zI ((((1 * ((mem 71 q) % mem 67 1)) % (mem 67 1)) * ((mem 71 q) % mem 67 1)) % (mem 67 1))), some (zI 3)] [zI (ztd mem q (5 * 3 + j)), zI (((3 % mem 67 1) * ((((1 * ((mem 71 q) % mem 67 1)) % (mem 67 1)) * ((mem 71 q) % mem 67 1)) % (mem 67 1))) % (mem 67 1)), zI ((((0 + ((((1 % mem 67 1) * 1) % (mem 67 1)) * (ztd mem q (5 * 1 + j)))) % (mem 67 1)) + ((((2 % mem 67 1) * ((1 * ((mem 71 q) % mem 67 1)) % (mem 67 1))) % (mem 67 1)) * (ztd mem q (5 * 2 + j)))) % (mem 67 1))] mem 0 0 Q
  refine wp_imulC dd_X11_shiftedOf_42 (by omega) ?_
  refine wp_iaddC dd_X11_shiftedOf_43 (by omega) ?_
  refine wp_aload_n dd_X11_shiftedOf_44 rfl ?_
  refine wp_getZ 1 rfl dd_X11_shiftedOf_45 gf_X11_9 rfl kk_67 (by decide) (zlt rfl) ?_
  refine wp_iremP dd_X11_shiftedOf_48 (by omega) (by omega) ?_
  refine wp_istore (ls2 := [some (zR 67), some (zI q), some (zI 1), some (zI j), some (zI ((((((0 + ((((1 % mem 67 1) * 1) % (mem 67 1)) * (ztd mem q (5 * 1 + j)))) % (mem 67 1)) + ((((2 % mem 67 1) * ((1 * ((mem 71 q) % mem 67 1)) % (mem 67 1))) % (mem 67 1)) * (ztd mem q (5 * 2 + j)))) % (mem 67 1)) + ((((3 % mem 67 1) * ((((1 * ((mem 71 q) % mem 67 1)) % (mem 67 1)) * ((mem 71 q) % mem 67 1)) % (mem 67 1))) % (mem 67 1)) * (ztd mem q (5 * 3 + j)))) % (mem 67 1))), some (zI 3), some (zI ((((1 * ((mem 71 q) % mem 67 1)) % (mem 67 1)) * ((mem 71 q) % mem 67 1)) % (mem 67 1))), some (zI 3)]) dd_X11_shiftedOf_49 rfl (by decide) rfl ?_
  refine wp_iload dd_X11_shiftedOf_51 rfl ?_
  refine wp_iload dd_X11_shiftedOf_53 rfl ?_
  refine wp_iconst dd_X11_shiftedOf_55 (zr_lit rfl) ?_
  refine wp_iaddC dd_X11_shiftedOf_56 (by decide) ?_
  show zw_Wp l mm_X11_shiftedOf (zS L) 57 [some (zR 67), some (zI q), some (zI 1), some (zI j), some (zI ((((((0 + ((((1 % mem 67 1) * 1) % (mem 67 1)) * (ztd mem q (5 * 1 + j)))) % (mem 67 1)) + ((((2 % mem 67 1) * ((1 * ((mem 71 q) % mem 67 1)) % (mem 67 1))) % (mem 67 1)) * (ztd mem q (5 * 2 + j)))) % (mem 67 1)) + ((((3 % mem 67 1) * ((((1 * ((mem 71 q) % mem 67 1)) % (mem 67 1)) * ((mem 71 q) % mem 67 1)) % (mem 67 1))) % (mem 67 1)) * (ztd mem q (5 * 3 + j)))) % (mem 67 1))), some (zI 3), some (zI ((((1 * ((mem 71 q) % mem 67 1)) % (mem 67 1)) * ((mem 71 q) % mem 67 1)) % (mem 67 1))), some (zI 3)] [zI 4, zI 3] mem 0 0 Q
  refine wp_imulC dd_X11_shiftedOf_57 (by decide) ?_
  show zw_Wp l mm_X11_shiftedOf (zS L) 58 [some (zR 67), some (zI q), some (zI 1), some (zI j), some (zI ((((((0 + ((((1 % mem 67 1) * 1) % (mem 67 1)) * (ztd mem q (5 * 1 + j)))) % (mem 67 1)) + ((((2 % mem 67 1) * ((1 * ((mem 71 q) % mem 67 1)) % (mem 67 1))) % (mem 67 1)) * (ztd mem q (5 * 2 + j)))) % (mem 67 1)) + ((((3 % mem 67 1) * ((((1 * ((mem 71 q) % mem 67 1)) % (mem 67 1)) * ((mem 71 q) % mem 67 1)) % (mem 67 1))) % (mem 67 1)) * (ztd mem q (5 * 3 + j)))) % (mem 67 1))), some (zI 3), some (zI ((((1 * ((mem 71 q) % mem 67 1)) % (mem 67 1)) * ((mem 71 q) % mem 67 1)) % (mem 67 1))), some (zI 3)] [zI 12] mem 0 0 Q
  refine wp_iload dd_X11_shiftedOf_58 rfl ?_
  refine wp_iconst dd_X11_shiftedOf_60 (zr_lit rfl) ?_
  refine wp_iaddC dd_X11_shiftedOf_61 (by decide) ?_
  show zw_Wp l mm_X11_shiftedOf (zS L) 62 [some (zR 67), some (zI q), some (zI 1), some (zI j), some (zI ((((((0 + ((((1 % mem 67 1) * 1) % (mem 67 1)) * (ztd mem q (5 * 1 + j)))) % (mem 67 1)) + ((((2 % mem 67 1) * ((1 * ((mem 71 q) % mem 67 1)) % (mem 67 1))) % (mem 67 1)) * (ztd mem q (5 * 2 + j)))) % (mem 67 1)) + ((((3 % mem 67 1) * ((((1 * ((mem 71 q) % mem 67 1)) % (mem 67 1)) * ((mem 71 q) % mem 67 1)) % (mem 67 1))) % (mem 67 1)) * (ztd mem q (5 * 3 + j)))) % (mem 67 1))), some (zI 3), some (zI ((((1 * ((mem 71 q) % mem 67 1)) % (mem 67 1)) * ((mem 71 q) % mem 67 1)) % (mem 67 1))), some (zI 3)] [zI 4, zI 12] mem 0 0 Q
  refine wp_iload_n dd_X11_shiftedOf_62 rfl ?_
  refine wp_isubC dd_X11_shiftedOf_63 (by decide) ?_
  show zw_Wp l mm_X11_shiftedOf (zS L) 64 [some (zR 67), some (zI q), some (zI 1), some (zI j), some (zI ((((((0 + ((((1 % mem 67 1) * 1) % (mem 67 1)) * (ztd mem q (5 * 1 + j)))) % (mem 67 1)) + ((((2 % mem 67 1) * ((1 * ((mem 71 q) % mem 67 1)) % (mem 67 1))) % (mem 67 1)) * (ztd mem q (5 * 2 + j)))) % (mem 67 1)) + ((((3 % mem 67 1) * ((((1 * ((mem 71 q) % mem 67 1)) % (mem 67 1)) * ((mem 71 q) % mem 67 1)) % (mem 67 1))) % (mem 67 1)) * (ztd mem q (5 * 3 + j)))) % (mem 67 1))), some (zI 3), some (zI ((((1 * ((mem 71 q) % mem 67 1)) % (mem 67 1)) * ((mem 71 q) % mem 67 1)) % (mem 67 1))), some (zI 3)] [zI 3, zI 12] mem 0 0 Q
  refine wp_idivP dd_X11_shiftedOf_64 (by decide) (by decide) ?_
  show zw_Wp l mm_X11_shiftedOf (zS L) 65 [some (zR 67), some (zI q), some (zI 1), some (zI j), some (zI ((((((0 + ((((1 % mem 67 1) * 1) % (mem 67 1)) * (ztd mem q (5 * 1 + j)))) % (mem 67 1)) + ((((2 % mem 67 1) * ((1 * ((mem 71 q) % mem 67 1)) % (mem 67 1))) % (mem 67 1)) * (ztd mem q (5 * 2 + j)))) % (mem 67 1)) + ((((3 % mem 67 1) * ((((1 * ((mem 71 q) % mem 67 1)) % (mem 67 1)) * ((mem 71 q) % mem 67 1)) % (mem 67 1))) % (mem 67 1)) * (ztd mem q (5 * 3 + j)))) % (mem 67 1))), some (zI 3), some (zI ((((1 * ((mem 71 q) % mem 67 1)) % (mem 67 1)) * ((mem 71 q) % mem 67 1)) % (mem 67 1))), some (zI 3)] [zI 4] mem 0 0 Q
  refine wp_istore (ls2 := [some (zR 67), some (zI q), some (zI 1), some (zI j), some (zI ((((((0 + ((((1 % mem 67 1) * 1) % (mem 67 1)) * (ztd mem q (5 * 1 + j)))) % (mem 67 1)) + ((((2 % mem 67 1) * ((1 * ((mem 71 q) % mem 67 1)) % (mem 67 1))) % (mem 67 1)) * (ztd mem q (5 * 2 + j)))) % (mem 67 1)) + ((((3 % mem 67 1) * ((((1 * ((mem 71 q) % mem 67 1)) % (mem 67 1)) * ((mem 71 q) % mem 67 1)) % (mem 67 1))) % (mem 67 1)) * (ztd mem q (5 * 3 + j)))) % (mem 67 1))), some (zI 4), some (zI ((((1 * ((mem 71 q) % mem 67 1)) % (mem 67 1)) * ((mem 71 q) % mem 67 1)) % (mem 67 1))), some (zI 3)]) dd_X11_shiftedOf_65 rfl (by decide) rfl ?_
  refine wp_iload dd_X11_shiftedOf_67 rfl ?_
  refine wp_aload_n dd_X11_shiftedOf_69 rfl ?_
  refine wp_aload_n dd_X11_shiftedOf_70 rfl ?_
  refine wp_getR dd_X11_shiftedOf_71 gf_X11_37 rfl kk_67 (by decide) (zlt rfl) rr_67_4 ?_
  refine wp_iload_n dd_X11_shiftedOf_74 rfl ?_
  refine wp_iald dd_X11_shiftedOf_75 kk_71 (zlt rfl) (by omega) (by omega) ?_
  refine wp_callV (M' := mm_X11_rest) (As := [zI (mem 71 q)]) (rest := [zI ((((1 * ((mem 71 q) % mem 67 1)) % (mem 67 1)) * ((mem 71 q) % mem 67 1)) % (mem 67 1))]) dd_X11_shiftedOf_76 lk_X11_13 mV_X11_rest kk_67 (zlt rfl) ⟨_, _, rfl⟩ rfl (by decide) (by decide) (Nat.le_of_ble_eq_true rfl) rfl (sp_X11_rest  (mem 71 q) (by first | assumption | omega) ?_)
  show zw_Wp l mm_X11_shiftedOf (zS L) 79 [some (zR 67), some (zI q), some (zI 1), some (zI j), some (zI ((((((0 + ((((1 % mem 67 1) * 1) % (mem 67 1)) * (ztd mem q (5 * 1 + j)))) % (mem 67 1)) + ((((2 % mem 67 1) * ((1 * ((mem 71 q) % mem 67 1)) % (mem 67 1))) % (mem 67 1)) * (ztd mem q (5 * 2 + j)))) % (mem 67 1)) + ((((3 % mem 67 1) * ((((1 * ((mem 71 q) % mem 67 1)) % (mem 67 1)) * ((mem 71 q) % mem 67 1)) % (mem 67 1))) % (mem 67 1)) * (ztd mem q (5 * 3 + j)))) % (mem 67 1))), some (zI 4), some (zI ((((1 * ((mem 71 q) % mem 67 1)) % (mem 67 1)) * ((mem 71 q) % mem 67 1)) % (mem 67 1))), some (zI 3)] [zI ((mem 71 q) % mem 67 1), zI ((((1 * ((mem 71 q) % mem 67 1)) % (mem 67 1)) * ((mem 71 q) % mem 67 1)) % (mem 67 1))] mem 0 0 Q
  refine wp_imulC dd_X11_shiftedOf_79 (by omega) ?_
  refine wp_aload_n dd_X11_shiftedOf_80 rfl ?_
  refine wp_getZ 1 rfl dd_X11_shiftedOf_81 gf_X11_9 rfl kk_67 (by decide) (zlt rfl) ?_
  refine wp_iremP dd_X11_shiftedOf_84 (by omega) (by omega) ?_
  refine wp_istore (ls2 := [some (zR 67), some (zI q), some (zI 1), some (zI j), some (zI ((((((0 + ((((1 % mem 67 1) * 1) % (mem 67 1)) * (ztd mem q (5 * 1 + j)))) % (mem 67 1)) + ((((2 % mem 67 1) * ((1 * ((mem 71 q) % mem 67 1)) % (mem 67 1))) % (mem 67 1)) * (ztd mem q (5 * 2 + j)))) % (mem 67 1)) + ((((3 % mem 67 1) * ((((1 * ((mem 71 q) % mem 67 1)) % (mem 67 1)) * ((mem 71 q) % mem 67 1)) % (mem 67 1))) % (mem 67 1)) * (ztd mem q (5 * 3 + j)))) % (mem 67 1))), some (zI 4), some (zI ((((((1 * ((mem 71 q) % mem 67 1)) % (mem 67 1)) * ((mem 71 q) % mem 67 1)) % (mem 67 1)) * ((mem 71 q) % mem 67 1)) % (mem 67 1))), some (zI 3)]) dd_X11_shiftedOf_85 rfl (by decide) rfl ?_
  refine wp_iincC (ls2 := [some (zR 67), some (zI q), some (zI 1), some (zI j), some (zI ((((((0 + ((((1 % mem 67 1) * 1) % (mem 67 1)) * (ztd mem q (5 * 1 + j)))) % (mem 67 1)) + ((((2 % mem 67 1) * ((1 * ((mem 71 q) % mem 67 1)) % (mem 67 1))) % (mem 67 1)) * (ztd mem q (5 * 2 + j)))) % (mem 67 1)) + ((((3 % mem 67 1) * ((((1 * ((mem 71 q) % mem 67 1)) % (mem 67 1)) * ((mem 71 q) % mem 67 1)) % (mem 67 1))) % (mem 67 1)) * (ztd mem q (5 * 3 + j)))) % (mem 67 1))), some (zI 4), some (zI ((((((1 * ((mem 71 q) % mem 67 1)) % (mem 67 1)) * ((mem 71 q) % mem 67 1)) % (mem 67 1)) * ((mem 71 q) % mem 67 1)) % (mem 67 1))), some (zI 4)]) dd_X11_shiftedOf_87 rfl rfl (by decide) (by omega) rfl ?_
  refine wp_goto (tgt := 12) dd_X11_shiftedOf_90 (by decide) ?_
  refine wp_iload dd_X11_shiftedOf_12 rfl ?_
  refine wp_iconst dd_X11_shiftedOf_14 (zr_lit rfl) ?_
  refine wp_icmp_ge (tgt := 93) dd_X11_shiftedOf_15 (by decide) (fun c15_4 => absurd c15_4 (by decide)) (fun c15_4 => ?_)
  have hb4 : 0 ≤ ((((((1 * ((mem 71 q) % mem 67 1)) % (mem 67 1)) * ((mem 71 q) % mem 67 1)) % (mem 67 1)) * ((mem 71 q) % mem 67 1)) % (mem 67 1)) ∧ ((((((1 * ((mem 71 q) % mem 67 1)) % (mem 67 1)) * ((mem 71 q) % mem 67 1)) % (mem 67 1)) * ((mem 71 q) % mem 67 1)) % (mem 67 1)) < mem 67 1 := by first | exact zm_rg (by omega) | omega
  have hv4 : 0 ≤ ((((((0 + ((((1 % mem 67 1) * 1) % (mem 67 1)) * (ztd mem q (5 * 1 + j)))) % (mem 67 1)) + ((((2 % mem 67 1) * ((1 * ((mem 71 q) % mem 67 1)) % (mem 67 1))) % (mem 67 1)) * (ztd mem q (5 * 2 + j)))) % (mem 67 1)) + ((((3 % mem 67 1) * ((((1 * ((mem 71 q) % mem 67 1)) % (mem 67 1)) * ((mem 71 q) % mem 67 1)) % (mem 67 1))) % (mem 67 1)) * (ztd mem q (5 * 3 + j)))) % (mem 67 1)) ∧ ((((((0 + ((((1 % mem 67 1) * 1) % (mem 67 1)) * (ztd mem q (5 * 1 + j)))) % (mem 67 1)) + ((((2 % mem 67 1) * ((1 * ((mem 71 q) % mem 67 1)) % (mem 67 1))) % (mem 67 1)) * (ztd mem q (5 * 2 + j)))) % (mem 67 1)) + ((((3 % mem 67 1) * ((((1 * ((mem 71 q) % mem 67 1)) % (mem 67 1)) * ((mem 71 q) % mem 67 1)) % (mem 67 1))) % (mem 67 1)) * (ztd mem q (5 * 3 + j)))) % (mem 67 1)) < mem 67 1 := by first | exact zm_rg (by omega) | omega
  have hw4 := zm_rg (a := 4) (p := mem 67 1) (by omega)
  have hm4 := zmul_rg (a := 4 % mem 67 1) (b := ((((((1 * ((mem 71 q) % mem 67 1)) % (mem 67 1)) * ((mem 71 q) % mem 67 1)) % (mem 67 1)) * ((mem 71 q) % mem 67 1)) % (mem 67 1))) (A := 31) (B := 31) (by omega) (by omega) (by omega) (by omega)
  have hx4 := zm_rg (a := 4 % mem 67 1 * ((((((1 * ((mem 71 q) % mem 67 1)) % (mem 67 1)) * ((mem 71 q) % mem 67 1)) % (mem 67 1)) * ((mem 71 q) % mem 67 1)) % (mem 67 1))) (p := mem 67 1) (by omega)
  have ht4 := ht (5 * 4 + j) (by omega) (by omega)
  have hy4 := zmul_rg (a := 4 % mem 67 1 * ((((((1 * ((mem 71 q) % mem 67 1)) % (mem 67 1)) * ((mem 71 q) % mem 67 1)) % (mem 67 1)) * ((mem 71 q) % mem 67 1)) % (mem 67 1)) % mem 67 1) (b := ztd mem q (5 * 4 + j)) (A := 31) (B := 31) (by omega) (by omega) (by omega) (by omega)
  have hz4 := zmul_rg (a := ((((((1 * ((mem 71 q) % mem 67 1)) % (mem 67 1)) * ((mem 71 q) % mem 67 1)) % (mem 67 1)) * ((mem 71 q) % mem 67 1)) % (mem 67 1))) (b := mem 71 q % mem 67 1) (A := 31) (B := 31) (by omega) (by omega) (by omega) (by omega)
  refine wp_iload dd_X11_shiftedOf_18 rfl ?_
  refine wp_aload_n dd_X11_shiftedOf_20 rfl ?_
  refine wp_iload dd_X11_shiftedOf_21 rfl ?_
  refine wp_callV (M' := mm_X11_rest) (As := [zI 4]) (rest := [zI ((((((0 + ((((1 % mem 67 1) * 1) % (mem 67 1)) * (ztd mem q (5 * 1 + j)))) % (mem 67 1)) + ((((2 % mem 67 1) * ((1 * ((mem 71 q) % mem 67 1)) % (mem 67 1))) % (mem 67 1)) * (ztd mem q (5 * 2 + j)))) % (mem 67 1)) + ((((3 % mem 67 1) * ((((1 * ((mem 71 q) % mem 67 1)) % (mem 67 1)) * ((mem 71 q) % mem 67 1)) % (mem 67 1))) % (mem 67 1)) * (ztd mem q (5 * 3 + j)))) % (mem 67 1))]) dd_X11_shiftedOf_23 lk_X11_13 mV_X11_rest kk_67 (zlt rfl) ⟨_, _, rfl⟩ rfl (by decide) (by decide) (Nat.le_of_ble_eq_true rfl) rfl (sp_X11_rest  4 (by first | assumption | omega) ?_)
  show zw_Wp l mm_X11_shiftedOf (zS L) 26 [some (zR 67), some (zI q), some (zI 1), some (zI j), some (zI ((((((0 + ((((1 % mem 67 1) * 1) % (mem 67 1)) * (ztd mem q (5 * 1 + j)))) % (mem 67 1)) + ((((2 % mem 67 1) * ((1 * ((mem 71 q) % mem 67 1)) % (mem 67 1))) % (mem 67 1)) * (ztd mem q (5 * 2 + j)))) % (mem 67 1)) + ((((3 % mem 67 1) * ((((1 * ((mem 71 q) % mem 67 1)) % (mem 67 1)) * ((mem 71 q) % mem 67 1)) % (mem 67 1))) % (mem 67 1)) * (ztd mem q (5 * 3 + j)))) % (mem 67 1))), some (zI 4), some (zI ((((((1 * ((mem 71 q) % mem 67 1)) % (mem 67 1)) * ((mem 71 q) % mem 67 1)) % (mem 67 1)) * ((mem 71 q) % mem 67 1)) % (mem 67 1))), some (zI 4)] [zI (4 % mem 67 1), zI ((((((0 + ((((1 % mem 67 1) * 1) % (mem 67 1)) * (ztd mem q (5 * 1 + j)))) % (mem 67 1)) + ((((2 % mem 67 1) * ((1 * ((mem 71 q) % mem 67 1)) % (mem 67 1))) % (mem 67 1)) * (ztd mem q (5 * 2 + j)))) % (mem 67 1)) + ((((3 % mem 67 1) * ((((1 * ((mem 71 q) % mem 67 1)) % (mem 67 1)) * ((mem 71 q) % mem 67 1)) % (mem 67 1))) % (mem 67 1)) * (ztd mem q (5 * 3 + j)))) % (mem 67 1))] mem 0 0 Q
  refine wp_iload dd_X11_shiftedOf_26 rfl ?_
  refine wp_imulC dd_X11_shiftedOf_28 (by omega) ?_
  refine wp_aload_n dd_X11_shiftedOf_29 rfl ?_
  refine wp_getZ 1 rfl dd_X11_shiftedOf_30 gf_X11_9 rfl kk_67 (by decide) (zlt rfl) ?_
  refine wp_iremP dd_X11_shiftedOf_33 (by omega) (by omega) ?_
  refine wp_aload_n dd_X11_shiftedOf_34 rfl ?_
  refine wp_iload_n dd_X11_shiftedOf_35 rfl ?_
  refine wp_iload dd_X11_shiftedOf_36 rfl ?_
  refine wp_iload_n dd_X11_shiftedOf_38 rfl ?_
  refine wp_callV (M' := mm_X11_toldOf) (As := [zI q, zI 4, zI j]) (rest := [zI (((4 % mem 67 1) * ((((((1 * ((mem 71 q) % mem 67 1)) % (mem 67 1)) * ((mem 71 q) % mem 67 1)) % (mem 67 1)) * ((mem 71 q) % mem 67 1)) % (mem 67 1))) % (mem 67 1)), zI ((((((0 + ((((1 % mem 67 1) * 1) % (mem 67 1)) * (ztd mem q (5 * 1 + j)))) % (mem 67 1)) + ((((2 % mem 67 1) * ((1 * ((mem 71 q) % mem 67 1)) % (mem 67 1))) % (mem 67 1)) * (ztd mem q (5 * 2 + j)))) % (mem 67 1)) + ((((3 % mem 67 1) * ((((1 * ((mem 71 q) % mem 67 1)) % (mem 67 1)) * ((mem 71 q) % mem 67 1)) % (mem 67 1))) % (mem 67 1)) * (ztd mem q (5 * 3 + j)))) % (mem 67 1))]) dd_X11_shiftedOf_39 lk_X11_98 mV_X11_toldOf kk_67 (zlt rfl) ⟨_, _, rfl⟩ rfl (by decide) (by decide) (Nat.le_of_ble_eq_true rfl) rfl (sp_X11_toldOf  q 4 j (by first | assumption | omega) (by decide) (by first | assumption | omega) ?_)
  show zw_Wp l mm_X11_shiftedOf (zS L) 42 [some (zR 67), some (zI q), some (zI 1), some (zI j), some (zI ((((((0 + ((((1 % mem 67 1) * 1) % (mem 67 1)) * (ztd mem q (5 * 1 + j)))) % (mem 67 1)) + ((((2 % mem 67 1) * ((1 * ((mem 71 q) % mem 67 1)) % (mem 67 1))) % (mem 67 1)) * (ztd mem q (5 * 2 + j)))) % (mem 67 1)) + ((((3 % mem 67 1) * ((((1 * ((mem 71 q) % mem 67 1)) % (mem 67 1)) * ((mem 71 q) % mem 67 1)) % (mem 67 1))) % (mem 67 1)) * (ztd mem q (5 * 3 + j)))) % (mem 67 1))), some (zI 4), some (zI ((((((1 * ((mem 71 q) % mem 67 1)) % (mem 67 1)) * ((mem 71 q) % mem 67 1)) % (mem 67 1)) * ((mem 71 q) % mem 67 1)) % (mem 67 1))), some (zI 4)] [zI (ztd mem q (5 * 4 + j)), zI (((4 % mem 67 1) * ((((((1 * ((mem 71 q) % mem 67 1)) % (mem 67 1)) * ((mem 71 q) % mem 67 1)) % (mem 67 1)) * ((mem 71 q) % mem 67 1)) % (mem 67 1))) % (mem 67 1)), zI ((((((0 + ((((1 % mem 67 1) * 1) % (mem 67 1)) * (ztd mem q (5 * 1 + j)))) % (mem 67 1)) + ((((2 % mem 67 1) * ((1 * ((mem 71 q) % mem 67 1)) % (mem 67 1))) % (mem 67 1)) * (ztd mem q (5 * 2 + j)))) % (mem 67 1)) + ((((3 % mem 67 1) * ((((1 * ((mem 71 q) % mem 67 1)) % (mem 67 1)) * ((mem 71 q) % mem 67 1)) % (mem 67 1))) % (mem 67 1)) * (ztd mem q (5 * 3 + j)))) % (mem 67 1))] mem 0 0 Q
  refine wp_imulC dd_X11_shiftedOf_42 (by omega) ?_
  refine wp_iaddC dd_X11_shiftedOf_43 (by omega) ?_
  refine wp_aload_n dd_X11_shiftedOf_44 rfl ?_
  refine wp_getZ 1 rfl dd_X11_shiftedOf_45 gf_X11_9 rfl kk_67 (by decide) (zlt rfl) ?_
  refine wp_iremP dd_X11_shiftedOf_48 (by omega) (by omega) ?_
  refine wp_istore (ls2 := [some (zR 67), some (zI q), some (zI 1), some (zI j), some (zI ((((((((0 + ((((1 % mem 67 1) * 1) % (mem 67 1)) * (ztd mem q (5 * 1 + j)))) % (mem 67 1)) + ((((2 % mem 67 1) * ((1 * ((mem 71 q) % mem 67 1)) % (mem 67 1))) % (mem 67 1)) * (ztd mem q (5 * 2 + j)))) % (mem 67 1)) + ((((3 % mem 67 1) * ((((1 * ((mem 71 q) % mem 67 1)) % (mem 67 1)) * ((mem 71 q) % mem 67 1)) % (mem 67 1))) % (mem 67 1)) * (ztd mem q (5 * 3 + j)))) % (mem 67 1)) + ((((4 % mem 67 1) * ((((((1 * ((mem 71 q) % mem 67 1)) % (mem 67 1)) * ((mem 71 q) % mem 67 1)) % (mem 67 1)) * ((mem 71 q) % mem 67 1)) % (mem 67 1))) % (mem 67 1)) * (ztd mem q (5 * 4 + j)))) % (mem 67 1))), some (zI 4), some (zI ((((((1 * ((mem 71 q) % mem 67 1)) % (mem 67 1)) * ((mem 71 q) % mem 67 1)) % (mem 67 1)) * ((mem 71 q) % mem 67 1)) % (mem 67 1))), some (zI 4)]) dd_X11_shiftedOf_49 rfl (by decide) rfl ?_
  refine wp_iload dd_X11_shiftedOf_51 rfl ?_
  refine wp_iload dd_X11_shiftedOf_53 rfl ?_
  refine wp_iconst dd_X11_shiftedOf_55 (zr_lit rfl) ?_
  refine wp_iaddC dd_X11_shiftedOf_56 (by decide) ?_
  show zw_Wp l mm_X11_shiftedOf (zS L) 57 [some (zR 67), some (zI q), some (zI 1), some (zI j), some (zI ((((((((0 + ((((1 % mem 67 1) * 1) % (mem 67 1)) * (ztd mem q (5 * 1 + j)))) % (mem 67 1)) + ((((2 % mem 67 1) * ((1 * ((mem 71 q) % mem 67 1)) % (mem 67 1))) % (mem 67 1)) * (ztd mem q (5 * 2 + j)))) % (mem 67 1)) + ((((3 % mem 67 1) * ((((1 * ((mem 71 q) % mem 67 1)) % (mem 67 1)) * ((mem 71 q) % mem 67 1)) % (mem 67 1))) % (mem 67 1)) * (ztd mem q (5 * 3 + j)))) % (mem 67 1)) + ((((4 % mem 67 1) * ((((((1 * ((mem 71 q) % mem 67 1)) % (mem 67 1)) * ((mem 71 q) % mem 67 1)) % (mem 67 1)) * ((mem 71 q) % mem 67 1)) % (mem 67 1))) % (mem 67 1)) * (ztd mem q (5 * 4 + j)))) % (mem 67 1))), some (zI 4), some (zI ((((((1 * ((mem 71 q) % mem 67 1)) % (mem 67 1)) * ((mem 71 q) % mem 67 1)) % (mem 67 1)) * ((mem 71 q) % mem 67 1)) % (mem 67 1))), some (zI 4)] [zI 5, zI 4] mem 0 0 Q
  refine wp_imulC dd_X11_shiftedOf_57 (by decide) ?_
  show zw_Wp l mm_X11_shiftedOf (zS L) 58 [some (zR 67), some (zI q), some (zI 1), some (zI j), some (zI ((((((((0 + ((((1 % mem 67 1) * 1) % (mem 67 1)) * (ztd mem q (5 * 1 + j)))) % (mem 67 1)) + ((((2 % mem 67 1) * ((1 * ((mem 71 q) % mem 67 1)) % (mem 67 1))) % (mem 67 1)) * (ztd mem q (5 * 2 + j)))) % (mem 67 1)) + ((((3 % mem 67 1) * ((((1 * ((mem 71 q) % mem 67 1)) % (mem 67 1)) * ((mem 71 q) % mem 67 1)) % (mem 67 1))) % (mem 67 1)) * (ztd mem q (5 * 3 + j)))) % (mem 67 1)) + ((((4 % mem 67 1) * ((((((1 * ((mem 71 q) % mem 67 1)) % (mem 67 1)) * ((mem 71 q) % mem 67 1)) % (mem 67 1)) * ((mem 71 q) % mem 67 1)) % (mem 67 1))) % (mem 67 1)) * (ztd mem q (5 * 4 + j)))) % (mem 67 1))), some (zI 4), some (zI ((((((1 * ((mem 71 q) % mem 67 1)) % (mem 67 1)) * ((mem 71 q) % mem 67 1)) % (mem 67 1)) * ((mem 71 q) % mem 67 1)) % (mem 67 1))), some (zI 4)] [zI 20] mem 0 0 Q
  refine wp_iload dd_X11_shiftedOf_58 rfl ?_
  refine wp_iconst dd_X11_shiftedOf_60 (zr_lit rfl) ?_
  refine wp_iaddC dd_X11_shiftedOf_61 (by decide) ?_
  show zw_Wp l mm_X11_shiftedOf (zS L) 62 [some (zR 67), some (zI q), some (zI 1), some (zI j), some (zI ((((((((0 + ((((1 % mem 67 1) * 1) % (mem 67 1)) * (ztd mem q (5 * 1 + j)))) % (mem 67 1)) + ((((2 % mem 67 1) * ((1 * ((mem 71 q) % mem 67 1)) % (mem 67 1))) % (mem 67 1)) * (ztd mem q (5 * 2 + j)))) % (mem 67 1)) + ((((3 % mem 67 1) * ((((1 * ((mem 71 q) % mem 67 1)) % (mem 67 1)) * ((mem 71 q) % mem 67 1)) % (mem 67 1))) % (mem 67 1)) * (ztd mem q (5 * 3 + j)))) % (mem 67 1)) + ((((4 % mem 67 1) * ((((((1 * ((mem 71 q) % mem 67 1)) % (mem 67 1)) * ((mem 71 q) % mem 67 1)) % (mem 67 1)) * ((mem 71 q) % mem 67 1)) % (mem 67 1))) % (mem 67 1)) * (ztd mem q (5 * 4 + j)))) % (mem 67 1))), some (zI 4), some (zI ((((((1 * ((mem 71 q) % mem 67 1)) % (mem 67 1)) * ((mem 71 q) % mem 67 1)) % (mem 67 1)) * ((mem 71 q) % mem 67 1)) % (mem 67 1))), some (zI 4)] [zI 5, zI 20] mem 0 0 Q
  refine wp_iload_n dd_X11_shiftedOf_62 rfl ?_
  refine wp_isubC dd_X11_shiftedOf_63 (by decide) ?_
  show zw_Wp l mm_X11_shiftedOf (zS L) 64 [some (zR 67), some (zI q), some (zI 1), some (zI j), some (zI ((((((((0 + ((((1 % mem 67 1) * 1) % (mem 67 1)) * (ztd mem q (5 * 1 + j)))) % (mem 67 1)) + ((((2 % mem 67 1) * ((1 * ((mem 71 q) % mem 67 1)) % (mem 67 1))) % (mem 67 1)) * (ztd mem q (5 * 2 + j)))) % (mem 67 1)) + ((((3 % mem 67 1) * ((((1 * ((mem 71 q) % mem 67 1)) % (mem 67 1)) * ((mem 71 q) % mem 67 1)) % (mem 67 1))) % (mem 67 1)) * (ztd mem q (5 * 3 + j)))) % (mem 67 1)) + ((((4 % mem 67 1) * ((((((1 * ((mem 71 q) % mem 67 1)) % (mem 67 1)) * ((mem 71 q) % mem 67 1)) % (mem 67 1)) * ((mem 71 q) % mem 67 1)) % (mem 67 1))) % (mem 67 1)) * (ztd mem q (5 * 4 + j)))) % (mem 67 1))), some (zI 4), some (zI ((((((1 * ((mem 71 q) % mem 67 1)) % (mem 67 1)) * ((mem 71 q) % mem 67 1)) % (mem 67 1)) * ((mem 71 q) % mem 67 1)) % (mem 67 1))), some (zI 4)] [zI 4, zI 20] mem 0 0 Q
  refine wp_idivP dd_X11_shiftedOf_64 (by decide) (by decide) ?_
  show zw_Wp l mm_X11_shiftedOf (zS L) 65 [some (zR 67), some (zI q), some (zI 1), some (zI j), some (zI ((((((((0 + ((((1 % mem 67 1) * 1) % (mem 67 1)) * (ztd mem q (5 * 1 + j)))) % (mem 67 1)) + ((((2 % mem 67 1) * ((1 * ((mem 71 q) % mem 67 1)) % (mem 67 1))) % (mem 67 1)) * (ztd mem q (5 * 2 + j)))) % (mem 67 1)) + ((((3 % mem 67 1) * ((((1 * ((mem 71 q) % mem 67 1)) % (mem 67 1)) * ((mem 71 q) % mem 67 1)) % (mem 67 1))) % (mem 67 1)) * (ztd mem q (5 * 3 + j)))) % (mem 67 1)) + ((((4 % mem 67 1) * ((((((1 * ((mem 71 q) % mem 67 1)) % (mem 67 1)) * ((mem 71 q) % mem 67 1)) % (mem 67 1)) * ((mem 71 q) % mem 67 1)) % (mem 67 1))) % (mem 67 1)) * (ztd mem q (5 * 4 + j)))) % (mem 67 1))), some (zI 4), some (zI ((((((1 * ((mem 71 q) % mem 67 1)) % (mem 67 1)) * ((mem 71 q) % mem 67 1)) % (mem 67 1)) * ((mem 71 q) % mem 67 1)) % (mem 67 1))), some (zI 4)] [zI 5] mem 0 0 Q
  refine wp_istore (ls2 := [some (zR 67), some (zI q), some (zI 1), some (zI j), some (zI ((((((((0 + ((((1 % mem 67 1) * 1) % (mem 67 1)) * (ztd mem q (5 * 1 + j)))) % (mem 67 1)) + ((((2 % mem 67 1) * ((1 * ((mem 71 q) % mem 67 1)) % (mem 67 1))) % (mem 67 1)) * (ztd mem q (5 * 2 + j)))) % (mem 67 1)) + ((((3 % mem 67 1) * ((((1 * ((mem 71 q) % mem 67 1)) % (mem 67 1)) * ((mem 71 q) % mem 67 1)) % (mem 67 1))) % (mem 67 1)) * (ztd mem q (5 * 3 + j)))) % (mem 67 1)) + ((((4 % mem 67 1) * ((((((1 * ((mem 71 q) % mem 67 1)) % (mem 67 1)) * ((mem 71 q) % mem 67 1)) % (mem 67 1)) * ((mem 71 q) % mem 67 1)) % (mem 67 1))) % (mem 67 1)) * (ztd mem q (5 * 4 + j)))) % (mem 67 1))), some (zI 5), some (zI ((((((1 * ((mem 71 q) % mem 67 1)) % (mem 67 1)) * ((mem 71 q) % mem 67 1)) % (mem 67 1)) * ((mem 71 q) % mem 67 1)) % (mem 67 1))), some (zI 4)]) dd_X11_shiftedOf_65 rfl (by decide) rfl ?_
  refine wp_iload dd_X11_shiftedOf_67 rfl ?_
  refine wp_aload_n dd_X11_shiftedOf_69 rfl ?_
  refine wp_aload_n dd_X11_shiftedOf_70 rfl ?_
  refine wp_getR dd_X11_shiftedOf_71 gf_X11_37 rfl kk_67 (by decide) (zlt rfl) rr_67_4 ?_
  refine wp_iload_n dd_X11_shiftedOf_74 rfl ?_
  refine wp_iald dd_X11_shiftedOf_75 kk_71 (zlt rfl) (by omega) (by omega) ?_
  refine wp_callV (M' := mm_X11_rest) (As := [zI (mem 71 q)]) (rest := [zI ((((((1 * ((mem 71 q) % mem 67 1)) % (mem 67 1)) * ((mem 71 q) % mem 67 1)) % (mem 67 1)) * ((mem 71 q) % mem 67 1)) % (mem 67 1))]) dd_X11_shiftedOf_76 lk_X11_13 mV_X11_rest kk_67 (zlt rfl) ⟨_, _, rfl⟩ rfl (by decide) (by decide) (Nat.le_of_ble_eq_true rfl) rfl (sp_X11_rest  (mem 71 q) (by first | assumption | omega) ?_)
  show zw_Wp l mm_X11_shiftedOf (zS L) 79 [some (zR 67), some (zI q), some (zI 1), some (zI j), some (zI ((((((((0 + ((((1 % mem 67 1) * 1) % (mem 67 1)) * (ztd mem q (5 * 1 + j)))) % (mem 67 1)) + ((((2 % mem 67 1) * ((1 * ((mem 71 q) % mem 67 1)) % (mem 67 1))) % (mem 67 1)) * (ztd mem q (5 * 2 + j)))) % (mem 67 1)) + ((((3 % mem 67 1) * ((((1 * ((mem 71 q) % mem 67 1)) % (mem 67 1)) * ((mem 71 q) % mem 67 1)) % (mem 67 1))) % (mem 67 1)) * (ztd mem q (5 * 3 + j)))) % (mem 67 1)) + ((((4 % mem 67 1) * ((((((1 * ((mem 71 q) % mem 67 1)) % (mem 67 1)) * ((mem 71 q) % mem 67 1)) % (mem 67 1)) * ((mem 71 q) % mem 67 1)) % (mem 67 1))) % (mem 67 1)) * (ztd mem q (5 * 4 + j)))) % (mem 67 1))), some (zI 5), some (zI ((((((1 * ((mem 71 q) % mem 67 1)) % (mem 67 1)) * ((mem 71 q) % mem 67 1)) % (mem 67 1)) * ((mem 71 q) % mem 67 1)) % (mem 67 1))), some (zI 4)] [zI ((mem 71 q) % mem 67 1), zI ((((((1 * ((mem 71 q) % mem 67 1)) % (mem 67 1)) * ((mem 71 q) % mem 67 1)) % (mem 67 1)) * ((mem 71 q) % mem 67 1)) % (mem 67 1))] mem 0 0 Q
  refine wp_imulC dd_X11_shiftedOf_79 (by omega) ?_
  refine wp_aload_n dd_X11_shiftedOf_80 rfl ?_
  refine wp_getZ 1 rfl dd_X11_shiftedOf_81 gf_X11_9 rfl kk_67 (by decide) (zlt rfl) ?_
  refine wp_iremP dd_X11_shiftedOf_84 (by omega) (by omega) ?_
  refine wp_istore (ls2 := [some (zR 67), some (zI q), some (zI 1), some (zI j), some (zI ((((((((0 + ((((1 % mem 67 1) * 1) % (mem 67 1)) * (ztd mem q (5 * 1 + j)))) % (mem 67 1)) + ((((2 % mem 67 1) * ((1 * ((mem 71 q) % mem 67 1)) % (mem 67 1))) % (mem 67 1)) * (ztd mem q (5 * 2 + j)))) % (mem 67 1)) + ((((3 % mem 67 1) * ((((1 * ((mem 71 q) % mem 67 1)) % (mem 67 1)) * ((mem 71 q) % mem 67 1)) % (mem 67 1))) % (mem 67 1)) * (ztd mem q (5 * 3 + j)))) % (mem 67 1)) + ((((4 % mem 67 1) * ((((((1 * ((mem 71 q) % mem 67 1)) % (mem 67 1)) * ((mem 71 q) % mem 67 1)) % (mem 67 1)) * ((mem 71 q) % mem 67 1)) % (mem 67 1))) % (mem 67 1)) * (ztd mem q (5 * 4 + j)))) % (mem 67 1))), some (zI 5), some (zI ((((((((1 * ((mem 71 q) % mem 67 1)) % (mem 67 1)) * ((mem 71 q) % mem 67 1)) % (mem 67 1)) * ((mem 71 q) % mem 67 1)) % (mem 67 1)) * ((mem 71 q) % mem 67 1)) % (mem 67 1))), some (zI 4)]) dd_X11_shiftedOf_85 rfl (by decide) rfl ?_
  refine wp_iincC (ls2 := [some (zR 67), some (zI q), some (zI 1), some (zI j), some (zI ((((((((0 + ((((1 % mem 67 1) * 1) % (mem 67 1)) * (ztd mem q (5 * 1 + j)))) % (mem 67 1)) + ((((2 % mem 67 1) * ((1 * ((mem 71 q) % mem 67 1)) % (mem 67 1))) % (mem 67 1)) * (ztd mem q (5 * 2 + j)))) % (mem 67 1)) + ((((3 % mem 67 1) * ((((1 * ((mem 71 q) % mem 67 1)) % (mem 67 1)) * ((mem 71 q) % mem 67 1)) % (mem 67 1))) % (mem 67 1)) * (ztd mem q (5 * 3 + j)))) % (mem 67 1)) + ((((4 % mem 67 1) * ((((((1 * ((mem 71 q) % mem 67 1)) % (mem 67 1)) * ((mem 71 q) % mem 67 1)) % (mem 67 1)) * ((mem 71 q) % mem 67 1)) % (mem 67 1))) % (mem 67 1)) * (ztd mem q (5 * 4 + j)))) % (mem 67 1))), some (zI 5), some (zI ((((((((1 * ((mem 71 q) % mem 67 1)) % (mem 67 1)) * ((mem 71 q) % mem 67 1)) % (mem 67 1)) * ((mem 71 q) % mem 67 1)) % (mem 67 1)) * ((mem 71 q) % mem 67 1)) % (mem 67 1))), some (zI 5)]) dd_X11_shiftedOf_87 rfl rfl (by decide) (by omega) rfl ?_
  refine wp_goto (tgt := 12) dd_X11_shiftedOf_90 (by decide) ?_
  refine wp_iload dd_X11_shiftedOf_12 rfl ?_
  refine wp_iconst dd_X11_shiftedOf_14 (zr_lit rfl) ?_
  refine wp_icmp_ge (tgt := 93) dd_X11_shiftedOf_15 (by decide) (fun c15_5 => ?_) (fun c15_5 => absurd c15_5 (by decide))
  refine wp_iload dd_X11_shiftedOf_93 rfl ?_
  refine wp_ireturn (st := []) dd_X11_shiftedOf_95 rfl ?_
  refine zq_I ?_ ?_ k
  · have eb0 : (1 : Int) = 1 % mem 67 1 := (Int.emod_eq_of_lt (by omega) (by omega)).symm
    have ev0 : (0 : Int) = 0 % mem 67 1 := (Int.emod_eq_of_lt (by omega) (by omega)).symm
    have ev1 := zq_st (W := 1) (t := ztd mem q (5 * 1 + j)) ev0 eb0
    have eb1 := zq_by (f := mem 71 q) eb0
    have ev2 := zq_st (W := 2) (t := ztd mem q (5 * 2 + j)) ev1 eb1
    have eb2 := zq_by (f := mem 71 q) eb1
    have ev3 := zq_st (W := 3) (t := ztd mem q (5 * 3 + j)) ev2 eb2
    have eb3 := zq_by (f := mem 71 q) eb2
    have ev4 := zq_st (W := 4) (t := ztd mem q (5 * 4 + j)) ev3 eb3
    have eb4 := zq_by (f := mem 71 q) eb3
    refine ev4.trans ?_
    unfold zsf
    rw [if_neg (by decide)]; rw [if_pos rfl]
    congr 1; grind
  · rfl

set_option maxRecDepth 100000 in
set_option maxHeartbeats 4000000 in
theorem sp_X11_shiftedOf_2 {l : Launch} {L : Nat} {mem : zMem} {Q : zQ}  (q : Int) (j : Int) (hp : zPr (mem 67 1)) (hT : zT mem q) (hj : 0 ≤ j ∧ j ≤ 4) (k : Q (some (zI (zsf (mem 71 q) (mem 67 1) (fun k => ztd mem q (5 * k + j)) 2))) (zS L) mem) : zw_Ok l mm_X11_shiftedOf [zR 67, zI q, zI 2, zI j] (zS L) mem Q := by
  refine zw_okA (fun hA => ?_)
  have rg_q : -2147483648 ≤ q ∧ q < 2147483648 := hA.2.1
  have rg_j : -2147483648 ≤ j ∧ j < 2147483648 := hA.2.2.2.1
  refine zw_enter (by decide) (Nat.le_of_ble_eq_true rfl) rfl ?_
  show zw_Wp l mm_X11_shiftedOf (zS L) 0 [some (zR 67), some (zI q), some (zI 2), some (zI j), none, none, none, none] [] mem 0 0 Q
  have hpr := hp.rg
  obtain ⟨hq, hkd, hfg, ht⟩ := hT
  have hfm := zm_rg (a := mem 71 q) (p := mem 67 1) (by omega)
  refine wp_iconst dd_X11_shiftedOf_0 (zr_lit rfl) ?_
  refine wp_istore (ls2 := [some (zR 67), some (zI q), some (zI 2), some (zI j), some (zI 0), none, none, none]) dd_X11_shiftedOf_1 rfl (by decide) rfl ?_
  refine wp_iconst dd_X11_shiftedOf_3 (zr_lit rfl) ?_
  refine wp_istore (ls2 := [some (zR 67), some (zI q), some (zI 2), some (zI j), some (zI 0), some (zI 1), none, none]) dd_X11_shiftedOf_4 rfl (by decide) rfl ?_
  refine wp_iconst dd_X11_shiftedOf_6 (zr_lit rfl) ?_
  refine wp_istore (ls2 := [some (zR 67), some (zI q), some (zI 2), some (zI j), some (zI 0), some (zI 1), some (zI 1), none]) dd_X11_shiftedOf_7 rfl (by decide) rfl ?_
  refine wp_iload_n dd_X11_shiftedOf_9 rfl ?_
  refine wp_istore (ls2 := [some (zR 67), some (zI q), some (zI 2), some (zI j), some (zI 0), some (zI 1), some (zI 1), some (zI 2)]) dd_X11_shiftedOf_10 rfl (by decide) rfl ?_
  refine wp_iload dd_X11_shiftedOf_12 rfl ?_
  refine wp_iconst dd_X11_shiftedOf_14 (zr_lit rfl) ?_
  refine wp_icmp_ge (tgt := 93) dd_X11_shiftedOf_15 (by decide) (fun c15_1 => absurd c15_1 (by decide)) (fun c15_1 => ?_)
  have hb2 : 0 ≤ 1 ∧ 1 < mem 67 1 := by first | exact zm_rg (by omega) | omega
  have hv2 : 0 ≤ 0 ∧ 0 < mem 67 1 := by first | exact zm_rg (by omega) | omega
  have hw2 := zm_rg (a := 1) (p := mem 67 1) (by omega)
  have hm2 := zmul_rg (a := 1 % mem 67 1) (b := 1) (A := 31) (B := 31) (by omega) (by omega) (by omega) (by omega)
  have hx2 := zm_rg (a := 1 % mem 67 1 * 1) (p := mem 67 1) (by omega)
  have ht2 := ht (5 * 2 + j) (by omega) (by omega)
  have hy2 := zmul_rg (a := 1 % mem 67 1 * 1 % mem 67 1) (b := ztd mem q (5 * 2 + j)) (A := 31) (B := 31) (by omega) (by omega) (by omega) (by omega)
  have hz2 := zmul_rg (a := 1) (b := mem 71 q % mem 67 1) (A := 31) (B := 31) (by omega) (by omega) (by omega) (by omega)
  refine wp_iload dd_X11_shiftedOf_18 rfl ?_
  refine wp_aload_n dd_X11_shiftedOf_20 rfl ?_
  refine wp_iload dd_X11_shiftedOf_21 rfl ?_
  refine wp_callV (M' := mm_X11_rest) (As := [zI 1]) (rest := [zI 0]) dd_X11_shiftedOf_23 lk_X11_13 mV_X11_rest kk_67 (zlt rfl) ⟨_, _, rfl⟩ rfl (by decide) (by decide) (Nat.le_of_ble_eq_true rfl) rfl (sp_X11_rest  1 (by first | assumption | omega) ?_)
  show zw_Wp l mm_X11_shiftedOf (zS L) 26 [some (zR 67), some (zI q), some (zI 2), some (zI j), some (zI 0), some (zI 1), some (zI 1), some (zI 2)] [zI (1 % mem 67 1), zI 0] mem 0 0 Q
  refine wp_iload dd_X11_shiftedOf_26 rfl ?_
  refine wp_imulC dd_X11_shiftedOf_28 (by omega) ?_
  refine wp_aload_n dd_X11_shiftedOf_29 rfl ?_
  refine wp_getZ 1 rfl dd_X11_shiftedOf_30 gf_X11_9 rfl kk_67 (by decide) (zlt rfl) ?_
  refine wp_iremP dd_X11_shiftedOf_33 (by omega) (by omega) ?_
  refine wp_aload_n dd_X11_shiftedOf_34 rfl ?_
  refine wp_iload_n dd_X11_shiftedOf_35 rfl ?_
  refine wp_iload dd_X11_shiftedOf_36 rfl ?_
  refine wp_iload_n dd_X11_shiftedOf_38 rfl ?_
  refine wp_callV (M' := mm_X11_toldOf) (As := [zI q, zI 2, zI j]) (rest := [zI (((1 % mem 67 1) * 1) % (mem 67 1)), zI 0]) dd_X11_shiftedOf_39 lk_X11_98 mV_X11_toldOf kk_67 (zlt rfl) ⟨_, _, rfl⟩ rfl (by decide) (by decide) (Nat.le_of_ble_eq_true rfl) rfl (sp_X11_toldOf  q 2 j (by first | assumption | omega) (by decide) (by first | assumption | omega) ?_)
  show zw_Wp l mm_X11_shiftedOf (zS L) 42 [some (zR 67), some (zI q), some (zI 2), some (zI j), some (zI 0), some (zI 1), some (zI 1), some (zI 2)] [zI (ztd mem q (5 * 2 + j)), zI (((1 % mem 67 1) * 1) % (mem 67 1)), zI 0] mem 0 0 Q
  refine wp_imulC dd_X11_shiftedOf_42 (by omega) ?_
  refine wp_iaddC dd_X11_shiftedOf_43 (by omega) ?_
  refine wp_aload_n dd_X11_shiftedOf_44 rfl ?_
  refine wp_getZ 1 rfl dd_X11_shiftedOf_45 gf_X11_9 rfl kk_67 (by decide) (zlt rfl) ?_
  refine wp_iremP dd_X11_shiftedOf_48 (by omega) (by omega) ?_
  refine wp_istore (ls2 := [some (zR 67), some (zI q), some (zI 2), some (zI j), some (zI ((0 + ((((1 % mem 67 1) * 1) % (mem 67 1)) * (ztd mem q (5 * 2 + j)))) % (mem 67 1))), some (zI 1), some (zI 1), some (zI 2)]) dd_X11_shiftedOf_49 rfl (by decide) rfl ?_
  refine wp_iload dd_X11_shiftedOf_51 rfl ?_
  refine wp_iload dd_X11_shiftedOf_53 rfl ?_
  refine wp_iconst dd_X11_shiftedOf_55 (zr_lit rfl) ?_
  refine wp_iaddC dd_X11_shiftedOf_56 (by decide) ?_
  show zw_Wp l mm_X11_shiftedOf (zS L) 57 [some (zR 67), some (zI q), some (zI 2), some (zI j), some (zI ((0 + ((((1 % mem 67 1) * 1) % (mem 67 1)) * (ztd mem q (5 * 2 + j)))) % (mem 67 1))), some (zI 1), some (zI 1), some (zI 2)] [zI 3, zI 1] mem 0 0 Q
  refine wp_imulC dd_X11_shiftedOf_57 (by decide) ?_
  show zw_Wp l mm_X11_shiftedOf (zS L) 58 [some (zR 67), some (zI q), some (zI 2), some (zI j), some (zI ((0 + ((((1 % mem 67 1) * 1) % (mem 67 1)) * (ztd mem q (5 * 2 + j)))) % (mem 67 1))), some (zI 1), some (zI 1), some (zI 2)] [zI 3] mem 0 0 Q
  refine wp_iload dd_X11_shiftedOf_58 rfl ?_
  refine wp_iconst dd_X11_shiftedOf_60 (zr_lit rfl) ?_
  refine wp_iaddC dd_X11_shiftedOf_61 (by decide) ?_
  show zw_Wp l mm_X11_shiftedOf (zS L) 62 [some (zR 67), some (zI q), some (zI 2), some (zI j), some (zI ((0 + ((((1 % mem 67 1) * 1) % (mem 67 1)) * (ztd mem q (5 * 2 + j)))) % (mem 67 1))), some (zI 1), some (zI 1), some (zI 2)] [zI 3, zI 3] mem 0 0 Q
  refine wp_iload_n dd_X11_shiftedOf_62 rfl ?_
  refine wp_isubC dd_X11_shiftedOf_63 (by decide) ?_
  show zw_Wp l mm_X11_shiftedOf (zS L) 64 [some (zR 67), some (zI q), some (zI 2), some (zI j), some (zI ((0 + ((((1 % mem 67 1) * 1) % (mem 67 1)) * (ztd mem q (5 * 2 + j)))) % (mem 67 1))), some (zI 1), some (zI 1), some (zI 2)] [zI 1, zI 3] mem 0 0 Q
  refine wp_idivP dd_X11_shiftedOf_64 (by decide) (by decide) ?_
  show zw_Wp l mm_X11_shiftedOf (zS L) 65 [some (zR 67), some (zI q), some (zI 2), some (zI j), some (zI ((0 + ((((1 % mem 67 1) * 1) % (mem 67 1)) * (ztd mem q (5 * 2 + j)))) % (mem 67 1))), some (zI 1), some (zI 1), some (zI 2)] [zI 3] mem 0 0 Q
  refine wp_istore (ls2 := [some (zR 67), some (zI q), some (zI 2), some (zI j), some (zI ((0 + ((((1 % mem 67 1) * 1) % (mem 67 1)) * (ztd mem q (5 * 2 + j)))) % (mem 67 1))), some (zI 3), some (zI 1), some (zI 2)]) dd_X11_shiftedOf_65 rfl (by decide) rfl ?_
  refine wp_iload dd_X11_shiftedOf_67 rfl ?_
  refine wp_aload_n dd_X11_shiftedOf_69 rfl ?_
  refine wp_aload_n dd_X11_shiftedOf_70 rfl ?_
  refine wp_getR dd_X11_shiftedOf_71 gf_X11_37 rfl kk_67 (by decide) (zlt rfl) rr_67_4 ?_
  refine wp_iload_n dd_X11_shiftedOf_74 rfl ?_
  refine wp_iald dd_X11_shiftedOf_75 kk_71 (zlt rfl) (by omega) (by omega) ?_
  refine wp_callV (M' := mm_X11_rest) (As := [zI (mem 71 q)]) (rest := [zI 1]) dd_X11_shiftedOf_76 lk_X11_13 mV_X11_rest kk_67 (zlt rfl) ⟨_, _, rfl⟩ rfl (by decide) (by decide) (Nat.le_of_ble_eq_true rfl) rfl (sp_X11_rest  (mem 71 q) (by first | assumption | omega) ?_)
  show zw_Wp l mm_X11_shiftedOf (zS L) 79 [some (zR 67), some (zI q), some (zI 2), some (zI j), some (zI ((0 + ((((1 % mem 67 1) * 1) % (mem 67 1)) * (ztd mem q (5 * 2 + j)))) % (mem 67 1))), some (zI 3), some (zI 1), some (zI 2)] [zI ((mem 71 q) % mem 67 1), zI 1] mem 0 0 Q
  refine wp_imulC dd_X11_shiftedOf_79 (by omega) ?_
  refine wp_aload_n dd_X11_shiftedOf_80 rfl ?_
  refine wp_getZ 1 rfl dd_X11_shiftedOf_81 gf_X11_9 rfl kk_67 (by decide) (zlt rfl) ?_
  refine wp_iremP dd_X11_shiftedOf_84 (by omega) (by omega) ?_
  refine wp_istore (ls2 := [some (zR 67), some (zI q), some (zI 2), some (zI j), some (zI ((0 + ((((1 % mem 67 1) * 1) % (mem 67 1)) * (ztd mem q (5 * 2 + j)))) % (mem 67 1))), some (zI 3), some (zI ((1 * ((mem 71 q) % mem 67 1)) % (mem 67 1))), some (zI 2)]) dd_X11_shiftedOf_85 rfl (by decide) rfl ?_
  refine wp_iincC (ls2 := [some (zR 67), some (zI q), some (zI 2), some (zI j), some (zI ((0 + ((((1 % mem 67 1) * 1) % (mem 67 1)) * (ztd mem q (5 * 2 + j)))) % (mem 67 1))), some (zI 3), some (zI ((1 * ((mem 71 q) % mem 67 1)) % (mem 67 1))), some (zI 3)]) dd_X11_shiftedOf_87 rfl rfl (by decide) (by omega) rfl ?_
  refine wp_goto (tgt := 12) dd_X11_shiftedOf_90 (by decide) ?_
  refine wp_iload dd_X11_shiftedOf_12 rfl ?_
  refine wp_iconst dd_X11_shiftedOf_14 (zr_lit rfl) ?_
  refine wp_icmp_ge (tgt := 93) dd_X11_shiftedOf_15 (by decide) (fun c15_2 => absurd c15_2 (by decide)) (fun c15_2 => ?_)
  have hb3 : 0 ≤ ((1 * ((mem 71 q) % mem 67 1)) % (mem 67 1)) ∧ ((1 * ((mem 71 q) % mem 67 1)) % (mem 67 1)) < mem 67 1 := by first | exact zm_rg (by omega) | omega
  have hv3 : 0 ≤ ((0 + ((((1 % mem 67 1) * 1) % (mem 67 1)) * (ztd mem q (5 * 2 + j)))) % (mem 67 1)) ∧ ((0 + ((((1 % mem 67 1) * 1) % (mem 67 1)) * (ztd mem q (5 * 2 + j)))) % (mem 67 1)) < mem 67 1 := by first | exact zm_rg (by omega) | omega
  have hw3 := zm_rg (a := 3) (p := mem 67 1) (by omega)
  have hm3 := zmul_rg (a := 3 % mem 67 1) (b := ((1 * ((mem 71 q) % mem 67 1)) % (mem 67 1))) (A := 31) (B := 31) (by omega) (by omega) (by omega) (by omega)
  have hx3 := zm_rg (a := 3 % mem 67 1 * ((1 * ((mem 71 q) % mem 67 1)) % (mem 67 1))) (p := mem 67 1) (by omega)
  have ht3 := ht (5 * 3 + j) (by omega) (by omega)
  have hy3 := zmul_rg (a := 3 % mem 67 1 * ((1 * ((mem 71 q) % mem 67 1)) % (mem 67 1)) % mem 67 1) (b := ztd mem q (5 * 3 + j)) (A := 31) (B := 31) (by omega) (by omega) (by omega) (by omega)
  have hz3 := zmul_rg (a := ((1 * ((mem 71 q) % mem 67 1)) % (mem 67 1))) (b := mem 71 q % mem 67 1) (A := 31) (B := 31) (by omega) (by omega) (by omega) (by omega)
  refine wp_iload dd_X11_shiftedOf_18 rfl ?_
  refine wp_aload_n dd_X11_shiftedOf_20 rfl ?_
  refine wp_iload dd_X11_shiftedOf_21 rfl ?_
  refine wp_callV (M' := mm_X11_rest) (As := [zI 3]) (rest := [zI ((0 + ((((1 % mem 67 1) * 1) % (mem 67 1)) * (ztd mem q (5 * 2 + j)))) % (mem 67 1))]) dd_X11_shiftedOf_23 lk_X11_13 mV_X11_rest kk_67 (zlt rfl) ⟨_, _, rfl⟩ rfl (by decide) (by decide) (Nat.le_of_ble_eq_true rfl) rfl (sp_X11_rest  3 (by first | assumption | omega) ?_)
  show zw_Wp l mm_X11_shiftedOf (zS L) 26 [some (zR 67), some (zI q), some (zI 2), some (zI j), some (zI ((0 + ((((1 % mem 67 1) * 1) % (mem 67 1)) * (ztd mem q (5 * 2 + j)))) % (mem 67 1))), some (zI 3), some (zI ((1 * ((mem 71 q) % mem 67 1)) % (mem 67 1))), some (zI 3)] [zI (3 % mem 67 1), zI ((0 + ((((1 % mem 67 1) * 1) % (mem 67 1)) * (ztd mem q (5 * 2 + j)))) % (mem 67 1))] mem 0 0 Q
  refine wp_iload dd_X11_shiftedOf_26 rfl ?_
  refine wp_imulC dd_X11_shiftedOf_28 (by omega) ?_
  refine wp_aload_n dd_X11_shiftedOf_29 rfl ?_
  refine wp_getZ 1 rfl dd_X11_shiftedOf_30 gf_X11_9 rfl kk_67 (by decide) (zlt rfl) ?_
  refine wp_iremP dd_X11_shiftedOf_33 (by omega) (by omega) ?_
  refine wp_aload_n dd_X11_shiftedOf_34 rfl ?_
  refine wp_iload_n dd_X11_shiftedOf_35 rfl ?_
  refine wp_iload dd_X11_shiftedOf_36 rfl ?_
  refine wp_iload_n dd_X11_shiftedOf_38 rfl ?_
  refine wp_callV (M' := mm_X11_toldOf) (As := [zI q, zI 3, zI j]) (rest := [zI (((3 % mem 67 1) * ((1 * ((mem 71 q) % mem 67 1)) % (mem 67 1))) % (mem 67 1)), zI ((0 + ((((1 % mem 67 1) * 1) % (mem 67 1)) * (ztd mem q (5 * 2 + j)))) % (mem 67 1))]) dd_X11_shiftedOf_39 lk_X11_98 mV_X11_toldOf kk_67 (zlt rfl) ⟨_, _, rfl⟩ rfl (by decide) (by decide) (Nat.le_of_ble_eq_true rfl) rfl (sp_X11_toldOf  q 3 j (by first | assumption | omega) (by decide) (by first | assumption | omega) ?_)
  show zw_Wp l mm_X11_shiftedOf (zS L) 42 [some (zR 67), some (zI q), some (zI 2), some (zI j), some (zI ((0 + ((((1 % mem 67 1) * 1) % (mem 67 1)) * (ztd mem q (5 * 2 + j)))) % (mem 67 1))), some (zI 3), some (zI ((1 * ((mem 71 q) % mem 67 1)) % (mem 67 1))), some (zI 3)] [zI (ztd mem q (5 * 3 + j)), zI (((3 % mem 67 1) * ((1 * ((mem 71 q) % mem 67 1)) % (mem 67 1))) % (mem 67 1)), zI ((0 + ((((1 % mem 67 1) * 1) % (mem 67 1)) * (ztd mem q (5 * 2 + j)))) % (mem 67 1))] mem 0 0 Q
  refine wp_imulC dd_X11_shiftedOf_42 (by omega) ?_
  refine wp_iaddC dd_X11_shiftedOf_43 (by omega) ?_
  refine wp_aload_n dd_X11_shiftedOf_44 rfl ?_
  refine wp_getZ 1 rfl dd_X11_shiftedOf_45 gf_X11_9 rfl kk_67 (by decide) (zlt rfl) ?_
  refine wp_iremP dd_X11_shiftedOf_48 (by omega) (by omega) ?_
  refine wp_istore (ls2 := [some (zR 67), some (zI q), some (zI 2), some (zI j), some (zI ((((0 + ((((1 % mem 67 1) * 1) % (mem 67 1)) * (ztd mem q (5 * 2 + j)))) % (mem 67 1)) + ((((3 % mem 67 1) * ((1 * ((mem 71 q) % mem 67 1)) % (mem 67 1))) % (mem 67 1)) * (ztd mem q (5 * 3 + j)))) % (mem 67 1))), some (zI 3), some (zI ((1 * ((mem 71 q) % mem 67 1)) % (mem 67 1))), some (zI 3)]) dd_X11_shiftedOf_49 rfl (by decide) rfl ?_
  refine wp_iload dd_X11_shiftedOf_51 rfl ?_
  refine wp_iload dd_X11_shiftedOf_53 rfl ?_
  refine wp_iconst dd_X11_shiftedOf_55 (zr_lit rfl) ?_
  refine wp_iaddC dd_X11_shiftedOf_56 (by decide) ?_
  show zw_Wp l mm_X11_shiftedOf (zS L) 57 [some (zR 67), some (zI q), some (zI 2), some (zI j), some (zI ((((0 + ((((1 % mem 67 1) * 1) % (mem 67 1)) * (ztd mem q (5 * 2 + j)))) % (mem 67 1)) + ((((3 % mem 67 1) * ((1 * ((mem 71 q) % mem 67 1)) % (mem 67 1))) % (mem 67 1)) * (ztd mem q (5 * 3 + j)))) % (mem 67 1))), some (zI 3), some (zI ((1 * ((mem 71 q) % mem 67 1)) % (mem 67 1))), some (zI 3)] [zI 4, zI 3] mem 0 0 Q
  refine wp_imulC dd_X11_shiftedOf_57 (by decide) ?_
  show zw_Wp l mm_X11_shiftedOf (zS L) 58 [some (zR 67), some (zI q), some (zI 2), some (zI j), some (zI ((((0 + ((((1 % mem 67 1) * 1) % (mem 67 1)) * (ztd mem q (5 * 2 + j)))) % (mem 67 1)) + ((((3 % mem 67 1) * ((1 * ((mem 71 q) % mem 67 1)) % (mem 67 1))) % (mem 67 1)) * (ztd mem q (5 * 3 + j)))) % (mem 67 1))), some (zI 3), some (zI ((1 * ((mem 71 q) % mem 67 1)) % (mem 67 1))), some (zI 3)] [zI 12] mem 0 0 Q
  refine wp_iload dd_X11_shiftedOf_58 rfl ?_
  refine wp_iconst dd_X11_shiftedOf_60 (zr_lit rfl) ?_
  refine wp_iaddC dd_X11_shiftedOf_61 (by decide) ?_
  show zw_Wp l mm_X11_shiftedOf (zS L) 62 [some (zR 67), some (zI q), some (zI 2), some (zI j), some (zI ((((0 + ((((1 % mem 67 1) * 1) % (mem 67 1)) * (ztd mem q (5 * 2 + j)))) % (mem 67 1)) + ((((3 % mem 67 1) * ((1 * ((mem 71 q) % mem 67 1)) % (mem 67 1))) % (mem 67 1)) * (ztd mem q (5 * 3 + j)))) % (mem 67 1))), some (zI 3), some (zI ((1 * ((mem 71 q) % mem 67 1)) % (mem 67 1))), some (zI 3)] [zI 4, zI 12] mem 0 0 Q
  refine wp_iload_n dd_X11_shiftedOf_62 rfl ?_
  refine wp_isubC dd_X11_shiftedOf_63 (by decide) ?_
  show zw_Wp l mm_X11_shiftedOf (zS L) 64 [some (zR 67), some (zI q), some (zI 2), some (zI j), some (zI ((((0 + ((((1 % mem 67 1) * 1) % (mem 67 1)) * (ztd mem q (5 * 2 + j)))) % (mem 67 1)) + ((((3 % mem 67 1) * ((1 * ((mem 71 q) % mem 67 1)) % (mem 67 1))) % (mem 67 1)) * (ztd mem q (5 * 3 + j)))) % (mem 67 1))), some (zI 3), some (zI ((1 * ((mem 71 q) % mem 67 1)) % (mem 67 1))), some (zI 3)] [zI 2, zI 12] mem 0 0 Q
  refine wp_idivP dd_X11_shiftedOf_64 (by decide) (by decide) ?_
  show zw_Wp l mm_X11_shiftedOf (zS L) 65 [some (zR 67), some (zI q), some (zI 2), some (zI j), some (zI ((((0 + ((((1 % mem 67 1) * 1) % (mem 67 1)) * (ztd mem q (5 * 2 + j)))) % (mem 67 1)) + ((((3 % mem 67 1) * ((1 * ((mem 71 q) % mem 67 1)) % (mem 67 1))) % (mem 67 1)) * (ztd mem q (5 * 3 + j)))) % (mem 67 1))), some (zI 3), some (zI ((1 * ((mem 71 q) % mem 67 1)) % (mem 67 1))), some (zI 3)] [zI 6] mem 0 0 Q
  refine wp_istore (ls2 := [some (zR 67), some (zI q), some (zI 2), some (zI j), some (zI ((((0 + ((((1 % mem 67 1) * 1) % (mem 67 1)) * (ztd mem q (5 * 2 + j)))) % (mem 67 1)) + ((((3 % mem 67 1) * ((1 * ((mem 71 q) % mem 67 1)) % (mem 67 1))) % (mem 67 1)) * (ztd mem q (5 * 3 + j)))) % (mem 67 1))), some (zI 6), some (zI ((1 * ((mem 71 q) % mem 67 1)) % (mem 67 1))), some (zI 3)]) dd_X11_shiftedOf_65 rfl (by decide) rfl ?_
  refine wp_iload dd_X11_shiftedOf_67 rfl ?_
  refine wp_aload_n dd_X11_shiftedOf_69 rfl ?_
  refine wp_aload_n dd_X11_shiftedOf_70 rfl ?_
  refine wp_getR dd_X11_shiftedOf_71 gf_X11_37 rfl kk_67 (by decide) (zlt rfl) rr_67_4 ?_
  refine wp_iload_n dd_X11_shiftedOf_74 rfl ?_
  refine wp_iald dd_X11_shiftedOf_75 kk_71 (zlt rfl) (by omega) (by omega) ?_
  refine wp_callV (M' := mm_X11_rest) (As := [zI (mem 71 q)]) (rest := [zI ((1 * ((mem 71 q) % mem 67 1)) % (mem 67 1))]) dd_X11_shiftedOf_76 lk_X11_13 mV_X11_rest kk_67 (zlt rfl) ⟨_, _, rfl⟩ rfl (by decide) (by decide) (Nat.le_of_ble_eq_true rfl) rfl (sp_X11_rest  (mem 71 q) (by first | assumption | omega) ?_)
  show zw_Wp l mm_X11_shiftedOf (zS L) 79 [some (zR 67), some (zI q), some (zI 2), some (zI j), some (zI ((((0 + ((((1 % mem 67 1) * 1) % (mem 67 1)) * (ztd mem q (5 * 2 + j)))) % (mem 67 1)) + ((((3 % mem 67 1) * ((1 * ((mem 71 q) % mem 67 1)) % (mem 67 1))) % (mem 67 1)) * (ztd mem q (5 * 3 + j)))) % (mem 67 1))), some (zI 6), some (zI ((1 * ((mem 71 q) % mem 67 1)) % (mem 67 1))), some (zI 3)] [zI ((mem 71 q) % mem 67 1), zI ((1 * ((mem 71 q) % mem 67 1)) % (mem 67 1))] mem 0 0 Q
  refine wp_imulC dd_X11_shiftedOf_79 (by omega) ?_
  refine wp_aload_n dd_X11_shiftedOf_80 rfl ?_
  refine wp_getZ 1 rfl dd_X11_shiftedOf_81 gf_X11_9 rfl kk_67 (by decide) (zlt rfl) ?_
  refine wp_iremP dd_X11_shiftedOf_84 (by omega) (by omega) ?_
  refine wp_istore (ls2 := [some (zR 67), some (zI q), some (zI 2), some (zI j), some (zI ((((0 + ((((1 % mem 67 1) * 1) % (mem 67 1)) * (ztd mem q (5 * 2 + j)))) % (mem 67 1)) + ((((3 % mem 67 1) * ((1 * ((mem 71 q) % mem 67 1)) % (mem 67 1))) % (mem 67 1)) * (ztd mem q (5 * 3 + j)))) % (mem 67 1))), some (zI 6), some (zI ((((1 * ((mem 71 q) % mem 67 1)) % (mem 67 1)) * ((mem 71 q) % mem 67 1)) % (mem 67 1))), some (zI 3)]) dd_X11_shiftedOf_85 rfl (by decide) rfl ?_
  refine wp_iincC (ls2 := [some (zR 67), some (zI q), some (zI 2), some (zI j), some (zI ((((0 + ((((1 % mem 67 1) * 1) % (mem 67 1)) * (ztd mem q (5 * 2 + j)))) % (mem 67 1)) + ((((3 % mem 67 1) * ((1 * ((mem 71 q) % mem 67 1)) % (mem 67 1))) % (mem 67 1)) * (ztd mem q (5 * 3 + j)))) % (mem 67 1))), some (zI 6), some (zI ((((1 * ((mem 71 q) % mem 67 1)) % (mem 67 1)) * ((mem 71 q) % mem 67 1)) % (mem 67 1))), some (zI 4)]) dd_X11_shiftedOf_87 rfl rfl (by decide) (by omega) rfl ?_
  refine wp_goto (tgt := 12) dd_X11_shiftedOf_90 (by decide) ?_
  refine wp_iload dd_X11_shiftedOf_12 rfl ?_
  refine wp_iconst dd_X11_shiftedOf_14 (zr_lit rfl) ?_
  refine wp_icmp_ge (tgt := 93) dd_X11_shiftedOf_15 (by decide) (fun c15_3 => absurd c15_3 (by decide)) (fun c15_3 => ?_)
  have hb4 : 0 ≤ ((((1 * ((mem 71 q) % mem 67 1)) % (mem 67 1)) * ((mem 71 q) % mem 67 1)) % (mem 67 1)) ∧ ((((1 * ((mem 71 q) % mem 67 1)) % (mem 67 1)) * ((mem 71 q) % mem 67 1)) % (mem 67 1)) < mem 67 1 := by first | exact zm_rg (by omega) | omega
  have hv4 : 0 ≤ ((((0 + ((((1 % mem 67 1) * 1) % (mem 67 1)) * (ztd mem q (5 * 2 + j)))) % (mem 67 1)) + ((((3 % mem 67 1) * ((1 * ((mem 71 q) % mem 67 1)) % (mem 67 1))) % (mem 67 1)) * (ztd mem q (5 * 3 + j)))) % (mem 67 1)) ∧ ((((0 + ((((1 % mem 67 1) * 1) % (mem 67 1)) * (ztd mem q (5 * 2 + j)))) % (mem 67 1)) + ((((3 % mem 67 1) * ((1 * ((mem 71 q) % mem 67 1)) % (mem 67 1))) % (mem 67 1)) * (ztd mem q (5 * 3 + j)))) % (mem 67 1)) < mem 67 1 := by first | exact zm_rg (by omega) | omega
  have hw4 := zm_rg (a := 6) (p := mem 67 1) (by omega)
  have hm4 := zmul_rg (a := 6 % mem 67 1) (b := ((((1 * ((mem 71 q) % mem 67 1)) % (mem 67 1)) * ((mem 71 q) % mem 67 1)) % (mem 67 1))) (A := 31) (B := 31) (by omega) (by omega) (by omega) (by omega)
  have hx4 := zm_rg (a := 6 % mem 67 1 * ((((1 * ((mem 71 q) % mem 67 1)) % (mem 67 1)) * ((mem 71 q) % mem 67 1)) % (mem 67 1))) (p := mem 67 1) (by omega)
  have ht4 := ht (5 * 4 + j) (by omega) (by omega)
  have hy4 := zmul_rg (a := 6 % mem 67 1 * ((((1 * ((mem 71 q) % mem 67 1)) % (mem 67 1)) * ((mem 71 q) % mem 67 1)) % (mem 67 1)) % mem 67 1) (b := ztd mem q (5 * 4 + j)) (A := 31) (B := 31) (by omega) (by omega) (by omega) (by omega)
  have hz4 := zmul_rg (a := ((((1 * ((mem 71 q) % mem 67 1)) % (mem 67 1)) * ((mem 71 q) % mem 67 1)) % (mem 67 1))) (b := mem 71 q % mem 67 1) (A := 31) (B := 31) (by omega) (by omega) (by omega) (by omega)
  refine wp_iload dd_X11_shiftedOf_18 rfl ?_
  refine wp_aload_n dd_X11_shiftedOf_20 rfl ?_
  refine wp_iload dd_X11_shiftedOf_21 rfl ?_
  refine wp_callV (M' := mm_X11_rest) (As := [zI 6]) (rest := [zI ((((0 + ((((1 % mem 67 1) * 1) % (mem 67 1)) * (ztd mem q (5 * 2 + j)))) % (mem 67 1)) + ((((3 % mem 67 1) * ((1 * ((mem 71 q) % mem 67 1)) % (mem 67 1))) % (mem 67 1)) * (ztd mem q (5 * 3 + j)))) % (mem 67 1))]) dd_X11_shiftedOf_23 lk_X11_13 mV_X11_rest kk_67 (zlt rfl) ⟨_, _, rfl⟩ rfl (by decide) (by decide) (Nat.le_of_ble_eq_true rfl) rfl (sp_X11_rest  6 (by first | assumption | omega) ?_)
  show zw_Wp l mm_X11_shiftedOf (zS L) 26 [some (zR 67), some (zI q), some (zI 2), some (zI j), some (zI ((((0 + ((((1 % mem 67 1) * 1) % (mem 67 1)) * (ztd mem q (5 * 2 + j)))) % (mem 67 1)) + ((((3 % mem 67 1) * ((1 * ((mem 71 q) % mem 67 1)) % (mem 67 1))) % (mem 67 1)) * (ztd mem q (5 * 3 + j)))) % (mem 67 1))), some (zI 6), some (zI ((((1 * ((mem 71 q) % mem 67 1)) % (mem 67 1)) * ((mem 71 q) % mem 67 1)) % (mem 67 1))), some (zI 4)] [zI (6 % mem 67 1), zI ((((0 + ((((1 % mem 67 1) * 1) % (mem 67 1)) * (ztd mem q (5 * 2 + j)))) % (mem 67 1)) + ((((3 % mem 67 1) * ((1 * ((mem 71 q) % mem 67 1)) % (mem 67 1))) % (mem 67 1)) * (ztd mem q (5 * 3 + j)))) % (mem 67 1))] mem 0 0 Q
  refine wp_iload dd_X11_shiftedOf_26 rfl ?_
  refine wp_imulC dd_X11_shiftedOf_28 (by omega) ?_
  refine wp_aload_n dd_X11_shiftedOf_29 rfl ?_
  refine wp_getZ 1 rfl dd_X11_shiftedOf_30 gf_X11_9 rfl kk_67 (by decide) (zlt rfl) ?_
  refine wp_iremP dd_X11_shiftedOf_33 (by omega) (by omega) ?_
  refine wp_aload_n dd_X11_shiftedOf_34 rfl ?_
  refine wp_iload_n dd_X11_shiftedOf_35 rfl ?_
  refine wp_iload dd_X11_shiftedOf_36 rfl ?_
  refine wp_iload_n dd_X11_shiftedOf_38 rfl ?_
  refine wp_callV (M' := mm_X11_toldOf) (As := [zI q, zI 4, zI j]) (rest := [zI (((6 % mem 67 1) * ((((1 * ((mem 71 q) % mem 67 1)) % (mem 67 1)) * ((mem 71 q) % mem 67 1)) % (mem 67 1))) % (mem 67 1)), zI ((((0 + ((((1 % mem 67 1) * 1) % (mem 67 1)) * (ztd mem q (5 * 2 + j)))) % (mem 67 1)) + ((((3 % mem 67 1) * ((1 * ((mem 71 q) % mem 67 1)) % (mem 67 1))) % (mem 67 1)) * (ztd mem q (5 * 3 + j)))) % (mem 67 1))]) dd_X11_shiftedOf_39 lk_X11_98 mV_X11_toldOf kk_67 (zlt rfl) ⟨_, _, rfl⟩ rfl (by decide) (by decide) (Nat.le_of_ble_eq_true rfl) rfl (sp_X11_toldOf  q 4 j (by first | assumption | omega) (by decide) (by first | assumption | omega) ?_)
  show zw_Wp l mm_X11_shiftedOf (zS L) 42 [some (zR 67), some (zI q), some (zI 2), some (zI j), some (zI ((((0 + ((((1 % mem 67 1) * 1) % (mem 67 1)) * (ztd mem q (5 * 2 + j)))) % (mem 67 1)) + ((((3 % mem 67 1) * ((1 * ((mem 71 q) % mem 67 1)) % (mem 67 1))) % (mem 67 1)) * (ztd mem q (5 * 3 + j)))) % (mem 67 1))), some (zI 6), some (zI ((((1 * ((mem 71 q) % mem 67 1)) % (mem 67 1)) * ((mem 71 q) % mem 67 1)) % (mem 67 1))), some (zI 4)] [zI (ztd mem q (5 * 4 + j)), zI (((6 % mem 67 1) * ((((1 * ((mem 71 q) % mem 67 1)) % (mem 67 1)) * ((mem 71 q) % mem 67 1)) % (mem 67 1))) % (mem 67 1)), zI ((((0 + ((((1 % mem 67 1) * 1) % (mem 67 1)) * (ztd mem q (5 * 2 + j)))) % (mem 67 1)) + ((((3 % mem 67 1) * ((1 * ((mem 71 q) % mem 67 1)) % (mem 67 1))) % (mem 67 1)) * (ztd mem q (5 * 3 + j)))) % (mem 67 1))] mem 0 0 Q
  refine wp_imulC dd_X11_shiftedOf_42 (by omega) ?_
  refine wp_iaddC dd_X11_shiftedOf_43 (by omega) ?_
  refine wp_aload_n dd_X11_shiftedOf_44 rfl ?_
  refine wp_getZ 1 rfl dd_X11_shiftedOf_45 gf_X11_9 rfl kk_67 (by decide) (zlt rfl) ?_
  refine wp_iremP dd_X11_shiftedOf_48 (by omega) (by omega) ?_
  refine wp_istore (ls2 := [some (zR 67), some (zI q), some (zI 2), some (zI j), some (zI ((((((0 + ((((1 % mem 67 1) * 1) % (mem 67 1)) * (ztd mem q (5 * 2 + j)))) % (mem 67 1)) + ((((3 % mem 67 1) * ((1 * ((mem 71 q) % mem 67 1)) % (mem 67 1))) % (mem 67 1)) * (ztd mem q (5 * 3 + j)))) % (mem 67 1)) + ((((6 % mem 67 1) * ((((1 * ((mem 71 q) % mem 67 1)) % (mem 67 1)) * ((mem 71 q) % mem 67 1)) % (mem 67 1))) % (mem 67 1)) * (ztd mem q (5 * 4 + j)))) % (mem 67 1))), some (zI 6), some (zI ((((1 * ((mem 71 q) % mem 67 1)) % (mem 67 1)) * ((mem 71 q) % mem 67 1)) % (mem 67 1))), some (zI 4)]) dd_X11_shiftedOf_49 rfl (by decide) rfl ?_
  refine wp_iload dd_X11_shiftedOf_51 rfl ?_
  refine wp_iload dd_X11_shiftedOf_53 rfl ?_
  refine wp_iconst dd_X11_shiftedOf_55 (zr_lit rfl) ?_
  refine wp_iaddC dd_X11_shiftedOf_56 (by decide) ?_
  show zw_Wp l mm_X11_shiftedOf (zS L) 57 [some (zR 67), some (zI q), some (zI 2), some (zI j), some (zI ((((((0 + ((((1 % mem 67 1) * 1) % (mem 67 1)) * (ztd mem q (5 * 2 + j)))) % (mem 67 1)) + ((((3 % mem 67 1) * ((1 * ((mem 71 q) % mem 67 1)) % (mem 67 1))) % (mem 67 1)) * (ztd mem q (5 * 3 + j)))) % (mem 67 1)) + ((((6 % mem 67 1) * ((((1 * ((mem 71 q) % mem 67 1)) % (mem 67 1)) * ((mem 71 q) % mem 67 1)) % (mem 67 1))) % (mem 67 1)) * (ztd mem q (5 * 4 + j)))) % (mem 67 1))), some (zI 6), some (zI ((((1 * ((mem 71 q) % mem 67 1)) % (mem 67 1)) * ((mem 71 q) % mem 67 1)) % (mem 67 1))), some (zI 4)] [zI 5, zI 6] mem 0 0 Q
  refine wp_imulC dd_X11_shiftedOf_57 (by decide) ?_
  show zw_Wp l mm_X11_shiftedOf (zS L) 58 [some (zR 67), some (zI q), some (zI 2), some (zI j), some (zI ((((((0 + ((((1 % mem 67 1) * 1) % (mem 67 1)) * (ztd mem q (5 * 2 + j)))) % (mem 67 1)) + ((((3 % mem 67 1) * ((1 * ((mem 71 q) % mem 67 1)) % (mem 67 1))) % (mem 67 1)) * (ztd mem q (5 * 3 + j)))) % (mem 67 1)) + ((((6 % mem 67 1) * ((((1 * ((mem 71 q) % mem 67 1)) % (mem 67 1)) * ((mem 71 q) % mem 67 1)) % (mem 67 1))) % (mem 67 1)) * (ztd mem q (5 * 4 + j)))) % (mem 67 1))), some (zI 6), some (zI ((((1 * ((mem 71 q) % mem 67 1)) % (mem 67 1)) * ((mem 71 q) % mem 67 1)) % (mem 67 1))), some (zI 4)] [zI 30] mem 0 0 Q
  refine wp_iload dd_X11_shiftedOf_58 rfl ?_
  refine wp_iconst dd_X11_shiftedOf_60 (zr_lit rfl) ?_
  refine wp_iaddC dd_X11_shiftedOf_61 (by decide) ?_
  show zw_Wp l mm_X11_shiftedOf (zS L) 62 [some (zR 67), some (zI q), some (zI 2), some (zI j), some (zI ((((((0 + ((((1 % mem 67 1) * 1) % (mem 67 1)) * (ztd mem q (5 * 2 + j)))) % (mem 67 1)) + ((((3 % mem 67 1) * ((1 * ((mem 71 q) % mem 67 1)) % (mem 67 1))) % (mem 67 1)) * (ztd mem q (5 * 3 + j)))) % (mem 67 1)) + ((((6 % mem 67 1) * ((((1 * ((mem 71 q) % mem 67 1)) % (mem 67 1)) * ((mem 71 q) % mem 67 1)) % (mem 67 1))) % (mem 67 1)) * (ztd mem q (5 * 4 + j)))) % (mem 67 1))), some (zI 6), some (zI ((((1 * ((mem 71 q) % mem 67 1)) % (mem 67 1)) * ((mem 71 q) % mem 67 1)) % (mem 67 1))), some (zI 4)] [zI 5, zI 30] mem 0 0 Q
  refine wp_iload_n dd_X11_shiftedOf_62 rfl ?_
  refine wp_isubC dd_X11_shiftedOf_63 (by decide) ?_
  show zw_Wp l mm_X11_shiftedOf (zS L) 64 [some (zR 67), some (zI q), some (zI 2), some (zI j), some (zI ((((((0 + ((((1 % mem 67 1) * 1) % (mem 67 1)) * (ztd mem q (5 * 2 + j)))) % (mem 67 1)) + ((((3 % mem 67 1) * ((1 * ((mem 71 q) % mem 67 1)) % (mem 67 1))) % (mem 67 1)) * (ztd mem q (5 * 3 + j)))) % (mem 67 1)) + ((((6 % mem 67 1) * ((((1 * ((mem 71 q) % mem 67 1)) % (mem 67 1)) * ((mem 71 q) % mem 67 1)) % (mem 67 1))) % (mem 67 1)) * (ztd mem q (5 * 4 + j)))) % (mem 67 1))), some (zI 6), some (zI ((((1 * ((mem 71 q) % mem 67 1)) % (mem 67 1)) * ((mem 71 q) % mem 67 1)) % (mem 67 1))), some (zI 4)] [zI 3, zI 30] mem 0 0 Q
  refine wp_idivP dd_X11_shiftedOf_64 (by decide) (by decide) ?_
  show zw_Wp l mm_X11_shiftedOf (zS L) 65 [some (zR 67), some (zI q), some (zI 2), some (zI j), some (zI ((((((0 + ((((1 % mem 67 1) * 1) % (mem 67 1)) * (ztd mem q (5 * 2 + j)))) % (mem 67 1)) + ((((3 % mem 67 1) * ((1 * ((mem 71 q) % mem 67 1)) % (mem 67 1))) % (mem 67 1)) * (ztd mem q (5 * 3 + j)))) % (mem 67 1)) + ((((6 % mem 67 1) * ((((1 * ((mem 71 q) % mem 67 1)) % (mem 67 1)) * ((mem 71 q) % mem 67 1)) % (mem 67 1))) % (mem 67 1)) * (ztd mem q (5 * 4 + j)))) % (mem 67 1))), some (zI 6), some (zI ((((1 * ((mem 71 q) % mem 67 1)) % (mem 67 1)) * ((mem 71 q) % mem 67 1)) % (mem 67 1))), some (zI 4)] [zI 10] mem 0 0 Q
  refine wp_istore (ls2 := [some (zR 67), some (zI q), some (zI 2), some (zI j), some (zI ((((((0 + ((((1 % mem 67 1) * 1) % (mem 67 1)) * (ztd mem q (5 * 2 + j)))) % (mem 67 1)) + ((((3 % mem 67 1) * ((1 * ((mem 71 q) % mem 67 1)) % (mem 67 1))) % (mem 67 1)) * (ztd mem q (5 * 3 + j)))) % (mem 67 1)) + ((((6 % mem 67 1) * ((((1 * ((mem 71 q) % mem 67 1)) % (mem 67 1)) * ((mem 71 q) % mem 67 1)) % (mem 67 1))) % (mem 67 1)) * (ztd mem q (5 * 4 + j)))) % (mem 67 1))), some (zI 10), some (zI ((((1 * ((mem 71 q) % mem 67 1)) % (mem 67 1)) * ((mem 71 q) % mem 67 1)) % (mem 67 1))), some (zI 4)]) dd_X11_shiftedOf_65 rfl (by decide) rfl ?_
  refine wp_iload dd_X11_shiftedOf_67 rfl ?_
  refine wp_aload_n dd_X11_shiftedOf_69 rfl ?_
  refine wp_aload_n dd_X11_shiftedOf_70 rfl ?_
  refine wp_getR dd_X11_shiftedOf_71 gf_X11_37 rfl kk_67 (by decide) (zlt rfl) rr_67_4 ?_
  refine wp_iload_n dd_X11_shiftedOf_74 rfl ?_
  refine wp_iald dd_X11_shiftedOf_75 kk_71 (zlt rfl) (by omega) (by omega) ?_
  refine wp_callV (M' := mm_X11_rest) (As := [zI (mem 71 q)]) (rest := [zI ((((1 * ((mem 71 q) % mem 67 1)) % (mem 67 1)) * ((mem 71 q) % mem 67 1)) % (mem 67 1))]) dd_X11_shiftedOf_76 lk_X11_13 mV_X11_rest kk_67 (zlt rfl) ⟨_, _, rfl⟩ rfl (by decide) (by decide) (Nat.le_of_ble_eq_true rfl) rfl (sp_X11_rest  (mem 71 q) (by first | assumption | omega) ?_)
  show zw_Wp l mm_X11_shiftedOf (zS L) 79 [some (zR 67), some (zI q), some (zI 2), some (zI j), some (zI ((((((0 + ((((1 % mem 67 1) * 1) % (mem 67 1)) * (ztd mem q (5 * 2 + j)))) % (mem 67 1)) + ((((3 % mem 67 1) * ((1 * ((mem 71 q) % mem 67 1)) % (mem 67 1))) % (mem 67 1)) * (ztd mem q (5 * 3 + j)))) % (mem 67 1)) + ((((6 % mem 67 1) * ((((1 * ((mem 71 q) % mem 67 1)) % (mem 67 1)) * ((mem 71 q) % mem 67 1)) % (mem 67 1))) % (mem 67 1)) * (ztd mem q (5 * 4 + j)))) % (mem 67 1))), some (zI 10), some (zI ((((1 * ((mem 71 q) % mem 67 1)) % (mem 67 1)) * ((mem 71 q) % mem 67 1)) % (mem 67 1))), some (zI 4)] [zI ((mem 71 q) % mem 67 1), zI ((((1 * ((mem 71 q) % mem 67 1)) % (mem 67 1)) * ((mem 71 q) % mem 67 1)) % (mem 67 1))] mem 0 0 Q
  refine wp_imulC dd_X11_shiftedOf_79 (by omega) ?_
  refine wp_aload_n dd_X11_shiftedOf_80 rfl ?_
  refine wp_getZ 1 rfl dd_X11_shiftedOf_81 gf_X11_9 rfl kk_67 (by decide) (zlt rfl) ?_
  refine wp_iremP dd_X11_shiftedOf_84 (by omega) (by omega) ?_
  refine wp_istore (ls2 := [some (zR 67), some (zI q), some (zI 2), some (zI j), some (zI ((((((0 + ((((1 % mem 67 1) * 1) % (mem 67 1)) * (ztd mem q (5 * 2 + j)))) % (mem 67 1)) + ((((3 % mem 67 1) * ((1 * ((mem 71 q) % mem 67 1)) % (mem 67 1))) % (mem 67 1)) * (ztd mem q (5 * 3 + j)))) % (mem 67 1)) + ((((6 % mem 67 1) * ((((1 * ((mem 71 q) % mem 67 1)) % (mem 67 1)) * ((mem 71 q) % mem 67 1)) % (mem 67 1))) % (mem 67 1)) * (ztd mem q (5 * 4 + j)))) % (mem 67 1))), some (zI 10), some (zI ((((((1 * ((mem 71 q) % mem 67 1)) % (mem 67 1)) * ((mem 71 q) % mem 67 1)) % (mem 67 1)) * ((mem 71 q) % mem 67 1)) % (mem 67 1))), some (zI 4)]) dd_X11_shiftedOf_85 rfl (by decide) rfl ?_
  refine wp_iincC (ls2 := [some (zR 67), some (zI q), some (zI 2), some (zI j), some (zI ((((((0 + ((((1 % mem 67 1) * 1) % (mem 67 1)) * (ztd mem q (5 * 2 + j)))) % (mem 67 1)) + ((((3 % mem 67 1) * ((1 * ((mem 71 q) % mem 67 1)) % (mem 67 1))) % (mem 67 1)) * (ztd mem q (5 * 3 + j)))) % (mem 67 1)) + ((((6 % mem 67 1) * ((((1 * ((mem 71 q) % mem 67 1)) % (mem 67 1)) * ((mem 71 q) % mem 67 1)) % (mem 67 1))) % (mem 67 1)) * (ztd mem q (5 * 4 + j)))) % (mem 67 1))), some (zI 10), some (zI ((((((1 * ((mem 71 q) % mem 67 1)) % (mem 67 1)) * ((mem 71 q) % mem 67 1)) % (mem 67 1)) * ((mem 71 q) % mem 67 1)) % (mem 67 1))), some (zI 5)]) dd_X11_shiftedOf_87 rfl rfl (by decide) (by omega) rfl ?_
  refine wp_goto (tgt := 12) dd_X11_shiftedOf_90 (by decide) ?_
  refine wp_iload dd_X11_shiftedOf_12 rfl ?_
  refine wp_iconst dd_X11_shiftedOf_14 (zr_lit rfl) ?_
  refine wp_icmp_ge (tgt := 93) dd_X11_shiftedOf_15 (by decide) (fun c15_4 => ?_) (fun c15_4 => absurd c15_4 (by decide))
  refine wp_iload dd_X11_shiftedOf_93 rfl ?_
  refine wp_ireturn (st := []) dd_X11_shiftedOf_95 rfl ?_
  refine zq_I ?_ ?_ k
  · have eb0 : (1 : Int) = 1 % mem 67 1 := (Int.emod_eq_of_lt (by omega) (by omega)).symm
    have ev0 : (0 : Int) = 0 % mem 67 1 := (Int.emod_eq_of_lt (by omega) (by omega)).symm
    have ev1 := zq_st (W := 1) (t := ztd mem q (5 * 2 + j)) ev0 eb0
    have eb1 := zq_by (f := mem 71 q) eb0
    have ev2 := zq_st (W := 3) (t := ztd mem q (5 * 3 + j)) ev1 eb1
    have eb2 := zq_by (f := mem 71 q) eb1
    have ev3 := zq_st (W := 6) (t := ztd mem q (5 * 4 + j)) ev2 eb2
    have eb3 := zq_by (f := mem 71 q) eb2
    refine ev3.trans ?_
    unfold zsf
    rw [if_neg (by decide)]; rw [if_neg (by decide)]; rw [if_pos rfl]
    congr 1; grind
  · rfl

set_option maxRecDepth 100000 in
set_option maxHeartbeats 4000000 in
theorem sp_X11_shiftedOf_3 {l : Launch} {L : Nat} {mem : zMem} {Q : zQ}  (q : Int) (j : Int) (hp : zPr (mem 67 1)) (hT : zT mem q) (hj : 0 ≤ j ∧ j ≤ 4) (k : Q (some (zI (zsf (mem 71 q) (mem 67 1) (fun k => ztd mem q (5 * k + j)) 3))) (zS L) mem) : zw_Ok l mm_X11_shiftedOf [zR 67, zI q, zI 3, zI j] (zS L) mem Q := by
  refine zw_okA (fun hA => ?_)
  have rg_q : -2147483648 ≤ q ∧ q < 2147483648 := hA.2.1
  have rg_j : -2147483648 ≤ j ∧ j < 2147483648 := hA.2.2.2.1
  refine zw_enter (by decide) (Nat.le_of_ble_eq_true rfl) rfl ?_
  show zw_Wp l mm_X11_shiftedOf (zS L) 0 [some (zR 67), some (zI q), some (zI 3), some (zI j), none, none, none, none] [] mem 0 0 Q
  have hpr := hp.rg
  obtain ⟨hq, hkd, hfg, ht⟩ := hT
  have hfm := zm_rg (a := mem 71 q) (p := mem 67 1) (by omega)
  refine wp_iconst dd_X11_shiftedOf_0 (zr_lit rfl) ?_
  refine wp_istore (ls2 := [some (zR 67), some (zI q), some (zI 3), some (zI j), some (zI 0), none, none, none]) dd_X11_shiftedOf_1 rfl (by decide) rfl ?_
  refine wp_iconst dd_X11_shiftedOf_3 (zr_lit rfl) ?_
  refine wp_istore (ls2 := [some (zR 67), some (zI q), some (zI 3), some (zI j), some (zI 0), some (zI 1), none, none]) dd_X11_shiftedOf_4 rfl (by decide) rfl ?_
  refine wp_iconst dd_X11_shiftedOf_6 (zr_lit rfl) ?_
  refine wp_istore (ls2 := [some (zR 67), some (zI q), some (zI 3), some (zI j), some (zI 0), some (zI 1), some (zI 1), none]) dd_X11_shiftedOf_7 rfl (by decide) rfl ?_
  refine wp_iload_n dd_X11_shiftedOf_9 rfl ?_
  refine wp_istore (ls2 := [some (zR 67), some (zI q), some (zI 3), some (zI j), some (zI 0), some (zI 1), some (zI 1), some (zI 3)]) dd_X11_shiftedOf_10 rfl (by decide) rfl ?_
  refine wp_iload dd_X11_shiftedOf_12 rfl ?_
  refine wp_iconst dd_X11_shiftedOf_14 (zr_lit rfl) ?_
  refine wp_icmp_ge (tgt := 93) dd_X11_shiftedOf_15 (by decide) (fun c15_1 => absurd c15_1 (by decide)) (fun c15_1 => ?_)
  have hb3 : 0 ≤ 1 ∧ 1 < mem 67 1 := by first | exact zm_rg (by omega) | omega
  have hv3 : 0 ≤ 0 ∧ 0 < mem 67 1 := by first | exact zm_rg (by omega) | omega
  have hw3 := zm_rg (a := 1) (p := mem 67 1) (by omega)
  have hm3 := zmul_rg (a := 1 % mem 67 1) (b := 1) (A := 31) (B := 31) (by omega) (by omega) (by omega) (by omega)
  have hx3 := zm_rg (a := 1 % mem 67 1 * 1) (p := mem 67 1) (by omega)
  have ht3 := ht (5 * 3 + j) (by omega) (by omega)
  have hy3 := zmul_rg (a := 1 % mem 67 1 * 1 % mem 67 1) (b := ztd mem q (5 * 3 + j)) (A := 31) (B := 31) (by omega) (by omega) (by omega) (by omega)
  have hz3 := zmul_rg (a := 1) (b := mem 71 q % mem 67 1) (A := 31) (B := 31) (by omega) (by omega) (by omega) (by omega)
  refine wp_iload dd_X11_shiftedOf_18 rfl ?_
  refine wp_aload_n dd_X11_shiftedOf_20 rfl ?_
  refine wp_iload dd_X11_shiftedOf_21 rfl ?_
  refine wp_callV (M' := mm_X11_rest) (As := [zI 1]) (rest := [zI 0]) dd_X11_shiftedOf_23 lk_X11_13 mV_X11_rest kk_67 (zlt rfl) ⟨_, _, rfl⟩ rfl (by decide) (by decide) (Nat.le_of_ble_eq_true rfl) rfl (sp_X11_rest  1 (by first | assumption | omega) ?_)
  show zw_Wp l mm_X11_shiftedOf (zS L) 26 [some (zR 67), some (zI q), some (zI 3), some (zI j), some (zI 0), some (zI 1), some (zI 1), some (zI 3)] [zI (1 % mem 67 1), zI 0] mem 0 0 Q
  refine wp_iload dd_X11_shiftedOf_26 rfl ?_
  refine wp_imulC dd_X11_shiftedOf_28 (by omega) ?_
  refine wp_aload_n dd_X11_shiftedOf_29 rfl ?_
  refine wp_getZ 1 rfl dd_X11_shiftedOf_30 gf_X11_9 rfl kk_67 (by decide) (zlt rfl) ?_
  refine wp_iremP dd_X11_shiftedOf_33 (by omega) (by omega) ?_
  refine wp_aload_n dd_X11_shiftedOf_34 rfl ?_
  refine wp_iload_n dd_X11_shiftedOf_35 rfl ?_
  refine wp_iload dd_X11_shiftedOf_36 rfl ?_
  refine wp_iload_n dd_X11_shiftedOf_38 rfl ?_
  refine wp_callV (M' := mm_X11_toldOf) (As := [zI q, zI 3, zI j]) (rest := [zI (((1 % mem 67 1) * 1) % (mem 67 1)), zI 0]) dd_X11_shiftedOf_39 lk_X11_98 mV_X11_toldOf kk_67 (zlt rfl) ⟨_, _, rfl⟩ rfl (by decide) (by decide) (Nat.le_of_ble_eq_true rfl) rfl (sp_X11_toldOf  q 3 j (by first | assumption | omega) (by decide) (by first | assumption | omega) ?_)
  show zw_Wp l mm_X11_shiftedOf (zS L) 42 [some (zR 67), some (zI q), some (zI 3), some (zI j), some (zI 0), some (zI 1), some (zI 1), some (zI 3)] [zI (ztd mem q (5 * 3 + j)), zI (((1 % mem 67 1) * 1) % (mem 67 1)), zI 0] mem 0 0 Q
  refine wp_imulC dd_X11_shiftedOf_42 (by omega) ?_
  refine wp_iaddC dd_X11_shiftedOf_43 (by omega) ?_
  refine wp_aload_n dd_X11_shiftedOf_44 rfl ?_
  refine wp_getZ 1 rfl dd_X11_shiftedOf_45 gf_X11_9 rfl kk_67 (by decide) (zlt rfl) ?_
  refine wp_iremP dd_X11_shiftedOf_48 (by omega) (by omega) ?_
  refine wp_istore (ls2 := [some (zR 67), some (zI q), some (zI 3), some (zI j), some (zI ((0 + ((((1 % mem 67 1) * 1) % (mem 67 1)) * (ztd mem q (5 * 3 + j)))) % (mem 67 1))), some (zI 1), some (zI 1), some (zI 3)]) dd_X11_shiftedOf_49 rfl (by decide) rfl ?_
  refine wp_iload dd_X11_shiftedOf_51 rfl ?_
  refine wp_iload dd_X11_shiftedOf_53 rfl ?_
  refine wp_iconst dd_X11_shiftedOf_55 (zr_lit rfl) ?_
  refine wp_iaddC dd_X11_shiftedOf_56 (by decide) ?_
  show zw_Wp l mm_X11_shiftedOf (zS L) 57 [some (zR 67), some (zI q), some (zI 3), some (zI j), some (zI ((0 + ((((1 % mem 67 1) * 1) % (mem 67 1)) * (ztd mem q (5 * 3 + j)))) % (mem 67 1))), some (zI 1), some (zI 1), some (zI 3)] [zI 4, zI 1] mem 0 0 Q
  refine wp_imulC dd_X11_shiftedOf_57 (by decide) ?_
  show zw_Wp l mm_X11_shiftedOf (zS L) 58 [some (zR 67), some (zI q), some (zI 3), some (zI j), some (zI ((0 + ((((1 % mem 67 1) * 1) % (mem 67 1)) * (ztd mem q (5 * 3 + j)))) % (mem 67 1))), some (zI 1), some (zI 1), some (zI 3)] [zI 4] mem 0 0 Q
  refine wp_iload dd_X11_shiftedOf_58 rfl ?_
  refine wp_iconst dd_X11_shiftedOf_60 (zr_lit rfl) ?_
  refine wp_iaddC dd_X11_shiftedOf_61 (by decide) ?_
  show zw_Wp l mm_X11_shiftedOf (zS L) 62 [some (zR 67), some (zI q), some (zI 3), some (zI j), some (zI ((0 + ((((1 % mem 67 1) * 1) % (mem 67 1)) * (ztd mem q (5 * 3 + j)))) % (mem 67 1))), some (zI 1), some (zI 1), some (zI 3)] [zI 4, zI 4] mem 0 0 Q
  refine wp_iload_n dd_X11_shiftedOf_62 rfl ?_
  refine wp_isubC dd_X11_shiftedOf_63 (by decide) ?_
  show zw_Wp l mm_X11_shiftedOf (zS L) 64 [some (zR 67), some (zI q), some (zI 3), some (zI j), some (zI ((0 + ((((1 % mem 67 1) * 1) % (mem 67 1)) * (ztd mem q (5 * 3 + j)))) % (mem 67 1))), some (zI 1), some (zI 1), some (zI 3)] [zI 1, zI 4] mem 0 0 Q
  refine wp_idivP dd_X11_shiftedOf_64 (by decide) (by decide) ?_
  show zw_Wp l mm_X11_shiftedOf (zS L) 65 [some (zR 67), some (zI q), some (zI 3), some (zI j), some (zI ((0 + ((((1 % mem 67 1) * 1) % (mem 67 1)) * (ztd mem q (5 * 3 + j)))) % (mem 67 1))), some (zI 1), some (zI 1), some (zI 3)] [zI 4] mem 0 0 Q
  refine wp_istore (ls2 := [some (zR 67), some (zI q), some (zI 3), some (zI j), some (zI ((0 + ((((1 % mem 67 1) * 1) % (mem 67 1)) * (ztd mem q (5 * 3 + j)))) % (mem 67 1))), some (zI 4), some (zI 1), some (zI 3)]) dd_X11_shiftedOf_65 rfl (by decide) rfl ?_
  refine wp_iload dd_X11_shiftedOf_67 rfl ?_
  refine wp_aload_n dd_X11_shiftedOf_69 rfl ?_
  refine wp_aload_n dd_X11_shiftedOf_70 rfl ?_
  refine wp_getR dd_X11_shiftedOf_71 gf_X11_37 rfl kk_67 (by decide) (zlt rfl) rr_67_4 ?_
  refine wp_iload_n dd_X11_shiftedOf_74 rfl ?_
  refine wp_iald dd_X11_shiftedOf_75 kk_71 (zlt rfl) (by omega) (by omega) ?_
  refine wp_callV (M' := mm_X11_rest) (As := [zI (mem 71 q)]) (rest := [zI 1]) dd_X11_shiftedOf_76 lk_X11_13 mV_X11_rest kk_67 (zlt rfl) ⟨_, _, rfl⟩ rfl (by decide) (by decide) (Nat.le_of_ble_eq_true rfl) rfl (sp_X11_rest  (mem 71 q) (by first | assumption | omega) ?_)
  show zw_Wp l mm_X11_shiftedOf (zS L) 79 [some (zR 67), some (zI q), some (zI 3), some (zI j), some (zI ((0 + ((((1 % mem 67 1) * 1) % (mem 67 1)) * (ztd mem q (5 * 3 + j)))) % (mem 67 1))), some (zI 4), some (zI 1), some (zI 3)] [zI ((mem 71 q) % mem 67 1), zI 1] mem 0 0 Q
  refine wp_imulC dd_X11_shiftedOf_79 (by omega) ?_
  refine wp_aload_n dd_X11_shiftedOf_80 rfl ?_
  refine wp_getZ 1 rfl dd_X11_shiftedOf_81 gf_X11_9 rfl kk_67 (by decide) (zlt rfl) ?_
  refine wp_iremP dd_X11_shiftedOf_84 (by omega) (by omega) ?_
  refine wp_istore (ls2 := [some (zR 67), some (zI q), some (zI 3), some (zI j), some (zI ((0 + ((((1 % mem 67 1) * 1) % (mem 67 1)) * (ztd mem q (5 * 3 + j)))) % (mem 67 1))), some (zI 4), some (zI ((1 * ((mem 71 q) % mem 67 1)) % (mem 67 1))), some (zI 3)]) dd_X11_shiftedOf_85 rfl (by decide) rfl ?_
  refine wp_iincC (ls2 := [some (zR 67), some (zI q), some (zI 3), some (zI j), some (zI ((0 + ((((1 % mem 67 1) * 1) % (mem 67 1)) * (ztd mem q (5 * 3 + j)))) % (mem 67 1))), some (zI 4), some (zI ((1 * ((mem 71 q) % mem 67 1)) % (mem 67 1))), some (zI 4)]) dd_X11_shiftedOf_87 rfl rfl (by decide) (by omega) rfl ?_
  refine wp_goto (tgt := 12) dd_X11_shiftedOf_90 (by decide) ?_
  refine wp_iload dd_X11_shiftedOf_12 rfl ?_
  refine wp_iconst dd_X11_shiftedOf_14 (zr_lit rfl) ?_
  refine wp_icmp_ge (tgt := 93) dd_X11_shiftedOf_15 (by decide) (fun c15_2 => absurd c15_2 (by decide)) (fun c15_2 => ?_)
  have hb4 : 0 ≤ ((1 * ((mem 71 q) % mem 67 1)) % (mem 67 1)) ∧ ((1 * ((mem 71 q) % mem 67 1)) % (mem 67 1)) < mem 67 1 := by first | exact zm_rg (by omega) | omega
  have hv4 : 0 ≤ ((0 + ((((1 % mem 67 1) * 1) % (mem 67 1)) * (ztd mem q (5 * 3 + j)))) % (mem 67 1)) ∧ ((0 + ((((1 % mem 67 1) * 1) % (mem 67 1)) * (ztd mem q (5 * 3 + j)))) % (mem 67 1)) < mem 67 1 := by first | exact zm_rg (by omega) | omega
  have hw4 := zm_rg (a := 4) (p := mem 67 1) (by omega)
  have hm4 := zmul_rg (a := 4 % mem 67 1) (b := ((1 * ((mem 71 q) % mem 67 1)) % (mem 67 1))) (A := 31) (B := 31) (by omega) (by omega) (by omega) (by omega)
  have hx4 := zm_rg (a := 4 % mem 67 1 * ((1 * ((mem 71 q) % mem 67 1)) % (mem 67 1))) (p := mem 67 1) (by omega)
  have ht4 := ht (5 * 4 + j) (by omega) (by omega)
  have hy4 := zmul_rg (a := 4 % mem 67 1 * ((1 * ((mem 71 q) % mem 67 1)) % (mem 67 1)) % mem 67 1) (b := ztd mem q (5 * 4 + j)) (A := 31) (B := 31) (by omega) (by omega) (by omega) (by omega)
  have hz4 := zmul_rg (a := ((1 * ((mem 71 q) % mem 67 1)) % (mem 67 1))) (b := mem 71 q % mem 67 1) (A := 31) (B := 31) (by omega) (by omega) (by omega) (by omega)
  refine wp_iload dd_X11_shiftedOf_18 rfl ?_
  refine wp_aload_n dd_X11_shiftedOf_20 rfl ?_
  refine wp_iload dd_X11_shiftedOf_21 rfl ?_
  refine wp_callV (M' := mm_X11_rest) (As := [zI 4]) (rest := [zI ((0 + ((((1 % mem 67 1) * 1) % (mem 67 1)) * (ztd mem q (5 * 3 + j)))) % (mem 67 1))]) dd_X11_shiftedOf_23 lk_X11_13 mV_X11_rest kk_67 (zlt rfl) ⟨_, _, rfl⟩ rfl (by decide) (by decide) (Nat.le_of_ble_eq_true rfl) rfl (sp_X11_rest  4 (by first | assumption | omega) ?_)
  show zw_Wp l mm_X11_shiftedOf (zS L) 26 [some (zR 67), some (zI q), some (zI 3), some (zI j), some (zI ((0 + ((((1 % mem 67 1) * 1) % (mem 67 1)) * (ztd mem q (5 * 3 + j)))) % (mem 67 1))), some (zI 4), some (zI ((1 * ((mem 71 q) % mem 67 1)) % (mem 67 1))), some (zI 4)] [zI (4 % mem 67 1), zI ((0 + ((((1 % mem 67 1) * 1) % (mem 67 1)) * (ztd mem q (5 * 3 + j)))) % (mem 67 1))] mem 0 0 Q
  refine wp_iload dd_X11_shiftedOf_26 rfl ?_
  refine wp_imulC dd_X11_shiftedOf_28 (by omega) ?_
  refine wp_aload_n dd_X11_shiftedOf_29 rfl ?_
  refine wp_getZ 1 rfl dd_X11_shiftedOf_30 gf_X11_9 rfl kk_67 (by decide) (zlt rfl) ?_
  refine wp_iremP dd_X11_shiftedOf_33 (by omega) (by omega) ?_
  refine wp_aload_n dd_X11_shiftedOf_34 rfl ?_
  refine wp_iload_n dd_X11_shiftedOf_35 rfl ?_
  refine wp_iload dd_X11_shiftedOf_36 rfl ?_
  refine wp_iload_n dd_X11_shiftedOf_38 rfl ?_
  refine wp_callV (M' := mm_X11_toldOf) (As := [zI q, zI 4, zI j]) (rest := [zI (((4 % mem 67 1) * ((1 * ((mem 71 q) % mem 67 1)) % (mem 67 1))) % (mem 67 1)), zI ((0 + ((((1 % mem 67 1) * 1) % (mem 67 1)) * (ztd mem q (5 * 3 + j)))) % (mem 67 1))]) dd_X11_shiftedOf_39 lk_X11_98 mV_X11_toldOf kk_67 (zlt rfl) ⟨_, _, rfl⟩ rfl (by decide) (by decide) (Nat.le_of_ble_eq_true rfl) rfl (sp_X11_toldOf  q 4 j (by first | assumption | omega) (by decide) (by first | assumption | omega) ?_)
  show zw_Wp l mm_X11_shiftedOf (zS L) 42 [some (zR 67), some (zI q), some (zI 3), some (zI j), some (zI ((0 + ((((1 % mem 67 1) * 1) % (mem 67 1)) * (ztd mem q (5 * 3 + j)))) % (mem 67 1))), some (zI 4), some (zI ((1 * ((mem 71 q) % mem 67 1)) % (mem 67 1))), some (zI 4)] [zI (ztd mem q (5 * 4 + j)), zI (((4 % mem 67 1) * ((1 * ((mem 71 q) % mem 67 1)) % (mem 67 1))) % (mem 67 1)), zI ((0 + ((((1 % mem 67 1) * 1) % (mem 67 1)) * (ztd mem q (5 * 3 + j)))) % (mem 67 1))] mem 0 0 Q
  refine wp_imulC dd_X11_shiftedOf_42 (by omega) ?_
  refine wp_iaddC dd_X11_shiftedOf_43 (by omega) ?_
  refine wp_aload_n dd_X11_shiftedOf_44 rfl ?_
  refine wp_getZ 1 rfl dd_X11_shiftedOf_45 gf_X11_9 rfl kk_67 (by decide) (zlt rfl) ?_
  refine wp_iremP dd_X11_shiftedOf_48 (by omega) (by omega) ?_
  refine wp_istore (ls2 := [some (zR 67), some (zI q), some (zI 3), some (zI j), some (zI ((((0 + ((((1 % mem 67 1) * 1) % (mem 67 1)) * (ztd mem q (5 * 3 + j)))) % (mem 67 1)) + ((((4 % mem 67 1) * ((1 * ((mem 71 q) % mem 67 1)) % (mem 67 1))) % (mem 67 1)) * (ztd mem q (5 * 4 + j)))) % (mem 67 1))), some (zI 4), some (zI ((1 * ((mem 71 q) % mem 67 1)) % (mem 67 1))), some (zI 4)]) dd_X11_shiftedOf_49 rfl (by decide) rfl ?_
  refine wp_iload dd_X11_shiftedOf_51 rfl ?_
  refine wp_iload dd_X11_shiftedOf_53 rfl ?_
  refine wp_iconst dd_X11_shiftedOf_55 (zr_lit rfl) ?_
  refine wp_iaddC dd_X11_shiftedOf_56 (by decide) ?_
  show zw_Wp l mm_X11_shiftedOf (zS L) 57 [some (zR 67), some (zI q), some (zI 3), some (zI j), some (zI ((((0 + ((((1 % mem 67 1) * 1) % (mem 67 1)) * (ztd mem q (5 * 3 + j)))) % (mem 67 1)) + ((((4 % mem 67 1) * ((1 * ((mem 71 q) % mem 67 1)) % (mem 67 1))) % (mem 67 1)) * (ztd mem q (5 * 4 + j)))) % (mem 67 1))), some (zI 4), some (zI ((1 * ((mem 71 q) % mem 67 1)) % (mem 67 1))), some (zI 4)] [zI 5, zI 4] mem 0 0 Q
  refine wp_imulC dd_X11_shiftedOf_57 (by decide) ?_
  show zw_Wp l mm_X11_shiftedOf (zS L) 58 [some (zR 67), some (zI q), some (zI 3), some (zI j), some (zI ((((0 + ((((1 % mem 67 1) * 1) % (mem 67 1)) * (ztd mem q (5 * 3 + j)))) % (mem 67 1)) + ((((4 % mem 67 1) * ((1 * ((mem 71 q) % mem 67 1)) % (mem 67 1))) % (mem 67 1)) * (ztd mem q (5 * 4 + j)))) % (mem 67 1))), some (zI 4), some (zI ((1 * ((mem 71 q) % mem 67 1)) % (mem 67 1))), some (zI 4)] [zI 20] mem 0 0 Q
  refine wp_iload dd_X11_shiftedOf_58 rfl ?_
  refine wp_iconst dd_X11_shiftedOf_60 (zr_lit rfl) ?_
  refine wp_iaddC dd_X11_shiftedOf_61 (by decide) ?_
  show zw_Wp l mm_X11_shiftedOf (zS L) 62 [some (zR 67), some (zI q), some (zI 3), some (zI j), some (zI ((((0 + ((((1 % mem 67 1) * 1) % (mem 67 1)) * (ztd mem q (5 * 3 + j)))) % (mem 67 1)) + ((((4 % mem 67 1) * ((1 * ((mem 71 q) % mem 67 1)) % (mem 67 1))) % (mem 67 1)) * (ztd mem q (5 * 4 + j)))) % (mem 67 1))), some (zI 4), some (zI ((1 * ((mem 71 q) % mem 67 1)) % (mem 67 1))), some (zI 4)] [zI 5, zI 20] mem 0 0 Q
  refine wp_iload_n dd_X11_shiftedOf_62 rfl ?_
  refine wp_isubC dd_X11_shiftedOf_63 (by decide) ?_
  show zw_Wp l mm_X11_shiftedOf (zS L) 64 [some (zR 67), some (zI q), some (zI 3), some (zI j), some (zI ((((0 + ((((1 % mem 67 1) * 1) % (mem 67 1)) * (ztd mem q (5 * 3 + j)))) % (mem 67 1)) + ((((4 % mem 67 1) * ((1 * ((mem 71 q) % mem 67 1)) % (mem 67 1))) % (mem 67 1)) * (ztd mem q (5 * 4 + j)))) % (mem 67 1))), some (zI 4), some (zI ((1 * ((mem 71 q) % mem 67 1)) % (mem 67 1))), some (zI 4)] [zI 2, zI 20] mem 0 0 Q
  refine wp_idivP dd_X11_shiftedOf_64 (by decide) (by decide) ?_
  show zw_Wp l mm_X11_shiftedOf (zS L) 65 [some (zR 67), some (zI q), some (zI 3), some (zI j), some (zI ((((0 + ((((1 % mem 67 1) * 1) % (mem 67 1)) * (ztd mem q (5 * 3 + j)))) % (mem 67 1)) + ((((4 % mem 67 1) * ((1 * ((mem 71 q) % mem 67 1)) % (mem 67 1))) % (mem 67 1)) * (ztd mem q (5 * 4 + j)))) % (mem 67 1))), some (zI 4), some (zI ((1 * ((mem 71 q) % mem 67 1)) % (mem 67 1))), some (zI 4)] [zI 10] mem 0 0 Q
  refine wp_istore (ls2 := [some (zR 67), some (zI q), some (zI 3), some (zI j), some (zI ((((0 + ((((1 % mem 67 1) * 1) % (mem 67 1)) * (ztd mem q (5 * 3 + j)))) % (mem 67 1)) + ((((4 % mem 67 1) * ((1 * ((mem 71 q) % mem 67 1)) % (mem 67 1))) % (mem 67 1)) * (ztd mem q (5 * 4 + j)))) % (mem 67 1))), some (zI 10), some (zI ((1 * ((mem 71 q) % mem 67 1)) % (mem 67 1))), some (zI 4)]) dd_X11_shiftedOf_65 rfl (by decide) rfl ?_
  refine wp_iload dd_X11_shiftedOf_67 rfl ?_
  refine wp_aload_n dd_X11_shiftedOf_69 rfl ?_
  refine wp_aload_n dd_X11_shiftedOf_70 rfl ?_
  refine wp_getR dd_X11_shiftedOf_71 gf_X11_37 rfl kk_67 (by decide) (zlt rfl) rr_67_4 ?_
  refine wp_iload_n dd_X11_shiftedOf_74 rfl ?_
  refine wp_iald dd_X11_shiftedOf_75 kk_71 (zlt rfl) (by omega) (by omega) ?_
  refine wp_callV (M' := mm_X11_rest) (As := [zI (mem 71 q)]) (rest := [zI ((1 * ((mem 71 q) % mem 67 1)) % (mem 67 1))]) dd_X11_shiftedOf_76 lk_X11_13 mV_X11_rest kk_67 (zlt rfl) ⟨_, _, rfl⟩ rfl (by decide) (by decide) (Nat.le_of_ble_eq_true rfl) rfl (sp_X11_rest  (mem 71 q) (by first | assumption | omega) ?_)
  show zw_Wp l mm_X11_shiftedOf (zS L) 79 [some (zR 67), some (zI q), some (zI 3), some (zI j), some (zI ((((0 + ((((1 % mem 67 1) * 1) % (mem 67 1)) * (ztd mem q (5 * 3 + j)))) % (mem 67 1)) + ((((4 % mem 67 1) * ((1 * ((mem 71 q) % mem 67 1)) % (mem 67 1))) % (mem 67 1)) * (ztd mem q (5 * 4 + j)))) % (mem 67 1))), some (zI 10), some (zI ((1 * ((mem 71 q) % mem 67 1)) % (mem 67 1))), some (zI 4)] [zI ((mem 71 q) % mem 67 1), zI ((1 * ((mem 71 q) % mem 67 1)) % (mem 67 1))] mem 0 0 Q
  refine wp_imulC dd_X11_shiftedOf_79 (by omega) ?_
  refine wp_aload_n dd_X11_shiftedOf_80 rfl ?_
  refine wp_getZ 1 rfl dd_X11_shiftedOf_81 gf_X11_9 rfl kk_67 (by decide) (zlt rfl) ?_
  refine wp_iremP dd_X11_shiftedOf_84 (by omega) (by omega) ?_
  refine wp_istore (ls2 := [some (zR 67), some (zI q), some (zI 3), some (zI j), some (zI ((((0 + ((((1 % mem 67 1) * 1) % (mem 67 1)) * (ztd mem q (5 * 3 + j)))) % (mem 67 1)) + ((((4 % mem 67 1) * ((1 * ((mem 71 q) % mem 67 1)) % (mem 67 1))) % (mem 67 1)) * (ztd mem q (5 * 4 + j)))) % (mem 67 1))), some (zI 10), some (zI ((((1 * ((mem 71 q) % mem 67 1)) % (mem 67 1)) * ((mem 71 q) % mem 67 1)) % (mem 67 1))), some (zI 4)]) dd_X11_shiftedOf_85 rfl (by decide) rfl ?_
  refine wp_iincC (ls2 := [some (zR 67), some (zI q), some (zI 3), some (zI j), some (zI ((((0 + ((((1 % mem 67 1) * 1) % (mem 67 1)) * (ztd mem q (5 * 3 + j)))) % (mem 67 1)) + ((((4 % mem 67 1) * ((1 * ((mem 71 q) % mem 67 1)) % (mem 67 1))) % (mem 67 1)) * (ztd mem q (5 * 4 + j)))) % (mem 67 1))), some (zI 10), some (zI ((((1 * ((mem 71 q) % mem 67 1)) % (mem 67 1)) * ((mem 71 q) % mem 67 1)) % (mem 67 1))), some (zI 5)]) dd_X11_shiftedOf_87 rfl rfl (by decide) (by omega) rfl ?_
  refine wp_goto (tgt := 12) dd_X11_shiftedOf_90 (by decide) ?_
  refine wp_iload dd_X11_shiftedOf_12 rfl ?_
  refine wp_iconst dd_X11_shiftedOf_14 (zr_lit rfl) ?_
  refine wp_icmp_ge (tgt := 93) dd_X11_shiftedOf_15 (by decide) (fun c15_3 => ?_) (fun c15_3 => absurd c15_3 (by decide))
  refine wp_iload dd_X11_shiftedOf_93 rfl ?_
  refine wp_ireturn (st := []) dd_X11_shiftedOf_95 rfl ?_
  refine zq_I ?_ ?_ k
  · have eb0 : (1 : Int) = 1 % mem 67 1 := (Int.emod_eq_of_lt (by omega) (by omega)).symm
    have ev0 : (0 : Int) = 0 % mem 67 1 := (Int.emod_eq_of_lt (by omega) (by omega)).symm
    have ev1 := zq_st (W := 1) (t := ztd mem q (5 * 3 + j)) ev0 eb0
    have eb1 := zq_by (f := mem 71 q) eb0
    have ev2 := zq_st (W := 4) (t := ztd mem q (5 * 4 + j)) ev1 eb1
    have eb2 := zq_by (f := mem 71 q) eb1
    refine ev2.trans ?_
    unfold zsf
    rw [if_neg (by decide)]; rw [if_neg (by decide)]; rw [if_neg (by decide)]; rw [if_pos rfl]
    congr 1; grind
  · rfl

set_option maxRecDepth 100000 in
set_option maxHeartbeats 4000000 in
theorem sp_X11_shiftedOf_4 {l : Launch} {L : Nat} {mem : zMem} {Q : zQ}  (q : Int) (j : Int) (hp : zPr (mem 67 1)) (hT : zT mem q) (hj : 0 ≤ j ∧ j ≤ 4) (k : Q (some (zI (zsf (mem 71 q) (mem 67 1) (fun k => ztd mem q (5 * k + j)) 4))) (zS L) mem) : zw_Ok l mm_X11_shiftedOf [zR 67, zI q, zI 4, zI j] (zS L) mem Q := by
  refine zw_okA (fun hA => ?_)
  have rg_q : -2147483648 ≤ q ∧ q < 2147483648 := hA.2.1
  have rg_j : -2147483648 ≤ j ∧ j < 2147483648 := hA.2.2.2.1
  refine zw_enter (by decide) (Nat.le_of_ble_eq_true rfl) rfl ?_
  show zw_Wp l mm_X11_shiftedOf (zS L) 0 [some (zR 67), some (zI q), some (zI 4), some (zI j), none, none, none, none] [] mem 0 0 Q
  have hpr := hp.rg
  obtain ⟨hq, hkd, hfg, ht⟩ := hT
  have hfm := zm_rg (a := mem 71 q) (p := mem 67 1) (by omega)
  refine wp_iconst dd_X11_shiftedOf_0 (zr_lit rfl) ?_
  refine wp_istore (ls2 := [some (zR 67), some (zI q), some (zI 4), some (zI j), some (zI 0), none, none, none]) dd_X11_shiftedOf_1 rfl (by decide) rfl ?_
  refine wp_iconst dd_X11_shiftedOf_3 (zr_lit rfl) ?_
  refine wp_istore (ls2 := [some (zR 67), some (zI q), some (zI 4), some (zI j), some (zI 0), some (zI 1), none, none]) dd_X11_shiftedOf_4 rfl (by decide) rfl ?_
  refine wp_iconst dd_X11_shiftedOf_6 (zr_lit rfl) ?_
  refine wp_istore (ls2 := [some (zR 67), some (zI q), some (zI 4), some (zI j), some (zI 0), some (zI 1), some (zI 1), none]) dd_X11_shiftedOf_7 rfl (by decide) rfl ?_
  refine wp_iload_n dd_X11_shiftedOf_9 rfl ?_
  refine wp_istore (ls2 := [some (zR 67), some (zI q), some (zI 4), some (zI j), some (zI 0), some (zI 1), some (zI 1), some (zI 4)]) dd_X11_shiftedOf_10 rfl (by decide) rfl ?_
  refine wp_iload dd_X11_shiftedOf_12 rfl ?_
  refine wp_iconst dd_X11_shiftedOf_14 (zr_lit rfl) ?_
  refine wp_icmp_ge (tgt := 93) dd_X11_shiftedOf_15 (by decide) (fun c15_1 => absurd c15_1 (by decide)) (fun c15_1 => ?_)
  have hb4 : 0 ≤ 1 ∧ 1 < mem 67 1 := by first | exact zm_rg (by omega) | omega
  have hv4 : 0 ≤ 0 ∧ 0 < mem 67 1 := by first | exact zm_rg (by omega) | omega
  have hw4 := zm_rg (a := 1) (p := mem 67 1) (by omega)
  have hm4 := zmul_rg (a := 1 % mem 67 1) (b := 1) (A := 31) (B := 31) (by omega) (by omega) (by omega) (by omega)
  have hx4 := zm_rg (a := 1 % mem 67 1 * 1) (p := mem 67 1) (by omega)
  have ht4 := ht (5 * 4 + j) (by omega) (by omega)
  have hy4 := zmul_rg (a := 1 % mem 67 1 * 1 % mem 67 1) (b := ztd mem q (5 * 4 + j)) (A := 31) (B := 31) (by omega) (by omega) (by omega) (by omega)
  have hz4 := zmul_rg (a := 1) (b := mem 71 q % mem 67 1) (A := 31) (B := 31) (by omega) (by omega) (by omega) (by omega)
  refine wp_iload dd_X11_shiftedOf_18 rfl ?_
  refine wp_aload_n dd_X11_shiftedOf_20 rfl ?_
  refine wp_iload dd_X11_shiftedOf_21 rfl ?_
  refine wp_callV (M' := mm_X11_rest) (As := [zI 1]) (rest := [zI 0]) dd_X11_shiftedOf_23 lk_X11_13 mV_X11_rest kk_67 (zlt rfl) ⟨_, _, rfl⟩ rfl (by decide) (by decide) (Nat.le_of_ble_eq_true rfl) rfl (sp_X11_rest  1 (by first | assumption | omega) ?_)
  show zw_Wp l mm_X11_shiftedOf (zS L) 26 [some (zR 67), some (zI q), some (zI 4), some (zI j), some (zI 0), some (zI 1), some (zI 1), some (zI 4)] [zI (1 % mem 67 1), zI 0] mem 0 0 Q
  refine wp_iload dd_X11_shiftedOf_26 rfl ?_
  refine wp_imulC dd_X11_shiftedOf_28 (by omega) ?_
  refine wp_aload_n dd_X11_shiftedOf_29 rfl ?_
  refine wp_getZ 1 rfl dd_X11_shiftedOf_30 gf_X11_9 rfl kk_67 (by decide) (zlt rfl) ?_
  refine wp_iremP dd_X11_shiftedOf_33 (by omega) (by omega) ?_
  refine wp_aload_n dd_X11_shiftedOf_34 rfl ?_
  refine wp_iload_n dd_X11_shiftedOf_35 rfl ?_
  refine wp_iload dd_X11_shiftedOf_36 rfl ?_
  refine wp_iload_n dd_X11_shiftedOf_38 rfl ?_
  refine wp_callV (M' := mm_X11_toldOf) (As := [zI q, zI 4, zI j]) (rest := [zI (((1 % mem 67 1) * 1) % (mem 67 1)), zI 0]) dd_X11_shiftedOf_39 lk_X11_98 mV_X11_toldOf kk_67 (zlt rfl) ⟨_, _, rfl⟩ rfl (by decide) (by decide) (Nat.le_of_ble_eq_true rfl) rfl (sp_X11_toldOf  q 4 j (by first | assumption | omega) (by decide) (by first | assumption | omega) ?_)
  show zw_Wp l mm_X11_shiftedOf (zS L) 42 [some (zR 67), some (zI q), some (zI 4), some (zI j), some (zI 0), some (zI 1), some (zI 1), some (zI 4)] [zI (ztd mem q (5 * 4 + j)), zI (((1 % mem 67 1) * 1) % (mem 67 1)), zI 0] mem 0 0 Q
  refine wp_imulC dd_X11_shiftedOf_42 (by omega) ?_
  refine wp_iaddC dd_X11_shiftedOf_43 (by omega) ?_
  refine wp_aload_n dd_X11_shiftedOf_44 rfl ?_
  refine wp_getZ 1 rfl dd_X11_shiftedOf_45 gf_X11_9 rfl kk_67 (by decide) (zlt rfl) ?_
  refine wp_iremP dd_X11_shiftedOf_48 (by omega) (by omega) ?_
  refine wp_istore (ls2 := [some (zR 67), some (zI q), some (zI 4), some (zI j), some (zI ((0 + ((((1 % mem 67 1) * 1) % (mem 67 1)) * (ztd mem q (5 * 4 + j)))) % (mem 67 1))), some (zI 1), some (zI 1), some (zI 4)]) dd_X11_shiftedOf_49 rfl (by decide) rfl ?_
  refine wp_iload dd_X11_shiftedOf_51 rfl ?_
  refine wp_iload dd_X11_shiftedOf_53 rfl ?_
  refine wp_iconst dd_X11_shiftedOf_55 (zr_lit rfl) ?_
  refine wp_iaddC dd_X11_shiftedOf_56 (by decide) ?_
  show zw_Wp l mm_X11_shiftedOf (zS L) 57 [some (zR 67), some (zI q), some (zI 4), some (zI j), some (zI ((0 + ((((1 % mem 67 1) * 1) % (mem 67 1)) * (ztd mem q (5 * 4 + j)))) % (mem 67 1))), some (zI 1), some (zI 1), some (zI 4)] [zI 5, zI 1] mem 0 0 Q
  refine wp_imulC dd_X11_shiftedOf_57 (by decide) ?_
  show zw_Wp l mm_X11_shiftedOf (zS L) 58 [some (zR 67), some (zI q), some (zI 4), some (zI j), some (zI ((0 + ((((1 % mem 67 1) * 1) % (mem 67 1)) * (ztd mem q (5 * 4 + j)))) % (mem 67 1))), some (zI 1), some (zI 1), some (zI 4)] [zI 5] mem 0 0 Q
  refine wp_iload dd_X11_shiftedOf_58 rfl ?_
  refine wp_iconst dd_X11_shiftedOf_60 (zr_lit rfl) ?_
  refine wp_iaddC dd_X11_shiftedOf_61 (by decide) ?_
  show zw_Wp l mm_X11_shiftedOf (zS L) 62 [some (zR 67), some (zI q), some (zI 4), some (zI j), some (zI ((0 + ((((1 % mem 67 1) * 1) % (mem 67 1)) * (ztd mem q (5 * 4 + j)))) % (mem 67 1))), some (zI 1), some (zI 1), some (zI 4)] [zI 5, zI 5] mem 0 0 Q
  refine wp_iload_n dd_X11_shiftedOf_62 rfl ?_
  refine wp_isubC dd_X11_shiftedOf_63 (by decide) ?_
  show zw_Wp l mm_X11_shiftedOf (zS L) 64 [some (zR 67), some (zI q), some (zI 4), some (zI j), some (zI ((0 + ((((1 % mem 67 1) * 1) % (mem 67 1)) * (ztd mem q (5 * 4 + j)))) % (mem 67 1))), some (zI 1), some (zI 1), some (zI 4)] [zI 1, zI 5] mem 0 0 Q
  refine wp_idivP dd_X11_shiftedOf_64 (by decide) (by decide) ?_
  show zw_Wp l mm_X11_shiftedOf (zS L) 65 [some (zR 67), some (zI q), some (zI 4), some (zI j), some (zI ((0 + ((((1 % mem 67 1) * 1) % (mem 67 1)) * (ztd mem q (5 * 4 + j)))) % (mem 67 1))), some (zI 1), some (zI 1), some (zI 4)] [zI 5] mem 0 0 Q
  refine wp_istore (ls2 := [some (zR 67), some (zI q), some (zI 4), some (zI j), some (zI ((0 + ((((1 % mem 67 1) * 1) % (mem 67 1)) * (ztd mem q (5 * 4 + j)))) % (mem 67 1))), some (zI 5), some (zI 1), some (zI 4)]) dd_X11_shiftedOf_65 rfl (by decide) rfl ?_
  refine wp_iload dd_X11_shiftedOf_67 rfl ?_
  refine wp_aload_n dd_X11_shiftedOf_69 rfl ?_
  refine wp_aload_n dd_X11_shiftedOf_70 rfl ?_
  refine wp_getR dd_X11_shiftedOf_71 gf_X11_37 rfl kk_67 (by decide) (zlt rfl) rr_67_4 ?_
  refine wp_iload_n dd_X11_shiftedOf_74 rfl ?_
  refine wp_iald dd_X11_shiftedOf_75 kk_71 (zlt rfl) (by omega) (by omega) ?_
  refine wp_callV (M' := mm_X11_rest) (As := [zI (mem 71 q)]) (rest := [zI 1]) dd_X11_shiftedOf_76 lk_X11_13 mV_X11_rest kk_67 (zlt rfl) ⟨_, _, rfl⟩ rfl (by decide) (by decide) (Nat.le_of_ble_eq_true rfl) rfl (sp_X11_rest  (mem 71 q) (by first | assumption | omega) ?_)
  show zw_Wp l mm_X11_shiftedOf (zS L) 79 [some (zR 67), some (zI q), some (zI 4), some (zI j), some (zI ((0 + ((((1 % mem 67 1) * 1) % (mem 67 1)) * (ztd mem q (5 * 4 + j)))) % (mem 67 1))), some (zI 5), some (zI 1), some (zI 4)] [zI ((mem 71 q) % mem 67 1), zI 1] mem 0 0 Q
  refine wp_imulC dd_X11_shiftedOf_79 (by omega) ?_
  refine wp_aload_n dd_X11_shiftedOf_80 rfl ?_
  refine wp_getZ 1 rfl dd_X11_shiftedOf_81 gf_X11_9 rfl kk_67 (by decide) (zlt rfl) ?_
  refine wp_iremP dd_X11_shiftedOf_84 (by omega) (by omega) ?_
  refine wp_istore (ls2 := [some (zR 67), some (zI q), some (zI 4), some (zI j), some (zI ((0 + ((((1 % mem 67 1) * 1) % (mem 67 1)) * (ztd mem q (5 * 4 + j)))) % (mem 67 1))), some (zI 5), some (zI ((1 * ((mem 71 q) % mem 67 1)) % (mem 67 1))), some (zI 4)]) dd_X11_shiftedOf_85 rfl (by decide) rfl ?_
  refine wp_iincC (ls2 := [some (zR 67), some (zI q), some (zI 4), some (zI j), some (zI ((0 + ((((1 % mem 67 1) * 1) % (mem 67 1)) * (ztd mem q (5 * 4 + j)))) % (mem 67 1))), some (zI 5), some (zI ((1 * ((mem 71 q) % mem 67 1)) % (mem 67 1))), some (zI 5)]) dd_X11_shiftedOf_87 rfl rfl (by decide) (by omega) rfl ?_
  refine wp_goto (tgt := 12) dd_X11_shiftedOf_90 (by decide) ?_
  refine wp_iload dd_X11_shiftedOf_12 rfl ?_
  refine wp_iconst dd_X11_shiftedOf_14 (zr_lit rfl) ?_
  refine wp_icmp_ge (tgt := 93) dd_X11_shiftedOf_15 (by decide) (fun c15_2 => ?_) (fun c15_2 => absurd c15_2 (by decide))
  refine wp_iload dd_X11_shiftedOf_93 rfl ?_
  refine wp_ireturn (st := []) dd_X11_shiftedOf_95 rfl ?_
  refine zq_I ?_ ?_ k
  · have eb0 : (1 : Int) = 1 % mem 67 1 := (Int.emod_eq_of_lt (by omega) (by omega)).symm
    have ev0 : (0 : Int) = 0 % mem 67 1 := (Int.emod_eq_of_lt (by omega) (by omega)).symm
    have ev1 := zq_st (W := 1) (t := ztd mem q (5 * 4 + j)) ev0 eb0
    have eb1 := zq_by (f := mem 71 q) eb0
    refine ev1.trans ?_
    unfold zsf
    rw [if_neg (by decide)]; rw [if_neg (by decide)]; rw [if_neg (by decide)]; rw [if_neg (by decide)]; skip
    congr 1; grind
  · rfl

theorem sp_X11_shiftedOf {l : Launch} {L : Nat} {mem : zMem} {Q : zQ} (q i j : Int) (hp : zPr (mem 67 1)) (hT : zT mem q) (hi : 0 ≤ i ∧ i ≤ 4) (hj : 0 ≤ j ∧ j ≤ 4) (k : Q (some (zI (zsf (mem 71 q) (mem 67 1) (fun k => ztd mem q (5 * k + j)) i))) (zS L) mem) : zw_Ok l mm_X11_shiftedOf [zR 67, zI q, zI i, zI j] (zS L) mem Q := by
  rcases (show i = 0 ∨ i = 1 ∨ i = 2 ∨ i = 3 ∨ i = 4 by omega) with rfl | rfl | rfl | rfl | rfl
  · exact sp_X11_shiftedOf_0 q j hp hT hj k
  · exact sp_X11_shiftedOf_1 q j hp hT hj k
  · exact sp_X11_shiftedOf_2 q j hp hT hj k
  · exact sp_X11_shiftedOf_3 q j hp hT hj k
  · exact sp_X11_shiftedOf_4 q j hp hT hj k

set_option maxRecDepth 100000 in
set_option maxHeartbeats 4000000 in
theorem sp_X11_coefficientOf {l : Launch} {L : Nat} {mem : zMem} {Q : zQ}  (q : Int) (i : Int) (j : Int) (hp : zPr (mem 67 1)) (hT : zT mem q) (hi : 0 ≤ i ∧ i ≤ 4) (hj : 0 ≤ j ∧ j ≤ 4) (k : Q (some (zI (zcf (mem 70 q) (mem 71 q) (mem 67 1) (ztd mem q) i j))) (zS L) mem) : zw_Ok l mm_X11_coefficientOf [zR 67, zI q, zI i, zI j] (zS L) mem Q := by
  refine zw_okA (fun hA => ?_)
  have rg_q : -2147483648 ≤ q ∧ q < 2147483648 := hA.2.1
  have rg_i : -2147483648 ≤ i ∧ i < 2147483648 := hA.2.2.1
  have rg_j : -2147483648 ≤ j ∧ j < 2147483648 := hA.2.2.2.1
  refine zw_enter (by decide) (Nat.le_of_ble_eq_true rfl) rfl ?_
  show zw_Wp l mm_X11_coefficientOf (zS L) 0 [some (zR 67), some (zI q), some (zI i), some (zI j)] [] mem 0 0 Q
  have hpr := hp.rg
  obtain ⟨hq, hkd, hfg, ht⟩ := id hT
  refine wp_aload_n dd_X11_coefficientOf_0 rfl ?_
  refine wp_getR dd_X11_coefficientOf_1 gf_X11_34 rfl kk_67 (by decide) (zlt rfl) rr_67_3 ?_
  refine wp_iload_n dd_X11_coefficientOf_4 rfl ?_
  refine wp_iald dd_X11_coefficientOf_5 kk_70 (zlt rfl) (by omega) (by omega) ?_
  by_cases w6_1c0 : (mem 70 q) = 1
  · skip
    refine wp_tabIn (tgt := 40) (off := 34) dd_X11_coefficientOf_6 (by omega) (by omega) (by rw [w6_1c0]; rfl) (by decide) ?_
    refine wp_aload_n dd_X11_coefficientOf_40 rfl ?_
    refine wp_iload_n dd_X11_coefficientOf_41 rfl ?_
    refine wp_iload_n dd_X11_coefficientOf_42 rfl ?_
    refine wp_iload_n dd_X11_coefficientOf_43 rfl ?_
    refine wp_callV (M' := mm_X11_evenOf) (As := [zI q, zI i, zI j]) (rest := []) dd_X11_coefficientOf_44 lk_X11_102 mV_X11_evenOf kk_67 (zlt rfl) ⟨_, _, rfl⟩ rfl (by decide) (by decide) (Nat.le_of_ble_eq_true rfl) rfl (sp_X11_evenOf  q i j (by first | assumption | omega) (by first | assumption | omega) (by first | assumption | omega) ?_)
    show zw_Wp l mm_X11_coefficientOf (zS L) 47 [some (zR 67), some (zI q), some (zI i), some (zI j)] [zI (zev (ztd mem q) i j)] mem 0 0 Q
    refine wp_ireturn (st := []) dd_X11_coefficientOf_47 rfl ?_
    refine zq_I ?_ ?_ k
    · unfold zcf zbk; repeat first | rw [if_pos (by omega)] | rw [if_neg (by omega)]
    · rfl
  by_cases w6_1c1 : (mem 70 q) = 2
  · skip
    refine wp_tabIn (tgt := 48) (off := 42) dd_X11_coefficientOf_6 (by omega) (by omega) (by rw [w6_1c1]; rfl) (by decide) ?_
    refine wp_aload_n dd_X11_coefficientOf_48 rfl ?_
    refine wp_iload_n dd_X11_coefficientOf_49 rfl ?_
    refine wp_iload_n dd_X11_coefficientOf_50 rfl ?_
    refine wp_iload_n dd_X11_coefficientOf_51 rfl ?_
    refine wp_callV (M' := mm_X11_toldOf) (As := [zI q, zI j, zI i]) (rest := []) dd_X11_coefficientOf_52 lk_X11_98 mV_X11_toldOf kk_67 (zlt rfl) ⟨_, _, rfl⟩ rfl (by decide) (by decide) (Nat.le_of_ble_eq_true rfl) rfl (sp_X11_toldOf  q j i (by first | assumption | omega) (by first | assumption | omega) (by first | assumption | omega) ?_)
    show zw_Wp l mm_X11_coefficientOf (zS L) 55 [some (zR 67), some (zI q), some (zI i), some (zI j)] [zI (ztd mem q (5 * j + i))] mem 0 0 Q
    refine wp_ireturn (st := []) dd_X11_coefficientOf_55 rfl ?_
    refine zq_I ?_ ?_ k
    · unfold zcf zbk; repeat first | rw [if_pos (by omega)] | rw [if_neg (by omega)]
    · rfl
  by_cases w6_1c2 : (mem 70 q) = 3
  · skip
    refine wp_tabIn (tgt := 56) (off := 50) dd_X11_coefficientOf_6 (by omega) (by omega) (by rw [w6_1c2]; rfl) (by decide) ?_
    refine wp_aload_n dd_X11_coefficientOf_56 rfl ?_
    refine wp_iload_n dd_X11_coefficientOf_57 rfl ?_
    refine wp_iload_n dd_X11_coefficientOf_58 rfl ?_
    refine wp_iload_n dd_X11_coefficientOf_59 rfl ?_
    refine wp_callV (M' := mm_X11_shiftedOf) (As := [zI q, zI i, zI j]) (rest := []) dd_X11_coefficientOf_60 lk_X11_105 mV_X11_shiftedOf kk_67 (zlt rfl) ⟨_, _, rfl⟩ rfl (by decide) (by decide) (Nat.le_of_ble_eq_true rfl) rfl (sp_X11_shiftedOf  q i j (by first | assumption | omega) (by first | assumption | omega) (by first | assumption | omega) (by first | assumption | omega) ?_)
    show zw_Wp l mm_X11_coefficientOf (zS L) 63 [some (zR 67), some (zI q), some (zI i), some (zI j)] [zI (zsf (mem 71 q) (mem 67 1) (fun k => ztd mem q (5 * k + j)) i)] mem 0 0 Q
    refine wp_ireturn (st := []) dd_X11_coefficientOf_63 rfl ?_
    refine zq_I ?_ ?_ k
    · unfold zcf zbk; repeat first | rw [if_pos (by omega)] | rw [if_neg (by omega)]
    · rfl
  by_cases w6_1c3 : (mem 70 q) = 4
  · skip
    refine wp_tabIn (tgt := 64) (off := 58) dd_X11_coefficientOf_6 (by omega) (by omega) (by rw [w6_1c3]; rfl) (by decide) ?_
    refine wp_iload_n dd_X11_coefficientOf_64 rfl ?_
    refine wp_iconst dd_X11_coefficientOf_65 (zr_lit rfl) ?_
    refine wp_icmp_ne (tgt := 73) dd_X11_coefficientOf_66 (by decide) (fun c66_2 => ?_) (fun c66_2 => ?_)
    · skip
      refine wp_iload_n dd_X11_coefficientOf_73 rfl ?_
      refine wp_iconst dd_X11_coefficientOf_74 (zr_lit rfl) ?_
      refine wp_iaddC dd_X11_coefficientOf_75 (by omega) ?_
      refine wp_aload_n dd_X11_coefficientOf_76 rfl ?_
      refine wp_iload_n dd_X11_coefficientOf_77 rfl ?_
      refine wp_iload_n dd_X11_coefficientOf_78 rfl ?_
      refine wp_iconst dd_X11_coefficientOf_79 (zr_lit rfl) ?_
      refine wp_iaddC dd_X11_coefficientOf_80 (by omega) ?_
      refine wp_iload_n dd_X11_coefficientOf_81 rfl ?_
      refine wp_callV (M' := mm_X11_evenOf) (As := [zI q, zI (i + 1), zI j]) (rest := [zI (i + 1)]) dd_X11_coefficientOf_82 lk_X11_102 mV_X11_evenOf kk_67 (zlt rfl) ⟨_, _, rfl⟩ rfl (by decide) (by decide) (Nat.le_of_ble_eq_true rfl) rfl (sp_X11_evenOf  q (i + 1) j (by first | assumption | omega) (by first | assumption | omega) (by first | assumption | omega) ?_)
      show zw_Wp l mm_X11_coefficientOf (zS L) 85 [some (zR 67), some (zI q), some (zI i), some (zI j)] [zI (zev (ztd mem q) (i + 1) j), zI (i + 1)] mem 0 0 Q
      have hev := zev_rg (t := ztd mem q) (p := mem 67 1) (i := i + 1) (j := j) (by omega) (by omega) hj ht
      have hmv := zmul_rg (a := i + 1) (b := zev (ztd mem q) (i + 1) j) (A := 5) (B := 31) (by omega) (by omega) (by omega) (by omega)
      refine wp_imulC dd_X11_coefficientOf_85 (by omega) ?_
      refine wp_aload_n dd_X11_coefficientOf_86 rfl ?_
      refine wp_getZ 1 rfl dd_X11_coefficientOf_87 gf_X11_9 rfl kk_67 (by decide) (zlt rfl) ?_
      refine wp_iremP dd_X11_coefficientOf_90 (by omega) (by omega) ?_
      refine wp_ireturn (st := []) dd_X11_coefficientOf_91 rfl ?_
      refine zq_I ?_ ?_ k
      · unfold zcf zbk; repeat first | rw [if_pos (by omega)] | rw [if_neg (by omega)]
      · rfl
    · skip
      refine wp_iconst dd_X11_coefficientOf_69 (zr_lit rfl) ?_
      refine wp_goto (tgt := 91) dd_X11_coefficientOf_70 (by decide) ?_
      refine wp_ireturn (st := []) dd_X11_coefficientOf_91 rfl ?_
      refine zq_I ?_ ?_ k
      · unfold zcf zbk; repeat first | rw [if_pos (by omega)] | rw [if_neg (by omega)]
      · rfl
  by_cases w6_1c4 : (mem 70 q) = 5
  · skip
    refine wp_tabIn (tgt := 92) (off := 86) dd_X11_coefficientOf_6 (by omega) (by omega) (by rw [w6_1c4]; rfl) (by decide) ?_
    refine wp_aload_n dd_X11_coefficientOf_92 rfl ?_
    refine wp_iload_n dd_X11_coefficientOf_93 rfl ?_
    refine wp_iload_n dd_X11_coefficientOf_94 rfl ?_
    refine wp_iload_n dd_X11_coefficientOf_95 rfl ?_
    refine wp_callV (M' := mm_X11_toldOf) (As := [zI q, zI j, zI i]) (rest := []) dd_X11_coefficientOf_96 lk_X11_98 mV_X11_toldOf kk_67 (zlt rfl) ⟨_, _, rfl⟩ rfl (by decide) (by decide) (Nat.le_of_ble_eq_true rfl) rfl (sp_X11_toldOf  q j i (by first | assumption | omega) (by first | assumption | omega) (by first | assumption | omega) ?_)
    show zw_Wp l mm_X11_coefficientOf (zS L) 99 [some (zR 67), some (zI q), some (zI i), some (zI j)] [zI (ztd mem q (5 * j + i))] mem 0 0 Q
    refine wp_aload_n dd_X11_coefficientOf_99 rfl ?_
    refine wp_aload_n dd_X11_coefficientOf_100 rfl ?_
    refine wp_getR dd_X11_coefficientOf_101 gf_X11_37 rfl kk_67 (by decide) (zlt rfl) rr_67_4 ?_
    refine wp_iload_n dd_X11_coefficientOf_104 rfl ?_
    refine wp_iald dd_X11_coefficientOf_105 kk_71 (zlt rfl) (by omega) (by omega) ?_
    refine wp_iload_n dd_X11_coefficientOf_106 rfl ?_
    refine wp_callV (M' := mm_X11_power) (As := [zI (mem 71 q), zI j]) (rest := [zI (ztd mem q (5 * j + i))]) dd_X11_coefficientOf_107 lk_X11_17 mV_X11_power kk_67 (zlt rfl) ⟨_, _, rfl⟩ rfl (by decide) (by decide) (Nat.le_of_ble_eq_true rfl) rfl (sp_X11_power  (mem 71 q) j (by first | assumption | omega) (by first | assumption | omega) ?_)
    show zw_Wp l mm_X11_coefficientOf (zS L) 110 [some (zR 67), some (zI q), some (zI i), some (zI j)] [zI ((mem 71 q) ^ j.toNat % mem 67 1), zI (ztd mem q (5 * j + i))] mem 0 0 Q
    have hpw := zm_rg (a := mem 71 q ^ j.toNat) (p := mem 67 1) (by omega)
    have htj := ht (5 * j + i) (by omega) (by omega)
    have hmv := zmul_rg (a := ztd mem q (5 * j + i)) (b := mem 71 q ^ j.toNat % mem 67 1) (A := 31) (B := 31) (by omega) (by omega) (by omega) (by omega)
    refine wp_imulC dd_X11_coefficientOf_110 (by omega) ?_
    refine wp_aload_n dd_X11_coefficientOf_111 rfl ?_
    refine wp_getZ 1 rfl dd_X11_coefficientOf_112 gf_X11_9 rfl kk_67 (by decide) (zlt rfl) ?_
    refine wp_iremP dd_X11_coefficientOf_115 (by omega) (by omega) ?_
    refine wp_ireturn (st := []) dd_X11_coefficientOf_116 rfl ?_
    refine zq_I ?_ ?_ k
    · unfold zcf zbk; repeat first | rw [if_pos (by omega)] | rw [if_neg (by omega)]
    · rfl
  refine wp_tabOut (tgt := 117) dd_X11_coefficientOf_6 (by omega) (by decide) ?_
  refine wp_aload_n dd_X11_coefficientOf_117 rfl ?_
  refine wp_iload_n dd_X11_coefficientOf_118 rfl ?_
  refine wp_iload_n dd_X11_coefficientOf_119 rfl ?_
  refine wp_iload_n dd_X11_coefficientOf_120 rfl ?_
  refine wp_callV (M' := mm_X11_toldOf) (As := [zI q, zI i, zI j]) (rest := []) dd_X11_coefficientOf_121 lk_X11_98 mV_X11_toldOf kk_67 (zlt rfl) ⟨_, _, rfl⟩ rfl (by decide) (by decide) (Nat.le_of_ble_eq_true rfl) rfl (sp_X11_toldOf  q i j (by first | assumption | omega) (by first | assumption | omega) (by first | assumption | omega) ?_)
  show zw_Wp l mm_X11_coefficientOf (zS L) 124 [some (zR 67), some (zI q), some (zI i), some (zI j)] [zI (ztd mem q (5 * i + j))] mem 0 0 Q
  refine wp_ireturn (st := []) dd_X11_coefficientOf_124 rfl ?_
  refine zq_I ?_ ?_ k
  · unfold zcf zbk; repeat first | rw [if_pos (by omega)] | rw [if_neg (by omega)]
  · rfl

set_option maxRecDepth 100000 in
set_option maxHeartbeats 4000000 in
theorem sp_X11_isTerm {l : Launch} {L : Nat} {mem : zMem} {Q : zQ}  (q : Int) (i : Int) (j : Int) (hp : zPr (mem 67 1)) (hT : zT mem q) (hi : 0 ≤ i ∧ i ≤ 4) (hj : 0 ≤ j ∧ j ≤ 4) (k : Q (some (zI (if zcf (mem 70 q) (mem 71 q) (mem 67 1) (ztd mem q) i j = 0 then 0 else 1))) (zS L) mem) : zw_Ok l mm_X11_isTerm [zR 67, zI q, zI i, zI j] (zS L) mem Q := by
  refine zw_okA (fun hA => ?_)
  have rg_q : -2147483648 ≤ q ∧ q < 2147483648 := hA.2.1
  have rg_i : -2147483648 ≤ i ∧ i < 2147483648 := hA.2.2.1
  have rg_j : -2147483648 ≤ j ∧ j < 2147483648 := hA.2.2.2.1
  refine zw_enter (by decide) (Nat.le_of_ble_eq_true rfl) rfl ?_
  show zw_Wp l mm_X11_isTerm (zS L) 0 [some (zR 67), some (zI q), some (zI i), some (zI j)] [] mem 0 0 Q
  refine wp_aload_n dd_X11_isTerm_0 rfl ?_
  refine wp_iload_n dd_X11_isTerm_1 rfl ?_
  refine wp_iload_n dd_X11_isTerm_2 rfl ?_
  refine wp_iload_n dd_X11_isTerm_3 rfl ?_
  refine wp_callV (M' := mm_X11_coefficientOf) (As := [zI q, zI i, zI j]) (rest := []) dd_X11_isTerm_4 lk_X11_108 mV_X11_coefficientOf kk_67 (zlt rfl) ⟨_, _, rfl⟩ rfl (by decide) (by decide) (Nat.le_of_ble_eq_true rfl) rfl (sp_X11_coefficientOf  q i j (by first | assumption | omega) (by first | assumption | omega) (by first | assumption | omega) (by first | assumption | omega) ?_)
  show zw_Wp l mm_X11_isTerm (zS L) 7 [some (zR 67), some (zI q), some (zI i), some (zI j)] [zI (zcf (mem 70 q) (mem 71 q) (mem 67 1) (ztd mem q) i j)] mem 0 0 Q
  refine wp_if_eq (tgt := 14) dd_X11_isTerm_7 (by decide) (fun c7_1 => ?_) (fun c7_1 => ?_)
  · skip
    refine wp_iconst dd_X11_isTerm_14 (zr_lit rfl) ?_
    refine wp_zreturn (st := []) dd_X11_isTerm_15 rfl (by omega) ?_
    refine zq_I ?_ ?_ k
    · first | rfl | omega | (rw [if_pos (by omega)]) | (rw [if_neg (by omega)])
    · rfl
  · skip
    refine wp_iconst dd_X11_isTerm_10 (zr_lit rfl) ?_
    refine wp_goto (tgt := 15) dd_X11_isTerm_11 (by decide) ?_
    refine wp_zreturn (st := []) dd_X11_isTerm_15 rfl (by omega) ?_
    refine zq_I ?_ ?_ k
    · first | rfl | omega | (rw [if_pos (by omega)]) | (rw [if_neg (by omega)])
    · rfl


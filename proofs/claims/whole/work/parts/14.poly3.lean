/-! ===== what a kind makes of told numbers ===== -/
def zev (t : Int → Int) (i j : Int) : Int := if i % 2 = 0 then t (5 * i + j) else 0
def zbk (kd fg p : Int) (t : Int → Int) (i j : Int) : Int := if kd = 1 then zev t i j else if kd = 2 then t (5 * j + i) else if kd = 4 then (if i = 4 then 0 else (i + 1) * zev t (i + 1) j % p) else if kd = 5 then t (5 * j + i) * (fg ^ j.toNat % p) % p else t (5 * i + j)
def zsf (f p : Int) (u : Int → Int) (i : Int) : Int := if i = 0 then (u 0 + f * u 1 + f * f * u 2 + f * f * f * u 3 + f * f * f * f * u 4) % p else if i = 1 then (u 1 + 2 * (f * u 2) + 3 * (f * f * u 3) + 4 * (f * f * f * u 4)) % p else if i = 2 then (u 2 + 3 * (f * u 3) + 6 * (f * f * u 4)) % p else if i = 3 then (u 3 + 4 * (f * u 4)) % p else u 4 % p
def zcf (kd fg p : Int) (t : Int → Int) (i j : Int) : Int := if kd = 3 then zsf fg p (fun k => t (5 * k + j)) i else zbk kd fg p t i j
theorem zev_rg {t : Int → Int} {p i j : Int} (hp : 0 < p) (hi : 0 ≤ i ∧ i ≤ 4) (hj : 0 ≤ j ∧ j ≤ 4) (h : ∀ x : Int, 0 ≤ x → x < 25 → 0 ≤ t x ∧ t x < p) : 0 ≤ zev t i j ∧ zev t i j < p := by
  unfold zev
  split
  · exact h _ (by omega) (by omega)
  · omega
theorem zbk_rg {kd fg p i j : Int} {t : Int → Int} (hp : 0 < p) (hi : 0 ≤ i ∧ i ≤ 4) (hj : 0 ≤ j ∧ j ≤ 4) (h : ∀ x : Int, 0 ≤ x → x < 25 → 0 ≤ t x ∧ t x < p) : 0 ≤ zbk kd fg p t i j ∧ zbk kd fg p t i j < p := by
  unfold zbk
  split
  · exact zev_rg hp hi hj h
  · split
    · exact h _ (by omega) (by omega)
    · split
      · split
        · omega
        · exact zm_rg hp
      · split
        · exact zm_rg hp
        · exact h _ (by omega) (by omega)
theorem zsf_rg {f p i : Int} {u : Int → Int} (hp : 0 < p) : 0 ≤ zsf f p u i ∧ zsf f p u i < p := by
  unfold zsf
  repeat' split
  all_goals exact zm_rg hp
theorem zcf_rg {kd fg p i j : Int} {t : Int → Int} (hp : 0 < p) (hi : 0 ≤ i ∧ i ≤ 4) (hj : 0 ≤ j ∧ j ≤ 4) (h : ∀ x : Int, 0 ≤ x → x < 25 → 0 ≤ t x ∧ t x < p) : 0 ≤ zcf kd fg p t i j ∧ zcf kd fg p t i j < p := by
  unfold zcf
  split
  · exact zsf_rg hp
  · exact zbk_rg hp hi hj h
theorem zsf_congr {f p i : Int} {u v : Int → Int} (h : ∀ k : Int, 0 ≤ k → k ≤ 4 → u k = v k) : zsf f p u i = zsf f p v i := by
  unfold zsf
  rw [h 0 (by omega) (by omega), h 1 (by omega) (by omega), h 2 (by omega) (by omega), h 3 (by omega) (by omega), h 4 (by omega) (by omega)]
theorem zcf_congr {kd fg p i j : Int} {t u : Int → Int} (hi : 0 ≤ i ∧ i ≤ 4) (hj : 0 ≤ j ∧ j ≤ 4) (h : ∀ x : Int, 0 ≤ x → x < 25 → t x = u x) : zcf kd fg p t i j = zcf kd fg p u i j := by
  unfold zcf
  rw [zsf_congr (v := fun k => u (5 * k + j)) (fun k h1 h2 => h _ (by omega) (by omega))]
  have e1 : t (5 * j + i) = u (5 * j + i) := h _ (by omega) (by omega)
  have e2 : t (5 * i + j) = u (5 * i + j) := h _ (by omega) (by omega)
  have e3 : i ≠ 4 → t (5 * (i + 1) + j) = u (5 * (i + 1) + j) := fun q => h _ (by omega) (by omega)
  by_cases hk : kd = 3
  · rw [if_pos hk, if_pos hk]
  · rw [if_neg hk, if_neg hk]
    unfold zbk zev
    by_cases h4 : i = 4
    · simp only [e1, e2, if_pos h4]
    · simp only [e1, e2, e3 h4, if_neg h4]
theorem zsf_st (x y f p : Int) : (x % p + f * (y % p)) % p = (x + f * y) % p := by rw [Int.emod_add_emod, Int.add_emod, zm_mul2, ← Int.add_emod]
theorem zsf_st0 (x y f p : Int) : (x + f * (y % p)) % p = (x + f * y) % p := by rw [Int.add_emod, zm_mul2, ← Int.add_emod]
theorem zsf_st1 (x y f p : Int) : (x % p + f * y) % p = (x + f * y) % p := by rw [Int.emod_add_emod]
theorem zsf_pure {f p u0 u1 u2 u3 u4 a3 a2 a1 a0 b3 b2 b1 c3 c2 d3 : Int} (h1 : a3 = (u3 + f * u4) % p) (h2 : a2 = (u2 + f * a3) % p) (h3 : a1 = (u1 + f * a2) % p) (h4 : a0 = (u0 + f * a1) % p) (h5 : b3 = (a3 + f * u4) % p) (h6 : b2 = (a2 + f * b3) % p) (h7 : b1 = (a1 + f * b2) % p) (h8 : c3 = (b3 + f * u4) % p) (h9 : c2 = (b2 + f * c3) % p) (h10 : d3 = (c3 + f * u4) % p) :
    a0 = (u0 + f * u1 + f * f * u2 + f * f * f * u3 + f * f * f * f * u4) % p ∧ b1 = (u1 + 2 * (f * u2) + 3 * (f * f * u3) + 4 * (f * f * f * u4)) % p ∧ c2 = (u2 + 3 * (f * u3) + 6 * (f * f * u4)) % p ∧ d3 = (u3 + 4 * (f * u4)) % p := by
  rw [h1, zsf_st0] at h2
  rw [h2, zsf_st0] at h3
  rw [h3, zsf_st0] at h4
  rw [h1, zsf_st1] at h5
  rw [h2, h5, zsf_st] at h6
  rw [h3, h6, zsf_st] at h7
  rw [h5, zsf_st1] at h8
  rw [h6, h8, zsf_st] at h9
  rw [h8, zsf_st1] at h10
  refine ⟨?_, ?_, ?_, ?_⟩
  · rw [h4]; congr 1; grind
  · rw [h7]; congr 1; grind
  · rw [h9]; congr 1; grind
  · rw [h10]; congr 1; grind
/-- a polynomial as its cells must hold it -/
def zPI (mem : zMem) (o : Nat) (p kd fg : Int) (t : Int → Int) : Prop := mem o 0 = kd ∧ mem o 1 = fg ∧ ((0 ≤ kd ∧ kd ≤ 5) ∧ 0 ≤ fg ∧ fg ≤ 9) ∧ (∀ x : Int, 0 ≤ x → x < 25 → mem (o + 1) x = t x ∧ 0 ≤ t x ∧ t x < p) ∧ ∀ i j : Int, 0 ≤ i ∧ i ≤ 4 → 0 ≤ j ∧ j ≤ 4 → mem (o + 2) (5 * i + j) = zcf kd fg p t i j

set_option maxRecDepth 100000 in
set_option maxHeartbeats 4000000 in
theorem sp_X4_even {l : Launch} {L : Nat} {mem : zMem} {Q : zQ}  (o : Nat) (i : Int) (j : Int) (ho : zP o) (hi : 0 ≤ i ∧ i ≤ 4) (hj : 0 ≤ j ∧ j ≤ 4) (k : Q (some (zI (zev (mem (o + 1)) i j))) (zS L) mem) : zw_Ok l mm_X4_even [zR o, zI i, zI j] (zS L) mem Q := by
  refine zw_okA (fun hA => ?_)
  have rg_i : -2147483648 ≤ i ∧ i < 2147483648 := hA.2.1
  have rg_j : -2147483648 ≤ j ∧ j < 2147483648 := hA.2.2.1
  refine zw_enter (by decide) (Nat.le_of_ble_eq_true rfl) rfl ?_
  show zw_Wp l mm_X4_even (zS L) 0 [some (zR o), some (zI i), some (zI j)] [] mem 0 0 Q
  refine wp_iload_n dd_X4_even_0 rfl ?_
  refine wp_iconst dd_X4_even_1 (zr_lit rfl) ?_
  refine wp_iremP dd_X4_even_2 (by omega) (by omega) ?_
  refine wp_if_ne (tgt := 19) dd_X4_even_3 (by decide) (fun c3_1 => ?_) (fun c3_1 => ?_)
  · skip
    refine wp_iconst dd_X4_even_19 (zr_lit rfl) ?_
    refine wp_ireturn (st := []) dd_X4_even_20 rfl ?_
    refine zq_I ?_ ?_ k
    · unfold zev; first | rw [if_pos (by omega)] | rw [if_neg (by omega)]
    · rfl
  · skip
    refine wp_aload_n dd_X4_even_6 rfl ?_
    refine wp_getR dd_X4_even_7 gf_X4_9 rfl ho.k (by decide) ho.i ho.t ?_
    refine wp_iconst dd_X4_even_10 (zr_lit rfl) ?_
    refine wp_iload_n dd_X4_even_11 rfl ?_
    refine wp_imulC dd_X4_even_12 (by omega) ?_
    refine wp_iload_n dd_X4_even_13 rfl ?_
    refine wp_iaddC dd_X4_even_14 (by omega) ?_
    refine wp_iald dd_X4_even_15 ho.kt ho.it (by omega) (by omega) ?_
    refine wp_goto (tgt := 20) dd_X4_even_16 (by decide) ?_
    refine wp_ireturn (st := []) dd_X4_even_20 rfl ?_
    refine zq_I ?_ ?_ k
    · unfold zev; first | rw [if_pos (by omega)] | rw [if_neg (by omega)]
    · rfl

set_option maxRecDepth 100000 in
set_option maxHeartbeats 4000000 in
theorem sp_X4_byKind {l : Launch} {L : Nat} {mem : zMem} {Q : zQ}  (o : Nat) (i : Int) (j : Int) (p : Int) (ho : zP o) (hi : 0 ≤ i ∧ i ≤ 4) (hj : 0 ≤ j ∧ j ≤ 4) (hp : 2 ≤ p ∧ p ≤ 31) (hfg : 0 ≤ mem o 1 ∧ mem o 1 ≤ 9) (ht : ∀ x : Int, 0 ≤ x → x < 25 → 0 ≤ mem (o + 1) x ∧ mem (o + 1) x < p) (k : Q (some (zI (zbk (mem o 0) (mem o 1) p (mem (o + 1)) i j))) (zS L) mem) : zw_Ok l mm_X4_byKind [zR o, zI i, zI j, zI p] (zS L) mem Q := by
  refine zw_okA (fun hA => ?_)
  have rg_i : -2147483648 ≤ i ∧ i < 2147483648 := hA.2.1
  have rg_j : -2147483648 ≤ j ∧ j < 2147483648 := hA.2.2.1
  have rg_p : -2147483648 ≤ p ∧ p < 2147483648 := hA.2.2.2.1
  refine zw_enter (by decide) (Nat.le_of_ble_eq_true rfl) rfl ?_
  show zw_Wp l mm_X4_byKind (zS L) 0 [some (zR o), some (zI i), some (zI j), some (zI p)] [] mem 0 0 Q
  refine wp_aload_n dd_X4_byKind_0 rfl ?_
  refine wp_getZ 0 rfl dd_X4_byKind_1 gf_X4_18 rfl ho.k (by decide) ho.i ?_
  by_cases w4_1c0 : (mem o 0) = 1
  · skip
    refine wp_tabIn (tgt := 40) (off := 36) dd_X4_byKind_4 (by omega) (by omega) (by rw [w4_1c0]; rfl) (by decide) ?_
    refine wp_aload_n dd_X4_byKind_40 rfl ?_
    refine wp_iload_n dd_X4_byKind_41 rfl ?_
    refine wp_iload_n dd_X4_byKind_42 rfl ?_
    refine wp_callV (M' := mm_X4_even) (As := [zI i, zI j]) (rest := []) dd_X4_byKind_43 lk_X4_54 mV_X4_even ho.k ho.i ⟨_, _, rfl⟩ rfl (by decide) (by decide) (Nat.le_of_ble_eq_true rfl) rfl (sp_X4_even  o i j (by first | assumption | omega) (by first | assumption | omega) (by first | assumption | omega) ?_)
    show zw_Wp l mm_X4_byKind (zS L) 46 [some (zR o), some (zI i), some (zI j), some (zI p)] [zI (zev (mem (o + 1)) i j)] mem 0 0 Q
    refine wp_ireturn (st := []) dd_X4_byKind_46 rfl ?_
    refine zq_I ?_ ?_ k
    · unfold zbk; repeat first | rw [if_pos (by omega)] | rw [if_neg (by omega)]
    · rfl
  by_cases w4_1c1 : (mem o 0) = 2
  · skip
    refine wp_tabIn (tgt := 47) (off := 43) dd_X4_byKind_4 (by omega) (by omega) (by rw [w4_1c1]; rfl) (by decide) ?_
    refine wp_aload_n dd_X4_byKind_47 rfl ?_
    refine wp_getR dd_X4_byKind_48 gf_X4_9 rfl ho.k (by decide) ho.i ho.t ?_
    refine wp_iconst dd_X4_byKind_51 (zr_lit rfl) ?_
    refine wp_iload_n dd_X4_byKind_52 rfl ?_
    refine wp_imulC dd_X4_byKind_53 (by omega) ?_
    refine wp_iload_n dd_X4_byKind_54 rfl ?_
    refine wp_iaddC dd_X4_byKind_55 (by omega) ?_
    refine wp_iald dd_X4_byKind_56 ho.kt ho.it (by omega) (by omega) ?_
    refine wp_ireturn (st := []) dd_X4_byKind_57 rfl ?_
    refine zq_I ?_ ?_ k
    · unfold zbk; repeat first | rw [if_pos (by omega)] | rw [if_neg (by omega)]
    · rfl
  by_cases w4_1c2 : (mem o 0) = 3
  · skip
    refine wp_tabIn (tgt := 105) (off := 101) dd_X4_byKind_4 (by omega) (by omega) (by rw [w4_1c2]; rfl) (by decide) ?_
    refine wp_aload_n dd_X4_byKind_105 rfl ?_
    refine wp_getR dd_X4_byKind_106 gf_X4_9 rfl ho.k (by decide) ho.i ho.t ?_
    refine wp_iconst dd_X4_byKind_109 (zr_lit rfl) ?_
    refine wp_iload_n dd_X4_byKind_110 rfl ?_
    refine wp_imulC dd_X4_byKind_111 (by omega) ?_
    refine wp_iload_n dd_X4_byKind_112 rfl ?_
    refine wp_iaddC dd_X4_byKind_113 (by omega) ?_
    refine wp_iald dd_X4_byKind_114 ho.kt ho.it (by omega) (by omega) ?_
    refine wp_ireturn (st := []) dd_X4_byKind_115 rfl ?_
    refine zq_I ?_ ?_ k
    · unfold zbk; repeat first | rw [if_pos (by omega)] | rw [if_neg (by omega)]
    · rfl
  by_cases w4_1c3 : (mem o 0) = 4
  · skip
    refine wp_tabIn (tgt := 58) (off := 54) dd_X4_byKind_4 (by omega) (by omega) (by rw [w4_1c3]; rfl) (by decide) ?_
    refine wp_iload_n dd_X4_byKind_58 rfl ?_
    refine wp_iconst dd_X4_byKind_59 (zr_lit rfl) ?_
    refine wp_icmp_ne (tgt := 67) dd_X4_byKind_60 (by decide) (fun c60_2 => ?_) (fun c60_2 => ?_)
    · skip
      refine wp_iload_n dd_X4_byKind_67 rfl ?_
      refine wp_iconst dd_X4_byKind_68 (zr_lit rfl) ?_
      refine wp_iaddC dd_X4_byKind_69 (by omega) ?_
      refine wp_aload_n dd_X4_byKind_70 rfl ?_
      refine wp_iload_n dd_X4_byKind_71 rfl ?_
      refine wp_iconst dd_X4_byKind_72 (zr_lit rfl) ?_
      refine wp_iaddC dd_X4_byKind_73 (by omega) ?_
      refine wp_iload_n dd_X4_byKind_74 rfl ?_
      refine wp_callV (M' := mm_X4_even) (As := [zI (i + 1), zI j]) (rest := [zI (i + 1)]) dd_X4_byKind_75 lk_X4_54 mV_X4_even ho.k ho.i ⟨_, _, rfl⟩ rfl (by decide) (by decide) (Nat.le_of_ble_eq_true rfl) rfl (sp_X4_even  o (i + 1) j (by first | assumption | omega) (by first | assumption | omega) (by first | assumption | omega) ?_)
      show zw_Wp l mm_X4_byKind (zS L) 78 [some (zR o), some (zI i), some (zI j), some (zI p)] [zI (zev (mem (o + 1)) (i + 1) j), zI (i + 1)] mem 0 0 Q
      have hev := zev_rg (t := mem (o + 1)) (p := p) (i := i + 1) (j := j) (by omega) (by omega) hj ht
      have hmv := zmul_rg (a := i + 1) (b := zev (mem (o + 1)) (i + 1) j) (A := 5) (B := 31) (by omega) (by omega) (by omega) (by omega)
      refine wp_imulC dd_X4_byKind_78 (by omega) ?_
      refine wp_iload_n dd_X4_byKind_79 rfl ?_
      refine wp_iremP dd_X4_byKind_80 (by omega) (by omega) ?_
      refine wp_ireturn (st := []) dd_X4_byKind_81 rfl ?_
      refine zq_I ?_ ?_ k
      · unfold zbk; repeat first | rw [if_pos (by omega)] | rw [if_neg (by omega)]
      · rfl
    · skip
      refine wp_iconst dd_X4_byKind_63 (zr_lit rfl) ?_
      refine wp_goto (tgt := 81) dd_X4_byKind_64 (by decide) ?_
      refine wp_ireturn (st := []) dd_X4_byKind_81 rfl ?_
      refine zq_I ?_ ?_ k
      · unfold zbk; repeat first | rw [if_pos (by omega)] | rw [if_neg (by omega)]
      · rfl
  by_cases w4_1c4 : (mem o 0) = 5
  · skip
    refine wp_tabIn (tgt := 82) (off := 78) dd_X4_byKind_4 (by omega) (by omega) (by rw [w4_1c4]; rfl) (by decide) ?_
    refine wp_aload_n dd_X4_byKind_82 rfl ?_
    refine wp_getR dd_X4_byKind_83 gf_X4_9 rfl ho.k (by decide) ho.i ho.t ?_
    refine wp_iconst dd_X4_byKind_86 (zr_lit rfl) ?_
    refine wp_iload_n dd_X4_byKind_87 rfl ?_
    refine wp_imulC dd_X4_byKind_88 (by omega) ?_
    refine wp_iload_n dd_X4_byKind_89 rfl ?_
    refine wp_iaddC dd_X4_byKind_90 (by omega) ?_
    refine wp_iald dd_X4_byKind_91 ho.kt ho.it (by omega) (by omega) ?_
    refine wp_aload_n dd_X4_byKind_92 rfl ?_
    refine wp_getZ 1 rfl dd_X4_byKind_93 gf_X4_22 rfl ho.k (by decide) ho.i ?_
    refine wp_iload_n dd_X4_byKind_96 rfl ?_
    refine wp_iload_n dd_X4_byKind_97 rfl ?_
    refine wp_callS (M' := mm_X2_power) (As := [zI (mem o 1), zI j, zI p]) (rest := [zI (mem (o + 1) ((5 * j) + i))]) dd_X4_byKind_98 lk_X4_57 mS_X2_power rfl (by decide) (by decide) (Nat.le_of_ble_eq_true rfl) rfl (sp_X2_power  (mem o 1) j p (by first | assumption | omega) (by first | assumption | omega) (by first | assumption | omega) ?_)
    show zw_Wp l mm_X4_byKind (zS L) 101 [some (zR o), some (zI i), some (zI j), some (zI p)] [zI ((mem o 1) ^ j.toNat % p), zI (mem (o + 1) ((5 * j) + i))] mem 0 0 Q
    have hpw := zm_rg (a := mem o 1 ^ j.toNat) (p := p) (by omega)
    have htj := ht (5 * j + i) (by omega) (by omega)
    have hmv := zmul_rg (a := mem (o + 1) (5 * j + i)) (b := mem o 1 ^ j.toNat % p) (A := 31) (B := 31) (by omega) (by omega) (by omega) (by omega)
    refine wp_imulC dd_X4_byKind_101 (by omega) ?_
    refine wp_iload_n dd_X4_byKind_102 rfl ?_
    refine wp_iremP dd_X4_byKind_103 (by omega) (by omega) ?_
    refine wp_ireturn (st := []) dd_X4_byKind_104 rfl ?_
    refine zq_I ?_ ?_ k
    · unfold zbk; repeat first | rw [if_pos (by omega)] | rw [if_neg (by omega)]
    · rfl
  refine wp_tabOut (tgt := 105) dd_X4_byKind_4 (by omega) (by decide) ?_
  refine wp_aload_n dd_X4_byKind_105 rfl ?_
  refine wp_getR dd_X4_byKind_106 gf_X4_9 rfl ho.k (by decide) ho.i ho.t ?_
  refine wp_iconst dd_X4_byKind_109 (zr_lit rfl) ?_
  refine wp_iload_n dd_X4_byKind_110 rfl ?_
  refine wp_imulC dd_X4_byKind_111 (by omega) ?_
  refine wp_iload_n dd_X4_byKind_112 rfl ?_
  refine wp_iaddC dd_X4_byKind_113 (by omega) ?_
  refine wp_iald dd_X4_byKind_114 ho.kt ho.it (by omega) (by omega) ?_
  refine wp_ireturn (st := []) dd_X4_byKind_115 rfl ?_
  refine zq_I ?_ ?_ k
  · unfold zbk; repeat first | rw [if_pos (by omega)] | rw [if_neg (by omega)]
  · rfl

set_option maxRecDepth 100000 in
set_option maxHeartbeats 4000000 in
theorem sp_X4_shift {l : Launch} {L : Nat} {mem : zMem} {Q : zQ}  (o : Nat) (p : Int) (ho : zP o) (hp : 2 ≤ p ∧ p ≤ 31) (hfg : 0 ≤ mem o 1 ∧ mem o 1 ≤ 9) (hc : ∀ t : Int, 0 ≤ t → t < 25 → 0 ≤ mem (o + 2) t ∧ mem (o + 2) t < p) (k : ∀ (mem2 : zMem), (∀ i j : Int, 0 ≤ i ∧ i ≤ 4 → 0 ≤ j ∧ j ≤ 4 → mem2 (o + 2) (5 * i + j) = zsf (mem o 1) p (fun k => mem (o + 2) (5 * k + j)) i) → (∀ a : Nat, a ≠ o + 2 → mem2 a = mem a) → Q none (zS L) mem2) : zw_Ok l mm_X4_shift [zR o, zI p] (zS L) mem Q := by
  refine zw_okA (fun hA => ?_)
  have rg_p : -2147483648 ≤ p ∧ p < 2147483648 := hA.2.1
  refine zw_enter (by decide) (Nat.le_of_ble_eq_true rfl) rfl ?_
  show zw_Wp l mm_X4_shift (zS L) 0 [some (zR o), some (zI p), none, none, none, none] [] mem 0 0 Q
  refine wp_iconst dd_X4_shift_0 (zr_lit rfl) ?_
  refine wp_istore_n (ls2 := [some (zR o), some (zI p), some (zI 0), none, none, none]) dd_X4_shift_1 rfl (by decide) rfl ?_
  refine wp_iload_n dd_X4_shift_2 rfl ?_
  refine wp_iconst dd_X4_shift_3 (zr_lit rfl) ?_
  refine wp_icmp_ge (tgt := 88) dd_X4_shift_4 (by decide) (fun c4_1 => absurd c4_1 (by decide)) (fun c4_1 => ?_)
  refine wp_iconst dd_X4_shift_7 (zr_lit rfl) ?_
  refine wp_istore_n (ls2 := [some (zR o), some (zI p), some (zI 0), some (zI 3), none, none]) dd_X4_shift_8 rfl (by decide) rfl ?_
  refine wp_iload_n dd_X4_shift_9 rfl ?_
  refine wp_iload_n dd_X4_shift_10 rfl ?_
  refine wp_icmp_lt (tgt := 82) dd_X4_shift_11 (by decide) (fun c11_2 => absurd c11_2 (by decide)) (fun c11_2 => ?_)
  refine wp_iconst dd_X4_shift_14 (zr_lit rfl) ?_
  refine wp_istore (ls2 := [some (zR o), some (zI p), some (zI 0), some (zI 3), some (zI 0), none]) dd_X4_shift_15 rfl (by decide) rfl ?_
  have lp17 : ∀ (nf : Nat) (j1 : Int) (mm1 : zMem), (0 ≤ j1) → (j1 ≤ 5) → (∀ b : Int, 0 ≤ b → b < j1 → mm1 (o + 2) (15 + b) = (mem (o + 2) (15 + b) + mem o 1 * mem (o + 2) (20 + b)) % p) → (∀ t : Int, (t < 15 ∨ 15 + j1 ≤ t) → mm1 (o + 2) t = mem (o + 2) t) → (∀ t : Int, 0 ≤ t → t < 25 → 0 ≤ mm1 (o + 2) t ∧ mm1 (o + 2) t < p) → (∀ a : Nat, a ≠ o + 2 → mm1 a = mem a) → (5 - j1) < (nf : Int) → zw_Wp l mm_X4_shift (zS L) 17 [some (zR o), some (zI p), some (zI 0), some (zI 3), some (zI j1), none] [] mm1 0 0 Q := by
    intro nf
    induction nf with
    | zero =>
      intro j1 mm1 h0 h1 ha1 hb1 hr1 hx1 hmu
      exfalso; omega
    | succ nf ih17 =>
      intro j1 mm1 h0 h1 ha1 hb1 hr1 hx1 hmu
      have hfo : mm1 o = mem o := hx1 o (by omega)
      have hfo1 : mm1 o 1 = mem o 1 := by rw [hfo]
      refine wp_iload dd_X4_shift_17 rfl ?_
      refine wp_iconst dd_X4_shift_19 (zr_lit rfl) ?_
      refine wp_icmp_ge (tgt := 76) dd_X4_shift_20 (by decide) (fun c20_3 => ?_) (fun c20_3 => ?_)
      · skip
        refine wp_iincC (ls2 := [some (zR o), some (zI p), some (zI 0), some (zI 2), some (zI j1), none]) dd_X4_shift_76 rfl rfl (by decide) (by omega) rfl ?_
        refine wp_goto (tgt := 9) dd_X4_shift_79 (by decide) ?_
        refine wp_iload_n dd_X4_shift_9 rfl ?_
        refine wp_iload_n dd_X4_shift_10 rfl ?_
        refine wp_icmp_lt (tgt := 82) dd_X4_shift_11 (by decide) (fun c11_4 => absurd c11_4 (by decide)) (fun c11_4 => ?_)
        refine wp_iconst dd_X4_shift_14 (zr_lit rfl) ?_
        refine wp_istore (ls2 := [some (zR o), some (zI p), some (zI 0), some (zI 2), some (zI 0), none]) dd_X4_shift_15 rfl (by decide) rfl ?_
        have lp17 : ∀ (nf : Nat) (j2 : Int) (mm2 : zMem), (0 ≤ j2) → (j2 ≤ 5) → (∀ b : Int, 0 ≤ b → b < j2 → mm2 (o + 2) (10 + b) = (mm1 (o + 2) (10 + b) + mem o 1 * mm1 (o + 2) (15 + b)) % p) → (∀ t : Int, (t < 10 ∨ 10 + j2 ≤ t) → mm2 (o + 2) t = mm1 (o + 2) t) → (∀ t : Int, 0 ≤ t → t < 25 → 0 ≤ mm2 (o + 2) t ∧ mm2 (o + 2) t < p) → (∀ a : Nat, a ≠ o + 2 → mm2 a = mem a) → (5 - j2) < (nf : Int) → zw_Wp l mm_X4_shift (zS L) 17 [some (zR o), some (zI p), some (zI 0), some (zI 2), some (zI j2), none] [] mm2 0 0 Q := by
          intro nf
          induction nf with
          | zero =>
            intro j2 mm2 h0 h1 ha2 hb2 hr2 hx2 hmu
            exfalso; omega
          | succ nf ih17 =>
            intro j2 mm2 h0 h1 ha2 hb2 hr2 hx2 hmu
            have hfo : mm2 o = mem o := hx2 o (by omega)
            have hfo1 : mm2 o 1 = mem o 1 := by rw [hfo]
            refine wp_iload dd_X4_shift_17 rfl ?_
            refine wp_iconst dd_X4_shift_19 (zr_lit rfl) ?_
            refine wp_icmp_ge (tgt := 76) dd_X4_shift_20 (by decide) (fun c20_5 => ?_) (fun c20_5 => ?_)
            · skip
              refine wp_iincC (ls2 := [some (zR o), some (zI p), some (zI 0), some (zI 1), some (zI j2), none]) dd_X4_shift_76 rfl rfl (by decide) (by omega) rfl ?_
              refine wp_goto (tgt := 9) dd_X4_shift_79 (by decide) ?_
              refine wp_iload_n dd_X4_shift_9 rfl ?_
              refine wp_iload_n dd_X4_shift_10 rfl ?_
              refine wp_icmp_lt (tgt := 82) dd_X4_shift_11 (by decide) (fun c11_6 => absurd c11_6 (by decide)) (fun c11_6 => ?_)
              refine wp_iconst dd_X4_shift_14 (zr_lit rfl) ?_
              refine wp_istore (ls2 := [some (zR o), some (zI p), some (zI 0), some (zI 1), some (zI 0), none]) dd_X4_shift_15 rfl (by decide) rfl ?_
              have lp17 : ∀ (nf : Nat) (j3 : Int) (mm3 : zMem), (0 ≤ j3) → (j3 ≤ 5) → (∀ b : Int, 0 ≤ b → b < j3 → mm3 (o + 2) (5 + b) = (mm2 (o + 2) (5 + b) + mem o 1 * mm2 (o + 2) (10 + b)) % p) → (∀ t : Int, (t < 5 ∨ 5 + j3 ≤ t) → mm3 (o + 2) t = mm2 (o + 2) t) → (∀ t : Int, 0 ≤ t → t < 25 → 0 ≤ mm3 (o + 2) t ∧ mm3 (o + 2) t < p) → (∀ a : Nat, a ≠ o + 2 → mm3 a = mem a) → (5 - j3) < (nf : Int) → zw_Wp l mm_X4_shift (zS L) 17 [some (zR o), some (zI p), some (zI 0), some (zI 1), some (zI j3), none] [] mm3 0 0 Q := by
                intro nf
                induction nf with
                | zero =>
                  intro j3 mm3 h0 h1 ha3 hb3 hr3 hx3 hmu
                  exfalso; omega
                | succ nf ih17 =>
                  intro j3 mm3 h0 h1 ha3 hb3 hr3 hx3 hmu
                  have hfo : mm3 o = mem o := hx3 o (by omega)
                  have hfo1 : mm3 o 1 = mem o 1 := by rw [hfo]
                  refine wp_iload dd_X4_shift_17 rfl ?_
                  refine wp_iconst dd_X4_shift_19 (zr_lit rfl) ?_
                  refine wp_icmp_ge (tgt := 76) dd_X4_shift_20 (by decide) (fun c20_7 => ?_) (fun c20_7 => ?_)
                  · skip
                    refine wp_iincC (ls2 := [some (zR o), some (zI p), some (zI 0), some (zI 0), some (zI j3), none]) dd_X4_shift_76 rfl rfl (by decide) (by omega) rfl ?_
                    refine wp_goto (tgt := 9) dd_X4_shift_79 (by decide) ?_
                    refine wp_iload_n dd_X4_shift_9 rfl ?_
                    refine wp_iload_n dd_X4_shift_10 rfl ?_
                    refine wp_icmp_lt (tgt := 82) dd_X4_shift_11 (by decide) (fun c11_8 => absurd c11_8 (by decide)) (fun c11_8 => ?_)
                    refine wp_iconst dd_X4_shift_14 (zr_lit rfl) ?_
                    refine wp_istore (ls2 := [some (zR o), some (zI p), some (zI 0), some (zI 0), some (zI 0), none]) dd_X4_shift_15 rfl (by decide) rfl ?_
                    have lp17 : ∀ (nf : Nat) (j4 : Int) (mm4 : zMem), (0 ≤ j4) → (j4 ≤ 5) → (∀ b : Int, 0 ≤ b → b < j4 → mm4 (o + 2) (0 + b) = (mm3 (o + 2) (0 + b) + mem o 1 * mm3 (o + 2) (5 + b)) % p) → (∀ t : Int, (t < 0 ∨ 0 + j4 ≤ t) → mm4 (o + 2) t = mm3 (o + 2) t) → (∀ t : Int, 0 ≤ t → t < 25 → 0 ≤ mm4 (o + 2) t ∧ mm4 (o + 2) t < p) → (∀ a : Nat, a ≠ o + 2 → mm4 a = mem a) → (5 - j4) < (nf : Int) → zw_Wp l mm_X4_shift (zS L) 17 [some (zR o), some (zI p), some (zI 0), some (zI 0), some (zI j4), none] [] mm4 0 0 Q := by
                      intro nf
                      induction nf with
                      | zero =>
                        intro j4 mm4 h0 h1 ha4 hb4 hr4 hx4 hmu
                        exfalso; omega
                      | succ nf ih17 =>
                        intro j4 mm4 h0 h1 ha4 hb4 hr4 hx4 hmu
                        have hfo : mm4 o = mem o := hx4 o (by omega)
                        have hfo1 : mm4 o 1 = mem o 1 := by rw [hfo]
                        refine wp_iload dd_X4_shift_17 rfl ?_
                        refine wp_iconst dd_X4_shift_19 (zr_lit rfl) ?_
                        refine wp_icmp_ge (tgt := 76) dd_X4_shift_20 (by decide) (fun c20_9 => ?_) (fun c20_9 => ?_)
                        · skip
                          refine wp_iincC (ls2 := [some (zR o), some (zI p), some (zI 0), some (zI (-1)), some (zI j4), none]) dd_X4_shift_76 rfl rfl (by decide) (by omega) rfl ?_
                          refine wp_goto (tgt := 9) dd_X4_shift_79 (by decide) ?_
                          refine wp_iload_n dd_X4_shift_9 rfl ?_
                          refine wp_iload_n dd_X4_shift_10 rfl ?_
                          refine wp_icmp_lt (tgt := 82) dd_X4_shift_11 (by decide) (fun c11_10 => ?_) (fun c11_10 => absurd c11_10 (by decide))
                          refine wp_iincC (ls2 := [some (zR o), some (zI p), some (zI 1), some (zI (-1)), some (zI j4), none]) dd_X4_shift_82 rfl rfl (by decide) (by omega) rfl ?_
                          refine wp_goto (tgt := 2) dd_X4_shift_85 (by decide) ?_
                          refine wp_iload_n dd_X4_shift_2 rfl ?_
                          refine wp_iconst dd_X4_shift_3 (zr_lit rfl) ?_
                          refine wp_icmp_ge (tgt := 88) dd_X4_shift_4 (by decide) (fun c4_11 => absurd c4_11 (by decide)) (fun c4_11 => ?_)
                          refine wp_iconst dd_X4_shift_7 (zr_lit rfl) ?_
                          refine wp_istore_n (ls2 := [some (zR o), some (zI p), some (zI 1), some (zI 3), some (zI j4), none]) dd_X4_shift_8 rfl (by decide) rfl ?_
                          refine wp_iload_n dd_X4_shift_9 rfl ?_
                          refine wp_iload_n dd_X4_shift_10 rfl ?_
                          refine wp_icmp_lt (tgt := 82) dd_X4_shift_11 (by decide) (fun c11_12 => absurd c11_12 (by decide)) (fun c11_12 => ?_)
                          refine wp_iconst dd_X4_shift_14 (zr_lit rfl) ?_
                          refine wp_istore (ls2 := [some (zR o), some (zI p), some (zI 1), some (zI 3), some (zI 0), none]) dd_X4_shift_15 rfl (by decide) rfl ?_
                          have lp17 : ∀ (nf : Nat) (j5 : Int) (mm5 : zMem), (0 ≤ j5) → (j5 ≤ 5) → (∀ b : Int, 0 ≤ b → b < j5 → mm5 (o + 2) (15 + b) = (mm4 (o + 2) (15 + b) + mem o 1 * mm4 (o + 2) (20 + b)) % p) → (∀ t : Int, (t < 15 ∨ 15 + j5 ≤ t) → mm5 (o + 2) t = mm4 (o + 2) t) → (∀ t : Int, 0 ≤ t → t < 25 → 0 ≤ mm5 (o + 2) t ∧ mm5 (o + 2) t < p) → (∀ a : Nat, a ≠ o + 2 → mm5 a = mem a) → (5 - j5) < (nf : Int) → zw_Wp l mm_X4_shift (zS L) 17 [some (zR o), some (zI p), some (zI 1), some (zI 3), some (zI j5), none] [] mm5 0 0 Q := by
                            intro nf
                            induction nf with
                            | zero =>
                              intro j5 mm5 h0 h1 ha5 hb5 hr5 hx5 hmu
                              exfalso; omega
                            | succ nf ih17 =>
                              intro j5 mm5 h0 h1 ha5 hb5 hr5 hx5 hmu
                              have hfo : mm5 o = mem o := hx5 o (by omega)
                              have hfo1 : mm5 o 1 = mem o 1 := by rw [hfo]
                              refine wp_iload dd_X4_shift_17 rfl ?_
                              refine wp_iconst dd_X4_shift_19 (zr_lit rfl) ?_
                              refine wp_icmp_ge (tgt := 76) dd_X4_shift_20 (by decide) (fun c20_13 => ?_) (fun c20_13 => ?_)
                              · skip
                                refine wp_iincC (ls2 := [some (zR o), some (zI p), some (zI 1), some (zI 2), some (zI j5), none]) dd_X4_shift_76 rfl rfl (by decide) (by omega) rfl ?_
                                refine wp_goto (tgt := 9) dd_X4_shift_79 (by decide) ?_
                                refine wp_iload_n dd_X4_shift_9 rfl ?_
                                refine wp_iload_n dd_X4_shift_10 rfl ?_
                                refine wp_icmp_lt (tgt := 82) dd_X4_shift_11 (by decide) (fun c11_14 => absurd c11_14 (by decide)) (fun c11_14 => ?_)
                                refine wp_iconst dd_X4_shift_14 (zr_lit rfl) ?_
                                refine wp_istore (ls2 := [some (zR o), some (zI p), some (zI 1), some (zI 2), some (zI 0), none]) dd_X4_shift_15 rfl (by decide) rfl ?_
                                have lp17 : ∀ (nf : Nat) (j6 : Int) (mm6 : zMem), (0 ≤ j6) → (j6 ≤ 5) → (∀ b : Int, 0 ≤ b → b < j6 → mm6 (o + 2) (10 + b) = (mm5 (o + 2) (10 + b) + mem o 1 * mm5 (o + 2) (15 + b)) % p) → (∀ t : Int, (t < 10 ∨ 10 + j6 ≤ t) → mm6 (o + 2) t = mm5 (o + 2) t) → (∀ t : Int, 0 ≤ t → t < 25 → 0 ≤ mm6 (o + 2) t ∧ mm6 (o + 2) t < p) → (∀ a : Nat, a ≠ o + 2 → mm6 a = mem a) → (5 - j6) < (nf : Int) → zw_Wp l mm_X4_shift (zS L) 17 [some (zR o), some (zI p), some (zI 1), some (zI 2), some (zI j6), none] [] mm6 0 0 Q := by
                                  intro nf
                                  induction nf with
                                  | zero =>
                                    intro j6 mm6 h0 h1 ha6 hb6 hr6 hx6 hmu
                                    exfalso; omega
                                  | succ nf ih17 =>
                                    intro j6 mm6 h0 h1 ha6 hb6 hr6 hx6 hmu
                                    have hfo : mm6 o = mem o := hx6 o (by omega)
                                    have hfo1 : mm6 o 1 = mem o 1 := by rw [hfo]
                                    refine wp_iload dd_X4_shift_17 rfl ?_
                                    refine wp_iconst dd_X4_shift_19 (zr_lit rfl) ?_
                                    refine wp_icmp_ge (tgt := 76) dd_X4_shift_20 (by decide) (fun c20_15 => ?_) (fun c20_15 => ?_)
                                    · skip
                                      refine wp_iincC (ls2 := [some (zR o), some (zI p), some (zI 1), some (zI 1), some (zI j6), none]) dd_X4_shift_76 rfl rfl (by decide) (by omega) rfl ?_
                                      refine wp_goto (tgt := 9) dd_X4_shift_79 (by decide) ?_
                                      refine wp_iload_n dd_X4_shift_9 rfl ?_
                                      refine wp_iload_n dd_X4_shift_10 rfl ?_
                                      refine wp_icmp_lt (tgt := 82) dd_X4_shift_11 (by decide) (fun c11_16 => absurd c11_16 (by decide)) (fun c11_16 => ?_)
                                      refine wp_iconst dd_X4_shift_14 (zr_lit rfl) ?_
                                      refine wp_istore (ls2 := [some (zR o), some (zI p), some (zI 1), some (zI 1), some (zI 0), none]) dd_X4_shift_15 rfl (by decide) rfl ?_
                                      have lp17 : ∀ (nf : Nat) (j7 : Int) (mm7 : zMem), (0 ≤ j7) → (j7 ≤ 5) → (∀ b : Int, 0 ≤ b → b < j7 → mm7 (o + 2) (5 + b) = (mm6 (o + 2) (5 + b) + mem o 1 * mm6 (o + 2) (10 + b)) % p) → (∀ t : Int, (t < 5 ∨ 5 + j7 ≤ t) → mm7 (o + 2) t = mm6 (o + 2) t) → (∀ t : Int, 0 ≤ t → t < 25 → 0 ≤ mm7 (o + 2) t ∧ mm7 (o + 2) t < p) → (∀ a : Nat, a ≠ o + 2 → mm7 a = mem a) → (5 - j7) < (nf : Int) → zw_Wp l mm_X4_shift (zS L) 17 [some (zR o), some (zI p), some (zI 1), some (zI 1), some (zI j7), none] [] mm7 0 0 Q := by
                                        intro nf
                                        induction nf with
                                        | zero =>
                                          intro j7 mm7 h0 h1 ha7 hb7 hr7 hx7 hmu
                                          exfalso; omega
                                        | succ nf ih17 =>
                                          intro j7 mm7 h0 h1 ha7 hb7 hr7 hx7 hmu
                                          have hfo : mm7 o = mem o := hx7 o (by omega)
                                          have hfo1 : mm7 o 1 = mem o 1 := by rw [hfo]
                                          refine wp_iload dd_X4_shift_17 rfl ?_
                                          refine wp_iconst dd_X4_shift_19 (zr_lit rfl) ?_
                                          refine wp_icmp_ge (tgt := 76) dd_X4_shift_20 (by decide) (fun c20_17 => ?_) (fun c20_17 => ?_)
                                          · skip
                                            refine wp_iincC (ls2 := [some (zR o), some (zI p), some (zI 1), some (zI 0), some (zI j7), none]) dd_X4_shift_76 rfl rfl (by decide) (by omega) rfl ?_
                                            refine wp_goto (tgt := 9) dd_X4_shift_79 (by decide) ?_
                                            refine wp_iload_n dd_X4_shift_9 rfl ?_
                                            refine wp_iload_n dd_X4_shift_10 rfl ?_
                                            refine wp_icmp_lt (tgt := 82) dd_X4_shift_11 (by decide) (fun c11_18 => ?_) (fun c11_18 => absurd c11_18 (by decide))
                                            refine wp_iincC (ls2 := [some (zR o), some (zI p), some (zI 2), some (zI 0), some (zI j7), none]) dd_X4_shift_82 rfl rfl (by decide) (by omega) rfl ?_
                                            refine wp_goto (tgt := 2) dd_X4_shift_85 (by decide) ?_
                                            refine wp_iload_n dd_X4_shift_2 rfl ?_
                                            refine wp_iconst dd_X4_shift_3 (zr_lit rfl) ?_
                                            refine wp_icmp_ge (tgt := 88) dd_X4_shift_4 (by decide) (fun c4_19 => absurd c4_19 (by decide)) (fun c4_19 => ?_)
                                            refine wp_iconst dd_X4_shift_7 (zr_lit rfl) ?_
                                            refine wp_istore_n (ls2 := [some (zR o), some (zI p), some (zI 2), some (zI 3), some (zI j7), none]) dd_X4_shift_8 rfl (by decide) rfl ?_
                                            refine wp_iload_n dd_X4_shift_9 rfl ?_
                                            refine wp_iload_n dd_X4_shift_10 rfl ?_
                                            refine wp_icmp_lt (tgt := 82) dd_X4_shift_11 (by decide) (fun c11_20 => absurd c11_20 (by decide)) (fun c11_20 => ?_)
                                            refine wp_iconst dd_X4_shift_14 (zr_lit rfl) ?_
                                            refine wp_istore (ls2 := [some (zR o), some (zI p), some (zI 2), some (zI 3), some (zI 0), none]) dd_X4_shift_15 rfl (by decide) rfl ?_
                                            have lp17 : ∀ (nf : Nat) (j8 : Int) (mm8 : zMem), (0 ≤ j8) → (j8 ≤ 5) → (∀ b : Int, 0 ≤ b → b < j8 → mm8 (o + 2) (15 + b) = (mm7 (o + 2) (15 + b) + mem o 1 * mm7 (o + 2) (20 + b)) % p) → (∀ t : Int, (t < 15 ∨ 15 + j8 ≤ t) → mm8 (o + 2) t = mm7 (o + 2) t) → (∀ t : Int, 0 ≤ t → t < 25 → 0 ≤ mm8 (o + 2) t ∧ mm8 (o + 2) t < p) → (∀ a : Nat, a ≠ o + 2 → mm8 a = mem a) → (5 - j8) < (nf : Int) → zw_Wp l mm_X4_shift (zS L) 17 [some (zR o), some (zI p), some (zI 2), some (zI 3), some (zI j8), none] [] mm8 0 0 Q := by
                                              intro nf
                                              induction nf with
                                              | zero =>
                                                intro j8 mm8 h0 h1 ha8 hb8 hr8 hx8 hmu
                                                exfalso; omega
                                              | succ nf ih17 =>
                                                intro j8 mm8 h0 h1 ha8 hb8 hr8 hx8 hmu
                                                have hfo : mm8 o = mem o := hx8 o (by omega)
                                                have hfo1 : mm8 o 1 = mem o 1 := by rw [hfo]
                                                refine wp_iload dd_X4_shift_17 rfl ?_
                                                refine wp_iconst dd_X4_shift_19 (zr_lit rfl) ?_
                                                refine wp_icmp_ge (tgt := 76) dd_X4_shift_20 (by decide) (fun c20_21 => ?_) (fun c20_21 => ?_)
                                                · skip
                                                  refine wp_iincC (ls2 := [some (zR o), some (zI p), some (zI 2), some (zI 2), some (zI j8), none]) dd_X4_shift_76 rfl rfl (by decide) (by omega) rfl ?_
                                                  refine wp_goto (tgt := 9) dd_X4_shift_79 (by decide) ?_
                                                  refine wp_iload_n dd_X4_shift_9 rfl ?_
                                                  refine wp_iload_n dd_X4_shift_10 rfl ?_
                                                  refine wp_icmp_lt (tgt := 82) dd_X4_shift_11 (by decide) (fun c11_22 => absurd c11_22 (by decide)) (fun c11_22 => ?_)
                                                  refine wp_iconst dd_X4_shift_14 (zr_lit rfl) ?_
                                                  refine wp_istore (ls2 := [some (zR o), some (zI p), some (zI 2), some (zI 2), some (zI 0), none]) dd_X4_shift_15 rfl (by decide) rfl ?_
                                                  have lp17 : ∀ (nf : Nat) (j9 : Int) (mm9 : zMem), (0 ≤ j9) → (j9 ≤ 5) → (∀ b : Int, 0 ≤ b → b < j9 → mm9 (o + 2) (10 + b) = (mm8 (o + 2) (10 + b) + mem o 1 * mm8 (o + 2) (15 + b)) % p) → (∀ t : Int, (t < 10 ∨ 10 + j9 ≤ t) → mm9 (o + 2) t = mm8 (o + 2) t) → (∀ t : Int, 0 ≤ t → t < 25 → 0 ≤ mm9 (o + 2) t ∧ mm9 (o + 2) t < p) → (∀ a : Nat, a ≠ o + 2 → mm9 a = mem a) → (5 - j9) < (nf : Int) → zw_Wp l mm_X4_shift (zS L) 17 [some (zR o), some (zI p), some (zI 2), some (zI 2), some (zI j9), none] [] mm9 0 0 Q := by
                                                    intro nf
                                                    induction nf with
                                                    | zero =>
                                                      intro j9 mm9 h0 h1 ha9 hb9 hr9 hx9 hmu
                                                      exfalso; omega
                                                    | succ nf ih17 =>
                                                      intro j9 mm9 h0 h1 ha9 hb9 hr9 hx9 hmu
                                                      have hfo : mm9 o = mem o := hx9 o (by omega)
                                                      have hfo1 : mm9 o 1 = mem o 1 := by rw [hfo]
                                                      refine wp_iload dd_X4_shift_17 rfl ?_
                                                      refine wp_iconst dd_X4_shift_19 (zr_lit rfl) ?_
                                                      refine wp_icmp_ge (tgt := 76) dd_X4_shift_20 (by decide) (fun c20_23 => ?_) (fun c20_23 => ?_)
                                                      · skip
                                                        refine wp_iincC (ls2 := [some (zR o), some (zI p), some (zI 2), some (zI 1), some (zI j9), none]) dd_X4_shift_76 rfl rfl (by decide) (by omega) rfl ?_
                                                        refine wp_goto (tgt := 9) dd_X4_shift_79 (by decide) ?_
                                                        refine wp_iload_n dd_X4_shift_9 rfl ?_
                                                        refine wp_iload_n dd_X4_shift_10 rfl ?_
                                                        refine wp_icmp_lt (tgt := 82) dd_X4_shift_11 (by decide) (fun c11_24 => ?_) (fun c11_24 => absurd c11_24 (by decide))
                                                        refine wp_iincC (ls2 := [some (zR o), some (zI p), some (zI 3), some (zI 1), some (zI j9), none]) dd_X4_shift_82 rfl rfl (by decide) (by omega) rfl ?_
                                                        refine wp_goto (tgt := 2) dd_X4_shift_85 (by decide) ?_
                                                        refine wp_iload_n dd_X4_shift_2 rfl ?_
                                                        refine wp_iconst dd_X4_shift_3 (zr_lit rfl) ?_
                                                        refine wp_icmp_ge (tgt := 88) dd_X4_shift_4 (by decide) (fun c4_25 => absurd c4_25 (by decide)) (fun c4_25 => ?_)
                                                        refine wp_iconst dd_X4_shift_7 (zr_lit rfl) ?_
                                                        refine wp_istore_n (ls2 := [some (zR o), some (zI p), some (zI 3), some (zI 3), some (zI j9), none]) dd_X4_shift_8 rfl (by decide) rfl ?_
                                                        refine wp_iload_n dd_X4_shift_9 rfl ?_
                                                        refine wp_iload_n dd_X4_shift_10 rfl ?_
                                                        refine wp_icmp_lt (tgt := 82) dd_X4_shift_11 (by decide) (fun c11_26 => absurd c11_26 (by decide)) (fun c11_26 => ?_)
                                                        refine wp_iconst dd_X4_shift_14 (zr_lit rfl) ?_
                                                        refine wp_istore (ls2 := [some (zR o), some (zI p), some (zI 3), some (zI 3), some (zI 0), none]) dd_X4_shift_15 rfl (by decide) rfl ?_
                                                        have lp17 : ∀ (nf : Nat) (j10 : Int) (mm10 : zMem), (0 ≤ j10) → (j10 ≤ 5) → (∀ b : Int, 0 ≤ b → b < j10 → mm10 (o + 2) (15 + b) = (mm9 (o + 2) (15 + b) + mem o 1 * mm9 (o + 2) (20 + b)) % p) → (∀ t : Int, (t < 15 ∨ 15 + j10 ≤ t) → mm10 (o + 2) t = mm9 (o + 2) t) → (∀ t : Int, 0 ≤ t → t < 25 → 0 ≤ mm10 (o + 2) t ∧ mm10 (o + 2) t < p) → (∀ a : Nat, a ≠ o + 2 → mm10 a = mem a) → (5 - j10) < (nf : Int) → zw_Wp l mm_X4_shift (zS L) 17 [some (zR o), some (zI p), some (zI 3), some (zI 3), some (zI j10), none] [] mm10 0 0 Q := by
                                                          intro nf
                                                          induction nf with
                                                          | zero =>
                                                            intro j10 mm10 h0 h1 ha10 hb10 hr10 hx10 hmu
                                                            exfalso; omega
                                                          | succ nf ih17 =>
                                                            intro j10 mm10 h0 h1 ha10 hb10 hr10 hx10 hmu
                                                            have hfo : mm10 o = mem o := hx10 o (by omega)
                                                            have hfo1 : mm10 o 1 = mem o 1 := by rw [hfo]
                                                            refine wp_iload dd_X4_shift_17 rfl ?_
                                                            refine wp_iconst dd_X4_shift_19 (zr_lit rfl) ?_
                                                            refine wp_icmp_ge (tgt := 76) dd_X4_shift_20 (by decide) (fun c20_27 => ?_) (fun c20_27 => ?_)
                                                            · skip
                                                              refine wp_iincC (ls2 := [some (zR o), some (zI p), some (zI 3), some (zI 2), some (zI j10), none]) dd_X4_shift_76 rfl rfl (by decide) (by omega) rfl ?_
                                                              refine wp_goto (tgt := 9) dd_X4_shift_79 (by decide) ?_
                                                              refine wp_iload_n dd_X4_shift_9 rfl ?_
                                                              refine wp_iload_n dd_X4_shift_10 rfl ?_
                                                              refine wp_icmp_lt (tgt := 82) dd_X4_shift_11 (by decide) (fun c11_28 => ?_) (fun c11_28 => absurd c11_28 (by decide))
                                                              refine wp_iincC (ls2 := [some (zR o), some (zI p), some (zI 4), some (zI 2), some (zI j10), none]) dd_X4_shift_82 rfl rfl (by decide) (by omega) rfl ?_
                                                              refine wp_goto (tgt := 2) dd_X4_shift_85 (by decide) ?_
                                                              refine wp_iload_n dd_X4_shift_2 rfl ?_
                                                              refine wp_iconst dd_X4_shift_3 (zr_lit rfl) ?_
                                                              refine wp_icmp_ge (tgt := 88) dd_X4_shift_4 (by decide) (fun c4_29 => ?_) (fun c4_29 => absurd c4_29 (by decide))
                                                              refine wp_return (st := []) dd_X4_shift_88 rfl ?_
                                                              have hend : ∀ b : Int, 0 ≤ b ∧ b ≤ 4 → (mm10 (o + 2) (0 + b) = zsf (mem o 1) p (fun k => mem (o + 2) (5 * k + b)) 0 ∧ mm10 (o + 2) (5 + b) = zsf (mem o 1) p (fun k => mem (o + 2) (5 * k + b)) 1 ∧ mm10 (o + 2) (10 + b) = zsf (mem o 1) p (fun k => mem (o + 2) (5 * k + b)) 2 ∧ mm10 (o + 2) (15 + b) = zsf (mem o 1) p (fun k => mem (o + 2) (5 * k + b)) 3 ∧ mm10 (o + 2) (20 + b) = zsf (mem o 1) p (fun k => mem (o + 2) (5 * k + b)) 4) := by
                                                                intro b hb0
                                                                have v1 : mm1 (o + 2) (15 + b) = (mem (o + 2) (15 + b) + mem o 1 * mem (o + 2) (20 + b)) % p := by
                                                                  rw [ha1 b (by omega) (by omega)]
                                                                have v2 : mm2 (o + 2) (10 + b) = (mem (o + 2) (10 + b) + mem o 1 * mm1 (o + 2) (15 + b)) % p := by
                                                                  rw [ha2 b (by omega) (by omega), hb1 (10 + b) (by omega)]
                                                                have v3 : mm3 (o + 2) (5 + b) = (mem (o + 2) (5 + b) + mem o 1 * mm2 (o + 2) (10 + b)) % p := by
                                                                  rw [ha3 b (by omega) (by omega), hb2 (5 + b) (by omega), hb1 (5 + b) (by omega)]
                                                                have v4 : mm4 (o + 2) (0 + b) = (mem (o + 2) (0 + b) + mem o 1 * mm3 (o + 2) (5 + b)) % p := by
                                                                  rw [ha4 b (by omega) (by omega), hb3 (0 + b) (by omega), hb2 (0 + b) (by omega), hb1 (0 + b) (by omega)]
                                                                have v5 : mm5 (o + 2) (15 + b) = (mm1 (o + 2) (15 + b) + mem o 1 * mem (o + 2) (20 + b)) % p := by
                                                                  rw [ha5 b (by omega) (by omega), hb4 (15 + b) (by omega), hb3 (15 + b) (by omega), hb2 (15 + b) (by omega), hb4 (20 + b) (by omega), hb3 (20 + b) (by omega), hb2 (20 + b) (by omega), hb1 (20 + b) (by omega)]
                                                                have v6 : mm6 (o + 2) (10 + b) = (mm2 (o + 2) (10 + b) + mem o 1 * mm5 (o + 2) (15 + b)) % p := by
                                                                  rw [ha6 b (by omega) (by omega), hb5 (10 + b) (by omega), hb4 (10 + b) (by omega), hb3 (10 + b) (by omega)]
                                                                have v7 : mm7 (o + 2) (5 + b) = (mm3 (o + 2) (5 + b) + mem o 1 * mm6 (o + 2) (10 + b)) % p := by
                                                                  rw [ha7 b (by omega) (by omega), hb6 (5 + b) (by omega), hb5 (5 + b) (by omega), hb4 (5 + b) (by omega)]
                                                                have v8 : mm8 (o + 2) (15 + b) = (mm5 (o + 2) (15 + b) + mem o 1 * mem (o + 2) (20 + b)) % p := by
                                                                  rw [ha8 b (by omega) (by omega), hb7 (15 + b) (by omega), hb6 (15 + b) (by omega), hb7 (20 + b) (by omega), hb6 (20 + b) (by omega), hb5 (20 + b) (by omega), hb4 (20 + b) (by omega), hb3 (20 + b) (by omega), hb2 (20 + b) (by omega), hb1 (20 + b) (by omega)]
                                                                have v9 : mm9 (o + 2) (10 + b) = (mm6 (o + 2) (10 + b) + mem o 1 * mm8 (o + 2) (15 + b)) % p := by
                                                                  rw [ha9 b (by omega) (by omega), hb8 (10 + b) (by omega), hb7 (10 + b) (by omega)]
                                                                have v10 : mm10 (o + 2) (15 + b) = (mm8 (o + 2) (15 + b) + mem o 1 * mem (o + 2) (20 + b)) % p := by
                                                                  rw [ha10 b (by omega) (by omega), hb9 (15 + b) (by omega), hb9 (20 + b) (by omega), hb8 (20 + b) (by omega), hb7 (20 + b) (by omega), hb6 (20 + b) (by omega), hb5 (20 + b) (by omega), hb4 (20 + b) (by omega), hb3 (20 + b) (by omega), hb2 (20 + b) (by omega), hb1 (20 + b) (by omega)]
                                                                obtain ⟨g0, g1, g2, g3⟩ := zsf_pure v1 v2 v3 v4 v5 v6 v7 v8 v9 v10
                                                                refine ⟨?_, ?_, ?_, ?_, ?_⟩
                                                                · rw [hb10 (0 + b) (by omega), hb9 (0 + b) (by omega), hb8 (0 + b) (by omega), hb7 (0 + b) (by omega), hb6 (0 + b) (by omega), hb5 (0 + b) (by omega)]
                                                                  unfold zsf
                                                                  rw [if_pos rfl]; exact g0
                                                                · rw [hb10 (5 + b) (by omega), hb9 (5 + b) (by omega), hb8 (5 + b) (by omega)]
                                                                  unfold zsf
                                                                  rw [if_neg (by omega)]; rw [if_pos rfl]; exact g1
                                                                · rw [hb10 (10 + b) (by omega)]
                                                                  unfold zsf
                                                                  rw [if_neg (by omega)]; rw [if_neg (by omega)]; rw [if_pos rfl]; exact g2
                                                                · rw [show mm10 (o + 2) (15 + b) = mm10 (o + 2) (15 + b) from rfl]
                                                                  unfold zsf
                                                                  rw [if_neg (by omega)]; rw [if_neg (by omega)]; rw [if_neg (by omega)]; rw [if_pos rfl]; exact g3
                                                                · rw [hb10 (20 + b) (by omega), hb9 (20 + b) (by omega), hb8 (20 + b) (by omega), hb7 (20 + b) (by omega), hb6 (20 + b) (by omega), hb5 (20 + b) (by omega), hb4 (20 + b) (by omega), hb3 (20 + b) (by omega), hb2 (20 + b) (by omega), hb1 (20 + b) (by omega)]
                                                                  unfold zsf
                                                                  rw [if_neg (by omega), if_neg (by omega), if_neg (by omega), if_neg (by omega)]
                                                                  have := hc (20 + b) (by omega) (by omega)
                                                                  exact (Int.emod_eq_of_lt this.1 this.2).symm
                                                              refine k mm10 ?_ hx10
                                                              intro i b hi hb
                                                              obtain ⟨g0, g1, g2, g3, g4⟩ := hend b hb
                                                              rcases (show i = 0 ∨ i = 1 ∨ i = 2 ∨ i = 3 ∨ i = 4 by omega) with rfl | rfl | rfl | rfl | rfl
                                                              · exact g0
                                                              · exact g1
                                                              · exact g2
                                                              · exact g3
                                                              · exact g4
                                                            · skip
                                                              have hq1 := hr10 (15 + j10) (by omega) (by omega)
                                                              have hq2 := hr10 (20 + j10) (by omega) (by omega)
                                                              have hq3 := zmul_rg (a := mm10 o 1) (b := mm10 (o + 2) (20 + j10)) (A := 9) (B := 31) (by omega) (by omega) (by omega) (by omega)
                                                              refine wp_aload_n dd_X4_shift_23 rfl ?_
                                                              refine wp_getR dd_X4_shift_24 gf_X4_15 rfl ho.k (by decide) ho.i ho.c ?_
                                                              refine wp_iconst dd_X4_shift_27 (zr_lit rfl) ?_
                                                              refine wp_iload_n dd_X4_shift_28 rfl ?_
                                                              refine wp_iconst dd_X4_shift_29 (zr_lit rfl) ?_
                                                              refine wp_iaddC dd_X4_shift_30 (by decide) ?_
                                                              show zw_Wp l mm_X4_shift (zS L) 31 [some (zR o), some (zI p), some (zI 3), some (zI 3), some (zI j10), none] [zI 4, zI 5, zR (o + 2)] mm10 0 0 Q
                                                              refine wp_imulC dd_X4_shift_31 (by decide) ?_
                                                              show zw_Wp l mm_X4_shift (zS L) 32 [some (zR o), some (zI p), some (zI 3), some (zI 3), some (zI j10), none] [zI 20, zR (o + 2)] mm10 0 0 Q
                                                              refine wp_iload dd_X4_shift_32 rfl ?_
                                                              refine wp_iaddC dd_X4_shift_34 (by omega) ?_
                                                              refine wp_iald dd_X4_shift_35 ho.kc ho.ic (by omega) (by omega) ?_
                                                              refine wp_istore (ls2 := [some (zR o), some (zI p), some (zI 3), some (zI 3), some (zI j10), some (zI (mm10 (o + 2) (20 + j10)))]) dd_X4_shift_36 rfl (by decide) rfl ?_
                                                              refine wp_aload_n dd_X4_shift_38 rfl ?_
                                                              refine wp_getR dd_X4_shift_39 gf_X4_15 rfl ho.k (by decide) ho.i ho.c ?_
                                                              refine wp_iconst dd_X4_shift_42 (zr_lit rfl) ?_
                                                              refine wp_iload_n dd_X4_shift_43 rfl ?_
                                                              refine wp_imulC dd_X4_shift_44 (by decide) ?_
                                                              show zw_Wp l mm_X4_shift (zS L) 45 [some (zR o), some (zI p), some (zI 3), some (zI 3), some (zI j10), some (zI (mm10 (o + 2) (20 + j10)))] [zI 15, zR (o + 2)] mm10 0 0 Q
                                                              refine wp_iload dd_X4_shift_45 rfl ?_
                                                              refine wp_iaddC dd_X4_shift_47 (by omega) ?_
                                                              refine wp_aload_n dd_X4_shift_48 rfl ?_
                                                              refine wp_getR dd_X4_shift_49 gf_X4_15 rfl ho.k (by decide) ho.i ho.c ?_
                                                              refine wp_iconst dd_X4_shift_52 (zr_lit rfl) ?_
                                                              refine wp_iload_n dd_X4_shift_53 rfl ?_
                                                              refine wp_imulC dd_X4_shift_54 (by decide) ?_
                                                              show zw_Wp l mm_X4_shift (zS L) 55 [some (zR o), some (zI p), some (zI 3), some (zI 3), some (zI j10), some (zI (mm10 (o + 2) (20 + j10)))] [zI 15, zR (o + 2), zI (15 + j10), zR (o + 2)] mm10 0 0 Q
                                                              refine wp_iload dd_X4_shift_55 rfl ?_
                                                              refine wp_iaddC dd_X4_shift_57 (by omega) ?_
                                                              refine wp_iald dd_X4_shift_58 ho.kc ho.ic (by omega) (by omega) ?_
                                                              refine wp_aload_n dd_X4_shift_59 rfl ?_
                                                              refine wp_getZ 1 rfl dd_X4_shift_60 gf_X4_22 rfl ho.k (by decide) ho.i ?_
                                                              refine wp_iload dd_X4_shift_63 rfl ?_
                                                              refine wp_imulC dd_X4_shift_65 (by omega) ?_
                                                              refine wp_iaddC dd_X4_shift_66 (by omega) ?_
                                                              refine wp_iload_n dd_X4_shift_67 rfl ?_
                                                              refine wp_iremP dd_X4_shift_68 (by omega) (by omega) ?_
                                                              refine wp_iast dd_X4_shift_69 ho.kc ho.ic (by omega) (by omega) ?_
                                                              refine wp_iincC (ls2 := [some (zR o), some (zI p), some (zI 3), some (zI 3), some (zI (j10 + 1)), some (zI (mm10 (o + 2) (20 + j10)))]) dd_X4_shift_70 rfl rfl (by decide) (by omega) rfl ?_
                                                              refine wp_goto (tgt := 17) dd_X4_shift_73 (by decide) ?_
                                                              refine wp_ls (zw_sub_of (a := [some (zR o), some (zI p), some (zI 3), some (zI 3), some (zI (j10 + 1)), none]) (And.intro rfl (And.intro rfl (And.intro rfl (And.intro rfl (And.intro rfl (trivial))))))) ?_
                                                              refine ih17 (j10 + 1) (zu mm10 (o + 2) (15 + j10) (((mm10 (o + 2) (15 + j10)) + ((mm10 o 1) * (mm10 (o + 2) (20 + j10)))) % p)) ?_ ?_ ?_ ?_ ?_ ?_ ?_
                                                              · first | omega | assumption | (intros; omega)
                                                              · first | omega | assumption | (intros; omega)
                                                              · intro b q1 q2
                                                                by_cases hb : b = j10
                                                                · subst hb
                                                                  rw [zu_s, hfo, hb10 _ (Or.inr (by omega)), hb10 _ (Or.inr (by omega))]
                                                                · rw [zu_n (Or.inr (by omega))]; exact ha10 b q1 (by omega)
                                                              · intro t q
                                                                rw [zu_n (Or.inr (by omega))]; exact hb10 t (by omega)
                                                              · intro t q1 q2
                                                                by_cases hb : t = 15 + j10
                                                                · subst hb; rw [zu_s]; exact zm_rg (by omega)
                                                                · rw [zu_n (Or.inr hb)]; exact hr10 t q1 q2
                                                              · intro a ha; rw [zu_row ha]; exact hx10 a ha
                                                              · omega
                                                        refine lp17 ((5 - 0 : Int)).toNat.succ 0 mm9 ?_ ?_ ?_ ?_ ?_ ?_ ?_
                                                        · first | omega | assumption | (intros; omega)
                                                        · first | omega | assumption | (intros; omega)
                                                        · intros; omega
                                                        · intros; rfl
                                                        · first | omega | assumption | (intros; omega)
                                                        · first | omega | assumption | (intros; omega)
                                                        · omega
                                                      · skip
                                                        have hq1 := hr9 (10 + j9) (by omega) (by omega)
                                                        have hq2 := hr9 (15 + j9) (by omega) (by omega)
                                                        have hq3 := zmul_rg (a := mm9 o 1) (b := mm9 (o + 2) (15 + j9)) (A := 9) (B := 31) (by omega) (by omega) (by omega) (by omega)
                                                        refine wp_aload_n dd_X4_shift_23 rfl ?_
                                                        refine wp_getR dd_X4_shift_24 gf_X4_15 rfl ho.k (by decide) ho.i ho.c ?_
                                                        refine wp_iconst dd_X4_shift_27 (zr_lit rfl) ?_
                                                        refine wp_iload_n dd_X4_shift_28 rfl ?_
                                                        refine wp_iconst dd_X4_shift_29 (zr_lit rfl) ?_
                                                        refine wp_iaddC dd_X4_shift_30 (by decide) ?_
                                                        show zw_Wp l mm_X4_shift (zS L) 31 [some (zR o), some (zI p), some (zI 2), some (zI 2), some (zI j9), none] [zI 3, zI 5, zR (o + 2)] mm9 0 0 Q
                                                        refine wp_imulC dd_X4_shift_31 (by decide) ?_
                                                        show zw_Wp l mm_X4_shift (zS L) 32 [some (zR o), some (zI p), some (zI 2), some (zI 2), some (zI j9), none] [zI 15, zR (o + 2)] mm9 0 0 Q
                                                        refine wp_iload dd_X4_shift_32 rfl ?_
                                                        refine wp_iaddC dd_X4_shift_34 (by omega) ?_
                                                        refine wp_iald dd_X4_shift_35 ho.kc ho.ic (by omega) (by omega) ?_
                                                        refine wp_istore (ls2 := [some (zR o), some (zI p), some (zI 2), some (zI 2), some (zI j9), some (zI (mm9 (o + 2) (15 + j9)))]) dd_X4_shift_36 rfl (by decide) rfl ?_
                                                        refine wp_aload_n dd_X4_shift_38 rfl ?_
                                                        refine wp_getR dd_X4_shift_39 gf_X4_15 rfl ho.k (by decide) ho.i ho.c ?_
                                                        refine wp_iconst dd_X4_shift_42 (zr_lit rfl) ?_
                                                        refine wp_iload_n dd_X4_shift_43 rfl ?_
                                                        refine wp_imulC dd_X4_shift_44 (by decide) ?_
                                                        show zw_Wp l mm_X4_shift (zS L) 45 [some (zR o), some (zI p), some (zI 2), some (zI 2), some (zI j9), some (zI (mm9 (o + 2) (15 + j9)))] [zI 10, zR (o + 2)] mm9 0 0 Q
                                                        refine wp_iload dd_X4_shift_45 rfl ?_
                                                        refine wp_iaddC dd_X4_shift_47 (by omega) ?_
                                                        refine wp_aload_n dd_X4_shift_48 rfl ?_
                                                        refine wp_getR dd_X4_shift_49 gf_X4_15 rfl ho.k (by decide) ho.i ho.c ?_
                                                        refine wp_iconst dd_X4_shift_52 (zr_lit rfl) ?_
                                                        refine wp_iload_n dd_X4_shift_53 rfl ?_
                                                        refine wp_imulC dd_X4_shift_54 (by decide) ?_
                                                        show zw_Wp l mm_X4_shift (zS L) 55 [some (zR o), some (zI p), some (zI 2), some (zI 2), some (zI j9), some (zI (mm9 (o + 2) (15 + j9)))] [zI 10, zR (o + 2), zI (10 + j9), zR (o + 2)] mm9 0 0 Q
                                                        refine wp_iload dd_X4_shift_55 rfl ?_
                                                        refine wp_iaddC dd_X4_shift_57 (by omega) ?_
                                                        refine wp_iald dd_X4_shift_58 ho.kc ho.ic (by omega) (by omega) ?_
                                                        refine wp_aload_n dd_X4_shift_59 rfl ?_
                                                        refine wp_getZ 1 rfl dd_X4_shift_60 gf_X4_22 rfl ho.k (by decide) ho.i ?_
                                                        refine wp_iload dd_X4_shift_63 rfl ?_
                                                        refine wp_imulC dd_X4_shift_65 (by omega) ?_
                                                        refine wp_iaddC dd_X4_shift_66 (by omega) ?_
                                                        refine wp_iload_n dd_X4_shift_67 rfl ?_
                                                        refine wp_iremP dd_X4_shift_68 (by omega) (by omega) ?_
                                                        refine wp_iast dd_X4_shift_69 ho.kc ho.ic (by omega) (by omega) ?_
                                                        refine wp_iincC (ls2 := [some (zR o), some (zI p), some (zI 2), some (zI 2), some (zI (j9 + 1)), some (zI (mm9 (o + 2) (15 + j9)))]) dd_X4_shift_70 rfl rfl (by decide) (by omega) rfl ?_
                                                        refine wp_goto (tgt := 17) dd_X4_shift_73 (by decide) ?_
                                                        refine wp_ls (zw_sub_of (a := [some (zR o), some (zI p), some (zI 2), some (zI 2), some (zI (j9 + 1)), none]) (And.intro rfl (And.intro rfl (And.intro rfl (And.intro rfl (And.intro rfl (trivial))))))) ?_
                                                        refine ih17 (j9 + 1) (zu mm9 (o + 2) (10 + j9) (((mm9 (o + 2) (10 + j9)) + ((mm9 o 1) * (mm9 (o + 2) (15 + j9)))) % p)) ?_ ?_ ?_ ?_ ?_ ?_ ?_
                                                        · first | omega | assumption | (intros; omega)
                                                        · first | omega | assumption | (intros; omega)
                                                        · intro b q1 q2
                                                          by_cases hb : b = j9
                                                          · subst hb
                                                            rw [zu_s, hfo, hb9 _ (Or.inr (by omega)), hb9 _ (Or.inr (by omega))]
                                                          · rw [zu_n (Or.inr (by omega))]; exact ha9 b q1 (by omega)
                                                        · intro t q
                                                          rw [zu_n (Or.inr (by omega))]; exact hb9 t (by omega)
                                                        · intro t q1 q2
                                                          by_cases hb : t = 10 + j9
                                                          · subst hb; rw [zu_s]; exact zm_rg (by omega)
                                                          · rw [zu_n (Or.inr hb)]; exact hr9 t q1 q2
                                                        · intro a ha; rw [zu_row ha]; exact hx9 a ha
                                                        · omega
                                                  refine lp17 ((5 - 0 : Int)).toNat.succ 0 mm8 ?_ ?_ ?_ ?_ ?_ ?_ ?_
                                                  · first | omega | assumption | (intros; omega)
                                                  · first | omega | assumption | (intros; omega)
                                                  · intros; omega
                                                  · intros; rfl
                                                  · first | omega | assumption | (intros; omega)
                                                  · first | omega | assumption | (intros; omega)
                                                  · omega
                                                · skip
                                                  have hq1 := hr8 (15 + j8) (by omega) (by omega)
                                                  have hq2 := hr8 (20 + j8) (by omega) (by omega)
                                                  have hq3 := zmul_rg (a := mm8 o 1) (b := mm8 (o + 2) (20 + j8)) (A := 9) (B := 31) (by omega) (by omega) (by omega) (by omega)
                                                  refine wp_aload_n dd_X4_shift_23 rfl ?_
                                                  refine wp_getR dd_X4_shift_24 gf_X4_15 rfl ho.k (by decide) ho.i ho.c ?_
                                                  refine wp_iconst dd_X4_shift_27 (zr_lit rfl) ?_
                                                  refine wp_iload_n dd_X4_shift_28 rfl ?_
                                                  refine wp_iconst dd_X4_shift_29 (zr_lit rfl) ?_
                                                  refine wp_iaddC dd_X4_shift_30 (by decide) ?_
                                                  show zw_Wp l mm_X4_shift (zS L) 31 [some (zR o), some (zI p), some (zI 2), some (zI 3), some (zI j8), none] [zI 4, zI 5, zR (o + 2)] mm8 0 0 Q
                                                  refine wp_imulC dd_X4_shift_31 (by decide) ?_
                                                  show zw_Wp l mm_X4_shift (zS L) 32 [some (zR o), some (zI p), some (zI 2), some (zI 3), some (zI j8), none] [zI 20, zR (o + 2)] mm8 0 0 Q
                                                  refine wp_iload dd_X4_shift_32 rfl ?_
                                                  refine wp_iaddC dd_X4_shift_34 (by omega) ?_
                                                  refine wp_iald dd_X4_shift_35 ho.kc ho.ic (by omega) (by omega) ?_
                                                  refine wp_istore (ls2 := [some (zR o), some (zI p), some (zI 2), some (zI 3), some (zI j8), some (zI (mm8 (o + 2) (20 + j8)))]) dd_X4_shift_36 rfl (by decide) rfl ?_
                                                  refine wp_aload_n dd_X4_shift_38 rfl ?_
                                                  refine wp_getR dd_X4_shift_39 gf_X4_15 rfl ho.k (by decide) ho.i ho.c ?_
                                                  refine wp_iconst dd_X4_shift_42 (zr_lit rfl) ?_
                                                  refine wp_iload_n dd_X4_shift_43 rfl ?_
                                                  refine wp_imulC dd_X4_shift_44 (by decide) ?_
                                                  show zw_Wp l mm_X4_shift (zS L) 45 [some (zR o), some (zI p), some (zI 2), some (zI 3), some (zI j8), some (zI (mm8 (o + 2) (20 + j8)))] [zI 15, zR (o + 2)] mm8 0 0 Q
                                                  refine wp_iload dd_X4_shift_45 rfl ?_
                                                  refine wp_iaddC dd_X4_shift_47 (by omega) ?_
                                                  refine wp_aload_n dd_X4_shift_48 rfl ?_
                                                  refine wp_getR dd_X4_shift_49 gf_X4_15 rfl ho.k (by decide) ho.i ho.c ?_
                                                  refine wp_iconst dd_X4_shift_52 (zr_lit rfl) ?_
                                                  refine wp_iload_n dd_X4_shift_53 rfl ?_
                                                  refine wp_imulC dd_X4_shift_54 (by decide) ?_
                                                  show zw_Wp l mm_X4_shift (zS L) 55 [some (zR o), some (zI p), some (zI 2), some (zI 3), some (zI j8), some (zI (mm8 (o + 2) (20 + j8)))] [zI 15, zR (o + 2), zI (15 + j8), zR (o + 2)] mm8 0 0 Q
                                                  refine wp_iload dd_X4_shift_55 rfl ?_
                                                  refine wp_iaddC dd_X4_shift_57 (by omega) ?_
                                                  refine wp_iald dd_X4_shift_58 ho.kc ho.ic (by omega) (by omega) ?_
                                                  refine wp_aload_n dd_X4_shift_59 rfl ?_
                                                  refine wp_getZ 1 rfl dd_X4_shift_60 gf_X4_22 rfl ho.k (by decide) ho.i ?_
                                                  refine wp_iload dd_X4_shift_63 rfl ?_
                                                  refine wp_imulC dd_X4_shift_65 (by omega) ?_
                                                  refine wp_iaddC dd_X4_shift_66 (by omega) ?_
                                                  refine wp_iload_n dd_X4_shift_67 rfl ?_
                                                  refine wp_iremP dd_X4_shift_68 (by omega) (by omega) ?_
                                                  refine wp_iast dd_X4_shift_69 ho.kc ho.ic (by omega) (by omega) ?_
                                                  refine wp_iincC (ls2 := [some (zR o), some (zI p), some (zI 2), some (zI 3), some (zI (j8 + 1)), some (zI (mm8 (o + 2) (20 + j8)))]) dd_X4_shift_70 rfl rfl (by decide) (by omega) rfl ?_
                                                  refine wp_goto (tgt := 17) dd_X4_shift_73 (by decide) ?_
                                                  refine wp_ls (zw_sub_of (a := [some (zR o), some (zI p), some (zI 2), some (zI 3), some (zI (j8 + 1)), none]) (And.intro rfl (And.intro rfl (And.intro rfl (And.intro rfl (And.intro rfl (trivial))))))) ?_
                                                  refine ih17 (j8 + 1) (zu mm8 (o + 2) (15 + j8) (((mm8 (o + 2) (15 + j8)) + ((mm8 o 1) * (mm8 (o + 2) (20 + j8)))) % p)) ?_ ?_ ?_ ?_ ?_ ?_ ?_
                                                  · first | omega | assumption | (intros; omega)
                                                  · first | omega | assumption | (intros; omega)
                                                  · intro b q1 q2
                                                    by_cases hb : b = j8
                                                    · subst hb
                                                      rw [zu_s, hfo, hb8 _ (Or.inr (by omega)), hb8 _ (Or.inr (by omega))]
                                                    · rw [zu_n (Or.inr (by omega))]; exact ha8 b q1 (by omega)
                                                  · intro t q
                                                    rw [zu_n (Or.inr (by omega))]; exact hb8 t (by omega)
                                                  · intro t q1 q2
                                                    by_cases hb : t = 15 + j8
                                                    · subst hb; rw [zu_s]; exact zm_rg (by omega)
                                                    · rw [zu_n (Or.inr hb)]; exact hr8 t q1 q2
                                                  · intro a ha; rw [zu_row ha]; exact hx8 a ha
                                                  · omega
                                            refine lp17 ((5 - 0 : Int)).toNat.succ 0 mm7 ?_ ?_ ?_ ?_ ?_ ?_ ?_
                                            · first | omega | assumption | (intros; omega)
                                            · first | omega | assumption | (intros; omega)
                                            · intros; omega
                                            · intros; rfl
                                            · first | omega | assumption | (intros; omega)
                                            · first | omega | assumption | (intros; omega)
                                            · omega
                                          · skip
                                            have hq1 := hr7 (5 + j7) (by omega) (by omega)
                                            have hq2 := hr7 (10 + j7) (by omega) (by omega)
                                            have hq3 := zmul_rg (a := mm7 o 1) (b := mm7 (o + 2) (10 + j7)) (A := 9) (B := 31) (by omega) (by omega) (by omega) (by omega)
                                            refine wp_aload_n dd_X4_shift_23 rfl ?_
                                            refine wp_getR dd_X4_shift_24 gf_X4_15 rfl ho.k (by decide) ho.i ho.c ?_
                                            refine wp_iconst dd_X4_shift_27 (zr_lit rfl) ?_
                                            refine wp_iload_n dd_X4_shift_28 rfl ?_
                                            refine wp_iconst dd_X4_shift_29 (zr_lit rfl) ?_
                                            refine wp_iaddC dd_X4_shift_30 (by decide) ?_
                                            show zw_Wp l mm_X4_shift (zS L) 31 [some (zR o), some (zI p), some (zI 1), some (zI 1), some (zI j7), none] [zI 2, zI 5, zR (o + 2)] mm7 0 0 Q
                                            refine wp_imulC dd_X4_shift_31 (by decide) ?_
                                            show zw_Wp l mm_X4_shift (zS L) 32 [some (zR o), some (zI p), some (zI 1), some (zI 1), some (zI j7), none] [zI 10, zR (o + 2)] mm7 0 0 Q
                                            refine wp_iload dd_X4_shift_32 rfl ?_
                                            refine wp_iaddC dd_X4_shift_34 (by omega) ?_
                                            refine wp_iald dd_X4_shift_35 ho.kc ho.ic (by omega) (by omega) ?_
                                            refine wp_istore (ls2 := [some (zR o), some (zI p), some (zI 1), some (zI 1), some (zI j7), some (zI (mm7 (o + 2) (10 + j7)))]) dd_X4_shift_36 rfl (by decide) rfl ?_
                                            refine wp_aload_n dd_X4_shift_38 rfl ?_
                                            refine wp_getR dd_X4_shift_39 gf_X4_15 rfl ho.k (by decide) ho.i ho.c ?_
                                            refine wp_iconst dd_X4_shift_42 (zr_lit rfl) ?_
                                            refine wp_iload_n dd_X4_shift_43 rfl ?_
                                            refine wp_imulC dd_X4_shift_44 (by decide) ?_
                                            show zw_Wp l mm_X4_shift (zS L) 45 [some (zR o), some (zI p), some (zI 1), some (zI 1), some (zI j7), some (zI (mm7 (o + 2) (10 + j7)))] [zI 5, zR (o + 2)] mm7 0 0 Q
                                            refine wp_iload dd_X4_shift_45 rfl ?_
                                            refine wp_iaddC dd_X4_shift_47 (by omega) ?_
                                            refine wp_aload_n dd_X4_shift_48 rfl ?_
                                            refine wp_getR dd_X4_shift_49 gf_X4_15 rfl ho.k (by decide) ho.i ho.c ?_
                                            refine wp_iconst dd_X4_shift_52 (zr_lit rfl) ?_
                                            refine wp_iload_n dd_X4_shift_53 rfl ?_
                                            refine wp_imulC dd_X4_shift_54 (by decide) ?_
                                            show zw_Wp l mm_X4_shift (zS L) 55 [some (zR o), some (zI p), some (zI 1), some (zI 1), some (zI j7), some (zI (mm7 (o + 2) (10 + j7)))] [zI 5, zR (o + 2), zI (5 + j7), zR (o + 2)] mm7 0 0 Q
                                            refine wp_iload dd_X4_shift_55 rfl ?_
                                            refine wp_iaddC dd_X4_shift_57 (by omega) ?_
                                            refine wp_iald dd_X4_shift_58 ho.kc ho.ic (by omega) (by omega) ?_
                                            refine wp_aload_n dd_X4_shift_59 rfl ?_
                                            refine wp_getZ 1 rfl dd_X4_shift_60 gf_X4_22 rfl ho.k (by decide) ho.i ?_
                                            refine wp_iload dd_X4_shift_63 rfl ?_
                                            refine wp_imulC dd_X4_shift_65 (by omega) ?_
                                            refine wp_iaddC dd_X4_shift_66 (by omega) ?_
                                            refine wp_iload_n dd_X4_shift_67 rfl ?_
                                            refine wp_iremP dd_X4_shift_68 (by omega) (by omega) ?_
                                            refine wp_iast dd_X4_shift_69 ho.kc ho.ic (by omega) (by omega) ?_
                                            refine wp_iincC (ls2 := [some (zR o), some (zI p), some (zI 1), some (zI 1), some (zI (j7 + 1)), some (zI (mm7 (o + 2) (10 + j7)))]) dd_X4_shift_70 rfl rfl (by decide) (by omega) rfl ?_
                                            refine wp_goto (tgt := 17) dd_X4_shift_73 (by decide) ?_
                                            refine wp_ls (zw_sub_of (a := [some (zR o), some (zI p), some (zI 1), some (zI 1), some (zI (j7 + 1)), none]) (And.intro rfl (And.intro rfl (And.intro rfl (And.intro rfl (And.intro rfl (trivial))))))) ?_
                                            refine ih17 (j7 + 1) (zu mm7 (o + 2) (5 + j7) (((mm7 (o + 2) (5 + j7)) + ((mm7 o 1) * (mm7 (o + 2) (10 + j7)))) % p)) ?_ ?_ ?_ ?_ ?_ ?_ ?_
                                            · first | omega | assumption | (intros; omega)
                                            · first | omega | assumption | (intros; omega)
                                            · intro b q1 q2
                                              by_cases hb : b = j7
                                              · subst hb
                                                rw [zu_s, hfo, hb7 _ (Or.inr (by omega)), hb7 _ (Or.inr (by omega))]
                                              · rw [zu_n (Or.inr (by omega))]; exact ha7 b q1 (by omega)
                                            · intro t q
                                              rw [zu_n (Or.inr (by omega))]; exact hb7 t (by omega)
                                            · intro t q1 q2
                                              by_cases hb : t = 5 + j7
                                              · subst hb; rw [zu_s]; exact zm_rg (by omega)
                                              · rw [zu_n (Or.inr hb)]; exact hr7 t q1 q2
                                            · intro a ha; rw [zu_row ha]; exact hx7 a ha
                                            · omega
                                      refine lp17 ((5 - 0 : Int)).toNat.succ 0 mm6 ?_ ?_ ?_ ?_ ?_ ?_ ?_
                                      · first | omega | assumption | (intros; omega)
                                      · first | omega | assumption | (intros; omega)
                                      · intros; omega
                                      · intros; rfl
                                      · first | omega | assumption | (intros; omega)
                                      · first | omega | assumption | (intros; omega)
                                      · omega
                                    · skip
                                      have hq1 := hr6 (10 + j6) (by omega) (by omega)
                                      have hq2 := hr6 (15 + j6) (by omega) (by omega)
                                      have hq3 := zmul_rg (a := mm6 o 1) (b := mm6 (o + 2) (15 + j6)) (A := 9) (B := 31) (by omega) (by omega) (by omega) (by omega)
                                      refine wp_aload_n dd_X4_shift_23 rfl ?_
                                      refine wp_getR dd_X4_shift_24 gf_X4_15 rfl ho.k (by decide) ho.i ho.c ?_
                                      refine wp_iconst dd_X4_shift_27 (zr_lit rfl) ?_
                                      refine wp_iload_n dd_X4_shift_28 rfl ?_
                                      refine wp_iconst dd_X4_shift_29 (zr_lit rfl) ?_
                                      refine wp_iaddC dd_X4_shift_30 (by decide) ?_
                                      show zw_Wp l mm_X4_shift (zS L) 31 [some (zR o), some (zI p), some (zI 1), some (zI 2), some (zI j6), none] [zI 3, zI 5, zR (o + 2)] mm6 0 0 Q
                                      refine wp_imulC dd_X4_shift_31 (by decide) ?_
                                      show zw_Wp l mm_X4_shift (zS L) 32 [some (zR o), some (zI p), some (zI 1), some (zI 2), some (zI j6), none] [zI 15, zR (o + 2)] mm6 0 0 Q
                                      refine wp_iload dd_X4_shift_32 rfl ?_
                                      refine wp_iaddC dd_X4_shift_34 (by omega) ?_
                                      refine wp_iald dd_X4_shift_35 ho.kc ho.ic (by omega) (by omega) ?_
                                      refine wp_istore (ls2 := [some (zR o), some (zI p), some (zI 1), some (zI 2), some (zI j6), some (zI (mm6 (o + 2) (15 + j6)))]) dd_X4_shift_36 rfl (by decide) rfl ?_
                                      refine wp_aload_n dd_X4_shift_38 rfl ?_
                                      refine wp_getR dd_X4_shift_39 gf_X4_15 rfl ho.k (by decide) ho.i ho.c ?_
                                      refine wp_iconst dd_X4_shift_42 (zr_lit rfl) ?_
                                      refine wp_iload_n dd_X4_shift_43 rfl ?_
                                      refine wp_imulC dd_X4_shift_44 (by decide) ?_
                                      show zw_Wp l mm_X4_shift (zS L) 45 [some (zR o), some (zI p), some (zI 1), some (zI 2), some (zI j6), some (zI (mm6 (o + 2) (15 + j6)))] [zI 10, zR (o + 2)] mm6 0 0 Q
                                      refine wp_iload dd_X4_shift_45 rfl ?_
                                      refine wp_iaddC dd_X4_shift_47 (by omega) ?_
                                      refine wp_aload_n dd_X4_shift_48 rfl ?_
                                      refine wp_getR dd_X4_shift_49 gf_X4_15 rfl ho.k (by decide) ho.i ho.c ?_
                                      refine wp_iconst dd_X4_shift_52 (zr_lit rfl) ?_
                                      refine wp_iload_n dd_X4_shift_53 rfl ?_
                                      refine wp_imulC dd_X4_shift_54 (by decide) ?_
                                      show zw_Wp l mm_X4_shift (zS L) 55 [some (zR o), some (zI p), some (zI 1), some (zI 2), some (zI j6), some (zI (mm6 (o + 2) (15 + j6)))] [zI 10, zR (o + 2), zI (10 + j6), zR (o + 2)] mm6 0 0 Q
                                      refine wp_iload dd_X4_shift_55 rfl ?_
                                      refine wp_iaddC dd_X4_shift_57 (by omega) ?_
                                      refine wp_iald dd_X4_shift_58 ho.kc ho.ic (by omega) (by omega) ?_
                                      refine wp_aload_n dd_X4_shift_59 rfl ?_
                                      refine wp_getZ 1 rfl dd_X4_shift_60 gf_X4_22 rfl ho.k (by decide) ho.i ?_
                                      refine wp_iload dd_X4_shift_63 rfl ?_
                                      refine wp_imulC dd_X4_shift_65 (by omega) ?_
                                      refine wp_iaddC dd_X4_shift_66 (by omega) ?_
                                      refine wp_iload_n dd_X4_shift_67 rfl ?_
                                      refine wp_iremP dd_X4_shift_68 (by omega) (by omega) ?_
                                      refine wp_iast dd_X4_shift_69 ho.kc ho.ic (by omega) (by omega) ?_
                                      refine wp_iincC (ls2 := [some (zR o), some (zI p), some (zI 1), some (zI 2), some (zI (j6 + 1)), some (zI (mm6 (o + 2) (15 + j6)))]) dd_X4_shift_70 rfl rfl (by decide) (by omega) rfl ?_
                                      refine wp_goto (tgt := 17) dd_X4_shift_73 (by decide) ?_
                                      refine wp_ls (zw_sub_of (a := [some (zR o), some (zI p), some (zI 1), some (zI 2), some (zI (j6 + 1)), none]) (And.intro rfl (And.intro rfl (And.intro rfl (And.intro rfl (And.intro rfl (trivial))))))) ?_
                                      refine ih17 (j6 + 1) (zu mm6 (o + 2) (10 + j6) (((mm6 (o + 2) (10 + j6)) + ((mm6 o 1) * (mm6 (o + 2) (15 + j6)))) % p)) ?_ ?_ ?_ ?_ ?_ ?_ ?_
                                      · first | omega | assumption | (intros; omega)
                                      · first | omega | assumption | (intros; omega)
                                      · intro b q1 q2
                                        by_cases hb : b = j6
                                        · subst hb
                                          rw [zu_s, hfo, hb6 _ (Or.inr (by omega)), hb6 _ (Or.inr (by omega))]
                                        · rw [zu_n (Or.inr (by omega))]; exact ha6 b q1 (by omega)
                                      · intro t q
                                        rw [zu_n (Or.inr (by omega))]; exact hb6 t (by omega)
                                      · intro t q1 q2
                                        by_cases hb : t = 10 + j6
                                        · subst hb; rw [zu_s]; exact zm_rg (by omega)
                                        · rw [zu_n (Or.inr hb)]; exact hr6 t q1 q2
                                      · intro a ha; rw [zu_row ha]; exact hx6 a ha
                                      · omega
                                refine lp17 ((5 - 0 : Int)).toNat.succ 0 mm5 ?_ ?_ ?_ ?_ ?_ ?_ ?_
                                · first | omega | assumption | (intros; omega)
                                · first | omega | assumption | (intros; omega)
                                · intros; omega
                                · intros; rfl
                                · first | omega | assumption | (intros; omega)
                                · first | omega | assumption | (intros; omega)
                                · omega
                              · skip
                                have hq1 := hr5 (15 + j5) (by omega) (by omega)
                                have hq2 := hr5 (20 + j5) (by omega) (by omega)
                                have hq3 := zmul_rg (a := mm5 o 1) (b := mm5 (o + 2) (20 + j5)) (A := 9) (B := 31) (by omega) (by omega) (by omega) (by omega)
                                refine wp_aload_n dd_X4_shift_23 rfl ?_
                                refine wp_getR dd_X4_shift_24 gf_X4_15 rfl ho.k (by decide) ho.i ho.c ?_
                                refine wp_iconst dd_X4_shift_27 (zr_lit rfl) ?_
                                refine wp_iload_n dd_X4_shift_28 rfl ?_
                                refine wp_iconst dd_X4_shift_29 (zr_lit rfl) ?_
                                refine wp_iaddC dd_X4_shift_30 (by decide) ?_
                                show zw_Wp l mm_X4_shift (zS L) 31 [some (zR o), some (zI p), some (zI 1), some (zI 3), some (zI j5), none] [zI 4, zI 5, zR (o + 2)] mm5 0 0 Q
                                refine wp_imulC dd_X4_shift_31 (by decide) ?_
                                show zw_Wp l mm_X4_shift (zS L) 32 [some (zR o), some (zI p), some (zI 1), some (zI 3), some (zI j5), none] [zI 20, zR (o + 2)] mm5 0 0 Q
                                refine wp_iload dd_X4_shift_32 rfl ?_
                                refine wp_iaddC dd_X4_shift_34 (by omega) ?_
                                refine wp_iald dd_X4_shift_35 ho.kc ho.ic (by omega) (by omega) ?_
                                refine wp_istore (ls2 := [some (zR o), some (zI p), some (zI 1), some (zI 3), some (zI j5), some (zI (mm5 (o + 2) (20 + j5)))]) dd_X4_shift_36 rfl (by decide) rfl ?_
                                refine wp_aload_n dd_X4_shift_38 rfl ?_
                                refine wp_getR dd_X4_shift_39 gf_X4_15 rfl ho.k (by decide) ho.i ho.c ?_
                                refine wp_iconst dd_X4_shift_42 (zr_lit rfl) ?_
                                refine wp_iload_n dd_X4_shift_43 rfl ?_
                                refine wp_imulC dd_X4_shift_44 (by decide) ?_
                                show zw_Wp l mm_X4_shift (zS L) 45 [some (zR o), some (zI p), some (zI 1), some (zI 3), some (zI j5), some (zI (mm5 (o + 2) (20 + j5)))] [zI 15, zR (o + 2)] mm5 0 0 Q
                                refine wp_iload dd_X4_shift_45 rfl ?_
                                refine wp_iaddC dd_X4_shift_47 (by omega) ?_
                                refine wp_aload_n dd_X4_shift_48 rfl ?_
                                refine wp_getR dd_X4_shift_49 gf_X4_15 rfl ho.k (by decide) ho.i ho.c ?_
                                refine wp_iconst dd_X4_shift_52 (zr_lit rfl) ?_
                                refine wp_iload_n dd_X4_shift_53 rfl ?_
                                refine wp_imulC dd_X4_shift_54 (by decide) ?_
                                show zw_Wp l mm_X4_shift (zS L) 55 [some (zR o), some (zI p), some (zI 1), some (zI 3), some (zI j5), some (zI (mm5 (o + 2) (20 + j5)))] [zI 15, zR (o + 2), zI (15 + j5), zR (o + 2)] mm5 0 0 Q
                                refine wp_iload dd_X4_shift_55 rfl ?_
                                refine wp_iaddC dd_X4_shift_57 (by omega) ?_
                                refine wp_iald dd_X4_shift_58 ho.kc ho.ic (by omega) (by omega) ?_
                                refine wp_aload_n dd_X4_shift_59 rfl ?_
                                refine wp_getZ 1 rfl dd_X4_shift_60 gf_X4_22 rfl ho.k (by decide) ho.i ?_
                                refine wp_iload dd_X4_shift_63 rfl ?_
                                refine wp_imulC dd_X4_shift_65 (by omega) ?_
                                refine wp_iaddC dd_X4_shift_66 (by omega) ?_
                                refine wp_iload_n dd_X4_shift_67 rfl ?_
                                refine wp_iremP dd_X4_shift_68 (by omega) (by omega) ?_
                                refine wp_iast dd_X4_shift_69 ho.kc ho.ic (by omega) (by omega) ?_
                                refine wp_iincC (ls2 := [some (zR o), some (zI p), some (zI 1), some (zI 3), some (zI (j5 + 1)), some (zI (mm5 (o + 2) (20 + j5)))]) dd_X4_shift_70 rfl rfl (by decide) (by omega) rfl ?_
                                refine wp_goto (tgt := 17) dd_X4_shift_73 (by decide) ?_
                                refine wp_ls (zw_sub_of (a := [some (zR o), some (zI p), some (zI 1), some (zI 3), some (zI (j5 + 1)), none]) (And.intro rfl (And.intro rfl (And.intro rfl (And.intro rfl (And.intro rfl (trivial))))))) ?_
                                refine ih17 (j5 + 1) (zu mm5 (o + 2) (15 + j5) (((mm5 (o + 2) (15 + j5)) + ((mm5 o 1) * (mm5 (o + 2) (20 + j5)))) % p)) ?_ ?_ ?_ ?_ ?_ ?_ ?_
                                · first | omega | assumption | (intros; omega)
                                · first | omega | assumption | (intros; omega)
                                · intro b q1 q2
                                  by_cases hb : b = j5
                                  · subst hb
                                    rw [zu_s, hfo, hb5 _ (Or.inr (by omega)), hb5 _ (Or.inr (by omega))]
                                  · rw [zu_n (Or.inr (by omega))]; exact ha5 b q1 (by omega)
                                · intro t q
                                  rw [zu_n (Or.inr (by omega))]; exact hb5 t (by omega)
                                · intro t q1 q2
                                  by_cases hb : t = 15 + j5
                                  · subst hb; rw [zu_s]; exact zm_rg (by omega)
                                  · rw [zu_n (Or.inr hb)]; exact hr5 t q1 q2
                                · intro a ha; rw [zu_row ha]; exact hx5 a ha
                                · omega
                          refine lp17 ((5 - 0 : Int)).toNat.succ 0 mm4 ?_ ?_ ?_ ?_ ?_ ?_ ?_
                          · first | omega | assumption | (intros; omega)
                          · first | omega | assumption | (intros; omega)
                          · intros; omega
                          · intros; rfl
                          · first | omega | assumption | (intros; omega)
                          · first | omega | assumption | (intros; omega)
                          · omega
                        · skip
                          have hq1 := hr4 (0 + j4) (by omega) (by omega)
                          have hq2 := hr4 (5 + j4) (by omega) (by omega)
                          have hq3 := zmul_rg (a := mm4 o 1) (b := mm4 (o + 2) (5 + j4)) (A := 9) (B := 31) (by omega) (by omega) (by omega) (by omega)
                          refine wp_aload_n dd_X4_shift_23 rfl ?_
                          refine wp_getR dd_X4_shift_24 gf_X4_15 rfl ho.k (by decide) ho.i ho.c ?_
                          refine wp_iconst dd_X4_shift_27 (zr_lit rfl) ?_
                          refine wp_iload_n dd_X4_shift_28 rfl ?_
                          refine wp_iconst dd_X4_shift_29 (zr_lit rfl) ?_
                          refine wp_iaddC dd_X4_shift_30 (by decide) ?_
                          show zw_Wp l mm_X4_shift (zS L) 31 [some (zR o), some (zI p), some (zI 0), some (zI 0), some (zI j4), none] [zI 1, zI 5, zR (o + 2)] mm4 0 0 Q
                          refine wp_imulC dd_X4_shift_31 (by decide) ?_
                          show zw_Wp l mm_X4_shift (zS L) 32 [some (zR o), some (zI p), some (zI 0), some (zI 0), some (zI j4), none] [zI 5, zR (o + 2)] mm4 0 0 Q
                          refine wp_iload dd_X4_shift_32 rfl ?_
                          refine wp_iaddC dd_X4_shift_34 (by omega) ?_
                          refine wp_iald dd_X4_shift_35 ho.kc ho.ic (by omega) (by omega) ?_
                          refine wp_istore (ls2 := [some (zR o), some (zI p), some (zI 0), some (zI 0), some (zI j4), some (zI (mm4 (o + 2) (5 + j4)))]) dd_X4_shift_36 rfl (by decide) rfl ?_
                          refine wp_aload_n dd_X4_shift_38 rfl ?_
                          refine wp_getR dd_X4_shift_39 gf_X4_15 rfl ho.k (by decide) ho.i ho.c ?_
                          refine wp_iconst dd_X4_shift_42 (zr_lit rfl) ?_
                          refine wp_iload_n dd_X4_shift_43 rfl ?_
                          refine wp_imulC dd_X4_shift_44 (by decide) ?_
                          show zw_Wp l mm_X4_shift (zS L) 45 [some (zR o), some (zI p), some (zI 0), some (zI 0), some (zI j4), some (zI (mm4 (o + 2) (5 + j4)))] [zI 0, zR (o + 2)] mm4 0 0 Q
                          refine wp_iload dd_X4_shift_45 rfl ?_
                          refine wp_iaddC dd_X4_shift_47 (by omega) ?_
                          refine wp_aload_n dd_X4_shift_48 rfl ?_
                          refine wp_getR dd_X4_shift_49 gf_X4_15 rfl ho.k (by decide) ho.i ho.c ?_
                          refine wp_iconst dd_X4_shift_52 (zr_lit rfl) ?_
                          refine wp_iload_n dd_X4_shift_53 rfl ?_
                          refine wp_imulC dd_X4_shift_54 (by decide) ?_
                          show zw_Wp l mm_X4_shift (zS L) 55 [some (zR o), some (zI p), some (zI 0), some (zI 0), some (zI j4), some (zI (mm4 (o + 2) (5 + j4)))] [zI 0, zR (o + 2), zI (0 + j4), zR (o + 2)] mm4 0 0 Q
                          refine wp_iload dd_X4_shift_55 rfl ?_
                          refine wp_iaddC dd_X4_shift_57 (by omega) ?_
                          refine wp_iald dd_X4_shift_58 ho.kc ho.ic (by omega) (by omega) ?_
                          refine wp_aload_n dd_X4_shift_59 rfl ?_
                          refine wp_getZ 1 rfl dd_X4_shift_60 gf_X4_22 rfl ho.k (by decide) ho.i ?_
                          refine wp_iload dd_X4_shift_63 rfl ?_
                          refine wp_imulC dd_X4_shift_65 (by omega) ?_
                          refine wp_iaddC dd_X4_shift_66 (by omega) ?_
                          refine wp_iload_n dd_X4_shift_67 rfl ?_
                          refine wp_iremP dd_X4_shift_68 (by omega) (by omega) ?_
                          refine wp_iast dd_X4_shift_69 ho.kc ho.ic (by omega) (by omega) ?_
                          refine wp_iincC (ls2 := [some (zR o), some (zI p), some (zI 0), some (zI 0), some (zI (j4 + 1)), some (zI (mm4 (o + 2) (5 + j4)))]) dd_X4_shift_70 rfl rfl (by decide) (by omega) rfl ?_
                          refine wp_goto (tgt := 17) dd_X4_shift_73 (by decide) ?_
                          refine wp_ls (zw_sub_of (a := [some (zR o), some (zI p), some (zI 0), some (zI 0), some (zI (j4 + 1)), none]) (And.intro rfl (And.intro rfl (And.intro rfl (And.intro rfl (And.intro rfl (trivial))))))) ?_
                          refine ih17 (j4 + 1) (zu mm4 (o + 2) (0 + j4) (((mm4 (o + 2) (0 + j4)) + ((mm4 o 1) * (mm4 (o + 2) (5 + j4)))) % p)) ?_ ?_ ?_ ?_ ?_ ?_ ?_
                          · first | omega | assumption | (intros; omega)
                          · first | omega | assumption | (intros; omega)
                          · intro b q1 q2
                            by_cases hb : b = j4
                            · subst hb
                              rw [zu_s, hfo, hb4 _ (Or.inr (by omega)), hb4 _ (Or.inr (by omega))]
                            · rw [zu_n (Or.inr (by omega))]; exact ha4 b q1 (by omega)
                          · intro t q
                            rw [zu_n (Or.inr (by omega))]; exact hb4 t (by omega)
                          · intro t q1 q2
                            by_cases hb : t = 0 + j4
                            · subst hb; rw [zu_s]; exact zm_rg (by omega)
                            · rw [zu_n (Or.inr hb)]; exact hr4 t q1 q2
                          · intro a ha; rw [zu_row ha]; exact hx4 a ha
                          · omega
                    refine lp17 ((5 - 0 : Int)).toNat.succ 0 mm3 ?_ ?_ ?_ ?_ ?_ ?_ ?_
                    · first | omega | assumption | (intros; omega)
                    · first | omega | assumption | (intros; omega)
                    · intros; omega
                    · intros; rfl
                    · first | omega | assumption | (intros; omega)
                    · first | omega | assumption | (intros; omega)
                    · omega
                  · skip
                    have hq1 := hr3 (5 + j3) (by omega) (by omega)
                    have hq2 := hr3 (10 + j3) (by omega) (by omega)
                    have hq3 := zmul_rg (a := mm3 o 1) (b := mm3 (o + 2) (10 + j3)) (A := 9) (B := 31) (by omega) (by omega) (by omega) (by omega)
                    refine wp_aload_n dd_X4_shift_23 rfl ?_
                    refine wp_getR dd_X4_shift_24 gf_X4_15 rfl ho.k (by decide) ho.i ho.c ?_
                    refine wp_iconst dd_X4_shift_27 (zr_lit rfl) ?_
                    refine wp_iload_n dd_X4_shift_28 rfl ?_
                    refine wp_iconst dd_X4_shift_29 (zr_lit rfl) ?_
                    refine wp_iaddC dd_X4_shift_30 (by decide) ?_
                    show zw_Wp l mm_X4_shift (zS L) 31 [some (zR o), some (zI p), some (zI 0), some (zI 1), some (zI j3), none] [zI 2, zI 5, zR (o + 2)] mm3 0 0 Q
                    refine wp_imulC dd_X4_shift_31 (by decide) ?_
                    show zw_Wp l mm_X4_shift (zS L) 32 [some (zR o), some (zI p), some (zI 0), some (zI 1), some (zI j3), none] [zI 10, zR (o + 2)] mm3 0 0 Q
                    refine wp_iload dd_X4_shift_32 rfl ?_
                    refine wp_iaddC dd_X4_shift_34 (by omega) ?_
                    refine wp_iald dd_X4_shift_35 ho.kc ho.ic (by omega) (by omega) ?_
                    refine wp_istore (ls2 := [some (zR o), some (zI p), some (zI 0), some (zI 1), some (zI j3), some (zI (mm3 (o + 2) (10 + j3)))]) dd_X4_shift_36 rfl (by decide) rfl ?_
                    refine wp_aload_n dd_X4_shift_38 rfl ?_
                    refine wp_getR dd_X4_shift_39 gf_X4_15 rfl ho.k (by decide) ho.i ho.c ?_
                    refine wp_iconst dd_X4_shift_42 (zr_lit rfl) ?_
                    refine wp_iload_n dd_X4_shift_43 rfl ?_
                    refine wp_imulC dd_X4_shift_44 (by decide) ?_
                    show zw_Wp l mm_X4_shift (zS L) 45 [some (zR o), some (zI p), some (zI 0), some (zI 1), some (zI j3), some (zI (mm3 (o + 2) (10 + j3)))] [zI 5, zR (o + 2)] mm3 0 0 Q
                    refine wp_iload dd_X4_shift_45 rfl ?_
                    refine wp_iaddC dd_X4_shift_47 (by omega) ?_
                    refine wp_aload_n dd_X4_shift_48 rfl ?_
                    refine wp_getR dd_X4_shift_49 gf_X4_15 rfl ho.k (by decide) ho.i ho.c ?_
                    refine wp_iconst dd_X4_shift_52 (zr_lit rfl) ?_
                    refine wp_iload_n dd_X4_shift_53 rfl ?_
                    refine wp_imulC dd_X4_shift_54 (by decide) ?_
                    show zw_Wp l mm_X4_shift (zS L) 55 [some (zR o), some (zI p), some (zI 0), some (zI 1), some (zI j3), some (zI (mm3 (o + 2) (10 + j3)))] [zI 5, zR (o + 2), zI (5 + j3), zR (o + 2)] mm3 0 0 Q
                    refine wp_iload dd_X4_shift_55 rfl ?_
                    refine wp_iaddC dd_X4_shift_57 (by omega) ?_
                    refine wp_iald dd_X4_shift_58 ho.kc ho.ic (by omega) (by omega) ?_
                    refine wp_aload_n dd_X4_shift_59 rfl ?_
                    refine wp_getZ 1 rfl dd_X4_shift_60 gf_X4_22 rfl ho.k (by decide) ho.i ?_
                    refine wp_iload dd_X4_shift_63 rfl ?_
                    refine wp_imulC dd_X4_shift_65 (by omega) ?_
                    refine wp_iaddC dd_X4_shift_66 (by omega) ?_
                    refine wp_iload_n dd_X4_shift_67 rfl ?_
                    refine wp_iremP dd_X4_shift_68 (by omega) (by omega) ?_
                    refine wp_iast dd_X4_shift_69 ho.kc ho.ic (by omega) (by omega) ?_
                    refine wp_iincC (ls2 := [some (zR o), some (zI p), some (zI 0), some (zI 1), some (zI (j3 + 1)), some (zI (mm3 (o + 2) (10 + j3)))]) dd_X4_shift_70 rfl rfl (by decide) (by omega) rfl ?_
                    refine wp_goto (tgt := 17) dd_X4_shift_73 (by decide) ?_
                    refine wp_ls (zw_sub_of (a := [some (zR o), some (zI p), some (zI 0), some (zI 1), some (zI (j3 + 1)), none]) (And.intro rfl (And.intro rfl (And.intro rfl (And.intro rfl (And.intro rfl (trivial))))))) ?_
                    refine ih17 (j3 + 1) (zu mm3 (o + 2) (5 + j3) (((mm3 (o + 2) (5 + j3)) + ((mm3 o 1) * (mm3 (o + 2) (10 + j3)))) % p)) ?_ ?_ ?_ ?_ ?_ ?_ ?_
                    · first | omega | assumption | (intros; omega)
                    · first | omega | assumption | (intros; omega)
                    · intro b q1 q2
                      by_cases hb : b = j3
                      · subst hb
                        rw [zu_s, hfo, hb3 _ (Or.inr (by omega)), hb3 _ (Or.inr (by omega))]
                      · rw [zu_n (Or.inr (by omega))]; exact ha3 b q1 (by omega)
                    · intro t q
                      rw [zu_n (Or.inr (by omega))]; exact hb3 t (by omega)
                    · intro t q1 q2
                      by_cases hb : t = 5 + j3
                      · subst hb; rw [zu_s]; exact zm_rg (by omega)
                      · rw [zu_n (Or.inr hb)]; exact hr3 t q1 q2
                    · intro a ha; rw [zu_row ha]; exact hx3 a ha
                    · omega
              refine lp17 ((5 - 0 : Int)).toNat.succ 0 mm2 ?_ ?_ ?_ ?_ ?_ ?_ ?_
              · first | omega | assumption | (intros; omega)
              · first | omega | assumption | (intros; omega)
              · intros; omega
              · intros; rfl
              · first | omega | assumption | (intros; omega)
              · first | omega | assumption | (intros; omega)
              · omega
            · skip
              have hq1 := hr2 (10 + j2) (by omega) (by omega)
              have hq2 := hr2 (15 + j2) (by omega) (by omega)
              have hq3 := zmul_rg (a := mm2 o 1) (b := mm2 (o + 2) (15 + j2)) (A := 9) (B := 31) (by omega) (by omega) (by omega) (by omega)
              refine wp_aload_n dd_X4_shift_23 rfl ?_
              refine wp_getR dd_X4_shift_24 gf_X4_15 rfl ho.k (by decide) ho.i ho.c ?_
              refine wp_iconst dd_X4_shift_27 (zr_lit rfl) ?_
              refine wp_iload_n dd_X4_shift_28 rfl ?_
              refine wp_iconst dd_X4_shift_29 (zr_lit rfl) ?_
              refine wp_iaddC dd_X4_shift_30 (by decide) ?_
              show zw_Wp l mm_X4_shift (zS L) 31 [some (zR o), some (zI p), some (zI 0), some (zI 2), some (zI j2), none] [zI 3, zI 5, zR (o + 2)] mm2 0 0 Q
              refine wp_imulC dd_X4_shift_31 (by decide) ?_
              show zw_Wp l mm_X4_shift (zS L) 32 [some (zR o), some (zI p), some (zI 0), some (zI 2), some (zI j2), none] [zI 15, zR (o + 2)] mm2 0 0 Q
              refine wp_iload dd_X4_shift_32 rfl ?_
              refine wp_iaddC dd_X4_shift_34 (by omega) ?_
              refine wp_iald dd_X4_shift_35 ho.kc ho.ic (by omega) (by omega) ?_
              refine wp_istore (ls2 := [some (zR o), some (zI p), some (zI 0), some (zI 2), some (zI j2), some (zI (mm2 (o + 2) (15 + j2)))]) dd_X4_shift_36 rfl (by decide) rfl ?_
              refine wp_aload_n dd_X4_shift_38 rfl ?_
              refine wp_getR dd_X4_shift_39 gf_X4_15 rfl ho.k (by decide) ho.i ho.c ?_
              refine wp_iconst dd_X4_shift_42 (zr_lit rfl) ?_
              refine wp_iload_n dd_X4_shift_43 rfl ?_
              refine wp_imulC dd_X4_shift_44 (by decide) ?_
              show zw_Wp l mm_X4_shift (zS L) 45 [some (zR o), some (zI p), some (zI 0), some (zI 2), some (zI j2), some (zI (mm2 (o + 2) (15 + j2)))] [zI 10, zR (o + 2)] mm2 0 0 Q
              refine wp_iload dd_X4_shift_45 rfl ?_
              refine wp_iaddC dd_X4_shift_47 (by omega) ?_
              refine wp_aload_n dd_X4_shift_48 rfl ?_
              refine wp_getR dd_X4_shift_49 gf_X4_15 rfl ho.k (by decide) ho.i ho.c ?_
              refine wp_iconst dd_X4_shift_52 (zr_lit rfl) ?_
              refine wp_iload_n dd_X4_shift_53 rfl ?_
              refine wp_imulC dd_X4_shift_54 (by decide) ?_
              show zw_Wp l mm_X4_shift (zS L) 55 [some (zR o), some (zI p), some (zI 0), some (zI 2), some (zI j2), some (zI (mm2 (o + 2) (15 + j2)))] [zI 10, zR (o + 2), zI (10 + j2), zR (o + 2)] mm2 0 0 Q
              refine wp_iload dd_X4_shift_55 rfl ?_
              refine wp_iaddC dd_X4_shift_57 (by omega) ?_
              refine wp_iald dd_X4_shift_58 ho.kc ho.ic (by omega) (by omega) ?_
              refine wp_aload_n dd_X4_shift_59 rfl ?_
              refine wp_getZ 1 rfl dd_X4_shift_60 gf_X4_22 rfl ho.k (by decide) ho.i ?_
              refine wp_iload dd_X4_shift_63 rfl ?_
              refine wp_imulC dd_X4_shift_65 (by omega) ?_
              refine wp_iaddC dd_X4_shift_66 (by omega) ?_
              refine wp_iload_n dd_X4_shift_67 rfl ?_
              refine wp_iremP dd_X4_shift_68 (by omega) (by omega) ?_
              refine wp_iast dd_X4_shift_69 ho.kc ho.ic (by omega) (by omega) ?_
              refine wp_iincC (ls2 := [some (zR o), some (zI p), some (zI 0), some (zI 2), some (zI (j2 + 1)), some (zI (mm2 (o + 2) (15 + j2)))]) dd_X4_shift_70 rfl rfl (by decide) (by omega) rfl ?_
              refine wp_goto (tgt := 17) dd_X4_shift_73 (by decide) ?_
              refine wp_ls (zw_sub_of (a := [some (zR o), some (zI p), some (zI 0), some (zI 2), some (zI (j2 + 1)), none]) (And.intro rfl (And.intro rfl (And.intro rfl (And.intro rfl (And.intro rfl (trivial))))))) ?_
              refine ih17 (j2 + 1) (zu mm2 (o + 2) (10 + j2) (((mm2 (o + 2) (10 + j2)) + ((mm2 o 1) * (mm2 (o + 2) (15 + j2)))) % p)) ?_ ?_ ?_ ?_ ?_ ?_ ?_
              · first | omega | assumption | (intros; omega)
              · first | omega | assumption | (intros; omega)
              · intro b q1 q2
                by_cases hb : b = j2
                · subst hb
                  rw [zu_s, hfo, hb2 _ (Or.inr (by omega)), hb2 _ (Or.inr (by omega))]
                · rw [zu_n (Or.inr (by omega))]; exact ha2 b q1 (by omega)
              · intro t q
                rw [zu_n (Or.inr (by omega))]; exact hb2 t (by omega)
              · intro t q1 q2
                by_cases hb : t = 10 + j2
                · subst hb; rw [zu_s]; exact zm_rg (by omega)
                · rw [zu_n (Or.inr hb)]; exact hr2 t q1 q2
              · intro a ha; rw [zu_row ha]; exact hx2 a ha
              · omega
        refine lp17 ((5 - 0 : Int)).toNat.succ 0 mm1 ?_ ?_ ?_ ?_ ?_ ?_ ?_
        · first | omega | assumption | (intros; omega)
        · first | omega | assumption | (intros; omega)
        · intros; omega
        · intros; rfl
        · first | omega | assumption | (intros; omega)
        · first | omega | assumption | (intros; omega)
        · omega
      · skip
        have hq1 := hr1 (15 + j1) (by omega) (by omega)
        have hq2 := hr1 (20 + j1) (by omega) (by omega)
        have hq3 := zmul_rg (a := mm1 o 1) (b := mm1 (o + 2) (20 + j1)) (A := 9) (B := 31) (by omega) (by omega) (by omega) (by omega)
        refine wp_aload_n dd_X4_shift_23 rfl ?_
        refine wp_getR dd_X4_shift_24 gf_X4_15 rfl ho.k (by decide) ho.i ho.c ?_
        refine wp_iconst dd_X4_shift_27 (zr_lit rfl) ?_
        refine wp_iload_n dd_X4_shift_28 rfl ?_
        refine wp_iconst dd_X4_shift_29 (zr_lit rfl) ?_
        refine wp_iaddC dd_X4_shift_30 (by decide) ?_
        show zw_Wp l mm_X4_shift (zS L) 31 [some (zR o), some (zI p), some (zI 0), some (zI 3), some (zI j1), none] [zI 4, zI 5, zR (o + 2)] mm1 0 0 Q
        refine wp_imulC dd_X4_shift_31 (by decide) ?_
        show zw_Wp l mm_X4_shift (zS L) 32 [some (zR o), some (zI p), some (zI 0), some (zI 3), some (zI j1), none] [zI 20, zR (o + 2)] mm1 0 0 Q
        refine wp_iload dd_X4_shift_32 rfl ?_
        refine wp_iaddC dd_X4_shift_34 (by omega) ?_
        refine wp_iald dd_X4_shift_35 ho.kc ho.ic (by omega) (by omega) ?_
        refine wp_istore (ls2 := [some (zR o), some (zI p), some (zI 0), some (zI 3), some (zI j1), some (zI (mm1 (o + 2) (20 + j1)))]) dd_X4_shift_36 rfl (by decide) rfl ?_
        refine wp_aload_n dd_X4_shift_38 rfl ?_
        refine wp_getR dd_X4_shift_39 gf_X4_15 rfl ho.k (by decide) ho.i ho.c ?_
        refine wp_iconst dd_X4_shift_42 (zr_lit rfl) ?_
        refine wp_iload_n dd_X4_shift_43 rfl ?_
        refine wp_imulC dd_X4_shift_44 (by decide) ?_
        show zw_Wp l mm_X4_shift (zS L) 45 [some (zR o), some (zI p), some (zI 0), some (zI 3), some (zI j1), some (zI (mm1 (o + 2) (20 + j1)))] [zI 15, zR (o + 2)] mm1 0 0 Q
        refine wp_iload dd_X4_shift_45 rfl ?_
        refine wp_iaddC dd_X4_shift_47 (by omega) ?_
        refine wp_aload_n dd_X4_shift_48 rfl ?_
        refine wp_getR dd_X4_shift_49 gf_X4_15 rfl ho.k (by decide) ho.i ho.c ?_
        refine wp_iconst dd_X4_shift_52 (zr_lit rfl) ?_
        refine wp_iload_n dd_X4_shift_53 rfl ?_
        refine wp_imulC dd_X4_shift_54 (by decide) ?_
        show zw_Wp l mm_X4_shift (zS L) 55 [some (zR o), some (zI p), some (zI 0), some (zI 3), some (zI j1), some (zI (mm1 (o + 2) (20 + j1)))] [zI 15, zR (o + 2), zI (15 + j1), zR (o + 2)] mm1 0 0 Q
        refine wp_iload dd_X4_shift_55 rfl ?_
        refine wp_iaddC dd_X4_shift_57 (by omega) ?_
        refine wp_iald dd_X4_shift_58 ho.kc ho.ic (by omega) (by omega) ?_
        refine wp_aload_n dd_X4_shift_59 rfl ?_
        refine wp_getZ 1 rfl dd_X4_shift_60 gf_X4_22 rfl ho.k (by decide) ho.i ?_
        refine wp_iload dd_X4_shift_63 rfl ?_
        refine wp_imulC dd_X4_shift_65 (by omega) ?_
        refine wp_iaddC dd_X4_shift_66 (by omega) ?_
        refine wp_iload_n dd_X4_shift_67 rfl ?_
        refine wp_iremP dd_X4_shift_68 (by omega) (by omega) ?_
        refine wp_iast dd_X4_shift_69 ho.kc ho.ic (by omega) (by omega) ?_
        refine wp_iincC (ls2 := [some (zR o), some (zI p), some (zI 0), some (zI 3), some (zI (j1 + 1)), some (zI (mm1 (o + 2) (20 + j1)))]) dd_X4_shift_70 rfl rfl (by decide) (by omega) rfl ?_
        refine wp_goto (tgt := 17) dd_X4_shift_73 (by decide) ?_
        refine wp_ls (zw_sub_of (a := [some (zR o), some (zI p), some (zI 0), some (zI 3), some (zI (j1 + 1)), none]) (And.intro rfl (And.intro rfl (And.intro rfl (And.intro rfl (And.intro rfl (trivial))))))) ?_
        refine ih17 (j1 + 1) (zu mm1 (o + 2) (15 + j1) (((mm1 (o + 2) (15 + j1)) + ((mm1 o 1) * (mm1 (o + 2) (20 + j1)))) % p)) ?_ ?_ ?_ ?_ ?_ ?_ ?_
        · first | omega | assumption | (intros; omega)
        · first | omega | assumption | (intros; omega)
        · intro b q1 q2
          by_cases hb : b = j1
          · subst hb
            rw [zu_s, hfo, hb1 _ (Or.inr (by omega)), hb1 _ (Or.inr (by omega))]
          · rw [zu_n (Or.inr (by omega))]; exact ha1 b q1 (by omega)
        · intro t q
          rw [zu_n (Or.inr (by omega))]; exact hb1 t (by omega)
        · intro t q1 q2
          by_cases hb : t = 15 + j1
          · subst hb; rw [zu_s]; exact zm_rg (by omega)
          · rw [zu_n (Or.inr hb)]; exact hr1 t q1 q2
        · intro a ha; rw [zu_row ha]; exact hx1 a ha
        · omega
  refine lp17 ((5 - 0 : Int)).toNat.succ 0 mem ?_ ?_ ?_ ?_ ?_ ?_ ?_
  · first | omega | assumption | (intros; omega)
  · first | omega | assumption | (intros; omega)
  · intros; omega
  · intros; rfl
  · first | omega | assumption | (intros; omega)
  · intros; rfl
  · omega


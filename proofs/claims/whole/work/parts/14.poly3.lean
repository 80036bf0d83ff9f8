/-! ===== what a kind makes of told numbers ===== -/
def zev (t : Int → Int) (i j : Int) : Int := if i % 2 = 0 then t (5 * i + j) else 0
def zbk (kd fg p : Int) (t : Int → Int) (i j : Int) : Int := if kd = 1 then zev t i j else if kd = 2 then t (5 * j + i) else if kd = 4 then (if i = 4 then 0 else (i + 1) * zev t (i + 1) j % p) else if kd = 5 then t (5 * j + i) * (fg ^ j.toNat % p) % p else t (5 * i + j)
def zsf (f p : Int) (u : Int → Int) (i : Int) : Int := if i = 0 then (u 0 + f * u 1 + f * f * u 2 + f * f * f * u 3 + f * f * f * f * u 4) % p else if i = 1 then (u 1 + 2 * (f * u 2) + 3 * (f * f * u 3) + 4 * (f * f * f * u 4)) % p else if i = 2 then (u 2 + 3 * (f * u 3) + 6 * (f * f * u 4)) % p else if i = 3 then (u 3 + 4 * (f * u 4)) % p else u 4 % p
def zcf (kd fg p : Int) (t : Int → Int) (i j : Int) : Int := if kd = 3 then zsf fg p (fun k => t (5 * k + j)) i else zbk kd fg p t i j
theorem zev_rg {t : Int → Int} {p i j : Int} (hp : 0 < p) (hi : 0 ≤ i ∧ i ≤ 4) (hj : 0 ≤ j ∧ j ≤ 4) (h : ∀ x : Int, 0 ≤ x → x < 25 → 0 ≤ t x ∧ t x < p) : 0 ≤ zev t i j ∧ zev t i j < p := by
  unfold zev
  split
  · exact h _ (by omega) (by omega)
  · omega
theorem zbk_rg {kd fg p i j : Int} {t : Int → Int} (hp : 0 < p) (hi : 0 ≤ i ∧ i ≤ 4) (hj : 0 ≤ j ∧ j ≤ 4) (h : ∀ x : Int, 0 ≤ x → x < 25 → 0 ≤ t x ∧ t x < p) : 0 ≤ zbk kd fg p t i j ∧ zbk kd fg p t i j < p := by
  unfold zbk
  split
  · exact zev_rg hp hi hj h
  · split
    · exact h _ (by omega) (by omega)
    · split
      · split
        · omega
        · exact zm_rg hp
      · split
        · exact zm_rg hp
        · exact h _ (by omega) (by omega)
theorem zsf_rg {f p i : Int} {u : Int → Int} (hp : 0 < p) : 0 ≤ zsf f p u i ∧ zsf f p u i < p := by
  unfold zsf
  repeat' split
  all_goals exact zm_rg hp
theorem zcf_rg {kd fg p i j : Int} {t : Int → Int} (hp : 0 < p) (hi : 0 ≤ i ∧ i ≤ 4) (hj : 0 ≤ j ∧ j ≤ 4) (h : ∀ x : Int, 0 ≤ x → x < 25 → 0 ≤ t x ∧ t x < p) : 0 ≤ zcf kd fg p t i j ∧ zcf kd fg p t i j < p := by
  unfold zcf
  split
  · exact zsf_rg hp
  · exact zbk_rg hp hi hj h
theorem zsf_congr {f p i : Int} {u v : Int → Int} (h : ∀ k : Int, 0 ≤ k → k ≤ 4 → u k = v k) : zsf f p u i = zsf f p v i := by
  unfold zsf
  rw [h 0 (by omega) (by omega), h 1 (by omega) (by omega), h 2 (by omega) (by omega), h 3 (by omega) (by omega), h 4 (by omega) (by omega)]
theorem zcf_congr {kd fg p i j : Int} {t u : Int → Int} (hi : 0 ≤ i ∧ i ≤ 4) (hj : 0 ≤ j ∧ j ≤ 4) (h : ∀ x : Int, 0 ≤ x → x < 25 → t x = u x) : zcf kd fg p t i j = zcf kd fg p u i j := by
  unfold zcf
  rw [zsf_congr (v := fun k => u (5 * k + j)) (fun k h1 h2 => h _ (by omega) (by omega))]
  have e1 : t (5 * j + i) = u (5 * j + i) := h _ (by omega) (by omega)
  have e2 : t (5 * i + j) = u (5 * i + j) := h _ (by omega) (by omega)
  have e3 : i ≠ 4 → t (5 * (i + 1) + j) = u (5 * (i + 1) + j) := fun q => h _ (by omega) (by omega)
  by_cases hk : kd = 3
  · rw [if_pos hk, if_pos hk]
  · rw [if_neg hk, if_neg hk]
    unfold zbk zev
    by_cases h4 : i = 4
    · simp only [e1, e2, if_pos h4]
    · simp only [e1, e2, e3 h4, if_neg h4]
theorem zsf_st (x y f p : Int) : (x % p + f * (y % p)) % p = (x + f * y) % p := by rw [Int.emod_add_emod, Int.add_emod, zm_mul2, ← Int.add_emod]
theorem zsf_st0 (x y f p : Int) : (x + f * (y % p)) % p = (x + f * y) % p := by rw [Int.add_emod, zm_mul2, ← Int.add_emod]
theorem zsf_st1 (x y f p : Int) : (x % p + f * y) % p = (x + f * y) % p := by rw [Int.emod_add_emod]
theorem zsf_pure {f p u0 u1 u2 u3 u4 a3 a2 a1 a0 b3 b2 b1 c3 c2 d3 : Int} (h1 : a3 = (u3 + f * u4) % p) (h2 : a2 = (u2 + f * a3) % p) (h3 : a1 = (u1 + f * a2) % p) (h4 : a0 = (u0 + f * a1) % p) (h5 : b3 = (a3 + f * u4) % p) (h6 : b2 = (a2 + f * b3) % p) (h7 : b1 = (a1 + f * b2) % p) (h8 : c3 = (b3 + f * u4) % p) (h9 : c2 = (b2 + f * c3) % p) (h10 : d3 = (c3 + f * u4) % p) :
    a0 = (u0 + f * u1 + f * f * u2 + f * f * f * u3 + f * f * f * f * u4) % p ∧ b1 = (u1 + 2 * (f * u2) + 3 * (f * f * u3) + 4 * (f * f * f * u4)) % p ∧ c2 = (u2 + 3 * (f * u3) + 6 * (f * f * u4)) % p ∧ d3 = (u3 + 4 * (f * u4)) % p := by
  rw [h1, zsf_st0] at h2
  rw [h2, zsf_st0] at h3
  rw [h3, zsf_st0] at h4
  rw [h1, zsf_st1] at h5
  rw [h2, h5, zsf_st] at h6
  rw [h3, h6, zsf_st] at h7
  rw [h5, zsf_st1] at h8
  rw [h6, h8, zsf_st] at h9
  rw [h8, zsf_st1] at h10
  refine ⟨?_, ?_, ?_, ?_⟩
  · rw [h4]; congr 1; grind
  · rw [h7]; congr 1; grind
  · rw [h9]; congr 1; grind
  · rw [h10]; congr 1; grind
/-- a polynomial as its cells must hold it -/
def zPI (mem : zMem) (o : Nat) (p kd fg : Int) (t : Int → Int) : Prop := mem o 0 = kd ∧ mem o 1 = fg ∧ ((0 ≤ kd ∧ kd ≤ 5) ∧ 0 ≤ fg ∧ fg ≤ 9) ∧ (∀ x : Int, 0 ≤ x → x < 25 → mem (o + 1) x = t x ∧ 0 ≤ t x ∧ t x < p) ∧ ∀ i j : Int, 0 ≤ i ∧ i ≤ 4 → 0 ≤ j ∧ j ≤ 4 → mem (o + 2) (5 * i + j) = zcf kd fg p t i j

set_option maxRecDepth 100000 in
set_option maxHeartbeats 4000000 in
theorem sp_X4_even {l : Launch} {L : Nat} {mem : zMem} {Q : zQ}  (o : Nat) (i : Int) (j : Int) (ho : zP o) (hi : 0 ≤ i ∧ i ≤ 4) (hj : 0 ≤ j ∧ j ≤ 4) (k : Q (some (zI (zev (mem (o + 1)) i j))) (zS L) mem) : zw_Ok l mm_X4_even [zR o, zI i, zI j] (zS L) mem Q := by
  refine zw_okA (fun hA => ?_)
  have rg_i : -2147483648 ≤ i ∧ i < 2147483648 := hA.2.1
  have rg_j : -2147483648 ≤ j ∧ j < 2147483648 := hA.2.2.1
  refine zw_enter (by decide) (Nat.le_of_ble_eq_true rfl) rfl ?_
  show zw_Wp l mm_X4_even (zS L) 0 [some (zR o), some (zI i), some (zI j)] [] mem 0 0 Q
  refine wp_iload_n dd_X4_even_0 rfl ?_
  refine wp_iconst dd_X4_even_1 (zr_lit rfl) ?_
  refine wp_iremP dd_X4_even_2 (by omega) (by omega) ?_
  refine wp_if_ne (tgt := 19) dd_X4_even_3 (by decide) (fun c3_1 => ?_) (fun c3_1 => ?_)
  · skip
    refine wp_iconst dd_X4_even_19 (zr_lit rfl) ?_
    refine wp_ireturn (st := []) dd_X4_even_20 rfl ?_
    refine zq_I ?_ ?_ k
    · unfold zev; first | rw [if_pos (by omega)] | rw [if_neg (by omega)]
    · rfl
  · skip
    refine wp_aload_n dd_X4_even_6 rfl ?_
    refine wp_getR dd_X4_even_7 gf_X4_9 rfl ho.k (by decide) ho.i ho.t ?_
    refine wp_iconst dd_X4_even_10 (zr_lit rfl) ?_
    refine wp_iload_n dd_X4_even_11 rfl ?_
    refine wp_imulC dd_X4_even_12 (by omega) ?_
    refine wp_iload_n dd_X4_even_13 rfl ?_
    refine wp_iaddC dd_X4_even_14 (by omega) ?_
    refine wp_iald dd_X4_even_15 ho.kt ho.it (by omega) (by omega) ?_
    refine wp_goto (tgt := 20) dd_X4_even_16 (by decide) ?_
    refine wp_ireturn (st := []) dd_X4_even_20 rfl ?_
    refine zq_I ?_ ?_ k
    · unfold zev; first | rw [if_pos (by omega)] | rw [if_neg (by omega)]
    · rfl

set_option maxRecDepth 100000 in
set_option maxHeartbeats 4000000 in
theorem sp_X4_byKind {l : Launch} {L : Nat} {mem : zMem} {Q : zQ}  (o : Nat) (i : Int) (j : Int) (p : Int) (ho : zP o) (hi : 0 ≤ i ∧ i ≤ 4) (hj : 0 ≤ j ∧ j ≤ 4) (hp : 2 ≤ p ∧ p ≤ 31) (hfg : 0 ≤ mem o 1 ∧ mem o 1 ≤ 9) (ht : ∀ x : Int, 0 ≤ x → x < 25 → 0 ≤ mem (o + 1) x ∧ mem (o + 1) x < p) (k : Q (some (zI (zbk (mem o 0) (mem o 1) p (mem (o + 1)) i j))) (zS L) mem) : zw_Ok l mm_X4_byKind [zR o, zI i, zI j, zI p] (zS L) mem Q := by
  refine zw_okA (fun hA => ?_)
  have rg_i : -2147483648 ≤ i ∧ i < 2147483648 := hA.2.1
  have rg_j : -2147483648 ≤ j ∧ j < 2147483648 := hA.2.2.1
  have rg_p : -2147483648 ≤ p ∧ p < 2147483648 := hA.2.2.2.1
  refine zw_enter (by decide) (Nat.le_of_ble_eq_true rfl) rfl ?_
  show zw_Wp l mm_X4_byKind (zS L) 0 [some (zR o), some (zI i), some (zI j), some (zI p)] [] mem 0 0 Q
  refine wp_aload_n dd_X4_byKind_0 rfl ?_
  refine wp_getZ 0 rfl dd_X4_byKind_1 gf_X4_18 rfl ho.k (by decide) ho.i ?_
  by_cases w4_1c0 : (mem o 0) = 1
  · skip
    refine wp_tabIn (tgt := 40) (off := 36) dd_X4_byKind_4 (by omega) (by omega) (by rw [w4_1c0]; rfl) (by decide) ?_
    refine wp_aload_n dd_X4_byKind_40 rfl ?_
    refine wp_iload_n dd_X4_byKind_41 rfl ?_
    refine wp_iload_n dd_X4_byKind_42 rfl ?_
    refine wp_callV (M' := mm_X4_even) (As := [zI i, zI j]) (rest := []) dd_X4_byKind_43 lk_X4_54 mV_X4_even ho.k ho.i ⟨_, _, rfl⟩ rfl (by decide) (by decide) (Nat.le_of_ble_eq_true rfl) rfl (sp_X4_even  o i j (by first | assumption | omega) (by first | assumption | omega) (by first | assumption | omega) ?_)
    show zw_Wp l mm_X4_byKind (zS L) 46 [some (zR o), some (zI i), some (zI j), some (zI p)] [zI (zev (mem (o + 1)) i j)] mem 0 0 Q
    refine wp_ireturn (st := []) dd_X4_byKind_46 rfl ?_
    refine zq_I ?_ ?_ k
    · unfold zbk; repeat first | rw [if_pos (by omega)] | rw [if_neg (by omega)]
    · rfl
  by_cases w4_1c1 : (mem o 0) = 2
  · skip
    refine wp_tabIn (tgt := 47) (off := 43) dd_X4_byKind_4 (by omega) (by omega) (by rw [w4_1c1]; rfl) (by decide) ?_
    refine wp_aload_n dd_X4_byKind_47 rfl ?_
    refine wp_getR dd_X4_byKind_48 gf_X4_9 rfl ho.k (by decide) ho.i ho.t ?_
    refine wp_iconst dd_X4_byKind_51 (zr_lit rfl) ?_
    refine wp_iload_n dd_X4_byKind_52 rfl ?_
    refine wp_imulC dd_X4_byKind_53 (by omega) ?_
    refine wp_iload_n dd_X4_byKind_54 rfl ?_
    refine wp_iaddC dd_X4_byKind_55 (by omega) ?_
    refine wp_iald dd_X4_byKind_56 ho.kt ho.it (by omega) (by omega) ?_
    refine wp_ireturn (st := []) dd_X4_byKind_57 rfl ?_
    refine zq_I ?_ ?_ k
    · unfold zbk; repeat first | rw [if_pos (by omega)] | rw [if_neg (by omega)]
    · rfl
  by_cases w4_1c2 : (mem o 0) = 3
  · skip
    refine wp_tabIn (tgt := 105) (off := 101) dd_X4_byKind_4 (by omega) (by omega) (by rw [w4_1c2]; rfl) (by decide) ?_
    refine wp_aload_n dd_X4_byKind_105 rfl ?_
    refine wp_getR dd_X4_byKind_106 gf_X4_9 rfl ho.k (by decide) ho.i ho.t ?_
    refine wp_iconst dd_X4_byKind_109 (zr_lit rfl) ?_
    refine wp_iload_n dd_X4_byKind_110 rfl ?_
    refine wp_imulC dd_X4_byKind_111 (by omega) ?_
    refine wp_iload_n dd_X4_byKind_112 rfl ?_
    refine wp_iaddC dd_X4_byKind_113 (by omega) ?_
    refine wp_iald dd_X4_byKind_114 ho.kt ho.it (by omega) (by omega) ?_
    refine wp_ireturn (st := []) dd_X4_byKind_115 rfl ?_
    refine zq_I ?_ ?_ k
    · unfold zbk; repeat first | rw [if_pos (by omega)] | rw [if_neg (by omega)]
    · rfl
  by_cases w4_1c3 : (mem o 0) = 4
  · skip
    refine wp_tabIn (tgt := 58) (off := 54) dd_X4_byKind_4 (by omega) (by omega) (by rw [w4_1c3]; rfl) (by decide) ?_
    refine wp_iload_n dd_X4_byKind_58 rfl ?_
    refine wp_iconst dd_X4_byKind_59 (zr_lit rfl) ?_
    refine wp_icmp_ne (tgt := 67) dd_X4_byKind_60 (by decide) (fun c60_2 => ?_) (fun c60_2 => ?_)
    · skip
      refine wp_iload_n dd_X4_byKind_67 rfl ?_
      refine wp_iconst dd_X4_byKind_68 (zr_lit rfl) ?_
      refine wp_iaddC dd_X4_byKind_69 (by omega) ?_
      refine wp_aload_n dd_X4_byKind_70 rfl ?_
      refine wp_iload_n dd_X4_byKind_71 rfl ?_
      refine wp_iconst dd_X4_byKind_72 (zr_lit rfl) ?_
      refine wp_iaddC dd_X4_byKind_73 (by omega) ?_
      refine wp_iload_n dd_X4_byKind_74 rfl ?_
      refine wp_callV (M' := mm_X4_even) (As := [zI (i + 1), zI j]) (rest := [zI (i + 1)]) dd_X4_byKind_75 lk_X4_54 mV_X4_even ho.k ho.i ⟨_, _, rfl⟩ rfl (by decide) (by decide) (Nat.le_of_ble_eq_true rfl) rfl (sp_X4_even  o (i + 1) j (by first | assumption | omega) (by first | assumption | omega) (by first | assumption | omega) ?_)
      show zw_Wp l mm_X4_byKind (zS L) 78 [some (zR o), some (zI i), some (zI j), some (zI p)] [zI (zev (mem (o + 1)) (i + 1) j), zI (i + 1)] mem 0 0 Q
      have hev := zev_rg (t := mem (o + 1)) (p := p) (i := i + 1) (j := j) (by omega) (by omega) hj ht
      have hmv := zmul_rg (a := i + 1) (b := zev (mem (o + 1)) (i + 1) j) (A := 5) (B := 31) (by omega) (by omega) (by omega) (by omega)
      refine wp_imulC dd_X4_byKind_78 (by omega) ?_
      refine wp_iload_n dd_X4_byKind_79 rfl ?_
      refine wp_iremP dd_X4_byKind_80 (by omega) (by omega) ?_
      refine wp_ireturn (st := []) dd_X4_byKind_81 rfl ?_
      refine zq_I ?_ ?_ k
      · unfold zbk; repeat first | rw [if_pos (by omega)] | rw [if_neg (by omega)]
      · rfl
    · skip
      refine wp_iconst dd_X4_byKind_63 (zr_lit rfl) ?_
      refine wp_goto (tgt := 81) dd_X4_byKind_64 (by decide) ?_
      refine wp_ireturn (st := []) dd_X4_byKind_81 rfl ?_
      refine zq_I ?_ ?_ k
      · unfold zbk; repeat first | rw [if_pos (by omega)] | rw [if_neg (by omega)]
      · rfl
  by_cases w4_1c4 : (mem o 0) = 5
  · skip
    refine wp_tabIn (tgt := 82) (off := 78) dd_X4_byKind_4 (by omega) (by omega) (by rw [w4_1c4]; rfl) (by decide) ?_
    refine wp_aload_n dd_X4_byKind_82 rfl ?_
    refine wp_getR dd_X4_byKind_83 gf_X4_9 rfl ho.k (by decide) ho.i ho.t ?_
    refine wp_iconst dd_X4_byKind_86 (zr_lit rfl) ?_
    refine wp_iload_n dd_X4_byKind_87 rfl ?_
    refine wp_imulC dd_X4_byKind_88 (by omega) ?_
    refine wp_iload_n dd_X4_byKind_89 rfl ?_
    refine wp_iaddC dd_X4_byKind_90 (by omega) ?_
    refine wp_iald dd_X4_byKind_91 ho.kt ho.it (by omega) (by omega) ?_
    refine wp_aload_n dd_X4_byKind_92 rfl ?_
    refine wp_getZ 1 rfl dd_X4_byKind_93 gf_X4_22 rfl ho.k (by decide) ho.i ?_
    refine wp_iload_n dd_X4_byKind_96 rfl ?_
    refine wp_iload_n dd_X4_byKind_97 rfl ?_
    refine wp_callS (M' := mm_X2_power) (As := [zI (mem o 1), zI j, zI p]) (rest := [zI (mem (o + 1) ((5 * j) + i))]) dd_X4_byKind_98 lk_X4_57 mS_X2_power rfl (by decide) (by decide) (Nat.le_of_ble_eq_true rfl) rfl (sp_X2_power  (mem o 1) j p (by first | assumption | omega) (by first | assumption | omega) (by first | assumption | omega) ?_)
    show zw_Wp l mm_X4_byKind (zS L) 101 [some (zR o), some (zI i), some (zI j), some (zI p)] [zI ((mem o 1) ^ j.toNat % p), zI (mem (o + 1) ((5 * j) + i))] mem 0 0 Q
    have hpw := zm_rg (a := mem o 1 ^ j.toNat) (p := p) (by omega)
    have htj := ht (5 * j + i) (by omega) (by omega)
    have hmv := zmul_rg (a := mem (o + 1) (5 * j + i)) (b := mem o 1 ^ j.toNat % p) (A := 31) (B := 31) (by omega) (by omega) (by omega) (by omega)
    refine wp_imulC dd_X4_byKind_101 (by omega) ?_
    refine wp_iload_n dd_X4_byKind_102 rfl ?_
    refine wp_iremP dd_X4_byKind_103 (by omega) (by omega) ?_
    refine wp_ireturn (st := []) dd_X4_byKind_104 rfl ?_
    refine zq_I ?_ ?_ k
    · unfold zbk; repeat first | rw [if_pos (by omega)] | rw [if_neg (by omega)]
    · rfl
  refine wp_tabOut (tgt := 105) dd_X4_byKind_4 (by omega) (by decide) ?_
  refine wp_aload_n dd_X4_byKind_105 rfl ?_
  refine wp_getR dd_X4_byKind_106 gf_X4_9 rfl ho.k (by decide) ho.i ho.t ?_
  refine wp_iconst dd_X4_byKind_109 (zr_lit rfl) ?_
  refine wp_iload_n dd_X4_byKind_110 rfl ?_
  refine wp_imulC dd_X4_byKind_111 (by omega) ?_
  refine wp_iload_n dd_X4_byKind_112 rfl ?_
  refine wp_iaddC dd_X4_byKind_113 (by omega) ?_
  refine wp_iald dd_X4_byKind_114 ho.kt ho.it (by omega) (by omega) ?_
  refine wp_ireturn (st := []) dd_X4_byKind_115 rfl ?_
  refine zq_I ?_ ?_ k
  · unfold zbk; repeat first | rw [if_pos (by omega)] | rw [if_neg (by omega)]
  · rfl

set_option maxRecDepth 100000 in
set_option maxHeartbeats 4000000 in
theorem sp_X4_shift {l : Launch} {L : Nat} {mem : zMem} {Q : zQ}  (o : Nat) (p : Int) (ho : zP o) (hp : 2 ≤ p ∧ p ≤ 31) (hfg : 0 ≤ mem o 1 ∧ mem o 1 ≤ 9) (hc : ∀ t : Int, 0 ≤ t → t < 25 → 0 ≤ mem (o + 2) t ∧ mem (o + 2) t < p) (k : ∀ (mem2 : zMem), (∀ i j : Int, 0 ≤ i ∧ i ≤ 4 → 0 ≤ j ∧ j ≤ 4 → mem2 (o + 2) (5 * i + j) = zsf (mem o 1) p (fun k => mem (o + 2) (5 * k + j)) i) → (∀ a : Nat, a ≠ o + 2 → mem2 a = mem a) → Q none (zS L) mem2) : zw_Ok l mm_X4_shift [zR o, zI p] (zS L) mem Q := by
  refine zw_okA (fun hA => ?_)
  have rg_p : -2147483648 ≤ p ∧ p < 2147483648 := hA.2.1
  refine zw_enter (by decide) (Nat.le_of_ble_eq_true rfl) rfl ?_
  show zw_Wp l mm_X4_shift (zS L) 0 [some (zR o), some (zI p), none, none, none, none] [] mem 0 0 Q
  refine wp_iconst dd_X4_shift_0 (zr_lit rfl) ?_
  refine wp_istore_n (ls2 := [some (zR o), some (zI p), some (zI 0), none, none, none]) dd_X4_shift_1 rfl (by decide) rfl ?_
  refine wp_iload_n dd_X4_shift_2 rfl ?_
  refine wp_iconst dd_X4_shift_3 (zr_lit rfl) ?_
  refine wp_icmp_ge (tgt := 88) dd_X4_shift_4 (by decide) (fun c4_1 => absurd c4_1 (by decide)) (fun c4_1 => ?_)
  refine wp_iconst dd_X4_shift_7 (zr_lit rfl) ?_
  refine wp_istore_n (ls2 := [some (zR o), some (zI p), some (zI 0), some (zI 3), none, none]) dd_X4_shift_8 rfl (by decide) rfl ?_
  refine wp_iload_n dd_X4_shift_9 rfl ?_
  refine wp_iload_n dd_X4_shift_10 rfl ?_
  refine wp_icmp_lt (tgt := 82) dd_X4_shift_11 (by decide) (fun c11_2 => absurd c11_2 (by decide)) (fun c11_2 => ?_)
  refine wp_iconst dd_X4_shift_14 (zr_lit rfl) ?_
  refine wp_istore (ls2 := [some (zR o), some (zI p), some (zI 0), some (zI 3), some (zI 0), none]) dd_X4_shift_15 rfl (by decide) rfl ?_
  have lp17 : ∀ (nf : Nat) (j1 : Int) (mm1 : zMem), (0 ≤ j1) → (j1 ≤ 5) → (∀ b : Int, 0 ≤ b → b < j1 → mm1 (o + 2) (15 + b) = (mem (o + 2) (15 + b) + mem o 1 * mem (o + 2) (20 + b)) % p) → (∀ t : Int, (t < 15 ∨ 15 + j1 ≤ t) → mm1 (o + 2) t = mem (o + 2) t) → (∀ t : Int, 0 ≤ t → t < 25 → 0 ≤ mm1 (o + 2) t ∧ mm1 (o + 2) t < p) → (∀ a : Nat, a ≠ o + 2 → mm1 a = mem a) → (5 - j1) < (nf : Int) → zw_Wp l mm_X4_shift (zS L) 17 [some (zR o), some (zI p), some (zI 0), some (zI 3), some (zI j1), none] [] mm1 0 0 Q := by
    intro nf
    induction nf with
    | zero =>
      intro j1 mm1 h0 h1 ha1 hb1 hr1 hx1 hmu
      exfalso; omega
    | succ nf ih17 =>
      intro j1 mm1 h0 h1 ha1 hb1 hr1 hx1 hmu
      have hfo : mm1 o = mem o := hx1 o (by omega)
      have hfo1 : mm1 o 1 = mem o 1 := by rw [hfo]
      refine wp_iload dd_X4_shift_17 rfl ?_
      refine wp_iconst dd_X4_shift_19 (zr_lit rfl) ?_
      refine wp_icmp_ge (tgt := 76) dd_X4_shift_20 (by decide) (fun c20_3 => ?_) (fun c20_3 => ?_)
      · skip
        refine wp_iincC (ls2 := [some (zR o), some (zI p), some (zI 0), some (zI 2), some (zI j1), none]) dd_X4_shift_76 rfl rfl (by decide) (by omega) rfl ?_
        refine wp_goto (tgt := 9) dd_X4_shift_79 (by decide) ?_
        refine wp_iload_n dd_X4_shift_9 rfl ?_
        refine wp_iload_n dd_X4_shift_10 rfl ?_
        refine wp_icmp_lt (tgt := 82) dd_X4_shift_11 (by decide) (fun c11_4 => absurd c11_4 (by decide)) (fun c11_4 => ?_)
        refine wp_iconst dd_X4_shift_14 (zr_lit rfl) ?_
        refine wp_istore (ls2 := [some (zR o), some (zI p), some (zI 0), some (zI 2), some (zI 0), none]) dd_X4_shift_15 rfl (by decide) rfl ?_
        refine ih17 0 mm1 ?_ ?_ ?_ ?_ ?_ ?_ ?_
        · first | omega | assumption | (intros; omega)
        · first | omega | assumption | (intros; omega)
        · intro b q1 q2
          by_cases hb : b = j1
          · subst hb
            rw [zu_s, hfo, hb1 _ (Or.inr (by omega)), hb1 _ (Or.inr (by omega))]
          · rw [zu_n (Or.inr (by omega))]; exact ha1 b q1 (by omega)
        · intro t q
          rw [zu_n (Or.inr (by omega))]; exact hb1 t (by omega)
        · intro t q1 q2
          by_cases hb : t = 15 + j1
          · subst hb; rw [zu_s]; exact zm_rg (by omega)
          · rw [zu_n (Or.inr hb)]; exact hr1 t q1 q2
        · intro a ha; rw [zu_row ha]; exact hx1 a ha
        · omega
      · skip
        have hq1 := hr1 (15 + j1) (by omega) (by omega)
        have hq2 := hr1 (20 + j1) (by omega) (by omega)
        have hq3 := zmul_rg (a := mm1 o 1) (b := mm1 (o + 2) (20 + j1)) (A := 9) (B := 31) (by omega) (by omega) (by omega) (by omega)
        refine wp_aload_n dd_X4_shift_23 rfl ?_
        refine wp_getR dd_X4_shift_24 gf_X4_15 rfl ho.k (by decide) ho.i ho.c ?_
        refine wp_iconst dd_X4_shift_27 (zr_lit rfl) ?_
        refine wp_iload_n dd_X4_shift_28 rfl ?_
        refine wp_iconst dd_X4_shift_29 (zr_lit rfl) ?_
        refine wp_iaddC dd_X4_shift_30 (by decide) ?_
        show zw_Wp l mm_X4_shift (zS L) 31 [some (zR o), some (zI p), some (zI 0), some (zI 3), some (zI j1), none] [zI 4, zI 5, zR (o + 2)] mm1 0 0 Q
        refine wp_imulC dd_X4_shift_31 (by decide) ?_
        show zw_Wp l mm_X4_shift (zS L) 32 [some (zR o), some (zI p), some (zI 0), some (zI 3), some (zI j1), none] [zI 20, zR (o + 2)] mm1 0 0 Q
        refine wp_iload dd_X4_shift_32 rfl ?_
        refine wp_iaddC dd_X4_shift_34 (by omega) ?_
        refine wp_iald dd_X4_shift_35 ho.kc ho.ic (by omega) (by omega) ?_
        refine wp_istore (ls2 := [some (zR o), some (zI p), some (zI 0), some (zI 3), some (zI j1), some (zI (mm1 (o + 2) (20 + j1)))]) dd_X4_shift_36 rfl (by decide) rfl ?_
        refine wp_aload_n dd_X4_shift_38 rfl ?_
        refine wp_getR dd_X4_shift_39 gf_X4_15 rfl ho.k (by decide) ho.i ho.c ?_
        refine wp_iconst dd_X4_shift_42 (zr_lit rfl) ?_
        refine wp_iload_n dd_X4_shift_43 rfl ?_
        refine wp_imulC dd_X4_shift_44 (by decide) ?_
        show zw_Wp l mm_X4_shift (zS L) 45 [some (zR o), some (zI p), some (zI 0), some (zI 3), some (zI j1), some (zI (mm1 (o + 2) (20 + j1)))] [zI 15, zR (o + 2)] mm1 0 0 Q
        refine wp_iload dd_X4_shift_45 rfl ?_
        refine wp_iaddC dd_X4_shift_47 (by omega) ?_
        refine wp_aload_n dd_X4_shift_48 rfl ?_
        refine wp_getR dd_X4_shift_49 gf_X4_15 rfl ho.k (by decide) ho.i ho.c ?_
        refine wp_iconst dd_X4_shift_52 (zr_lit rfl) ?_
        refine wp_iload_n dd_X4_shift_53 rfl ?_
        refine wp_imulC dd_X4_shift_54 (by decide) ?_
        show zw_Wp l mm_X4_shift (zS L) 55 [some (zR o), some (zI p), some (zI 0), some (zI 3), some (zI j1), some (zI (mm1 (o + 2) (20 + j1)))] [zI 15, zR (o + 2), zI (15 + j1), zR (o + 2)] mm1 0 0 Q
        refine wp_iload dd_X4_shift_55 rfl ?_
        refine wp_iaddC dd_X4_shift_57 (by omega) ?_
        refine wp_iald dd_X4_shift_58 ho.kc ho.ic (by omega) (by omega) ?_
        refine wp_aload_n dd_X4_shift_59 rfl ?_
        refine wp_getZ 1 rfl dd_X4_shift_60 gf_X4_22 rfl ho.k (by decide) ho.i ?_
        refine wp_iload dd_X4_shift_63 rfl ?_
        refine wp_imulC dd_X4_shift_65 (by omega) ?_
        refine wp_iaddC dd_X4_shift_66 (by omega) ?_
        refine wp_iload_n dd_X4_shift_67 rfl ?_
        refine wp_iremP dd_X4_shift_68 (by omega) (by omega) ?_
        refine wp_iast dd_X4_shift_69 ho.kc ho.ic (by omega) (by omega) ?_
        refine wp_iincC (ls2 := [some (zR o), some (zI p), some (zI 0), some (zI 3), some (zI (j1 + 1)), some (zI (mm1 (o + 2) (20 + j1)))]) dd_X4_shift_70 rfl rfl (by decide) (by omega) rfl ?_
        refine wp_goto (tgt := 17) dd_X4_shift_73 (by decide) ?_
        refine wp_ls (zw_sub_of (a := [some (zR o), some (zI p), some (zI 0), some (zI 3), some (zI (j1 + 1)), none]) (And.intro rfl (And.intro rfl (And.intro rfl (And.intro rfl (And.intro rfl (trivial))))))) ?_
        refine ih17 (j1 + 1) (zu mm1 (o + 2) (15 + j1) (((mm1 (o + 2) (15 + j1)) + ((mm1 o 1) * (mm1 (o + 2) (20 + j1)))) % p)) ?_ ?_ ?_ ?_ ?_ ?_ ?_
        · first | omega | assumption | (intros; omega)
        · first | omega | assumption | (intros; omega)
        · intro b q1 q2
          by_cases hb : b = j1
          · subst hb
            rw [zu_s, hfo, hb1 _ (Or.inr (by omega)), hb1 _ (Or.inr (by omega))]
          · rw [zu_n (Or.inr (by omega))]; exact ha1 b q1 (by omega)
        · intro t q
          rw [zu_n (Or.inr (by omega))]; exact hb1 t (by omega)
        · intro t q1 q2
          by_cases hb : t = 15 + j1
          · subst hb; rw [zu_s]; exact zm_rg (by omega)
          · rw [zu_n (Or.inr hb)]; exact hr1 t q1 q2
        · intro a ha; rw [zu_row ha]; exact hx1 a ha
        · omega
  refine lp17 ((5 - 0 : Int)).toNat.succ 0 mem ?_ ?_ ?_ ?_ ?_ ?_ ?_
  · first | omega | assumption | (intros; omega)
  · first | omega | assumption | (intros; omega)
  · intros; omega
  · intros; rfl
  · first | omega | assumption | (intros; omega)
  · intros; rfl
  · omega


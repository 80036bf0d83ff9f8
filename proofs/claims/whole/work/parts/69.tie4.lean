/-! ===== ties: images, products, reading ===== -/
theorem zex_max (P : Int → Prop) (h : ∃ j : Int, (0 ≤ j ∧ j ≤ 4) ∧ P j) : ∃ j : Int, (0 ≤ j ∧ j ≤ 4) ∧ P j ∧ ∀ i : Int, j < i → i ≤ 4 → ¬ P i := by
  obtain ⟨j, hj, hP⟩ := h
  by_cases h4 : P 4
  · exact ⟨4, by decide, h4, fun i q1 q2 => by omega⟩
  · by_cases h3 : P 3
    · exact ⟨3, by decide, h3, fun i q1 q2 => by rw [show i = 4 by omega]; exact h4⟩
    · by_cases h2 : P 2
      · exact ⟨2, by decide, h2, fun i q1 q2 => by rcases (show i = 3 ∨ i = 4 by omega) with e | e <;> rw [e] <;> assumption⟩
      · by_cases h1 : P 1
        · exact ⟨1, by decide, h1, fun i q1 q2 => by rcases (show i = 2 ∨ i = 3 ∨ i = 4 by omega) with e | e | e <;> rw [e] <;> assumption⟩
        · have e0 : j = 0 := by
            rcases (show j = 0 ∨ j = 1 ∨ j = 2 ∨ j = 3 ∨ j = 4 by omega) with e | e | e | e | e
            · exact e
            · exact absurd (e ▸ hP) h1
            · exact absurd (e ▸ hP) h2
            · exact absurd (e ▸ hP) h3
            · exact absurd (e ▸ hP) h4
          refine ⟨0, by decide, e0 ▸ hP, fun i q1 q2 => ?_⟩
          rcases (show i = 1 ∨ i = 2 ∨ i = 3 ∨ i = 4 by omega) with e | e | e | e <;> rw [e] <;> assumption
/-- what the t-th term brings in -/
def ztm (c d : Int → Int) (x y t : Int) : Int := c t * (if 0 ≤ x - t / 5 ∧ x - t / 5 ≤ 4 ∧ 0 ≤ y - t % 5 ∧ y - t % 5 ≤ 4 then d (5 * (x - t / 5) + (y - t % 5)) else 0)
theorem zcv_st (c d : Int → Int) (x y : Int) (n : Nat) : zcv c d x y (n + 1) = zcv c d x y n + ztm c d x y n := rfl
theorem zcv_0 {c d : Int → Int} {x y : Int} : ∀ n : Nat, (∀ t : Int, 0 ≤ t → t < n → ztm c d x y t = 0) → zcv c d x y n = 0
  | 0, _ => rfl
  | n + 1, h => by rw [zcv_st, zcv_0 n (fun t q1 q2 => h t q1 (by omega)), h n (by omega) (by omega)]; rfl
theorem zcv_1 {c d : Int → Int} {x y t0 : Int} (h0 : 0 ≤ t0) : ∀ n : Nat, (∀ t : Int, 0 ≤ t → t < n → t ≠ t0 → ztm c d x y t = 0) → zcv c d x y n = if t0 < n then ztm c d x y t0 else 0
  | 0, _ => by rw [if_neg (by omega)]; rfl
  | n + 1, h => by
    rw [zcv_st, zcv_1 h0 n (fun t q1 q2 q3 => h t q1 (by omega) q3)]
    by_cases q : (n : Int) = t0
    · rw [if_neg (by omega), if_pos (by omega), q]; omega
    · rw [h n (by omega) (by omega) q]
      by_cases q2 : t0 < n
      · rw [if_pos q2, if_pos (by omega)]; omega
      · rw [if_neg q2, if_neg (by omega)]; rfl
theorem zpm {a b p : Int} (hp : zPr p) (ha : 0 < a ∧ a < p) (hb : 0 < b ∧ b < p) : a * b % p ≠ 0 := by
  intro h
  obtain ⟨g1, g2, g3⟩ := zinv_ok hp ha.1 ha.2
  have e : (zinv a p * (a * b)) % p = b := by
    rw [← Int.mul_assoc, Int.mul_comm (zinv a p) a, Int.mul_emod, g1, Int.one_mul, Int.emod_emod, Int.emod_eq_of_lt (by omega) hb.2]
  rw [Int.mul_emod, h, Int.mul_zero, Int.zero_emod] at e
  omega
theorem zdg_le {c : Int → Int} {le t : Int} (h0 : 0 ≤ t) (h1 : t < 25) (hc : c t ≠ 0) : zvv le (t / 5) (t % 5) ≤ zdeg c le 25 := (zdeg_P c le 25 (by omega)).2 t h0 h1 hc
/-- no term of the product is too high, where the degrees allow it -/
theorem zmul_lo {c d : Int → Int} {u v : Int} (h0 : zdeg c 0 25 + zdeg d 0 25 ≤ 4) (h1 : zdeg c 1 25 + zdeg d 1 25 ≤ 4) (h : 5 ≤ u ∨ 5 ≤ v) : zcv c d u v 25 = 0 := by
  refine zcv_0 25 (fun t q1 q2 => ?_)
  unfold ztm
  by_cases q : 0 ≤ u - t / 5 ∧ u - t / 5 ≤ 4 ∧ 0 ≤ v - t % 5 ∧ v - t % 5 ≤ 4
  · rw [if_pos q]
    by_cases hc : c t = 0
    · rw [hc, Int.zero_mul]
    · by_cases hd : d (5 * (u - t / 5) + (v - t % 5)) = 0
      · rw [hd, Int.mul_zero]
      · exfalso
        have a1 := zdg_le (le := 0) q1 (by omega) hc
        have a2 := zdg_le (le := 1) q1 (by omega) hc
        have a3 := zdg_le (c := d) (le := 0) (t := 5 * (u - t / 5) + (v - t % 5)) (by omega) (by omega) hd
        have a4 := zdg_le (c := d) (le := 1) (t := 5 * (u - t / 5) + (v - t % 5)) (by omega) (by omega) hd
        rw [show (5 * (u - t / 5) + (v - t % 5)) / 5 = u - t / 5 by omega, show (5 * (u - t / 5) + (v - t % 5)) % 5 = v - t % 5 by omega] at a3 a4
        have b0 : ∀ i j : Int, zvv 0 i j = i := fun i j => by unfold zvv; rw [if_pos rfl]
        have b1 : ∀ i j : Int, zvv 1 i j = j := fun i j => by unfold zvv; rw [if_neg (by decide), if_pos rfl]
        rw [b0] at a1 a3
        rw [b1] at a2 a4
        omega
  · rw [if_neg q, Int.mul_zero]
/-- the leading terms by x meet once -/
theorem zmul_hi0 {c d : Int → Int} {p : Int} (hp : zPr p) (hc : ∀ t : Int, 0 ≤ t → t < 25 → 0 ≤ c t ∧ c t < p) (hd : ∀ t : Int, 0 ≤ t → t < 25 → 0 ≤ d t ∧ d t < p) (h : 4 < zdeg c 0 25 + zdeg d 0 25) : ∃ u v : Int, (0 ≤ u ∧ u < 9 ∧ 0 ≤ v ∧ v < 9) ∧ (5 ≤ u ∨ 5 ≤ v) ∧ zcv c d u v 25 % p ≠ 0 := by
  have b0 : ∀ i j : Int, zvv 0 i j = i := fun i j => by unfold zvv; rw [if_pos rfl]
  have g1 := zdeg_4 (c := c) (le := 0) (Or.inl rfl)
  have g2 := zdeg_4 (c := d) (le := 0) (Or.inl rfl)
  have ex : ∀ (f : Int → Int), 0 ≤ zdeg f 0 25 → ∃ j : Int, (0 ≤ j ∧ j ≤ 4) ∧ f (5 * zdeg f 0 25 + j) ≠ 0 ∧ ∀ i : Int, j < i → i ≤ 4 → ¬ f (5 * zdeg f 0 25 + i) ≠ 0 := fun f hf => by
    refine zex_max (fun j => f (5 * zdeg f 0 25 + j) ≠ 0) ?_
    rcases (zdeg_P f 0 25 (by omega)).1 with z | ⟨-, -, t, z1, z2, z3, z4⟩
    · omega
    · rw [b0] at z4
      exact ⟨t % 5, by omega, by show f _ ≠ 0; rw [← z4, show 5 * (t / 5) + t % 5 = t by omega]; exact z3⟩
  obtain ⟨j1, a1, a2, a3⟩ := ex c (by omega)
  obtain ⟨j2, e1, e2, e3⟩ := ex d (by omega)
  obtain ⟨I, hI⟩ : ∃ I, I = zdeg c 0 25 := ⟨_, rfl⟩
  obtain ⟨K, hK⟩ : ∃ K, K = zdeg d 0 25 := ⟨_, rfl⟩
  rw [← hI] at a2 a3
  rw [← hK] at e2 e3
  refine ⟨I + K, j1 + j2, by omega, by omega, ?_⟩
  rw [zcv_1 (t0 := 5 * I + j1) (by omega) 25 (fun t q1 q2 q3 => ?_), if_pos (by omega)]
  · unfold ztm
    rw [if_pos (by omega), show 5 * (I + K - (5 * I + j1) / 5) + (j1 + j2 - (5 * I + j1) % 5) = 5 * K + j2 by omega]
    have r1 := hc (5 * I + j1) (by omega) (by omega)
    have r2 := hd (5 * K + j2) (by omega) (by omega)
    exact zpm hp (by omega) (by omega)
  · unfold ztm
    by_cases q : 0 ≤ I + K - t / 5 ∧ I + K - t / 5 ≤ 4 ∧ 0 ≤ j1 + j2 - t % 5 ∧ j1 + j2 - t % 5 ≤ 4
    · rw [if_pos q]
      by_cases hc0 : c t = 0
      · rw [hc0, Int.zero_mul]
      · by_cases hd0 : d (5 * (I + K - t / 5) + (j1 + j2 - t % 5)) = 0
        · rw [hd0, Int.mul_zero]
        · exfalso
          have w1 := zdg_le (le := 0) q1 (by omega) hc0
          have w2 := zdg_le (c := d) (le := 0) (t := 5 * (I + K - t / 5) + (j1 + j2 - t % 5)) (by omega) (by omega) hd0
          rw [b0] at w1 w2
          rw [show (5 * (I + K - t / 5) + (j1 + j2 - t % 5)) / 5 = I + K - t / 5 by omega] at w2
          have w3 : t / 5 = I := by omega
          have w4 : t % 5 ≤ j1 := by
            by_cases z : t % 5 ≤ j1
            · exact z
            · exact absurd (by rw [← w3, show 5 * (t / 5) + t % 5 = t by omega]; exact hc0) (a3 (t % 5) (by omega) (by omega))
          have w5 : j1 + j2 - t % 5 ≤ j2 := by
            by_cases z : j1 + j2 - t % 5 ≤ j2
            · exact z
            · exact absurd (by rw [show 5 * (I + K - t / 5) + (j1 + j2 - t % 5) = 5 * K + (j1 + j2 - t % 5) by omega] at hd0; exact hd0) (e3 (j1 + j2 - t % 5) (by omega) (by omega))
          omega
    · rw [if_neg q, Int.mul_zero]
theorem zmul_hi1 {c d : Int → Int} {p : Int} (hp : zPr p) (hc : ∀ t : Int, 0 ≤ t → t < 25 → 0 ≤ c t ∧ c t < p) (hd : ∀ t : Int, 0 ≤ t → t < 25 → 0 ≤ d t ∧ d t < p) (h : 4 < zdeg c 1 25 + zdeg d 1 25) : ∃ u v : Int, (0 ≤ u ∧ u < 9 ∧ 0 ≤ v ∧ v < 9) ∧ (5 ≤ u ∨ 5 ≤ v) ∧ zcv c d u v 25 % p ≠ 0 := by
  have b1 : ∀ i j : Int, zvv 1 i j = j := fun i j => by unfold zvv; rw [if_neg (by decide), if_pos rfl]
  have g1 := zdeg_4 (c := c) (le := 1) (Or.inr rfl)
  have g2 := zdeg_4 (c := d) (le := 1) (Or.inr rfl)
  have ex : ∀ (f : Int → Int), 0 ≤ zdeg f 1 25 → ∃ j : Int, (0 ≤ j ∧ j ≤ 4) ∧ f (5 * j + zdeg f 1 25) ≠ 0 ∧ ∀ i : Int, j < i → i ≤ 4 → ¬ f (5 * i + zdeg f 1 25) ≠ 0 := fun f hf => by
    refine zex_max (fun j => f (5 * j + zdeg f 1 25) ≠ 0) ?_
    rcases (zdeg_P f 1 25 (by omega)).1 with z | ⟨-, -, t, z1, z2, z3, z4⟩
    · omega
    · rw [b1] at z4
      exact ⟨t / 5, by omega, by show f _ ≠ 0; rw [← z4, show 5 * (t / 5) + t % 5 = t by omega]; exact z3⟩
  obtain ⟨j1, a1, a2, a3⟩ := ex c (by omega)
  obtain ⟨j2, e1, e2, e3⟩ := ex d (by omega)
  obtain ⟨I, hI⟩ : ∃ I, I = zdeg c 1 25 := ⟨_, rfl⟩
  obtain ⟨K, hK⟩ : ∃ K, K = zdeg d 1 25 := ⟨_, rfl⟩
  rw [← hI] at a2 a3
  rw [← hK] at e2 e3
  refine ⟨j1 + j2, I + K, by omega, by omega, ?_⟩
  rw [zcv_1 (t0 := 5 * j1 + I) (by omega) 25 (fun t q1 q2 q3 => ?_), if_pos (by omega)]
  · unfold ztm
    rw [if_pos (by omega), show 5 * (j1 + j2 - (5 * j1 + I) / 5) + (I + K - (5 * j1 + I) % 5) = 5 * j2 + K by omega]
    have r1 := hc (5 * j1 + I) (by omega) (by omega)
    have r2 := hd (5 * j2 + K) (by omega) (by omega)
    exact zpm hp (by omega) (by omega)
  · unfold ztm
    by_cases q : 0 ≤ j1 + j2 - t / 5 ∧ j1 + j2 - t / 5 ≤ 4 ∧ 0 ≤ I + K - t % 5 ∧ I + K - t % 5 ≤ 4
    · rw [if_pos q]
      by_cases hc0 : c t = 0
      · rw [hc0, Int.zero_mul]
      · by_cases hd0 : d (5 * (j1 + j2 - t / 5) + (I + K - t % 5)) = 0
        · rw [hd0, Int.mul_zero]
        · exfalso
          have w1 := zdg_le (le := 1) q1 (by omega) hc0
          have w2 := zdg_le (c := d) (le := 1) (t := 5 * (j1 + j2 - t / 5) + (I + K - t % 5)) (by omega) (by omega) hd0
          rw [b1] at w1 w2
          rw [show (5 * (j1 + j2 - t / 5) + (I + K - t % 5)) % 5 = I + K - t % 5 by omega] at w2
          have w3 : t % 5 = I := by omega
          have w4 : t / 5 ≤ j1 := by
            by_cases z : t / 5 ≤ j1
            · exact z
            · exact absurd (by rw [← w3, show 5 * (t / 5) + t % 5 = t by omega]; exact hc0) (a3 (t / 5) (by omega) (by omega))
          have w5 : j1 + j2 - t / 5 ≤ j2 := by
            by_cases z : j1 + j2 - t / 5 ≤ j2
            · exact z
            · exact absurd (by rw [show 5 * (j1 + j2 - t / 5) + (I + K - t % 5) = 5 * (j1 + j2 - t / 5) + K by omega] at hd0; exact hd0) (e3 (j1 + j2 - t / 5) (by omega) (by omega))
          omega
    · rw [if_neg q, Int.mul_zero]
theorem zOk_iff {c d : Int → Int} {p o : Int} (hp : zPr p) (hc : ∀ t : Int, 0 ≤ t → t < 25 → 0 ≤ c t ∧ c t < p) (hd : ∀ t : Int, 0 ≤ t → t < 25 → 0 ≤ d t ∧ d t < p) (h : zOk (zZ c d p) o 9 0) : o ≠ 0 ↔ (zdeg c 0 25 + zdeg d 0 25 ≤ 4 ∧ zdeg c 1 25 + zdeg d 1 25 ≤ 4) := by
  constructor
  · intro ho
    rcases h with ⟨h1, h2⟩ | ⟨h1, -⟩
    · by_cases q : zdeg c 0 25 + zdeg d 0 25 ≤ 4
      · by_cases q2 : zdeg c 1 25 + zdeg d 1 25 ≤ 4
        · exact ⟨q, q2⟩
        · obtain ⟨u, v, w1, w2, w3⟩ := zmul_hi1 hp hc hd (by omega)
          exact absurd (h2 u v w1.1 w1.2.1 w1.2.2.1 w1.2.2.2 (Or.inl w1.2.1) w2) w3
      · obtain ⟨u, v, w1, w2, w3⟩ := zmul_hi0 hp hc hd (by omega)
        exact absurd (h2 u v w1.1 w1.2.1 w1.2.2.1 w1.2.2.2 (Or.inl w1.2.1) w2) w3
    · exact absurd h1 ho
  · intro hm ho
    rcases h with ⟨h1, -⟩ | ⟨-, u, v, w1, w2, w3⟩
    · omega
    · refine w3 ?_
      unfold zZ
      rw [zmul_lo hm.1 hm.2 w2, Int.zero_emod]
theorem zInv.come {m m1 m9 m2 : zMem} {t : Int → Int} (hI : zInv m) (hn : m 67 5 < 6) (hN : zNw m m1 t) (hm9 : ∀ q : Nat, q ≠ 67 → q ≠ 75 → m9 q = m1 q) (hs9 : ∀ s : Int, s ≠ 11 → s ≠ 12 → m9 67 s = m1 67 s) (h75 : ∀ x : Int, 0 ≤ x → x < 25 → m9 75 x = t x % m 67 1) (hI3 : zI3 m2) (hz : zcome m9 m2) : zInv m2 := by
  obtain ⟨I1, I2, I3, I4, I5, I6, I7⟩ := id hI
  obtain ⟨c1, c2, c3, c4, c5, c6⟩ := hz
  obtain ⟨n1, n2, n3, n4⟩ := hN
  have hn5 := I1.2.2.1
  have h67 : m1 67 = m 67 := by
    have := zo_rg (q := m 67 5) (by omega)
    exact n4 67 (by decide) (by decide) (by omega) (by omega) (by omega) (by decide)
  have f5 : m9 67 5 = m 67 5 := by rw [hs9 5 (by decide) (by decide), h67]
  have hzo := zo_rg (q := m 67 5) (by omega)
  have e1 : ∀ a : Nat, (a ≠ 1 ∧ a ≠ 44 ∧ (a < 3 ∨ 20 < a) ∧ (a < 41 ∨ 42 < a)) → m1 a = m a := fun a q => n4 a q.1 q.2.1 (by omega) (by omega) (by omega) q.2.2.2
  have e : ∀ a : Nat, (a ≠ 1 ∧ a ≠ 44 ∧ (a < 3 ∨ 20 < a) ∧ (a < 41 ∨ 42 < a) ∧ a ≠ 67 ∧ a ≠ 69 ∧ a ≠ 70 ∧ a ≠ 71 ∧ a ≠ 75) → m2 a = m a := fun a q => by rw [c6 a q.2.2.2.2.1 q.2.2.2.2.2.1 q.2.2.2.2.2.2.1 q.2.2.2.2.2.2.2.1, hm9 a q.2.2.2.2.1 q.2.2.2.2.2.2.2.2]; exact e1 a ⟨q.1, q.2.1, q.2.2.1, q.2.2.2.1⟩
  have e' : ∀ a : Nat, (a ≠ 67 ∧ a ≠ 69 ∧ a ≠ 70 ∧ a ≠ 71 ∧ a ≠ 75) → m2 a = m1 a := fun a q => by rw [c6 a q.1 q.2.1 q.2.2.1 q.2.2.2.1]; exact hm9 a q.1 q.2.2.2.2
  have s : ∀ t : Int, (t = 1 ∨ t = 34) → m2 67 t = m 67 t := fun t q => by rw [c3 t (by omega) (by omega), hs9 t (by omega) (by omega), h67]
  have g5 : m2 67 5 = m 67 5 + 1 := by rw [c1, f5]
  have a69 : m1 69 = m 69 := e1 69 (by decide)
  have a70 : m1 70 = m 70 := e1 70 (by decide)
  have a71 : m1 71 = m 71 := e1 71 (by decide)
  refine ⟨⟨by rw [s 1 (by decide)]; exact I1.1, by rw [e' 1 (by decide), n2.1, s 1 (by decide)], by omega, by rw [e' 1 (by decide), n2.2, g5], fun q q1 q2 => ?_⟩, (I2.mv (by rw [e 0 (by decide)]) (s 34 (by decide)) (e 21 (by decide)) (fun a q1 q2 => e a (by omega)) (e 88 (by decide))), hI3, ⟨by rw [e' 44 (by decide), n1, c2], by omega, fun k9 w1 w2 => by omega⟩, (I5.mv (e 64 (by decide)) (e 65 (by decide)) (e 86 (by decide)) (e 87 (by decide))), (I6.mv (e 66 (by decide)) (e 68 (by decide))), (I7.mv (e 1000 (by decide)))⟩
  rw [g5] at q2
  have hx6 : 0 ≤ q ∧ q < 6 := by omega
  have hzx := zo_rg hx6
  rw [s 1 (by decide), (c5 q).1, (c5 q).2, f5, hm9 70 (by decide) (by decide), hm9 71 (by decide) (by decide), a70, a71]
  have k69 : ∀ x : Int, 0 ≤ x → x < 25 → ztd m2 q x = if q = m 67 5 then t x % m 67 1 else ztd m q x := fun x w1 w2 => by
    unfold ztd
    rw [c4 (25 * q + x), f5]
    by_cases w : q = m 67 5
    · rw [if_pos w, if_pos (by omega), show 25 * q + x - 25 * m 67 5 = x by omega]; exact h75 x w1 w2
    · rw [if_neg w, if_neg (by omega), hm9 69 (by decide) (by decide), a69]
  by_cases w : q = m 67 5
  · rw [if_pos w, if_pos w, w]
    refine (n3.keep (e' _ (by omega)) (e' _ (by omega)) (e' _ (by omega))).told (fun x w1 w2 => ?_)
    rw [← w, k69 x w1 w2, if_pos w]
  · rw [if_neg w, if_neg w]
    have hne := zo_ne q1 hn5.1 w
    refine ((I1.2.2.2.2 q q1 (by omega)).keep (mem2 := m2) ?_ ?_ ?_).told (fun x w1 w2 => by rw [k69 x w1 w2, if_neg w])
    · rw [e' _ (by omega)]; exact n4 _ (by omega) (by omega) (by omega) (by omega) (by omega) (by omega)
    · rw [e' _ (by omega)]; exact n4 _ (by omega) (by omega) (by omega) (by omega) (by omega) (by omega)
    · rw [e' _ (by omega)]; exact n4 _ (by omega) (by omega) (by omega) (by omega) (by omega) (by omega)
theorem rf_product {l : Launch} {L : Nat} {mem m1 : zMem} {Q : zQ} (a b : Int) (r : Int) (hI : zInv mem) (hP : (¬ ((0 ≤ a ∧ a < mem 67 5) ∧ (0 ≤ b ∧ b < mem 67 5)) ∧ r = -1 ∧ m1 = zCn mem (-1)) ∨ (((0 ≤ a ∧ a < mem 67 5) ∧ (0 ≤ b ∧ b < mem 67 5)) ∧ mem 67 5 = 6 ∧ r = -6 ∧ m1 = zCn mem (-6)) ∨ (((0 ≤ a ∧ a < mem 67 5) ∧ (0 ≤ b ∧ b < mem 67 5)) ∧ mem 67 5 < 6 ∧ ¬ (zdeg (zco mem a) 0 25 + zdeg (zco mem b) 0 25 ≤ 4 ∧ zdeg (zco mem a) 1 25 + zdeg (zco mem b) 1 25 ≤ 4) ∧ r = -3 ∧ m1 = zCn mem (-3)) ∨ (((0 ≤ a ∧ a < mem 67 5) ∧ (0 ≤ b ∧ b < mem 67 5)) ∧ mem 67 5 < 6 ∧ (zdeg (zco mem a) 0 25 + zdeg (zco mem b) 0 25 ≤ 4 ∧ zdeg (zco mem a) 1 25 + zdeg (zco mem b) 1 25 ≤ 4) ∧ r = mem 67 5 ∧ m1 41 = mem 41 ∧ zNw mem m1 (fun t => zcv (zco mem a) (zco mem b) (t / 5) (t % 5) 25))) (k : ∀ m2 : zMem, zInv m2 → Q (some (zI r)) (zS L) m2) : zw_Ok l mm_X11_product [zR 67, zI a, zI b] (zS L) m1 Q := by
  have hh : zHi mem m1 := by
    rcases hP with ⟨-, -, z⟩ | ⟨-, -, -, z⟩ | ⟨-, -, -, -, z⟩ | ⟨z0, z1, -, -, -, -, -, -, z⟩
    · rw [z]; exact zCn.hi
    · rw [z]; exact zCn.hi
    · rw [z]; exact zCn.hi
    · have hn := hI.1.2.2.1
      have hq9 := zo_rg (q := mem 67 5) (by omega)
      exact fun a q1 q2 => z a (by omega) (by omega) (by omega) (by omega) (by omega) (by omega)
  have hk := hh.kp
  have e67 := hh 67 (by decide) (by decide)
  obtain ⟨R1, R2, R3, R4, R5, R6, R7⟩ := hI.rf.hi hh
  refine sp_X11_product  a b R1 R2 R3 (fun r2 m2 hf => ?_)
  obtain ⟨I1, I2, I3, I4, I5, I6, I7⟩ := id hI
  rw [hk.2.1, hk.co a, hk.co b, hk.1] at hf
  obtain ⟨e9, hI2⟩ : r2 = r ∧ zInv m2 := by
    rcases hf with ⟨z1, z2, z3⟩ | ⟨z1, z2, z3, z4⟩ | ⟨z1, z2, o, m9, z3, z4, z5, z6⟩
    · rcases hP with ⟨h1, h2, h3⟩ | ⟨h1, -⟩ | ⟨h1, -⟩ | ⟨h1, -⟩
      · exact ⟨by omega, by rw [z3, h3]; exact hI.no (by decide)⟩
      · exact absurd h1 z1
      · exact absurd h1 z1
      · exact absurd h1 z1
    · rcases hP with ⟨h1, -⟩ | ⟨h1, h2, h3, h4⟩ | ⟨h1, h2, -⟩ | ⟨h1, h2, -⟩
      · exact absurd z1 h1
      · exact ⟨by omega, by rw [z4, h4]; exact hI.no (by decide)⟩
      · omega
      · omega
    · have hpa := zco_rg I1.1 (I1.T z1.1.1 z1.1.2)
      have hpb := zco_rg I1.1 (I1.T z1.2.1 z1.2.2)
      have hio := zOk_iff I1.1 hpa hpb z4
      rcases hP with ⟨h1, -⟩ | ⟨h1, h2, -⟩ | ⟨h1, h2, h3, h4, h5⟩ | ⟨h1, h2, h3, h4, h6, h5⟩
      · exact absurd z1 h1
      · omega
      · rcases z6 with ⟨y1, y2, y3⟩ | ⟨y1, -⟩
        · refine ⟨by omega, ?_⟩
          rw [y3]
          rw [h5] at z5
          have hkn : zKp (zCn mem (-3)) m9 := ⟨fun q w1 w2 _ _ _ _ _ _ _ _ _ _ => z5 q w2, fun s _ _ _ _ _ _ _ _ => by rw [z5 67 (by decide)]⟩
          exact (hI.no (w := -3) (by decide)).ask zCk.rf (hkn.no (-3))
        · exact absurd (hio.mp y1) h3
      · rcases z6 with ⟨y1, -⟩ | ⟨y1, y2, y3⟩
        · exact absurd y1 (hio.mpr h3)
        · have hn := I1.2.2.1
          have hzo := zo_rg (q := mem 67 5) (by omega)
          refine ⟨by omega, hI.come h2 h5 (fun q w1 w2 => z5 q w2) (fun s _ _ => by rw [z5 67 (by decide)]) (fun x w1 w2 => ?_) ?_ y3⟩
          · have := z3 (x / 5) (x % 5) (by omega) (by omega) (by omega) (by omega)
            rw [show 5 * (x / 5) + x % 5 = x by omega] at this
            rw [this]; rfl
          · have f : ∀ a : Nat, (20 < a ∧ a ≠ 44 ∧ (a < 41 ∨ 42 < a) ∧ a ≠ 67 ∧ a ≠ 69 ∧ a ≠ 70 ∧ a ≠ 71 ∧ a ≠ 75) → m2 a = mem a := fun a q => by rw [y3.2.2.2.2.2 a (by omega) (by omega) (by omega) (by omega), z5 a (by omega)]; exact h5.2.2.2 a (by omega) (by omega) (by omega) (by omega) (by omega) (by omega)
            exact I3.mv (by rw [y3.2.2.2.2.2 41 (by decide) (by decide) (by decide) (by decide), z5 41 (by decide), h6]) (by rw [y3.2.2.1 11 (by decide) (by decide), z5 67 (by decide), h5.2.2.2 67 (by decide) (by decide) (by omega) (by omega) (by omega) (by decide)]) (f 43 (by decide)) (f 74 (by decide))
  rw [e9]; exact k m2 hI2


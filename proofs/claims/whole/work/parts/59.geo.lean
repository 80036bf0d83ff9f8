/-! ===== chains of points on a grid of nine by nine ===== -/
def zt9 (a b c : Int) : Int := (b / 9 - a / 9) * (c % 9 - a % 9) - (b % 9 - a % 9) * (c / 9 - a / 9)
theorem zt9_2 (a b : Int) : zt9 a b b = 0 := by
  unfold zt9
  grind
theorem zt9_1 (a b : Int) : zt9 a b a = 0 := by
  unfold zt9
  rw [Int.sub_self, Int.sub_self, Int.mul_zero, Int.mul_zero]; rfl
theorem zt9_rf {a b c : Int} (ha : 0 ≤ a ∧ a < 81) (hb : 0 ≤ b ∧ b < 81) (hc : 0 ≤ c ∧ c < 81) : zt9 (80 - a) (80 - b) (80 - c) = zt9 a b c := by
  unfold zt9
  have a1 : (80 - a) / 9 = 8 - a / 9 := by omega
  have a2 : (80 - a) % 9 = 8 - a % 9 := by omega
  have b1 : (80 - b) / 9 = 8 - b / 9 := by omega
  have b2 : (80 - b) % 9 = 8 - b % 9 := by omega
  have c1 : (80 - c) / 9 = 8 - c / 9 := by omega
  have c2 : (80 - c) % 9 = 8 - c % 9 := by omega
  rw [a1, a2, b1, b2, c1, c2]
  grind
theorem zpos {a b : Int} (ha : 0 < a) (h : 0 ≤ a * b) : 0 ≤ b := by
  by_cases q : 0 ≤ b
  · exact q
  · exfalso
    have h1 : a * b ≤ a * (-1) := Int.mul_le_mul_of_nonneg_left (by omega) (by omega)
    omega
theorem zpos1 {a b : Int} (ha : 0 < a) (h : 0 < a * b) : 0 < b := by
  by_cases q : 0 < b
  · exact q
  · exfalso
    have h1 : a * b ≤ a * 0 := Int.mul_le_mul_of_nonneg_left (by omega) (by omega)
    rw [Int.mul_zero] at h1
    omega
/-- v, u, s in their order by angles -/
theorem zx_tr {v1 v2 u1 u2 s1 s2 : Int} (hv : 0 ≤ v1) (hu : 0 < u1) (hs : 0 ≤ s1) (h1 : 0 ≤ v1 * u2 - v2 * u1) (h2 : 0 ≤ u1 * s2 - u2 * s1) : 0 ≤ v1 * s2 - v2 * s1 := by
  refine zpos hu ?_
  have e : u1 * (v1 * s2 - v2 * s1) = v1 * (u1 * s2 - u2 * s1) + s1 * (v1 * u2 - v2 * u1) := by grind
  rw [e]
  have a1 := Int.mul_nonneg hv h2
  have a2 := Int.mul_nonneg hs h1
  omega
theorem zx_up {v1 v2 z1 z2 : Int} (hv : 0 ≤ v1) (hz : 0 ≤ z1) (hl : 0 < v1 ∨ 0 < v2) (h : 0 < v1 * z2 - v2 * z1) : 0 < v1 := by
  by_cases q : 0 < v1
  · exact q
  · exfalso
    have e : v1 = 0 := by omega
    rw [e, Int.zero_mul] at h
    have := Int.mul_nonneg (show 0 ≤ v2 by omega) hz
    omega
theorem zL1 {w x y n : Int} (h0 : 0 ≤ w ∧ w < x ∧ x < y ∧ y < n ∧ n < 81) (h1 : 0 < zt9 w x y) (h2 : 0 < zt9 x y n) : 0 < zt9 w x n := by
  unfold zt9 at *
  obtain ⟨u1, hu1⟩ : ∃ u1, u1 = x / 9 - w / 9 := ⟨_, rfl⟩
  obtain ⟨u2, hu2⟩ : ∃ u2, u2 = x % 9 - w % 9 := ⟨_, rfl⟩
  obtain ⟨v1, hv1⟩ : ∃ v1, v1 = y / 9 - x / 9 := ⟨_, rfl⟩
  obtain ⟨v2, hv2⟩ : ∃ v2, v2 = y % 9 - x % 9 := ⟨_, rfl⟩
  obtain ⟨z1, hz1⟩ : ∃ z1, z1 = n / 9 - y / 9 := ⟨_, rfl⟩
  obtain ⟨z2, hz2⟩ : ∃ z2, z2 = n % 9 - y % 9 := ⟨_, rfl⟩
  have e1 : y % 9 - w % 9 = u2 + v2 := by omega
  have e2 : y / 9 - w / 9 = u1 + v1 := by omega
  have e3 : n % 9 - x % 9 = v2 + z2 := by omega
  have e4 : n / 9 - x / 9 = v1 + z1 := by omega
  have e5 : n % 9 - w % 9 = u2 + v2 + z2 := by omega
  have e6 : n / 9 - w / 9 = u1 + v1 + z1 := by omega
  rw [← hu1, ← hu2, e1, e2] at h1
  rw [← hv1, ← hv2, e3, e4] at h2
  rw [← hu1, ← hu2, e5, e6]
  have a1 : 0 < u1 * v2 - u2 * v1 := by grind
  have a2 : 0 < v1 * z2 - v2 * z1 := by grind
  have a3 := zx_up (by omega) (by omega) (by omega) a2
  have a4 := zx_tr (v1 := u1) (v2 := u2) (u1 := v1) (u2 := v2) (s1 := z1) (s2 := z2) (by omega) a3 (by omega) (by omega) (by omega)
  grind
theorem zL2 {x y n t : Int} (h0 : 0 ≤ x ∧ x < y ∧ y < n ∧ n < 81) (ht : 0 ≤ t ∧ t < y) (h1 : 0 ≤ zt9 x y t) (h2 : 0 < zt9 x y n) : 0 < zt9 y n t := by
  unfold zt9 at *
  obtain ⟨u1, hu1⟩ : ∃ u1, u1 = y / 9 - x / 9 := ⟨_, rfl⟩
  obtain ⟨u2, hu2⟩ : ∃ u2, u2 = y % 9 - x % 9 := ⟨_, rfl⟩
  obtain ⟨z1, hz1⟩ : ∃ z1, z1 = n / 9 - y / 9 := ⟨_, rfl⟩
  obtain ⟨z2, hz2⟩ : ∃ z2, z2 = n % 9 - y % 9 := ⟨_, rfl⟩
  obtain ⟨s1, hs1⟩ : ∃ s1, s1 = y / 9 - t / 9 := ⟨_, rfl⟩
  obtain ⟨s2, hs2⟩ : ∃ s2, s2 = y % 9 - t % 9 := ⟨_, rfl⟩
  have e1 : t % 9 - x % 9 = u2 - s2 := by omega
  have e2 : t / 9 - x / 9 = u1 - s1 := by omega
  have e3 : n % 9 - x % 9 = u2 + z2 := by omega
  have e4 : n / 9 - x / 9 = u1 + z1 := by omega
  have e5 : t % 9 - y % 9 = - s2 := by omega
  have e6 : t / 9 - y / 9 = - s1 := by omega
  rw [← hu1, ← hu2, e1, e2] at h1
  rw [← hu1, ← hu2, e3, e4] at h2
  rw [← hz1, ← hz2, e5, e6]
  have a1 : 0 ≤ s1 * u2 - s2 * u1 := by grind
  have a2 : 0 < u1 * z2 - u2 * z1 := by grind
  have a3 := zx_up (by omega) (by omega) (by omega) a2
  have a5 : 0 < s1 := by
    by_cases q : 0 < s1
    · exact q
    · exfalso
      have e : s1 = 0 := by omega
      rw [e, Int.zero_mul] at a1
      have := Int.mul_pos (show 0 < s2 by omega) a3
      omega
  have a6 : 0 < u1 * (s1 * z2 - s2 * z1) := by
    have e : u1 * (s1 * z2 - s2 * z1) = s1 * (u1 * z2 - u2 * z1) + z1 * (s1 * u2 - s2 * u1) := by grind
    rw [e]
    have b1 := Int.mul_pos a5 a2
    have b2 := Int.mul_nonneg (show 0 ≤ z1 by omega) a1
    omega
  have a7 := zpos1 a3 a6
  grind
theorem zL3 {y z n t : Int} (h0 : 0 ≤ y ∧ y < z ∧ z < 81) (hn : y < n ∧ n < 81) (ht : y < t ∧ t < 81) (h1 : zt9 y z n ≤ 0) (h2 : 0 ≤ zt9 y z t) : 0 ≤ zt9 y n t := by
  unfold zt9 at *
  obtain ⟨u1, hu1⟩ : ∃ u1, u1 = z / 9 - y / 9 := ⟨_, rfl⟩
  obtain ⟨u2, hu2⟩ : ∃ u2, u2 = z % 9 - y % 9 := ⟨_, rfl⟩
  obtain ⟨v1, hv1⟩ : ∃ v1, v1 = n / 9 - y / 9 := ⟨_, rfl⟩
  obtain ⟨v2, hv2⟩ : ∃ v2, v2 = n % 9 - y % 9 := ⟨_, rfl⟩
  obtain ⟨s1, hs1⟩ : ∃ s1, s1 = t / 9 - y / 9 := ⟨_, rfl⟩
  obtain ⟨s2, hs2⟩ : ∃ s2, s2 = t % 9 - y % 9 := ⟨_, rfl⟩
  rw [← hu1, ← hu2, ← hv1, ← hv2] at h1
  rw [← hu1, ← hu2, ← hs1, ← hs2] at h2
  rw [← hv1, ← hv2, ← hs1, ← hs2]
  by_cases q : 0 < u1
  · refine zx_tr (by omega) q (by omega) ?_ h2
    grind
  · have e : u1 = 0 := by omega
    rw [e, Int.zero_mul] at h2
    have hs0 : s1 = 0 := by
      by_cases q2 : 0 < s1
      · exfalso
        have := Int.mul_pos (show 0 < u2 by omega) q2
        omega
      · omega
    rw [hs0, Int.mul_zero, Int.sub_zero]
    exact Int.mul_nonneg (by omega) (by omega)
theorem zL4 {a b n : Int} (h0 : 0 ≤ a ∧ a < b ∧ b < n ∧ n < 81) (h1 : 0 < zt9 a b n) : a / 9 < b / 9 := by
  unfold zt9 at h1
  have e1 : n % 9 - a % 9 = (b % 9 - a % 9) + (n % 9 - b % 9) := by omega
  have e2 : n / 9 - a / 9 = (b / 9 - a / 9) + (n / 9 - b / 9) := by omega
  rw [e1, e2] at h1
  generalize hu : b / 9 - a / 9 = u1 at h1
  generalize hu2 : b % 9 - a % 9 = u2 at h1
  generalize hz : n / 9 - b / 9 = z1 at h1
  generalize hz2 : n % 9 - b % 9 = z2 at h1
  have := zx_up (v1 := u1) (v2 := u2) (z1 := z1) (z2 := z2) (by omega) (by omega) (by omega) (by grind)
  omega
/-- the points from the least up to u: the chain below them -/
def zCh (P : Int → Prop) (f : Int → Int) (lo hi u : Int) : Prop := (lo ≤ hi ∧ u < 81) ∧ (∀ k : Int, lo ≤ k → k ≤ hi → (0 ≤ f k ∧ f k ≤ u) ∧ P (f k)) ∧ (∀ k : Int, lo ≤ k → k < hi → f k < f (k + 1)) ∧ (∀ t : Int, 0 ≤ t → t ≤ u → P t → f lo ≤ t ∧ t ≤ f hi) ∧ (∀ k : Int, lo < k → k < hi → 0 < zt9 (f (k - 1)) (f k) (f (k + 1))) ∧ (∀ k : Int, lo ≤ k → k < hi → ∀ t : Int, 0 ≤ t → t ≤ u → P t → 0 < zt9 (f k) (f (k + 1)) t ∨ (zt9 (f k) (f (k + 1)) t = 0 ∧ f k ≤ t ∧ t ≤ f (k + 1))) ∧ ∀ k : Int, lo ≤ k → k < hi → k - lo ≤ f k / 9
theorem zCh.mono {P : Int → Prop} {f : Int → Int} {lo hi u : Int} (h : zCh P f lo hi u) : ∀ (n : Nat) (k : Int), lo ≤ k → k + n ≤ hi → f k ≤ f (k + n) ∧ (0 < n → f k < f (k + n))
  | 0, k, _, _ => by
    rw [show k + ((0 : Nat) : Int) = k by omega]
    exact ⟨Int.le_refl _, fun q => by omega⟩
  | n + 1, k, h1, h2 => by
    have ih := zCh.mono h n k h1 (by omega)
    have h3 := h.2.2.1 (k + n) (by omega) (by omega)
    rw [show k + ((n + 1 : Nat) : Int) = k + n + 1 by omega]
    exact ⟨by omega, fun _ => by omega⟩
theorem zCh.lt {P : Int → Prop} {f : Int → Int} {lo hi u : Int} (h : zCh P f lo hi u) {i j : Int} (h1 : lo ≤ i) (h2 : i < j) (h3 : j ≤ hi) : f i < f j := by
  have := h.mono (j - i).toNat i h1 (by omega)
  rw [show i + (((j - i).toNat : Nat) : Int) = j by omega] at this
  exact this.2 (by omega)
theorem zCh.one {P : Int → Prop} {f : Int → Int} {lo n : Int} (hn : 0 ≤ n ∧ n < 81) (hP : P n) (hf : f lo = n) (hl : ∀ t : Int, 0 ≤ t → t < n → ¬ P t) : zCh P f lo lo n := by
  refine ⟨⟨Int.le_refl _, hn.2⟩, fun k q1 q2 => ?_, fun k q1 q2 => by omega, fun t q1 q2 q3 => ?_, fun k q1 q2 => by omega, fun k q1 q2 => by omega, fun k q1 q2 => by omega⟩
  · rw [show k = lo by omega, hf]; exact ⟨⟨hn.1, Int.le_refl _⟩, hP⟩
  · rw [hf]
    by_cases q : t = n
    · omega
    · exact absurd q3 (hl t q1 (by omega))
theorem zCh.skip {P : Int → Prop} {f : Int → Int} {lo hi u : Int} (h : zCh P f lo hi u) (hu : u + 1 < 81) (hn : ¬ P (u + 1)) : zCh P f lo hi (u + 1) := by
  obtain ⟨h1, h2, h3, h4, h5, h6, h7⟩ := h
  refine ⟨⟨h1.1, hu⟩, fun k q1 q2 => ?_, h3, fun t q1 q2 q3 => ?_, h5, fun k q1 q2 t q3 q4 q5 => ?_, h7⟩
  · have := h2 k q1 q2
    exact ⟨by omega, this.2⟩
  · by_cases e : t = u + 1
    · exact absurd (e ▸ q3) hn
    · exact h4 t q1 (by omega) q3
  · by_cases e : t = u + 1
    · exact absurd (e ▸ q5) hn
    · exact h6 k q1 q2 t q3 (by omega) q5
theorem zCh.far {P : Int → Prop} {f : Int → Int} {lo hi u m n : Int} (h : zCh P f lo hi u) (hn : u < n ∧ n < 81) (hm : lo + 1 < m ∧ m ≤ hi + 1) (ht : 0 < zt9 (f (m - 2)) (f (m - 1)) n) : ∀ (j : Nat) (k : Int), k + j = m - 2 → lo ≤ k → 0 < zt9 (f k) (f (k + 1)) n
  | 0, k, e, hk => by
    rw [show k = m - 2 by omega, show m - 2 + 1 = m - 1 by omega]; exact ht
  | j + 1, k, e, hk => by
    have ih := zCh.far h hn hm ht j (k + 1) (by omega) (by omega)
    have h5 := h.2.2.2.2.1 (k + 1) (by omega) (by omega)
    rw [show k + 1 - 1 = k by omega] at h5
    have a0 := h.2.1 k hk (by omega)
    have a1 := h.lt (i := k) (j := k + 1) hk (by omega) (by omega)
    have a2 := h.lt (i := k + 1) (j := k + 1 + 1) (by omega) (by omega) (by omega)
    have a3 := h.2.1 (k + 1 + 1) (by omega) (by omega)
    exact zL1 (y := f (k + 1 + 1)) ⟨a0.1.1, a1, a2, by omega, hn.2⟩ h5 ih
theorem zCh.step {P : Int → Prop} {f g : Int → Int} {lo hi u m : Int} (h : zCh P f lo hi u) (hu : u + 1 < 81) (hP : P (u + 1)) (hm : lo < m ∧ m ≤ hi + 1) (hg : ∀ k : Int, lo ≤ k → k < m → g k = f k) (hgm : g m = u + 1) (hpop : m ≤ hi → zt9 (f (m - 1)) (f m) (u + 1) ≤ 0) (hst : m = lo + 1 ∨ 0 < zt9 (f (m - 2)) (f (m - 1)) (u + 1)) : zCh P g lo m (u + 1) := by
  have hM := h
  obtain ⟨h1, h2, h3, h4, h5, h6, h7⟩ := h
  have hlast := h2 hi (by omega) (by omega)
  have hml := h2 (m - 1) (by omega) (by omega)
  have glo : g lo = f lo := hg lo (by omega) (by omega)
  have gm1 : g (m - 1) = f (m - 1) := hg (m - 1) (by omega) (by omega)
  have gm2 : lo + 1 < m → g (m - 2) = f (m - 2) := fun q => hg (m - 2) (by omega) (by omega)
  refine ⟨⟨by omega, hu⟩, fun k q1 q2 => ?_, fun k q1 q2 => ?_, fun t q1 q2 q3 => ?_, fun k q1 q2 => ?_, fun k q1 q2 t q3 q4 q5 => ?_, fun k q1 q2 => ?_⟩
  · by_cases e : k = m
    · rw [e, hgm]; exact ⟨by omega, hP⟩
    · rw [hg k q1 (by omega)]
      have := h2 k q1 (by omega)
      exact ⟨by omega, this.2⟩
  · by_cases e : k + 1 = m
    · rw [e, hgm, hg k q1 (by omega)]
      have := h2 k q1 (by omega)
      omega
    · rw [hg k q1 (by omega), hg (k + 1) (by omega) (by omega)]; exact h3 k q1 (by omega)
  · rw [glo, hgm]
    have f0 := h2 lo (by omega) (by omega)
    by_cases e : t = u + 1
    · omega
    · have := h4 t q1 (by omega) q3
      omega
  · by_cases e : k + 1 = m
    · rw [show k + 1 = m from e, hgm, hg k (by omega) (by omega), hg (k - 1) (by omega) (by omega)]
      rcases hst with z | z
      · omega
      · rw [show k - 1 = m - 2 by omega, show k = m - 1 by omega]; exact z
    · rw [hg (k - 1) (by omega) (by omega), hg k (by omega) (by omega), hg (k + 1) (by omega) (by omega)]; exact h5 k q1 (by omega)
  · by_cases e : k + 1 = m
    · rw [show k + 1 = m from e, hgm, show k = m - 1 by omega, gm1]
      by_cases e2 : t = u + 1
      · exact Or.inr ⟨by rw [e2]; exact zt9_2 _ _, by omega, by omega⟩
      · have h4t := h4 t q3 (by omega) q5
        by_cases e3 : t ≤ f (m - 1)
        · by_cases e4 : t = f (m - 1)
          · exact Or.inr ⟨by rw [e4]; exact zt9_1 _ _, by omega, by omega⟩
          · rcases hst with z | z
            · exfalso
              rw [show m - 1 = lo by omega] at e3 e4
              omega
            · by_cases e5 : m = lo + 1
              · exfalso
                rw [show m - 1 = lo by omega] at e3 e4
                omega
              · have a0 := h2 (m - 2) (by omega) (by omega)
                have a1 := h3 (m - 2) (by omega) (by omega)
                have a2 := h6 (m - 2) (by omega) (by omega) t q3 (by omega) q5
                rw [show m - 2 + 1 = m - 1 by omega] at a1 a2
                exact Or.inl (zL2 (x := f (m - 2)) ⟨a0.1.1, a1, by omega, hu⟩ ⟨q3, by omega⟩ (by omega) z)
        · have hmh : m ≤ hi := by
            by_cases q : m ≤ hi
            · exact q
            · exfalso
              rw [show m - 1 = hi by omega] at e3
              omega
          have a1 := h3 (m - 1) (by omega) (by omega)
          have a2 := h6 (m - 1) (by omega) (by omega) t q3 (by omega) q5
          rw [show m - 1 + 1 = m by omega] at a1 a2
          have a3 := h2 m (by omega) hmh
          have a4 := zL3 (z := f m) (n := u + 1) (t := t) ⟨hml.1.1, a1, by omega⟩ ⟨by omega, hu⟩ ⟨by omega, by omega⟩ (hpop hmh) (by omega)
          by_cases e6 : zt9 (f (m - 1)) (u + 1) t = 0
          · exact Or.inr ⟨e6, by omega, by omega⟩
          · exact Or.inl (by omega)
    · rw [hg k q1 (by omega), hg (k + 1) (by omega) (by omega)]
      by_cases e2 : t = u + 1
      · rcases hst with z | z
        · omega
        · rw [e2]
          exact Or.inl (hM.far (n := u + 1) (m := m) ⟨by omega, hu⟩ (by omega) z (m - 2 - k).toNat k (by omega) q1)
      · exact h6 k q1 (by omega) t q3 (by omega) q5
  · by_cases e : k = hi
    · rw [hg k q1 q2, e]
      by_cases e2 : hi = lo
      · rw [e2]
        have := h2 lo (by omega) (by omega)
        omega
      · have a1 := h7 (hi - 1) (by omega) (by omega)
        have a2 := h3 (hi - 1) (by omega) (by omega)
        rw [show hi - 1 + 1 = hi by omega] at a2
        have a3 := h2 (hi - 1) (by omega) (by omega)
        rcases hst with z | z
        · omega
        · rw [show m - 2 = hi - 1 by omega, show m - 1 = hi by omega] at z
          have := zL4 ⟨a3.1.1, a2, by omega, hu⟩ z
          omega
    · rw [hg k q1 q2]; exact h7 k q1 (by omega)
theorem zCh.cg {P Q : Int → Prop} {f g : Int → Int} {lo hi u : Int} (h : zCh P f lo hi u) (hf : ∀ k : Int, lo ≤ k → k ≤ hi → g k = f k) (hP : ∀ t : Int, 0 ≤ t → t ≤ u → (P t ↔ Q t)) : zCh Q g lo hi u := by
  obtain ⟨h1, h2, h3, h4, h5, h6, h7⟩ := h
  refine ⟨h1, fun k q1 q2 => ?_, fun k q1 q2 => ?_, fun t q1 q2 q3 => ?_, fun k q1 q2 => ?_, fun k q1 q2 t q3 q4 q5 => ?_, fun k q1 q2 => ?_⟩
  · have := h2 k q1 q2
    rw [hf k q1 q2]; exact ⟨this.1, (hP _ this.1.1 this.1.2).mp this.2⟩
  · rw [hf k q1 (by omega), hf (k + 1) (by omega) (by omega)]; exact h3 k q1 q2
  · rw [hf lo (by omega) (by omega), hf hi (by omega) (by omega)]; exact h4 t q1 q2 ((hP t q1 q2).mpr q3)
  · rw [hf (k - 1) (by omega) (by omega), hf k (by omega) (by omega), hf (k + 1) (by omega) (by omega)]; exact h5 k q1 q2
  · rw [hf k q1 (by omega), hf (k + 1) (by omega) (by omega)]; exact h6 k q1 q2 t q3 q4 ((hP t q3 q4).mpr q5)
  · rw [hf k q1 (by omega)]; exact h7 k q1 q2


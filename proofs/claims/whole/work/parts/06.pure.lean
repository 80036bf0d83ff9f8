/-! ===== primes, remainders ===== -/
def zPr (p : Int) : Prop := p = 2 ∨ p = 3 ∨ p = 5 ∨ p = 7 ∨ p = 11 ∨ p = 13 ∨ p = 17 ∨ p = 19 ∨ p = 23 ∨ p = 29 ∨ p = 31
theorem zPr.rg {p : Int} (h : zPr p) : 2 ≤ p ∧ p ≤ 31 := by unfold zPr at h; omega
theorem zm_mul (a b p : Int) : (a % p * b) % p = (a * b) % p := by rw [Int.mul_emod, Int.emod_emod, ← Int.mul_emod]
theorem zm_mul2 (a b p : Int) : (a * (b % p)) % p = (a * b) % p := by rw [Int.mul_emod, Int.emod_emod, ← Int.mul_emod]
theorem zm_rg {a p : Int} (h : 0 < p) : 0 ≤ a % p ∧ a % p < p := ⟨Int.emod_nonneg a (by omega), Int.emod_lt_of_pos a h⟩
theorem zmul_rg {a b A B : Int} (h1 : 0 ≤ a) (h2 : a ≤ A) (h3 : 0 ≤ b) (h4 : b ≤ B) : 0 ≤ a * b ∧ a * b ≤ A * B := ⟨Int.mul_nonneg h1 h3, Int.mul_le_mul h2 h4 h3 (by omega)⟩
theorem zx_neg {a b : Int} (ha : zw_r32 a) (hb : zw_r32 b) (h0 : 0 ≤ b) : (Int32.ofInt a ^^^ Int32.ofInt b).toInt < 0 ↔ a < 0 := by
  have e : ∀ x : Int32, x.toInt < 0 ↔ x.toBitVec.msb = true := by
    intro x
    show x.toBitVec.toInt < 0 ↔ _
    rw [BitVec.msb_eq_toInt]
    simp
  have h1 := e (Int32.ofInt a)
  have h2 := e (Int32.ofInt b)
  rw [zt_of ha] at h1
  rw [zt_of hb] at h2
  have h3 : (Int32.ofInt b).toBitVec.msb = false := by
    cases h : (Int32.ofInt b).toBitVec.msb with
    | false => rfl
    | true => exact absurd (h2.mpr h) (by omega)
  rw [e, Int32.toBitVec_xor, BitVec.msb_xor, h3, Bool.xor_false]
  exact h1.symm
theorem zt_np {a p : Int} (hn : a < 0) : a.tmod p ≤ 0 := by
  have := Int.tmod_nonneg (a := -a) p (by omega)
  rw [Int.neg_tmod] at this
  omega
theorem zf_mod {a p : Int} (hp : 0 < p) : a % p = if a < 0 ∧ a.tmod p ≠ 0 then a.tmod p + p else a.tmod p := by
  have h := Int.mul_tdiv_add_tmod a p
  have h1 := Int.lt_tmod_of_pos a hp
  have h2 := Int.tmod_lt_of_pos a hp
  have e : a % p = a.tmod p % p := by
    have h4 : a = a.tmod p + p * a.tdiv p := by omega
    rw [h4, Int.add_mul_emod_self_left, ← h4]
  have h3 : a < 0 → a.tmod p ≤ 0 := by
    intro hn
    have := Int.tmod_nonneg (a := -a) p (by omega)
    rw [Int.neg_tmod] at this
    omega
  have h5 : 0 ≤ a → 0 ≤ a.tmod p := fun hn => Int.tmod_nonneg p hn
  by_cases hc : a < 0 ∧ a.tmod p ≠ 0
  · rw [if_pos hc, e]
    have := h3 hc.1
    have e2 : a.tmod p % p = (a.tmod p + p) % p := by rw [Int.add_emod_right]
    rw [e2, Int.emod_eq_of_lt (by omega) (by omega)]
  · rw [if_neg hc, e, Int.emod_eq_of_lt _ h2]
    by_cases hn : a < 0
    · have : a.tmod p = 0 := Classical.byContradiction fun q => hc ⟨hn, q⟩
      omega
    · exact h5 (by omega)

/-! ===== the class: hulls ===== -/
def zg9 (t : Int) : Int := 16 * (t / 9) + t % 9
def zP9 (P : Int → Prop) (t : Int) : Prop := t / 16 ≤ 8 ∧ t % 16 ≤ 8 ∧ P (9 * (t / 16) + t % 16)
theorem zg9_d {t : Int} (h : 0 ≤ t ∧ t < 81) : zg9 t / 16 = t / 9 ∧ zg9 t % 16 = t % 9 ∧ 0 ≤ zg9 t ∧ zg9 t < 144 := by
  unfold zg9
  omega
theorem zg9_P {P : Int → Prop} {t : Int} (h : 0 ≤ t ∧ t < 81) (hP : P t) : zP9 P (zg9 t) := by
  obtain ⟨h1, h2, h3, h4⟩ := zg9_d h
  refine ⟨by omega, by omega, ?_⟩
  rw [h1, h2, show 9 * (t / 9) + t % 9 = t by omega]
  exact hP
theorem zP9_g {P : Int → Prop} {t : Int} (h0 : 0 ≤ t) (h : zP9 P t) : ∃ s : Int, (0 ≤ s ∧ s < 81) ∧ P s ∧ t = zg9 s := by
  refine ⟨9 * (t / 16) + t % 16, ?_, h.2.2, ?_⟩
  · have := h.1; have := h.2.1; omega
  · have := h.1; have := h.2.1
    unfold zg9
    omega
theorem ztn_g {a b c : Int} (ha : 0 ≤ a ∧ a < 81) (hb : 0 ≤ b ∧ b < 81) (hc : 0 ≤ c ∧ c < 81) : ztn (zg9 a) (zg9 b) (zg9 c) = zt9 a b c := by
  unfold ztn zt9
  rw [(zg9_d ha).1, (zg9_d ha).2.1, (zg9_d hb).1, (zg9_d hb).2.1, (zg9_d hc).1, (zg9_d hc).2.1]
theorem zsq {w1 w2 : Int} (h : 0 < w1 ∨ 0 < w2) (h1 : 0 ≤ w1) : 0 < w1 * w1 + w2 * w2 := by
  have a2 : 0 ≤ w2 * w2 := by
    rcases Int.le_total 0 w2 with q | q
    · exact Int.mul_nonneg q q
    · have := Int.mul_nonneg (show 0 ≤ -w2 by omega) (show 0 ≤ -w2 by omega)
      rw [Int.neg_mul_neg] at this; exact this
  by_cases q : 0 < w1
  · have := Int.mul_pos q q
    omega
  · have e : w1 = 0 := by omega
    have := Int.mul_pos (show 0 < w2 by omega) (show 0 < w2 by omega)
    rw [e]; omega
theorem zL5v {s1 s2 w1 w2 : Int} (hs : 0 ≤ s1 ∧ (0 < s1 ∨ 0 < s2)) (hw : 0 ≤ w1 ∧ (0 < w1 ∨ 0 < w2)) (h : s1 * w2 - s2 * w1 = 0) : s1 * s1 + s2 * s2 < (s1 + w1) * (s1 + w1) + (s2 + w2) * (s2 + w2) := by
  have hD : 0 ≤ s1 * w1 + s2 * w2 := by
    by_cases q : 0 < s1
    · by_cases q2 : 0 < w1
      · have a1 : 0 ≤ s2 * w2 := by
          refine zpos q2 ?_
          have e : w1 * (s2 * w2) = s1 * (w2 * w2) := by
            have e1 : s2 * w1 = s1 * w2 := by omega
            rw [Int.mul_comm s2 w2, Int.mul_left_comm, Int.mul_comm w1 s2, e1, Int.mul_left_comm]
          rw [e]
          have b1 : 0 ≤ w2 * w2 := by
            rcases Int.le_total 0 w2 with z | z
            · exact Int.mul_nonneg z z
            · have := Int.mul_nonneg (show 0 ≤ -w2 by omega) (show 0 ≤ -w2 by omega)
              rw [Int.neg_mul_neg] at this; exact this
          exact Int.mul_nonneg (by omega) b1
        have a2 := Int.mul_pos q q2
        omega
      · exfalso
        have e : w1 = 0 := by omega
        rw [e, Int.mul_zero] at h
        have := Int.mul_pos q (show 0 < w2 by omega)
        omega
    · have e : s1 = 0 := by omega
      rw [e, Int.zero_mul] at h
      have e2 : w1 = 0 := by
        by_cases q2 : 0 < w1
        · exfalso
          have := Int.mul_pos (show 0 < s2 by omega) q2
          omega
        · omega
      have := Int.mul_nonneg (show 0 ≤ s2 by omega) (show 0 ≤ w2 by omega)
      rw [e]; omega
  have h2 := zsq hw.2 hw.1
  have e : (s1 + w1) * (s1 + w1) + (s2 + w2) * (s2 + w2) = s1 * s1 + s2 * s2 + 2 * (s1 * w1 + s2 * w2) + (w1 * w1 + w2 * w2) := by grind
  rw [e]
  omega
theorem zL5 {a b t : Int} (ha : 0 ≤ a ∧ a < 81) (hb : 0 ≤ b ∧ b < 81) (ht : 0 ≤ t ∧ t < 81) (h : zt9 a b t = 0) (hbt : (a < t ∧ t < b) ∨ (b < t ∧ t < a)) : zfar (zg9 a) (zg9 t) < zfar (zg9 a) (zg9 b) := by
  unfold zfar
  rw [(zg9_d ha).1, (zg9_d ha).2.1, (zg9_d hb).1, (zg9_d hb).2.1, (zg9_d ht).1, (zg9_d ht).2.1]
  unfold zt9 at h
  obtain ⟨s1, hs1⟩ : ∃ s1, s1 = t / 9 - a / 9 := ⟨_, rfl⟩
  obtain ⟨s2, hs2⟩ : ∃ s2, s2 = t % 9 - a % 9 := ⟨_, rfl⟩
  obtain ⟨w1, hw1⟩ : ∃ w1, w1 = b / 9 - t / 9 := ⟨_, rfl⟩
  obtain ⟨w2, hw2⟩ : ∃ w2, w2 = b % 9 - t % 9 := ⟨_, rfl⟩
  have e1 : b / 9 - a / 9 = s1 + w1 := by omega
  have e2 : b % 9 - a % 9 = s2 + w2 := by omega
  rw [← hs1, ← hs2, e1, e2] at h
  rw [← hs1, ← hs2, e1, e2]
  have h9 : s1 * w2 - s2 * w1 = 0 := by grind
  rcases hbt with q | q
  · exact zL5v (by omega) (by omega) h9
  · have := zL5v (s1 := -s1) (s2 := -s2) (w1 := -w1) (w2 := -w2) (by omega) (by omega) (by grind)
    grind
theorem zEd_g {P : Int → Prop} {a b : Int} (ha : 0 ≤ a ∧ a < 81) (hb : 0 ≤ b ∧ b < 81) (hab : a ≠ b) (h : ∀ t : Int, 0 ≤ t → t < 81 → P t → 0 < zt9 a b t ∨ (zt9 a b t = 0 ∧ ((a ≤ t ∧ t ≤ b) ∨ (b ≤ t ∧ t ≤ a)))) : zEd (zP9 P) (zg9 a) (zg9 b) := by
  have a9 := zg9_d ha
  have b9 := zg9_d hb
  refine ⟨fun t q1 q2 q3 q4 q5 => ?_, fun e => ?_⟩
  · obtain ⟨s, hs, hP, rfl⟩ := zP9_g q1 q3
    rw [ztn_g ha hb hs]
    rcases h s hs.1 hs.2 hP with z | ⟨z1, z2⟩
    · exact Or.inl z
    · refine Or.inr ⟨z1, zL5 ha hb hs z1 ?_⟩
      have n1 : s ≠ a := fun q => q4 (by rw [q])
      have n2 : s ≠ b := fun q => q5 (by rw [q])
      omega
  · exfalso
    unfold zg9 at e
    omega
theorem zHu_of {P : Int → Prop} {f : Int → Int} {H N : Int} (h1 : zCh P f 0 H 80) (h2 : zCh (fun t => P (80 - t)) (fun k => 80 - f k) H N 80) : (N = 0 ∧ zHu (zP9 P) (fun _ => zg9 (f 0)) 1) ∨ (2 ≤ N ∧ zHu (zP9 P) (fun k => zg9 (f k)) N) := by
  have a0 := h1.2.1 0 (by omega) h1.1.1
  have aH := h1.2.1 H h1.1.1 (by omega)
  have aN := h2.2.1 N h2.1.1 (by omega)
  dsimp only at aN
  have hHN := h2.1.1
  have hH0 := h1.1.1
  have fN : f N = f 0 := by
    have b1 := h2.2.2.2.1 (80 - f 0) (by omega) (by omega) (show P (80 - (80 - f 0)) by rw [show 80 - (80 - f 0) = f 0 by omega]; exact a0.2)
    dsimp only at b1
    have b2 := h1.2.2.2.1 (f N) (by omega) (by omega) (by have := aN.2; rw [show 80 - (80 - f N) = f N by omega] at this; exact this)
    omega
  have rng : ∀ k : Int, 0 ≤ k → k ≤ N → (0 ≤ f k ∧ f k < 81) ∧ P (f k) := by
    intro k q1 q2
    by_cases q : k ≤ H
    · have := h1.2.1 k q1 q
      exact ⟨by omega, this.2⟩
    · have := h2.2.1 k (by omega) q2
      dsimp only at this
      have p9 := this.2
      rw [show 80 - (80 - f k) = f k by omega] at p9
      exact ⟨by omega, p9⟩
  by_cases hN : N = 0
  · refine Or.inl ⟨hN, ?_⟩
    have hall : ∀ t : Int, 0 ≤ t → t < 81 → P t → t = f 0 := fun t q1 q2 q3 => by
      have := h1.2.2.2.1 t q1 (by omega) q3
      rw [show H = 0 by omega] at this
      omega
    have g9 := zg9_d (t := f 0) (by omega)
    refine ⟨by decide, fun i _ _ => ⟨⟨g9.2.2.1, g9.2.2.2⟩, zg9_P (by omega) a0.2⟩, fun t q1 q2 q3 => ?_, rfl, fun i q1 q2 => by omega, fun i q1 q2 => ⟨fun t q3 q4 q5 q6 => ?_, fun _ t q3 q4 q5 => ?_⟩⟩
    · obtain ⟨s, hs, hP, rfl⟩ := zP9_g q1 q3
      rw [hall s hs.1 hs.2 hP]; exact Int.le_refl _
    · obtain ⟨s, hs, hP, rfl⟩ := zP9_g q3 q5
      exact absurd (by rw [hall s hs.1 hs.2 hP]) q6
    · obtain ⟨s, hs, hP, rfl⟩ := zP9_g q3 q5
      rw [hall s hs.1 hs.2 hP]
  · have hH1 : 0 < H := by
      by_cases q : 0 < H
      · exact q
      · exfalso
        have e : H = 0 := by omega
        have b1 := h2.lt (i := H) (j := N) (by omega) (by omega) (by omega)
        rw [e] at b1
        omega
    have f0H := h1.lt (i := 0) (j := H) (by omega) hH1 (by omega)
    have hNH : H < N := by
      by_cases q : H < N
      · exact q
      · exfalso
        have e : N = H := by omega
        rw [e] at fN
        omega
    refine Or.inr ⟨by omega, ?_⟩
    have c1 := h1.2.2.2.2.2.2 (H - 1) (by omega) (by omega)
    have c2 := h1.2.1 (H - 1) (by omega) (by omega)
    have c3 := h2.2.2.2.2.2.2 (N - 1) (by omega) (by omega)
    have c4 := h2.2.1 (N - 1) (by omega) (by omega)
    refine ⟨⟨by omega, ?_⟩, fun i q1 q2 => ?_, fun t q1 q2 q3 => ?_, by show zg9 (f N) = zg9 (f 0); rw [fN], fun i q1 q2 => ?_, fun i q1 q2 => ?_⟩
    · dsimp only at c3 c4
      omega
    · have := rng i q1 q2
      have g9 := zg9_d this.1
      exact ⟨⟨g9.2.2.1, g9.2.2.2⟩, zg9_P this.1 this.2⟩
    · obtain ⟨s, hs, hP, rfl⟩ := zP9_g q1 q3
      have := h1.2.2.2.1 s hs.1 (by omega) hP
      show zg9 (f 0) ≤ zg9 s
      unfold zg9
      omega
    · intro e
      have r1 := rng i (by omega) (by omega)
      have e2 : f i = f 0 := by
        have e3 : zg9 (f i) = zg9 (f 0) := e
        unfold zg9 at e3
        omega
      by_cases q : i ≤ H
      · have := h1.lt (i := 0) (j := i) (by omega) q1 q
        omega
      · have := h2.lt (i := i) (j := N) (by omega) q2 (by omega)
        omega
    · have r1 := rng i q1 (by omega)
      have r2 := rng (i + 1) (by omega) (by omega)
      by_cases q : i < H
      · have b1 := h1.2.2.1 i q1 q
        refine zEd_g r1.1 r2.1 (by omega) (fun t q3 q4 q5 => ?_)
        rcases h1.2.2.2.2.2.1 i q1 q t q3 (by omega) q5 with z | z
        · exact Or.inl z
        · exact Or.inr ⟨z.1, Or.inl z.2⟩
      · have b1 := h2.2.2.1 i (by omega) q2
        dsimp only at b1
        refine zEd_g r1.1 r2.1 (by omega) (fun t q3 q4 q5 => ?_)
        have z := h2.2.2.2.2.2.1 i (by omega) q2 (80 - t) (by omega) (by omega) (show P (80 - (80 - t)) by rw [show 80 - (80 - t) = t by omega]; exact q5)
        dsimp only at z
        rw [zt9_rf r1.1 r2.1 ⟨q3, q4⟩] at z
        rcases z with z | z
        · exact Or.inl z
        · exact Or.inr ⟨z.1, Or.inr (by omega)⟩
theorem zCh.sz {P : Int → Prop} {f : Int → Int} {lo hi u : Int} (h : zCh P f lo hi u) : hi - lo ≤ 9 := by
  by_cases q : lo < hi
  · have a1 := h.2.2.2.2.2.2 (hi - 1) (by omega) (by omega)
    have a2 := h.2.1 (hi - 1) (by omega) (by omega)
    have := h.1.2
    omega
  · omega
theorem zHu_cg {P Q : Int → Prop} {f : Int → Int} {n : Int} (h : zHu P f n) (e : ∀ t : Int, 0 ≤ t → t < 144 → (P t ↔ Q t)) : zHu Q f n := by
  obtain ⟨h1, h2, h3, h4, h5, h6⟩ := h
  refine ⟨h1, fun i q1 q2 => ?_, fun t q1 q2 q3 => h3 t q1 q2 ((e t q1 q2).mpr q3), h4, h5, fun i q1 q2 => ?_⟩
  · have := h2 i q1 q2
    exact ⟨this.1, (e _ this.1.1 this.1.2).mp this.2⟩
  · obtain ⟨z1, z2⟩ := h6 i q1 q2
    exact ⟨fun t q3 q4 q5 => z1 t q3 q4 ((e t q3 q4).mpr q5), fun z t q3 q4 q5 => z2 z t q3 q4 ((e t q3 q4).mpr q5)⟩
/-- the class's corners are f -/
def zC9 (m : zMem) (f : Int → Int) (n : Int) : Prop := m 57 2 = n ∧ (1 ≤ n ∧ n ≤ 40) ∧ ∀ i : Int, 0 ≤ i → i < n → (0 ≤ m 59 i ∧ m 59 i < 81) ∧ f i = zg9 (m 59 i)

set_option maxRecDepth 100000 in
set_option maxHeartbeats 4000000 in
theorem sp_X5_turning {l : Launch} {L : Nat} {mem : zMem} {Q : zQ}  (a : Int) (b : Int) (c : Int) (ha : 0 ≤ a ∧ a < 81) (hb : 0 ≤ b ∧ b < 81) (hc : 0 ≤ c ∧ c < 81) (k : Q (some (zI (zt9 a b c))) (zS L) mem) : zw_Ok l mm_X5_turning [zI a, zI b, zI c] (zS L) mem Q := by
  refine zw_okA (fun hA => ?_)
  have rg_a : -2147483648 ≤ a ∧ a < 2147483648 := hA.1
  have rg_b : -2147483648 ≤ b ∧ b < 2147483648 := hA.2.1
  have rg_c : -2147483648 ≤ c ∧ c < 2147483648 := hA.2.2.1
  refine zw_enter (by decide) (Nat.le_of_ble_eq_true rfl) rfl ?_
  show zw_Wp l mm_X5_turning (zS L) 0 [some (zI a), some (zI b), some (zI c), none, none] [] mem 0 0 Q
  have w1 := zml2 (x := b / 9 - a / 9) (y := c % 9 - a % 9) (by omega) (by omega)
  have w2 := zml2 (x := b % 9 - a % 9) (y := c / 9 - a / 9) (by omega) (by omega)
  refine wp_iload_n dd_X5_turning_0 rfl ?_
  refine wp_bipush dd_X5_turning_1 (by decide) ?_
  refine wp_idivP dd_X5_turning_3 (by omega) (by omega) ?_
  refine wp_iload_n dd_X5_turning_4 rfl ?_
  refine wp_bipush dd_X5_turning_5 (by decide) ?_
  refine wp_idivP dd_X5_turning_7 (by omega) (by omega) ?_
  refine wp_isubC dd_X5_turning_8 (by omega) ?_
  refine wp_istore_n (ls2 := [some (zI a), some (zI b), some (zI c), some (zI ((b / 9) - (a / 9))), none]) dd_X5_turning_9 rfl (by decide) rfl ?_
  refine wp_iload_n dd_X5_turning_10 rfl ?_
  refine wp_bipush dd_X5_turning_11 (by decide) ?_
  refine wp_iremP dd_X5_turning_13 (by omega) (by omega) ?_
  refine wp_iload_n dd_X5_turning_14 rfl ?_
  refine wp_bipush dd_X5_turning_15 (by decide) ?_
  refine wp_iremP dd_X5_turning_17 (by omega) (by omega) ?_
  refine wp_isubC dd_X5_turning_18 (by omega) ?_
  refine wp_istore (ls2 := [some (zI a), some (zI b), some (zI c), some (zI ((b / 9) - (a / 9))), some (zI ((b % 9) - (a % 9)))]) dd_X5_turning_19 rfl (by decide) rfl ?_
  refine wp_iload_n dd_X5_turning_21 rfl ?_
  refine wp_iload_n dd_X5_turning_22 rfl ?_
  refine wp_bipush dd_X5_turning_23 (by decide) ?_
  refine wp_iremP dd_X5_turning_25 (by omega) (by omega) ?_
  refine wp_iload_n dd_X5_turning_26 rfl ?_
  refine wp_bipush dd_X5_turning_27 (by decide) ?_
  refine wp_iremP dd_X5_turning_29 (by omega) (by omega) ?_
  refine wp_isubC dd_X5_turning_30 (by omega) ?_
  refine wp_imulC dd_X5_turning_31 (by omega) ?_
  refine wp_iload dd_X5_turning_32 rfl ?_
  refine wp_iload_n dd_X5_turning_34 rfl ?_
  refine wp_bipush dd_X5_turning_35 (by decide) ?_
  refine wp_idivP dd_X5_turning_37 (by omega) (by omega) ?_
  refine wp_iload_n dd_X5_turning_38 rfl ?_
  refine wp_bipush dd_X5_turning_39 (by decide) ?_
  refine wp_idivP dd_X5_turning_41 (by omega) (by omega) ?_
  refine wp_isubC dd_X5_turning_42 (by omega) ?_
  refine wp_imulC dd_X5_turning_43 (by omega) ?_
  refine wp_isubC dd_X5_turning_44 (by omega) ?_
  refine wp_ireturn (st := []) dd_X5_turning_45 rfl ?_
  refine zq_I ?_ ?_ k
  · first | rfl | omega | (rw [if_pos (by omega)]) | (rw [if_neg (by omega)])
  · rfl

set_option maxRecDepth 100000 in
set_option maxHeartbeats 4000000 in
theorem sp_X5_goOn {l : Launch} {L : Nat} {mem : zMem} {Q : zQ}  (ce : Int) (kp : Int) (hce : 0 ≤ ce ∧ ce < 81) (hkp : 1 ≤ kp) (hn : 0 ≤ mem 57 2 ∧ mem 57 2 ≤ 100) (he : ∀ x : Int, 0 ≤ x → x < mem 57 2 → 0 ≤ mem 59 x ∧ mem 59 x < 81) (k : ∀ (m : Int) (mem2 : zMem), (0 ≤ m ∧ m ≤ mem 57 2 ∧ mem2 57 2 = m + 1 ∧ mem2 59 m = ce) → (∀ x : Int, x < m → mem2 59 x = mem 59 x) → (∀ q : Int, m ≤ q → q < mem 57 2 → kp ≤ q ∧ zt9 (mem 59 (q - 1)) (mem 59 q) ce ≤ 0) → (m ≤ kp ∨ m ≤ 1 ∨ 0 < zt9 (mem 59 (m - 2)) (mem 59 (m - 1)) ce) → (∀ a : Nat, a ≠ 57 → a ≠ 59 → mem2 a = mem a) → Q none (zS L) mem2) : zw_Ok l mm_X5_goOn [zR 57, zI ce, zI kp] (zS L) mem Q := by
  refine zw_okA (fun hA => ?_)
  have rg_ce : -2147483648 ≤ ce ∧ ce < 2147483648 := hA.2.1
  have rg_kp : -2147483648 ≤ kp ∧ kp < 2147483648 := hA.2.2.1
  refine zw_enter (by decide) (Nat.le_of_ble_eq_true rfl) rfl ?_
  show zw_Wp l mm_X5_goOn (zS L) 0 [some (zR 57), some (zI ce), some (zI kp)] [] mem 0 0 Q
  have lp0 : ∀ (nf : Nat) (mm : zMem), (0 ≤ mm 57 2 ∧ mm 57 2 ≤ mem 57 2) → (∀ q : Int, mm 57 2 ≤ q → q < mem 57 2 → kp ≤ q ∧ zt9 (mem 59 (q - 1)) (mem 59 q) ce ≤ 0) → (∀ a : Nat, a ≠ 57 → mm a = mem a) → (mm 57 2) < (nf : Int) → zw_Wp l mm_X5_goOn (zS L) 0 [some (zR 57), some (zI ce), some (zI kp)] [] mm 0 0 Q := by
    intro nf
    induction nf with
    | zero =>
      intro mm h0 hq hr hmu
      exfalso; omega
    | succ nf ih0 =>
      intro mm h0 hq hr hmu
      have m59 : mm 59 = mem 59 := hr 59 (by decide)
      have e1 := fun q => he (mm 57 2 - 1) q
      have e2 := fun q => he (mm 57 2 - 2) q
      rw [← m59] at e1 e2
      refine wp_aload_n dd_X5_goOn_0 rfl ?_
      have ih58 : (mm 57 2 ≤ kp ∨ mm 57 2 ≤ 1 ∨ 0 < zt9 (mem 59 (mm 57 2 - 2)) (mem 59 (mm 57 2 - 1)) ce) → (0 : Int) < 1 → zw_Wp l mm_X5_goOn (zS L) 58 [some (zR 57), some (zI ce), some (zI kp)] [] mm 0 0 Q := by
        intro  hst hone
        refine wp_aload_n dd_X5_goOn_58 rfl ?_
        refine wp_getZ 2 rfl dd_X5_goOn_59 gf_X5_37 rfl kk_57 (by decide) (zlt rfl) ?_
        refine wp_aload_n dd_X5_goOn_62 rfl ?_
        refine wp_getR dd_X5_goOn_63 gf_X5_15 rfl kk_57 (by decide) (zlt rfl) rr_57_1 ?_
        refine wp_alen dd_X5_goOn_66 kk_59 (zlt rfl) (by decide) ?_
        show zw_Wp l mm_X5_goOn (zS L) 67 [some (zR 57), some (zI ce), some (zI kp)] [zI 162, zI (mm 57 2)] mm 0 0 Q
        refine wp_icmp_ge (tgt := 90) dd_X5_goOn_67 (by decide) (fun c67_1 => ?_) (fun c67_1 => ?_)
        · skip
          exfalso; omega
        · skip
          refine wp_aload_n dd_X5_goOn_70 rfl ?_
          refine wp_getR dd_X5_goOn_71 gf_X5_15 rfl kk_57 (by decide) (zlt rfl) rr_57_1 ?_
          refine wp_aload_n dd_X5_goOn_74 rfl ?_
          refine wp_getZ 2 rfl dd_X5_goOn_75 gf_X5_37 rfl kk_57 (by decide) (zlt rfl) ?_
          refine wp_iload_n dd_X5_goOn_78 rfl ?_
          refine wp_iast dd_X5_goOn_79 kk_59 (zlt rfl) (by omega) (by omega) ?_
          refine wp_aload_n dd_X5_goOn_80 rfl ?_
          refine wp_dup dd_X5_goOn_81 rfl ?_
          refine wp_getV 2 (v := mm 57 2) rfl (by rw [zu_row (by decide)]) dd_X5_goOn_82 gf_X5_37 rfl kk_57 (by decide) (zlt rfl) ?_
          refine wp_iconst dd_X5_goOn_85 (zr_lit rfl) ?_
          refine wp_iaddC dd_X5_goOn_86 (by omega) ?_
          refine wp_putzI 2 rfl dd_X5_goOn_87 pf_X5_37 rfl kk_57 (by decide) (zlt rfl) ?_
          refine wp_return (st := []) dd_X5_goOn_90 rfl ?_
          refine k (mm 57 2) _ ⟨h0.1, h0.2, ?_, ?_⟩ (fun x hx => ?_) hq hst (fun a q1 q2 => ?_)
          · rw [zu_s]
          · rw [zu_row (by decide), zu_s]
          · rw [zu_row (by decide), zu_n (Or.inr (by omega)), m59]
          · rw [zu_row q1, zu_row q2]; exact hr a q1
      refine wp_getZ 2 rfl dd_X5_goOn_1 gf_X5_37 rfl kk_57 (by decide) (zlt rfl) ?_
      refine wp_iload_n dd_X5_goOn_4 rfl ?_
      refine wp_icmp_le (tgt := 58) dd_X5_goOn_5 (by decide) (fun c5_2 => ?_) (fun c5_2 => ?_)
      · skip
        refine ih58  ?_ ?_
        · first | omega | (rw [← m59]; omega)
        · omega
      · skip
        refine wp_aload_n dd_X5_goOn_8 rfl ?_
        refine wp_getZ 2 rfl dd_X5_goOn_9 gf_X5_37 rfl kk_57 (by decide) (zlt rfl) ?_
        refine wp_iconst dd_X5_goOn_12 (zr_lit rfl) ?_
        refine wp_icmp_le (tgt := 58) dd_X5_goOn_13 (by decide) (fun c13_3 => ?_) (fun c13_3 => ?_)
        · skip
          refine ih58  ?_ ?_
          · first | omega | (rw [← m59]; omega)
          · omega
        · skip
          refine wp_aload_n dd_X5_goOn_16 rfl ?_
          refine wp_getR dd_X5_goOn_17 gf_X5_15 rfl kk_57 (by decide) (zlt rfl) rr_57_1 ?_
          refine wp_aload_n dd_X5_goOn_20 rfl ?_
          refine wp_getZ 2 rfl dd_X5_goOn_21 gf_X5_37 rfl kk_57 (by decide) (zlt rfl) ?_
          refine wp_iconst dd_X5_goOn_24 (zr_lit rfl) ?_
          refine wp_isubC dd_X5_goOn_25 (by omega) ?_
          refine wp_iald dd_X5_goOn_26 kk_59 (zlt rfl) (by omega) (by omega) ?_
          refine wp_aload_n dd_X5_goOn_27 rfl ?_
          refine wp_getR dd_X5_goOn_28 gf_X5_15 rfl kk_57 (by decide) (zlt rfl) rr_57_1 ?_
          refine wp_aload_n dd_X5_goOn_31 rfl ?_
          refine wp_getZ 2 rfl dd_X5_goOn_32 gf_X5_37 rfl kk_57 (by decide) (zlt rfl) ?_
          refine wp_iconst dd_X5_goOn_35 (zr_lit rfl) ?_
          refine wp_isubC dd_X5_goOn_36 (by omega) ?_
          refine wp_iald dd_X5_goOn_37 kk_59 (zlt rfl) (by omega) (by omega) ?_
          refine wp_iload_n dd_X5_goOn_38 rfl ?_
          refine wp_callS (M' := mm_X5_turning) (As := [zI (mm 59 ((mm 57 2) - 2)), zI (mm 59 ((mm 57 2) - 1)), zI ce]) (rest := []) dd_X5_goOn_39 lk_X5_45 mS_X5_turning rfl (by decide) (by decide) (Nat.le_of_ble_eq_true rfl) rfl (sp_X5_turning  (mm 59 ((mm 57 2) - 2)) (mm 59 ((mm 57 2) - 1)) ce (e2 (by omega) (by omega)) (e1 (by omega) (by omega)) hce ?_)
          show zw_Wp l mm_X5_goOn (zS L) 42 [some (zR 57), some (zI ce), some (zI kp)] [zI (zt9 (mm 59 ((mm 57 2) - 2)) (mm 59 ((mm 57 2) - 1)) ce)] mm 0 0 Q
          refine wp_if_gt (tgt := 58) dd_X5_goOn_42 (by decide) (fun c42_4 => ?_) (fun c42_4 => ?_)
          · skip
            refine ih58  ?_ ?_
            · first | omega | (rw [← m59]; omega)
            · omega
          · skip
            refine wp_aload_n dd_X5_goOn_45 rfl ?_
            refine wp_dup dd_X5_goOn_46 rfl ?_
            refine wp_getZ 2 rfl dd_X5_goOn_47 gf_X5_37 rfl kk_57 (by decide) (zlt rfl) ?_
            refine wp_iconst dd_X5_goOn_50 (zr_lit rfl) ?_
            refine wp_isubC dd_X5_goOn_51 (by omega) ?_
            refine wp_putzI 2 rfl dd_X5_goOn_52 pf_X5_37 rfl kk_57 (by decide) (zlt rfl) ?_
            refine wp_goto (tgt := 0) dd_X5_goOn_55 (by decide) ?_
            refine ih0 (zu mm 57 2 ((mm 57 2) - 1)) ?_ ?_ ?_ ?_
            · rw [zu_s]; omega
            · intro q q1 q2
              rw [zu_s] at q1
              by_cases e : q = mm 57 2 - 1
              · subst e
                rw [show mm 57 2 - 1 - 1 = mm 57 2 - 2 by omega, ← m59]
                exact ⟨by omega, by omega⟩
              · exact hq q (by omega) q2
            · intro a ha; rw [zu_row ha]; exact hr a ha
            · rw [zu_s]; omega
  refine lp0 ((mem 57 2 : Int)).toNat.succ mem ?_ ?_ ?_ ?_
  · first | omega | assumption | (intros; omega)
  · intros; omega
  · intros; rfl
  · omega

set_option maxRecDepth 100000 in
set_option maxHeartbeats 4000000 in
theorem sp_X5_wrap {l : Launch} {L : Nat} {mem : zMem} {Q : zQ} (t0 : Int)  (ht0 : (0 ≤ t0 ∧ t0 < 81) ∧ mem 58 t0 ≠ 0) (k : ∀ (f : Int → Int) (n : Int) (mem2 : zMem), (zHu (zP9 (fun t => mem 58 t ≠ 0)) f n) → (zC9 mem2 f n) → (∀ a : Nat, a ≠ 57 → a ≠ 59 → mem2 a = mem a) → Q none (zS L) mem2) : zw_Ok l mm_X5_wrap [zR 57] (zS L) mem Q := by
  refine zw_enter (by decide) (Nat.le_of_ble_eq_true rfl) rfl ?_
  show zw_Wp l mm_X5_wrap (zS L) 0 [some (zR 57), none, none, none] [] mem 0 0 Q
  refine wp_aload_n dd_X5_wrap_0 rfl ?_
  refine wp_iconst dd_X5_wrap_1 (zr_lit rfl) ?_
  refine wp_putzI 2 rfl dd_X5_wrap_2 pf_X5_37 rfl kk_57 (by decide) (zlt rfl) ?_
  refine wp_iconst dd_X5_wrap_5 (zr_lit rfl) ?_
  refine wp_istore_n (ls2 := [some (zR 57), some (zI 0), none, none]) dd_X5_wrap_6 rfl (by decide) rfl ?_
  have lp7 : ∀ (nf : Nat) (i : Int) (mm : zMem), (0 ≤ i) → (i ≤ 81) → ((mm 57 2 = 0 ∧ ∀ t : Int, 0 ≤ t → t < i → mem 58 t = 0) ∨ (1 ≤ mm 57 2 ∧ zCh (fun t => mem 58 t ≠ 0) (mm 59) 0 (mm 57 2 - 1) (i - 1))) → (∀ a : Nat, a ≠ 57 → a ≠ 59 → mm a = mem a) → (81 - i) < (nf : Int) → zw_Wp l mm_X5_wrap (zS L) 7 [some (zR 57), some (zI i), none, none] [] mm 0 0 Q := by
    intro nf
    induction nf with
    | zero =>
      intro i mm i0 i1 hC h3 hmu
      exfalso; omega
    | succ nf ih7 =>
      intro i mm i0 i1 hC h3 hmu
      have m58 : mm 58 = mem 58 := h3 58 (by decide) (by decide)
      have hsz : mm 57 2 = 0 ∨ (1 ≤ mm 57 2 ∧ mm 57 2 ≤ 10) := by
        rcases hC with z | z
        · exact Or.inl z.1
        · have := z.2.sz
          omega
      refine wp_iload_n dd_X5_wrap_7 rfl ?_
      refine wp_bipush dd_X5_wrap_8 (by decide) ?_
      refine wp_icmp_ge (tgt := 34) dd_X5_wrap_10 (by decide) (fun c10_1 => ?_) (fun c10_1 => ?_)
      · skip
        have hCh : 1 ≤ mm 57 2 ∧ zCh (fun t => mem 58 t ≠ 0) (mm 59) 0 (mm 57 2 - 1) 80 := by
          rcases hC with z | z
          · exact absurd (z.2 t0 ht0.1.1 (by omega)) ht0.2
          · rw [show i - 1 = 80 by omega] at z; exact z
        obtain ⟨hs1, hCh⟩ := hCh
        have hfa := hCh.2.1 (mm 57 2 - 1) (by omega) (by omega)
        have hgr := hCh.2.2.2.1
        refine wp_aload_n dd_X5_wrap_34 rfl ?_
        refine wp_getZ 2 rfl dd_X5_wrap_35 gf_X5_37 rfl kk_57 (by decide) (zlt rfl) ?_
        refine wp_istore_n (ls2 := [some (zR 57), some (zI (mm 57 2)), none, none]) dd_X5_wrap_38 rfl (by decide) rfl ?_
        refine wp_aload_n dd_X5_wrap_39 rfl ?_
        refine wp_getZ 2 rfl dd_X5_wrap_40 gf_X5_37 rfl kk_57 (by decide) (zlt rfl) ?_
        refine wp_if_le (tgt := 60) dd_X5_wrap_43 (by decide) (fun c43_2 => ?_) (fun c43_2 => ?_)
        · skip
          exfalso; omega
        · skip
          refine wp_aload_n dd_X5_wrap_46 rfl ?_
          refine wp_getR dd_X5_wrap_47 gf_X5_15 rfl kk_57 (by decide) (zlt rfl) rr_57_1 ?_
          refine wp_aload_n dd_X5_wrap_50 rfl ?_
          refine wp_getZ 2 rfl dd_X5_wrap_51 gf_X5_37 rfl kk_57 (by decide) (zlt rfl) ?_
          refine wp_iconst dd_X5_wrap_54 (zr_lit rfl) ?_
          refine wp_isubC dd_X5_wrap_55 (by omega) ?_
          refine wp_iald dd_X5_wrap_56 kk_59 (zlt rfl) (by omega) (by omega) ?_
          refine wp_goto (tgt := 61) dd_X5_wrap_57 (by decide) ?_
          refine wp_istore_n (ls2 := [some (zR 57), some (zI (mm 57 2)), some (zI (mm 59 ((mm 57 2) - 1))), none]) dd_X5_wrap_61 rfl (by decide) rfl ?_
          refine wp_iload_n dd_X5_wrap_62 rfl ?_
          refine wp_iconst dd_X5_wrap_63 (zr_lit rfl) ?_
          refine wp_isubC dd_X5_wrap_64 (by omega) ?_
          refine wp_istore_n (ls2 := [some (zR 57), some (zI (mm 57 2)), some (zI (mm 59 ((mm 57 2) - 1))), some (zI ((mm 59 ((mm 57 2) - 1)) - 1))]) dd_X5_wrap_65 rfl (by decide) rfl ?_
          have lp66 : ∀ (nf : Nat) (j : Int) (mn : zMem), (-1 ≤ j) → (j < mm 59 (mm 57 2 - 1)) → (mm 57 2 ≤ mn 57 2) → (zCh (fun t => mem 58 (80 - t) ≠ 0) (fun k => 80 - mn 59 k) (mm 57 2 - 1) (mn 57 2 - 1) (80 - (j + 1))) → (∀ x : Int, 0 ≤ x → x < mm 57 2 → mn 59 x = mm 59 x) → (∀ a : Nat, a ≠ 57 → a ≠ 59 → mn a = mem a) → (j + 1) < (nf : Int) → zw_Wp l mm_X5_wrap (zS L) 66 [some (zR 57), some (zI (mm 57 2)), some (zI (mm 59 ((mm 57 2) - 1))), some (zI j)] [] mn 0 0 Q := by
            intro nf
            induction nf with
            | zero =>
              intro j mn j0 j1 hS hD hE k3 hmu
              exfalso; omega
            | succ nf ih66 =>
              intro j mn j0 j1 hS hD hE k3 hmu
              have n58 : mn 58 = mem 58 := k3 58 (by decide) (by decide)
              have hsz2 := hD.sz
              have hsz1 := hCh.sz
              have hEn : ∀ x : Int, 0 ≤ x → x < mn 57 2 → 0 ≤ mn 59 x ∧ mn 59 x < 81 := fun x q1 q2 => by
                by_cases q : x < mm 57 2
                · rw [hE x q1 q]; have := hCh.2.1 x (by omega) (by omega); omega
                · have := hD.2.1 x (by omega) (by omega)
                  dsimp only at this
                  omega
              refine wp_iload_n dd_X5_wrap_66 rfl ?_
              refine wp_if_lt (tgt := 91) dd_X5_wrap_67 (by decide) (fun c67_3 => ?_) (fun c67_3 => ?_)
              · skip
                rw [show (80 : Int) - (j + 1) = 80 by omega] at hD
                have hL9 : zCh (fun t => mem 58 t ≠ 0) (mn 59) 0 (mm 57 2 - 1) 80 := hCh.cg (fun k q1 q2 => hE k q1 (by omega)) (fun _ _ _ => Iff.rfl)
                have hfin := zHu_of hL9 hD
                refine wp_aload_n dd_X5_wrap_91 rfl ?_
                refine wp_getZ 2 rfl dd_X5_wrap_92 gf_X5_37 rfl kk_57 (by decide) (zlt rfl) ?_
                refine wp_iconst dd_X5_wrap_95 (zr_lit rfl) ?_
                refine wp_icmp_le (tgt := 109) dd_X5_wrap_96 (by decide) (fun c96_4 => ?_) (fun c96_4 => ?_)
                · skip
                  refine wp_return (st := []) dd_X5_wrap_109 rfl ?_
                  rcases hfin with ⟨z1, z2⟩ | ⟨z1, z2⟩
                  · refine k _ 1 _ z2 ⟨by omega, by decide, fun x q1 q2 => ?_⟩ k3
                    rw [show x = 0 by omega]
                    exact ⟨hEn 0 (by omega) (by omega), rfl⟩
                  · omega
                · skip
                  refine wp_aload_n dd_X5_wrap_99 rfl ?_
                  refine wp_dup dd_X5_wrap_100 rfl ?_
                  refine wp_getZ 2 rfl dd_X5_wrap_101 gf_X5_37 rfl kk_57 (by decide) (zlt rfl) ?_
                  refine wp_iconst dd_X5_wrap_104 (zr_lit rfl) ?_
                  refine wp_isubC dd_X5_wrap_105 (by omega) ?_
                  refine wp_putzI 2 rfl dd_X5_wrap_106 pf_X5_37 rfl kk_57 (by decide) (zlt rfl) ?_
                  refine wp_return (st := []) dd_X5_wrap_109 rfl ?_
                  rcases hfin with ⟨z1, z2⟩ | ⟨z1, z2⟩
                  · omega
                  · refine k _ (mn 57 2 - 1) _ z2 ⟨by rw [zu_s], by omega, fun x q1 q2 => ?_⟩ (fun a q1 q2 => by rw [zu_row q1]; exact k3 a q1 q2)
                    rw [zu_row (by decide)]
                    exact ⟨hEn x q1 (by omega), rfl⟩
              · skip
                refine wp_aload_n dd_X5_wrap_70 rfl ?_
                refine wp_getR dd_X5_wrap_71 gf_X5_11 rfl kk_57 (by decide) (zlt rfl) rr_57_0 ?_
                refine wp_iload_n dd_X5_wrap_74 rfl ?_
                refine wp_iald dd_X5_wrap_75 kk_58 (zlt rfl) (by omega) (by omega) ?_
                refine wp_if_eq (tgt := 85) dd_X5_wrap_76 (by decide) (fun c76_5 => ?_) (fun c76_5 => ?_)
                · skip
                  refine wp_iincC (ls2 := [some (zR 57), some (zI (mm 57 2)), some (zI (mm 59 ((mm 57 2) - 1))), some (zI (j + (-1)))]) dd_X5_wrap_85 rfl rfl (by decide) (by omega) rfl ?_
                  refine wp_goto (tgt := 66) dd_X5_wrap_88 (by decide) ?_
                  refine ih66 (j + (-1)) mn ?_ ?_ ?_ ?_ ?_ ?_ ?_
                  · first | omega | assumption | (intros; omega)
                  · first | omega | assumption | (intros; omega)
                  · first | exact hS | (rw [hm8.2.2.1]; by_cases q : mm 57 2 - 1 < m8; omega; have := hq8 (mm 57 2 - 1) (by omega) (by omega); omega)
                  · first
                    | (have z3 := hD.skip (by omega) (show ¬ mem 58 (80 - (80 - (j + 1) + 1)) ≠ 0 by rw [show (80 : Int) - (80 - (j + 1) + 1) = j by omega, ← n58]; omega)
                       rw [show (80 : Int) - (j + -1 + 1) = 80 - (j + 1) + 1 by omega]; exact z3)
                    | (have hm1 : mm 57 2 - 1 < m8 := by
                         by_cases q : mm 57 2 - 1 < m8
                         · exact q
                         · have := hq8 (mm 57 2 - 1) (by omega) (by omega)
                           omega
                       have z3 := hD.step (g := fun k => 80 - mf 59 k) (m := m8) (by omega) (show mem 58 (80 - (80 - (j + 1) + 1)) ≠ 0 by rw [show (80 : Int) - (80 - (j + 1) + 1) = j by omega, ← n58]; omega) (by omega) (fun k q1 q2 => by show 80 - mf 59 k = 80 - mn 59 k; rw [hx8 k q2]) (by show 80 - mf 59 m8 = _; rw [hm8.2.2.2]; omega) (fun q => by
                           have v1 := hEn (m8 - 1) (by omega) (by omega)
                           have v2 := hEn m8 (by omega) (by omega)
                           show zt9 (80 - mn 59 (m8 - 1)) (80 - mn 59 m8) (80 - (j + 1) + 1) ≤ 0
                           rw [show (80 : Int) - (j + 1) + 1 = 80 - j by omega, zt9_rf v1 v2 (by omega)]
                           exact (hq8 m8 (by omega) (by omega)).2) (by
                           by_cases q : m8 = mm 57 2 - 1 + 1
                           · exact Or.inl q
                           · refine Or.inr ?_
                             have v1 := hEn (m8 - 2) (by omega) (by omega)
                             have v2 := hEn (m8 - 1) (by omega) (by omega)
                             show 0 < zt9 (80 - mn 59 (m8 - 2)) (80 - mn 59 (m8 - 1)) (80 - (j + 1) + 1)
                             rw [show (80 : Int) - (j + 1) + 1 = 80 - j by omega, zt9_rf v1 v2 (by omega)]
                             omega)
                       rw [hm8.2.2.1, show m8 + 1 - 1 = m8 by omega, show (80 : Int) - (j + -1 + 1) = 80 - (j + 1) + 1 by omega]
                       exact z3)
                  · first
                    | exact hE
                    | (intro x q1 q2
                       have hm1 : mm 57 2 ≤ m8 := by
                         by_cases q : mm 57 2 - 1 < m8
                         · omega
                         · have := hq8 (mm 57 2 - 1) (by omega) (by omega)
                           omega
                       rw [hx8 x (by omega)]; exact hE x q1 q2)
                  · first | exact k3 | (intro a q1 q2; rw [hr8 a q1 q2]; exact k3 a q1 q2)
                  · omega
                · skip
                  refine wp_aload_n dd_X5_wrap_79 rfl ?_
                  refine wp_iload_n dd_X5_wrap_80 rfl ?_
                  refine wp_iload_n dd_X5_wrap_81 rfl ?_
                  refine wp_callV (M' := mm_X5_goOn) (As := [zI j, zI (mm 57 2)]) (rest := []) dd_X5_wrap_82 lk_X5_41 mV_X5_goOn kk_57 (zlt rfl) ⟨_, _, rfl⟩ rfl (by decide) (by decide) (Nat.le_of_ble_eq_true rfl) rfl (sp_X5_goOn  j (mm 57 2) (by omega) (by omega) (by omega) hEn (fun m8 mf hm8 hx8 hq8 hst8 hr8 => ?_))
                  show zw_Wp l mm_X5_wrap (zS L) 85 [some (zR 57), some (zI (mm 57 2)), some (zI (mm 59 ((mm 57 2) - 1))), some (zI j)] [] mf 0 0 Q
                  refine wp_iincC (ls2 := [some (zR 57), some (zI (mm 57 2)), some (zI (mm 59 ((mm 57 2) - 1))), some (zI (j + (-1)))]) dd_X5_wrap_85 rfl rfl (by decide) (by omega) rfl ?_
                  refine wp_goto (tgt := 66) dd_X5_wrap_88 (by decide) ?_
                  refine ih66 (j + (-1)) mf ?_ ?_ ?_ ?_ ?_ ?_ ?_
                  · first | omega | assumption | (intros; omega)
                  · first | omega | assumption | (intros; omega)
                  · first | exact hS | (rw [hm8.2.2.1]; by_cases q : mm 57 2 - 1 < m8; omega; have := hq8 (mm 57 2 - 1) (by omega) (by omega); omega)
                  · first
                    | (have z3 := hD.skip (by omega) (show ¬ mem 58 (80 - (80 - (j + 1) + 1)) ≠ 0 by rw [show (80 : Int) - (80 - (j + 1) + 1) = j by omega, ← n58]; omega)
                       rw [show (80 : Int) - (j + -1 + 1) = 80 - (j + 1) + 1 by omega]; exact z3)
                    | (have hm1 : mm 57 2 - 1 < m8 := by
                         by_cases q : mm 57 2 - 1 < m8
                         · exact q
                         · have := hq8 (mm 57 2 - 1) (by omega) (by omega)
                           omega
                       have z3 := hD.step (g := fun k => 80 - mf 59 k) (m := m8) (by omega) (show mem 58 (80 - (80 - (j + 1) + 1)) ≠ 0 by rw [show (80 : Int) - (80 - (j + 1) + 1) = j by omega, ← n58]; omega) (by omega) (fun k q1 q2 => by show 80 - mf 59 k = 80 - mn 59 k; rw [hx8 k q2]) (by show 80 - mf 59 m8 = _; rw [hm8.2.2.2]; omega) (fun q => by
                           have v1 := hEn (m8 - 1) (by omega) (by omega)
                           have v2 := hEn m8 (by omega) (by omega)
                           show zt9 (80 - mn 59 (m8 - 1)) (80 - mn 59 m8) (80 - (j + 1) + 1) ≤ 0
                           rw [show (80 : Int) - (j + 1) + 1 = 80 - j by omega, zt9_rf v1 v2 (by omega)]
                           exact (hq8 m8 (by omega) (by omega)).2) (by
                           by_cases q : m8 = mm 57 2 - 1 + 1
                           · exact Or.inl q
                           · refine Or.inr ?_
                             have v1 := hEn (m8 - 2) (by omega) (by omega)
                             have v2 := hEn (m8 - 1) (by omega) (by omega)
                             show 0 < zt9 (80 - mn 59 (m8 - 2)) (80 - mn 59 (m8 - 1)) (80 - (j + 1) + 1)
                             rw [show (80 : Int) - (j + 1) + 1 = 80 - j by omega, zt9_rf v1 v2 (by omega)]
                             omega)
                       rw [hm8.2.2.1, show m8 + 1 - 1 = m8 by omega, show (80 : Int) - (j + -1 + 1) = 80 - (j + 1) + 1 by omega]
                       exact z3)
                  · first
                    | exact hE
                    | (intro x q1 q2
                       have hm1 : mm 57 2 ≤ m8 := by
                         by_cases q : mm 57 2 - 1 < m8
                         · omega
                         · have := hq8 (mm 57 2 - 1) (by omega) (by omega)
                           omega
                       rw [hx8 x (by omega)]; exact hE x q1 q2)
                  · first | exact k3 | (intro a q1 q2; rw [hr8 a q1 q2]; exact k3 a q1 q2)
                  · omega
          refine lp66 ((((mm 59 ((mm 57 2) - 1)) - 1) + 1 : Int)).toNat.succ ((mm 59 ((mm 57 2) - 1)) - 1) mm ?_ ?_ ?_ ?_ ?_ ?_ ?_
          · first | omega | assumption | (intros; omega)
          · first | omega | assumption | (intros; omega)
          · first | omega | assumption | (intros; omega)
          · rw [show (80 : Int) - (mm 59 (mm 57 2 - 1) - 1 + 1) = 80 - mm 59 (mm 57 2 - 1) by omega]
            refine zCh.one (by omega) ?_ rfl (fun t q1 q2 q3 => ?_)
            · show mem 58 (80 - (80 - mm 59 (mm 57 2 - 1))) ≠ 0
              rw [show (80 : Int) - (80 - mm 59 (mm 57 2 - 1)) = mm 59 (mm 57 2 - 1) by omega]; exact hfa.2
            · have := hgr (80 - t) (by omega) (by omega) q3
              omega
          · intros; rfl
          · exact h3
          · omega
      · skip
        refine wp_aload_n dd_X5_wrap_13 rfl ?_
        refine wp_getR dd_X5_wrap_14 gf_X5_11 rfl kk_57 (by decide) (zlt rfl) rr_57_0 ?_
        refine wp_iload_n dd_X5_wrap_17 rfl ?_
        refine wp_iald dd_X5_wrap_18 kk_58 (zlt rfl) (by omega) (by omega) ?_
        refine wp_if_eq (tgt := 28) dd_X5_wrap_19 (by decide) (fun c19_6 => ?_) (fun c19_6 => ?_)
        · skip
          refine wp_iincC (ls2 := [some (zR 57), some (zI (i + 1)), none, none]) dd_X5_wrap_28 rfl rfl (by decide) (by omega) rfl ?_
          refine wp_goto (tgt := 7) dd_X5_wrap_31 (by decide) ?_
          refine ih7 (i + 1) mm ?_ ?_ ?_ ?_ ?_
          · first | omega | assumption | (intros; omega)
          · first | omega | assumption | (intros; omega)
          · first
            | (rcases hC with ⟨z1, z2⟩ | ⟨z1, z2⟩
               · refine Or.inl ⟨z1, fun t q1 q2 => ?_⟩
                 by_cases e : t = i
                 · rw [e, ← m58]; omega
                 · exact z2 t q1 (by omega)
               · refine Or.inr ⟨z1, ?_⟩
                 have z3 := z2.skip (by omega) (show ¬ mem 58 (i - 1 + 1) ≠ 0 by rw [show i - 1 + 1 = i by omega, ← m58]; omega)
                 rw [show i + 1 - 1 = i - 1 + 1 by omega]; exact z3)
            | (have hPi : mem 58 i ≠ 0 := by rw [← m58]; omega
               rcases hC with ⟨z1, z2⟩ | ⟨z1, z2⟩
               · have hm0 : m9 = 0 := by omega
                 refine Or.inr ⟨by omega, ?_⟩
                 rw [hm9.2.2.1, hm0, show i + 1 - 1 = i by omega, show (0 : Int) + 1 - 1 = 0 by omega]
                 exact zCh.one ⟨i0, by omega⟩ hPi (by rw [← hm0]; exact hm9.2.2.2) (fun t q1 q2 q3 => q3 (z2 t q1 q2))
               · have hm1 : 1 ≤ m9 := by
                   by_cases q : 1 ≤ m9
                   · exact q
                   · have := hq9 m9 (by omega) (by omega)
                     omega
                 refine Or.inr ⟨by omega, ?_⟩
                 have z3 := z2.step (g := me 59) (m := m9) (by omega) (show mem 58 (i - 1 + 1) ≠ 0 by rw [show i - 1 + 1 = i by omega]; exact hPi) (by omega) (fun k q1 q2 => hx9 k q2) (by rw [hm9.2.2.2]; omega) (fun q => by rw [show i - 1 + 1 = i by omega]; exact (hq9 m9 (by omega) (by omega)).2) (by rw [show i - 1 + 1 = i by omega]; omega)
                 rw [hm9.2.2.1, show m9 + 1 - 1 = m9 by omega, show i + 1 - 1 = i - 1 + 1 by omega]
                 exact z3)
          · first | exact h3 | (intro a q1 q2; rw [hr9 a q1 q2]; exact h3 a q1 q2)
          · omega
        · skip
          refine wp_aload_n dd_X5_wrap_22 rfl ?_
          refine wp_iload_n dd_X5_wrap_23 rfl ?_
          refine wp_iconst dd_X5_wrap_24 (zr_lit rfl) ?_
          refine wp_callV (M' := mm_X5_goOn) (As := [zI i, zI 1]) (rest := []) dd_X5_wrap_25 lk_X5_41 mV_X5_goOn kk_57 (zlt rfl) ⟨_, _, rfl⟩ rfl (by decide) (by decide) (Nat.le_of_ble_eq_true rfl) rfl (sp_X5_goOn  i 1 (by omega) (by decide) (by omega) (fun x q1 q2 => by rcases hC with z | z; omega; have := z.2.2.1 x (by omega) (by omega); omega) (fun m9 me hm9 hx9 hq9 hst9 hr9 => ?_))
          show zw_Wp l mm_X5_wrap (zS L) 28 [some (zR 57), some (zI i), none, none] [] me 0 0 Q
          refine wp_iincC (ls2 := [some (zR 57), some (zI (i + 1)), none, none]) dd_X5_wrap_28 rfl rfl (by decide) (by omega) rfl ?_
          refine wp_goto (tgt := 7) dd_X5_wrap_31 (by decide) ?_
          refine ih7 (i + 1) me ?_ ?_ ?_ ?_ ?_
          · first | omega | assumption | (intros; omega)
          · first | omega | assumption | (intros; omega)
          · first
            | (rcases hC with ⟨z1, z2⟩ | ⟨z1, z2⟩
               · refine Or.inl ⟨z1, fun t q1 q2 => ?_⟩
                 by_cases e : t = i
                 · rw [e, ← m58]; omega
                 · exact z2 t q1 (by omega)
               · refine Or.inr ⟨z1, ?_⟩
                 have z3 := z2.skip (by omega) (show ¬ mem 58 (i - 1 + 1) ≠ 0 by rw [show i - 1 + 1 = i by omega, ← m58]; omega)
                 rw [show i + 1 - 1 = i - 1 + 1 by omega]; exact z3)
            | (have hPi : mem 58 i ≠ 0 := by rw [← m58]; omega
               rcases hC with ⟨z1, z2⟩ | ⟨z1, z2⟩
               · have hm0 : m9 = 0 := by omega
                 refine Or.inr ⟨by omega, ?_⟩
                 rw [hm9.2.2.1, hm0, show i + 1 - 1 = i by omega, show (0 : Int) + 1 - 1 = 0 by omega]
                 exact zCh.one ⟨i0, by omega⟩ hPi (by rw [← hm0]; exact hm9.2.2.2) (fun t q1 q2 q3 => q3 (z2 t q1 q2))
               · have hm1 : 1 ≤ m9 := by
                   by_cases q : 1 ≤ m9
                   · exact q
                   · have := hq9 m9 (by omega) (by omega)
                     omega
                 refine Or.inr ⟨by omega, ?_⟩
                 have z3 := z2.step (g := me 59) (m := m9) (by omega) (show mem 58 (i - 1 + 1) ≠ 0 by rw [show i - 1 + 1 = i by omega]; exact hPi) (by omega) (fun k q1 q2 => hx9 k q2) (by rw [hm9.2.2.2]; omega) (fun q => by rw [show i - 1 + 1 = i by omega]; exact (hq9 m9 (by omega) (by omega)).2) (by rw [show i - 1 + 1 = i by omega]; omega)
                 rw [hm9.2.2.1, show m9 + 1 - 1 = m9 by omega, show i + 1 - 1 = i - 1 + 1 by omega]
                 exact z3)
          · first | exact h3 | (intro a q1 q2; rw [hr9 a q1 q2]; exact h3 a q1 q2)
          · omega
  refine lp7 ((81 - 0 : Int)).toNat.succ 0 (zu mem 57 2 0) ?_ ?_ ?_ ?_ ?_
  · first | omega | assumption | (intros; omega)
  · first | omega | assumption | (intros; omega)
  · exact Or.inl ⟨zu_s, fun t q1 q2 => by omega⟩
  · intro a q1 q2; rw [zu_row q1]
  · omega

set_option maxRecDepth 100000 in
set_option maxHeartbeats 4000000 in
theorem sp_X5_markMoved {l : Launch} {L : Nat} {mem : zMem} {Q : zQ} (c : Int → Int) (o : Nat) (ri : Int) (up : Int) (ho : zP o) (hc : zRw mem o c) (hri : 0 ≤ ri ∧ ri ≤ 4) (hup : 0 ≤ up ∧ up ≤ 4) (k : ∀ (mem2 : zMem), (∀ x : Int, 0 ≤ x → x < 81 → (mem2 58 x ≠ 0 ↔ mem 58 x ≠ 0 ∨ ∃ i9 j9 : Int, (0 ≤ i9 ∧ i9 ≤ 4) ∧ (0 ≤ j9 ∧ j9 ≤ 4) ∧ c (5 * i9 + j9) ≠ 0 ∧ x = 9 * (i9 + ri) + j9 + up)) → (∀ a : Nat, a ≠ 58 → mem2 a = mem a) → Q none (zS L) mem2) : zw_Ok l mm_X5_markMoved [zR 57, zR o, zI ri, zI up] (zS L) mem Q := by
  refine zw_okA (fun hA => ?_)
  have rg_ri : -2147483648 ≤ ri ∧ ri < 2147483648 := hA.2.2.1
  have rg_up : -2147483648 ≤ up ∧ up < 2147483648 := hA.2.2.2.1
  refine zw_enter (by decide) (Nat.le_of_ble_eq_true rfl) rfl ?_
  show zw_Wp l mm_X5_markMoved (zS L) 0 [some (zR 57), some (zR o), some (zI ri), some (zI up), none, none] [] mem 0 0 Q
  have o50 := ho.lt
  refine wp_iconst dd_X5_markMoved_0 (zr_lit rfl) ?_
  refine wp_istore (ls2 := [some (zR 57), some (zR o), some (zI ri), some (zI up), some (zI 0), none]) dd_X5_markMoved_1 rfl (by decide) rfl ?_
  have lp3 : ∀ (nf : Nat) (i : Int) (mm : zMem), (0 ≤ i) → (i ≤ 5) → (∀ x : Int, 0 ≤ x → x < 81 → (mm 58 x ≠ 0 ↔ mem 58 x ≠ 0 ∨ ∃ i9 j9 : Int, (0 ≤ i9 ∧ i9 ≤ 4) ∧ (0 ≤ j9 ∧ j9 ≤ 4) ∧ c (5 * i9 + j9) ≠ 0 ∧ x = 9 * (i9 + ri) + j9 + up ∧ (i9 < i))) → (∀ a : Nat, a ≠ 58 → mm a = mem a) → (5 - i) < (nf : Int) → zw_Wp l mm_X5_markMoved (zS L) 3 [some (zR 57), some (zR o), some (zI ri), some (zI up), some (zI i), none] [] mm 0 0 Q := by
    intro nf
    induction nf with
    | zero =>
      intro i mm i0 i1 h2 h3 hmu
      exfalso; omega
    | succ nf ih3 =>
      intro i mm i0 i1 h2 h3 hmu
      refine wp_iload dd_X5_markMoved_3 rfl ?_
      refine wp_iconst dd_X5_markMoved_5 (zr_lit rfl) ?_
      refine wp_icmp_ge (tgt := 59) dd_X5_markMoved_6 (by decide) (fun c6_1 => ?_) (fun c6_1 => ?_)
      · skip
        refine wp_return (st := []) dd_X5_markMoved_59 rfl ?_
        refine k mm (fun x q1 q2 => ?_) h3
        rw [h2 x q1 q2]
        exact ⟨fun z => z.imp id (fun ⟨i9, j9, z1, z2, z3, z4, z5⟩ => ⟨i9, j9, z1, z2, z3, z4⟩), fun z => z.imp id (fun ⟨i9, j9, z1, z2, z3, z4⟩ => ⟨i9, j9, z1, z2, z3, z4, by omega⟩)⟩
      · skip
        refine wp_iconst dd_X5_markMoved_9 (zr_lit rfl) ?_
        refine wp_istore (ls2 := [some (zR 57), some (zR o), some (zI ri), some (zI up), some (zI i), some (zI 0)]) dd_X5_markMoved_10 rfl (by decide) rfl ?_
        have lp12 : ∀ (nf : Nat) (j : Int) (mm : zMem), (0 ≤ j) → (j ≤ 5) → (∀ x : Int, 0 ≤ x → x < 81 → (mm 58 x ≠ 0 ↔ mem 58 x ≠ 0 ∨ ∃ i9 j9 : Int, (0 ≤ i9 ∧ i9 ≤ 4) ∧ (0 ≤ j9 ∧ j9 ≤ 4) ∧ c (5 * i9 + j9) ≠ 0 ∧ x = 9 * (i9 + ri) + j9 + up ∧ (i9 < i ∨ (i9 = i ∧ j9 < j)))) → (∀ a : Nat, a ≠ 58 → mm a = mem a) → (5 - j) < (nf : Int) → zw_Wp l mm_X5_markMoved (zS L) 12 [some (zR 57), some (zR o), some (zI ri), some (zI up), some (zI i), some (zI j)] [] mm 0 0 Q := by
          intro nf
          induction nf with
          | zero =>
            intro j mm j0 j1 j2 h3 hmu
            exfalso; omega
          | succ nf ih12 =>
            intro j mm j0 j1 j2 h3 hmu
            have hcm : zRw mm o c := hc.keep (h3 _ (by omega))
            refine wp_iload dd_X5_markMoved_12 rfl ?_
            refine wp_iconst dd_X5_markMoved_14 (zr_lit rfl) ?_
            refine wp_icmp_ge (tgt := 53) dd_X5_markMoved_15 (by decide) (fun c15_2 => ?_) (fun c15_2 => ?_)
            · skip
              refine wp_iincC (ls2 := [some (zR 57), some (zR o), some (zI ri), some (zI up), some (zI (i + 1)), some (zI j)]) dd_X5_markMoved_53 rfl rfl (by decide) (by omega) rfl ?_
              refine wp_goto (tgt := 3) dd_X5_markMoved_56 (by decide) ?_
              refine wp_ls (zw_sub_of (a := [some (zR 57), some (zR o), some (zI ri), some (zI up), some (zI (i + 1)), none]) (And.intro rfl (And.intro rfl (And.intro rfl (And.intro rfl (And.intro rfl (trivial))))))) ?_
              refine ih3 (i + 1) mm ?_ ?_ ?_ ?_ ?_
              · first | omega | assumption | (intros; omega)
              · first | omega | assumption | (intros; omega)
              · intro x q1 q2; rw [j2 x q1 q2]; exact ⟨fun z => z.imp id (fun ⟨i9, j9, z1, z2, z3, z4, z5⟩ => ⟨i9, j9, z1, z2, z3, z4, by omega⟩), fun z => z.imp id (fun ⟨i9, j9, z1, z2, z3, z4, z5⟩ => ⟨i9, j9, z1, z2, z3, z4, by omega⟩)⟩
              · first | omega | assumption | (intros; omega)
              · omega
            · skip
              refine wp_aload_n dd_X5_markMoved_18 rfl ?_
              refine wp_iload dd_X5_markMoved_19 rfl ?_
              refine wp_iload dd_X5_markMoved_21 rfl ?_
              refine wp_callV (M' := mm_X4_hasTerm) (As := [zI i, zI j]) (rest := []) dd_X5_markMoved_23 lk_X5_31 mV_X4_hasTerm ho.k ho.i ⟨_, _, rfl⟩ rfl (by decide) (by decide) (Nat.le_of_ble_eq_true rfl) rfl (sp_X4_hasTerm  o i j (by first | assumption | omega) (by first | assumption | omega) (by first | assumption | omega) ?_)
              show zw_Wp l mm_X5_markMoved (zS L) 26 [some (zR 57), some (zR o), some (zI ri), some (zI up), some (zI i), some (zI j)] [zI (if mm (o + 2) (5 * i + j) = 0 then 0 else 1)] mm 0 0 Q
              refine wp_if_eq (tgt := 47) dd_X5_markMoved_26 (by decide) (fun c26_3 => ?_) (fun c26_3 => ?_)
              · skip
                have hz : c (5 * i + j) = 0 := by
                  by_cases z : c (5 * i + j) = 0
                  · exact z
                  · rw [hcm _ (by omega) (by omega), if_neg z] at c26_3; omega
                refine wp_iincC (ls2 := [some (zR 57), some (zR o), some (zI ri), some (zI up), some (zI i), some (zI (j + 1))]) dd_X5_markMoved_47 rfl rfl (by decide) (by omega) rfl ?_
                refine wp_goto (tgt := 12) dd_X5_markMoved_50 (by decide) ?_
                refine ih12 (j + 1) mm ?_ ?_ ?_ ?_ ?_
                · first | omega | assumption | (intros; omega)
                · first | omega | assumption | (intros; omega)
                · intro x q1 q2
                  first
                  | (by_cases hx : x = 9 * (i + ri) + j + up
                     · rw [hx, zu_s]; exact ⟨fun _ => Or.inr ⟨i, j, by omega, by omega, hz, rfl, by omega⟩, fun _ => by decide⟩
                     · rw [zu_n (Or.inr hx), j2 x q1 q2]
                       exact ⟨fun z => z.imp id (fun ⟨i9, j9, z1, z2, z3, z4, z5⟩ => ⟨i9, j9, z1, z2, z3, z4, by omega⟩), fun z => z.imp id (fun ⟨i9, j9, z1, z2, z3, z4, z5⟩ => ⟨i9, j9, z1, z2, z3, z4, by by_cases e : i9 = i ∧ j9 = j; exact absurd (by rw [z4, e.1, e.2]) hx; omega⟩)⟩)
                  | (rw [j2 x q1 q2]
                     exact ⟨fun z => z.imp id (fun ⟨i9, j9, z1, z2, z3, z4, z5⟩ => ⟨i9, j9, z1, z2, z3, z4, by omega⟩), fun z => z.imp id (fun ⟨i9, j9, z1, z2, z3, z4, z5⟩ => ⟨i9, j9, z1, z2, z3, z4, by by_cases e : i9 = i ∧ j9 = j; exact absurd (by rw [e.1, e.2]; exact hz) z3; omega⟩)⟩)
                · first | assumption | (intro a ha; rw [zu_row ha]; exact h3 a ha)
                · omega
              · skip
                have hz : c (5 * i + j) ≠ 0 := fun z => c26_3 (by rw [hcm _ (by omega) (by omega), if_pos z])
                refine wp_aload_n dd_X5_markMoved_29 rfl ?_
                refine wp_getR dd_X5_markMoved_30 gf_X5_11 rfl kk_57 (by decide) (zlt rfl) rr_57_0 ?_
                refine wp_bipush dd_X5_markMoved_33 (by decide) ?_
                refine wp_iload dd_X5_markMoved_35 rfl ?_
                refine wp_iload_n dd_X5_markMoved_37 rfl ?_
                refine wp_iaddC dd_X5_markMoved_38 (by omega) ?_
                refine wp_imulC dd_X5_markMoved_39 (by omega) ?_
                refine wp_iload dd_X5_markMoved_40 rfl ?_
                refine wp_iaddC dd_X5_markMoved_42 (by omega) ?_
                refine wp_iload_n dd_X5_markMoved_43 rfl ?_
                refine wp_iaddC dd_X5_markMoved_44 (by omega) ?_
                refine wp_iconst dd_X5_markMoved_45 (zr_lit rfl) ?_
                refine wp_iast dd_X5_markMoved_46 kk_58 (zlt rfl) (by omega) (by omega) ?_
                refine wp_iincC (ls2 := [some (zR 57), some (zR o), some (zI ri), some (zI up), some (zI i), some (zI (j + 1))]) dd_X5_markMoved_47 rfl rfl (by decide) (by omega) rfl ?_
                refine wp_goto (tgt := 12) dd_X5_markMoved_50 (by decide) ?_
                refine ih12 (j + 1) (zu mm 58 (((9 * (i + ri)) + j) + up) 1) ?_ ?_ ?_ ?_ ?_
                · first | omega | assumption | (intros; omega)
                · first | omega | assumption | (intros; omega)
                · intro x q1 q2
                  first
                  | (by_cases hx : x = 9 * (i + ri) + j + up
                     · rw [hx, zu_s]; exact ⟨fun _ => Or.inr ⟨i, j, by omega, by omega, hz, rfl, by omega⟩, fun _ => by decide⟩
                     · rw [zu_n (Or.inr hx), j2 x q1 q2]
                       exact ⟨fun z => z.imp id (fun ⟨i9, j9, z1, z2, z3, z4, z5⟩ => ⟨i9, j9, z1, z2, z3, z4, by omega⟩), fun z => z.imp id (fun ⟨i9, j9, z1, z2, z3, z4, z5⟩ => ⟨i9, j9, z1, z2, z3, z4, by by_cases e : i9 = i ∧ j9 = j; exact absurd (by rw [z4, e.1, e.2]) hx; omega⟩)⟩)
                  | (rw [j2 x q1 q2]
                     exact ⟨fun z => z.imp id (fun ⟨i9, j9, z1, z2, z3, z4, z5⟩ => ⟨i9, j9, z1, z2, z3, z4, by omega⟩), fun z => z.imp id (fun ⟨i9, j9, z1, z2, z3, z4, z5⟩ => ⟨i9, j9, z1, z2, z3, z4, by by_cases e : i9 = i ∧ j9 = j; exact absurd (by rw [e.1, e.2]; exact hz) z3; omega⟩)⟩)
                · first | assumption | (intro a ha; rw [zu_row ha]; exact h3 a ha)
                · omega
        refine lp12 ((5 - 0 : Int)).toNat.succ 0 mm ?_ ?_ ?_ ?_ ?_
        · first | omega | assumption | (intros; omega)
        · first | omega | assumption | (intros; omega)
        · intro x q1 q2; rw [h2 x q1 q2]; exact ⟨fun z => z.imp id (fun ⟨i9, j9, z1, z2, z3, z4, z5⟩ => ⟨i9, j9, z1, z2, z3, z4, by omega⟩), fun z => z.imp id (fun ⟨i9, j9, z1, z2, z3, z4, z5⟩ => ⟨i9, j9, z1, z2, z3, z4, by omega⟩)⟩
        · first | omega | assumption | (intros; omega)
        · omega
  refine lp3 ((5 - 0 : Int)).toNat.succ 0 mem ?_ ?_ ?_ ?_ ?_
  · first | omega | assumption | (intros; omega)
  · first | omega | assumption | (intros; omega)
  · intro x q1 q2; exact ⟨Or.inl, fun z => by rcases z with z | ⟨i9, j9, z⟩; exact z; omega⟩
  · intros; rfl
  · omega

set_option maxRecDepth 100000 in
set_option maxHeartbeats 4000000 in
theorem sp_X5_ofOne {l : Launch} {L : Nat} {mem : zMem} {Q : zQ} (c : Int → Int) (o : Nat) (ho : zP o) (hc : zRw mem o c) (hn : ¬ zdeg c 0 25 < 0) (k : ∀ (f : Int → Int) (n : Int) (mem2 : zMem), (zHu (zP1 c) f n) → (zC9 mem2 f n) → (∀ a : Nat, a ≠ 57 → a ≠ 58 → a ≠ 59 → mem2 a = mem a) → Q none (zS L) mem2) : zw_Ok l mm_X5_ofOne [zR 57, zR o] (zS L) mem Q := by
  refine zw_enter (by decide) (Nat.le_of_ble_eq_true rfl) rfl ?_
  show zw_Wp l mm_X5_ofOne (zS L) 0 [some (zR 57), some (zR o)] [] mem 0 0 Q
  have o50 := ho.lt
  obtain ⟨s0, hs0, hs1⟩ : ∃ s0 : Int, (0 ≤ s0 ∧ s0 < 25) ∧ c s0 ≠ 0 := by
    have z := (zdeg_P c 0 25 (by omega)).1
    rcases z with z | ⟨-, -, t, z1, z2, z3, -⟩
    · omega
    · exact ⟨t, ⟨z1, z2⟩, z3⟩
  refine wp_aload_n dd_X5_ofOne_0 rfl ?_
  refine wp_getR dd_X5_ofOne_1 gf_X5_11 rfl kk_57 (by decide) (zlt rfl) rr_57_0 ?_
  refine wp_iconst dd_X5_ofOne_4 (zr_lit rfl) ?_
  refine wp_callS (M' := mm_J7_fill_53178) (As := [zR 58, zI 0]) (rest := []) dd_X5_ofOne_5 lk_X5_18 mS_J7_fill_53178 rfl (by decide) (by decide) (Nat.le_of_ble_eq_true rfl) rfl (sp_J7_fill_53178  58 0 kk_58 (zlt rfl) (by decide) (fun m1 f1 g1 => ?_))
  show zw_Wp l mm_X5_ofOne (zS L) 8 [some (zR 57), some (zR o)] [] m1 0 0 Q
  refine wp_aload_n dd_X5_ofOne_8 rfl ?_
  refine wp_aload_n dd_X5_ofOne_9 rfl ?_
  refine wp_iconst dd_X5_ofOne_10 (zr_lit rfl) ?_
  refine wp_iconst dd_X5_ofOne_11 (zr_lit rfl) ?_
  refine wp_callV (M' := mm_X5_markMoved) (As := [zR o, zI 0, zI 0]) (rest := []) dd_X5_ofOne_12 lk_X5_24 mV_X5_markMoved kk_57 (zlt rfl) ⟨_, _, rfl⟩ rfl (by decide) (by decide) (Nat.le_of_ble_eq_true rfl) rfl (sp_X5_markMoved c o 0 0 ho (hc.keep (g1 _ (by omega))) (by decide) (by decide) (fun m2 f2 g2 => ?_))
  show zw_Wp l mm_X5_ofOne (zS L) 15 [some (zR 57), some (zR o)] [] m2 0 0 Q
  have key : ∀ x : Int, 0 ≤ x → x < 81 → (m2 58 x ≠ 0 ↔ x / 9 ≤ 4 ∧ x % 9 ≤ 4 ∧ c (5 * (x / 9) + x % 9) ≠ 0) := by
    intro x q1 q2
    rw [f2 x q1 q2, f1 x q1 q2]
    constructor
    · rintro (z | ⟨i9, j9, z1, z2, z3, z4⟩)
      · exact absurd rfl z
      · have e1 : x / 9 = i9 := by omega
        have e2 : x % 9 = j9 := by omega
        rw [e1, e2]; exact ⟨z1.2, z2.2, z3⟩
    · rintro ⟨z1, z2, z3⟩
      exact Or.inr ⟨x / 9, x % 9, by omega, by omega, z3, by omega⟩
  refine wp_aload_n dd_X5_ofOne_15 rfl ?_
  refine wp_callV (M' := mm_X5_wrap) (As := []) (rest := []) dd_X5_ofOne_16 lk_X5_28 mV_X5_wrap kk_57 (zlt rfl) ⟨_, _, rfl⟩ rfl (by decide) (by decide) (Nat.le_of_ble_eq_true rfl) rfl (sp_X5_wrap (9 * (s0 / 5) + s0 % 5)  ⟨by omega, (key _ (by omega) (by omega)).mpr ⟨by omega, by omega, by rw [show 5 * ((9 * (s0 / 5) + s0 % 5) / 9) + (9 * (s0 / 5) + s0 % 5) % 9 = s0 by omega]; exact hs1⟩⟩ (fun ff nn m3 H3 C3 g3 => ?_))
  show zw_Wp l mm_X5_ofOne (zS L) 19 [some (zR 57), some (zR o)] [] m3 0 0 Q
  refine wp_return (st := []) dd_X5_ofOne_19 rfl ?_
  refine k ff nn m3 (zHu_cg H3 (fun t q1 q2 => ?_)) C3 (fun a h1 h2 h3 => by rw [g3 a h1 h3, g2 a h2, g1 a h2])
  unfold zP9 zP1
  constructor
  · rintro ⟨z1, z2, z3⟩
    have := (key _ (by omega) (by omega)).mp z3
    rw [show (9 * (t / 16) + t % 16) / 9 = t / 16 by omega, show (9 * (t / 16) + t % 16) % 9 = t % 16 by omega] at this
    exact this
  · rintro ⟨z1, z2, z3⟩
    refine ⟨by omega, by omega, (key _ (by omega) (by omega)).mpr ?_⟩
    rw [show (9 * (t / 16) + t % 16) / 9 = t / 16 by omega, show (9 * (t / 16) + t % 16) % 9 = t % 16 by omega]
    exact ⟨z1, z2, z3⟩

set_option maxRecDepth 100000 in
set_option maxHeartbeats 4000000 in
theorem sp_X5_ofTwo {l : Launch} {L : Nat} {mem : zMem} {Q : zQ} (c d : Int → Int) (o : Nat) (r : Nat) (ho : zP o) (ho2 : zP r) (hc : zRw mem o c) (hd : zRw mem r d) (hn1 : ¬ zdeg c 0 25 < 0) (hn2 : ¬ zdeg d 0 25 < 0) (k : ∀ (f : Int → Int) (n : Int) (mem2 : zMem), (zHu (zP2 c d) f n) → (zC9 mem2 f n) → (∀ a : Nat, a ≠ 57 → a ≠ 58 → a ≠ 59 → mem2 a = mem a) → Q none (zS L) mem2) : zw_Ok l mm_X5_ofTwo [zR 57, zR o, zR r] (zS L) mem Q := by
  refine zw_enter (by decide) (Nat.le_of_ble_eq_true rfl) rfl ?_
  show zw_Wp l mm_X5_ofTwo (zS L) 0 [some (zR 57), some (zR o), some (zR r), none, none] [] mem 0 0 Q
  have o50 := ho.lt
  have r50 := ho2.lt
  obtain ⟨s0, hs0, hs1⟩ : ∃ s0 : Int, (0 ≤ s0 ∧ s0 < 25) ∧ c s0 ≠ 0 := by
    have z := (zdeg_P c 0 25 (by omega)).1
    rcases z with z | ⟨-, -, t, z1, z2, z3, -⟩
    · omega
    · exact ⟨t, ⟨z1, z2⟩, z3⟩
  obtain ⟨u0, hu0, hu1⟩ : ∃ s0 : Int, (0 ≤ s0 ∧ s0 < 25) ∧ d s0 ≠ 0 := by
    have z := (zdeg_P d 0 25 (by omega)).1
    rcases z with z | ⟨-, -, t, z1, z2, z3, -⟩
    · omega
    · exact ⟨t, ⟨z1, z2⟩, z3⟩
  refine wp_aload_n dd_X5_ofTwo_0 rfl ?_
  refine wp_getR dd_X5_ofTwo_1 gf_X5_11 rfl kk_57 (by decide) (zlt rfl) rr_57_0 ?_
  refine wp_iconst dd_X5_ofTwo_4 (zr_lit rfl) ?_
  refine wp_callS (M' := mm_J7_fill_53178) (As := [zR 58, zI 0]) (rest := []) dd_X5_ofTwo_5 lk_X5_18 mS_J7_fill_53178 rfl (by decide) (by decide) (Nat.le_of_ble_eq_true rfl) rfl (sp_J7_fill_53178  58 0 kk_58 (zlt rfl) (by decide) (fun m1 f1 g1 => ?_))
  show zw_Wp l mm_X5_ofTwo (zS L) 8 [some (zR 57), some (zR o), some (zR r), none, none] [] m1 0 0 Q
  refine wp_iconst dd_X5_ofTwo_8 (zr_lit rfl) ?_
  refine wp_istore_n (ls2 := [some (zR 57), some (zR o), some (zR r), some (zI 0), none]) dd_X5_ofTwo_9 rfl (by decide) rfl ?_
  have lp10 : ∀ (nf : Nat) (i : Int) (mm : zMem), (0 ≤ i) → (i ≤ 5) → (∀ x : Int, 0 ≤ x → x < 81 → (mm 58 x ≠ 0 ↔ ∃ s9 u9 : Int, (0 ≤ s9 ∧ s9 < 25) ∧ (0 ≤ u9 ∧ u9 < 25) ∧ c s9 ≠ 0 ∧ d u9 ≠ 0 ∧ x = 9 * (s9 / 5 + u9 / 5) + s9 % 5 + u9 % 5 ∧ (s9 < 5 * i))) → (∀ a : Nat, a ≠ 58 → mm a = mem a) → (5 - i) < (nf : Int) → zw_Wp l mm_X5_ofTwo (zS L) 10 [some (zR 57), some (zR o), some (zR r), some (zI i), none] [] mm 0 0 Q := by
    intro nf
    induction nf with
    | zero =>
      intro i mm i0 i1 h2 h3 hmu
      exfalso; omega
    | succ nf ih10 =>
      intro i mm i0 i1 h2 h3 hmu
      refine wp_iload_n dd_X5_ofTwo_10 rfl ?_
      refine wp_iconst dd_X5_ofTwo_11 (zr_lit rfl) ?_
      refine wp_icmp_ge (tgt := 54) dd_X5_ofTwo_12 (by decide) (fun c12_1 => ?_) (fun c12_1 => ?_)
      · skip
        refine wp_aload_n dd_X5_ofTwo_54 rfl ?_
        refine wp_callV (M' := mm_X5_wrap) (As := []) (rest := []) dd_X5_ofTwo_55 lk_X5_28 mV_X5_wrap kk_57 (zlt rfl) ⟨_, _, rfl⟩ rfl (by decide) (by decide) (Nat.le_of_ble_eq_true rfl) rfl (sp_X5_wrap (9 * (s0 / 5 + u0 / 5) + s0 % 5 + u0 % 5)  ⟨by omega, (h2 _ (by omega) (by omega)).mpr ⟨s0, u0, hs0, hu0, hs1, hu1, rfl, by omega⟩⟩ (fun ff nn m3 H3 C3 g3 => ?_))
        show zw_Wp l mm_X5_ofTwo (zS L) 58 [some (zR 57), some (zR o), some (zR r), some (zI i), none] [] m3 0 0 Q
        refine wp_return (st := []) dd_X5_ofTwo_58 rfl ?_
        refine k ff nn m3 (zHu_cg H3 (fun t q1 q2 => ?_)) C3 (fun a h1 h2 h4 => by rw [g3 a h1 h4, h3 a h2])
        unfold zP9 zP2
        constructor
        · rintro ⟨z1, z2, z3⟩
          obtain ⟨s9, u9, y1, y2, y3, y4, y5, y6⟩ := (h2 _ (by omega) (by omega)).mp z3
          exact ⟨s9, u9, y1, y2, y3, y4, by omega⟩
        · rintro ⟨s9, u9, y1, y2, y3, y4, y5⟩
          refine ⟨by omega, by omega, (h2 _ (by omega) (by omega)).mpr ⟨s9, u9, y1, y2, y3, y4, by omega, by omega⟩⟩
      · skip
        refine wp_iconst dd_X5_ofTwo_15 (zr_lit rfl) ?_
        refine wp_istore (ls2 := [some (zR 57), some (zR o), some (zR r), some (zI i), some (zI 0)]) dd_X5_ofTwo_16 rfl (by decide) rfl ?_
        have lp18 : ∀ (nf : Nat) (j : Int) (mm : zMem), (0 ≤ j) → (j ≤ 5) → (∀ x : Int, 0 ≤ x → x < 81 → (mm 58 x ≠ 0 ↔ ∃ s9 u9 : Int, (0 ≤ s9 ∧ s9 < 25) ∧ (0 ≤ u9 ∧ u9 < 25) ∧ c s9 ≠ 0 ∧ d u9 ≠ 0 ∧ x = 9 * (s9 / 5 + u9 / 5) + s9 % 5 + u9 % 5 ∧ (s9 < 5 * i + j))) → (∀ a : Nat, a ≠ 58 → mm a = mem a) → (5 - j) < (nf : Int) → zw_Wp l mm_X5_ofTwo (zS L) 18 [some (zR 57), some (zR o), some (zR r), some (zI i), some (zI j)] [] mm 0 0 Q := by
          intro nf
          induction nf with
          | zero =>
            intro j mm j0 j1 j2 h3 hmu
            exfalso; omega
          | succ nf ih18 =>
            intro j mm j0 j1 j2 h3 hmu
            have hcm : zRw mm o c := hc.keep (h3 _ (by omega))
            have hdm : zRw mm r d := hd.keep (h3 _ (by omega))
            refine wp_iload dd_X5_ofTwo_18 rfl ?_
            refine wp_iconst dd_X5_ofTwo_20 (zr_lit rfl) ?_
            refine wp_icmp_ge (tgt := 48) dd_X5_ofTwo_21 (by decide) (fun c21_2 => ?_) (fun c21_2 => ?_)
            · skip
              refine wp_iincC (ls2 := [some (zR 57), some (zR o), some (zR r), some (zI (i + 1)), some (zI j)]) dd_X5_ofTwo_48 rfl rfl (by decide) (by omega) rfl ?_
              refine wp_goto (tgt := 10) dd_X5_ofTwo_51 (by decide) ?_
              refine wp_ls (zw_sub_of (a := [some (zR 57), some (zR o), some (zR r), some (zI (i + 1)), none]) (And.intro rfl (And.intro rfl (And.intro rfl (And.intro rfl (trivial)))))) ?_
              refine ih10 (i + 1) mm ?_ ?_ ?_ ?_ ?_
              · first | omega | assumption | (intros; omega)
              · first | omega | assumption | (intros; omega)
              · intro x q1 q2; rw [j2 x q1 q2]; exact ⟨fun ⟨s9, u9, z1, z2, z3, z4, z5, z6⟩ => ⟨s9, u9, z1, z2, z3, z4, z5, by omega⟩, fun ⟨s9, u9, z1, z2, z3, z4, z5, z6⟩ => ⟨s9, u9, z1, z2, z3, z4, z5, by omega⟩⟩
              · first | omega | assumption | (intros; omega)
              · omega
            · skip
              refine wp_aload_n dd_X5_ofTwo_24 rfl ?_
              refine wp_iload_n dd_X5_ofTwo_25 rfl ?_
              refine wp_iload dd_X5_ofTwo_26 rfl ?_
              refine wp_callV (M' := mm_X4_hasTerm) (As := [zI i, zI j]) (rest := []) dd_X5_ofTwo_28 lk_X5_31 mV_X4_hasTerm ho.k ho.i ⟨_, _, rfl⟩ rfl (by decide) (by decide) (Nat.le_of_ble_eq_true rfl) rfl (sp_X4_hasTerm  o i j (by first | assumption | omega) (by first | assumption | omega) (by first | assumption | omega) ?_)
              show zw_Wp l mm_X5_ofTwo (zS L) 31 [some (zR 57), some (zR o), some (zR r), some (zI i), some (zI j)] [zI (if mm (o + 2) (5 * i + j) = 0 then 0 else 1)] mm 0 0 Q
              refine wp_if_eq (tgt := 42) dd_X5_ofTwo_31 (by decide) (fun c31_3 => ?_) (fun c31_3 => ?_)
              · skip
                have hz : c (5 * i + j) = 0 := by
                  by_cases z : c (5 * i + j) = 0
                  · exact z
                  · rw [hcm _ (by omega) (by omega), if_neg z] at c31_3; omega
                refine wp_iincC (ls2 := [some (zR 57), some (zR o), some (zR r), some (zI i), some (zI (j + 1))]) dd_X5_ofTwo_42 rfl rfl (by decide) (by omega) rfl ?_
                refine wp_goto (tgt := 18) dd_X5_ofTwo_45 (by decide) ?_
                refine ih18 (j + 1) mm ?_ ?_ ?_ ?_ ?_
                · first | omega | assumption | (intros; omega)
                · first | omega | assumption | (intros; omega)
                · intro x q1 q2
                  first
                  | (rw [fm x q1 q2, j2 x q1 q2]
                     constructor
                     · rintro (⟨s9, u9, z1, z2, z3, z4, z5, z6⟩ | ⟨i9, j9, z1, z2, z3, z4⟩)
                       · exact ⟨s9, u9, z1, z2, z3, z4, z5, by omega⟩
                       · exact ⟨5 * i + j, 5 * i9 + j9, by omega, by omega, hz, z3, by omega, by omega⟩
                     · rintro ⟨s9, u9, z1, z2, z3, z4, z5, z6⟩
                       by_cases e : s9 = 5 * i + j
                       · refine Or.inr ⟨u9 / 5, u9 % 5, by omega, by omega, by rw [show 5 * (u9 / 5) + u9 % 5 = u9 by omega]; exact z4, by omega⟩
                       · exact Or.inl ⟨s9, u9, z1, z2, z3, z4, z5, by omega⟩)
                  | (rw [j2 x q1 q2]
                     exact ⟨fun ⟨s9, u9, z1, z2, z3, z4, z5, z6⟩ => ⟨s9, u9, z1, z2, z3, z4, z5, by omega⟩, fun ⟨s9, u9, z1, z2, z3, z4, z5, z6⟩ => ⟨s9, u9, z1, z2, z3, z4, z5, by by_cases e : s9 = 5 * i + j; exact absurd (by rw [e]; exact hz) z3; omega⟩⟩)
                · first | assumption | (intro a ha; rw [gm a ha]; exact h3 a ha)
                · omega
              · skip
                have hz : c (5 * i + j) ≠ 0 := fun z => c31_3 (by rw [hcm _ (by omega) (by omega), if_pos z])
                refine wp_aload_n dd_X5_ofTwo_34 rfl ?_
                refine wp_aload_n dd_X5_ofTwo_35 rfl ?_
                refine wp_iload_n dd_X5_ofTwo_36 rfl ?_
                refine wp_iload dd_X5_ofTwo_37 rfl ?_
                refine wp_callV (M' := mm_X5_markMoved) (As := [zR r, zI i, zI j]) (rest := []) dd_X5_ofTwo_39 lk_X5_24 mV_X5_markMoved kk_57 (zlt rfl) ⟨_, _, rfl⟩ rfl (by decide) (by decide) (Nat.le_of_ble_eq_true rfl) rfl (sp_X5_markMoved d r i j ho2 hdm (by omega) (by omega) (fun mz fm gm => ?_))
                show zw_Wp l mm_X5_ofTwo (zS L) 42 [some (zR 57), some (zR o), some (zR r), some (zI i), some (zI j)] [] mz 0 0 Q
                refine wp_iincC (ls2 := [some (zR 57), some (zR o), some (zR r), some (zI i), some (zI (j + 1))]) dd_X5_ofTwo_42 rfl rfl (by decide) (by omega) rfl ?_
                refine wp_goto (tgt := 18) dd_X5_ofTwo_45 (by decide) ?_
                refine ih18 (j + 1) mz ?_ ?_ ?_ ?_ ?_
                · first | omega | assumption | (intros; omega)
                · first | omega | assumption | (intros; omega)
                · intro x q1 q2
                  first
                  | (rw [fm x q1 q2, j2 x q1 q2]
                     constructor
                     · rintro (⟨s9, u9, z1, z2, z3, z4, z5, z6⟩ | ⟨i9, j9, z1, z2, z3, z4⟩)
                       · exact ⟨s9, u9, z1, z2, z3, z4, z5, by omega⟩
                       · exact ⟨5 * i + j, 5 * i9 + j9, by omega, by omega, hz, z3, by omega, by omega⟩
                     · rintro ⟨s9, u9, z1, z2, z3, z4, z5, z6⟩
                       by_cases e : s9 = 5 * i + j
                       · refine Or.inr ⟨u9 / 5, u9 % 5, by omega, by omega, by rw [show 5 * (u9 / 5) + u9 % 5 = u9 by omega]; exact z4, by omega⟩
                       · exact Or.inl ⟨s9, u9, z1, z2, z3, z4, z5, by omega⟩)
                  | (rw [j2 x q1 q2]
                     exact ⟨fun ⟨s9, u9, z1, z2, z3, z4, z5, z6⟩ => ⟨s9, u9, z1, z2, z3, z4, z5, by omega⟩, fun ⟨s9, u9, z1, z2, z3, z4, z5, z6⟩ => ⟨s9, u9, z1, z2, z3, z4, z5, by by_cases e : s9 = 5 * i + j; exact absurd (by rw [e]; exact hz) z3; omega⟩⟩)
                · first | assumption | (intro a ha; rw [gm a ha]; exact h3 a ha)
                · omega
        refine lp18 ((5 - 0 : Int)).toNat.succ 0 mm ?_ ?_ ?_ ?_ ?_
        · first | omega | assumption | (intros; omega)
        · first | omega | assumption | (intros; omega)
        · intro x q1 q2; rw [h2 x q1 q2]; exact ⟨fun ⟨s9, u9, z1, z2, z3, z4, z5, z6⟩ => ⟨s9, u9, z1, z2, z3, z4, z5, by omega⟩, fun ⟨s9, u9, z1, z2, z3, z4, z5, z6⟩ => ⟨s9, u9, z1, z2, z3, z4, z5, by omega⟩⟩
        · first | omega | assumption | (intros; omega)
        · omega
  refine lp10 ((5 - 0 : Int)).toNat.succ 0 m1 ?_ ?_ ?_ ?_ ?_
  · first | omega | assumption | (intros; omega)
  · first | omega | assumption | (intros; omega)
  · intro x q1 q2; rw [f1 x q1 q2]; exact ⟨fun z => absurd rfl z, fun ⟨s9, u9, z⟩ => by omega⟩
  · exact g1
  · omega

set_option maxRecDepth 100000 in
set_option maxHeartbeats 4000000 in
theorem sp_X5_cornerCode {l : Launch} {L : Nat} {mem : zMem} {Q : zQ} (f : Int → Int) (n : Int) (k0 : Int) (hc : zC9 mem f n) (hk0 : 0 ≤ k0) (k : Q (some (zI (zcr f n k0))) (zS L) mem) : zw_Ok l mm_X5_cornerCode [zR 57, zI k0] (zS L) mem Q := by
  refine zw_okA (fun hA => ?_)
  have rg_k0 : -2147483648 ≤ k0 ∧ k0 < 2147483648 := hA.2.1
  refine zw_enter (by decide) (Nat.le_of_ble_eq_true rfl) rfl ?_
  show zw_Wp l mm_X5_cornerCode (zS L) 0 [some (zR 57), some (zI k0)] [] mem 0 0 Q
  obtain ⟨c1, c2, c3⟩ := hc
  have c4 := c3 k0 hk0
  refine wp_iload_n dd_X5_cornerCode_0 rfl ?_
  refine wp_if_lt (tgt := 37) dd_X5_cornerCode_1 (by decide) (fun c1_1 => ?_) (fun c1_1 => ?_)
  · skip
    refine wp_bipush dd_X5_cornerCode_37 (by decide) ?_
    refine wp_ireturn (st := []) dd_X5_cornerCode_39 rfl ?_
    refine zq_I ?_ ?_ k
    · unfold zcr
      first
      | (rw [if_neg (by omega)])
      | (have v := (c4 (by omega)); have g9 := zg9_d v.1; rw [if_pos (by omega), v.2, g9.1, g9.2.1])
    · rfl
  · skip
    refine wp_iload_n dd_X5_cornerCode_4 rfl ?_
    refine wp_aload_n dd_X5_cornerCode_5 rfl ?_
    refine wp_getZ 2 rfl dd_X5_cornerCode_6 gf_X5_37 rfl kk_57 (by decide) (zlt rfl) ?_
    refine wp_icmp_ge (tgt := 37) dd_X5_cornerCode_9 (by decide) (fun c9_2 => ?_) (fun c9_2 => ?_)
    · skip
      refine wp_bipush dd_X5_cornerCode_37 (by decide) ?_
      refine wp_ireturn (st := []) dd_X5_cornerCode_39 rfl ?_
      refine zq_I ?_ ?_ k
      · unfold zcr
        first
        | (rw [if_neg (by omega)])
        | (have v := (c4 (by omega)); have g9 := zg9_d v.1; rw [if_pos (by omega), v.2, g9.1, g9.2.1])
      · rfl
    · skip
      refine wp_bipush dd_X5_cornerCode_12 (by decide) ?_
      refine wp_aload_n dd_X5_cornerCode_14 rfl ?_
      refine wp_getR dd_X5_cornerCode_15 gf_X5_15 rfl kk_57 (by decide) (zlt rfl) rr_57_1 ?_
      refine wp_iload_n dd_X5_cornerCode_18 rfl ?_
      refine wp_iald dd_X5_cornerCode_19 kk_59 (zlt rfl) (by omega) (by omega) ?_
      refine wp_bipush dd_X5_cornerCode_20 (by decide) ?_
      refine wp_idivP dd_X5_cornerCode_22 (by omega) (by omega) ?_
      refine wp_imulC dd_X5_cornerCode_23 (by omega) ?_
      refine wp_aload_n dd_X5_cornerCode_24 rfl ?_
      refine wp_getR dd_X5_cornerCode_25 gf_X5_15 rfl kk_57 (by decide) (zlt rfl) rr_57_1 ?_
      refine wp_iload_n dd_X5_cornerCode_28 rfl ?_
      refine wp_iald dd_X5_cornerCode_29 kk_59 (zlt rfl) (by omega) (by omega) ?_
      refine wp_bipush dd_X5_cornerCode_30 (by decide) ?_
      refine wp_iremP dd_X5_cornerCode_32 (by omega) (by omega) ?_
      refine wp_iaddC dd_X5_cornerCode_33 (by omega) ?_
      refine wp_goto (tgt := 39) dd_X5_cornerCode_34 (by decide) ?_
      refine wp_ireturn (st := []) dd_X5_cornerCode_39 rfl ?_
      refine zq_I ?_ ?_ k
      · unfold zcr
        first
        | (rw [if_neg (by omega)])
        | (have v := (c4 (by omega)); have g9 := zg9_d v.1; rw [if_pos (by omega), v.2, g9.1, g9.2.1])
      · rfl

set_option maxRecDepth 100000 in
set_option maxHeartbeats 4000000 in
theorem sp_X5_twiceCovered {l : Launch} {L : Nat} {mem : zMem} {Q : zQ} (f : Int → Int) (n : Int)  (hc : zC9 mem f n) (k : Q (some (zI (zar f (n - 2).toNat))) (zS L) mem) : zw_Ok l mm_X5_twiceCovered [zR 57] (zS L) mem Q := by
  refine zw_enter (by decide) (Nat.le_of_ble_eq_true rfl) rfl ?_
  show zw_Wp l mm_X5_twiceCovered (zS L) 0 [some (zR 57), none, none] [] mem 0 0 Q
  obtain ⟨c1, c2, c3⟩ := hc
  have hfr : ∀ x : Int, 0 ≤ x → x < n → 0 ≤ f x ∧ f x < 144 := fun x q1 q2 => by have v := c3 x q1 q2; have g9 := zg9_d v.1; rw [v.2]; omega
  refine wp_iconst dd_X5_twiceCovered_0 (zr_lit rfl) ?_
  refine wp_istore_n (ls2 := [some (zR 57), some (zI 0), none]) dd_X5_twiceCovered_1 rfl (by decide) rfl ?_
  refine wp_iconst dd_X5_twiceCovered_2 (zr_lit rfl) ?_
  refine wp_istore_n (ls2 := [some (zR 57), some (zI 0), some (zI 2)]) dd_X5_twiceCovered_3 rfl (by decide) rfl ?_
  have lp4 : ∀ (nf : Nat) (w : Int) (i : Int), (2 ≤ i) → (i = 2 ∨ i ≤ n) → (w = zar f (i - 2).toNat) → (50 - i) < (nf : Int) → zw_Wp l mm_X5_twiceCovered (zS L) 4 [some (zR 57), some (zI w), some (zI i)] [] mem 0 0 Q := by
    intro nf
    induction nf with
    | zero =>
      intro w i h0 h1 h2 hmu
      exfalso; omega
    | succ nf ih4 =>
      intro w i h0 h1 h2 hmu
      have hw : -40500 ≤ w ∧ w ≤ 40500 := by
        rcases h1 with h1 | h1
        · rw [h2, h1]; show (-40500 : Int) ≤ 0 ∧ (0 : Int) ≤ 40500; decide
        · have := zar_rg (f := f) (i - 2).toNat (fun x q1 q2 => hfr x q1 (by omega))
          omega
      refine wp_iload_n dd_X5_twiceCovered_4 rfl ?_
      refine wp_aload_n dd_X5_twiceCovered_5 rfl ?_
      refine wp_getZ 2 rfl dd_X5_twiceCovered_6 gf_X5_37 rfl kk_57 (by decide) (zlt rfl) ?_
      refine wp_icmp_ge (tgt := 44) dd_X5_twiceCovered_9 (by decide) (fun c9_1 => ?_) (fun c9_1 => ?_)
      · skip
        refine wp_iload_n dd_X5_twiceCovered_44 rfl ?_
        refine wp_ireturn (st := []) dd_X5_twiceCovered_45 rfl ?_
        refine zq_I ?_ ?_ k
        · rw [h2, show (i - 2).toNat = (n - 2).toNat by omega]
        · rfl
      · skip
        have v0 := c3 0 (by omega) (by omega)
        have v1 := c3 (i - 1) (by omega) (by omega)
        have v2 := c3 i (by omega) (by omega)
        have v3 := ztn_rg (hfr 0 (by omega) (by omega)) (hfr (i - 1) (by omega) (by omega)) (hfr i (by omega) (by omega))
        rw [v0.2, v1.2, v2.2, ztn_g v0.1 v1.1 v2.1] at v3
        refine wp_iload_n dd_X5_twiceCovered_12 rfl ?_
        refine wp_aload_n dd_X5_twiceCovered_13 rfl ?_
        refine wp_getR dd_X5_twiceCovered_14 gf_X5_15 rfl kk_57 (by decide) (zlt rfl) rr_57_1 ?_
        refine wp_iconst dd_X5_twiceCovered_17 (zr_lit rfl) ?_
        refine wp_iald dd_X5_twiceCovered_18 kk_59 (zlt rfl) (by omega) (by omega) ?_
        refine wp_aload_n dd_X5_twiceCovered_19 rfl ?_
        refine wp_getR dd_X5_twiceCovered_20 gf_X5_15 rfl kk_57 (by decide) (zlt rfl) rr_57_1 ?_
        refine wp_iload_n dd_X5_twiceCovered_23 rfl ?_
        refine wp_iconst dd_X5_twiceCovered_24 (zr_lit rfl) ?_
        refine wp_isubC dd_X5_twiceCovered_25 (by omega) ?_
        refine wp_iald dd_X5_twiceCovered_26 kk_59 (zlt rfl) (by omega) (by omega) ?_
        refine wp_aload_n dd_X5_twiceCovered_27 rfl ?_
        refine wp_getR dd_X5_twiceCovered_28 gf_X5_15 rfl kk_57 (by decide) (zlt rfl) rr_57_1 ?_
        refine wp_iload_n dd_X5_twiceCovered_31 rfl ?_
        refine wp_iald dd_X5_twiceCovered_32 kk_59 (zlt rfl) (by omega) (by omega) ?_
        refine wp_callS (M' := mm_X5_turning) (As := [zI (mem 59 0), zI (mem 59 (i - 1)), zI (mem 59 i)]) (rest := [zI w]) dd_X5_twiceCovered_33 lk_X5_45 mS_X5_turning rfl (by decide) (by decide) (Nat.le_of_ble_eq_true rfl) rfl (sp_X5_turning  (mem 59 0) (mem 59 (i - 1)) (mem 59 i) v0.1 v1.1 v2.1 ?_)
        show zw_Wp l mm_X5_twiceCovered (zS L) 36 [some (zR 57), some (zI w), some (zI i)] [zI (zt9 (mem 59 0) (mem 59 (i - 1)) (mem 59 i)), zI w] mem 0 0 Q
        refine wp_iaddC dd_X5_twiceCovered_36 (by omega) ?_
        refine wp_istore_n (ls2 := [some (zR 57), some (zI (w + (zt9 (mem 59 0) (mem 59 (i - 1)) (mem 59 i)))), some (zI i)]) dd_X5_twiceCovered_37 rfl (by decide) rfl ?_
        refine wp_iincC (ls2 := [some (zR 57), some (zI (w + (zt9 (mem 59 0) (mem 59 (i - 1)) (mem 59 i)))), some (zI (i + 1))]) dd_X5_twiceCovered_38 rfl rfl (by decide) (by omega) rfl ?_
        refine wp_goto (tgt := 4) dd_X5_twiceCovered_41 (by decide) ?_
        refine ih4 (w + (zt9 (mem 59 0) (mem 59 (i - 1)) (mem 59 i))) (i + 1) ?_ ?_ ?_ ?_
        · first | omega | assumption | (intros; omega)
        · first | omega | assumption | (intros; omega)
        · rw [show (i + 1 - 2).toNat = (i - 2).toNat + 1 by omega, zar, ← h2, show (((i - 2).toNat : Nat) : Int) + 1 = i - 1 by omega, show (((i - 2).toNat : Nat) : Int) + 2 = i by omega, v0.2, v1.2, v2.2, ztn_g v0.1 v1.1 v2.1]
        · omega
  refine lp4 ((50 - 2 : Int)).toNat.succ 0 2 ?_ ?_ ?_ ?_
  · first | omega | assumption | (intros; omega)
  · first | omega | assumption | (intros; omega)
  · rfl
  · omega


/-! ===== ties: turning, changing, undoing, images ===== -/
theorem zI4.note {m m2 : zMem} (h : zI4 m) {w x v W : Int} (h44 : m2 44 0 = znn (m 44 0)) (h8 : m2 67 8 = znn (m 67 8)) (h5 : m2 67 5 = m 67 5) (h1 : m2 67 1 = m 67 1) (hc : ∀ k : Int, 0 ≤ k → k < 16 → m2 45 k = zsh1 (m 45) (m 44 0) w k ∧ m2 46 k = zsh1 (m 46) (m 44 0) x k ∧ m2 47 k = zsh1 (m 47) (m 44 0) v k) (hr : ∀ k : Int, 0 ≤ k → k < 16 → m2 72 k = zsh1 (m 72) (m 67 8) W k ∧ m2 73 k = zsh1 (m 73) (m 67 8) v k) (hnew : (0 ≤ w ∧ w < m 67 5) ∧ ((x = -1 ∧ W = -1 - w ∧ 0 ≤ v ∧ v < 60) ∨ ((0 ≤ x ∧ x < 25) ∧ W = 25 * w + x ∧ 0 ≤ v ∧ v < m 67 1))) : zI4 m2 := by
  obtain ⟨g1, g2, g3⟩ := h
  refine ⟨by rw [h44, h8, g1], by rw [h8]; unfold znn; split <;> omega, fun k q1 q2 => ?_⟩
  have hk16 : k < 16 := by rw [h8] at q2; unfold znn at q2; split at q2 <;> omega
  obtain ⟨c1, c2, c3⟩ := hc k q1 hk16
  obtain ⟨r1, r2⟩ := hr k q1 hk16
  rw [g1] at c1 c2 c3
  rw [c1, c2, c3, r1, r2, h5, h1]
  rw [h8] at q2
  unfold znn at q2
  unfold zsh1
  by_cases e : m 67 8 = 16
  · rw [if_pos e] at q2
    simp only [if_pos e]
    by_cases e2 : k = 15
    · simp only [if_pos e2]
      exact ⟨hnew.1, trivial, hnew.2⟩
    · simp only [if_neg e2, if_pos (show 0 ≤ k ∧ k < 15 by omega)]
      exact g3 (k + 1) (by omega) (by omega)
  · rw [if_neg e] at q2
    simp only [if_neg e]
    by_cases e2 : k = m 67 8
    · simp only [if_pos e2]
      exact ⟨hnew.1, trivial, hnew.2⟩
    · simp only [if_neg e2]
      exact g3 k q1 (by omega)
theorem zFq.hi {m m1 : zMem} {q : Int} (h : zFq m m1 q) (hq : 0 ≤ q ∧ q < 6) : zHi m m1 := fun a q1 q2 => by
  have := zo_rg hq
  exact h a (by omega) (by omega) (by omega) (by omega) (by omega) (by omega) (by omega)
theorem zFq.o {m m1 : zMem} {q : Int} (h : zFq m m1 q) (hq : 0 ≤ q ∧ q < 6) {a : Nat} (ha : a < 3 ∨ (20 < a ∧ a < 44) ∨ 47 < a) : m1 a = m a := by
  have := zo_rg hq
  exact h a (by omega) (by omega) (by omega) (by omega) (by omega) (by omega) (by omega)
theorem zFq.p {m m1 : zMem} {q r p kd fg : Int} {t : Int → Int} (h : zFq m m1 q) (hq : 0 ≤ q ∧ q < 6) (hr : 0 ≤ r ∧ r < 6) (hne : r ≠ q) (k : zPI m (zo r) p kd fg t) : zPI m1 (zo r) p kd fg t := by
  have a1 := zo_rg hq
  have a2 := zo_rg hr
  have a3 := zo_ne hr.1 hq.1 hne
  exact k.keep (h _ (by omega) (by omega) (by omega) (by omega) (by omega) (by omega) (by omega)) (h _ (by omega) (by omega) (by omega) (by omega) (by omega) (by omega) (by omega)) (h _ (by omega) (by omega) (by omega) (by omega) (by omega) (by omega) (by omega))
theorem zPI.copy {m m2 : zMem} {o o2 : Nat} {p kd fg : Int} {t : Int → Int} (h : zPI m o p kd fg t) (h0 : m2 o2 0 = m o 0) (h1 : m2 o2 1 = m o 1) (h2 : ∀ x : Int, 0 ≤ x → x < 25 → m2 (o2 + 1) x = m (o + 1) x ∧ m2 (o2 + 2) x = m (o + 2) x) : zPI m2 o2 p kd fg t := by
  obtain ⟨a1, a2, a3, a4, a5⟩ := h
  refine ⟨by rw [h0]; exact a1, by rw [h1]; exact a2, a3, fun x q1 q2 => ?_, fun i j hi hj => ?_⟩
  · rw [(h2 x q1 q2).1]; exact a4 x q1 q2
  · rw [(h2 _ (by omega) (by omega)).2]; exact a5 i j hi hj
theorem zsrc_a {m : zMem} {q : Int} (h : 0 ≤ q ∧ q < 6) : zsrc m (2 + 2 * q) = m 70 q ∧ zsrc m (3 + 2 * q) = m 71 q := by
  have a := zW_2 (mem := m) (c := 1) h
  have b := zW_3 (mem := m) (c := 1) h
  unfold zW at a b
  rw [if_neg (by decide), if_neg (by decide)] at a b
  exact ⟨a, b⟩
theorem zsrc_t {m : zMem} {t : Int} (h : 0 ≤ t) : zsrc m (14 + t) = m 69 t := by
  have a := zW_14 (mem := m) (c := 1) h
  unfold zW at a
  rw [if_neg (by decide), if_neg (by decide)] at a
  exact a
theorem rf_turn {l : Launch} {L : Nat} {mem m1 : zMem} {Q : zQ} (q kd fg : Int) (r : Int) (hI : zInv mem) (hP : (zyT mem q kd fg ≠ 0 ∧ r = zyT mem q kd fg ∧ m1 = zCn mem (zyT mem q kd fg)) ∨ (zyT mem q kd fg = 0 ∧ r = 10 * mem 70 q + mem 71 q ∧ zNt mem m1 q (-1) (10 * mem 70 q + mem 71 q) ∧ zPI m1 (zo q) (mem 67 1) kd fg (ztd mem q) ∧ zFq mem m1 q)) (k : ∀ m2 : zMem, zInv m2 → Q (some (zI r)) (zS L) m2) : zw_Ok l mm_X11_turn [zR 67, zI q, zI kd, zI fg] (zS L) m1 Q := by
  have hh : zHi mem m1 := by rcases hP with ⟨-, -, z⟩ | ⟨z0, -, -, -, z⟩; rw [z]; exact zCn.hi; exact z.hi (by have := hI.1.2.2.1; unfold zyT at z0; omega)
  have hk := hh.kp
  have e67 := hh 67 (by decide) (by decide)
  obtain ⟨R1, R2, R3, R4, R5, R6, R7⟩ := hI.rf.hi hh
  refine sp_X11_turn  q kd fg R2 R3 R4 (fun r2 m2 hf => ?_)
  obtain ⟨I1, I2, I3, I4, I5, I6, I7⟩ := id hI
  rw [zyT_kp hk, hk.2.2.2.1, hk.2.2.2.2] at hf
  have hyr : zyT mem q kd fg = 0 ∨ (-6 ≤ zyT mem q kd fg ∧ zyT mem q kd fg ≤ -1) := by unfold zyT; omega
  obtain ⟨e9, hI2⟩ : r2 = r ∧ zInv m2 := by
    rcases hf with ⟨z1, z2, z3⟩ | ⟨z1, z2, m9, z3, z4⟩
    · rcases hP with ⟨h1, h2, h3⟩ | ⟨h1, -⟩
      · exact ⟨by omega, by rw [z3, h3]; exact hI.no (by omega)⟩
      · omega
    · rcases hP with ⟨h1, -⟩ | ⟨h1, h2, h3, h4, h5⟩
      · omega
      · have hn := I1.2.2.1
        have hv : ((0 ≤ q ∧ q < mem 67 5) ∧ 0 ≤ kd ∧ kd ≤ 5) ∧ 0 ≤ fg ∧ fg ≤ 9 := by unfold zyT at h1; omega
        have hq6 : 0 ≤ q ∧ q < 6 := by omega
        have hPq := (I1.2.2.2.2 q hv.1.1.1 hv.1.1.2).2.2.1
        obtain ⟨⟨t1, t2⟩, t3, t4⟩ := z3
        rw [hh 72 (by decide) (by decide), hh 73 (by decide) (by decide), e67] at t2
        rw [e67] at t1 t4
        have hzq := zo_rg hq6
        have e' : ∀ a : Nat, (a ≠ 67 ∧ a ≠ 70 ∧ a ≠ 71 ∧ a ≠ 72 ∧ a ≠ 73) → m2 a = m1 a := fun a w => by rw [z4, zu_row w.2.2.1, zu_row w.2.1, t3 a w.1 w.2.2.2.1 w.2.2.2.2]
        have e : ∀ a : Nat, ((a < 3 ∨ (20 < a ∧ a < 44) ∨ 47 < a) ∧ a ≠ 67 ∧ a ≠ 70 ∧ a ≠ 71 ∧ a ≠ 72 ∧ a ≠ 73) → m2 a = mem a := fun a w => (e' a w.2).trans (h5.o hq6 w.1)
        have s : ∀ t : Int, (t = 1 ∨ t = 5 ∨ t = 11 ∨ t = 34) → m2 67 t = mem 67 t := fun t w => by rw [z4, zu_row (by decide), zu_row (by decide)]; exact t4 t (by omega)
        have k70 : ∀ x : Int, m2 70 x = if x = q then kd else mem 70 x := fun x => by
          rw [z4, zu_row (by decide)]
          by_cases w : x = q
          · rw [if_pos w, w, zu_s]
          · rw [if_neg w, zu_n (Or.inr w), t3 70 (by decide) (by decide) (by decide), hk.2.2.2.1]
        have k71 : ∀ x : Int, m2 71 x = if x = q then fg else mem 71 x := fun x => by
          rw [z4]
          by_cases w : x = q
          · rw [if_pos w, w, zu_s]
          · rw [if_neg w, zu_n (Or.inr w), zu_row (by decide), t3 71 (by decide) (by decide) (by decide), hk.2.2.2.2]
        refine ⟨by omega, ⟨by rw [s 1 (by decide)]; exact I1.1, by rw [e 1 (by decide), s 1 (by decide)]; exact I1.2.1, by rw [s 5 (by decide)]; exact hn, by rw [e 1 (by decide), s 5 (by decide)]; exact I1.2.2.2.1, fun x w1 w2 => ?_⟩, (I2.mv (by rw [e 0 (by decide)]) (s 34 (by decide)) (e 21 (by decide)) (fun a q1 q2 => e a (by omega)) (e 88 (by decide))), (I3.mv (by rw [e 41 (by decide)]) (s 11 (by decide)) (e 43 (by decide)) (e 74 (by decide))), I4.note (w := q) (x := -1) (v := 10 * mem 70 q + mem 71 q) (W := -1 - q) (by rw [e' 44 (by decide)]; exact h3.1) (by rw [z4, zu_row (by decide), zu_row (by decide)]; exact t1) (s 5 (by decide)) (s 1 (by decide)) (fun k9 w1 w2 => by rw [e' 45 (by decide), e' 46 (by decide), e' 47 (by decide)]; exact h3.2 k9 w1 w2) (fun k9 w1 w2 => by rw [z4, zu_row (by decide), zu_row (by decide), zu_row (by decide), zu_row (by decide)]; exact t2 k9 w1 w2) ⟨hv.1.1, Or.inl ⟨rfl, rfl, by omega, by omega⟩⟩, (I5.mv (e 64 (by decide)) (e 65 (by decide)) (e 86 (by decide)) (e 87 (by decide))), (I6.mv (e 66 (by decide)) (e 68 (by decide))), (I7.mv (e 1000 (by decide)))⟩
        rw [s 5 (by decide)] at w2
        have hx6 : 0 ≤ x ∧ x < 6 := by omega
        have hzx := zo_rg hx6
        have et : ztd m2 x = ztd mem x := by funext y9; unfold ztd; rw [e 69 (by decide)]
        rw [s 1 (by decide), et, k70 x, k71 x]
        by_cases w : x = q
        · rw [if_pos w, if_pos w, w]
          exact h4.keep (e' _ (by omega)) (e' _ (by omega)) (e' _ (by omega))
        · rw [if_neg w, if_neg w]
          exact (h5.p hq6 hx6 w (I1.2.2.2.2 x w1 w2)).keep (e' _ (by omega)) (e' _ (by omega)) (e' _ (by omega))
  rw [e9]; exact k m2 hI2

theorem rf_change {l : Launch} {L : Nat} {mem m1 : zMem} {Q : zQ} (q i j v : Int) (r : Int) (hI : zInv mem) (hP : (zyP mem q i j ≠ 0 ∧ r = zyP mem q i j ∧ m1 = zCn mem (zyP mem q i j)) ∨ (zyP mem q i j = 0 ∧ r = ztd mem q (5 * i + j) ∧ zNt mem m1 q (5 * i + j) (ztd mem q (5 * i + j)) ∧ zPI m1 (zo q) (mem 67 1) (mem 70 q) (mem 71 q) (fun y => if y = 5 * i + j then v % mem 67 1 else ztd mem q y) ∧ zFq mem m1 q)) (k : ∀ m2 : zMem, zInv m2 → Q (some (zI r)) (zS L) m2) : zw_Ok l mm_X11_change [zR 67, zI q, zI i, zI j, zI v] (zS L) m1 Q := by
  have hh : zHi mem m1 := by rcases hP with ⟨-, -, z⟩ | ⟨z0, -, -, -, z⟩; rw [z]; exact zCn.hi; exact z.hi (by have := hI.1.2.2.1; unfold zyP at z0; omega)
  have hk := hh.kp
  have e67 := hh 67 (by decide) (by decide)
  obtain ⟨R1, R2, R3, R4, R5, R6, R7⟩ := hI.rf.hi hh
  refine sp_X11_change  q i j v R1 R2 R4 (fun r2 m2 hf => ?_)
  obtain ⟨I1, I2, I3, I4, I5, I6, I7⟩ := id hI
  have hix : 25 * q + 5 * i + j = 25 * q + (5 * i + j) := by omega
  rw [zyP_kp hk, hk.2.2.1, hk.1, hix] at hf
  have hyr : zyP mem q i j = 0 ∨ (-6 ≤ zyP mem q i j ∧ zyP mem q i j ≤ -1) := by unfold zyP; omega
  obtain ⟨e9, hI2⟩ : r2 = r ∧ zInv m2 := by
    rcases hf with ⟨z1, z2, z3⟩ | ⟨z1, z2, m9, z3, z4⟩
    · rcases hP with ⟨h1, h2, h3⟩ | ⟨h1, -⟩
      · exact ⟨by omega, by rw [z3, h3]; exact hI.no (by omega)⟩
      · omega
    · rcases hP with ⟨h1, -⟩ | ⟨h1, h2, h3, h4, h5⟩
      · omega
      · have hn := I1.2.2.1
        have hv : (0 ≤ q ∧ q < mem 67 5) ∧ (0 ≤ i ∧ i ≤ 4) ∧ 0 ≤ j ∧ j ≤ 4 := by unfold zyP at h1; omega
        have hq6 : 0 ≤ q ∧ q < 6 := by omega
        have hPq := I1.2.2.2.2 q hv.1.1 hv.1.2
        have hold := hPq.2.2.2.1 (5 * i + j) (by omega) (by omega)
        obtain ⟨⟨t1, t2⟩, t3, t4⟩ := z3
        rw [hh 72 (by decide) (by decide), hh 73 (by decide) (by decide), e67] at t2
        rw [e67] at t1 t4
        have hzq := zo_rg hq6
        have e' : ∀ a : Nat, (a ≠ 67 ∧ a ≠ 69 ∧ a ≠ 72 ∧ a ≠ 73) → m2 a = m1 a := fun a w => by rw [z4, zu_row w.2.1, t3 a w.1 w.2.2.1 w.2.2.2]
        have e : ∀ a : Nat, ((a < 3 ∨ (20 < a ∧ a < 44) ∨ 47 < a) ∧ a ≠ 67 ∧ a ≠ 69 ∧ a ≠ 72 ∧ a ≠ 73) → m2 a = mem a := fun a w => (e' a w.2).trans (h5.o hq6 w.1)
        have s : ∀ t : Int, (t = 1 ∨ t = 5 ∨ t = 11 ∨ t = 34) → m2 67 t = mem 67 t := fun t w => by rw [z4, zu_row (by decide)]; exact t4 t (by omega)
        have k69 : ∀ x : Int, m2 69 x = if x = 25 * q + (5 * i + j) then v % mem 67 1 else mem 69 x := fun x => by
          rw [z4]
          by_cases w : x = 25 * q + (5 * i + j)
          · rw [if_pos w, w, zu_s]
          · rw [if_neg w, zu_n (Or.inr w), t3 69 (by decide) (by decide) (by decide), hk.2.2.1]
        have ho : mem 69 (25 * q + (5 * i + j)) = ztd mem q (5 * i + j) := rfl
        rw [ho] at t2
        refine ⟨by rw [z2, h2]; exact ho, ⟨by rw [s 1 (by decide)]; exact I1.1, by rw [e 1 (by decide), s 1 (by decide)]; exact I1.2.1, by rw [s 5 (by decide)]; exact hn, by rw [e 1 (by decide), s 5 (by decide)]; exact I1.2.2.2.1, fun x w1 w2 => ?_⟩, (I2.mv (by rw [e 0 (by decide)]) (s 34 (by decide)) (e 21 (by decide)) (fun a q1 q2 => e a (by omega)) (e 88 (by decide))), (I3.mv (by rw [e 41 (by decide)]) (s 11 (by decide)) (e 43 (by decide)) (e 74 (by decide))), I4.note (w := q) (x := 5 * i + j) (v := ztd mem q (5 * i + j)) (W := 25 * q + (5 * i + j)) (by rw [e' 44 (by decide)]; exact h3.1) (by rw [z4, zu_row (by decide)]; exact t1) (s 5 (by decide)) (s 1 (by decide)) (fun k9 w1 w2 => by rw [e' 45 (by decide), e' 46 (by decide), e' 47 (by decide)]; exact h3.2 k9 w1 w2) (fun k9 w1 w2 => by rw [z4, zu_row (by decide), zu_row (by decide)]; exact t2 k9 w1 w2) ⟨hv.1, Or.inr ⟨by omega, rfl, hold.2.1, hold.2.2⟩⟩, (I5.mv (e 64 (by decide)) (e 65 (by decide)) (e 86 (by decide)) (e 87 (by decide))), (I6.mv (e 66 (by decide)) (e 68 (by decide))), (I7.mv (e 1000 (by decide)))⟩
        rw [s 5 (by decide)] at w2
        have hx6 : 0 ≤ x ∧ x < 6 := by omega
        have hzx := zo_rg hx6
        rw [s 1 (by decide), e 70 (by decide), e 71 (by decide)]
        by_cases w : x = q
        · rw [w]
          refine (h4.keep (e' _ (by omega)) (e' _ (by omega)) (e' _ (by omega))).told (fun y9 w3 w4 => ?_)
          unfold ztd
          rw [k69]
          by_cases w5 : y9 = 5 * i + j
          · rw [if_pos w5, if_pos (by omega)]
          · rw [if_neg w5, if_neg (by omega)]
        · refine ((h5.p hq6 hx6 w (I1.2.2.2.2 x w1 w2)).keep (e' _ (by omega)) (e' _ (by omega)) (e' _ (by omega))).told (fun y9 w3 w4 => ?_)
          unfold ztd
          rw [k69, if_neg (by omega)]
  rw [e9]; exact k m2 hI2

theorem rf_undo {l : Launch} {L : Nat} {mem m1 : zMem} {Q : zQ}  (r : Int) (hI : zInv mem) (hP : (mem 67 8 = 0 ∧ r = -3 ∧ m1 = zCn mem (-3)) ∨ (0 < mem 67 8 ∧ r = mem 67 8 - 1 ∧ m1 44 0 = mem 67 8 - 1 ∧ ((mem 46 (mem 67 8 - 1) = -1 ∧ zPI m1 (zo (mem 45 (mem 67 8 - 1))) (mem 67 1) (mem 47 (mem 67 8 - 1) / 10) (mem 47 (mem 67 8 - 1) % 10) (ztd mem (mem 45 (mem 67 8 - 1)))) ∨ (mem 46 (mem 67 8 - 1) ≠ -1 ∧ zPI m1 (zo (mem 45 (mem 67 8 - 1))) (mem 67 1) (mem 70 (mem 45 (mem 67 8 - 1))) (mem 71 (mem 45 (mem 67 8 - 1))) (fun y => if y = mem 46 (mem 67 8 - 1) then mem 47 (mem 67 8 - 1) % mem 67 1 else ztd mem (mem 45 (mem 67 8 - 1)) y))) ∧ ∀ a : Nat, a ≠ 44 → a ≠ zo (mem 45 (mem 67 8 - 1)) → a ≠ zo (mem 45 (mem 67 8 - 1)) + 1 → a ≠ zo (mem 45 (mem 67 8 - 1)) + 2 → m1 a = mem a)) (k : ∀ m2 : zMem, zInv m2 → Q (some (zI r)) (zS L) m2) : zw_Ok l mm_X11_undo [zR 67] (zS L) m1 Q := by
  have hh : zHi mem m1 := by
    rcases hP with ⟨-, -, z⟩ | ⟨z0, -, -, -, z⟩
    · rw [z]; exact zCn.hi
    · have hun := (hI.2.2.2.1.2.2 (mem 67 8 - 1) (by omega) (by omega)).1
      have hn := hI.1.2.2.1
      have hq9 := zo_rg (q := mem 45 (mem 67 8 - 1)) (by omega)
      exact fun a q1 q2 => z a (by omega) (by omega) (by omega) (by omega)
  have hk := hh.kp
  have e67 := hh 67 (by decide) (by decide)
  obtain ⟨R1, R2, R3, R4, R5, R6, R7⟩ := hI.rf.hi hh
  refine sp_X11_undo   R4 R5 (fun r2 m2 hf => ?_)
  obtain ⟨I1, I2, I3, I4, I5, I6, I7⟩ := id hI
  rw [e67, hh 72 (by decide) (by decide), hh 73 (by decide) (by decide)] at hf
  obtain ⟨e9, hI2⟩ : r2 = r ∧ zInv m2 := by
    rcases hf with ⟨z1, z2, z3⟩ | ⟨z1, z2, z3⟩
    · rcases hP with ⟨h1, h2, h3⟩ | ⟨h1, -⟩
      · exact ⟨by omega, by rw [z3, h3]; exact hI.no (by decide)⟩
      · omega
    · rcases hP with ⟨h1, -⟩ | ⟨h1, h2, h3, h4, h5⟩
      · omega
      · have hn := I1.2.2.1
        obtain ⟨u1, u2, u3⟩ := I4.2.2 (mem 67 8 - 1) (by omega) (by omega)
        obtain ⟨w, hw⟩ : ∃ w, w = mem 45 (mem 67 8 - 1) := ⟨_, rfl⟩
        obtain ⟨x, hx⟩ : ∃ x, x = mem 46 (mem 67 8 - 1) := ⟨_, rfl⟩
        obtain ⟨v, hv⟩ : ∃ v, v = mem 47 (mem 67 8 - 1) := ⟨_, rfl⟩
        rw [← hv] at u2
        rw [← u2] at z3 u3
        rw [← hw, ← hx, ← hv] at h4
        rw [← hw] at h5 u1 u3
        rw [← hx] at u3
        have hq6 : 0 ≤ w ∧ w < 6 := by omega
        have hzq := zo_rg hq6
        have hF : ∀ a : Nat, (a < 3 ∨ (20 < a ∧ a < 44) ∨ 44 < a) → m1 a = mem a := fun a q => h5 a (by omega) (by omega) (by omega) (by omega)
        have hFp : ∀ (y9 p kd fg : Int) (t : Int → Int), 0 ≤ y9 ∧ y9 < 6 → y9 ≠ w → zPI mem (zo y9) p kd fg t → zPI m1 (zo y9) p kd fg t := fun y9 p kd fg t a1 a2 a3 => by
          have b1 := zo_rg a1
          have b2 := zo_ne a1.1 hq6.1 a2
          exact a3.keep (h5 _ (by omega) (by omega) (by omega) (by omega)) (h5 _ (by omega) (by omega) (by omega) (by omega)) (h5 _ (by omega) (by omega) (by omega) (by omega))
        rcases z3 with ⟨y1, y2⟩ | ⟨y1, y2⟩
        · have ux : x = -1 ∧ mem 72 (mem 67 8 - 1) = -1 - w ∧ 0 ≤ v ∧ v < 60 := by omega
          rw [ux.2.1, show (-1 : Int) - (-1 - w) = w by omega] at y2
          have h4a : zPI m1 (zo w) (mem 67 1) (v / 10) (v % 10) (ztd mem w) := by rcases h4 with z | z; exact z.2; omega
          have e' : ∀ a : Nat, (a ≠ 67 ∧ a ≠ 70 ∧ a ≠ 71) → m2 a = m1 a := fun a q => by rw [y2, zu_row q.2.2, zu_row q.2.1, zu_row q.1]
          have e : ∀ a : Nat, ((a < 3 ∨ (20 < a ∧ a < 44) ∨ 44 < a) ∧ a ≠ 67 ∧ a ≠ 70 ∧ a ≠ 71) → m2 a = mem a := fun a q => (e' a q.2).trans (hF a q.1)
          have s : ∀ t : Int, (t = 1 ∨ t = 5 ∨ t = 11 ∨ t = 34) → m2 67 t = mem 67 t := fun t q => by rw [y2, zu_row (by decide), zu_row (by decide), zu_n (Or.inr (by omega)), e67]
          have s8 : m2 67 8 = mem 67 8 - 1 := by rw [y2, zu_row (by decide), zu_row (by decide), zu_s]
          refine ⟨by omega, ⟨by rw [s 1 (by decide)]; exact I1.1, by rw [e 1 (by decide), s 1 (by decide)]; exact I1.2.1, by rw [s 5 (by decide)]; exact hn, by rw [e 1 (by decide), s 5 (by decide)]; exact I1.2.2.2.1, fun y9 w1 w2 => ?_⟩, (I2.mv (by rw [e 0 (by decide)]) (s 34 (by decide)) (e 21 (by decide)) (fun a q1 q2 => e a (by omega)) (e 88 (by decide))), (I3.mv (by rw [e 41 (by decide)]) (s 11 (by decide)) (e 43 (by decide)) (e 74 (by decide))), ⟨by rw [e' 44 (by decide), h3, s8], by have := I4.2.1; omega, fun k9 w1 w2 => by rw [e 45 (by decide), e 46 (by decide), e 47 (by decide), e 72 (by decide), e 73 (by decide), s 5 (by decide), s 1 (by decide)]; exact I4.2.2 k9 w1 (by omega)⟩, (I5.mv (e 64 (by decide)) (e 65 (by decide)) (e 86 (by decide)) (e 87 (by decide))), (I6.mv (e 66 (by decide)) (e 68 (by decide))), (I7.mv (e 1000 (by decide)))⟩
          rw [s 5 (by decide)] at w2
          have hx6 : 0 ≤ y9 ∧ y9 < 6 := by omega
          have hzx := zo_rg hx6
          have et : ztd m2 y9 = ztd mem y9 := by funext t; unfold ztd; rw [e 69 (by decide)]
          have k70 : m2 70 y9 = if y9 = w then v / 10 else mem 70 y9 := by
            rw [y2, zu_row (by decide)]
            by_cases q : y9 = w
            · rw [if_pos q, q, zu_s]
            · rw [if_neg q, zu_n (Or.inr q), zu_row (by decide), hk.2.2.2.1]
          have k71 : m2 71 y9 = if y9 = w then v % 10 else mem 71 y9 := by
            rw [y2]
            by_cases q : y9 = w
            · rw [if_pos q, q, zu_s]
            · rw [if_neg q, zu_n (Or.inr q), zu_row (by decide), zu_row (by decide), hk.2.2.2.2]
          rw [s 1 (by decide), et, k70, k71]
          by_cases q : y9 = w
          · rw [if_pos q, if_pos q, q]
            exact h4a.keep (e' _ (by omega)) (e' _ (by omega)) (e' _ (by omega))
          · rw [if_neg q, if_neg q]
            exact (hFp y9 _ _ _ _ hx6 q (I1.2.2.2.2 y9 w1 w2)).keep (e' _ (by omega)) (e' _ (by omega)) (e' _ (by omega))
        · have ux : (0 ≤ x ∧ x < 25) ∧ mem 72 (mem 67 8 - 1) = 25 * w + x ∧ 0 ≤ v ∧ v < mem 67 1 := by omega
          rw [ux.2.1] at y2
          have h4a : zPI m1 (zo w) (mem 67 1) (mem 70 w) (mem 71 w) (fun y => if y = x then v % mem 67 1 else ztd mem w y) := by rcases h4 with z | z; omega; exact z.2
          have e' : ∀ a : Nat, (a ≠ 67 ∧ a ≠ 69) → m2 a = m1 a := fun a q => by rw [y2, zu_row q.2, zu_row q.1]
          have e : ∀ a : Nat, ((a < 3 ∨ (20 < a ∧ a < 44) ∨ 44 < a) ∧ a ≠ 67 ∧ a ≠ 69) → m2 a = mem a := fun a q => (e' a q.2).trans (hF a q.1)
          have s : ∀ t : Int, (t = 1 ∨ t = 5 ∨ t = 11 ∨ t = 34) → m2 67 t = mem 67 t := fun t q => by rw [y2, zu_row (by decide), zu_n (Or.inr (by omega)), e67]
          have s8 : m2 67 8 = mem 67 8 - 1 := by rw [y2, zu_row (by decide), zu_s]
          refine ⟨by omega, ⟨by rw [s 1 (by decide)]; exact I1.1, by rw [e 1 (by decide), s 1 (by decide)]; exact I1.2.1, by rw [s 5 (by decide)]; exact hn, by rw [e 1 (by decide), s 5 (by decide)]; exact I1.2.2.2.1, fun y9 w1 w2 => ?_⟩, (I2.mv (by rw [e 0 (by decide)]) (s 34 (by decide)) (e 21 (by decide)) (fun a q1 q2 => e a (by omega)) (e 88 (by decide))), (I3.mv (by rw [e 41 (by decide)]) (s 11 (by decide)) (e 43 (by decide)) (e 74 (by decide))), ⟨by rw [e' 44 (by decide), h3, s8], by have := I4.2.1; omega, fun k9 w1 w2 => by rw [e 45 (by decide), e 46 (by decide), e 47 (by decide), e 72 (by decide), e 73 (by decide), s 5 (by decide), s 1 (by decide)]; exact I4.2.2 k9 w1 (by omega)⟩, (I5.mv (e 64 (by decide)) (e 65 (by decide)) (e 86 (by decide)) (e 87 (by decide))), (I6.mv (e 66 (by decide)) (e 68 (by decide))), (I7.mv (e 1000 (by decide)))⟩
          rw [s 5 (by decide)] at w2
          have hx6 : 0 ≤ y9 ∧ y9 < 6 := by omega
          have hzx := zo_rg hx6
          have k69 : ∀ t : Int, m2 69 t = if t = 25 * w + x then v else mem 69 t := fun t => by
            rw [y2]
            by_cases q : t = 25 * w + x
            · rw [if_pos q, q, zu_s]
            · rw [if_neg q, zu_n (Or.inr q), zu_row (by decide), hk.2.2.1]
          rw [s 1 (by decide), e 70 (by decide), e 71 (by decide)]
          by_cases q : y9 = w
          · rw [q]
            refine (h4a.keep (e' _ (by omega)) (e' _ (by omega)) (e' _ (by omega))).told (fun t w3 w4 => ?_)
            unfold ztd
            rw [k69]
            by_cases w5 : t = x
            · rw [if_pos w5, if_pos (by omega)]; exact Int.emod_eq_of_lt ux.2.2.1 ux.2.2.2
            · rw [if_neg w5, if_neg (by omega)]
          · refine ((hFp y9 _ _ _ _ hx6 q (I1.2.2.2.2 y9 w1 w2)).keep (e' _ (by omega)) (e' _ (by omega)) (e' _ (by omega))).told (fun t w3 w4 => ?_)
            unfold ztd
            rw [k69, if_neg (by omega)]
  rw [e9]; exact k m2 hI2


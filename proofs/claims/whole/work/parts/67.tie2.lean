theorem zyL_hi {m m1 : zMem} (h : zHi m m1) (l i : Int) : zyL m1 l i = zyL m l i := by
  unfold zyL
  rw [h 86 (by decide) (by decide)]
theorem zyN_hi {m m1 : zMem} (h : zHi m m1) (l a b le tb : Int) : zyN m1 l a b le tb = zyN m l a b le tb := by
  unfold zyN
  rw [zyB_kp h.kp]
theorem zHi.rf {m : zMem} : zHi m m := fun _ _ _ => rfl
theorem zjd_un {f g : Int → Int} {a b : Int} (h : zjd f g a) (k : zjd f g b) : a = b := by
  rcases h with ⟨h1, h2, h3, h4⟩ | ⟨h1, h2⟩
  · rcases k with ⟨k1, k2, k3, k4⟩ | ⟨k1, k2⟩
    · rcases Int.lt_trichotomy a b with q | q | q
      · exact absurd (k4 a h1 q) h3
      · exact q
      · exact absurd (h4 b k1 q) k3
    · exact absurd (k2 a h1 h2) h3
  · rcases k with ⟨k1, k2, k3, k4⟩ | ⟨k1, k2⟩
    · exact absurd (h2 b k1 k2) k3
    · omega
theorem rf_list {l : Launch} {L : Nat} {mem m1 : zMem} {Q : zQ} (l0 n : Int) (r : Int) (hI : zInv mem) (hP : (¬ (0 ≤ l0 ∧ l0 ≤ 2) ∧ r = -1 ∧ m1 = zCn mem (-1)) ∨ ((0 ≤ l0 ∧ l0 ≤ 2) ∧ ((40 < n ∧ r = -6 ∧ m1 = zCn mem (-6)) ∨ (n < 0 ∧ r = -14 ∧ m1 = mem) ∨ (0 ≤ n ∧ n ≤ 40 ∧ r = 1 ∧ (∀ x : Int, m1 64 x = if x = l0 then n else mem 64 x) ∧ (∀ x : Int, m1 65 x = if 40 * l0 ≤ x ∧ x < 40 * l0 + n then 0 else mem 65 x) ∧ ∀ a : Nat, a ≠ 64 → a ≠ 65 → m1 a = mem a)))) (k : ∀ m2 : zMem, zInv m2 → Q (some (zI r)) (zS L) m2) : zw_Ok l mm_X11_list [zR 67, zI l0, zI n] (zS L) m1 Q := by
  have hh : zHi mem m1 := by rcases hP with ⟨-, -, z⟩ | ⟨-, ⟨-, -, z⟩ | ⟨-, -, z⟩ | ⟨-, -, -, -, -, z⟩⟩; rw [z]; exact zCn.hi; rw [z]; exact zCn.hi; rw [z]; exact zHi.rf; exact fun a q1 q2 => z a (by omega) (by omega)
  have hk := hh.kp
  have e67 := hh 67 (by decide) (by decide)
  obtain ⟨R1, R2, R3, R4, R5, R6, R7⟩ := hI.rf.hi hh
  refine sp_X11_list  l0 n  (fun r2 m2 hf => ?_)
  obtain ⟨I1, I2, I3, I4, I5, I6, I7⟩ := id hI
  obtain ⟨e9, hI2⟩ : r2 = r ∧ zInv m2 := by
    rcases hf with ⟨z1, z2, z3⟩ | ⟨z1, ⟨z2, z3, z4⟩ | ⟨z2, z3, z4⟩ | ⟨z2, z3, z4, z5, z6, z7⟩⟩
    · rcases hP with ⟨h1, h2, h3⟩ | ⟨h1, -⟩
      · exact ⟨by omega, by rw [z3, h3]; exact hI.no (by decide)⟩
      · exact absurd h1 z1
    · rcases hP with ⟨h1, -⟩ | ⟨h1, ⟨h2, h3, h4⟩ | ⟨h2, -⟩ | ⟨h2, h3, -⟩⟩
      · exact absurd z1 h1
      · exact ⟨by omega, by rw [z4, h4]; exact hI.no (by decide)⟩
      · omega
      · omega
    · rcases hP with ⟨h1, -⟩ | ⟨h1, ⟨h2, -⟩ | ⟨h2, h3, h4⟩ | ⟨h2, -⟩⟩
      · exact absurd z1 h1
      · omega
      · exact ⟨by omega, by rw [z4, h4]; exact hI⟩
      · omega
    · rcases hP with ⟨h1, -⟩ | ⟨h1, ⟨h2, -⟩ | ⟨h2, -⟩ | ⟨h2, h3, h4, h5, h6, h7⟩⟩
      · exact absurd z1 h1
      · omega
      · omega
      · have e : ∀ a : Nat, (a ≠ 64 ∧ a ≠ 65 ∧ a ≠ 86 ∧ a ≠ 87) → m2 a = mem a := fun a q => by rw [z7 a q.2.2.1 q.2.2.2, h7 a q.1 q.2.1]
        have s : ∀ t : Int, (t = 1 ∨ t = 5 ∨ t = 8 ∨ t = 11 ∨ t = 34) → m2 67 t = mem 67 t := fun t _ => by rw [e 67 (by decide)]
        refine ⟨by omega, (I1.mv (s 1 (by decide)) (s 5 (by decide)) ⟨by rw [e 1 (by decide)], by rw [e 1 (by decide)]⟩ (fun a q1 q2 => e a (by omega)) (e 69 (by decide)) (e 70 (by decide)) (e 71 (by decide))), (I2.mv (by rw [e 0 (by decide)]) (s 34 (by decide)) (e 21 (by decide)) (fun a q1 q2 => e a (by omega)) (e 88 (by decide))), (I3.mv (by rw [e 41 (by decide)]) (s 11 (by decide)) (e 43 (by decide)) (e 74 (by decide))), (I4.mv (by rw [e 44 (by decide)]) (s 8 (by decide)) (s 5 (by decide)) (s 1 (by decide)) ⟨(e 45 (by decide)), (e 46 (by decide)), (e 47 (by decide))⟩ ⟨(e 72 (by decide)), (e 73 (by decide))⟩), fun l q1 q2 => ?_, (I6.mv (e 66 (by decide)) (e 68 (by decide))), (I7.mv (e 1000 (by decide)))⟩
        have a64 : m2 64 l = if l = l0 then n else mem 64 l := by rw [z7 64 (by decide) (by decide)]; exact h5 l
        have a86 : m2 86 l = if l = l0 then n else mem 86 l := by rw [z5 l, h7 86 (by decide) (by decide)]
        obtain ⟨i1, i2⟩ := I5 l q1 q2
        rw [a64, a86]
        by_cases q : l = l0
        · rw [if_pos q, if_pos q]
          refine ⟨Or.inr ⟨rfl, h2, h3⟩, fun i q3 q4 => ?_⟩
          rw [z7 65 (by decide) (by decide), h6, z6, if_pos (by omega), if_pos (by omega)]
        · rw [if_neg q, if_neg q]
          refine ⟨i1, fun i q3 q4 => ?_⟩
          rw [z7 65 (by decide) (by decide), h6, z6, if_neg (by omega), if_neg (by omega), h7 87 (by decide) (by decide)]
          exact i2 i q3 q4
  rw [e9]; exact k m2 hI2

theorem rf_put {l : Launch} {L : Nat} {mem m1 : zMem} {Q : zQ} (l0 i v : Int) (r : Int) (hI : zInv mem) (hP : (¬ (0 ≤ l0 ∧ l0 ≤ 2) ∧ r = -1 ∧ m1 = zCn mem (-1)) ∨ ((0 ≤ l0 ∧ l0 ≤ 2) ∧ ((zyL mem l0 i ≠ 0 ∧ r = zyL mem l0 i ∧ m1 = mem) ∨ (zyL mem l0 i = 0 ∧ r = 1 ∧ m1 = zu mem 65 (40 * l0 + i) v)))) (k : ∀ m2 : zMem, zInv m2 → Q (some (zI r)) (zS L) m2) : zw_Ok l mm_X11_put [zR 67, zI l0, zI i, zI v] (zS L) m1 Q := by
  have hh : zHi mem m1 := by rcases hP with ⟨-, -, z⟩ | ⟨-, ⟨-, -, z⟩ | ⟨-, -, z⟩⟩; rw [z]; exact zCn.hi; rw [z]; exact zHi.rf; rw [z]; exact fun a q1 q2 => zu_row (by omega)
  have hk := hh.kp
  have e67 := hh 67 (by decide) (by decide)
  obtain ⟨R1, R2, R3, R4, R5, R6, R7⟩ := hI.rf.hi hh
  refine sp_X11_put  l0 i v R6 (fun r2 m2 hf => ?_)
  obtain ⟨I1, I2, I3, I4, I5, I6, I7⟩ := id hI
  rw [zyL_hi hh] at hf
  obtain ⟨e9, hI2⟩ : r2 = r ∧ zInv m2 := by
    rcases hf with ⟨z1, z2, z3⟩ | ⟨z1, ⟨z2, z3, z4⟩ | ⟨z2, z3, z4⟩⟩
    · rcases hP with ⟨h1, h2, h3⟩ | ⟨h1, -⟩
      · exact ⟨by omega, by rw [z3, h3]; exact hI.no (by decide)⟩
      · exact absurd h1 z1
    · rcases hP with ⟨h1, -⟩ | ⟨h1, ⟨h2, h3, h4⟩ | ⟨h2, -⟩⟩
      · exact absurd z1 h1
      · exact ⟨by omega, by rw [z4, h4]; exact hI⟩
      · omega
    · rcases hP with ⟨h1, -⟩ | ⟨h1, ⟨h2, -⟩ | ⟨h2, h3, h4⟩⟩
      · exact absurd z1 h1
      · omega
      · have hy : 0 ≤ i ∧ i < mem 86 l0 := by unfold zyL at h2; omega
        have e : ∀ a : Nat, (a ≠ 65 ∧ a ≠ 87) → m2 a = mem a := fun a q => by rw [z4, h4, zu_row q.2, zu_row q.1]
        have s : ∀ t : Int, (t = 1 ∨ t = 5 ∨ t = 8 ∨ t = 11 ∨ t = 34) → m2 67 t = mem 67 t := fun t _ => by rw [e 67 (by decide)]
        refine ⟨by omega, (I1.mv (s 1 (by decide)) (s 5 (by decide)) ⟨by rw [e 1 (by decide)], by rw [e 1 (by decide)]⟩ (fun a q1 q2 => e a (by omega)) (e 69 (by decide)) (e 70 (by decide)) (e 71 (by decide))), (I2.mv (by rw [e 0 (by decide)]) (s 34 (by decide)) (e 21 (by decide)) (fun a q1 q2 => e a (by omega)) (e 88 (by decide))), (I3.mv (by rw [e 41 (by decide)]) (s 11 (by decide)) (e 43 (by decide)) (e 74 (by decide))), (I4.mv (by rw [e 44 (by decide)]) (s 8 (by decide)) (s 5 (by decide)) (s 1 (by decide)) ⟨(e 45 (by decide)), (e 46 (by decide)), (e 47 (by decide))⟩ ⟨(e 72 (by decide)), (e 73 (by decide))⟩), fun l q1 q2 => ?_, (I6.mv (e 66 (by decide)) (e 68 (by decide))), (I7.mv (e 1000 (by decide)))⟩
        obtain ⟨i1, i2⟩ := I5 l q1 q2
        have j0 := (I5 l0 z1.1 z1.2).1
        rw [e 64 (by decide), e 86 (by decide)]
        refine ⟨i1, fun t q3 q4 => ?_⟩
        rw [z4, h4, zu_row (show (65 : Nat) ≠ 87 by decide)]
        by_cases q : 40 * l + t = 40 * l0 + i
        · rw [q, zu_s, zu_s]
        · rw [zu_n (Or.inr q), zu_n (Or.inr q), zu_row (by decide)]; exact i2 t q3 q4
  rw [e9]; exact k m2 hI2

theorem rf_look {l : Launch} {L : Nat} {mem m1 : zMem} {Q : zQ} (l0 i : Int) (r : Int) (hI : zInv mem) (hP : (¬ (0 ≤ l0 ∧ l0 ≤ 2) ∧ r = 4000000000000000001 ∧ m1 = zCn mem (-1)) ∨ ((0 ≤ l0 ∧ l0 ≤ 2) ∧ m1 = mem ∧ ((zyL mem l0 i ≠ 0 ∧ r = 4000000000000000000 - zyL mem l0 i) ∨ (zyL mem l0 i = 0 ∧ r = mem 87 (40 * l0 + i))))) (k : ∀ m2 : zMem, zInv m2 → Q (some (zJ r)) (zS L) m2) : zw_Ok l mm_X11_look [zR 67, zI l0, zI i] (zS L) m1 Q := by
  have hh : zHi mem m1 := by rcases hP with ⟨-, -, z⟩ | ⟨-, z, -⟩; rw [z]; exact zCn.hi; rw [z]; exact zHi.rf
  have hk := hh.kp
  have e67 := hh 67 (by decide) (by decide)
  obtain ⟨R1, R2, R3, R4, R5, R6, R7⟩ := hI.rf.hi hh
  refine sp_X11_look  l0 i R6 (fun r2 m2 hf => ?_)
  rw [zyL_hi hh] at hf
  obtain ⟨e9, hI2⟩ : r2 = r ∧ zInv m2 := by
    rcases hf with ⟨z1, z2, z3⟩ | ⟨z1, z2, z3⟩
    · rcases hP with ⟨h1, h2, h3⟩ | ⟨h1, -⟩
      · exact ⟨by omega, by rw [z3, h3]; exact hI.no (by decide)⟩
      · exact absurd h1 z1
    · rcases hP with ⟨h1, -⟩ | ⟨h1, h2, h3⟩
      · exact absurd z1 h1
      · rw [h2] at z3 z2
        exact ⟨by omega, by rw [z2]; exact hI⟩
  rw [e9]; exact k m2 hI2

theorem rf_lays {l : Launch} {L : Nat} {mem m1 : zMem} {Q : zQ} (l0 i a b le tb : Int) (r : Int) (hI : zInv mem) (hP : (zyN mem l0 a b le tb ≠ 0 ∧ r = zyN mem l0 a b le tb ∧ m1 = zCn mem (zyN mem l0 a b le tb)) ∨ (zyN mem l0 a b le tb = 0 ∧ ((zyL mem l0 i ≠ 0 ∧ r = zyL mem l0 i ∧ m1 = mem) ∨ (zyL mem l0 i = 0 ∧ r = mem 86 l0 - i ∧ (∀ x : Int, m1 65 x = if 40 * l0 + i ≤ x ∧ x < 40 * l0 + mem 86 l0 then zre mem a b le tb (x - (40 * l0 + i)) else mem 65 x) ∧ ∀ x : Nat, (x < 48 ∨ 52 < x) → x ≠ 65 → m1 x = mem x)))) (k : ∀ m2 : zMem, zInv m2 → Q (some (zI r)) (zS L) m2) : zw_Ok l mm_X11_lays [zR 67, zI l0, zI i, zI a, zI b, zI le, zI tb] (zS L) m1 Q := by
  have hh : zHi mem m1 := by rcases hP with ⟨-, -, z⟩ | ⟨-, ⟨-, -, z⟩ | ⟨-, -, -, z⟩⟩; rw [z]; exact zCn.hi; rw [z]; exact zHi.rf; exact fun a q1 q2 => z a (by omega) (by omega)
  have hk := hh.kp
  have e67 := hh 67 (by decide) (by decide)
  obtain ⟨R1, R2, R3, R4, R5, R6, R7⟩ := hI.rf.hi hh
  refine sp_X11_lays  l0 i a b le tb R1 R2 R3 R6 (fun r2 m2 hf => ?_)
  obtain ⟨I1, I2, I3, I4, I5, I6, I7⟩ := id hI
  rw [zyL_hi hh, zyN_hi hh, hh 86 (by decide) (by decide), hh 87 (by decide) (by decide)] at hf
  have hyc := zyN_c mem l0 a b le tb
  obtain ⟨e9, hI2⟩ : r2 = r ∧ zInv m2 := by
    rcases hf with ⟨z1, z2, z3⟩ | ⟨z1, ⟨z2, z3, z4⟩ | ⟨z2, z3, z4, m9, z5, z6⟩⟩
    · rcases hP with ⟨h1, h2, h3⟩ | ⟨h1, -⟩
      · exact ⟨by omega, by rw [z3, h3]; exact hI.no (by omega)⟩
      · omega
    · rcases hP with ⟨h1, -⟩ | ⟨h1, ⟨h2, h3, h4⟩ | ⟨h2, -⟩⟩
      · omega
      · exact ⟨by omega, by rw [z4, h4]; exact hI⟩
      · omega
    · rcases hP with ⟨h1, -⟩ | ⟨h1, ⟨h2, -⟩ | ⟨h2, h3, h4, h5⟩⟩
      · omega
      · omega
      · have hy : 0 ≤ i ∧ i < mem 86 l0 := by unfold zyL at h2; omega
        have hl : 0 ≤ l0 ∧ l0 ≤ 2 := by omega
        have e : ∀ a : Nat, ((a < 48 ∨ 62 < a) ∧ a ≠ 65 ∧ a ≠ 87 ∧ a ≠ 67 ∧ (a < 75 ∨ 85 < a)) → m2 a = mem a := fun a q => by rw [z6 a q.2.2.1, z5.at (by omega), h5 a (by omega) q.2.1]
        have s : ∀ t : Int, (t = 1 ∨ t = 5 ∨ t = 8 ∨ t = 11 ∨ t = 34) → m2 67 t = mem 67 t := fun t q => by rw [z6 67 (by decide), z5.s q, h5 67 (by decide) (by decide)]
        refine ⟨by omega, (I1.mv (s 1 (by decide)) (s 5 (by decide)) ⟨by rw [e 1 (by decide)], by rw [e 1 (by decide)]⟩ (fun a q1 q2 => e a (by omega)) (e 69 (by decide)) (e 70 (by decide)) (e 71 (by decide))), (I2.mv (by rw [e 0 (by decide)]) (s 34 (by decide)) (e 21 (by decide)) (fun a q1 q2 => e a (by omega)) (e 88 (by decide))), (I3.mv (by rw [e 41 (by decide)]) (s 11 (by decide)) (e 43 (by decide)) (e 74 (by decide))), (I4.mv (by rw [e 44 (by decide)]) (s 8 (by decide)) (s 5 (by decide)) (s 1 (by decide)) ⟨(e 45 (by decide)), (e 46 (by decide)), (e 47 (by decide))⟩ ⟨(e 72 (by decide)), (e 73 (by decide))⟩), fun l q1 q2 => ?_, (I6.mv (e 66 (by decide)) (e 68 (by decide))), (I7.mv (e 1000 (by decide)))⟩
        obtain ⟨i1, i2⟩ := I5 l q1 q2
        have j0 := (I5 l0 hl.1 hl.2).1
        rw [e 64 (by decide), e 86 (by decide)]
        refine ⟨i1, fun t q3 q4 => ?_⟩
        have zr : zre m1 a b le tb = zre mem a b le tb := by funext d; exact zre_kp hk a b le tb d
        rw [z4, zr, z6 65 (by decide), z5.at (by omega), h4]
        by_cases q : 40 * l0 + i ≤ 40 * l + t ∧ 40 * l + t < 40 * l0 + mem 86 l0
        · rw [if_pos q, if_pos q]
        · rw [if_neg q, if_neg q]; exact i2 t q3 q4
  rw [e9]; exact k m2 hI2

theorem rf_judge {l : Launch} {L : Nat} {mem m1 : zMem} {Q : zQ} (l0 a b le tb : Int) (r : Int) (hI : zInv mem) (hP : (zyN mem l0 a b le tb ≠ 0 ∧ r = zyN mem l0 a b le tb ∧ m1 = zCn mem (zyN mem l0 a b le tb)) ∨ (zyN mem l0 a b le tb = 0 ∧ ((mem 86 l0 < 0 ∧ r = -11 ∧ m1 = mem) ∨ (0 ≤ mem 86 l0 ∧ zjd (zli mem l0) (zre mem a b le tb) r ∧ zCk mem m1)))) (k : ∀ m2 : zMem, zInv m2 → Q (some (zI r)) (zS L) m2) : zw_Ok l mm_X11_judge [zR 67, zI l0, zI a, zI b, zI le, zI tb] (zS L) m1 Q := by
  have hh : zHi mem m1 := by rcases hP with ⟨-, -, z⟩ | ⟨-, ⟨-, -, z⟩ | ⟨-, -, z⟩⟩; rw [z]; exact zCn.hi; rw [z]; exact zHi.rf; exact z.hi
  have hk := hh.kp
  have e67 := hh 67 (by decide) (by decide)
  obtain ⟨R1, R2, R3, R4, R5, R6, R7⟩ := hI.rf.hi hh
  refine sp_X11_judge  l0 a b le tb R1 R2 R3 R6 (fun r2 m2 hf => ?_)
  rw [zyN_hi hh, hh 86 (by decide) (by decide)] at hf
  have hyc := zyN_c mem l0 a b le tb
  obtain ⟨e9, hI2⟩ : r2 = r ∧ zInv m2 := by
    rcases hf with ⟨z1, z2, z3⟩ | ⟨z1, ⟨z2, z3, z4⟩ | ⟨z2, z3, z4⟩⟩
    · rcases hP with ⟨h1, h2, h3⟩ | ⟨h1, -⟩
      · exact ⟨by omega, by rw [z3, h3]; exact hI.no (by omega)⟩
      · omega
    · rcases hP with ⟨h1, -⟩ | ⟨h1, ⟨h2, h3, h4⟩ | ⟨h2, -⟩⟩
      · omega
      · exact ⟨by omega, by rw [z4, h4]; exact hI⟩
      · omega
    · rcases hP with ⟨h1, -⟩ | ⟨h1, ⟨h2, -⟩ | ⟨h2, h3, h4⟩⟩
      · omega
      · omega
      · have zr : zre m1 a b le tb = zre mem a b le tb := by funext d; exact zre_kp hk a b le tb d
        have zl : zli m1 l0 = zli mem l0 := by funext d; unfold zli; rw [hh 86 (by decide) (by decide), hh 87 (by decide) (by decide), e67]
        rw [zr, zl] at z3
        exact ⟨zjd_un z3 h3, hI.ask h4 z4⟩
  rw [e9]; exact k m2 hI2

theorem rf_count {l : Launch} {L : Nat} {mem : zMem} {Q : zQ} (w : Int) (r : Int) (hI : zInv mem) (hP : (11 ≤ w ∧ w ≤ 16 ∧ r = mem 68 (w - 10)) ∨ (w = 0 ∧ r = mem 67 5) ∨ (w = 1 ∧ r = mem 67 1) ∨ (w = 2 ∧ r = zcA mem (mem 67 5).toNat) ∨ (w = 3 ∧ r = mem 67 11) ∨ (w = 4 ∧ r = mem 67 8) ∨ (w = 5 ∧ r = zbA mem (mem 67 5).toNat) ∨ (¬ (11 ≤ w ∧ w ≤ 16) ∧ ¬ (0 ≤ w ∧ w ≤ 5) ∧ r = -9)) (k : Q (some (zI r)) (zS L) mem) : zw_Ok l mm_X11_count [zR 67, zI w] (zS L) mem Q := by
  obtain ⟨R1, R2, R3, R4, R5, R6, R7⟩ := hI.rf
  refine sp_X11_count w R1 R2 R3 (fun r2 hf => ?_)
  have e : r2 = r := by omega
  rw [e]; exact k
theorem rf_letter {l : Launch} {L : Nat} {mem m1 : zMem} {Q : zQ} (c : Int) (r : Int) (hI : zInv mem) (hP : (c < 0 ∧ r = -4 ∧ m1 = zCn mem (-4)) ∨ (0 ≤ c ∧ (255 < c ∨ mem 67 11 = 72) ∧ r = -6 ∧ m1 = zCn mem (-6)) ∨ (0 ≤ c ∧ c ≤ 255 ∧ mem 67 11 < 72 ∧ r = mem 67 11 + 1 ∧ m1 = zu (zu mem 43 (mem 67 11) c) 41 0 (mem 67 11 + 1))) (k : ∀ m2 : zMem, zInv m2 → Q (some (zI r)) (zS L) m2) : zw_Ok l mm_X11_letter [zR 67, zI c] (zS L) m1 Q := by
  have hh : zHi mem m1 := by rcases hP with ⟨-, -, z⟩ | ⟨-, -, -, z⟩ | ⟨-, -, -, -, z⟩; rw [z]; exact zCn.hi; rw [z]; exact zCn.hi; rw [z]; exact fun a q1 q2 => by rw [zu_row (by omega), zu_row (by omega)]
  have hk := hh.kp
  have e67 := hh 67 (by decide) (by decide)
  obtain ⟨R1, R2, R3, R4, R5, R6, R7⟩ := hI.rf.hi hh
  refine sp_X11_letter  c R7 (fun r2 m2 hf => ?_)
  obtain ⟨I1, I2, I3, I4, I5, I6, I7⟩ := id hI
  rw [e67] at hf
  obtain ⟨e9, hI2⟩ : r2 = r ∧ zInv m2 := by
    rcases hf with ⟨z1, z2, z3⟩ | ⟨z1, z2, z3, z4⟩ | ⟨z1, z2, z3, z4, z5⟩
    · rcases hP with ⟨h1, h2, h3⟩ | ⟨h1, -⟩ | ⟨h1, -⟩
      · exact ⟨by omega, by rw [z3, h3]; exact hI.no (by decide)⟩
      · omega
      · omega
    · rcases hP with ⟨h1, -⟩ | ⟨h1, h2, h3, h4⟩ | ⟨h1, h2, h3, -⟩
      · omega
      · exact ⟨by omega, by rw [z4, h4]; exact hI.no (by decide)⟩
      · omega
    · rcases hP with ⟨h1, -⟩ | ⟨h1, h2, -⟩ | ⟨h1, h2, h3, h4, h5⟩
      · omega
      · omega
      · have e : ∀ a : Nat, (a ≠ 41 ∧ a ≠ 43 ∧ a ≠ 67 ∧ a ≠ 74) → m2 a = mem a := fun a q => by rw [z5, h5, zu_row q.2.2.1, zu_row q.2.2.2, zu_row q.1, zu_row q.2.1]
        have s : ∀ t : Int, (t = 1 ∨ t = 5 ∨ t = 8 ∨ t = 34) → m2 67 t = mem 67 t := fun t q => by rw [z5, h5, zu_n (Or.inr (by omega)), zu_row (by decide), zu_row (by decide), zu_row (by decide)]
        refine ⟨by omega, (I1.mv (s 1 (by decide)) (s 5 (by decide)) ⟨by rw [e 1 (by decide)], by rw [e 1 (by decide)]⟩ (fun a q1 q2 => e a (by omega)) (e 69 (by decide)) (e 70 (by decide)) (e 71 (by decide))), (I2.mv (by rw [e 0 (by decide)]) (s 34 (by decide)) (e 21 (by decide)) (fun a q1 q2 => e a (by omega)) (e 88 (by decide))), ⟨?_, ?_, fun i q1 q2 => ?_⟩, (I4.mv (by rw [e 44 (by decide)]) (s 8 (by decide)) (s 5 (by decide)) (s 1 (by decide)) ⟨(e 45 (by decide)), (e 46 (by decide)), (e 47 (by decide))⟩ ⟨(e 72 (by decide)), (e 73 (by decide))⟩), (I5.mv (e 64 (by decide)) (e 65 (by decide)) (e 86 (by decide)) (e 87 (by decide))), (I6.mv (e 66 (by decide)) (e 68 (by decide))), (I7.mv (e 1000 (by decide)))⟩
        · rw [z5, h5, zu_s, zu_row (by decide), zu_row (by decide), zu_s]
        · rw [z5, zu_s]; have := I3.2.1; omega
        · rw [z5, zu_s] at q2
          have a43 : m2 43 i = if i = mem 67 11 then c else mem 43 i := by
            rw [z5, h5, zu_row (by decide), zu_row (by decide), zu_row (by decide)]
            by_cases q : i = mem 67 11
            · rw [if_pos q, q, zu_s]
            · rw [if_neg q, zu_n (Or.inr q)]
          have a74 : m2 74 i = if i = mem 67 11 then c else mem 74 i := by
            rw [z5, h5, zu_row (by decide)]
            by_cases q : i = mem 67 11
            · rw [if_pos q, q, zu_s]
            · rw [if_neg q, zu_n (Or.inr q), zu_row (by decide), zu_row (by decide)]
          rw [a43, a74]
          by_cases q : i = mem 67 11
          · rw [if_pos q, if_pos q]; exact ⟨rfl, h1, h2⟩
          · rw [if_neg q, if_neg q]; exact I3.2.2 i q1 (by omega)
  rw [e9]; exact k m2 hI2

theorem rf_drop {l : Launch} {L : Nat} {mem m1 : zMem} {Q : zQ}  (r : Int) (hI : zInv mem) (hP : (mem 67 5 = 0 ∧ r = -3 ∧ m1 = zCn mem (-3)) ∨ (mem 67 5 ≠ 0 ∧ r = mem 67 5 - 1 ∧ m1 = zu (zu mem 44 0 0) 1 1 (mem 67 5 - 1))) (k : ∀ m2 : zMem, zInv m2 → Q (some (zI r)) (zS L) m2) : zw_Ok l mm_X11_drop [zR 67] (zS L) m1 Q := by
  have hh : zHi mem m1 := by rcases hP with ⟨-, -, z⟩ | ⟨-, -, z⟩; rw [z]; exact zCn.hi; rw [z]; exact fun a q1 q2 => by rw [zu_row (by omega), zu_row (by omega)]
  have hk := hh.kp
  have e67 := hh 67 (by decide) (by decide)
  obtain ⟨R1, R2, R3, R4, R5, R6, R7⟩ := hI.rf.hi hh
  refine sp_X11_drop   R2 (fun r2 m2 hf => ?_)
  obtain ⟨I1, I2, I3, I4, I5, I6, I7⟩ := id hI
  rw [e67] at hf
  obtain ⟨e9, hI2⟩ : r2 = r ∧ zInv m2 := by
    rcases hf with ⟨z1, z2, z3⟩ | ⟨z1, z2, z3⟩
    · rcases hP with ⟨h1, h2, h3⟩ | ⟨h1, -⟩
      · exact ⟨by omega, by rw [z3, h3]; exact hI.no (by decide)⟩
      · omega
    · rcases hP with ⟨h1, -⟩ | ⟨h1, h2, h3⟩
      · omega
      · have e : ∀ a : Nat, (a ≠ 1 ∧ a ≠ 44 ∧ a ≠ 67) → m2 a = mem a := fun a q => by rw [z3, h3, zu_row q.2.2, zu_row q.2.2, zu_row q.1, zu_row q.2.1]
        have s : ∀ t : Int, (t = 1 ∨ t = 11 ∨ t = 34) → m2 67 t = mem 67 t := fun t q => by rw [z3, h3, zu_n (Or.inr (by omega)), zu_n (Or.inr (by omega)), zu_row (by decide), zu_row (by decide)]
        have n5 : m2 67 5 = mem 67 5 - 1 := by rw [z3, zu_s]
        have n8 : m2 67 8 = 0 := by rw [z3, zu_n (Or.inr (by decide)), zu_s]
        have c0 : m2 1 0 = mem 1 0 := by rw [z3, h3, zu_row (by decide), zu_row (by decide), zu_n (Or.inr (by decide)), zu_row (by decide)]
        have c1 : m2 1 1 = mem 67 5 - 1 := by rw [z3, h3, zu_row (by decide), zu_row (by decide), zu_s]
        have c44 : m2 44 0 = 0 := by rw [z3, h3, zu_row (by decide), zu_row (by decide), zu_row (by decide), zu_s]
        have hn := I1.2.2.1
        refine ⟨by omega, ⟨by rw [s 1 (by decide)]; exact I1.1, by rw [c0, s 1 (by decide)]; exact I1.2.1, by omega, by rw [c1, n5], fun q q1 q2 => ?_⟩, (I2.mv (by rw [e 0 (by decide)]) (s 34 (by decide)) (e 21 (by decide)) (fun a q1 q2 => e a (by omega)) (e 88 (by decide))), (I3.mv (by rw [e 41 (by decide)]) (s 11 (by decide)) (e 43 (by decide)) (e 74 (by decide))), ⟨by rw [c44, n8], by omega, fun t q1 q2 => by omega⟩, (I5.mv (e 64 (by decide)) (e 65 (by decide)) (e 86 (by decide)) (e 87 (by decide))), (I6.mv (e 66 (by decide)) (e 68 (by decide))), (I7.mv (e 1000 (by decide)))⟩
        have et : ztd m2 q = ztd mem q := by funext x; unfold ztd; rw [e 69 (by decide)]
        rw [s 1 (by decide), e 70 (by decide), e 71 (by decide), et]
        exact (I1.2.2.2.2 q q1 (by omega)).kpo (by omega) (fun a q3 q4 => e a (by omega))
  rw [e9]; exact k m2 hI2

theorem rf_prime {l : Launch} {L : Nat} {mem m1 : zMem} {Q : zQ} (n : Int) (r : Int) (hI : zInv mem) (hP : (¬ zPr n ∧ r = -3 ∧ m1 = zCn mem (-3)) ∨ (zPr n ∧ r = mem 67 1 ∧ m1 1 0 = n ∧ m1 1 1 = mem 67 5 ∧ m1 44 0 = 0 ∧ (∀ q : Int, 0 ≤ q → q < mem 67 5 → zPI m1 (zo q) n (mem 70 q) (mem 71 q) (fun y => ztd mem q y % n)) ∧ ∀ a : Nat, a ≠ 1 → a ≠ 44 → (a < 3 ∨ 20 < a) → m1 a = mem a)) (k : ∀ m2 : zMem, zInv m2 → Q (some (zI r)) (zS L) m2) : zw_Ok l mm_X11_prime [zR 67, zI n] (zS L) m1 Q := by
  have hh : zHi mem m1 := by rcases hP with ⟨-, -, z⟩ | ⟨-, -, -, -, -, -, z⟩; rw [z]; exact zCn.hi; exact fun a q1 q2 => z a (by omega) (by omega) (by omega)
  have hk := hh.kp
  have e67 := hh 67 (by decide) (by decide)
  obtain ⟨R1, R2, R3, R4, R5, R6, R7⟩ := hI.rf.hi hh
  refine sp_X11_prime  n R1 R2 R3 (fun r2 m2 hf => ?_)
  obtain ⟨I1, I2, I3, I4, I5, I6, I7⟩ := id hI
  rw [e67, hh 69 (by decide) (by decide)] at hf
  obtain ⟨e9, hI2⟩ : r2 = r ∧ zInv m2 := by
    rcases hf with ⟨z1, z2, z3⟩ | ⟨z1, z2, z3, z4, z5, z6, z7⟩
    · rcases hP with ⟨h1, h2, h3⟩ | ⟨h1, -⟩
      · exact ⟨by omega, by rw [z3, h3]; exact hI.no (by decide)⟩
      · exact absurd h1 z1
    · rcases hP with ⟨h1, -⟩ | ⟨h1, h2, h3, h4, h5, h6, h7⟩
      · exact absurd z1 h1
      · have e : ∀ a : Nat, (a ≠ 1 ∧ a ≠ 44 ∧ (a < 3 ∨ 20 < a) ∧ a ≠ 67 ∧ a ≠ 69) → m2 a = mem a := fun a q => by rw [z7 a q.2.2.2.1 q.2.2.2.2, h7 a q.1 q.2.1 q.2.2.1]
        have s : ∀ t : Int, (t = 5 ∨ t = 11 ∨ t = 34) → m2 67 t = mem 67 t := fun t q => z5 t (by omega) (by omega)
        have hn := I1.2.2.1
        refine ⟨by omega, ⟨by rw [z3]; exact h1, by rw [z7 1 (by decide) (by decide), h3, z3], by rw [s 5 (by decide)]; exact hn, by rw [z7 1 (by decide) (by decide), h4, s 5 (by decide)], fun q q1 q2 => ?_⟩, (I2.mv (by rw [e 0 (by decide)]) (s 34 (by decide)) (e 21 (by decide)) (fun a q1 q2 => e a (by omega)) (e 88 (by decide))), (I3.mv (by rw [e 41 (by decide)]) (s 11 (by decide)) (e 43 (by decide)) (e 74 (by decide))), ⟨by rw [z7 44 (by decide) (by decide), h5, z4], by omega, fun t q1 q2 => by omega⟩, (I5.mv (e 64 (by decide)) (e 65 (by decide)) (e 86 (by decide)) (e 87 (by decide))), (I6.mv (e 66 (by decide)) (e 68 (by decide))), (I7.mv (e 1000 (by decide)))⟩
        rw [s 5 (by decide)] at q2
        rw [z3, e 70 (by decide), e 71 (by decide)]
        have hq9 := zo_rg (q := q) (by omega)
        refine ((h6 q q1 q2).keep (z7 _ (by omega) (by omega)) (z7 _ (by omega) (by omega)) (z7 _ (by omega) (by omega))).told (fun x q3 q4 => ?_)
        unfold ztd
        rw [z6 _ (by omega) (by omega)]
  rw [e9]; exact k m2 hI2


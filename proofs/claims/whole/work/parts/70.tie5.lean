/-! ===== ties: reading, images ===== -/
theorem zpN_cg {X Y : Int → Int} (h : ∀ i : Int, 0 ≤ i → X i = Y i) {a : Int} (ha : 0 ≤ a) : zpN X a = zpN Y a ∧ zvN X a = zvN Y a := by
  unfold zpN zvN
  rw [h a ha, h (a + 1) (by omega)]
  exact ⟨rfl, rfl⟩
theorem zvP_cg {X Y : Int → Int} (h : ∀ i : Int, 0 ≤ i → X i = Y i) (c : Int) {a : Int} (ha : 0 ≤ a) : zvP X c a = zvP Y c a ∧ zpP X c a = zpP Y c a := by
  unfold zvP zpP zrv zrp
  rw [h a ha, h (a + 1) (by omega), h (a + 2) (by omega)]
  exact ⟨rfl, rfl⟩
theorem zt_cg {X Y : Int → Int} (h : ∀ i : Int, 0 ≤ i → X i = Y i) {a : Int} (ha : 0 ≤ a) : zt2 X a = zt2 Y a ∧ zt3 X a = zt3 Y a ∧ zti X a = zti Y a ∧ ztj X a = ztj Y a ∧ a ≤ zt3 Y a := by
  have h1 := zpN_cg h ha
  have h2 := zpN_c Y a
  have h3 : 0 ≤ zpN Y a := by omega
  have h4 := zvP_cg h 120 h3
  have h5 := (zvP_c Y 120 (zpN Y a)).1
  have h6 : 0 ≤ zt2 Y a := by unfold zt2; omega
  have h7 := zvP_cg h 121 h6
  have h8 := (zvP_c Y 121 (zt2 Y a)).1
  have e2 : zt2 X a = zt2 Y a := by unfold zt2; rw [h1.1]; exact h4.2
  refine ⟨e2, ?_, ?_, ?_, ?_⟩
  · unfold zt3; rw [e2]; exact h7.2
  · unfold zti; rw [h1.1]; exact h4.1
  · unfold ztj; rw [e2]; exact h7.1
  · have : zt2 Y a = zpP Y 120 (zpN Y a) := rfl
    have : zt3 Y a = zpP Y 121 (zt2 Y a) := rfl
    omega
theorem zrun_cg {X Y : Int → Int} (h : ∀ i : Int, 0 ≤ i → X i = Y i) (N : Int) : ∀ (F : Nat) (a s : Int) (S : Int → Int), 0 ≤ a → zrun X N F a s S = zrun Y N F a s S
  | 0, _, _, _, _ => rfl
  | F + 1, a, s, S, ha => by
    obtain ⟨e2, e3, ei, ej, hle⟩ := zt_cg h ha
    have eo : zto X a = zto Y a := by unfold zto; rw [e3, ei, ej]
    have ee : zte X a = zte Y a := by unfold zte; rw [e2, e3, ei]
    rw [zrun, zrun, eo, ee, e3, ei, ej, (zpN_cg h ha).2, h (zt3 Y a) (by omega), zrun_cg h N F (zt3 Y a + 1) _ _ (by omega)]
theorem zall_cg {X Y : Int → Int} (h : ∀ i : Int, 0 ≤ i → X i = Y i) (N : Int) : zall X N = zall Y N := by
  unfold zall
  rw [h 0 (by omega), zrun_cg h N 80 _ _ _ (by split <;> omega)]
theorem zall_tie {m m1 : zMem} (h : zI3 m) (hh : zHi m m1) : zall (znx m1) (m1 67 11) = zall (zcx m) (m 41 0) := by
  rw [hh 67 (by decide) (by decide), h.1]
  refine zall_cg (fun i q => ?_) _
  unfold znx zcx
  rw [hh 67 (by decide) (by decide), hh 74 (by decide) (by decide), h.1]
  by_cases e : i < m 67 11
  · rw [if_pos e, if_pos ⟨q, e⟩]; exact (h.2.2 i q e).1.symm
  · rw [if_neg e, if_neg (by omega)]
theorem rf_poly {l : Launch} {L : Nat} {mem m1 : zMem} {Q : zQ}  (r : Int) (hI : zInv mem) (hP : (mem 67 5 = 6 ∧ r = -6 ∧ m1 = zCn mem (-6)) ∨ (mem 67 5 < 6 ∧ m1 41 0 = 0 ∧ (((zall (zcx mem) (mem 41 0)).1 = 0 ∧ r = -1000 - (zall (zcx mem) (mem 41 0)).2.1 ∧ ∀ a : Nat, (a < 41 ∨ 42 < a) → m1 a = mem a) ∨ ((zall (zcx mem) (mem 41 0)).1 = 1 ∧ r = mem 67 5 ∧ zNw mem m1 (zall (zcx mem) (mem 41 0)).2.2)))) (k : ∀ m2 : zMem, zInv m2 → Q (some (zI r)) (zS L) m2) : zw_Ok l mm_X11_poly [zR 67] (zS L) m1 Q := by
  have hh : zHi mem m1 := by
    rcases hP with ⟨-, -, z⟩ | ⟨z1, -, ⟨-, -, z⟩ | ⟨-, -, -, -, -, z⟩⟩
    · rw [z]; exact zCn.hi
    · exact fun a q1 q2 => z a (by omega)
    · have hn := hI.1.2.2.1
      have hq9 := zo_rg (q := mem 67 5) (by omega)
      exact fun a q1 q2 => z a (by omega) (by omega) (by omega) (by omega) (by omega) (by omega)
  have hk := hh.kp
  have e67 := hh 67 (by decide) (by decide)
  obtain ⟨R1, R2, R3, R4, R5, R6, R7⟩ := hI.rf.hi hh
  refine sp_X11_poly   R1 R2 R7 (fun r2 m2 hf => ?_)
  obtain ⟨I1, I2, I3, I4, I5, I6, I7⟩ := id hI
  have ea := zall_tie I3 hh
  rw [ea, hk.2.1, hk.1] at hf
  obtain ⟨e9, hI2⟩ : r2 = r ∧ zInv m2 := by
    rcases hf with ⟨z1, z2, z3⟩ | ⟨z1, m9, z2, z3, z4, z5, z6⟩
    · rcases hP with ⟨h1, h2, h3⟩ | ⟨h1, -⟩
      · exact ⟨by omega, by rw [z3, h3]; exact hI.no (by decide)⟩
      · omega
    · rcases hP with ⟨h1, -⟩ | ⟨h1, h41, ⟨h2, h3, h4⟩ | ⟨h2, h3, h4⟩⟩
      · omega
      · rcases z6 with ⟨y1, y2, y3⟩ | ⟨y1, -⟩
        · refine ⟨by omega, ?_⟩
          rw [y3]
          have e : ∀ a : Nat, ((a < 41 ∨ 42 < a) ∧ a ≠ 67 ∧ a ≠ 75) → m9 a = mem a := fun a q => by rw [z5 a q.2.1 q.2.2]; exact h4 a q.1
          have s : ∀ t : Int, (t = 1 ∨ t = 5 ∨ t = 8 ∨ t = 34) → m9 67 t = mem 67 t := fun t q => by rw [z4 t (by omega) (by omega), e67]
          refine ⟨(I1.mv (s 1 (by decide)) (s 5 (by decide)) ⟨by rw [e 1 (by decide)], by rw [e 1 (by decide)]⟩ (fun a q1 q2 => e a (by omega)) (e 69 (by decide)) (e 70 (by decide)) (e 71 (by decide))), (I2.mv (by rw [e 0 (by decide)]) (s 34 (by decide)) (e 21 (by decide)) (fun a q1 q2 => e a (by omega)) (e 88 (by decide))), ⟨by rw [z5 41 (by decide) (by decide), h41, z3], by rw [z3]; decide, fun i w1 w2 => by omega⟩, (I4.mv (by rw [e 44 (by decide)]) (s 8 (by decide)) (s 5 (by decide)) (s 1 (by decide)) ⟨(e 45 (by decide)), (e 46 (by decide)), (e 47 (by decide))⟩ ⟨(e 72 (by decide)), (e 73 (by decide))⟩), (I5.mv (e 64 (by decide)) (e 65 (by decide)) (e 86 (by decide)) (e 87 (by decide))), (I6.mv (e 66 (by decide)) (e 68 (by decide))), (I7.mv (e 1000 (by decide)))⟩
        · exact absurd h2 y1
      · rcases z6 with ⟨y1, -⟩ | ⟨y1, y2, y3⟩
        · omega
        · have e41 : m2 41 0 = 0 := by rw [y3.2.2.2.2.2 41 (by decide) (by decide) (by decide) (by decide), z5 41 (by decide) (by decide)]; exact h41
          have e11 : m2 67 11 = 0 := by rw [y3.2.2.1 11 (by decide) (by decide)]; exact z3
          exact ⟨by omega, hI.come h1 h4 z5 z4 z2 ⟨by rw [e41, e11], by rw [e11]; decide, fun i w1 w2 => by omega⟩ y3⟩
  rw [e9]; exact k m2 hI2

theorem rf_image {l : Launch} {L : Nat} {mem m1 : zMem} {Q : zQ}  (r : Int) (hI : zInv mem) (hP : r = mem 67 5 ∧ ((m1 21 0 = mem 1 0 ∧ m1 21 1 = mem 1 1) ∧ ∀ q : Int, 0 ≤ q → q < mem 1 1 → m1 (zo2 q) 0 = mem (zo q) 0 ∧ m1 (zo2 q) 1 = mem (zo q) 1 ∧ ∀ x : Int, 0 ≤ x → x < 25 → m1 (zo2 q + 1) x = mem (zo q + 1) x ∧ m1 (zo2 q + 2) x = mem (zo q + 2) x) ∧ m1 0 10 = 1 ∧ ∀ a : Nat, a ≠ 0 → a ≠ 21 → (a < 23 ∨ 40 < a) → m1 a = mem a) (k : ∀ m2 : zMem, zInv m2 → Q (some (zI r)) (zS L) m2) : zw_Ok l mm_X11_image [zR 67] (zS L) m1 Q := by
  have hh : zHi mem m1 := fun a q1 q2 => hP.2.2.2 a (by omega) (by omega) (by omega)
  have hk := hh.kp
  have e67 := hh 67 (by decide) (by decide)
  obtain ⟨R1, R2, R3, R4, R5, R6, R7⟩ := hI.rf.hi hh
  refine sp_X11_image    (fun r2 m2 hf hr => ?_)
  obtain ⟨I1, I2, I3, I4, I5, I6, I7⟩ := id hI
  obtain ⟨h1, ⟨h2, h3⟩, h4, h5⟩ := hP
  obtain ⟨z1, z2, z3, z4, z5, z6, z7⟩ := hf
  obtain ⟨y1, y2⟩ := hr
  rw [hk.1] at z3
  rw [hk.2.1] at z1 z2 z4
  rw [I1.2.2.2.1] at h3 h2
  rw [I1.2.1] at h2
  have hn := I1.2.2.1
  have e' : ∀ a : Nat, (a ≠ 67 ∧ a ≠ 69 ∧ a ≠ 70 ∧ a ≠ 71 ∧ a ≠ 88) → m2 a = m1 a := fun a q => y1 a q.1 q.2.1 q.2.2.1 q.2.2.2.1 q.2.2.2.2
  have e : ∀ a : Nat, (a ≠ 0 ∧ a ≠ 21 ∧ (a < 23 ∨ 40 < a) ∧ a ≠ 67 ∧ a ≠ 69 ∧ a ≠ 70 ∧ a ≠ 71 ∧ a ≠ 88) → m2 a = mem a := fun a q => by rw [e' a q.2.2.2]; exact h5 a q.1 q.2.1 q.2.2.1
  have s : ∀ t : Int, (t = 1 ∨ t = 5 ∨ t = 8 ∨ t = 11) → m2 67 t = mem 67 t := fun t q => by
    rcases q with q | q | q | q
    · rw [q, z3]
    · rw [q, z4]
    · rw [y2 t (by omega) (by omega) (by omega) (by omega) (by omega), e67]
    · rw [y2 t (by omega) (by omega) (by omega) (by omega) (by omega), e67]
  have k88 : ∀ x : Int, 0 ≤ x → x < 164 → m2 88 x = zsrc m1 x := z5
  have k0 : m2 88 0 = mem 67 1 := by rw [k88 0 (by decide) (by decide), ← hk.1]; rfl
  have k1 : m2 88 1 = mem 67 5 := by rw [k88 1 (by decide) (by decide), ← hk.2.1]; rfl
  have hI2 : zInv m2 := by
    refine ⟨⟨by rw [s 1 (by decide)]; exact I1.1, by rw [e 1 (by decide), s 1 (by decide)]; exact I1.2.1, by rw [s 5 (by decide)]; exact hn, by rw [e 1 (by decide), s 5 (by decide)]; exact I1.2.2.2.1, fun q q1 q2 => ?_⟩, Or.inr ⟨by rw [e' 0 (by decide)]; exact h4, by rw [z2]; exact hn.1, by rw [e' 21 (by decide), k0]; exact h2.1, by rw [e' 21 (by decide), k1]; exact h2.2, by rw [k0]; exact I1.1, by rw [k1]; exact hn, fun q q1 q2 => ?_⟩, (I3.mv (by rw [e 41 (by decide)]) (s 11 (by decide)) (e 43 (by decide)) (e 74 (by decide))), (I4.mv (by rw [e 44 (by decide)]) (s 8 (by decide)) (s 5 (by decide)) (s 1 (by decide)) ⟨(e 45 (by decide)), (e 46 (by decide)), (e 47 (by decide))⟩ ⟨(e 72 (by decide)), (e 73 (by decide))⟩), (I5.mv (e 64 (by decide)) (e 65 (by decide)) (e 86 (by decide)) (e 87 (by decide))), (I6.mv (e 66 (by decide)) (e 68 (by decide))), (I7.mv (e 1000 (by decide)))⟩
    · rw [s 5 (by decide)] at q2
      have hzq := zo_rg (q := q) (by omega)
      rw [s 1 (by decide), (z6 q q1 (by omega)).1, (z6 q q1 (by omega)).2, hk.2.2.2.1, hk.2.2.2.2]
      refine ((I1.2.2.2.2 q q1 q2).keep (e _ (by omega)) (e _ (by omega)) (e _ (by omega))).told (fun x w1 w2 => ?_)
      unfold ztd
      rw [z7 _ (by omega) (by omega), hk.2.2.1]
    · rw [k1] at q2
      have hzq := zo2_rg (q := q) (by omega)
      have sa := zsrc_a (m := m1) (q := q) (by omega)
      rw [k0, k88 (2 + 2 * q) (by omega) (by omega), k88 (3 + 2 * q) (by omega) (by omega), sa.1, sa.2, hk.2.2.2.1, hk.2.2.2.2]
      have hc := h3 q q1 q2
      refine ((I1.2.2.2.2 q q1 q2).copy (by rw [e' _ (by omega)]; exact hc.1) (by rw [e' _ (by omega)]; exact hc.2.1) (fun x w1 w2 => by rw [e' _ (by omega), e' _ (by omega)]; exact hc.2.2 x w1 w2)).told (fun x w1 w2 => ?_)
      show _ = m2 88 (14 + (25 * q + x))
      rw [k88 _ (by omega) (by omega), zsrc_t (by omega), hk.2.2.1]
      rfl
  have e9 : r2 = r := by omega
  rw [e9]; exact k m2 hI2

theorem rf_on {l : Launch} {L : Nat} {mem m1 : zMem} {Q : zQ}  (r : Int) (hI : zInv mem) (hP : (mem 0 10 = 0 ∧ r = -3 ∧ m1 = zCn mem (-3)) ∨ (mem 0 10 ≠ 0 ∧ r = mem 21 1 ∧ ((m1 1 0 = mem 21 0 ∧ m1 1 1 = mem 21 1) ∧ ∀ q : Int, 0 ≤ q → q < mem 21 1 → m1 (zo q) 0 = mem (zo2 q) 0 ∧ m1 (zo q) 1 = mem (zo2 q) 1 ∧ ∀ x : Int, 0 ≤ x → x < 25 → m1 (zo q + 1) x = mem (zo2 q + 1) x ∧ m1 (zo q + 2) x = mem (zo2 q + 2) x) ∧ m1 44 0 = 0 ∧ ∀ a : Nat, a ≠ 1 → a ≠ 44 → (a < 3 ∨ 20 < a) → m1 a = mem a)) (k : ∀ m2 : zMem, zInv m2 → Q (some (zI r)) (zS L) m2) : zw_Ok l mm_X11_on [zR 67] (zS L) m1 Q := by
  have hh : zHi mem m1 := by
    rcases hP with ⟨-, -, z⟩ | ⟨-, -, -, -, z⟩
    · rw [z]; exact zCn.hi
    · exact fun a q1 q2 => z a (by omega) (by omega) (by omega)
  have hk := hh.kp
  have e67 := hh 67 (by decide) (by decide)
  obtain ⟨R1, R2, R3, R4, R5, R6, R7⟩ := hI.rf.hi hh
  refine sp_X11_on    (fun r2 m2 hf => ?_)
  obtain ⟨I1, I2, I3, I4, I5, I6, I7⟩ := id hI
  have e88 := hh 88 (by decide) (by decide)
  rw [e67, e88] at hf
  obtain ⟨e9, hI2⟩ : r2 = r ∧ zInv m2 := by
    rcases hf with ⟨z1, z2, z3⟩ | ⟨z1, z2, z3, z4, z5, z6, z7, z8, y1, y2⟩
    · rcases hP with ⟨h1, h2, h3⟩ | ⟨h1, -⟩
      · exact ⟨by omega, by rw [z3, h3]; exact hI.no (by decide)⟩
      · rcases I2 with w | w <;> omega
    · rcases hP with ⟨h1, -⟩ | ⟨h1, h2, ⟨h3, h4⟩, h44, h5⟩
      · rcases I2 with w | w <;> omega
      · rcases I2 with w | ⟨w1, w2, w3, w4, w5, w6, w7⟩
        · omega
        · rw [w3, w4] at h3
          rw [w4] at h4
          have e' : ∀ a : Nat, (a ≠ 67 ∧ a ≠ 69 ∧ a ≠ 70 ∧ a ≠ 71 ∧ a ≠ 88) → m2 a = m1 a := fun a q => y1 a q.1 q.2.1 q.2.2.1 q.2.2.2.1 q.2.2.2.2
          have e : ∀ a : Nat, (a ≠ 1 ∧ a ≠ 44 ∧ (a < 3 ∨ 20 < a) ∧ a ≠ 67 ∧ a ≠ 69 ∧ a ≠ 70 ∧ a ≠ 71 ∧ a ≠ 88) → m2 a = mem a := fun a q => by rw [e' a q.2.2.2]; exact h5 a q.1 q.2.1 q.2.2.1
          have s : ∀ t : Int, (t = 11 ∨ t = 34) → m2 67 t = mem 67 t := fun t q => y2 t (by omega) (by omega) (by omega) (by omega) (by omega)
          refine ⟨by omega, ⟨by rw [z3]; exact w5, by rw [e' 1 (by decide), z3]; exact h3.1, by rw [z4]; exact w6, by rw [e' 1 (by decide), z4]; exact h3.2, fun q q1 q2 => ?_⟩, Or.inr ⟨by rw [e 0 (by decide)]; exact w1, by rw [s 34 (by decide)]; exact w2, by rw [e 21 (by decide), z6 0 (by decide) (by decide)]; exact w3, by rw [e 21 (by decide), z6 1 (by decide) (by decide)]; exact w4, by rw [z6 0 (by decide) (by decide)]; exact w5, by rw [z6 1 (by decide) (by decide)]; exact w6, fun q q1 q2 => ?_⟩, (I3.mv (by rw [e 41 (by decide)]) (s 11 (by decide)) (e 43 (by decide)) (e 74 (by decide))), ⟨by rw [e' 44 (by decide), z5]; exact h44, by rw [z5]; decide, fun k9 w1 w2 => by omega⟩, (I5.mv (e 64 (by decide)) (e 65 (by decide)) (e 86 (by decide)) (e 87 (by decide))), (I6.mv (e 66 (by decide)) (e 68 (by decide))), (I7.mv (e 1000 (by decide)))⟩
          · rw [z4] at q2
            have hzq := zo_rg (q := q) (by omega)
            have hc := h4 q q1 q2
            rw [z3, (z7 q q1 (by omega)).1, (z7 q q1 (by omega)).2]
            refine ((w7 q q1 q2).copy (by rw [e' _ (by omega)]; exact hc.1) (by rw [e' _ (by omega)]; exact hc.2.1) (fun x w1 w2 => by rw [e' _ (by omega), e' _ (by omega)]; exact hc.2.2 x w1 w2)).told (fun x w1 w2 => ?_)
            show mem 88 (14 + (25 * q + x)) = m2 69 (25 * q + x)
            rw [z8 _ (by omega) (by omega)]
          · rw [z6 1 (by decide) (by decide)] at q2
            have hzq := zo2_rg (q := q) (by omega)
            rw [z6 0 (by decide) (by decide), z6 (2 + 2 * q) (by omega) (by omega), z6 (3 + 2 * q) (by omega) (by omega)]
            refine ((w7 q q1 q2).keep (e _ (by omega)) (e _ (by omega)) (e _ (by omega))).told (fun x w1 w2 => ?_)
            show mem 88 (14 + (25 * q + x)) = m2 88 (14 + (25 * q + x))
            rw [z6 _ (by omega) (by omega)]
  rw [e9]; exact k m2 hI2


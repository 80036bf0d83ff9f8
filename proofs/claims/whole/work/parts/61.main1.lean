/-! ===== both sides hold the same ===== -/
def zI1 (m : zMem) : Prop := zPr (m 67 1) ∧ m 1 0 = m 67 1 ∧ (0 ≤ m 67 5 ∧ m 67 5 ≤ 6) ∧ m 1 1 = m 67 5 ∧ ∀ q : Int, 0 ≤ q → q < m 67 5 → zPI m (zo q) (m 67 1) (m 70 q) (m 71 q) (ztd m q)
def zI2 (m : zMem) : Prop := (m 0 10 = 0 ∧ m 67 34 < 0) ∨ (m 0 10 = 1 ∧ 0 ≤ m 67 34 ∧ m 21 0 = m 88 0 ∧ m 21 1 = m 88 1 ∧ zPr (m 88 0) ∧ (0 ≤ m 88 1 ∧ m 88 1 ≤ 6) ∧ ∀ q : Int, 0 ≤ q → q < m 88 1 → zPI m (zo2 q) (m 88 0) (m 88 (2 + 2 * q)) (m 88 (3 + 2 * q)) (fun x => m 88 (14 + (25 * q + x))))
def zI3 (m : zMem) : Prop := m 41 0 = m 67 11 ∧ (0 ≤ m 67 11 ∧ m 67 11 ≤ 72) ∧ ∀ i : Int, 0 ≤ i → i < m 67 11 → m 43 i = m 74 i ∧ 0 ≤ m 74 i ∧ m 74 i ≤ 255
def zI4 (m : zMem) : Prop := m 44 0 = m 67 8 ∧ (0 ≤ m 67 8 ∧ m 67 8 ≤ 16) ∧ ∀ k : Int, 0 ≤ k → k < m 67 8 → (0 ≤ m 45 k ∧ m 45 k < m 67 5) ∧ m 47 k = m 73 k ∧ ((m 46 k = -1 ∧ m 72 k = -1 - m 45 k ∧ 0 ≤ m 73 k ∧ m 73 k < 60) ∨ ((0 ≤ m 46 k ∧ m 46 k < 25) ∧ m 72 k = 25 * m 45 k + m 46 k ∧ 0 ≤ m 73 k ∧ m 73 k < m 67 1))
def zI5 (m : zMem) : Prop := ∀ l : Int, 0 ≤ l → l ≤ 2 → ((m 64 l = -1 ∧ m 86 l = -9) ∨ (m 64 l = m 86 l ∧ 0 ≤ m 86 l ∧ m 86 l ≤ 40)) ∧ ∀ i : Int, 0 ≤ i → i < m 64 l → m 65 (40 * l + i) = m 87 (40 * l + i)
def zI6 (m : zMem) : Prop := ∀ w : Int, 1 ≤ w → w ≤ 6 → m 66 w = m 68 w
def zInv (m : zMem) : Prop := zI1 m ∧ zI2 m ∧ zI3 m ∧ zI4 m ∧ zI5 m ∧ zI6 m ∧ zPM m
theorem zI1.T {m : zMem} (h : zI1 m) {q : Int} (h0 : 0 ≤ q) (h1 : q < m 67 5) : zT m q := by
  have z := h.2.2.2.2 q h0 h1
  have := h.2.2.1
  exact ⟨by omega, z.2.2.1.1, z.2.2.1.2, fun x q1 q2 => (z.2.2.2.1 x q1 q2).2⟩
theorem zI1.C {m : zMem} (h : zI1 m) {q : Int} (h0 : 0 ≤ q) (h1 : q < m 67 5) : zRw m (zo q) (zco m q) := fun t q1 q2 => (h.2.2.2.2 q h0 h1).row t q1 q2
/-- the reference's side alone -/
def zRf (m : zMem) : Prop := zPr (m 67 1) ∧ (0 ≤ m 67 5 ∧ m 67 5 ≤ 6) ∧ (∀ q : Int, 0 ≤ q → q < m 67 5 → zT m q) ∧ (0 ≤ m 67 8 ∧ m 67 8 ≤ 16) ∧ zUv m ∧ zLs m ∧ (0 ≤ m 67 11 ∧ m 67 11 ≤ 72)
theorem zInv.rf {m : zMem} (h : zInv m) : zRf m := by
  obtain ⟨h1, h2, h3, h4, h5, h6, h7⟩ := h
  refine ⟨h1.1, h1.2.2.1, fun q q1 q2 => h1.T q1 q2, h4.2.1, fun k q1 q2 => ?_, fun l q1 q2 => ?_, h3.2.1⟩
  · obtain ⟨z1, z2, z3⟩ := h4.2.2 k q1 q2
    have := h1.2.2.1
    omega
  · have := (h5 l q1 q2).1
    omega
/-- the reference's cells are as they were -/
def zHi (m m1 : zMem) : Prop := ∀ a : Nat, 67 ≤ a → a < 1000 → m1 a = m a
theorem zHi.kp {m m1 : zMem} (h : zHi m m1) : zkp m m1 := ⟨by rw [h 67 (by decide) (by decide)], by rw [h 67 (by decide) (by decide)], h 69 (by decide) (by decide), h 70 (by decide) (by decide), h 71 (by decide) (by decide)⟩
theorem zRf.hi {m m1 : zMem} (h : zRf m) (k : zHi m m1) : zRf m1 := by
  obtain ⟨h1, h2, h3, h4, h5, h6, h7⟩ := h
  have e := k 67 (by decide) (by decide)
  refine ⟨by rw [e]; exact h1, by rw [e]; exact h2, fun q q1 q2 => k.kp.T (h3 q q1 (by rw [e] at q2; exact q2)), by rw [e]; exact h4, ?_, ?_, by rw [e]; exact h7⟩
  · unfold zUv
    rw [e, k 72 (by decide) (by decide), k 73 (by decide) (by decide)]; exact h5
  · unfold zLs
    rw [k 86 (by decide) (by decide)]; exact h6
/-- what a call that only asks leaves alone, in the class -/
def zCk (m m1 : zMem) : Prop := ∀ a : Nat, (a < 48 ∨ 62 < a) → m1 a = m a
theorem zCk.rf {m : zMem} : zCk m m := fun _ _ => rfl
theorem zCk.hi {m m1 : zMem} (h : zCk m m1) : zHi m m1 := fun a q1 _ => h a (by omega)
theorem zPI.kpo {m m2 : zMem} {q p kd fg : Int} {t : Int → Int} (h : zPI m (zo q) p kd fg t) (hq : 0 ≤ q ∧ q < 6) (e : ∀ a : Nat, 3 ≤ a → a ≤ 20 → m2 a = m a) : zPI m2 (zo q) p kd fg t := by
  have := zo_rg hq
  exact h.keep (e _ (by omega) (by omega)) (e _ (by omega) (by omega)) (e _ (by omega) (by omega))
theorem zPI.kpo2 {m m2 : zMem} {q p kd fg : Int} {t : Int → Int} (h : zPI m (zo2 q) p kd fg t) (hq : 0 ≤ q ∧ q < 6) (e : ∀ a : Nat, 23 ≤ a → a ≤ 40 → m2 a = m a) : zPI m2 (zo2 q) p kd fg t := by
  have := zo2_rg hq
  exact h.keep (e _ (by omega) (by omega)) (e _ (by omega) (by omega)) (e _ (by omega) (by omega))
theorem zI1.mv {m m2 : zMem} (h : zI1 m) (e1 : m2 67 1 = m 67 1) (e5 : m2 67 5 = m 67 5) (c1 : m2 1 0 = m 1 0 ∧ m2 1 1 = m 1 1) (ec : ∀ a : Nat, 3 ≤ a → a ≤ 20 → m2 a = m a) (e69 : m2 69 = m 69) (e70 : m2 70 = m 70) (e71 : m2 71 = m 71) : zI1 m2 := by
  obtain ⟨h1, h2, h3, h4, h5⟩ := h
  refine ⟨by rw [e1]; exact h1, by rw [c1.1, e1]; exact h2, by rw [e5]; exact h3, by rw [c1.2, e5]; exact h4, fun q q1 q2 => ?_⟩
  rw [e5] at q2
  have e : ztd m2 q = ztd m q := by funext x; unfold ztd; rw [e69]
  rw [e1, e70, e71, e]
  exact (h5 q q1 q2).kpo (by omega) ec
theorem zI2.mv {m m2 : zMem} (h : zI2 m) (e0 : m2 0 10 = m 0 10) (e34 : m2 67 34 = m 67 34) (c1 : m2 21 = m 21) (ec : ∀ a : Nat, 23 ≤ a → a ≤ 40 → m2 a = m a) (e88 : m2 88 = m 88) : zI2 m2 := by
  rcases h with ⟨h1, h2⟩ | ⟨h1, h2, h3, h4, h5, h6, h7⟩
  · exact Or.inl ⟨by rw [e0]; exact h1, by rw [e34]; exact h2⟩
  · refine Or.inr ⟨by rw [e0]; exact h1, by rw [e34]; exact h2, by rw [c1, e88]; exact h3, by rw [c1, e88]; exact h4, by rw [e88]; exact h5, by rw [e88]; exact h6, fun q q1 q2 => ?_⟩
    rw [e88] at q2
    rw [e88]
    exact (h7 q q1 q2).kpo2 (by omega) ec
theorem zI3.mv {m m2 : zMem} (h : zI3 m) (e0 : m2 41 0 = m 41 0) (e11 : m2 67 11 = m 67 11) (e43 : m2 43 = m 43) (e74 : m2 74 = m 74) : zI3 m2 := by
  unfold zI3
  rw [e0, e11, e43, e74]
  exact h
theorem zI4.mv {m m2 : zMem} (h : zI4 m) (e0 : m2 44 0 = m 44 0) (e8 : m2 67 8 = m 67 8) (e5 : m2 67 5 = m 67 5) (e1 : m2 67 1 = m 67 1) (c : m2 45 = m 45 ∧ m2 46 = m 46 ∧ m2 47 = m 47) (d : m2 72 = m 72 ∧ m2 73 = m 73) : zI4 m2 := by
  unfold zI4
  rw [e0, e8, e5, e1, c.1, c.2.1, c.2.2, d.1, d.2]
  exact h
theorem zI5.mv {m m2 : zMem} (h : zI5 m) (a : m2 64 = m 64) (b : m2 65 = m 65) (c : m2 86 = m 86) (d : m2 87 = m 87) : zI5 m2 := by
  unfold zI5
  rw [a, b, c, d]
  exact h
theorem zI6.mv {m m2 : zMem} (h : zI6 m) (a : m2 66 = m 66) (b : m2 68 = m 68) : zI6 m2 := by
  unfold zI6
  rw [a, b]
  exact h
theorem zPM.mv {m m2 : zMem} (h : zPM m) (a : m2 1000 = m 1000) : zPM m2 := by
  unfold zPM
  rw [a]
  exact h
theorem zKp.at {m m2 : zMem} (h : zKp m m2) {a : Nat} (k : a < 67 ∨ (68 ≤ a ∧ a ≤ 74) ∨ 86 ≤ a) : m2 a = m a := h.1 a (by omega) (by omega) (by omega) (by omega) (by omega) (by omega) (by omega) (by omega) (by omega) (by omega) (by omega) (by omega)
theorem zKp.s {m m2 : zMem} (h : zKp m m2) {s : Int} (k : s = 1 ∨ s = 5 ∨ s = 8 ∨ s = 11 ∨ s = 34) : m2 67 s = m 67 s := h.2 s (by omega) (by omega) (by omega) (by omega) (by omega) (by omega) (by omega) (by omega)
/-- both sides asked, nothing changed but what nobody reads -/
theorem zInv.ask {m m1 m2 : zMem} (h : zInv m) (c : zCk m m1) (k : zKp m1 m2) : zInv m2 := by
  obtain ⟨h1, h2, h3, h4, h5, h6, h7⟩ := h
  have e : ∀ a : Nat, (a < 48 ∨ (62 < a ∧ a < 67) ∨ (68 ≤ a ∧ a ≤ 74) ∨ 86 ≤ a) → m2 a = m a := fun a q => (k.at (by omega)).trans (c a (by omega))
  have s : ∀ s : Int, (s = 1 ∨ s = 5 ∨ s = 8 ∨ s = 11 ∨ s = 34) → m2 67 s = m 67 s := fun s q => (k.s q).trans (by rw [c 67 (by decide)])
  refine ⟨h1.mv (s 1 (by decide)) (s 5 (by decide)) ⟨by rw [e 1 (by decide)], by rw [e 1 (by decide)]⟩ (fun a q1 q2 => e a (by omega)) (e 69 (by decide)) (e 70 (by decide)) (e 71 (by decide)), h2.mv (by rw [e 0 (by decide)]) (s 34 (by decide)) (e 21 (by decide)) (fun a q1 q2 => e a (by omega)) (e 88 (by decide)), h3.mv (by rw [e 41 (by decide)]) (s 11 (by decide)) (e 43 (by decide)) (e 74 (by decide)), h4.mv (by rw [e 44 (by decide)]) (s 8 (by decide)) (s 5 (by decide)) (s 1 (by decide)) ⟨e 45 (by decide), e 46 (by decide), e 47 (by decide)⟩ ⟨e 72 (by decide), e 73 (by decide)⟩, h5.mv (e 64 (by decide)) (e 65 (by decide)) (e 86 (by decide)) (e 87 (by decide)), h6.mv (e 66 (by decide)) (e 68 (by decide)), h7.mv (e 1000 (by decide))⟩
/-- the class refused, by number w -/
def zCn (m : zMem) (w : Int) : zMem := zu m 66 (-w) (zwr (m 66 (-w) + 1))
theorem zCn.hi {m : zMem} {w : Int} : zHi m (zCn m w) := fun a q1 _ => zu_row (by omega)
theorem zInv.no {m : zMem} {w : Int} (h : zInv m) (hw : -6 ≤ w ∧ w ≤ -1) : zInv (zno (zCn m w) w) := by
  obtain ⟨h1, h2, h3, h4, h5, h6, h7⟩ := h
  have e : ∀ a : Nat, a ≠ 66 → a ≠ 68 → zno (zCn m w) w a = m a := fun a q1 q2 => by unfold zno zCn; rw [zu_row q2, zu_row q1]
  refine ⟨h1.mv (by rw [e 67 (by decide) (by decide)]) (by rw [e 67 (by decide) (by decide)]) ⟨by rw [e 1 (by decide) (by decide)], by rw [e 1 (by decide) (by decide)]⟩ (fun a q1 q2 => e a (by omega) (by omega)) (e 69 (by decide) (by decide)) (e 70 (by decide) (by decide)) (e 71 (by decide) (by decide)), h2.mv (by rw [e 0 (by decide) (by decide)]) (by rw [e 67 (by decide) (by decide)]) (e 21 (by decide) (by decide)) (fun a q1 q2 => e a (by omega) (by omega)) (e 88 (by decide) (by decide)), h3.mv (by rw [e 41 (by decide) (by decide)]) (by rw [e 67 (by decide) (by decide)]) (e 43 (by decide) (by decide)) (e 74 (by decide) (by decide)), h4.mv (by rw [e 44 (by decide) (by decide)]) (by rw [e 67 (by decide) (by decide)]) (by rw [e 67 (by decide) (by decide)]) (by rw [e 67 (by decide) (by decide)]) ⟨e 45 (by decide) (by decide), e 46 (by decide) (by decide), e 47 (by decide) (by decide)⟩ ⟨e 72 (by decide) (by decide), e 73 (by decide) (by decide)⟩, h5.mv (e 64 (by decide) (by decide)) (e 65 (by decide) (by decide)) (e 86 (by decide) (by decide)) (e 87 (by decide) (by decide)), ?_, h7.mv (e 1000 (by decide) (by decide))⟩
  intro v q1 q2
  have hz := h6 v q1 q2
  unfold zno zCn
  rw [zu_row (show (68 : Nat) ≠ 66 by decide)]
  by_cases e9 : v = -w
  · rw [e9, zu_row (by decide), zu_s, zu_s, ← e9, hz]
  · rw [zu_row (by decide), zu_n (Or.inr e9), zu_n (Or.inr e9), zu_row (by decide)]; exact hz
/-- an answer of the class: refused by y, or v, nothing changed but what nobody reads -/
def zAn (m m1 : zMem) (r y v : Int) : Prop := (y ≠ 0 ∧ r = y ∧ m1 = zCn m y) ∨ (y = 0 ∧ r = v ∧ zCk m m1)
theorem zAn.hi {m m1 : zMem} {r y v : Int} (h : zAn m m1 r y v) : zHi m m1 := by
  rcases h with ⟨-, -, h⟩ | ⟨-, -, h⟩
  · rw [h]; exact zCn.hi
  · exact h.hi
theorem zAn.tie {m m1 m2 : zMem} {r r2 y v : Int} (h : zAn m m1 r y v) (hI : zInv m) (hy : y = 0 ∨ (-6 ≤ y ∧ y ≤ -1)) (k : (y ≠ 0 ∧ r2 = y ∧ m2 = zno m1 y) ∨ (y = 0 ∧ r2 = v ∧ zKp m1 m2)) : r2 = r ∧ zInv m2 := by
  rcases h with ⟨h1, h2, h3⟩ | ⟨h1, h2, h3⟩
  · rcases k with ⟨-, k2, k3⟩ | ⟨k1, -⟩
    · refine ⟨by omega, ?_⟩
      rw [k3, h3]; exact hI.no (by omega)
    · omega
  · rcases k with ⟨k1, -⟩ | ⟨-, k2, k3⟩
    · omega
    · exact ⟨by omega, hI.ask h3 k3⟩
theorem zyB_kp {m m1 : zMem} (h : zkp m m1) (a b le tb : Int) : zyB m1 a b le tb = zyB m a b le tb := by
  unfold zyB
  rw [h.2.1, h.co, h.co]

set_option maxRecDepth 100000 in
set_option maxHeartbeats 4000000 in
theorem sp_X10_refuse {l : Launch} {L : Nat} {mem : zMem} {Q : zQ}  (w : Int) (hw : -6 ≤ w ∧ w ≤ -1) (k : Q (some (zI w)) (zS L) (zCn mem w)) : zw_Ok l mm_X10_refuse [zR 0, zI w] (zS L) mem Q := by
  refine zw_okA (fun hA => ?_)
  have rg_w : -2147483648 ≤ w ∧ w < 2147483648 := hA.2.1
  refine zw_enter (by decide) (Nat.le_of_ble_eq_true rfl) rfl ?_
  show zw_Wp l mm_X10_refuse (zS L) 0 [some (zR 0), some (zI w), none] [] mem 0 0 Q
  refine wp_iload_n dd_X10_refuse_0 rfl ?_
  refine wp_inegC dd_X10_refuse_1 (by omega) ?_
  refine wp_istore_n (ls2 := [some (zR 0), some (zI w), some (zI (-w))]) dd_X10_refuse_2 rfl (by decide) rfl ?_
  refine wp_iload_n dd_X10_refuse_3 rfl ?_
  refine wp_if_le (tgt := 26) dd_X10_refuse_4 (by decide) (fun c4_1 => ?_) (fun c4_1 => ?_)
  · skip
    exfalso; omega
  · skip
    refine wp_iload_n dd_X10_refuse_7 rfl ?_
    refine wp_aload_n dd_X10_refuse_8 rfl ?_
    refine wp_getR dd_X10_refuse_9 gf_X10_68 rfl kk_0 (by decide) (zlt rfl) rr_0_9 ?_
    refine wp_alen dd_X10_refuse_12 kk_66 (zlt rfl) (by decide) ?_
    show zw_Wp l mm_X10_refuse (zS L) 13 [some (zR 0), some (zI w), some (zI (-w))] [zI 7, zI (-w)] mem 0 0 Q
    refine wp_icmp_ge (tgt := 26) dd_X10_refuse_13 (by decide) (fun c13_2 => ?_) (fun c13_2 => ?_)
    · skip
      exfalso; omega
    · skip
      refine wp_aload_n dd_X10_refuse_16 rfl ?_
      refine wp_getR dd_X10_refuse_17 gf_X10_68 rfl kk_0 (by decide) (zlt rfl) rr_0_9 ?_
      refine wp_iload_n dd_X10_refuse_20 rfl ?_
      refine wp_dup2 dd_X10_refuse_21 rfl rfl ?_
      refine wp_iald dd_X10_refuse_22 kk_66 (zlt rfl) (by omega) (by omega) ?_
      refine wp_iconst dd_X10_refuse_23 (zr_lit rfl) ?_
      refine wp_iadd dd_X10_refuse_24 ?_
      refine wp_iast dd_X10_refuse_25 kk_66 (zlt rfl) (by omega) (by omega) ?_
      refine wp_iload_n dd_X10_refuse_26 rfl ?_
      refine wp_ireturn (st := []) dd_X10_refuse_27 rfl ?_
      refine zq_I ?_ ?_ k
      · first | rfl | omega | (rw [if_pos (by omega)]) | (rw [if_neg (by omega)])
      · rfl

set_option maxRecDepth 100000 in
set_option maxHeartbeats 4000000 in
theorem sp_X10_refuseLong {l : Launch} {L : Nat} {mem : zMem} {Q : zQ}  (w : Int) (hw : -6 ≤ w ∧ w ≤ -1) (k : Q (some (zJ (4000000000000000000 - w))) (zS L) (zCn mem w)) : zw_Ok l mm_X10_refuseLong [zR 0, zI w] (zS L) mem Q := by
  refine zw_okA (fun hA => ?_)
  have rg_w : -2147483648 ≤ w ∧ w < 2147483648 := hA.2.1
  refine zw_enter (by decide) (Nat.le_of_ble_eq_true rfl) rfl ?_
  show zw_Wp l mm_X10_refuseLong (zS L) 0 [some (zR 0), some (zI w)] [] mem 0 0 Q
  refine wp_ldc2 dd_X10_refuseLong_0 kc_X10_325 ?_
  show zw_Wp l mm_X10_refuseLong (zS L) 3 [some (zR 0), some (zI w)] [zJ 4000000000000000000] mem 0 0 Q
  refine wp_aload_n dd_X10_refuseLong_3 rfl ?_
  refine wp_iload_n dd_X10_refuseLong_4 rfl ?_
  refine wp_callV (M' := mm_X10_refuse) (As := [zI w]) (rest := [zJ 4000000000000000000]) dd_X10_refuseLong_5 lk_X10_76 mV_X10_refuse kk_0 (zlt rfl) ⟨_, _, rfl⟩ rfl (by decide) (by decide) (Nat.le_of_ble_eq_true rfl) rfl (sp_X10_refuse  w (by first | assumption | omega) ?_)
  show zw_Wp l mm_X10_refuseLong (zS L) 8 [some (zR 0), some (zI w)] [zI w, zJ 4000000000000000000] (zCn mem w) 0 0 Q
  refine wp_i2l dd_X10_refuseLong_8 ?_
  refine wp_lsubC dd_X10_refuseLong_9 (by omega) ?_
  refine wp_lreturn (st := []) dd_X10_refuseLong_10 rfl ?_
  exact k

set_option maxRecDepth 100000 in
set_option maxHeartbeats 4000000 in
theorem sp_X10_isLetter {l : Launch} {L : Nat} {mem : zMem} {Q : zQ}  (le : Int)  (k : Q (some (zI (if le = 0 ∨ le = 1 then 1 else 0))) (zS L) mem) : zw_Ok l mm_X10_isLetter [zI le] (zS L) mem Q := by
  refine zw_okA (fun hA => ?_)
  have rg_le : -2147483648 ≤ le ∧ le < 2147483648 := hA.1
  refine zw_enter (by decide) (Nat.le_of_ble_eq_true rfl) rfl ?_
  show zw_Wp l mm_X10_isLetter (zS L) 0 [some (zI le)] [] mem 0 0 Q
  refine wp_iload_n dd_X10_isLetter_0 rfl ?_
  refine wp_if_eq (tgt := 9) dd_X10_isLetter_1 (by decide) (fun c1_1 => ?_) (fun c1_1 => ?_)
  · skip
    refine wp_iconst dd_X10_isLetter_9 (zr_lit rfl) ?_
    refine wp_goto (tgt := 14) dd_X10_isLetter_10 (by decide) ?_
    refine wp_zreturn (st := []) dd_X10_isLetter_14 rfl (by omega) ?_
    refine zq_I ?_ ?_ k
    · first | rfl | omega | (rw [if_pos (by omega)]) | (rw [if_neg (by omega)])
    · rfl
  · skip
    refine wp_iload_n dd_X10_isLetter_4 rfl ?_
    refine wp_iconst dd_X10_isLetter_5 (zr_lit rfl) ?_
    refine wp_icmp_ne (tgt := 13) dd_X10_isLetter_6 (by decide) (fun c6_2 => ?_) (fun c6_2 => ?_)
    · skip
      refine wp_iconst dd_X10_isLetter_13 (zr_lit rfl) ?_
      refine wp_zreturn (st := []) dd_X10_isLetter_14 rfl (by omega) ?_
      refine zq_I ?_ ?_ k
      · first | rfl | omega | (rw [if_pos (by omega)]) | (rw [if_neg (by omega)])
      · rfl
    · skip
      refine wp_iconst dd_X10_isLetter_9 (zr_lit rfl) ?_
      refine wp_goto (tgt := 14) dd_X10_isLetter_10 (by decide) ?_
      refine wp_zreturn (st := []) dd_X10_isLetter_14 rfl (by omega) ?_
      refine zq_I ?_ ?_ k
      · first | rfl | omega | (rw [if_pos (by omega)]) | (rw [if_neg (by omega)])
      · rfl

set_option maxRecDepth 100000 in
set_option maxHeartbeats 4000000 in
theorem sp_X10_powersRefusal {l : Launch} {L : Nat} {mem : zMem} {Q : zQ}  (q : Int) (i : Int) (j : Int) (hI : zInv mem) (k : Q (some (zI (zyP mem q i j))) (zS L) mem) : zw_Ok l mm_X10_powersRefusal [zR 0, zI q, zI i, zI j] (zS L) mem Q := by
  refine zw_okA (fun hA => ?_)
  have rg_q : -2147483648 ≤ q ∧ q < 2147483648 := hA.2.1
  have rg_i : -2147483648 ≤ i ∧ i < 2147483648 := hA.2.2.1
  have rg_j : -2147483648 ≤ j ∧ j < 2147483648 := hA.2.2.2.1
  refine zw_enter (by decide) (Nat.le_of_ble_eq_true rfl) rfl ?_
  show zw_Wp l mm_X10_powersRefusal (zS L) 0 [some (zR 0), some (zI q), some (zI i), some (zI j)] [] mem 0 0 Q
  obtain ⟨I1, I2, I3, I4, I5, I6, I7⟩ := id hI
  have hp := I1.1
  have hpr := hp.rg
  have e10 := I1.2.1
  have hn5 := I1.2.2.1
  have e11 := I1.2.2.2.1
  refine wp_aload_n dd_X10_powersRefusal_0 rfl ?_
  refine wp_getR dd_X10_powersRefusal_1 gf_X10_12 rfl kk_0 (by decide) (zlt rfl) rr_0_0 ?_
  refine wp_iload_n dd_X10_powersRefusal_4 rfl ?_
  refine wp_callV (M' := mm_X8_has) (As := [zI q]) (rest := []) dd_X10_powersRefusal_5 lk_X10_132 mV_X8_has kk_1 (zlt rfl) ⟨_, _, rfl⟩ rfl (by decide) (by decide) (Nat.le_of_ble_eq_true rfl) rfl (sp_X8_has  q  ?_)
  show zw_Wp l mm_X10_powersRefusal (zS L) 8 [some (zR 0), some (zI q), some (zI i), some (zI j)] [zI (if 0 ≤ q ∧ q < mem 1 1 then 1 else 0)] mem 0 0 Q
  refine wp_if_ne (tgt := 13) dd_X10_powersRefusal_8 (by decide) (fun c8_1 => ?_) (fun c8_1 => ?_)
  · skip
    refine wp_iload_n dd_X10_powersRefusal_13 rfl ?_
    refine wp_if_lt (tgt := 21) dd_X10_powersRefusal_14 (by decide) (fun c14_2 => ?_) (fun c14_2 => ?_)
    · skip
      refine wp_bipush dd_X10_powersRefusal_21 (by decide) ?_
      refine wp_ireturn (st := []) dd_X10_powersRefusal_23 rfl ?_
      refine zq_I ?_ ?_ k
      · unfold zyP; rw [if_neg (by omega), if_pos (by omega)]
      · rfl
    · skip
      refine wp_iload_n dd_X10_powersRefusal_17 rfl ?_
      refine wp_if_ge (tgt := 24) dd_X10_powersRefusal_18 (by decide) (fun c18_3 => ?_) (fun c18_3 => ?_)
      · skip
        refine wp_iload_n dd_X10_powersRefusal_24 rfl ?_
        refine wp_iconst dd_X10_powersRefusal_25 (zr_lit rfl) ?_
        refine wp_icmp_gt (tgt := 34) dd_X10_powersRefusal_26 (by decide) (fun c26_4 => ?_) (fun c26_4 => ?_)
        · skip
          refine wp_bipush dd_X10_powersRefusal_34 (by decide) ?_
          refine wp_goto (tgt := 40) dd_X10_powersRefusal_36 (by decide) ?_
          refine wp_ireturn (st := []) dd_X10_powersRefusal_40 rfl ?_
          refine zq_I ?_ ?_ k
          · unfold zyP; rw [if_neg (by omega), if_neg (by omega)]; first | rw [if_pos (by omega)] | rw [if_neg (by omega)]
          · rfl
        · skip
          refine wp_iload_n dd_X10_powersRefusal_29 rfl ?_
          refine wp_iconst dd_X10_powersRefusal_30 (zr_lit rfl) ?_
          refine wp_icmp_le (tgt := 39) dd_X10_powersRefusal_31 (by decide) (fun c31_5 => ?_) (fun c31_5 => ?_)
          · skip
            refine wp_iconst dd_X10_powersRefusal_39 (zr_lit rfl) ?_
            refine wp_ireturn (st := []) dd_X10_powersRefusal_40 rfl ?_
            refine zq_I ?_ ?_ k
            · unfold zyP; rw [if_neg (by omega), if_neg (by omega)]; first | rw [if_pos (by omega)] | rw [if_neg (by omega)]
            · rfl
          · skip
            refine wp_bipush dd_X10_powersRefusal_34 (by decide) ?_
            refine wp_goto (tgt := 40) dd_X10_powersRefusal_36 (by decide) ?_
            refine wp_ireturn (st := []) dd_X10_powersRefusal_40 rfl ?_
            refine zq_I ?_ ?_ k
            · unfold zyP; rw [if_neg (by omega), if_neg (by omega)]; first | rw [if_pos (by omega)] | rw [if_neg (by omega)]
            · rfl
      · skip
        refine wp_bipush dd_X10_powersRefusal_21 (by decide) ?_
        refine wp_ireturn (st := []) dd_X10_powersRefusal_23 rfl ?_
        refine zq_I ?_ ?_ k
        · unfold zyP; rw [if_neg (by omega), if_pos (by omega)]
        · rfl
  · skip
    refine wp_iconst dd_X10_powersRefusal_11 (zr_lit rfl) ?_
    refine wp_ireturn (st := []) dd_X10_powersRefusal_12 rfl ?_
    refine zq_I ?_ ?_ k
    · unfold zyP; rw [if_pos (by omega)]
    · rfl

set_option maxRecDepth 100000 in
set_option maxHeartbeats 4000000 in
theorem sp_X10_tableRefusal {l : Launch} {L : Nat} {mem : zMem} {Q : zQ}  (a : Int) (b : Int) (le : Int) (tb : Int) (hI : zInv mem) (k : Q (some (zI (zyB mem a b le tb))) (zS L) mem) : zw_Ok l mm_X10_tableRefusal [zR 0, zI a, zI b, zI le, zI tb] (zS L) mem Q := by
  refine zw_okA (fun hA => ?_)
  have rg_a : -2147483648 ≤ a ∧ a < 2147483648 := hA.2.1
  have rg_b : -2147483648 ≤ b ∧ b < 2147483648 := hA.2.2.1
  have rg_le : -2147483648 ≤ le ∧ le < 2147483648 := hA.2.2.2.1
  have rg_tb : -2147483648 ≤ tb ∧ tb < 2147483648 := hA.2.2.2.2.1
  refine zw_enter (by decide) (Nat.le_of_ble_eq_true rfl) rfl ?_
  show zw_Wp l mm_X10_tableRefusal (zS L) 0 [some (zR 0), some (zI a), some (zI b), some (zI le), some (zI tb)] [] mem 0 0 Q
  obtain ⟨I1, I2, I3, I4, I5, I6, I7⟩ := id hI
  have hp := I1.1
  have hpr := hp.rg
  have e10 := I1.2.1
  have hn5 := I1.2.2.1
  have e11 := I1.2.2.2.1
  refine wp_aload_n dd_X10_tableRefusal_0 rfl ?_
  refine wp_getR dd_X10_tableRefusal_1 gf_X10_12 rfl kk_0 (by decide) (zlt rfl) rr_0_0 ?_
  refine wp_iload_n dd_X10_tableRefusal_4 rfl ?_
  refine wp_callV (M' := mm_X8_has) (As := [zI a]) (rest := []) dd_X10_tableRefusal_5 lk_X10_132 mV_X8_has kk_1 (zlt rfl) ⟨_, _, rfl⟩ rfl (by decide) (by decide) (Nat.le_of_ble_eq_true rfl) rfl (sp_X8_has  a  ?_)
  show zw_Wp l mm_X10_tableRefusal (zS L) 8 [some (zR 0), some (zI a), some (zI b), some (zI le), some (zI tb)] [zI (if 0 ≤ a ∧ a < mem 1 1 then 1 else 0)] mem 0 0 Q
  refine wp_if_eq (tgt := 29) dd_X10_tableRefusal_8 (by decide) (fun c8_1 => ?_) (fun c8_1 => ?_)
  · skip
    refine wp_iconst dd_X10_tableRefusal_29 (zr_lit rfl) ?_
    refine wp_ireturn (st := []) dd_X10_tableRefusal_30 rfl ?_
    refine zq_I ?_ ?_ k
    · unfold zyB; rw [if_pos (by omega)]
    · rfl
  · skip
    refine wp_aload_n dd_X10_tableRefusal_11 rfl ?_
    refine wp_getR dd_X10_tableRefusal_12 gf_X10_12 rfl kk_0 (by decide) (zlt rfl) rr_0_0 ?_
    refine wp_iload_n dd_X10_tableRefusal_15 rfl ?_
    refine wp_callV (M' := mm_X8_has) (As := [zI b]) (rest := []) dd_X10_tableRefusal_16 lk_X10_132 mV_X8_has kk_1 (zlt rfl) ⟨_, _, rfl⟩ rfl (by decide) (by decide) (Nat.le_of_ble_eq_true rfl) rfl (sp_X8_has  b  ?_)
    show zw_Wp l mm_X10_tableRefusal (zS L) 19 [some (zR 0), some (zI a), some (zI b), some (zI le), some (zI tb)] [zI (if 0 ≤ b ∧ b < mem 1 1 then 1 else 0)] mem 0 0 Q
    refine wp_if_eq (tgt := 29) dd_X10_tableRefusal_19 (by decide) (fun c19_2 => ?_) (fun c19_2 => ?_)
    · skip
      refine wp_iconst dd_X10_tableRefusal_29 (zr_lit rfl) ?_
      refine wp_ireturn (st := []) dd_X10_tableRefusal_30 rfl ?_
      refine zq_I ?_ ?_ k
      · unfold zyB; rw [if_pos (by omega)]
      · rfl
    · skip
      refine wp_iload_n dd_X10_tableRefusal_22 rfl ?_
      refine wp_callS (M' := mm_X10_isLetter) (As := [zI le]) (rest := []) dd_X10_tableRefusal_23 lk_X10_257 mS_X10_isLetter rfl (by decide) (by decide) (Nat.le_of_ble_eq_true rfl) rfl (sp_X10_isLetter  le  ?_)
      show zw_Wp l mm_X10_tableRefusal (zS L) 26 [some (zR 0), some (zI a), some (zI b), some (zI le), some (zI tb)] [zI (if le = 0 ∨ le = 1 then 1 else 0)] mem 0 0 Q
      refine wp_if_ne (tgt := 31) dd_X10_tableRefusal_26 (by decide) (fun c26_3 => ?_) (fun c26_3 => ?_)
      · skip
        refine wp_iload dd_X10_tableRefusal_31 rfl ?_
        refine wp_if_eq (tgt := 45) dd_X10_tableRefusal_33 (by decide) (fun c33_4 => ?_) (fun c33_4 => ?_)
        · skip
          have hqa : 0 ≤ a ∧ a < 6 := by omega
          have hqb : 0 ≤ b ∧ b < 6 := by omega
          have hza := znought (c := zco mem a)
          rw [← (I1.C (q := a) (by omega) (by omega)).cnt] at hza
          have hzb := znought (c := zco mem b)
          rw [← (I1.C (q := b) (by omega) (by omega)).cnt] at hzb
          refine wp_aload_n dd_X10_tableRefusal_45 rfl ?_
          refine wp_getR dd_X10_tableRefusal_46 gf_X10_12 rfl kk_0 (by decide) (zlt rfl) rr_0_0 ?_
          refine wp_getR dd_X10_tableRefusal_49 gf_X10_135 rfl kk_1 (by decide) (zlt rfl) rr_1_2 ?_
          refine wp_iload_n dd_X10_tableRefusal_52 rfl ?_
          refine wp_aald dd_X10_tableRefusal_53 kk_2 (zlt rfl) (by omega) (by omega) (zr2 rfl hqa) ?_
          refine wp_callV (M' := mm_X4_isNought) (As := []) (rest := []) dd_X10_tableRefusal_54 lk_X10_356 mV_X4_isNought (zoP hqa).k (zoP hqa).i ⟨_, _, rfl⟩ rfl (by decide) (by decide) (Nat.le_of_ble_eq_true rfl) rfl (sp_X4_isNought  (zo a) (zoP hqa) ?_)
          show zw_Wp l mm_X10_tableRefusal (zS L) 57 [some (zR 0), some (zI a), some (zI b), some (zI le), some (zI tb)] [zI (if zcnt (mem ((zo a) + 2)) 25 = 0 then 1 else 0)] mem 0 0 Q
          refine wp_if_ne (tgt := 75) dd_X10_tableRefusal_57 (by decide) (fun c57_5 => ?_) (fun c57_5 => ?_)
          · skip
            refine wp_bipush dd_X10_tableRefusal_75 (by decide) ?_
            refine wp_goto (tgt := 81) dd_X10_tableRefusal_77 (by decide) ?_
            refine wp_ireturn (st := []) dd_X10_tableRefusal_81 rfl ?_
            refine zq_I ?_ ?_ k
            · unfold zyB; rw [if_neg (by omega), if_neg (by omega)]; first | (rw [if_pos (by omega)]) | (rw [if_neg (by omega)])
            · rfl
          · skip
            refine wp_aload_n dd_X10_tableRefusal_60 rfl ?_
            refine wp_getR dd_X10_tableRefusal_61 gf_X10_12 rfl kk_0 (by decide) (zlt rfl) rr_0_0 ?_
            refine wp_getR dd_X10_tableRefusal_64 gf_X10_135 rfl kk_1 (by decide) (zlt rfl) rr_1_2 ?_
            refine wp_iload_n dd_X10_tableRefusal_67 rfl ?_
            refine wp_aald dd_X10_tableRefusal_68 kk_2 (zlt rfl) (by omega) (by omega) (zr2 rfl hqb) ?_
            refine wp_callV (M' := mm_X4_isNought) (As := []) (rest := []) dd_X10_tableRefusal_69 lk_X10_356 mV_X4_isNought (zoP hqb).k (zoP hqb).i ⟨_, _, rfl⟩ rfl (by decide) (by decide) (Nat.le_of_ble_eq_true rfl) rfl (sp_X4_isNought  (zo b) (zoP hqb) ?_)
            show zw_Wp l mm_X10_tableRefusal (zS L) 72 [some (zR 0), some (zI a), some (zI b), some (zI le), some (zI tb)] [zI (if zcnt (mem ((zo b) + 2)) 25 = 0 then 1 else 0)] mem 0 0 Q
            refine wp_if_eq (tgt := 80) dd_X10_tableRefusal_72 (by decide) (fun c72_6 => ?_) (fun c72_6 => ?_)
            · skip
              refine wp_iconst dd_X10_tableRefusal_80 (zr_lit rfl) ?_
              refine wp_ireturn (st := []) dd_X10_tableRefusal_81 rfl ?_
              refine zq_I ?_ ?_ k
              · unfold zyB; rw [if_neg (by omega), if_neg (by omega)]; first | (rw [if_pos (by omega)]) | (rw [if_neg (by omega)])
              · rfl
            · skip
              refine wp_bipush dd_X10_tableRefusal_75 (by decide) ?_
              refine wp_goto (tgt := 81) dd_X10_tableRefusal_77 (by decide) ?_
              refine wp_ireturn (st := []) dd_X10_tableRefusal_81 rfl ?_
              refine zq_I ?_ ?_ k
              · unfold zyB; rw [if_neg (by omega), if_neg (by omega)]; first | (rw [if_pos (by omega)]) | (rw [if_neg (by omega)])
              · rfl
        · skip
          refine wp_iload dd_X10_tableRefusal_36 rfl ?_
          refine wp_iconst dd_X10_tableRefusal_38 (zr_lit rfl) ?_
          refine wp_icmp_eq (tgt := 45) dd_X10_tableRefusal_39 (by decide) (fun c39_7 => ?_) (fun c39_7 => ?_)
          · skip
            have hqa : 0 ≤ a ∧ a < 6 := by omega
            have hqb : 0 ≤ b ∧ b < 6 := by omega
            have hza := znought (c := zco mem a)
            rw [← (I1.C (q := a) (by omega) (by omega)).cnt] at hza
            have hzb := znought (c := zco mem b)
            rw [← (I1.C (q := b) (by omega) (by omega)).cnt] at hzb
            refine wp_aload_n dd_X10_tableRefusal_45 rfl ?_
            refine wp_getR dd_X10_tableRefusal_46 gf_X10_12 rfl kk_0 (by decide) (zlt rfl) rr_0_0 ?_
            refine wp_getR dd_X10_tableRefusal_49 gf_X10_135 rfl kk_1 (by decide) (zlt rfl) rr_1_2 ?_
            refine wp_iload_n dd_X10_tableRefusal_52 rfl ?_
            refine wp_aald dd_X10_tableRefusal_53 kk_2 (zlt rfl) (by omega) (by omega) (zr2 rfl hqa) ?_
            refine wp_callV (M' := mm_X4_isNought) (As := []) (rest := []) dd_X10_tableRefusal_54 lk_X10_356 mV_X4_isNought (zoP hqa).k (zoP hqa).i ⟨_, _, rfl⟩ rfl (by decide) (by decide) (Nat.le_of_ble_eq_true rfl) rfl (sp_X4_isNought  (zo a) (zoP hqa) ?_)
            show zw_Wp l mm_X10_tableRefusal (zS L) 57 [some (zR 0), some (zI a), some (zI b), some (zI le), some (zI tb)] [zI (if zcnt (mem ((zo a) + 2)) 25 = 0 then 1 else 0)] mem 0 0 Q
            refine wp_if_ne (tgt := 75) dd_X10_tableRefusal_57 (by decide) (fun c57_8 => ?_) (fun c57_8 => ?_)
            · skip
              refine wp_bipush dd_X10_tableRefusal_75 (by decide) ?_
              refine wp_goto (tgt := 81) dd_X10_tableRefusal_77 (by decide) ?_
              refine wp_ireturn (st := []) dd_X10_tableRefusal_81 rfl ?_
              refine zq_I ?_ ?_ k
              · unfold zyB; rw [if_neg (by omega), if_neg (by omega)]; first | (rw [if_pos (by omega)]) | (rw [if_neg (by omega)])
              · rfl
            · skip
              refine wp_aload_n dd_X10_tableRefusal_60 rfl ?_
              refine wp_getR dd_X10_tableRefusal_61 gf_X10_12 rfl kk_0 (by decide) (zlt rfl) rr_0_0 ?_
              refine wp_getR dd_X10_tableRefusal_64 gf_X10_135 rfl kk_1 (by decide) (zlt rfl) rr_1_2 ?_
              refine wp_iload_n dd_X10_tableRefusal_67 rfl ?_
              refine wp_aald dd_X10_tableRefusal_68 kk_2 (zlt rfl) (by omega) (by omega) (zr2 rfl hqb) ?_
              refine wp_callV (M' := mm_X4_isNought) (As := []) (rest := []) dd_X10_tableRefusal_69 lk_X10_356 mV_X4_isNought (zoP hqb).k (zoP hqb).i ⟨_, _, rfl⟩ rfl (by decide) (by decide) (Nat.le_of_ble_eq_true rfl) rfl (sp_X4_isNought  (zo b) (zoP hqb) ?_)
              show zw_Wp l mm_X10_tableRefusal (zS L) 72 [some (zR 0), some (zI a), some (zI b), some (zI le), some (zI tb)] [zI (if zcnt (mem ((zo b) + 2)) 25 = 0 then 1 else 0)] mem 0 0 Q
              refine wp_if_eq (tgt := 80) dd_X10_tableRefusal_72 (by decide) (fun c72_9 => ?_) (fun c72_9 => ?_)
              · skip
                refine wp_iconst dd_X10_tableRefusal_80 (zr_lit rfl) ?_
                refine wp_ireturn (st := []) dd_X10_tableRefusal_81 rfl ?_
                refine zq_I ?_ ?_ k
                · unfold zyB; rw [if_neg (by omega), if_neg (by omega)]; first | (rw [if_pos (by omega)]) | (rw [if_neg (by omega)])
                · rfl
              · skip
                refine wp_bipush dd_X10_tableRefusal_75 (by decide) ?_
                refine wp_goto (tgt := 81) dd_X10_tableRefusal_77 (by decide) ?_
                refine wp_ireturn (st := []) dd_X10_tableRefusal_81 rfl ?_
                refine zq_I ?_ ?_ k
                · unfold zyB; rw [if_neg (by omega), if_neg (by omega)]; first | (rw [if_pos (by omega)]) | (rw [if_neg (by omega)])
                · rfl
          · skip
            refine wp_bipush dd_X10_tableRefusal_42 (by decide) ?_
            refine wp_ireturn (st := []) dd_X10_tableRefusal_44 rfl ?_
            refine zq_I ?_ ?_ k
            · unfold zyB; rw [if_neg (by omega), if_pos (by omega)]
            · rfl
      · skip
        refine wp_iconst dd_X10_tableRefusal_29 (zr_lit rfl) ?_
        refine wp_ireturn (st := []) dd_X10_tableRefusal_30 rfl ?_
        refine zq_I ?_ ?_ k
        · unfold zyB; rw [if_pos (by omega)]
        · rfl

set_option maxRecDepth 100000 in
set_option maxHeartbeats 4000000 in
theorem sp_X10_numberRefusal {l : Launch} {L : Nat} {mem : zMem} {Q : zQ}  (v : Int) (hI : zInv mem) (k : Q (some (zI (if v < 0 then -4 else if mem 67 1 ≤ v then -6 else 0))) (zS L) mem) : zw_Ok l mm_X10_numberRefusal [zR 0, zI v] (zS L) mem Q := by
  refine zw_okA (fun hA => ?_)
  have rg_v : -2147483648 ≤ v ∧ v < 2147483648 := hA.2.1
  refine zw_enter (by decide) (Nat.le_of_ble_eq_true rfl) rfl ?_
  show zw_Wp l mm_X10_numberRefusal (zS L) 0 [some (zR 0), some (zI v)] [] mem 0 0 Q
  obtain ⟨I1, I2, I3, I4, I5, I6, I7⟩ := id hI
  have hp := I1.1
  have hpr := hp.rg
  have e10 := I1.2.1
  have hn5 := I1.2.2.1
  have e11 := I1.2.2.2.1
  refine wp_iload_n dd_X10_numberRefusal_0 rfl ?_
  refine wp_if_ge (tgt := 7) dd_X10_numberRefusal_1 (by decide) (fun c1_1 => ?_) (fun c1_1 => ?_)
  · skip
    refine wp_iload_n dd_X10_numberRefusal_7 rfl ?_
    refine wp_aload_n dd_X10_numberRefusal_8 rfl ?_
    refine wp_getR dd_X10_numberRefusal_9 gf_X10_12 rfl kk_0 (by decide) (zlt rfl) rr_0_0 ?_
    refine wp_getZ 0 rfl dd_X10_numberRefusal_12 gf_X10_114 rfl kk_1 (by decide) (zlt rfl) ?_
    refine wp_icmp_lt (tgt := 23) dd_X10_numberRefusal_15 (by decide) (fun c15_2 => ?_) (fun c15_2 => ?_)
    · skip
      refine wp_iconst dd_X10_numberRefusal_23 (zr_lit rfl) ?_
      refine wp_ireturn (st := []) dd_X10_numberRefusal_24 rfl ?_
      refine zq_I ?_ ?_ k
      · rw [if_neg (by omega)]; first | rw [if_pos (by omega)] | rw [if_neg (by omega)]
      · rfl
    · skip
      refine wp_bipush dd_X10_numberRefusal_18 (by decide) ?_
      refine wp_goto (tgt := 24) dd_X10_numberRefusal_20 (by decide) ?_
      refine wp_ireturn (st := []) dd_X10_numberRefusal_24 rfl ?_
      refine zq_I ?_ ?_ k
      · rw [if_neg (by omega)]; first | rw [if_pos (by omega)] | rw [if_neg (by omega)]
      · rfl
  · skip
    refine wp_bipush dd_X10_numberRefusal_4 (by decide) ?_
    refine wp_ireturn (st := []) dd_X10_numberRefusal_6 rfl ?_
    refine zq_I ?_ ?_ k
    · rw [if_pos (by omega)]
    · rfl

set_option maxRecDepth 100000 in
set_option maxHeartbeats 4000000 in
theorem sp_X10_atRefusal {l : Launch} {L : Nat} {mem : zMem} {Q : zQ}  (a : Int) (b : Int) (le : Int) (v : Int) (hI : zInv mem) (k : Q (some (zI (zyA mem a b le v))) (zS L) mem) : zw_Ok l mm_X10_atRefusal [zR 0, zI a, zI b, zI le, zI v] (zS L) mem Q := by
  refine zw_okA (fun hA => ?_)
  have rg_a : -2147483648 ≤ a ∧ a < 2147483648 := hA.2.1
  have rg_b : -2147483648 ≤ b ∧ b < 2147483648 := hA.2.2.1
  have rg_le : -2147483648 ≤ le ∧ le < 2147483648 := hA.2.2.2.1
  have rg_v : -2147483648 ≤ v ∧ v < 2147483648 := hA.2.2.2.2.1
  refine zw_enter (by decide) (Nat.le_of_ble_eq_true rfl) rfl ?_
  show zw_Wp l mm_X10_atRefusal (zS L) 0 [some (zR 0), some (zI a), some (zI b), some (zI le), some (zI v), none] [] mem 0 0 Q
  obtain ⟨I1, I2, I3, I4, I5, I6, I7⟩ := id hI
  have hp := I1.1
  have hpr := hp.rg
  have e10 := I1.2.1
  have hn5 := I1.2.2.1
  have e11 := I1.2.2.2.1
  refine wp_aload_n dd_X10_atRefusal_0 rfl ?_
  refine wp_iload_n dd_X10_atRefusal_1 rfl ?_
  refine wp_iload_n dd_X10_atRefusal_2 rfl ?_
  refine wp_iload_n dd_X10_atRefusal_3 rfl ?_
  refine wp_iconst dd_X10_atRefusal_4 (zr_lit rfl) ?_
  refine wp_callV (M' := mm_X10_tableRefusal) (As := [zI a, zI b, zI le, zI 0]) (rest := []) dd_X10_atRefusal_5 lk_X10_181 mV_X10_tableRefusal kk_0 (zlt rfl) ⟨_, _, rfl⟩ rfl (by decide) (by decide) (Nat.le_of_ble_eq_true rfl) rfl (sp_X10_tableRefusal  a b le 0 hI ?_)
  show zw_Wp l mm_X10_atRefusal (zS L) 8 [some (zR 0), some (zI a), some (zI b), some (zI le), some (zI v), none] [zI (zyB mem a b le 0)] mem 0 0 Q
  refine wp_istore (ls2 := [some (zR 0), some (zI a), some (zI b), some (zI le), some (zI v), some (zI (zyB mem a b le 0))]) dd_X10_atRefusal_8 rfl (by decide) rfl ?_
  refine wp_iload dd_X10_atRefusal_10 rfl ?_
  refine wp_if_eq (tgt := 20) dd_X10_atRefusal_12 (by decide) (fun c12_1 => ?_) (fun c12_1 => ?_)
  · skip
    refine wp_aload_n dd_X10_atRefusal_20 rfl ?_
    refine wp_iload dd_X10_atRefusal_21 rfl ?_
    refine wp_callV (M' := mm_X10_numberRefusal) (As := [zI v]) (rest := []) dd_X10_atRefusal_23 lk_X10_207 mV_X10_numberRefusal kk_0 (zlt rfl) ⟨_, _, rfl⟩ rfl (by decide) (by decide) (Nat.le_of_ble_eq_true rfl) rfl (sp_X10_numberRefusal  v hI ?_)
    show zw_Wp l mm_X10_atRefusal (zS L) 26 [some (zR 0), some (zI a), some (zI b), some (zI le), some (zI v), some (zI (zyB mem a b le 0))] [zI (if v < 0 then -4 else if mem 67 1 ≤ v then -6 else 0)] mem 0 0 Q
    refine wp_ireturn (st := []) dd_X10_atRefusal_26 rfl ?_
    refine zq_I ?_ ?_ k
    · unfold zyA; first | (rw [if_pos (show zyB mem a b le 0 ≠ 0 by assumption)]) | (rw [if_neg (show ¬ zyB mem a b le 0 ≠ 0 by omega)])
    · rfl
  · skip
    refine wp_iload dd_X10_atRefusal_15 rfl ?_
    refine wp_goto (tgt := 26) dd_X10_atRefusal_17 (by decide) ?_
    refine wp_ireturn (st := []) dd_X10_atRefusal_26 rfl ?_
    refine zq_I ?_ ?_ k
    · unfold zyA; first | (rw [if_pos (show zyB mem a b le 0 ≠ 0 by assumption)]) | (rw [if_neg (show ¬ zyB mem a b le 0 ≠ 0 by omega)])
    · rfl

set_option maxRecDepth 100000 in
set_option maxHeartbeats 4000000 in
theorem sp_X10_polygonRefusal {l : Launch} {L : Nat} {mem : zMem} {Q : zQ}  (a : Int) (b : Int) (hI : zInv mem) (k : Q (some (zI (zyB mem a b 0 0))) (zS L) mem) : zw_Ok l mm_X10_polygonRefusal [zR 0, zI a, zI b] (zS L) mem Q := by
  refine zw_okA (fun hA => ?_)
  have rg_a : -2147483648 ≤ a ∧ a < 2147483648 := hA.2.1
  have rg_b : -2147483648 ≤ b ∧ b < 2147483648 := hA.2.2.1
  refine zw_enter (by decide) (Nat.le_of_ble_eq_true rfl) rfl ?_
  show zw_Wp l mm_X10_polygonRefusal (zS L) 0 [some (zR 0), some (zI a), some (zI b)] [] mem 0 0 Q
  obtain ⟨I1, I2, I3, I4, I5, I6, I7⟩ := id hI
  have hp := I1.1
  have hpr := hp.rg
  have e10 := I1.2.1
  have hn5 := I1.2.2.1
  have e11 := I1.2.2.2.1
  refine wp_aload_n dd_X10_polygonRefusal_0 rfl ?_
  refine wp_getR dd_X10_polygonRefusal_1 gf_X10_12 rfl kk_0 (by decide) (zlt rfl) rr_0_0 ?_
  refine wp_iload_n dd_X10_polygonRefusal_4 rfl ?_
  refine wp_callV (M' := mm_X8_has) (As := [zI a]) (rest := []) dd_X10_polygonRefusal_5 lk_X10_132 mV_X8_has kk_1 (zlt rfl) ⟨_, _, rfl⟩ rfl (by decide) (by decide) (Nat.le_of_ble_eq_true rfl) rfl (sp_X8_has  a  ?_)
  show zw_Wp l mm_X10_polygonRefusal (zS L) 8 [some (zR 0), some (zI a), some (zI b)] [zI (if 0 ≤ a ∧ a < mem 1 1 then 1 else 0)] mem 0 0 Q
  refine wp_if_eq (tgt := 22) dd_X10_polygonRefusal_8 (by decide) (fun c8_1 => ?_) (fun c8_1 => ?_)
  · skip
    refine wp_iconst dd_X10_polygonRefusal_22 (zr_lit rfl) ?_
    refine wp_ireturn (st := []) dd_X10_polygonRefusal_23 rfl ?_
    refine zq_I ?_ ?_ k
    · unfold zyB; rw [if_pos (by omega)]
    · rfl
  · skip
    refine wp_aload_n dd_X10_polygonRefusal_11 rfl ?_
    refine wp_getR dd_X10_polygonRefusal_12 gf_X10_12 rfl kk_0 (by decide) (zlt rfl) rr_0_0 ?_
    refine wp_iload_n dd_X10_polygonRefusal_15 rfl ?_
    refine wp_callV (M' := mm_X8_has) (As := [zI b]) (rest := []) dd_X10_polygonRefusal_16 lk_X10_132 mV_X8_has kk_1 (zlt rfl) ⟨_, _, rfl⟩ rfl (by decide) (by decide) (Nat.le_of_ble_eq_true rfl) rfl (sp_X8_has  b  ?_)
    show zw_Wp l mm_X10_polygonRefusal (zS L) 19 [some (zR 0), some (zI a), some (zI b)] [zI (if 0 ≤ b ∧ b < mem 1 1 then 1 else 0)] mem 0 0 Q
    refine wp_if_ne (tgt := 24) dd_X10_polygonRefusal_19 (by decide) (fun c19_2 => ?_) (fun c19_2 => ?_)
    · skip
      have hqa : 0 ≤ a ∧ a < 6 := by omega
      have hqb : 0 ≤ b ∧ b < 6 := by omega
      have hza := znought (c := zco mem a)
      rw [← (I1.C (q := a) (by omega) (by omega)).cnt] at hza
      have hzb := znought (c := zco mem b)
      rw [← (I1.C (q := b) (by omega) (by omega)).cnt] at hzb
      refine wp_aload_n dd_X10_polygonRefusal_24 rfl ?_
      refine wp_getR dd_X10_polygonRefusal_25 gf_X10_12 rfl kk_0 (by decide) (zlt rfl) rr_0_0 ?_
      refine wp_getR dd_X10_polygonRefusal_28 gf_X10_135 rfl kk_1 (by decide) (zlt rfl) rr_1_2 ?_
      refine wp_iload_n dd_X10_polygonRefusal_31 rfl ?_
      refine wp_aald dd_X10_polygonRefusal_32 kk_2 (zlt rfl) (by omega) (by omega) (zr2 rfl hqa) ?_
      refine wp_callV (M' := mm_X4_isNought) (As := []) (rest := []) dd_X10_polygonRefusal_33 lk_X10_356 mV_X4_isNought (zoP hqa).k (zoP hqa).i ⟨_, _, rfl⟩ rfl (by decide) (by decide) (Nat.le_of_ble_eq_true rfl) rfl (sp_X4_isNought  (zo a) (zoP hqa) ?_)
      show zw_Wp l mm_X10_polygonRefusal (zS L) 36 [some (zR 0), some (zI a), some (zI b)] [zI (if zcnt (mem ((zo a) + 2)) 25 = 0 then 1 else 0)] mem 0 0 Q
      refine wp_if_ne (tgt := 54) dd_X10_polygonRefusal_36 (by decide) (fun c36_3 => ?_) (fun c36_3 => ?_)
      · skip
        refine wp_bipush dd_X10_polygonRefusal_54 (by decide) ?_
        refine wp_goto (tgt := 60) dd_X10_polygonRefusal_56 (by decide) ?_
        refine wp_ireturn (st := []) dd_X10_polygonRefusal_60 rfl ?_
        refine zq_I ?_ ?_ k
        · unfold zyB; rw [if_neg (by omega), if_neg (by omega)]; first | (rw [if_pos (by omega)]) | (rw [if_neg (by omega)])
        · rfl
      · skip
        refine wp_aload_n dd_X10_polygonRefusal_39 rfl ?_
        refine wp_getR dd_X10_polygonRefusal_40 gf_X10_12 rfl kk_0 (by decide) (zlt rfl) rr_0_0 ?_
        refine wp_getR dd_X10_polygonRefusal_43 gf_X10_135 rfl kk_1 (by decide) (zlt rfl) rr_1_2 ?_
        refine wp_iload_n dd_X10_polygonRefusal_46 rfl ?_
        refine wp_aald dd_X10_polygonRefusal_47 kk_2 (zlt rfl) (by omega) (by omega) (zr2 rfl hqb) ?_
        refine wp_callV (M' := mm_X4_isNought) (As := []) (rest := []) dd_X10_polygonRefusal_48 lk_X10_356 mV_X4_isNought (zoP hqb).k (zoP hqb).i ⟨_, _, rfl⟩ rfl (by decide) (by decide) (Nat.le_of_ble_eq_true rfl) rfl (sp_X4_isNought  (zo b) (zoP hqb) ?_)
        show zw_Wp l mm_X10_polygonRefusal (zS L) 51 [some (zR 0), some (zI a), some (zI b)] [zI (if zcnt (mem ((zo b) + 2)) 25 = 0 then 1 else 0)] mem 0 0 Q
        refine wp_if_eq (tgt := 59) dd_X10_polygonRefusal_51 (by decide) (fun c51_4 => ?_) (fun c51_4 => ?_)
        · skip
          refine wp_iconst dd_X10_polygonRefusal_59 (zr_lit rfl) ?_
          refine wp_ireturn (st := []) dd_X10_polygonRefusal_60 rfl ?_
          refine zq_I ?_ ?_ k
          · unfold zyB; rw [if_neg (by omega), if_neg (by omega)]; first | (rw [if_pos (by omega)]) | (rw [if_neg (by omega)])
          · rfl
        · skip
          refine wp_bipush dd_X10_polygonRefusal_54 (by decide) ?_
          refine wp_goto (tgt := 60) dd_X10_polygonRefusal_56 (by decide) ?_
          refine wp_ireturn (st := []) dd_X10_polygonRefusal_60 rfl ?_
          refine zq_I ?_ ?_ k
          · unfold zyB; rw [if_neg (by omega), if_neg (by omega)]; first | (rw [if_pos (by omega)]) | (rw [if_neg (by omega)])
          · rfl
    · skip
      refine wp_iconst dd_X10_polygonRefusal_22 (zr_lit rfl) ?_
      refine wp_ireturn (st := []) dd_X10_polygonRefusal_23 rfl ?_
      refine zq_I ?_ ?_ k
      · unfold zyB; rw [if_pos (by omega)]
      · rfl

set_option maxRecDepth 100000 in
set_option maxHeartbeats 4000000 in
theorem sp_X10_placeRefusal {l : Launch} {L : Nat} {mem : zMem} {Q : zQ}  (l0 : Int) (i : Int) (hI : zInv mem) (k : Q (some (zI (if ¬ (0 ≤ l0 ∧ l0 ≤ 2) then -1 else zyL mem l0 i))) (zS L) mem) : zw_Ok l mm_X10_placeRefusal [zR 0, zI l0, zI i] (zS L) mem Q := by
  refine zw_okA (fun hA => ?_)
  have rg_l0 : -2147483648 ≤ l0 ∧ l0 < 2147483648 := hA.2.1
  have rg_i : -2147483648 ≤ i ∧ i < 2147483648 := hA.2.2.1
  refine zw_enter (by decide) (Nat.le_of_ble_eq_true rfl) rfl ?_
  show zw_Wp l mm_X10_placeRefusal (zS L) 0 [some (zR 0), some (zI l0), some (zI i)] [] mem 0 0 Q
  obtain ⟨I1, I2, I3, I4, I5, I6, I7⟩ := id hI
  have hp := I1.1
  have hpr := hp.rg
  have e10 := I1.2.1
  have hn5 := I1.2.2.1
  have e11 := I1.2.2.2.1
  refine wp_aload_n dd_X10_placeRefusal_0 rfl ?_
  refine wp_getR dd_X10_placeRefusal_1 gf_X10_64 rfl kk_0 (by decide) (zlt rfl) rr_0_8 ?_
  refine wp_iload_n dd_X10_placeRefusal_4 rfl ?_
  refine wp_callV (M' := mm_X1_has) (As := [zI l0]) (rest := []) dd_X10_placeRefusal_5 lk_X10_315 mV_X1_has kk_63 (zlt rfl) ⟨_, _, rfl⟩ rfl (by decide) (by decide) (Nat.le_of_ble_eq_true rfl) rfl (sp_X1_has  l0  ?_)
  show zw_Wp l mm_X10_placeRefusal (zS L) 8 [some (zR 0), some (zI l0), some (zI i)] [zI (if 0 ≤ l0 ∧ l0 ≤ 2 then 1 else 0)] mem 0 0 Q
  refine wp_if_ne (tgt := 13) dd_X10_placeRefusal_8 (by decide) (fun c8_1 => ?_) (fun c8_1 => ?_)
  · skip
    have hl5 := (I5 l0 (by omega) (by omega)).1
    refine wp_aload_n dd_X10_placeRefusal_13 rfl ?_
    refine wp_getR dd_X10_placeRefusal_14 gf_X10_64 rfl kk_0 (by decide) (zlt rfl) rr_0_8 ?_
    refine wp_iload_n dd_X10_placeRefusal_17 rfl ?_
    refine wp_callV (M' := mm_X1_isMissing) (As := [zI l0]) (rest := []) dd_X10_placeRefusal_18 lk_X10_334 mV_X1_isMissing kk_63 (zlt rfl) ⟨_, _, rfl⟩ rfl (by decide) (by decide) (Nat.le_of_ble_eq_true rfl) rfl (sp_X1_isMissing  l0 (by first | assumption | omega) ?_)
    show zw_Wp l mm_X10_placeRefusal (zS L) 21 [some (zR 0), some (zI l0), some (zI i)] [zI (if mem 64 l0 = -1 then 1 else 0)] mem 0 0 Q
    refine wp_if_eq (tgt := 27) dd_X10_placeRefusal_21 (by decide) (fun c21_2 => ?_) (fun c21_2 => ?_)
    · skip
      refine wp_aload_n dd_X10_placeRefusal_27 rfl ?_
      refine wp_getR dd_X10_placeRefusal_28 gf_X10_64 rfl kk_0 (by decide) (zlt rfl) rr_0_8 ?_
      refine wp_iload_n dd_X10_placeRefusal_31 rfl ?_
      refine wp_iload_n dd_X10_placeRefusal_32 rfl ?_
      refine wp_callV (M' := mm_X1_hasPlace) (As := [zI l0, zI i]) (rest := []) dd_X10_placeRefusal_33 lk_X10_359 mV_X1_hasPlace kk_63 (zlt rfl) ⟨_, _, rfl⟩ rfl (by decide) (by decide) (Nat.le_of_ble_eq_true rfl) rfl (sp_X1_hasPlace  l0 i (by first | assumption | omega) ?_)
      show zw_Wp l mm_X10_placeRefusal (zS L) 36 [some (zR 0), some (zI l0), some (zI i)] [zI (if 0 ≤ i ∧ i < mem 64 l0 then 1 else 0)] mem 0 0 Q
      refine wp_if_eq (tgt := 43) dd_X10_placeRefusal_36 (by decide) (fun c36_3 => ?_) (fun c36_3 => ?_)
      · skip
        refine wp_bipush dd_X10_placeRefusal_43 (by decide) ?_
        refine wp_ireturn (st := []) dd_X10_placeRefusal_45 rfl ?_
        refine zq_I ?_ ?_ k
        · rw [if_neg (by omega)]; unfold zyL; rw [if_neg (by omega)]; first | rw [if_pos (by omega)] | rw [if_neg (by omega)]
        · rfl
      · skip
        refine wp_iconst dd_X10_placeRefusal_39 (zr_lit rfl) ?_
        refine wp_goto (tgt := 45) dd_X10_placeRefusal_40 (by decide) ?_
        refine wp_ireturn (st := []) dd_X10_placeRefusal_45 rfl ?_
        refine zq_I ?_ ?_ k
        · rw [if_neg (by omega)]; unfold zyL; rw [if_neg (by omega)]; first | rw [if_pos (by omega)] | rw [if_neg (by omega)]
        · rfl
    · skip
      refine wp_bipush dd_X10_placeRefusal_24 (by decide) ?_
      refine wp_ireturn (st := []) dd_X10_placeRefusal_26 rfl ?_
      refine zq_I ?_ ?_ k
      · rw [if_neg (by omega)]; unfold zyL; rw [if_pos (by omega)]
      · rfl
  · skip
    refine wp_iconst dd_X10_placeRefusal_11 (zr_lit rfl) ?_
    refine wp_ireturn (st := []) dd_X10_placeRefusal_12 rfl ?_
    refine zq_I ?_ ?_ k
    · rw [if_pos (by omega)]
    · rfl

set_option maxRecDepth 100000 in
set_option maxHeartbeats 4000000 in
theorem sp_X10_solve {l : Launch} {L : Nat} {mem : zMem} {Q : zQ}  (a : Int) (b : Int) (le : Int) (tb : Int) (hI : zInv mem) (hz : zyB mem a b le tb = 0) (k : ∀ (mem2 : zMem), (∀ d : Int, 0 ≤ d → d < 41 → mem2 49 d = zre mem a b le tb d) → (∀ x : Nat, (x < 48 ∨ 52 < x) → mem2 x = mem x) → Q none (zS L) mem2) : zw_Ok l mm_X10_solve [zR 0, zI a, zI b, zI le, zI tb] (zS L) mem Q := by
  refine zw_okA (fun hA => ?_)
  have rg_a : -2147483648 ≤ a ∧ a < 2147483648 := hA.2.1
  have rg_b : -2147483648 ≤ b ∧ b < 2147483648 := hA.2.2.1
  have rg_le : -2147483648 ≤ le ∧ le < 2147483648 := hA.2.2.2.1
  have rg_tb : -2147483648 ≤ tb ∧ tb < 2147483648 := hA.2.2.2.2.1
  refine zw_enter (by decide) (Nat.le_of_ble_eq_true rfl) rfl ?_
  show zw_Wp l mm_X10_solve (zS L) 0 [some (zR 0), some (zI a), some (zI b), some (zI le), some (zI tb)] [] mem 0 0 Q
  obtain ⟨I1, I2, I3, I4, I5, I6, I7⟩ := id hI
  have hp := I1.1
  have hpr := hp.rg
  have e10 := I1.2.1
  have hn5 := I1.2.2.1
  have e11 := I1.2.2.2.1
  obtain ⟨⟨hia, hib, hl, htb⟩, hna, hnb⟩ := zyB_0 hz
  have hqa : 0 ≤ a ∧ a < 6 := by omega
  have hqb : 0 ≤ b ∧ b < 6 := by omega
  have hTa := I1.T hia.1 hia.2
  have hTb := I1.T hib.1 hib.2
  have hCa := I1.C hia.1 hia.2
  have hCb := I1.C hib.1 hib.2
  have hcra := zco_rg hp hTa
  have hcrb := zco_rg hp hTb
  have dn1 := zdg_nn (c := zco mem a) hl hna
  have dn2 := zdg_nn (c := zco mem b) hl hnb
  have d41 := zdeg_4 (c := zco mem a) hl
  have d42 := zdeg_4 (c := zco mem b) hl
  have hpta : ∀ x y : Int, 0 ≤ zpt (zco mem a) le x y ∧ zpt (zco mem a) le x y < mem 67 1 := fun x y => zpt_rg (by omega) hcra
  have hptb : ∀ x y : Int, 0 ≤ zpt (zco mem b) le x y ∧ zpt (zco mem b) le x y < mem 67 1 := fun x y => zpt_rg (by omega) hcrb
  have hzoa := zo_rg hqa
  have hzob := zo_rg hqb
  refine wp_aload_n dd_X10_solve_0 rfl ?_
  refine wp_getR dd_X10_solve_1 gf_X10_36 rfl kk_0 (by decide) (zlt rfl) rr_0_4 ?_
  refine wp_aload_n dd_X10_solve_4 rfl ?_
  refine wp_getR dd_X10_solve_5 gf_X10_12 rfl kk_0 (by decide) (zlt rfl) rr_0_0 ?_
  refine wp_getR dd_X10_solve_8 gf_X10_135 rfl kk_1 (by decide) (zlt rfl) rr_1_2 ?_
  refine wp_iload_n dd_X10_solve_11 rfl ?_
  refine wp_aald dd_X10_solve_12 kk_2 (zlt rfl) (by omega) (by omega) (zr2 rfl hqa) ?_
  refine wp_aload_n dd_X10_solve_13 rfl ?_
  refine wp_getR dd_X10_solve_14 gf_X10_12 rfl kk_0 (by decide) (zlt rfl) rr_0_0 ?_
  refine wp_getR dd_X10_solve_17 gf_X10_135 rfl kk_1 (by decide) (zlt rfl) rr_1_2 ?_
  refine wp_iload_n dd_X10_solve_20 rfl ?_
  refine wp_aald dd_X10_solve_21 kk_2 (zlt rfl) (by omega) (by omega) (zr2 rfl hqb) ?_
  refine wp_iload_n dd_X10_solve_22 rfl ?_
  refine wp_iload dd_X10_solve_23 rfl ?_
  refine wp_aload_n dd_X10_solve_25 rfl ?_
  refine wp_getR dd_X10_solve_26 gf_X10_12 rfl kk_0 (by decide) (zlt rfl) rr_0_0 ?_
  refine wp_getZ 0 rfl dd_X10_solve_29 gf_X10_114 rfl kk_1 (by decide) (zlt rfl) ?_
  refine wp_callV (M' := mm_X9_fill) (As := [zR (zo a), zR (zo b), zI le, zI tb, zI (mem 1 0)]) (rest := []) dd_X10_solve_32 lk_X10_189 mV_X9_fill kk_48 (zlt rfl) ⟨_, _, rfl⟩ rfl (by decide) (by decide) (Nat.le_of_ble_eq_true rfl) rfl (sp_X9_fill (zco mem a) (zco mem b) (zo a) (zo b) le tb (mem 1 0) (zoP hqa) (zoP hqb) hCa hCb hl htb ⟨dn1, dn2⟩ (by rw [e10]; exact hpr) (by rw [e10]; exact hpta) (by rw [e10]; exact hptb) (fun mF sF fF gF => ?_))
  show zw_Wp l mm_X10_solve (zS L) 35 [some (zR 0), some (zI a), some (zI b), some (zI le), some (zI tb)] [] mF 0 0 Q
  have f10 : mF 1 0 = mem 67 1 := by rw [gF 1 (by decide) (by decide)]; exact e10
  have hszm : zsz (zco mem a) (zco mem b) le tb = zsm mem a b le tb := rfl
  have hclm : zcl (zco mem a) (zco mem b) le (mem 1 0) tb = zcm mem a b le tb := by rw [e10]
  rw [hclm] at fF
  have hszb : 0 ≤ zsm mem a b le tb ∧ zsm mem a b le tb ≤ 8 ∧ (tb ≠ 0 → zsm mem a b le tb ≤ 4) := by
    rw [← hszm]
    unfold zsz
    by_cases q : tb = 0
    · rw [if_pos q]; omega
    · rw [if_neg q]; omega
  have hspb : (tb = 0 ∧ (if tb = 0 then (4 : Int) else 8) = 4) ∨ (tb = 1 ∧ (if tb = 0 then (4 : Int) else 8) = 8) := by rcases htb with h | h <;> rw [h] <;> decide
  have hmul : zsm mem a b le tb * (if tb = 0 then (4 : Int) else 8) ≤ 32 := by rcases hspb with ⟨h, h9⟩ | ⟨h, h9⟩ <;> rw [h9] <;> omega
  refine wp_aload_n dd_X10_solve_35 rfl ?_
  refine wp_getR dd_X10_solve_36 gf_X10_36 rfl kk_0 (by decide) (zlt rfl) rr_0_4 ?_
  refine wp_aload_n dd_X10_solve_39 rfl ?_
  refine wp_getR dd_X10_solve_40 gf_X10_12 rfl kk_0 (by decide) (zlt rfl) rr_0_0 ?_
  refine wp_getZ 0 rfl dd_X10_solve_43 gf_X10_114 rfl kk_1 (by decide) (zlt rfl) ?_
  refine wp_callV (M' := mm_X9_expand) (As := [zI (mF 1 0)]) (rest := []) dd_X10_solve_46 lk_X10_247 mV_X9_expand kk_48 (zlt rfl) ⟨_, _, rfl⟩ rfl (by decide) (by decide) (Nat.le_of_ble_eq_true rfl) rfl (sp_X9_expand (zcm mem a b le tb) (zsm mem a b le tb) (if tb = 0 then 4 else 8) (mF 1 0) (by rw [f10]; exact hpr) ⟨sF.1, hszb.1, hszb.2.1⟩ ⟨sF.2, by omega, by omega, hmul⟩ fF (by rw [f10]; exact zcl_rg (by omega) hpta hptb) (by
          intro r9 c9 k9 q1 q2 q3 q4
          rcases hspb with ⟨h, h9⟩ | ⟨h, h9⟩
          · rw [h9] at q3
            show zcl (zco mem a) (zco mem b) le (mem 67 1) tb r9 c9 k9 = 0
            unfold zcl zsyl
            rw [if_pos h]
            split
            · exact zpt_o (Or.inr (by omega))
            · exact zpt_o (Or.inr (by omega))
          · rw [h9] at q3; omega) (fun mE fE gE => ?_))
  show zw_Wp l mm_X10_solve (zS L) 49 [some (zR 0), some (zI a), some (zI b), some (zI le), some (zI tb)] [] mE 0 0 Q
  refine wp_return (st := []) dd_X10_solve_49 rfl ?_
  refine k mE (fun d q1 q2 => ?_) (fun x hx => ?_)
  · rw [fE d q1 q2, f10]; rfl
  · rw [gE x (by omega) (by omega) (by omega), gF x (by omega) (by omega)]

set_option maxRecDepth 100000 in
set_option maxHeartbeats 4000000 in
theorem sp_X10_divideAt {l : Launch} {L : Nat} {mem : zMem} {Q : zQ}  (a : Int) (b : Int) (le : Int) (v : Int) (hI : zInv mem) (hz : zyB mem a b le 0 = 0) (hv : 0 ≤ v ∧ v < mem 67 1) (k : ∀ (mem2 : zMem), (0 ≤ mem2 53 2 ∧ mem2 53 2 ≤ 8) → (∀ k9 : Int, -2 ≤ k9 → zrs0 (mem 67 1) k9 (zsa (zco mem a) le v (mem 67 1)) (zsa (zco mem b) le v (mem 67 1)) = if k9 = -1 then mem2 53 2 else if k9 = -2 then zlw mem2 else if k9 < mem2 53 2 then mem2 56 k9 else -9) → (∀ x : Nat, (x < 53 ∨ 56 < x) → mem2 x = mem x) → Q none (zS L) mem2) : zw_Ok l mm_X10_divideAt [zR 0, zI a, zI b, zI le, zI v] (zS L) mem Q := by
  refine zw_okA (fun hA => ?_)
  have rg_a : -2147483648 ≤ a ∧ a < 2147483648 := hA.2.1
  have rg_b : -2147483648 ≤ b ∧ b < 2147483648 := hA.2.2.1
  have rg_le : -2147483648 ≤ le ∧ le < 2147483648 := hA.2.2.2.1
  have rg_v : -2147483648 ≤ v ∧ v < 2147483648 := hA.2.2.2.2.1
  refine zw_enter (by decide) (Nat.le_of_ble_eq_true rfl) rfl ?_
  show zw_Wp l mm_X10_divideAt (zS L) 0 [some (zR 0), some (zI a), some (zI b), some (zI le), some (zI v)] [] mem 0 0 Q
  obtain ⟨I1, I2, I3, I4, I5, I6, I7⟩ := id hI
  have hp := I1.1
  have hpr := hp.rg
  have e10 := I1.2.1
  have hn5 := I1.2.2.1
  have e11 := I1.2.2.2.1
  obtain ⟨⟨hia, hib, hl, htb⟩, hna, hnb⟩ := zyB_0 hz
  have hqa : 0 ≤ a ∧ a < 6 := by omega
  have hqb : 0 ≤ b ∧ b < 6 := by omega
  have hTa := I1.T hia.1 hia.2
  have hTb := I1.T hib.1 hib.2
  have hCa := I1.C hia.1 hia.2
  have hCb := I1.C hib.1 hib.2
  have hcra := zco_rg hp hTa
  have hcrb := zco_rg hp hTb
  have dn1 := zdg_nn (c := zco mem a) hl hna
  have dn2 := zdg_nn (c := zco mem b) hl hnb
  have d41 := zdeg_4 (c := zco mem a) hl
  have d42 := zdeg_4 (c := zco mem b) hl
  have hpta : ∀ x y : Int, 0 ≤ zpt (zco mem a) le x y ∧ zpt (zco mem a) le x y < mem 67 1 := fun x y => zpt_rg (by omega) hcra
  have hptb : ∀ x y : Int, 0 ≤ zpt (zco mem b) le x y ∧ zpt (zco mem b) le x y < mem 67 1 := fun x y => zpt_rg (by omega) hcrb
  have hzoa := zo_rg hqa
  have hzob := zo_rg hqb
  refine wp_aload_n dd_X10_divideAt_0 rfl ?_
  refine wp_getR dd_X10_divideAt_1 gf_X10_12 rfl kk_0 (by decide) (zlt rfl) rr_0_0 ?_
  refine wp_getR dd_X10_divideAt_4 gf_X10_135 rfl kk_1 (by decide) (zlt rfl) rr_1_2 ?_
  refine wp_iload_n dd_X10_divideAt_7 rfl ?_
  refine wp_aald dd_X10_divideAt_8 kk_2 (zlt rfl) (by omega) (by omega) (zr2 rfl hqa) ?_
  refine wp_iload_n dd_X10_divideAt_9 rfl ?_
  refine wp_iload dd_X10_divideAt_10 rfl ?_
  refine wp_aload_n dd_X10_divideAt_12 rfl ?_
  refine wp_getR dd_X10_divideAt_13 gf_X10_12 rfl kk_0 (by decide) (zlt rfl) rr_0_0 ?_
  refine wp_getZ 0 rfl dd_X10_divideAt_16 gf_X10_114 rfl kk_1 (by decide) (zlt rfl) ?_
  refine wp_aload_n dd_X10_divideAt_19 rfl ?_
  refine wp_getR dd_X10_divideAt_20 gf_X10_43 rfl kk_0 (by decide) (zlt rfl) rr_0_5 ?_
  refine wp_getR dd_X10_divideAt_23 gf_X10_229 rfl kk_53 (by decide) (zlt rfl) rr_53_0 ?_
  refine wp_callV (M' := mm_X4_reduceAt) (As := [zI le, zI v, zI (mem 1 0), zR 54]) (rest := []) dd_X10_divideAt_26 lk_X10_232 mV_X4_reduceAt (zoP hqa).k (zoP hqa).i ⟨_, _, rfl⟩ rfl (by decide) (by decide) (Nat.le_of_ble_eq_true rfl) rfl (sp_X4_reduceAt  (zo a) le v (mem 1 0) 54 (zoP hqa) kk_54 (zlt rfl) (by omega) (by rw [e10]; exact hpr) (by omega) (fun t q1 q2 => by rw [hCa t q1 q2, e10]; exact hcra t q1 q2) (fun m1 f1 g1 => ?_))
  show zw_Wp l mm_X10_divideAt (zS L) 29 [some (zR 0), some (zI a), some (zI b), some (zI le), some (zI v)] [] m1 0 0 Q
  have h1 : m1 1 0 = mem 67 1 := by rw [g1 1 (by decide)]; exact e10
  have hCb1 : zRw m1 (zo b) (zco mem b) := hCb.keep (g1 _ (by omega))
  refine wp_aload_n dd_X10_divideAt_29 rfl ?_
  refine wp_getR dd_X10_divideAt_30 gf_X10_12 rfl kk_0 (by decide) (zlt rfl) rr_0_0 ?_
  refine wp_getR dd_X10_divideAt_33 gf_X10_135 rfl kk_1 (by decide) (zlt rfl) rr_1_2 ?_
  refine wp_iload_n dd_X10_divideAt_36 rfl ?_
  refine wp_aald dd_X10_divideAt_37 kk_2 (zlt rfl) (by omega) (by omega) (zr2 rfl hqb) ?_
  refine wp_iload_n dd_X10_divideAt_38 rfl ?_
  refine wp_iload dd_X10_divideAt_39 rfl ?_
  refine wp_aload_n dd_X10_divideAt_41 rfl ?_
  refine wp_getR dd_X10_divideAt_42 gf_X10_12 rfl kk_0 (by decide) (zlt rfl) rr_0_0 ?_
  refine wp_getZ 0 rfl dd_X10_divideAt_45 gf_X10_114 rfl kk_1 (by decide) (zlt rfl) ?_
  refine wp_aload_n dd_X10_divideAt_48 rfl ?_
  refine wp_getR dd_X10_divideAt_49 gf_X10_43 rfl kk_0 (by decide) (zlt rfl) rr_0_5 ?_
  refine wp_getR dd_X10_divideAt_52 gf_X10_236 rfl kk_53 (by decide) (zlt rfl) rr_53_1 ?_
  refine wp_callV (M' := mm_X4_reduceAt) (As := [zI le, zI v, zI (m1 1 0), zR 55]) (rest := []) dd_X10_divideAt_55 lk_X10_232 mV_X4_reduceAt (zoP hqb).k (zoP hqb).i ⟨_, _, rfl⟩ rfl (by decide) (by decide) (Nat.le_of_ble_eq_true rfl) rfl (sp_X4_reduceAt  (zo b) le v (m1 1 0) 55 (zoP hqb) kk_55 (zlt rfl) (by omega) (by rw [h1]; exact hpr) (by omega) (fun t q1 q2 => by rw [hCb1 t q1 q2, h1]; exact hcrb t q1 q2) (fun m2 f2 g2 => ?_))
  show zw_Wp l mm_X10_divideAt (zS L) 58 [some (zR 0), some (zI a), some (zI b), some (zI le), some (zI v)] [] m2 0 0 Q
  have h2 : m2 1 0 = mem 67 1 := by rw [g2 1 (by decide)]; exact h1
  have r54 : ∀ x : Int, 0 ≤ x → x < 5 → m2 54 x = zsa (zco mem a) le v (mem 67 1) x := fun x q1 q2 => by
    rw [g2 54 (by decide), f1 x q1 q2, e10]
    unfold zsa
    congr 1
    funext y
    exact hCa.pt le x y
  have r55 : ∀ x : Int, 0 ≤ x → x < 5 → m2 55 x = zsa (zco mem b) le v (mem 67 1) x := fun x q1 q2 => by
    rw [f2 x q1 q2, h1]
    unfold zsa
    congr 1
    funext y
    exact hCb1.pt le x y
  refine wp_aload_n dd_X10_divideAt_58 rfl ?_
  refine wp_getR dd_X10_divideAt_59 gf_X10_43 rfl kk_0 (by decide) (zlt rfl) rr_0_5 ?_
  refine wp_aload_n dd_X10_divideAt_62 rfl ?_
  refine wp_getR dd_X10_divideAt_63 gf_X10_12 rfl kk_0 (by decide) (zlt rfl) rr_0_0 ?_
  refine wp_getZ 0 rfl dd_X10_divideAt_66 gf_X10_114 rfl kk_1 (by decide) (zlt rfl) ?_
  refine wp_callV (M' := mm_X0_divideOn) (As := [zI (m2 1 0)]) (rest := []) dd_X10_divideAt_69 lk_X10_254 mV_X0_divideOn kk_53 (zlt rfl) ⟨_, _, rfl⟩ rfl (by decide) (by decide) (Nat.le_of_ble_eq_true rfl) rfl (sp_X0_divideOn  (m2 1 0) (by rw [h2]; exact hp) (fun x q1 q2 => by rw [r54 x q1 q2, h2]; exact zsa_rg (by omega) x) (fun x q1 q2 => by rw [r55 x q1 q2, h2]; exact zsa_rg (by omega) x) (fun m3 n3 A3 g3 => ?_))
  show zw_Wp l mm_X10_divideAt (zS L) 72 [some (zR 0), some (zI a), some (zI b), some (zI le), some (zI v)] [] m3 0 0 Q
  refine wp_return (st := []) dd_X10_divideAt_72 rfl ?_
  refine k m3 n3 (fun k9 hk9 => ?_) (fun x hx => ?_)
  · rw [← A3 k9 hk9, h2, zrs0_cg r54 r55]
  · rw [g3 x (by omega) (by omega) (by omega) (by omega), g2 x (by omega), g1 x (by omega)]

set_option maxRecDepth 100000 in
set_option maxHeartbeats 4000000 in
theorem sp_X10_tryAll {l : Launch} {L : Nat} {mem : zMem} {Q : zQ}  (a : Int) (b : Int) (wd : Int) (hI : zInv mem) (hab : (0 ≤ a ∧ a < mem 67 5) ∧ (0 ≤ b ∧ b < mem 67 5)) (k : ∀ (mem2 : zMem), (mem2 60 0 = zcX (zri (zco mem a) (zco mem b) (mem 67 1)) (mem 67 1) (mem 67 1).toNat ∧ mem2 60 1 = zcX (znz (zri (zco mem a) (zco mem b) (mem 67 1))) (mem 67 1) (mem 67 1).toNat ∧ (0 ≤ wd → mem2 60 2 = zRX (zri (zco mem a) (zco mem b) (mem 67 1)) (mem 67 1) (mem 67 1).toNat wd) ∧ mem2 60 3 = zbX (zri (zco mem a) (zco mem b) (mem 67 1)) 1 (mem 67 1) (mem 67 1).toNat ∧ mem2 60 4 = zbX (zri (zco mem a) (zco mem b) (mem 67 1)) 0 (mem 67 1) (mem 67 1).toNat) → (∀ x : Nat, (x < 60 ∨ 62 < x) → mem2 x = mem x) → Q none (zS L) mem2) : zw_Ok l mm_X10_tryAll [zR 0, zI a, zI b, zI wd] (zS L) mem Q := by
  refine zw_okA (fun hA => ?_)
  have rg_a : -2147483648 ≤ a ∧ a < 2147483648 := hA.2.1
  have rg_b : -2147483648 ≤ b ∧ b < 2147483648 := hA.2.2.1
  have rg_wd : -2147483648 ≤ wd ∧ wd < 2147483648 := hA.2.2.2.1
  refine zw_enter (by decide) (Nat.le_of_ble_eq_true rfl) rfl ?_
  show zw_Wp l mm_X10_tryAll (zS L) 0 [some (zR 0), some (zI a), some (zI b), some (zI wd)] [] mem 0 0 Q
  obtain ⟨I1, I2, I3, I4, I5, I6, I7⟩ := id hI
  have hp := I1.1
  have hpr := hp.rg
  have e10 := I1.2.1
  have hn5 := I1.2.2.1
  have e11 := I1.2.2.2.1
  have hqa : 0 ≤ a ∧ a < 6 := by omega
  have hqb : 0 ≤ b ∧ b < 6 := by omega
  have hTa := I1.T (q := a) (by omega) (by omega)
  have hTb := I1.T (q := b) (by omega) (by omega)
  have hCa := I1.C (q := a) (by omega) (by omega)
  have hCb := I1.C (q := b) (by omega) (by omega)
  have hcra := zco_rg hp hTa
  have hcrb := zco_rg hp hTb
  refine wp_aload_n dd_X10_tryAll_0 rfl ?_
  refine wp_getR dd_X10_tryAll_1 gf_X10_57 rfl kk_0 (by decide) (zlt rfl) rr_0_7 ?_
  refine wp_aload_n dd_X10_tryAll_4 rfl ?_
  refine wp_getR dd_X10_tryAll_5 gf_X10_12 rfl kk_0 (by decide) (zlt rfl) rr_0_0 ?_
  refine wp_getR dd_X10_tryAll_8 gf_X10_135 rfl kk_1 (by decide) (zlt rfl) rr_1_2 ?_
  refine wp_iload_n dd_X10_tryAll_11 rfl ?_
  refine wp_aald dd_X10_tryAll_12 kk_2 (zlt rfl) (by omega) (by omega) (zr2 rfl hqa) ?_
  refine wp_aload_n dd_X10_tryAll_13 rfl ?_
  refine wp_getR dd_X10_tryAll_14 gf_X10_12 rfl kk_0 (by decide) (zlt rfl) rr_0_0 ?_
  refine wp_getR dd_X10_tryAll_17 gf_X10_135 rfl kk_1 (by decide) (zlt rfl) rr_1_2 ?_
  refine wp_iload_n dd_X10_tryAll_20 rfl ?_
  refine wp_aald dd_X10_tryAll_21 kk_2 (zlt rfl) (by omega) (by omega) (zr2 rfl hqb) ?_
  refine wp_iload_n dd_X10_tryAll_22 rfl ?_
  refine wp_aload_n dd_X10_tryAll_23 rfl ?_
  refine wp_getR dd_X10_tryAll_24 gf_X10_12 rfl kk_0 (by decide) (zlt rfl) rr_0_0 ?_
  refine wp_getZ 0 rfl dd_X10_tryAll_27 gf_X10_114 rfl kk_1 (by decide) (zlt rfl) ?_
  refine wp_callV (M' := mm_X7_tryAll) (As := [zR (zo a), zR (zo b), zI wd, zI (mem 1 0)]) (rest := []) dd_X10_tryAll_30 lk_X10_363 mV_X7_tryAll kk_60 (zlt rfl) ⟨_, _, rfl⟩ rfl (by decide) (by decide) (Nat.le_of_ble_eq_true rfl) rfl (sp_X7_tryAll (zco mem a) (zco mem b) (zo a) (zo b) wd (mem 1 0) (zoP hqa) (zoP hqb) hCa hCb (by rw [e10]; exact hpr) (by rw [e10]; exact hcra) (by rw [e10]; exact hcrb) (fun m1 f1 g1 => ?_))
  show zw_Wp l mm_X10_tryAll (zS L) 33 [some (zR 0), some (zI a), some (zI b), some (zI wd)] [] m1 0 0 Q
  refine wp_return (st := []) dd_X10_tryAll_33 rfl ?_
  rw [e10] at f1
  exact k m1 f1 (fun x hx => g1 x (by omega) (by omega) (by omega))


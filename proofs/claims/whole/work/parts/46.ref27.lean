/-! ===== reading: letters X, places a ===== -/
def zpN (X : Int → Int) (a : Int) : Int := if 48 ≤ X a ∧ X a ≤ 57 then (if 48 ≤ X (a + 1) ∧ X (a + 1) ≤ 57 then a + 2 else a + 1) else a
def zvN (X : Int → Int) (a : Int) : Int := if 48 ≤ X a ∧ X a ≤ 57 then (if 48 ≤ X (a + 1) ∧ X (a + 1) ≤ 57 then 10 * (X a - 48) + X (a + 1) - 48 else X a - 48) else 1
def zrv (X : Int → Int) (a : Int) : Int := if X (a + 1) = 94 then (if 49 ≤ X (a + 2) ∧ X (a + 2) ≤ 52 then X (a + 2) - 48 else -9) else 1
def zrp (X : Int → Int) (a : Int) : Int := if X (a + 1) = 94 then (if 49 ≤ X (a + 2) ∧ X (a + 2) ≤ 52 then a + 3 else a + 2) else a + 1
def zvP (X : Int → Int) (c a : Int) : Int := if X a = c then zrv X a else 0
def zpP (X : Int → Int) (c a : Int) : Int := if X a = c then zrp X a else a
def zt2 (X : Int → Int) (a : Int) : Int := zpP X 120 (zpN X a)
def zt3 (X : Int → Int) (a : Int) : Int := zpP X 121 (zt2 X a)
def zti (X : Int → Int) (a : Int) : Int := zvP X 120 (zpN X a)
def ztj (X : Int → Int) (a : Int) : Int := zvP X 121 (zt2 X a)
def zte (X : Int → Int) (a : Int) : Int := if zti X a < 0 then zt2 X a else zt3 X a
def zto (X : Int → Int) (a : Int) : Int := if 0 ≤ zti X a ∧ 0 ≤ ztj X a ∧ a < zt3 X a then 1 else 0
theorem zpN_c (X : Int → Int) (a : Int) : (zpN X a = a ∧ zvN X a = 1 ∧ ¬ (48 ≤ X a ∧ X a ≤ 57)) ∨ ((zpN X a = a + 1 ∨ zpN X a = a + 2) ∧ 0 ≤ zvN X a ∧ zvN X a ≤ 99) := by
  unfold zpN zvN
  split
  · split <;> omega
  · omega
theorem zrv_c (X : Int → Int) (a : Int) : (a + 1 ≤ zrp X a ∧ zrp X a ≤ a + 3) ∧ (zrv X a = -9 ∨ (1 ≤ zrv X a ∧ zrv X a ≤ 4)) := by
  unfold zrp zrv
  split
  · split <;> omega
  · omega
theorem zvP_c (X : Int → Int) (c a : Int) : (a ≤ zpP X c a ∧ zpP X c a ≤ a + 3) ∧ (zvP X c a = -9 ∨ (0 ≤ zvP X c a ∧ zvP X c a ≤ 4)) := by
  have := zrv_c X a
  unfold zpP zvP
  split <;> omega
def zad (S : Int → Int) (k v : Int) : Int → Int := fun t => if t = k then S t + v else S t
/-- from the term at a on, by sign s: right, the place, the sums -/
def zrun (X : Int → Int) (N : Int) : Nat → Int → Int → (Int → Int) → Int × Int × (Int → Int)
  | 0, a, _, S => (0, a, S)
  | F + 1, a, s, S => if zto X a = 0 then (0, zte X a, S) else if X (zt3 X a) = 43 ∨ X (zt3 X a) = 45 then zrun X N F (zt3 X a + 1) (if X (zt3 X a) = 43 then 1 else -1) (zad S (5 * zti X a + ztj X a) (s * zvN X a)) else (if zt3 X a = N then 1 else 0, zt3 X a, zad S (5 * zti X a + ztj X a) (s * zvN X a))
def zrst (X : Int → Int) (N : Int) (F : Nat) (e : Int) (S : Int → Int) : Int × Int × (Int → Int) := if X e = 43 ∨ X e = 45 then zrun X N F (e + 1) (if X e = 43 then 1 else -1) S else (if e = N then 1 else 0, e, S)
theorem zrun_no {X : Int → Int} {N : Int} {F : Nat} {a s : Int} {S : Int → Int} (h : zto X a = 0) : zrun X N (F + 1) a s S = (0, zte X a, S) := by
  rw [zrun, if_pos h]
theorem zrun_yes {X : Int → Int} {N : Int} {F : Nat} {a s : Int} {S : Int → Int} (h : zto X a ≠ 0) : zrun X N (F + 1) a s S = zrst X N F (zt3 X a) (zad S (5 * zti X a + ztj X a) (s * zvN X a)) := by
  rw [zrun, if_neg h]
  rfl
def zall (X : Int → Int) (N : Int) : Int × Int × (Int → Int) := zrun X N 80 (if X 0 = 45 then 1 else 0) (if X 0 = 45 then -1 else 1) (fun _ => 0)
theorem zto_c {X : Int → Int} {a : Int} (h : zto X a ≠ 0) : zto X a = 1 ∧ (0 ≤ zti X a ∧ zti X a ≤ 4) ∧ (0 ≤ ztj X a ∧ ztj X a ≤ 4) ∧ a < zt3 X a ∧ zte X a = zt3 X a ∧ (0 ≤ zvN X a ∧ zvN X a ≤ 99) := by
  have h1 := zvP_c X 120 (zpN X a)
  have h2 := zvP_c X 121 (zt2 X a)
  have h3 := zpN_c X a
  unfold zto at h ⊢
  unfold zte
  by_cases hc : 0 ≤ zti X a ∧ 0 ≤ ztj X a ∧ a < zt3 X a
  · rw [if_pos hc, if_neg (by omega)]
    refine ⟨rfl, ⟨hc.1, ?_⟩, ⟨hc.2.1, ?_⟩, hc.2.2, rfl, by omega⟩
    · have := h1.2; unfold zti at hc ⊢; omega
    · have := h2.2; unfold ztj at hc ⊢; omega
  · rw [if_neg hc] at h; omega
/-- the place alone moved -/
def zA2 (m m2 : zMem) (b : Int) : Prop := m2 67 12 = b ∧ (∀ s : Int, s ≠ 12 → m2 67 s = m 67 s) ∧ ∀ q : Nat, q ≠ 67 → m2 q = m q
theorem zA2.rf {m : zMem} {a : Int} (h : m 67 12 = a) : zA2 m m a := ⟨h, fun _ _ => rfl, fun _ _ => rfl⟩
theorem zA2.put {m m2 : zMem} {b : Int} (h : zA2 m m2 b) (c : Int) : zA2 m (zu m2 67 12 c) c := ⟨zu_s, fun s hs => by rw [zu_n (Or.inr hs)]; exact h.2.1 s hs, fun q hq => by rw [zu_row hq]; exact h.2.2 q hq⟩
theorem zA2.tr {m m1 m2 : zMem} {a b : Int} (h : zA2 m m1 a) (k : zA2 m1 m2 b) : zA2 m m2 b := ⟨k.1, fun s hs => (k.2.1 s hs).trans (h.2.1 s hs), fun q hq => (k.2.2 q hq).trans (h.2.2 q hq)⟩
theorem zA2.nx {m m2 : zMem} {b : Int} (h : zA2 m m2 b) {X : Int → Int} (k : znx m = X) : znx m2 = X := by
  rw [← k]
  funext i
  unfold znx
  rw [h.2.1 11 (by decide), h.2.2 74 (by decide)]
theorem zA2.n {m m2 : zMem} {b : Int} (h : zA2 m m2 b) : m2 67 11 = m 67 11 := h.2.1 11 (by decide)
theorem zA2.p {m m2 : zMem} {b : Int} (h : zA2 m m2 b) : m2 67 1 = m 67 1 := h.2.1 1 (by decide)
theorem znx_lt {m : zMem} {X : Int → Int} {a c : Int} (h : znx m = X) (hc : X a = c) (h0 : 0 ≤ c) : a < m 67 11 := by
  rw [← h] at hc
  unfold znx at hc
  by_cases q : a < m 67 11
  · exact q
  · rw [if_neg q] at hc; omega
theorem sp_X11_next2 {l : Launch} {L : Nat} {mem : zMem} {Q : zQ} (X : Int → Int) (a : Int) (hX : znx mem = X) (hAt : mem 67 12 = a) (ha : 0 ≤ a ∧ a ≤ 200) (ht : mem 67 11 ≤ 72) (k : Q (some (zI (X a))) (zS L) mem) : zw_Ok l mm_X11_next [zR 67] (zS L) mem Q := by
  subst hX; subst hAt
  exact sp_X11_next ha.1 ht k

set_option maxRecDepth 100000 in
set_option maxHeartbeats 4000000 in
theorem sp_X11_isDigit {l : Launch} {L : Nat} {mem : zMem} {Q : zQ} (X : Int → Int) (a : Int)  (hX : znx mem = X) (hAt : mem 67 12 = a) (ha : 0 ≤ a ∧ a ≤ 200) (ht : mem 67 11 ≤ 72) (k : Q (some (zI (if 48 ≤ X a ∧ X a ≤ 57 then 1 else 0))) (zS L) mem) : zw_Ok l mm_X11_isDigit [zR 67] (zS L) mem Q := by
  refine zw_enter (by decide) (Nat.le_of_ble_eq_true rfl) rfl ?_
  show zw_Wp l mm_X11_isDigit (zS L) 0 [some (zR 67)] [] mem 0 0 Q
  have hA2 := zA2.rf hAt
  refine wp_aload_n dd_X11_isDigit_0 rfl ?_
  refine wp_callV (M' := mm_X11_next) (As := []) (rest := []) dd_X11_isDigit_1 lk_X11_129 mV_X11_next kk_67 (zlt rfl) ⟨_, _, rfl⟩ rfl (by decide) (by decide) (Nat.le_of_ble_eq_true rfl) rfl (sp_X11_next2 X (a)  (hA2.nx hX) hA2.1 (by omega) (by rw [hA2.n]; exact ht) ?_)
  show zw_Wp l mm_X11_isDigit (zS L) 4 [some (zR 67)] [zI (X a)] mem 0 0 Q
  refine wp_bipush dd_X11_isDigit_4 (by decide) ?_
  refine wp_bipush dd_X11_isDigit_6 (by decide) ?_
  refine wp_callS (M' := mm_X11_isIn) (As := [zI (X a), zI 48, zI 57]) (rest := []) dd_X11_isDigit_8 lk_X11_21 mS_X11_isIn rfl (by decide) (by decide) (Nat.le_of_ble_eq_true rfl) rfl (sp_X11_isIn  (X a) 48 57  ?_)
  show zw_Wp l mm_X11_isDigit (zS L) 11 [some (zR 67)] [zI (if 48 ≤ (X a) ∧ (X a) ≤ 57 then 1 else 0)] mem 0 0 Q
  refine wp_zreturn (st := []) dd_X11_isDigit_11 rfl (by split <;> omega) ?_
  refine zq_I ?_ ?_ k
  · first | rfl | omega | (rw [if_pos (by omega)]) | (rw [if_neg (by omega)])
  · rfl

set_option maxRecDepth 100000 in
set_option maxHeartbeats 4000000 in
theorem sp_X11_readsPower {l : Launch} {L : Nat} {mem : zMem} {Q : zQ} (X : Int → Int) (a : Int)  (hX : znx mem = X) (hAt : mem 67 12 = a) (ha : 0 ≤ a ∧ a ≤ 150) (ht : mem 67 11 ≤ 72) (k : ∀ (r : Int) (mem2 : zMem), (r = zrv X a) → (zA2 mem mem2 (zrp X a)) → Q (some (zI r)) (zS L) mem2) : zw_Ok l mm_X11_readsPower [zR 67] (zS L) mem Q := by
  refine zw_enter (by decide) (Nat.le_of_ble_eq_true rfl) rfl ?_
  show zw_Wp l mm_X11_readsPower (zS L) 0 [some (zR 67), none] [] mem 0 0 Q
  have hA2 := zA2.rf hAt
  have hB2 := hA2.put (a + 1)
  have hC2 := hB2.put (a + 2)
  have hD2 := hC2.put (a + 3)
  refine wp_aload_n dd_X11_readsPower_0 rfl ?_
  refine wp_dup dd_X11_readsPower_1 rfl ?_
  refine wp_getZ 12 rfl dd_X11_readsPower_2 gf_X11_126 rfl kk_67 (by decide) (zlt rfl) ?_
  rw [show (mem 67 12 : Int) = a from hAt]
  refine wp_iconst dd_X11_readsPower_5 (zr_lit rfl) ?_
  refine wp_iaddC dd_X11_readsPower_6 (by omega) ?_
  refine wp_putzI 12 rfl dd_X11_readsPower_7 pf_X11_126 rfl kk_67 (by decide) (zlt rfl) ?_
  refine wp_aload_n dd_X11_readsPower_10 rfl ?_
  refine wp_callV (M' := mm_X11_next) (As := []) (rest := []) dd_X11_readsPower_11 lk_X11_129 mV_X11_next kk_67 (zlt rfl) ⟨_, _, rfl⟩ rfl (by decide) (by decide) (Nat.le_of_ble_eq_true rfl) rfl (sp_X11_next2 X (a + 1)  (hB2.nx hX) hB2.1 (by omega) (by rw [hB2.n]; exact ht) ?_)
  show zw_Wp l mm_X11_readsPower (zS L) 14 [some (zR 67), none] [zI (X (a + 1))] (zu mem 67 12 (a + 1)) 0 0 Q
  refine wp_bipush dd_X11_readsPower_14 (by decide) ?_
  refine wp_icmp_eq (tgt := 21) dd_X11_readsPower_16 (by decide) (fun c16_1 => ?_) (fun c16_1 => ?_)
  · skip
    refine wp_aload_n dd_X11_readsPower_21 rfl ?_
    refine wp_dup dd_X11_readsPower_22 rfl ?_
    refine wp_getV 12 (v := a + 1) rfl (by rw [zu_s]) dd_X11_readsPower_23 gf_X11_126 rfl kk_67 (by decide) (zlt rfl) ?_
    refine wp_iconst dd_X11_readsPower_26 (zr_lit rfl) ?_
    refine wp_iaddC dd_X11_readsPower_27 (by omega) ?_
    refine wp_putzI 12 rfl dd_X11_readsPower_28 pf_X11_126 rfl kk_67 (by decide) (zlt rfl) ?_
    rw [show (a + 1 + 1 : Int) = a + 2 by omega]
    refine wp_aload_n dd_X11_readsPower_31 rfl ?_
    refine wp_callV (M' := mm_X11_next) (As := []) (rest := []) dd_X11_readsPower_32 lk_X11_129 mV_X11_next kk_67 (zlt rfl) ⟨_, _, rfl⟩ rfl (by decide) (by decide) (Nat.le_of_ble_eq_true rfl) rfl (sp_X11_next2 X (a + 2)  (hC2.nx hX) hC2.1 (by omega) (by rw [hC2.n]; exact ht) ?_)
    show zw_Wp l mm_X11_readsPower (zS L) 35 [some (zR 67), none] [zI (X (a + 2))] (zu (zu mem 67 12 (a + 1)) 67 12 (a + 2)) 0 0 Q
    refine wp_bipush dd_X11_readsPower_35 (by decide) ?_
    refine wp_bipush dd_X11_readsPower_37 (by decide) ?_
    refine wp_callS (M' := mm_X11_isIn) (As := [zI (X (a + 2)), zI 49, zI 52]) (rest := []) dd_X11_readsPower_39 lk_X11_21 mS_X11_isIn rfl (by decide) (by decide) (Nat.le_of_ble_eq_true rfl) rfl (sp_X11_isIn  (X (a + 2)) 49 52  ?_)
    show zw_Wp l mm_X11_readsPower (zS L) 42 [some (zR 67), none] [zI (if 49 ≤ (X (a + 2)) ∧ (X (a + 2)) ≤ 52 then 1 else 0)] (zu (zu mem 67 12 (a + 1)) 67 12 (a + 2)) 0 0 Q
    refine wp_if_ne (tgt := 48) dd_X11_readsPower_42 (by decide) (fun c42_2 => ?_) (fun c42_2 => ?_)
    · skip
      refine wp_aload_n dd_X11_readsPower_48 rfl ?_
      refine wp_callV (M' := mm_X11_next) (As := []) (rest := []) dd_X11_readsPower_49 lk_X11_129 mV_X11_next kk_67 (zlt rfl) ⟨_, _, rfl⟩ rfl (by decide) (by decide) (Nat.le_of_ble_eq_true rfl) rfl (sp_X11_next2 X (a + 2)  (hC2.nx hX) hC2.1 (by omega) (by rw [hC2.n]; exact ht) ?_)
      show zw_Wp l mm_X11_readsPower (zS L) 52 [some (zR 67), none] [zI (X (a + 2))] (zu (zu mem 67 12 (a + 1)) 67 12 (a + 2)) 0 0 Q
      refine wp_bipush dd_X11_readsPower_52 (by decide) ?_
      refine wp_isubC dd_X11_readsPower_54 (by omega) ?_
      refine wp_istore_n (ls2 := [some (zR 67), some (zI ((X (a + 2)) - 48))]) dd_X11_readsPower_55 rfl (by decide) rfl ?_
      refine wp_aload_n dd_X11_readsPower_56 rfl ?_
      refine wp_dup dd_X11_readsPower_57 rfl ?_
      refine wp_getV 12 (v := a + 2) rfl (by rw [zu_s]) dd_X11_readsPower_58 gf_X11_126 rfl kk_67 (by decide) (zlt rfl) ?_
      refine wp_iconst dd_X11_readsPower_61 (zr_lit rfl) ?_
      refine wp_iaddC dd_X11_readsPower_62 (by omega) ?_
      refine wp_putzI 12 rfl dd_X11_readsPower_63 pf_X11_126 rfl kk_67 (by decide) (zlt rfl) ?_
      rw [show (a + 2 + 1 : Int) = a + 3 by omega]
      refine wp_iload_n dd_X11_readsPower_66 rfl ?_
      refine wp_ireturn (st := []) dd_X11_readsPower_67 rfl ?_
      refine k _ _ ?_ ?_
      · unfold zrv; rw [if_pos (by assumption), if_pos (by omega)]
      · unfold zrp; rw [if_pos (by assumption), if_pos (by omega)]; exact hD2
    · skip
      refine wp_bipush dd_X11_readsPower_45 (by decide) ?_
      refine wp_ireturn (st := []) dd_X11_readsPower_47 rfl ?_
      refine k _ _ ?_ ?_
      · unfold zrv; rw [if_pos (by assumption), if_neg (by omega)]
      · unfold zrp; rw [if_pos (by assumption), if_neg (by omega)]; exact hC2
  · skip
    refine wp_iconst dd_X11_readsPower_19 (zr_lit rfl) ?_
    refine wp_ireturn (st := []) dd_X11_readsPower_20 rfl ?_
    refine k _ _ ?_ ?_
    · unfold zrv; rw [if_neg (by assumption)]
    · unfold zrp; rw [if_neg (by assumption)]; exact hB2

set_option maxRecDepth 100000 in
set_option maxHeartbeats 4000000 in
theorem sp_X11_readsTerm {l : Launch} {L : Nat} {mem : zMem} {Q : zQ} (X : Int → Int) (a : Int) (ng : Int) (hp : zPr (mem 67 1)) (hX : znx mem = X) (hAt : mem 67 12 = a) (ha : 0 ≤ a ∧ a ≤ 100) (ht : mem 67 11 ≤ 72) (hng : ng = 0 ∨ ng = 1) (hrd : ∀ t : Int, 0 ≤ t → t < 25 → 0 ≤ mem 75 t ∧ mem 75 t < mem 67 1) (k : ∀ (r : Int) (mem2 : zMem), (r = zto X a) → (mem2 67 12 = zte X a) → (∀ s : Int, s ≠ 12 → mem2 67 s = mem 67 s) → (∀ t : Int, mem2 75 t = if zto X a = 1 ∧ t = 5 * zti X a + ztj X a then (mem 75 t + (if ng = 0 then 1 else -1) * zvN X a) % mem 67 1 else mem 75 t) → (∀ q : Nat, q ≠ 67 → q ≠ 75 → mem2 q = mem q) → Q (some (zI r)) (zS L) mem2) : zw_Ok l mm_X11_readsTerm [zR 67, zI ng] (zS L) mem Q := by
  refine zw_okA (fun hA => ?_)
  have rg_ng : -2147483648 ≤ ng ∧ ng < 2147483648 := hA.2.1
  refine zw_enter (by decide) (Nat.le_of_ble_eq_true rfl) rfl ?_
  show zw_Wp l mm_X11_readsTerm (zS L) 0 [some (zR 67), some (zI ng), none, none, none, none] [] mem 0 0 Q
  have hpr := hp.rg
  have hA2 := zA2.rf hAt
  have hB2 := hA2.put (a + 1)
  have hC2 := hB2.put (a + 2)
  have cN := zpN_c X a
  have c1 := zvP_c X 120 (zpN X a)
  have c2 := zvP_c X 121 (zt2 X a)
  have d1 : zvP X 120 (zpN X a) = zti X a := rfl
  have d2 : zpP X 120 (zpN X a) = zt2 X a := rfl
  have d3 : zvP X 121 (zt2 X a) = ztj X a := rfl
  have d4 : zpP X 121 (zt2 X a) = zt3 X a := rfl
  rw [d1, d2] at c1
  rw [d3, d4] at c2
  refine wp_iconst dd_X11_readsTerm_0 (zr_lit rfl) ?_
  refine wp_istore_n (ls2 := [some (zR 67), some (zI ng), some (zI 1), none, none, none]) dd_X11_readsTerm_1 rfl (by decide) rfl ?_
  refine wp_aload_n dd_X11_readsTerm_2 rfl ?_
  refine wp_callV (M' := mm_X11_isDigit) (As := []) (rest := []) dd_X11_readsTerm_3 lk_X11_133 mV_X11_isDigit kk_67 (zlt rfl) ⟨_, _, rfl⟩ rfl (by decide) (by decide) (Nat.le_of_ble_eq_true rfl) rfl (sp_X11_isDigit X (a)  (hA2.nx hX) hA2.1 (by omega) (by rw [hA2.n]; exact ht) ?_)
  show zw_Wp l mm_X11_readsTerm (zS L) 6 [some (zR 67), some (zI ng), some (zI 1), none, none, none] [zI (if 48 ≤ X a ∧ X a ≤ 57 then 1 else 0)] mem 0 0 Q
  have ih59 : ∀ (v : Int) (d : Int) (mm : zMem), (v = zvN X a) → ((d = 0 ∧ zpN X a = a) ∨ (d = 1 ∧ a < zpN X a)) → (zA2 mem mm (zpN X a)) → (0 : Int) < 1 → zw_Wp l mm_X11_readsTerm (zS L) 59 [some (zR 67), some (zI ng), some (zI v), some (zI d), none, none] [] mm 0 0 Q := by
    intro v d mm hv hd hM hone
    
    refine wp_iconst dd_X11_readsTerm_59 (zr_lit rfl) ?_
    refine wp_istore (ls2 := [some (zR 67), some (zI ng), some (zI v), some (zI d), some (zI 0), none]) dd_X11_readsTerm_60 rfl (by decide) rfl ?_
    refine wp_iconst dd_X11_readsTerm_62 (zr_lit rfl) ?_
    refine wp_istore (ls2 := [some (zR 67), some (zI ng), some (zI v), some (zI d), some (zI 0), some (zI 0)]) dd_X11_readsTerm_63 rfl (by decide) rfl ?_
    refine wp_aload_n dd_X11_readsTerm_65 rfl ?_
    refine wp_callV (M' := mm_X11_next) (As := []) (rest := []) dd_X11_readsTerm_66 lk_X11_129 mV_X11_next kk_67 (zlt rfl) ⟨_, _, rfl⟩ rfl (by decide) (by decide) (Nat.le_of_ble_eq_true rfl) rfl (sp_X11_next2 X (zpN X a)  (hM.nx hX) hM.1 (by omega) (by rw [hM.n]; exact ht) ?_)
    show zw_Wp l mm_X11_readsTerm (zS L) 69 [some (zR 67), some (zI ng), some (zI v), some (zI d), some (zI 0), some (zI 0)] [zI (X (zpN X a))] mm 0 0 Q
    refine wp_bipush dd_X11_readsTerm_69 (by decide) ?_
    have ih89 : ∀ (d : Int) (i : Int) (mm : zMem), (i = zti X a ∧ 0 ≤ i) → ((d = 0 ∧ zt2 X a = a) ∨ (d = 1 ∧ a < zt2 X a)) → (zA2 mem mm (zt2 X a)) → (0 : Int) < 1 → zw_Wp l mm_X11_readsTerm (zS L) 89 [some (zR 67), some (zI ng), some (zI v), some (zI d), some (zI i), some (zI 0)] [] mm 0 0 Q := by
      intro d i mm hi hd hM hone
      refine wp_aload_n dd_X11_readsTerm_89 rfl ?_
      refine wp_callV (M' := mm_X11_next) (As := []) (rest := []) dd_X11_readsTerm_90 lk_X11_129 mV_X11_next kk_67 (zlt rfl) ⟨_, _, rfl⟩ rfl (by decide) (by decide) (Nat.le_of_ble_eq_true rfl) rfl (sp_X11_next2 X (zt2 X a)  (hM.nx hX) hM.1 (by omega) (by rw [hM.n]; exact ht) ?_)
      show zw_Wp l mm_X11_readsTerm (zS L) 93 [some (zR 67), some (zI ng), some (zI v), some (zI d), some (zI i), some (zI 0)] [zI (X (zt2 X a))] mm 0 0 Q
      refine wp_bipush dd_X11_readsTerm_93 (by decide) ?_
      have ih113 : ∀ (d : Int) (j : Int) (mm : zMem), (j = ztj X a ∧ 0 ≤ j) → ((d = 0 ∧ zt3 X a = a) ∨ (d = 1 ∧ a < zt3 X a)) → (zA2 mem mm (zt3 X a)) → (0 : Int) < 1 → zw_Wp l mm_X11_readsTerm (zS L) 113 [some (zR 67), some (zI ng), some (zI v), some (zI d), some (zI i), some (zI j)] [] mm 0 0 Q := by
        intro d j mm hj hd hM hone
        refine wp_iload_n dd_X11_readsTerm_113 rfl ?_
        refine wp_if_ne (tgt := 119) dd_X11_readsTerm_114 (by decide) (fun c114_1 => ?_) (fun c114_1 => ?_)
        · skip
          have hm1 : mm 67 1 = mem 67 1 := hM.p
          have hm75 : mm 75 = mem 75 := hM.2.2 75 (by decide)
          have hr9 := hrd (5 * i + j) (by omega) (by omega)
          rw [← hm75] at hr9
          have hok : zto X a = 1 := by unfold zto; rw [if_pos (by omega)]
          refine wp_aload_n dd_X11_readsTerm_119 rfl ?_
          refine wp_getR dd_X11_readsTerm_120 gf_X11_49 rfl kk_67 (by decide) (zlt rfl) rr_67_10 ?_
          refine wp_iconst dd_X11_readsTerm_123 (zr_lit rfl) ?_
          refine wp_iload dd_X11_readsTerm_124 rfl ?_
          refine wp_imulC dd_X11_readsTerm_126 (by omega) ?_
          refine wp_iload dd_X11_readsTerm_127 rfl ?_
          refine wp_iaddC dd_X11_readsTerm_129 (by omega) ?_
          refine wp_aload_n dd_X11_readsTerm_130 rfl ?_
          refine wp_aload_n dd_X11_readsTerm_131 rfl ?_
          refine wp_getR dd_X11_readsTerm_132 gf_X11_49 rfl kk_67 (by decide) (zlt rfl) rr_67_10 ?_
          refine wp_iconst dd_X11_readsTerm_135 (zr_lit rfl) ?_
          refine wp_iload dd_X11_readsTerm_136 rfl ?_
          refine wp_imulC dd_X11_readsTerm_138 (by omega) ?_
          refine wp_iload dd_X11_readsTerm_139 rfl ?_
          refine wp_iaddC dd_X11_readsTerm_141 (by omega) ?_
          refine wp_iald dd_X11_readsTerm_142 kk_75 (zlt rfl) (by omega) (by omega) ?_
          refine wp_iload_n dd_X11_readsTerm_143 rfl ?_
          refine wp_if_eq (tgt := 152) dd_X11_readsTerm_144 (by decide) (fun c144_2 => ?_) (fun c144_2 => ?_)
          · skip
            refine wp_iload_n dd_X11_readsTerm_152 rfl ?_
            refine wp_iaddC dd_X11_readsTerm_153 (by omega) ?_
            refine wp_callV (M' := mm_X11_rest) (As := [zI ((mm 75 ((5 * i) + j)) + v)]) (rest := [zI ((5 * i) + j), zR 75]) dd_X11_readsTerm_154 lk_X11_13 mV_X11_rest kk_67 (zlt rfl) ⟨_, _, rfl⟩ rfl (by decide) (by decide) (Nat.le_of_ble_eq_true rfl) rfl (sp_X11_rest  ((mm 75 ((5 * i) + j)) + v) (by rw [hm1]; exact hp) ?_)
            show zw_Wp l mm_X11_readsTerm (zS L) 157 [some (zR 67), some (zI ng), some (zI v), some (zI d), some (zI i), some (zI j)] [zI (((mm 75 ((5 * i) + j)) + v) % mm 67 1), zI ((5 * i) + j), zR 75] mm 0 0 Q
            refine wp_iast dd_X11_readsTerm_157 kk_75 (zlt rfl) (by omega) (by omega) ?_
            refine wp_iconst dd_X11_readsTerm_158 (zr_lit rfl) ?_
            refine wp_zreturn (st := []) dd_X11_readsTerm_159 rfl (by omega) ?_
            refine k _ _ ?_ ?_ ?_ ?_ ?_
            · exact hok.symm
            · rw [zu_row (by decide), hM.1]; unfold zte; rw [if_neg (by omega)]
            · intro s9 hs9; rw [zu_row (by decide)]; exact hM.2.1 s9 hs9
            · intro t
              by_cases htt : t = 5 * i + j
              · subst htt
                rw [zu_s, if_pos ⟨hok, by omega⟩, hm75, hm1]
                congr 1
                first | (rw [if_pos (by assumption)]; omega) | (rw [if_neg (by assumption)]; omega)
              · rw [zu_n (Or.inr htt), if_neg (by omega), hm75]
            · intro q q1 q2; rw [zu_row q2]; exact hM.2.2 q q1
          · skip
            refine wp_iload_n dd_X11_readsTerm_147 rfl ?_
            refine wp_inegC dd_X11_readsTerm_148 (by omega) ?_
            refine wp_goto (tgt := 153) dd_X11_readsTerm_149 (by decide) ?_
            refine wp_iaddC dd_X11_readsTerm_153 (by omega) ?_
            refine wp_callV (M' := mm_X11_rest) (As := [zI ((mm 75 ((5 * i) + j)) + (-v))]) (rest := [zI ((5 * i) + j), zR 75]) dd_X11_readsTerm_154 lk_X11_13 mV_X11_rest kk_67 (zlt rfl) ⟨_, _, rfl⟩ rfl (by decide) (by decide) (Nat.le_of_ble_eq_true rfl) rfl (sp_X11_rest  ((mm 75 ((5 * i) + j)) + (-v)) (by rw [hm1]; exact hp) ?_)
            show zw_Wp l mm_X11_readsTerm (zS L) 157 [some (zR 67), some (zI ng), some (zI v), some (zI d), some (zI i), some (zI j)] [zI (((mm 75 ((5 * i) + j)) + (-v)) % mm 67 1), zI ((5 * i) + j), zR 75] mm 0 0 Q
            refine wp_iast dd_X11_readsTerm_157 kk_75 (zlt rfl) (by omega) (by omega) ?_
            refine wp_iconst dd_X11_readsTerm_158 (zr_lit rfl) ?_
            refine wp_zreturn (st := []) dd_X11_readsTerm_159 rfl (by omega) ?_
            refine k _ _ ?_ ?_ ?_ ?_ ?_
            · exact hok.symm
            · rw [zu_row (by decide), hM.1]; unfold zte; rw [if_neg (by omega)]
            · intro s9 hs9; rw [zu_row (by decide)]; exact hM.2.1 s9 hs9
            · intro t
              by_cases htt : t = 5 * i + j
              · subst htt
                rw [zu_s, if_pos ⟨hok, by omega⟩, hm75, hm1]
                congr 1
                first | (rw [if_pos (by assumption)]; omega) | (rw [if_neg (by assumption)]; omega)
              · rw [zu_n (Or.inr htt), if_neg (by omega), hm75]
            · intro q q1 q2; rw [zu_row q2]; exact hM.2.2 q q1
        · skip
          refine wp_iconst dd_X11_readsTerm_117 (zr_lit rfl) ?_
          refine wp_zreturn (st := []) dd_X11_readsTerm_118 rfl (by omega) ?_
          refine k _ _ ?_ ?_ ?_ ?_ ?_
          · unfold zto; rw [if_neg (by omega)]
          · rw [hM.1]; unfold zte; first | (rw [if_pos (by omega)]) | (rw [if_neg (by omega)])
          · exact hM.2.1
          · intro t; rw [hM.2.2 75 (by decide), if_neg (fun q => by have q1 := q.1; unfold zto at q1; rw [if_neg (by omega)] at q1; omega)]
          · intro q q1 q2; exact hM.2.2 q q1
      refine wp_icmp_ne (tgt := 113) dd_X11_readsTerm_95 (by decide) (fun c95_3 => ?_) (fun c95_3 => ?_)
      · skip
        refine ih113 d 0 mm ?_ ?_ ?_ ?_
        · first | (refine ⟨fp.trans ?_, by omega⟩; show zrv X _ = zvP X 121 (zt2 X a); unfold zvP; rw [if_pos (by assumption)]) | (show _ = zvP X 121 (zt2 X a) ∧ _; unfold zvP; rw [if_neg (by assumption)]; omega)
        · have q9 := zrv_c X (zt2 X a)
          show (_ ∧ zpP X 121 (zt2 X a) = a) ∨ (_ ∧ a < zpP X 121 (zt2 X a)); unfold zpP; first | (rw [if_pos (by assumption)]; omega) | (rw [if_neg (by assumption)]; omega)
        · show zA2 mem _ (zpP X 121 (zt2 X a)); unfold zpP; first | (rw [if_pos (by assumption)]; exact hM.tr gp) | (rw [if_neg (by assumption)]; exact hM)
        · omega
      · skip
        refine wp_iconst dd_X11_readsTerm_98 (zr_lit rfl) ?_
        refine wp_istore_n (ls2 := [some (zR 67), some (zI ng), some (zI v), some (zI 1), some (zI i), some (zI 0)]) dd_X11_readsTerm_99 rfl (by decide) rfl ?_
        refine wp_aload_n dd_X11_readsTerm_100 rfl ?_
        refine wp_callV (M' := mm_X11_readsPower) (As := []) (rest := []) dd_X11_readsTerm_101 lk_X11_137 mV_X11_readsPower kk_67 (zlt rfl) ⟨_, _, rfl⟩ rfl (by decide) (by decide) (Nat.le_of_ble_eq_true rfl) rfl (sp_X11_readsPower X (zt2 X a)  (hM.nx hX) hM.1 (by omega) (by rw [hM.n]; exact ht) (fun rp mp fp gp => ?_))
        show zw_Wp l mm_X11_readsTerm (zS L) 104 [some (zR 67), some (zI ng), some (zI v), some (zI 1), some (zI i), some (zI 0)] [zI rp] mp 0 0 Q
        refine wp_istore (ls2 := [some (zR 67), some (zI ng), some (zI v), some (zI 1), some (zI i), some (zI rp)]) dd_X11_readsTerm_104 rfl (by decide) rfl ?_
        refine wp_iload dd_X11_readsTerm_106 rfl ?_
        refine wp_if_ge (tgt := 113) dd_X11_readsTerm_108 (by decide) (fun c108_4 => ?_) (fun c108_4 => ?_)
        · skip
          refine ih113 1 rp mp ?_ ?_ ?_ ?_
          · first | (refine ⟨fp.trans ?_, by omega⟩; show zrv X _ = zvP X 121 (zt2 X a); unfold zvP; rw [if_pos (by assumption)]) | (show _ = zvP X 121 (zt2 X a) ∧ _; unfold zvP; rw [if_neg (by assumption)]; omega)
          · have q9 := zrv_c X (zt2 X a)
            show (_ ∧ zpP X 121 (zt2 X a) = a) ∨ (_ ∧ a < zpP X 121 (zt2 X a)); unfold zpP; first | (rw [if_pos (by assumption)]; omega) | (rw [if_neg (by assumption)]; omega)
          · show zA2 mem _ (zpP X 121 (zt2 X a)); unfold zpP; first | (rw [if_pos (by assumption)]; exact hM.tr gp) | (rw [if_neg (by assumption)]; exact hM)
          · omega
        · skip
          refine wp_iconst dd_X11_readsTerm_111 (zr_lit rfl) ?_
          refine wp_zreturn (st := []) dd_X11_readsTerm_112 rfl (by omega) ?_
          have htj : ztj X a = rp := by rw [fp]; show zvP X 121 (zt2 X a) = _; unfold zvP; rw [if_pos (by assumption)]
          have ht3 : zt3 X a = zrp X (zt2 X a) := by show zpP X 121 (zt2 X a) = _; unfold zpP; rw [if_pos (by assumption)]
          have hM := hM.tr gp
          rw [← ht3] at hM
          refine k _ _ ?_ ?_ ?_ ?_ ?_
          · unfold zto; rw [if_neg (by omega)]
          · rw [hM.1]; unfold zte; first | (rw [if_pos (by omega)]) | (rw [if_neg (by omega)])
          · exact hM.2.1
          · intro t; rw [hM.2.2 75 (by decide), if_neg (fun q => by have q1 := q.1; unfold zto at q1; rw [if_neg (by omega)] at q1; omega)]
          · intro q q1 q2; exact hM.2.2 q q1
    refine wp_icmp_ne (tgt := 89) dd_X11_readsTerm_71 (by decide) (fun c71_5 => ?_) (fun c71_5 => ?_)
    · skip
      refine ih89 d 0 mm ?_ ?_ ?_ ?_
      · first | (refine ⟨fp.trans ?_, by omega⟩; show zrv X _ = zvP X 120 (zpN X a); unfold zvP; rw [if_pos (by assumption)]) | (show _ = zvP X 120 (zpN X a) ∧ _; unfold zvP; rw [if_neg (by assumption)]; omega)
      · have q9 := zrv_c X (zpN X a)
        show (_ ∧ zpP X 120 (zpN X a) = a) ∨ (_ ∧ a < zpP X 120 (zpN X a)); unfold zpP; first | (rw [if_pos (by assumption)]; omega) | (rw [if_neg (by assumption)]; omega)
      · show zA2 mem _ (zpP X 120 (zpN X a)); unfold zpP; first | (rw [if_pos (by assumption)]; exact hM.tr gp) | (rw [if_neg (by assumption)]; exact hM)
      · omega
    · skip
      refine wp_iconst dd_X11_readsTerm_74 (zr_lit rfl) ?_
      refine wp_istore_n (ls2 := [some (zR 67), some (zI ng), some (zI v), some (zI 1), some (zI 0), some (zI 0)]) dd_X11_readsTerm_75 rfl (by decide) rfl ?_
      refine wp_aload_n dd_X11_readsTerm_76 rfl ?_
      refine wp_callV (M' := mm_X11_readsPower) (As := []) (rest := []) dd_X11_readsTerm_77 lk_X11_137 mV_X11_readsPower kk_67 (zlt rfl) ⟨_, _, rfl⟩ rfl (by decide) (by decide) (Nat.le_of_ble_eq_true rfl) rfl (sp_X11_readsPower X (zpN X a)  (hM.nx hX) hM.1 (by omega) (by rw [hM.n]; exact ht) (fun rp mp fp gp => ?_))
      show zw_Wp l mm_X11_readsTerm (zS L) 80 [some (zR 67), some (zI ng), some (zI v), some (zI 1), some (zI 0), some (zI 0)] [zI rp] mp 0 0 Q
      refine wp_istore (ls2 := [some (zR 67), some (zI ng), some (zI v), some (zI 1), some (zI rp), some (zI 0)]) dd_X11_readsTerm_80 rfl (by decide) rfl ?_
      refine wp_iload dd_X11_readsTerm_82 rfl ?_
      refine wp_if_ge (tgt := 89) dd_X11_readsTerm_84 (by decide) (fun c84_6 => ?_) (fun c84_6 => ?_)
      · skip
        refine ih89 1 rp mp ?_ ?_ ?_ ?_
        · first | (refine ⟨fp.trans ?_, by omega⟩; show zrv X _ = zvP X 120 (zpN X a); unfold zvP; rw [if_pos (by assumption)]) | (show _ = zvP X 120 (zpN X a) ∧ _; unfold zvP; rw [if_neg (by assumption)]; omega)
        · have q9 := zrv_c X (zpN X a)
          show (_ ∧ zpP X 120 (zpN X a) = a) ∨ (_ ∧ a < zpP X 120 (zpN X a)); unfold zpP; first | (rw [if_pos (by assumption)]; omega) | (rw [if_neg (by assumption)]; omega)
        · show zA2 mem _ (zpP X 120 (zpN X a)); unfold zpP; first | (rw [if_pos (by assumption)]; exact hM.tr gp) | (rw [if_neg (by assumption)]; exact hM)
        · omega
      · skip
        refine wp_iconst dd_X11_readsTerm_87 (zr_lit rfl) ?_
        refine wp_zreturn (st := []) dd_X11_readsTerm_88 rfl (by omega) ?_
        have hti : zti X a = rp := by rw [fp]; show zvP X 120 (zpN X a) = _; unfold zvP; rw [if_pos (by assumption)]
        have ht2 : zt2 X a = zrp X (zpN X a) := by show zpP X 120 (zpN X a) = _; unfold zpP; rw [if_pos (by assumption)]
        have hM := hM.tr gp
        rw [← ht2] at hM
        refine k _ _ ?_ ?_ ?_ ?_ ?_
        · unfold zto; rw [if_neg (by omega)]
        · rw [hM.1]; unfold zte; first | (rw [if_pos (by omega)]) | (rw [if_neg (by omega)])
        · exact hM.2.1
        · intro t; rw [hM.2.2 75 (by decide), if_neg (fun q => by have q1 := q.1; unfold zto at q1; rw [if_neg (by omega)] at q1; omega)]
        · intro q q1 q2; exact hM.2.2 q q1
  refine wp_istore_n (ls2 := [some (zR 67), some (zI ng), some (zI 1), some (zI (if 48 ≤ X a ∧ X a ≤ 57 then 1 else 0)), none, none]) dd_X11_readsTerm_6 rfl (by decide) rfl ?_
  refine wp_iload_n dd_X11_readsTerm_7 rfl ?_
  refine wp_if_eq (tgt := 59) dd_X11_readsTerm_8 (by decide) (fun c8_7 => ?_) (fun c8_7 => ?_)
  · skip
    refine ih59 1 (if 48 ≤ X a ∧ X a ≤ 57 then 1 else 0) mem ?_ ?_ ?_ ?_
    · unfold zvN; first | (rw [if_neg (by omega)]) | (rw [if_pos (by omega), if_neg (by omega)]) | (rw [if_pos (by omega), if_pos (by omega)])
    · unfold zpN; first | (rw [if_neg (by omega)]; omega) | (rw [if_pos (by omega), if_neg (by omega)]; omega) | (rw [if_pos (by omega), if_pos (by omega)]; omega)
    · unfold zpN; first | (rw [if_neg (by omega)]; assumption) | (rw [if_pos (by omega), if_neg (by omega)]; assumption) | (rw [if_pos (by omega), if_pos (by omega)]; first | assumption | (rw [show a + 1 + 1 = a + 2 by omega]; exact hC2))
    · omega
  · skip
    refine wp_aload_n dd_X11_readsTerm_11 rfl ?_
    refine wp_callV (M' := mm_X11_next) (As := []) (rest := []) dd_X11_readsTerm_12 lk_X11_129 mV_X11_next kk_67 (zlt rfl) ⟨_, _, rfl⟩ rfl (by decide) (by decide) (Nat.le_of_ble_eq_true rfl) rfl (sp_X11_next2 X (a)  (hA2.nx hX) hA2.1 (by omega) (by rw [hA2.n]; exact ht) ?_)
    show zw_Wp l mm_X11_readsTerm (zS L) 15 [some (zR 67), some (zI ng), some (zI 1), some (zI (if 48 ≤ X a ∧ X a ≤ 57 then 1 else 0)), none, none] [zI (X a)] mem 0 0 Q
    refine wp_bipush dd_X11_readsTerm_15 (by decide) ?_
    refine wp_isubC dd_X11_readsTerm_17 (by omega) ?_
    refine wp_istore_n (ls2 := [some (zR 67), some (zI ng), some (zI ((X a) - 48)), some (zI (if 48 ≤ X a ∧ X a ≤ 57 then 1 else 0)), none, none]) dd_X11_readsTerm_18 rfl (by decide) rfl ?_
    refine wp_aload_n dd_X11_readsTerm_19 rfl ?_
    refine wp_dup dd_X11_readsTerm_20 rfl ?_
    refine wp_getZ 12 rfl dd_X11_readsTerm_21 gf_X11_126 rfl kk_67 (by decide) (zlt rfl) ?_
    rw [show (mem 67 12 : Int) = a from hAt]
    refine wp_iconst dd_X11_readsTerm_24 (zr_lit rfl) ?_
    refine wp_iaddC dd_X11_readsTerm_25 (by omega) ?_
    refine wp_putzI 12 rfl dd_X11_readsTerm_26 pf_X11_126 rfl kk_67 (by decide) (zlt rfl) ?_
    refine wp_aload_n dd_X11_readsTerm_29 rfl ?_
    refine wp_callV (M' := mm_X11_isDigit) (As := []) (rest := []) dd_X11_readsTerm_30 lk_X11_133 mV_X11_isDigit kk_67 (zlt rfl) ⟨_, _, rfl⟩ rfl (by decide) (by decide) (Nat.le_of_ble_eq_true rfl) rfl (sp_X11_isDigit X (a + 1)  (hB2.nx hX) hB2.1 (by omega) (by rw [hB2.n]; exact ht) ?_)
    show zw_Wp l mm_X11_readsTerm (zS L) 33 [some (zR 67), some (zI ng), some (zI ((X a) - 48)), some (zI (if 48 ≤ X a ∧ X a ≤ 57 then 1 else 0)), none, none] [zI (if 48 ≤ X (a + 1) ∧ X (a + 1) ≤ 57 then 1 else 0)] (zu mem 67 12 (a + 1)) 0 0 Q
    refine wp_if_eq (tgt := 59) dd_X11_readsTerm_33 (by decide) (fun c33_8 => ?_) (fun c33_8 => ?_)
    · skip
      refine ih59 ((X a) - 48) (if 48 ≤ X a ∧ X a ≤ 57 then 1 else 0) (zu mem 67 12 (a + 1)) ?_ ?_ ?_ ?_
      · unfold zvN; first | (rw [if_neg (by omega)]) | (rw [if_pos (by omega), if_neg (by omega)]) | (rw [if_pos (by omega), if_pos (by omega)])
      · unfold zpN; first | (rw [if_neg (by omega)]; omega) | (rw [if_pos (by omega), if_neg (by omega)]; omega) | (rw [if_pos (by omega), if_pos (by omega)]; omega)
      · unfold zpN; first | (rw [if_neg (by omega)]; assumption) | (rw [if_pos (by omega), if_neg (by omega)]; assumption) | (rw [if_pos (by omega), if_pos (by omega)]; first | assumption | (rw [show a + 1 + 1 = a + 2 by omega]; exact hC2))
      · omega
    · skip
      refine wp_bipush dd_X11_readsTerm_36 (by decide) ?_
      refine wp_iload_n dd_X11_readsTerm_38 rfl ?_
      refine wp_imulC dd_X11_readsTerm_39 (by omega) ?_
      refine wp_aload_n dd_X11_readsTerm_40 rfl ?_
      refine wp_callV (M' := mm_X11_next) (As := []) (rest := [zI (10 * ((X a) - 48))]) dd_X11_readsTerm_41 lk_X11_129 mV_X11_next kk_67 (zlt rfl) ⟨_, _, rfl⟩ rfl (by decide) (by decide) (Nat.le_of_ble_eq_true rfl) rfl (sp_X11_next2 X (a + 1)  (hB2.nx hX) hB2.1 (by omega) (by rw [hB2.n]; exact ht) ?_)
      show zw_Wp l mm_X11_readsTerm (zS L) 44 [some (zR 67), some (zI ng), some (zI ((X a) - 48)), some (zI (if 48 ≤ X a ∧ X a ≤ 57 then 1 else 0)), none, none] [zI (X (a + 1)), zI (10 * ((X a) - 48))] (zu mem 67 12 (a + 1)) 0 0 Q
      refine wp_iaddC dd_X11_readsTerm_44 (by omega) ?_
      refine wp_bipush dd_X11_readsTerm_45 (by decide) ?_
      refine wp_isubC dd_X11_readsTerm_47 (by omega) ?_
      refine wp_istore_n (ls2 := [some (zR 67), some (zI ng), some (zI (((10 * ((X a) - 48)) + (X (a + 1))) - 48)), some (zI (if 48 ≤ X a ∧ X a ≤ 57 then 1 else 0)), none, none]) dd_X11_readsTerm_48 rfl (by decide) rfl ?_
      refine wp_aload_n dd_X11_readsTerm_49 rfl ?_
      refine wp_dup dd_X11_readsTerm_50 rfl ?_
      refine wp_getV 12 (v := a + 1) rfl (by rw [zu_s]) dd_X11_readsTerm_51 gf_X11_126 rfl kk_67 (by decide) (zlt rfl) ?_
      refine wp_iconst dd_X11_readsTerm_54 (zr_lit rfl) ?_
      refine wp_iaddC dd_X11_readsTerm_55 (by omega) ?_
      refine wp_putzI 12 rfl dd_X11_readsTerm_56 pf_X11_126 rfl kk_67 (by decide) (zlt rfl) ?_
      refine ih59 (((10 * ((X a) - 48)) + (X (a + 1))) - 48) (if 48 ≤ X a ∧ X a ≤ 57 then 1 else 0) (zu (zu mem 67 12 (a + 1)) 67 12 ((a + 1) + 1)) ?_ ?_ ?_ ?_
      · unfold zvN; first | (rw [if_neg (by omega)]) | (rw [if_pos (by omega), if_neg (by omega)]) | (rw [if_pos (by omega), if_pos (by omega)])
      · unfold zpN; first | (rw [if_neg (by omega)]; omega) | (rw [if_pos (by omega), if_neg (by omega)]; omega) | (rw [if_pos (by omega), if_pos (by omega)]; omega)
      · unfold zpN; first | (rw [if_neg (by omega)]; assumption) | (rw [if_pos (by omega), if_neg (by omega)]; assumption) | (rw [if_pos (by omega), if_pos (by omega)]; first | assumption | (rw [show a + 1 + 1 = a + 2 by omega]; exact hC2))
      · omega


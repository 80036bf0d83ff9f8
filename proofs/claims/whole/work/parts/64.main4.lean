/-! ===== the class: lists, counts, changes ===== -/
theorem zjd_cg {f f2 g : Int → Int} {r : Int} (h : zjd f g r) (e : ∀ d : Int, 0 ≤ d → d < 41 → f d = f2 d) : zjd f2 g r := by
  rcases h with ⟨h1, h2, h3, h4⟩ | ⟨h1, h2⟩
  · exact Or.inl ⟨h1, h2, by rw [← e r h1 h2]; exact h3, fun x q1 q2 => by rw [← e x q1 (by omega)]; exact h4 x q1 q2⟩
  · exact Or.inr ⟨h1, fun x q1 q2 => by rw [← e x q1 q2]; exact h2 x q1 q2⟩
/-- one more note in the class -/
def zNt (m m1 : zMem) (w x v : Int) : Prop := m1 44 0 = znn (m 44 0) ∧ ∀ k : Int, 0 ≤ k → k < 16 → m1 45 k = zsh1 (m 45) (m 44 0) w k ∧ m1 46 k = zsh1 (m 46) (m 44 0) x k ∧ m1 47 k = zsh1 (m 47) (m 44 0) v k
/-- all but the past and one polynomial is as it was -/
def zFq (m m1 : zMem) (q : Int) : Prop := ∀ a : Nat, a ≠ 44 → a ≠ 45 → a ≠ 46 → a ≠ 47 → a ≠ zo q → a ≠ zo q + 1 → a ≠ zo q + 2 → m1 a = m a

def zw_pn (own : String) (idx ci k : Nat) : Prop := ∃ (C : String) (T : u_T) (N : Nat) (ty : Nat → FieldType), zw_cl ci C T N ty ∧ k < N ∧ Cond.fieldLink own idx (T k).1 (T k).2.1 (T k).2.2.1 ∈ lw_g ∧ (T k).2.2.2 = false ∧ ty k = .int
set_option maxHeartbeats 4000000 in
theorem wp_putN {l : Launch} {M : zMM} {sh : zSh} {pc : Nat} {ls : List (Option zV)} {st : List zV} {mem : zMem} {bc bs : Nat} {Q : zQ} {idx ci kf n i : Nat} {v : Int} (hd : decode (zc M) pc = .ok (.putfield idx, 3)) (hf : zw_pn (zy M).cls idx ci kf) (hr : zw_isr ci kf = false) (hk : sh.2.1 i = (ci + 3, n)) (hn : kf < n) (hi : i < sh.1) (k : zw_Wp l M sh (pc + 3) ls st (zu mem i kf v) bc bs Q) : zw_Wp l M sh pc ls (zI v :: zR i :: st) mem bc bs Q := by
  intro p e R s m args below meth c Z G ad0 N0 H locs ad lsM cells slots C X
  obtain ⟨hW, hS, hL, hT, hE⟩ := X
  obtain ⟨C0, T, N, ty, ⟨hc, hin, hty, hnm⟩, hkN, hlk, hfin, hty1⟩ := hf
  have hv : zw_r32 v := hT.1
  refine va_put C.1 C.2.1 C.2.2.2.2.1 hin ty hty hnm C.2.2.2.1 hW.1 hW.2.1 hW.2.2.1 hS i (zw_at_ob hk hi) hc kf hkN (C.2.2.2.2.1 _ hlk) (fun _ h => h) hfin (ty := .int) (v := .int (Int32.ofInt v)) (by rw [hty kf hkN, hty1]) rfl rfl (by simp [hn]) hd (fun H1 locs1 hP1 hD1 hS1 => ?_)
  have he : (.inr (ci, ((List.range n).map (fun k => zw_fld ad sh mem ci i k)).set kf (.int (Int32.ofInt v))) : va_E) = zw_ent G ad sh (zu mem i kf v) i := by
    unfold zw_ent
    rw [hk]
    show (Sum.inr (ci, _) : va_E) = Sum.inr (ci, _)
    congr 2
    apply List.ext_getElem?
    intro j
    rw [List.getElem?_set]
    by_cases hj : j < n
    · by_cases hkj : kf = j
      · subst hkj
        simp [hj, zw_fld, hr, zu_s]
      · rw [if_neg hkj]
        have h1 : zu mem i kf v i j = mem i j := zu_n (Or.inr (by omega))
        simp [hj, zw_fld, h1]
    · have hkj : kf ≠ j := by omega
      rw [if_neg hkj]
      simp [hj]
  have h9 := hW.put C.2.2.2.2.2.2.1 hS hi hv he hP1 hD1 hS1
  exact k p e R s m args below meth c Z G ad0 N0 H1 locs1 ad lsM cells slots C ⟨h9, hS1, hL, hT.2.2, hE⟩
theorem wp_putzN {l : Launch} {M : zMM} {sh : zSh} {pc : Nat} {ls : List (Option zV)} {st : List zV} {mem : zMem} {bc bs : Nat} {Q : zQ} {idx ci kf n i : Nat} {v : Int} (z : Int) (hz : ((kf : Nat) : Int) = z) (hd : decode (zc M) pc = .ok (.putfield idx, 3)) (hf : zw_pn (zy M).cls idx ci kf) (hr : zw_isr ci kf = false) (hk : sh.2.1 i = (ci + 3, n)) (hn : kf < n) (hi : i < sh.1) (k : zw_Wp l M sh (pc + 3) ls st (zu mem i z v) bc bs Q) : zw_Wp l M sh pc ls (zI v :: zR i :: st) mem bc bs Q := wp_putN hd hf hr hk hn hi (by rw [hz]; exact k)
theorem pn_X10_122 : zw_pn RX10 122 7 1 := ⟨_, _, _, _, zcl_X8, by decide, fl_X10_122, rfl, rfl⟩

set_option maxRecDepth 100000 in
set_option maxHeartbeats 4000000 in
theorem sp_X10_list {l : Launch} {L : Nat} {mem : zMem} {Q : zQ}  (l0 : Int) (n : Int) (hI : zInv mem) (k : ∀ (r : Int) (m1 : zMem), ((¬ (0 ≤ l0 ∧ l0 ≤ 2) ∧ r = -1 ∧ m1 = zCn mem (-1)) ∨ ((0 ≤ l0 ∧ l0 ≤ 2) ∧ ((40 < n ∧ r = -6 ∧ m1 = zCn mem (-6)) ∨ (n < 0 ∧ r = -14 ∧ m1 = mem) ∨ (0 ≤ n ∧ n ≤ 40 ∧ r = 1 ∧ (∀ x : Int, m1 64 x = if x = l0 then n else mem 64 x) ∧ (∀ x : Int, m1 65 x = if 40 * l0 ≤ x ∧ x < 40 * l0 + n then 0 else mem 65 x) ∧ ∀ a : Nat, a ≠ 64 → a ≠ 65 → m1 a = mem a)))) → Q (some (zI r)) (zS L) m1) : zw_Ok l mm_X10_list [zR 0, zI l0, zI n] (zS L) mem Q := by
  refine zw_okA (fun hA => ?_)
  have rg_l0 : -2147483648 ≤ l0 ∧ l0 < 2147483648 := hA.2.1
  have rg_n : -2147483648 ≤ n ∧ n < 2147483648 := hA.2.2.1
  refine zw_enter (by decide) (Nat.le_of_ble_eq_true rfl) rfl ?_
  show zw_Wp l mm_X10_list (zS L) 0 [some (zR 0), some (zI l0), some (zI n)] [] mem 0 0 Q
  obtain ⟨I1, I2, I3, I4, I5, I6, I7⟩ := id hI
  have hp := I1.1
  have hpr := hp.rg
  have e10 := I1.2.1
  have hn5 := I1.2.2.1
  have e11 := I1.2.2.2.1
  refine wp_aload_n dd_X10_list_0 rfl ?_
  refine wp_getR dd_X10_list_1 gf_X10_64 rfl kk_0 (by decide) (zlt rfl) rr_0_8 ?_
  refine wp_iload_n dd_X10_list_4 rfl ?_
  refine wp_callV (M' := mm_X1_has) (As := [zI l0]) (rest := []) dd_X10_list_5 lk_X10_315 mV_X1_has kk_63 (zlt rfl) ⟨_, _, rfl⟩ rfl (by decide) (by decide) (Nat.le_of_ble_eq_true rfl) rfl (sp_X1_has  l0  ?_)
  show zw_Wp l mm_X10_list (zS L) 8 [some (zR 0), some (zI l0), some (zI n)] [zI (if 0 ≤ l0 ∧ l0 ≤ 2 then 1 else 0)] mem 0 0 Q
  refine wp_if_ne (tgt := 17) dd_X10_list_8 (by decide) (fun c8_1 => ?_) (fun c8_1 => ?_)
  · skip
    refine wp_iload_n dd_X10_list_17 rfl ?_
    refine wp_bipush dd_X10_list_18 (by decide) ?_
    refine wp_icmp_le (tgt := 30) dd_X10_list_20 (by decide) (fun c20_2 => ?_) (fun c20_2 => ?_)
    · skip
      refine wp_iload_n dd_X10_list_30 rfl ?_
      refine wp_if_ge (tgt := 37) dd_X10_list_31 (by decide) (fun c31_3 => ?_) (fun c31_3 => ?_)
      · skip
        refine wp_aload_n dd_X10_list_37 rfl ?_
        refine wp_getR dd_X10_list_38 gf_X10_64 rfl kk_0 (by decide) (zlt rfl) rr_0_8 ?_
        refine wp_iload_n dd_X10_list_41 rfl ?_
        refine wp_iload_n dd_X10_list_42 rfl ?_
        refine wp_callV (M' := mm_X1_make) (As := [zI l0, zI n]) (rest := []) dd_X10_list_43 lk_X10_316 mV_X1_make kk_63 (zlt rfl) ⟨_, _, rfl⟩ rfl (by decide) (by decide) (Nat.le_of_ble_eq_true rfl) rfl (sp_X1_make  l0 n (by first | assumption | omega) (by first | assumption | omega) (fun ma sa fa ga => ?_))
        show zw_Wp l mm_X10_list (zS L) 46 [some (zR 0), some (zI l0), some (zI n)] [] ma 0 0 Q
        refine wp_iconst dd_X10_list_46 (zr_lit rfl) ?_
        refine wp_ireturn (st := []) dd_X10_list_47 rfl ?_
        exact k _ _ (Or.inr ⟨by omega, Or.inr (Or.inr ⟨by omega, by omega, rfl, sa, fa, ga⟩)⟩)
      · skip
        refine wp_bipush dd_X10_list_34 (by decide) ?_
        refine wp_ireturn (st := []) dd_X10_list_36 rfl ?_
        exact k _ _ (Or.inr ⟨by omega, Or.inr (Or.inl ⟨by omega, rfl, rfl⟩)⟩)
    · skip
      refine wp_aload_n dd_X10_list_23 rfl ?_
      refine wp_bipush dd_X10_list_24 (by decide) ?_
      refine wp_callV (M' := mm_X10_refuse) (As := [zI (-6)]) (rest := []) dd_X10_list_26 lk_X10_76 mV_X10_refuse kk_0 (zlt rfl) ⟨_, _, rfl⟩ rfl (by decide) (by decide) (Nat.le_of_ble_eq_true rfl) rfl (sp_X10_refuse  (-6) (by first | assumption | omega) ?_)
      show zw_Wp l mm_X10_list (zS L) 29 [some (zR 0), some (zI l0), some (zI n)] [zI (-6)] (zCn mem (-6)) 0 0 Q
      refine wp_ireturn (st := []) dd_X10_list_29 rfl ?_
      exact k _ _ (Or.inr ⟨by omega, Or.inl ⟨by omega, rfl, rfl⟩⟩)
  · skip
    refine wp_aload_n dd_X10_list_11 rfl ?_
    refine wp_iconst dd_X10_list_12 (zr_lit rfl) ?_
    refine wp_callV (M' := mm_X10_refuse) (As := [zI (-1)]) (rest := []) dd_X10_list_13 lk_X10_76 mV_X10_refuse kk_0 (zlt rfl) ⟨_, _, rfl⟩ rfl (by decide) (by decide) (Nat.le_of_ble_eq_true rfl) rfl (sp_X10_refuse  (-1) (by first | assumption | omega) ?_)
    show zw_Wp l mm_X10_list (zS L) 16 [some (zR 0), some (zI l0), some (zI n)] [zI (-1)] (zCn mem (-1)) 0 0 Q
    refine wp_ireturn (st := []) dd_X10_list_16 rfl ?_
    exact k _ _ (Or.inl ⟨by omega, rfl, rfl⟩)

set_option maxRecDepth 100000 in
set_option maxHeartbeats 4000000 in
theorem sp_X10_put {l : Launch} {L : Nat} {mem : zMem} {Q : zQ}  (l0 : Int) (i : Int) (v : Int) (hI : zInv mem) (k : ∀ (r : Int) (m1 : zMem), ((¬ (0 ≤ l0 ∧ l0 ≤ 2) ∧ r = -1 ∧ m1 = zCn mem (-1)) ∨ ((0 ≤ l0 ∧ l0 ≤ 2) ∧ ((zyL mem l0 i ≠ 0 ∧ r = zyL mem l0 i ∧ m1 = mem) ∨ (zyL mem l0 i = 0 ∧ r = 1 ∧ m1 = zu mem 65 (40 * l0 + i) v)))) → Q (some (zI r)) (zS L) m1) : zw_Ok l mm_X10_put [zR 0, zI l0, zI i, zI v] (zS L) mem Q := by
  refine zw_okA (fun hA => ?_)
  have rg_l0 : -2147483648 ≤ l0 ∧ l0 < 2147483648 := hA.2.1
  have rg_i : -2147483648 ≤ i ∧ i < 2147483648 := hA.2.2.1
  have rg_v : -2147483648 ≤ v ∧ v < 2147483648 := hA.2.2.2.1
  refine zw_enter (by decide) (Nat.le_of_ble_eq_true rfl) rfl ?_
  show zw_Wp l mm_X10_put (zS L) 0 [some (zR 0), some (zI l0), some (zI i), some (zI v), none] [] mem 0 0 Q
  obtain ⟨I1, I2, I3, I4, I5, I6, I7⟩ := id hI
  have hp := I1.1
  have hpr := hp.rg
  have e10 := I1.2.1
  have hn5 := I1.2.2.1
  have e11 := I1.2.2.2.1
  refine wp_aload_n dd_X10_put_0 rfl ?_
  refine wp_iload_n dd_X10_put_1 rfl ?_
  refine wp_iload_n dd_X10_put_2 rfl ?_
  refine wp_callV (M' := mm_X10_placeRefusal) (As := [zI l0, zI i]) (rest := []) dd_X10_put_3 lk_X10_319 mV_X10_placeRefusal kk_0 (zlt rfl) ⟨_, _, rfl⟩ rfl (by decide) (by decide) (Nat.le_of_ble_eq_true rfl) rfl (sp_X10_placeRefusal  l0 i hI ?_)
  show zw_Wp l mm_X10_put (zS L) 6 [some (zR 0), some (zI l0), some (zI i), some (zI v), none] [zI (if ¬ (0 ≤ l0 ∧ l0 ≤ 2) then -1 else zyL mem l0 i)] mem 0 0 Q
  have hyr : (0 ≤ l0 ∧ l0 ≤ 2) → (zyL mem l0 i = 0 ∨ zyL mem l0 i = -11 ∨ zyL mem l0 i = -13) := fun _ => by unfold zyL; omega
  have hy0 : zyL mem l0 i = 0 → 0 ≤ i ∧ i < mem 86 l0 := by unfold zyL; omega
  have hl5 := fun q1 q2 => I5 l0 q1 q2
  refine wp_istore (ls2 := [some (zR 0), some (zI l0), some (zI i), some (zI v), some (zI (if ¬ (0 ≤ l0 ∧ l0 ≤ 2) then -1 else zyL mem l0 i))]) dd_X10_put_6 rfl (by decide) rfl ?_
  refine wp_iload dd_X10_put_8 rfl ?_
  refine wp_if_eq (tgt := 30) dd_X10_put_10 (by decide) (fun c10_1 => ?_) (fun c10_1 => ?_)
  · skip
    have hlx : (0 ≤ l0 ∧ l0 ≤ 2) ∧ zyL mem l0 i = 0 := by omega
    have hi9 := hy0 hlx.2
    have hl9 := (hl5 hlx.1.1 hlx.1.2).1
    refine wp_aload_n dd_X10_put_30 rfl ?_
    refine wp_getR dd_X10_put_31 gf_X10_64 rfl kk_0 (by decide) (zlt rfl) rr_0_8 ?_
    refine wp_iload_n dd_X10_put_34 rfl ?_
    refine wp_iload_n dd_X10_put_35 rfl ?_
    refine wp_iload_n dd_X10_put_36 rfl ?_
    refine wp_callV (M' := mm_X1_write) (As := [zI l0, zI i, zI v]) (rest := []) dd_X10_put_37 lk_X10_322 mV_X1_write kk_63 (zlt rfl) ⟨_, _, rfl⟩ rfl (by decide) (by decide) (Nat.le_of_ble_eq_true rfl) rfl (sp_X1_write  l0 i v (by first | assumption | omega) (by first | assumption | omega) ?_)
    show zw_Wp l mm_X10_put (zS L) 40 [some (zR 0), some (zI l0), some (zI i), some (zI v), some (zI (if ¬ (0 ≤ l0 ∧ l0 ≤ 2) then -1 else zyL mem l0 i))] [] (zu mem 65 (40 * l0 + i) v) 0 0 Q
    refine wp_iconst dd_X10_put_40 (zr_lit rfl) ?_
    refine wp_ireturn (st := []) dd_X10_put_41 rfl ?_
    exact k _ _ (Or.inr ⟨hlx.1, Or.inr ⟨hlx.2, rfl, rfl⟩⟩)
  · skip
    refine wp_iload dd_X10_put_13 rfl ?_
    refine wp_iconst dd_X10_put_15 (zr_lit rfl) ?_
    refine wp_icmp_ne (tgt := 27) dd_X10_put_16 (by decide) (fun c16_2 => ?_) (fun c16_2 => ?_)
    · skip
      refine wp_iload dd_X10_put_27 rfl ?_
      refine wp_ireturn (st := []) dd_X10_put_29 rfl ?_
      have hlx : 0 ≤ l0 ∧ l0 ≤ 2 := by
        by_cases q : 0 ≤ l0 ∧ l0 ≤ 2
        · exact q
        · omega
      have e9 : (if ¬ (0 ≤ l0 ∧ l0 ≤ 2) then -1 else zyL mem l0 i) = zyL mem l0 i := by rw [if_neg (by omega)]
      exact k _ _ (Or.inr ⟨hlx, Or.inl ⟨by omega, e9, rfl⟩⟩)
    · skip
      refine wp_aload_n dd_X10_put_19 rfl ?_
      refine wp_iconst dd_X10_put_20 (zr_lit rfl) ?_
      refine wp_callV (M' := mm_X10_refuse) (As := [zI (-1)]) (rest := []) dd_X10_put_21 lk_X10_76 mV_X10_refuse kk_0 (zlt rfl) ⟨_, _, rfl⟩ rfl (by decide) (by decide) (Nat.le_of_ble_eq_true rfl) rfl (sp_X10_refuse  (-1) (by first | assumption | omega) ?_)
      show zw_Wp l mm_X10_put (zS L) 24 [some (zR 0), some (zI l0), some (zI i), some (zI v), some (zI (if ¬ (0 ≤ l0 ∧ l0 ≤ 2) then -1 else zyL mem l0 i))] [zI (-1)] (zCn mem (-1)) 0 0 Q
      refine wp_goto (tgt := 29) dd_X10_put_24 (by decide) ?_
      refine wp_ireturn (st := []) dd_X10_put_29 rfl ?_
      have hlx : ¬ (0 ≤ l0 ∧ l0 ≤ 2) := by
        by_cases q : 0 ≤ l0 ∧ l0 ≤ 2
        · have := hyr q; rw [if_neg (by omega)] at *; omega
        · exact q
      exact k _ _ (Or.inl ⟨hlx, rfl, rfl⟩)

set_option maxRecDepth 100000 in
set_option maxHeartbeats 4000000 in
theorem sp_X10_look {l : Launch} {L : Nat} {mem : zMem} {Q : zQ}  (l0 : Int) (i : Int) (hI : zInv mem) (k : ∀ (r : Int) (m1 : zMem), ((¬ (0 ≤ l0 ∧ l0 ≤ 2) ∧ r = 4000000000000000001 ∧ m1 = zCn mem (-1)) ∨ ((0 ≤ l0 ∧ l0 ≤ 2) ∧ m1 = mem ∧ ((zyL mem l0 i ≠ 0 ∧ r = 4000000000000000000 - zyL mem l0 i) ∨ (zyL mem l0 i = 0 ∧ r = mem 87 (40 * l0 + i))))) → Q (some (zJ r)) (zS L) m1) : zw_Ok l mm_X10_look [zR 0, zI l0, zI i] (zS L) mem Q := by
  refine zw_okA (fun hA => ?_)
  have rg_l0 : -2147483648 ≤ l0 ∧ l0 < 2147483648 := hA.2.1
  have rg_i : -2147483648 ≤ i ∧ i < 2147483648 := hA.2.2.1
  refine zw_enter (by decide) (Nat.le_of_ble_eq_true rfl) rfl ?_
  show zw_Wp l mm_X10_look (zS L) 0 [some (zR 0), some (zI l0), some (zI i), none] [] mem 0 0 Q
  obtain ⟨I1, I2, I3, I4, I5, I6, I7⟩ := id hI
  have hp := I1.1
  have hpr := hp.rg
  have e10 := I1.2.1
  have hn5 := I1.2.2.1
  have e11 := I1.2.2.2.1
  refine wp_aload_n dd_X10_look_0 rfl ?_
  refine wp_iload_n dd_X10_look_1 rfl ?_
  refine wp_iload_n dd_X10_look_2 rfl ?_
  refine wp_callV (M' := mm_X10_placeRefusal) (As := [zI l0, zI i]) (rest := []) dd_X10_look_3 lk_X10_319 mV_X10_placeRefusal kk_0 (zlt rfl) ⟨_, _, rfl⟩ rfl (by decide) (by decide) (Nat.le_of_ble_eq_true rfl) rfl (sp_X10_placeRefusal  l0 i hI ?_)
  show zw_Wp l mm_X10_look (zS L) 6 [some (zR 0), some (zI l0), some (zI i), none] [zI (if ¬ (0 ≤ l0 ∧ l0 ≤ 2) then -1 else zyL mem l0 i)] mem 0 0 Q
  have hyr : (0 ≤ l0 ∧ l0 ≤ 2) → (zyL mem l0 i = 0 ∨ zyL mem l0 i = -11 ∨ zyL mem l0 i = -13) := fun _ => by unfold zyL; omega
  have hy0 : zyL mem l0 i = 0 → 0 ≤ i ∧ i < mem 86 l0 := by unfold zyL; omega
  have hl5 := fun q1 q2 => I5 l0 q1 q2
  refine wp_istore_n (ls2 := [some (zR 0), some (zI l0), some (zI i), some (zI (if ¬ (0 ≤ l0 ∧ l0 ≤ 2) then -1 else zyL mem l0 i))]) dd_X10_look_6 rfl (by decide) rfl ?_
  refine wp_iload_n dd_X10_look_7 rfl ?_
  refine wp_if_eq (tgt := 31) dd_X10_look_8 (by decide) (fun c8_1 => ?_) (fun c8_1 => ?_)
  · skip
    have hlx : (0 ≤ l0 ∧ l0 ≤ 2) ∧ zyL mem l0 i = 0 := by omega
    have hi9 := hy0 hlx.2
    have hl9 := hl5 hlx.1.1 hlx.1.2
    have hl8 := hl9.1
    refine wp_aload_n dd_X10_look_31 rfl ?_
    refine wp_getR dd_X10_look_32 gf_X10_64 rfl kk_0 (by decide) (zlt rfl) rr_0_8 ?_
    refine wp_iload_n dd_X10_look_35 rfl ?_
    refine wp_iload_n dd_X10_look_36 rfl ?_
    refine wp_callV (M' := mm_X1_readAt) (As := [zI l0, zI i]) (rest := []) dd_X10_look_37 lk_X10_327 mV_X1_readAt kk_63 (zlt rfl) ⟨_, _, rfl⟩ rfl (by decide) (by decide) (Nat.le_of_ble_eq_true rfl) rfl (sp_X1_readAt  l0 i (by first | assumption | omega) (by first | assumption | omega) ?_)
    show zw_Wp l mm_X10_look (zS L) 40 [some (zR 0), some (zI l0), some (zI i), some (zI (if ¬ (0 ≤ l0 ∧ l0 ≤ 2) then -1 else zyL mem l0 i))] [zI (mem 65 (40 * l0 + i))] mem 0 0 Q
    refine wp_i2l dd_X10_look_40 ?_
    refine wp_lreturn (st := []) dd_X10_look_41 rfl ?_
    exact k _ _ (Or.inr ⟨hlx.1, rfl, Or.inr ⟨hlx.2, hl9.2 i (by omega) (by omega)⟩⟩)
  · skip
    refine wp_iload_n dd_X10_look_11 rfl ?_
    refine wp_iconst dd_X10_look_12 (zr_lit rfl) ?_
    refine wp_icmp_ne (tgt := 24) dd_X10_look_13 (by decide) (fun c13_2 => ?_) (fun c13_2 => ?_)
    · skip
      refine wp_ldc2 dd_X10_look_24 kc_X10_325 ?_
      show zw_Wp l mm_X10_look (zS L) 27 [some (zR 0), some (zI l0), some (zI i), some (zI (if ¬ (0 ≤ l0 ∧ l0 ≤ 2) then -1 else zyL mem l0 i))] [zJ 4000000000000000000] mem 0 0 Q
      refine wp_iload_n dd_X10_look_27 rfl ?_
      refine wp_i2l dd_X10_look_28 ?_
      refine wp_lsubC dd_X10_look_29 (by omega) ?_
      refine wp_lreturn (st := []) dd_X10_look_30 rfl ?_
      have hlx : 0 ≤ l0 ∧ l0 ≤ 2 := by
        by_cases q : 0 ≤ l0 ∧ l0 ≤ 2
        · exact q
        · omega
      have e9 : (if ¬ (0 ≤ l0 ∧ l0 ≤ 2) then -1 else zyL mem l0 i) = zyL mem l0 i := by rw [if_neg (by omega)]
      exact k _ _ (Or.inr ⟨hlx, rfl, Or.inl ⟨by omega, by rw [e9]⟩⟩)
    · skip
      refine wp_aload_n dd_X10_look_16 rfl ?_
      refine wp_iconst dd_X10_look_17 (zr_lit rfl) ?_
      refine wp_callV (M' := mm_X10_refuseLong) (As := [zI (-1)]) (rest := []) dd_X10_look_18 lk_X10_304 mV_X10_refuseLong kk_0 (zlt rfl) ⟨_, _, rfl⟩ rfl (by decide) (by decide) (Nat.le_of_ble_eq_true rfl) rfl (sp_X10_refuseLong  (-1) (by first | assumption | omega) ?_)
      show zw_Wp l mm_X10_look (zS L) 21 [some (zR 0), some (zI l0), some (zI i), some (zI (if ¬ (0 ≤ l0 ∧ l0 ≤ 2) then -1 else zyL mem l0 i))] [zJ (4000000000000000000 - (-1))] (zCn mem (-1)) 0 0 Q
      refine wp_goto (tgt := 30) dd_X10_look_21 (by decide) ?_
      refine wp_lreturn (st := []) dd_X10_look_30 rfl ?_
      have hlx : ¬ (0 ≤ l0 ∧ l0 ≤ 2) := by
        by_cases q : 0 ≤ l0 ∧ l0 ≤ 2
        · have := hyr q; omega
        · exact q
      exact k _ _ (Or.inl ⟨hlx, rfl, rfl⟩)

set_option maxRecDepth 100000 in
set_option maxHeartbeats 4000000 in
theorem sp_X10_lays {l : Launch} {L : Nat} {mem : zMem} {Q : zQ}  (l0 : Int) (i : Int) (a : Int) (b : Int) (le : Int) (tb : Int) (hI : zInv mem) (k : ∀ (r : Int) (m1 : zMem), ((zyN mem l0 a b le tb ≠ 0 ∧ r = zyN mem l0 a b le tb ∧ m1 = zCn mem (zyN mem l0 a b le tb)) ∨ (zyN mem l0 a b le tb = 0 ∧ ((zyL mem l0 i ≠ 0 ∧ r = zyL mem l0 i ∧ m1 = mem) ∨ (zyL mem l0 i = 0 ∧ r = mem 86 l0 - i ∧ (∀ x : Int, m1 65 x = if 40 * l0 + i ≤ x ∧ x < 40 * l0 + mem 86 l0 then zre mem a b le tb (x - (40 * l0 + i)) else mem 65 x) ∧ ∀ x : Nat, (x < 48 ∨ 52 < x) → x ≠ 65 → m1 x = mem x)))) → Q (some (zI r)) (zS L) m1) : zw_Ok l mm_X10_lays [zR 0, zI l0, zI i, zI a, zI b, zI le, zI tb] (zS L) mem Q := by
  refine zw_okA (fun hA => ?_)
  have rg_l0 : -2147483648 ≤ l0 ∧ l0 < 2147483648 := hA.2.1
  have rg_i : -2147483648 ≤ i ∧ i < 2147483648 := hA.2.2.1
  have rg_a : -2147483648 ≤ a ∧ a < 2147483648 := hA.2.2.2.1
  have rg_b : -2147483648 ≤ b ∧ b < 2147483648 := hA.2.2.2.2.1
  have rg_le : -2147483648 ≤ le ∧ le < 2147483648 := hA.2.2.2.2.2.1
  have rg_tb : -2147483648 ≤ tb ∧ tb < 2147483648 := hA.2.2.2.2.2.2.1
  refine zw_enter (by decide) (Nat.le_of_ble_eq_true rfl) rfl ?_
  show zw_Wp l mm_X10_lays (zS L) 0 [some (zR 0), some (zI l0), some (zI i), some (zI a), some (zI b), some (zI le), some (zI tb), none] [] mem 0 0 Q
  obtain ⟨I1, I2, I3, I4, I5, I6, I7⟩ := id hI
  have hp := I1.1
  have hpr := hp.rg
  have e10 := I1.2.1
  have hn5 := I1.2.2.1
  have e11 := I1.2.2.2.1
  have hyn : zyN mem l0 a b le tb = if ¬ (0 ≤ l0 ∧ l0 ≤ 2) then -1 else zyB mem a b le tb := rfl
  have hyc := zyB_c mem a b le tb
  refine wp_aload_n dd_X10_lays_0 rfl ?_
  refine wp_getR dd_X10_lays_1 gf_X10_64 rfl kk_0 (by decide) (zlt rfl) rr_0_8 ?_
  refine wp_iload_n dd_X10_lays_4 rfl ?_
  refine wp_callV (M' := mm_X1_has) (As := [zI l0]) (rest := []) dd_X10_lays_5 lk_X10_315 mV_X1_has kk_63 (zlt rfl) ⟨_, _, rfl⟩ rfl (by decide) (by decide) (Nat.le_of_ble_eq_true rfl) rfl (sp_X1_has  l0  ?_)
  show zw_Wp l mm_X10_lays (zS L) 8 [some (zR 0), some (zI l0), some (zI i), some (zI a), some (zI b), some (zI le), some (zI tb), none] [zI (if 0 ≤ l0 ∧ l0 ≤ 2 then 1 else 0)] mem 0 0 Q
  refine wp_if_eq (tgt := 25) dd_X10_lays_8 (by decide) (fun c8_1 => ?_) (fun c8_1 => ?_)
  · skip
    refine wp_iconst dd_X10_lays_25 (zr_lit rfl) ?_
    refine wp_istore (ls2 := [some (zR 0), some (zI l0), some (zI i), some (zI a), some (zI b), some (zI le), some (zI tb), some (zI (-1))]) dd_X10_lays_26 rfl (by decide) rfl ?_
    refine wp_iload dd_X10_lays_28 rfl ?_
    refine wp_if_eq (tgt := 40) dd_X10_lays_30 (by decide) (fun c30_2 => absurd c30_2 (by decide)) (fun c30_2 => ?_)
    refine wp_aload_n dd_X10_lays_33 rfl ?_
    refine wp_iload dd_X10_lays_34 rfl ?_
    refine wp_callV (M' := mm_X10_refuse) (As := [zI (-1)]) (rest := []) dd_X10_lays_36 lk_X10_76 mV_X10_refuse kk_0 (zlt rfl) ⟨_, _, rfl⟩ rfl (by decide) (by decide) (Nat.le_of_ble_eq_true rfl) rfl (sp_X10_refuse  (-1) (by first | assumption | omega) ?_)
    show zw_Wp l mm_X10_lays (zS L) 39 [some (zR 0), some (zI l0), some (zI i), some (zI a), some (zI b), some (zI le), some (zI tb), some (zI (-1))] [zI (-1)] (zCn mem (-1)) 0 0 Q
    refine wp_ireturn (st := []) dd_X10_lays_39 rfl ?_
    have hw : zyN mem l0 a b le tb = (-1) := by rw [hyn]; (repeat first | rw [if_pos (by omega)] | rw [if_neg (by omega)]); try omega
    exact k _ _ (Or.inl ⟨by rw [hw]; first | decide | omega, hw.symm, by rw [hw]⟩)
  · skip
    refine wp_aload_n dd_X10_lays_11 rfl ?_
    refine wp_iload_n dd_X10_lays_12 rfl ?_
    refine wp_iload dd_X10_lays_13 rfl ?_
    refine wp_iload dd_X10_lays_15 rfl ?_
    refine wp_iload dd_X10_lays_17 rfl ?_
    refine wp_callV (M' := mm_X10_tableRefusal) (As := [zI a, zI b, zI le, zI tb]) (rest := []) dd_X10_lays_19 lk_X10_181 mV_X10_tableRefusal kk_0 (zlt rfl) ⟨_, _, rfl⟩ rfl (by decide) (by decide) (Nat.le_of_ble_eq_true rfl) rfl (sp_X10_tableRefusal  a b le tb hI ?_)
    show zw_Wp l mm_X10_lays (zS L) 22 [some (zR 0), some (zI l0), some (zI i), some (zI a), some (zI b), some (zI le), some (zI tb), none] [zI (zyB mem a b le tb)] mem 0 0 Q
    refine wp_goto (tgt := 26) dd_X10_lays_22 (by decide) ?_
    refine wp_istore (ls2 := [some (zR 0), some (zI l0), some (zI i), some (zI a), some (zI b), some (zI le), some (zI tb), some (zI (zyB mem a b le tb))]) dd_X10_lays_26 rfl (by decide) rfl ?_
    refine wp_iload dd_X10_lays_28 rfl ?_
    refine wp_if_eq (tgt := 40) dd_X10_lays_30 (by decide) (fun c30_3 => ?_) (fun c30_3 => ?_)
    · skip
      have hz9 : (0 ≤ l0 ∧ l0 ≤ 2) ∧ zyB mem a b le tb = 0 := by omega
      have hz := hz9.2
      have hw : zyN mem l0 a b le tb = 0 := by rw [hyn]; (repeat first | rw [if_pos (by omega)] | rw [if_neg (by omega)]); try omega
      refine wp_aload_n dd_X10_lays_40 rfl ?_
      refine wp_iload_n dd_X10_lays_41 rfl ?_
      refine wp_iload_n dd_X10_lays_42 rfl ?_
      refine wp_callV (M' := mm_X10_placeRefusal) (As := [zI l0, zI i]) (rest := []) dd_X10_lays_43 lk_X10_319 mV_X10_placeRefusal kk_0 (zlt rfl) ⟨_, _, rfl⟩ rfl (by decide) (by decide) (Nat.le_of_ble_eq_true rfl) rfl (sp_X10_placeRefusal  l0 i hI ?_)
      show zw_Wp l mm_X10_lays (zS L) 46 [some (zR 0), some (zI l0), some (zI i), some (zI a), some (zI b), some (zI le), some (zI tb), some (zI (zyB mem a b le tb))] [zI (if ¬ (0 ≤ l0 ∧ l0 ≤ 2) then -1 else zyL mem l0 i)] mem 0 0 Q
      have hyr : (0 ≤ l0 ∧ l0 ≤ 2) → (zyL mem l0 i = 0 ∨ zyL mem l0 i = -11 ∨ zyL mem l0 i = -13) := fun _ => by unfold zyL; omega
      have hy0 : zyL mem l0 i = 0 → 0 ≤ i ∧ i < mem 86 l0 := by unfold zyL; omega
      have hl5 := fun q1 q2 => I5 l0 q1 q2
      refine wp_istore (ls2 := [some (zR 0), some (zI l0), some (zI i), some (zI a), some (zI b), some (zI le), some (zI tb), some (zI (if ¬ (0 ≤ l0 ∧ l0 ≤ 2) then -1 else zyL mem l0 i))]) dd_X10_lays_46 rfl (by decide) rfl ?_
      refine wp_iload dd_X10_lays_48 rfl ?_
      refine wp_if_eq (tgt := 56) dd_X10_lays_50 (by decide) (fun c50_4 => ?_) (fun c50_4 => ?_)
      · skip
        have hL0 : zyL mem l0 i = 0 := by omega
        have hi9 := hy0 hL0
        have hl9 := (hl5 hz9.1.1 hz9.1.2).1
        refine wp_aload_n dd_X10_lays_56 rfl ?_
        refine wp_iload_n dd_X10_lays_57 rfl ?_
        refine wp_iload dd_X10_lays_58 rfl ?_
        refine wp_iload dd_X10_lays_60 rfl ?_
        refine wp_iload dd_X10_lays_62 rfl ?_
        refine wp_callV (M' := mm_X10_solve) (As := [zI a, zI b, zI le, zI tb]) (rest := []) dd_X10_lays_64 lk_X10_196 mV_X10_solve kk_0 (zlt rfl) ⟨_, _, rfl⟩ rfl (by decide) (by decide) (Nat.le_of_ble_eq_true rfl) rfl (sp_X10_solve  a b le tb hI hz (fun mS fS gS => ?_))
        show zw_Wp l mm_X10_lays (zS L) 67 [some (zR 0), some (zI l0), some (zI i), some (zI a), some (zI b), some (zI le), some (zI tb), some (zI (if ¬ (0 ≤ l0 ∧ l0 ≤ 2) then -1 else zyL mem l0 i))] [] mS 0 0 Q
        have s10 : mS 1 0 = mem 67 1 := by rw [gS 1 (by decide)]; exact e10
        have hCk : zCk mem mS := fun x hx => gS x (by omega)
        have hrS : ∀ d : Int, 0 ≤ d → d < ((41 : Nat) : Int) → 0 ≤ mS 49 d ∧ mS 49 d ≤ 31 := fun d q1 q2 => by rw [fS d q1 (by omega)]; have := zre_rg (a := a) (b := b) (le := le) (tb := tb) (d := d) hp; omega
        have s64 : mS 64 = mem 64 := gS 64 (by decide)
        have s65 : mS 65 = mem 65 := gS 65 (by decide)
        refine wp_aload_n dd_X10_lays_67 rfl ?_
        refine wp_getR dd_X10_lays_68 gf_X10_64 rfl kk_0 (by decide) (zlt rfl) rr_0_8 ?_
        refine wp_iload_n dd_X10_lays_71 rfl ?_
        refine wp_iload_n dd_X10_lays_72 rfl ?_
        refine wp_aload_n dd_X10_lays_73 rfl ?_
        refine wp_getR dd_X10_lays_74 gf_X10_36 rfl kk_0 (by decide) (zlt rfl) rr_0_4 ?_
        refine wp_getR dd_X10_lays_77 gf_X10_200 rfl kk_48 (by decide) (zlt rfl) rr_48_0 ?_
        refine wp_callV (M' := mm_X1_lay) (As := [zI l0, zI i, zR 49]) (rest := []) dd_X10_lays_80 lk_X10_330 mV_X1_lay kk_63 (zlt rfl) ⟨_, _, rfl⟩ rfl (by decide) (by decide) (Nat.le_of_ble_eq_true rfl) rfl (sp_X1_lay  l0 i hz9.1 (by rw [s64]; omega) (by rw [s64]; omega) (fun ma fa ga => ?_))
        show zw_Wp l mm_X10_lays (zS L) 83 [some (zR 0), some (zI l0), some (zI i), some (zI a), some (zI b), some (zI le), some (zI tb), some (zI (if ¬ (0 ≤ l0 ∧ l0 ≤ 2) then -1 else zyL mem l0 i))] [zI (mS 64 l0 - i)] ma 0 0 Q
        refine wp_ireturn (st := []) dd_X10_lays_83 rfl ?_
        refine k _ _ (Or.inr ⟨hw, Or.inr ⟨hL0, by rw [s64]; omega, fun x => ?_, fun x h1 h2 => by rw [ga x h2]; exact gS x (by omega)⟩⟩)
        have e86 : mem 64 l0 = mem 86 l0 := by omega
        rw [fa x, s64, s65, e86]
        by_cases q : 40 * l0 + i ≤ x ∧ x < 40 * l0 + mem 86 l0
        · rw [if_pos q, if_pos q]; exact fS _ (by omega) (by omega)
        · rw [if_neg q, if_neg q]
      · skip
        refine wp_iload dd_X10_lays_53 rfl ?_
        refine wp_ireturn (st := []) dd_X10_lays_55 rfl ?_
        have e9 : (if ¬ (0 ≤ l0 ∧ l0 ≤ 2) then -1 else zyL mem l0 i) = zyL mem l0 i := by rw [if_neg (by omega)]
        exact k _ _ (Or.inr ⟨hw, Or.inl ⟨by omega, e9, rfl⟩⟩)
    · skip
      refine wp_aload_n dd_X10_lays_33 rfl ?_
      refine wp_iload dd_X10_lays_34 rfl ?_
      refine wp_callV (M' := mm_X10_refuse) (As := [zI (zyB mem a b le tb)]) (rest := []) dd_X10_lays_36 lk_X10_76 mV_X10_refuse kk_0 (zlt rfl) ⟨_, _, rfl⟩ rfl (by decide) (by decide) (Nat.le_of_ble_eq_true rfl) rfl (sp_X10_refuse  (zyB mem a b le tb) (by first | assumption | omega) ?_)
      show zw_Wp l mm_X10_lays (zS L) 39 [some (zR 0), some (zI l0), some (zI i), some (zI a), some (zI b), some (zI le), some (zI tb), some (zI (zyB mem a b le tb))] [zI (zyB mem a b le tb)] (zCn mem (zyB mem a b le tb)) 0 0 Q
      refine wp_ireturn (st := []) dd_X10_lays_39 rfl ?_
      have hw : zyN mem l0 a b le tb = (zyB mem a b le tb) := by rw [hyn]; (repeat first | rw [if_pos (by omega)] | rw [if_neg (by omega)]); try omega
      exact k _ _ (Or.inl ⟨by rw [hw]; first | decide | omega, hw.symm, by rw [hw]⟩)

set_option maxRecDepth 100000 in
set_option maxHeartbeats 4000000 in
theorem sp_X10_judge {l : Launch} {L : Nat} {mem : zMem} {Q : zQ}  (l0 : Int) (a : Int) (b : Int) (le : Int) (tb : Int) (hI : zInv mem) (k : ∀ (r : Int) (m1 : zMem), ((zyN mem l0 a b le tb ≠ 0 ∧ r = zyN mem l0 a b le tb ∧ m1 = zCn mem (zyN mem l0 a b le tb)) ∨ (zyN mem l0 a b le tb = 0 ∧ ((mem 86 l0 < 0 ∧ r = -11 ∧ m1 = mem) ∨ (0 ≤ mem 86 l0 ∧ zjd (zli mem l0) (zre mem a b le tb) r ∧ zCk mem m1)))) → Q (some (zI r)) (zS L) m1) : zw_Ok l mm_X10_judge [zR 0, zI l0, zI a, zI b, zI le, zI tb] (zS L) mem Q := by
  refine zw_okA (fun hA => ?_)
  have rg_l0 : -2147483648 ≤ l0 ∧ l0 < 2147483648 := hA.2.1
  have rg_a : -2147483648 ≤ a ∧ a < 2147483648 := hA.2.2.1
  have rg_b : -2147483648 ≤ b ∧ b < 2147483648 := hA.2.2.2.1
  have rg_le : -2147483648 ≤ le ∧ le < 2147483648 := hA.2.2.2.2.1
  have rg_tb : -2147483648 ≤ tb ∧ tb < 2147483648 := hA.2.2.2.2.2.1
  refine zw_enter (by decide) (Nat.le_of_ble_eq_true rfl) rfl ?_
  show zw_Wp l mm_X10_judge (zS L) 0 [some (zR 0), some (zI l0), some (zI a), some (zI b), some (zI le), some (zI tb), none] [] mem 0 0 Q
  obtain ⟨I1, I2, I3, I4, I5, I6, I7⟩ := id hI
  have hp := I1.1
  have hpr := hp.rg
  have e10 := I1.2.1
  have hn5 := I1.2.2.1
  have e11 := I1.2.2.2.1
  have hyn : zyN mem l0 a b le tb = if ¬ (0 ≤ l0 ∧ l0 ≤ 2) then -1 else zyB mem a b le tb := rfl
  have hyc := zyB_c mem a b le tb
  refine wp_aload_n dd_X10_judge_0 rfl ?_
  refine wp_getR dd_X10_judge_1 gf_X10_64 rfl kk_0 (by decide) (zlt rfl) rr_0_8 ?_
  refine wp_iload_n dd_X10_judge_4 rfl ?_
  refine wp_callV (M' := mm_X1_has) (As := [zI l0]) (rest := []) dd_X10_judge_5 lk_X10_315 mV_X1_has kk_63 (zlt rfl) ⟨_, _, rfl⟩ rfl (by decide) (by decide) (Nat.le_of_ble_eq_true rfl) rfl (sp_X1_has  l0  ?_)
  show zw_Wp l mm_X10_judge (zS L) 8 [some (zR 0), some (zI l0), some (zI a), some (zI b), some (zI le), some (zI tb), none] [zI (if 0 ≤ l0 ∧ l0 ≤ 2 then 1 else 0)] mem 0 0 Q
  refine wp_if_eq (tgt := 24) dd_X10_judge_8 (by decide) (fun c8_1 => ?_) (fun c8_1 => ?_)
  · skip
    refine wp_iconst dd_X10_judge_24 (zr_lit rfl) ?_
    refine wp_istore (ls2 := [some (zR 0), some (zI l0), some (zI a), some (zI b), some (zI le), some (zI tb), some (zI (-1))]) dd_X10_judge_25 rfl (by decide) rfl ?_
    refine wp_iload dd_X10_judge_27 rfl ?_
    refine wp_if_eq (tgt := 39) dd_X10_judge_29 (by decide) (fun c29_2 => absurd c29_2 (by decide)) (fun c29_2 => ?_)
    refine wp_aload_n dd_X10_judge_32 rfl ?_
    refine wp_iload dd_X10_judge_33 rfl ?_
    refine wp_callV (M' := mm_X10_refuse) (As := [zI (-1)]) (rest := []) dd_X10_judge_35 lk_X10_76 mV_X10_refuse kk_0 (zlt rfl) ⟨_, _, rfl⟩ rfl (by decide) (by decide) (Nat.le_of_ble_eq_true rfl) rfl (sp_X10_refuse  (-1) (by first | assumption | omega) ?_)
    show zw_Wp l mm_X10_judge (zS L) 38 [some (zR 0), some (zI l0), some (zI a), some (zI b), some (zI le), some (zI tb), some (zI (-1))] [zI (-1)] (zCn mem (-1)) 0 0 Q
    refine wp_ireturn (st := []) dd_X10_judge_38 rfl ?_
    have hw : zyN mem l0 a b le tb = (-1) := by rw [hyn]; (repeat first | rw [if_pos (by omega)] | rw [if_neg (by omega)]); try omega
    exact k _ _ (Or.inl ⟨by rw [hw]; first | decide | omega, hw.symm, by rw [hw]⟩)
  · skip
    refine wp_aload_n dd_X10_judge_11 rfl ?_
    refine wp_iload_n dd_X10_judge_12 rfl ?_
    refine wp_iload_n dd_X10_judge_13 rfl ?_
    refine wp_iload dd_X10_judge_14 rfl ?_
    refine wp_iload dd_X10_judge_16 rfl ?_
    refine wp_callV (M' := mm_X10_tableRefusal) (As := [zI a, zI b, zI le, zI tb]) (rest := []) dd_X10_judge_18 lk_X10_181 mV_X10_tableRefusal kk_0 (zlt rfl) ⟨_, _, rfl⟩ rfl (by decide) (by decide) (Nat.le_of_ble_eq_true rfl) rfl (sp_X10_tableRefusal  a b le tb hI ?_)
    show zw_Wp l mm_X10_judge (zS L) 21 [some (zR 0), some (zI l0), some (zI a), some (zI b), some (zI le), some (zI tb), none] [zI (zyB mem a b le tb)] mem 0 0 Q
    refine wp_goto (tgt := 25) dd_X10_judge_21 (by decide) ?_
    refine wp_istore (ls2 := [some (zR 0), some (zI l0), some (zI a), some (zI b), some (zI le), some (zI tb), some (zI (zyB mem a b le tb))]) dd_X10_judge_25 rfl (by decide) rfl ?_
    refine wp_iload dd_X10_judge_27 rfl ?_
    refine wp_if_eq (tgt := 39) dd_X10_judge_29 (by decide) (fun c29_3 => ?_) (fun c29_3 => ?_)
    · skip
      have hz9 : (0 ≤ l0 ∧ l0 ≤ 2) ∧ zyB mem a b le tb = 0 := by omega
      have hz := hz9.2
      have hl9 := I5 l0 hz9.1.1 hz9.1.2
      have hl8 := hl9.1
      have hw : zyN mem l0 a b le tb = 0 := by rw [hyn]; (repeat first | rw [if_pos (by omega)] | rw [if_neg (by omega)]); try omega
      refine wp_aload_n dd_X10_judge_39 rfl ?_
      refine wp_getR dd_X10_judge_40 gf_X10_64 rfl kk_0 (by decide) (zlt rfl) rr_0_8 ?_
      refine wp_iload_n dd_X10_judge_43 rfl ?_
      refine wp_callV (M' := mm_X1_isMissing) (As := [zI l0]) (rest := []) dd_X10_judge_44 lk_X10_334 mV_X1_isMissing kk_63 (zlt rfl) ⟨_, _, rfl⟩ rfl (by decide) (by decide) (Nat.le_of_ble_eq_true rfl) rfl (sp_X1_isMissing  l0 hz9.1 ?_)
      show zw_Wp l mm_X10_judge (zS L) 47 [some (zR 0), some (zI l0), some (zI a), some (zI b), some (zI le), some (zI tb), some (zI (zyB mem a b le tb))] [zI (if mem 64 l0 = -1 then 1 else 0)] mem 0 0 Q
      refine wp_if_eq (tgt := 53) dd_X10_judge_47 (by decide) (fun c47_4 => ?_) (fun c47_4 => ?_)
      · skip
        refine wp_aload_n dd_X10_judge_53 rfl ?_
        refine wp_iload_n dd_X10_judge_54 rfl ?_
        refine wp_iload_n dd_X10_judge_55 rfl ?_
        refine wp_iload dd_X10_judge_56 rfl ?_
        refine wp_iload dd_X10_judge_58 rfl ?_
        refine wp_callV (M' := mm_X10_solve) (As := [zI a, zI b, zI le, zI tb]) (rest := []) dd_X10_judge_60 lk_X10_196 mV_X10_solve kk_0 (zlt rfl) ⟨_, _, rfl⟩ rfl (by decide) (by decide) (Nat.le_of_ble_eq_true rfl) rfl (sp_X10_solve  a b le tb hI hz (fun mS fS gS => ?_))
        show zw_Wp l mm_X10_judge (zS L) 63 [some (zR 0), some (zI l0), some (zI a), some (zI b), some (zI le), some (zI tb), some (zI (zyB mem a b le tb))] [] mS 0 0 Q
        have s10 : mS 1 0 = mem 67 1 := by rw [gS 1 (by decide)]; exact e10
        have hCk : zCk mem mS := fun x hx => gS x (by omega)
        have hrS : ∀ d : Int, 0 ≤ d → d < ((41 : Nat) : Int) → 0 ≤ mS 49 d ∧ mS 49 d ≤ 31 := fun d q1 q2 => by rw [fS d q1 (by omega)]; have := zre_rg (a := a) (b := b) (le := le) (tb := tb) (d := d) hp; omega
        have s64 : mS 64 = mem 64 := gS 64 (by decide)
        have s65 : mS 65 = mem 65 := gS 65 (by decide)
        refine wp_aload_n dd_X10_judge_63 rfl ?_
        refine wp_getR dd_X10_judge_64 gf_X10_64 rfl kk_0 (by decide) (zlt rfl) rr_0_8 ?_
        refine wp_iload_n dd_X10_judge_67 rfl ?_
        refine wp_aload_n dd_X10_judge_68 rfl ?_
        refine wp_getR dd_X10_judge_69 gf_X10_36 rfl kk_0 (by decide) (zlt rfl) rr_0_4 ?_
        refine wp_getR dd_X10_judge_72 gf_X10_200 rfl kk_48 (by decide) (zlt rfl) rr_48_0 ?_
        refine wp_aload_n dd_X10_judge_75 rfl ?_
        refine wp_getR dd_X10_judge_76 gf_X10_12 rfl kk_0 (by decide) (zlt rfl) rr_0_0 ?_
        refine wp_getZ 0 rfl dd_X10_judge_79 gf_X10_114 rfl kk_1 (by decide) (zlt rfl) ?_
        refine wp_callV (M' := mm_X1_firstUnlike) (As := [zI l0, zR 49, zI (mS 1 0)]) (rest := []) dd_X10_judge_82 lk_X10_337 mV_X1_firstUnlike kk_63 (zlt rfl) ⟨_, _, rfl⟩ rfl (by decide) (by decide) (Nat.le_of_ble_eq_true rfl) rfl (sp_X1_firstUnlike (zre mem a b le tb) l0 (mS 1 0) hz9.1 (by rw [s10]; omega) (by rw [s64]; omega) fS (fun rj fj => ?_))
        show zw_Wp l mm_X10_judge (zS L) 85 [some (zR 0), some (zI l0), some (zI a), some (zI b), some (zI le), some (zI tb), some (zI (zyB mem a b le tb))] [zI rj] mS 0 0 Q
        refine wp_ireturn (st := []) dd_X10_judge_85 rfl ?_
        refine k _ _ (Or.inr ⟨hw, Or.inr ⟨by omega, zjd_cg fj (fun d q1 q2 => ?_), hCk⟩⟩)
        unfold zli
        have e86 : mem 64 l0 = mem 86 l0 := by omega
        rw [s64, s65, s10, e86]
        by_cases q : d < mem 86 l0
        · rw [if_pos q, if_pos q, hl9.2 d q1 (by omega)]
        · rw [if_neg q, if_neg q]
      · skip
        refine wp_bipush dd_X10_judge_50 (by decide) ?_
        refine wp_ireturn (st := []) dd_X10_judge_52 rfl ?_
        exact k _ _ (Or.inr ⟨hw, Or.inl ⟨by omega, rfl, rfl⟩⟩)
    · skip
      refine wp_aload_n dd_X10_judge_32 rfl ?_
      refine wp_iload dd_X10_judge_33 rfl ?_
      refine wp_callV (M' := mm_X10_refuse) (As := [zI (zyB mem a b le tb)]) (rest := []) dd_X10_judge_35 lk_X10_76 mV_X10_refuse kk_0 (zlt rfl) ⟨_, _, rfl⟩ rfl (by decide) (by decide) (Nat.le_of_ble_eq_true rfl) rfl (sp_X10_refuse  (zyB mem a b le tb) (by first | assumption | omega) ?_)
      show zw_Wp l mm_X10_judge (zS L) 38 [some (zR 0), some (zI l0), some (zI a), some (zI b), some (zI le), some (zI tb), some (zI (zyB mem a b le tb))] [zI (zyB mem a b le tb)] (zCn mem (zyB mem a b le tb)) 0 0 Q
      refine wp_ireturn (st := []) dd_X10_judge_38 rfl ?_
      have hw : zyN mem l0 a b le tb = (zyB mem a b le tb) := by rw [hyn]; (repeat first | rw [if_pos (by omega)] | rw [if_neg (by omega)]); try omega
      exact k _ _ (Or.inl ⟨by rw [hw]; first | decide | omega, hw.symm, by rw [hw]⟩)

set_option maxRecDepth 100000 in
set_option maxHeartbeats 4000000 in
theorem sp_X10_count {l : Launch} {L : Nat} {mem : zMem} {Q : zQ}  (w : Int) (hI : zInv mem) (k : ∀ (r : Int), ((11 ≤ w ∧ w ≤ 16 ∧ r = mem 68 (w - 10)) ∨ (w = 0 ∧ r = mem 67 5) ∨ (w = 1 ∧ r = mem 67 1) ∨ (w = 2 ∧ r = zcA mem (mem 67 5).toNat) ∨ (w = 3 ∧ r = mem 67 11) ∨ (w = 4 ∧ r = mem 67 8) ∨ (w = 5 ∧ r = zbA mem (mem 67 5).toNat) ∨ (¬ (11 ≤ w ∧ w ≤ 16) ∧ ¬ (0 ≤ w ∧ w ≤ 5) ∧ r = -9)) → Q (some (zI r)) (zS L) mem) : zw_Ok l mm_X10_count [zR 0, zI w] (zS L) mem Q := by
  refine zw_okA (fun hA => ?_)
  have rg_w : -2147483648 ≤ w ∧ w < 2147483648 := hA.2.1
  refine zw_enter (by decide) (Nat.le_of_ble_eq_true rfl) rfl ?_
  show zw_Wp l mm_X10_count (zS L) 0 [some (zR 0), some (zI w)] [] mem 0 0 Q
  obtain ⟨I1, I2, I3, I4, I5, I6, I7⟩ := id hI
  have hp := I1.1
  have hpr := hp.rg
  have e10 := I1.2.1
  have hn5 := I1.2.2.1
  have e11 := I1.2.2.2.1
  refine wp_iload_n dd_X10_count_0 rfl ?_
  by_cases w1_1c0 : w = 0
  · skip
    refine wp_tabIn (tgt := 40) (off := 39) dd_X10_count_1 (by omega) (by omega) (by rw [w1_1c0]; rfl) (by decide) ?_
    refine wp_aload_n dd_X10_count_40 rfl ?_
    refine wp_getR dd_X10_count_41 gf_X10_12 rfl kk_0 (by decide) (zlt rfl) rr_0_0 ?_
    refine wp_getZ 1 rfl dd_X10_count_44 gf_X10_122 rfl kk_1 (by decide) (zlt rfl) ?_
    refine wp_ireturn (st := []) dd_X10_count_47 rfl ?_
    exact k _ (Or.inr (Or.inl ⟨by assumption, e11⟩)) 
  by_cases w1_1c1 : w = 1
  · skip
    refine wp_tabIn (tgt := 48) (off := 47) dd_X10_count_1 (by omega) (by omega) (by rw [w1_1c1]; rfl) (by decide) ?_
    refine wp_aload_n dd_X10_count_48 rfl ?_
    refine wp_getR dd_X10_count_49 gf_X10_12 rfl kk_0 (by decide) (zlt rfl) rr_0_0 ?_
    refine wp_getZ 0 rfl dd_X10_count_52 gf_X10_114 rfl kk_1 (by decide) (zlt rfl) ?_
    refine wp_ireturn (st := []) dd_X10_count_55 rfl ?_
    exact k _ (Or.inr (Or.inr (Or.inl ⟨by assumption, e10⟩))) 
  by_cases w1_1c2 : w = 2
  · skip
    refine wp_tabIn (tgt := 56) (off := 55) dd_X10_count_1 (by omega) (by omega) (by rw [w1_1c2]; rfl) (by decide) ?_
    refine wp_aload_n dd_X10_count_56 rfl ?_
    refine wp_getR dd_X10_count_57 gf_X10_12 rfl kk_0 (by decide) (zlt rfl) rr_0_0 ?_
    refine wp_callV (M' := mm_X8_termsOfAll) (As := []) (rest := []) dd_X10_count_60 lk_X10_349 mV_X8_termsOfAll kk_1 (zlt rfl) ⟨_, _, rfl⟩ rfl (by decide) (by decide) (Nat.le_of_ble_eq_true rfl) rfl (sp_X8_termsOfAll   (by omega) (fun q q1 q2 => I1.C q1 (by omega)) ?_)
    show zw_Wp l mm_X10_count (zS L) 63 [some (zR 0), some (zI w)] [zI (zcA mem (mem 1 1).toNat)] mem 0 0 Q
    refine wp_ireturn (st := []) dd_X10_count_63 rfl ?_
    exact k _ (Or.inr (Or.inr (Or.inr (Or.inl ⟨by assumption, by rw [e11]⟩)))) 
  by_cases w1_1c3 : w = 3
  · skip
    refine wp_tabIn (tgt := 64) (off := 63) dd_X10_count_1 (by omega) (by omega) (by rw [w1_1c3]; rfl) (by decide) ?_
    refine wp_aload_n dd_X10_count_64 rfl ?_
    refine wp_getR dd_X10_count_65 gf_X10_22 rfl kk_0 (by decide) (zlt rfl) rr_0_2 ?_
    refine wp_getZ 0 rfl dd_X10_count_68 gf_X10_352 rfl kk_41 (by decide) (zlt rfl) ?_
    refine wp_ireturn (st := []) dd_X10_count_71 rfl ?_
    exact k _ (Or.inr (Or.inr (Or.inr (Or.inr (Or.inl ⟨by assumption, I3.1⟩))))) 
  by_cases w1_1c4 : w = 4
  · skip
    refine wp_tabIn (tgt := 72) (off := 71) dd_X10_count_1 (by omega) (by omega) (by rw [w1_1c4]; rfl) (by decide) ?_
    refine wp_aload_n dd_X10_count_72 rfl ?_
    refine wp_getR dd_X10_count_73 gf_X10_29 rfl kk_0 (by decide) (zlt rfl) rr_0_3 ?_
    refine wp_getZ 0 rfl dd_X10_count_76 gf_X10_341 rfl kk_44 (by decide) (zlt rfl) ?_
    refine wp_ireturn (st := []) dd_X10_count_79 rfl ?_
    exact k _ (Or.inr (Or.inr (Or.inr (Or.inr (Or.inr (Or.inl ⟨by assumption, I4.1⟩)))))) 
  by_cases w1_1c5 : w = 5
  · skip
    refine wp_tabIn (tgt := 80) (off := 79) dd_X10_count_1 (by omega) (by omega) (by rw [w1_1c5]; rfl) (by decide) ?_
    refine wp_aload_n dd_X10_count_80 rfl ?_
    refine wp_getR dd_X10_count_81 gf_X10_12 rfl kk_0 (by decide) (zlt rfl) rr_0_0 ?_
    refine wp_callV (M' := mm_X8_noughtBits) (As := []) (rest := []) dd_X10_count_84 lk_X10_353 mV_X8_noughtBits kk_1 (zlt rfl) ⟨_, _, rfl⟩ rfl (by decide) (by decide) (Nat.le_of_ble_eq_true rfl) rfl (sp_X8_noughtBits   (by omega) (fun q q1 q2 => I1.C q1 (by omega)) ?_)
    show zw_Wp l mm_X10_count (zS L) 87 [some (zR 0), some (zI w)] [zI (zbA mem (mem 1 1).toNat)] mem 0 0 Q
    refine wp_ireturn (st := []) dd_X10_count_87 rfl ?_
    exact k _ (Or.inr (Or.inr (Or.inr (Or.inr (Or.inr (Or.inr (Or.inl ⟨by assumption, by rw [e11]⟩))))))) 
  refine wp_tabOut (tgt := 88) dd_X10_count_1 (by omega) (by decide) ?_
  refine wp_iload_n dd_X10_count_88 rfl ?_
  refine wp_bipush dd_X10_count_89 (by decide) ?_
  refine wp_icmp_lt (tgt := 112) dd_X10_count_91 (by decide) (fun c91_2 => ?_) (fun c91_2 => ?_)
  · skip
    refine wp_bipush dd_X10_count_112 (by decide) ?_
    refine wp_ireturn (st := []) dd_X10_count_114 rfl ?_
    exact k _ (Or.inr (Or.inr (Or.inr (Or.inr (Or.inr (Or.inr (Or.inr (⟨by omega, by omega, rfl⟩))))))))
  · skip
    refine wp_iload_n dd_X10_count_94 rfl ?_
    refine wp_bipush dd_X10_count_95 (by decide) ?_
    refine wp_icmp_gt (tgt := 112) dd_X10_count_97 (by decide) (fun c97_3 => ?_) (fun c97_3 => ?_)
    · skip
      refine wp_bipush dd_X10_count_112 (by decide) ?_
      refine wp_ireturn (st := []) dd_X10_count_114 rfl ?_
      exact k _ (Or.inr (Or.inr (Or.inr (Or.inr (Or.inr (Or.inr (Or.inr (⟨by omega, by omega, rfl⟩))))))))
    · skip
      refine wp_aload_n dd_X10_count_100 rfl ?_
      refine wp_getR dd_X10_count_101 gf_X10_68 rfl kk_0 (by decide) (zlt rfl) rr_0_9 ?_
      refine wp_iload_n dd_X10_count_104 rfl ?_
      refine wp_bipush dd_X10_count_105 (by decide) ?_
      refine wp_isubC dd_X10_count_107 (by omega) ?_
      refine wp_iald dd_X10_count_108 kk_66 (zlt rfl) (by omega) (by omega) ?_
      refine wp_goto (tgt := 114) dd_X10_count_109 (by decide) ?_
      refine wp_ireturn (st := []) dd_X10_count_114 rfl ?_
      exact k _ (Or.inl ⟨by omega, by omega, I6 (w - 10) (by omega) (by omega)⟩)

set_option maxRecDepth 100000 in
set_option maxHeartbeats 4000000 in
theorem sp_X10_letter {l : Launch} {L : Nat} {mem : zMem} {Q : zQ}  (c : Int) (hI : zInv mem) (k : ∀ (r : Int) (m1 : zMem), ((c < 0 ∧ r = -4 ∧ m1 = zCn mem (-4)) ∨ (0 ≤ c ∧ (255 < c ∨ mem 67 11 = 72) ∧ r = -6 ∧ m1 = zCn mem (-6)) ∨ (0 ≤ c ∧ c ≤ 255 ∧ mem 67 11 < 72 ∧ r = mem 67 11 + 1 ∧ m1 = zu (zu mem 43 (mem 67 11) c) 41 0 (mem 67 11 + 1))) → Q (some (zI r)) (zS L) m1) : zw_Ok l mm_X10_letter [zR 0, zI c] (zS L) mem Q := by
  refine zw_okA (fun hA => ?_)
  have rg_c : -2147483648 ≤ c ∧ c < 2147483648 := hA.2.1
  refine zw_enter (by decide) (Nat.le_of_ble_eq_true rfl) rfl ?_
  show zw_Wp l mm_X10_letter (zS L) 0 [some (zR 0), some (zI c)] [] mem 0 0 Q
  obtain ⟨I1, I2, I3, I4, I5, I6, I7⟩ := id hI
  have hp := I1.1
  have hpr := hp.rg
  have e10 := I1.2.1
  have hn5 := I1.2.2.1
  have e11 := I1.2.2.2.1
  have i31 := I3.1
  have i32 := I3.2.1
  refine wp_iload_n dd_X10_letter_0 rfl ?_
  refine wp_if_ge (tgt := 11) dd_X10_letter_1 (by decide) (fun c1_1 => ?_) (fun c1_1 => ?_)
  · skip
    refine wp_iload_n dd_X10_letter_11 rfl ?_
    refine wp_sipush dd_X10_letter_12 (by decide) ?_
    refine wp_icmp_gt (tgt := 28) dd_X10_letter_15 (by decide) (fun c15_2 => ?_) (fun c15_2 => ?_)
    · skip
      refine wp_aload_n dd_X10_letter_28 rfl ?_
      refine wp_bipush dd_X10_letter_29 (by decide) ?_
      refine wp_callV (M' := mm_X10_refuse) (As := [zI (-6)]) (rest := []) dd_X10_letter_31 lk_X10_76 mV_X10_refuse kk_0 (zlt rfl) ⟨_, _, rfl⟩ rfl (by decide) (by decide) (Nat.le_of_ble_eq_true rfl) rfl (sp_X10_refuse  (-6) (by first | assumption | omega) ?_)
      show zw_Wp l mm_X10_letter (zS L) 34 [some (zR 0), some (zI c)] [zI (-6)] (zCn mem (-6)) 0 0 Q
      refine wp_ireturn (st := []) dd_X10_letter_34 rfl ?_
      exact k _ _ (Or.inr (Or.inl ⟨by omega, by omega, rfl, rfl⟩))
    · skip
      refine wp_aload_n dd_X10_letter_18 rfl ?_
      refine wp_getR dd_X10_letter_19 gf_X10_22 rfl kk_0 (by decide) (zlt rfl) rr_0_2 ?_
      refine wp_callV (M' := mm_X6_isFull) (As := []) (rest := []) dd_X10_letter_22 lk_X10_80 mV_X6_isFull kk_41 (zlt rfl) ⟨_, _, rfl⟩ rfl (by decide) (by decide) (Nat.le_of_ble_eq_true rfl) rfl (sp_X6_isFull    ?_)
      show zw_Wp l mm_X10_letter (zS L) 25 [some (zR 0), some (zI c)] [zI (if 72 ≤ mem 41 0 then 1 else 0)] mem 0 0 Q
      refine wp_if_eq (tgt := 35) dd_X10_letter_25 (by decide) (fun c25_3 => ?_) (fun c25_3 => ?_)
      · skip
        refine wp_aload_n dd_X10_letter_35 rfl ?_
        refine wp_getR dd_X10_letter_36 gf_X10_22 rfl kk_0 (by decide) (zlt rfl) rr_0_2 ?_
        refine wp_iload_n dd_X10_letter_39 rfl ?_
        refine wp_callV (M' := mm_X6_take) (As := [zI c]) (rest := []) dd_X10_letter_40 lk_X10_84 mV_X6_take kk_41 (zlt rfl) ⟨_, _, rfl⟩ rfl (by decide) (by decide) (Nat.le_of_ble_eq_true rfl) rfl (sp_X6_take  c (by first | assumption | omega) ?_)
        show zw_Wp l mm_X10_letter (zS L) 43 [some (zR 0), some (zI c)] [zI (mem 41 0 + 1)] (zu (zu mem 43 (mem 41 0) c) 41 0 (mem 41 0 + 1)) 0 0 Q
        refine wp_ireturn (st := []) dd_X10_letter_43 rfl ?_
        exact k _ _ (Or.inr (Or.inr ⟨by omega, by omega, by omega, by rw [i31], by rw [i31]⟩))
      · skip
        refine wp_aload_n dd_X10_letter_28 rfl ?_
        refine wp_bipush dd_X10_letter_29 (by decide) ?_
        refine wp_callV (M' := mm_X10_refuse) (As := [zI (-6)]) (rest := []) dd_X10_letter_31 lk_X10_76 mV_X10_refuse kk_0 (zlt rfl) ⟨_, _, rfl⟩ rfl (by decide) (by decide) (Nat.le_of_ble_eq_true rfl) rfl (sp_X10_refuse  (-6) (by first | assumption | omega) ?_)
        show zw_Wp l mm_X10_letter (zS L) 34 [some (zR 0), some (zI c)] [zI (-6)] (zCn mem (-6)) 0 0 Q
        refine wp_ireturn (st := []) dd_X10_letter_34 rfl ?_
        exact k _ _ (Or.inr (Or.inl ⟨by omega, by omega, rfl, rfl⟩))
  · skip
    refine wp_aload_n dd_X10_letter_4 rfl ?_
    refine wp_bipush dd_X10_letter_5 (by decide) ?_
    refine wp_callV (M' := mm_X10_refuse) (As := [zI (-4)]) (rest := []) dd_X10_letter_7 lk_X10_76 mV_X10_refuse kk_0 (zlt rfl) ⟨_, _, rfl⟩ rfl (by decide) (by decide) (Nat.le_of_ble_eq_true rfl) rfl (sp_X10_refuse  (-4) (by first | assumption | omega) ?_)
    show zw_Wp l mm_X10_letter (zS L) 10 [some (zR 0), some (zI c)] [zI (-4)] (zCn mem (-4)) 0 0 Q
    refine wp_ireturn (st := []) dd_X10_letter_10 rfl ?_
    exact k _ _ (Or.inl ⟨by omega, rfl, rfl⟩)

set_option maxRecDepth 100000 in
set_option maxHeartbeats 4000000 in
theorem sp_X10_drop {l : Launch} {L : Nat} {mem : zMem} {Q : zQ}   (hI : zInv mem) (k : ∀ (r : Int) (m1 : zMem), ((mem 67 5 = 0 ∧ r = -3 ∧ m1 = zCn mem (-3)) ∨ (mem 67 5 ≠ 0 ∧ r = mem 67 5 - 1 ∧ m1 = zu (zu mem 44 0 0) 1 1 (mem 67 5 - 1))) → Q (some (zI r)) (zS L) m1) : zw_Ok l mm_X10_drop [zR 0] (zS L) mem Q := by
  refine zw_enter (by decide) (Nat.le_of_ble_eq_true rfl) rfl ?_
  show zw_Wp l mm_X10_drop (zS L) 0 [some (zR 0)] [] mem 0 0 Q
  obtain ⟨I1, I2, I3, I4, I5, I6, I7⟩ := id hI
  have hp := I1.1
  have hpr := hp.rg
  have e10 := I1.2.1
  have hn5 := I1.2.2.1
  have e11 := I1.2.2.2.1
  refine wp_aload_n dd_X10_drop_0 rfl ?_
  refine wp_getR dd_X10_drop_1 gf_X10_12 rfl kk_0 (by decide) (zlt rfl) rr_0_0 ?_
  refine wp_getZ 1 rfl dd_X10_drop_4 gf_X10_122 rfl kk_1 (by decide) (zlt rfl) ?_
  refine wp_if_ne (tgt := 17) dd_X10_drop_7 (by decide) (fun c7_1 => ?_) (fun c7_1 => ?_)
  · skip
    refine wp_aload_n dd_X10_drop_17 rfl ?_
    refine wp_getR dd_X10_drop_18 gf_X10_29 rfl kk_0 (by decide) (zlt rfl) rr_0_3 ?_
    refine wp_callV (M' := mm_X3_forget) (As := []) (rest := []) dd_X10_drop_21 lk_X10_95 mV_X3_forget kk_44 (zlt rfl) ⟨_, _, rfl⟩ rfl (by decide) (by decide) (Nat.le_of_ble_eq_true rfl) rfl (sp_X3_forget    ?_)
    show zw_Wp l mm_X10_drop (zS L) 24 [some (zR 0)] [] (zu mem 44 0 0) 0 0 Q
    refine wp_aload_n dd_X10_drop_24 rfl ?_
    refine wp_getR dd_X10_drop_25 gf_X10_12 rfl kk_0 (by decide) (zlt rfl) rr_0_0 ?_
    refine wp_dup dd_X10_drop_28 rfl ?_
    refine wp_getV 1 (v := mem 1 1) rfl (by rw [zu_row (by decide)]) dd_X10_drop_29 gf_X10_122 rfl kk_1 (by decide) (zlt rfl) ?_
    refine wp_iconst dd_X10_drop_32 (zr_lit rfl) ?_
    refine wp_isubC dd_X10_drop_33 (by omega) ?_
    refine wp_putzN 1 rfl dd_X10_drop_34 pn_X10_122 rfl kk_1 (by decide) (zlt rfl) ?_
    refine wp_aload_n dd_X10_drop_37 rfl ?_
    refine wp_getR dd_X10_drop_38 gf_X10_12 rfl kk_0 (by decide) (zlt rfl) rr_0_0 ?_
    refine wp_getV 1 (v := (mem 1 1) - 1) rfl (by rw [zu_s]) dd_X10_drop_41 gf_X10_122 rfl kk_1 (by decide) (zlt rfl) ?_
    refine wp_ireturn (st := []) dd_X10_drop_44 rfl ?_
    exact k _ _ (Or.inr ⟨by omega, by rw [e11], by rw [e11]⟩)
  · skip
    refine wp_aload_n dd_X10_drop_10 rfl ?_
    refine wp_bipush dd_X10_drop_11 (by decide) ?_
    refine wp_callV (M' := mm_X10_refuse) (As := [zI (-3)]) (rest := []) dd_X10_drop_13 lk_X10_76 mV_X10_refuse kk_0 (zlt rfl) ⟨_, _, rfl⟩ rfl (by decide) (by decide) (Nat.le_of_ble_eq_true rfl) rfl (sp_X10_refuse  (-3) (by first | assumption | omega) ?_)
    show zw_Wp l mm_X10_drop (zS L) 16 [some (zR 0)] [zI (-3)] (zCn mem (-3)) 0 0 Q
    refine wp_ireturn (st := []) dd_X10_drop_16 rfl ?_
    exact k _ _ (Or.inl ⟨by omega, rfl, rfl⟩)

set_option maxRecDepth 100000 in
set_option maxHeartbeats 4000000 in
theorem sp_X10_prime {l : Launch} {L : Nat} {mem : zMem} {Q : zQ}  (n : Int) (hI : zInv mem) (k : ∀ (r : Int) (m1 : zMem), ((¬ zPr n ∧ r = -3 ∧ m1 = zCn mem (-3)) ∨ (zPr n ∧ r = mem 67 1 ∧ m1 1 0 = n ∧ m1 1 1 = mem 67 5 ∧ m1 44 0 = 0 ∧ (∀ q : Int, 0 ≤ q → q < mem 67 5 → zPI m1 (zo q) n (mem 70 q) (mem 71 q) (fun y => ztd mem q y % n)) ∧ ∀ a : Nat, a ≠ 1 → a ≠ 44 → (a < 3 ∨ 20 < a) → m1 a = mem a)) → Q (some (zI r)) (zS L) m1) : zw_Ok l mm_X10_prime [zR 0, zI n] (zS L) mem Q := by
  refine zw_okA (fun hA => ?_)
  have rg_n : -2147483648 ≤ n ∧ n < 2147483648 := hA.2.1
  refine zw_enter (by decide) (Nat.le_of_ble_eq_true rfl) rfl ?_
  show zw_Wp l mm_X10_prime (zS L) 0 [some (zR 0), some (zI n), none] [] mem 0 0 Q
  obtain ⟨I1, I2, I3, I4, I5, I6, I7⟩ := id hI
  have hp := I1.1
  have hpr := hp.rg
  have e10 := I1.2.1
  have hn5 := I1.2.2.1
  have e11 := I1.2.2.2.1
  refine wp_iload_n dd_X10_prime_0 rfl ?_
  refine wp_callS (M' := mm_X2_isPrime) (As := [zI n]) (rest := []) dd_X10_prime_1 lk_X10_125 mS_X2_isPrime rfl (by decide) (by decide) (Nat.le_of_ble_eq_true rfl) rfl (sp_X2_isPrime  n I7 (fun rp hrp => ?_))
  show zw_Wp l mm_X10_prime (zS L) 4 [some (zR 0), some (zI n), none] [zI rp] mem 0 0 Q
  refine wp_if_ne (tgt := 14) dd_X10_prime_4 (by decide) (fun c4_1 => ?_) (fun c4_1 => ?_)
  · skip
    have hz : zPr n := by rcases hrp with h | h; exact h.2; omega
    have hzr := hz.rg
    refine wp_aload_n dd_X10_prime_14 rfl ?_
    refine wp_getR dd_X10_prime_15 gf_X10_29 rfl kk_0 (by decide) (zlt rfl) rr_0_3 ?_
    refine wp_callV (M' := mm_X3_forget) (As := []) (rest := []) dd_X10_prime_18 lk_X10_95 mV_X3_forget kk_44 (zlt rfl) ⟨_, _, rfl⟩ rfl (by decide) (by decide) (Nat.le_of_ble_eq_true rfl) rfl (sp_X3_forget    ?_)
    show zw_Wp l mm_X10_prime (zS L) 21 [some (zR 0), some (zI n), none] [] (zu mem 44 0 0) 0 0 Q
    refine wp_aload_n dd_X10_prime_21 rfl ?_
    refine wp_getR dd_X10_prime_22 gf_X10_12 rfl kk_0 (by decide) (zlt rfl) rr_0_0 ?_
    refine wp_getV 0 (v := mem 1 0) rfl (by rw [zu_row (by decide)]) dd_X10_prime_25 gf_X10_114 rfl kk_1 (by decide) (zlt rfl) ?_
    rw [show (mem 1 0 : Int) = mem 67 1 from e10]
    refine wp_istore_n (ls2 := [some (zR 0), some (zI n), some (zI (mem 67 1))]) dd_X10_prime_28 rfl (by decide) rfl ?_
    refine wp_aload_n dd_X10_prime_29 rfl ?_
    refine wp_getR dd_X10_prime_30 gf_X10_12 rfl kk_0 (by decide) (zlt rfl) rr_0_0 ?_
    refine wp_iload_n dd_X10_prime_33 rfl ?_
    refine wp_callV (M' := mm_X8_reduceBy) (As := [zI n]) (rest := []) dd_X10_prime_34 lk_X10_131 mV_X8_reduceBy kk_1 (zlt rfl) ⟨_, _, rfl⟩ rfl (by decide) (by decide) (Nat.le_of_ble_eq_true rfl) rfl (sp_X8_reduceBy  n (by rw [zu_row (by decide)]; omega) (by omega) (fun q q1 q2 => by rw [zu_row (by decide)] at q2; have hq9 := zo_rg (q := q) (by omega); have z := I1.2.2.2.2 q q1 (by omega); rw [zu_row (by omega), z.1, z.2.1]; exact z.2.2.1) (fun ma sa fa ga => ?_))
    show zw_Wp l mm_X10_prime (zS L) 37 [some (zR 0), some (zI n), some (zI (mem 67 1))] [] ma 0 0 Q
    rw [zu_row (by decide)] at sa fa
    refine wp_iload_n dd_X10_prime_37 rfl ?_
    refine wp_ireturn (st := []) dd_X10_prime_38 rfl ?_
    refine k _ _ (Or.inr ⟨hz, rfl, sa.1, by rw [sa.2 1 (by decide)]; exact e11, by rw [ga 44 (by decide) (by decide), zu_s], fun q q1 q2 => ?_, fun a h1 h2 h3 => by rw [ga a h1 h3, zu_row h2]⟩)
    have hq9 := zo_rg (q := q) (by omega)
    have z := I1.2.2.2.2 q q1 q2
    have f9 := fa q q1 (by omega)
    rw [zu_row (show zo q ≠ 44 by omega), zu_row (show zo q + 1 ≠ 44 by omega), z.1, z.2.1] at f9
    exact f9.told (fun x q3 q4 => by rw [(z.2.2.2.1 x q3 q4).1])
  · skip
    refine wp_aload_n dd_X10_prime_7 rfl ?_
    refine wp_bipush dd_X10_prime_8 (by decide) ?_
    refine wp_callV (M' := mm_X10_refuse) (As := [zI (-3)]) (rest := []) dd_X10_prime_10 lk_X10_76 mV_X10_refuse kk_0 (zlt rfl) ⟨_, _, rfl⟩ rfl (by decide) (by decide) (Nat.le_of_ble_eq_true rfl) rfl (sp_X10_refuse  (-3) (by first | assumption | omega) ?_)
    show zw_Wp l mm_X10_prime (zS L) 13 [some (zR 0), some (zI n), none] [zI (-3)] (zCn mem (-3)) 0 0 Q
    refine wp_ireturn (st := []) dd_X10_prime_13 rfl ?_
    exact k _ _ (Or.inl ⟨by rcases hrp with h | h; omega; exact h.2, rfl, rfl⟩)

set_option maxRecDepth 100000 in
set_option maxHeartbeats 4000000 in
theorem sp_X10_turn {l : Launch} {L : Nat} {mem : zMem} {Q : zQ}  (q : Int) (kd : Int) (fg : Int) (hI : zInv mem) (k : ∀ (r : Int) (m1 : zMem), ((zyT mem q kd fg ≠ 0 ∧ r = zyT mem q kd fg ∧ m1 = zCn mem (zyT mem q kd fg)) ∨ (zyT mem q kd fg = 0 ∧ r = 10 * mem 70 q + mem 71 q ∧ zNt mem m1 q (-1) (10 * mem 70 q + mem 71 q) ∧ zPI m1 (zo q) (mem 67 1) kd fg (ztd mem q) ∧ zFq mem m1 q)) → Q (some (zI r)) (zS L) m1) : zw_Ok l mm_X10_turn [zR 0, zI q, zI kd, zI fg] (zS L) mem Q := by
  refine zw_okA (fun hA => ?_)
  have rg_q : -2147483648 ≤ q ∧ q < 2147483648 := hA.2.1
  have rg_kd : -2147483648 ≤ kd ∧ kd < 2147483648 := hA.2.2.1
  have rg_fg : -2147483648 ≤ fg ∧ fg < 2147483648 := hA.2.2.2.1
  refine zw_enter (by decide) (Nat.le_of_ble_eq_true rfl) rfl ?_
  show zw_Wp l mm_X10_turn (zS L) 0 [some (zR 0), some (zI q), some (zI kd), some (zI fg), none, none] [] mem 0 0 Q
  obtain ⟨I1, I2, I3, I4, I5, I6, I7⟩ := id hI
  have hp := I1.1
  have hpr := hp.rg
  have e10 := I1.2.1
  have hn5 := I1.2.2.1
  have e11 := I1.2.2.2.1
  refine wp_aload_n dd_X10_turn_0 rfl ?_
  refine wp_getR dd_X10_turn_1 gf_X10_12 rfl kk_0 (by decide) (zlt rfl) rr_0_0 ?_
  refine wp_iload_n dd_X10_turn_4 rfl ?_
  refine wp_callV (M' := mm_X8_has) (As := [zI q]) (rest := []) dd_X10_turn_5 lk_X10_132 mV_X8_has kk_1 (zlt rfl) ⟨_, _, rfl⟩ rfl (by decide) (by decide) (Nat.le_of_ble_eq_true rfl) rfl (sp_X8_has  q  ?_)
  show zw_Wp l mm_X10_turn (zS L) 8 [some (zR 0), some (zI q), some (zI kd), some (zI fg), none, none] [zI (if 0 ≤ q ∧ q < mem 1 1 then 1 else 0)] mem 0 0 Q
  refine wp_if_ne (tgt := 17) dd_X10_turn_8 (by decide) (fun c8_1 => ?_) (fun c8_1 => ?_)
  · skip
    refine wp_iload_n dd_X10_turn_17 rfl ?_
    refine wp_if_lt (tgt := 26) dd_X10_turn_18 (by decide) (fun c18_2 => ?_) (fun c18_2 => ?_)
    · skip
      refine wp_aload_n dd_X10_turn_26 rfl ?_
      refine wp_bipush dd_X10_turn_27 (by decide) ?_
      refine wp_callV (M' := mm_X10_refuse) (As := [zI (-2)]) (rest := []) dd_X10_turn_29 lk_X10_76 mV_X10_refuse kk_0 (zlt rfl) ⟨_, _, rfl⟩ rfl (by decide) (by decide) (Nat.le_of_ble_eq_true rfl) rfl (sp_X10_refuse  (-2) (by first | assumption | omega) ?_)
      show zw_Wp l mm_X10_turn (zS L) 32 [some (zR 0), some (zI q), some (zI kd), some (zI fg), none, none] [zI (-2)] (zCn mem (-2)) 0 0 Q
      refine wp_ireturn (st := []) dd_X10_turn_32 rfl ?_
      have hw : zyT mem q kd fg = (-2) := by unfold zyT; (repeat first | rw [if_pos (by omega)] | rw [if_neg (by omega)]); try omega
      exact k _ _ (Or.inl ⟨by rw [hw]; decide, hw.symm, by rw [hw]⟩)
    · skip
      refine wp_iload_n dd_X10_turn_21 rfl ?_
      refine wp_iconst dd_X10_turn_22 (zr_lit rfl) ?_
      refine wp_icmp_le (tgt := 33) dd_X10_turn_23 (by decide) (fun c23_3 => ?_) (fun c23_3 => ?_)
      · skip
        refine wp_iload_n dd_X10_turn_33 rfl ?_
        refine wp_if_ge (tgt := 44) dd_X10_turn_34 (by decide) (fun c34_4 => ?_) (fun c34_4 => ?_)
        · skip
          refine wp_iload_n dd_X10_turn_44 rfl ?_
          refine wp_bipush dd_X10_turn_45 (by decide) ?_
          refine wp_icmp_le (tgt := 57) dd_X10_turn_47 (by decide) (fun c47_5 => ?_) (fun c47_5 => ?_)
          · skip
            have hqq : 0 ≤ q ∧ q < 6 := by omega
            have hTq := I1.T (q := q) (by omega) (by omega)
            have hCq := I1.C (q := q) (by omega) (by omega)
            have hcrq := zco_rg hp hTq
            have hzoq := zo_rg hqq
            have hPI := I1.2.2.2.2 q (by omega) (by omega)
            have hk9 := hPI.2.2.1
            refine wp_aload_n dd_X10_turn_57 rfl ?_
            refine wp_getR dd_X10_turn_58 gf_X10_12 rfl kk_0 (by decide) (zlt rfl) rr_0_0 ?_
            refine wp_getR dd_X10_turn_61 gf_X10_135 rfl kk_1 (by decide) (zlt rfl) rr_1_2 ?_
            refine wp_iload_n dd_X10_turn_64 rfl ?_
            refine wp_aald dd_X10_turn_65 kk_2 (zlt rfl) (by omega) (by omega) (zr2 rfl hqq) ?_
            refine wp_astore (ls2 := [some (zR 0), some (zI q), some (zI kd), some (zI fg), some (zR (zo q)), none]) dd_X10_turn_66 rfl (by decide) rfl ?_
            refine wp_bipush dd_X10_turn_68 (by decide) ?_
            refine wp_aload dd_X10_turn_70 rfl ?_
            refine wp_getZ 0 rfl dd_X10_turn_72 gf_X10_139 rfl (zoP hqq).k (by decide) (zoP hqq).i ?_
            rw [show (mem (zo q) 0 : Int) = mem 70 q from hPI.1]
            refine wp_imulC dd_X10_turn_75 (by omega) ?_
            refine wp_aload dd_X10_turn_76 rfl ?_
            refine wp_getZ 1 rfl dd_X10_turn_78 gf_X10_142 rfl (zoP hqq).k (by decide) (zoP hqq).i ?_
            rw [show (mem (zo q) 1 : Int) = mem 71 q from hPI.2.1]
            refine wp_iaddC dd_X10_turn_81 (by omega) ?_
            refine wp_istore (ls2 := [some (zR 0), some (zI q), some (zI kd), some (zI fg), some (zR (zo q)), some (zI ((10 * (mem 70 q)) + (mem 71 q)))]) dd_X10_turn_82 rfl (by decide) rfl ?_
            refine wp_aload_n dd_X10_turn_84 rfl ?_
            refine wp_getR dd_X10_turn_85 gf_X10_29 rfl kk_0 (by decide) (zlt rfl) rr_0_3 ?_
            refine wp_iload_n dd_X10_turn_88 rfl ?_
            refine wp_iconst dd_X10_turn_89 (zr_lit rfl) ?_
            refine wp_iload dd_X10_turn_90 rfl ?_
            refine wp_callV (M' := mm_X3_note) (As := [zI q, zI (-1), zI ((10 * (mem 70 q)) + (mem 71 q))]) (rest := []) dd_X10_turn_92 lk_X10_145 mV_X3_note kk_44 (zlt rfl) ⟨_, _, rfl⟩ rfl (by decide) (by decide) (Nat.le_of_ble_eq_true rfl) rfl (sp_X3_note  q (-1) ((10 * (mem 70 q)) + (mem 71 q)) (by have := I4.1; have := I4.2.1; omega) (fun ma sa fa ga => ?_))
            show zw_Wp l mm_X10_turn (zS L) 95 [some (zR 0), some (zI q), some (zI kd), some (zI fg), some (zR (zo q)), some (zI ((10 * (mem 70 q)) + (mem 71 q)))] [] ma 0 0 Q
            have a10 : ma 1 0 = mem 67 1 := by rw [ga 1 (by decide) (by decide) (by decide) (by decide)]; exact e10
            have ao1 : ma (zo q + 1) = mem (zo q + 1) := ga _ (by omega) (by omega) (by omega) (by omega)
            refine wp_aload dd_X10_turn_95 rfl ?_
            refine wp_iload_n dd_X10_turn_97 rfl ?_
            refine wp_iload_n dd_X10_turn_98 rfl ?_
            refine wp_aload_n dd_X10_turn_99 rfl ?_
            refine wp_getR dd_X10_turn_100 gf_X10_12 rfl kk_0 (by decide) (zlt rfl) rr_0_0 ?_
            refine wp_getZ 0 rfl dd_X10_turn_103 gf_X10_114 rfl kk_1 (by decide) (zlt rfl) ?_
            refine wp_callV (M' := mm_X4_become) (As := [zI kd, zI fg, zI (ma 1 0)]) (rest := []) dd_X10_turn_106 lk_X10_149 mV_X4_become (zoP hqq).k (zoP hqq).i ⟨_, _, rfl⟩ rfl (by decide) (by decide) (Nat.le_of_ble_eq_true rfl) rfl (sp_X4_become  (zo q) kd fg (ma 1 0) (zoP hqq) (by rw [a10]; exact hpr) (by omega) (by omega) (fun x q1 q2 => by rw [ao1, a10, (hPI.2.2.2.1 x q1 q2).1]; exact (hPI.2.2.2.1 x q1 q2).2) (fun mb fb gb => ?_))
            show zw_Wp l mm_X10_turn (zS L) 109 [some (zR 0), some (zI q), some (zI kd), some (zI fg), some (zR (zo q)), some (zI ((10 * (mem 70 q)) + (mem 71 q)))] [] mb 0 0 Q
            refine wp_iload dd_X10_turn_109 rfl ?_
            refine wp_ireturn (st := []) dd_X10_turn_111 rfl ?_
            have hw : zyT mem q kd fg = 0 := by unfold zyT; (repeat first | rw [if_pos (by omega)] | rw [if_neg (by omega)]); try omega
            rw [a10, ao1] at fb
            refine k _ _ (Or.inr ⟨hw, rfl, ⟨?_, fun k9 q1 q2 => ?_⟩, fb.told (fun x q1 q2 => (hPI.2.2.2.1 x q1 q2).1), fun a h1 h2 h3 h4 h5 h6 h7 => ?_⟩)
            · rw [gb 44 (by omega) (by omega)]; exact sa.1
            · rw [gb 45 (by omega) (by omega), gb 46 (by omega) (by omega), gb 47 (by omega) (by omega)]; exact fa k9 q1 q2
            · rw [gb a h5 h7]; exact ga a h1 h2 h3 h4
          · skip
            refine wp_aload_n dd_X10_turn_50 rfl ?_
            refine wp_bipush dd_X10_turn_51 (by decide) ?_
            refine wp_callV (M' := mm_X10_refuse) (As := [zI (-6)]) (rest := []) dd_X10_turn_53 lk_X10_76 mV_X10_refuse kk_0 (zlt rfl) ⟨_, _, rfl⟩ rfl (by decide) (by decide) (Nat.le_of_ble_eq_true rfl) rfl (sp_X10_refuse  (-6) (by first | assumption | omega) ?_)
            show zw_Wp l mm_X10_turn (zS L) 56 [some (zR 0), some (zI q), some (zI kd), some (zI fg), none, none] [zI (-6)] (zCn mem (-6)) 0 0 Q
            refine wp_ireturn (st := []) dd_X10_turn_56 rfl ?_
            have hw : zyT mem q kd fg = (-6) := by unfold zyT; (repeat first | rw [if_pos (by omega)] | rw [if_neg (by omega)]); try omega
            exact k _ _ (Or.inl ⟨by rw [hw]; decide, hw.symm, by rw [hw]⟩)
        · skip
          refine wp_aload_n dd_X10_turn_37 rfl ?_
          refine wp_bipush dd_X10_turn_38 (by decide) ?_
          refine wp_callV (M' := mm_X10_refuse) (As := [zI (-4)]) (rest := []) dd_X10_turn_40 lk_X10_76 mV_X10_refuse kk_0 (zlt rfl) ⟨_, _, rfl⟩ rfl (by decide) (by decide) (Nat.le_of_ble_eq_true rfl) rfl (sp_X10_refuse  (-4) (by first | assumption | omega) ?_)
          show zw_Wp l mm_X10_turn (zS L) 43 [some (zR 0), some (zI q), some (zI kd), some (zI fg), none, none] [zI (-4)] (zCn mem (-4)) 0 0 Q
          refine wp_ireturn (st := []) dd_X10_turn_43 rfl ?_
          have hw : zyT mem q kd fg = (-4) := by unfold zyT; (repeat first | rw [if_pos (by omega)] | rw [if_neg (by omega)]); try omega
          exact k _ _ (Or.inl ⟨by rw [hw]; decide, hw.symm, by rw [hw]⟩)
      · skip
        refine wp_aload_n dd_X10_turn_26 rfl ?_
        refine wp_bipush dd_X10_turn_27 (by decide) ?_
        refine wp_callV (M' := mm_X10_refuse) (As := [zI (-2)]) (rest := []) dd_X10_turn_29 lk_X10_76 mV_X10_refuse kk_0 (zlt rfl) ⟨_, _, rfl⟩ rfl (by decide) (by decide) (Nat.le_of_ble_eq_true rfl) rfl (sp_X10_refuse  (-2) (by first | assumption | omega) ?_)
        show zw_Wp l mm_X10_turn (zS L) 32 [some (zR 0), some (zI q), some (zI kd), some (zI fg), none, none] [zI (-2)] (zCn mem (-2)) 0 0 Q
        refine wp_ireturn (st := []) dd_X10_turn_32 rfl ?_
        have hw : zyT mem q kd fg = (-2) := by unfold zyT; (repeat first | rw [if_pos (by omega)] | rw [if_neg (by omega)]); try omega
        exact k _ _ (Or.inl ⟨by rw [hw]; decide, hw.symm, by rw [hw]⟩)
  · skip
    refine wp_aload_n dd_X10_turn_11 rfl ?_
    refine wp_iconst dd_X10_turn_12 (zr_lit rfl) ?_
    refine wp_callV (M' := mm_X10_refuse) (As := [zI (-1)]) (rest := []) dd_X10_turn_13 lk_X10_76 mV_X10_refuse kk_0 (zlt rfl) ⟨_, _, rfl⟩ rfl (by decide) (by decide) (Nat.le_of_ble_eq_true rfl) rfl (sp_X10_refuse  (-1) (by first | assumption | omega) ?_)
    show zw_Wp l mm_X10_turn (zS L) 16 [some (zR 0), some (zI q), some (zI kd), some (zI fg), none, none] [zI (-1)] (zCn mem (-1)) 0 0 Q
    refine wp_ireturn (st := []) dd_X10_turn_16 rfl ?_
    have hw : zyT mem q kd fg = (-1) := by unfold zyT; (repeat first | rw [if_pos (by omega)] | rw [if_neg (by omega)]); try omega
    exact k _ _ (Or.inl ⟨by rw [hw]; decide, hw.symm, by rw [hw]⟩)

set_option maxRecDepth 100000 in
set_option maxHeartbeats 4000000 in
theorem sp_X10_change {l : Launch} {L : Nat} {mem : zMem} {Q : zQ}  (q : Int) (i : Int) (j : Int) (v : Int) (hI : zInv mem) (k : ∀ (r : Int) (m1 : zMem), ((zyP mem q i j ≠ 0 ∧ r = zyP mem q i j ∧ m1 = zCn mem (zyP mem q i j)) ∨ (zyP mem q i j = 0 ∧ r = ztd mem q (5 * i + j) ∧ zNt mem m1 q (5 * i + j) (ztd mem q (5 * i + j)) ∧ zPI m1 (zo q) (mem 67 1) (mem 70 q) (mem 71 q) (fun y => if y = 5 * i + j then v % mem 67 1 else ztd mem q y) ∧ zFq mem m1 q)) → Q (some (zI r)) (zS L) m1) : zw_Ok l mm_X10_change [zR 0, zI q, zI i, zI j, zI v] (zS L) mem Q := by
  refine zw_okA (fun hA => ?_)
  have rg_q : -2147483648 ≤ q ∧ q < 2147483648 := hA.2.1
  have rg_i : -2147483648 ≤ i ∧ i < 2147483648 := hA.2.2.1
  have rg_j : -2147483648 ≤ j ∧ j < 2147483648 := hA.2.2.2.1
  have rg_v : -2147483648 ≤ v ∧ v < 2147483648 := hA.2.2.2.2.1
  refine zw_enter (by decide) (Nat.le_of_ble_eq_true rfl) rfl ?_
  show zw_Wp l mm_X10_change (zS L) 0 [some (zR 0), some (zI q), some (zI i), some (zI j), some (zI v), none, none, none, none] [] mem 0 0 Q
  obtain ⟨I1, I2, I3, I4, I5, I6, I7⟩ := id hI
  have hp := I1.1
  have hpr := hp.rg
  have e10 := I1.2.1
  have hn5 := I1.2.2.1
  have e11 := I1.2.2.2.1
  refine wp_aload_n dd_X10_change_0 rfl ?_
  refine wp_iload_n dd_X10_change_1 rfl ?_
  refine wp_iload_n dd_X10_change_2 rfl ?_
  refine wp_iload_n dd_X10_change_3 rfl ?_
  refine wp_callV (M' := mm_X10_powersRefusal) (As := [zI q, zI i, zI j]) (rest := []) dd_X10_change_4 lk_X10_152 mV_X10_powersRefusal kk_0 (zlt rfl) ⟨_, _, rfl⟩ rfl (by decide) (by decide) (Nat.le_of_ble_eq_true rfl) rfl (sp_X10_powersRefusal  q i j hI ?_)
  show zw_Wp l mm_X10_change (zS L) 7 [some (zR 0), some (zI q), some (zI i), some (zI j), some (zI v), none, none, none, none] [zI (zyP mem q i j)] mem 0 0 Q
  have hyc : zyP mem q i j = 0 ∨ (-6 ≤ zyP mem q i j ∧ zyP mem q i j ≤ -1) := by unfold zyP; omega
  have hy0 : zyP mem q i j = 0 → ((0 ≤ q ∧ q < mem 67 5) ∧ 0 ≤ i ∧ i ≤ 4 ∧ 0 ≤ j ∧ j ≤ 4) := by unfold zyP; omega
  refine wp_istore (ls2 := [some (zR 0), some (zI q), some (zI i), some (zI j), some (zI v), some (zI (zyP mem q i j)), none, none, none]) dd_X10_change_7 rfl (by decide) rfl ?_
  refine wp_iload dd_X10_change_9 rfl ?_
  refine wp_if_eq (tgt := 21) dd_X10_change_11 (by decide) (fun c11_1 => ?_) (fun c11_1 => ?_)
  · skip
    have hy1 := hy0 (by assumption)
    have hqq : 0 ≤ q ∧ q < 6 := by omega
    have hTq := I1.T (q := q) (by omega) (by omega)
    have hCq := I1.C (q := q) (by omega) (by omega)
    have hcrq := zco_rg hp hTq
    have hzoq := zo_rg hqq
    have hPI := I1.2.2.2.2 q (by omega) (by omega)
    have hk9 := hPI.2.2.1
    have hold := (hPI.2.2.2.1 (5 * i + j) (by omega) (by omega)).1
    refine wp_aload_n dd_X10_change_21 rfl ?_
    refine wp_getR dd_X10_change_22 gf_X10_12 rfl kk_0 (by decide) (zlt rfl) rr_0_0 ?_
    refine wp_getR dd_X10_change_25 gf_X10_135 rfl kk_1 (by decide) (zlt rfl) rr_1_2 ?_
    refine wp_iload_n dd_X10_change_28 rfl ?_
    refine wp_aald dd_X10_change_29 kk_2 (zlt rfl) (by omega) (by omega) (zr2 rfl hqq) ?_
    refine wp_astore (ls2 := [some (zR 0), some (zI q), some (zI i), some (zI j), some (zI v), some (zI (zyP mem q i j)), some (zR (zo q)), none, none]) dd_X10_change_30 rfl (by decide) rfl ?_
    refine wp_iconst dd_X10_change_32 (zr_lit rfl) ?_
    refine wp_iload_n dd_X10_change_33 rfl ?_
    refine wp_imulC dd_X10_change_34 (by omega) ?_
    refine wp_iload_n dd_X10_change_35 rfl ?_
    refine wp_iaddC dd_X10_change_36 (by omega) ?_
    refine wp_istore (ls2 := [some (zR 0), some (zI q), some (zI i), some (zI j), some (zI v), some (zI (zyP mem q i j)), some (zR (zo q)), some (zI ((5 * i) + j)), none]) dd_X10_change_37 rfl (by decide) rfl ?_
    refine wp_aload dd_X10_change_39 rfl ?_
    refine wp_getR dd_X10_change_41 gf_X10_103 rfl (zoP hqq).k (by decide) (zoP hqq).i (zoP hqq).t ?_
    refine wp_iload dd_X10_change_44 rfl ?_
    refine wp_iald dd_X10_change_46 (zoP hqq).kt (zoP hqq).it (by omega) (by omega) ?_
    rw [show (mem (zo q + 1) ((5 * i) + j) : Int) = ztd mem q (5 * i + j) from hold]
    refine wp_istore (ls2 := [some (zR 0), some (zI q), some (zI i), some (zI j), some (zI v), some (zI (zyP mem q i j)), some (zR (zo q)), some (zI ((5 * i) + j)), some (zI (ztd mem q (5 * i + j)))]) dd_X10_change_47 rfl (by decide) rfl ?_
    refine wp_aload_n dd_X10_change_49 rfl ?_
    refine wp_getR dd_X10_change_50 gf_X10_29 rfl kk_0 (by decide) (zlt rfl) rr_0_3 ?_
    refine wp_iload_n dd_X10_change_53 rfl ?_
    refine wp_iload dd_X10_change_54 rfl ?_
    refine wp_iload dd_X10_change_56 rfl ?_
    refine wp_callV (M' := mm_X3_note) (As := [zI q, zI ((5 * i) + j), zI (ztd mem q (5 * i + j))]) (rest := []) dd_X10_change_58 lk_X10_145 mV_X3_note kk_44 (zlt rfl) ⟨_, _, rfl⟩ rfl (by decide) (by decide) (Nat.le_of_ble_eq_true rfl) rfl (sp_X3_note  q ((5 * i) + j) (ztd mem q (5 * i + j)) (by have := I4.1; have := I4.2.1; omega) (fun ma sa fa ga => ?_))
    show zw_Wp l mm_X10_change (zS L) 61 [some (zR 0), some (zI q), some (zI i), some (zI j), some (zI v), some (zI (zyP mem q i j)), some (zR (zo q)), some (zI ((5 * i) + j)), some (zI (ztd mem q (5 * i + j)))] [] ma 0 0 Q
    have a10 : ma 1 0 = mem 67 1 := by rw [ga 1 (by decide) (by decide) (by decide) (by decide)]; exact e10
    have ao1 : ma (zo q + 1) = mem (zo q + 1) := ga _ (by omega) (by omega) (by omega) (by omega)
    have ao : ma (zo q) = mem (zo q) := ga _ (by omega) (by omega) (by omega) (by omega)
    refine wp_aload dd_X10_change_61 rfl ?_
    refine wp_iload dd_X10_change_63 rfl ?_
    refine wp_iload dd_X10_change_65 rfl ?_
    refine wp_aload_n dd_X10_change_67 rfl ?_
    refine wp_getR dd_X10_change_68 gf_X10_12 rfl kk_0 (by decide) (zlt rfl) rr_0_0 ?_
    refine wp_getZ 0 rfl dd_X10_change_71 gf_X10_114 rfl kk_1 (by decide) (zlt rfl) ?_
    refine wp_callV (M' := mm_X4_tell) (As := [zI ((5 * i) + j), zI v, zI (ma 1 0)]) (rest := []) dd_X10_change_74 lk_X10_156 mV_X4_tell (zoP hqq).k (zoP hqq).i ⟨_, _, rfl⟩ rfl (by decide) (by decide) (Nat.le_of_ble_eq_true rfl) rfl (sp_X4_tell  (zo q) ((5 * i) + j) v (ma 1 0) (zoP hqq) (by rw [a10]; exact hpr) (by omega) (by rw [ao, hPI.1]; exact hk9.1) (by rw [ao, hPI.2.1]; exact hk9.2) (fun x q1 q2 => by rw [ao1, a10, (hPI.2.2.2.1 x q1 q2).1]; exact (hPI.2.2.2.1 x q1 q2).2) (fun mb fb gb => ?_))
    show zw_Wp l mm_X10_change (zS L) 77 [some (zR 0), some (zI q), some (zI i), some (zI j), some (zI v), some (zI (zyP mem q i j)), some (zR (zo q)), some (zI ((5 * i) + j)), some (zI (ztd mem q (5 * i + j)))] [] mb 0 0 Q
    refine wp_iload dd_X10_change_77 rfl ?_
    refine wp_ireturn (st := []) dd_X10_change_79 rfl ?_
    rw [a10, ao1, ao, hPI.1, hPI.2.1] at fb
    refine k _ _ (Or.inr ⟨by assumption, rfl, ⟨?_, fun k9 q1 q2 => ?_⟩, fb.told (fun x q1 q2 => ?_), fun a h1 h2 h3 h4 h5 h6 h7 => ?_⟩)
    · rw [gb 44 (by omega) (by omega)]; exact sa.1
    · rw [gb 45 (by omega) (by omega), gb 46 (by omega) (by omega), gb 47 (by omega) (by omega)]; exact fa k9 q1 q2
    · by_cases e : x = 5 * i + j
      · rw [if_pos e, if_pos e]
      · rw [if_neg e, if_neg e]; exact (hPI.2.2.2.1 x q1 q2).1
    · rw [gb a h6 h7]; exact ga a h1 h2 h3 h4
  · skip
    refine wp_aload_n dd_X10_change_14 rfl ?_
    refine wp_iload dd_X10_change_15 rfl ?_
    refine wp_callV (M' := mm_X10_refuse) (As := [zI (zyP mem q i j)]) (rest := []) dd_X10_change_17 lk_X10_76 mV_X10_refuse kk_0 (zlt rfl) ⟨_, _, rfl⟩ rfl (by decide) (by decide) (Nat.le_of_ble_eq_true rfl) rfl (sp_X10_refuse  (zyP mem q i j) (by first | assumption | omega) ?_)
    show zw_Wp l mm_X10_change (zS L) 20 [some (zR 0), some (zI q), some (zI i), some (zI j), some (zI v), some (zI (zyP mem q i j)), none, none, none] [zI (zyP mem q i j)] (zCn mem (zyP mem q i j)) 0 0 Q
    refine wp_ireturn (st := []) dd_X10_change_20 rfl ?_
    exact k _ _ (Or.inl ⟨by assumption, rfl, rfl⟩)


/-! ===== the class: past, lists ===== -/
def zfo (f : Int → Int) : Int → Int := fun k => if 0 ≤ k ∧ k < 15 then f (k + 1) else f k
theorem zcp_fo {m : zMem} {i : Nat} : zcp m i 1 i 0 15 i = zfo (m i) := by
  funext k
  unfold zcp zfo
  by_cases h : 0 ≤ k ∧ k < 15
  · rw [if_pos h, if_pos ⟨rfl, h.1, by omega⟩, show (1 : Int) + (k - 0) = k + 1 by omega]
  · rw [if_neg h, if_neg (fun q => h ⟨q.2.1, by have := q.2.2; omega⟩)]
theorem zsh1_16 {f : Int → Int} {v k : Int} : zsh1 f 16 v k = if k = 15 then v else zfo f k := by
  unfold zsh1 zfo
  rw [if_pos rfl]
theorem zsh1_lt {f : Int → Int} {n v k : Int} (h : n ≠ 16) : zsh1 f n v k = if k = n then v else f k := by
  unfold zsh1
  rw [if_neg h]

set_option maxRecDepth 100000 in
set_option maxHeartbeats 4000000 in
theorem sp_X3_forget {l : Launch} {L : Nat} {mem : zMem} {Q : zQ}    (k : Q none (zS L) (zu mem 44 0 0)) : zw_Ok l mm_X3_forget [zR 44] (zS L) mem Q := by
  refine zw_enter (by decide) (Nat.le_of_ble_eq_true rfl) rfl ?_
  show zw_Wp l mm_X3_forget (zS L) 0 [some (zR 44)] [] mem 0 0 Q
  refine wp_aload_n dd_X3_forget_0 rfl ?_
  refine wp_iconst dd_X3_forget_1 (zr_lit rfl) ?_
  refine wp_putzI 0 rfl dd_X3_forget_2 pf_X3_19 rfl kk_44 (by decide) (zlt rfl) ?_
  refine wp_return (st := []) dd_X3_forget_5 rfl ?_
  exact k

set_option maxRecDepth 100000 in
set_option maxHeartbeats 4000000 in
theorem sp_X3_forgetOldest {l : Launch} {L : Nat} {mem : zMem} {Q : zQ}    (k : ∀ (mem2 : zMem), (mem2 44 0 = 15 ∧ ∀ s : Int, s ≠ 0 → mem2 44 s = mem 44 s) → (mem2 45 = zfo (mem 45) ∧ mem2 46 = zfo (mem 46) ∧ mem2 47 = zfo (mem 47)) → (∀ a : Nat, a ≠ 44 → a ≠ 45 → a ≠ 46 → a ≠ 47 → mem2 a = mem a) → Q none (zS L) mem2) : zw_Ok l mm_X3_forgetOldest [zR 44] (zS L) mem Q := by
  refine zw_enter (by decide) (Nat.le_of_ble_eq_true rfl) rfl ?_
  show zw_Wp l mm_X3_forgetOldest (zS L) 0 [some (zR 44)] [] mem 0 0 Q
  refine wp_aload_n dd_X3_forgetOldest_0 rfl ?_
  refine wp_bipush dd_X3_forgetOldest_1 (by decide) ?_
  refine wp_putzI 0 rfl dd_X3_forgetOldest_3 pf_X3_19 rfl kk_44 (by decide) (zlt rfl) ?_
  refine wp_aload_n dd_X3_forgetOldest_6 rfl ?_
  refine wp_getR dd_X3_forgetOldest_7 gf_X3_9 rfl kk_44 (by decide) (zlt rfl) rr_44_1 ?_
  refine wp_iconst dd_X3_forgetOldest_10 (zr_lit rfl) ?_
  refine wp_aload_n dd_X3_forgetOldest_11 rfl ?_
  refine wp_getR dd_X3_forgetOldest_12 gf_X3_9 rfl kk_44 (by decide) (zlt rfl) rr_44_1 ?_
  refine wp_iconst dd_X3_forgetOldest_15 (zr_lit rfl) ?_
  refine wp_aload_n dd_X3_forgetOldest_16 rfl ?_
  refine wp_getV 0 (v := 15) rfl (by rw [zu_s]) dd_X3_forgetOldest_17 gf_X3_19 rfl kk_44 (by decide) (zlt rfl) ?_
  refine wp_copy dd_X3_forgetOldest_20 lk_X3_26 kk_45 (zlt rfl) kk_45 (zlt rfl) (by omega) (by omega) (by omega) (by omega) (by omega) (by decide) (by decide) ?_
  refine wp_aload_n dd_X3_forgetOldest_23 rfl ?_
  refine wp_getR dd_X3_forgetOldest_24 gf_X3_13 rfl kk_44 (by decide) (zlt rfl) rr_44_2 ?_
  refine wp_iconst dd_X3_forgetOldest_27 (zr_lit rfl) ?_
  refine wp_aload_n dd_X3_forgetOldest_28 rfl ?_
  refine wp_getR dd_X3_forgetOldest_29 gf_X3_13 rfl kk_44 (by decide) (zlt rfl) rr_44_2 ?_
  refine wp_iconst dd_X3_forgetOldest_32 (zr_lit rfl) ?_
  refine wp_aload_n dd_X3_forgetOldest_33 rfl ?_
  refine wp_getV 0 (v := 15) rfl (by rw [zcp_row (by decide), zu_s]) dd_X3_forgetOldest_34 gf_X3_19 rfl kk_44 (by decide) (zlt rfl) ?_
  refine wp_copy dd_X3_forgetOldest_37 lk_X3_26 kk_46 (zlt rfl) kk_46 (zlt rfl) (by omega) (by omega) (by omega) (by omega) (by omega) (by decide) (by decide) ?_
  refine wp_aload_n dd_X3_forgetOldest_40 rfl ?_
  refine wp_getR dd_X3_forgetOldest_41 gf_X3_16 rfl kk_44 (by decide) (zlt rfl) rr_44_3 ?_
  refine wp_iconst dd_X3_forgetOldest_44 (zr_lit rfl) ?_
  refine wp_aload_n dd_X3_forgetOldest_45 rfl ?_
  refine wp_getR dd_X3_forgetOldest_46 gf_X3_16 rfl kk_44 (by decide) (zlt rfl) rr_44_3 ?_
  refine wp_iconst dd_X3_forgetOldest_49 (zr_lit rfl) ?_
  refine wp_aload_n dd_X3_forgetOldest_50 rfl ?_
  refine wp_getV 0 (v := 15) rfl (by rw [zcp_row (by decide), zcp_row (by decide), zu_s]) dd_X3_forgetOldest_51 gf_X3_19 rfl kk_44 (by decide) (zlt rfl) ?_
  refine wp_copy dd_X3_forgetOldest_54 lk_X3_26 kk_47 (zlt rfl) kk_47 (zlt rfl) (by omega) (by omega) (by omega) (by omega) (by omega) (by decide) (by decide) ?_
  refine wp_return (st := []) dd_X3_forgetOldest_57 rfl ?_
  refine k _ ⟨?_, fun s hs => ?_⟩ ⟨?_, ?_, ?_⟩ (fun a h1 h2 h3 h4 => ?_)
  · rw [zcp_row (by decide), zcp_row (by decide), zcp_row (by decide), zu_s]
  · rw [zcp_row (by decide), zcp_row (by decide), zcp_row (by decide), zu_n (Or.inr hs)]
  · rw [zcp_row (by decide), zcp_row (by decide), zcp_fo, zu_row (by decide)]
  · rw [zcp_row (by decide), zcp_fo, zcp_row (by decide), zu_row (by decide)]
  · rw [zcp_fo, zcp_row (by decide), zcp_row (by decide), zu_row (by decide)]
  · rw [zcp_row h4, zcp_row h3, zcp_row h2, zu_row h1]

set_option maxRecDepth 100000 in
set_option maxHeartbeats 4000000 in
theorem sp_X3_note {l : Launch} {L : Nat} {mem : zMem} {Q : zQ}  (w : Int) (x : Int) (v : Int) (hu : 0 ≤ mem 44 0 ∧ mem 44 0 ≤ 16) (k : ∀ (mem2 : zMem), (mem2 44 0 = znn (mem 44 0) ∧ ∀ s : Int, s ≠ 0 → mem2 44 s = mem 44 s) → (∀ k : Int, 0 ≤ k → k < 16 → mem2 45 k = zsh1 (mem 45) (mem 44 0) w k ∧ mem2 46 k = zsh1 (mem 46) (mem 44 0) x k ∧ mem2 47 k = zsh1 (mem 47) (mem 44 0) v k) → (∀ a : Nat, a ≠ 44 → a ≠ 45 → a ≠ 46 → a ≠ 47 → mem2 a = mem a) → Q none (zS L) mem2) : zw_Ok l mm_X3_note [zR 44, zI w, zI x, zI v] (zS L) mem Q := by
  refine zw_okA (fun hA => ?_)
  have rg_w : -2147483648 ≤ w ∧ w < 2147483648 := hA.2.1
  have rg_x : -2147483648 ≤ x ∧ x < 2147483648 := hA.2.2.1
  have rg_v : -2147483648 ≤ v ∧ v < 2147483648 := hA.2.2.2.1
  refine zw_enter (by decide) (Nat.le_of_ble_eq_true rfl) rfl ?_
  show zw_Wp l mm_X3_note (zS L) 0 [some (zR 44), some (zI w), some (zI x), some (zI v)] [] mem 0 0 Q
  refine wp_aload_n dd_X3_note_0 rfl ?_
  refine wp_getZ 0 rfl dd_X3_note_1 gf_X3_19 rfl kk_44 (by decide) (zlt rfl) ?_
  refine wp_bipush dd_X3_note_4 (by decide) ?_
  refine wp_icmp_ne (tgt := 13) dd_X3_note_6 (by decide) (fun c6_1 => ?_) (fun c6_1 => ?_)
  · skip
    refine wp_aload_n dd_X3_note_13 rfl ?_
    refine wp_getR dd_X3_note_14 gf_X3_9 rfl kk_44 (by decide) (zlt rfl) rr_44_1 ?_
    refine wp_aload_n dd_X3_note_17 rfl ?_
    refine wp_getZ 0 rfl dd_X3_note_18 gf_X3_19 rfl kk_44 (by decide) (zlt rfl) ?_
    refine wp_iload_n dd_X3_note_21 rfl ?_
    refine wp_iast dd_X3_note_22 kk_45 (zlt rfl) (by omega) (by omega) ?_
    refine wp_aload_n dd_X3_note_23 rfl ?_
    refine wp_getR dd_X3_note_24 gf_X3_13 rfl kk_44 (by decide) (zlt rfl) rr_44_2 ?_
    refine wp_aload_n dd_X3_note_27 rfl ?_
    refine wp_getV 0 (v := mem 44 0) rfl (by rw [zu_row (by decide)]) dd_X3_note_28 gf_X3_19 rfl kk_44 (by decide) (zlt rfl) ?_
    refine wp_iload_n dd_X3_note_31 rfl ?_
    refine wp_iast dd_X3_note_32 kk_46 (zlt rfl) (by omega) (by omega) ?_
    refine wp_aload_n dd_X3_note_33 rfl ?_
    refine wp_getR dd_X3_note_34 gf_X3_16 rfl kk_44 (by decide) (zlt rfl) rr_44_3 ?_
    refine wp_aload_n dd_X3_note_37 rfl ?_
    refine wp_getV 0 (v := mem 44 0) rfl (by rw [zu_row (by decide), zu_row (by decide)]) dd_X3_note_38 gf_X3_19 rfl kk_44 (by decide) (zlt rfl) ?_
    refine wp_iload_n dd_X3_note_41 rfl ?_
    refine wp_iast dd_X3_note_42 kk_47 (zlt rfl) (by omega) (by omega) ?_
    refine wp_aload_n dd_X3_note_43 rfl ?_
    refine wp_dup dd_X3_note_44 rfl ?_
    refine wp_getV 0 (v := mem 44 0) rfl (by rw [zu_row (by decide), zu_row (by decide), zu_row (by decide)]) dd_X3_note_45 gf_X3_19 rfl kk_44 (by decide) (zlt rfl) ?_
    refine wp_iconst dd_X3_note_48 (zr_lit rfl) ?_
    refine wp_iaddC dd_X3_note_49 (by omega) ?_
    refine wp_putzI 0 rfl dd_X3_note_50 pf_X3_19 rfl kk_44 (by decide) (zlt rfl) ?_
    refine wp_return (st := []) dd_X3_note_53 rfl ?_
    refine k _ ⟨?_, fun s hs => ?_⟩ (fun q q1 q2 => ⟨?_, ?_, ?_⟩) (fun a h1 h2 h3 h4 => ?_)
    · rw [zu_s]; unfold znn; rw [if_neg (by omega)]
    · rw [zu_n (Or.inr hs), zu_row (by decide), zu_row (by decide), zu_row (by decide)]
    · rw [zsh1_lt (by omega), zu_row (by decide), zu_row (by decide), zu_row (by decide)]
      by_cases hq : q = mem 44 0
      · subst hq; rw [zu_s, if_pos rfl]
      · rw [zu_n (Or.inr hq), if_neg hq]
    · rw [zsh1_lt (by omega), zu_row (by decide), zu_row (by decide)]
      by_cases hq : q = mem 44 0
      · subst hq; rw [zu_s, if_pos rfl]
      · rw [zu_n (Or.inr hq), if_neg hq, zu_row (by decide)]
    · rw [zsh1_lt (by omega), zu_row (by decide)]
      by_cases hq : q = mem 44 0
      · subst hq; rw [zu_s, if_pos rfl]
      · rw [zu_n (Or.inr hq), if_neg hq, zu_row (by decide), zu_row (by decide)]
    · rw [zu_row h1, zu_row h4, zu_row h3, zu_row h2]
  · skip
    refine wp_aload_n dd_X3_note_9 rfl ?_
    refine wp_callV (M' := mm_X3_forgetOldest) (As := []) (rest := []) dd_X3_note_10 lk_X3_23 mV_X3_forgetOldest kk_44 (zlt rfl) ⟨_, _, rfl⟩ rfl (by decide) (by decide) (Nat.le_of_ble_eq_true rfl) rfl (sp_X3_forgetOldest    (fun me s1 f1 g1 => ?_))
    show zw_Wp l mm_X3_note (zS L) 13 [some (zR 44), some (zI w), some (zI x), some (zI v)] [] me 0 0 Q
    have hm0 : me 44 0 = 15 := s1.1
    refine wp_aload_n dd_X3_note_13 rfl ?_
    refine wp_getR dd_X3_note_14 gf_X3_9 rfl kk_44 (by decide) (zlt rfl) rr_44_1 ?_
    refine wp_aload_n dd_X3_note_17 rfl ?_
    refine wp_getZ 0 rfl dd_X3_note_18 gf_X3_19 rfl kk_44 (by decide) (zlt rfl) ?_
    refine wp_iload_n dd_X3_note_21 rfl ?_
    refine wp_iast dd_X3_note_22 kk_45 (zlt rfl) (by omega) (by omega) ?_
    refine wp_aload_n dd_X3_note_23 rfl ?_
    refine wp_getR dd_X3_note_24 gf_X3_13 rfl kk_44 (by decide) (zlt rfl) rr_44_2 ?_
    refine wp_aload_n dd_X3_note_27 rfl ?_
    refine wp_getV 0 (v := me 44 0) rfl (by rw [zu_row (by decide)]) dd_X3_note_28 gf_X3_19 rfl kk_44 (by decide) (zlt rfl) ?_
    refine wp_iload_n dd_X3_note_31 rfl ?_
    refine wp_iast dd_X3_note_32 kk_46 (zlt rfl) (by omega) (by omega) ?_
    refine wp_aload_n dd_X3_note_33 rfl ?_
    refine wp_getR dd_X3_note_34 gf_X3_16 rfl kk_44 (by decide) (zlt rfl) rr_44_3 ?_
    refine wp_aload_n dd_X3_note_37 rfl ?_
    refine wp_getV 0 (v := me 44 0) rfl (by rw [zu_row (by decide), zu_row (by decide)]) dd_X3_note_38 gf_X3_19 rfl kk_44 (by decide) (zlt rfl) ?_
    refine wp_iload_n dd_X3_note_41 rfl ?_
    refine wp_iast dd_X3_note_42 kk_47 (zlt rfl) (by omega) (by omega) ?_
    refine wp_aload_n dd_X3_note_43 rfl ?_
    refine wp_dup dd_X3_note_44 rfl ?_
    refine wp_getV 0 (v := me 44 0) rfl (by rw [zu_row (by decide), zu_row (by decide), zu_row (by decide)]) dd_X3_note_45 gf_X3_19 rfl kk_44 (by decide) (zlt rfl) ?_
    refine wp_iconst dd_X3_note_48 (zr_lit rfl) ?_
    refine wp_iaddC dd_X3_note_49 (by omega) ?_
    refine wp_putzI 0 rfl dd_X3_note_50 pf_X3_19 rfl kk_44 (by decide) (zlt rfl) ?_
    refine wp_return (st := []) dd_X3_note_53 rfl ?_
    refine k _ ⟨?_, fun s hs => ?_⟩ (fun q q1 q2 => ⟨?_, ?_, ?_⟩) (fun a h1 h2 h3 h4 => ?_)
    · rw [zu_s]; unfold znn; rw [if_pos (by omega)]; omega
    · rw [zu_n (Or.inr hs), zu_row (by decide), zu_row (by decide), zu_row (by decide)]; exact s1.2 s hs
    · rw [show mem 44 0 = 16 by omega, zsh1_16, zu_row (by decide), zu_row (by decide), zu_row (by decide), hm0]
      by_cases hq : q = 15
      · subst hq; rw [zu_s, if_pos rfl]
      · rw [zu_n (Or.inr hq), if_neg hq, f1.1]
    · rw [show mem 44 0 = 16 by omega, zsh1_16, zu_row (by decide), zu_row (by decide), hm0]
      by_cases hq : q = 15
      · subst hq; rw [zu_s, if_pos rfl]
      · rw [zu_n (Or.inr hq), if_neg hq, zu_row (by decide), f1.2.1]
    · rw [show mem 44 0 = 16 by omega, zsh1_16, zu_row (by decide), hm0]
      by_cases hq : q = 15
      · subst hq; rw [zu_s, if_pos rfl]
      · rw [zu_n (Or.inr hq), if_neg hq, zu_row (by decide), zu_row (by decide), f1.2.2]
    · rw [zu_row h1, zu_row h4, zu_row h3, zu_row h2]; exact g1 a h1 h2 h3 h4

set_option maxRecDepth 100000 in
set_option maxHeartbeats 4000000 in
theorem sp_X3_takeBack {l : Launch} {L : Nat} {mem : zMem} {Q : zQ} (w x v : Int)  (hu : 0 < mem 44 0 ∧ mem 44 0 ≤ 16) (hw : mem 45 (mem 44 0 - 1) = w) (hx : mem 46 (mem 44 0 - 1) = x) (hv : mem 47 (mem 44 0 - 1) = v) (hw6 : 0 ≤ w ∧ w < 6 ∧ w < mem 1 1) (hx9 : -1 ≤ x ∧ x < 25) (hp : 2 ≤ mem 1 0 ∧ mem 1 0 ≤ 31) (hvk : x = -1 → 0 ≤ v ∧ v < 60) (hkd : 0 ≤ mem (zo w) 0 ∧ mem (zo w) 0 ≤ 5) (hfg : 0 ≤ mem (zo w) 1 ∧ mem (zo w) 1 ≤ 9) (ht : ∀ y : Int, 0 ≤ y → y < 25 → 0 ≤ mem (zo w + 1) y ∧ mem (zo w + 1) y < mem 1 0) (k : ∀ (mem2 : zMem), (mem2 44 0 = mem 44 0 - 1 ∧ ∀ s : Int, s ≠ 0 → mem2 44 s = mem 44 s) → ((x = -1 ∧ zPI mem2 (zo w) (mem 1 0) (v / 10) (v % 10) (mem (zo w + 1))) ∨ (x ≠ -1 ∧ zPI mem2 (zo w) (mem 1 0) (mem (zo w) 0) (mem (zo w) 1) (fun y => if y = x then v % mem 1 0 else mem (zo w + 1) y))) → (∀ a : Nat, a ≠ 44 → a ≠ zo w → a ≠ zo w + 1 → a ≠ zo w + 2 → mem2 a = mem a) → Q none (zS L) mem2) : zw_Ok l mm_X3_takeBack [zR 44, zR 1] (zS L) mem Q := by
  refine zw_enter (by decide) (Nat.le_of_ble_eq_true rfl) rfl ?_
  show zw_Wp l mm_X3_takeBack (zS L) 0 [some (zR 44), some (zR 1), none] [] mem 0 0 Q
  have hq6 : 0 ≤ w ∧ w < 6 := by omega
  have hq9 := zo_rg hq6
  have z0 : (zu mem 44 0 (mem 44 0 - 1)) (zo w) = mem (zo w) := zu_row (by omega)
  have z1 : (zu mem 44 0 (mem 44 0 - 1)) (zo w + 1) = mem (zo w + 1) := zu_row (by omega)
  have z10 : (zu mem 44 0 (mem 44 0 - 1)) 1 = mem 1 := zu_row (by omega)
  refine wp_aload_n dd_X3_takeBack_0 rfl ?_
  refine wp_getZ 0 rfl dd_X3_takeBack_1 gf_X3_19 rfl kk_44 (by decide) (zlt rfl) ?_
  refine wp_if_ne (tgt := 8) dd_X3_takeBack_4 (by decide) (fun c4_1 => ?_) (fun c4_1 => ?_)
  · skip
    refine wp_aload_n dd_X3_takeBack_8 rfl ?_
    refine wp_dup dd_X3_takeBack_9 rfl ?_
    refine wp_getZ 0 rfl dd_X3_takeBack_10 gf_X3_19 rfl kk_44 (by decide) (zlt rfl) ?_
    refine wp_iconst dd_X3_takeBack_13 (zr_lit rfl) ?_
    refine wp_isubC dd_X3_takeBack_14 (by omega) ?_
    refine wp_putzI 0 rfl dd_X3_takeBack_15 pf_X3_19 rfl kk_44 (by decide) (zlt rfl) ?_
    refine wp_aload_n dd_X3_takeBack_18 rfl ?_
    refine wp_aload_n dd_X3_takeBack_19 rfl ?_
    refine wp_getR dd_X3_takeBack_20 gf_X3_9 rfl kk_44 (by decide) (zlt rfl) rr_44_1 ?_
    refine wp_aload_n dd_X3_takeBack_23 rfl ?_
    refine wp_getV 0 (v := (mem 44 0) - 1) rfl (by rw [zu_s]) dd_X3_takeBack_24 gf_X3_19 rfl kk_44 (by decide) (zlt rfl) ?_
    refine wp_ialdV (v := mem 45 ((mem 44 0) - 1)) (by rw [zu_row (by decide)]) dd_X3_takeBack_27 kk_45 (zlt rfl) (by omega) (by omega) ?_
    rw [show (mem 45 ((mem 44 0) - 1) : Int) = w from hw]
    refine wp_callV (M' := mm_X8_has) (As := [zI w]) (rest := []) dd_X3_takeBack_28 lk_X3_32 mV_X8_has kk_1 (zlt rfl) ⟨_, _, rfl⟩ rfl (by decide) (by decide) (Nat.le_of_ble_eq_true rfl) rfl (sp_X8_has  w  ?_)
    show zw_Wp l mm_X3_takeBack (zS L) 31 [some (zR 44), some (zR 1), none] [zI (if 0 ≤ w ∧ w < (zu mem 44 0 ((mem 44 0) - 1)) 1 1 then 1 else 0)] (zu mem 44 0 ((mem 44 0) - 1)) 0 0 Q
    rw [z10]
    refine wp_if_ne (tgt := 35) dd_X3_takeBack_31 (by decide) (fun c31_2 => ?_) (fun c31_2 => ?_)
    · skip
      refine wp_aload_n dd_X3_takeBack_35 rfl ?_
      refine wp_getR dd_X3_takeBack_36 gf_X3_38 rfl kk_1 (by decide) (zlt rfl) rr_1_2 ?_
      refine wp_aload_n dd_X3_takeBack_39 rfl ?_
      refine wp_getR dd_X3_takeBack_40 gf_X3_9 rfl kk_44 (by decide) (zlt rfl) rr_44_1 ?_
      refine wp_aload_n dd_X3_takeBack_43 rfl ?_
      refine wp_getV 0 (v := (mem 44 0) - 1) rfl (by rw [zu_s]) dd_X3_takeBack_44 gf_X3_19 rfl kk_44 (by decide) (zlt rfl) ?_
      refine wp_ialdV (v := mem 45 ((mem 44 0) - 1)) (by rw [zu_row (by decide)]) dd_X3_takeBack_47 kk_45 (zlt rfl) (by omega) (by omega) ?_
      rw [show (mem 45 ((mem 44 0) - 1) : Int) = w from hw]
      refine wp_aald dd_X3_takeBack_48 kk_2 (zlt rfl) (by omega) (by omega) (zr2 rfl hq6) ?_
      refine wp_astore_n (ls2 := [some (zR 44), some (zR 1), some (zR (zo w))]) dd_X3_takeBack_49 rfl (by decide) rfl ?_
      refine wp_aload_n dd_X3_takeBack_50 rfl ?_
      refine wp_getR dd_X3_takeBack_51 gf_X3_13 rfl kk_44 (by decide) (zlt rfl) rr_44_2 ?_
      refine wp_aload_n dd_X3_takeBack_54 rfl ?_
      refine wp_getV 0 (v := (mem 44 0) - 1) rfl (by rw [zu_s]) dd_X3_takeBack_55 gf_X3_19 rfl kk_44 (by decide) (zlt rfl) ?_
      refine wp_ialdV (v := mem 46 ((mem 44 0) - 1)) (by rw [zu_row (by decide)]) dd_X3_takeBack_58 kk_46 (zlt rfl) (by omega) (by omega) ?_
      rw [show (mem 46 ((mem 44 0) - 1) : Int) = x from hx]
      refine wp_iconst dd_X3_takeBack_59 (zr_lit rfl) ?_
      refine wp_icmp_ne (tgt := 98) dd_X3_takeBack_60 (by decide) (fun c60_3 => ?_) (fun c60_3 => ?_)
      · skip
        refine wp_aload_n dd_X3_takeBack_98 rfl ?_
        refine wp_aload_n dd_X3_takeBack_99 rfl ?_
        refine wp_getR dd_X3_takeBack_100 gf_X3_13 rfl kk_44 (by decide) (zlt rfl) rr_44_2 ?_
        refine wp_aload_n dd_X3_takeBack_103 rfl ?_
        refine wp_getV 0 (v := (mem 44 0) - 1) rfl (by rw [zu_s]) dd_X3_takeBack_104 gf_X3_19 rfl kk_44 (by decide) (zlt rfl) ?_
        refine wp_ialdV (v := mem 46 ((mem 44 0) - 1)) (by rw [zu_row (by decide)]) dd_X3_takeBack_107 kk_46 (zlt rfl) (by omega) (by omega) ?_
        rw [show (mem 46 ((mem 44 0) - 1) : Int) = x from hx]
        refine wp_aload_n dd_X3_takeBack_108 rfl ?_
        refine wp_getR dd_X3_takeBack_109 gf_X3_16 rfl kk_44 (by decide) (zlt rfl) rr_44_3 ?_
        refine wp_aload_n dd_X3_takeBack_112 rfl ?_
        refine wp_getV 0 (v := (mem 44 0) - 1) rfl (by rw [zu_s]) dd_X3_takeBack_113 gf_X3_19 rfl kk_44 (by decide) (zlt rfl) ?_
        refine wp_ialdV (v := mem 47 ((mem 44 0) - 1)) (by rw [zu_row (by decide)]) dd_X3_takeBack_116 kk_47 (zlt rfl) (by omega) (by omega) ?_
        rw [show (mem 47 ((mem 44 0) - 1) : Int) = v from hv]
        refine wp_aload_n dd_X3_takeBack_117 rfl ?_
        refine wp_getV 0 (v := mem 1 0) rfl (by rw [zu_row (by decide)]) dd_X3_takeBack_118 gf_X3_42 rfl kk_1 (by decide) (zlt rfl) ?_
        refine wp_callV (M' := mm_X4_tell) (As := [zI x, zI v, zI (mem 1 0)]) (rest := []) dd_X3_takeBack_121 lk_X3_51 mV_X4_tell (zoP hq6).k (zoP hq6).i ⟨_, _, rfl⟩ rfl (by decide) (by decide) (Nat.le_of_ble_eq_true rfl) rfl (sp_X4_tell  (zo w) x v (mem 1 0) (zoP hq6) hp (by omega) (by rw [z0]; exact hkd) (by rw [z0]; exact hfg) (by rw [z1]; exact ht) (fun mf f8 g8 => ?_))
        show zw_Wp l mm_X3_takeBack (zS L) 124 [some (zR 44), some (zR 1), some (zR (zo w))] [] mf 0 0 Q
        refine wp_return (st := []) dd_X3_takeBack_124 rfl ?_
        rw [z0, z1] at f8
        refine k mf ⟨?_, fun s hs => ?_⟩ (Or.inr ⟨by omega, f8⟩) (fun a h1 h2 h3 h4 => ?_)
        · rw [g8 44 (by omega) (by omega), zu_s]
        · rw [g8 44 (by omega) (by omega), zu_n (Or.inr hs)]
        · rw [g8 a h3 h4, zu_row h1]
      · skip
        refine wp_aload_n dd_X3_takeBack_63 rfl ?_
        refine wp_aload_n dd_X3_takeBack_64 rfl ?_
        refine wp_getR dd_X3_takeBack_65 gf_X3_16 rfl kk_44 (by decide) (zlt rfl) rr_44_3 ?_
        refine wp_aload_n dd_X3_takeBack_68 rfl ?_
        refine wp_getV 0 (v := (mem 44 0) - 1) rfl (by rw [zu_s]) dd_X3_takeBack_69 gf_X3_19 rfl kk_44 (by decide) (zlt rfl) ?_
        refine wp_ialdV (v := mem 47 ((mem 44 0) - 1)) (by rw [zu_row (by decide)]) dd_X3_takeBack_72 kk_47 (zlt rfl) (by omega) (by omega) ?_
        rw [show (mem 47 ((mem 44 0) - 1) : Int) = v from hv]
        refine wp_bipush dd_X3_takeBack_73 (by decide) ?_
        refine wp_idivP dd_X3_takeBack_75 (by omega) (by omega) ?_
        refine wp_aload_n dd_X3_takeBack_76 rfl ?_
        refine wp_getR dd_X3_takeBack_77 gf_X3_16 rfl kk_44 (by decide) (zlt rfl) rr_44_3 ?_
        refine wp_aload_n dd_X3_takeBack_80 rfl ?_
        refine wp_getV 0 (v := (mem 44 0) - 1) rfl (by rw [zu_s]) dd_X3_takeBack_81 gf_X3_19 rfl kk_44 (by decide) (zlt rfl) ?_
        refine wp_ialdV (v := mem 47 ((mem 44 0) - 1)) (by rw [zu_row (by decide)]) dd_X3_takeBack_84 kk_47 (zlt rfl) (by omega) (by omega) ?_
        rw [show (mem 47 ((mem 44 0) - 1) : Int) = v from hv]
        refine wp_bipush dd_X3_takeBack_85 (by decide) ?_
        refine wp_iremP dd_X3_takeBack_87 (by omega) (by omega) ?_
        refine wp_aload_n dd_X3_takeBack_88 rfl ?_
        refine wp_getV 0 (v := mem 1 0) rfl (by rw [zu_row (by decide)]) dd_X3_takeBack_89 gf_X3_42 rfl kk_1 (by decide) (zlt rfl) ?_
        refine wp_callV (M' := mm_X4_become) (As := [zI (v / 10), zI (v % 10), zI (mem 1 0)]) (rest := []) dd_X3_takeBack_92 lk_X3_45 mV_X4_become (zoP hq6).k (zoP hq6).i ⟨_, _, rfl⟩ rfl (by decide) (by decide) (Nat.le_of_ble_eq_true rfl) rfl (sp_X4_become  (zo w) (v / 10) (v % 10) (mem 1 0) (zoP hq6) hp (by omega) (by omega) (by rw [z1]; exact ht) (fun me f9 g9 => ?_))
        show zw_Wp l mm_X3_takeBack (zS L) 95 [some (zR 44), some (zR 1), some (zR (zo w))] [] me 0 0 Q
        refine wp_goto (tgt := 124) dd_X3_takeBack_95 (by decide) ?_
        refine wp_return (st := []) dd_X3_takeBack_124 rfl ?_
        rw [z1] at f9
        refine k me ⟨?_, fun s hs => ?_⟩ (Or.inl ⟨by omega, f9⟩) (fun a h1 h2 h3 h4 => ?_)
        · rw [g9 44 (by omega) (by omega), zu_s]
        · rw [g9 44 (by omega) (by omega), zu_n (Or.inr hs)]
        · rw [g9 a h2 h4, zu_row h1]
    · skip
      exfalso; omega
  · skip
    exfalso; omega

set_option maxRecDepth 100000 in
set_option maxHeartbeats 4000000 in
theorem sp_X1_has {l : Launch} {L : Nat} {mem : zMem} {Q : zQ}  (l0 : Int)  (k : Q (some (zI (if 0 ≤ l0 ∧ l0 ≤ 2 then 1 else 0))) (zS L) mem) : zw_Ok l mm_X1_has [zR 63, zI l0] (zS L) mem Q := by
  refine zw_okA (fun hA => ?_)
  have rg_l0 : -2147483648 ≤ l0 ∧ l0 < 2147483648 := hA.2.1
  refine zw_enter (by decide) (Nat.le_of_ble_eq_true rfl) rfl ?_
  show zw_Wp l mm_X1_has (zS L) 0 [some (zR 63), some (zI l0)] [] mem 0 0 Q
  refine wp_iload_n dd_X1_has_0 rfl ?_
  refine wp_if_lt (tgt := 13) dd_X1_has_1 (by decide) (fun c1_1 => ?_) (fun c1_1 => ?_)
  · skip
    refine wp_iconst dd_X1_has_13 (zr_lit rfl) ?_
    refine wp_zreturn (st := []) dd_X1_has_14 rfl (by omega) ?_
    refine zq_I ?_ ?_ k
    · first | rw [if_pos (by omega)] | rw [if_neg (by omega)]
    · rfl
  · skip
    refine wp_iload_n dd_X1_has_4 rfl ?_
    refine wp_iconst dd_X1_has_5 (zr_lit rfl) ?_
    refine wp_icmp_ge (tgt := 13) dd_X1_has_6 (by decide) (fun c6_2 => ?_) (fun c6_2 => ?_)
    · skip
      refine wp_iconst dd_X1_has_13 (zr_lit rfl) ?_
      refine wp_zreturn (st := []) dd_X1_has_14 rfl (by omega) ?_
      refine zq_I ?_ ?_ k
      · first | rw [if_pos (by omega)] | rw [if_neg (by omega)]
      · rfl
    · skip
      refine wp_iconst dd_X1_has_9 (zr_lit rfl) ?_
      refine wp_goto (tgt := 14) dd_X1_has_10 (by decide) ?_
      refine wp_zreturn (st := []) dd_X1_has_14 rfl (by omega) ?_
      refine zq_I ?_ ?_ k
      · first | rw [if_pos (by omega)] | rw [if_neg (by omega)]
      · rfl

set_option maxRecDepth 100000 in
set_option maxHeartbeats 4000000 in
theorem sp_X1_isMissing {l : Launch} {L : Nat} {mem : zMem} {Q : zQ}  (l0 : Int) (hl : 0 ≤ l0 ∧ l0 ≤ 2) (k : Q (some (zI (if mem 64 l0 = -1 then 1 else 0))) (zS L) mem) : zw_Ok l mm_X1_isMissing [zR 63, zI l0] (zS L) mem Q := by
  refine zw_okA (fun hA => ?_)
  have rg_l0 : -2147483648 ≤ l0 ∧ l0 < 2147483648 := hA.2.1
  refine zw_enter (by decide) (Nat.le_of_ble_eq_true rfl) rfl ?_
  show zw_Wp l mm_X1_isMissing (zS L) 0 [some (zR 63), some (zI l0)] [] mem 0 0 Q
  refine wp_aload_n dd_X1_isMissing_0 rfl ?_
  refine wp_getR dd_X1_isMissing_1 gf_X1_11 rfl kk_63 (by decide) (zlt rfl) rr_63_0 ?_
  refine wp_iload_n dd_X1_isMissing_4 rfl ?_
  refine wp_iald dd_X1_isMissing_5 kk_64 (zlt rfl) (by omega) (by omega) ?_
  refine wp_iconst dd_X1_isMissing_6 (zr_lit rfl) ?_
  refine wp_icmp_ne (tgt := 14) dd_X1_isMissing_7 (by decide) (fun c7_1 => ?_) (fun c7_1 => ?_)
  · skip
    refine wp_iconst dd_X1_isMissing_14 (zr_lit rfl) ?_
    refine wp_zreturn (st := []) dd_X1_isMissing_15 rfl (by omega) ?_
    refine zq_I ?_ ?_ k
    · first | rfl | omega | (rw [if_pos (by omega)]) | (rw [if_neg (by omega)])
    · rfl
  · skip
    refine wp_iconst dd_X1_isMissing_10 (zr_lit rfl) ?_
    refine wp_goto (tgt := 15) dd_X1_isMissing_11 (by decide) ?_
    refine wp_zreturn (st := []) dd_X1_isMissing_15 rfl (by omega) ?_
    refine zq_I ?_ ?_ k
    · first | rfl | omega | (rw [if_pos (by omega)]) | (rw [if_neg (by omega)])
    · rfl

set_option maxRecDepth 100000 in
set_option maxHeartbeats 4000000 in
theorem sp_X1_hasPlace {l : Launch} {L : Nat} {mem : zMem} {Q : zQ}  (l0 : Int) (i : Int) (hl : 0 ≤ l0 ∧ l0 ≤ 2) (k : Q (some (zI (if 0 ≤ i ∧ i < mem 64 l0 then 1 else 0))) (zS L) mem) : zw_Ok l mm_X1_hasPlace [zR 63, zI l0, zI i] (zS L) mem Q := by
  refine zw_okA (fun hA => ?_)
  have rg_l0 : -2147483648 ≤ l0 ∧ l0 < 2147483648 := hA.2.1
  have rg_i : -2147483648 ≤ i ∧ i < 2147483648 := hA.2.2.1
  refine zw_enter (by decide) (Nat.le_of_ble_eq_true rfl) rfl ?_
  show zw_Wp l mm_X1_hasPlace (zS L) 0 [some (zR 63), some (zI l0), some (zI i)] [] mem 0 0 Q
  refine wp_iload_n dd_X1_hasPlace_0 rfl ?_
  refine wp_if_lt (tgt := 18) dd_X1_hasPlace_1 (by decide) (fun c1_1 => ?_) (fun c1_1 => ?_)
  · skip
    refine wp_iconst dd_X1_hasPlace_18 (zr_lit rfl) ?_
    refine wp_zreturn (st := []) dd_X1_hasPlace_19 rfl (by omega) ?_
    refine zq_I ?_ ?_ k
    · first | rfl | omega | (rw [if_pos (by omega)]) | (rw [if_neg (by omega)])
    · rfl
  · skip
    refine wp_iload_n dd_X1_hasPlace_4 rfl ?_
    refine wp_aload_n dd_X1_hasPlace_5 rfl ?_
    refine wp_getR dd_X1_hasPlace_6 gf_X1_11 rfl kk_63 (by decide) (zlt rfl) rr_63_0 ?_
    refine wp_iload_n dd_X1_hasPlace_9 rfl ?_
    refine wp_iald dd_X1_hasPlace_10 kk_64 (zlt rfl) (by omega) (by omega) ?_
    refine wp_icmp_ge (tgt := 18) dd_X1_hasPlace_11 (by decide) (fun c11_2 => ?_) (fun c11_2 => ?_)
    · skip
      refine wp_iconst dd_X1_hasPlace_18 (zr_lit rfl) ?_
      refine wp_zreturn (st := []) dd_X1_hasPlace_19 rfl (by omega) ?_
      refine zq_I ?_ ?_ k
      · first | rfl | omega | (rw [if_pos (by omega)]) | (rw [if_neg (by omega)])
      · rfl
    · skip
      refine wp_iconst dd_X1_hasPlace_14 (zr_lit rfl) ?_
      refine wp_goto (tgt := 19) dd_X1_hasPlace_15 (by decide) ?_
      refine wp_zreturn (st := []) dd_X1_hasPlace_19 rfl (by omega) ?_
      refine zq_I ?_ ?_ k
      · first | rfl | omega | (rw [if_pos (by omega)]) | (rw [if_neg (by omega)])
      · rfl

set_option maxRecDepth 100000 in
set_option maxHeartbeats 4000000 in
theorem sp_X1_write {l : Launch} {L : Nat} {mem : zMem} {Q : zQ}  (l0 : Int) (i : Int) (v : Int) (hl : 0 ≤ l0 ∧ l0 ≤ 2) (hi : 0 ≤ i ∧ i < 40) (k : Q none (zS L) (zu mem 65 (40 * l0 + i) v)) : zw_Ok l mm_X1_write [zR 63, zI l0, zI i, zI v] (zS L) mem Q := by
  refine zw_okA (fun hA => ?_)
  have rg_l0 : -2147483648 ≤ l0 ∧ l0 < 2147483648 := hA.2.1
  have rg_i : -2147483648 ≤ i ∧ i < 2147483648 := hA.2.2.1
  have rg_v : -2147483648 ≤ v ∧ v < 2147483648 := hA.2.2.2.1
  refine zw_enter (by decide) (Nat.le_of_ble_eq_true rfl) rfl ?_
  show zw_Wp l mm_X1_write (zS L) 0 [some (zR 63), some (zI l0), some (zI i), some (zI v)] [] mem 0 0 Q
  refine wp_aload_n dd_X1_write_0 rfl ?_
  refine wp_getR dd_X1_write_1 gf_X1_15 rfl kk_63 (by decide) (zlt rfl) rr_63_1 ?_
  refine wp_bipush dd_X1_write_4 (by decide) ?_
  refine wp_iload_n dd_X1_write_6 rfl ?_
  refine wp_imulC dd_X1_write_7 (by omega) ?_
  refine wp_iload_n dd_X1_write_8 rfl ?_
  refine wp_iaddC dd_X1_write_9 (by omega) ?_
  refine wp_iload_n dd_X1_write_10 rfl ?_
  refine wp_iast dd_X1_write_11 kk_65 (zlt rfl) (by omega) (by omega) ?_
  refine wp_return (st := []) dd_X1_write_12 rfl ?_
  refine zq_n ?_ k
  rfl

set_option maxRecDepth 100000 in
set_option maxHeartbeats 4000000 in
theorem sp_X1_readAt {l : Launch} {L : Nat} {mem : zMem} {Q : zQ}  (l0 : Int) (i : Int) (hl : 0 ≤ l0 ∧ l0 ≤ 2) (hi : 0 ≤ i ∧ i < 40) (k : Q (some (zI (mem 65 (40 * l0 + i)))) (zS L) mem) : zw_Ok l mm_X1_readAt [zR 63, zI l0, zI i] (zS L) mem Q := by
  refine zw_okA (fun hA => ?_)
  have rg_l0 : -2147483648 ≤ l0 ∧ l0 < 2147483648 := hA.2.1
  have rg_i : -2147483648 ≤ i ∧ i < 2147483648 := hA.2.2.1
  refine zw_enter (by decide) (Nat.le_of_ble_eq_true rfl) rfl ?_
  show zw_Wp l mm_X1_readAt (zS L) 0 [some (zR 63), some (zI l0), some (zI i)] [] mem 0 0 Q
  refine wp_aload_n dd_X1_readAt_0 rfl ?_
  refine wp_getR dd_X1_readAt_1 gf_X1_15 rfl kk_63 (by decide) (zlt rfl) rr_63_1 ?_
  refine wp_bipush dd_X1_readAt_4 (by decide) ?_
  refine wp_iload_n dd_X1_readAt_6 rfl ?_
  refine wp_imulC dd_X1_readAt_7 (by omega) ?_
  refine wp_iload_n dd_X1_readAt_8 rfl ?_
  refine wp_iaddC dd_X1_readAt_9 (by omega) ?_
  refine wp_iald dd_X1_readAt_10 kk_65 (zlt rfl) (by omega) (by omega) ?_
  refine wp_ireturn (st := []) dd_X1_readAt_11 rfl ?_
  refine zq_I ?_ ?_ k
  · first | rfl | omega | (rw [if_pos (by omega)]) | (rw [if_neg (by omega)])
  · rfl

set_option maxRecDepth 100000 in
set_option maxHeartbeats 4000000 in
theorem sp_X1_make {l : Launch} {L : Nat} {mem : zMem} {Q : zQ}  (l0 : Int) (n : Int) (hl : 0 ≤ l0 ∧ l0 ≤ 2) (hn : 0 ≤ n ∧ n ≤ 40) (k : ∀ (mem2 : zMem), (∀ x : Int, mem2 64 x = if x = l0 then n else mem 64 x) → (∀ x : Int, mem2 65 x = if 40 * l0 ≤ x ∧ x < 40 * l0 + n then 0 else mem 65 x) → (∀ a : Nat, a ≠ 64 → a ≠ 65 → mem2 a = mem a) → Q none (zS L) mem2) : zw_Ok l mm_X1_make [zR 63, zI l0, zI n] (zS L) mem Q := by
  refine zw_okA (fun hA => ?_)
  have rg_l0 : -2147483648 ≤ l0 ∧ l0 < 2147483648 := hA.2.1
  have rg_n : -2147483648 ≤ n ∧ n < 2147483648 := hA.2.2.1
  refine zw_enter (by decide) (Nat.le_of_ble_eq_true rfl) rfl ?_
  show zw_Wp l mm_X1_make (zS L) 0 [some (zR 63), some (zI l0), some (zI n), none] [] mem 0 0 Q
  refine wp_aload_n dd_X1_make_0 rfl ?_
  refine wp_getR dd_X1_make_1 gf_X1_11 rfl kk_63 (by decide) (zlt rfl) rr_63_0 ?_
  refine wp_iload_n dd_X1_make_4 rfl ?_
  refine wp_iload_n dd_X1_make_5 rfl ?_
  refine wp_iast dd_X1_make_6 kk_64 (zlt rfl) (by omega) (by omega) ?_
  refine wp_iconst dd_X1_make_7 (zr_lit rfl) ?_
  refine wp_istore_n (ls2 := [some (zR 63), some (zI l0), some (zI n), some (zI 0)]) dd_X1_make_8 rfl (by decide) rfl ?_
  have lp9 : ∀ (nf : Nat) (i : Int) (mm : zMem), (0 ≤ i) → (i ≤ n) → (∀ x : Int, mm 65 x = if 40 * l0 ≤ x ∧ x < 40 * l0 + i then 0 else mem 65 x) → (∀ a : Nat, a ≠ 65 → mm a = (zu mem 64 l0 n) a) → (n - i) < (nf : Int) → zw_Wp l mm_X1_make (zS L) 9 [some (zR 63), some (zI l0), some (zI n), some (zI i)] [] mm 0 0 Q := by
    intro nf
    induction nf with
    | zero =>
      intro i mm h0 h1 h2 h3 hmu
      exfalso; omega
    | succ nf ih9 =>
      intro i mm h0 h1 h2 h3 hmu
      refine wp_iload_n dd_X1_make_9 rfl ?_
      refine wp_iload_n dd_X1_make_10 rfl ?_
      refine wp_icmp_ge (tgt := 27) dd_X1_make_11 (by decide) (fun c11_1 => ?_) (fun c11_1 => ?_)
      · skip
        refine wp_return (st := []) dd_X1_make_27 rfl ?_
        refine k mm (fun x => ?_) (fun x => ?_) (fun a h8 h9 => ?_)
        · rw [h3 64 (by decide)]
          by_cases hx : x = l0
          · subst hx; rw [zu_s, if_pos rfl]
          · rw [zu_n (Or.inr hx), if_neg hx]
        · rw [h2 x, show i = n by omega]
        · rw [h3 a h9, zu_row h8]
      · skip
        refine wp_aload_n dd_X1_make_14 rfl ?_
        refine wp_iload_n dd_X1_make_15 rfl ?_
        refine wp_iload_n dd_X1_make_16 rfl ?_
        refine wp_iconst dd_X1_make_17 (zr_lit rfl) ?_
        refine wp_callV (M' := mm_X1_write) (As := [zI l0, zI i, zI 0]) (rest := []) dd_X1_make_18 lk_X1_18 mV_X1_write kk_63 (zlt rfl) ⟨_, _, rfl⟩ rfl (by decide) (by decide) (Nat.le_of_ble_eq_true rfl) rfl (sp_X1_write  l0 i 0 (by first | assumption | omega) (by first | assumption | omega) ?_)
        show zw_Wp l mm_X1_make (zS L) 21 [some (zR 63), some (zI l0), some (zI n), some (zI i)] [] (zu mm 65 (40 * l0 + i) 0) 0 0 Q
        refine wp_iincC (ls2 := [some (zR 63), some (zI l0), some (zI n), some (zI (i + 1))]) dd_X1_make_21 rfl rfl (by decide) (by omega) rfl ?_
        refine wp_goto (tgt := 9) dd_X1_make_24 (by decide) ?_
        refine ih9 (i + 1) (zu mm 65 (40 * l0 + i) 0) ?_ ?_ ?_ ?_ ?_
        · first | omega | assumption | (intros; omega)
        · first | omega | assumption | (intros; omega)
        · intro x
          by_cases hx : x = 40 * l0 + i
          · subst hx; rw [zu_s, if_pos (by omega)]
          · rw [zu_n (Or.inr hx), h2 x]
            by_cases hl9 : 40 * l0 ≤ x ∧ x < 40 * l0 + i
            · rw [if_pos hl9, if_pos (by omega)]
            · rw [if_neg hl9, if_neg (by omega)]
        · intro a ha; rw [zu_row ha]; exact h3 a ha
        · omega
  refine lp9 ((n - 0 : Int)).toNat.succ 0 (zu mem 64 l0 n) ?_ ?_ ?_ ?_ ?_
  · first | omega | assumption | (intros; omega)
  · first | omega | assumption | (intros; omega)
  · intro x; rw [if_neg (by omega), zu_row (by decide)]
  · intros; rfl
  · omega

set_option maxRecDepth 100000 in
set_option maxHeartbeats 4000000 in
theorem sp_X1_lay {l : Launch} {L : Nat} {mem : zMem} {Q : zQ}  (l0 : Int) (i : Int) (hl : 0 ≤ l0 ∧ l0 ≤ 2) (hs : -1 ≤ mem 64 l0 ∧ mem 64 l0 ≤ 40) (hi : 0 ≤ i ∧ i < mem 64 l0) (k : ∀ (mem2 : zMem), (∀ x : Int, mem2 65 x = if 40 * l0 + i ≤ x ∧ x < 40 * l0 + mem 64 l0 then mem 49 (x - (40 * l0 + i)) else mem 65 x) → (∀ a : Nat, a ≠ 65 → mem2 a = mem a) → Q (some (zI (mem 64 l0 - i))) (zS L) mem2) : zw_Ok l mm_X1_lay [zR 63, zI l0, zI i, zR 49] (zS L) mem Q := by
  refine zw_okA (fun hA => ?_)
  have rg_l0 : -2147483648 ≤ l0 ∧ l0 < 2147483648 := hA.2.1
  have rg_i : -2147483648 ≤ i ∧ i < 2147483648 := hA.2.2.1
  refine zw_enter (by decide) (Nat.le_of_ble_eq_true rfl) rfl ?_
  show zw_Wp l mm_X1_lay (zS L) 0 [some (zR 63), some (zI l0), some (zI i), some (zR 49), none, none] [] mem 0 0 Q
  refine wp_iconst dd_X1_lay_0 (zr_lit rfl) ?_
  refine wp_istore (ls2 := [some (zR 63), some (zI l0), some (zI i), some (zR 49), some (zI 0), none]) dd_X1_lay_1 rfl (by decide) rfl ?_
  refine wp_iconst dd_X1_lay_3 (zr_lit rfl) ?_
  refine wp_istore (ls2 := [some (zR 63), some (zI l0), some (zI i), some (zR 49), some (zI 0), some (zI 0)]) dd_X1_lay_4 rfl (by decide) rfl ?_
  have lp6 : ∀ (nf : Nat) (c : Int) (d : Int) (mm : zMem), (0 ≤ d) → (d ≤ mem 64 l0 - i) → (c = d) → (∀ x : Int, mm 65 x = if 40 * l0 + i ≤ x ∧ x < 40 * l0 + i + d then mem 49 (x - (40 * l0 + i)) else mem 65 x) → (∀ a : Nat, a ≠ 65 → mm a = mem a) → (mem 64 l0 - i - d) < (nf : Int) → zw_Wp l mm_X1_lay (zS L) 6 [some (zR 63), some (zI l0), some (zI i), some (zR 49), some (zI c), some (zI d)] [] mm 0 0 Q := by
    intro nf
    induction nf with
    | zero =>
      intro c d mm h0 h1 hc h2 h3 hmu
      exfalso; omega
    | succ nf ih6 =>
      intro c d mm h0 h1 hc h2 h3 hmu
      have h64 : mm 64 = mem 64 := h3 64 (by decide)
      refine wp_iload dd_X1_lay_6 rfl ?_
      refine wp_aload_n dd_X1_lay_8 rfl ?_
      refine wp_alen dd_X1_lay_9 kk_49 (zlt rfl) (by decide) ?_
      show zw_Wp l mm_X1_lay (zS L) 10 [some (zR 63), some (zI l0), some (zI i), some (zR 49), some (zI c), some (zI d)] [zI 41, zI d] mm 0 0 Q
      refine wp_icmp_ge (tgt := 47) dd_X1_lay_10 (by decide) (fun c10_1 => ?_) (fun c10_1 => ?_)
      · skip
        refine wp_iload dd_X1_lay_47 rfl ?_
        refine wp_ireturn (st := []) dd_X1_lay_49 rfl ?_
        refine zq_I (by omega) rfl (k mm (fun x => ?_) h3)
        rw [h2 x, show 40 * l0 + i + d = 40 * l0 + mem 64 l0 by omega]
      · skip
        refine wp_aload_n dd_X1_lay_13 rfl ?_
        refine wp_iload_n dd_X1_lay_14 rfl ?_
        refine wp_iload_n dd_X1_lay_15 rfl ?_
        refine wp_iload dd_X1_lay_16 rfl ?_
        refine wp_iaddC dd_X1_lay_18 (by omega) ?_
        refine wp_callV (M' := mm_X1_hasPlace) (As := [zI l0, zI (i + d)]) (rest := []) dd_X1_lay_19 lk_X1_22 mV_X1_hasPlace kk_63 (zlt rfl) ⟨_, _, rfl⟩ rfl (by decide) (by decide) (Nat.le_of_ble_eq_true rfl) rfl (sp_X1_hasPlace  l0 (i + d) (by first | assumption | omega) ?_)
        show zw_Wp l mm_X1_lay (zS L) 22 [some (zR 63), some (zI l0), some (zI i), some (zR 49), some (zI c), some (zI d)] [zI (if 0 ≤ (i + d) ∧ (i + d) < mm 64 l0 then 1 else 0)] mm 0 0 Q
        rw [h64]
        refine wp_if_eq (tgt := 47) dd_X1_lay_22 (by decide) (fun c22_2 => ?_) (fun c22_2 => ?_)
        · skip
          refine wp_iload dd_X1_lay_47 rfl ?_
          refine wp_ireturn (st := []) dd_X1_lay_49 rfl ?_
          refine zq_I (by omega) rfl (k mm (fun x => ?_) h3)
          rw [h2 x, show 40 * l0 + i + d = 40 * l0 + mem 64 l0 by omega]
        · skip
          refine wp_aload_n dd_X1_lay_25 rfl ?_
          refine wp_iload_n dd_X1_lay_26 rfl ?_
          refine wp_iload_n dd_X1_lay_27 rfl ?_
          refine wp_iload dd_X1_lay_28 rfl ?_
          refine wp_iaddC dd_X1_lay_30 (by omega) ?_
          refine wp_aload_n dd_X1_lay_31 rfl ?_
          refine wp_iload dd_X1_lay_32 rfl ?_
          refine wp_iald dd_X1_lay_34 kk_49 (zlt rfl) (by omega) (by omega) ?_
          refine wp_callV (M' := mm_X1_write) (As := [zI l0, zI (i + d), zI (mm 49 d)]) (rest := []) dd_X1_lay_35 lk_X1_18 mV_X1_write kk_63 (zlt rfl) ⟨_, _, rfl⟩ rfl (by decide) (by decide) (Nat.le_of_ble_eq_true rfl) rfl (sp_X1_write  l0 (i + d) (mm 49 d) (by first | assumption | omega) (by first | assumption | omega) ?_)
          show zw_Wp l mm_X1_lay (zS L) 38 [some (zR 63), some (zI l0), some (zI i), some (zR 49), some (zI c), some (zI d)] [] (zu mm 65 (40 * l0 + (i + d)) (mm 49 d)) 0 0 Q
          refine wp_iincC (ls2 := [some (zR 63), some (zI l0), some (zI i), some (zR 49), some (zI (c + 1)), some (zI d)]) dd_X1_lay_38 rfl rfl (by decide) (by omega) rfl ?_
          refine wp_iincC (ls2 := [some (zR 63), some (zI l0), some (zI i), some (zR 49), some (zI (c + 1)), some (zI (d + 1))]) dd_X1_lay_41 rfl rfl (by decide) (by omega) rfl ?_
          refine wp_goto (tgt := 6) dd_X1_lay_44 (by decide) ?_
          refine ih6 (c + 1) (d + 1) (zu mm 65 (40 * l0 + (i + d)) (mm 49 d)) ?_ ?_ ?_ ?_ ?_ ?_
          · first | omega | assumption | (intros; omega)
          · first | omega | assumption | (intros; omega)
          · first | omega | assumption | (intros; omega)
          · intro x
            by_cases hx : x = 40 * l0 + (i + d)
            · subst hx; rw [zu_s, if_pos (by omega), h3 49 (by decide), show 40 * l0 + (i + d) - (40 * l0 + i) = d by omega]
            · rw [zu_n (Or.inr hx), h2 x]
              by_cases hl9 : 40 * l0 + i ≤ x ∧ x < 40 * l0 + i + d
              · rw [if_pos hl9, if_pos (by omega)]
              · rw [if_neg hl9, if_neg (by omega)]
          · intro a ha; rw [zu_row ha]; exact h3 a ha
          · omega
  refine lp6 ((mem 64 l0 - i - 0 : Int)).toNat.succ 0 0 mem ?_ ?_ ?_ ?_ ?_ ?_
  · first | omega | assumption | (intros; omega)
  · first | omega | assumption | (intros; omega)
  · first | omega | assumption | (intros; omega)
  · intro x; rw [if_neg (by omega)]
  · intros; rfl
  · omega

set_option maxRecDepth 100000 in
set_option maxHeartbeats 4000000 in
theorem sp_X1_firstUnlike {l : Launch} {L : Nat} {mem : zMem} {Q : zQ} (g : Int → Int) (l0 : Int) (p : Int) (hl : 0 ≤ l0 ∧ l0 ≤ 2) (hp : 0 < p) (hs : mem 64 l0 ≤ 40) (hg : ∀ x : Int, 0 ≤ x → x < 41 → mem 49 x = g x) (k : ∀ (r : Int), (zjd (fun d => if d < mem 64 l0 then mem 65 (40 * l0 + d) % p else 0) g r) → Q (some (zI r)) (zS L) mem) : zw_Ok l mm_X1_firstUnlike [zR 63, zI l0, zR 49, zI p] (zS L) mem Q := by
  refine zw_okA (fun hA => ?_)
  have rg_l0 : -2147483648 ≤ l0 ∧ l0 < 2147483648 := hA.2.1
  have rg_p : -2147483648 ≤ p ∧ p < 2147483648 := hA.2.2.2.1
  refine zw_enter (by decide) (Nat.le_of_ble_eq_true rfl) rfl ?_
  show zw_Wp l mm_X1_firstUnlike (zS L) 0 [some (zR 63), some (zI l0), some (zR 49), some (zI p), none, none] [] mem 0 0 Q
  refine wp_iconst dd_X1_firstUnlike_0 (zr_lit rfl) ?_
  refine wp_istore (ls2 := [some (zR 63), some (zI l0), some (zR 49), some (zI p), some (zI 0), none]) dd_X1_firstUnlike_1 rfl (by decide) rfl ?_
  have lp3 : ∀ (nf : Nat) (d : Int), (0 ≤ d) → (d ≤ 41) → (∀ e : Int, 0 ≤ e → e < d → (if e < mem 64 l0 then mem 65 (40 * l0 + e) % p else 0) = g e) → (41 - d) < (nf : Int) → zw_Wp l mm_X1_firstUnlike (zS L) 3 [some (zR 63), some (zI l0), some (zR 49), some (zI p), some (zI d), none] [] mem 0 0 Q := by
    intro nf
    induction nf with
    | zero =>
      intro d h0 h1 h2 hmu
      exfalso; omega
    | succ nf ih3 =>
      intro d h0 h1 h2 hmu
      refine wp_iload dd_X1_firstUnlike_3 rfl ?_
      refine wp_aload_n dd_X1_firstUnlike_5 rfl ?_
      refine wp_alen dd_X1_firstUnlike_6 kk_49 (zlt rfl) (by decide) ?_
      show zw_Wp l mm_X1_firstUnlike (zS L) 7 [some (zR 63), some (zI l0), some (zR 49), some (zI p), some (zI d), none] [zI 41, zI d] mem 0 0 Q
      refine wp_icmp_ge (tgt := 55) dd_X1_firstUnlike_7 (by decide) (fun c7_1 => ?_) (fun c7_1 => ?_)
      · skip
        refine wp_bipush dd_X1_firstUnlike_55 (by decide) ?_
        refine wp_ireturn (st := []) dd_X1_firstUnlike_57 rfl ?_
        exact k _ (Or.inr ⟨rfl, fun e q1 q2 => h2 e q1 (by omega)⟩)
      · skip
        refine wp_aload_n dd_X1_firstUnlike_10 rfl ?_
        refine wp_iload_n dd_X1_firstUnlike_11 rfl ?_
        refine wp_iload dd_X1_firstUnlike_12 rfl ?_
        refine wp_callV (M' := mm_X1_hasPlace) (As := [zI l0, zI d]) (rest := []) dd_X1_firstUnlike_14 lk_X1_22 mV_X1_hasPlace kk_63 (zlt rfl) ⟨_, _, rfl⟩ rfl (by decide) (by decide) (Nat.le_of_ble_eq_true rfl) rfl (sp_X1_hasPlace  l0 d (by first | assumption | omega) ?_)
        show zw_Wp l mm_X1_firstUnlike (zS L) 17 [some (zR 63), some (zI l0), some (zR 49), some (zI p), some (zI d), none] [zI (if 0 ≤ d ∧ d < mem 64 l0 then 1 else 0)] mem 0 0 Q
        refine wp_if_eq (tgt := 34) dd_X1_firstUnlike_17 (by decide) (fun c17_2 => ?_) (fun c17_2 => ?_)
        · skip
          refine wp_iconst dd_X1_firstUnlike_34 (zr_lit rfl) ?_
          refine wp_istore (ls2 := [some (zR 63), some (zI l0), some (zR 49), some (zI p), some (zI d), some (zI 0)]) dd_X1_firstUnlike_35 rfl (by decide) rfl ?_
          refine wp_iload dd_X1_firstUnlike_37 rfl ?_
          refine wp_aload_n dd_X1_firstUnlike_39 rfl ?_
          refine wp_iload dd_X1_firstUnlike_40 rfl ?_
          refine wp_iald dd_X1_firstUnlike_42 kk_49 (zlt rfl) (by omega) (by omega) ?_
          refine wp_icmp_eq (tgt := 49) dd_X1_firstUnlike_43 (by decide) (fun c43_3 => ?_) (fun c43_3 => ?_)
          · skip
            refine wp_iincC (ls2 := [some (zR 63), some (zI l0), some (zR 49), some (zI p), some (zI (d + 1)), some (zI 0)]) dd_X1_firstUnlike_49 rfl rfl (by decide) (by omega) rfl ?_
            refine wp_goto (tgt := 3) dd_X1_firstUnlike_52 (by decide) ?_
            refine wp_ls (zw_sub_of (a := [some (zR 63), some (zI l0), some (zR 49), some (zI p), some (zI (d + 1)), none]) (And.intro rfl (And.intro rfl (And.intro rfl (And.intro rfl (And.intro rfl (trivial))))))) ?_
            refine ih3 (d + 1) ?_ ?_ ?_ ?_
            · first | omega | assumption | (intros; omega)
            · first | omega | assumption | (intros; omega)
            · intro e q1 q2
              by_cases hx : e = d
              · subst hx; rw [← hg e (by omega) (by omega)]
                first | (rw [if_pos (by omega)]; omega) | (rw [if_neg (by omega)]; omega)
              · exact h2 e q1 (by omega)
            · omega
          · skip
            refine wp_iload dd_X1_firstUnlike_46 rfl ?_
            refine wp_ireturn (st := []) dd_X1_firstUnlike_48 rfl ?_
            refine k _ (Or.inl ⟨h0, by omega, ?_, h2⟩)
            rw [← hg d (by omega) (by omega)]
            dsimp only
            first | (rw [if_pos (by omega)]; omega) | (rw [if_neg (by omega)]; omega)
        · skip
          refine wp_aload_n dd_X1_firstUnlike_20 rfl ?_
          refine wp_iload_n dd_X1_firstUnlike_21 rfl ?_
          refine wp_iload dd_X1_firstUnlike_22 rfl ?_
          refine wp_callV (M' := mm_X1_readAt) (As := [zI l0, zI d]) (rest := []) dd_X1_firstUnlike_24 lk_X1_26 mV_X1_readAt kk_63 (zlt rfl) ⟨_, _, rfl⟩ rfl (by decide) (by decide) (Nat.le_of_ble_eq_true rfl) rfl (sp_X1_readAt  l0 d (by first | assumption | omega) (by first | assumption | omega) ?_)
          show zw_Wp l mm_X1_firstUnlike (zS L) 27 [some (zR 63), some (zI l0), some (zR 49), some (zI p), some (zI d), none] [zI (mem 65 (40 * l0 + d))] mem 0 0 Q
          refine wp_iload_n dd_X1_firstUnlike_27 rfl ?_
          refine wp_callS (M' := mm_J9_floorMod_7cf53) (As := [zI (mem 65 (40 * l0 + d)), zI p]) (rest := []) dd_X1_firstUnlike_28 lk_X1_30 mS_J9_floorMod_7cf53 rfl (by decide) (by decide) (Nat.le_of_ble_eq_true rfl) rfl (sp_J9_floorMod_7cf53  (mem 65 (40 * l0 + d)) p (by first | assumption | omega) ?_)
          show zw_Wp l mm_X1_firstUnlike (zS L) 31 [some (zR 63), some (zI l0), some (zR 49), some (zI p), some (zI d), none] [zI ((mem 65 (40 * l0 + d)) % p)] mem 0 0 Q
          refine wp_goto (tgt := 35) dd_X1_firstUnlike_31 (by decide) ?_
          refine wp_istore (ls2 := [some (zR 63), some (zI l0), some (zR 49), some (zI p), some (zI d), some (zI ((mem 65 (40 * l0 + d)) % p))]) dd_X1_firstUnlike_35 rfl (by decide) rfl ?_
          refine wp_iload dd_X1_firstUnlike_37 rfl ?_
          refine wp_aload_n dd_X1_firstUnlike_39 rfl ?_
          refine wp_iload dd_X1_firstUnlike_40 rfl ?_
          refine wp_iald dd_X1_firstUnlike_42 kk_49 (zlt rfl) (by omega) (by omega) ?_
          refine wp_icmp_eq (tgt := 49) dd_X1_firstUnlike_43 (by decide) (fun c43_4 => ?_) (fun c43_4 => ?_)
          · skip
            refine wp_iincC (ls2 := [some (zR 63), some (zI l0), some (zR 49), some (zI p), some (zI (d + 1)), some (zI ((mem 65 (40 * l0 + d)) % p))]) dd_X1_firstUnlike_49 rfl rfl (by decide) (by omega) rfl ?_
            refine wp_goto (tgt := 3) dd_X1_firstUnlike_52 (by decide) ?_
            refine wp_ls (zw_sub_of (a := [some (zR 63), some (zI l0), some (zR 49), some (zI p), some (zI (d + 1)), none]) (And.intro rfl (And.intro rfl (And.intro rfl (And.intro rfl (And.intro rfl (trivial))))))) ?_
            refine ih3 (d + 1) ?_ ?_ ?_ ?_
            · first | omega | assumption | (intros; omega)
            · first | omega | assumption | (intros; omega)
            · intro e q1 q2
              by_cases hx : e = d
              · subst hx; rw [← hg e (by omega) (by omega)]
                first | (rw [if_pos (by omega)]; omega) | (rw [if_neg (by omega)]; omega)
              · exact h2 e q1 (by omega)
            · omega
          · skip
            refine wp_iload dd_X1_firstUnlike_46 rfl ?_
            refine wp_ireturn (st := []) dd_X1_firstUnlike_48 rfl ?_
            refine k _ (Or.inl ⟨h0, by omega, ?_, h2⟩)
            rw [← hg d (by omega) (by omega)]
            dsimp only
            first | (rw [if_pos (by omega)]; omega) | (rw [if_neg (by omega)]; omega)
  refine lp3 ((41 - 0 : Int)).toNat.succ 0 ?_ ?_ ?_ ?_
  · first | omega | assumption | (intros; omega)
  · first | omega | assumption | (intros; omega)
  · intros; omega
  · omega


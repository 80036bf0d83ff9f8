/-! ===== the class: undoing, products, reading, images ===== -/
/-- one more polynomial on the shelf, of told numbers t -/
def zNw (m m1 : zMem) (t : Int → Int) : Prop := m1 44 0 = 0 ∧ (m1 1 0 = m 67 1 ∧ m1 1 1 = m 67 5 + 1) ∧ zPI m1 (zo (m 67 5)) (m 67 1) 0 0 (fun x => t x % m 67 1) ∧ ∀ a : Nat, a ≠ 1 → a ≠ 44 → a ≠ zo (m 67 5) → a ≠ zo (m 67 5) + 1 → a ≠ zo (m 67 5) + 2 → (a < 41 ∨ 42 < a) → m1 a = m a
theorem zPI.cg {m : zMem} {o : Nat} {p kd fg kd2 fg2 : Int} {t : Int → Int} (h : zPI m o p kd fg t) (h1 : kd = kd2) (h2 : fg = fg2) : zPI m o p kd2 fg2 t := by
  subst h1; subst h2; exact h

theorem zcv_cg {c c2 d d2 : Int → Int} {x y : Int} (hc : ∀ t : Int, 0 ≤ t → t < 25 → c t = c2 t) (hd : ∀ t : Int, 0 ≤ t → t < 25 → d t = d2 t) : ∀ n : Nat, n ≤ 25 → zcv c d x y n = zcv c2 d2 x y n
  | 0, _ => rfl
  | n + 1, h => by
    rw [zcv, zcv, zcv_cg hc hd n (by omega), hc n (by omega) (by omega)]
    by_cases q : 0 ≤ x - (n : Int) / 5 ∧ x - (n : Int) / 5 ≤ 4 ∧ 0 ≤ y - (n : Int) % 5 ∧ y - (n : Int) % 5 ≤ 4
    · rw [if_pos q, if_pos q, hd _ (by omega) (by omega)]
    · rw [if_neg q, if_neg q]
set_option maxRecDepth 100000 in
set_option maxHeartbeats 4000000 in
theorem sp_X10_undo {l : Launch} {L : Nat} {mem : zMem} {Q : zQ}   (hI : zInv mem) (k : ∀ (r : Int) (m1 : zMem), ((mem 67 8 = 0 ∧ r = -3 ∧ m1 = zCn mem (-3)) ∨ (0 < mem 67 8 ∧ r = mem 67 8 - 1 ∧ m1 44 0 = mem 67 8 - 1 ∧ ((mem 46 (mem 67 8 - 1) = -1 ∧ zPI m1 (zo (mem 45 (mem 67 8 - 1))) (mem 67 1) (mem 47 (mem 67 8 - 1) / 10) (mem 47 (mem 67 8 - 1) % 10) (ztd mem (mem 45 (mem 67 8 - 1)))) ∨ (mem 46 (mem 67 8 - 1) ≠ -1 ∧ zPI m1 (zo (mem 45 (mem 67 8 - 1))) (mem 67 1) (mem 70 (mem 45 (mem 67 8 - 1))) (mem 71 (mem 45 (mem 67 8 - 1))) (fun y => if y = mem 46 (mem 67 8 - 1) then mem 47 (mem 67 8 - 1) % mem 67 1 else ztd mem (mem 45 (mem 67 8 - 1)) y))) ∧ ∀ a : Nat, a ≠ 44 → a ≠ zo (mem 45 (mem 67 8 - 1)) → a ≠ zo (mem 45 (mem 67 8 - 1)) + 1 → a ≠ zo (mem 45 (mem 67 8 - 1)) + 2 → m1 a = mem a)) → Q (some (zI r)) (zS L) m1) : zw_Ok l mm_X10_undo [zR 0] (zS L) mem Q := by
  refine zw_enter (by decide) (Nat.le_of_ble_eq_true rfl) rfl ?_
  show zw_Wp l mm_X10_undo (zS L) 0 [some (zR 0)] [] mem 0 0 Q
  obtain ⟨I1, I2, I3, I4, I5, I6, I7⟩ := id hI
  have hp := I1.1
  have hpr := hp.rg
  have e10 := I1.2.1
  have hn5 := I1.2.2.1
  have e11 := I1.2.2.2.1
  have i41 := I4.1
  have i42 := I4.2.1
  refine wp_aload_n dd_X10_undo_0 rfl ?_
  refine wp_getR dd_X10_undo_1 gf_X10_29 rfl kk_0 (by decide) (zlt rfl) rr_0_3 ?_
  refine wp_getZ 0 rfl dd_X10_undo_4 gf_X10_341 rfl kk_44 (by decide) (zlt rfl) ?_
  refine wp_if_ne (tgt := 17) dd_X10_undo_7 (by decide) (fun c7_1 => ?_) (fun c7_1 => ?_)
  · skip
    have hun := I4.2.2 (mem 67 8 - 1) (by omega) (by omega)
    obtain ⟨hu1, hu2, hu3⟩ := hun
    have hPI := I1.2.2.2.2 (mem 45 (mem 67 8 - 1)) hu1.1 hu1.2
    have hk9 := hPI.2.2.1
    have hq9 := zo_rg (q := mem 45 (mem 67 8 - 1)) (by omega)
    refine wp_aload_n dd_X10_undo_17 rfl ?_
    refine wp_getR dd_X10_undo_18 gf_X10_29 rfl kk_0 (by decide) (zlt rfl) rr_0_3 ?_
    refine wp_aload_n dd_X10_undo_21 rfl ?_
    refine wp_getR dd_X10_undo_22 gf_X10_12 rfl kk_0 (by decide) (zlt rfl) rr_0_0 ?_
    refine wp_callV (M' := mm_X3_takeBack) (As := [zR 1]) (rest := []) dd_X10_undo_25 lk_X10_342 mV_X3_takeBack kk_44 (zlt rfl) ⟨_, _, rfl⟩ rfl (by decide) (by decide) (Nat.le_of_ble_eq_true rfl) rfl (sp_X3_takeBack (mem 45 (mem 67 8 - 1)) (mem 46 (mem 67 8 - 1)) (mem 47 (mem 67 8 - 1))  (by omega) (by rw [i41]) (by rw [i41]) (by rw [i41]) (by omega) (by omega) (by rw [e10]; exact hpr) (fun q => by omega) (by rw [hPI.1]; exact hk9.1) (by rw [hPI.2.1]; exact hk9.2) (fun y q1 q2 => by rw [(hPI.2.2.2.1 y q1 q2).1, e10]; exact (hPI.2.2.2.1 y q1 q2).2) (fun ma sa fa ga => ?_))
    show zw_Wp l mm_X10_undo (zS L) 28 [some (zR 0)] [] ma 0 0 Q
    rw [e10] at fa
    refine wp_aload_n dd_X10_undo_28 rfl ?_
    refine wp_getR dd_X10_undo_29 gf_X10_29 rfl kk_0 (by decide) (zlt rfl) rr_0_3 ?_
    refine wp_getZ 0 rfl dd_X10_undo_32 gf_X10_341 rfl kk_44 (by decide) (zlt rfl) ?_
    refine wp_ireturn (st := []) dd_X10_undo_35 rfl ?_
    refine k _ _ (Or.inr ⟨by omega, by rw [sa.1]; omega, by rw [sa.1]; omega, ?_, ga⟩)
    rcases fa with ⟨z1, z2⟩ | ⟨z1, z2⟩
    · exact Or.inl ⟨z1, z2.told (fun y q1 q2 => (hPI.2.2.2.1 y q1 q2).1)⟩
    · refine Or.inr ⟨z1, (z2.cg hPI.1 hPI.2.1).told (fun y q1 q2 => ?_)⟩
      by_cases e : y = mem 46 (mem 67 8 - 1)
      · rw [if_pos e, if_pos e]
      · rw [if_neg e, if_neg e]; exact (hPI.2.2.2.1 y q1 q2).1
  · skip
    refine wp_aload_n dd_X10_undo_10 rfl ?_
    refine wp_bipush dd_X10_undo_11 (by decide) ?_
    refine wp_callV (M' := mm_X10_refuse) (As := [zI (-3)]) (rest := []) dd_X10_undo_13 lk_X10_76 mV_X10_refuse kk_0 (zlt rfl) ⟨_, _, rfl⟩ rfl (by decide) (by decide) (Nat.le_of_ble_eq_true rfl) rfl (sp_X10_refuse  (-3) (by first | assumption | omega) ?_)
    show zw_Wp l mm_X10_undo (zS L) 16 [some (zR 0)] [zI (-3)] (zCn mem (-3)) 0 0 Q
    refine wp_ireturn (st := []) dd_X10_undo_16 rfl ?_
    exact k _ _ (Or.inl ⟨by omega, rfl, rfl⟩)

set_option maxRecDepth 100000 in
set_option maxHeartbeats 4000000 in
theorem sp_X10_product {l : Launch} {L : Nat} {mem : zMem} {Q : zQ}  (a : Int) (b : Int) (hI : zInv mem) (k : ∀ (r : Int) (m1 : zMem), ((¬ ((0 ≤ a ∧ a < mem 67 5) ∧ (0 ≤ b ∧ b < mem 67 5)) ∧ r = -1 ∧ m1 = zCn mem (-1)) ∨ (((0 ≤ a ∧ a < mem 67 5) ∧ (0 ≤ b ∧ b < mem 67 5)) ∧ mem 67 5 = 6 ∧ r = -6 ∧ m1 = zCn mem (-6)) ∨ (((0 ≤ a ∧ a < mem 67 5) ∧ (0 ≤ b ∧ b < mem 67 5)) ∧ mem 67 5 < 6 ∧ ¬ (zdeg (zco mem a) 0 25 + zdeg (zco mem b) 0 25 ≤ 4 ∧ zdeg (zco mem a) 1 25 + zdeg (zco mem b) 1 25 ≤ 4) ∧ r = -3 ∧ m1 = zCn mem (-3)) ∨ (((0 ≤ a ∧ a < mem 67 5) ∧ (0 ≤ b ∧ b < mem 67 5)) ∧ mem 67 5 < 6 ∧ (zdeg (zco mem a) 0 25 + zdeg (zco mem b) 0 25 ≤ 4 ∧ zdeg (zco mem a) 1 25 + zdeg (zco mem b) 1 25 ≤ 4) ∧ r = mem 67 5 ∧ m1 41 = mem 41 ∧ zNw mem m1 (fun t => zcv (zco mem a) (zco mem b) (t / 5) (t % 5) 25))) → Q (some (zI r)) (zS L) m1) : zw_Ok l mm_X10_product [zR 0, zI a, zI b] (zS L) mem Q := by
  refine zw_okA (fun hA => ?_)
  have rg_a : -2147483648 ≤ a ∧ a < 2147483648 := hA.2.1
  have rg_b : -2147483648 ≤ b ∧ b < 2147483648 := hA.2.2.1
  refine zw_enter (by decide) (Nat.le_of_ble_eq_true rfl) rfl ?_
  show zw_Wp l mm_X10_product (zS L) 0 [some (zR 0), some (zI a), some (zI b), none] [] mem 0 0 Q
  obtain ⟨I1, I2, I3, I4, I5, I6, I7⟩ := id hI
  have hp := I1.1
  have hpr := hp.rg
  have e10 := I1.2.1
  have hn5 := I1.2.2.1
  have e11 := I1.2.2.2.1
  refine wp_aload_n dd_X10_product_0 rfl ?_
  refine wp_getR dd_X10_product_1 gf_X10_12 rfl kk_0 (by decide) (zlt rfl) rr_0_0 ?_
  refine wp_iload_n dd_X10_product_4 rfl ?_
  refine wp_callV (M' := mm_X8_has) (As := [zI a]) (rest := []) dd_X10_product_5 lk_X10_132 mV_X8_has kk_1 (zlt rfl) ⟨_, _, rfl⟩ rfl (by decide) (by decide) (Nat.le_of_ble_eq_true rfl) rfl (sp_X8_has  a  ?_)
  show zw_Wp l mm_X10_product (zS L) 8 [some (zR 0), some (zI a), some (zI b), none] [zI (if 0 ≤ a ∧ a < mem 1 1 then 1 else 0)] mem 0 0 Q
  refine wp_if_eq (tgt := 22) dd_X10_product_8 (by decide) (fun c8_1 => ?_) (fun c8_1 => ?_)
  · skip
    refine wp_aload_n dd_X10_product_22 rfl ?_
    refine wp_iconst dd_X10_product_23 (zr_lit rfl) ?_
    refine wp_callV (M' := mm_X10_refuse) (As := [zI (-1)]) (rest := []) dd_X10_product_24 lk_X10_76 mV_X10_refuse kk_0 (zlt rfl) ⟨_, _, rfl⟩ rfl (by decide) (by decide) (Nat.le_of_ble_eq_true rfl) rfl (sp_X10_refuse  (-1) (by first | assumption | omega) ?_)
    show zw_Wp l mm_X10_product (zS L) 27 [some (zR 0), some (zI a), some (zI b), none] [zI (-1)] (zCn mem (-1)) 0 0 Q
    refine wp_ireturn (st := []) dd_X10_product_27 rfl ?_
    exact k _ _ (Or.inl ⟨by omega, rfl, rfl⟩)
  · skip
    refine wp_aload_n dd_X10_product_11 rfl ?_
    refine wp_getR dd_X10_product_12 gf_X10_12 rfl kk_0 (by decide) (zlt rfl) rr_0_0 ?_
    refine wp_iload_n dd_X10_product_15 rfl ?_
    refine wp_callV (M' := mm_X8_has) (As := [zI b]) (rest := []) dd_X10_product_16 lk_X10_132 mV_X8_has kk_1 (zlt rfl) ⟨_, _, rfl⟩ rfl (by decide) (by decide) (Nat.le_of_ble_eq_true rfl) rfl (sp_X8_has  b  ?_)
    show zw_Wp l mm_X10_product (zS L) 19 [some (zR 0), some (zI a), some (zI b), none] [zI (if 0 ≤ b ∧ b < mem 1 1 then 1 else 0)] mem 0 0 Q
    refine wp_if_ne (tgt := 28) dd_X10_product_19 (by decide) (fun c19_2 => ?_) (fun c19_2 => ?_)
    · skip
      refine wp_aload_n dd_X10_product_28 rfl ?_
      refine wp_getR dd_X10_product_29 gf_X10_12 rfl kk_0 (by decide) (zlt rfl) rr_0_0 ?_
      refine wp_callV (M' := mm_X8_isFull) (As := []) (rest := []) dd_X10_product_32 lk_X10_87 mV_X8_isFull kk_1 (zlt rfl) ⟨_, _, rfl⟩ rfl (by decide) (by decide) (Nat.le_of_ble_eq_true rfl) rfl (sp_X8_isFull    ?_)
      show zw_Wp l mm_X10_product (zS L) 35 [some (zR 0), some (zI a), some (zI b), none] [zI (if 6 ≤ mem 1 1 then 1 else 0)] mem 0 0 Q
      refine wp_if_eq (tgt := 45) dd_X10_product_35 (by decide) (fun c35_3 => ?_) (fun c35_3 => ?_)
      · skip
        have hqa : 0 ≤ a ∧ a < 6 := by omega
        have hqb : 0 ≤ b ∧ b < 6 := by omega
        have hTa := I1.T (q := a) (by omega) (by omega)
        have hTb := I1.T (q := b) (by omega) (by omega)
        have hCa := I1.C (q := a) (by omega) (by omega)
        have hCb := I1.C (q := b) (by omega) (by omega)
        have hcra := zco_rg hp hTa
        have hcrb := zco_rg hp hTb
        have hzoa := zo_rg hqa
        have hzob := zo_rg hqb
        have hn6 : 0 ≤ mem 67 5 ∧ mem 67 5 < 6 := by omega
        have hzon := zo_rg hn6
        have hna := zo_ne (q := mem 67 5) (r := a) (by omega) (by omega) (by omega)
        have hnb := zo_ne (q := mem 67 5) (r := b) (by omega) (by omega) (by omega)
        have hmw : (zdeg (mem (zo a + 2)) 0 25 + zdeg (mem (zo b + 2)) 0 25 ≤ 4 ∧ zdeg (mem (zo a + 2)) 1 25 + zdeg (mem (zo b + 2)) 1 25 ≤ 4) ↔ (zdeg (zco mem a) 0 25 + zdeg (zco mem b) 0 25 ≤ 4 ∧ zdeg (zco mem a) 1 25 + zdeg (zco mem b) 1 25 ≤ 4) := by rw [hCa.deg, hCa.deg, hCb.deg, hCb.deg]
        refine wp_aload_n dd_X10_product_45 rfl ?_
        refine wp_getR dd_X10_product_46 gf_X10_12 rfl kk_0 (by decide) (zlt rfl) rr_0_0 ?_
        refine wp_getR dd_X10_product_49 gf_X10_135 rfl kk_1 (by decide) (zlt rfl) rr_1_2 ?_
        refine wp_iload_n dd_X10_product_52 rfl ?_
        refine wp_aald dd_X10_product_53 kk_2 (zlt rfl) (by omega) (by omega) (zr2 rfl hqa) ?_
        refine wp_aload_n dd_X10_product_54 rfl ?_
        refine wp_getR dd_X10_product_55 gf_X10_12 rfl kk_0 (by decide) (zlt rfl) rr_0_0 ?_
        refine wp_getR dd_X10_product_58 gf_X10_135 rfl kk_1 (by decide) (zlt rfl) rr_1_2 ?_
        refine wp_iload_n dd_X10_product_61 rfl ?_
        refine wp_aald dd_X10_product_62 kk_2 (zlt rfl) (by omega) (by omega) (zr2 rfl hqb) ?_
        refine wp_callV (M' := mm_X4_multipliesWith) (As := [zR (zo b)]) (rest := []) dd_X10_product_63 lk_X10_296 mV_X4_multipliesWith (zoP hqa).k (zoP hqa).i ⟨_, _, rfl⟩ rfl (by decide) (by decide) (Nat.le_of_ble_eq_true rfl) rfl (sp_X4_multipliesWith  (zo a) (zo b) (zoP hqa) (zoP hqb) ?_)
        show zw_Wp l mm_X10_product (zS L) 66 [some (zR 0), some (zI a), some (zI b), none] [zI (if zdeg (mem ((zo a) + 2)) 0 25 + zdeg (mem ((zo b) + 2)) 0 25 ≤ 4 ∧ zdeg (mem ((zo a) + 2)) 1 25 + zdeg (mem ((zo b) + 2)) 1 25 ≤ 4 then 1 else 0)] mem 0 0 Q
        refine wp_if_ne (tgt := 76) dd_X10_product_66 (by decide) (fun c66_4 => ?_) (fun c66_4 => ?_)
        · skip
          have hm9 : (zdeg (zco mem a) 0 25 + zdeg (zco mem b) 0 25 ≤ 4 ∧ zdeg (zco mem a) 1 25 + zdeg (zco mem b) 1 25 ≤ 4) := hmw.mp (by by_cases z : (zdeg (mem (zo a + 2)) 0 25 + zdeg (mem (zo b + 2)) 0 25 ≤ 4 ∧ zdeg (mem (zo a + 2)) 1 25 + zdeg (mem (zo b + 2)) 1 25 ≤ 4); exact z; rw [if_neg z] at c66_4; omega)
          refine wp_aload_n dd_X10_product_76 rfl ?_
          refine wp_getR dd_X10_product_77 gf_X10_29 rfl kk_0 (by decide) (zlt rfl) rr_0_3 ?_
          refine wp_callV (M' := mm_X3_forget) (As := []) (rest := []) dd_X10_product_80 lk_X10_95 mV_X3_forget kk_44 (zlt rfl) ⟨_, _, rfl⟩ rfl (by decide) (by decide) (Nat.le_of_ble_eq_true rfl) rfl (sp_X3_forget    ?_)
          show zw_Wp l mm_X10_product (zS L) 83 [some (zR 0), some (zI a), some (zI b), none] [] (zu mem 44 0 0) 0 0 Q
          refine wp_aload_n dd_X10_product_83 rfl ?_
          refine wp_getR dd_X10_product_84 gf_X10_12 rfl kk_0 (by decide) (zlt rfl) rr_0_0 ?_
          have z11 : (zu mem 44 0 0) 1 1 = mem 67 5 := by rw [zu_row (by decide)]; exact e11
          refine wp_callV (M' := mm_X8_addPlain) (As := []) (rest := []) dd_X10_product_87 lk_X10_96 mV_X8_addPlain kk_1 (zlt rfl) ⟨_, _, rfl⟩ rfl (by decide) (by decide) (Nat.le_of_ble_eq_true rfl) rfl (sp_X8_addPlain   (by rw [zu_row (by decide)]; omega) (fun ma fa sa ga => ?_))
          show zw_Wp l mm_X10_product (zS L) 90 [some (zR 0), some (zI a), some (zI b), none] [zR (zo ((zu mem 44 0 0) 1 1))] ma 0 0 Q
          rw [z11] at fa sa ga
          have hCa1 : zRw ma (zo a) (zco mem a) := hCa.keep (by rw [ga _ (by omega) (by omega) (by omega) (by omega), zu_row (by omega)])
          have hCb1 : zRw ma (zo b) (zco mem b) := hCb.keep (by rw [ga _ (by omega) (by omega) (by omega) (by omega), zu_row (by omega)])
          have a10 : ma 1 0 = mem 67 1 := by rw [sa.2 0 (by decide), zu_row (by decide)]; exact e10
          rw [z11]
          refine wp_astore_n (ls2 := [some (zR 0), some (zI a), some (zI b), some (zR (zo (mem 67 5)))]) dd_X10_product_90 rfl (by decide) rfl ?_
          refine wp_aload_n dd_X10_product_91 rfl ?_
          refine wp_aload_n dd_X10_product_92 rfl ?_
          refine wp_getR dd_X10_product_93 gf_X10_12 rfl kk_0 (by decide) (zlt rfl) rr_0_0 ?_
          refine wp_getR dd_X10_product_96 gf_X10_135 rfl kk_1 (by decide) (zlt rfl) rr_1_2 ?_
          refine wp_iload_n dd_X10_product_99 rfl ?_
          refine wp_aald dd_X10_product_100 kk_2 (zlt rfl) (by omega) (by omega) (zr2 rfl hqa) ?_
          refine wp_aload_n dd_X10_product_101 rfl ?_
          refine wp_getR dd_X10_product_102 gf_X10_12 rfl kk_0 (by decide) (zlt rfl) rr_0_0 ?_
          refine wp_getR dd_X10_product_105 gf_X10_135 rfl kk_1 (by decide) (zlt rfl) rr_1_2 ?_
          refine wp_iload_n dd_X10_product_108 rfl ?_
          refine wp_aald dd_X10_product_109 kk_2 (zlt rfl) (by omega) (by omega) (zr2 rfl hqb) ?_
          refine wp_aload_n dd_X10_product_110 rfl ?_
          refine wp_getR dd_X10_product_111 gf_X10_12 rfl kk_0 (by decide) (zlt rfl) rr_0_0 ?_
          refine wp_getZ 0 rfl dd_X10_product_114 gf_X10_114 rfl kk_1 (by decide) (zlt rfl) ?_
          refine wp_callV (M' := mm_X4_multiply) (As := [zR (zo a), zR (zo b), zI (ma 1 0)]) (rest := []) dd_X10_product_117 lk_X10_300 mV_X4_multiply (zoP hn6).k (zoP hn6).i ⟨_, _, rfl⟩ rfl (by decide) (by decide) (Nat.le_of_ble_eq_true rfl) rfl (sp_X4_multiply  (zo (mem 67 5)) (zo a) (zo b) (ma 1 0) (zoP hn6) (zoP hqa) (zoP hqb) (by omega) (by omega) (by rw [a10]; exact hpr) ⟨fa.1, fa.2.1, fun t q1 q2 => (fa.2.2 t q1 q2).1⟩ (fun t q1 q2 => by rw [hCa1 t q1 q2, a10]; exact hcra t q1 q2) (fun t q1 q2 => by rw [hCb1 t q1 q2, a10]; exact hcrb t q1 q2) (fun mb fb gb => ?_))
          show zw_Wp l mm_X10_product (zS L) 120 [some (zR 0), some (zI a), some (zI b), some (zR (zo (mem 67 5)))] [] mb 0 0 Q
          have b11 : mb 1 1 = mem 67 5 + 1 := by rw [gb 1 (by omega) (by omega)]; exact sa.1
          refine wp_aload_n dd_X10_product_120 rfl ?_
          refine wp_getR dd_X10_product_121 gf_X10_12 rfl kk_0 (by decide) (zlt rfl) rr_0_0 ?_
          refine wp_getZ 1 rfl dd_X10_product_124 gf_X10_122 rfl kk_1 (by decide) (zlt rfl) ?_
          refine wp_iconst dd_X10_product_127 (zr_lit rfl) ?_
          refine wp_isubC dd_X10_product_128 (by omega) ?_
          refine wp_ireturn (st := []) dd_X10_product_129 rfl ?_
          rw [a10] at fb
          refine k _ _ (Or.inr (Or.inr (Or.inr ⟨by omega, by omega, hm9, by omega, by rw [gb 41 (by omega) (by omega), ga 41 (by decide) (by omega) (by omega) (by omega), zu_row (by decide)], ?_, ⟨?_, b11⟩, fb.told (fun t q1 q2 => ?_), fun x h1 h2 h3 h4 h5 h6 => ?_⟩)))
          · rw [gb 44 (by omega) (by omega), ga 44 (by decide) (by omega) (by omega) (by omega), zu_s]
          · rw [gb 1 (by omega) (by omega)]; exact a10
          · rw [zcv_cg hCa1 hCb1 25 (by omega)]
          · rw [gb x h4 h5, ga x h1 h3 h4 h5, zu_row h2]
        · skip
          have hm9 : ¬ (zdeg (zco mem a) 0 25 + zdeg (zco mem b) 0 25 ≤ 4 ∧ zdeg (zco mem a) 1 25 + zdeg (zco mem b) 1 25 ≤ 4) := fun z => by rw [if_pos (hmw.mpr z)] at c66_4; omega
          refine wp_aload_n dd_X10_product_69 rfl ?_
          refine wp_bipush dd_X10_product_70 (by decide) ?_
          refine wp_callV (M' := mm_X10_refuse) (As := [zI (-3)]) (rest := []) dd_X10_product_72 lk_X10_76 mV_X10_refuse kk_0 (zlt rfl) ⟨_, _, rfl⟩ rfl (by decide) (by decide) (Nat.le_of_ble_eq_true rfl) rfl (sp_X10_refuse  (-3) (by first | assumption | omega) ?_)
          show zw_Wp l mm_X10_product (zS L) 75 [some (zR 0), some (zI a), some (zI b), none] [zI (-3)] (zCn mem (-3)) 0 0 Q
          refine wp_ireturn (st := []) dd_X10_product_75 rfl ?_
          exact k _ _ (Or.inr (Or.inr (Or.inl ⟨by omega, by omega, hm9, rfl, rfl⟩)))
      · skip
        refine wp_aload_n dd_X10_product_38 rfl ?_
        refine wp_bipush dd_X10_product_39 (by decide) ?_
        refine wp_callV (M' := mm_X10_refuse) (As := [zI (-6)]) (rest := []) dd_X10_product_41 lk_X10_76 mV_X10_refuse kk_0 (zlt rfl) ⟨_, _, rfl⟩ rfl (by decide) (by decide) (Nat.le_of_ble_eq_true rfl) rfl (sp_X10_refuse  (-6) (by first | assumption | omega) ?_)
        show zw_Wp l mm_X10_product (zS L) 44 [some (zR 0), some (zI a), some (zI b), none] [zI (-6)] (zCn mem (-6)) 0 0 Q
        refine wp_ireturn (st := []) dd_X10_product_44 rfl ?_
        exact k _ _ (Or.inr (Or.inl ⟨by omega, by omega, rfl, rfl⟩))
    · skip
      refine wp_aload_n dd_X10_product_22 rfl ?_
      refine wp_iconst dd_X10_product_23 (zr_lit rfl) ?_
      refine wp_callV (M' := mm_X10_refuse) (As := [zI (-1)]) (rest := []) dd_X10_product_24 lk_X10_76 mV_X10_refuse kk_0 (zlt rfl) ⟨_, _, rfl⟩ rfl (by decide) (by decide) (Nat.le_of_ble_eq_true rfl) rfl (sp_X10_refuse  (-1) (by first | assumption | omega) ?_)
      show zw_Wp l mm_X10_product (zS L) 27 [some (zR 0), some (zI a), some (zI b), none] [zI (-1)] (zCn mem (-1)) 0 0 Q
      refine wp_ireturn (st := []) dd_X10_product_27 rfl ?_
      exact k _ _ (Or.inl ⟨by omega, rfl, rfl⟩)

set_option maxRecDepth 100000 in
set_option maxHeartbeats 4000000 in
theorem sp_X10_poly {l : Launch} {L : Nat} {mem : zMem} {Q : zQ}   (hI : zInv mem) (k : ∀ (r : Int) (m1 : zMem), ((mem 67 5 = 6 ∧ r = -6 ∧ m1 = zCn mem (-6)) ∨ (mem 67 5 < 6 ∧ m1 41 0 = 0 ∧ (((zall (zcx mem) (mem 41 0)).1 = 0 ∧ r = -1000 - (zall (zcx mem) (mem 41 0)).2.1 ∧ ∀ a : Nat, (a < 41 ∨ 42 < a) → m1 a = mem a) ∨ ((zall (zcx mem) (mem 41 0)).1 = 1 ∧ r = mem 67 5 ∧ zNw mem m1 (zall (zcx mem) (mem 41 0)).2.2)))) → Q (some (zI r)) (zS L) m1) : zw_Ok l mm_X10_poly [zR 0] (zS L) mem Q := by
  refine zw_enter (by decide) (Nat.le_of_ble_eq_true rfl) rfl ?_
  show zw_Wp l mm_X10_poly (zS L) 0 [some (zR 0), none, none] [] mem 0 0 Q
  obtain ⟨I1, I2, I3, I4, I5, I6, I7⟩ := id hI
  have hp := I1.1
  have hpr := hp.rg
  have e10 := I1.2.1
  have hn5 := I1.2.2.1
  have e11 := I1.2.2.2.1
  have hRd : zRd mem (zcx mem) := ⟨rfl, by rw [I3.1]; exact I3.2.1, fun i q1 q2 => by rw [I3.1] at q2; have z := I3.2.2 i q1 q2; rw [z.1]; exact z.2⟩
  refine wp_aload_n dd_X10_poly_0 rfl ?_
  refine wp_getR dd_X10_poly_1 gf_X10_12 rfl kk_0 (by decide) (zlt rfl) rr_0_0 ?_
  refine wp_callV (M' := mm_X8_isFull) (As := []) (rest := []) dd_X10_poly_4 lk_X10_87 mV_X8_isFull kk_1 (zlt rfl) ⟨_, _, rfl⟩ rfl (by decide) (by decide) (Nat.le_of_ble_eq_true rfl) rfl (sp_X8_isFull    ?_)
  show zw_Wp l mm_X10_poly (zS L) 7 [some (zR 0), none, none] [zI (if 6 ≤ mem 1 1 then 1 else 0)] mem 0 0 Q
  refine wp_if_eq (tgt := 17) dd_X10_poly_7 (by decide) (fun c7_1 => ?_) (fun c7_1 => ?_)
  · skip
    refine wp_aload_n dd_X10_poly_17 rfl ?_
    refine wp_getR dd_X10_poly_18 gf_X10_22 rfl kk_0 (by decide) (zlt rfl) rr_0_2 ?_
    refine wp_callV (M' := mm_X6_read) (As := []) (rest := []) dd_X10_poly_21 lk_X10_88 mV_X6_read kk_41 (zlt rfl) ⟨_, _, rfl⟩ rfl (by decide) (by decide) (Nat.le_of_ble_eq_true rfl) rfl (sp_X6_read (zcx mem)  hRd (fun rr mr fr sr gr => ?_))
    show zw_Wp l mm_X10_poly (zS L) 24 [some (zR 0), none, none] [zI rr] mr 0 0 Q
    refine wp_istore_n (ls2 := [some (zR 0), some (zI rr), none]) dd_X10_poly_24 rfl (by decide) rfl ?_
    refine wp_aload_n dd_X10_poly_25 rfl ?_
    refine wp_getR dd_X10_poly_26 gf_X10_22 rfl kk_0 (by decide) (zlt rfl) rr_0_2 ?_
    refine wp_callV (M' := mm_X6_forget) (As := []) (rest := []) dd_X10_poly_29 lk_X10_92 mV_X6_forget kk_41 (zlt rfl) ⟨_, _, rfl⟩ rfl (by decide) (by decide) (Nat.le_of_ble_eq_true rfl) rfl (sp_X6_forget    ?_)
    show zw_Wp l mm_X10_poly (zS L) 32 [some (zR 0), some (zI rr), none] [] (zu mr 41 0 0) 0 0 Q
    refine wp_iload_n dd_X10_poly_32 rfl ?_
    refine wp_if_lt (tgt := 42) dd_X10_poly_33 (by decide) (fun c33_2 => ?_) (fun c33_2 => ?_)
    · skip
      have fr2 : (zall (zcx mem) (mem 41 0)).1 = 1 ∧ ∀ t : Int, 0 ≤ t → t < 25 → mr 42 t = (zall (zcx mem) (mem 41 0)).2.2 t := by
        rcases fr with z | z
        · omega
        · exact ⟨z.1, z.2.2⟩
      have hn6 : 0 ≤ mem 67 5 ∧ mem 67 5 < 6 := by omega
      have hzon := zo_rg hn6
      have z11 : (zu (zu mr 41 0 0) 44 0 0) 1 1 = mem 67 5 := by rw [zu_row (by decide), zu_row (by decide), gr 1 (by decide) (by decide)]; exact e11
      refine wp_aload_n dd_X10_poly_42 rfl ?_
      refine wp_getR dd_X10_poly_43 gf_X10_29 rfl kk_0 (by decide) (zlt rfl) rr_0_3 ?_
      refine wp_callV (M' := mm_X3_forget) (As := []) (rest := []) dd_X10_poly_46 lk_X10_95 mV_X3_forget kk_44 (zlt rfl) ⟨_, _, rfl⟩ rfl (by decide) (by decide) (Nat.le_of_ble_eq_true rfl) rfl (sp_X3_forget    ?_)
      show zw_Wp l mm_X10_poly (zS L) 49 [some (zR 0), some (zI rr), none] [] (zu (zu mr 41 0 0) 44 0 0) 0 0 Q
      refine wp_aload_n dd_X10_poly_49 rfl ?_
      refine wp_getR dd_X10_poly_50 gf_X10_12 rfl kk_0 (by decide) (zlt rfl) rr_0_0 ?_
      refine wp_callV (M' := mm_X8_addPlain) (As := []) (rest := []) dd_X10_poly_53 lk_X10_96 mV_X8_addPlain kk_1 (zlt rfl) ⟨_, _, rfl⟩ rfl (by decide) (by decide) (Nat.le_of_ble_eq_true rfl) rfl (sp_X8_addPlain   (by omega) (fun ma fa sa ga => ?_))
      show zw_Wp l mm_X10_poly (zS L) 56 [some (zR 0), some (zI rr), none] [zR (zo ((zu (zu mr 41 0 0) 44 0 0) 1 1))] ma 0 0 Q
      rw [z11] at fa sa ga
      rw [z11]
      have a10 : ma 1 0 = mem 67 1 := by rw [sa.2 0 (by decide), zu_row (by decide), zu_row (by decide), gr 1 (by decide) (by decide)]; exact e10
      have a42 : ma 42 = mr 42 := by rw [ga 42 (by decide) (by omega) (by omega) (by omega), zu_row (by decide), zu_row (by decide)]
      refine wp_astore_n (ls2 := [some (zR 0), some (zI rr), some (zR (zo (mem 67 5)))]) dd_X10_poly_56 rfl (by decide) rfl ?_
      refine wp_aload_n dd_X10_poly_57 rfl ?_
      refine wp_getR dd_X10_poly_58 gf_X10_22 rfl kk_0 (by decide) (zlt rfl) rr_0_2 ?_
      refine wp_getR dd_X10_poly_61 gf_X10_100 rfl kk_41 (by decide) (zlt rfl) rr_41_1 ?_
      refine wp_iconst dd_X10_poly_64 (zr_lit rfl) ?_
      refine wp_aload_n dd_X10_poly_65 rfl ?_
      refine wp_getR dd_X10_poly_66 gf_X10_103 rfl (zoP hn6).k (by decide) (zoP hn6).i (zoP hn6).t ?_
      refine wp_iconst dd_X10_poly_69 (zr_lit rfl) ?_
      refine wp_aload_n dd_X10_poly_70 rfl ?_
      refine wp_getR dd_X10_poly_71 gf_X10_103 rfl (zoP hn6).k (by decide) (zoP hn6).i (zoP hn6).t ?_
      refine wp_alen dd_X10_poly_74 (zoP hn6).kt (zoP hn6).it (by decide) ?_
      show zw_Wp l mm_X10_poly (zS L) 75 [some (zR 0), some (zI rr), some (zR (zo (mem 67 5)))] [zI 25, zI 0, zR (zo (mem 67 5) + 1), zI 0, zR 42] ma 0 0 Q
      refine wp_copy dd_X10_poly_75 lk_X10_108 kk_42 (zlt rfl) (zoP hn6).kt (zoP hn6).it (by omega) (by omega) (by omega) (by omega) (by omega) (by decide) (by decide) ?_
      refine wp_aload_n dd_X10_poly_78 rfl ?_
      refine wp_aload_n dd_X10_poly_79 rfl ?_
      refine wp_getR dd_X10_poly_80 gf_X10_12 rfl kk_0 (by decide) (zlt rfl) rr_0_0 ?_
      refine wp_getZ 0 rfl dd_X10_poly_83 gf_X10_114 rfl kk_1 (by decide) (zlt rfl) ?_
      have z0 : (zcp ma 42 0 (zo (mem 67 5) + 1) 0 25) (zo (mem 67 5)) = ma (zo (mem 67 5)) := zcp_row (by omega)
      have c10 : (zcp ma 42 0 (zo (mem 67 5) + 1) 0 25) 1 = ma 1 := zcp_row (by omega)
      refine wp_callV (M' := mm_X4_reduceBy) (As := [zI ((zcp ma 42 0 (zo (mem 67 5) + 1) 0 25) 1 0)]) (rest := []) dd_X10_poly_86 lk_X10_118 mV_X4_reduceBy (zoP hn6).k (zoP hn6).i ⟨_, _, rfl⟩ rfl (by decide) (by decide) (Nat.le_of_ble_eq_true rfl) rfl (sp_X4_reduceBy  (zo (mem 67 5)) ((zcp ma 42 0 (zo (mem 67 5) + 1) 0 25) 1 0) (zoP hn6) (by rw [c10, a10]; exact hpr) (by rw [z0, fa.1]; decide) (by rw [z0, fa.2.1]; decide) (fun mb fb gb => ?_))
      show zw_Wp l mm_X10_poly (zS L) 89 [some (zR 0), some (zI rr), some (zR (zo (mem 67 5)))] [] mb 0 0 Q
      rw [c10, a10, z0, fa.1, fa.2.1] at fb
      have b11 : mb 1 1 = mem 67 5 + 1 := by rw [gb 1 (by omega) (by omega), c10]; exact sa.1
      refine wp_aload_n dd_X10_poly_89 rfl ?_
      refine wp_getR dd_X10_poly_90 gf_X10_12 rfl kk_0 (by decide) (zlt rfl) rr_0_0 ?_
      refine wp_getZ 1 rfl dd_X10_poly_93 gf_X10_122 rfl kk_1 (by decide) (zlt rfl) ?_
      refine wp_iconst dd_X10_poly_96 (zr_lit rfl) ?_
      refine wp_isubC dd_X10_poly_97 (by omega) ?_
      refine wp_ireturn (st := []) dd_X10_poly_98 rfl ?_
      refine k _ _ (Or.inr ⟨by omega, ?_, Or.inr ⟨fr2.1, by omega, ?_, ⟨?_, b11⟩, fb.told (fun t q1 q2 => ?_), fun x h1 h2 h3 h4 h5 h6 => ?_⟩⟩)
      · rw [gb 41 (by omega) (by omega), zcp_row (by omega), ga 41 (by decide) (by omega) (by omega) (by omega), zu_row (by decide), zu_s]
      · rw [gb 44 (by omega) (by omega), zcp_row (by omega), ga 44 (by decide) (by omega) (by omega) (by omega), zu_s]
      · rw [gb 1 (by omega) (by omega), c10]; exact a10
      · rw [zcp_in q1 (by omega), show (0 : Int) + (t - 0) = t by omega, a42, fr2.2 t q1 q2]
      · rw [gb x h4 h5, zcp_row h4, ga x h1 h3 h4 h5, zu_row h2, zu_row (by omega), gr x (by omega) (by omega)]
    · skip
      refine wp_sipush dd_X10_poly_36 (by decide) ?_
      refine wp_iload_n dd_X10_poly_39 rfl ?_
      have rb : 0 ≤ rr ∧ rr ≤ 200 := by rcases fr with z | z <;> omega
      refine wp_isubC dd_X10_poly_40 (by omega) ?_
      refine wp_ireturn (st := []) dd_X10_poly_41 rfl ?_
      rcases fr with ⟨z1, z2, z3, z4⟩ | ⟨z1, z2, z3⟩
      · exact k _ _ (Or.inr ⟨by omega, zu_s, Or.inl ⟨z1, by rw [z2], fun a ha => by rw [zu_row (by omega)]; exact gr a (by omega) (by omega)⟩⟩)
      · omega
  · skip
    refine wp_aload_n dd_X10_poly_10 rfl ?_
    refine wp_bipush dd_X10_poly_11 (by decide) ?_
    refine wp_callV (M' := mm_X10_refuse) (As := [zI (-6)]) (rest := []) dd_X10_poly_13 lk_X10_76 mV_X10_refuse kk_0 (zlt rfl) ⟨_, _, rfl⟩ rfl (by decide) (by decide) (Nat.le_of_ble_eq_true rfl) rfl (sp_X10_refuse  (-6) (by first | assumption | omega) ?_)
    show zw_Wp l mm_X10_poly (zS L) 16 [some (zR 0), none, none] [zI (-6)] (zCn mem (-6)) 0 0 Q
    refine wp_ireturn (st := []) dd_X10_poly_16 rfl ?_
    exact k _ _ (Or.inl ⟨by omega, rfl, rfl⟩)

set_option maxRecDepth 100000 in
set_option maxHeartbeats 4000000 in
theorem sp_X10_image {l : Launch} {L : Nat} {mem : zMem} {Q : zQ}   (hI : zInv mem) (k : ∀ (r : Int) (m1 : zMem), (r = mem 67 5) → ((m1 21 0 = mem 1 0 ∧ m1 21 1 = mem 1 1) ∧ ∀ q : Int, 0 ≤ q → q < mem 1 1 → m1 (zo2 q) 0 = mem (zo q) 0 ∧ m1 (zo2 q) 1 = mem (zo q) 1 ∧ ∀ x : Int, 0 ≤ x → x < 25 → m1 (zo2 q + 1) x = mem (zo q + 1) x ∧ m1 (zo2 q + 2) x = mem (zo q + 2) x) → (m1 0 10 = 1) → (∀ a : Nat, a ≠ 0 → a ≠ 21 → (a < 23 ∨ 40 < a) → m1 a = mem a) → Q (some (zI r)) (zS L) m1) : zw_Ok l mm_X10_image [zR 0] (zS L) mem Q := by
  refine zw_enter (by decide) (Nat.le_of_ble_eq_true rfl) rfl ?_
  show zw_Wp l mm_X10_image (zS L) 0 [some (zR 0)] [] mem 0 0 Q
  obtain ⟨I1, I2, I3, I4, I5, I6, I7⟩ := id hI
  have hp := I1.1
  have hpr := hp.rg
  have e10 := I1.2.1
  have hn5 := I1.2.2.1
  have e11 := I1.2.2.2.1
  refine wp_aload_n dd_X10_image_0 rfl ?_
  refine wp_getR dd_X10_image_1 gf_X10_16 rfl kk_0 (by decide) (zlt rfl) rr_0_1 ?_
  refine wp_aload_n dd_X10_image_4 rfl ?_
  refine wp_getR dd_X10_image_5 gf_X10_12 rfl kk_0 (by decide) (zlt rfl) rr_0_0 ?_
  refine wp_callV (M' := mm_X8_copyFrom) (As := [zR 1]) (rest := []) dd_X10_image_8 lk_X10_346 mV_X8_copyFrom kk_21 (zlt rfl) ⟨_, _, rfl⟩ rfl (by decide) (by decide) (Nat.le_of_ble_eq_true rfl) rfl (sp_X8_copyFrom_im   (by omega) (fun ma sa fa ga => ?_))
  show zw_Wp l mm_X10_image (zS L) 11 [some (zR 0)] [] ma 0 0 Q
  refine wp_aload_n dd_X10_image_11 rfl ?_
  refine wp_iconst dd_X10_image_12 (zr_lit rfl) ?_
  refine wp_putzZ 10 rfl dd_X10_image_13 pf_X10_72 rfl kk_0 (by decide) (zlt rfl) (by omega) ?_
  refine wp_aload_n dd_X10_image_16 rfl ?_
  refine wp_getR dd_X10_image_17 gf_X10_12 rfl kk_0 (by decide) (zlt rfl) rr_0_0 ?_
  refine wp_getV 1 (v := ma 1 1) rfl (by rw [zu_row (by decide)]) dd_X10_image_20 gf_X10_122 rfl kk_1 (by decide) (zlt rfl) ?_
  refine wp_ireturn (st := []) dd_X10_image_23 rfl ?_
  refine k _ _ (by rw [ga 1 (by decide) (by decide)]; exact e11) ⟨⟨?_, ?_⟩, fun q q1 q2 => ?_⟩ zu_s (fun a h1 h2 h3 => by rw [zu_row h1]; exact ga a h2 h3)
  · rw [zu_row (by decide)]; exact sa.1
  · rw [zu_row (by decide)]; exact sa.2
  · have hq9 := zo2_rg (q := q) (by omega)
    rw [zu_row (by omega), zu_row (by omega), zu_row (by omega)]; exact fa q q1 q2

set_option maxRecDepth 100000 in
set_option maxHeartbeats 4000000 in
theorem sp_X10_on {l : Launch} {L : Nat} {mem : zMem} {Q : zQ}   (hI : zInv mem) (k : ∀ (r : Int) (m1 : zMem), ((mem 0 10 = 0 ∧ r = -3 ∧ m1 = zCn mem (-3)) ∨ (mem 0 10 ≠ 0 ∧ r = mem 21 1 ∧ ((m1 1 0 = mem 21 0 ∧ m1 1 1 = mem 21 1) ∧ ∀ q : Int, 0 ≤ q → q < mem 21 1 → m1 (zo q) 0 = mem (zo2 q) 0 ∧ m1 (zo q) 1 = mem (zo2 q) 1 ∧ ∀ x : Int, 0 ≤ x → x < 25 → m1 (zo q + 1) x = mem (zo2 q + 1) x ∧ m1 (zo q + 2) x = mem (zo2 q + 2) x) ∧ m1 44 0 = 0 ∧ ∀ a : Nat, a ≠ 1 → a ≠ 44 → (a < 3 ∨ 20 < a) → m1 a = mem a)) → Q (some (zI r)) (zS L) m1) : zw_Ok l mm_X10_on [zR 0] (zS L) mem Q := by
  refine zw_enter (by decide) (Nat.le_of_ble_eq_true rfl) rfl ?_
  show zw_Wp l mm_X10_on (zS L) 0 [some (zR 0)] [] mem 0 0 Q
  obtain ⟨I1, I2, I3, I4, I5, I6, I7⟩ := id hI
  have hp := I1.1
  have hpr := hp.rg
  have e10 := I1.2.1
  have hn5 := I1.2.2.1
  have e11 := I1.2.2.2.1
  refine wp_aload_n dd_X10_on_0 rfl ?_
  refine wp_getZ 10 rfl dd_X10_on_1 gf_X10_72 rfl kk_0 (by decide) (zlt rfl) ?_
  refine wp_if_ne (tgt := 14) dd_X10_on_4 (by decide) (fun c4_1 => ?_) (fun c4_1 => ?_)
  · skip
    have h21 : 0 ≤ mem 21 1 ∧ mem 21 1 ≤ 6 := by
      rcases I2 with z | z
      · omega
      · have := z.2.2.2.1; have := z.2.2.2.2.2.1; omega
    refine wp_aload_n dd_X10_on_14 rfl ?_
    refine wp_getR dd_X10_on_15 gf_X10_29 rfl kk_0 (by decide) (zlt rfl) rr_0_3 ?_
    refine wp_callV (M' := mm_X3_forget) (As := []) (rest := []) dd_X10_on_18 lk_X10_95 mV_X3_forget kk_44 (zlt rfl) ⟨_, _, rfl⟩ rfl (by decide) (by decide) (Nat.le_of_ble_eq_true rfl) rfl (sp_X3_forget    ?_)
    show zw_Wp l mm_X10_on (zS L) 21 [some (zR 0)] [] (zu mem 44 0 0) 0 0 Q
    refine wp_aload_n dd_X10_on_21 rfl ?_
    refine wp_getR dd_X10_on_22 gf_X10_12 rfl kk_0 (by decide) (zlt rfl) rr_0_0 ?_
    refine wp_aload_n dd_X10_on_25 rfl ?_
    refine wp_getR dd_X10_on_26 gf_X10_16 rfl kk_0 (by decide) (zlt rfl) rr_0_1 ?_
    refine wp_callV (M' := mm_X8_copyFrom) (As := [zR 21]) (rest := []) dd_X10_on_29 lk_X10_346 mV_X8_copyFrom kk_1 (zlt rfl) ⟨_, _, rfl⟩ rfl (by decide) (by decide) (Nat.le_of_ble_eq_true rfl) rfl (sp_X8_copyFrom_on   (by rw [zu_row (by decide)]; omega) (fun ma sa fa ga => ?_))
    show zw_Wp l mm_X10_on (zS L) 32 [some (zR 0)] [] ma 0 0 Q
    rw [zu_row (by decide)] at sa fa
    refine wp_aload_n dd_X10_on_32 rfl ?_
    refine wp_getR dd_X10_on_33 gf_X10_12 rfl kk_0 (by decide) (zlt rfl) rr_0_0 ?_
    refine wp_getZ 1 rfl dd_X10_on_36 gf_X10_122 rfl kk_1 (by decide) (zlt rfl) ?_
    refine wp_ireturn (st := []) dd_X10_on_39 rfl ?_
    refine k _ _ (Or.inr ⟨by omega, sa.2, ⟨sa, fun q q1 q2 => ?_⟩, by rw [ga 44 (by decide) (by decide), zu_s], fun a h1 h2 h3 => by rw [ga a h1 h3, zu_row h2]⟩)
    have hq9 := zo2_rg (q := q) (by omega)
    have f9 := fa q q1 q2
    rw [zu_row (show zo2 q ≠ 44 by omega), zu_row (show zo2 q + 1 ≠ 44 by omega), zu_row (show zo2 q + 2 ≠ 44 by omega)] at f9
    exact f9
  · skip
    refine wp_aload_n dd_X10_on_7 rfl ?_
    refine wp_bipush dd_X10_on_8 (by decide) ?_
    refine wp_callV (M' := mm_X10_refuse) (As := [zI (-3)]) (rest := []) dd_X10_on_10 lk_X10_76 mV_X10_refuse kk_0 (zlt rfl) ⟨_, _, rfl⟩ rfl (by decide) (by decide) (Nat.le_of_ble_eq_true rfl) rfl (sp_X10_refuse  (-3) (by first | assumption | omega) ?_)
    show zw_Wp l mm_X10_on (zS L) 13 [some (zR 0)] [zI (-3)] (zCn mem (-3)) 0 0 Q
    refine wp_ireturn (st := []) dd_X10_on_13 rfl ?_
    exact k _ _ (Or.inl ⟨by omega, rfl, rfl⟩)


/-! ===== the class: what is asked ===== -/
def zyW (m : zMem) (q w : Int) : Int := if ¬ (0 ≤ q ∧ q < m 67 5) then -1 else if ¬ (0 ≤ w ∧ w ≤ 5) then -2 else 0
def zof (m : zMem) (q w : Int) : Int := if w = 0 then m 70 q else if w = 1 then m 71 q else if w = 2 then zdeg (zco m q) 0 25 else if w = 3 then zdeg (zco m q) 1 25 else if w = 4 then zcnt (zco m q) 25 else zdeg (zco m q) 2 25
def zyE (m : zMem) (a b le tb i j k : Int) : Int := if zyB m a b le tb ≠ 0 then zyB m a b le tb else if i < 0 ∨ j < 0 ∨ k < 0 then -4 else if zsm m a b le tb ≤ i ∨ zsm m a b le tb ≤ j ∨ 9 ≤ k then -6 else 0
def zyR (m : zMem) (a b le tb d : Int) : Int := if zyB m a b le tb ≠ 0 then zyB m a b le tb else if d < 0 then -4 else if 41 ≤ d then -6 else 0
def zyX (m : zMem) (a b le tb v : Int) : Int := if zyB m a b le tb ≠ 0 then zyB m a b le tb else if v < 0 then -4 else if m 67 1 ≤ v then -6 else 0
def zyM (m : zMem) (a b le v k : Int) : Int := if zyB m a b le 0 ≠ 0 then zyB m a b le 0 else if v < 0 ∨ k < -1 then -4 else if m 67 1 ≤ v then -6 else 0
def zyF (m : zMem) (a b le : Int) : Int := if (0 ≤ a ∧ a < m 67 5) ∧ (0 ≤ b ∧ b < m 67 5) ∧ 0 ≤ le ∧ le ≤ 1 then 0 else -1
def zyG (m : zMem) (a b k : Int) : Int := if ¬ ((0 ≤ a ∧ a < m 67 5) ∧ (0 ≤ b ∧ b < m 67 5)) then -1 else if k < -1 then -4 else 0
theorem zrdg_un {f : Int → Int} {d : Int} : ∀ {n : Nat}, ((d = -9 ∧ ∀ j : Int, 0 ≤ j → j < (n : Int) → f j = 0) ∨ (0 ≤ d ∧ d < (n : Int) ∧ f d ≠ 0 ∧ ∀ j : Int, d < j → j < (n : Int) → f j = 0)) → d = zrdg f n
  | 0, h => by
    rcases h with h | h
    · exact h.1
    · omega
  | n + 1, h => by
    unfold zrdg
    by_cases q : f n ≠ 0
    · rw [if_pos q]
      rcases h with ⟨h1, h2⟩ | ⟨h1, h2, h3, h4⟩
      · exact absurd (h2 n (by omega) (by omega)) q
      · by_cases e : d = n
        · exact e
        · exact absurd (h4 n (by omega) (by omega)) q
    · rw [if_neg q]
      refine zrdg_un ?_
      rcases h with ⟨h1, h2⟩ | ⟨h1, h2, h3, h4⟩
      · exact Or.inl ⟨h1, fun j q1 q2 => h2 j q1 (by omega)⟩
      · refine Or.inr ⟨h1, ?_, h3, fun j q1 q2 => h4 j q1 (by omega)⟩
        by_cases e : d = n
        · exact absurd (e ▸ h3) q
        · omega
theorem zrdg_cg {f g : Int → Int} : ∀ n : Nat, (∀ x : Int, 0 ≤ x → x < n → f x = g x) → zrdg f n = zrdg g n
  | 0, _ => rfl
  | n + 1, h => by rw [zrdg, zrdg, h n (by omega) (by omega), zrdg_cg n (fun x q1 q2 => h x q1 (by omega))]
theorem zk0_cg {c d : Int → Int} : ∀ (n : Nat) (k : Int), (∀ x : Int, 0 ≤ x → x < n → c x = d x) → zk0 c k n = zk0 d k n
  | 0, _, _ => rfl
  | n + 1, k, h => by rw [zk0, zk0, h n (by omega) (by omega), zk0_cg n k (fun x q1 q2 => h x q1 (by omega)), zk0_cg n (k - 1) (fun x q1 q2 => h x q1 (by omega))]
theorem zk1_cg {c d : Int → Int} (h : ∀ x : Int, 0 ≤ x → x < 25 → c x = d x) : ∀ (n : Nat) (k : Int), zk1 c k n = zk1 d k n
  | 0, _ => rfl
  | n + 1, k => by
    rw [zk1, zk1, zk1_cg h n k, zk1_cg h n (k - 1)]
    by_cases q : 0 ≤ (n : Int) / 5 - (n : Int) % 5 ∧ (n : Int) / 5 - (n : Int) % 5 ≤ 4
    · rw [h _ (by omega) (by omega)]
    · rw [if_neg (fun z => q ⟨z.1, z.2.1⟩), if_neg (fun z => q ⟨z.1, z.2.1⟩)]

set_option maxRecDepth 100000 in
set_option maxHeartbeats 4000000 in
theorem sp_X10_coefficient {l : Launch} {L : Nat} {mem : zMem} {Q : zQ}  (q : Int) (i : Int) (j : Int) (hI : zInv mem) (k : ∀ (r : Int) (m1 : zMem), (zAn mem m1 r (zyP mem q i j) (zco mem q (5 * i + j))) → Q (some (zI r)) (zS L) m1) : zw_Ok l mm_X10_coefficient [zR 0, zI q, zI i, zI j] (zS L) mem Q := by
  refine zw_okA (fun hA => ?_)
  have rg_q : -2147483648 ≤ q ∧ q < 2147483648 := hA.2.1
  have rg_i : -2147483648 ≤ i ∧ i < 2147483648 := hA.2.2.1
  have rg_j : -2147483648 ≤ j ∧ j < 2147483648 := hA.2.2.2.1
  refine zw_enter (by decide) (Nat.le_of_ble_eq_true rfl) rfl ?_
  show zw_Wp l mm_X10_coefficient (zS L) 0 [some (zR 0), some (zI q), some (zI i), some (zI j), none] [] mem 0 0 Q
  obtain ⟨I1, I2, I3, I4, I5, I6, I7⟩ := id hI
  have hp := I1.1
  have hpr := hp.rg
  have e10 := I1.2.1
  have hn5 := I1.2.2.1
  have e11 := I1.2.2.2.1
  refine wp_aload_n dd_X10_coefficient_0 rfl ?_
  refine wp_iload_n dd_X10_coefficient_1 rfl ?_
  refine wp_iload_n dd_X10_coefficient_2 rfl ?_
  refine wp_iload_n dd_X10_coefficient_3 rfl ?_
  refine wp_callV (M' := mm_X10_powersRefusal) (As := [zI q, zI i, zI j]) (rest := []) dd_X10_coefficient_4 lk_X10_152 mV_X10_powersRefusal kk_0 (zlt rfl) ⟨_, _, rfl⟩ rfl (by decide) (by decide) (Nat.le_of_ble_eq_true rfl) rfl (sp_X10_powersRefusal  q i j hI ?_)
  show zw_Wp l mm_X10_coefficient (zS L) 7 [some (zR 0), some (zI q), some (zI i), some (zI j), none] [zI (zyP mem q i j)] mem 0 0 Q
  have hyc : zyP mem q i j = 0 ∨ (-6 ≤ zyP mem q i j ∧ zyP mem q i j ≤ -1) := by unfold zyP; omega
  have hy0 : zyP mem q i j = 0 → ((0 ≤ q ∧ q < mem 67 5) ∧ 0 ≤ i ∧ i ≤ 4 ∧ 0 ≤ j ∧ j ≤ 4) := by unfold zyP; omega
  refine wp_istore (ls2 := [some (zR 0), some (zI q), some (zI i), some (zI j), some (zI (zyP mem q i j))]) dd_X10_coefficient_7 rfl (by decide) rfl ?_
  refine wp_iload dd_X10_coefficient_9 rfl ?_
  refine wp_if_eq (tgt := 21) dd_X10_coefficient_11 (by decide) (fun c11_1 => ?_) (fun c11_1 => ?_)
  · skip
    have hy1 := hy0 (by assumption)
    have hqq : 0 ≤ q ∧ q < 6 := by omega
    have hTq := I1.T (q := q) (by omega) (by omega)
    have hCq := I1.C (q := q) (by omega) (by omega)
    have hcrq := zco_rg hp hTq
    have hzoq := zo_rg hqq
    refine wp_aload_n dd_X10_coefficient_21 rfl ?_
    refine wp_getR dd_X10_coefficient_22 gf_X10_12 rfl kk_0 (by decide) (zlt rfl) rr_0_0 ?_
    refine wp_getR dd_X10_coefficient_25 gf_X10_135 rfl kk_1 (by decide) (zlt rfl) rr_1_2 ?_
    refine wp_iload_n dd_X10_coefficient_28 rfl ?_
    refine wp_aald dd_X10_coefficient_29 kk_2 (zlt rfl) (by omega) (by omega) (zr2 rfl hqq) ?_
    refine wp_getR dd_X10_coefficient_30 gf_X10_159 rfl (zoP hqq).k (by decide) (zoP hqq).i (zoP hqq).c ?_
    refine wp_iconst dd_X10_coefficient_33 (zr_lit rfl) ?_
    refine wp_iload_n dd_X10_coefficient_34 rfl ?_
    refine wp_imulC dd_X10_coefficient_35 (by omega) ?_
    refine wp_iload_n dd_X10_coefficient_36 rfl ?_
    refine wp_iaddC dd_X10_coefficient_37 (by omega) ?_
    refine wp_iald dd_X10_coefficient_38 (zoP hqq).kc (zoP hqq).ic (by omega) (by omega) ?_
    refine wp_ireturn (st := []) dd_X10_coefficient_39 rfl ?_
    exact k _ _ (Or.inr ⟨by assumption, hCq _ (by omega) (by omega), zCk.rf⟩)
  · skip
    refine wp_aload_n dd_X10_coefficient_14 rfl ?_
    refine wp_iload dd_X10_coefficient_15 rfl ?_
    refine wp_callV (M' := mm_X10_refuse) (As := [zI (zyP mem q i j)]) (rest := []) dd_X10_coefficient_17 lk_X10_76 mV_X10_refuse kk_0 (zlt rfl) ⟨_, _, rfl⟩ rfl (by decide) (by decide) (Nat.le_of_ble_eq_true rfl) rfl (sp_X10_refuse  (zyP mem q i j) (by first | assumption | omega) ?_)
    show zw_Wp l mm_X10_coefficient (zS L) 20 [some (zR 0), some (zI q), some (zI i), some (zI j), some (zI (zyP mem q i j))] [zI (zyP mem q i j)] (zCn mem (zyP mem q i j)) 0 0 Q
    refine wp_ireturn (st := []) dd_X10_coefficient_20 rfl ?_
    exact k _ _ (Or.inl ⟨by assumption, rfl, rfl⟩)

set_option maxRecDepth 100000 in
set_option maxHeartbeats 4000000 in
theorem sp_X10_of {l : Launch} {L : Nat} {mem : zMem} {Q : zQ}  (q : Int) (w : Int) (hI : zInv mem) (k : ∀ (r : Int) (m1 : zMem), (zAn mem m1 r (zyW mem q w) (zof mem q w)) → Q (some (zI r)) (zS L) m1) : zw_Ok l mm_X10_of [zR 0, zI q, zI w] (zS L) mem Q := by
  refine zw_okA (fun hA => ?_)
  have rg_q : -2147483648 ≤ q ∧ q < 2147483648 := hA.2.1
  have rg_w : -2147483648 ≤ w ∧ w < 2147483648 := hA.2.2.1
  refine zw_enter (by decide) (Nat.le_of_ble_eq_true rfl) rfl ?_
  show zw_Wp l mm_X10_of (zS L) 0 [some (zR 0), some (zI q), some (zI w), none] [] mem 0 0 Q
  obtain ⟨I1, I2, I3, I4, I5, I6, I7⟩ := id hI
  have hp := I1.1
  have hpr := hp.rg
  have e10 := I1.2.1
  have hn5 := I1.2.2.1
  have e11 := I1.2.2.2.1
  refine wp_aload_n dd_X10_of_0 rfl ?_
  refine wp_getR dd_X10_of_1 gf_X10_12 rfl kk_0 (by decide) (zlt rfl) rr_0_0 ?_
  refine wp_iload_n dd_X10_of_4 rfl ?_
  refine wp_callV (M' := mm_X8_has) (As := [zI q]) (rest := []) dd_X10_of_5 lk_X10_132 mV_X8_has kk_1 (zlt rfl) ⟨_, _, rfl⟩ rfl (by decide) (by decide) (Nat.le_of_ble_eq_true rfl) rfl (sp_X8_has  q  ?_)
  show zw_Wp l mm_X10_of (zS L) 8 [some (zR 0), some (zI q), some (zI w), none] [zI (if 0 ≤ q ∧ q < mem 1 1 then 1 else 0)] mem 0 0 Q
  refine wp_if_ne (tgt := 17) dd_X10_of_8 (by decide) (fun c8_1 => ?_) (fun c8_1 => ?_)
  · skip
    have hqq : 0 ≤ q ∧ q < 6 := by omega
    have hTq := I1.T (q := q) (by omega) (by omega)
    have hCq := I1.C (q := q) (by omega) (by omega)
    have hcrq := zco_rg hp hTq
    have hzoq := zo_rg hqq
    have hPI := I1.2.2.2.2 q (by omega) (by omega)
    refine wp_aload_n dd_X10_of_17 rfl ?_
    refine wp_getR dd_X10_of_18 gf_X10_12 rfl kk_0 (by decide) (zlt rfl) rr_0_0 ?_
    refine wp_getR dd_X10_of_21 gf_X10_135 rfl kk_1 (by decide) (zlt rfl) rr_1_2 ?_
    refine wp_iload_n dd_X10_of_24 rfl ?_
    refine wp_aald dd_X10_of_25 kk_2 (zlt rfl) (by omega) (by omega) (zr2 rfl hqq) ?_
    refine wp_astore_n (ls2 := [some (zR 0), some (zI q), some (zI w), some (zR (zo q))]) dd_X10_of_26 rfl (by decide) rfl ?_
    refine wp_iload_n dd_X10_of_27 rfl ?_
    by_cases w28_2c0 : w = 0
    · skip
      refine wp_tabIn (tgt := 68) (off := 40) dd_X10_of_28 (by omega) (by omega) (by rw [w28_2c0]; rfl) (by decide) ?_
      refine wp_aload_n dd_X10_of_68 rfl ?_
      refine wp_getZ 0 rfl dd_X10_of_69 gf_X10_139 rfl (zoP hqq).k (by decide) (zoP hqq).i ?_
      refine wp_ireturn (st := []) dd_X10_of_72 rfl ?_
      have hw : zyW mem q w = 0 := by unfold zyW; (repeat first | rw [if_pos (by omega)] | rw [if_neg (by omega)]); try omega
      exact k _ _ (Or.inr ⟨hw, by unfold zof; rw [if_pos (by omega)]; exact hPI.1, zCk.rf⟩)
    by_cases w28_2c1 : w = 1
    · skip
      refine wp_tabIn (tgt := 73) (off := 45) dd_X10_of_28 (by omega) (by omega) (by rw [w28_2c1]; rfl) (by decide) ?_
      refine wp_aload_n dd_X10_of_73 rfl ?_
      refine wp_getZ 1 rfl dd_X10_of_74 gf_X10_142 rfl (zoP hqq).k (by decide) (zoP hqq).i ?_
      refine wp_ireturn (st := []) dd_X10_of_77 rfl ?_
      have hw : zyW mem q w = 0 := by unfold zyW; (repeat first | rw [if_pos (by omega)] | rw [if_neg (by omega)]); try omega
      exact k _ _ (Or.inr ⟨hw, by unfold zof; rw [if_neg (by omega)]; rw [if_pos (by omega)]; exact hPI.2.1, zCk.rf⟩)
    by_cases w28_2c2 : w = 2
    · skip
      refine wp_tabIn (tgt := 78) (off := 50) dd_X10_of_28 (by omega) (by omega) (by rw [w28_2c2]; rfl) (by decide) ?_
      refine wp_aload_n dd_X10_of_78 rfl ?_
      refine wp_iconst dd_X10_of_79 (zr_lit rfl) ?_
      refine wp_callV (M' := mm_X4_degreeIn) (As := [zI 0]) (rest := []) dd_X10_of_80 lk_X10_162 mV_X4_degreeIn (zoP hqq).k (zoP hqq).i ⟨_, _, rfl⟩ rfl (by decide) (by decide) (Nat.le_of_ble_eq_true rfl) rfl (sp_X4_degreeIn  (zo q) 0 (zoP hqq) (by first | assumption | omega) ?_)
      show zw_Wp l mm_X10_of (zS L) 83 [some (zR 0), some (zI q), some (zI w), some (zR (zo q))] [zI (zdeg (mem ((zo q) + 2)) 0 25)] mem 0 0 Q
      refine wp_ireturn (st := []) dd_X10_of_83 rfl ?_
      have hw : zyW mem q w = 0 := by unfold zyW; (repeat first | rw [if_pos (by omega)] | rw [if_neg (by omega)]); try omega
      exact k _ _ (Or.inr ⟨hw, by unfold zof; rw [if_neg (by omega)]; rw [if_neg (by omega)]; rw [if_pos (by omega)]; exact hCq.deg 0, zCk.rf⟩)
    by_cases w28_2c3 : w = 3
    · skip
      refine wp_tabIn (tgt := 84) (off := 56) dd_X10_of_28 (by omega) (by omega) (by rw [w28_2c3]; rfl) (by decide) ?_
      refine wp_aload_n dd_X10_of_84 rfl ?_
      refine wp_iconst dd_X10_of_85 (zr_lit rfl) ?_
      refine wp_callV (M' := mm_X4_degreeIn) (As := [zI 1]) (rest := []) dd_X10_of_86 lk_X10_162 mV_X4_degreeIn (zoP hqq).k (zoP hqq).i ⟨_, _, rfl⟩ rfl (by decide) (by decide) (Nat.le_of_ble_eq_true rfl) rfl (sp_X4_degreeIn  (zo q) 1 (zoP hqq) (by first | assumption | omega) ?_)
      show zw_Wp l mm_X10_of (zS L) 89 [some (zR 0), some (zI q), some (zI w), some (zR (zo q))] [zI (zdeg (mem ((zo q) + 2)) 1 25)] mem 0 0 Q
      refine wp_ireturn (st := []) dd_X10_of_89 rfl ?_
      have hw : zyW mem q w = 0 := by unfold zyW; (repeat first | rw [if_pos (by omega)] | rw [if_neg (by omega)]); try omega
      exact k _ _ (Or.inr ⟨hw, by unfold zof; rw [if_neg (by omega)]; rw [if_neg (by omega)]; rw [if_neg (by omega)]; rw [if_pos (by omega)]; exact hCq.deg 1, zCk.rf⟩)
    by_cases w28_2c4 : w = 4
    · skip
      refine wp_tabIn (tgt := 90) (off := 62) dd_X10_of_28 (by omega) (by omega) (by rw [w28_2c4]; rfl) (by decide) ?_
      refine wp_aload_n dd_X10_of_90 rfl ?_
      refine wp_callV (M' := mm_X4_howManyTerms) (As := []) (rest := []) dd_X10_of_91 lk_X10_165 mV_X4_howManyTerms (zoP hqq).k (zoP hqq).i ⟨_, _, rfl⟩ rfl (by decide) (by decide) (Nat.le_of_ble_eq_true rfl) rfl (sp_X4_howManyTerms  (zo q) (zoP hqq) ?_)
      show zw_Wp l mm_X10_of (zS L) 94 [some (zR 0), some (zI q), some (zI w), some (zR (zo q))] [zI (zcnt (mem ((zo q) + 2)) 25)] mem 0 0 Q
      refine wp_ireturn (st := []) dd_X10_of_94 rfl ?_
      have hw : zyW mem q w = 0 := by unfold zyW; (repeat first | rw [if_pos (by omega)] | rw [if_neg (by omega)]); try omega
      exact k _ _ (Or.inr ⟨hw, by unfold zof; rw [if_neg (by omega)]; rw [if_neg (by omega)]; rw [if_neg (by omega)]; rw [if_neg (by omega)]; rw [if_pos (by omega)]; exact hCq.cnt, zCk.rf⟩)
    by_cases w28_2c5 : w = 5
    · skip
      refine wp_tabIn (tgt := 95) (off := 67) dd_X10_of_28 (by omega) (by omega) (by rw [w28_2c5]; rfl) (by decide) ?_
      refine wp_aload_n dd_X10_of_95 rfl ?_
      refine wp_callV (M' := mm_X4_wholeDegree) (As := []) (rest := []) dd_X10_of_96 lk_X10_168 mV_X4_wholeDegree (zoP hqq).k (zoP hqq).i ⟨_, _, rfl⟩ rfl (by decide) (by decide) (Nat.le_of_ble_eq_true rfl) rfl (sp_X4_wholeDegree  (zo q) (zoP hqq) ?_)
      show zw_Wp l mm_X10_of (zS L) 99 [some (zR 0), some (zI q), some (zI w), some (zR (zo q))] [zI (zdeg (mem ((zo q) + 2)) 2 25)] mem 0 0 Q
      refine wp_ireturn (st := []) dd_X10_of_99 rfl ?_
      have hw : zyW mem q w = 0 := by unfold zyW; (repeat first | rw [if_pos (by omega)] | rw [if_neg (by omega)]); try omega
      exact k _ _ (Or.inr ⟨hw, by unfold zof; rw [if_neg (by omega)]; rw [if_neg (by omega)]; rw [if_neg (by omega)]; rw [if_neg (by omega)]; rw [if_neg (by omega)]; exact hCq.deg 2, zCk.rf⟩)
    refine wp_tabOut (tgt := 100) dd_X10_of_28 (by omega) (by decide) ?_
    refine wp_aload_n dd_X10_of_100 rfl ?_
    refine wp_bipush dd_X10_of_101 (by decide) ?_
    refine wp_callV (M' := mm_X10_refuse) (As := [zI (-2)]) (rest := []) dd_X10_of_103 lk_X10_76 mV_X10_refuse kk_0 (zlt rfl) ⟨_, _, rfl⟩ rfl (by decide) (by decide) (Nat.le_of_ble_eq_true rfl) rfl (sp_X10_refuse  (-2) (by first | assumption | omega) ?_)
    show zw_Wp l mm_X10_of (zS L) 106 [some (zR 0), some (zI q), some (zI w), some (zR (zo q))] [zI (-2)] (zCn mem (-2)) 0 0 Q
    refine wp_ireturn (st := []) dd_X10_of_106 rfl ?_
    have hw : zyW mem q w = (-2) := by unfold zyW; (repeat first | rw [if_pos (by omega)] | rw [if_neg (by omega)]); try omega
    exact k _ _ (Or.inl ⟨by rw [hw]; first | decide | omega, hw.symm, by rw [hw]⟩)
  · skip
    refine wp_aload_n dd_X10_of_11 rfl ?_
    refine wp_iconst dd_X10_of_12 (zr_lit rfl) ?_
    refine wp_callV (M' := mm_X10_refuse) (As := [zI (-1)]) (rest := []) dd_X10_of_13 lk_X10_76 mV_X10_refuse kk_0 (zlt rfl) ⟨_, _, rfl⟩ rfl (by decide) (by decide) (Nat.le_of_ble_eq_true rfl) rfl (sp_X10_refuse  (-1) (by first | assumption | omega) ?_)
    show zw_Wp l mm_X10_of (zS L) 16 [some (zR 0), some (zI q), some (zI w), none] [zI (-1)] (zCn mem (-1)) 0 0 Q
    refine wp_ireturn (st := []) dd_X10_of_16 rfl ?_
    have hw : zyW mem q w = (-1) := by unfold zyW; (repeat first | rw [if_pos (by omega)] | rw [if_neg (by omega)]); try omega
    exact k _ _ (Or.inl ⟨by rw [hw]; first | decide | omega, hw.symm, by rw [hw]⟩)

set_option maxRecDepth 100000 in
set_option maxHeartbeats 4000000 in
theorem sp_X10_term {l : Launch} {L : Nat} {mem : zMem} {Q : zQ}  (q : Int) (od : Int) (k0 : Int) (hI : zInv mem) (k : ∀ (r : Int) (m1 : zMem), (zAn mem m1 r (zyK mem q od k0) (zkt od (zco mem q) k0)) → Q (some (zI r)) (zS L) m1) : zw_Ok l mm_X10_term [zR 0, zI q, zI od, zI k0] (zS L) mem Q := by
  refine zw_okA (fun hA => ?_)
  have rg_q : -2147483648 ≤ q ∧ q < 2147483648 := hA.2.1
  have rg_od : -2147483648 ≤ od ∧ od < 2147483648 := hA.2.2.1
  have rg_k0 : -2147483648 ≤ k0 ∧ k0 < 2147483648 := hA.2.2.2.1
  refine zw_enter (by decide) (Nat.le_of_ble_eq_true rfl) rfl ?_
  show zw_Wp l mm_X10_term (zS L) 0 [some (zR 0), some (zI q), some (zI od), some (zI k0), none] [] mem 0 0 Q
  obtain ⟨I1, I2, I3, I4, I5, I6, I7⟩ := id hI
  have hp := I1.1
  have hpr := hp.rg
  have e10 := I1.2.1
  have hn5 := I1.2.2.1
  have e11 := I1.2.2.2.1
  refine wp_aload_n dd_X10_term_0 rfl ?_
  refine wp_getR dd_X10_term_1 gf_X10_12 rfl kk_0 (by decide) (zlt rfl) rr_0_0 ?_
  refine wp_iload_n dd_X10_term_4 rfl ?_
  refine wp_callV (M' := mm_X8_has) (As := [zI q]) (rest := []) dd_X10_term_5 lk_X10_132 mV_X8_has kk_1 (zlt rfl) ⟨_, _, rfl⟩ rfl (by decide) (by decide) (Nat.le_of_ble_eq_true rfl) rfl (sp_X8_has  q  ?_)
  show zw_Wp l mm_X10_term (zS L) 8 [some (zR 0), some (zI q), some (zI od), some (zI k0), none] [zI (if 0 ≤ q ∧ q < mem 1 1 then 1 else 0)] mem 0 0 Q
  refine wp_if_ne (tgt := 17) dd_X10_term_8 (by decide) (fun c8_1 => ?_) (fun c8_1 => ?_)
  · skip
    refine wp_iload_n dd_X10_term_17 rfl ?_
    refine wp_if_lt (tgt := 26) dd_X10_term_18 (by decide) (fun c18_2 => ?_) (fun c18_2 => ?_)
    · skip
      refine wp_aload_n dd_X10_term_26 rfl ?_
      refine wp_bipush dd_X10_term_27 (by decide) ?_
      refine wp_callV (M' := mm_X10_refuse) (As := [zI (-2)]) (rest := []) dd_X10_term_29 lk_X10_76 mV_X10_refuse kk_0 (zlt rfl) ⟨_, _, rfl⟩ rfl (by decide) (by decide) (Nat.le_of_ble_eq_true rfl) rfl (sp_X10_refuse  (-2) (by first | assumption | omega) ?_)
      show zw_Wp l mm_X10_term (zS L) 32 [some (zR 0), some (zI q), some (zI od), some (zI k0), none] [zI (-2)] (zCn mem (-2)) 0 0 Q
      refine wp_ireturn (st := []) dd_X10_term_32 rfl ?_
      have hw : zyK mem q od k0 = (-2) := by unfold zyK; (repeat first | rw [if_pos (by omega)] | rw [if_neg (by omega)]); try omega
      exact k _ _ (Or.inl ⟨by rw [hw]; first | decide | omega, hw.symm, by rw [hw]⟩)
    · skip
      refine wp_iload_n dd_X10_term_21 rfl ?_
      refine wp_iconst dd_X10_term_22 (zr_lit rfl) ?_
      refine wp_icmp_le (tgt := 33) dd_X10_term_23 (by decide) (fun c23_3 => ?_) (fun c23_3 => ?_)
      · skip
        refine wp_iload_n dd_X10_term_33 rfl ?_
        refine wp_if_ge (tgt := 44) dd_X10_term_34 (by decide) (fun c34_4 => ?_) (fun c34_4 => ?_)
        · skip
          have hqq : 0 ≤ q ∧ q < 6 := by omega
          have hTq := I1.T (q := q) (by omega) (by omega)
          have hCq := I1.C (q := q) (by omega) (by omega)
          have hcrq := zco_rg hp hTq
          have hzoq := zo_rg hqq
          refine wp_aload_n dd_X10_term_44 rfl ?_
          refine wp_getR dd_X10_term_45 gf_X10_12 rfl kk_0 (by decide) (zlt rfl) rr_0_0 ?_
          refine wp_getR dd_X10_term_48 gf_X10_135 rfl kk_1 (by decide) (zlt rfl) rr_1_2 ?_
          refine wp_iload_n dd_X10_term_51 rfl ?_
          refine wp_aald dd_X10_term_52 kk_2 (zlt rfl) (by omega) (by omega) (zr2 rfl hqq) ?_
          refine wp_astore (ls2 := [some (zR 0), some (zI q), some (zI od), some (zI k0), some (zR (zo q))]) dd_X10_term_53 rfl (by decide) rfl ?_
          refine wp_iload_n dd_X10_term_55 rfl ?_
          refine wp_if_ne (tgt := 68) dd_X10_term_56 (by decide) (fun c56_5 => ?_) (fun c56_5 => ?_)
          · skip
            refine wp_aload dd_X10_term_68 rfl ?_
            refine wp_iload_n dd_X10_term_70 rfl ?_
            refine wp_callV (M' := mm_X4_termByWhole) (As := [zI k0]) (rest := []) dd_X10_term_71 lk_X10_174 mV_X4_termByWhole (zoP hqq).k (zoP hqq).i ⟨_, _, rfl⟩ rfl (by decide) (by decide) (Nat.le_of_ble_eq_true rfl) rfl (sp_X4_termByWhole  (zo q) k0 (zoP hqq) (by first | assumption | omega) ?_)
            show zw_Wp l mm_X10_term (zS L) 74 [some (zR 0), some (zI q), some (zI od), some (zI k0), some (zR (zo q))] [zI (zk1 (mem ((zo q) + 2)) k0 45)] mem 0 0 Q
            refine wp_ireturn (st := []) dd_X10_term_74 rfl ?_
            have hw : zyK mem q od k0 = 0 := by unfold zyK; (repeat first | rw [if_pos (by omega)] | rw [if_neg (by omega)]); try omega
            refine k _ _ (Or.inr ⟨hw, ?_, zCk.rf⟩)
            unfold zkt
            first | (rw [if_pos (by omega)]; exact zk0_cg 25 k0 hCq) | (rw [if_neg (by omega)]; exact zk1_cg hCq 45 k0)
          · skip
            refine wp_aload dd_X10_term_59 rfl ?_
            refine wp_iload_n dd_X10_term_61 rfl ?_
            refine wp_callV (M' := mm_X4_termByLetter) (As := [zI k0]) (rest := []) dd_X10_term_62 lk_X10_171 mV_X4_termByLetter (zoP hqq).k (zoP hqq).i ⟨_, _, rfl⟩ rfl (by decide) (by decide) (Nat.le_of_ble_eq_true rfl) rfl (sp_X4_termByLetter  (zo q) k0 (zoP hqq) (by first | assumption | omega) ?_)
            show zw_Wp l mm_X10_term (zS L) 65 [some (zR 0), some (zI q), some (zI od), some (zI k0), some (zR (zo q))] [zI (zk0 (mem ((zo q) + 2)) k0 25)] mem 0 0 Q
            refine wp_goto (tgt := 74) dd_X10_term_65 (by decide) ?_
            refine wp_ireturn (st := []) dd_X10_term_74 rfl ?_
            have hw : zyK mem q od k0 = 0 := by unfold zyK; (repeat first | rw [if_pos (by omega)] | rw [if_neg (by omega)]); try omega
            refine k _ _ (Or.inr ⟨hw, ?_, zCk.rf⟩)
            unfold zkt
            first | (rw [if_pos (by omega)]; exact zk0_cg 25 k0 hCq) | (rw [if_neg (by omega)]; exact zk1_cg hCq 45 k0)
        · skip
          refine wp_aload_n dd_X10_term_37 rfl ?_
          refine wp_bipush dd_X10_term_38 (by decide) ?_
          refine wp_callV (M' := mm_X10_refuse) (As := [zI (-4)]) (rest := []) dd_X10_term_40 lk_X10_76 mV_X10_refuse kk_0 (zlt rfl) ⟨_, _, rfl⟩ rfl (by decide) (by decide) (Nat.le_of_ble_eq_true rfl) rfl (sp_X10_refuse  (-4) (by first | assumption | omega) ?_)
          show zw_Wp l mm_X10_term (zS L) 43 [some (zR 0), some (zI q), some (zI od), some (zI k0), none] [zI (-4)] (zCn mem (-4)) 0 0 Q
          refine wp_ireturn (st := []) dd_X10_term_43 rfl ?_
          have hw : zyK mem q od k0 = (-4) := by unfold zyK; (repeat first | rw [if_pos (by omega)] | rw [if_neg (by omega)]); try omega
          exact k _ _ (Or.inl ⟨by rw [hw]; first | decide | omega, hw.symm, by rw [hw]⟩)
      · skip
        refine wp_aload_n dd_X10_term_26 rfl ?_
        refine wp_bipush dd_X10_term_27 (by decide) ?_
        refine wp_callV (M' := mm_X10_refuse) (As := [zI (-2)]) (rest := []) dd_X10_term_29 lk_X10_76 mV_X10_refuse kk_0 (zlt rfl) ⟨_, _, rfl⟩ rfl (by decide) (by decide) (Nat.le_of_ble_eq_true rfl) rfl (sp_X10_refuse  (-2) (by first | assumption | omega) ?_)
        show zw_Wp l mm_X10_term (zS L) 32 [some (zR 0), some (zI q), some (zI od), some (zI k0), none] [zI (-2)] (zCn mem (-2)) 0 0 Q
        refine wp_ireturn (st := []) dd_X10_term_32 rfl ?_
        have hw : zyK mem q od k0 = (-2) := by unfold zyK; (repeat first | rw [if_pos (by omega)] | rw [if_neg (by omega)]); try omega
        exact k _ _ (Or.inl ⟨by rw [hw]; first | decide | omega, hw.symm, by rw [hw]⟩)
  · skip
    refine wp_aload_n dd_X10_term_11 rfl ?_
    refine wp_iconst dd_X10_term_12 (zr_lit rfl) ?_
    refine wp_callV (M' := mm_X10_refuse) (As := [zI (-1)]) (rest := []) dd_X10_term_13 lk_X10_76 mV_X10_refuse kk_0 (zlt rfl) ⟨_, _, rfl⟩ rfl (by decide) (by decide) (Nat.le_of_ble_eq_true rfl) rfl (sp_X10_refuse  (-1) (by first | assumption | omega) ?_)
    show zw_Wp l mm_X10_term (zS L) 16 [some (zR 0), some (zI q), some (zI od), some (zI k0), none] [zI (-1)] (zCn mem (-1)) 0 0 Q
    refine wp_ireturn (st := []) dd_X10_term_16 rfl ?_
    have hw : zyK mem q od k0 = (-1) := by unfold zyK; (repeat first | rw [if_pos (by omega)] | rw [if_neg (by omega)]); try omega
    exact k _ _ (Or.inl ⟨by rw [hw]; first | decide | omega, hw.symm, by rw [hw]⟩)

set_option maxRecDepth 100000 in
set_option maxHeartbeats 4000000 in
theorem sp_X10_value {l : Launch} {L : Nat} {mem : zMem} {Q : zQ}  (q : Int) (x : Int) (y : Int) (hI : zInv mem) (k : ∀ (r : Int) (m1 : zMem), (zAn mem m1 r (zyV mem q x y) (zvs (zco mem q) x y (mem 67 1) 25)) → Q (some (zI r)) (zS L) m1) : zw_Ok l mm_X10_value [zR 0, zI q, zI x, zI y] (zS L) mem Q := by
  refine zw_okA (fun hA => ?_)
  have rg_q : -2147483648 ≤ q ∧ q < 2147483648 := hA.2.1
  have rg_x : -2147483648 ≤ x ∧ x < 2147483648 := hA.2.2.1
  have rg_y : -2147483648 ≤ y ∧ y < 2147483648 := hA.2.2.2.1
  refine zw_enter (by decide) (Nat.le_of_ble_eq_true rfl) rfl ?_
  show zw_Wp l mm_X10_value (zS L) 0 [some (zR 0), some (zI q), some (zI x), some (zI y)] [] mem 0 0 Q
  obtain ⟨I1, I2, I3, I4, I5, I6, I7⟩ := id hI
  have hp := I1.1
  have hpr := hp.rg
  have e10 := I1.2.1
  have hn5 := I1.2.2.1
  have e11 := I1.2.2.2.1
  refine wp_aload_n dd_X10_value_0 rfl ?_
  refine wp_getR dd_X10_value_1 gf_X10_12 rfl kk_0 (by decide) (zlt rfl) rr_0_0 ?_
  refine wp_iload_n dd_X10_value_4 rfl ?_
  refine wp_callV (M' := mm_X8_has) (As := [zI q]) (rest := []) dd_X10_value_5 lk_X10_132 mV_X8_has kk_1 (zlt rfl) ⟨_, _, rfl⟩ rfl (by decide) (by decide) (Nat.le_of_ble_eq_true rfl) rfl (sp_X8_has  q  ?_)
  show zw_Wp l mm_X10_value (zS L) 8 [some (zR 0), some (zI q), some (zI x), some (zI y)] [zI (if 0 ≤ q ∧ q < mem 1 1 then 1 else 0)] mem 0 0 Q
  refine wp_if_ne (tgt := 17) dd_X10_value_8 (by decide) (fun c8_1 => ?_) (fun c8_1 => ?_)
  · skip
    refine wp_iload_n dd_X10_value_17 rfl ?_
    refine wp_if_lt (tgt := 25) dd_X10_value_18 (by decide) (fun c18_2 => ?_) (fun c18_2 => ?_)
    · skip
      refine wp_aload_n dd_X10_value_25 rfl ?_
      refine wp_bipush dd_X10_value_26 (by decide) ?_
      refine wp_callV (M' := mm_X10_refuse) (As := [zI (-4)]) (rest := []) dd_X10_value_28 lk_X10_76 mV_X10_refuse kk_0 (zlt rfl) ⟨_, _, rfl⟩ rfl (by decide) (by decide) (Nat.le_of_ble_eq_true rfl) rfl (sp_X10_refuse  (-4) (by first | assumption | omega) ?_)
      show zw_Wp l mm_X10_value (zS L) 31 [some (zR 0), some (zI q), some (zI x), some (zI y)] [zI (-4)] (zCn mem (-4)) 0 0 Q
      refine wp_ireturn (st := []) dd_X10_value_31 rfl ?_
      have hw : zyV mem q x y = (-4) := by unfold zyV; (repeat first | rw [if_pos (by omega)] | rw [if_neg (by omega)]); try omega
      exact k _ _ (Or.inl ⟨by rw [hw]; first | decide | omega, hw.symm, by rw [hw]⟩)
    · skip
      refine wp_iload_n dd_X10_value_21 rfl ?_
      refine wp_if_ge (tgt := 32) dd_X10_value_22 (by decide) (fun c22_3 => ?_) (fun c22_3 => ?_)
      · skip
        refine wp_iload_n dd_X10_value_32 rfl ?_
        refine wp_aload_n dd_X10_value_33 rfl ?_
        refine wp_getR dd_X10_value_34 gf_X10_12 rfl kk_0 (by decide) (zlt rfl) rr_0_0 ?_
        refine wp_getZ 0 rfl dd_X10_value_37 gf_X10_114 rfl kk_1 (by decide) (zlt rfl) ?_
        refine wp_icmp_ge (tgt := 54) dd_X10_value_40 (by decide) (fun c40_4 => ?_) (fun c40_4 => ?_)
        · skip
          refine wp_aload_n dd_X10_value_54 rfl ?_
          refine wp_bipush dd_X10_value_55 (by decide) ?_
          refine wp_callV (M' := mm_X10_refuse) (As := [zI (-6)]) (rest := []) dd_X10_value_57 lk_X10_76 mV_X10_refuse kk_0 (zlt rfl) ⟨_, _, rfl⟩ rfl (by decide) (by decide) (Nat.le_of_ble_eq_true rfl) rfl (sp_X10_refuse  (-6) (by first | assumption | omega) ?_)
          show zw_Wp l mm_X10_value (zS L) 60 [some (zR 0), some (zI q), some (zI x), some (zI y)] [zI (-6)] (zCn mem (-6)) 0 0 Q
          refine wp_ireturn (st := []) dd_X10_value_60 rfl ?_
          have hw : zyV mem q x y = (-6) := by unfold zyV; (repeat first | rw [if_pos (by omega)] | rw [if_neg (by omega)]); try omega
          exact k _ _ (Or.inl ⟨by rw [hw]; first | decide | omega, hw.symm, by rw [hw]⟩)
        · skip
          refine wp_iload_n dd_X10_value_43 rfl ?_
          refine wp_aload_n dd_X10_value_44 rfl ?_
          refine wp_getR dd_X10_value_45 gf_X10_12 rfl kk_0 (by decide) (zlt rfl) rr_0_0 ?_
          refine wp_getZ 0 rfl dd_X10_value_48 gf_X10_114 rfl kk_1 (by decide) (zlt rfl) ?_
          refine wp_icmp_lt (tgt := 61) dd_X10_value_51 (by decide) (fun c51_5 => ?_) (fun c51_5 => ?_)
          · skip
            have hqq : 0 ≤ q ∧ q < 6 := by omega
            have hTq := I1.T (q := q) (by omega) (by omega)
            have hCq := I1.C (q := q) (by omega) (by omega)
            have hcrq := zco_rg hp hTq
            have hzoq := zo_rg hqq
            refine wp_aload_n dd_X10_value_61 rfl ?_
            refine wp_getR dd_X10_value_62 gf_X10_57 rfl kk_0 (by decide) (zlt rfl) rr_0_7 ?_
            refine wp_aload_n dd_X10_value_65 rfl ?_
            refine wp_getR dd_X10_value_66 gf_X10_12 rfl kk_0 (by decide) (zlt rfl) rr_0_0 ?_
            refine wp_getR dd_X10_value_69 gf_X10_135 rfl kk_1 (by decide) (zlt rfl) rr_1_2 ?_
            refine wp_iload_n dd_X10_value_72 rfl ?_
            refine wp_aald dd_X10_value_73 kk_2 (zlt rfl) (by omega) (by omega) (zr2 rfl hqq) ?_
            refine wp_iload_n dd_X10_value_74 rfl ?_
            refine wp_iload_n dd_X10_value_75 rfl ?_
            refine wp_aload_n dd_X10_value_76 rfl ?_
            refine wp_getR dd_X10_value_77 gf_X10_12 rfl kk_0 (by decide) (zlt rfl) rr_0_0 ?_
            refine wp_getZ 0 rfl dd_X10_value_80 gf_X10_114 rfl kk_1 (by decide) (zlt rfl) ?_
            refine wp_callV (M' := mm_X7_valueOf) (As := [zR (zo q), zI x, zI y, zI (mem 1 0)]) (rest := []) dd_X10_value_83 lk_X10_177 mV_X7_valueOf kk_60 (zlt rfl) ⟨_, _, rfl⟩ rfl (by decide) (by decide) (Nat.le_of_ble_eq_true rfl) rfl (sp_X7_valueOf (zco mem q) (zo q) x y (mem 1 0) (zoP hqq) hCq (by rw [e10]; exact hpr) (by omega) (by omega) (by rw [e10]; exact hcrq) (fun mV gV => ?_))
            show zw_Wp l mm_X10_value (zS L) 86 [some (zR 0), some (zI q), some (zI x), some (zI y)] [zI (zvs (zco mem q) x y (mem 1 0) 25)] mV 0 0 Q
            refine wp_ireturn (st := []) dd_X10_value_86 rfl ?_
            have hw : zyV mem q x y = 0 := by unfold zyV; (repeat first | rw [if_pos (by omega)] | rw [if_neg (by omega)]); try omega
            exact k _ _ (Or.inr ⟨hw, by rw [e10], fun a ha => gV a (by omega)⟩)
          · skip
            refine wp_aload_n dd_X10_value_54 rfl ?_
            refine wp_bipush dd_X10_value_55 (by decide) ?_
            refine wp_callV (M' := mm_X10_refuse) (As := [zI (-6)]) (rest := []) dd_X10_value_57 lk_X10_76 mV_X10_refuse kk_0 (zlt rfl) ⟨_, _, rfl⟩ rfl (by decide) (by decide) (Nat.le_of_ble_eq_true rfl) rfl (sp_X10_refuse  (-6) (by first | assumption | omega) ?_)
            show zw_Wp l mm_X10_value (zS L) 60 [some (zR 0), some (zI q), some (zI x), some (zI y)] [zI (-6)] (zCn mem (-6)) 0 0 Q
            refine wp_ireturn (st := []) dd_X10_value_60 rfl ?_
            have hw : zyV mem q x y = (-6) := by unfold zyV; (repeat first | rw [if_pos (by omega)] | rw [if_neg (by omega)]); try omega
            exact k _ _ (Or.inl ⟨by rw [hw]; first | decide | omega, hw.symm, by rw [hw]⟩)
      · skip
        refine wp_aload_n dd_X10_value_25 rfl ?_
        refine wp_bipush dd_X10_value_26 (by decide) ?_
        refine wp_callV (M' := mm_X10_refuse) (As := [zI (-4)]) (rest := []) dd_X10_value_28 lk_X10_76 mV_X10_refuse kk_0 (zlt rfl) ⟨_, _, rfl⟩ rfl (by decide) (by decide) (Nat.le_of_ble_eq_true rfl) rfl (sp_X10_refuse  (-4) (by first | assumption | omega) ?_)
        show zw_Wp l mm_X10_value (zS L) 31 [some (zR 0), some (zI q), some (zI x), some (zI y)] [zI (-4)] (zCn mem (-4)) 0 0 Q
        refine wp_ireturn (st := []) dd_X10_value_31 rfl ?_
        have hw : zyV mem q x y = (-4) := by unfold zyV; (repeat first | rw [if_pos (by omega)] | rw [if_neg (by omega)]); try omega
        exact k _ _ (Or.inl ⟨by rw [hw]; first | decide | omega, hw.symm, by rw [hw]⟩)
  · skip
    refine wp_aload_n dd_X10_value_11 rfl ?_
    refine wp_iconst dd_X10_value_12 (zr_lit rfl) ?_
    refine wp_callV (M' := mm_X10_refuse) (As := [zI (-1)]) (rest := []) dd_X10_value_13 lk_X10_76 mV_X10_refuse kk_0 (zlt rfl) ⟨_, _, rfl⟩ rfl (by decide) (by decide) (Nat.le_of_ble_eq_true rfl) rfl (sp_X10_refuse  (-1) (by first | assumption | omega) ?_)
    show zw_Wp l mm_X10_value (zS L) 16 [some (zR 0), some (zI q), some (zI x), some (zI y)] [zI (-1)] (zCn mem (-1)) 0 0 Q
    refine wp_ireturn (st := []) dd_X10_value_16 rfl ?_
    have hw : zyV mem q x y = (-1) := by unfold zyV; (repeat first | rw [if_pos (by omega)] | rw [if_neg (by omega)]); try omega
    exact k _ _ (Or.inl ⟨by rw [hw]; first | decide | omega, hw.symm, by rw [hw]⟩)

set_option maxRecDepth 100000 in
set_option maxHeartbeats 4000000 in
theorem sp_X10_rows {l : Launch} {L : Nat} {mem : zMem} {Q : zQ}  (a : Int) (b : Int) (le : Int) (tb : Int) (hI : zInv mem) (k : ∀ (r : Int) (m1 : zMem), (zAn mem m1 r (zyB mem a b le tb) (zsm mem a b le tb)) → Q (some (zI r)) (zS L) m1) : zw_Ok l mm_X10_rows [zR 0, zI a, zI b, zI le, zI tb] (zS L) mem Q := by
  refine zw_okA (fun hA => ?_)
  have rg_a : -2147483648 ≤ a ∧ a < 2147483648 := hA.2.1
  have rg_b : -2147483648 ≤ b ∧ b < 2147483648 := hA.2.2.1
  have rg_le : -2147483648 ≤ le ∧ le < 2147483648 := hA.2.2.2.1
  have rg_tb : -2147483648 ≤ tb ∧ tb < 2147483648 := hA.2.2.2.2.1
  refine zw_enter (by decide) (Nat.le_of_ble_eq_true rfl) rfl ?_
  show zw_Wp l mm_X10_rows (zS L) 0 [some (zR 0), some (zI a), some (zI b), some (zI le), some (zI tb), none] [] mem 0 0 Q
  obtain ⟨I1, I2, I3, I4, I5, I6, I7⟩ := id hI
  have hp := I1.1
  have hpr := hp.rg
  have e10 := I1.2.1
  have hn5 := I1.2.2.1
  have e11 := I1.2.2.2.1
  refine wp_aload_n dd_X10_rows_0 rfl ?_
  refine wp_iload_n dd_X10_rows_1 rfl ?_
  refine wp_iload_n dd_X10_rows_2 rfl ?_
  refine wp_iload_n dd_X10_rows_3 rfl ?_
  refine wp_iload dd_X10_rows_4 rfl ?_
  refine wp_callV (M' := mm_X10_tableRefusal) (As := [zI a, zI b, zI le, zI tb]) (rest := []) dd_X10_rows_6 lk_X10_181 mV_X10_tableRefusal kk_0 (zlt rfl) ⟨_, _, rfl⟩ rfl (by decide) (by decide) (Nat.le_of_ble_eq_true rfl) rfl (sp_X10_tableRefusal  a b le tb hI ?_)
  show zw_Wp l mm_X10_rows (zS L) 9 [some (zR 0), some (zI a), some (zI b), some (zI le), some (zI tb), none] [zI (zyB mem a b le tb)] mem 0 0 Q
  have hyc := zyB_c mem a b le tb
  refine wp_istore (ls2 := [some (zR 0), some (zI a), some (zI b), some (zI le), some (zI tb), some (zI (zyB mem a b le tb))]) dd_X10_rows_9 rfl (by decide) rfl ?_
  refine wp_iload dd_X10_rows_11 rfl ?_
  refine wp_if_eq (tgt := 23) dd_X10_rows_13 (by decide) (fun c13_1 => ?_) (fun c13_1 => ?_)
  · skip
    have hz : zyB mem a b le tb = 0 := by omega
    obtain ⟨⟨hia, hib, hl, htb⟩, hna, hnb⟩ := zyB_0 hz
    have hqa : 0 ≤ a ∧ a < 6 := by omega
    have hqb : 0 ≤ b ∧ b < 6 := by omega
    have hTa := I1.T hia.1 hia.2
    have hTb := I1.T hib.1 hib.2
    have hCa := I1.C hia.1 hia.2
    have hCb := I1.C hib.1 hib.2
    have hcra := zco_rg hp hTa
    have hcrb := zco_rg hp hTb
    have dn1 := zdg_nn (c := zco mem a) hl hna
    have dn2 := zdg_nn (c := zco mem b) hl hnb
    have d41 := zdeg_4 (c := zco mem a) hl
    have d42 := zdeg_4 (c := zco mem b) hl
    have hpta : ∀ x y : Int, 0 ≤ zpt (zco mem a) le x y ∧ zpt (zco mem a) le x y < mem 67 1 := fun x y => zpt_rg (by omega) hcra
    have hptb : ∀ x y : Int, 0 ≤ zpt (zco mem b) le x y ∧ zpt (zco mem b) le x y < mem 67 1 := fun x y => zpt_rg (by omega) hcrb
    have hzoa := zo_rg hqa
    have hzob := zo_rg hqb
    refine wp_aload_n dd_X10_rows_23 rfl ?_
    refine wp_getR dd_X10_rows_24 gf_X10_12 rfl kk_0 (by decide) (zlt rfl) rr_0_0 ?_
    refine wp_getR dd_X10_rows_27 gf_X10_135 rfl kk_1 (by decide) (zlt rfl) rr_1_2 ?_
    refine wp_iload_n dd_X10_rows_30 rfl ?_
    refine wp_aald dd_X10_rows_31 kk_2 (zlt rfl) (by omega) (by omega) (zr2 rfl hqa) ?_
    refine wp_aload_n dd_X10_rows_32 rfl ?_
    refine wp_getR dd_X10_rows_33 gf_X10_12 rfl kk_0 (by decide) (zlt rfl) rr_0_0 ?_
    refine wp_getR dd_X10_rows_36 gf_X10_135 rfl kk_1 (by decide) (zlt rfl) rr_1_2 ?_
    refine wp_iload_n dd_X10_rows_39 rfl ?_
    refine wp_aald dd_X10_rows_40 kk_2 (zlt rfl) (by omega) (by omega) (zr2 rfl hqb) ?_
    refine wp_iload_n dd_X10_rows_41 rfl ?_
    refine wp_iload dd_X10_rows_42 rfl ?_
    refine wp_callS (M' := mm_X9_sizeOf) (As := [zR (zo a), zR (zo b), zI le, zI tb]) (rest := []) dd_X10_rows_44 lk_X10_185 mS_X9_sizeOf rfl (by decide) (by decide) (Nat.le_of_ble_eq_true rfl) rfl (sp_X9_sizeOf (zco mem a) (zco mem b) (zo a) (zo b) le tb (zoP hqa) (zoP hqb) hCa hCb hl ⟨dn1, dn2⟩ ?_)
    show zw_Wp l mm_X10_rows (zS L) 47 [some (zR 0), some (zI a), some (zI b), some (zI le), some (zI tb), some (zI (zyB mem a b le tb))] [zI (zsz (zco mem a) (zco mem b) le tb)] mem 0 0 Q
    refine wp_ireturn (st := []) dd_X10_rows_47 rfl ?_
    exact k _ _ (Or.inr ⟨hz, rfl, zCk.rf⟩)
  · skip
    refine wp_aload_n dd_X10_rows_16 rfl ?_
    refine wp_iload dd_X10_rows_17 rfl ?_
    refine wp_callV (M' := mm_X10_refuse) (As := [zI (zyB mem a b le tb)]) (rest := []) dd_X10_rows_19 lk_X10_76 mV_X10_refuse kk_0 (zlt rfl) ⟨_, _, rfl⟩ rfl (by decide) (by decide) (Nat.le_of_ble_eq_true rfl) rfl (sp_X10_refuse  (zyB mem a b le tb) (by first | assumption | omega) ?_)
    show zw_Wp l mm_X10_rows (zS L) 22 [some (zR 0), some (zI a), some (zI b), some (zI le), some (zI tb), some (zI (zyB mem a b le tb))] [zI (zyB mem a b le tb)] (zCn mem (zyB mem a b le tb)) 0 0 Q
    refine wp_ireturn (st := []) dd_X10_rows_22 rfl ?_
    exact k _ _ (Or.inl ⟨by assumption, rfl, rfl⟩)

set_option maxRecDepth 100000 in
set_option maxHeartbeats 4000000 in
theorem sp_X10_entry {l : Launch} {L : Nat} {mem : zMem} {Q : zQ}  (a : Int) (b : Int) (le : Int) (tb : Int) (i : Int) (j : Int) (k0 : Int) (hI : zInv mem) (k : ∀ (r : Int) (m1 : zMem), (zAn mem m1 r (zyE mem a b le tb i j k0) (zcm mem a b le tb i j k0)) → Q (some (zI r)) (zS L) m1) : zw_Ok l mm_X10_entry [zR 0, zI a, zI b, zI le, zI tb, zI i, zI j, zI k0] (zS L) mem Q := by
  refine zw_okA (fun hA => ?_)
  have rg_a : -2147483648 ≤ a ∧ a < 2147483648 := hA.2.1
  have rg_b : -2147483648 ≤ b ∧ b < 2147483648 := hA.2.2.1
  have rg_le : -2147483648 ≤ le ∧ le < 2147483648 := hA.2.2.2.1
  have rg_tb : -2147483648 ≤ tb ∧ tb < 2147483648 := hA.2.2.2.2.1
  have rg_i : -2147483648 ≤ i ∧ i < 2147483648 := hA.2.2.2.2.2.1
  have rg_j : -2147483648 ≤ j ∧ j < 2147483648 := hA.2.2.2.2.2.2.1
  have rg_k0 : -2147483648 ≤ k0 ∧ k0 < 2147483648 := hA.2.2.2.2.2.2.2.1
  refine zw_enter (by decide) (Nat.le_of_ble_eq_true rfl) rfl ?_
  show zw_Wp l mm_X10_entry (zS L) 0 [some (zR 0), some (zI a), some (zI b), some (zI le), some (zI tb), some (zI i), some (zI j), some (zI k0), none, none] [] mem 0 0 Q
  obtain ⟨I1, I2, I3, I4, I5, I6, I7⟩ := id hI
  have hp := I1.1
  have hpr := hp.rg
  have e10 := I1.2.1
  have hn5 := I1.2.2.1
  have e11 := I1.2.2.2.1
  refine wp_aload_n dd_X10_entry_0 rfl ?_
  refine wp_iload_n dd_X10_entry_1 rfl ?_
  refine wp_iload_n dd_X10_entry_2 rfl ?_
  refine wp_iload_n dd_X10_entry_3 rfl ?_
  refine wp_iload dd_X10_entry_4 rfl ?_
  refine wp_callV (M' := mm_X10_tableRefusal) (As := [zI a, zI b, zI le, zI tb]) (rest := []) dd_X10_entry_6 lk_X10_181 mV_X10_tableRefusal kk_0 (zlt rfl) ⟨_, _, rfl⟩ rfl (by decide) (by decide) (Nat.le_of_ble_eq_true rfl) rfl (sp_X10_tableRefusal  a b le tb hI ?_)
  show zw_Wp l mm_X10_entry (zS L) 9 [some (zR 0), some (zI a), some (zI b), some (zI le), some (zI tb), some (zI i), some (zI j), some (zI k0), none, none] [zI (zyB mem a b le tb)] mem 0 0 Q
  have hyc := zyB_c mem a b le tb
  refine wp_istore (ls2 := [some (zR 0), some (zI a), some (zI b), some (zI le), some (zI tb), some (zI i), some (zI j), some (zI k0), some (zI (zyB mem a b le tb)), none]) dd_X10_entry_9 rfl (by decide) rfl ?_
  refine wp_iload dd_X10_entry_11 rfl ?_
  refine wp_if_eq (tgt := 23) dd_X10_entry_13 (by decide) (fun c13_1 => ?_) (fun c13_1 => ?_)
  · skip
    refine wp_iload dd_X10_entry_23 rfl ?_
    refine wp_if_lt (tgt := 38) dd_X10_entry_25 (by decide) (fun c25_2 => ?_) (fun c25_2 => ?_)
    · skip
      refine wp_aload_n dd_X10_entry_38 rfl ?_
      refine wp_bipush dd_X10_entry_39 (by decide) ?_
      refine wp_callV (M' := mm_X10_refuse) (As := [zI (-4)]) (rest := []) dd_X10_entry_41 lk_X10_76 mV_X10_refuse kk_0 (zlt rfl) ⟨_, _, rfl⟩ rfl (by decide) (by decide) (Nat.le_of_ble_eq_true rfl) rfl (sp_X10_refuse  (-4) (by first | assumption | omega) ?_)
      show zw_Wp l mm_X10_entry (zS L) 44 [some (zR 0), some (zI a), some (zI b), some (zI le), some (zI tb), some (zI i), some (zI j), some (zI k0), some (zI (zyB mem a b le tb)), none] [zI (-4)] (zCn mem (-4)) 0 0 Q
      refine wp_ireturn (st := []) dd_X10_entry_44 rfl ?_
      have hw : zyE mem a b le tb i j k0 = (-4) := by unfold zyE; (repeat first | rw [if_pos (by omega)] | rw [if_neg (by omega)]); try omega
      exact k _ _ (Or.inl ⟨by rw [hw]; first | decide | omega, hw.symm, by rw [hw]⟩)
    · skip
      refine wp_iload dd_X10_entry_28 rfl ?_
      refine wp_if_lt (tgt := 38) dd_X10_entry_30 (by decide) (fun c30_3 => ?_) (fun c30_3 => ?_)
      · skip
        refine wp_aload_n dd_X10_entry_38 rfl ?_
        refine wp_bipush dd_X10_entry_39 (by decide) ?_
        refine wp_callV (M' := mm_X10_refuse) (As := [zI (-4)]) (rest := []) dd_X10_entry_41 lk_X10_76 mV_X10_refuse kk_0 (zlt rfl) ⟨_, _, rfl⟩ rfl (by decide) (by decide) (Nat.le_of_ble_eq_true rfl) rfl (sp_X10_refuse  (-4) (by first | assumption | omega) ?_)
        show zw_Wp l mm_X10_entry (zS L) 44 [some (zR 0), some (zI a), some (zI b), some (zI le), some (zI tb), some (zI i), some (zI j), some (zI k0), some (zI (zyB mem a b le tb)), none] [zI (-4)] (zCn mem (-4)) 0 0 Q
        refine wp_ireturn (st := []) dd_X10_entry_44 rfl ?_
        have hw : zyE mem a b le tb i j k0 = (-4) := by unfold zyE; (repeat first | rw [if_pos (by omega)] | rw [if_neg (by omega)]); try omega
        exact k _ _ (Or.inl ⟨by rw [hw]; first | decide | omega, hw.symm, by rw [hw]⟩)
      · skip
        refine wp_iload dd_X10_entry_33 rfl ?_
        refine wp_if_ge (tgt := 45) dd_X10_entry_35 (by decide) (fun c35_4 => ?_) (fun c35_4 => ?_)
        · skip
          have hz : zyB mem a b le tb = 0 := by omega
          obtain ⟨⟨hia, hib, hl, htb⟩, hna, hnb⟩ := zyB_0 hz
          have hqa : 0 ≤ a ∧ a < 6 := by omega
          have hqb : 0 ≤ b ∧ b < 6 := by omega
          have hTa := I1.T hia.1 hia.2
          have hTb := I1.T hib.1 hib.2
          have hCa := I1.C hia.1 hia.2
          have hCb := I1.C hib.1 hib.2
          have hcra := zco_rg hp hTa
          have hcrb := zco_rg hp hTb
          have dn1 := zdg_nn (c := zco mem a) hl hna
          have dn2 := zdg_nn (c := zco mem b) hl hnb
          have d41 := zdeg_4 (c := zco mem a) hl
          have d42 := zdeg_4 (c := zco mem b) hl
          have hpta : ∀ x y : Int, 0 ≤ zpt (zco mem a) le x y ∧ zpt (zco mem a) le x y < mem 67 1 := fun x y => zpt_rg (by omega) hcra
          have hptb : ∀ x y : Int, 0 ≤ zpt (zco mem b) le x y ∧ zpt (zco mem b) le x y < mem 67 1 := fun x y => zpt_rg (by omega) hcrb
          have hzoa := zo_rg hqa
          have hzob := zo_rg hqb
          refine wp_aload_n dd_X10_entry_45 rfl ?_
          refine wp_getR dd_X10_entry_46 gf_X10_12 rfl kk_0 (by decide) (zlt rfl) rr_0_0 ?_
          refine wp_getR dd_X10_entry_49 gf_X10_135 rfl kk_1 (by decide) (zlt rfl) rr_1_2 ?_
          refine wp_iload_n dd_X10_entry_52 rfl ?_
          refine wp_aald dd_X10_entry_53 kk_2 (zlt rfl) (by omega) (by omega) (zr2 rfl hqa) ?_
          refine wp_aload_n dd_X10_entry_54 rfl ?_
          refine wp_getR dd_X10_entry_55 gf_X10_12 rfl kk_0 (by decide) (zlt rfl) rr_0_0 ?_
          refine wp_getR dd_X10_entry_58 gf_X10_135 rfl kk_1 (by decide) (zlt rfl) rr_1_2 ?_
          refine wp_iload_n dd_X10_entry_61 rfl ?_
          refine wp_aald dd_X10_entry_62 kk_2 (zlt rfl) (by omega) (by omega) (zr2 rfl hqb) ?_
          refine wp_iload_n dd_X10_entry_63 rfl ?_
          refine wp_iload dd_X10_entry_64 rfl ?_
          refine wp_callS (M' := mm_X9_sizeOf) (As := [zR (zo a), zR (zo b), zI le, zI tb]) (rest := []) dd_X10_entry_66 lk_X10_185 mS_X9_sizeOf rfl (by decide) (by decide) (Nat.le_of_ble_eq_true rfl) rfl (sp_X9_sizeOf (zco mem a) (zco mem b) (zo a) (zo b) le tb (zoP hqa) (zoP hqb) hCa hCb hl ⟨dn1, dn2⟩ ?_)
          show zw_Wp l mm_X10_entry (zS L) 69 [some (zR 0), some (zI a), some (zI b), some (zI le), some (zI tb), some (zI i), some (zI j), some (zI k0), some (zI (zyB mem a b le tb)), none] [zI (zsz (zco mem a) (zco mem b) le tb)] mem 0 0 Q
          have hszm : zsz (zco mem a) (zco mem b) le tb = zsm mem a b le tb := rfl
          have hszb : 0 ≤ zsm mem a b le tb ∧ zsm mem a b le tb ≤ 8 := by
            rw [← hszm]
            unfold zsz
            split <;> omega
          rw [show (zsz (zco mem a) (zco mem b) le tb : Int) = zsm mem a b le tb from hszm]
          refine wp_istore (ls2 := [some (zR 0), some (zI a), some (zI b), some (zI le), some (zI tb), some (zI i), some (zI j), some (zI k0), some (zI (zyB mem a b le tb)), some (zI (zsm mem a b le tb))]) dd_X10_entry_69 rfl (by decide) rfl ?_
          refine wp_iload dd_X10_entry_71 rfl ?_
          refine wp_iload dd_X10_entry_73 rfl ?_
          refine wp_icmp_ge (tgt := 92) dd_X10_entry_75 (by decide) (fun c75_5 => ?_) (fun c75_5 => ?_)
          · skip
            refine wp_aload_n dd_X10_entry_92 rfl ?_
            refine wp_bipush dd_X10_entry_93 (by decide) ?_
            refine wp_callV (M' := mm_X10_refuse) (As := [zI (-6)]) (rest := []) dd_X10_entry_95 lk_X10_76 mV_X10_refuse kk_0 (zlt rfl) ⟨_, _, rfl⟩ rfl (by decide) (by decide) (Nat.le_of_ble_eq_true rfl) rfl (sp_X10_refuse  (-6) (by first | assumption | omega) ?_)
            show zw_Wp l mm_X10_entry (zS L) 98 [some (zR 0), some (zI a), some (zI b), some (zI le), some (zI tb), some (zI i), some (zI j), some (zI k0), some (zI (zyB mem a b le tb)), some (zI (zsm mem a b le tb))] [zI (-6)] (zCn mem (-6)) 0 0 Q
            refine wp_ireturn (st := []) dd_X10_entry_98 rfl ?_
            have hw : zyE mem a b le tb i j k0 = (-6) := by unfold zyE; (repeat first | rw [if_pos (by omega)] | rw [if_neg (by omega)]); try omega
            exact k _ _ (Or.inl ⟨by rw [hw]; first | decide | omega, hw.symm, by rw [hw]⟩)
          · skip
            refine wp_iload dd_X10_entry_78 rfl ?_
            refine wp_iload dd_X10_entry_80 rfl ?_
            refine wp_icmp_ge (tgt := 92) dd_X10_entry_82 (by decide) (fun c82_6 => ?_) (fun c82_6 => ?_)
            · skip
              refine wp_aload_n dd_X10_entry_92 rfl ?_
              refine wp_bipush dd_X10_entry_93 (by decide) ?_
              refine wp_callV (M' := mm_X10_refuse) (As := [zI (-6)]) (rest := []) dd_X10_entry_95 lk_X10_76 mV_X10_refuse kk_0 (zlt rfl) ⟨_, _, rfl⟩ rfl (by decide) (by decide) (Nat.le_of_ble_eq_true rfl) rfl (sp_X10_refuse  (-6) (by first | assumption | omega) ?_)
              show zw_Wp l mm_X10_entry (zS L) 98 [some (zR 0), some (zI a), some (zI b), some (zI le), some (zI tb), some (zI i), some (zI j), some (zI k0), some (zI (zyB mem a b le tb)), some (zI (zsm mem a b le tb))] [zI (-6)] (zCn mem (-6)) 0 0 Q
              refine wp_ireturn (st := []) dd_X10_entry_98 rfl ?_
              have hw : zyE mem a b le tb i j k0 = (-6) := by unfold zyE; (repeat first | rw [if_pos (by omega)] | rw [if_neg (by omega)]); try omega
              exact k _ _ (Or.inl ⟨by rw [hw]; first | decide | omega, hw.symm, by rw [hw]⟩)
            · skip
              refine wp_iload dd_X10_entry_85 rfl ?_
              refine wp_bipush dd_X10_entry_87 (by decide) ?_
              refine wp_icmp_le (tgt := 99) dd_X10_entry_89 (by decide) (fun c89_7 => ?_) (fun c89_7 => ?_)
              · skip
                refine wp_aload_n dd_X10_entry_99 rfl ?_
                refine wp_getR dd_X10_entry_100 gf_X10_36 rfl kk_0 (by decide) (zlt rfl) rr_0_4 ?_
                refine wp_aload_n dd_X10_entry_103 rfl ?_
                refine wp_getR dd_X10_entry_104 gf_X10_12 rfl kk_0 (by decide) (zlt rfl) rr_0_0 ?_
                refine wp_getR dd_X10_entry_107 gf_X10_135 rfl kk_1 (by decide) (zlt rfl) rr_1_2 ?_
                refine wp_iload_n dd_X10_entry_110 rfl ?_
                refine wp_aald dd_X10_entry_111 kk_2 (zlt rfl) (by omega) (by omega) (zr2 rfl hqa) ?_
                refine wp_aload_n dd_X10_entry_112 rfl ?_
                refine wp_getR dd_X10_entry_113 gf_X10_12 rfl kk_0 (by decide) (zlt rfl) rr_0_0 ?_
                refine wp_getR dd_X10_entry_116 gf_X10_135 rfl kk_1 (by decide) (zlt rfl) rr_1_2 ?_
                refine wp_iload_n dd_X10_entry_119 rfl ?_
                refine wp_aald dd_X10_entry_120 kk_2 (zlt rfl) (by omega) (by omega) (zr2 rfl hqb) ?_
                refine wp_iload_n dd_X10_entry_121 rfl ?_
                refine wp_iload dd_X10_entry_122 rfl ?_
                refine wp_aload_n dd_X10_entry_124 rfl ?_
                refine wp_getR dd_X10_entry_125 gf_X10_12 rfl kk_0 (by decide) (zlt rfl) rr_0_0 ?_
                refine wp_getZ 0 rfl dd_X10_entry_128 gf_X10_114 rfl kk_1 (by decide) (zlt rfl) ?_
                refine wp_callV (M' := mm_X9_fill) (As := [zR (zo a), zR (zo b), zI le, zI tb, zI (mem 1 0)]) (rest := []) dd_X10_entry_131 lk_X10_189 mV_X9_fill kk_48 (zlt rfl) ⟨_, _, rfl⟩ rfl (by decide) (by decide) (Nat.le_of_ble_eq_true rfl) rfl (sp_X9_fill (zco mem a) (zco mem b) (zo a) (zo b) le tb (mem 1 0) (zoP hqa) (zoP hqb) hCa hCb hl htb ⟨dn1, dn2⟩ (by rw [e10]; exact hpr) (by rw [e10]; exact hpta) (by rw [e10]; exact hptb) (fun mF sF fF gF => ?_))
                show zw_Wp l mm_X10_entry (zS L) 134 [some (zR 0), some (zI a), some (zI b), some (zI le), some (zI tb), some (zI i), some (zI j), some (zI k0), some (zI (zyB mem a b le tb)), some (zI (zsm mem a b le tb))] [] mF 0 0 Q
                rw [hszm, e10] at fF
                refine wp_aload_n dd_X10_entry_134 rfl ?_
                refine wp_getR dd_X10_entry_135 gf_X10_36 rfl kk_0 (by decide) (zlt rfl) rr_0_4 ?_
                refine wp_iload dd_X10_entry_138 rfl ?_
                refine wp_iload dd_X10_entry_140 rfl ?_
                refine wp_iload dd_X10_entry_142 rfl ?_
                refine wp_callV (M' := mm_X9_cellPower) (As := [zI i, zI j, zI k0]) (rest := []) dd_X10_entry_144 lk_X10_193 mV_X9_cellPower kk_48 (zlt rfl) ⟨_, _, rfl⟩ rfl (by decide) (by decide) (Nat.le_of_ble_eq_true rfl) rfl (sp_X9_cellPower  i j k0 (by omega) (by omega) (by omega) ?_)
                show zw_Wp l mm_X10_entry (zS L) 147 [some (zR 0), some (zI a), some (zI b), some (zI le), some (zI tb), some (zI i), some (zI j), some (zI k0), some (zI (zyB mem a b le tb)), some (zI (zsm mem a b le tb))] [zI (mF 50 ((i * 8 + j) * 9 + k0))] mF 0 0 Q
                refine wp_ireturn (st := []) dd_X10_entry_147 rfl ?_
                have hw : zyE mem a b le tb i j k0 = 0 := by unfold zyE; (repeat first | rw [if_pos (by omega)] | rw [if_neg (by omega)]); try omega
                exact k _ _ (Or.inr ⟨hw, fF i j k0 (by omega) (by omega) (by omega), fun x hx => gF x (by omega) (by omega)⟩)
              · skip
                refine wp_aload_n dd_X10_entry_92 rfl ?_
                refine wp_bipush dd_X10_entry_93 (by decide) ?_
                refine wp_callV (M' := mm_X10_refuse) (As := [zI (-6)]) (rest := []) dd_X10_entry_95 lk_X10_76 mV_X10_refuse kk_0 (zlt rfl) ⟨_, _, rfl⟩ rfl (by decide) (by decide) (Nat.le_of_ble_eq_true rfl) rfl (sp_X10_refuse  (-6) (by first | assumption | omega) ?_)
                show zw_Wp l mm_X10_entry (zS L) 98 [some (zR 0), some (zI a), some (zI b), some (zI le), some (zI tb), some (zI i), some (zI j), some (zI k0), some (zI (zyB mem a b le tb)), some (zI (zsm mem a b le tb))] [zI (-6)] (zCn mem (-6)) 0 0 Q
                refine wp_ireturn (st := []) dd_X10_entry_98 rfl ?_
                have hw : zyE mem a b le tb i j k0 = (-6) := by unfold zyE; (repeat first | rw [if_pos (by omega)] | rw [if_neg (by omega)]); try omega
                exact k _ _ (Or.inl ⟨by rw [hw]; first | decide | omega, hw.symm, by rw [hw]⟩)
        · skip
          refine wp_aload_n dd_X10_entry_38 rfl ?_
          refine wp_bipush dd_X10_entry_39 (by decide) ?_
          refine wp_callV (M' := mm_X10_refuse) (As := [zI (-4)]) (rest := []) dd_X10_entry_41 lk_X10_76 mV_X10_refuse kk_0 (zlt rfl) ⟨_, _, rfl⟩ rfl (by decide) (by decide) (Nat.le_of_ble_eq_true rfl) rfl (sp_X10_refuse  (-4) (by first | assumption | omega) ?_)
          show zw_Wp l mm_X10_entry (zS L) 44 [some (zR 0), some (zI a), some (zI b), some (zI le), some (zI tb), some (zI i), some (zI j), some (zI k0), some (zI (zyB mem a b le tb)), none] [zI (-4)] (zCn mem (-4)) 0 0 Q
          refine wp_ireturn (st := []) dd_X10_entry_44 rfl ?_
          have hw : zyE mem a b le tb i j k0 = (-4) := by unfold zyE; (repeat first | rw [if_pos (by omega)] | rw [if_neg (by omega)]); try omega
          exact k _ _ (Or.inl ⟨by rw [hw]; first | decide | omega, hw.symm, by rw [hw]⟩)
  · skip
    refine wp_aload_n dd_X10_entry_16 rfl ?_
    refine wp_iload dd_X10_entry_17 rfl ?_
    refine wp_callV (M' := mm_X10_refuse) (As := [zI (zyB mem a b le tb)]) (rest := []) dd_X10_entry_19 lk_X10_76 mV_X10_refuse kk_0 (zlt rfl) ⟨_, _, rfl⟩ rfl (by decide) (by decide) (Nat.le_of_ble_eq_true rfl) rfl (sp_X10_refuse  (zyB mem a b le tb) (by first | assumption | omega) ?_)
    show zw_Wp l mm_X10_entry (zS L) 22 [some (zR 0), some (zI a), some (zI b), some (zI le), some (zI tb), some (zI i), some (zI j), some (zI k0), some (zI (zyB mem a b le tb)), none] [zI (zyB mem a b le tb)] (zCn mem (zyB mem a b le tb)) 0 0 Q
    refine wp_ireturn (st := []) dd_X10_entry_22 rfl ?_
    have hw : zyE mem a b le tb i j k0 = (zyB mem a b le tb) := by unfold zyE; (repeat first | rw [if_pos (by omega)] | rw [if_neg (by omega)]); try omega
    exact k _ _ (Or.inl ⟨by rw [hw]; first | decide | omega, hw.symm, by rw [hw]⟩)

set_option maxRecDepth 100000 in
set_option maxHeartbeats 4000000 in
theorem sp_X10_result {l : Launch} {L : Nat} {mem : zMem} {Q : zQ}  (a : Int) (b : Int) (le : Int) (tb : Int) (d : Int) (hI : zInv mem) (k : ∀ (r : Int) (m1 : zMem), (zAn mem m1 r (zyR mem a b le tb d) (zre mem a b le tb d)) → Q (some (zI r)) (zS L) m1) : zw_Ok l mm_X10_result [zR 0, zI a, zI b, zI le, zI tb, zI d] (zS L) mem Q := by
  refine zw_okA (fun hA => ?_)
  have rg_a : -2147483648 ≤ a ∧ a < 2147483648 := hA.2.1
  have rg_b : -2147483648 ≤ b ∧ b < 2147483648 := hA.2.2.1
  have rg_le : -2147483648 ≤ le ∧ le < 2147483648 := hA.2.2.2.1
  have rg_tb : -2147483648 ≤ tb ∧ tb < 2147483648 := hA.2.2.2.2.1
  have rg_d : -2147483648 ≤ d ∧ d < 2147483648 := hA.2.2.2.2.2.1
  refine zw_enter (by decide) (Nat.le_of_ble_eq_true rfl) rfl ?_
  show zw_Wp l mm_X10_result (zS L) 0 [some (zR 0), some (zI a), some (zI b), some (zI le), some (zI tb), some (zI d), none] [] mem 0 0 Q
  obtain ⟨I1, I2, I3, I4, I5, I6, I7⟩ := id hI
  have hp := I1.1
  have hpr := hp.rg
  have e10 := I1.2.1
  have hn5 := I1.2.2.1
  have e11 := I1.2.2.2.1
  refine wp_aload_n dd_X10_result_0 rfl ?_
  refine wp_iload_n dd_X10_result_1 rfl ?_
  refine wp_iload_n dd_X10_result_2 rfl ?_
  refine wp_iload_n dd_X10_result_3 rfl ?_
  refine wp_iload dd_X10_result_4 rfl ?_
  refine wp_callV (M' := mm_X10_tableRefusal) (As := [zI a, zI b, zI le, zI tb]) (rest := []) dd_X10_result_6 lk_X10_181 mV_X10_tableRefusal kk_0 (zlt rfl) ⟨_, _, rfl⟩ rfl (by decide) (by decide) (Nat.le_of_ble_eq_true rfl) rfl (sp_X10_tableRefusal  a b le tb hI ?_)
  show zw_Wp l mm_X10_result (zS L) 9 [some (zR 0), some (zI a), some (zI b), some (zI le), some (zI tb), some (zI d), none] [zI (zyB mem a b le tb)] mem 0 0 Q
  have hyc := zyB_c mem a b le tb
  refine wp_istore (ls2 := [some (zR 0), some (zI a), some (zI b), some (zI le), some (zI tb), some (zI d), some (zI (zyB mem a b le tb))]) dd_X10_result_9 rfl (by decide) rfl ?_
  refine wp_iload dd_X10_result_11 rfl ?_
  refine wp_if_eq (tgt := 23) dd_X10_result_13 (by decide) (fun c13_1 => ?_) (fun c13_1 => ?_)
  · skip
    refine wp_iload dd_X10_result_23 rfl ?_
    refine wp_if_ge (tgt := 35) dd_X10_result_25 (by decide) (fun c25_2 => ?_) (fun c25_2 => ?_)
    · skip
      refine wp_iload dd_X10_result_35 rfl ?_
      refine wp_bipush dd_X10_result_37 (by decide) ?_
      refine wp_icmp_le (tgt := 49) dd_X10_result_39 (by decide) (fun c39_3 => ?_) (fun c39_3 => ?_)
      · skip
        have hz : zyB mem a b le tb = 0 := by omega
        refine wp_aload_n dd_X10_result_49 rfl ?_
        refine wp_iload_n dd_X10_result_50 rfl ?_
        refine wp_iload_n dd_X10_result_51 rfl ?_
        refine wp_iload_n dd_X10_result_52 rfl ?_
        refine wp_iload dd_X10_result_53 rfl ?_
        refine wp_callV (M' := mm_X10_solve) (As := [zI a, zI b, zI le, zI tb]) (rest := []) dd_X10_result_55 lk_X10_196 mV_X10_solve kk_0 (zlt rfl) ⟨_, _, rfl⟩ rfl (by decide) (by decide) (Nat.le_of_ble_eq_true rfl) rfl (sp_X10_solve  a b le tb hI hz (fun mS fS gS => ?_))
        show zw_Wp l mm_X10_result (zS L) 58 [some (zR 0), some (zI a), some (zI b), some (zI le), some (zI tb), some (zI d), some (zI (zyB mem a b le tb))] [] mS 0 0 Q
        have s10 : mS 1 0 = mem 67 1 := by rw [gS 1 (by decide)]; exact e10
        have hCk : zCk mem mS := fun x hx => gS x (by omega)
        have hrS : ∀ d : Int, 0 ≤ d → d < ((41 : Nat) : Int) → 0 ≤ mS 49 d ∧ mS 49 d ≤ 31 := fun d q1 q2 => by rw [fS d q1 (by omega)]; have := zre_rg (a := a) (b := b) (le := le) (tb := tb) (d := d) hp; omega
        refine wp_aload_n dd_X10_result_58 rfl ?_
        refine wp_getR dd_X10_result_59 gf_X10_36 rfl kk_0 (by decide) (zlt rfl) rr_0_4 ?_
        refine wp_getR dd_X10_result_62 gf_X10_200 rfl kk_48 (by decide) (zlt rfl) rr_48_0 ?_
        refine wp_iload dd_X10_result_65 rfl ?_
        refine wp_iald dd_X10_result_67 kk_49 (zlt rfl) (by omega) (by omega) ?_
        refine wp_ireturn (st := []) dd_X10_result_68 rfl ?_
        have hw : zyR mem a b le tb d = 0 := by unfold zyR; (repeat first | rw [if_pos (by omega)] | rw [if_neg (by omega)]); try omega
        exact k _ _ (Or.inr ⟨hw, fS d (by omega) (by omega), hCk⟩)
      · skip
        refine wp_aload_n dd_X10_result_42 rfl ?_
        refine wp_bipush dd_X10_result_43 (by decide) ?_
        refine wp_callV (M' := mm_X10_refuse) (As := [zI (-6)]) (rest := []) dd_X10_result_45 lk_X10_76 mV_X10_refuse kk_0 (zlt rfl) ⟨_, _, rfl⟩ rfl (by decide) (by decide) (Nat.le_of_ble_eq_true rfl) rfl (sp_X10_refuse  (-6) (by first | assumption | omega) ?_)
        show zw_Wp l mm_X10_result (zS L) 48 [some (zR 0), some (zI a), some (zI b), some (zI le), some (zI tb), some (zI d), some (zI (zyB mem a b le tb))] [zI (-6)] (zCn mem (-6)) 0 0 Q
        refine wp_ireturn (st := []) dd_X10_result_48 rfl ?_
        have hw : zyR mem a b le tb d = (-6) := by unfold zyR; (repeat first | rw [if_pos (by omega)] | rw [if_neg (by omega)]); try omega
        exact k _ _ (Or.inl ⟨by rw [hw]; first | decide | omega, hw.symm, by rw [hw]⟩)
    · skip
      refine wp_aload_n dd_X10_result_28 rfl ?_
      refine wp_bipush dd_X10_result_29 (by decide) ?_
      refine wp_callV (M' := mm_X10_refuse) (As := [zI (-4)]) (rest := []) dd_X10_result_31 lk_X10_76 mV_X10_refuse kk_0 (zlt rfl) ⟨_, _, rfl⟩ rfl (by decide) (by decide) (Nat.le_of_ble_eq_true rfl) rfl (sp_X10_refuse  (-4) (by first | assumption | omega) ?_)
      show zw_Wp l mm_X10_result (zS L) 34 [some (zR 0), some (zI a), some (zI b), some (zI le), some (zI tb), some (zI d), some (zI (zyB mem a b le tb))] [zI (-4)] (zCn mem (-4)) 0 0 Q
      refine wp_ireturn (st := []) dd_X10_result_34 rfl ?_
      have hw : zyR mem a b le tb d = (-4) := by unfold zyR; (repeat first | rw [if_pos (by omega)] | rw [if_neg (by omega)]); try omega
      exact k _ _ (Or.inl ⟨by rw [hw]; first | decide | omega, hw.symm, by rw [hw]⟩)
  · skip
    refine wp_aload_n dd_X10_result_16 rfl ?_
    refine wp_iload dd_X10_result_17 rfl ?_
    refine wp_callV (M' := mm_X10_refuse) (As := [zI (zyB mem a b le tb)]) (rest := []) dd_X10_result_19 lk_X10_76 mV_X10_refuse kk_0 (zlt rfl) ⟨_, _, rfl⟩ rfl (by decide) (by decide) (Nat.le_of_ble_eq_true rfl) rfl (sp_X10_refuse  (zyB mem a b le tb) (by first | assumption | omega) ?_)
    show zw_Wp l mm_X10_result (zS L) 22 [some (zR 0), some (zI a), some (zI b), some (zI le), some (zI tb), some (zI d), some (zI (zyB mem a b le tb))] [zI (zyB mem a b le tb)] (zCn mem (zyB mem a b le tb)) 0 0 Q
    refine wp_ireturn (st := []) dd_X10_result_22 rfl ?_
    have hw : zyR mem a b le tb d = (zyB mem a b le tb) := by unfold zyR; (repeat first | rw [if_pos (by omega)] | rw [if_neg (by omega)]); try omega
    exact k _ _ (Or.inl ⟨by rw [hw]; first | decide | omega, hw.symm, by rw [hw]⟩)

set_option maxRecDepth 100000 in
set_option maxHeartbeats 4000000 in
theorem sp_X10_degree {l : Launch} {L : Nat} {mem : zMem} {Q : zQ}  (a : Int) (b : Int) (le : Int) (tb : Int) (hI : zInv mem) (k : ∀ (r : Int) (m1 : zMem), (zAn mem m1 r (zyB mem a b le tb) (zrdg (zre mem a b le tb) 41)) → Q (some (zI r)) (zS L) m1) : zw_Ok l mm_X10_degree [zR 0, zI a, zI b, zI le, zI tb] (zS L) mem Q := by
  refine zw_okA (fun hA => ?_)
  have rg_a : -2147483648 ≤ a ∧ a < 2147483648 := hA.2.1
  have rg_b : -2147483648 ≤ b ∧ b < 2147483648 := hA.2.2.1
  have rg_le : -2147483648 ≤ le ∧ le < 2147483648 := hA.2.2.2.1
  have rg_tb : -2147483648 ≤ tb ∧ tb < 2147483648 := hA.2.2.2.2.1
  refine zw_enter (by decide) (Nat.le_of_ble_eq_true rfl) rfl ?_
  show zw_Wp l mm_X10_degree (zS L) 0 [some (zR 0), some (zI a), some (zI b), some (zI le), some (zI tb), none] [] mem 0 0 Q
  obtain ⟨I1, I2, I3, I4, I5, I6, I7⟩ := id hI
  have hp := I1.1
  have hpr := hp.rg
  have e10 := I1.2.1
  have hn5 := I1.2.2.1
  have e11 := I1.2.2.2.1
  refine wp_aload_n dd_X10_degree_0 rfl ?_
  refine wp_iload_n dd_X10_degree_1 rfl ?_
  refine wp_iload_n dd_X10_degree_2 rfl ?_
  refine wp_iload_n dd_X10_degree_3 rfl ?_
  refine wp_iload dd_X10_degree_4 rfl ?_
  refine wp_callV (M' := mm_X10_tableRefusal) (As := [zI a, zI b, zI le, zI tb]) (rest := []) dd_X10_degree_6 lk_X10_181 mV_X10_tableRefusal kk_0 (zlt rfl) ⟨_, _, rfl⟩ rfl (by decide) (by decide) (Nat.le_of_ble_eq_true rfl) rfl (sp_X10_tableRefusal  a b le tb hI ?_)
  show zw_Wp l mm_X10_degree (zS L) 9 [some (zR 0), some (zI a), some (zI b), some (zI le), some (zI tb), none] [zI (zyB mem a b le tb)] mem 0 0 Q
  have hyc := zyB_c mem a b le tb
  refine wp_istore (ls2 := [some (zR 0), some (zI a), some (zI b), some (zI le), some (zI tb), some (zI (zyB mem a b le tb))]) dd_X10_degree_9 rfl (by decide) rfl ?_
  refine wp_iload dd_X10_degree_11 rfl ?_
  refine wp_if_eq (tgt := 23) dd_X10_degree_13 (by decide) (fun c13_1 => ?_) (fun c13_1 => ?_)
  · skip
    have hz : zyB mem a b le tb = 0 := by omega
    refine wp_aload_n dd_X10_degree_23 rfl ?_
    refine wp_iload_n dd_X10_degree_24 rfl ?_
    refine wp_iload_n dd_X10_degree_25 rfl ?_
    refine wp_iload_n dd_X10_degree_26 rfl ?_
    refine wp_iload dd_X10_degree_27 rfl ?_
    refine wp_callV (M' := mm_X10_solve) (As := [zI a, zI b, zI le, zI tb]) (rest := []) dd_X10_degree_29 lk_X10_196 mV_X10_solve kk_0 (zlt rfl) ⟨_, _, rfl⟩ rfl (by decide) (by decide) (Nat.le_of_ble_eq_true rfl) rfl (sp_X10_solve  a b le tb hI hz (fun mS fS gS => ?_))
    show zw_Wp l mm_X10_degree (zS L) 32 [some (zR 0), some (zI a), some (zI b), some (zI le), some (zI tb), some (zI (zyB mem a b le tb))] [] mS 0 0 Q
    have s10 : mS 1 0 = mem 67 1 := by rw [gS 1 (by decide)]; exact e10
    have hCk : zCk mem mS := fun x hx => gS x (by omega)
    have hrS : ∀ d : Int, 0 ≤ d → d < ((41 : Nat) : Int) → 0 ≤ mS 49 d ∧ mS 49 d ≤ 31 := fun d q1 q2 => by rw [fS d q1 (by omega)]; have := zre_rg (a := a) (b := b) (le := le) (tb := tb) (d := d) hp; omega
    refine wp_aload_n dd_X10_degree_32 rfl ?_
    refine wp_getR dd_X10_degree_33 gf_X10_36 rfl kk_0 (by decide) (zlt rfl) rr_0_4 ?_
    refine wp_getR dd_X10_degree_36 gf_X10_200 rfl kk_48 (by decide) (zlt rfl) rr_48_0 ?_
    refine wp_callS (M' := mm_X2_degreeOf) (As := [zR 49]) (rest := []) dd_X10_degree_39 lk_X10_203 mS_X2_degreeOf rfl (by decide) (by decide) (Nat.le_of_ble_eq_true rfl) rfl (sp_X2_degreeOf  49 kk_49 (zlt rfl) (by decide) (fun dd hdd => ?_))
    show zw_Wp l mm_X10_degree (zS L) 42 [some (zR 0), some (zI a), some (zI b), some (zI le), some (zI tb), some (zI (zyB mem a b le tb))] [zI dd] mS 0 0 Q
    refine wp_ireturn (st := []) dd_X10_degree_42 rfl ?_
    exact k _ _ (Or.inr ⟨hz, (zrdg_un hdd).trans (zrdg_cg 41 (fun x q1 q2 => fS x q1 q2)), hCk⟩)
  · skip
    refine wp_aload_n dd_X10_degree_16 rfl ?_
    refine wp_iload dd_X10_degree_17 rfl ?_
    refine wp_callV (M' := mm_X10_refuse) (As := [zI (zyB mem a b le tb)]) (rest := []) dd_X10_degree_19 lk_X10_76 mV_X10_refuse kk_0 (zlt rfl) ⟨_, _, rfl⟩ rfl (by decide) (by decide) (Nat.le_of_ble_eq_true rfl) rfl (sp_X10_refuse  (zyB mem a b le tb) (by first | assumption | omega) ?_)
    show zw_Wp l mm_X10_degree (zS L) 22 [some (zR 0), some (zI a), some (zI b), some (zI le), some (zI tb), some (zI (zyB mem a b le tb))] [zI (zyB mem a b le tb)] (zCn mem (zyB mem a b le tb)) 0 0 Q
    refine wp_ireturn (st := []) dd_X10_degree_22 rfl ?_
    exact k _ _ (Or.inl ⟨by assumption, rfl, rfl⟩)

set_option maxRecDepth 100000 in
set_option maxHeartbeats 4000000 in
theorem sp_X10_at {l : Launch} {L : Nat} {mem : zMem} {Q : zQ}  (a : Int) (b : Int) (le : Int) (tb : Int) (v : Int) (hI : zInv mem) (k : ∀ (r : Int) (m1 : zMem), (zAn mem m1 r (zyX mem a b le tb v) (zhr (zre mem a b le tb) v (mem 67 1) 41 41)) → Q (some (zI r)) (zS L) m1) : zw_Ok l mm_X10_at [zR 0, zI a, zI b, zI le, zI tb, zI v] (zS L) mem Q := by
  refine zw_okA (fun hA => ?_)
  have rg_a : -2147483648 ≤ a ∧ a < 2147483648 := hA.2.1
  have rg_b : -2147483648 ≤ b ∧ b < 2147483648 := hA.2.2.1
  have rg_le : -2147483648 ≤ le ∧ le < 2147483648 := hA.2.2.2.1
  have rg_tb : -2147483648 ≤ tb ∧ tb < 2147483648 := hA.2.2.2.2.1
  have rg_v : -2147483648 ≤ v ∧ v < 2147483648 := hA.2.2.2.2.2.1
  refine zw_enter (by decide) (Nat.le_of_ble_eq_true rfl) rfl ?_
  show zw_Wp l mm_X10_at (zS L) 0 [some (zR 0), some (zI a), some (zI b), some (zI le), some (zI tb), some (zI v), none] [] mem 0 0 Q
  obtain ⟨I1, I2, I3, I4, I5, I6, I7⟩ := id hI
  have hp := I1.1
  have hpr := hp.rg
  have e10 := I1.2.1
  have hn5 := I1.2.2.1
  have e11 := I1.2.2.2.1
  refine wp_aload_n dd_X10_at_0 rfl ?_
  refine wp_iload_n dd_X10_at_1 rfl ?_
  refine wp_iload_n dd_X10_at_2 rfl ?_
  refine wp_iload_n dd_X10_at_3 rfl ?_
  refine wp_iload dd_X10_at_4 rfl ?_
  refine wp_callV (M' := mm_X10_tableRefusal) (As := [zI a, zI b, zI le, zI tb]) (rest := []) dd_X10_at_6 lk_X10_181 mV_X10_tableRefusal kk_0 (zlt rfl) ⟨_, _, rfl⟩ rfl (by decide) (by decide) (Nat.le_of_ble_eq_true rfl) rfl (sp_X10_tableRefusal  a b le tb hI ?_)
  show zw_Wp l mm_X10_at (zS L) 9 [some (zR 0), some (zI a), some (zI b), some (zI le), some (zI tb), some (zI v), none] [zI (zyB mem a b le tb)] mem 0 0 Q
  have hyc := zyB_c mem a b le tb
  refine wp_istore (ls2 := [some (zR 0), some (zI a), some (zI b), some (zI le), some (zI tb), some (zI v), some (zI (zyB mem a b le tb))]) dd_X10_at_9 rfl (by decide) rfl ?_
  refine wp_iload dd_X10_at_11 rfl ?_
  refine wp_if_ne (tgt := 24) dd_X10_at_13 (by decide) (fun c13_1 => ?_) (fun c13_1 => ?_)
  · skip
    refine wp_iload dd_X10_at_24 rfl ?_
    refine wp_if_eq (tgt := 36) dd_X10_at_26 (by decide) (fun c26_2 => ?_) (fun c26_2 => ?_)
    · skip
      have hz : zyB mem a b le tb = 0 := by omega
      refine wp_aload_n dd_X10_at_36 rfl ?_
      refine wp_iload_n dd_X10_at_37 rfl ?_
      refine wp_iload_n dd_X10_at_38 rfl ?_
      refine wp_iload_n dd_X10_at_39 rfl ?_
      refine wp_iload dd_X10_at_40 rfl ?_
      refine wp_callV (M' := mm_X10_solve) (As := [zI a, zI b, zI le, zI tb]) (rest := []) dd_X10_at_42 lk_X10_196 mV_X10_solve kk_0 (zlt rfl) ⟨_, _, rfl⟩ rfl (by decide) (by decide) (Nat.le_of_ble_eq_true rfl) rfl (sp_X10_solve  a b le tb hI hz (fun mS fS gS => ?_))
      show zw_Wp l mm_X10_at (zS L) 45 [some (zR 0), some (zI a), some (zI b), some (zI le), some (zI tb), some (zI v), some (zI (zyB mem a b le tb))] [] mS 0 0 Q
      have s10 : mS 1 0 = mem 67 1 := by rw [gS 1 (by decide)]; exact e10
      have hCk : zCk mem mS := fun x hx => gS x (by omega)
      have hrS : ∀ d : Int, 0 ≤ d → d < ((41 : Nat) : Int) → 0 ≤ mS 49 d ∧ mS 49 d ≤ 31 := fun d q1 q2 => by rw [fS d q1 (by omega)]; have := zre_rg (a := a) (b := b) (le := le) (tb := tb) (d := d) hp; omega
      refine wp_aload_n dd_X10_at_45 rfl ?_
      refine wp_getR dd_X10_at_46 gf_X10_36 rfl kk_0 (by decide) (zlt rfl) rr_0_4 ?_
      refine wp_getR dd_X10_at_49 gf_X10_200 rfl kk_48 (by decide) (zlt rfl) rr_48_0 ?_
      refine wp_iload dd_X10_at_52 rfl ?_
      refine wp_aload_n dd_X10_at_54 rfl ?_
      refine wp_getR dd_X10_at_55 gf_X10_12 rfl kk_0 (by decide) (zlt rfl) rr_0_0 ?_
      refine wp_getZ 0 rfl dd_X10_at_58 gf_X10_114 rfl kk_1 (by decide) (zlt rfl) ?_
      refine wp_callS (M' := mm_X2_valueAt) (As := [zR 49, zI v, zI (mS 1 0)]) (rest := []) dd_X10_at_61 lk_X10_210 mS_X2_valueAt rfl (by decide) (by decide) (Nat.le_of_ble_eq_true rfl) rfl (sp_X2_valueAt  49 v (mS 1 0) kk_49 (zlt rfl) (by decide) (by rw [s10]; exact hpr) (by omega) hrS ?_)
      show zw_Wp l mm_X10_at (zS L) 64 [some (zR 0), some (zI a), some (zI b), some (zI le), some (zI tb), some (zI v), some (zI (zyB mem a b le tb))] [zI (zhr (mS 49) v (mS 1 0) 41 41)] mS 0 0 Q
      refine wp_ireturn (st := []) dd_X10_at_64 rfl ?_
      have hw : zyX mem a b le tb v = 0 := by unfold zyX; (repeat first | rw [if_pos (by omega)] | rw [if_neg (by omega)]); try omega
      exact k _ _ (Or.inr ⟨hw, by rw [s10]; exact zhr_cg (fun x q1 q2 => fS x q1 q2) 41 (by omega), hCk⟩)
    · skip
      refine wp_aload_n dd_X10_at_29 rfl ?_
      refine wp_iload dd_X10_at_30 rfl ?_
      refine wp_callV (M' := mm_X10_refuse) (As := [zI (zyB mem a b le tb)]) (rest := []) dd_X10_at_32 lk_X10_76 mV_X10_refuse kk_0 (zlt rfl) ⟨_, _, rfl⟩ rfl (by decide) (by decide) (Nat.le_of_ble_eq_true rfl) rfl (sp_X10_refuse  (zyB mem a b le tb) (by first | assumption | omega) ?_)
      show zw_Wp l mm_X10_at (zS L) 35 [some (zR 0), some (zI a), some (zI b), some (zI le), some (zI tb), some (zI v), some (zI (zyB mem a b le tb))] [zI (zyB mem a b le tb)] (zCn mem (zyB mem a b le tb)) 0 0 Q
      refine wp_ireturn (st := []) dd_X10_at_35 rfl ?_
      have hw : zyX mem a b le tb v = (zyB mem a b le tb) := by unfold zyX; (repeat first | rw [if_pos (by omega)] | rw [if_neg (by omega)]); try omega
      exact k _ _ (Or.inl ⟨by rw [hw]; first | decide | omega, hw.symm, by rw [hw]⟩)
  · skip
    refine wp_aload_n dd_X10_at_16 rfl ?_
    refine wp_iload dd_X10_at_17 rfl ?_
    refine wp_callV (M' := mm_X10_numberRefusal) (As := [zI v]) (rest := []) dd_X10_at_19 lk_X10_207 mV_X10_numberRefusal kk_0 (zlt rfl) ⟨_, _, rfl⟩ rfl (by decide) (by decide) (Nat.le_of_ble_eq_true rfl) rfl (sp_X10_numberRefusal  v hI ?_)
    show zw_Wp l mm_X10_at (zS L) 22 [some (zR 0), some (zI a), some (zI b), some (zI le), some (zI tb), some (zI v), some (zI (zyB mem a b le tb))] [zI (if v < 0 then -4 else if mem 67 1 ≤ v then -6 else 0)] mem 0 0 Q
    refine wp_istore (ls2 := [some (zR 0), some (zI a), some (zI b), some (zI le), some (zI tb), some (zI v), some (zI (if v < 0 then -4 else if mem 67 1 ≤ v then -6 else 0))]) dd_X10_at_22 rfl (by decide) rfl ?_
    refine wp_iload dd_X10_at_24 rfl ?_
    refine wp_if_eq (tgt := 36) dd_X10_at_26 (by decide) (fun c26_3 => ?_) (fun c26_3 => ?_)
    · skip
      have hz : zyB mem a b le tb = 0 := by omega
      refine wp_aload_n dd_X10_at_36 rfl ?_
      refine wp_iload_n dd_X10_at_37 rfl ?_
      refine wp_iload_n dd_X10_at_38 rfl ?_
      refine wp_iload_n dd_X10_at_39 rfl ?_
      refine wp_iload dd_X10_at_40 rfl ?_
      refine wp_callV (M' := mm_X10_solve) (As := [zI a, zI b, zI le, zI tb]) (rest := []) dd_X10_at_42 lk_X10_196 mV_X10_solve kk_0 (zlt rfl) ⟨_, _, rfl⟩ rfl (by decide) (by decide) (Nat.le_of_ble_eq_true rfl) rfl (sp_X10_solve  a b le tb hI hz (fun mS fS gS => ?_))
      show zw_Wp l mm_X10_at (zS L) 45 [some (zR 0), some (zI a), some (zI b), some (zI le), some (zI tb), some (zI v), some (zI (if v < 0 then -4 else if mem 67 1 ≤ v then -6 else 0))] [] mS 0 0 Q
      have s10 : mS 1 0 = mem 67 1 := by rw [gS 1 (by decide)]; exact e10
      have hCk : zCk mem mS := fun x hx => gS x (by omega)
      have hrS : ∀ d : Int, 0 ≤ d → d < ((41 : Nat) : Int) → 0 ≤ mS 49 d ∧ mS 49 d ≤ 31 := fun d q1 q2 => by rw [fS d q1 (by omega)]; have := zre_rg (a := a) (b := b) (le := le) (tb := tb) (d := d) hp; omega
      refine wp_aload_n dd_X10_at_45 rfl ?_
      refine wp_getR dd_X10_at_46 gf_X10_36 rfl kk_0 (by decide) (zlt rfl) rr_0_4 ?_
      refine wp_getR dd_X10_at_49 gf_X10_200 rfl kk_48 (by decide) (zlt rfl) rr_48_0 ?_
      refine wp_iload dd_X10_at_52 rfl ?_
      refine wp_aload_n dd_X10_at_54 rfl ?_
      refine wp_getR dd_X10_at_55 gf_X10_12 rfl kk_0 (by decide) (zlt rfl) rr_0_0 ?_
      refine wp_getZ 0 rfl dd_X10_at_58 gf_X10_114 rfl kk_1 (by decide) (zlt rfl) ?_
      refine wp_callS (M' := mm_X2_valueAt) (As := [zR 49, zI v, zI (mS 1 0)]) (rest := []) dd_X10_at_61 lk_X10_210 mS_X2_valueAt rfl (by decide) (by decide) (Nat.le_of_ble_eq_true rfl) rfl (sp_X2_valueAt  49 v (mS 1 0) kk_49 (zlt rfl) (by decide) (by rw [s10]; exact hpr) (by omega) hrS ?_)
      show zw_Wp l mm_X10_at (zS L) 64 [some (zR 0), some (zI a), some (zI b), some (zI le), some (zI tb), some (zI v), some (zI (if v < 0 then -4 else if mem 67 1 ≤ v then -6 else 0))] [zI (zhr (mS 49) v (mS 1 0) 41 41)] mS 0 0 Q
      refine wp_ireturn (st := []) dd_X10_at_64 rfl ?_
      have hw : zyX mem a b le tb v = 0 := by unfold zyX; (repeat first | rw [if_pos (by omega)] | rw [if_neg (by omega)]); try omega
      exact k _ _ (Or.inr ⟨hw, by rw [s10]; exact zhr_cg (fun x q1 q2 => fS x q1 q2) 41 (by omega), hCk⟩)
    · skip
      refine wp_aload_n dd_X10_at_29 rfl ?_
      refine wp_iload dd_X10_at_30 rfl ?_
      refine wp_callV (M' := mm_X10_refuse) (As := [zI (if v < 0 then -4 else if mem 67 1 ≤ v then -6 else 0)]) (rest := []) dd_X10_at_32 lk_X10_76 mV_X10_refuse kk_0 (zlt rfl) ⟨_, _, rfl⟩ rfl (by decide) (by decide) (Nat.le_of_ble_eq_true rfl) rfl (sp_X10_refuse  (if v < 0 then -4 else if mem 67 1 ≤ v then -6 else 0) (by first | assumption | omega) ?_)
      show zw_Wp l mm_X10_at (zS L) 35 [some (zR 0), some (zI a), some (zI b), some (zI le), some (zI tb), some (zI v), some (zI (if v < 0 then -4 else if mem 67 1 ≤ v then -6 else 0))] [zI (if v < 0 then -4 else if mem 67 1 ≤ v then -6 else 0)] (zCn mem (if v < 0 then -4 else if mem 67 1 ≤ v then -6 else 0)) 0 0 Q
      refine wp_ireturn (st := []) dd_X10_at_35 rfl ?_
      have hw : zyX mem a b le tb v = (if v < 0 then -4 else if mem 67 1 ≤ v then -6 else 0) := by unfold zyX; (repeat first | rw [if_pos (by omega)] | rw [if_neg (by omega)]); try omega
      exact k _ _ (Or.inl ⟨by rw [hw]; first | decide | omega, hw.symm, by rw [hw]⟩)

set_option maxRecDepth 100000 in
set_option maxHeartbeats 4000000 in
theorem sp_X10_remainder {l : Launch} {L : Nat} {mem : zMem} {Q : zQ}  (a : Int) (b : Int) (le : Int) (v : Int) (k0 : Int) (hI : zInv mem) (k : ∀ (r : Int) (m1 : zMem), (zAn mem m1 r (zyM mem a b le v k0) (zrs0 (mem 67 1) k0 (zsa (zco mem a) le v (mem 67 1)) (zsa (zco mem b) le v (mem 67 1)))) → Q (some (zI r)) (zS L) m1) : zw_Ok l mm_X10_remainder [zR 0, zI a, zI b, zI le, zI v, zI k0] (zS L) mem Q := by
  refine zw_okA (fun hA => ?_)
  have rg_a : -2147483648 ≤ a ∧ a < 2147483648 := hA.2.1
  have rg_b : -2147483648 ≤ b ∧ b < 2147483648 := hA.2.2.1
  have rg_le : -2147483648 ≤ le ∧ le < 2147483648 := hA.2.2.2.1
  have rg_v : -2147483648 ≤ v ∧ v < 2147483648 := hA.2.2.2.2.1
  have rg_k0 : -2147483648 ≤ k0 ∧ k0 < 2147483648 := hA.2.2.2.2.2.1
  refine zw_enter (by decide) (Nat.le_of_ble_eq_true rfl) rfl ?_
  show zw_Wp l mm_X10_remainder (zS L) 0 [some (zR 0), some (zI a), some (zI b), some (zI le), some (zI v), some (zI k0), none] [] mem 0 0 Q
  obtain ⟨I1, I2, I3, I4, I5, I6, I7⟩ := id hI
  have hp := I1.1
  have hpr := hp.rg
  have e10 := I1.2.1
  have hn5 := I1.2.2.1
  have e11 := I1.2.2.2.1
  refine wp_aload_n dd_X10_remainder_0 rfl ?_
  refine wp_iload_n dd_X10_remainder_1 rfl ?_
  refine wp_iload_n dd_X10_remainder_2 rfl ?_
  refine wp_iload_n dd_X10_remainder_3 rfl ?_
  refine wp_iconst dd_X10_remainder_4 (zr_lit rfl) ?_
  refine wp_callV (M' := mm_X10_tableRefusal) (As := [zI a, zI b, zI le, zI 0]) (rest := []) dd_X10_remainder_5 lk_X10_181 mV_X10_tableRefusal kk_0 (zlt rfl) ⟨_, _, rfl⟩ rfl (by decide) (by decide) (Nat.le_of_ble_eq_true rfl) rfl (sp_X10_tableRefusal  a b le 0 hI ?_)
  show zw_Wp l mm_X10_remainder (zS L) 8 [some (zR 0), some (zI a), some (zI b), some (zI le), some (zI v), some (zI k0), none] [zI (zyB mem a b le 0)] mem 0 0 Q
  have hyc := zyB_c mem a b le 0
  refine wp_istore (ls2 := [some (zR 0), some (zI a), some (zI b), some (zI le), some (zI v), some (zI k0), some (zI (zyB mem a b le 0))]) dd_X10_remainder_8 rfl (by decide) rfl ?_
  refine wp_iload dd_X10_remainder_10 rfl ?_
  refine wp_if_eq (tgt := 22) dd_X10_remainder_12 (by decide) (fun c12_1 => ?_) (fun c12_1 => ?_)
  · skip
    refine wp_iload dd_X10_remainder_22 rfl ?_
    refine wp_if_lt (tgt := 33) dd_X10_remainder_24 (by decide) (fun c24_2 => ?_) (fun c24_2 => ?_)
    · skip
      refine wp_aload_n dd_X10_remainder_33 rfl ?_
      refine wp_bipush dd_X10_remainder_34 (by decide) ?_
      refine wp_callV (M' := mm_X10_refuse) (As := [zI (-4)]) (rest := []) dd_X10_remainder_36 lk_X10_76 mV_X10_refuse kk_0 (zlt rfl) ⟨_, _, rfl⟩ rfl (by decide) (by decide) (Nat.le_of_ble_eq_true rfl) rfl (sp_X10_refuse  (-4) (by first | assumption | omega) ?_)
      show zw_Wp l mm_X10_remainder (zS L) 39 [some (zR 0), some (zI a), some (zI b), some (zI le), some (zI v), some (zI k0), some (zI (zyB mem a b le 0))] [zI (-4)] (zCn mem (-4)) 0 0 Q
      refine wp_ireturn (st := []) dd_X10_remainder_39 rfl ?_
      have hw : zyM mem a b le v k0 = (-4) := by unfold zyM; (repeat first | rw [if_pos (by omega)] | rw [if_neg (by omega)]); try omega
      exact k _ _ (Or.inl ⟨by rw [hw]; first | decide | omega, hw.symm, by rw [hw]⟩)
    · skip
      refine wp_iload dd_X10_remainder_27 rfl ?_
      refine wp_iconst dd_X10_remainder_29 (zr_lit rfl) ?_
      refine wp_icmp_ge (tgt := 40) dd_X10_remainder_30 (by decide) (fun c30_3 => ?_) (fun c30_3 => ?_)
      · skip
        refine wp_iload dd_X10_remainder_40 rfl ?_
        refine wp_aload_n dd_X10_remainder_42 rfl ?_
        refine wp_getR dd_X10_remainder_43 gf_X10_12 rfl kk_0 (by decide) (zlt rfl) rr_0_0 ?_
        refine wp_getZ 0 rfl dd_X10_remainder_46 gf_X10_114 rfl kk_1 (by decide) (zlt rfl) ?_
        refine wp_icmp_lt (tgt := 59) dd_X10_remainder_49 (by decide) (fun c49_4 => ?_) (fun c49_4 => ?_)
        · skip
          have hz : zyB mem a b le 0 = 0 := by omega
          refine wp_aload_n dd_X10_remainder_59 rfl ?_
          refine wp_iload_n dd_X10_remainder_60 rfl ?_
          refine wp_iload_n dd_X10_remainder_61 rfl ?_
          refine wp_iload_n dd_X10_remainder_62 rfl ?_
          refine wp_iload dd_X10_remainder_63 rfl ?_
          refine wp_callV (M' := mm_X10_divideAt) (As := [zI a, zI b, zI le, zI v]) (rest := []) dd_X10_remainder_65 lk_X10_214 mV_X10_divideAt kk_0 (zlt rfl) ⟨_, _, rfl⟩ rfl (by decide) (by decide) (Nat.le_of_ble_eq_true rfl) rfl (sp_X10_divideAt  a b le v hI hz (by omega) (fun mD nD AD gD => ?_))
          show zw_Wp l mm_X10_remainder (zS L) 68 [some (zR 0), some (zI a), some (zI b), some (zI le), some (zI v), some (zI k0), some (zI (zyB mem a b le 0))] [] mD 0 0 Q
          have hCk : zCk mem mD := fun x hx => gD x (by omega)
          refine wp_iload dd_X10_remainder_68 rfl ?_
          refine wp_iconst dd_X10_remainder_70 (zr_lit rfl) ?_
          refine wp_icmp_ne (tgt := 84) dd_X10_remainder_71 (by decide) (fun c71_5 => ?_) (fun c71_5 => ?_)
          · skip
            refine wp_aload_n dd_X10_remainder_84 rfl ?_
            refine wp_getR dd_X10_remainder_85 gf_X10_43 rfl kk_0 (by decide) (zlt rfl) rr_0_5 ?_
            refine wp_iload dd_X10_remainder_88 rfl ?_
            refine wp_callV (M' := mm_X0_linkDegree) (As := [zI k0]) (rest := []) dd_X10_remainder_90 lk_X10_220 mV_X0_linkDegree kk_53 (zlt rfl) ⟨_, _, rfl⟩ rfl (by decide) (by decide) (Nat.le_of_ble_eq_true rfl) rfl (sp_X0_linkDegree  k0 (by first | assumption | omega) ?_)
            show zw_Wp l mm_X10_remainder (zS L) 93 [some (zR 0), some (zI a), some (zI b), some (zI le), some (zI v), some (zI k0), some (zI (zyB mem a b le 0))] [zI (if 0 ≤ k0 ∧ k0 < mD 53 2 then mD 56 k0 else -9)] mD 0 0 Q
            refine wp_ireturn (st := []) dd_X10_remainder_93 rfl ?_
            have hw : zyM mem a b le v k0 = 0 := by unfold zyM; (repeat first | rw [if_pos (by omega)] | rw [if_neg (by omega)]); try omega
            refine k _ _ (Or.inr ⟨hw, ?_, hCk⟩)
            rw [AD k0 (by omega)]
            first
            | (rw [if_pos (show k0 = -1 by omega)])
            | (rw [if_neg (show ¬ k0 = -1 by omega), if_neg (show ¬ k0 = -2 by omega)]
               by_cases q : k0 < mD 53 2
               · rw [if_pos (show 0 ≤ k0 ∧ k0 < mD 53 2 by omega), if_pos q]
               · rw [if_neg (show ¬ (0 ≤ k0 ∧ k0 < mD 53 2) by omega), if_neg q])
          · skip
            refine wp_aload_n dd_X10_remainder_74 rfl ?_
            refine wp_getR dd_X10_remainder_75 gf_X10_43 rfl kk_0 (by decide) (zlt rfl) rr_0_5 ?_
            refine wp_getZ 2 rfl dd_X10_remainder_78 gf_X10_217 rfl kk_53 (by decide) (zlt rfl) ?_
            refine wp_goto (tgt := 93) dd_X10_remainder_81 (by decide) ?_
            refine wp_ireturn (st := []) dd_X10_remainder_93 rfl ?_
            have hw : zyM mem a b le v k0 = 0 := by unfold zyM; (repeat first | rw [if_pos (by omega)] | rw [if_neg (by omega)]); try omega
            refine k _ _ (Or.inr ⟨hw, ?_, hCk⟩)
            rw [AD k0 (by omega)]
            first
            | (rw [if_pos (show k0 = -1 by omega)])
            | (rw [if_neg (show ¬ k0 = -1 by omega), if_neg (show ¬ k0 = -2 by omega)]
               by_cases q : k0 < mD 53 2
               · rw [if_pos (show 0 ≤ k0 ∧ k0 < mD 53 2 by omega), if_pos q]
               · rw [if_neg (show ¬ (0 ≤ k0 ∧ k0 < mD 53 2) by omega), if_neg q])
        · skip
          refine wp_aload_n dd_X10_remainder_52 rfl ?_
          refine wp_bipush dd_X10_remainder_53 (by decide) ?_
          refine wp_callV (M' := mm_X10_refuse) (As := [zI (-6)]) (rest := []) dd_X10_remainder_55 lk_X10_76 mV_X10_refuse kk_0 (zlt rfl) ⟨_, _, rfl⟩ rfl (by decide) (by decide) (Nat.le_of_ble_eq_true rfl) rfl (sp_X10_refuse  (-6) (by first | assumption | omega) ?_)
          show zw_Wp l mm_X10_remainder (zS L) 58 [some (zR 0), some (zI a), some (zI b), some (zI le), some (zI v), some (zI k0), some (zI (zyB mem a b le 0))] [zI (-6)] (zCn mem (-6)) 0 0 Q
          refine wp_ireturn (st := []) dd_X10_remainder_58 rfl ?_
          have hw : zyM mem a b le v k0 = (-6) := by unfold zyM; (repeat first | rw [if_pos (by omega)] | rw [if_neg (by omega)]); try omega
          exact k _ _ (Or.inl ⟨by rw [hw]; first | decide | omega, hw.symm, by rw [hw]⟩)
      · skip
        refine wp_aload_n dd_X10_remainder_33 rfl ?_
        refine wp_bipush dd_X10_remainder_34 (by decide) ?_
        refine wp_callV (M' := mm_X10_refuse) (As := [zI (-4)]) (rest := []) dd_X10_remainder_36 lk_X10_76 mV_X10_refuse kk_0 (zlt rfl) ⟨_, _, rfl⟩ rfl (by decide) (by decide) (Nat.le_of_ble_eq_true rfl) rfl (sp_X10_refuse  (-4) (by first | assumption | omega) ?_)
        show zw_Wp l mm_X10_remainder (zS L) 39 [some (zR 0), some (zI a), some (zI b), some (zI le), some (zI v), some (zI k0), some (zI (zyB mem a b le 0))] [zI (-4)] (zCn mem (-4)) 0 0 Q
        refine wp_ireturn (st := []) dd_X10_remainder_39 rfl ?_
        have hw : zyM mem a b le v k0 = (-4) := by unfold zyM; (repeat first | rw [if_pos (by omega)] | rw [if_neg (by omega)]); try omega
        exact k _ _ (Or.inl ⟨by rw [hw]; first | decide | omega, hw.symm, by rw [hw]⟩)
  · skip
    refine wp_aload_n dd_X10_remainder_15 rfl ?_
    refine wp_iload dd_X10_remainder_16 rfl ?_
    refine wp_callV (M' := mm_X10_refuse) (As := [zI (zyB mem a b le 0)]) (rest := []) dd_X10_remainder_18 lk_X10_76 mV_X10_refuse kk_0 (zlt rfl) ⟨_, _, rfl⟩ rfl (by decide) (by decide) (Nat.le_of_ble_eq_true rfl) rfl (sp_X10_refuse  (zyB mem a b le 0) (by first | assumption | omega) ?_)
    show zw_Wp l mm_X10_remainder (zS L) 21 [some (zR 0), some (zI a), some (zI b), some (zI le), some (zI v), some (zI k0), some (zI (zyB mem a b le 0))] [zI (zyB mem a b le 0)] (zCn mem (zyB mem a b le 0)) 0 0 Q
    refine wp_ireturn (st := []) dd_X10_remainder_21 rfl ?_
    have hw : zyM mem a b le v k0 = (zyB mem a b le 0) := by unfold zyM; (repeat first | rw [if_pos (by omega)] | rw [if_neg (by omega)]); try omega
    exact k _ _ (Or.inl ⟨by rw [hw]; first | decide | omega, hw.symm, by rw [hw]⟩)

set_option maxRecDepth 100000 in
set_option maxHeartbeats 4000000 in
theorem sp_X10_common {l : Launch} {L : Nat} {mem : zMem} {Q : zQ}  (a : Int) (b : Int) (le : Int) (v : Int) (hI : zInv mem) (k : ∀ (r : Int) (m1 : zMem), (zAn mem m1 r (zyA mem a b le v) (zrs0 (mem 67 1) (-2) (zsa (zco mem a) le v (mem 67 1)) (zsa (zco mem b) le v (mem 67 1)))) → Q (some (zI r)) (zS L) m1) : zw_Ok l mm_X10_common [zR 0, zI a, zI b, zI le, zI v] (zS L) mem Q := by
  refine zw_okA (fun hA => ?_)
  have rg_a : -2147483648 ≤ a ∧ a < 2147483648 := hA.2.1
  have rg_b : -2147483648 ≤ b ∧ b < 2147483648 := hA.2.2.1
  have rg_le : -2147483648 ≤ le ∧ le < 2147483648 := hA.2.2.2.1
  have rg_v : -2147483648 ≤ v ∧ v < 2147483648 := hA.2.2.2.2.1
  refine zw_enter (by decide) (Nat.le_of_ble_eq_true rfl) rfl ?_
  show zw_Wp l mm_X10_common (zS L) 0 [some (zR 0), some (zI a), some (zI b), some (zI le), some (zI v), none] [] mem 0 0 Q
  obtain ⟨I1, I2, I3, I4, I5, I6, I7⟩ := id hI
  have hp := I1.1
  have hpr := hp.rg
  have e10 := I1.2.1
  have hn5 := I1.2.2.1
  have e11 := I1.2.2.2.1
  refine wp_aload_n dd_X10_common_0 rfl ?_
  refine wp_iload_n dd_X10_common_1 rfl ?_
  refine wp_iload_n dd_X10_common_2 rfl ?_
  refine wp_iload_n dd_X10_common_3 rfl ?_
  refine wp_iload dd_X10_common_4 rfl ?_
  refine wp_callV (M' := mm_X10_atRefusal) (As := [zI a, zI b, zI le, zI v]) (rest := []) dd_X10_common_6 lk_X10_223 mV_X10_atRefusal kk_0 (zlt rfl) ⟨_, _, rfl⟩ rfl (by decide) (by decide) (Nat.le_of_ble_eq_true rfl) rfl (sp_X10_atRefusal  a b le v hI ?_)
  show zw_Wp l mm_X10_common (zS L) 9 [some (zR 0), some (zI a), some (zI b), some (zI le), some (zI v), none] [zI (zyA mem a b le v)] mem 0 0 Q
  have hyc := zyA_c mem a b le v
  refine wp_istore (ls2 := [some (zR 0), some (zI a), some (zI b), some (zI le), some (zI v), some (zI (zyA mem a b le v))]) dd_X10_common_9 rfl (by decide) rfl ?_
  refine wp_iload dd_X10_common_11 rfl ?_
  refine wp_if_eq (tgt := 23) dd_X10_common_13 (by decide) (fun c13_1 => ?_) (fun c13_1 => ?_)
  · skip
    have hz : zyB mem a b le 0 = 0 := by omega
    refine wp_aload_n dd_X10_common_23 rfl ?_
    refine wp_iload_n dd_X10_common_24 rfl ?_
    refine wp_iload_n dd_X10_common_25 rfl ?_
    refine wp_iload_n dd_X10_common_26 rfl ?_
    refine wp_iload dd_X10_common_27 rfl ?_
    refine wp_callV (M' := mm_X10_divideAt) (As := [zI a, zI b, zI le, zI v]) (rest := []) dd_X10_common_29 lk_X10_214 mV_X10_divideAt kk_0 (zlt rfl) ⟨_, _, rfl⟩ rfl (by decide) (by decide) (Nat.le_of_ble_eq_true rfl) rfl (sp_X10_divideAt  a b le v hI hz (by omega) (fun mD nD AD gD => ?_))
    show zw_Wp l mm_X10_common (zS L) 32 [some (zR 0), some (zI a), some (zI b), some (zI le), some (zI v), some (zI (zyA mem a b le v))] [] mD 0 0 Q
    have hCk : zCk mem mD := fun x hx => gD x (by omega)
    refine wp_aload_n dd_X10_common_32 rfl ?_
    refine wp_getR dd_X10_common_33 gf_X10_43 rfl kk_0 (by decide) (zlt rfl) rr_0_5 ?_
    refine wp_callV (M' := mm_X0_lastDegree) (As := []) (rest := []) dd_X10_common_36 lk_X10_226 mV_X0_lastDegree kk_53 (zlt rfl) ⟨_, _, rfl⟩ rfl (by decide) (by decide) (Nat.le_of_ble_eq_true rfl) rfl (sp_X0_lastDegree   (by first | assumption | omega) ?_)
    show zw_Wp l mm_X10_common (zS L) 39 [some (zR 0), some (zI a), some (zI b), some (zI le), some (zI v), some (zI (zyA mem a b le v))] [zI (if 0 < mD 53 2 then mD 56 (mD 53 2 - 1) else -9)] mD 0 0 Q
    refine wp_ireturn (st := []) dd_X10_common_39 rfl ?_
    refine k _ _ (Or.inr ⟨by assumption, ?_, hCk⟩)
    have h9 := AD (-2) (by decide)
    rw [if_neg (show ¬ (-2 : Int) = -1 by decide), if_pos (show (-2 : Int) = -2 from rfl)] at h9
    exact h9.symm
  · skip
    refine wp_aload_n dd_X10_common_16 rfl ?_
    refine wp_iload dd_X10_common_17 rfl ?_
    refine wp_callV (M' := mm_X10_refuse) (As := [zI (zyA mem a b le v)]) (rest := []) dd_X10_common_19 lk_X10_76 mV_X10_refuse kk_0 (zlt rfl) ⟨_, _, rfl⟩ rfl (by decide) (by decide) (Nat.le_of_ble_eq_true rfl) rfl (sp_X10_refuse  (zyA mem a b le v) (by first | assumption | omega) ?_)
    show zw_Wp l mm_X10_common (zS L) 22 [some (zR 0), some (zI a), some (zI b), some (zI le), some (zI v), some (zI (zyA mem a b le v))] [zI (zyA mem a b le v)] (zCn mem (zyA mem a b le v)) 0 0 Q
    refine wp_ireturn (st := []) dd_X10_common_22 rfl ?_
    exact k _ _ (Or.inl ⟨by assumption, rfl, rfl⟩)

set_option maxRecDepth 100000 in
set_option maxHeartbeats 4000000 in
theorem sp_X10_extra {l : Launch} {L : Nat} {mem : zMem} {Q : zQ}  (a : Int) (b : Int) (le : Int) (hI : zInv mem) (k : ∀ (r : Int) (m1 : zMem), (zAn mem m1 r (zyB mem a b le 0) (zrs0 (mem 67 1) (-2) (zld (zco mem a) le) (zld (zco mem b) le))) → Q (some (zI r)) (zS L) m1) : zw_Ok l mm_X10_extra [zR 0, zI a, zI b, zI le] (zS L) mem Q := by
  refine zw_okA (fun hA => ?_)
  have rg_a : -2147483648 ≤ a ∧ a < 2147483648 := hA.2.1
  have rg_b : -2147483648 ≤ b ∧ b < 2147483648 := hA.2.2.1
  have rg_le : -2147483648 ≤ le ∧ le < 2147483648 := hA.2.2.2.1
  refine zw_enter (by decide) (Nat.le_of_ble_eq_true rfl) rfl ?_
  show zw_Wp l mm_X10_extra (zS L) 0 [some (zR 0), some (zI a), some (zI b), some (zI le), none] [] mem 0 0 Q
  obtain ⟨I1, I2, I3, I4, I5, I6, I7⟩ := id hI
  have hp := I1.1
  have hpr := hp.rg
  have e10 := I1.2.1
  have hn5 := I1.2.2.1
  have e11 := I1.2.2.2.1
  refine wp_aload_n dd_X10_extra_0 rfl ?_
  refine wp_iload_n dd_X10_extra_1 rfl ?_
  refine wp_iload_n dd_X10_extra_2 rfl ?_
  refine wp_iload_n dd_X10_extra_3 rfl ?_
  refine wp_iconst dd_X10_extra_4 (zr_lit rfl) ?_
  refine wp_callV (M' := mm_X10_tableRefusal) (As := [zI a, zI b, zI le, zI 0]) (rest := []) dd_X10_extra_5 lk_X10_181 mV_X10_tableRefusal kk_0 (zlt rfl) ⟨_, _, rfl⟩ rfl (by decide) (by decide) (Nat.le_of_ble_eq_true rfl) rfl (sp_X10_tableRefusal  a b le 0 hI ?_)
  show zw_Wp l mm_X10_extra (zS L) 8 [some (zR 0), some (zI a), some (zI b), some (zI le), none] [zI (zyB mem a b le 0)] mem 0 0 Q
  have hyc := zyB_c mem a b le 0
  refine wp_istore (ls2 := [some (zR 0), some (zI a), some (zI b), some (zI le), some (zI (zyB mem a b le 0))]) dd_X10_extra_8 rfl (by decide) rfl ?_
  refine wp_iload dd_X10_extra_10 rfl ?_
  refine wp_if_eq (tgt := 22) dd_X10_extra_12 (by decide) (fun c12_1 => ?_) (fun c12_1 => ?_)
  · skip
    have hz : zyB mem a b le 0 = 0 := by omega
    obtain ⟨⟨hia, hib, hl, htb⟩, hna, hnb⟩ := zyB_0 hz
    have hqa : 0 ≤ a ∧ a < 6 := by omega
    have hqb : 0 ≤ b ∧ b < 6 := by omega
    have hTa := I1.T hia.1 hia.2
    have hTb := I1.T hib.1 hib.2
    have hCa := I1.C hia.1 hia.2
    have hCb := I1.C hib.1 hib.2
    have hcra := zco_rg hp hTa
    have hcrb := zco_rg hp hTb
    have dn1 := zdg_nn (c := zco mem a) hl hna
    have dn2 := zdg_nn (c := zco mem b) hl hnb
    have d41 := zdeg_4 (c := zco mem a) hl
    have d42 := zdeg_4 (c := zco mem b) hl
    have hpta : ∀ x y : Int, 0 ≤ zpt (zco mem a) le x y ∧ zpt (zco mem a) le x y < mem 67 1 := fun x y => zpt_rg (by omega) hcra
    have hptb : ∀ x y : Int, 0 ≤ zpt (zco mem b) le x y ∧ zpt (zco mem b) le x y < mem 67 1 := fun x y => zpt_rg (by omega) hcrb
    have hzoa := zo_rg hqa
    have hzob := zo_rg hqb
    refine wp_aload_n dd_X10_extra_22 rfl ?_
    refine wp_getR dd_X10_extra_23 gf_X10_12 rfl kk_0 (by decide) (zlt rfl) rr_0_0 ?_
    refine wp_getR dd_X10_extra_26 gf_X10_135 rfl kk_1 (by decide) (zlt rfl) rr_1_2 ?_
    refine wp_iload_n dd_X10_extra_29 rfl ?_
    refine wp_aald dd_X10_extra_30 kk_2 (zlt rfl) (by omega) (by omega) (zr2 rfl hqa) ?_
    refine wp_iload_n dd_X10_extra_31 rfl ?_
    refine wp_aload_n dd_X10_extra_32 rfl ?_
    refine wp_getR dd_X10_extra_33 gf_X10_43 rfl kk_0 (by decide) (zlt rfl) rr_0_5 ?_
    refine wp_getR dd_X10_extra_36 gf_X10_229 rfl kk_53 (by decide) (zlt rfl) rr_53_0 ?_
    refine wp_callV (M' := mm_X4_leadingPart) (As := [zI le, zR 54]) (rest := []) dd_X10_extra_39 lk_X10_250 mV_X4_leadingPart (zoP hqa).k (zoP hqa).i ⟨_, _, rfl⟩ rfl (by decide) (by decide) (Nat.le_of_ble_eq_true rfl) rfl (sp_X4_leadingPart  (zo a) le 54 (zoP hqa) hl kk_54 (zlt rfl) (by omega) (fun n1 f1 g1 => ?_))
    show zw_Wp l mm_X10_extra (zS L) 42 [some (zR 0), some (zI a), some (zI b), some (zI le), some (zI (zyB mem a b le 0))] [] n1 0 0 Q
    have hCb1 : zRw n1 (zo b) (zco mem b) := hCb.keep (g1 _ (by omega))
    refine wp_aload_n dd_X10_extra_42 rfl ?_
    refine wp_getR dd_X10_extra_43 gf_X10_12 rfl kk_0 (by decide) (zlt rfl) rr_0_0 ?_
    refine wp_getR dd_X10_extra_46 gf_X10_135 rfl kk_1 (by decide) (zlt rfl) rr_1_2 ?_
    refine wp_iload_n dd_X10_extra_49 rfl ?_
    refine wp_aald dd_X10_extra_50 kk_2 (zlt rfl) (by omega) (by omega) (zr2 rfl hqb) ?_
    refine wp_iload_n dd_X10_extra_51 rfl ?_
    refine wp_aload_n dd_X10_extra_52 rfl ?_
    refine wp_getR dd_X10_extra_53 gf_X10_43 rfl kk_0 (by decide) (zlt rfl) rr_0_5 ?_
    refine wp_getR dd_X10_extra_56 gf_X10_236 rfl kk_53 (by decide) (zlt rfl) rr_53_1 ?_
    refine wp_callV (M' := mm_X4_leadingPart) (As := [zI le, zR 55]) (rest := []) dd_X10_extra_59 lk_X10_250 mV_X4_leadingPart (zoP hqb).k (zoP hqb).i ⟨_, _, rfl⟩ rfl (by decide) (by decide) (Nat.le_of_ble_eq_true rfl) rfl (sp_X4_leadingPart  (zo b) le 55 (zoP hqb) hl kk_55 (zlt rfl) (by omega) (fun n2 f2 g2 => ?_))
    show zw_Wp l mm_X10_extra (zS L) 62 [some (zR 0), some (zI a), some (zI b), some (zI le), some (zI (zyB mem a b le 0))] [] n2 0 0 Q
    have h2 : n2 1 0 = mem 67 1 := by rw [g2 1 (by decide), g1 1 (by decide)]; exact e10
    have r54 : ∀ x : Int, 0 ≤ x → x < 5 → n2 54 x = zld (zco mem a) le x := fun x q1 q2 => by
      rw [g2 54 (by decide), f1 x q1 q2, hCa.deg le, hCa.pt]; rfl
    have r55 : ∀ x : Int, 0 ≤ x → x < 5 → n2 55 x = zld (zco mem b) le x := fun x q1 q2 => by
      rw [f2 x q1 q2, hCb1.deg le, hCb1.pt]; rfl
    refine wp_aload_n dd_X10_extra_62 rfl ?_
    refine wp_getR dd_X10_extra_63 gf_X10_43 rfl kk_0 (by decide) (zlt rfl) rr_0_5 ?_
    refine wp_aload_n dd_X10_extra_66 rfl ?_
    refine wp_getR dd_X10_extra_67 gf_X10_12 rfl kk_0 (by decide) (zlt rfl) rr_0_0 ?_
    refine wp_getZ 0 rfl dd_X10_extra_70 gf_X10_114 rfl kk_1 (by decide) (zlt rfl) ?_
    refine wp_callV (M' := mm_X0_divideOn) (As := [zI (n2 1 0)]) (rest := []) dd_X10_extra_73 lk_X10_254 mV_X0_divideOn kk_53 (zlt rfl) ⟨_, _, rfl⟩ rfl (by decide) (by decide) (Nat.le_of_ble_eq_true rfl) rfl (sp_X0_divideOn  (n2 1 0) (by rw [h2]; exact hp) (fun x q1 q2 => by rw [r54 x q1 q2, h2]; exact hpta _ _) (fun x q1 q2 => by rw [r55 x q1 q2, h2]; exact hptb _ _) (fun n3 nD AD g3 => ?_))
    show zw_Wp l mm_X10_extra (zS L) 76 [some (zR 0), some (zI a), some (zI b), some (zI le), some (zI (zyB mem a b le 0))] [] n3 0 0 Q
    refine wp_aload_n dd_X10_extra_76 rfl ?_
    refine wp_getR dd_X10_extra_77 gf_X10_43 rfl kk_0 (by decide) (zlt rfl) rr_0_5 ?_
    refine wp_callV (M' := mm_X0_lastDegree) (As := []) (rest := []) dd_X10_extra_80 lk_X10_226 mV_X0_lastDegree kk_53 (zlt rfl) ⟨_, _, rfl⟩ rfl (by decide) (by decide) (Nat.le_of_ble_eq_true rfl) rfl (sp_X0_lastDegree   (by first | assumption | omega) ?_)
    show zw_Wp l mm_X10_extra (zS L) 83 [some (zR 0), some (zI a), some (zI b), some (zI le), some (zI (zyB mem a b le 0))] [zI (if 0 < n3 53 2 then n3 56 (n3 53 2 - 1) else -9)] n3 0 0 Q
    refine wp_ireturn (st := []) dd_X10_extra_83 rfl ?_
    refine k _ _ (Or.inr ⟨hz, ?_, fun x hx => ?_⟩)
    · have h9 := AD (-2) (by decide)
      rw [if_neg (show ¬ (-2 : Int) = -1 by decide), if_pos (show (-2 : Int) = -2 from rfl), h2, zrs0_cg r54 r55] at h9
      exact h9.symm
    · rw [g3 x (by omega) (by omega) (by omega) (by omega), g2 x (by omega), g1 x (by omega)]
  · skip
    refine wp_aload_n dd_X10_extra_15 rfl ?_
    refine wp_iload dd_X10_extra_16 rfl ?_
    refine wp_callV (M' := mm_X10_refuse) (As := [zI (zyB mem a b le 0)]) (rest := []) dd_X10_extra_18 lk_X10_76 mV_X10_refuse kk_0 (zlt rfl) ⟨_, _, rfl⟩ rfl (by decide) (by decide) (Nat.le_of_ble_eq_true rfl) rfl (sp_X10_refuse  (zyB mem a b le 0) (by first | assumption | omega) ?_)
    show zw_Wp l mm_X10_extra (zS L) 21 [some (zR 0), some (zI a), some (zI b), some (zI le), some (zI (zyB mem a b le 0))] [zI (zyB mem a b le 0)] (zCn mem (zyB mem a b le 0)) 0 0 Q
    refine wp_ireturn (st := []) dd_X10_extra_21 rfl ?_
    exact k _ _ (Or.inl ⟨by assumption, rfl, rfl⟩)

set_option maxRecDepth 100000 in
set_option maxHeartbeats 4000000 in
theorem sp_X10_zeros {l : Launch} {L : Nat} {mem : zMem} {Q : zQ}  (a : Int) (b : Int) (le : Int) (hI : zInv mem) (k : ∀ (r : Int) (m1 : zMem), (zAn mem m1 r (zyB mem a b le 0) (zzs (fun v => zhr (zre mem a b le 0) v (mem 67 1) 41 41) (mem 67 1).toNat)) → Q (some (zI r)) (zS L) m1) : zw_Ok l mm_X10_zeros [zR 0, zI a, zI b, zI le] (zS L) mem Q := by
  refine zw_okA (fun hA => ?_)
  have rg_a : -2147483648 ≤ a ∧ a < 2147483648 := hA.2.1
  have rg_b : -2147483648 ≤ b ∧ b < 2147483648 := hA.2.2.1
  have rg_le : -2147483648 ≤ le ∧ le < 2147483648 := hA.2.2.2.1
  refine zw_enter (by decide) (Nat.le_of_ble_eq_true rfl) rfl ?_
  show zw_Wp l mm_X10_zeros (zS L) 0 [some (zR 0), some (zI a), some (zI b), some (zI le), none, none, none] [] mem 0 0 Q
  obtain ⟨I1, I2, I3, I4, I5, I6, I7⟩ := id hI
  have hp := I1.1
  have hpr := hp.rg
  have e10 := I1.2.1
  have hn5 := I1.2.2.1
  have e11 := I1.2.2.2.1
  refine wp_aload_n dd_X10_zeros_0 rfl ?_
  refine wp_iload_n dd_X10_zeros_1 rfl ?_
  refine wp_iload_n dd_X10_zeros_2 rfl ?_
  refine wp_iload_n dd_X10_zeros_3 rfl ?_
  refine wp_iconst dd_X10_zeros_4 (zr_lit rfl) ?_
  refine wp_callV (M' := mm_X10_tableRefusal) (As := [zI a, zI b, zI le, zI 0]) (rest := []) dd_X10_zeros_5 lk_X10_181 mV_X10_tableRefusal kk_0 (zlt rfl) ⟨_, _, rfl⟩ rfl (by decide) (by decide) (Nat.le_of_ble_eq_true rfl) rfl (sp_X10_tableRefusal  a b le 0 hI ?_)
  show zw_Wp l mm_X10_zeros (zS L) 8 [some (zR 0), some (zI a), some (zI b), some (zI le), none, none, none] [zI (zyB mem a b le 0)] mem 0 0 Q
  have hyc := zyB_c mem a b le 0
  refine wp_istore (ls2 := [some (zR 0), some (zI a), some (zI b), some (zI le), some (zI (zyB mem a b le 0)), none, none]) dd_X10_zeros_8 rfl (by decide) rfl ?_
  refine wp_iload dd_X10_zeros_10 rfl ?_
  refine wp_if_eq (tgt := 22) dd_X10_zeros_12 (by decide) (fun c12_1 => ?_) (fun c12_1 => ?_)
  · skip
    have hz : zyB mem a b le 0 = 0 := by omega
    refine wp_aload_n dd_X10_zeros_22 rfl ?_
    refine wp_iload_n dd_X10_zeros_23 rfl ?_
    refine wp_iload_n dd_X10_zeros_24 rfl ?_
    refine wp_iload_n dd_X10_zeros_25 rfl ?_
    refine wp_iconst dd_X10_zeros_26 (zr_lit rfl) ?_
    refine wp_callV (M' := mm_X10_solve) (As := [zI a, zI b, zI le, zI 0]) (rest := []) dd_X10_zeros_27 lk_X10_196 mV_X10_solve kk_0 (zlt rfl) ⟨_, _, rfl⟩ rfl (by decide) (by decide) (Nat.le_of_ble_eq_true rfl) rfl (sp_X10_solve  a b le 0 hI hz (fun mS fS gS => ?_))
    show zw_Wp l mm_X10_zeros (zS L) 30 [some (zR 0), some (zI a), some (zI b), some (zI le), some (zI (zyB mem a b le 0)), none, none] [] mS 0 0 Q
    have s10 : mS 1 0 = mem 67 1 := by rw [gS 1 (by decide)]; exact e10
    have hCk : zCk mem mS := fun x hx => gS x (by omega)
    have hrS : ∀ d : Int, 0 ≤ d → d < ((41 : Nat) : Int) → 0 ≤ mS 49 d ∧ mS 49 d ≤ 31 := fun d q1 q2 => by rw [fS d q1 (by omega)]; have := zre_rg (a := a) (b := b) (le := le) (tb := 0) (d := d) hp; omega
    refine wp_iconst dd_X10_zeros_30 (zr_lit rfl) ?_
    refine wp_istore (ls2 := [some (zR 0), some (zI a), some (zI b), some (zI le), some (zI (zyB mem a b le 0)), some (zI 0), none]) dd_X10_zeros_31 rfl (by decide) rfl ?_
    refine wp_iconst dd_X10_zeros_33 (zr_lit rfl) ?_
    refine wp_istore (ls2 := [some (zR 0), some (zI a), some (zI b), some (zI le), some (zI (zyB mem a b le 0)), some (zI 0), some (zI 0)]) dd_X10_zeros_34 rfl (by decide) rfl ?_
    have lp36 : ∀ (nf : Nat) (w : Int) (v : Int), (0 ≤ v) → (v ≤ mem 67 1) → (w = zzs (fun v => zhr (zre mem a b le 0) v (mem 67 1) 41 41) v.toNat) → (mem 67 1 - v) < (nf : Int) → zw_Wp l mm_X10_zeros (zS L) 36 [some (zR 0), some (zI a), some (zI b), some (zI le), some (zI (zyB mem a b le 0)), some (zI w), some (zI v)] [] mS 0 0 Q := by
      intro nf
      induction nf with
      | zero =>
        intro w v h0 h1 h2 hmu
        exfalso; omega
      | succ nf ih36 =>
        intro w v h0 h1 h2 hmu
        have h2x := fun q => z2_le (n := v) h0 q
        have hwr : zw_r32 w := by rw [h2]; exact zzs_rg _ _
        have he : zhr (mS 49) v (mS 1 0) 41 41 = zhr (zre mem a b le 0) v (mem 67 1) 41 41 := by rw [s10]; exact zhr_cg (fun x q1 q2 => fS x q1 q2) 41 (by omega)
        refine wp_iload dd_X10_zeros_36 rfl ?_
        refine wp_aload_n dd_X10_zeros_38 rfl ?_
        refine wp_getR dd_X10_zeros_39 gf_X10_12 rfl kk_0 (by decide) (zlt rfl) rr_0_0 ?_
        refine wp_getZ 0 rfl dd_X10_zeros_42 gf_X10_114 rfl kk_1 (by decide) (zlt rfl) ?_
        refine wp_icmp_ge (tgt := 85) dd_X10_zeros_45 (by decide) (fun c45_2 => ?_) (fun c45_2 => ?_)
        · skip
          refine wp_iload dd_X10_zeros_85 rfl ?_
          refine wp_ireturn (st := []) dd_X10_zeros_87 rfl ?_
          exact k _ _ (Or.inr ⟨hz, by rw [h2, show v = mem 67 1 by omega], hCk⟩)
        · skip
          refine wp_aload_n dd_X10_zeros_48 rfl ?_
          refine wp_getR dd_X10_zeros_49 gf_X10_36 rfl kk_0 (by decide) (zlt rfl) rr_0_4 ?_
          refine wp_getR dd_X10_zeros_52 gf_X10_200 rfl kk_48 (by decide) (zlt rfl) rr_48_0 ?_
          refine wp_iload dd_X10_zeros_55 rfl ?_
          refine wp_aload_n dd_X10_zeros_57 rfl ?_
          refine wp_getR dd_X10_zeros_58 gf_X10_12 rfl kk_0 (by decide) (zlt rfl) rr_0_0 ?_
          refine wp_getZ 0 rfl dd_X10_zeros_61 gf_X10_114 rfl kk_1 (by decide) (zlt rfl) ?_
          refine wp_callS (M' := mm_X2_valueAt) (As := [zR 49, zI v, zI (mS 1 0)]) (rest := []) dd_X10_zeros_64 lk_X10_210 mS_X2_valueAt rfl (by decide) (by decide) (Nat.le_of_ble_eq_true rfl) rfl (sp_X2_valueAt  49 v (mS 1 0) kk_49 (zlt rfl) (by decide) (by rw [s10]; exact hpr) (by omega) hrS ?_)
          show zw_Wp l mm_X10_zeros (zS L) 67 [some (zR 0), some (zI a), some (zI b), some (zI le), some (zI (zyB mem a b le 0)), some (zI w), some (zI v)] [zI (zhr (mS 49) v (mS 1 0) 41 41)] mS 0 0 Q
          refine wp_if_ne (tgt := 79) dd_X10_zeros_67 (by decide) (fun c67_3 => ?_) (fun c67_3 => ?_)
          · skip
            refine wp_iincC (ls2 := [some (zR 0), some (zI a), some (zI b), some (zI le), some (zI (zyB mem a b le 0)), some (zI w), some (zI (v + 1))]) dd_X10_zeros_79 rfl rfl (by decide) (by omega) rfl ?_
            refine wp_goto (tgt := 36) dd_X10_zeros_82 (by decide) ?_
            refine ih36 w (v + 1) ?_ ?_ ?_ ?_
            · first | omega | assumption | (intros; omega)
            · first | omega | assumption | (intros; omega)
            · rw [show (v + 1).toNat = v.toNat + 1 by omega, zzs, show ((v.toNat : Nat) : Int) = v by omega, ← h2]
              first
              | (rw [if_pos (by rw [← he]; assumption)]; rfl)
              | (rw [if_neg (by rw [← he]; assumption)]; exact (zbor_0 hwr).symm)
            · omega
          · skip
            refine wp_iload dd_X10_zeros_70 rfl ?_
            refine wp_iconst dd_X10_zeros_72 (zr_lit rfl) ?_
            refine wp_iload dd_X10_zeros_73 rfl ?_
            refine wp_ishlP dd_X10_zeros_75 (by decide) (by omega) (h2x (by omega)).2 ?_
            refine wp_ior dd_X10_zeros_76 ?_
            refine wp_istore (ls2 := [some (zR 0), some (zI a), some (zI b), some (zI le), some (zI (zyB mem a b le 0)), some (zI ((Int32.ofInt w ||| Int32.ofInt (1 * 2 ^ v.toNat)).toInt)), some (zI v)]) dd_X10_zeros_77 rfl (by decide) rfl ?_
            refine wp_iincC (ls2 := [some (zR 0), some (zI a), some (zI b), some (zI le), some (zI (zyB mem a b le 0)), some (zI ((Int32.ofInt w ||| Int32.ofInt (1 * 2 ^ v.toNat)).toInt)), some (zI (v + 1))]) dd_X10_zeros_79 rfl rfl (by decide) (by omega) rfl ?_
            refine wp_goto (tgt := 36) dd_X10_zeros_82 (by decide) ?_
            refine ih36 ((Int32.ofInt w ||| Int32.ofInt (1 * 2 ^ v.toNat)).toInt) (v + 1) ?_ ?_ ?_ ?_
            · first | omega | assumption | (intros; omega)
            · first | omega | assumption | (intros; omega)
            · rw [show (v + 1).toNat = v.toNat + 1 by omega, zzs, show ((v.toNat : Nat) : Int) = v by omega, ← h2]
              first
              | (rw [if_pos (by rw [← he]; assumption)]; rfl)
              | (rw [if_neg (by rw [← he]; assumption)]; exact (zbor_0 hwr).symm)
            · omega
    refine lp36 ((mem 67 1 - 0 : Int)).toNat.succ 0 0 ?_ ?_ ?_ ?_
    · first | omega | assumption | (intros; omega)
    · first | omega | assumption | (intros; omega)
    · rfl
    · omega
  · skip
    refine wp_aload_n dd_X10_zeros_15 rfl ?_
    refine wp_iload dd_X10_zeros_16 rfl ?_
    refine wp_callV (M' := mm_X10_refuse) (As := [zI (zyB mem a b le 0)]) (rest := []) dd_X10_zeros_18 lk_X10_76 mV_X10_refuse kk_0 (zlt rfl) ⟨_, _, rfl⟩ rfl (by decide) (by decide) (Nat.le_of_ble_eq_true rfl) rfl (sp_X10_refuse  (zyB mem a b le 0) (by first | assumption | omega) ?_)
    show zw_Wp l mm_X10_zeros (zS L) 21 [some (zR 0), some (zI a), some (zI b), some (zI le), some (zI (zyB mem a b le 0)), none, none] [zI (zyB mem a b le 0)] (zCn mem (zyB mem a b le 0)) 0 0 Q
    refine wp_ireturn (st := []) dd_X10_zeros_21 rfl ?_
    exact k _ _ (Or.inl ⟨by assumption, rfl, rfl⟩)

set_option maxRecDepth 100000 in
set_option maxHeartbeats 4000000 in
theorem sp_X10_lifted {l : Launch} {L : Nat} {mem : zMem} {Q : zQ}  (a : Int) (b : Int) (le : Int) (hI : zInv mem) (k : ∀ (r : Int) (m1 : zMem), (zAn mem m1 r (zyF mem a b le) (zbX (zri (zco mem a) (zco mem b) (mem 67 1)) le (mem 67 1) (mem 67 1).toNat)) → Q (some (zI r)) (zS L) m1) : zw_Ok l mm_X10_lifted [zR 0, zI a, zI b, zI le] (zS L) mem Q := by
  refine zw_okA (fun hA => ?_)
  have rg_a : -2147483648 ≤ a ∧ a < 2147483648 := hA.2.1
  have rg_b : -2147483648 ≤ b ∧ b < 2147483648 := hA.2.2.1
  have rg_le : -2147483648 ≤ le ∧ le < 2147483648 := hA.2.2.2.1
  refine zw_enter (by decide) (Nat.le_of_ble_eq_true rfl) rfl ?_
  show zw_Wp l mm_X10_lifted (zS L) 0 [some (zR 0), some (zI a), some (zI b), some (zI le)] [] mem 0 0 Q
  obtain ⟨I1, I2, I3, I4, I5, I6, I7⟩ := id hI
  have hp := I1.1
  have hpr := hp.rg
  have e10 := I1.2.1
  have hn5 := I1.2.2.1
  have e11 := I1.2.2.2.1
  refine wp_aload_n dd_X10_lifted_0 rfl ?_
  refine wp_getR dd_X10_lifted_1 gf_X10_12 rfl kk_0 (by decide) (zlt rfl) rr_0_0 ?_
  refine wp_iload_n dd_X10_lifted_4 rfl ?_
  refine wp_callV (M' := mm_X8_has) (As := [zI a]) (rest := []) dd_X10_lifted_5 lk_X10_132 mV_X8_has kk_1 (zlt rfl) ⟨_, _, rfl⟩ rfl (by decide) (by decide) (Nat.le_of_ble_eq_true rfl) rfl (sp_X8_has  a  ?_)
  show zw_Wp l mm_X10_lifted (zS L) 8 [some (zR 0), some (zI a), some (zI b), some (zI le)] [zI (if 0 ≤ a ∧ a < mem 1 1 then 1 else 0)] mem 0 0 Q
  refine wp_if_eq (tgt := 29) dd_X10_lifted_8 (by decide) (fun c8_1 => ?_) (fun c8_1 => ?_)
  · skip
    refine wp_aload_n dd_X10_lifted_29 rfl ?_
    refine wp_iconst dd_X10_lifted_30 (zr_lit rfl) ?_
    refine wp_callV (M' := mm_X10_refuse) (As := [zI (-1)]) (rest := []) dd_X10_lifted_31 lk_X10_76 mV_X10_refuse kk_0 (zlt rfl) ⟨_, _, rfl⟩ rfl (by decide) (by decide) (Nat.le_of_ble_eq_true rfl) rfl (sp_X10_refuse  (-1) (by first | assumption | omega) ?_)
    show zw_Wp l mm_X10_lifted (zS L) 34 [some (zR 0), some (zI a), some (zI b), some (zI le)] [zI (-1)] (zCn mem (-1)) 0 0 Q
    refine wp_ireturn (st := []) dd_X10_lifted_34 rfl ?_
    have hw : zyF mem a b le = (-1) := by unfold zyF; (repeat first | rw [if_pos (by omega)] | rw [if_neg (by omega)]); try omega
    exact k _ _ (Or.inl ⟨by rw [hw]; first | decide | omega, hw.symm, by rw [hw]⟩)
  · skip
    refine wp_aload_n dd_X10_lifted_11 rfl ?_
    refine wp_getR dd_X10_lifted_12 gf_X10_12 rfl kk_0 (by decide) (zlt rfl) rr_0_0 ?_
    refine wp_iload_n dd_X10_lifted_15 rfl ?_
    refine wp_callV (M' := mm_X8_has) (As := [zI b]) (rest := []) dd_X10_lifted_16 lk_X10_132 mV_X8_has kk_1 (zlt rfl) ⟨_, _, rfl⟩ rfl (by decide) (by decide) (Nat.le_of_ble_eq_true rfl) rfl (sp_X8_has  b  ?_)
    show zw_Wp l mm_X10_lifted (zS L) 19 [some (zR 0), some (zI a), some (zI b), some (zI le)] [zI (if 0 ≤ b ∧ b < mem 1 1 then 1 else 0)] mem 0 0 Q
    refine wp_if_eq (tgt := 29) dd_X10_lifted_19 (by decide) (fun c19_2 => ?_) (fun c19_2 => ?_)
    · skip
      refine wp_aload_n dd_X10_lifted_29 rfl ?_
      refine wp_iconst dd_X10_lifted_30 (zr_lit rfl) ?_
      refine wp_callV (M' := mm_X10_refuse) (As := [zI (-1)]) (rest := []) dd_X10_lifted_31 lk_X10_76 mV_X10_refuse kk_0 (zlt rfl) ⟨_, _, rfl⟩ rfl (by decide) (by decide) (Nat.le_of_ble_eq_true rfl) rfl (sp_X10_refuse  (-1) (by first | assumption | omega) ?_)
      show zw_Wp l mm_X10_lifted (zS L) 34 [some (zR 0), some (zI a), some (zI b), some (zI le)] [zI (-1)] (zCn mem (-1)) 0 0 Q
      refine wp_ireturn (st := []) dd_X10_lifted_34 rfl ?_
      have hw : zyF mem a b le = (-1) := by unfold zyF; (repeat first | rw [if_pos (by omega)] | rw [if_neg (by omega)]); try omega
      exact k _ _ (Or.inl ⟨by rw [hw]; first | decide | omega, hw.symm, by rw [hw]⟩)
    · skip
      refine wp_iload_n dd_X10_lifted_22 rfl ?_
      refine wp_callS (M' := mm_X10_isLetter) (As := [zI le]) (rest := []) dd_X10_lifted_23 lk_X10_257 mS_X10_isLetter rfl (by decide) (by decide) (Nat.le_of_ble_eq_true rfl) rfl (sp_X10_isLetter  le  ?_)
      show zw_Wp l mm_X10_lifted (zS L) 26 [some (zR 0), some (zI a), some (zI b), some (zI le)] [zI (if le = 0 ∨ le = 1 then 1 else 0)] mem 0 0 Q
      refine wp_if_ne (tgt := 35) dd_X10_lifted_26 (by decide) (fun c26_3 => ?_) (fun c26_3 => ?_)
      · skip
        refine wp_aload_n dd_X10_lifted_35 rfl ?_
        refine wp_iload_n dd_X10_lifted_36 rfl ?_
        refine wp_iload_n dd_X10_lifted_37 rfl ?_
        refine wp_bipush dd_X10_lifted_38 (by decide) ?_
        refine wp_callV (M' := mm_X10_tryAll) (As := [zI a, zI b, zI (-9)]) (rest := []) dd_X10_lifted_40 lk_X10_260 mV_X10_tryAll kk_0 (zlt rfl) ⟨_, _, rfl⟩ rfl (by decide) (by decide) (Nat.le_of_ble_eq_true rfl) rfl (sp_X10_tryAll  a b (-9) hI (by omega) (fun mT fT gT => ?_))
        show zw_Wp l mm_X10_lifted (zS L) 43 [some (zR 0), some (zI a), some (zI b), some (zI le)] [] mT 0 0 Q
        have hCk : zCk mem mT := fun x hx => gT x (by omega)
        refine wp_iload_n dd_X10_lifted_43 rfl ?_
        refine wp_if_ne (tgt := 57) dd_X10_lifted_44 (by decide) (fun c44_4 => ?_) (fun c44_4 => ?_)
        · skip
          refine wp_aload_n dd_X10_lifted_57 rfl ?_
          refine wp_getR dd_X10_lifted_58 gf_X10_57 rfl kk_0 (by decide) (zlt rfl) rr_0_7 ?_
          refine wp_getZ 3 rfl dd_X10_lifted_61 gf_X10_266 rfl kk_60 (by decide) (zlt rfl) ?_
          refine wp_ireturn (st := []) dd_X10_lifted_64 rfl ?_
          have hw : zyF mem a b le = 0 := by unfold zyF; (repeat first | rw [if_pos (by omega)] | rw [if_neg (by omega)]); try omega
          refine k _ _ (Or.inr ⟨hw, ?_, hCk⟩)
          first | (rw [show le = 0 by omega]; exact fT.2.2.2.2) | (rw [show le = 1 by omega]; exact fT.2.2.2.1)
        · skip
          refine wp_aload_n dd_X10_lifted_47 rfl ?_
          refine wp_getR dd_X10_lifted_48 gf_X10_57 rfl kk_0 (by decide) (zlt rfl) rr_0_7 ?_
          refine wp_getZ 4 rfl dd_X10_lifted_51 gf_X10_263 rfl kk_60 (by decide) (zlt rfl) ?_
          refine wp_goto (tgt := 64) dd_X10_lifted_54 (by decide) ?_
          refine wp_ireturn (st := []) dd_X10_lifted_64 rfl ?_
          have hw : zyF mem a b le = 0 := by unfold zyF; (repeat first | rw [if_pos (by omega)] | rw [if_neg (by omega)]); try omega
          refine k _ _ (Or.inr ⟨hw, ?_, hCk⟩)
          first | (rw [show le = 0 by omega]; exact fT.2.2.2.2) | (rw [show le = 1 by omega]; exact fT.2.2.2.1)
      · skip
        refine wp_aload_n dd_X10_lifted_29 rfl ?_
        refine wp_iconst dd_X10_lifted_30 (zr_lit rfl) ?_
        refine wp_callV (M' := mm_X10_refuse) (As := [zI (-1)]) (rest := []) dd_X10_lifted_31 lk_X10_76 mV_X10_refuse kk_0 (zlt rfl) ⟨_, _, rfl⟩ rfl (by decide) (by decide) (Nat.le_of_ble_eq_true rfl) rfl (sp_X10_refuse  (-1) (by first | assumption | omega) ?_)
        show zw_Wp l mm_X10_lifted (zS L) 34 [some (zR 0), some (zI a), some (zI b), some (zI le)] [zI (-1)] (zCn mem (-1)) 0 0 Q
        refine wp_ireturn (st := []) dd_X10_lifted_34 rfl ?_
        have hw : zyF mem a b le = (-1) := by unfold zyF; (repeat first | rw [if_pos (by omega)] | rw [if_neg (by omega)]); try omega
        exact k _ _ (Or.inl ⟨by rw [hw]; first | decide | omega, hw.symm, by rw [hw]⟩)

set_option maxRecDepth 100000 in
set_option maxHeartbeats 4000000 in
theorem sp_X10_root {l : Launch} {L : Nat} {mem : zMem} {Q : zQ}  (a : Int) (b : Int) (k0 : Int) (hI : zInv mem) (k : ∀ (r : Int) (m1 : zMem), (zAn mem m1 r (zyG mem a b k0) (if k0 = -1 then zcX (zri (zco mem a) (zco mem b) (mem 67 1)) (mem 67 1) (mem 67 1).toNat else zRX (zri (zco mem a) (zco mem b) (mem 67 1)) (mem 67 1) (mem 67 1).toNat k0)) → Q (some (zI r)) (zS L) m1) : zw_Ok l mm_X10_root [zR 0, zI a, zI b, zI k0] (zS L) mem Q := by
  refine zw_okA (fun hA => ?_)
  have rg_a : -2147483648 ≤ a ∧ a < 2147483648 := hA.2.1
  have rg_b : -2147483648 ≤ b ∧ b < 2147483648 := hA.2.2.1
  have rg_k0 : -2147483648 ≤ k0 ∧ k0 < 2147483648 := hA.2.2.2.1
  refine zw_enter (by decide) (Nat.le_of_ble_eq_true rfl) rfl ?_
  show zw_Wp l mm_X10_root (zS L) 0 [some (zR 0), some (zI a), some (zI b), some (zI k0)] [] mem 0 0 Q
  obtain ⟨I1, I2, I3, I4, I5, I6, I7⟩ := id hI
  have hp := I1.1
  have hpr := hp.rg
  have e10 := I1.2.1
  have hn5 := I1.2.2.1
  have e11 := I1.2.2.2.1
  refine wp_aload_n dd_X10_root_0 rfl ?_
  refine wp_getR dd_X10_root_1 gf_X10_12 rfl kk_0 (by decide) (zlt rfl) rr_0_0 ?_
  refine wp_iload_n dd_X10_root_4 rfl ?_
  refine wp_callV (M' := mm_X8_has) (As := [zI a]) (rest := []) dd_X10_root_5 lk_X10_132 mV_X8_has kk_1 (zlt rfl) ⟨_, _, rfl⟩ rfl (by decide) (by decide) (Nat.le_of_ble_eq_true rfl) rfl (sp_X8_has  a  ?_)
  show zw_Wp l mm_X10_root (zS L) 8 [some (zR 0), some (zI a), some (zI b), some (zI k0)] [zI (if 0 ≤ a ∧ a < mem 1 1 then 1 else 0)] mem 0 0 Q
  refine wp_if_eq (tgt := 22) dd_X10_root_8 (by decide) (fun c8_1 => ?_) (fun c8_1 => ?_)
  · skip
    refine wp_aload_n dd_X10_root_22 rfl ?_
    refine wp_iconst dd_X10_root_23 (zr_lit rfl) ?_
    refine wp_callV (M' := mm_X10_refuse) (As := [zI (-1)]) (rest := []) dd_X10_root_24 lk_X10_76 mV_X10_refuse kk_0 (zlt rfl) ⟨_, _, rfl⟩ rfl (by decide) (by decide) (Nat.le_of_ble_eq_true rfl) rfl (sp_X10_refuse  (-1) (by first | assumption | omega) ?_)
    show zw_Wp l mm_X10_root (zS L) 27 [some (zR 0), some (zI a), some (zI b), some (zI k0)] [zI (-1)] (zCn mem (-1)) 0 0 Q
    refine wp_ireturn (st := []) dd_X10_root_27 rfl ?_
    have hw : zyG mem a b k0 = (-1) := by unfold zyG; (repeat first | rw [if_pos (by omega)] | rw [if_neg (by omega)]); try omega
    exact k _ _ (Or.inl ⟨by rw [hw]; first | decide | omega, hw.symm, by rw [hw]⟩)
  · skip
    refine wp_aload_n dd_X10_root_11 rfl ?_
    refine wp_getR dd_X10_root_12 gf_X10_12 rfl kk_0 (by decide) (zlt rfl) rr_0_0 ?_
    refine wp_iload_n dd_X10_root_15 rfl ?_
    refine wp_callV (M' := mm_X8_has) (As := [zI b]) (rest := []) dd_X10_root_16 lk_X10_132 mV_X8_has kk_1 (zlt rfl) ⟨_, _, rfl⟩ rfl (by decide) (by decide) (Nat.le_of_ble_eq_true rfl) rfl (sp_X8_has  b  ?_)
    show zw_Wp l mm_X10_root (zS L) 19 [some (zR 0), some (zI a), some (zI b), some (zI k0)] [zI (if 0 ≤ b ∧ b < mem 1 1 then 1 else 0)] mem 0 0 Q
    refine wp_if_ne (tgt := 28) dd_X10_root_19 (by decide) (fun c19_2 => ?_) (fun c19_2 => ?_)
    · skip
      refine wp_iload_n dd_X10_root_28 rfl ?_
      refine wp_iconst dd_X10_root_29 (zr_lit rfl) ?_
      refine wp_icmp_ge (tgt := 40) dd_X10_root_30 (by decide) (fun c30_3 => ?_) (fun c30_3 => ?_)
      · skip
        refine wp_aload_n dd_X10_root_40 rfl ?_
        refine wp_iload_n dd_X10_root_41 rfl ?_
        refine wp_iload_n dd_X10_root_42 rfl ?_
        refine wp_iload_n dd_X10_root_43 rfl ?_
        refine wp_callV (M' := mm_X10_tryAll) (As := [zI a, zI b, zI k0]) (rest := []) dd_X10_root_44 lk_X10_260 mV_X10_tryAll kk_0 (zlt rfl) ⟨_, _, rfl⟩ rfl (by decide) (by decide) (Nat.le_of_ble_eq_true rfl) rfl (sp_X10_tryAll  a b k0 hI (by omega) (fun mT fT gT => ?_))
        show zw_Wp l mm_X10_root (zS L) 47 [some (zR 0), some (zI a), some (zI b), some (zI k0)] [] mT 0 0 Q
        have hCk : zCk mem mT := fun x hx => gT x (by omega)
        refine wp_iload_n dd_X10_root_47 rfl ?_
        refine wp_iconst dd_X10_root_48 (zr_lit rfl) ?_
        refine wp_icmp_ne (tgt := 62) dd_X10_root_49 (by decide) (fun c49_4 => ?_) (fun c49_4 => ?_)
        · skip
          refine wp_aload_n dd_X10_root_62 rfl ?_
          refine wp_getR dd_X10_root_63 gf_X10_57 rfl kk_0 (by decide) (zlt rfl) rr_0_7 ?_
          refine wp_getZ 2 rfl dd_X10_root_66 gf_X10_272 rfl kk_60 (by decide) (zlt rfl) ?_
          refine wp_ireturn (st := []) dd_X10_root_69 rfl ?_
          have hw : zyG mem a b k0 = 0 := by unfold zyG; (repeat first | rw [if_pos (by omega)] | rw [if_neg (by omega)]); try omega
          refine k _ _ (Or.inr ⟨hw, ?_, hCk⟩)
          first | (rw [if_pos (by omega)]; exact fT.1) | (rw [if_neg (by omega)]; exact fT.2.2.1 (by omega))
        · skip
          refine wp_aload_n dd_X10_root_52 rfl ?_
          refine wp_getR dd_X10_root_53 gf_X10_57 rfl kk_0 (by decide) (zlt rfl) rr_0_7 ?_
          refine wp_getZ 0 rfl dd_X10_root_56 gf_X10_269 rfl kk_60 (by decide) (zlt rfl) ?_
          refine wp_goto (tgt := 69) dd_X10_root_59 (by decide) ?_
          refine wp_ireturn (st := []) dd_X10_root_69 rfl ?_
          have hw : zyG mem a b k0 = 0 := by unfold zyG; (repeat first | rw [if_pos (by omega)] | rw [if_neg (by omega)]); try omega
          refine k _ _ (Or.inr ⟨hw, ?_, hCk⟩)
          first | (rw [if_pos (by omega)]; exact fT.1) | (rw [if_neg (by omega)]; exact fT.2.2.1 (by omega))
      · skip
        refine wp_aload_n dd_X10_root_33 rfl ?_
        refine wp_bipush dd_X10_root_34 (by decide) ?_
        refine wp_callV (M' := mm_X10_refuse) (As := [zI (-4)]) (rest := []) dd_X10_root_36 lk_X10_76 mV_X10_refuse kk_0 (zlt rfl) ⟨_, _, rfl⟩ rfl (by decide) (by decide) (Nat.le_of_ble_eq_true rfl) rfl (sp_X10_refuse  (-4) (by first | assumption | omega) ?_)
        show zw_Wp l mm_X10_root (zS L) 39 [some (zR 0), some (zI a), some (zI b), some (zI k0)] [zI (-4)] (zCn mem (-4)) 0 0 Q
        refine wp_ireturn (st := []) dd_X10_root_39 rfl ?_
        have hw : zyG mem a b k0 = (-4) := by unfold zyG; (repeat first | rw [if_pos (by omega)] | rw [if_neg (by omega)]); try omega
        exact k _ _ (Or.inl ⟨by rw [hw]; first | decide | omega, hw.symm, by rw [hw]⟩)
    · skip
      refine wp_aload_n dd_X10_root_22 rfl ?_
      refine wp_iconst dd_X10_root_23 (zr_lit rfl) ?_
      refine wp_callV (M' := mm_X10_refuse) (As := [zI (-1)]) (rest := []) dd_X10_root_24 lk_X10_76 mV_X10_refuse kk_0 (zlt rfl) ⟨_, _, rfl⟩ rfl (by decide) (by decide) (Nat.le_of_ble_eq_true rfl) rfl (sp_X10_refuse  (-1) (by first | assumption | omega) ?_)
      show zw_Wp l mm_X10_root (zS L) 27 [some (zR 0), some (zI a), some (zI b), some (zI k0)] [zI (-1)] (zCn mem (-1)) 0 0 Q
      refine wp_ireturn (st := []) dd_X10_root_27 rfl ?_
      have hw : zyG mem a b k0 = (-1) := by unfold zyG; (repeat first | rw [if_pos (by omega)] | rw [if_neg (by omega)]); try omega
      exact k _ _ (Or.inl ⟨by rw [hw]; first | decide | omega, hw.symm, by rw [hw]⟩)

set_option maxRecDepth 100000 in
set_option maxHeartbeats 4000000 in
theorem sp_X10_without {l : Launch} {L : Nat} {mem : zMem} {Q : zQ}  (a : Int) (b : Int) (hI : zInv mem) (k : ∀ (r : Int) (m1 : zMem), (zAn mem m1 r (zyG mem a b 0) (zcX (znz (zri (zco mem a) (zco mem b) (mem 67 1))) (mem 67 1) (mem 67 1).toNat)) → Q (some (zI r)) (zS L) m1) : zw_Ok l mm_X10_without [zR 0, zI a, zI b] (zS L) mem Q := by
  refine zw_okA (fun hA => ?_)
  have rg_a : -2147483648 ≤ a ∧ a < 2147483648 := hA.2.1
  have rg_b : -2147483648 ≤ b ∧ b < 2147483648 := hA.2.2.1
  refine zw_enter (by decide) (Nat.le_of_ble_eq_true rfl) rfl ?_
  show zw_Wp l mm_X10_without (zS L) 0 [some (zR 0), some (zI a), some (zI b)] [] mem 0 0 Q
  obtain ⟨I1, I2, I3, I4, I5, I6, I7⟩ := id hI
  have hp := I1.1
  have hpr := hp.rg
  have e10 := I1.2.1
  have hn5 := I1.2.2.1
  have e11 := I1.2.2.2.1
  refine wp_aload_n dd_X10_without_0 rfl ?_
  refine wp_getR dd_X10_without_1 gf_X10_12 rfl kk_0 (by decide) (zlt rfl) rr_0_0 ?_
  refine wp_iload_n dd_X10_without_4 rfl ?_
  refine wp_callV (M' := mm_X8_has) (As := [zI a]) (rest := []) dd_X10_without_5 lk_X10_132 mV_X8_has kk_1 (zlt rfl) ⟨_, _, rfl⟩ rfl (by decide) (by decide) (Nat.le_of_ble_eq_true rfl) rfl (sp_X8_has  a  ?_)
  show zw_Wp l mm_X10_without (zS L) 8 [some (zR 0), some (zI a), some (zI b)] [zI (if 0 ≤ a ∧ a < mem 1 1 then 1 else 0)] mem 0 0 Q
  refine wp_if_eq (tgt := 22) dd_X10_without_8 (by decide) (fun c8_1 => ?_) (fun c8_1 => ?_)
  · skip
    refine wp_aload_n dd_X10_without_22 rfl ?_
    refine wp_iconst dd_X10_without_23 (zr_lit rfl) ?_
    refine wp_callV (M' := mm_X10_refuse) (As := [zI (-1)]) (rest := []) dd_X10_without_24 lk_X10_76 mV_X10_refuse kk_0 (zlt rfl) ⟨_, _, rfl⟩ rfl (by decide) (by decide) (Nat.le_of_ble_eq_true rfl) rfl (sp_X10_refuse  (-1) (by first | assumption | omega) ?_)
    show zw_Wp l mm_X10_without (zS L) 27 [some (zR 0), some (zI a), some (zI b)] [zI (-1)] (zCn mem (-1)) 0 0 Q
    refine wp_ireturn (st := []) dd_X10_without_27 rfl ?_
    have hw : zyG mem a b 0 = (-1) := by unfold zyG; (repeat first | rw [if_pos (by omega)] | rw [if_neg (by omega)]); try omega
    exact k _ _ (Or.inl ⟨by rw [hw]; first | decide | omega, hw.symm, by rw [hw]⟩)
  · skip
    refine wp_aload_n dd_X10_without_11 rfl ?_
    refine wp_getR dd_X10_without_12 gf_X10_12 rfl kk_0 (by decide) (zlt rfl) rr_0_0 ?_
    refine wp_iload_n dd_X10_without_15 rfl ?_
    refine wp_callV (M' := mm_X8_has) (As := [zI b]) (rest := []) dd_X10_without_16 lk_X10_132 mV_X8_has kk_1 (zlt rfl) ⟨_, _, rfl⟩ rfl (by decide) (by decide) (Nat.le_of_ble_eq_true rfl) rfl (sp_X8_has  b  ?_)
    show zw_Wp l mm_X10_without (zS L) 19 [some (zR 0), some (zI a), some (zI b)] [zI (if 0 ≤ b ∧ b < mem 1 1 then 1 else 0)] mem 0 0 Q
    refine wp_if_ne (tgt := 28) dd_X10_without_19 (by decide) (fun c19_2 => ?_) (fun c19_2 => ?_)
    · skip
      refine wp_aload_n dd_X10_without_28 rfl ?_
      refine wp_iload_n dd_X10_without_29 rfl ?_
      refine wp_iload_n dd_X10_without_30 rfl ?_
      refine wp_bipush dd_X10_without_31 (by decide) ?_
      refine wp_callV (M' := mm_X10_tryAll) (As := [zI a, zI b, zI (-9)]) (rest := []) dd_X10_without_33 lk_X10_260 mV_X10_tryAll kk_0 (zlt rfl) ⟨_, _, rfl⟩ rfl (by decide) (by decide) (Nat.le_of_ble_eq_true rfl) rfl (sp_X10_tryAll  a b (-9) hI (by omega) (fun mT fT gT => ?_))
      show zw_Wp l mm_X10_without (zS L) 36 [some (zR 0), some (zI a), some (zI b)] [] mT 0 0 Q
      have hCk : zCk mem mT := fun x hx => gT x (by omega)
      refine wp_aload_n dd_X10_without_36 rfl ?_
      refine wp_getR dd_X10_without_37 gf_X10_57 rfl kk_0 (by decide) (zlt rfl) rr_0_7 ?_
      refine wp_getZ 1 rfl dd_X10_without_40 gf_X10_275 rfl kk_60 (by decide) (zlt rfl) ?_
      refine wp_ireturn (st := []) dd_X10_without_43 rfl ?_
      have hw : zyG mem a b 0 = 0 := by unfold zyG; (repeat first | rw [if_pos (by omega)] | rw [if_neg (by omega)]); try omega
      exact k _ _ (Or.inr ⟨hw, fT.2.1, hCk⟩)
    · skip
      refine wp_aload_n dd_X10_without_22 rfl ?_
      refine wp_iconst dd_X10_without_23 (zr_lit rfl) ?_
      refine wp_callV (M' := mm_X10_refuse) (As := [zI (-1)]) (rest := []) dd_X10_without_24 lk_X10_76 mV_X10_refuse kk_0 (zlt rfl) ⟨_, _, rfl⟩ rfl (by decide) (by decide) (Nat.le_of_ble_eq_true rfl) rfl (sp_X10_refuse  (-1) (by first | assumption | omega) ?_)
      show zw_Wp l mm_X10_without (zS L) 27 [some (zR 0), some (zI a), some (zI b)] [zI (-1)] (zCn mem (-1)) 0 0 Q
      refine wp_ireturn (st := []) dd_X10_without_27 rfl ?_
      have hw : zyG mem a b 0 = (-1) := by unfold zyG; (repeat first | rw [if_pos (by omega)] | rw [if_neg (by omega)]); try omega
      exact k _ _ (Or.inl ⟨by rw [hw]; first | decide | omega, hw.symm, by rw [hw]⟩)

set_option maxRecDepth 100000 in
set_option maxHeartbeats 4000000 in
theorem sp_X10_lots {l : Launch} {L : Nat} {mem : zMem} {Q : zQ}  (q : Int) (n : Int) (z : Int) (w : Int) (hI : zInv mem) (k : ∀ (r : Int) (m1 : zMem), (zAn mem m1 r (zyQ mem q n w) (if w = 0 then zlc (fun x y => zvs (zco mem q) x y (mem 67 1) 25) z (mem 67 1) n.toNat else zlv (fun x y => zvs (zco mem q) x y (mem 67 1) 25) z (mem 67 1) n.toNat)) → Q (some (zI r)) (zS L) m1) : zw_Ok l mm_X10_lots [zR 0, zI q, zI n, zI z, zI w] (zS L) mem Q := by
  refine zw_okA (fun hA => ?_)
  have rg_q : -2147483648 ≤ q ∧ q < 2147483648 := hA.2.1
  have rg_n : -2147483648 ≤ n ∧ n < 2147483648 := hA.2.2.1
  have rg_z : -2147483648 ≤ z ∧ z < 2147483648 := hA.2.2.2.1
  have rg_w : -2147483648 ≤ w ∧ w < 2147483648 := hA.2.2.2.2.1
  refine zw_enter (by decide) (Nat.le_of_ble_eq_true rfl) rfl ?_
  show zw_Wp l mm_X10_lots (zS L) 0 [some (zR 0), some (zI q), some (zI n), some (zI z), some (zI w)] [] mem 0 0 Q
  obtain ⟨I1, I2, I3, I4, I5, I6, I7⟩ := id hI
  have hp := I1.1
  have hpr := hp.rg
  have e10 := I1.2.1
  have hn5 := I1.2.2.1
  have e11 := I1.2.2.2.1
  refine wp_aload_n dd_X10_lots_0 rfl ?_
  refine wp_getR dd_X10_lots_1 gf_X10_12 rfl kk_0 (by decide) (zlt rfl) rr_0_0 ?_
  refine wp_iload_n dd_X10_lots_4 rfl ?_
  refine wp_callV (M' := mm_X8_has) (As := [zI q]) (rest := []) dd_X10_lots_5 lk_X10_132 mV_X8_has kk_1 (zlt rfl) ⟨_, _, rfl⟩ rfl (by decide) (by decide) (Nat.le_of_ble_eq_true rfl) rfl (sp_X8_has  q  ?_)
  show zw_Wp l mm_X10_lots (zS L) 8 [some (zR 0), some (zI q), some (zI n), some (zI z), some (zI w)] [zI (if 0 ≤ q ∧ q < mem 1 1 then 1 else 0)] mem 0 0 Q
  refine wp_if_ne (tgt := 17) dd_X10_lots_8 (by decide) (fun c8_1 => ?_) (fun c8_1 => ?_)
  · skip
    refine wp_iload_n dd_X10_lots_17 rfl ?_
    refine wp_iconst dd_X10_lots_18 (zr_lit rfl) ?_
    refine wp_icmp_ge (tgt := 29) dd_X10_lots_19 (by decide) (fun c19_2 => ?_) (fun c19_2 => ?_)
    · skip
      refine wp_iload_n dd_X10_lots_29 rfl ?_
      refine wp_bipush dd_X10_lots_30 (by decide) ?_
      refine wp_icmp_le (tgt := 42) dd_X10_lots_32 (by decide) (fun c32_3 => ?_) (fun c32_3 => ?_)
      · skip
        refine wp_iload dd_X10_lots_42 rfl ?_
        refine wp_if_lt (tgt := 53) dd_X10_lots_44 (by decide) (fun c44_4 => ?_) (fun c44_4 => ?_)
        · skip
          refine wp_aload_n dd_X10_lots_53 rfl ?_
          refine wp_bipush dd_X10_lots_54 (by decide) ?_
          refine wp_callV (M' := mm_X10_refuse) (As := [zI (-2)]) (rest := []) dd_X10_lots_56 lk_X10_76 mV_X10_refuse kk_0 (zlt rfl) ⟨_, _, rfl⟩ rfl (by decide) (by decide) (Nat.le_of_ble_eq_true rfl) rfl (sp_X10_refuse  (-2) (by first | assumption | omega) ?_)
          show zw_Wp l mm_X10_lots (zS L) 59 [some (zR 0), some (zI q), some (zI n), some (zI z), some (zI w)] [zI (-2)] (zCn mem (-2)) 0 0 Q
          refine wp_ireturn (st := []) dd_X10_lots_59 rfl ?_
          have hw : zyQ mem q n w = (-2) := by unfold zyQ; (repeat first | rw [if_pos (by omega)] | rw [if_neg (by omega)]); try omega
          exact k _ _ (Or.inl ⟨by rw [hw]; first | decide | omega, hw.symm, by rw [hw]⟩)
        · skip
          refine wp_iload dd_X10_lots_47 rfl ?_
          refine wp_iconst dd_X10_lots_49 (zr_lit rfl) ?_
          refine wp_icmp_le (tgt := 60) dd_X10_lots_50 (by decide) (fun c50_5 => ?_) (fun c50_5 => ?_)
          · skip
            have hqq : 0 ≤ q ∧ q < 6 := by omega
            have hTq := I1.T (q := q) (by omega) (by omega)
            have hCq := I1.C (q := q) (by omega) (by omega)
            have hcrq := zco_rg hp hTq
            have hzoq := zo_rg hqq
            refine wp_aload_n dd_X10_lots_60 rfl ?_
            refine wp_getR dd_X10_lots_61 gf_X10_57 rfl kk_0 (by decide) (zlt rfl) rr_0_7 ?_
            refine wp_aload_n dd_X10_lots_64 rfl ?_
            refine wp_getR dd_X10_lots_65 gf_X10_12 rfl kk_0 (by decide) (zlt rfl) rr_0_0 ?_
            refine wp_getR dd_X10_lots_68 gf_X10_135 rfl kk_1 (by decide) (zlt rfl) rr_1_2 ?_
            refine wp_iload_n dd_X10_lots_71 rfl ?_
            refine wp_aald dd_X10_lots_72 kk_2 (zlt rfl) (by omega) (by omega) (zr2 rfl hqq) ?_
            refine wp_iload_n dd_X10_lots_73 rfl ?_
            refine wp_iload_n dd_X10_lots_74 rfl ?_
            refine wp_iload dd_X10_lots_75 rfl ?_
            refine wp_aload_n dd_X10_lots_77 rfl ?_
            refine wp_getR dd_X10_lots_78 gf_X10_12 rfl kk_0 (by decide) (zlt rfl) rr_0_0 ?_
            refine wp_getZ 0 rfl dd_X10_lots_81 gf_X10_114 rfl kk_1 (by decide) (zlt rfl) ?_
            refine wp_callV (M' := mm_X7_drawLots) (As := [zR (zo q), zI n, zI z, zI w, zI (mem 1 0)]) (rest := []) dd_X10_lots_84 lk_X10_311 mV_X7_drawLots kk_60 (zlt rfl) ⟨_, _, rfl⟩ rfl (by decide) (by decide) (Nat.le_of_ble_eq_true rfl) rfl (sp_X7_drawLots (zco mem q) (zo q) n z w (mem 1 0) (zoP hqq) hCq (by rw [e10]; exact hpr) (by omega) (by rw [e10]; exact hcrq) (fun mV gV => ?_))
            show zw_Wp l mm_X10_lots (zS L) 87 [some (zR 0), some (zI q), some (zI n), some (zI z), some (zI w)] [zI (if w = 0 then zlc (fun x y => zvs (zco mem q) x y (mem 1 0) 25) z (mem 1 0) n.toNat else zlv (fun x y => zvs (zco mem q) x y (mem 1 0) 25) z (mem 1 0) n.toNat)] mV 0 0 Q
            refine wp_ireturn (st := []) dd_X10_lots_87 rfl ?_
            have hw : zyQ mem q n w = 0 := by unfold zyQ; (repeat first | rw [if_pos (by omega)] | rw [if_neg (by omega)]); try omega
            exact k _ _ (Or.inr ⟨hw, by rw [e10], fun a ha => gV a (by omega) (by omega)⟩)
          · skip
            refine wp_aload_n dd_X10_lots_53 rfl ?_
            refine wp_bipush dd_X10_lots_54 (by decide) ?_
            refine wp_callV (M' := mm_X10_refuse) (As := [zI (-2)]) (rest := []) dd_X10_lots_56 lk_X10_76 mV_X10_refuse kk_0 (zlt rfl) ⟨_, _, rfl⟩ rfl (by decide) (by decide) (Nat.le_of_ble_eq_true rfl) rfl (sp_X10_refuse  (-2) (by first | assumption | omega) ?_)
            show zw_Wp l mm_X10_lots (zS L) 59 [some (zR 0), some (zI q), some (zI n), some (zI z), some (zI w)] [zI (-2)] (zCn mem (-2)) 0 0 Q
            refine wp_ireturn (st := []) dd_X10_lots_59 rfl ?_
            have hw : zyQ mem q n w = (-2) := by unfold zyQ; (repeat first | rw [if_pos (by omega)] | rw [if_neg (by omega)]); try omega
            exact k _ _ (Or.inl ⟨by rw [hw]; first | decide | omega, hw.symm, by rw [hw]⟩)
      · skip
        refine wp_aload_n dd_X10_lots_35 rfl ?_
        refine wp_bipush dd_X10_lots_36 (by decide) ?_
        refine wp_callV (M' := mm_X10_refuse) (As := [zI (-6)]) (rest := []) dd_X10_lots_38 lk_X10_76 mV_X10_refuse kk_0 (zlt rfl) ⟨_, _, rfl⟩ rfl (by decide) (by decide) (Nat.le_of_ble_eq_true rfl) rfl (sp_X10_refuse  (-6) (by first | assumption | omega) ?_)
        show zw_Wp l mm_X10_lots (zS L) 41 [some (zR 0), some (zI q), some (zI n), some (zI z), some (zI w)] [zI (-6)] (zCn mem (-6)) 0 0 Q
        refine wp_ireturn (st := []) dd_X10_lots_41 rfl ?_
        have hw : zyQ mem q n w = (-6) := by unfold zyQ; (repeat first | rw [if_pos (by omega)] | rw [if_neg (by omega)]); try omega
        exact k _ _ (Or.inl ⟨by rw [hw]; first | decide | omega, hw.symm, by rw [hw]⟩)
    · skip
      refine wp_aload_n dd_X10_lots_22 rfl ?_
      refine wp_bipush dd_X10_lots_23 (by decide) ?_
      refine wp_callV (M' := mm_X10_refuse) (As := [zI (-4)]) (rest := []) dd_X10_lots_25 lk_X10_76 mV_X10_refuse kk_0 (zlt rfl) ⟨_, _, rfl⟩ rfl (by decide) (by decide) (Nat.le_of_ble_eq_true rfl) rfl (sp_X10_refuse  (-4) (by first | assumption | omega) ?_)
      show zw_Wp l mm_X10_lots (zS L) 28 [some (zR 0), some (zI q), some (zI n), some (zI z), some (zI w)] [zI (-4)] (zCn mem (-4)) 0 0 Q
      refine wp_ireturn (st := []) dd_X10_lots_28 rfl ?_
      have hw : zyQ mem q n w = (-4) := by unfold zyQ; (repeat first | rw [if_pos (by omega)] | rw [if_neg (by omega)]); try omega
      exact k _ _ (Or.inl ⟨by rw [hw]; first | decide | omega, hw.symm, by rw [hw]⟩)
  · skip
    refine wp_aload_n dd_X10_lots_11 rfl ?_
    refine wp_iconst dd_X10_lots_12 (zr_lit rfl) ?_
    refine wp_callV (M' := mm_X10_refuse) (As := [zI (-1)]) (rest := []) dd_X10_lots_13 lk_X10_76 mV_X10_refuse kk_0 (zlt rfl) ⟨_, _, rfl⟩ rfl (by decide) (by decide) (Nat.le_of_ble_eq_true rfl) rfl (sp_X10_refuse  (-1) (by first | assumption | omega) ?_)
    show zw_Wp l mm_X10_lots (zS L) 16 [some (zR 0), some (zI q), some (zI n), some (zI z), some (zI w)] [zI (-1)] (zCn mem (-1)) 0 0 Q
    refine wp_ireturn (st := []) dd_X10_lots_16 rfl ?_
    have hw : zyQ mem q n w = (-1) := by unfold zyQ; (repeat first | rw [if_pos (by omega)] | rw [if_neg (by omega)]); try omega
    exact k _ _ (Or.inl ⟨by rw [hw]; first | decide | omega, hw.symm, by rw [hw]⟩)


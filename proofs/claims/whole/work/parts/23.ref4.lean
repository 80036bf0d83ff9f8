/-! ===== the reference: lists, image ===== -/
def zyL (mem : zMem) (l i : Int) : Int := if mem 86 l < 0 then -11 else if ¬ (0 ≤ i ∧ i ≤ mem 86 l - 1) then -13 else 0
def zLs (mem : zMem) : Prop := ∀ l : Int, 0 ≤ l → l ≤ 2 → mem 86 l = -9 ∨ (0 ≤ mem 86 l ∧ mem 86 l ≤ 40)
def zsrc (mem : zMem) (x : Int) : Int := if x = 0 then mem 67 1 else if x = 1 then mem 67 5 else if x < 14 then (if x % 2 = 0 then mem 70 ((x - 2) / 2) else mem 71 ((x - 3) / 2)) else mem 69 (x - 14)
def zW (mem : zMem) (c x : Int) : Int := if c = 0 then mem 88 x else zsrc mem x
theorem zW_2 {mem : zMem} {c i : Int} (h : 0 ≤ i ∧ i < 6) : zW mem c (2 + 2 * i) = if c = 0 then mem 88 (2 + 2 * i) else mem 70 i := by
  unfold zW zsrc
  rw [if_neg (show ¬ 2 + 2 * i = 0 by omega), if_neg (show ¬ 2 + 2 * i = 1 by omega), if_pos (show 2 + 2 * i < 14 by omega), if_pos (show (2 + 2 * i) % 2 = 0 by omega), show (2 + 2 * i - 2) / 2 = i by omega]
theorem zW_3 {mem : zMem} {c i : Int} (h : 0 ≤ i ∧ i < 6) : zW mem c (3 + 2 * i) = if c = 0 then mem 88 (3 + 2 * i) else mem 71 i := by
  unfold zW zsrc
  rw [if_neg (show ¬ 3 + 2 * i = 0 by omega), if_neg (show ¬ 3 + 2 * i = 1 by omega), if_pos (show 3 + 2 * i < 14 by omega), if_neg (show ¬ (3 + 2 * i) % 2 = 0 by omega), show (3 + 2 * i - 3) / 2 = i by omega]
theorem zW_14 {mem : zMem} {c t : Int} (h : 0 ≤ t) : zW mem c (14 + t) = if c = 0 then mem 88 (14 + t) else mem 69 t := by
  unfold zW zsrc
  rw [if_neg (show ¬ 14 + t = 0 by omega), if_neg (show ¬ 14 + t = 1 by omega), if_neg (show ¬ 14 + t < 14 by omega), show 14 + t - 14 = t by omega]

set_option maxRecDepth 100000 in
set_option maxHeartbeats 4000000 in
theorem sp_X11_isList {l : Launch} {L : Nat} {mem : zMem} {Q : zQ}  (l0 : Int)  (k : Q (some (zI (if 0 ≤ l0 ∧ l0 ≤ 2 then 1 else 0))) (zS L) mem) : zw_Ok l mm_X11_isList [zI l0] (zS L) mem Q := by
  refine zw_okA (fun hA => ?_)
  have rg_l0 : -2147483648 ≤ l0 ∧ l0 < 2147483648 := hA.1
  refine zw_enter (by decide) (Nat.le_of_ble_eq_true rfl) rfl ?_
  show zw_Wp l mm_X11_isList (zS L) 0 [some (zI l0)] [] mem 0 0 Q
  refine wp_iload_n dd_X11_isList_0 rfl ?_
  refine wp_iconst dd_X11_isList_1 (zr_lit rfl) ?_
  refine wp_iconst dd_X11_isList_2 (zr_lit rfl) ?_
  refine wp_callS (M' := mm_X11_isIn) (As := [zI l0, zI 0, zI 2]) (rest := []) dd_X11_isList_3 lk_X11_21 mS_X11_isIn rfl (by decide) (by decide) (Nat.le_of_ble_eq_true rfl) rfl (sp_X11_isIn  l0 0 2  ?_)
  show zw_Wp l mm_X11_isList (zS L) 6 [some (zI l0)] [zI (if 0 ≤ l0 ∧ l0 ≤ 2 then 1 else 0)] mem 0 0 Q
  refine wp_zreturn (st := []) dd_X11_isList_6 rfl (by split <;> omega) ?_
  exact k

set_option maxRecDepth 100000 in
set_option maxHeartbeats 4000000 in
theorem sp_X11_notPlace {l : Launch} {L : Nat} {mem : zMem} {Q : zQ}  (l0 : Int) (i : Int) (hl : 0 ≤ l0 ∧ l0 ≤ 2) (hs : zLs mem) (k : Q (some (zI (zyL mem l0 i))) (zS L) mem) : zw_Ok l mm_X11_notPlace [zR 67, zI l0, zI i] (zS L) mem Q := by
  refine zw_okA (fun hA => ?_)
  have rg_l0 : -2147483648 ≤ l0 ∧ l0 < 2147483648 := hA.2.1
  have rg_i : -2147483648 ≤ i ∧ i < 2147483648 := hA.2.2.1
  refine zw_enter (by decide) (Nat.le_of_ble_eq_true rfl) rfl ?_
  show zw_Wp l mm_X11_notPlace (zS L) 0 [some (zR 67), some (zI l0), some (zI i)] [] mem 0 0 Q
  have hsz := hs l0 (by omega) (by omega)
  refine wp_aload_n dd_X11_notPlace_0 rfl ?_
  refine wp_getR dd_X11_notPlace_1 gf_X11_83 rfl kk_67 (by decide) (zlt rfl) rr_67_30 ?_
  refine wp_iload_n dd_X11_notPlace_4 rfl ?_
  refine wp_iald dd_X11_notPlace_5 kk_86 (zlt rfl) (by omega) (by omega) ?_
  refine wp_if_ge (tgt := 14) dd_X11_notPlace_6 (by decide) (fun c6_1 => ?_) (fun c6_1 => ?_)
  · skip
    refine wp_iload_n dd_X11_notPlace_14 rfl ?_
    refine wp_iconst dd_X11_notPlace_15 (zr_lit rfl) ?_
    refine wp_aload_n dd_X11_notPlace_16 rfl ?_
    refine wp_getR dd_X11_notPlace_17 gf_X11_83 rfl kk_67 (by decide) (zlt rfl) rr_67_30 ?_
    refine wp_iload_n dd_X11_notPlace_20 rfl ?_
    refine wp_iald dd_X11_notPlace_21 kk_86 (zlt rfl) (by omega) (by omega) ?_
    refine wp_iconst dd_X11_notPlace_22 (zr_lit rfl) ?_
    refine wp_isubC dd_X11_notPlace_23 (by omega) ?_
    refine wp_callS (M' := mm_X11_isIn) (As := [zI i, zI 0, zI ((mem 86 l0) - 1)]) (rest := []) dd_X11_notPlace_24 lk_X11_21 mS_X11_isIn rfl (by decide) (by decide) (Nat.le_of_ble_eq_true rfl) rfl (sp_X11_isIn  i 0 ((mem 86 l0) - 1)  ?_)
    show zw_Wp l mm_X11_notPlace (zS L) 27 [some (zR 67), some (zI l0), some (zI i)] [zI (if 0 ≤ i ∧ i ≤ ((mem 86 l0) - 1) then 1 else 0)] mem 0 0 Q
    refine wp_if_ne (tgt := 35) dd_X11_notPlace_27 (by decide) (fun c27_2 => ?_) (fun c27_2 => ?_)
    · skip
      refine wp_iconst dd_X11_notPlace_35 (zr_lit rfl) ?_
      refine wp_ireturn (st := []) dd_X11_notPlace_36 rfl ?_
      refine zq_I ?_ ?_ k
      · unfold zyL; repeat first | rw [if_pos (by omega)] | rw [if_neg (by omega)]
      · rfl
    · skip
      refine wp_bipush dd_X11_notPlace_30 (by decide) ?_
      refine wp_goto (tgt := 36) dd_X11_notPlace_32 (by decide) ?_
      refine wp_ireturn (st := []) dd_X11_notPlace_36 rfl ?_
      refine zq_I ?_ ?_ k
      · unfold zyL; repeat first | rw [if_pos (by omega)] | rw [if_neg (by omega)]
      · rfl
  · skip
    refine wp_bipush dd_X11_notPlace_9 (by decide) ?_
    refine wp_goto (tgt := 36) dd_X11_notPlace_11 (by decide) ?_
    refine wp_ireturn (st := []) dd_X11_notPlace_36 rfl ?_
    refine zq_I ?_ ?_ k
    · unfold zyL; repeat first | rw [if_pos (by omega)] | rw [if_neg (by omega)]
    · rfl

set_option maxRecDepth 100000 in
set_option maxHeartbeats 4000000 in
theorem sp_X11_list {l : Launch} {L : Nat} {mem : zMem} {Q : zQ}  (l0 : Int) (n : Int)  (k : ∀ (r : Int) (mem2 : zMem), ((¬ (0 ≤ l0 ∧ l0 ≤ 2) ∧ r = -1 ∧ mem2 = zno mem (-1)) ∨ ((0 ≤ l0 ∧ l0 ≤ 2) ∧ ((40 < n ∧ r = -6 ∧ mem2 = zno mem (-6)) ∨ (n < 0 ∧ r = -14 ∧ mem2 = mem) ∨ (0 ≤ n ∧ n ≤ 40 ∧ r = 1 ∧ (∀ x : Int, mem2 86 x = if x = l0 then n else mem 86 x) ∧ (∀ x : Int, mem2 87 x = if 40 * l0 ≤ x ∧ x < 40 * l0 + 40 then 0 else mem 87 x) ∧ ∀ a : Nat, a ≠ 86 → a ≠ 87 → mem2 a = mem a)))) → Q (some (zI r)) (zS L) mem2) : zw_Ok l mm_X11_list [zR 67, zI l0, zI n] (zS L) mem Q := by
  refine zw_okA (fun hA => ?_)
  have rg_l0 : -2147483648 ≤ l0 ∧ l0 < 2147483648 := hA.2.1
  have rg_n : -2147483648 ≤ n ∧ n < 2147483648 := hA.2.2.1
  refine zw_enter (by decide) (Nat.le_of_ble_eq_true rfl) rfl ?_
  show zw_Wp l mm_X11_list (zS L) 0 [some (zR 67), some (zI l0), some (zI n), none] [] mem 0 0 Q
  refine wp_iload_n dd_X11_list_0 rfl ?_
  refine wp_callS (M' := mm_X11_isList) (As := [zI l0]) (rest := []) dd_X11_list_1 lk_X11_322 mS_X11_isList rfl (by decide) (by decide) (Nat.le_of_ble_eq_true rfl) rfl (sp_X11_isList  l0  ?_)
  show zw_Wp l mm_X11_list (zS L) 4 [some (zR 67), some (zI l0), some (zI n), none] [zI (if 0 ≤ l0 ∧ l0 ≤ 2 then 1 else 0)] mem 0 0 Q
  refine wp_if_ne (tgt := 13) dd_X11_list_4 (by decide) (fun c4_1 => ?_) (fun c4_1 => ?_)
  · skip
    refine wp_iload_n dd_X11_list_13 rfl ?_
    refine wp_bipush dd_X11_list_14 (by decide) ?_
    refine wp_icmp_le (tgt := 26) dd_X11_list_16 (by decide) (fun c16_2 => ?_) (fun c16_2 => ?_)
    · skip
      refine wp_iload_n dd_X11_list_26 rfl ?_
      refine wp_if_ge (tgt := 33) dd_X11_list_27 (by decide) (fun c27_3 => ?_) (fun c27_3 => ?_)
      · skip
        refine wp_aload_n dd_X11_list_33 rfl ?_
        refine wp_getR dd_X11_list_34 gf_X11_83 rfl kk_67 (by decide) (zlt rfl) rr_67_30 ?_
        refine wp_iload_n dd_X11_list_37 rfl ?_
        refine wp_iload_n dd_X11_list_38 rfl ?_
        refine wp_iast dd_X11_list_39 kk_86 (zlt rfl) (by omega) (by omega) ?_
        refine wp_iconst dd_X11_list_40 (zr_lit rfl) ?_
        refine wp_istore_n (ls2 := [some (zR 67), some (zI l0), some (zI n), some (zI 0)]) dd_X11_list_41 rfl (by decide) rfl ?_
        have lp42 : ∀ (nf : Nat) (i : Int) (mm : zMem), (0 ≤ i) → (i ≤ 40) → (∀ x : Int, mm 87 x = if 40 * l0 ≤ x ∧ x < 40 * l0 + i then 0 else mem 87 x) → (∀ a : Nat, a ≠ 87 → mm a = (zu mem 86 l0 n) a) → (40 - i) < (nf : Int) → zw_Wp l mm_X11_list (zS L) 42 [some (zR 67), some (zI l0), some (zI n), some (zI i)] [] mm 0 0 Q := by
          intro nf
          induction nf with
          | zero =>
            intro i mm h0 h1 h2 h3 hmu
            exfalso; omega
          | succ nf ih42 =>
            intro i mm h0 h1 h2 h3 hmu
            refine wp_iload_n dd_X11_list_42 rfl ?_
            refine wp_bipush dd_X11_list_43 (by decide) ?_
            refine wp_icmp_ge (tgt := 66) dd_X11_list_45 (by decide) (fun c45_4 => ?_) (fun c45_4 => ?_)
            · skip
              refine wp_iconst dd_X11_list_66 (zr_lit rfl) ?_
              refine wp_ireturn (st := []) dd_X11_list_67 rfl ?_
              refine k _ _ (Or.inr ⟨by omega, Or.inr (Or.inr ⟨by omega, by omega, rfl, fun x => ?_, fun x => ?_, fun a h8 h9 => ?_⟩)⟩)
              · rw [h3 86 (by decide)]
                by_cases hx : x = l0
                · subst hx; rw [zu_s, if_pos rfl]
                · rw [zu_n (Or.inr hx), if_neg hx]
              · rw [h2 x, show i = 40 by omega]
              · rw [h3 a h9, zu_row h8]
            · skip
              refine wp_aload_n dd_X11_list_48 rfl ?_
              refine wp_getR dd_X11_list_49 gf_X11_86 rfl kk_67 (by decide) (zlt rfl) rr_67_31 ?_
              refine wp_bipush dd_X11_list_52 (by decide) ?_
              refine wp_iload_n dd_X11_list_54 rfl ?_
              refine wp_imulC dd_X11_list_55 (by omega) ?_
              refine wp_iload_n dd_X11_list_56 rfl ?_
              refine wp_iaddC dd_X11_list_57 (by omega) ?_
              refine wp_iconst dd_X11_list_58 (zr_lit rfl) ?_
              refine wp_iast dd_X11_list_59 kk_87 (zlt rfl) (by omega) (by omega) ?_
              refine wp_iincC (ls2 := [some (zR 67), some (zI l0), some (zI n), some (zI (i + 1))]) dd_X11_list_60 rfl rfl (by decide) (by omega) rfl ?_
              refine wp_goto (tgt := 42) dd_X11_list_63 (by decide) ?_
              refine ih42 (i + 1) (zu mm 87 ((40 * l0) + i) 0) ?_ ?_ ?_ ?_ ?_
              · first | omega | assumption | (intros; omega)
              · first | omega | assumption | (intros; omega)
              · intro x
                by_cases hx : x = 40 * l0 + i
                · subst hx; rw [zu_s, if_pos (by omega)]
                · rw [zu_n (Or.inr hx), h2 x]
                  by_cases hl : 40 * l0 ≤ x ∧ x < 40 * l0 + i
                  · rw [if_pos hl, if_pos (by omega)]
                  · rw [if_neg hl, if_neg (by omega)]
              · intro a ha; rw [zu_row ha]; exact h3 a ha
              · omega
        refine lp42 ((40 - 0 : Int)).toNat.succ 0 (zu mem 86 l0 n) ?_ ?_ ?_ ?_ ?_
        · first | omega | assumption | (intros; omega)
        · first | omega | assumption | (intros; omega)
        · intro x; rw [if_neg (by omega), zu_row (by decide)]
        · intros; rfl
        · omega
      · skip
        refine wp_bipush dd_X11_list_30 (by decide) ?_
        refine wp_ireturn (st := []) dd_X11_list_32 rfl ?_
        exact k _ _ (Or.inr ⟨by omega, Or.inr (Or.inl ⟨by omega, rfl, rfl⟩)⟩)
    · skip
      refine wp_aload_n dd_X11_list_19 rfl ?_
      refine wp_bipush dd_X11_list_20 (by decide) ?_
      refine wp_callV (M' := mm_X11_no) (As := [zI (-6)]) (rest := []) dd_X11_list_22 lk_X11_120 mV_X11_no kk_67 (zlt rfl) ⟨_, _, rfl⟩ rfl (by decide) (by decide) (Nat.le_of_ble_eq_true rfl) rfl (sp_X11_no  (-6) (by first | assumption | omega) ?_)
      show zw_Wp l mm_X11_list (zS L) 25 [some (zR 67), some (zI l0), some (zI n), none] [zI (-6)] (zu mem 68 (-(-6)) (zwr (mem 68 (-(-6)) + 1))) 0 0 Q
      refine wp_ireturn (st := []) dd_X11_list_25 rfl ?_
      exact k _ _ (Or.inr ⟨by omega, Or.inl ⟨by omega, rfl, rfl⟩⟩)
  · skip
    refine wp_aload_n dd_X11_list_7 rfl ?_
    refine wp_iconst dd_X11_list_8 (zr_lit rfl) ?_
    refine wp_callV (M' := mm_X11_no) (As := [zI (-1)]) (rest := []) dd_X11_list_9 lk_X11_120 mV_X11_no kk_67 (zlt rfl) ⟨_, _, rfl⟩ rfl (by decide) (by decide) (Nat.le_of_ble_eq_true rfl) rfl (sp_X11_no  (-1) (by first | assumption | omega) ?_)
    show zw_Wp l mm_X11_list (zS L) 12 [some (zR 67), some (zI l0), some (zI n), none] [zI (-1)] (zu mem 68 (-(-1)) (zwr (mem 68 (-(-1)) + 1))) 0 0 Q
    refine wp_ireturn (st := []) dd_X11_list_12 rfl ?_
    exact k _ _ (Or.inl ⟨by omega, rfl, rfl⟩)

set_option maxRecDepth 100000 in
set_option maxHeartbeats 4000000 in
theorem sp_X11_put {l : Launch} {L : Nat} {mem : zMem} {Q : zQ}  (l0 : Int) (i : Int) (v : Int) (hs : zLs mem) (k : ∀ (r : Int) (mem2 : zMem), ((¬ (0 ≤ l0 ∧ l0 ≤ 2) ∧ r = -1 ∧ mem2 = zno mem (-1)) ∨ ((0 ≤ l0 ∧ l0 ≤ 2) ∧ ((zyL mem l0 i ≠ 0 ∧ r = zyL mem l0 i ∧ mem2 = mem) ∨ (zyL mem l0 i = 0 ∧ r = 1 ∧ mem2 = zu mem 87 (40 * l0 + i) v)))) → Q (some (zI r)) (zS L) mem2) : zw_Ok l mm_X11_put [zR 67, zI l0, zI i, zI v] (zS L) mem Q := by
  refine zw_okA (fun hA => ?_)
  have rg_l0 : -2147483648 ≤ l0 ∧ l0 < 2147483648 := hA.2.1
  have rg_i : -2147483648 ≤ i ∧ i < 2147483648 := hA.2.2.1
  have rg_v : -2147483648 ≤ v ∧ v < 2147483648 := hA.2.2.2.1
  refine zw_enter (by decide) (Nat.le_of_ble_eq_true rfl) rfl ?_
  show zw_Wp l mm_X11_put (zS L) 0 [some (zR 67), some (zI l0), some (zI i), some (zI v), none] [] mem 0 0 Q
  refine wp_iload_n dd_X11_put_0 rfl ?_
  refine wp_callS (M' := mm_X11_isList) (As := [zI l0]) (rest := []) dd_X11_put_1 lk_X11_322 mS_X11_isList rfl (by decide) (by decide) (Nat.le_of_ble_eq_true rfl) rfl (sp_X11_isList  l0  ?_)
  show zw_Wp l mm_X11_put (zS L) 4 [some (zR 67), some (zI l0), some (zI i), some (zI v), none] [zI (if 0 ≤ l0 ∧ l0 ≤ 2 then 1 else 0)] mem 0 0 Q
  refine wp_if_ne (tgt := 13) dd_X11_put_4 (by decide) (fun c4_1 => ?_) (fun c4_1 => ?_)
  · skip
    refine wp_aload_n dd_X11_put_13 rfl ?_
    refine wp_iload_n dd_X11_put_14 rfl ?_
    refine wp_iload_n dd_X11_put_15 rfl ?_
    refine wp_callV (M' := mm_X11_notPlace) (As := [zI l0, zI i]) (rest := []) dd_X11_put_16 lk_X11_325 mV_X11_notPlace kk_67 (zlt rfl) ⟨_, _, rfl⟩ rfl (by decide) (by decide) (Nat.le_of_ble_eq_true rfl) rfl (sp_X11_notPlace  l0 i (by first | assumption | omega) (by first | assumption | omega) ?_)
    show zw_Wp l mm_X11_put (zS L) 19 [some (zR 67), some (zI l0), some (zI i), some (zI v), none] [zI (zyL mem l0 i)] mem 0 0 Q
    have hyr : zyL mem l0 i = 0 ∨ zyL mem l0 i = -11 ∨ zyL mem l0 i = -13 := by unfold zyL; omega
    have hy0 : zyL mem l0 i = 0 → 0 ≤ i ∧ i < mem 86 l0 := by unfold zyL; omega
    have hsz := hs l0 (by omega) (by omega)
    refine wp_istore (ls2 := [some (zR 67), some (zI l0), some (zI i), some (zI v), some (zI (zyL mem l0 i))]) dd_X11_put_19 rfl (by decide) rfl ?_
    refine wp_iload dd_X11_put_21 rfl ?_
    refine wp_if_eq (tgt := 29) dd_X11_put_23 (by decide) (fun c23_2 => ?_) (fun c23_2 => ?_)
    · skip
      have hyi := hy0 (by assumption)
      refine wp_aload_n dd_X11_put_29 rfl ?_
      refine wp_getR dd_X11_put_30 gf_X11_86 rfl kk_67 (by decide) (zlt rfl) rr_67_31 ?_
      refine wp_bipush dd_X11_put_33 (by decide) ?_
      refine wp_iload_n dd_X11_put_35 rfl ?_
      refine wp_imulC dd_X11_put_36 (by omega) ?_
      refine wp_iload_n dd_X11_put_37 rfl ?_
      refine wp_iaddC dd_X11_put_38 (by omega) ?_
      refine wp_iload_n dd_X11_put_39 rfl ?_
      refine wp_iast dd_X11_put_40 kk_87 (zlt rfl) (by omega) (by omega) ?_
      refine wp_iconst dd_X11_put_41 (zr_lit rfl) ?_
      refine wp_ireturn (st := []) dd_X11_put_42 rfl ?_
      exact k _ _ (Or.inr ⟨by omega, Or.inr ⟨by assumption, rfl, rfl⟩⟩)
    · skip
      refine wp_iload dd_X11_put_26 rfl ?_
      refine wp_ireturn (st := []) dd_X11_put_28 rfl ?_
      exact k _ _ (Or.inr ⟨by omega, Or.inl ⟨by assumption, rfl, rfl⟩⟩)
  · skip
    refine wp_aload_n dd_X11_put_7 rfl ?_
    refine wp_iconst dd_X11_put_8 (zr_lit rfl) ?_
    refine wp_callV (M' := mm_X11_no) (As := [zI (-1)]) (rest := []) dd_X11_put_9 lk_X11_120 mV_X11_no kk_67 (zlt rfl) ⟨_, _, rfl⟩ rfl (by decide) (by decide) (Nat.le_of_ble_eq_true rfl) rfl (sp_X11_no  (-1) (by first | assumption | omega) ?_)
    show zw_Wp l mm_X11_put (zS L) 12 [some (zR 67), some (zI l0), some (zI i), some (zI v), none] [zI (-1)] (zu mem 68 (-(-1)) (zwr (mem 68 (-(-1)) + 1))) 0 0 Q
    refine wp_ireturn (st := []) dd_X11_put_12 rfl ?_
    exact k _ _ (Or.inl ⟨by omega, rfl, rfl⟩)

set_option maxRecDepth 100000 in
set_option maxHeartbeats 4000000 in
theorem sp_X11_look {l : Launch} {L : Nat} {mem : zMem} {Q : zQ}  (l0 : Int) (i : Int) (hs : zLs mem) (k : ∀ (r : Int) (mem2 : zMem), ((¬ (0 ≤ l0 ∧ l0 ≤ 2) ∧ r = 4000000000000000001 ∧ mem2 = zno mem (-1)) ∨ ((0 ≤ l0 ∧ l0 ≤ 2) ∧ mem2 = mem ∧ ((zyL mem l0 i ≠ 0 ∧ r = 4000000000000000000 - zyL mem l0 i) ∨ (zyL mem l0 i = 0 ∧ r = mem 87 (40 * l0 + i))))) → Q (some (zJ r)) (zS L) mem2) : zw_Ok l mm_X11_look [zR 67, zI l0, zI i] (zS L) mem Q := by
  refine zw_okA (fun hA => ?_)
  have rg_l0 : -2147483648 ≤ l0 ∧ l0 < 2147483648 := hA.2.1
  have rg_i : -2147483648 ≤ i ∧ i < 2147483648 := hA.2.2.1
  refine zw_enter (by decide) (Nat.le_of_ble_eq_true rfl) rfl ?_
  show zw_Wp l mm_X11_look (zS L) 0 [some (zR 67), some (zI l0), some (zI i), none] [] mem 0 0 Q
  refine wp_iload_n dd_X11_look_0 rfl ?_
  refine wp_callS (M' := mm_X11_isList) (As := [zI l0]) (rest := []) dd_X11_look_1 lk_X11_322 mS_X11_isList rfl (by decide) (by decide) (Nat.le_of_ble_eq_true rfl) rfl (sp_X11_isList  l0  ?_)
  show zw_Wp l mm_X11_look (zS L) 4 [some (zR 67), some (zI l0), some (zI i), none] [zI (if 0 ≤ l0 ∧ l0 ≤ 2 then 1 else 0)] mem 0 0 Q
  refine wp_if_ne (tgt := 13) dd_X11_look_4 (by decide) (fun c4_1 => ?_) (fun c4_1 => ?_)
  · skip
    refine wp_aload_n dd_X11_look_13 rfl ?_
    refine wp_iload_n dd_X11_look_14 rfl ?_
    refine wp_iload_n dd_X11_look_15 rfl ?_
    refine wp_callV (M' := mm_X11_notPlace) (As := [zI l0, zI i]) (rest := []) dd_X11_look_16 lk_X11_325 mV_X11_notPlace kk_67 (zlt rfl) ⟨_, _, rfl⟩ rfl (by decide) (by decide) (Nat.le_of_ble_eq_true rfl) rfl (sp_X11_notPlace  l0 i (by first | assumption | omega) (by first | assumption | omega) ?_)
    show zw_Wp l mm_X11_look (zS L) 19 [some (zR 67), some (zI l0), some (zI i), none] [zI (zyL mem l0 i)] mem 0 0 Q
    have hyr : zyL mem l0 i = 0 ∨ zyL mem l0 i = -11 ∨ zyL mem l0 i = -13 := by unfold zyL; omega
    have hy0 : zyL mem l0 i = 0 → 0 ≤ i ∧ i < mem 86 l0 := by unfold zyL; omega
    have hsz := hs l0 (by omega) (by omega)
    refine wp_istore_n (ls2 := [some (zR 67), some (zI l0), some (zI i), some (zI (zyL mem l0 i))]) dd_X11_look_19 rfl (by decide) rfl ?_
    refine wp_iload_n dd_X11_look_20 rfl ?_
    refine wp_if_eq (tgt := 33) dd_X11_look_21 (by decide) (fun c21_2 => ?_) (fun c21_2 => ?_)
    · skip
      have hyi := hy0 (by assumption)
      refine wp_aload_n dd_X11_look_33 rfl ?_
      refine wp_getR dd_X11_look_34 gf_X11_86 rfl kk_67 (by decide) (zlt rfl) rr_67_31 ?_
      refine wp_bipush dd_X11_look_37 (by decide) ?_
      refine wp_iload_n dd_X11_look_39 rfl ?_
      refine wp_imulC dd_X11_look_40 (by omega) ?_
      refine wp_iload_n dd_X11_look_41 rfl ?_
      refine wp_iaddC dd_X11_look_42 (by omega) ?_
      refine wp_iald dd_X11_look_43 kk_87 (zlt rfl) (by omega) (by omega) ?_
      refine wp_i2l dd_X11_look_44 ?_
      refine wp_lreturn (st := []) dd_X11_look_45 rfl ?_
      exact k _ _ (Or.inr ⟨by omega, rfl, Or.inr ⟨by assumption, rfl⟩⟩)
    · skip
      refine wp_ldc2 dd_X11_look_24 kc_X11_7 ?_
      show zw_Wp l mm_X11_look (zS L) 27 [some (zR 67), some (zI l0), some (zI i), some (zI (zyL mem l0 i))] [zJ 4000000000000000000] mem 0 0 Q
      refine wp_iload_n dd_X11_look_27 rfl ?_
      refine wp_i2l dd_X11_look_28 ?_
      refine wp_lsubC dd_X11_look_29 (by omega) ?_
      refine wp_goto (tgt := 45) dd_X11_look_30 (by decide) ?_
      refine wp_lreturn (st := []) dd_X11_look_45 rfl ?_
      exact k _ _ (Or.inr ⟨by omega, rfl, Or.inl ⟨by assumption, rfl⟩⟩)
  · skip
    refine wp_aload_n dd_X11_look_7 rfl ?_
    refine wp_iconst dd_X11_look_8 (zr_lit rfl) ?_
    refine wp_callV (M' := mm_X11_lowest) (As := [zI (-1)]) (rest := []) dd_X11_look_9 lk_X11_305 mV_X11_lowest kk_67 (zlt rfl) ⟨_, _, rfl⟩ rfl (by decide) (by decide) (Nat.le_of_ble_eq_true rfl) rfl (sp_X11_lowest  (-1) (by first | assumption | omega) ?_)
    show zw_Wp l mm_X11_look (zS L) 12 [some (zR 67), some (zI l0), some (zI i), none] [zJ (4000000000000000000 - (-1))] (zu mem 68 (-(-1)) (zwr (mem 68 (-(-1)) + 1))) 0 0 Q
    refine wp_lreturn (st := []) dd_X11_look_12 rfl ?_
    exact k _ _ (Or.inl ⟨by omega, rfl, rfl⟩)

set_option maxRecDepth 100000 in
set_option maxHeartbeats 4000000 in
theorem sp_X11_notListed {l : Launch} {L : Nat} {mem : zMem} {Q : zQ}  (l0 : Int) (a : Int) (b : Int) (le : Int) (tb : Int) (hp : zPr (mem 67 1)) (hn : 0 ≤ mem 67 5 ∧ mem 67 5 ≤ 6) (hTa : ∀ q : Int, 0 ≤ q → q < mem 67 5 → zT mem q) (k : Q (some (zI (if ¬ (0 ≤ l0 ∧ l0 ≤ 2) then -1 else zyB mem a b le tb))) (zS L) mem) : zw_Ok l mm_X11_notListed [zR 67, zI l0, zI a, zI b, zI le, zI tb] (zS L) mem Q := by
  refine zw_okA (fun hA => ?_)
  have rg_l0 : -2147483648 ≤ l0 ∧ l0 < 2147483648 := hA.2.1
  have rg_a : -2147483648 ≤ a ∧ a < 2147483648 := hA.2.2.1
  have rg_b : -2147483648 ≤ b ∧ b < 2147483648 := hA.2.2.2.1
  have rg_le : -2147483648 ≤ le ∧ le < 2147483648 := hA.2.2.2.2.1
  have rg_tb : -2147483648 ≤ tb ∧ tb < 2147483648 := hA.2.2.2.2.2.1
  refine zw_enter (by decide) (Nat.le_of_ble_eq_true rfl) rfl ?_
  show zw_Wp l mm_X11_notListed (zS L) 0 [some (zR 67), some (zI l0), some (zI a), some (zI b), some (zI le), some (zI tb)] [] mem 0 0 Q
  refine wp_iload_n dd_X11_notListed_0 rfl ?_
  refine wp_callS (M' := mm_X11_isList) (As := [zI l0]) (rest := []) dd_X11_notListed_1 lk_X11_322 mS_X11_isList rfl (by decide) (by decide) (Nat.le_of_ble_eq_true rfl) rfl (sp_X11_isList  l0  ?_)
  show zw_Wp l mm_X11_notListed (zS L) 4 [some (zR 67), some (zI l0), some (zI a), some (zI b), some (zI le), some (zI tb)] [zI (if 0 ≤ l0 ∧ l0 ≤ 2 then 1 else 0)] mem 0 0 Q
  refine wp_if_ne (tgt := 11) dd_X11_notListed_4 (by decide) (fun c4_1 => ?_) (fun c4_1 => ?_)
  · skip
    refine wp_aload_n dd_X11_notListed_11 rfl ?_
    refine wp_iload_n dd_X11_notListed_12 rfl ?_
    refine wp_iload_n dd_X11_notListed_13 rfl ?_
    refine wp_iload dd_X11_notListed_14 rfl ?_
    refine wp_iload dd_X11_notListed_16 rfl ?_
    refine wp_callV (M' := mm_X11_notTable) (As := [zI a, zI b, zI le, zI tb]) (rest := []) dd_X11_notListed_18 lk_X11_176 mV_X11_notTable kk_67 (zlt rfl) ⟨_, _, rfl⟩ rfl (by decide) (by decide) (Nat.le_of_ble_eq_true rfl) rfl (sp_X11_notTable  a b le tb (by first | assumption | omega) (by first | assumption | omega) (by first | assumption | omega) ?_)
    show zw_Wp l mm_X11_notListed (zS L) 21 [some (zR 67), some (zI l0), some (zI a), some (zI b), some (zI le), some (zI tb)] [zI (if ¬ ((0 ≤ a ∧ a < mem 67 5) ∧ (0 ≤ b ∧ b < mem 67 5) ∧ 0 ≤ le ∧ le ≤ 1) then -1 else if ¬ (0 ≤ tb ∧ tb ≤ 1) then -2 else if zdeg (zco mem a) 0 25 < 0 ∨ zdeg (zco mem b) 0 25 < 0 then -3 else 0)] mem 0 0 Q
    refine wp_ireturn (st := []) dd_X11_notListed_21 rfl ?_
    refine zq_I ?_ rfl k
    rw [if_neg (show ¬ ¬ (0 ≤ l0 ∧ l0 ≤ 2) by omega)]; rfl
  · skip
    refine wp_iconst dd_X11_notListed_7 (zr_lit rfl) ?_
    refine wp_goto (tgt := 21) dd_X11_notListed_8 (by decide) ?_
    refine wp_ireturn (st := []) dd_X11_notListed_21 rfl ?_
    refine zq_I ?_ rfl k
    rw [if_pos (show ¬ (0 ≤ l0 ∧ l0 ≤ 2) by omega)]

set_option maxRecDepth 100000 in
set_option maxHeartbeats 4000000 in
theorem sp_X11_passOne {l : Launch} {L : Nat} {mem : zMem} {Q : zQ}  (v : Int) (hc : 0 ≤ mem 67 33 ∧ mem 67 33 < 170) (k : Q (some (zI (if mem 67 35 = 0 then mem 88 (mem 67 33) else v))) (zS L) (zu (zu mem 88 (mem 67 33) (if mem 67 35 = 0 then mem 88 (mem 67 33) else v)) 67 33 (mem 67 33 + 1))) : zw_Ok l mm_X11_passOne [zR 67, zI v] (zS L) mem Q := by
  refine zw_okA (fun hA => ?_)
  have rg_v : -2147483648 ≤ v ∧ v < 2147483648 := hA.2.1
  refine zw_enter (by decide) (Nat.le_of_ble_eq_true rfl) rfl ?_
  show zw_Wp l mm_X11_passOne (zS L) 0 [some (zR 67), some (zI v), none] [] mem 0 0 Q
  refine wp_aload_n dd_X11_passOne_0 rfl ?_
  refine wp_getZ 35 rfl dd_X11_passOne_1 gf_X11_332 rfl kk_67 (by decide) (zlt rfl) ?_
  refine wp_if_eq (tgt := 11) dd_X11_passOne_4 (by decide) (fun c4_1 => ?_) (fun c4_1 => ?_)
  · skip
    refine wp_aload_n dd_X11_passOne_11 rfl ?_
    refine wp_getR dd_X11_passOne_12 gf_X11_89 rfl kk_67 (by decide) (zlt rfl) rr_67_32 ?_
    refine wp_aload_n dd_X11_passOne_15 rfl ?_
    refine wp_getZ 33 rfl dd_X11_passOne_16 gf_X11_336 rfl kk_67 (by decide) (zlt rfl) ?_
    refine wp_iald dd_X11_passOne_19 kk_88 (zlt rfl) (by omega) (by omega) ?_
    refine wp_istore_n (ls2 := [some (zR 67), some (zI v), some (zI (mem 88 (mem 67 33)))]) dd_X11_passOne_20 rfl (by decide) rfl ?_
    refine wp_aload_n dd_X11_passOne_21 rfl ?_
    refine wp_getR dd_X11_passOne_22 gf_X11_89 rfl kk_67 (by decide) (zlt rfl) rr_67_32 ?_
    refine wp_aload_n dd_X11_passOne_25 rfl ?_
    refine wp_getZ 33 rfl dd_X11_passOne_26 gf_X11_336 rfl kk_67 (by decide) (zlt rfl) ?_
    refine wp_iload_n dd_X11_passOne_29 rfl ?_
    refine wp_iast dd_X11_passOne_30 kk_88 (zlt rfl) (by omega) (by omega) ?_
    refine wp_aload_n dd_X11_passOne_31 rfl ?_
    refine wp_dup dd_X11_passOne_32 rfl ?_
    refine wp_getV 33 (v := mem 67 33) rfl (by rw [zu_row (by decide)]) dd_X11_passOne_33 gf_X11_336 rfl kk_67 (by decide) (zlt rfl) ?_
    refine wp_iconst dd_X11_passOne_36 (zr_lit rfl) ?_
    refine wp_iaddC dd_X11_passOne_37 (by omega) ?_
    refine wp_putzI 33 rfl dd_X11_passOne_38 pf_X11_336 rfl kk_67 (by decide) (zlt rfl) ?_
    refine wp_iload_n dd_X11_passOne_41 rfl ?_
    refine wp_ireturn (st := []) dd_X11_passOne_42 rfl ?_
    refine zq_I ?_ ?_ k
    · first | rw [if_pos (by assumption)] | rw [if_neg (by assumption)]
    · first | rw [if_pos (by assumption)] | rw [if_neg (by assumption)]
  · skip
    refine wp_iload_n dd_X11_passOne_7 rfl ?_
    refine wp_goto (tgt := 20) dd_X11_passOne_8 (by decide) ?_
    refine wp_istore_n (ls2 := [some (zR 67), some (zI v), some (zI v)]) dd_X11_passOne_20 rfl (by decide) rfl ?_
    refine wp_aload_n dd_X11_passOne_21 rfl ?_
    refine wp_getR dd_X11_passOne_22 gf_X11_89 rfl kk_67 (by decide) (zlt rfl) rr_67_32 ?_
    refine wp_aload_n dd_X11_passOne_25 rfl ?_
    refine wp_getZ 33 rfl dd_X11_passOne_26 gf_X11_336 rfl kk_67 (by decide) (zlt rfl) ?_
    refine wp_iload_n dd_X11_passOne_29 rfl ?_
    refine wp_iast dd_X11_passOne_30 kk_88 (zlt rfl) (by omega) (by omega) ?_
    refine wp_aload_n dd_X11_passOne_31 rfl ?_
    refine wp_dup dd_X11_passOne_32 rfl ?_
    refine wp_getV 33 (v := mem 67 33) rfl (by rw [zu_row (by decide)]) dd_X11_passOne_33 gf_X11_336 rfl kk_67 (by decide) (zlt rfl) ?_
    refine wp_iconst dd_X11_passOne_36 (zr_lit rfl) ?_
    refine wp_iaddC dd_X11_passOne_37 (by omega) ?_
    refine wp_putzI 33 rfl dd_X11_passOne_38 pf_X11_336 rfl kk_67 (by decide) (zlt rfl) ?_
    refine wp_iload_n dd_X11_passOne_41 rfl ?_
    refine wp_ireturn (st := []) dd_X11_passOne_42 rfl ?_
    refine zq_I ?_ ?_ k
    · first | rw [if_pos (by assumption)] | rw [if_neg (by assumption)]
    · first | rw [if_pos (by assumption)] | rw [if_neg (by assumption)]

/-! passesAll is walked in the next part -/

/-! ===== the reference: the product comes ===== -/
/-- what was read comes as one more polynomial -/
def zcome (mem mem2 : zMem) : Prop := mem2 67 5 = mem 67 5 + 1 ∧ mem2 67 8 = 0 ∧ (∀ s : Int, s ≠ 5 → s ≠ 8 → mem2 67 s = mem 67 s) ∧ (∀ x : Int, mem2 69 x = if 25 * mem 67 5 ≤ x ∧ x < 25 * mem 67 5 + 25 then mem 75 (x - 25 * mem 67 5) else mem 69 x) ∧ (∀ x : Int, mem2 70 x = (if x = mem 67 5 then 0 else mem 70 x) ∧ mem2 71 x = (if x = mem 67 5 then 0 else mem 71 x)) ∧ ∀ a : Nat, a ≠ 67 → a ≠ 69 → a ≠ 70 → a ≠ 71 → mem2 a = mem a

set_option maxRecDepth 100000 in
set_option maxHeartbeats 4000000 in
theorem sp_X11_product {l : Launch} {L : Nat} {mem : zMem} {Q : zQ}  (a : Int) (b : Int) (hp : zPr (mem 67 1)) (hn : 0 ≤ mem 67 5 ∧ mem 67 5 ≤ 6) (hTa : ∀ q : Int, 0 ≤ q → q < mem 67 5 → zT mem q) (k : ∀ (r : Int) (mem2 : zMem), ((¬ ((0 ≤ a ∧ a < mem 67 5) ∧ (0 ≤ b ∧ b < mem 67 5)) ∧ r = -1 ∧ mem2 = zno mem (-1)) ∨ (((0 ≤ a ∧ a < mem 67 5) ∧ (0 ≤ b ∧ b < mem 67 5)) ∧ mem 67 5 = 6 ∧ r = -6 ∧ mem2 = zno mem (-6)) ∨ (((0 ≤ a ∧ a < mem 67 5) ∧ (0 ≤ b ∧ b < mem 67 5)) ∧ mem 67 5 < 6 ∧ ∃ (o : Int) (m1 : zMem), (∀ u v : Int, 0 ≤ u → u < 5 → 0 ≤ v → v < 5 → m1 75 (5 * u + v) = zZ (zco mem a) (zco mem b) (mem 67 1) u v) ∧ zOk (zZ (zco mem a) (zco mem b) (mem 67 1)) o 9 0 ∧ (∀ q : Nat, q ≠ 75 → m1 q = mem q) ∧ ((o = 0 ∧ r = -3 ∧ mem2 = zno m1 (-3)) ∨ (o ≠ 0 ∧ r = mem 67 5 ∧ zcome m1 mem2)))) → Q (some (zI r)) (zS L) mem2) : zw_Ok l mm_X11_product [zR 67, zI a, zI b] (zS L) mem Q := by
  refine zw_okA (fun hA => ?_)
  have rg_a : -2147483648 ≤ a ∧ a < 2147483648 := hA.2.1
  have rg_b : -2147483648 ≤ b ∧ b < 2147483648 := hA.2.2.1
  refine zw_enter (by decide) (Nat.le_of_ble_eq_true rfl) rfl ?_
  show zw_Wp l mm_X11_product (zS L) 0 [some (zR 67), some (zI a), some (zI b), none] [] mem 0 0 Q
  have hpr := hp.rg
  refine wp_aload_n dd_X11_product_0 rfl ?_
  refine wp_iload_n dd_X11_product_1 rfl ?_
  refine wp_iload_n dd_X11_product_2 rfl ?_
  refine wp_iconst dd_X11_product_3 (zr_lit rfl) ?_
  refine wp_callV (M' := mm_X11_notTwo) (As := [zI a, zI b, zI 0]) (rest := []) dd_X11_product_4 lk_X11_170 mV_X11_notTwo kk_67 (zlt rfl) ⟨_, _, rfl⟩ rfl (by decide) (by decide) (Nat.le_of_ble_eq_true rfl) rfl (sp_X11_notTwo  a b 0 (by first | assumption | omega) ?_)
  show zw_Wp l mm_X11_product (zS L) 7 [some (zR 67), some (zI a), some (zI b), none] [zI (if (0 ≤ a ∧ a < mem 67 5) ∧ (0 ≤ b ∧ b < mem 67 5) ∧ 0 ≤ 0 ∧ 0 ≤ 1 then 0 else -1)] mem 0 0 Q
  refine wp_if_eq (tgt := 14) dd_X11_product_7 (by decide) (fun c7_1 => ?_) (fun c7_1 => ?_)
  · skip
    refine wp_aload_n dd_X11_product_14 rfl ?_
    refine wp_getZ 5 rfl dd_X11_product_15 gf_X11_95 rfl kk_67 (by decide) (zlt rfl) ?_
    refine wp_bipush dd_X11_product_18 (by decide) ?_
    refine wp_icmp_ne (tgt := 28) dd_X11_product_20 (by decide) (fun c20_2 => ?_) (fun c20_2 => ?_)
    · skip
      refine wp_iconst dd_X11_product_28 (zr_lit rfl) ?_
      refine wp_istore_n (ls2 := [some (zR 67), some (zI a), some (zI b), some (zI 0)]) dd_X11_product_29 rfl (by decide) rfl ?_
      refine wp_iload_n dd_X11_product_30 rfl ?_
      refine wp_if_ne (tgt := 46) dd_X11_product_31 (by decide) (fun c31_3 => absurd c31_3 (by decide)) (fun c31_3 => ?_)
      refine wp_aload_n dd_X11_product_34 rfl ?_
      refine wp_iload_n dd_X11_product_35 rfl ?_
      refine wp_iload_n dd_X11_product_36 rfl ?_
      refine wp_callV (M' := mm_X11_multiplies) (As := [zI a, zI b]) (rest := []) dd_X11_product_37 lk_X11_301 mV_X11_multiplies kk_67 (zlt rfl) ⟨_, _, rfl⟩ rfl (by decide) (by decide) (Nat.le_of_ble_eq_true rfl) rfl (sp_X11_multiplies  a b hp (hTa a (by omega) (by omega)) (hTa b (by omega) (by omega)) (fun o me f1 o1 g1 => ?_))
      show zw_Wp l mm_X11_product (zS L) 40 [some (zR 67), some (zI a), some (zI b), some (zI 0)] [zI o] me 0 0 Q
      have h67 : me 67 = mem 67 := g1 67 (by decide)
      refine wp_if_ne (tgt := 46) dd_X11_product_40 (by decide) (fun c40_4 => ?_) (fun c40_4 => ?_)
      · skip
        refine wp_iload_n dd_X11_product_46 rfl ?_
        refine wp_if_eq (tgt := 58) dd_X11_product_47 (by decide) (fun c47_5 => ?_) (fun c47_5 => absurd c47_5 (by decide))
        refine wp_aload_n dd_X11_product_58 rfl ?_
        refine wp_callV (M' := mm_X11_comes) (As := []) (rest := []) dd_X11_product_59 lk_X11_147 mV_X11_comes kk_67 (zlt rfl) ⟨_, _, rfl⟩ rfl (by decide) (by decide) (Nat.le_of_ble_eq_true rfl) rfl (sp_X11_comes   (by rw [h67]; omega) (fun mf f2 => ?_))
        show zw_Wp l mm_X11_product (zS L) 62 [some (zR 67), some (zI a), some (zI b), some (zI 0)] [zI (me 67 5)] mf 0 0 Q
        refine wp_ireturn (st := []) dd_X11_product_62 rfl ?_
        exact k _ _ (Or.inr (Or.inr ⟨by omega, by omega, o, me, f1, o1, g1, Or.inr ⟨by omega, by rw [h67], f2⟩⟩))
      · skip
        refine wp_bipush dd_X11_product_43 (by decide) ?_
        refine wp_istore_n (ls2 := [some (zR 67), some (zI a), some (zI b), some (zI (-3))]) dd_X11_product_45 rfl (by decide) rfl ?_
        refine wp_iload_n dd_X11_product_46 rfl ?_
        refine wp_if_eq (tgt := 58) dd_X11_product_47 (by decide) (fun c47_6 => absurd c47_6 (by decide)) (fun c47_6 => ?_)
        refine wp_aload_n dd_X11_product_50 rfl ?_
        refine wp_iload_n dd_X11_product_51 rfl ?_
        refine wp_callV (M' := mm_X11_no) (As := [zI (-3)]) (rest := []) dd_X11_product_52 lk_X11_120 mV_X11_no kk_67 (zlt rfl) ⟨_, _, rfl⟩ rfl (by decide) (by decide) (Nat.le_of_ble_eq_true rfl) rfl (sp_X11_no  (-3) (by first | assumption | omega) ?_)
        show zw_Wp l mm_X11_product (zS L) 55 [some (zR 67), some (zI a), some (zI b), some (zI (-3))] [zI (-3)] (zu me 68 (-(-3)) (zwr (me 68 (-(-3)) + 1))) 0 0 Q
        refine wp_goto (tgt := 62) dd_X11_product_55 (by decide) ?_
        refine wp_ireturn (st := []) dd_X11_product_62 rfl ?_
        exact k _ _ (Or.inr (Or.inr ⟨by omega, by omega, o, me, f1, o1, g1, Or.inl ⟨by omega, rfl, rfl⟩⟩))
    · skip
      refine wp_bipush dd_X11_product_23 (by decide) ?_
      refine wp_goto (tgt := 29) dd_X11_product_25 (by decide) ?_
      refine wp_istore_n (ls2 := [some (zR 67), some (zI a), some (zI b), some (zI (-6))]) dd_X11_product_29 rfl (by decide) rfl ?_
      refine wp_iload_n dd_X11_product_30 rfl ?_
      refine wp_if_ne (tgt := 46) dd_X11_product_31 (by decide) (fun c31_7 => ?_) (fun c31_7 => absurd c31_7 (by decide))
      refine wp_iload_n dd_X11_product_46 rfl ?_
      refine wp_if_eq (tgt := 58) dd_X11_product_47 (by decide) (fun c47_8 => absurd c47_8 (by decide)) (fun c47_8 => ?_)
      refine wp_aload_n dd_X11_product_50 rfl ?_
      refine wp_iload_n dd_X11_product_51 rfl ?_
      refine wp_callV (M' := mm_X11_no) (As := [zI (-6)]) (rest := []) dd_X11_product_52 lk_X11_120 mV_X11_no kk_67 (zlt rfl) ⟨_, _, rfl⟩ rfl (by decide) (by decide) (Nat.le_of_ble_eq_true rfl) rfl (sp_X11_no  (-6) (by first | assumption | omega) ?_)
      show zw_Wp l mm_X11_product (zS L) 55 [some (zR 67), some (zI a), some (zI b), some (zI (-6))] [zI (-6)] (zu mem 68 (-(-6)) (zwr (mem 68 (-(-6)) + 1))) 0 0 Q
      refine wp_goto (tgt := 62) dd_X11_product_55 (by decide) ?_
      refine wp_ireturn (st := []) dd_X11_product_62 rfl ?_
      exact k _ _ (Or.inr (Or.inl ⟨by omega, by omega, rfl, rfl⟩))
  · skip
    refine wp_iconst dd_X11_product_10 (zr_lit rfl) ?_
    refine wp_goto (tgt := 29) dd_X11_product_11 (by decide) ?_
    refine wp_istore_n (ls2 := [some (zR 67), some (zI a), some (zI b), some (zI (-1))]) dd_X11_product_29 rfl (by decide) rfl ?_
    refine wp_iload_n dd_X11_product_30 rfl ?_
    refine wp_if_ne (tgt := 46) dd_X11_product_31 (by decide) (fun c31_9 => ?_) (fun c31_9 => absurd c31_9 (by decide))
    refine wp_iload_n dd_X11_product_46 rfl ?_
    refine wp_if_eq (tgt := 58) dd_X11_product_47 (by decide) (fun c47_10 => absurd c47_10 (by decide)) (fun c47_10 => ?_)
    refine wp_aload_n dd_X11_product_50 rfl ?_
    refine wp_iload_n dd_X11_product_51 rfl ?_
    refine wp_callV (M' := mm_X11_no) (As := [zI (-1)]) (rest := []) dd_X11_product_52 lk_X11_120 mV_X11_no kk_67 (zlt rfl) ⟨_, _, rfl⟩ rfl (by decide) (by decide) (Nat.le_of_ble_eq_true rfl) rfl (sp_X11_no  (-1) (by first | assumption | omega) ?_)
    show zw_Wp l mm_X11_product (zS L) 55 [some (zR 67), some (zI a), some (zI b), some (zI (-1))] [zI (-1)] (zu mem 68 (-(-1)) (zwr (mem 68 (-(-1)) + 1))) 0 0 Q
    refine wp_goto (tgt := 62) dd_X11_product_55 (by decide) ?_
    refine wp_ireturn (st := []) dd_X11_product_62 rfl ?_
    exact k _ _ (Or.inl ⟨by omega, rfl, rfl⟩)


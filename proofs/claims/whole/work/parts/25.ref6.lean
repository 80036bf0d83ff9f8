/-! ===== the reference: image, undo, counts, lots ===== -/
def zbor (a b : Int) : Int := (Int32.ofInt a ||| Int32.ofInt b).toInt
theorem zbor_rg (a b : Int) : zw_r32 (zbor a b) := zr_of _
theorem zbor_0 {a : Int} (h : zw_r32 a) : zbor a 0 = a := by
  unfold zbor
  rw [zo_0, Int32.or_zero, zt_of h]
def zcA (mem : zMem) : Nat → Int
  | 0 => 0
  | n + 1 => zcA mem n + zcnt (zco mem n) 25
theorem zcA_rg {mem : zMem} : ∀ n : Nat, 0 ≤ zcA mem n ∧ zcA mem n ≤ 25 * n
  | 0 => ⟨Int.le_refl 0, Int.le_refl 0⟩
  | n + 1 => by
    have h1 := zcA_rg (mem := mem) n
    have h2 := zcnt_rg (f := zco mem n) 25
    unfold zcA
    omega
def zbA (mem : zMem) : Nat → Int
  | 0 => 0
  | n + 1 => if zdeg (zco mem n) 0 25 < 0 then zbor (zbA mem n) (1 * 2 ^ n) else zbA mem n
theorem zbA_rg {mem : zMem} : ∀ n : Nat, zw_r32 (zbA mem n)
  | 0 => z32_0
  | n + 1 => by
    unfold zbA
    split
    · exact zbor_rg _ _
    · exact zbA_rg n
theorem z2_le {n : Int} (h : 0 ≤ n) (h1 : n ≤ 30) : (0 : Int) < 1 * 2 ^ n.toNat ∧ (1 : Int) * 2 ^ n.toNat < 2147483648 := by
  have : ∀ m ∈ List.range 31, (0 : Int) < 1 * 2 ^ m ∧ (1 : Int) * 2 ^ m < 2147483648 := by decide +kernel
  exact this n.toNat (List.mem_range.mpr (by omega))
def zUv (mem : zMem) : Prop := ∀ k : Int, 0 ≤ k → k < mem 67 8 → (-6 ≤ mem 72 k ∧ mem 72 k ≤ -1 ∧ 0 ≤ mem 73 k) ∨ (0 ≤ mem 72 k ∧ mem 72 k < 150)
def zdr (z : Int) : Int := zwr (zwr (z * 1664525) + 1013904223)
def zdv (z : Int) : Int := (Int32.ofInt z &&& Int32.ofInt 2147483647).toInt
theorem zdv_rg (z : Int) : 0 ≤ zdv z ∧ zdv z < 2147483648 := by
  unfold zdv
  have h := pk_andE (Int32.ofInt z) (m := Int32.ofInt 2147483647) 31 (by decide +kernel)
  obtain ⟨j, h1, h2⟩ := h
  rw [h2, nI_toInt h1]
  omega

set_option maxRecDepth 100000 in
set_option maxHeartbeats 4000000 in
theorem sp_X11_image {l : Launch} {L : Nat} {mem : zMem} {Q : zQ}    (k : ∀ (r : Int) (mem2 : zMem), (r = mem 67 5 ∧ mem2 67 34 = mem 67 5 ∧ mem2 67 1 = mem 67 1 ∧ mem2 67 5 = mem 67 5 ∧ (∀ x : Int, 0 ≤ x → x < 164 → mem2 88 x = zsrc mem x) ∧ (∀ x : Int, 0 ≤ x → x < 6 → mem2 70 x = mem 70 x ∧ mem2 71 x = mem 71 x) ∧ (∀ x : Int, 0 ≤ x → x < 150 → mem2 69 x = mem 69 x)) → ((∀ a : Nat, a ≠ 67 → a ≠ 69 → a ≠ 70 → a ≠ 71 → a ≠ 88 → mem2 a = mem a) ∧ ∀ s : Int, s ≠ 1 → s ≠ 5 → s ≠ 33 → s ≠ 34 → s ≠ 35 → mem2 67 s = mem 67 s) → Q (some (zI r)) (zS L) mem2) : zw_Ok l mm_X11_image [zR 67] (zS L) mem Q := by
  refine zw_enter (by decide) (Nat.le_of_ble_eq_true rfl) rfl ?_
  show zw_Wp l mm_X11_image (zS L) 0 [some (zR 67)] [] mem 0 0 Q
  refine wp_aload_n dd_X11_image_0 rfl ?_
  refine wp_iconst dd_X11_image_1 (zr_lit rfl) ?_
  refine wp_callV (M' := mm_X11_passesAll) (As := [zI 1]) (rest := []) dd_X11_image_2 lk_X11_342 mV_X11_passesAll kk_67 (zlt rfl) ⟨_, _, rfl⟩ rfl (by decide) (by decide) (Nat.le_of_ble_eq_true rfl) rfl (sp_X11_passesAll  1 (by decide) (fun me f g => ?_))
  show zw_Wp l mm_X11_image (zS L) 5 [some (zR 67)] [] me 0 0 Q
  refine wp_aload_n dd_X11_image_5 rfl ?_
  refine wp_aload_n dd_X11_image_6 rfl ?_
  refine wp_getZ 5 rfl dd_X11_image_7 gf_X11_95 rfl kk_67 (by decide) (zlt rfl) ?_
  refine wp_putzI 34 rfl dd_X11_image_10 pf_X11_92 rfl kk_67 (by decide) (zlt rfl) ?_
  refine wp_aload_n dd_X11_image_13 rfl ?_
  refine wp_getV 5 (v := me 67 5) rfl (by rw [zu_n (Or.inr (by decide))]) dd_X11_image_14 gf_X11_95 rfl kk_67 (by decide) (zlt rfl) ?_
  refine wp_ireturn (st := []) dd_X11_image_17 rfl ?_
  obtain ⟨f1, f2, f3, f4, f5⟩ := f
  have w1 : ∀ x, zW mem 1 x = zsrc mem x := fun x => by unfold zW; rw [if_neg (by decide)]
  have e5 : me 67 5 = mem 67 5 := by rw [f2, w1]; rfl
  refine k _ _ ⟨e5, ?_, ?_, ?_, fun x q1 q2 => ?_, fun x q1 q2 => ?_, fun x q1 q2 => ?_⟩ ⟨fun a h1 h2 h3 h4 h5 => ?_, fun s h1 h2 h3 h4 h5 => ?_⟩
  · rw [zu_s, e5]
  · rw [zu_n (Or.inr (by decide)), f1, w1]; rfl
  · rw [zu_n (Or.inr (by decide)), e5]
  · rw [zu_row (by decide), f3 x q1 q2, w1]
  · rw [zu_row (by decide), zu_row (by decide), (f4 x q1 q2).1, (f4 x q1 q2).2, zW_2 ⟨q1, q2⟩, zW_3 ⟨q1, q2⟩, if_neg (by decide), if_neg (by decide)]; exact ⟨rfl, rfl⟩
  · rw [zu_row (by decide), f5 x q1 q2, zW_14 q1, if_neg (by decide)]
  · rw [zu_row h1]; exact g.1 a h1 h2 h3 h4 h5
  · rw [zu_n (Or.inr h4)]; exact g.2 s h1 h2 h3 h5

set_option maxRecDepth 100000 in
set_option maxHeartbeats 4000000 in
theorem sp_X11_on {l : Launch} {L : Nat} {mem : zMem} {Q : zQ}    (k : ∀ (r : Int) (mem2 : zMem), ((mem 67 34 < 0 ∧ r = -3 ∧ mem2 = zno mem (-3)) ∨ (0 ≤ mem 67 34 ∧ r = mem 88 1 ∧ mem2 67 1 = mem 88 0 ∧ mem2 67 5 = mem 88 1 ∧ mem2 67 8 = 0 ∧ (∀ x : Int, 0 ≤ x → x < 164 → mem2 88 x = mem 88 x) ∧ (∀ x : Int, 0 ≤ x → x < 6 → mem2 70 x = mem 88 (2 + 2 * x) ∧ mem2 71 x = mem 88 (3 + 2 * x)) ∧ (∀ x : Int, 0 ≤ x → x < 150 → mem2 69 x = mem 88 (14 + x)) ∧ (∀ a : Nat, a ≠ 67 → a ≠ 69 → a ≠ 70 → a ≠ 71 → a ≠ 88 → mem2 a = mem a) ∧ ∀ s : Int, s ≠ 1 → s ≠ 5 → s ≠ 33 → s ≠ 8 → s ≠ 35 → mem2 67 s = mem 67 s)) → Q (some (zI r)) (zS L) mem2) : zw_Ok l mm_X11_on [zR 67] (zS L) mem Q := by
  refine zw_enter (by decide) (Nat.le_of_ble_eq_true rfl) rfl ?_
  show zw_Wp l mm_X11_on (zS L) 0 [some (zR 67)] [] mem 0 0 Q
  refine wp_aload_n dd_X11_on_0 rfl ?_
  refine wp_getZ 34 rfl dd_X11_on_1 gf_X11_92 rfl kk_67 (by decide) (zlt rfl) ?_
  refine wp_if_ge (tgt := 14) dd_X11_on_4 (by decide) (fun c4_1 => ?_) (fun c4_1 => ?_)
  · skip
    refine wp_aload_n dd_X11_on_14 rfl ?_
    refine wp_iconst dd_X11_on_15 (zr_lit rfl) ?_
    refine wp_callV (M' := mm_X11_passesAll) (As := [zI 0]) (rest := []) dd_X11_on_16 lk_X11_342 mV_X11_passesAll kk_67 (zlt rfl) ⟨_, _, rfl⟩ rfl (by decide) (by decide) (Nat.le_of_ble_eq_true rfl) rfl (sp_X11_passesAll  0 (by decide) (fun me f g => ?_))
    show zw_Wp l mm_X11_on (zS L) 19 [some (zR 67)] [] me 0 0 Q
    refine wp_aload_n dd_X11_on_19 rfl ?_
    refine wp_iconst dd_X11_on_20 (zr_lit rfl) ?_
    refine wp_putzI 8 rfl dd_X11_on_21 pf_X11_117 rfl kk_67 (by decide) (zlt rfl) ?_
    refine wp_aload_n dd_X11_on_24 rfl ?_
    refine wp_getV 5 (v := me 67 5) rfl (by rw [zu_n (Or.inr (by decide))]) dd_X11_on_25 gf_X11_95 rfl kk_67 (by decide) (zlt rfl) ?_
    refine wp_ireturn (st := []) dd_X11_on_28 rfl ?_
    obtain ⟨f1, f2, f3, f4, f5⟩ := f
    have w1 : ∀ x, zW mem 0 x = mem 88 x := fun x => by unfold zW; rw [if_pos rfl]
    rw [w1] at f1 f2
    refine k _ _ (Or.inr ⟨by omega, f2, ?_, ?_, zu_s, fun x q1 q2 => ?_, fun x q1 q2 => ?_, fun x q1 q2 => ?_, fun a h1 h2 h3 h4 h5 => ?_, fun s h1 h2 h3 h4 h5 => ?_⟩)
    · rw [zu_n (Or.inr (by decide)), f1]
    · rw [zu_n (Or.inr (by decide)), f2]
    · rw [zu_row (by decide), f3 x q1 q2, w1]
    · rw [zu_row (by decide), zu_row (by decide), (f4 x q1 q2).1, (f4 x q1 q2).2, w1, w1]; exact ⟨rfl, rfl⟩
    · rw [zu_row (by decide), f5 x q1 q2, w1]
    · rw [zu_row h1]; exact g.1 a h1 h2 h3 h4 h5
    · rw [zu_n (Or.inr h4)]; exact g.2 s h1 h2 h3 h5
  · skip
    refine wp_aload_n dd_X11_on_7 rfl ?_
    refine wp_bipush dd_X11_on_8 (by decide) ?_
    refine wp_callV (M' := mm_X11_no) (As := [zI (-3)]) (rest := []) dd_X11_on_10 lk_X11_120 mV_X11_no kk_67 (zlt rfl) ⟨_, _, rfl⟩ rfl (by decide) (by decide) (Nat.le_of_ble_eq_true rfl) rfl (sp_X11_no  (-3) (by first | assumption | omega) ?_)
    show zw_Wp l mm_X11_on (zS L) 13 [some (zR 67)] [zI (-3)] (zu mem 68 (-(-3)) (zwr (mem 68 (-(-3)) + 1))) 0 0 Q
    refine wp_ireturn (st := []) dd_X11_on_13 rfl ?_
    exact k _ _ (Or.inl ⟨by omega, rfl, rfl⟩)

set_option maxRecDepth 100000 in
set_option maxHeartbeats 4000000 in
theorem sp_X11_undo {l : Launch} {L : Nat} {mem : zMem} {Q : zQ}   (hu : 0 ≤ mem 67 8 ∧ mem 67 8 ≤ 16) (hv : zUv mem) (k : ∀ (r : Int) (mem2 : zMem), ((mem 67 8 = 0 ∧ r = -3 ∧ mem2 = zno mem (-3)) ∨ (0 < mem 67 8 ∧ r = mem 67 8 - 1 ∧ ((mem 72 (mem 67 8 - 1) < 0 ∧ mem2 = zu (zu (zu mem 67 8 (mem 67 8 - 1)) 70 (-1 - mem 72 (mem 67 8 - 1)) (mem 73 (mem 67 8 - 1) / 10)) 71 (-1 - mem 72 (mem 67 8 - 1)) (mem 73 (mem 67 8 - 1) % 10)) ∨ (0 ≤ mem 72 (mem 67 8 - 1) ∧ mem2 = zu (zu mem 67 8 (mem 67 8 - 1)) 69 (mem 72 (mem 67 8 - 1)) (mem 73 (mem 67 8 - 1)))))) → Q (some (zI r)) (zS L) mem2) : zw_Ok l mm_X11_undo [zR 67] (zS L) mem Q := by
  refine zw_enter (by decide) (Nat.le_of_ble_eq_true rfl) rfl ?_
  show zw_Wp l mm_X11_undo (zS L) 0 [some (zR 67), none] [] mem 0 0 Q
  refine wp_aload_n dd_X11_undo_0 rfl ?_
  refine wp_getZ 8 rfl dd_X11_undo_1 gf_X11_117 rfl kk_67 (by decide) (zlt rfl) ?_
  refine wp_if_ne (tgt := 14) dd_X11_undo_4 (by decide) (fun c4_1 => ?_) (fun c4_1 => ?_)
  · skip
    refine wp_rg (fun hrg => ?_)
    have hr73 := hrg 73 (mem 67 8 - 1)
    have hv1 := hv (mem 67 8 - 1) (by omega) (by omega)
    refine wp_aload_n dd_X11_undo_14 rfl ?_
    refine wp_dup dd_X11_undo_15 rfl ?_
    refine wp_getZ 8 rfl dd_X11_undo_16 gf_X11_117 rfl kk_67 (by decide) (zlt rfl) ?_
    refine wp_iconst dd_X11_undo_19 (zr_lit rfl) ?_
    refine wp_isubC dd_X11_undo_20 (by omega) ?_
    refine wp_putzI 8 rfl dd_X11_undo_21 pf_X11_117 rfl kk_67 (by decide) (zlt rfl) ?_
    refine wp_aload_n dd_X11_undo_24 rfl ?_
    refine wp_getR dd_X11_undo_25 gf_X11_40 rfl kk_67 (by decide) (zlt rfl) rr_67_6 ?_
    refine wp_aload_n dd_X11_undo_28 rfl ?_
    refine wp_getV 8 (v := (mem 67 8) - 1) rfl (by rw [zu_s]) dd_X11_undo_29 gf_X11_117 rfl kk_67 (by decide) (zlt rfl) ?_
    refine wp_ialdV (v := mem 72 ((mem 67 8) - 1)) (by rw [zu_row (by decide)]) dd_X11_undo_32 kk_72 (zlt rfl) (by omega) (by omega) ?_
    refine wp_istore_n (ls2 := [some (zR 67), some (zI (mem 72 ((mem 67 8) - 1)))]) dd_X11_undo_33 rfl (by decide) rfl ?_
    refine wp_iload_n dd_X11_undo_34 rfl ?_
    refine wp_if_ge (tgt := 81) dd_X11_undo_35 (by decide) (fun c35_2 => ?_) (fun c35_2 => ?_)
    · skip
      refine wp_aload_n dd_X11_undo_81 rfl ?_
      refine wp_getR dd_X11_undo_82 gf_X11_31 rfl kk_67 (by decide) (zlt rfl) rr_67_2 ?_
      refine wp_iload_n dd_X11_undo_85 rfl ?_
      refine wp_aload_n dd_X11_undo_86 rfl ?_
      refine wp_getR dd_X11_undo_87 gf_X11_43 rfl kk_67 (by decide) (zlt rfl) rr_67_7 ?_
      refine wp_aload_n dd_X11_undo_90 rfl ?_
      refine wp_getV 8 (v := (mem 67 8) - 1) rfl (by rw [zu_s]) dd_X11_undo_91 gf_X11_117 rfl kk_67 (by decide) (zlt rfl) ?_
      refine wp_ialdV (v := mem 73 ((mem 67 8) - 1)) (by rw [zu_row (by decide)]) dd_X11_undo_94 kk_73 (zlt rfl) (by omega) (by omega) ?_
      refine wp_iast dd_X11_undo_95 kk_69 (zlt rfl) (by omega) (by omega) ?_
      refine wp_aload_n dd_X11_undo_96 rfl ?_
      refine wp_getV 8 (v := (mem 67 8) - 1) rfl (by rw [zu_row (by decide), zu_s]) dd_X11_undo_97 gf_X11_117 rfl kk_67 (by decide) (zlt rfl) ?_
      refine wp_ireturn (st := []) dd_X11_undo_100 rfl ?_
      exact k _ _ (Or.inr ⟨by omega, rfl, Or.inr ⟨by omega, rfl⟩⟩)
    · skip
      refine wp_aload_n dd_X11_undo_38 rfl ?_
      refine wp_getR dd_X11_undo_39 gf_X11_34 rfl kk_67 (by decide) (zlt rfl) rr_67_3 ?_
      refine wp_iconst dd_X11_undo_42 (zr_lit rfl) ?_
      refine wp_iload_n dd_X11_undo_43 rfl ?_
      refine wp_isubC dd_X11_undo_44 (by omega) ?_
      refine wp_aload_n dd_X11_undo_45 rfl ?_
      refine wp_getR dd_X11_undo_46 gf_X11_43 rfl kk_67 (by decide) (zlt rfl) rr_67_7 ?_
      refine wp_aload_n dd_X11_undo_49 rfl ?_
      refine wp_getV 8 (v := (mem 67 8) - 1) rfl (by rw [zu_s]) dd_X11_undo_50 gf_X11_117 rfl kk_67 (by decide) (zlt rfl) ?_
      refine wp_ialdV (v := mem 73 ((mem 67 8) - 1)) (by rw [zu_row (by decide)]) dd_X11_undo_53 kk_73 (zlt rfl) (by omega) (by omega) ?_
      refine wp_bipush dd_X11_undo_54 (by decide) ?_
      refine wp_idivP dd_X11_undo_56 (by omega) (by omega) ?_
      refine wp_iast dd_X11_undo_57 kk_70 (zlt rfl) (by omega) (by omega) ?_
      refine wp_aload_n dd_X11_undo_58 rfl ?_
      refine wp_getR dd_X11_undo_59 gf_X11_37 rfl kk_67 (by decide) (zlt rfl) rr_67_4 ?_
      refine wp_iconst dd_X11_undo_62 (zr_lit rfl) ?_
      refine wp_iload_n dd_X11_undo_63 rfl ?_
      refine wp_isubC dd_X11_undo_64 (by omega) ?_
      refine wp_aload_n dd_X11_undo_65 rfl ?_
      refine wp_getR dd_X11_undo_66 gf_X11_43 rfl kk_67 (by decide) (zlt rfl) rr_67_7 ?_
      refine wp_aload_n dd_X11_undo_69 rfl ?_
      refine wp_getV 8 (v := (mem 67 8) - 1) rfl (by rw [zu_row (by decide), zu_s]) dd_X11_undo_70 gf_X11_117 rfl kk_67 (by decide) (zlt rfl) ?_
      refine wp_ialdV (v := mem 73 ((mem 67 8) - 1)) (by rw [zu_row (by decide), zu_row (by decide)]) dd_X11_undo_73 kk_73 (zlt rfl) (by omega) (by omega) ?_
      refine wp_bipush dd_X11_undo_74 (by decide) ?_
      refine wp_iremP dd_X11_undo_76 (by omega) (by omega) ?_
      refine wp_iast dd_X11_undo_77 kk_71 (zlt rfl) (by omega) (by omega) ?_
      refine wp_goto (tgt := 96) dd_X11_undo_78 (by decide) ?_
      refine wp_aload_n dd_X11_undo_96 rfl ?_
      refine wp_getV 8 (v := (mem 67 8) - 1) rfl (by rw [zu_row (by decide), zu_row (by decide), zu_s]) dd_X11_undo_97 gf_X11_117 rfl kk_67 (by decide) (zlt rfl) ?_
      refine wp_ireturn (st := []) dd_X11_undo_100 rfl ?_
      exact k _ _ (Or.inr ⟨by omega, rfl, Or.inl ⟨by omega, rfl⟩⟩)
  · skip
    refine wp_aload_n dd_X11_undo_7 rfl ?_
    refine wp_bipush dd_X11_undo_8 (by decide) ?_
    refine wp_callV (M' := mm_X11_no) (As := [zI (-3)]) (rest := []) dd_X11_undo_10 lk_X11_120 mV_X11_no kk_67 (zlt rfl) ⟨_, _, rfl⟩ rfl (by decide) (by decide) (Nat.le_of_ble_eq_true rfl) rfl (sp_X11_no  (-3) (by first | assumption | omega) ?_)
    show zw_Wp l mm_X11_undo (zS L) 13 [some (zR 67), none] [zI (-3)] (zu mem 68 (-(-3)) (zwr (mem 68 (-(-3)) + 1))) 0 0 Q
    refine wp_ireturn (st := []) dd_X11_undo_13 rfl ?_
    exact k _ _ (Or.inl ⟨by omega, rfl, rfl⟩)

set_option maxRecDepth 100000 in
set_option maxHeartbeats 4000000 in
theorem sp_X11_count {l : Launch} {L : Nat} {mem : zMem} {Q : zQ}  (w : Int) (hp : zPr (mem 67 1)) (hn : 0 ≤ mem 67 5 ∧ mem 67 5 ≤ 6) (hTa : ∀ q : Int, 0 ≤ q → q < mem 67 5 → zT mem q) (k : ∀ (r : Int), ((11 ≤ w ∧ w ≤ 16 ∧ r = mem 68 (w - 10)) ∨ (w = 0 ∧ r = mem 67 5) ∨ (w = 1 ∧ r = mem 67 1) ∨ (w = 2 ∧ r = zcA mem (mem 67 5).toNat) ∨ (w = 3 ∧ r = mem 67 11) ∨ (w = 4 ∧ r = mem 67 8) ∨ (w = 5 ∧ r = zbA mem (mem 67 5).toNat) ∨ (¬ (11 ≤ w ∧ w ≤ 16) ∧ ¬ (0 ≤ w ∧ w ≤ 5) ∧ r = -9)) → Q (some (zI r)) (zS L) mem) : zw_Ok l mm_X11_count [zR 67, zI w] (zS L) mem Q := by
  refine zw_okA (fun hA => ?_)
  have rg_w : -2147483648 ≤ w ∧ w < 2147483648 := hA.2.1
  refine zw_enter (by decide) (Nat.le_of_ble_eq_true rfl) rfl ?_
  show zw_Wp l mm_X11_count (zS L) 0 [some (zR 67), some (zI w), none, none] [] mem 0 0 Q
  refine wp_iload_n dd_X11_count_0 rfl ?_
  refine wp_bipush dd_X11_count_1 (by decide) ?_
  refine wp_bipush dd_X11_count_3 (by decide) ?_
  refine wp_callS (M' := mm_X11_isIn) (As := [zI w, zI 11, zI 16]) (rest := []) dd_X11_count_5 lk_X11_21 mS_X11_isIn rfl (by decide) (by decide) (Nat.le_of_ble_eq_true rfl) rfl (sp_X11_isIn  w 11 16  ?_)
  show zw_Wp l mm_X11_count (zS L) 8 [some (zR 67), some (zI w), none, none] [zI (if 11 ≤ w ∧ w ≤ 16 then 1 else 0)] mem 0 0 Q
  refine wp_if_eq (tgt := 21) dd_X11_count_8 (by decide) (fun c8_1 => ?_) (fun c8_1 => ?_)
  · skip
    refine wp_iconst dd_X11_count_21 (zr_lit rfl) ?_
    refine wp_istore_n (ls2 := [some (zR 67), some (zI w), some (zI 0), none]) dd_X11_count_22 rfl (by decide) rfl ?_
    refine wp_iload_n dd_X11_count_23 rfl ?_
    by_cases w24_2c0 : w = 0
    · skip
      refine wp_tabIn (tgt := 64) (off := 40) dd_X11_count_24 (by omega) (by omega) (by rw [w24_2c0]; rfl) (by decide) ?_
      refine wp_aload_n dd_X11_count_64 rfl ?_
      refine wp_getZ 5 rfl dd_X11_count_65 gf_X11_95 rfl kk_67 (by decide) (zlt rfl) ?_
      refine wp_ireturn (st := []) dd_X11_count_68 rfl ?_
      exact k _ (Or.inr (Or.inl ⟨by assumption, rfl⟩))
    by_cases w24_2c1 : w = 1
    · skip
      refine wp_tabIn (tgt := 69) (off := 45) dd_X11_count_24 (by omega) (by omega) (by rw [w24_2c1]; rfl) (by decide) ?_
      refine wp_aload_n dd_X11_count_69 rfl ?_
      refine wp_getZ 1 rfl dd_X11_count_70 gf_X11_9 rfl kk_67 (by decide) (zlt rfl) ?_
      refine wp_ireturn (st := []) dd_X11_count_73 rfl ?_
      exact k _ (Or.inr (Or.inr (Or.inl ⟨by assumption, rfl⟩)))
    by_cases w24_2c2 : w = 2
    · skip
      refine wp_tabIn (tgt := 74) (off := 50) dd_X11_count_24 (by omega) (by omega) (by rw [w24_2c2]; rfl) (by decide) ?_
      refine wp_iconst dd_X11_count_74 (zr_lit rfl) ?_
      refine wp_istore_n (ls2 := [some (zR 67), some (zI w), some (zI 0), some (zI 0)]) dd_X11_count_75 rfl (by decide) rfl ?_
      have lp76 : ∀ (nf : Nat) (a : Int) (q : Int), (0 ≤ q) → (q ≤ mem 67 5) → (a = zcA mem q.toNat) → (mem 67 5 - q) < (nf : Int) → zw_Wp l mm_X11_count (zS L) 76 [some (zR 67), some (zI w), some (zI a), some (zI q)] [] mem 0 0 Q := by
        intro nf
        induction nf with
        | zero =>
          intro a q h0 h1 h2 hmu
          exfalso; omega
        | succ nf ih76 =>
          intro a q h0 h1 h2 hmu
          have hca := zcA_rg (mem := mem) q.toNat
          refine wp_iload_n dd_X11_count_76 rfl ?_
          refine wp_aload_n dd_X11_count_77 rfl ?_
          refine wp_getZ 5 rfl dd_X11_count_78 gf_X11_95 rfl kk_67 (by decide) (zlt rfl) ?_
          refine wp_icmp_ge (tgt := 98) dd_X11_count_81 (by decide) (fun c81_3 => ?_) (fun c81_3 => ?_)
          · skip
            refine wp_iload_n dd_X11_count_98 rfl ?_
            refine wp_ireturn (st := []) dd_X11_count_99 rfl ?_
            exact k _ (Or.inr (Or.inr (Or.inr (Or.inl ⟨by assumption, by rw [h2, show q = mem 67 5 by omega]⟩))))
          · skip
            refine wp_iload_n dd_X11_count_84 rfl ?_
            refine wp_aload_n dd_X11_count_85 rfl ?_
            refine wp_iload_n dd_X11_count_86 rfl ?_
            refine wp_callV (M' := mm_X11_termsOf) (As := [zI q]) (rest := [zI a]) dd_X11_count_87 lk_X11_164 mV_X11_termsOf kk_67 (zlt rfl) ⟨_, _, rfl⟩ rfl (by decide) (by decide) (Nat.le_of_ble_eq_true rfl) rfl (sp_X11_termsOf  q (by first | assumption | omega) (hTa q (by omega) (by omega)) ?_)
            show zw_Wp l mm_X11_count (zS L) 90 [some (zR 67), some (zI w), some (zI a), some (zI q)] [zI (zcnt (zco mem q) 25), zI a] mem 0 0 Q
            have hcq := zcnt_rg (f := zco mem q) 25
            refine wp_iaddC dd_X11_count_90 (by omega) ?_
            refine wp_istore_n (ls2 := [some (zR 67), some (zI w), some (zI (a + (zcnt (zco mem q) 25))), some (zI q)]) dd_X11_count_91 rfl (by decide) rfl ?_
            refine wp_iincC (ls2 := [some (zR 67), some (zI w), some (zI (a + (zcnt (zco mem q) 25))), some (zI (q + 1))]) dd_X11_count_92 rfl rfl (by decide) (by omega) rfl ?_
            refine wp_goto (tgt := 76) dd_X11_count_95 (by decide) ?_
            refine ih76 (a + (zcnt (zco mem q) 25)) (q + 1) ?_ ?_ ?_ ?_
            · first | omega | assumption | (intros; omega)
            · first | omega | assumption | (intros; omega)
            · rw [show (q + 1).toNat = q.toNat + 1 by omega, zcA, show ((q.toNat : Nat) : Int) = q by omega, ← h2]
            · omega
      refine lp76 ((mem 67 5 - 0 : Int)).toNat.succ 0 0 ?_ ?_ ?_ ?_
      · first | omega | assumption | (intros; omega)
      · first | omega | assumption | (intros; omega)
      · rfl
      · omega
    by_cases w24_2c3 : w = 3
    · skip
      refine wp_tabIn (tgt := 100) (off := 76) dd_X11_count_24 (by omega) (by omega) (by rw [w24_2c3]; rfl) (by decide) ?_
      refine wp_aload_n dd_X11_count_100 rfl ?_
      refine wp_getZ 11 rfl dd_X11_count_101 gf_X11_123 rfl kk_67 (by decide) (zlt rfl) ?_
      refine wp_ireturn (st := []) dd_X11_count_104 rfl ?_
      exact k _ (Or.inr (Or.inr (Or.inr (Or.inr (Or.inl ⟨by assumption, rfl⟩)))))
    by_cases w24_2c4 : w = 4
    · skip
      refine wp_tabIn (tgt := 105) (off := 81) dd_X11_count_24 (by omega) (by omega) (by rw [w24_2c4]; rfl) (by decide) ?_
      refine wp_aload_n dd_X11_count_105 rfl ?_
      refine wp_getZ 8 rfl dd_X11_count_106 gf_X11_117 rfl kk_67 (by decide) (zlt rfl) ?_
      refine wp_ireturn (st := []) dd_X11_count_109 rfl ?_
      exact k _ (Or.inr (Or.inr (Or.inr (Or.inr (Or.inr (Or.inl ⟨by assumption, rfl⟩))))))
    by_cases w24_2c5 : w = 5
    · skip
      refine wp_tabIn (tgt := 110) (off := 86) dd_X11_count_24 (by omega) (by omega) (by rw [w24_2c5]; rfl) (by decide) ?_
      refine wp_iconst dd_X11_count_110 (zr_lit rfl) ?_
      refine wp_istore_n (ls2 := [some (zR 67), some (zI w), some (zI 0), some (zI 0)]) dd_X11_count_111 rfl (by decide) rfl ?_
      have lp112 : ∀ (nf : Nat) (a : Int) (q : Int), (0 ≤ q) → (q ≤ mem 67 5) → (a = zbA mem q.toNat) → (mem 67 5 - q) < (nf : Int) → zw_Wp l mm_X11_count (zS L) 112 [some (zR 67), some (zI w), some (zI a), some (zI q)] [] mem 0 0 Q := by
        intro nf
        induction nf with
        | zero =>
          intro a q h0 h1 h2 hmu
          exfalso; omega
        | succ nf ih112 =>
          intro a q h0 h1 h2 hmu
          have har : zw_r32 a := by rw [h2]; exact zbA_rg _
          have h2q := z2_le (n := q) (by omega)
          refine wp_iload_n dd_X11_count_112 rfl ?_
          refine wp_aload_n dd_X11_count_113 rfl ?_
          refine wp_getZ 5 rfl dd_X11_count_114 gf_X11_95 rfl kk_67 (by decide) (zlt rfl) ?_
          refine wp_icmp_ge (tgt := 144) dd_X11_count_117 (by decide) (fun c117_4 => ?_) (fun c117_4 => ?_)
          · skip
            refine wp_iload_n dd_X11_count_144 rfl ?_
            refine wp_ireturn (st := []) dd_X11_count_145 rfl ?_
            exact k _ (Or.inr (Or.inr (Or.inr (Or.inr (Or.inr (Or.inr (Or.inl ⟨by assumption, by rw [h2, show q = mem 67 5 by omega]⟩)))))))
          · skip
            refine wp_iload_n dd_X11_count_120 rfl ?_
            refine wp_aload_n dd_X11_count_121 rfl ?_
            refine wp_iload_n dd_X11_count_122 rfl ?_
            refine wp_callV (M' := mm_X11_isNought) (As := [zI q]) (rest := [zI a]) dd_X11_count_123 lk_X11_173 mV_X11_isNought kk_67 (zlt rfl) ⟨_, _, rfl⟩ rfl (by decide) (by decide) (Nat.le_of_ble_eq_true rfl) rfl (sp_X11_isNought  q (by first | assumption | omega) (hTa q (by omega) (by omega)) ?_)
            show zw_Wp l mm_X11_count (zS L) 126 [some (zR 67), some (zI w), some (zI a), some (zI q)] [zI (if zdeg (zco mem q) 0 25 < 0 then 1 else 0), zI a] mem 0 0 Q
            refine wp_if_eq (tgt := 135) dd_X11_count_126 (by decide) (fun c126_5 => ?_) (fun c126_5 => ?_)
            · skip
              refine wp_iconst dd_X11_count_135 (zr_lit rfl) ?_
              refine wp_ior dd_X11_count_136 ?_
              refine wp_istore_n (ls2 := [some (zR 67), some (zI w), some (zI ((Int32.ofInt a ||| Int32.ofInt 0).toInt)), some (zI q)]) dd_X11_count_137 rfl (by decide) rfl ?_
              refine wp_iincC (ls2 := [some (zR 67), some (zI w), some (zI ((Int32.ofInt a ||| Int32.ofInt 0).toInt)), some (zI (q + 1))]) dd_X11_count_138 rfl rfl (by decide) (by omega) rfl ?_
              refine wp_goto (tgt := 112) dd_X11_count_141 (by decide) ?_
              refine ih112 ((Int32.ofInt a ||| Int32.ofInt 0).toInt) (q + 1) ?_ ?_ ?_ ?_
              · first | omega | assumption | (intros; omega)
              · first | omega | assumption | (intros; omega)
              · rw [show (q + 1).toNat = q.toNat + 1 by omega, zbA, show ((q.toNat : Nat) : Int) = q by omega, ← h2]
                first | (rw [if_pos (by omega)]; rfl) | (rw [if_neg (by omega)]; exact zbor_0 har)
              · omega
            · skip
              refine wp_iconst dd_X11_count_129 (zr_lit rfl) ?_
              refine wp_iload_n dd_X11_count_130 rfl ?_
              refine wp_ishlP dd_X11_count_131 (by decide) (by omega) (h2q (by omega)).2 ?_
              refine wp_goto (tgt := 136) dd_X11_count_132 (by decide) ?_
              refine wp_ior dd_X11_count_136 ?_
              refine wp_istore_n (ls2 := [some (zR 67), some (zI w), some (zI ((Int32.ofInt a ||| Int32.ofInt (1 * 2 ^ q.toNat)).toInt)), some (zI q)]) dd_X11_count_137 rfl (by decide) rfl ?_
              refine wp_iincC (ls2 := [some (zR 67), some (zI w), some (zI ((Int32.ofInt a ||| Int32.ofInt (1 * 2 ^ q.toNat)).toInt)), some (zI (q + 1))]) dd_X11_count_138 rfl rfl (by decide) (by omega) rfl ?_
              refine wp_goto (tgt := 112) dd_X11_count_141 (by decide) ?_
              refine ih112 ((Int32.ofInt a ||| Int32.ofInt (1 * 2 ^ q.toNat)).toInt) (q + 1) ?_ ?_ ?_ ?_
              · first | omega | assumption | (intros; omega)
              · first | omega | assumption | (intros; omega)
              · rw [show (q + 1).toNat = q.toNat + 1 by omega, zbA, show ((q.toNat : Nat) : Int) = q by omega, ← h2]
                first | (rw [if_pos (by omega)]; rfl) | (rw [if_neg (by omega)]; exact zbor_0 har)
              · omega
      refine lp112 ((mem 67 5 - 0 : Int)).toNat.succ 0 0 ?_ ?_ ?_ ?_
      · first | omega | assumption | (intros; omega)
      · first | omega | assumption | (intros; omega)
      · rfl
      · omega
    refine wp_tabOut (tgt := 146) dd_X11_count_24 (by omega) (by decide) ?_
    refine wp_bipush dd_X11_count_146 (by decide) ?_
    refine wp_ireturn (st := []) dd_X11_count_148 rfl ?_
    exact k _ (Or.inr (Or.inr (Or.inr (Or.inr (Or.inr (Or.inr (Or.inr (⟨by omega, by omega, rfl⟩))))))))
  · skip
    refine wp_aload_n dd_X11_count_11 rfl ?_
    refine wp_getR dd_X11_count_12 gf_X11_1 rfl kk_67 (by decide) (zlt rfl) rr_67_0 ?_
    refine wp_iload_n dd_X11_count_15 rfl ?_
    refine wp_bipush dd_X11_count_16 (by decide) ?_
    refine wp_isubC dd_X11_count_18 (by omega) ?_
    refine wp_iald dd_X11_count_19 kk_68 (zlt rfl) (by omega) (by omega) ?_
    refine wp_ireturn (st := []) dd_X11_count_20 rfl ?_
    exact k _ (Or.inl ⟨by omega, by omega, rfl⟩)

set_option maxRecDepth 100000 in
set_option maxHeartbeats 4000000 in
theorem sp_X11_comes {l : Launch} {L : Nat} {mem : zMem} {Q : zQ}   (hn : 0 ≤ mem 67 5 ∧ mem 67 5 ≤ 5) (k : ∀ (mem2 : zMem), (mem2 67 5 = mem 67 5 + 1 ∧ mem2 67 8 = 0 ∧ (∀ s : Int, s ≠ 5 → s ≠ 8 → mem2 67 s = mem 67 s) ∧ (∀ x : Int, mem2 69 x = if 25 * mem 67 5 ≤ x ∧ x < 25 * mem 67 5 + 25 then mem 75 (x - 25 * mem 67 5) else mem 69 x) ∧ (∀ x : Int, mem2 70 x = (if x = mem 67 5 then 0 else mem 70 x) ∧ mem2 71 x = (if x = mem 67 5 then 0 else mem 71 x)) ∧ ∀ a : Nat, a ≠ 67 → a ≠ 69 → a ≠ 70 → a ≠ 71 → mem2 a = mem a) → Q (some (zI (mem 67 5))) (zS L) mem2) : zw_Ok l mm_X11_comes [zR 67] (zS L) mem Q := by
  refine zw_enter (by decide) (Nat.le_of_ble_eq_true rfl) rfl ?_
  show zw_Wp l mm_X11_comes (zS L) 0 [some (zR 67), none] [] mem 0 0 Q
  refine wp_iconst dd_X11_comes_0 (zr_lit rfl) ?_
  refine wp_istore_n (ls2 := [some (zR 67), some (zI 0)]) dd_X11_comes_1 rfl (by decide) rfl ?_
  have lp2 : ∀ (nf : Nat) (t : Int) (mm : zMem), (0 ≤ t) → (t ≤ 25) → (∀ x : Int, mm 69 x = if 25 * mem 67 5 ≤ x ∧ x < 25 * mem 67 5 + t then mem 75 (x - 25 * mem 67 5) else mem 69 x) → (∀ a : Nat, a ≠ 69 → mm a = mem a) → (25 - t) < (nf : Int) → zw_Wp l mm_X11_comes (zS L) 2 [some (zR 67), some (zI t)] [] mm 0 0 Q := by
    intro nf
    induction nf with
    | zero =>
      intro t mm h0 h1 h2 h3 hmu
      exfalso; omega
    | succ nf ih2 =>
      intro t mm h0 h1 h2 h3 hmu
      have hm67 : mm 67 = mem 67 := h3 67 (by decide)
      have hm5 : mm 67 5 = mem 67 5 := by rw [hm67]
      have hm75 : mm 75 = mem 75 := h3 75 (by decide)
      refine wp_iload_n dd_X11_comes_2 rfl ?_
      refine wp_bipush dd_X11_comes_3 (by decide) ?_
      refine wp_icmp_ge (tgt := 34) dd_X11_comes_5 (by decide) (fun c5_1 => ?_) (fun c5_1 => ?_)
      · skip
        refine wp_aload_n dd_X11_comes_34 rfl ?_
        refine wp_getR dd_X11_comes_35 gf_X11_34 rfl kk_67 (by decide) (zlt rfl) rr_67_3 ?_
        refine wp_aload_n dd_X11_comes_38 rfl ?_
        refine wp_getZ 5 rfl dd_X11_comes_39 gf_X11_95 rfl kk_67 (by decide) (zlt rfl) ?_
        refine wp_iconst dd_X11_comes_42 (zr_lit rfl) ?_
        refine wp_iast dd_X11_comes_43 kk_70 (zlt rfl) (by omega) (by omega) ?_
        refine wp_aload_n dd_X11_comes_44 rfl ?_
        refine wp_getR dd_X11_comes_45 gf_X11_37 rfl kk_67 (by decide) (zlt rfl) rr_67_4 ?_
        refine wp_aload_n dd_X11_comes_48 rfl ?_
        refine wp_getV 5 (v := mm 67 5) rfl (by rw [zu_row (by decide)]) dd_X11_comes_49 gf_X11_95 rfl kk_67 (by decide) (zlt rfl) ?_
        refine wp_iconst dd_X11_comes_52 (zr_lit rfl) ?_
        refine wp_iast dd_X11_comes_53 kk_71 (zlt rfl) (by omega) (by omega) ?_
        refine wp_aload_n dd_X11_comes_54 rfl ?_
        refine wp_iconst dd_X11_comes_55 (zr_lit rfl) ?_
        refine wp_putzI 8 rfl dd_X11_comes_56 pf_X11_117 rfl kk_67 (by decide) (zlt rfl) ?_
        refine wp_aload_n dd_X11_comes_59 rfl ?_
        refine wp_dup dd_X11_comes_60 rfl ?_
        refine wp_getV 5 (v := mm 67 5) rfl (by rw [zu_n (Or.inr (by decide)), zu_row (by decide), zu_row (by decide)]) dd_X11_comes_61 gf_X11_95 rfl kk_67 (by decide) (zlt rfl) ?_
        refine wp_iconst dd_X11_comes_64 (zr_lit rfl) ?_
        refine wp_iaddC dd_X11_comes_65 (by omega) ?_
        refine wp_putzI 5 rfl dd_X11_comes_66 pf_X11_95 rfl kk_67 (by decide) (zlt rfl) ?_
        refine wp_aload_n dd_X11_comes_69 rfl ?_
        refine wp_getV 5 (v := (mm 67 5) + 1) rfl (by rw [zu_s]) dd_X11_comes_70 gf_X11_95 rfl kk_67 (by decide) (zlt rfl) ?_
        refine wp_iconst dd_X11_comes_73 (zr_lit rfl) ?_
        refine wp_isubC dd_X11_comes_74 (by omega) ?_
        refine wp_ireturn (st := []) dd_X11_comes_75 rfl ?_
        refine zq_I (z2 := mem 67 5) (by omega) rfl (k _ ⟨?_, ?_, fun s h8 h9 => ?_, fun x => ?_, fun x => ⟨?_, ?_⟩, fun a h6 h7 h8 h9 => ?_⟩)
        · rw [zu_s, hm5]
        · rw [zu_n (Or.inr (by decide)), zu_s]
        · rw [zu_n (Or.inr h8), zu_n (Or.inr h9), zu_row (by decide), zu_row (by decide), hm67]
        · rw [zu_row (by decide), zu_row (by decide), zu_row (by decide), zu_row (by decide), h2 x, show t = 25 by omega]
        · rw [zu_row (by decide), zu_row (by decide), zu_row (by decide), hm5]
          by_cases hx : x = mem 67 5
          · subst hx; rw [zu_s, if_pos rfl]
          · rw [zu_n (Or.inr hx), if_neg hx, h3 70 (by decide)]
        · rw [zu_row (by decide), zu_row (by decide), hm5]
          by_cases hx : x = mem 67 5
          · subst hx; rw [zu_s, if_pos rfl]
          · rw [zu_n (Or.inr hx), if_neg hx, zu_row (by decide), h3 71 (by decide)]
        · rw [zu_row h6, zu_row h6, zu_row h9, zu_row h8]; exact h3 a h7
      · skip
        refine wp_aload_n dd_X11_comes_8 rfl ?_
        refine wp_getR dd_X11_comes_9 gf_X11_31 rfl kk_67 (by decide) (zlt rfl) rr_67_2 ?_
        refine wp_bipush dd_X11_comes_12 (by decide) ?_
        refine wp_aload_n dd_X11_comes_14 rfl ?_
        refine wp_getZ 5 rfl dd_X11_comes_15 gf_X11_95 rfl kk_67 (by decide) (zlt rfl) ?_
        refine wp_imulC dd_X11_comes_18 (by omega) ?_
        refine wp_iload_n dd_X11_comes_19 rfl ?_
        refine wp_iaddC dd_X11_comes_20 (by omega) ?_
        refine wp_aload_n dd_X11_comes_21 rfl ?_
        refine wp_getR dd_X11_comes_22 gf_X11_49 rfl kk_67 (by decide) (zlt rfl) rr_67_10 ?_
        refine wp_iload_n dd_X11_comes_25 rfl ?_
        refine wp_iald dd_X11_comes_26 kk_75 (zlt rfl) (by omega) (by omega) ?_
        refine wp_iast dd_X11_comes_27 kk_69 (zlt rfl) (by omega) (by omega) ?_
        refine wp_iincC (ls2 := [some (zR 67), some (zI (t + 1))]) dd_X11_comes_28 rfl rfl (by decide) (by omega) rfl ?_
        refine wp_goto (tgt := 2) dd_X11_comes_31 (by decide) ?_
        refine ih2 (t + 1) (zu mm 69 ((25 * (mm 67 5)) + t) (mm 75 t)) ?_ ?_ ?_ ?_ ?_
        · first | omega | assumption | (intros; omega)
        · first | omega | assumption | (intros; omega)
        · intro x
          by_cases hx : x = 25 * mem 67 5 + t
          · subst hx; rw [hm5, zu_s, hm75, if_pos (by omega), show 25 * mem 67 5 + t - 25 * mem 67 5 = t by omega]
          · rw [hm5, zu_n (Or.inr hx), h2 x]
            by_cases hl : 25 * mem 67 5 ≤ x ∧ x < 25 * mem 67 5 + t
            · rw [if_pos hl, if_pos (by omega)]
            · rw [if_neg hl, if_neg (by omega)]
        · intro a ha; rw [zu_row ha]; exact h3 a ha
        · omega
  refine lp2 ((25 - 0 : Int)).toNat.succ 0 mem ?_ ?_ ?_ ?_ ?_
  · first | omega | assumption | (intros; omega)
  · first | omega | assumption | (intros; omega)
  · intro x; rw [if_neg (by omega)]
  · intros; rfl
  · omega

set_option maxRecDepth 100000 in
set_option maxHeartbeats 4000000 in
theorem sp_X11_draw {l : Launch} {L : Nat} {mem : zMem} {Q : zQ}  (m : Int) (hm : 0 < m) (k : Q (some (zI (zdv (zdr (mem 67 29)) / 256 % m))) (zS L) (zu mem 67 29 (zdr (mem 67 29)))) : zw_Ok l mm_X11_draw [zR 67, zI m] (zS L) mem Q := by
  refine zw_okA (fun hA => ?_)
  have rg_m : -2147483648 ≤ m ∧ m < 2147483648 := hA.2.1
  refine zw_enter (by decide) (Nat.le_of_ble_eq_true rfl) rfl ?_
  show zw_Wp l mm_X11_draw (zS L) 0 [some (zR 67), some (zI m)] [] mem 0 0 Q
  refine wp_aload_n dd_X11_draw_0 rfl ?_
  refine wp_aload_n dd_X11_draw_1 rfl ?_
  refine wp_getZ 29 rfl dd_X11_draw_2 gf_X11_313 rfl kk_67 (by decide) (zlt rfl) ?_
  refine wp_ldc_w dd_X11_draw_5 kc_X11_316 ?_
  show zw_Wp l mm_X11_draw (zS L) 8 [some (zR 67), some (zI m)] [zI 1664525, zI (mem 67 29), zR 67] mem 0 0 Q
  refine wp_imul dd_X11_draw_8 ?_
  refine wp_ldc_w dd_X11_draw_9 kc_X11_317 ?_
  show zw_Wp l mm_X11_draw (zS L) 12 [some (zR 67), some (zI m)] [zI 1013904223, zI (zwr ((mem 67 29) * 1664525)), zR 67] mem 0 0 Q
  refine wp_iadd dd_X11_draw_12 ?_
  refine wp_putzI 29 rfl dd_X11_draw_13 pf_X11_313 rfl kk_67 (by decide) (zlt rfl) ?_
  refine wp_aload_n dd_X11_draw_16 rfl ?_
  refine wp_getV 29 (v := zwr ((zwr ((mem 67 29) * 1664525)) + 1013904223)) rfl (by rw [zu_s]) dd_X11_draw_17 gf_X11_313 rfl kk_67 (by decide) (zlt rfl) ?_
  refine wp_ldc_w dd_X11_draw_20 kc_X11_318 ?_
  show zw_Wp l mm_X11_draw (zS L) 23 [some (zR 67), some (zI m)] [zI 2147483647, zI (zwr ((zwr ((mem 67 29) * 1664525)) + 1013904223))] (zu mem 67 29 (zwr ((zwr ((mem 67 29) * 1664525)) + 1013904223))) 0 0 Q
  refine wp_iand dd_X11_draw_23 ?_
  have hdv := zdv_rg (zdr (mem 67 29))
  show zw_Wp l mm_X11_draw (zS L) 24 [some (zR 67), some (zI m)] [zI (zdv (zdr (mem 67 29)))] (zu mem 67 29 (zdr (mem 67 29))) 0 0 Q
  refine wp_sipush dd_X11_draw_24 (by decide) ?_
  refine wp_idivP dd_X11_draw_27 (by omega) (by omega) ?_
  refine wp_iload_n dd_X11_draw_28 rfl ?_
  refine wp_iremP dd_X11_draw_29 (by omega) (by omega) ?_
  refine wp_ireturn (st := []) dd_X11_draw_30 rfl ?_
  refine zq_I ?_ ?_ k
  · first | rfl | omega | (rw [if_pos (by omega)]) | (rw [if_neg (by omega)])
  · rfl


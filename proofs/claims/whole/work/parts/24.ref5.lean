theorem sp_X11_passOne2 {l : Launch} {L : Nat} {mem : zMem} {Q : zQ} (cur c w : Int) (v : Int) (hc : 0 ≤ cur ∧ cur < 170) (h33 : mem 67 33 = cur) (h35 : mem 67 35 = c) (hw : (if c = 0 then mem 88 cur else v) = w) (k : Q (some (zI w)) (zS L) (zu (zu mem 88 cur w) 67 33 (cur + 1))) : zw_Ok l mm_X11_passOne [zR 67, zI v] (zS L) mem Q := by
  subst h33; subst h35; subst hw
  exact sp_X11_passOne v hc k

set_option maxRecDepth 100000 in
set_option maxHeartbeats 4000000 in
theorem sp_X11_passesAll {l : Launch} {L : Nat} {mem : zMem} {Q : zQ}  (c : Int) (hc : c = 0 ∨ c = 1) (k : ∀ (mem2 : zMem), (mem2 67 1 = zW mem c 0 ∧ mem2 67 5 = zW mem c 1 ∧ (∀ x : Int, 0 ≤ x → x < 164 → mem2 88 x = zW mem c x) ∧ (∀ x : Int, 0 ≤ x → x < 6 → mem2 70 x = zW mem c (2 + 2 * x) ∧ mem2 71 x = zW mem c (3 + 2 * x)) ∧ (∀ x : Int, 0 ≤ x → x < 150 → mem2 69 x = zW mem c (14 + x))) → ((∀ a : Nat, a ≠ 67 → a ≠ 69 → a ≠ 70 → a ≠ 71 → a ≠ 88 → mem2 a = mem a) ∧ ∀ s : Int, s ≠ 1 → s ≠ 5 → s ≠ 33 → s ≠ 35 → mem2 67 s = mem 67 s) → Q none (zS L) mem2) : zw_Ok l mm_X11_passesAll [zR 67, zI c] (zS L) mem Q := by
  refine zw_okA (fun hA => ?_)
  have rg_c : -2147483648 ≤ c ∧ c < 2147483648 := hA.2.1
  refine zw_enter (by decide) (Nat.le_of_ble_eq_true rfl) rfl ?_
  show zw_Wp l mm_X11_passesAll (zS L) 0 [some (zR 67), some (zI c), none] [] mem 0 0 Q
  refine wp_aload_n dd_X11_passesAll_0 rfl ?_
  refine wp_iload_n dd_X11_passesAll_1 rfl ?_
  refine wp_putzZ 35 rfl dd_X11_passesAll_2 pf_X11_332 rfl kk_67 (by decide) (zlt rfl) (by omega) ?_
  refine wp_aload_n dd_X11_passesAll_5 rfl ?_
  refine wp_iconst dd_X11_passesAll_6 (zr_lit rfl) ?_
  refine wp_putzI 33 rfl dd_X11_passesAll_7 pf_X11_336 rfl kk_67 (by decide) (zlt rfl) ?_
  refine wp_aload_n dd_X11_passesAll_10 rfl ?_
  refine wp_aload_n dd_X11_passesAll_11 rfl ?_
  refine wp_aload_n dd_X11_passesAll_12 rfl ?_
  refine wp_getV 1 (v := mem 67 1) rfl (by rw [zu_n (Or.inr (by decide)), zu_n (Or.inr (by decide))]) dd_X11_passesAll_13 gf_X11_9 rfl kk_67 (by decide) (zlt rfl) ?_
  refine wp_callV (M' := mm_X11_passOne) (As := [zI (mem 67 1)]) (rest := [zR 67]) dd_X11_passesAll_16 lk_X11_339 mV_X11_passOne kk_67 (zlt rfl) ⟨_, _, rfl⟩ rfl (by decide) (by decide) (Nat.le_of_ble_eq_true rfl) rfl (sp_X11_passOne2 (0) c (zW mem c 0) (mem 67 1) (by omega) (by simp [zu]) (by simp [zu]) (by unfold zW zsrc; simp [zu]) ?_)
  show zw_Wp l mm_X11_passesAll (zS L) 19 [some (zR 67), some (zI c), none] [zI (zW mem c 0), zR 67] (zu (zu (zu (zu mem 67 35 c) 67 33 0) 88 0 (zW mem c 0)) 67 33 (0 + 1)) 0 0 Q
  refine wp_putzI 1 rfl dd_X11_passesAll_19 pf_X11_9 rfl kk_67 (by decide) (zlt rfl) ?_
  refine wp_aload_n dd_X11_passesAll_22 rfl ?_
  refine wp_aload_n dd_X11_passesAll_23 rfl ?_
  refine wp_aload_n dd_X11_passesAll_24 rfl ?_
  refine wp_getV 5 (v := mem 67 5) rfl (by rw [zu_n (Or.inr (by decide)), zu_n (Or.inr (by decide)), zu_row (by decide), zu_n (Or.inr (by decide)), zu_n (Or.inr (by decide))]) dd_X11_passesAll_25 gf_X11_95 rfl kk_67 (by decide) (zlt rfl) ?_
  refine wp_callV (M' := mm_X11_passOne) (As := [zI (mem 67 5)]) (rest := [zR 67]) dd_X11_passesAll_28 lk_X11_339 mV_X11_passOne kk_67 (zlt rfl) ⟨_, _, rfl⟩ rfl (by decide) (by decide) (Nat.le_of_ble_eq_true rfl) rfl (sp_X11_passOne2 (1) c (zW mem c 1) (mem 67 5) (by omega) (by simp [zu]) (by simp [zu]) (by unfold zW zsrc; simp [zu]) ?_)
  show zw_Wp l mm_X11_passesAll (zS L) 31 [some (zR 67), some (zI c), none] [zI (zW mem c 1), zR 67] (zu (zu (zu (zu (zu (zu (zu mem 67 35 c) 67 33 0) 88 0 (zW mem c 0)) 67 33 (0 + 1)) 67 1 (zW mem c 0)) 88 1 (zW mem c 1)) 67 33 (1 + 1)) 0 0 Q
  refine wp_putzI 5 rfl dd_X11_passesAll_31 pf_X11_95 rfl kk_67 (by decide) (zlt rfl) ?_
  refine wp_iconst dd_X11_passesAll_34 (zr_lit rfl) ?_
  refine wp_istore_n (ls2 := [some (zR 67), some (zI c), some (zI 0)]) dd_X11_passesAll_35 rfl (by decide) rfl ?_
  have lp36 : ∀ (nf : Nat) (i : Int) (mm : zMem), (0 ≤ i) → (i ≤ 6) → (mm 67 33 = 2 + 2 * i) → (mm 67 35 = c) → (mm 67 1 = zW mem c 0) → (mm 67 5 = zW mem c 1) → (∀ x : Int, 0 ≤ x → mm 88 x = if x < 2 + 2 * i then zW mem c x else mem 88 x) → (∀ x : Int, 0 ≤ x → x < 6 → mm 70 x = (if x < i then zW mem c (2 + 2 * x) else mem 70 x) ∧ mm 71 x = (if x < i then zW mem c (3 + 2 * x) else mem 71 x)) → (mm 69 = mem 69) → (∀ a : Nat, a ≠ 67 → a ≠ 69 → a ≠ 70 → a ≠ 71 → a ≠ 88 → mm a = mem a) → (∀ s : Int, s ≠ 1 → s ≠ 5 → s ≠ 33 → s ≠ 35 → mm 67 s = mem 67 s) → (6 - i) < (nf : Int) → zw_Wp l mm_X11_passesAll (zS L) 36 [some (zR 67), some (zI c), some (zI i)] [] mm 0 0 Q := by
    intro nf
    induction nf with
    | zero =>
      intro i mm h0 h1 e33 e35 e1 e5 g88 g70 g69 gk gs hmu
      exfalso; omega
    | succ nf ih36 =>
      intro i mm h0 h1 e33 e35 e1 e5 g88 g70 g69 gk gs hmu
      refine wp_iload_n dd_X11_passesAll_36 rfl ?_
      refine wp_bipush dd_X11_passesAll_37 (by decide) ?_
      refine wp_icmp_ge (tgt := 80) dd_X11_passesAll_39 (by decide) (fun c39_1 => ?_) (fun c39_1 => ?_)
      · skip
        refine wp_iconst dd_X11_passesAll_80 (zr_lit rfl) ?_
        refine wp_istore_n (ls2 := [some (zR 67), some (zI c), some (zI 0)]) dd_X11_passesAll_81 rfl (by decide) rfl ?_
        have lp82 : ∀ (nf : Nat) (t : Int) (mm : zMem), (0 ≤ t) → (t ≤ 150) → (mm 67 33 = 14 + t) → (mm 67 35 = c) → (mm 67 1 = zW mem c 0) → (mm 67 5 = zW mem c 1) → (∀ x : Int, 0 ≤ x → mm 88 x = if x < 14 + t then zW mem c x else mem 88 x) → (∀ x : Int, 0 ≤ x → x < 6 → mm 70 x = zW mem c (2 + 2 * x) ∧ mm 71 x = zW mem c (3 + 2 * x)) → (∀ x : Int, 0 ≤ x → mm 69 x = if x < t then zW mem c (14 + x) else mem 69 x) → (∀ a : Nat, a ≠ 67 → a ≠ 69 → a ≠ 70 → a ≠ 71 → a ≠ 88 → mm a = mem a) → (∀ s : Int, s ≠ 1 → s ≠ 5 → s ≠ 33 → s ≠ 35 → mm 67 s = mem 67 s) → (150 - t) < (nf : Int) → zw_Wp l mm_X11_passesAll (zS L) 82 [some (zR 67), some (zI c), some (zI t)] [] mm 0 0 Q := by
          intro nf
          induction nf with
          | zero =>
            intro t mm h0 h1 e33 e35 e1 e5 g88 g70 g69 gk gs hmu
            exfalso; omega
          | succ nf ih82 =>
            intro t mm h0 h1 e33 e35 e1 e5 g88 g70 g69 gk gs hmu
            refine wp_iload_n dd_X11_passesAll_82 rfl ?_
            refine wp_sipush dd_X11_passesAll_83 (by decide) ?_
            refine wp_icmp_ge (tgt := 111) dd_X11_passesAll_86 (by decide) (fun c86_2 => ?_) (fun c86_2 => ?_)
            · skip
              refine wp_return (st := []) dd_X11_passesAll_111 rfl ?_
              exact k mm ⟨e1, e5, fun x q1 q2 => by rw [g88 x q1, if_pos (by omega)], g70, fun x q1 q2 => by rw [g69 x q1, if_pos (by omega)]⟩ ⟨gk, gs⟩
            · skip
              refine wp_aload_n dd_X11_passesAll_89 rfl ?_
              refine wp_getR dd_X11_passesAll_90 gf_X11_31 rfl kk_67 (by decide) (zlt rfl) rr_67_2 ?_
              refine wp_iload_n dd_X11_passesAll_93 rfl ?_
              refine wp_aload_n dd_X11_passesAll_94 rfl ?_
              refine wp_aload_n dd_X11_passesAll_95 rfl ?_
              refine wp_getR dd_X11_passesAll_96 gf_X11_31 rfl kk_67 (by decide) (zlt rfl) rr_67_2 ?_
              refine wp_iload_n dd_X11_passesAll_99 rfl ?_
              refine wp_iald dd_X11_passesAll_100 kk_69 (zlt rfl) (by omega) (by omega) ?_
              refine wp_callV (M' := mm_X11_passOne) (As := [zI (mm 69 t)]) (rest := [zI t, zR 69]) dd_X11_passesAll_101 lk_X11_339 mV_X11_passOne kk_67 (zlt rfl) ⟨_, _, rfl⟩ rfl (by decide) (by decide) (Nat.le_of_ble_eq_true rfl) rfl (sp_X11_passOne2 (14 + t) c (zW mem c (14 + t)) (mm 69 t) (by omega) e33 e35 (by rw [zW_14 (by omega), g88 _ (by omega), if_neg (show ¬ 14 + t < 14 + t by omega), g69 t (by omega), if_neg (show ¬ t < t by omega)]) ?_)
              show zw_Wp l mm_X11_passesAll (zS L) 104 [some (zR 67), some (zI c), some (zI t)] [zI (zW mem c (14 + t)), zI t, zR 69] (zu (zu mm 88 (14 + t) (zW mem c (14 + t))) 67 33 ((14 + t) + 1)) 0 0 Q
              refine wp_iast dd_X11_passesAll_104 kk_69 (zlt rfl) (by omega) (by omega) ?_
              refine wp_iincC (ls2 := [some (zR 67), some (zI c), some (zI (t + 1))]) dd_X11_passesAll_105 rfl rfl (by decide) (by omega) rfl ?_
              refine wp_goto (tgt := 82) dd_X11_passesAll_108 (by decide) ?_
              refine ih82 (t + 1) (zu (zu (zu mm 88 (14 + t) (zW mem c (14 + t))) 67 33 ((14 + t) + 1)) 69 t (zW mem c (14 + t))) ?_ ?_ ?_ ?_ ?_ ?_ ?_ ?_ ?_ ?_ ?_ ?_
              · first | omega | assumption | (intros; omega)
              · first | omega | assumption | (intros; omega)
              · simp [zu]; omega
              · simp [zu, e35]
              · simp [zu, e1]
              · simp [zu, e5]
              · intro x q
                by_cases hx0 : x = 14 + t
                · subst hx0; rw [if_pos (by omega), zu_row (by decide), zu_row (by decide), zu_s]
                · rw [zu_row (by decide), zu_row (by decide), zu_n (Or.inr hx0), g88 x q]
                  by_cases hl : x < 14 + t
                  · rw [if_pos hl, if_pos (by omega)]
                  · rw [if_neg hl, if_neg (by omega)]
              · intro x q1 q2; rw [zu_row (by decide), zu_row (by decide), zu_row (by decide), zu_row (by decide), zu_row (by decide), zu_row (by decide)]; exact g70 x q1 q2
              · intro x q
                by_cases hx0 : x = t
                · subst hx0; rw [if_pos (by omega), zu_s]
                · rw [zu_n (Or.inr hx0), zu_row (by decide), zu_row (by decide), g69 x q]
                  by_cases hl : x < t
                  · rw [if_pos hl, if_pos (by omega)]
                  · rw [if_neg hl, if_neg (by omega)]
              · intro a h1 h2 h3 h4 h5; rw [zu_row h2, zu_row h1, zu_row h5]; exact gk a h1 h2 h3 h4 h5
              · intro s h1 h2 h3 h4
                rw [zu_row (by decide), zu_n (Or.inr h3), zu_row (by decide)]; exact gs s h1 h2 h3 h4
              · omega
        refine lp82 ((150 - 0 : Int)).toNat.succ 0 mm ?_ ?_ ?_ ?_ ?_ ?_ ?_ ?_ ?_ ?_ ?_ ?_
        · first | omega | assumption | (intros; omega)
        · first | omega | assumption | (intros; omega)
        · rw [e33]; omega
        · first | omega | assumption | (intros; omega)
        · first | omega | assumption | (intros; omega)
        · first | omega | assumption | (intros; omega)
        · intro x q; rw [g88 x q, show 2 + 2 * i = 14 by omega]; rfl
        · intro x q1 q2; have := g70 x q1 q2; rw [if_pos (by omega), if_pos (by omega)] at this; exact this
        · intro x q; rw [if_neg (by omega), g69]
        · first | omega | assumption | (intros; omega)
        · first | omega | assumption | (intros; omega)
        · omega
      · skip
        refine wp_aload_n dd_X11_passesAll_42 rfl ?_
        refine wp_getR dd_X11_passesAll_43 gf_X11_34 rfl kk_67 (by decide) (zlt rfl) rr_67_3 ?_
        refine wp_iload_n dd_X11_passesAll_46 rfl ?_
        refine wp_aload_n dd_X11_passesAll_47 rfl ?_
        refine wp_aload_n dd_X11_passesAll_48 rfl ?_
        refine wp_getR dd_X11_passesAll_49 gf_X11_34 rfl kk_67 (by decide) (zlt rfl) rr_67_3 ?_
        refine wp_iload_n dd_X11_passesAll_52 rfl ?_
        refine wp_iald dd_X11_passesAll_53 kk_70 (zlt rfl) (by omega) (by omega) ?_
        refine wp_callV (M' := mm_X11_passOne) (As := [zI (mm 70 i)]) (rest := [zI i, zR 70]) dd_X11_passesAll_54 lk_X11_339 mV_X11_passOne kk_67 (zlt rfl) ⟨_, _, rfl⟩ rfl (by decide) (by decide) (Nat.le_of_ble_eq_true rfl) rfl (sp_X11_passOne2 (2 + 2 * i) c (zW mem c (2 + 2 * i)) (mm 70 i) (by omega) e33 e35 (by rw [zW_2 (by omega), g88 _ (by omega), if_neg (show ¬ 2 + 2 * i < 2 + 2 * i by omega), (g70 i (by omega) (by omega)).1, if_neg (show ¬ i < i by omega)]) ?_)
        show zw_Wp l mm_X11_passesAll (zS L) 57 [some (zR 67), some (zI c), some (zI i)] [zI (zW mem c (2 + 2 * i)), zI i, zR 70] (zu (zu mm 88 (2 + 2 * i) (zW mem c (2 + 2 * i))) 67 33 ((2 + 2 * i) + 1)) 0 0 Q
        refine wp_iast dd_X11_passesAll_57 kk_70 (zlt rfl) (by omega) (by omega) ?_
        refine wp_aload_n dd_X11_passesAll_58 rfl ?_
        refine wp_getR dd_X11_passesAll_59 gf_X11_37 rfl kk_67 (by decide) (zlt rfl) rr_67_4 ?_
        refine wp_iload_n dd_X11_passesAll_62 rfl ?_
        refine wp_aload_n dd_X11_passesAll_63 rfl ?_
        refine wp_aload_n dd_X11_passesAll_64 rfl ?_
        refine wp_getR dd_X11_passesAll_65 gf_X11_37 rfl kk_67 (by decide) (zlt rfl) rr_67_4 ?_
        refine wp_iload_n dd_X11_passesAll_68 rfl ?_
        refine wp_ialdV (v := mm 71 i) (by rw [zu_row (by decide), zu_row (by decide), zu_row (by decide)]) dd_X11_passesAll_69 kk_71 (zlt rfl) (by omega) (by omega) ?_
        refine wp_callV (M' := mm_X11_passOne) (As := [zI (mm 71 i)]) (rest := [zI i, zR 71]) dd_X11_passesAll_70 lk_X11_339 mV_X11_passOne kk_67 (zlt rfl) ⟨_, _, rfl⟩ rfl (by decide) (by decide) (Nat.le_of_ble_eq_true rfl) rfl (sp_X11_passOne2 (3 + 2 * i) c (zW mem c (3 + 2 * i)) (mm 71 i) (by omega) (by simp [zu]; omega) (by simp [zu, e35]) (by rw [zW_3 (by omega), zu_row (by decide), zu_row (by decide), zu_n (Or.inr (by omega)), g88 _ (by omega), if_neg (show ¬ 3 + 2 * i < 2 + 2 * i by omega), (g70 i (by omega) (by omega)).2, if_neg (show ¬ i < i by omega)]) ?_)
        show zw_Wp l mm_X11_passesAll (zS L) 73 [some (zR 67), some (zI c), some (zI i)] [zI (zW mem c (3 + 2 * i)), zI i, zR 71] (zu (zu (zu (zu (zu mm 88 (2 + 2 * i) (zW mem c (2 + 2 * i))) 67 33 ((2 + 2 * i) + 1)) 70 i (zW mem c (2 + 2 * i))) 88 (3 + 2 * i) (zW mem c (3 + 2 * i))) 67 33 ((3 + 2 * i) + 1)) 0 0 Q
        refine wp_iast dd_X11_passesAll_73 kk_71 (zlt rfl) (by omega) (by omega) ?_
        refine wp_iincC (ls2 := [some (zR 67), some (zI c), some (zI (i + 1))]) dd_X11_passesAll_74 rfl rfl (by decide) (by omega) rfl ?_
        refine wp_goto (tgt := 36) dd_X11_passesAll_77 (by decide) ?_
        refine ih36 (i + 1) (zu (zu (zu (zu (zu (zu mm 88 (2 + 2 * i) (zW mem c (2 + 2 * i))) 67 33 ((2 + 2 * i) + 1)) 70 i (zW mem c (2 + 2 * i))) 88 (3 + 2 * i) (zW mem c (3 + 2 * i))) 67 33 ((3 + 2 * i) + 1)) 71 i (zW mem c (3 + 2 * i))) ?_ ?_ ?_ ?_ ?_ ?_ ?_ ?_ ?_ ?_ ?_ ?_
        · first | omega | assumption | (intros; omega)
        · first | omega | assumption | (intros; omega)
        · simp [zu]; omega
        · simp [zu, e35]
        · simp [zu, e1]
        · simp [zu, e5]
        · intro x q
          by_cases hx0 : x = 2 + 2 * i
          · subst hx0; rw [if_pos (by omega), zu_row (by decide), zu_row (by decide), zu_n (Or.inr (by omega)), zu_row (by decide), zu_row (by decide), zu_s]
          · by_cases hx1 : x = 3 + 2 * i
            · subst hx1; rw [if_pos (by omega), zu_row (by decide), zu_row (by decide), zu_s]
            · rw [zu_row (by decide), zu_row (by decide), zu_n (Or.inr hx1), zu_row (by decide), zu_row (by decide), zu_n (Or.inr hx0), g88 x q]
              by_cases hl : x < 2 + 2 * i
              · rw [if_pos hl, if_pos (by omega)]
              · rw [if_neg hl, if_neg (by omega)]
        · intro x q1 q2
          by_cases hx0 : x = i
          · subst hx0
            rw [if_pos (by omega), if_pos (by omega)]
            refine ⟨?_, ?_⟩
            · rw [zu_row (by decide), zu_row (by decide), zu_row (by decide), zu_s]
            · rw [zu_s]
          · rw [zu_row (by decide), zu_row (by decide), zu_row (by decide), zu_n (Or.inr hx0), zu_row (by decide), zu_row (by decide), zu_n (Or.inr hx0), zu_row (by decide), zu_row (by decide), zu_row (by decide), zu_row (by decide), zu_row (by decide), (g70 x q1 q2).1, (g70 x q1 q2).2]
            by_cases hl : x < i
            · rw [if_pos hl, if_pos hl, if_pos (show x < i + 1 by omega), if_pos (show x < i + 1 by omega)]; exact ⟨rfl, rfl⟩
            · rw [if_neg hl, if_neg hl, if_neg (show ¬ x < i + 1 by omega), if_neg (show ¬ x < i + 1 by omega)]; exact ⟨rfl, rfl⟩
        · funext x; simp [zu, g69]
        · intro a h1 h2 h3 h4 h5; rw [zu_row h4, zu_row h1, zu_row h5, zu_row h3, zu_row h1, zu_row h5]; exact gk a h1 h2 h3 h4 h5
        · intro s h1 h2 h3 h4
          rw [zu_row (by decide), zu_n (Or.inr h3), zu_row (by decide), zu_row (by decide), zu_n (Or.inr h3), zu_row (by decide)]; exact gs s h1 h2 h3 h4
        · omega
  refine lp36 ((6 - 0 : Int)).toNat.succ 0 (zu (zu (zu (zu (zu (zu (zu (zu mem 67 35 c) 67 33 0) 88 0 (zW mem c 0)) 67 33 (0 + 1)) 67 1 (zW mem c 0)) 88 1 (zW mem c 1)) 67 33 (1 + 1)) 67 5 (zW mem c 1)) ?_ ?_ ?_ ?_ ?_ ?_ ?_ ?_ ?_ ?_ ?_ ?_
  · first | omega | assumption | (intros; omega)
  · first | omega | assumption | (intros; omega)
  · simp [zu]
  · simp [zu]
  · simp [zu]
  · simp [zu]
  · intro x q
    by_cases hx0 : x = 0
    · subst hx0; simp [zu]
    · by_cases hx1 : x = 1
      · subst hx1; simp [zu]
      · rw [if_neg (by omega)]; simp [zu, hx0, hx1]
  · intro x q1 q2; rw [if_neg (by omega), if_neg (by omega)]; simp [zu]
  · funext x; simp [zu]
  · intro a h1 h2 h3 h4 h5; funext x; simp [zu, h1, h5]
  · intro s h1 h2 h3 h4; simp [zu, h1, h2, h3, h4]
  · omega


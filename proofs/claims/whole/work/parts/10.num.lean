set_option maxRecDepth 100000 in
set_option maxHeartbeats 4000000 in
theorem sp_J9_floorMod_7cf53 {l : Launch} {L : Nat} {mem : zMem} {Q : zQ}  (a : Int) (p : Int) (hp : 0 < p) (k : Q (some (zI (a % p))) (zS L) mem) : zw_Ok l mm_J9_floorMod_7cf53 [zI a, zI p] (zS L) mem Q := by
  refine zw_okA (fun hA => ?_)
  have rg_a : -2147483648 ≤ a ∧ a < 2147483648 := hA.1
  have rg_p : -2147483648 ≤ p ∧ p < 2147483648 := hA.2.1
  refine zw_enterF (by decide +kernel) (Nat.le_of_ble_eq_true rfl) rfl ?_
  show zw_Wp l mm_J9_floorMod_7cf53 (zS L) 0 [some (zI a), some (zI p), none] [] mem 0 0 Q
  refine wp_iload_n dd_J9_floorMod_7cf53_0 rfl ?_
  refine wp_iload_n dd_J9_floorMod_7cf53_1 rfl ?_
  refine wp_irem dd_J9_floorMod_7cf53_2 (by omega) ?_
  refine wp_istore_n (ls2 := [some (zI a), some (zI p), some (zI (a.tmod p))]) dd_J9_floorMod_7cf53_3 rfl (by decide) rfl ?_
  have ht := zf_mod (a := a) hp
  have h1 := Int.lt_tmod_of_pos a hp
  have h2 := Int.tmod_lt_of_pos a hp
  have h3 := zt_np (a := a) (p := p)
  have hx := zx_neg (a := a) (b := p) rg_a rg_p (by omega)
  refine wp_iload_n dd_J9_floorMod_7cf53_4 rfl ?_
  refine wp_iload_n dd_J9_floorMod_7cf53_5 rfl ?_
  refine wp_ixor dd_J9_floorMod_7cf53_6 ?_
  refine wp_if_ge (tgt := 18) dd_J9_floorMod_7cf53_7 (by decide) (fun c7_1 => ?_) (fun c7_1 => ?_)
  · skip
    refine wp_iload_n dd_J9_floorMod_7cf53_18 rfl ?_
    refine wp_ireturn (st := []) dd_J9_floorMod_7cf53_19 rfl ?_
    refine zq_I ?_ ?_ k
    · rw [ht, if_neg (by omega)]
    · rfl
  · skip
    refine wp_iload_n dd_J9_floorMod_7cf53_10 rfl ?_
    refine wp_if_eq (tgt := 18) dd_J9_floorMod_7cf53_11 (by decide) (fun c11_2 => ?_) (fun c11_2 => ?_)
    · skip
      refine wp_iload_n dd_J9_floorMod_7cf53_18 rfl ?_
      refine wp_ireturn (st := []) dd_J9_floorMod_7cf53_19 rfl ?_
      refine zq_I ?_ ?_ k
      · rw [ht, if_neg (by omega)]
      · rfl
    · skip
      refine wp_iload_n dd_J9_floorMod_7cf53_14 rfl ?_
      refine wp_iload_n dd_J9_floorMod_7cf53_15 rfl ?_
      refine wp_iaddC dd_J9_floorMod_7cf53_16 (by omega) ?_
      refine wp_ireturn (st := []) dd_J9_floorMod_7cf53_17 rfl ?_
      refine zq_I ?_ ?_ k
      · rw [ht, if_pos (by omega)]
      · rfl

set_option maxRecDepth 100000 in
set_option maxHeartbeats 4000000 in
theorem sp_J9_max_7cf53 {l : Launch} {L : Nat} {mem : zMem} {Q : zQ}  (a : Int) (b : Int)  (k : Q (some (zI (max a b))) (zS L) mem) : zw_Ok l mm_J9_max_7cf53 [zI a, zI b] (zS L) mem Q := by
  refine zw_okA (fun hA => ?_)
  have rg_a : -2147483648 ≤ a ∧ a < 2147483648 := hA.1
  have rg_b : -2147483648 ≤ b ∧ b < 2147483648 := hA.2.1
  refine zw_enterF (by decide +kernel) (Nat.le_of_ble_eq_true rfl) rfl ?_
  show zw_Wp l mm_J9_max_7cf53 (zS L) 0 [some (zI a), some (zI b)] [] mem 0 0 Q
  refine wp_iload_n dd_J9_max_7cf53_0 rfl ?_
  refine wp_iload_n dd_J9_max_7cf53_1 rfl ?_
  refine wp_icmp_lt (tgt := 9) dd_J9_max_7cf53_2 (by decide) (fun c2_1 => ?_) (fun c2_1 => ?_)
  · skip
    refine wp_iload_n dd_J9_max_7cf53_9 rfl ?_
    refine wp_ireturn (st := []) dd_J9_max_7cf53_10 rfl ?_
    refine zq_I ?_ ?_ k
    · first | rfl | omega | (rw [if_pos (by omega)]) | (rw [if_neg (by omega)])
    · rfl
  · skip
    refine wp_iload_n dd_J9_max_7cf53_5 rfl ?_
    refine wp_goto (tgt := 10) dd_J9_max_7cf53_6 (by decide) ?_
    refine wp_ireturn (st := []) dd_J9_max_7cf53_10 rfl ?_
    refine zq_I ?_ ?_ k
    · first | rfl | omega | (rw [if_pos (by omega)]) | (rw [if_neg (by omega)])
    · rfl

set_option maxRecDepth 100000 in
set_option maxHeartbeats 4000000 in
theorem sp_J9_min_7cf53 {l : Launch} {L : Nat} {mem : zMem} {Q : zQ}  (a : Int) (b : Int)  (k : Q (some (zI (min a b))) (zS L) mem) : zw_Ok l mm_J9_min_7cf53 [zI a, zI b] (zS L) mem Q := by
  refine zw_okA (fun hA => ?_)
  have rg_a : -2147483648 ≤ a ∧ a < 2147483648 := hA.1
  have rg_b : -2147483648 ≤ b ∧ b < 2147483648 := hA.2.1
  refine zw_enterF (by decide +kernel) (Nat.le_of_ble_eq_true rfl) rfl ?_
  show zw_Wp l mm_J9_min_7cf53 (zS L) 0 [some (zI a), some (zI b)] [] mem 0 0 Q
  refine wp_iload_n dd_J9_min_7cf53_0 rfl ?_
  refine wp_iload_n dd_J9_min_7cf53_1 rfl ?_
  refine wp_icmp_gt (tgt := 9) dd_J9_min_7cf53_2 (by decide) (fun c2_1 => ?_) (fun c2_1 => ?_)
  · skip
    refine wp_iload_n dd_J9_min_7cf53_9 rfl ?_
    refine wp_ireturn (st := []) dd_J9_min_7cf53_10 rfl ?_
    refine zq_I ?_ ?_ k
    · first | rfl | omega | (rw [if_pos (by omega)]) | (rw [if_neg (by omega)])
    · rfl
  · skip
    refine wp_iload_n dd_J9_min_7cf53_5 rfl ?_
    refine wp_goto (tgt := 10) dd_J9_min_7cf53_6 (by decide) ?_
    refine wp_ireturn (st := []) dd_J9_min_7cf53_10 rfl ?_
    refine zq_I ?_ ?_ k
    · first | rfl | omega | (rw [if_pos (by omega)]) | (rw [if_neg (by omega)])
    · rfl

set_option maxRecDepth 100000 in
set_option maxHeartbeats 4000000 in
theorem sp_J7_fill_53178 {l : Launch} {L : Nat} {mem : zMem} {Q : zQ} {n : Nat} (o : Nat) (v : Int) (hk : (zS L).2.1 o = (0, n)) (hi : o < (zS L).1) (hn : n < 1000000) (k : ∀ (mem2 : zMem), (∀ j : Int, 0 ≤ j → j < n → mem2 o j = v) → (∀ a : Nat, a ≠ o → mem2 a = mem a) → Q none (zS L) mem2) : zw_Ok l mm_J7_fill_53178 [zR o, zI v] (zS L) mem Q := by
  refine zw_okA (fun hA => ?_)
  have rg_v : -2147483648 ≤ v ∧ v < 2147483648 := hA.2.1
  refine zw_enterF (by decide +kernel) (Nat.le_of_ble_eq_true rfl) rfl ?_
  show zw_Wp l mm_J7_fill_53178 (zS L) 0 [some (zR o), some (zI v), none, none] [] mem 0 0 Q
  refine wp_iconst dd_J7_fill_53178_0 (zr_lit rfl) ?_
  refine wp_istore_n (ls2 := [some (zR o), some (zI v), some (zI 0), none]) dd_J7_fill_53178_1 rfl (by decide) rfl ?_
  refine wp_aload_n dd_J7_fill_53178_2 rfl ?_
  refine wp_alen dd_J7_fill_53178_3 hk hi (by omega) ?_
  show zw_Wp l mm_J7_fill_53178 (zS L) 4 [some (zR o), some (zI v), some (zI 0), none] [zI (n : Int)] mem 0 0 Q
  refine wp_istore_n (ls2 := [some (zR o), some (zI v), some (zI 0), some (zI (n : Int))]) dd_J7_fill_53178_4 rfl (by decide) rfl ?_
  have lp5 : ∀ (nf : Nat) (i : Int) (mm : zMem), (0 ≤ i) → (i ≤ n) → (∀ j : Int, 0 ≤ j → j < i → mm o j = v) → (∀ a : Nat, a ≠ o → mm a = mem a) → (n - i) < (nf : Int) → zw_Wp l mm_J7_fill_53178 (zS L) 5 [some (zR o), some (zI v), some (zI i), some (zI (n : Int))] [] mm 0 0 Q := by
    intro nf
    induction nf with
    | zero =>
      intro i mm h0 h1 h2 h3 hmu
      exfalso; omega
    | succ nf ih5 =>
      intro i mm h0 h1 h2 h3 hmu
      refine wp_iload_n dd_J7_fill_53178_5 rfl ?_
      refine wp_iload_n dd_J7_fill_53178_6 rfl ?_
      refine wp_icmp_ge (tgt := 20) dd_J7_fill_53178_7 (by decide) (fun c7_1 => ?_) (fun c7_1 => ?_)
      · skip
        refine wp_return (st := []) dd_J7_fill_53178_20 rfl ?_
        exact k mm (fun j hj1 hj2 => h2 j hj1 (by omega)) h3
      · skip
        refine wp_aload_n dd_J7_fill_53178_10 rfl ?_
        refine wp_iload_n dd_J7_fill_53178_11 rfl ?_
        refine wp_iload_n dd_J7_fill_53178_12 rfl ?_
        refine wp_iast dd_J7_fill_53178_13 hk hi (by omega) (by omega) ?_
        refine wp_iincC (ls2 := [some (zR o), some (zI v), some (zI (i + 1)), some (zI (n : Int))]) dd_J7_fill_53178_14 rfl rfl (by decide) (by omega) rfl ?_
        refine wp_goto (tgt := 5) dd_J7_fill_53178_17 (by decide) ?_
        refine ih5 (i + 1) (zu mm o i v) ?_ ?_ ?_ ?_ ?_
        · first | omega | assumption | (intros; omega)
        · first | omega | assumption | (intros; omega)
        · intro j hj1 hj2
          by_cases hji : j = i
          · subst hji; exact zu_s
          · rw [zu_n (Or.inr hji)]; exact h2 j hj1 (by omega)
        · intro a ha; rw [zu_row ha]; exact h3 a ha
        · omega
  refine lp5 ((n - 0 : Int)).toNat.succ 0 mem ?_ ?_ ?_ ?_ ?_
  · first | omega | assumption | (intros; omega)
  · first | omega | assumption | (intros; omega)
  · intros; omega
  · intros; rfl
  · omega

set_option maxRecDepth 100000 in
set_option maxHeartbeats 4000000 in
theorem sp_X2_degreeOf {l : Launch} {L : Nat} {mem : zMem} {Q : zQ} {n : Nat} (o : Nat) (hk : (zS L).2.1 o = (0, n)) (hi : o < (zS L).1) (hn : n < 1000000) (k : ∀ (d : Int), ((d = -9 ∧ ∀ j : Int, 0 ≤ j → j < n → mem o j = 0) ∨ (0 ≤ d ∧ d < n ∧ mem o d ≠ 0 ∧ ∀ j : Int, d < j → j < n → mem o j = 0)) → Q (some (zI d)) (zS L) mem) : zw_Ok l mm_X2_degreeOf [zR o] (zS L) mem Q := by
  refine zw_enter (by decide) (Nat.le_of_ble_eq_true rfl) rfl ?_
  show zw_Wp l mm_X2_degreeOf (zS L) 0 [some (zR o), none] [] mem 0 0 Q
  refine wp_aload_n dd_X2_degreeOf_0 rfl ?_
  refine wp_alen dd_X2_degreeOf_1 hk hi (by omega) ?_
  show zw_Wp l mm_X2_degreeOf (zS L) 2 [some (zR o), none] [zI (n : Int)] mem 0 0 Q
  refine wp_iconst dd_X2_degreeOf_2 (zr_lit rfl) ?_
  refine wp_isubC dd_X2_degreeOf_3 (by omega) ?_
  refine wp_istore_n (ls2 := [some (zR o), some (zI ((n : Int) - 1))]) dd_X2_degreeOf_4 rfl (by decide) rfl ?_
  have lp5 : ∀ (nf : Nat) (i : Int), (-1 ≤ i) → (i < n) → (∀ j : Int, i < j → j < n → mem o j = 0) → (i + 1) < (nf : Int) → zw_Wp l mm_X2_degreeOf (zS L) 5 [some (zR o), some (zI i)] [] mem 0 0 Q := by
    intro nf
    induction nf with
    | zero =>
      intro i h0 h1 h2 hmu
      exfalso; omega
    | succ nf ih5 =>
      intro i h0 h1 h2 hmu
      refine wp_iload_n dd_X2_degreeOf_5 rfl ?_
      refine wp_if_lt (tgt := 23) dd_X2_degreeOf_6 (by decide) (fun c6_1 => ?_) (fun c6_1 => ?_)
      · skip
        refine wp_bipush dd_X2_degreeOf_23 (by decide) ?_
        refine wp_ireturn (st := []) dd_X2_degreeOf_25 rfl ?_
        exact k _ (Or.inl ⟨rfl, fun j hj1 hj2 => h2 j (by omega) hj2⟩)
      · skip
        refine wp_aload_n dd_X2_degreeOf_9 rfl ?_
        refine wp_iload_n dd_X2_degreeOf_10 rfl ?_
        refine wp_iald dd_X2_degreeOf_11 hk hi (by omega) (by omega) ?_
        refine wp_if_eq (tgt := 17) dd_X2_degreeOf_12 (by decide) (fun c12_2 => ?_) (fun c12_2 => ?_)
        · skip
          refine wp_iincC (ls2 := [some (zR o), some (zI (i + (-1)))]) dd_X2_degreeOf_17 rfl rfl (by decide) (by omega) rfl ?_
          refine wp_goto (tgt := 5) dd_X2_degreeOf_20 (by decide) ?_
          refine ih5 (i + (-1)) ?_ ?_ ?_ ?_
          · first | omega | assumption | (intros; omega)
          · first | omega | assumption | (intros; omega)
          · intro j hj1 hj2
            by_cases hji : j = i
            · subst hji; assumption
            · exact h2 j (by omega) hj2
          · omega
        · skip
          refine wp_iload_n dd_X2_degreeOf_15 rfl ?_
          refine wp_ireturn (st := []) dd_X2_degreeOf_16 rfl ?_
          exact k _ (Or.inr ⟨by omega, h1, by assumption, h2⟩)
  refine lp5 ((((n : Int) - 1) + 1 : Int)).toNat.succ ((n : Int) - 1) ?_ ?_ ?_ ?_
  · first | omega | assumption | (intros; omega)
  · first | omega | assumption | (intros; omega)
  · intros; omega
  · omega


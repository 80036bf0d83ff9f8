/-! ===== the reference: state ===== -/
def zyT (mem : zMem) (q kd fg : Int) : Int := if ¬ (0 ≤ q ∧ q < mem 67 5) then -1 else if ¬ (0 ≤ kd ∧ kd ≤ 5) then -2 else if fg < 0 then -4 else if 9 < fg then -6 else 0
def zyP (mem : zMem) (q i j : Int) : Int := if ¬ (0 ≤ q ∧ q < mem 67 5) then -1 else if i < 0 ∨ j < 0 then -4 else if 5 ≤ i ∨ 5 ≤ j then -6 else 0
def zyB (mem : zMem) (a b le tb : Int) : Int := if ¬ ((0 ≤ a ∧ a < mem 67 5) ∧ (0 ≤ b ∧ b < mem 67 5) ∧ 0 ≤ le ∧ le ≤ 1) then -1 else if ¬ (0 ≤ tb ∧ tb ≤ 1) then -2 else if zdeg (zco mem a) 0 25 < 0 ∨ zdeg (zco mem b) 0 25 < 0 then -3 else 0
def zyV (mem : zMem) (q x y : Int) : Int := if ¬ (0 ≤ q ∧ q < mem 67 5) then -1 else if x < 0 ∨ y < 0 then -4 else if mem 67 1 ≤ x ∨ mem 67 1 ≤ y then -6 else 0
def zyO (mem : zMem) (q od k : Int) : Int := if ¬ (0 ≤ q ∧ q < mem 67 5) then -1 else if ¬ (0 ≤ od ∧ od ≤ 1) then -2 else if k < 0 then -4 else 0
def znt (mem : zMem) (w v : Int) (m1 : zMem) : Prop := (m1 67 8 = znn (mem 67 8) ∧ (∀ k : Int, 0 ≤ k → k < 16 → m1 72 k = zsh1 (mem 72) (mem 67 8) w k ∧ m1 73 k = zsh1 (mem 73) (mem 67 8) v k)) ∧ (∀ a : Nat, a ≠ 67 → a ≠ 72 → a ≠ 73 → m1 a = mem a) ∧ ∀ k : Int, k ≠ 8 → m1 67 k = mem 67 k

set_option maxRecDepth 100000 in
set_option maxHeartbeats 4000000 in
theorem sp_X11_drop {l : Launch} {L : Nat} {mem : zMem} {Q : zQ}   (hn : 0 ≤ mem 67 5 ∧ mem 67 5 ≤ 6) (k : ∀ (r : Int) (mem2 : zMem), ((mem 67 5 = 0 ∧ r = -3 ∧ mem2 = zno mem (-3)) ∨ (mem 67 5 ≠ 0 ∧ r = mem 67 5 - 1 ∧ mem2 = zu (zu mem 67 8 0) 67 5 (mem 67 5 - 1))) → Q (some (zI r)) (zS L) mem2) : zw_Ok l mm_X11_drop [zR 67] (zS L) mem Q := by
  refine zw_enter (by decide) (Nat.le_of_ble_eq_true rfl) rfl ?_
  show zw_Wp l mm_X11_drop (zS L) 0 [some (zR 67)] [] mem 0 0 Q
  refine wp_aload_n dd_X11_drop_0 rfl ?_
  refine wp_getZ 5 rfl dd_X11_drop_1 gf_X11_95 rfl kk_67 (by decide) (zlt rfl) ?_
  refine wp_if_ne (tgt := 14) dd_X11_drop_4 (by decide) (fun c4_1 => ?_) (fun c4_1 => ?_)
  · skip
    refine wp_aload_n dd_X11_drop_14 rfl ?_
    refine wp_iconst dd_X11_drop_15 (zr_lit rfl) ?_
    refine wp_putzI 8 rfl dd_X11_drop_16 pf_X11_117 rfl kk_67 (by decide) (zlt rfl) ?_
    refine wp_aload_n dd_X11_drop_19 rfl ?_
    refine wp_dup dd_X11_drop_20 rfl ?_
    refine wp_getV 5 (v := mem 67 5) rfl (by rw [zu_n (Or.inr (by decide))]) dd_X11_drop_21 gf_X11_95 rfl kk_67 (by decide) (zlt rfl) ?_
    refine wp_iconst dd_X11_drop_24 (zr_lit rfl) ?_
    refine wp_isubC dd_X11_drop_25 (by omega) ?_
    refine wp_putzI 5 rfl dd_X11_drop_26 pf_X11_95 rfl kk_67 (by decide) (zlt rfl) ?_
    refine wp_aload_n dd_X11_drop_29 rfl ?_
    refine wp_getV 5 (v := (mem 67 5) - 1) rfl (by rw [zu_s]) dd_X11_drop_30 gf_X11_95 rfl kk_67 (by decide) (zlt rfl) ?_
    refine wp_ireturn (st := []) dd_X11_drop_33 rfl ?_
    exact k _ _ (Or.inr ⟨by omega, rfl, rfl⟩)
  · skip
    refine wp_aload_n dd_X11_drop_7 rfl ?_
    refine wp_bipush dd_X11_drop_8 (by decide) ?_
    refine wp_callV (M' := mm_X11_no) (As := [zI (-3)]) (rest := []) dd_X11_drop_10 lk_X11_120 mV_X11_no kk_67 (zlt rfl) ⟨_, _, rfl⟩ rfl (by decide) (by decide) (Nat.le_of_ble_eq_true rfl) rfl (sp_X11_no  (-3) (by first | assumption | omega) ?_)
    show zw_Wp l mm_X11_drop (zS L) 13 [some (zR 67)] [zI (-3)] (zu mem 68 (-(-3)) (zwr (mem 68 (-(-3)) + 1))) 0 0 Q
    refine wp_ireturn (st := []) dd_X11_drop_13 rfl ?_
    exact k _ _ (Or.inl ⟨by omega, rfl, rfl⟩)

set_option maxRecDepth 100000 in
set_option maxHeartbeats 4000000 in
theorem sp_X11_prime {l : Launch} {L : Nat} {mem : zMem} {Q : zQ}  (n : Int) (hp : zPr (mem 67 1)) (hn : 0 ≤ mem 67 5 ∧ mem 67 5 ≤ 6) (hTa : ∀ q : Int, 0 ≤ q → q < mem 67 5 → zT mem q) (k : ∀ (r : Int) (mem2 : zMem), ((¬ zPr n ∧ r = -3 ∧ mem2 = zno mem (-3)) ∨ (zPr n ∧ r = mem 67 1 ∧ mem2 67 1 = n ∧ mem2 67 8 = 0 ∧ (∀ k : Int, k ≠ 1 → k ≠ 8 → mem2 67 k = mem 67 k) ∧ (∀ x : Int, 0 ≤ x → x < 25 * mem 67 5 → mem2 69 x = mem 69 x % n) ∧ ∀ a : Nat, a ≠ 67 → a ≠ 69 → mem2 a = mem a)) → Q (some (zI r)) (zS L) mem2) : zw_Ok l mm_X11_prime [zR 67, zI n] (zS L) mem Q := by
  refine zw_okA (fun hA => ?_)
  have rg_n : -2147483648 ≤ n ∧ n < 2147483648 := hA.2.1
  refine zw_enter (by decide) (Nat.le_of_ble_eq_true rfl) rfl ?_
  show zw_Wp l mm_X11_prime (zS L) 0 [some (zR 67), some (zI n), none, none] [] mem 0 0 Q
  have hpr := hp.rg
  have htd : ∀ x : Int, 0 ≤ x → x < 25 * mem 67 5 → 0 ≤ mem 69 x := by
    intro x q1 q2
    have h := (hTa (x / 25) (by omega) (by omega)).2.2.2 (x % 25) (by omega) (by omega)
    unfold ztd at h
    rw [show 25 * (x / 25) + x % 25 = x by omega] at h
    exact h.1
  refine wp_iload_n dd_X11_prime_0 rfl ?_
  refine wp_callS (M' := mm_X11_isPrime) (As := [zI n]) (rest := []) dd_X11_prime_1 lk_X11_150 mS_X11_isPrime rfl (by decide) (by decide) (Nat.le_of_ble_eq_true rfl) rfl (sp_X11_isPrime  n  (fun rp hrp => ?_))
  show zw_Wp l mm_X11_prime (zS L) 4 [some (zR 67), some (zI n), none, none] [zI rp] mem 0 0 Q
  refine wp_if_ne (tgt := 14) dd_X11_prime_4 (by decide) (fun c4_1 => ?_) (fun c4_1 => ?_)
  · skip
    have hz : zPr n := by rcases hrp with h | h; exact h.2; omega
    have hzr := hz.rg
    refine wp_aload_n dd_X11_prime_14 rfl ?_
    refine wp_getZ 1 rfl dd_X11_prime_15 gf_X11_9 rfl kk_67 (by decide) (zlt rfl) ?_
    refine wp_istore_n (ls2 := [some (zR 67), some (zI n), some (zI (mem 67 1)), none]) dd_X11_prime_18 rfl (by decide) rfl ?_
    refine wp_aload_n dd_X11_prime_19 rfl ?_
    refine wp_iload_n dd_X11_prime_20 rfl ?_
    refine wp_putzI 1 rfl dd_X11_prime_21 pf_X11_9 rfl kk_67 (by decide) (zlt rfl) ?_
    refine wp_iconst dd_X11_prime_24 (zr_lit rfl) ?_
    refine wp_istore_n (ls2 := [some (zR 67), some (zI n), some (zI (mem 67 1)), some (zI 0)]) dd_X11_prime_25 rfl (by decide) rfl ?_
    have lp26 : ∀ (nf : Nat) (t : Int) (mm : zMem), (0 ≤ t) → (t ≤ 25 * mem 67 5) → (∀ x : Int, 0 ≤ x → mm 69 x = if x < t then mem 69 x % n else mem 69 x) → (∀ a : Nat, a ≠ 69 → mm a = (zu mem 67 1 n) a) → (25 * mem 67 5 - t) < (nf : Int) → zw_Wp l mm_X11_prime (zS L) 26 [some (zR 67), some (zI n), some (zI (mem 67 1)), some (zI t)] [] mm 0 0 Q := by
      intro nf
      induction nf with
      | zero =>
        intro t mm h0 h1 h2 h3 hmu
        exfalso; omega
      | succ nf ih26 =>
        intro t mm h0 h1 h2 h3 hmu
        have hm67 : mm 67 = (zu mem 67 1 n) 67 := h3 67 (by decide)
        have hm5 : mm 67 5 = mem 67 5 := by rw [hm67, zu_n (Or.inr (by decide))]
        have hmt : t < 25 * mem 67 5 → 0 ≤ mm 69 t := fun q => by rw [h2 t h0, if_neg (by omega)]; exact htd t h0 q
        refine wp_iload_n dd_X11_prime_26 rfl ?_
        refine wp_bipush dd_X11_prime_27 (by decide) ?_
        refine wp_aload_n dd_X11_prime_29 rfl ?_
        refine wp_getZ 5 rfl dd_X11_prime_30 gf_X11_95 rfl kk_67 (by decide) (zlt rfl) ?_
        refine wp_imulC dd_X11_prime_33 (by omega) ?_
        refine wp_icmp_ge (tgt := 53) dd_X11_prime_34 (by decide) (fun c34_2 => ?_) (fun c34_2 => ?_)
        · skip
          refine wp_aload_n dd_X11_prime_53 rfl ?_
          refine wp_iconst dd_X11_prime_54 (zr_lit rfl) ?_
          refine wp_putzI 8 rfl dd_X11_prime_55 pf_X11_117 rfl kk_67 (by decide) (zlt rfl) ?_
          refine wp_iload_n dd_X11_prime_58 rfl ?_
          refine wp_ireturn (st := []) dd_X11_prime_59 rfl ?_
          refine k _ _ (Or.inr ⟨hz, rfl, ?_, ?_, fun q h8 h9 => ?_, fun x q1 q2 => ?_, fun a h8 h9 => ?_⟩)
          · rw [zu_n (Or.inr (by decide)), hm67, zu_s]
          · rw [zu_s]
          · rw [zu_n (Or.inr h9), hm67, zu_n (Or.inr h8)]
          · rw [zu_row (by decide), h2 x q1, if_pos (by omega)]
          · rw [zu_row h8, h3 a h9, zu_row h8]
        · skip
          refine wp_aload_n dd_X11_prime_37 rfl ?_
          refine wp_getR dd_X11_prime_38 gf_X11_31 rfl kk_67 (by decide) (zlt rfl) rr_67_2 ?_
          refine wp_iload_n dd_X11_prime_41 rfl ?_
          refine wp_dup2 dd_X11_prime_42 rfl rfl ?_
          refine wp_iald dd_X11_prime_43 kk_69 (zlt rfl) (by omega) (by omega) ?_
          refine wp_iload_n dd_X11_prime_44 rfl ?_
          refine wp_iremP dd_X11_prime_45 (by omega) (by omega) ?_
          refine wp_iast dd_X11_prime_46 kk_69 (zlt rfl) (by omega) (by omega) ?_
          refine wp_iincC (ls2 := [some (zR 67), some (zI n), some (zI (mem 67 1)), some (zI (t + 1))]) dd_X11_prime_47 rfl rfl (by decide) (by omega) rfl ?_
          refine wp_goto (tgt := 26) dd_X11_prime_50 (by decide) ?_
          refine ih26 (t + 1) (zu mm 69 t ((mm 69 t) % n)) ?_ ?_ ?_ ?_ ?_
          · first | omega | assumption | (intros; omega)
          · first | omega | assumption | (intros; omega)
          · intro x q
            by_cases hx : x = t
            · subst hx; rw [zu_s, if_pos (by omega), h2 x q, if_neg (by omega)]
            · rw [zu_n (Or.inr hx), h2 x q]
              by_cases hl : x < t
              · rw [if_pos hl, if_pos (by omega)]
              · rw [if_neg hl, if_neg (by omega)]
          · intro a ha; rw [zu_row ha]; exact h3 a ha
          · omega
    refine lp26 ((25 * mem 67 5 - 0 : Int)).toNat.succ 0 (zu mem 67 1 n) ?_ ?_ ?_ ?_ ?_
    · first | omega | assumption | (intros; omega)
    · first | omega | assumption | (intros; omega)
    · intro x q; rw [if_neg (by omega), zu_row (by decide)]
    · intros; rfl
    · omega
  · skip
    refine wp_aload_n dd_X11_prime_7 rfl ?_
    refine wp_bipush dd_X11_prime_8 (by decide) ?_
    refine wp_callV (M' := mm_X11_no) (As := [zI (-3)]) (rest := []) dd_X11_prime_10 lk_X11_120 mV_X11_no kk_67 (zlt rfl) ⟨_, _, rfl⟩ rfl (by decide) (by decide) (Nat.le_of_ble_eq_true rfl) rfl (sp_X11_no  (-3) (by first | assumption | omega) ?_)
    show zw_Wp l mm_X11_prime (zS L) 13 [some (zR 67), some (zI n), none, none] [zI (-3)] (zu mem 68 (-(-3)) (zwr (mem 68 (-(-3)) + 1))) 0 0 Q
    refine wp_ireturn (st := []) dd_X11_prime_13 rfl ?_
    exact k _ _ (Or.inl ⟨by rcases hrp with h | h; omega; exact h.2, rfl, rfl⟩)

set_option maxRecDepth 100000 in
set_option maxHeartbeats 4000000 in
theorem sp_X11_turn {l : Launch} {L : Nat} {mem : zMem} {Q : zQ}  (q : Int) (kd : Int) (fg : Int) (hn : 0 ≤ mem 67 5 ∧ mem 67 5 ≤ 6) (hTa : ∀ q : Int, 0 ≤ q → q < mem 67 5 → zT mem q) (hu : 0 ≤ mem 67 8 ∧ mem 67 8 ≤ 16) (k : ∀ (r : Int) (mem2 : zMem), ((zyT mem q kd fg ≠ 0 ∧ r = zyT mem q kd fg ∧ mem2 = zno mem (zyT mem q kd fg)) ∨ (zyT mem q kd fg = 0 ∧ r = 10 * mem 70 q + mem 71 q ∧ ∃ m1, znt mem (-1 - q) (10 * mem 70 q + mem 71 q) m1 ∧ mem2 = zu (zu m1 70 q kd) 71 q fg)) → Q (some (zI r)) (zS L) mem2) : zw_Ok l mm_X11_turn [zR 67, zI q, zI kd, zI fg] (zS L) mem Q := by
  refine zw_okA (fun hA => ?_)
  have rg_q : -2147483648 ≤ q ∧ q < 2147483648 := hA.2.1
  have rg_kd : -2147483648 ≤ kd ∧ kd < 2147483648 := hA.2.2.1
  have rg_fg : -2147483648 ≤ fg ∧ fg < 2147483648 := hA.2.2.2.1
  refine zw_enter (by decide) (Nat.le_of_ble_eq_true rfl) rfl ?_
  show zw_Wp l mm_X11_turn (zS L) 0 [some (zR 67), some (zI q), some (zI kd), some (zI fg), none, none] [] mem 0 0 Q
  refine wp_aload_n dd_X11_turn_0 rfl ?_
  refine wp_iload_n dd_X11_turn_1 rfl ?_
  refine wp_callV (M' := mm_X11_isPoly) (As := [zI q]) (rest := []) dd_X11_turn_2 lk_X11_154 mV_X11_isPoly kk_67 (zlt rfl) ⟨_, _, rfl⟩ rfl (by decide) (by decide) (Nat.le_of_ble_eq_true rfl) rfl (sp_X11_isPoly  q (by first | assumption | omega) ?_)
  show zw_Wp l mm_X11_turn (zS L) 5 [some (zR 67), some (zI q), some (zI kd), some (zI fg), none, none] [zI (if 0 ≤ q ∧ q < mem 67 5 then 1 else 0)] mem 0 0 Q
  refine wp_if_ne (tgt := 12) dd_X11_turn_5 (by decide) (fun c5_1 => ?_) (fun c5_1 => ?_)
  · skip
    refine wp_iload_n dd_X11_turn_12 rfl ?_
    refine wp_iconst dd_X11_turn_13 (zr_lit rfl) ?_
    refine wp_iconst dd_X11_turn_14 (zr_lit rfl) ?_
    refine wp_callS (M' := mm_X11_isIn) (As := [zI kd, zI 0, zI 5]) (rest := []) dd_X11_turn_15 lk_X11_21 mS_X11_isIn rfl (by decide) (by decide) (Nat.le_of_ble_eq_true rfl) rfl (sp_X11_isIn  kd 0 5  ?_)
    show zw_Wp l mm_X11_turn (zS L) 18 [some (zR 67), some (zI q), some (zI kd), some (zI fg), none, none] [zI (if 0 ≤ kd ∧ kd ≤ 5 then 1 else 0)] mem 0 0 Q
    refine wp_if_ne (tgt := 26) dd_X11_turn_18 (by decide) (fun c18_2 => ?_) (fun c18_2 => ?_)
    · skip
      refine wp_iload_n dd_X11_turn_26 rfl ?_
      refine wp_if_ge (tgt := 35) dd_X11_turn_27 (by decide) (fun c27_3 => ?_) (fun c27_3 => ?_)
      · skip
        refine wp_iload_n dd_X11_turn_35 rfl ?_
        refine wp_bipush dd_X11_turn_36 (by decide) ?_
        refine wp_icmp_le (tgt := 46) dd_X11_turn_38 (by decide) (fun c38_4 => ?_) (fun c38_4 => ?_)
        · skip
          refine wp_iconst dd_X11_turn_46 (zr_lit rfl) ?_
          refine wp_istore (ls2 := [some (zR 67), some (zI q), some (zI kd), some (zI fg), some (zI 0), none]) dd_X11_turn_47 rfl (by decide) rfl ?_
          refine wp_iload dd_X11_turn_49 rfl ?_
          refine wp_if_eq (tgt := 61) dd_X11_turn_51 (by decide) (fun c51_5 => ?_) (fun c51_5 => absurd c51_5 (by decide))
          obtain ⟨hq5, hk5, hf9, -⟩ := hTa q (by omega) (by omega)
          refine wp_bipush dd_X11_turn_61 (by decide) ?_
          refine wp_aload_n dd_X11_turn_63 rfl ?_
          refine wp_getR dd_X11_turn_64 gf_X11_34 rfl kk_67 (by decide) (zlt rfl) rr_67_3 ?_
          refine wp_iload_n dd_X11_turn_67 rfl ?_
          refine wp_iald dd_X11_turn_68 kk_70 (zlt rfl) (by omega) (by omega) ?_
          refine wp_imulC dd_X11_turn_69 (by omega) ?_
          refine wp_aload_n dd_X11_turn_70 rfl ?_
          refine wp_getR dd_X11_turn_71 gf_X11_37 rfl kk_67 (by decide) (zlt rfl) rr_67_4 ?_
          refine wp_iload_n dd_X11_turn_74 rfl ?_
          refine wp_iald dd_X11_turn_75 kk_71 (zlt rfl) (by omega) (by omega) ?_
          refine wp_iaddC dd_X11_turn_76 (by omega) ?_
          refine wp_istore (ls2 := [some (zR 67), some (zI q), some (zI kd), some (zI fg), some (zI 0), some (zI ((10 * (mem 70 q)) + (mem 71 q)))]) dd_X11_turn_77 rfl (by decide) rfl ?_
          refine wp_aload_n dd_X11_turn_79 rfl ?_
          refine wp_iconst dd_X11_turn_80 (zr_lit rfl) ?_
          refine wp_iload_n dd_X11_turn_81 rfl ?_
          refine wp_isubC dd_X11_turn_82 (by omega) ?_
          refine wp_iload dd_X11_turn_83 rfl ?_
          refine wp_callV (M' := mm_X11_notes) (As := [zI ((-1) - q), zI ((10 * (mem 70 q)) + (mem 71 q))]) (rest := []) dd_X11_turn_85 lk_X11_157 mV_X11_notes kk_67 (zlt rfl) ⟨_, _, rfl⟩ rfl (by decide) (by decide) (Nat.le_of_ble_eq_true rfl) rfl (sp_X11_notes  ((-1) - q) ((10 * (mem 70 q)) + (mem 71 q)) (by first | assumption | omega) (fun m1 g1 g2 => ?_))
          show zw_Wp l mm_X11_turn (zS L) 88 [some (zR 67), some (zI q), some (zI kd), some (zI fg), some (zI 0), some (zI ((10 * (mem 70 q)) + (mem 71 q)))] [] m1 0 0 Q
          refine wp_aload_n dd_X11_turn_88 rfl ?_
          refine wp_getR dd_X11_turn_89 gf_X11_34 rfl kk_67 (by decide) (zlt rfl) rr_67_3 ?_
          refine wp_iload_n dd_X11_turn_92 rfl ?_
          refine wp_iload_n dd_X11_turn_93 rfl ?_
          refine wp_iast dd_X11_turn_94 kk_70 (zlt rfl) (by omega) (by omega) ?_
          refine wp_aload_n dd_X11_turn_95 rfl ?_
          refine wp_getR dd_X11_turn_96 gf_X11_37 rfl kk_67 (by decide) (zlt rfl) rr_67_4 ?_
          refine wp_iload_n dd_X11_turn_99 rfl ?_
          refine wp_iload_n dd_X11_turn_100 rfl ?_
          refine wp_iast dd_X11_turn_101 kk_71 (zlt rfl) (by omega) (by omega) ?_
          refine wp_iload dd_X11_turn_102 rfl ?_
          refine wp_ireturn (st := []) dd_X11_turn_104 rfl ?_
          have hw : zyT mem q kd fg = 0 := by unfold zyT; repeat first | rw [if_pos (by omega)] | rw [if_neg (by omega)]
          exact k _ _ (Or.inr ⟨hw, rfl, m1, ⟨g1, g2⟩, rfl⟩)
        · skip
          refine wp_bipush dd_X11_turn_41 (by decide) ?_
          refine wp_goto (tgt := 47) dd_X11_turn_43 (by decide) ?_
          refine wp_istore (ls2 := [some (zR 67), some (zI q), some (zI kd), some (zI fg), some (zI (-6)), none]) dd_X11_turn_47 rfl (by decide) rfl ?_
          refine wp_iload dd_X11_turn_49 rfl ?_
          refine wp_if_eq (tgt := 61) dd_X11_turn_51 (by decide) (fun c51_6 => absurd c51_6 (by decide)) (fun c51_6 => ?_)
          refine wp_aload_n dd_X11_turn_54 rfl ?_
          refine wp_iload dd_X11_turn_55 rfl ?_
          refine wp_callV (M' := mm_X11_no) (As := [zI (-6)]) (rest := []) dd_X11_turn_57 lk_X11_120 mV_X11_no kk_67 (zlt rfl) ⟨_, _, rfl⟩ rfl (by decide) (by decide) (Nat.le_of_ble_eq_true rfl) rfl (sp_X11_no  (-6) (by first | assumption | omega) ?_)
          show zw_Wp l mm_X11_turn (zS L) 60 [some (zR 67), some (zI q), some (zI kd), some (zI fg), some (zI (-6)), none] [zI (-6)] (zu mem 68 (-(-6)) (zwr (mem 68 (-(-6)) + 1))) 0 0 Q
          refine wp_ireturn (st := []) dd_X11_turn_60 rfl ?_
          have hw : zyT mem q kd fg = (-6) := by unfold zyT; repeat first | rw [if_pos (by omega)] | rw [if_neg (by omega)]
          exact k _ _ (Or.inl ⟨by rw [hw]; decide, hw.symm, by rw [hw]; rfl⟩)
      · skip
        refine wp_bipush dd_X11_turn_30 (by decide) ?_
        refine wp_goto (tgt := 47) dd_X11_turn_32 (by decide) ?_
        refine wp_istore (ls2 := [some (zR 67), some (zI q), some (zI kd), some (zI fg), some (zI (-4)), none]) dd_X11_turn_47 rfl (by decide) rfl ?_
        refine wp_iload dd_X11_turn_49 rfl ?_
        refine wp_if_eq (tgt := 61) dd_X11_turn_51 (by decide) (fun c51_7 => absurd c51_7 (by decide)) (fun c51_7 => ?_)
        refine wp_aload_n dd_X11_turn_54 rfl ?_
        refine wp_iload dd_X11_turn_55 rfl ?_
        refine wp_callV (M' := mm_X11_no) (As := [zI (-4)]) (rest := []) dd_X11_turn_57 lk_X11_120 mV_X11_no kk_67 (zlt rfl) ⟨_, _, rfl⟩ rfl (by decide) (by decide) (Nat.le_of_ble_eq_true rfl) rfl (sp_X11_no  (-4) (by first | assumption | omega) ?_)
        show zw_Wp l mm_X11_turn (zS L) 60 [some (zR 67), some (zI q), some (zI kd), some (zI fg), some (zI (-4)), none] [zI (-4)] (zu mem 68 (-(-4)) (zwr (mem 68 (-(-4)) + 1))) 0 0 Q
        refine wp_ireturn (st := []) dd_X11_turn_60 rfl ?_
        have hw : zyT mem q kd fg = (-4) := by unfold zyT; repeat first | rw [if_pos (by omega)] | rw [if_neg (by omega)]
        exact k _ _ (Or.inl ⟨by rw [hw]; decide, hw.symm, by rw [hw]; rfl⟩)
    · skip
      refine wp_bipush dd_X11_turn_21 (by decide) ?_
      refine wp_goto (tgt := 47) dd_X11_turn_23 (by decide) ?_
      refine wp_istore (ls2 := [some (zR 67), some (zI q), some (zI kd), some (zI fg), some (zI (-2)), none]) dd_X11_turn_47 rfl (by decide) rfl ?_
      refine wp_iload dd_X11_turn_49 rfl ?_
      refine wp_if_eq (tgt := 61) dd_X11_turn_51 (by decide) (fun c51_8 => absurd c51_8 (by decide)) (fun c51_8 => ?_)
      refine wp_aload_n dd_X11_turn_54 rfl ?_
      refine wp_iload dd_X11_turn_55 rfl ?_
      refine wp_callV (M' := mm_X11_no) (As := [zI (-2)]) (rest := []) dd_X11_turn_57 lk_X11_120 mV_X11_no kk_67 (zlt rfl) ⟨_, _, rfl⟩ rfl (by decide) (by decide) (Nat.le_of_ble_eq_true rfl) rfl (sp_X11_no  (-2) (by first | assumption | omega) ?_)
      show zw_Wp l mm_X11_turn (zS L) 60 [some (zR 67), some (zI q), some (zI kd), some (zI fg), some (zI (-2)), none] [zI (-2)] (zu mem 68 (-(-2)) (zwr (mem 68 (-(-2)) + 1))) 0 0 Q
      refine wp_ireturn (st := []) dd_X11_turn_60 rfl ?_
      have hw : zyT mem q kd fg = (-2) := by unfold zyT; repeat first | rw [if_pos (by omega)] | rw [if_neg (by omega)]
      exact k _ _ (Or.inl ⟨by rw [hw]; decide, hw.symm, by rw [hw]; rfl⟩)
  · skip
    refine wp_iconst dd_X11_turn_8 (zr_lit rfl) ?_
    refine wp_goto (tgt := 47) dd_X11_turn_9 (by decide) ?_
    refine wp_istore (ls2 := [some (zR 67), some (zI q), some (zI kd), some (zI fg), some (zI (-1)), none]) dd_X11_turn_47 rfl (by decide) rfl ?_
    refine wp_iload dd_X11_turn_49 rfl ?_
    refine wp_if_eq (tgt := 61) dd_X11_turn_51 (by decide) (fun c51_9 => absurd c51_9 (by decide)) (fun c51_9 => ?_)
    refine wp_aload_n dd_X11_turn_54 rfl ?_
    refine wp_iload dd_X11_turn_55 rfl ?_
    refine wp_callV (M' := mm_X11_no) (As := [zI (-1)]) (rest := []) dd_X11_turn_57 lk_X11_120 mV_X11_no kk_67 (zlt rfl) ⟨_, _, rfl⟩ rfl (by decide) (by decide) (Nat.le_of_ble_eq_true rfl) rfl (sp_X11_no  (-1) (by first | assumption | omega) ?_)
    show zw_Wp l mm_X11_turn (zS L) 60 [some (zR 67), some (zI q), some (zI kd), some (zI fg), some (zI (-1)), none] [zI (-1)] (zu mem 68 (-(-1)) (zwr (mem 68 (-(-1)) + 1))) 0 0 Q
    refine wp_ireturn (st := []) dd_X11_turn_60 rfl ?_
    have hw : zyT mem q kd fg = (-1) := by unfold zyT; repeat first | rw [if_pos (by omega)] | rw [if_neg (by omega)]
    exact k _ _ (Or.inl ⟨by rw [hw]; decide, hw.symm, by rw [hw]; rfl⟩)

set_option maxRecDepth 100000 in
set_option maxHeartbeats 4000000 in
theorem sp_X11_change {l : Launch} {L : Nat} {mem : zMem} {Q : zQ}  (q : Int) (i : Int) (j : Int) (v : Int) (hp : zPr (mem 67 1)) (hn : 0 ≤ mem 67 5 ∧ mem 67 5 ≤ 6) (hu : 0 ≤ mem 67 8 ∧ mem 67 8 ≤ 16) (k : ∀ (r : Int) (mem2 : zMem), ((zyP mem q i j ≠ 0 ∧ r = zyP mem q i j ∧ mem2 = zno mem (zyP mem q i j)) ∨ (zyP mem q i j = 0 ∧ r = mem 69 (25 * q + 5 * i + j) ∧ ∃ m1, znt mem (25 * q + 5 * i + j) (mem 69 (25 * q + 5 * i + j)) m1 ∧ mem2 = zu m1 69 (25 * q + 5 * i + j) (v % mem 67 1))) → Q (some (zI r)) (zS L) mem2) : zw_Ok l mm_X11_change [zR 67, zI q, zI i, zI j, zI v] (zS L) mem Q := by
  refine zw_okA (fun hA => ?_)
  have rg_q : -2147483648 ≤ q ∧ q < 2147483648 := hA.2.1
  have rg_i : -2147483648 ≤ i ∧ i < 2147483648 := hA.2.2.1
  have rg_j : -2147483648 ≤ j ∧ j < 2147483648 := hA.2.2.2.1
  have rg_v : -2147483648 ≤ v ∧ v < 2147483648 := hA.2.2.2.2.1
  refine zw_enter (by decide) (Nat.le_of_ble_eq_true rfl) rfl ?_
  show zw_Wp l mm_X11_change (zS L) 0 [some (zR 67), some (zI q), some (zI i), some (zI j), some (zI v), none, none, none] [] mem 0 0 Q
  have hpr := hp.rg
  refine wp_aload_n dd_X11_change_0 rfl ?_
  refine wp_iload_n dd_X11_change_1 rfl ?_
  refine wp_iload_n dd_X11_change_2 rfl ?_
  refine wp_iload_n dd_X11_change_3 rfl ?_
  refine wp_callV (M' := mm_X11_notPowers) (As := [zI q, zI i, zI j]) (rest := []) dd_X11_change_4 lk_X11_161 mV_X11_notPowers kk_67 (zlt rfl) ⟨_, _, rfl⟩ rfl (by decide) (by decide) (Nat.le_of_ble_eq_true rfl) rfl (sp_X11_notPowers  q i j (by first | assumption | omega) ?_)
  show zw_Wp l mm_X11_change (zS L) 7 [some (zR 67), some (zI q), some (zI i), some (zI j), some (zI v), none, none, none] [zI (if ¬ (0 ≤ q ∧ q < mem 67 5) then -1 else if i < 0 ∨ j < 0 then -4 else if 5 ≤ i ∨ 5 ≤ j then -6 else 0)] mem 0 0 Q
  have hcs : (if ¬ (0 ≤ q ∧ q < mem 67 5) then (-1 : Int) else if i < 0 ∨ j < 0 then -4 else if 5 ≤ i ∨ 5 ≤ j then -6 else 0) = zyP mem q i j := rfl
  have hcr : zyP mem q i j = 0 ∨ zyP mem q i j = -1 ∨ zyP mem q i j = -4 ∨ zyP mem q i j = -6 := by unfold zyP; omega
  have hc0 : zyP mem q i j = 0 → ((0 ≤ q ∧ q < mem 67 5) ∧ 0 ≤ i ∧ i ≤ 4 ∧ 0 ≤ j ∧ j ≤ 4) := by unfold zyP; omega
  refine wp_istore (ls2 := [some (zR 67), some (zI q), some (zI i), some (zI j), some (zI v), some (zI (if ¬ (0 ≤ q ∧ q < mem 67 5) then -1 else if i < 0 ∨ j < 0 then -4 else if 5 ≤ i ∨ 5 ≤ j then -6 else 0)), none, none]) dd_X11_change_7 rfl (by decide) rfl ?_
  refine wp_iload dd_X11_change_9 rfl ?_
  refine wp_if_eq (tgt := 21) dd_X11_change_11 (by decide) (fun c11_1 => ?_) (fun c11_1 => ?_)
  · skip
    have hok := hc0 (by rw [← hcs]; assumption)
    refine wp_bipush dd_X11_change_21 (by decide) ?_
    refine wp_iload_n dd_X11_change_23 rfl ?_
    refine wp_imulC dd_X11_change_24 (by omega) ?_
    refine wp_iconst dd_X11_change_25 (zr_lit rfl) ?_
    refine wp_iload_n dd_X11_change_26 rfl ?_
    refine wp_imulC dd_X11_change_27 (by omega) ?_
    refine wp_iaddC dd_X11_change_28 (by omega) ?_
    refine wp_iload_n dd_X11_change_29 rfl ?_
    refine wp_iaddC dd_X11_change_30 (by omega) ?_
    refine wp_istore (ls2 := [some (zR 67), some (zI q), some (zI i), some (zI j), some (zI v), some (zI (if ¬ (0 ≤ q ∧ q < mem 67 5) then -1 else if i < 0 ∨ j < 0 then -4 else if 5 ≤ i ∨ 5 ≤ j then -6 else 0)), some (zI (((25 * q) + (5 * i)) + j)), none]) dd_X11_change_31 rfl (by decide) rfl ?_
    refine wp_aload_n dd_X11_change_33 rfl ?_
    refine wp_getR dd_X11_change_34 gf_X11_31 rfl kk_67 (by decide) (zlt rfl) rr_67_2 ?_
    refine wp_iload dd_X11_change_37 rfl ?_
    refine wp_iald dd_X11_change_39 kk_69 (zlt rfl) (by omega) (by omega) ?_
    refine wp_istore (ls2 := [some (zR 67), some (zI q), some (zI i), some (zI j), some (zI v), some (zI (if ¬ (0 ≤ q ∧ q < mem 67 5) then -1 else if i < 0 ∨ j < 0 then -4 else if 5 ≤ i ∨ 5 ≤ j then -6 else 0)), some (zI (((25 * q) + (5 * i)) + j)), some (zI (mem 69 (((25 * q) + (5 * i)) + j)))]) dd_X11_change_40 rfl (by decide) rfl ?_
    refine wp_aload_n dd_X11_change_42 rfl ?_
    refine wp_iload dd_X11_change_43 rfl ?_
    refine wp_iload dd_X11_change_45 rfl ?_
    refine wp_callV (M' := mm_X11_notes) (As := [zI (((25 * q) + (5 * i)) + j), zI (mem 69 (((25 * q) + (5 * i)) + j))]) (rest := []) dd_X11_change_47 lk_X11_157 mV_X11_notes kk_67 (zlt rfl) ⟨_, _, rfl⟩ rfl (by decide) (by decide) (Nat.le_of_ble_eq_true rfl) rfl (sp_X11_notes  (((25 * q) + (5 * i)) + j) (mem 69 (((25 * q) + (5 * i)) + j)) (by first | assumption | omega) (fun m1 g1 g2 => ?_))
    show zw_Wp l mm_X11_change (zS L) 50 [some (zR 67), some (zI q), some (zI i), some (zI j), some (zI v), some (zI (if ¬ (0 ≤ q ∧ q < mem 67 5) then -1 else if i < 0 ∨ j < 0 then -4 else if 5 ≤ i ∨ 5 ≤ j then -6 else 0)), some (zI (((25 * q) + (5 * i)) + j)), some (zI (mem 69 (((25 * q) + (5 * i)) + j)))] [] m1 0 0 Q
    have gp : m1 67 1 = mem 67 1 := g2.2 1 (by decide)
    refine wp_aload_n dd_X11_change_50 rfl ?_
    refine wp_getR dd_X11_change_51 gf_X11_31 rfl kk_67 (by decide) (zlt rfl) rr_67_2 ?_
    refine wp_iload dd_X11_change_54 rfl ?_
    refine wp_aload_n dd_X11_change_56 rfl ?_
    refine wp_iload dd_X11_change_57 rfl ?_
    refine wp_callV (M' := mm_X11_rest) (As := [zI v]) (rest := [zI (((25 * q) + (5 * i)) + j), zR 69]) dd_X11_change_59 lk_X11_13 mV_X11_rest kk_67 (zlt rfl) ⟨_, _, rfl⟩ rfl (by decide) (by decide) (Nat.le_of_ble_eq_true rfl) rfl (sp_X11_rest  v (by rw [gp]; exact hp) ?_)
    show zw_Wp l mm_X11_change (zS L) 62 [some (zR 67), some (zI q), some (zI i), some (zI j), some (zI v), some (zI (if ¬ (0 ≤ q ∧ q < mem 67 5) then -1 else if i < 0 ∨ j < 0 then -4 else if 5 ≤ i ∨ 5 ≤ j then -6 else 0)), some (zI (((25 * q) + (5 * i)) + j)), some (zI (mem 69 (((25 * q) + (5 * i)) + j)))] [zI (v % m1 67 1), zI (((25 * q) + (5 * i)) + j), zR 69] m1 0 0 Q
    refine wp_iast dd_X11_change_62 kk_69 (zlt rfl) (by omega) (by omega) ?_
    refine wp_iload dd_X11_change_63 rfl ?_
    refine wp_ireturn (st := []) dd_X11_change_65 rfl ?_
    exact k _ _ (Or.inr ⟨by rw [← hcs]; assumption, rfl, m1, ⟨g1, g2⟩, by rw [gp]⟩)
  · skip
    refine wp_aload_n dd_X11_change_14 rfl ?_
    refine wp_iload dd_X11_change_15 rfl ?_
    refine wp_callV (M' := mm_X11_no) (As := [zI (if ¬ (0 ≤ q ∧ q < mem 67 5) then -1 else if i < 0 ∨ j < 0 then -4 else if 5 ≤ i ∨ 5 ≤ j then -6 else 0)]) (rest := []) dd_X11_change_17 lk_X11_120 mV_X11_no kk_67 (zlt rfl) ⟨_, _, rfl⟩ rfl (by decide) (by decide) (Nat.le_of_ble_eq_true rfl) rfl (sp_X11_no  (if ¬ (0 ≤ q ∧ q < mem 67 5) then -1 else if i < 0 ∨ j < 0 then -4 else if 5 ≤ i ∨ 5 ≤ j then -6 else 0) (by first | assumption | omega) ?_)
    show zw_Wp l mm_X11_change (zS L) 20 [some (zR 67), some (zI q), some (zI i), some (zI j), some (zI v), some (zI (if ¬ (0 ≤ q ∧ q < mem 67 5) then -1 else if i < 0 ∨ j < 0 then -4 else if 5 ≤ i ∨ 5 ≤ j then -6 else 0)), none, none] [zI (if ¬ (0 ≤ q ∧ q < mem 67 5) then -1 else if i < 0 ∨ j < 0 then -4 else if 5 ≤ i ∨ 5 ≤ j then -6 else 0)] (zu mem 68 (-(if ¬ (0 ≤ q ∧ q < mem 67 5) then -1 else if i < 0 ∨ j < 0 then -4 else if 5 ≤ i ∨ 5 ≤ j then -6 else 0)) (zwr (mem 68 (-(if ¬ (0 ≤ q ∧ q < mem 67 5) then -1 else if i < 0 ∨ j < 0 then -4 else if 5 ≤ i ∨ 5 ≤ j then -6 else 0)) + 1))) 0 0 Q
    refine wp_ireturn (st := []) dd_X11_change_20 rfl ?_
    exact k _ _ (Or.inl ⟨by rw [← hcs]; assumption, hcs, by rw [hcs]; rfl⟩)

set_option maxRecDepth 100000 in
set_option maxHeartbeats 4000000 in
theorem sp_X11_coefficient {l : Launch} {L : Nat} {mem : zMem} {Q : zQ}  (q : Int) (i : Int) (j : Int) (hp : zPr (mem 67 1)) (hn : 0 ≤ mem 67 5 ∧ mem 67 5 ≤ 6) (hTa : ∀ q : Int, 0 ≤ q → q < mem 67 5 → zT mem q) (k : ∀ (r : Int) (mem2 : zMem), ((zyP mem q i j ≠ 0 ∧ r = zyP mem q i j ∧ mem2 = zno mem (zyP mem q i j)) ∨ (zyP mem q i j = 0 ∧ r = zco mem q (5 * i + j) ∧ mem2 = mem)) → Q (some (zI r)) (zS L) mem2) : zw_Ok l mm_X11_coefficient [zR 67, zI q, zI i, zI j] (zS L) mem Q := by
  refine zw_okA (fun hA => ?_)
  have rg_q : -2147483648 ≤ q ∧ q < 2147483648 := hA.2.1
  have rg_i : -2147483648 ≤ i ∧ i < 2147483648 := hA.2.2.1
  have rg_j : -2147483648 ≤ j ∧ j < 2147483648 := hA.2.2.2.1
  refine zw_enter (by decide) (Nat.le_of_ble_eq_true rfl) rfl ?_
  show zw_Wp l mm_X11_coefficient (zS L) 0 [some (zR 67), some (zI q), some (zI i), some (zI j), none] [] mem 0 0 Q
  have hpr := hp.rg
  refine wp_aload_n dd_X11_coefficient_0 rfl ?_
  refine wp_iload_n dd_X11_coefficient_1 rfl ?_
  refine wp_iload_n dd_X11_coefficient_2 rfl ?_
  refine wp_iload_n dd_X11_coefficient_3 rfl ?_
  refine wp_callV (M' := mm_X11_notPowers) (As := [zI q, zI i, zI j]) (rest := []) dd_X11_coefficient_4 lk_X11_161 mV_X11_notPowers kk_67 (zlt rfl) ⟨_, _, rfl⟩ rfl (by decide) (by decide) (Nat.le_of_ble_eq_true rfl) rfl (sp_X11_notPowers  q i j (by first | assumption | omega) ?_)
  show zw_Wp l mm_X11_coefficient (zS L) 7 [some (zR 67), some (zI q), some (zI i), some (zI j), none] [zI (if ¬ (0 ≤ q ∧ q < mem 67 5) then -1 else if i < 0 ∨ j < 0 then -4 else if 5 ≤ i ∨ 5 ≤ j then -6 else 0)] mem 0 0 Q
  have hcs : (if ¬ (0 ≤ q ∧ q < mem 67 5) then (-1 : Int) else if i < 0 ∨ j < 0 then -4 else if 5 ≤ i ∨ 5 ≤ j then -6 else 0) = zyP mem q i j := rfl
  have hcr : zyP mem q i j = 0 ∨ zyP mem q i j = -1 ∨ zyP mem q i j = -4 ∨ zyP mem q i j = -6 := by unfold zyP; omega
  have hc0 : zyP mem q i j = 0 → ((0 ≤ q ∧ q < mem 67 5) ∧ 0 ≤ i ∧ i ≤ 4 ∧ 0 ≤ j ∧ j ≤ 4) := by unfold zyP; omega
  refine wp_istore (ls2 := [some (zR 67), some (zI q), some (zI i), some (zI j), some (zI (if ¬ (0 ≤ q ∧ q < mem 67 5) then -1 else if i < 0 ∨ j < 0 then -4 else if 5 ≤ i ∨ 5 ≤ j then -6 else 0))]) dd_X11_coefficient_7 rfl (by decide) rfl ?_
  refine wp_iload dd_X11_coefficient_9 rfl ?_
  refine wp_if_eq (tgt := 23) dd_X11_coefficient_11 (by decide) (fun c11_1 => ?_) (fun c11_1 => ?_)
  · skip
    refine wp_aload_n dd_X11_coefficient_23 rfl ?_
    refine wp_iload_n dd_X11_coefficient_24 rfl ?_
    refine wp_iload_n dd_X11_coefficient_25 rfl ?_
    refine wp_iload_n dd_X11_coefficient_26 rfl ?_
    have hok := hc0 (by rw [← hcs]; assumption)
    refine wp_callV (M' := mm_X11_coefficientOf) (As := [zI q, zI i, zI j]) (rest := []) dd_X11_coefficient_27 lk_X11_108 mV_X11_coefficientOf kk_67 (zlt rfl) ⟨_, _, rfl⟩ rfl (by decide) (by decide) (Nat.le_of_ble_eq_true rfl) rfl (sp_X11_coefficientOf  q i j (by first | assumption | omega) (hTa q (by omega) (by omega)) (by first | assumption | omega) (by first | assumption | omega) ?_)
    show zw_Wp l mm_X11_coefficient (zS L) 30 [some (zR 67), some (zI q), some (zI i), some (zI j), some (zI (if ¬ (0 ≤ q ∧ q < mem 67 5) then -1 else if i < 0 ∨ j < 0 then -4 else if 5 ≤ i ∨ 5 ≤ j then -6 else 0))] [zI (zcf (mem 70 q) (mem 71 q) (mem 67 1) (ztd mem q) i j)] mem 0 0 Q
    refine wp_ireturn (st := []) dd_X11_coefficient_30 rfl ?_
    exact k _ _ (Or.inr ⟨by rw [← hcs]; assumption, zco_at (by omega) (by omega), rfl⟩)
  · skip
    refine wp_aload_n dd_X11_coefficient_14 rfl ?_
    refine wp_iload dd_X11_coefficient_15 rfl ?_
    refine wp_callV (M' := mm_X11_no) (As := [zI (if ¬ (0 ≤ q ∧ q < mem 67 5) then -1 else if i < 0 ∨ j < 0 then -4 else if 5 ≤ i ∨ 5 ≤ j then -6 else 0)]) (rest := []) dd_X11_coefficient_17 lk_X11_120 mV_X11_no kk_67 (zlt rfl) ⟨_, _, rfl⟩ rfl (by decide) (by decide) (Nat.le_of_ble_eq_true rfl) rfl (sp_X11_no  (if ¬ (0 ≤ q ∧ q < mem 67 5) then -1 else if i < 0 ∨ j < 0 then -4 else if 5 ≤ i ∨ 5 ≤ j then -6 else 0) (by first | assumption | omega) ?_)
    show zw_Wp l mm_X11_coefficient (zS L) 20 [some (zR 67), some (zI q), some (zI i), some (zI j), some (zI (if ¬ (0 ≤ q ∧ q < mem 67 5) then -1 else if i < 0 ∨ j < 0 then -4 else if 5 ≤ i ∨ 5 ≤ j then -6 else 0))] [zI (if ¬ (0 ≤ q ∧ q < mem 67 5) then -1 else if i < 0 ∨ j < 0 then -4 else if 5 ≤ i ∨ 5 ≤ j then -6 else 0)] (zu mem 68 (-(if ¬ (0 ≤ q ∧ q < mem 67 5) then -1 else if i < 0 ∨ j < 0 then -4 else if 5 ≤ i ∨ 5 ≤ j then -6 else 0)) (zwr (mem 68 (-(if ¬ (0 ≤ q ∧ q < mem 67 5) then -1 else if i < 0 ∨ j < 0 then -4 else if 5 ≤ i ∨ 5 ≤ j then -6 else 0)) + 1))) 0 0 Q
    refine wp_goto (tgt := 30) dd_X11_coefficient_20 (by decide) ?_
    refine wp_ireturn (st := []) dd_X11_coefficient_30 rfl ?_
    exact k _ _ (Or.inl ⟨by rw [← hcs]; assumption, hcs, by rw [hcs]; rfl⟩)

set_option maxRecDepth 100000 in
set_option maxHeartbeats 4000000 in
theorem sp_X11_value {l : Launch} {L : Nat} {mem : zMem} {Q : zQ}  (q : Int) (x : Int) (y : Int) (hp : zPr (mem 67 1)) (hn : 0 ≤ mem 67 5 ∧ mem 67 5 ≤ 6) (hTa : ∀ q : Int, 0 ≤ q → q < mem 67 5 → zT mem q) (k : ∀ (r : Int) (mem2 : zMem), ((zyV mem q x y ≠ 0 ∧ r = zyV mem q x y ∧ mem2 = zno mem (zyV mem q x y)) ∨ (zyV mem q x y = 0 ∧ r = zvs (zco mem q) x y (mem 67 1) 25 ∧ mem2 = mem)) → Q (some (zI r)) (zS L) mem2) : zw_Ok l mm_X11_value [zR 67, zI q, zI x, zI y] (zS L) mem Q := by
  refine zw_okA (fun hA => ?_)
  have rg_q : -2147483648 ≤ q ∧ q < 2147483648 := hA.2.1
  have rg_x : -2147483648 ≤ x ∧ x < 2147483648 := hA.2.2.1
  have rg_y : -2147483648 ≤ y ∧ y < 2147483648 := hA.2.2.2.1
  refine zw_enter (by decide) (Nat.le_of_ble_eq_true rfl) rfl ?_
  show zw_Wp l mm_X11_value (zS L) 0 [some (zR 67), some (zI q), some (zI x), some (zI y), none] [] mem 0 0 Q
  have hpr := hp.rg
  refine wp_aload_n dd_X11_value_0 rfl ?_
  refine wp_iload_n dd_X11_value_1 rfl ?_
  refine wp_callV (M' := mm_X11_isPoly) (As := [zI q]) (rest := []) dd_X11_value_2 lk_X11_154 mV_X11_isPoly kk_67 (zlt rfl) ⟨_, _, rfl⟩ rfl (by decide) (by decide) (Nat.le_of_ble_eq_true rfl) rfl (sp_X11_isPoly  q (by first | assumption | omega) ?_)
  show zw_Wp l mm_X11_value (zS L) 5 [some (zR 67), some (zI q), some (zI x), some (zI y), none] [zI (if 0 ≤ q ∧ q < mem 67 5 then 1 else 0)] mem 0 0 Q
  refine wp_if_ne (tgt := 12) dd_X11_value_5 (by decide) (fun c5_1 => ?_) (fun c5_1 => ?_)
  · skip
    refine wp_iload_n dd_X11_value_12 rfl ?_
    refine wp_if_lt (tgt := 20) dd_X11_value_13 (by decide) (fun c13_2 => ?_) (fun c13_2 => ?_)
    · skip
      refine wp_bipush dd_X11_value_20 (by decide) ?_
      refine wp_goto (tgt := 47) dd_X11_value_22 (by decide) ?_
      refine wp_istore (ls2 := [some (zR 67), some (zI q), some (zI x), some (zI y), some (zI (-4))]) dd_X11_value_47 rfl (by decide) rfl ?_
      refine wp_iload dd_X11_value_49 rfl ?_
      refine wp_if_eq (tgt := 63) dd_X11_value_51 (by decide) (fun c51_3 => absurd c51_3 (by decide)) (fun c51_3 => ?_)
      refine wp_aload_n dd_X11_value_54 rfl ?_
      refine wp_iload dd_X11_value_55 rfl ?_
      refine wp_callV (M' := mm_X11_no) (As := [zI (-4)]) (rest := []) dd_X11_value_57 lk_X11_120 mV_X11_no kk_67 (zlt rfl) ⟨_, _, rfl⟩ rfl (by decide) (by decide) (Nat.le_of_ble_eq_true rfl) rfl (sp_X11_no  (-4) (by first | assumption | omega) ?_)
      show zw_Wp l mm_X11_value (zS L) 60 [some (zR 67), some (zI q), some (zI x), some (zI y), some (zI (-4))] [zI (-4)] (zu mem 68 (-(-4)) (zwr (mem 68 (-(-4)) + 1))) 0 0 Q
      refine wp_goto (tgt := 70) dd_X11_value_60 (by decide) ?_
      refine wp_ireturn (st := []) dd_X11_value_70 rfl ?_
      have hw : zyV mem q x y = (-4) := by unfold zyV; repeat first | rw [if_pos (by omega)] | rw [if_neg (by omega)]
      exact k _ _ (Or.inl ⟨by rw [hw]; decide, hw.symm, by rw [hw]; rfl⟩)
    · skip
      refine wp_iload_n dd_X11_value_16 rfl ?_
      refine wp_if_ge (tgt := 25) dd_X11_value_17 (by decide) (fun c17_4 => ?_) (fun c17_4 => ?_)
      · skip
        refine wp_iload_n dd_X11_value_25 rfl ?_
        refine wp_aload_n dd_X11_value_26 rfl ?_
        refine wp_getZ 1 rfl dd_X11_value_27 gf_X11_9 rfl kk_67 (by decide) (zlt rfl) ?_
        refine wp_icmp_ge (tgt := 41) dd_X11_value_30 (by decide) (fun c30_5 => ?_) (fun c30_5 => ?_)
        · skip
          refine wp_bipush dd_X11_value_41 (by decide) ?_
          refine wp_goto (tgt := 47) dd_X11_value_43 (by decide) ?_
          refine wp_istore (ls2 := [some (zR 67), some (zI q), some (zI x), some (zI y), some (zI (-6))]) dd_X11_value_47 rfl (by decide) rfl ?_
          refine wp_iload dd_X11_value_49 rfl ?_
          refine wp_if_eq (tgt := 63) dd_X11_value_51 (by decide) (fun c51_6 => absurd c51_6 (by decide)) (fun c51_6 => ?_)
          refine wp_aload_n dd_X11_value_54 rfl ?_
          refine wp_iload dd_X11_value_55 rfl ?_
          refine wp_callV (M' := mm_X11_no) (As := [zI (-6)]) (rest := []) dd_X11_value_57 lk_X11_120 mV_X11_no kk_67 (zlt rfl) ⟨_, _, rfl⟩ rfl (by decide) (by decide) (Nat.le_of_ble_eq_true rfl) rfl (sp_X11_no  (-6) (by first | assumption | omega) ?_)
          show zw_Wp l mm_X11_value (zS L) 60 [some (zR 67), some (zI q), some (zI x), some (zI y), some (zI (-6))] [zI (-6)] (zu mem 68 (-(-6)) (zwr (mem 68 (-(-6)) + 1))) 0 0 Q
          refine wp_goto (tgt := 70) dd_X11_value_60 (by decide) ?_
          refine wp_ireturn (st := []) dd_X11_value_70 rfl ?_
          have hw : zyV mem q x y = (-6) := by unfold zyV; repeat first | rw [if_pos (by omega)] | rw [if_neg (by omega)]
          exact k _ _ (Or.inl ⟨by rw [hw]; decide, hw.symm, by rw [hw]; rfl⟩)
        · skip
          refine wp_iload_n dd_X11_value_33 rfl ?_
          refine wp_aload_n dd_X11_value_34 rfl ?_
          refine wp_getZ 1 rfl dd_X11_value_35 gf_X11_9 rfl kk_67 (by decide) (zlt rfl) ?_
          refine wp_icmp_lt (tgt := 46) dd_X11_value_38 (by decide) (fun c38_7 => ?_) (fun c38_7 => ?_)
          · skip
            refine wp_iconst dd_X11_value_46 (zr_lit rfl) ?_
            refine wp_istore (ls2 := [some (zR 67), some (zI q), some (zI x), some (zI y), some (zI 0)]) dd_X11_value_47 rfl (by decide) rfl ?_
            refine wp_iload dd_X11_value_49 rfl ?_
            refine wp_if_eq (tgt := 63) dd_X11_value_51 (by decide) (fun c51_8 => ?_) (fun c51_8 => absurd c51_8 (by decide))
            refine wp_aload_n dd_X11_value_63 rfl ?_
            refine wp_iload_n dd_X11_value_64 rfl ?_
            refine wp_iload_n dd_X11_value_65 rfl ?_
            refine wp_iload_n dd_X11_value_66 rfl ?_
            refine wp_callV (M' := mm_X11_valueAt) (As := [zI q, zI x, zI y]) (rest := []) dd_X11_value_67 lk_X11_167 mV_X11_valueAt kk_67 (zlt rfl) ⟨_, _, rfl⟩ rfl (by decide) (by decide) (Nat.le_of_ble_eq_true rfl) rfl (sp_X11_valueAt  q x y (by first | assumption | omega) (hTa q (by omega) (by omega)) ?_)
            show zw_Wp l mm_X11_value (zS L) 70 [some (zR 67), some (zI q), some (zI x), some (zI y), some (zI 0)] [zI (zvs (zco mem q) x y (mem 67 1) 25)] mem 0 0 Q
            refine wp_ireturn (st := []) dd_X11_value_70 rfl ?_
            have hw : zyV mem q x y = 0 := by unfold zyV; repeat first | rw [if_pos (by omega)] | rw [if_neg (by omega)]
            exact k _ _ (Or.inr ⟨hw, rfl, rfl⟩)
          · skip
            refine wp_bipush dd_X11_value_41 (by decide) ?_
            refine wp_goto (tgt := 47) dd_X11_value_43 (by decide) ?_
            refine wp_istore (ls2 := [some (zR 67), some (zI q), some (zI x), some (zI y), some (zI (-6))]) dd_X11_value_47 rfl (by decide) rfl ?_
            refine wp_iload dd_X11_value_49 rfl ?_
            refine wp_if_eq (tgt := 63) dd_X11_value_51 (by decide) (fun c51_9 => absurd c51_9 (by decide)) (fun c51_9 => ?_)
            refine wp_aload_n dd_X11_value_54 rfl ?_
            refine wp_iload dd_X11_value_55 rfl ?_
            refine wp_callV (M' := mm_X11_no) (As := [zI (-6)]) (rest := []) dd_X11_value_57 lk_X11_120 mV_X11_no kk_67 (zlt rfl) ⟨_, _, rfl⟩ rfl (by decide) (by decide) (Nat.le_of_ble_eq_true rfl) rfl (sp_X11_no  (-6) (by first | assumption | omega) ?_)
            show zw_Wp l mm_X11_value (zS L) 60 [some (zR 67), some (zI q), some (zI x), some (zI y), some (zI (-6))] [zI (-6)] (zu mem 68 (-(-6)) (zwr (mem 68 (-(-6)) + 1))) 0 0 Q
            refine wp_goto (tgt := 70) dd_X11_value_60 (by decide) ?_
            refine wp_ireturn (st := []) dd_X11_value_70 rfl ?_
            have hw : zyV mem q x y = (-6) := by unfold zyV; repeat first | rw [if_pos (by omega)] | rw [if_neg (by omega)]
            exact k _ _ (Or.inl ⟨by rw [hw]; decide, hw.symm, by rw [hw]; rfl⟩)
      · skip
        refine wp_bipush dd_X11_value_20 (by decide) ?_
        refine wp_goto (tgt := 47) dd_X11_value_22 (by decide) ?_
        refine wp_istore (ls2 := [some (zR 67), some (zI q), some (zI x), some (zI y), some (zI (-4))]) dd_X11_value_47 rfl (by decide) rfl ?_
        refine wp_iload dd_X11_value_49 rfl ?_
        refine wp_if_eq (tgt := 63) dd_X11_value_51 (by decide) (fun c51_10 => absurd c51_10 (by decide)) (fun c51_10 => ?_)
        refine wp_aload_n dd_X11_value_54 rfl ?_
        refine wp_iload dd_X11_value_55 rfl ?_
        refine wp_callV (M' := mm_X11_no) (As := [zI (-4)]) (rest := []) dd_X11_value_57 lk_X11_120 mV_X11_no kk_67 (zlt rfl) ⟨_, _, rfl⟩ rfl (by decide) (by decide) (Nat.le_of_ble_eq_true rfl) rfl (sp_X11_no  (-4) (by first | assumption | omega) ?_)
        show zw_Wp l mm_X11_value (zS L) 60 [some (zR 67), some (zI q), some (zI x), some (zI y), some (zI (-4))] [zI (-4)] (zu mem 68 (-(-4)) (zwr (mem 68 (-(-4)) + 1))) 0 0 Q
        refine wp_goto (tgt := 70) dd_X11_value_60 (by decide) ?_
        refine wp_ireturn (st := []) dd_X11_value_70 rfl ?_
        have hw : zyV mem q x y = (-4) := by unfold zyV; repeat first | rw [if_pos (by omega)] | rw [if_neg (by omega)]
        exact k _ _ (Or.inl ⟨by rw [hw]; decide, hw.symm, by rw [hw]; rfl⟩)
  · skip
    refine wp_iconst dd_X11_value_8 (zr_lit rfl) ?_
    refine wp_goto (tgt := 47) dd_X11_value_9 (by decide) ?_
    refine wp_istore (ls2 := [some (zR 67), some (zI q), some (zI x), some (zI y), some (zI (-1))]) dd_X11_value_47 rfl (by decide) rfl ?_
    refine wp_iload dd_X11_value_49 rfl ?_
    refine wp_if_eq (tgt := 63) dd_X11_value_51 (by decide) (fun c51_11 => absurd c51_11 (by decide)) (fun c51_11 => ?_)
    refine wp_aload_n dd_X11_value_54 rfl ?_
    refine wp_iload dd_X11_value_55 rfl ?_
    refine wp_callV (M' := mm_X11_no) (As := [zI (-1)]) (rest := []) dd_X11_value_57 lk_X11_120 mV_X11_no kk_67 (zlt rfl) ⟨_, _, rfl⟩ rfl (by decide) (by decide) (Nat.le_of_ble_eq_true rfl) rfl (sp_X11_no  (-1) (by first | assumption | omega) ?_)
    show zw_Wp l mm_X11_value (zS L) 60 [some (zR 67), some (zI q), some (zI x), some (zI y), some (zI (-1))] [zI (-1)] (zu mem 68 (-(-1)) (zwr (mem 68 (-(-1)) + 1))) 0 0 Q
    refine wp_goto (tgt := 70) dd_X11_value_60 (by decide) ?_
    refine wp_ireturn (st := []) dd_X11_value_70 rfl ?_
    have hw : zyV mem q x y = (-1) := by unfold zyV; repeat first | rw [if_pos (by omega)] | rw [if_neg (by omega)]
    exact k _ _ (Or.inl ⟨by rw [hw]; decide, hw.symm, by rw [hw]; rfl⟩)

set_option maxRecDepth 100000 in
set_option maxHeartbeats 4000000 in
theorem sp_X11_of {l : Launch} {L : Nat} {mem : zMem} {Q : zQ}  (q : Int) (w : Int) (hp : zPr (mem 67 1)) (hn : 0 ≤ mem 67 5 ∧ mem 67 5 ≤ 6) (hTa : ∀ q : Int, 0 ≤ q → q < mem 67 5 → zT mem q) (k : ∀ (r : Int) (mem2 : zMem), ((¬ (0 ≤ q ∧ q < mem 67 5) ∧ r = -1 ∧ mem2 = zno mem (-1)) ∨ ((0 ≤ q ∧ q < mem 67 5) ∧ ((¬ (0 ≤ w ∧ w ≤ 5) ∧ r = -2 ∧ mem2 = zno mem (-2)) ∨ (mem2 = mem ∧ ((w = 0 ∧ r = mem 70 q) ∨ (w = 1 ∧ r = mem 71 q) ∨ (w = 2 ∧ r = zdeg (zco mem q) 0 25) ∨ (w = 3 ∧ r = zdeg (zco mem q) 1 25) ∨ (w = 4 ∧ r = zcnt (zco mem q) 25) ∨ (w = 5 ∧ r = zdeg (zco mem q) 2 25)))))) → Q (some (zI r)) (zS L) mem2) : zw_Ok l mm_X11_of [zR 67, zI q, zI w] (zS L) mem Q := by
  refine zw_okA (fun hA => ?_)
  have rg_q : -2147483648 ≤ q ∧ q < 2147483648 := hA.2.1
  have rg_w : -2147483648 ≤ w ∧ w < 2147483648 := hA.2.2.1
  refine zw_enter (by decide) (Nat.le_of_ble_eq_true rfl) rfl ?_
  show zw_Wp l mm_X11_of (zS L) 0 [some (zR 67), some (zI q), some (zI w)] [] mem 0 0 Q
  refine wp_aload_n dd_X11_of_0 rfl ?_
  refine wp_iload_n dd_X11_of_1 rfl ?_
  refine wp_callV (M' := mm_X11_isPoly) (As := [zI q]) (rest := []) dd_X11_of_2 lk_X11_154 mV_X11_isPoly kk_67 (zlt rfl) ⟨_, _, rfl⟩ rfl (by decide) (by decide) (Nat.le_of_ble_eq_true rfl) rfl (sp_X11_isPoly  q (by first | assumption | omega) ?_)
  show zw_Wp l mm_X11_of (zS L) 5 [some (zR 67), some (zI q), some (zI w)] [zI (if 0 ≤ q ∧ q < mem 67 5 then 1 else 0)] mem 0 0 Q
  refine wp_if_ne (tgt := 14) dd_X11_of_5 (by decide) (fun c5_1 => ?_) (fun c5_1 => ?_)
  · skip
    have hok : 0 ≤ q ∧ q < mem 67 5 := by omega
    have hTq := hTa q hok.1 hok.2
    have hq6 := hTq.1
    refine wp_iload_n dd_X11_of_14 rfl ?_
    by_cases w15_2c0 : w = 0
    · skip
      refine wp_tabIn (tgt := 52) (off := 37) dd_X11_of_15 (by omega) (by omega) (by rw [w15_2c0]; rfl) (by decide) ?_
      refine wp_aload_n dd_X11_of_52 rfl ?_
      refine wp_getR dd_X11_of_53 gf_X11_34 rfl kk_67 (by decide) (zlt rfl) rr_67_3 ?_
      refine wp_iload_n dd_X11_of_56 rfl ?_
      refine wp_iald dd_X11_of_57 kk_70 (zlt rfl) (by omega) (by omega) ?_
      refine wp_ireturn (st := []) dd_X11_of_58 rfl ?_
      exact k _ _ (Or.inr ⟨hok, Or.inr ⟨rfl, Or.inl ⟨by assumption, rfl⟩⟩⟩)
    by_cases w15_2c1 : w = 1
    · skip
      refine wp_tabIn (tgt := 59) (off := 44) dd_X11_of_15 (by omega) (by omega) (by rw [w15_2c1]; rfl) (by decide) ?_
      refine wp_aload_n dd_X11_of_59 rfl ?_
      refine wp_getR dd_X11_of_60 gf_X11_37 rfl kk_67 (by decide) (zlt rfl) rr_67_4 ?_
      refine wp_iload_n dd_X11_of_63 rfl ?_
      refine wp_iald dd_X11_of_64 kk_71 (zlt rfl) (by omega) (by omega) ?_
      refine wp_ireturn (st := []) dd_X11_of_65 rfl ?_
      exact k _ _ (Or.inr ⟨hok, Or.inr ⟨rfl, Or.inr (Or.inl ⟨by assumption, rfl⟩)⟩⟩)
    by_cases w15_2c2 : w = 2
    · skip
      refine wp_tabIn (tgt := 66) (off := 51) dd_X11_of_15 (by omega) (by omega) (by rw [w15_2c2]; rfl) (by decide) ?_
      refine wp_aload_n dd_X11_of_66 rfl ?_
      refine wp_iload_n dd_X11_of_67 rfl ?_
      refine wp_iconst dd_X11_of_68 (zr_lit rfl) ?_
      refine wp_callV (M' := mm_X11_degreeOf) (As := [zI q, zI 0]) (rest := []) dd_X11_of_69 lk_X11_114 mV_X11_degreeOf kk_67 (zlt rfl) ⟨_, _, rfl⟩ rfl (by decide) (by decide) (Nat.le_of_ble_eq_true rfl) rfl (sp_X11_degreeOf  q 0 (by first | assumption | omega) (by first | assumption | omega) (by first | assumption | omega) ?_)
      show zw_Wp l mm_X11_of (zS L) 72 [some (zR 67), some (zI q), some (zI w)] [zI (zdeg (zco mem q) 0 25)] mem 0 0 Q
      refine wp_ireturn (st := []) dd_X11_of_72 rfl ?_
      exact k _ _ (Or.inr ⟨hok, Or.inr ⟨rfl, Or.inr (Or.inr (Or.inl ⟨by assumption, rfl⟩))⟩⟩)
    by_cases w15_2c3 : w = 3
    · skip
      refine wp_tabIn (tgt := 73) (off := 58) dd_X11_of_15 (by omega) (by omega) (by rw [w15_2c3]; rfl) (by decide) ?_
      refine wp_aload_n dd_X11_of_73 rfl ?_
      refine wp_iload_n dd_X11_of_74 rfl ?_
      refine wp_iconst dd_X11_of_75 (zr_lit rfl) ?_
      refine wp_callV (M' := mm_X11_degreeOf) (As := [zI q, zI 1]) (rest := []) dd_X11_of_76 lk_X11_114 mV_X11_degreeOf kk_67 (zlt rfl) ⟨_, _, rfl⟩ rfl (by decide) (by decide) (Nat.le_of_ble_eq_true rfl) rfl (sp_X11_degreeOf  q 1 (by first | assumption | omega) (by first | assumption | omega) (by first | assumption | omega) ?_)
      show zw_Wp l mm_X11_of (zS L) 79 [some (zR 67), some (zI q), some (zI w)] [zI (zdeg (zco mem q) 1 25)] mem 0 0 Q
      refine wp_ireturn (st := []) dd_X11_of_79 rfl ?_
      exact k _ _ (Or.inr ⟨hok, Or.inr ⟨rfl, Or.inr (Or.inr (Or.inr (Or.inl ⟨by assumption, rfl⟩)))⟩⟩)
    by_cases w15_2c4 : w = 4
    · skip
      refine wp_tabIn (tgt := 80) (off := 65) dd_X11_of_15 (by omega) (by omega) (by rw [w15_2c4]; rfl) (by decide) ?_
      refine wp_aload_n dd_X11_of_80 rfl ?_
      refine wp_iload_n dd_X11_of_81 rfl ?_
      refine wp_callV (M' := mm_X11_termsOf) (As := [zI q]) (rest := []) dd_X11_of_82 lk_X11_164 mV_X11_termsOf kk_67 (zlt rfl) ⟨_, _, rfl⟩ rfl (by decide) (by decide) (Nat.le_of_ble_eq_true rfl) rfl (sp_X11_termsOf  q (by first | assumption | omega) (by first | assumption | omega) ?_)
      show zw_Wp l mm_X11_of (zS L) 85 [some (zR 67), some (zI q), some (zI w)] [zI (zcnt (zco mem q) 25)] mem 0 0 Q
      refine wp_ireturn (st := []) dd_X11_of_85 rfl ?_
      exact k _ _ (Or.inr ⟨hok, Or.inr ⟨rfl, Or.inr (Or.inr (Or.inr (Or.inr (Or.inl ⟨by assumption, rfl⟩))))⟩⟩)
    by_cases w15_2c5 : w = 5
    · skip
      refine wp_tabIn (tgt := 86) (off := 71) dd_X11_of_15 (by omega) (by omega) (by rw [w15_2c5]; rfl) (by decide) ?_
      refine wp_aload_n dd_X11_of_86 rfl ?_
      refine wp_iload_n dd_X11_of_87 rfl ?_
      refine wp_iconst dd_X11_of_88 (zr_lit rfl) ?_
      refine wp_callV (M' := mm_X11_degreeOf) (As := [zI q, zI 2]) (rest := []) dd_X11_of_89 lk_X11_114 mV_X11_degreeOf kk_67 (zlt rfl) ⟨_, _, rfl⟩ rfl (by decide) (by decide) (Nat.le_of_ble_eq_true rfl) rfl (sp_X11_degreeOf  q 2 (by first | assumption | omega) (by first | assumption | omega) (by first | assumption | omega) ?_)
      show zw_Wp l mm_X11_of (zS L) 92 [some (zR 67), some (zI q), some (zI w)] [zI (zdeg (zco mem q) 2 25)] mem 0 0 Q
      refine wp_ireturn (st := []) dd_X11_of_92 rfl ?_
      exact k _ _ (Or.inr ⟨hok, Or.inr ⟨rfl, Or.inr (Or.inr (Or.inr (Or.inr (Or.inr ⟨by assumption, rfl⟩))))⟩⟩)
    refine wp_tabOut (tgt := 93) dd_X11_of_15 (by omega) (by decide) ?_
    refine wp_aload_n dd_X11_of_93 rfl ?_
    refine wp_bipush dd_X11_of_94 (by decide) ?_
    refine wp_callV (M' := mm_X11_no) (As := [zI (-2)]) (rest := []) dd_X11_of_96 lk_X11_120 mV_X11_no kk_67 (zlt rfl) ⟨_, _, rfl⟩ rfl (by decide) (by decide) (Nat.le_of_ble_eq_true rfl) rfl (sp_X11_no  (-2) (by first | assumption | omega) ?_)
    show zw_Wp l mm_X11_of (zS L) 99 [some (zR 67), some (zI q), some (zI w)] [zI (-2)] (zu mem 68 (-(-2)) (zwr (mem 68 (-(-2)) + 1))) 0 0 Q
    refine wp_ireturn (st := []) dd_X11_of_99 rfl ?_
    exact k _ _ (Or.inr ⟨hok, Or.inl ⟨by omega, rfl, rfl⟩⟩)
  · skip
    refine wp_aload_n dd_X11_of_8 rfl ?_
    refine wp_iconst dd_X11_of_9 (zr_lit rfl) ?_
    refine wp_callV (M' := mm_X11_no) (As := [zI (-1)]) (rest := []) dd_X11_of_10 lk_X11_120 mV_X11_no kk_67 (zlt rfl) ⟨_, _, rfl⟩ rfl (by decide) (by decide) (Nat.le_of_ble_eq_true rfl) rfl (sp_X11_no  (-1) (by first | assumption | omega) ?_)
    show zw_Wp l mm_X11_of (zS L) 13 [some (zR 67), some (zI q), some (zI w)] [zI (-1)] (zu mem 68 (-(-1)) (zwr (mem 68 (-(-1)) + 1))) 0 0 Q
    refine wp_ireturn (st := []) dd_X11_of_13 rfl ?_
    exact k _ _ (Or.inl ⟨by omega, rfl, rfl⟩)

set_option maxRecDepth 100000 in
set_option maxHeartbeats 4000000 in
theorem sp_X11_letter {l : Launch} {L : Nat} {mem : zMem} {Q : zQ}  (c : Int) (ht : 0 ≤ mem 67 11 ∧ mem 67 11 ≤ 72) (k : ∀ (r : Int) (mem2 : zMem), ((c < 0 ∧ r = -4 ∧ mem2 = zno mem (-4)) ∨ (0 ≤ c ∧ (255 < c ∨ mem 67 11 = 72) ∧ r = -6 ∧ mem2 = zno mem (-6)) ∨ (0 ≤ c ∧ c ≤ 255 ∧ mem 67 11 < 72 ∧ r = mem 67 11 + 1 ∧ mem2 = zu (zu mem 74 (mem 67 11) c) 67 11 (mem 67 11 + 1))) → Q (some (zI r)) (zS L) mem2) : zw_Ok l mm_X11_letter [zR 67, zI c] (zS L) mem Q := by
  refine zw_okA (fun hA => ?_)
  have rg_c : -2147483648 ≤ c ∧ c < 2147483648 := hA.2.1
  refine zw_enter (by decide) (Nat.le_of_ble_eq_true rfl) rfl ?_
  show zw_Wp l mm_X11_letter (zS L) 0 [some (zR 67), some (zI c)] [] mem 0 0 Q
  refine wp_iload_n dd_X11_letter_0 rfl ?_
  refine wp_if_ge (tgt := 11) dd_X11_letter_1 (by decide) (fun c1_1 => ?_) (fun c1_1 => ?_)
  · skip
    refine wp_iload_n dd_X11_letter_11 rfl ?_
    refine wp_sipush dd_X11_letter_12 (by decide) ?_
    refine wp_icmp_gt (tgt := 27) dd_X11_letter_15 (by decide) (fun c15_2 => ?_) (fun c15_2 => ?_)
    · skip
      refine wp_aload_n dd_X11_letter_27 rfl ?_
      refine wp_bipush dd_X11_letter_28 (by decide) ?_
      refine wp_callV (M' := mm_X11_no) (As := [zI (-6)]) (rest := []) dd_X11_letter_30 lk_X11_120 mV_X11_no kk_67 (zlt rfl) ⟨_, _, rfl⟩ rfl (by decide) (by decide) (Nat.le_of_ble_eq_true rfl) rfl (sp_X11_no  (-6) (by first | assumption | omega) ?_)
      show zw_Wp l mm_X11_letter (zS L) 33 [some (zR 67), some (zI c)] [zI (-6)] (zu mem 68 (-(-6)) (zwr (mem 68 (-(-6)) + 1))) 0 0 Q
      refine wp_ireturn (st := []) dd_X11_letter_33 rfl ?_
      exact k _ _ (Or.inr (Or.inl ⟨by omega, by omega, rfl, rfl⟩))
    · skip
      refine wp_aload_n dd_X11_letter_18 rfl ?_
      refine wp_getZ 11 rfl dd_X11_letter_19 gf_X11_123 rfl kk_67 (by decide) (zlt rfl) ?_
      refine wp_bipush dd_X11_letter_22 (by decide) ?_
      refine wp_icmp_ne (tgt := 34) dd_X11_letter_24 (by decide) (fun c24_3 => ?_) (fun c24_3 => ?_)
      · skip
        refine wp_aload_n dd_X11_letter_34 rfl ?_
        refine wp_getR dd_X11_letter_35 gf_X11_46 rfl kk_67 (by decide) (zlt rfl) rr_67_9 ?_
        refine wp_aload_n dd_X11_letter_38 rfl ?_
        refine wp_getZ 11 rfl dd_X11_letter_39 gf_X11_123 rfl kk_67 (by decide) (zlt rfl) ?_
        refine wp_iload_n dd_X11_letter_42 rfl ?_
        refine wp_iast dd_X11_letter_43 kk_74 (zlt rfl) (by omega) (by omega) ?_
        refine wp_aload_n dd_X11_letter_44 rfl ?_
        refine wp_dup dd_X11_letter_45 rfl ?_
        refine wp_getV 11 (v := mem 67 11) rfl (by rw [zu_row (by decide)]) dd_X11_letter_46 gf_X11_123 rfl kk_67 (by decide) (zlt rfl) ?_
        refine wp_iconst dd_X11_letter_49 (zr_lit rfl) ?_
        refine wp_iaddC dd_X11_letter_50 (by omega) ?_
        refine wp_putzI 11 rfl dd_X11_letter_51 pf_X11_123 rfl kk_67 (by decide) (zlt rfl) ?_
        refine wp_aload_n dd_X11_letter_54 rfl ?_
        refine wp_getV 11 (v := (mem 67 11) + 1) rfl (by rw [zu_s]) dd_X11_letter_55 gf_X11_123 rfl kk_67 (by decide) (zlt rfl) ?_
        refine wp_ireturn (st := []) dd_X11_letter_58 rfl ?_
        exact k _ _ (Or.inr (Or.inr ⟨by omega, by omega, by omega, rfl, rfl⟩))
      · skip
        refine wp_aload_n dd_X11_letter_27 rfl ?_
        refine wp_bipush dd_X11_letter_28 (by decide) ?_
        refine wp_callV (M' := mm_X11_no) (As := [zI (-6)]) (rest := []) dd_X11_letter_30 lk_X11_120 mV_X11_no kk_67 (zlt rfl) ⟨_, _, rfl⟩ rfl (by decide) (by decide) (Nat.le_of_ble_eq_true rfl) rfl (sp_X11_no  (-6) (by first | assumption | omega) ?_)
        show zw_Wp l mm_X11_letter (zS L) 33 [some (zR 67), some (zI c)] [zI (-6)] (zu mem 68 (-(-6)) (zwr (mem 68 (-(-6)) + 1))) 0 0 Q
        refine wp_ireturn (st := []) dd_X11_letter_33 rfl ?_
        exact k _ _ (Or.inr (Or.inl ⟨by omega, by omega, rfl, rfl⟩))
  · skip
    refine wp_aload_n dd_X11_letter_4 rfl ?_
    refine wp_bipush dd_X11_letter_5 (by decide) ?_
    refine wp_callV (M' := mm_X11_no) (As := [zI (-4)]) (rest := []) dd_X11_letter_7 lk_X11_120 mV_X11_no kk_67 (zlt rfl) ⟨_, _, rfl⟩ rfl (by decide) (by decide) (Nat.le_of_ble_eq_true rfl) rfl (sp_X11_no  (-4) (by first | assumption | omega) ?_)
    show zw_Wp l mm_X11_letter (zS L) 10 [some (zR 67), some (zI c)] [zI (-4)] (zu mem 68 (-(-4)) (zwr (mem 68 (-(-4)) + 1))) 0 0 Q
    refine wp_ireturn (st := []) dd_X11_letter_10 rfl ?_
    exact k _ _ (Or.inl ⟨by omega, rfl, rfl⟩)


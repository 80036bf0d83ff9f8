/-! ===== the class: shelves ===== -/
def zo (q : Int) : Nat := 3 + 3 * q.toNat
def zo2 (q : Int) : Nat := 23 + 3 * q.toNat
theorem zoP {q : Int} (h : 0 ≤ q ∧ q < 6) : zP (zo q) := ⟨q.toNat, by omega, Or.inl rfl⟩
theorem zo2P {q : Int} (h : 0 ≤ q ∧ q < 6) : zP (zo2 q) := ⟨q.toNat, by omega, Or.inr rfl⟩
theorem zo_rg {q : Int} (h : 0 ≤ q ∧ q < 6) : 3 ≤ zo q ∧ zo q + 2 ≤ 20 := by unfold zo; omega
theorem zo2_rg {q : Int} (h : 0 ≤ q ∧ q < 6) : 23 ≤ zo2 q ∧ zo2 q + 2 ≤ 40 := by unfold zo2; omega
theorem zo_ne {q r : Int} (hq : 0 ≤ q) (hr : 0 ≤ r) (h : q ≠ r) : zo q + 3 ≤ zo r ∨ zo r + 3 ≤ zo q := by unfold zo; omega
theorem zo2_ne {q r : Int} (hq : 0 ≤ q) (hr : 0 ≤ r) (h : q ≠ r) : zo2 q + 3 ≤ zo2 r ∨ zo2 r + 3 ≤ zo2 q := by unfold zo2; omega
theorem zr2 {L : Nat} {j q : Int} (e : j = q) (h : 0 ≤ q ∧ q < 6) : (zS L).2.2 2 j.toNat = some (zo q) := by
  subst e
  have : ∀ n ∈ List.range 6, zrf 2 n = some (3 + 3 * n) := by decide +kernel
  exact this j.toNat (List.mem_range.mpr (by omega))
theorem zr22 {L : Nat} {j q : Int} (e : j = q) (h : 0 ≤ q ∧ q < 6) : (zS L).2.2 22 j.toNat = some (zo2 q) := by
  subst e
  have : ∀ n ∈ List.range 6, zrf 22 n = some (23 + 3 * n) := by decide +kernel
  exact this j.toNat (List.mem_range.mpr (by omega))
/-- the coefficients of a polynomial's cells are c -/
def zRw (mem : zMem) (o : Nat) (c : Int → Int) : Prop := ∀ t : Int, 0 ≤ t → t < 25 → mem (o + 2) t = c t
theorem zRw.keep {m m2 : zMem} {o : Nat} {c : Int → Int} (h : zRw m o c) (e : m2 (o + 2) = m (o + 2)) : zRw m2 o c := by
  unfold zRw
  rw [e]
  exact h
theorem zcnt_cg {f g : Int → Int} : ∀ n : Nat, (∀ x : Int, 0 ≤ x → x < n → f x = g x) → zcnt f n = zcnt g n
  | 0, _ => rfl
  | n + 1, h => by rw [zcnt, zcnt, zcnt_cg n (fun x q1 q2 => h x q1 (by omega)), h n (by omega) (by omega)]
theorem zdeg_cg {f g : Int → Int} {le : Int} : ∀ n : Nat, (∀ x : Int, 0 ≤ x → x < n → f x = g x) → zdeg f le n = zdeg g le n
  | 0, _ => rfl
  | n + 1, h => by rw [zdeg, zdeg, zdeg_cg n (fun x q1 q2 => h x q1 (by omega)), h n (by omega) (by omega)]
theorem zpt_cg {f g : Int → Int} (h : ∀ x : Int, 0 ≤ x → x < 25 → f x = g x) (le a b : Int) : zpt f le a b = zpt g le a b := by
  unfold zpt
  by_cases q : 0 ≤ a ∧ a ≤ 4 ∧ 0 ≤ b ∧ b ≤ 4
  · rw [if_pos q, if_pos q, h _ (by omega) (by omega), h _ (by omega) (by omega)]
  · rw [if_neg q, if_neg q]
theorem zRw.cnt {m : zMem} {o : Nat} {c : Int → Int} (h : zRw m o c) : zcnt (m (o + 2)) 25 = zcnt c 25 := zcnt_cg 25 h
theorem zRw.deg {m : zMem} {o : Nat} {c : Int → Int} (h : zRw m o c) (le : Int) : zdeg (m (o + 2)) le 25 = zdeg c le 25 := zdeg_cg 25 h
theorem zRw.pt {m : zMem} {o : Nat} {c : Int → Int} (h : zRw m o c) (le a b : Int) : zpt (m (o + 2)) le a b = zpt c le a b := zpt_cg h le a b
/-- no term: no degree -/
theorem zcnt_0 {c : Int → Int} : ∀ n : Nat, zcnt c n = 0 ↔ ∀ x : Int, 0 ≤ x → x < n → c x = 0
  | 0 => ⟨fun _ x q1 q2 => by omega, fun _ => rfl⟩
  | n + 1 => by
    have h1 := zcnt_rg (f := c) n
    have ih := zcnt_0 (c := c) n
    unfold zcnt
    by_cases q : c n = 0
    · rw [if_pos q, Int.add_zero, ih]
      exact ⟨fun h x q1 q2 => by by_cases e : x = n; rw [e]; exact q; exact h x q1 (by omega), fun h x q1 q2 => h x q1 (by omega)⟩
    · rw [if_neg q]
      exact ⟨fun h => by omega, fun h => absurd (h n (by omega) (by omega)) q⟩
theorem znought {c : Int → Int} : zcnt c 25 = 0 ↔ zdeg c 0 25 < 0 := by
  rw [zcnt_0]
  obtain ⟨h1, h2⟩ := zdeg_P c 0 25 (by omega)
  constructor
  · intro h
    rcases h1 with h1 | ⟨-, -, t, q1, q2, q3, -⟩
    · omega
    · exact absurd (h t q1 q2) q3
  · intro h x q1 q2
    by_cases e : c x = 0
    · exact e
    · have := h2 x q1 q2 e
      have h5 : 0 ≤ zvv 0 (x / 5) (x % 5) := by unfold zvv; rw [if_pos rfl]; omega
      omega
theorem zgcd_cm (a b : Int) : zgcd a b = zgcd b a := by
  unfold zgcd
  rw [Nat.gcd_comm]
theorem zgcd_half {g s : Int} (hs : 0 < s) (hg : s ≤ g) : 2 * (s * (g % s)) ≤ g * s := by
  have h1 := zm_rg (a := g) (p := s) hs
  have h2 := Int.mul_ediv_add_emod g s
  have h3 : 1 ≤ g / s := Int.le_ediv_of_mul_le hs (by omega)
  have h4 : s * 1 ≤ s * (g / s) := Int.mul_le_mul_of_nonneg_left h3 (by omega)
  have h5 : 2 * (g % s) ≤ g := by omega
  have h6 : s * (2 * (g % s)) ≤ s * g := Int.mul_le_mul_of_nonneg_left h5 (by omega)
  rw [Int.mul_comm g s]
  have e : s * (2 * (g % s)) = 2 * (s * (g % s)) := by rw [Int.mul_left_comm]
  omega

set_option maxRecDepth 100000 in
set_option maxHeartbeats 4000000 in
theorem sp_X2_commonDivisor {l : Launch} {L : Nat} {mem : zMem} {Q : zQ}  (a : Int) (b : Int) (ha : 0 ≤ a ∧ a ≤ b) (hb : 0 < b ∧ b ≤ 961) (k : Q (some (zI (zgcd a b))) (zS L) mem) : zw_Ok l mm_X2_commonDivisor [zI a, zI b] (zS L) mem Q := by
  refine zw_okA (fun hA => ?_)
  have rg_a : -2147483648 ≤ a ∧ a < 2147483648 := hA.1
  have rg_b : -2147483648 ≤ b ∧ b < 2147483648 := hA.2.1
  refine zw_enter (by decide) (Nat.le_of_ble_eq_true rfl) rfl ?_
  show zw_Wp l mm_X2_commonDivisor (zS L) 0 [some (zI a), some (zI b), none, none, none, none] [] mem 0 0 Q
  refine wp_iload_n dd_X2_commonDivisor_0 rfl ?_
  refine wp_istore_n (ls2 := [some (zI a), some (zI b), some (zI b), none, none, none]) dd_X2_commonDivisor_1 rfl (by decide) rfl ?_
  refine wp_iload_n dd_X2_commonDivisor_2 rfl ?_
  refine wp_istore_n (ls2 := [some (zI a), some (zI b), some (zI b), some (zI a), none, none]) dd_X2_commonDivisor_3 rfl (by decide) rfl ?_
  refine wp_iconst dd_X2_commonDivisor_4 (zr_lit rfl) ?_
  refine wp_istore (ls2 := [some (zI a), some (zI b), some (zI b), some (zI a), some (zI 0), none]) dd_X2_commonDivisor_5 rfl (by decide) rfl ?_
  have lp7 : ∀ (nf : Nat) (g : Int) (s : Int) (i : Int), (0 ≤ i) → (i ≤ 64) → (0 ≤ s ∧ s ≤ g) → (0 < g ∧ g ≤ 961) → (zgcd g s = zgcd a b) → (g * s * 2 ^ i.toNat ≤ 1048576) → (64 - i) < (nf : Int) → zw_Wp l mm_X2_commonDivisor (zS L) 7 [some (zI a), some (zI b), some (zI g), some (zI s), some (zI i), none] [] mem 0 0 Q := by
    intro nf
    induction nf with
    | zero =>
      intro g s i i0 i1 s0 g0 hG hW hmu
      exfalso; omega
    | succ nf ih7 =>
      intro g s i i0 i1 s0 g0 hG hW hmu
      refine wp_iload dd_X2_commonDivisor_7 rfl ?_
      refine wp_bipush dd_X2_commonDivisor_9 (by decide) ?_
      refine wp_icmp_ge (tgt := 34) dd_X2_commonDivisor_11 (by decide) (fun c11_1 => ?_) (fun c11_1 => ?_)
      · skip
        have hs0 : s = 0 := by
          by_cases q : s = 0
          · exact q
          · exfalso
            have e9 : i = 64 := by omega
            have h9 : 1 * 1 ≤ g * s := Int.mul_le_mul (by omega) (by omega) (by decide) (by omega)
            rw [e9] at hW
            have h8 := Int.mul_le_mul_of_nonneg_right h9 (show (0 : Int) ≤ 2 ^ (64 : Int).toNat from by decide)
            have h7 : ((1 : Int) * 1) * 2 ^ (64 : Int).toNat = 18446744073709551616 := by decide
            omega
        refine wp_iload_n dd_X2_commonDivisor_34 rfl ?_
        refine wp_if_ne (tgt := 42) dd_X2_commonDivisor_35 (by decide) (fun c35_2 => ?_) (fun c35_2 => ?_)
        · skip
          refine wp_iload_n dd_X2_commonDivisor_42 rfl ?_
          refine wp_ireturn (st := []) dd_X2_commonDivisor_43 rfl ?_
          refine zq_I ?_ ?_ k
          · rw [← hG, hs0, zgcd_0 (by omega)]
          · rfl
        · skip
          exfalso; omega
      · skip
        refine wp_iload_n dd_X2_commonDivisor_14 rfl ?_
        refine wp_if_eq (tgt := 34) dd_X2_commonDivisor_15 (by decide) (fun c15_3 => ?_) (fun c15_3 => ?_)
        · skip
          have hs0 : s = 0 := by
            by_cases q : s = 0
            · exact q
            · exfalso
              have e9 : i = 64 := by omega
              have h9 : 1 * 1 ≤ g * s := Int.mul_le_mul (by omega) (by omega) (by decide) (by omega)
              rw [e9] at hW
              have h8 := Int.mul_le_mul_of_nonneg_right h9 (show (0 : Int) ≤ 2 ^ (64 : Int).toNat from by decide)
              have h7 : ((1 : Int) * 1) * 2 ^ (64 : Int).toNat = 18446744073709551616 := by decide
              omega
          refine wp_iload_n dd_X2_commonDivisor_34 rfl ?_
          refine wp_if_ne (tgt := 42) dd_X2_commonDivisor_35 (by decide) (fun c35_4 => ?_) (fun c35_4 => ?_)
          · skip
            refine wp_iload_n dd_X2_commonDivisor_42 rfl ?_
            refine wp_ireturn (st := []) dd_X2_commonDivisor_43 rfl ?_
            refine zq_I ?_ ?_ k
            · rw [← hG, hs0, zgcd_0 (by omega)]
            · rfl
          · skip
            exfalso; omega
        · skip
          refine wp_iload_n dd_X2_commonDivisor_18 rfl ?_
          refine wp_iload_n dd_X2_commonDivisor_19 rfl ?_
          refine wp_iremP dd_X2_commonDivisor_20 (by omega) (by omega) ?_
          refine wp_istore (ls2 := [some (zI a), some (zI b), some (zI g), some (zI s), some (zI i), some (zI (g % s))]) dd_X2_commonDivisor_21 rfl (by decide) rfl ?_
          refine wp_iload_n dd_X2_commonDivisor_23 rfl ?_
          refine wp_istore_n (ls2 := [some (zI a), some (zI b), some (zI s), some (zI s), some (zI i), some (zI (g % s))]) dd_X2_commonDivisor_24 rfl (by decide) rfl ?_
          refine wp_iload dd_X2_commonDivisor_25 rfl ?_
          refine wp_istore_n (ls2 := [some (zI a), some (zI b), some (zI s), some (zI (g % s)), some (zI i), some (zI (g % s))]) dd_X2_commonDivisor_27 rfl (by decide) rfl ?_
          refine wp_iincC (ls2 := [some (zI a), some (zI b), some (zI s), some (zI (g % s)), some (zI (i + 1)), some (zI (g % s))]) dd_X2_commonDivisor_28 rfl rfl (by decide) (by omega) rfl ?_
          refine wp_goto (tgt := 7) dd_X2_commonDivisor_31 (by decide) ?_
          refine wp_ls (zw_sub_of (a := [some (zI a), some (zI b), some (zI s), some (zI (g % s)), some (zI (i + 1)), none]) (And.intro rfl (And.intro rfl (And.intro rfl (And.intro rfl (And.intro rfl (trivial))))))) ?_
          refine ih7 s (g % s) (i + 1) ?_ ?_ ?_ ?_ ?_ ?_ ?_
          · first | omega | assumption | (intros; omega)
          · first | omega | assumption | (intros; omega)
          · have := zm_rg (a := g) (p := s) (by omega); omega
          · first | omega | assumption | (intros; omega)
          · rw [zgcd_st (by omega) (by omega)]; exact hG
          · have h8 := zgcd_half (g := g) (s := s) (by omega) s0.2
            have h7 : (0 : Int) ≤ 2 ^ i.toNat := Int.le_of_lt (Int.pow_pos (by decide))
            have h6 := Int.mul_le_mul_of_nonneg_right h8 h7
            rw [show (i + 1).toNat = i.toNat + 1 by omega, Int.pow_succ]
            have e9 : s * (g % s) * (2 ^ i.toNat * 2) = 2 * (s * (g % s)) * 2 ^ i.toNat := by grind
            rw [e9]; omega
          · omega
  refine lp7 ((64 - 0 : Int)).toNat.succ b a 0 ?_ ?_ ?_ ?_ ?_ ?_ ?_
  · first | omega | assumption | (intros; omega)
  · first | omega | assumption | (intros; omega)
  · first | omega | assumption | (intros; omega)
  · first | omega | assumption | (intros; omega)
  · exact zgcd_cm b a
  · have h9 := zmul_rg (a := b) (b := a) (A := 961) (B := 961) (by omega) (by omega) (by omega) (by omega)
    rw [show (0 : Int).toNat = 0 from rfl, Int.pow_zero, Int.mul_one]; omega
  · omega

set_option maxRecDepth 100000 in
set_option maxHeartbeats 4000000 in
theorem sp_X8_has {l : Launch} {L : Nat} {mem : zMem} {Q : zQ}  (q : Int)  (k : Q (some (zI (if 0 ≤ q ∧ q < mem 1 1 then 1 else 0))) (zS L) mem) : zw_Ok l mm_X8_has [zR 1, zI q] (zS L) mem Q := by
  refine zw_okA (fun hA => ?_)
  have rg_q : -2147483648 ≤ q ∧ q < 2147483648 := hA.2.1
  refine zw_enter (by decide) (Nat.le_of_ble_eq_true rfl) rfl ?_
  show zw_Wp l mm_X8_has (zS L) 0 [some (zR 1), some (zI q)] [] mem 0 0 Q
  refine wp_iload_n dd_X8_has_0 rfl ?_
  refine wp_if_lt (tgt := 16) dd_X8_has_1 (by decide) (fun c1_1 => ?_) (fun c1_1 => ?_)
  · skip
    refine wp_iconst dd_X8_has_16 (zr_lit rfl) ?_
    refine wp_zreturn (st := []) dd_X8_has_17 rfl (by omega) ?_
    refine zq_I ?_ ?_ k
    · first | rfl | omega | (rw [if_pos (by omega)]) | (rw [if_neg (by omega)])
    · rfl
  · skip
    refine wp_iload_n dd_X8_has_4 rfl ?_
    refine wp_aload_n dd_X8_has_5 rfl ?_
    refine wp_getZ 1 rfl dd_X8_has_6 gf_X8_22 rfl kk_1 (by decide) (zlt rfl) ?_
    refine wp_icmp_ge (tgt := 16) dd_X8_has_9 (by decide) (fun c9_2 => ?_) (fun c9_2 => ?_)
    · skip
      refine wp_iconst dd_X8_has_16 (zr_lit rfl) ?_
      refine wp_zreturn (st := []) dd_X8_has_17 rfl (by omega) ?_
      refine zq_I ?_ ?_ k
      · first | rfl | omega | (rw [if_pos (by omega)]) | (rw [if_neg (by omega)])
      · rfl
    · skip
      refine wp_iconst dd_X8_has_12 (zr_lit rfl) ?_
      refine wp_goto (tgt := 17) dd_X8_has_13 (by decide) ?_
      refine wp_zreturn (st := []) dd_X8_has_17 rfl (by omega) ?_
      refine zq_I ?_ ?_ k
      · first | rfl | omega | (rw [if_pos (by omega)]) | (rw [if_neg (by omega)])
      · rfl

set_option maxRecDepth 100000 in
set_option maxHeartbeats 4000000 in
theorem sp_X8_isFull {l : Launch} {L : Nat} {mem : zMem} {Q : zQ}    (k : Q (some (zI (if 6 ≤ mem 1 1 then 1 else 0))) (zS L) mem) : zw_Ok l mm_X8_isFull [zR 1] (zS L) mem Q := by
  refine zw_enter (by decide) (Nat.le_of_ble_eq_true rfl) rfl ?_
  show zw_Wp l mm_X8_isFull (zS L) 0 [some (zR 1)] [] mem 0 0 Q
  refine wp_aload_n dd_X8_isFull_0 rfl ?_
  refine wp_getZ 1 rfl dd_X8_isFull_1 gf_X8_22 rfl kk_1 (by decide) (zlt rfl) ?_
  refine wp_bipush dd_X8_isFull_4 (by decide) ?_
  refine wp_icmp_lt (tgt := 13) dd_X8_isFull_6 (by decide) (fun c6_1 => ?_) (fun c6_1 => ?_)
  · skip
    refine wp_iconst dd_X8_isFull_13 (zr_lit rfl) ?_
    refine wp_zreturn (st := []) dd_X8_isFull_14 rfl (by omega) ?_
    refine zq_I ?_ ?_ k
    · first | rfl | omega | (rw [if_pos (by omega)]) | (rw [if_neg (by omega)])
    · rfl
  · skip
    refine wp_iconst dd_X8_isFull_9 (zr_lit rfl) ?_
    refine wp_goto (tgt := 14) dd_X8_isFull_10 (by decide) ?_
    refine wp_zreturn (st := []) dd_X8_isFull_14 rfl (by omega) ?_
    refine zq_I ?_ ?_ k
    · first | rfl | omega | (rw [if_pos (by omega)]) | (rw [if_neg (by omega)])
    · rfl

set_option maxRecDepth 100000 in
set_option maxHeartbeats 4000000 in
theorem sp_X8_addPlain {l : Launch} {L : Nat} {mem : zMem} {Q : zQ}   (hn : 0 ≤ mem 1 1 ∧ mem 1 1 < 6) (k : ∀ (mem2 : zMem), (mem2 (zo (mem 1 1)) 0 = 0 ∧ mem2 (zo (mem 1 1)) 1 = 0 ∧ ∀ x : Int, 0 ≤ x → x < 25 → mem2 (zo (mem 1 1) + 1) x = 0 ∧ mem2 (zo (mem 1 1) + 2) x = 0) → (mem2 1 1 = mem 1 1 + 1 ∧ ∀ s : Int, s ≠ 1 → mem2 1 s = mem 1 s) → (∀ a : Nat, a ≠ 1 → a ≠ zo (mem 1 1) → a ≠ zo (mem 1 1) + 1 → a ≠ zo (mem 1 1) + 2 → mem2 a = mem a) → Q (some (zR (zo (mem 1 1)))) (zS L) mem2) : zw_Ok l mm_X8_addPlain [zR 1] (zS L) mem Q := by
  refine zw_enter (by decide) (Nat.le_of_ble_eq_true rfl) rfl ?_
  show zw_Wp l mm_X8_addPlain (zS L) 0 [some (zR 1), none] [] mem 0 0 Q
  have hq9 := zo_rg (q := mem 1 1) (by omega)
  have hq6 : 0 ≤ mem 1 1 ∧ mem 1 1 < 6 := by omega
  refine wp_aload_n dd_X8_addPlain_0 rfl ?_
  refine wp_getZ 1 rfl dd_X8_addPlain_1 gf_X8_22 rfl kk_1 (by decide) (zlt rfl) ?_
  refine wp_bipush dd_X8_addPlain_4 (by decide) ?_
  refine wp_icmp_ge (tgt := 19) dd_X8_addPlain_6 (by decide) (fun c6_1 => ?_) (fun c6_1 => ?_)
  · skip
    exfalso; omega
  · skip
    refine wp_aload_n dd_X8_addPlain_9 rfl ?_
    refine wp_dup dd_X8_addPlain_10 rfl ?_
    refine wp_getZ 1 rfl dd_X8_addPlain_11 gf_X8_22 rfl kk_1 (by decide) (zlt rfl) ?_
    refine wp_iconst dd_X8_addPlain_14 (zr_lit rfl) ?_
    refine wp_iaddC dd_X8_addPlain_15 (by omega) ?_
    refine wp_putzI 1 rfl dd_X8_addPlain_16 pf_X8_22 rfl kk_1 (by decide) (zlt rfl) ?_
    refine wp_aload_n dd_X8_addPlain_19 rfl ?_
    refine wp_getR dd_X8_addPlain_20 gf_X8_17 rfl kk_1 (by decide) (zlt rfl) rr_1_2 ?_
    refine wp_aload_n dd_X8_addPlain_23 rfl ?_
    refine wp_getV 1 (v := (mem 1 1) + 1) rfl (by rw [zu_s]) dd_X8_addPlain_24 gf_X8_22 rfl kk_1 (by decide) (zlt rfl) ?_
    refine wp_iconst dd_X8_addPlain_27 (zr_lit rfl) ?_
    refine wp_isubC dd_X8_addPlain_28 (by omega) ?_
    refine wp_aald dd_X8_addPlain_29 kk_2 (zlt rfl) (by omega) (by omega) (zr2 (q := mem 1 1) (by omega) (by omega)) ?_
    refine wp_astore_n (ls2 := [some (zR 1), some (zR (zo (mem 1 1)))]) dd_X8_addPlain_30 rfl (by decide) rfl ?_
    refine wp_aload_n dd_X8_addPlain_31 rfl ?_
    refine wp_callV (M' := mm_X4_clear) (As := []) (rest := []) dd_X8_addPlain_32 lk_X8_25 mV_X4_clear (zoP hq6).k (zoP hq6).i ⟨_, _, rfl⟩ rfl (by decide) (by decide) (Nat.le_of_ble_eq_true rfl) rfl (sp_X4_clear  (zo (mem 1 1)) (zoP hq6) (fun me f1 g1 => ?_))
    show zw_Wp l mm_X8_addPlain (zS L) 35 [some (zR 1), some (zR (zo (mem 1 1)))] [] me 0 0 Q
    refine wp_aload_n dd_X8_addPlain_35 rfl ?_
    refine wp_areturn (st := []) dd_X8_addPlain_36 rfl ?_
    refine k me f1 ⟨?_, fun s hs => ?_⟩ (fun a h1 h2 h3 h4 => ?_)
    · rw [g1 1 (by omega) (by omega) (by omega), zu_s]
    · rw [g1 1 (by omega) (by omega) (by omega), zu_n (Or.inr hs)]
    · rw [g1 a h2 h3 h4, zu_row h1]

set_option maxRecDepth 100000 in
set_option maxHeartbeats 4000000 in
theorem sp_X8_reduceBy {l : Launch} {L : Nat} {mem : zMem} {Q : zQ}  (p : Int) (hn : 0 ≤ mem 1 1 ∧ mem 1 1 ≤ 6) (hp : 2 ≤ p ∧ p ≤ 31) (hkf : ∀ q : Int, 0 ≤ q → q < mem 1 1 → (0 ≤ mem (zo q) 0 ∧ mem (zo q) 0 ≤ 5) ∧ 0 ≤ mem (zo q) 1 ∧ mem (zo q) 1 ≤ 9) (k : ∀ (mem2 : zMem), (mem2 1 0 = p ∧ ∀ s : Int, s ≠ 0 → mem2 1 s = mem 1 s) → (∀ q : Int, 0 ≤ q → q < mem 1 1 → zPI mem2 (zo q) p (mem (zo q) 0) (mem (zo q) 1) (fun y => mem (zo q + 1) y % p)) → (∀ a : Nat, a ≠ 1 → (a < 3 ∨ 20 < a) → mem2 a = mem a) → Q none (zS L) mem2) : zw_Ok l mm_X8_reduceBy [zR 1, zI p] (zS L) mem Q := by
  refine zw_okA (fun hA => ?_)
  have rg_p : -2147483648 ≤ p ∧ p < 2147483648 := hA.2.1
  refine zw_enter (by decide) (Nat.le_of_ble_eq_true rfl) rfl ?_
  show zw_Wp l mm_X8_reduceBy (zS L) 0 [some (zR 1), some (zI p), none] [] mem 0 0 Q
  refine wp_aload_n dd_X8_reduceBy_0 rfl ?_
  refine wp_iload_n dd_X8_reduceBy_1 rfl ?_
  refine wp_putzI 0 rfl dd_X8_reduceBy_2 pf_X8_9 rfl kk_1 (by decide) (zlt rfl) ?_
  refine wp_iconst dd_X8_reduceBy_5 (zr_lit rfl) ?_
  refine wp_istore_n (ls2 := [some (zR 1), some (zI p), some (zI 0)]) dd_X8_reduceBy_6 rfl (by decide) rfl ?_
  have lp7 : ∀ (nf : Nat) (i : Int) (mm : zMem), (0 ≤ i) → (i ≤ mem 1 1) → (mm 1 = (zu mem 1 0 p) 1) → (∀ q : Int, 0 ≤ q → q < i → zPI mm (zo q) p (mem (zo q) 0) (mem (zo q) 1) (fun y => mem (zo q + 1) y % p)) → (∀ a : Nat, a ≠ 1 → (a < 3 ∨ 20 < a) → mm a = mem a) → (∀ a : Nat, zo i ≤ a → a ≠ 1 → mm a = mem a) → (mem 1 1 - i) < (nf : Int) → zw_Wp l mm_X8_reduceBy (zS L) 7 [some (zR 1), some (zI p), some (zI i)] [] mm 0 0 Q := by
    intro nf
    induction nf with
    | zero =>
      intro i mm i0 i1 h1 h2 h3 h5 hmu
      exfalso; omega
    | succ nf ih7 =>
      intro i mm i0 i1 h1 h2 h3 h5 hmu
      have hn1 : mm 1 1 = mem 1 1 := by rw [h1, zu_n (Or.inr (by decide))]
      refine wp_iload_n dd_X8_reduceBy_7 rfl ?_
      refine wp_aload_n dd_X8_reduceBy_8 rfl ?_
      refine wp_getZ 1 rfl dd_X8_reduceBy_9 gf_X8_22 rfl kk_1 (by decide) (zlt rfl) ?_
      refine wp_icmp_ge (tgt := 31) dd_X8_reduceBy_12 (by decide) (fun c12_1 => ?_) (fun c12_1 => ?_)
      · skip
        refine wp_return (st := []) dd_X8_reduceBy_31 rfl ?_
        refine k mm ⟨?_, fun s hs => ?_⟩ (fun q q1 q2 => h2 q q1 (by omega)) h3
        · rw [h1, zu_s]
        · rw [h1, zu_n (Or.inr hs)]
      · skip
        have hq6 : 0 ≤ i ∧ i < 6 := by omega
        have hq9 := zo_rg hq6
        have h4 : ∀ a : Nat, zo i ≤ a → a ≠ 1 → mm a = mem a := h5
        have hkq := hkf i (by omega) (by omega)
        have e0 := h4 (zo i) (by omega) (by omega)
        refine wp_aload_n dd_X8_reduceBy_15 rfl ?_
        refine wp_getR dd_X8_reduceBy_16 gf_X8_17 rfl kk_1 (by decide) (zlt rfl) rr_1_2 ?_
        refine wp_iload_n dd_X8_reduceBy_19 rfl ?_
        refine wp_aald dd_X8_reduceBy_20 kk_2 (zlt rfl) (by omega) (by omega) (zr2 rfl hq6) ?_
        refine wp_iload_n dd_X8_reduceBy_21 rfl ?_
        refine wp_callV (M' := mm_X4_reduceBy) (As := [zI p]) (rest := []) dd_X8_reduceBy_22 lk_X8_28 mV_X4_reduceBy (zoP hq6).k (zoP hq6).i ⟨_, _, rfl⟩ rfl (by decide) (by decide) (Nat.le_of_ble_eq_true rfl) rfl (sp_X4_reduceBy  (zo i) p (zoP hq6) (by first | assumption | omega) (by rw [e0]; exact hkq.1) (by rw [e0]; exact hkq.2) (fun me f9 g9 => ?_))
        show zw_Wp l mm_X8_reduceBy (zS L) 25 [some (zR 1), some (zI p), some (zI i)] [] me 0 0 Q
        refine wp_iincC (ls2 := [some (zR 1), some (zI p), some (zI (i + 1))]) dd_X8_reduceBy_25 rfl rfl (by decide) (by omega) rfl ?_
        refine wp_goto (tgt := 7) dd_X8_reduceBy_28 (by decide) ?_
        refine ih7 (i + 1) me ?_ ?_ ?_ ?_ ?_ ?_ ?_
        · first | omega | assumption | (intros; omega)
        · first | omega | assumption | (intros; omega)
        · rw [g9 1 (by omega) (by omega)]; exact h1
        · intro q q1 q2
          by_cases hq : q = i
          · subst hq
            have e1 := h4 (zo q) (by omega) (by omega)
            have e2 := h4 (zo q + 1) (by omega) (by omega)
            rw [e1, e2] at f9
            exact f9
          · have hne := zo_ne q1 i0 hq
            exact (h2 q q1 (by omega)).keep (g9 _ (by omega) (by omega)) (g9 _ (by omega) (by omega)) (g9 _ (by omega) (by omega))
        · intro a q1 q2; rw [g9 a (by omega) (by omega)]; exact h3 a q1 q2
        · intro a q1 q2
          have : zo (i + 1) = zo i + 3 := by unfold zo; omega
          rw [g9 a (by omega) (by omega)]; exact h5 a (by omega) q2
        · omega
  refine lp7 ((mem 1 1 - 0 : Int)).toNat.succ 0 (zu mem 1 0 p) ?_ ?_ ?_ ?_ ?_ ?_ ?_
  · first | omega | assumption | (intros; omega)
  · first | omega | assumption | (intros; omega)
  · rfl
  · intros; omega
  · intro a ha _; rw [zu_row ha]
  · intro a q1 q2; rw [zu_row q2]
  · omega

set_option maxRecDepth 100000 in
set_option maxHeartbeats 4000000 in
theorem sp_X8_copyFrom_on {l : Launch} {L : Nat} {mem : zMem} {Q : zQ}   (hn : 0 ≤ mem 21 1 ∧ mem 21 1 ≤ 6) (k : ∀ (mem2 : zMem), (mem2 1 0 = mem 21 0 ∧ mem2 1 1 = mem 21 1) → (∀ q : Int, 0 ≤ q → q < mem 21 1 → mem2 (zo q) 0 = mem (zo2 q) 0 ∧ mem2 (zo q) 1 = mem (zo2 q) 1 ∧ ∀ x : Int, 0 ≤ x → x < 25 → mem2 (zo q + 1) x = mem (zo2 q + 1) x ∧ mem2 (zo q + 2) x = mem (zo2 q + 2) x) → (∀ a : Nat, a ≠ 1 → (a < 3 ∨ 20 < a) → mem2 a = mem a) → Q none (zS L) mem2) : zw_Ok l mm_X8_copyFrom [zR 1, zR 21] (zS L) mem Q := by
  refine zw_enter (by decide) (Nat.le_of_ble_eq_true rfl) rfl ?_
  show zw_Wp l mm_X8_copyFrom (zS L) 0 [some (zR 1), some (zR 21), none] [] mem 0 0 Q
  refine wp_aload_n dd_X8_copyFrom_0 rfl ?_
  refine wp_aload_n dd_X8_copyFrom_1 rfl ?_
  refine wp_getZ 0 rfl dd_X8_copyFrom_2 gf_X8_9 rfl kk_21 (by decide) (zlt rfl) ?_
  refine wp_putzI 0 rfl dd_X8_copyFrom_5 pf_X8_9 rfl kk_1 (by decide) (zlt rfl) ?_
  refine wp_aload_n dd_X8_copyFrom_8 rfl ?_
  refine wp_aload_n dd_X8_copyFrom_9 rfl ?_
  refine wp_getV 1 (v := mem 21 1) rfl (by rw [zu_row (by decide)]) dd_X8_copyFrom_10 gf_X8_22 rfl kk_21 (by decide) (zlt rfl) ?_
  refine wp_putzI 1 rfl dd_X8_copyFrom_13 pf_X8_22 rfl kk_1 (by decide) (zlt rfl) ?_
  refine wp_iconst dd_X8_copyFrom_16 (zr_lit rfl) ?_
  refine wp_istore_n (ls2 := [some (zR 1), some (zR 21), some (zI 0)]) dd_X8_copyFrom_17 rfl (by decide) rfl ?_
  have lp18 : ∀ (nf : Nat) (i : Int) (mm : zMem), (0 ≤ i) → (i ≤ mem 21 1) → (mm 1 0 = mem 21 0 ∧ mm 1 1 = mem 21 1) → (∀ q : Int, 0 ≤ q → q < i → mm (zo q) 0 = mem (zo2 q) 0 ∧ mm (zo q) 1 = mem (zo2 q) 1 ∧ ∀ x : Int, 0 ≤ x → x < 25 → mm (zo q + 1) x = mem (zo2 q + 1) x ∧ mm (zo q + 2) x = mem (zo2 q + 2) x) → (∀ a : Nat, a ≠ 1 → (a < 3 ∨ 20 < a) → mm a = mem a) → (mem 21 1 - i) < (nf : Int) → zw_Wp l mm_X8_copyFrom (zS L) 18 [some (zR 1), some (zR 21), some (zI i)] [] mm 0 0 Q := by
    intro nf
    induction nf with
    | zero =>
      intro i mm i0 i1 h1 h2 h3 hmu
      exfalso; omega
    | succ nf ih18 =>
      intro i mm i0 i1 h1 h2 h3 hmu
      refine wp_iload_n dd_X8_copyFrom_18 rfl ?_
      refine wp_aload_n dd_X8_copyFrom_19 rfl ?_
      refine wp_getZ 1 rfl dd_X8_copyFrom_20 gf_X8_22 rfl kk_1 (by decide) (zlt rfl) ?_
      refine wp_icmp_ge (tgt := 47) dd_X8_copyFrom_23 (by decide) (fun c23_1 => ?_) (fun c23_1 => ?_)
      · skip
        refine wp_return (st := []) dd_X8_copyFrom_47 rfl ?_
        exact k mm h1 (fun q q1 q2 => h2 q q1 (by omega)) h3
      · skip
        have hq6 : 0 ≤ i ∧ i < 6 := by omega
        have hqd := zo_rg hq6
        have hqs := zo2_rg hq6
        have es0 := h3 (zo2 i) (by omega) (by omega)
        have es1 := h3 (zo2 i + 1) (by omega) (by omega)
        have es2 := h3 (zo2 i + 2) (by omega) (by omega)
        refine wp_aload_n dd_X8_copyFrom_26 rfl ?_
        refine wp_getR dd_X8_copyFrom_27 gf_X8_17 rfl kk_1 (by decide) (zlt rfl) rr_1_2 ?_
        refine wp_iload_n dd_X8_copyFrom_30 rfl ?_
        refine wp_aald dd_X8_copyFrom_31 kk_2 (zlt rfl) (by omega) (by omega) (zr2 rfl hq6) ?_
        refine wp_aload_n dd_X8_copyFrom_32 rfl ?_
        refine wp_getR dd_X8_copyFrom_33 gf_X8_17 rfl kk_21 (by decide) (zlt rfl) rr_21_2 ?_
        refine wp_iload_n dd_X8_copyFrom_36 rfl ?_
        refine wp_aald dd_X8_copyFrom_37 kk_22 (zlt rfl) (by omega) (by omega) (zr22 rfl hq6) ?_
        refine wp_callV (M' := mm_X4_copyFrom) (As := [zR (zo2 i)]) (rest := []) dd_X8_copyFrom_38 lk_X8_32 mV_X4_copyFrom (zoP hq6).k (zoP hq6).i ⟨_, _, rfl⟩ rfl (by decide) (by decide) (Nat.le_of_ble_eq_true rfl) rfl (sp_X4_copyFrom  (zo i) (zo2 i) (zoP hq6) (zo2P hq6) (by omega) (fun me f9 g9 => ?_))
        show zw_Wp l mm_X8_copyFrom (zS L) 41 [some (zR 1), some (zR 21), some (zI i)] [] me 0 0 Q
        refine wp_iincC (ls2 := [some (zR 1), some (zR 21), some (zI (i + 1))]) dd_X8_copyFrom_41 rfl rfl (by decide) (by omega) rfl ?_
        refine wp_goto (tgt := 18) dd_X8_copyFrom_44 (by decide) ?_
        refine ih18 (i + 1) me ?_ ?_ ?_ ?_ ?_ ?_
        · first | omega | assumption | (intros; omega)
        · first | omega | assumption | (intros; omega)
        · rw [g9 1 (by omega) (by omega) (by omega)]; exact h1
        · intro q q1 q2
          by_cases hq : q = i
          · subst hq
            rw [es0, es1, es2] at f9
            exact f9
          · have hne := zo_ne q1 i0 hq
            rw [g9 _ (by omega) (by omega) (by omega), g9 (zo q + 1) (by omega) (by omega) (by omega), g9 (zo q + 2) (by omega) (by omega) (by omega)]
            exact h2 q q1 (by omega)
        · intro a q1 q2; rw [g9 a (by omega) (by omega) (by omega)]; exact h3 a q1 q2
        · omega
  refine lp18 ((mem 21 1 - 0 : Int)).toNat.succ 0 (zu (zu mem 1 0 (mem 21 0)) 1 1 (mem 21 1)) ?_ ?_ ?_ ?_ ?_ ?_
  · first | omega | assumption | (intros; omega)
  · first | omega | assumption | (intros; omega)
  · exact ⟨by rw [zu_n (Or.inr (by decide)), zu_s], zu_s⟩
  · intros; omega
  · intro a ha _; rw [zu_row ha, zu_row ha]
  · omega

set_option maxRecDepth 100000 in
set_option maxHeartbeats 4000000 in
theorem sp_X8_copyFrom_im {l : Launch} {L : Nat} {mem : zMem} {Q : zQ}   (hn : 0 ≤ mem 1 1 ∧ mem 1 1 ≤ 6) (k : ∀ (mem2 : zMem), (mem2 21 0 = mem 1 0 ∧ mem2 21 1 = mem 1 1) → (∀ q : Int, 0 ≤ q → q < mem 1 1 → mem2 (zo2 q) 0 = mem (zo q) 0 ∧ mem2 (zo2 q) 1 = mem (zo q) 1 ∧ ∀ x : Int, 0 ≤ x → x < 25 → mem2 (zo2 q + 1) x = mem (zo q + 1) x ∧ mem2 (zo2 q + 2) x = mem (zo q + 2) x) → (∀ a : Nat, a ≠ 21 → (a < 23 ∨ 40 < a) → mem2 a = mem a) → Q none (zS L) mem2) : zw_Ok l mm_X8_copyFrom [zR 21, zR 1] (zS L) mem Q := by
  refine zw_enter (by decide) (Nat.le_of_ble_eq_true rfl) rfl ?_
  show zw_Wp l mm_X8_copyFrom (zS L) 0 [some (zR 21), some (zR 1), none] [] mem 0 0 Q
  refine wp_aload_n dd_X8_copyFrom_0 rfl ?_
  refine wp_aload_n dd_X8_copyFrom_1 rfl ?_
  refine wp_getZ 0 rfl dd_X8_copyFrom_2 gf_X8_9 rfl kk_1 (by decide) (zlt rfl) ?_
  refine wp_putzI 0 rfl dd_X8_copyFrom_5 pf_X8_9 rfl kk_21 (by decide) (zlt rfl) ?_
  refine wp_aload_n dd_X8_copyFrom_8 rfl ?_
  refine wp_aload_n dd_X8_copyFrom_9 rfl ?_
  refine wp_getV 1 (v := mem 1 1) rfl (by rw [zu_row (by decide)]) dd_X8_copyFrom_10 gf_X8_22 rfl kk_1 (by decide) (zlt rfl) ?_
  refine wp_putzI 1 rfl dd_X8_copyFrom_13 pf_X8_22 rfl kk_21 (by decide) (zlt rfl) ?_
  refine wp_iconst dd_X8_copyFrom_16 (zr_lit rfl) ?_
  refine wp_istore_n (ls2 := [some (zR 21), some (zR 1), some (zI 0)]) dd_X8_copyFrom_17 rfl (by decide) rfl ?_
  have lp18 : ∀ (nf : Nat) (i : Int) (mm : zMem), (0 ≤ i) → (i ≤ mem 1 1) → (mm 21 0 = mem 1 0 ∧ mm 21 1 = mem 1 1) → (∀ q : Int, 0 ≤ q → q < i → mm (zo2 q) 0 = mem (zo q) 0 ∧ mm (zo2 q) 1 = mem (zo q) 1 ∧ ∀ x : Int, 0 ≤ x → x < 25 → mm (zo2 q + 1) x = mem (zo q + 1) x ∧ mm (zo2 q + 2) x = mem (zo q + 2) x) → (∀ a : Nat, a ≠ 21 → (a < 23 ∨ 40 < a) → mm a = mem a) → (mem 1 1 - i) < (nf : Int) → zw_Wp l mm_X8_copyFrom (zS L) 18 [some (zR 21), some (zR 1), some (zI i)] [] mm 0 0 Q := by
    intro nf
    induction nf with
    | zero =>
      intro i mm i0 i1 h1 h2 h3 hmu
      exfalso; omega
    | succ nf ih18 =>
      intro i mm i0 i1 h1 h2 h3 hmu
      refine wp_iload_n dd_X8_copyFrom_18 rfl ?_
      refine wp_aload_n dd_X8_copyFrom_19 rfl ?_
      refine wp_getZ 1 rfl dd_X8_copyFrom_20 gf_X8_22 rfl kk_21 (by decide) (zlt rfl) ?_
      refine wp_icmp_ge (tgt := 47) dd_X8_copyFrom_23 (by decide) (fun c23_1 => ?_) (fun c23_1 => ?_)
      · skip
        refine wp_return (st := []) dd_X8_copyFrom_47 rfl ?_
        exact k mm h1 (fun q q1 q2 => h2 q q1 (by omega)) h3
      · skip
        have hq6 : 0 ≤ i ∧ i < 6 := by omega
        have hqd := zo2_rg hq6
        have hqs := zo_rg hq6
        have es0 := h3 (zo i) (by omega) (by omega)
        have es1 := h3 (zo i + 1) (by omega) (by omega)
        have es2 := h3 (zo i + 2) (by omega) (by omega)
        refine wp_aload_n dd_X8_copyFrom_26 rfl ?_
        refine wp_getR dd_X8_copyFrom_27 gf_X8_17 rfl kk_21 (by decide) (zlt rfl) rr_21_2 ?_
        refine wp_iload_n dd_X8_copyFrom_30 rfl ?_
        refine wp_aald dd_X8_copyFrom_31 kk_22 (zlt rfl) (by omega) (by omega) (zr22 rfl hq6) ?_
        refine wp_aload_n dd_X8_copyFrom_32 rfl ?_
        refine wp_getR dd_X8_copyFrom_33 gf_X8_17 rfl kk_1 (by decide) (zlt rfl) rr_1_2 ?_
        refine wp_iload_n dd_X8_copyFrom_36 rfl ?_
        refine wp_aald dd_X8_copyFrom_37 kk_2 (zlt rfl) (by omega) (by omega) (zr2 rfl hq6) ?_
        refine wp_callV (M' := mm_X4_copyFrom) (As := [zR (zo i)]) (rest := []) dd_X8_copyFrom_38 lk_X8_32 mV_X4_copyFrom (zo2P hq6).k (zo2P hq6).i ⟨_, _, rfl⟩ rfl (by decide) (by decide) (Nat.le_of_ble_eq_true rfl) rfl (sp_X4_copyFrom  (zo2 i) (zo i) (zo2P hq6) (zoP hq6) (by omega) (fun me f9 g9 => ?_))
        show zw_Wp l mm_X8_copyFrom (zS L) 41 [some (zR 21), some (zR 1), some (zI i)] [] me 0 0 Q
        refine wp_iincC (ls2 := [some (zR 21), some (zR 1), some (zI (i + 1))]) dd_X8_copyFrom_41 rfl rfl (by decide) (by omega) rfl ?_
        refine wp_goto (tgt := 18) dd_X8_copyFrom_44 (by decide) ?_
        refine ih18 (i + 1) me ?_ ?_ ?_ ?_ ?_ ?_
        · first | omega | assumption | (intros; omega)
        · first | omega | assumption | (intros; omega)
        · rw [g9 21 (by omega) (by omega) (by omega)]; exact h1
        · intro q q1 q2
          by_cases hq : q = i
          · subst hq
            rw [es0, es1, es2] at f9
            exact f9
          · have hne := zo2_ne q1 i0 hq
            rw [g9 _ (by omega) (by omega) (by omega), g9 (zo2 q + 1) (by omega) (by omega) (by omega), g9 (zo2 q + 2) (by omega) (by omega) (by omega)]
            exact h2 q q1 (by omega)
        · intro a q1 q2; rw [g9 a (by omega) (by omega) (by omega)]; exact h3 a q1 q2
        · omega
  refine lp18 ((mem 1 1 - 0 : Int)).toNat.succ 0 (zu (zu mem 21 0 (mem 1 0)) 21 1 (mem 1 1)) ?_ ?_ ?_ ?_ ?_ ?_
  · first | omega | assumption | (intros; omega)
  · first | omega | assumption | (intros; omega)
  · exact ⟨by rw [zu_n (Or.inr (by decide)), zu_s], zu_s⟩
  · intros; omega
  · intro a ha _; rw [zu_row ha, zu_row ha]
  · omega

set_option maxRecDepth 100000 in
set_option maxHeartbeats 4000000 in
theorem sp_X8_termsOfAll {l : Launch} {L : Nat} {mem : zMem} {Q : zQ}   (hn : 0 ≤ mem 1 1 ∧ mem 1 1 ≤ 6) (hC : ∀ q : Int, 0 ≤ q → q < mem 1 1 → zRw mem (zo q) (zco mem q)) (k : Q (some (zI (zcA mem (mem 1 1).toNat))) (zS L) mem) : zw_Ok l mm_X8_termsOfAll [zR 1] (zS L) mem Q := by
  refine zw_enter (by decide) (Nat.le_of_ble_eq_true rfl) rfl ?_
  show zw_Wp l mm_X8_termsOfAll (zS L) 0 [some (zR 1), none, none] [] mem 0 0 Q
  refine wp_iconst dd_X8_termsOfAll_0 (zr_lit rfl) ?_
  refine wp_istore_n (ls2 := [some (zR 1), some (zI 0), none]) dd_X8_termsOfAll_1 rfl (by decide) rfl ?_
  refine wp_iconst dd_X8_termsOfAll_2 (zr_lit rfl) ?_
  refine wp_istore_n (ls2 := [some (zR 1), some (zI 0), some (zI 0)]) dd_X8_termsOfAll_3 rfl (by decide) rfl ?_
  have lp4 : ∀ (nf : Nat) (a : Int) (q : Int), (0 ≤ q) → (q ≤ mem 1 1) → (a = zcA mem q.toNat) → (mem 1 1 - q) < (nf : Int) → zw_Wp l mm_X8_termsOfAll (zS L) 4 [some (zR 1), some (zI a), some (zI q)] [] mem 0 0 Q := by
    intro nf
    induction nf with
    | zero =>
      intro a q h0 h1 h2 hmu
      exfalso; omega
    | succ nf ih4 =>
      intro a q h0 h1 h2 hmu
      have hca := zcA_rg (mem := mem) q.toNat
      refine wp_iload_n dd_X8_termsOfAll_4 rfl ?_
      refine wp_aload_n dd_X8_termsOfAll_5 rfl ?_
      refine wp_getZ 1 rfl dd_X8_termsOfAll_6 gf_X8_22 rfl kk_1 (by decide) (zlt rfl) ?_
      refine wp_icmp_ge (tgt := 30) dd_X8_termsOfAll_9 (by decide) (fun c9_1 => ?_) (fun c9_1 => ?_)
      · skip
        refine wp_iload_n dd_X8_termsOfAll_30 rfl ?_
        refine wp_ireturn (st := []) dd_X8_termsOfAll_31 rfl ?_
        refine zq_I ?_ ?_ k
        · rw [h2, show q = mem 1 1 by omega]
        · rfl
      · skip
        have hq6 : 0 ≤ q ∧ q < 6 := by omega
        refine wp_iload_n dd_X8_termsOfAll_12 rfl ?_
        refine wp_aload_n dd_X8_termsOfAll_13 rfl ?_
        refine wp_getR dd_X8_termsOfAll_14 gf_X8_17 rfl kk_1 (by decide) (zlt rfl) rr_1_2 ?_
        refine wp_iload_n dd_X8_termsOfAll_17 rfl ?_
        refine wp_aald dd_X8_termsOfAll_18 kk_2 (zlt rfl) (by omega) (by omega) (zr2 rfl hq6) ?_
        refine wp_callV (M' := mm_X4_howManyTerms) (As := []) (rest := [zI a]) dd_X8_termsOfAll_19 lk_X8_36 mV_X4_howManyTerms (zoP hq6).k (zoP hq6).i ⟨_, _, rfl⟩ rfl (by decide) (by decide) (Nat.le_of_ble_eq_true rfl) rfl (sp_X4_howManyTerms  (zo q) (zoP hq6) ?_)
        show zw_Wp l mm_X8_termsOfAll (zS L) 22 [some (zR 1), some (zI a), some (zI q)] [zI (zcnt (mem ((zo q) + 2)) 25), zI a] mem 0 0 Q
        have hcq := zcnt_rg (f := mem (zo q + 2)) 25
        refine wp_iaddC dd_X8_termsOfAll_22 (by omega) ?_
        refine wp_istore_n (ls2 := [some (zR 1), some (zI (a + (zcnt (mem ((zo q) + 2)) 25))), some (zI q)]) dd_X8_termsOfAll_23 rfl (by decide) rfl ?_
        refine wp_iincC (ls2 := [some (zR 1), some (zI (a + (zcnt (mem ((zo q) + 2)) 25))), some (zI (q + 1))]) dd_X8_termsOfAll_24 rfl rfl (by decide) (by omega) rfl ?_
        refine wp_goto (tgt := 4) dd_X8_termsOfAll_27 (by decide) ?_
        refine ih4 (a + (zcnt (mem ((zo q) + 2)) 25)) (q + 1) ?_ ?_ ?_ ?_
        · first | omega | assumption | (intros; omega)
        · first | omega | assumption | (intros; omega)
        · rw [show (q + 1).toNat = q.toNat + 1 by omega, zcA, show ((q.toNat : Nat) : Int) = q by omega, ← h2, ← (hC q h0 (by omega)).cnt]
        · omega
  refine lp4 ((mem 1 1 - 0 : Int)).toNat.succ 0 0 ?_ ?_ ?_ ?_
  · first | omega | assumption | (intros; omega)
  · first | omega | assumption | (intros; omega)
  · rfl
  · omega

set_option maxRecDepth 100000 in
set_option maxHeartbeats 4000000 in
theorem sp_X8_noughtBits {l : Launch} {L : Nat} {mem : zMem} {Q : zQ}   (hn : 0 ≤ mem 1 1 ∧ mem 1 1 ≤ 6) (hC : ∀ q : Int, 0 ≤ q → q < mem 1 1 → zRw mem (zo q) (zco mem q)) (k : Q (some (zI (zbA mem (mem 1 1).toNat))) (zS L) mem) : zw_Ok l mm_X8_noughtBits [zR 1] (zS L) mem Q := by
  refine zw_enter (by decide) (Nat.le_of_ble_eq_true rfl) rfl ?_
  show zw_Wp l mm_X8_noughtBits (zS L) 0 [some (zR 1), none, none] [] mem 0 0 Q
  refine wp_iconst dd_X8_noughtBits_0 (zr_lit rfl) ?_
  refine wp_istore_n (ls2 := [some (zR 1), some (zI 0), none]) dd_X8_noughtBits_1 rfl (by decide) rfl ?_
  refine wp_iconst dd_X8_noughtBits_2 (zr_lit rfl) ?_
  refine wp_istore_n (ls2 := [some (zR 1), some (zI 0), some (zI 0)]) dd_X8_noughtBits_3 rfl (by decide) rfl ?_
  have lp4 : ∀ (nf : Nat) (a : Int) (q : Int), (0 ≤ q) → (q ≤ mem 1 1) → (a = zbA mem q.toNat) → (mem 1 1 - q) < (nf : Int) → zw_Wp l mm_X8_noughtBits (zS L) 4 [some (zR 1), some (zI a), some (zI q)] [] mem 0 0 Q := by
    intro nf
    induction nf with
    | zero =>
      intro a q h0 h1 h2 hmu
      exfalso; omega
    | succ nf ih4 =>
      intro a q h0 h1 h2 hmu
      have har : zw_r32 a := by rw [h2]; exact zbA_rg _
      have h2q := z2_le (n := q) (by omega)
      refine wp_iload_n dd_X8_noughtBits_4 rfl ?_
      refine wp_aload_n dd_X8_noughtBits_5 rfl ?_
      refine wp_getZ 1 rfl dd_X8_noughtBits_6 gf_X8_22 rfl kk_1 (by decide) (zlt rfl) ?_
      refine wp_icmp_ge (tgt := 36) dd_X8_noughtBits_9 (by decide) (fun c9_1 => ?_) (fun c9_1 => ?_)
      · skip
        refine wp_iload_n dd_X8_noughtBits_36 rfl ?_
        refine wp_ireturn (st := []) dd_X8_noughtBits_37 rfl ?_
        refine zq_I ?_ ?_ k
        · rw [h2, show q = mem 1 1 by omega]
        · rfl
      · skip
        have hq6 : 0 ≤ q ∧ q < 6 := by omega
        have hnz := znought (c := zco mem q)
        rw [← (hC q h0 (by omega)).cnt] at hnz
        refine wp_aload_n dd_X8_noughtBits_12 rfl ?_
        refine wp_getR dd_X8_noughtBits_13 gf_X8_17 rfl kk_1 (by decide) (zlt rfl) rr_1_2 ?_
        refine wp_iload_n dd_X8_noughtBits_16 rfl ?_
        refine wp_aald dd_X8_noughtBits_17 kk_2 (zlt rfl) (by omega) (by omega) (zr2 rfl hq6) ?_
        refine wp_callV (M' := mm_X4_isNought) (As := []) (rest := []) dd_X8_noughtBits_18 lk_X8_40 mV_X4_isNought (zoP hq6).k (zoP hq6).i ⟨_, _, rfl⟩ rfl (by decide) (by decide) (Nat.le_of_ble_eq_true rfl) rfl (sp_X4_isNought  (zo q) (zoP hq6) ?_)
        show zw_Wp l mm_X8_noughtBits (zS L) 21 [some (zR 1), some (zI a), some (zI q)] [zI (if zcnt (mem ((zo q) + 2)) 25 = 0 then 1 else 0)] mem 0 0 Q
        refine wp_if_eq (tgt := 30) dd_X8_noughtBits_21 (by decide) (fun c21_2 => ?_) (fun c21_2 => ?_)
        · skip
          have hng : ¬ zdeg (zco mem q) 0 25 < 0 := fun z => by have := hnz.mpr z; rw [if_pos this] at c21_2; omega
          refine wp_iincC (ls2 := [some (zR 1), some (zI a), some (zI (q + 1))]) dd_X8_noughtBits_30 rfl rfl (by decide) (by omega) rfl ?_
          refine wp_goto (tgt := 4) dd_X8_noughtBits_33 (by decide) ?_
          refine ih4 a (q + 1) ?_ ?_ ?_ ?_
          · first | omega | assumption | (intros; omega)
          · first | omega | assumption | (intros; omega)
          · rw [show (q + 1).toNat = q.toNat + 1 by omega, zbA, show ((q.toNat : Nat) : Int) = q by omega, ← h2]
            first
            | (rw [if_pos hng]; rfl)
            | (rw [if_neg hng])
          · omega
        · skip
          have hng : zdeg (zco mem q) 0 25 < 0 := by
            by_cases z : zcnt (mem (zo q + 2)) 25 = 0
            · exact hnz.mp z
            · rw [if_neg z] at c21_2; omega
          refine wp_iload_n dd_X8_noughtBits_24 rfl ?_
          refine wp_iconst dd_X8_noughtBits_25 (zr_lit rfl) ?_
          refine wp_iload_n dd_X8_noughtBits_26 rfl ?_
          refine wp_ishlP dd_X8_noughtBits_27 (by decide) (by omega) (h2q (by omega)).2 ?_
          refine wp_ior dd_X8_noughtBits_28 ?_
          refine wp_istore_n (ls2 := [some (zR 1), some (zI ((Int32.ofInt a ||| Int32.ofInt (1 * 2 ^ q.toNat)).toInt)), some (zI q)]) dd_X8_noughtBits_29 rfl (by decide) rfl ?_
          refine wp_iincC (ls2 := [some (zR 1), some (zI ((Int32.ofInt a ||| Int32.ofInt (1 * 2 ^ q.toNat)).toInt)), some (zI (q + 1))]) dd_X8_noughtBits_30 rfl rfl (by decide) (by omega) rfl ?_
          refine wp_goto (tgt := 4) dd_X8_noughtBits_33 (by decide) ?_
          refine ih4 ((Int32.ofInt a ||| Int32.ofInt (1 * 2 ^ q.toNat)).toInt) (q + 1) ?_ ?_ ?_ ?_
          · first | omega | assumption | (intros; omega)
          · first | omega | assumption | (intros; omega)
          · rw [show (q + 1).toNat = q.toNat + 1 by omega, zbA, show ((q.toNat : Nat) : Int) = q by omega, ← h2]
            first
            | (rw [if_pos hng]; rfl)
            | (rw [if_neg hng])
          · omega
  refine lp4 ((mem 1 1 - 0 : Int)).toNat.succ 0 0 ?_ ?_ ?_ ?_
  · first | omega | assumption | (intros; omega)
  · first | omega | assumption | (intros; omega)
  · rfl
  · omega


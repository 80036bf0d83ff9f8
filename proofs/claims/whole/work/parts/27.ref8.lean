/-! ===== odds, lots, terms in order ===== -/
theorem zcmp0 {a : Int} (h : zw_r64 a) : (lg_cmp (Int64.ofInt a) (Int64.ofInt 0)).toInt = 0 ↔ a = 0 := by
  have h0 : zw_r64 0 := by unfold zw_r64; omega
  have e1 : Int64.ofInt a < Int64.ofInt 0 ↔ a < 0 := by rw [Int64.lt_iff_toInt_lt, zt_ofl h, zt_ofl h0]
  have e2 : Int64.ofInt 0 < Int64.ofInt a ↔ 0 < a := by rw [Int64.lt_iff_toInt_lt, zt_ofl h, zt_ofl h0]
  have e3 : Int64.ofInt a = Int64.ofInt 0 ↔ a = 0 := by
    constructor
    · intro q
      have := congrArg Int64.toInt q
      rwa [zt_ofl h, zt_ofl h0] at this
    · intro q; rw [q]
  unfold lg_cmp
  by_cases q2 : 0 < a
  · rw [if_pos (show Int64.ofInt a > Int64.ofInt 0 from e2.mpr q2)]
    exact ⟨fun q => absurd q (by decide +kernel), fun q => by omega⟩
  · rw [if_neg (fun q => q2 (e2.mp q))]
    by_cases q3 : a = 0
    · rw [if_pos (e3.mpr q3)]
      exact ⟨fun _ => q3, fun _ => rfl⟩
    · rw [if_neg (fun q => q3 (e3.mp q))]
      exact ⟨fun q => absurd q (by decide +kernel), fun q => absurd q q3⟩
def zlz (z : Int) : Nat → Int
  | 0 => z
  | n + 1 => zdr (zdr (zlz z n))
def zlx (z p : Int) (n : Nat) : Int := zdv (zdr (zlz z n)) / 256 % p
def zly (z p : Int) (n : Nat) : Int := zdv (zdr (zdr (zlz z n))) / 256 % p
def zlc (f : Int → Int → Int) (z p : Int) : Nat → Int
  | 0 => 0
  | n + 1 => zlc f z p n + if f (zlx z p n) (zly z p n) = 0 then 1 else 0
def zlv (f : Int → Int → Int) (z p : Int) : Nat → Int
  | 0 => 0
  | n + 1 => zlv f z p n + f (zlx z p n) (zly z p n)
theorem zlc_rg {f : Int → Int → Int} {z p : Int} : ∀ n : Nat, 0 ≤ zlc f z p n ∧ zlc f z p n ≤ n
  | 0 => ⟨Int.le_refl 0, Int.le_refl 0⟩
  | n + 1 => by
    have := zlc_rg (f := f) (z := z) (p := p) n
    unfold zlc
    omega
theorem zlv_rg {f : Int → Int → Int} {z p : Int} (h : ∀ x y, 0 ≤ f x y ∧ f x y ≤ 31) : ∀ n : Nat, 0 ≤ zlv f z p n ∧ zlv f z p n ≤ 31 * n
  | 0 => ⟨Int.le_refl 0, Int.le_refl 0⟩
  | n + 1 => by
    have h1 := zlv_rg (z := z) (p := p) h n
    have h2 := h (zlx z p n) (zly z p n)
    unfold zlv
    omega
def zyQ (mem : zMem) (q n w : Int) : Int := if ¬ (0 ≤ q ∧ q < mem 67 5) then -1 else if n < 1 then -4 else if 50 < n then -6 else if ¬ (0 ≤ w ∧ w ≤ 1) then -2 else 0
def zgcd (a b : Int) : Int := (Nat.gcd a.toNat b.toNat : Nat)
theorem zgcd_st {x y : Int} (hx : 0 ≤ x) (hy : 0 < y) : zgcd y (x % y) = zgcd x y := by
  unfold zgcd
  have e : (x % y).toNat = x.toNat % y.toNat := by
    rw [Int.toNat_emod hx (by omega)]
  rw [e, Nat.gcd_comm y.toNat, ← Nat.gcd_rec, Nat.gcd_comm]
theorem zgcd_0 {x : Int} (hx : 0 ≤ x) : zgcd x 0 = x := by
  unfold zgcd
  rw [show (0 : Int).toNat = 0 from rfl, Nat.gcd_zero_right]
  omega

set_option maxRecDepth 100000 in
set_option maxHeartbeats 4000000 in
theorem sp_X11_divisor {l : Launch} {L : Nat} {mem : zMem} {Q : zQ}  (a : Int) (b : Int) (ha : 0 ≤ a ∧ a < 2147483648) (hb : 0 ≤ b ∧ b < 2147483648) (k : Q (some (zJ (zgcd a b))) (zS L) mem) : zw_Ok l mm_X11_divisor [zJ a, zJ b] (zS L) mem Q := by
  refine zw_enter (by decide) (Nat.le_of_ble_eq_true rfl) rfl ?_
  show zw_Wp l mm_X11_divisor (zS L) 0 [some (zJ a), none, some (zJ b), none, none, none, none, none, none, none] [] mem 0 0 Q
  refine wp_lload_n dd_X11_divisor_0 rfl ?_
  refine wp_lstore (ls2 := [some (zJ a), none, some (zJ b), none, some (zJ a), none, none, none, none, none]) dd_X11_divisor_1 rfl (by decide) rfl ?_
  refine wp_lload_n dd_X11_divisor_3 rfl ?_
  refine wp_lstore (ls2 := [some (zJ a), none, some (zJ b), none, some (zJ a), none, some (zJ b), none, none, none]) dd_X11_divisor_4 rfl (by decide) rfl ?_
  have lp6 : ∀ (nf : Nat) (x : Int) (y : Int), (0 ≤ x ∧ x < 2147483648) → (0 ≤ y ∧ y < 2147483648) → (zgcd x y = zgcd a b) → (y) < (nf : Int) → zw_Wp l mm_X11_divisor (zS L) 6 [some (zJ a), none, some (zJ b), none, some (zJ x), none, some (zJ y), none, none, none] [] mem 0 0 Q := by
    intro nf
    induction nf with
    | zero =>
      intro x y h0 h1 h2 hmu
      exfalso; omega
    | succ nf ih6 =>
      intro x y h0 h1 h2 hmu
      have hr6 : zw_r64 y := ⟨by omega, by omega⟩
      have hcm := zcmp0 hr6
      have hym : 0 < y → x % y < y := fun q => (zm_rg (a := x) q).2
      refine wp_lload dd_X11_divisor_6 rfl ?_
      refine wp_lconst dd_X11_divisor_8 ?_
      show zw_Wp l mm_X11_divisor (zS L) 9 [some (zJ a), none, some (zJ b), none, some (zJ x), none, some (zJ y), none, none, none] [zJ 0, zJ y] mem 0 0 Q
      refine wp_lcmp dd_X11_divisor_9 ?_
      refine wp_if_eq (tgt := 31) dd_X11_divisor_10 (by decide) (fun c10_1 => ?_) (fun c10_1 => ?_)
      · skip
        have hy0 : y = 0 := hcm.mp c10_1
        refine wp_lload dd_X11_divisor_31 rfl ?_
        refine wp_lreturn (st := []) dd_X11_divisor_33 rfl ?_
        refine zq_J ?_ ?_ k
        · rw [← h2, hy0, zgcd_0 h0.1]
        · rfl
      · skip
        have hy0 : y ≠ 0 := fun q => c10_1 (hcm.mpr q)
        refine wp_lload dd_X11_divisor_13 rfl ?_
        refine wp_lload dd_X11_divisor_15 rfl ?_
        refine wp_lremP dd_X11_divisor_17 (by omega) (by omega) ?_
        refine wp_lstore (ls2 := [some (zJ a), none, some (zJ b), none, some (zJ x), none, some (zJ y), none, some (zJ (x % y)), none]) dd_X11_divisor_18 rfl (by decide) rfl ?_
        refine wp_lload dd_X11_divisor_20 rfl ?_
        refine wp_lstore (ls2 := [some (zJ a), none, some (zJ b), none, some (zJ y), none, some (zJ y), none, some (zJ (x % y)), none]) dd_X11_divisor_22 rfl (by decide) rfl ?_
        refine wp_lload dd_X11_divisor_24 rfl ?_
        refine wp_lstore (ls2 := [some (zJ a), none, some (zJ b), none, some (zJ y), none, some (zJ (x % y)), none, some (zJ (x % y)), none]) dd_X11_divisor_26 rfl (by decide) rfl ?_
        refine wp_goto (tgt := 6) dd_X11_divisor_28 (by decide) ?_
        refine wp_ls (zw_sub_of (a := [some (zJ a), none, some (zJ b), none, some (zJ y), none, some (zJ (x % y)), none, none, none]) (And.intro rfl (And.intro rfl (And.intro rfl (And.intro rfl (trivial)))))) ?_
        refine ih6 y (x % y) ?_ ?_ ?_ ?_
        · first | omega | assumption | (intros; omega)
        · have := zm_rg (a := x) (p := y) (by omega); omega
        · rw [zgcd_st h0.1 (by omega)]; exact h2
        · omega
  refine lp6 ((b : Int)).toNat.succ a b ?_ ?_ ?_ ?_
  · first | omega | assumption | (intros; omega)
  · first | omega | assumption | (intros; omega)
  · rfl
  · omega

set_option maxRecDepth 100000 in
set_option maxHeartbeats 4000000 in
theorem sp_X11_odds {l : Launch} {L : Nat} {mem : zMem} {Q : zQ}  (q : Int) (w : Int) (hp : zPr (mem 67 1)) (hn : 0 ≤ mem 67 5 ∧ mem 67 5 ≤ 6) (hTa : ∀ q : Int, 0 ≤ q → q < mem 67 5 → zT mem q) (k : ∀ (r : Int) (mem2 : zMem), ((¬ (0 ≤ q ∧ q < mem 67 5) ∧ r = 4000000000000000001 ∧ mem2 = zno mem (-1)) ∨ ((0 ≤ q ∧ q < mem 67 5) ∧ ¬ (0 ≤ w ∧ w ≤ 1) ∧ r = 4000000000000000002 ∧ mem2 = zno mem (-2)) ∨ ((0 ≤ q ∧ q < mem 67 5) ∧ (0 ≤ w ∧ w ≤ 1) ∧ mem2 = mem ∧ r = (if w = 0 then zcX (zri (zco mem q) (zco mem q) (mem 67 1)) (mem 67 1) (mem 67 1).toNat else mem 67 1 * mem 67 1) / zgcd (zcX (zri (zco mem q) (zco mem q) (mem 67 1)) (mem 67 1) (mem 67 1).toNat) (mem 67 1 * mem 67 1))) → Q (some (zJ r)) (zS L) mem2) : zw_Ok l mm_X11_odds [zR 67, zI q, zI w] (zS L) mem Q := by
  refine zw_okA (fun hA => ?_)
  have rg_q : -2147483648 ≤ q ∧ q < 2147483648 := hA.2.1
  have rg_w : -2147483648 ≤ w ∧ w < 2147483648 := hA.2.2.1
  refine zw_enter (by decide) (Nat.le_of_ble_eq_true rfl) rfl ?_
  show zw_Wp l mm_X11_odds (zS L) 0 [some (zR 67), some (zI q), some (zI w), none, none, none, none, none, none, none] [] mem 0 0 Q
  have hpr := hp.rg
  have hpp := zmul_rg (a := mem 67 1) (b := mem 67 1) (A := 31) (B := 31) (by omega) (by omega) (by omega) (by omega)
  have hpq : 0 < mem 67 1 * mem 67 1 := Int.mul_pos (by omega) (by omega)
  have h01 := zri_01 (zco mem q) (zco mem q) (mem 67 1)
  refine wp_aload_n dd_X11_odds_0 rfl ?_
  refine wp_iload_n dd_X11_odds_1 rfl ?_
  refine wp_callV (M' := mm_X11_isPoly) (As := [zI q]) (rest := []) dd_X11_odds_2 lk_X11_154 mV_X11_isPoly kk_67 (zlt rfl) ⟨_, _, rfl⟩ rfl (by decide) (by decide) (Nat.le_of_ble_eq_true rfl) rfl (sp_X11_isPoly  q (by first | assumption | omega) ?_)
  show zw_Wp l mm_X11_odds (zS L) 5 [some (zR 67), some (zI q), some (zI w), none, none, none, none, none, none, none] [zI (if 0 ≤ q ∧ q < mem 67 5 then 1 else 0)] mem 0 0 Q
  refine wp_if_ne (tgt := 12) dd_X11_odds_5 (by decide) (fun c5_1 => ?_) (fun c5_1 => ?_)
  · skip
    refine wp_iload_n dd_X11_odds_12 rfl ?_
    refine wp_iconst dd_X11_odds_13 (zr_lit rfl) ?_
    refine wp_iconst dd_X11_odds_14 (zr_lit rfl) ?_
    refine wp_callS (M' := mm_X11_isIn) (As := [zI w, zI 0, zI 1]) (rest := []) dd_X11_odds_15 lk_X11_21 mS_X11_isIn rfl (by decide) (by decide) (Nat.le_of_ble_eq_true rfl) rfl (sp_X11_isIn  w 0 1  ?_)
    show zw_Wp l mm_X11_odds (zS L) 18 [some (zR 67), some (zI q), some (zI w), none, none, none, none, none, none, none] [zI (if 0 ≤ w ∧ w ≤ 1 then 1 else 0)] mem 0 0 Q
    refine wp_if_ne (tgt := 26) dd_X11_odds_18 (by decide) (fun c18_2 => ?_) (fun c18_2 => ?_)
    · skip
      refine wp_iconst dd_X11_odds_26 (zr_lit rfl) ?_
      refine wp_istore_n (ls2 := [some (zR 67), some (zI q), some (zI w), some (zI 0), none, none, none, none, none, none]) dd_X11_odds_27 rfl (by decide) rfl ?_
      refine wp_iload_n dd_X11_odds_28 rfl ?_
      refine wp_if_eq (tgt := 38) dd_X11_odds_29 (by decide) (fun c29_3 => ?_) (fun c29_3 => absurd c29_3 (by decide))
      have hTq := hTa q (by omega) (by omega)
      refine wp_lconst dd_X11_odds_38 ?_
      show zw_Wp l mm_X11_odds (zS L) 39 [some (zR 67), some (zI q), some (zI w), some (zI 0), none, none, none, none, none, none] [zJ 0] mem 0 0 Q
      refine wp_lstore (ls2 := [some (zR 67), some (zI q), some (zI w), some (zI 0), some (zJ 0), none, none, none, none, none]) dd_X11_odds_39 rfl (by decide) rfl ?_
      refine wp_aload_n dd_X11_odds_41 rfl ?_
      refine wp_getZ 1 rfl dd_X11_odds_42 gf_X11_9 rfl kk_67 (by decide) (zlt rfl) ?_
      refine wp_aload_n dd_X11_odds_45 rfl ?_
      refine wp_getZ 1 rfl dd_X11_odds_46 gf_X11_9 rfl kk_67 (by decide) (zlt rfl) ?_
      refine wp_imulC dd_X11_odds_49 (by omega) ?_
      refine wp_i2l dd_X11_odds_50 ?_
      refine wp_lstore (ls2 := [some (zR 67), some (zI q), some (zI w), some (zI 0), some (zJ 0), none, some (zJ ((mem 67 1) * (mem 67 1))), none, none, none]) dd_X11_odds_51 rfl (by decide) rfl ?_
      refine wp_iconst dd_X11_odds_53 (zr_lit rfl) ?_
      refine wp_istore (ls2 := [some (zR 67), some (zI q), some (zI w), some (zI 0), some (zJ 0), none, some (zJ ((mem 67 1) * (mem 67 1))), none, some (zI 0), none]) dd_X11_odds_54 rfl (by decide) rfl ?_
      have lp56 : ∀ (nf : Nat) (n : Int) (x : Int), (0 ≤ x) → (x ≤ mem 67 1) → (n = zcX (zri (zco mem q) (zco mem q) (mem 67 1)) (mem 67 1) x.toNat) → (mem 67 1 - x) < (nf : Int) → zw_Wp l mm_X11_odds (zS L) 56 [some (zR 67), some (zI q), some (zI w), some (zI 0), some (zJ n), none, some (zJ ((mem 67 1) * (mem 67 1))), none, some (zI x), none] [] mem 0 0 Q := by
        intro nf
        induction nf with
        | zero =>
          intro n x h0 h1 h2 hmu
          exfalso; omega
        | succ nf ih56 =>
          intro n x h0 h1 h2 hmu
          have hx9 := zcX_rg (p := mem 67 1) h01 (by omega) x.toNat
          refine wp_iload dd_X11_odds_56 rfl ?_
          refine wp_aload_n dd_X11_odds_58 rfl ?_
          refine wp_getZ 1 rfl dd_X11_odds_59 gf_X11_9 rfl kk_67 (by decide) (zlt rfl) ?_
          refine wp_icmp_ge (tgt := 111) dd_X11_odds_62 (by decide) (fun c62_4 => ?_) (fun c62_4 => ?_)
          · skip
            refine wp_iload_n dd_X11_odds_111 rfl ?_
            refine wp_if_ne (tgt := 120) dd_X11_odds_112 (by decide) (fun c112_5 => ?_) (fun c112_5 => ?_)
            · skip
              refine wp_lload dd_X11_odds_120 rfl ?_
              refine wp_lload dd_X11_odds_122 rfl ?_
              refine wp_lload dd_X11_odds_124 rfl ?_
              refine wp_callS (M' := mm_X11_divisor) (As := [zJ n, zJ ((mem 67 1) * (mem 67 1))]) (rest := [zJ ((mem 67 1) * (mem 67 1))]) dd_X11_odds_126 lk_X11_309 mS_X11_divisor rfl (by decide) (by decide) (Nat.le_of_ble_eq_true rfl) rfl (sp_X11_divisor  n ((mem 67 1) * (mem 67 1)) (by first | assumption | omega) (by first | assumption | omega) ?_)
              show zw_Wp l mm_X11_odds (zS L) 129 [some (zR 67), some (zI q), some (zI w), some (zI 0), some (zJ n), none, some (zJ ((mem 67 1) * (mem 67 1))), none, some (zI x), none] [zJ (zgcd n ((mem 67 1) * (mem 67 1))), zJ ((mem 67 1) * (mem 67 1))] mem 0 0 Q
              have hgp : 0 < zgcd n (mem 67 1 * mem 67 1) := by
                unfold zgcd
                have := Nat.gcd_pos_of_pos_right n.toNat (show 0 < (mem 67 1 * mem 67 1).toNat by omega)
                omega
              refine wp_ldivP dd_X11_odds_129 (by omega) (by omega) ?_
              refine wp_lreturn (st := []) dd_X11_odds_130 rfl ?_
              refine k _ _ (Or.inr (Or.inr ⟨by omega, by omega, rfl, ?_⟩))
              rw [h2, show x = mem 67 1 by omega]
              first | rw [if_pos (by omega)] | rw [if_neg (by omega)]
            · skip
              refine wp_lload dd_X11_odds_115 rfl ?_
              refine wp_goto (tgt := 122) dd_X11_odds_117 (by decide) ?_
              refine wp_lload dd_X11_odds_122 rfl ?_
              refine wp_lload dd_X11_odds_124 rfl ?_
              refine wp_callS (M' := mm_X11_divisor) (As := [zJ n, zJ ((mem 67 1) * (mem 67 1))]) (rest := [zJ n]) dd_X11_odds_126 lk_X11_309 mS_X11_divisor rfl (by decide) (by decide) (Nat.le_of_ble_eq_true rfl) rfl (sp_X11_divisor  n ((mem 67 1) * (mem 67 1)) (by first | assumption | omega) (by first | assumption | omega) ?_)
              show zw_Wp l mm_X11_odds (zS L) 129 [some (zR 67), some (zI q), some (zI w), some (zI 0), some (zJ n), none, some (zJ ((mem 67 1) * (mem 67 1))), none, some (zI x), none] [zJ (zgcd n ((mem 67 1) * (mem 67 1))), zJ n] mem 0 0 Q
              have hgp : 0 < zgcd n (mem 67 1 * mem 67 1) := by
                unfold zgcd
                have := Nat.gcd_pos_of_pos_right n.toNat (show 0 < (mem 67 1 * mem 67 1).toNat by omega)
                omega
              refine wp_ldivP dd_X11_odds_129 (by omega) (by omega) ?_
              refine wp_lreturn (st := []) dd_X11_odds_130 rfl ?_
              refine k _ _ (Or.inr (Or.inr ⟨by omega, by omega, rfl, ?_⟩))
              rw [h2, show x = mem 67 1 by omega]
              first | rw [if_pos (by omega)] | rw [if_neg (by omega)]
          · skip
            refine wp_iconst dd_X11_odds_65 (zr_lit rfl) ?_
            refine wp_istore (ls2 := [some (zR 67), some (zI q), some (zI w), some (zI 0), some (zJ n), none, some (zJ ((mem 67 1) * (mem 67 1))), none, some (zI x), some (zI 0)]) dd_X11_odds_66 rfl (by decide) rfl ?_
            have lp68 : ∀ (nf : Nat) (n : Int) (y : Int), (0 ≤ y) → (y ≤ mem 67 1) → (n = zcX (zri (zco mem q) (zco mem q) (mem 67 1)) (mem 67 1) x.toNat + zcY (zri (zco mem q) (zco mem q) (mem 67 1)) x y.toNat) → (mem 67 1 - y) < (nf : Int) → zw_Wp l mm_X11_odds (zS L) 68 [some (zR 67), some (zI q), some (zI w), some (zI 0), some (zJ n), none, some (zJ ((mem 67 1) * (mem 67 1))), none, some (zI x), some (zI y)] [] mem 0 0 Q := by
              intro nf
              induction nf with
              | zero =>
                intro n y h4 h5 h3 hmu
                exfalso; omega
              | succ nf ih68 =>
                intro n y h4 h5 h3 hmu
                have hy9 := zcY_rg (x := x) h01 y.toNat
                refine wp_iload dd_X11_odds_68 rfl ?_
                refine wp_aload_n dd_X11_odds_70 rfl ?_
                refine wp_getZ 1 rfl dd_X11_odds_71 gf_X11_9 rfl kk_67 (by decide) (zlt rfl) ?_
                refine wp_icmp_ge (tgt := 105) dd_X11_odds_74 (by decide) (fun c74_6 => ?_) (fun c74_6 => ?_)
                · skip
                  refine wp_iincC (ls2 := [some (zR 67), some (zI q), some (zI w), some (zI 0), some (zJ n), none, some (zJ ((mem 67 1) * (mem 67 1))), none, some (zI (x + 1)), some (zI y)]) dd_X11_odds_105 rfl rfl (by decide) (by omega) rfl ?_
                  refine wp_goto (tgt := 56) dd_X11_odds_108 (by decide) ?_
                  refine wp_ls (zw_sub_of (a := [some (zR 67), some (zI q), some (zI w), some (zI 0), some (zJ n), none, some (zJ ((mem 67 1) * (mem 67 1))), none, some (zI (x + 1)), none]) (And.intro rfl (And.intro rfl (And.intro rfl (And.intro rfl (And.intro rfl (And.intro rfl (And.intro rfl (trivial))))))))) ?_
                  refine ih56 n (x + 1) ?_ ?_ ?_ ?_
                  · first | omega | assumption | (intros; omega)
                  · first | omega | assumption | (intros; omega)
                  · rw [show (x + 1).toNat = x.toNat + 1 by omega, zcX, show ((x.toNat : Nat) : Int) = x by omega, h3, show y = mem 67 1 by omega]
                  · omega
                · skip
                  refine wp_lload dd_X11_odds_77 rfl ?_
                  refine wp_aload_n dd_X11_odds_79 rfl ?_
                  refine wp_iload_n dd_X11_odds_80 rfl ?_
                  refine wp_iload dd_X11_odds_81 rfl ?_
                  refine wp_iload dd_X11_odds_83 rfl ?_
                  refine wp_callV (M' := mm_X11_valueAt) (As := [zI q, zI x, zI y]) (rest := [zJ n]) dd_X11_odds_85 lk_X11_167 mV_X11_valueAt kk_67 (zlt rfl) ⟨_, _, rfl⟩ rfl (by decide) (by decide) (Nat.le_of_ble_eq_true rfl) rfl (sp_X11_valueAt  q x y (by first | assumption | omega) hTq ?_)
                  show zw_Wp l mm_X11_odds (zS L) 88 [some (zR 67), some (zI q), some (zI w), some (zI 0), some (zJ n), none, some (zJ ((mem 67 1) * (mem 67 1))), none, some (zI x), some (zI y)] [zI (zvs (zco mem q) x y (mem 67 1) 25), zJ n] mem 0 0 Q
                  refine wp_if_ne (tgt := 95) dd_X11_odds_88 (by decide) (fun c88_7 => ?_) (fun c88_7 => ?_)
                  · skip
                    refine wp_lconst dd_X11_odds_95 ?_
                    show zw_Wp l mm_X11_odds (zS L) 96 [some (zR 67), some (zI q), some (zI w), some (zI 0), some (zJ n), none, some (zJ ((mem 67 1) * (mem 67 1))), none, some (zI x), some (zI y)] [zJ 0, zJ n] mem 0 0 Q
                    refine wp_laddC dd_X11_odds_96 (by omega) ?_
                    refine wp_lstore (ls2 := [some (zR 67), some (zI q), some (zI w), some (zI 0), some (zJ (n + 0)), none, some (zJ ((mem 67 1) * (mem 67 1))), none, some (zI x), some (zI y)]) dd_X11_odds_97 rfl (by decide) rfl ?_
                    refine wp_iincC (ls2 := [some (zR 67), some (zI q), some (zI w), some (zI 0), some (zJ (n + 0)), none, some (zJ ((mem 67 1) * (mem 67 1))), none, some (zI x), some (zI (y + 1))]) dd_X11_odds_99 rfl rfl (by decide) (by omega) rfl ?_
                    refine wp_goto (tgt := 68) dd_X11_odds_102 (by decide) ?_
                    refine ih68 (n + 0) (y + 1) ?_ ?_ ?_ ?_
                    · first | omega | assumption | (intros; omega)
                    · first | omega | assumption | (intros; omega)
                    · rw [show (y + 1).toNat = y.toNat + 1 by omega, zcY, show ((y.toNat : Nat) : Int) = y by omega, h3]
                      unfold zri
                      first | (rw [if_pos ⟨by assumption, by assumption⟩]; omega) | (rw [if_neg (fun z => absurd z.1 (by assumption))]; omega)
                    · omega
                  · skip
                    refine wp_lconst dd_X11_odds_91 ?_
                    show zw_Wp l mm_X11_odds (zS L) 92 [some (zR 67), some (zI q), some (zI w), some (zI 0), some (zJ n), none, some (zJ ((mem 67 1) * (mem 67 1))), none, some (zI x), some (zI y)] [zJ 1, zJ n] mem 0 0 Q
                    refine wp_goto (tgt := 96) dd_X11_odds_92 (by decide) ?_
                    refine wp_laddC dd_X11_odds_96 (by omega) ?_
                    refine wp_lstore (ls2 := [some (zR 67), some (zI q), some (zI w), some (zI 0), some (zJ (n + 1)), none, some (zJ ((mem 67 1) * (mem 67 1))), none, some (zI x), some (zI y)]) dd_X11_odds_97 rfl (by decide) rfl ?_
                    refine wp_iincC (ls2 := [some (zR 67), some (zI q), some (zI w), some (zI 0), some (zJ (n + 1)), none, some (zJ ((mem 67 1) * (mem 67 1))), none, some (zI x), some (zI (y + 1))]) dd_X11_odds_99 rfl rfl (by decide) (by omega) rfl ?_
                    refine wp_goto (tgt := 68) dd_X11_odds_102 (by decide) ?_
                    refine ih68 (n + 1) (y + 1) ?_ ?_ ?_ ?_
                    · first | omega | assumption | (intros; omega)
                    · first | omega | assumption | (intros; omega)
                    · rw [show (y + 1).toNat = y.toNat + 1 by omega, zcY, show ((y.toNat : Nat) : Int) = y by omega, h3]
                      unfold zri
                      first | (rw [if_pos ⟨by assumption, by assumption⟩]; omega) | (rw [if_neg (fun z => absurd z.1 (by assumption))]; omega)
                    · omega
            refine lp68 ((mem 67 1 - 0 : Int)).toNat.succ n 0 ?_ ?_ ?_ ?_
            · first | omega | assumption | (intros; omega)
            · first | omega | assumption | (intros; omega)
            · rw [h2]; show _ = _ + 0; omega
            · omega
      refine lp56 ((mem 67 1 - 0 : Int)).toNat.succ 0 0 ?_ ?_ ?_ ?_
      · first | omega | assumption | (intros; omega)
      · first | omega | assumption | (intros; omega)
      · rfl
      · omega
    · skip
      refine wp_bipush dd_X11_odds_21 (by decide) ?_
      refine wp_goto (tgt := 27) dd_X11_odds_23 (by decide) ?_
      refine wp_istore_n (ls2 := [some (zR 67), some (zI q), some (zI w), some (zI (-2)), none, none, none, none, none, none]) dd_X11_odds_27 rfl (by decide) rfl ?_
      refine wp_iload_n dd_X11_odds_28 rfl ?_
      refine wp_if_eq (tgt := 38) dd_X11_odds_29 (by decide) (fun c29_8 => absurd c29_8 (by decide)) (fun c29_8 => ?_)
      refine wp_aload_n dd_X11_odds_32 rfl ?_
      refine wp_iload_n dd_X11_odds_33 rfl ?_
      refine wp_callV (M' := mm_X11_lowest) (As := [zI (-2)]) (rest := []) dd_X11_odds_34 lk_X11_305 mV_X11_lowest kk_67 (zlt rfl) ⟨_, _, rfl⟩ rfl (by decide) (by decide) (Nat.le_of_ble_eq_true rfl) rfl (sp_X11_lowest  (-2) (by first | assumption | omega) ?_)
      show zw_Wp l mm_X11_odds (zS L) 37 [some (zR 67), some (zI q), some (zI w), some (zI (-2)), none, none, none, none, none, none] [zJ (4000000000000000000 - (-2))] (zu mem 68 (-(-2)) (zwr (mem 68 (-(-2)) + 1))) 0 0 Q
      refine wp_lreturn (st := []) dd_X11_odds_37 rfl ?_
      exact k _ _ (Or.inr (Or.inl ⟨by omega, by omega, rfl, rfl⟩))
  · skip
    refine wp_iconst dd_X11_odds_8 (zr_lit rfl) ?_
    refine wp_goto (tgt := 27) dd_X11_odds_9 (by decide) ?_
    refine wp_istore_n (ls2 := [some (zR 67), some (zI q), some (zI w), some (zI (-1)), none, none, none, none, none, none]) dd_X11_odds_27 rfl (by decide) rfl ?_
    refine wp_iload_n dd_X11_odds_28 rfl ?_
    refine wp_if_eq (tgt := 38) dd_X11_odds_29 (by decide) (fun c29_9 => absurd c29_9 (by decide)) (fun c29_9 => ?_)
    refine wp_aload_n dd_X11_odds_32 rfl ?_
    refine wp_iload_n dd_X11_odds_33 rfl ?_
    refine wp_callV (M' := mm_X11_lowest) (As := [zI (-1)]) (rest := []) dd_X11_odds_34 lk_X11_305 mV_X11_lowest kk_67 (zlt rfl) ⟨_, _, rfl⟩ rfl (by decide) (by decide) (Nat.le_of_ble_eq_true rfl) rfl (sp_X11_lowest  (-1) (by first | assumption | omega) ?_)
    show zw_Wp l mm_X11_odds (zS L) 37 [some (zR 67), some (zI q), some (zI w), some (zI (-1)), none, none, none, none, none, none] [zJ (4000000000000000000 - (-1))] (zu mem 68 (-(-1)) (zwr (mem 68 (-(-1)) + 1))) 0 0 Q
    refine wp_lreturn (st := []) dd_X11_odds_37 rfl ?_
    exact k _ _ (Or.inl ⟨by omega, rfl, rfl⟩)


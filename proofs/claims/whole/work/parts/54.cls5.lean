/-! ===== the class: determinants ===== -/
theorem zcn_cg {f g f2 g2 : Int → Int} {d : Int} : ∀ n : Nat, (∀ k : Int, 0 ≤ k → k < n → f k = f2 k) → (∀ k : Int, 0 ≤ k → k < n → k ≤ d → g (d - k) = g2 (d - k)) → zcn f g d n = zcn f2 g2 d n
  | 0, _, _ => rfl
  | n + 1, h1, h2 => by
    rw [zcn, zcn, zcn_cg n (fun k q1 q2 => h1 k q1 (by omega)) (fun k q1 q2 q3 => h2 k q1 (by omega) q3), h1 n (by omega) (by omega)]
    by_cases q : (n : Int) ≤ d
    · rw [if_pos q, if_pos q, h2 n (by omega) (by omega) q]
    · rw [if_neg q, if_neg q]
theorem zcn_up {f g : Int → Int} {d : Int} {n : Nat} : ∀ m : Nat, (∀ k : Int, n ≤ k → k < n + m → f k = 0) → zcn f g d (n + m) = zcn f g d n
  | 0, _ => rfl
  | m + 1, h => by
    rw [show n + (m + 1) = (n + m) + 1 from rfl, zcn, zcn_up m (fun k q1 q2 => h k q1 (by omega)), h ((n + m : Nat) : Int) (by omega) (by omega), Int.zero_mul, Int.add_zero]
theorem zcn_rg {f g : Int → Int} {d p : Int} (hp : p ≤ 31) (hf : ∀ k : Int, 0 ≤ k → k < 9 → 0 ≤ f k ∧ f k < p) (hg : ∀ k : Int, 0 ≤ k → k ≤ d → 0 ≤ g k ∧ g k < p) : ∀ n : Nat, n ≤ 9 → 0 ≤ zcn f g d n ∧ zcn f g d n ≤ 961 * n
  | 0, _ => by unfold zcn; omega
  | n + 1, hn => by
    have ih := zcn_rg hp hf hg n (by omega)
    have h1 := hf n (by omega) (by omega)
    rw [zcn]
    by_cases q : (n : Int) ≤ d
    · rw [if_pos q]
      have h2 := hg (d - n) (by omega) (by omega)
      have h3 := zmul_rg (a := f n) (b := g (d - n)) (A := 31) (B := 31) (by omega) (by omega) (by omega) (by omega)
      omega
    · rw [if_neg q, Int.mul_zero]; omega
theorem zcn_hi {f g : Int → Int} {d A B : Int} (hf : ∀ k : Int, A < k → k < 9 → f k = 0) (hg : ∀ k : Int, B < k → k ≤ d → g k = 0) (hd : A + B < d) : ∀ n : Nat, n ≤ 9 → zcn f g d n = 0
  | 0, _ => rfl
  | n + 1, hn => by
    rw [zcn, zcn_hi hf hg hd n (by omega)]
    by_cases q : A < (n : Int)
    · rw [hf n q (by omega), Int.zero_mul]; rfl
    · by_cases q2 : (n : Int) ≤ d
      · rw [if_pos q2, hg (d - n) (by omega) (by omega), Int.mul_zero]; rfl
      · rw [if_neg q2, Int.mul_zero]; rfl
theorem zsg_all : ∀ s ∈ List.range 256, ∀ c ∈ List.range 8, zsg (s : Int) ((c : Int) + -1) = (if (s : Int) / 2 ^ c % 2 = 1 then - zsg (s : Int) (c : Int) else zsg (s : Int) (c : Int)) ∧ ((s : Int) / 2 ^ c % 2 = 1 → (Int32.ofInt (s : Int) ^^^ Int32.ofInt (1 * 2 ^ c)).toInt = (s : Int) - 2 ^ c ∧ (2 : Int) ^ c ≤ s ∧ zbits ((s : Int) - 2 ^ c) = zbits s - 1) := by decide +kernel
theorem zsg_st {s c : Int} (hs : 0 ≤ s ∧ s < 256) (hc : 0 ≤ c ∧ c < 8) : zsg s (c + -1) = (if s / 2 ^ c.toNat % 2 = 1 then - zsg s c else zsg s c) ∧ (s / 2 ^ c.toNat % 2 = 1 → (Int32.ofInt s ^^^ Int32.ofInt (1 * 2 ^ c.toNat)).toInt = s - 2 ^ c.toNat ∧ (2 : Int) ^ c.toNat ≤ s ∧ zbits (s - 2 ^ c.toNat) = zbits s - 1) := by
  obtain ⟨x, rfl⟩ := Int.eq_ofNat_of_zero_le hs.1
  obtain ⟨y, rfl⟩ := Int.eq_ofNat_of_zero_le hc.1
  exact zsg_all x (List.mem_range.mpr (by omega)) y (List.mem_range.mpr (by omega))
theorem zsg_top : ∀ z ∈ List.range 9, ∀ s ∈ List.range 256, (s : Int) < 1 * 2 ^ z → zsg (s : Int) ((z : Int) - 1) = 1 := by decide +kernel
theorem zsg_01 (s c : Int) : zsg s c = 1 ∨ zsg s c = -1 := by
  unfold zsg
  split
  · exact Or.inr rfl
  · exact Or.inl rfl
/-- the minor of the columns y lies there -/
def zMs (m : zMem) (f : Int → Int) (y sp : Int) : Prop := (-1 ≤ m 52 y ∧ m 52 y ≤ zbits y * sp ∧ m 52 y ≤ 32) ∧ (∀ d : Int, 0 ≤ d → d ≤ m 52 y → m 51 (33 * y + d) = f d) ∧ ∀ d : Int, m 52 y < d → d < 41 → f d = 0
/-- the table lies there: cells by row, column, power -/
def zTc (m : zMem) (sz : Int) (cell : Int → Int → Int → Int) : Prop := ∀ r c k : Int, 0 ≤ r ∧ r < sz → 0 ≤ c ∧ c < sz → 0 ≤ k ∧ k < 9 → m 50 ((r * 8 + c) * 9 + k) = cell r c k
def zg2 (m : zMem) (y : Int) : Int → Int := fun b => if b ≤ m 52 y then m 51 (33 * y + b) else 0

set_option maxRecDepth 100000 in
set_option maxHeartbeats 4000000 in
theorem sp_X9_addMultiple {l : Launch} {L : Nat} {mem : zMem} {Q : zQ} (B RE : Int) (tg : Int) (ce : Int) (re : Int) (sg : Int) (hre : 0 ≤ re ∧ re < 256) (htg : 33 * re + 33 ≤ tg ∧ tg ≤ 8415) (hce : 0 ≤ ce ∧ ce ≤ 567) (hsg : sg = 1 ∨ sg = -1) (hsp : 0 ≤ mem 48 5 ∧ mem 48 5 ≤ 8) (htp : -1 ≤ mem 52 re ∧ mem 52 re + mem 48 5 ≤ RE ∧ RE ≤ 32) (hfr : ∀ x : Int, 0 ≤ x → x ≤ mem 48 5 → 0 ≤ mem 50 (ce + x) ∧ mem 50 (ce + x) ≤ 31) (hgr : ∀ x : Int, 0 ≤ x → x ≤ mem 52 re → 0 ≤ mem 51 (33 * re + x) ∧ mem 51 (33 * re + x) ≤ 31) (hB : 0 ≤ B ∧ B ≤ 1000000 ∧ ∀ x : Int, 0 ≤ x → x ≤ RE → -B ≤ mem 51 (tg + x) ∧ mem 51 (tg + x) ≤ B) (k : ∀ (mem2 : zMem), (∀ x : Int, 0 ≤ x → x ≤ RE → mem2 51 (tg + x) = mem 51 (tg + x) + sg * zcn (fun x => mem 50 (ce + x)) (zg2 mem re) x (mem 48 5 + 1).toNat) → ((∀ a : Nat, a ≠ 51 → mem2 a = mem a) ∧ ∀ y : Int, (y < tg ∨ tg + 33 ≤ y) → mem2 51 y = mem 51 y) → Q none (zS L) mem2) : zw_Ok l mm_X9_addMultiple [zR 48, zI tg, zI ce, zI re, zI sg] (zS L) mem Q := by
  refine zw_okA (fun hA => ?_)
  have rg_tg : -2147483648 ≤ tg ∧ tg < 2147483648 := hA.2.1
  have rg_ce : -2147483648 ≤ ce ∧ ce < 2147483648 := hA.2.2.1
  have rg_re : -2147483648 ≤ re ∧ re < 2147483648 := hA.2.2.2.1
  have rg_sg : -2147483648 ≤ sg ∧ sg < 2147483648 := hA.2.2.2.2.1
  refine zw_enter (by decide) (Nat.le_of_ble_eq_true rfl) rfl ?_
  show zw_Wp l mm_X9_addMultiple (zS L) 0 [some (zR 48), some (zI tg), some (zI ce), some (zI re), some (zI sg), none, none, none, none, none] [] mem 0 0 Q
  refine wp_bipush dd_X9_addMultiple_0 (by decide) ?_
  refine wp_iload_n dd_X9_addMultiple_2 rfl ?_
  refine wp_imulC dd_X9_addMultiple_3 (by omega) ?_
  refine wp_istore (ls2 := [some (zR 48), some (zI tg), some (zI ce), some (zI re), some (zI sg), some (zI (33 * re)), none, none, none, none]) dd_X9_addMultiple_4 rfl (by decide) rfl ?_
  refine wp_aload_n dd_X9_addMultiple_6 rfl ?_
  refine wp_getR dd_X9_addMultiple_7 gf_X9_21 rfl kk_48 (by decide) (zlt rfl) rr_48_3 ?_
  refine wp_iload_n dd_X9_addMultiple_10 rfl ?_
  refine wp_iald dd_X9_addMultiple_11 kk_52 (zlt rfl) (by omega) (by omega) ?_
  refine wp_istore (ls2 := [some (zR 48), some (zI tg), some (zI ce), some (zI re), some (zI sg), some (zI (33 * re)), some (zI (mem 52 re)), none, none, none]) dd_X9_addMultiple_12 rfl (by decide) rfl ?_
  refine wp_iconst dd_X9_addMultiple_14 (zr_lit rfl) ?_
  refine wp_istore (ls2 := [some (zR 48), some (zI tg), some (zI ce), some (zI re), some (zI sg), some (zI (33 * re)), some (zI (mem 52 re)), some (zI 0), none, none]) dd_X9_addMultiple_15 rfl (by decide) rfl ?_
  have lp17 : ∀ (nf : Nat) (a : Int) (mm : zMem), (0 ≤ a) → (a ≤ mem 48 5 + 1) → (∀ x : Int, 0 ≤ x → x ≤ RE → mm 51 (tg + x) = mem 51 (tg + x) + sg * zcn (fun x => mem 50 (ce + x)) (zg2 mem re) x a.toNat) → (∀ a : Nat, a ≠ 51 → mm a = mem a) → (∀ y : Int, (y < tg ∨ tg + 33 ≤ y) → mm 51 y = mem 51 y) → (∀ x : Int, 0 ≤ x → x ≤ RE → -(B + 961 * a) ≤ mm 51 (tg + x) ∧ mm 51 (tg + x) ≤ B + 961 * a) → (mem 48 5 + 1 - a) < (nf : Int) → zw_Wp l mm_X9_addMultiple (zS L) 17 [some (zR 48), some (zI tg), some (zI ce), some (zI re), some (zI sg), some (zI (33 * re)), some (zI (mem 52 re)), some (zI a), none, none] [] mm 0 0 Q := by
    intro nf
    induction nf with
    | zero =>
      intro a mm a0 a1 h2 h3 h4 hW hmu
      exfalso; omega
    | succ nf ih17 =>
      intro a mm a0 a1 h2 h3 h4 hW hmu
      have m5 : mm 48 5 = mem 48 5 := by rw [h3 48 (by decide)]
      have hm50 : mm 50 (ce + a) = mem 50 (ce + a) := by rw [h3 50 (by decide)]
      have hfa : a ≤ mem 48 5 → 0 ≤ mm 50 (ce + a) ∧ mm 50 (ce + a) ≤ 31 := fun q => by rw [hm50]; exact hfr a a0 q
      have hsf : sg * mm 50 (ce + a) = mm 50 (ce + a) ∨ sg * mm 50 (ce + a) = - mm 50 (ce + a) := by
        rcases hsg with rfl | rfl
        · exact Or.inl (Int.one_mul _)
        · exact Or.inr (by rw [Int.neg_mul, Int.one_mul])
      refine wp_iload dd_X9_addMultiple_17 rfl ?_
      refine wp_aload_n dd_X9_addMultiple_19 rfl ?_
      refine wp_getZ 5 rfl dd_X9_addMultiple_20 gf_X9_43 rfl kk_48 (by decide) (zlt rfl) ?_
      refine wp_icmp_gt (tgt := 98) dd_X9_addMultiple_23 (by decide) (fun c23_1 => ?_) (fun c23_1 => ?_)
      · skip
        refine wp_return (st := []) dd_X9_addMultiple_98 rfl ?_
        exact k mm (fun x q1 q2 => by rw [h2 x q1 q2, show a = mem 48 5 + 1 by omega]) ⟨h3, h4⟩
      · skip
        refine wp_iload dd_X9_addMultiple_26 rfl ?_
        refine wp_aload_n dd_X9_addMultiple_28 rfl ?_
        refine wp_getR dd_X9_addMultiple_29 gf_X9_15 rfl kk_48 (by decide) (zlt rfl) rr_48_1 ?_
        refine wp_iload_n dd_X9_addMultiple_32 rfl ?_
        refine wp_iload dd_X9_addMultiple_33 rfl ?_
        refine wp_iaddC dd_X9_addMultiple_35 (by omega) ?_
        refine wp_iald dd_X9_addMultiple_36 kk_50 (zlt rfl) (by omega) (by omega) ?_
        refine wp_imulC dd_X9_addMultiple_37 (by omega) ?_
        refine wp_istore (ls2 := [some (zR 48), some (zI tg), some (zI ce), some (zI re), some (zI sg), some (zI (33 * re)), some (zI (mem 52 re)), some (zI a), some (zI (sg * (mm 50 (ce + a)))), none]) dd_X9_addMultiple_38 rfl (by decide) rfl ?_
        refine wp_iload dd_X9_addMultiple_40 rfl ?_
        refine wp_if_ne (tgt := 48) dd_X9_addMultiple_42 (by decide) (fun c42_2 => ?_) (fun c42_2 => ?_)
        · skip
          refine wp_iconst dd_X9_addMultiple_48 (zr_lit rfl) ?_
          refine wp_istore (ls2 := [some (zR 48), some (zI tg), some (zI ce), some (zI re), some (zI sg), some (zI (33 * re)), some (zI (mem 52 re)), some (zI a), some (zI (sg * (mm 50 (ce + a)))), some (zI 0)]) dd_X9_addMultiple_49 rfl (by decide) rfl ?_
          have lp51 : ∀ (nf : Nat) (b : Int) (mn : zMem), (0 ≤ b) → (b ≤ mem 52 re + 1) → (∀ x : Int, 0 ≤ x → x ≤ RE → mn 51 (tg + x) = mem 51 (tg + x) + sg * zcn (fun x => mem 50 (ce + x)) (zg2 mem re) x a.toNat + (if a ≤ x ∧ x < a + b then sg * mm 50 (ce + a) * mem 51 (33 * re + (x - a)) else 0)) → (∀ a : Nat, a ≠ 51 → mn a = mem a) → (∀ y : Int, (y < tg ∨ tg + 33 ≤ y) → mn 51 y = mem 51 y) → (∀ x : Int, 0 ≤ x → x ≤ RE → -(B + 961 * a + (if a ≤ x ∧ x < a + b then 961 else 0)) ≤ mn 51 (tg + x) ∧ mn 51 (tg + x) ≤ B + 961 * a + (if a ≤ x ∧ x < a + b then 961 else 0)) → (mem 52 re + 1 - b) < (nf : Int) → zw_Wp l mm_X9_addMultiple (zS L) 51 [some (zR 48), some (zI tg), some (zI ce), some (zI re), some (zI sg), some (zI (33 * re)), some (zI (mem 52 re)), some (zI a), some (zI (sg * (mm 50 (ce + a)))), some (zI b)] [] mn 0 0 Q := by
            intro nf
            induction nf with
            | zero =>
              intro b mn b0 b1 k2 h3 h4 kW hmu
              exfalso; omega
            | succ nf ih51 =>
              intro b mn b0 b1 k2 h3 h4 kW hmu
              have hgb : b ≤ mem 52 re → mn 51 (33 * re + b) = mem 51 (33 * re + b) := fun q => h4 _ (by omega)
              have hfa9 := hfa (by omega)
              refine wp_iload dd_X9_addMultiple_51 rfl ?_
              refine wp_iload dd_X9_addMultiple_53 rfl ?_
              refine wp_icmp_gt (tgt := 92) dd_X9_addMultiple_55 (by decide) (fun c55_3 => ?_) (fun c55_3 => ?_)
              · skip
                refine wp_iincC (ls2 := [some (zR 48), some (zI tg), some (zI ce), some (zI re), some (zI sg), some (zI (33 * re)), some (zI (mem 52 re)), some (zI (a + 1)), some (zI (sg * (mm 50 (ce + a)))), some (zI b)]) dd_X9_addMultiple_92 rfl rfl (by decide) (by omega) rfl ?_
                refine wp_goto (tgt := 17) dd_X9_addMultiple_95 (by decide) ?_
                refine wp_ls (zw_sub_of (a := [some (zR 48), some (zI tg), some (zI ce), some (zI re), some (zI sg), some (zI (33 * re)), some (zI (mem 52 re)), some (zI (a + 1)), none, none]) (And.intro rfl (And.intro rfl (And.intro rfl (And.intro rfl (And.intro rfl (And.intro rfl (And.intro rfl (And.intro rfl (trivial)))))))))) ?_
                refine ih17 (a + 1) mn ?_ ?_ ?_ ?_ ?_ ?_ ?_
                · first | omega | assumption | (intros; omega)
                · first | omega | assumption | (intros; omega)
                · intro x q1 q2
                  first
                  | (rw [h2 x q1 q2, show (a + 1).toNat = a.toNat + 1 by omega, zcn, show ((a.toNat : Nat) : Int) = a by omega, show mem 50 (ce + a) = 0 from hz0, Int.zero_mul, Int.add_zero])
                  | (rw [k2 x q1 q2, show (a + 1).toNat = a.toNat + 1 by omega, zcn, show ((a.toNat : Nat) : Int) = a by omega]
                     by_cases q : a ≤ x ∧ x < a + b
                     · rw [if_pos q, if_pos q.1]
                       unfold zg2
                       rw [if_pos (show x - a ≤ mem 52 re by omega), hm50]
                       rcases hsg with rfl | rfl
                       · grind
                       · grind
                     · rw [if_neg q]
                       by_cases q3 : a ≤ x
                       · rw [if_pos q3]
                         unfold zg2
                         rw [if_neg (show ¬ x - a ≤ mem 52 re by omega)]
                         grind
                       · rw [if_neg q3]
                         grind)
                · first | omega | assumption | (intros; omega)
                · first | omega | assumption | (intros; omega)
                · intro x q1 q2
                  first
                  | (have w9 := kW x q1 q2; omega)
                  | (have w9 := hW x q1 q2; omega)
                · omega
              · skip
                have hgb := hgb (by omega)
                have hgr9 := hgr b (by omega) (by omega)
                rw [← hgb] at hgr9
                have hW9 := kW (a + b) (by omega) (by omega)
                rw [if_neg (by omega), show tg + (a + b) = tg + a + b by omega] at hW9
                have hpm := zmul_rg (a := mm 50 (ce + a)) (b := mn 51 (33 * re + b)) (A := 31) (B := 31) (by omega) (by omega) (by omega) (by omega)
                have hpn : sg * mm 50 (ce + a) * mn 51 (33 * re + b) = mm 50 (ce + a) * mn 51 (33 * re + b) ∨ sg * mm 50 (ce + a) * mn 51 (33 * re + b) = - (mm 50 (ce + a) * mn 51 (33 * re + b)) := by
                  rcases hsf with q | q
                  · exact Or.inl (by rw [q])
                  · exact Or.inr (by rw [q, Int.neg_mul])
                refine wp_aload_n dd_X9_addMultiple_58 rfl ?_
                refine wp_getR dd_X9_addMultiple_59 gf_X9_18 rfl kk_48 (by decide) (zlt rfl) rr_48_2 ?_
                refine wp_iload_n dd_X9_addMultiple_62 rfl ?_
                refine wp_iload dd_X9_addMultiple_63 rfl ?_
                refine wp_iaddC dd_X9_addMultiple_65 (by omega) ?_
                refine wp_iload dd_X9_addMultiple_66 rfl ?_
                refine wp_iaddC dd_X9_addMultiple_68 (by omega) ?_
                refine wp_dup2 dd_X9_addMultiple_69 rfl rfl ?_
                refine wp_iald dd_X9_addMultiple_70 kk_51 (zlt rfl) (by omega) (by omega) ?_
                refine wp_iload dd_X9_addMultiple_71 rfl ?_
                refine wp_aload_n dd_X9_addMultiple_73 rfl ?_
                refine wp_getR dd_X9_addMultiple_74 gf_X9_18 rfl kk_48 (by decide) (zlt rfl) rr_48_2 ?_
                refine wp_iload dd_X9_addMultiple_77 rfl ?_
                refine wp_iload dd_X9_addMultiple_79 rfl ?_
                refine wp_iaddC dd_X9_addMultiple_81 (by omega) ?_
                refine wp_iald dd_X9_addMultiple_82 kk_51 (zlt rfl) (by omega) (by omega) ?_
                refine wp_imulC dd_X9_addMultiple_83 (by omega) ?_
                refine wp_iaddC dd_X9_addMultiple_84 (by omega) ?_
                refine wp_iast dd_X9_addMultiple_85 kk_51 (zlt rfl) (by omega) (by omega) ?_
                refine wp_iincC (ls2 := [some (zR 48), some (zI tg), some (zI ce), some (zI re), some (zI sg), some (zI (33 * re)), some (zI (mem 52 re)), some (zI a), some (zI (sg * (mm 50 (ce + a)))), some (zI (b + 1))]) dd_X9_addMultiple_86 rfl rfl (by decide) (by omega) rfl ?_
                refine wp_goto (tgt := 51) dd_X9_addMultiple_89 (by decide) ?_
                refine ih51 (b + 1) (zu mn 51 ((tg + a) + b) ((mn 51 ((tg + a) + b)) + ((sg * (mm 50 (ce + a))) * (mn 51 ((33 * re) + b))))) ?_ ?_ ?_ ?_ ?_ ?_ ?_
                · first | omega | assumption | (intros; omega)
                · first | omega | assumption | (intros; omega)
                · intro x q1 q2
                  by_cases hx : x = a + b
                  · rw [hx, show tg + (a + b) = tg + a + b by omega, zu_s, show tg + a + b = tg + (a + b) by omega, k2 (a + b) (by omega) (by omega), if_neg (by omega), if_pos (by omega), show a + b - a = b by omega, hgb]
                    omega
                  · rw [zu_n (Or.inr (by omega)), k2 x q1 q2]
                    by_cases q : a ≤ x ∧ x < a + b
                    · rw [if_pos q, if_pos (by omega)]
                    · rw [if_neg q, if_neg (by omega)]
                · intro q hq; rw [zu_row hq]; exact h3 q hq
                · intro y hy; rw [zu_n (Or.inr (by omega))]; exact h4 y hy
                · intro x q1 q2
                  by_cases hx : x = a + b
                  · rw [hx, show tg + (a + b) = tg + a + b by omega, zu_s, if_pos (by omega)]
                    omega
                  · rw [zu_n (Or.inr (by omega))]
                    have w9 := kW x q1 q2
                    omega
                · omega
          refine lp51 ((mem 52 re + 1 - 0 : Int)).toNat.succ 0 mm ?_ ?_ ?_ ?_ ?_ ?_ ?_
          · first | omega | assumption | (intros; omega)
          · first | omega | assumption | (intros; omega)
          · intro x q1 q2; rw [h2 x q1 q2, if_neg (by omega)]; omega
          · first | omega | assumption | (intros; omega)
          · first | omega | assumption | (intros; omega)
          · intro x q1 q2; have := hW x q1 q2; omega
          · omega
        · skip
          have hz0 : mem 50 (ce + a) = 0 := by omega
          refine wp_goto (tgt := 92) dd_X9_addMultiple_45 (by decide) ?_
          refine wp_iincC (ls2 := [some (zR 48), some (zI tg), some (zI ce), some (zI re), some (zI sg), some (zI (33 * re)), some (zI (mem 52 re)), some (zI (a + 1)), some (zI (sg * (mm 50 (ce + a)))), none]) dd_X9_addMultiple_92 rfl rfl (by decide) (by omega) rfl ?_
          refine wp_goto (tgt := 17) dd_X9_addMultiple_95 (by decide) ?_
          refine wp_ls (zw_sub_of (a := [some (zR 48), some (zI tg), some (zI ce), some (zI re), some (zI sg), some (zI (33 * re)), some (zI (mem 52 re)), some (zI (a + 1)), none, none]) (And.intro rfl (And.intro rfl (And.intro rfl (And.intro rfl (And.intro rfl (And.intro rfl (And.intro rfl (And.intro rfl (trivial)))))))))) ?_
          refine ih17 (a + 1) mm ?_ ?_ ?_ ?_ ?_ ?_ ?_
          · first | omega | assumption | (intros; omega)
          · first | omega | assumption | (intros; omega)
          · intro x q1 q2
            first
            | (rw [h2 x q1 q2, show (a + 1).toNat = a.toNat + 1 by omega, zcn, show ((a.toNat : Nat) : Int) = a by omega, show mem 50 (ce + a) = 0 from hz0, Int.zero_mul, Int.add_zero])
            | (rw [k2 x q1 q2, show (a + 1).toNat = a.toNat + 1 by omega, zcn, show ((a.toNat : Nat) : Int) = a by omega]
               by_cases q : a ≤ x ∧ x < a + b
               · rw [if_pos q, if_pos q.1]
                 unfold zg2
                 rw [if_pos (show x - a ≤ mem 52 re by omega), hm50]
                 rcases hsg with rfl | rfl
                 · grind
                 · grind
               · rw [if_neg q]
                 by_cases q3 : a ≤ x
                 · rw [if_pos q3]
                   unfold zg2
                   rw [if_neg (show ¬ x - a ≤ mem 52 re by omega)]
                   grind
                 · rw [if_neg q3]
                   grind)
          · first | omega | assumption | (intros; omega)
          · first | omega | assumption | (intros; omega)
          · intro x q1 q2
            first
            | (have w9 := kW x q1 q2; omega)
            | (have w9 := hW x q1 q2; omega)
          · omega
  refine lp17 ((mem 48 5 + 1 - 0 : Int)).toNat.succ 0 mem ?_ ?_ ?_ ?_ ?_ ?_ ?_
  · first | omega | assumption | (intros; omega)
  · first | omega | assumption | (intros; omega)
  · intro x q1 q2; show _ = _ + sg * 0; omega
  · intros; rfl
  · intros; rfl
  · intro x q1 q2; have := hB.2.2 x q1 q2; omega
  · omega


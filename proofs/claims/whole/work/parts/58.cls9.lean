/-! ===== the class: values and roots ===== -/
theorem zhr_5 (f : Int → Int) (v p : Int) : zhr f v p 5 5 = (f 0 + f 1 * v + f 2 * (v * v) + f 3 * (v * v * v) + f 4 * (v * v * v * v)) % p := by
  have h1 : zhr f v p 5 1 = f 4 % p := by
    show (0 * v + f (5 - 1 - 0)) % p = _
    rw [Int.zero_mul, Int.zero_add]; rfl
  have h2 : zhr f v p 5 2 = (f 3 + f 4 * v) % p := by
    show (zhr f v p 5 1 * v + f (5 - 1 - 1)) % p = _
    rw [h1, Int.add_emod, zm_mul, ← Int.add_emod, Int.add_comm]; rfl
  have h3 : zhr f v p 5 3 = (f 2 + f 3 * v + f 4 * (v * v)) % p := by
    show (zhr f v p 5 2 * v + f (5 - 1 - 2)) % p = _
    rw [h2, Int.add_emod, zm_mul, ← Int.add_emod]
    congr 1
    show (f 3 + f 4 * v) * v + f 2 = _
    grind
  have h4 : zhr f v p 5 4 = (f 1 + f 2 * v + f 3 * (v * v) + f 4 * (v * v * v)) % p := by
    show (zhr f v p 5 3 * v + f (5 - 1 - 3)) % p = _
    rw [h3, Int.add_emod, zm_mul, ← Int.add_emod]
    congr 1
    show (f 2 + f 3 * v + f 4 * (v * v)) * v + f 1 = _
    grind
  show (zhr f v p 5 4 * v + f (5 - 1 - 4)) % p = _
  rw [h4, Int.add_emod, zm_mul, ← Int.add_emod]
  congr 1
  show (f 1 + f 2 * v + f 3 * (v * v) + f 4 * (v * v * v)) * v + f 0 = _
  grind
/-- the same without remainders -/
def zvt (c : Int → Int) (x y : Int) : Nat → Int
  | 0 => 0
  | t + 1 => zvt c x y t + c t * x ^ ((t : Int) / 5).toNat * y ^ ((t : Int) % 5).toNat
theorem zvs_t {c : Int → Int} {x y p : Int} : ∀ t : Nat, zvs c x y p t = zvt c x y t % p
  | 0 => (Int.zero_emod p).symm
  | t + 1 => by
    rw [zvs, zvt, zvs_t t, Int.emod_add_emod, Int.add_emod, zm_mul2, zm_mul, Int.mul_assoc, Int.mul_comm (x ^ _ % p), ← Int.mul_assoc, zm_mul2, ← Int.add_emod]
    congr 2
    grind
theorem zvt_5 (c : Int → Int) (x y : Int) (i : Nat) : zvt c x y (5 * i + 5) = zvt c x y (5 * i) + (c (5 * i) + c (5 * i + 1) * y + c (5 * i + 2) * (y * y) + c (5 * i + 3) * (y * y * y) + c (5 * i + 4) * (y * y * y * y)) * x ^ i := by
  show zvt c x y (5 * i + 4 + 1) = _
  rw [zvt]
  show zvt c x y (5 * i + 3 + 1) + _ = _
  rw [zvt]
  show zvt c x y (5 * i + 2 + 1) + _ + _ = _
  rw [zvt]
  show zvt c x y (5 * i + 1 + 1) + _ + _ + _ = _
  rw [zvt]
  show zvt c x y (5 * i + 0 + 1) + _ + _ + _ + _ = _
  rw [zvt]
  have a4 : (((5 * i + 4 : Nat) : Int) / 5).toNat = i ∧ (((5 * i + 4 : Nat) : Int) % 5).toNat = 4 := by omega
  have a3 : (((5 * i + 3 : Nat) : Int) / 5).toNat = i ∧ (((5 * i + 3 : Nat) : Int) % 5).toNat = 3 := by omega
  have a2 : (((5 * i + 2 : Nat) : Int) / 5).toNat = i ∧ (((5 * i + 2 : Nat) : Int) % 5).toNat = 2 := by omega
  have a1 : (((5 * i + 1 : Nat) : Int) / 5).toNat = i ∧ (((5 * i + 1 : Nat) : Int) % 5).toNat = 1 := by omega
  have a0 : (((5 * i : Nat) : Int) / 5).toNat = i ∧ (((5 * i : Nat) : Int) % 5).toNat = 0 := by omega
  rw [a4.1, a4.2, a3.1, a3.2, a2.1, a2.2, a1.1, a1.2, a0.1, a0.2]
  have b4 : ((5 * i + 4 : Nat) : Int) = 5 * i + 4 := by omega
  have b3 : ((5 * i + 3 : Nat) : Int) = 5 * i + 3 := by omega
  have b2 : ((5 * i + 2 : Nat) : Int) = 5 * i + 2 := by omega
  have b1 : ((5 * i + 1 : Nat) : Int) = 5 * i + 1 := by omega
  have b0 : ((5 * i : Nat) : Int) = 5 * i := by omega
  rw [b4, b3, b2, b1, b0]
  generalize c (5 * (i : Int) + 4) = c4
  generalize c (5 * (i : Int) + 3) = c3
  generalize c (5 * (i : Int) + 2) = c2
  generalize c (5 * (i : Int) + 1) = c1
  generalize c (5 * (i : Int)) = c0
  show zvt c x y (5 * i) + _ + _ + _ + _ + _ = _
  generalize zvt c x y (5 * i) = z
  generalize x ^ i = w
  grind
theorem zrow_v {c row : Int → Int} {x y p : Int} (h : ∀ a : Int, 0 ≤ a → a < 5 → row a = zhr (fun b => zpt c 1 a b) x p 5 5) : zhr row y p 5 5 = zvs c x y p 25 := by
  have hr : ∀ a : Int, 0 ≤ a → a < 5 → row a = (c (0 + a) + c (5 + a) * x + c (10 + a) * (x * x) + c (15 + a) * (x * x * x) + c (20 + a) * (x * x * x * x)) % p := by
    intro a q1 q2
    rw [h a q1 q2, zhr_5]
    have z : ∀ b : Int, 0 ≤ b → b ≤ 4 → zpt c 1 a b = c (5 * b + a) := fun b q3 q4 => by
      unfold zpt
      rw [if_pos (by omega), if_neg (by decide)]
    rw [z 0 (by decide) (by decide), z 1 (by decide) (by decide), z 2 (by decide) (by decide), z 3 (by decide) (by decide), z 4 (by decide) (by decide)]
    rfl
  rw [zhr_5, hr 0 (by decide) (by decide), hr 1 (by decide) (by decide), hr 2 (by decide) (by decide), hr 3 (by decide) (by decide), hr 4 (by decide) (by decide), zvs_t]
  have m : ∀ (a b c2 d e s t u w : Int), (a % p + b % p * s + c2 % p * t + d % p * u + e % p * w) % p = (a + b * s + c2 * t + d * u + e * w) % p := by
    intro a b c2 d e s t u w
    rw [Int.add_emod, zm_mul, ← Int.add_emod]
    rw [show a % p + b % p * s + c2 % p * t + d % p * u + e * w = (a % p + b % p * s + c2 % p * t + e * w) + d % p * u by omega, Int.add_emod, zm_mul, ← Int.add_emod]
    rw [show a % p + b % p * s + c2 % p * t + e * w + d * u = (a % p + b % p * s + e * w + d * u) + c2 % p * t by omega, Int.add_emod, zm_mul, ← Int.add_emod]
    rw [show a % p + b % p * s + e * w + d * u + c2 * t = (a % p + e * w + d * u + c2 * t) + b % p * s by omega, Int.add_emod, zm_mul, ← Int.add_emod]
    rw [show a % p + e * w + d * u + c2 * t + b * s = a % p + (e * w + d * u + c2 * t + b * s) by omega, Int.emod_add_emod]
    congr 1
    omega
  rw [m]
  congr 1
  rw [show (25 : Nat) = 5 * 4 + 5 from rfl, zvt_5, show (5 * 4 : Nat) = 5 * 3 + 5 from rfl, zvt_5, show (5 * 3 : Nat) = 5 * 2 + 5 from rfl, zvt_5, show (5 * 2 : Nat) = 5 * 1 + 5 from rfl, zvt_5, show (5 * 1 : Nat) = 5 * 0 + 5 from rfl, zvt_5]
  show _ = 0 + (c 0 + c 1 * y + c 2 * (y * y) + c 3 * (y * y * y) + c 4 * (y * y * y * y)) * x ^ 0 + (c 5 + c 6 * y + c 7 * (y * y) + c 8 * (y * y * y) + c 9 * (y * y * y * y)) * x ^ 1 + (c 10 + c 11 * y + c 12 * (y * y) + c 13 * (y * y * y) + c 14 * (y * y * y * y)) * x ^ 2 + (c 15 + c 16 * y + c 17 * (y * y) + c 18 * (y * y * y) + c 19 * (y * y * y * y)) * x ^ 3 + (c 20 + c 21 * y + c 22 * (y * y) + c 23 * (y * y * y) + c 24 * (y * y * y * y)) * x ^ 4
  show (c 0 + c 5 * x + c 10 * (x * x) + c 15 * (x * x * x) + c 20 * (x * x * x * x)) + (c 1 + c 6 * x + c 11 * (x * x) + c 16 * (x * x * x) + c 21 * (x * x * x * x)) * y + (c 2 + c 7 * x + c 12 * (x * x) + c 17 * (x * x * x) + c 22 * (x * x * x * x)) * (y * y) + (c 3 + c 8 * x + c 13 * (x * x) + c 18 * (x * x * x) + c 23 * (x * x * x * x)) * (y * y * y) + (c 4 + c 9 * x + c 14 * (x * x) + c 19 * (x * x * x) + c 24 * (x * x * x * x)) * (y * y * y * y) = _
  generalize c 0 = c0, c 1 = c1, c 2 = c2, c 3 = c3, c 4 = c4, c 5 = c5, c 6 = c6, c 7 = c7, c 8 = c8, c 9 = c9, c 10 = c10, c 11 = c11, c 12 = c12, c 13 = c13, c 14 = c14, c 15 = c15, c 16 = c16, c 17 = c17, c 18 = c18, c 19 = c19, c 20 = c20, c 21 = c21, c 22 = c22, c 23 = c23, c 24 = c24
  grind

set_option maxRecDepth 100000 in
set_option maxHeartbeats 4000000 in
theorem sp_X7_valueOf {l : Launch} {L : Nat} {mem : zMem} {Q : zQ} (c : Int → Int) (o : Nat) (x : Int) (y : Int) (p : Int) (ho : zP o) (hc : zRw mem o c) (hp : 2 ≤ p ∧ p ≤ 31) (hx : 0 ≤ x ∧ x ≤ 31) (hy : 0 ≤ y ∧ y ≤ 31) (hcr : ∀ t : Int, 0 ≤ t → t < 25 → 0 ≤ c t ∧ c t < p) (k : ∀ (mem2 : zMem), (∀ a : Nat, a ≠ 61 → mem2 a = mem a) → Q (some (zI (zvs c x y p 25))) (zS L) mem2) : zw_Ok l mm_X7_valueOf [zR 60, zR o, zI x, zI y, zI p] (zS L) mem Q := by
  refine zw_okA (fun hA => ?_)
  have rg_x : -2147483648 ≤ x ∧ x < 2147483648 := hA.2.2.1
  have rg_y : -2147483648 ≤ y ∧ y < 2147483648 := hA.2.2.2.1
  have rg_p : -2147483648 ≤ p ∧ p < 2147483648 := hA.2.2.2.2.1
  refine zw_enter (by decide) (Nat.le_of_ble_eq_true rfl) rfl ?_
  show zw_Wp l mm_X7_valueOf (zS L) 0 [some (zR 60), some (zR o), some (zI x), some (zI y), some (zI p)] [] mem 0 0 Q
  have o50 := ho.lt
  refine wp_aload_n dd_X7_valueOf_0 rfl ?_
  refine wp_iconst dd_X7_valueOf_1 (zr_lit rfl) ?_
  refine wp_iload_n dd_X7_valueOf_2 rfl ?_
  refine wp_iload dd_X7_valueOf_3 rfl ?_
  refine wp_aload_n dd_X7_valueOf_5 rfl ?_
  refine wp_getR dd_X7_valueOf_6 gf_X7_9 rfl kk_60 (by decide) (zlt rfl) rr_60_5 ?_
  refine wp_callV (M' := mm_X4_reduceAt) (As := [zI 1, zI x, zI p, zR 61]) (rest := []) dd_X7_valueOf_9 lk_X7_34 mV_X4_reduceAt ho.k ho.i ⟨_, _, rfl⟩ rfl (by decide) (by decide) (Nat.le_of_ble_eq_true rfl) rfl (sp_X4_reduceAt  o 1 x p 61 ho kk_61 (zlt rfl) (by omega) hp hx (fun t q1 q2 => by rw [hc t q1 q2]; exact hcr t q1 q2) (fun me fe ge => ?_))
  show zw_Wp l mm_X7_valueOf (zS L) 12 [some (zR 60), some (zR o), some (zI x), some (zI y), some (zI p)] [] me 0 0 Q
  refine wp_aload_n dd_X7_valueOf_12 rfl ?_
  refine wp_getR dd_X7_valueOf_13 gf_X7_9 rfl kk_60 (by decide) (zlt rfl) rr_60_5 ?_
  refine wp_iload_n dd_X7_valueOf_16 rfl ?_
  refine wp_iload dd_X7_valueOf_17 rfl ?_
  refine wp_callS (M' := mm_X2_valueAt) (As := [zR 61, zI y, zI p]) (rest := []) dd_X7_valueOf_19 lk_X7_40 mS_X2_valueAt rfl (by decide) (by decide) (Nat.le_of_ble_eq_true rfl) rfl (sp_X2_valueAt  61 y p kk_61 (zlt rfl) (by decide) hp hy (fun j q1 q2 => by rw [fe j q1 q2]; have := zhr_rg (f := fun b => zpt (mem (o + 2)) 1 j b) (v := x) (p := p) (n := 5) (by omega) 5; omega) ?_)
  show zw_Wp l mm_X7_valueOf (zS L) 22 [some (zR 60), some (zR o), some (zI x), some (zI y), some (zI p)] [zI (zhr (me 61) y p 5 5)] me 0 0 Q
  refine wp_ireturn (st := []) dd_X7_valueOf_22 rfl ?_
  refine zq_I (zrow_v (fun a q1 q2 => ?_)) rfl (k me ge)
  rw [fe a q1 q2]
  congr 1
  funext b
  exact hc.pt 1 a b

set_option maxRecDepth 100000 in
set_option maxHeartbeats 4000000 in
theorem sp_X7_note {l : Launch} {L : Nat} {mem : zMem} {Q : zQ}  (x : Int) (y : Int) (wd : Int) (hx : 0 ≤ x ∧ x ≤ 30) (hy : 0 ≤ y ∧ y ≤ 30) (h0 : 0 ≤ mem 60 0 ∧ mem 60 0 ≤ 1000) (h1 : 0 ≤ mem 60 1 ∧ mem 60 1 ≤ 1000) (k : ∀ (mem2 : zMem), (mem2 60 0 = mem 60 0 + 1 ∧ mem2 60 1 = mem 60 1 + (if x = 0 ∨ y = 0 then 0 else 1) ∧ mem2 60 2 = (if mem 60 0 = wd then 100 * x + y else mem 60 2) ∧ mem2 60 3 = zbor (mem 60 3) (1 * 2 ^ x.toNat) ∧ mem2 60 4 = zbor (mem 60 4) (1 * 2 ^ y.toNat)) → (∀ a : Nat, a ≠ 60 → mem2 a = mem a) → Q none (zS L) mem2) : zw_Ok l mm_X7_note [zR 60, zI x, zI y, zI wd] (zS L) mem Q := by
  refine zw_okA (fun hA => ?_)
  have rg_x : -2147483648 ≤ x ∧ x < 2147483648 := hA.2.1
  have rg_y : -2147483648 ≤ y ∧ y < 2147483648 := hA.2.2.1
  have rg_wd : -2147483648 ≤ wd ∧ wd < 2147483648 := hA.2.2.2.1
  refine zw_enter (by decide) (Nat.le_of_ble_eq_true rfl) rfl ?_
  show zw_Wp l mm_X7_note (zS L) 0 [some (zR 60), some (zI x), some (zI y), some (zI wd)] [] mem 0 0 Q
  have h2x := z2_le (n := x) hx.1 hx.2
  have h2y := z2_le (n := y) hy.1 hy.2
  have ih18 : ∀ (ma : zMem), (ma 60 2 = if mem 60 0 = wd then 100 * x + y else mem 60 2) → (∀ s : Int, s ≠ 2 → ma 60 s = mem 60 s) → (∀ a : Nat, a ≠ 60 → ma a = mem a) → (0 : Int) < 1 → zw_Wp l mm_X7_note (zS L) 18 [some (zR 60), some (zI x), some (zI y), some (zI wd)] [] ma 0 0 Q := by
    intro ma a2 as aq hone
    have a0 := as 0 (by decide)
    have a1 := as 1 (by decide)
    refine wp_aload_n dd_X7_note_18 rfl ?_
    refine wp_dup dd_X7_note_19 rfl ?_
    refine wp_getZ 0 rfl dd_X7_note_20 gf_X7_18 rfl kk_60 (by decide) (zlt rfl) ?_
    refine wp_iconst dd_X7_note_23 (zr_lit rfl) ?_
    refine wp_iaddC dd_X7_note_24 (by omega) ?_
    refine wp_putzI 0 rfl dd_X7_note_25 pf_X7_18 rfl kk_60 (by decide) (zlt rfl) ?_
    have ih46 : ∀ (mb : zMem), (mb 60 1 = mem 60 1 + if x = 0 ∨ y = 0 then 0 else 1) → (mb 60 0 = mem 60 0 + 1) → (∀ s : Int, s ≠ 0 → s ≠ 1 → mb 60 s = ma 60 s) → (∀ a : Nat, a ≠ 60 → mb a = ma a) → (0 : Int) < 1 → zw_Wp l mm_X7_note (zS L) 46 [some (zR 60), some (zI x), some (zI y), some (zI wd)] [] mb 0 0 Q := by
      intro mb b1 b0 bs bq hone
      have b2 := bs 2 (by decide) (by decide)
      have b3 := bs 3 (by decide) (by decide)
      have b4 := bs 4 (by decide) (by decide)
      have a3 := as 3 (by decide)
      have a4 := as 4 (by decide)
      refine wp_aload_n dd_X7_note_46 rfl ?_
      refine wp_dup dd_X7_note_47 rfl ?_
      refine wp_getZ 3 rfl dd_X7_note_48 gf_X7_28 rfl kk_60 (by decide) (zlt rfl) ?_
      refine wp_iconst dd_X7_note_51 (zr_lit rfl) ?_
      refine wp_iload_n dd_X7_note_52 rfl ?_
      refine wp_ishlP dd_X7_note_53 (by decide) (by omega) h2x.2 ?_
      refine wp_ior dd_X7_note_54 ?_
      refine wp_putzI 3 rfl dd_X7_note_55 pf_X7_28 rfl kk_60 (by decide) (zlt rfl) ?_
      refine wp_aload_n dd_X7_note_58 rfl ?_
      refine wp_dup dd_X7_note_59 rfl ?_
      refine wp_getV 4 (v := mb 60 4) rfl (by rw [zu_n (Or.inr (by decide))]) dd_X7_note_60 gf_X7_31 rfl kk_60 (by decide) (zlt rfl) ?_
      refine wp_iconst dd_X7_note_63 (zr_lit rfl) ?_
      refine wp_iload_n dd_X7_note_64 rfl ?_
      refine wp_ishlP dd_X7_note_65 (by decide) (by omega) h2y.2 ?_
      refine wp_ior dd_X7_note_66 ?_
      refine wp_putzI 4 rfl dd_X7_note_67 pf_X7_31 rfl kk_60 (by decide) (zlt rfl) ?_
      refine wp_return (st := []) dd_X7_note_70 rfl ?_
      refine k _ ⟨?_, ?_, ?_, ?_, ?_⟩ (fun a ha => ?_)
      · rw [zu_n (Or.inr (by decide)), zu_n (Or.inr (by decide))]; exact b0
      · rw [zu_n (Or.inr (by decide)), zu_n (Or.inr (by decide))]; exact b1
      · rw [zu_n (Or.inr (by decide)), zu_n (Or.inr (by decide)), b2]; exact a2
      · rw [zu_n (Or.inr (by decide)), zu_s, b3, a3]; rfl
      · rw [zu_s, b4, a4]; rfl
      · rw [zu_row ha, zu_row ha, bq a ha]; exact aq a ha
    refine wp_iload_n dd_X7_note_28 rfl ?_
    refine wp_if_eq (tgt := 46) dd_X7_note_29 (by decide) (fun c29_1 => ?_) (fun c29_1 => ?_)
    · skip
      refine ih46 (zu ma 60 0 ((ma 60 0) + 1)) ?_ ?_ ?_ ?_ ?_
      · first | (rw [zu_s, zu_n (Or.inr (by decide)), if_neg (by omega), a1]) | (rw [zu_s, if_neg (by omega), a1]) | (rw [zu_n (Or.inr (by decide)), if_pos (by omega), a1]; omega)
      · first | (rw [zu_n (Or.inr (by decide)), zu_s, a0]) | (rw [zu_s, a0])
      · intro s h8 h9; first | (rw [zu_n (Or.inr h9), zu_n (Or.inr h8)]) | (rw [zu_n (Or.inr h8)])
      · intro a ha; first | (rw [zu_row ha, zu_row ha]) | (rw [zu_row ha])
      · omega
    · skip
      refine wp_iload_n dd_X7_note_32 rfl ?_
      refine wp_if_eq (tgt := 46) dd_X7_note_33 (by decide) (fun c33_2 => ?_) (fun c33_2 => ?_)
      · skip
        refine ih46 (zu ma 60 0 ((ma 60 0) + 1)) ?_ ?_ ?_ ?_ ?_
        · first | (rw [zu_s, zu_n (Or.inr (by decide)), if_neg (by omega), a1]) | (rw [zu_s, if_neg (by omega), a1]) | (rw [zu_n (Or.inr (by decide)), if_pos (by omega), a1]; omega)
        · first | (rw [zu_n (Or.inr (by decide)), zu_s, a0]) | (rw [zu_s, a0])
        · intro s h8 h9; first | (rw [zu_n (Or.inr h9), zu_n (Or.inr h8)]) | (rw [zu_n (Or.inr h8)])
        · intro a ha; first | (rw [zu_row ha, zu_row ha]) | (rw [zu_row ha])
        · omega
      · skip
        refine wp_aload_n dd_X7_note_36 rfl ?_
        refine wp_dup dd_X7_note_37 rfl ?_
        refine wp_getV 1 (v := ma 60 1) rfl (by rw [zu_n (Or.inr (by decide))]) dd_X7_note_38 gf_X7_22 rfl kk_60 (by decide) (zlt rfl) ?_
        refine wp_iconst dd_X7_note_41 (zr_lit rfl) ?_
        refine wp_iaddC dd_X7_note_42 (by omega) ?_
        refine wp_putzI 1 rfl dd_X7_note_43 pf_X7_22 rfl kk_60 (by decide) (zlt rfl) ?_
        refine ih46 (zu (zu ma 60 0 ((ma 60 0) + 1)) 60 1 ((ma 60 1) + 1)) ?_ ?_ ?_ ?_ ?_
        · first | (rw [zu_s, zu_n (Or.inr (by decide)), if_neg (by omega), a1]) | (rw [zu_s, if_neg (by omega), a1]) | (rw [zu_n (Or.inr (by decide)), if_pos (by omega), a1]; omega)
        · first | (rw [zu_n (Or.inr (by decide)), zu_s, a0]) | (rw [zu_s, a0])
        · intro s h8 h9; first | (rw [zu_n (Or.inr h9), zu_n (Or.inr h8)]) | (rw [zu_n (Or.inr h8)])
        · intro a ha; first | (rw [zu_row ha, zu_row ha]) | (rw [zu_row ha])
        · omega
  refine wp_aload_n dd_X7_note_0 rfl ?_
  refine wp_getZ 0 rfl dd_X7_note_1 gf_X7_18 rfl kk_60 (by decide) (zlt rfl) ?_
  refine wp_iload_n dd_X7_note_4 rfl ?_
  refine wp_icmp_ne (tgt := 18) dd_X7_note_5 (by decide) (fun c5_3 => ?_) (fun c5_3 => ?_)
  · skip
    refine ih18 mem ?_ ?_ ?_ ?_
    · first | (rw [zu_s, if_pos (by assumption)]) | (rw [if_neg (by assumption)])
    · intro s hs; first | rfl | rw [zu_n (Or.inr hs)]
    · intro a ha; first | rfl | rw [zu_row ha]
    · omega
  · skip
    refine wp_aload_n dd_X7_note_8 rfl ?_
    refine wp_bipush dd_X7_note_9 (by decide) ?_
    refine wp_iload_n dd_X7_note_11 rfl ?_
    refine wp_imulC dd_X7_note_12 (by omega) ?_
    refine wp_iload_n dd_X7_note_13 rfl ?_
    refine wp_iaddC dd_X7_note_14 (by omega) ?_
    refine wp_putzI 2 rfl dd_X7_note_15 pf_X7_25 rfl kk_60 (by decide) (zlt rfl) ?_
    refine ih18 (zu mem 60 2 ((100 * x) + y)) ?_ ?_ ?_ ?_
    · first | (rw [zu_s, if_pos (by assumption)]) | (rw [if_neg (by assumption)])
    · intro s hs; first | rfl | rw [zu_n (Or.inr hs)]
    · intro a ha; first | rfl | rw [zu_row ha]
    · omega

set_option maxRecDepth 100000 in
set_option maxHeartbeats 4000000 in
theorem sp_X7_tryAll {l : Launch} {L : Nat} {mem : zMem} {Q : zQ} (c d : Int → Int) (o : Nat) (r : Nat) (wd : Int) (p : Int) (ho : zP o) (ho2 : zP r) (hc : zRw mem o c) (hd : zRw mem r d) (hp : 2 ≤ p ∧ p ≤ 31) (hcr : ∀ t : Int, 0 ≤ t → t < 25 → 0 ≤ c t ∧ c t < p) (hdr : ∀ t : Int, 0 ≤ t → t < 25 → 0 ≤ d t ∧ d t < p) (k : ∀ (mem2 : zMem), (mem2 60 0 = zcX (zri c d p) p p.toNat ∧ mem2 60 1 = zcX (znz (zri c d p)) p p.toNat ∧ (0 ≤ wd → mem2 60 2 = zRX (zri c d p) p p.toNat wd) ∧ mem2 60 3 = zbX (zri c d p) 1 p p.toNat ∧ mem2 60 4 = zbX (zri c d p) 0 p p.toNat) → (∀ a : Nat, a ≠ 60 → a ≠ 61 → a ≠ 62 → mem2 a = mem a) → Q none (zS L) mem2) : zw_Ok l mm_X7_tryAll [zR 60, zR o, zR r, zI wd, zI p] (zS L) mem Q := by
  refine zw_okA (fun hA => ?_)
  have rg_wd : -2147483648 ≤ wd ∧ wd < 2147483648 := hA.2.2.2.1
  have rg_p : -2147483648 ≤ p ∧ p < 2147483648 := hA.2.2.2.2.1
  refine zw_enter (by decide) (Nat.le_of_ble_eq_true rfl) rfl ?_
  show zw_Wp l mm_X7_tryAll (zS L) 0 [some (zR 60), some (zR o), some (zR r), some (zI wd), some (zI p), none, none] [] mem 0 0 Q
  have o50 := ho.lt
  have r50 := ho2.lt
  have h01 := zri_01 c d p
  have h02 := znz_01 h01
  refine wp_aload_n dd_X7_tryAll_0 rfl ?_
  refine wp_iconst dd_X7_tryAll_1 (zr_lit rfl) ?_
  refine wp_putzI 0 rfl dd_X7_tryAll_2 pf_X7_18 rfl kk_60 (by decide) (zlt rfl) ?_
  refine wp_aload_n dd_X7_tryAll_5 rfl ?_
  refine wp_iconst dd_X7_tryAll_6 (zr_lit rfl) ?_
  refine wp_putzI 1 rfl dd_X7_tryAll_7 pf_X7_22 rfl kk_60 (by decide) (zlt rfl) ?_
  refine wp_aload_n dd_X7_tryAll_10 rfl ?_
  refine wp_bipush dd_X7_tryAll_11 (by decide) ?_
  refine wp_putzI 2 rfl dd_X7_tryAll_13 pf_X7_25 rfl kk_60 (by decide) (zlt rfl) ?_
  refine wp_aload_n dd_X7_tryAll_16 rfl ?_
  refine wp_iconst dd_X7_tryAll_17 (zr_lit rfl) ?_
  refine wp_putzI 3 rfl dd_X7_tryAll_18 pf_X7_28 rfl kk_60 (by decide) (zlt rfl) ?_
  refine wp_aload_n dd_X7_tryAll_21 rfl ?_
  refine wp_iconst dd_X7_tryAll_22 (zr_lit rfl) ?_
  refine wp_putzI 4 rfl dd_X7_tryAll_23 pf_X7_31 rfl kk_60 (by decide) (zlt rfl) ?_
  refine wp_iconst dd_X7_tryAll_26 (zr_lit rfl) ?_
  refine wp_istore (ls2 := [some (zR 60), some (zR o), some (zR r), some (zI wd), some (zI p), some (zI 0), none]) dd_X7_tryAll_27 rfl (by decide) rfl ?_
  have lp29 : ∀ (nf : Nat) (x : Int) (mm : zMem), (0 ≤ x) → (x ≤ p) → (mm 60 0 = zcX (zri c d p) p x.toNat) → (mm 60 1 = zcX (znz (zri c d p)) p x.toNat) → (mm 60 3 = zbX (zri c d p) 1 p x.toNat) → (mm 60 4 = zbX (zri c d p) 0 p x.toNat) → (0 ≤ wd → (mm 60 0 ≤ wd ∧ mm 60 2 = -9 ∧ zRX (zri c d p) p (p - x).toNat (wd - mm 60 0) = zRX (zri c d p) p p.toNat wd) ∨ (wd < mm 60 0 ∧ mm 60 2 = zRX (zri c d p) p p.toNat wd)) → (∀ a : Nat, a ≠ 60 → a ≠ 61 → a ≠ 62 → mm a = mem a) → (p - x) < (nf : Int) → zw_Wp l mm_X7_tryAll (zS L) 29 [some (zR 60), some (zR o), some (zR r), some (zI wd), some (zI p), some (zI x), none] [] mm 0 0 Q := by
    intro nf
    induction nf with
    | zero =>
      intro x mm x0 x1 f0 f1 f3 f4 hZ fr hmu
      exfalso; omega
    | succ nf ih29 =>
      intro x mm x0 x1 f0 f1 f3 f4 hZ fr hmu
      have hcm : zRw mm o c := hc.keep (fr _ (by omega) (by omega) (by omega))
      have hdm : zRw mm r d := hd.keep (fr _ (by omega) (by omega) (by omega))
      refine wp_iload dd_X7_tryAll_29 rfl ?_
      refine wp_iload dd_X7_tryAll_31 rfl ?_
      refine wp_icmp_ge (tgt := 121) dd_X7_tryAll_33 (by decide) (fun c33_1 => ?_) (fun c33_1 => ?_)
      · skip
        refine wp_return (st := []) dd_X7_tryAll_121 rfl ?_
        refine k mm ⟨by rw [f0, show x = p by omega], by rw [f1, show x = p by omega], fun q => ?_, by rw [f3, show x = p by omega], by rw [f4, show x = p by omega]⟩ fr
        rcases hZ q with ⟨q1, q2, q3⟩ | ⟨q1, q2⟩
        · rw [show (p - x).toNat = 0 by omega] at q3
          rw [q2, ← q3]; rfl
        · exact q2
      · skip
        refine wp_aload_n dd_X7_tryAll_36 rfl ?_
        refine wp_iconst dd_X7_tryAll_37 (zr_lit rfl) ?_
        refine wp_iload dd_X7_tryAll_38 rfl ?_
        refine wp_iload dd_X7_tryAll_40 rfl ?_
        refine wp_aload_n dd_X7_tryAll_42 rfl ?_
        refine wp_getR dd_X7_tryAll_43 gf_X7_9 rfl kk_60 (by decide) (zlt rfl) rr_60_5 ?_
        refine wp_callV (M' := mm_X4_reduceAt) (As := [zI 1, zI x, zI p, zR 61]) (rest := []) dd_X7_tryAll_46 lk_X7_34 mV_X4_reduceAt ho.k ho.i ⟨_, _, rfl⟩ rfl (by decide) (by decide) (Nat.le_of_ble_eq_true rfl) rfl (sp_X4_reduceAt  o 1 x p 61 ho kk_61 (zlt rfl) (by omega) hp (by omega) (fun t q1 q2 => by rw [hcm t q1 q2]; exact hcr t q1 q2) (fun me fe ge => ?_))
        show zw_Wp l mm_X7_tryAll (zS L) 49 [some (zR 60), some (zR o), some (zR r), some (zI wd), some (zI p), some (zI x), none] [] me 0 0 Q
        have hde : zRw me r d := hdm.keep (ge _ (by omega))
        refine wp_aload_n dd_X7_tryAll_49 rfl ?_
        refine wp_iconst dd_X7_tryAll_50 (zr_lit rfl) ?_
        refine wp_iload dd_X7_tryAll_51 rfl ?_
        refine wp_iload dd_X7_tryAll_53 rfl ?_
        refine wp_aload_n dd_X7_tryAll_55 rfl ?_
        refine wp_getR dd_X7_tryAll_56 gf_X7_15 rfl kk_60 (by decide) (zlt rfl) rr_60_6 ?_
        refine wp_callV (M' := mm_X4_reduceAt) (As := [zI 1, zI x, zI p, zR 62]) (rest := []) dd_X7_tryAll_59 lk_X7_34 mV_X4_reduceAt ho2.k ho2.i ⟨_, _, rfl⟩ rfl (by decide) (by decide) (Nat.le_of_ble_eq_true rfl) rfl (sp_X4_reduceAt  r 1 x p 62 ho2 kk_62 (zlt rfl) (by omega) hp (by omega) (fun t q1 q2 => by rw [hde t q1 q2]; exact hdr t q1 q2) (fun mf ff gf => ?_))
        show zw_Wp l mm_X7_tryAll (zS L) 62 [some (zR 60), some (zR o), some (zR r), some (zI wd), some (zI p), some (zI x), none] [] mf 0 0 Q
        have R61 : ∀ a : Int, 0 ≤ a → a < 5 → mf 61 a = zhr (fun b => zpt c 1 a b) x p 5 5 := fun a q1 q2 => by
          rw [gf 61 (by decide), fe a q1 q2]; congr 1; funext b; exact hcm.pt 1 a b
        have R62 : ∀ a : Int, 0 ≤ a → a < 5 → mf 62 a = zhr (fun b => zpt d 1 a b) x p 5 5 := fun a q1 q2 => by
          rw [ff a q1 q2]; congr 1; funext b; exact hde.pt 1 a b
        have b60 : mf 60 = mm 60 := by rw [gf 60 (by decide), ge 60 (by decide)]
        refine wp_iconst dd_X7_tryAll_62 (zr_lit rfl) ?_
        refine wp_istore (ls2 := [some (zR 60), some (zR o), some (zR r), some (zI wd), some (zI p), some (zI x), some (zI 0)]) dd_X7_tryAll_63 rfl (by decide) rfl ?_
        have lp65 : ∀ (nf : Nat) (y : Int) (mn : zMem), (0 ≤ y) → (y ≤ p) → (mn 60 0 = zcX (zri c d p) p x.toNat + zcY (zri c d p) x y.toNat) → (mn 60 1 = zcX (znz (zri c d p)) p x.toNat + zcY (znz (zri c d p)) x y.toNat) → (mn 60 3 = zbY (zri c d p) 1 x (zbX (zri c d p) 1 p x.toNat) y.toNat) → (mn 60 4 = zbY (zri c d p) 0 x (zbX (zri c d p) 0 p x.toNat) y.toNat) → (0 ≤ wd → (mn 60 0 ≤ wd ∧ mn 60 2 = -9 ∧ zRY (zri c d p) x p (zRX (zri c d p) p (p - x - 1).toNat) (p - y).toNat (wd - mn 60 0) = zRX (zri c d p) p p.toNat wd) ∨ (wd < mn 60 0 ∧ mn 60 2 = zRX (zri c d p) p p.toNat wd)) → (mn 61 = mf 61 ∧ mn 62 = mf 62) → (∀ a : Nat, a ≠ 60 → a ≠ 61 → a ≠ 62 → mn a = mem a) → (p - y) < (nf : Int) → zw_Wp l mm_X7_tryAll (zS L) 65 [some (zR 60), some (zR o), some (zR r), some (zI wd), some (zI p), some (zI x), some (zI y)] [] mn 0 0 Q := by
          intro nf
          induction nf with
          | zero =>
            intro y mn y0 y1 g0 g1 g3 g4 hY k1 kr hmu
            exfalso; omega
          | succ nf ih65 =>
            intro y mn y0 y1 g0 g1 g3 g4 hY k1 kr hmu
            have V1 : zhr (mn 61) y p 5 5 = zvs c x y p 25 := zrow_v (by rw [k1.1]; exact R61)
            have V2 : zhr (mn 62) y p 5 5 = zvs d x y p 25 := zrow_v (by rw [k1.2]; exact R62)
            have L1 : ∀ j : Int, 0 ≤ j → j < ((5 : Nat) : Int) → 0 ≤ mn 61 j ∧ mn 61 j ≤ 31 := fun j q1 q2 => by rw [k1.1, R61 j q1 q2]; have := zhr_rg (f := fun b => zpt c 1 j b) (v := x) (p := p) (n := 5) (by omega) 5; omega
            have L2 : ∀ j : Int, 0 ≤ j → j < ((5 : Nat) : Int) → 0 ≤ mn 62 j ∧ mn 62 j ≤ 31 := fun j q1 q2 => by rw [k1.2, R62 j q1 q2]; have := zhr_rg (f := fun b => zpt d 1 j b) (v := x) (p := p) (n := 5) (by omega) 5; omega
            have hx9 := zcX_rg (p := p) h01 (by omega) x.toNat
            have hy9 := zcY_rg (x := x) h01 y.toNat
            have hx8 := zcX_rg (p := p) h02 (by omega) x.toNat
            have hy8 := zcY_rg (x := x) h02 y.toNat
            refine wp_iload dd_X7_tryAll_65 rfl ?_
            refine wp_iload dd_X7_tryAll_67 rfl ?_
            refine wp_icmp_ge (tgt := 115) dd_X7_tryAll_69 (by decide) (fun c69_2 => ?_) (fun c69_2 => ?_)
            · skip
              refine wp_iincC (ls2 := [some (zR 60), some (zR o), some (zR r), some (zI wd), some (zI p), some (zI (x + 1)), some (zI y)]) dd_X7_tryAll_115 rfl rfl (by decide) (by omega) rfl ?_
              refine wp_goto (tgt := 29) dd_X7_tryAll_118 (by decide) ?_
              refine wp_ls (zw_sub_of (a := [some (zR 60), some (zR o), some (zR r), some (zI wd), some (zI p), some (zI (x + 1)), none]) (And.intro rfl (And.intro rfl (And.intro rfl (And.intro rfl (And.intro rfl (And.intro rfl (trivial)))))))) ?_
              refine ih29 (x + 1) mn ?_ ?_ ?_ ?_ ?_ ?_ ?_ ?_ ?_
              · first | omega | assumption | (intros; omega)
              · first | omega | assumption | (intros; omega)
              · rw [g0, show (x + 1).toNat = x.toNat + 1 by omega, zcX, show ((x.toNat : Nat) : Int) = x by omega, show y = p by omega]
              · rw [g1, show (x + 1).toNat = x.toNat + 1 by omega, zcX, show ((x.toNat : Nat) : Int) = x by omega, show y = p by omega]
              · rw [g3, show (x + 1).toNat = x.toNat + 1 by omega, zbX, show ((x.toNat : Nat) : Int) = x by omega, show y = p by omega]
              · rw [g4, show (x + 1).toNat = x.toNat + 1 by omega, zbX, show ((x.toNat : Nat) : Int) = x by omega, show y = p by omega]
              · intro q
                rcases hY q with ⟨q1, q2, q3⟩ | q1
                · refine Or.inl ⟨q1, q2, ?_⟩
                  rw [show (p - y).toNat = 0 by omega] at q3
                  rw [show p - (x + 1) = p - x - 1 by omega]; exact q3
                · exact Or.inr q1
              · intro a h1 h2 h3; exact kr a h1 h2 h3
              · omega
            · skip
              refine wp_aload_n dd_X7_tryAll_72 rfl ?_
              refine wp_getR dd_X7_tryAll_73 gf_X7_9 rfl kk_60 (by decide) (zlt rfl) rr_60_5 ?_
              refine wp_iload dd_X7_tryAll_76 rfl ?_
              refine wp_iload dd_X7_tryAll_78 rfl ?_
              refine wp_callS (M' := mm_X2_valueAt) (As := [zR 61, zI y, zI p]) (rest := []) dd_X7_tryAll_80 lk_X7_40 mS_X2_valueAt rfl (by decide) (by decide) (Nat.le_of_ble_eq_true rfl) rfl (sp_X2_valueAt  61 y p kk_61 (zlt rfl) (by decide) hp (by omega) L1 ?_)
              show zw_Wp l mm_X7_tryAll (zS L) 83 [some (zR 60), some (zR o), some (zR r), some (zI wd), some (zI p), some (zI x), some (zI y)] [zI (zhr (mn 61) y p 5 5)] mn 0 0 Q
              rw [show (zhr (mn 61) y p 5 5 : Int) = zvs c x y p 25 from V1]
              refine wp_if_ne (tgt := 109) dd_X7_tryAll_83 (by decide) (fun c83_3 => ?_) (fun c83_3 => ?_)
              · skip
                have he : zri c d p x y = 0 := by unfold zri; rw [if_neg (fun z => absurd z.1 c83_3)]
                refine wp_iincC (ls2 := [some (zR 60), some (zR o), some (zR r), some (zI wd), some (zI p), some (zI x), some (zI (y + 1))]) dd_X7_tryAll_109 rfl rfl (by decide) (by omega) rfl ?_
                refine wp_goto (tgt := 65) dd_X7_tryAll_112 (by decide) ?_
                refine ih65 (y + 1) mn ?_ ?_ ?_ ?_ ?_ ?_ ?_ ?_ ?_ ?_
                · first | omega | assumption | (intros; omega)
                · first | omega | assumption | (intros; omega)
                · rw [show (y + 1).toNat = y.toNat + 1 by omega, zcY, show ((y.toNat : Nat) : Int) = y by omega, he]
                  first | (rw [fn.1]; omega) | omega
                · rw [show (y + 1).toNat = y.toNat + 1 by omega, zcY, show ((y.toNat : Nat) : Int) = y by omega]
                  unfold znz
                  rw [he]
                  first
                  | (rw [fn.2.1, g1]; unfold znz; split <;> omega)
                  | (rw [g1]; unfold znz; split <;> omega)
                · rw [show (y + 1).toNat = y.toNat + 1 by omega, zbY, show ((y.toNat : Nat) : Int) = y by omega, he]
                  first
                  | (rw [if_neg (by decide), fn.2.2.2.1, if_neg (by decide), g3])
                  | (rw [if_pos rfl, g3])
                · rw [show (y + 1).toNat = y.toNat + 1 by omega, zbY, show ((y.toNat : Nat) : Int) = y by omega, he]
                  first
                  | (rw [if_neg (by decide), fn.2.2.2.2, if_pos rfl, g4])
                  | (rw [if_pos rfl, g4])
                · intro q
                  rcases hY q with ⟨q1, q2, q3⟩ | ⟨q1, q2⟩
                  · rw [show (p - y).toNat = (p - (y + 1)).toNat + 1 by omega, zRY, show p - (((p - (y + 1)).toNat : Int) + 1) = y by omega, he] at q3
                    first
                    | (rw [if_neg (by decide)] at q3
                       by_cases q4 : mn 60 0 = wd
                       · rw [if_pos (by omega)] at q3
                         exact Or.inr ⟨by rw [fn.1]; omega, by rw [fn.2.2.1, if_pos q4]; exact q3⟩
                       · rw [if_neg (by omega)] at q3
                         refine Or.inl ⟨by rw [fn.1]; omega, by rw [fn.2.2.1, if_neg q4]; exact q2, ?_⟩
                         rw [fn.1, show wd - (mn 60 0 + 1) = wd - mn 60 0 - 1 by omega]; exact q3)
                    | (rw [if_pos rfl] at q3; exact Or.inl ⟨q1, q2, q3⟩)
                  · first
                    | exact Or.inr ⟨by rw [fn.1]; omega, by rw [fn.2.2.1, if_neg (by omega)]; exact q2⟩
                    | exact Or.inr ⟨q1, q2⟩
                · first | exact k1 | (rw [gn 61 (by decide), gn 62 (by decide)]; exact k1)
                · first | exact kr | (intro a h1 h2 h3; rw [gn a h1]; exact kr a h1 h2 h3)
                · omega
              · skip
                refine wp_aload_n dd_X7_tryAll_86 rfl ?_
                refine wp_getR dd_X7_tryAll_87 gf_X7_15 rfl kk_60 (by decide) (zlt rfl) rr_60_6 ?_
                refine wp_iload dd_X7_tryAll_90 rfl ?_
                refine wp_iload dd_X7_tryAll_92 rfl ?_
                refine wp_callS (M' := mm_X2_valueAt) (As := [zR 62, zI y, zI p]) (rest := []) dd_X7_tryAll_94 lk_X7_40 mS_X2_valueAt rfl (by decide) (by decide) (Nat.le_of_ble_eq_true rfl) rfl (sp_X2_valueAt  62 y p kk_62 (zlt rfl) (by decide) hp (by omega) L2 ?_)
                show zw_Wp l mm_X7_tryAll (zS L) 97 [some (zR 60), some (zR o), some (zR r), some (zI wd), some (zI p), some (zI x), some (zI y)] [zI (zhr (mn 62) y p 5 5)] mn 0 0 Q
                rw [show (zhr (mn 62) y p 5 5 : Int) = zvs d x y p 25 from V2]
                refine wp_if_ne (tgt := 109) dd_X7_tryAll_97 (by decide) (fun c97_4 => ?_) (fun c97_4 => ?_)
                · skip
                  have he : zri c d p x y = 0 := by unfold zri; rw [if_neg (fun z => absurd z.2 c97_4)]
                  refine wp_iincC (ls2 := [some (zR 60), some (zR o), some (zR r), some (zI wd), some (zI p), some (zI x), some (zI (y + 1))]) dd_X7_tryAll_109 rfl rfl (by decide) (by omega) rfl ?_
                  refine wp_goto (tgt := 65) dd_X7_tryAll_112 (by decide) ?_
                  refine ih65 (y + 1) mn ?_ ?_ ?_ ?_ ?_ ?_ ?_ ?_ ?_ ?_
                  · first | omega | assumption | (intros; omega)
                  · first | omega | assumption | (intros; omega)
                  · rw [show (y + 1).toNat = y.toNat + 1 by omega, zcY, show ((y.toNat : Nat) : Int) = y by omega, he]
                    first | (rw [fn.1]; omega) | omega
                  · rw [show (y + 1).toNat = y.toNat + 1 by omega, zcY, show ((y.toNat : Nat) : Int) = y by omega]
                    unfold znz
                    rw [he]
                    first
                    | (rw [fn.2.1, g1]; unfold znz; split <;> omega)
                    | (rw [g1]; unfold znz; split <;> omega)
                  · rw [show (y + 1).toNat = y.toNat + 1 by omega, zbY, show ((y.toNat : Nat) : Int) = y by omega, he]
                    first
                    | (rw [if_neg (by decide), fn.2.2.2.1, if_neg (by decide), g3])
                    | (rw [if_pos rfl, g3])
                  · rw [show (y + 1).toNat = y.toNat + 1 by omega, zbY, show ((y.toNat : Nat) : Int) = y by omega, he]
                    first
                    | (rw [if_neg (by decide), fn.2.2.2.2, if_pos rfl, g4])
                    | (rw [if_pos rfl, g4])
                  · intro q
                    rcases hY q with ⟨q1, q2, q3⟩ | ⟨q1, q2⟩
                    · rw [show (p - y).toNat = (p - (y + 1)).toNat + 1 by omega, zRY, show p - (((p - (y + 1)).toNat : Int) + 1) = y by omega, he] at q3
                      first
                      | (rw [if_neg (by decide)] at q3
                         by_cases q4 : mn 60 0 = wd
                         · rw [if_pos (by omega)] at q3
                           exact Or.inr ⟨by rw [fn.1]; omega, by rw [fn.2.2.1, if_pos q4]; exact q3⟩
                         · rw [if_neg (by omega)] at q3
                           refine Or.inl ⟨by rw [fn.1]; omega, by rw [fn.2.2.1, if_neg q4]; exact q2, ?_⟩
                           rw [fn.1, show wd - (mn 60 0 + 1) = wd - mn 60 0 - 1 by omega]; exact q3)
                      | (rw [if_pos rfl] at q3; exact Or.inl ⟨q1, q2, q3⟩)
                    · first
                      | exact Or.inr ⟨by rw [fn.1]; omega, by rw [fn.2.2.1, if_neg (by omega)]; exact q2⟩
                      | exact Or.inr ⟨q1, q2⟩
                  · first | exact k1 | (rw [gn 61 (by decide), gn 62 (by decide)]; exact k1)
                  · first | exact kr | (intro a h1 h2 h3; rw [gn a h1]; exact kr a h1 h2 h3)
                  · omega
                · skip
                  have he : zri c d p x y = 1 := by unfold zri; rw [if_pos ⟨by omega, by omega⟩]
                  refine wp_aload_n dd_X7_tryAll_100 rfl ?_
                  refine wp_iload dd_X7_tryAll_101 rfl ?_
                  refine wp_iload dd_X7_tryAll_103 rfl ?_
                  refine wp_iload_n dd_X7_tryAll_105 rfl ?_
                  refine wp_callV (M' := mm_X7_note) (As := [zI x, zI y, zI wd]) (rest := []) dd_X7_tryAll_106 lk_X7_46 mV_X7_note kk_60 (zlt rfl) ⟨_, _, rfl⟩ rfl (by decide) (by decide) (Nat.le_of_ble_eq_true rfl) rfl (sp_X7_note  x y wd (by omega) (by omega) (by omega) (by omega) (fun mz fn gn => ?_))
                  show zw_Wp l mm_X7_tryAll (zS L) 109 [some (zR 60), some (zR o), some (zR r), some (zI wd), some (zI p), some (zI x), some (zI y)] [] mz 0 0 Q
                  refine wp_iincC (ls2 := [some (zR 60), some (zR o), some (zR r), some (zI wd), some (zI p), some (zI x), some (zI (y + 1))]) dd_X7_tryAll_109 rfl rfl (by decide) (by omega) rfl ?_
                  refine wp_goto (tgt := 65) dd_X7_tryAll_112 (by decide) ?_
                  refine ih65 (y + 1) mz ?_ ?_ ?_ ?_ ?_ ?_ ?_ ?_ ?_ ?_
                  · first | omega | assumption | (intros; omega)
                  · first | omega | assumption | (intros; omega)
                  · rw [show (y + 1).toNat = y.toNat + 1 by omega, zcY, show ((y.toNat : Nat) : Int) = y by omega, he]
                    first | (rw [fn.1]; omega) | omega
                  · rw [show (y + 1).toNat = y.toNat + 1 by omega, zcY, show ((y.toNat : Nat) : Int) = y by omega]
                    unfold znz
                    rw [he]
                    first
                    | (rw [fn.2.1, g1]; unfold znz; split <;> omega)
                    | (rw [g1]; unfold znz; split <;> omega)
                  · rw [show (y + 1).toNat = y.toNat + 1 by omega, zbY, show ((y.toNat : Nat) : Int) = y by omega, he]
                    first
                    | (rw [if_neg (by decide), fn.2.2.2.1, if_neg (by decide), g3])
                    | (rw [if_pos rfl, g3])
                  · rw [show (y + 1).toNat = y.toNat + 1 by omega, zbY, show ((y.toNat : Nat) : Int) = y by omega, he]
                    first
                    | (rw [if_neg (by decide), fn.2.2.2.2, if_pos rfl, g4])
                    | (rw [if_pos rfl, g4])
                  · intro q
                    rcases hY q with ⟨q1, q2, q3⟩ | ⟨q1, q2⟩
                    · rw [show (p - y).toNat = (p - (y + 1)).toNat + 1 by omega, zRY, show p - (((p - (y + 1)).toNat : Int) + 1) = y by omega, he] at q3
                      first
                      | (rw [if_neg (by decide)] at q3
                         by_cases q4 : mn 60 0 = wd
                         · rw [if_pos (by omega)] at q3
                           exact Or.inr ⟨by rw [fn.1]; omega, by rw [fn.2.2.1, if_pos q4]; exact q3⟩
                         · rw [if_neg (by omega)] at q3
                           refine Or.inl ⟨by rw [fn.1]; omega, by rw [fn.2.2.1, if_neg q4]; exact q2, ?_⟩
                           rw [fn.1, show wd - (mn 60 0 + 1) = wd - mn 60 0 - 1 by omega]; exact q3)
                      | (rw [if_pos rfl] at q3; exact Or.inl ⟨q1, q2, q3⟩)
                    · first
                      | exact Or.inr ⟨by rw [fn.1]; omega, by rw [fn.2.2.1, if_neg (by omega)]; exact q2⟩
                      | exact Or.inr ⟨q1, q2⟩
                  · first | exact k1 | (rw [gn 61 (by decide), gn 62 (by decide)]; exact k1)
                  · first | exact kr | (intro a h1 h2 h3; rw [gn a h1]; exact kr a h1 h2 h3)
                  · omega
        refine lp65 ((p - 0 : Int)).toNat.succ 0 mf ?_ ?_ ?_ ?_ ?_ ?_ ?_ ?_ ?_ ?_
        · first | omega | assumption | (intros; omega)
        · first | omega | assumption | (intros; omega)
        · rw [b60, f0]; show _ = _ + 0; omega
        · rw [b60, f1]; show _ = _ + 0; omega
        · rw [b60, f3]; rfl
        · rw [b60, f4]; rfl
        · intro q
          rw [b60]
          rcases hZ q with ⟨q1, q2, q3⟩ | q1
          · refine Or.inl ⟨q1, q2, ?_⟩
            rw [show (p - x).toNat = (p - x - 1).toNat + 1 by omega, zRX, show p - (((p - x - 1).toNat : Int) + 1) = x by omega] at q3
            rw [Int.sub_zero]; exact q3
          · exact Or.inr q1
        · exact ⟨rfl, rfl⟩
        · intro a h1 h2 h3; rw [gf a h3, ge a h2]; exact fr a h1 h2 h3
        · omega
  refine lp29 ((p - 0 : Int)).toNat.succ 0 (zu (zu (zu (zu (zu mem 60 0 0) 60 1 0) 60 2 (-9)) 60 3 0) 60 4 0) ?_ ?_ ?_ ?_ ?_ ?_ ?_ ?_ ?_
  · first | omega | assumption | (intros; omega)
  · first | omega | assumption | (intros; omega)
  · simp [zu, zcX]
  · simp [zu, zcX]
  · simp [zu, zbX]
  · simp [zu, zbX]
  · intro q; refine Or.inl ⟨?_, ?_, ?_⟩
    · simp [zu]; exact q
    · simp [zu]
    · simp [zu]
  · intro a h1 h2 h3; rw [zu_row h1, zu_row h1, zu_row h1, zu_row h1, zu_row h1]
  · omega

set_option maxRecDepth 100000 in
set_option maxHeartbeats 4000000 in
theorem sp_X7_draw {l : Launch} {L : Nat} {mem : zMem} {Q : zQ}  (m : Int) (hm : 0 < m) (k : Q (some (zI (zdv (zdr (mem 60 7)) / 256 % m))) (zS L) (zu mem 60 7 (zdr (mem 60 7)))) : zw_Ok l mm_X7_draw [zR 60, zI m] (zS L) mem Q := by
  refine zw_okA (fun hA => ?_)
  have rg_m : -2147483648 ≤ m ∧ m < 2147483648 := hA.2.1
  refine zw_enter (by decide) (Nat.le_of_ble_eq_true rfl) rfl ?_
  show zw_Wp l mm_X7_draw (zS L) 0 [some (zR 60), some (zI m)] [] mem 0 0 Q
  refine wp_aload_n dd_X7_draw_0 rfl ?_
  refine wp_aload_n dd_X7_draw_1 rfl ?_
  refine wp_getZ 7 rfl dd_X7_draw_2 gf_X7_50 rfl kk_60 (by decide) (zlt rfl) ?_
  refine wp_ldc dd_X7_draw_5 kc_X7_61 ?_
  show zw_Wp l mm_X7_draw (zS L) 7 [some (zR 60), some (zI m)] [zI 1664525, zI (mem 60 7), zR 60] mem 0 0 Q
  refine wp_imul dd_X7_draw_7 ?_
  refine wp_ldc dd_X7_draw_8 kc_X7_62 ?_
  show zw_Wp l mm_X7_draw (zS L) 10 [some (zR 60), some (zI m)] [zI 1013904223, zI (zwr ((mem 60 7) * 1664525)), zR 60] mem 0 0 Q
  refine wp_iadd dd_X7_draw_10 ?_
  refine wp_putzI 7 rfl dd_X7_draw_11 pf_X7_50 rfl kk_60 (by decide) (zlt rfl) ?_
  refine wp_aload_n dd_X7_draw_14 rfl ?_
  refine wp_getV 7 (v := zwr ((zwr ((mem 60 7) * 1664525)) + 1013904223)) rfl (by rw [zu_s]) dd_X7_draw_15 gf_X7_50 rfl kk_60 (by decide) (zlt rfl) ?_
  refine wp_ldc dd_X7_draw_18 kc_X7_63 ?_
  show zw_Wp l mm_X7_draw (zS L) 20 [some (zR 60), some (zI m)] [zI 2147483647, zI (zwr ((zwr ((mem 60 7) * 1664525)) + 1013904223))] (zu mem 60 7 (zwr ((zwr ((mem 60 7) * 1664525)) + 1013904223))) 0 0 Q
  refine wp_iand dd_X7_draw_20 ?_
  have hdv := zdv_rg (zdr (mem 60 7))
  show zw_Wp l mm_X7_draw (zS L) 21 [some (zR 60), some (zI m)] [zI (zdv (zdr (mem 60 7)))] (zu mem 60 7 (zdr (mem 60 7))) 0 0 Q
  refine wp_sipush dd_X7_draw_21 (by decide) ?_
  refine wp_idivP dd_X7_draw_24 (by omega) (by omega) ?_
  refine wp_iload_n dd_X7_draw_25 rfl ?_
  refine wp_iremP dd_X7_draw_26 (by omega) (by omega) ?_
  refine wp_ireturn (st := []) dd_X7_draw_27 rfl ?_
  refine zq_I ?_ ?_ k
  · first | rfl | omega | (rw [if_pos (by omega)]) | (rw [if_neg (by omega)])
  · rfl

theorem sp_X7_draw2 {l : Launch} {L : Nat} {mem : zMem} {Q : zQ} (z m : Int) (hz : mem 60 7 = z) (hm : 0 < m) (k : Q (some (zI (zdv (zdr z) / 256 % m))) (zS L) (zu mem 60 7 (zdr z))) : zw_Ok l mm_X7_draw [zR 60, zI m] (zS L) mem Q := by
  subst hz
  exact sp_X7_draw m hm k

set_option maxRecDepth 100000 in
set_option maxHeartbeats 4000000 in
theorem sp_X7_drawLots {l : Launch} {L : Nat} {mem : zMem} {Q : zQ} (c : Int → Int) (o : Nat) (n : Int) (z : Int) (w : Int) (p : Int) (ho : zP o) (hc : zRw mem o c) (hp : 2 ≤ p ∧ p ≤ 31) (hn : 1 ≤ n ∧ n ≤ 50) (hcr : ∀ t : Int, 0 ≤ t → t < 25 → 0 ≤ c t ∧ c t < p) (k : ∀ (mem2 : zMem), (∀ a : Nat, a ≠ 60 → a ≠ 61 → mem2 a = mem a) → Q (some (zI (if w = 0 then zlc (fun x y => zvs c x y p 25) z p n.toNat else zlv (fun x y => zvs c x y p 25) z p n.toNat))) (zS L) mem2) : zw_Ok l mm_X7_drawLots [zR 60, zR o, zI n, zI z, zI w, zI p] (zS L) mem Q := by
  refine zw_okA (fun hA => ?_)
  have rg_n : -2147483648 ≤ n ∧ n < 2147483648 := hA.2.2.1
  have rg_z : -2147483648 ≤ z ∧ z < 2147483648 := hA.2.2.2.1
  have rg_w : -2147483648 ≤ w ∧ w < 2147483648 := hA.2.2.2.2.1
  have rg_p : -2147483648 ≤ p ∧ p < 2147483648 := hA.2.2.2.2.2.1
  refine zw_enter (by decide) (Nat.le_of_ble_eq_true rfl) rfl ?_
  show zw_Wp l mm_X7_drawLots (zS L) 0 [some (zR 60), some (zR o), some (zI n), some (zI z), some (zI w), some (zI p), none, none, none, none, none, none] [] mem 0 0 Q
  have o50 := ho.lt
  have hv31 : ∀ x y, 0 ≤ (fun x y => zvs c x y p 25) x y ∧ (fun x y => zvs c x y p 25) x y ≤ 31 := fun x y => by have := zvs_rg (c := c) (x := x) (y := y) (p := p) (by omega) 25; dsimp only; omega
  refine wp_aload_n dd_X7_drawLots_0 rfl ?_
  refine wp_iload_n dd_X7_drawLots_1 rfl ?_
  refine wp_putzI 7 rfl dd_X7_drawLots_2 pf_X7_50 rfl kk_60 (by decide) (zlt rfl) ?_
  refine wp_iconst dd_X7_drawLots_5 (zr_lit rfl) ?_
  refine wp_istore (ls2 := [some (zR 60), some (zR o), some (zI n), some (zI z), some (zI w), some (zI p), some (zI 0), none, none, none, none, none]) dd_X7_drawLots_6 rfl (by decide) rfl ?_
  refine wp_iconst dd_X7_drawLots_8 (zr_lit rfl) ?_
  refine wp_istore (ls2 := [some (zR 60), some (zR o), some (zI n), some (zI z), some (zI w), some (zI p), some (zI 0), some (zI 0), none, none, none, none]) dd_X7_drawLots_9 rfl (by decide) rfl ?_
  refine wp_iconst dd_X7_drawLots_11 (zr_lit rfl) ?_
  refine wp_istore (ls2 := [some (zR 60), some (zR o), some (zI n), some (zI z), some (zI w), some (zI p), some (zI 0), some (zI 0), some (zI 0), none, none, none]) dd_X7_drawLots_12 rfl (by decide) rfl ?_
  have lp14 : ∀ (nf : Nat) (cn : Int) (s : Int) (i : Int) (mm : zMem), (0 ≤ i) → (i ≤ n) → (cn = zlc (fun x y => zvs c x y p 25) z p i.toNat) → (s = zlv (fun x y => zvs c x y p 25) z p i.toNat) → (mm 60 7 = zlz z i.toNat) → (∀ a : Nat, a ≠ 60 → a ≠ 61 → mm a = mem a) → (n - i) < (nf : Int) → zw_Wp l mm_X7_drawLots (zS L) 14 [some (zR 60), some (zR o), some (zI n), some (zI z), some (zI w), some (zI p), some (zI cn), some (zI s), some (zI i), none, none, none] [] mm 0 0 Q := by
    intro nf
    induction nf with
    | zero =>
      intro cn s i mm h0 h1 h2 h3 h4 h5 hmu
      exfalso; omega
    | succ nf ih14 =>
      intro cn s i mm h0 h1 h2 h3 h4 h5 hmu
      have hc9 := zlc_rg (f := fun x y => zvs c x y p 25) (z := z) (p := p) i.toNat
      have hs9 := zlv_rg (z := z) (p := p) hv31 i.toNat
      have hv9 := hv31 (zlx z p i.toNat) (zly z p i.toNat)
      have hx9 := zm_rg (a := zdv (zdr (zlz z i.toNat)) / 256) (p := p) (by omega)
      have hy9 := zm_rg (a := zdv (zdr (zdr (zlz z i.toNat))) / 256) (p := p) (by omega)
      refine wp_iload dd_X7_drawLots_14 rfl ?_
      refine wp_iload_n dd_X7_drawLots_16 rfl ?_
      refine wp_icmp_ge (tgt := 70) dd_X7_drawLots_17 (by decide) (fun c17_1 => ?_) (fun c17_1 => ?_)
      · skip
        refine wp_iload dd_X7_drawLots_70 rfl ?_
        refine wp_if_ne (tgt := 80) dd_X7_drawLots_72 (by decide) (fun c72_2 => ?_) (fun c72_2 => ?_)
        · skip
          refine wp_iload dd_X7_drawLots_80 rfl ?_
          refine wp_ireturn (st := []) dd_X7_drawLots_82 rfl ?_
          have hin : i = n := by omega
          refine zq_I ?_ rfl (k mm h5)
          first | (rw [if_pos (by omega), ← hin]; exact h2) | (rw [if_neg (by omega), ← hin]; exact h3)
        · skip
          refine wp_iload dd_X7_drawLots_75 rfl ?_
          refine wp_goto (tgt := 82) dd_X7_drawLots_77 (by decide) ?_
          refine wp_ireturn (st := []) dd_X7_drawLots_82 rfl ?_
          have hin : i = n := by omega
          refine zq_I ?_ rfl (k mm h5)
          first | (rw [if_pos (by omega), ← hin]; exact h2) | (rw [if_neg (by omega), ← hin]; exact h3)
      · skip
        refine wp_aload_n dd_X7_drawLots_20 rfl ?_
        refine wp_iload dd_X7_drawLots_21 rfl ?_
        refine wp_callV (M' := mm_X7_draw) (As := [zI p]) (rest := []) dd_X7_drawLots_23 lk_X7_53 mV_X7_draw kk_60 (zlt rfl) ⟨_, _, rfl⟩ rfl (by decide) (by decide) (Nat.le_of_ble_eq_true rfl) rfl (sp_X7_draw2 (zlz z i.toNat) p h4 (by omega) ?_)
        show zw_Wp l mm_X7_drawLots (zS L) 26 [some (zR 60), some (zR o), some (zI n), some (zI z), some (zI w), some (zI p), some (zI cn), some (zI s), some (zI i), none, none, none] [zI (zdv (zdr (zlz z i.toNat)) / 256 % p)] (zu mm 60 7 (zdr (zlz z i.toNat))) 0 0 Q
        refine wp_istore (ls2 := [some (zR 60), some (zR o), some (zI n), some (zI z), some (zI w), some (zI p), some (zI cn), some (zI s), some (zI i), some (zI (zdv (zdr (zlz z i.toNat)) / 256 % p)), none, none]) dd_X7_drawLots_26 rfl (by decide) rfl ?_
        refine wp_aload_n dd_X7_drawLots_28 rfl ?_
        refine wp_iload dd_X7_drawLots_29 rfl ?_
        refine wp_callV (M' := mm_X7_draw) (As := [zI p]) (rest := []) dd_X7_drawLots_31 lk_X7_53 mV_X7_draw kk_60 (zlt rfl) ⟨_, _, rfl⟩ rfl (by decide) (by decide) (Nat.le_of_ble_eq_true rfl) rfl (sp_X7_draw2 (zdr (zlz z i.toNat)) p (by rw [zu_s]) (by omega) ?_)
        show zw_Wp l mm_X7_drawLots (zS L) 34 [some (zR 60), some (zR o), some (zI n), some (zI z), some (zI w), some (zI p), some (zI cn), some (zI s), some (zI i), some (zI (zdv (zdr (zlz z i.toNat)) / 256 % p)), none, none] [zI (zdv (zdr (zdr (zlz z i.toNat))) / 256 % p)] (zu (zu mm 60 7 (zdr (zlz z i.toNat))) 60 7 (zdr (zdr (zlz z i.toNat)))) 0 0 Q
        refine wp_istore (ls2 := [some (zR 60), some (zR o), some (zI n), some (zI z), some (zI w), some (zI p), some (zI cn), some (zI s), some (zI i), some (zI (zdv (zdr (zlz z i.toNat)) / 256 % p)), some (zI (zdv (zdr (zdr (zlz z i.toNat))) / 256 % p)), none]) dd_X7_drawLots_34 rfl (by decide) rfl ?_
        refine wp_aload_n dd_X7_drawLots_36 rfl ?_
        refine wp_aload_n dd_X7_drawLots_37 rfl ?_
        refine wp_iload dd_X7_drawLots_38 rfl ?_
        refine wp_iload dd_X7_drawLots_40 rfl ?_
        refine wp_iload dd_X7_drawLots_42 rfl ?_
        refine wp_callV (M' := mm_X7_valueOf) (As := [zR o, zI (zdv (zdr (zlz z i.toNat)) / 256 % p), zI (zdv (zdr (zdr (zlz z i.toNat))) / 256 % p), zI p]) (rest := []) dd_X7_drawLots_44 lk_X7_57 mV_X7_valueOf kk_60 (zlt rfl) ⟨_, _, rfl⟩ rfl (by decide) (by decide) (Nat.le_of_ble_eq_true rfl) rfl (sp_X7_valueOf c o (zdv (zdr (zlz z i.toNat)) / 256 % p) (zdv (zdr (zdr (zlz z i.toNat))) / 256 % p) p ho (hc.keep (by rw [zu_row (by omega), zu_row (by omega)]; exact h5 _ (by omega) (by omega))) hp (by omega) (by omega) hcr (fun mv gv => ?_))
        show zw_Wp l mm_X7_drawLots (zS L) 47 [some (zR 60), some (zR o), some (zI n), some (zI z), some (zI w), some (zI p), some (zI cn), some (zI s), some (zI i), some (zI (zdv (zdr (zlz z i.toNat)) / 256 % p)), some (zI (zdv (zdr (zdr (zlz z i.toNat))) / 256 % p)), none] [zI (zvs c (zdv (zdr (zlz z i.toNat)) / 256 % p) (zdv (zdr (zdr (zlz z i.toNat))) / 256 % p) p 25)] mv 0 0 Q
        have hv7 := hv31 (zdv (zdr (zlz z i.toNat)) / 256 % p) (zdv (zdr (zdr (zlz z i.toNat))) / 256 % p)
        dsimp only at hv7
        refine wp_istore (ls2 := [some (zR 60), some (zR o), some (zI n), some (zI z), some (zI w), some (zI p), some (zI cn), some (zI s), some (zI i), some (zI (zdv (zdr (zlz z i.toNat)) / 256 % p)), some (zI (zdv (zdr (zdr (zlz z i.toNat))) / 256 % p)), some (zI (zvs c (zdv (zdr (zlz z i.toNat)) / 256 % p) (zdv (zdr (zdr (zlz z i.toNat))) / 256 % p) p 25))]) dd_X7_drawLots_47 rfl (by decide) rfl ?_
        refine wp_iload dd_X7_drawLots_49 rfl ?_
        refine wp_iload dd_X7_drawLots_51 rfl ?_
        refine wp_iaddC dd_X7_drawLots_53 (by omega) ?_
        refine wp_istore (ls2 := [some (zR 60), some (zR o), some (zI n), some (zI z), some (zI w), some (zI p), some (zI cn), some (zI (s + (zvs c (zdv (zdr (zlz z i.toNat)) / 256 % p) (zdv (zdr (zdr (zlz z i.toNat))) / 256 % p) p 25))), some (zI i), some (zI (zdv (zdr (zlz z i.toNat)) / 256 % p)), some (zI (zdv (zdr (zdr (zlz z i.toNat))) / 256 % p)), some (zI (zvs c (zdv (zdr (zlz z i.toNat)) / 256 % p) (zdv (zdr (zdr (zlz z i.toNat))) / 256 % p) p 25))]) dd_X7_drawLots_54 rfl (by decide) rfl ?_
        refine wp_iload dd_X7_drawLots_56 rfl ?_
        refine wp_if_ne (tgt := 64) dd_X7_drawLots_58 (by decide) (fun c58_3 => ?_) (fun c58_3 => ?_)
        · skip
          refine wp_iincC (ls2 := [some (zR 60), some (zR o), some (zI n), some (zI z), some (zI w), some (zI p), some (zI cn), some (zI (s + (zvs c (zdv (zdr (zlz z i.toNat)) / 256 % p) (zdv (zdr (zdr (zlz z i.toNat))) / 256 % p) p 25))), some (zI (i + 1)), some (zI (zdv (zdr (zlz z i.toNat)) / 256 % p)), some (zI (zdv (zdr (zdr (zlz z i.toNat))) / 256 % p)), some (zI (zvs c (zdv (zdr (zlz z i.toNat)) / 256 % p) (zdv (zdr (zdr (zlz z i.toNat))) / 256 % p) p 25))]) dd_X7_drawLots_64 rfl rfl (by decide) (by omega) rfl ?_
          refine wp_goto (tgt := 14) dd_X7_drawLots_67 (by decide) ?_
          refine wp_ls (zw_sub_of (a := [some (zR 60), some (zR o), some (zI n), some (zI z), some (zI w), some (zI p), some (zI cn), some (zI (s + (zvs c (zdv (zdr (zlz z i.toNat)) / 256 % p) (zdv (zdr (zdr (zlz z i.toNat))) / 256 % p) p 25))), some (zI (i + 1)), none, none, none]) (And.intro rfl (And.intro rfl (And.intro rfl (And.intro rfl (And.intro rfl (And.intro rfl (And.intro rfl (And.intro rfl (And.intro rfl (trivial))))))))))) ?_
          refine ih14 cn (s + (zvs c (zdv (zdr (zlz z i.toNat)) / 256 % p) (zdv (zdr (zdr (zlz z i.toNat))) / 256 % p) p 25)) (i + 1) mv ?_ ?_ ?_ ?_ ?_ ?_ ?_
          · first | omega | assumption | (intros; omega)
          · first | omega | assumption | (intros; omega)
          · rw [show (i + 1).toNat = i.toNat + 1 by omega, zlc, ← h2]
            first | (rw [if_pos (by assumption)]) | (rw [if_neg (by assumption)]; omega)
          · rw [show (i + 1).toNat = i.toNat + 1 by omega, zlv, ← h3]; rfl
          · rw [show (i + 1).toNat = i.toNat + 1 by omega, zlz, gv 60 (by decide), zu_s]
          · intro a q1 q2; rw [gv a q2, zu_row q1, zu_row q1]; exact h5 a q1 q2
          · omega
        · skip
          refine wp_iincC (ls2 := [some (zR 60), some (zR o), some (zI n), some (zI z), some (zI w), some (zI p), some (zI (cn + 1)), some (zI (s + (zvs c (zdv (zdr (zlz z i.toNat)) / 256 % p) (zdv (zdr (zdr (zlz z i.toNat))) / 256 % p) p 25))), some (zI i), some (zI (zdv (zdr (zlz z i.toNat)) / 256 % p)), some (zI (zdv (zdr (zdr (zlz z i.toNat))) / 256 % p)), some (zI (zvs c (zdv (zdr (zlz z i.toNat)) / 256 % p) (zdv (zdr (zdr (zlz z i.toNat))) / 256 % p) p 25))]) dd_X7_drawLots_61 rfl rfl (by decide) (by omega) rfl ?_
          refine wp_iincC (ls2 := [some (zR 60), some (zR o), some (zI n), some (zI z), some (zI w), some (zI p), some (zI (cn + 1)), some (zI (s + (zvs c (zdv (zdr (zlz z i.toNat)) / 256 % p) (zdv (zdr (zdr (zlz z i.toNat))) / 256 % p) p 25))), some (zI (i + 1)), some (zI (zdv (zdr (zlz z i.toNat)) / 256 % p)), some (zI (zdv (zdr (zdr (zlz z i.toNat))) / 256 % p)), some (zI (zvs c (zdv (zdr (zlz z i.toNat)) / 256 % p) (zdv (zdr (zdr (zlz z i.toNat))) / 256 % p) p 25))]) dd_X7_drawLots_64 rfl rfl (by decide) (by omega) rfl ?_
          refine wp_goto (tgt := 14) dd_X7_drawLots_67 (by decide) ?_
          refine wp_ls (zw_sub_of (a := [some (zR 60), some (zR o), some (zI n), some (zI z), some (zI w), some (zI p), some (zI (cn + 1)), some (zI (s + (zvs c (zdv (zdr (zlz z i.toNat)) / 256 % p) (zdv (zdr (zdr (zlz z i.toNat))) / 256 % p) p 25))), some (zI (i + 1)), none, none, none]) (And.intro rfl (And.intro rfl (And.intro rfl (And.intro rfl (And.intro rfl (And.intro rfl (And.intro rfl (And.intro rfl (And.intro rfl (trivial))))))))))) ?_
          refine ih14 (cn + 1) (s + (zvs c (zdv (zdr (zlz z i.toNat)) / 256 % p) (zdv (zdr (zdr (zlz z i.toNat))) / 256 % p) p 25)) (i + 1) mv ?_ ?_ ?_ ?_ ?_ ?_ ?_
          · first | omega | assumption | (intros; omega)
          · first | omega | assumption | (intros; omega)
          · rw [show (i + 1).toNat = i.toNat + 1 by omega, zlc, ← h2]
            first | (rw [if_pos (by assumption)]) | (rw [if_neg (by assumption)]; omega)
          · rw [show (i + 1).toNat = i.toNat + 1 by omega, zlv, ← h3]; rfl
          · rw [show (i + 1).toNat = i.toNat + 1 by omega, zlz, gv 60 (by decide), zu_s]
          · intro a q1 q2; rw [gv a q2, zu_row q1, zu_row q1]; exact h5 a q1 q2
          · omega
  refine lp14 ((n - 0 : Int)).toNat.succ 0 0 0 (zu mem 60 7 z) ?_ ?_ ?_ ?_ ?_ ?_ ?_
  · first | omega | assumption | (intros; omega)
  · first | omega | assumption | (intros; omega)
  · rfl
  · rfl
  · rw [zu_s]; rfl
  · intro a q1 q2; rw [zu_row q1]
  · omega


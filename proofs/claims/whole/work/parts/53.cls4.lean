/-! ===== the class: tables ===== -/
theorem zP.lt {o : Nat} (h : zP o) : 3 ≤ o ∧ o ≤ 38 := by
  obtain ⟨k, hk, h⟩ := h
  omega
def zw2 (T : Int → Int → Int) (e : Int) : Nat → Int
  | 0 => 0
  | n + 1 => zw2 T e n + (if 0 ≤ e - (n : Int) ∧ e - (n : Int) ≤ 4 then T n (e - n) else 0)
theorem zw2_rg {T : Int → Int → Int} {e : Int} (h : ∀ a b, -1000 ≤ T a b ∧ T a b ≤ 1000) : ∀ n : Nat, -1000 * (n : Int) ≤ zw2 T e n ∧ zw2 T e n ≤ 1000 * n
  | 0 => by unfold zw2; omega
  | n + 1 => by
    have h1 := zw2_rg (e := e) h n
    have h2 := h n (e - n)
    unfold zw2
    split <;> omega
theorem zpt_o {c : Int → Int} {le a b : Int} (h : b < 0 ∨ 4 < b) : zpt c le a b = 0 := by
  unfold zpt
  rw [if_neg (by omega)]
def zTT (c d : Int → Int) (le r cc k : Int) : Int → Int → Int := fun a b => zpt c le (cc + k + 1) a * zpt d le (r - k) b - zpt c le (r - k) a * zpt d le (cc + k + 1) b
set_option maxRecDepth 100000 in
theorem zpr_8 {c d : Int → Int} {le a b e : Int} (he : 0 ≤ e ∧ e ≤ 8) : zpr c d le a b e (e + 1).toNat = zw2 (fun x y => zpt c le a x * zpt d le b y) e 5 := by
  have o : ∀ (f : Int → Int) (x y : Int), (y < 0 ∨ 4 < y) → zpt f le x y = 0 := fun f x y h => zpt_o h
  rcases (show e = 0 ∨ e = 1 ∨ e = 2 ∨ e = 3 ∨ e = 4 ∨ e = 5 ∨ e = 6 ∨ e = 7 ∨ e = 8 by omega) with rfl | rfl | rfl | rfl | rfl | rfl | rfl | rfl | rfl
  all_goals
    first
    | (have e5 : ∀ x, zpt c le x 5 = 0 := fun x => o c x 5 (by decide)
       have e6 : ∀ x, zpt c le x 6 = 0 := fun x => o c x 6 (by decide)
       have e7 : ∀ x, zpt c le x 7 = 0 := fun x => o c x 7 (by decide)
       have e8 : ∀ x, zpt c le x 8 = 0 := fun x => o c x 8 (by decide)
       have g5 : ∀ x, zpt d le x 5 = 0 := fun x => o d x 5 (by decide)
       have g6 : ∀ x, zpt d le x 6 = 0 := fun x => o d x 6 (by decide)
       have g7 : ∀ x, zpt d le x 7 = 0 := fun x => o d x 7 (by decide)
       have g8 : ∀ x, zpt d le x 8 = 0 := fun x => o d x 8 (by decide)
       simp [zpr, zw2, e5, e6, e7, e8, g5, g6, g7, g8])
theorem zw2_sub {S T : Int → Int → Int} {e : Int} : ∀ n : Nat, zw2 (fun x y => S x y - T x y) e n = zw2 S e n - zw2 T e n
  | 0 => rfl
  | n + 1 => by
    rw [zw2, zw2, zw2, zw2_sub n]
    split <;> omega
theorem zbz_st {c d : Int → Int} {le r cc e : Int} {k : Nat} (he : 0 ≤ e ∧ e ≤ 8) : zbz c d le r cc e (k + 1) = zbz c d le r cc e k + zw2 (zTT c d le r cc k) e 5 := by
  rw [zbz, zpr_8 he, zpr_8 he]
  unfold zTT
  rw [zw2_sub]
  omega
theorem zTT_rg {c d : Int → Int} {le r cc k p : Int} (hp : p ≤ 31) (hc : ∀ x y : Int, 0 ≤ zpt c le x y ∧ zpt c le x y < p) (hd : ∀ x y : Int, 0 ≤ zpt d le x y ∧ zpt d le x y < p) : ∀ a b, -1000 ≤ zTT c d le r cc k a b ∧ zTT c d le r cc k a b ≤ 1000 := by
  intro a b
  unfold zTT
  have a1 := hc (cc + k + 1) a
  have a2 := hd (r - k) b
  have a3 := hc (r - k) a
  have a4 := hd (cc + k + 1) b
  have h1 := zmul_rg (a := zpt c le (cc + k + 1) a) (b := zpt d le (r - k) b) (A := 31) (B := 31) (by omega) (by omega) (by omega) (by omega)
  have h2 := zmul_rg (a := zpt c le (r - k) a) (b := zpt d le (cc + k + 1) b) (A := 31) (B := 31) (by omega) (by omega) (by omega) (by omega)
  omega
theorem zbz_rg {c d : Int → Int} {le r cc e p : Int} (hp : p ≤ 31) (he : 0 ≤ e ∧ e ≤ 8) (hc : ∀ x y : Int, 0 ≤ zpt c le x y ∧ zpt c le x y < p) (hd : ∀ x y : Int, 0 ≤ zpt d le x y ∧ zpt d le x y < p) : ∀ k : Nat, -5000 * (k : Int) ≤ zbz c d le r cc e k ∧ zbz c d le r cc e k ≤ 5000 * k
  | 0 => by unfold zbz; omega
  | k + 1 => by
    have h1 := zbz_rg (r := r) (cc := cc) hp he hc hd k
    have h2 := zw2_rg (e := e) (zTT_rg (r := r) (cc := cc) (k := k) hp hc hd) 5
    rw [zbz_st he]
    omega

set_option maxRecDepth 100000 in
set_option maxHeartbeats 4000000 in
theorem sp_J6_bitCount_0f7a4 {l : Launch} {L : Nat} {mem : zMem} {Q : zQ}  (a : Int) (ha : 0 ≤ a ∧ a < 256) (k : Q (some (zI (zbits a))) (zS L) mem) : zw_Ok l mm_J6_bitCount_0f7a4 [zI a] (zS L) mem Q := by
  refine zw_okA (fun hA => ?_)
  have rg_a : -2147483648 ≤ a ∧ a < 2147483648 := hA.1
  refine zw_enterF (by decide +kernel) (Nat.le_of_ble_eq_true rfl) rfl ?_
  show zw_Wp l mm_J6_bitCount_0f7a4 (zS L) 0 [some (zI a)] [] mem 0 0 Q
  refine wp_iload_n dd_J6_bitCount_0f7a4_0 rfl ?_
  refine wp_iload_n dd_J6_bitCount_0f7a4_1 rfl ?_
  refine wp_iconst dd_J6_bitCount_0f7a4_2 (zr_lit rfl) ?_
  refine wp_iushr dd_J6_bitCount_0f7a4_3 ?_
  refine wp_ldc_w dd_J6_bitCount_0f7a4_4 kc_J6_265 ?_
  show zw_Wp l mm_J6_bitCount_0f7a4 (zS L) 7 [some (zI a)] [zI 1431655765, zI ((((Int32.ofInt a).toUInt32 >>> ((Int32.ofInt 1).toUInt32 &&& Int32.toUInt32 31)).toInt32).toInt), zI a] mem 0 0 Q
  refine wp_iand dd_J6_bitCount_0f7a4_7 ?_
  refine wp_isub dd_J6_bitCount_0f7a4_8 ?_
  refine wp_istore_n (ls2 := [some (zI (zwr (a - ((Int32.ofInt ((((Int32.ofInt a).toUInt32 >>> ((Int32.ofInt 1).toUInt32 &&& Int32.toUInt32 31)).toInt32).toInt) &&& Int32.ofInt 1431655765).toInt))))]) dd_J6_bitCount_0f7a4_9 rfl (by decide) rfl ?_
  refine wp_iload_n dd_J6_bitCount_0f7a4_10 rfl ?_
  refine wp_ldc_w dd_J6_bitCount_0f7a4_11 kc_J6_266 ?_
  show zw_Wp l mm_J6_bitCount_0f7a4 (zS L) 14 [some (zI (zwr (a - ((Int32.ofInt ((((Int32.ofInt a).toUInt32 >>> ((Int32.ofInt 1).toUInt32 &&& Int32.toUInt32 31)).toInt32).toInt) &&& Int32.ofInt 1431655765).toInt))))] [zI 858993459, zI (zwr (a - ((Int32.ofInt ((((Int32.ofInt a).toUInt32 >>> ((Int32.ofInt 1).toUInt32 &&& Int32.toUInt32 31)).toInt32).toInt) &&& Int32.ofInt 1431655765).toInt)))] mem 0 0 Q
  refine wp_iand dd_J6_bitCount_0f7a4_14 ?_
  refine wp_iload_n dd_J6_bitCount_0f7a4_15 rfl ?_
  refine wp_iconst dd_J6_bitCount_0f7a4_16 (zr_lit rfl) ?_
  refine wp_iushr dd_J6_bitCount_0f7a4_17 ?_
  refine wp_ldc_w dd_J6_bitCount_0f7a4_18 kc_J6_266 ?_
  show zw_Wp l mm_J6_bitCount_0f7a4 (zS L) 21 [some (zI (zwr (a - ((Int32.ofInt ((((Int32.ofInt a).toUInt32 >>> ((Int32.ofInt 1).toUInt32 &&& Int32.toUInt32 31)).toInt32).toInt) &&& Int32.ofInt 1431655765).toInt))))] [zI 858993459, zI ((((Int32.ofInt (zwr (a - ((Int32.ofInt ((((Int32.ofInt a).toUInt32 >>> ((Int32.ofInt 1).toUInt32 &&& Int32.toUInt32 31)).toInt32).toInt) &&& Int32.ofInt 1431655765).toInt)))).toUInt32 >>> ((Int32.ofInt 2).toUInt32 &&& Int32.toUInt32 31)).toInt32).toInt), zI ((Int32.ofInt (zwr (a - ((Int32.ofInt ((((Int32.ofInt a).toUInt32 >>> ((Int32.ofInt 1).toUInt32 &&& Int32.toUInt32 31)).toInt32).toInt) &&& Int32.ofInt 1431655765).toInt))) &&& Int32.ofInt 858993459).toInt)] mem 0 0 Q
  refine wp_iand dd_J6_bitCount_0f7a4_21 ?_
  refine wp_iadd dd_J6_bitCount_0f7a4_22 ?_
  refine wp_istore_n (ls2 := [some (zI (zwr (((Int32.ofInt (zwr (a - ((Int32.ofInt ((((Int32.ofInt a).toUInt32 >>> ((Int32.ofInt 1).toUInt32 &&& Int32.toUInt32 31)).toInt32).toInt) &&& Int32.ofInt 1431655765).toInt))) &&& Int32.ofInt 858993459).toInt) + ((Int32.ofInt ((((Int32.ofInt (zwr (a - ((Int32.ofInt ((((Int32.ofInt a).toUInt32 >>> ((Int32.ofInt 1).toUInt32 &&& Int32.toUInt32 31)).toInt32).toInt) &&& Int32.ofInt 1431655765).toInt)))).toUInt32 >>> ((Int32.ofInt 2).toUInt32 &&& Int32.toUInt32 31)).toInt32).toInt) &&& Int32.ofInt 858993459).toInt))))]) dd_J6_bitCount_0f7a4_23 rfl (by decide) rfl ?_
  refine wp_iload_n dd_J6_bitCount_0f7a4_24 rfl ?_
  refine wp_iload_n dd_J6_bitCount_0f7a4_25 rfl ?_
  refine wp_iconst dd_J6_bitCount_0f7a4_26 (zr_lit rfl) ?_
  refine wp_iushr dd_J6_bitCount_0f7a4_27 ?_
  refine wp_iadd dd_J6_bitCount_0f7a4_28 ?_
  refine wp_ldc_w dd_J6_bitCount_0f7a4_29 kc_J6_267 ?_
  show zw_Wp l mm_J6_bitCount_0f7a4 (zS L) 32 [some (zI (zwr (((Int32.ofInt (zwr (a - ((Int32.ofInt ((((Int32.ofInt a).toUInt32 >>> ((Int32.ofInt 1).toUInt32 &&& Int32.toUInt32 31)).toInt32).toInt) &&& Int32.ofInt 1431655765).toInt))) &&& Int32.ofInt 858993459).toInt) + ((Int32.ofInt ((((Int32.ofInt (zwr (a - ((Int32.ofInt ((((Int32.ofInt a).toUInt32 >>> ((Int32.ofInt 1).toUInt32 &&& Int32.toUInt32 31)).toInt32).toInt) &&& Int32.ofInt 1431655765).toInt)))).toUInt32 >>> ((Int32.ofInt 2).toUInt32 &&& Int32.toUInt32 31)).toInt32).toInt) &&& Int32.ofInt 858993459).toInt))))] [zI 252645135, zI (zwr ((zwr (((Int32.ofInt (zwr (a - ((Int32.ofInt ((((Int32.ofInt a).toUInt32 >>> ((Int32.ofInt 1).toUInt32 &&& Int32.toUInt32 31)).toInt32).toInt) &&& Int32.ofInt 1431655765).toInt))) &&& Int32.ofInt 858993459).toInt) + ((Int32.ofInt ((((Int32.ofInt (zwr (a - ((Int32.ofInt ((((Int32.ofInt a).toUInt32 >>> ((Int32.ofInt 1).toUInt32 &&& Int32.toUInt32 31)).toInt32).toInt) &&& Int32.ofInt 1431655765).toInt)))).toUInt32 >>> ((Int32.ofInt 2).toUInt32 &&& Int32.toUInt32 31)).toInt32).toInt) &&& Int32.ofInt 858993459).toInt))) + ((((Int32.ofInt (zwr (((Int32.ofInt (zwr (a - ((Int32.ofInt ((((Int32.ofInt a).toUInt32 >>> ((Int32.ofInt 1).toUInt32 &&& Int32.toUInt32 31)).toInt32).toInt) &&& Int32.ofInt 1431655765).toInt))) &&& Int32.ofInt 858993459).toInt) + ((Int32.ofInt ((((Int32.ofInt (zwr (a - ((Int32.ofInt ((((Int32.ofInt a).toUInt32 >>> ((Int32.ofInt 1).toUInt32 &&& Int32.toUInt32 31)).toInt32).toInt) &&& Int32.ofInt 1431655765).toInt)))).toUInt32 >>> ((Int32.ofInt 2).toUInt32 &&& Int32.toUInt32 31)).toInt32).toInt) &&& Int32.ofInt 858993459).toInt)))).toUInt32 >>> ((Int32.ofInt 4).toUInt32 &&& Int32.toUInt32 31)).toInt32).toInt)))] mem 0 0 Q
  refine wp_iand dd_J6_bitCount_0f7a4_32 ?_
  refine wp_istore_n (ls2 := [some (zI ((Int32.ofInt (zwr ((zwr (((Int32.ofInt (zwr (a - ((Int32.ofInt ((((Int32.ofInt a).toUInt32 >>> ((Int32.ofInt 1).toUInt32 &&& Int32.toUInt32 31)).toInt32).toInt) &&& Int32.ofInt 1431655765).toInt))) &&& Int32.ofInt 858993459).toInt) + ((Int32.ofInt ((((Int32.ofInt (zwr (a - ((Int32.ofInt ((((Int32.ofInt a).toUInt32 >>> ((Int32.ofInt 1).toUInt32 &&& Int32.toUInt32 31)).toInt32).toInt) &&& Int32.ofInt 1431655765).toInt)))).toUInt32 >>> ((Int32.ofInt 2).toUInt32 &&& Int32.toUInt32 31)).toInt32).toInt) &&& Int32.ofInt 858993459).toInt))) + ((((Int32.ofInt (zwr (((Int32.ofInt (zwr (a - ((Int32.ofInt ((((Int32.ofInt a).toUInt32 >>> ((Int32.ofInt 1).toUInt32 &&& Int32.toUInt32 31)).toInt32).toInt) &&& Int32.ofInt 1431655765).toInt))) &&& Int32.ofInt 858993459).toInt) + ((Int32.ofInt ((((Int32.ofInt (zwr (a - ((Int32.ofInt ((((Int32.ofInt a).toUInt32 >>> ((Int32.ofInt 1).toUInt32 &&& Int32.toUInt32 31)).toInt32).toInt) &&& Int32.ofInt 1431655765).toInt)))).toUInt32 >>> ((Int32.ofInt 2).toUInt32 &&& Int32.toUInt32 31)).toInt32).toInt) &&& Int32.ofInt 858993459).toInt)))).toUInt32 >>> ((Int32.ofInt 4).toUInt32 &&& Int32.toUInt32 31)).toInt32).toInt))) &&& Int32.ofInt 252645135).toInt))]) dd_J6_bitCount_0f7a4_33 rfl (by decide) rfl ?_
  refine wp_iload_n dd_J6_bitCount_0f7a4_34 rfl ?_
  refine wp_iload_n dd_J6_bitCount_0f7a4_35 rfl ?_
  refine wp_bipush dd_J6_bitCount_0f7a4_36 (by decide) ?_
  refine wp_iushr dd_J6_bitCount_0f7a4_38 ?_
  refine wp_iadd dd_J6_bitCount_0f7a4_39 ?_
  refine wp_istore_n (ls2 := [some (zI (zwr (((Int32.ofInt (zwr ((zwr (((Int32.ofInt (zwr (a - ((Int32.ofInt ((((Int32.ofInt a).toUInt32 >>> ((Int32.ofInt 1).toUInt32 &&& Int32.toUInt32 31)).toInt32).toInt) &&& Int32.ofInt 1431655765).toInt))) &&& Int32.ofInt 858993459).toInt) + ((Int32.ofInt ((((Int32.ofInt (zwr (a - ((Int32.ofInt ((((Int32.ofInt a).toUInt32 >>> ((Int32.ofInt 1).toUInt32 &&& Int32.toUInt32 31)).toInt32).toInt) &&& Int32.ofInt 1431655765).toInt)))).toUInt32 >>> ((Int32.ofInt 2).toUInt32 &&& Int32.toUInt32 31)).toInt32).toInt) &&& Int32.ofInt 858993459).toInt))) + ((((Int32.ofInt (zwr (((Int32.ofInt (zwr (a - ((Int32.ofInt ((((Int32.ofInt a).toUInt32 >>> ((Int32.ofInt 1).toUInt32 &&& Int32.toUInt32 31)).toInt32).toInt) &&& Int32.ofInt 1431655765).toInt))) &&& Int32.ofInt 858993459).toInt) + ((Int32.ofInt ((((Int32.ofInt (zwr (a - ((Int32.ofInt ((((Int32.ofInt a).toUInt32 >>> ((Int32.ofInt 1).toUInt32 &&& Int32.toUInt32 31)).toInt32).toInt) &&& Int32.ofInt 1431655765).toInt)))).toUInt32 >>> ((Int32.ofInt 2).toUInt32 &&& Int32.toUInt32 31)).toInt32).toInt) &&& Int32.ofInt 858993459).toInt)))).toUInt32 >>> ((Int32.ofInt 4).toUInt32 &&& Int32.toUInt32 31)).toInt32).toInt))) &&& Int32.ofInt 252645135).toInt) + ((((Int32.ofInt ((Int32.ofInt (zwr ((zwr (((Int32.ofInt (zwr (a - ((Int32.ofInt ((((Int32.ofInt a).toUInt32 >>> ((Int32.ofInt 1).toUInt32 &&& Int32.toUInt32 31)).toInt32).toInt) &&& Int32.ofInt 1431655765).toInt))) &&& Int32.ofInt 858993459).toInt) + ((Int32.ofInt ((((Int32.ofInt (zwr (a - ((Int32.ofInt ((((Int32.ofInt a).toUInt32 >>> ((Int32.ofInt 1).toUInt32 &&& Int32.toUInt32 31)).toInt32).toInt) &&& Int32.ofInt 1431655765).toInt)))).toUInt32 >>> ((Int32.ofInt 2).toUInt32 &&& Int32.toUInt32 31)).toInt32).toInt) &&& Int32.ofInt 858993459).toInt))) + ((((Int32.ofInt (zwr (((Int32.ofInt (zwr (a - ((Int32.ofInt ((((Int32.ofInt a).toUInt32 >>> ((Int32.ofInt 1).toUInt32 &&& Int32.toUInt32 31)).toInt32).toInt) &&& Int32.ofInt 1431655765).toInt))) &&& Int32.ofInt 858993459).toInt) + ((Int32.ofInt ((((Int32.ofInt (zwr (a - ((Int32.ofInt ((((Int32.ofInt a).toUInt32 >>> ((Int32.ofInt 1).toUInt32 &&& Int32.toUInt32 31)).toInt32).toInt) &&& Int32.ofInt 1431655765).toInt)))).toUInt32 >>> ((Int32.ofInt 2).toUInt32 &&& Int32.toUInt32 31)).toInt32).toInt) &&& Int32.ofInt 858993459).toInt)))).toUInt32 >>> ((Int32.ofInt 4).toUInt32 &&& Int32.toUInt32 31)).toInt32).toInt))) &&& Int32.ofInt 252645135).toInt)).toUInt32 >>> ((Int32.ofInt 8).toUInt32 &&& Int32.toUInt32 31)).toInt32).toInt))))]) dd_J6_bitCount_0f7a4_40 rfl (by decide) rfl ?_
  refine wp_iload_n dd_J6_bitCount_0f7a4_41 rfl ?_
  refine wp_iload_n dd_J6_bitCount_0f7a4_42 rfl ?_
  refine wp_bipush dd_J6_bitCount_0f7a4_43 (by decide) ?_
  refine wp_iushr dd_J6_bitCount_0f7a4_45 ?_
  refine wp_iadd dd_J6_bitCount_0f7a4_46 ?_
  refine wp_istore_n (ls2 := [some (zI (zwr ((zwr (((Int32.ofInt (zwr ((zwr (((Int32.ofInt (zwr (a - ((Int32.ofInt ((((Int32.ofInt a).toUInt32 >>> ((Int32.ofInt 1).toUInt32 &&& Int32.toUInt32 31)).toInt32).toInt) &&& Int32.ofInt 1431655765).toInt))) &&& Int32.ofInt 858993459).toInt) + ((Int32.ofInt ((((Int32.ofInt (zwr (a - ((Int32.ofInt ((((Int32.ofInt a).toUInt32 >>> ((Int32.ofInt 1).toUInt32 &&& Int32.toUInt32 31)).toInt32).toInt) &&& Int32.ofInt 1431655765).toInt)))).toUInt32 >>> ((Int32.ofInt 2).toUInt32 &&& Int32.toUInt32 31)).toInt32).toInt) &&& Int32.ofInt 858993459).toInt))) + ((((Int32.ofInt (zwr (((Int32.ofInt (zwr (a - ((Int32.ofInt ((((Int32.ofInt a).toUInt32 >>> ((Int32.ofInt 1).toUInt32 &&& Int32.toUInt32 31)).toInt32).toInt) &&& Int32.ofInt 1431655765).toInt))) &&& Int32.ofInt 858993459).toInt) + ((Int32.ofInt ((((Int32.ofInt (zwr (a - ((Int32.ofInt ((((Int32.ofInt a).toUInt32 >>> ((Int32.ofInt 1).toUInt32 &&& Int32.toUInt32 31)).toInt32).toInt) &&& Int32.ofInt 1431655765).toInt)))).toUInt32 >>> ((Int32.ofInt 2).toUInt32 &&& Int32.toUInt32 31)).toInt32).toInt) &&& Int32.ofInt 858993459).toInt)))).toUInt32 >>> ((Int32.ofInt 4).toUInt32 &&& Int32.toUInt32 31)).toInt32).toInt))) &&& Int32.ofInt 252645135).toInt) + ((((Int32.ofInt ((Int32.ofInt (zwr ((zwr (((Int32.ofInt (zwr (a - ((Int32.ofInt ((((Int32.ofInt a).toUInt32 >>> ((Int32.ofInt 1).toUInt32 &&& Int32.toUInt32 31)).toInt32).toInt) &&& Int32.ofInt 1431655765).toInt))) &&& Int32.ofInt 858993459).toInt) + ((Int32.ofInt ((((Int32.ofInt (zwr (a - ((Int32.ofInt ((((Int32.ofInt a).toUInt32 >>> ((Int32.ofInt 1).toUInt32 &&& Int32.toUInt32 31)).toInt32).toInt) &&& Int32.ofInt 1431655765).toInt)))).toUInt32 >>> ((Int32.ofInt 2).toUInt32 &&& Int32.toUInt32 31)).toInt32).toInt) &&& Int32.ofInt 858993459).toInt))) + ((((Int32.ofInt (zwr (((Int32.ofInt (zwr (a - ((Int32.ofInt ((((Int32.ofInt a).toUInt32 >>> ((Int32.ofInt 1).toUInt32 &&& Int32.toUInt32 31)).toInt32).toInt) &&& Int32.ofInt 1431655765).toInt))) &&& Int32.ofInt 858993459).toInt) + ((Int32.ofInt ((((Int32.ofInt (zwr (a - ((Int32.ofInt ((((Int32.ofInt a).toUInt32 >>> ((Int32.ofInt 1).toUInt32 &&& Int32.toUInt32 31)).toInt32).toInt) &&& Int32.ofInt 1431655765).toInt)))).toUInt32 >>> ((Int32.ofInt 2).toUInt32 &&& Int32.toUInt32 31)).toInt32).toInt) &&& Int32.ofInt 858993459).toInt)))).toUInt32 >>> ((Int32.ofInt 4).toUInt32 &&& Int32.toUInt32 31)).toInt32).toInt))) &&& Int32.ofInt 252645135).toInt)).toUInt32 >>> ((Int32.ofInt 8).toUInt32 &&& Int32.toUInt32 31)).toInt32).toInt))) + ((((Int32.ofInt (zwr (((Int32.ofInt (zwr ((zwr (((Int32.ofInt (zwr (a - ((Int32.ofInt ((((Int32.ofInt a).toUInt32 >>> ((Int32.ofInt 1).toUInt32 &&& Int32.toUInt32 31)).toInt32).toInt) &&& Int32.ofInt 1431655765).toInt))) &&& Int32.ofInt 858993459).toInt) + ((Int32.ofInt ((((Int32.ofInt (zwr (a - ((Int32.ofInt ((((Int32.ofInt a).toUInt32 >>> ((Int32.ofInt 1).toUInt32 &&& Int32.toUInt32 31)).toInt32).toInt) &&& Int32.ofInt 1431655765).toInt)))).toUInt32 >>> ((Int32.ofInt 2).toUInt32 &&& Int32.toUInt32 31)).toInt32).toInt) &&& Int32.ofInt 858993459).toInt))) + ((((Int32.ofInt (zwr (((Int32.ofInt (zwr (a - ((Int32.ofInt ((((Int32.ofInt a).toUInt32 >>> ((Int32.ofInt 1).toUInt32 &&& Int32.toUInt32 31)).toInt32).toInt) &&& Int32.ofInt 1431655765).toInt))) &&& Int32.ofInt 858993459).toInt) + ((Int32.ofInt ((((Int32.ofInt (zwr (a - ((Int32.ofInt ((((Int32.ofInt a).toUInt32 >>> ((Int32.ofInt 1).toUInt32 &&& Int32.toUInt32 31)).toInt32).toInt) &&& Int32.ofInt 1431655765).toInt)))).toUInt32 >>> ((Int32.ofInt 2).toUInt32 &&& Int32.toUInt32 31)).toInt32).toInt) &&& Int32.ofInt 858993459).toInt)))).toUInt32 >>> ((Int32.ofInt 4).toUInt32 &&& Int32.toUInt32 31)).toInt32).toInt))) &&& Int32.ofInt 252645135).toInt) + ((((Int32.ofInt ((Int32.ofInt (zwr ((zwr (((Int32.ofInt (zwr (a - ((Int32.ofInt ((((Int32.ofInt a).toUInt32 >>> ((Int32.ofInt 1).toUInt32 &&& Int32.toUInt32 31)).toInt32).toInt) &&& Int32.ofInt 1431655765).toInt))) &&& Int32.ofInt 858993459).toInt) + ((Int32.ofInt ((((Int32.ofInt (zwr (a - ((Int32.ofInt ((((Int32.ofInt a).toUInt32 >>> ((Int32.ofInt 1).toUInt32 &&& Int32.toUInt32 31)).toInt32).toInt) &&& Int32.ofInt 1431655765).toInt)))).toUInt32 >>> ((Int32.ofInt 2).toUInt32 &&& Int32.toUInt32 31)).toInt32).toInt) &&& Int32.ofInt 858993459).toInt))) + ((((Int32.ofInt (zwr (((Int32.ofInt (zwr (a - ((Int32.ofInt ((((Int32.ofInt a).toUInt32 >>> ((Int32.ofInt 1).toUInt32 &&& Int32.toUInt32 31)).toInt32).toInt) &&& Int32.ofInt 1431655765).toInt))) &&& Int32.ofInt 858993459).toInt) + ((Int32.ofInt ((((Int32.ofInt (zwr (a - ((Int32.ofInt ((((Int32.ofInt a).toUInt32 >>> ((Int32.ofInt 1).toUInt32 &&& Int32.toUInt32 31)).toInt32).toInt) &&& Int32.ofInt 1431655765).toInt)))).toUInt32 >>> ((Int32.ofInt 2).toUInt32 &&& Int32.toUInt32 31)).toInt32).toInt) &&& Int32.ofInt 858993459).toInt)))).toUInt32 >>> ((Int32.ofInt 4).toUInt32 &&& Int32.toUInt32 31)).toInt32).toInt))) &&& Int32.ofInt 252645135).toInt)).toUInt32 >>> ((Int32.ofInt 8).toUInt32 &&& Int32.toUInt32 31)).toInt32).toInt)))).toUInt32 >>> ((Int32.ofInt 16).toUInt32 &&& Int32.toUInt32 31)).toInt32).toInt))))]) dd_J6_bitCount_0f7a4_47 rfl (by decide) rfl ?_
  refine wp_iload_n dd_J6_bitCount_0f7a4_48 rfl ?_
  refine wp_bipush dd_J6_bitCount_0f7a4_49 (by decide) ?_
  refine wp_iand dd_J6_bitCount_0f7a4_51 ?_
  refine wp_ireturn (st := []) dd_J6_bitCount_0f7a4_52 rfl ?_
  refine zq_I ?_ rfl k
  obtain ⟨x, rfl⟩ := Int.eq_ofNat_of_zero_le ha.1
  have key : ∀ x ∈ List.range 256, (Int32.ofInt (zwr ((zwr (((Int32.ofInt (zwr ((zwr (((Int32.ofInt (zwr ((x : Int) - ((Int32.ofInt ((((Int32.ofInt (x : Int)).toUInt32 >>> ((Int32.ofInt 1).toUInt32 &&& Int32.toUInt32 31)).toInt32).toInt) &&& Int32.ofInt 1431655765).toInt))) &&& Int32.ofInt 858993459).toInt) + ((Int32.ofInt ((((Int32.ofInt (zwr ((x : Int) - ((Int32.ofInt ((((Int32.ofInt (x : Int)).toUInt32 >>> ((Int32.ofInt 1).toUInt32 &&& Int32.toUInt32 31)).toInt32).toInt) &&& Int32.ofInt 1431655765).toInt)))).toUInt32 >>> ((Int32.ofInt 2).toUInt32 &&& Int32.toUInt32 31)).toInt32).toInt) &&& Int32.ofInt 858993459).toInt))) + ((((Int32.ofInt (zwr (((Int32.ofInt (zwr ((x : Int) - ((Int32.ofInt ((((Int32.ofInt (x : Int)).toUInt32 >>> ((Int32.ofInt 1).toUInt32 &&& Int32.toUInt32 31)).toInt32).toInt) &&& Int32.ofInt 1431655765).toInt))) &&& Int32.ofInt 858993459).toInt) + ((Int32.ofInt ((((Int32.ofInt (zwr ((x : Int) - ((Int32.ofInt ((((Int32.ofInt (x : Int)).toUInt32 >>> ((Int32.ofInt 1).toUInt32 &&& Int32.toUInt32 31)).toInt32).toInt) &&& Int32.ofInt 1431655765).toInt)))).toUInt32 >>> ((Int32.ofInt 2).toUInt32 &&& Int32.toUInt32 31)).toInt32).toInt) &&& Int32.ofInt 858993459).toInt)))).toUInt32 >>> ((Int32.ofInt 4).toUInt32 &&& Int32.toUInt32 31)).toInt32).toInt))) &&& Int32.ofInt 252645135).toInt) + ((((Int32.ofInt ((Int32.ofInt (zwr ((zwr (((Int32.ofInt (zwr ((x : Int) - ((Int32.ofInt ((((Int32.ofInt (x : Int)).toUInt32 >>> ((Int32.ofInt 1).toUInt32 &&& Int32.toUInt32 31)).toInt32).toInt) &&& Int32.ofInt 1431655765).toInt))) &&& Int32.ofInt 858993459).toInt) + ((Int32.ofInt ((((Int32.ofInt (zwr ((x : Int) - ((Int32.ofInt ((((Int32.ofInt (x : Int)).toUInt32 >>> ((Int32.ofInt 1).toUInt32 &&& Int32.toUInt32 31)).toInt32).toInt) &&& Int32.ofInt 1431655765).toInt)))).toUInt32 >>> ((Int32.ofInt 2).toUInt32 &&& Int32.toUInt32 31)).toInt32).toInt) &&& Int32.ofInt 858993459).toInt))) + ((((Int32.ofInt (zwr (((Int32.ofInt (zwr ((x : Int) - ((Int32.ofInt ((((Int32.ofInt (x : Int)).toUInt32 >>> ((Int32.ofInt 1).toUInt32 &&& Int32.toUInt32 31)).toInt32).toInt) &&& Int32.ofInt 1431655765).toInt))) &&& Int32.ofInt 858993459).toInt) + ((Int32.ofInt ((((Int32.ofInt (zwr ((x : Int) - ((Int32.ofInt ((((Int32.ofInt (x : Int)).toUInt32 >>> ((Int32.ofInt 1).toUInt32 &&& Int32.toUInt32 31)).toInt32).toInt) &&& Int32.ofInt 1431655765).toInt)))).toUInt32 >>> ((Int32.ofInt 2).toUInt32 &&& Int32.toUInt32 31)).toInt32).toInt) &&& Int32.ofInt 858993459).toInt)))).toUInt32 >>> ((Int32.ofInt 4).toUInt32 &&& Int32.toUInt32 31)).toInt32).toInt))) &&& Int32.ofInt 252645135).toInt)).toUInt32 >>> ((Int32.ofInt 8).toUInt32 &&& Int32.toUInt32 31)).toInt32).toInt))) + ((((Int32.ofInt (zwr (((Int32.ofInt (zwr ((zwr (((Int32.ofInt (zwr ((x : Int) - ((Int32.ofInt ((((Int32.ofInt (x : Int)).toUInt32 >>> ((Int32.ofInt 1).toUInt32 &&& Int32.toUInt32 31)).toInt32).toInt) &&& Int32.ofInt 1431655765).toInt))) &&& Int32.ofInt 858993459).toInt) + ((Int32.ofInt ((((Int32.ofInt (zwr ((x : Int) - ((Int32.ofInt ((((Int32.ofInt (x : Int)).toUInt32 >>> ((Int32.ofInt 1).toUInt32 &&& Int32.toUInt32 31)).toInt32).toInt) &&& Int32.ofInt 1431655765).toInt)))).toUInt32 >>> ((Int32.ofInt 2).toUInt32 &&& Int32.toUInt32 31)).toInt32).toInt) &&& Int32.ofInt 858993459).toInt))) + ((((Int32.ofInt (zwr (((Int32.ofInt (zwr ((x : Int) - ((Int32.ofInt ((((Int32.ofInt (x : Int)).toUInt32 >>> ((Int32.ofInt 1).toUInt32 &&& Int32.toUInt32 31)).toInt32).toInt) &&& Int32.ofInt 1431655765).toInt))) &&& Int32.ofInt 858993459).toInt) + ((Int32.ofInt ((((Int32.ofInt (zwr ((x : Int) - ((Int32.ofInt ((((Int32.ofInt (x : Int)).toUInt32 >>> ((Int32.ofInt 1).toUInt32 &&& Int32.toUInt32 31)).toInt32).toInt) &&& Int32.ofInt 1431655765).toInt)))).toUInt32 >>> ((Int32.ofInt 2).toUInt32 &&& Int32.toUInt32 31)).toInt32).toInt) &&& Int32.ofInt 858993459).toInt)))).toUInt32 >>> ((Int32.ofInt 4).toUInt32 &&& Int32.toUInt32 31)).toInt32).toInt))) &&& Int32.ofInt 252645135).toInt) + ((((Int32.ofInt ((Int32.ofInt (zwr ((zwr (((Int32.ofInt (zwr ((x : Int) - ((Int32.ofInt ((((Int32.ofInt (x : Int)).toUInt32 >>> ((Int32.ofInt 1).toUInt32 &&& Int32.toUInt32 31)).toInt32).toInt) &&& Int32.ofInt 1431655765).toInt))) &&& Int32.ofInt 858993459).toInt) + ((Int32.ofInt ((((Int32.ofInt (zwr ((x : Int) - ((Int32.ofInt ((((Int32.ofInt (x : Int)).toUInt32 >>> ((Int32.ofInt 1).toUInt32 &&& Int32.toUInt32 31)).toInt32).toInt) &&& Int32.ofInt 1431655765).toInt)))).toUInt32 >>> ((Int32.ofInt 2).toUInt32 &&& Int32.toUInt32 31)).toInt32).toInt) &&& Int32.ofInt 858993459).toInt))) + ((((Int32.ofInt (zwr (((Int32.ofInt (zwr ((x : Int) - ((Int32.ofInt ((((Int32.ofInt (x : Int)).toUInt32 >>> ((Int32.ofInt 1).toUInt32 &&& Int32.toUInt32 31)).toInt32).toInt) &&& Int32.ofInt 1431655765).toInt))) &&& Int32.ofInt 858993459).toInt) + ((Int32.ofInt ((((Int32.ofInt (zwr ((x : Int) - ((Int32.ofInt ((((Int32.ofInt (x : Int)).toUInt32 >>> ((Int32.ofInt 1).toUInt32 &&& Int32.toUInt32 31)).toInt32).toInt) &&& Int32.ofInt 1431655765).toInt)))).toUInt32 >>> ((Int32.ofInt 2).toUInt32 &&& Int32.toUInt32 31)).toInt32).toInt) &&& Int32.ofInt 858993459).toInt)))).toUInt32 >>> ((Int32.ofInt 4).toUInt32 &&& Int32.toUInt32 31)).toInt32).toInt))) &&& Int32.ofInt 252645135).toInt)).toUInt32 >>> ((Int32.ofInt 8).toUInt32 &&& Int32.toUInt32 31)).toInt32).toInt)))).toUInt32 >>> ((Int32.ofInt 16).toUInt32 &&& Int32.toUInt32 31)).toInt32).toInt))) &&& Int32.ofInt 63).toInt = zbits (x : Int) := by decide +kernel
  exact key x (List.mem_range.mpr (by omega))

set_option maxRecDepth 100000 in
set_option maxHeartbeats 4000000 in
theorem sp_X9_sizeOf {l : Launch} {L : Nat} {mem : zMem} {Q : zQ} (c d : Int → Int) (o : Nat) (r : Nat) (le : Int) (tb : Int) (ho : zP o) (ho2 : zP r) (hc : zRw mem o c) (hd : zRw mem r d) (hl : le = 0 ∨ le = 1) (hn : 0 ≤ zdeg c le 25 ∧ 0 ≤ zdeg d le 25) (k : Q (some (zI (zsz c d le tb))) (zS L) mem) : zw_Ok l mm_X9_sizeOf [zR o, zR r, zI le, zI tb] (zS L) mem Q := by
  refine zw_okA (fun hA => ?_)
  have rg_le : -2147483648 ≤ le ∧ le < 2147483648 := hA.2.2.1
  have rg_tb : -2147483648 ≤ tb ∧ tb < 2147483648 := hA.2.2.2.1
  refine zw_enter (by decide) (Nat.le_of_ble_eq_true rfl) rfl ?_
  show zw_Wp l mm_X9_sizeOf (zS L) 0 [some (zR o), some (zR r), some (zI le), some (zI tb), none, none] [] mem 0 0 Q
  have e1 := hc.deg le
  have e2 := hd.deg le
  have d1 := zdeg_4 (c := c) hl
  have d2 := zdeg_4 (c := d) hl
  refine wp_aload_n dd_X9_sizeOf_0 rfl ?_
  refine wp_iload_n dd_X9_sizeOf_1 rfl ?_
  refine wp_callV (M' := mm_X4_degreeIn) (As := [zI le]) (rest := []) dd_X9_sizeOf_2 lk_X9_24 mV_X4_degreeIn ho.k ho.i ⟨_, _, rfl⟩ rfl (by decide) (by decide) (Nat.le_of_ble_eq_true rfl) rfl (sp_X4_degreeIn  o le (by first | assumption | omega) (by first | assumption | omega) ?_)
  show zw_Wp l mm_X9_sizeOf (zS L) 5 [some (zR o), some (zR r), some (zI le), some (zI tb), none, none] [zI (zdeg (mem (o + 2)) le 25)] mem 0 0 Q
  rw [show (zdeg (mem (o + 2)) le 25 : Int) = zdeg c le 25 from e1]
  refine wp_istore (ls2 := [some (zR o), some (zR r), some (zI le), some (zI tb), some (zI (zdeg c le 25)), none]) dd_X9_sizeOf_5 rfl (by decide) rfl ?_
  refine wp_aload_n dd_X9_sizeOf_7 rfl ?_
  refine wp_iload_n dd_X9_sizeOf_8 rfl ?_
  refine wp_callV (M' := mm_X4_degreeIn) (As := [zI le]) (rest := []) dd_X9_sizeOf_9 lk_X9_24 mV_X4_degreeIn ho2.k ho2.i ⟨_, _, rfl⟩ rfl (by decide) (by decide) (Nat.le_of_ble_eq_true rfl) rfl (sp_X4_degreeIn  r le (by first | assumption | omega) (by first | assumption | omega) ?_)
  show zw_Wp l mm_X9_sizeOf (zS L) 12 [some (zR o), some (zR r), some (zI le), some (zI tb), some (zI (zdeg c le 25)), none] [zI (zdeg (mem (r + 2)) le 25)] mem 0 0 Q
  rw [show (zdeg (mem (r + 2)) le 25 : Int) = zdeg d le 25 from e2]
  refine wp_istore (ls2 := [some (zR o), some (zR r), some (zI le), some (zI tb), some (zI (zdeg c le 25)), some (zI (zdeg d le 25))]) dd_X9_sizeOf_12 rfl (by decide) rfl ?_
  refine wp_iconst dd_X9_sizeOf_14 (zr_lit rfl) ?_
  refine wp_iload_n dd_X9_sizeOf_15 rfl ?_
  refine wp_if_ne (tgt := 27) dd_X9_sizeOf_16 (by decide) (fun c16_1 => ?_) (fun c16_1 => ?_)
  · skip
    refine wp_iload dd_X9_sizeOf_27 rfl ?_
    refine wp_iload dd_X9_sizeOf_29 rfl ?_
    refine wp_callS (M' := mm_J9_max_7cf53) (As := [zI (zdeg c le 25), zI (zdeg d le 25)]) (rest := [zI 0]) dd_X9_sizeOf_31 lk_X9_30 mS_J9_max_7cf53 rfl (by decide) (by decide) (Nat.le_of_ble_eq_true rfl) rfl (sp_J9_max_7cf53  (zdeg c le 25) (zdeg d le 25)  ?_)
    show zw_Wp l mm_X9_sizeOf (zS L) 34 [some (zR o), some (zR r), some (zI le), some (zI tb), some (zI (zdeg c le 25)), some (zI (zdeg d le 25))] [zI (max (zdeg c le 25) (zdeg d le 25)), zI 0] mem 0 0 Q
    refine wp_callS (M' := mm_J9_max_7cf53) (As := [zI 0, zI (max (zdeg c le 25) (zdeg d le 25))]) (rest := []) dd_X9_sizeOf_34 lk_X9_30 mS_J9_max_7cf53 rfl (by decide) (by decide) (Nat.le_of_ble_eq_true rfl) rfl (sp_J9_max_7cf53  0 (max (zdeg c le 25) (zdeg d le 25))  ?_)
    show zw_Wp l mm_X9_sizeOf (zS L) 37 [some (zR o), some (zR r), some (zI le), some (zI tb), some (zI (zdeg c le 25)), some (zI (zdeg d le 25))] [zI (max 0 (max (zdeg c le 25) (zdeg d le 25)))] mem 0 0 Q
    refine wp_ireturn (st := []) dd_X9_sizeOf_37 rfl ?_
    refine zq_I ?_ ?_ k
    · unfold zsz; first | (rw [if_pos (by omega)]; omega) | (rw [if_neg (by omega)]; omega)
    · rfl
  · skip
    refine wp_iload dd_X9_sizeOf_19 rfl ?_
    refine wp_iload dd_X9_sizeOf_21 rfl ?_
    refine wp_iaddC dd_X9_sizeOf_23 (by omega) ?_
    refine wp_goto (tgt := 34) dd_X9_sizeOf_24 (by decide) ?_
    refine wp_callS (M' := mm_J9_max_7cf53) (As := [zI 0, zI ((zdeg c le 25) + (zdeg d le 25))]) (rest := []) dd_X9_sizeOf_34 lk_X9_30 mS_J9_max_7cf53 rfl (by decide) (by decide) (Nat.le_of_ble_eq_true rfl) rfl (sp_J9_max_7cf53  0 ((zdeg c le 25) + (zdeg d le 25))  ?_)
    show zw_Wp l mm_X9_sizeOf (zS L) 37 [some (zR o), some (zR r), some (zI le), some (zI tb), some (zI (zdeg c le 25)), some (zI (zdeg d le 25))] [zI (max 0 ((zdeg c le 25) + (zdeg d le 25)))] mem 0 0 Q
    refine wp_ireturn (st := []) dd_X9_sizeOf_37 rfl ?_
    refine zq_I ?_ ?_ k
    · unfold zsz; first | (rw [if_pos (by omega)]; omega) | (rw [if_neg (by omega)]; omega)
    · rfl

set_option maxRecDepth 100000 in
set_option maxHeartbeats 4000000 in
theorem sp_X9_baseOf {l : Launch} {L : Nat} {mem : zMem} {Q : zQ}  (i : Int) (j : Int) (hi : 0 ≤ i ∧ i ≤ 8) (hj : 0 ≤ j ∧ j ≤ 8) (k : Q (some (zI ((i * 8 + j) * 9))) (zS L) mem) : zw_Ok l mm_X9_baseOf [zI i, zI j] (zS L) mem Q := by
  refine zw_okA (fun hA => ?_)
  have rg_i : -2147483648 ≤ i ∧ i < 2147483648 := hA.1
  have rg_j : -2147483648 ≤ j ∧ j < 2147483648 := hA.2.1
  refine zw_enter (by decide) (Nat.le_of_ble_eq_true rfl) rfl ?_
  show zw_Wp l mm_X9_baseOf (zS L) 0 [some (zI i), some (zI j)] [] mem 0 0 Q
  refine wp_iload_n dd_X9_baseOf_0 rfl ?_
  refine wp_bipush dd_X9_baseOf_1 (by decide) ?_
  refine wp_imulC dd_X9_baseOf_3 (by omega) ?_
  refine wp_iload_n dd_X9_baseOf_4 rfl ?_
  refine wp_iaddC dd_X9_baseOf_5 (by omega) ?_
  refine wp_bipush dd_X9_baseOf_6 (by decide) ?_
  refine wp_imulC dd_X9_baseOf_8 (by omega) ?_
  refine wp_ireturn (st := []) dd_X9_baseOf_9 rfl ?_
  refine zq_I ?_ ?_ k
  · first | rfl | omega | (rw [if_pos (by omega)]) | (rw [if_neg (by omega)])
  · rfl

set_option maxRecDepth 100000 in
set_option maxHeartbeats 4000000 in
theorem sp_X9_clear {l : Launch} {L : Nat} {mem : zMem} {Q : zQ}  (n : Int) (sp : Int)  (k : ∀ (mem2 : zMem), (mem2 48 4 = min n 8 ∧ mem2 48 5 = sp ∧ ∀ s : Int, s ≠ 4 → s ≠ 5 → mem2 48 s = mem 48 s) → (∀ x : Int, 0 ≤ x → x < 576 → mem2 50 x = 0) → (∀ a : Nat, a ≠ 48 → a ≠ 50 → mem2 a = mem a) → Q none (zS L) mem2) : zw_Ok l mm_X9_clear [zR 48, zI n, zI sp] (zS L) mem Q := by
  refine zw_okA (fun hA => ?_)
  have rg_n : -2147483648 ≤ n ∧ n < 2147483648 := hA.2.1
  have rg_sp : -2147483648 ≤ sp ∧ sp < 2147483648 := hA.2.2.1
  refine zw_enter (by decide) (Nat.le_of_ble_eq_true rfl) rfl ?_
  show zw_Wp l mm_X9_clear (zS L) 0 [some (zR 48), some (zI n), some (zI sp)] [] mem 0 0 Q
  refine wp_aload_n dd_X9_clear_0 rfl ?_
  refine wp_iload_n dd_X9_clear_1 rfl ?_
  refine wp_bipush dd_X9_clear_2 (by decide) ?_
  refine wp_callS (M' := mm_J9_min_7cf53) (As := [zI n, zI 8]) (rest := [zR 48]) dd_X9_clear_4 lk_X9_36 mS_J9_min_7cf53 rfl (by decide) (by decide) (Nat.le_of_ble_eq_true rfl) rfl (sp_J9_min_7cf53  n 8  ?_)
  show zw_Wp l mm_X9_clear (zS L) 7 [some (zR 48), some (zI n), some (zI sp)] [zI (min n 8), zR 48] mem 0 0 Q
  refine wp_putzI 4 rfl dd_X9_clear_7 pf_X9_39 rfl kk_48 (by decide) (zlt rfl) ?_
  refine wp_aload_n dd_X9_clear_10 rfl ?_
  refine wp_iload_n dd_X9_clear_11 rfl ?_
  refine wp_putzI 5 rfl dd_X9_clear_12 pf_X9_43 rfl kk_48 (by decide) (zlt rfl) ?_
  refine wp_aload_n dd_X9_clear_15 rfl ?_
  refine wp_getR dd_X9_clear_16 gf_X9_15 rfl kk_48 (by decide) (zlt rfl) rr_48_1 ?_
  refine wp_iconst dd_X9_clear_19 (zr_lit rfl) ?_
  refine wp_callS (M' := mm_J7_fill_53178) (As := [zR 50, zI 0]) (rest := []) dd_X9_clear_20 lk_X9_46 mS_J7_fill_53178 rfl (by decide) (by decide) (Nat.le_of_ble_eq_true rfl) rfl (sp_J7_fill_53178  50 0 kk_50 (zlt rfl) (by decide) (fun mf ff gf => ?_))
  show zw_Wp l mm_X9_clear (zS L) 23 [some (zR 48), some (zI n), some (zI sp)] [] mf 0 0 Q
  refine wp_return (st := []) dd_X9_clear_23 rfl ?_
  refine k mf ⟨?_, ?_, fun s h1 h2 => ?_⟩ ff (fun a h1 h2 => ?_)
  · rw [gf 48 (by decide), zu_n (Or.inr (by decide)), zu_s]
  · rw [gf 48 (by decide), zu_s]
  · rw [gf 48 (by decide), zu_n (Or.inr h2), zu_n (Or.inr h1)]
  · rw [gf a h2, zu_row h1, zu_row h1]

set_option maxRecDepth 100000 in
set_option maxHeartbeats 4000000 in
theorem sp_X9_cellPower {l : Launch} {L : Nat} {mem : zMem} {Q : zQ}  (i : Int) (j : Int) (k0 : Int) (hi : 0 ≤ i ∧ i < 8) (hj : 0 ≤ j ∧ j < 8) (hk0 : 0 ≤ k0 ∧ k0 ≤ 8) (k : Q (some (zI (mem 50 ((i * 8 + j) * 9 + k0)))) (zS L) mem) : zw_Ok l mm_X9_cellPower [zR 48, zI i, zI j, zI k0] (zS L) mem Q := by
  refine zw_okA (fun hA => ?_)
  have rg_i : -2147483648 ≤ i ∧ i < 2147483648 := hA.2.1
  have rg_j : -2147483648 ≤ j ∧ j < 2147483648 := hA.2.2.1
  have rg_k0 : -2147483648 ≤ k0 ∧ k0 < 2147483648 := hA.2.2.2.1
  refine zw_enter (by decide) (Nat.le_of_ble_eq_true rfl) rfl ?_
  show zw_Wp l mm_X9_cellPower (zS L) 0 [some (zR 48), some (zI i), some (zI j), some (zI k0)] [] mem 0 0 Q
  refine wp_aload_n dd_X9_cellPower_0 rfl ?_
  refine wp_getR dd_X9_cellPower_1 gf_X9_15 rfl kk_48 (by decide) (zlt rfl) rr_48_1 ?_
  refine wp_iload_n dd_X9_cellPower_4 rfl ?_
  refine wp_iload_n dd_X9_cellPower_5 rfl ?_
  refine wp_callS (M' := mm_X9_baseOf) (As := [zI i, zI j]) (rest := [zR 50]) dd_X9_cellPower_6 lk_X9_52 mS_X9_baseOf rfl (by decide) (by decide) (Nat.le_of_ble_eq_true rfl) rfl (sp_X9_baseOf  i j (by first | assumption | omega) (by first | assumption | omega) ?_)
  show zw_Wp l mm_X9_cellPower (zS L) 9 [some (zR 48), some (zI i), some (zI j), some (zI k0)] [zI ((i * 8 + j) * 9), zR 50] mem 0 0 Q
  refine wp_iload_n dd_X9_cellPower_9 rfl ?_
  refine wp_iaddC dd_X9_cellPower_10 (by omega) ?_
  refine wp_iald dd_X9_cellPower_11 kk_50 (zlt rfl) (by omega) (by omega) ?_
  refine wp_ireturn (st := []) dd_X9_cellPower_12 rfl ?_
  refine zq_I ?_ ?_ k
  · first | rfl | omega | (rw [if_pos (by omega)]) | (rw [if_neg (by omega)])
  · rfl

set_option maxRecDepth 100000 in
set_option maxHeartbeats 4000000 in
theorem sp_X9_setNumber {l : Launch} {L : Nat} {mem : zMem} {Q : zQ}  (i : Int) (j : Int) (v : Int) (hi : 0 ≤ i ∧ i < 8) (hj : 0 ≤ j ∧ j < 8) (k : Q none (zS L) (zu mem 50 ((i * 8 + j) * 9) v)) : zw_Ok l mm_X9_setNumber [zR 48, zI i, zI j, zI v] (zS L) mem Q := by
  refine zw_okA (fun hA => ?_)
  have rg_i : -2147483648 ≤ i ∧ i < 2147483648 := hA.2.1
  have rg_j : -2147483648 ≤ j ∧ j < 2147483648 := hA.2.2.1
  have rg_v : -2147483648 ≤ v ∧ v < 2147483648 := hA.2.2.2.1
  refine zw_enter (by decide) (Nat.le_of_ble_eq_true rfl) rfl ?_
  show zw_Wp l mm_X9_setNumber (zS L) 0 [some (zR 48), some (zI i), some (zI j), some (zI v)] [] mem 0 0 Q
  refine wp_aload_n dd_X9_setNumber_0 rfl ?_
  refine wp_getR dd_X9_setNumber_1 gf_X9_15 rfl kk_48 (by decide) (zlt rfl) rr_48_1 ?_
  refine wp_iload_n dd_X9_setNumber_4 rfl ?_
  refine wp_iload_n dd_X9_setNumber_5 rfl ?_
  refine wp_callS (M' := mm_X9_baseOf) (As := [zI i, zI j]) (rest := [zR 50]) dd_X9_setNumber_6 lk_X9_52 mS_X9_baseOf rfl (by decide) (by decide) (Nat.le_of_ble_eq_true rfl) rfl (sp_X9_baseOf  i j (by first | assumption | omega) (by first | assumption | omega) ?_)
  show zw_Wp l mm_X9_setNumber (zS L) 9 [some (zR 48), some (zI i), some (zI j), some (zI v)] [zI ((i * 8 + j) * 9), zR 50] mem 0 0 Q
  refine wp_iload_n dd_X9_setNumber_9 rfl ?_
  refine wp_iast dd_X9_setNumber_10 kk_50 (zlt rfl) (by omega) (by omega) ?_
  refine wp_return (st := []) dd_X9_setNumber_11 rfl ?_
  exact k

set_option maxRecDepth 100000 in
set_option maxHeartbeats 4000000 in
theorem sp_X9_reduceCell {l : Launch} {L : Nat} {mem : zMem} {Q : zQ}  (b : Int) (p : Int) (hb : 0 ≤ b ∧ b ≤ 567) (hp : 0 < p) (hs : 0 ≤ mem 48 5 ∧ mem 48 5 ≤ 8) (k : ∀ (mem2 : zMem), (∀ x : Int, mem2 50 x = if b ≤ x ∧ x ≤ b + mem 48 5 then mem 50 x % p else mem 50 x) → (∀ a : Nat, a ≠ 50 → mem2 a = mem a) → Q none (zS L) mem2) : zw_Ok l mm_X9_reduceCell [zR 48, zI b, zI p] (zS L) mem Q := by
  refine zw_okA (fun hA => ?_)
  have rg_b : -2147483648 ≤ b ∧ b < 2147483648 := hA.2.1
  have rg_p : -2147483648 ≤ p ∧ p < 2147483648 := hA.2.2.1
  refine zw_enter (by decide) (Nat.le_of_ble_eq_true rfl) rfl ?_
  show zw_Wp l mm_X9_reduceCell (zS L) 0 [some (zR 48), some (zI b), some (zI p), none] [] mem 0 0 Q
  refine wp_iconst dd_X9_reduceCell_0 (zr_lit rfl) ?_
  refine wp_istore_n (ls2 := [some (zR 48), some (zI b), some (zI p), some (zI 0)]) dd_X9_reduceCell_1 rfl (by decide) rfl ?_
  have lp2 : ∀ (nf : Nat) (i : Int) (mm : zMem), (0 ≤ i) → (i ≤ mem 48 5 + 1) → (∀ x : Int, mm 50 x = if b ≤ x ∧ x < b + i then mem 50 x % p else mem 50 x) → (∀ a : Nat, a ≠ 50 → mm a = mem a) → (mem 48 5 + 1 - i) < (nf : Int) → zw_Wp l mm_X9_reduceCell (zS L) 2 [some (zR 48), some (zI b), some (zI p), some (zI i)] [] mm 0 0 Q := by
    intro nf
    induction nf with
    | zero =>
      intro i mm i0 i1 h2 h3 hmu
      exfalso; omega
    | succ nf ih2 =>
      intro i mm i0 i1 h2 h3 hmu
      have m5 : mm 48 5 = mem 48 5 := by rw [h3 48 (by decide)]
      refine wp_iload_n dd_X9_reduceCell_2 rfl ?_
      refine wp_aload_n dd_X9_reduceCell_3 rfl ?_
      refine wp_getZ 5 rfl dd_X9_reduceCell_4 gf_X9_43 rfl kk_48 (by decide) (zlt rfl) ?_
      refine wp_icmp_gt (tgt := 36) dd_X9_reduceCell_7 (by decide) (fun c7_1 => ?_) (fun c7_1 => ?_)
      · skip
        refine wp_return (st := []) dd_X9_reduceCell_36 rfl ?_
        refine k mm (fun x => ?_) h3
        rw [h2 x]
        by_cases q : b ≤ x ∧ x ≤ b + mem 48 5
        · rw [if_pos q, if_pos (by omega)]
        · rw [if_neg q, if_neg (by omega)]
      · skip
        refine wp_aload_n dd_X9_reduceCell_10 rfl ?_
        refine wp_getR dd_X9_reduceCell_11 gf_X9_15 rfl kk_48 (by decide) (zlt rfl) rr_48_1 ?_
        refine wp_iload_n dd_X9_reduceCell_14 rfl ?_
        refine wp_iload_n dd_X9_reduceCell_15 rfl ?_
        refine wp_iaddC dd_X9_reduceCell_16 (by omega) ?_
        refine wp_aload_n dd_X9_reduceCell_17 rfl ?_
        refine wp_getR dd_X9_reduceCell_18 gf_X9_15 rfl kk_48 (by decide) (zlt rfl) rr_48_1 ?_
        refine wp_iload_n dd_X9_reduceCell_21 rfl ?_
        refine wp_iload_n dd_X9_reduceCell_22 rfl ?_
        refine wp_iaddC dd_X9_reduceCell_23 (by omega) ?_
        refine wp_iald dd_X9_reduceCell_24 kk_50 (zlt rfl) (by omega) (by omega) ?_
        refine wp_iload_n dd_X9_reduceCell_25 rfl ?_
        refine wp_callS (M' := mm_J9_floorMod_7cf53) (As := [zI (mm 50 (b + i)), zI p]) (rest := [zI (b + i), zR 50]) dd_X9_reduceCell_26 lk_X9_79 mS_J9_floorMod_7cf53 rfl (by decide) (by decide) (Nat.le_of_ble_eq_true rfl) rfl (sp_J9_floorMod_7cf53  (mm 50 (b + i)) p (by first | assumption | omega) ?_)
        show zw_Wp l mm_X9_reduceCell (zS L) 29 [some (zR 48), some (zI b), some (zI p), some (zI i)] [zI ((mm 50 (b + i)) % p), zI (b + i), zR 50] mm 0 0 Q
        refine wp_iast dd_X9_reduceCell_29 kk_50 (zlt rfl) (by omega) (by omega) ?_
        refine wp_iincC (ls2 := [some (zR 48), some (zI b), some (zI p), some (zI (i + 1))]) dd_X9_reduceCell_30 rfl rfl (by decide) (by omega) rfl ?_
        refine wp_goto (tgt := 2) dd_X9_reduceCell_33 (by decide) ?_
        refine ih2 (i + 1) (zu mm 50 (b + i) ((mm 50 (b + i)) % p)) ?_ ?_ ?_ ?_ ?_
        · first | omega | assumption | (intros; omega)
        · first | omega | assumption | (intros; omega)
        · intro x
          by_cases hx : x = b + i
          · subst hx; rw [zu_s, h2 (b + i), if_neg (by omega), if_pos (by omega)]
          · rw [zu_n (Or.inr hx), h2 x]
            by_cases hl9 : b ≤ x ∧ x < b + i
            · rw [if_pos hl9, if_pos (by omega)]
            · rw [if_neg hl9, if_neg (by omega)]
        · intro a ha; rw [zu_row ha]; exact h3 a ha
        · omega
  refine lp2 ((mem 48 5 + 1 - 0 : Int)).toNat.succ 0 mem ?_ ?_ ?_ ?_ ?_
  · first | omega | assumption | (intros; omega)
  · first | omega | assumption | (intros; omega)
  · intro x; rw [if_neg (by omega)]
  · intros; rfl
  · omega

set_option maxRecDepth 100000 in
set_option maxHeartbeats 4000000 in
theorem sp_X9_fillSylvester {l : Launch} {L : Nat} {mem : zMem} {Q : zQ} (c d : Int → Int) (o : Nat) (r : Nat) (le : Int) (i : Int) (j : Int) (ho : zP o) (ho2 : zP r) (hc : zRw mem o c) (hd : zRw mem r d) (hl : le = 0 ∨ le = 1) (hi : 0 ≤ i ∧ i < 8) (hj : 0 ≤ j ∧ j < 8) (h6 : mem 48 6 = zdeg c le 25) (h7 : mem 48 7 = zdeg d le 25) (k : ∀ (mem2 : zMem), (∀ x : Int, mem2 50 x = if (i * 8 + j) * 9 ≤ x ∧ x ≤ (i * 8 + j) * 9 + 4 then zsyl c d le i j (x - (i * 8 + j) * 9) else mem 50 x) → (∀ a : Nat, a ≠ 50 → mem2 a = mem a) → Q none (zS L) mem2) : zw_Ok l mm_X9_fillSylvester [zR 48, zR o, zR r, zI le, zI i, zI j] (zS L) mem Q := by
  refine zw_okA (fun hA => ?_)
  have rg_le : -2147483648 ≤ le ∧ le < 2147483648 := hA.2.2.2.1
  have rg_i : -2147483648 ≤ i ∧ i < 2147483648 := hA.2.2.2.2.1
  have rg_j : -2147483648 ≤ j ∧ j < 2147483648 := hA.2.2.2.2.2.1
  refine zw_enter (by decide) (Nat.le_of_ble_eq_true rfl) rfl ?_
  show zw_Wp l mm_X9_fillSylvester (zS L) 0 [some (zR 48), some (zR o), some (zR r), some (zI le), some (zI i), some (zI j), none, none] [] mem 0 0 Q
  have d1 := zdeg_4 (c := c) hl
  have d2 := zdeg_4 (c := d) hl
  have o50 := ho.lt
  have r50 := ho2.lt
  refine wp_iload dd_X9_fillSylvester_0 rfl ?_
  refine wp_iload dd_X9_fillSylvester_2 rfl ?_
  refine wp_callS (M' := mm_X9_baseOf) (As := [zI i, zI j]) (rest := []) dd_X9_fillSylvester_4 lk_X9_52 mS_X9_baseOf rfl (by decide) (by decide) (Nat.le_of_ble_eq_true rfl) rfl (sp_X9_baseOf  i j (by first | assumption | omega) (by first | assumption | omega) ?_)
  show zw_Wp l mm_X9_fillSylvester (zS L) 7 [some (zR 48), some (zR o), some (zR r), some (zI le), some (zI i), some (zI j), none, none] [zI ((i * 8 + j) * 9)] mem 0 0 Q
  refine wp_istore (ls2 := [some (zR 48), some (zR o), some (zR r), some (zI le), some (zI i), some (zI j), some (zI ((i * 8 + j) * 9)), none]) dd_X9_fillSylvester_7 rfl (by decide) rfl ?_
  refine wp_iconst dd_X9_fillSylvester_9 (zr_lit rfl) ?_
  refine wp_istore (ls2 := [some (zR 48), some (zR o), some (zR r), some (zI le), some (zI i), some (zI j), some (zI ((i * 8 + j) * 9)), some (zI 0)]) dd_X9_fillSylvester_10 rfl (by decide) rfl ?_
  have lp12 : ∀ (nf : Nat) (b : Int) (mm : zMem), (0 ≤ b) → (b ≤ 5) → (∀ x : Int, mm 50 x = if (i * 8 + j) * 9 ≤ x ∧ x < (i * 8 + j) * 9 + b then zsyl c d le i j (x - (i * 8 + j) * 9) else mem 50 x) → (∀ a : Nat, a ≠ 50 → mm a = mem a) → (5 - b) < (nf : Int) → zw_Wp l mm_X9_fillSylvester (zS L) 12 [some (zR 48), some (zR o), some (zR r), some (zI le), some (zI i), some (zI j), some (zI ((i * 8 + j) * 9)), some (zI b)] [] mm 0 0 Q := by
    intro nf
    induction nf with
    | zero =>
      intro b mm b0 b1 h2 h3 hmu
      exfalso; omega
    | succ nf ih12 =>
      intro b mm b0 b1 h2 h3 hmu
      have m6 : mm 48 6 = mem 48 6 := by rw [h3 48 (by decide)]
      have m7 : mm 48 7 = mem 48 7 := by rw [h3 48 (by decide)]
      have hcm : zRw mm o c := hc.keep (h3 _ (by omega))
      have hdm : zRw mm r d := hd.keep (h3 _ (by omega))
      refine wp_iload dd_X9_fillSylvester_12 rfl ?_
      refine wp_iconst dd_X9_fillSylvester_14 (zr_lit rfl) ?_
      refine wp_icmp_gt (tgt := 75) dd_X9_fillSylvester_15 (by decide) (fun c15_1 => ?_) (fun c15_1 => ?_)
      · skip
        refine wp_return (st := []) dd_X9_fillSylvester_75 rfl ?_
        refine k mm (fun x => ?_) h3
        rw [h2 x]
        by_cases q : (i * 8 + j) * 9 ≤ x ∧ x ≤ (i * 8 + j) * 9 + 4
        · rw [if_pos q, if_pos (by omega)]
        · rw [if_neg q, if_neg (by omega)]
      · skip
        refine wp_aload_n dd_X9_fillSylvester_18 rfl ?_
        refine wp_getR dd_X9_fillSylvester_19 gf_X9_15 rfl kk_48 (by decide) (zlt rfl) rr_48_1 ?_
        refine wp_iload dd_X9_fillSylvester_22 rfl ?_
        refine wp_iload dd_X9_fillSylvester_24 rfl ?_
        refine wp_iaddC dd_X9_fillSylvester_26 (by omega) ?_
        refine wp_iload dd_X9_fillSylvester_27 rfl ?_
        refine wp_aload_n dd_X9_fillSylvester_29 rfl ?_
        refine wp_getZ 7 rfl dd_X9_fillSylvester_30 gf_X9_66 rfl kk_48 (by decide) (zlt rfl) ?_
        refine wp_icmp_ge (tgt := 56) dd_X9_fillSylvester_33 (by decide) (fun c33_2 => ?_) (fun c33_2 => ?_)
        · skip
          refine wp_aload_n dd_X9_fillSylvester_56 rfl ?_
          refine wp_iload_n dd_X9_fillSylvester_57 rfl ?_
          refine wp_iload dd_X9_fillSylvester_58 rfl ?_
          refine wp_iload dd_X9_fillSylvester_60 rfl ?_
          refine wp_isubC dd_X9_fillSylvester_62 (by omega) ?_
          refine wp_iload dd_X9_fillSylvester_63 rfl ?_
          refine wp_callV (M' := mm_X4_part) (As := [zI le, zI (i - j), zI b]) (rest := [zI (((i * 8 + j) * 9) + b), zR 50]) dd_X9_fillSylvester_65 lk_X9_82 mV_X4_part ho2.k ho2.i ⟨_, _, rfl⟩ rfl (by decide) (by decide) (Nat.le_of_ble_eq_true rfl) rfl (sp_X4_part  r le (i - j) b (by first | assumption | omega) ?_)
          show zw_Wp l mm_X9_fillSylvester (zS L) 68 [some (zR 48), some (zR o), some (zR r), some (zI le), some (zI i), some (zI j), some (zI ((i * 8 + j) * 9)), some (zI b)] [zI (zpt (mm (r + 2)) le (i - j) b), zI (((i * 8 + j) * 9) + b), zR 50] mm 0 0 Q
          refine wp_iast dd_X9_fillSylvester_68 kk_50 (zlt rfl) (by omega) (by omega) ?_
          refine wp_iincC (ls2 := [some (zR 48), some (zR o), some (zR r), some (zI le), some (zI i), some (zI j), some (zI ((i * 8 + j) * 9)), some (zI (b + 1))]) dd_X9_fillSylvester_69 rfl rfl (by decide) (by omega) rfl ?_
          refine wp_goto (tgt := 12) dd_X9_fillSylvester_72 (by decide) ?_
          refine ih12 (b + 1) (zu mm 50 (((i * 8 + j) * 9) + b) (zpt (mm (r + 2)) le (i - j) b)) ?_ ?_ ?_ ?_ ?_
          · first | omega | assumption | (intros; omega)
          · first | omega | assumption | (intros; omega)
          · intro x
            by_cases hx : x = (i * 8 + j) * 9 + b
            · subst hx
              rw [zu_s, if_pos (by omega), show (i * 8 + j) * 9 + b - (i * 8 + j) * 9 = b by omega]
              unfold zsyl
              first
              | (rw [if_pos (by omega), hcm.pt, m6, h6])
              | (rw [if_neg (by omega), hdm.pt])
            · rw [zu_n (Or.inr hx), h2 x]
              by_cases hl9 : (i * 8 + j) * 9 ≤ x ∧ x < (i * 8 + j) * 9 + b
              · rw [if_pos hl9, if_pos (by omega)]
              · rw [if_neg hl9, if_neg (by omega)]
          · intro a ha; rw [zu_row ha]; exact h3 a ha
          · omega
        · skip
          refine wp_aload_n dd_X9_fillSylvester_36 rfl ?_
          refine wp_iload_n dd_X9_fillSylvester_37 rfl ?_
          refine wp_aload_n dd_X9_fillSylvester_38 rfl ?_
          refine wp_getZ 6 rfl dd_X9_fillSylvester_39 gf_X9_63 rfl kk_48 (by decide) (zlt rfl) ?_
          refine wp_iload dd_X9_fillSylvester_42 rfl ?_
          refine wp_iaddC dd_X9_fillSylvester_44 (by omega) ?_
          refine wp_iload dd_X9_fillSylvester_45 rfl ?_
          refine wp_isubC dd_X9_fillSylvester_47 (by omega) ?_
          refine wp_iload dd_X9_fillSylvester_48 rfl ?_
          refine wp_callV (M' := mm_X4_part) (As := [zI le, zI (((mm 48 6) + i) - j), zI b]) (rest := [zI (((i * 8 + j) * 9) + b), zR 50]) dd_X9_fillSylvester_50 lk_X9_82 mV_X4_part ho.k ho.i ⟨_, _, rfl⟩ rfl (by decide) (by decide) (Nat.le_of_ble_eq_true rfl) rfl (sp_X4_part  o le (((mm 48 6) + i) - j) b (by first | assumption | omega) ?_)
          show zw_Wp l mm_X9_fillSylvester (zS L) 53 [some (zR 48), some (zR o), some (zR r), some (zI le), some (zI i), some (zI j), some (zI ((i * 8 + j) * 9)), some (zI b)] [zI (zpt (mm (o + 2)) le (((mm 48 6) + i) - j) b), zI (((i * 8 + j) * 9) + b), zR 50] mm 0 0 Q
          refine wp_goto (tgt := 68) dd_X9_fillSylvester_53 (by decide) ?_
          refine wp_iast dd_X9_fillSylvester_68 kk_50 (zlt rfl) (by omega) (by omega) ?_
          refine wp_iincC (ls2 := [some (zR 48), some (zR o), some (zR r), some (zI le), some (zI i), some (zI j), some (zI ((i * 8 + j) * 9)), some (zI (b + 1))]) dd_X9_fillSylvester_69 rfl rfl (by decide) (by omega) rfl ?_
          refine wp_goto (tgt := 12) dd_X9_fillSylvester_72 (by decide) ?_
          refine ih12 (b + 1) (zu mm 50 (((i * 8 + j) * 9) + b) (zpt (mm (o + 2)) le (((mm 48 6) + i) - j) b)) ?_ ?_ ?_ ?_ ?_
          · first | omega | assumption | (intros; omega)
          · first | omega | assumption | (intros; omega)
          · intro x
            by_cases hx : x = (i * 8 + j) * 9 + b
            · subst hx
              rw [zu_s, if_pos (by omega), show (i * 8 + j) * 9 + b - (i * 8 + j) * 9 = b by omega]
              unfold zsyl
              first
              | (rw [if_pos (by omega), hcm.pt, m6, h6])
              | (rw [if_neg (by omega), hdm.pt])
            · rw [zu_n (Or.inr hx), h2 x]
              by_cases hl9 : (i * 8 + j) * 9 ≤ x ∧ x < (i * 8 + j) * 9 + b
              · rw [if_pos hl9, if_pos (by omega)]
              · rw [if_neg hl9, if_neg (by omega)]
          · intro a ha; rw [zu_row ha]; exact h3 a ha
          · omega
  refine lp12 ((5 - 0 : Int)).toNat.succ 0 mem ?_ ?_ ?_ ?_ ?_
  · first | omega | assumption | (intros; omega)
  · first | omega | assumption | (intros; omega)
  · intro x; rw [if_neg (by omega)]
  · intros; rfl
  · omega

set_option maxRecDepth 100000 in
set_option maxHeartbeats 4000000 in
theorem sp_X9_fillBezout {l : Launch} {L : Nat} {mem : zMem} {Q : zQ} (c d : Int → Int) (p : Int) (o : Nat) (r : Nat) (le : Int) (i : Int) (j : Int) (ho : zP o) (ho2 : zP r) (hc : zRw mem o c) (hd : zRw mem r d) (hl : le = 0 ∨ le = 1) (hi : 0 ≤ i ∧ i < 8) (hj : 0 ≤ j ∧ j < 8) (hsz : 0 ≤ mem 48 4 ∧ mem 48 4 ≤ 8 ∧ i < mem 48 4 ∧ j < mem 48 4) (hp : p ≤ 31) (hcr : ∀ x y : Int, 0 ≤ zpt c le x y ∧ zpt c le x y < p) (hdr : ∀ x y : Int, 0 ≤ zpt d le x y ∧ zpt d le x y < p) (hz : ∀ x : Int, (i * 8 + j) * 9 ≤ x → x ≤ (i * 8 + j) * 9 + 8 → mem 50 x = 0) (k : ∀ (mem2 : zMem), (∀ x : Int, mem2 50 x = if (i * 8 + j) * 9 ≤ x ∧ x ≤ (i * 8 + j) * 9 + 8 then zbz c d le i j (x - (i * 8 + j) * 9) (zbn (mem 48 4) i j) else mem 50 x) → (∀ a : Nat, a ≠ 50 → mem2 a = mem a) → Q none (zS L) mem2) : zw_Ok l mm_X9_fillBezout [zR 48, zR o, zR r, zI le, zI i, zI j] (zS L) mem Q := by
  refine zw_okA (fun hA => ?_)
  have rg_le : -2147483648 ≤ le ∧ le < 2147483648 := hA.2.2.2.1
  have rg_i : -2147483648 ≤ i ∧ i < 2147483648 := hA.2.2.2.2.1
  have rg_j : -2147483648 ≤ j ∧ j < 2147483648 := hA.2.2.2.2.2.1
  refine zw_enter (by decide) (Nat.le_of_ble_eq_true rfl) rfl ?_
  show zw_Wp l mm_X9_fillBezout (zS L) 0 [some (zR 48), some (zR o), some (zR r), some (zI le), some (zI i), some (zI j), none, none, none, none, none] [] mem 0 0 Q
  have o50 := ho.lt
  have r50 := ho2.lt
  refine wp_iload dd_X9_fillBezout_0 rfl ?_
  refine wp_iload dd_X9_fillBezout_2 rfl ?_
  refine wp_callS (M' := mm_X9_baseOf) (As := [zI i, zI j]) (rest := []) dd_X9_fillBezout_4 lk_X9_52 mS_X9_baseOf rfl (by decide) (by decide) (Nat.le_of_ble_eq_true rfl) rfl (sp_X9_baseOf  i j (by first | assumption | omega) (by first | assumption | omega) ?_)
  show zw_Wp l mm_X9_fillBezout (zS L) 7 [some (zR 48), some (zR o), some (zR r), some (zI le), some (zI i), some (zI j), none, none, none, none, none] [zI ((i * 8 + j) * 9)] mem 0 0 Q
  refine wp_istore (ls2 := [some (zR 48), some (zR o), some (zR r), some (zI le), some (zI i), some (zI j), some (zI ((i * 8 + j) * 9)), none, none, none, none]) dd_X9_fillBezout_7 rfl (by decide) rfl ?_
  refine wp_iload dd_X9_fillBezout_9 rfl ?_
  refine wp_aload_n dd_X9_fillBezout_11 rfl ?_
  refine wp_getZ 4 rfl dd_X9_fillBezout_12 gf_X9_39 rfl kk_48 (by decide) (zlt rfl) ?_
  refine wp_iconst dd_X9_fillBezout_15 (zr_lit rfl) ?_
  refine wp_isubC dd_X9_fillBezout_16 (by omega) ?_
  refine wp_iload dd_X9_fillBezout_17 rfl ?_
  refine wp_isubC dd_X9_fillBezout_19 (by omega) ?_
  refine wp_callS (M' := mm_J9_min_7cf53) (As := [zI i, zI (((mem 48 4) - 1) - j)]) (rest := []) dd_X9_fillBezout_20 lk_X9_36 mS_J9_min_7cf53 rfl (by decide) (by decide) (Nat.le_of_ble_eq_true rfl) rfl (sp_J9_min_7cf53  i (((mem 48 4) - 1) - j)  ?_)
  show zw_Wp l mm_X9_fillBezout (zS L) 23 [some (zR 48), some (zR o), some (zR r), some (zI le), some (zI i), some (zI j), some (zI ((i * 8 + j) * 9)), none, none, none, none] [zI (min i (((mem 48 4) - 1) - j))] mem 0 0 Q
  refine wp_istore (ls2 := [some (zR 48), some (zR o), some (zR r), some (zI le), some (zI i), some (zI j), some (zI ((i * 8 + j) * 9)), some (zI (min i (((mem 48 4) - 1) - j))), none, none, none]) dd_X9_fillBezout_23 rfl (by decide) rfl ?_
  refine wp_iconst dd_X9_fillBezout_25 (zr_lit rfl) ?_
  refine wp_istore (ls2 := [some (zR 48), some (zR o), some (zR r), some (zI le), some (zI i), some (zI j), some (zI ((i * 8 + j) * 9)), some (zI (min i (((mem 48 4) - 1) - j))), some (zI 0), none, none]) dd_X9_fillBezout_26 rfl (by decide) rfl ?_
  have lp28 : ∀ (nf : Nat) (k2 : Int) (mm : zMem), (0 ≤ k2) → (k2 ≤ min i (mem 48 4 - 1 - j) + 1) → (∀ x : Int, mm 50 x = if (i * 8 + j) * 9 ≤ x ∧ x ≤ (i * 8 + j) * 9 + 8 then zbz c d le i j (x - (i * 8 + j) * 9) k2.toNat else mem 50 x) → (∀ a : Nat, a ≠ 50 → mm a = mem a) → (9 - k2) < (nf : Int) → zw_Wp l mm_X9_fillBezout (zS L) 28 [some (zR 48), some (zR o), some (zR r), some (zI le), some (zI i), some (zI j), some (zI ((i * 8 + j) * 9)), some (zI (min i (((mem 48 4) - 1) - j))), some (zI k2), none, none] [] mm 0 0 Q := by
    intro nf
    induction nf with
    | zero =>
      intro k2 mm k0 k1 h2 h3 hmu
      exfalso; omega
    | succ nf ih28 =>
      intro k2 mm k0 k1 h2 h3 hmu
      have hTr := zTT_rg (r := i) (cc := j) (k := k2) hp hcr hdr
      refine wp_iload dd_X9_fillBezout_28 rfl ?_
      refine wp_iload dd_X9_fillBezout_30 rfl ?_
      refine wp_icmp_gt (tgt := 142) dd_X9_fillBezout_32 (by decide) (fun c32_1 => ?_) (fun c32_1 => ?_)
      · skip
        refine wp_return (st := []) dd_X9_fillBezout_142 rfl ?_
        refine k mm (fun x => ?_) h3
        rw [h2 x]
        by_cases q : (i * 8 + j) * 9 ≤ x ∧ x ≤ (i * 8 + j) * 9 + 8
        · rw [if_pos q, if_pos q]
          unfold zbn
          rw [show (min (i + 1) (mem 48 4 - j)).toNat = k2.toNat by omega]
        · rw [if_neg q, if_neg q]
      · skip
        refine wp_iconst dd_X9_fillBezout_35 (zr_lit rfl) ?_
        refine wp_istore (ls2 := [some (zR 48), some (zR o), some (zR r), some (zI le), some (zI i), some (zI j), some (zI ((i * 8 + j) * 9)), some (zI (min i (((mem 48 4) - 1) - j))), some (zI k2), some (zI 0), none]) dd_X9_fillBezout_36 rfl (by decide) rfl ?_
        have lp38 : ∀ (nf : Nat) (a : Int) (mm : zMem), (0 ≤ a) → (a ≤ 5) → (∀ x : Int, mm 50 x = if (i * 8 + j) * 9 ≤ x ∧ x ≤ (i * 8 + j) * 9 + 8 then zbz c d le i j (x - (i * 8 + j) * 9) k2.toNat + zw2 (zTT c d le i j k2) (x - (i * 8 + j) * 9) a.toNat else mem 50 x) → (∀ a : Nat, a ≠ 50 → mm a = mem a) → (5 - a) < (nf : Int) → zw_Wp l mm_X9_fillBezout (zS L) 38 [some (zR 48), some (zR o), some (zR r), some (zI le), some (zI i), some (zI j), some (zI ((i * 8 + j) * 9)), some (zI (min i (((mem 48 4) - 1) - j))), some (zI k2), some (zI a), none] [] mm 0 0 Q := by
          intro nf
          induction nf with
          | zero =>
            intro a mm a0 a1 h4 h5 hmu
            exfalso; omega
          | succ nf ih38 =>
            intro a mm a0 a1 h4 h5 hmu
            refine wp_iload dd_X9_fillBezout_38 rfl ?_
            refine wp_iconst dd_X9_fillBezout_40 (zr_lit rfl) ?_
            refine wp_icmp_gt (tgt := 136) dd_X9_fillBezout_41 (by decide) (fun c41_2 => ?_) (fun c41_2 => ?_)
            · skip
              refine wp_iincC (ls2 := [some (zR 48), some (zR o), some (zR r), some (zI le), some (zI i), some (zI j), some (zI ((i * 8 + j) * 9)), some (zI (min i (((mem 48 4) - 1) - j))), some (zI (k2 + 1)), some (zI a), none]) dd_X9_fillBezout_136 rfl rfl (by decide) (by omega) rfl ?_
              refine wp_goto (tgt := 28) dd_X9_fillBezout_139 (by decide) ?_
              refine wp_ls (zw_sub_of (a := [some (zR 48), some (zR o), some (zR r), some (zI le), some (zI i), some (zI j), some (zI ((i * 8 + j) * 9)), some (zI (min i (((mem 48 4) - 1) - j))), some (zI (k2 + 1)), none, none]) (And.intro rfl (And.intro rfl (And.intro rfl (And.intro rfl (And.intro rfl (And.intro rfl (And.intro rfl (And.intro rfl (And.intro rfl (trivial))))))))))) ?_
              refine ih28 (k2 + 1) mm ?_ ?_ ?_ ?_ ?_
              · first | omega | assumption | (intros; omega)
              · first | omega | assumption | (intros; omega)
              · intro x
                rw [h4 x]
                by_cases q : (i * 8 + j) * 9 ≤ x ∧ x ≤ (i * 8 + j) * 9 + 8
                · rw [if_pos q, if_pos q, show (k2 + 1).toNat = k2.toNat + 1 by omega, zbz_st (by omega), show ((k2.toNat : Nat) : Int) = k2 by omega, show a.toNat = 5 by omega]
                · rw [if_neg q, if_neg q]
              · exact h5
              · omega
            · skip
              refine wp_iconst dd_X9_fillBezout_44 (zr_lit rfl) ?_
              refine wp_istore (ls2 := [some (zR 48), some (zR o), some (zR r), some (zI le), some (zI i), some (zI j), some (zI ((i * 8 + j) * 9)), some (zI (min i (((mem 48 4) - 1) - j))), some (zI k2), some (zI a), some (zI 0)]) dd_X9_fillBezout_45 rfl (by decide) rfl ?_
              have lp47 : ∀ (nf : Nat) (b : Int) (mm : zMem), (0 ≤ b) → (b ≤ 5) → (∀ x : Int, mm 50 x = if (i * 8 + j) * 9 ≤ x ∧ x ≤ (i * 8 + j) * 9 + 8 then zbz c d le i j (x - (i * 8 + j) * 9) k2.toNat + zw2 (zTT c d le i j k2) (x - (i * 8 + j) * 9) a.toNat + (if 0 ≤ x - (i * 8 + j) * 9 - a ∧ x - (i * 8 + j) * 9 - a < b then (zTT c d le i j k2) a (x - (i * 8 + j) * 9 - a) else 0) else mem 50 x) → (∀ a : Nat, a ≠ 50 → mm a = mem a) → (5 - b) < (nf : Int) → zw_Wp l mm_X9_fillBezout (zS L) 47 [some (zR 48), some (zR o), some (zR r), some (zI le), some (zI i), some (zI j), some (zI ((i * 8 + j) * 9)), some (zI (min i (((mem 48 4) - 1) - j))), some (zI k2), some (zI a), some (zI b)] [] mm 0 0 Q := by
                intro nf
                induction nf with
                | zero =>
                  intro b mm b0 b1 h6 h7 hmu
                  exfalso; omega
                | succ nf ih47 =>
                  intro b mm b0 b1 h6 h7 hmu
                  have hcm : zRw mm o c := hc.keep (h7 _ (by omega))
                  have hdm : zRw mm r d := hd.keep (h7 _ (by omega))
                  have g1 := hcr (j + k2 + 1) a
                  have g2 := hdr (i - k2) b
                  have g3 := hcr (i - k2) a
                  have g4 := hdr (j + k2 + 1) b
                  rw [← hcm.pt] at g1 g3
                  rw [← hdm.pt] at g2 g4
                  have p1 := zmul_rg (a := zpt (mm (o + 2)) le (j + k2 + 1) a) (b := zpt (mm (r + 2)) le (i - k2) b) (A := 31) (B := 31) (by omega) (by omega) (by omega) (by omega)
                  have p2 := zmul_rg (a := zpt (mm (o + 2)) le (i - k2) a) (b := zpt (mm (r + 2)) le (j + k2 + 1) b) (A := 31) (B := 31) (by omega) (by omega) (by omega) (by omega)
                  refine wp_iload dd_X9_fillBezout_47 rfl ?_
                  refine wp_iconst dd_X9_fillBezout_49 (zr_lit rfl) ?_
                  refine wp_icmp_gt (tgt := 130) dd_X9_fillBezout_50 (by decide) (fun c50_3 => ?_) (fun c50_3 => ?_)
                  · skip
                    refine wp_iincC (ls2 := [some (zR 48), some (zR o), some (zR r), some (zI le), some (zI i), some (zI j), some (zI ((i * 8 + j) * 9)), some (zI (min i (((mem 48 4) - 1) - j))), some (zI k2), some (zI (a + 1)), some (zI b)]) dd_X9_fillBezout_130 rfl rfl (by decide) (by omega) rfl ?_
                    refine wp_goto (tgt := 38) dd_X9_fillBezout_133 (by decide) ?_
                    refine wp_ls (zw_sub_of (a := [some (zR 48), some (zR o), some (zR r), some (zI le), some (zI i), some (zI j), some (zI ((i * 8 + j) * 9)), some (zI (min i (((mem 48 4) - 1) - j))), some (zI k2), some (zI (a + 1)), none]) (And.intro rfl (And.intro rfl (And.intro rfl (And.intro rfl (And.intro rfl (And.intro rfl (And.intro rfl (And.intro rfl (And.intro rfl (And.intro rfl (trivial)))))))))))) ?_
                    refine ih38 (a + 1) mm ?_ ?_ ?_ ?_ ?_
                    · first | omega | assumption | (intros; omega)
                    · first | omega | assumption | (intros; omega)
                    · intro x
                      rw [h6 x]
                      by_cases q : (i * 8 + j) * 9 ≤ x ∧ x ≤ (i * 8 + j) * 9 + 8
                      · rw [if_pos q, if_pos q, show (a + 1).toNat = a.toNat + 1 by omega, zw2, show ((a.toNat : Nat) : Int) = a by omega]
                        by_cases q2 : 0 ≤ x - (i * 8 + j) * 9 - a ∧ x - (i * 8 + j) * 9 - a < b
                        · rw [if_pos q2, if_pos (by omega)]; omega
                        · rw [if_neg q2, if_neg (by omega)]; omega
                      · rw [if_neg q, if_neg q]
                    · exact h7
                    · omega
                  · skip
                    refine wp_aload_n dd_X9_fillBezout_53 rfl ?_
                    refine wp_getR dd_X9_fillBezout_54 gf_X9_15 rfl kk_48 (by decide) (zlt rfl) rr_48_1 ?_
                    refine wp_iload dd_X9_fillBezout_57 rfl ?_
                    refine wp_iload dd_X9_fillBezout_59 rfl ?_
                    refine wp_iaddC dd_X9_fillBezout_61 (by omega) ?_
                    refine wp_iload dd_X9_fillBezout_62 rfl ?_
                    refine wp_iaddC dd_X9_fillBezout_64 (by omega) ?_
                    refine wp_dup2 dd_X9_fillBezout_65 rfl rfl ?_
                    have hold : -1000000 ≤ mm 50 ((i * 8 + j) * 9 + a + b) ∧ mm 50 ((i * 8 + j) * 9 + a + b) ≤ 1000000 := by
                      rw [h6 ((i * 8 + j) * 9 + a + b), if_pos (by omega), if_neg (by omega)]
                      have w1 := zbz_rg (e := (i * 8 + j) * 9 + a + b - (i * 8 + j) * 9) (r := i) (cc := j) hp (by omega) hcr hdr k2.toNat
                      have w2 := zw2_rg (e := (i * 8 + j) * 9 + a + b - (i * 8 + j) * 9) hTr a.toNat
                      omega
                    refine wp_iald dd_X9_fillBezout_66 kk_50 (zlt rfl) (by omega) (by omega) ?_
                    refine wp_aload_n dd_X9_fillBezout_67 rfl ?_
                    refine wp_iload_n dd_X9_fillBezout_68 rfl ?_
                    refine wp_iload dd_X9_fillBezout_69 rfl ?_
                    refine wp_iload dd_X9_fillBezout_71 rfl ?_
                    refine wp_iaddC dd_X9_fillBezout_73 (by omega) ?_
                    refine wp_iconst dd_X9_fillBezout_74 (zr_lit rfl) ?_
                    refine wp_iaddC dd_X9_fillBezout_75 (by omega) ?_
                    refine wp_iload dd_X9_fillBezout_76 rfl ?_
                    refine wp_callV (M' := mm_X4_part) (As := [zI le, zI ((j + k2) + 1), zI a]) (rest := [zI (mm 50 ((((i * 8 + j) * 9) + a) + b)), zI ((((i * 8 + j) * 9) + a) + b), zR 50]) dd_X9_fillBezout_78 lk_X9_82 mV_X4_part ho.k ho.i ⟨_, _, rfl⟩ rfl (by decide) (by decide) (Nat.le_of_ble_eq_true rfl) rfl (sp_X4_part  o le ((j + k2) + 1) a (by first | assumption | omega) ?_)
                    show zw_Wp l mm_X9_fillBezout (zS L) 81 [some (zR 48), some (zR o), some (zR r), some (zI le), some (zI i), some (zI j), some (zI ((i * 8 + j) * 9)), some (zI (min i (((mem 48 4) - 1) - j))), some (zI k2), some (zI a), some (zI b)] [zI (zpt (mm (o + 2)) le ((j + k2) + 1) a), zI (mm 50 ((((i * 8 + j) * 9) + a) + b)), zI ((((i * 8 + j) * 9) + a) + b), zR 50] mm 0 0 Q
                    refine wp_aload_n dd_X9_fillBezout_81 rfl ?_
                    refine wp_iload_n dd_X9_fillBezout_82 rfl ?_
                    refine wp_iload dd_X9_fillBezout_83 rfl ?_
                    refine wp_iload dd_X9_fillBezout_85 rfl ?_
                    refine wp_isubC dd_X9_fillBezout_87 (by omega) ?_
                    refine wp_iload dd_X9_fillBezout_88 rfl ?_
                    refine wp_callV (M' := mm_X4_part) (As := [zI le, zI (i - k2), zI b]) (rest := [zI (zpt (mm (o + 2)) le ((j + k2) + 1) a), zI (mm 50 ((((i * 8 + j) * 9) + a) + b)), zI ((((i * 8 + j) * 9) + a) + b), zR 50]) dd_X9_fillBezout_90 lk_X9_82 mV_X4_part ho2.k ho2.i ⟨_, _, rfl⟩ rfl (by decide) (by decide) (Nat.le_of_ble_eq_true rfl) rfl (sp_X4_part  r le (i - k2) b (by first | assumption | omega) ?_)
                    show zw_Wp l mm_X9_fillBezout (zS L) 93 [some (zR 48), some (zR o), some (zR r), some (zI le), some (zI i), some (zI j), some (zI ((i * 8 + j) * 9)), some (zI (min i (((mem 48 4) - 1) - j))), some (zI k2), some (zI a), some (zI b)] [zI (zpt (mm (r + 2)) le (i - k2) b), zI (zpt (mm (o + 2)) le ((j + k2) + 1) a), zI (mm 50 ((((i * 8 + j) * 9) + a) + b)), zI ((((i * 8 + j) * 9) + a) + b), zR 50] mm 0 0 Q
                    refine wp_imulC dd_X9_fillBezout_93 (by omega) ?_
                    refine wp_aload_n dd_X9_fillBezout_94 rfl ?_
                    refine wp_iload_n dd_X9_fillBezout_95 rfl ?_
                    refine wp_iload dd_X9_fillBezout_96 rfl ?_
                    refine wp_iload dd_X9_fillBezout_98 rfl ?_
                    refine wp_isubC dd_X9_fillBezout_100 (by omega) ?_
                    refine wp_iload dd_X9_fillBezout_101 rfl ?_
                    refine wp_callV (M' := mm_X4_part) (As := [zI le, zI (i - k2), zI a]) (rest := [zI ((zpt (mm (o + 2)) le ((j + k2) + 1) a) * (zpt (mm (r + 2)) le (i - k2) b)), zI (mm 50 ((((i * 8 + j) * 9) + a) + b)), zI ((((i * 8 + j) * 9) + a) + b), zR 50]) dd_X9_fillBezout_103 lk_X9_82 mV_X4_part ho.k ho.i ⟨_, _, rfl⟩ rfl (by decide) (by decide) (Nat.le_of_ble_eq_true rfl) rfl (sp_X4_part  o le (i - k2) a (by first | assumption | omega) ?_)
                    show zw_Wp l mm_X9_fillBezout (zS L) 106 [some (zR 48), some (zR o), some (zR r), some (zI le), some (zI i), some (zI j), some (zI ((i * 8 + j) * 9)), some (zI (min i (((mem 48 4) - 1) - j))), some (zI k2), some (zI a), some (zI b)] [zI (zpt (mm (o + 2)) le (i - k2) a), zI ((zpt (mm (o + 2)) le ((j + k2) + 1) a) * (zpt (mm (r + 2)) le (i - k2) b)), zI (mm 50 ((((i * 8 + j) * 9) + a) + b)), zI ((((i * 8 + j) * 9) + a) + b), zR 50] mm 0 0 Q
                    refine wp_aload_n dd_X9_fillBezout_106 rfl ?_
                    refine wp_iload_n dd_X9_fillBezout_107 rfl ?_
                    refine wp_iload dd_X9_fillBezout_108 rfl ?_
                    refine wp_iload dd_X9_fillBezout_110 rfl ?_
                    refine wp_iaddC dd_X9_fillBezout_112 (by omega) ?_
                    refine wp_iconst dd_X9_fillBezout_113 (zr_lit rfl) ?_
                    refine wp_iaddC dd_X9_fillBezout_114 (by omega) ?_
                    refine wp_iload dd_X9_fillBezout_115 rfl ?_
                    refine wp_callV (M' := mm_X4_part) (As := [zI le, zI ((j + k2) + 1), zI b]) (rest := [zI (zpt (mm (o + 2)) le (i - k2) a), zI ((zpt (mm (o + 2)) le ((j + k2) + 1) a) * (zpt (mm (r + 2)) le (i - k2) b)), zI (mm 50 ((((i * 8 + j) * 9) + a) + b)), zI ((((i * 8 + j) * 9) + a) + b), zR 50]) dd_X9_fillBezout_117 lk_X9_82 mV_X4_part ho2.k ho2.i ⟨_, _, rfl⟩ rfl (by decide) (by decide) (Nat.le_of_ble_eq_true rfl) rfl (sp_X4_part  r le ((j + k2) + 1) b (by first | assumption | omega) ?_)
                    show zw_Wp l mm_X9_fillBezout (zS L) 120 [some (zR 48), some (zR o), some (zR r), some (zI le), some (zI i), some (zI j), some (zI ((i * 8 + j) * 9)), some (zI (min i (((mem 48 4) - 1) - j))), some (zI k2), some (zI a), some (zI b)] [zI (zpt (mm (r + 2)) le ((j + k2) + 1) b), zI (zpt (mm (o + 2)) le (i - k2) a), zI ((zpt (mm (o + 2)) le ((j + k2) + 1) a) * (zpt (mm (r + 2)) le (i - k2) b)), zI (mm 50 ((((i * 8 + j) * 9) + a) + b)), zI ((((i * 8 + j) * 9) + a) + b), zR 50] mm 0 0 Q
                    refine wp_imulC dd_X9_fillBezout_120 (by omega) ?_
                    refine wp_isubC dd_X9_fillBezout_121 (by omega) ?_
                    refine wp_iaddC dd_X9_fillBezout_122 (by omega) ?_
                    refine wp_iast dd_X9_fillBezout_123 kk_50 (zlt rfl) (by omega) (by omega) ?_
                    refine wp_iincC (ls2 := [some (zR 48), some (zR o), some (zR r), some (zI le), some (zI i), some (zI j), some (zI ((i * 8 + j) * 9)), some (zI (min i (((mem 48 4) - 1) - j))), some (zI k2), some (zI a), some (zI (b + 1))]) dd_X9_fillBezout_124 rfl rfl (by decide) (by omega) rfl ?_
                    refine wp_goto (tgt := 47) dd_X9_fillBezout_127 (by decide) ?_
                    refine ih47 (b + 1) (zu mm 50 ((((i * 8 + j) * 9) + a) + b) ((mm 50 ((((i * 8 + j) * 9) + a) + b)) + (((zpt (mm (o + 2)) le ((j + k2) + 1) a) * (zpt (mm (r + 2)) le (i - k2) b)) - ((zpt (mm (o + 2)) le (i - k2) a) * (zpt (mm (r + 2)) le ((j + k2) + 1) b))))) ?_ ?_ ?_ ?_ ?_
                    · first | omega | assumption | (intros; omega)
                    · first | omega | assumption | (intros; omega)
                    · intro x
                      by_cases hx : x = (i * 8 + j) * 9 + a + b
                      · subst hx
                        rw [zu_s, h6 ((i * 8 + j) * 9 + a + b)]
                        rw [if_pos (show (i * 8 + j) * 9 ≤ (i * 8 + j) * 9 + a + b ∧ (i * 8 + j) * 9 + a + b ≤ (i * 8 + j) * 9 + 8 by omega), if_pos (show (i * 8 + j) * 9 ≤ (i * 8 + j) * 9 + a + b ∧ (i * 8 + j) * 9 + a + b ≤ (i * 8 + j) * 9 + 8 by omega)]
                        rw [if_neg (show ¬ (0 ≤ (i * 8 + j) * 9 + a + b - (i * 8 + j) * 9 - a ∧ (i * 8 + j) * 9 + a + b - (i * 8 + j) * 9 - a < b) by omega), if_pos (show 0 ≤ (i * 8 + j) * 9 + a + b - (i * 8 + j) * 9 - a ∧ (i * 8 + j) * 9 + a + b - (i * 8 + j) * 9 - a < b + 1 by omega)]
                        rw [hcm.pt, hdm.pt, hcm.pt, hdm.pt, show (i * 8 + j) * 9 + a + b - (i * 8 + j) * 9 - a = b by omega]
                        unfold zTT
                        omega
                      · rw [zu_n (Or.inr hx), h6 x]
                        by_cases q : (i * 8 + j) * 9 ≤ x ∧ x ≤ (i * 8 + j) * 9 + 8
                        · rw [if_pos q, if_pos q]
                          by_cases q2 : 0 ≤ x - (i * 8 + j) * 9 - a ∧ x - (i * 8 + j) * 9 - a < b
                          · rw [if_pos q2, if_pos (by omega)]
                          · rw [if_neg q2, if_neg (by omega)]
                        · rw [if_neg q, if_neg q]
                    · intro q hq; rw [zu_row hq]; exact h7 q hq
                    · omega
              refine lp47 ((5 - 0 : Int)).toNat.succ 0 mm ?_ ?_ ?_ ?_ ?_
              · first | omega | assumption | (intros; omega)
              · first | omega | assumption | (intros; omega)
              · intro x
                rw [h4 x]
                by_cases q : (i * 8 + j) * 9 ≤ x ∧ x ≤ (i * 8 + j) * 9 + 8
                · rw [if_pos q, if_pos q, if_neg (by omega)]; omega
                · rw [if_neg q, if_neg q]
              · first | omega | assumption | (intros; omega)
              · omega
        refine lp38 ((5 - 0 : Int)).toNat.succ 0 mm ?_ ?_ ?_ ?_ ?_
        · first | omega | assumption | (intros; omega)
        · first | omega | assumption | (intros; omega)
        · intro x
          rw [h2 x]
          by_cases q : (i * 8 + j) * 9 ≤ x ∧ x ≤ (i * 8 + j) * 9 + 8
          · rw [if_pos q, if_pos q]; show _ = _ + 0; omega
          · rw [if_neg q, if_neg q]
        · first | omega | assumption | (intros; omega)
        · omega
  refine lp28 ((9 - 0 : Int)).toNat.succ 0 mem ?_ ?_ ?_ ?_ ?_
  · first | omega | assumption | (intros; omega)
  · first | omega | assumption | (intros; omega)
  · intro x
    by_cases q : (i * 8 + j) * 9 ≤ x ∧ x ≤ (i * 8 + j) * 9 + 8
    · rw [if_pos q]; exact hz x q.1 q.2
    · rw [if_neg q]
  · intros; rfl
  · omega


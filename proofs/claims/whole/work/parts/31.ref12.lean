/-! ===== minors ===== -/
def zcl (c d : Int → Int) (le p tb : Int) : Int → Int → Int → Int := if tb = 0 then zsyl c d le else zbc c d le p (max (zdeg c le 25) (zdeg d le 25))
def zsz (c d : Int → Int) (le tb : Int) : Int := if tb = 0 then zdeg c le 25 + zdeg d le 25 else max (zdeg c le 25) (zdeg d le 25)
def zbt (s : Int) : Nat → Int
  | 0 => 0
  | k + 1 => zbt s k + s / 2 ^ k % 2
def zbits (s : Int) : Int := zbt s 8
theorem zbt_rg (s : Int) : ∀ k : Nat, 0 ≤ zbt s k ∧ zbt s k ≤ k
  | 0 => ⟨Int.le_refl 0, Int.le_refl 0⟩
  | k + 1 => by
    have := zbt_rg s k
    unfold zbt
    omega
theorem zsr_rg {s : Int} {k : Nat} (h : 0 ≤ s) : 0 ≤ s / 2 ^ k ∧ s / 2 ^ k ≤ s := ⟨Int.ediv_nonneg h (Int.le_of_lt (Int.pow_pos (by decide))), Int.ediv_le_self _ h⟩
theorem zband_all : ∀ s ∈ List.range 256, ∀ c ∈ List.range 8, (s : Int) / 2 ^ c % 2 = 1 → (Int32.ofInt (s : Int) &&& Int32.ofInt ((Int32.ofInt (1 * 2 ^ c) ^^^ Int32.ofInt (-1)).toInt)).toInt = (s : Int) - 2 ^ c ∧ (2 : Int) ^ c ≤ s := by decide +kernel
theorem zband {s c : Int} (hs : 0 ≤ s ∧ s < 256) (hc : 0 ≤ c ∧ c < 8) (hb : s / 2 ^ c.toNat % 2 = 1) : (Int32.ofInt s &&& Int32.ofInt ((Int32.ofInt (1 * 2 ^ c.toNat) ^^^ Int32.ofInt (-1)).toInt)).toInt = s - 2 ^ c.toNat ∧ (2 : Int) ^ c.toNat ≤ s := by
  obtain ⟨x, rfl⟩ := Int.eq_ofNat_of_zero_le hs.1
  exact zband_all x (List.mem_range.mpr (by omega)) c.toNat (List.mem_range.mpr (by omega)) hb
/-- power d of the product of two rows, by the first n powers of the one -/
def zcn (f g : Int → Int) (d : Int) : Nat → Int
  | 0 => 0
  | k + 1 => zcn f g d k + f k * (if (k : Int) ≤ d then g (d - k) else 0)
def zsg (s c : Int) : Int := if zbits (s / 2 ^ (c + 1).toNat) % 2 = 1 then -1 else 1
theorem zq_ad {o v x p s : Int} (h : o = v % p) : (o + s * x) % p = (v + s * x) % p := by rw [h, Int.emod_add_emod]

set_option maxRecDepth 100000 in
set_option maxHeartbeats 4000000 in
theorem sp_X11_bits {l : Launch} {L : Nat} {mem : zMem} {Q : zQ}  (s : Int) (hs : 0 ≤ s ∧ s < 256) (k : Q (some (zI (zbits s))) (zS L) mem) : zw_Ok l mm_X11_bits [zI s] (zS L) mem Q := by
  refine zw_okA (fun hA => ?_)
  have rg_s : -2147483648 ≤ s ∧ s < 2147483648 := hA.1
  refine zw_enter (by decide) (Nat.le_of_ble_eq_true rfl) rfl ?_
  show zw_Wp l mm_X11_bits (zS L) 0 [some (zI s), none, none] [] mem 0 0 Q
  refine wp_iconst dd_X11_bits_0 (zr_lit rfl) ?_
  refine wp_istore_n (ls2 := [some (zI s), some (zI 0), none]) dd_X11_bits_1 rfl (by decide) rfl ?_
  refine wp_iconst dd_X11_bits_2 (zr_lit rfl) ?_
  refine wp_istore_n (ls2 := [some (zI s), some (zI 0), some (zI 0)]) dd_X11_bits_3 rfl (by decide) rfl ?_
  have lp4 : ∀ (nf : Nat) (n : Int) (i : Int), (0 ≤ i) → (i ≤ 8) → (n = zbt s i.toNat) → (8 - i) < (nf : Int) → zw_Wp l mm_X11_bits (zS L) 4 [some (zI s), some (zI n), some (zI i)] [] mem 0 0 Q := by
    intro nf
    induction nf with
    | zero =>
      intro n i h0 h1 h2 hmu
      exfalso; omega
    | succ nf ih4 =>
      intro n i h0 h1 h2 hmu
      have hb := zbt_rg s i.toNat
      have hd := zsr_rg (s := s) (k := i.toNat) hs.1
      refine wp_iload_n dd_X11_bits_4 rfl ?_
      refine wp_bipush dd_X11_bits_5 (by decide) ?_
      refine wp_icmp_ge (tgt := 24) dd_X11_bits_7 (by decide) (fun c7_1 => ?_) (fun c7_1 => ?_)
      · skip
        refine wp_iload_n dd_X11_bits_24 rfl ?_
        refine wp_ireturn (st := []) dd_X11_bits_25 rfl ?_
        refine zq_I ?_ ?_ k
        · rw [h2, show i.toNat = 8 by omega]; rfl
        · rfl
      · skip
        refine wp_iload_n dd_X11_bits_10 rfl ?_
        refine wp_iload_n dd_X11_bits_11 rfl ?_
        refine wp_iload_n dd_X11_bits_12 rfl ?_
        refine wp_ishrP dd_X11_bits_13 (by omega) (by omega) ?_
        refine wp_iconst dd_X11_bits_14 (zr_lit rfl) ?_
        refine wp_iand1 dd_X11_bits_15 (by omega) ?_
        refine wp_iaddC dd_X11_bits_16 (by omega) ?_
        refine wp_istore_n (ls2 := [some (zI s), some (zI (n + (s / 2 ^ i.toNat % 2))), some (zI i)]) dd_X11_bits_17 rfl (by decide) rfl ?_
        refine wp_iincC (ls2 := [some (zI s), some (zI (n + (s / 2 ^ i.toNat % 2))), some (zI (i + 1))]) dd_X11_bits_18 rfl rfl (by decide) (by omega) rfl ?_
        refine wp_goto (tgt := 4) dd_X11_bits_21 (by decide) ?_
        refine ih4 (n + (s / 2 ^ i.toNat % 2)) (i + 1) ?_ ?_ ?_ ?_
        · first | omega | assumption | (intros; omega)
        · first | omega | assumption | (intros; omega)
        · rw [show (i + 1).toNat = i.toNat + 1 by omega, zbt, ← h2]
        · omega
  refine lp4 ((8 - 0 : Int)).toNat.succ 0 0 ?_ ?_ ?_ ?_
  · first | omega | assumption | (intros; omega)
  · first | omega | assumption | (intros; omega)
  · rfl
  · omega

set_option maxRecDepth 100000 in
set_option maxHeartbeats 4000000 in
theorem sp_X11_addsColumn {l : Launch} {L : Nat} {mem : zMem} {Q : zQ} (cell : Int → Int → Int → Int) (o g : Int → Int) (sz : Int) (s : Int) (cc : Int) (hp : zPr (mem 67 1)) (hs : 0 < s ∧ s < 256) (hcc : 0 ≤ cc ∧ cc < sz ∧ sz ≤ 8) (hb : s / 2 ^ cc.toNat % 2 = 1) (hbn : 1 ≤ zbits s ∧ zbits s ≤ sz) (ht : zTb mem sz cell) (hcr : ∀ k : Int, 0 ≤ k ∧ k < 9 → 0 ≤ cell (zbits s - 1) cc k ∧ cell (zbits s - 1) cc k < mem 67 1) (ho : ∀ x : Int, 0 ≤ x → x < 41 → mem 79 (41 * s + x) = o x ∧ 0 ≤ o x ∧ o x < mem 67 1) (hg : ∀ x : Int, 0 ≤ x → x < 41 → mem 79 (41 * (s - 2 ^ cc.toNat) + x) = g x ∧ 0 ≤ g x ∧ g x < mem 67 1) (k : ∀ (mem2 : zMem), (∀ x : Int, 0 ≤ x → x < 41 → mem2 79 (41 * s + x) = (o x + zsg s cc * zcn (cell (zbits s - 1) cc) g x 9) % mem 67 1) → ((∀ a : Nat, a ≠ 79 → mem2 a = mem a) ∧ ∀ y : Int, (y < 41 * s ∨ 41 * s + 41 ≤ y) → mem2 79 y = mem 79 y) → Q none (zS L) mem2) : zw_Ok l mm_X11_addsColumn [zR 67, zI s, zI cc] (zS L) mem Q := by
  refine zw_okA (fun hA => ?_)
  have rg_s : -2147483648 ≤ s ∧ s < 2147483648 := hA.2.1
  have rg_cc : -2147483648 ≤ cc ∧ cc < 2147483648 := hA.2.2.1
  refine zw_enter (by decide) (Nat.le_of_ble_eq_true rfl) rfl ?_
  show zw_Wp l mm_X11_addsColumn (zS L) 0 [some (zR 67), some (zI s), some (zI cc), none, none, none, none, none, none, none] [] mem 0 0 Q
  have hpr := hp.rg
  obtain ⟨hb1, hb2⟩ := zband (s := s) (c := cc) (by omega) (by omega) hb
  have h2c : (0 : Int) < 2 ^ cc.toNat := Int.pow_pos (by decide)
  have h2d := z2_le (n := cc) (by omega) (by omega)
  have hsd := zsr_rg (s := s) (k := (cc + 1).toNat) (by omega)
  generalize hF : s - 2 ^ cc.toNat = fr at hg hb1
  have hfr : 0 ≤ fr ∧ fr < s := by omega
  refine wp_iload_n dd_X11_addsColumn_0 rfl ?_
  refine wp_callS (M' := mm_X11_bits) (As := [zI s]) (rest := []) dd_X11_addsColumn_1 lk_X11_211 mS_X11_bits rfl (by decide) (by decide) (Nat.le_of_ble_eq_true rfl) rfl (sp_X11_bits  s (by first | assumption | omega) ?_)
  show zw_Wp l mm_X11_addsColumn (zS L) 4 [some (zR 67), some (zI s), some (zI cc), none, none, none, none, none, none, none] [zI (zbits s)] mem 0 0 Q
  refine wp_iconst dd_X11_addsColumn_4 (zr_lit rfl) ?_
  refine wp_isubC dd_X11_addsColumn_5 (by omega) ?_
  refine wp_istore_n (ls2 := [some (zR 67), some (zI s), some (zI cc), some (zI ((zbits s) - 1)), none, none, none, none, none, none]) dd_X11_addsColumn_6 rfl (by decide) rfl ?_
  refine wp_bipush dd_X11_addsColumn_7 (by decide) ?_
  refine wp_iload_n dd_X11_addsColumn_9 rfl ?_
  refine wp_iconst dd_X11_addsColumn_10 (zr_lit rfl) ?_
  refine wp_iload_n dd_X11_addsColumn_11 rfl ?_
  refine wp_ishlP dd_X11_addsColumn_12 (by decide) (by omega) h2d.2 ?_
  refine wp_iconst dd_X11_addsColumn_13 (zr_lit rfl) ?_
  refine wp_ixor dd_X11_addsColumn_14 ?_
  refine wp_iand dd_X11_addsColumn_15 ?_
  rw [hb1]
  refine wp_imulC dd_X11_addsColumn_16 (by omega) ?_
  refine wp_istore (ls2 := [some (zR 67), some (zI s), some (zI cc), some (zI ((zbits s) - 1)), some (zI (41 * fr)), none, none, none, none, none]) dd_X11_addsColumn_17 rfl (by decide) rfl ?_
  refine wp_iload_n dd_X11_addsColumn_19 rfl ?_
  refine wp_iload_n dd_X11_addsColumn_20 rfl ?_
  refine wp_iconst dd_X11_addsColumn_21 (zr_lit rfl) ?_
  refine wp_iaddC dd_X11_addsColumn_22 (by omega) ?_
  refine wp_ishrP dd_X11_addsColumn_23 (by omega) (by omega) ?_
  refine wp_callS (M' := mm_X11_bits) (As := [zI (s / 2 ^ (cc + 1).toNat)]) (rest := []) dd_X11_addsColumn_24 lk_X11_211 mS_X11_bits rfl (by decide) (by decide) (Nat.le_of_ble_eq_true rfl) rfl (sp_X11_bits  (s / 2 ^ (cc + 1).toNat) (by first | assumption | omega) ?_)
  show zw_Wp l mm_X11_addsColumn (zS L) 27 [some (zR 67), some (zI s), some (zI cc), some (zI ((zbits s) - 1)), some (zI (41 * fr)), none, none, none, none, none] [zI (zbits (s / 2 ^ (cc + 1).toNat))] mem 0 0 Q
  refine wp_iconst dd_X11_addsColumn_27 (zr_lit rfl) ?_
  refine wp_iremP dd_X11_addsColumn_28 (by have := zbt_rg (s / 2 ^ (cc + 1).toNat) 8; exact this.1) (by omega) ?_
  refine wp_iconst dd_X11_addsColumn_29 (zr_lit rfl) ?_
  refine wp_icmp_ne (tgt := 37) dd_X11_addsColumn_30 (by decide) (fun c30_1 => ?_) (fun c30_1 => ?_)
  · skip
    have hsgp : zsg s cc = 1 := by unfold zsg; rw [if_neg c30_1]
    refine wp_iconst dd_X11_addsColumn_37 (zr_lit rfl) ?_
    refine wp_istore (ls2 := [some (zR 67), some (zI s), some (zI cc), some (zI ((zbits s) - 1)), some (zI (41 * fr)), some (zI 0), none, none, none, none]) dd_X11_addsColumn_38 rfl (by decide) rfl ?_
    refine wp_iconst dd_X11_addsColumn_40 (zr_lit rfl) ?_
    refine wp_istore (ls2 := [some (zR 67), some (zI s), some (zI cc), some (zI ((zbits s) - 1)), some (zI (41 * fr)), some (zI 0), some (zI 0), none, none, none]) dd_X11_addsColumn_41 rfl (by decide) rfl ?_
    have lp43 : ∀ (nf : Nat) (kk : Int) (mm : zMem), (0 ≤ kk) → (kk ≤ 9) → (∀ x : Int, 0 ≤ x → x < 41 → mm 79 (41 * s + x) = (o x + zsg s cc * zcn (cell (zbits s - 1) cc) g x kk.toNat) % mem 67 1) → (∀ a : Nat, a ≠ 79 → mm a = mem a) → (∀ y : Int, (y < 41 * s ∨ 41 * s + 41 ≤ y) → mm 79 y = mem 79 y) → (9 - kk) < (nf : Int) → zw_Wp l mm_X11_addsColumn (zS L) 43 [some (zR 67), some (zI s), some (zI cc), some (zI ((zbits s) - 1)), some (zI (41 * fr)), some (zI 0), some (zI kk), none, none, none] [] mm 0 0 Q := by
      intro nf
      induction nf with
      | zero =>
        intro kk mm h0 h1 h2 h3 h4 hmu
        exfalso; omega
      | succ nf ih43 =>
        intro kk mm h0 h1 h2 h3 h4 hmu
        have hm1 : mm 67 1 = mem 67 1 := by rw [h3 67 (by decide)]
        have hcell : kk < 9 → mm 78 (9 * (8 * (zbits s - 1) + cc) + kk) = cell (zbits s - 1) cc kk := fun q => by rw [h3 78 (by decide)]; exact ht _ _ _ (by omega) (by omega) (by omega)
        refine wp_iload dd_X11_addsColumn_43 rfl ?_
        refine wp_bipush dd_X11_addsColumn_45 (by decide) ?_
        refine wp_icmp_ge (tgt := 165) dd_X11_addsColumn_47 (by decide) (fun c47_2 => ?_) (fun c47_2 => ?_)
        · skip
          refine wp_return (st := []) dd_X11_addsColumn_165 rfl ?_
          exact k mm (fun x q1 q2 => by rw [h2 x q1 q2, show kk.toNat = 9 by omega]) ⟨h3, h4⟩
        · skip
          refine wp_aload_n dd_X11_addsColumn_50 rfl ?_
          refine wp_getR dd_X11_addsColumn_51 gf_X11_58 rfl kk_67 (by decide) (zlt rfl) rr_67_17 ?_
          refine wp_bipush dd_X11_addsColumn_54 (by decide) ?_
          refine wp_bipush dd_X11_addsColumn_56 (by decide) ?_
          refine wp_iload_n dd_X11_addsColumn_58 rfl ?_
          refine wp_imulC dd_X11_addsColumn_59 (by omega) ?_
          refine wp_iload_n dd_X11_addsColumn_60 rfl ?_
          refine wp_iaddC dd_X11_addsColumn_61 (by omega) ?_
          refine wp_imulC dd_X11_addsColumn_62 (by omega) ?_
          refine wp_iload dd_X11_addsColumn_63 rfl ?_
          refine wp_iaddC dd_X11_addsColumn_65 (by omega) ?_
          have hcell := hcell (by omega)
          have hck := hcr kk (by omega)
          refine wp_iald dd_X11_addsColumn_66 kk_78 (zlt rfl) (by omega) (by omega) ?_
          rw [hcell]
          refine wp_istore (ls2 := [some (zR 67), some (zI s), some (zI cc), some (zI ((zbits s) - 1)), some (zI (41 * fr)), some (zI 0), some (zI kk), some (zI (cell (zbits s - 1) cc kk)), none, none]) dd_X11_addsColumn_67 rfl (by decide) rfl ?_
          refine wp_iload dd_X11_addsColumn_69 rfl ?_
          refine wp_if_ne (tgt := 77) dd_X11_addsColumn_71 (by decide) (fun c71_3 => ?_) (fun c71_3 => ?_)
          · skip
            refine wp_iconst dd_X11_addsColumn_77 (zr_lit rfl) ?_
            refine wp_istore (ls2 := [some (zR 67), some (zI s), some (zI cc), some (zI ((zbits s) - 1)), some (zI (41 * fr)), some (zI 0), some (zI kk), some (zI (cell (zbits s - 1) cc kk)), some (zI 0), none]) dd_X11_addsColumn_78 rfl (by decide) rfl ?_
            have lp80 : ∀ (nf : Nat) (dd : Int) (mn : zMem), (0 ≤ dd) → (dd + kk ≤ 41) → (∀ x : Int, 0 ≤ x → x < 41 → mn 79 (41 * s + x) = (o x + zsg s cc * zcn (cell (zbits s - 1) cc) g x (if kk ≤ x ∧ x < kk + dd then (kk + 1).toNat else kk.toNat)) % mem 67 1) → (∀ a : Nat, a ≠ 79 → mn a = mem a) → (∀ y : Int, (y < 41 * s ∨ 41 * s + 41 ≤ y) → mn 79 y = mem 79 y) → (41 - kk - dd) < (nf : Int) → zw_Wp l mm_X11_addsColumn (zS L) 80 [some (zR 67), some (zI s), some (zI cc), some (zI ((zbits s) - 1)), some (zI (41 * fr)), some (zI 0), some (zI kk), some (zI (cell (zbits s - 1) cc kk)), some (zI dd), none] [] mn 0 0 Q := by
              intro nf
              induction nf with
              | zero =>
                intro dd mn h5 h6 h2 h3 h4 hmu
                exfalso; omega
              | succ nf ih80 =>
                intro dd mn h5 h6 h2 h3 h4 hmu
                have hol : dd + kk < 41 → 0 ≤ mn 79 (41 * s + dd + kk) ∧ mn 79 (41 * s + dd + kk) < mem 67 1 := fun q => by rw [show 41 * s + dd + kk = 41 * s + (dd + kk) by omega, h2 (dd + kk) (by omega) q]; exact zm_rg (by omega)
                have hm1 : mn 67 1 = mem 67 1 := by rw [h3 67 (by decide)]
                refine wp_iload dd_X11_addsColumn_80 rfl ?_
                refine wp_iload dd_X11_addsColumn_82 rfl ?_
                refine wp_iaddC dd_X11_addsColumn_84 (by omega) ?_
                refine wp_bipush dd_X11_addsColumn_85 (by decide) ?_
                refine wp_icmp_ge (tgt := 159) dd_X11_addsColumn_87 (by decide) (fun c87_4 => ?_) (fun c87_4 => ?_)
                · skip
                  refine wp_iincC (ls2 := [some (zR 67), some (zI s), some (zI cc), some (zI ((zbits s) - 1)), some (zI (41 * fr)), some (zI 0), some (zI (kk + 1)), some (zI (cell (zbits s - 1) cc kk)), some (zI dd), none]) dd_X11_addsColumn_159 rfl rfl (by decide) (by omega) rfl ?_
                  refine wp_goto (tgt := 43) dd_X11_addsColumn_162 (by decide) ?_
                  refine wp_ls (zw_sub_of (a := [some (zR 67), some (zI s), some (zI cc), some (zI ((zbits s) - 1)), some (zI (41 * fr)), some (zI 0), some (zI (kk + 1)), none, none, none]) (And.intro rfl (And.intro rfl (And.intro rfl (And.intro rfl (And.intro rfl (And.intro rfl (And.intro rfl (trivial))))))))) ?_
                  refine ih43 (kk + 1) mn ?_ ?_ ?_ ?_ ?_ ?_
                  · first | omega | assumption | (intros; omega)
                  · first | omega | assumption | (intros; omega)
                  · intro x q1 q2
                    first
                    | (rw [h2 x q1 q2, show (kk + 1).toNat = kk.toNat + 1 by omega, zcn, show ((kk.toNat : Nat) : Int) = kk by omega, hz0, Int.zero_mul, Int.add_zero])
                    | (rw [h2 x q1 q2]
                       by_cases hl : kk ≤ x ∧ x < kk + dd
                       · rw [if_pos hl]
                       · rw [if_neg hl, show (kk + 1).toNat = kk.toNat + 1 by omega, zcn, show ((kk.toNat : Nat) : Int) = kk by omega, if_neg (by omega), Int.mul_zero, Int.add_zero])
                  · first | omega | assumption | (intros; omega)
                  · first | omega | assumption | (intros; omega)
                  · omega
                · skip
                  refine wp_iload dd_X11_addsColumn_90 rfl ?_
                  refine wp_aload_n dd_X11_addsColumn_92 rfl ?_
                  refine wp_getR dd_X11_addsColumn_93 gf_X11_61 rfl kk_67 (by decide) (zlt rfl) rr_67_19 ?_
                  refine wp_iload dd_X11_addsColumn_96 rfl ?_
                  refine wp_iload dd_X11_addsColumn_98 rfl ?_
                  refine wp_iaddC dd_X11_addsColumn_100 (by omega) ?_
                  have hol := hol (by omega)
                  have hgd : mn 79 (41 * fr + dd) = g dd := by rw [h4 _ (by omega)]; exact (hg dd (by omega) (by omega)).1
                  have hgr := hg dd (by omega) (by omega)
                  have hvg := zmul_rg (a := cell (zbits s - 1) cc kk) (b := g dd) (A := 31) (B := 31) (by omega) (by omega) (by omega) (by omega)
                  refine wp_iald dd_X11_addsColumn_101 kk_79 (zlt rfl) (by omega) (by omega) ?_
                  rw [hgd]
                  refine wp_imulC dd_X11_addsColumn_102 (by omega) ?_
                  refine wp_istore (ls2 := [some (zR 67), some (zI s), some (zI cc), some (zI ((zbits s) - 1)), some (zI (41 * fr)), some (zI 0), some (zI kk), some (zI (cell (zbits s - 1) cc kk)), some (zI dd), some (zI ((cell (zbits s - 1) cc kk) * (g dd)))]) dd_X11_addsColumn_103 rfl (by decide) rfl ?_
                  refine wp_aload_n dd_X11_addsColumn_105 rfl ?_
                  refine wp_getR dd_X11_addsColumn_106 gf_X11_61 rfl kk_67 (by decide) (zlt rfl) rr_67_19 ?_
                  refine wp_bipush dd_X11_addsColumn_109 (by decide) ?_
                  refine wp_iload_n dd_X11_addsColumn_111 rfl ?_
                  refine wp_imulC dd_X11_addsColumn_112 (by omega) ?_
                  refine wp_iload dd_X11_addsColumn_113 rfl ?_
                  refine wp_iaddC dd_X11_addsColumn_115 (by omega) ?_
                  refine wp_iload dd_X11_addsColumn_116 rfl ?_
                  refine wp_iaddC dd_X11_addsColumn_118 (by omega) ?_
                  refine wp_aload_n dd_X11_addsColumn_119 rfl ?_
                  refine wp_aload_n dd_X11_addsColumn_120 rfl ?_
                  refine wp_getR dd_X11_addsColumn_121 gf_X11_61 rfl kk_67 (by decide) (zlt rfl) rr_67_19 ?_
                  refine wp_bipush dd_X11_addsColumn_124 (by decide) ?_
                  refine wp_iload_n dd_X11_addsColumn_126 rfl ?_
                  refine wp_imulC dd_X11_addsColumn_127 (by omega) ?_
                  refine wp_iload dd_X11_addsColumn_128 rfl ?_
                  refine wp_iaddC dd_X11_addsColumn_130 (by omega) ?_
                  refine wp_iload dd_X11_addsColumn_131 rfl ?_
                  refine wp_iaddC dd_X11_addsColumn_133 (by omega) ?_
                  refine wp_iald dd_X11_addsColumn_134 kk_79 (zlt rfl) (by omega) (by omega) ?_
                  refine wp_iload dd_X11_addsColumn_135 rfl ?_
                  refine wp_if_eq (tgt := 146) dd_X11_addsColumn_137 (by decide) (fun c137_5 => ?_) (fun c137_5 => absurd c137_5 (by decide))
                  refine wp_iload dd_X11_addsColumn_146 rfl ?_
                  refine wp_iaddC dd_X11_addsColumn_148 (by omega) ?_
                  refine wp_callV (M' := mm_X11_rest) (As := [zI ((mn 79 (((41 * s) + dd) + kk)) + ((cell (zbits s - 1) cc kk) * (g dd)))]) (rest := [zI (((41 * s) + dd) + kk), zR 79]) dd_X11_addsColumn_149 lk_X11_13 mV_X11_rest kk_67 (zlt rfl) ⟨_, _, rfl⟩ rfl (by decide) (by decide) (Nat.le_of_ble_eq_true rfl) rfl (sp_X11_rest  ((mn 79 (((41 * s) + dd) + kk)) + ((cell (zbits s - 1) cc kk) * (g dd))) (by rw [hm1]; exact hp) ?_)
                  show zw_Wp l mm_X11_addsColumn (zS L) 152 [some (zR 67), some (zI s), some (zI cc), some (zI ((zbits s) - 1)), some (zI (41 * fr)), some (zI 0), some (zI kk), some (zI (cell (zbits s - 1) cc kk)), some (zI dd), some (zI ((cell (zbits s - 1) cc kk) * (g dd)))] [zI (((mn 79 (((41 * s) + dd) + kk)) + ((cell (zbits s - 1) cc kk) * (g dd))) % mn 67 1), zI (((41 * s) + dd) + kk), zR 79] mn 0 0 Q
                  refine wp_iast dd_X11_addsColumn_152 kk_79 (zlt rfl) (by omega) (by omega) ?_
                  refine wp_iincC (ls2 := [some (zR 67), some (zI s), some (zI cc), some (zI ((zbits s) - 1)), some (zI (41 * fr)), some (zI 0), some (zI kk), some (zI (cell (zbits s - 1) cc kk)), some (zI (dd + 1)), some (zI ((cell (zbits s - 1) cc kk) * (g dd)))]) dd_X11_addsColumn_153 rfl rfl (by decide) (by omega) rfl ?_
                  refine wp_goto (tgt := 80) dd_X11_addsColumn_156 (by decide) ?_
                  refine wp_ls (zw_sub_of (a := [some (zR 67), some (zI s), some (zI cc), some (zI ((zbits s) - 1)), some (zI (41 * fr)), some (zI 0), some (zI kk), some (zI (cell (zbits s - 1) cc kk)), some (zI (dd + 1)), none]) (And.intro rfl (And.intro rfl (And.intro rfl (And.intro rfl (And.intro rfl (And.intro rfl (And.intro rfl (And.intro rfl (And.intro rfl (trivial))))))))))) ?_
                  refine ih80 (dd + 1) (zu mn 79 (((41 * s) + dd) + kk) (((mn 79 (((41 * s) + dd) + kk)) + ((cell (zbits s - 1) cc kk) * (g dd))) % mn 67 1)) ?_ ?_ ?_ ?_ ?_ ?_
                  · first | omega | assumption | (intros; omega)
                  · first | omega | assumption | (intros; omega)
                  · intro x q1 q2
                    by_cases hx : x = dd + kk
                    · subst hx
                      rw [show 41 * s + (dd + kk) = 41 * s + dd + kk by omega, zu_s, show 41 * s + dd + kk = 41 * s + (dd + kk) by omega, h2 (dd + kk) q1 q2, if_neg (show ¬ (kk ≤ dd + kk ∧ dd + kk < kk + dd) by omega), if_pos (show kk ≤ dd + kk ∧ dd + kk < kk + (dd + 1) by omega), hm1]
                      rw [show (kk + 1).toNat = kk.toNat + 1 by omega, zcn, show ((kk.toNat : Nat) : Int) = kk by omega, if_pos (by omega), show dd + kk - kk = dd by omega]
                      first
                      | (rw [Int.emod_add_emod]; congr 1; rw [hsgm]; grind)
                      | (rw [Int.emod_add_emod]; congr 1; rw [hsgp]; grind)
                    · rw [zu_n (Or.inr (by omega)), h2 x q1 q2]
                      by_cases hl : kk ≤ x ∧ x < kk + dd
                      · rw [if_pos hl, if_pos (by omega)]
                      · rw [if_neg hl, if_neg (by omega)]
                  · intro a ha; rw [zu_row ha]; exact h3 a ha
                  · intro y hy; rw [zu_n (Or.inr (by omega))]; exact h4 y hy
                  · omega
            refine lp80 ((41 - kk - 0 : Int)).toNat.succ 0 mm ?_ ?_ ?_ ?_ ?_ ?_
            · first | omega | assumption | (intros; omega)
            · first | omega | assumption | (intros; omega)
            · intro x q1 q2; rw [h2 x q1 q2, if_neg (by omega)]
            · first | omega | assumption | (intros; omega)
            · first | omega | assumption | (intros; omega)
            · omega
          · skip
            have hz0 : cell (zbits s - 1) cc kk = 0 := c71_3
            refine wp_goto (tgt := 159) dd_X11_addsColumn_74 (by decide) ?_
            refine wp_iincC (ls2 := [some (zR 67), some (zI s), some (zI cc), some (zI ((zbits s) - 1)), some (zI (41 * fr)), some (zI 0), some (zI (kk + 1)), some (zI (cell (zbits s - 1) cc kk)), none, none]) dd_X11_addsColumn_159 rfl rfl (by decide) (by omega) rfl ?_
            refine wp_goto (tgt := 43) dd_X11_addsColumn_162 (by decide) ?_
            refine wp_ls (zw_sub_of (a := [some (zR 67), some (zI s), some (zI cc), some (zI ((zbits s) - 1)), some (zI (41 * fr)), some (zI 0), some (zI (kk + 1)), none, none, none]) (And.intro rfl (And.intro rfl (And.intro rfl (And.intro rfl (And.intro rfl (And.intro rfl (And.intro rfl (trivial))))))))) ?_
            refine ih43 (kk + 1) mm ?_ ?_ ?_ ?_ ?_ ?_
            · first | omega | assumption | (intros; omega)
            · first | omega | assumption | (intros; omega)
            · intro x q1 q2
              first
              | (rw [h2 x q1 q2, show (kk + 1).toNat = kk.toNat + 1 by omega, zcn, show ((kk.toNat : Nat) : Int) = kk by omega, hz0, Int.zero_mul, Int.add_zero])
              | (rw [h2 x q1 q2]
                 by_cases hl : kk ≤ x ∧ x < kk + dd
                 · rw [if_pos hl]
                 · rw [if_neg hl, show (kk + 1).toNat = kk.toNat + 1 by omega, zcn, show ((kk.toNat : Nat) : Int) = kk by omega, if_neg (by omega), Int.mul_zero, Int.add_zero])
            · first | omega | assumption | (intros; omega)
            · first | omega | assumption | (intros; omega)
            · omega
    refine lp43 ((9 - 0 : Int)).toNat.succ 0 mem ?_ ?_ ?_ ?_ ?_ ?_
    · first | omega | assumption | (intros; omega)
    · first | omega | assumption | (intros; omega)
    · intro x q1 q2; have := ho x q1 q2; show _ = (o x + zsg s cc * 0) % _; rw [Int.mul_zero, Int.add_zero, Int.emod_eq_of_lt this.2.1 this.2.2]; exact this.1
    · intros; rfl
    · intros; rfl
    · omega
  · skip
    have hsgm : zsg s cc = -1 := by unfold zsg; rw [if_pos c30_1]
    refine wp_iconst dd_X11_addsColumn_33 (zr_lit rfl) ?_
    refine wp_goto (tgt := 38) dd_X11_addsColumn_34 (by decide) ?_
    refine wp_istore (ls2 := [some (zR 67), some (zI s), some (zI cc), some (zI ((zbits s) - 1)), some (zI (41 * fr)), some (zI 1), none, none, none, none]) dd_X11_addsColumn_38 rfl (by decide) rfl ?_
    refine wp_iconst dd_X11_addsColumn_40 (zr_lit rfl) ?_
    refine wp_istore (ls2 := [some (zR 67), some (zI s), some (zI cc), some (zI ((zbits s) - 1)), some (zI (41 * fr)), some (zI 1), some (zI 0), none, none, none]) dd_X11_addsColumn_41 rfl (by decide) rfl ?_
    have lp43 : ∀ (nf : Nat) (kk : Int) (mm : zMem), (0 ≤ kk) → (kk ≤ 9) → (∀ x : Int, 0 ≤ x → x < 41 → mm 79 (41 * s + x) = (o x + zsg s cc * zcn (cell (zbits s - 1) cc) g x kk.toNat) % mem 67 1) → (∀ a : Nat, a ≠ 79 → mm a = mem a) → (∀ y : Int, (y < 41 * s ∨ 41 * s + 41 ≤ y) → mm 79 y = mem 79 y) → (9 - kk) < (nf : Int) → zw_Wp l mm_X11_addsColumn (zS L) 43 [some (zR 67), some (zI s), some (zI cc), some (zI ((zbits s) - 1)), some (zI (41 * fr)), some (zI 1), some (zI kk), none, none, none] [] mm 0 0 Q := by
      intro nf
      induction nf with
      | zero =>
        intro kk mm h0 h1 h2 h3 h4 hmu
        exfalso; omega
      | succ nf ih43 =>
        intro kk mm h0 h1 h2 h3 h4 hmu
        have hm1 : mm 67 1 = mem 67 1 := by rw [h3 67 (by decide)]
        have hcell : kk < 9 → mm 78 (9 * (8 * (zbits s - 1) + cc) + kk) = cell (zbits s - 1) cc kk := fun q => by rw [h3 78 (by decide)]; exact ht _ _ _ (by omega) (by omega) (by omega)
        refine wp_iload dd_X11_addsColumn_43 rfl ?_
        refine wp_bipush dd_X11_addsColumn_45 (by decide) ?_
        refine wp_icmp_ge (tgt := 165) dd_X11_addsColumn_47 (by decide) (fun c47_6 => ?_) (fun c47_6 => ?_)
        · skip
          refine wp_return (st := []) dd_X11_addsColumn_165 rfl ?_
          exact k mm (fun x q1 q2 => by rw [h2 x q1 q2, show kk.toNat = 9 by omega]) ⟨h3, h4⟩
        · skip
          refine wp_aload_n dd_X11_addsColumn_50 rfl ?_
          refine wp_getR dd_X11_addsColumn_51 gf_X11_58 rfl kk_67 (by decide) (zlt rfl) rr_67_17 ?_
          refine wp_bipush dd_X11_addsColumn_54 (by decide) ?_
          refine wp_bipush dd_X11_addsColumn_56 (by decide) ?_
          refine wp_iload_n dd_X11_addsColumn_58 rfl ?_
          refine wp_imulC dd_X11_addsColumn_59 (by omega) ?_
          refine wp_iload_n dd_X11_addsColumn_60 rfl ?_
          refine wp_iaddC dd_X11_addsColumn_61 (by omega) ?_
          refine wp_imulC dd_X11_addsColumn_62 (by omega) ?_
          refine wp_iload dd_X11_addsColumn_63 rfl ?_
          refine wp_iaddC dd_X11_addsColumn_65 (by omega) ?_
          have hcell := hcell (by omega)
          have hck := hcr kk (by omega)
          refine wp_iald dd_X11_addsColumn_66 kk_78 (zlt rfl) (by omega) (by omega) ?_
          rw [hcell]
          refine wp_istore (ls2 := [some (zR 67), some (zI s), some (zI cc), some (zI ((zbits s) - 1)), some (zI (41 * fr)), some (zI 1), some (zI kk), some (zI (cell (zbits s - 1) cc kk)), none, none]) dd_X11_addsColumn_67 rfl (by decide) rfl ?_
          refine wp_iload dd_X11_addsColumn_69 rfl ?_
          refine wp_if_ne (tgt := 77) dd_X11_addsColumn_71 (by decide) (fun c71_7 => ?_) (fun c71_7 => ?_)
          · skip
            refine wp_iconst dd_X11_addsColumn_77 (zr_lit rfl) ?_
            refine wp_istore (ls2 := [some (zR 67), some (zI s), some (zI cc), some (zI ((zbits s) - 1)), some (zI (41 * fr)), some (zI 1), some (zI kk), some (zI (cell (zbits s - 1) cc kk)), some (zI 0), none]) dd_X11_addsColumn_78 rfl (by decide) rfl ?_
            have lp80 : ∀ (nf : Nat) (dd : Int) (mn : zMem), (0 ≤ dd) → (dd + kk ≤ 41) → (∀ x : Int, 0 ≤ x → x < 41 → mn 79 (41 * s + x) = (o x + zsg s cc * zcn (cell (zbits s - 1) cc) g x (if kk ≤ x ∧ x < kk + dd then (kk + 1).toNat else kk.toNat)) % mem 67 1) → (∀ a : Nat, a ≠ 79 → mn a = mem a) → (∀ y : Int, (y < 41 * s ∨ 41 * s + 41 ≤ y) → mn 79 y = mem 79 y) → (41 - kk - dd) < (nf : Int) → zw_Wp l mm_X11_addsColumn (zS L) 80 [some (zR 67), some (zI s), some (zI cc), some (zI ((zbits s) - 1)), some (zI (41 * fr)), some (zI 1), some (zI kk), some (zI (cell (zbits s - 1) cc kk)), some (zI dd), none] [] mn 0 0 Q := by
              intro nf
              induction nf with
              | zero =>
                intro dd mn h5 h6 h2 h3 h4 hmu
                exfalso; omega
              | succ nf ih80 =>
                intro dd mn h5 h6 h2 h3 h4 hmu
                have hol : dd + kk < 41 → 0 ≤ mn 79 (41 * s + dd + kk) ∧ mn 79 (41 * s + dd + kk) < mem 67 1 := fun q => by rw [show 41 * s + dd + kk = 41 * s + (dd + kk) by omega, h2 (dd + kk) (by omega) q]; exact zm_rg (by omega)
                have hm1 : mn 67 1 = mem 67 1 := by rw [h3 67 (by decide)]
                refine wp_iload dd_X11_addsColumn_80 rfl ?_
                refine wp_iload dd_X11_addsColumn_82 rfl ?_
                refine wp_iaddC dd_X11_addsColumn_84 (by omega) ?_
                refine wp_bipush dd_X11_addsColumn_85 (by decide) ?_
                refine wp_icmp_ge (tgt := 159) dd_X11_addsColumn_87 (by decide) (fun c87_8 => ?_) (fun c87_8 => ?_)
                · skip
                  refine wp_iincC (ls2 := [some (zR 67), some (zI s), some (zI cc), some (zI ((zbits s) - 1)), some (zI (41 * fr)), some (zI 1), some (zI (kk + 1)), some (zI (cell (zbits s - 1) cc kk)), some (zI dd), none]) dd_X11_addsColumn_159 rfl rfl (by decide) (by omega) rfl ?_
                  refine wp_goto (tgt := 43) dd_X11_addsColumn_162 (by decide) ?_
                  refine wp_ls (zw_sub_of (a := [some (zR 67), some (zI s), some (zI cc), some (zI ((zbits s) - 1)), some (zI (41 * fr)), some (zI 1), some (zI (kk + 1)), none, none, none]) (And.intro rfl (And.intro rfl (And.intro rfl (And.intro rfl (And.intro rfl (And.intro rfl (And.intro rfl (trivial))))))))) ?_
                  refine ih43 (kk + 1) mn ?_ ?_ ?_ ?_ ?_ ?_
                  · first | omega | assumption | (intros; omega)
                  · first | omega | assumption | (intros; omega)
                  · intro x q1 q2
                    first
                    | (rw [h2 x q1 q2, show (kk + 1).toNat = kk.toNat + 1 by omega, zcn, show ((kk.toNat : Nat) : Int) = kk by omega, hz0, Int.zero_mul, Int.add_zero])
                    | (rw [h2 x q1 q2]
                       by_cases hl : kk ≤ x ∧ x < kk + dd
                       · rw [if_pos hl]
                       · rw [if_neg hl, show (kk + 1).toNat = kk.toNat + 1 by omega, zcn, show ((kk.toNat : Nat) : Int) = kk by omega, if_neg (by omega), Int.mul_zero, Int.add_zero])
                  · first | omega | assumption | (intros; omega)
                  · first | omega | assumption | (intros; omega)
                  · omega
                · skip
                  refine wp_iload dd_X11_addsColumn_90 rfl ?_
                  refine wp_aload_n dd_X11_addsColumn_92 rfl ?_
                  refine wp_getR dd_X11_addsColumn_93 gf_X11_61 rfl kk_67 (by decide) (zlt rfl) rr_67_19 ?_
                  refine wp_iload dd_X11_addsColumn_96 rfl ?_
                  refine wp_iload dd_X11_addsColumn_98 rfl ?_
                  refine wp_iaddC dd_X11_addsColumn_100 (by omega) ?_
                  have hol := hol (by omega)
                  have hgd : mn 79 (41 * fr + dd) = g dd := by rw [h4 _ (by omega)]; exact (hg dd (by omega) (by omega)).1
                  have hgr := hg dd (by omega) (by omega)
                  have hvg := zmul_rg (a := cell (zbits s - 1) cc kk) (b := g dd) (A := 31) (B := 31) (by omega) (by omega) (by omega) (by omega)
                  refine wp_iald dd_X11_addsColumn_101 kk_79 (zlt rfl) (by omega) (by omega) ?_
                  rw [hgd]
                  refine wp_imulC dd_X11_addsColumn_102 (by omega) ?_
                  refine wp_istore (ls2 := [some (zR 67), some (zI s), some (zI cc), some (zI ((zbits s) - 1)), some (zI (41 * fr)), some (zI 1), some (zI kk), some (zI (cell (zbits s - 1) cc kk)), some (zI dd), some (zI ((cell (zbits s - 1) cc kk) * (g dd)))]) dd_X11_addsColumn_103 rfl (by decide) rfl ?_
                  refine wp_aload_n dd_X11_addsColumn_105 rfl ?_
                  refine wp_getR dd_X11_addsColumn_106 gf_X11_61 rfl kk_67 (by decide) (zlt rfl) rr_67_19 ?_
                  refine wp_bipush dd_X11_addsColumn_109 (by decide) ?_
                  refine wp_iload_n dd_X11_addsColumn_111 rfl ?_
                  refine wp_imulC dd_X11_addsColumn_112 (by omega) ?_
                  refine wp_iload dd_X11_addsColumn_113 rfl ?_
                  refine wp_iaddC dd_X11_addsColumn_115 (by omega) ?_
                  refine wp_iload dd_X11_addsColumn_116 rfl ?_
                  refine wp_iaddC dd_X11_addsColumn_118 (by omega) ?_
                  refine wp_aload_n dd_X11_addsColumn_119 rfl ?_
                  refine wp_aload_n dd_X11_addsColumn_120 rfl ?_
                  refine wp_getR dd_X11_addsColumn_121 gf_X11_61 rfl kk_67 (by decide) (zlt rfl) rr_67_19 ?_
                  refine wp_bipush dd_X11_addsColumn_124 (by decide) ?_
                  refine wp_iload_n dd_X11_addsColumn_126 rfl ?_
                  refine wp_imulC dd_X11_addsColumn_127 (by omega) ?_
                  refine wp_iload dd_X11_addsColumn_128 rfl ?_
                  refine wp_iaddC dd_X11_addsColumn_130 (by omega) ?_
                  refine wp_iload dd_X11_addsColumn_131 rfl ?_
                  refine wp_iaddC dd_X11_addsColumn_133 (by omega) ?_
                  refine wp_iald dd_X11_addsColumn_134 kk_79 (zlt rfl) (by omega) (by omega) ?_
                  refine wp_iload dd_X11_addsColumn_135 rfl ?_
                  refine wp_if_eq (tgt := 146) dd_X11_addsColumn_137 (by decide) (fun c137_9 => absurd c137_9 (by decide)) (fun c137_9 => ?_)
                  refine wp_iload dd_X11_addsColumn_140 rfl ?_
                  refine wp_inegC dd_X11_addsColumn_142 (by omega) ?_
                  refine wp_goto (tgt := 148) dd_X11_addsColumn_143 (by decide) ?_
                  refine wp_iaddC dd_X11_addsColumn_148 (by omega) ?_
                  refine wp_callV (M' := mm_X11_rest) (As := [zI ((mn 79 (((41 * s) + dd) + kk)) + (-((cell (zbits s - 1) cc kk) * (g dd))))]) (rest := [zI (((41 * s) + dd) + kk), zR 79]) dd_X11_addsColumn_149 lk_X11_13 mV_X11_rest kk_67 (zlt rfl) ⟨_, _, rfl⟩ rfl (by decide) (by decide) (Nat.le_of_ble_eq_true rfl) rfl (sp_X11_rest  ((mn 79 (((41 * s) + dd) + kk)) + (-((cell (zbits s - 1) cc kk) * (g dd)))) (by rw [hm1]; exact hp) ?_)
                  show zw_Wp l mm_X11_addsColumn (zS L) 152 [some (zR 67), some (zI s), some (zI cc), some (zI ((zbits s) - 1)), some (zI (41 * fr)), some (zI 1), some (zI kk), some (zI (cell (zbits s - 1) cc kk)), some (zI dd), some (zI ((cell (zbits s - 1) cc kk) * (g dd)))] [zI (((mn 79 (((41 * s) + dd) + kk)) + (-((cell (zbits s - 1) cc kk) * (g dd)))) % mn 67 1), zI (((41 * s) + dd) + kk), zR 79] mn 0 0 Q
                  refine wp_iast dd_X11_addsColumn_152 kk_79 (zlt rfl) (by omega) (by omega) ?_
                  refine wp_iincC (ls2 := [some (zR 67), some (zI s), some (zI cc), some (zI ((zbits s) - 1)), some (zI (41 * fr)), some (zI 1), some (zI kk), some (zI (cell (zbits s - 1) cc kk)), some (zI (dd + 1)), some (zI ((cell (zbits s - 1) cc kk) * (g dd)))]) dd_X11_addsColumn_153 rfl rfl (by decide) (by omega) rfl ?_
                  refine wp_goto (tgt := 80) dd_X11_addsColumn_156 (by decide) ?_
                  refine wp_ls (zw_sub_of (a := [some (zR 67), some (zI s), some (zI cc), some (zI ((zbits s) - 1)), some (zI (41 * fr)), some (zI 1), some (zI kk), some (zI (cell (zbits s - 1) cc kk)), some (zI (dd + 1)), none]) (And.intro rfl (And.intro rfl (And.intro rfl (And.intro rfl (And.intro rfl (And.intro rfl (And.intro rfl (And.intro rfl (And.intro rfl (trivial))))))))))) ?_
                  refine ih80 (dd + 1) (zu mn 79 (((41 * s) + dd) + kk) (((mn 79 (((41 * s) + dd) + kk)) + (-((cell (zbits s - 1) cc kk) * (g dd)))) % mn 67 1)) ?_ ?_ ?_ ?_ ?_ ?_
                  · first | omega | assumption | (intros; omega)
                  · first | omega | assumption | (intros; omega)
                  · intro x q1 q2
                    by_cases hx : x = dd + kk
                    · subst hx
                      rw [show 41 * s + (dd + kk) = 41 * s + dd + kk by omega, zu_s, show 41 * s + dd + kk = 41 * s + (dd + kk) by omega, h2 (dd + kk) q1 q2, if_neg (show ¬ (kk ≤ dd + kk ∧ dd + kk < kk + dd) by omega), if_pos (show kk ≤ dd + kk ∧ dd + kk < kk + (dd + 1) by omega), hm1]
                      rw [show (kk + 1).toNat = kk.toNat + 1 by omega, zcn, show ((kk.toNat : Nat) : Int) = kk by omega, if_pos (by omega), show dd + kk - kk = dd by omega]
                      first
                      | (rw [Int.emod_add_emod]; congr 1; rw [hsgm]; grind)
                      | (rw [Int.emod_add_emod]; congr 1; rw [hsgp]; grind)
                    · rw [zu_n (Or.inr (by omega)), h2 x q1 q2]
                      by_cases hl : kk ≤ x ∧ x < kk + dd
                      · rw [if_pos hl, if_pos (by omega)]
                      · rw [if_neg hl, if_neg (by omega)]
                  · intro a ha; rw [zu_row ha]; exact h3 a ha
                  · intro y hy; rw [zu_n (Or.inr (by omega))]; exact h4 y hy
                  · omega
            refine lp80 ((41 - kk - 0 : Int)).toNat.succ 0 mm ?_ ?_ ?_ ?_ ?_ ?_
            · first | omega | assumption | (intros; omega)
            · first | omega | assumption | (intros; omega)
            · intro x q1 q2; rw [h2 x q1 q2, if_neg (by omega)]
            · first | omega | assumption | (intros; omega)
            · first | omega | assumption | (intros; omega)
            · omega
          · skip
            have hz0 : cell (zbits s - 1) cc kk = 0 := c71_7
            refine wp_goto (tgt := 159) dd_X11_addsColumn_74 (by decide) ?_
            refine wp_iincC (ls2 := [some (zR 67), some (zI s), some (zI cc), some (zI ((zbits s) - 1)), some (zI (41 * fr)), some (zI 1), some (zI (kk + 1)), some (zI (cell (zbits s - 1) cc kk)), none, none]) dd_X11_addsColumn_159 rfl rfl (by decide) (by omega) rfl ?_
            refine wp_goto (tgt := 43) dd_X11_addsColumn_162 (by decide) ?_
            refine wp_ls (zw_sub_of (a := [some (zR 67), some (zI s), some (zI cc), some (zI ((zbits s) - 1)), some (zI (41 * fr)), some (zI 1), some (zI (kk + 1)), none, none, none]) (And.intro rfl (And.intro rfl (And.intro rfl (And.intro rfl (And.intro rfl (And.intro rfl (And.intro rfl (trivial))))))))) ?_
            refine ih43 (kk + 1) mm ?_ ?_ ?_ ?_ ?_ ?_
            · first | omega | assumption | (intros; omega)
            · first | omega | assumption | (intros; omega)
            · intro x q1 q2
              first
              | (rw [h2 x q1 q2, show (kk + 1).toNat = kk.toNat + 1 by omega, zcn, show ((kk.toNat : Nat) : Int) = kk by omega, hz0, Int.zero_mul, Int.add_zero])
              | (rw [h2 x q1 q2]
                 by_cases hl : kk ≤ x ∧ x < kk + dd
                 · rw [if_pos hl]
                 · rw [if_neg hl, show (kk + 1).toNat = kk.toNat + 1 by omega, zcn, show ((kk.toNat : Nat) : Int) = kk by omega, if_neg (by omega), Int.mul_zero, Int.add_zero])
            · first | omega | assumption | (intros; omega)
            · first | omega | assumption | (intros; omega)
            · omega
    refine lp43 ((9 - 0 : Int)).toNat.succ 0 mem ?_ ?_ ?_ ?_ ?_ ?_
    · first | omega | assumption | (intros; omega)
    · first | omega | assumption | (intros; omega)
    · intro x q1 q2; have := ho x q1 q2; show _ = (o x + zsg s cc * 0) % _; rw [Int.mul_zero, Int.add_zero, Int.emod_eq_of_lt this.2.1 this.2.2]; exact this.1
    · intros; rfl
    · intros; rfl
    · omega


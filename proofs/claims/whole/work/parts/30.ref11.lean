theorem zq_m3 (v a b p : Int) : (v % p + a % p - b % p) % p = (v + a - b) % p := by
  rw [Int.sub_emod_emod, Int.sub_emod, Int.add_emod_emod, Int.emod_add_emod, ← Int.sub_emod]
set_option maxRecDepth 100000 in
set_option maxHeartbeats 4000000 in
theorem sp_X11_productAt {l : Launch} {L : Nat} {mem : zMem} {Q : zQ} (c d : Int → Int) (le : Int) (a : Int) (b : Int) (k0 : Int) (hp : zPr (mem 67 1)) (hk : zTk mem c d le) (hc : ∀ x y : Int, 0 ≤ zpt c le x y ∧ zpt c le x y < mem 67 1) (hd : ∀ x y : Int, 0 ≤ zpt d le x y ∧ zpt d le x y < mem 67 1) (hk0 : 0 ≤ k0 ∧ k0 ≤ 8) (k : Q (some (zI (zpr c d le a b k0 (k0 + 1).toNat % mem 67 1))) (zS L) mem) : zw_Ok l mm_X11_productAt [zR 67, zI a, zI b, zI k0] (zS L) mem Q := by
  refine zw_okA (fun hA => ?_)
  have rg_a : -2147483648 ≤ a ∧ a < 2147483648 := hA.2.1
  have rg_b : -2147483648 ≤ b ∧ b < 2147483648 := hA.2.2.1
  have rg_k0 : -2147483648 ≤ k0 ∧ k0 < 2147483648 := hA.2.2.2.1
  refine zw_enter (by decide) (Nat.le_of_ble_eq_true rfl) rfl ?_
  show zw_Wp l mm_X11_productAt (zS L) 0 [some (zR 67), some (zI a), some (zI b), some (zI k0), none, none] [] mem 0 0 Q
  have hpr := hp.rg
  refine wp_iconst dd_X11_productAt_0 (zr_lit rfl) ?_
  refine wp_istore (ls2 := [some (zR 67), some (zI a), some (zI b), some (zI k0), some (zI 0), none]) dd_X11_productAt_1 rfl (by decide) rfl ?_
  refine wp_iconst dd_X11_productAt_3 (zr_lit rfl) ?_
  refine wp_istore (ls2 := [some (zR 67), some (zI a), some (zI b), some (zI k0), some (zI 0), some (zI 0)]) dd_X11_productAt_4 rfl (by decide) rfl ?_
  have lp6 : ∀ (nf : Nat) (v : Int) (n : Int), (0 ≤ n) → (n ≤ k0 + 1) → (v = zpr c d le a b k0 n.toNat % mem 67 1) → (k0 + 1 - n) < (nf : Int) → zw_Wp l mm_X11_productAt (zS L) 6 [some (zR 67), some (zI a), some (zI b), some (zI k0), some (zI v), some (zI n)] [] mem 0 0 Q := by
    intro nf
    induction nf with
    | zero =>
      intro v n h0 h1 h2 hmu
      exfalso; omega
    | succ nf ih6 =>
      intro v n h0 h1 h2 hmu
      have hv : 0 ≤ v ∧ v < mem 67 1 := by rw [h2]; exact zm_rg (by omega)
      have g1 := hc a n
      have g2 := hd b (k0 - n)
      have g3 := zmul_rg (a := zpt c le a n) (b := zpt d le b (k0 - n)) (A := 31) (B := 31) (by omega) (by omega) (by omega) (by omega)
      refine wp_iload dd_X11_productAt_6 rfl ?_
      refine wp_iload_n dd_X11_productAt_8 rfl ?_
      refine wp_icmp_gt (tgt := 45) dd_X11_productAt_9 (by decide) (fun c9_1 => ?_) (fun c9_1 => ?_)
      · skip
        refine wp_iload dd_X11_productAt_45 rfl ?_
        refine wp_ireturn (st := []) dd_X11_productAt_47 rfl ?_
        refine zq_I ?_ ?_ k
        · rw [h2, show n = k0 + 1 by omega]
        · rfl
      · skip
        refine wp_iload dd_X11_productAt_12 rfl ?_
        refine wp_aload_n dd_X11_productAt_14 rfl ?_
        refine wp_iload_n dd_X11_productAt_15 rfl ?_
        refine wp_iload dd_X11_productAt_16 rfl ?_
        refine wp_callV (M' := mm_X11_oneAt) (As := [zI a, zI n]) (rest := [zI v]) dd_X11_productAt_18 lk_X11_189 mV_X11_oneAt kk_67 (zlt rfl) ⟨_, _, rfl⟩ rfl (by decide) (by decide) (Nat.le_of_ble_eq_true rfl) rfl (sp_X11_oneAt c d le a n (by first | assumption | omega) (by first | assumption | omega) ?_)
        show zw_Wp l mm_X11_productAt (zS L) 21 [some (zR 67), some (zI a), some (zI b), some (zI k0), some (zI v), some (zI n)] [zI (zpt c le a n), zI v] mem 0 0 Q
        refine wp_aload_n dd_X11_productAt_21 rfl ?_
        refine wp_iload_n dd_X11_productAt_22 rfl ?_
        refine wp_iload_n dd_X11_productAt_23 rfl ?_
        refine wp_iload dd_X11_productAt_24 rfl ?_
        refine wp_isubC dd_X11_productAt_26 (by omega) ?_
        refine wp_callV (M' := mm_X11_twoAt) (As := [zI b, zI (k0 - n)]) (rest := [zI (zpt c le a n), zI v]) dd_X11_productAt_27 lk_X11_192 mV_X11_twoAt kk_67 (zlt rfl) ⟨_, _, rfl⟩ rfl (by decide) (by decide) (Nat.le_of_ble_eq_true rfl) rfl (sp_X11_twoAt c d le b (k0 - n) (by first | assumption | omega) (by first | assumption | omega) ?_)
        show zw_Wp l mm_X11_productAt (zS L) 30 [some (zR 67), some (zI a), some (zI b), some (zI k0), some (zI v), some (zI n)] [zI (zpt d le b (k0 - n)), zI (zpt c le a n), zI v] mem 0 0 Q
        refine wp_imulC dd_X11_productAt_30 (by omega) ?_
        refine wp_iaddC dd_X11_productAt_31 (by omega) ?_
        refine wp_aload_n dd_X11_productAt_32 rfl ?_
        refine wp_getZ 1 rfl dd_X11_productAt_33 gf_X11_9 rfl kk_67 (by decide) (zlt rfl) ?_
        refine wp_iremP dd_X11_productAt_36 (by omega) (by omega) ?_
        refine wp_istore (ls2 := [some (zR 67), some (zI a), some (zI b), some (zI k0), some (zI ((v + ((zpt c le a n) * (zpt d le b (k0 - n)))) % (mem 67 1))), some (zI n)]) dd_X11_productAt_37 rfl (by decide) rfl ?_
        refine wp_iincC (ls2 := [some (zR 67), some (zI a), some (zI b), some (zI k0), some (zI ((v + ((zpt c le a n) * (zpt d le b (k0 - n)))) % (mem 67 1))), some (zI (n + 1))]) dd_X11_productAt_39 rfl rfl (by decide) (by omega) rfl ?_
        refine wp_goto (tgt := 6) dd_X11_productAt_42 (by decide) ?_
        refine ih6 ((v + ((zpt c le a n) * (zpt d le b (k0 - n)))) % (mem 67 1)) (n + 1) ?_ ?_ ?_ ?_
        · first | omega | assumption | (intros; omega)
        · first | omega | assumption | (intros; omega)
        · rw [show (n + 1).toNat = n.toNat + 1 by omega, zpr, show ((n.toNat : Nat) : Int) = n by omega, h2, Int.emod_add_emod]
        · omega
  refine lp6 ((k0 + 1 - 0 : Int)).toNat.succ 0 0 ?_ ?_ ?_ ?_
  · first | omega | assumption | (intros; omega)
  · first | omega | assumption | (intros; omega)
  · show (0 : Int) = 0 % mem 67 1; rw [Int.zero_emod]
  · omega

set_option maxRecDepth 100000 in
set_option maxHeartbeats 4000000 in
theorem sp_X11_bezoutAt {l : Launch} {L : Nat} {mem : zMem} {Q : zQ} (c d : Int → Int) (le : Int) (sz : Int) (r : Int) (cc : Int) (k0 : Int) (hp : zPr (mem 67 1)) (hk : zTk mem c d le) (hc : ∀ x y : Int, 0 ≤ zpt c le x y ∧ zpt c le x y < mem 67 1) (hd : ∀ x y : Int, 0 ≤ zpt d le x y ∧ zpt d le x y < mem 67 1) (hs : mem 67 18 = sz ∧ 0 ≤ sz ∧ sz ≤ 8) (hr0 : 0 ≤ r ∧ r < sz) (hc0 : 0 ≤ cc ∧ cc < sz) (hk0 : 0 ≤ k0 ∧ k0 ≤ 8) (k : Q (some (zI (zbc c d le (mem 67 1) sz r cc k0))) (zS L) mem) : zw_Ok l mm_X11_bezoutAt [zR 67, zI r, zI cc, zI k0] (zS L) mem Q := by
  refine zw_okA (fun hA => ?_)
  have rg_r : -2147483648 ≤ r ∧ r < 2147483648 := hA.2.1
  have rg_cc : -2147483648 ≤ cc ∧ cc < 2147483648 := hA.2.2.1
  have rg_k0 : -2147483648 ≤ k0 ∧ k0 < 2147483648 := hA.2.2.2.1
  refine zw_enter (by decide) (Nat.le_of_ble_eq_true rfl) rfl ?_
  show zw_Wp l mm_X11_bezoutAt (zS L) 0 [some (zR 67), some (zI r), some (zI cc), some (zI k0), none, none] [] mem 0 0 Q
  have hpr := hp.rg
  refine wp_iconst dd_X11_bezoutAt_0 (zr_lit rfl) ?_
  refine wp_istore (ls2 := [some (zR 67), some (zI r), some (zI cc), some (zI k0), some (zI 0), none]) dd_X11_bezoutAt_1 rfl (by decide) rfl ?_
  refine wp_iconst dd_X11_bezoutAt_3 (zr_lit rfl) ?_
  refine wp_istore (ls2 := [some (zR 67), some (zI r), some (zI cc), some (zI k0), some (zI 0), some (zI 0)]) dd_X11_bezoutAt_4 rfl (by decide) rfl ?_
  have lp6 : ∀ (nf : Nat) (v : Int) (n : Int), (0 ≤ n) → (n ≤ r + 1 ∧ n ≤ sz - cc) → (v = zbz c d le r cc k0 n.toNat % mem 67 1) → (r + 1 - n) < (nf : Int) → zw_Wp l mm_X11_bezoutAt (zS L) 6 [some (zR 67), some (zI r), some (zI cc), some (zI k0), some (zI v), some (zI n)] [] mem 0 0 Q := by
    intro nf
    induction nf with
    | zero =>
      intro v n h0 h1 h2 hmu
      exfalso; omega
    | succ nf ih6 =>
      intro v n h0 h1 h2 hmu
      have hv : 0 ≤ v ∧ v < mem 67 1 := by rw [h2]; exact zm_rg (by omega)
      have g1 := zm_rg (a := zpr c d le (cc + n + 1) (r - n) k0 (k0 + 1).toNat) (p := mem 67 1) (by omega)
      have g2 := zm_rg (a := zpr c d le (r - n) (cc + n + 1) k0 (k0 + 1).toNat) (p := mem 67 1) (by omega)
      refine wp_iload dd_X11_bezoutAt_6 rfl ?_
      refine wp_iload_n dd_X11_bezoutAt_8 rfl ?_
      refine wp_icmp_gt (tgt := 71) dd_X11_bezoutAt_9 (by decide) (fun c9_1 => ?_) (fun c9_1 => ?_)
      · skip
        refine wp_iload dd_X11_bezoutAt_71 rfl ?_
        refine wp_ireturn (st := []) dd_X11_bezoutAt_73 rfl ?_
        refine zq_I ?_ ?_ k
        · rw [h2]; unfold zbc zbn; rw [show (min (r + 1) (sz - cc)).toNat = n.toNat by omega]
        · rfl
      · skip
        refine wp_iload dd_X11_bezoutAt_12 rfl ?_
        refine wp_aload_n dd_X11_bezoutAt_14 rfl ?_
        refine wp_getZ 18 rfl dd_X11_bezoutAt_15 gf_X11_186 rfl kk_67 (by decide) (zlt rfl) ?_
        refine wp_iconst dd_X11_bezoutAt_18 (zr_lit rfl) ?_
        refine wp_isubC dd_X11_bezoutAt_19 (by omega) ?_
        refine wp_iload_n dd_X11_bezoutAt_20 rfl ?_
        refine wp_isubC dd_X11_bezoutAt_21 (by omega) ?_
        refine wp_icmp_gt (tgt := 71) dd_X11_bezoutAt_22 (by decide) (fun c22_2 => ?_) (fun c22_2 => ?_)
        · skip
          refine wp_iload dd_X11_bezoutAt_71 rfl ?_
          refine wp_ireturn (st := []) dd_X11_bezoutAt_73 rfl ?_
          refine zq_I ?_ ?_ k
          · rw [h2]; unfold zbc zbn; rw [show (min (r + 1) (sz - cc)).toNat = n.toNat by omega]
          · rfl
        · skip
          refine wp_aload_n dd_X11_bezoutAt_25 rfl ?_
          refine wp_iload dd_X11_bezoutAt_26 rfl ?_
          refine wp_aload_n dd_X11_bezoutAt_28 rfl ?_
          refine wp_iload_n dd_X11_bezoutAt_29 rfl ?_
          refine wp_iload dd_X11_bezoutAt_30 rfl ?_
          refine wp_iaddC dd_X11_bezoutAt_32 (by omega) ?_
          refine wp_iconst dd_X11_bezoutAt_33 (zr_lit rfl) ?_
          refine wp_iaddC dd_X11_bezoutAt_34 (by omega) ?_
          refine wp_iload_n dd_X11_bezoutAt_35 rfl ?_
          refine wp_iload dd_X11_bezoutAt_36 rfl ?_
          refine wp_isubC dd_X11_bezoutAt_38 (by omega) ?_
          refine wp_iload_n dd_X11_bezoutAt_39 rfl ?_
          refine wp_callV (M' := mm_X11_productAt) (As := [zI ((cc + n) + 1), zI (r - n), zI k0]) (rest := [zI v, zR 67]) dd_X11_bezoutAt_40 lk_X11_195 mV_X11_productAt kk_67 (zlt rfl) ⟨_, _, rfl⟩ rfl (by decide) (by decide) (Nat.le_of_ble_eq_true rfl) rfl (sp_X11_productAt c d le ((cc + n) + 1) (r - n) k0 (by first | assumption | omega) (by first | assumption | omega) (by first | assumption | omega) (by first | assumption | omega) (by first | assumption | omega) ?_)
          show zw_Wp l mm_X11_bezoutAt (zS L) 43 [some (zR 67), some (zI r), some (zI cc), some (zI k0), some (zI v), some (zI n)] [zI (zpr c d le ((cc + n) + 1) (r - n) k0 (k0 + 1).toNat % mem 67 1), zI v, zR 67] mem 0 0 Q
          refine wp_iaddC dd_X11_bezoutAt_43 (by omega) ?_
          refine wp_aload_n dd_X11_bezoutAt_44 rfl ?_
          refine wp_iload_n dd_X11_bezoutAt_45 rfl ?_
          refine wp_iload dd_X11_bezoutAt_46 rfl ?_
          refine wp_isubC dd_X11_bezoutAt_48 (by omega) ?_
          refine wp_iload_n dd_X11_bezoutAt_49 rfl ?_
          refine wp_iload dd_X11_bezoutAt_50 rfl ?_
          refine wp_iaddC dd_X11_bezoutAt_52 (by omega) ?_
          refine wp_iconst dd_X11_bezoutAt_53 (zr_lit rfl) ?_
          refine wp_iaddC dd_X11_bezoutAt_54 (by omega) ?_
          refine wp_iload_n dd_X11_bezoutAt_55 rfl ?_
          refine wp_callV (M' := mm_X11_productAt) (As := [zI (r - n), zI ((cc + n) + 1), zI k0]) (rest := [zI (v + (zpr c d le ((cc + n) + 1) (r - n) k0 (k0 + 1).toNat % mem 67 1)), zR 67]) dd_X11_bezoutAt_56 lk_X11_195 mV_X11_productAt kk_67 (zlt rfl) ⟨_, _, rfl⟩ rfl (by decide) (by decide) (Nat.le_of_ble_eq_true rfl) rfl (sp_X11_productAt c d le (r - n) ((cc + n) + 1) k0 (by first | assumption | omega) (by first | assumption | omega) (by first | assumption | omega) (by first | assumption | omega) (by first | assumption | omega) ?_)
          show zw_Wp l mm_X11_bezoutAt (zS L) 59 [some (zR 67), some (zI r), some (zI cc), some (zI k0), some (zI v), some (zI n)] [zI (zpr c d le (r - n) ((cc + n) + 1) k0 (k0 + 1).toNat % mem 67 1), zI (v + (zpr c d le ((cc + n) + 1) (r - n) k0 (k0 + 1).toNat % mem 67 1)), zR 67] mem 0 0 Q
          refine wp_isubC dd_X11_bezoutAt_59 (by omega) ?_
          refine wp_callV (M' := mm_X11_rest) (As := [zI ((v + (zpr c d le ((cc + n) + 1) (r - n) k0 (k0 + 1).toNat % mem 67 1)) - (zpr c d le (r - n) ((cc + n) + 1) k0 (k0 + 1).toNat % mem 67 1))]) (rest := []) dd_X11_bezoutAt_60 lk_X11_13 mV_X11_rest kk_67 (zlt rfl) ⟨_, _, rfl⟩ rfl (by decide) (by decide) (Nat.le_of_ble_eq_true rfl) rfl (sp_X11_rest  ((v + (zpr c d le ((cc + n) + 1) (r - n) k0 (k0 + 1).toNat % mem 67 1)) - (zpr c d le (r - n) ((cc + n) + 1) k0 (k0 + 1).toNat % mem 67 1)) (by first | assumption | omega) ?_)
          show zw_Wp l mm_X11_bezoutAt (zS L) 63 [some (zR 67), some (zI r), some (zI cc), some (zI k0), some (zI v), some (zI n)] [zI (((v + (zpr c d le ((cc + n) + 1) (r - n) k0 (k0 + 1).toNat % mem 67 1)) - (zpr c d le (r - n) ((cc + n) + 1) k0 (k0 + 1).toNat % mem 67 1)) % mem 67 1)] mem 0 0 Q
          refine wp_istore (ls2 := [some (zR 67), some (zI r), some (zI cc), some (zI k0), some (zI (((v + (zpr c d le ((cc + n) + 1) (r - n) k0 (k0 + 1).toNat % mem 67 1)) - (zpr c d le (r - n) ((cc + n) + 1) k0 (k0 + 1).toNat % mem 67 1)) % mem 67 1)), some (zI n)]) dd_X11_bezoutAt_63 rfl (by decide) rfl ?_
          refine wp_iincC (ls2 := [some (zR 67), some (zI r), some (zI cc), some (zI k0), some (zI (((v + (zpr c d le ((cc + n) + 1) (r - n) k0 (k0 + 1).toNat % mem 67 1)) - (zpr c d le (r - n) ((cc + n) + 1) k0 (k0 + 1).toNat % mem 67 1)) % mem 67 1)), some (zI (n + 1))]) dd_X11_bezoutAt_65 rfl rfl (by decide) (by omega) rfl ?_
          refine wp_goto (tgt := 6) dd_X11_bezoutAt_68 (by decide) ?_
          refine ih6 (((v + (zpr c d le ((cc + n) + 1) (r - n) k0 (k0 + 1).toNat % mem 67 1)) - (zpr c d le (r - n) ((cc + n) + 1) k0 (k0 + 1).toNat % mem 67 1)) % mem 67 1) (n + 1) ?_ ?_ ?_ ?_
          · first | omega | assumption | (intros; omega)
          · first | omega | assumption | (intros; omega)
          · rw [show (n + 1).toNat = n.toNat + 1 by omega, zbz, show ((n.toNat : Nat) : Int) = n by omega, h2, zq_m3]
          · omega
  refine lp6 ((r + 1 - 0 : Int)).toNat.succ 0 0 ?_ ?_ ?_ ?_
  · first | omega | assumption | (intros; omega)
  · first | omega | assumption | (intros; omega)
  · show (0 : Int) = 0 % mem 67 1; rw [Int.zero_emod]
  · omega

set_option maxRecDepth 100000 in
set_option maxHeartbeats 4000000 in
theorem sp_X11_fillsBezout {l : Launch} {L : Nat} {mem : zMem} {Q : zQ} (c d : Int → Int) (le : Int)  (hp : zPr (mem 67 1)) (hk : zTk mem c d le) (hc : ∀ x y : Int, 0 ≤ zpt c le x y ∧ zpt c le x y < mem 67 1) (hd : ∀ x y : Int, 0 ≤ zpt d le x y ∧ zpt d le x y < mem 67 1) (hn : 0 ≤ zdeg c le 25 ∧ 0 ≤ zdeg d le 25) (k : ∀ (mem2 : zMem), (mem2 67 18 = max (zdeg c le 25) (zdeg d le 25)) → (zTb mem2 (max (zdeg c le 25) (zdeg d le 25)) (zbc c d le (mem 67 1) (max (zdeg c le 25) (zdeg d le 25)))) → ((∀ a : Nat, a ≠ 67 → a ≠ 78 → mem2 a = mem a) ∧ ∀ s : Int, s ≠ 18 → mem2 67 s = mem 67 s) → Q none (zS L) mem2) : zw_Ok l mm_X11_fillsBezout [zR 67] (zS L) mem Q := by
  refine zw_enter (by decide) (Nat.le_of_ble_eq_true rfl) rfl ?_
  show zw_Wp l mm_X11_fillsBezout (zS L) 0 [some (zR 67), none, none, none] [] mem 0 0 Q
  have d1 := zdeg_4 (c := c) hk.2.2.2.2
  have d2 := zdeg_4 (c := d) hk.2.2.2.2
  have e15 : mem 67 15 = zdeg c le 25 := hk.2.2.1
  have e16 : mem 67 16 = zdeg d le 25 := hk.2.2.2.1
  refine wp_aload_n dd_X11_fillsBezout_0 rfl ?_
  refine wp_aload_n dd_X11_fillsBezout_1 rfl ?_
  refine wp_getZ 15 rfl dd_X11_fillsBezout_2 gf_X11_180 rfl kk_67 (by decide) (zlt rfl) ?_
  refine wp_aload_n dd_X11_fillsBezout_5 rfl ?_
  refine wp_getZ 16 rfl dd_X11_fillsBezout_6 gf_X11_183 rfl kk_67 (by decide) (zlt rfl) ?_
  refine wp_icmp_le (tgt := 19) dd_X11_fillsBezout_9 (by decide) (fun c9_1 => ?_) (fun c9_1 => ?_)
  · skip
    refine wp_aload_n dd_X11_fillsBezout_19 rfl ?_
    refine wp_getZ 16 rfl dd_X11_fillsBezout_20 gf_X11_183 rfl kk_67 (by decide) (zlt rfl) ?_
    refine wp_putzI 18 rfl dd_X11_fillsBezout_23 pf_X11_186 rfl kk_67 (by decide) (zlt rfl) ?_
    refine wp_iconst dd_X11_fillsBezout_26 (zr_lit rfl) ?_
    refine wp_istore_n (ls2 := [some (zR 67), some (zI 0), none, none]) dd_X11_fillsBezout_27 rfl (by decide) rfl ?_
    have lp28 : ∀ (nf : Nat) (r : Int) (mm : zMem), (0 ≤ r) → (r ≤ (mem 67 16)) → (∀ r2 c2 k2 : Int, 0 ≤ r2 ∧ r2 < (mem 67 16) → 0 ≤ c2 ∧ c2 < (mem 67 16) → 0 ≤ k2 ∧ k2 < 9 → (r2 < r) → mm 78 (9 * (8 * r2 + c2) + k2) = zbc c d le (mem 67 1) (max (zdeg c le 25) (zdeg d le 25)) r2 c2 k2) → (∀ a : Nat, a ≠ 78 → mm a = (zu mem 67 18 (mem 67 16)) a) → ((mem 67 16) - r) < (nf : Int) → zw_Wp l mm_X11_fillsBezout (zS L) 28 [some (zR 67), some (zI r), none, none] [] mm 0 0 Q := by
      intro nf
      induction nf with
      | zero =>
        intro r mm h0 h1 h2 h3 hmu
        exfalso; omega
      | succ nf ih28 =>
        intro r mm h0 h1 h2 h3 hmu
        have hm67 : mm 67 = (zu mem 67 18 (mem 67 16)) 67 := h3 67 (by decide)
        have hm18 : mm 67 18 = (mem 67 16) := by rw [hm67]; exact zu_s
        refine wp_iload_n dd_X11_fillsBezout_28 rfl ?_
        refine wp_aload_n dd_X11_fillsBezout_29 rfl ?_
        refine wp_getZ 18 rfl dd_X11_fillsBezout_30 gf_X11_186 rfl kk_67 (by decide) (zlt rfl) ?_
        refine wp_icmp_ge (tgt := 95) dd_X11_fillsBezout_33 (by decide) (fun c33_2 => ?_) (fun c33_2 => ?_)
        · skip
          refine wp_return (st := []) dd_X11_fillsBezout_95 rfl ?_
          refine k mm ?_ (fun r2 c2 k2 q1 q2 q3 => h2 r2 c2 k2 (by omega) (by omega) q3 (by omega)) ⟨fun a g1 g2 => ?_, fun s g1 => ?_⟩
          · rw [hm18]; omega
          · rw [h3 a g2, zu_row g1]
          · rw [hm67, zu_n (Or.inr g1)]
        · skip
          refine wp_iconst dd_X11_fillsBezout_36 (zr_lit rfl) ?_
          refine wp_istore_n (ls2 := [some (zR 67), some (zI r), some (zI 0), none]) dd_X11_fillsBezout_37 rfl (by decide) rfl ?_
          have lp38 : ∀ (nf : Nat) (cc : Int) (mm : zMem), (0 ≤ cc) → (cc ≤ (mem 67 16)) → (∀ r2 c2 k2 : Int, 0 ≤ r2 ∧ r2 < (mem 67 16) → 0 ≤ c2 ∧ c2 < (mem 67 16) → 0 ≤ k2 ∧ k2 < 9 → (r2 < r ∨ r2 = r ∧ c2 < cc) → mm 78 (9 * (8 * r2 + c2) + k2) = zbc c d le (mem 67 1) (max (zdeg c le 25) (zdeg d le 25)) r2 c2 k2) → (∀ a : Nat, a ≠ 78 → mm a = (zu mem 67 18 (mem 67 16)) a) → ((mem 67 16) - cc) < (nf : Int) → zw_Wp l mm_X11_fillsBezout (zS L) 38 [some (zR 67), some (zI r), some (zI cc), none] [] mm 0 0 Q := by
            intro nf
            induction nf with
            | zero =>
              intro cc mm h4 h5 h2 h3 hmu
              exfalso; omega
            | succ nf ih38 =>
              intro cc mm h4 h5 h2 h3 hmu
              have hm67 : mm 67 = (zu mem 67 18 (mem 67 16)) 67 := h3 67 (by decide)
              have hm18 : mm 67 18 = (mem 67 16) := by rw [hm67]; exact zu_s
              refine wp_iload_n dd_X11_fillsBezout_38 rfl ?_
              refine wp_aload_n dd_X11_fillsBezout_39 rfl ?_
              refine wp_getZ 18 rfl dd_X11_fillsBezout_40 gf_X11_186 rfl kk_67 (by decide) (zlt rfl) ?_
              refine wp_icmp_ge (tgt := 89) dd_X11_fillsBezout_43 (by decide) (fun c43_3 => ?_) (fun c43_3 => ?_)
              · skip
                refine wp_iincC (ls2 := [some (zR 67), some (zI (r + 1)), some (zI cc), none]) dd_X11_fillsBezout_89 rfl rfl (by decide) (by omega) rfl ?_
                refine wp_goto (tgt := 28) dd_X11_fillsBezout_92 (by decide) ?_
                refine wp_ls (zw_sub_of (a := [some (zR 67), some (zI (r + 1)), none, none]) (And.intro rfl (And.intro rfl (trivial)))) ?_
                refine ih28 (r + 1) mm ?_ ?_ ?_ ?_ ?_
                · first | omega | assumption | (intros; omega)
                · first | omega | assumption | (intros; omega)
                · intro r2 c2 k2 q1 q2 q3 q4; exact h2 r2 c2 k2 q1 q2 q3 (by omega)
                · first | omega | assumption | (intros; omega)
                · omega
              · skip
                refine wp_iconst dd_X11_fillsBezout_46 (zr_lit rfl) ?_
                refine wp_istore_n (ls2 := [some (zR 67), some (zI r), some (zI cc), some (zI 0)]) dd_X11_fillsBezout_47 rfl (by decide) rfl ?_
                have lp48 : ∀ (nf : Nat) (kk : Int) (mm : zMem), (0 ≤ kk) → (kk ≤ 9) → (∀ r2 c2 k2 : Int, 0 ≤ r2 ∧ r2 < (mem 67 16) → 0 ≤ c2 ∧ c2 < (mem 67 16) → 0 ≤ k2 ∧ k2 < 9 → (r2 < r ∨ r2 = r ∧ (c2 < cc ∨ c2 = cc ∧ k2 < kk)) → mm 78 (9 * (8 * r2 + c2) + k2) = zbc c d le (mem 67 1) (max (zdeg c le 25) (zdeg d le 25)) r2 c2 k2) → (∀ a : Nat, a ≠ 78 → mm a = (zu mem 67 18 (mem 67 16)) a) → (9 - kk) < (nf : Int) → zw_Wp l mm_X11_fillsBezout (zS L) 48 [some (zR 67), some (zI r), some (zI cc), some (zI kk)] [] mm 0 0 Q := by
                  intro nf
                  induction nf with
                  | zero =>
                    intro kk mm h6 h7 h2 h3 hmu
                    exfalso; omega
                  | succ nf ih48 =>
                    intro kk mm h6 h7 h2 h3 hmu
                    have hm67 : mm 67 = (zu mem 67 18 (mem 67 16)) 67 := h3 67 (by decide)
                    have hm18 : mm 67 18 = (mem 67 16) := by rw [hm67]; exact zu_s
                    have hkm : zTk mm c d le := hk.keep (h3 76 (by decide)) (h3 77 (by decide)) (by rw [hm67]; exact zu_n (Or.inr (by decide))) (by rw [hm67]; exact zu_n (Or.inr (by decide)))
                    have hm15 : mm 67 15 = zdeg c le 25 := hkm.2.2.1
                    have hm16 : mm 67 16 = zdeg d le 25 := hkm.2.2.2.1
                    have hm1 : mm 67 1 = mem 67 1 := by rw [hm67]; exact zu_n (Or.inr (by decide))
                    refine wp_iload_n dd_X11_fillsBezout_48 rfl ?_
                    refine wp_bipush dd_X11_fillsBezout_49 (by decide) ?_
                    refine wp_icmp_ge (tgt := 83) dd_X11_fillsBezout_51 (by decide) (fun c51_4 => ?_) (fun c51_4 => ?_)
                    · skip
                      refine wp_iincC (ls2 := [some (zR 67), some (zI r), some (zI (cc + 1)), some (zI kk)]) dd_X11_fillsBezout_83 rfl rfl (by decide) (by omega) rfl ?_
                      refine wp_goto (tgt := 38) dd_X11_fillsBezout_86 (by decide) ?_
                      refine wp_ls (zw_sub_of (a := [some (zR 67), some (zI r), some (zI (cc + 1)), none]) (And.intro rfl (And.intro rfl (And.intro rfl (trivial))))) ?_
                      refine ih38 (cc + 1) mm ?_ ?_ ?_ ?_ ?_
                      · first | omega | assumption | (intros; omega)
                      · first | omega | assumption | (intros; omega)
                      · intro r2 c2 k2 q1 q2 q3 q4; exact h2 r2 c2 k2 q1 q2 q3 (by omega)
                      · first | omega | assumption | (intros; omega)
                      · omega
                    · skip
                      refine wp_aload_n dd_X11_fillsBezout_54 rfl ?_
                      refine wp_getR dd_X11_fillsBezout_55 gf_X11_58 rfl kk_67 (by decide) (zlt rfl) rr_67_17 ?_
                      refine wp_bipush dd_X11_fillsBezout_58 (by decide) ?_
                      refine wp_bipush dd_X11_fillsBezout_60 (by decide) ?_
                      refine wp_iload_n dd_X11_fillsBezout_62 rfl ?_
                      refine wp_imulC dd_X11_fillsBezout_63 (by omega) ?_
                      refine wp_iload_n dd_X11_fillsBezout_64 rfl ?_
                      refine wp_iaddC dd_X11_fillsBezout_65 (by omega) ?_
                      refine wp_imulC dd_X11_fillsBezout_66 (by omega) ?_
                      refine wp_iload_n dd_X11_fillsBezout_67 rfl ?_
                      refine wp_iaddC dd_X11_fillsBezout_68 (by omega) ?_
                      refine wp_aload_n dd_X11_fillsBezout_69 rfl ?_
                      refine wp_iload_n dd_X11_fillsBezout_70 rfl ?_
                      refine wp_iload_n dd_X11_fillsBezout_71 rfl ?_
                      refine wp_iload_n dd_X11_fillsBezout_72 rfl ?_
                      refine wp_callV (M' := mm_X11_bezoutAt) (As := [zI r, zI cc, zI kk]) (rest := [zI ((9 * ((8 * r) + cc)) + kk), zR 78]) dd_X11_fillsBezout_73 lk_X11_198 mV_X11_bezoutAt kk_67 (zlt rfl) ⟨_, _, rfl⟩ rfl (by decide) (by decide) (Nat.le_of_ble_eq_true rfl) rfl (sp_X11_bezoutAt c d le (max (zdeg c le 25) (zdeg d le 25)) r cc kk (by rw [hm1]; exact hp) hkm (by rw [hm1]; exact hc) (by rw [hm1]; exact hd) (by first | assumption | omega) (by first | assumption | omega) (by first | assumption | omega) (by first | assumption | omega) ?_)
                      show zw_Wp l mm_X11_fillsBezout (zS L) 76 [some (zR 67), some (zI r), some (zI cc), some (zI kk)] [zI (zbc c d le (mm 67 1) (max (zdeg c le 25) (zdeg d le 25)) r cc kk), zI ((9 * ((8 * r) + cc)) + kk), zR 78] mm 0 0 Q
                      refine wp_iast dd_X11_fillsBezout_76 kk_78 (zlt rfl) (by omega) (by omega) ?_
                      refine wp_iincC (ls2 := [some (zR 67), some (zI r), some (zI cc), some (zI (kk + 1))]) dd_X11_fillsBezout_77 rfl rfl (by decide) (by omega) rfl ?_
                      refine wp_goto (tgt := 48) dd_X11_fillsBezout_80 (by decide) ?_
                      refine ih48 (kk + 1) (zu mm 78 ((9 * ((8 * r) + cc)) + kk) (zbc c d le (mm 67 1) (max (zdeg c le 25) (zdeg d le 25)) r cc kk)) ?_ ?_ ?_ ?_ ?_
                      · first | omega | assumption | (intros; omega)
                      · first | omega | assumption | (intros; omega)
                      · intro r2 c2 k2 q1 q2 q3 q4
                        by_cases hx : r2 = r ∧ c2 = cc ∧ k2 = kk
                        · obtain ⟨rfl, rfl, rfl⟩ := hx
                          rw [zu_s]
                          rw [hm1]
                        · rw [zu_n (Or.inr (by omega))]; exact h2 r2 c2 k2 q1 q2 q3 (by omega)
                      · intro a ha; rw [zu_row ha]; exact h3 a ha
                      · omega
                refine lp48 ((9 - 0 : Int)).toNat.succ 0 mm ?_ ?_ ?_ ?_ ?_
                · first | omega | assumption | (intros; omega)
                · first | omega | assumption | (intros; omega)
                · intro r2 c2 k2 q1 q2 q3 q4; exact h2 r2 c2 k2 q1 q2 q3 (by omega)
                · first | omega | assumption | (intros; omega)
                · omega
          refine lp38 (((mem 67 16) - 0 : Int)).toNat.succ 0 mm ?_ ?_ ?_ ?_ ?_
          · first | omega | assumption | (intros; omega)
          · first | omega | assumption | (intros; omega)
          · intro r2 c2 k2 q1 q2 q3 q4; exact h2 r2 c2 k2 q1 q2 q3 (by omega)
          · first | omega | assumption | (intros; omega)
          · omega
    refine lp28 (((mem 67 16) - 0 : Int)).toNat.succ 0 (zu mem 67 18 (mem 67 16)) ?_ ?_ ?_ ?_ ?_
    · first | omega | assumption | (intros; omega)
    · first | omega | assumption | (intros; omega)
    · intros; omega
    · intros; rfl
    · omega
  · skip
    refine wp_aload_n dd_X11_fillsBezout_12 rfl ?_
    refine wp_getZ 15 rfl dd_X11_fillsBezout_13 gf_X11_180 rfl kk_67 (by decide) (zlt rfl) ?_
    refine wp_goto (tgt := 23) dd_X11_fillsBezout_16 (by decide) ?_
    refine wp_putzI 18 rfl dd_X11_fillsBezout_23 pf_X11_186 rfl kk_67 (by decide) (zlt rfl) ?_
    refine wp_iconst dd_X11_fillsBezout_26 (zr_lit rfl) ?_
    refine wp_istore_n (ls2 := [some (zR 67), some (zI 0), none, none]) dd_X11_fillsBezout_27 rfl (by decide) rfl ?_
    have lp28 : ∀ (nf : Nat) (r : Int) (mm : zMem), (0 ≤ r) → (r ≤ (mem 67 15)) → (∀ r2 c2 k2 : Int, 0 ≤ r2 ∧ r2 < (mem 67 15) → 0 ≤ c2 ∧ c2 < (mem 67 15) → 0 ≤ k2 ∧ k2 < 9 → (r2 < r) → mm 78 (9 * (8 * r2 + c2) + k2) = zbc c d le (mem 67 1) (max (zdeg c le 25) (zdeg d le 25)) r2 c2 k2) → (∀ a : Nat, a ≠ 78 → mm a = (zu mem 67 18 (mem 67 15)) a) → ((mem 67 15) - r) < (nf : Int) → zw_Wp l mm_X11_fillsBezout (zS L) 28 [some (zR 67), some (zI r), none, none] [] mm 0 0 Q := by
      intro nf
      induction nf with
      | zero =>
        intro r mm h0 h1 h2 h3 hmu
        exfalso; omega
      | succ nf ih28 =>
        intro r mm h0 h1 h2 h3 hmu
        have hm67 : mm 67 = (zu mem 67 18 (mem 67 15)) 67 := h3 67 (by decide)
        have hm18 : mm 67 18 = (mem 67 15) := by rw [hm67]; exact zu_s
        refine wp_iload_n dd_X11_fillsBezout_28 rfl ?_
        refine wp_aload_n dd_X11_fillsBezout_29 rfl ?_
        refine wp_getZ 18 rfl dd_X11_fillsBezout_30 gf_X11_186 rfl kk_67 (by decide) (zlt rfl) ?_
        refine wp_icmp_ge (tgt := 95) dd_X11_fillsBezout_33 (by decide) (fun c33_5 => ?_) (fun c33_5 => ?_)
        · skip
          refine wp_return (st := []) dd_X11_fillsBezout_95 rfl ?_
          refine k mm ?_ (fun r2 c2 k2 q1 q2 q3 => h2 r2 c2 k2 (by omega) (by omega) q3 (by omega)) ⟨fun a g1 g2 => ?_, fun s g1 => ?_⟩
          · rw [hm18]; omega
          · rw [h3 a g2, zu_row g1]
          · rw [hm67, zu_n (Or.inr g1)]
        · skip
          refine wp_iconst dd_X11_fillsBezout_36 (zr_lit rfl) ?_
          refine wp_istore_n (ls2 := [some (zR 67), some (zI r), some (zI 0), none]) dd_X11_fillsBezout_37 rfl (by decide) rfl ?_
          have lp38 : ∀ (nf : Nat) (cc : Int) (mm : zMem), (0 ≤ cc) → (cc ≤ (mem 67 15)) → (∀ r2 c2 k2 : Int, 0 ≤ r2 ∧ r2 < (mem 67 15) → 0 ≤ c2 ∧ c2 < (mem 67 15) → 0 ≤ k2 ∧ k2 < 9 → (r2 < r ∨ r2 = r ∧ c2 < cc) → mm 78 (9 * (8 * r2 + c2) + k2) = zbc c d le (mem 67 1) (max (zdeg c le 25) (zdeg d le 25)) r2 c2 k2) → (∀ a : Nat, a ≠ 78 → mm a = (zu mem 67 18 (mem 67 15)) a) → ((mem 67 15) - cc) < (nf : Int) → zw_Wp l mm_X11_fillsBezout (zS L) 38 [some (zR 67), some (zI r), some (zI cc), none] [] mm 0 0 Q := by
            intro nf
            induction nf with
            | zero =>
              intro cc mm h4 h5 h2 h3 hmu
              exfalso; omega
            | succ nf ih38 =>
              intro cc mm h4 h5 h2 h3 hmu
              have hm67 : mm 67 = (zu mem 67 18 (mem 67 15)) 67 := h3 67 (by decide)
              have hm18 : mm 67 18 = (mem 67 15) := by rw [hm67]; exact zu_s
              refine wp_iload_n dd_X11_fillsBezout_38 rfl ?_
              refine wp_aload_n dd_X11_fillsBezout_39 rfl ?_
              refine wp_getZ 18 rfl dd_X11_fillsBezout_40 gf_X11_186 rfl kk_67 (by decide) (zlt rfl) ?_
              refine wp_icmp_ge (tgt := 89) dd_X11_fillsBezout_43 (by decide) (fun c43_6 => ?_) (fun c43_6 => ?_)
              · skip
                refine wp_iincC (ls2 := [some (zR 67), some (zI (r + 1)), some (zI cc), none]) dd_X11_fillsBezout_89 rfl rfl (by decide) (by omega) rfl ?_
                refine wp_goto (tgt := 28) dd_X11_fillsBezout_92 (by decide) ?_
                refine wp_ls (zw_sub_of (a := [some (zR 67), some (zI (r + 1)), none, none]) (And.intro rfl (And.intro rfl (trivial)))) ?_
                refine ih28 (r + 1) mm ?_ ?_ ?_ ?_ ?_
                · first | omega | assumption | (intros; omega)
                · first | omega | assumption | (intros; omega)
                · intro r2 c2 k2 q1 q2 q3 q4; exact h2 r2 c2 k2 q1 q2 q3 (by omega)
                · first | omega | assumption | (intros; omega)
                · omega
              · skip
                refine wp_iconst dd_X11_fillsBezout_46 (zr_lit rfl) ?_
                refine wp_istore_n (ls2 := [some (zR 67), some (zI r), some (zI cc), some (zI 0)]) dd_X11_fillsBezout_47 rfl (by decide) rfl ?_
                have lp48 : ∀ (nf : Nat) (kk : Int) (mm : zMem), (0 ≤ kk) → (kk ≤ 9) → (∀ r2 c2 k2 : Int, 0 ≤ r2 ∧ r2 < (mem 67 15) → 0 ≤ c2 ∧ c2 < (mem 67 15) → 0 ≤ k2 ∧ k2 < 9 → (r2 < r ∨ r2 = r ∧ (c2 < cc ∨ c2 = cc ∧ k2 < kk)) → mm 78 (9 * (8 * r2 + c2) + k2) = zbc c d le (mem 67 1) (max (zdeg c le 25) (zdeg d le 25)) r2 c2 k2) → (∀ a : Nat, a ≠ 78 → mm a = (zu mem 67 18 (mem 67 15)) a) → (9 - kk) < (nf : Int) → zw_Wp l mm_X11_fillsBezout (zS L) 48 [some (zR 67), some (zI r), some (zI cc), some (zI kk)] [] mm 0 0 Q := by
                  intro nf
                  induction nf with
                  | zero =>
                    intro kk mm h6 h7 h2 h3 hmu
                    exfalso; omega
                  | succ nf ih48 =>
                    intro kk mm h6 h7 h2 h3 hmu
                    have hm67 : mm 67 = (zu mem 67 18 (mem 67 15)) 67 := h3 67 (by decide)
                    have hm18 : mm 67 18 = (mem 67 15) := by rw [hm67]; exact zu_s
                    have hkm : zTk mm c d le := hk.keep (h3 76 (by decide)) (h3 77 (by decide)) (by rw [hm67]; exact zu_n (Or.inr (by decide))) (by rw [hm67]; exact zu_n (Or.inr (by decide)))
                    have hm15 : mm 67 15 = zdeg c le 25 := hkm.2.2.1
                    have hm16 : mm 67 16 = zdeg d le 25 := hkm.2.2.2.1
                    have hm1 : mm 67 1 = mem 67 1 := by rw [hm67]; exact zu_n (Or.inr (by decide))
                    refine wp_iload_n dd_X11_fillsBezout_48 rfl ?_
                    refine wp_bipush dd_X11_fillsBezout_49 (by decide) ?_
                    refine wp_icmp_ge (tgt := 83) dd_X11_fillsBezout_51 (by decide) (fun c51_7 => ?_) (fun c51_7 => ?_)
                    · skip
                      refine wp_iincC (ls2 := [some (zR 67), some (zI r), some (zI (cc + 1)), some (zI kk)]) dd_X11_fillsBezout_83 rfl rfl (by decide) (by omega) rfl ?_
                      refine wp_goto (tgt := 38) dd_X11_fillsBezout_86 (by decide) ?_
                      refine wp_ls (zw_sub_of (a := [some (zR 67), some (zI r), some (zI (cc + 1)), none]) (And.intro rfl (And.intro rfl (And.intro rfl (trivial))))) ?_
                      refine ih38 (cc + 1) mm ?_ ?_ ?_ ?_ ?_
                      · first | omega | assumption | (intros; omega)
                      · first | omega | assumption | (intros; omega)
                      · intro r2 c2 k2 q1 q2 q3 q4; exact h2 r2 c2 k2 q1 q2 q3 (by omega)
                      · first | omega | assumption | (intros; omega)
                      · omega
                    · skip
                      refine wp_aload_n dd_X11_fillsBezout_54 rfl ?_
                      refine wp_getR dd_X11_fillsBezout_55 gf_X11_58 rfl kk_67 (by decide) (zlt rfl) rr_67_17 ?_
                      refine wp_bipush dd_X11_fillsBezout_58 (by decide) ?_
                      refine wp_bipush dd_X11_fillsBezout_60 (by decide) ?_
                      refine wp_iload_n dd_X11_fillsBezout_62 rfl ?_
                      refine wp_imulC dd_X11_fillsBezout_63 (by omega) ?_
                      refine wp_iload_n dd_X11_fillsBezout_64 rfl ?_
                      refine wp_iaddC dd_X11_fillsBezout_65 (by omega) ?_
                      refine wp_imulC dd_X11_fillsBezout_66 (by omega) ?_
                      refine wp_iload_n dd_X11_fillsBezout_67 rfl ?_
                      refine wp_iaddC dd_X11_fillsBezout_68 (by omega) ?_
                      refine wp_aload_n dd_X11_fillsBezout_69 rfl ?_
                      refine wp_iload_n dd_X11_fillsBezout_70 rfl ?_
                      refine wp_iload_n dd_X11_fillsBezout_71 rfl ?_
                      refine wp_iload_n dd_X11_fillsBezout_72 rfl ?_
                      refine wp_callV (M' := mm_X11_bezoutAt) (As := [zI r, zI cc, zI kk]) (rest := [zI ((9 * ((8 * r) + cc)) + kk), zR 78]) dd_X11_fillsBezout_73 lk_X11_198 mV_X11_bezoutAt kk_67 (zlt rfl) ⟨_, _, rfl⟩ rfl (by decide) (by decide) (Nat.le_of_ble_eq_true rfl) rfl (sp_X11_bezoutAt c d le (max (zdeg c le 25) (zdeg d le 25)) r cc kk (by rw [hm1]; exact hp) hkm (by rw [hm1]; exact hc) (by rw [hm1]; exact hd) (by first | assumption | omega) (by first | assumption | omega) (by first | assumption | omega) (by first | assumption | omega) ?_)
                      show zw_Wp l mm_X11_fillsBezout (zS L) 76 [some (zR 67), some (zI r), some (zI cc), some (zI kk)] [zI (zbc c d le (mm 67 1) (max (zdeg c le 25) (zdeg d le 25)) r cc kk), zI ((9 * ((8 * r) + cc)) + kk), zR 78] mm 0 0 Q
                      refine wp_iast dd_X11_fillsBezout_76 kk_78 (zlt rfl) (by omega) (by omega) ?_
                      refine wp_iincC (ls2 := [some (zR 67), some (zI r), some (zI cc), some (zI (kk + 1))]) dd_X11_fillsBezout_77 rfl rfl (by decide) (by omega) rfl ?_
                      refine wp_goto (tgt := 48) dd_X11_fillsBezout_80 (by decide) ?_
                      refine ih48 (kk + 1) (zu mm 78 ((9 * ((8 * r) + cc)) + kk) (zbc c d le (mm 67 1) (max (zdeg c le 25) (zdeg d le 25)) r cc kk)) ?_ ?_ ?_ ?_ ?_
                      · first | omega | assumption | (intros; omega)
                      · first | omega | assumption | (intros; omega)
                      · intro r2 c2 k2 q1 q2 q3 q4
                        by_cases hx : r2 = r ∧ c2 = cc ∧ k2 = kk
                        · obtain ⟨rfl, rfl, rfl⟩ := hx
                          rw [zu_s]
                          rw [hm1]
                        · rw [zu_n (Or.inr (by omega))]; exact h2 r2 c2 k2 q1 q2 q3 (by omega)
                      · intro a ha; rw [zu_row ha]; exact h3 a ha
                      · omega
                refine lp48 ((9 - 0 : Int)).toNat.succ 0 mm ?_ ?_ ?_ ?_ ?_
                · first | omega | assumption | (intros; omega)
                · first | omega | assumption | (intros; omega)
                · intro r2 c2 k2 q1 q2 q3 q4; exact h2 r2 c2 k2 q1 q2 q3 (by omega)
                · first | omega | assumption | (intros; omega)
                · omega
          refine lp38 (((mem 67 15) - 0 : Int)).toNat.succ 0 mm ?_ ?_ ?_ ?_ ?_
          · first | omega | assumption | (intros; omega)
          · first | omega | assumption | (intros; omega)
          · intro r2 c2 k2 q1 q2 q3 q4; exact h2 r2 c2 k2 q1 q2 q3 (by omega)
          · first | omega | assumption | (intros; omega)
          · omega
    refine lp28 (((mem 67 15) - 0 : Int)).toNat.succ 0 (zu mem 67 18 (mem 67 15)) ?_ ?_ ?_ ?_ ?_
    · first | omega | assumption | (intros; omega)
    · first | omega | assumption | (intros; omega)
    · intros; omega
    · intros; rfl
    · omega


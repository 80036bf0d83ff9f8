set_option maxRecDepth 100000 in
set_option maxHeartbeats 4000000 in
theorem lc_loop {l : Launch} {L : Nat} {Q : zQ} (hL : L ≤ 4096) (k : ∀ mem : zMem, Q (some (zI 1)) (zS L) mem) : ∀ (nf : Nat) (i : Int) (mem : zMem), 0 ≤ i → i ≤ 4096 → zInv mem → (L : Int) - i < (nf : Int) → zw_Wp l mm_L_law (zS L) 18 [some (zR 1001), some (zR 0), some (zR 67), some (zI i)] [] mem 0 0 Q := by
  intro nf
  induction nf with
  | zero =>
    intro i mem h0 h1 hI hmu
    by_cases h9 : i + 8 ≤ (L : Int)
    · exfalso; omega
    refine wp_iload_n dd_L_law_18 rfl ?_
    refine wp_aload_n dd_L_law_19 rfl ?_
    refine wp_alenR dd_L_law_20 kk_1001 (by decide) (by omega) ?_
    show zw_Wp l mm_L_law (zS L) 21 [some (zR 1001), some (zR 0), some (zR 67), some (zI i)] [zI (L : Int), zI i] mem 0 0 Q
    refine wp_bipush dd_L_law_21 (by decide) ?_
    refine wp_isubC dd_L_law_23 (by omega) ?_
    refine wp_icmp_gt (tgt := 1795) dd_L_law_24 (by decide) (fun c24_1 => ?_) (fun c24_1 => ?_)
    · skip
      refine wp_iconst dd_L_law_1795 (zr_lit rfl) ?_
      refine wp_zreturn (st := []) dd_L_law_1796 rfl (by decide) ?_
      exact k mem
    · skip
      exfalso; omega
  | succ nf ih18 =>
    intro i mem h0 h1 hI hmu
    have ihy : i + 8 ≤ (L : Int) → ∀ mm : zMem, zInv mm → (0 : Int) < 1 → zw_Wp l mm_L_law (zS L) 1789 [some (zR 1001), some (zR 0), some (zR 67), some (zI i)] [] mm 0 0 Q := by
      intro h9 mm hI2 _
      refine wp_iincC (ls2 := [some (zR 1001), some (zR 0), some (zR 67), some (zI (i + 8))]) dd_L_law_1789 rfl rfl (by decide) (by omega) rfl ?_
      refine wp_goto (tgt := 18) dd_L_law_1792 (by decide) ?_
      refine ih18 (i + 8) mm ?_ ?_ ?_ ?_
      · omega
      · omega
      · assumption
      · omega
    refine wp_iload_n dd_L_law_18 rfl ?_
    refine wp_aload_n dd_L_law_19 rfl ?_
    refine wp_alenR dd_L_law_20 kk_1001 (by decide) (by omega) ?_
    show zw_Wp l mm_L_law (zS L) 21 [some (zR 1001), some (zR 0), some (zR 67), some (zI i)] [zI (L : Int), zI i] mem 0 0 Q
    refine wp_bipush dd_L_law_21 (by decide) ?_
    refine wp_isubC dd_L_law_23 (by omega) ?_
    refine wp_icmp_gt (tgt := 1795) dd_L_law_24 (by decide) (fun c24_2 => ?_) (fun c24_2 => ?_)
    · skip
      refine wp_iconst dd_L_law_1795 (zr_lit rfl) ?_
      refine wp_zreturn (st := []) dd_L_law_1796 rfl (by decide) ?_
      exact k mem
    · skip
      have h9 : i + 8 ≤ (L : Int) := by omega
      have ihx := ihy h9
      have ih1789 := ihx
      refine wp_aload_n dd_L_law_27 rfl ?_
      refine wp_iload_n dd_L_law_28 rfl ?_
      refine wp_ialdR dd_L_law_29 kk_1001 (by decide) (by omega) (by omega) ?_
      refine wp_bipush dd_L_law_30 (by decide) ?_
      refine wp_iand dd_L_law_32 ?_
      by_cases w33_3c0 : ((Int32.ofInt (mem 1001 i) &&& Int32.ofInt 63).toInt) = 0
      · skip
        refine wp_tabIn (tgt := 204) (off := 171) dd_L_law_33 (by omega) (by omega) (by rw [w33_3c0]; rfl) (by decide) ?_
        exact lc_letter i hL h0 h9 hI ihx
      by_cases w33_3c1 : ((Int32.ofInt (mem 1001 i) &&& Int32.ofInt 63).toInt) = 1
      · skip
        refine wp_tabIn (tgt := 227) (off := 194) dd_L_law_33 (by omega) (by omega) (by rw [w33_3c1]; rfl) (by decide) ?_
        exact lc_poly i hL h0 h9 hI ihx
      by_cases w33_3c2 : ((Int32.ofInt (mem 1001 i) &&& Int32.ofInt 63).toInt) = 2
      · skip
        refine wp_tabIn (tgt := 240) (off := 207) dd_L_law_33 (by omega) (by omega) (by rw [w33_3c2]; rfl) (by decide) ?_
        exact lc_drop i hL h0 h9 hI ihx
      by_cases w33_3c3 : ((Int32.ofInt (mem 1001 i) &&& Int32.ofInt 63).toInt) = 3
      · skip
        refine wp_tabIn (tgt := 253) (off := 220) dd_L_law_33 (by omega) (by omega) (by rw [w33_3c3]; rfl) (by decide) ?_
        exact lc_prime i hL h0 h9 hI ihx
      by_cases w33_3c4 : ((Int32.ofInt (mem 1001 i) &&& Int32.ofInt 63).toInt) = 4
      · skip
        refine wp_tabIn (tgt := 276) (off := 243) dd_L_law_33 (by omega) (by omega) (by rw [w33_3c4]; rfl) (by decide) ?_
        exact lc_turn i hL h0 h9 hI ihx
      by_cases w33_3c5 : ((Int32.ofInt (mem 1001 i) &&& Int32.ofInt 63).toInt) = 5
      · skip
        refine wp_tabIn (tgt := 319) (off := 286) dd_L_law_33 (by omega) (by omega) (by rw [w33_3c5]; rfl) (by decide) ?_
        exact lc_change i hL h0 h9 hI ihx
      by_cases w33_3c6 : ((Int32.ofInt (mem 1001 i) &&& Int32.ofInt 63).toInt) = 6
      · skip
        refine wp_tabIn (tgt := 372) (off := 339) dd_L_law_33 (by omega) (by omega) (by rw [w33_3c6]; rfl) (by decide) ?_
        exact lc_coefficient i hL h0 h9 hI ihx
      by_cases w33_3c7 : ((Int32.ofInt (mem 1001 i) &&& Int32.ofInt 63).toInt) = 7
      · skip
        refine wp_tabIn (tgt := 415) (off := 382) dd_L_law_33 (by omega) (by omega) (by rw [w33_3c7]; rfl) (by decide) ?_
        exact lc_of i hL h0 h9 hI ihx
      by_cases w33_3c8 : ((Int32.ofInt (mem 1001 i) &&& Int32.ofInt 63).toInt) = 8
      · skip
        refine wp_tabIn (tgt := 448) (off := 415) dd_L_law_33 (by omega) (by omega) (by rw [w33_3c8]; rfl) (by decide) ?_
        exact lc_term i hL h0 h9 hI ihx
      by_cases w33_3c9 : ((Int32.ofInt (mem 1001 i) &&& Int32.ofInt 63).toInt) = 9
      · skip
        refine wp_tabIn (tgt := 491) (off := 458) dd_L_law_33 (by omega) (by omega) (by rw [w33_3c9]; rfl) (by decide) ?_
        exact lc_value i hL h0 h9 hI ihx
      by_cases w33_3c10 : ((Int32.ofInt (mem 1001 i) &&& Int32.ofInt 63).toInt) = 10
      · skip
        refine wp_tabIn (tgt := 534) (off := 501) dd_L_law_33 (by omega) (by omega) (by rw [w33_3c10]; rfl) (by decide) ?_
        exact lc_rows i hL h0 h9 hI ihx
      by_cases w33_3c11 : ((Int32.ofInt (mem 1001 i) &&& Int32.ofInt 63).toInt) = 11
      · skip
        refine wp_tabIn (tgt := 587) (off := 554) dd_L_law_33 (by omega) (by omega) (by rw [w33_3c11]; rfl) (by decide) ?_
        exact lc_entry i hL h0 h9 hI ihx
      by_cases w33_3c12 : ((Int32.ofInt (mem 1001 i) &&& Int32.ofInt 63).toInt) = 12
      · skip
        refine wp_tabIn (tgt := 674) (off := 641) dd_L_law_33 (by omega) (by omega) (by rw [w33_3c12]; rfl) (by decide) ?_
        exact lc_result i hL h0 h9 hI ihx
      by_cases w33_3c13 : ((Int32.ofInt (mem 1001 i) &&& Int32.ofInt 63).toInt) = 13
      · skip
        refine wp_tabIn (tgt := 737) (off := 704) dd_L_law_33 (by omega) (by omega) (by rw [w33_3c13]; rfl) (by decide) ?_
        exact lc_degree i hL h0 h9 hI ihx
      by_cases w33_3c14 : ((Int32.ofInt (mem 1001 i) &&& Int32.ofInt 63).toInt) = 14
      · skip
        refine wp_tabIn (tgt := 790) (off := 757) dd_L_law_33 (by omega) (by omega) (by rw [w33_3c14]; rfl) (by decide) ?_
        exact lc_at i hL h0 h9 hI ihx
      by_cases w33_3c15 : ((Int32.ofInt (mem 1001 i) &&& Int32.ofInt 63).toInt) = 15
      · skip
        refine wp_tabIn (tgt := 853) (off := 820) dd_L_law_33 (by omega) (by omega) (by rw [w33_3c15]; rfl) (by decide) ?_
        exact lc_remainder i hL h0 h9 hI ihx
      by_cases w33_3c16 : ((Int32.ofInt (mem 1001 i) &&& Int32.ofInt 63).toInt) = 16
      · skip
        refine wp_tabIn (tgt := 916) (off := 883) dd_L_law_33 (by omega) (by omega) (by rw [w33_3c16]; rfl) (by decide) ?_
        exact lc_common i hL h0 h9 hI ihx
      by_cases w33_3c17 : ((Int32.ofInt (mem 1001 i) &&& Int32.ofInt 63).toInt) = 17
      · skip
        refine wp_tabIn (tgt := 969) (off := 936) dd_L_law_33 (by omega) (by omega) (by rw [w33_3c17]; rfl) (by decide) ?_
        exact lc_norm i hL h0 h9 hI ihx
      by_cases w33_3c18 : ((Int32.ofInt (mem 1001 i) &&& Int32.ofInt 63).toInt) = 18
      · skip
        refine wp_tabIn (tgt := 1022) (off := 989) dd_L_law_33 (by omega) (by omega) (by rw [w33_3c18]; rfl) (by decide) ?_
        exact lc_extra i hL h0 h9 hI ihx
      by_cases w33_3c19 : ((Int32.ofInt (mem 1001 i) &&& Int32.ofInt 63).toInt) = 19
      · skip
        refine wp_tabIn (tgt := 1065) (off := 1032) dd_L_law_33 (by omega) (by omega) (by rw [w33_3c19]; rfl) (by decide) ?_
        exact lc_zeros i hL h0 h9 hI ihx
      by_cases w33_3c20 : ((Int32.ofInt (mem 1001 i) &&& Int32.ofInt 63).toInt) = 20
      · skip
        refine wp_tabIn (tgt := 1108) (off := 1075) dd_L_law_33 (by omega) (by omega) (by rw [w33_3c20]; rfl) (by decide) ?_
        exact lc_lifted i hL h0 h9 hI ihx
      by_cases w33_3c21 : ((Int32.ofInt (mem 1001 i) &&& Int32.ofInt 63).toInt) = 21
      · skip
        refine wp_tabIn (tgt := 1151) (off := 1118) dd_L_law_33 (by omega) (by omega) (by rw [w33_3c21]; rfl) (by decide) ?_
        exact lc_root i hL h0 h9 hI ihx
      by_cases w33_3c22 : ((Int32.ofInt (mem 1001 i) &&& Int32.ofInt 63).toInt) = 22
      · skip
        refine wp_tabIn (tgt := 1194) (off := 1161) dd_L_law_33 (by omega) (by omega) (by rw [w33_3c22]; rfl) (by decide) ?_
        exact lc_without i hL h0 h9 hI ihx
      by_cases w33_3c23 : ((Int32.ofInt (mem 1001 i) &&& Int32.ofInt 63).toInt) = 23
      · skip
        refine wp_tabIn (tgt := 1227) (off := 1194) dd_L_law_33 (by omega) (by omega) (by rw [w33_3c23]; rfl) (by decide) ?_
        exact lc_corner i hL h0 h9 hI ihx
      by_cases w33_3c24 : ((Int32.ofInt (mem 1001 i) &&& Int32.ofInt 63).toInt) = 24
      · skip
        refine wp_tabIn (tgt := 1260) (off := 1227) dd_L_law_33 (by omega) (by omega) (by rw [w33_3c24]; rfl) (by decide) ?_
        exact lc_area i hL h0 h9 hI ihx
      by_cases w33_3c25 : ((Int32.ofInt (mem 1001 i) &&& Int32.ofInt 63).toInt) = 25
      · skip
        refine wp_tabIn (tgt := 1283) (off := 1250) dd_L_law_33 (by omega) (by omega) (by rw [w33_3c25]; rfl) (by decide) ?_
        exact lc_sum i hL h0 h9 hI ihx
      by_cases w33_3c26 : ((Int32.ofInt (mem 1001 i) &&& Int32.ofInt 63).toInt) = 26
      · skip
        refine wp_tabIn (tgt := 1326) (off := 1293) dd_L_law_33 (by omega) (by omega) (by rw [w33_3c26]; rfl) (by decide) ?_
        exact lc_mixed i hL h0 h9 hI ihx
      by_cases w33_3c27 : ((Int32.ofInt (mem 1001 i) &&& Int32.ofInt 63).toInt) = 27
      · skip
        refine wp_tabIn (tgt := 1359) (off := 1326) dd_L_law_33 (by omega) (by omega) (by rw [w33_3c27]; rfl) (by decide) ?_
        exact lc_product i hL h0 h9 hI ihx
      by_cases w33_3c28 : ((Int32.ofInt (mem 1001 i) &&& Int32.ofInt 63).toInt) = 28
      · skip
        refine wp_tabIn (tgt := 1392) (off := 1359) dd_L_law_33 (by omega) (by omega) (by rw [w33_3c28]; rfl) (by decide) ?_
        exact lc_odds i hL h0 h9 hI ihx
      by_cases w33_3c29 : ((Int32.ofInt (mem 1001 i) &&& Int32.ofInt 63).toInt) = 29
      · skip
        refine wp_tabIn (tgt := 1426) (off := 1393) dd_L_law_33 (by omega) (by omega) (by rw [w33_3c29]; rfl) (by decide) ?_
        exact lc_lots i hL h0 h9 hI ihx
      by_cases w33_3c30 : ((Int32.ofInt (mem 1001 i) &&& Int32.ofInt 63).toInt) = 30
      · skip
        refine wp_tabIn (tgt := 1479) (off := 1446) dd_L_law_33 (by omega) (by omega) (by rw [w33_3c30]; rfl) (by decide) ?_
        exact lc_list i hL h0 h9 hI ihx
      by_cases w33_3c31 : ((Int32.ofInt (mem 1001 i) &&& Int32.ofInt 63).toInt) = 31
      · skip
        refine wp_tabIn (tgt := 1512) (off := 1479) dd_L_law_33 (by omega) (by omega) (by rw [w33_3c31]; rfl) (by decide) ?_
        exact lc_put i hL h0 h9 hI ihx
      by_cases w33_3c32 : ((Int32.ofInt (mem 1001 i) &&& Int32.ofInt 63).toInt) = 32
      · skip
        refine wp_tabIn (tgt := 1555) (off := 1522) dd_L_law_33 (by omega) (by omega) (by rw [w33_3c32]; rfl) (by decide) ?_
        exact lc_look i hL h0 h9 hI ihx
      by_cases w33_3c33 : ((Int32.ofInt (mem 1001 i) &&& Int32.ofInt 63).toInt) = 33
      · skip
        refine wp_tabIn (tgt := 1589) (off := 1556) dd_L_law_33 (by omega) (by omega) (by rw [w33_3c33]; rfl) (by decide) ?_
        exact lc_lays i hL h0 h9 hI ihx
      by_cases w33_3c34 : ((Int32.ofInt (mem 1001 i) &&& Int32.ofInt 63).toInt) = 34
      · skip
        refine wp_tabIn (tgt := 1664) (off := 1631) dd_L_law_33 (by omega) (by omega) (by rw [w33_3c34]; rfl) (by decide) ?_
        exact lc_judge i hL h0 h9 hI ihx
      by_cases w33_3c35 : ((Int32.ofInt (mem 1001 i) &&& Int32.ofInt 63).toInt) = 35
      · skip
        refine wp_tabIn (tgt := 1727) (off := 1694) dd_L_law_33 (by omega) (by omega) (by rw [w33_3c35]; rfl) (by decide) ?_
        exact lc_undo i hL h0 h9 hI ihx
      by_cases w33_3c36 : ((Int32.ofInt (mem 1001 i) &&& Int32.ofInt 63).toInt) = 36
      · skip
        refine wp_tabIn (tgt := 1740) (off := 1707) dd_L_law_33 (by omega) (by omega) (by rw [w33_3c36]; rfl) (by decide) ?_
        exact lc_image i hL h0 h9 hI ihx
      by_cases w33_3c37 : ((Int32.ofInt (mem 1001 i) &&& Int32.ofInt 63).toInt) = 37
      · skip
        refine wp_tabIn (tgt := 1753) (off := 1720) dd_L_law_33 (by omega) (by omega) (by rw [w33_3c37]; rfl) (by decide) ?_
        exact lc_on i hL h0 h9 hI ihx
      by_cases w33_3c38 : ((Int32.ofInt (mem 1001 i) &&& Int32.ofInt 63).toInt) = 38
      · skip
        refine wp_tabIn (tgt := 1766) (off := 1733) dd_L_law_33 (by omega) (by omega) (by rw [w33_3c38]; rfl) (by decide) ?_
        exact lc_count i hL h0 h9 hI ihx
      refine wp_tabOut (tgt := 1789) dd_L_law_33 (by omega) (by decide) ?_
      refine ih1789 mem ?_ ?_
      · assumption
      · omega


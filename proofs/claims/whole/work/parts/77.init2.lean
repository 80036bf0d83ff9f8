set_option maxRecDepth 100000 in
set_option maxHeartbeats 4000000 in
theorem in_X8_1 {l : Launch} {L : Nat} {mem : zMem} {f : Nat → Nat → Option Nat} {Q : zQ} (hf : ∀ a : Nat, 2 ≤ a → ∀ k : Nat, f a k = none) (hz : ∀ a : Nat, 2 ≤ a → a < 1000 → ∀ k : Int, mem a k = 0) (k : Q none (21, zk L, zur (zur (zur (zur (zur (zur (zur (zur (zur (zur (zur (zur (zur (zur (zur (zur (zur (zur (zur f 1 2 2) 3 2 4) 3 3 5) 2 0 3) 6 2 7) 6 3 8) 2 1 6) 9 2 10) 9 3 11) 2 2 9) 12 2 13) 12 3 14) 2 3 12) 15 2 16) 15 3 17) 2 4 15) 18 2 19) 18 3 20) 2 5 18) (zu mem 1 0 7)) : zw_Ok l mm_X8_init [zR 1] (2, zk L, f) mem Q := by
  refine zw_enter (by decide) (Nat.le_of_ble_eq_true rfl) rfl ?_
  show zw_Wp l mm_X8_init (2, zk L, f) 0 [some (zR 1), none] [] mem 19 330 Q
  refine wp_aload_n dd_X8_init_0 rfl ?_
  show zw_Wp l mm_X8_init (2, zk L, f) 1 [some (zR 1), none] [zR 1] mem 19 330 Q
  refine wp_oinit dd_X8_init_1 lk_X8_3 oi_1 oi_2 (by decide) (by decide) ?_
  show zw_Wp l mm_X8_init (2, zk L, f) 4 [some (zR 1), none] [] mem 19 330 Q
  refine wp_aload_n dd_X8_init_4 rfl ?_
  show zw_Wp l mm_X8_init (2, zk L, f) 5 [some (zR 1), none] [zR 1] mem 19 330 Q
  refine wp_bipush dd_X8_init_5 (by decide) ?_
  show zw_Wp l mm_X8_init (2, zk L, f) 7 [some (zR 1), none] [zI 7, zR 1] mem 19 330 Q
  refine wp_putzI 0 rfl dd_X8_init_7 pf_X8_9 rfl rfl (by decide) (by show 1 < 2; decide) ?_
  show zw_Wp l mm_X8_init (2, zk L, f) 10 [some (zR 1), none] [] (zu mem 1 0 7) 19 330 Q
  refine wp_aload_n dd_X8_init_10 rfl ?_
  show zw_Wp l mm_X8_init (2, zk L, f) 11 [some (zR 1), none] [zR 1] (zu mem 1 0 7) 19 330 Q
  refine wp_bipush dd_X8_init_11 (by decide) ?_
  show zw_Wp l mm_X8_init (2, zk L, f) 13 [some (zR 1), none] [zI 6, zR 1] (zu mem 1 0 7) 19 330 Q
  refine wp_newq (n := 6) rfl dd_X8_init_13 cl_X8_15 rfl (by intro k9; show f 2 k9 = none; (repeat rw [zur_row (by decide)]); exact hf 2 (by decide) k9) (by show 2 < 1000; decide) (by decide) (by decide) ?_
  show zw_Wp l mm_X8_init (3, zk L, f) 16 [some (zR 1), none] [zR 2, zR 1] (zu mem 1 0 7) 18 324 Q
  refine wp_putR dd_X8_init_16 pf_X8_17 rfl rfl rfl (by decide) (by show 1 < 3; decide) (by show 2 < 3; decide) (fun _ => rfl) (fun _ => rfl) ?_
  show zw_Wp l mm_X8_init (3, zk L, zur f 1 2 2) 19 [some (zR 1), none] [] (zu mem 1 0 7) 18 324 Q
  refine wp_iconst dd_X8_init_19 (zr_lit rfl) ?_
  show zw_Wp l mm_X8_init (3, zk L, zur f 1 2 2) 20 [some (zR 1), none] [zI 0] (zu mem 1 0 7) 18 324 Q
  refine wp_istore_n (ls2 := [some (zR 1), some (zI 0)]) dd_X8_init_20 rfl (by decide) rfl ?_
  show zw_Wp l mm_X8_init (3, zk L, zur f 1 2 2) 21 [some (zR 1), some (zI 0)] [] (zu mem 1 0 7) 18 324 Q
  refine wp_iload_n dd_X8_init_21 rfl ?_
  show zw_Wp l mm_X8_init (3, zk L, zur f 1 2 2) 22 [some (zR 1), some (zI 0)] [zI 0] (zu mem 1 0 7) 18 324 Q
  refine wp_bipush dd_X8_init_22 (by decide) ?_
  show zw_Wp l mm_X8_init (3, zk L, zur f 1 2 2) 24 [some (zR 1), some (zI 0)] [zI 6, zI 0] (zu mem 1 0 7) 18 324 Q
  refine wp_icmp_ge (tgt := 46) dd_X8_init_24 (by decide) (fun h9 => absurd h9 (by decide)) (fun h9 => ?_)
  refine wp_aload_n dd_X8_init_27 rfl ?_
  show zw_Wp l mm_X8_init (3, zk L, zur f 1 2 2) 28 [some (zR 1), some (zI 0)] [zR 1] (zu mem 1 0 7) 18 324 Q
  refine wp_getR dd_X8_init_28 gf_X8_17 rfl rfl (by decide) (by show 1 < 3; decide) (j := 2) rfl ?_
  show zw_Wp l mm_X8_init (3, zk L, zur f 1 2 2) 31 [some (zR 1), some (zI 0)] [zR 2] (zu mem 1 0 7) 18 324 Q
  refine wp_iload_n dd_X8_init_31 rfl ?_
  show zw_Wp l mm_X8_init (3, zk L, zur f 1 2 2) 32 [some (zR 1), some (zI 0)] [zI 0, zR 2] (zu mem 1 0 7) 18 324 Q
  refine wp_new dd_X8_init_32 nw_X8_15 rfl (by intro k9; show (zu mem 1 0 7) 3 k9 = 0; (repeat rw [zu_row (by decide)]); exact hz 3 (by decide) (by decide) k9) (by intro k9; show (zur f 1 2 2) 3 k9 = none; (repeat rw [zur_row (by decide)]); exact hf 3 (by decide) k9) (by show 3 < 1000; decide) (by decide) ?_
  show zw_Wp l mm_X8_init (4, zk L, zur f 1 2 2) 35 [some (zR 1), some (zI 0)] [zR 3, zI 0, zR 2] (zu mem 1 0 7) 17 320 Q
  refine wp_dup dd_X8_init_35 rfl ?_
  show zw_Wp l mm_X8_init (4, zk L, zur f 1 2 2) 36 [some (zR 1), some (zI 0)] [zR 3, zR 3, zI 0, zR 2] (zu mem 1 0 7) 17 320 Q
  refine wp_callN (M' := mm_X4_init) dd_X8_init_36 nk_X8_21 mC_X4_init (by decide) (by decide) (by decide) (in_X4_3  (by intro a9 h8 h9 k9; (repeat rw [zu_row (by omega)]); exact hz _ (by omega) h9 k9) ?_)
  show zw_Wp l mm_X8_init (6, zk L, zur (zur (zur f 1 2 2) 3 2 4) 3 3 5) 39 [some (zR 1), some (zI 0)] [zR 3, zI 0, zR 2] (zu mem 1 0 7) 15 270 Q
  refine wp_aast dd_X8_init_39 rfl (by show 2 < 6; decide) rfl (by show 3 < 6; decide) (by decide) (by decide) ?_
  show zw_Wp l mm_X8_init (6, zk L, zur (zur (zur (zur f 1 2 2) 3 2 4) 3 3 5) 2 0 3) 40 [some (zR 1), some (zI 0)] [] (zu mem 1 0 7) 15 270 Q
  refine wp_iincC (ls2 := [some (zR 1), some (zI 1)]) dd_X8_init_40 rfl rfl (by decide) (by decide) rfl ?_
  show zw_Wp l mm_X8_init (6, zk L, zur (zur (zur (zur f 1 2 2) 3 2 4) 3 3 5) 2 0 3) 43 [some (zR 1), some (zI 1)] [] (zu mem 1 0 7) 15 270 Q
  refine wp_goto (tgt := 21) dd_X8_init_43 (by decide) ?_
  refine wp_iload_n dd_X8_init_21 rfl ?_
  show zw_Wp l mm_X8_init (6, zk L, zur (zur (zur (zur f 1 2 2) 3 2 4) 3 3 5) 2 0 3) 22 [some (zR 1), some (zI 1)] [zI 1] (zu mem 1 0 7) 15 270 Q
  refine wp_bipush dd_X8_init_22 (by decide) ?_
  show zw_Wp l mm_X8_init (6, zk L, zur (zur (zur (zur f 1 2 2) 3 2 4) 3 3 5) 2 0 3) 24 [some (zR 1), some (zI 1)] [zI 6, zI 1] (zu mem 1 0 7) 15 270 Q
  refine wp_icmp_ge (tgt := 46) dd_X8_init_24 (by decide) (fun h9 => absurd h9 (by decide)) (fun h9 => ?_)
  refine wp_aload_n dd_X8_init_27 rfl ?_
  show zw_Wp l mm_X8_init (6, zk L, zur (zur (zur (zur f 1 2 2) 3 2 4) 3 3 5) 2 0 3) 28 [some (zR 1), some (zI 1)] [zR 1] (zu mem 1 0 7) 15 270 Q
  refine wp_getR dd_X8_init_28 gf_X8_17 rfl rfl (by decide) (by show 1 < 6; decide) (j := 2) rfl ?_
  show zw_Wp l mm_X8_init (6, zk L, zur (zur (zur (zur f 1 2 2) 3 2 4) 3 3 5) 2 0 3) 31 [some (zR 1), some (zI 1)] [zR 2] (zu mem 1 0 7) 15 270 Q
  refine wp_iload_n dd_X8_init_31 rfl ?_
  show zw_Wp l mm_X8_init (6, zk L, zur (zur (zur (zur f 1 2 2) 3 2 4) 3 3 5) 2 0 3) 32 [some (zR 1), some (zI 1)] [zI 1, zR 2] (zu mem 1 0 7) 15 270 Q
  refine wp_new dd_X8_init_32 nw_X8_15 rfl (by intro k9; show (zu mem 1 0 7) 6 k9 = 0; (repeat rw [zu_row (by decide)]); exact hz 6 (by decide) (by decide) k9) (by intro k9; show (zur (zur (zur (zur f 1 2 2) 3 2 4) 3 3 5) 2 0 3) 6 k9 = none; (repeat rw [zur_row (by decide)]); exact hf 6 (by decide) k9) (by show 6 < 1000; decide) (by decide) ?_
  show zw_Wp l mm_X8_init (7, zk L, zur (zur (zur (zur f 1 2 2) 3 2 4) 3 3 5) 2 0 3) 35 [some (zR 1), some (zI 1)] [zR 6, zI 1, zR 2] (zu mem 1 0 7) 14 266 Q
  refine wp_dup dd_X8_init_35 rfl ?_
  show zw_Wp l mm_X8_init (7, zk L, zur (zur (zur (zur f 1 2 2) 3 2 4) 3 3 5) 2 0 3) 36 [some (zR 1), some (zI 1)] [zR 6, zR 6, zI 1, zR 2] (zu mem 1 0 7) 14 266 Q
  refine wp_callN (M' := mm_X4_init) dd_X8_init_36 nk_X8_21 mC_X4_init (by decide) (by decide) (by decide) (in_X4_6  (by intro a9 h8 h9 k9; (repeat rw [zu_row (by omega)]); exact hz _ (by omega) h9 k9) ?_)
  show zw_Wp l mm_X8_init (9, zk L, zur (zur (zur (zur (zur (zur f 1 2 2) 3 2 4) 3 3 5) 2 0 3) 6 2 7) 6 3 8) 39 [some (zR 1), some (zI 1)] [zR 6, zI 1, zR 2] (zu mem 1 0 7) 12 216 Q
  refine wp_aast dd_X8_init_39 rfl (by show 2 < 9; decide) rfl (by show 6 < 9; decide) (by decide) (by decide) ?_
  show zw_Wp l mm_X8_init (9, zk L, zur (zur (zur (zur (zur (zur (zur f 1 2 2) 3 2 4) 3 3 5) 2 0 3) 6 2 7) 6 3 8) 2 1 6) 40 [some (zR 1), some (zI 1)] [] (zu mem 1 0 7) 12 216 Q
  refine wp_iincC (ls2 := [some (zR 1), some (zI 2)]) dd_X8_init_40 rfl rfl (by decide) (by decide) rfl ?_
  show zw_Wp l mm_X8_init (9, zk L, zur (zur (zur (zur (zur (zur (zur f 1 2 2) 3 2 4) 3 3 5) 2 0 3) 6 2 7) 6 3 8) 2 1 6) 43 [some (zR 1), some (zI 2)] [] (zu mem 1 0 7) 12 216 Q
  refine wp_goto (tgt := 21) dd_X8_init_43 (by decide) ?_
  refine wp_iload_n dd_X8_init_21 rfl ?_
  show zw_Wp l mm_X8_init (9, zk L, zur (zur (zur (zur (zur (zur (zur f 1 2 2) 3 2 4) 3 3 5) 2 0 3) 6 2 7) 6 3 8) 2 1 6) 22 [some (zR 1), some (zI 2)] [zI 2] (zu mem 1 0 7) 12 216 Q
  refine wp_bipush dd_X8_init_22 (by decide) ?_
  show zw_Wp l mm_X8_init (9, zk L, zur (zur (zur (zur (zur (zur (zur f 1 2 2) 3 2 4) 3 3 5) 2 0 3) 6 2 7) 6 3 8) 2 1 6) 24 [some (zR 1), some (zI 2)] [zI 6, zI 2] (zu mem 1 0 7) 12 216 Q
  refine wp_icmp_ge (tgt := 46) dd_X8_init_24 (by decide) (fun h9 => absurd h9 (by decide)) (fun h9 => ?_)
  refine wp_aload_n dd_X8_init_27 rfl ?_
  show zw_Wp l mm_X8_init (9, zk L, zur (zur (zur (zur (zur (zur (zur f 1 2 2) 3 2 4) 3 3 5) 2 0 3) 6 2 7) 6 3 8) 2 1 6) 28 [some (zR 1), some (zI 2)] [zR 1] (zu mem 1 0 7) 12 216 Q
  refine wp_getR dd_X8_init_28 gf_X8_17 rfl rfl (by decide) (by show 1 < 9; decide) (j := 2) rfl ?_
  show zw_Wp l mm_X8_init (9, zk L, zur (zur (zur (zur (zur (zur (zur f 1 2 2) 3 2 4) 3 3 5) 2 0 3) 6 2 7) 6 3 8) 2 1 6) 31 [some (zR 1), some (zI 2)] [zR 2] (zu mem 1 0 7) 12 216 Q
  refine wp_iload_n dd_X8_init_31 rfl ?_
  show zw_Wp l mm_X8_init (9, zk L, zur (zur (zur (zur (zur (zur (zur f 1 2 2) 3 2 4) 3 3 5) 2 0 3) 6 2 7) 6 3 8) 2 1 6) 32 [some (zR 1), some (zI 2)] [zI 2, zR 2] (zu mem 1 0 7) 12 216 Q
  refine wp_new dd_X8_init_32 nw_X8_15 rfl (by intro k9; show (zu mem 1 0 7) 9 k9 = 0; (repeat rw [zu_row (by decide)]); exact hz 9 (by decide) (by decide) k9) (by intro k9; show (zur (zur (zur (zur (zur (zur (zur f 1 2 2) 3 2 4) 3 3 5) 2 0 3) 6 2 7) 6 3 8) 2 1 6) 9 k9 = none; (repeat rw [zur_row (by decide)]); exact hf 9 (by decide) k9) (by show 9 < 1000; decide) (by decide) ?_
  show zw_Wp l mm_X8_init (10, zk L, zur (zur (zur (zur (zur (zur (zur f 1 2 2) 3 2 4) 3 3 5) 2 0 3) 6 2 7) 6 3 8) 2 1 6) 35 [some (zR 1), some (zI 2)] [zR 9, zI 2, zR 2] (zu mem 1 0 7) 11 212 Q
  refine wp_dup dd_X8_init_35 rfl ?_
  show zw_Wp l mm_X8_init (10, zk L, zur (zur (zur (zur (zur (zur (zur f 1 2 2) 3 2 4) 3 3 5) 2 0 3) 6 2 7) 6 3 8) 2 1 6) 36 [some (zR 1), some (zI 2)] [zR 9, zR 9, zI 2, zR 2] (zu mem 1 0 7) 11 212 Q
  refine wp_callN (M' := mm_X4_init) dd_X8_init_36 nk_X8_21 mC_X4_init (by decide) (by decide) (by decide) (in_X4_9  (by intro a9 h8 h9 k9; (repeat rw [zu_row (by omega)]); exact hz _ (by omega) h9 k9) ?_)
  show zw_Wp l mm_X8_init (12, zk L, zur (zur (zur (zur (zur (zur (zur (zur (zur f 1 2 2) 3 2 4) 3 3 5) 2 0 3) 6 2 7) 6 3 8) 2 1 6) 9 2 10) 9 3 11) 39 [some (zR 1), some (zI 2)] [zR 9, zI 2, zR 2] (zu mem 1 0 7) 9 162 Q
  refine wp_aast dd_X8_init_39 rfl (by show 2 < 12; decide) rfl (by show 9 < 12; decide) (by decide) (by decide) ?_
  show zw_Wp l mm_X8_init (12, zk L, zur (zur (zur (zur (zur (zur (zur (zur (zur (zur f 1 2 2) 3 2 4) 3 3 5) 2 0 3) 6 2 7) 6 3 8) 2 1 6) 9 2 10) 9 3 11) 2 2 9) 40 [some (zR 1), some (zI 2)] [] (zu mem 1 0 7) 9 162 Q
  refine wp_iincC (ls2 := [some (zR 1), some (zI 3)]) dd_X8_init_40 rfl rfl (by decide) (by decide) rfl ?_
  show zw_Wp l mm_X8_init (12, zk L, zur (zur (zur (zur (zur (zur (zur (zur (zur (zur f 1 2 2) 3 2 4) 3 3 5) 2 0 3) 6 2 7) 6 3 8) 2 1 6) 9 2 10) 9 3 11) 2 2 9) 43 [some (zR 1), some (zI 3)] [] (zu mem 1 0 7) 9 162 Q
  refine wp_goto (tgt := 21) dd_X8_init_43 (by decide) ?_
  refine wp_iload_n dd_X8_init_21 rfl ?_
  show zw_Wp l mm_X8_init (12, zk L, zur (zur (zur (zur (zur (zur (zur (zur (zur (zur f 1 2 2) 3 2 4) 3 3 5) 2 0 3) 6 2 7) 6 3 8) 2 1 6) 9 2 10) 9 3 11) 2 2 9) 22 [some (zR 1), some (zI 3)] [zI 3] (zu mem 1 0 7) 9 162 Q
  refine wp_bipush dd_X8_init_22 (by decide) ?_
  show zw_Wp l mm_X8_init (12, zk L, zur (zur (zur (zur (zur (zur (zur (zur (zur (zur f 1 2 2) 3 2 4) 3 3 5) 2 0 3) 6 2 7) 6 3 8) 2 1 6) 9 2 10) 9 3 11) 2 2 9) 24 [some (zR 1), some (zI 3)] [zI 6, zI 3] (zu mem 1 0 7) 9 162 Q
  refine wp_icmp_ge (tgt := 46) dd_X8_init_24 (by decide) (fun h9 => absurd h9 (by decide)) (fun h9 => ?_)
  refine wp_aload_n dd_X8_init_27 rfl ?_
  show zw_Wp l mm_X8_init (12, zk L, zur (zur (zur (zur (zur (zur (zur (zur (zur (zur f 1 2 2) 3 2 4) 3 3 5) 2 0 3) 6 2 7) 6 3 8) 2 1 6) 9 2 10) 9 3 11) 2 2 9) 28 [some (zR 1), some (zI 3)] [zR 1] (zu mem 1 0 7) 9 162 Q
  refine wp_getR dd_X8_init_28 gf_X8_17 rfl rfl (by decide) (by show 1 < 12; decide) (j := 2) rfl ?_
  show zw_Wp l mm_X8_init (12, zk L, zur (zur (zur (zur (zur (zur (zur (zur (zur (zur f 1 2 2) 3 2 4) 3 3 5) 2 0 3) 6 2 7) 6 3 8) 2 1 6) 9 2 10) 9 3 11) 2 2 9) 31 [some (zR 1), some (zI 3)] [zR 2] (zu mem 1 0 7) 9 162 Q
  refine wp_iload_n dd_X8_init_31 rfl ?_
  show zw_Wp l mm_X8_init (12, zk L, zur (zur (zur (zur (zur (zur (zur (zur (zur (zur f 1 2 2) 3 2 4) 3 3 5) 2 0 3) 6 2 7) 6 3 8) 2 1 6) 9 2 10) 9 3 11) 2 2 9) 32 [some (zR 1), some (zI 3)] [zI 3, zR 2] (zu mem 1 0 7) 9 162 Q
  refine wp_new dd_X8_init_32 nw_X8_15 rfl (by intro k9; show (zu mem 1 0 7) 12 k9 = 0; (repeat rw [zu_row (by decide)]); exact hz 12 (by decide) (by decide) k9) (by intro k9; show (zur (zur (zur (zur (zur (zur (zur (zur (zur (zur f 1 2 2) 3 2 4) 3 3 5) 2 0 3) 6 2 7) 6 3 8) 2 1 6) 9 2 10) 9 3 11) 2 2 9) 12 k9 = none; (repeat rw [zur_row (by decide)]); exact hf 12 (by decide) k9) (by show 12 < 1000; decide) (by decide) ?_
  show zw_Wp l mm_X8_init (13, zk L, zur (zur (zur (zur (zur (zur (zur (zur (zur (zur f 1 2 2) 3 2 4) 3 3 5) 2 0 3) 6 2 7) 6 3 8) 2 1 6) 9 2 10) 9 3 11) 2 2 9) 35 [some (zR 1), some (zI 3)] [zR 12, zI 3, zR 2] (zu mem 1 0 7) 8 158 Q
  refine wp_dup dd_X8_init_35 rfl ?_
  show zw_Wp l mm_X8_init (13, zk L, zur (zur (zur (zur (zur (zur (zur (zur (zur (zur f 1 2 2) 3 2 4) 3 3 5) 2 0 3) 6 2 7) 6 3 8) 2 1 6) 9 2 10) 9 3 11) 2 2 9) 36 [some (zR 1), some (zI 3)] [zR 12, zR 12, zI 3, zR 2] (zu mem 1 0 7) 8 158 Q
  refine wp_callN (M' := mm_X4_init) dd_X8_init_36 nk_X8_21 mC_X4_init (by decide) (by decide) (by decide) (in_X4_12  (by intro a9 h8 h9 k9; (repeat rw [zu_row (by omega)]); exact hz _ (by omega) h9 k9) ?_)
  show zw_Wp l mm_X8_init (15, zk L, zur (zur (zur (zur (zur (zur (zur (zur (zur (zur (zur (zur f 1 2 2) 3 2 4) 3 3 5) 2 0 3) 6 2 7) 6 3 8) 2 1 6) 9 2 10) 9 3 11) 2 2 9) 12 2 13) 12 3 14) 39 [some (zR 1), some (zI 3)] [zR 12, zI 3, zR 2] (zu mem 1 0 7) 6 108 Q
  refine wp_aast dd_X8_init_39 rfl (by show 2 < 15; decide) rfl (by show 12 < 15; decide) (by decide) (by decide) ?_
  show zw_Wp l mm_X8_init (15, zk L, zur (zur (zur (zur (zur (zur (zur (zur (zur (zur (zur (zur (zur f 1 2 2) 3 2 4) 3 3 5) 2 0 3) 6 2 7) 6 3 8) 2 1 6) 9 2 10) 9 3 11) 2 2 9) 12 2 13) 12 3 14) 2 3 12) 40 [some (zR 1), some (zI 3)] [] (zu mem 1 0 7) 6 108 Q
  refine wp_iincC (ls2 := [some (zR 1), some (zI 4)]) dd_X8_init_40 rfl rfl (by decide) (by decide) rfl ?_
  show zw_Wp l mm_X8_init (15, zk L, zur (zur (zur (zur (zur (zur (zur (zur (zur (zur (zur (zur (zur f 1 2 2) 3 2 4) 3 3 5) 2 0 3) 6 2 7) 6 3 8) 2 1 6) 9 2 10) 9 3 11) 2 2 9) 12 2 13) 12 3 14) 2 3 12) 43 [some (zR 1), some (zI 4)] [] (zu mem 1 0 7) 6 108 Q
  refine wp_goto (tgt := 21) dd_X8_init_43 (by decide) ?_
  refine wp_iload_n dd_X8_init_21 rfl ?_
  show zw_Wp l mm_X8_init (15, zk L, zur (zur (zur (zur (zur (zur (zur (zur (zur (zur (zur (zur (zur f 1 2 2) 3 2 4) 3 3 5) 2 0 3) 6 2 7) 6 3 8) 2 1 6) 9 2 10) 9 3 11) 2 2 9) 12 2 13) 12 3 14) 2 3 12) 22 [some (zR 1), some (zI 4)] [zI 4] (zu mem 1 0 7) 6 108 Q
  refine wp_bipush dd_X8_init_22 (by decide) ?_
  show zw_Wp l mm_X8_init (15, zk L, zur (zur (zur (zur (zur (zur (zur (zur (zur (zur (zur (zur (zur f 1 2 2) 3 2 4) 3 3 5) 2 0 3) 6 2 7) 6 3 8) 2 1 6) 9 2 10) 9 3 11) 2 2 9) 12 2 13) 12 3 14) 2 3 12) 24 [some (zR 1), some (zI 4)] [zI 6, zI 4] (zu mem 1 0 7) 6 108 Q
  refine wp_icmp_ge (tgt := 46) dd_X8_init_24 (by decide) (fun h9 => absurd h9 (by decide)) (fun h9 => ?_)
  refine wp_aload_n dd_X8_init_27 rfl ?_
  show zw_Wp l mm_X8_init (15, zk L, zur (zur (zur (zur (zur (zur (zur (zur (zur (zur (zur (zur (zur f 1 2 2) 3 2 4) 3 3 5) 2 0 3) 6 2 7) 6 3 8) 2 1 6) 9 2 10) 9 3 11) 2 2 9) 12 2 13) 12 3 14) 2 3 12) 28 [some (zR 1), some (zI 4)] [zR 1] (zu mem 1 0 7) 6 108 Q
  refine wp_getR dd_X8_init_28 gf_X8_17 rfl rfl (by decide) (by show 1 < 15; decide) (j := 2) rfl ?_
  show zw_Wp l mm_X8_init (15, zk L, zur (zur (zur (zur (zur (zur (zur (zur (zur (zur (zur (zur (zur f 1 2 2) 3 2 4) 3 3 5) 2 0 3) 6 2 7) 6 3 8) 2 1 6) 9 2 10) 9 3 11) 2 2 9) 12 2 13) 12 3 14) 2 3 12) 31 [some (zR 1), some (zI 4)] [zR 2] (zu mem 1 0 7) 6 108 Q
  refine wp_iload_n dd_X8_init_31 rfl ?_
  show zw_Wp l mm_X8_init (15, zk L, zur (zur (zur (zur (zur (zur (zur (zur (zur (zur (zur (zur (zur f 1 2 2) 3 2 4) 3 3 5) 2 0 3) 6 2 7) 6 3 8) 2 1 6) 9 2 10) 9 3 11) 2 2 9) 12 2 13) 12 3 14) 2 3 12) 32 [some (zR 1), some (zI 4)] [zI 4, zR 2] (zu mem 1 0 7) 6 108 Q
  refine wp_new dd_X8_init_32 nw_X8_15 rfl (by intro k9; show (zu mem 1 0 7) 15 k9 = 0; (repeat rw [zu_row (by decide)]); exact hz 15 (by decide) (by decide) k9) (by intro k9; show (zur (zur (zur (zur (zur (zur (zur (zur (zur (zur (zur (zur (zur f 1 2 2) 3 2 4) 3 3 5) 2 0 3) 6 2 7) 6 3 8) 2 1 6) 9 2 10) 9 3 11) 2 2 9) 12 2 13) 12 3 14) 2 3 12) 15 k9 = none; (repeat rw [zur_row (by decide)]); exact hf 15 (by decide) k9) (by show 15 < 1000; decide) (by decide) ?_
  show zw_Wp l mm_X8_init (16, zk L, zur (zur (zur (zur (zur (zur (zur (zur (zur (zur (zur (zur (zur f 1 2 2) 3 2 4) 3 3 5) 2 0 3) 6 2 7) 6 3 8) 2 1 6) 9 2 10) 9 3 11) 2 2 9) 12 2 13) 12 3 14) 2 3 12) 35 [some (zR 1), some (zI 4)] [zR 15, zI 4, zR 2] (zu mem 1 0 7) 5 104 Q
  refine wp_dup dd_X8_init_35 rfl ?_
  show zw_Wp l mm_X8_init (16, zk L, zur (zur (zur (zur (zur (zur (zur (zur (zur (zur (zur (zur (zur f 1 2 2) 3 2 4) 3 3 5) 2 0 3) 6 2 7) 6 3 8) 2 1 6) 9 2 10) 9 3 11) 2 2 9) 12 2 13) 12 3 14) 2 3 12) 36 [some (zR 1), some (zI 4)] [zR 15, zR 15, zI 4, zR 2] (zu mem 1 0 7) 5 104 Q
  refine wp_callN (M' := mm_X4_init) dd_X8_init_36 nk_X8_21 mC_X4_init (by decide) (by decide) (by decide) (in_X4_15  (by intro a9 h8 h9 k9; (repeat rw [zu_row (by omega)]); exact hz _ (by omega) h9 k9) ?_)
  show zw_Wp l mm_X8_init (18, zk L, zur (zur (zur (zur (zur (zur (zur (zur (zur (zur (zur (zur (zur (zur (zur f 1 2 2) 3 2 4) 3 3 5) 2 0 3) 6 2 7) 6 3 8) 2 1 6) 9 2 10) 9 3 11) 2 2 9) 12 2 13) 12 3 14) 2 3 12) 15 2 16) 15 3 17) 39 [some (zR 1), some (zI 4)] [zR 15, zI 4, zR 2] (zu mem 1 0 7) 3 54 Q
  refine wp_aast dd_X8_init_39 rfl (by show 2 < 18; decide) rfl (by show 15 < 18; decide) (by decide) (by decide) ?_
  show zw_Wp l mm_X8_init (18, zk L, zur (zur (zur (zur (zur (zur (zur (zur (zur (zur (zur (zur (zur (zur (zur (zur f 1 2 2) 3 2 4) 3 3 5) 2 0 3) 6 2 7) 6 3 8) 2 1 6) 9 2 10) 9 3 11) 2 2 9) 12 2 13) 12 3 14) 2 3 12) 15 2 16) 15 3 17) 2 4 15) 40 [some (zR 1), some (zI 4)] [] (zu mem 1 0 7) 3 54 Q
  refine wp_iincC (ls2 := [some (zR 1), some (zI 5)]) dd_X8_init_40 rfl rfl (by decide) (by decide) rfl ?_
  show zw_Wp l mm_X8_init (18, zk L, zur (zur (zur (zur (zur (zur (zur (zur (zur (zur (zur (zur (zur (zur (zur (zur f 1 2 2) 3 2 4) 3 3 5) 2 0 3) 6 2 7) 6 3 8) 2 1 6) 9 2 10) 9 3 11) 2 2 9) 12 2 13) 12 3 14) 2 3 12) 15 2 16) 15 3 17) 2 4 15) 43 [some (zR 1), some (zI 5)] [] (zu mem 1 0 7) 3 54 Q
  refine wp_goto (tgt := 21) dd_X8_init_43 (by decide) ?_
  refine wp_iload_n dd_X8_init_21 rfl ?_
  show zw_Wp l mm_X8_init (18, zk L, zur (zur (zur (zur (zur (zur (zur (zur (zur (zur (zur (zur (zur (zur (zur (zur f 1 2 2) 3 2 4) 3 3 5) 2 0 3) 6 2 7) 6 3 8) 2 1 6) 9 2 10) 9 3 11) 2 2 9) 12 2 13) 12 3 14) 2 3 12) 15 2 16) 15 3 17) 2 4 15) 22 [some (zR 1), some (zI 5)] [zI 5] (zu mem 1 0 7) 3 54 Q
  refine wp_bipush dd_X8_init_22 (by decide) ?_
  show zw_Wp l mm_X8_init (18, zk L, zur (zur (zur (zur (zur (zur (zur (zur (zur (zur (zur (zur (zur (zur (zur (zur f 1 2 2) 3 2 4) 3 3 5) 2 0 3) 6 2 7) 6 3 8) 2 1 6) 9 2 10) 9 3 11) 2 2 9) 12 2 13) 12 3 14) 2 3 12) 15 2 16) 15 3 17) 2 4 15) 24 [some (zR 1), some (zI 5)] [zI 6, zI 5] (zu mem 1 0 7) 3 54 Q
  refine wp_icmp_ge (tgt := 46) dd_X8_init_24 (by decide) (fun h9 => absurd h9 (by decide)) (fun h9 => ?_)
  refine wp_aload_n dd_X8_init_27 rfl ?_
  show zw_Wp l mm_X8_init (18, zk L, zur (zur (zur (zur (zur (zur (zur (zur (zur (zur (zur (zur (zur (zur (zur (zur f 1 2 2) 3 2 4) 3 3 5) 2 0 3) 6 2 7) 6 3 8) 2 1 6) 9 2 10) 9 3 11) 2 2 9) 12 2 13) 12 3 14) 2 3 12) 15 2 16) 15 3 17) 2 4 15) 28 [some (zR 1), some (zI 5)] [zR 1] (zu mem 1 0 7) 3 54 Q
  refine wp_getR dd_X8_init_28 gf_X8_17 rfl rfl (by decide) (by show 1 < 18; decide) (j := 2) rfl ?_
  show zw_Wp l mm_X8_init (18, zk L, zur (zur (zur (zur (zur (zur (zur (zur (zur (zur (zur (zur (zur (zur (zur (zur f 1 2 2) 3 2 4) 3 3 5) 2 0 3) 6 2 7) 6 3 8) 2 1 6) 9 2 10) 9 3 11) 2 2 9) 12 2 13) 12 3 14) 2 3 12) 15 2 16) 15 3 17) 2 4 15) 31 [some (zR 1), some (zI 5)] [zR 2] (zu mem 1 0 7) 3 54 Q
  refine wp_iload_n dd_X8_init_31 rfl ?_
  show zw_Wp l mm_X8_init (18, zk L, zur (zur (zur (zur (zur (zur (zur (zur (zur (zur (zur (zur (zur (zur (zur (zur f 1 2 2) 3 2 4) 3 3 5) 2 0 3) 6 2 7) 6 3 8) 2 1 6) 9 2 10) 9 3 11) 2 2 9) 12 2 13) 12 3 14) 2 3 12) 15 2 16) 15 3 17) 2 4 15) 32 [some (zR 1), some (zI 5)] [zI 5, zR 2] (zu mem 1 0 7) 3 54 Q
  refine wp_new dd_X8_init_32 nw_X8_15 rfl (by intro k9; show (zu mem 1 0 7) 18 k9 = 0; (repeat rw [zu_row (by decide)]); exact hz 18 (by decide) (by decide) k9) (by intro k9; show (zur (zur (zur (zur (zur (zur (zur (zur (zur (zur (zur (zur (zur (zur (zur (zur f 1 2 2) 3 2 4) 3 3 5) 2 0 3) 6 2 7) 6 3 8) 2 1 6) 9 2 10) 9 3 11) 2 2 9) 12 2 13) 12 3 14) 2 3 12) 15 2 16) 15 3 17) 2 4 15) 18 k9 = none; (repeat rw [zur_row (by decide)]); exact hf 18 (by decide) k9) (by show 18 < 1000; decide) (by decide) ?_
  show zw_Wp l mm_X8_init (19, zk L, zur (zur (zur (zur (zur (zur (zur (zur (zur (zur (zur (zur (zur (zur (zur (zur f 1 2 2) 3 2 4) 3 3 5) 2 0 3) 6 2 7) 6 3 8) 2 1 6) 9 2 10) 9 3 11) 2 2 9) 12 2 13) 12 3 14) 2 3 12) 15 2 16) 15 3 17) 2 4 15) 35 [some (zR 1), some (zI 5)] [zR 18, zI 5, zR 2] (zu mem 1 0 7) 2 50 Q
  refine wp_dup dd_X8_init_35 rfl ?_
  show zw_Wp l mm_X8_init (19, zk L, zur (zur (zur (zur (zur (zur (zur (zur (zur (zur (zur (zur (zur (zur (zur (zur f 1 2 2) 3 2 4) 3 3 5) 2 0 3) 6 2 7) 6 3 8) 2 1 6) 9 2 10) 9 3 11) 2 2 9) 12 2 13) 12 3 14) 2 3 12) 15 2 16) 15 3 17) 2 4 15) 36 [some (zR 1), some (zI 5)] [zR 18, zR 18, zI 5, zR 2] (zu mem 1 0 7) 2 50 Q
  refine wp_callN (M' := mm_X4_init) dd_X8_init_36 nk_X8_21 mC_X4_init (by decide) (by decide) (by decide) (in_X4_18  (by intro a9 h8 h9 k9; (repeat rw [zu_row (by omega)]); exact hz _ (by omega) h9 k9) ?_)
  show zw_Wp l mm_X8_init (21, zk L, zur (zur (zur (zur (zur (zur (zur (zur (zur (zur (zur (zur (zur (zur (zur (zur (zur (zur f 1 2 2) 3 2 4) 3 3 5) 2 0 3) 6 2 7) 6 3 8) 2 1 6) 9 2 10) 9 3 11) 2 2 9) 12 2 13) 12 3 14) 2 3 12) 15 2 16) 15 3 17) 2 4 15) 18 2 19) 18 3 20) 39 [some (zR 1), some (zI 5)] [zR 18, zI 5, zR 2] (zu mem 1 0 7) 0 0 Q
  refine wp_aast dd_X8_init_39 rfl (by show 2 < 21; decide) rfl (by show 18 < 21; decide) (by decide) (by decide) ?_
  show zw_Wp l mm_X8_init (21, zk L, zur (zur (zur (zur (zur (zur (zur (zur (zur (zur (zur (zur (zur (zur (zur (zur (zur (zur (zur f 1 2 2) 3 2 4) 3 3 5) 2 0 3) 6 2 7) 6 3 8) 2 1 6) 9 2 10) 9 3 11) 2 2 9) 12 2 13) 12 3 14) 2 3 12) 15 2 16) 15 3 17) 2 4 15) 18 2 19) 18 3 20) 2 5 18) 40 [some (zR 1), some (zI 5)] [] (zu mem 1 0 7) 0 0 Q
  refine wp_iincC (ls2 := [some (zR 1), some (zI 6)]) dd_X8_init_40 rfl rfl (by decide) (by decide) rfl ?_
  show zw_Wp l mm_X8_init (21, zk L, zur (zur (zur (zur (zur (zur (zur (zur (zur (zur (zur (zur (zur (zur (zur (zur (zur (zur (zur f 1 2 2) 3 2 4) 3 3 5) 2 0 3) 6 2 7) 6 3 8) 2 1 6) 9 2 10) 9 3 11) 2 2 9) 12 2 13) 12 3 14) 2 3 12) 15 2 16) 15 3 17) 2 4 15) 18 2 19) 18 3 20) 2 5 18) 43 [some (zR 1), some (zI 6)] [] (zu mem 1 0 7) 0 0 Q
  refine wp_goto (tgt := 21) dd_X8_init_43 (by decide) ?_
  refine wp_iload_n dd_X8_init_21 rfl ?_
  show zw_Wp l mm_X8_init (21, zk L, zur (zur (zur (zur (zur (zur (zur (zur (zur (zur (zur (zur (zur (zur (zur (zur (zur (zur (zur f 1 2 2) 3 2 4) 3 3 5) 2 0 3) 6 2 7) 6 3 8) 2 1 6) 9 2 10) 9 3 11) 2 2 9) 12 2 13) 12 3 14) 2 3 12) 15 2 16) 15 3 17) 2 4 15) 18 2 19) 18 3 20) 2 5 18) 22 [some (zR 1), some (zI 6)] [zI 6] (zu mem 1 0 7) 0 0 Q
  refine wp_bipush dd_X8_init_22 (by decide) ?_
  show zw_Wp l mm_X8_init (21, zk L, zur (zur (zur (zur (zur (zur (zur (zur (zur (zur (zur (zur (zur (zur (zur (zur (zur (zur (zur f 1 2 2) 3 2 4) 3 3 5) 2 0 3) 6 2 7) 6 3 8) 2 1 6) 9 2 10) 9 3 11) 2 2 9) 12 2 13) 12 3 14) 2 3 12) 15 2 16) 15 3 17) 2 4 15) 18 2 19) 18 3 20) 2 5 18) 24 [some (zR 1), some (zI 6)] [zI 6, zI 6] (zu mem 1 0 7) 0 0 Q
  refine wp_icmp_ge (tgt := 46) dd_X8_init_24 (by decide) (fun h9 => ?_) (fun h9 => absurd h9 (by decide))
  refine wp_return (st := []) dd_X8_init_46 rfl ?_
  exact k

set_option maxRecDepth 100000 in
set_option maxHeartbeats 4000000 in
theorem in_X8_21 {l : Launch} {L : Nat} {mem : zMem} {f : Nat → Nat → Option Nat} {Q : zQ} (hf : ∀ a : Nat, 22 ≤ a → ∀ k : Nat, f a k = none) (hz : ∀ a : Nat, 22 ≤ a → a < 1000 → ∀ k : Int, mem a k = 0) (k : Q none (41, zk L, zur (zur (zur (zur (zur (zur (zur (zur (zur (zur (zur (zur (zur (zur (zur (zur (zur (zur (zur f 21 2 22) 23 2 24) 23 3 25) 22 0 23) 26 2 27) 26 3 28) 22 1 26) 29 2 30) 29 3 31) 22 2 29) 32 2 33) 32 3 34) 22 3 32) 35 2 36) 35 3 37) 22 4 35) 38 2 39) 38 3 40) 22 5 38) (zu mem 21 0 7)) : zw_Ok l mm_X8_init [zR 21] (22, zk L, f) mem Q := by
  refine zw_enter (by decide) (Nat.le_of_ble_eq_true rfl) rfl ?_
  show zw_Wp l mm_X8_init (22, zk L, f) 0 [some (zR 21), none] [] mem 19 330 Q
  refine wp_aload_n dd_X8_init_0 rfl ?_
  show zw_Wp l mm_X8_init (22, zk L, f) 1 [some (zR 21), none] [zR 21] mem 19 330 Q
  refine wp_oinit dd_X8_init_1 lk_X8_3 oi_1 oi_2 (by decide) (by decide) ?_
  show zw_Wp l mm_X8_init (22, zk L, f) 4 [some (zR 21), none] [] mem 19 330 Q
  refine wp_aload_n dd_X8_init_4 rfl ?_
  show zw_Wp l mm_X8_init (22, zk L, f) 5 [some (zR 21), none] [zR 21] mem 19 330 Q
  refine wp_bipush dd_X8_init_5 (by decide) ?_
  show zw_Wp l mm_X8_init (22, zk L, f) 7 [some (zR 21), none] [zI 7, zR 21] mem 19 330 Q
  refine wp_putzI 0 rfl dd_X8_init_7 pf_X8_9 rfl rfl (by decide) (by show 21 < 22; decide) ?_
  show zw_Wp l mm_X8_init (22, zk L, f) 10 [some (zR 21), none] [] (zu mem 21 0 7) 19 330 Q
  refine wp_aload_n dd_X8_init_10 rfl ?_
  show zw_Wp l mm_X8_init (22, zk L, f) 11 [some (zR 21), none] [zR 21] (zu mem 21 0 7) 19 330 Q
  refine wp_bipush dd_X8_init_11 (by decide) ?_
  show zw_Wp l mm_X8_init (22, zk L, f) 13 [some (zR 21), none] [zI 6, zR 21] (zu mem 21 0 7) 19 330 Q
  refine wp_newq (n := 6) rfl dd_X8_init_13 cl_X8_15 rfl (by intro k9; show f 22 k9 = none; (repeat rw [zur_row (by decide)]); exact hf 22 (by decide) k9) (by show 22 < 1000; decide) (by decide) (by decide) ?_
  show zw_Wp l mm_X8_init (23, zk L, f) 16 [some (zR 21), none] [zR 22, zR 21] (zu mem 21 0 7) 18 324 Q
  refine wp_putR dd_X8_init_16 pf_X8_17 rfl rfl rfl (by decide) (by show 21 < 23; decide) (by show 22 < 23; decide) (fun _ => rfl) (fun _ => rfl) ?_
  show zw_Wp l mm_X8_init (23, zk L, zur f 21 2 22) 19 [some (zR 21), none] [] (zu mem 21 0 7) 18 324 Q
  refine wp_iconst dd_X8_init_19 (zr_lit rfl) ?_
  show zw_Wp l mm_X8_init (23, zk L, zur f 21 2 22) 20 [some (zR 21), none] [zI 0] (zu mem 21 0 7) 18 324 Q
  refine wp_istore_n (ls2 := [some (zR 21), some (zI 0)]) dd_X8_init_20 rfl (by decide) rfl ?_
  show zw_Wp l mm_X8_init (23, zk L, zur f 21 2 22) 21 [some (zR 21), some (zI 0)] [] (zu mem 21 0 7) 18 324 Q
  refine wp_iload_n dd_X8_init_21 rfl ?_
  show zw_Wp l mm_X8_init (23, zk L, zur f 21 2 22) 22 [some (zR 21), some (zI 0)] [zI 0] (zu mem 21 0 7) 18 324 Q
  refine wp_bipush dd_X8_init_22 (by decide) ?_
  show zw_Wp l mm_X8_init (23, zk L, zur f 21 2 22) 24 [some (zR 21), some (zI 0)] [zI 6, zI 0] (zu mem 21 0 7) 18 324 Q
  refine wp_icmp_ge (tgt := 46) dd_X8_init_24 (by decide) (fun h9 => absurd h9 (by decide)) (fun h9 => ?_)
  refine wp_aload_n dd_X8_init_27 rfl ?_
  show zw_Wp l mm_X8_init (23, zk L, zur f 21 2 22) 28 [some (zR 21), some (zI 0)] [zR 21] (zu mem 21 0 7) 18 324 Q
  refine wp_getR dd_X8_init_28 gf_X8_17 rfl rfl (by decide) (by show 21 < 23; decide) (j := 22) rfl ?_
  show zw_Wp l mm_X8_init (23, zk L, zur f 21 2 22) 31 [some (zR 21), some (zI 0)] [zR 22] (zu mem 21 0 7) 18 324 Q
  refine wp_iload_n dd_X8_init_31 rfl ?_
  show zw_Wp l mm_X8_init (23, zk L, zur f 21 2 22) 32 [some (zR 21), some (zI 0)] [zI 0, zR 22] (zu mem 21 0 7) 18 324 Q
  refine wp_new dd_X8_init_32 nw_X8_15 rfl (by intro k9; show (zu mem 21 0 7) 23 k9 = 0; (repeat rw [zu_row (by decide)]); exact hz 23 (by decide) (by decide) k9) (by intro k9; show (zur f 21 2 22) 23 k9 = none; (repeat rw [zur_row (by decide)]); exact hf 23 (by decide) k9) (by show 23 < 1000; decide) (by decide) ?_
  show zw_Wp l mm_X8_init (24, zk L, zur f 21 2 22) 35 [some (zR 21), some (zI 0)] [zR 23, zI 0, zR 22] (zu mem 21 0 7) 17 320 Q
  refine wp_dup dd_X8_init_35 rfl ?_
  show zw_Wp l mm_X8_init (24, zk L, zur f 21 2 22) 36 [some (zR 21), some (zI 0)] [zR 23, zR 23, zI 0, zR 22] (zu mem 21 0 7) 17 320 Q
  refine wp_callN (M' := mm_X4_init) dd_X8_init_36 nk_X8_21 mC_X4_init (by decide) (by decide) (by decide) (in_X4_23  (by intro a9 h8 h9 k9; (repeat rw [zu_row (by omega)]); exact hz _ (by omega) h9 k9) ?_)
  show zw_Wp l mm_X8_init (26, zk L, zur (zur (zur f 21 2 22) 23 2 24) 23 3 25) 39 [some (zR 21), some (zI 0)] [zR 23, zI 0, zR 22] (zu mem 21 0 7) 15 270 Q
  refine wp_aast dd_X8_init_39 rfl (by show 22 < 26; decide) rfl (by show 23 < 26; decide) (by decide) (by decide) ?_
  show zw_Wp l mm_X8_init (26, zk L, zur (zur (zur (zur f 21 2 22) 23 2 24) 23 3 25) 22 0 23) 40 [some (zR 21), some (zI 0)] [] (zu mem 21 0 7) 15 270 Q
  refine wp_iincC (ls2 := [some (zR 21), some (zI 1)]) dd_X8_init_40 rfl rfl (by decide) (by decide) rfl ?_
  show zw_Wp l mm_X8_init (26, zk L, zur (zur (zur (zur f 21 2 22) 23 2 24) 23 3 25) 22 0 23) 43 [some (zR 21), some (zI 1)] [] (zu mem 21 0 7) 15 270 Q
  refine wp_goto (tgt := 21) dd_X8_init_43 (by decide) ?_
  refine wp_iload_n dd_X8_init_21 rfl ?_
  show zw_Wp l mm_X8_init (26, zk L, zur (zur (zur (zur f 21 2 22) 23 2 24) 23 3 25) 22 0 23) 22 [some (zR 21), some (zI 1)] [zI 1] (zu mem 21 0 7) 15 270 Q
  refine wp_bipush dd_X8_init_22 (by decide) ?_
  show zw_Wp l mm_X8_init (26, zk L, zur (zur (zur (zur f 21 2 22) 23 2 24) 23 3 25) 22 0 23) 24 [some (zR 21), some (zI 1)] [zI 6, zI 1] (zu mem 21 0 7) 15 270 Q
  refine wp_icmp_ge (tgt := 46) dd_X8_init_24 (by decide) (fun h9 => absurd h9 (by decide)) (fun h9 => ?_)
  refine wp_aload_n dd_X8_init_27 rfl ?_
  show zw_Wp l mm_X8_init (26, zk L, zur (zur (zur (zur f 21 2 22) 23 2 24) 23 3 25) 22 0 23) 28 [some (zR 21), some (zI 1)] [zR 21] (zu mem 21 0 7) 15 270 Q
  refine wp_getR dd_X8_init_28 gf_X8_17 rfl rfl (by decide) (by show 21 < 26; decide) (j := 22) rfl ?_
  show zw_Wp l mm_X8_init (26, zk L, zur (zur (zur (zur f 21 2 22) 23 2 24) 23 3 25) 22 0 23) 31 [some (zR 21), some (zI 1)] [zR 22] (zu mem 21 0 7) 15 270 Q
  refine wp_iload_n dd_X8_init_31 rfl ?_
  show zw_Wp l mm_X8_init (26, zk L, zur (zur (zur (zur f 21 2 22) 23 2 24) 23 3 25) 22 0 23) 32 [some (zR 21), some (zI 1)] [zI 1, zR 22] (zu mem 21 0 7) 15 270 Q
  refine wp_new dd_X8_init_32 nw_X8_15 rfl (by intro k9; show (zu mem 21 0 7) 26 k9 = 0; (repeat rw [zu_row (by decide)]); exact hz 26 (by decide) (by decide) k9) (by intro k9; show (zur (zur (zur (zur f 21 2 22) 23 2 24) 23 3 25) 22 0 23) 26 k9 = none; (repeat rw [zur_row (by decide)]); exact hf 26 (by decide) k9) (by show 26 < 1000; decide) (by decide) ?_
  show zw_Wp l mm_X8_init (27, zk L, zur (zur (zur (zur f 21 2 22) 23 2 24) 23 3 25) 22 0 23) 35 [some (zR 21), some (zI 1)] [zR 26, zI 1, zR 22] (zu mem 21 0 7) 14 266 Q
  refine wp_dup dd_X8_init_35 rfl ?_
  show zw_Wp l mm_X8_init (27, zk L, zur (zur (zur (zur f 21 2 22) 23 2 24) 23 3 25) 22 0 23) 36 [some (zR 21), some (zI 1)] [zR 26, zR 26, zI 1, zR 22] (zu mem 21 0 7) 14 266 Q
  refine wp_callN (M' := mm_X4_init) dd_X8_init_36 nk_X8_21 mC_X4_init (by decide) (by decide) (by decide) (in_X4_26  (by intro a9 h8 h9 k9; (repeat rw [zu_row (by omega)]); exact hz _ (by omega) h9 k9) ?_)
  show zw_Wp l mm_X8_init (29, zk L, zur (zur (zur (zur (zur (zur f 21 2 22) 23 2 24) 23 3 25) 22 0 23) 26 2 27) 26 3 28) 39 [some (zR 21), some (zI 1)] [zR 26, zI 1, zR 22] (zu mem 21 0 7) 12 216 Q
  refine wp_aast dd_X8_init_39 rfl (by show 22 < 29; decide) rfl (by show 26 < 29; decide) (by decide) (by decide) ?_
  show zw_Wp l mm_X8_init (29, zk L, zur (zur (zur (zur (zur (zur (zur f 21 2 22) 23 2 24) 23 3 25) 22 0 23) 26 2 27) 26 3 28) 22 1 26) 40 [some (zR 21), some (zI 1)] [] (zu mem 21 0 7) 12 216 Q
  refine wp_iincC (ls2 := [some (zR 21), some (zI 2)]) dd_X8_init_40 rfl rfl (by decide) (by decide) rfl ?_
  show zw_Wp l mm_X8_init (29, zk L, zur (zur (zur (zur (zur (zur (zur f 21 2 22) 23 2 24) 23 3 25) 22 0 23) 26 2 27) 26 3 28) 22 1 26) 43 [some (zR 21), some (zI 2)] [] (zu mem 21 0 7) 12 216 Q
  refine wp_goto (tgt := 21) dd_X8_init_43 (by decide) ?_
  refine wp_iload_n dd_X8_init_21 rfl ?_
  show zw_Wp l mm_X8_init (29, zk L, zur (zur (zur (zur (zur (zur (zur f 21 2 22) 23 2 24) 23 3 25) 22 0 23) 26 2 27) 26 3 28) 22 1 26) 22 [some (zR 21), some (zI 2)] [zI 2] (zu mem 21 0 7) 12 216 Q
  refine wp_bipush dd_X8_init_22 (by decide) ?_
  show zw_Wp l mm_X8_init (29, zk L, zur (zur (zur (zur (zur (zur (zur f 21 2 22) 23 2 24) 23 3 25) 22 0 23) 26 2 27) 26 3 28) 22 1 26) 24 [some (zR 21), some (zI 2)] [zI 6, zI 2] (zu mem 21 0 7) 12 216 Q
  refine wp_icmp_ge (tgt := 46) dd_X8_init_24 (by decide) (fun h9 => absurd h9 (by decide)) (fun h9 => ?_)
  refine wp_aload_n dd_X8_init_27 rfl ?_
  show zw_Wp l mm_X8_init (29, zk L, zur (zur (zur (zur (zur (zur (zur f 21 2 22) 23 2 24) 23 3 25) 22 0 23) 26 2 27) 26 3 28) 22 1 26) 28 [some (zR 21), some (zI 2)] [zR 21] (zu mem 21 0 7) 12 216 Q
  refine wp_getR dd_X8_init_28 gf_X8_17 rfl rfl (by decide) (by show 21 < 29; decide) (j := 22) rfl ?_
  show zw_Wp l mm_X8_init (29, zk L, zur (zur (zur (zur (zur (zur (zur f 21 2 22) 23 2 24) 23 3 25) 22 0 23) 26 2 27) 26 3 28) 22 1 26) 31 [some (zR 21), some (zI 2)] [zR 22] (zu mem 21 0 7) 12 216 Q
  refine wp_iload_n dd_X8_init_31 rfl ?_
  show zw_Wp l mm_X8_init (29, zk L, zur (zur (zur (zur (zur (zur (zur f 21 2 22) 23 2 24) 23 3 25) 22 0 23) 26 2 27) 26 3 28) 22 1 26) 32 [some (zR 21), some (zI 2)] [zI 2, zR 22] (zu mem 21 0 7) 12 216 Q
  refine wp_new dd_X8_init_32 nw_X8_15 rfl (by intro k9; show (zu mem 21 0 7) 29 k9 = 0; (repeat rw [zu_row (by decide)]); exact hz 29 (by decide) (by decide) k9) (by intro k9; show (zur (zur (zur (zur (zur (zur (zur f 21 2 22) 23 2 24) 23 3 25) 22 0 23) 26 2 27) 26 3 28) 22 1 26) 29 k9 = none; (repeat rw [zur_row (by decide)]); exact hf 29 (by decide) k9) (by show 29 < 1000; decide) (by decide) ?_
  show zw_Wp l mm_X8_init (30, zk L, zur (zur (zur (zur (zur (zur (zur f 21 2 22) 23 2 24) 23 3 25) 22 0 23) 26 2 27) 26 3 28) 22 1 26) 35 [some (zR 21), some (zI 2)] [zR 29, zI 2, zR 22] (zu mem 21 0 7) 11 212 Q
  refine wp_dup dd_X8_init_35 rfl ?_
  show zw_Wp l mm_X8_init (30, zk L, zur (zur (zur (zur (zur (zur (zur f 21 2 22) 23 2 24) 23 3 25) 22 0 23) 26 2 27) 26 3 28) 22 1 26) 36 [some (zR 21), some (zI 2)] [zR 29, zR 29, zI 2, zR 22] (zu mem 21 0 7) 11 212 Q
  refine wp_callN (M' := mm_X4_init) dd_X8_init_36 nk_X8_21 mC_X4_init (by decide) (by decide) (by decide) (in_X4_29  (by intro a9 h8 h9 k9; (repeat rw [zu_row (by omega)]); exact hz _ (by omega) h9 k9) ?_)
  show zw_Wp l mm_X8_init (32, zk L, zur (zur (zur (zur (zur (zur (zur (zur (zur f 21 2 22) 23 2 24) 23 3 25) 22 0 23) 26 2 27) 26 3 28) 22 1 26) 29 2 30) 29 3 31) 39 [some (zR 21), some (zI 2)] [zR 29, zI 2, zR 22] (zu mem 21 0 7) 9 162 Q
  refine wp_aast dd_X8_init_39 rfl (by show 22 < 32; decide) rfl (by show 29 < 32; decide) (by decide) (by decide) ?_
  show zw_Wp l mm_X8_init (32, zk L, zur (zur (zur (zur (zur (zur (zur (zur (zur (zur f 21 2 22) 23 2 24) 23 3 25) 22 0 23) 26 2 27) 26 3 28) 22 1 26) 29 2 30) 29 3 31) 22 2 29) 40 [some (zR 21), some (zI 2)] [] (zu mem 21 0 7) 9 162 Q
  refine wp_iincC (ls2 := [some (zR 21), some (zI 3)]) dd_X8_init_40 rfl rfl (by decide) (by decide) rfl ?_
  show zw_Wp l mm_X8_init (32, zk L, zur (zur (zur (zur (zur (zur (zur (zur (zur (zur f 21 2 22) 23 2 24) 23 3 25) 22 0 23) 26 2 27) 26 3 28) 22 1 26) 29 2 30) 29 3 31) 22 2 29) 43 [some (zR 21), some (zI 3)] [] (zu mem 21 0 7) 9 162 Q
  refine wp_goto (tgt := 21) dd_X8_init_43 (by decide) ?_
  refine wp_iload_n dd_X8_init_21 rfl ?_
  show zw_Wp l mm_X8_init (32, zk L, zur (zur (zur (zur (zur (zur (zur (zur (zur (zur f 21 2 22) 23 2 24) 23 3 25) 22 0 23) 26 2 27) 26 3 28) 22 1 26) 29 2 30) 29 3 31) 22 2 29) 22 [some (zR 21), some (zI 3)] [zI 3] (zu mem 21 0 7) 9 162 Q
  refine wp_bipush dd_X8_init_22 (by decide) ?_
  show zw_Wp l mm_X8_init (32, zk L, zur (zur (zur (zur (zur (zur (zur (zur (zur (zur f 21 2 22) 23 2 24) 23 3 25) 22 0 23) 26 2 27) 26 3 28) 22 1 26) 29 2 30) 29 3 31) 22 2 29) 24 [some (zR 21), some (zI 3)] [zI 6, zI 3] (zu mem 21 0 7) 9 162 Q
  refine wp_icmp_ge (tgt := 46) dd_X8_init_24 (by decide) (fun h9 => absurd h9 (by decide)) (fun h9 => ?_)
  refine wp_aload_n dd_X8_init_27 rfl ?_
  show zw_Wp l mm_X8_init (32, zk L, zur (zur (zur (zur (zur (zur (zur (zur (zur (zur f 21 2 22) 23 2 24) 23 3 25) 22 0 23) 26 2 27) 26 3 28) 22 1 26) 29 2 30) 29 3 31) 22 2 29) 28 [some (zR 21), some (zI 3)] [zR 21] (zu mem 21 0 7) 9 162 Q
  refine wp_getR dd_X8_init_28 gf_X8_17 rfl rfl (by decide) (by show 21 < 32; decide) (j := 22) rfl ?_
  show zw_Wp l mm_X8_init (32, zk L, zur (zur (zur (zur (zur (zur (zur (zur (zur (zur f 21 2 22) 23 2 24) 23 3 25) 22 0 23) 26 2 27) 26 3 28) 22 1 26) 29 2 30) 29 3 31) 22 2 29) 31 [some (zR 21), some (zI 3)] [zR 22] (zu mem 21 0 7) 9 162 Q
  refine wp_iload_n dd_X8_init_31 rfl ?_
  show zw_Wp l mm_X8_init (32, zk L, zur (zur (zur (zur (zur (zur (zur (zur (zur (zur f 21 2 22) 23 2 24) 23 3 25) 22 0 23) 26 2 27) 26 3 28) 22 1 26) 29 2 30) 29 3 31) 22 2 29) 32 [some (zR 21), some (zI 3)] [zI 3, zR 22] (zu mem 21 0 7) 9 162 Q
  refine wp_new dd_X8_init_32 nw_X8_15 rfl (by intro k9; show (zu mem 21 0 7) 32 k9 = 0; (repeat rw [zu_row (by decide)]); exact hz 32 (by decide) (by decide) k9) (by intro k9; show (zur (zur (zur (zur (zur (zur (zur (zur (zur (zur f 21 2 22) 23 2 24) 23 3 25) 22 0 23) 26 2 27) 26 3 28) 22 1 26) 29 2 30) 29 3 31) 22 2 29) 32 k9 = none; (repeat rw [zur_row (by decide)]); exact hf 32 (by decide) k9) (by show 32 < 1000; decide) (by decide) ?_
  show zw_Wp l mm_X8_init (33, zk L, zur (zur (zur (zur (zur (zur (zur (zur (zur (zur f 21 2 22) 23 2 24) 23 3 25) 22 0 23) 26 2 27) 26 3 28) 22 1 26) 29 2 30) 29 3 31) 22 2 29) 35 [some (zR 21), some (zI 3)] [zR 32, zI 3, zR 22] (zu mem 21 0 7) 8 158 Q
  refine wp_dup dd_X8_init_35 rfl ?_
  show zw_Wp l mm_X8_init (33, zk L, zur (zur (zur (zur (zur (zur (zur (zur (zur (zur f 21 2 22) 23 2 24) 23 3 25) 22 0 23) 26 2 27) 26 3 28) 22 1 26) 29 2 30) 29 3 31) 22 2 29) 36 [some (zR 21), some (zI 3)] [zR 32, zR 32, zI 3, zR 22] (zu mem 21 0 7) 8 158 Q
  refine wp_callN (M' := mm_X4_init) dd_X8_init_36 nk_X8_21 mC_X4_init (by decide) (by decide) (by decide) (in_X4_32  (by intro a9 h8 h9 k9; (repeat rw [zu_row (by omega)]); exact hz _ (by omega) h9 k9) ?_)
  show zw_Wp l mm_X8_init (35, zk L, zur (zur (zur (zur (zur (zur (zur (zur (zur (zur (zur (zur f 21 2 22) 23 2 24) 23 3 25) 22 0 23) 26 2 27) 26 3 28) 22 1 26) 29 2 30) 29 3 31) 22 2 29) 32 2 33) 32 3 34) 39 [some (zR 21), some (zI 3)] [zR 32, zI 3, zR 22] (zu mem 21 0 7) 6 108 Q
  refine wp_aast dd_X8_init_39 rfl (by show 22 < 35; decide) rfl (by show 32 < 35; decide) (by decide) (by decide) ?_
  show zw_Wp l mm_X8_init (35, zk L, zur (zur (zur (zur (zur (zur (zur (zur (zur (zur (zur (zur (zur f 21 2 22) 23 2 24) 23 3 25) 22 0 23) 26 2 27) 26 3 28) 22 1 26) 29 2 30) 29 3 31) 22 2 29) 32 2 33) 32 3 34) 22 3 32) 40 [some (zR 21), some (zI 3)] [] (zu mem 21 0 7) 6 108 Q
  refine wp_iincC (ls2 := [some (zR 21), some (zI 4)]) dd_X8_init_40 rfl rfl (by decide) (by decide) rfl ?_
  show zw_Wp l mm_X8_init (35, zk L, zur (zur (zur (zur (zur (zur (zur (zur (zur (zur (zur (zur (zur f 21 2 22) 23 2 24) 23 3 25) 22 0 23) 26 2 27) 26 3 28) 22 1 26) 29 2 30) 29 3 31) 22 2 29) 32 2 33) 32 3 34) 22 3 32) 43 [some (zR 21), some (zI 4)] [] (zu mem 21 0 7) 6 108 Q
  refine wp_goto (tgt := 21) dd_X8_init_43 (by decide) ?_
  refine wp_iload_n dd_X8_init_21 rfl ?_
  show zw_Wp l mm_X8_init (35, zk L, zur (zur (zur (zur (zur (zur (zur (zur (zur (zur (zur (zur (zur f 21 2 22) 23 2 24) 23 3 25) 22 0 23) 26 2 27) 26 3 28) 22 1 26) 29 2 30) 29 3 31) 22 2 29) 32 2 33) 32 3 34) 22 3 32) 22 [some (zR 21), some (zI 4)] [zI 4] (zu mem 21 0 7) 6 108 Q
  refine wp_bipush dd_X8_init_22 (by decide) ?_
  show zw_Wp l mm_X8_init (35, zk L, zur (zur (zur (zur (zur (zur (zur (zur (zur (zur (zur (zur (zur f 21 2 22) 23 2 24) 23 3 25) 22 0 23) 26 2 27) 26 3 28) 22 1 26) 29 2 30) 29 3 31) 22 2 29) 32 2 33) 32 3 34) 22 3 32) 24 [some (zR 21), some (zI 4)] [zI 6, zI 4] (zu mem 21 0 7) 6 108 Q
  refine wp_icmp_ge (tgt := 46) dd_X8_init_24 (by decide) (fun h9 => absurd h9 (by decide)) (fun h9 => ?_)
  refine wp_aload_n dd_X8_init_27 rfl ?_
  show zw_Wp l mm_X8_init (35, zk L, zur (zur (zur (zur (zur (zur (zur (zur (zur (zur (zur (zur (zur f 21 2 22) 23 2 24) 23 3 25) 22 0 23) 26 2 27) 26 3 28) 22 1 26) 29 2 30) 29 3 31) 22 2 29) 32 2 33) 32 3 34) 22 3 32) 28 [some (zR 21), some (zI 4)] [zR 21] (zu mem 21 0 7) 6 108 Q
  refine wp_getR dd_X8_init_28 gf_X8_17 rfl rfl (by decide) (by show 21 < 35; decide) (j := 22) rfl ?_
  show zw_Wp l mm_X8_init (35, zk L, zur (zur (zur (zur (zur (zur (zur (zur (zur (zur (zur (zur (zur f 21 2 22) 23 2 24) 23 3 25) 22 0 23) 26 2 27) 26 3 28) 22 1 26) 29 2 30) 29 3 31) 22 2 29) 32 2 33) 32 3 34) 22 3 32) 31 [some (zR 21), some (zI 4)] [zR 22] (zu mem 21 0 7) 6 108 Q
  refine wp_iload_n dd_X8_init_31 rfl ?_
  show zw_Wp l mm_X8_init (35, zk L, zur (zur (zur (zur (zur (zur (zur (zur (zur (zur (zur (zur (zur f 21 2 22) 23 2 24) 23 3 25) 22 0 23) 26 2 27) 26 3 28) 22 1 26) 29 2 30) 29 3 31) 22 2 29) 32 2 33) 32 3 34) 22 3 32) 32 [some (zR 21), some (zI 4)] [zI 4, zR 22] (zu mem 21 0 7) 6 108 Q
  refine wp_new dd_X8_init_32 nw_X8_15 rfl (by intro k9; show (zu mem 21 0 7) 35 k9 = 0; (repeat rw [zu_row (by decide)]); exact hz 35 (by decide) (by decide) k9) (by intro k9; show (zur (zur (zur (zur (zur (zur (zur (zur (zur (zur (zur (zur (zur f 21 2 22) 23 2 24) 23 3 25) 22 0 23) 26 2 27) 26 3 28) 22 1 26) 29 2 30) 29 3 31) 22 2 29) 32 2 33) 32 3 34) 22 3 32) 35 k9 = none; (repeat rw [zur_row (by decide)]); exact hf 35 (by decide) k9) (by show 35 < 1000; decide) (by decide) ?_
  show zw_Wp l mm_X8_init (36, zk L, zur (zur (zur (zur (zur (zur (zur (zur (zur (zur (zur (zur (zur f 21 2 22) 23 2 24) 23 3 25) 22 0 23) 26 2 27) 26 3 28) 22 1 26) 29 2 30) 29 3 31) 22 2 29) 32 2 33) 32 3 34) 22 3 32) 35 [some (zR 21), some (zI 4)] [zR 35, zI 4, zR 22] (zu mem 21 0 7) 5 104 Q
  refine wp_dup dd_X8_init_35 rfl ?_
  show zw_Wp l mm_X8_init (36, zk L, zur (zur (zur (zur (zur (zur (zur (zur (zur (zur (zur (zur (zur f 21 2 22) 23 2 24) 23 3 25) 22 0 23) 26 2 27) 26 3 28) 22 1 26) 29 2 30) 29 3 31) 22 2 29) 32 2 33) 32 3 34) 22 3 32) 36 [some (zR 21), some (zI 4)] [zR 35, zR 35, zI 4, zR 22] (zu mem 21 0 7) 5 104 Q
  refine wp_callN (M' := mm_X4_init) dd_X8_init_36 nk_X8_21 mC_X4_init (by decide) (by decide) (by decide) (in_X4_35  (by intro a9 h8 h9 k9; (repeat rw [zu_row (by omega)]); exact hz _ (by omega) h9 k9) ?_)
  show zw_Wp l mm_X8_init (38, zk L, zur (zur (zur (zur (zur (zur (zur (zur (zur (zur (zur (zur (zur (zur (zur f 21 2 22) 23 2 24) 23 3 25) 22 0 23) 26 2 27) 26 3 28) 22 1 26) 29 2 30) 29 3 31) 22 2 29) 32 2 33) 32 3 34) 22 3 32) 35 2 36) 35 3 37) 39 [some (zR 21), some (zI 4)] [zR 35, zI 4, zR 22] (zu mem 21 0 7) 3 54 Q
  refine wp_aast dd_X8_init_39 rfl (by show 22 < 38; decide) rfl (by show 35 < 38; decide) (by decide) (by decide) ?_
  show zw_Wp l mm_X8_init (38, zk L, zur (zur (zur (zur (zur (zur (zur (zur (zur (zur (zur (zur (zur (zur (zur (zur f 21 2 22) 23 2 24) 23 3 25) 22 0 23) 26 2 27) 26 3 28) 22 1 26) 29 2 30) 29 3 31) 22 2 29) 32 2 33) 32 3 34) 22 3 32) 35 2 36) 35 3 37) 22 4 35) 40 [some (zR 21), some (zI 4)] [] (zu mem 21 0 7) 3 54 Q
  refine wp_iincC (ls2 := [some (zR 21), some (zI 5)]) dd_X8_init_40 rfl rfl (by decide) (by decide) rfl ?_
  show zw_Wp l mm_X8_init (38, zk L, zur (zur (zur (zur (zur (zur (zur (zur (zur (zur (zur (zur (zur (zur (zur (zur f 21 2 22) 23 2 24) 23 3 25) 22 0 23) 26 2 27) 26 3 28) 22 1 26) 29 2 30) 29 3 31) 22 2 29) 32 2 33) 32 3 34) 22 3 32) 35 2 36) 35 3 37) 22 4 35) 43 [some (zR 21), some (zI 5)] [] (zu mem 21 0 7) 3 54 Q
  refine wp_goto (tgt := 21) dd_X8_init_43 (by decide) ?_
  refine wp_iload_n dd_X8_init_21 rfl ?_
  show zw_Wp l mm_X8_init (38, zk L, zur (zur (zur (zur (zur (zur (zur (zur (zur (zur (zur (zur (zur (zur (zur (zur f 21 2 22) 23 2 24) 23 3 25) 22 0 23) 26 2 27) 26 3 28) 22 1 26) 29 2 30) 29 3 31) 22 2 29) 32 2 33) 32 3 34) 22 3 32) 35 2 36) 35 3 37) 22 4 35) 22 [some (zR 21), some (zI 5)] [zI 5] (zu mem 21 0 7) 3 54 Q
  refine wp_bipush dd_X8_init_22 (by decide) ?_
  show zw_Wp l mm_X8_init (38, zk L, zur (zur (zur (zur (zur (zur (zur (zur (zur (zur (zur (zur (zur (zur (zur (zur f 21 2 22) 23 2 24) 23 3 25) 22 0 23) 26 2 27) 26 3 28) 22 1 26) 29 2 30) 29 3 31) 22 2 29) 32 2 33) 32 3 34) 22 3 32) 35 2 36) 35 3 37) 22 4 35) 24 [some (zR 21), some (zI 5)] [zI 6, zI 5] (zu mem 21 0 7) 3 54 Q
  refine wp_icmp_ge (tgt := 46) dd_X8_init_24 (by decide) (fun h9 => absurd h9 (by decide)) (fun h9 => ?_)
  refine wp_aload_n dd_X8_init_27 rfl ?_
  show zw_Wp l mm_X8_init (38, zk L, zur (zur (zur (zur (zur (zur (zur (zur (zur (zur (zur (zur (zur (zur (zur (zur f 21 2 22) 23 2 24) 23 3 25) 22 0 23) 26 2 27) 26 3 28) 22 1 26) 29 2 30) 29 3 31) 22 2 29) 32 2 33) 32 3 34) 22 3 32) 35 2 36) 35 3 37) 22 4 35) 28 [some (zR 21), some (zI 5)] [zR 21] (zu mem 21 0 7) 3 54 Q
  refine wp_getR dd_X8_init_28 gf_X8_17 rfl rfl (by decide) (by show 21 < 38; decide) (j := 22) rfl ?_
  show zw_Wp l mm_X8_init (38, zk L, zur (zur (zur (zur (zur (zur (zur (zur (zur (zur (zur (zur (zur (zur (zur (zur f 21 2 22) 23 2 24) 23 3 25) 22 0 23) 26 2 27) 26 3 28) 22 1 26) 29 2 30) 29 3 31) 22 2 29) 32 2 33) 32 3 34) 22 3 32) 35 2 36) 35 3 37) 22 4 35) 31 [some (zR 21), some (zI 5)] [zR 22] (zu mem 21 0 7) 3 54 Q
  refine wp_iload_n dd_X8_init_31 rfl ?_
  show zw_Wp l mm_X8_init (38, zk L, zur (zur (zur (zur (zur (zur (zur (zur (zur (zur (zur (zur (zur (zur (zur (zur f 21 2 22) 23 2 24) 23 3 25) 22 0 23) 26 2 27) 26 3 28) 22 1 26) 29 2 30) 29 3 31) 22 2 29) 32 2 33) 32 3 34) 22 3 32) 35 2 36) 35 3 37) 22 4 35) 32 [some (zR 21), some (zI 5)] [zI 5, zR 22] (zu mem 21 0 7) 3 54 Q
  refine wp_new dd_X8_init_32 nw_X8_15 rfl (by intro k9; show (zu mem 21 0 7) 38 k9 = 0; (repeat rw [zu_row (by decide)]); exact hz 38 (by decide) (by decide) k9) (by intro k9; show (zur (zur (zur (zur (zur (zur (zur (zur (zur (zur (zur (zur (zur (zur (zur (zur f 21 2 22) 23 2 24) 23 3 25) 22 0 23) 26 2 27) 26 3 28) 22 1 26) 29 2 30) 29 3 31) 22 2 29) 32 2 33) 32 3 34) 22 3 32) 35 2 36) 35 3 37) 22 4 35) 38 k9 = none; (repeat rw [zur_row (by decide)]); exact hf 38 (by decide) k9) (by show 38 < 1000; decide) (by decide) ?_
  show zw_Wp l mm_X8_init (39, zk L, zur (zur (zur (zur (zur (zur (zur (zur (zur (zur (zur (zur (zur (zur (zur (zur f 21 2 22) 23 2 24) 23 3 25) 22 0 23) 26 2 27) 26 3 28) 22 1 26) 29 2 30) 29 3 31) 22 2 29) 32 2 33) 32 3 34) 22 3 32) 35 2 36) 35 3 37) 22 4 35) 35 [some (zR 21), some (zI 5)] [zR 38, zI 5, zR 22] (zu mem 21 0 7) 2 50 Q
  refine wp_dup dd_X8_init_35 rfl ?_
  show zw_Wp l mm_X8_init (39, zk L, zur (zur (zur (zur (zur (zur (zur (zur (zur (zur (zur (zur (zur (zur (zur (zur f 21 2 22) 23 2 24) 23 3 25) 22 0 23) 26 2 27) 26 3 28) 22 1 26) 29 2 30) 29 3 31) 22 2 29) 32 2 33) 32 3 34) 22 3 32) 35 2 36) 35 3 37) 22 4 35) 36 [some (zR 21), some (zI 5)] [zR 38, zR 38, zI 5, zR 22] (zu mem 21 0 7) 2 50 Q
  refine wp_callN (M' := mm_X4_init) dd_X8_init_36 nk_X8_21 mC_X4_init (by decide) (by decide) (by decide) (in_X4_38  (by intro a9 h8 h9 k9; (repeat rw [zu_row (by omega)]); exact hz _ (by omega) h9 k9) ?_)
  show zw_Wp l mm_X8_init (41, zk L, zur (zur (zur (zur (zur (zur (zur (zur (zur (zur (zur (zur (zur (zur (zur (zur (zur (zur f 21 2 22) 23 2 24) 23 3 25) 22 0 23) 26 2 27) 26 3 28) 22 1 26) 29 2 30) 29 3 31) 22 2 29) 32 2 33) 32 3 34) 22 3 32) 35 2 36) 35 3 37) 22 4 35) 38 2 39) 38 3 40) 39 [some (zR 21), some (zI 5)] [zR 38, zI 5, zR 22] (zu mem 21 0 7) 0 0 Q
  refine wp_aast dd_X8_init_39 rfl (by show 22 < 41; decide) rfl (by show 38 < 41; decide) (by decide) (by decide) ?_
  show zw_Wp l mm_X8_init (41, zk L, zur (zur (zur (zur (zur (zur (zur (zur (zur (zur (zur (zur (zur (zur (zur (zur (zur (zur (zur f 21 2 22) 23 2 24) 23 3 25) 22 0 23) 26 2 27) 26 3 28) 22 1 26) 29 2 30) 29 3 31) 22 2 29) 32 2 33) 32 3 34) 22 3 32) 35 2 36) 35 3 37) 22 4 35) 38 2 39) 38 3 40) 22 5 38) 40 [some (zR 21), some (zI 5)] [] (zu mem 21 0 7) 0 0 Q
  refine wp_iincC (ls2 := [some (zR 21), some (zI 6)]) dd_X8_init_40 rfl rfl (by decide) (by decide) rfl ?_
  show zw_Wp l mm_X8_init (41, zk L, zur (zur (zur (zur (zur (zur (zur (zur (zur (zur (zur (zur (zur (zur (zur (zur (zur (zur (zur f 21 2 22) 23 2 24) 23 3 25) 22 0 23) 26 2 27) 26 3 28) 22 1 26) 29 2 30) 29 3 31) 22 2 29) 32 2 33) 32 3 34) 22 3 32) 35 2 36) 35 3 37) 22 4 35) 38 2 39) 38 3 40) 22 5 38) 43 [some (zR 21), some (zI 6)] [] (zu mem 21 0 7) 0 0 Q
  refine wp_goto (tgt := 21) dd_X8_init_43 (by decide) ?_
  refine wp_iload_n dd_X8_init_21 rfl ?_
  show zw_Wp l mm_X8_init (41, zk L, zur (zur (zur (zur (zur (zur (zur (zur (zur (zur (zur (zur (zur (zur (zur (zur (zur (zur (zur f 21 2 22) 23 2 24) 23 3 25) 22 0 23) 26 2 27) 26 3 28) 22 1 26) 29 2 30) 29 3 31) 22 2 29) 32 2 33) 32 3 34) 22 3 32) 35 2 36) 35 3 37) 22 4 35) 38 2 39) 38 3 40) 22 5 38) 22 [some (zR 21), some (zI 6)] [zI 6] (zu mem 21 0 7) 0 0 Q
  refine wp_bipush dd_X8_init_22 (by decide) ?_
  show zw_Wp l mm_X8_init (41, zk L, zur (zur (zur (zur (zur (zur (zur (zur (zur (zur (zur (zur (zur (zur (zur (zur (zur (zur (zur f 21 2 22) 23 2 24) 23 3 25) 22 0 23) 26 2 27) 26 3 28) 22 1 26) 29 2 30) 29 3 31) 22 2 29) 32 2 33) 32 3 34) 22 3 32) 35 2 36) 35 3 37) 22 4 35) 38 2 39) 38 3 40) 22 5 38) 24 [some (zR 21), some (zI 6)] [zI 6, zI 6] (zu mem 21 0 7) 0 0 Q
  refine wp_icmp_ge (tgt := 46) dd_X8_init_24 (by decide) (fun h9 => ?_) (fun h9 => absurd h9 (by decide))
  refine wp_return (st := []) dd_X8_init_46 rfl ?_
  exact k

set_option maxRecDepth 100000 in
set_option maxHeartbeats 4000000 in
theorem in_X6 {l : Launch} {L : Nat} {mem : zMem} {f : Nat → Nat → Option Nat} {Q : zQ} (hz : ∀ a : Nat, 42 ≤ a → a < 1000 → ∀ k : Int, mem a k = 0) (k : Q none (44, zk L, zur (zur f 41 1 42) 41 2 43) mem) : zw_Ok l mm_X6_init [zR 41] (42, zk L, f) mem Q := by
  refine zw_enter (by decide) (Nat.le_of_ble_eq_true rfl) rfl ?_
  show zw_Wp l mm_X6_init (42, zk L, f) 0 [some (zR 41)] [] mem 2 97 Q
  refine wp_aload_n dd_X6_init_0 rfl ?_
  show zw_Wp l mm_X6_init (42, zk L, f) 1 [some (zR 41)] [zR 41] mem 2 97 Q
  refine wp_oinit dd_X6_init_1 lk_X6_3 oi_1 oi_2 (by decide) (by decide) ?_
  show zw_Wp l mm_X6_init (42, zk L, f) 4 [some (zR 41)] [] mem 2 97 Q
  refine wp_aload_n dd_X6_init_4 rfl ?_
  show zw_Wp l mm_X6_init (42, zk L, f) 5 [some (zR 41)] [zR 41] mem 2 97 Q
  refine wp_bipush dd_X6_init_5 (by decide) ?_
  show zw_Wp l mm_X6_init (42, zk L, f) 7 [some (zR 41)] [zI 25, zR 41] mem 2 97 Q
  refine wp_newaI (n := 25) rfl dd_X6_init_7 ac_int rfl (by intro k9; show mem 42 k9 = 0; (repeat rw [zu_row (by decide)]); exact hz 42 (by decide) (by decide) k9) (by show 42 < 1000; decide) (by decide) (by decide) ?_
  show zw_Wp l mm_X6_init (43, zk L, f) 9 [some (zR 41)] [zR 42, zR 41] mem 1 72 Q
  refine wp_putR dd_X6_init_9 pf_X6_9 rfl rfl rfl (by decide) (by show 41 < 43; decide) (by show 42 < 43; decide) (fun _ => rfl) (fun _ => rfl) ?_
  show zw_Wp l mm_X6_init (43, zk L, zur f 41 1 42) 12 [some (zR 41)] [] mem 1 72 Q
  refine wp_aload_n dd_X6_init_12 rfl ?_
  show zw_Wp l mm_X6_init (43, zk L, zur f 41 1 42) 13 [some (zR 41)] [zR 41] mem 1 72 Q
  refine wp_bipush dd_X6_init_13 (by decide) ?_
  show zw_Wp l mm_X6_init (43, zk L, zur f 41 1 42) 15 [some (zR 41)] [zI 72, zR 41] mem 1 72 Q
  refine wp_newaI (n := 72) rfl dd_X6_init_15 ac_int rfl (by intro k9; show mem 43 k9 = 0; (repeat rw [zu_row (by decide)]); exact hz 43 (by decide) (by decide) k9) (by show 43 < 1000; decide) (by decide) (by decide) ?_
  show zw_Wp l mm_X6_init (44, zk L, zur f 41 1 42) 17 [some (zR 41)] [zR 43, zR 41] mem 0 0 Q
  refine wp_putR dd_X6_init_17 pf_X6_15 rfl rfl rfl (by decide) (by show 41 < 44; decide) (by show 43 < 44; decide) (fun _ => rfl) (fun _ => rfl) ?_
  show zw_Wp l mm_X6_init (44, zk L, zur (zur f 41 1 42) 41 2 43) 20 [some (zR 41)] [] mem 0 0 Q
  refine wp_return (st := []) dd_X6_init_20 rfl ?_
  exact k

set_option maxRecDepth 100000 in
set_option maxHeartbeats 4000000 in
theorem in_X3 {l : Launch} {L : Nat} {mem : zMem} {f : Nat → Nat → Option Nat} {Q : zQ} (hz : ∀ a : Nat, 45 ≤ a → a < 1000 → ∀ k : Int, mem a k = 0) (k : Q none (48, zk L, zur (zur (zur f 44 1 45) 44 2 46) 44 3 47) mem) : zw_Ok l mm_X3_init [zR 44] (45, zk L, f) mem Q := by
  refine zw_enter (by decide) (Nat.le_of_ble_eq_true rfl) rfl ?_
  show zw_Wp l mm_X3_init (45, zk L, f) 0 [some (zR 44)] [] mem 3 48 Q
  refine wp_aload_n dd_X3_init_0 rfl ?_
  show zw_Wp l mm_X3_init (45, zk L, f) 1 [some (zR 44)] [zR 44] mem 3 48 Q
  refine wp_oinit dd_X3_init_1 lk_X3_1 oi_1 oi_2 (by decide) (by decide) ?_
  show zw_Wp l mm_X3_init (45, zk L, f) 4 [some (zR 44)] [] mem 3 48 Q
  refine wp_aload_n dd_X3_init_4 rfl ?_
  show zw_Wp l mm_X3_init (45, zk L, f) 5 [some (zR 44)] [zR 44] mem 3 48 Q
  refine wp_bipush dd_X3_init_5 (by decide) ?_
  show zw_Wp l mm_X3_init (45, zk L, f) 7 [some (zR 44)] [zI 16, zR 44] mem 3 48 Q
  refine wp_newaI (n := 16) rfl dd_X3_init_7 ac_int rfl (by intro k9; show mem 45 k9 = 0; (repeat rw [zu_row (by decide)]); exact hz 45 (by decide) (by decide) k9) (by show 45 < 1000; decide) (by decide) (by decide) ?_
  show zw_Wp l mm_X3_init (46, zk L, f) 9 [some (zR 44)] [zR 45, zR 44] mem 2 32 Q
  refine wp_putR dd_X3_init_9 pf_X3_9 rfl rfl rfl (by decide) (by show 44 < 46; decide) (by show 45 < 46; decide) (fun _ => rfl) (fun _ => rfl) ?_
  show zw_Wp l mm_X3_init (46, zk L, zur f 44 1 45) 12 [some (zR 44)] [] mem 2 32 Q
  refine wp_aload_n dd_X3_init_12 rfl ?_
  show zw_Wp l mm_X3_init (46, zk L, zur f 44 1 45) 13 [some (zR 44)] [zR 44] mem 2 32 Q
  refine wp_bipush dd_X3_init_13 (by decide) ?_
  show zw_Wp l mm_X3_init (46, zk L, zur f 44 1 45) 15 [some (zR 44)] [zI 16, zR 44] mem 2 32 Q
  refine wp_newaI (n := 16) rfl dd_X3_init_15 ac_int rfl (by intro k9; show mem 46 k9 = 0; (repeat rw [zu_row (by decide)]); exact hz 46 (by decide) (by decide) k9) (by show 46 < 1000; decide) (by decide) (by decide) ?_
  show zw_Wp l mm_X3_init (47, zk L, zur f 44 1 45) 17 [some (zR 44)] [zR 46, zR 44] mem 1 16 Q
  refine wp_putR dd_X3_init_17 pf_X3_13 rfl rfl rfl (by decide) (by show 44 < 47; decide) (by show 46 < 47; decide) (fun _ => rfl) (fun _ => rfl) ?_
  show zw_Wp l mm_X3_init (47, zk L, zur (zur f 44 1 45) 44 2 46) 20 [some (zR 44)] [] mem 1 16 Q
  refine wp_aload_n dd_X3_init_20 rfl ?_
  show zw_Wp l mm_X3_init (47, zk L, zur (zur f 44 1 45) 44 2 46) 21 [some (zR 44)] [zR 44] mem 1 16 Q
  refine wp_bipush dd_X3_init_21 (by decide) ?_
  show zw_Wp l mm_X3_init (47, zk L, zur (zur f 44 1 45) 44 2 46) 23 [some (zR 44)] [zI 16, zR 44] mem 1 16 Q
  refine wp_newaI (n := 16) rfl dd_X3_init_23 ac_int rfl (by intro k9; show mem 47 k9 = 0; (repeat rw [zu_row (by decide)]); exact hz 47 (by decide) (by decide) k9) (by show 47 < 1000; decide) (by decide) (by decide) ?_
  show zw_Wp l mm_X3_init (48, zk L, zur (zur f 44 1 45) 44 2 46) 25 [some (zR 44)] [zR 47, zR 44] mem 0 0 Q
  refine wp_putR dd_X3_init_25 pf_X3_16 rfl rfl rfl (by decide) (by show 44 < 48; decide) (by show 47 < 48; decide) (fun _ => rfl) (fun _ => rfl) ?_
  show zw_Wp l mm_X3_init (48, zk L, zur (zur (zur f 44 1 45) 44 2 46) 44 3 47) 28 [some (zR 44)] [] mem 0 0 Q
  refine wp_return (st := []) dd_X3_init_28 rfl ?_
  exact k

set_option maxRecDepth 100000 in
set_option maxHeartbeats 4000000 in
theorem in_X9 {l : Launch} {L : Nat} {mem : zMem} {f : Nat → Nat → Option Nat} {Q : zQ} (hz : ∀ a : Nat, 49 ≤ a → a < 1000 → ∀ k : Int, mem a k = 0) (k : Q none (53, zk L, zur (zur (zur (zur f 48 0 49) 48 1 50) 48 2 51) 48 3 52) mem) : zw_Ok l mm_X9_init [zR 48] (49, zk L, f) mem Q := by
  refine zw_enter (by decide) (Nat.le_of_ble_eq_true rfl) rfl ?_
  show zw_Wp l mm_X9_init (49, zk L, f) 0 [some (zR 48)] [] mem 4 9321 Q
  refine wp_aload_n dd_X9_init_0 rfl ?_
  show zw_Wp l mm_X9_init (49, zk L, f) 1 [some (zR 48)] [zR 48] mem 4 9321 Q
  refine wp_oinit dd_X9_init_1 lk_X9_3 oi_1 oi_2 (by decide) (by decide) ?_
  show zw_Wp l mm_X9_init (49, zk L, f) 4 [some (zR 48)] [] mem 4 9321 Q
  refine wp_aload_n dd_X9_init_4 rfl ?_
  show zw_Wp l mm_X9_init (49, zk L, f) 5 [some (zR 48)] [zR 48] mem 4 9321 Q
  refine wp_bipush dd_X9_init_5 (by decide) ?_
  show zw_Wp l mm_X9_init (49, zk L, f) 7 [some (zR 48)] [zI 41, zR 48] mem 4 9321 Q
  refine wp_newaI (n := 41) rfl dd_X9_init_7 ac_int rfl (by intro k9; show mem 49 k9 = 0; (repeat rw [zu_row (by decide)]); exact hz 49 (by decide) (by decide) k9) (by show 49 < 1000; decide) (by decide) (by decide) ?_
  show zw_Wp l mm_X9_init (50, zk L, f) 9 [some (zR 48)] [zR 49, zR 48] mem 3 9280 Q
  refine wp_putR dd_X9_init_9 pf_X9_9 rfl rfl rfl (by decide) (by show 48 < 50; decide) (by show 49 < 50; decide) (fun _ => rfl) (fun _ => rfl) ?_
  show zw_Wp l mm_X9_init (50, zk L, zur f 48 0 49) 12 [some (zR 48)] [] mem 3 9280 Q
  refine wp_aload_n dd_X9_init_12 rfl ?_
  show zw_Wp l mm_X9_init (50, zk L, zur f 48 0 49) 13 [some (zR 48)] [zR 48] mem 3 9280 Q
  refine wp_sipush dd_X9_init_13 (by decide) ?_
  show zw_Wp l mm_X9_init (50, zk L, zur f 48 0 49) 16 [some (zR 48)] [zI 576, zR 48] mem 3 9280 Q
  refine wp_newaI (n := 576) rfl dd_X9_init_16 ac_int rfl (by intro k9; show mem 50 k9 = 0; (repeat rw [zu_row (by decide)]); exact hz 50 (by decide) (by decide) k9) (by show 50 < 1000; decide) (by decide) (by decide) ?_
  show zw_Wp l mm_X9_init (51, zk L, zur f 48 0 49) 18 [some (zR 48)] [zR 50, zR 48] mem 2 8704 Q
  refine wp_putR dd_X9_init_18 pf_X9_15 rfl rfl rfl (by decide) (by show 48 < 51; decide) (by show 50 < 51; decide) (fun _ => rfl) (fun _ => rfl) ?_
  show zw_Wp l mm_X9_init (51, zk L, zur (zur f 48 0 49) 48 1 50) 21 [some (zR 48)] [] mem 2 8704 Q
  refine wp_aload_n dd_X9_init_21 rfl ?_
  show zw_Wp l mm_X9_init (51, zk L, zur (zur f 48 0 49) 48 1 50) 22 [some (zR 48)] [zR 48] mem 2 8704 Q
  refine wp_sipush dd_X9_init_22 (by decide) ?_
  show zw_Wp l mm_X9_init (51, zk L, zur (zur f 48 0 49) 48 1 50) 25 [some (zR 48)] [zI 8448, zR 48] mem 2 8704 Q
  refine wp_newaI (n := 8448) rfl dd_X9_init_25 ac_int rfl (by intro k9; show mem 51 k9 = 0; (repeat rw [zu_row (by decide)]); exact hz 51 (by decide) (by decide) k9) (by show 51 < 1000; decide) (by decide) (by decide) ?_
  show zw_Wp l mm_X9_init (52, zk L, zur (zur f 48 0 49) 48 1 50) 27 [some (zR 48)] [zR 51, zR 48] mem 1 256 Q
  refine wp_putR dd_X9_init_27 pf_X9_18 rfl rfl rfl (by decide) (by show 48 < 52; decide) (by show 51 < 52; decide) (fun _ => rfl) (fun _ => rfl) ?_
  show zw_Wp l mm_X9_init (52, zk L, zur (zur (zur f 48 0 49) 48 1 50) 48 2 51) 30 [some (zR 48)] [] mem 1 256 Q
  refine wp_aload_n dd_X9_init_30 rfl ?_
  show zw_Wp l mm_X9_init (52, zk L, zur (zur (zur f 48 0 49) 48 1 50) 48 2 51) 31 [some (zR 48)] [zR 48] mem 1 256 Q
  refine wp_sipush dd_X9_init_31 (by decide) ?_
  show zw_Wp l mm_X9_init (52, zk L, zur (zur (zur f 48 0 49) 48 1 50) 48 2 51) 34 [some (zR 48)] [zI 256, zR 48] mem 1 256 Q
  refine wp_newaI (n := 256) rfl dd_X9_init_34 ac_int rfl (by intro k9; show mem 52 k9 = 0; (repeat rw [zu_row (by decide)]); exact hz 52 (by decide) (by decide) k9) (by show 52 < 1000; decide) (by decide) (by decide) ?_
  show zw_Wp l mm_X9_init (53, zk L, zur (zur (zur f 48 0 49) 48 1 50) 48 2 51) 36 [some (zR 48)] [zR 52, zR 48] mem 0 0 Q
  refine wp_putR dd_X9_init_36 pf_X9_21 rfl rfl rfl (by decide) (by show 48 < 53; decide) (by show 52 < 53; decide) (fun _ => rfl) (fun _ => rfl) ?_
  show zw_Wp l mm_X9_init (53, zk L, zur (zur (zur (zur f 48 0 49) 48 1 50) 48 2 51) 48 3 52) 39 [some (zR 48)] [] mem 0 0 Q
  refine wp_return (st := []) dd_X9_init_39 rfl ?_
  exact k

set_option maxRecDepth 100000 in
set_option maxHeartbeats 4000000 in
theorem in_X0 {l : Launch} {L : Nat} {mem : zMem} {f : Nat → Nat → Option Nat} {Q : zQ} (hz : ∀ a : Nat, 54 ≤ a → a < 1000 → ∀ k : Int, mem a k = 0) (k : Q none (57, zk L, zur (zur (zur f 53 0 54) 53 1 55) 53 3 56) mem) : zw_Ok l mm_X0_init [zR 53] (54, zk L, f) mem Q := by
  refine zw_enter (by decide) (Nat.le_of_ble_eq_true rfl) rfl ?_
  show zw_Wp l mm_X0_init (54, zk L, f) 0 [some (zR 53)] [] mem 3 18 Q
  refine wp_aload_n dd_X0_init_0 rfl ?_
  show zw_Wp l mm_X0_init (54, zk L, f) 1 [some (zR 53)] [zR 53] mem 3 18 Q
  refine wp_oinit dd_X0_init_1 lk_X0_3 oi_1 oi_2 (by decide) (by decide) ?_
  show zw_Wp l mm_X0_init (54, zk L, f) 4 [some (zR 53)] [] mem 3 18 Q
  refine wp_aload_n dd_X0_init_4 rfl ?_
  show zw_Wp l mm_X0_init (54, zk L, f) 5 [some (zR 53)] [zR 53] mem 3 18 Q
  refine wp_iconst dd_X0_init_5 (zr_lit rfl) ?_
  show zw_Wp l mm_X0_init (54, zk L, f) 6 [some (zR 53)] [zI 5, zR 53] mem 3 18 Q
  refine wp_newaI (n := 5) rfl dd_X0_init_6 ac_int rfl (by intro k9; show mem 54 k9 = 0; (repeat rw [zu_row (by decide)]); exact hz 54 (by decide) (by decide) k9) (by show 54 < 1000; decide) (by decide) (by decide) ?_
  show zw_Wp l mm_X0_init (55, zk L, f) 8 [some (zR 53)] [zR 54, zR 53] mem 2 13 Q
  refine wp_putR dd_X0_init_8 pf_X0_9 rfl rfl rfl (by decide) (by show 53 < 55; decide) (by show 54 < 55; decide) (fun _ => rfl) (fun _ => rfl) ?_
  show zw_Wp l mm_X0_init (55, zk L, zur f 53 0 54) 11 [some (zR 53)] [] mem 2 13 Q
  refine wp_aload_n dd_X0_init_11 rfl ?_
  show zw_Wp l mm_X0_init (55, zk L, zur f 53 0 54) 12 [some (zR 53)] [zR 53] mem 2 13 Q
  refine wp_iconst dd_X0_init_12 (zr_lit rfl) ?_
  show zw_Wp l mm_X0_init (55, zk L, zur f 53 0 54) 13 [some (zR 53)] [zI 5, zR 53] mem 2 13 Q
  refine wp_newaI (n := 5) rfl dd_X0_init_13 ac_int rfl (by intro k9; show mem 55 k9 = 0; (repeat rw [zu_row (by decide)]); exact hz 55 (by decide) (by decide) k9) (by show 55 < 1000; decide) (by decide) (by decide) ?_
  show zw_Wp l mm_X0_init (56, zk L, zur f 53 0 54) 15 [some (zR 53)] [zR 55, zR 53] mem 1 8 Q
  refine wp_putR dd_X0_init_15 pf_X0_15 rfl rfl rfl (by decide) (by show 53 < 56; decide) (by show 55 < 56; decide) (fun _ => rfl) (fun _ => rfl) ?_
  show zw_Wp l mm_X0_init (56, zk L, zur (zur f 53 0 54) 53 1 55) 18 [some (zR 53)] [] mem 1 8 Q
  refine wp_aload_n dd_X0_init_18 rfl ?_
  show zw_Wp l mm_X0_init (56, zk L, zur (zur f 53 0 54) 53 1 55) 19 [some (zR 53)] [zR 53] mem 1 8 Q
  refine wp_bipush dd_X0_init_19 (by decide) ?_
  show zw_Wp l mm_X0_init (56, zk L, zur (zur f 53 0 54) 53 1 55) 21 [some (zR 53)] [zI 8, zR 53] mem 1 8 Q
  refine wp_newaI (n := 8) rfl dd_X0_init_21 ac_int rfl (by intro k9; show mem 56 k9 = 0; (repeat rw [zu_row (by decide)]); exact hz 56 (by decide) (by decide) k9) (by show 56 < 1000; decide) (by decide) (by decide) ?_
  show zw_Wp l mm_X0_init (57, zk L, zur (zur f 53 0 54) 53 1 55) 23 [some (zR 53)] [zR 56, zR 53] mem 0 0 Q
  refine wp_putR dd_X0_init_23 pf_X0_18 rfl rfl rfl (by decide) (by show 53 < 57; decide) (by show 56 < 57; decide) (fun _ => rfl) (fun _ => rfl) ?_
  show zw_Wp l mm_X0_init (57, zk L, zur (zur (zur f 53 0 54) 53 1 55) 53 3 56) 26 [some (zR 53)] [] mem 0 0 Q
  refine wp_return (st := []) dd_X0_init_26 rfl ?_
  exact k

set_option maxRecDepth 100000 in
set_option maxHeartbeats 4000000 in
theorem in_X5 {l : Launch} {L : Nat} {mem : zMem} {f : Nat → Nat → Option Nat} {Q : zQ} (hz : ∀ a : Nat, 58 ≤ a → a < 1000 → ∀ k : Int, mem a k = 0) (k : Q none (60, zk L, zur (zur f 57 0 58) 57 1 59) mem) : zw_Ok l mm_X5_init [zR 57] (58, zk L, f) mem Q := by
  refine zw_enter (by decide) (Nat.le_of_ble_eq_true rfl) rfl ?_
  show zw_Wp l mm_X5_init (58, zk L, f) 0 [some (zR 57)] [] mem 2 243 Q
  refine wp_aload_n dd_X5_init_0 rfl ?_
  show zw_Wp l mm_X5_init (58, zk L, f) 1 [some (zR 57)] [zR 57] mem 2 243 Q
  refine wp_oinit dd_X5_init_1 lk_X5_5 oi_1 oi_2 (by decide) (by decide) ?_
  show zw_Wp l mm_X5_init (58, zk L, f) 4 [some (zR 57)] [] mem 2 243 Q
  refine wp_aload_n dd_X5_init_4 rfl ?_
  show zw_Wp l mm_X5_init (58, zk L, f) 5 [some (zR 57)] [zR 57] mem 2 243 Q
  refine wp_bipush dd_X5_init_5 (by decide) ?_
  show zw_Wp l mm_X5_init (58, zk L, f) 7 [some (zR 57)] [zI 81, zR 57] mem 2 243 Q
  refine wp_newaI (n := 81) rfl dd_X5_init_7 ac_int rfl (by intro k9; show mem 58 k9 = 0; (repeat rw [zu_row (by decide)]); exact hz 58 (by decide) (by decide) k9) (by show 58 < 1000; decide) (by decide) (by decide) ?_
  show zw_Wp l mm_X5_init (59, zk L, f) 9 [some (zR 57)] [zR 58, zR 57] mem 1 162 Q
  refine wp_putR dd_X5_init_9 pf_X5_11 rfl rfl rfl (by decide) (by show 57 < 59; decide) (by show 58 < 59; decide) (fun _ => rfl) (fun _ => rfl) ?_
  show zw_Wp l mm_X5_init (59, zk L, zur f 57 0 58) 12 [some (zR 57)] [] mem 1 162 Q
  refine wp_aload_n dd_X5_init_12 rfl ?_
  show zw_Wp l mm_X5_init (59, zk L, zur f 57 0 58) 13 [some (zR 57)] [zR 57] mem 1 162 Q
  refine wp_sipush dd_X5_init_13 (by decide) ?_
  show zw_Wp l mm_X5_init (59, zk L, zur f 57 0 58) 16 [some (zR 57)] [zI 162, zR 57] mem 1 162 Q
  refine wp_newaI (n := 162) rfl dd_X5_init_16 ac_int rfl (by intro k9; show mem 59 k9 = 0; (repeat rw [zu_row (by decide)]); exact hz 59 (by decide) (by decide) k9) (by show 59 < 1000; decide) (by decide) (by decide) ?_
  show zw_Wp l mm_X5_init (60, zk L, zur f 57 0 58) 18 [some (zR 57)] [zR 59, zR 57] mem 0 0 Q
  refine wp_putR dd_X5_init_18 pf_X5_15 rfl rfl rfl (by decide) (by show 57 < 60; decide) (by show 59 < 60; decide) (fun _ => rfl) (fun _ => rfl) ?_
  show zw_Wp l mm_X5_init (60, zk L, zur (zur f 57 0 58) 57 1 59) 21 [some (zR 57)] [] mem 0 0 Q
  refine wp_return (st := []) dd_X5_init_21 rfl ?_
  exact k

set_option maxRecDepth 100000 in
set_option maxHeartbeats 4000000 in
theorem in_X7 {l : Launch} {L : Nat} {mem : zMem} {f : Nat → Nat → Option Nat} {Q : zQ} (hz : ∀ a : Nat, 61 ≤ a → a < 1000 → ∀ k : Int, mem a k = 0) (k : Q none (63, zk L, zur (zur f 60 5 61) 60 6 62) mem) : zw_Ok l mm_X7_init [zR 60] (61, zk L, f) mem Q := by
  refine zw_enter (by decide) (Nat.le_of_ble_eq_true rfl) rfl ?_
  show zw_Wp l mm_X7_init (61, zk L, f) 0 [some (zR 60)] [] mem 2 10 Q
  refine wp_aload_n dd_X7_init_0 rfl ?_
  show zw_Wp l mm_X7_init (61, zk L, f) 1 [some (zR 60)] [zR 60] mem 2 10 Q
  refine wp_oinit dd_X7_init_1 lk_X7_3 oi_1 oi_2 (by decide) (by decide) ?_
  show zw_Wp l mm_X7_init (61, zk L, f) 4 [some (zR 60)] [] mem 2 10 Q
  refine wp_aload_n dd_X7_init_4 rfl ?_
  show zw_Wp l mm_X7_init (61, zk L, f) 5 [some (zR 60)] [zR 60] mem 2 10 Q
  refine wp_iconst dd_X7_init_5 (zr_lit rfl) ?_
  show zw_Wp l mm_X7_init (61, zk L, f) 6 [some (zR 60)] [zI 5, zR 60] mem 2 10 Q
  refine wp_newaI (n := 5) rfl dd_X7_init_6 ac_int rfl (by intro k9; show mem 61 k9 = 0; (repeat rw [zu_row (by decide)]); exact hz 61 (by decide) (by decide) k9) (by show 61 < 1000; decide) (by decide) (by decide) ?_
  show zw_Wp l mm_X7_init (62, zk L, f) 8 [some (zR 60)] [zR 61, zR 60] mem 1 5 Q
  refine wp_putR dd_X7_init_8 pf_X7_9 rfl rfl rfl (by decide) (by show 60 < 62; decide) (by show 61 < 62; decide) (fun _ => rfl) (fun _ => rfl) ?_
  show zw_Wp l mm_X7_init (62, zk L, zur f 60 5 61) 11 [some (zR 60)] [] mem 1 5 Q
  refine wp_aload_n dd_X7_init_11 rfl ?_
  show zw_Wp l mm_X7_init (62, zk L, zur f 60 5 61) 12 [some (zR 60)] [zR 60] mem 1 5 Q
  refine wp_iconst dd_X7_init_12 (zr_lit rfl) ?_
  show zw_Wp l mm_X7_init (62, zk L, zur f 60 5 61) 13 [some (zR 60)] [zI 5, zR 60] mem 1 5 Q
  refine wp_newaI (n := 5) rfl dd_X7_init_13 ac_int rfl (by intro k9; show mem 62 k9 = 0; (repeat rw [zu_row (by decide)]); exact hz 62 (by decide) (by decide) k9) (by show 62 < 1000; decide) (by decide) (by decide) ?_
  show zw_Wp l mm_X7_init (63, zk L, zur f 60 5 61) 15 [some (zR 60)] [zR 62, zR 60] mem 0 0 Q
  refine wp_putR dd_X7_init_15 pf_X7_15 rfl rfl rfl (by decide) (by show 60 < 63; decide) (by show 62 < 63; decide) (fun _ => rfl) (fun _ => rfl) ?_
  show zw_Wp l mm_X7_init (63, zk L, zur (zur f 60 5 61) 60 6 62) 18 [some (zR 60)] [] mem 0 0 Q
  refine wp_return (st := []) dd_X7_init_18 rfl ?_
  exact k

set_option maxRecDepth 100000 in
set_option maxHeartbeats 4000000 in
theorem in_X1 {l : Launch} {L : Nat} {mem : zMem} {f : Nat → Nat → Option Nat} {Q : zQ} (hz : ∀ a : Nat, 64 ≤ a → a < 1000 → ∀ k : Int, mem a k = 0) (k : Q none (66, zk L, zur (zur f 63 0 64) 63 1 65) (zu (zu (zu mem 64 0 (-1)) 64 1 (-1)) 64 2 (-1))) : zw_Ok l mm_X1_init [zR 63] (64, zk L, f) mem Q := by
  refine zw_enter (by decide) (Nat.le_of_ble_eq_true rfl) rfl ?_
  show zw_Wp l mm_X1_init (64, zk L, f) 0 [some (zR 63)] [] mem 2 123 Q
  refine wp_aload_n dd_X1_init_0 rfl ?_
  show zw_Wp l mm_X1_init (64, zk L, f) 1 [some (zR 63)] [zR 63] mem 2 123 Q
  refine wp_oinit dd_X1_init_1 lk_X1_3 oi_1 oi_2 (by decide) (by decide) ?_
  show zw_Wp l mm_X1_init (64, zk L, f) 4 [some (zR 63)] [] mem 2 123 Q
  refine wp_aload_n dd_X1_init_4 rfl ?_
  show zw_Wp l mm_X1_init (64, zk L, f) 5 [some (zR 63)] [zR 63] mem 2 123 Q
  refine wp_iconst dd_X1_init_5 (zr_lit rfl) ?_
  show zw_Wp l mm_X1_init (64, zk L, f) 6 [some (zR 63)] [zI 3, zR 63] mem 2 123 Q
  refine wp_newaI (n := 3) rfl dd_X1_init_6 ac_int rfl (by intro k9; show mem 64 k9 = 0; (repeat rw [zu_row (by decide)]); exact hz 64 (by decide) (by decide) k9) (by show 64 < 1000; decide) (by decide) (by decide) ?_
  show zw_Wp l mm_X1_init (65, zk L, f) 8 [some (zR 63)] [zR 64, zR 63] mem 1 120 Q
  refine wp_dup dd_X1_init_8 rfl ?_
  show zw_Wp l mm_X1_init (65, zk L, f) 9 [some (zR 63)] [zR 64, zR 64, zR 63] mem 1 120 Q
  refine wp_iconst dd_X1_init_9 (zr_lit rfl) ?_
  show zw_Wp l mm_X1_init (65, zk L, f) 10 [some (zR 63)] [zI 0, zR 64, zR 64, zR 63] mem 1 120 Q
  refine wp_iconst dd_X1_init_10 (zr_lit rfl) ?_
  show zw_Wp l mm_X1_init (65, zk L, f) 11 [some (zR 63)] [zI (-1), zI 0, zR 64, zR 64, zR 63] mem 1 120 Q
  refine wp_iast dd_X1_init_11 rfl (by show 64 < 65; decide) (by decide) (by decide) ?_
  show zw_Wp l mm_X1_init (65, zk L, f) 12 [some (zR 63)] [zR 64, zR 63] (zu mem 64 0 (-1)) 1 120 Q
  refine wp_dup dd_X1_init_12 rfl ?_
  show zw_Wp l mm_X1_init (65, zk L, f) 13 [some (zR 63)] [zR 64, zR 64, zR 63] (zu mem 64 0 (-1)) 1 120 Q
  refine wp_iconst dd_X1_init_13 (zr_lit rfl) ?_
  show zw_Wp l mm_X1_init (65, zk L, f) 14 [some (zR 63)] [zI 1, zR 64, zR 64, zR 63] (zu mem 64 0 (-1)) 1 120 Q
  refine wp_iconst dd_X1_init_14 (zr_lit rfl) ?_
  show zw_Wp l mm_X1_init (65, zk L, f) 15 [some (zR 63)] [zI (-1), zI 1, zR 64, zR 64, zR 63] (zu mem 64 0 (-1)) 1 120 Q
  refine wp_iast dd_X1_init_15 rfl (by show 64 < 65; decide) (by decide) (by decide) ?_
  show zw_Wp l mm_X1_init (65, zk L, f) 16 [some (zR 63)] [zR 64, zR 63] (zu (zu mem 64 0 (-1)) 64 1 (-1)) 1 120 Q
  refine wp_dup dd_X1_init_16 rfl ?_
  show zw_Wp l mm_X1_init (65, zk L, f) 17 [some (zR 63)] [zR 64, zR 64, zR 63] (zu (zu mem 64 0 (-1)) 64 1 (-1)) 1 120 Q
  refine wp_iconst dd_X1_init_17 (zr_lit rfl) ?_
  show zw_Wp l mm_X1_init (65, zk L, f) 18 [some (zR 63)] [zI 2, zR 64, zR 64, zR 63] (zu (zu mem 64 0 (-1)) 64 1 (-1)) 1 120 Q
  refine wp_iconst dd_X1_init_18 (zr_lit rfl) ?_
  show zw_Wp l mm_X1_init (65, zk L, f) 19 [some (zR 63)] [zI (-1), zI 2, zR 64, zR 64, zR 63] (zu (zu mem 64 0 (-1)) 64 1 (-1)) 1 120 Q
  refine wp_iast dd_X1_init_19 rfl (by show 64 < 65; decide) (by decide) (by decide) ?_
  show zw_Wp l mm_X1_init (65, zk L, f) 20 [some (zR 63)] [zR 64, zR 63] (zu (zu (zu mem 64 0 (-1)) 64 1 (-1)) 64 2 (-1)) 1 120 Q
  refine wp_putR dd_X1_init_20 pf_X1_11 rfl rfl rfl (by decide) (by show 63 < 65; decide) (by show 64 < 65; decide) (fun _ => rfl) (fun _ => rfl) ?_
  show zw_Wp l mm_X1_init (65, zk L, zur f 63 0 64) 23 [some (zR 63)] [] (zu (zu (zu mem 64 0 (-1)) 64 1 (-1)) 64 2 (-1)) 1 120 Q
  refine wp_aload_n dd_X1_init_23 rfl ?_
  show zw_Wp l mm_X1_init (65, zk L, zur f 63 0 64) 24 [some (zR 63)] [zR 63] (zu (zu (zu mem 64 0 (-1)) 64 1 (-1)) 64 2 (-1)) 1 120 Q
  refine wp_bipush dd_X1_init_24 (by decide) ?_
  show zw_Wp l mm_X1_init (65, zk L, zur f 63 0 64) 26 [some (zR 63)] [zI 120, zR 63] (zu (zu (zu mem 64 0 (-1)) 64 1 (-1)) 64 2 (-1)) 1 120 Q
  refine wp_newaI (n := 120) rfl dd_X1_init_26 ac_int rfl (by intro k9; show (zu (zu (zu mem 64 0 (-1)) 64 1 (-1)) 64 2 (-1)) 65 k9 = 0; (repeat rw [zu_row (by decide)]); exact hz 65 (by decide) (by decide) k9) (by show 65 < 1000; decide) (by decide) (by decide) ?_
  show zw_Wp l mm_X1_init (66, zk L, zur f 63 0 64) 28 [some (zR 63)] [zR 65, zR 63] (zu (zu (zu mem 64 0 (-1)) 64 1 (-1)) 64 2 (-1)) 0 0 Q
  refine wp_putR dd_X1_init_28 pf_X1_15 rfl rfl rfl (by decide) (by show 63 < 66; decide) (by show 65 < 66; decide) (fun _ => rfl) (fun _ => rfl) ?_
  show zw_Wp l mm_X1_init (66, zk L, zur (zur f 63 0 64) 63 1 65) 31 [some (zR 63)] [] (zu (zu (zu mem 64 0 (-1)) 64 1 (-1)) 64 2 (-1)) 0 0 Q
  refine wp_return (st := []) dd_X1_init_31 rfl ?_
  exact k

set_option maxRecDepth 100000 in
set_option maxHeartbeats 4000000 in
theorem in_X11 {l : Launch} {L : Nat} {mem : zMem} {f : Nat → Nat → Option Nat} {Q : zQ} (hz : ∀ a : Nat, 68 ≤ a → a < 1000 → ∀ k : Int, mem a k = 0) (k : Q none (89, zk L, zur (zur (zur (zur (zur (zur (zur (zur (zur (zur (zur (zur (zur (zur (zur (zur (zur (zur (zur (zur (zur f 67 0 68) 67 2 69) 67 3 70) 67 4 71) 67 6 72) 67 7 73) 67 9 74) 67 10 75) 67 13 76) 67 14 77) 67 17 78) 67 19 79) 67 20 80) 67 21 81) 67 22 82) 67 23 83) 67 26 84) 67 27 85) 67 30 86) 67 31 87) 67 32 88) (zu (zu (zu (zu (zu mem 67 1 7) 67 34 (-9)) 86 0 (-9)) 86 1 (-9)) 86 2 (-9))) : zw_Ok l mm_X11_init [zR 67] (68, zk L, f) mem Q := by
  refine zw_enter (by decide) (Nat.le_of_ble_eq_true rfl) rfl ?_
  show zw_Wp l mm_X11_init (68, zk L, f) 0 [some (zR 67), none] [] mem 21 12007 Q
  refine wp_aload_n dd_X11_init_0 rfl ?_
  show zw_Wp l mm_X11_init (68, zk L, f) 1 [some (zR 67), none] [zR 67] mem 21 12007 Q
  refine wp_oinit dd_X11_init_1 lk_X11_25 oi_1 oi_2 (by decide) (by decide) ?_
  show zw_Wp l mm_X11_init (68, zk L, f) 4 [some (zR 67), none] [] mem 21 12007 Q
  refine wp_aload_n dd_X11_init_4 rfl ?_
  show zw_Wp l mm_X11_init (68, zk L, f) 5 [some (zR 67), none] [zR 67] mem 21 12007 Q
  refine wp_bipush dd_X11_init_5 (by decide) ?_
  show zw_Wp l mm_X11_init (68, zk L, f) 7 [some (zR 67), none] [zI 7, zR 67] mem 21 12007 Q
  refine wp_newaI (n := 7) rfl dd_X11_init_7 ac_int rfl (by intro k9; show mem 68 k9 = 0; (repeat rw [zu_row (by decide)]); exact hz 68 (by decide) (by decide) k9) (by show 68 < 1000; decide) (by decide) (by decide) ?_
  show zw_Wp l mm_X11_init (69, zk L, f) 9 [some (zR 67), none] [zR 68, zR 67] mem 20 12000 Q
  refine wp_putR dd_X11_init_9 pf_X11_1 rfl rfl rfl (by decide) (by show 67 < 69; decide) (by show 68 < 69; decide) (fun _ => rfl) (fun _ => rfl) ?_
  show zw_Wp l mm_X11_init (69, zk L, zur f 67 0 68) 12 [some (zR 67), none] [] mem 20 12000 Q
  refine wp_aload_n dd_X11_init_12 rfl ?_
  show zw_Wp l mm_X11_init (69, zk L, zur f 67 0 68) 13 [some (zR 67), none] [zR 67] mem 20 12000 Q
  refine wp_bipush dd_X11_init_13 (by decide) ?_
  show zw_Wp l mm_X11_init (69, zk L, zur f 67 0 68) 15 [some (zR 67), none] [zI 7, zR 67] mem 20 12000 Q
  refine wp_putzI 1 rfl dd_X11_init_15 pf_X11_9 rfl rfl (by decide) (by show 67 < 69; decide) ?_
  show zw_Wp l mm_X11_init (69, zk L, zur f 67 0 68) 18 [some (zR 67), none] [] (zu mem 67 1 7) 20 12000 Q
  refine wp_aload_n dd_X11_init_18 rfl ?_
  show zw_Wp l mm_X11_init (69, zk L, zur f 67 0 68) 19 [some (zR 67), none] [zR 67] (zu mem 67 1 7) 20 12000 Q
  refine wp_sipush dd_X11_init_19 (by decide) ?_
  show zw_Wp l mm_X11_init (69, zk L, zur f 67 0 68) 22 [some (zR 67), none] [zI 150, zR 67] (zu mem 67 1 7) 20 12000 Q
  refine wp_newaI (n := 150) rfl dd_X11_init_22 ac_int rfl (by intro k9; show (zu mem 67 1 7) 69 k9 = 0; (repeat rw [zu_row (by decide)]); exact hz 69 (by decide) (by decide) k9) (by show 69 < 1000; decide) (by decide) (by decide) ?_
  show zw_Wp l mm_X11_init (70, zk L, zur f 67 0 68) 24 [some (zR 67), none] [zR 69, zR 67] (zu mem 67 1 7) 19 11850 Q
  refine wp_putR dd_X11_init_24 pf_X11_31 rfl rfl rfl (by decide) (by show 67 < 70; decide) (by show 69 < 70; decide) (fun _ => rfl) (fun _ => rfl) ?_
  show zw_Wp l mm_X11_init (70, zk L, zur (zur f 67 0 68) 67 2 69) 27 [some (zR 67), none] [] (zu mem 67 1 7) 19 11850 Q
  refine wp_aload_n dd_X11_init_27 rfl ?_
  show zw_Wp l mm_X11_init (70, zk L, zur (zur f 67 0 68) 67 2 69) 28 [some (zR 67), none] [zR 67] (zu mem 67 1 7) 19 11850 Q
  refine wp_bipush dd_X11_init_28 (by decide) ?_
  show zw_Wp l mm_X11_init (70, zk L, zur (zur f 67 0 68) 67 2 69) 30 [some (zR 67), none] [zI 6, zR 67] (zu mem 67 1 7) 19 11850 Q
  refine wp_newaI (n := 6) rfl dd_X11_init_30 ac_int rfl (by intro k9; show (zu mem 67 1 7) 70 k9 = 0; (repeat rw [zu_row (by decide)]); exact hz 70 (by decide) (by decide) k9) (by show 70 < 1000; decide) (by decide) (by decide) ?_
  show zw_Wp l mm_X11_init (71, zk L, zur (zur f 67 0 68) 67 2 69) 32 [some (zR 67), none] [zR 70, zR 67] (zu mem 67 1 7) 18 11844 Q
  refine wp_putR dd_X11_init_32 pf_X11_34 rfl rfl rfl (by decide) (by show 67 < 71; decide) (by show 70 < 71; decide) (fun _ => rfl) (fun _ => rfl) ?_
  show zw_Wp l mm_X11_init (71, zk L, zur (zur (zur f 67 0 68) 67 2 69) 67 3 70) 35 [some (zR 67), none] [] (zu mem 67 1 7) 18 11844 Q
  refine wp_aload_n dd_X11_init_35 rfl ?_
  show zw_Wp l mm_X11_init (71, zk L, zur (zur (zur f 67 0 68) 67 2 69) 67 3 70) 36 [some (zR 67), none] [zR 67] (zu mem 67 1 7) 18 11844 Q
  refine wp_bipush dd_X11_init_36 (by decide) ?_
  show zw_Wp l mm_X11_init (71, zk L, zur (zur (zur f 67 0 68) 67 2 69) 67 3 70) 38 [some (zR 67), none] [zI 6, zR 67] (zu mem 67 1 7) 18 11844 Q
  refine wp_newaI (n := 6) rfl dd_X11_init_38 ac_int rfl (by intro k9; show (zu mem 67 1 7) 71 k9 = 0; (repeat rw [zu_row (by decide)]); exact hz 71 (by decide) (by decide) k9) (by show 71 < 1000; decide) (by decide) (by decide) ?_
  show zw_Wp l mm_X11_init (72, zk L, zur (zur (zur f 67 0 68) 67 2 69) 67 3 70) 40 [some (zR 67), none] [zR 71, zR 67] (zu mem 67 1 7) 17 11838 Q
  refine wp_putR dd_X11_init_40 pf_X11_37 rfl rfl rfl (by decide) (by show 67 < 72; decide) (by show 71 < 72; decide) (fun _ => rfl) (fun _ => rfl) ?_
  show zw_Wp l mm_X11_init (72, zk L, zur (zur (zur (zur f 67 0 68) 67 2 69) 67 3 70) 67 4 71) 43 [some (zR 67), none] [] (zu mem 67 1 7) 17 11838 Q
  refine wp_aload_n dd_X11_init_43 rfl ?_
  show zw_Wp l mm_X11_init (72, zk L, zur (zur (zur (zur f 67 0 68) 67 2 69) 67 3 70) 67 4 71) 44 [some (zR 67), none] [zR 67] (zu mem 67 1 7) 17 11838 Q
  refine wp_bipush dd_X11_init_44 (by decide) ?_
  show zw_Wp l mm_X11_init (72, zk L, zur (zur (zur (zur f 67 0 68) 67 2 69) 67 3 70) 67 4 71) 46 [some (zR 67), none] [zI 16, zR 67] (zu mem 67 1 7) 17 11838 Q
  refine wp_newaI (n := 16) rfl dd_X11_init_46 ac_int rfl (by intro k9; show (zu mem 67 1 7) 72 k9 = 0; (repeat rw [zu_row (by decide)]); exact hz 72 (by decide) (by decide) k9) (by show 72 < 1000; decide) (by decide) (by decide) ?_
  show zw_Wp l mm_X11_init (73, zk L, zur (zur (zur (zur f 67 0 68) 67 2 69) 67 3 70) 67 4 71) 48 [some (zR 67), none] [zR 72, zR 67] (zu mem 67 1 7) 16 11822 Q
  refine wp_putR dd_X11_init_48 pf_X11_40 rfl rfl rfl (by decide) (by show 67 < 73; decide) (by show 72 < 73; decide) (fun _ => rfl) (fun _ => rfl) ?_
  show zw_Wp l mm_X11_init (73, zk L, zur (zur (zur (zur (zur f 67 0 68) 67 2 69) 67 3 70) 67 4 71) 67 6 72) 51 [some (zR 67), none] [] (zu mem 67 1 7) 16 11822 Q
  refine wp_aload_n dd_X11_init_51 rfl ?_
  show zw_Wp l mm_X11_init (73, zk L, zur (zur (zur (zur (zur f 67 0 68) 67 2 69) 67 3 70) 67 4 71) 67 6 72) 52 [some (zR 67), none] [zR 67] (zu mem 67 1 7) 16 11822 Q
  refine wp_bipush dd_X11_init_52 (by decide) ?_
  show zw_Wp l mm_X11_init (73, zk L, zur (zur (zur (zur (zur f 67 0 68) 67 2 69) 67 3 70) 67 4 71) 67 6 72) 54 [some (zR 67), none] [zI 16, zR 67] (zu mem 67 1 7) 16 11822 Q
  refine wp_newaI (n := 16) rfl dd_X11_init_54 ac_int rfl (by intro k9; show (zu mem 67 1 7) 73 k9 = 0; (repeat rw [zu_row (by decide)]); exact hz 73 (by decide) (by decide) k9) (by show 73 < 1000; decide) (by decide) (by decide) ?_
  show zw_Wp l mm_X11_init (74, zk L, zur (zur (zur (zur (zur f 67 0 68) 67 2 69) 67 3 70) 67 4 71) 67 6 72) 56 [some (zR 67), none] [zR 73, zR 67] (zu mem 67 1 7) 15 11806 Q
  refine wp_putR dd_X11_init_56 pf_X11_43 rfl rfl rfl (by decide) (by show 67 < 74; decide) (by show 73 < 74; decide) (fun _ => rfl) (fun _ => rfl) ?_
  show zw_Wp l mm_X11_init (74, zk L, zur (zur (zur (zur (zur (zur f 67 0 68) 67 2 69) 67 3 70) 67 4 71) 67 6 72) 67 7 73) 59 [some (zR 67), none] [] (zu mem 67 1 7) 15 11806 Q
  refine wp_aload_n dd_X11_init_59 rfl ?_
  show zw_Wp l mm_X11_init (74, zk L, zur (zur (zur (zur (zur (zur f 67 0 68) 67 2 69) 67 3 70) 67 4 71) 67 6 72) 67 7 73) 60 [some (zR 67), none] [zR 67] (zu mem 67 1 7) 15 11806 Q
  refine wp_bipush dd_X11_init_60 (by decide) ?_
  show zw_Wp l mm_X11_init (74, zk L, zur (zur (zur (zur (zur (zur f 67 0 68) 67 2 69) 67 3 70) 67 4 71) 67 6 72) 67 7 73) 62 [some (zR 67), none] [zI 72, zR 67] (zu mem 67 1 7) 15 11806 Q
  refine wp_newaI (n := 72) rfl dd_X11_init_62 ac_int rfl (by intro k9; show (zu mem 67 1 7) 74 k9 = 0; (repeat rw [zu_row (by decide)]); exact hz 74 (by decide) (by decide) k9) (by show 74 < 1000; decide) (by decide) (by decide) ?_
  show zw_Wp l mm_X11_init (75, zk L, zur (zur (zur (zur (zur (zur f 67 0 68) 67 2 69) 67 3 70) 67 4 71) 67 6 72) 67 7 73) 64 [some (zR 67), none] [zR 74, zR 67] (zu mem 67 1 7) 14 11734 Q
  refine wp_putR dd_X11_init_64 pf_X11_46 rfl rfl rfl (by decide) (by show 67 < 75; decide) (by show 74 < 75; decide) (fun _ => rfl) (fun _ => rfl) ?_
  show zw_Wp l mm_X11_init (75, zk L, zur (zur (zur (zur (zur (zur (zur f 67 0 68) 67 2 69) 67 3 70) 67 4 71) 67 6 72) 67 7 73) 67 9 74) 67 [some (zR 67), none] [] (zu mem 67 1 7) 14 11734 Q
  refine wp_aload_n dd_X11_init_67 rfl ?_
  show zw_Wp l mm_X11_init (75, zk L, zur (zur (zur (zur (zur (zur (zur f 67 0 68) 67 2 69) 67 3 70) 67 4 71) 67 6 72) 67 7 73) 67 9 74) 68 [some (zR 67), none] [zR 67] (zu mem 67 1 7) 14 11734 Q
  refine wp_bipush dd_X11_init_68 (by decide) ?_
  show zw_Wp l mm_X11_init (75, zk L, zur (zur (zur (zur (zur (zur (zur f 67 0 68) 67 2 69) 67 3 70) 67 4 71) 67 6 72) 67 7 73) 67 9 74) 70 [some (zR 67), none] [zI 25, zR 67] (zu mem 67 1 7) 14 11734 Q
  refine wp_newaI (n := 25) rfl dd_X11_init_70 ac_int rfl (by intro k9; show (zu mem 67 1 7) 75 k9 = 0; (repeat rw [zu_row (by decide)]); exact hz 75 (by decide) (by decide) k9) (by show 75 < 1000; decide) (by decide) (by decide) ?_
  show zw_Wp l mm_X11_init (76, zk L, zur (zur (zur (zur (zur (zur (zur f 67 0 68) 67 2 69) 67 3 70) 67 4 71) 67 6 72) 67 7 73) 67 9 74) 72 [some (zR 67), none] [zR 75, zR 67] (zu mem 67 1 7) 13 11709 Q
  refine wp_putR dd_X11_init_72 pf_X11_49 rfl rfl rfl (by decide) (by show 67 < 76; decide) (by show 75 < 76; decide) (fun _ => rfl) (fun _ => rfl) ?_
  show zw_Wp l mm_X11_init (76, zk L, zur (zur (zur (zur (zur (zur (zur (zur f 67 0 68) 67 2 69) 67 3 70) 67 4 71) 67 6 72) 67 7 73) 67 9 74) 67 10 75) 75 [some (zR 67), none] [] (zu mem 67 1 7) 13 11709 Q
  refine wp_aload_n dd_X11_init_75 rfl ?_
  show zw_Wp l mm_X11_init (76, zk L, zur (zur (zur (zur (zur (zur (zur (zur f 67 0 68) 67 2 69) 67 3 70) 67 4 71) 67 6 72) 67 7 73) 67 9 74) 67 10 75) 76 [some (zR 67), none] [zR 67] (zu mem 67 1 7) 13 11709 Q
  refine wp_bipush dd_X11_init_76 (by decide) ?_
  show zw_Wp l mm_X11_init (76, zk L, zur (zur (zur (zur (zur (zur (zur (zur f 67 0 68) 67 2 69) 67 3 70) 67 4 71) 67 6 72) 67 7 73) 67 9 74) 67 10 75) 78 [some (zR 67), none] [zI 25, zR 67] (zu mem 67 1 7) 13 11709 Q
  refine wp_newaI (n := 25) rfl dd_X11_init_78 ac_int rfl (by intro k9; show (zu mem 67 1 7) 76 k9 = 0; (repeat rw [zu_row (by decide)]); exact hz 76 (by decide) (by decide) k9) (by show 76 < 1000; decide) (by decide) (by decide) ?_
  show zw_Wp l mm_X11_init (77, zk L, zur (zur (zur (zur (zur (zur (zur (zur f 67 0 68) 67 2 69) 67 3 70) 67 4 71) 67 6 72) 67 7 73) 67 9 74) 67 10 75) 80 [some (zR 67), none] [zR 76, zR 67] (zu mem 67 1 7) 12 11684 Q
  refine wp_putR dd_X11_init_80 pf_X11_52 rfl rfl rfl (by decide) (by show 67 < 77; decide) (by show 76 < 77; decide) (fun _ => rfl) (fun _ => rfl) ?_
  show zw_Wp l mm_X11_init (77, zk L, zur (zur (zur (zur (zur (zur (zur (zur (zur f 67 0 68) 67 2 69) 67 3 70) 67 4 71) 67 6 72) 67 7 73) 67 9 74) 67 10 75) 67 13 76) 83 [some (zR 67), none] [] (zu mem 67 1 7) 12 11684 Q
  refine wp_aload_n dd_X11_init_83 rfl ?_
  show zw_Wp l mm_X11_init (77, zk L, zur (zur (zur (zur (zur (zur (zur (zur (zur f 67 0 68) 67 2 69) 67 3 70) 67 4 71) 67 6 72) 67 7 73) 67 9 74) 67 10 75) 67 13 76) 84 [some (zR 67), none] [zR 67] (zu mem 67 1 7) 12 11684 Q
  refine wp_bipush dd_X11_init_84 (by decide) ?_
  show zw_Wp l mm_X11_init (77, zk L, zur (zur (zur (zur (zur (zur (zur (zur (zur f 67 0 68) 67 2 69) 67 3 70) 67 4 71) 67 6 72) 67 7 73) 67 9 74) 67 10 75) 67 13 76) 86 [some (zR 67), none] [zI 25, zR 67] (zu mem 67 1 7) 12 11684 Q
  refine wp_newaI (n := 25) rfl dd_X11_init_86 ac_int rfl (by intro k9; show (zu mem 67 1 7) 77 k9 = 0; (repeat rw [zu_row (by decide)]); exact hz 77 (by decide) (by decide) k9) (by show 77 < 1000; decide) (by decide) (by decide) ?_
  show zw_Wp l mm_X11_init (78, zk L, zur (zur (zur (zur (zur (zur (zur (zur (zur f 67 0 68) 67 2 69) 67 3 70) 67 4 71) 67 6 72) 67 7 73) 67 9 74) 67 10 75) 67 13 76) 88 [some (zR 67), none] [zR 77, zR 67] (zu mem 67 1 7) 11 11659 Q
  refine wp_putR dd_X11_init_88 pf_X11_55 rfl rfl rfl (by decide) (by show 67 < 78; decide) (by show 77 < 78; decide) (fun _ => rfl) (fun _ => rfl) ?_
  show zw_Wp l mm_X11_init (78, zk L, zur (zur (zur (zur (zur (zur (zur (zur (zur (zur f 67 0 68) 67 2 69) 67 3 70) 67 4 71) 67 6 72) 67 7 73) 67 9 74) 67 10 75) 67 13 76) 67 14 77) 91 [some (zR 67), none] [] (zu mem 67 1 7) 11 11659 Q
  refine wp_aload_n dd_X11_init_91 rfl ?_
  show zw_Wp l mm_X11_init (78, zk L, zur (zur (zur (zur (zur (zur (zur (zur (zur (zur f 67 0 68) 67 2 69) 67 3 70) 67 4 71) 67 6 72) 67 7 73) 67 9 74) 67 10 75) 67 13 76) 67 14 77) 92 [some (zR 67), none] [zR 67] (zu mem 67 1 7) 11 11659 Q
  refine wp_sipush dd_X11_init_92 (by decide) ?_
  show zw_Wp l mm_X11_init (78, zk L, zur (zur (zur (zur (zur (zur (zur (zur (zur (zur f 67 0 68) 67 2 69) 67 3 70) 67 4 71) 67 6 72) 67 7 73) 67 9 74) 67 10 75) 67 13 76) 67 14 77) 95 [some (zR 67), none] [zI 576, zR 67] (zu mem 67 1 7) 11 11659 Q
  refine wp_newaI (n := 576) rfl dd_X11_init_95 ac_int rfl (by intro k9; show (zu mem 67 1 7) 78 k9 = 0; (repeat rw [zu_row (by decide)]); exact hz 78 (by decide) (by decide) k9) (by show 78 < 1000; decide) (by decide) (by decide) ?_
  show zw_Wp l mm_X11_init (79, zk L, zur (zur (zur (zur (zur (zur (zur (zur (zur (zur f 67 0 68) 67 2 69) 67 3 70) 67 4 71) 67 6 72) 67 7 73) 67 9 74) 67 10 75) 67 13 76) 67 14 77) 97 [some (zR 67), none] [zR 78, zR 67] (zu mem 67 1 7) 10 11083 Q
  refine wp_putR dd_X11_init_97 pf_X11_58 rfl rfl rfl (by decide) (by show 67 < 79; decide) (by show 78 < 79; decide) (fun _ => rfl) (fun _ => rfl) ?_
  show zw_Wp l mm_X11_init (79, zk L, zur (zur (zur (zur (zur (zur (zur (zur (zur (zur (zur f 67 0 68) 67 2 69) 67 3 70) 67 4 71) 67 6 72) 67 7 73) 67 9 74) 67 10 75) 67 13 76) 67 14 77) 67 17 78) 100 [some (zR 67), none] [] (zu mem 67 1 7) 10 11083 Q
  refine wp_aload_n dd_X11_init_100 rfl ?_
  show zw_Wp l mm_X11_init (79, zk L, zur (zur (zur (zur (zur (zur (zur (zur (zur (zur (zur f 67 0 68) 67 2 69) 67 3 70) 67 4 71) 67 6 72) 67 7 73) 67 9 74) 67 10 75) 67 13 76) 67 14 77) 67 17 78) 101 [some (zR 67), none] [zR 67] (zu mem 67 1 7) 10 11083 Q
  refine wp_sipush dd_X11_init_101 (by decide) ?_
  show zw_Wp l mm_X11_init (79, zk L, zur (zur (zur (zur (zur (zur (zur (zur (zur (zur (zur f 67 0 68) 67 2 69) 67 3 70) 67 4 71) 67 6 72) 67 7 73) 67 9 74) 67 10 75) 67 13 76) 67 14 77) 67 17 78) 104 [some (zR 67), none] [zI 10496, zR 67] (zu mem 67 1 7) 10 11083 Q
  refine wp_newaI (n := 10496) rfl dd_X11_init_104 ac_int rfl (by intro k9; show (zu mem 67 1 7) 79 k9 = 0; (repeat rw [zu_row (by decide)]); exact hz 79 (by decide) (by decide) k9) (by show 79 < 1000; decide) (by decide) (by decide) ?_
  show zw_Wp l mm_X11_init (80, zk L, zur (zur (zur (zur (zur (zur (zur (zur (zur (zur (zur f 67 0 68) 67 2 69) 67 3 70) 67 4 71) 67 6 72) 67 7 73) 67 9 74) 67 10 75) 67 13 76) 67 14 77) 67 17 78) 106 [some (zR 67), none] [zR 79, zR 67] (zu mem 67 1 7) 9 587 Q
  refine wp_putR dd_X11_init_106 pf_X11_61 rfl rfl rfl (by decide) (by show 67 < 80; decide) (by show 79 < 80; decide) (fun _ => rfl) (fun _ => rfl) ?_
  show zw_Wp l mm_X11_init (80, zk L, zur (zur (zur (zur (zur (zur (zur (zur (zur (zur (zur (zur f 67 0 68) 67 2 69) 67 3 70) 67 4 71) 67 6 72) 67 7 73) 67 9 74) 67 10 75) 67 13 76) 67 14 77) 67 17 78) 67 19 79) 109 [some (zR 67), none] [] (zu mem 67 1 7) 9 587 Q
  refine wp_aload_n dd_X11_init_109 rfl ?_
  show zw_Wp l mm_X11_init (80, zk L, zur (zur (zur (zur (zur (zur (zur (zur (zur (zur (zur (zur f 67 0 68) 67 2 69) 67 3 70) 67 4 71) 67 6 72) 67 7 73) 67 9 74) 67 10 75) 67 13 76) 67 14 77) 67 17 78) 67 19 79) 110 [some (zR 67), none] [zR 67] (zu mem 67 1 7) 9 587 Q
  refine wp_bipush dd_X11_init_110 (by decide) ?_
  show zw_Wp l mm_X11_init (80, zk L, zur (zur (zur (zur (zur (zur (zur (zur (zur (zur (zur (zur f 67 0 68) 67 2 69) 67 3 70) 67 4 71) 67 6 72) 67 7 73) 67 9 74) 67 10 75) 67 13 76) 67 14 77) 67 17 78) 67 19 79) 112 [some (zR 67), none] [zI 41, zR 67] (zu mem 67 1 7) 9 587 Q
  refine wp_newaI (n := 41) rfl dd_X11_init_112 ac_int rfl (by intro k9; show (zu mem 67 1 7) 80 k9 = 0; (repeat rw [zu_row (by decide)]); exact hz 80 (by decide) (by decide) k9) (by show 80 < 1000; decide) (by decide) (by decide) ?_
  show zw_Wp l mm_X11_init (81, zk L, zur (zur (zur (zur (zur (zur (zur (zur (zur (zur (zur (zur f 67 0 68) 67 2 69) 67 3 70) 67 4 71) 67 6 72) 67 7 73) 67 9 74) 67 10 75) 67 13 76) 67 14 77) 67 17 78) 67 19 79) 114 [some (zR 67), none] [zR 80, zR 67] (zu mem 67 1 7) 8 546 Q
  refine wp_putR dd_X11_init_114 pf_X11_64 rfl rfl rfl (by decide) (by show 67 < 81; decide) (by show 80 < 81; decide) (fun _ => rfl) (fun _ => rfl) ?_
  show zw_Wp l mm_X11_init (81, zk L, zur (zur (zur (zur (zur (zur (zur (zur (zur (zur (zur (zur (zur f 67 0 68) 67 2 69) 67 3 70) 67 4 71) 67 6 72) 67 7 73) 67 9 74) 67 10 75) 67 13 76) 67 14 77) 67 17 78) 67 19 79) 67 20 80) 117 [some (zR 67), none] [] (zu mem 67 1 7) 8 546 Q
  refine wp_aload_n dd_X11_init_117 rfl ?_
  show zw_Wp l mm_X11_init (81, zk L, zur (zur (zur (zur (zur (zur (zur (zur (zur (zur (zur (zur (zur f 67 0 68) 67 2 69) 67 3 70) 67 4 71) 67 6 72) 67 7 73) 67 9 74) 67 10 75) 67 13 76) 67 14 77) 67 17 78) 67 19 79) 67 20 80) 118 [some (zR 67), none] [zR 67] (zu mem 67 1 7) 8 546 Q
  refine wp_iconst dd_X11_init_118 (zr_lit rfl) ?_
  show zw_Wp l mm_X11_init (81, zk L, zur (zur (zur (zur (zur (zur (zur (zur (zur (zur (zur (zur (zur f 67 0 68) 67 2 69) 67 3 70) 67 4 71) 67 6 72) 67 7 73) 67 9 74) 67 10 75) 67 13 76) 67 14 77) 67 17 78) 67 19 79) 67 20 80) 119 [some (zR 67), none] [zI 5, zR 67] (zu mem 67 1 7) 8 546 Q
  refine wp_newaI (n := 5) rfl dd_X11_init_119 ac_int rfl (by intro k9; show (zu mem 67 1 7) 81 k9 = 0; (repeat rw [zu_row (by decide)]); exact hz 81 (by decide) (by decide) k9) (by show 81 < 1000; decide) (by decide) (by decide) ?_
  show zw_Wp l mm_X11_init (82, zk L, zur (zur (zur (zur (zur (zur (zur (zur (zur (zur (zur (zur (zur f 67 0 68) 67 2 69) 67 3 70) 67 4 71) 67 6 72) 67 7 73) 67 9 74) 67 10 75) 67 13 76) 67 14 77) 67 17 78) 67 19 79) 67 20 80) 121 [some (zR 67), none] [zR 81, zR 67] (zu mem 67 1 7) 7 541 Q
  refine wp_putR dd_X11_init_121 pf_X11_67 rfl rfl rfl (by decide) (by show 67 < 82; decide) (by show 81 < 82; decide) (fun _ => rfl) (fun _ => rfl) ?_
  show zw_Wp l mm_X11_init (82, zk L, zur (zur (zur (zur (zur (zur (zur (zur (zur (zur (zur (zur (zur (zur f 67 0 68) 67 2 69) 67 3 70) 67 4 71) 67 6 72) 67 7 73) 67 9 74) 67 10 75) 67 13 76) 67 14 77) 67 17 78) 67 19 79) 67 20 80) 67 21 81) 124 [some (zR 67), none] [] (zu mem 67 1 7) 7 541 Q
  refine wp_aload_n dd_X11_init_124 rfl ?_
  show zw_Wp l mm_X11_init (82, zk L, zur (zur (zur (zur (zur (zur (zur (zur (zur (zur (zur (zur (zur (zur f 67 0 68) 67 2 69) 67 3 70) 67 4 71) 67 6 72) 67 7 73) 67 9 74) 67 10 75) 67 13 76) 67 14 77) 67 17 78) 67 19 79) 67 20 80) 67 21 81) 125 [some (zR 67), none] [zR 67] (zu mem 67 1 7) 7 541 Q
  refine wp_iconst dd_X11_init_125 (zr_lit rfl) ?_
  show zw_Wp l mm_X11_init (82, zk L, zur (zur (zur (zur (zur (zur (zur (zur (zur (zur (zur (zur (zur (zur f 67 0 68) 67 2 69) 67 3 70) 67 4 71) 67 6 72) 67 7 73) 67 9 74) 67 10 75) 67 13 76) 67 14 77) 67 17 78) 67 19 79) 67 20 80) 67 21 81) 126 [some (zR 67), none] [zI 5, zR 67] (zu mem 67 1 7) 7 541 Q
  refine wp_newaI (n := 5) rfl dd_X11_init_126 ac_int rfl (by intro k9; show (zu mem 67 1 7) 82 k9 = 0; (repeat rw [zu_row (by decide)]); exact hz 82 (by decide) (by decide) k9) (by show 82 < 1000; decide) (by decide) (by decide) ?_
  show zw_Wp l mm_X11_init (83, zk L, zur (zur (zur (zur (zur (zur (zur (zur (zur (zur (zur (zur (zur (zur f 67 0 68) 67 2 69) 67 3 70) 67 4 71) 67 6 72) 67 7 73) 67 9 74) 67 10 75) 67 13 76) 67 14 77) 67 17 78) 67 19 79) 67 20 80) 67 21 81) 128 [some (zR 67), none] [zR 82, zR 67] (zu mem 67 1 7) 6 536 Q
  refine wp_putR dd_X11_init_128 pf_X11_70 rfl rfl rfl (by decide) (by show 67 < 83; decide) (by show 82 < 83; decide) (fun _ => rfl) (fun _ => rfl) ?_
  show zw_Wp l mm_X11_init (83, zk L, zur (zur (zur (zur (zur (zur (zur (zur (zur (zur (zur (zur (zur (zur (zur f 67 0 68) 67 2 69) 67 3 70) 67 4 71) 67 6 72) 67 7 73) 67 9 74) 67 10 75) 67 13 76) 67 14 77) 67 17 78) 67 19 79) 67 20 80) 67 21 81) 67 22 82) 131 [some (zR 67), none] [] (zu mem 67 1 7) 6 536 Q
  refine wp_aload_n dd_X11_init_131 rfl ?_
  show zw_Wp l mm_X11_init (83, zk L, zur (zur (zur (zur (zur (zur (zur (zur (zur (zur (zur (zur (zur (zur (zur f 67 0 68) 67 2 69) 67 3 70) 67 4 71) 67 6 72) 67 7 73) 67 9 74) 67 10 75) 67 13 76) 67 14 77) 67 17 78) 67 19 79) 67 20 80) 67 21 81) 67 22 82) 132 [some (zR 67), none] [zR 67] (zu mem 67 1 7) 6 536 Q
  refine wp_bipush dd_X11_init_132 (by decide) ?_
  show zw_Wp l mm_X11_init (83, zk L, zur (zur (zur (zur (zur (zur (zur (zur (zur (zur (zur (zur (zur (zur (zur f 67 0 68) 67 2 69) 67 3 70) 67 4 71) 67 6 72) 67 7 73) 67 9 74) 67 10 75) 67 13 76) 67 14 77) 67 17 78) 67 19 79) 67 20 80) 67 21 81) 67 22 82) 134 [some (zR 67), none] [zI 9, zR 67] (zu mem 67 1 7) 6 536 Q
  refine wp_newaI (n := 9) rfl dd_X11_init_134 ac_int rfl (by intro k9; show (zu mem 67 1 7) 83 k9 = 0; (repeat rw [zu_row (by decide)]); exact hz 83 (by decide) (by decide) k9) (by show 83 < 1000; decide) (by decide) (by decide) ?_
  show zw_Wp l mm_X11_init (84, zk L, zur (zur (zur (zur (zur (zur (zur (zur (zur (zur (zur (zur (zur (zur (zur f 67 0 68) 67 2 69) 67 3 70) 67 4 71) 67 6 72) 67 7 73) 67 9 74) 67 10 75) 67 13 76) 67 14 77) 67 17 78) 67 19 79) 67 20 80) 67 21 81) 67 22 82) 136 [some (zR 67), none] [zR 83, zR 67] (zu mem 67 1 7) 5 527 Q
  refine wp_putR dd_X11_init_136 pf_X11_73 rfl rfl rfl (by decide) (by show 67 < 84; decide) (by show 83 < 84; decide) (fun _ => rfl) (fun _ => rfl) ?_
  show zw_Wp l mm_X11_init (84, zk L, zur (zur (zur (zur (zur (zur (zur (zur (zur (zur (zur (zur (zur (zur (zur (zur f 67 0 68) 67 2 69) 67 3 70) 67 4 71) 67 6 72) 67 7 73) 67 9 74) 67 10 75) 67 13 76) 67 14 77) 67 17 78) 67 19 79) 67 20 80) 67 21 81) 67 22 82) 67 23 83) 139 [some (zR 67), none] [] (zu mem 67 1 7) 5 527 Q
  refine wp_aload_n dd_X11_init_139 rfl ?_
  show zw_Wp l mm_X11_init (84, zk L, zur (zur (zur (zur (zur (zur (zur (zur (zur (zur (zur (zur (zur (zur (zur (zur f 67 0 68) 67 2 69) 67 3 70) 67 4 71) 67 6 72) 67 7 73) 67 9 74) 67 10 75) 67 13 76) 67 14 77) 67 17 78) 67 19 79) 67 20 80) 67 21 81) 67 22 82) 67 23 83) 140 [some (zR 67), none] [zR 67] (zu mem 67 1 7) 5 527 Q
  refine wp_sipush dd_X11_init_140 (by decide) ?_
  show zw_Wp l mm_X11_init (84, zk L, zur (zur (zur (zur (zur (zur (zur (zur (zur (zur (zur (zur (zur (zur (zur (zur f 67 0 68) 67 2 69) 67 3 70) 67 4 71) 67 6 72) 67 7 73) 67 9 74) 67 10 75) 67 13 76) 67 14 77) 67 17 78) 67 19 79) 67 20 80) 67 21 81) 67 22 82) 67 23 83) 143 [some (zR 67), none] [zI 144, zR 67] (zu mem 67 1 7) 5 527 Q
  refine wp_newaZ (n := 144) rfl dd_X11_init_143 ac_bool rfl (by intro k9; show (zu mem 67 1 7) 84 k9 = 0; (repeat rw [zu_row (by decide)]); exact hz 84 (by decide) (by decide) k9) (by show 84 < 1000; decide) (by decide) (by decide) ?_
  show zw_Wp l mm_X11_init (85, zk L, zur (zur (zur (zur (zur (zur (zur (zur (zur (zur (zur (zur (zur (zur (zur (zur f 67 0 68) 67 2 69) 67 3 70) 67 4 71) 67 6 72) 67 7 73) 67 9 74) 67 10 75) 67 13 76) 67 14 77) 67 17 78) 67 19 79) 67 20 80) 67 21 81) 67 22 82) 67 23 83) 145 [some (zR 67), none] [zR 84, zR 67] (zu mem 67 1 7) 4 383 Q
  refine wp_putR dd_X11_init_145 pf_X11_76 rfl rfl rfl (by decide) (by show 67 < 85; decide) (by show 84 < 85; decide) (fun _ => rfl) (fun _ => rfl) ?_
  show zw_Wp l mm_X11_init (85, zk L, zur (zur (zur (zur (zur (zur (zur (zur (zur (zur (zur (zur (zur (zur (zur (zur (zur f 67 0 68) 67 2 69) 67 3 70) 67 4 71) 67 6 72) 67 7 73) 67 9 74) 67 10 75) 67 13 76) 67 14 77) 67 17 78) 67 19 79) 67 20 80) 67 21 81) 67 22 82) 67 23 83) 67 26 84) 148 [some (zR 67), none] [] (zu mem 67 1 7) 4 383 Q
  refine wp_aload_n dd_X11_init_148 rfl ?_
  show zw_Wp l mm_X11_init (85, zk L, zur (zur (zur (zur (zur (zur (zur (zur (zur (zur (zur (zur (zur (zur (zur (zur (zur f 67 0 68) 67 2 69) 67 3 70) 67 4 71) 67 6 72) 67 7 73) 67 9 74) 67 10 75) 67 13 76) 67 14 77) 67 17 78) 67 19 79) 67 20 80) 67 21 81) 67 22 82) 67 23 83) 67 26 84) 149 [some (zR 67), none] [zR 67] (zu mem 67 1 7) 4 383 Q
  refine wp_bipush dd_X11_init_149 (by decide) ?_
  show zw_Wp l mm_X11_init (85, zk L, zur (zur (zur (zur (zur (zur (zur (zur (zur (zur (zur (zur (zur (zur (zur (zur (zur f 67 0 68) 67 2 69) 67 3 70) 67 4 71) 67 6 72) 67 7 73) 67 9 74) 67 10 75) 67 13 76) 67 14 77) 67 17 78) 67 19 79) 67 20 80) 67 21 81) 67 22 82) 67 23 83) 67 26 84) 151 [some (zR 67), none] [zI 90, zR 67] (zu mem 67 1 7) 4 383 Q
  refine wp_newaI (n := 90) rfl dd_X11_init_151 ac_int rfl (by intro k9; show (zu mem 67 1 7) 85 k9 = 0; (repeat rw [zu_row (by decide)]); exact hz 85 (by decide) (by decide) k9) (by show 85 < 1000; decide) (by decide) (by decide) ?_
  show zw_Wp l mm_X11_init (86, zk L, zur (zur (zur (zur (zur (zur (zur (zur (zur (zur (zur (zur (zur (zur (zur (zur (zur f 67 0 68) 67 2 69) 67 3 70) 67 4 71) 67 6 72) 67 7 73) 67 9 74) 67 10 75) 67 13 76) 67 14 77) 67 17 78) 67 19 79) 67 20 80) 67 21 81) 67 22 82) 67 23 83) 67 26 84) 153 [some (zR 67), none] [zR 85, zR 67] (zu mem 67 1 7) 3 293 Q
  refine wp_putR dd_X11_init_153 pf_X11_80 rfl rfl rfl (by decide) (by show 67 < 86; decide) (by show 85 < 86; decide) (fun _ => rfl) (fun _ => rfl) ?_
  show zw_Wp l mm_X11_init (86, zk L, zur (zur (zur (zur (zur (zur (zur (zur (zur (zur (zur (zur (zur (zur (zur (zur (zur (zur f 67 0 68) 67 2 69) 67 3 70) 67 4 71) 67 6 72) 67 7 73) 67 9 74) 67 10 75) 67 13 76) 67 14 77) 67 17 78) 67 19 79) 67 20 80) 67 21 81) 67 22 82) 67 23 83) 67 26 84) 67 27 85) 156 [some (zR 67), none] [] (zu mem 67 1 7) 3 293 Q
  refine wp_aload_n dd_X11_init_156 rfl ?_
  show zw_Wp l mm_X11_init (86, zk L, zur (zur (zur (zur (zur (zur (zur (zur (zur (zur (zur (zur (zur (zur (zur (zur (zur (zur f 67 0 68) 67 2 69) 67 3 70) 67 4 71) 67 6 72) 67 7 73) 67 9 74) 67 10 75) 67 13 76) 67 14 77) 67 17 78) 67 19 79) 67 20 80) 67 21 81) 67 22 82) 67 23 83) 67 26 84) 67 27 85) 157 [some (zR 67), none] [zR 67] (zu mem 67 1 7) 3 293 Q
  refine wp_iconst dd_X11_init_157 (zr_lit rfl) ?_
  show zw_Wp l mm_X11_init (86, zk L, zur (zur (zur (zur (zur (zur (zur (zur (zur (zur (zur (zur (zur (zur (zur (zur (zur (zur f 67 0 68) 67 2 69) 67 3 70) 67 4 71) 67 6 72) 67 7 73) 67 9 74) 67 10 75) 67 13 76) 67 14 77) 67 17 78) 67 19 79) 67 20 80) 67 21 81) 67 22 82) 67 23 83) 67 26 84) 67 27 85) 158 [some (zR 67), none] [zI 3, zR 67] (zu mem 67 1 7) 3 293 Q
  refine wp_newaI (n := 3) rfl dd_X11_init_158 ac_int rfl (by intro k9; show (zu mem 67 1 7) 86 k9 = 0; (repeat rw [zu_row (by decide)]); exact hz 86 (by decide) (by decide) k9) (by show 86 < 1000; decide) (by decide) (by decide) ?_
  show zw_Wp l mm_X11_init (87, zk L, zur (zur (zur (zur (zur (zur (zur (zur (zur (zur (zur (zur (zur (zur (zur (zur (zur (zur f 67 0 68) 67 2 69) 67 3 70) 67 4 71) 67 6 72) 67 7 73) 67 9 74) 67 10 75) 67 13 76) 67 14 77) 67 17 78) 67 19 79) 67 20 80) 67 21 81) 67 22 82) 67 23 83) 67 26 84) 67 27 85) 160 [some (zR 67), none] [zR 86, zR 67] (zu mem 67 1 7) 2 290 Q
  refine wp_putR dd_X11_init_160 pf_X11_83 rfl rfl rfl (by decide) (by show 67 < 87; decide) (by show 86 < 87; decide) (fun _ => rfl) (fun _ => rfl) ?_
  show zw_Wp l mm_X11_init (87, zk L, zur (zur (zur (zur (zur (zur (zur (zur (zur (zur (zur (zur (zur (zur (zur (zur (zur (zur (zur f 67 0 68) 67 2 69) 67 3 70) 67 4 71) 67 6 72) 67 7 73) 67 9 74) 67 10 75) 67 13 76) 67 14 77) 67 17 78) 67 19 79) 67 20 80) 67 21 81) 67 22 82) 67 23 83) 67 26 84) 67 27 85) 67 30 86) 163 [some (zR 67), none] [] (zu mem 67 1 7) 2 290 Q
  refine wp_aload_n dd_X11_init_163 rfl ?_
  show zw_Wp l mm_X11_init (87, zk L, zur (zur (zur (zur (zur (zur (zur (zur (zur (zur (zur (zur (zur (zur (zur (zur (zur (zur (zur f 67 0 68) 67 2 69) 67 3 70) 67 4 71) 67 6 72) 67 7 73) 67 9 74) 67 10 75) 67 13 76) 67 14 77) 67 17 78) 67 19 79) 67 20 80) 67 21 81) 67 22 82) 67 23 83) 67 26 84) 67 27 85) 67 30 86) 164 [some (zR 67), none] [zR 67] (zu mem 67 1 7) 2 290 Q
  refine wp_bipush dd_X11_init_164 (by decide) ?_
  show zw_Wp l mm_X11_init (87, zk L, zur (zur (zur (zur (zur (zur (zur (zur (zur (zur (zur (zur (zur (zur (zur (zur (zur (zur (zur f 67 0 68) 67 2 69) 67 3 70) 67 4 71) 67 6 72) 67 7 73) 67 9 74) 67 10 75) 67 13 76) 67 14 77) 67 17 78) 67 19 79) 67 20 80) 67 21 81) 67 22 82) 67 23 83) 67 26 84) 67 27 85) 67 30 86) 166 [some (zR 67), none] [zI 120, zR 67] (zu mem 67 1 7) 2 290 Q
  refine wp_newaI (n := 120) rfl dd_X11_init_166 ac_int rfl (by intro k9; show (zu mem 67 1 7) 87 k9 = 0; (repeat rw [zu_row (by decide)]); exact hz 87 (by decide) (by decide) k9) (by show 87 < 1000; decide) (by decide) (by decide) ?_
  show zw_Wp l mm_X11_init (88, zk L, zur (zur (zur (zur (zur (zur (zur (zur (zur (zur (zur (zur (zur (zur (zur (zur (zur (zur (zur f 67 0 68) 67 2 69) 67 3 70) 67 4 71) 67 6 72) 67 7 73) 67 9 74) 67 10 75) 67 13 76) 67 14 77) 67 17 78) 67 19 79) 67 20 80) 67 21 81) 67 22 82) 67 23 83) 67 26 84) 67 27 85) 67 30 86) 168 [some (zR 67), none] [zR 87, zR 67] (zu mem 67 1 7) 1 170 Q
  refine wp_putR dd_X11_init_168 pf_X11_86 rfl rfl rfl (by decide) (by show 67 < 88; decide) (by show 87 < 88; decide) (fun _ => rfl) (fun _ => rfl) ?_
  show zw_Wp l mm_X11_init (88, zk L, zur (zur (zur (zur (zur (zur (zur (zur (zur (zur (zur (zur (zur (zur (zur (zur (zur (zur (zur (zur f 67 0 68) 67 2 69) 67 3 70) 67 4 71) 67 6 72) 67 7 73) 67 9 74) 67 10 75) 67 13 76) 67 14 77) 67 17 78) 67 19 79) 67 20 80) 67 21 81) 67 22 82) 67 23 83) 67 26 84) 67 27 85) 67 30 86) 67 31 87) 171 [some (zR 67), none] [] (zu mem 67 1 7) 1 170 Q
  refine wp_aload_n dd_X11_init_171 rfl ?_
  show zw_Wp l mm_X11_init (88, zk L, zur (zur (zur (zur (zur (zur (zur (zur (zur (zur (zur (zur (zur (zur (zur (zur (zur (zur (zur (zur f 67 0 68) 67 2 69) 67 3 70) 67 4 71) 67 6 72) 67 7 73) 67 9 74) 67 10 75) 67 13 76) 67 14 77) 67 17 78) 67 19 79) 67 20 80) 67 21 81) 67 22 82) 67 23 83) 67 26 84) 67 27 85) 67 30 86) 67 31 87) 172 [some (zR 67), none] [zR 67] (zu mem 67 1 7) 1 170 Q
  refine wp_sipush dd_X11_init_172 (by decide) ?_
  show zw_Wp l mm_X11_init (88, zk L, zur (zur (zur (zur (zur (zur (zur (zur (zur (zur (zur (zur (zur (zur (zur (zur (zur (zur (zur (zur f 67 0 68) 67 2 69) 67 3 70) 67 4 71) 67 6 72) 67 7 73) 67 9 74) 67 10 75) 67 13 76) 67 14 77) 67 17 78) 67 19 79) 67 20 80) 67 21 81) 67 22 82) 67 23 83) 67 26 84) 67 27 85) 67 30 86) 67 31 87) 175 [some (zR 67), none] [zI 170, zR 67] (zu mem 67 1 7) 1 170 Q
  refine wp_newaI (n := 170) rfl dd_X11_init_175 ac_int rfl (by intro k9; show (zu mem 67 1 7) 88 k9 = 0; (repeat rw [zu_row (by decide)]); exact hz 88 (by decide) (by decide) k9) (by show 88 < 1000; decide) (by decide) (by decide) ?_
  show zw_Wp l mm_X11_init (89, zk L, zur (zur (zur (zur (zur (zur (zur (zur (zur (zur (zur (zur (zur (zur (zur (zur (zur (zur (zur (zur f 67 0 68) 67 2 69) 67 3 70) 67 4 71) 67 6 72) 67 7 73) 67 9 74) 67 10 75) 67 13 76) 67 14 77) 67 17 78) 67 19 79) 67 20 80) 67 21 81) 67 22 82) 67 23 83) 67 26 84) 67 27 85) 67 30 86) 67 31 87) 177 [some (zR 67), none] [zR 88, zR 67] (zu mem 67 1 7) 0 0 Q
  refine wp_putR dd_X11_init_177 pf_X11_89 rfl rfl rfl (by decide) (by show 67 < 89; decide) (by show 88 < 89; decide) (fun _ => rfl) (fun _ => rfl) ?_
  show zw_Wp l mm_X11_init (89, zk L, zur (zur (zur (zur (zur (zur (zur (zur (zur (zur (zur (zur (zur (zur (zur (zur (zur (zur (zur (zur (zur f 67 0 68) 67 2 69) 67 3 70) 67 4 71) 67 6 72) 67 7 73) 67 9 74) 67 10 75) 67 13 76) 67 14 77) 67 17 78) 67 19 79) 67 20 80) 67 21 81) 67 22 82) 67 23 83) 67 26 84) 67 27 85) 67 30 86) 67 31 87) 67 32 88) 180 [some (zR 67), none] [] (zu mem 67 1 7) 0 0 Q
  refine wp_aload_n dd_X11_init_180 rfl ?_
  show zw_Wp l mm_X11_init (89, zk L, zur (zur (zur (zur (zur (zur (zur (zur (zur (zur (zur (zur (zur (zur (zur (zur (zur (zur (zur (zur (zur f 67 0 68) 67 2 69) 67 3 70) 67 4 71) 67 6 72) 67 7 73) 67 9 74) 67 10 75) 67 13 76) 67 14 77) 67 17 78) 67 19 79) 67 20 80) 67 21 81) 67 22 82) 67 23 83) 67 26 84) 67 27 85) 67 30 86) 67 31 87) 67 32 88) 181 [some (zR 67), none] [zR 67] (zu mem 67 1 7) 0 0 Q
  refine wp_bipush dd_X11_init_181 (by decide) ?_
  show zw_Wp l mm_X11_init (89, zk L, zur (zur (zur (zur (zur (zur (zur (zur (zur (zur (zur (zur (zur (zur (zur (zur (zur (zur (zur (zur (zur f 67 0 68) 67 2 69) 67 3 70) 67 4 71) 67 6 72) 67 7 73) 67 9 74) 67 10 75) 67 13 76) 67 14 77) 67 17 78) 67 19 79) 67 20 80) 67 21 81) 67 22 82) 67 23 83) 67 26 84) 67 27 85) 67 30 86) 67 31 87) 67 32 88) 183 [some (zR 67), none] [zI (-9), zR 67] (zu mem 67 1 7) 0 0 Q
  refine wp_putzI 34 rfl dd_X11_init_183 pf_X11_92 rfl rfl (by decide) (by show 67 < 89; decide) ?_
  show zw_Wp l mm_X11_init (89, zk L, zur (zur (zur (zur (zur (zur (zur (zur (zur (zur (zur (zur (zur (zur (zur (zur (zur (zur (zur (zur (zur f 67 0 68) 67 2 69) 67 3 70) 67 4 71) 67 6 72) 67 7 73) 67 9 74) 67 10 75) 67 13 76) 67 14 77) 67 17 78) 67 19 79) 67 20 80) 67 21 81) 67 22 82) 67 23 83) 67 26 84) 67 27 85) 67 30 86) 67 31 87) 67 32 88) 186 [some (zR 67), none] [] (zu (zu mem 67 1 7) 67 34 (-9)) 0 0 Q
  refine wp_iconst dd_X11_init_186 (zr_lit rfl) ?_
  show zw_Wp l mm_X11_init (89, zk L, zur (zur (zur (zur (zur (zur (zur (zur (zur (zur (zur (zur (zur (zur (zur (zur (zur (zur (zur (zur (zur f 67 0 68) 67 2 69) 67 3 70) 67 4 71) 67 6 72) 67 7 73) 67 9 74) 67 10 75) 67 13 76) 67 14 77) 67 17 78) 67 19 79) 67 20 80) 67 21 81) 67 22 82) 67 23 83) 67 26 84) 67 27 85) 67 30 86) 67 31 87) 67 32 88) 187 [some (zR 67), none] [zI 0] (zu (zu mem 67 1 7) 67 34 (-9)) 0 0 Q
  refine wp_istore_n (ls2 := [some (zR 67), some (zI 0)]) dd_X11_init_187 rfl (by decide) rfl ?_
  show zw_Wp l mm_X11_init (89, zk L, zur (zur (zur (zur (zur (zur (zur (zur (zur (zur (zur (zur (zur (zur (zur (zur (zur (zur (zur (zur (zur f 67 0 68) 67 2 69) 67 3 70) 67 4 71) 67 6 72) 67 7 73) 67 9 74) 67 10 75) 67 13 76) 67 14 77) 67 17 78) 67 19 79) 67 20 80) 67 21 81) 67 22 82) 67 23 83) 67 26 84) 67 27 85) 67 30 86) 67 31 87) 67 32 88) 188 [some (zR 67), some (zI 0)] [] (zu (zu mem 67 1 7) 67 34 (-9)) 0 0 Q
  refine wp_iload_n dd_X11_init_188 rfl ?_
  show zw_Wp l mm_X11_init (89, zk L, zur (zur (zur (zur (zur (zur (zur (zur (zur (zur (zur (zur (zur (zur (zur (zur (zur (zur (zur (zur (zur f 67 0 68) 67 2 69) 67 3 70) 67 4 71) 67 6 72) 67 7 73) 67 9 74) 67 10 75) 67 13 76) 67 14 77) 67 17 78) 67 19 79) 67 20 80) 67 21 81) 67 22 82) 67 23 83) 67 26 84) 67 27 85) 67 30 86) 67 31 87) 67 32 88) 189 [some (zR 67), some (zI 0)] [zI 0] (zu (zu mem 67 1 7) 67 34 (-9)) 0 0 Q
  refine wp_iconst dd_X11_init_189 (zr_lit rfl) ?_
  show zw_Wp l mm_X11_init (89, zk L, zur (zur (zur (zur (zur (zur (zur (zur (zur (zur (zur (zur (zur (zur (zur (zur (zur (zur (zur (zur (zur f 67 0 68) 67 2 69) 67 3 70) 67 4 71) 67 6 72) 67 7 73) 67 9 74) 67 10 75) 67 13 76) 67 14 77) 67 17 78) 67 19 79) 67 20 80) 67 21 81) 67 22 82) 67 23 83) 67 26 84) 67 27 85) 67 30 86) 67 31 87) 67 32 88) 190 [some (zR 67), some (zI 0)] [zI 3, zI 0] (zu (zu mem 67 1 7) 67 34 (-9)) 0 0 Q
  refine wp_icmp_ge (tgt := 207) dd_X11_init_190 (by decide) (fun h9 => absurd h9 (by decide)) (fun h9 => ?_)
  refine wp_aload_n dd_X11_init_193 rfl ?_
  show zw_Wp l mm_X11_init (89, zk L, zur (zur (zur (zur (zur (zur (zur (zur (zur (zur (zur (zur (zur (zur (zur (zur (zur (zur (zur (zur (zur f 67 0 68) 67 2 69) 67 3 70) 67 4 71) 67 6 72) 67 7 73) 67 9 74) 67 10 75) 67 13 76) 67 14 77) 67 17 78) 67 19 79) 67 20 80) 67 21 81) 67 22 82) 67 23 83) 67 26 84) 67 27 85) 67 30 86) 67 31 87) 67 32 88) 194 [some (zR 67), some (zI 0)] [zR 67] (zu (zu mem 67 1 7) 67 34 (-9)) 0 0 Q
  refine wp_getR dd_X11_init_194 gf_X11_83 rfl rfl (by decide) (by show 67 < 89; decide) (j := 86) rfl ?_
  show zw_Wp l mm_X11_init (89, zk L, zur (zur (zur (zur (zur (zur (zur (zur (zur (zur (zur (zur (zur (zur (zur (zur (zur (zur (zur (zur (zur f 67 0 68) 67 2 69) 67 3 70) 67 4 71) 67 6 72) 67 7 73) 67 9 74) 67 10 75) 67 13 76) 67 14 77) 67 17 78) 67 19 79) 67 20 80) 67 21 81) 67 22 82) 67 23 83) 67 26 84) 67 27 85) 67 30 86) 67 31 87) 67 32 88) 197 [some (zR 67), some (zI 0)] [zR 86] (zu (zu mem 67 1 7) 67 34 (-9)) 0 0 Q
  refine wp_iload_n dd_X11_init_197 rfl ?_
  show zw_Wp l mm_X11_init (89, zk L, zur (zur (zur (zur (zur (zur (zur (zur (zur (zur (zur (zur (zur (zur (zur (zur (zur (zur (zur (zur (zur f 67 0 68) 67 2 69) 67 3 70) 67 4 71) 67 6 72) 67 7 73) 67 9 74) 67 10 75) 67 13 76) 67 14 77) 67 17 78) 67 19 79) 67 20 80) 67 21 81) 67 22 82) 67 23 83) 67 26 84) 67 27 85) 67 30 86) 67 31 87) 67 32 88) 198 [some (zR 67), some (zI 0)] [zI 0, zR 86] (zu (zu mem 67 1 7) 67 34 (-9)) 0 0 Q
  refine wp_bipush dd_X11_init_198 (by decide) ?_
  show zw_Wp l mm_X11_init (89, zk L, zur (zur (zur (zur (zur (zur (zur (zur (zur (zur (zur (zur (zur (zur (zur (zur (zur (zur (zur (zur (zur f 67 0 68) 67 2 69) 67 3 70) 67 4 71) 67 6 72) 67 7 73) 67 9 74) 67 10 75) 67 13 76) 67 14 77) 67 17 78) 67 19 79) 67 20 80) 67 21 81) 67 22 82) 67 23 83) 67 26 84) 67 27 85) 67 30 86) 67 31 87) 67 32 88) 200 [some (zR 67), some (zI 0)] [zI (-9), zI 0, zR 86] (zu (zu mem 67 1 7) 67 34 (-9)) 0 0 Q
  refine wp_iast dd_X11_init_200 rfl (by show 86 < 89; decide) (by decide) (by decide) ?_
  show zw_Wp l mm_X11_init (89, zk L, zur (zur (zur (zur (zur (zur (zur (zur (zur (zur (zur (zur (zur (zur (zur (zur (zur (zur (zur (zur (zur f 67 0 68) 67 2 69) 67 3 70) 67 4 71) 67 6 72) 67 7 73) 67 9 74) 67 10 75) 67 13 76) 67 14 77) 67 17 78) 67 19 79) 67 20 80) 67 21 81) 67 22 82) 67 23 83) 67 26 84) 67 27 85) 67 30 86) 67 31 87) 67 32 88) 201 [some (zR 67), some (zI 0)] [] (zu (zu (zu mem 67 1 7) 67 34 (-9)) 86 0 (-9)) 0 0 Q
  refine wp_iincC (ls2 := [some (zR 67), some (zI 1)]) dd_X11_init_201 rfl rfl (by decide) (by decide) rfl ?_
  show zw_Wp l mm_X11_init (89, zk L, zur (zur (zur (zur (zur (zur (zur (zur (zur (zur (zur (zur (zur (zur (zur (zur (zur (zur (zur (zur (zur f 67 0 68) 67 2 69) 67 3 70) 67 4 71) 67 6 72) 67 7 73) 67 9 74) 67 10 75) 67 13 76) 67 14 77) 67 17 78) 67 19 79) 67 20 80) 67 21 81) 67 22 82) 67 23 83) 67 26 84) 67 27 85) 67 30 86) 67 31 87) 67 32 88) 204 [some (zR 67), some (zI 1)] [] (zu (zu (zu mem 67 1 7) 67 34 (-9)) 86 0 (-9)) 0 0 Q
  refine wp_goto (tgt := 188) dd_X11_init_204 (by decide) ?_
  refine wp_iload_n dd_X11_init_188 rfl ?_
  show zw_Wp l mm_X11_init (89, zk L, zur (zur (zur (zur (zur (zur (zur (zur (zur (zur (zur (zur (zur (zur (zur (zur (zur (zur (zur (zur (zur f 67 0 68) 67 2 69) 67 3 70) 67 4 71) 67 6 72) 67 7 73) 67 9 74) 67 10 75) 67 13 76) 67 14 77) 67 17 78) 67 19 79) 67 20 80) 67 21 81) 67 22 82) 67 23 83) 67 26 84) 67 27 85) 67 30 86) 67 31 87) 67 32 88) 189 [some (zR 67), some (zI 1)] [zI 1] (zu (zu (zu mem 67 1 7) 67 34 (-9)) 86 0 (-9)) 0 0 Q
  refine wp_iconst dd_X11_init_189 (zr_lit rfl) ?_
  show zw_Wp l mm_X11_init (89, zk L, zur (zur (zur (zur (zur (zur (zur (zur (zur (zur (zur (zur (zur (zur (zur (zur (zur (zur (zur (zur (zur f 67 0 68) 67 2 69) 67 3 70) 67 4 71) 67 6 72) 67 7 73) 67 9 74) 67 10 75) 67 13 76) 67 14 77) 67 17 78) 67 19 79) 67 20 80) 67 21 81) 67 22 82) 67 23 83) 67 26 84) 67 27 85) 67 30 86) 67 31 87) 67 32 88) 190 [some (zR 67), some (zI 1)] [zI 3, zI 1] (zu (zu (zu mem 67 1 7) 67 34 (-9)) 86 0 (-9)) 0 0 Q
  refine wp_icmp_ge (tgt := 207) dd_X11_init_190 (by decide) (fun h9 => absurd h9 (by decide)) (fun h9 => ?_)
  refine wp_aload_n dd_X11_init_193 rfl ?_
  show zw_Wp l mm_X11_init (89, zk L, zur (zur (zur (zur (zur (zur (zur (zur (zur (zur (zur (zur (zur (zur (zur (zur (zur (zur (zur (zur (zur f 67 0 68) 67 2 69) 67 3 70) 67 4 71) 67 6 72) 67 7 73) 67 9 74) 67 10 75) 67 13 76) 67 14 77) 67 17 78) 67 19 79) 67 20 80) 67 21 81) 67 22 82) 67 23 83) 67 26 84) 67 27 85) 67 30 86) 67 31 87) 67 32 88) 194 [some (zR 67), some (zI 1)] [zR 67] (zu (zu (zu mem 67 1 7) 67 34 (-9)) 86 0 (-9)) 0 0 Q
  refine wp_getR dd_X11_init_194 gf_X11_83 rfl rfl (by decide) (by show 67 < 89; decide) (j := 86) rfl ?_
  show zw_Wp l mm_X11_init (89, zk L, zur (zur (zur (zur (zur (zur (zur (zur (zur (zur (zur (zur (zur (zur (zur (zur (zur (zur (zur (zur (zur f 67 0 68) 67 2 69) 67 3 70) 67 4 71) 67 6 72) 67 7 73) 67 9 74) 67 10 75) 67 13 76) 67 14 77) 67 17 78) 67 19 79) 67 20 80) 67 21 81) 67 22 82) 67 23 83) 67 26 84) 67 27 85) 67 30 86) 67 31 87) 67 32 88) 197 [some (zR 67), some (zI 1)] [zR 86] (zu (zu (zu mem 67 1 7) 67 34 (-9)) 86 0 (-9)) 0 0 Q
  refine wp_iload_n dd_X11_init_197 rfl ?_
  show zw_Wp l mm_X11_init (89, zk L, zur (zur (zur (zur (zur (zur (zur (zur (zur (zur (zur (zur (zur (zur (zur (zur (zur (zur (zur (zur (zur f 67 0 68) 67 2 69) 67 3 70) 67 4 71) 67 6 72) 67 7 73) 67 9 74) 67 10 75) 67 13 76) 67 14 77) 67 17 78) 67 19 79) 67 20 80) 67 21 81) 67 22 82) 67 23 83) 67 26 84) 67 27 85) 67 30 86) 67 31 87) 67 32 88) 198 [some (zR 67), some (zI 1)] [zI 1, zR 86] (zu (zu (zu mem 67 1 7) 67 34 (-9)) 86 0 (-9)) 0 0 Q
  refine wp_bipush dd_X11_init_198 (by decide) ?_
  show zw_Wp l mm_X11_init (89, zk L, zur (zur (zur (zur (zur (zur (zur (zur (zur (zur (zur (zur (zur (zur (zur (zur (zur (zur (zur (zur (zur f 67 0 68) 67 2 69) 67 3 70) 67 4 71) 67 6 72) 67 7 73) 67 9 74) 67 10 75) 67 13 76) 67 14 77) 67 17 78) 67 19 79) 67 20 80) 67 21 81) 67 22 82) 67 23 83) 67 26 84) 67 27 85) 67 30 86) 67 31 87) 67 32 88) 200 [some (zR 67), some (zI 1)] [zI (-9), zI 1, zR 86] (zu (zu (zu mem 67 1 7) 67 34 (-9)) 86 0 (-9)) 0 0 Q
  refine wp_iast dd_X11_init_200 rfl (by show 86 < 89; decide) (by decide) (by decide) ?_
  show zw_Wp l mm_X11_init (89, zk L, zur (zur (zur (zur (zur (zur (zur (zur (zur (zur (zur (zur (zur (zur (zur (zur (zur (zur (zur (zur (zur f 67 0 68) 67 2 69) 67 3 70) 67 4 71) 67 6 72) 67 7 73) 67 9 74) 67 10 75) 67 13 76) 67 14 77) 67 17 78) 67 19 79) 67 20 80) 67 21 81) 67 22 82) 67 23 83) 67 26 84) 67 27 85) 67 30 86) 67 31 87) 67 32 88) 201 [some (zR 67), some (zI 1)] [] (zu (zu (zu (zu mem 67 1 7) 67 34 (-9)) 86 0 (-9)) 86 1 (-9)) 0 0 Q
  refine wp_iincC (ls2 := [some (zR 67), some (zI 2)]) dd_X11_init_201 rfl rfl (by decide) (by decide) rfl ?_
  show zw_Wp l mm_X11_init (89, zk L, zur (zur (zur (zur (zur (zur (zur (zur (zur (zur (zur (zur (zur (zur (zur (zur (zur (zur (zur (zur (zur f 67 0 68) 67 2 69) 67 3 70) 67 4 71) 67 6 72) 67 7 73) 67 9 74) 67 10 75) 67 13 76) 67 14 77) 67 17 78) 67 19 79) 67 20 80) 67 21 81) 67 22 82) 67 23 83) 67 26 84) 67 27 85) 67 30 86) 67 31 87) 67 32 88) 204 [some (zR 67), some (zI 2)] [] (zu (zu (zu (zu mem 67 1 7) 67 34 (-9)) 86 0 (-9)) 86 1 (-9)) 0 0 Q
  refine wp_goto (tgt := 188) dd_X11_init_204 (by decide) ?_
  refine wp_iload_n dd_X11_init_188 rfl ?_
  show zw_Wp l mm_X11_init (89, zk L, zur (zur (zur (zur (zur (zur (zur (zur (zur (zur (zur (zur (zur (zur (zur (zur (zur (zur (zur (zur (zur f 67 0 68) 67 2 69) 67 3 70) 67 4 71) 67 6 72) 67 7 73) 67 9 74) 67 10 75) 67 13 76) 67 14 77) 67 17 78) 67 19 79) 67 20 80) 67 21 81) 67 22 82) 67 23 83) 67 26 84) 67 27 85) 67 30 86) 67 31 87) 67 32 88) 189 [some (zR 67), some (zI 2)] [zI 2] (zu (zu (zu (zu mem 67 1 7) 67 34 (-9)) 86 0 (-9)) 86 1 (-9)) 0 0 Q
  refine wp_iconst dd_X11_init_189 (zr_lit rfl) ?_
  show zw_Wp l mm_X11_init (89, zk L, zur (zur (zur (zur (zur (zur (zur (zur (zur (zur (zur (zur (zur (zur (zur (zur (zur (zur (zur (zur (zur f 67 0 68) 67 2 69) 67 3 70) 67 4 71) 67 6 72) 67 7 73) 67 9 74) 67 10 75) 67 13 76) 67 14 77) 67 17 78) 67 19 79) 67 20 80) 67 21 81) 67 22 82) 67 23 83) 67 26 84) 67 27 85) 67 30 86) 67 31 87) 67 32 88) 190 [some (zR 67), some (zI 2)] [zI 3, zI 2] (zu (zu (zu (zu mem 67 1 7) 67 34 (-9)) 86 0 (-9)) 86 1 (-9)) 0 0 Q
  refine wp_icmp_ge (tgt := 207) dd_X11_init_190 (by decide) (fun h9 => absurd h9 (by decide)) (fun h9 => ?_)
  refine wp_aload_n dd_X11_init_193 rfl ?_
  show zw_Wp l mm_X11_init (89, zk L, zur (zur (zur (zur (zur (zur (zur (zur (zur (zur (zur (zur (zur (zur (zur (zur (zur (zur (zur (zur (zur f 67 0 68) 67 2 69) 67 3 70) 67 4 71) 67 6 72) 67 7 73) 67 9 74) 67 10 75) 67 13 76) 67 14 77) 67 17 78) 67 19 79) 67 20 80) 67 21 81) 67 22 82) 67 23 83) 67 26 84) 67 27 85) 67 30 86) 67 31 87) 67 32 88) 194 [some (zR 67), some (zI 2)] [zR 67] (zu (zu (zu (zu mem 67 1 7) 67 34 (-9)) 86 0 (-9)) 86 1 (-9)) 0 0 Q
  refine wp_getR dd_X11_init_194 gf_X11_83 rfl rfl (by decide) (by show 67 < 89; decide) (j := 86) rfl ?_
  show zw_Wp l mm_X11_init (89, zk L, zur (zur (zur (zur (zur (zur (zur (zur (zur (zur (zur (zur (zur (zur (zur (zur (zur (zur (zur (zur (zur f 67 0 68) 67 2 69) 67 3 70) 67 4 71) 67 6 72) 67 7 73) 67 9 74) 67 10 75) 67 13 76) 67 14 77) 67 17 78) 67 19 79) 67 20 80) 67 21 81) 67 22 82) 67 23 83) 67 26 84) 67 27 85) 67 30 86) 67 31 87) 67 32 88) 197 [some (zR 67), some (zI 2)] [zR 86] (zu (zu (zu (zu mem 67 1 7) 67 34 (-9)) 86 0 (-9)) 86 1 (-9)) 0 0 Q
  refine wp_iload_n dd_X11_init_197 rfl ?_
  show zw_Wp l mm_X11_init (89, zk L, zur (zur (zur (zur (zur (zur (zur (zur (zur (zur (zur (zur (zur (zur (zur (zur (zur (zur (zur (zur (zur f 67 0 68) 67 2 69) 67 3 70) 67 4 71) 67 6 72) 67 7 73) 67 9 74) 67 10 75) 67 13 76) 67 14 77) 67 17 78) 67 19 79) 67 20 80) 67 21 81) 67 22 82) 67 23 83) 67 26 84) 67 27 85) 67 30 86) 67 31 87) 67 32 88) 198 [some (zR 67), some (zI 2)] [zI 2, zR 86] (zu (zu (zu (zu mem 67 1 7) 67 34 (-9)) 86 0 (-9)) 86 1 (-9)) 0 0 Q
  refine wp_bipush dd_X11_init_198 (by decide) ?_
  show zw_Wp l mm_X11_init (89, zk L, zur (zur (zur (zur (zur (zur (zur (zur (zur (zur (zur (zur (zur (zur (zur (zur (zur (zur (zur (zur (zur f 67 0 68) 67 2 69) 67 3 70) 67 4 71) 67 6 72) 67 7 73) 67 9 74) 67 10 75) 67 13 76) 67 14 77) 67 17 78) 67 19 79) 67 20 80) 67 21 81) 67 22 82) 67 23 83) 67 26 84) 67 27 85) 67 30 86) 67 31 87) 67 32 88) 200 [some (zR 67), some (zI 2)] [zI (-9), zI 2, zR 86] (zu (zu (zu (zu mem 67 1 7) 67 34 (-9)) 86 0 (-9)) 86 1 (-9)) 0 0 Q
  refine wp_iast dd_X11_init_200 rfl (by show 86 < 89; decide) (by decide) (by decide) ?_
  show zw_Wp l mm_X11_init (89, zk L, zur (zur (zur (zur (zur (zur (zur (zur (zur (zur (zur (zur (zur (zur (zur (zur (zur (zur (zur (zur (zur f 67 0 68) 67 2 69) 67 3 70) 67 4 71) 67 6 72) 67 7 73) 67 9 74) 67 10 75) 67 13 76) 67 14 77) 67 17 78) 67 19 79) 67 20 80) 67 21 81) 67 22 82) 67 23 83) 67 26 84) 67 27 85) 67 30 86) 67 31 87) 67 32 88) 201 [some (zR 67), some (zI 2)] [] (zu (zu (zu (zu (zu mem 67 1 7) 67 34 (-9)) 86 0 (-9)) 86 1 (-9)) 86 2 (-9)) 0 0 Q
  refine wp_iincC (ls2 := [some (zR 67), some (zI 3)]) dd_X11_init_201 rfl rfl (by decide) (by decide) rfl ?_
  show zw_Wp l mm_X11_init (89, zk L, zur (zur (zur (zur (zur (zur (zur (zur (zur (zur (zur (zur (zur (zur (zur (zur (zur (zur (zur (zur (zur f 67 0 68) 67 2 69) 67 3 70) 67 4 71) 67 6 72) 67 7 73) 67 9 74) 67 10 75) 67 13 76) 67 14 77) 67 17 78) 67 19 79) 67 20 80) 67 21 81) 67 22 82) 67 23 83) 67 26 84) 67 27 85) 67 30 86) 67 31 87) 67 32 88) 204 [some (zR 67), some (zI 3)] [] (zu (zu (zu (zu (zu mem 67 1 7) 67 34 (-9)) 86 0 (-9)) 86 1 (-9)) 86 2 (-9)) 0 0 Q
  refine wp_goto (tgt := 188) dd_X11_init_204 (by decide) ?_
  refine wp_iload_n dd_X11_init_188 rfl ?_
  show zw_Wp l mm_X11_init (89, zk L, zur (zur (zur (zur (zur (zur (zur (zur (zur (zur (zur (zur (zur (zur (zur (zur (zur (zur (zur (zur (zur f 67 0 68) 67 2 69) 67 3 70) 67 4 71) 67 6 72) 67 7 73) 67 9 74) 67 10 75) 67 13 76) 67 14 77) 67 17 78) 67 19 79) 67 20 80) 67 21 81) 67 22 82) 67 23 83) 67 26 84) 67 27 85) 67 30 86) 67 31 87) 67 32 88) 189 [some (zR 67), some (zI 3)] [zI 3] (zu (zu (zu (zu (zu mem 67 1 7) 67 34 (-9)) 86 0 (-9)) 86 1 (-9)) 86 2 (-9)) 0 0 Q
  refine wp_iconst dd_X11_init_189 (zr_lit rfl) ?_
  show zw_Wp l mm_X11_init (89, zk L, zur (zur (zur (zur (zur (zur (zur (zur (zur (zur (zur (zur (zur (zur (zur (zur (zur (zur (zur (zur (zur f 67 0 68) 67 2 69) 67 3 70) 67 4 71) 67 6 72) 67 7 73) 67 9 74) 67 10 75) 67 13 76) 67 14 77) 67 17 78) 67 19 79) 67 20 80) 67 21 81) 67 22 82) 67 23 83) 67 26 84) 67 27 85) 67 30 86) 67 31 87) 67 32 88) 190 [some (zR 67), some (zI 3)] [zI 3, zI 3] (zu (zu (zu (zu (zu mem 67 1 7) 67 34 (-9)) 86 0 (-9)) 86 1 (-9)) 86 2 (-9)) 0 0 Q
  refine wp_icmp_ge (tgt := 207) dd_X11_init_190 (by decide) (fun h9 => ?_) (fun h9 => absurd h9 (by decide))
  refine wp_return (st := []) dd_X11_init_207 rfl ?_
  exact k


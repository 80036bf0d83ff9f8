/-! ===== the constructors ===== -/
def zf0 : Nat → Nat → Option Nat := fun _ _ => none
theorem zur_row {f : Nat → Nat → Option Nat} {i k j a : Nat} (h : a ≠ i) : zur f i k j a = f a := by
  funext b
  exact if_neg (fun q => h q.1)
theorem wp_weak {l : Launch} {M : zMM} {sh : zSh} {pc : Nat} {ls : List (Option zV)} {st : List zV} {mem : zMem} {bc bs : Nat} {Q : zQ} (k : zw_Wp l M sh pc ls st mem 0 0 Q) : zw_Wp l M sh pc ls st mem bc bs Q := by
  intro p e R s m args below meth c Z G ad0 N0 H locs ad lsM cells slots C X
  obtain ⟨hW, hS, hL, hT, hE⟩ := X
  exact k p e R s m args below meth c Z G ad0 N0 H locs ad lsM cells slots C ⟨hW, hS, hL, hT, hE.1, by have := hE.2.1; omega, by have := hE.2.2; omega⟩

theorem ac_int : Cond.arrayClass .int ∈ lw_g := zw_mem 146 (by decide +kernel) rfl
theorem ac_bool : Cond.arrayClass .boolean ∈ lw_g := zw_mem 1080 (by decide +kernel) rfl
theorem oi_1 : Cond.instanceMethod Lib.objectInit ∈ lw_g := zw_mem 114 (by decide +kernel) rfl
theorem oi_2 : Cond.code Lib.objectInit ⟨#[0xb1]⟩ 1 none ∈ lw_g := zw_mem 115 (by decide +kernel) rfl
theorem cl_L_7 : Cond.classLink RL 7 RX10 ∈ lw_g := zw_mem 108 (by decide +kernel) rfl
theorem nw_L_7 : zw_nw RL 7 9 11 := ⟨_, _, _, zcl_X10, cl_L_7, zw_mem 109 (by decide +kernel) rfl, zw_mem 92 (by decide +kernel) rfl, by decide +kernel⟩
theorem cl_X10_9 : Cond.classLink RX10 9 RX8 ∈ lw_g := zw_mem 116 (by decide +kernel) rfl
theorem nw_X10_9 : zw_nw RX10 9 7 3 := ⟨_, _, _, zcl_X8, cl_X10_9, zw_mem 117 (by decide +kernel) rfl, zw_mem 93 (by decide +kernel) rfl, by decide +kernel⟩
theorem cl_X8_15 : Cond.classLink RX8 15 RX4 ∈ lw_g := zw_mem 122 (by decide +kernel) rfl
theorem nw_X8_15 : zw_nw RX8 15 3 4 := ⟨_, _, _, zcl_X4, cl_X8_15, zw_mem 124 (by decide +kernel) rfl, zw_mem 94 (by decide +kernel) rfl, by decide +kernel⟩
theorem cl_X10_19 : Cond.classLink RX10 19 RX6 ∈ lw_g := zw_mem 162 (by decide +kernel) rfl
theorem nw_X10_19 : zw_nw RX10 19 5 7 := ⟨_, _, _, zcl_X6, cl_X10_19, zw_mem 163 (by decide +kernel) rfl, zw_mem 95 (by decide +kernel) rfl, by decide +kernel⟩
theorem cl_X10_26 : Cond.classLink RX10 26 RX3 ∈ lw_g := zw_mem 192 (by decide +kernel) rfl
theorem nw_X10_26 : zw_nw RX10 26 2 4 := ⟨_, _, _, zcl_X3, cl_X10_26, zw_mem 193 (by decide +kernel) rfl, zw_mem 96 (by decide +kernel) rfl, by decide +kernel⟩
theorem cl_X10_33 : Cond.classLink RX10 33 RX9 ∈ lw_g := zw_mem 212 (by decide +kernel) rfl
theorem nw_X10_33 : zw_nw RX10 33 8 8 := ⟨_, _, _, zcl_X9, cl_X10_33, zw_mem 213 (by decide +kernel) rfl, zw_mem 97 (by decide +kernel) rfl, by decide +kernel⟩
theorem cl_X10_40 : Cond.classLink RX10 40 RX0 ∈ lw_g := zw_mem 244 (by decide +kernel) rfl
theorem nw_X10_40 : zw_nw RX10 40 0 4 := ⟨_, _, _, zcl_X0, cl_X10_40, zw_mem 245 (by decide +kernel) rfl, zw_mem 98 (by decide +kernel) rfl, by decide +kernel⟩
theorem cl_X10_47 : Cond.classLink RX10 47 RX5 ∈ lw_g := zw_mem 266 (by decide +kernel) rfl
theorem nw_X10_47 : zw_nw RX10 47 4 3 := ⟨_, _, _, zcl_X5, cl_X10_47, zw_mem 267 (by decide +kernel) rfl, zw_mem 99 (by decide +kernel) rfl, by decide +kernel⟩
theorem cl_X10_54 : Cond.classLink RX10 54 RX7 ∈ lw_g := zw_mem 282 (by decide +kernel) rfl
theorem nw_X10_54 : zw_nw RX10 54 6 8 := ⟨_, _, _, zcl_X7, cl_X10_54, zw_mem 283 (by decide +kernel) rfl, zw_mem 100 (by decide +kernel) rfl, by decide +kernel⟩
theorem cl_X10_61 : Cond.classLink RX10 61 RX1 ∈ lw_g := zw_mem 318 (by decide +kernel) rfl
theorem nw_X10_61 : zw_nw RX10 61 1 2 := ⟨_, _, _, zcl_X1, cl_X10_61, zw_mem 319 (by decide +kernel) rfl, zw_mem 101 (by decide +kernel) rfl, by decide +kernel⟩
theorem cl_L_10 : Cond.classLink RL 10 RX11 ∈ lw_g := zw_mem 965 (by decide +kernel) rfl
theorem nw_L_10 : zw_nw RL 10 10 36 := ⟨_, _, _, zcl_X11, cl_L_10, zw_mem 966 (by decide +kernel) rfl, zw_mem 102 (by decide +kernel) rfl, by decide +kernel⟩
theorem nk_X8_21 : ∃ host : String, (RX8, 21, zy mm_X4_init, host) ∈ zw_nest := ⟨"LettersEliminated", by decide +kernel⟩
theorem nk_X10_21 : ∃ host : String, (RX10, 21, zy mm_X6_init, host) ∈ zw_nest := ⟨"LettersEliminated", by decide +kernel⟩
theorem nk_X10_28 : ∃ host : String, (RX10, 28, zy mm_X3_init, host) ∈ zw_nest := ⟨"LettersEliminated", by decide +kernel⟩
theorem nk_X10_35 : ∃ host : String, (RX10, 35, zy mm_X9_init, host) ∈ zw_nest := ⟨"LettersEliminated", by decide +kernel⟩
theorem nk_X10_42 : ∃ host : String, (RX10, 42, zy mm_X0_init, host) ∈ zw_nest := ⟨"LettersEliminated", by decide +kernel⟩
theorem nk_X10_49 : ∃ host : String, (RX10, 49, zy mm_X5_init, host) ∈ zw_nest := ⟨"LettersEliminated", by decide +kernel⟩
theorem nk_X10_56 : ∃ host : String, (RX10, 56, zy mm_X7_init, host) ∈ zw_nest := ⟨"LettersEliminated", by decide +kernel⟩
theorem nk_X10_63 : ∃ host : String, (RX10, 63, zy mm_X1_init, host) ∈ zw_nest := ⟨"LettersEliminated", by decide +kernel⟩
set_option maxRecDepth 100000 in
set_option maxHeartbeats 4000000 in
theorem in_X4_3 {l : Launch} {L : Nat} {mem : zMem} {f : Nat → Nat → Option Nat} {Q : zQ} (hz : ∀ a : Nat, 4 ≤ a → a < 1000 → ∀ k : Int, mem a k = 0) (k : Q none (6, zk L, zur (zur f 3 2 4) 3 3 5) mem) : zw_Ok l mm_X4_init [zR 3] (4, zk L, f) mem Q := by
  refine zw_enter (by decide) (Nat.le_of_ble_eq_true rfl) rfl ?_
  show zw_Wp l mm_X4_init (4, zk L, f) 0 [some (zR 3)] [] mem 2 50 Q
  refine wp_aload_n dd_X4_init_0 rfl ?_
  show zw_Wp l mm_X4_init (4, zk L, f) 1 [some (zR 3)] [zR 3] mem 2 50 Q
  refine wp_oinit dd_X4_init_1 lk_X4_3 oi_1 oi_2 (by decide) (by decide) ?_
  show zw_Wp l mm_X4_init (4, zk L, f) 4 [some (zR 3)] [] mem 2 50 Q
  refine wp_aload_n dd_X4_init_4 rfl ?_
  show zw_Wp l mm_X4_init (4, zk L, f) 5 [some (zR 3)] [zR 3] mem 2 50 Q
  refine wp_bipush dd_X4_init_5 (by decide) ?_
  show zw_Wp l mm_X4_init (4, zk L, f) 7 [some (zR 3)] [zI 25, zR 3] mem 2 50 Q
  refine wp_newaI (n := 25) rfl dd_X4_init_7 ac_int rfl (by intro k9; show mem 4 k9 = 0; (repeat rw [zu_row (by decide)]); exact hz 4 (by decide) (by decide) k9) (by show 4 < 1000; decide) (by decide) (by decide) ?_
  show zw_Wp l mm_X4_init (5, zk L, f) 9 [some (zR 3)] [zR 4, zR 3] mem 1 25 Q
  refine wp_putR dd_X4_init_9 pf_X4_9 rfl rfl rfl (by decide) (by show 3 < 5; decide) (by show 4 < 5; decide) (fun _ => rfl) (fun _ => rfl) ?_
  show zw_Wp l mm_X4_init (5, zk L, zur f 3 2 4) 12 [some (zR 3)] [] mem 1 25 Q
  refine wp_aload_n dd_X4_init_12 rfl ?_
  show zw_Wp l mm_X4_init (5, zk L, zur f 3 2 4) 13 [some (zR 3)] [zR 3] mem 1 25 Q
  refine wp_bipush dd_X4_init_13 (by decide) ?_
  show zw_Wp l mm_X4_init (5, zk L, zur f 3 2 4) 15 [some (zR 3)] [zI 25, zR 3] mem 1 25 Q
  refine wp_newaI (n := 25) rfl dd_X4_init_15 ac_int rfl (by intro k9; show mem 5 k9 = 0; (repeat rw [zu_row (by decide)]); exact hz 5 (by decide) (by decide) k9) (by show 5 < 1000; decide) (by decide) (by decide) ?_
  show zw_Wp l mm_X4_init (6, zk L, zur f 3 2 4) 17 [some (zR 3)] [zR 5, zR 3] mem 0 0 Q
  refine wp_putR dd_X4_init_17 pf_X4_15 rfl rfl rfl (by decide) (by show 3 < 6; decide) (by show 5 < 6; decide) (fun _ => rfl) (fun _ => rfl) ?_
  show zw_Wp l mm_X4_init (6, zk L, zur (zur f 3 2 4) 3 3 5) 20 [some (zR 3)] [] mem 0 0 Q
  refine wp_return (st := []) dd_X4_init_20 rfl ?_
  exact k

set_option maxRecDepth 100000 in
set_option maxHeartbeats 4000000 in
theorem in_X4_6 {l : Launch} {L : Nat} {mem : zMem} {f : Nat → Nat → Option Nat} {Q : zQ} (hz : ∀ a : Nat, 7 ≤ a → a < 1000 → ∀ k : Int, mem a k = 0) (k : Q none (9, zk L, zur (zur f 6 2 7) 6 3 8) mem) : zw_Ok l mm_X4_init [zR 6] (7, zk L, f) mem Q := by
  refine zw_enter (by decide) (Nat.le_of_ble_eq_true rfl) rfl ?_
  show zw_Wp l mm_X4_init (7, zk L, f) 0 [some (zR 6)] [] mem 2 50 Q
  refine wp_aload_n dd_X4_init_0 rfl ?_
  show zw_Wp l mm_X4_init (7, zk L, f) 1 [some (zR 6)] [zR 6] mem 2 50 Q
  refine wp_oinit dd_X4_init_1 lk_X4_3 oi_1 oi_2 (by decide) (by decide) ?_
  show zw_Wp l mm_X4_init (7, zk L, f) 4 [some (zR 6)] [] mem 2 50 Q
  refine wp_aload_n dd_X4_init_4 rfl ?_
  show zw_Wp l mm_X4_init (7, zk L, f) 5 [some (zR 6)] [zR 6] mem 2 50 Q
  refine wp_bipush dd_X4_init_5 (by decide) ?_
  show zw_Wp l mm_X4_init (7, zk L, f) 7 [some (zR 6)] [zI 25, zR 6] mem 2 50 Q
  refine wp_newaI (n := 25) rfl dd_X4_init_7 ac_int rfl (by intro k9; show mem 7 k9 = 0; (repeat rw [zu_row (by decide)]); exact hz 7 (by decide) (by decide) k9) (by show 7 < 1000; decide) (by decide) (by decide) ?_
  show zw_Wp l mm_X4_init (8, zk L, f) 9 [some (zR 6)] [zR 7, zR 6] mem 1 25 Q
  refine wp_putR dd_X4_init_9 pf_X4_9 rfl rfl rfl (by decide) (by show 6 < 8; decide) (by show 7 < 8; decide) (fun _ => rfl) (fun _ => rfl) ?_
  show zw_Wp l mm_X4_init (8, zk L, zur f 6 2 7) 12 [some (zR 6)] [] mem 1 25 Q
  refine wp_aload_n dd_X4_init_12 rfl ?_
  show zw_Wp l mm_X4_init (8, zk L, zur f 6 2 7) 13 [some (zR 6)] [zR 6] mem 1 25 Q
  refine wp_bipush dd_X4_init_13 (by decide) ?_
  show zw_Wp l mm_X4_init (8, zk L, zur f 6 2 7) 15 [some (zR 6)] [zI 25, zR 6] mem 1 25 Q
  refine wp_newaI (n := 25) rfl dd_X4_init_15 ac_int rfl (by intro k9; show mem 8 k9 = 0; (repeat rw [zu_row (by decide)]); exact hz 8 (by decide) (by decide) k9) (by show 8 < 1000; decide) (by decide) (by decide) ?_
  show zw_Wp l mm_X4_init (9, zk L, zur f 6 2 7) 17 [some (zR 6)] [zR 8, zR 6] mem 0 0 Q
  refine wp_putR dd_X4_init_17 pf_X4_15 rfl rfl rfl (by decide) (by show 6 < 9; decide) (by show 8 < 9; decide) (fun _ => rfl) (fun _ => rfl) ?_
  show zw_Wp l mm_X4_init (9, zk L, zur (zur f 6 2 7) 6 3 8) 20 [some (zR 6)] [] mem 0 0 Q
  refine wp_return (st := []) dd_X4_init_20 rfl ?_
  exact k

set_option maxRecDepth 100000 in
set_option maxHeartbeats 4000000 in
theorem in_X4_9 {l : Launch} {L : Nat} {mem : zMem} {f : Nat → Nat → Option Nat} {Q : zQ} (hz : ∀ a : Nat, 10 ≤ a → a < 1000 → ∀ k : Int, mem a k = 0) (k : Q none (12, zk L, zur (zur f 9 2 10) 9 3 11) mem) : zw_Ok l mm_X4_init [zR 9] (10, zk L, f) mem Q := by
  refine zw_enter (by decide) (Nat.le_of_ble_eq_true rfl) rfl ?_
  show zw_Wp l mm_X4_init (10, zk L, f) 0 [some (zR 9)] [] mem 2 50 Q
  refine wp_aload_n dd_X4_init_0 rfl ?_
  show zw_Wp l mm_X4_init (10, zk L, f) 1 [some (zR 9)] [zR 9] mem 2 50 Q
  refine wp_oinit dd_X4_init_1 lk_X4_3 oi_1 oi_2 (by decide) (by decide) ?_
  show zw_Wp l mm_X4_init (10, zk L, f) 4 [some (zR 9)] [] mem 2 50 Q
  refine wp_aload_n dd_X4_init_4 rfl ?_
  show zw_Wp l mm_X4_init (10, zk L, f) 5 [some (zR 9)] [zR 9] mem 2 50 Q
  refine wp_bipush dd_X4_init_5 (by decide) ?_
  show zw_Wp l mm_X4_init (10, zk L, f) 7 [some (zR 9)] [zI 25, zR 9] mem 2 50 Q
  refine wp_newaI (n := 25) rfl dd_X4_init_7 ac_int rfl (by intro k9; show mem 10 k9 = 0; (repeat rw [zu_row (by decide)]); exact hz 10 (by decide) (by decide) k9) (by show 10 < 1000; decide) (by decide) (by decide) ?_
  show zw_Wp l mm_X4_init (11, zk L, f) 9 [some (zR 9)] [zR 10, zR 9] mem 1 25 Q
  refine wp_putR dd_X4_init_9 pf_X4_9 rfl rfl rfl (by decide) (by show 9 < 11; decide) (by show 10 < 11; decide) (fun _ => rfl) (fun _ => rfl) ?_
  show zw_Wp l mm_X4_init (11, zk L, zur f 9 2 10) 12 [some (zR 9)] [] mem 1 25 Q
  refine wp_aload_n dd_X4_init_12 rfl ?_
  show zw_Wp l mm_X4_init (11, zk L, zur f 9 2 10) 13 [some (zR 9)] [zR 9] mem 1 25 Q
  refine wp_bipush dd_X4_init_13 (by decide) ?_
  show zw_Wp l mm_X4_init (11, zk L, zur f 9 2 10) 15 [some (zR 9)] [zI 25, zR 9] mem 1 25 Q
  refine wp_newaI (n := 25) rfl dd_X4_init_15 ac_int rfl (by intro k9; show mem 11 k9 = 0; (repeat rw [zu_row (by decide)]); exact hz 11 (by decide) (by decide) k9) (by show 11 < 1000; decide) (by decide) (by decide) ?_
  show zw_Wp l mm_X4_init (12, zk L, zur f 9 2 10) 17 [some (zR 9)] [zR 11, zR 9] mem 0 0 Q
  refine wp_putR dd_X4_init_17 pf_X4_15 rfl rfl rfl (by decide) (by show 9 < 12; decide) (by show 11 < 12; decide) (fun _ => rfl) (fun _ => rfl) ?_
  show zw_Wp l mm_X4_init (12, zk L, zur (zur f 9 2 10) 9 3 11) 20 [some (zR 9)] [] mem 0 0 Q
  refine wp_return (st := []) dd_X4_init_20 rfl ?_
  exact k

set_option maxRecDepth 100000 in
set_option maxHeartbeats 4000000 in
theorem in_X4_12 {l : Launch} {L : Nat} {mem : zMem} {f : Nat → Nat → Option Nat} {Q : zQ} (hz : ∀ a : Nat, 13 ≤ a → a < 1000 → ∀ k : Int, mem a k = 0) (k : Q none (15, zk L, zur (zur f 12 2 13) 12 3 14) mem) : zw_Ok l mm_X4_init [zR 12] (13, zk L, f) mem Q := by
  refine zw_enter (by decide) (Nat.le_of_ble_eq_true rfl) rfl ?_
  show zw_Wp l mm_X4_init (13, zk L, f) 0 [some (zR 12)] [] mem 2 50 Q
  refine wp_aload_n dd_X4_init_0 rfl ?_
  show zw_Wp l mm_X4_init (13, zk L, f) 1 [some (zR 12)] [zR 12] mem 2 50 Q
  refine wp_oinit dd_X4_init_1 lk_X4_3 oi_1 oi_2 (by decide) (by decide) ?_
  show zw_Wp l mm_X4_init (13, zk L, f) 4 [some (zR 12)] [] mem 2 50 Q
  refine wp_aload_n dd_X4_init_4 rfl ?_
  show zw_Wp l mm_X4_init (13, zk L, f) 5 [some (zR 12)] [zR 12] mem 2 50 Q
  refine wp_bipush dd_X4_init_5 (by decide) ?_
  show zw_Wp l mm_X4_init (13, zk L, f) 7 [some (zR 12)] [zI 25, zR 12] mem 2 50 Q
  refine wp_newaI (n := 25) rfl dd_X4_init_7 ac_int rfl (by intro k9; show mem 13 k9 = 0; (repeat rw [zu_row (by decide)]); exact hz 13 (by decide) (by decide) k9) (by show 13 < 1000; decide) (by decide) (by decide) ?_
  show zw_Wp l mm_X4_init (14, zk L, f) 9 [some (zR 12)] [zR 13, zR 12] mem 1 25 Q
  refine wp_putR dd_X4_init_9 pf_X4_9 rfl rfl rfl (by decide) (by show 12 < 14; decide) (by show 13 < 14; decide) (fun _ => rfl) (fun _ => rfl) ?_
  show zw_Wp l mm_X4_init (14, zk L, zur f 12 2 13) 12 [some (zR 12)] [] mem 1 25 Q
  refine wp_aload_n dd_X4_init_12 rfl ?_
  show zw_Wp l mm_X4_init (14, zk L, zur f 12 2 13) 13 [some (zR 12)] [zR 12] mem 1 25 Q
  refine wp_bipush dd_X4_init_13 (by decide) ?_
  show zw_Wp l mm_X4_init (14, zk L, zur f 12 2 13) 15 [some (zR 12)] [zI 25, zR 12] mem 1 25 Q
  refine wp_newaI (n := 25) rfl dd_X4_init_15 ac_int rfl (by intro k9; show mem 14 k9 = 0; (repeat rw [zu_row (by decide)]); exact hz 14 (by decide) (by decide) k9) (by show 14 < 1000; decide) (by decide) (by decide) ?_
  show zw_Wp l mm_X4_init (15, zk L, zur f 12 2 13) 17 [some (zR 12)] [zR 14, zR 12] mem 0 0 Q
  refine wp_putR dd_X4_init_17 pf_X4_15 rfl rfl rfl (by decide) (by show 12 < 15; decide) (by show 14 < 15; decide) (fun _ => rfl) (fun _ => rfl) ?_
  show zw_Wp l mm_X4_init (15, zk L, zur (zur f 12 2 13) 12 3 14) 20 [some (zR 12)] [] mem 0 0 Q
  refine wp_return (st := []) dd_X4_init_20 rfl ?_
  exact k

set_option maxRecDepth 100000 in
set_option maxHeartbeats 4000000 in
theorem in_X4_15 {l : Launch} {L : Nat} {mem : zMem} {f : Nat → Nat → Option Nat} {Q : zQ} (hz : ∀ a : Nat, 16 ≤ a → a < 1000 → ∀ k : Int, mem a k = 0) (k : Q none (18, zk L, zur (zur f 15 2 16) 15 3 17) mem) : zw_Ok l mm_X4_init [zR 15] (16, zk L, f) mem Q := by
  refine zw_enter (by decide) (Nat.le_of_ble_eq_true rfl) rfl ?_
  show zw_Wp l mm_X4_init (16, zk L, f) 0 [some (zR 15)] [] mem 2 50 Q
  refine wp_aload_n dd_X4_init_0 rfl ?_
  show zw_Wp l mm_X4_init (16, zk L, f) 1 [some (zR 15)] [zR 15] mem 2 50 Q
  refine wp_oinit dd_X4_init_1 lk_X4_3 oi_1 oi_2 (by decide) (by decide) ?_
  show zw_Wp l mm_X4_init (16, zk L, f) 4 [some (zR 15)] [] mem 2 50 Q
  refine wp_aload_n dd_X4_init_4 rfl ?_
  show zw_Wp l mm_X4_init (16, zk L, f) 5 [some (zR 15)] [zR 15] mem 2 50 Q
  refine wp_bipush dd_X4_init_5 (by decide) ?_
  show zw_Wp l mm_X4_init (16, zk L, f) 7 [some (zR 15)] [zI 25, zR 15] mem 2 50 Q
  refine wp_newaI (n := 25) rfl dd_X4_init_7 ac_int rfl (by intro k9; show mem 16 k9 = 0; (repeat rw [zu_row (by decide)]); exact hz 16 (by decide) (by decide) k9) (by show 16 < 1000; decide) (by decide) (by decide) ?_
  show zw_Wp l mm_X4_init (17, zk L, f) 9 [some (zR 15)] [zR 16, zR 15] mem 1 25 Q
  refine wp_putR dd_X4_init_9 pf_X4_9 rfl rfl rfl (by decide) (by show 15 < 17; decide) (by show 16 < 17; decide) (fun _ => rfl) (fun _ => rfl) ?_
  show zw_Wp l mm_X4_init (17, zk L, zur f 15 2 16) 12 [some (zR 15)] [] mem 1 25 Q
  refine wp_aload_n dd_X4_init_12 rfl ?_
  show zw_Wp l mm_X4_init (17, zk L, zur f 15 2 16) 13 [some (zR 15)] [zR 15] mem 1 25 Q
  refine wp_bipush dd_X4_init_13 (by decide) ?_
  show zw_Wp l mm_X4_init (17, zk L, zur f 15 2 16) 15 [some (zR 15)] [zI 25, zR 15] mem 1 25 Q
  refine wp_newaI (n := 25) rfl dd_X4_init_15 ac_int rfl (by intro k9; show mem 17 k9 = 0; (repeat rw [zu_row (by decide)]); exact hz 17 (by decide) (by decide) k9) (by show 17 < 1000; decide) (by decide) (by decide) ?_
  show zw_Wp l mm_X4_init (18, zk L, zur f 15 2 16) 17 [some (zR 15)] [zR 17, zR 15] mem 0 0 Q
  refine wp_putR dd_X4_init_17 pf_X4_15 rfl rfl rfl (by decide) (by show 15 < 18; decide) (by show 17 < 18; decide) (fun _ => rfl) (fun _ => rfl) ?_
  show zw_Wp l mm_X4_init (18, zk L, zur (zur f 15 2 16) 15 3 17) 20 [some (zR 15)] [] mem 0 0 Q
  refine wp_return (st := []) dd_X4_init_20 rfl ?_
  exact k

set_option maxRecDepth 100000 in
set_option maxHeartbeats 4000000 in
theorem in_X4_18 {l : Launch} {L : Nat} {mem : zMem} {f : Nat → Nat → Option Nat} {Q : zQ} (hz : ∀ a : Nat, 19 ≤ a → a < 1000 → ∀ k : Int, mem a k = 0) (k : Q none (21, zk L, zur (zur f 18 2 19) 18 3 20) mem) : zw_Ok l mm_X4_init [zR 18] (19, zk L, f) mem Q := by
  refine zw_enter (by decide) (Nat.le_of_ble_eq_true rfl) rfl ?_
  show zw_Wp l mm_X4_init (19, zk L, f) 0 [some (zR 18)] [] mem 2 50 Q
  refine wp_aload_n dd_X4_init_0 rfl ?_
  show zw_Wp l mm_X4_init (19, zk L, f) 1 [some (zR 18)] [zR 18] mem 2 50 Q
  refine wp_oinit dd_X4_init_1 lk_X4_3 oi_1 oi_2 (by decide) (by decide) ?_
  show zw_Wp l mm_X4_init (19, zk L, f) 4 [some (zR 18)] [] mem 2 50 Q
  refine wp_aload_n dd_X4_init_4 rfl ?_
  show zw_Wp l mm_X4_init (19, zk L, f) 5 [some (zR 18)] [zR 18] mem 2 50 Q
  refine wp_bipush dd_X4_init_5 (by decide) ?_
  show zw_Wp l mm_X4_init (19, zk L, f) 7 [some (zR 18)] [zI 25, zR 18] mem 2 50 Q
  refine wp_newaI (n := 25) rfl dd_X4_init_7 ac_int rfl (by intro k9; show mem 19 k9 = 0; (repeat rw [zu_row (by decide)]); exact hz 19 (by decide) (by decide) k9) (by show 19 < 1000; decide) (by decide) (by decide) ?_
  show zw_Wp l mm_X4_init (20, zk L, f) 9 [some (zR 18)] [zR 19, zR 18] mem 1 25 Q
  refine wp_putR dd_X4_init_9 pf_X4_9 rfl rfl rfl (by decide) (by show 18 < 20; decide) (by show 19 < 20; decide) (fun _ => rfl) (fun _ => rfl) ?_
  show zw_Wp l mm_X4_init (20, zk L, zur f 18 2 19) 12 [some (zR 18)] [] mem 1 25 Q
  refine wp_aload_n dd_X4_init_12 rfl ?_
  show zw_Wp l mm_X4_init (20, zk L, zur f 18 2 19) 13 [some (zR 18)] [zR 18] mem 1 25 Q
  refine wp_bipush dd_X4_init_13 (by decide) ?_
  show zw_Wp l mm_X4_init (20, zk L, zur f 18 2 19) 15 [some (zR 18)] [zI 25, zR 18] mem 1 25 Q
  refine wp_newaI (n := 25) rfl dd_X4_init_15 ac_int rfl (by intro k9; show mem 20 k9 = 0; (repeat rw [zu_row (by decide)]); exact hz 20 (by decide) (by decide) k9) (by show 20 < 1000; decide) (by decide) (by decide) ?_
  show zw_Wp l mm_X4_init (21, zk L, zur f 18 2 19) 17 [some (zR 18)] [zR 20, zR 18] mem 0 0 Q
  refine wp_putR dd_X4_init_17 pf_X4_15 rfl rfl rfl (by decide) (by show 18 < 21; decide) (by show 20 < 21; decide) (fun _ => rfl) (fun _ => rfl) ?_
  show zw_Wp l mm_X4_init (21, zk L, zur (zur f 18 2 19) 18 3 20) 20 [some (zR 18)] [] mem 0 0 Q
  refine wp_return (st := []) dd_X4_init_20 rfl ?_
  exact k

set_option maxRecDepth 100000 in
set_option maxHeartbeats 4000000 in
theorem in_X4_23 {l : Launch} {L : Nat} {mem : zMem} {f : Nat → Nat → Option Nat} {Q : zQ} (hz : ∀ a : Nat, 24 ≤ a → a < 1000 → ∀ k : Int, mem a k = 0) (k : Q none (26, zk L, zur (zur f 23 2 24) 23 3 25) mem) : zw_Ok l mm_X4_init [zR 23] (24, zk L, f) mem Q := by
  refine zw_enter (by decide) (Nat.le_of_ble_eq_true rfl) rfl ?_
  show zw_Wp l mm_X4_init (24, zk L, f) 0 [some (zR 23)] [] mem 2 50 Q
  refine wp_aload_n dd_X4_init_0 rfl ?_
  show zw_Wp l mm_X4_init (24, zk L, f) 1 [some (zR 23)] [zR 23] mem 2 50 Q
  refine wp_oinit dd_X4_init_1 lk_X4_3 oi_1 oi_2 (by decide) (by decide) ?_
  show zw_Wp l mm_X4_init (24, zk L, f) 4 [some (zR 23)] [] mem 2 50 Q
  refine wp_aload_n dd_X4_init_4 rfl ?_
  show zw_Wp l mm_X4_init (24, zk L, f) 5 [some (zR 23)] [zR 23] mem 2 50 Q
  refine wp_bipush dd_X4_init_5 (by decide) ?_
  show zw_Wp l mm_X4_init (24, zk L, f) 7 [some (zR 23)] [zI 25, zR 23] mem 2 50 Q
  refine wp_newaI (n := 25) rfl dd_X4_init_7 ac_int rfl (by intro k9; show mem 24 k9 = 0; (repeat rw [zu_row (by decide)]); exact hz 24 (by decide) (by decide) k9) (by show 24 < 1000; decide) (by decide) (by decide) ?_
  show zw_Wp l mm_X4_init (25, zk L, f) 9 [some (zR 23)] [zR 24, zR 23] mem 1 25 Q
  refine wp_putR dd_X4_init_9 pf_X4_9 rfl rfl rfl (by decide) (by show 23 < 25; decide) (by show 24 < 25; decide) (fun _ => rfl) (fun _ => rfl) ?_
  show zw_Wp l mm_X4_init (25, zk L, zur f 23 2 24) 12 [some (zR 23)] [] mem 1 25 Q
  refine wp_aload_n dd_X4_init_12 rfl ?_
  show zw_Wp l mm_X4_init (25, zk L, zur f 23 2 24) 13 [some (zR 23)] [zR 23] mem 1 25 Q
  refine wp_bipush dd_X4_init_13 (by decide) ?_
  show zw_Wp l mm_X4_init (25, zk L, zur f 23 2 24) 15 [some (zR 23)] [zI 25, zR 23] mem 1 25 Q
  refine wp_newaI (n := 25) rfl dd_X4_init_15 ac_int rfl (by intro k9; show mem 25 k9 = 0; (repeat rw [zu_row (by decide)]); exact hz 25 (by decide) (by decide) k9) (by show 25 < 1000; decide) (by decide) (by decide) ?_
  show zw_Wp l mm_X4_init (26, zk L, zur f 23 2 24) 17 [some (zR 23)] [zR 25, zR 23] mem 0 0 Q
  refine wp_putR dd_X4_init_17 pf_X4_15 rfl rfl rfl (by decide) (by show 23 < 26; decide) (by show 25 < 26; decide) (fun _ => rfl) (fun _ => rfl) ?_
  show zw_Wp l mm_X4_init (26, zk L, zur (zur f 23 2 24) 23 3 25) 20 [some (zR 23)] [] mem 0 0 Q
  refine wp_return (st := []) dd_X4_init_20 rfl ?_
  exact k

set_option maxRecDepth 100000 in
set_option maxHeartbeats 4000000 in
theorem in_X4_26 {l : Launch} {L : Nat} {mem : zMem} {f : Nat → Nat → Option Nat} {Q : zQ} (hz : ∀ a : Nat, 27 ≤ a → a < 1000 → ∀ k : Int, mem a k = 0) (k : Q none (29, zk L, zur (zur f 26 2 27) 26 3 28) mem) : zw_Ok l mm_X4_init [zR 26] (27, zk L, f) mem Q := by
  refine zw_enter (by decide) (Nat.le_of_ble_eq_true rfl) rfl ?_
  show zw_Wp l mm_X4_init (27, zk L, f) 0 [some (zR 26)] [] mem 2 50 Q
  refine wp_aload_n dd_X4_init_0 rfl ?_
  show zw_Wp l mm_X4_init (27, zk L, f) 1 [some (zR 26)] [zR 26] mem 2 50 Q
  refine wp_oinit dd_X4_init_1 lk_X4_3 oi_1 oi_2 (by decide) (by decide) ?_
  show zw_Wp l mm_X4_init (27, zk L, f) 4 [some (zR 26)] [] mem 2 50 Q
  refine wp_aload_n dd_X4_init_4 rfl ?_
  show zw_Wp l mm_X4_init (27, zk L, f) 5 [some (zR 26)] [zR 26] mem 2 50 Q
  refine wp_bipush dd_X4_init_5 (by decide) ?_
  show zw_Wp l mm_X4_init (27, zk L, f) 7 [some (zR 26)] [zI 25, zR 26] mem 2 50 Q
  refine wp_newaI (n := 25) rfl dd_X4_init_7 ac_int rfl (by intro k9; show mem 27 k9 = 0; (repeat rw [zu_row (by decide)]); exact hz 27 (by decide) (by decide) k9) (by show 27 < 1000; decide) (by decide) (by decide) ?_
  show zw_Wp l mm_X4_init (28, zk L, f) 9 [some (zR 26)] [zR 27, zR 26] mem 1 25 Q
  refine wp_putR dd_X4_init_9 pf_X4_9 rfl rfl rfl (by decide) (by show 26 < 28; decide) (by show 27 < 28; decide) (fun _ => rfl) (fun _ => rfl) ?_
  show zw_Wp l mm_X4_init (28, zk L, zur f 26 2 27) 12 [some (zR 26)] [] mem 1 25 Q
  refine wp_aload_n dd_X4_init_12 rfl ?_
  show zw_Wp l mm_X4_init (28, zk L, zur f 26 2 27) 13 [some (zR 26)] [zR 26] mem 1 25 Q
  refine wp_bipush dd_X4_init_13 (by decide) ?_
  show zw_Wp l mm_X4_init (28, zk L, zur f 26 2 27) 15 [some (zR 26)] [zI 25, zR 26] mem 1 25 Q
  refine wp_newaI (n := 25) rfl dd_X4_init_15 ac_int rfl (by intro k9; show mem 28 k9 = 0; (repeat rw [zu_row (by decide)]); exact hz 28 (by decide) (by decide) k9) (by show 28 < 1000; decide) (by decide) (by decide) ?_
  show zw_Wp l mm_X4_init (29, zk L, zur f 26 2 27) 17 [some (zR 26)] [zR 28, zR 26] mem 0 0 Q
  refine wp_putR dd_X4_init_17 pf_X4_15 rfl rfl rfl (by decide) (by show 26 < 29; decide) (by show 28 < 29; decide) (fun _ => rfl) (fun _ => rfl) ?_
  show zw_Wp l mm_X4_init (29, zk L, zur (zur f 26 2 27) 26 3 28) 20 [some (zR 26)] [] mem 0 0 Q
  refine wp_return (st := []) dd_X4_init_20 rfl ?_
  exact k

set_option maxRecDepth 100000 in
set_option maxHeartbeats 4000000 in
theorem in_X4_29 {l : Launch} {L : Nat} {mem : zMem} {f : Nat → Nat → Option Nat} {Q : zQ} (hz : ∀ a : Nat, 30 ≤ a → a < 1000 → ∀ k : Int, mem a k = 0) (k : Q none (32, zk L, zur (zur f 29 2 30) 29 3 31) mem) : zw_Ok l mm_X4_init [zR 29] (30, zk L, f) mem Q := by
  refine zw_enter (by decide) (Nat.le_of_ble_eq_true rfl) rfl ?_
  show zw_Wp l mm_X4_init (30, zk L, f) 0 [some (zR 29)] [] mem 2 50 Q
  refine wp_aload_n dd_X4_init_0 rfl ?_
  show zw_Wp l mm_X4_init (30, zk L, f) 1 [some (zR 29)] [zR 29] mem 2 50 Q
  refine wp_oinit dd_X4_init_1 lk_X4_3 oi_1 oi_2 (by decide) (by decide) ?_
  show zw_Wp l mm_X4_init (30, zk L, f) 4 [some (zR 29)] [] mem 2 50 Q
  refine wp_aload_n dd_X4_init_4 rfl ?_
  show zw_Wp l mm_X4_init (30, zk L, f) 5 [some (zR 29)] [zR 29] mem 2 50 Q
  refine wp_bipush dd_X4_init_5 (by decide) ?_
  show zw_Wp l mm_X4_init (30, zk L, f) 7 [some (zR 29)] [zI 25, zR 29] mem 2 50 Q
  refine wp_newaI (n := 25) rfl dd_X4_init_7 ac_int rfl (by intro k9; show mem 30 k9 = 0; (repeat rw [zu_row (by decide)]); exact hz 30 (by decide) (by decide) k9) (by show 30 < 1000; decide) (by decide) (by decide) ?_
  show zw_Wp l mm_X4_init (31, zk L, f) 9 [some (zR 29)] [zR 30, zR 29] mem 1 25 Q
  refine wp_putR dd_X4_init_9 pf_X4_9 rfl rfl rfl (by decide) (by show 29 < 31; decide) (by show 30 < 31; decide) (fun _ => rfl) (fun _ => rfl) ?_
  show zw_Wp l mm_X4_init (31, zk L, zur f 29 2 30) 12 [some (zR 29)] [] mem 1 25 Q
  refine wp_aload_n dd_X4_init_12 rfl ?_
  show zw_Wp l mm_X4_init (31, zk L, zur f 29 2 30) 13 [some (zR 29)] [zR 29] mem 1 25 Q
  refine wp_bipush dd_X4_init_13 (by decide) ?_
  show zw_Wp l mm_X4_init (31, zk L, zur f 29 2 30) 15 [some (zR 29)] [zI 25, zR 29] mem 1 25 Q
  refine wp_newaI (n := 25) rfl dd_X4_init_15 ac_int rfl (by intro k9; show mem 31 k9 = 0; (repeat rw [zu_row (by decide)]); exact hz 31 (by decide) (by decide) k9) (by show 31 < 1000; decide) (by decide) (by decide) ?_
  show zw_Wp l mm_X4_init (32, zk L, zur f 29 2 30) 17 [some (zR 29)] [zR 31, zR 29] mem 0 0 Q
  refine wp_putR dd_X4_init_17 pf_X4_15 rfl rfl rfl (by decide) (by show 29 < 32; decide) (by show 31 < 32; decide) (fun _ => rfl) (fun _ => rfl) ?_
  show zw_Wp l mm_X4_init (32, zk L, zur (zur f 29 2 30) 29 3 31) 20 [some (zR 29)] [] mem 0 0 Q
  refine wp_return (st := []) dd_X4_init_20 rfl ?_
  exact k

set_option maxRecDepth 100000 in
set_option maxHeartbeats 4000000 in
theorem in_X4_32 {l : Launch} {L : Nat} {mem : zMem} {f : Nat → Nat → Option Nat} {Q : zQ} (hz : ∀ a : Nat, 33 ≤ a → a < 1000 → ∀ k : Int, mem a k = 0) (k : Q none (35, zk L, zur (zur f 32 2 33) 32 3 34) mem) : zw_Ok l mm_X4_init [zR 32] (33, zk L, f) mem Q := by
  refine zw_enter (by decide) (Nat.le_of_ble_eq_true rfl) rfl ?_
  show zw_Wp l mm_X4_init (33, zk L, f) 0 [some (zR 32)] [] mem 2 50 Q
  refine wp_aload_n dd_X4_init_0 rfl ?_
  show zw_Wp l mm_X4_init (33, zk L, f) 1 [some (zR 32)] [zR 32] mem 2 50 Q
  refine wp_oinit dd_X4_init_1 lk_X4_3 oi_1 oi_2 (by decide) (by decide) ?_
  show zw_Wp l mm_X4_init (33, zk L, f) 4 [some (zR 32)] [] mem 2 50 Q
  refine wp_aload_n dd_X4_init_4 rfl ?_
  show zw_Wp l mm_X4_init (33, zk L, f) 5 [some (zR 32)] [zR 32] mem 2 50 Q
  refine wp_bipush dd_X4_init_5 (by decide) ?_
  show zw_Wp l mm_X4_init (33, zk L, f) 7 [some (zR 32)] [zI 25, zR 32] mem 2 50 Q
  refine wp_newaI (n := 25) rfl dd_X4_init_7 ac_int rfl (by intro k9; show mem 33 k9 = 0; (repeat rw [zu_row (by decide)]); exact hz 33 (by decide) (by decide) k9) (by show 33 < 1000; decide) (by decide) (by decide) ?_
  show zw_Wp l mm_X4_init (34, zk L, f) 9 [some (zR 32)] [zR 33, zR 32] mem 1 25 Q
  refine wp_putR dd_X4_init_9 pf_X4_9 rfl rfl rfl (by decide) (by show 32 < 34; decide) (by show 33 < 34; decide) (fun _ => rfl) (fun _ => rfl) ?_
  show zw_Wp l mm_X4_init (34, zk L, zur f 32 2 33) 12 [some (zR 32)] [] mem 1 25 Q
  refine wp_aload_n dd_X4_init_12 rfl ?_
  show zw_Wp l mm_X4_init (34, zk L, zur f 32 2 33) 13 [some (zR 32)] [zR 32] mem 1 25 Q
  refine wp_bipush dd_X4_init_13 (by decide) ?_
  show zw_Wp l mm_X4_init (34, zk L, zur f 32 2 33) 15 [some (zR 32)] [zI 25, zR 32] mem 1 25 Q
  refine wp_newaI (n := 25) rfl dd_X4_init_15 ac_int rfl (by intro k9; show mem 34 k9 = 0; (repeat rw [zu_row (by decide)]); exact hz 34 (by decide) (by decide) k9) (by show 34 < 1000; decide) (by decide) (by decide) ?_
  show zw_Wp l mm_X4_init (35, zk L, zur f 32 2 33) 17 [some (zR 32)] [zR 34, zR 32] mem 0 0 Q
  refine wp_putR dd_X4_init_17 pf_X4_15 rfl rfl rfl (by decide) (by show 32 < 35; decide) (by show 34 < 35; decide) (fun _ => rfl) (fun _ => rfl) ?_
  show zw_Wp l mm_X4_init (35, zk L, zur (zur f 32 2 33) 32 3 34) 20 [some (zR 32)] [] mem 0 0 Q
  refine wp_return (st := []) dd_X4_init_20 rfl ?_
  exact k

set_option maxRecDepth 100000 in
set_option maxHeartbeats 4000000 in
theorem in_X4_35 {l : Launch} {L : Nat} {mem : zMem} {f : Nat → Nat → Option Nat} {Q : zQ} (hz : ∀ a : Nat, 36 ≤ a → a < 1000 → ∀ k : Int, mem a k = 0) (k : Q none (38, zk L, zur (zur f 35 2 36) 35 3 37) mem) : zw_Ok l mm_X4_init [zR 35] (36, zk L, f) mem Q := by
  refine zw_enter (by decide) (Nat.le_of_ble_eq_true rfl) rfl ?_
  show zw_Wp l mm_X4_init (36, zk L, f) 0 [some (zR 35)] [] mem 2 50 Q
  refine wp_aload_n dd_X4_init_0 rfl ?_
  show zw_Wp l mm_X4_init (36, zk L, f) 1 [some (zR 35)] [zR 35] mem 2 50 Q
  refine wp_oinit dd_X4_init_1 lk_X4_3 oi_1 oi_2 (by decide) (by decide) ?_
  show zw_Wp l mm_X4_init (36, zk L, f) 4 [some (zR 35)] [] mem 2 50 Q
  refine wp_aload_n dd_X4_init_4 rfl ?_
  show zw_Wp l mm_X4_init (36, zk L, f) 5 [some (zR 35)] [zR 35] mem 2 50 Q
  refine wp_bipush dd_X4_init_5 (by decide) ?_
  show zw_Wp l mm_X4_init (36, zk L, f) 7 [some (zR 35)] [zI 25, zR 35] mem 2 50 Q
  refine wp_newaI (n := 25) rfl dd_X4_init_7 ac_int rfl (by intro k9; show mem 36 k9 = 0; (repeat rw [zu_row (by decide)]); exact hz 36 (by decide) (by decide) k9) (by show 36 < 1000; decide) (by decide) (by decide) ?_
  show zw_Wp l mm_X4_init (37, zk L, f) 9 [some (zR 35)] [zR 36, zR 35] mem 1 25 Q
  refine wp_putR dd_X4_init_9 pf_X4_9 rfl rfl rfl (by decide) (by show 35 < 37; decide) (by show 36 < 37; decide) (fun _ => rfl) (fun _ => rfl) ?_
  show zw_Wp l mm_X4_init (37, zk L, zur f 35 2 36) 12 [some (zR 35)] [] mem 1 25 Q
  refine wp_aload_n dd_X4_init_12 rfl ?_
  show zw_Wp l mm_X4_init (37, zk L, zur f 35 2 36) 13 [some (zR 35)] [zR 35] mem 1 25 Q
  refine wp_bipush dd_X4_init_13 (by decide) ?_
  show zw_Wp l mm_X4_init (37, zk L, zur f 35 2 36) 15 [some (zR 35)] [zI 25, zR 35] mem 1 25 Q
  refine wp_newaI (n := 25) rfl dd_X4_init_15 ac_int rfl (by intro k9; show mem 37 k9 = 0; (repeat rw [zu_row (by decide)]); exact hz 37 (by decide) (by decide) k9) (by show 37 < 1000; decide) (by decide) (by decide) ?_
  show zw_Wp l mm_X4_init (38, zk L, zur f 35 2 36) 17 [some (zR 35)] [zR 37, zR 35] mem 0 0 Q
  refine wp_putR dd_X4_init_17 pf_X4_15 rfl rfl rfl (by decide) (by show 35 < 38; decide) (by show 37 < 38; decide) (fun _ => rfl) (fun _ => rfl) ?_
  show zw_Wp l mm_X4_init (38, zk L, zur (zur f 35 2 36) 35 3 37) 20 [some (zR 35)] [] mem 0 0 Q
  refine wp_return (st := []) dd_X4_init_20 rfl ?_
  exact k

set_option maxRecDepth 100000 in
set_option maxHeartbeats 4000000 in
theorem in_X4_38 {l : Launch} {L : Nat} {mem : zMem} {f : Nat → Nat → Option Nat} {Q : zQ} (hz : ∀ a : Nat, 39 ≤ a → a < 1000 → ∀ k : Int, mem a k = 0) (k : Q none (41, zk L, zur (zur f 38 2 39) 38 3 40) mem) : zw_Ok l mm_X4_init [zR 38] (39, zk L, f) mem Q := by
  refine zw_enter (by decide) (Nat.le_of_ble_eq_true rfl) rfl ?_
  show zw_Wp l mm_X4_init (39, zk L, f) 0 [some (zR 38)] [] mem 2 50 Q
  refine wp_aload_n dd_X4_init_0 rfl ?_
  show zw_Wp l mm_X4_init (39, zk L, f) 1 [some (zR 38)] [zR 38] mem 2 50 Q
  refine wp_oinit dd_X4_init_1 lk_X4_3 oi_1 oi_2 (by decide) (by decide) ?_
  show zw_Wp l mm_X4_init (39, zk L, f) 4 [some (zR 38)] [] mem 2 50 Q
  refine wp_aload_n dd_X4_init_4 rfl ?_
  show zw_Wp l mm_X4_init (39, zk L, f) 5 [some (zR 38)] [zR 38] mem 2 50 Q
  refine wp_bipush dd_X4_init_5 (by decide) ?_
  show zw_Wp l mm_X4_init (39, zk L, f) 7 [some (zR 38)] [zI 25, zR 38] mem 2 50 Q
  refine wp_newaI (n := 25) rfl dd_X4_init_7 ac_int rfl (by intro k9; show mem 39 k9 = 0; (repeat rw [zu_row (by decide)]); exact hz 39 (by decide) (by decide) k9) (by show 39 < 1000; decide) (by decide) (by decide) ?_
  show zw_Wp l mm_X4_init (40, zk L, f) 9 [some (zR 38)] [zR 39, zR 38] mem 1 25 Q
  refine wp_putR dd_X4_init_9 pf_X4_9 rfl rfl rfl (by decide) (by show 38 < 40; decide) (by show 39 < 40; decide) (fun _ => rfl) (fun _ => rfl) ?_
  show zw_Wp l mm_X4_init (40, zk L, zur f 38 2 39) 12 [some (zR 38)] [] mem 1 25 Q
  refine wp_aload_n dd_X4_init_12 rfl ?_
  show zw_Wp l mm_X4_init (40, zk L, zur f 38 2 39) 13 [some (zR 38)] [zR 38] mem 1 25 Q
  refine wp_bipush dd_X4_init_13 (by decide) ?_
  show zw_Wp l mm_X4_init (40, zk L, zur f 38 2 39) 15 [some (zR 38)] [zI 25, zR 38] mem 1 25 Q
  refine wp_newaI (n := 25) rfl dd_X4_init_15 ac_int rfl (by intro k9; show mem 40 k9 = 0; (repeat rw [zu_row (by decide)]); exact hz 40 (by decide) (by decide) k9) (by show 40 < 1000; decide) (by decide) (by decide) ?_
  show zw_Wp l mm_X4_init (41, zk L, zur f 38 2 39) 17 [some (zR 38)] [zR 40, zR 38] mem 0 0 Q
  refine wp_putR dd_X4_init_17 pf_X4_15 rfl rfl rfl (by decide) (by show 38 < 41; decide) (by show 40 < 41; decide) (fun _ => rfl) (fun _ => rfl) ?_
  show zw_Wp l mm_X4_init (41, zk L, zur (zur f 38 2 39) 38 3 40) 20 [some (zR 38)] [] mem 0 0 Q
  refine wp_return (st := []) dd_X4_init_20 rfl ?_
  exact k


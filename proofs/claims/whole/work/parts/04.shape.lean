/-! ===== the cells of both objects: 0 .. 66 the class, 67 .. 88 the reference; 1000 PRIMES, 1001 the script ===== -/
def zk_tab : List (Nat × Nat) := [(12, 11), (10, 3), (2, 6), (6, 4), (0, 25), (0, 25), (6, 4), (0, 25), (0, 25), (6, 4), (0, 25), (0, 25), (6, 4), (0, 25), (0, 25), (6, 4), (0, 25), (0, 25), (6, 4), (0, 25), (0, 25), (10, 3), (2, 6), (6, 4), (0, 25), (0, 25), (6, 4), (0, 25), (0, 25), (6, 4), (0, 25), (0, 25), (6, 4), (0, 25), (0, 25), (6, 4), (0, 25), (0, 25), (6, 4), (0, 25), (0, 25), (8, 7), (0, 25), (0, 72), (5, 4), (0, 16), (0, 16), (0, 16), (11, 8), (0, 41), (0, 576), (0, 8448), (0, 256), (3, 4), (0, 5), (0, 5), (0, 8), (7, 3), (0, 81), (0, 162), (9, 8), (0, 5), (0, 5), (4, 2), (0, 3), (0, 120), (0, 7), (13, 36), (0, 7), (0, 150), (0, 6), (0, 6), (0, 16), (0, 16), (0, 72), (0, 25), (0, 25), (0, 25), (0, 576), (0, 10496), (0, 41), (0, 5), (0, 5), (0, 9), (1, 144), (0, 90), (0, 3), (0, 120), (0, 170)]
def zr_tab : List (List (Option Nat)) := [[some 1, some 21, some 41, some 44, some 48, some 53, some 57, some 60, some 63, some 66], [none, none, some 2], [some 3, some 6, some 9, some 12, some 15, some 18], [none, none, some 4, some 5], [], [], [none, none, some 7, some 8], [], [], [none, none, some 10, some 11], [], [], [none, none, some 13, some 14], [], [], [none, none, some 16, some 17], [], [], [none, none, some 19, some 20], [], [], [none, none, some 22], [some 23, some 26, some 29, some 32, some 35, some 38], [none, none, some 24, some 25], [], [], [none, none, some 27, some 28], [], [], [none, none, some 30, some 31], [], [], [none, none, some 33, some 34], [], [], [none, none, some 36, some 37], [], [], [none, none, some 39, some 40], [], [], [none, some 42, some 43], [], [], [none, some 45, some 46, some 47], [], [], [], [some 49, some 50, some 51, some 52], [], [], [], [], [some 54, some 55, none, some 56], [], [], [], [some 58, some 59], [], [], [none, none, none, none, none, some 61, some 62], [], [], [some 64, some 65], [], [], [], [some 68, none, some 69, some 70, some 71, none, some 72, some 73, none, some 74, some 75, none, none, some 76, some 77, none, none, some 78, none, some 79, some 80, some 81, some 82, some 83, none, none, some 84, some 85, none, none, some 86, some 87, some 88], [], [], [], [], [], [], [], [], [], [], [], [], [], [], [], [], [], [], [], [], []]
def zk (L i : Nat) : Nat × Nat := if i = 1001 then (0, L) else if i = 1000 then (0, 11) else zk_tab.getD i (0, 0)
def zrf (i k : Nat) : Option Nat := (zr_tab.getD i []).getD k none
def zS (L : Nat) : zSh := (89, zk L, zrf)
theorem zlt {L i : Nat} (h : Nat.ble (i + 1) 89 = true) : i < (zS L).1 := Nat.le_of_ble_eq_true h
theorem kk_0 {L : Nat} : (zS L).2.1 0 = (9 + 3, 11) := rfl
theorem rr_0_0 {L : Nat} : (zS L).2.2 0 0 = some 1 := rfl
theorem rr_0_1 {L : Nat} : (zS L).2.2 0 1 = some 21 := rfl
theorem rr_0_2 {L : Nat} : (zS L).2.2 0 2 = some 41 := rfl
theorem rr_0_3 {L : Nat} : (zS L).2.2 0 3 = some 44 := rfl
theorem rr_0_4 {L : Nat} : (zS L).2.2 0 4 = some 48 := rfl
theorem rr_0_5 {L : Nat} : (zS L).2.2 0 5 = some 53 := rfl
theorem rr_0_6 {L : Nat} : (zS L).2.2 0 6 = some 57 := rfl
theorem rr_0_7 {L : Nat} : (zS L).2.2 0 7 = some 60 := rfl
theorem rr_0_8 {L : Nat} : (zS L).2.2 0 8 = some 63 := rfl
theorem rr_0_9 {L : Nat} : (zS L).2.2 0 9 = some 66 := rfl
theorem kk_1 {L : Nat} : (zS L).2.1 1 = (7 + 3, 3) := rfl
theorem rr_1_2 {L : Nat} : (zS L).2.2 1 2 = some 2 := rfl
theorem kk_2 {L : Nat} : (zS L).2.1 2 = (2, 6) := rfl
theorem rr_2_0 {L : Nat} : (zS L).2.2 2 0 = some 3 := rfl
theorem rr_2_1 {L : Nat} : (zS L).2.2 2 1 = some 6 := rfl
theorem rr_2_2 {L : Nat} : (zS L).2.2 2 2 = some 9 := rfl
theorem rr_2_3 {L : Nat} : (zS L).2.2 2 3 = some 12 := rfl
theorem rr_2_4 {L : Nat} : (zS L).2.2 2 4 = some 15 := rfl
theorem rr_2_5 {L : Nat} : (zS L).2.2 2 5 = some 18 := rfl
theorem kk_3 {L : Nat} : (zS L).2.1 3 = (3 + 3, 4) := rfl
theorem rr_3_2 {L : Nat} : (zS L).2.2 3 2 = some 4 := rfl
theorem rr_3_3 {L : Nat} : (zS L).2.2 3 3 = some 5 := rfl
theorem kk_4 {L : Nat} : (zS L).2.1 4 = (0, 25) := rfl
theorem kk_5 {L : Nat} : (zS L).2.1 5 = (0, 25) := rfl
theorem kk_6 {L : Nat} : (zS L).2.1 6 = (3 + 3, 4) := rfl
theorem rr_6_2 {L : Nat} : (zS L).2.2 6 2 = some 7 := rfl
theorem rr_6_3 {L : Nat} : (zS L).2.2 6 3 = some 8 := rfl
theorem kk_7 {L : Nat} : (zS L).2.1 7 = (0, 25) := rfl
theorem kk_8 {L : Nat} : (zS L).2.1 8 = (0, 25) := rfl
theorem kk_9 {L : Nat} : (zS L).2.1 9 = (3 + 3, 4) := rfl
theorem rr_9_2 {L : Nat} : (zS L).2.2 9 2 = some 10 := rfl
theorem rr_9_3 {L : Nat} : (zS L).2.2 9 3 = some 11 := rfl
theorem kk_10 {L : Nat} : (zS L).2.1 10 = (0, 25) := rfl
theorem kk_11 {L : Nat} : (zS L).2.1 11 = (0, 25) := rfl
theorem kk_12 {L : Nat} : (zS L).2.1 12 = (3 + 3, 4) := rfl
theorem rr_12_2 {L : Nat} : (zS L).2.2 12 2 = some 13 := rfl
theorem rr_12_3 {L : Nat} : (zS L).2.2 12 3 = some 14 := rfl
theorem kk_13 {L : Nat} : (zS L).2.1 13 = (0, 25) := rfl
theorem kk_14 {L : Nat} : (zS L).2.1 14 = (0, 25) := rfl
theorem kk_15 {L : Nat} : (zS L).2.1 15 = (3 + 3, 4) := rfl
theorem rr_15_2 {L : Nat} : (zS L).2.2 15 2 = some 16 := rfl
theorem rr_15_3 {L : Nat} : (zS L).2.2 15 3 = some 17 := rfl
theorem kk_16 {L : Nat} : (zS L).2.1 16 = (0, 25) := rfl
theorem kk_17 {L : Nat} : (zS L).2.1 17 = (0, 25) := rfl
theorem kk_18 {L : Nat} : (zS L).2.1 18 = (3 + 3, 4) := rfl
theorem rr_18_2 {L : Nat} : (zS L).2.2 18 2 = some 19 := rfl
theorem rr_18_3 {L : Nat} : (zS L).2.2 18 3 = some 20 := rfl
theorem kk_19 {L : Nat} : (zS L).2.1 19 = (0, 25) := rfl
theorem kk_20 {L : Nat} : (zS L).2.1 20 = (0, 25) := rfl
theorem kk_21 {L : Nat} : (zS L).2.1 21 = (7 + 3, 3) := rfl
theorem rr_21_2 {L : Nat} : (zS L).2.2 21 2 = some 22 := rfl
theorem kk_22 {L : Nat} : (zS L).2.1 22 = (2, 6) := rfl
theorem rr_22_0 {L : Nat} : (zS L).2.2 22 0 = some 23 := rfl
theorem rr_22_1 {L : Nat} : (zS L).2.2 22 1 = some 26 := rfl
theorem rr_22_2 {L : Nat} : (zS L).2.2 22 2 = some 29 := rfl
theorem rr_22_3 {L : Nat} : (zS L).2.2 22 3 = some 32 := rfl
theorem rr_22_4 {L : Nat} : (zS L).2.2 22 4 = some 35 := rfl
theorem rr_22_5 {L : Nat} : (zS L).2.2 22 5 = some 38 := rfl
theorem kk_23 {L : Nat} : (zS L).2.1 23 = (3 + 3, 4) := rfl
theorem rr_23_2 {L : Nat} : (zS L).2.2 23 2 = some 24 := rfl
theorem rr_23_3 {L : Nat} : (zS L).2.2 23 3 = some 25 := rfl
theorem kk_24 {L : Nat} : (zS L).2.1 24 = (0, 25) := rfl
theorem kk_25 {L : Nat} : (zS L).2.1 25 = (0, 25) := rfl
theorem kk_26 {L : Nat} : (zS L).2.1 26 = (3 + 3, 4) := rfl
theorem rr_26_2 {L : Nat} : (zS L).2.2 26 2 = some 27 := rfl
theorem rr_26_3 {L : Nat} : (zS L).2.2 26 3 = some 28 := rfl
theorem kk_27 {L : Nat} : (zS L).2.1 27 = (0, 25) := rfl
theorem kk_28 {L : Nat} : (zS L).2.1 28 = (0, 25) := rfl
theorem kk_29 {L : Nat} : (zS L).2.1 29 = (3 + 3, 4) := rfl
theorem rr_29_2 {L : Nat} : (zS L).2.2 29 2 = some 30 := rfl
theorem rr_29_3 {L : Nat} : (zS L).2.2 29 3 = some 31 := rfl
theorem kk_30 {L : Nat} : (zS L).2.1 30 = (0, 25) := rfl
theorem kk_31 {L : Nat} : (zS L).2.1 31 = (0, 25) := rfl
theorem kk_32 {L : Nat} : (zS L).2.1 32 = (3 + 3, 4) := rfl
theorem rr_32_2 {L : Nat} : (zS L).2.2 32 2 = some 33 := rfl
theorem rr_32_3 {L : Nat} : (zS L).2.2 32 3 = some 34 := rfl
theorem kk_33 {L : Nat} : (zS L).2.1 33 = (0, 25) := rfl
theorem kk_34 {L : Nat} : (zS L).2.1 34 = (0, 25) := rfl
theorem kk_35 {L : Nat} : (zS L).2.1 35 = (3 + 3, 4) := rfl
theorem rr_35_2 {L : Nat} : (zS L).2.2 35 2 = some 36 := rfl
theorem rr_35_3 {L : Nat} : (zS L).2.2 35 3 = some 37 := rfl
theorem kk_36 {L : Nat} : (zS L).2.1 36 = (0, 25) := rfl
theorem kk_37 {L : Nat} : (zS L).2.1 37 = (0, 25) := rfl
theorem kk_38 {L : Nat} : (zS L).2.1 38 = (3 + 3, 4) := rfl
theorem rr_38_2 {L : Nat} : (zS L).2.2 38 2 = some 39 := rfl
theorem rr_38_3 {L : Nat} : (zS L).2.2 38 3 = some 40 := rfl
theorem kk_39 {L : Nat} : (zS L).2.1 39 = (0, 25) := rfl
theorem kk_40 {L : Nat} : (zS L).2.1 40 = (0, 25) := rfl
theorem kk_41 {L : Nat} : (zS L).2.1 41 = (5 + 3, 7) := rfl
theorem rr_41_1 {L : Nat} : (zS L).2.2 41 1 = some 42 := rfl
theorem rr_41_2 {L : Nat} : (zS L).2.2 41 2 = some 43 := rfl
theorem kk_42 {L : Nat} : (zS L).2.1 42 = (0, 25) := rfl
theorem kk_43 {L : Nat} : (zS L).2.1 43 = (0, 72) := rfl
theorem kk_44 {L : Nat} : (zS L).2.1 44 = (2 + 3, 4) := rfl
theorem rr_44_1 {L : Nat} : (zS L).2.2 44 1 = some 45 := rfl
theorem rr_44_2 {L : Nat} : (zS L).2.2 44 2 = some 46 := rfl
theorem rr_44_3 {L : Nat} : (zS L).2.2 44 3 = some 47 := rfl
theorem kk_45 {L : Nat} : (zS L).2.1 45 = (0, 16) := rfl
theorem kk_46 {L : Nat} : (zS L).2.1 46 = (0, 16) := rfl
theorem kk_47 {L : Nat} : (zS L).2.1 47 = (0, 16) := rfl
theorem kk_48 {L : Nat} : (zS L).2.1 48 = (8 + 3, 8) := rfl
theorem rr_48_0 {L : Nat} : (zS L).2.2 48 0 = some 49 := rfl
theorem rr_48_1 {L : Nat} : (zS L).2.2 48 1 = some 50 := rfl
theorem rr_48_2 {L : Nat} : (zS L).2.2 48 2 = some 51 := rfl
theorem rr_48_3 {L : Nat} : (zS L).2.2 48 3 = some 52 := rfl
theorem kk_49 {L : Nat} : (zS L).2.1 49 = (0, 41) := rfl
theorem kk_50 {L : Nat} : (zS L).2.1 50 = (0, 576) := rfl
theorem kk_51 {L : Nat} : (zS L).2.1 51 = (0, 8448) := rfl
theorem kk_52 {L : Nat} : (zS L).2.1 52 = (0, 256) := rfl
theorem kk_53 {L : Nat} : (zS L).2.1 53 = (0 + 3, 4) := rfl
theorem rr_53_0 {L : Nat} : (zS L).2.2 53 0 = some 54 := rfl
theorem rr_53_1 {L : Nat} : (zS L).2.2 53 1 = some 55 := rfl
theorem rr_53_3 {L : Nat} : (zS L).2.2 53 3 = some 56 := rfl
theorem kk_54 {L : Nat} : (zS L).2.1 54 = (0, 5) := rfl
theorem kk_55 {L : Nat} : (zS L).2.1 55 = (0, 5) := rfl
theorem kk_56 {L : Nat} : (zS L).2.1 56 = (0, 8) := rfl
theorem kk_57 {L : Nat} : (zS L).2.1 57 = (4 + 3, 3) := rfl
theorem rr_57_0 {L : Nat} : (zS L).2.2 57 0 = some 58 := rfl
theorem rr_57_1 {L : Nat} : (zS L).2.2 57 1 = some 59 := rfl
theorem kk_58 {L : Nat} : (zS L).2.1 58 = (0, 81) := rfl
theorem kk_59 {L : Nat} : (zS L).2.1 59 = (0, 162) := rfl
theorem kk_60 {L : Nat} : (zS L).2.1 60 = (6 + 3, 8) := rfl
theorem rr_60_5 {L : Nat} : (zS L).2.2 60 5 = some 61 := rfl
theorem rr_60_6 {L : Nat} : (zS L).2.2 60 6 = some 62 := rfl
theorem kk_61 {L : Nat} : (zS L).2.1 61 = (0, 5) := rfl
theorem kk_62 {L : Nat} : (zS L).2.1 62 = (0, 5) := rfl
theorem kk_63 {L : Nat} : (zS L).2.1 63 = (1 + 3, 2) := rfl
theorem rr_63_0 {L : Nat} : (zS L).2.2 63 0 = some 64 := rfl
theorem rr_63_1 {L : Nat} : (zS L).2.2 63 1 = some 65 := rfl
theorem kk_64 {L : Nat} : (zS L).2.1 64 = (0, 3) := rfl
theorem kk_65 {L : Nat} : (zS L).2.1 65 = (0, 120) := rfl
theorem kk_66 {L : Nat} : (zS L).2.1 66 = (0, 7) := rfl
theorem kk_67 {L : Nat} : (zS L).2.1 67 = (10 + 3, 36) := rfl
theorem rr_67_0 {L : Nat} : (zS L).2.2 67 0 = some 68 := rfl
theorem rr_67_2 {L : Nat} : (zS L).2.2 67 2 = some 69 := rfl
theorem rr_67_3 {L : Nat} : (zS L).2.2 67 3 = some 70 := rfl
theorem rr_67_4 {L : Nat} : (zS L).2.2 67 4 = some 71 := rfl
theorem rr_67_6 {L : Nat} : (zS L).2.2 67 6 = some 72 := rfl
theorem rr_67_7 {L : Nat} : (zS L).2.2 67 7 = some 73 := rfl
theorem rr_67_9 {L : Nat} : (zS L).2.2 67 9 = some 74 := rfl
theorem rr_67_10 {L : Nat} : (zS L).2.2 67 10 = some 75 := rfl
theorem rr_67_13 {L : Nat} : (zS L).2.2 67 13 = some 76 := rfl
theorem rr_67_14 {L : Nat} : (zS L).2.2 67 14 = some 77 := rfl
theorem rr_67_17 {L : Nat} : (zS L).2.2 67 17 = some 78 := rfl
theorem rr_67_19 {L : Nat} : (zS L).2.2 67 19 = some 79 := rfl
theorem rr_67_20 {L : Nat} : (zS L).2.2 67 20 = some 80 := rfl
theorem rr_67_21 {L : Nat} : (zS L).2.2 67 21 = some 81 := rfl
theorem rr_67_22 {L : Nat} : (zS L).2.2 67 22 = some 82 := rfl
theorem rr_67_23 {L : Nat} : (zS L).2.2 67 23 = some 83 := rfl
theorem rr_67_26 {L : Nat} : (zS L).2.2 67 26 = some 84 := rfl
theorem rr_67_27 {L : Nat} : (zS L).2.2 67 27 = some 85 := rfl
theorem rr_67_30 {L : Nat} : (zS L).2.2 67 30 = some 86 := rfl
theorem rr_67_31 {L : Nat} : (zS L).2.2 67 31 = some 87 := rfl
theorem rr_67_32 {L : Nat} : (zS L).2.2 67 32 = some 88 := rfl
theorem kk_68 {L : Nat} : (zS L).2.1 68 = (0, 7) := rfl
theorem kk_69 {L : Nat} : (zS L).2.1 69 = (0, 150) := rfl
theorem kk_70 {L : Nat} : (zS L).2.1 70 = (0, 6) := rfl
theorem kk_71 {L : Nat} : (zS L).2.1 71 = (0, 6) := rfl
theorem kk_72 {L : Nat} : (zS L).2.1 72 = (0, 16) := rfl
theorem kk_73 {L : Nat} : (zS L).2.1 73 = (0, 16) := rfl
theorem kk_74 {L : Nat} : (zS L).2.1 74 = (0, 72) := rfl
theorem kk_75 {L : Nat} : (zS L).2.1 75 = (0, 25) := rfl
theorem kk_76 {L : Nat} : (zS L).2.1 76 = (0, 25) := rfl
theorem kk_77 {L : Nat} : (zS L).2.1 77 = (0, 25) := rfl
theorem kk_78 {L : Nat} : (zS L).2.1 78 = (0, 576) := rfl
theorem kk_79 {L : Nat} : (zS L).2.1 79 = (0, 10496) := rfl
theorem kk_80 {L : Nat} : (zS L).2.1 80 = (0, 41) := rfl
theorem kk_81 {L : Nat} : (zS L).2.1 81 = (0, 5) := rfl
theorem kk_82 {L : Nat} : (zS L).2.1 82 = (0, 5) := rfl
theorem kk_83 {L : Nat} : (zS L).2.1 83 = (0, 9) := rfl
theorem kk_84 {L : Nat} : (zS L).2.1 84 = (1, 144) := rfl
theorem kk_85 {L : Nat} : (zS L).2.1 85 = (0, 90) := rfl
theorem kk_86 {L : Nat} : (zS L).2.1 86 = (0, 3) := rfl
theorem kk_87 {L : Nat} : (zS L).2.1 87 = (0, 120) := rfl
theorem kk_88 {L : Nat} : (zS L).2.1 88 = (0, 170) := rfl
theorem kk_1000 {L : Nat} : (zS L).2.1 1000 = (0, 11) := rfl
theorem kk_1001 {L : Nat} : (zS L).2.1 1001 = (0, L) := rfl
theorem zw_mem {w : Cond} (i : Nat) (h : lw_tbl[i]? = some w) (hg : goodWord w = true) : w ∈ lw_g := List.mem_filter.mpr ⟨List.mem_of_getElem? h, hg⟩
theorem ul_X0 : ∀ w ∈ u_ws RX0 TX0 4, w ∈ lw_g := by
  intro w hw
  obtain ⟨k, hk, rfl⟩ := List.mem_map.mp hw
  have hk := List.mem_range.mp hk
  match k, hk with
  | 0, _ => exact zw_mem 257 (by decide +kernel) rfl
  | 1, _ => exact zw_mem 259 (by decide +kernel) rfl
  | 2, _ => exact zw_mem 261 (by decide +kernel) rfl
  | 3, _ => exact zw_mem 263 (by decide +kernel) rfl
  | k + 4, hk => exact absurd hk (by omega)
theorem zcl_X0 : zw_cl 0 RX0 TX0 4 tyX0 := ⟨rfl, ul_X0, tyX0_ok, nmX0⟩
theorem ul_X1 : ∀ w ∈ u_ws RX1 TX1 2, w ∈ lw_g := by
  intro w hw
  obtain ⟨k, hk, rfl⟩ := List.mem_map.mp hw
  have hk := List.mem_range.mp hk
  match k, hk with
  | 0, _ => exact zw_mem 326 (by decide +kernel) rfl
  | 1, _ => exact zw_mem 328 (by decide +kernel) rfl
  | k + 2, hk => exact absurd hk (by omega)
theorem zcl_X1 : zw_cl 1 RX1 TX1 2 tyX1 := ⟨rfl, ul_X1, tyX1_ok, nmX1⟩
theorem ul_X3 : ∀ w ∈ u_ws RX3 TX3 4, w ∈ lw_g := by
  intro w hw
  obtain ⟨k, hk, rfl⟩ := List.mem_map.mp hw
  have hk := List.mem_range.mp hk
  match k, hk with
  | 0, _ => exact zw_mem 203 (by decide +kernel) rfl
  | 1, _ => exact zw_mem 205 (by decide +kernel) rfl
  | 2, _ => exact zw_mem 207 (by decide +kernel) rfl
  | 3, _ => exact zw_mem 209 (by decide +kernel) rfl
  | k + 4, hk => exact absurd hk (by omega)
theorem zcl_X3 : zw_cl 2 RX3 TX3 4 tyX3 := ⟨rfl, ul_X3, tyX3_ok, nmX3⟩
theorem ul_X4 : ∀ w ∈ u_ws RX4 TX4 4, w ∈ lw_g := by
  intro w hw
  obtain ⟨k, hk, rfl⟩ := List.mem_map.mp hw
  have hk := List.mem_range.mp hk
  match k, hk with
  | 0, _ => exact zw_mem 137 (by decide +kernel) rfl
  | 1, _ => exact zw_mem 139 (by decide +kernel) rfl
  | 2, _ => exact zw_mem 141 (by decide +kernel) rfl
  | 3, _ => exact zw_mem 143 (by decide +kernel) rfl
  | k + 4, hk => exact absurd hk (by omega)
theorem zcl_X4 : zw_cl 3 RX4 TX4 4 tyX4 := ⟨rfl, ul_X4, tyX4_ok, nmX4⟩
theorem ul_X5 : ∀ w ∈ u_ws RX5 TX5 3, w ∈ lw_g := by
  intro w hw
  obtain ⟨k, hk, rfl⟩ := List.mem_map.mp hw
  have hk := List.mem_range.mp hk
  match k, hk with
  | 0, _ => exact zw_mem 275 (by decide +kernel) rfl
  | 1, _ => exact zw_mem 277 (by decide +kernel) rfl
  | 2, _ => exact zw_mem 279 (by decide +kernel) rfl
  | k + 3, hk => exact absurd hk (by omega)
theorem zcl_X5 : zw_cl 4 RX5 TX5 3 tyX5 := ⟨rfl, ul_X5, tyX5_ok, nmX5⟩
theorem ul_X6 : ∀ w ∈ u_ws RX6 TX6 7, w ∈ lw_g := by
  intro w hw
  obtain ⟨k, hk, rfl⟩ := List.mem_map.mp hw
  have hk := List.mem_range.mp hk
  match k, hk with
  | 0, _ => exact zw_mem 177 (by decide +kernel) rfl
  | 1, _ => exact zw_mem 179 (by decide +kernel) rfl
  | 2, _ => exact zw_mem 181 (by decide +kernel) rfl
  | 3, _ => exact zw_mem 183 (by decide +kernel) rfl
  | 4, _ => exact zw_mem 185 (by decide +kernel) rfl
  | 5, _ => exact zw_mem 187 (by decide +kernel) rfl
  | 6, _ => exact zw_mem 189 (by decide +kernel) rfl
  | k + 7, hk => exact absurd hk (by omega)
theorem zcl_X6 : zw_cl 5 RX6 TX6 7 tyX6 := ⟨rfl, ul_X6, tyX6_ok, nmX6⟩
theorem ul_X7 : ∀ w ∈ u_ws RX7 TX7 8, w ∈ lw_g := by
  intro w hw
  obtain ⟨k, hk, rfl⟩ := List.mem_map.mp hw
  have hk := List.mem_range.mp hk
  match k, hk with
  | 0, _ => exact zw_mem 301 (by decide +kernel) rfl
  | 1, _ => exact zw_mem 303 (by decide +kernel) rfl
  | 2, _ => exact zw_mem 305 (by decide +kernel) rfl
  | 3, _ => exact zw_mem 307 (by decide +kernel) rfl
  | 4, _ => exact zw_mem 309 (by decide +kernel) rfl
  | 5, _ => exact zw_mem 311 (by decide +kernel) rfl
  | 6, _ => exact zw_mem 313 (by decide +kernel) rfl
  | 7, _ => exact zw_mem 315 (by decide +kernel) rfl
  | k + 8, hk => exact absurd hk (by omega)
theorem zcl_X7 : zw_cl 6 RX7 TX7 8 tyX7 := ⟨rfl, ul_X7, tyX7_ok, nmX7⟩
theorem ul_X8 : ∀ w ∈ u_ws RX8 TX8 3, w ∈ lw_g := by
  intro w hw
  obtain ⟨k, hk, rfl⟩ := List.mem_map.mp hw
  have hk := List.mem_range.mp hk
  match k, hk with
  | 0, _ => exact zw_mem 155 (by decide +kernel) rfl
  | 1, _ => exact zw_mem 157 (by decide +kernel) rfl
  | 2, _ => exact zw_mem 159 (by decide +kernel) rfl
  | k + 3, hk => exact absurd hk (by omega)
theorem zcl_X8 : zw_cl 7 RX8 TX8 3 tyX8 := ⟨rfl, ul_X8, tyX8_ok, nmX8⟩
theorem ul_X9 : ∀ w ∈ u_ws RX9 TX9 8, w ∈ lw_g := by
  intro w hw
  obtain ⟨k, hk, rfl⟩ := List.mem_map.mp hw
  have hk := List.mem_range.mp hk
  match k, hk with
  | 0, _ => exact zw_mem 227 (by decide +kernel) rfl
  | 1, _ => exact zw_mem 229 (by decide +kernel) rfl
  | 2, _ => exact zw_mem 231 (by decide +kernel) rfl
  | 3, _ => exact zw_mem 233 (by decide +kernel) rfl
  | 4, _ => exact zw_mem 235 (by decide +kernel) rfl
  | 5, _ => exact zw_mem 237 (by decide +kernel) rfl
  | 6, _ => exact zw_mem 239 (by decide +kernel) rfl
  | 7, _ => exact zw_mem 241 (by decide +kernel) rfl
  | k + 8, hk => exact absurd hk (by omega)
theorem zcl_X9 : zw_cl 8 RX9 TX9 8 tyX9 := ⟨rfl, ul_X9, tyX9_ok, nmX9⟩
theorem ul_X10 : ∀ w ∈ u_ws RX10 TX10 11, w ∈ lw_g := by
  intro w hw
  obtain ⟨k, hk, rfl⟩ := List.mem_map.mp hw
  have hk := List.mem_range.mp hk
  match k, hk with
  | 0, _ => exact zw_mem 342 (by decide +kernel) rfl
  | 1, _ => exact zw_mem 344 (by decide +kernel) rfl
  | 2, _ => exact zw_mem 346 (by decide +kernel) rfl
  | 3, _ => exact zw_mem 348 (by decide +kernel) rfl
  | 4, _ => exact zw_mem 350 (by decide +kernel) rfl
  | 5, _ => exact zw_mem 352 (by decide +kernel) rfl
  | 6, _ => exact zw_mem 354 (by decide +kernel) rfl
  | 7, _ => exact zw_mem 356 (by decide +kernel) rfl
  | 8, _ => exact zw_mem 358 (by decide +kernel) rfl
  | 9, _ => exact zw_mem 360 (by decide +kernel) rfl
  | 10, _ => exact zw_mem 362 (by decide +kernel) rfl
  | k + 11, hk => exact absurd hk (by omega)
theorem zcl_X10 : zw_cl 9 RX10 TX10 11 tyX10 := ⟨rfl, ul_X10, tyX10_ok, nmX10⟩
theorem ul_X11 : ∀ w ∈ u_ws RX11 TX11 36, w ∈ lw_g := by
  intro w hw
  obtain ⟨k, hk, rfl⟩ := List.mem_map.mp hw
  have hk := List.mem_range.mp hk
  match k, hk with
  | 0, _ => exact zw_mem 1007 (by decide +kernel) rfl
  | 1, _ => exact zw_mem 1009 (by decide +kernel) rfl
  | 2, _ => exact zw_mem 1011 (by decide +kernel) rfl
  | 3, _ => exact zw_mem 1013 (by decide +kernel) rfl
  | 4, _ => exact zw_mem 1015 (by decide +kernel) rfl
  | 5, _ => exact zw_mem 1017 (by decide +kernel) rfl
  | 6, _ => exact zw_mem 1019 (by decide +kernel) rfl
  | 7, _ => exact zw_mem 1021 (by decide +kernel) rfl
  | 8, _ => exact zw_mem 1023 (by decide +kernel) rfl
  | 9, _ => exact zw_mem 1025 (by decide +kernel) rfl
  | 10, _ => exact zw_mem 1027 (by decide +kernel) rfl
  | 11, _ => exact zw_mem 1029 (by decide +kernel) rfl
  | 12, _ => exact zw_mem 1031 (by decide +kernel) rfl
  | 13, _ => exact zw_mem 1033 (by decide +kernel) rfl
  | 14, _ => exact zw_mem 1035 (by decide +kernel) rfl
  | 15, _ => exact zw_mem 1037 (by decide +kernel) rfl
  | 16, _ => exact zw_mem 1039 (by decide +kernel) rfl
  | 17, _ => exact zw_mem 1041 (by decide +kernel) rfl
  | 18, _ => exact zw_mem 1043 (by decide +kernel) rfl
  | 19, _ => exact zw_mem 1045 (by decide +kernel) rfl
  | 20, _ => exact zw_mem 1047 (by decide +kernel) rfl
  | 21, _ => exact zw_mem 1049 (by decide +kernel) rfl
  | 22, _ => exact zw_mem 1051 (by decide +kernel) rfl
  | 23, _ => exact zw_mem 1053 (by decide +kernel) rfl
  | 24, _ => exact zw_mem 1055 (by decide +kernel) rfl
  | 25, _ => exact zw_mem 1057 (by decide +kernel) rfl
  | 26, _ => exact zw_mem 1059 (by decide +kernel) rfl
  | 27, _ => exact zw_mem 1061 (by decide +kernel) rfl
  | 28, _ => exact zw_mem 1063 (by decide +kernel) rfl
  | 29, _ => exact zw_mem 1065 (by decide +kernel) rfl
  | 30, _ => exact zw_mem 1067 (by decide +kernel) rfl
  | 31, _ => exact zw_mem 1069 (by decide +kernel) rfl
  | 32, _ => exact zw_mem 1071 (by decide +kernel) rfl
  | 33, _ => exact zw_mem 1073 (by decide +kernel) rfl
  | 34, _ => exact zw_mem 1075 (by decide +kernel) rfl
  | 35, _ => exact zw_mem 1077 (by decide +kernel) rfl
  | k + 36, hk => exact absurd hk (by omega)
theorem zcl_X11 : zw_cl 10 RX11 TX11 36 tyX11 := ⟨rfl, ul_X11, tyX11_ok, nmX11⟩
theorem fl_X4_18 : Cond.fieldLink RX4 18 (TX4 0).1 (TX4 0).2.1 (TX4 0).2.2.1 ∈ lw_g := zw_mem 129 (by decide +kernel) rfl
theorem gf_X4_18 : zw_gf RX4 18 3 0 := ⟨_, _, _, _, zcl_X4, by decide, fl_X4_18⟩
theorem pf_X4_18 : zw_pf RX4 18 3 0 .int false := ⟨_, _, _, _, zcl_X4, by decide, fl_X4_18, rfl, rfl, rfl⟩
theorem fl_X10_139 : Cond.fieldLink RX10 139 (TX4 0).1 (TX4 0).2.1 (TX4 0).2.2.1 ∈ lw_g := zw_mem 130 (by decide +kernel) rfl
theorem gf_X10_139 : zw_gf RX10 139 3 0 := ⟨_, _, _, _, zcl_X4, by decide, fl_X10_139⟩
theorem fl_X4_22 : Cond.fieldLink RX4 22 (TX4 1).1 (TX4 1).2.1 (TX4 1).2.2.1 ∈ lw_g := zw_mem 131 (by decide +kernel) rfl
theorem gf_X4_22 : zw_gf RX4 22 3 1 := ⟨_, _, _, _, zcl_X4, by decide, fl_X4_22⟩
theorem pf_X4_22 : zw_pf RX4 22 3 1 .int false := ⟨_, _, _, _, zcl_X4, by decide, fl_X4_22, rfl, rfl, rfl⟩
theorem fl_X10_142 : Cond.fieldLink RX10 142 (TX4 1).1 (TX4 1).2.1 (TX4 1).2.2.1 ∈ lw_g := zw_mem 132 (by decide +kernel) rfl
theorem gf_X10_142 : zw_gf RX10 142 3 1 := ⟨_, _, _, _, zcl_X4, by decide, fl_X10_142⟩
theorem fl_X4_9 : Cond.fieldLink RX4 9 (TX4 2).1 (TX4 2).2.1 (TX4 2).2.2.1 ∈ lw_g := zw_mem 133 (by decide +kernel) rfl
theorem gf_X4_9 : zw_gf RX4 9 3 2 := ⟨_, _, _, _, zcl_X4, by decide, fl_X4_9⟩
theorem pf_X4_9 : zw_pf RX4 9 3 2 (.array .int) true := ⟨_, _, _, _, zcl_X4, by decide, fl_X4_9, rfl, rfl, rfl⟩
theorem fl_X10_103 : Cond.fieldLink RX10 103 (TX4 2).1 (TX4 2).2.1 (TX4 2).2.2.1 ∈ lw_g := zw_mem 134 (by decide +kernel) rfl
theorem gf_X10_103 : zw_gf RX10 103 3 2 := ⟨_, _, _, _, zcl_X4, by decide, fl_X10_103⟩
theorem fl_X4_15 : Cond.fieldLink RX4 15 (TX4 3).1 (TX4 3).2.1 (TX4 3).2.2.1 ∈ lw_g := zw_mem 135 (by decide +kernel) rfl
theorem gf_X4_15 : zw_gf RX4 15 3 3 := ⟨_, _, _, _, zcl_X4, by decide, fl_X4_15⟩
theorem pf_X4_15 : zw_pf RX4 15 3 3 (.array .int) true := ⟨_, _, _, _, zcl_X4, by decide, fl_X4_15, rfl, rfl, rfl⟩
theorem fl_X10_159 : Cond.fieldLink RX10 159 (TX4 3).1 (TX4 3).2.1 (TX4 3).2.2.1 ∈ lw_g := zw_mem 136 (by decide +kernel) rfl
theorem gf_X10_159 : zw_gf RX10 159 3 3 := ⟨_, _, _, _, zcl_X4, by decide, fl_X10_159⟩
theorem fl_X8_9 : Cond.fieldLink RX8 9 (TX8 0).1 (TX8 0).2.1 (TX8 0).2.2.1 ∈ lw_g := zw_mem 147 (by decide +kernel) rfl
theorem gf_X8_9 : zw_gf RX8 9 7 0 := ⟨_, _, _, _, zcl_X8, by decide, fl_X8_9⟩
theorem pf_X8_9 : zw_pf RX8 9 7 0 .int false := ⟨_, _, _, _, zcl_X8, by decide, fl_X8_9, rfl, rfl, rfl⟩
theorem fl_X10_114 : Cond.fieldLink RX10 114 (TX8 0).1 (TX8 0).2.1 (TX8 0).2.2.1 ∈ lw_g := zw_mem 148 (by decide +kernel) rfl
theorem gf_X10_114 : zw_gf RX10 114 7 0 := ⟨_, _, _, _, zcl_X8, by decide, fl_X10_114⟩
theorem fl_X3_42 : Cond.fieldLink RX3 42 (TX8 0).1 (TX8 0).2.1 (TX8 0).2.2.1 ∈ lw_g := zw_mem 149 (by decide +kernel) rfl
theorem gf_X3_42 : zw_gf RX3 42 7 0 := ⟨_, _, _, _, zcl_X8, by decide, fl_X3_42⟩
theorem fl_X8_22 : Cond.fieldLink RX8 22 (TX8 1).1 (TX8 1).2.1 (TX8 1).2.2.1 ∈ lw_g := zw_mem 150 (by decide +kernel) rfl
theorem gf_X8_22 : zw_gf RX8 22 7 1 := ⟨_, _, _, _, zcl_X8, by decide, fl_X8_22⟩
theorem pf_X8_22 : zw_pf RX8 22 7 1 .int false := ⟨_, _, _, _, zcl_X8, by decide, fl_X8_22, rfl, rfl, rfl⟩
theorem fl_X10_122 : Cond.fieldLink RX10 122 (TX8 1).1 (TX8 1).2.1 (TX8 1).2.2.1 ∈ lw_g := zw_mem 151 (by decide +kernel) rfl
theorem gf_X10_122 : zw_gf RX10 122 7 1 := ⟨_, _, _, _, zcl_X8, by decide, fl_X10_122⟩
theorem fl_X8_17 : Cond.fieldLink RX8 17 (TX8 2).1 (TX8 2).2.1 (TX8 2).2.2.1 ∈ lw_g := zw_mem 152 (by decide +kernel) rfl
theorem gf_X8_17 : zw_gf RX8 17 7 2 := ⟨_, _, _, _, zcl_X8, by decide, fl_X8_17⟩
theorem pf_X8_17 : zw_pf RX8 17 7 2 (.array (.object "LettersEliminated$Poly")) true := ⟨_, _, _, _, zcl_X8, by decide, fl_X8_17, rfl, rfl, rfl⟩
theorem fl_X3_38 : Cond.fieldLink RX3 38 (TX8 2).1 (TX8 2).2.1 (TX8 2).2.2.1 ∈ lw_g := zw_mem 153 (by decide +kernel) rfl
theorem gf_X3_38 : zw_gf RX3 38 7 2 := ⟨_, _, _, _, zcl_X8, by decide, fl_X3_38⟩
theorem fl_X10_135 : Cond.fieldLink RX10 135 (TX8 2).1 (TX8 2).2.1 (TX8 2).2.2.1 ∈ lw_g := zw_mem 154 (by decide +kernel) rfl
theorem gf_X10_135 : zw_gf RX10 135 7 2 := ⟨_, _, _, _, zcl_X8, by decide, fl_X10_135⟩
theorem fl_X6_18 : Cond.fieldLink RX6 18 (TX6 0).1 (TX6 0).2.1 (TX6 0).2.2.1 ∈ lw_g := zw_mem 168 (by decide +kernel) rfl
theorem gf_X6_18 : zw_gf RX6 18 5 0 := ⟨_, _, _, _, zcl_X6, by decide, fl_X6_18⟩
theorem pf_X6_18 : zw_pf RX6 18 5 0 .int false := ⟨_, _, _, _, zcl_X6, by decide, fl_X6_18, rfl, rfl, rfl⟩
theorem fl_X10_352 : Cond.fieldLink RX10 352 (TX6 0).1 (TX6 0).2.1 (TX6 0).2.2.1 ∈ lw_g := zw_mem 169 (by decide +kernel) rfl
theorem gf_X10_352 : zw_gf RX10 352 5 0 := ⟨_, _, _, _, zcl_X6, by decide, fl_X10_352⟩
theorem fl_X6_9 : Cond.fieldLink RX6 9 (TX6 1).1 (TX6 1).2.1 (TX6 1).2.2.1 ∈ lw_g := zw_mem 170 (by decide +kernel) rfl
theorem gf_X6_9 : zw_gf RX6 9 5 1 := ⟨_, _, _, _, zcl_X6, by decide, fl_X6_9⟩
theorem pf_X6_9 : zw_pf RX6 9 5 1 (.array .int) true := ⟨_, _, _, _, zcl_X6, by decide, fl_X6_9, rfl, rfl, rfl⟩
theorem fl_X10_100 : Cond.fieldLink RX10 100 (TX6 1).1 (TX6 1).2.1 (TX6 1).2.2.1 ∈ lw_g := zw_mem 171 (by decide +kernel) rfl
theorem gf_X10_100 : zw_gf RX10 100 5 1 := ⟨_, _, _, _, zcl_X6, by decide, fl_X10_100⟩
theorem fl_X6_15 : Cond.fieldLink RX6 15 (TX6 2).1 (TX6 2).2.1 (TX6 2).2.2.1 ∈ lw_g := zw_mem 172 (by decide +kernel) rfl
theorem gf_X6_15 : zw_gf RX6 15 5 2 := ⟨_, _, _, _, zcl_X6, by decide, fl_X6_15⟩
theorem pf_X6_15 : zw_pf RX6 15 5 2 (.array .int) true := ⟨_, _, _, _, zcl_X6, by decide, fl_X6_15, rfl, rfl, rfl⟩
theorem fl_X6_28 : Cond.fieldLink RX6 28 (TX6 3).1 (TX6 3).2.1 (TX6 3).2.2.1 ∈ lw_g := zw_mem 173 (by decide +kernel) rfl
theorem gf_X6_28 : zw_gf RX6 28 5 3 := ⟨_, _, _, _, zcl_X6, by decide, fl_X6_28⟩
theorem pf_X6_28 : zw_pf RX6 28 5 3 .int false := ⟨_, _, _, _, zcl_X6, by decide, fl_X6_28, rfl, rfl, rfl⟩
theorem fl_X6_45 : Cond.fieldLink RX6 45 (TX6 4).1 (TX6 4).2.1 (TX6 4).2.2.1 ∈ lw_g := zw_mem 174 (by decide +kernel) rfl
theorem gf_X6_45 : zw_gf RX6 45 5 4 := ⟨_, _, _, _, zcl_X6, by decide, fl_X6_45⟩
theorem pf_X6_45 : zw_pf RX6 45 5 4 .int false := ⟨_, _, _, _, zcl_X6, by decide, fl_X6_45, rfl, rfl, rfl⟩
theorem fl_X6_39 : Cond.fieldLink RX6 39 (TX6 5).1 (TX6 5).2.1 (TX6 5).2.2.1 ∈ lw_g := zw_mem 175 (by decide +kernel) rfl
theorem gf_X6_39 : zw_gf RX6 39 5 5 := ⟨_, _, _, _, zcl_X6, by decide, fl_X6_39⟩
theorem pf_X6_39 : zw_pf RX6 39 5 5 .int false := ⟨_, _, _, _, zcl_X6, by decide, fl_X6_39, rfl, rfl, rfl⟩
theorem fl_X6_42 : Cond.fieldLink RX6 42 (TX6 6).1 (TX6 6).2.1 (TX6 6).2.2.1 ∈ lw_g := zw_mem 176 (by decide +kernel) rfl
theorem gf_X6_42 : zw_gf RX6 42 5 6 := ⟨_, _, _, _, zcl_X6, by decide, fl_X6_42⟩
theorem pf_X6_42 : zw_pf RX6 42 5 6 .int false := ⟨_, _, _, _, zcl_X6, by decide, fl_X6_42, rfl, rfl, rfl⟩
theorem fl_X3_19 : Cond.fieldLink RX3 19 (TX3 0).1 (TX3 0).2.1 (TX3 0).2.2.1 ∈ lw_g := zw_mem 198 (by decide +kernel) rfl
theorem gf_X3_19 : zw_gf RX3 19 2 0 := ⟨_, _, _, _, zcl_X3, by decide, fl_X3_19⟩
theorem pf_X3_19 : zw_pf RX3 19 2 0 .int false := ⟨_, _, _, _, zcl_X3, by decide, fl_X3_19, rfl, rfl, rfl⟩
theorem fl_X10_341 : Cond.fieldLink RX10 341 (TX3 0).1 (TX3 0).2.1 (TX3 0).2.2.1 ∈ lw_g := zw_mem 199 (by decide +kernel) rfl
theorem gf_X10_341 : zw_gf RX10 341 2 0 := ⟨_, _, _, _, zcl_X3, by decide, fl_X10_341⟩
theorem fl_X3_9 : Cond.fieldLink RX3 9 (TX3 1).1 (TX3 1).2.1 (TX3 1).2.2.1 ∈ lw_g := zw_mem 200 (by decide +kernel) rfl
theorem gf_X3_9 : zw_gf RX3 9 2 1 := ⟨_, _, _, _, zcl_X3, by decide, fl_X3_9⟩
theorem pf_X3_9 : zw_pf RX3 9 2 1 (.array .int) true := ⟨_, _, _, _, zcl_X3, by decide, fl_X3_9, rfl, rfl, rfl⟩
theorem fl_X3_13 : Cond.fieldLink RX3 13 (TX3 2).1 (TX3 2).2.1 (TX3 2).2.2.1 ∈ lw_g := zw_mem 201 (by decide +kernel) rfl
theorem gf_X3_13 : zw_gf RX3 13 2 2 := ⟨_, _, _, _, zcl_X3, by decide, fl_X3_13⟩
theorem pf_X3_13 : zw_pf RX3 13 2 2 (.array .int) true := ⟨_, _, _, _, zcl_X3, by decide, fl_X3_13, rfl, rfl, rfl⟩
theorem fl_X3_16 : Cond.fieldLink RX3 16 (TX3 3).1 (TX3 3).2.1 (TX3 3).2.2.1 ∈ lw_g := zw_mem 202 (by decide +kernel) rfl
theorem gf_X3_16 : zw_gf RX3 16 2 3 := ⟨_, _, _, _, zcl_X3, by decide, fl_X3_16⟩
theorem pf_X3_16 : zw_pf RX3 16 2 3 (.array .int) true := ⟨_, _, _, _, zcl_X3, by decide, fl_X3_16, rfl, rfl, rfl⟩
theorem fl_X9_9 : Cond.fieldLink RX9 9 (TX9 0).1 (TX9 0).2.1 (TX9 0).2.2.1 ∈ lw_g := zw_mem 218 (by decide +kernel) rfl
theorem gf_X9_9 : zw_gf RX9 9 8 0 := ⟨_, _, _, _, zcl_X9, by decide, fl_X9_9⟩
theorem pf_X9_9 : zw_pf RX9 9 8 0 (.array .int) true := ⟨_, _, _, _, zcl_X9, by decide, fl_X9_9, rfl, rfl, rfl⟩
theorem fl_X10_200 : Cond.fieldLink RX10 200 (TX9 0).1 (TX9 0).2.1 (TX9 0).2.2.1 ∈ lw_g := zw_mem 219 (by decide +kernel) rfl
theorem gf_X10_200 : zw_gf RX10 200 8 0 := ⟨_, _, _, _, zcl_X9, by decide, fl_X10_200⟩
theorem fl_X9_15 : Cond.fieldLink RX9 15 (TX9 1).1 (TX9 1).2.1 (TX9 1).2.2.1 ∈ lw_g := zw_mem 220 (by decide +kernel) rfl
theorem gf_X9_15 : zw_gf RX9 15 8 1 := ⟨_, _, _, _, zcl_X9, by decide, fl_X9_15⟩
theorem pf_X9_15 : zw_pf RX9 15 8 1 (.array .int) true := ⟨_, _, _, _, zcl_X9, by decide, fl_X9_15, rfl, rfl, rfl⟩
theorem fl_X9_18 : Cond.fieldLink RX9 18 (TX9 2).1 (TX9 2).2.1 (TX9 2).2.2.1 ∈ lw_g := zw_mem 221 (by decide +kernel) rfl
theorem gf_X9_18 : zw_gf RX9 18 8 2 := ⟨_, _, _, _, zcl_X9, by decide, fl_X9_18⟩
theorem pf_X9_18 : zw_pf RX9 18 8 2 (.array .int) true := ⟨_, _, _, _, zcl_X9, by decide, fl_X9_18, rfl, rfl, rfl⟩
theorem fl_X9_21 : Cond.fieldLink RX9 21 (TX9 3).1 (TX9 3).2.1 (TX9 3).2.2.1 ∈ lw_g := zw_mem 222 (by decide +kernel) rfl
theorem gf_X9_21 : zw_gf RX9 21 8 3 := ⟨_, _, _, _, zcl_X9, by decide, fl_X9_21⟩
theorem pf_X9_21 : zw_pf RX9 21 8 3 (.array .int) true := ⟨_, _, _, _, zcl_X9, by decide, fl_X9_21, rfl, rfl, rfl⟩
theorem fl_X9_39 : Cond.fieldLink RX9 39 (TX9 4).1 (TX9 4).2.1 (TX9 4).2.2.1 ∈ lw_g := zw_mem 223 (by decide +kernel) rfl
theorem gf_X9_39 : zw_gf RX9 39 8 4 := ⟨_, _, _, _, zcl_X9, by decide, fl_X9_39⟩
theorem pf_X9_39 : zw_pf RX9 39 8 4 .int false := ⟨_, _, _, _, zcl_X9, by decide, fl_X9_39, rfl, rfl, rfl⟩
theorem fl_X9_43 : Cond.fieldLink RX9 43 (TX9 5).1 (TX9 5).2.1 (TX9 5).2.2.1 ∈ lw_g := zw_mem 224 (by decide +kernel) rfl
theorem gf_X9_43 : zw_gf RX9 43 8 5 := ⟨_, _, _, _, zcl_X9, by decide, fl_X9_43⟩
theorem pf_X9_43 : zw_pf RX9 43 8 5 .int false := ⟨_, _, _, _, zcl_X9, by decide, fl_X9_43, rfl, rfl, rfl⟩
theorem fl_X9_63 : Cond.fieldLink RX9 63 (TX9 6).1 (TX9 6).2.1 (TX9 6).2.2.1 ∈ lw_g := zw_mem 225 (by decide +kernel) rfl
theorem gf_X9_63 : zw_gf RX9 63 8 6 := ⟨_, _, _, _, zcl_X9, by decide, fl_X9_63⟩
theorem pf_X9_63 : zw_pf RX9 63 8 6 .int false := ⟨_, _, _, _, zcl_X9, by decide, fl_X9_63, rfl, rfl, rfl⟩
theorem fl_X9_66 : Cond.fieldLink RX9 66 (TX9 7).1 (TX9 7).2.1 (TX9 7).2.2.1 ∈ lw_g := zw_mem 226 (by decide +kernel) rfl
theorem gf_X9_66 : zw_gf RX9 66 8 7 := ⟨_, _, _, _, zcl_X9, by decide, fl_X9_66⟩
theorem pf_X9_66 : zw_pf RX9 66 8 7 .int false := ⟨_, _, _, _, zcl_X9, by decide, fl_X9_66, rfl, rfl, rfl⟩
theorem fl_X0_9 : Cond.fieldLink RX0 9 (TX0 0).1 (TX0 0).2.1 (TX0 0).2.2.1 ∈ lw_g := zw_mem 250 (by decide +kernel) rfl
theorem gf_X0_9 : zw_gf RX0 9 0 0 := ⟨_, _, _, _, zcl_X0, by decide, fl_X0_9⟩
theorem pf_X0_9 : zw_pf RX0 9 0 0 (.array .int) true := ⟨_, _, _, _, zcl_X0, by decide, fl_X0_9, rfl, rfl, rfl⟩
theorem fl_X10_229 : Cond.fieldLink RX10 229 (TX0 0).1 (TX0 0).2.1 (TX0 0).2.2.1 ∈ lw_g := zw_mem 251 (by decide +kernel) rfl
theorem gf_X10_229 : zw_gf RX10 229 0 0 := ⟨_, _, _, _, zcl_X0, by decide, fl_X10_229⟩
theorem fl_X0_15 : Cond.fieldLink RX0 15 (TX0 1).1 (TX0 1).2.1 (TX0 1).2.2.1 ∈ lw_g := zw_mem 252 (by decide +kernel) rfl
theorem gf_X0_15 : zw_gf RX0 15 0 1 := ⟨_, _, _, _, zcl_X0, by decide, fl_X0_15⟩
theorem pf_X0_15 : zw_pf RX0 15 0 1 (.array .int) true := ⟨_, _, _, _, zcl_X0, by decide, fl_X0_15, rfl, rfl, rfl⟩
theorem fl_X10_236 : Cond.fieldLink RX10 236 (TX0 1).1 (TX0 1).2.1 (TX0 1).2.2.1 ∈ lw_g := zw_mem 253 (by decide +kernel) rfl
theorem gf_X10_236 : zw_gf RX10 236 0 1 := ⟨_, _, _, _, zcl_X0, by decide, fl_X10_236⟩
theorem fl_X0_21 : Cond.fieldLink RX0 21 (TX0 2).1 (TX0 2).2.1 (TX0 2).2.2.1 ∈ lw_g := zw_mem 254 (by decide +kernel) rfl
theorem gf_X0_21 : zw_gf RX0 21 0 2 := ⟨_, _, _, _, zcl_X0, by decide, fl_X0_21⟩
theorem pf_X0_21 : zw_pf RX0 21 0 2 .int false := ⟨_, _, _, _, zcl_X0, by decide, fl_X0_21, rfl, rfl, rfl⟩
theorem fl_X10_217 : Cond.fieldLink RX10 217 (TX0 2).1 (TX0 2).2.1 (TX0 2).2.2.1 ∈ lw_g := zw_mem 255 (by decide +kernel) rfl
theorem gf_X10_217 : zw_gf RX10 217 0 2 := ⟨_, _, _, _, zcl_X0, by decide, fl_X10_217⟩
theorem fl_X0_18 : Cond.fieldLink RX0 18 (TX0 3).1 (TX0 3).2.1 (TX0 3).2.2.1 ∈ lw_g := zw_mem 256 (by decide +kernel) rfl
theorem gf_X0_18 : zw_gf RX0 18 0 3 := ⟨_, _, _, _, zcl_X0, by decide, fl_X0_18⟩
theorem pf_X0_18 : zw_pf RX0 18 0 3 (.array .int) true := ⟨_, _, _, _, zcl_X0, by decide, fl_X0_18, rfl, rfl, rfl⟩
theorem fl_X5_11 : Cond.fieldLink RX5 11 (TX5 0).1 (TX5 0).2.1 (TX5 0).2.2.1 ∈ lw_g := zw_mem 272 (by decide +kernel) rfl
theorem gf_X5_11 : zw_gf RX5 11 4 0 := ⟨_, _, _, _, zcl_X5, by decide, fl_X5_11⟩
theorem pf_X5_11 : zw_pf RX5 11 4 0 (.array .int) true := ⟨_, _, _, _, zcl_X5, by decide, fl_X5_11, rfl, rfl, rfl⟩
theorem fl_X5_15 : Cond.fieldLink RX5 15 (TX5 1).1 (TX5 1).2.1 (TX5 1).2.2.1 ∈ lw_g := zw_mem 273 (by decide +kernel) rfl
theorem gf_X5_15 : zw_gf RX5 15 4 1 := ⟨_, _, _, _, zcl_X5, by decide, fl_X5_15⟩
theorem pf_X5_15 : zw_pf RX5 15 4 1 (.array .int) true := ⟨_, _, _, _, zcl_X5, by decide, fl_X5_15, rfl, rfl, rfl⟩
theorem fl_X5_37 : Cond.fieldLink RX5 37 (TX5 2).1 (TX5 2).2.1 (TX5 2).2.2.1 ∈ lw_g := zw_mem 274 (by decide +kernel) rfl
theorem gf_X5_37 : zw_gf RX5 37 4 2 := ⟨_, _, _, _, zcl_X5, by decide, fl_X5_37⟩
theorem pf_X5_37 : zw_pf RX5 37 4 2 .int false := ⟨_, _, _, _, zcl_X5, by decide, fl_X5_37, rfl, rfl, rfl⟩
theorem fl_X7_18 : Cond.fieldLink RX7 18 (TX7 0).1 (TX7 0).2.1 (TX7 0).2.2.1 ∈ lw_g := zw_mem 288 (by decide +kernel) rfl
theorem gf_X7_18 : zw_gf RX7 18 6 0 := ⟨_, _, _, _, zcl_X7, by decide, fl_X7_18⟩
theorem pf_X7_18 : zw_pf RX7 18 6 0 .int false := ⟨_, _, _, _, zcl_X7, by decide, fl_X7_18, rfl, rfl, rfl⟩
theorem fl_X10_269 : Cond.fieldLink RX10 269 (TX7 0).1 (TX7 0).2.1 (TX7 0).2.2.1 ∈ lw_g := zw_mem 289 (by decide +kernel) rfl
theorem gf_X10_269 : zw_gf RX10 269 6 0 := ⟨_, _, _, _, zcl_X7, by decide, fl_X10_269⟩
theorem fl_X7_22 : Cond.fieldLink RX7 22 (TX7 1).1 (TX7 1).2.1 (TX7 1).2.2.1 ∈ lw_g := zw_mem 290 (by decide +kernel) rfl
theorem gf_X7_22 : zw_gf RX7 22 6 1 := ⟨_, _, _, _, zcl_X7, by decide, fl_X7_22⟩
theorem pf_X7_22 : zw_pf RX7 22 6 1 .int false := ⟨_, _, _, _, zcl_X7, by decide, fl_X7_22, rfl, rfl, rfl⟩
theorem fl_X10_275 : Cond.fieldLink RX10 275 (TX7 1).1 (TX7 1).2.1 (TX7 1).2.2.1 ∈ lw_g := zw_mem 291 (by decide +kernel) rfl
theorem gf_X10_275 : zw_gf RX10 275 6 1 := ⟨_, _, _, _, zcl_X7, by decide, fl_X10_275⟩
theorem fl_X7_25 : Cond.fieldLink RX7 25 (TX7 2).1 (TX7 2).2.1 (TX7 2).2.2.1 ∈ lw_g := zw_mem 292 (by decide +kernel) rfl
theorem gf_X7_25 : zw_gf RX7 25 6 2 := ⟨_, _, _, _, zcl_X7, by decide, fl_X7_25⟩
theorem pf_X7_25 : zw_pf RX7 25 6 2 .int false := ⟨_, _, _, _, zcl_X7, by decide, fl_X7_25, rfl, rfl, rfl⟩
theorem fl_X10_272 : Cond.fieldLink RX10 272 (TX7 2).1 (TX7 2).2.1 (TX7 2).2.2.1 ∈ lw_g := zw_mem 293 (by decide +kernel) rfl
theorem gf_X10_272 : zw_gf RX10 272 6 2 := ⟨_, _, _, _, zcl_X7, by decide, fl_X10_272⟩
theorem fl_X7_28 : Cond.fieldLink RX7 28 (TX7 3).1 (TX7 3).2.1 (TX7 3).2.2.1 ∈ lw_g := zw_mem 294 (by decide +kernel) rfl
theorem gf_X7_28 : zw_gf RX7 28 6 3 := ⟨_, _, _, _, zcl_X7, by decide, fl_X7_28⟩
theorem pf_X7_28 : zw_pf RX7 28 6 3 .int false := ⟨_, _, _, _, zcl_X7, by decide, fl_X7_28, rfl, rfl, rfl⟩
theorem fl_X10_266 : Cond.fieldLink RX10 266 (TX7 3).1 (TX7 3).2.1 (TX7 3).2.2.1 ∈ lw_g := zw_mem 295 (by decide +kernel) rfl
theorem gf_X10_266 : zw_gf RX10 266 6 3 := ⟨_, _, _, _, zcl_X7, by decide, fl_X10_266⟩
theorem fl_X7_31 : Cond.fieldLink RX7 31 (TX7 4).1 (TX7 4).2.1 (TX7 4).2.2.1 ∈ lw_g := zw_mem 296 (by decide +kernel) rfl
theorem gf_X7_31 : zw_gf RX7 31 6 4 := ⟨_, _, _, _, zcl_X7, by decide, fl_X7_31⟩
theorem pf_X7_31 : zw_pf RX7 31 6 4 .int false := ⟨_, _, _, _, zcl_X7, by decide, fl_X7_31, rfl, rfl, rfl⟩
theorem fl_X10_263 : Cond.fieldLink RX10 263 (TX7 4).1 (TX7 4).2.1 (TX7 4).2.2.1 ∈ lw_g := zw_mem 297 (by decide +kernel) rfl
theorem gf_X10_263 : zw_gf RX10 263 6 4 := ⟨_, _, _, _, zcl_X7, by decide, fl_X10_263⟩
theorem fl_X7_9 : Cond.fieldLink RX7 9 (TX7 5).1 (TX7 5).2.1 (TX7 5).2.2.1 ∈ lw_g := zw_mem 298 (by decide +kernel) rfl
theorem gf_X7_9 : zw_gf RX7 9 6 5 := ⟨_, _, _, _, zcl_X7, by decide, fl_X7_9⟩
theorem pf_X7_9 : zw_pf RX7 9 6 5 (.array .int) true := ⟨_, _, _, _, zcl_X7, by decide, fl_X7_9, rfl, rfl, rfl⟩
theorem fl_X7_15 : Cond.fieldLink RX7 15 (TX7 6).1 (TX7 6).2.1 (TX7 6).2.2.1 ∈ lw_g := zw_mem 299 (by decide +kernel) rfl
theorem gf_X7_15 : zw_gf RX7 15 6 6 := ⟨_, _, _, _, zcl_X7, by decide, fl_X7_15⟩
theorem pf_X7_15 : zw_pf RX7 15 6 6 (.array .int) true := ⟨_, _, _, _, zcl_X7, by decide, fl_X7_15, rfl, rfl, rfl⟩
theorem fl_X7_50 : Cond.fieldLink RX7 50 (TX7 7).1 (TX7 7).2.1 (TX7 7).2.2.1 ∈ lw_g := zw_mem 300 (by decide +kernel) rfl
theorem gf_X7_50 : zw_gf RX7 50 6 7 := ⟨_, _, _, _, zcl_X7, by decide, fl_X7_50⟩
theorem pf_X7_50 : zw_pf RX7 50 6 7 .int false := ⟨_, _, _, _, zcl_X7, by decide, fl_X7_50, rfl, rfl, rfl⟩
theorem fl_X1_11 : Cond.fieldLink RX1 11 (TX1 0).1 (TX1 0).2.1 (TX1 0).2.2.1 ∈ lw_g := zw_mem 324 (by decide +kernel) rfl
theorem gf_X1_11 : zw_gf RX1 11 1 0 := ⟨_, _, _, _, zcl_X1, by decide, fl_X1_11⟩
theorem pf_X1_11 : zw_pf RX1 11 1 0 (.array .int) true := ⟨_, _, _, _, zcl_X1, by decide, fl_X1_11, rfl, rfl, rfl⟩
theorem fl_X1_15 : Cond.fieldLink RX1 15 (TX1 1).1 (TX1 1).2.1 (TX1 1).2.2.1 ∈ lw_g := zw_mem 325 (by decide +kernel) rfl
theorem gf_X1_15 : zw_gf RX1 15 1 1 := ⟨_, _, _, _, zcl_X1, by decide, fl_X1_15⟩
theorem pf_X1_15 : zw_pf RX1 15 1 1 (.array .int) true := ⟨_, _, _, _, zcl_X1, by decide, fl_X1_15, rfl, rfl, rfl⟩
theorem fl_X10_12 : Cond.fieldLink RX10 12 (TX10 0).1 (TX10 0).2.1 (TX10 0).2.2.1 ∈ lw_g := zw_mem 331 (by decide +kernel) rfl
theorem gf_X10_12 : zw_gf RX10 12 9 0 := ⟨_, _, _, _, zcl_X10, by decide, fl_X10_12⟩
theorem pf_X10_12 : zw_pf RX10 12 9 0 (.object "LettersEliminated$Shelf") true := ⟨_, _, _, _, zcl_X10, by decide, fl_X10_12, rfl, rfl, rfl⟩
theorem fl_X10_16 : Cond.fieldLink RX10 16 (TX10 1).1 (TX10 1).2.1 (TX10 1).2.2.1 ∈ lw_g := zw_mem 332 (by decide +kernel) rfl
theorem gf_X10_16 : zw_gf RX10 16 9 1 := ⟨_, _, _, _, zcl_X10, by decide, fl_X10_16⟩
theorem pf_X10_16 : zw_pf RX10 16 9 1 (.object "LettersEliminated$Shelf") true := ⟨_, _, _, _, zcl_X10, by decide, fl_X10_16, rfl, rfl, rfl⟩
theorem fl_X10_22 : Cond.fieldLink RX10 22 (TX10 2).1 (TX10 2).2.1 (TX10 2).2.2.1 ∈ lw_g := zw_mem 333 (by decide +kernel) rfl
theorem gf_X10_22 : zw_gf RX10 22 9 2 := ⟨_, _, _, _, zcl_X10, by decide, fl_X10_22⟩
theorem pf_X10_22 : zw_pf RX10 22 9 2 (.object "LettersEliminated$Reader") true := ⟨_, _, _, _, zcl_X10, by decide, fl_X10_22, rfl, rfl, rfl⟩
theorem fl_X10_29 : Cond.fieldLink RX10 29 (TX10 3).1 (TX10 3).2.1 (TX10 3).2.2.1 ∈ lw_g := zw_mem 334 (by decide +kernel) rfl
theorem gf_X10_29 : zw_gf RX10 29 9 3 := ⟨_, _, _, _, zcl_X10, by decide, fl_X10_29⟩
theorem pf_X10_29 : zw_pf RX10 29 9 3 (.object "LettersEliminated$Past") true := ⟨_, _, _, _, zcl_X10, by decide, fl_X10_29, rfl, rfl, rfl⟩
theorem fl_X10_36 : Cond.fieldLink RX10 36 (TX10 4).1 (TX10 4).2.1 (TX10 4).2.2.1 ∈ lw_g := zw_mem 335 (by decide +kernel) rfl
theorem gf_X10_36 : zw_gf RX10 36 9 4 := ⟨_, _, _, _, zcl_X10, by decide, fl_X10_36⟩
theorem pf_X10_36 : zw_pf RX10 36 9 4 (.object "LettersEliminated$Table") true := ⟨_, _, _, _, zcl_X10, by decide, fl_X10_36, rfl, rfl, rfl⟩
theorem fl_X10_43 : Cond.fieldLink RX10 43 (TX10 5).1 (TX10 5).2.1 (TX10 5).2.2.1 ∈ lw_g := zw_mem 336 (by decide +kernel) rfl
theorem gf_X10_43 : zw_gf RX10 43 9 5 := ⟨_, _, _, _, zcl_X10, by decide, fl_X10_43⟩
theorem pf_X10_43 : zw_pf RX10 43 9 5 (.object "LettersEliminated$Chain") true := ⟨_, _, _, _, zcl_X10, by decide, fl_X10_43, rfl, rfl, rfl⟩
theorem fl_X10_50 : Cond.fieldLink RX10 50 (TX10 6).1 (TX10 6).2.1 (TX10 6).2.2.1 ∈ lw_g := zw_mem 337 (by decide +kernel) rfl
theorem gf_X10_50 : zw_gf RX10 50 9 6 := ⟨_, _, _, _, zcl_X10, by decide, fl_X10_50⟩
theorem pf_X10_50 : zw_pf RX10 50 9 6 (.object "LettersEliminated$Polygon") true := ⟨_, _, _, _, zcl_X10, by decide, fl_X10_50, rfl, rfl, rfl⟩
theorem fl_X10_57 : Cond.fieldLink RX10 57 (TX10 7).1 (TX10 7).2.1 (TX10 7).2.2.1 ∈ lw_g := zw_mem 338 (by decide +kernel) rfl
theorem gf_X10_57 : zw_gf RX10 57 9 7 := ⟨_, _, _, _, zcl_X10, by decide, fl_X10_57⟩
theorem pf_X10_57 : zw_pf RX10 57 9 7 (.object "LettersEliminated$Roots") true := ⟨_, _, _, _, zcl_X10, by decide, fl_X10_57, rfl, rfl, rfl⟩
theorem fl_X10_64 : Cond.fieldLink RX10 64 (TX10 8).1 (TX10 8).2.1 (TX10 8).2.2.1 ∈ lw_g := zw_mem 339 (by decide +kernel) rfl
theorem gf_X10_64 : zw_gf RX10 64 9 8 := ⟨_, _, _, _, zcl_X10, by decide, fl_X10_64⟩
theorem pf_X10_64 : zw_pf RX10 64 9 8 (.object "LettersEliminated$Lists") true := ⟨_, _, _, _, zcl_X10, by decide, fl_X10_64, rfl, rfl, rfl⟩
theorem fl_X10_68 : Cond.fieldLink RX10 68 (TX10 9).1 (TX10 9).2.1 (TX10 9).2.2.1 ∈ lw_g := zw_mem 340 (by decide +kernel) rfl
theorem gf_X10_68 : zw_gf RX10 68 9 9 := ⟨_, _, _, _, zcl_X10, by decide, fl_X10_68⟩
theorem pf_X10_68 : zw_pf RX10 68 9 9 (.array .int) true := ⟨_, _, _, _, zcl_X10, by decide, fl_X10_68, rfl, rfl, rfl⟩
theorem fl_X10_72 : Cond.fieldLink RX10 72 (TX10 10).1 (TX10 10).2.1 (TX10 10).2.2.1 ∈ lw_g := zw_mem 341 (by decide +kernel) rfl
theorem gf_X10_72 : zw_gf RX10 72 9 10 := ⟨_, _, _, _, zcl_X10, by decide, fl_X10_72⟩
theorem pf_X10_72 : zw_pf RX10 72 9 10 .boolean false := ⟨_, _, _, _, zcl_X10, by decide, fl_X10_72, rfl, rfl, rfl⟩
theorem gs_X2_9 : Cond.fieldLink RX2 9 "LettersEliminated$Numbers" "PRIMES" "[I" ∈ lw_g := zw_mem 469 (by decide +kernel) rfl
theorem fl_X11_1 : Cond.fieldLink RX11 1 (TX11 0).1 (TX11 0).2.1 (TX11 0).2.2.1 ∈ lw_g := zw_mem 971 (by decide +kernel) rfl
theorem gf_X11_1 : zw_gf RX11 1 10 0 := ⟨_, _, _, _, zcl_X11, by decide, fl_X11_1⟩
theorem pf_X11_1 : zw_pf RX11 1 10 0 (.array .int) true := ⟨_, _, _, _, zcl_X11, by decide, fl_X11_1, rfl, rfl, rfl⟩
theorem fl_X11_9 : Cond.fieldLink RX11 9 (TX11 1).1 (TX11 1).2.1 (TX11 1).2.2.1 ∈ lw_g := zw_mem 972 (by decide +kernel) rfl
theorem gf_X11_9 : zw_gf RX11 9 10 1 := ⟨_, _, _, _, zcl_X11, by decide, fl_X11_9⟩
theorem pf_X11_9 : zw_pf RX11 9 10 1 .int false := ⟨_, _, _, _, zcl_X11, by decide, fl_X11_9, rfl, rfl, rfl⟩
theorem fl_X11_31 : Cond.fieldLink RX11 31 (TX11 2).1 (TX11 2).2.1 (TX11 2).2.2.1 ∈ lw_g := zw_mem 973 (by decide +kernel) rfl
theorem gf_X11_31 : zw_gf RX11 31 10 2 := ⟨_, _, _, _, zcl_X11, by decide, fl_X11_31⟩
theorem pf_X11_31 : zw_pf RX11 31 10 2 (.array .int) true := ⟨_, _, _, _, zcl_X11, by decide, fl_X11_31, rfl, rfl, rfl⟩
theorem fl_X11_34 : Cond.fieldLink RX11 34 (TX11 3).1 (TX11 3).2.1 (TX11 3).2.2.1 ∈ lw_g := zw_mem 974 (by decide +kernel) rfl
theorem gf_X11_34 : zw_gf RX11 34 10 3 := ⟨_, _, _, _, zcl_X11, by decide, fl_X11_34⟩
theorem pf_X11_34 : zw_pf RX11 34 10 3 (.array .int) true := ⟨_, _, _, _, zcl_X11, by decide, fl_X11_34, rfl, rfl, rfl⟩
theorem fl_X11_37 : Cond.fieldLink RX11 37 (TX11 4).1 (TX11 4).2.1 (TX11 4).2.2.1 ∈ lw_g := zw_mem 975 (by decide +kernel) rfl
theorem gf_X11_37 : zw_gf RX11 37 10 4 := ⟨_, _, _, _, zcl_X11, by decide, fl_X11_37⟩
theorem pf_X11_37 : zw_pf RX11 37 10 4 (.array .int) true := ⟨_, _, _, _, zcl_X11, by decide, fl_X11_37, rfl, rfl, rfl⟩
theorem fl_X11_95 : Cond.fieldLink RX11 95 (TX11 5).1 (TX11 5).2.1 (TX11 5).2.2.1 ∈ lw_g := zw_mem 976 (by decide +kernel) rfl
theorem gf_X11_95 : zw_gf RX11 95 10 5 := ⟨_, _, _, _, zcl_X11, by decide, fl_X11_95⟩
theorem pf_X11_95 : zw_pf RX11 95 10 5 .int false := ⟨_, _, _, _, zcl_X11, by decide, fl_X11_95, rfl, rfl, rfl⟩
theorem fl_X11_40 : Cond.fieldLink RX11 40 (TX11 6).1 (TX11 6).2.1 (TX11 6).2.2.1 ∈ lw_g := zw_mem 977 (by decide +kernel) rfl
theorem gf_X11_40 : zw_gf RX11 40 10 6 := ⟨_, _, _, _, zcl_X11, by decide, fl_X11_40⟩
theorem pf_X11_40 : zw_pf RX11 40 10 6 (.array .int) true := ⟨_, _, _, _, zcl_X11, by decide, fl_X11_40, rfl, rfl, rfl⟩
theorem fl_X11_43 : Cond.fieldLink RX11 43 (TX11 7).1 (TX11 7).2.1 (TX11 7).2.2.1 ∈ lw_g := zw_mem 978 (by decide +kernel) rfl
theorem gf_X11_43 : zw_gf RX11 43 10 7 := ⟨_, _, _, _, zcl_X11, by decide, fl_X11_43⟩
theorem pf_X11_43 : zw_pf RX11 43 10 7 (.array .int) true := ⟨_, _, _, _, zcl_X11, by decide, fl_X11_43, rfl, rfl, rfl⟩
theorem fl_X11_117 : Cond.fieldLink RX11 117 (TX11 8).1 (TX11 8).2.1 (TX11 8).2.2.1 ∈ lw_g := zw_mem 979 (by decide +kernel) rfl
theorem gf_X11_117 : zw_gf RX11 117 10 8 := ⟨_, _, _, _, zcl_X11, by decide, fl_X11_117⟩
theorem pf_X11_117 : zw_pf RX11 117 10 8 .int false := ⟨_, _, _, _, zcl_X11, by decide, fl_X11_117, rfl, rfl, rfl⟩
theorem fl_X11_46 : Cond.fieldLink RX11 46 (TX11 9).1 (TX11 9).2.1 (TX11 9).2.2.1 ∈ lw_g := zw_mem 980 (by decide +kernel) rfl
theorem gf_X11_46 : zw_gf RX11 46 10 9 := ⟨_, _, _, _, zcl_X11, by decide, fl_X11_46⟩
theorem pf_X11_46 : zw_pf RX11 46 10 9 (.array .int) true := ⟨_, _, _, _, zcl_X11, by decide, fl_X11_46, rfl, rfl, rfl⟩
theorem fl_X11_49 : Cond.fieldLink RX11 49 (TX11 10).1 (TX11 10).2.1 (TX11 10).2.2.1 ∈ lw_g := zw_mem 981 (by decide +kernel) rfl
theorem gf_X11_49 : zw_gf RX11 49 10 10 := ⟨_, _, _, _, zcl_X11, by decide, fl_X11_49⟩
theorem pf_X11_49 : zw_pf RX11 49 10 10 (.array .int) true := ⟨_, _, _, _, zcl_X11, by decide, fl_X11_49, rfl, rfl, rfl⟩
theorem fl_X11_123 : Cond.fieldLink RX11 123 (TX11 11).1 (TX11 11).2.1 (TX11 11).2.2.1 ∈ lw_g := zw_mem 982 (by decide +kernel) rfl
theorem gf_X11_123 : zw_gf RX11 123 10 11 := ⟨_, _, _, _, zcl_X11, by decide, fl_X11_123⟩
theorem pf_X11_123 : zw_pf RX11 123 10 11 .int false := ⟨_, _, _, _, zcl_X11, by decide, fl_X11_123, rfl, rfl, rfl⟩
theorem fl_X11_126 : Cond.fieldLink RX11 126 (TX11 12).1 (TX11 12).2.1 (TX11 12).2.2.1 ∈ lw_g := zw_mem 983 (by decide +kernel) rfl
theorem gf_X11_126 : zw_gf RX11 126 10 12 := ⟨_, _, _, _, zcl_X11, by decide, fl_X11_126⟩
theorem pf_X11_126 : zw_pf RX11 126 10 12 .int false := ⟨_, _, _, _, zcl_X11, by decide, fl_X11_126, rfl, rfl, rfl⟩
theorem fl_X11_52 : Cond.fieldLink RX11 52 (TX11 13).1 (TX11 13).2.1 (TX11 13).2.2.1 ∈ lw_g := zw_mem 984 (by decide +kernel) rfl
theorem gf_X11_52 : zw_gf RX11 52 10 13 := ⟨_, _, _, _, zcl_X11, by decide, fl_X11_52⟩
theorem pf_X11_52 : zw_pf RX11 52 10 13 (.array .int) true := ⟨_, _, _, _, zcl_X11, by decide, fl_X11_52, rfl, rfl, rfl⟩
theorem fl_X11_55 : Cond.fieldLink RX11 55 (TX11 14).1 (TX11 14).2.1 (TX11 14).2.2.1 ∈ lw_g := zw_mem 985 (by decide +kernel) rfl
theorem gf_X11_55 : zw_gf RX11 55 10 14 := ⟨_, _, _, _, zcl_X11, by decide, fl_X11_55⟩
theorem pf_X11_55 : zw_pf RX11 55 10 14 (.array .int) true := ⟨_, _, _, _, zcl_X11, by decide, fl_X11_55, rfl, rfl, rfl⟩
theorem fl_X11_180 : Cond.fieldLink RX11 180 (TX11 15).1 (TX11 15).2.1 (TX11 15).2.2.1 ∈ lw_g := zw_mem 986 (by decide +kernel) rfl
theorem gf_X11_180 : zw_gf RX11 180 10 15 := ⟨_, _, _, _, zcl_X11, by decide, fl_X11_180⟩
theorem pf_X11_180 : zw_pf RX11 180 10 15 .int false := ⟨_, _, _, _, zcl_X11, by decide, fl_X11_180, rfl, rfl, rfl⟩
theorem fl_X11_183 : Cond.fieldLink RX11 183 (TX11 16).1 (TX11 16).2.1 (TX11 16).2.2.1 ∈ lw_g := zw_mem 987 (by decide +kernel) rfl
theorem gf_X11_183 : zw_gf RX11 183 10 16 := ⟨_, _, _, _, zcl_X11, by decide, fl_X11_183⟩
theorem pf_X11_183 : zw_pf RX11 183 10 16 .int false := ⟨_, _, _, _, zcl_X11, by decide, fl_X11_183, rfl, rfl, rfl⟩
theorem fl_X11_58 : Cond.fieldLink RX11 58 (TX11 17).1 (TX11 17).2.1 (TX11 17).2.2.1 ∈ lw_g := zw_mem 988 (by decide +kernel) rfl
theorem gf_X11_58 : zw_gf RX11 58 10 17 := ⟨_, _, _, _, zcl_X11, by decide, fl_X11_58⟩
theorem pf_X11_58 : zw_pf RX11 58 10 17 (.array .int) true := ⟨_, _, _, _, zcl_X11, by decide, fl_X11_58, rfl, rfl, rfl⟩
theorem fl_X11_186 : Cond.fieldLink RX11 186 (TX11 18).1 (TX11 18).2.1 (TX11 18).2.2.1 ∈ lw_g := zw_mem 989 (by decide +kernel) rfl
theorem gf_X11_186 : zw_gf RX11 186 10 18 := ⟨_, _, _, _, zcl_X11, by decide, fl_X11_186⟩
theorem pf_X11_186 : zw_pf RX11 186 10 18 .int false := ⟨_, _, _, _, zcl_X11, by decide, fl_X11_186, rfl, rfl, rfl⟩
theorem fl_X11_61 : Cond.fieldLink RX11 61 (TX11 19).1 (TX11 19).2.1 (TX11 19).2.2.1 ∈ lw_g := zw_mem 990 (by decide +kernel) rfl
theorem gf_X11_61 : zw_gf RX11 61 10 19 := ⟨_, _, _, _, zcl_X11, by decide, fl_X11_61⟩
theorem pf_X11_61 : zw_pf RX11 61 10 19 (.array .int) true := ⟨_, _, _, _, zcl_X11, by decide, fl_X11_61, rfl, rfl, rfl⟩
theorem fl_X11_64 : Cond.fieldLink RX11 64 (TX11 20).1 (TX11 20).2.1 (TX11 20).2.2.1 ∈ lw_g := zw_mem 991 (by decide +kernel) rfl
theorem gf_X11_64 : zw_gf RX11 64 10 20 := ⟨_, _, _, _, zcl_X11, by decide, fl_X11_64⟩
theorem pf_X11_64 : zw_pf RX11 64 10 20 (.array .int) true := ⟨_, _, _, _, zcl_X11, by decide, fl_X11_64, rfl, rfl, rfl⟩
theorem fl_X11_67 : Cond.fieldLink RX11 67 (TX11 21).1 (TX11 21).2.1 (TX11 21).2.2.1 ∈ lw_g := zw_mem 992 (by decide +kernel) rfl
theorem gf_X11_67 : zw_gf RX11 67 10 21 := ⟨_, _, _, _, zcl_X11, by decide, fl_X11_67⟩
theorem pf_X11_67 : zw_pf RX11 67 10 21 (.array .int) true := ⟨_, _, _, _, zcl_X11, by decide, fl_X11_67, rfl, rfl, rfl⟩
theorem fl_X11_70 : Cond.fieldLink RX11 70 (TX11 22).1 (TX11 22).2.1 (TX11 22).2.2.1 ∈ lw_g := zw_mem 993 (by decide +kernel) rfl
theorem gf_X11_70 : zw_gf RX11 70 10 22 := ⟨_, _, _, _, zcl_X11, by decide, fl_X11_70⟩
theorem pf_X11_70 : zw_pf RX11 70 10 22 (.array .int) true := ⟨_, _, _, _, zcl_X11, by decide, fl_X11_70, rfl, rfl, rfl⟩
theorem fl_X11_73 : Cond.fieldLink RX11 73 (TX11 23).1 (TX11 23).2.1 (TX11 23).2.2.1 ∈ lw_g := zw_mem 994 (by decide +kernel) rfl
theorem gf_X11_73 : zw_gf RX11 73 10 23 := ⟨_, _, _, _, zcl_X11, by decide, fl_X11_73⟩
theorem pf_X11_73 : zw_pf RX11 73 10 23 (.array .int) true := ⟨_, _, _, _, zcl_X11, by decide, fl_X11_73, rfl, rfl, rfl⟩
theorem fl_X11_234 : Cond.fieldLink RX11 234 (TX11 24).1 (TX11 24).2.1 (TX11 24).2.2.1 ∈ lw_g := zw_mem 995 (by decide +kernel) rfl
theorem gf_X11_234 : zw_gf RX11 234 10 24 := ⟨_, _, _, _, zcl_X11, by decide, fl_X11_234⟩
theorem pf_X11_234 : zw_pf RX11 234 10 24 .int false := ⟨_, _, _, _, zcl_X11, by decide, fl_X11_234, rfl, rfl, rfl⟩
theorem fl_X11_237 : Cond.fieldLink RX11 237 (TX11 25).1 (TX11 25).2.1 (TX11 25).2.2.1 ∈ lw_g := zw_mem 996 (by decide +kernel) rfl
theorem gf_X11_237 : zw_gf RX11 237 10 25 := ⟨_, _, _, _, zcl_X11, by decide, fl_X11_237⟩
theorem pf_X11_237 : zw_pf RX11 237 10 25 .int false := ⟨_, _, _, _, zcl_X11, by decide, fl_X11_237, rfl, rfl, rfl⟩
theorem fl_X11_76 : Cond.fieldLink RX11 76 (TX11 26).1 (TX11 26).2.1 (TX11 26).2.2.1 ∈ lw_g := zw_mem 997 (by decide +kernel) rfl
theorem gf_X11_76 : zw_gf RX11 76 10 26 := ⟨_, _, _, _, zcl_X11, by decide, fl_X11_76⟩
theorem pf_X11_76 : zw_pf RX11 76 10 26 (.array .boolean) true := ⟨_, _, _, _, zcl_X11, by decide, fl_X11_76, rfl, rfl, rfl⟩
theorem fl_X11_80 : Cond.fieldLink RX11 80 (TX11 27).1 (TX11 27).2.1 (TX11 27).2.2.1 ∈ lw_g := zw_mem 998 (by decide +kernel) rfl
theorem gf_X11_80 : zw_gf RX11 80 10 27 := ⟨_, _, _, _, zcl_X11, by decide, fl_X11_80⟩
theorem pf_X11_80 : zw_pf RX11 80 10 27 (.array .int) true := ⟨_, _, _, _, zcl_X11, by decide, fl_X11_80, rfl, rfl, rfl⟩
theorem fl_X11_274 : Cond.fieldLink RX11 274 (TX11 28).1 (TX11 28).2.1 (TX11 28).2.2.1 ∈ lw_g := zw_mem 999 (by decide +kernel) rfl
theorem gf_X11_274 : zw_gf RX11 274 10 28 := ⟨_, _, _, _, zcl_X11, by decide, fl_X11_274⟩
theorem pf_X11_274 : zw_pf RX11 274 10 28 .int false := ⟨_, _, _, _, zcl_X11, by decide, fl_X11_274, rfl, rfl, rfl⟩
theorem fl_X11_313 : Cond.fieldLink RX11 313 (TX11 29).1 (TX11 29).2.1 (TX11 29).2.2.1 ∈ lw_g := zw_mem 1000 (by decide +kernel) rfl
theorem gf_X11_313 : zw_gf RX11 313 10 29 := ⟨_, _, _, _, zcl_X11, by decide, fl_X11_313⟩
theorem pf_X11_313 : zw_pf RX11 313 10 29 .int false := ⟨_, _, _, _, zcl_X11, by decide, fl_X11_313, rfl, rfl, rfl⟩
theorem fl_X11_83 : Cond.fieldLink RX11 83 (TX11 30).1 (TX11 30).2.1 (TX11 30).2.2.1 ∈ lw_g := zw_mem 1001 (by decide +kernel) rfl
theorem gf_X11_83 : zw_gf RX11 83 10 30 := ⟨_, _, _, _, zcl_X11, by decide, fl_X11_83⟩
theorem pf_X11_83 : zw_pf RX11 83 10 30 (.array .int) true := ⟨_, _, _, _, zcl_X11, by decide, fl_X11_83, rfl, rfl, rfl⟩
theorem fl_X11_86 : Cond.fieldLink RX11 86 (TX11 31).1 (TX11 31).2.1 (TX11 31).2.2.1 ∈ lw_g := zw_mem 1002 (by decide +kernel) rfl
theorem gf_X11_86 : zw_gf RX11 86 10 31 := ⟨_, _, _, _, zcl_X11, by decide, fl_X11_86⟩
theorem pf_X11_86 : zw_pf RX11 86 10 31 (.array .int) true := ⟨_, _, _, _, zcl_X11, by decide, fl_X11_86, rfl, rfl, rfl⟩
theorem fl_X11_89 : Cond.fieldLink RX11 89 (TX11 32).1 (TX11 32).2.1 (TX11 32).2.2.1 ∈ lw_g := zw_mem 1003 (by decide +kernel) rfl
theorem gf_X11_89 : zw_gf RX11 89 10 32 := ⟨_, _, _, _, zcl_X11, by decide, fl_X11_89⟩
theorem pf_X11_89 : zw_pf RX11 89 10 32 (.array .int) true := ⟨_, _, _, _, zcl_X11, by decide, fl_X11_89, rfl, rfl, rfl⟩
theorem fl_X11_336 : Cond.fieldLink RX11 336 (TX11 33).1 (TX11 33).2.1 (TX11 33).2.2.1 ∈ lw_g := zw_mem 1004 (by decide +kernel) rfl
theorem gf_X11_336 : zw_gf RX11 336 10 33 := ⟨_, _, _, _, zcl_X11, by decide, fl_X11_336⟩
theorem pf_X11_336 : zw_pf RX11 336 10 33 .int false := ⟨_, _, _, _, zcl_X11, by decide, fl_X11_336, rfl, rfl, rfl⟩
theorem fl_X11_92 : Cond.fieldLink RX11 92 (TX11 34).1 (TX11 34).2.1 (TX11 34).2.2.1 ∈ lw_g := zw_mem 1005 (by decide +kernel) rfl
theorem gf_X11_92 : zw_gf RX11 92 10 34 := ⟨_, _, _, _, zcl_X11, by decide, fl_X11_92⟩
theorem pf_X11_92 : zw_pf RX11 92 10 34 .int false := ⟨_, _, _, _, zcl_X11, by decide, fl_X11_92, rfl, rfl, rfl⟩
theorem fl_X11_332 : Cond.fieldLink RX11 332 (TX11 35).1 (TX11 35).2.1 (TX11 35).2.2.1 ∈ lw_g := zw_mem 1006 (by decide +kernel) rfl
theorem gf_X11_332 : zw_gf RX11 332 10 35 := ⟨_, _, _, _, zcl_X11, by decide, fl_X11_332⟩
theorem pf_X11_332 : zw_pf RX11 332 10 35 .boolean false := ⟨_, _, _, _, zcl_X11, by decide, fl_X11_332, rfl, rfl, rfl⟩
theorem mt_X0_init : zw_mt mm_X0_init 0 := ⟨zw_mem 248 (by decide +kernel) rfl, zw_mem 98 (by decide +kernel) rfl, by decide +kernel, by decide +kernel, by decide +kernel⟩
theorem mC_X0_init : zw_mC mm_X0_init 0 := ⟨mt_X0_init, zw_mem 247 (by decide +kernel) rfl, rfl, rfl⟩
theorem mt_X0_divideOn : zw_mt mm_X0_divideOn 1 := ⟨zw_mem 681 (by decide +kernel) rfl, zw_mem 98 (by decide +kernel) rfl, by decide +kernel, by decide +kernel, by decide +kernel⟩
theorem mV_X0_divideOn : zw_mV mm_X0_divideOn 1 := ⟨mt_X0_divideOn, zw_mem 679 (by decide +kernel) rfl, zw_mem 680 (by decide +kernel) rfl⟩
theorem mt_X0_note : zw_mt mm_X0_note 1 := ⟨zw_mem 686 (by decide +kernel) rfl, zw_mem 98 (by decide +kernel) rfl, by decide +kernel, by decide +kernel, by decide +kernel⟩
theorem mV_X0_note : zw_mV mm_X0_note 1 := ⟨mt_X0_note, zw_mem 685 (by decide +kernel) rfl, zw_mem 20 (by decide +kernel) rfl⟩
theorem mt_X0_divide : zw_mt mm_X0_divide 3 := ⟨zw_mem 689 (by decide +kernel) rfl, zw_mem 98 (by decide +kernel) rfl, by decide +kernel, by decide +kernel, by decide +kernel⟩
theorem mS_X0_divide : zw_mS mm_X0_divide 3 := ⟨mt_X0_divide, zw_mem 688 (by decide +kernel) rfl⟩
theorem mt_X0_linkDegree : zw_mt mm_X0_linkDegree 1 := ⟨zw_mem 697 (by decide +kernel) rfl, zw_mem 98 (by decide +kernel) rfl, by decide +kernel, by decide +kernel, by decide +kernel⟩
theorem mV_X0_linkDegree : zw_mV mm_X0_linkDegree 1 := ⟨mt_X0_linkDegree, zw_mem 695 (by decide +kernel) rfl, zw_mem 696 (by decide +kernel) rfl⟩
theorem mt_X0_lastDegree : zw_mt mm_X0_lastDegree 0 := ⟨zw_mem 709 (by decide +kernel) rfl, zw_mem 98 (by decide +kernel) rfl, by decide +kernel, by decide +kernel, by decide +kernel⟩
theorem mV_X0_lastDegree : zw_mV mm_X0_lastDegree 0 := ⟨mt_X0_lastDegree, zw_mem 707 (by decide +kernel) rfl, zw_mem 708 (by decide +kernel) rfl⟩
theorem mt_X0_layMultiples : zw_mt mm_X0_layMultiples 3 := ⟨zw_mem 719 (by decide +kernel) rfl, zw_mem 98 (by decide +kernel) rfl, by decide +kernel, by decide +kernel, by decide +kernel⟩
theorem mV_X0_layMultiples : zw_mV mm_X0_layMultiples 3 := ⟨mt_X0_layMultiples, zw_mem 717 (by decide +kernel) rfl, zw_mem 718 (by decide +kernel) rfl⟩
theorem mt_X0_raise : zw_mt mm_X0_raise 0 := ⟨zw_mem 727 (by decide +kernel) rfl, zw_mem 98 (by decide +kernel) rfl, by decide +kernel, by decide +kernel, by decide +kernel⟩
theorem mV_X0_raise : zw_mV mm_X0_raise 0 := ⟨mt_X0_raise, zw_mem 726 (by decide +kernel) rfl, zw_mem 22 (by decide +kernel) rfl⟩
theorem mt_X1_init : zw_mt mm_X1_init 0 := ⟨zw_mem 322 (by decide +kernel) rfl, zw_mem 101 (by decide +kernel) rfl, by decide +kernel, by decide +kernel, by decide +kernel⟩
theorem mC_X1_init : zw_mC mm_X1_init 0 := ⟨mt_X1_init, zw_mem 321 (by decide +kernel) rfl, rfl, rfl⟩
theorem mt_X1_has : zw_mt mm_X1_has 1 := ⟨zw_mem 870 (by decide +kernel) rfl, zw_mem 101 (by decide +kernel) rfl, by decide +kernel, by decide +kernel, by decide +kernel⟩
theorem mV_X1_has : zw_mV mm_X1_has 1 := ⟨mt_X1_has, zw_mem 868 (by decide +kernel) rfl, zw_mem 869 (by decide +kernel) rfl⟩
theorem mt_X1_isMissing : zw_mt mm_X1_isMissing 1 := ⟨zw_mem 890 (by decide +kernel) rfl, zw_mem 101 (by decide +kernel) rfl, by decide +kernel, by decide +kernel, by decide +kernel⟩
theorem mV_X1_isMissing : zw_mV mm_X1_isMissing 1 := ⟨mt_X1_isMissing, zw_mem 888 (by decide +kernel) rfl, zw_mem 889 (by decide +kernel) rfl⟩
theorem mt_X1_hasPlace : zw_mt mm_X1_hasPlace 2 := ⟨zw_mem 894 (by decide +kernel) rfl, zw_mem 101 (by decide +kernel) rfl, by decide +kernel, by decide +kernel, by decide +kernel⟩
theorem mV_X1_hasPlace : zw_mV mm_X1_hasPlace 2 := ⟨mt_X1_hasPlace, zw_mem 892 (by decide +kernel) rfl, zw_mem 893 (by decide +kernel) rfl⟩
theorem mt_X1_make : zw_mt mm_X1_make 2 := ⟨zw_mem 874 (by decide +kernel) rfl, zw_mem 101 (by decide +kernel) rfl, by decide +kernel, by decide +kernel, by decide +kernel⟩
theorem mV_X1_make : zw_mV mm_X1_make 2 := ⟨mt_X1_make, zw_mem 872 (by decide +kernel) rfl, zw_mem 873 (by decide +kernel) rfl⟩
theorem mt_X1_write : zw_mt mm_X1_write 3 := ⟨zw_mem 878 (by decide +kernel) rfl, zw_mem 101 (by decide +kernel) rfl, by decide +kernel, by decide +kernel, by decide +kernel⟩
theorem mV_X1_write : zw_mV mm_X1_write 3 := ⟨mt_X1_write, zw_mem 876 (by decide +kernel) rfl, zw_mem 877 (by decide +kernel) rfl⟩
theorem mt_X1_readAt : zw_mt mm_X1_readAt 2 := ⟨zw_mem 903 (by decide +kernel) rfl, zw_mem 101 (by decide +kernel) rfl, by decide +kernel, by decide +kernel, by decide +kernel⟩
theorem mV_X1_readAt : zw_mV mm_X1_readAt 2 := ⟨mt_X1_readAt, zw_mem 901 (by decide +kernel) rfl, zw_mem 902 (by decide +kernel) rfl⟩
theorem mt_X1_lay : zw_mt mm_X1_lay 3 := ⟨zw_mem 911 (by decide +kernel) rfl, zw_mem 101 (by decide +kernel) rfl, by decide +kernel, by decide +kernel, by decide +kernel⟩
theorem mV_X1_lay : zw_mV mm_X1_lay 3 := ⟨mt_X1_lay, zw_mem 909 (by decide +kernel) rfl, zw_mem 910 (by decide +kernel) rfl⟩
theorem mt_X1_firstUnlike : zw_mt mm_X1_firstUnlike 3 := ⟨zw_mem 920 (by decide +kernel) rfl, zw_mem 101 (by decide +kernel) rfl, by decide +kernel, by decide +kernel, by decide +kernel⟩
theorem mV_X1_firstUnlike : zw_mV mm_X1_firstUnlike 3 := ⟨mt_X1_firstUnlike, zw_mem 918 (by decide +kernel) rfl, zw_mem 919 (by decide +kernel) rfl⟩
theorem mt_X2_isPrime : zw_mt mm_X2_isPrime 1 := ⟨zw_mem 468 (by decide +kernel) rfl, zw_mem 106 (by decide +kernel) rfl, by decide +kernel, by decide +kernel, by decide +kernel⟩
theorem mS_X2_isPrime : zw_mS mm_X2_isPrime 1 := ⟨mt_X2_isPrime, zw_mem 467 (by decide +kernel) rfl⟩
theorem mt_X2_power : zw_mt mm_X2_power 3 := ⟨zw_mem 453 (by decide +kernel) rfl, zw_mem 106 (by decide +kernel) rfl, by decide +kernel, by decide +kernel, by decide +kernel⟩
theorem mS_X2_power : zw_mS mm_X2_power 3 := ⟨mt_X2_power, zw_mem 452 (by decide +kernel) rfl⟩
theorem mt_X2_inverse : zw_mt mm_X2_inverse 2 := ⟨zw_mem 692 (by decide +kernel) rfl, zw_mem 106 (by decide +kernel) rfl, by decide +kernel, by decide +kernel, by decide +kernel⟩
theorem mS_X2_inverse : zw_mS mm_X2_inverse 2 := ⟨mt_X2_inverse, zw_mem 691 (by decide +kernel) rfl⟩
theorem mt_X2_degreeOf : zw_mt mm_X2_degreeOf 1 := ⟨zw_mem 659 (by decide +kernel) rfl, zw_mem 106 (by decide +kernel) rfl, by decide +kernel, by decide +kernel, by decide +kernel⟩
theorem mS_X2_degreeOf : zw_mS mm_X2_degreeOf 1 := ⟨mt_X2_degreeOf, zw_mem 658 (by decide +kernel) rfl⟩
theorem mt_X2_valueAt : zw_mt mm_X2_valueAt 3 := ⟨zw_mem 569 (by decide +kernel) rfl, zw_mem 106 (by decide +kernel) rfl, by decide +kernel, by decide +kernel, by decide +kernel⟩
theorem mS_X2_valueAt : zw_mS mm_X2_valueAt 3 := ⟨mt_X2_valueAt, zw_mem 568 (by decide +kernel) rfl⟩
theorem mt_X2_commonDivisor : zw_mt mm_X2_commonDivisor 2 := ⟨zw_mem 846 (by decide +kernel) rfl, zw_mem 106 (by decide +kernel) rfl, by decide +kernel, by decide +kernel, by decide +kernel⟩
theorem mS_X2_commonDivisor : zw_mS mm_X2_commonDivisor 2 := ⟨mt_X2_commonDivisor, zw_mem 845 (by decide +kernel) rfl⟩
theorem mt_X3_init : zw_mt mm_X3_init 0 := ⟨zw_mem 196 (by decide +kernel) rfl, zw_mem 96 (by decide +kernel) rfl, by decide +kernel, by decide +kernel, by decide +kernel⟩
theorem mC_X3_init : zw_mC mm_X3_init 0 := ⟨mt_X3_init, zw_mem 195 (by decide +kernel) rfl, rfl, rfl⟩
theorem mt_X3_forget : zw_mt mm_X3_forget 0 := ⟨zw_mem 419 (by decide +kernel) rfl, zw_mem 96 (by decide +kernel) rfl, by decide +kernel, by decide +kernel, by decide +kernel⟩
theorem mV_X3_forget : zw_mV mm_X3_forget 0 := ⟨mt_X3_forget, zw_mem 417 (by decide +kernel) rfl, zw_mem 418 (by decide +kernel) rfl⟩
theorem mt_X3_note : zw_mt mm_X3_note 3 := ⟨zw_mem 487 (by decide +kernel) rfl, zw_mem 96 (by decide +kernel) rfl, by decide +kernel, by decide +kernel, by decide +kernel⟩
theorem mV_X3_note : zw_mV mm_X3_note 3 := ⟨mt_X3_note, zw_mem 485 (by decide +kernel) rfl, zw_mem 486 (by decide +kernel) rfl⟩
theorem mt_X3_forgetOldest : zw_mt mm_X3_forgetOldest 0 := ⟨zw_mem 491 (by decide +kernel) rfl, zw_mem 96 (by decide +kernel) rfl, by decide +kernel, by decide +kernel, by decide +kernel⟩
theorem mV_X3_forgetOldest : zw_mV mm_X3_forgetOldest 0 := ⟨mt_X3_forgetOldest, zw_mem 490 (by decide +kernel) rfl, zw_mem 9 (by decide +kernel) rfl⟩
theorem mt_X3_takeBack : zw_mt mm_X3_takeBack 1 := ⟨zw_mem 930 (by decide +kernel) rfl, zw_mem 96 (by decide +kernel) rfl, by decide +kernel, by decide +kernel, by decide +kernel⟩
theorem mV_X3_takeBack : zw_mV mm_X3_takeBack 1 := ⟨mt_X3_takeBack, zw_mem 928 (by decide +kernel) rfl, zw_mem 929 (by decide +kernel) rfl⟩
theorem mt_X4_init : zw_mt mm_X4_init 0 := ⟨zw_mem 127 (by decide +kernel) rfl, zw_mem 94 (by decide +kernel) rfl, by decide +kernel, by decide +kernel, by decide +kernel⟩
theorem mC_X4_init : zw_mC mm_X4_init 0 := ⟨mt_X4_init, zw_mem 126 (by decide +kernel) rfl, rfl, rfl⟩
theorem mt_X4_copyFrom : zw_mt mm_X4_copyFrom 1 := ⟨zw_mem 945 (by decide +kernel) rfl, zw_mem 94 (by decide +kernel) rfl, by decide +kernel, by decide +kernel, by decide +kernel⟩
theorem mV_X4_copyFrom : zw_mV mm_X4_copyFrom 1 := ⟨mt_X4_copyFrom, zw_mem 943 (by decide +kernel) rfl, zw_mem 944 (by decide +kernel) rfl⟩
theorem mt_X4_clear : zw_mt mm_X4_clear 0 := ⟨zw_mem 427 (by decide +kernel) rfl, zw_mem 94 (by decide +kernel) rfl, by decide +kernel, by decide +kernel, by decide +kernel⟩
theorem mV_X4_clear : zw_mV mm_X4_clear 0 := ⟨mt_X4_clear, zw_mem 425 (by decide +kernel) rfl, zw_mem 426 (by decide +kernel) rfl⟩
theorem mt_X4_become : zw_mt mm_X4_become 3 := ⟨zw_mem 496 (by decide +kernel) rfl, zw_mem 94 (by decide +kernel) rfl, by decide +kernel, by decide +kernel, by decide +kernel⟩
theorem mV_X4_become : zw_mV mm_X4_become 3 := ⟨mt_X4_become, zw_mem 494 (by decide +kernel) rfl, zw_mem 495 (by decide +kernel) rfl⟩
theorem mt_X4_tell : zw_mt mm_X4_tell 3 := ⟨zw_mem 508 (by decide +kernel) rfl, zw_mem 94 (by decide +kernel) rfl, by decide +kernel, by decide +kernel, by decide +kernel⟩
theorem mV_X4_tell : zw_mV mm_X4_tell 3 := ⟨mt_X4_tell, zw_mem 506 (by decide +kernel) rfl, zw_mem 507 (by decide +kernel) rfl⟩
theorem mt_X4_reduceBy : zw_mt mm_X4_reduceBy 1 := ⟨zw_mem 435 (by decide +kernel) rfl, zw_mem 94 (by decide +kernel) rfl, by decide +kernel, by decide +kernel, by decide +kernel⟩
theorem mV_X4_reduceBy : zw_mV mm_X4_reduceBy 1 := ⟨mt_X4_reduceBy, zw_mem 433 (by decide +kernel) rfl, zw_mem 434 (by decide +kernel) rfl⟩
theorem mt_X4_refresh : zw_mt mm_X4_refresh 1 := ⟨zw_mem 442 (by decide +kernel) rfl, zw_mem 94 (by decide +kernel) rfl, by decide +kernel, by decide +kernel, by decide +kernel⟩
theorem mV_X4_refresh : zw_mV mm_X4_refresh 1 := ⟨mt_X4_refresh, zw_mem 441 (by decide +kernel) rfl, zw_mem 5 (by decide +kernel) rfl⟩
theorem mt_X4_byKind : zw_mt mm_X4_byKind 3 := ⟨zw_mem 446 (by decide +kernel) rfl, zw_mem 94 (by decide +kernel) rfl, by decide +kernel, by decide +kernel, by decide +kernel⟩
theorem mV_X4_byKind : zw_mV mm_X4_byKind 3 := ⟨mt_X4_byKind, zw_mem 445 (by decide +kernel) rfl, zw_mem 6 (by decide +kernel) rfl⟩
theorem mt_X4_even : zw_mt mm_X4_even 2 := ⟨zw_mem 450 (by decide +kernel) rfl, zw_mem 94 (by decide +kernel) rfl, by decide +kernel, by decide +kernel, by decide +kernel⟩
theorem mV_X4_even : zw_mV mm_X4_even 2 := ⟨mt_X4_even, zw_mem 449 (by decide +kernel) rfl, zw_mem 7 (by decide +kernel) rfl⟩
theorem mt_X4_shift : zw_mt mm_X4_shift 1 := ⟨zw_mem 457 (by decide +kernel) rfl, zw_mem 94 (by decide +kernel) rfl, by decide +kernel, by decide +kernel, by decide +kernel⟩
theorem mV_X4_shift : zw_mV mm_X4_shift 1 := ⟨mt_X4_shift, zw_mem 456 (by decide +kernel) rfl, zw_mem 8 (by decide +kernel) rfl⟩
theorem mt_X4_hasTerm : zw_mt mm_X4_hasTerm 2 := ⟨zw_mem 524 (by decide +kernel) rfl, zw_mem 94 (by decide +kernel) rfl, by decide +kernel, by decide +kernel, by decide +kernel⟩
theorem mV_X4_hasTerm : zw_mV mm_X4_hasTerm 2 := ⟨mt_X4_hasTerm, zw_mem 522 (by decide +kernel) rfl, zw_mem 523 (by decide +kernel) rfl⟩
theorem mt_X4_isNought : zw_mt mm_X4_isNought 0 := ⟨zw_mem 584 (by decide +kernel) rfl, zw_mem 94 (by decide +kernel) rfl, by decide +kernel, by decide +kernel, by decide +kernel⟩
theorem mV_X4_isNought : zw_mV mm_X4_isNought 0 := ⟨mt_X4_isNought, zw_mem 582 (by decide +kernel) rfl, zw_mem 583 (by decide +kernel) rfl⟩
theorem mt_X4_howManyTerms : zw_mt mm_X4_howManyTerms 0 := ⟨zw_mem 531 (by decide +kernel) rfl, zw_mem 94 (by decide +kernel) rfl, by decide +kernel, by decide +kernel, by decide +kernel⟩
theorem mV_X4_howManyTerms : zw_mV mm_X4_howManyTerms 0 := ⟨mt_X4_howManyTerms, zw_mem 529 (by decide +kernel) rfl, zw_mem 530 (by decide +kernel) rfl⟩
theorem mt_X4_degreeIn : zw_mt mm_X4_degreeIn 1 := ⟨zw_mem 520 (by decide +kernel) rfl, zw_mem 94 (by decide +kernel) rfl, by decide +kernel, by decide +kernel, by decide +kernel⟩
theorem mV_X4_degreeIn : zw_mV mm_X4_degreeIn 1 := ⟨mt_X4_degreeIn, zw_mem 518 (by decide +kernel) rfl, zw_mem 519 (by decide +kernel) rfl⟩
theorem mt_X4_wholeDegree : zw_mt mm_X4_wholeDegree 0 := ⟨zw_mem 535 (by decide +kernel) rfl, zw_mem 94 (by decide +kernel) rfl, by decide +kernel, by decide +kernel, by decide +kernel⟩
theorem mV_X4_wholeDegree : zw_mV mm_X4_wholeDegree 0 := ⟨mt_X4_wholeDegree, zw_mem 533 (by decide +kernel) rfl, zw_mem 534 (by decide +kernel) rfl⟩
theorem mt_X4_termByLetter : zw_mt mm_X4_termByLetter 1 := ⟨zw_mem 543 (by decide +kernel) rfl, zw_mem 94 (by decide +kernel) rfl, by decide +kernel, by decide +kernel, by decide +kernel⟩
theorem mV_X4_termByLetter : zw_mV mm_X4_termByLetter 1 := ⟨mt_X4_termByLetter, zw_mem 541 (by decide +kernel) rfl, zw_mem 542 (by decide +kernel) rfl⟩
theorem mt_X4_termByWhole : zw_mt mm_X4_termByWhole 1 := ⟨zw_mem 547 (by decide +kernel) rfl, zw_mem 94 (by decide +kernel) rfl, by decide +kernel, by decide +kernel, by decide +kernel⟩
theorem mV_X4_termByWhole : zw_mV mm_X4_termByWhole 1 := ⟨mt_X4_termByWhole, zw_mem 545 (by decide +kernel) rfl, zw_mem 546 (by decide +kernel) rfl⟩
theorem mt_X4_part : zw_mt mm_X4_part 3 := ⟨zw_mem 566 (by decide +kernel) rfl, zw_mem 94 (by decide +kernel) rfl, by decide +kernel, by decide +kernel, by decide +kernel⟩
theorem mV_X4_part : zw_mV mm_X4_part 3 := ⟨mt_X4_part, zw_mem 564 (by decide +kernel) rfl, zw_mem 565 (by decide +kernel) rfl⟩
theorem mt_X4_reduceAt : zw_mt mm_X4_reduceAt 4 := ⟨zw_mem 562 (by decide +kernel) rfl, zw_mem 94 (by decide +kernel) rfl, by decide +kernel, by decide +kernel, by decide +kernel⟩
theorem mV_X4_reduceAt : zw_mV mm_X4_reduceAt 4 := ⟨mt_X4_reduceAt, zw_mem 560 (by decide +kernel) rfl, zw_mem 561 (by decide +kernel) rfl⟩
theorem mt_X4_leadingPart : zw_mt mm_X4_leadingPart 2 := ⟨zw_mem 735 (by decide +kernel) rfl, zw_mem 94 (by decide +kernel) rfl, by decide +kernel, by decide +kernel, by decide +kernel⟩
theorem mV_X4_leadingPart : zw_mV mm_X4_leadingPart 2 := ⟨mt_X4_leadingPart, zw_mem 733 (by decide +kernel) rfl, zw_mem 734 (by decide +kernel) rfl⟩
theorem mt_X4_multipliesWith : zw_mt mm_X4_multipliesWith 1 := ⟨zw_mem 825 (by decide +kernel) rfl, zw_mem 94 (by decide +kernel) rfl, by decide +kernel, by decide +kernel, by decide +kernel⟩
theorem mV_X4_multipliesWith : zw_mV mm_X4_multipliesWith 1 := ⟨mt_X4_multipliesWith, zw_mem 823 (by decide +kernel) rfl, zw_mem 824 (by decide +kernel) rfl⟩
theorem mt_X4_multiply : zw_mt mm_X4_multiply 3 := ⟨zw_mem 829 (by decide +kernel) rfl, zw_mem 94 (by decide +kernel) rfl, by decide +kernel, by decide +kernel, by decide +kernel⟩
theorem mV_X4_multiply : zw_mV mm_X4_multiply 3 := ⟨mt_X4_multiply, zw_mem 827 (by decide +kernel) rfl, zw_mem 828 (by decide +kernel) rfl⟩
theorem mt_X4_addMultiple : zw_mt mm_X4_addMultiple 4 := ⟨zw_mem 833 (by decide +kernel) rfl, zw_mem 94 (by decide +kernel) rfl, by decide +kernel, by decide +kernel, by decide +kernel⟩
theorem mV_X4_addMultiple : zw_mV mm_X4_addMultiple 4 := ⟨mt_X4_addMultiple, zw_mem 832 (by decide +kernel) rfl, zw_mem 29 (by decide +kernel) rfl⟩
theorem mt_X5_init : zw_mt mm_X5_init 0 := ⟨zw_mem 270 (by decide +kernel) rfl, zw_mem 99 (by decide +kernel) rfl, by decide +kernel, by decide +kernel, by decide +kernel⟩
theorem mC_X5_init : zw_mC mm_X5_init 0 := ⟨mt_X5_init, zw_mem 269 (by decide +kernel) rfl, rfl, rfl⟩
theorem mt_X5_ofOne : zw_mt mm_X5_ofOne 1 := ⟨zw_mem 776 (by decide +kernel) rfl, zw_mem 99 (by decide +kernel) rfl, by decide +kernel, by decide +kernel, by decide +kernel⟩
theorem mV_X5_ofOne : zw_mV mm_X5_ofOne 1 := ⟨mt_X5_ofOne, zw_mem 774 (by decide +kernel) rfl, zw_mem 775 (by decide +kernel) rfl⟩
theorem mt_X5_ofTwo : zw_mt mm_X5_ofTwo 2 := ⟨zw_mem 813 (by decide +kernel) rfl, zw_mem 99 (by decide +kernel) rfl, by decide +kernel, by decide +kernel, by decide +kernel⟩
theorem mV_X5_ofTwo : zw_mV mm_X5_ofTwo 2 := ⟨mt_X5_ofTwo, zw_mem 811 (by decide +kernel) rfl, zw_mem 812 (by decide +kernel) rfl⟩
theorem mt_X5_markMoved : zw_mt mm_X5_markMoved 3 := ⟨zw_mem 781 (by decide +kernel) rfl, zw_mem 99 (by decide +kernel) rfl, by decide +kernel, by decide +kernel, by decide +kernel⟩
theorem mV_X5_markMoved : zw_mV mm_X5_markMoved 3 := ⟨mt_X5_markMoved, zw_mem 780 (by decide +kernel) rfl, zw_mem 26 (by decide +kernel) rfl⟩
theorem mt_X5_wrap : zw_mt mm_X5_wrap 0 := ⟨zw_mem 786 (by decide +kernel) rfl, zw_mem 99 (by decide +kernel) rfl, by decide +kernel, by decide +kernel, by decide +kernel⟩
theorem mV_X5_wrap : zw_mV mm_X5_wrap 0 := ⟨mt_X5_wrap, zw_mem 785 (by decide +kernel) rfl, zw_mem 27 (by decide +kernel) rfl⟩
theorem mt_X5_goOn : zw_mt mm_X5_goOn 2 := ⟨zw_mem 790 (by decide +kernel) rfl, zw_mem 99 (by decide +kernel) rfl, by decide +kernel, by decide +kernel, by decide +kernel⟩
theorem mV_X5_goOn : zw_mV mm_X5_goOn 2 := ⟨mt_X5_goOn, zw_mem 789 (by decide +kernel) rfl, zw_mem 28 (by decide +kernel) rfl⟩
theorem mt_X5_turning : zw_mt mm_X5_turning 3 := ⟨zw_mem 793 (by decide +kernel) rfl, zw_mem 99 (by decide +kernel) rfl, by decide +kernel, by decide +kernel, by decide +kernel⟩
theorem mS_X5_turning : zw_mS mm_X5_turning 3 := ⟨mt_X5_turning, zw_mem 792 (by decide +kernel) rfl⟩
theorem mt_X5_cornerCode : zw_mt mm_X5_cornerCode 1 := ⟨zw_mem 797 (by decide +kernel) rfl, zw_mem 99 (by decide +kernel) rfl, by decide +kernel, by decide +kernel, by decide +kernel⟩
theorem mV_X5_cornerCode : zw_mV mm_X5_cornerCode 1 := ⟨mt_X5_cornerCode, zw_mem 795 (by decide +kernel) rfl, zw_mem 796 (by decide +kernel) rfl⟩
theorem mt_X5_twiceCovered : zw_mt mm_X5_twiceCovered 0 := ⟨zw_mem 805 (by decide +kernel) rfl, zw_mem 99 (by decide +kernel) rfl, by decide +kernel, by decide +kernel, by decide +kernel⟩
theorem mV_X5_twiceCovered : zw_mV mm_X5_twiceCovered 0 := ⟨mt_X5_twiceCovered, zw_mem 803 (by decide +kernel) rfl, zw_mem 804 (by decide +kernel) rfl⟩
theorem mt_X6_init : zw_mt mm_X6_init 0 := ⟨zw_mem 166 (by decide +kernel) rfl, zw_mem 95 (by decide +kernel) rfl, by decide +kernel, by decide +kernel, by decide +kernel⟩
theorem mC_X6_init : zw_mC mm_X6_init 0 := ⟨mt_X6_init, zw_mem 165 (by decide +kernel) rfl, rfl, rfl⟩
theorem mt_X6_isFull : zw_mt mm_X6_isFull 0 := ⟨zw_mem 376 (by decide +kernel) rfl, zw_mem 95 (by decide +kernel) rfl, by decide +kernel, by decide +kernel, by decide +kernel⟩
theorem mV_X6_isFull : zw_mV mm_X6_isFull 0 := ⟨mt_X6_isFull, zw_mem 374 (by decide +kernel) rfl, zw_mem 375 (by decide +kernel) rfl⟩
theorem mt_X6_take : zw_mt mm_X6_take 1 := ⟨zw_mem 380 (by decide +kernel) rfl, zw_mem 95 (by decide +kernel) rfl, by decide +kernel, by decide +kernel, by decide +kernel⟩
theorem mV_X6_take : zw_mV mm_X6_take 1 := ⟨mt_X6_take, zw_mem 378 (by decide +kernel) rfl, zw_mem 379 (by decide +kernel) rfl⟩
theorem mt_X6_forget : zw_mt mm_X6_forget 0 := ⟨zw_mem 415 (by decide +kernel) rfl, zw_mem 95 (by decide +kernel) rfl, by decide +kernel, by decide +kernel, by decide +kernel⟩
theorem mV_X6_forget : zw_mV mm_X6_forget 0 := ⟨mt_X6_forget, zw_mem 413 (by decide +kernel) rfl, zw_mem 414 (by decide +kernel) rfl⟩
theorem mt_X6_read : zw_mt mm_X6_read 0 := ⟨zw_mem 392 (by decide +kernel) rfl, zw_mem 95 (by decide +kernel) rfl, by decide +kernel, by decide +kernel, by decide +kernel⟩
theorem mV_X6_read : zw_mV mm_X6_read 0 := ⟨mt_X6_read, zw_mem 390 (by decide +kernel) rfl, zw_mem 391 (by decide +kernel) rfl⟩
theorem mt_X6_next : zw_mt mm_X6_next 0 := ⟨zw_mem 399 (by decide +kernel) rfl, zw_mem 95 (by decide +kernel) rfl, by decide +kernel, by decide +kernel, by decide +kernel⟩
theorem mV_X6_next : zw_mV mm_X6_next 0 := ⟨mt_X6_next, zw_mem 398 (by decide +kernel) rfl, zw_mem 1 (by decide +kernel) rfl⟩
theorem mt_X6_readTerm : zw_mt mm_X6_readTerm 0 := ⟨zw_mem 403 (by decide +kernel) rfl, zw_mem 95 (by decide +kernel) rfl, by decide +kernel, by decide +kernel, by decide +kernel⟩
theorem mV_X6_readTerm : zw_mV mm_X6_readTerm 0 := ⟨mt_X6_readTerm, zw_mem 402 (by decide +kernel) rfl, zw_mem 2 (by decide +kernel) rfl⟩
theorem mt_X6_readNumber : zw_mt mm_X6_readNumber 0 := ⟨zw_mem 407 (by decide +kernel) rfl, zw_mem 95 (by decide +kernel) rfl, by decide +kernel, by decide +kernel, by decide +kernel⟩
theorem mV_X6_readNumber : zw_mV mm_X6_readNumber 0 := ⟨mt_X6_readNumber, zw_mem 406 (by decide +kernel) rfl, zw_mem 3 (by decide +kernel) rfl⟩
theorem mt_X6_readPower : zw_mt mm_X6_readPower 1 := ⟨zw_mem 411 (by decide +kernel) rfl, zw_mem 95 (by decide +kernel) rfl, by decide +kernel, by decide +kernel, by decide +kernel⟩
theorem mV_X6_readPower : zw_mV mm_X6_readPower 1 := ⟨mt_X6_readPower, zw_mem 410 (by decide +kernel) rfl, zw_mem 4 (by decide +kernel) rfl⟩
theorem mt_X7_init : zw_mt mm_X7_init 0 := ⟨zw_mem 286 (by decide +kernel) rfl, zw_mem 100 (by decide +kernel) rfl, by decide +kernel, by decide +kernel, by decide +kernel⟩
theorem mC_X7_init : zw_mC mm_X7_init 0 := ⟨mt_X7_init, zw_mem 285 (by decide +kernel) rfl, rfl, rfl⟩
theorem mt_X7_tryAll : zw_mt mm_X7_tryAll 4 := ⟨zw_mem 752 (by decide +kernel) rfl, zw_mem 100 (by decide +kernel) rfl, by decide +kernel, by decide +kernel, by decide +kernel⟩
theorem mV_X7_tryAll : zw_mV mm_X7_tryAll 4 := ⟨mt_X7_tryAll, zw_mem 750 (by decide +kernel) rfl, zw_mem 751 (by decide +kernel) rfl⟩
theorem mt_X7_note : zw_mt mm_X7_note 3 := ⟨zw_mem 756 (by decide +kernel) rfl, zw_mem 100 (by decide +kernel) rfl, by decide +kernel, by decide +kernel, by decide +kernel⟩
theorem mV_X7_note : zw_mV mm_X7_note 3 := ⟨mt_X7_note, zw_mem 755 (by decide +kernel) rfl, zw_mem 24 (by decide +kernel) rfl⟩
theorem mt_X7_valueOf : zw_mt mm_X7_valueOf 4 := ⟨zw_mem 558 (by decide +kernel) rfl, zw_mem 100 (by decide +kernel) rfl, by decide +kernel, by decide +kernel, by decide +kernel⟩
theorem mV_X7_valueOf : zw_mV mm_X7_valueOf 4 := ⟨mt_X7_valueOf, zw_mem 556 (by decide +kernel) rfl, zw_mem 557 (by decide +kernel) rfl⟩
theorem mt_X7_drawLots : zw_mt mm_X7_drawLots 5 := ⟨zw_mem 854 (by decide +kernel) rfl, zw_mem 100 (by decide +kernel) rfl, by decide +kernel, by decide +kernel, by decide +kernel⟩
theorem mV_X7_drawLots : zw_mV mm_X7_drawLots 5 := ⟨mt_X7_drawLots, zw_mem 852 (by decide +kernel) rfl, zw_mem 853 (by decide +kernel) rfl⟩
theorem mt_X7_draw : zw_mt mm_X7_draw 1 := ⟨zw_mem 858 (by decide +kernel) rfl, zw_mem 100 (by decide +kernel) rfl, by decide +kernel, by decide +kernel, by decide +kernel⟩
theorem mV_X7_draw : zw_mV mm_X7_draw 1 := ⟨mt_X7_draw, zw_mem 857 (by decide +kernel) rfl, zw_mem 31 (by decide +kernel) rfl⟩
theorem mt_X8_init : zw_mt mm_X8_init 0 := ⟨zw_mem 120 (by decide +kernel) rfl, zw_mem 93 (by decide +kernel) rfl, by decide +kernel, by decide +kernel, by decide +kernel⟩
theorem mC_X8_init : zw_mC mm_X8_init 0 := ⟨mt_X8_init, zw_mem 119 (by decide +kernel) rfl, rfl, rfl⟩
theorem mt_X8_has : zw_mt mm_X8_has 1 := ⟨zw_mem 483 (by decide +kernel) rfl, zw_mem 93 (by decide +kernel) rfl, by decide +kernel, by decide +kernel, by decide +kernel⟩
theorem mV_X8_has : zw_mV mm_X8_has 1 := ⟨mt_X8_has, zw_mem 481 (by decide +kernel) rfl, zw_mem 482 (by decide +kernel) rfl⟩
theorem mt_X8_isFull : zw_mt mm_X8_isFull 0 := ⟨zw_mem 388 (by decide +kernel) rfl, zw_mem 93 (by decide +kernel) rfl, by decide +kernel, by decide +kernel, by decide +kernel⟩
theorem mV_X8_isFull : zw_mV mm_X8_isFull 0 := ⟨mt_X8_isFull, zw_mem 386 (by decide +kernel) rfl, zw_mem 387 (by decide +kernel) rfl⟩
theorem mt_X8_addPlain : zw_mt mm_X8_addPlain 0 := ⟨zw_mem 423 (by decide +kernel) rfl, zw_mem 93 (by decide +kernel) rfl, by decide +kernel, by decide +kernel, by decide +kernel⟩
theorem mV_X8_addPlain : zw_mV mm_X8_addPlain 0 := ⟨mt_X8_addPlain, zw_mem 421 (by decide +kernel) rfl, zw_mem 422 (by decide +kernel) rfl⟩
theorem mt_X8_reduceBy : zw_mt mm_X8_reduceBy 1 := ⟨zw_mem 474 (by decide +kernel) rfl, zw_mem 93 (by decide +kernel) rfl, by decide +kernel, by decide +kernel, by decide +kernel⟩
theorem mV_X8_reduceBy : zw_mV mm_X8_reduceBy 1 := ⟨mt_X8_reduceBy, zw_mem 472 (by decide +kernel) rfl, zw_mem 473 (by decide +kernel) rfl⟩
theorem mt_X8_copyFrom : zw_mt mm_X8_copyFrom 1 := ⟨zw_mem 941 (by decide +kernel) rfl, zw_mem 93 (by decide +kernel) rfl, by decide +kernel, by decide +kernel, by decide +kernel⟩
theorem mV_X8_copyFrom : zw_mV mm_X8_copyFrom 1 := ⟨mt_X8_copyFrom, zw_mem 939 (by decide +kernel) rfl, zw_mem 940 (by decide +kernel) rfl⟩
theorem mt_X8_termsOfAll : zw_mt mm_X8_termsOfAll 0 := ⟨zw_mem 958 (by decide +kernel) rfl, zw_mem 93 (by decide +kernel) rfl, by decide +kernel, by decide +kernel, by decide +kernel⟩
theorem mV_X8_termsOfAll : zw_mV mm_X8_termsOfAll 0 := ⟨mt_X8_termsOfAll, zw_mem 956 (by decide +kernel) rfl, zw_mem 957 (by decide +kernel) rfl⟩
theorem mt_X8_noughtBits : zw_mt mm_X8_noughtBits 0 := ⟨zw_mem 963 (by decide +kernel) rfl, zw_mem 93 (by decide +kernel) rfl, by decide +kernel, by decide +kernel, by decide +kernel⟩
theorem mV_X8_noughtBits : zw_mV mm_X8_noughtBits 0 := ⟨mt_X8_noughtBits, zw_mem 961 (by decide +kernel) rfl, zw_mem 962 (by decide +kernel) rfl⟩
theorem mt_X9_init : zw_mt mm_X9_init 0 := ⟨zw_mem 216 (by decide +kernel) rfl, zw_mem 97 (by decide +kernel) rfl, by decide +kernel, by decide +kernel, by decide +kernel⟩
theorem mC_X9_init : zw_mC mm_X9_init 0 := ⟨mt_X9_init, zw_mem 215 (by decide +kernel) rfl, rfl, rfl⟩
theorem mt_X9_sizeOf : zw_mt mm_X9_sizeOf 4 := ⟨zw_mem 588 (by decide +kernel) rfl, zw_mem 97 (by decide +kernel) rfl, by decide +kernel, by decide +kernel, by decide +kernel⟩
theorem mS_X9_sizeOf : zw_mS mm_X9_sizeOf 4 := ⟨mt_X9_sizeOf, zw_mem 587 (by decide +kernel) rfl⟩
theorem mt_X9_baseOf : zw_mt mm_X9_baseOf 2 := ⟨zw_mem 612 (by decide +kernel) rfl, zw_mem 97 (by decide +kernel) rfl, by decide +kernel, by decide +kernel, by decide +kernel⟩
theorem mS_X9_baseOf : zw_mS mm_X9_baseOf 2 := ⟨mt_X9_baseOf, zw_mem 611 (by decide +kernel) rfl⟩
theorem mt_X9_clear : zw_mt mm_X9_clear 2 := ⟨zw_mem 603 (by decide +kernel) rfl, zw_mem 97 (by decide +kernel) rfl, by decide +kernel, by decide +kernel, by decide +kernel⟩
theorem mV_X9_clear : zw_mV mm_X9_clear 2 := ⟨mt_X9_clear, zw_mem 601 (by decide +kernel) rfl, zw_mem 602 (by decide +kernel) rfl⟩
theorem mt_X9_cellPower : zw_mt mm_X9_cellPower 3 := ⟨zw_mem 626 (by decide +kernel) rfl, zw_mem 97 (by decide +kernel) rfl, by decide +kernel, by decide +kernel, by decide +kernel⟩
theorem mV_X9_cellPower : zw_mV mm_X9_cellPower 3 := ⟨mt_X9_cellPower, zw_mem 624 (by decide +kernel) rfl, zw_mem 625 (by decide +kernel) rfl⟩
theorem mt_X9_setNumber : zw_mt mm_X9_setNumber 3 := ⟨zw_mem 723 (by decide +kernel) rfl, zw_mem 97 (by decide +kernel) rfl, by decide +kernel, by decide +kernel, by decide +kernel⟩
theorem mV_X9_setNumber : zw_mV mm_X9_setNumber 3 := ⟨mt_X9_setNumber, zw_mem 721 (by decide +kernel) rfl, zw_mem 722 (by decide +kernel) rfl⟩
theorem mt_X9_fill : zw_mt mm_X9_fill 5 := ⟨zw_mem 598 (by decide +kernel) rfl, zw_mem 97 (by decide +kernel) rfl, by decide +kernel, by decide +kernel, by decide +kernel⟩
theorem mV_X9_fill : zw_mV mm_X9_fill 5 := ⟨mt_X9_fill, zw_mem 596 (by decide +kernel) rfl, zw_mem 597 (by decide +kernel) rfl⟩
theorem mt_X9_reduceCell : zw_mt mm_X9_reduceCell 2 := ⟨zw_mem 621 (by decide +kernel) rfl, zw_mem 97 (by decide +kernel) rfl, by decide +kernel, by decide +kernel, by decide +kernel⟩
theorem mV_X9_reduceCell : zw_mV mm_X9_reduceCell 2 := ⟨mt_X9_reduceCell, zw_mem 620 (by decide +kernel) rfl, zw_mem 14 (by decide +kernel) rfl⟩
theorem mt_X9_fillSylvester : zw_mt mm_X9_fillSylvester 5 := ⟨zw_mem 609 (by decide +kernel) rfl, zw_mem 97 (by decide +kernel) rfl, by decide +kernel, by decide +kernel, by decide +kernel⟩
theorem mV_X9_fillSylvester : zw_mV mm_X9_fillSylvester 5 := ⟨mt_X9_fillSylvester, zw_mem 608 (by decide +kernel) rfl, zw_mem 12 (by decide +kernel) rfl⟩
theorem mt_X9_fillBezout : zw_mt mm_X9_fillBezout 5 := ⟨zw_mem 617 (by decide +kernel) rfl, zw_mem 97 (by decide +kernel) rfl, by decide +kernel, by decide +kernel, by decide +kernel⟩
theorem mV_X9_fillBezout : zw_mV mm_X9_fillBezout 5 := ⟨mt_X9_fillBezout, zw_mem 616 (by decide +kernel) rfl, zw_mem 13 (by decide +kernel) rfl⟩
theorem mt_X9_expand : zw_mt mm_X9_expand 1 := ⟨zw_mem 638 (by decide +kernel) rfl, zw_mem 97 (by decide +kernel) rfl, by decide +kernel, by decide +kernel, by decide +kernel⟩
theorem mV_X9_expand : zw_mV mm_X9_expand 1 := ⟨mt_X9_expand, zw_mem 636 (by decide +kernel) rfl, zw_mem 637 (by decide +kernel) rfl⟩
theorem mt_X9_expandSet : zw_mt mm_X9_expandSet 2 := ⟨zw_mem 642 (by decide +kernel) rfl, zw_mem 97 (by decide +kernel) rfl, by decide +kernel, by decide +kernel, by decide +kernel⟩
theorem mV_X9_expandSet : zw_mV mm_X9_expandSet 2 := ⟨mt_X9_expandSet, zw_mem 641 (by decide +kernel) rfl, zw_mem 16 (by decide +kernel) rfl⟩
theorem mt_X9_addMultiple : zw_mt mm_X9_addMultiple 4 := ⟨zw_mem 652 (by decide +kernel) rfl, zw_mem 97 (by decide +kernel) rfl, by decide +kernel, by decide +kernel, by decide +kernel⟩
theorem mV_X9_addMultiple : zw_mV mm_X9_addMultiple 4 := ⟨mt_X9_addMultiple, zw_mem 651 (by decide +kernel) rfl, zw_mem 17 (by decide +kernel) rfl⟩
theorem mt_X10_init : zw_mt mm_X10_init 0 := ⟨zw_mem 112 (by decide +kernel) rfl, zw_mem 92 (by decide +kernel) rfl, by decide +kernel, by decide +kernel, by decide +kernel⟩
theorem mC_X10_init : zw_mC mm_X10_init 0 := ⟨mt_X10_init, zw_mem 111 (by decide +kernel) rfl, rfl, rfl⟩
theorem mt_X10_letter : zw_mt mm_X10_letter 1 := ⟨zw_mem 368 (by decide +kernel) rfl, zw_mem 92 (by decide +kernel) rfl, by decide +kernel, by decide +kernel, by decide +kernel⟩
theorem mV_X10_letter : zw_mV mm_X10_letter 1 := ⟨mt_X10_letter, zw_mem 366 (by decide +kernel) rfl, zw_mem 367 (by decide +kernel) rfl⟩
theorem mt_X10_poly : zw_mt mm_X10_poly 0 := ⟨zw_mem 384 (by decide +kernel) rfl, zw_mem 92 (by decide +kernel) rfl, by decide +kernel, by decide +kernel, by decide +kernel⟩
theorem mV_X10_poly : zw_mV mm_X10_poly 0 := ⟨mt_X10_poly, zw_mem 382 (by decide +kernel) rfl, zw_mem 383 (by decide +kernel) rfl⟩
theorem mt_X10_drop : zw_mt mm_X10_drop 0 := ⟨zw_mem 461 (by decide +kernel) rfl, zw_mem 92 (by decide +kernel) rfl, by decide +kernel, by decide +kernel, by decide +kernel⟩
theorem mV_X10_drop : zw_mV mm_X10_drop 0 := ⟨mt_X10_drop, zw_mem 459 (by decide +kernel) rfl, zw_mem 460 (by decide +kernel) rfl⟩
theorem mt_X10_prime : zw_mt mm_X10_prime 1 := ⟨zw_mem 465 (by decide +kernel) rfl, zw_mem 92 (by decide +kernel) rfl, by decide +kernel, by decide +kernel, by decide +kernel⟩
theorem mV_X10_prime : zw_mV mm_X10_prime 1 := ⟨mt_X10_prime, zw_mem 463 (by decide +kernel) rfl, zw_mem 464 (by decide +kernel) rfl⟩
theorem mt_X10_turn : zw_mt mm_X10_turn 3 := ⟨zw_mem 479 (by decide +kernel) rfl, zw_mem 92 (by decide +kernel) rfl, by decide +kernel, by decide +kernel, by decide +kernel⟩
theorem mV_X10_turn : zw_mV mm_X10_turn 3 := ⟨mt_X10_turn, zw_mem 477 (by decide +kernel) rfl, zw_mem 478 (by decide +kernel) rfl⟩
theorem mt_X10_change : zw_mt mm_X10_change 4 := ⟨zw_mem 500 (by decide +kernel) rfl, zw_mem 92 (by decide +kernel) rfl, by decide +kernel, by decide +kernel, by decide +kernel⟩
theorem mV_X10_change : zw_mV mm_X10_change 4 := ⟨mt_X10_change, zw_mem 498 (by decide +kernel) rfl, zw_mem 499 (by decide +kernel) rfl⟩
theorem mt_X10_coefficient : zw_mt mm_X10_coefficient 3 := ⟨zw_mem 512 (by decide +kernel) rfl, zw_mem 92 (by decide +kernel) rfl, by decide +kernel, by decide +kernel, by decide +kernel⟩
theorem mV_X10_coefficient : zw_mV mm_X10_coefficient 3 := ⟨mt_X10_coefficient, zw_mem 510 (by decide +kernel) rfl, zw_mem 511 (by decide +kernel) rfl⟩
theorem mt_X10_of : zw_mt mm_X10_of 2 := ⟨zw_mem 516 (by decide +kernel) rfl, zw_mem 92 (by decide +kernel) rfl, by decide +kernel, by decide +kernel, by decide +kernel⟩
theorem mV_X10_of : zw_mV mm_X10_of 2 := ⟨mt_X10_of, zw_mem 514 (by decide +kernel) rfl, zw_mem 515 (by decide +kernel) rfl⟩
theorem mt_X10_term : zw_mt mm_X10_term 3 := ⟨zw_mem 539 (by decide +kernel) rfl, zw_mem 92 (by decide +kernel) rfl, by decide +kernel, by decide +kernel, by decide +kernel⟩
theorem mV_X10_term : zw_mV mm_X10_term 3 := ⟨mt_X10_term, zw_mem 537 (by decide +kernel) rfl, zw_mem 538 (by decide +kernel) rfl⟩
theorem mt_X10_value : zw_mt mm_X10_value 3 := ⟨zw_mem 554 (by decide +kernel) rfl, zw_mem 92 (by decide +kernel) rfl, by decide +kernel, by decide +kernel, by decide +kernel⟩
theorem mV_X10_value : zw_mV mm_X10_value 3 := ⟨mt_X10_value, zw_mem 552 (by decide +kernel) rfl, zw_mem 553 (by decide +kernel) rfl⟩
theorem mt_X10_rows : zw_mt mm_X10_rows 4 := ⟨zw_mem 573 (by decide +kernel) rfl, zw_mem 92 (by decide +kernel) rfl, by decide +kernel, by decide +kernel, by decide +kernel⟩
theorem mV_X10_rows : zw_mV mm_X10_rows 4 := ⟨mt_X10_rows, zw_mem 571 (by decide +kernel) rfl, zw_mem 572 (by decide +kernel) rfl⟩
theorem mt_X10_entry : zw_mt mm_X10_entry 7 := ⟨zw_mem 594 (by decide +kernel) rfl, zw_mem 92 (by decide +kernel) rfl, by decide +kernel, by decide +kernel, by decide +kernel⟩
theorem mV_X10_entry : zw_mV mm_X10_entry 7 := ⟨mt_X10_entry, zw_mem 592 (by decide +kernel) rfl, zw_mem 593 (by decide +kernel) rfl⟩
theorem mt_X10_result : zw_mt mm_X10_result 5 := ⟨zw_mem 630 (by decide +kernel) rfl, zw_mem 92 (by decide +kernel) rfl, by decide +kernel, by decide +kernel, by decide +kernel⟩
theorem mV_X10_result : zw_mV mm_X10_result 5 := ⟨mt_X10_result, zw_mem 628 (by decide +kernel) rfl, zw_mem 629 (by decide +kernel) rfl⟩
theorem mt_X10_degree : zw_mt mm_X10_degree 4 := ⟨zw_mem 656 (by decide +kernel) rfl, zw_mem 92 (by decide +kernel) rfl, by decide +kernel, by decide +kernel, by decide +kernel⟩
theorem mV_X10_degree : zw_mV mm_X10_degree 4 := ⟨mt_X10_degree, zw_mem 654 (by decide +kernel) rfl, zw_mem 655 (by decide +kernel) rfl⟩
theorem mt_X10_at : zw_mt mm_X10_at 5 := ⟨zw_mem 663 (by decide +kernel) rfl, zw_mem 92 (by decide +kernel) rfl, by decide +kernel, by decide +kernel, by decide +kernel⟩
theorem mV_X10_at : zw_mV mm_X10_at 5 := ⟨mt_X10_at, zw_mem 661 (by decide +kernel) rfl, zw_mem 662 (by decide +kernel) rfl⟩
theorem mt_X10_remainder : zw_mt mm_X10_remainder 5 := ⟨zw_mem 672 (by decide +kernel) rfl, zw_mem 92 (by decide +kernel) rfl, by decide +kernel, by decide +kernel, by decide +kernel⟩
theorem mV_X10_remainder : zw_mV mm_X10_remainder 5 := ⟨mt_X10_remainder, zw_mem 670 (by decide +kernel) rfl, zw_mem 671 (by decide +kernel) rfl⟩
theorem mt_X10_common : zw_mt mm_X10_common 4 := ⟨zw_mem 701 (by decide +kernel) rfl, zw_mem 92 (by decide +kernel) rfl, by decide +kernel, by decide +kernel, by decide +kernel⟩
theorem mV_X10_common : zw_mV mm_X10_common 4 := ⟨mt_X10_common, zw_mem 699 (by decide +kernel) rfl, zw_mem 700 (by decide +kernel) rfl⟩
theorem mt_X10_norm : zw_mt mm_X10_norm 4 := ⟨zw_mem 714 (by decide +kernel) rfl, zw_mem 92 (by decide +kernel) rfl, by decide +kernel, by decide +kernel, by decide +kernel⟩
theorem mV_X10_norm : zw_mV mm_X10_norm 4 := ⟨mt_X10_norm, zw_mem 712 (by decide +kernel) rfl, zw_mem 713 (by decide +kernel) rfl⟩
theorem mt_X10_extra : zw_mt mm_X10_extra 3 := ⟨zw_mem 731 (by decide +kernel) rfl, zw_mem 92 (by decide +kernel) rfl, by decide +kernel, by decide +kernel, by decide +kernel⟩
theorem mV_X10_extra : zw_mV mm_X10_extra 3 := ⟨mt_X10_extra, zw_mem 729 (by decide +kernel) rfl, zw_mem 730 (by decide +kernel) rfl⟩
theorem mt_X10_zeros : zw_mt mm_X10_zeros 3 := ⟨zw_mem 740 (by decide +kernel) rfl, zw_mem 92 (by decide +kernel) rfl, by decide +kernel, by decide +kernel, by decide +kernel⟩
theorem mV_X10_zeros : zw_mV mm_X10_zeros 3 := ⟨mt_X10_zeros, zw_mem 738 (by decide +kernel) rfl, zw_mem 739 (by decide +kernel) rfl⟩
theorem mt_X10_lifted : zw_mt mm_X10_lifted 3 := ⟨zw_mem 744 (by decide +kernel) rfl, zw_mem 92 (by decide +kernel) rfl, by decide +kernel, by decide +kernel, by decide +kernel⟩
theorem mV_X10_lifted : zw_mV mm_X10_lifted 3 := ⟨mt_X10_lifted, zw_mem 742 (by decide +kernel) rfl, zw_mem 743 (by decide +kernel) rfl⟩
theorem mt_X10_root : zw_mt mm_X10_root 3 := ⟨zw_mem 760 (by decide +kernel) rfl, zw_mem 92 (by decide +kernel) rfl, by decide +kernel, by decide +kernel, by decide +kernel⟩
theorem mV_X10_root : zw_mV mm_X10_root 3 := ⟨mt_X10_root, zw_mem 758 (by decide +kernel) rfl, zw_mem 759 (by decide +kernel) rfl⟩
theorem mt_X10_without : zw_mt mm_X10_without 2 := ⟨zw_mem 764 (by decide +kernel) rfl, zw_mem 92 (by decide +kernel) rfl, by decide +kernel, by decide +kernel, by decide +kernel⟩
theorem mV_X10_without : zw_mV mm_X10_without 2 := ⟨mt_X10_without, zw_mem 762 (by decide +kernel) rfl, zw_mem 763 (by decide +kernel) rfl⟩
theorem mt_X10_corner : zw_mt mm_X10_corner 2 := ⟨zw_mem 768 (by decide +kernel) rfl, zw_mem 92 (by decide +kernel) rfl, by decide +kernel, by decide +kernel, by decide +kernel⟩
theorem mV_X10_corner : zw_mV mm_X10_corner 2 := ⟨mt_X10_corner, zw_mem 766 (by decide +kernel) rfl, zw_mem 767 (by decide +kernel) rfl⟩
theorem mt_X10_area : zw_mt mm_X10_area 1 := ⟨zw_mem 801 (by decide +kernel) rfl, zw_mem 92 (by decide +kernel) rfl, by decide +kernel, by decide +kernel, by decide +kernel⟩
theorem mV_X10_area : zw_mV mm_X10_area 1 := ⟨mt_X10_area, zw_mem 799 (by decide +kernel) rfl, zw_mem 800 (by decide +kernel) rfl⟩
theorem mt_X10_sum : zw_mt mm_X10_sum 3 := ⟨zw_mem 809 (by decide +kernel) rfl, zw_mem 92 (by decide +kernel) rfl, by decide +kernel, by decide +kernel, by decide +kernel⟩
theorem mV_X10_sum : zw_mV mm_X10_sum 3 := ⟨mt_X10_sum, zw_mem 807 (by decide +kernel) rfl, zw_mem 808 (by decide +kernel) rfl⟩
theorem mt_X10_mixed : zw_mt mm_X10_mixed 2 := ⟨zw_mem 817 (by decide +kernel) rfl, zw_mem 92 (by decide +kernel) rfl, by decide +kernel, by decide +kernel, by decide +kernel⟩
theorem mV_X10_mixed : zw_mV mm_X10_mixed 2 := ⟨mt_X10_mixed, zw_mem 815 (by decide +kernel) rfl, zw_mem 816 (by decide +kernel) rfl⟩
theorem mt_X10_product : zw_mt mm_X10_product 2 := ⟨zw_mem 821 (by decide +kernel) rfl, zw_mem 92 (by decide +kernel) rfl, by decide +kernel, by decide +kernel, by decide +kernel⟩
theorem mV_X10_product : zw_mV mm_X10_product 2 := ⟨mt_X10_product, zw_mem 819 (by decide +kernel) rfl, zw_mem 820 (by decide +kernel) rfl⟩
theorem mt_X10_odds : zw_mt mm_X10_odds 2 := ⟨zw_mem 838 (by decide +kernel) rfl, zw_mem 92 (by decide +kernel) rfl, by decide +kernel, by decide +kernel, by decide +kernel⟩
theorem mV_X10_odds : zw_mV mm_X10_odds 2 := ⟨mt_X10_odds, zw_mem 836 (by decide +kernel) rfl, zw_mem 837 (by decide +kernel) rfl⟩
theorem mt_X10_lots : zw_mt mm_X10_lots 4 := ⟨zw_mem 850 (by decide +kernel) rfl, zw_mem 92 (by decide +kernel) rfl, by decide +kernel, by decide +kernel, by decide +kernel⟩
theorem mV_X10_lots : zw_mV mm_X10_lots 4 := ⟨mt_X10_lots, zw_mem 848 (by decide +kernel) rfl, zw_mem 849 (by decide +kernel) rfl⟩
theorem mt_X10_list : zw_mt mm_X10_list 2 := ⟨zw_mem 866 (by decide +kernel) rfl, zw_mem 92 (by decide +kernel) rfl, by decide +kernel, by decide +kernel, by decide +kernel⟩
theorem mV_X10_list : zw_mV mm_X10_list 2 := ⟨mt_X10_list, zw_mem 864 (by decide +kernel) rfl, zw_mem 865 (by decide +kernel) rfl⟩
theorem mt_X10_put : zw_mt mm_X10_put 3 := ⟨zw_mem 882 (by decide +kernel) rfl, zw_mem 92 (by decide +kernel) rfl, by decide +kernel, by decide +kernel, by decide +kernel⟩
theorem mV_X10_put : zw_mV mm_X10_put 3 := ⟨mt_X10_put, zw_mem 880 (by decide +kernel) rfl, zw_mem 881 (by decide +kernel) rfl⟩
theorem mt_X10_look : zw_mt mm_X10_look 2 := ⟨zw_mem 899 (by decide +kernel) rfl, zw_mem 92 (by decide +kernel) rfl, by decide +kernel, by decide +kernel, by decide +kernel⟩
theorem mV_X10_look : zw_mV mm_X10_look 2 := ⟨mt_X10_look, zw_mem 897 (by decide +kernel) rfl, zw_mem 898 (by decide +kernel) rfl⟩
theorem mt_X10_lays : zw_mt mm_X10_lays 6 := ⟨zw_mem 907 (by decide +kernel) rfl, zw_mem 92 (by decide +kernel) rfl, by decide +kernel, by decide +kernel, by decide +kernel⟩
theorem mV_X10_lays : zw_mV mm_X10_lays 6 := ⟨mt_X10_lays, zw_mem 905 (by decide +kernel) rfl, zw_mem 906 (by decide +kernel) rfl⟩
theorem mt_X10_judge : zw_mt mm_X10_judge 5 := ⟨zw_mem 916 (by decide +kernel) rfl, zw_mem 92 (by decide +kernel) rfl, by decide +kernel, by decide +kernel, by decide +kernel⟩
theorem mV_X10_judge : zw_mV mm_X10_judge 5 := ⟨mt_X10_judge, zw_mem 914 (by decide +kernel) rfl, zw_mem 915 (by decide +kernel) rfl⟩
theorem mt_X10_undo : zw_mt mm_X10_undo 0 := ⟨zw_mem 926 (by decide +kernel) rfl, zw_mem 92 (by decide +kernel) rfl, by decide +kernel, by decide +kernel, by decide +kernel⟩
theorem mV_X10_undo : zw_mV mm_X10_undo 0 := ⟨mt_X10_undo, zw_mem 924 (by decide +kernel) rfl, zw_mem 925 (by decide +kernel) rfl⟩
theorem mt_X10_image : zw_mt mm_X10_image 0 := ⟨zw_mem 937 (by decide +kernel) rfl, zw_mem 92 (by decide +kernel) rfl, by decide +kernel, by decide +kernel, by decide +kernel⟩
theorem mV_X10_image : zw_mV mm_X10_image 0 := ⟨mt_X10_image, zw_mem 935 (by decide +kernel) rfl, zw_mem 936 (by decide +kernel) rfl⟩
theorem mt_X10_on : zw_mt mm_X10_on 0 := ⟨zw_mem 950 (by decide +kernel) rfl, zw_mem 92 (by decide +kernel) rfl, by decide +kernel, by decide +kernel, by decide +kernel⟩
theorem mV_X10_on : zw_mV mm_X10_on 0 := ⟨mt_X10_on, zw_mem 948 (by decide +kernel) rfl, zw_mem 949 (by decide +kernel) rfl⟩
theorem mt_X10_count : zw_mt mm_X10_count 1 := ⟨zw_mem 954 (by decide +kernel) rfl, zw_mem 92 (by decide +kernel) rfl, by decide +kernel, by decide +kernel, by decide +kernel⟩
theorem mV_X10_count : zw_mV mm_X10_count 1 := ⟨mt_X10_count, zw_mem 952 (by decide +kernel) rfl, zw_mem 953 (by decide +kernel) rfl⟩
theorem mt_X10_refuse : zw_mt mm_X10_refuse 1 := ⟨zw_mem 372 (by decide +kernel) rfl, zw_mem 92 (by decide +kernel) rfl, by decide +kernel, by decide +kernel, by decide +kernel⟩
theorem mV_X10_refuse : zw_mV mm_X10_refuse 1 := ⟨mt_X10_refuse, zw_mem 371 (by decide +kernel) rfl, zw_mem 0 (by decide +kernel) rfl⟩
theorem mt_X10_refuseLong : zw_mt mm_X10_refuseLong 1 := ⟨zw_mem 842 (by decide +kernel) rfl, zw_mem 92 (by decide +kernel) rfl, by decide +kernel, by decide +kernel, by decide +kernel⟩
theorem mV_X10_refuseLong : zw_mV mm_X10_refuseLong 1 := ⟨mt_X10_refuseLong, zw_mem 841 (by decide +kernel) rfl, zw_mem 30 (by decide +kernel) rfl⟩
theorem mt_X10_isLetter : zw_mt mm_X10_isLetter 1 := ⟨zw_mem 580 (by decide +kernel) rfl, zw_mem 92 (by decide +kernel) rfl, by decide +kernel, by decide +kernel, by decide +kernel⟩
theorem mS_X10_isLetter : zw_mS mm_X10_isLetter 1 := ⟨mt_X10_isLetter, zw_mem 579 (by decide +kernel) rfl⟩
theorem mt_X10_powersRefusal : zw_mt mm_X10_powersRefusal 3 := ⟨zw_mem 504 (by decide +kernel) rfl, zw_mem 92 (by decide +kernel) rfl, by decide +kernel, by decide +kernel, by decide +kernel⟩
theorem mV_X10_powersRefusal : zw_mV mm_X10_powersRefusal 3 := ⟨mt_X10_powersRefusal, zw_mem 503 (by decide +kernel) rfl, zw_mem 10 (by decide +kernel) rfl⟩
theorem mt_X10_tableRefusal : zw_mt mm_X10_tableRefusal 4 := ⟨zw_mem 577 (by decide +kernel) rfl, zw_mem 92 (by decide +kernel) rfl, by decide +kernel, by decide +kernel, by decide +kernel⟩
theorem mV_X10_tableRefusal : zw_mV mm_X10_tableRefusal 4 := ⟨mt_X10_tableRefusal, zw_mem 576 (by decide +kernel) rfl, zw_mem 11 (by decide +kernel) rfl⟩
theorem mt_X10_numberRefusal : zw_mt mm_X10_numberRefusal 1 := ⟨zw_mem 667 (by decide +kernel) rfl, zw_mem 92 (by decide +kernel) rfl, by decide +kernel, by decide +kernel, by decide +kernel⟩
theorem mV_X10_numberRefusal : zw_mV mm_X10_numberRefusal 1 := ⟨mt_X10_numberRefusal, zw_mem 666 (by decide +kernel) rfl, zw_mem 18 (by decide +kernel) rfl⟩
theorem mt_X10_atRefusal : zw_mt mm_X10_atRefusal 4 := ⟨zw_mem 705 (by decide +kernel) rfl, zw_mem 92 (by decide +kernel) rfl, by decide +kernel, by decide +kernel, by decide +kernel⟩
theorem mV_X10_atRefusal : zw_mV mm_X10_atRefusal 4 := ⟨mt_X10_atRefusal, zw_mem 704 (by decide +kernel) rfl, zw_mem 21 (by decide +kernel) rfl⟩
theorem mt_X10_polygonRefusal : zw_mt mm_X10_polygonRefusal 2 := ⟨zw_mem 772 (by decide +kernel) rfl, zw_mem 92 (by decide +kernel) rfl, by decide +kernel, by decide +kernel, by decide +kernel⟩
theorem mV_X10_polygonRefusal : zw_mV mm_X10_polygonRefusal 2 := ⟨mt_X10_polygonRefusal, zw_mem 771 (by decide +kernel) rfl, zw_mem 25 (by decide +kernel) rfl⟩
theorem mt_X10_placeRefusal : zw_mt mm_X10_placeRefusal 2 := ⟨zw_mem 886 (by decide +kernel) rfl, zw_mem 92 (by decide +kernel) rfl, by decide +kernel, by decide +kernel, by decide +kernel⟩
theorem mV_X10_placeRefusal : zw_mV mm_X10_placeRefusal 2 := ⟨mt_X10_placeRefusal, zw_mem 885 (by decide +kernel) rfl, zw_mem 32 (by decide +kernel) rfl⟩
theorem mt_X10_solve : zw_mt mm_X10_solve 4 := ⟨zw_mem 634 (by decide +kernel) rfl, zw_mem 92 (by decide +kernel) rfl, by decide +kernel, by decide +kernel, by decide +kernel⟩
theorem mV_X10_solve : zw_mV mm_X10_solve 4 := ⟨mt_X10_solve, zw_mem 633 (by decide +kernel) rfl, zw_mem 15 (by decide +kernel) rfl⟩
theorem mt_X10_divideAt : zw_mt mm_X10_divideAt 4 := ⟨zw_mem 676 (by decide +kernel) rfl, zw_mem 92 (by decide +kernel) rfl, by decide +kernel, by decide +kernel, by decide +kernel⟩
theorem mV_X10_divideAt : zw_mV mm_X10_divideAt 4 := ⟨mt_X10_divideAt, zw_mem 675 (by decide +kernel) rfl, zw_mem 19 (by decide +kernel) rfl⟩
theorem mt_X10_tryAll : zw_mt mm_X10_tryAll 3 := ⟨zw_mem 748 (by decide +kernel) rfl, zw_mem 92 (by decide +kernel) rfl, by decide +kernel, by decide +kernel, by decide +kernel⟩
theorem mV_X10_tryAll : zw_mV mm_X10_tryAll 3 := ⟨mt_X10_tryAll, zw_mem 747 (by decide +kernel) rfl, zw_mem 23 (by decide +kernel) rfl⟩
theorem mt_X11_no : zw_mt mm_X11_no 1 := ⟨zw_mem 1088 (by decide +kernel) rfl, zw_mem 102 (by decide +kernel) rfl, by decide +kernel, by decide +kernel, by decide +kernel⟩
theorem mV_X11_no : zw_mV mm_X11_no 1 := ⟨mt_X11_no, zw_mem 1087 (by decide +kernel) rfl, zw_mem 33 (by decide +kernel) rfl⟩
theorem mt_X11_lowest : zw_mt mm_X11_lowest 1 := ⟨zw_mem 1430 (by decide +kernel) rfl, zw_mem 102 (by decide +kernel) rfl, by decide +kernel, by decide +kernel, by decide +kernel⟩
theorem mV_X11_lowest : zw_mV mm_X11_lowest 1 := ⟨mt_X11_lowest, zw_mem 1429 (by decide +kernel) rfl, zw_mem 85 (by decide +kernel) rfl⟩
theorem mt_X11_isIn : zw_mt mm_X11_isIn 3 := ⟨zw_mem 1115 (by decide +kernel) rfl, zw_mem 102 (by decide +kernel) rfl, by decide +kernel, by decide +kernel, by decide +kernel⟩
theorem mS_X11_isIn : zw_mS mm_X11_isIn 3 := ⟨mt_X11_isIn, zw_mem 1114 (by decide +kernel) rfl⟩
theorem mt_X11_rest : zw_mt mm_X11_rest 1 := ⟨zw_mem 1123 (by decide +kernel) rfl, zw_mem 102 (by decide +kernel) rfl, by decide +kernel, by decide +kernel, by decide +kernel⟩
theorem mV_X11_rest : zw_mV mm_X11_rest 1 := ⟨mt_X11_rest, zw_mem 1122 (by decide +kernel) rfl, zw_mem 39 (by decide +kernel) rfl⟩
theorem mt_X11_power : zw_mt mm_X11_power 2 := ⟨zw_mem 1182 (by decide +kernel) rfl, zw_mem 102 (by decide +kernel) rfl, by decide +kernel, by decide +kernel, by decide +kernel⟩
theorem mV_X11_power : zw_mV mm_X11_power 2 := ⟨mt_X11_power, zw_mem 1181 (by decide +kernel) rfl, zw_mem 48 (by decide +kernel) rfl⟩
theorem mt_X11_inverse : zw_mt mm_X11_inverse 1 := ⟨zw_mem 1324 (by decide +kernel) rfl, zw_mem 102 (by decide +kernel) rfl, by decide +kernel, by decide +kernel, by decide +kernel⟩
theorem mV_X11_inverse : zw_mV mm_X11_inverse 1 := ⟨mt_X11_inverse, zw_mem 1323 (by decide +kernel) rfl, zw_mem 73 (by decide +kernel) rfl⟩
theorem mt_X11_isPrime : zw_mt mm_X11_isPrime 1 := ⟨zw_mem 1138 (by decide +kernel) rfl, zw_mem 102 (by decide +kernel) rfl, by decide +kernel, by decide +kernel, by decide +kernel⟩
theorem mS_X11_isPrime : zw_mS mm_X11_isPrime 1 := ⟨mt_X11_isPrime, zw_mem 1137 (by decide +kernel) rfl⟩
theorem mt_X11_init : zw_mt mm_X11_init 0 := ⟨zw_mem 969 (by decide +kernel) rfl, zw_mem 102 (by decide +kernel) rfl, by decide +kernel, by decide +kernel, by decide +kernel⟩
theorem mC_X11_init : zw_mC mm_X11_init 0 := ⟨mt_X11_init, zw_mem 968 (by decide +kernel) rfl, rfl, rfl⟩
theorem mt_X11_isPoly : zw_mt mm_X11_isPoly 1 := ⟨zw_mem 1146 (by decide +kernel) rfl, zw_mem 102 (by decide +kernel) rfl, by decide +kernel, by decide +kernel, by decide +kernel⟩
theorem mV_X11_isPoly : zw_mV mm_X11_isPoly 1 := ⟨mt_X11_isPoly, zw_mem 1145 (by decide +kernel) rfl, zw_mem 41 (by decide +kernel) rfl⟩
theorem mt_X11_toldOf : zw_mt mm_X11_toldOf 3 := ⟨zw_mem 1174 (by decide +kernel) rfl, zw_mem 102 (by decide +kernel) rfl, by decide +kernel, by decide +kernel, by decide +kernel⟩
theorem mV_X11_toldOf : zw_mV mm_X11_toldOf 3 := ⟨mt_X11_toldOf, zw_mem 1173 (by decide +kernel) rfl, zw_mem 46 (by decide +kernel) rfl⟩
theorem mt_X11_evenOf : zw_mt mm_X11_evenOf 3 := ⟨zw_mem 1170 (by decide +kernel) rfl, zw_mem 102 (by decide +kernel) rfl, by decide +kernel, by decide +kernel, by decide +kernel⟩
theorem mV_X11_evenOf : zw_mV mm_X11_evenOf 3 := ⟨mt_X11_evenOf, zw_mem 1169 (by decide +kernel) rfl, zw_mem 45 (by decide +kernel) rfl⟩
theorem mt_X11_shiftedOf : zw_mt mm_X11_shiftedOf 3 := ⟨zw_mem 1178 (by decide +kernel) rfl, zw_mem 102 (by decide +kernel) rfl, by decide +kernel, by decide +kernel, by decide +kernel⟩
theorem mV_X11_shiftedOf : zw_mV mm_X11_shiftedOf 3 := ⟨mt_X11_shiftedOf, zw_mem 1177 (by decide +kernel) rfl, zw_mem 47 (by decide +kernel) rfl⟩
theorem mt_X11_coefficientOf : zw_mt mm_X11_coefficientOf 3 := ⟨zw_mem 1166 (by decide +kernel) rfl, zw_mem 102 (by decide +kernel) rfl, by decide +kernel, by decide +kernel, by decide +kernel⟩
theorem mV_X11_coefficientOf : zw_mV mm_X11_coefficientOf 3 := ⟨mt_X11_coefficientOf, zw_mem 1165 (by decide +kernel) rfl, zw_mem 44 (by decide +kernel) rfl⟩
theorem mt_X11_isTerm : zw_mt mm_X11_isTerm 3 := ⟨zw_mem 1194 (by decide +kernel) rfl, zw_mem 102 (by decide +kernel) rfl, by decide +kernel, by decide +kernel, by decide +kernel⟩
theorem mV_X11_isTerm : zw_mV mm_X11_isTerm 3 := ⟨mt_X11_isTerm, zw_mem 1193 (by decide +kernel) rfl, zw_mem 50 (by decide +kernel) rfl⟩
theorem mt_X11_degreeOf : zw_mt mm_X11_degreeOf 2 := ⟨zw_mem 1190 (by decide +kernel) rfl, zw_mem 102 (by decide +kernel) rfl, by decide +kernel, by decide +kernel, by decide +kernel⟩
theorem mV_X11_degreeOf : zw_mV mm_X11_degreeOf 2 := ⟨mt_X11_degreeOf, zw_mem 1189 (by decide +kernel) rfl, zw_mem 49 (by decide +kernel) rfl⟩
theorem mt_X11_isNought : zw_mt mm_X11_isNought 1 := ⟨zw_mem 1226 (by decide +kernel) rfl, zw_mem 102 (by decide +kernel) rfl, by decide +kernel, by decide +kernel, by decide +kernel⟩
theorem mV_X11_isNought : zw_mV mm_X11_isNought 1 := ⟨mt_X11_isNought, zw_mem 1225 (by decide +kernel) rfl, zw_mem 55 (by decide +kernel) rfl⟩
theorem mt_X11_termsOf : zw_mt mm_X11_termsOf 1 := ⟨zw_mem 1198 (by decide +kernel) rfl, zw_mem 102 (by decide +kernel) rfl, by decide +kernel, by decide +kernel, by decide +kernel⟩
theorem mV_X11_termsOf : zw_mV mm_X11_termsOf 1 := ⟨mt_X11_termsOf, zw_mem 1197 (by decide +kernel) rfl, zw_mem 51 (by decide +kernel) rfl⟩
theorem mt_X11_valueAt : zw_mt mm_X11_valueAt 3 := ⟨zw_mem 1210 (by decide +kernel) rfl, zw_mem 102 (by decide +kernel) rfl, by decide +kernel, by decide +kernel, by decide +kernel⟩
theorem mV_X11_valueAt : zw_mV mm_X11_valueAt 3 := ⟨mt_X11_valueAt, zw_mem 1209 (by decide +kernel) rfl, zw_mem 52 (by decide +kernel) rfl⟩
theorem mt_X11_notes : zw_mt mm_X11_notes 2 := ⟨zw_mem 1150 (by decide +kernel) rfl, zw_mem 102 (by decide +kernel) rfl, by decide +kernel, by decide +kernel, by decide +kernel⟩
theorem mV_X11_notes : zw_mV mm_X11_notes 2 := ⟨mt_X11_notes, zw_mem 1149 (by decide +kernel) rfl, zw_mem 42 (by decide +kernel) rfl⟩
theorem mt_X11_undo : zw_mt mm_X11_undo 0 := ⟨zw_mem 1084 (by decide +kernel) rfl, zw_mem 102 (by decide +kernel) rfl, by decide +kernel, by decide +kernel, by decide +kernel⟩
theorem mV_X11_undo : zw_mV mm_X11_undo 0 := ⟨mt_X11_undo, zw_mem 1082 (by decide +kernel) rfl, zw_mem 1083 (by decide +kernel) rfl⟩
theorem mt_X11_letter : zw_mt mm_X11_letter 1 := ⟨zw_mem 1092 (by decide +kernel) rfl, zw_mem 102 (by decide +kernel) rfl, by decide +kernel, by decide +kernel, by decide +kernel⟩
theorem mV_X11_letter : zw_mV mm_X11_letter 1 := ⟨mt_X11_letter, zw_mem 1090 (by decide +kernel) rfl, zw_mem 1091 (by decide +kernel) rfl⟩
theorem mt_X11_next : zw_mt mm_X11_next 0 := ⟨zw_mem 1104 (by decide +kernel) rfl, zw_mem 102 (by decide +kernel) rfl, by decide +kernel, by decide +kernel, by decide +kernel⟩
theorem mV_X11_next : zw_mV mm_X11_next 0 := ⟨mt_X11_next, zw_mem 1103 (by decide +kernel) rfl, zw_mem 35 (by decide +kernel) rfl⟩
theorem mt_X11_isDigit : zw_mt mm_X11_isDigit 0 := ⟨zw_mem 1112 (by decide +kernel) rfl, zw_mem 102 (by decide +kernel) rfl, by decide +kernel, by decide +kernel, by decide +kernel⟩
theorem mV_X11_isDigit : zw_mV mm_X11_isDigit 0 := ⟨mt_X11_isDigit, zw_mem 1111 (by decide +kernel) rfl, zw_mem 37 (by decide +kernel) rfl⟩
theorem mt_X11_readsPower : zw_mt mm_X11_readsPower 0 := ⟨zw_mem 1119 (by decide +kernel) rfl, zw_mem 102 (by decide +kernel) rfl, by decide +kernel, by decide +kernel, by decide +kernel⟩
theorem mV_X11_readsPower : zw_mV mm_X11_readsPower 0 := ⟨mt_X11_readsPower, zw_mem 1118 (by decide +kernel) rfl, zw_mem 38 (by decide +kernel) rfl⟩
theorem mt_X11_readsTerm : zw_mt mm_X11_readsTerm 1 := ⟨zw_mem 1108 (by decide +kernel) rfl, zw_mem 102 (by decide +kernel) rfl, by decide +kernel, by decide +kernel, by decide +kernel⟩
theorem mV_X11_readsTerm : zw_mV mm_X11_readsTerm 1 := ⟨mt_X11_readsTerm, zw_mem 1107 (by decide +kernel) rfl, zw_mem 36 (by decide +kernel) rfl⟩
theorem mt_X11_readsAll : zw_mt mm_X11_readsAll 0 := ⟨zw_mem 1100 (by decide +kernel) rfl, zw_mem 102 (by decide +kernel) rfl, by decide +kernel, by decide +kernel, by decide +kernel⟩
theorem mV_X11_readsAll : zw_mV mm_X11_readsAll 0 := ⟨mt_X11_readsAll, zw_mem 1099 (by decide +kernel) rfl, zw_mem 34 (by decide +kernel) rfl⟩
theorem mt_X11_comes : zw_mt mm_X11_comes 0 := ⟨zw_mem 1127 (by decide +kernel) rfl, zw_mem 102 (by decide +kernel) rfl, by decide +kernel, by decide +kernel, by decide +kernel⟩
theorem mV_X11_comes : zw_mV mm_X11_comes 0 := ⟨mt_X11_comes, zw_mem 1126 (by decide +kernel) rfl, zw_mem 40 (by decide +kernel) rfl⟩
theorem mt_X11_poly : zw_mt mm_X11_poly 0 := ⟨zw_mem 1096 (by decide +kernel) rfl, zw_mem 102 (by decide +kernel) rfl, by decide +kernel, by decide +kernel, by decide +kernel⟩
theorem mV_X11_poly : zw_mV mm_X11_poly 0 := ⟨mt_X11_poly, zw_mem 1094 (by decide +kernel) rfl, zw_mem 1095 (by decide +kernel) rfl⟩
theorem mt_X11_drop : zw_mt mm_X11_drop 0 := ⟨zw_mem 1131 (by decide +kernel) rfl, zw_mem 102 (by decide +kernel) rfl, by decide +kernel, by decide +kernel, by decide +kernel⟩
theorem mV_X11_drop : zw_mV mm_X11_drop 0 := ⟨mt_X11_drop, zw_mem 1129 (by decide +kernel) rfl, zw_mem 1130 (by decide +kernel) rfl⟩
theorem mt_X11_prime : zw_mt mm_X11_prime 1 := ⟨zw_mem 1135 (by decide +kernel) rfl, zw_mem 102 (by decide +kernel) rfl, by decide +kernel, by decide +kernel, by decide +kernel⟩
theorem mV_X11_prime : zw_mV mm_X11_prime 1 := ⟨mt_X11_prime, zw_mem 1133 (by decide +kernel) rfl, zw_mem 1134 (by decide +kernel) rfl⟩
theorem mt_X11_turn : zw_mt mm_X11_turn 3 := ⟨zw_mem 1142 (by decide +kernel) rfl, zw_mem 102 (by decide +kernel) rfl, by decide +kernel, by decide +kernel, by decide +kernel⟩
theorem mV_X11_turn : zw_mV mm_X11_turn 3 := ⟨mt_X11_turn, zw_mem 1140 (by decide +kernel) rfl, zw_mem 1141 (by decide +kernel) rfl⟩
theorem mt_X11_notPowers : zw_mt mm_X11_notPowers 3 := ⟨zw_mem 1158 (by decide +kernel) rfl, zw_mem 102 (by decide +kernel) rfl, by decide +kernel, by decide +kernel, by decide +kernel⟩
theorem mV_X11_notPowers : zw_mV mm_X11_notPowers 3 := ⟨mt_X11_notPowers, zw_mem 1157 (by decide +kernel) rfl, zw_mem 43 (by decide +kernel) rfl⟩
theorem mt_X11_change : zw_mt mm_X11_change 4 := ⟨zw_mem 1154 (by decide +kernel) rfl, zw_mem 102 (by decide +kernel) rfl, by decide +kernel, by decide +kernel, by decide +kernel⟩
theorem mV_X11_change : zw_mV mm_X11_change 4 := ⟨mt_X11_change, zw_mem 1152 (by decide +kernel) rfl, zw_mem 1153 (by decide +kernel) rfl⟩
theorem mt_X11_coefficient : zw_mt mm_X11_coefficient 3 := ⟨zw_mem 1162 (by decide +kernel) rfl, zw_mem 102 (by decide +kernel) rfl, by decide +kernel, by decide +kernel, by decide +kernel⟩
theorem mV_X11_coefficient : zw_mV mm_X11_coefficient 3 := ⟨mt_X11_coefficient, zw_mem 1160 (by decide +kernel) rfl, zw_mem 1161 (by decide +kernel) rfl⟩
theorem mt_X11_of : zw_mt mm_X11_of 2 := ⟨zw_mem 1186 (by decide +kernel) rfl, zw_mem 102 (by decide +kernel) rfl, by decide +kernel, by decide +kernel, by decide +kernel⟩
theorem mV_X11_of : zw_mV mm_X11_of 2 := ⟨mt_X11_of, zw_mem 1184 (by decide +kernel) rfl, zw_mem 1185 (by decide +kernel) rfl⟩
theorem mt_X11_term : zw_mt mm_X11_term 3 := ⟨zw_mem 1202 (by decide +kernel) rfl, zw_mem 102 (by decide +kernel) rfl, by decide +kernel, by decide +kernel, by decide +kernel⟩
theorem mV_X11_term : zw_mV mm_X11_term 3 := ⟨mt_X11_term, zw_mem 1200 (by decide +kernel) rfl, zw_mem 1201 (by decide +kernel) rfl⟩
theorem mt_X11_value : zw_mt mm_X11_value 3 := ⟨zw_mem 1206 (by decide +kernel) rfl, zw_mem 102 (by decide +kernel) rfl, by decide +kernel, by decide +kernel, by decide +kernel⟩
theorem mV_X11_value : zw_mV mm_X11_value 3 := ⟨mt_X11_value, zw_mem 1204 (by decide +kernel) rfl, zw_mem 1205 (by decide +kernel) rfl⟩
theorem mt_X11_notTwo : zw_mt mm_X11_notTwo 3 := ⟨zw_mem 1222 (by decide +kernel) rfl, zw_mem 102 (by decide +kernel) rfl, by decide +kernel, by decide +kernel, by decide +kernel⟩
theorem mV_X11_notTwo : zw_mV mm_X11_notTwo 3 := ⟨mt_X11_notTwo, zw_mem 1221 (by decide +kernel) rfl, zw_mem 54 (by decide +kernel) rfl⟩
theorem mt_X11_notTable : zw_mt mm_X11_notTable 4 := ⟨zw_mem 1218 (by decide +kernel) rfl, zw_mem 102 (by decide +kernel) rfl, by decide +kernel, by decide +kernel, by decide +kernel⟩
theorem mV_X11_notTable : zw_mV mm_X11_notTable 4 := ⟨mt_X11_notTable, zw_mem 1217 (by decide +kernel) rfl, zw_mem 53 (by decide +kernel) rfl⟩
theorem mt_X11_notBoth : zw_mt mm_X11_notBoth 3 := ⟨zw_mem 1301 (by decide +kernel) rfl, zw_mem 102 (by decide +kernel) rfl, by decide +kernel, by decide +kernel, by decide +kernel⟩
theorem mV_X11_notBoth : zw_mV mm_X11_notBoth 3 := ⟨mt_X11_notBoth, zw_mem 1300 (by decide +kernel) rfl, zw_mem 68 (by decide +kernel) rfl⟩
theorem mt_X11_takes : zw_mt mm_X11_takes 3 := ⟨zw_mem 1234 (by decide +kernel) rfl, zw_mem 102 (by decide +kernel) rfl, by decide +kernel, by decide +kernel, by decide +kernel⟩
theorem mV_X11_takes : zw_mV mm_X11_takes 3 := ⟨mt_X11_takes, zw_mem 1233 (by decide +kernel) rfl, zw_mem 57 (by decide +kernel) rfl⟩
theorem mt_X11_oneAt : zw_mt mm_X11_oneAt 2 := ⟨zw_mem 1242 (by decide +kernel) rfl, zw_mem 102 (by decide +kernel) rfl, by decide +kernel, by decide +kernel, by decide +kernel⟩
theorem mV_X11_oneAt : zw_mV mm_X11_oneAt 2 := ⟨mt_X11_oneAt, zw_mem 1241 (by decide +kernel) rfl, zw_mem 59 (by decide +kernel) rfl⟩
theorem mt_X11_twoAt : zw_mt mm_X11_twoAt 2 := ⟨zw_mem 1246 (by decide +kernel) rfl, zw_mem 102 (by decide +kernel) rfl, by decide +kernel, by decide +kernel, by decide +kernel⟩
theorem mV_X11_twoAt : zw_mV mm_X11_twoAt 2 := ⟨mt_X11_twoAt, zw_mem 1245 (by decide +kernel) rfl, zw_mem 60 (by decide +kernel) rfl⟩
theorem mt_X11_fillsSylvester : zw_mt mm_X11_fillsSylvester 0 := ⟨zw_mem 1238 (by decide +kernel) rfl, zw_mem 102 (by decide +kernel) rfl, by decide +kernel, by decide +kernel, by decide +kernel⟩
theorem mV_X11_fillsSylvester : zw_mV mm_X11_fillsSylvester 0 := ⟨mt_X11_fillsSylvester, zw_mem 1237 (by decide +kernel) rfl, zw_mem 58 (by decide +kernel) rfl⟩
theorem mt_X11_productAt : zw_mt mm_X11_productAt 3 := ⟨zw_mem 1258 (by decide +kernel) rfl, zw_mem 102 (by decide +kernel) rfl, by decide +kernel, by decide +kernel, by decide +kernel⟩
theorem mV_X11_productAt : zw_mV mm_X11_productAt 3 := ⟨mt_X11_productAt, zw_mem 1257 (by decide +kernel) rfl, zw_mem 63 (by decide +kernel) rfl⟩
theorem mt_X11_bezoutAt : zw_mt mm_X11_bezoutAt 3 := ⟨zw_mem 1254 (by decide +kernel) rfl, zw_mem 102 (by decide +kernel) rfl, by decide +kernel, by decide +kernel, by decide +kernel⟩
theorem mV_X11_bezoutAt : zw_mV mm_X11_bezoutAt 3 := ⟨mt_X11_bezoutAt, zw_mem 1253 (by decide +kernel) rfl, zw_mem 62 (by decide +kernel) rfl⟩
theorem mt_X11_fillsBezout : zw_mt mm_X11_fillsBezout 0 := ⟨zw_mem 1250 (by decide +kernel) rfl, zw_mem 102 (by decide +kernel) rfl, by decide +kernel, by decide +kernel, by decide +kernel⟩
theorem mV_X11_fillsBezout : zw_mV mm_X11_fillsBezout 0 := ⟨mt_X11_fillsBezout, zw_mem 1249 (by decide +kernel) rfl, zw_mem 61 (by decide +kernel) rfl⟩
theorem mt_X11_fills : zw_mt mm_X11_fills 4 := ⟨zw_mem 1230 (by decide +kernel) rfl, zw_mem 102 (by decide +kernel) rfl, by decide +kernel, by decide +kernel, by decide +kernel⟩
theorem mV_X11_fills : zw_mV mm_X11_fills 4 := ⟨mt_X11_fills, zw_mem 1229 (by decide +kernel) rfl, zw_mem 56 (by decide +kernel) rfl⟩
theorem mt_X11_bits : zw_mt mm_X11_bits 1 := ⟨zw_mem 1281 (by decide +kernel) rfl, zw_mem 102 (by decide +kernel) rfl, by decide +kernel, by decide +kernel, by decide +kernel⟩
theorem mS_X11_bits : zw_mS mm_X11_bits 1 := ⟨mt_X11_bits, zw_mem 1280 (by decide +kernel) rfl⟩
theorem mt_X11_addsColumn : zw_mt mm_X11_addsColumn 2 := ⟨zw_mem 1278 (by decide +kernel) rfl, zw_mem 102 (by decide +kernel) rfl, by decide +kernel, by decide +kernel, by decide +kernel⟩
theorem mV_X11_addsColumn : zw_mV mm_X11_addsColumn 2 := ⟨mt_X11_addsColumn, zw_mem 1277 (by decide +kernel) rfl, zw_mem 66 (by decide +kernel) rfl⟩
theorem mt_X11_determinant : zw_mt mm_X11_determinant 0 := ⟨zw_mem 1274 (by decide +kernel) rfl, zw_mem 102 (by decide +kernel) rfl, by decide +kernel, by decide +kernel, by decide +kernel⟩
theorem mV_X11_determinant : zw_mV mm_X11_determinant 0 := ⟨mt_X11_determinant, zw_mem 1273 (by decide +kernel) rfl, zw_mem 65 (by decide +kernel) rfl⟩
theorem mt_X11_results : zw_mt mm_X11_results 4 := ⟨zw_mem 1270 (by decide +kernel) rfl, zw_mem 102 (by decide +kernel) rfl, by decide +kernel, by decide +kernel, by decide +kernel⟩
theorem mV_X11_results : zw_mV mm_X11_results 4 := ⟨mt_X11_results, zw_mem 1269 (by decide +kernel) rfl, zw_mem 64 (by decide +kernel) rfl⟩
theorem mt_X11_resultAt : zw_mt mm_X11_resultAt 1 := ⟨zw_mem 1293 (by decide +kernel) rfl, zw_mem 102 (by decide +kernel) rfl, by decide +kernel, by decide +kernel, by decide +kernel⟩
theorem mV_X11_resultAt : zw_mV mm_X11_resultAt 1 := ⟨mt_X11_resultAt, zw_mem 1292 (by decide +kernel) rfl, zw_mem 67 (by decide +kernel) rfl⟩
theorem mt_X11_rows : zw_mt mm_X11_rows 4 := ⟨zw_mem 1214 (by decide +kernel) rfl, zw_mem 102 (by decide +kernel) rfl, by decide +kernel, by decide +kernel, by decide +kernel⟩
theorem mV_X11_rows : zw_mV mm_X11_rows 4 := ⟨mt_X11_rows, zw_mem 1212 (by decide +kernel) rfl, zw_mem 1213 (by decide +kernel) rfl⟩
theorem mt_X11_entry : zw_mt mm_X11_entry 7 := ⟨zw_mem 1262 (by decide +kernel) rfl, zw_mem 102 (by decide +kernel) rfl, by decide +kernel, by decide +kernel, by decide +kernel⟩
theorem mV_X11_entry : zw_mV mm_X11_entry 7 := ⟨mt_X11_entry, zw_mem 1260 (by decide +kernel) rfl, zw_mem 1261 (by decide +kernel) rfl⟩
theorem mt_X11_result : zw_mt mm_X11_result 5 := ⟨zw_mem 1266 (by decide +kernel) rfl, zw_mem 102 (by decide +kernel) rfl, by decide +kernel, by decide +kernel, by decide +kernel⟩
theorem mV_X11_result : zw_mV mm_X11_result 5 := ⟨mt_X11_result, zw_mem 1264 (by decide +kernel) rfl, zw_mem 1265 (by decide +kernel) rfl⟩
theorem mt_X11_degree : zw_mt mm_X11_degree 4 := ⟨zw_mem 1285 (by decide +kernel) rfl, zw_mem 102 (by decide +kernel) rfl, by decide +kernel, by decide +kernel, by decide +kernel⟩
theorem mV_X11_degree : zw_mV mm_X11_degree 4 := ⟨mt_X11_degree, zw_mem 1283 (by decide +kernel) rfl, zw_mem 1284 (by decide +kernel) rfl⟩
theorem mt_X11_at : zw_mt mm_X11_at 5 := ⟨zw_mem 1289 (by decide +kernel) rfl, zw_mem 102 (by decide +kernel) rfl, by decide +kernel, by decide +kernel, by decide +kernel⟩
theorem mV_X11_at : zw_mV mm_X11_at 5 := ⟨mt_X11_at, zw_mem 1287 (by decide +kernel) rfl, zw_mem 1288 (by decide +kernel) rfl⟩
theorem mt_X11_deepOf : zw_mt mm_X11_deepOf 2 := ⟨zw_mem 1308 (by decide +kernel) rfl, zw_mem 102 (by decide +kernel) rfl, by decide +kernel, by decide +kernel, by decide +kernel⟩
theorem mS_X11_deepOf : zw_mS mm_X11_deepOf 2 := ⟨mt_X11_deepOf, zw_mem 1307 (by decide +kernel) rfl⟩
theorem mt_X11_standsAt : zw_mt mm_X11_standsAt 1 := ⟨zw_mem 1305 (by decide +kernel) rfl, zw_mem 102 (by decide +kernel) rfl, by decide +kernel, by decide +kernel, by decide +kernel⟩
theorem mV_X11_standsAt : zw_mV mm_X11_standsAt 1 := ⟨mt_X11_standsAt, zw_mem 1304 (by decide +kernel) rfl, zw_mem 69 (by decide +kernel) rfl⟩
theorem mt_X11_divides : zw_mt mm_X11_divides 2 := ⟨zw_mem 1320 (by decide +kernel) rfl, zw_mem 102 (by decide +kernel) rfl, by decide +kernel, by decide +kernel, by decide +kernel⟩
theorem mV_X11_divides : zw_mV mm_X11_divides 2 := ⟨mt_X11_divides, zw_mem 1319 (by decide +kernel) rfl, zw_mem 72 (by decide +kernel) rfl⟩
theorem mt_X11_takesLeft : zw_mt mm_X11_takesLeft 1 := ⟨zw_mem 1316 (by decide +kernel) rfl, zw_mem 102 (by decide +kernel) rfl, by decide +kernel, by decide +kernel, by decide +kernel⟩
theorem mV_X11_takesLeft : zw_mV mm_X11_takesLeft 1 := ⟨mt_X11_takesLeft, zw_mem 1315 (by decide +kernel) rfl, zw_mem 71 (by decide +kernel) rfl⟩
theorem mt_X11_remains : zw_mt mm_X11_remains 1 := ⟨zw_mem 1312 (by decide +kernel) rfl, zw_mem 102 (by decide +kernel) rfl, by decide +kernel, by decide +kernel, by decide +kernel⟩
theorem mV_X11_remains : zw_mV mm_X11_remains 1 := ⟨mt_X11_remains, zw_mem 1311 (by decide +kernel) rfl, zw_mem 70 (by decide +kernel) rfl⟩
theorem mt_X11_notAt : zw_mt mm_X11_notAt 4 := ⟨zw_mem 1332 (by decide +kernel) rfl, zw_mem 102 (by decide +kernel) rfl, by decide +kernel, by decide +kernel, by decide +kernel⟩
theorem mV_X11_notAt : zw_mV mm_X11_notAt 4 := ⟨mt_X11_notAt, zw_mem 1331 (by decide +kernel) rfl, zw_mem 74 (by decide +kernel) rfl⟩
theorem mt_X11_remainder : zw_mt mm_X11_remainder 5 := ⟨zw_mem 1297 (by decide +kernel) rfl, zw_mem 102 (by decide +kernel) rfl, by decide +kernel, by decide +kernel, by decide +kernel⟩
theorem mV_X11_remainder : zw_mV mm_X11_remainder 5 := ⟨mt_X11_remainder, zw_mem 1295 (by decide +kernel) rfl, zw_mem 1296 (by decide +kernel) rfl⟩
theorem mt_X11_common : zw_mt mm_X11_common 4 := ⟨zw_mem 1328 (by decide +kernel) rfl, zw_mem 102 (by decide +kernel) rfl, by decide +kernel, by decide +kernel, by decide +kernel⟩
theorem mV_X11_common : zw_mV mm_X11_common 4 := ⟨mt_X11_common, zw_mem 1326 (by decide +kernel) rfl, zw_mem 1327 (by decide +kernel) rfl⟩
theorem mt_X11_norm : zw_mt mm_X11_norm 4 := ⟨zw_mem 1336 (by decide +kernel) rfl, zw_mem 102 (by decide +kernel) rfl, by decide +kernel, by decide +kernel, by decide +kernel⟩
theorem mV_X11_norm : zw_mV mm_X11_norm 4 := ⟨mt_X11_norm, zw_mem 1334 (by decide +kernel) rfl, zw_mem 1335 (by decide +kernel) rfl⟩
theorem mt_X11_extra : zw_mt mm_X11_extra 3 := ⟨zw_mem 1340 (by decide +kernel) rfl, zw_mem 102 (by decide +kernel) rfl, by decide +kernel, by decide +kernel, by decide +kernel⟩
theorem mV_X11_extra : zw_mV mm_X11_extra 3 := ⟨mt_X11_extra, zw_mem 1338 (by decide +kernel) rfl, zw_mem 1339 (by decide +kernel) rfl⟩
theorem mt_X11_zeros : zw_mt mm_X11_zeros 3 := ⟨zw_mem 1344 (by decide +kernel) rfl, zw_mem 102 (by decide +kernel) rfl, by decide +kernel, by decide +kernel, by decide +kernel⟩
theorem mV_X11_zeros : zw_mV mm_X11_zeros 3 := ⟨mt_X11_zeros, zw_mem 1342 (by decide +kernel) rfl, zw_mem 1343 (by decide +kernel) rfl⟩
theorem mt_X11_isRoot : zw_mt mm_X11_isRoot 4 := ⟨zw_mem 1352 (by decide +kernel) rfl, zw_mem 102 (by decide +kernel) rfl, by decide +kernel, by decide +kernel, by decide +kernel⟩
theorem mV_X11_isRoot : zw_mV mm_X11_isRoot 4 := ⟨mt_X11_isRoot, zw_mem 1351 (by decide +kernel) rfl, zw_mem 75 (by decide +kernel) rfl⟩
theorem mt_X11_lifted : zw_mt mm_X11_lifted 3 := ⟨zw_mem 1348 (by decide +kernel) rfl, zw_mem 102 (by decide +kernel) rfl, by decide +kernel, by decide +kernel, by decide +kernel⟩
theorem mV_X11_lifted : zw_mV mm_X11_lifted 3 := ⟨mt_X11_lifted, zw_mem 1346 (by decide +kernel) rfl, zw_mem 1347 (by decide +kernel) rfl⟩
theorem mt_X11_root : zw_mt mm_X11_root 3 := ⟨zw_mem 1356 (by decide +kernel) rfl, zw_mem 102 (by decide +kernel) rfl, by decide +kernel, by decide +kernel, by decide +kernel⟩
theorem mV_X11_root : zw_mV mm_X11_root 3 := ⟨mt_X11_root, zw_mem 1354 (by decide +kernel) rfl, zw_mem 1355 (by decide +kernel) rfl⟩
theorem mt_X11_without : zw_mt mm_X11_without 2 := ⟨zw_mem 1360 (by decide +kernel) rfl, zw_mem 102 (by decide +kernel) rfl, by decide +kernel, by decide +kernel, by decide +kernel⟩
theorem mV_X11_without : zw_mV mm_X11_without 2 := ⟨mt_X11_without, zw_mem 1358 (by decide +kernel) rfl, zw_mem 1359 (by decide +kernel) rfl⟩
theorem mt_X11_clears : zw_mt mm_X11_clears 0 := ⟨zw_mem 1372 (by decide +kernel) rfl, zw_mem 102 (by decide +kernel) rfl, by decide +kernel, by decide +kernel, by decide +kernel⟩
theorem mV_X11_clears : zw_mV mm_X11_clears 0 := ⟨mt_X11_clears, zw_mem 1371 (by decide +kernel) rfl, zw_mem 77 (by decide +kernel) rfl⟩
theorem mt_X11_turns : zw_mt mm_X11_turns 3 := ⟨zw_mem 1383 (by decide +kernel) rfl, zw_mem 102 (by decide +kernel) rfl, by decide +kernel, by decide +kernel, by decide +kernel⟩
theorem mS_X11_turns : zw_mS mm_X11_turns 3 := ⟨mt_X11_turns, zw_mem 1382 (by decide +kernel) rfl⟩
theorem mt_X11_far : zw_mt mm_X11_far 2 := ⟨zw_mem 1386 (by decide +kernel) rfl, zw_mem 102 (by decide +kernel) rfl, by decide +kernel, by decide +kernel, by decide +kernel⟩
theorem mS_X11_far : zw_mS mm_X11_far 2 := ⟨mt_X11_far, zw_mem 1385 (by decide +kernel) rfl⟩
theorem mt_X11_behind : zw_mt mm_X11_behind 1 := ⟨zw_mem 1380 (by decide +kernel) rfl, zw_mem 102 (by decide +kernel) rfl, by decide +kernel, by decide +kernel, by decide +kernel⟩
theorem mV_X11_behind : zw_mV mm_X11_behind 1 := ⟨mt_X11_behind, zw_mem 1379 (by decide +kernel) rfl, zw_mem 79 (by decide +kernel) rfl⟩
theorem mt_X11_wraps : zw_mt mm_X11_wraps 0 := ⟨zw_mem 1376 (by decide +kernel) rfl, zw_mem 102 (by decide +kernel) rfl, by decide +kernel, by decide +kernel, by decide +kernel⟩
theorem mV_X11_wraps : zw_mV mm_X11_wraps 0 := ⟨mt_X11_wraps, zw_mem 1375 (by decide +kernel) rfl, zw_mem 78 (by decide +kernel) rfl⟩
theorem mt_X11_wrapsOne : zw_mt mm_X11_wrapsOne 1 := ⟨zw_mem 1368 (by decide +kernel) rfl, zw_mem 102 (by decide +kernel) rfl, by decide +kernel, by decide +kernel, by decide +kernel⟩
theorem mV_X11_wrapsOne : zw_mV mm_X11_wrapsOne 1 := ⟨mt_X11_wrapsOne, zw_mem 1367 (by decide +kernel) rfl, zw_mem 76 (by decide +kernel) rfl⟩
theorem mt_X11_wrapsSum : zw_mt mm_X11_wrapsSum 2 := ⟨zw_mem 1410 (by decide +kernel) rfl, zw_mem 102 (by decide +kernel) rfl, by decide +kernel, by decide +kernel, by decide +kernel⟩
theorem mV_X11_wrapsSum : zw_mV mm_X11_wrapsSum 2 := ⟨mt_X11_wrapsSum, zw_mem 1409 (by decide +kernel) rfl, zw_mem 83 (by decide +kernel) rfl⟩
theorem mt_X11_areaNow : zw_mt mm_X11_areaNow 0 := ⟨zw_mem 1402 (by decide +kernel) rfl, zw_mem 102 (by decide +kernel) rfl, by decide +kernel, by decide +kernel, by decide +kernel⟩
theorem mV_X11_areaNow : zw_mV mm_X11_areaNow 0 := ⟨mt_X11_areaNow, zw_mem 1401 (by decide +kernel) rfl, zw_mem 82 (by decide +kernel) rfl⟩
theorem mt_X11_cornerAt : zw_mt mm_X11_cornerAt 1 := ⟨zw_mem 1390 (by decide +kernel) rfl, zw_mem 102 (by decide +kernel) rfl, by decide +kernel, by decide +kernel, by decide +kernel⟩
theorem mV_X11_cornerAt : zw_mV mm_X11_cornerAt 1 := ⟨mt_X11_cornerAt, zw_mem 1389 (by decide +kernel) rfl, zw_mem 80 (by decide +kernel) rfl⟩
theorem mt_X11_corner : zw_mt mm_X11_corner 2 := ⟨zw_mem 1364 (by decide +kernel) rfl, zw_mem 102 (by decide +kernel) rfl, by decide +kernel, by decide +kernel, by decide +kernel⟩
theorem mV_X11_corner : zw_mV mm_X11_corner 2 := ⟨mt_X11_corner, zw_mem 1362 (by decide +kernel) rfl, zw_mem 1363 (by decide +kernel) rfl⟩
theorem mt_X11_areaOf : zw_mt mm_X11_areaOf 1 := ⟨zw_mem 1398 (by decide +kernel) rfl, zw_mem 102 (by decide +kernel) rfl, by decide +kernel, by decide +kernel, by decide +kernel⟩
theorem mV_X11_areaOf : zw_mV mm_X11_areaOf 1 := ⟨mt_X11_areaOf, zw_mem 1397 (by decide +kernel) rfl, zw_mem 81 (by decide +kernel) rfl⟩
theorem mt_X11_area : zw_mt mm_X11_area 1 := ⟨zw_mem 1394 (by decide +kernel) rfl, zw_mem 102 (by decide +kernel) rfl, by decide +kernel, by decide +kernel, by decide +kernel⟩
theorem mV_X11_area : zw_mV mm_X11_area 1 := ⟨mt_X11_area, zw_mem 1392 (by decide +kernel) rfl, zw_mem 1393 (by decide +kernel) rfl⟩
theorem mt_X11_sum : zw_mt mm_X11_sum 3 := ⟨zw_mem 1406 (by decide +kernel) rfl, zw_mem 102 (by decide +kernel) rfl, by decide +kernel, by decide +kernel, by decide +kernel⟩
theorem mV_X11_sum : zw_mV mm_X11_sum 3 := ⟨mt_X11_sum, zw_mem 1404 (by decide +kernel) rfl, zw_mem 1405 (by decide +kernel) rfl⟩
theorem mt_X11_mixed : zw_mt mm_X11_mixed 2 := ⟨zw_mem 1414 (by decide +kernel) rfl, zw_mem 102 (by decide +kernel) rfl, by decide +kernel, by decide +kernel, by decide +kernel⟩
theorem mV_X11_mixed : zw_mV mm_X11_mixed 2 := ⟨mt_X11_mixed, zw_mem 1412 (by decide +kernel) rfl, zw_mem 1413 (by decide +kernel) rfl⟩
theorem mt_X11_multiplies : zw_mt mm_X11_multiplies 2 := ⟨zw_mem 1422 (by decide +kernel) rfl, zw_mem 102 (by decide +kernel) rfl, by decide +kernel, by decide +kernel, by decide +kernel⟩
theorem mV_X11_multiplies : zw_mV mm_X11_multiplies 2 := ⟨mt_X11_multiplies, zw_mem 1421 (by decide +kernel) rfl, zw_mem 84 (by decide +kernel) rfl⟩
theorem mt_X11_product : zw_mt mm_X11_product 2 := ⟨zw_mem 1418 (by decide +kernel) rfl, zw_mem 102 (by decide +kernel) rfl, by decide +kernel, by decide +kernel, by decide +kernel⟩
theorem mV_X11_product : zw_mV mm_X11_product 2 := ⟨mt_X11_product, zw_mem 1416 (by decide +kernel) rfl, zw_mem 1417 (by decide +kernel) rfl⟩
theorem mt_X11_divisor : zw_mt mm_X11_divisor 2 := ⟨zw_mem 1434 (by decide +kernel) rfl, zw_mem 102 (by decide +kernel) rfl, by decide +kernel, by decide +kernel, by decide +kernel⟩
theorem mS_X11_divisor : zw_mS mm_X11_divisor 2 := ⟨mt_X11_divisor, zw_mem 1433 (by decide +kernel) rfl⟩
theorem mt_X11_odds : zw_mt mm_X11_odds 2 := ⟨zw_mem 1426 (by decide +kernel) rfl, zw_mem 102 (by decide +kernel) rfl, by decide +kernel, by decide +kernel, by decide +kernel⟩
theorem mV_X11_odds : zw_mV mm_X11_odds 2 := ⟨mt_X11_odds, zw_mem 1424 (by decide +kernel) rfl, zw_mem 1425 (by decide +kernel) rfl⟩
theorem mt_X11_draw : zw_mt mm_X11_draw 1 := ⟨zw_mem 1442 (by decide +kernel) rfl, zw_mem 102 (by decide +kernel) rfl, by decide +kernel, by decide +kernel, by decide +kernel⟩
theorem mV_X11_draw : zw_mV mm_X11_draw 1 := ⟨mt_X11_draw, zw_mem 1441 (by decide +kernel) rfl, zw_mem 86 (by decide +kernel) rfl⟩
theorem mt_X11_lots : zw_mt mm_X11_lots 4 := ⟨zw_mem 1438 (by decide +kernel) rfl, zw_mem 102 (by decide +kernel) rfl, by decide +kernel, by decide +kernel, by decide +kernel⟩
theorem mV_X11_lots : zw_mV mm_X11_lots 4 := ⟨mt_X11_lots, zw_mem 1436 (by decide +kernel) rfl, zw_mem 1437 (by decide +kernel) rfl⟩
theorem mt_X11_isList : zw_mt mm_X11_isList 1 := ⟨zw_mem 1452 (by decide +kernel) rfl, zw_mem 102 (by decide +kernel) rfl, by decide +kernel, by decide +kernel, by decide +kernel⟩
theorem mS_X11_isList : zw_mS mm_X11_isList 1 := ⟨mt_X11_isList, zw_mem 1451 (by decide +kernel) rfl⟩
theorem mt_X11_list : zw_mt mm_X11_list 2 := ⟨zw_mem 1449 (by decide +kernel) rfl, zw_mem 102 (by decide +kernel) rfl, by decide +kernel, by decide +kernel, by decide +kernel⟩
theorem mV_X11_list : zw_mV mm_X11_list 2 := ⟨mt_X11_list, zw_mem 1447 (by decide +kernel) rfl, zw_mem 1448 (by decide +kernel) rfl⟩
theorem mt_X11_notPlace : zw_mt mm_X11_notPlace 2 := ⟨zw_mem 1460 (by decide +kernel) rfl, zw_mem 102 (by decide +kernel) rfl, by decide +kernel, by decide +kernel, by decide +kernel⟩
theorem mV_X11_notPlace : zw_mV mm_X11_notPlace 2 := ⟨mt_X11_notPlace, zw_mem 1459 (by decide +kernel) rfl, zw_mem 87 (by decide +kernel) rfl⟩
theorem mt_X11_put : zw_mt mm_X11_put 3 := ⟨zw_mem 1456 (by decide +kernel) rfl, zw_mem 102 (by decide +kernel) rfl, by decide +kernel, by decide +kernel, by decide +kernel⟩
theorem mV_X11_put : zw_mV mm_X11_put 3 := ⟨mt_X11_put, zw_mem 1454 (by decide +kernel) rfl, zw_mem 1455 (by decide +kernel) rfl⟩
theorem mt_X11_look : zw_mt mm_X11_look 2 := ⟨zw_mem 1464 (by decide +kernel) rfl, zw_mem 102 (by decide +kernel) rfl, by decide +kernel, by decide +kernel, by decide +kernel⟩
theorem mV_X11_look : zw_mV mm_X11_look 2 := ⟨mt_X11_look, zw_mem 1462 (by decide +kernel) rfl, zw_mem 1463 (by decide +kernel) rfl⟩
theorem mt_X11_notListed : zw_mt mm_X11_notListed 5 := ⟨zw_mem 1472 (by decide +kernel) rfl, zw_mem 102 (by decide +kernel) rfl, by decide +kernel, by decide +kernel, by decide +kernel⟩
theorem mV_X11_notListed : zw_mV mm_X11_notListed 5 := ⟨mt_X11_notListed, zw_mem 1471 (by decide +kernel) rfl, zw_mem 88 (by decide +kernel) rfl⟩
theorem mt_X11_lays : zw_mt mm_X11_lays 6 := ⟨zw_mem 1468 (by decide +kernel) rfl, zw_mem 102 (by decide +kernel) rfl, by decide +kernel, by decide +kernel, by decide +kernel⟩
theorem mV_X11_lays : zw_mV mm_X11_lays 6 := ⟨mt_X11_lays, zw_mem 1466 (by decide +kernel) rfl, zw_mem 1467 (by decide +kernel) rfl⟩
theorem mt_X11_judge : zw_mt mm_X11_judge 5 := ⟨zw_mem 1476 (by decide +kernel) rfl, zw_mem 102 (by decide +kernel) rfl, by decide +kernel, by decide +kernel, by decide +kernel⟩
theorem mV_X11_judge : zw_mV mm_X11_judge 5 := ⟨mt_X11_judge, zw_mem 1474 (by decide +kernel) rfl, zw_mem 1475 (by decide +kernel) rfl⟩
theorem mt_X11_passOne : zw_mt mm_X11_passOne 1 := ⟨zw_mem 1488 (by decide +kernel) rfl, zw_mem 102 (by decide +kernel) rfl, by decide +kernel, by decide +kernel, by decide +kernel⟩
theorem mV_X11_passOne : zw_mV mm_X11_passOne 1 := ⟨mt_X11_passOne, zw_mem 1487 (by decide +kernel) rfl, zw_mem 90 (by decide +kernel) rfl⟩
theorem mt_X11_passesAll : zw_mt mm_X11_passesAll 1 := ⟨zw_mem 1484 (by decide +kernel) rfl, zw_mem 102 (by decide +kernel) rfl, by decide +kernel, by decide +kernel, by decide +kernel⟩
theorem mV_X11_passesAll : zw_mV mm_X11_passesAll 1 := ⟨mt_X11_passesAll, zw_mem 1483 (by decide +kernel) rfl, zw_mem 89 (by decide +kernel) rfl⟩
theorem mt_X11_image : zw_mt mm_X11_image 0 := ⟨zw_mem 1480 (by decide +kernel) rfl, zw_mem 102 (by decide +kernel) rfl, by decide +kernel, by decide +kernel, by decide +kernel⟩
theorem mV_X11_image : zw_mV mm_X11_image 0 := ⟨mt_X11_image, zw_mem 1478 (by decide +kernel) rfl, zw_mem 1479 (by decide +kernel) rfl⟩
theorem mt_X11_on : zw_mt mm_X11_on 0 := ⟨zw_mem 1492 (by decide +kernel) rfl, zw_mem 102 (by decide +kernel) rfl, by decide +kernel, by decide +kernel, by decide +kernel⟩
theorem mV_X11_on : zw_mV mm_X11_on 0 := ⟨mt_X11_on, zw_mem 1490 (by decide +kernel) rfl, zw_mem 1491 (by decide +kernel) rfl⟩
theorem mt_X11_count : zw_mt mm_X11_count 1 := ⟨zw_mem 1496 (by decide +kernel) rfl, zw_mem 102 (by decide +kernel) rfl, by decide +kernel, by decide +kernel, by decide +kernel⟩
theorem mV_X11_count : zw_mV mm_X11_count 1 := ⟨mt_X11_count, zw_mem 1494 (by decide +kernel) rfl, zw_mem 1495 (by decide +kernel) rfl⟩
theorem mt_J6_bitCount_0f7a4 : zw_mt mm_J6_bitCount_0f7a4 1 := ⟨zw_mem 645 (by decide +kernel) rfl, zw_mem 107 (by decide +kernel) rfl, by decide +kernel, by decide +kernel, by decide +kernel⟩
theorem mS_J6_bitCount_0f7a4 : zw_mS mm_J6_bitCount_0f7a4 1 := ⟨mt_J6_bitCount_0f7a4, zw_mem 644 (by decide +kernel) rfl⟩
theorem mt_J9_floorMod_7cf53 : zw_mt mm_J9_floorMod_7cf53 2 := ⟨zw_mem 438 (by decide +kernel) rfl, zw_mem 105 (by decide +kernel) rfl, by decide +kernel, by decide +kernel, by decide +kernel⟩
theorem mS_J9_floorMod_7cf53 : zw_mS mm_J9_floorMod_7cf53 2 := ⟨mt_J9_floorMod_7cf53, zw_mem 437 (by decide +kernel) rfl⟩
theorem mt_J9_max_7cf53 : zw_mt mm_J9_max_7cf53 2 := ⟨zw_mem 527 (by decide +kernel) rfl, zw_mem 105 (by decide +kernel) rfl, by decide +kernel, by decide +kernel, by decide +kernel⟩
theorem mS_J9_max_7cf53 : zw_mS mm_J9_max_7cf53 2 := ⟨mt_J9_max_7cf53, zw_mem 526 (by decide +kernel) rfl⟩
theorem mt_J9_min_7cf53 : zw_mt mm_J9_min_7cf53 2 := ⟨zw_mem 550 (by decide +kernel) rfl, zw_mem 105 (by decide +kernel) rfl, by decide +kernel, by decide +kernel, by decide +kernel⟩
theorem mS_J9_min_7cf53 : zw_mS mm_J9_min_7cf53 2 := ⟨mt_J9_min_7cf53, zw_mem 549 (by decide +kernel) rfl⟩
theorem mt_J7_fill_53178 : zw_mt mm_J7_fill_53178 2 := ⟨zw_mem 395 (by decide +kernel) rfl, zw_mem 103 (by decide +kernel) rfl, by decide +kernel, by decide +kernel, by decide +kernel⟩
theorem mS_J7_fill_53178 : zw_mS mm_J7_fill_53178 2 := ⟨mt_J7_fill_53178, zw_mem 394 (by decide +kernel) rfl⟩
theorem lk_L_9 : Cond.methodLink RL 9 yX10_init ∈ lw_g := zw_mem 110 (by decide +kernel) rfl
theorem lk_X10_3 : Cond.methodLink RX10 3 objectInit ∈ lw_g := zw_mem 113 (by decide +kernel) rfl
theorem lk_X10_11 : Cond.methodLink RX10 11 yX8_init ∈ lw_g := zw_mem 118 (by decide +kernel) rfl
theorem lk_X8_3 : Cond.methodLink RX8 3 objectInit ∈ lw_g := zw_mem 121 (by decide +kernel) rfl
theorem lk_X4_3 : Cond.methodLink RX4 3 objectInit ∈ lw_g := zw_mem 128 (by decide +kernel) rfl
theorem lk_X6_3 : Cond.methodLink RX6 3 objectInit ∈ lw_g := zw_mem 167 (by decide +kernel) rfl
theorem lk_X3_1 : Cond.methodLink RX3 1 objectInit ∈ lw_g := zw_mem 197 (by decide +kernel) rfl
theorem lk_X9_3 : Cond.methodLink RX9 3 objectInit ∈ lw_g := zw_mem 217 (by decide +kernel) rfl
theorem lk_X0_3 : Cond.methodLink RX0 3 objectInit ∈ lw_g := zw_mem 249 (by decide +kernel) rfl
theorem lk_X5_5 : Cond.methodLink RX5 5 objectInit ∈ lw_g := zw_mem 271 (by decide +kernel) rfl
theorem lk_X7_3 : Cond.methodLink RX7 3 objectInit ∈ lw_g := zw_mem 287 (by decide +kernel) rfl
theorem lk_X1_3 : Cond.methodLink RX1 3 objectInit ∈ lw_g := zw_mem 323 (by decide +kernel) rfl
theorem lk_L_13 : Cond.methodLink RL 13 yX10_letter ∈ lw_g := zw_mem 365 (by decide +kernel) rfl
theorem lk_X10_76 : Cond.methodLink RX10 76 yX10_refuse ∈ lw_g := zw_mem 369 (by decide +kernel) rfl
theorem lk_X10_80 : Cond.methodLink RX10 80 yX6_isFull ∈ lw_g := zw_mem 373 (by decide +kernel) rfl
theorem lk_X10_84 : Cond.methodLink RX10 84 yX6_take ∈ lw_g := zw_mem 377 (by decide +kernel) rfl
theorem lk_L_18 : Cond.methodLink RL 18 yX10_poly ∈ lw_g := zw_mem 381 (by decide +kernel) rfl
theorem lk_X10_87 : Cond.methodLink RX10 87 yX8_isFull ∈ lw_g := zw_mem 385 (by decide +kernel) rfl
theorem lk_X10_88 : Cond.methodLink RX10 88 yX6_read ∈ lw_g := zw_mem 389 (by decide +kernel) rfl
theorem lk_X6_22 : Cond.methodLink RX6 22 yJ7_fill_53178 ∈ lw_g := zw_mem 393 (by decide +kernel) rfl
theorem lk_X6_31 : Cond.methodLink RX6 31 yX6_next ∈ lw_g := zw_mem 396 (by decide +kernel) rfl
theorem lk_X6_35 : Cond.methodLink RX6 35 yX6_readTerm ∈ lw_g := zw_mem 400 (by decide +kernel) rfl
theorem lk_X6_48 : Cond.methodLink RX6 48 yX6_readNumber ∈ lw_g := zw_mem 404 (by decide +kernel) rfl
theorem lk_X6_51 : Cond.methodLink RX6 51 yX6_readPower ∈ lw_g := zw_mem 408 (by decide +kernel) rfl
theorem lk_X10_92 : Cond.methodLink RX10 92 yX6_forget ∈ lw_g := zw_mem 412 (by decide +kernel) rfl
theorem lk_X10_95 : Cond.methodLink RX10 95 yX3_forget ∈ lw_g := zw_mem 416 (by decide +kernel) rfl
theorem lk_X10_96 : Cond.methodLink RX10 96 yX8_addPlain ∈ lw_g := zw_mem 420 (by decide +kernel) rfl
theorem lk_X8_25 : Cond.methodLink RX8 25 yX4_clear ∈ lw_g := zw_mem 424 (by decide +kernel) rfl
theorem lk_X4_31 : Cond.methodLink RX4 31 yJ7_fill_53178 ∈ lw_g := zw_mem 428 (by decide +kernel) rfl
theorem lk_X10_108 : Cond.methodLink RX10 108 arraycopyName ∈ lw_g := zw_mem 429 (by decide +kernel) rfl
theorem lk_X10_118 : Cond.methodLink RX10 118 yX4_reduceBy ∈ lw_g := zw_mem 432 (by decide +kernel) rfl
theorem lk_X4_41 : Cond.methodLink RX4 41 yJ9_floorMod_7cf53 ∈ lw_g := zw_mem 436 (by decide +kernel) rfl
theorem lk_X4_37 : Cond.methodLink RX4 37 yX4_refresh ∈ lw_g := zw_mem 439 (by decide +kernel) rfl
theorem lk_X4_47 : Cond.methodLink RX4 47 yX4_byKind ∈ lw_g := zw_mem 443 (by decide +kernel) rfl
theorem lk_X4_54 : Cond.methodLink RX4 54 yX4_even ∈ lw_g := zw_mem 447 (by decide +kernel) rfl
theorem lk_X4_57 : Cond.methodLink RX4 57 yX2_power ∈ lw_g := zw_mem 451 (by decide +kernel) rfl
theorem lk_X4_51 : Cond.methodLink RX4 51 yX4_shift ∈ lw_g := zw_mem 454 (by decide +kernel) rfl
theorem lk_L_23 : Cond.methodLink RL 23 yX10_drop ∈ lw_g := zw_mem 458 (by decide +kernel) rfl
theorem lk_L_27 : Cond.methodLink RL 27 yX10_prime ∈ lw_g := zw_mem 462 (by decide +kernel) rfl
theorem lk_X10_125 : Cond.methodLink RX10 125 yX2_isPrime ∈ lw_g := zw_mem 466 (by decide +kernel) rfl
theorem lk_X10_131 : Cond.methodLink RX10 131 yX8_reduceBy ∈ lw_g := zw_mem 471 (by decide +kernel) rfl
theorem lk_X8_28 : Cond.methodLink RX8 28 yX4_reduceBy ∈ lw_g := zw_mem 475 (by decide +kernel) rfl
theorem lk_L_31 : Cond.methodLink RL 31 yX10_turn ∈ lw_g := zw_mem 476 (by decide +kernel) rfl
theorem lk_X10_132 : Cond.methodLink RX10 132 yX8_has ∈ lw_g := zw_mem 480 (by decide +kernel) rfl
theorem lk_X10_145 : Cond.methodLink RX10 145 yX3_note ∈ lw_g := zw_mem 484 (by decide +kernel) rfl
theorem lk_X3_23 : Cond.methodLink RX3 23 yX3_forgetOldest ∈ lw_g := zw_mem 488 (by decide +kernel) rfl
theorem lk_X3_26 : Cond.methodLink RX3 26 arraycopyName ∈ lw_g := zw_mem 492 (by decide +kernel) rfl
theorem lk_X10_149 : Cond.methodLink RX10 149 yX4_become ∈ lw_g := zw_mem 493 (by decide +kernel) rfl
theorem lk_L_36 : Cond.methodLink RL 36 yX10_change ∈ lw_g := zw_mem 497 (by decide +kernel) rfl
theorem lk_X10_152 : Cond.methodLink RX10 152 yX10_powersRefusal ∈ lw_g := zw_mem 501 (by decide +kernel) rfl
theorem lk_X10_156 : Cond.methodLink RX10 156 yX4_tell ∈ lw_g := zw_mem 505 (by decide +kernel) rfl
theorem lk_L_41 : Cond.methodLink RL 41 yX10_coefficient ∈ lw_g := zw_mem 509 (by decide +kernel) rfl
theorem lk_L_45 : Cond.methodLink RL 45 yX10_of ∈ lw_g := zw_mem 513 (by decide +kernel) rfl
theorem lk_X10_162 : Cond.methodLink RX10 162 yX4_degreeIn ∈ lw_g := zw_mem 517 (by decide +kernel) rfl
theorem lk_X4_66 : Cond.methodLink RX4 66 yX4_hasTerm ∈ lw_g := zw_mem 521 (by decide +kernel) rfl
theorem lk_X4_70 : Cond.methodLink RX4 70 yJ9_max_7cf53 ∈ lw_g := zw_mem 525 (by decide +kernel) rfl
theorem lk_X10_165 : Cond.methodLink RX10 165 yX4_howManyTerms ∈ lw_g := zw_mem 528 (by decide +kernel) rfl
theorem lk_X10_168 : Cond.methodLink RX10 168 yX4_wholeDegree ∈ lw_g := zw_mem 532 (by decide +kernel) rfl
theorem lk_L_50 : Cond.methodLink RL 50 yX10_term ∈ lw_g := zw_mem 536 (by decide +kernel) rfl
theorem lk_X10_171 : Cond.methodLink RX10 171 yX4_termByLetter ∈ lw_g := zw_mem 540 (by decide +kernel) rfl
theorem lk_X10_174 : Cond.methodLink RX10 174 yX4_termByWhole ∈ lw_g := zw_mem 544 (by decide +kernel) rfl
theorem lk_X4_73 : Cond.methodLink RX4 73 yJ9_min_7cf53 ∈ lw_g := zw_mem 548 (by decide +kernel) rfl
theorem lk_L_54 : Cond.methodLink RL 54 yX10_value ∈ lw_g := zw_mem 551 (by decide +kernel) rfl
theorem lk_X10_177 : Cond.methodLink RX10 177 yX7_valueOf ∈ lw_g := zw_mem 555 (by decide +kernel) rfl
theorem lk_X7_34 : Cond.methodLink RX7 34 yX4_reduceAt ∈ lw_g := zw_mem 559 (by decide +kernel) rfl
theorem lk_X4_76 : Cond.methodLink RX4 76 yX4_part ∈ lw_g := zw_mem 563 (by decide +kernel) rfl
theorem lk_X7_40 : Cond.methodLink RX7 40 yX2_valueAt ∈ lw_g := zw_mem 567 (by decide +kernel) rfl
theorem lk_L_58 : Cond.methodLink RL 58 yX10_rows ∈ lw_g := zw_mem 570 (by decide +kernel) rfl
theorem lk_X10_181 : Cond.methodLink RX10 181 yX10_tableRefusal ∈ lw_g := zw_mem 574 (by decide +kernel) rfl
theorem lk_X10_257 : Cond.methodLink RX10 257 yX10_isLetter ∈ lw_g := zw_mem 578 (by decide +kernel) rfl
theorem lk_X10_356 : Cond.methodLink RX10 356 yX4_isNought ∈ lw_g := zw_mem 581 (by decide +kernel) rfl
theorem lk_X4_62 : Cond.methodLink RX4 62 yX4_howManyTerms ∈ lw_g := zw_mem 585 (by decide +kernel) rfl
theorem lk_X10_185 : Cond.methodLink RX10 185 yX9_sizeOf ∈ lw_g := zw_mem 586 (by decide +kernel) rfl
theorem lk_X9_24 : Cond.methodLink RX9 24 yX4_degreeIn ∈ lw_g := zw_mem 589 (by decide +kernel) rfl
theorem lk_X9_30 : Cond.methodLink RX9 30 yJ9_max_7cf53 ∈ lw_g := zw_mem 590 (by decide +kernel) rfl
theorem lk_L_62 : Cond.methodLink RL 62 yX10_entry ∈ lw_g := zw_mem 591 (by decide +kernel) rfl
theorem lk_X10_189 : Cond.methodLink RX10 189 yX9_fill ∈ lw_g := zw_mem 595 (by decide +kernel) rfl
theorem lk_X9_55 : Cond.methodLink RX9 55 yX9_sizeOf ∈ lw_g := zw_mem 599 (by decide +kernel) rfl
theorem lk_X9_59 : Cond.methodLink RX9 59 yX9_clear ∈ lw_g := zw_mem 600 (by decide +kernel) rfl
theorem lk_X9_36 : Cond.methodLink RX9 36 yJ9_min_7cf53 ∈ lw_g := zw_mem 604 (by decide +kernel) rfl
theorem lk_X9_46 : Cond.methodLink RX9 46 yJ7_fill_53178 ∈ lw_g := zw_mem 605 (by decide +kernel) rfl
theorem lk_X9_69 : Cond.methodLink RX9 69 yX9_fillSylvester ∈ lw_g := zw_mem 606 (by decide +kernel) rfl
theorem lk_X9_52 : Cond.methodLink RX9 52 yX9_baseOf ∈ lw_g := zw_mem 610 (by decide +kernel) rfl
theorem lk_X9_82 : Cond.methodLink RX9 82 yX4_part ∈ lw_g := zw_mem 613 (by decide +kernel) rfl
theorem lk_X9_73 : Cond.methodLink RX9 73 yX9_fillBezout ∈ lw_g := zw_mem 614 (by decide +kernel) rfl
theorem lk_X9_76 : Cond.methodLink RX9 76 yX9_reduceCell ∈ lw_g := zw_mem 618 (by decide +kernel) rfl
theorem lk_X9_79 : Cond.methodLink RX9 79 yJ9_floorMod_7cf53 ∈ lw_g := zw_mem 622 (by decide +kernel) rfl
theorem lk_X10_193 : Cond.methodLink RX10 193 yX9_cellPower ∈ lw_g := zw_mem 623 (by decide +kernel) rfl
theorem lk_L_67 : Cond.methodLink RL 67 yX10_result ∈ lw_g := zw_mem 627 (by decide +kernel) rfl
theorem lk_X10_196 : Cond.methodLink RX10 196 yX10_solve ∈ lw_g := zw_mem 631 (by decide +kernel) rfl
theorem lk_X10_247 : Cond.methodLink RX10 247 yX9_expand ∈ lw_g := zw_mem 635 (by decide +kernel) rfl
theorem lk_X9_86 : Cond.methodLink RX9 86 yX9_expandSet ∈ lw_g := zw_mem 639 (by decide +kernel) rfl
theorem lk_X9_89 : Cond.methodLink RX9 89 yJ6_bitCount_0f7a4 ∈ lw_g := zw_mem 643 (by decide +kernel) rfl
theorem lk_X9_94 : Cond.methodLink RX9 94 yX9_addMultiple ∈ lw_g := zw_mem 649 (by decide +kernel) rfl
theorem lk_L_72 : Cond.methodLink RL 72 yX10_degree ∈ lw_g := zw_mem 653 (by decide +kernel) rfl
theorem lk_X10_203 : Cond.methodLink RX10 203 yX2_degreeOf ∈ lw_g := zw_mem 657 (by decide +kernel) rfl
theorem lk_L_76 : Cond.methodLink RL 76 yX10_at ∈ lw_g := zw_mem 660 (by decide +kernel) rfl
theorem lk_X10_207 : Cond.methodLink RX10 207 yX10_numberRefusal ∈ lw_g := zw_mem 664 (by decide +kernel) rfl
theorem lk_X10_210 : Cond.methodLink RX10 210 yX2_valueAt ∈ lw_g := zw_mem 668 (by decide +kernel) rfl
theorem lk_L_80 : Cond.methodLink RL 80 yX10_remainder ∈ lw_g := zw_mem 669 (by decide +kernel) rfl
theorem lk_X10_214 : Cond.methodLink RX10 214 yX10_divideAt ∈ lw_g := zw_mem 673 (by decide +kernel) rfl
theorem lk_X10_232 : Cond.methodLink RX10 232 yX4_reduceAt ∈ lw_g := zw_mem 677 (by decide +kernel) rfl
theorem lk_X10_254 : Cond.methodLink RX10 254 yX0_divideOn ∈ lw_g := zw_mem 678 (by decide +kernel) rfl
theorem lk_X0_25 : Cond.methodLink RX0 25 yX2_degreeOf ∈ lw_g := zw_mem 682 (by decide +kernel) rfl
theorem lk_X0_31 : Cond.methodLink RX0 31 yX0_note ∈ lw_g := zw_mem 683 (by decide +kernel) rfl
theorem lk_X0_35 : Cond.methodLink RX0 35 yX0_divide ∈ lw_g := zw_mem 687 (by decide +kernel) rfl
theorem lk_X0_39 : Cond.methodLink RX0 39 yX2_inverse ∈ lw_g := zw_mem 690 (by decide +kernel) rfl
theorem lk_X0_43 : Cond.methodLink RX0 43 yJ9_floorMod_7cf53 ∈ lw_g := zw_mem 693 (by decide +kernel) rfl
theorem lk_X10_220 : Cond.methodLink RX10 220 yX0_linkDegree ∈ lw_g := zw_mem 694 (by decide +kernel) rfl
theorem lk_L_84 : Cond.methodLink RL 84 yX10_common ∈ lw_g := zw_mem 698 (by decide +kernel) rfl
theorem lk_X10_223 : Cond.methodLink RX10 223 yX10_atRefusal ∈ lw_g := zw_mem 702 (by decide +kernel) rfl
theorem lk_X10_226 : Cond.methodLink RX10 226 yX0_lastDegree ∈ lw_g := zw_mem 706 (by decide +kernel) rfl
theorem lk_X0_48 : Cond.methodLink RX0 48 yX0_linkDegree ∈ lw_g := zw_mem 710 (by decide +kernel) rfl
theorem lk_L_88 : Cond.methodLink RL 88 yX10_norm ∈ lw_g := zw_mem 711 (by decide +kernel) rfl
theorem lk_X10_239 : Cond.methodLink RX10 239 yX9_clear ∈ lw_g := zw_mem 715 (by decide +kernel) rfl
theorem lk_X10_243 : Cond.methodLink RX10 243 yX0_layMultiples ∈ lw_g := zw_mem 716 (by decide +kernel) rfl
theorem lk_X0_52 : Cond.methodLink RX0 52 yX9_setNumber ∈ lw_g := zw_mem 720 (by decide +kernel) rfl
theorem lk_X0_58 : Cond.methodLink RX0 58 yX0_raise ∈ lw_g := zw_mem 724 (by decide +kernel) rfl
theorem lk_L_92 : Cond.methodLink RL 92 yX10_extra ∈ lw_g := zw_mem 728 (by decide +kernel) rfl
theorem lk_X10_250 : Cond.methodLink RX10 250 yX4_leadingPart ∈ lw_g := zw_mem 732 (by decide +kernel) rfl
theorem lk_X4_79 : Cond.methodLink RX4 79 yX4_degreeIn ∈ lw_g := zw_mem 736 (by decide +kernel) rfl
theorem lk_L_96 : Cond.methodLink RL 96 yX10_zeros ∈ lw_g := zw_mem 737 (by decide +kernel) rfl
theorem lk_L_100 : Cond.methodLink RL 100 yX10_lifted ∈ lw_g := zw_mem 741 (by decide +kernel) rfl
theorem lk_X10_260 : Cond.methodLink RX10 260 yX10_tryAll ∈ lw_g := zw_mem 745 (by decide +kernel) rfl
theorem lk_X10_363 : Cond.methodLink RX10 363 yX7_tryAll ∈ lw_g := zw_mem 749 (by decide +kernel) rfl
theorem lk_X7_46 : Cond.methodLink RX7 46 yX7_note ∈ lw_g := zw_mem 753 (by decide +kernel) rfl
theorem lk_L_104 : Cond.methodLink RL 104 yX10_root ∈ lw_g := zw_mem 757 (by decide +kernel) rfl
theorem lk_L_108 : Cond.methodLink RL 108 yX10_without ∈ lw_g := zw_mem 761 (by decide +kernel) rfl
theorem lk_L_112 : Cond.methodLink RL 112 yX10_corner ∈ lw_g := zw_mem 765 (by decide +kernel) rfl
theorem lk_X10_278 : Cond.methodLink RX10 278 yX10_polygonRefusal ∈ lw_g := zw_mem 769 (by decide +kernel) rfl
theorem lk_X10_282 : Cond.methodLink RX10 282 yX5_ofOne ∈ lw_g := zw_mem 773 (by decide +kernel) rfl
theorem lk_X5_18 : Cond.methodLink RX5 18 yJ7_fill_53178 ∈ lw_g := zw_mem 777 (by decide +kernel) rfl
theorem lk_X5_24 : Cond.methodLink RX5 24 yX5_markMoved ∈ lw_g := zw_mem 778 (by decide +kernel) rfl
theorem lk_X5_31 : Cond.methodLink RX5 31 yX4_hasTerm ∈ lw_g := zw_mem 782 (by decide +kernel) rfl
theorem lk_X5_28 : Cond.methodLink RX5 28 yX5_wrap ∈ lw_g := zw_mem 783 (by decide +kernel) rfl
theorem lk_X5_41 : Cond.methodLink RX5 41 yX5_goOn ∈ lw_g := zw_mem 787 (by decide +kernel) rfl
theorem lk_X5_45 : Cond.methodLink RX5 45 yX5_turning ∈ lw_g := zw_mem 791 (by decide +kernel) rfl
theorem lk_X10_286 : Cond.methodLink RX10 286 yX5_cornerCode ∈ lw_g := zw_mem 794 (by decide +kernel) rfl
theorem lk_L_116 : Cond.methodLink RL 116 yX10_area ∈ lw_g := zw_mem 798 (by decide +kernel) rfl
theorem lk_X10_289 : Cond.methodLink RX10 289 yX5_twiceCovered ∈ lw_g := zw_mem 802 (by decide +kernel) rfl
theorem lk_L_120 : Cond.methodLink RL 120 yX10_sum ∈ lw_g := zw_mem 806 (by decide +kernel) rfl
theorem lk_X10_292 : Cond.methodLink RX10 292 yX5_ofTwo ∈ lw_g := zw_mem 810 (by decide +kernel) rfl
theorem lk_L_124 : Cond.methodLink RL 124 yX10_mixed ∈ lw_g := zw_mem 814 (by decide +kernel) rfl
theorem lk_L_128 : Cond.methodLink RL 128 yX10_product ∈ lw_g := zw_mem 818 (by decide +kernel) rfl
theorem lk_X10_296 : Cond.methodLink RX10 296 yX4_multipliesWith ∈ lw_g := zw_mem 822 (by decide +kernel) rfl
theorem lk_X10_300 : Cond.methodLink RX10 300 yX4_multiply ∈ lw_g := zw_mem 826 (by decide +kernel) rfl
theorem lk_X4_83 : Cond.methodLink RX4 83 yX4_addMultiple ∈ lw_g := zw_mem 830 (by decide +kernel) rfl
theorem lk_X4_87 : Cond.methodLink RX4 87 yX4_reduceBy ∈ lw_g := zw_mem 834 (by decide +kernel) rfl
theorem lk_L_132 : Cond.methodLink RL 132 yX10_odds ∈ lw_g := zw_mem 835 (by decide +kernel) rfl
theorem lk_X10_304 : Cond.methodLink RX10 304 yX10_refuseLong ∈ lw_g := zw_mem 839 (by decide +kernel) rfl
theorem lk_X10_308 : Cond.methodLink RX10 308 yX2_commonDivisor ∈ lw_g := zw_mem 844 (by decide +kernel) rfl
theorem lk_L_137 : Cond.methodLink RL 137 yX10_lots ∈ lw_g := zw_mem 847 (by decide +kernel) rfl
theorem lk_X10_311 : Cond.methodLink RX10 311 yX7_drawLots ∈ lw_g := zw_mem 851 (by decide +kernel) rfl
theorem lk_X7_53 : Cond.methodLink RX7 53 yX7_draw ∈ lw_g := zw_mem 855 (by decide +kernel) rfl
theorem lk_X7_57 : Cond.methodLink RX7 57 yX7_valueOf ∈ lw_g := zw_mem 862 (by decide +kernel) rfl
theorem lk_L_141 : Cond.methodLink RL 141 yX10_list ∈ lw_g := zw_mem 863 (by decide +kernel) rfl
theorem lk_X10_315 : Cond.methodLink RX10 315 yX1_has ∈ lw_g := zw_mem 867 (by decide +kernel) rfl
theorem lk_X10_316 : Cond.methodLink RX10 316 yX1_make ∈ lw_g := zw_mem 871 (by decide +kernel) rfl
theorem lk_X1_18 : Cond.methodLink RX1 18 yX1_write ∈ lw_g := zw_mem 875 (by decide +kernel) rfl
theorem lk_L_145 : Cond.methodLink RL 145 yX10_put ∈ lw_g := zw_mem 879 (by decide +kernel) rfl
theorem lk_X10_319 : Cond.methodLink RX10 319 yX10_placeRefusal ∈ lw_g := zw_mem 883 (by decide +kernel) rfl
theorem lk_X10_334 : Cond.methodLink RX10 334 yX1_isMissing ∈ lw_g := zw_mem 887 (by decide +kernel) rfl
theorem lk_X10_359 : Cond.methodLink RX10 359 yX1_hasPlace ∈ lw_g := zw_mem 891 (by decide +kernel) rfl
theorem lk_X10_322 : Cond.methodLink RX10 322 yX1_write ∈ lw_g := zw_mem 895 (by decide +kernel) rfl
theorem lk_L_149 : Cond.methodLink RL 149 yX10_look ∈ lw_g := zw_mem 896 (by decide +kernel) rfl
theorem lk_X10_327 : Cond.methodLink RX10 327 yX1_readAt ∈ lw_g := zw_mem 900 (by decide +kernel) rfl
theorem lk_L_153 : Cond.methodLink RL 153 yX10_lays ∈ lw_g := zw_mem 904 (by decide +kernel) rfl
theorem lk_X10_330 : Cond.methodLink RX10 330 yX1_lay ∈ lw_g := zw_mem 908 (by decide +kernel) rfl
theorem lk_X1_22 : Cond.methodLink RX1 22 yX1_hasPlace ∈ lw_g := zw_mem 912 (by decide +kernel) rfl
theorem lk_L_158 : Cond.methodLink RL 158 yX10_judge ∈ lw_g := zw_mem 913 (by decide +kernel) rfl
theorem lk_X10_337 : Cond.methodLink RX10 337 yX1_firstUnlike ∈ lw_g := zw_mem 917 (by decide +kernel) rfl
theorem lk_X1_26 : Cond.methodLink RX1 26 yX1_readAt ∈ lw_g := zw_mem 921 (by decide +kernel) rfl
theorem lk_X1_30 : Cond.methodLink RX1 30 yJ9_floorMod_7cf53 ∈ lw_g := zw_mem 922 (by decide +kernel) rfl
theorem lk_L_162 : Cond.methodLink RL 162 yX10_undo ∈ lw_g := zw_mem 923 (by decide +kernel) rfl
theorem lk_X10_342 : Cond.methodLink RX10 342 yX3_takeBack ∈ lw_g := zw_mem 927 (by decide +kernel) rfl
theorem lk_X3_32 : Cond.methodLink RX3 32 yX8_has ∈ lw_g := zw_mem 931 (by decide +kernel) rfl
theorem lk_X3_45 : Cond.methodLink RX3 45 yX4_become ∈ lw_g := zw_mem 932 (by decide +kernel) rfl
theorem lk_X3_51 : Cond.methodLink RX3 51 yX4_tell ∈ lw_g := zw_mem 933 (by decide +kernel) rfl
theorem lk_L_166 : Cond.methodLink RL 166 yX10_image ∈ lw_g := zw_mem 934 (by decide +kernel) rfl
theorem lk_X10_346 : Cond.methodLink RX10 346 yX8_copyFrom ∈ lw_g := zw_mem 938 (by decide +kernel) rfl
theorem lk_X8_32 : Cond.methodLink RX8 32 yX4_copyFrom ∈ lw_g := zw_mem 942 (by decide +kernel) rfl
theorem lk_X4_25 : Cond.methodLink RX4 25 arraycopyName ∈ lw_g := zw_mem 946 (by decide +kernel) rfl
theorem lk_L_170 : Cond.methodLink RL 170 yX10_on ∈ lw_g := zw_mem 947 (by decide +kernel) rfl
theorem lk_L_174 : Cond.methodLink RL 174 yX10_count ∈ lw_g := zw_mem 951 (by decide +kernel) rfl
theorem lk_X10_349 : Cond.methodLink RX10 349 yX8_termsOfAll ∈ lw_g := zw_mem 955 (by decide +kernel) rfl
theorem lk_X8_36 : Cond.methodLink RX8 36 yX4_howManyTerms ∈ lw_g := zw_mem 959 (by decide +kernel) rfl
theorem lk_X10_353 : Cond.methodLink RX10 353 yX8_noughtBits ∈ lw_g := zw_mem 960 (by decide +kernel) rfl
theorem lk_X8_40 : Cond.methodLink RX8 40 yX4_isNought ∈ lw_g := zw_mem 964 (by decide +kernel) rfl
theorem lk_L_12 : Cond.methodLink RL 12 yX11_init ∈ lw_g := zw_mem 967 (by decide +kernel) rfl
theorem lk_X11_25 : Cond.methodLink RX11 25 objectInit ∈ lw_g := zw_mem 970 (by decide +kernel) rfl
theorem lk_L_165 : Cond.methodLink RL 165 yX11_undo ∈ lw_g := zw_mem 1081 (by decide +kernel) rfl
theorem lk_X11_120 : Cond.methodLink RX11 120 yX11_no ∈ lw_g := zw_mem 1085 (by decide +kernel) rfl
theorem lk_L_17 : Cond.methodLink RL 17 yX11_letter ∈ lw_g := zw_mem 1089 (by decide +kernel) rfl
theorem lk_L_22 : Cond.methodLink RL 22 yX11_poly ∈ lw_g := zw_mem 1093 (by decide +kernel) rfl
theorem lk_X11_144 : Cond.methodLink RX11 144 yX11_readsAll ∈ lw_g := zw_mem 1097 (by decide +kernel) rfl
theorem lk_X11_129 : Cond.methodLink RX11 129 yX11_next ∈ lw_g := zw_mem 1101 (by decide +kernel) rfl
theorem lk_X11_140 : Cond.methodLink RX11 140 yX11_readsTerm ∈ lw_g := zw_mem 1105 (by decide +kernel) rfl
theorem lk_X11_133 : Cond.methodLink RX11 133 yX11_isDigit ∈ lw_g := zw_mem 1109 (by decide +kernel) rfl
theorem lk_X11_21 : Cond.methodLink RX11 21 yX11_isIn ∈ lw_g := zw_mem 1113 (by decide +kernel) rfl
theorem lk_X11_137 : Cond.methodLink RX11 137 yX11_readsPower ∈ lw_g := zw_mem 1116 (by decide +kernel) rfl
theorem lk_X11_13 : Cond.methodLink RX11 13 yX11_rest ∈ lw_g := zw_mem 1120 (by decide +kernel) rfl
theorem lk_X11_147 : Cond.methodLink RX11 147 yX11_comes ∈ lw_g := zw_mem 1124 (by decide +kernel) rfl
theorem lk_L_26 : Cond.methodLink RL 26 yX11_drop ∈ lw_g := zw_mem 1128 (by decide +kernel) rfl
theorem lk_L_30 : Cond.methodLink RL 30 yX11_prime ∈ lw_g := zw_mem 1132 (by decide +kernel) rfl
theorem lk_X11_150 : Cond.methodLink RX11 150 yX11_isPrime ∈ lw_g := zw_mem 1136 (by decide +kernel) rfl
theorem lk_L_35 : Cond.methodLink RL 35 yX11_turn ∈ lw_g := zw_mem 1139 (by decide +kernel) rfl
theorem lk_X11_154 : Cond.methodLink RX11 154 yX11_isPoly ∈ lw_g := zw_mem 1143 (by decide +kernel) rfl
theorem lk_X11_157 : Cond.methodLink RX11 157 yX11_notes ∈ lw_g := zw_mem 1147 (by decide +kernel) rfl
theorem lk_L_40 : Cond.methodLink RL 40 yX11_change ∈ lw_g := zw_mem 1151 (by decide +kernel) rfl
theorem lk_X11_161 : Cond.methodLink RX11 161 yX11_notPowers ∈ lw_g := zw_mem 1155 (by decide +kernel) rfl
theorem lk_L_44 : Cond.methodLink RL 44 yX11_coefficient ∈ lw_g := zw_mem 1159 (by decide +kernel) rfl
theorem lk_X11_108 : Cond.methodLink RX11 108 yX11_coefficientOf ∈ lw_g := zw_mem 1163 (by decide +kernel) rfl
theorem lk_X11_102 : Cond.methodLink RX11 102 yX11_evenOf ∈ lw_g := zw_mem 1167 (by decide +kernel) rfl
theorem lk_X11_98 : Cond.methodLink RX11 98 yX11_toldOf ∈ lw_g := zw_mem 1171 (by decide +kernel) rfl
theorem lk_X11_105 : Cond.methodLink RX11 105 yX11_shiftedOf ∈ lw_g := zw_mem 1175 (by decide +kernel) rfl
theorem lk_X11_17 : Cond.methodLink RX11 17 yX11_power ∈ lw_g := zw_mem 1179 (by decide +kernel) rfl
theorem lk_L_49 : Cond.methodLink RL 49 yX11_of ∈ lw_g := zw_mem 1183 (by decide +kernel) rfl
theorem lk_X11_114 : Cond.methodLink RX11 114 yX11_degreeOf ∈ lw_g := zw_mem 1187 (by decide +kernel) rfl
theorem lk_X11_111 : Cond.methodLink RX11 111 yX11_isTerm ∈ lw_g := zw_mem 1191 (by decide +kernel) rfl
theorem lk_X11_164 : Cond.methodLink RX11 164 yX11_termsOf ∈ lw_g := zw_mem 1195 (by decide +kernel) rfl
theorem lk_L_53 : Cond.methodLink RL 53 yX11_term ∈ lw_g := zw_mem 1199 (by decide +kernel) rfl
theorem lk_L_57 : Cond.methodLink RL 57 yX11_value ∈ lw_g := zw_mem 1203 (by decide +kernel) rfl
theorem lk_X11_167 : Cond.methodLink RX11 167 yX11_valueAt ∈ lw_g := zw_mem 1207 (by decide +kernel) rfl
theorem lk_L_61 : Cond.methodLink RL 61 yX11_rows ∈ lw_g := zw_mem 1211 (by decide +kernel) rfl
theorem lk_X11_176 : Cond.methodLink RX11 176 yX11_notTable ∈ lw_g := zw_mem 1215 (by decide +kernel) rfl
theorem lk_X11_170 : Cond.methodLink RX11 170 yX11_notTwo ∈ lw_g := zw_mem 1219 (by decide +kernel) rfl
theorem lk_X11_173 : Cond.methodLink RX11 173 yX11_isNought ∈ lw_g := zw_mem 1223 (by decide +kernel) rfl
theorem lk_X11_217 : Cond.methodLink RX11 217 yX11_fills ∈ lw_g := zw_mem 1227 (by decide +kernel) rfl
theorem lk_X11_201 : Cond.methodLink RX11 201 yX11_takes ∈ lw_g := zw_mem 1231 (by decide +kernel) rfl
theorem lk_X11_205 : Cond.methodLink RX11 205 yX11_fillsSylvester ∈ lw_g := zw_mem 1235 (by decide +kernel) rfl
theorem lk_X11_189 : Cond.methodLink RX11 189 yX11_oneAt ∈ lw_g := zw_mem 1239 (by decide +kernel) rfl
theorem lk_X11_192 : Cond.methodLink RX11 192 yX11_twoAt ∈ lw_g := zw_mem 1243 (by decide +kernel) rfl
theorem lk_X11_208 : Cond.methodLink RX11 208 yX11_fillsBezout ∈ lw_g := zw_mem 1247 (by decide +kernel) rfl
theorem lk_X11_198 : Cond.methodLink RX11 198 yX11_bezoutAt ∈ lw_g := zw_mem 1251 (by decide +kernel) rfl
theorem lk_X11_195 : Cond.methodLink RX11 195 yX11_productAt ∈ lw_g := zw_mem 1255 (by decide +kernel) rfl
theorem lk_L_66 : Cond.methodLink RL 66 yX11_entry ∈ lw_g := zw_mem 1259 (by decide +kernel) rfl
theorem lk_L_71 : Cond.methodLink RL 71 yX11_result ∈ lw_g := zw_mem 1263 (by decide +kernel) rfl
theorem lk_X11_224 : Cond.methodLink RX11 224 yX11_results ∈ lw_g := zw_mem 1267 (by decide +kernel) rfl
theorem lk_X11_221 : Cond.methodLink RX11 221 yX11_determinant ∈ lw_g := zw_mem 1271 (by decide +kernel) rfl
theorem lk_X11_214 : Cond.methodLink RX11 214 yX11_addsColumn ∈ lw_g := zw_mem 1275 (by decide +kernel) rfl
theorem lk_X11_211 : Cond.methodLink RX11 211 yX11_bits ∈ lw_g := zw_mem 1279 (by decide +kernel) rfl
theorem lk_L_75 : Cond.methodLink RL 75 yX11_degree ∈ lw_g := zw_mem 1282 (by decide +kernel) rfl
theorem lk_L_79 : Cond.methodLink RL 79 yX11_at ∈ lw_g := zw_mem 1286 (by decide +kernel) rfl
theorem lk_X11_227 : Cond.methodLink RX11 227 yX11_resultAt ∈ lw_g := zw_mem 1290 (by decide +kernel) rfl
theorem lk_L_83 : Cond.methodLink RL 83 yX11_remainder ∈ lw_g := zw_mem 1294 (by decide +kernel) rfl
theorem lk_X11_251 : Cond.methodLink RX11 251 yX11_notBoth ∈ lw_g := zw_mem 1298 (by decide +kernel) rfl
theorem lk_X11_254 : Cond.methodLink RX11 254 yX11_standsAt ∈ lw_g := zw_mem 1302 (by decide +kernel) rfl
theorem lk_X11_230 : Cond.methodLink RX11 230 yX11_deepOf ∈ lw_g := zw_mem 1306 (by decide +kernel) rfl
theorem lk_X11_258 : Cond.methodLink RX11 258 yX11_remains ∈ lw_g := zw_mem 1309 (by decide +kernel) rfl
theorem lk_X11_243 : Cond.methodLink RX11 243 yX11_takesLeft ∈ lw_g := zw_mem 1313 (by decide +kernel) rfl
theorem lk_X11_247 : Cond.methodLink RX11 247 yX11_divides ∈ lw_g := zw_mem 1317 (by decide +kernel) rfl
theorem lk_X11_240 : Cond.methodLink RX11 240 yX11_inverse ∈ lw_g := zw_mem 1321 (by decide +kernel) rfl
theorem lk_L_87 : Cond.methodLink RL 87 yX11_common ∈ lw_g := zw_mem 1325 (by decide +kernel) rfl
theorem lk_X11_261 : Cond.methodLink RX11 261 yX11_notAt ∈ lw_g := zw_mem 1329 (by decide +kernel) rfl
theorem lk_L_91 : Cond.methodLink RL 91 yX11_norm ∈ lw_g := zw_mem 1333 (by decide +kernel) rfl
theorem lk_L_95 : Cond.methodLink RL 95 yX11_extra ∈ lw_g := zw_mem 1337 (by decide +kernel) rfl
theorem lk_L_99 : Cond.methodLink RL 99 yX11_zeros ∈ lw_g := zw_mem 1341 (by decide +kernel) rfl
theorem lk_L_103 : Cond.methodLink RL 103 yX11_lifted ∈ lw_g := zw_mem 1345 (by decide +kernel) rfl
theorem lk_X11_264 : Cond.methodLink RX11 264 yX11_isRoot ∈ lw_g := zw_mem 1349 (by decide +kernel) rfl
theorem lk_L_107 : Cond.methodLink RL 107 yX11_root ∈ lw_g := zw_mem 1353 (by decide +kernel) rfl
theorem lk_L_111 : Cond.methodLink RL 111 yX11_without ∈ lw_g := zw_mem 1357 (by decide +kernel) rfl
theorem lk_L_115 : Cond.methodLink RL 115 yX11_corner ∈ lw_g := zw_mem 1361 (by decide +kernel) rfl
theorem lk_X11_286 : Cond.methodLink RX11 286 yX11_wrapsOne ∈ lw_g := zw_mem 1365 (by decide +kernel) rfl
theorem lk_X11_280 : Cond.methodLink RX11 280 yX11_clears ∈ lw_g := zw_mem 1369 (by decide +kernel) rfl
theorem lk_X11_283 : Cond.methodLink RX11 283 yX11_wraps ∈ lw_g := zw_mem 1373 (by decide +kernel) rfl
theorem lk_X11_277 : Cond.methodLink RX11 277 yX11_behind ∈ lw_g := zw_mem 1377 (by decide +kernel) rfl
theorem lk_X11_268 : Cond.methodLink RX11 268 yX11_turns ∈ lw_g := zw_mem 1381 (by decide +kernel) rfl
theorem lk_X11_271 : Cond.methodLink RX11 271 yX11_far ∈ lw_g := zw_mem 1384 (by decide +kernel) rfl
theorem lk_X11_289 : Cond.methodLink RX11 289 yX11_cornerAt ∈ lw_g := zw_mem 1387 (by decide +kernel) rfl
theorem lk_L_119 : Cond.methodLink RL 119 yX11_area ∈ lw_g := zw_mem 1391 (by decide +kernel) rfl
theorem lk_X11_295 : Cond.methodLink RX11 295 yX11_areaOf ∈ lw_g := zw_mem 1395 (by decide +kernel) rfl
theorem lk_X11_292 : Cond.methodLink RX11 292 yX11_areaNow ∈ lw_g := zw_mem 1399 (by decide +kernel) rfl
theorem lk_L_123 : Cond.methodLink RL 123 yX11_sum ∈ lw_g := zw_mem 1403 (by decide +kernel) rfl
theorem lk_X11_298 : Cond.methodLink RX11 298 yX11_wrapsSum ∈ lw_g := zw_mem 1407 (by decide +kernel) rfl
theorem lk_L_127 : Cond.methodLink RL 127 yX11_mixed ∈ lw_g := zw_mem 1411 (by decide +kernel) rfl
theorem lk_L_131 : Cond.methodLink RL 131 yX11_product ∈ lw_g := zw_mem 1415 (by decide +kernel) rfl
theorem lk_X11_301 : Cond.methodLink RX11 301 yX11_multiplies ∈ lw_g := zw_mem 1419 (by decide +kernel) rfl
theorem lk_L_136 : Cond.methodLink RL 136 yX11_odds ∈ lw_g := zw_mem 1423 (by decide +kernel) rfl
theorem lk_X11_305 : Cond.methodLink RX11 305 yX11_lowest ∈ lw_g := zw_mem 1427 (by decide +kernel) rfl
theorem lk_X11_309 : Cond.methodLink RX11 309 yX11_divisor ∈ lw_g := zw_mem 1432 (by decide +kernel) rfl
theorem lk_L_140 : Cond.methodLink RL 140 yX11_lots ∈ lw_g := zw_mem 1435 (by decide +kernel) rfl
theorem lk_X11_319 : Cond.methodLink RX11 319 yX11_draw ∈ lw_g := zw_mem 1439 (by decide +kernel) rfl
theorem lk_L_144 : Cond.methodLink RL 144 yX11_list ∈ lw_g := zw_mem 1446 (by decide +kernel) rfl
theorem lk_X11_322 : Cond.methodLink RX11 322 yX11_isList ∈ lw_g := zw_mem 1450 (by decide +kernel) rfl
theorem lk_L_148 : Cond.methodLink RL 148 yX11_put ∈ lw_g := zw_mem 1453 (by decide +kernel) rfl
theorem lk_X11_325 : Cond.methodLink RX11 325 yX11_notPlace ∈ lw_g := zw_mem 1457 (by decide +kernel) rfl
theorem lk_L_152 : Cond.methodLink RL 152 yX11_look ∈ lw_g := zw_mem 1461 (by decide +kernel) rfl
theorem lk_L_157 : Cond.methodLink RL 157 yX11_lays ∈ lw_g := zw_mem 1465 (by decide +kernel) rfl
theorem lk_X11_328 : Cond.methodLink RX11 328 yX11_notListed ∈ lw_g := zw_mem 1469 (by decide +kernel) rfl
theorem lk_L_161 : Cond.methodLink RL 161 yX11_judge ∈ lw_g := zw_mem 1473 (by decide +kernel) rfl
theorem lk_L_169 : Cond.methodLink RL 169 yX11_image ∈ lw_g := zw_mem 1477 (by decide +kernel) rfl
theorem lk_X11_342 : Cond.methodLink RX11 342 yX11_passesAll ∈ lw_g := zw_mem 1481 (by decide +kernel) rfl
theorem lk_X11_339 : Cond.methodLink RX11 339 yX11_passOne ∈ lw_g := zw_mem 1485 (by decide +kernel) rfl
theorem lk_L_173 : Cond.methodLink RL 173 yX11_on ∈ lw_g := zw_mem 1489 (by decide +kernel) rfl
theorem lk_L_177 : Cond.methodLink RL 177 yX11_count ∈ lw_g := zw_mem 1493 (by decide +kernel) rfl
theorem kc_J6_265 : Cond.constant RJ6 265 1431655765 ∈ lw_g := zw_mem 646 (by decide +kernel) rfl
theorem kc_J6_266 : Cond.constant RJ6 266 858993459 ∈ lw_g := zw_mem 647 (by decide +kernel) rfl
theorem kc_J6_267 : Cond.constant RJ6 267 252645135 ∈ lw_g := zw_mem 648 (by decide +kernel) rfl
theorem kc_X7_61 : Cond.constant RX7 61 1664525 ∈ lw_g := zw_mem 859 (by decide +kernel) rfl
theorem kc_X7_62 : Cond.constant RX7 62 1013904223 ∈ lw_g := zw_mem 860 (by decide +kernel) rfl
theorem kc_X7_63 : Cond.constant RX7 63 2147483647 ∈ lw_g := zw_mem 861 (by decide +kernel) rfl
theorem kc_X11_316 : Cond.constant RX11 316 1664525 ∈ lw_g := zw_mem 1443 (by decide +kernel) rfl
theorem kc_X11_317 : Cond.constant RX11 317 1013904223 ∈ lw_g := zw_mem 1444 (by decide +kernel) rfl
theorem kc_X11_318 : Cond.constant RX11 318 2147483647 ∈ lw_g := zw_mem 1445 (by decide +kernel) rfl
theorem kc_X10_325 : Cond.constantLong RX10 325 4000000000000000000 ∈ lw_g := zw_mem 843 (by decide +kernel) rfl
theorem kc_X11_7 : Cond.constantLong RX11 7 4000000000000000000 ∈ lw_g := zw_mem 1431 (by decide +kernel) rfl

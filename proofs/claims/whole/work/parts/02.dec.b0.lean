theorem dd_X10_init_0 : decode (zc mm_X10_init) 0 = .ok (.aload_n 0, 1) := by decide +kernel
theorem dd_X10_init_1 : decode (zc mm_X10_init) 1 = .ok (.invokespecial 3, 3) := by decide +kernel
theorem dd_X10_init_4 : decode (zc mm_X10_init) 4 = .ok (.aload_n 0, 1) := by decide +kernel
theorem dd_X10_init_5 : decode (zc mm_X10_init) 5 = .ok (.new 9, 3) := by decide +kernel
theorem dd_X10_init_8 : decode (zc mm_X10_init) 8 = .ok (.dup, 1) := by decide +kernel
theorem dd_X10_init_9 : decode (zc mm_X10_init) 9 = .ok (.invokespecial 11, 3) := by decide +kernel
theorem dd_X10_init_12 : decode (zc mm_X10_init) 12 = .ok (.putfield 12, 3) := by decide +kernel
theorem dd_X10_init_15 : decode (zc mm_X10_init) 15 = .ok (.aload_n 0, 1) := by decide +kernel
theorem dd_X10_init_16 : decode (zc mm_X10_init) 16 = .ok (.new 9, 3) := by decide +kernel
theorem dd_X10_init_19 : decode (zc mm_X10_init) 19 = .ok (.dup, 1) := by decide +kernel
theorem dd_X10_init_20 : decode (zc mm_X10_init) 20 = .ok (.invokespecial 11, 3) := by decide +kernel
theorem dd_X10_init_23 : decode (zc mm_X10_init) 23 = .ok (.putfield 16, 3) := by decide +kernel
theorem dd_X10_init_26 : decode (zc mm_X10_init) 26 = .ok (.aload_n 0, 1) := by decide +kernel
theorem dd_X10_init_27 : decode (zc mm_X10_init) 27 = .ok (.new 19, 3) := by decide +kernel
theorem dd_X10_init_30 : decode (zc mm_X10_init) 30 = .ok (.dup, 1) := by decide +kernel
theorem dd_X10_init_31 : decode (zc mm_X10_init) 31 = .ok (.invokespecial 21, 3) := by decide +kernel
theorem dd_X10_init_34 : decode (zc mm_X10_init) 34 = .ok (.putfield 22, 3) := by decide +kernel
theorem dd_X10_init_37 : decode (zc mm_X10_init) 37 = .ok (.aload_n 0, 1) := by decide +kernel
theorem dd_X10_init_38 : decode (zc mm_X10_init) 38 = .ok (.new 26, 3) := by decide +kernel
theorem dd_X10_init_41 : decode (zc mm_X10_init) 41 = .ok (.dup, 1) := by decide +kernel
theorem dd_X10_init_42 : decode (zc mm_X10_init) 42 = .ok (.invokespecial 28, 3) := by decide +kernel
theorem dd_X10_init_45 : decode (zc mm_X10_init) 45 = .ok (.putfield 29, 3) := by decide +kernel
theorem dd_X10_init_48 : decode (zc mm_X10_init) 48 = .ok (.aload_n 0, 1) := by decide +kernel
theorem dd_X10_init_49 : decode (zc mm_X10_init) 49 = .ok (.new 33, 3) := by decide +kernel
theorem dd_X10_init_52 : decode (zc mm_X10_init) 52 = .ok (.dup, 1) := by decide +kernel
theorem dd_X10_init_53 : decode (zc mm_X10_init) 53 = .ok (.invokespecial 35, 3) := by decide +kernel
theorem dd_X10_init_56 : decode (zc mm_X10_init) 56 = .ok (.putfield 36, 3) := by decide +kernel
theorem dd_X10_init_59 : decode (zc mm_X10_init) 59 = .ok (.aload_n 0, 1) := by decide +kernel
theorem dd_X10_init_60 : decode (zc mm_X10_init) 60 = .ok (.new 40, 3) := by decide +kernel
theorem dd_X10_init_63 : decode (zc mm_X10_init) 63 = .ok (.dup, 1) := by decide +kernel
theorem dd_X10_init_64 : decode (zc mm_X10_init) 64 = .ok (.invokespecial 42, 3) := by decide +kernel
theorem dd_X10_init_67 : decode (zc mm_X10_init) 67 = .ok (.putfield 43, 3) := by decide +kernel
theorem dd_X10_init_70 : decode (zc mm_X10_init) 70 = .ok (.aload_n 0, 1) := by decide +kernel
theorem dd_X10_init_71 : decode (zc mm_X10_init) 71 = .ok (.new 47, 3) := by decide +kernel
theorem dd_X10_init_74 : decode (zc mm_X10_init) 74 = .ok (.dup, 1) := by decide +kernel
theorem dd_X10_init_75 : decode (zc mm_X10_init) 75 = .ok (.invokespecial 49, 3) := by decide +kernel
theorem dd_X10_init_78 : decode (zc mm_X10_init) 78 = .ok (.putfield 50, 3) := by decide +kernel
theorem dd_X10_init_81 : decode (zc mm_X10_init) 81 = .ok (.aload_n 0, 1) := by decide +kernel
theorem dd_X10_init_82 : decode (zc mm_X10_init) 82 = .ok (.new 54, 3) := by decide +kernel
theorem dd_X10_init_85 : decode (zc mm_X10_init) 85 = .ok (.dup, 1) := by decide +kernel
theorem dd_X10_init_86 : decode (zc mm_X10_init) 86 = .ok (.invokespecial 56, 3) := by decide +kernel
theorem dd_X10_init_89 : decode (zc mm_X10_init) 89 = .ok (.putfield 57, 3) := by decide +kernel
theorem dd_X10_init_92 : decode (zc mm_X10_init) 92 = .ok (.aload_n 0, 1) := by decide +kernel
theorem dd_X10_init_93 : decode (zc mm_X10_init) 93 = .ok (.new 61, 3) := by decide +kernel
theorem dd_X10_init_96 : decode (zc mm_X10_init) 96 = .ok (.dup, 1) := by decide +kernel
theorem dd_X10_init_97 : decode (zc mm_X10_init) 97 = .ok (.invokespecial 63, 3) := by decide +kernel
theorem dd_X10_init_100 : decode (zc mm_X10_init) 100 = .ok (.putfield 64, 3) := by decide +kernel
theorem dd_X10_init_103 : decode (zc mm_X10_init) 103 = .ok (.aload_n 0, 1) := by decide +kernel
theorem dd_X10_init_104 : decode (zc mm_X10_init) 104 = .ok (.bipush 7, 2) := by decide +kernel
theorem dd_X10_init_106 : decode (zc mm_X10_init) 106 = .ok (.newarray .int, 2) := by decide +kernel
theorem dd_X10_init_108 : decode (zc mm_X10_init) 108 = .ok (.putfield 68, 3) := by decide +kernel
theorem dd_X10_init_111 : decode (zc mm_X10_init) 111 = .ok (.aload_n 0, 1) := by decide +kernel
theorem dd_X10_init_112 : decode (zc mm_X10_init) 112 = .ok (.iconst 0, 1) := by decide +kernel
theorem dd_X10_init_113 : decode (zc mm_X10_init) 113 = .ok (.putfield 72, 3) := by decide +kernel
theorem dd_X10_init_116 : decode (zc mm_X10_init) 116 = .ok (.return_, 1) := by decide +kernel
theorem dd_X10_letter_0 : decode (zc mm_X10_letter) 0 = .ok (.iload_n 1, 1) := by decide +kernel
theorem dd_X10_letter_1 : decode (zc mm_X10_letter) 1 = .ok (.ifCond .ge 10, 3) := by decide +kernel
theorem dd_X10_letter_4 : decode (zc mm_X10_letter) 4 = .ok (.aload_n 0, 1) := by decide +kernel
theorem dd_X10_letter_5 : decode (zc mm_X10_letter) 5 = .ok (.bipush (-4), 2) := by decide +kernel
theorem dd_X10_letter_7 : decode (zc mm_X10_letter) 7 = .ok (.invokevirtual 76, 3) := by decide +kernel
theorem dd_X10_letter_10 : decode (zc mm_X10_letter) 10 = .ok (.ireturn, 1) := by decide +kernel
theorem dd_X10_letter_11 : decode (zc mm_X10_letter) 11 = .ok (.iload_n 1, 1) := by decide +kernel
theorem dd_X10_letter_12 : decode (zc mm_X10_letter) 12 = .ok (.sipush 255, 3) := by decide +kernel
theorem dd_X10_letter_15 : decode (zc mm_X10_letter) 15 = .ok (.if_icmp .gt 13, 3) := by decide +kernel
theorem dd_X10_letter_18 : decode (zc mm_X10_letter) 18 = .ok (.aload_n 0, 1) := by decide +kernel
theorem dd_X10_letter_19 : decode (zc mm_X10_letter) 19 = .ok (.getfield 22, 3) := by decide +kernel
theorem dd_X10_letter_22 : decode (zc mm_X10_letter) 22 = .ok (.invokevirtual 80, 3) := by decide +kernel
theorem dd_X10_letter_25 : decode (zc mm_X10_letter) 25 = .ok (.ifCond .eq 10, 3) := by decide +kernel
theorem dd_X10_letter_28 : decode (zc mm_X10_letter) 28 = .ok (.aload_n 0, 1) := by decide +kernel
theorem dd_X10_letter_29 : decode (zc mm_X10_letter) 29 = .ok (.bipush (-6), 2) := by decide +kernel
theorem dd_X10_letter_31 : decode (zc mm_X10_letter) 31 = .ok (.invokevirtual 76, 3) := by decide +kernel
theorem dd_X10_letter_34 : decode (zc mm_X10_letter) 34 = .ok (.ireturn, 1) := by decide +kernel
theorem dd_X10_letter_35 : decode (zc mm_X10_letter) 35 = .ok (.aload_n 0, 1) := by decide +kernel
theorem dd_X10_letter_36 : decode (zc mm_X10_letter) 36 = .ok (.getfield 22, 3) := by decide +kernel
theorem dd_X10_letter_39 : decode (zc mm_X10_letter) 39 = .ok (.iload_n 1, 1) := by decide +kernel
theorem dd_X10_letter_40 : decode (zc mm_X10_letter) 40 = .ok (.invokevirtual 84, 3) := by decide +kernel
theorem dd_X10_letter_43 : decode (zc mm_X10_letter) 43 = .ok (.ireturn, 1) := by decide +kernel
theorem dd_X10_poly_0 : decode (zc mm_X10_poly) 0 = .ok (.aload_n 0, 1) := by decide +kernel
theorem dd_X10_poly_1 : decode (zc mm_X10_poly) 1 = .ok (.getfield 12, 3) := by decide +kernel
theorem dd_X10_poly_4 : decode (zc mm_X10_poly) 4 = .ok (.invokevirtual 87, 3) := by decide +kernel
theorem dd_X10_poly_7 : decode (zc mm_X10_poly) 7 = .ok (.ifCond .eq 10, 3) := by decide +kernel
theorem dd_X10_poly_10 : decode (zc mm_X10_poly) 10 = .ok (.aload_n 0, 1) := by decide +kernel
theorem dd_X10_poly_11 : decode (zc mm_X10_poly) 11 = .ok (.bipush (-6), 2) := by decide +kernel
theorem dd_X10_poly_13 : decode (zc mm_X10_poly) 13 = .ok (.invokevirtual 76, 3) := by decide +kernel
theorem dd_X10_poly_16 : decode (zc mm_X10_poly) 16 = .ok (.ireturn, 1) := by decide +kernel
theorem dd_X10_poly_17 : decode (zc mm_X10_poly) 17 = .ok (.aload_n 0, 1) := by decide +kernel
theorem dd_X10_poly_18 : decode (zc mm_X10_poly) 18 = .ok (.getfield 22, 3) := by decide +kernel
theorem dd_X10_poly_21 : decode (zc mm_X10_poly) 21 = .ok (.invokevirtual 88, 3) := by decide +kernel
theorem dd_X10_poly_24 : decode (zc mm_X10_poly) 24 = .ok (.istore_n 1, 1) := by decide +kernel
theorem dd_X10_poly_25 : decode (zc mm_X10_poly) 25 = .ok (.aload_n 0, 1) := by decide +kernel
theorem dd_X10_poly_26 : decode (zc mm_X10_poly) 26 = .ok (.getfield 22, 3) := by decide +kernel
theorem dd_X10_poly_29 : decode (zc mm_X10_poly) 29 = .ok (.invokevirtual 92, 3) := by decide +kernel
theorem dd_X10_poly_32 : decode (zc mm_X10_poly) 32 = .ok (.iload_n 1, 1) := by decide +kernel
theorem dd_X10_poly_33 : decode (zc mm_X10_poly) 33 = .ok (.ifCond .lt 9, 3) := by decide +kernel
theorem dd_X10_poly_36 : decode (zc mm_X10_poly) 36 = .ok (.sipush (-1000), 3) := by decide +kernel
theorem dd_X10_poly_39 : decode (zc mm_X10_poly) 39 = .ok (.iload_n 1, 1) := by decide +kernel
theorem dd_X10_poly_40 : decode (zc mm_X10_poly) 40 = .ok (.isub, 1) := by decide +kernel
theorem dd_X10_poly_41 : decode (zc mm_X10_poly) 41 = .ok (.ireturn, 1) := by decide +kernel
theorem dd_X10_poly_42 : decode (zc mm_X10_poly) 42 = .ok (.aload_n 0, 1) := by decide +kernel
theorem dd_X10_poly_43 : decode (zc mm_X10_poly) 43 = .ok (.getfield 29, 3) := by decide +kernel
theorem dd_X10_poly_46 : decode (zc mm_X10_poly) 46 = .ok (.invokevirtual 95, 3) := by decide +kernel
theorem dd_X10_poly_49 : decode (zc mm_X10_poly) 49 = .ok (.aload_n 0, 1) := by decide +kernel
theorem dd_X10_poly_50 : decode (zc mm_X10_poly) 50 = .ok (.getfield 12, 3) := by decide +kernel
theorem dd_X10_poly_53 : decode (zc mm_X10_poly) 53 = .ok (.invokevirtual 96, 3) := by decide +kernel
theorem dd_X10_poly_56 : decode (zc mm_X10_poly) 56 = .ok (.astore_n 2, 1) := by decide +kernel
theorem dd_X10_poly_57 : decode (zc mm_X10_poly) 57 = .ok (.aload_n 0, 1) := by decide +kernel
theorem dd_X10_poly_58 : decode (zc mm_X10_poly) 58 = .ok (.getfield 22, 3) := by decide +kernel
theorem dd_X10_poly_61 : decode (zc mm_X10_poly) 61 = .ok (.getfield 100, 3) := by decide +kernel
theorem dd_X10_poly_64 : decode (zc mm_X10_poly) 64 = .ok (.iconst 0, 1) := by decide +kernel
theorem dd_X10_poly_65 : decode (zc mm_X10_poly) 65 = .ok (.aload_n 2, 1) := by decide +kernel
theorem dd_X10_poly_66 : decode (zc mm_X10_poly) 66 = .ok (.getfield 103, 3) := by decide +kernel
theorem dd_X10_poly_69 : decode (zc mm_X10_poly) 69 = .ok (.iconst 0, 1) := by decide +kernel
theorem dd_X10_poly_70 : decode (zc mm_X10_poly) 70 = .ok (.aload_n 2, 1) := by decide +kernel
theorem dd_X10_poly_71 : decode (zc mm_X10_poly) 71 = .ok (.getfield 103, 3) := by decide +kernel
theorem dd_X10_poly_74 : decode (zc mm_X10_poly) 74 = .ok (.arraylength, 1) := by decide +kernel
theorem dd_X10_poly_75 : decode (zc mm_X10_poly) 75 = .ok (.invokestatic 108, 3) := by decide +kernel
theorem dd_X10_poly_78 : decode (zc mm_X10_poly) 78 = .ok (.aload_n 2, 1) := by decide +kernel
theorem dd_X10_poly_79 : decode (zc mm_X10_poly) 79 = .ok (.aload_n 0, 1) := by decide +kernel
theorem dd_X10_poly_80 : decode (zc mm_X10_poly) 80 = .ok (.getfield 12, 3) := by decide +kernel
theorem dd_X10_poly_83 : decode (zc mm_X10_poly) 83 = .ok (.getfield 114, 3) := by decide +kernel
theorem dd_X10_poly_86 : decode (zc mm_X10_poly) 86 = .ok (.invokevirtual 118, 3) := by decide +kernel
theorem dd_X10_poly_89 : decode (zc mm_X10_poly) 89 = .ok (.aload_n 0, 1) := by decide +kernel
theorem dd_X10_poly_90 : decode (zc mm_X10_poly) 90 = .ok (.getfield 12, 3) := by decide +kernel
theorem dd_X10_poly_93 : decode (zc mm_X10_poly) 93 = .ok (.getfield 122, 3) := by decide +kernel
theorem dd_X10_poly_96 : decode (zc mm_X10_poly) 96 = .ok (.iconst 1, 1) := by decide +kernel
theorem dd_X10_poly_97 : decode (zc mm_X10_poly) 97 = .ok (.isub, 1) := by decide +kernel
theorem dd_X10_poly_98 : decode (zc mm_X10_poly) 98 = .ok (.ireturn, 1) := by decide +kernel
theorem dd_X10_drop_0 : decode (zc mm_X10_drop) 0 = .ok (.aload_n 0, 1) := by decide +kernel
theorem dd_X10_drop_1 : decode (zc mm_X10_drop) 1 = .ok (.getfield 12, 3) := by decide +kernel
theorem dd_X10_drop_4 : decode (zc mm_X10_drop) 4 = .ok (.getfield 122, 3) := by decide +kernel
theorem dd_X10_drop_7 : decode (zc mm_X10_drop) 7 = .ok (.ifCond .ne 10, 3) := by decide +kernel
theorem dd_X10_drop_10 : decode (zc mm_X10_drop) 10 = .ok (.aload_n 0, 1) := by decide +kernel
theorem dd_X10_drop_11 : decode (zc mm_X10_drop) 11 = .ok (.bipush (-3), 2) := by decide +kernel
theorem dd_X10_drop_13 : decode (zc mm_X10_drop) 13 = .ok (.invokevirtual 76, 3) := by decide +kernel
theorem dd_X10_drop_16 : decode (zc mm_X10_drop) 16 = .ok (.ireturn, 1) := by decide +kernel
theorem dd_X10_drop_17 : decode (zc mm_X10_drop) 17 = .ok (.aload_n 0, 1) := by decide +kernel
theorem dd_X10_drop_18 : decode (zc mm_X10_drop) 18 = .ok (.getfield 29, 3) := by decide +kernel
theorem dd_X10_drop_21 : decode (zc mm_X10_drop) 21 = .ok (.invokevirtual 95, 3) := by decide +kernel
theorem dd_X10_drop_24 : decode (zc mm_X10_drop) 24 = .ok (.aload_n 0, 1) := by decide +kernel
theorem dd_X10_drop_25 : decode (zc mm_X10_drop) 25 = .ok (.getfield 12, 3) := by decide +kernel
theorem dd_X10_drop_28 : decode (zc mm_X10_drop) 28 = .ok (.dup, 1) := by decide +kernel
theorem dd_X10_drop_29 : decode (zc mm_X10_drop) 29 = .ok (.getfield 122, 3) := by decide +kernel
theorem dd_X10_drop_32 : decode (zc mm_X10_drop) 32 = .ok (.iconst 1, 1) := by decide +kernel
theorem dd_X10_drop_33 : decode (zc mm_X10_drop) 33 = .ok (.isub, 1) := by decide +kernel
theorem dd_X10_drop_34 : decode (zc mm_X10_drop) 34 = .ok (.putfield 122, 3) := by decide +kernel
theorem dd_X10_drop_37 : decode (zc mm_X10_drop) 37 = .ok (.aload_n 0, 1) := by decide +kernel
theorem dd_X10_drop_38 : decode (zc mm_X10_drop) 38 = .ok (.getfield 12, 3) := by decide +kernel
theorem dd_X10_drop_41 : decode (zc mm_X10_drop) 41 = .ok (.getfield 122, 3) := by decide +kernel
theorem dd_X10_drop_44 : decode (zc mm_X10_drop) 44 = .ok (.ireturn, 1) := by decide +kernel
theorem dd_X10_prime_0 : decode (zc mm_X10_prime) 0 = .ok (.iload_n 1, 1) := by decide +kernel
theorem dd_X10_prime_1 : decode (zc mm_X10_prime) 1 = .ok (.invokestatic 125, 3) := by decide +kernel
theorem dd_X10_prime_4 : decode (zc mm_X10_prime) 4 = .ok (.ifCond .ne 10, 3) := by decide +kernel
theorem dd_X10_prime_7 : decode (zc mm_X10_prime) 7 = .ok (.aload_n 0, 1) := by decide +kernel
theorem dd_X10_prime_8 : decode (zc mm_X10_prime) 8 = .ok (.bipush (-3), 2) := by decide +kernel
theorem dd_X10_prime_10 : decode (zc mm_X10_prime) 10 = .ok (.invokevirtual 76, 3) := by decide +kernel
theorem dd_X10_prime_13 : decode (zc mm_X10_prime) 13 = .ok (.ireturn, 1) := by decide +kernel
theorem dd_X10_prime_14 : decode (zc mm_X10_prime) 14 = .ok (.aload_n 0, 1) := by decide +kernel
theorem dd_X10_prime_15 : decode (zc mm_X10_prime) 15 = .ok (.getfield 29, 3) := by decide +kernel
theorem dd_X10_prime_18 : decode (zc mm_X10_prime) 18 = .ok (.invokevirtual 95, 3) := by decide +kernel
theorem dd_X10_prime_21 : decode (zc mm_X10_prime) 21 = .ok (.aload_n 0, 1) := by decide +kernel
theorem dd_X10_prime_22 : decode (zc mm_X10_prime) 22 = .ok (.getfield 12, 3) := by decide +kernel
theorem dd_X10_prime_25 : decode (zc mm_X10_prime) 25 = .ok (.getfield 114, 3) := by decide +kernel
theorem dd_X10_prime_28 : decode (zc mm_X10_prime) 28 = .ok (.istore_n 2, 1) := by decide +kernel
theorem dd_X10_prime_29 : decode (zc mm_X10_prime) 29 = .ok (.aload_n 0, 1) := by decide +kernel
theorem dd_X10_prime_30 : decode (zc mm_X10_prime) 30 = .ok (.getfield 12, 3) := by decide +kernel
theorem dd_X10_prime_33 : decode (zc mm_X10_prime) 33 = .ok (.iload_n 1, 1) := by decide +kernel
theorem dd_X10_prime_34 : decode (zc mm_X10_prime) 34 = .ok (.invokevirtual 131, 3) := by decide +kernel
theorem dd_X10_prime_37 : decode (zc mm_X10_prime) 37 = .ok (.iload_n 2, 1) := by decide +kernel
theorem dd_X10_prime_38 : decode (zc mm_X10_prime) 38 = .ok (.ireturn, 1) := by decide +kernel
theorem dd_X10_turn_0 : decode (zc mm_X10_turn) 0 = .ok (.aload_n 0, 1) := by decide +kernel
theorem dd_X10_turn_1 : decode (zc mm_X10_turn) 1 = .ok (.getfield 12, 3) := by decide +kernel
theorem dd_X10_turn_4 : decode (zc mm_X10_turn) 4 = .ok (.iload_n 1, 1) := by decide +kernel
theorem dd_X10_turn_5 : decode (zc mm_X10_turn) 5 = .ok (.invokevirtual 132, 3) := by decide +kernel
theorem dd_X10_turn_8 : decode (zc mm_X10_turn) 8 = .ok (.ifCond .ne 9, 3) := by decide +kernel
theorem dd_X10_turn_11 : decode (zc mm_X10_turn) 11 = .ok (.aload_n 0, 1) := by decide +kernel
theorem dd_X10_turn_12 : decode (zc mm_X10_turn) 12 = .ok (.iconst (-1), 1) := by decide +kernel
theorem dd_X10_turn_13 : decode (zc mm_X10_turn) 13 = .ok (.invokevirtual 76, 3) := by decide +kernel
theorem dd_X10_turn_16 : decode (zc mm_X10_turn) 16 = .ok (.ireturn, 1) := by decide +kernel
theorem dd_X10_turn_17 : decode (zc mm_X10_turn) 17 = .ok (.iload_n 2, 1) := by decide +kernel
theorem dd_X10_turn_18 : decode (zc mm_X10_turn) 18 = .ok (.ifCond .lt 8, 3) := by decide +kernel
theorem dd_X10_turn_21 : decode (zc mm_X10_turn) 21 = .ok (.iload_n 2, 1) := by decide +kernel
theorem dd_X10_turn_22 : decode (zc mm_X10_turn) 22 = .ok (.iconst 5, 1) := by decide +kernel
theorem dd_X10_turn_23 : decode (zc mm_X10_turn) 23 = .ok (.if_icmp .le 10, 3) := by decide +kernel
theorem dd_X10_turn_26 : decode (zc mm_X10_turn) 26 = .ok (.aload_n 0, 1) := by decide +kernel
theorem dd_X10_turn_27 : decode (zc mm_X10_turn) 27 = .ok (.bipush (-2), 2) := by decide +kernel
theorem dd_X10_turn_29 : decode (zc mm_X10_turn) 29 = .ok (.invokevirtual 76, 3) := by decide +kernel
theorem dd_X10_turn_32 : decode (zc mm_X10_turn) 32 = .ok (.ireturn, 1) := by decide +kernel
theorem dd_X10_turn_33 : decode (zc mm_X10_turn) 33 = .ok (.iload_n 3, 1) := by decide +kernel
theorem dd_X10_turn_34 : decode (zc mm_X10_turn) 34 = .ok (.ifCond .ge 10, 3) := by decide +kernel
theorem dd_X10_turn_37 : decode (zc mm_X10_turn) 37 = .ok (.aload_n 0, 1) := by decide +kernel
theorem dd_X10_turn_38 : decode (zc mm_X10_turn) 38 = .ok (.bipush (-4), 2) := by decide +kernel
theorem dd_X10_turn_40 : decode (zc mm_X10_turn) 40 = .ok (.invokevirtual 76, 3) := by decide +kernel
theorem dd_X10_turn_43 : decode (zc mm_X10_turn) 43 = .ok (.ireturn, 1) := by decide +kernel
theorem dd_X10_turn_44 : decode (zc mm_X10_turn) 44 = .ok (.iload_n 3, 1) := by decide +kernel
theorem dd_X10_turn_45 : decode (zc mm_X10_turn) 45 = .ok (.bipush 9, 2) := by decide +kernel
theorem dd_X10_turn_47 : decode (zc mm_X10_turn) 47 = .ok (.if_icmp .le 10, 3) := by decide +kernel
theorem dd_X10_turn_50 : decode (zc mm_X10_turn) 50 = .ok (.aload_n 0, 1) := by decide +kernel
theorem dd_X10_turn_51 : decode (zc mm_X10_turn) 51 = .ok (.bipush (-6), 2) := by decide +kernel
theorem dd_X10_turn_53 : decode (zc mm_X10_turn) 53 = .ok (.invokevirtual 76, 3) := by decide +kernel
theorem dd_X10_turn_56 : decode (zc mm_X10_turn) 56 = .ok (.ireturn, 1) := by decide +kernel
theorem dd_X10_turn_57 : decode (zc mm_X10_turn) 57 = .ok (.aload_n 0, 1) := by decide +kernel
theorem dd_X10_turn_58 : decode (zc mm_X10_turn) 58 = .ok (.getfield 12, 3) := by decide +kernel
theorem dd_X10_turn_61 : decode (zc mm_X10_turn) 61 = .ok (.getfield 135, 3) := by decide +kernel
theorem dd_X10_turn_64 : decode (zc mm_X10_turn) 64 = .ok (.iload_n 1, 1) := by decide +kernel
theorem dd_X10_turn_65 : decode (zc mm_X10_turn) 65 = .ok (.aaload, 1) := by decide +kernel
theorem dd_X10_turn_66 : decode (zc mm_X10_turn) 66 = .ok (.astore 4, 2) := by decide +kernel
theorem dd_X10_turn_68 : decode (zc mm_X10_turn) 68 = .ok (.bipush 10, 2) := by decide +kernel
theorem dd_X10_turn_70 : decode (zc mm_X10_turn) 70 = .ok (.aload 4, 2) := by decide +kernel
theorem dd_X10_turn_72 : decode (zc mm_X10_turn) 72 = .ok (.getfield 139, 3) := by decide +kernel
theorem dd_X10_turn_75 : decode (zc mm_X10_turn) 75 = .ok (.imul, 1) := by decide +kernel
theorem dd_X10_turn_76 : decode (zc mm_X10_turn) 76 = .ok (.aload 4, 2) := by decide +kernel
theorem dd_X10_turn_78 : decode (zc mm_X10_turn) 78 = .ok (.getfield 142, 3) := by decide +kernel
theorem dd_X10_turn_81 : decode (zc mm_X10_turn) 81 = .ok (.iadd, 1) := by decide +kernel
theorem dd_X10_turn_82 : decode (zc mm_X10_turn) 82 = .ok (.istore 5, 2) := by decide +kernel
theorem dd_X10_turn_84 : decode (zc mm_X10_turn) 84 = .ok (.aload_n 0, 1) := by decide +kernel
theorem dd_X10_turn_85 : decode (zc mm_X10_turn) 85 = .ok (.getfield 29, 3) := by decide +kernel
theorem dd_X10_turn_88 : decode (zc mm_X10_turn) 88 = .ok (.iload_n 1, 1) := by decide +kernel
theorem dd_X10_turn_89 : decode (zc mm_X10_turn) 89 = .ok (.iconst (-1), 1) := by decide +kernel
theorem dd_X10_turn_90 : decode (zc mm_X10_turn) 90 = .ok (.iload 5, 2) := by decide +kernel
theorem dd_X10_turn_92 : decode (zc mm_X10_turn) 92 = .ok (.invokevirtual 145, 3) := by decide +kernel
theorem dd_X10_turn_95 : decode (zc mm_X10_turn) 95 = .ok (.aload 4, 2) := by decide +kernel
theorem dd_X10_turn_97 : decode (zc mm_X10_turn) 97 = .ok (.iload_n 2, 1) := by decide +kernel
theorem dd_X10_turn_98 : decode (zc mm_X10_turn) 98 = .ok (.iload_n 3, 1) := by decide +kernel
theorem dd_X10_turn_99 : decode (zc mm_X10_turn) 99 = .ok (.aload_n 0, 1) := by decide +kernel
theorem dd_X10_turn_100 : decode (zc mm_X10_turn) 100 = .ok (.getfield 12, 3) := by decide +kernel
theorem dd_X10_turn_103 : decode (zc mm_X10_turn) 103 = .ok (.getfield 114, 3) := by decide +kernel
theorem dd_X10_turn_106 : decode (zc mm_X10_turn) 106 = .ok (.invokevirtual 149, 3) := by decide +kernel
theorem dd_X10_turn_109 : decode (zc mm_X10_turn) 109 = .ok (.iload 5, 2) := by decide +kernel
theorem dd_X10_turn_111 : decode (zc mm_X10_turn) 111 = .ok (.ireturn, 1) := by decide +kernel
theorem dd_X10_change_0 : decode (zc mm_X10_change) 0 = .ok (.aload_n 0, 1) := by decide +kernel
theorem dd_X10_change_1 : decode (zc mm_X10_change) 1 = .ok (.iload_n 1, 1) := by decide +kernel
theorem dd_X10_change_2 : decode (zc mm_X10_change) 2 = .ok (.iload_n 2, 1) := by decide +kernel
theorem dd_X10_change_3 : decode (zc mm_X10_change) 3 = .ok (.iload_n 3, 1) := by decide +kernel
theorem dd_X10_change_4 : decode (zc mm_X10_change) 4 = .ok (.invokevirtual 152, 3) := by decide +kernel
theorem dd_X10_change_7 : decode (zc mm_X10_change) 7 = .ok (.istore 5, 2) := by decide +kernel
theorem dd_X10_change_9 : decode (zc mm_X10_change) 9 = .ok (.iload 5, 2) := by decide +kernel
theorem dd_X10_change_11 : decode (zc mm_X10_change) 11 = .ok (.ifCond .eq 10, 3) := by decide +kernel
theorem dd_X10_change_14 : decode (zc mm_X10_change) 14 = .ok (.aload_n 0, 1) := by decide +kernel
theorem dd_X10_change_15 : decode (zc mm_X10_change) 15 = .ok (.iload 5, 2) := by decide +kernel
theorem dd_X10_change_17 : decode (zc mm_X10_change) 17 = .ok (.invokevirtual 76, 3) := by decide +kernel
theorem dd_X10_change_20 : decode (zc mm_X10_change) 20 = .ok (.ireturn, 1) := by decide +kernel
theorem dd_X10_change_21 : decode (zc mm_X10_change) 21 = .ok (.aload_n 0, 1) := by decide +kernel
theorem dd_X10_change_22 : decode (zc mm_X10_change) 22 = .ok (.getfield 12, 3) := by decide +kernel
theorem dd_X10_change_25 : decode (zc mm_X10_change) 25 = .ok (.getfield 135, 3) := by decide +kernel
theorem dd_X10_change_28 : decode (zc mm_X10_change) 28 = .ok (.iload_n 1, 1) := by decide +kernel
theorem dd_X10_change_29 : decode (zc mm_X10_change) 29 = .ok (.aaload, 1) := by decide +kernel
theorem dd_X10_change_30 : decode (zc mm_X10_change) 30 = .ok (.astore 6, 2) := by decide +kernel
theorem dd_X10_change_32 : decode (zc mm_X10_change) 32 = .ok (.iconst 5, 1) := by decide +kernel
theorem dd_X10_change_33 : decode (zc mm_X10_change) 33 = .ok (.iload_n 2, 1) := by decide +kernel
theorem dd_X10_change_34 : decode (zc mm_X10_change) 34 = .ok (.imul, 1) := by decide +kernel
theorem dd_X10_change_35 : decode (zc mm_X10_change) 35 = .ok (.iload_n 3, 1) := by decide +kernel
theorem dd_X10_change_36 : decode (zc mm_X10_change) 36 = .ok (.iadd, 1) := by decide +kernel
theorem dd_X10_change_37 : decode (zc mm_X10_change) 37 = .ok (.istore 7, 2) := by decide +kernel
theorem dd_X10_change_39 : decode (zc mm_X10_change) 39 = .ok (.aload 6, 2) := by decide +kernel
theorem dd_X10_change_41 : decode (zc mm_X10_change) 41 = .ok (.getfield 103, 3) := by decide +kernel
theorem dd_X10_change_44 : decode (zc mm_X10_change) 44 = .ok (.iload 7, 2) := by decide +kernel
theorem dd_X10_change_46 : decode (zc mm_X10_change) 46 = .ok (.iaload, 1) := by decide +kernel
theorem dd_X10_change_47 : decode (zc mm_X10_change) 47 = .ok (.istore 8, 2) := by decide +kernel
theorem dd_X10_change_49 : decode (zc mm_X10_change) 49 = .ok (.aload_n 0, 1) := by decide +kernel
theorem dd_X10_change_50 : decode (zc mm_X10_change) 50 = .ok (.getfield 29, 3) := by decide +kernel
theorem dd_X10_change_53 : decode (zc mm_X10_change) 53 = .ok (.iload_n 1, 1) := by decide +kernel
theorem dd_X10_change_54 : decode (zc mm_X10_change) 54 = .ok (.iload 7, 2) := by decide +kernel
theorem dd_X10_change_56 : decode (zc mm_X10_change) 56 = .ok (.iload 8, 2) := by decide +kernel
theorem dd_X10_change_58 : decode (zc mm_X10_change) 58 = .ok (.invokevirtual 145, 3) := by decide +kernel
theorem dd_X10_change_61 : decode (zc mm_X10_change) 61 = .ok (.aload 6, 2) := by decide +kernel
theorem dd_X10_change_63 : decode (zc mm_X10_change) 63 = .ok (.iload 7, 2) := by decide +kernel
theorem dd_X10_change_65 : decode (zc mm_X10_change) 65 = .ok (.iload 4, 2) := by decide +kernel
theorem dd_X10_change_67 : decode (zc mm_X10_change) 67 = .ok (.aload_n 0, 1) := by decide +kernel
theorem dd_X10_change_68 : decode (zc mm_X10_change) 68 = .ok (.getfield 12, 3) := by decide +kernel
theorem dd_X10_change_71 : decode (zc mm_X10_change) 71 = .ok (.getfield 114, 3) := by decide +kernel
theorem dd_X10_change_74 : decode (zc mm_X10_change) 74 = .ok (.invokevirtual 156, 3) := by decide +kernel
theorem dd_X10_change_77 : decode (zc mm_X10_change) 77 = .ok (.iload 8, 2) := by decide +kernel
theorem dd_X10_change_79 : decode (zc mm_X10_change) 79 = .ok (.ireturn, 1) := by decide +kernel
theorem dd_X10_coefficient_0 : decode (zc mm_X10_coefficient) 0 = .ok (.aload_n 0, 1) := by decide +kernel
theorem dd_X10_coefficient_1 : decode (zc mm_X10_coefficient) 1 = .ok (.iload_n 1, 1) := by decide +kernel
theorem dd_X10_coefficient_2 : decode (zc mm_X10_coefficient) 2 = .ok (.iload_n 2, 1) := by decide +kernel
theorem dd_X10_coefficient_3 : decode (zc mm_X10_coefficient) 3 = .ok (.iload_n 3, 1) := by decide +kernel
theorem dd_X10_coefficient_4 : decode (zc mm_X10_coefficient) 4 = .ok (.invokevirtual 152, 3) := by decide +kernel
theorem dd_X10_coefficient_7 : decode (zc mm_X10_coefficient) 7 = .ok (.istore 4, 2) := by decide +kernel
theorem dd_X10_coefficient_9 : decode (zc mm_X10_coefficient) 9 = .ok (.iload 4, 2) := by decide +kernel
theorem dd_X10_coefficient_11 : decode (zc mm_X10_coefficient) 11 = .ok (.ifCond .eq 10, 3) := by decide +kernel
theorem dd_X10_coefficient_14 : decode (zc mm_X10_coefficient) 14 = .ok (.aload_n 0, 1) := by decide +kernel
theorem dd_X10_coefficient_15 : decode (zc mm_X10_coefficient) 15 = .ok (.iload 4, 2) := by decide +kernel
theorem dd_X10_coefficient_17 : decode (zc mm_X10_coefficient) 17 = .ok (.invokevirtual 76, 3) := by decide +kernel
theorem dd_X10_coefficient_20 : decode (zc mm_X10_coefficient) 20 = .ok (.ireturn, 1) := by decide +kernel
theorem dd_X10_coefficient_21 : decode (zc mm_X10_coefficient) 21 = .ok (.aload_n 0, 1) := by decide +kernel
theorem dd_X10_coefficient_22 : decode (zc mm_X10_coefficient) 22 = .ok (.getfield 12, 3) := by decide +kernel
theorem dd_X10_coefficient_25 : decode (zc mm_X10_coefficient) 25 = .ok (.getfield 135, 3) := by decide +kernel
theorem dd_X10_coefficient_28 : decode (zc mm_X10_coefficient) 28 = .ok (.iload_n 1, 1) := by decide +kernel
theorem dd_X10_coefficient_29 : decode (zc mm_X10_coefficient) 29 = .ok (.aaload, 1) := by decide +kernel
theorem dd_X10_coefficient_30 : decode (zc mm_X10_coefficient) 30 = .ok (.getfield 159, 3) := by decide +kernel
theorem dd_X10_coefficient_33 : decode (zc mm_X10_coefficient) 33 = .ok (.iconst 5, 1) := by decide +kernel
theorem dd_X10_coefficient_34 : decode (zc mm_X10_coefficient) 34 = .ok (.iload_n 2, 1) := by decide +kernel
theorem dd_X10_coefficient_35 : decode (zc mm_X10_coefficient) 35 = .ok (.imul, 1) := by decide +kernel
theorem dd_X10_coefficient_36 : decode (zc mm_X10_coefficient) 36 = .ok (.iload_n 3, 1) := by decide +kernel
theorem dd_X10_coefficient_37 : decode (zc mm_X10_coefficient) 37 = .ok (.iadd, 1) := by decide +kernel
theorem dd_X10_coefficient_38 : decode (zc mm_X10_coefficient) 38 = .ok (.iaload, 1) := by decide +kernel
theorem dd_X10_coefficient_39 : decode (zc mm_X10_coefficient) 39 = .ok (.ireturn, 1) := by decide +kernel
theorem dd_X10_of_0 : decode (zc mm_X10_of) 0 = .ok (.aload_n 0, 1) := by decide +kernel
theorem dd_X10_of_1 : decode (zc mm_X10_of) 1 = .ok (.getfield 12, 3) := by decide +kernel
theorem dd_X10_of_4 : decode (zc mm_X10_of) 4 = .ok (.iload_n 1, 1) := by decide +kernel
theorem dd_X10_of_5 : decode (zc mm_X10_of) 5 = .ok (.invokevirtual 132, 3) := by decide +kernel
theorem dd_X10_of_8 : decode (zc mm_X10_of) 8 = .ok (.ifCond .ne 9, 3) := by decide +kernel
theorem dd_X10_of_11 : decode (zc mm_X10_of) 11 = .ok (.aload_n 0, 1) := by decide +kernel
theorem dd_X10_of_12 : decode (zc mm_X10_of) 12 = .ok (.iconst (-1), 1) := by decide +kernel
theorem dd_X10_of_13 : decode (zc mm_X10_of) 13 = .ok (.invokevirtual 76, 3) := by decide +kernel
theorem dd_X10_of_16 : decode (zc mm_X10_of) 16 = .ok (.ireturn, 1) := by decide +kernel
theorem dd_X10_of_17 : decode (zc mm_X10_of) 17 = .ok (.aload_n 0, 1) := by decide +kernel
theorem dd_X10_of_18 : decode (zc mm_X10_of) 18 = .ok (.getfield 12, 3) := by decide +kernel
theorem dd_X10_of_21 : decode (zc mm_X10_of) 21 = .ok (.getfield 135, 3) := by decide +kernel
theorem dd_X10_of_24 : decode (zc mm_X10_of) 24 = .ok (.iload_n 1, 1) := by decide +kernel
theorem dd_X10_of_25 : decode (zc mm_X10_of) 25 = .ok (.aaload, 1) := by decide +kernel
theorem dd_X10_of_26 : decode (zc mm_X10_of) 26 = .ok (.astore_n 3, 1) := by decide +kernel
theorem dd_X10_of_27 : decode (zc mm_X10_of) 27 = .ok (.iload_n 2, 1) := by decide +kernel
theorem dd_X10_of_28 : decode (zc mm_X10_of) 28 = .ok (.tableswitch 72 0 5 #[40, 45, 50, 56, 62, 67], 40) := by decide +kernel
theorem dd_X10_of_68 : decode (zc mm_X10_of) 68 = .ok (.aload_n 3, 1) := by decide +kernel
theorem dd_X10_of_69 : decode (zc mm_X10_of) 69 = .ok (.getfield 139, 3) := by decide +kernel
theorem dd_X10_of_72 : decode (zc mm_X10_of) 72 = .ok (.ireturn, 1) := by decide +kernel
theorem dd_X10_of_73 : decode (zc mm_X10_of) 73 = .ok (.aload_n 3, 1) := by decide +kernel
theorem dd_X10_of_74 : decode (zc mm_X10_of) 74 = .ok (.getfield 142, 3) := by decide +kernel
theorem dd_X10_of_77 : decode (zc mm_X10_of) 77 = .ok (.ireturn, 1) := by decide +kernel
theorem dd_X10_of_78 : decode (zc mm_X10_of) 78 = .ok (.aload_n 3, 1) := by decide +kernel
theorem dd_X10_of_79 : decode (zc mm_X10_of) 79 = .ok (.iconst 0, 1) := by decide +kernel
theorem dd_X10_of_80 : decode (zc mm_X10_of) 80 = .ok (.invokevirtual 162, 3) := by decide +kernel
theorem dd_X10_of_83 : decode (zc mm_X10_of) 83 = .ok (.ireturn, 1) := by decide +kernel
theorem dd_X10_of_84 : decode (zc mm_X10_of) 84 = .ok (.aload_n 3, 1) := by decide +kernel
theorem dd_X10_of_85 : decode (zc mm_X10_of) 85 = .ok (.iconst 1, 1) := by decide +kernel
theorem dd_X10_of_86 : decode (zc mm_X10_of) 86 = .ok (.invokevirtual 162, 3) := by decide +kernel
theorem dd_X10_of_89 : decode (zc mm_X10_of) 89 = .ok (.ireturn, 1) := by decide +kernel
theorem dd_X10_of_90 : decode (zc mm_X10_of) 90 = .ok (.aload_n 3, 1) := by decide +kernel
theorem dd_X10_of_91 : decode (zc mm_X10_of) 91 = .ok (.invokevirtual 165, 3) := by decide +kernel
theorem dd_X10_of_94 : decode (zc mm_X10_of) 94 = .ok (.ireturn, 1) := by decide +kernel
theorem dd_X10_of_95 : decode (zc mm_X10_of) 95 = .ok (.aload_n 3, 1) := by decide +kernel
theorem dd_X10_of_96 : decode (zc mm_X10_of) 96 = .ok (.invokevirtual 168, 3) := by decide +kernel
theorem dd_X10_of_99 : decode (zc mm_X10_of) 99 = .ok (.ireturn, 1) := by decide +kernel
theorem dd_X10_of_100 : decode (zc mm_X10_of) 100 = .ok (.aload_n 0, 1) := by decide +kernel
theorem dd_X10_of_101 : decode (zc mm_X10_of) 101 = .ok (.bipush (-2), 2) := by decide +kernel
theorem dd_X10_of_103 : decode (zc mm_X10_of) 103 = .ok (.invokevirtual 76, 3) := by decide +kernel
theorem dd_X10_of_106 : decode (zc mm_X10_of) 106 = .ok (.ireturn, 1) := by decide +kernel
theorem dd_X10_term_0 : decode (zc mm_X10_term) 0 = .ok (.aload_n 0, 1) := by decide +kernel
theorem dd_X10_term_1 : decode (zc mm_X10_term) 1 = .ok (.getfield 12, 3) := by decide +kernel
theorem dd_X10_term_4 : decode (zc mm_X10_term) 4 = .ok (.iload_n 1, 1) := by decide +kernel
theorem dd_X10_term_5 : decode (zc mm_X10_term) 5 = .ok (.invokevirtual 132, 3) := by decide +kernel
theorem dd_X10_term_8 : decode (zc mm_X10_term) 8 = .ok (.ifCond .ne 9, 3) := by decide +kernel
theorem dd_X10_term_11 : decode (zc mm_X10_term) 11 = .ok (.aload_n 0, 1) := by decide +kernel
theorem dd_X10_term_12 : decode (zc mm_X10_term) 12 = .ok (.iconst (-1), 1) := by decide +kernel
theorem dd_X10_term_13 : decode (zc mm_X10_term) 13 = .ok (.invokevirtual 76, 3) := by decide +kernel
theorem dd_X10_term_16 : decode (zc mm_X10_term) 16 = .ok (.ireturn, 1) := by decide +kernel
theorem dd_X10_term_17 : decode (zc mm_X10_term) 17 = .ok (.iload_n 2, 1) := by decide +kernel
theorem dd_X10_term_18 : decode (zc mm_X10_term) 18 = .ok (.ifCond .lt 8, 3) := by decide +kernel
theorem dd_X10_term_21 : decode (zc mm_X10_term) 21 = .ok (.iload_n 2, 1) := by decide +kernel
theorem dd_X10_term_22 : decode (zc mm_X10_term) 22 = .ok (.iconst 1, 1) := by decide +kernel
theorem dd_X10_term_23 : decode (zc mm_X10_term) 23 = .ok (.if_icmp .le 10, 3) := by decide +kernel
theorem dd_X10_term_26 : decode (zc mm_X10_term) 26 = .ok (.aload_n 0, 1) := by decide +kernel
theorem dd_X10_term_27 : decode (zc mm_X10_term) 27 = .ok (.bipush (-2), 2) := by decide +kernel
theorem dd_X10_term_29 : decode (zc mm_X10_term) 29 = .ok (.invokevirtual 76, 3) := by decide +kernel
theorem dd_X10_term_32 : decode (zc mm_X10_term) 32 = .ok (.ireturn, 1) := by decide +kernel
theorem dd_X10_term_33 : decode (zc mm_X10_term) 33 = .ok (.iload_n 3, 1) := by decide +kernel
theorem dd_X10_term_34 : decode (zc mm_X10_term) 34 = .ok (.ifCond .ge 10, 3) := by decide +kernel
theorem dd_X10_term_37 : decode (zc mm_X10_term) 37 = .ok (.aload_n 0, 1) := by decide +kernel
theorem dd_X10_term_38 : decode (zc mm_X10_term) 38 = .ok (.bipush (-4), 2) := by decide +kernel
theorem dd_X10_term_40 : decode (zc mm_X10_term) 40 = .ok (.invokevirtual 76, 3) := by decide +kernel
theorem dd_X10_term_43 : decode (zc mm_X10_term) 43 = .ok (.ireturn, 1) := by decide +kernel
theorem dd_X10_term_44 : decode (zc mm_X10_term) 44 = .ok (.aload_n 0, 1) := by decide +kernel
theorem dd_X10_term_45 : decode (zc mm_X10_term) 45 = .ok (.getfield 12, 3) := by decide +kernel
theorem dd_X10_term_48 : decode (zc mm_X10_term) 48 = .ok (.getfield 135, 3) := by decide +kernel
theorem dd_X10_term_51 : decode (zc mm_X10_term) 51 = .ok (.iload_n 1, 1) := by decide +kernel
theorem dd_X10_term_52 : decode (zc mm_X10_term) 52 = .ok (.aaload, 1) := by decide +kernel
theorem dd_X10_term_53 : decode (zc mm_X10_term) 53 = .ok (.astore 4, 2) := by decide +kernel
theorem dd_X10_term_55 : decode (zc mm_X10_term) 55 = .ok (.iload_n 2, 1) := by decide +kernel
theorem dd_X10_term_56 : decode (zc mm_X10_term) 56 = .ok (.ifCond .ne 12, 3) := by decide +kernel
theorem dd_X10_term_59 : decode (zc mm_X10_term) 59 = .ok (.aload 4, 2) := by decide +kernel
theorem dd_X10_term_61 : decode (zc mm_X10_term) 61 = .ok (.iload_n 3, 1) := by decide +kernel
theorem dd_X10_term_62 : decode (zc mm_X10_term) 62 = .ok (.invokevirtual 171, 3) := by decide +kernel
theorem dd_X10_term_65 : decode (zc mm_X10_term) 65 = .ok (.goto 9, 3) := by decide +kernel
theorem dd_X10_term_68 : decode (zc mm_X10_term) 68 = .ok (.aload 4, 2) := by decide +kernel
theorem dd_X10_term_70 : decode (zc mm_X10_term) 70 = .ok (.iload_n 3, 1) := by decide +kernel
theorem dd_X10_term_71 : decode (zc mm_X10_term) 71 = .ok (.invokevirtual 174, 3) := by decide +kernel
theorem dd_X10_term_74 : decode (zc mm_X10_term) 74 = .ok (.ireturn, 1) := by decide +kernel
theorem dd_X10_value_0 : decode (zc mm_X10_value) 0 = .ok (.aload_n 0, 1) := by decide +kernel
theorem dd_X10_value_1 : decode (zc mm_X10_value) 1 = .ok (.getfield 12, 3) := by decide +kernel
theorem dd_X10_value_4 : decode (zc mm_X10_value) 4 = .ok (.iload_n 1, 1) := by decide +kernel
theorem dd_X10_value_5 : decode (zc mm_X10_value) 5 = .ok (.invokevirtual 132, 3) := by decide +kernel
theorem dd_X10_value_8 : decode (zc mm_X10_value) 8 = .ok (.ifCond .ne 9, 3) := by decide +kernel
theorem dd_X10_value_11 : decode (zc mm_X10_value) 11 = .ok (.aload_n 0, 1) := by decide +kernel
theorem dd_X10_value_12 : decode (zc mm_X10_value) 12 = .ok (.iconst (-1), 1) := by decide +kernel
theorem dd_X10_value_13 : decode (zc mm_X10_value) 13 = .ok (.invokevirtual 76, 3) := by decide +kernel
theorem dd_X10_value_16 : decode (zc mm_X10_value) 16 = .ok (.ireturn, 1) := by decide +kernel
theorem dd_X10_value_17 : decode (zc mm_X10_value) 17 = .ok (.iload_n 2, 1) := by decide +kernel
theorem dd_X10_value_18 : decode (zc mm_X10_value) 18 = .ok (.ifCond .lt 7, 3) := by decide +kernel
theorem dd_X10_value_21 : decode (zc mm_X10_value) 21 = .ok (.iload_n 3, 1) := by decide +kernel
theorem dd_X10_value_22 : decode (zc mm_X10_value) 22 = .ok (.ifCond .ge 10, 3) := by decide +kernel
theorem dd_X10_value_25 : decode (zc mm_X10_value) 25 = .ok (.aload_n 0, 1) := by decide +kernel
theorem dd_X10_value_26 : decode (zc mm_X10_value) 26 = .ok (.bipush (-4), 2) := by decide +kernel
theorem dd_X10_value_28 : decode (zc mm_X10_value) 28 = .ok (.invokevirtual 76, 3) := by decide +kernel
theorem dd_X10_value_31 : decode (zc mm_X10_value) 31 = .ok (.ireturn, 1) := by decide +kernel
theorem dd_X10_value_32 : decode (zc mm_X10_value) 32 = .ok (.iload_n 2, 1) := by decide +kernel
theorem dd_X10_value_33 : decode (zc mm_X10_value) 33 = .ok (.aload_n 0, 1) := by decide +kernel
theorem dd_X10_value_34 : decode (zc mm_X10_value) 34 = .ok (.getfield 12, 3) := by decide +kernel
theorem dd_X10_value_37 : decode (zc mm_X10_value) 37 = .ok (.getfield 114, 3) := by decide +kernel
theorem dd_X10_value_40 : decode (zc mm_X10_value) 40 = .ok (.if_icmp .ge 14, 3) := by decide +kernel
theorem dd_X10_value_43 : decode (zc mm_X10_value) 43 = .ok (.iload_n 3, 1) := by decide +kernel
theorem dd_X10_value_44 : decode (zc mm_X10_value) 44 = .ok (.aload_n 0, 1) := by decide +kernel
theorem dd_X10_value_45 : decode (zc mm_X10_value) 45 = .ok (.getfield 12, 3) := by decide +kernel
theorem dd_X10_value_48 : decode (zc mm_X10_value) 48 = .ok (.getfield 114, 3) := by decide +kernel
theorem dd_X10_value_51 : decode (zc mm_X10_value) 51 = .ok (.if_icmp .lt 10, 3) := by decide +kernel
theorem dd_X10_value_54 : decode (zc mm_X10_value) 54 = .ok (.aload_n 0, 1) := by decide +kernel
theorem dd_X10_value_55 : decode (zc mm_X10_value) 55 = .ok (.bipush (-6), 2) := by decide +kernel
theorem dd_X10_value_57 : decode (zc mm_X10_value) 57 = .ok (.invokevirtual 76, 3) := by decide +kernel
theorem dd_X10_value_60 : decode (zc mm_X10_value) 60 = .ok (.ireturn, 1) := by decide +kernel
theorem dd_X10_value_61 : decode (zc mm_X10_value) 61 = .ok (.aload_n 0, 1) := by decide +kernel
theorem dd_X10_value_62 : decode (zc mm_X10_value) 62 = .ok (.getfield 57, 3) := by decide +kernel
theorem dd_X10_value_65 : decode (zc mm_X10_value) 65 = .ok (.aload_n 0, 1) := by decide +kernel
theorem dd_X10_value_66 : decode (zc mm_X10_value) 66 = .ok (.getfield 12, 3) := by decide +kernel
theorem dd_X10_value_69 : decode (zc mm_X10_value) 69 = .ok (.getfield 135, 3) := by decide +kernel
theorem dd_X10_value_72 : decode (zc mm_X10_value) 72 = .ok (.iload_n 1, 1) := by decide +kernel
theorem dd_X10_value_73 : decode (zc mm_X10_value) 73 = .ok (.aaload, 1) := by decide +kernel
theorem dd_X10_value_74 : decode (zc mm_X10_value) 74 = .ok (.iload_n 2, 1) := by decide +kernel
theorem dd_X10_value_75 : decode (zc mm_X10_value) 75 = .ok (.iload_n 3, 1) := by decide +kernel
theorem dd_X10_value_76 : decode (zc mm_X10_value) 76 = .ok (.aload_n 0, 1) := by decide +kernel
theorem dd_X10_value_77 : decode (zc mm_X10_value) 77 = .ok (.getfield 12, 3) := by decide +kernel
theorem dd_X10_value_80 : decode (zc mm_X10_value) 80 = .ok (.getfield 114, 3) := by decide +kernel
theorem dd_X10_value_83 : decode (zc mm_X10_value) 83 = .ok (.invokevirtual 177, 3) := by decide +kernel
theorem dd_X10_value_86 : decode (zc mm_X10_value) 86 = .ok (.ireturn, 1) := by decide +kernel
theorem dd_X10_rows_0 : decode (zc mm_X10_rows) 0 = .ok (.aload_n 0, 1) := by decide +kernel
theorem dd_X10_rows_1 : decode (zc mm_X10_rows) 1 = .ok (.iload_n 1, 1) := by decide +kernel
theorem dd_X10_rows_2 : decode (zc mm_X10_rows) 2 = .ok (.iload_n 2, 1) := by decide +kernel
theorem dd_X10_rows_3 : decode (zc mm_X10_rows) 3 = .ok (.iload_n 3, 1) := by decide +kernel
theorem dd_X10_rows_4 : decode (zc mm_X10_rows) 4 = .ok (.iload 4, 2) := by decide +kernel
theorem dd_X10_rows_6 : decode (zc mm_X10_rows) 6 = .ok (.invokevirtual 181, 3) := by decide +kernel
theorem dd_X10_rows_9 : decode (zc mm_X10_rows) 9 = .ok (.istore 5, 2) := by decide +kernel
theorem dd_X10_rows_11 : decode (zc mm_X10_rows) 11 = .ok (.iload 5, 2) := by decide +kernel
theorem dd_X10_rows_13 : decode (zc mm_X10_rows) 13 = .ok (.ifCond .eq 10, 3) := by decide +kernel
theorem dd_X10_rows_16 : decode (zc mm_X10_rows) 16 = .ok (.aload_n 0, 1) := by decide +kernel
theorem dd_X10_rows_17 : decode (zc mm_X10_rows) 17 = .ok (.iload 5, 2) := by decide +kernel
theorem dd_X10_rows_19 : decode (zc mm_X10_rows) 19 = .ok (.invokevirtual 76, 3) := by decide +kernel
theorem dd_X10_rows_22 : decode (zc mm_X10_rows) 22 = .ok (.ireturn, 1) := by decide +kernel
theorem dd_X10_rows_23 : decode (zc mm_X10_rows) 23 = .ok (.aload_n 0, 1) := by decide +kernel
theorem dd_X10_rows_24 : decode (zc mm_X10_rows) 24 = .ok (.getfield 12, 3) := by decide +kernel
theorem dd_X10_rows_27 : decode (zc mm_X10_rows) 27 = .ok (.getfield 135, 3) := by decide +kernel
theorem dd_X10_rows_30 : decode (zc mm_X10_rows) 30 = .ok (.iload_n 1, 1) := by decide +kernel
theorem dd_X10_rows_31 : decode (zc mm_X10_rows) 31 = .ok (.aaload, 1) := by decide +kernel
theorem dd_X10_rows_32 : decode (zc mm_X10_rows) 32 = .ok (.aload_n 0, 1) := by decide +kernel
theorem dd_X10_rows_33 : decode (zc mm_X10_rows) 33 = .ok (.getfield 12, 3) := by decide +kernel
theorem dd_X10_rows_36 : decode (zc mm_X10_rows) 36 = .ok (.getfield 135, 3) := by decide +kernel
theorem dd_X10_rows_39 : decode (zc mm_X10_rows) 39 = .ok (.iload_n 2, 1) := by decide +kernel
theorem dd_X10_rows_40 : decode (zc mm_X10_rows) 40 = .ok (.aaload, 1) := by decide +kernel
theorem dd_X10_rows_41 : decode (zc mm_X10_rows) 41 = .ok (.iload_n 3, 1) := by decide +kernel
theorem dd_X10_rows_42 : decode (zc mm_X10_rows) 42 = .ok (.iload 4, 2) := by decide +kernel
theorem dd_X10_rows_44 : decode (zc mm_X10_rows) 44 = .ok (.invokestatic 185, 3) := by decide +kernel
theorem dd_X10_rows_47 : decode (zc mm_X10_rows) 47 = .ok (.ireturn, 1) := by decide +kernel
theorem dd_X10_entry_0 : decode (zc mm_X10_entry) 0 = .ok (.aload_n 0, 1) := by decide +kernel
theorem dd_X10_entry_1 : decode (zc mm_X10_entry) 1 = .ok (.iload_n 1, 1) := by decide +kernel
theorem dd_X10_entry_2 : decode (zc mm_X10_entry) 2 = .ok (.iload_n 2, 1) := by decide +kernel
theorem dd_X10_entry_3 : decode (zc mm_X10_entry) 3 = .ok (.iload_n 3, 1) := by decide +kernel
theorem dd_X10_entry_4 : decode (zc mm_X10_entry) 4 = .ok (.iload 4, 2) := by decide +kernel
theorem dd_X10_entry_6 : decode (zc mm_X10_entry) 6 = .ok (.invokevirtual 181, 3) := by decide +kernel
theorem dd_X10_entry_9 : decode (zc mm_X10_entry) 9 = .ok (.istore 8, 2) := by decide +kernel
theorem dd_X10_entry_11 : decode (zc mm_X10_entry) 11 = .ok (.iload 8, 2) := by decide +kernel
theorem dd_X10_entry_13 : decode (zc mm_X10_entry) 13 = .ok (.ifCond .eq 10, 3) := by decide +kernel
theorem dd_X10_entry_16 : decode (zc mm_X10_entry) 16 = .ok (.aload_n 0, 1) := by decide +kernel
theorem dd_X10_entry_17 : decode (zc mm_X10_entry) 17 = .ok (.iload 8, 2) := by decide +kernel
theorem dd_X10_entry_19 : decode (zc mm_X10_entry) 19 = .ok (.invokevirtual 76, 3) := by decide +kernel
theorem dd_X10_entry_22 : decode (zc mm_X10_entry) 22 = .ok (.ireturn, 1) := by decide +kernel
theorem dd_X10_entry_23 : decode (zc mm_X10_entry) 23 = .ok (.iload 5, 2) := by decide +kernel
theorem dd_X10_entry_25 : decode (zc mm_X10_entry) 25 = .ok (.ifCond .lt 13, 3) := by decide +kernel
theorem dd_X10_entry_28 : decode (zc mm_X10_entry) 28 = .ok (.iload 6, 2) := by decide +kernel
theorem dd_X10_entry_30 : decode (zc mm_X10_entry) 30 = .ok (.ifCond .lt 8, 3) := by decide +kernel
theorem dd_X10_entry_33 : decode (zc mm_X10_entry) 33 = .ok (.iload 7, 2) := by decide +kernel
theorem dd_X10_entry_35 : decode (zc mm_X10_entry) 35 = .ok (.ifCond .ge 10, 3) := by decide +kernel
theorem dd_X10_entry_38 : decode (zc mm_X10_entry) 38 = .ok (.aload_n 0, 1) := by decide +kernel
theorem dd_X10_entry_39 : decode (zc mm_X10_entry) 39 = .ok (.bipush (-4), 2) := by decide +kernel
theorem dd_X10_entry_41 : decode (zc mm_X10_entry) 41 = .ok (.invokevirtual 76, 3) := by decide +kernel
theorem dd_X10_entry_44 : decode (zc mm_X10_entry) 44 = .ok (.ireturn, 1) := by decide +kernel
theorem dd_X10_entry_45 : decode (zc mm_X10_entry) 45 = .ok (.aload_n 0, 1) := by decide +kernel
theorem dd_X10_entry_46 : decode (zc mm_X10_entry) 46 = .ok (.getfield 12, 3) := by decide +kernel
theorem dd_X10_entry_49 : decode (zc mm_X10_entry) 49 = .ok (.getfield 135, 3) := by decide +kernel
theorem dd_X10_entry_52 : decode (zc mm_X10_entry) 52 = .ok (.iload_n 1, 1) := by decide +kernel
theorem dd_X10_entry_53 : decode (zc mm_X10_entry) 53 = .ok (.aaload, 1) := by decide +kernel
theorem dd_X10_entry_54 : decode (zc mm_X10_entry) 54 = .ok (.aload_n 0, 1) := by decide +kernel
theorem dd_X10_entry_55 : decode (zc mm_X10_entry) 55 = .ok (.getfield 12, 3) := by decide +kernel
theorem dd_X10_entry_58 : decode (zc mm_X10_entry) 58 = .ok (.getfield 135, 3) := by decide +kernel
theorem dd_X10_entry_61 : decode (zc mm_X10_entry) 61 = .ok (.iload_n 2, 1) := by decide +kernel
theorem dd_X10_entry_62 : decode (zc mm_X10_entry) 62 = .ok (.aaload, 1) := by decide +kernel
theorem dd_X10_entry_63 : decode (zc mm_X10_entry) 63 = .ok (.iload_n 3, 1) := by decide +kernel
theorem dd_X10_entry_64 : decode (zc mm_X10_entry) 64 = .ok (.iload 4, 2) := by decide +kernel
theorem dd_X10_entry_66 : decode (zc mm_X10_entry) 66 = .ok (.invokestatic 185, 3) := by decide +kernel
theorem dd_X10_entry_69 : decode (zc mm_X10_entry) 69 = .ok (.istore 9, 2) := by decide +kernel
theorem dd_X10_entry_71 : decode (zc mm_X10_entry) 71 = .ok (.iload 5, 2) := by decide +kernel
theorem dd_X10_entry_73 : decode (zc mm_X10_entry) 73 = .ok (.iload 9, 2) := by decide +kernel
theorem dd_X10_entry_75 : decode (zc mm_X10_entry) 75 = .ok (.if_icmp .ge 17, 3) := by decide +kernel
theorem dd_X10_entry_78 : decode (zc mm_X10_entry) 78 = .ok (.iload 6, 2) := by decide +kernel
theorem dd_X10_entry_80 : decode (zc mm_X10_entry) 80 = .ok (.iload 9, 2) := by decide +kernel
theorem dd_X10_entry_82 : decode (zc mm_X10_entry) 82 = .ok (.if_icmp .ge 10, 3) := by decide +kernel
theorem dd_X10_entry_85 : decode (zc mm_X10_entry) 85 = .ok (.iload 7, 2) := by decide +kernel
theorem dd_X10_entry_87 : decode (zc mm_X10_entry) 87 = .ok (.bipush 8, 2) := by decide +kernel
theorem dd_X10_entry_89 : decode (zc mm_X10_entry) 89 = .ok (.if_icmp .le 10, 3) := by decide +kernel
theorem dd_X10_entry_92 : decode (zc mm_X10_entry) 92 = .ok (.aload_n 0, 1) := by decide +kernel
theorem dd_X10_entry_93 : decode (zc mm_X10_entry) 93 = .ok (.bipush (-6), 2) := by decide +kernel
theorem dd_X10_entry_95 : decode (zc mm_X10_entry) 95 = .ok (.invokevirtual 76, 3) := by decide +kernel
theorem dd_X10_entry_98 : decode (zc mm_X10_entry) 98 = .ok (.ireturn, 1) := by decide +kernel
theorem dd_X10_entry_99 : decode (zc mm_X10_entry) 99 = .ok (.aload_n 0, 1) := by decide +kernel
theorem dd_X10_entry_100 : decode (zc mm_X10_entry) 100 = .ok (.getfield 36, 3) := by decide +kernel
theorem dd_X10_entry_103 : decode (zc mm_X10_entry) 103 = .ok (.aload_n 0, 1) := by decide +kernel
theorem dd_X10_entry_104 : decode (zc mm_X10_entry) 104 = .ok (.getfield 12, 3) := by decide +kernel
theorem dd_X10_entry_107 : decode (zc mm_X10_entry) 107 = .ok (.getfield 135, 3) := by decide +kernel
theorem dd_X10_entry_110 : decode (zc mm_X10_entry) 110 = .ok (.iload_n 1, 1) := by decide +kernel
theorem dd_X10_entry_111 : decode (zc mm_X10_entry) 111 = .ok (.aaload, 1) := by decide +kernel
theorem dd_X10_entry_112 : decode (zc mm_X10_entry) 112 = .ok (.aload_n 0, 1) := by decide +kernel
theorem dd_X10_entry_113 : decode (zc mm_X10_entry) 113 = .ok (.getfield 12, 3) := by decide +kernel
theorem dd_X10_entry_116 : decode (zc mm_X10_entry) 116 = .ok (.getfield 135, 3) := by decide +kernel
theorem dd_X10_entry_119 : decode (zc mm_X10_entry) 119 = .ok (.iload_n 2, 1) := by decide +kernel
theorem dd_X10_entry_120 : decode (zc mm_X10_entry) 120 = .ok (.aaload, 1) := by decide +kernel
theorem dd_X10_entry_121 : decode (zc mm_X10_entry) 121 = .ok (.iload_n 3, 1) := by decide +kernel
theorem dd_X10_entry_122 : decode (zc mm_X10_entry) 122 = .ok (.iload 4, 2) := by decide +kernel
theorem dd_X10_entry_124 : decode (zc mm_X10_entry) 124 = .ok (.aload_n 0, 1) := by decide +kernel
theorem dd_X10_entry_125 : decode (zc mm_X10_entry) 125 = .ok (.getfield 12, 3) := by decide +kernel
theorem dd_X10_entry_128 : decode (zc mm_X10_entry) 128 = .ok (.getfield 114, 3) := by decide +kernel
theorem dd_X10_entry_131 : decode (zc mm_X10_entry) 131 = .ok (.invokevirtual 189, 3) := by decide +kernel
theorem dd_X10_entry_134 : decode (zc mm_X10_entry) 134 = .ok (.aload_n 0, 1) := by decide +kernel
theorem dd_X10_entry_135 : decode (zc mm_X10_entry) 135 = .ok (.getfield 36, 3) := by decide +kernel
theorem dd_X10_entry_138 : decode (zc mm_X10_entry) 138 = .ok (.iload 5, 2) := by decide +kernel
theorem dd_X10_entry_140 : decode (zc mm_X10_entry) 140 = .ok (.iload 6, 2) := by decide +kernel
theorem dd_X10_entry_142 : decode (zc mm_X10_entry) 142 = .ok (.iload 7, 2) := by decide +kernel
theorem dd_X10_entry_144 : decode (zc mm_X10_entry) 144 = .ok (.invokevirtual 193, 3) := by decide +kernel
theorem dd_X10_entry_147 : decode (zc mm_X10_entry) 147 = .ok (.ireturn, 1) := by decide +kernel
theorem dd_X10_result_0 : decode (zc mm_X10_result) 0 = .ok (.aload_n 0, 1) := by decide +kernel
theorem dd_X10_result_1 : decode (zc mm_X10_result) 1 = .ok (.iload_n 1, 1) := by decide +kernel
theorem dd_X10_result_2 : decode (zc mm_X10_result) 2 = .ok (.iload_n 2, 1) := by decide +kernel
theorem dd_X10_result_3 : decode (zc mm_X10_result) 3 = .ok (.iload_n 3, 1) := by decide +kernel
theorem dd_X10_result_4 : decode (zc mm_X10_result) 4 = .ok (.iload 4, 2) := by decide +kernel
theorem dd_X10_result_6 : decode (zc mm_X10_result) 6 = .ok (.invokevirtual 181, 3) := by decide +kernel
theorem dd_X10_result_9 : decode (zc mm_X10_result) 9 = .ok (.istore 6, 2) := by decide +kernel
theorem dd_X10_result_11 : decode (zc mm_X10_result) 11 = .ok (.iload 6, 2) := by decide +kernel
theorem dd_X10_result_13 : decode (zc mm_X10_result) 13 = .ok (.ifCond .eq 10, 3) := by decide +kernel
theorem dd_X10_result_16 : decode (zc mm_X10_result) 16 = .ok (.aload_n 0, 1) := by decide +kernel
theorem dd_X10_result_17 : decode (zc mm_X10_result) 17 = .ok (.iload 6, 2) := by decide +kernel
theorem dd_X10_result_19 : decode (zc mm_X10_result) 19 = .ok (.invokevirtual 76, 3) := by decide +kernel
theorem dd_X10_result_22 : decode (zc mm_X10_result) 22 = .ok (.ireturn, 1) := by decide +kernel
theorem dd_X10_result_23 : decode (zc mm_X10_result) 23 = .ok (.iload 5, 2) := by decide +kernel
theorem dd_X10_result_25 : decode (zc mm_X10_result) 25 = .ok (.ifCond .ge 10, 3) := by decide +kernel
theorem dd_X10_result_28 : decode (zc mm_X10_result) 28 = .ok (.aload_n 0, 1) := by decide +kernel
theorem dd_X10_result_29 : decode (zc mm_X10_result) 29 = .ok (.bipush (-4), 2) := by decide +kernel
theorem dd_X10_result_31 : decode (zc mm_X10_result) 31 = .ok (.invokevirtual 76, 3) := by decide +kernel
theorem dd_X10_result_34 : decode (zc mm_X10_result) 34 = .ok (.ireturn, 1) := by decide +kernel
theorem dd_X10_result_35 : decode (zc mm_X10_result) 35 = .ok (.iload 5, 2) := by decide +kernel
theorem dd_X10_result_37 : decode (zc mm_X10_result) 37 = .ok (.bipush 40, 2) := by decide +kernel
theorem dd_X10_result_39 : decode (zc mm_X10_result) 39 = .ok (.if_icmp .le 10, 3) := by decide +kernel
theorem dd_X10_result_42 : decode (zc mm_X10_result) 42 = .ok (.aload_n 0, 1) := by decide +kernel
theorem dd_X10_result_43 : decode (zc mm_X10_result) 43 = .ok (.bipush (-6), 2) := by decide +kernel
theorem dd_X10_result_45 : decode (zc mm_X10_result) 45 = .ok (.invokevirtual 76, 3) := by decide +kernel
theorem dd_X10_result_48 : decode (zc mm_X10_result) 48 = .ok (.ireturn, 1) := by decide +kernel
theorem dd_X10_result_49 : decode (zc mm_X10_result) 49 = .ok (.aload_n 0, 1) := by decide +kernel
theorem dd_X10_result_50 : decode (zc mm_X10_result) 50 = .ok (.iload_n 1, 1) := by decide +kernel
theorem dd_X10_result_51 : decode (zc mm_X10_result) 51 = .ok (.iload_n 2, 1) := by decide +kernel
theorem dd_X10_result_52 : decode (zc mm_X10_result) 52 = .ok (.iload_n 3, 1) := by decide +kernel
theorem dd_X10_result_53 : decode (zc mm_X10_result) 53 = .ok (.iload 4, 2) := by decide +kernel
theorem dd_X10_result_55 : decode (zc mm_X10_result) 55 = .ok (.invokevirtual 196, 3) := by decide +kernel
theorem dd_X10_result_58 : decode (zc mm_X10_result) 58 = .ok (.aload_n 0, 1) := by decide +kernel
theorem dd_X10_result_59 : decode (zc mm_X10_result) 59 = .ok (.getfield 36, 3) := by decide +kernel
theorem dd_X10_result_62 : decode (zc mm_X10_result) 62 = .ok (.getfield 200, 3) := by decide +kernel
theorem dd_X10_result_65 : decode (zc mm_X10_result) 65 = .ok (.iload 5, 2) := by decide +kernel
theorem dd_X10_result_67 : decode (zc mm_X10_result) 67 = .ok (.iaload, 1) := by decide +kernel
theorem dd_X10_result_68 : decode (zc mm_X10_result) 68 = .ok (.ireturn, 1) := by decide +kernel
theorem dd_X10_degree_0 : decode (zc mm_X10_degree) 0 = .ok (.aload_n 0, 1) := by decide +kernel
theorem dd_X10_degree_1 : decode (zc mm_X10_degree) 1 = .ok (.iload_n 1, 1) := by decide +kernel
theorem dd_X10_degree_2 : decode (zc mm_X10_degree) 2 = .ok (.iload_n 2, 1) := by decide +kernel
theorem dd_X10_degree_3 : decode (zc mm_X10_degree) 3 = .ok (.iload_n 3, 1) := by decide +kernel
theorem dd_X10_degree_4 : decode (zc mm_X10_degree) 4 = .ok (.iload 4, 2) := by decide +kernel
theorem dd_X10_degree_6 : decode (zc mm_X10_degree) 6 = .ok (.invokevirtual 181, 3) := by decide +kernel
theorem dd_X10_degree_9 : decode (zc mm_X10_degree) 9 = .ok (.istore 5, 2) := by decide +kernel
theorem dd_X10_degree_11 : decode (zc mm_X10_degree) 11 = .ok (.iload 5, 2) := by decide +kernel
theorem dd_X10_degree_13 : decode (zc mm_X10_degree) 13 = .ok (.ifCond .eq 10, 3) := by decide +kernel
theorem dd_X10_degree_16 : decode (zc mm_X10_degree) 16 = .ok (.aload_n 0, 1) := by decide +kernel
theorem dd_X10_degree_17 : decode (zc mm_X10_degree) 17 = .ok (.iload 5, 2) := by decide +kernel
theorem dd_X10_degree_19 : decode (zc mm_X10_degree) 19 = .ok (.invokevirtual 76, 3) := by decide +kernel
theorem dd_X10_degree_22 : decode (zc mm_X10_degree) 22 = .ok (.ireturn, 1) := by decide +kernel
theorem dd_X10_degree_23 : decode (zc mm_X10_degree) 23 = .ok (.aload_n 0, 1) := by decide +kernel
theorem dd_X10_degree_24 : decode (zc mm_X10_degree) 24 = .ok (.iload_n 1, 1) := by decide +kernel
theorem dd_X10_degree_25 : decode (zc mm_X10_degree) 25 = .ok (.iload_n 2, 1) := by decide +kernel
theorem dd_X10_degree_26 : decode (zc mm_X10_degree) 26 = .ok (.iload_n 3, 1) := by decide +kernel
theorem dd_X10_degree_27 : decode (zc mm_X10_degree) 27 = .ok (.iload 4, 2) := by decide +kernel
theorem dd_X10_degree_29 : decode (zc mm_X10_degree) 29 = .ok (.invokevirtual 196, 3) := by decide +kernel
theorem dd_X10_degree_32 : decode (zc mm_X10_degree) 32 = .ok (.aload_n 0, 1) := by decide +kernel
theorem dd_X10_degree_33 : decode (zc mm_X10_degree) 33 = .ok (.getfield 36, 3) := by decide +kernel
theorem dd_X10_degree_36 : decode (zc mm_X10_degree) 36 = .ok (.getfield 200, 3) := by decide +kernel
theorem dd_X10_degree_39 : decode (zc mm_X10_degree) 39 = .ok (.invokestatic 203, 3) := by decide +kernel
theorem dd_X10_degree_42 : decode (zc mm_X10_degree) 42 = .ok (.ireturn, 1) := by decide +kernel
theorem dd_X10_at_0 : decode (zc mm_X10_at) 0 = .ok (.aload_n 0, 1) := by decide +kernel
theorem dd_X10_at_1 : decode (zc mm_X10_at) 1 = .ok (.iload_n 1, 1) := by decide +kernel
theorem dd_X10_at_2 : decode (zc mm_X10_at) 2 = .ok (.iload_n 2, 1) := by decide +kernel
theorem dd_X10_at_3 : decode (zc mm_X10_at) 3 = .ok (.iload_n 3, 1) := by decide +kernel
theorem dd_X10_at_4 : decode (zc mm_X10_at) 4 = .ok (.iload 4, 2) := by decide +kernel
theorem dd_X10_at_6 : decode (zc mm_X10_at) 6 = .ok (.invokevirtual 181, 3) := by decide +kernel
theorem dd_X10_at_9 : decode (zc mm_X10_at) 9 = .ok (.istore 6, 2) := by decide +kernel
theorem dd_X10_at_11 : decode (zc mm_X10_at) 11 = .ok (.iload 6, 2) := by decide +kernel
theorem dd_X10_at_13 : decode (zc mm_X10_at) 13 = .ok (.ifCond .ne 11, 3) := by decide +kernel
theorem dd_X10_at_16 : decode (zc mm_X10_at) 16 = .ok (.aload_n 0, 1) := by decide +kernel
theorem dd_X10_at_17 : decode (zc mm_X10_at) 17 = .ok (.iload 5, 2) := by decide +kernel
theorem dd_X10_at_19 : decode (zc mm_X10_at) 19 = .ok (.invokevirtual 207, 3) := by decide +kernel
theorem dd_X10_at_22 : decode (zc mm_X10_at) 22 = .ok (.istore 6, 2) := by decide +kernel
theorem dd_X10_at_24 : decode (zc mm_X10_at) 24 = .ok (.iload 6, 2) := by decide +kernel
theorem dd_X10_at_26 : decode (zc mm_X10_at) 26 = .ok (.ifCond .eq 10, 3) := by decide +kernel
theorem dd_X10_at_29 : decode (zc mm_X10_at) 29 = .ok (.aload_n 0, 1) := by decide +kernel
theorem dd_X10_at_30 : decode (zc mm_X10_at) 30 = .ok (.iload 6, 2) := by decide +kernel
theorem dd_X10_at_32 : decode (zc mm_X10_at) 32 = .ok (.invokevirtual 76, 3) := by decide +kernel
theorem dd_X10_at_35 : decode (zc mm_X10_at) 35 = .ok (.ireturn, 1) := by decide +kernel
theorem dd_X10_at_36 : decode (zc mm_X10_at) 36 = .ok (.aload_n 0, 1) := by decide +kernel
theorem dd_X10_at_37 : decode (zc mm_X10_at) 37 = .ok (.iload_n 1, 1) := by decide +kernel
theorem dd_X10_at_38 : decode (zc mm_X10_at) 38 = .ok (.iload_n 2, 1) := by decide +kernel
theorem dd_X10_at_39 : decode (zc mm_X10_at) 39 = .ok (.iload_n 3, 1) := by decide +kernel
theorem dd_X10_at_40 : decode (zc mm_X10_at) 40 = .ok (.iload 4, 2) := by decide +kernel
theorem dd_X10_at_42 : decode (zc mm_X10_at) 42 = .ok (.invokevirtual 196, 3) := by decide +kernel
theorem dd_X10_at_45 : decode (zc mm_X10_at) 45 = .ok (.aload_n 0, 1) := by decide +kernel
theorem dd_X10_at_46 : decode (zc mm_X10_at) 46 = .ok (.getfield 36, 3) := by decide +kernel
theorem dd_X10_at_49 : decode (zc mm_X10_at) 49 = .ok (.getfield 200, 3) := by decide +kernel
theorem dd_X10_at_52 : decode (zc mm_X10_at) 52 = .ok (.iload 5, 2) := by decide +kernel
theorem dd_X10_at_54 : decode (zc mm_X10_at) 54 = .ok (.aload_n 0, 1) := by decide +kernel
theorem dd_X10_at_55 : decode (zc mm_X10_at) 55 = .ok (.getfield 12, 3) := by decide +kernel
theorem dd_X10_at_58 : decode (zc mm_X10_at) 58 = .ok (.getfield 114, 3) := by decide +kernel
theorem dd_X10_at_61 : decode (zc mm_X10_at) 61 = .ok (.invokestatic 210, 3) := by decide +kernel
theorem dd_X10_at_64 : decode (zc mm_X10_at) 64 = .ok (.ireturn, 1) := by decide +kernel
theorem dd_X10_remainder_0 : decode (zc mm_X10_remainder) 0 = .ok (.aload_n 0, 1) := by decide +kernel
theorem dd_X10_remainder_1 : decode (zc mm_X10_remainder) 1 = .ok (.iload_n 1, 1) := by decide +kernel
theorem dd_X10_remainder_2 : decode (zc mm_X10_remainder) 2 = .ok (.iload_n 2, 1) := by decide +kernel
theorem dd_X10_remainder_3 : decode (zc mm_X10_remainder) 3 = .ok (.iload_n 3, 1) := by decide +kernel
theorem dd_X10_remainder_4 : decode (zc mm_X10_remainder) 4 = .ok (.iconst 0, 1) := by decide +kernel
theorem dd_X10_remainder_5 : decode (zc mm_X10_remainder) 5 = .ok (.invokevirtual 181, 3) := by decide +kernel
theorem dd_X10_remainder_8 : decode (zc mm_X10_remainder) 8 = .ok (.istore 6, 2) := by decide +kernel
theorem dd_X10_remainder_10 : decode (zc mm_X10_remainder) 10 = .ok (.iload 6, 2) := by decide +kernel
theorem dd_X10_remainder_12 : decode (zc mm_X10_remainder) 12 = .ok (.ifCond .eq 10, 3) := by decide +kernel
theorem dd_X10_remainder_15 : decode (zc mm_X10_remainder) 15 = .ok (.aload_n 0, 1) := by decide +kernel
theorem dd_X10_remainder_16 : decode (zc mm_X10_remainder) 16 = .ok (.iload 6, 2) := by decide +kernel
theorem dd_X10_remainder_18 : decode (zc mm_X10_remainder) 18 = .ok (.invokevirtual 76, 3) := by decide +kernel
theorem dd_X10_remainder_21 : decode (zc mm_X10_remainder) 21 = .ok (.ireturn, 1) := by decide +kernel
theorem dd_X10_remainder_22 : decode (zc mm_X10_remainder) 22 = .ok (.iload 4, 2) := by decide +kernel
theorem dd_X10_remainder_24 : decode (zc mm_X10_remainder) 24 = .ok (.ifCond .lt 9, 3) := by decide +kernel
theorem dd_X10_remainder_27 : decode (zc mm_X10_remainder) 27 = .ok (.iload 5, 2) := by decide +kernel
theorem dd_X10_remainder_29 : decode (zc mm_X10_remainder) 29 = .ok (.iconst (-1), 1) := by decide +kernel
theorem dd_X10_remainder_30 : decode (zc mm_X10_remainder) 30 = .ok (.if_icmp .ge 10, 3) := by decide +kernel
theorem dd_X10_remainder_33 : decode (zc mm_X10_remainder) 33 = .ok (.aload_n 0, 1) := by decide +kernel
theorem dd_X10_remainder_34 : decode (zc mm_X10_remainder) 34 = .ok (.bipush (-4), 2) := by decide +kernel
theorem dd_X10_remainder_36 : decode (zc mm_X10_remainder) 36 = .ok (.invokevirtual 76, 3) := by decide +kernel
theorem dd_X10_remainder_39 : decode (zc mm_X10_remainder) 39 = .ok (.ireturn, 1) := by decide +kernel
theorem dd_X10_remainder_40 : decode (zc mm_X10_remainder) 40 = .ok (.iload 4, 2) := by decide +kernel
theorem dd_X10_remainder_42 : decode (zc mm_X10_remainder) 42 = .ok (.aload_n 0, 1) := by decide +kernel
theorem dd_X10_remainder_43 : decode (zc mm_X10_remainder) 43 = .ok (.getfield 12, 3) := by decide +kernel
theorem dd_X10_remainder_46 : decode (zc mm_X10_remainder) 46 = .ok (.getfield 114, 3) := by decide +kernel
theorem dd_X10_remainder_49 : decode (zc mm_X10_remainder) 49 = .ok (.if_icmp .lt 10, 3) := by decide +kernel
theorem dd_X10_remainder_52 : decode (zc mm_X10_remainder) 52 = .ok (.aload_n 0, 1) := by decide +kernel
theorem dd_X10_remainder_53 : decode (zc mm_X10_remainder) 53 = .ok (.bipush (-6), 2) := by decide +kernel
theorem dd_X10_remainder_55 : decode (zc mm_X10_remainder) 55 = .ok (.invokevirtual 76, 3) := by decide +kernel
theorem dd_X10_remainder_58 : decode (zc mm_X10_remainder) 58 = .ok (.ireturn, 1) := by decide +kernel
theorem dd_X10_remainder_59 : decode (zc mm_X10_remainder) 59 = .ok (.aload_n 0, 1) := by decide +kernel
theorem dd_X10_remainder_60 : decode (zc mm_X10_remainder) 60 = .ok (.iload_n 1, 1) := by decide +kernel
theorem dd_X10_remainder_61 : decode (zc mm_X10_remainder) 61 = .ok (.iload_n 2, 1) := by decide +kernel
theorem dd_X10_remainder_62 : decode (zc mm_X10_remainder) 62 = .ok (.iload_n 3, 1) := by decide +kernel
theorem dd_X10_remainder_63 : decode (zc mm_X10_remainder) 63 = .ok (.iload 4, 2) := by decide +kernel
theorem dd_X10_remainder_65 : decode (zc mm_X10_remainder) 65 = .ok (.invokevirtual 214, 3) := by decide +kernel
theorem dd_X10_remainder_68 : decode (zc mm_X10_remainder) 68 = .ok (.iload 5, 2) := by decide +kernel
theorem dd_X10_remainder_70 : decode (zc mm_X10_remainder) 70 = .ok (.iconst (-1), 1) := by decide +kernel
theorem dd_X10_remainder_71 : decode (zc mm_X10_remainder) 71 = .ok (.if_icmp .ne 13, 3) := by decide +kernel
theorem dd_X10_remainder_74 : decode (zc mm_X10_remainder) 74 = .ok (.aload_n 0, 1) := by decide +kernel
theorem dd_X10_remainder_75 : decode (zc mm_X10_remainder) 75 = .ok (.getfield 43, 3) := by decide +kernel
theorem dd_X10_remainder_78 : decode (zc mm_X10_remainder) 78 = .ok (.getfield 217, 3) := by decide +kernel
theorem dd_X10_remainder_81 : decode (zc mm_X10_remainder) 81 = .ok (.goto 12, 3) := by decide +kernel
theorem dd_X10_remainder_84 : decode (zc mm_X10_remainder) 84 = .ok (.aload_n 0, 1) := by decide +kernel
theorem dd_X10_remainder_85 : decode (zc mm_X10_remainder) 85 = .ok (.getfield 43, 3) := by decide +kernel
theorem dd_X10_remainder_88 : decode (zc mm_X10_remainder) 88 = .ok (.iload 5, 2) := by decide +kernel
theorem dd_X10_remainder_90 : decode (zc mm_X10_remainder) 90 = .ok (.invokevirtual 220, 3) := by decide +kernel
theorem dd_X10_remainder_93 : decode (zc mm_X10_remainder) 93 = .ok (.ireturn, 1) := by decide +kernel
theorem dd_X10_common_0 : decode (zc mm_X10_common) 0 = .ok (.aload_n 0, 1) := by decide +kernel
theorem dd_X10_common_1 : decode (zc mm_X10_common) 1 = .ok (.iload_n 1, 1) := by decide +kernel
theorem dd_X10_common_2 : decode (zc mm_X10_common) 2 = .ok (.iload_n 2, 1) := by decide +kernel
theorem dd_X10_common_3 : decode (zc mm_X10_common) 3 = .ok (.iload_n 3, 1) := by decide +kernel
theorem dd_X10_common_4 : decode (zc mm_X10_common) 4 = .ok (.iload 4, 2) := by decide +kernel
theorem dd_X10_common_6 : decode (zc mm_X10_common) 6 = .ok (.invokevirtual 223, 3) := by decide +kernel
theorem dd_X10_common_9 : decode (zc mm_X10_common) 9 = .ok (.istore 5, 2) := by decide +kernel
theorem dd_X10_common_11 : decode (zc mm_X10_common) 11 = .ok (.iload 5, 2) := by decide +kernel
theorem dd_X10_common_13 : decode (zc mm_X10_common) 13 = .ok (.ifCond .eq 10, 3) := by decide +kernel
theorem dd_X10_common_16 : decode (zc mm_X10_common) 16 = .ok (.aload_n 0, 1) := by decide +kernel
theorem dd_X10_common_17 : decode (zc mm_X10_common) 17 = .ok (.iload 5, 2) := by decide +kernel
theorem dd_X10_common_19 : decode (zc mm_X10_common) 19 = .ok (.invokevirtual 76, 3) := by decide +kernel
theorem dd_X10_common_22 : decode (zc mm_X10_common) 22 = .ok (.ireturn, 1) := by decide +kernel
theorem dd_X10_common_23 : decode (zc mm_X10_common) 23 = .ok (.aload_n 0, 1) := by decide +kernel
theorem dd_X10_common_24 : decode (zc mm_X10_common) 24 = .ok (.iload_n 1, 1) := by decide +kernel
theorem dd_X10_common_25 : decode (zc mm_X10_common) 25 = .ok (.iload_n 2, 1) := by decide +kernel
theorem dd_X10_common_26 : decode (zc mm_X10_common) 26 = .ok (.iload_n 3, 1) := by decide +kernel
theorem dd_X10_common_27 : decode (zc mm_X10_common) 27 = .ok (.iload 4, 2) := by decide +kernel
theorem dd_X10_common_29 : decode (zc mm_X10_common) 29 = .ok (.invokevirtual 214, 3) := by decide +kernel
theorem dd_X10_common_32 : decode (zc mm_X10_common) 32 = .ok (.aload_n 0, 1) := by decide +kernel
theorem dd_X10_common_33 : decode (zc mm_X10_common) 33 = .ok (.getfield 43, 3) := by decide +kernel
theorem dd_X10_common_36 : decode (zc mm_X10_common) 36 = .ok (.invokevirtual 226, 3) := by decide +kernel
theorem dd_X10_common_39 : decode (zc mm_X10_common) 39 = .ok (.ireturn, 1) := by decide +kernel
theorem dd_X10_norm_0 : decode (zc mm_X10_norm) 0 = .ok (.aload_n 0, 1) := by decide +kernel
theorem dd_X10_norm_1 : decode (zc mm_X10_norm) 1 = .ok (.iload_n 1, 1) := by decide +kernel
theorem dd_X10_norm_2 : decode (zc mm_X10_norm) 2 = .ok (.iload_n 2, 1) := by decide +kernel
theorem dd_X10_norm_3 : decode (zc mm_X10_norm) 3 = .ok (.iload_n 3, 1) := by decide +kernel
theorem dd_X10_norm_4 : decode (zc mm_X10_norm) 4 = .ok (.iload 4, 2) := by decide +kernel
theorem dd_X10_norm_6 : decode (zc mm_X10_norm) 6 = .ok (.invokevirtual 223, 3) := by decide +kernel
theorem dd_X10_norm_9 : decode (zc mm_X10_norm) 9 = .ok (.istore 5, 2) := by decide +kernel
theorem dd_X10_norm_11 : decode (zc mm_X10_norm) 11 = .ok (.iload 5, 2) := by decide +kernel
theorem dd_X10_norm_13 : decode (zc mm_X10_norm) 13 = .ok (.ifCond .eq 10, 3) := by decide +kernel
theorem dd_X10_norm_16 : decode (zc mm_X10_norm) 16 = .ok (.aload_n 0, 1) := by decide +kernel
theorem dd_X10_norm_17 : decode (zc mm_X10_norm) 17 = .ok (.iload 5, 2) := by decide +kernel
theorem dd_X10_norm_19 : decode (zc mm_X10_norm) 19 = .ok (.invokevirtual 76, 3) := by decide +kernel
theorem dd_X10_norm_22 : decode (zc mm_X10_norm) 22 = .ok (.ireturn, 1) := by decide +kernel
theorem dd_X10_norm_23 : decode (zc mm_X10_norm) 23 = .ok (.aload_n 0, 1) := by decide +kernel
theorem dd_X10_norm_24 : decode (zc mm_X10_norm) 24 = .ok (.getfield 12, 3) := by decide +kernel
theorem dd_X10_norm_27 : decode (zc mm_X10_norm) 27 = .ok (.getfield 114, 3) := by decide +kernel
theorem dd_X10_norm_30 : decode (zc mm_X10_norm) 30 = .ok (.istore 6, 2) := by decide +kernel
theorem dd_X10_norm_32 : decode (zc mm_X10_norm) 32 = .ok (.aload_n 0, 1) := by decide +kernel
theorem dd_X10_norm_33 : decode (zc mm_X10_norm) 33 = .ok (.getfield 12, 3) := by decide +kernel
theorem dd_X10_norm_36 : decode (zc mm_X10_norm) 36 = .ok (.getfield 135, 3) := by decide +kernel
theorem dd_X10_norm_39 : decode (zc mm_X10_norm) 39 = .ok (.iload_n 1, 1) := by decide +kernel
theorem dd_X10_norm_40 : decode (zc mm_X10_norm) 40 = .ok (.aaload, 1) := by decide +kernel
theorem dd_X10_norm_41 : decode (zc mm_X10_norm) 41 = .ok (.iload_n 3, 1) := by decide +kernel
theorem dd_X10_norm_42 : decode (zc mm_X10_norm) 42 = .ok (.iload 4, 2) := by decide +kernel
theorem dd_X10_norm_44 : decode (zc mm_X10_norm) 44 = .ok (.iload 6, 2) := by decide +kernel
theorem dd_X10_norm_46 : decode (zc mm_X10_norm) 46 = .ok (.aload_n 0, 1) := by decide +kernel
theorem dd_X10_norm_47 : decode (zc mm_X10_norm) 47 = .ok (.getfield 43, 3) := by decide +kernel
theorem dd_X10_norm_50 : decode (zc mm_X10_norm) 50 = .ok (.getfield 229, 3) := by decide +kernel
theorem dd_X10_norm_53 : decode (zc mm_X10_norm) 53 = .ok (.invokevirtual 232, 3) := by decide +kernel
theorem dd_X10_norm_56 : decode (zc mm_X10_norm) 56 = .ok (.aload_n 0, 1) := by decide +kernel
theorem dd_X10_norm_57 : decode (zc mm_X10_norm) 57 = .ok (.getfield 12, 3) := by decide +kernel
theorem dd_X10_norm_60 : decode (zc mm_X10_norm) 60 = .ok (.getfield 135, 3) := by decide +kernel
theorem dd_X10_norm_63 : decode (zc mm_X10_norm) 63 = .ok (.iload_n 2, 1) := by decide +kernel
theorem dd_X10_norm_64 : decode (zc mm_X10_norm) 64 = .ok (.aaload, 1) := by decide +kernel
theorem dd_X10_norm_65 : decode (zc mm_X10_norm) 65 = .ok (.iload_n 3, 1) := by decide +kernel
theorem dd_X10_norm_66 : decode (zc mm_X10_norm) 66 = .ok (.iload 4, 2) := by decide +kernel
theorem dd_X10_norm_68 : decode (zc mm_X10_norm) 68 = .ok (.iload 6, 2) := by decide +kernel
theorem dd_X10_norm_70 : decode (zc mm_X10_norm) 70 = .ok (.aload_n 0, 1) := by decide +kernel
theorem dd_X10_norm_71 : decode (zc mm_X10_norm) 71 = .ok (.getfield 43, 3) := by decide +kernel
theorem dd_X10_norm_74 : decode (zc mm_X10_norm) 74 = .ok (.getfield 236, 3) := by decide +kernel
theorem dd_X10_norm_77 : decode (zc mm_X10_norm) 77 = .ok (.invokevirtual 232, 3) := by decide +kernel
theorem dd_X10_norm_80 : decode (zc mm_X10_norm) 80 = .ok (.aload_n 0, 1) := by decide +kernel
theorem dd_X10_norm_81 : decode (zc mm_X10_norm) 81 = .ok (.getfield 43, 3) := by decide +kernel
theorem dd_X10_norm_84 : decode (zc mm_X10_norm) 84 = .ok (.getfield 229, 3) := by decide +kernel
theorem dd_X10_norm_87 : decode (zc mm_X10_norm) 87 = .ok (.invokestatic 203, 3) := by decide +kernel
theorem dd_X10_norm_90 : decode (zc mm_X10_norm) 90 = .ok (.istore 7, 2) := by decide +kernel
theorem dd_X10_norm_92 : decode (zc mm_X10_norm) 92 = .ok (.iload 7, 2) := by decide +kernel
theorem dd_X10_norm_94 : decode (zc mm_X10_norm) 94 = .ok (.ifCond .ge 6, 3) := by decide +kernel
theorem dd_X10_norm_97 : decode (zc mm_X10_norm) 97 = .ok (.bipush (-9), 2) := by decide +kernel
theorem dd_X10_norm_99 : decode (zc mm_X10_norm) 99 = .ok (.ireturn, 1) := by decide +kernel
theorem dd_X10_norm_100 : decode (zc mm_X10_norm) 100 = .ok (.aload_n 0, 1) := by decide +kernel
theorem dd_X10_norm_101 : decode (zc mm_X10_norm) 101 = .ok (.getfield 36, 3) := by decide +kernel
theorem dd_X10_norm_104 : decode (zc mm_X10_norm) 104 = .ok (.iload 7, 2) := by decide +kernel
theorem dd_X10_norm_106 : decode (zc mm_X10_norm) 106 = .ok (.iconst 0, 1) := by decide +kernel
theorem dd_X10_norm_107 : decode (zc mm_X10_norm) 107 = .ok (.invokevirtual 239, 3) := by decide +kernel
theorem dd_X10_norm_110 : decode (zc mm_X10_norm) 110 = .ok (.aload_n 0, 1) := by decide +kernel
theorem dd_X10_norm_111 : decode (zc mm_X10_norm) 111 = .ok (.getfield 43, 3) := by decide +kernel
theorem dd_X10_norm_114 : decode (zc mm_X10_norm) 114 = .ok (.aload_n 0, 1) := by decide +kernel
theorem dd_X10_norm_115 : decode (zc mm_X10_norm) 115 = .ok (.getfield 36, 3) := by decide +kernel
theorem dd_X10_norm_118 : decode (zc mm_X10_norm) 118 = .ok (.iload 7, 2) := by decide +kernel
theorem dd_X10_norm_120 : decode (zc mm_X10_norm) 120 = .ok (.iload 6, 2) := by decide +kernel
theorem dd_X10_norm_122 : decode (zc mm_X10_norm) 122 = .ok (.invokevirtual 243, 3) := by decide +kernel
theorem dd_X10_norm_125 : decode (zc mm_X10_norm) 125 = .ok (.aload_n 0, 1) := by decide +kernel
theorem dd_X10_norm_126 : decode (zc mm_X10_norm) 126 = .ok (.getfield 36, 3) := by decide +kernel
theorem dd_X10_norm_129 : decode (zc mm_X10_norm) 129 = .ok (.iload 6, 2) := by decide +kernel
theorem dd_X10_norm_131 : decode (zc mm_X10_norm) 131 = .ok (.invokevirtual 247, 3) := by decide +kernel
theorem dd_X10_norm_134 : decode (zc mm_X10_norm) 134 = .ok (.aload_n 0, 1) := by decide +kernel
theorem dd_X10_norm_135 : decode (zc mm_X10_norm) 135 = .ok (.getfield 36, 3) := by decide +kernel
theorem dd_X10_norm_138 : decode (zc mm_X10_norm) 138 = .ok (.getfield 200, 3) := by decide +kernel
theorem dd_X10_norm_141 : decode (zc mm_X10_norm) 141 = .ok (.iconst 0, 1) := by decide +kernel
theorem dd_X10_norm_142 : decode (zc mm_X10_norm) 142 = .ok (.iaload, 1) := by decide +kernel
theorem dd_X10_norm_143 : decode (zc mm_X10_norm) 143 = .ok (.ireturn, 1) := by decide +kernel
theorem dd_X10_extra_0 : decode (zc mm_X10_extra) 0 = .ok (.aload_n 0, 1) := by decide +kernel
theorem dd_X10_extra_1 : decode (zc mm_X10_extra) 1 = .ok (.iload_n 1, 1) := by decide +kernel
theorem dd_X10_extra_2 : decode (zc mm_X10_extra) 2 = .ok (.iload_n 2, 1) := by decide +kernel
theorem dd_X10_extra_3 : decode (zc mm_X10_extra) 3 = .ok (.iload_n 3, 1) := by decide +kernel
theorem dd_X10_extra_4 : decode (zc mm_X10_extra) 4 = .ok (.iconst 0, 1) := by decide +kernel
theorem dd_X10_extra_5 : decode (zc mm_X10_extra) 5 = .ok (.invokevirtual 181, 3) := by decide +kernel
theorem dd_X10_extra_8 : decode (zc mm_X10_extra) 8 = .ok (.istore 4, 2) := by decide +kernel
theorem dd_X10_extra_10 : decode (zc mm_X10_extra) 10 = .ok (.iload 4, 2) := by decide +kernel
theorem dd_X10_extra_12 : decode (zc mm_X10_extra) 12 = .ok (.ifCond .eq 10, 3) := by decide +kernel
theorem dd_X10_extra_15 : decode (zc mm_X10_extra) 15 = .ok (.aload_n 0, 1) := by decide +kernel
theorem dd_X10_extra_16 : decode (zc mm_X10_extra) 16 = .ok (.iload 4, 2) := by decide +kernel
theorem dd_X10_extra_18 : decode (zc mm_X10_extra) 18 = .ok (.invokevirtual 76, 3) := by decide +kernel
theorem dd_X10_extra_21 : decode (zc mm_X10_extra) 21 = .ok (.ireturn, 1) := by decide +kernel
theorem dd_X10_extra_22 : decode (zc mm_X10_extra) 22 = .ok (.aload_n 0, 1) := by decide +kernel
theorem dd_X10_extra_23 : decode (zc mm_X10_extra) 23 = .ok (.getfield 12, 3) := by decide +kernel
theorem dd_X10_extra_26 : decode (zc mm_X10_extra) 26 = .ok (.getfield 135, 3) := by decide +kernel
theorem dd_X10_extra_29 : decode (zc mm_X10_extra) 29 = .ok (.iload_n 1, 1) := by decide +kernel
theorem dd_X10_extra_30 : decode (zc mm_X10_extra) 30 = .ok (.aaload, 1) := by decide +kernel
theorem dd_X10_extra_31 : decode (zc mm_X10_extra) 31 = .ok (.iload_n 3, 1) := by decide +kernel
theorem dd_X10_extra_32 : decode (zc mm_X10_extra) 32 = .ok (.aload_n 0, 1) := by decide +kernel
theorem dd_X10_extra_33 : decode (zc mm_X10_extra) 33 = .ok (.getfield 43, 3) := by decide +kernel
theorem dd_X10_extra_36 : decode (zc mm_X10_extra) 36 = .ok (.getfield 229, 3) := by decide +kernel
theorem dd_X10_extra_39 : decode (zc mm_X10_extra) 39 = .ok (.invokevirtual 250, 3) := by decide +kernel
theorem dd_X10_extra_42 : decode (zc mm_X10_extra) 42 = .ok (.aload_n 0, 1) := by decide +kernel
theorem dd_X10_extra_43 : decode (zc mm_X10_extra) 43 = .ok (.getfield 12, 3) := by decide +kernel
theorem dd_X10_extra_46 : decode (zc mm_X10_extra) 46 = .ok (.getfield 135, 3) := by decide +kernel
theorem dd_X10_extra_49 : decode (zc mm_X10_extra) 49 = .ok (.iload_n 2, 1) := by decide +kernel
theorem dd_X10_extra_50 : decode (zc mm_X10_extra) 50 = .ok (.aaload, 1) := by decide +kernel
theorem dd_X10_extra_51 : decode (zc mm_X10_extra) 51 = .ok (.iload_n 3, 1) := by decide +kernel
theorem dd_X10_extra_52 : decode (zc mm_X10_extra) 52 = .ok (.aload_n 0, 1) := by decide +kernel
theorem dd_X10_extra_53 : decode (zc mm_X10_extra) 53 = .ok (.getfield 43, 3) := by decide +kernel
theorem dd_X10_extra_56 : decode (zc mm_X10_extra) 56 = .ok (.getfield 236, 3) := by decide +kernel
theorem dd_X10_extra_59 : decode (zc mm_X10_extra) 59 = .ok (.invokevirtual 250, 3) := by decide +kernel
theorem dd_X10_extra_62 : decode (zc mm_X10_extra) 62 = .ok (.aload_n 0, 1) := by decide +kernel
theorem dd_X10_extra_63 : decode (zc mm_X10_extra) 63 = .ok (.getfield 43, 3) := by decide +kernel
theorem dd_X10_extra_66 : decode (zc mm_X10_extra) 66 = .ok (.aload_n 0, 1) := by decide +kernel
theorem dd_X10_extra_67 : decode (zc mm_X10_extra) 67 = .ok (.getfield 12, 3) := by decide +kernel
theorem dd_X10_extra_70 : decode (zc mm_X10_extra) 70 = .ok (.getfield 114, 3) := by decide +kernel
theorem dd_X10_extra_73 : decode (zc mm_X10_extra) 73 = .ok (.invokevirtual 254, 3) := by decide +kernel
theorem dd_X10_extra_76 : decode (zc mm_X10_extra) 76 = .ok (.aload_n 0, 1) := by decide +kernel
theorem dd_X10_extra_77 : decode (zc mm_X10_extra) 77 = .ok (.getfield 43, 3) := by decide +kernel
theorem dd_X10_extra_80 : decode (zc mm_X10_extra) 80 = .ok (.invokevirtual 226, 3) := by decide +kernel
theorem dd_X10_extra_83 : decode (zc mm_X10_extra) 83 = .ok (.ireturn, 1) := by decide +kernel
theorem dd_X10_zeros_0 : decode (zc mm_X10_zeros) 0 = .ok (.aload_n 0, 1) := by decide +kernel
theorem dd_X10_zeros_1 : decode (zc mm_X10_zeros) 1 = .ok (.iload_n 1, 1) := by decide +kernel
theorem dd_X10_zeros_2 : decode (zc mm_X10_zeros) 2 = .ok (.iload_n 2, 1) := by decide +kernel
theorem dd_X10_zeros_3 : decode (zc mm_X10_zeros) 3 = .ok (.iload_n 3, 1) := by decide +kernel
theorem dd_X10_zeros_4 : decode (zc mm_X10_zeros) 4 = .ok (.iconst 0, 1) := by decide +kernel
theorem dd_X10_zeros_5 : decode (zc mm_X10_zeros) 5 = .ok (.invokevirtual 181, 3) := by decide +kernel
theorem dd_X10_zeros_8 : decode (zc mm_X10_zeros) 8 = .ok (.istore 4, 2) := by decide +kernel
theorem dd_X10_zeros_10 : decode (zc mm_X10_zeros) 10 = .ok (.iload 4, 2) := by decide +kernel
theorem dd_X10_zeros_12 : decode (zc mm_X10_zeros) 12 = .ok (.ifCond .eq 10, 3) := by decide +kernel
theorem dd_X10_zeros_15 : decode (zc mm_X10_zeros) 15 = .ok (.aload_n 0, 1) := by decide +kernel
theorem dd_X10_zeros_16 : decode (zc mm_X10_zeros) 16 = .ok (.iload 4, 2) := by decide +kernel
theorem dd_X10_zeros_18 : decode (zc mm_X10_zeros) 18 = .ok (.invokevirtual 76, 3) := by decide +kernel
theorem dd_X10_zeros_21 : decode (zc mm_X10_zeros) 21 = .ok (.ireturn, 1) := by decide +kernel
theorem dd_X10_zeros_22 : decode (zc mm_X10_zeros) 22 = .ok (.aload_n 0, 1) := by decide +kernel
theorem dd_X10_zeros_23 : decode (zc mm_X10_zeros) 23 = .ok (.iload_n 1, 1) := by decide +kernel
theorem dd_X10_zeros_24 : decode (zc mm_X10_zeros) 24 = .ok (.iload_n 2, 1) := by decide +kernel
theorem dd_X10_zeros_25 : decode (zc mm_X10_zeros) 25 = .ok (.iload_n 3, 1) := by decide +kernel
theorem dd_X10_zeros_26 : decode (zc mm_X10_zeros) 26 = .ok (.iconst 0, 1) := by decide +kernel
theorem dd_X10_zeros_27 : decode (zc mm_X10_zeros) 27 = .ok (.invokevirtual 196, 3) := by decide +kernel
theorem dd_X10_zeros_30 : decode (zc mm_X10_zeros) 30 = .ok (.iconst 0, 1) := by decide +kernel
theorem dd_X10_zeros_31 : decode (zc mm_X10_zeros) 31 = .ok (.istore 5, 2) := by decide +kernel
theorem dd_X10_zeros_33 : decode (zc mm_X10_zeros) 33 = .ok (.iconst 0, 1) := by decide +kernel
theorem dd_X10_zeros_34 : decode (zc mm_X10_zeros) 34 = .ok (.istore 6, 2) := by decide +kernel
theorem dd_X10_zeros_36 : decode (zc mm_X10_zeros) 36 = .ok (.iload 6, 2) := by decide +kernel
theorem dd_X10_zeros_38 : decode (zc mm_X10_zeros) 38 = .ok (.aload_n 0, 1) := by decide +kernel
theorem dd_X10_zeros_39 : decode (zc mm_X10_zeros) 39 = .ok (.getfield 12, 3) := by decide +kernel
theorem dd_X10_zeros_42 : decode (zc mm_X10_zeros) 42 = .ok (.getfield 114, 3) := by decide +kernel
theorem dd_X10_zeros_45 : decode (zc mm_X10_zeros) 45 = .ok (.if_icmp .ge 40, 3) := by decide +kernel
theorem dd_X10_zeros_48 : decode (zc mm_X10_zeros) 48 = .ok (.aload_n 0, 1) := by decide +kernel
theorem dd_X10_zeros_49 : decode (zc mm_X10_zeros) 49 = .ok (.getfield 36, 3) := by decide +kernel
theorem dd_X10_zeros_52 : decode (zc mm_X10_zeros) 52 = .ok (.getfield 200, 3) := by decide +kernel
theorem dd_X10_zeros_55 : decode (zc mm_X10_zeros) 55 = .ok (.iload 6, 2) := by decide +kernel
theorem dd_X10_zeros_57 : decode (zc mm_X10_zeros) 57 = .ok (.aload_n 0, 1) := by decide +kernel
theorem dd_X10_zeros_58 : decode (zc mm_X10_zeros) 58 = .ok (.getfield 12, 3) := by decide +kernel
theorem dd_X10_zeros_61 : decode (zc mm_X10_zeros) 61 = .ok (.getfield 114, 3) := by decide +kernel
theorem dd_X10_zeros_64 : decode (zc mm_X10_zeros) 64 = .ok (.invokestatic 210, 3) := by decide +kernel
theorem dd_X10_zeros_67 : decode (zc mm_X10_zeros) 67 = .ok (.ifCond .ne 12, 3) := by decide +kernel
theorem dd_X10_zeros_70 : decode (zc mm_X10_zeros) 70 = .ok (.iload 5, 2) := by decide +kernel
theorem dd_X10_zeros_72 : decode (zc mm_X10_zeros) 72 = .ok (.iconst 1, 1) := by decide +kernel
theorem dd_X10_zeros_73 : decode (zc mm_X10_zeros) 73 = .ok (.iload 6, 2) := by decide +kernel
theorem dd_X10_zeros_75 : decode (zc mm_X10_zeros) 75 = .ok (.ishl, 1) := by decide +kernel
theorem dd_X10_zeros_76 : decode (zc mm_X10_zeros) 76 = .ok (.ior, 1) := by decide +kernel
theorem dd_X10_zeros_77 : decode (zc mm_X10_zeros) 77 = .ok (.istore 5, 2) := by decide +kernel
theorem dd_X10_zeros_79 : decode (zc mm_X10_zeros) 79 = .ok (.iinc 6 1, 3) := by decide +kernel
theorem dd_X10_zeros_82 : decode (zc mm_X10_zeros) 82 = .ok (.goto (-46), 3) := by decide +kernel
theorem dd_X10_zeros_85 : decode (zc mm_X10_zeros) 85 = .ok (.iload 5, 2) := by decide +kernel
theorem dd_X10_zeros_87 : decode (zc mm_X10_zeros) 87 = .ok (.ireturn, 1) := by decide +kernel
theorem dd_X10_lifted_0 : decode (zc mm_X10_lifted) 0 = .ok (.aload_n 0, 1) := by decide +kernel
theorem dd_X10_lifted_1 : decode (zc mm_X10_lifted) 1 = .ok (.getfield 12, 3) := by decide +kernel
theorem dd_X10_lifted_4 : decode (zc mm_X10_lifted) 4 = .ok (.iload_n 1, 1) := by decide +kernel
theorem dd_X10_lifted_5 : decode (zc mm_X10_lifted) 5 = .ok (.invokevirtual 132, 3) := by decide +kernel
theorem dd_X10_lifted_8 : decode (zc mm_X10_lifted) 8 = .ok (.ifCond .eq 21, 3) := by decide +kernel
theorem dd_X10_lifted_11 : decode (zc mm_X10_lifted) 11 = .ok (.aload_n 0, 1) := by decide +kernel
theorem dd_X10_lifted_12 : decode (zc mm_X10_lifted) 12 = .ok (.getfield 12, 3) := by decide +kernel
theorem dd_X10_lifted_15 : decode (zc mm_X10_lifted) 15 = .ok (.iload_n 2, 1) := by decide +kernel
theorem dd_X10_lifted_16 : decode (zc mm_X10_lifted) 16 = .ok (.invokevirtual 132, 3) := by decide +kernel
theorem dd_X10_lifted_19 : decode (zc mm_X10_lifted) 19 = .ok (.ifCond .eq 10, 3) := by decide +kernel
theorem dd_X10_lifted_22 : decode (zc mm_X10_lifted) 22 = .ok (.iload_n 3, 1) := by decide +kernel
theorem dd_X10_lifted_23 : decode (zc mm_X10_lifted) 23 = .ok (.invokestatic 257, 3) := by decide +kernel
theorem dd_X10_lifted_26 : decode (zc mm_X10_lifted) 26 = .ok (.ifCond .ne 9, 3) := by decide +kernel
theorem dd_X10_lifted_29 : decode (zc mm_X10_lifted) 29 = .ok (.aload_n 0, 1) := by decide +kernel
theorem dd_X10_lifted_30 : decode (zc mm_X10_lifted) 30 = .ok (.iconst (-1), 1) := by decide +kernel
theorem dd_X10_lifted_31 : decode (zc mm_X10_lifted) 31 = .ok (.invokevirtual 76, 3) := by decide +kernel
theorem dd_X10_lifted_34 : decode (zc mm_X10_lifted) 34 = .ok (.ireturn, 1) := by decide +kernel
theorem dd_X10_lifted_35 : decode (zc mm_X10_lifted) 35 = .ok (.aload_n 0, 1) := by decide +kernel
theorem dd_X10_lifted_36 : decode (zc mm_X10_lifted) 36 = .ok (.iload_n 1, 1) := by decide +kernel
theorem dd_X10_lifted_37 : decode (zc mm_X10_lifted) 37 = .ok (.iload_n 2, 1) := by decide +kernel
theorem dd_X10_lifted_38 : decode (zc mm_X10_lifted) 38 = .ok (.bipush (-9), 2) := by decide +kernel
theorem dd_X10_lifted_40 : decode (zc mm_X10_lifted) 40 = .ok (.invokevirtual 260, 3) := by decide +kernel
theorem dd_X10_lifted_43 : decode (zc mm_X10_lifted) 43 = .ok (.iload_n 3, 1) := by decide +kernel
theorem dd_X10_lifted_44 : decode (zc mm_X10_lifted) 44 = .ok (.ifCond .ne 13, 3) := by decide +kernel
theorem dd_X10_lifted_47 : decode (zc mm_X10_lifted) 47 = .ok (.aload_n 0, 1) := by decide +kernel
theorem dd_X10_lifted_48 : decode (zc mm_X10_lifted) 48 = .ok (.getfield 57, 3) := by decide +kernel
theorem dd_X10_lifted_51 : decode (zc mm_X10_lifted) 51 = .ok (.getfield 263, 3) := by decide +kernel
theorem dd_X10_lifted_54 : decode (zc mm_X10_lifted) 54 = .ok (.goto 10, 3) := by decide +kernel
theorem dd_X10_lifted_57 : decode (zc mm_X10_lifted) 57 = .ok (.aload_n 0, 1) := by decide +kernel
theorem dd_X10_lifted_58 : decode (zc mm_X10_lifted) 58 = .ok (.getfield 57, 3) := by decide +kernel
theorem dd_X10_lifted_61 : decode (zc mm_X10_lifted) 61 = .ok (.getfield 266, 3) := by decide +kernel
theorem dd_X10_lifted_64 : decode (zc mm_X10_lifted) 64 = .ok (.ireturn, 1) := by decide +kernel
theorem dd_X10_root_0 : decode (zc mm_X10_root) 0 = .ok (.aload_n 0, 1) := by decide +kernel
theorem dd_X10_root_1 : decode (zc mm_X10_root) 1 = .ok (.getfield 12, 3) := by decide +kernel
theorem dd_X10_root_4 : decode (zc mm_X10_root) 4 = .ok (.iload_n 1, 1) := by decide +kernel
theorem dd_X10_root_5 : decode (zc mm_X10_root) 5 = .ok (.invokevirtual 132, 3) := by decide +kernel
theorem dd_X10_root_8 : decode (zc mm_X10_root) 8 = .ok (.ifCond .eq 14, 3) := by decide +kernel
theorem dd_X10_root_11 : decode (zc mm_X10_root) 11 = .ok (.aload_n 0, 1) := by decide +kernel
theorem dd_X10_root_12 : decode (zc mm_X10_root) 12 = .ok (.getfield 12, 3) := by decide +kernel
theorem dd_X10_root_15 : decode (zc mm_X10_root) 15 = .ok (.iload_n 2, 1) := by decide +kernel
theorem dd_X10_root_16 : decode (zc mm_X10_root) 16 = .ok (.invokevirtual 132, 3) := by decide +kernel
theorem dd_X10_root_19 : decode (zc mm_X10_root) 19 = .ok (.ifCond .ne 9, 3) := by decide +kernel
theorem dd_X10_root_22 : decode (zc mm_X10_root) 22 = .ok (.aload_n 0, 1) := by decide +kernel
theorem dd_X10_root_23 : decode (zc mm_X10_root) 23 = .ok (.iconst (-1), 1) := by decide +kernel
theorem dd_X10_root_24 : decode (zc mm_X10_root) 24 = .ok (.invokevirtual 76, 3) := by decide +kernel
theorem dd_X10_root_27 : decode (zc mm_X10_root) 27 = .ok (.ireturn, 1) := by decide +kernel
theorem dd_X10_root_28 : decode (zc mm_X10_root) 28 = .ok (.iload_n 3, 1) := by decide +kernel
theorem dd_X10_root_29 : decode (zc mm_X10_root) 29 = .ok (.iconst (-1), 1) := by decide +kernel
theorem dd_X10_root_30 : decode (zc mm_X10_root) 30 = .ok (.if_icmp .ge 10, 3) := by decide +kernel
theorem dd_X10_root_33 : decode (zc mm_X10_root) 33 = .ok (.aload_n 0, 1) := by decide +kernel
theorem dd_X10_root_34 : decode (zc mm_X10_root) 34 = .ok (.bipush (-4), 2) := by decide +kernel
theorem dd_X10_root_36 : decode (zc mm_X10_root) 36 = .ok (.invokevirtual 76, 3) := by decide +kernel
theorem dd_X10_root_39 : decode (zc mm_X10_root) 39 = .ok (.ireturn, 1) := by decide +kernel
theorem dd_X10_root_40 : decode (zc mm_X10_root) 40 = .ok (.aload_n 0, 1) := by decide +kernel
theorem dd_X10_root_41 : decode (zc mm_X10_root) 41 = .ok (.iload_n 1, 1) := by decide +kernel
theorem dd_X10_root_42 : decode (zc mm_X10_root) 42 = .ok (.iload_n 2, 1) := by decide +kernel
theorem dd_X10_root_43 : decode (zc mm_X10_root) 43 = .ok (.iload_n 3, 1) := by decide +kernel
theorem dd_X10_root_44 : decode (zc mm_X10_root) 44 = .ok (.invokevirtual 260, 3) := by decide +kernel
theorem dd_X10_root_47 : decode (zc mm_X10_root) 47 = .ok (.iload_n 3, 1) := by decide +kernel
theorem dd_X10_root_48 : decode (zc mm_X10_root) 48 = .ok (.iconst (-1), 1) := by decide +kernel
theorem dd_X10_root_49 : decode (zc mm_X10_root) 49 = .ok (.if_icmp .ne 13, 3) := by decide +kernel
theorem dd_X10_root_52 : decode (zc mm_X10_root) 52 = .ok (.aload_n 0, 1) := by decide +kernel
theorem dd_X10_root_53 : decode (zc mm_X10_root) 53 = .ok (.getfield 57, 3) := by decide +kernel
theorem dd_X10_root_56 : decode (zc mm_X10_root) 56 = .ok (.getfield 269, 3) := by decide +kernel
theorem dd_X10_root_59 : decode (zc mm_X10_root) 59 = .ok (.goto 10, 3) := by decide +kernel
theorem dd_X10_root_62 : decode (zc mm_X10_root) 62 = .ok (.aload_n 0, 1) := by decide +kernel
theorem dd_X10_root_63 : decode (zc mm_X10_root) 63 = .ok (.getfield 57, 3) := by decide +kernel
theorem dd_X10_root_66 : decode (zc mm_X10_root) 66 = .ok (.getfield 272, 3) := by decide +kernel
theorem dd_X10_root_69 : decode (zc mm_X10_root) 69 = .ok (.ireturn, 1) := by decide +kernel
theorem dd_X10_without_0 : decode (zc mm_X10_without) 0 = .ok (.aload_n 0, 1) := by decide +kernel
theorem dd_X10_without_1 : decode (zc mm_X10_without) 1 = .ok (.getfield 12, 3) := by decide +kernel
theorem dd_X10_without_4 : decode (zc mm_X10_without) 4 = .ok (.iload_n 1, 1) := by decide +kernel
theorem dd_X10_without_5 : decode (zc mm_X10_without) 5 = .ok (.invokevirtual 132, 3) := by decide +kernel
theorem dd_X10_without_8 : decode (zc mm_X10_without) 8 = .ok (.ifCond .eq 14, 3) := by decide +kernel
theorem dd_X10_without_11 : decode (zc mm_X10_without) 11 = .ok (.aload_n 0, 1) := by decide +kernel
theorem dd_X10_without_12 : decode (zc mm_X10_without) 12 = .ok (.getfield 12, 3) := by decide +kernel
theorem dd_X10_without_15 : decode (zc mm_X10_without) 15 = .ok (.iload_n 2, 1) := by decide +kernel
theorem dd_X10_without_16 : decode (zc mm_X10_without) 16 = .ok (.invokevirtual 132, 3) := by decide +kernel
theorem dd_X10_without_19 : decode (zc mm_X10_without) 19 = .ok (.ifCond .ne 9, 3) := by decide +kernel
theorem dd_X10_without_22 : decode (zc mm_X10_without) 22 = .ok (.aload_n 0, 1) := by decide +kernel
theorem dd_X10_without_23 : decode (zc mm_X10_without) 23 = .ok (.iconst (-1), 1) := by decide +kernel
theorem dd_X10_without_24 : decode (zc mm_X10_without) 24 = .ok (.invokevirtual 76, 3) := by decide +kernel
theorem dd_X10_without_27 : decode (zc mm_X10_without) 27 = .ok (.ireturn, 1) := by decide +kernel
theorem dd_X10_without_28 : decode (zc mm_X10_without) 28 = .ok (.aload_n 0, 1) := by decide +kernel
theorem dd_X10_without_29 : decode (zc mm_X10_without) 29 = .ok (.iload_n 1, 1) := by decide +kernel
theorem dd_X10_without_30 : decode (zc mm_X10_without) 30 = .ok (.iload_n 2, 1) := by decide +kernel
theorem dd_X10_without_31 : decode (zc mm_X10_without) 31 = .ok (.bipush (-9), 2) := by decide +kernel
theorem dd_X10_without_33 : decode (zc mm_X10_without) 33 = .ok (.invokevirtual 260, 3) := by decide +kernel
theorem dd_X10_without_36 : decode (zc mm_X10_without) 36 = .ok (.aload_n 0, 1) := by decide +kernel
theorem dd_X10_without_37 : decode (zc mm_X10_without) 37 = .ok (.getfield 57, 3) := by decide +kernel
theorem dd_X10_without_40 : decode (zc mm_X10_without) 40 = .ok (.getfield 275, 3) := by decide +kernel
theorem dd_X10_without_43 : decode (zc mm_X10_without) 43 = .ok (.ireturn, 1) := by decide +kernel
theorem dd_X10_corner_0 : decode (zc mm_X10_corner) 0 = .ok (.aload_n 0, 1) := by decide +kernel
theorem dd_X10_corner_1 : decode (zc mm_X10_corner) 1 = .ok (.iload_n 1, 1) := by decide +kernel
theorem dd_X10_corner_2 : decode (zc mm_X10_corner) 2 = .ok (.iload_n 1, 1) := by decide +kernel
theorem dd_X10_corner_3 : decode (zc mm_X10_corner) 3 = .ok (.invokevirtual 278, 3) := by decide +kernel
theorem dd_X10_corner_6 : decode (zc mm_X10_corner) 6 = .ok (.istore_n 3, 1) := by decide +kernel
theorem dd_X10_corner_7 : decode (zc mm_X10_corner) 7 = .ok (.iload_n 3, 1) := by decide +kernel
theorem dd_X10_corner_8 : decode (zc mm_X10_corner) 8 = .ok (.ifCond .eq 9, 3) := by decide +kernel
theorem dd_X10_corner_11 : decode (zc mm_X10_corner) 11 = .ok (.aload_n 0, 1) := by decide +kernel
theorem dd_X10_corner_12 : decode (zc mm_X10_corner) 12 = .ok (.iload_n 3, 1) := by decide +kernel
theorem dd_X10_corner_13 : decode (zc mm_X10_corner) 13 = .ok (.invokevirtual 76, 3) := by decide +kernel
theorem dd_X10_corner_16 : decode (zc mm_X10_corner) 16 = .ok (.ireturn, 1) := by decide +kernel
theorem dd_X10_corner_17 : decode (zc mm_X10_corner) 17 = .ok (.iload_n 2, 1) := by decide +kernel
theorem dd_X10_corner_18 : decode (zc mm_X10_corner) 18 = .ok (.ifCond .ge 10, 3) := by decide +kernel
theorem dd_X10_corner_21 : decode (zc mm_X10_corner) 21 = .ok (.aload_n 0, 1) := by decide +kernel
theorem dd_X10_corner_22 : decode (zc mm_X10_corner) 22 = .ok (.bipush (-4), 2) := by decide +kernel
theorem dd_X10_corner_24 : decode (zc mm_X10_corner) 24 = .ok (.invokevirtual 76, 3) := by decide +kernel
theorem dd_X10_corner_27 : decode (zc mm_X10_corner) 27 = .ok (.ireturn, 1) := by decide +kernel
theorem dd_X10_corner_28 : decode (zc mm_X10_corner) 28 = .ok (.aload_n 0, 1) := by decide +kernel
theorem dd_X10_corner_29 : decode (zc mm_X10_corner) 29 = .ok (.getfield 50, 3) := by decide +kernel
theorem dd_X10_corner_32 : decode (zc mm_X10_corner) 32 = .ok (.aload_n 0, 1) := by decide +kernel
theorem dd_X10_corner_33 : decode (zc mm_X10_corner) 33 = .ok (.getfield 12, 3) := by decide +kernel
theorem dd_X10_corner_36 : decode (zc mm_X10_corner) 36 = .ok (.getfield 135, 3) := by decide +kernel
theorem dd_X10_corner_39 : decode (zc mm_X10_corner) 39 = .ok (.iload_n 1, 1) := by decide +kernel
theorem dd_X10_corner_40 : decode (zc mm_X10_corner) 40 = .ok (.aaload, 1) := by decide +kernel
theorem dd_X10_corner_41 : decode (zc mm_X10_corner) 41 = .ok (.invokevirtual 282, 3) := by decide +kernel
theorem dd_X10_corner_44 : decode (zc mm_X10_corner) 44 = .ok (.aload_n 0, 1) := by decide +kernel
theorem dd_X10_corner_45 : decode (zc mm_X10_corner) 45 = .ok (.getfield 50, 3) := by decide +kernel
theorem dd_X10_corner_48 : decode (zc mm_X10_corner) 48 = .ok (.iload_n 2, 1) := by decide +kernel
theorem dd_X10_corner_49 : decode (zc mm_X10_corner) 49 = .ok (.invokevirtual 286, 3) := by decide +kernel
theorem dd_X10_corner_52 : decode (zc mm_X10_corner) 52 = .ok (.ireturn, 1) := by decide +kernel
theorem dd_X10_area_0 : decode (zc mm_X10_area) 0 = .ok (.aload_n 0, 1) := by decide +kernel
theorem dd_X10_area_1 : decode (zc mm_X10_area) 1 = .ok (.iload_n 1, 1) := by decide +kernel
theorem dd_X10_area_2 : decode (zc mm_X10_area) 2 = .ok (.iload_n 1, 1) := by decide +kernel
theorem dd_X10_area_3 : decode (zc mm_X10_area) 3 = .ok (.invokevirtual 278, 3) := by decide +kernel
theorem dd_X10_area_6 : decode (zc mm_X10_area) 6 = .ok (.istore_n 2, 1) := by decide +kernel
theorem dd_X10_area_7 : decode (zc mm_X10_area) 7 = .ok (.iload_n 2, 1) := by decide +kernel
theorem dd_X10_area_8 : decode (zc mm_X10_area) 8 = .ok (.ifCond .eq 9, 3) := by decide +kernel
theorem dd_X10_area_11 : decode (zc mm_X10_area) 11 = .ok (.aload_n 0, 1) := by decide +kernel
theorem dd_X10_area_12 : decode (zc mm_X10_area) 12 = .ok (.iload_n 2, 1) := by decide +kernel
theorem dd_X10_area_13 : decode (zc mm_X10_area) 13 = .ok (.invokevirtual 76, 3) := by decide +kernel
theorem dd_X10_area_16 : decode (zc mm_X10_area) 16 = .ok (.ireturn, 1) := by decide +kernel
theorem dd_X10_area_17 : decode (zc mm_X10_area) 17 = .ok (.aload_n 0, 1) := by decide +kernel
theorem dd_X10_area_18 : decode (zc mm_X10_area) 18 = .ok (.getfield 50, 3) := by decide +kernel
theorem dd_X10_area_21 : decode (zc mm_X10_area) 21 = .ok (.aload_n 0, 1) := by decide +kernel
theorem dd_X10_area_22 : decode (zc mm_X10_area) 22 = .ok (.getfield 12, 3) := by decide +kernel
theorem dd_X10_area_25 : decode (zc mm_X10_area) 25 = .ok (.getfield 135, 3) := by decide +kernel
theorem dd_X10_area_28 : decode (zc mm_X10_area) 28 = .ok (.iload_n 1, 1) := by decide +kernel
theorem dd_X10_area_29 : decode (zc mm_X10_area) 29 = .ok (.aaload, 1) := by decide +kernel
theorem dd_X10_area_30 : decode (zc mm_X10_area) 30 = .ok (.invokevirtual 282, 3) := by decide +kernel
theorem dd_X10_area_33 : decode (zc mm_X10_area) 33 = .ok (.aload_n 0, 1) := by decide +kernel
theorem dd_X10_area_34 : decode (zc mm_X10_area) 34 = .ok (.getfield 50, 3) := by decide +kernel
theorem dd_X10_area_37 : decode (zc mm_X10_area) 37 = .ok (.invokevirtual 289, 3) := by decide +kernel
theorem dd_X10_area_40 : decode (zc mm_X10_area) 40 = .ok (.ireturn, 1) := by decide +kernel
theorem dd_X10_sum_0 : decode (zc mm_X10_sum) 0 = .ok (.aload_n 0, 1) := by decide +kernel
theorem dd_X10_sum_1 : decode (zc mm_X10_sum) 1 = .ok (.iload_n 1, 1) := by decide +kernel
theorem dd_X10_sum_2 : decode (zc mm_X10_sum) 2 = .ok (.iload_n 2, 1) := by decide +kernel
theorem dd_X10_sum_3 : decode (zc mm_X10_sum) 3 = .ok (.invokevirtual 278, 3) := by decide +kernel
theorem dd_X10_sum_6 : decode (zc mm_X10_sum) 6 = .ok (.istore 4, 2) := by decide +kernel
theorem dd_X10_sum_8 : decode (zc mm_X10_sum) 8 = .ok (.iload 4, 2) := by decide +kernel
theorem dd_X10_sum_10 : decode (zc mm_X10_sum) 10 = .ok (.ifCond .eq 10, 3) := by decide +kernel
theorem dd_X10_sum_13 : decode (zc mm_X10_sum) 13 = .ok (.aload_n 0, 1) := by decide +kernel
theorem dd_X10_sum_14 : decode (zc mm_X10_sum) 14 = .ok (.iload 4, 2) := by decide +kernel
theorem dd_X10_sum_16 : decode (zc mm_X10_sum) 16 = .ok (.invokevirtual 76, 3) := by decide +kernel
theorem dd_X10_sum_19 : decode (zc mm_X10_sum) 19 = .ok (.ireturn, 1) := by decide +kernel
theorem dd_X10_sum_20 : decode (zc mm_X10_sum) 20 = .ok (.iload_n 3, 1) := by decide +kernel
theorem dd_X10_sum_21 : decode (zc mm_X10_sum) 21 = .ok (.iconst (-1), 1) := by decide +kernel
theorem dd_X10_sum_22 : decode (zc mm_X10_sum) 22 = .ok (.if_icmp .ge 10, 3) := by decide +kernel
theorem dd_X10_sum_25 : decode (zc mm_X10_sum) 25 = .ok (.aload_n 0, 1) := by decide +kernel
theorem dd_X10_sum_26 : decode (zc mm_X10_sum) 26 = .ok (.bipush (-4), 2) := by decide +kernel
theorem dd_X10_sum_28 : decode (zc mm_X10_sum) 28 = .ok (.invokevirtual 76, 3) := by decide +kernel
theorem dd_X10_sum_31 : decode (zc mm_X10_sum) 31 = .ok (.ireturn, 1) := by decide +kernel
theorem dd_X10_sum_32 : decode (zc mm_X10_sum) 32 = .ok (.aload_n 0, 1) := by decide +kernel
theorem dd_X10_sum_33 : decode (zc mm_X10_sum) 33 = .ok (.getfield 50, 3) := by decide +kernel
theorem dd_X10_sum_36 : decode (zc mm_X10_sum) 36 = .ok (.aload_n 0, 1) := by decide +kernel
theorem dd_X10_sum_37 : decode (zc mm_X10_sum) 37 = .ok (.getfield 12, 3) := by decide +kernel
theorem dd_X10_sum_40 : decode (zc mm_X10_sum) 40 = .ok (.getfield 135, 3) := by decide +kernel
theorem dd_X10_sum_43 : decode (zc mm_X10_sum) 43 = .ok (.iload_n 1, 1) := by decide +kernel
theorem dd_X10_sum_44 : decode (zc mm_X10_sum) 44 = .ok (.aaload, 1) := by decide +kernel
theorem dd_X10_sum_45 : decode (zc mm_X10_sum) 45 = .ok (.aload_n 0, 1) := by decide +kernel
theorem dd_X10_sum_46 : decode (zc mm_X10_sum) 46 = .ok (.getfield 12, 3) := by decide +kernel
theorem dd_X10_sum_49 : decode (zc mm_X10_sum) 49 = .ok (.getfield 135, 3) := by decide +kernel
theorem dd_X10_sum_52 : decode (zc mm_X10_sum) 52 = .ok (.iload_n 2, 1) := by decide +kernel
theorem dd_X10_sum_53 : decode (zc mm_X10_sum) 53 = .ok (.aaload, 1) := by decide +kernel
theorem dd_X10_sum_54 : decode (zc mm_X10_sum) 54 = .ok (.invokevirtual 292, 3) := by decide +kernel
theorem dd_X10_sum_57 : decode (zc mm_X10_sum) 57 = .ok (.iload_n 3, 1) := by decide +kernel
theorem dd_X10_sum_58 : decode (zc mm_X10_sum) 58 = .ok (.iconst (-1), 1) := by decide +kernel
theorem dd_X10_sum_59 : decode (zc mm_X10_sum) 59 = .ok (.if_icmp .ne 13, 3) := by decide +kernel
theorem dd_X10_sum_62 : decode (zc mm_X10_sum) 62 = .ok (.aload_n 0, 1) := by decide +kernel
theorem dd_X10_sum_63 : decode (zc mm_X10_sum) 63 = .ok (.getfield 50, 3) := by decide +kernel
theorem dd_X10_sum_66 : decode (zc mm_X10_sum) 66 = .ok (.invokevirtual 289, 3) := by decide +kernel
theorem dd_X10_sum_69 : decode (zc mm_X10_sum) 69 = .ok (.goto 11, 3) := by decide +kernel
theorem dd_X10_sum_72 : decode (zc mm_X10_sum) 72 = .ok (.aload_n 0, 1) := by decide +kernel
theorem dd_X10_sum_73 : decode (zc mm_X10_sum) 73 = .ok (.getfield 50, 3) := by decide +kernel
theorem dd_X10_sum_76 : decode (zc mm_X10_sum) 76 = .ok (.iload_n 3, 1) := by decide +kernel
theorem dd_X10_sum_77 : decode (zc mm_X10_sum) 77 = .ok (.invokevirtual 286, 3) := by decide +kernel
theorem dd_X10_sum_80 : decode (zc mm_X10_sum) 80 = .ok (.ireturn, 1) := by decide +kernel
theorem dd_X10_mixed_0 : decode (zc mm_X10_mixed) 0 = .ok (.aload_n 0, 1) := by decide +kernel
theorem dd_X10_mixed_1 : decode (zc mm_X10_mixed) 1 = .ok (.iload_n 1, 1) := by decide +kernel
theorem dd_X10_mixed_2 : decode (zc mm_X10_mixed) 2 = .ok (.iload_n 2, 1) := by decide +kernel
theorem dd_X10_mixed_3 : decode (zc mm_X10_mixed) 3 = .ok (.invokevirtual 278, 3) := by decide +kernel
theorem dd_X10_mixed_6 : decode (zc mm_X10_mixed) 6 = .ok (.istore_n 3, 1) := by decide +kernel
theorem dd_X10_mixed_7 : decode (zc mm_X10_mixed) 7 = .ok (.iload_n 3, 1) := by decide +kernel
theorem dd_X10_mixed_8 : decode (zc mm_X10_mixed) 8 = .ok (.ifCond .eq 9, 3) := by decide +kernel
theorem dd_X10_mixed_11 : decode (zc mm_X10_mixed) 11 = .ok (.aload_n 0, 1) := by decide +kernel
theorem dd_X10_mixed_12 : decode (zc mm_X10_mixed) 12 = .ok (.iload_n 3, 1) := by decide +kernel
theorem dd_X10_mixed_13 : decode (zc mm_X10_mixed) 13 = .ok (.invokevirtual 76, 3) := by decide +kernel
theorem dd_X10_mixed_16 : decode (zc mm_X10_mixed) 16 = .ok (.ireturn, 1) := by decide +kernel
theorem dd_X10_mixed_17 : decode (zc mm_X10_mixed) 17 = .ok (.aload_n 0, 1) := by decide +kernel
theorem dd_X10_mixed_18 : decode (zc mm_X10_mixed) 18 = .ok (.getfield 50, 3) := by decide +kernel
theorem dd_X10_mixed_21 : decode (zc mm_X10_mixed) 21 = .ok (.aload_n 0, 1) := by decide +kernel
theorem dd_X10_mixed_22 : decode (zc mm_X10_mixed) 22 = .ok (.getfield 12, 3) := by decide +kernel
theorem dd_X10_mixed_25 : decode (zc mm_X10_mixed) 25 = .ok (.getfield 135, 3) := by decide +kernel
theorem dd_X10_mixed_28 : decode (zc mm_X10_mixed) 28 = .ok (.iload_n 1, 1) := by decide +kernel
theorem dd_X10_mixed_29 : decode (zc mm_X10_mixed) 29 = .ok (.aaload, 1) := by decide +kernel
theorem dd_X10_mixed_30 : decode (zc mm_X10_mixed) 30 = .ok (.invokevirtual 282, 3) := by decide +kernel
theorem dd_X10_mixed_33 : decode (zc mm_X10_mixed) 33 = .ok (.aload_n 0, 1) := by decide +kernel
theorem dd_X10_mixed_34 : decode (zc mm_X10_mixed) 34 = .ok (.getfield 50, 3) := by decide +kernel
theorem dd_X10_mixed_37 : decode (zc mm_X10_mixed) 37 = .ok (.invokevirtual 289, 3) := by decide +kernel
theorem dd_X10_mixed_40 : decode (zc mm_X10_mixed) 40 = .ok (.istore 4, 2) := by decide +kernel
theorem dd_X10_mixed_42 : decode (zc mm_X10_mixed) 42 = .ok (.aload_n 0, 1) := by decide +kernel
theorem dd_X10_mixed_43 : decode (zc mm_X10_mixed) 43 = .ok (.getfield 50, 3) := by decide +kernel
theorem dd_X10_mixed_46 : decode (zc mm_X10_mixed) 46 = .ok (.aload_n 0, 1) := by decide +kernel
theorem dd_X10_mixed_47 : decode (zc mm_X10_mixed) 47 = .ok (.getfield 12, 3) := by decide +kernel
theorem dd_X10_mixed_50 : decode (zc mm_X10_mixed) 50 = .ok (.getfield 135, 3) := by decide +kernel
theorem dd_X10_mixed_53 : decode (zc mm_X10_mixed) 53 = .ok (.iload_n 2, 1) := by decide +kernel
theorem dd_X10_mixed_54 : decode (zc mm_X10_mixed) 54 = .ok (.aaload, 1) := by decide +kernel
theorem dd_X10_mixed_55 : decode (zc mm_X10_mixed) 55 = .ok (.invokevirtual 282, 3) := by decide +kernel
theorem dd_X10_mixed_58 : decode (zc mm_X10_mixed) 58 = .ok (.iload 4, 2) := by decide +kernel
theorem dd_X10_mixed_60 : decode (zc mm_X10_mixed) 60 = .ok (.aload_n 0, 1) := by decide +kernel
theorem dd_X10_mixed_61 : decode (zc mm_X10_mixed) 61 = .ok (.getfield 50, 3) := by decide +kernel
theorem dd_X10_mixed_64 : decode (zc mm_X10_mixed) 64 = .ok (.invokevirtual 289, 3) := by decide +kernel
theorem dd_X10_mixed_67 : decode (zc mm_X10_mixed) 67 = .ok (.iadd, 1) := by decide +kernel
theorem dd_X10_mixed_68 : decode (zc mm_X10_mixed) 68 = .ok (.istore 4, 2) := by decide +kernel
theorem dd_X10_mixed_70 : decode (zc mm_X10_mixed) 70 = .ok (.aload_n 0, 1) := by decide +kernel
theorem dd_X10_mixed_71 : decode (zc mm_X10_mixed) 71 = .ok (.getfield 50, 3) := by decide +kernel
theorem dd_X10_mixed_74 : decode (zc mm_X10_mixed) 74 = .ok (.aload_n 0, 1) := by decide +kernel
theorem dd_X10_mixed_75 : decode (zc mm_X10_mixed) 75 = .ok (.getfield 12, 3) := by decide +kernel
theorem dd_X10_mixed_78 : decode (zc mm_X10_mixed) 78 = .ok (.getfield 135, 3) := by decide +kernel
theorem dd_X10_mixed_81 : decode (zc mm_X10_mixed) 81 = .ok (.iload_n 1, 1) := by decide +kernel
theorem dd_X10_mixed_82 : decode (zc mm_X10_mixed) 82 = .ok (.aaload, 1) := by decide +kernel
theorem dd_X10_mixed_83 : decode (zc mm_X10_mixed) 83 = .ok (.aload_n 0, 1) := by decide +kernel
theorem dd_X10_mixed_84 : decode (zc mm_X10_mixed) 84 = .ok (.getfield 12, 3) := by decide +kernel
theorem dd_X10_mixed_87 : decode (zc mm_X10_mixed) 87 = .ok (.getfield 135, 3) := by decide +kernel
theorem dd_X10_mixed_90 : decode (zc mm_X10_mixed) 90 = .ok (.iload_n 2, 1) := by decide +kernel
theorem dd_X10_mixed_91 : decode (zc mm_X10_mixed) 91 = .ok (.aaload, 1) := by decide +kernel
theorem dd_X10_mixed_92 : decode (zc mm_X10_mixed) 92 = .ok (.invokevirtual 292, 3) := by decide +kernel
theorem dd_X10_mixed_95 : decode (zc mm_X10_mixed) 95 = .ok (.aload_n 0, 1) := by decide +kernel
theorem dd_X10_mixed_96 : decode (zc mm_X10_mixed) 96 = .ok (.getfield 50, 3) := by decide +kernel
theorem dd_X10_mixed_99 : decode (zc mm_X10_mixed) 99 = .ok (.invokevirtual 289, 3) := by decide +kernel
theorem dd_X10_mixed_102 : decode (zc mm_X10_mixed) 102 = .ok (.iload 4, 2) := by decide +kernel
theorem dd_X10_mixed_104 : decode (zc mm_X10_mixed) 104 = .ok (.isub, 1) := by decide +kernel
theorem dd_X10_mixed_105 : decode (zc mm_X10_mixed) 105 = .ok (.iconst 2, 1) := by decide +kernel
theorem dd_X10_mixed_106 : decode (zc mm_X10_mixed) 106 = .ok (.idiv, 1) := by decide +kernel
theorem dd_X10_mixed_107 : decode (zc mm_X10_mixed) 107 = .ok (.ireturn, 1) := by decide +kernel
theorem dd_X10_product_0 : decode (zc mm_X10_product) 0 = .ok (.aload_n 0, 1) := by decide +kernel
theorem dd_X10_product_1 : decode (zc mm_X10_product) 1 = .ok (.getfield 12, 3) := by decide +kernel
theorem dd_X10_product_4 : decode (zc mm_X10_product) 4 = .ok (.iload_n 1, 1) := by decide +kernel
theorem dd_X10_product_5 : decode (zc mm_X10_product) 5 = .ok (.invokevirtual 132, 3) := by decide +kernel
theorem dd_X10_product_8 : decode (zc mm_X10_product) 8 = .ok (.ifCond .eq 14, 3) := by decide +kernel
theorem dd_X10_product_11 : decode (zc mm_X10_product) 11 = .ok (.aload_n 0, 1) := by decide +kernel
theorem dd_X10_product_12 : decode (zc mm_X10_product) 12 = .ok (.getfield 12, 3) := by decide +kernel
theorem dd_X10_product_15 : decode (zc mm_X10_product) 15 = .ok (.iload_n 2, 1) := by decide +kernel
theorem dd_X10_product_16 : decode (zc mm_X10_product) 16 = .ok (.invokevirtual 132, 3) := by decide +kernel
theorem dd_X10_product_19 : decode (zc mm_X10_product) 19 = .ok (.ifCond .ne 9, 3) := by decide +kernel
theorem dd_X10_product_22 : decode (zc mm_X10_product) 22 = .ok (.aload_n 0, 1) := by decide +kernel
theorem dd_X10_product_23 : decode (zc mm_X10_product) 23 = .ok (.iconst (-1), 1) := by decide +kernel
theorem dd_X10_product_24 : decode (zc mm_X10_product) 24 = .ok (.invokevirtual 76, 3) := by decide +kernel
theorem dd_X10_product_27 : decode (zc mm_X10_product) 27 = .ok (.ireturn, 1) := by decide +kernel
theorem dd_X10_product_28 : decode (zc mm_X10_product) 28 = .ok (.aload_n 0, 1) := by decide +kernel
theorem dd_X10_product_29 : decode (zc mm_X10_product) 29 = .ok (.getfield 12, 3) := by decide +kernel
theorem dd_X10_product_32 : decode (zc mm_X10_product) 32 = .ok (.invokevirtual 87, 3) := by decide +kernel
theorem dd_X10_product_35 : decode (zc mm_X10_product) 35 = .ok (.ifCond .eq 10, 3) := by decide +kernel
theorem dd_X10_product_38 : decode (zc mm_X10_product) 38 = .ok (.aload_n 0, 1) := by decide +kernel
theorem dd_X10_product_39 : decode (zc mm_X10_product) 39 = .ok (.bipush (-6), 2) := by decide +kernel
theorem dd_X10_product_41 : decode (zc mm_X10_product) 41 = .ok (.invokevirtual 76, 3) := by decide +kernel
theorem dd_X10_product_44 : decode (zc mm_X10_product) 44 = .ok (.ireturn, 1) := by decide +kernel
theorem dd_X10_product_45 : decode (zc mm_X10_product) 45 = .ok (.aload_n 0, 1) := by decide +kernel
theorem dd_X10_product_46 : decode (zc mm_X10_product) 46 = .ok (.getfield 12, 3) := by decide +kernel
theorem dd_X10_product_49 : decode (zc mm_X10_product) 49 = .ok (.getfield 135, 3) := by decide +kernel
theorem dd_X10_product_52 : decode (zc mm_X10_product) 52 = .ok (.iload_n 1, 1) := by decide +kernel
theorem dd_X10_product_53 : decode (zc mm_X10_product) 53 = .ok (.aaload, 1) := by decide +kernel
theorem dd_X10_product_54 : decode (zc mm_X10_product) 54 = .ok (.aload_n 0, 1) := by decide +kernel
theorem dd_X10_product_55 : decode (zc mm_X10_product) 55 = .ok (.getfield 12, 3) := by decide +kernel
theorem dd_X10_product_58 : decode (zc mm_X10_product) 58 = .ok (.getfield 135, 3) := by decide +kernel
theorem dd_X10_product_61 : decode (zc mm_X10_product) 61 = .ok (.iload_n 2, 1) := by decide +kernel
theorem dd_X10_product_62 : decode (zc mm_X10_product) 62 = .ok (.aaload, 1) := by decide +kernel
theorem dd_X10_product_63 : decode (zc mm_X10_product) 63 = .ok (.invokevirtual 296, 3) := by decide +kernel
theorem dd_X10_product_66 : decode (zc mm_X10_product) 66 = .ok (.ifCond .ne 10, 3) := by decide +kernel
theorem dd_X10_product_69 : decode (zc mm_X10_product) 69 = .ok (.aload_n 0, 1) := by decide +kernel
theorem dd_X10_product_70 : decode (zc mm_X10_product) 70 = .ok (.bipush (-3), 2) := by decide +kernel
theorem dd_X10_product_72 : decode (zc mm_X10_product) 72 = .ok (.invokevirtual 76, 3) := by decide +kernel
theorem dd_X10_product_75 : decode (zc mm_X10_product) 75 = .ok (.ireturn, 1) := by decide +kernel
theorem dd_X10_product_76 : decode (zc mm_X10_product) 76 = .ok (.aload_n 0, 1) := by decide +kernel
theorem dd_X10_product_77 : decode (zc mm_X10_product) 77 = .ok (.getfield 29, 3) := by decide +kernel
theorem dd_X10_product_80 : decode (zc mm_X10_product) 80 = .ok (.invokevirtual 95, 3) := by decide +kernel
theorem dd_X10_product_83 : decode (zc mm_X10_product) 83 = .ok (.aload_n 0, 1) := by decide +kernel
theorem dd_X10_product_84 : decode (zc mm_X10_product) 84 = .ok (.getfield 12, 3) := by decide +kernel
theorem dd_X10_product_87 : decode (zc mm_X10_product) 87 = .ok (.invokevirtual 96, 3) := by decide +kernel
theorem dd_X10_product_90 : decode (zc mm_X10_product) 90 = .ok (.astore_n 3, 1) := by decide +kernel
theorem dd_X10_product_91 : decode (zc mm_X10_product) 91 = .ok (.aload_n 3, 1) := by decide +kernel
theorem dd_X10_product_92 : decode (zc mm_X10_product) 92 = .ok (.aload_n 0, 1) := by decide +kernel
theorem dd_X10_product_93 : decode (zc mm_X10_product) 93 = .ok (.getfield 12, 3) := by decide +kernel
theorem dd_X10_product_96 : decode (zc mm_X10_product) 96 = .ok (.getfield 135, 3) := by decide +kernel
theorem dd_X10_product_99 : decode (zc mm_X10_product) 99 = .ok (.iload_n 1, 1) := by decide +kernel
theorem dd_X10_product_100 : decode (zc mm_X10_product) 100 = .ok (.aaload, 1) := by decide +kernel
theorem dd_X10_product_101 : decode (zc mm_X10_product) 101 = .ok (.aload_n 0, 1) := by decide +kernel
theorem dd_X10_product_102 : decode (zc mm_X10_product) 102 = .ok (.getfield 12, 3) := by decide +kernel
theorem dd_X10_product_105 : decode (zc mm_X10_product) 105 = .ok (.getfield 135, 3) := by decide +kernel
theorem dd_X10_product_108 : decode (zc mm_X10_product) 108 = .ok (.iload_n 2, 1) := by decide +kernel
theorem dd_X10_product_109 : decode (zc mm_X10_product) 109 = .ok (.aaload, 1) := by decide +kernel
theorem dd_X10_product_110 : decode (zc mm_X10_product) 110 = .ok (.aload_n 0, 1) := by decide +kernel
theorem dd_X10_product_111 : decode (zc mm_X10_product) 111 = .ok (.getfield 12, 3) := by decide +kernel
theorem dd_X10_product_114 : decode (zc mm_X10_product) 114 = .ok (.getfield 114, 3) := by decide +kernel
theorem dd_X10_product_117 : decode (zc mm_X10_product) 117 = .ok (.invokevirtual 300, 3) := by decide +kernel
theorem dd_X10_product_120 : decode (zc mm_X10_product) 120 = .ok (.aload_n 0, 1) := by decide +kernel
theorem dd_X10_product_121 : decode (zc mm_X10_product) 121 = .ok (.getfield 12, 3) := by decide +kernel
theorem dd_X10_product_124 : decode (zc mm_X10_product) 124 = .ok (.getfield 122, 3) := by decide +kernel
theorem dd_X10_product_127 : decode (zc mm_X10_product) 127 = .ok (.iconst 1, 1) := by decide +kernel
theorem dd_X10_product_128 : decode (zc mm_X10_product) 128 = .ok (.isub, 1) := by decide +kernel
theorem dd_X10_product_129 : decode (zc mm_X10_product) 129 = .ok (.ireturn, 1) := by decide +kernel
theorem dd_X10_odds_0 : decode (zc mm_X10_odds) 0 = .ok (.aload_n 0, 1) := by decide +kernel
theorem dd_X10_odds_1 : decode (zc mm_X10_odds) 1 = .ok (.getfield 12, 3) := by decide +kernel
theorem dd_X10_odds_4 : decode (zc mm_X10_odds) 4 = .ok (.iload_n 1, 1) := by decide +kernel
theorem dd_X10_odds_5 : decode (zc mm_X10_odds) 5 = .ok (.invokevirtual 132, 3) := by decide +kernel
theorem dd_X10_odds_8 : decode (zc mm_X10_odds) 8 = .ok (.ifCond .ne 9, 3) := by decide +kernel
theorem dd_X10_odds_11 : decode (zc mm_X10_odds) 11 = .ok (.aload_n 0, 1) := by decide +kernel
theorem dd_X10_odds_12 : decode (zc mm_X10_odds) 12 = .ok (.iconst (-1), 1) := by decide +kernel
theorem dd_X10_odds_13 : decode (zc mm_X10_odds) 13 = .ok (.invokevirtual 304, 3) := by decide +kernel
theorem dd_X10_odds_16 : decode (zc mm_X10_odds) 16 = .ok (.lreturn, 1) := by decide +kernel
theorem dd_X10_odds_17 : decode (zc mm_X10_odds) 17 = .ok (.iload_n 2, 1) := by decide +kernel
theorem dd_X10_odds_18 : decode (zc mm_X10_odds) 18 = .ok (.ifCond .lt 8, 3) := by decide +kernel
theorem dd_X10_odds_21 : decode (zc mm_X10_odds) 21 = .ok (.iload_n 2, 1) := by decide +kernel
theorem dd_X10_odds_22 : decode (zc mm_X10_odds) 22 = .ok (.iconst 1, 1) := by decide +kernel
theorem dd_X10_odds_23 : decode (zc mm_X10_odds) 23 = .ok (.if_icmp .le 10, 3) := by decide +kernel
theorem dd_X10_odds_26 : decode (zc mm_X10_odds) 26 = .ok (.aload_n 0, 1) := by decide +kernel
theorem dd_X10_odds_27 : decode (zc mm_X10_odds) 27 = .ok (.bipush (-2), 2) := by decide +kernel
theorem dd_X10_odds_29 : decode (zc mm_X10_odds) 29 = .ok (.invokevirtual 304, 3) := by decide +kernel
theorem dd_X10_odds_32 : decode (zc mm_X10_odds) 32 = .ok (.lreturn, 1) := by decide +kernel
theorem dd_X10_odds_33 : decode (zc mm_X10_odds) 33 = .ok (.aload_n 0, 1) := by decide +kernel
theorem dd_X10_odds_34 : decode (zc mm_X10_odds) 34 = .ok (.iload_n 1, 1) := by decide +kernel
theorem dd_X10_odds_35 : decode (zc mm_X10_odds) 35 = .ok (.iload_n 1, 1) := by decide +kernel
theorem dd_X10_odds_36 : decode (zc mm_X10_odds) 36 = .ok (.bipush (-9), 2) := by decide +kernel
theorem dd_X10_odds_38 : decode (zc mm_X10_odds) 38 = .ok (.invokevirtual 260, 3) := by decide +kernel
theorem dd_X10_odds_41 : decode (zc mm_X10_odds) 41 = .ok (.aload_n 0, 1) := by decide +kernel
theorem dd_X10_odds_42 : decode (zc mm_X10_odds) 42 = .ok (.getfield 12, 3) := by decide +kernel
theorem dd_X10_odds_45 : decode (zc mm_X10_odds) 45 = .ok (.getfield 114, 3) := by decide +kernel
theorem dd_X10_odds_48 : decode (zc mm_X10_odds) 48 = .ok (.aload_n 0, 1) := by decide +kernel
theorem dd_X10_odds_49 : decode (zc mm_X10_odds) 49 = .ok (.getfield 12, 3) := by decide +kernel
theorem dd_X10_odds_52 : decode (zc mm_X10_odds) 52 = .ok (.getfield 114, 3) := by decide +kernel
theorem dd_X10_odds_55 : decode (zc mm_X10_odds) 55 = .ok (.imul, 1) := by decide +kernel
theorem dd_X10_odds_56 : decode (zc mm_X10_odds) 56 = .ok (.istore_n 3, 1) := by decide +kernel
theorem dd_X10_odds_57 : decode (zc mm_X10_odds) 57 = .ok (.aload_n 0, 1) := by decide +kernel
theorem dd_X10_odds_58 : decode (zc mm_X10_odds) 58 = .ok (.getfield 57, 3) := by decide +kernel
theorem dd_X10_odds_61 : decode (zc mm_X10_odds) 61 = .ok (.getfield 269, 3) := by decide +kernel
theorem dd_X10_odds_64 : decode (zc mm_X10_odds) 64 = .ok (.iload_n 3, 1) := by decide +kernel
theorem dd_X10_odds_65 : decode (zc mm_X10_odds) 65 = .ok (.invokestatic 308, 3) := by decide +kernel
theorem dd_X10_odds_68 : decode (zc mm_X10_odds) 68 = .ok (.istore 4, 2) := by decide +kernel
theorem dd_X10_odds_70 : decode (zc mm_X10_odds) 70 = .ok (.iload_n 2, 1) := by decide +kernel
theorem dd_X10_odds_71 : decode (zc mm_X10_odds) 71 = .ok (.ifCond .ne 13, 3) := by decide +kernel
theorem dd_X10_odds_74 : decode (zc mm_X10_odds) 74 = .ok (.aload_n 0, 1) := by decide +kernel
theorem dd_X10_odds_75 : decode (zc mm_X10_odds) 75 = .ok (.getfield 57, 3) := by decide +kernel
theorem dd_X10_odds_78 : decode (zc mm_X10_odds) 78 = .ok (.getfield 269, 3) := by decide +kernel
theorem dd_X10_odds_81 : decode (zc mm_X10_odds) 81 = .ok (.goto 4, 3) := by decide +kernel
theorem dd_X10_odds_84 : decode (zc mm_X10_odds) 84 = .ok (.iload_n 3, 1) := by decide +kernel
theorem dd_X10_odds_85 : decode (zc mm_X10_odds) 85 = .ok (.iload 4, 2) := by decide +kernel
theorem dd_X10_odds_87 : decode (zc mm_X10_odds) 87 = .ok (.idiv, 1) := by decide +kernel
theorem dd_X10_odds_88 : decode (zc mm_X10_odds) 88 = .ok (.i2l, 1) := by decide +kernel
theorem dd_X10_odds_89 : decode (zc mm_X10_odds) 89 = .ok (.lreturn, 1) := by decide +kernel
theorem dd_X10_lots_0 : decode (zc mm_X10_lots) 0 = .ok (.aload_n 0, 1) := by decide +kernel
theorem dd_X10_lots_1 : decode (zc mm_X10_lots) 1 = .ok (.getfield 12, 3) := by decide +kernel
theorem dd_X10_lots_4 : decode (zc mm_X10_lots) 4 = .ok (.iload_n 1, 1) := by decide +kernel
theorem dd_X10_lots_5 : decode (zc mm_X10_lots) 5 = .ok (.invokevirtual 132, 3) := by decide +kernel
theorem dd_X10_lots_8 : decode (zc mm_X10_lots) 8 = .ok (.ifCond .ne 9, 3) := by decide +kernel
theorem dd_X10_lots_11 : decode (zc mm_X10_lots) 11 = .ok (.aload_n 0, 1) := by decide +kernel
theorem dd_X10_lots_12 : decode (zc mm_X10_lots) 12 = .ok (.iconst (-1), 1) := by decide +kernel
theorem dd_X10_lots_13 : decode (zc mm_X10_lots) 13 = .ok (.invokevirtual 76, 3) := by decide +kernel
theorem dd_X10_lots_16 : decode (zc mm_X10_lots) 16 = .ok (.ireturn, 1) := by decide +kernel
theorem dd_X10_lots_17 : decode (zc mm_X10_lots) 17 = .ok (.iload_n 2, 1) := by decide +kernel
theorem dd_X10_lots_18 : decode (zc mm_X10_lots) 18 = .ok (.iconst 1, 1) := by decide +kernel
theorem dd_X10_lots_19 : decode (zc mm_X10_lots) 19 = .ok (.if_icmp .ge 10, 3) := by decide +kernel
theorem dd_X10_lots_22 : decode (zc mm_X10_lots) 22 = .ok (.aload_n 0, 1) := by decide +kernel
theorem dd_X10_lots_23 : decode (zc mm_X10_lots) 23 = .ok (.bipush (-4), 2) := by decide +kernel
theorem dd_X10_lots_25 : decode (zc mm_X10_lots) 25 = .ok (.invokevirtual 76, 3) := by decide +kernel
theorem dd_X10_lots_28 : decode (zc mm_X10_lots) 28 = .ok (.ireturn, 1) := by decide +kernel
theorem dd_X10_lots_29 : decode (zc mm_X10_lots) 29 = .ok (.iload_n 2, 1) := by decide +kernel
theorem dd_X10_lots_30 : decode (zc mm_X10_lots) 30 = .ok (.bipush 50, 2) := by decide +kernel
theorem dd_X10_lots_32 : decode (zc mm_X10_lots) 32 = .ok (.if_icmp .le 10, 3) := by decide +kernel
theorem dd_X10_lots_35 : decode (zc mm_X10_lots) 35 = .ok (.aload_n 0, 1) := by decide +kernel
theorem dd_X10_lots_36 : decode (zc mm_X10_lots) 36 = .ok (.bipush (-6), 2) := by decide +kernel
theorem dd_X10_lots_38 : decode (zc mm_X10_lots) 38 = .ok (.invokevirtual 76, 3) := by decide +kernel
theorem dd_X10_lots_41 : decode (zc mm_X10_lots) 41 = .ok (.ireturn, 1) := by decide +kernel
theorem dd_X10_lots_42 : decode (zc mm_X10_lots) 42 = .ok (.iload 4, 2) := by decide +kernel
theorem dd_X10_lots_44 : decode (zc mm_X10_lots) 44 = .ok (.ifCond .lt 9, 3) := by decide +kernel
theorem dd_X10_lots_47 : decode (zc mm_X10_lots) 47 = .ok (.iload 4, 2) := by decide +kernel
theorem dd_X10_lots_49 : decode (zc mm_X10_lots) 49 = .ok (.iconst 1, 1) := by decide +kernel
theorem dd_X10_lots_50 : decode (zc mm_X10_lots) 50 = .ok (.if_icmp .le 10, 3) := by decide +kernel
theorem dd_X10_lots_53 : decode (zc mm_X10_lots) 53 = .ok (.aload_n 0, 1) := by decide +kernel
theorem dd_X10_lots_54 : decode (zc mm_X10_lots) 54 = .ok (.bipush (-2), 2) := by decide +kernel
theorem dd_X10_lots_56 : decode (zc mm_X10_lots) 56 = .ok (.invokevirtual 76, 3) := by decide +kernel
theorem dd_X10_lots_59 : decode (zc mm_X10_lots) 59 = .ok (.ireturn, 1) := by decide +kernel
theorem dd_X10_lots_60 : decode (zc mm_X10_lots) 60 = .ok (.aload_n 0, 1) := by decide +kernel
theorem dd_X10_lots_61 : decode (zc mm_X10_lots) 61 = .ok (.getfield 57, 3) := by decide +kernel
theorem dd_X10_lots_64 : decode (zc mm_X10_lots) 64 = .ok (.aload_n 0, 1) := by decide +kernel
theorem dd_X10_lots_65 : decode (zc mm_X10_lots) 65 = .ok (.getfield 12, 3) := by decide +kernel
theorem dd_X10_lots_68 : decode (zc mm_X10_lots) 68 = .ok (.getfield 135, 3) := by decide +kernel
theorem dd_X10_lots_71 : decode (zc mm_X10_lots) 71 = .ok (.iload_n 1, 1) := by decide +kernel
theorem dd_X10_lots_72 : decode (zc mm_X10_lots) 72 = .ok (.aaload, 1) := by decide +kernel
theorem dd_X10_lots_73 : decode (zc mm_X10_lots) 73 = .ok (.iload_n 2, 1) := by decide +kernel
theorem dd_X10_lots_74 : decode (zc mm_X10_lots) 74 = .ok (.iload_n 3, 1) := by decide +kernel
theorem dd_X10_lots_75 : decode (zc mm_X10_lots) 75 = .ok (.iload 4, 2) := by decide +kernel
theorem dd_X10_lots_77 : decode (zc mm_X10_lots) 77 = .ok (.aload_n 0, 1) := by decide +kernel
theorem dd_X10_lots_78 : decode (zc mm_X10_lots) 78 = .ok (.getfield 12, 3) := by decide +kernel
theorem dd_X10_lots_81 : decode (zc mm_X10_lots) 81 = .ok (.getfield 114, 3) := by decide +kernel
theorem dd_X10_lots_84 : decode (zc mm_X10_lots) 84 = .ok (.invokevirtual 311, 3) := by decide +kernel
theorem dd_X10_lots_87 : decode (zc mm_X10_lots) 87 = .ok (.ireturn, 1) := by decide +kernel
theorem dd_X10_list_0 : decode (zc mm_X10_list) 0 = .ok (.aload_n 0, 1) := by decide +kernel
theorem dd_X10_list_1 : decode (zc mm_X10_list) 1 = .ok (.getfield 64, 3) := by decide +kernel
theorem dd_X10_list_4 : decode (zc mm_X10_list) 4 = .ok (.iload_n 1, 1) := by decide +kernel
theorem dd_X10_list_5 : decode (zc mm_X10_list) 5 = .ok (.invokevirtual 315, 3) := by decide +kernel
theorem dd_X10_list_8 : decode (zc mm_X10_list) 8 = .ok (.ifCond .ne 9, 3) := by decide +kernel
theorem dd_X10_list_11 : decode (zc mm_X10_list) 11 = .ok (.aload_n 0, 1) := by decide +kernel
theorem dd_X10_list_12 : decode (zc mm_X10_list) 12 = .ok (.iconst (-1), 1) := by decide +kernel
theorem dd_X10_list_13 : decode (zc mm_X10_list) 13 = .ok (.invokevirtual 76, 3) := by decide +kernel
theorem dd_X10_list_16 : decode (zc mm_X10_list) 16 = .ok (.ireturn, 1) := by decide +kernel
theorem dd_X10_list_17 : decode (zc mm_X10_list) 17 = .ok (.iload_n 2, 1) := by decide +kernel
theorem dd_X10_list_18 : decode (zc mm_X10_list) 18 = .ok (.bipush 40, 2) := by decide +kernel
theorem dd_X10_list_20 : decode (zc mm_X10_list) 20 = .ok (.if_icmp .le 10, 3) := by decide +kernel
theorem dd_X10_list_23 : decode (zc mm_X10_list) 23 = .ok (.aload_n 0, 1) := by decide +kernel
theorem dd_X10_list_24 : decode (zc mm_X10_list) 24 = .ok (.bipush (-6), 2) := by decide +kernel
theorem dd_X10_list_26 : decode (zc mm_X10_list) 26 = .ok (.invokevirtual 76, 3) := by decide +kernel
theorem dd_X10_list_29 : decode (zc mm_X10_list) 29 = .ok (.ireturn, 1) := by decide +kernel
theorem dd_X10_list_30 : decode (zc mm_X10_list) 30 = .ok (.iload_n 2, 1) := by decide +kernel
theorem dd_X10_list_31 : decode (zc mm_X10_list) 31 = .ok (.ifCond .ge 6, 3) := by decide +kernel
theorem dd_X10_list_34 : decode (zc mm_X10_list) 34 = .ok (.bipush (-14), 2) := by decide +kernel
theorem dd_X10_list_36 : decode (zc mm_X10_list) 36 = .ok (.ireturn, 1) := by decide +kernel
theorem dd_X10_list_37 : decode (zc mm_X10_list) 37 = .ok (.aload_n 0, 1) := by decide +kernel
theorem dd_X10_list_38 : decode (zc mm_X10_list) 38 = .ok (.getfield 64, 3) := by decide +kernel
theorem dd_X10_list_41 : decode (zc mm_X10_list) 41 = .ok (.iload_n 1, 1) := by decide +kernel
theorem dd_X10_list_42 : decode (zc mm_X10_list) 42 = .ok (.iload_n 2, 1) := by decide +kernel
theorem dd_X10_list_43 : decode (zc mm_X10_list) 43 = .ok (.invokevirtual 316, 3) := by decide +kernel
theorem dd_X10_list_46 : decode (zc mm_X10_list) 46 = .ok (.iconst 1, 1) := by decide +kernel
theorem dd_X10_list_47 : decode (zc mm_X10_list) 47 = .ok (.ireturn, 1) := by decide +kernel
theorem dd_X10_put_0 : decode (zc mm_X10_put) 0 = .ok (.aload_n 0, 1) := by decide +kernel
theorem dd_X10_put_1 : decode (zc mm_X10_put) 1 = .ok (.iload_n 1, 1) := by decide +kernel
theorem dd_X10_put_2 : decode (zc mm_X10_put) 2 = .ok (.iload_n 2, 1) := by decide +kernel
theorem dd_X10_put_3 : decode (zc mm_X10_put) 3 = .ok (.invokevirtual 319, 3) := by decide +kernel
theorem dd_X10_put_6 : decode (zc mm_X10_put) 6 = .ok (.istore 4, 2) := by decide +kernel
theorem dd_X10_put_8 : decode (zc mm_X10_put) 8 = .ok (.iload 4, 2) := by decide +kernel
theorem dd_X10_put_10 : decode (zc mm_X10_put) 10 = .ok (.ifCond .eq 20, 3) := by decide +kernel
theorem dd_X10_put_13 : decode (zc mm_X10_put) 13 = .ok (.iload 4, 2) := by decide +kernel
theorem dd_X10_put_15 : decode (zc mm_X10_put) 15 = .ok (.iconst (-1), 1) := by decide +kernel
theorem dd_X10_put_16 : decode (zc mm_X10_put) 16 = .ok (.if_icmp .ne 11, 3) := by decide +kernel
theorem dd_X10_put_19 : decode (zc mm_X10_put) 19 = .ok (.aload_n 0, 1) := by decide +kernel
theorem dd_X10_put_20 : decode (zc mm_X10_put) 20 = .ok (.iconst (-1), 1) := by decide +kernel
theorem dd_X10_put_21 : decode (zc mm_X10_put) 21 = .ok (.invokevirtual 76, 3) := by decide +kernel
theorem dd_X10_put_24 : decode (zc mm_X10_put) 24 = .ok (.goto 5, 3) := by decide +kernel
theorem dd_X10_put_27 : decode (zc mm_X10_put) 27 = .ok (.iload 4, 2) := by decide +kernel
theorem dd_X10_put_29 : decode (zc mm_X10_put) 29 = .ok (.ireturn, 1) := by decide +kernel
theorem dd_X10_put_30 : decode (zc mm_X10_put) 30 = .ok (.aload_n 0, 1) := by decide +kernel
theorem dd_X10_put_31 : decode (zc mm_X10_put) 31 = .ok (.getfield 64, 3) := by decide +kernel
theorem dd_X10_put_34 : decode (zc mm_X10_put) 34 = .ok (.iload_n 1, 1) := by decide +kernel
theorem dd_X10_put_35 : decode (zc mm_X10_put) 35 = .ok (.iload_n 2, 1) := by decide +kernel
theorem dd_X10_put_36 : decode (zc mm_X10_put) 36 = .ok (.iload_n 3, 1) := by decide +kernel
theorem dd_X10_put_37 : decode (zc mm_X10_put) 37 = .ok (.invokevirtual 322, 3) := by decide +kernel
theorem dd_X10_put_40 : decode (zc mm_X10_put) 40 = .ok (.iconst 1, 1) := by decide +kernel
theorem dd_X10_put_41 : decode (zc mm_X10_put) 41 = .ok (.ireturn, 1) := by decide +kernel
theorem dd_X10_look_0 : decode (zc mm_X10_look) 0 = .ok (.aload_n 0, 1) := by decide +kernel
theorem dd_X10_look_1 : decode (zc mm_X10_look) 1 = .ok (.iload_n 1, 1) := by decide +kernel
theorem dd_X10_look_2 : decode (zc mm_X10_look) 2 = .ok (.iload_n 2, 1) := by decide +kernel
theorem dd_X10_look_3 : decode (zc mm_X10_look) 3 = .ok (.invokevirtual 319, 3) := by decide +kernel
theorem dd_X10_look_6 : decode (zc mm_X10_look) 6 = .ok (.istore_n 3, 1) := by decide +kernel
theorem dd_X10_look_7 : decode (zc mm_X10_look) 7 = .ok (.iload_n 3, 1) := by decide +kernel
theorem dd_X10_look_8 : decode (zc mm_X10_look) 8 = .ok (.ifCond .eq 23, 3) := by decide +kernel
theorem dd_X10_look_11 : decode (zc mm_X10_look) 11 = .ok (.iload_n 3, 1) := by decide +kernel
theorem dd_X10_look_12 : decode (zc mm_X10_look) 12 = .ok (.iconst (-1), 1) := by decide +kernel
theorem dd_X10_look_13 : decode (zc mm_X10_look) 13 = .ok (.if_icmp .ne 11, 3) := by decide +kernel
theorem dd_X10_look_16 : decode (zc mm_X10_look) 16 = .ok (.aload_n 0, 1) := by decide +kernel
theorem dd_X10_look_17 : decode (zc mm_X10_look) 17 = .ok (.iconst (-1), 1) := by decide +kernel
theorem dd_X10_look_18 : decode (zc mm_X10_look) 18 = .ok (.invokevirtual 304, 3) := by decide +kernel
theorem dd_X10_look_21 : decode (zc mm_X10_look) 21 = .ok (.goto 9, 3) := by decide +kernel
theorem dd_X10_look_24 : decode (zc mm_X10_look) 24 = .ok (.ldc2_w 325, 3) := by decide +kernel
theorem dd_X10_look_27 : decode (zc mm_X10_look) 27 = .ok (.iload_n 3, 1) := by decide +kernel
theorem dd_X10_look_28 : decode (zc mm_X10_look) 28 = .ok (.i2l, 1) := by decide +kernel
theorem dd_X10_look_29 : decode (zc mm_X10_look) 29 = .ok (.lsub, 1) := by decide +kernel
theorem dd_X10_look_30 : decode (zc mm_X10_look) 30 = .ok (.lreturn, 1) := by decide +kernel
theorem dd_X10_look_31 : decode (zc mm_X10_look) 31 = .ok (.aload_n 0, 1) := by decide +kernel
theorem dd_X10_look_32 : decode (zc mm_X10_look) 32 = .ok (.getfield 64, 3) := by decide +kernel
theorem dd_X10_look_35 : decode (zc mm_X10_look) 35 = .ok (.iload_n 1, 1) := by decide +kernel
theorem dd_X10_look_36 : decode (zc mm_X10_look) 36 = .ok (.iload_n 2, 1) := by decide +kernel
theorem dd_X10_look_37 : decode (zc mm_X10_look) 37 = .ok (.invokevirtual 327, 3) := by decide +kernel
theorem dd_X10_look_40 : decode (zc mm_X10_look) 40 = .ok (.i2l, 1) := by decide +kernel
theorem dd_X10_look_41 : decode (zc mm_X10_look) 41 = .ok (.lreturn, 1) := by decide +kernel
theorem dd_X10_lays_0 : decode (zc mm_X10_lays) 0 = .ok (.aload_n 0, 1) := by decide +kernel
theorem dd_X10_lays_1 : decode (zc mm_X10_lays) 1 = .ok (.getfield 64, 3) := by decide +kernel
theorem dd_X10_lays_4 : decode (zc mm_X10_lays) 4 = .ok (.iload_n 1, 1) := by decide +kernel
theorem dd_X10_lays_5 : decode (zc mm_X10_lays) 5 = .ok (.invokevirtual 315, 3) := by decide +kernel
theorem dd_X10_lays_8 : decode (zc mm_X10_lays) 8 = .ok (.ifCond .eq 17, 3) := by decide +kernel
theorem dd_X10_lays_11 : decode (zc mm_X10_lays) 11 = .ok (.aload_n 0, 1) := by decide +kernel
theorem dd_X10_lays_12 : decode (zc mm_X10_lays) 12 = .ok (.iload_n 3, 1) := by decide +kernel
theorem dd_X10_lays_13 : decode (zc mm_X10_lays) 13 = .ok (.iload 4, 2) := by decide +kernel
theorem dd_X10_lays_15 : decode (zc mm_X10_lays) 15 = .ok (.iload 5, 2) := by decide +kernel
theorem dd_X10_lays_17 : decode (zc mm_X10_lays) 17 = .ok (.iload 6, 2) := by decide +kernel
theorem dd_X10_lays_19 : decode (zc mm_X10_lays) 19 = .ok (.invokevirtual 181, 3) := by decide +kernel
theorem dd_X10_lays_22 : decode (zc mm_X10_lays) 22 = .ok (.goto 4, 3) := by decide +kernel
theorem dd_X10_lays_25 : decode (zc mm_X10_lays) 25 = .ok (.iconst (-1), 1) := by decide +kernel
theorem dd_X10_lays_26 : decode (zc mm_X10_lays) 26 = .ok (.istore 7, 2) := by decide +kernel
theorem dd_X10_lays_28 : decode (zc mm_X10_lays) 28 = .ok (.iload 7, 2) := by decide +kernel
theorem dd_X10_lays_30 : decode (zc mm_X10_lays) 30 = .ok (.ifCond .eq 10, 3) := by decide +kernel
theorem dd_X10_lays_33 : decode (zc mm_X10_lays) 33 = .ok (.aload_n 0, 1) := by decide +kernel
theorem dd_X10_lays_34 : decode (zc mm_X10_lays) 34 = .ok (.iload 7, 2) := by decide +kernel
theorem dd_X10_lays_36 : decode (zc mm_X10_lays) 36 = .ok (.invokevirtual 76, 3) := by decide +kernel
theorem dd_X10_lays_39 : decode (zc mm_X10_lays) 39 = .ok (.ireturn, 1) := by decide +kernel
theorem dd_X10_lays_40 : decode (zc mm_X10_lays) 40 = .ok (.aload_n 0, 1) := by decide +kernel
theorem dd_X10_lays_41 : decode (zc mm_X10_lays) 41 = .ok (.iload_n 1, 1) := by decide +kernel
theorem dd_X10_lays_42 : decode (zc mm_X10_lays) 42 = .ok (.iload_n 2, 1) := by decide +kernel
theorem dd_X10_lays_43 : decode (zc mm_X10_lays) 43 = .ok (.invokevirtual 319, 3) := by decide +kernel
theorem dd_X10_lays_46 : decode (zc mm_X10_lays) 46 = .ok (.istore 7, 2) := by decide +kernel
theorem dd_X10_lays_48 : decode (zc mm_X10_lays) 48 = .ok (.iload 7, 2) := by decide +kernel
theorem dd_X10_lays_50 : decode (zc mm_X10_lays) 50 = .ok (.ifCond .eq 6, 3) := by decide +kernel
theorem dd_X10_lays_53 : decode (zc mm_X10_lays) 53 = .ok (.iload 7, 2) := by decide +kernel
theorem dd_X10_lays_55 : decode (zc mm_X10_lays) 55 = .ok (.ireturn, 1) := by decide +kernel
theorem dd_X10_lays_56 : decode (zc mm_X10_lays) 56 = .ok (.aload_n 0, 1) := by decide +kernel
theorem dd_X10_lays_57 : decode (zc mm_X10_lays) 57 = .ok (.iload_n 3, 1) := by decide +kernel
theorem dd_X10_lays_58 : decode (zc mm_X10_lays) 58 = .ok (.iload 4, 2) := by decide +kernel
theorem dd_X10_lays_60 : decode (zc mm_X10_lays) 60 = .ok (.iload 5, 2) := by decide +kernel
theorem dd_X10_lays_62 : decode (zc mm_X10_lays) 62 = .ok (.iload 6, 2) := by decide +kernel
theorem dd_X10_lays_64 : decode (zc mm_X10_lays) 64 = .ok (.invokevirtual 196, 3) := by decide +kernel
theorem dd_X10_lays_67 : decode (zc mm_X10_lays) 67 = .ok (.aload_n 0, 1) := by decide +kernel
theorem dd_X10_lays_68 : decode (zc mm_X10_lays) 68 = .ok (.getfield 64, 3) := by decide +kernel
theorem dd_X10_lays_71 : decode (zc mm_X10_lays) 71 = .ok (.iload_n 1, 1) := by decide +kernel
theorem dd_X10_lays_72 : decode (zc mm_X10_lays) 72 = .ok (.iload_n 2, 1) := by decide +kernel
theorem dd_X10_lays_73 : decode (zc mm_X10_lays) 73 = .ok (.aload_n 0, 1) := by decide +kernel
theorem dd_X10_lays_74 : decode (zc mm_X10_lays) 74 = .ok (.getfield 36, 3) := by decide +kernel
theorem dd_X10_lays_77 : decode (zc mm_X10_lays) 77 = .ok (.getfield 200, 3) := by decide +kernel
theorem dd_X10_lays_80 : decode (zc mm_X10_lays) 80 = .ok (.invokevirtual 330, 3) := by decide +kernel
theorem dd_X10_lays_83 : decode (zc mm_X10_lays) 83 = .ok (.ireturn, 1) := by decide +kernel
theorem dd_X10_judge_0 : decode (zc mm_X10_judge) 0 = .ok (.aload_n 0, 1) := by decide +kernel
theorem dd_X10_judge_1 : decode (zc mm_X10_judge) 1 = .ok (.getfield 64, 3) := by decide +kernel
theorem dd_X10_judge_4 : decode (zc mm_X10_judge) 4 = .ok (.iload_n 1, 1) := by decide +kernel
theorem dd_X10_judge_5 : decode (zc mm_X10_judge) 5 = .ok (.invokevirtual 315, 3) := by decide +kernel
theorem dd_X10_judge_8 : decode (zc mm_X10_judge) 8 = .ok (.ifCond .eq 16, 3) := by decide +kernel
theorem dd_X10_judge_11 : decode (zc mm_X10_judge) 11 = .ok (.aload_n 0, 1) := by decide +kernel
theorem dd_X10_judge_12 : decode (zc mm_X10_judge) 12 = .ok (.iload_n 2, 1) := by decide +kernel
theorem dd_X10_judge_13 : decode (zc mm_X10_judge) 13 = .ok (.iload_n 3, 1) := by decide +kernel
theorem dd_X10_judge_14 : decode (zc mm_X10_judge) 14 = .ok (.iload 4, 2) := by decide +kernel
theorem dd_X10_judge_16 : decode (zc mm_X10_judge) 16 = .ok (.iload 5, 2) := by decide +kernel
theorem dd_X10_judge_18 : decode (zc mm_X10_judge) 18 = .ok (.invokevirtual 181, 3) := by decide +kernel
theorem dd_X10_judge_21 : decode (zc mm_X10_judge) 21 = .ok (.goto 4, 3) := by decide +kernel
theorem dd_X10_judge_24 : decode (zc mm_X10_judge) 24 = .ok (.iconst (-1), 1) := by decide +kernel
theorem dd_X10_judge_25 : decode (zc mm_X10_judge) 25 = .ok (.istore 6, 2) := by decide +kernel
theorem dd_X10_judge_27 : decode (zc mm_X10_judge) 27 = .ok (.iload 6, 2) := by decide +kernel
theorem dd_X10_judge_29 : decode (zc mm_X10_judge) 29 = .ok (.ifCond .eq 10, 3) := by decide +kernel
theorem dd_X10_judge_32 : decode (zc mm_X10_judge) 32 = .ok (.aload_n 0, 1) := by decide +kernel
theorem dd_X10_judge_33 : decode (zc mm_X10_judge) 33 = .ok (.iload 6, 2) := by decide +kernel
theorem dd_X10_judge_35 : decode (zc mm_X10_judge) 35 = .ok (.invokevirtual 76, 3) := by decide +kernel
theorem dd_X10_judge_38 : decode (zc mm_X10_judge) 38 = .ok (.ireturn, 1) := by decide +kernel
theorem dd_X10_judge_39 : decode (zc mm_X10_judge) 39 = .ok (.aload_n 0, 1) := by decide +kernel
theorem dd_X10_judge_40 : decode (zc mm_X10_judge) 40 = .ok (.getfield 64, 3) := by decide +kernel
theorem dd_X10_judge_43 : decode (zc mm_X10_judge) 43 = .ok (.iload_n 1, 1) := by decide +kernel
theorem dd_X10_judge_44 : decode (zc mm_X10_judge) 44 = .ok (.invokevirtual 334, 3) := by decide +kernel
theorem dd_X10_judge_47 : decode (zc mm_X10_judge) 47 = .ok (.ifCond .eq 6, 3) := by decide +kernel
theorem dd_X10_judge_50 : decode (zc mm_X10_judge) 50 = .ok (.bipush (-11), 2) := by decide +kernel
theorem dd_X10_judge_52 : decode (zc mm_X10_judge) 52 = .ok (.ireturn, 1) := by decide +kernel
theorem dd_X10_judge_53 : decode (zc mm_X10_judge) 53 = .ok (.aload_n 0, 1) := by decide +kernel
theorem dd_X10_judge_54 : decode (zc mm_X10_judge) 54 = .ok (.iload_n 2, 1) := by decide +kernel
theorem dd_X10_judge_55 : decode (zc mm_X10_judge) 55 = .ok (.iload_n 3, 1) := by decide +kernel
theorem dd_X10_judge_56 : decode (zc mm_X10_judge) 56 = .ok (.iload 4, 2) := by decide +kernel
theorem dd_X10_judge_58 : decode (zc mm_X10_judge) 58 = .ok (.iload 5, 2) := by decide +kernel
theorem dd_X10_judge_60 : decode (zc mm_X10_judge) 60 = .ok (.invokevirtual 196, 3) := by decide +kernel
theorem dd_X10_judge_63 : decode (zc mm_X10_judge) 63 = .ok (.aload_n 0, 1) := by decide +kernel
theorem dd_X10_judge_64 : decode (zc mm_X10_judge) 64 = .ok (.getfield 64, 3) := by decide +kernel
theorem dd_X10_judge_67 : decode (zc mm_X10_judge) 67 = .ok (.iload_n 1, 1) := by decide +kernel
theorem dd_X10_judge_68 : decode (zc mm_X10_judge) 68 = .ok (.aload_n 0, 1) := by decide +kernel
theorem dd_X10_judge_69 : decode (zc mm_X10_judge) 69 = .ok (.getfield 36, 3) := by decide +kernel
theorem dd_X10_judge_72 : decode (zc mm_X10_judge) 72 = .ok (.getfield 200, 3) := by decide +kernel
theorem dd_X10_judge_75 : decode (zc mm_X10_judge) 75 = .ok (.aload_n 0, 1) := by decide +kernel
theorem dd_X10_judge_76 : decode (zc mm_X10_judge) 76 = .ok (.getfield 12, 3) := by decide +kernel
theorem dd_X10_judge_79 : decode (zc mm_X10_judge) 79 = .ok (.getfield 114, 3) := by decide +kernel
theorem dd_X10_judge_82 : decode (zc mm_X10_judge) 82 = .ok (.invokevirtual 337, 3) := by decide +kernel
theorem dd_X10_judge_85 : decode (zc mm_X10_judge) 85 = .ok (.ireturn, 1) := by decide +kernel
theorem dd_X10_undo_0 : decode (zc mm_X10_undo) 0 = .ok (.aload_n 0, 1) := by decide +kernel
theorem dd_X10_undo_1 : decode (zc mm_X10_undo) 1 = .ok (.getfield 29, 3) := by decide +kernel
theorem dd_X10_undo_4 : decode (zc mm_X10_undo) 4 = .ok (.getfield 341, 3) := by decide +kernel
theorem dd_X10_undo_7 : decode (zc mm_X10_undo) 7 = .ok (.ifCond .ne 10, 3) := by decide +kernel
theorem dd_X10_undo_10 : decode (zc mm_X10_undo) 10 = .ok (.aload_n 0, 1) := by decide +kernel
theorem dd_X10_undo_11 : decode (zc mm_X10_undo) 11 = .ok (.bipush (-3), 2) := by decide +kernel
theorem dd_X10_undo_13 : decode (zc mm_X10_undo) 13 = .ok (.invokevirtual 76, 3) := by decide +kernel
theorem dd_X10_undo_16 : decode (zc mm_X10_undo) 16 = .ok (.ireturn, 1) := by decide +kernel
theorem dd_X10_undo_17 : decode (zc mm_X10_undo) 17 = .ok (.aload_n 0, 1) := by decide +kernel
theorem dd_X10_undo_18 : decode (zc mm_X10_undo) 18 = .ok (.getfield 29, 3) := by decide +kernel
theorem dd_X10_undo_21 : decode (zc mm_X10_undo) 21 = .ok (.aload_n 0, 1) := by decide +kernel
theorem dd_X10_undo_22 : decode (zc mm_X10_undo) 22 = .ok (.getfield 12, 3) := by decide +kernel
theorem dd_X10_undo_25 : decode (zc mm_X10_undo) 25 = .ok (.invokevirtual 342, 3) := by decide +kernel
theorem dd_X10_undo_28 : decode (zc mm_X10_undo) 28 = .ok (.aload_n 0, 1) := by decide +kernel
theorem dd_X10_undo_29 : decode (zc mm_X10_undo) 29 = .ok (.getfield 29, 3) := by decide +kernel
theorem dd_X10_undo_32 : decode (zc mm_X10_undo) 32 = .ok (.getfield 341, 3) := by decide +kernel
theorem dd_X10_undo_35 : decode (zc mm_X10_undo) 35 = .ok (.ireturn, 1) := by decide +kernel
theorem dd_X10_image_0 : decode (zc mm_X10_image) 0 = .ok (.aload_n 0, 1) := by decide +kernel
theorem dd_X10_image_1 : decode (zc mm_X10_image) 1 = .ok (.getfield 16, 3) := by decide +kernel
theorem dd_X10_image_4 : decode (zc mm_X10_image) 4 = .ok (.aload_n 0, 1) := by decide +kernel
theorem dd_X10_image_5 : decode (zc mm_X10_image) 5 = .ok (.getfield 12, 3) := by decide +kernel
theorem dd_X10_image_8 : decode (zc mm_X10_image) 8 = .ok (.invokevirtual 346, 3) := by decide +kernel
theorem dd_X10_image_11 : decode (zc mm_X10_image) 11 = .ok (.aload_n 0, 1) := by decide +kernel
theorem dd_X10_image_12 : decode (zc mm_X10_image) 12 = .ok (.iconst 1, 1) := by decide +kernel
theorem dd_X10_image_13 : decode (zc mm_X10_image) 13 = .ok (.putfield 72, 3) := by decide +kernel
theorem dd_X10_image_16 : decode (zc mm_X10_image) 16 = .ok (.aload_n 0, 1) := by decide +kernel
theorem dd_X10_image_17 : decode (zc mm_X10_image) 17 = .ok (.getfield 12, 3) := by decide +kernel
theorem dd_X10_image_20 : decode (zc mm_X10_image) 20 = .ok (.getfield 122, 3) := by decide +kernel
theorem dd_X10_image_23 : decode (zc mm_X10_image) 23 = .ok (.ireturn, 1) := by decide +kernel
theorem dd_X10_on_0 : decode (zc mm_X10_on) 0 = .ok (.aload_n 0, 1) := by decide +kernel
theorem dd_X10_on_1 : decode (zc mm_X10_on) 1 = .ok (.getfield 72, 3) := by decide +kernel
theorem dd_X10_on_4 : decode (zc mm_X10_on) 4 = .ok (.ifCond .ne 10, 3) := by decide +kernel
theorem dd_X10_on_7 : decode (zc mm_X10_on) 7 = .ok (.aload_n 0, 1) := by decide +kernel
theorem dd_X10_on_8 : decode (zc mm_X10_on) 8 = .ok (.bipush (-3), 2) := by decide +kernel
theorem dd_X10_on_10 : decode (zc mm_X10_on) 10 = .ok (.invokevirtual 76, 3) := by decide +kernel
theorem dd_X10_on_13 : decode (zc mm_X10_on) 13 = .ok (.ireturn, 1) := by decide +kernel
theorem dd_X10_on_14 : decode (zc mm_X10_on) 14 = .ok (.aload_n 0, 1) := by decide +kernel
theorem dd_X10_on_15 : decode (zc mm_X10_on) 15 = .ok (.getfield 29, 3) := by decide +kernel
theorem dd_X10_on_18 : decode (zc mm_X10_on) 18 = .ok (.invokevirtual 95, 3) := by decide +kernel
theorem dd_X10_on_21 : decode (zc mm_X10_on) 21 = .ok (.aload_n 0, 1) := by decide +kernel
theorem dd_X10_on_22 : decode (zc mm_X10_on) 22 = .ok (.getfield 12, 3) := by decide +kernel
theorem dd_X10_on_25 : decode (zc mm_X10_on) 25 = .ok (.aload_n 0, 1) := by decide +kernel
theorem dd_X10_on_26 : decode (zc mm_X10_on) 26 = .ok (.getfield 16, 3) := by decide +kernel
theorem dd_X10_on_29 : decode (zc mm_X10_on) 29 = .ok (.invokevirtual 346, 3) := by decide +kernel
theorem dd_X10_on_32 : decode (zc mm_X10_on) 32 = .ok (.aload_n 0, 1) := by decide +kernel
theorem dd_X10_on_33 : decode (zc mm_X10_on) 33 = .ok (.getfield 12, 3) := by decide +kernel
theorem dd_X10_on_36 : decode (zc mm_X10_on) 36 = .ok (.getfield 122, 3) := by decide +kernel
theorem dd_X10_on_39 : decode (zc mm_X10_on) 39 = .ok (.ireturn, 1) := by decide +kernel
theorem dd_X10_count_0 : decode (zc mm_X10_count) 0 = .ok (.iload_n 1, 1) := by decide +kernel
theorem dd_X10_count_1 : decode (zc mm_X10_count) 1 = .ok (.tableswitch 87 0 5 #[39, 47, 55, 63, 71, 79], 39) := by decide +kernel
theorem dd_X10_count_40 : decode (zc mm_X10_count) 40 = .ok (.aload_n 0, 1) := by decide +kernel
theorem dd_X10_count_41 : decode (zc mm_X10_count) 41 = .ok (.getfield 12, 3) := by decide +kernel
theorem dd_X10_count_44 : decode (zc mm_X10_count) 44 = .ok (.getfield 122, 3) := by decide +kernel
theorem dd_X10_count_47 : decode (zc mm_X10_count) 47 = .ok (.ireturn, 1) := by decide +kernel
theorem dd_X10_count_48 : decode (zc mm_X10_count) 48 = .ok (.aload_n 0, 1) := by decide +kernel
theorem dd_X10_count_49 : decode (zc mm_X10_count) 49 = .ok (.getfield 12, 3) := by decide +kernel
theorem dd_X10_count_52 : decode (zc mm_X10_count) 52 = .ok (.getfield 114, 3) := by decide +kernel
theorem dd_X10_count_55 : decode (zc mm_X10_count) 55 = .ok (.ireturn, 1) := by decide +kernel
theorem dd_X10_count_56 : decode (zc mm_X10_count) 56 = .ok (.aload_n 0, 1) := by decide +kernel
theorem dd_X10_count_57 : decode (zc mm_X10_count) 57 = .ok (.getfield 12, 3) := by decide +kernel
theorem dd_X10_count_60 : decode (zc mm_X10_count) 60 = .ok (.invokevirtual 349, 3) := by decide +kernel
theorem dd_X10_count_63 : decode (zc mm_X10_count) 63 = .ok (.ireturn, 1) := by decide +kernel
theorem dd_X10_count_64 : decode (zc mm_X10_count) 64 = .ok (.aload_n 0, 1) := by decide +kernel
theorem dd_X10_count_65 : decode (zc mm_X10_count) 65 = .ok (.getfield 22, 3) := by decide +kernel
theorem dd_X10_count_68 : decode (zc mm_X10_count) 68 = .ok (.getfield 352, 3) := by decide +kernel
theorem dd_X10_count_71 : decode (zc mm_X10_count) 71 = .ok (.ireturn, 1) := by decide +kernel
theorem dd_X10_count_72 : decode (zc mm_X10_count) 72 = .ok (.aload_n 0, 1) := by decide +kernel
theorem dd_X10_count_73 : decode (zc mm_X10_count) 73 = .ok (.getfield 29, 3) := by decide +kernel
theorem dd_X10_count_76 : decode (zc mm_X10_count) 76 = .ok (.getfield 341, 3) := by decide +kernel
theorem dd_X10_count_79 : decode (zc mm_X10_count) 79 = .ok (.ireturn, 1) := by decide +kernel
theorem dd_X10_count_80 : decode (zc mm_X10_count) 80 = .ok (.aload_n 0, 1) := by decide +kernel
theorem dd_X10_count_81 : decode (zc mm_X10_count) 81 = .ok (.getfield 12, 3) := by decide +kernel
theorem dd_X10_count_84 : decode (zc mm_X10_count) 84 = .ok (.invokevirtual 353, 3) := by decide +kernel
theorem dd_X10_count_87 : decode (zc mm_X10_count) 87 = .ok (.ireturn, 1) := by decide +kernel
theorem dd_X10_count_88 : decode (zc mm_X10_count) 88 = .ok (.iload_n 1, 1) := by decide +kernel
theorem dd_X10_count_89 : decode (zc mm_X10_count) 89 = .ok (.bipush 11, 2) := by decide +kernel
theorem dd_X10_count_91 : decode (zc mm_X10_count) 91 = .ok (.if_icmp .lt 21, 3) := by decide +kernel
theorem dd_X10_count_94 : decode (zc mm_X10_count) 94 = .ok (.iload_n 1, 1) := by decide +kernel
theorem dd_X10_count_95 : decode (zc mm_X10_count) 95 = .ok (.bipush 16, 2) := by decide +kernel
theorem dd_X10_count_97 : decode (zc mm_X10_count) 97 = .ok (.if_icmp .gt 15, 3) := by decide +kernel
theorem dd_X10_count_100 : decode (zc mm_X10_count) 100 = .ok (.aload_n 0, 1) := by decide +kernel
theorem dd_X10_count_101 : decode (zc mm_X10_count) 101 = .ok (.getfield 68, 3) := by decide +kernel
theorem dd_X10_count_104 : decode (zc mm_X10_count) 104 = .ok (.iload_n 1, 1) := by decide +kernel
theorem dd_X10_count_105 : decode (zc mm_X10_count) 105 = .ok (.bipush 10, 2) := by decide +kernel
theorem dd_X10_count_107 : decode (zc mm_X10_count) 107 = .ok (.isub, 1) := by decide +kernel
theorem dd_X10_count_108 : decode (zc mm_X10_count) 108 = .ok (.iaload, 1) := by decide +kernel
theorem dd_X10_count_109 : decode (zc mm_X10_count) 109 = .ok (.goto 5, 3) := by decide +kernel
theorem dd_X10_count_112 : decode (zc mm_X10_count) 112 = .ok (.bipush (-9), 2) := by decide +kernel
theorem dd_X10_count_114 : decode (zc mm_X10_count) 114 = .ok (.ireturn, 1) := by decide +kernel
theorem dd_X10_refuse_0 : decode (zc mm_X10_refuse) 0 = .ok (.iload_n 1, 1) := by decide +kernel
theorem dd_X10_refuse_1 : decode (zc mm_X10_refuse) 1 = .ok (.ineg, 1) := by decide +kernel
theorem dd_X10_refuse_2 : decode (zc mm_X10_refuse) 2 = .ok (.istore_n 2, 1) := by decide +kernel
theorem dd_X10_refuse_3 : decode (zc mm_X10_refuse) 3 = .ok (.iload_n 2, 1) := by decide +kernel
theorem dd_X10_refuse_4 : decode (zc mm_X10_refuse) 4 = .ok (.ifCond .le 22, 3) := by decide +kernel
theorem dd_X10_refuse_7 : decode (zc mm_X10_refuse) 7 = .ok (.iload_n 2, 1) := by decide +kernel
theorem dd_X10_refuse_8 : decode (zc mm_X10_refuse) 8 = .ok (.aload_n 0, 1) := by decide +kernel
theorem dd_X10_refuse_9 : decode (zc mm_X10_refuse) 9 = .ok (.getfield 68, 3) := by decide +kernel
theorem dd_X10_refuse_12 : decode (zc mm_X10_refuse) 12 = .ok (.arraylength, 1) := by decide +kernel
theorem dd_X10_refuse_13 : decode (zc mm_X10_refuse) 13 = .ok (.if_icmp .ge 13, 3) := by decide +kernel
theorem dd_X10_refuse_16 : decode (zc mm_X10_refuse) 16 = .ok (.aload_n 0, 1) := by decide +kernel
theorem dd_X10_refuse_17 : decode (zc mm_X10_refuse) 17 = .ok (.getfield 68, 3) := by decide +kernel
theorem dd_X10_refuse_20 : decode (zc mm_X10_refuse) 20 = .ok (.iload_n 2, 1) := by decide +kernel
theorem dd_X10_refuse_21 : decode (zc mm_X10_refuse) 21 = .ok (.dup2, 1) := by decide +kernel
theorem dd_X10_refuse_22 : decode (zc mm_X10_refuse) 22 = .ok (.iaload, 1) := by decide +kernel
theorem dd_X10_refuse_23 : decode (zc mm_X10_refuse) 23 = .ok (.iconst 1, 1) := by decide +kernel
theorem dd_X10_refuse_24 : decode (zc mm_X10_refuse) 24 = .ok (.iadd, 1) := by decide +kernel
theorem dd_X10_refuse_25 : decode (zc mm_X10_refuse) 25 = .ok (.iastore, 1) := by decide +kernel
theorem dd_X10_refuse_26 : decode (zc mm_X10_refuse) 26 = .ok (.iload_n 1, 1) := by decide +kernel
theorem dd_X10_refuse_27 : decode (zc mm_X10_refuse) 27 = .ok (.ireturn, 1) := by decide +kernel
theorem dd_X10_refuseLong_0 : decode (zc mm_X10_refuseLong) 0 = .ok (.ldc2_w 325, 3) := by decide +kernel
theorem dd_X10_refuseLong_3 : decode (zc mm_X10_refuseLong) 3 = .ok (.aload_n 0, 1) := by decide +kernel
theorem dd_X10_refuseLong_4 : decode (zc mm_X10_refuseLong) 4 = .ok (.iload_n 1, 1) := by decide +kernel
theorem dd_X10_refuseLong_5 : decode (zc mm_X10_refuseLong) 5 = .ok (.invokevirtual 76, 3) := by decide +kernel
theorem dd_X10_refuseLong_8 : decode (zc mm_X10_refuseLong) 8 = .ok (.i2l, 1) := by decide +kernel
theorem dd_X10_refuseLong_9 : decode (zc mm_X10_refuseLong) 9 = .ok (.lsub, 1) := by decide +kernel
theorem dd_X10_refuseLong_10 : decode (zc mm_X10_refuseLong) 10 = .ok (.lreturn, 1) := by decide +kernel
theorem dd_X10_isLetter_0 : decode (zc mm_X10_isLetter) 0 = .ok (.iload_n 0, 1) := by decide +kernel
theorem dd_X10_isLetter_1 : decode (zc mm_X10_isLetter) 1 = .ok (.ifCond .eq 8, 3) := by decide +kernel
theorem dd_X10_isLetter_4 : decode (zc mm_X10_isLetter) 4 = .ok (.iload_n 0, 1) := by decide +kernel
theorem dd_X10_isLetter_5 : decode (zc mm_X10_isLetter) 5 = .ok (.iconst 1, 1) := by decide +kernel
theorem dd_X10_isLetter_6 : decode (zc mm_X10_isLetter) 6 = .ok (.if_icmp .ne 7, 3) := by decide +kernel
theorem dd_X10_isLetter_9 : decode (zc mm_X10_isLetter) 9 = .ok (.iconst 1, 1) := by decide +kernel
theorem dd_X10_isLetter_10 : decode (zc mm_X10_isLetter) 10 = .ok (.goto 4, 3) := by decide +kernel
theorem dd_X10_isLetter_13 : decode (zc mm_X10_isLetter) 13 = .ok (.iconst 0, 1) := by decide +kernel
theorem dd_X10_isLetter_14 : decode (zc mm_X10_isLetter) 14 = .ok (.ireturn, 1) := by decide +kernel
theorem dd_X10_powersRefusal_0 : decode (zc mm_X10_powersRefusal) 0 = .ok (.aload_n 0, 1) := by decide +kernel
theorem dd_X10_powersRefusal_1 : decode (zc mm_X10_powersRefusal) 1 = .ok (.getfield 12, 3) := by decide +kernel
theorem dd_X10_powersRefusal_4 : decode (zc mm_X10_powersRefusal) 4 = .ok (.iload_n 1, 1) := by decide +kernel
theorem dd_X10_powersRefusal_5 : decode (zc mm_X10_powersRefusal) 5 = .ok (.invokevirtual 132, 3) := by decide +kernel
theorem dd_X10_powersRefusal_8 : decode (zc mm_X10_powersRefusal) 8 = .ok (.ifCond .ne 5, 3) := by decide +kernel
theorem dd_X10_powersRefusal_11 : decode (zc mm_X10_powersRefusal) 11 = .ok (.iconst (-1), 1) := by decide +kernel
theorem dd_X10_powersRefusal_12 : decode (zc mm_X10_powersRefusal) 12 = .ok (.ireturn, 1) := by decide +kernel
theorem dd_X10_powersRefusal_13 : decode (zc mm_X10_powersRefusal) 13 = .ok (.iload_n 2, 1) := by decide +kernel
theorem dd_X10_powersRefusal_14 : decode (zc mm_X10_powersRefusal) 14 = .ok (.ifCond .lt 7, 3) := by decide +kernel
theorem dd_X10_powersRefusal_17 : decode (zc mm_X10_powersRefusal) 17 = .ok (.iload_n 3, 1) := by decide +kernel
theorem dd_X10_powersRefusal_18 : decode (zc mm_X10_powersRefusal) 18 = .ok (.ifCond .ge 6, 3) := by decide +kernel
theorem dd_X10_powersRefusal_21 : decode (zc mm_X10_powersRefusal) 21 = .ok (.bipush (-4), 2) := by decide +kernel
theorem dd_X10_powersRefusal_23 : decode (zc mm_X10_powersRefusal) 23 = .ok (.ireturn, 1) := by decide +kernel
theorem dd_X10_powersRefusal_24 : decode (zc mm_X10_powersRefusal) 24 = .ok (.iload_n 2, 1) := by decide +kernel
theorem dd_X10_powersRefusal_25 : decode (zc mm_X10_powersRefusal) 25 = .ok (.iconst 4, 1) := by decide +kernel
theorem dd_X10_powersRefusal_26 : decode (zc mm_X10_powersRefusal) 26 = .ok (.if_icmp .gt 8, 3) := by decide +kernel
theorem dd_X10_powersRefusal_29 : decode (zc mm_X10_powersRefusal) 29 = .ok (.iload_n 3, 1) := by decide +kernel
theorem dd_X10_powersRefusal_30 : decode (zc mm_X10_powersRefusal) 30 = .ok (.iconst 4, 1) := by decide +kernel
theorem dd_X10_powersRefusal_31 : decode (zc mm_X10_powersRefusal) 31 = .ok (.if_icmp .le 8, 3) := by decide +kernel
theorem dd_X10_powersRefusal_34 : decode (zc mm_X10_powersRefusal) 34 = .ok (.bipush (-6), 2) := by decide +kernel
theorem dd_X10_powersRefusal_36 : decode (zc mm_X10_powersRefusal) 36 = .ok (.goto 4, 3) := by decide +kernel
theorem dd_X10_powersRefusal_39 : decode (zc mm_X10_powersRefusal) 39 = .ok (.iconst 0, 1) := by decide +kernel
theorem dd_X10_powersRefusal_40 : decode (zc mm_X10_powersRefusal) 40 = .ok (.ireturn, 1) := by decide +kernel
theorem dd_X10_tableRefusal_0 : decode (zc mm_X10_tableRefusal) 0 = .ok (.aload_n 0, 1) := by decide +kernel
theorem dd_X10_tableRefusal_1 : decode (zc mm_X10_tableRefusal) 1 = .ok (.getfield 12, 3) := by decide +kernel
theorem dd_X10_tableRefusal_4 : decode (zc mm_X10_tableRefusal) 4 = .ok (.iload_n 1, 1) := by decide +kernel
theorem dd_X10_tableRefusal_5 : decode (zc mm_X10_tableRefusal) 5 = .ok (.invokevirtual 132, 3) := by decide +kernel
theorem dd_X10_tableRefusal_8 : decode (zc mm_X10_tableRefusal) 8 = .ok (.ifCond .eq 21, 3) := by decide +kernel
theorem dd_X10_tableRefusal_11 : decode (zc mm_X10_tableRefusal) 11 = .ok (.aload_n 0, 1) := by decide +kernel
theorem dd_X10_tableRefusal_12 : decode (zc mm_X10_tableRefusal) 12 = .ok (.getfield 12, 3) := by decide +kernel
theorem dd_X10_tableRefusal_15 : decode (zc mm_X10_tableRefusal) 15 = .ok (.iload_n 2, 1) := by decide +kernel
theorem dd_X10_tableRefusal_16 : decode (zc mm_X10_tableRefusal) 16 = .ok (.invokevirtual 132, 3) := by decide +kernel
theorem dd_X10_tableRefusal_19 : decode (zc mm_X10_tableRefusal) 19 = .ok (.ifCond .eq 10, 3) := by decide +kernel
theorem dd_X10_tableRefusal_22 : decode (zc mm_X10_tableRefusal) 22 = .ok (.iload_n 3, 1) := by decide +kernel
theorem dd_X10_tableRefusal_23 : decode (zc mm_X10_tableRefusal) 23 = .ok (.invokestatic 257, 3) := by decide +kernel
theorem dd_X10_tableRefusal_26 : decode (zc mm_X10_tableRefusal) 26 = .ok (.ifCond .ne 5, 3) := by decide +kernel
theorem dd_X10_tableRefusal_29 : decode (zc mm_X10_tableRefusal) 29 = .ok (.iconst (-1), 1) := by decide +kernel
theorem dd_X10_tableRefusal_30 : decode (zc mm_X10_tableRefusal) 30 = .ok (.ireturn, 1) := by decide +kernel
theorem dd_X10_tableRefusal_31 : decode (zc mm_X10_tableRefusal) 31 = .ok (.iload 4, 2) := by decide +kernel
theorem dd_X10_tableRefusal_33 : decode (zc mm_X10_tableRefusal) 33 = .ok (.ifCond .eq 12, 3) := by decide +kernel
theorem dd_X10_tableRefusal_36 : decode (zc mm_X10_tableRefusal) 36 = .ok (.iload 4, 2) := by decide +kernel
theorem dd_X10_tableRefusal_38 : decode (zc mm_X10_tableRefusal) 38 = .ok (.iconst 1, 1) := by decide +kernel
theorem dd_X10_tableRefusal_39 : decode (zc mm_X10_tableRefusal) 39 = .ok (.if_icmp .eq 6, 3) := by decide +kernel
theorem dd_X10_tableRefusal_42 : decode (zc mm_X10_tableRefusal) 42 = .ok (.bipush (-2), 2) := by decide +kernel
theorem dd_X10_tableRefusal_44 : decode (zc mm_X10_tableRefusal) 44 = .ok (.ireturn, 1) := by decide +kernel
theorem dd_X10_tableRefusal_45 : decode (zc mm_X10_tableRefusal) 45 = .ok (.aload_n 0, 1) := by decide +kernel
theorem dd_X10_tableRefusal_46 : decode (zc mm_X10_tableRefusal) 46 = .ok (.getfield 12, 3) := by decide +kernel
theorem dd_X10_tableRefusal_49 : decode (zc mm_X10_tableRefusal) 49 = .ok (.getfield 135, 3) := by decide +kernel
theorem dd_X10_tableRefusal_52 : decode (zc mm_X10_tableRefusal) 52 = .ok (.iload_n 1, 1) := by decide +kernel
theorem dd_X10_tableRefusal_53 : decode (zc mm_X10_tableRefusal) 53 = .ok (.aaload, 1) := by decide +kernel
theorem dd_X10_tableRefusal_54 : decode (zc mm_X10_tableRefusal) 54 = .ok (.invokevirtual 356, 3) := by decide +kernel
theorem dd_X10_tableRefusal_57 : decode (zc mm_X10_tableRefusal) 57 = .ok (.ifCond .ne 18, 3) := by decide +kernel
theorem dd_X10_tableRefusal_60 : decode (zc mm_X10_tableRefusal) 60 = .ok (.aload_n 0, 1) := by decide +kernel
theorem dd_X10_tableRefusal_61 : decode (zc mm_X10_tableRefusal) 61 = .ok (.getfield 12, 3) := by decide +kernel
theorem dd_X10_tableRefusal_64 : decode (zc mm_X10_tableRefusal) 64 = .ok (.getfield 135, 3) := by decide +kernel
theorem dd_X10_tableRefusal_67 : decode (zc mm_X10_tableRefusal) 67 = .ok (.iload_n 2, 1) := by decide +kernel
theorem dd_X10_tableRefusal_68 : decode (zc mm_X10_tableRefusal) 68 = .ok (.aaload, 1) := by decide +kernel
theorem dd_X10_tableRefusal_69 : decode (zc mm_X10_tableRefusal) 69 = .ok (.invokevirtual 356, 3) := by decide +kernel
theorem dd_X10_tableRefusal_72 : decode (zc mm_X10_tableRefusal) 72 = .ok (.ifCond .eq 8, 3) := by decide +kernel
theorem dd_X10_tableRefusal_75 : decode (zc mm_X10_tableRefusal) 75 = .ok (.bipush (-3), 2) := by decide +kernel
theorem dd_X10_tableRefusal_77 : decode (zc mm_X10_tableRefusal) 77 = .ok (.goto 4, 3) := by decide +kernel
theorem dd_X10_tableRefusal_80 : decode (zc mm_X10_tableRefusal) 80 = .ok (.iconst 0, 1) := by decide +kernel
theorem dd_X10_tableRefusal_81 : decode (zc mm_X10_tableRefusal) 81 = .ok (.ireturn, 1) := by decide +kernel
theorem dd_X10_numberRefusal_0 : decode (zc mm_X10_numberRefusal) 0 = .ok (.iload_n 1, 1) := by decide +kernel
theorem dd_X10_numberRefusal_1 : decode (zc mm_X10_numberRefusal) 1 = .ok (.ifCond .ge 6, 3) := by decide +kernel
theorem dd_X10_numberRefusal_4 : decode (zc mm_X10_numberRefusal) 4 = .ok (.bipush (-4), 2) := by decide +kernel
theorem dd_X10_numberRefusal_6 : decode (zc mm_X10_numberRefusal) 6 = .ok (.ireturn, 1) := by decide +kernel
theorem dd_X10_numberRefusal_7 : decode (zc mm_X10_numberRefusal) 7 = .ok (.iload_n 1, 1) := by decide +kernel
theorem dd_X10_numberRefusal_8 : decode (zc mm_X10_numberRefusal) 8 = .ok (.aload_n 0, 1) := by decide +kernel
theorem dd_X10_numberRefusal_9 : decode (zc mm_X10_numberRefusal) 9 = .ok (.getfield 12, 3) := by decide +kernel
theorem dd_X10_numberRefusal_12 : decode (zc mm_X10_numberRefusal) 12 = .ok (.getfield 114, 3) := by decide +kernel
theorem dd_X10_numberRefusal_15 : decode (zc mm_X10_numberRefusal) 15 = .ok (.if_icmp .lt 8, 3) := by decide +kernel
theorem dd_X10_numberRefusal_18 : decode (zc mm_X10_numberRefusal) 18 = .ok (.bipush (-6), 2) := by decide +kernel
theorem dd_X10_numberRefusal_20 : decode (zc mm_X10_numberRefusal) 20 = .ok (.goto 4, 3) := by decide +kernel
theorem dd_X10_numberRefusal_23 : decode (zc mm_X10_numberRefusal) 23 = .ok (.iconst 0, 1) := by decide +kernel
theorem dd_X10_numberRefusal_24 : decode (zc mm_X10_numberRefusal) 24 = .ok (.ireturn, 1) := by decide +kernel
theorem dd_X10_atRefusal_0 : decode (zc mm_X10_atRefusal) 0 = .ok (.aload_n 0, 1) := by decide +kernel
theorem dd_X10_atRefusal_1 : decode (zc mm_X10_atRefusal) 1 = .ok (.iload_n 1, 1) := by decide +kernel
theorem dd_X10_atRefusal_2 : decode (zc mm_X10_atRefusal) 2 = .ok (.iload_n 2, 1) := by decide +kernel
theorem dd_X10_atRefusal_3 : decode (zc mm_X10_atRefusal) 3 = .ok (.iload_n 3, 1) := by decide +kernel
theorem dd_X10_atRefusal_4 : decode (zc mm_X10_atRefusal) 4 = .ok (.iconst 0, 1) := by decide +kernel
theorem dd_X10_atRefusal_5 : decode (zc mm_X10_atRefusal) 5 = .ok (.invokevirtual 181, 3) := by decide +kernel
theorem dd_X10_atRefusal_8 : decode (zc mm_X10_atRefusal) 8 = .ok (.istore 5, 2) := by decide +kernel
theorem dd_X10_atRefusal_10 : decode (zc mm_X10_atRefusal) 10 = .ok (.iload 5, 2) := by decide +kernel
theorem dd_X10_atRefusal_12 : decode (zc mm_X10_atRefusal) 12 = .ok (.ifCond .eq 8, 3) := by decide +kernel
theorem dd_X10_atRefusal_15 : decode (zc mm_X10_atRefusal) 15 = .ok (.iload 5, 2) := by decide +kernel
theorem dd_X10_atRefusal_17 : decode (zc mm_X10_atRefusal) 17 = .ok (.goto 9, 3) := by decide +kernel
theorem dd_X10_atRefusal_20 : decode (zc mm_X10_atRefusal) 20 = .ok (.aload_n 0, 1) := by decide +kernel
theorem dd_X10_atRefusal_21 : decode (zc mm_X10_atRefusal) 21 = .ok (.iload 4, 2) := by decide +kernel
theorem dd_X10_atRefusal_23 : decode (zc mm_X10_atRefusal) 23 = .ok (.invokevirtual 207, 3) := by decide +kernel
theorem dd_X10_atRefusal_26 : decode (zc mm_X10_atRefusal) 26 = .ok (.ireturn, 1) := by decide +kernel
theorem dd_X10_polygonRefusal_0 : decode (zc mm_X10_polygonRefusal) 0 = .ok (.aload_n 0, 1) := by decide +kernel
theorem dd_X10_polygonRefusal_1 : decode (zc mm_X10_polygonRefusal) 1 = .ok (.getfield 12, 3) := by decide +kernel
theorem dd_X10_polygonRefusal_4 : decode (zc mm_X10_polygonRefusal) 4 = .ok (.iload_n 1, 1) := by decide +kernel
theorem dd_X10_polygonRefusal_5 : decode (zc mm_X10_polygonRefusal) 5 = .ok (.invokevirtual 132, 3) := by decide +kernel
theorem dd_X10_polygonRefusal_8 : decode (zc mm_X10_polygonRefusal) 8 = .ok (.ifCond .eq 14, 3) := by decide +kernel
theorem dd_X10_polygonRefusal_11 : decode (zc mm_X10_polygonRefusal) 11 = .ok (.aload_n 0, 1) := by decide +kernel
theorem dd_X10_polygonRefusal_12 : decode (zc mm_X10_polygonRefusal) 12 = .ok (.getfield 12, 3) := by decide +kernel
theorem dd_X10_polygonRefusal_15 : decode (zc mm_X10_polygonRefusal) 15 = .ok (.iload_n 2, 1) := by decide +kernel
theorem dd_X10_polygonRefusal_16 : decode (zc mm_X10_polygonRefusal) 16 = .ok (.invokevirtual 132, 3) := by decide +kernel
theorem dd_X10_polygonRefusal_19 : decode (zc mm_X10_polygonRefusal) 19 = .ok (.ifCond .ne 5, 3) := by decide +kernel
theorem dd_X10_polygonRefusal_22 : decode (zc mm_X10_polygonRefusal) 22 = .ok (.iconst (-1), 1) := by decide +kernel
theorem dd_X10_polygonRefusal_23 : decode (zc mm_X10_polygonRefusal) 23 = .ok (.ireturn, 1) := by decide +kernel
theorem dd_X10_polygonRefusal_24 : decode (zc mm_X10_polygonRefusal) 24 = .ok (.aload_n 0, 1) := by decide +kernel
theorem dd_X10_polygonRefusal_25 : decode (zc mm_X10_polygonRefusal) 25 = .ok (.getfield 12, 3) := by decide +kernel
theorem dd_X10_polygonRefusal_28 : decode (zc mm_X10_polygonRefusal) 28 = .ok (.getfield 135, 3) := by decide +kernel
theorem dd_X10_polygonRefusal_31 : decode (zc mm_X10_polygonRefusal) 31 = .ok (.iload_n 1, 1) := by decide +kernel
theorem dd_X10_polygonRefusal_32 : decode (zc mm_X10_polygonRefusal) 32 = .ok (.aaload, 1) := by decide +kernel
theorem dd_X10_polygonRefusal_33 : decode (zc mm_X10_polygonRefusal) 33 = .ok (.invokevirtual 356, 3) := by decide +kernel
theorem dd_X10_polygonRefusal_36 : decode (zc mm_X10_polygonRefusal) 36 = .ok (.ifCond .ne 18, 3) := by decide +kernel
theorem dd_X10_polygonRefusal_39 : decode (zc mm_X10_polygonRefusal) 39 = .ok (.aload_n 0, 1) := by decide +kernel
theorem dd_X10_polygonRefusal_40 : decode (zc mm_X10_polygonRefusal) 40 = .ok (.getfield 12, 3) := by decide +kernel
theorem dd_X10_polygonRefusal_43 : decode (zc mm_X10_polygonRefusal) 43 = .ok (.getfield 135, 3) := by decide +kernel
theorem dd_X10_polygonRefusal_46 : decode (zc mm_X10_polygonRefusal) 46 = .ok (.iload_n 2, 1) := by decide +kernel
theorem dd_X10_polygonRefusal_47 : decode (zc mm_X10_polygonRefusal) 47 = .ok (.aaload, 1) := by decide +kernel
theorem dd_X10_polygonRefusal_48 : decode (zc mm_X10_polygonRefusal) 48 = .ok (.invokevirtual 356, 3) := by decide +kernel
theorem dd_X10_polygonRefusal_51 : decode (zc mm_X10_polygonRefusal) 51 = .ok (.ifCond .eq 8, 3) := by decide +kernel
theorem dd_X10_polygonRefusal_54 : decode (zc mm_X10_polygonRefusal) 54 = .ok (.bipush (-3), 2) := by decide +kernel
theorem dd_X10_polygonRefusal_56 : decode (zc mm_X10_polygonRefusal) 56 = .ok (.goto 4, 3) := by decide +kernel
theorem dd_X10_polygonRefusal_59 : decode (zc mm_X10_polygonRefusal) 59 = .ok (.iconst 0, 1) := by decide +kernel
theorem dd_X10_polygonRefusal_60 : decode (zc mm_X10_polygonRefusal) 60 = .ok (.ireturn, 1) := by decide +kernel
theorem dd_X10_placeRefusal_0 : decode (zc mm_X10_placeRefusal) 0 = .ok (.aload_n 0, 1) := by decide +kernel
theorem dd_X10_placeRefusal_1 : decode (zc mm_X10_placeRefusal) 1 = .ok (.getfield 64, 3) := by decide +kernel
theorem dd_X10_placeRefusal_4 : decode (zc mm_X10_placeRefusal) 4 = .ok (.iload_n 1, 1) := by decide +kernel
theorem dd_X10_placeRefusal_5 : decode (zc mm_X10_placeRefusal) 5 = .ok (.invokevirtual 315, 3) := by decide +kernel
theorem dd_X10_placeRefusal_8 : decode (zc mm_X10_placeRefusal) 8 = .ok (.ifCond .ne 5, 3) := by decide +kernel
theorem dd_X10_placeRefusal_11 : decode (zc mm_X10_placeRefusal) 11 = .ok (.iconst (-1), 1) := by decide +kernel
theorem dd_X10_placeRefusal_12 : decode (zc mm_X10_placeRefusal) 12 = .ok (.ireturn, 1) := by decide +kernel
theorem dd_X10_placeRefusal_13 : decode (zc mm_X10_placeRefusal) 13 = .ok (.aload_n 0, 1) := by decide +kernel
theorem dd_X10_placeRefusal_14 : decode (zc mm_X10_placeRefusal) 14 = .ok (.getfield 64, 3) := by decide +kernel
theorem dd_X10_placeRefusal_17 : decode (zc mm_X10_placeRefusal) 17 = .ok (.iload_n 1, 1) := by decide +kernel
theorem dd_X10_placeRefusal_18 : decode (zc mm_X10_placeRefusal) 18 = .ok (.invokevirtual 334, 3) := by decide +kernel
theorem dd_X10_placeRefusal_21 : decode (zc mm_X10_placeRefusal) 21 = .ok (.ifCond .eq 6, 3) := by decide +kernel
theorem dd_X10_placeRefusal_24 : decode (zc mm_X10_placeRefusal) 24 = .ok (.bipush (-11), 2) := by decide +kernel
theorem dd_X10_placeRefusal_26 : decode (zc mm_X10_placeRefusal) 26 = .ok (.ireturn, 1) := by decide +kernel
theorem dd_X10_placeRefusal_27 : decode (zc mm_X10_placeRefusal) 27 = .ok (.aload_n 0, 1) := by decide +kernel
theorem dd_X10_placeRefusal_28 : decode (zc mm_X10_placeRefusal) 28 = .ok (.getfield 64, 3) := by decide +kernel
theorem dd_X10_placeRefusal_31 : decode (zc mm_X10_placeRefusal) 31 = .ok (.iload_n 1, 1) := by decide +kernel
theorem dd_X10_placeRefusal_32 : decode (zc mm_X10_placeRefusal) 32 = .ok (.iload_n 2, 1) := by decide +kernel
theorem dd_X10_placeRefusal_33 : decode (zc mm_X10_placeRefusal) 33 = .ok (.invokevirtual 359, 3) := by decide +kernel
theorem dd_X10_placeRefusal_36 : decode (zc mm_X10_placeRefusal) 36 = .ok (.ifCond .eq 7, 3) := by decide +kernel
theorem dd_X10_placeRefusal_39 : decode (zc mm_X10_placeRefusal) 39 = .ok (.iconst 0, 1) := by decide +kernel
theorem dd_X10_placeRefusal_40 : decode (zc mm_X10_placeRefusal) 40 = .ok (.goto 5, 3) := by decide +kernel
theorem dd_X10_placeRefusal_43 : decode (zc mm_X10_placeRefusal) 43 = .ok (.bipush (-13), 2) := by decide +kernel
theorem dd_X10_placeRefusal_45 : decode (zc mm_X10_placeRefusal) 45 = .ok (.ireturn, 1) := by decide +kernel
theorem dd_X10_solve_0 : decode (zc mm_X10_solve) 0 = .ok (.aload_n 0, 1) := by decide +kernel
theorem dd_X10_solve_1 : decode (zc mm_X10_solve) 1 = .ok (.getfield 36, 3) := by decide +kernel
theorem dd_X10_solve_4 : decode (zc mm_X10_solve) 4 = .ok (.aload_n 0, 1) := by decide +kernel
theorem dd_X10_solve_5 : decode (zc mm_X10_solve) 5 = .ok (.getfield 12, 3) := by decide +kernel
theorem dd_X10_solve_8 : decode (zc mm_X10_solve) 8 = .ok (.getfield 135, 3) := by decide +kernel
theorem dd_X10_solve_11 : decode (zc mm_X10_solve) 11 = .ok (.iload_n 1, 1) := by decide +kernel
theorem dd_X10_solve_12 : decode (zc mm_X10_solve) 12 = .ok (.aaload, 1) := by decide +kernel
theorem dd_X10_solve_13 : decode (zc mm_X10_solve) 13 = .ok (.aload_n 0, 1) := by decide +kernel
theorem dd_X10_solve_14 : decode (zc mm_X10_solve) 14 = .ok (.getfield 12, 3) := by decide +kernel
theorem dd_X10_solve_17 : decode (zc mm_X10_solve) 17 = .ok (.getfield 135, 3) := by decide +kernel
theorem dd_X10_solve_20 : decode (zc mm_X10_solve) 20 = .ok (.iload_n 2, 1) := by decide +kernel
theorem dd_X10_solve_21 : decode (zc mm_X10_solve) 21 = .ok (.aaload, 1) := by decide +kernel
theorem dd_X10_solve_22 : decode (zc mm_X10_solve) 22 = .ok (.iload_n 3, 1) := by decide +kernel
theorem dd_X10_solve_23 : decode (zc mm_X10_solve) 23 = .ok (.iload 4, 2) := by decide +kernel
theorem dd_X10_solve_25 : decode (zc mm_X10_solve) 25 = .ok (.aload_n 0, 1) := by decide +kernel
theorem dd_X10_solve_26 : decode (zc mm_X10_solve) 26 = .ok (.getfield 12, 3) := by decide +kernel
theorem dd_X10_solve_29 : decode (zc mm_X10_solve) 29 = .ok (.getfield 114, 3) := by decide +kernel
theorem dd_X10_solve_32 : decode (zc mm_X10_solve) 32 = .ok (.invokevirtual 189, 3) := by decide +kernel
theorem dd_X10_solve_35 : decode (zc mm_X10_solve) 35 = .ok (.aload_n 0, 1) := by decide +kernel
theorem dd_X10_solve_36 : decode (zc mm_X10_solve) 36 = .ok (.getfield 36, 3) := by decide +kernel
theorem dd_X10_solve_39 : decode (zc mm_X10_solve) 39 = .ok (.aload_n 0, 1) := by decide +kernel
theorem dd_X10_solve_40 : decode (zc mm_X10_solve) 40 = .ok (.getfield 12, 3) := by decide +kernel
theorem dd_X10_solve_43 : decode (zc mm_X10_solve) 43 = .ok (.getfield 114, 3) := by decide +kernel
theorem dd_X10_solve_46 : decode (zc mm_X10_solve) 46 = .ok (.invokevirtual 247, 3) := by decide +kernel
theorem dd_X10_solve_49 : decode (zc mm_X10_solve) 49 = .ok (.return_, 1) := by decide +kernel
theorem dd_X10_divideAt_0 : decode (zc mm_X10_divideAt) 0 = .ok (.aload_n 0, 1) := by decide +kernel
theorem dd_X10_divideAt_1 : decode (zc mm_X10_divideAt) 1 = .ok (.getfield 12, 3) := by decide +kernel
theorem dd_X10_divideAt_4 : decode (zc mm_X10_divideAt) 4 = .ok (.getfield 135, 3) := by decide +kernel
theorem dd_X10_divideAt_7 : decode (zc mm_X10_divideAt) 7 = .ok (.iload_n 1, 1) := by decide +kernel
theorem dd_X10_divideAt_8 : decode (zc mm_X10_divideAt) 8 = .ok (.aaload, 1) := by decide +kernel
theorem dd_X10_divideAt_9 : decode (zc mm_X10_divideAt) 9 = .ok (.iload_n 3, 1) := by decide +kernel
theorem dd_X10_divideAt_10 : decode (zc mm_X10_divideAt) 10 = .ok (.iload 4, 2) := by decide +kernel
theorem dd_X10_divideAt_12 : decode (zc mm_X10_divideAt) 12 = .ok (.aload_n 0, 1) := by decide +kernel
theorem dd_X10_divideAt_13 : decode (zc mm_X10_divideAt) 13 = .ok (.getfield 12, 3) := by decide +kernel
theorem dd_X10_divideAt_16 : decode (zc mm_X10_divideAt) 16 = .ok (.getfield 114, 3) := by decide +kernel
theorem dd_X10_divideAt_19 : decode (zc mm_X10_divideAt) 19 = .ok (.aload_n 0, 1) := by decide +kernel
theorem dd_X10_divideAt_20 : decode (zc mm_X10_divideAt) 20 = .ok (.getfield 43, 3) := by decide +kernel
theorem dd_X10_divideAt_23 : decode (zc mm_X10_divideAt) 23 = .ok (.getfield 229, 3) := by decide +kernel
theorem dd_X10_divideAt_26 : decode (zc mm_X10_divideAt) 26 = .ok (.invokevirtual 232, 3) := by decide +kernel
theorem dd_X10_divideAt_29 : decode (zc mm_X10_divideAt) 29 = .ok (.aload_n 0, 1) := by decide +kernel
theorem dd_X10_divideAt_30 : decode (zc mm_X10_divideAt) 30 = .ok (.getfield 12, 3) := by decide +kernel
theorem dd_X10_divideAt_33 : decode (zc mm_X10_divideAt) 33 = .ok (.getfield 135, 3) := by decide +kernel
theorem dd_X10_divideAt_36 : decode (zc mm_X10_divideAt) 36 = .ok (.iload_n 2, 1) := by decide +kernel
theorem dd_X10_divideAt_37 : decode (zc mm_X10_divideAt) 37 = .ok (.aaload, 1) := by decide +kernel
theorem dd_X10_divideAt_38 : decode (zc mm_X10_divideAt) 38 = .ok (.iload_n 3, 1) := by decide +kernel
theorem dd_X10_divideAt_39 : decode (zc mm_X10_divideAt) 39 = .ok (.iload 4, 2) := by decide +kernel
theorem dd_X10_divideAt_41 : decode (zc mm_X10_divideAt) 41 = .ok (.aload_n 0, 1) := by decide +kernel
theorem dd_X10_divideAt_42 : decode (zc mm_X10_divideAt) 42 = .ok (.getfield 12, 3) := by decide +kernel
theorem dd_X10_divideAt_45 : decode (zc mm_X10_divideAt) 45 = .ok (.getfield 114, 3) := by decide +kernel
theorem dd_X10_divideAt_48 : decode (zc mm_X10_divideAt) 48 = .ok (.aload_n 0, 1) := by decide +kernel
theorem dd_X10_divideAt_49 : decode (zc mm_X10_divideAt) 49 = .ok (.getfield 43, 3) := by decide +kernel
theorem dd_X10_divideAt_52 : decode (zc mm_X10_divideAt) 52 = .ok (.getfield 236, 3) := by decide +kernel
theorem dd_X10_divideAt_55 : decode (zc mm_X10_divideAt) 55 = .ok (.invokevirtual 232, 3) := by decide +kernel
theorem dd_X10_divideAt_58 : decode (zc mm_X10_divideAt) 58 = .ok (.aload_n 0, 1) := by decide +kernel
theorem dd_X10_divideAt_59 : decode (zc mm_X10_divideAt) 59 = .ok (.getfield 43, 3) := by decide +kernel
theorem dd_X10_divideAt_62 : decode (zc mm_X10_divideAt) 62 = .ok (.aload_n 0, 1) := by decide +kernel
theorem dd_X10_divideAt_63 : decode (zc mm_X10_divideAt) 63 = .ok (.getfield 12, 3) := by decide +kernel
theorem dd_X10_divideAt_66 : decode (zc mm_X10_divideAt) 66 = .ok (.getfield 114, 3) := by decide +kernel
theorem dd_X10_divideAt_69 : decode (zc mm_X10_divideAt) 69 = .ok (.invokevirtual 254, 3) := by decide +kernel
theorem dd_X10_divideAt_72 : decode (zc mm_X10_divideAt) 72 = .ok (.return_, 1) := by decide +kernel
theorem dd_X10_tryAll_0 : decode (zc mm_X10_tryAll) 0 = .ok (.aload_n 0, 1) := by decide +kernel
theorem dd_X10_tryAll_1 : decode (zc mm_X10_tryAll) 1 = .ok (.getfield 57, 3) := by decide +kernel
theorem dd_X10_tryAll_4 : decode (zc mm_X10_tryAll) 4 = .ok (.aload_n 0, 1) := by decide +kernel
theorem dd_X10_tryAll_5 : decode (zc mm_X10_tryAll) 5 = .ok (.getfield 12, 3) := by decide +kernel
theorem dd_X10_tryAll_8 : decode (zc mm_X10_tryAll) 8 = .ok (.getfield 135, 3) := by decide +kernel
theorem dd_X10_tryAll_11 : decode (zc mm_X10_tryAll) 11 = .ok (.iload_n 1, 1) := by decide +kernel
theorem dd_X10_tryAll_12 : decode (zc mm_X10_tryAll) 12 = .ok (.aaload, 1) := by decide +kernel
theorem dd_X10_tryAll_13 : decode (zc mm_X10_tryAll) 13 = .ok (.aload_n 0, 1) := by decide +kernel
theorem dd_X10_tryAll_14 : decode (zc mm_X10_tryAll) 14 = .ok (.getfield 12, 3) := by decide +kernel
theorem dd_X10_tryAll_17 : decode (zc mm_X10_tryAll) 17 = .ok (.getfield 135, 3) := by decide +kernel
theorem dd_X10_tryAll_20 : decode (zc mm_X10_tryAll) 20 = .ok (.iload_n 2, 1) := by decide +kernel
theorem dd_X10_tryAll_21 : decode (zc mm_X10_tryAll) 21 = .ok (.aaload, 1) := by decide +kernel
theorem dd_X10_tryAll_22 : decode (zc mm_X10_tryAll) 22 = .ok (.iload_n 3, 1) := by decide +kernel
theorem dd_X10_tryAll_23 : decode (zc mm_X10_tryAll) 23 = .ok (.aload_n 0, 1) := by decide +kernel
theorem dd_X10_tryAll_24 : decode (zc mm_X10_tryAll) 24 = .ok (.getfield 12, 3) := by decide +kernel
theorem dd_X10_tryAll_27 : decode (zc mm_X10_tryAll) 27 = .ok (.getfield 114, 3) := by decide +kernel
theorem dd_X10_tryAll_30 : decode (zc mm_X10_tryAll) 30 = .ok (.invokevirtual 363, 3) := by decide +kernel
theorem dd_X10_tryAll_33 : decode (zc mm_X10_tryAll) 33 = .ok (.return_, 1) := by decide +kernel

theorem dd_X0_init_0 : decode (zc mm_X0_init) 0 = .ok (.aload_n 0, 1) := by decide +kernel
theorem dd_X0_init_1 : decode (zc mm_X0_init) 1 = .ok (.invokespecial 3, 3) := by decide +kernel
theorem dd_X0_init_4 : decode (zc mm_X0_init) 4 = .ok (.aload_n 0, 1) := by decide +kernel
theorem dd_X0_init_5 : decode (zc mm_X0_init) 5 = .ok (.iconst 5, 1) := by decide +kernel
theorem dd_X0_init_6 : decode (zc mm_X0_init) 6 = .ok (.newarray .int, 2) := by decide +kernel
theorem dd_X0_init_8 : decode (zc mm_X0_init) 8 = .ok (.putfield 9, 3) := by decide +kernel
theorem dd_X0_init_11 : decode (zc mm_X0_init) 11 = .ok (.aload_n 0, 1) := by decide +kernel
theorem dd_X0_init_12 : decode (zc mm_X0_init) 12 = .ok (.iconst 5, 1) := by decide +kernel
theorem dd_X0_init_13 : decode (zc mm_X0_init) 13 = .ok (.newarray .int, 2) := by decide +kernel
theorem dd_X0_init_15 : decode (zc mm_X0_init) 15 = .ok (.putfield 15, 3) := by decide +kernel
theorem dd_X0_init_18 : decode (zc mm_X0_init) 18 = .ok (.aload_n 0, 1) := by decide +kernel
theorem dd_X0_init_19 : decode (zc mm_X0_init) 19 = .ok (.bipush 8, 2) := by decide +kernel
theorem dd_X0_init_21 : decode (zc mm_X0_init) 21 = .ok (.newarray .int, 2) := by decide +kernel
theorem dd_X0_init_23 : decode (zc mm_X0_init) 23 = .ok (.putfield 18, 3) := by decide +kernel
theorem dd_X0_init_26 : decode (zc mm_X0_init) 26 = .ok (.return_, 1) := by decide +kernel
theorem dd_X0_divideOn_0 : decode (zc mm_X0_divideOn) 0 = .ok (.aload_n 0, 1) := by decide +kernel
theorem dd_X0_divideOn_1 : decode (zc mm_X0_divideOn) 1 = .ok (.iconst 0, 1) := by decide +kernel
theorem dd_X0_divideOn_2 : decode (zc mm_X0_divideOn) 2 = .ok (.putfield 21, 3) := by decide +kernel
theorem dd_X0_divideOn_5 : decode (zc mm_X0_divideOn) 5 = .ok (.aload_n 0, 1) := by decide +kernel
theorem dd_X0_divideOn_6 : decode (zc mm_X0_divideOn) 6 = .ok (.getfield 9, 3) := by decide +kernel
theorem dd_X0_divideOn_9 : decode (zc mm_X0_divideOn) 9 = .ok (.astore_n 2, 1) := by decide +kernel
theorem dd_X0_divideOn_10 : decode (zc mm_X0_divideOn) 10 = .ok (.aload_n 0, 1) := by decide +kernel
theorem dd_X0_divideOn_11 : decode (zc mm_X0_divideOn) 11 = .ok (.getfield 15, 3) := by decide +kernel
theorem dd_X0_divideOn_14 : decode (zc mm_X0_divideOn) 14 = .ok (.astore_n 3, 1) := by decide +kernel
theorem dd_X0_divideOn_15 : decode (zc mm_X0_divideOn) 15 = .ok (.aload_n 0, 1) := by decide +kernel
theorem dd_X0_divideOn_16 : decode (zc mm_X0_divideOn) 16 = .ok (.aload_n 2, 1) := by decide +kernel
theorem dd_X0_divideOn_17 : decode (zc mm_X0_divideOn) 17 = .ok (.invokestatic 25, 3) := by decide +kernel
theorem dd_X0_divideOn_20 : decode (zc mm_X0_divideOn) 20 = .ok (.invokevirtual 31, 3) := by decide +kernel
theorem dd_X0_divideOn_23 : decode (zc mm_X0_divideOn) 23 = .ok (.iconst 0, 1) := by decide +kernel
theorem dd_X0_divideOn_24 : decode (zc mm_X0_divideOn) 24 = .ok (.istore 4, 2) := by decide +kernel
theorem dd_X0_divideOn_26 : decode (zc mm_X0_divideOn) 26 = .ok (.iload 4, 2) := by decide +kernel
theorem dd_X0_divideOn_28 : decode (zc mm_X0_divideOn) 28 = .ok (.bipush 8, 2) := by decide +kernel
theorem dd_X0_divideOn_30 : decode (zc mm_X0_divideOn) 30 = .ok (.if_icmp .ge 38, 3) := by decide +kernel
theorem dd_X0_divideOn_33 : decode (zc mm_X0_divideOn) 33 = .ok (.aload_n 3, 1) := by decide +kernel
theorem dd_X0_divideOn_34 : decode (zc mm_X0_divideOn) 34 = .ok (.invokestatic 25, 3) := by decide +kernel
theorem dd_X0_divideOn_37 : decode (zc mm_X0_divideOn) 37 = .ok (.ifCond .lt 31, 3) := by decide +kernel
theorem dd_X0_divideOn_40 : decode (zc mm_X0_divideOn) 40 = .ok (.aload_n 0, 1) := by decide +kernel
theorem dd_X0_divideOn_41 : decode (zc mm_X0_divideOn) 41 = .ok (.aload_n 3, 1) := by decide +kernel
theorem dd_X0_divideOn_42 : decode (zc mm_X0_divideOn) 42 = .ok (.invokestatic 25, 3) := by decide +kernel
theorem dd_X0_divideOn_45 : decode (zc mm_X0_divideOn) 45 = .ok (.invokevirtual 31, 3) := by decide +kernel
theorem dd_X0_divideOn_48 : decode (zc mm_X0_divideOn) 48 = .ok (.aload_n 2, 1) := by decide +kernel
theorem dd_X0_divideOn_49 : decode (zc mm_X0_divideOn) 49 = .ok (.aload_n 3, 1) := by decide +kernel
theorem dd_X0_divideOn_50 : decode (zc mm_X0_divideOn) 50 = .ok (.iload_n 1, 1) := by decide +kernel
theorem dd_X0_divideOn_51 : decode (zc mm_X0_divideOn) 51 = .ok (.invokestatic 35, 3) := by decide +kernel
theorem dd_X0_divideOn_54 : decode (zc mm_X0_divideOn) 54 = .ok (.aload_n 2, 1) := by decide +kernel
theorem dd_X0_divideOn_55 : decode (zc mm_X0_divideOn) 55 = .ok (.astore 5, 2) := by decide +kernel
theorem dd_X0_divideOn_57 : decode (zc mm_X0_divideOn) 57 = .ok (.aload_n 3, 1) := by decide +kernel
theorem dd_X0_divideOn_58 : decode (zc mm_X0_divideOn) 58 = .ok (.astore_n 2, 1) := by decide +kernel
theorem dd_X0_divideOn_59 : decode (zc mm_X0_divideOn) 59 = .ok (.aload 5, 2) := by decide +kernel
theorem dd_X0_divideOn_61 : decode (zc mm_X0_divideOn) 61 = .ok (.astore_n 3, 1) := by decide +kernel
theorem dd_X0_divideOn_62 : decode (zc mm_X0_divideOn) 62 = .ok (.iinc 4 1, 3) := by decide +kernel
theorem dd_X0_divideOn_65 : decode (zc mm_X0_divideOn) 65 = .ok (.goto (-39), 3) := by decide +kernel
theorem dd_X0_divideOn_68 : decode (zc mm_X0_divideOn) 68 = .ok (.return_, 1) := by decide +kernel
theorem dd_X0_note_0 : decode (zc mm_X0_note) 0 = .ok (.iload_n 1, 1) := by decide +kernel
theorem dd_X0_note_1 : decode (zc mm_X0_note) 1 = .ok (.ifCond .lt 32, 3) := by decide +kernel
theorem dd_X0_note_4 : decode (zc mm_X0_note) 4 = .ok (.aload_n 0, 1) := by decide +kernel
theorem dd_X0_note_5 : decode (zc mm_X0_note) 5 = .ok (.getfield 21, 3) := by decide +kernel
theorem dd_X0_note_8 : decode (zc mm_X0_note) 8 = .ok (.bipush 8, 2) := by decide +kernel
theorem dd_X0_note_10 : decode (zc mm_X0_note) 10 = .ok (.if_icmp .ge 23, 3) := by decide +kernel
theorem dd_X0_note_13 : decode (zc mm_X0_note) 13 = .ok (.aload_n 0, 1) := by decide +kernel
theorem dd_X0_note_14 : decode (zc mm_X0_note) 14 = .ok (.getfield 18, 3) := by decide +kernel
theorem dd_X0_note_17 : decode (zc mm_X0_note) 17 = .ok (.aload_n 0, 1) := by decide +kernel
theorem dd_X0_note_18 : decode (zc mm_X0_note) 18 = .ok (.getfield 21, 3) := by decide +kernel
theorem dd_X0_note_21 : decode (zc mm_X0_note) 21 = .ok (.iload_n 1, 1) := by decide +kernel
theorem dd_X0_note_22 : decode (zc mm_X0_note) 22 = .ok (.iastore, 1) := by decide +kernel
theorem dd_X0_note_23 : decode (zc mm_X0_note) 23 = .ok (.aload_n 0, 1) := by decide +kernel
theorem dd_X0_note_24 : decode (zc mm_X0_note) 24 = .ok (.dup, 1) := by decide +kernel
theorem dd_X0_note_25 : decode (zc mm_X0_note) 25 = .ok (.getfield 21, 3) := by decide +kernel
theorem dd_X0_note_28 : decode (zc mm_X0_note) 28 = .ok (.iconst 1, 1) := by decide +kernel
theorem dd_X0_note_29 : decode (zc mm_X0_note) 29 = .ok (.iadd, 1) := by decide +kernel
theorem dd_X0_note_30 : decode (zc mm_X0_note) 30 = .ok (.putfield 21, 3) := by decide +kernel
theorem dd_X0_note_33 : decode (zc mm_X0_note) 33 = .ok (.return_, 1) := by decide +kernel
theorem dd_X0_divide_0 : decode (zc mm_X0_divide) 0 = .ok (.aload_n 1, 1) := by decide +kernel
theorem dd_X0_divide_1 : decode (zc mm_X0_divide) 1 = .ok (.invokestatic 25, 3) := by decide +kernel
theorem dd_X0_divide_4 : decode (zc mm_X0_divide) 4 = .ok (.istore_n 3, 1) := by decide +kernel
theorem dd_X0_divide_5 : decode (zc mm_X0_divide) 5 = .ok (.iload_n 3, 1) := by decide +kernel
theorem dd_X0_divide_6 : decode (zc mm_X0_divide) 6 = .ok (.ifCond .ge 4, 3) := by decide +kernel
theorem dd_X0_divide_9 : decode (zc mm_X0_divide) 9 = .ok (.return_, 1) := by decide +kernel
theorem dd_X0_divide_10 : decode (zc mm_X0_divide) 10 = .ok (.aload_n 1, 1) := by decide +kernel
theorem dd_X0_divide_11 : decode (zc mm_X0_divide) 11 = .ok (.iload_n 3, 1) := by decide +kernel
theorem dd_X0_divide_12 : decode (zc mm_X0_divide) 12 = .ok (.iaload, 1) := by decide +kernel
theorem dd_X0_divide_13 : decode (zc mm_X0_divide) 13 = .ok (.iload_n 2, 1) := by decide +kernel
theorem dd_X0_divide_14 : decode (zc mm_X0_divide) 14 = .ok (.invokestatic 39, 3) := by decide +kernel
theorem dd_X0_divide_17 : decode (zc mm_X0_divide) 17 = .ok (.istore 4, 2) := by decide +kernel
theorem dd_X0_divide_19 : decode (zc mm_X0_divide) 19 = .ok (.aload_n 0, 1) := by decide +kernel
theorem dd_X0_divide_20 : decode (zc mm_X0_divide) 20 = .ok (.invokestatic 25, 3) := by decide +kernel
theorem dd_X0_divide_23 : decode (zc mm_X0_divide) 23 = .ok (.istore 5, 2) := by decide +kernel
theorem dd_X0_divide_25 : decode (zc mm_X0_divide) 25 = .ok (.iload 5, 2) := by decide +kernel
theorem dd_X0_divide_27 : decode (zc mm_X0_divide) 27 = .ok (.iload_n 3, 1) := by decide +kernel
theorem dd_X0_divide_28 : decode (zc mm_X0_divide) 28 = .ok (.if_icmp .lt 64, 3) := by decide +kernel
theorem dd_X0_divide_31 : decode (zc mm_X0_divide) 31 = .ok (.aload_n 0, 1) := by decide +kernel
theorem dd_X0_divide_32 : decode (zc mm_X0_divide) 32 = .ok (.iload 5, 2) := by decide +kernel
theorem dd_X0_divide_34 : decode (zc mm_X0_divide) 34 = .ok (.iaload, 1) := by decide +kernel
theorem dd_X0_divide_35 : decode (zc mm_X0_divide) 35 = .ok (.iload 4, 2) := by decide +kernel
theorem dd_X0_divide_37 : decode (zc mm_X0_divide) 37 = .ok (.imul, 1) := by decide +kernel
theorem dd_X0_divide_38 : decode (zc mm_X0_divide) 38 = .ok (.iload_n 2, 1) := by decide +kernel
theorem dd_X0_divide_39 : decode (zc mm_X0_divide) 39 = .ok (.irem, 1) := by decide +kernel
theorem dd_X0_divide_40 : decode (zc mm_X0_divide) 40 = .ok (.istore 6, 2) := by decide +kernel
theorem dd_X0_divide_42 : decode (zc mm_X0_divide) 42 = .ok (.iconst 0, 1) := by decide +kernel
theorem dd_X0_divide_43 : decode (zc mm_X0_divide) 43 = .ok (.istore 7, 2) := by decide +kernel
theorem dd_X0_divide_45 : decode (zc mm_X0_divide) 45 = .ok (.iload 7, 2) := by decide +kernel
theorem dd_X0_divide_47 : decode (zc mm_X0_divide) 47 = .ok (.iload_n 3, 1) := by decide +kernel
theorem dd_X0_divide_48 : decode (zc mm_X0_divide) 48 = .ok (.if_icmp .gt 38, 3) := by decide +kernel
theorem dd_X0_divide_51 : decode (zc mm_X0_divide) 51 = .ok (.iload 5, 2) := by decide +kernel
theorem dd_X0_divide_53 : decode (zc mm_X0_divide) 53 = .ok (.iload_n 3, 1) := by decide +kernel
theorem dd_X0_divide_54 : decode (zc mm_X0_divide) 54 = .ok (.isub, 1) := by decide +kernel
theorem dd_X0_divide_55 : decode (zc mm_X0_divide) 55 = .ok (.iload 7, 2) := by decide +kernel
theorem dd_X0_divide_57 : decode (zc mm_X0_divide) 57 = .ok (.iadd, 1) := by decide +kernel
theorem dd_X0_divide_58 : decode (zc mm_X0_divide) 58 = .ok (.istore 8, 2) := by decide +kernel
theorem dd_X0_divide_60 : decode (zc mm_X0_divide) 60 = .ok (.aload_n 0, 1) := by decide +kernel
theorem dd_X0_divide_61 : decode (zc mm_X0_divide) 61 = .ok (.iload 8, 2) := by decide +kernel
theorem dd_X0_divide_63 : decode (zc mm_X0_divide) 63 = .ok (.aload_n 0, 1) := by decide +kernel
theorem dd_X0_divide_64 : decode (zc mm_X0_divide) 64 = .ok (.iload 8, 2) := by decide +kernel
theorem dd_X0_divide_66 : decode (zc mm_X0_divide) 66 = .ok (.iaload, 1) := by decide +kernel
theorem dd_X0_divide_67 : decode (zc mm_X0_divide) 67 = .ok (.iload 6, 2) := by decide +kernel
theorem dd_X0_divide_69 : decode (zc mm_X0_divide) 69 = .ok (.aload_n 1, 1) := by decide +kernel
theorem dd_X0_divide_70 : decode (zc mm_X0_divide) 70 = .ok (.iload 7, 2) := by decide +kernel
theorem dd_X0_divide_72 : decode (zc mm_X0_divide) 72 = .ok (.iaload, 1) := by decide +kernel
theorem dd_X0_divide_73 : decode (zc mm_X0_divide) 73 = .ok (.imul, 1) := by decide +kernel
theorem dd_X0_divide_74 : decode (zc mm_X0_divide) 74 = .ok (.isub, 1) := by decide +kernel
theorem dd_X0_divide_75 : decode (zc mm_X0_divide) 75 = .ok (.iload_n 2, 1) := by decide +kernel
theorem dd_X0_divide_76 : decode (zc mm_X0_divide) 76 = .ok (.invokestatic 43, 3) := by decide +kernel
theorem dd_X0_divide_79 : decode (zc mm_X0_divide) 79 = .ok (.iastore, 1) := by decide +kernel
theorem dd_X0_divide_80 : decode (zc mm_X0_divide) 80 = .ok (.iinc 7 1, 3) := by decide +kernel
theorem dd_X0_divide_83 : decode (zc mm_X0_divide) 83 = .ok (.goto (-38), 3) := by decide +kernel
theorem dd_X0_divide_86 : decode (zc mm_X0_divide) 86 = .ok (.iinc 5 (-1), 3) := by decide +kernel
theorem dd_X0_divide_89 : decode (zc mm_X0_divide) 89 = .ok (.goto (-64), 3) := by decide +kernel
theorem dd_X0_divide_92 : decode (zc mm_X0_divide) 92 = .ok (.return_, 1) := by decide +kernel
theorem dd_X0_linkDegree_0 : decode (zc mm_X0_linkDegree) 0 = .ok (.iload_n 1, 1) := by decide +kernel
theorem dd_X0_linkDegree_1 : decode (zc mm_X0_linkDegree) 1 = .ok (.ifCond .lt 20, 3) := by decide +kernel
theorem dd_X0_linkDegree_4 : decode (zc mm_X0_linkDegree) 4 = .ok (.iload_n 1, 1) := by decide +kernel
theorem dd_X0_linkDegree_5 : decode (zc mm_X0_linkDegree) 5 = .ok (.aload_n 0, 1) := by decide +kernel
theorem dd_X0_linkDegree_6 : decode (zc mm_X0_linkDegree) 6 = .ok (.getfield 21, 3) := by decide +kernel
theorem dd_X0_linkDegree_9 : decode (zc mm_X0_linkDegree) 9 = .ok (.if_icmp .ge 12, 3) := by decide +kernel
theorem dd_X0_linkDegree_12 : decode (zc mm_X0_linkDegree) 12 = .ok (.aload_n 0, 1) := by decide +kernel
theorem dd_X0_linkDegree_13 : decode (zc mm_X0_linkDegree) 13 = .ok (.getfield 18, 3) := by decide +kernel
theorem dd_X0_linkDegree_16 : decode (zc mm_X0_linkDegree) 16 = .ok (.iload_n 1, 1) := by decide +kernel
theorem dd_X0_linkDegree_17 : decode (zc mm_X0_linkDegree) 17 = .ok (.iaload, 1) := by decide +kernel
theorem dd_X0_linkDegree_18 : decode (zc mm_X0_linkDegree) 18 = .ok (.goto 5, 3) := by decide +kernel
theorem dd_X0_linkDegree_21 : decode (zc mm_X0_linkDegree) 21 = .ok (.bipush (-9), 2) := by decide +kernel
theorem dd_X0_linkDegree_23 : decode (zc mm_X0_linkDegree) 23 = .ok (.ireturn, 1) := by decide +kernel
theorem dd_X0_lastDegree_0 : decode (zc mm_X0_lastDegree) 0 = .ok (.aload_n 0, 1) := by decide +kernel
theorem dd_X0_lastDegree_1 : decode (zc mm_X0_lastDegree) 1 = .ok (.aload_n 0, 1) := by decide +kernel
theorem dd_X0_lastDegree_2 : decode (zc mm_X0_lastDegree) 2 = .ok (.getfield 21, 3) := by decide +kernel
theorem dd_X0_lastDegree_5 : decode (zc mm_X0_lastDegree) 5 = .ok (.iconst 1, 1) := by decide +kernel
theorem dd_X0_lastDegree_6 : decode (zc mm_X0_lastDegree) 6 = .ok (.isub, 1) := by decide +kernel
theorem dd_X0_lastDegree_7 : decode (zc mm_X0_lastDegree) 7 = .ok (.invokevirtual 48, 3) := by decide +kernel
theorem dd_X0_lastDegree_10 : decode (zc mm_X0_lastDegree) 10 = .ok (.ireturn, 1) := by decide +kernel
theorem dd_X0_layMultiples_0 : decode (zc mm_X0_layMultiples) 0 = .ok (.iconst 0, 1) := by decide +kernel
theorem dd_X0_layMultiples_1 : decode (zc mm_X0_layMultiples) 1 = .ok (.istore 4, 2) := by decide +kernel
theorem dd_X0_layMultiples_3 : decode (zc mm_X0_layMultiples) 3 = .ok (.iload 4, 2) := by decide +kernel
theorem dd_X0_layMultiples_5 : decode (zc mm_X0_layMultiples) 5 = .ok (.iload_n 2, 1) := by decide +kernel
theorem dd_X0_layMultiples_6 : decode (zc mm_X0_layMultiples) 6 = .ok (.if_icmp .ge 61, 3) := by decide +kernel
theorem dd_X0_layMultiples_9 : decode (zc mm_X0_layMultiples) 9 = .ok (.aload_n 0, 1) := by decide +kernel
theorem dd_X0_layMultiples_10 : decode (zc mm_X0_layMultiples) 10 = .ok (.getfield 15, 3) := by decide +kernel
theorem dd_X0_layMultiples_13 : decode (zc mm_X0_layMultiples) 13 = .ok (.aload_n 0, 1) := by decide +kernel
theorem dd_X0_layMultiples_14 : decode (zc mm_X0_layMultiples) 14 = .ok (.getfield 9, 3) := by decide +kernel
theorem dd_X0_layMultiples_17 : decode (zc mm_X0_layMultiples) 17 = .ok (.iload_n 3, 1) := by decide +kernel
theorem dd_X0_layMultiples_18 : decode (zc mm_X0_layMultiples) 18 = .ok (.invokestatic 35, 3) := by decide +kernel
theorem dd_X0_layMultiples_21 : decode (zc mm_X0_layMultiples) 21 = .ok (.iconst 0, 1) := by decide +kernel
theorem dd_X0_layMultiples_22 : decode (zc mm_X0_layMultiples) 22 = .ok (.istore 5, 2) := by decide +kernel
theorem dd_X0_layMultiples_24 : decode (zc mm_X0_layMultiples) 24 = .ok (.iload 5, 2) := by decide +kernel
theorem dd_X0_layMultiples_26 : decode (zc mm_X0_layMultiples) 26 = .ok (.iload_n 2, 1) := by decide +kernel
theorem dd_X0_layMultiples_27 : decode (zc mm_X0_layMultiples) 27 = .ok (.if_icmp .ge 30, 3) := by decide +kernel
theorem dd_X0_layMultiples_30 : decode (zc mm_X0_layMultiples) 30 = .ok (.iload 5, 2) := by decide +kernel
theorem dd_X0_layMultiples_32 : decode (zc mm_X0_layMultiples) 32 = .ok (.iconst 5, 1) := by decide +kernel
theorem dd_X0_layMultiples_33 : decode (zc mm_X0_layMultiples) 33 = .ok (.if_icmp .ge 24, 3) := by decide +kernel
theorem dd_X0_layMultiples_36 : decode (zc mm_X0_layMultiples) 36 = .ok (.aload_n 1, 1) := by decide +kernel
theorem dd_X0_layMultiples_37 : decode (zc mm_X0_layMultiples) 37 = .ok (.iload 4, 2) := by decide +kernel
theorem dd_X0_layMultiples_39 : decode (zc mm_X0_layMultiples) 39 = .ok (.iload 5, 2) := by decide +kernel
theorem dd_X0_layMultiples_41 : decode (zc mm_X0_layMultiples) 41 = .ok (.aload_n 0, 1) := by decide +kernel
theorem dd_X0_layMultiples_42 : decode (zc mm_X0_layMultiples) 42 = .ok (.getfield 15, 3) := by decide +kernel
theorem dd_X0_layMultiples_45 : decode (zc mm_X0_layMultiples) 45 = .ok (.iload 5, 2) := by decide +kernel
theorem dd_X0_layMultiples_47 : decode (zc mm_X0_layMultiples) 47 = .ok (.iaload, 1) := by decide +kernel
theorem dd_X0_layMultiples_48 : decode (zc mm_X0_layMultiples) 48 = .ok (.invokevirtual 52, 3) := by decide +kernel
theorem dd_X0_layMultiples_51 : decode (zc mm_X0_layMultiples) 51 = .ok (.iinc 5 1, 3) := by decide +kernel
theorem dd_X0_layMultiples_54 : decode (zc mm_X0_layMultiples) 54 = .ok (.goto (-30), 3) := by decide +kernel
theorem dd_X0_layMultiples_57 : decode (zc mm_X0_layMultiples) 57 = .ok (.aload_n 0, 1) := by decide +kernel
theorem dd_X0_layMultiples_58 : decode (zc mm_X0_layMultiples) 58 = .ok (.invokevirtual 58, 3) := by decide +kernel
theorem dd_X0_layMultiples_61 : decode (zc mm_X0_layMultiples) 61 = .ok (.iinc 4 1, 3) := by decide +kernel
theorem dd_X0_layMultiples_64 : decode (zc mm_X0_layMultiples) 64 = .ok (.goto (-61), 3) := by decide +kernel
theorem dd_X0_layMultiples_67 : decode (zc mm_X0_layMultiples) 67 = .ok (.return_, 1) := by decide +kernel
theorem dd_X0_raise_0 : decode (zc mm_X0_raise) 0 = .ok (.iconst 4, 1) := by decide +kernel
theorem dd_X0_raise_1 : decode (zc mm_X0_raise) 1 = .ok (.istore_n 1, 1) := by decide +kernel
theorem dd_X0_raise_2 : decode (zc mm_X0_raise) 2 = .ok (.iload_n 1, 1) := by decide +kernel
theorem dd_X0_raise_3 : decode (zc mm_X0_raise) 3 = .ok (.ifCond .le 23, 3) := by decide +kernel
theorem dd_X0_raise_6 : decode (zc mm_X0_raise) 6 = .ok (.aload_n 0, 1) := by decide +kernel
theorem dd_X0_raise_7 : decode (zc mm_X0_raise) 7 = .ok (.getfield 15, 3) := by decide +kernel
theorem dd_X0_raise_10 : decode (zc mm_X0_raise) 10 = .ok (.iload_n 1, 1) := by decide +kernel
theorem dd_X0_raise_11 : decode (zc mm_X0_raise) 11 = .ok (.aload_n 0, 1) := by decide +kernel
theorem dd_X0_raise_12 : decode (zc mm_X0_raise) 12 = .ok (.getfield 15, 3) := by decide +kernel
theorem dd_X0_raise_15 : decode (zc mm_X0_raise) 15 = .ok (.iload_n 1, 1) := by decide +kernel
theorem dd_X0_raise_16 : decode (zc mm_X0_raise) 16 = .ok (.iconst 1, 1) := by decide +kernel
theorem dd_X0_raise_17 : decode (zc mm_X0_raise) 17 = .ok (.isub, 1) := by decide +kernel
theorem dd_X0_raise_18 : decode (zc mm_X0_raise) 18 = .ok (.iaload, 1) := by decide +kernel
theorem dd_X0_raise_19 : decode (zc mm_X0_raise) 19 = .ok (.iastore, 1) := by decide +kernel
theorem dd_X0_raise_20 : decode (zc mm_X0_raise) 20 = .ok (.iinc 1 (-1), 3) := by decide +kernel
theorem dd_X0_raise_23 : decode (zc mm_X0_raise) 23 = .ok (.goto (-21), 3) := by decide +kernel
theorem dd_X0_raise_26 : decode (zc mm_X0_raise) 26 = .ok (.aload_n 0, 1) := by decide +kernel
theorem dd_X0_raise_27 : decode (zc mm_X0_raise) 27 = .ok (.getfield 15, 3) := by decide +kernel
theorem dd_X0_raise_30 : decode (zc mm_X0_raise) 30 = .ok (.iconst 0, 1) := by decide +kernel
theorem dd_X0_raise_31 : decode (zc mm_X0_raise) 31 = .ok (.iconst 0, 1) := by decide +kernel
theorem dd_X0_raise_32 : decode (zc mm_X0_raise) 32 = .ok (.iastore, 1) := by decide +kernel
theorem dd_X0_raise_33 : decode (zc mm_X0_raise) 33 = .ok (.return_, 1) := by decide +kernel
theorem dd_X1_init_0 : decode (zc mm_X1_init) 0 = .ok (.aload_n 0, 1) := by decide +kernel
theorem dd_X1_init_1 : decode (zc mm_X1_init) 1 = .ok (.invokespecial 3, 3) := by decide +kernel
theorem dd_X1_init_4 : decode (zc mm_X1_init) 4 = .ok (.aload_n 0, 1) := by decide +kernel
theorem dd_X1_init_5 : decode (zc mm_X1_init) 5 = .ok (.iconst 3, 1) := by decide +kernel
theorem dd_X1_init_6 : decode (zc mm_X1_init) 6 = .ok (.newarray .int, 2) := by decide +kernel
theorem dd_X1_init_8 : decode (zc mm_X1_init) 8 = .ok (.dup, 1) := by decide +kernel
theorem dd_X1_init_9 : decode (zc mm_X1_init) 9 = .ok (.iconst 0, 1) := by decide +kernel
theorem dd_X1_init_10 : decode (zc mm_X1_init) 10 = .ok (.iconst (-1), 1) := by decide +kernel
theorem dd_X1_init_11 : decode (zc mm_X1_init) 11 = .ok (.iastore, 1) := by decide +kernel
theorem dd_X1_init_12 : decode (zc mm_X1_init) 12 = .ok (.dup, 1) := by decide +kernel
theorem dd_X1_init_13 : decode (zc mm_X1_init) 13 = .ok (.iconst 1, 1) := by decide +kernel
theorem dd_X1_init_14 : decode (zc mm_X1_init) 14 = .ok (.iconst (-1), 1) := by decide +kernel
theorem dd_X1_init_15 : decode (zc mm_X1_init) 15 = .ok (.iastore, 1) := by decide +kernel
theorem dd_X1_init_16 : decode (zc mm_X1_init) 16 = .ok (.dup, 1) := by decide +kernel
theorem dd_X1_init_17 : decode (zc mm_X1_init) 17 = .ok (.iconst 2, 1) := by decide +kernel
theorem dd_X1_init_18 : decode (zc mm_X1_init) 18 = .ok (.iconst (-1), 1) := by decide +kernel
theorem dd_X1_init_19 : decode (zc mm_X1_init) 19 = .ok (.iastore, 1) := by decide +kernel
theorem dd_X1_init_20 : decode (zc mm_X1_init) 20 = .ok (.putfield 11, 3) := by decide +kernel
theorem dd_X1_init_23 : decode (zc mm_X1_init) 23 = .ok (.aload_n 0, 1) := by decide +kernel
theorem dd_X1_init_24 : decode (zc mm_X1_init) 24 = .ok (.bipush 120, 2) := by decide +kernel
theorem dd_X1_init_26 : decode (zc mm_X1_init) 26 = .ok (.newarray .int, 2) := by decide +kernel
theorem dd_X1_init_28 : decode (zc mm_X1_init) 28 = .ok (.putfield 15, 3) := by decide +kernel
theorem dd_X1_init_31 : decode (zc mm_X1_init) 31 = .ok (.return_, 1) := by decide +kernel
theorem dd_X1_has_0 : decode (zc mm_X1_has) 0 = .ok (.iload_n 1, 1) := by decide +kernel
theorem dd_X1_has_1 : decode (zc mm_X1_has) 1 = .ok (.ifCond .lt 12, 3) := by decide +kernel
theorem dd_X1_has_4 : decode (zc mm_X1_has) 4 = .ok (.iload_n 1, 1) := by decide +kernel
theorem dd_X1_has_5 : decode (zc mm_X1_has) 5 = .ok (.iconst 3, 1) := by decide +kernel
theorem dd_X1_has_6 : decode (zc mm_X1_has) 6 = .ok (.if_icmp .ge 7, 3) := by decide +kernel
theorem dd_X1_has_9 : decode (zc mm_X1_has) 9 = .ok (.iconst 1, 1) := by decide +kernel
theorem dd_X1_has_10 : decode (zc mm_X1_has) 10 = .ok (.goto 4, 3) := by decide +kernel
theorem dd_X1_has_13 : decode (zc mm_X1_has) 13 = .ok (.iconst 0, 1) := by decide +kernel
theorem dd_X1_has_14 : decode (zc mm_X1_has) 14 = .ok (.ireturn, 1) := by decide +kernel
theorem dd_X1_isMissing_0 : decode (zc mm_X1_isMissing) 0 = .ok (.aload_n 0, 1) := by decide +kernel
theorem dd_X1_isMissing_1 : decode (zc mm_X1_isMissing) 1 = .ok (.getfield 11, 3) := by decide +kernel
theorem dd_X1_isMissing_4 : decode (zc mm_X1_isMissing) 4 = .ok (.iload_n 1, 1) := by decide +kernel
theorem dd_X1_isMissing_5 : decode (zc mm_X1_isMissing) 5 = .ok (.iaload, 1) := by decide +kernel
theorem dd_X1_isMissing_6 : decode (zc mm_X1_isMissing) 6 = .ok (.iconst (-1), 1) := by decide +kernel
theorem dd_X1_isMissing_7 : decode (zc mm_X1_isMissing) 7 = .ok (.if_icmp .ne 7, 3) := by decide +kernel
theorem dd_X1_isMissing_10 : decode (zc mm_X1_isMissing) 10 = .ok (.iconst 1, 1) := by decide +kernel
theorem dd_X1_isMissing_11 : decode (zc mm_X1_isMissing) 11 = .ok (.goto 4, 3) := by decide +kernel
theorem dd_X1_isMissing_14 : decode (zc mm_X1_isMissing) 14 = .ok (.iconst 0, 1) := by decide +kernel
theorem dd_X1_isMissing_15 : decode (zc mm_X1_isMissing) 15 = .ok (.ireturn, 1) := by decide +kernel
theorem dd_X1_hasPlace_0 : decode (zc mm_X1_hasPlace) 0 = .ok (.iload_n 2, 1) := by decide +kernel
theorem dd_X1_hasPlace_1 : decode (zc mm_X1_hasPlace) 1 = .ok (.ifCond .lt 17, 3) := by decide +kernel
theorem dd_X1_hasPlace_4 : decode (zc mm_X1_hasPlace) 4 = .ok (.iload_n 2, 1) := by decide +kernel
theorem dd_X1_hasPlace_5 : decode (zc mm_X1_hasPlace) 5 = .ok (.aload_n 0, 1) := by decide +kernel
theorem dd_X1_hasPlace_6 : decode (zc mm_X1_hasPlace) 6 = .ok (.getfield 11, 3) := by decide +kernel
theorem dd_X1_hasPlace_9 : decode (zc mm_X1_hasPlace) 9 = .ok (.iload_n 1, 1) := by decide +kernel
theorem dd_X1_hasPlace_10 : decode (zc mm_X1_hasPlace) 10 = .ok (.iaload, 1) := by decide +kernel
theorem dd_X1_hasPlace_11 : decode (zc mm_X1_hasPlace) 11 = .ok (.if_icmp .ge 7, 3) := by decide +kernel
theorem dd_X1_hasPlace_14 : decode (zc mm_X1_hasPlace) 14 = .ok (.iconst 1, 1) := by decide +kernel
theorem dd_X1_hasPlace_15 : decode (zc mm_X1_hasPlace) 15 = .ok (.goto 4, 3) := by decide +kernel
theorem dd_X1_hasPlace_18 : decode (zc mm_X1_hasPlace) 18 = .ok (.iconst 0, 1) := by decide +kernel
theorem dd_X1_hasPlace_19 : decode (zc mm_X1_hasPlace) 19 = .ok (.ireturn, 1) := by decide +kernel
theorem dd_X1_make_0 : decode (zc mm_X1_make) 0 = .ok (.aload_n 0, 1) := by decide +kernel
theorem dd_X1_make_1 : decode (zc mm_X1_make) 1 = .ok (.getfield 11, 3) := by decide +kernel
theorem dd_X1_make_4 : decode (zc mm_X1_make) 4 = .ok (.iload_n 1, 1) := by decide +kernel
theorem dd_X1_make_5 : decode (zc mm_X1_make) 5 = .ok (.iload_n 2, 1) := by decide +kernel
theorem dd_X1_make_6 : decode (zc mm_X1_make) 6 = .ok (.iastore, 1) := by decide +kernel
theorem dd_X1_make_7 : decode (zc mm_X1_make) 7 = .ok (.iconst 0, 1) := by decide +kernel
theorem dd_X1_make_8 : decode (zc mm_X1_make) 8 = .ok (.istore_n 3, 1) := by decide +kernel
theorem dd_X1_make_9 : decode (zc mm_X1_make) 9 = .ok (.iload_n 3, 1) := by decide +kernel
theorem dd_X1_make_10 : decode (zc mm_X1_make) 10 = .ok (.iload_n 2, 1) := by decide +kernel
theorem dd_X1_make_11 : decode (zc mm_X1_make) 11 = .ok (.if_icmp .ge 16, 3) := by decide +kernel
theorem dd_X1_make_14 : decode (zc mm_X1_make) 14 = .ok (.aload_n 0, 1) := by decide +kernel
theorem dd_X1_make_15 : decode (zc mm_X1_make) 15 = .ok (.iload_n 1, 1) := by decide +kernel
theorem dd_X1_make_16 : decode (zc mm_X1_make) 16 = .ok (.iload_n 3, 1) := by decide +kernel
theorem dd_X1_make_17 : decode (zc mm_X1_make) 17 = .ok (.iconst 0, 1) := by decide +kernel
theorem dd_X1_make_18 : decode (zc mm_X1_make) 18 = .ok (.invokevirtual 18, 3) := by decide +kernel
theorem dd_X1_make_21 : decode (zc mm_X1_make) 21 = .ok (.iinc 3 1, 3) := by decide +kernel
theorem dd_X1_make_24 : decode (zc mm_X1_make) 24 = .ok (.goto (-15), 3) := by decide +kernel
theorem dd_X1_make_27 : decode (zc mm_X1_make) 27 = .ok (.return_, 1) := by decide +kernel
theorem dd_X1_write_0 : decode (zc mm_X1_write) 0 = .ok (.aload_n 0, 1) := by decide +kernel
theorem dd_X1_write_1 : decode (zc mm_X1_write) 1 = .ok (.getfield 15, 3) := by decide +kernel
theorem dd_X1_write_4 : decode (zc mm_X1_write) 4 = .ok (.bipush 40, 2) := by decide +kernel
theorem dd_X1_write_6 : decode (zc mm_X1_write) 6 = .ok (.iload_n 1, 1) := by decide +kernel
theorem dd_X1_write_7 : decode (zc mm_X1_write) 7 = .ok (.imul, 1) := by decide +kernel
theorem dd_X1_write_8 : decode (zc mm_X1_write) 8 = .ok (.iload_n 2, 1) := by decide +kernel
theorem dd_X1_write_9 : decode (zc mm_X1_write) 9 = .ok (.iadd, 1) := by decide +kernel
theorem dd_X1_write_10 : decode (zc mm_X1_write) 10 = .ok (.iload_n 3, 1) := by decide +kernel
theorem dd_X1_write_11 : decode (zc mm_X1_write) 11 = .ok (.iastore, 1) := by decide +kernel
theorem dd_X1_write_12 : decode (zc mm_X1_write) 12 = .ok (.return_, 1) := by decide +kernel
theorem dd_X1_readAt_0 : decode (zc mm_X1_readAt) 0 = .ok (.aload_n 0, 1) := by decide +kernel
theorem dd_X1_readAt_1 : decode (zc mm_X1_readAt) 1 = .ok (.getfield 15, 3) := by decide +kernel
theorem dd_X1_readAt_4 : decode (zc mm_X1_readAt) 4 = .ok (.bipush 40, 2) := by decide +kernel
theorem dd_X1_readAt_6 : decode (zc mm_X1_readAt) 6 = .ok (.iload_n 1, 1) := by decide +kernel
theorem dd_X1_readAt_7 : decode (zc mm_X1_readAt) 7 = .ok (.imul, 1) := by decide +kernel
theorem dd_X1_readAt_8 : decode (zc mm_X1_readAt) 8 = .ok (.iload_n 2, 1) := by decide +kernel
theorem dd_X1_readAt_9 : decode (zc mm_X1_readAt) 9 = .ok (.iadd, 1) := by decide +kernel
theorem dd_X1_readAt_10 : decode (zc mm_X1_readAt) 10 = .ok (.iaload, 1) := by decide +kernel
theorem dd_X1_readAt_11 : decode (zc mm_X1_readAt) 11 = .ok (.ireturn, 1) := by decide +kernel
theorem dd_X1_lay_0 : decode (zc mm_X1_lay) 0 = .ok (.iconst 0, 1) := by decide +kernel
theorem dd_X1_lay_1 : decode (zc mm_X1_lay) 1 = .ok (.istore 4, 2) := by decide +kernel
theorem dd_X1_lay_3 : decode (zc mm_X1_lay) 3 = .ok (.iconst 0, 1) := by decide +kernel
theorem dd_X1_lay_4 : decode (zc mm_X1_lay) 4 = .ok (.istore 5, 2) := by decide +kernel
theorem dd_X1_lay_6 : decode (zc mm_X1_lay) 6 = .ok (.iload 5, 2) := by decide +kernel
theorem dd_X1_lay_8 : decode (zc mm_X1_lay) 8 = .ok (.aload_n 3, 1) := by decide +kernel
theorem dd_X1_lay_9 : decode (zc mm_X1_lay) 9 = .ok (.arraylength, 1) := by decide +kernel
theorem dd_X1_lay_10 : decode (zc mm_X1_lay) 10 = .ok (.if_icmp .ge 37, 3) := by decide +kernel
theorem dd_X1_lay_13 : decode (zc mm_X1_lay) 13 = .ok (.aload_n 0, 1) := by decide +kernel
theorem dd_X1_lay_14 : decode (zc mm_X1_lay) 14 = .ok (.iload_n 1, 1) := by decide +kernel
theorem dd_X1_lay_15 : decode (zc mm_X1_lay) 15 = .ok (.iload_n 2, 1) := by decide +kernel
theorem dd_X1_lay_16 : decode (zc mm_X1_lay) 16 = .ok (.iload 5, 2) := by decide +kernel
theorem dd_X1_lay_18 : decode (zc mm_X1_lay) 18 = .ok (.iadd, 1) := by decide +kernel
theorem dd_X1_lay_19 : decode (zc mm_X1_lay) 19 = .ok (.invokevirtual 22, 3) := by decide +kernel
theorem dd_X1_lay_22 : decode (zc mm_X1_lay) 22 = .ok (.ifCond .eq 25, 3) := by decide +kernel
theorem dd_X1_lay_25 : decode (zc mm_X1_lay) 25 = .ok (.aload_n 0, 1) := by decide +kernel
theorem dd_X1_lay_26 : decode (zc mm_X1_lay) 26 = .ok (.iload_n 1, 1) := by decide +kernel
theorem dd_X1_lay_27 : decode (zc mm_X1_lay) 27 = .ok (.iload_n 2, 1) := by decide +kernel
theorem dd_X1_lay_28 : decode (zc mm_X1_lay) 28 = .ok (.iload 5, 2) := by decide +kernel
theorem dd_X1_lay_30 : decode (zc mm_X1_lay) 30 = .ok (.iadd, 1) := by decide +kernel
theorem dd_X1_lay_31 : decode (zc mm_X1_lay) 31 = .ok (.aload_n 3, 1) := by decide +kernel
theorem dd_X1_lay_32 : decode (zc mm_X1_lay) 32 = .ok (.iload 5, 2) := by decide +kernel
theorem dd_X1_lay_34 : decode (zc mm_X1_lay) 34 = .ok (.iaload, 1) := by decide +kernel
theorem dd_X1_lay_35 : decode (zc mm_X1_lay) 35 = .ok (.invokevirtual 18, 3) := by decide +kernel
theorem dd_X1_lay_38 : decode (zc mm_X1_lay) 38 = .ok (.iinc 4 1, 3) := by decide +kernel
theorem dd_X1_lay_41 : decode (zc mm_X1_lay) 41 = .ok (.iinc 5 1, 3) := by decide +kernel
theorem dd_X1_lay_44 : decode (zc mm_X1_lay) 44 = .ok (.goto (-38), 3) := by decide +kernel
theorem dd_X1_lay_47 : decode (zc mm_X1_lay) 47 = .ok (.iload 4, 2) := by decide +kernel
theorem dd_X1_lay_49 : decode (zc mm_X1_lay) 49 = .ok (.ireturn, 1) := by decide +kernel
theorem dd_X1_firstUnlike_0 : decode (zc mm_X1_firstUnlike) 0 = .ok (.iconst 0, 1) := by decide +kernel
theorem dd_X1_firstUnlike_1 : decode (zc mm_X1_firstUnlike) 1 = .ok (.istore 4, 2) := by decide +kernel
theorem dd_X1_firstUnlike_3 : decode (zc mm_X1_firstUnlike) 3 = .ok (.iload 4, 2) := by decide +kernel
theorem dd_X1_firstUnlike_5 : decode (zc mm_X1_firstUnlike) 5 = .ok (.aload_n 2, 1) := by decide +kernel
theorem dd_X1_firstUnlike_6 : decode (zc mm_X1_firstUnlike) 6 = .ok (.arraylength, 1) := by decide +kernel
theorem dd_X1_firstUnlike_7 : decode (zc mm_X1_firstUnlike) 7 = .ok (.if_icmp .ge 48, 3) := by decide +kernel
theorem dd_X1_firstUnlike_10 : decode (zc mm_X1_firstUnlike) 10 = .ok (.aload_n 0, 1) := by decide +kernel
theorem dd_X1_firstUnlike_11 : decode (zc mm_X1_firstUnlike) 11 = .ok (.iload_n 1, 1) := by decide +kernel
theorem dd_X1_firstUnlike_12 : decode (zc mm_X1_firstUnlike) 12 = .ok (.iload 4, 2) := by decide +kernel
theorem dd_X1_firstUnlike_14 : decode (zc mm_X1_firstUnlike) 14 = .ok (.invokevirtual 22, 3) := by decide +kernel
theorem dd_X1_firstUnlike_17 : decode (zc mm_X1_firstUnlike) 17 = .ok (.ifCond .eq 17, 3) := by decide +kernel
theorem dd_X1_firstUnlike_20 : decode (zc mm_X1_firstUnlike) 20 = .ok (.aload_n 0, 1) := by decide +kernel
theorem dd_X1_firstUnlike_21 : decode (zc mm_X1_firstUnlike) 21 = .ok (.iload_n 1, 1) := by decide +kernel
theorem dd_X1_firstUnlike_22 : decode (zc mm_X1_firstUnlike) 22 = .ok (.iload 4, 2) := by decide +kernel
theorem dd_X1_firstUnlike_24 : decode (zc mm_X1_firstUnlike) 24 = .ok (.invokevirtual 26, 3) := by decide +kernel
theorem dd_X1_firstUnlike_27 : decode (zc mm_X1_firstUnlike) 27 = .ok (.iload_n 3, 1) := by decide +kernel
theorem dd_X1_firstUnlike_28 : decode (zc mm_X1_firstUnlike) 28 = .ok (.invokestatic 30, 3) := by decide +kernel
theorem dd_X1_firstUnlike_31 : decode (zc mm_X1_firstUnlike) 31 = .ok (.goto 4, 3) := by decide +kernel
theorem dd_X1_firstUnlike_34 : decode (zc mm_X1_firstUnlike) 34 = .ok (.iconst 0, 1) := by decide +kernel
theorem dd_X1_firstUnlike_35 : decode (zc mm_X1_firstUnlike) 35 = .ok (.istore 5, 2) := by decide +kernel
theorem dd_X1_firstUnlike_37 : decode (zc mm_X1_firstUnlike) 37 = .ok (.iload 5, 2) := by decide +kernel
theorem dd_X1_firstUnlike_39 : decode (zc mm_X1_firstUnlike) 39 = .ok (.aload_n 2, 1) := by decide +kernel
theorem dd_X1_firstUnlike_40 : decode (zc mm_X1_firstUnlike) 40 = .ok (.iload 4, 2) := by decide +kernel
theorem dd_X1_firstUnlike_42 : decode (zc mm_X1_firstUnlike) 42 = .ok (.iaload, 1) := by decide +kernel
theorem dd_X1_firstUnlike_43 : decode (zc mm_X1_firstUnlike) 43 = .ok (.if_icmp .eq 6, 3) := by decide +kernel
theorem dd_X1_firstUnlike_46 : decode (zc mm_X1_firstUnlike) 46 = .ok (.iload 4, 2) := by decide +kernel
theorem dd_X1_firstUnlike_48 : decode (zc mm_X1_firstUnlike) 48 = .ok (.ireturn, 1) := by decide +kernel
theorem dd_X1_firstUnlike_49 : decode (zc mm_X1_firstUnlike) 49 = .ok (.iinc 4 1, 3) := by decide +kernel
theorem dd_X1_firstUnlike_52 : decode (zc mm_X1_firstUnlike) 52 = .ok (.goto (-49), 3) := by decide +kernel
theorem dd_X1_firstUnlike_55 : decode (zc mm_X1_firstUnlike) 55 = .ok (.bipush (-9), 2) := by decide +kernel
theorem dd_X1_firstUnlike_57 : decode (zc mm_X1_firstUnlike) 57 = .ok (.ireturn, 1) := by decide +kernel
theorem dd_X2_isPrime_0 : decode (zc mm_X2_isPrime) 0 = .ok (.getstatic 9, 3) := by decide +kernel
theorem dd_X2_isPrime_3 : decode (zc mm_X2_isPrime) 3 = .ok (.astore_n 1, 1) := by decide +kernel
theorem dd_X2_isPrime_4 : decode (zc mm_X2_isPrime) 4 = .ok (.aload_n 1, 1) := by decide +kernel
theorem dd_X2_isPrime_5 : decode (zc mm_X2_isPrime) 5 = .ok (.arraylength, 1) := by decide +kernel
theorem dd_X2_isPrime_6 : decode (zc mm_X2_isPrime) 6 = .ok (.istore_n 2, 1) := by decide +kernel
theorem dd_X2_isPrime_7 : decode (zc mm_X2_isPrime) 7 = .ok (.iconst 0, 1) := by decide +kernel
theorem dd_X2_isPrime_8 : decode (zc mm_X2_isPrime) 8 = .ok (.istore_n 3, 1) := by decide +kernel
theorem dd_X2_isPrime_9 : decode (zc mm_X2_isPrime) 9 = .ok (.iload_n 3, 1) := by decide +kernel
theorem dd_X2_isPrime_10 : decode (zc mm_X2_isPrime) 10 = .ok (.iload_n 2, 1) := by decide +kernel
theorem dd_X2_isPrime_11 : decode (zc mm_X2_isPrime) 11 = .ok (.if_icmp .ge 22, 3) := by decide +kernel
theorem dd_X2_isPrime_14 : decode (zc mm_X2_isPrime) 14 = .ok (.aload_n 1, 1) := by decide +kernel
theorem dd_X2_isPrime_15 : decode (zc mm_X2_isPrime) 15 = .ok (.iload_n 3, 1) := by decide +kernel
theorem dd_X2_isPrime_16 : decode (zc mm_X2_isPrime) 16 = .ok (.iaload, 1) := by decide +kernel
theorem dd_X2_isPrime_17 : decode (zc mm_X2_isPrime) 17 = .ok (.istore 4, 2) := by decide +kernel
theorem dd_X2_isPrime_19 : decode (zc mm_X2_isPrime) 19 = .ok (.iload 4, 2) := by decide +kernel
theorem dd_X2_isPrime_21 : decode (zc mm_X2_isPrime) 21 = .ok (.iload_n 0, 1) := by decide +kernel
theorem dd_X2_isPrime_22 : decode (zc mm_X2_isPrime) 22 = .ok (.if_icmp .ne 5, 3) := by decide +kernel
theorem dd_X2_isPrime_25 : decode (zc mm_X2_isPrime) 25 = .ok (.iconst 1, 1) := by decide +kernel
theorem dd_X2_isPrime_26 : decode (zc mm_X2_isPrime) 26 = .ok (.ireturn, 1) := by decide +kernel
theorem dd_X2_isPrime_27 : decode (zc mm_X2_isPrime) 27 = .ok (.iinc 3 1, 3) := by decide +kernel
theorem dd_X2_isPrime_30 : decode (zc mm_X2_isPrime) 30 = .ok (.goto (-21), 3) := by decide +kernel
theorem dd_X2_isPrime_33 : decode (zc mm_X2_isPrime) 33 = .ok (.iconst 0, 1) := by decide +kernel
theorem dd_X2_isPrime_34 : decode (zc mm_X2_isPrime) 34 = .ok (.ireturn, 1) := by decide +kernel
theorem dd_X2_power_0 : decode (zc mm_X2_power) 0 = .ok (.iconst 1, 1) := by decide +kernel
theorem dd_X2_power_1 : decode (zc mm_X2_power) 1 = .ok (.istore_n 3, 1) := by decide +kernel
theorem dd_X2_power_2 : decode (zc mm_X2_power) 2 = .ok (.iconst 0, 1) := by decide +kernel
theorem dd_X2_power_3 : decode (zc mm_X2_power) 3 = .ok (.istore 4, 2) := by decide +kernel
theorem dd_X2_power_5 : decode (zc mm_X2_power) 5 = .ok (.iload 4, 2) := by decide +kernel
theorem dd_X2_power_7 : decode (zc mm_X2_power) 7 = .ok (.iload_n 1, 1) := by decide +kernel
theorem dd_X2_power_8 : decode (zc mm_X2_power) 8 = .ok (.if_icmp .ge 15, 3) := by decide +kernel
theorem dd_X2_power_11 : decode (zc mm_X2_power) 11 = .ok (.iload_n 3, 1) := by decide +kernel
theorem dd_X2_power_12 : decode (zc mm_X2_power) 12 = .ok (.iload_n 0, 1) := by decide +kernel
theorem dd_X2_power_13 : decode (zc mm_X2_power) 13 = .ok (.imul, 1) := by decide +kernel
theorem dd_X2_power_14 : decode (zc mm_X2_power) 14 = .ok (.iload_n 2, 1) := by decide +kernel
theorem dd_X2_power_15 : decode (zc mm_X2_power) 15 = .ok (.irem, 1) := by decide +kernel
theorem dd_X2_power_16 : decode (zc mm_X2_power) 16 = .ok (.istore_n 3, 1) := by decide +kernel
theorem dd_X2_power_17 : decode (zc mm_X2_power) 17 = .ok (.iinc 4 1, 3) := by decide +kernel
theorem dd_X2_power_20 : decode (zc mm_X2_power) 20 = .ok (.goto (-15), 3) := by decide +kernel
theorem dd_X2_power_23 : decode (zc mm_X2_power) 23 = .ok (.iload_n 3, 1) := by decide +kernel
theorem dd_X2_power_24 : decode (zc mm_X2_power) 24 = .ok (.ireturn, 1) := by decide +kernel
theorem dd_X2_inverse_0 : decode (zc mm_X2_inverse) 0 = .ok (.iconst 1, 1) := by decide +kernel
theorem dd_X2_inverse_1 : decode (zc mm_X2_inverse) 1 = .ok (.istore_n 2, 1) := by decide +kernel
theorem dd_X2_inverse_2 : decode (zc mm_X2_inverse) 2 = .ok (.iload_n 2, 1) := by decide +kernel
theorem dd_X2_inverse_3 : decode (zc mm_X2_inverse) 3 = .ok (.iload_n 1, 1) := by decide +kernel
theorem dd_X2_inverse_4 : decode (zc mm_X2_inverse) 4 = .ok (.if_icmp .ge 20, 3) := by decide +kernel
theorem dd_X2_inverse_7 : decode (zc mm_X2_inverse) 7 = .ok (.iload_n 0, 1) := by decide +kernel
theorem dd_X2_inverse_8 : decode (zc mm_X2_inverse) 8 = .ok (.iload_n 2, 1) := by decide +kernel
theorem dd_X2_inverse_9 : decode (zc mm_X2_inverse) 9 = .ok (.imul, 1) := by decide +kernel
theorem dd_X2_inverse_10 : decode (zc mm_X2_inverse) 10 = .ok (.iload_n 1, 1) := by decide +kernel
theorem dd_X2_inverse_11 : decode (zc mm_X2_inverse) 11 = .ok (.irem, 1) := by decide +kernel
theorem dd_X2_inverse_12 : decode (zc mm_X2_inverse) 12 = .ok (.iconst 1, 1) := by decide +kernel
theorem dd_X2_inverse_13 : decode (zc mm_X2_inverse) 13 = .ok (.if_icmp .ne 5, 3) := by decide +kernel
theorem dd_X2_inverse_16 : decode (zc mm_X2_inverse) 16 = .ok (.iload_n 2, 1) := by decide +kernel
theorem dd_X2_inverse_17 : decode (zc mm_X2_inverse) 17 = .ok (.ireturn, 1) := by decide +kernel
theorem dd_X2_inverse_18 : decode (zc mm_X2_inverse) 18 = .ok (.iinc 2 1, 3) := by decide +kernel
theorem dd_X2_inverse_21 : decode (zc mm_X2_inverse) 21 = .ok (.goto (-19), 3) := by decide +kernel
theorem dd_X2_inverse_24 : decode (zc mm_X2_inverse) 24 = .ok (.iconst 0, 1) := by decide +kernel
theorem dd_X2_inverse_25 : decode (zc mm_X2_inverse) 25 = .ok (.ireturn, 1) := by decide +kernel
theorem dd_X2_degreeOf_0 : decode (zc mm_X2_degreeOf) 0 = .ok (.aload_n 0, 1) := by decide +kernel
theorem dd_X2_degreeOf_1 : decode (zc mm_X2_degreeOf) 1 = .ok (.arraylength, 1) := by decide +kernel
theorem dd_X2_degreeOf_2 : decode (zc mm_X2_degreeOf) 2 = .ok (.iconst 1, 1) := by decide +kernel
theorem dd_X2_degreeOf_3 : decode (zc mm_X2_degreeOf) 3 = .ok (.isub, 1) := by decide +kernel
theorem dd_X2_degreeOf_4 : decode (zc mm_X2_degreeOf) 4 = .ok (.istore_n 1, 1) := by decide +kernel
theorem dd_X2_degreeOf_5 : decode (zc mm_X2_degreeOf) 5 = .ok (.iload_n 1, 1) := by decide +kernel
theorem dd_X2_degreeOf_6 : decode (zc mm_X2_degreeOf) 6 = .ok (.ifCond .lt 17, 3) := by decide +kernel
theorem dd_X2_degreeOf_9 : decode (zc mm_X2_degreeOf) 9 = .ok (.aload_n 0, 1) := by decide +kernel
theorem dd_X2_degreeOf_10 : decode (zc mm_X2_degreeOf) 10 = .ok (.iload_n 1, 1) := by decide +kernel
theorem dd_X2_degreeOf_11 : decode (zc mm_X2_degreeOf) 11 = .ok (.iaload, 1) := by decide +kernel
theorem dd_X2_degreeOf_12 : decode (zc mm_X2_degreeOf) 12 = .ok (.ifCond .eq 5, 3) := by decide +kernel
theorem dd_X2_degreeOf_15 : decode (zc mm_X2_degreeOf) 15 = .ok (.iload_n 1, 1) := by decide +kernel
theorem dd_X2_degreeOf_16 : decode (zc mm_X2_degreeOf) 16 = .ok (.ireturn, 1) := by decide +kernel
theorem dd_X2_degreeOf_17 : decode (zc mm_X2_degreeOf) 17 = .ok (.iinc 1 (-1), 3) := by decide +kernel
theorem dd_X2_degreeOf_20 : decode (zc mm_X2_degreeOf) 20 = .ok (.goto (-15), 3) := by decide +kernel
theorem dd_X2_degreeOf_23 : decode (zc mm_X2_degreeOf) 23 = .ok (.bipush (-9), 2) := by decide +kernel
theorem dd_X2_degreeOf_25 : decode (zc mm_X2_degreeOf) 25 = .ok (.ireturn, 1) := by decide +kernel
theorem dd_X2_valueAt_0 : decode (zc mm_X2_valueAt) 0 = .ok (.iconst 0, 1) := by decide +kernel
theorem dd_X2_valueAt_1 : decode (zc mm_X2_valueAt) 1 = .ok (.istore_n 3, 1) := by decide +kernel
theorem dd_X2_valueAt_2 : decode (zc mm_X2_valueAt) 2 = .ok (.aload_n 0, 1) := by decide +kernel
theorem dd_X2_valueAt_3 : decode (zc mm_X2_valueAt) 3 = .ok (.arraylength, 1) := by decide +kernel
theorem dd_X2_valueAt_4 : decode (zc mm_X2_valueAt) 4 = .ok (.iconst 1, 1) := by decide +kernel
theorem dd_X2_valueAt_5 : decode (zc mm_X2_valueAt) 5 = .ok (.isub, 1) := by decide +kernel
theorem dd_X2_valueAt_6 : decode (zc mm_X2_valueAt) 6 = .ok (.istore 4, 2) := by decide +kernel
theorem dd_X2_valueAt_8 : decode (zc mm_X2_valueAt) 8 = .ok (.iload 4, 2) := by decide +kernel
theorem dd_X2_valueAt_10 : decode (zc mm_X2_valueAt) 10 = .ok (.ifCond .lt 20, 3) := by decide +kernel
theorem dd_X2_valueAt_13 : decode (zc mm_X2_valueAt) 13 = .ok (.iload_n 3, 1) := by decide +kernel
theorem dd_X2_valueAt_14 : decode (zc mm_X2_valueAt) 14 = .ok (.iload_n 1, 1) := by decide +kernel
theorem dd_X2_valueAt_15 : decode (zc mm_X2_valueAt) 15 = .ok (.imul, 1) := by decide +kernel
theorem dd_X2_valueAt_16 : decode (zc mm_X2_valueAt) 16 = .ok (.aload_n 0, 1) := by decide +kernel
theorem dd_X2_valueAt_17 : decode (zc mm_X2_valueAt) 17 = .ok (.iload 4, 2) := by decide +kernel
theorem dd_X2_valueAt_19 : decode (zc mm_X2_valueAt) 19 = .ok (.iaload, 1) := by decide +kernel
theorem dd_X2_valueAt_20 : decode (zc mm_X2_valueAt) 20 = .ok (.iadd, 1) := by decide +kernel
theorem dd_X2_valueAt_21 : decode (zc mm_X2_valueAt) 21 = .ok (.iload_n 2, 1) := by decide +kernel
theorem dd_X2_valueAt_22 : decode (zc mm_X2_valueAt) 22 = .ok (.irem, 1) := by decide +kernel
theorem dd_X2_valueAt_23 : decode (zc mm_X2_valueAt) 23 = .ok (.istore_n 3, 1) := by decide +kernel
theorem dd_X2_valueAt_24 : decode (zc mm_X2_valueAt) 24 = .ok (.iinc 4 (-1), 3) := by decide +kernel
theorem dd_X2_valueAt_27 : decode (zc mm_X2_valueAt) 27 = .ok (.goto (-19), 3) := by decide +kernel
theorem dd_X2_valueAt_30 : decode (zc mm_X2_valueAt) 30 = .ok (.iload_n 3, 1) := by decide +kernel
theorem dd_X2_valueAt_31 : decode (zc mm_X2_valueAt) 31 = .ok (.ireturn, 1) := by decide +kernel
theorem dd_X2_commonDivisor_0 : decode (zc mm_X2_commonDivisor) 0 = .ok (.iload_n 1, 1) := by decide +kernel
theorem dd_X2_commonDivisor_1 : decode (zc mm_X2_commonDivisor) 1 = .ok (.istore_n 2, 1) := by decide +kernel
theorem dd_X2_commonDivisor_2 : decode (zc mm_X2_commonDivisor) 2 = .ok (.iload_n 0, 1) := by decide +kernel
theorem dd_X2_commonDivisor_3 : decode (zc mm_X2_commonDivisor) 3 = .ok (.istore_n 3, 1) := by decide +kernel
theorem dd_X2_commonDivisor_4 : decode (zc mm_X2_commonDivisor) 4 = .ok (.iconst 0, 1) := by decide +kernel
theorem dd_X2_commonDivisor_5 : decode (zc mm_X2_commonDivisor) 5 = .ok (.istore 4, 2) := by decide +kernel
theorem dd_X2_commonDivisor_7 : decode (zc mm_X2_commonDivisor) 7 = .ok (.iload 4, 2) := by decide +kernel
theorem dd_X2_commonDivisor_9 : decode (zc mm_X2_commonDivisor) 9 = .ok (.bipush 64, 2) := by decide +kernel
theorem dd_X2_commonDivisor_11 : decode (zc mm_X2_commonDivisor) 11 = .ok (.if_icmp .ge 23, 3) := by decide +kernel
theorem dd_X2_commonDivisor_14 : decode (zc mm_X2_commonDivisor) 14 = .ok (.iload_n 3, 1) := by decide +kernel
theorem dd_X2_commonDivisor_15 : decode (zc mm_X2_commonDivisor) 15 = .ok (.ifCond .eq 19, 3) := by decide +kernel
theorem dd_X2_commonDivisor_18 : decode (zc mm_X2_commonDivisor) 18 = .ok (.iload_n 2, 1) := by decide +kernel
theorem dd_X2_commonDivisor_19 : decode (zc mm_X2_commonDivisor) 19 = .ok (.iload_n 3, 1) := by decide +kernel
theorem dd_X2_commonDivisor_20 : decode (zc mm_X2_commonDivisor) 20 = .ok (.irem, 1) := by decide +kernel
theorem dd_X2_commonDivisor_21 : decode (zc mm_X2_commonDivisor) 21 = .ok (.istore 5, 2) := by decide +kernel
theorem dd_X2_commonDivisor_23 : decode (zc mm_X2_commonDivisor) 23 = .ok (.iload_n 3, 1) := by decide +kernel
theorem dd_X2_commonDivisor_24 : decode (zc mm_X2_commonDivisor) 24 = .ok (.istore_n 2, 1) := by decide +kernel
theorem dd_X2_commonDivisor_25 : decode (zc mm_X2_commonDivisor) 25 = .ok (.iload 5, 2) := by decide +kernel
theorem dd_X2_commonDivisor_27 : decode (zc mm_X2_commonDivisor) 27 = .ok (.istore_n 3, 1) := by decide +kernel
theorem dd_X2_commonDivisor_28 : decode (zc mm_X2_commonDivisor) 28 = .ok (.iinc 4 1, 3) := by decide +kernel
theorem dd_X2_commonDivisor_31 : decode (zc mm_X2_commonDivisor) 31 = .ok (.goto (-24), 3) := by decide +kernel
theorem dd_X2_commonDivisor_34 : decode (zc mm_X2_commonDivisor) 34 = .ok (.iload_n 2, 1) := by decide +kernel
theorem dd_X2_commonDivisor_35 : decode (zc mm_X2_commonDivisor) 35 = .ok (.ifCond .ne 7, 3) := by decide +kernel
theorem dd_X2_commonDivisor_38 : decode (zc mm_X2_commonDivisor) 38 = .ok (.iconst 1, 1) := by decide +kernel
theorem dd_X2_commonDivisor_39 : decode (zc mm_X2_commonDivisor) 39 = .ok (.goto 4, 3) := by decide +kernel
theorem dd_X2_commonDivisor_42 : decode (zc mm_X2_commonDivisor) 42 = .ok (.iload_n 2, 1) := by decide +kernel
theorem dd_X2_commonDivisor_43 : decode (zc mm_X2_commonDivisor) 43 = .ok (.ireturn, 1) := by decide +kernel
theorem dd_X3_init_0 : decode (zc mm_X3_init) 0 = .ok (.aload_n 0, 1) := by decide +kernel
theorem dd_X3_init_1 : decode (zc mm_X3_init) 1 = .ok (.invokespecial 1, 3) := by decide +kernel
theorem dd_X3_init_4 : decode (zc mm_X3_init) 4 = .ok (.aload_n 0, 1) := by decide +kernel
theorem dd_X3_init_5 : decode (zc mm_X3_init) 5 = .ok (.bipush 16, 2) := by decide +kernel
theorem dd_X3_init_7 : decode (zc mm_X3_init) 7 = .ok (.newarray .int, 2) := by decide +kernel
theorem dd_X3_init_9 : decode (zc mm_X3_init) 9 = .ok (.putfield 9, 3) := by decide +kernel
theorem dd_X3_init_12 : decode (zc mm_X3_init) 12 = .ok (.aload_n 0, 1) := by decide +kernel
theorem dd_X3_init_13 : decode (zc mm_X3_init) 13 = .ok (.bipush 16, 2) := by decide +kernel
theorem dd_X3_init_15 : decode (zc mm_X3_init) 15 = .ok (.newarray .int, 2) := by decide +kernel
theorem dd_X3_init_17 : decode (zc mm_X3_init) 17 = .ok (.putfield 13, 3) := by decide +kernel
theorem dd_X3_init_20 : decode (zc mm_X3_init) 20 = .ok (.aload_n 0, 1) := by decide +kernel
theorem dd_X3_init_21 : decode (zc mm_X3_init) 21 = .ok (.bipush 16, 2) := by decide +kernel
theorem dd_X3_init_23 : decode (zc mm_X3_init) 23 = .ok (.newarray .int, 2) := by decide +kernel
theorem dd_X3_init_25 : decode (zc mm_X3_init) 25 = .ok (.putfield 16, 3) := by decide +kernel
theorem dd_X3_init_28 : decode (zc mm_X3_init) 28 = .ok (.return_, 1) := by decide +kernel
theorem dd_X3_forget_0 : decode (zc mm_X3_forget) 0 = .ok (.aload_n 0, 1) := by decide +kernel
theorem dd_X3_forget_1 : decode (zc mm_X3_forget) 1 = .ok (.iconst 0, 1) := by decide +kernel
theorem dd_X3_forget_2 : decode (zc mm_X3_forget) 2 = .ok (.putfield 19, 3) := by decide +kernel
theorem dd_X3_forget_5 : decode (zc mm_X3_forget) 5 = .ok (.return_, 1) := by decide +kernel
theorem dd_X3_note_0 : decode (zc mm_X3_note) 0 = .ok (.aload_n 0, 1) := by decide +kernel
theorem dd_X3_note_1 : decode (zc mm_X3_note) 1 = .ok (.getfield 19, 3) := by decide +kernel
theorem dd_X3_note_4 : decode (zc mm_X3_note) 4 = .ok (.bipush 16, 2) := by decide +kernel
theorem dd_X3_note_6 : decode (zc mm_X3_note) 6 = .ok (.if_icmp .ne 7, 3) := by decide +kernel
theorem dd_X3_note_9 : decode (zc mm_X3_note) 9 = .ok (.aload_n 0, 1) := by decide +kernel
theorem dd_X3_note_10 : decode (zc mm_X3_note) 10 = .ok (.invokevirtual 23, 3) := by decide +kernel
theorem dd_X3_note_13 : decode (zc mm_X3_note) 13 = .ok (.aload_n 0, 1) := by decide +kernel
theorem dd_X3_note_14 : decode (zc mm_X3_note) 14 = .ok (.getfield 9, 3) := by decide +kernel
theorem dd_X3_note_17 : decode (zc mm_X3_note) 17 = .ok (.aload_n 0, 1) := by decide +kernel
theorem dd_X3_note_18 : decode (zc mm_X3_note) 18 = .ok (.getfield 19, 3) := by decide +kernel
theorem dd_X3_note_21 : decode (zc mm_X3_note) 21 = .ok (.iload_n 1, 1) := by decide +kernel
theorem dd_X3_note_22 : decode (zc mm_X3_note) 22 = .ok (.iastore, 1) := by decide +kernel
theorem dd_X3_note_23 : decode (zc mm_X3_note) 23 = .ok (.aload_n 0, 1) := by decide +kernel
theorem dd_X3_note_24 : decode (zc mm_X3_note) 24 = .ok (.getfield 13, 3) := by decide +kernel
theorem dd_X3_note_27 : decode (zc mm_X3_note) 27 = .ok (.aload_n 0, 1) := by decide +kernel
theorem dd_X3_note_28 : decode (zc mm_X3_note) 28 = .ok (.getfield 19, 3) := by decide +kernel
theorem dd_X3_note_31 : decode (zc mm_X3_note) 31 = .ok (.iload_n 2, 1) := by decide +kernel
theorem dd_X3_note_32 : decode (zc mm_X3_note) 32 = .ok (.iastore, 1) := by decide +kernel
theorem dd_X3_note_33 : decode (zc mm_X3_note) 33 = .ok (.aload_n 0, 1) := by decide +kernel
theorem dd_X3_note_34 : decode (zc mm_X3_note) 34 = .ok (.getfield 16, 3) := by decide +kernel
theorem dd_X3_note_37 : decode (zc mm_X3_note) 37 = .ok (.aload_n 0, 1) := by decide +kernel
theorem dd_X3_note_38 : decode (zc mm_X3_note) 38 = .ok (.getfield 19, 3) := by decide +kernel
theorem dd_X3_note_41 : decode (zc mm_X3_note) 41 = .ok (.iload_n 3, 1) := by decide +kernel
theorem dd_X3_note_42 : decode (zc mm_X3_note) 42 = .ok (.iastore, 1) := by decide +kernel
theorem dd_X3_note_43 : decode (zc mm_X3_note) 43 = .ok (.aload_n 0, 1) := by decide +kernel
theorem dd_X3_note_44 : decode (zc mm_X3_note) 44 = .ok (.dup, 1) := by decide +kernel
theorem dd_X3_note_45 : decode (zc mm_X3_note) 45 = .ok (.getfield 19, 3) := by decide +kernel
theorem dd_X3_note_48 : decode (zc mm_X3_note) 48 = .ok (.iconst 1, 1) := by decide +kernel
theorem dd_X3_note_49 : decode (zc mm_X3_note) 49 = .ok (.iadd, 1) := by decide +kernel
theorem dd_X3_note_50 : decode (zc mm_X3_note) 50 = .ok (.putfield 19, 3) := by decide +kernel
theorem dd_X3_note_53 : decode (zc mm_X3_note) 53 = .ok (.return_, 1) := by decide +kernel
theorem dd_X3_forgetOldest_0 : decode (zc mm_X3_forgetOldest) 0 = .ok (.aload_n 0, 1) := by decide +kernel
theorem dd_X3_forgetOldest_1 : decode (zc mm_X3_forgetOldest) 1 = .ok (.bipush 15, 2) := by decide +kernel
theorem dd_X3_forgetOldest_3 : decode (zc mm_X3_forgetOldest) 3 = .ok (.putfield 19, 3) := by decide +kernel
theorem dd_X3_forgetOldest_6 : decode (zc mm_X3_forgetOldest) 6 = .ok (.aload_n 0, 1) := by decide +kernel
theorem dd_X3_forgetOldest_7 : decode (zc mm_X3_forgetOldest) 7 = .ok (.getfield 9, 3) := by decide +kernel
theorem dd_X3_forgetOldest_10 : decode (zc mm_X3_forgetOldest) 10 = .ok (.iconst 1, 1) := by decide +kernel
theorem dd_X3_forgetOldest_11 : decode (zc mm_X3_forgetOldest) 11 = .ok (.aload_n 0, 1) := by decide +kernel
theorem dd_X3_forgetOldest_12 : decode (zc mm_X3_forgetOldest) 12 = .ok (.getfield 9, 3) := by decide +kernel
theorem dd_X3_forgetOldest_15 : decode (zc mm_X3_forgetOldest) 15 = .ok (.iconst 0, 1) := by decide +kernel
theorem dd_X3_forgetOldest_16 : decode (zc mm_X3_forgetOldest) 16 = .ok (.aload_n 0, 1) := by decide +kernel
theorem dd_X3_forgetOldest_17 : decode (zc mm_X3_forgetOldest) 17 = .ok (.getfield 19, 3) := by decide +kernel
theorem dd_X3_forgetOldest_20 : decode (zc mm_X3_forgetOldest) 20 = .ok (.invokestatic 26, 3) := by decide +kernel
theorem dd_X3_forgetOldest_23 : decode (zc mm_X3_forgetOldest) 23 = .ok (.aload_n 0, 1) := by decide +kernel
theorem dd_X3_forgetOldest_24 : decode (zc mm_X3_forgetOldest) 24 = .ok (.getfield 13, 3) := by decide +kernel
theorem dd_X3_forgetOldest_27 : decode (zc mm_X3_forgetOldest) 27 = .ok (.iconst 1, 1) := by decide +kernel
theorem dd_X3_forgetOldest_28 : decode (zc mm_X3_forgetOldest) 28 = .ok (.aload_n 0, 1) := by decide +kernel
theorem dd_X3_forgetOldest_29 : decode (zc mm_X3_forgetOldest) 29 = .ok (.getfield 13, 3) := by decide +kernel
theorem dd_X3_forgetOldest_32 : decode (zc mm_X3_forgetOldest) 32 = .ok (.iconst 0, 1) := by decide +kernel
theorem dd_X3_forgetOldest_33 : decode (zc mm_X3_forgetOldest) 33 = .ok (.aload_n 0, 1) := by decide +kernel
theorem dd_X3_forgetOldest_34 : decode (zc mm_X3_forgetOldest) 34 = .ok (.getfield 19, 3) := by decide +kernel
theorem dd_X3_forgetOldest_37 : decode (zc mm_X3_forgetOldest) 37 = .ok (.invokestatic 26, 3) := by decide +kernel
theorem dd_X3_forgetOldest_40 : decode (zc mm_X3_forgetOldest) 40 = .ok (.aload_n 0, 1) := by decide +kernel
theorem dd_X3_forgetOldest_41 : decode (zc mm_X3_forgetOldest) 41 = .ok (.getfield 16, 3) := by decide +kernel
theorem dd_X3_forgetOldest_44 : decode (zc mm_X3_forgetOldest) 44 = .ok (.iconst 1, 1) := by decide +kernel
theorem dd_X3_forgetOldest_45 : decode (zc mm_X3_forgetOldest) 45 = .ok (.aload_n 0, 1) := by decide +kernel
theorem dd_X3_forgetOldest_46 : decode (zc mm_X3_forgetOldest) 46 = .ok (.getfield 16, 3) := by decide +kernel
theorem dd_X3_forgetOldest_49 : decode (zc mm_X3_forgetOldest) 49 = .ok (.iconst 0, 1) := by decide +kernel
theorem dd_X3_forgetOldest_50 : decode (zc mm_X3_forgetOldest) 50 = .ok (.aload_n 0, 1) := by decide +kernel
theorem dd_X3_forgetOldest_51 : decode (zc mm_X3_forgetOldest) 51 = .ok (.getfield 19, 3) := by decide +kernel
theorem dd_X3_forgetOldest_54 : decode (zc mm_X3_forgetOldest) 54 = .ok (.invokestatic 26, 3) := by decide +kernel
theorem dd_X3_forgetOldest_57 : decode (zc mm_X3_forgetOldest) 57 = .ok (.return_, 1) := by decide +kernel
theorem dd_X3_takeBack_0 : decode (zc mm_X3_takeBack) 0 = .ok (.aload_n 0, 1) := by decide +kernel
theorem dd_X3_takeBack_1 : decode (zc mm_X3_takeBack) 1 = .ok (.getfield 19, 3) := by decide +kernel
theorem dd_X3_takeBack_4 : decode (zc mm_X3_takeBack) 4 = .ok (.ifCond .ne 4, 3) := by decide +kernel
theorem dd_X3_takeBack_7 : decode (zc mm_X3_takeBack) 7 = .ok (.return_, 1) := by decide +kernel
theorem dd_X3_takeBack_8 : decode (zc mm_X3_takeBack) 8 = .ok (.aload_n 0, 1) := by decide +kernel
theorem dd_X3_takeBack_9 : decode (zc mm_X3_takeBack) 9 = .ok (.dup, 1) := by decide +kernel
theorem dd_X3_takeBack_10 : decode (zc mm_X3_takeBack) 10 = .ok (.getfield 19, 3) := by decide +kernel
theorem dd_X3_takeBack_13 : decode (zc mm_X3_takeBack) 13 = .ok (.iconst 1, 1) := by decide +kernel
theorem dd_X3_takeBack_14 : decode (zc mm_X3_takeBack) 14 = .ok (.isub, 1) := by decide +kernel
theorem dd_X3_takeBack_15 : decode (zc mm_X3_takeBack) 15 = .ok (.putfield 19, 3) := by decide +kernel
theorem dd_X3_takeBack_18 : decode (zc mm_X3_takeBack) 18 = .ok (.aload_n 1, 1) := by decide +kernel
theorem dd_X3_takeBack_19 : decode (zc mm_X3_takeBack) 19 = .ok (.aload_n 0, 1) := by decide +kernel
theorem dd_X3_takeBack_20 : decode (zc mm_X3_takeBack) 20 = .ok (.getfield 9, 3) := by decide +kernel
theorem dd_X3_takeBack_23 : decode (zc mm_X3_takeBack) 23 = .ok (.aload_n 0, 1) := by decide +kernel
theorem dd_X3_takeBack_24 : decode (zc mm_X3_takeBack) 24 = .ok (.getfield 19, 3) := by decide +kernel
theorem dd_X3_takeBack_27 : decode (zc mm_X3_takeBack) 27 = .ok (.iaload, 1) := by decide +kernel
theorem dd_X3_takeBack_28 : decode (zc mm_X3_takeBack) 28 = .ok (.invokevirtual 32, 3) := by decide +kernel
theorem dd_X3_takeBack_31 : decode (zc mm_X3_takeBack) 31 = .ok (.ifCond .ne 4, 3) := by decide +kernel
theorem dd_X3_takeBack_34 : decode (zc mm_X3_takeBack) 34 = .ok (.return_, 1) := by decide +kernel
theorem dd_X3_takeBack_35 : decode (zc mm_X3_takeBack) 35 = .ok (.aload_n 1, 1) := by decide +kernel
theorem dd_X3_takeBack_36 : decode (zc mm_X3_takeBack) 36 = .ok (.getfield 38, 3) := by decide +kernel
theorem dd_X3_takeBack_39 : decode (zc mm_X3_takeBack) 39 = .ok (.aload_n 0, 1) := by decide +kernel
theorem dd_X3_takeBack_40 : decode (zc mm_X3_takeBack) 40 = .ok (.getfield 9, 3) := by decide +kernel
theorem dd_X3_takeBack_43 : decode (zc mm_X3_takeBack) 43 = .ok (.aload_n 0, 1) := by decide +kernel
theorem dd_X3_takeBack_44 : decode (zc mm_X3_takeBack) 44 = .ok (.getfield 19, 3) := by decide +kernel
theorem dd_X3_takeBack_47 : decode (zc mm_X3_takeBack) 47 = .ok (.iaload, 1) := by decide +kernel
theorem dd_X3_takeBack_48 : decode (zc mm_X3_takeBack) 48 = .ok (.aaload, 1) := by decide +kernel
theorem dd_X3_takeBack_49 : decode (zc mm_X3_takeBack) 49 = .ok (.astore_n 2, 1) := by decide +kernel
theorem dd_X3_takeBack_50 : decode (zc mm_X3_takeBack) 50 = .ok (.aload_n 0, 1) := by decide +kernel
theorem dd_X3_takeBack_51 : decode (zc mm_X3_takeBack) 51 = .ok (.getfield 13, 3) := by decide +kernel
theorem dd_X3_takeBack_54 : decode (zc mm_X3_takeBack) 54 = .ok (.aload_n 0, 1) := by decide +kernel
theorem dd_X3_takeBack_55 : decode (zc mm_X3_takeBack) 55 = .ok (.getfield 19, 3) := by decide +kernel
theorem dd_X3_takeBack_58 : decode (zc mm_X3_takeBack) 58 = .ok (.iaload, 1) := by decide +kernel
theorem dd_X3_takeBack_59 : decode (zc mm_X3_takeBack) 59 = .ok (.iconst (-1), 1) := by decide +kernel
theorem dd_X3_takeBack_60 : decode (zc mm_X3_takeBack) 60 = .ok (.if_icmp .ne 38, 3) := by decide +kernel
theorem dd_X3_takeBack_63 : decode (zc mm_X3_takeBack) 63 = .ok (.aload_n 2, 1) := by decide +kernel
theorem dd_X3_takeBack_64 : decode (zc mm_X3_takeBack) 64 = .ok (.aload_n 0, 1) := by decide +kernel
theorem dd_X3_takeBack_65 : decode (zc mm_X3_takeBack) 65 = .ok (.getfield 16, 3) := by decide +kernel
theorem dd_X3_takeBack_68 : decode (zc mm_X3_takeBack) 68 = .ok (.aload_n 0, 1) := by decide +kernel
theorem dd_X3_takeBack_69 : decode (zc mm_X3_takeBack) 69 = .ok (.getfield 19, 3) := by decide +kernel
theorem dd_X3_takeBack_72 : decode (zc mm_X3_takeBack) 72 = .ok (.iaload, 1) := by decide +kernel
theorem dd_X3_takeBack_73 : decode (zc mm_X3_takeBack) 73 = .ok (.bipush 10, 2) := by decide +kernel
theorem dd_X3_takeBack_75 : decode (zc mm_X3_takeBack) 75 = .ok (.idiv, 1) := by decide +kernel
theorem dd_X3_takeBack_76 : decode (zc mm_X3_takeBack) 76 = .ok (.aload_n 0, 1) := by decide +kernel
theorem dd_X3_takeBack_77 : decode (zc mm_X3_takeBack) 77 = .ok (.getfield 16, 3) := by decide +kernel
theorem dd_X3_takeBack_80 : decode (zc mm_X3_takeBack) 80 = .ok (.aload_n 0, 1) := by decide +kernel
theorem dd_X3_takeBack_81 : decode (zc mm_X3_takeBack) 81 = .ok (.getfield 19, 3) := by decide +kernel
theorem dd_X3_takeBack_84 : decode (zc mm_X3_takeBack) 84 = .ok (.iaload, 1) := by decide +kernel
theorem dd_X3_takeBack_85 : decode (zc mm_X3_takeBack) 85 = .ok (.bipush 10, 2) := by decide +kernel
theorem dd_X3_takeBack_87 : decode (zc mm_X3_takeBack) 87 = .ok (.irem, 1) := by decide +kernel
theorem dd_X3_takeBack_88 : decode (zc mm_X3_takeBack) 88 = .ok (.aload_n 1, 1) := by decide +kernel
theorem dd_X3_takeBack_89 : decode (zc mm_X3_takeBack) 89 = .ok (.getfield 42, 3) := by decide +kernel
theorem dd_X3_takeBack_92 : decode (zc mm_X3_takeBack) 92 = .ok (.invokevirtual 45, 3) := by decide +kernel
theorem dd_X3_takeBack_95 : decode (zc mm_X3_takeBack) 95 = .ok (.goto 29, 3) := by decide +kernel
theorem dd_X3_takeBack_98 : decode (zc mm_X3_takeBack) 98 = .ok (.aload_n 2, 1) := by decide +kernel
theorem dd_X3_takeBack_99 : decode (zc mm_X3_takeBack) 99 = .ok (.aload_n 0, 1) := by decide +kernel
theorem dd_X3_takeBack_100 : decode (zc mm_X3_takeBack) 100 = .ok (.getfield 13, 3) := by decide +kernel
theorem dd_X3_takeBack_103 : decode (zc mm_X3_takeBack) 103 = .ok (.aload_n 0, 1) := by decide +kernel
theorem dd_X3_takeBack_104 : decode (zc mm_X3_takeBack) 104 = .ok (.getfield 19, 3) := by decide +kernel
theorem dd_X3_takeBack_107 : decode (zc mm_X3_takeBack) 107 = .ok (.iaload, 1) := by decide +kernel
theorem dd_X3_takeBack_108 : decode (zc mm_X3_takeBack) 108 = .ok (.aload_n 0, 1) := by decide +kernel
theorem dd_X3_takeBack_109 : decode (zc mm_X3_takeBack) 109 = .ok (.getfield 16, 3) := by decide +kernel
theorem dd_X3_takeBack_112 : decode (zc mm_X3_takeBack) 112 = .ok (.aload_n 0, 1) := by decide +kernel
theorem dd_X3_takeBack_113 : decode (zc mm_X3_takeBack) 113 = .ok (.getfield 19, 3) := by decide +kernel
theorem dd_X3_takeBack_116 : decode (zc mm_X3_takeBack) 116 = .ok (.iaload, 1) := by decide +kernel
theorem dd_X3_takeBack_117 : decode (zc mm_X3_takeBack) 117 = .ok (.aload_n 1, 1) := by decide +kernel
theorem dd_X3_takeBack_118 : decode (zc mm_X3_takeBack) 118 = .ok (.getfield 42, 3) := by decide +kernel
theorem dd_X3_takeBack_121 : decode (zc mm_X3_takeBack) 121 = .ok (.invokevirtual 51, 3) := by decide +kernel
theorem dd_X3_takeBack_124 : decode (zc mm_X3_takeBack) 124 = .ok (.return_, 1) := by decide +kernel
theorem dd_X4_init_0 : decode (zc mm_X4_init) 0 = .ok (.aload_n 0, 1) := by decide +kernel
theorem dd_X4_init_1 : decode (zc mm_X4_init) 1 = .ok (.invokespecial 3, 3) := by decide +kernel
theorem dd_X4_init_4 : decode (zc mm_X4_init) 4 = .ok (.aload_n 0, 1) := by decide +kernel
theorem dd_X4_init_5 : decode (zc mm_X4_init) 5 = .ok (.bipush 25, 2) := by decide +kernel
theorem dd_X4_init_7 : decode (zc mm_X4_init) 7 = .ok (.newarray .int, 2) := by decide +kernel
theorem dd_X4_init_9 : decode (zc mm_X4_init) 9 = .ok (.putfield 9, 3) := by decide +kernel
theorem dd_X4_init_12 : decode (zc mm_X4_init) 12 = .ok (.aload_n 0, 1) := by decide +kernel
theorem dd_X4_init_13 : decode (zc mm_X4_init) 13 = .ok (.bipush 25, 2) := by decide +kernel
theorem dd_X4_init_15 : decode (zc mm_X4_init) 15 = .ok (.newarray .int, 2) := by decide +kernel
theorem dd_X4_init_17 : decode (zc mm_X4_init) 17 = .ok (.putfield 15, 3) := by decide +kernel
theorem dd_X4_init_20 : decode (zc mm_X4_init) 20 = .ok (.return_, 1) := by decide +kernel
theorem dd_X4_copyFrom_0 : decode (zc mm_X4_copyFrom) 0 = .ok (.aload_n 0, 1) := by decide +kernel
theorem dd_X4_copyFrom_1 : decode (zc mm_X4_copyFrom) 1 = .ok (.aload_n 1, 1) := by decide +kernel
theorem dd_X4_copyFrom_2 : decode (zc mm_X4_copyFrom) 2 = .ok (.getfield 18, 3) := by decide +kernel
theorem dd_X4_copyFrom_5 : decode (zc mm_X4_copyFrom) 5 = .ok (.putfield 18, 3) := by decide +kernel
theorem dd_X4_copyFrom_8 : decode (zc mm_X4_copyFrom) 8 = .ok (.aload_n 0, 1) := by decide +kernel
theorem dd_X4_copyFrom_9 : decode (zc mm_X4_copyFrom) 9 = .ok (.aload_n 1, 1) := by decide +kernel
theorem dd_X4_copyFrom_10 : decode (zc mm_X4_copyFrom) 10 = .ok (.getfield 22, 3) := by decide +kernel
theorem dd_X4_copyFrom_13 : decode (zc mm_X4_copyFrom) 13 = .ok (.putfield 22, 3) := by decide +kernel
theorem dd_X4_copyFrom_16 : decode (zc mm_X4_copyFrom) 16 = .ok (.aload_n 1, 1) := by decide +kernel
theorem dd_X4_copyFrom_17 : decode (zc mm_X4_copyFrom) 17 = .ok (.getfield 9, 3) := by decide +kernel
theorem dd_X4_copyFrom_20 : decode (zc mm_X4_copyFrom) 20 = .ok (.iconst 0, 1) := by decide +kernel
theorem dd_X4_copyFrom_21 : decode (zc mm_X4_copyFrom) 21 = .ok (.aload_n 0, 1) := by decide +kernel
theorem dd_X4_copyFrom_22 : decode (zc mm_X4_copyFrom) 22 = .ok (.getfield 9, 3) := by decide +kernel
theorem dd_X4_copyFrom_25 : decode (zc mm_X4_copyFrom) 25 = .ok (.iconst 0, 1) := by decide +kernel
theorem dd_X4_copyFrom_26 : decode (zc mm_X4_copyFrom) 26 = .ok (.aload_n 0, 1) := by decide +kernel
theorem dd_X4_copyFrom_27 : decode (zc mm_X4_copyFrom) 27 = .ok (.getfield 9, 3) := by decide +kernel
theorem dd_X4_copyFrom_30 : decode (zc mm_X4_copyFrom) 30 = .ok (.arraylength, 1) := by decide +kernel
theorem dd_X4_copyFrom_31 : decode (zc mm_X4_copyFrom) 31 = .ok (.invokestatic 25, 3) := by decide +kernel
theorem dd_X4_copyFrom_34 : decode (zc mm_X4_copyFrom) 34 = .ok (.aload_n 1, 1) := by decide +kernel
theorem dd_X4_copyFrom_35 : decode (zc mm_X4_copyFrom) 35 = .ok (.getfield 15, 3) := by decide +kernel
theorem dd_X4_copyFrom_38 : decode (zc mm_X4_copyFrom) 38 = .ok (.iconst 0, 1) := by decide +kernel
theorem dd_X4_copyFrom_39 : decode (zc mm_X4_copyFrom) 39 = .ok (.aload_n 0, 1) := by decide +kernel
theorem dd_X4_copyFrom_40 : decode (zc mm_X4_copyFrom) 40 = .ok (.getfield 15, 3) := by decide +kernel
theorem dd_X4_copyFrom_43 : decode (zc mm_X4_copyFrom) 43 = .ok (.iconst 0, 1) := by decide +kernel
theorem dd_X4_copyFrom_44 : decode (zc mm_X4_copyFrom) 44 = .ok (.aload_n 0, 1) := by decide +kernel
theorem dd_X4_copyFrom_45 : decode (zc mm_X4_copyFrom) 45 = .ok (.getfield 15, 3) := by decide +kernel
theorem dd_X4_copyFrom_48 : decode (zc mm_X4_copyFrom) 48 = .ok (.arraylength, 1) := by decide +kernel
theorem dd_X4_copyFrom_49 : decode (zc mm_X4_copyFrom) 49 = .ok (.invokestatic 25, 3) := by decide +kernel
theorem dd_X4_copyFrom_52 : decode (zc mm_X4_copyFrom) 52 = .ok (.return_, 1) := by decide +kernel
theorem dd_X4_clear_0 : decode (zc mm_X4_clear) 0 = .ok (.aload_n 0, 1) := by decide +kernel
theorem dd_X4_clear_1 : decode (zc mm_X4_clear) 1 = .ok (.iconst 0, 1) := by decide +kernel
theorem dd_X4_clear_2 : decode (zc mm_X4_clear) 2 = .ok (.putfield 18, 3) := by decide +kernel
theorem dd_X4_clear_5 : decode (zc mm_X4_clear) 5 = .ok (.aload_n 0, 1) := by decide +kernel
theorem dd_X4_clear_6 : decode (zc mm_X4_clear) 6 = .ok (.iconst 0, 1) := by decide +kernel
theorem dd_X4_clear_7 : decode (zc mm_X4_clear) 7 = .ok (.putfield 22, 3) := by decide +kernel
theorem dd_X4_clear_10 : decode (zc mm_X4_clear) 10 = .ok (.aload_n 0, 1) := by decide +kernel
theorem dd_X4_clear_11 : decode (zc mm_X4_clear) 11 = .ok (.getfield 9, 3) := by decide +kernel
theorem dd_X4_clear_14 : decode (zc mm_X4_clear) 14 = .ok (.iconst 0, 1) := by decide +kernel
theorem dd_X4_clear_15 : decode (zc mm_X4_clear) 15 = .ok (.invokestatic 31, 3) := by decide +kernel
theorem dd_X4_clear_18 : decode (zc mm_X4_clear) 18 = .ok (.aload_n 0, 1) := by decide +kernel
theorem dd_X4_clear_19 : decode (zc mm_X4_clear) 19 = .ok (.getfield 15, 3) := by decide +kernel
theorem dd_X4_clear_22 : decode (zc mm_X4_clear) 22 = .ok (.iconst 0, 1) := by decide +kernel
theorem dd_X4_clear_23 : decode (zc mm_X4_clear) 23 = .ok (.invokestatic 31, 3) := by decide +kernel
theorem dd_X4_clear_26 : decode (zc mm_X4_clear) 26 = .ok (.return_, 1) := by decide +kernel
theorem dd_X4_become_0 : decode (zc mm_X4_become) 0 = .ok (.aload_n 0, 1) := by decide +kernel
theorem dd_X4_become_1 : decode (zc mm_X4_become) 1 = .ok (.iload_n 1, 1) := by decide +kernel
theorem dd_X4_become_2 : decode (zc mm_X4_become) 2 = .ok (.putfield 18, 3) := by decide +kernel
theorem dd_X4_become_5 : decode (zc mm_X4_become) 5 = .ok (.aload_n 0, 1) := by decide +kernel
theorem dd_X4_become_6 : decode (zc mm_X4_become) 6 = .ok (.iload_n 2, 1) := by decide +kernel
theorem dd_X4_become_7 : decode (zc mm_X4_become) 7 = .ok (.putfield 22, 3) := by decide +kernel
theorem dd_X4_become_10 : decode (zc mm_X4_become) 10 = .ok (.aload_n 0, 1) := by decide +kernel
theorem dd_X4_become_11 : decode (zc mm_X4_become) 11 = .ok (.iload_n 3, 1) := by decide +kernel
theorem dd_X4_become_12 : decode (zc mm_X4_become) 12 = .ok (.invokevirtual 37, 3) := by decide +kernel
theorem dd_X4_become_15 : decode (zc mm_X4_become) 15 = .ok (.return_, 1) := by decide +kernel
theorem dd_X4_tell_0 : decode (zc mm_X4_tell) 0 = .ok (.iload_n 1, 1) := by decide +kernel
theorem dd_X4_tell_1 : decode (zc mm_X4_tell) 1 = .ok (.ifCond .lt 28, 3) := by decide +kernel
theorem dd_X4_tell_4 : decode (zc mm_X4_tell) 4 = .ok (.iload_n 1, 1) := by decide +kernel
theorem dd_X4_tell_5 : decode (zc mm_X4_tell) 5 = .ok (.aload_n 0, 1) := by decide +kernel
theorem dd_X4_tell_6 : decode (zc mm_X4_tell) 6 = .ok (.getfield 9, 3) := by decide +kernel
theorem dd_X4_tell_9 : decode (zc mm_X4_tell) 9 = .ok (.arraylength, 1) := by decide +kernel
theorem dd_X4_tell_10 : decode (zc mm_X4_tell) 10 = .ok (.if_icmp .ge 19, 3) := by decide +kernel
theorem dd_X4_tell_13 : decode (zc mm_X4_tell) 13 = .ok (.aload_n 0, 1) := by decide +kernel
theorem dd_X4_tell_14 : decode (zc mm_X4_tell) 14 = .ok (.getfield 9, 3) := by decide +kernel
theorem dd_X4_tell_17 : decode (zc mm_X4_tell) 17 = .ok (.iload_n 1, 1) := by decide +kernel
theorem dd_X4_tell_18 : decode (zc mm_X4_tell) 18 = .ok (.iload_n 2, 1) := by decide +kernel
theorem dd_X4_tell_19 : decode (zc mm_X4_tell) 19 = .ok (.iload_n 3, 1) := by decide +kernel
theorem dd_X4_tell_20 : decode (zc mm_X4_tell) 20 = .ok (.invokestatic 41, 3) := by decide +kernel
theorem dd_X4_tell_23 : decode (zc mm_X4_tell) 23 = .ok (.iastore, 1) := by decide +kernel
theorem dd_X4_tell_24 : decode (zc mm_X4_tell) 24 = .ok (.aload_n 0, 1) := by decide +kernel
theorem dd_X4_tell_25 : decode (zc mm_X4_tell) 25 = .ok (.iload_n 3, 1) := by decide +kernel
theorem dd_X4_tell_26 : decode (zc mm_X4_tell) 26 = .ok (.invokevirtual 37, 3) := by decide +kernel
theorem dd_X4_tell_29 : decode (zc mm_X4_tell) 29 = .ok (.return_, 1) := by decide +kernel
theorem dd_X4_reduceBy_0 : decode (zc mm_X4_reduceBy) 0 = .ok (.iconst 0, 1) := by decide +kernel
theorem dd_X4_reduceBy_1 : decode (zc mm_X4_reduceBy) 1 = .ok (.istore_n 2, 1) := by decide +kernel
theorem dd_X4_reduceBy_2 : decode (zc mm_X4_reduceBy) 2 = .ok (.iload_n 2, 1) := by decide +kernel
theorem dd_X4_reduceBy_3 : decode (zc mm_X4_reduceBy) 3 = .ok (.aload_n 0, 1) := by decide +kernel
theorem dd_X4_reduceBy_4 : decode (zc mm_X4_reduceBy) 4 = .ok (.getfield 9, 3) := by decide +kernel
theorem dd_X4_reduceBy_7 : decode (zc mm_X4_reduceBy) 7 = .ok (.arraylength, 1) := by decide +kernel
theorem dd_X4_reduceBy_8 : decode (zc mm_X4_reduceBy) 8 = .ok (.if_icmp .ge 25, 3) := by decide +kernel
theorem dd_X4_reduceBy_11 : decode (zc mm_X4_reduceBy) 11 = .ok (.aload_n 0, 1) := by decide +kernel
theorem dd_X4_reduceBy_12 : decode (zc mm_X4_reduceBy) 12 = .ok (.getfield 9, 3) := by decide +kernel
theorem dd_X4_reduceBy_15 : decode (zc mm_X4_reduceBy) 15 = .ok (.iload_n 2, 1) := by decide +kernel
theorem dd_X4_reduceBy_16 : decode (zc mm_X4_reduceBy) 16 = .ok (.aload_n 0, 1) := by decide +kernel
theorem dd_X4_reduceBy_17 : decode (zc mm_X4_reduceBy) 17 = .ok (.getfield 9, 3) := by decide +kernel
theorem dd_X4_reduceBy_20 : decode (zc mm_X4_reduceBy) 20 = .ok (.iload_n 2, 1) := by decide +kernel
theorem dd_X4_reduceBy_21 : decode (zc mm_X4_reduceBy) 21 = .ok (.iaload, 1) := by decide +kernel
theorem dd_X4_reduceBy_22 : decode (zc mm_X4_reduceBy) 22 = .ok (.iload_n 1, 1) := by decide +kernel
theorem dd_X4_reduceBy_23 : decode (zc mm_X4_reduceBy) 23 = .ok (.invokestatic 41, 3) := by decide +kernel
theorem dd_X4_reduceBy_26 : decode (zc mm_X4_reduceBy) 26 = .ok (.iastore, 1) := by decide +kernel
theorem dd_X4_reduceBy_27 : decode (zc mm_X4_reduceBy) 27 = .ok (.iinc 2 1, 3) := by decide +kernel
theorem dd_X4_reduceBy_30 : decode (zc mm_X4_reduceBy) 30 = .ok (.goto (-28), 3) := by decide +kernel
theorem dd_X4_reduceBy_33 : decode (zc mm_X4_reduceBy) 33 = .ok (.aload_n 0, 1) := by decide +kernel
theorem dd_X4_reduceBy_34 : decode (zc mm_X4_reduceBy) 34 = .ok (.iload_n 1, 1) := by decide +kernel
theorem dd_X4_reduceBy_35 : decode (zc mm_X4_reduceBy) 35 = .ok (.invokevirtual 37, 3) := by decide +kernel
theorem dd_X4_reduceBy_38 : decode (zc mm_X4_reduceBy) 38 = .ok (.return_, 1) := by decide +kernel
theorem dd_X4_refresh_0 : decode (zc mm_X4_refresh) 0 = .ok (.iconst 0, 1) := by decide +kernel
theorem dd_X4_refresh_1 : decode (zc mm_X4_refresh) 1 = .ok (.istore_n 2, 1) := by decide +kernel
theorem dd_X4_refresh_2 : decode (zc mm_X4_refresh) 2 = .ok (.iload_n 2, 1) := by decide +kernel
theorem dd_X4_refresh_3 : decode (zc mm_X4_refresh) 3 = .ok (.iconst 5, 1) := by decide +kernel
theorem dd_X4_refresh_4 : decode (zc mm_X4_refresh) 4 = .ok (.if_icmp .ge 39, 3) := by decide +kernel
theorem dd_X4_refresh_7 : decode (zc mm_X4_refresh) 7 = .ok (.iconst 0, 1) := by decide +kernel
theorem dd_X4_refresh_8 : decode (zc mm_X4_refresh) 8 = .ok (.istore_n 3, 1) := by decide +kernel
theorem dd_X4_refresh_9 : decode (zc mm_X4_refresh) 9 = .ok (.iload_n 3, 1) := by decide +kernel
theorem dd_X4_refresh_10 : decode (zc mm_X4_refresh) 10 = .ok (.iconst 5, 1) := by decide +kernel
theorem dd_X4_refresh_11 : decode (zc mm_X4_refresh) 11 = .ok (.if_icmp .ge 26, 3) := by decide +kernel
theorem dd_X4_refresh_14 : decode (zc mm_X4_refresh) 14 = .ok (.aload_n 0, 1) := by decide +kernel
theorem dd_X4_refresh_15 : decode (zc mm_X4_refresh) 15 = .ok (.getfield 15, 3) := by decide +kernel
theorem dd_X4_refresh_18 : decode (zc mm_X4_refresh) 18 = .ok (.iconst 5, 1) := by decide +kernel
theorem dd_X4_refresh_19 : decode (zc mm_X4_refresh) 19 = .ok (.iload_n 2, 1) := by decide +kernel
theorem dd_X4_refresh_20 : decode (zc mm_X4_refresh) 20 = .ok (.imul, 1) := by decide +kernel
theorem dd_X4_refresh_21 : decode (zc mm_X4_refresh) 21 = .ok (.iload_n 3, 1) := by decide +kernel
theorem dd_X4_refresh_22 : decode (zc mm_X4_refresh) 22 = .ok (.iadd, 1) := by decide +kernel
theorem dd_X4_refresh_23 : decode (zc mm_X4_refresh) 23 = .ok (.aload_n 0, 1) := by decide +kernel
theorem dd_X4_refresh_24 : decode (zc mm_X4_refresh) 24 = .ok (.iload_n 2, 1) := by decide +kernel
theorem dd_X4_refresh_25 : decode (zc mm_X4_refresh) 25 = .ok (.iload_n 3, 1) := by decide +kernel
theorem dd_X4_refresh_26 : decode (zc mm_X4_refresh) 26 = .ok (.iload_n 1, 1) := by decide +kernel
theorem dd_X4_refresh_27 : decode (zc mm_X4_refresh) 27 = .ok (.invokevirtual 47, 3) := by decide +kernel
theorem dd_X4_refresh_30 : decode (zc mm_X4_refresh) 30 = .ok (.iastore, 1) := by decide +kernel
theorem dd_X4_refresh_31 : decode (zc mm_X4_refresh) 31 = .ok (.iinc 3 1, 3) := by decide +kernel
theorem dd_X4_refresh_34 : decode (zc mm_X4_refresh) 34 = .ok (.goto (-25), 3) := by decide +kernel
theorem dd_X4_refresh_37 : decode (zc mm_X4_refresh) 37 = .ok (.iinc 2 1, 3) := by decide +kernel
theorem dd_X4_refresh_40 : decode (zc mm_X4_refresh) 40 = .ok (.goto (-38), 3) := by decide +kernel
theorem dd_X4_refresh_43 : decode (zc mm_X4_refresh) 43 = .ok (.aload_n 0, 1) := by decide +kernel
theorem dd_X4_refresh_44 : decode (zc mm_X4_refresh) 44 = .ok (.getfield 18, 3) := by decide +kernel
theorem dd_X4_refresh_47 : decode (zc mm_X4_refresh) 47 = .ok (.iconst 3, 1) := by decide +kernel
theorem dd_X4_refresh_48 : decode (zc mm_X4_refresh) 48 = .ok (.if_icmp .ne 8, 3) := by decide +kernel
theorem dd_X4_refresh_51 : decode (zc mm_X4_refresh) 51 = .ok (.aload_n 0, 1) := by decide +kernel
theorem dd_X4_refresh_52 : decode (zc mm_X4_refresh) 52 = .ok (.iload_n 1, 1) := by decide +kernel
theorem dd_X4_refresh_53 : decode (zc mm_X4_refresh) 53 = .ok (.invokevirtual 51, 3) := by decide +kernel
theorem dd_X4_refresh_56 : decode (zc mm_X4_refresh) 56 = .ok (.return_, 1) := by decide +kernel
theorem dd_X4_byKind_0 : decode (zc mm_X4_byKind) 0 = .ok (.aload_n 0, 1) := by decide +kernel
theorem dd_X4_byKind_1 : decode (zc mm_X4_byKind) 1 = .ok (.getfield 18, 3) := by decide +kernel
theorem dd_X4_byKind_4 : decode (zc mm_X4_byKind) 4 = .ok (.tableswitch 101 1 5 #[36, 43, 101, 54, 78], 36) := by decide +kernel
theorem dd_X4_byKind_40 : decode (zc mm_X4_byKind) 40 = .ok (.aload_n 0, 1) := by decide +kernel
theorem dd_X4_byKind_41 : decode (zc mm_X4_byKind) 41 = .ok (.iload_n 1, 1) := by decide +kernel
theorem dd_X4_byKind_42 : decode (zc mm_X4_byKind) 42 = .ok (.iload_n 2, 1) := by decide +kernel
theorem dd_X4_byKind_43 : decode (zc mm_X4_byKind) 43 = .ok (.invokevirtual 54, 3) := by decide +kernel
theorem dd_X4_byKind_46 : decode (zc mm_X4_byKind) 46 = .ok (.ireturn, 1) := by decide +kernel
theorem dd_X4_byKind_47 : decode (zc mm_X4_byKind) 47 = .ok (.aload_n 0, 1) := by decide +kernel
theorem dd_X4_byKind_48 : decode (zc mm_X4_byKind) 48 = .ok (.getfield 9, 3) := by decide +kernel
theorem dd_X4_byKind_51 : decode (zc mm_X4_byKind) 51 = .ok (.iconst 5, 1) := by decide +kernel
theorem dd_X4_byKind_52 : decode (zc mm_X4_byKind) 52 = .ok (.iload_n 2, 1) := by decide +kernel
theorem dd_X4_byKind_53 : decode (zc mm_X4_byKind) 53 = .ok (.imul, 1) := by decide +kernel
theorem dd_X4_byKind_54 : decode (zc mm_X4_byKind) 54 = .ok (.iload_n 1, 1) := by decide +kernel
theorem dd_X4_byKind_55 : decode (zc mm_X4_byKind) 55 = .ok (.iadd, 1) := by decide +kernel
theorem dd_X4_byKind_56 : decode (zc mm_X4_byKind) 56 = .ok (.iaload, 1) := by decide +kernel
theorem dd_X4_byKind_57 : decode (zc mm_X4_byKind) 57 = .ok (.ireturn, 1) := by decide +kernel
theorem dd_X4_byKind_58 : decode (zc mm_X4_byKind) 58 = .ok (.iload_n 1, 1) := by decide +kernel
theorem dd_X4_byKind_59 : decode (zc mm_X4_byKind) 59 = .ok (.iconst 4, 1) := by decide +kernel
theorem dd_X4_byKind_60 : decode (zc mm_X4_byKind) 60 = .ok (.if_icmp .ne 7, 3) := by decide +kernel
theorem dd_X4_byKind_63 : decode (zc mm_X4_byKind) 63 = .ok (.iconst 0, 1) := by decide +kernel
theorem dd_X4_byKind_64 : decode (zc mm_X4_byKind) 64 = .ok (.goto 17, 3) := by decide +kernel
theorem dd_X4_byKind_67 : decode (zc mm_X4_byKind) 67 = .ok (.iload_n 1, 1) := by decide +kernel
theorem dd_X4_byKind_68 : decode (zc mm_X4_byKind) 68 = .ok (.iconst 1, 1) := by decide +kernel
theorem dd_X4_byKind_69 : decode (zc mm_X4_byKind) 69 = .ok (.iadd, 1) := by decide +kernel
theorem dd_X4_byKind_70 : decode (zc mm_X4_byKind) 70 = .ok (.aload_n 0, 1) := by decide +kernel
theorem dd_X4_byKind_71 : decode (zc mm_X4_byKind) 71 = .ok (.iload_n 1, 1) := by decide +kernel
theorem dd_X4_byKind_72 : decode (zc mm_X4_byKind) 72 = .ok (.iconst 1, 1) := by decide +kernel
theorem dd_X4_byKind_73 : decode (zc mm_X4_byKind) 73 = .ok (.iadd, 1) := by decide +kernel
theorem dd_X4_byKind_74 : decode (zc mm_X4_byKind) 74 = .ok (.iload_n 2, 1) := by decide +kernel
theorem dd_X4_byKind_75 : decode (zc mm_X4_byKind) 75 = .ok (.invokevirtual 54, 3) := by decide +kernel
theorem dd_X4_byKind_78 : decode (zc mm_X4_byKind) 78 = .ok (.imul, 1) := by decide +kernel
theorem dd_X4_byKind_79 : decode (zc mm_X4_byKind) 79 = .ok (.iload_n 3, 1) := by decide +kernel
theorem dd_X4_byKind_80 : decode (zc mm_X4_byKind) 80 = .ok (.irem, 1) := by decide +kernel
theorem dd_X4_byKind_81 : decode (zc mm_X4_byKind) 81 = .ok (.ireturn, 1) := by decide +kernel
theorem dd_X4_byKind_82 : decode (zc mm_X4_byKind) 82 = .ok (.aload_n 0, 1) := by decide +kernel
theorem dd_X4_byKind_83 : decode (zc mm_X4_byKind) 83 = .ok (.getfield 9, 3) := by decide +kernel
theorem dd_X4_byKind_86 : decode (zc mm_X4_byKind) 86 = .ok (.iconst 5, 1) := by decide +kernel
theorem dd_X4_byKind_87 : decode (zc mm_X4_byKind) 87 = .ok (.iload_n 2, 1) := by decide +kernel
theorem dd_X4_byKind_88 : decode (zc mm_X4_byKind) 88 = .ok (.imul, 1) := by decide +kernel
theorem dd_X4_byKind_89 : decode (zc mm_X4_byKind) 89 = .ok (.iload_n 1, 1) := by decide +kernel
theorem dd_X4_byKind_90 : decode (zc mm_X4_byKind) 90 = .ok (.iadd, 1) := by decide +kernel
theorem dd_X4_byKind_91 : decode (zc mm_X4_byKind) 91 = .ok (.iaload, 1) := by decide +kernel
theorem dd_X4_byKind_92 : decode (zc mm_X4_byKind) 92 = .ok (.aload_n 0, 1) := by decide +kernel
theorem dd_X4_byKind_93 : decode (zc mm_X4_byKind) 93 = .ok (.getfield 22, 3) := by decide +kernel
theorem dd_X4_byKind_96 : decode (zc mm_X4_byKind) 96 = .ok (.iload_n 2, 1) := by decide +kernel
theorem dd_X4_byKind_97 : decode (zc mm_X4_byKind) 97 = .ok (.iload_n 3, 1) := by decide +kernel
theorem dd_X4_byKind_98 : decode (zc mm_X4_byKind) 98 = .ok (.invokestatic 57, 3) := by decide +kernel
theorem dd_X4_byKind_101 : decode (zc mm_X4_byKind) 101 = .ok (.imul, 1) := by decide +kernel
theorem dd_X4_byKind_102 : decode (zc mm_X4_byKind) 102 = .ok (.iload_n 3, 1) := by decide +kernel
theorem dd_X4_byKind_103 : decode (zc mm_X4_byKind) 103 = .ok (.irem, 1) := by decide +kernel
theorem dd_X4_byKind_104 : decode (zc mm_X4_byKind) 104 = .ok (.ireturn, 1) := by decide +kernel
theorem dd_X4_byKind_105 : decode (zc mm_X4_byKind) 105 = .ok (.aload_n 0, 1) := by decide +kernel
theorem dd_X4_byKind_106 : decode (zc mm_X4_byKind) 106 = .ok (.getfield 9, 3) := by decide +kernel
theorem dd_X4_byKind_109 : decode (zc mm_X4_byKind) 109 = .ok (.iconst 5, 1) := by decide +kernel
theorem dd_X4_byKind_110 : decode (zc mm_X4_byKind) 110 = .ok (.iload_n 1, 1) := by decide +kernel
theorem dd_X4_byKind_111 : decode (zc mm_X4_byKind) 111 = .ok (.imul, 1) := by decide +kernel
theorem dd_X4_byKind_112 : decode (zc mm_X4_byKind) 112 = .ok (.iload_n 2, 1) := by decide +kernel
theorem dd_X4_byKind_113 : decode (zc mm_X4_byKind) 113 = .ok (.iadd, 1) := by decide +kernel
theorem dd_X4_byKind_114 : decode (zc mm_X4_byKind) 114 = .ok (.iaload, 1) := by decide +kernel
theorem dd_X4_byKind_115 : decode (zc mm_X4_byKind) 115 = .ok (.ireturn, 1) := by decide +kernel
theorem dd_X4_even_0 : decode (zc mm_X4_even) 0 = .ok (.iload_n 1, 1) := by decide +kernel
theorem dd_X4_even_1 : decode (zc mm_X4_even) 1 = .ok (.iconst 2, 1) := by decide +kernel
theorem dd_X4_even_2 : decode (zc mm_X4_even) 2 = .ok (.irem, 1) := by decide +kernel
theorem dd_X4_even_3 : decode (zc mm_X4_even) 3 = .ok (.ifCond .ne 16, 3) := by decide +kernel
theorem dd_X4_even_6 : decode (zc mm_X4_even) 6 = .ok (.aload_n 0, 1) := by decide +kernel
theorem dd_X4_even_7 : decode (zc mm_X4_even) 7 = .ok (.getfield 9, 3) := by decide +kernel
theorem dd_X4_even_10 : decode (zc mm_X4_even) 10 = .ok (.iconst 5, 1) := by decide +kernel
theorem dd_X4_even_11 : decode (zc mm_X4_even) 11 = .ok (.iload_n 1, 1) := by decide +kernel
theorem dd_X4_even_12 : decode (zc mm_X4_even) 12 = .ok (.imul, 1) := by decide +kernel
theorem dd_X4_even_13 : decode (zc mm_X4_even) 13 = .ok (.iload_n 2, 1) := by decide +kernel
theorem dd_X4_even_14 : decode (zc mm_X4_even) 14 = .ok (.iadd, 1) := by decide +kernel
theorem dd_X4_even_15 : decode (zc mm_X4_even) 15 = .ok (.iaload, 1) := by decide +kernel
theorem dd_X4_even_16 : decode (zc mm_X4_even) 16 = .ok (.goto 4, 3) := by decide +kernel
theorem dd_X4_even_19 : decode (zc mm_X4_even) 19 = .ok (.iconst 0, 1) := by decide +kernel
theorem dd_X4_even_20 : decode (zc mm_X4_even) 20 = .ok (.ireturn, 1) := by decide +kernel
theorem dd_X4_shift_0 : decode (zc mm_X4_shift) 0 = .ok (.iconst 0, 1) := by decide +kernel
theorem dd_X4_shift_1 : decode (zc mm_X4_shift) 1 = .ok (.istore_n 2, 1) := by decide +kernel
theorem dd_X4_shift_2 : decode (zc mm_X4_shift) 2 = .ok (.iload_n 2, 1) := by decide +kernel
theorem dd_X4_shift_3 : decode (zc mm_X4_shift) 3 = .ok (.iconst 4, 1) := by decide +kernel
theorem dd_X4_shift_4 : decode (zc mm_X4_shift) 4 = .ok (.if_icmp .ge 84, 3) := by decide +kernel
theorem dd_X4_shift_7 : decode (zc mm_X4_shift) 7 = .ok (.iconst 3, 1) := by decide +kernel
theorem dd_X4_shift_8 : decode (zc mm_X4_shift) 8 = .ok (.istore_n 3, 1) := by decide +kernel
theorem dd_X4_shift_9 : decode (zc mm_X4_shift) 9 = .ok (.iload_n 3, 1) := by decide +kernel
theorem dd_X4_shift_10 : decode (zc mm_X4_shift) 10 = .ok (.iload_n 2, 1) := by decide +kernel
theorem dd_X4_shift_11 : decode (zc mm_X4_shift) 11 = .ok (.if_icmp .lt 71, 3) := by decide +kernel
theorem dd_X4_shift_14 : decode (zc mm_X4_shift) 14 = .ok (.iconst 0, 1) := by decide +kernel
theorem dd_X4_shift_15 : decode (zc mm_X4_shift) 15 = .ok (.istore 4, 2) := by decide +kernel
theorem dd_X4_shift_17 : decode (zc mm_X4_shift) 17 = .ok (.iload 4, 2) := by decide +kernel
theorem dd_X4_shift_19 : decode (zc mm_X4_shift) 19 = .ok (.iconst 5, 1) := by decide +kernel
theorem dd_X4_shift_20 : decode (zc mm_X4_shift) 20 = .ok (.if_icmp .ge 56, 3) := by decide +kernel
theorem dd_X4_shift_23 : decode (zc mm_X4_shift) 23 = .ok (.aload_n 0, 1) := by decide +kernel
theorem dd_X4_shift_24 : decode (zc mm_X4_shift) 24 = .ok (.getfield 15, 3) := by decide +kernel
theorem dd_X4_shift_27 : decode (zc mm_X4_shift) 27 = .ok (.iconst 5, 1) := by decide +kernel
theorem dd_X4_shift_28 : decode (zc mm_X4_shift) 28 = .ok (.iload_n 3, 1) := by decide +kernel
theorem dd_X4_shift_29 : decode (zc mm_X4_shift) 29 = .ok (.iconst 1, 1) := by decide +kernel
theorem dd_X4_shift_30 : decode (zc mm_X4_shift) 30 = .ok (.iadd, 1) := by decide +kernel
theorem dd_X4_shift_31 : decode (zc mm_X4_shift) 31 = .ok (.imul, 1) := by decide +kernel
theorem dd_X4_shift_32 : decode (zc mm_X4_shift) 32 = .ok (.iload 4, 2) := by decide +kernel
theorem dd_X4_shift_34 : decode (zc mm_X4_shift) 34 = .ok (.iadd, 1) := by decide +kernel
theorem dd_X4_shift_35 : decode (zc mm_X4_shift) 35 = .ok (.iaload, 1) := by decide +kernel
theorem dd_X4_shift_36 : decode (zc mm_X4_shift) 36 = .ok (.istore 5, 2) := by decide +kernel
theorem dd_X4_shift_38 : decode (zc mm_X4_shift) 38 = .ok (.aload_n 0, 1) := by decide +kernel
theorem dd_X4_shift_39 : decode (zc mm_X4_shift) 39 = .ok (.getfield 15, 3) := by decide +kernel
theorem dd_X4_shift_42 : decode (zc mm_X4_shift) 42 = .ok (.iconst 5, 1) := by decide +kernel
theorem dd_X4_shift_43 : decode (zc mm_X4_shift) 43 = .ok (.iload_n 3, 1) := by decide +kernel
theorem dd_X4_shift_44 : decode (zc mm_X4_shift) 44 = .ok (.imul, 1) := by decide +kernel
theorem dd_X4_shift_45 : decode (zc mm_X4_shift) 45 = .ok (.iload 4, 2) := by decide +kernel
theorem dd_X4_shift_47 : decode (zc mm_X4_shift) 47 = .ok (.iadd, 1) := by decide +kernel
theorem dd_X4_shift_48 : decode (zc mm_X4_shift) 48 = .ok (.aload_n 0, 1) := by decide +kernel
theorem dd_X4_shift_49 : decode (zc mm_X4_shift) 49 = .ok (.getfield 15, 3) := by decide +kernel
theorem dd_X4_shift_52 : decode (zc mm_X4_shift) 52 = .ok (.iconst 5, 1) := by decide +kernel
theorem dd_X4_shift_53 : decode (zc mm_X4_shift) 53 = .ok (.iload_n 3, 1) := by decide +kernel
theorem dd_X4_shift_54 : decode (zc mm_X4_shift) 54 = .ok (.imul, 1) := by decide +kernel
theorem dd_X4_shift_55 : decode (zc mm_X4_shift) 55 = .ok (.iload 4, 2) := by decide +kernel
theorem dd_X4_shift_57 : decode (zc mm_X4_shift) 57 = .ok (.iadd, 1) := by decide +kernel
theorem dd_X4_shift_58 : decode (zc mm_X4_shift) 58 = .ok (.iaload, 1) := by decide +kernel
theorem dd_X4_shift_59 : decode (zc mm_X4_shift) 59 = .ok (.aload_n 0, 1) := by decide +kernel
theorem dd_X4_shift_60 : decode (zc mm_X4_shift) 60 = .ok (.getfield 22, 3) := by decide +kernel
theorem dd_X4_shift_63 : decode (zc mm_X4_shift) 63 = .ok (.iload 5, 2) := by decide +kernel
theorem dd_X4_shift_65 : decode (zc mm_X4_shift) 65 = .ok (.imul, 1) := by decide +kernel
theorem dd_X4_shift_66 : decode (zc mm_X4_shift) 66 = .ok (.iadd, 1) := by decide +kernel
theorem dd_X4_shift_67 : decode (zc mm_X4_shift) 67 = .ok (.iload_n 1, 1) := by decide +kernel
theorem dd_X4_shift_68 : decode (zc mm_X4_shift) 68 = .ok (.irem, 1) := by decide +kernel
theorem dd_X4_shift_69 : decode (zc mm_X4_shift) 69 = .ok (.iastore, 1) := by decide +kernel
theorem dd_X4_shift_70 : decode (zc mm_X4_shift) 70 = .ok (.iinc 4 1, 3) := by decide +kernel
theorem dd_X4_shift_73 : decode (zc mm_X4_shift) 73 = .ok (.goto (-56), 3) := by decide +kernel
theorem dd_X4_shift_76 : decode (zc mm_X4_shift) 76 = .ok (.iinc 3 (-1), 3) := by decide +kernel
theorem dd_X4_shift_79 : decode (zc mm_X4_shift) 79 = .ok (.goto (-70), 3) := by decide +kernel
theorem dd_X4_shift_82 : decode (zc mm_X4_shift) 82 = .ok (.iinc 2 1, 3) := by decide +kernel
theorem dd_X4_shift_85 : decode (zc mm_X4_shift) 85 = .ok (.goto (-83), 3) := by decide +kernel
theorem dd_X4_shift_88 : decode (zc mm_X4_shift) 88 = .ok (.return_, 1) := by decide +kernel
theorem dd_X4_hasTerm_0 : decode (zc mm_X4_hasTerm) 0 = .ok (.aload_n 0, 1) := by decide +kernel
theorem dd_X4_hasTerm_1 : decode (zc mm_X4_hasTerm) 1 = .ok (.getfield 15, 3) := by decide +kernel
theorem dd_X4_hasTerm_4 : decode (zc mm_X4_hasTerm) 4 = .ok (.iconst 5, 1) := by decide +kernel
theorem dd_X4_hasTerm_5 : decode (zc mm_X4_hasTerm) 5 = .ok (.iload_n 1, 1) := by decide +kernel
theorem dd_X4_hasTerm_6 : decode (zc mm_X4_hasTerm) 6 = .ok (.imul, 1) := by decide +kernel
theorem dd_X4_hasTerm_7 : decode (zc mm_X4_hasTerm) 7 = .ok (.iload_n 2, 1) := by decide +kernel
theorem dd_X4_hasTerm_8 : decode (zc mm_X4_hasTerm) 8 = .ok (.iadd, 1) := by decide +kernel
theorem dd_X4_hasTerm_9 : decode (zc mm_X4_hasTerm) 9 = .ok (.iaload, 1) := by decide +kernel
theorem dd_X4_hasTerm_10 : decode (zc mm_X4_hasTerm) 10 = .ok (.ifCond .eq 7, 3) := by decide +kernel
theorem dd_X4_hasTerm_13 : decode (zc mm_X4_hasTerm) 13 = .ok (.iconst 1, 1) := by decide +kernel
theorem dd_X4_hasTerm_14 : decode (zc mm_X4_hasTerm) 14 = .ok (.goto 4, 3) := by decide +kernel
theorem dd_X4_hasTerm_17 : decode (zc mm_X4_hasTerm) 17 = .ok (.iconst 0, 1) := by decide +kernel
theorem dd_X4_hasTerm_18 : decode (zc mm_X4_hasTerm) 18 = .ok (.ireturn, 1) := by decide +kernel
theorem dd_X4_isNought_0 : decode (zc mm_X4_isNought) 0 = .ok (.aload_n 0, 1) := by decide +kernel
theorem dd_X4_isNought_1 : decode (zc mm_X4_isNought) 1 = .ok (.invokevirtual 62, 3) := by decide +kernel
theorem dd_X4_isNought_4 : decode (zc mm_X4_isNought) 4 = .ok (.ifCond .ne 7, 3) := by decide +kernel
theorem dd_X4_isNought_7 : decode (zc mm_X4_isNought) 7 = .ok (.iconst 1, 1) := by decide +kernel
theorem dd_X4_isNought_8 : decode (zc mm_X4_isNought) 8 = .ok (.goto 4, 3) := by decide +kernel
theorem dd_X4_isNought_11 : decode (zc mm_X4_isNought) 11 = .ok (.iconst 0, 1) := by decide +kernel
theorem dd_X4_isNought_12 : decode (zc mm_X4_isNought) 12 = .ok (.ireturn, 1) := by decide +kernel
theorem dd_X4_howManyTerms_0 : decode (zc mm_X4_howManyTerms) 0 = .ok (.iconst 0, 1) := by decide +kernel
theorem dd_X4_howManyTerms_1 : decode (zc mm_X4_howManyTerms) 1 = .ok (.istore_n 1, 1) := by decide +kernel
theorem dd_X4_howManyTerms_2 : decode (zc mm_X4_howManyTerms) 2 = .ok (.aload_n 0, 1) := by decide +kernel
theorem dd_X4_howManyTerms_3 : decode (zc mm_X4_howManyTerms) 3 = .ok (.getfield 15, 3) := by decide +kernel
theorem dd_X4_howManyTerms_6 : decode (zc mm_X4_howManyTerms) 6 = .ok (.astore_n 2, 1) := by decide +kernel
theorem dd_X4_howManyTerms_7 : decode (zc mm_X4_howManyTerms) 7 = .ok (.aload_n 2, 1) := by decide +kernel
theorem dd_X4_howManyTerms_8 : decode (zc mm_X4_howManyTerms) 8 = .ok (.arraylength, 1) := by decide +kernel
theorem dd_X4_howManyTerms_9 : decode (zc mm_X4_howManyTerms) 9 = .ok (.istore_n 3, 1) := by decide +kernel
theorem dd_X4_howManyTerms_10 : decode (zc mm_X4_howManyTerms) 10 = .ok (.iconst 0, 1) := by decide +kernel
theorem dd_X4_howManyTerms_11 : decode (zc mm_X4_howManyTerms) 11 = .ok (.istore 4, 2) := by decide +kernel
theorem dd_X4_howManyTerms_13 : decode (zc mm_X4_howManyTerms) 13 = .ok (.iload 4, 2) := by decide +kernel
theorem dd_X4_howManyTerms_15 : decode (zc mm_X4_howManyTerms) 15 = .ok (.iload_n 3, 1) := by decide +kernel
theorem dd_X4_howManyTerms_16 : decode (zc mm_X4_howManyTerms) 16 = .ok (.if_icmp .ge 23, 3) := by decide +kernel
theorem dd_X4_howManyTerms_19 : decode (zc mm_X4_howManyTerms) 19 = .ok (.aload_n 2, 1) := by decide +kernel
theorem dd_X4_howManyTerms_20 : decode (zc mm_X4_howManyTerms) 20 = .ok (.iload 4, 2) := by decide +kernel
theorem dd_X4_howManyTerms_22 : decode (zc mm_X4_howManyTerms) 22 = .ok (.iaload, 1) := by decide +kernel
theorem dd_X4_howManyTerms_23 : decode (zc mm_X4_howManyTerms) 23 = .ok (.istore 5, 2) := by decide +kernel
theorem dd_X4_howManyTerms_25 : decode (zc mm_X4_howManyTerms) 25 = .ok (.iload 5, 2) := by decide +kernel
theorem dd_X4_howManyTerms_27 : decode (zc mm_X4_howManyTerms) 27 = .ok (.ifCond .eq 6, 3) := by decide +kernel
theorem dd_X4_howManyTerms_30 : decode (zc mm_X4_howManyTerms) 30 = .ok (.iinc 1 1, 3) := by decide +kernel
theorem dd_X4_howManyTerms_33 : decode (zc mm_X4_howManyTerms) 33 = .ok (.iinc 4 1, 3) := by decide +kernel
theorem dd_X4_howManyTerms_36 : decode (zc mm_X4_howManyTerms) 36 = .ok (.goto (-23), 3) := by decide +kernel
theorem dd_X4_howManyTerms_39 : decode (zc mm_X4_howManyTerms) 39 = .ok (.iload_n 1, 1) := by decide +kernel
theorem dd_X4_howManyTerms_40 : decode (zc mm_X4_howManyTerms) 40 = .ok (.ireturn, 1) := by decide +kernel
theorem dd_X4_degreeIn_0 : decode (zc mm_X4_degreeIn) 0 = .ok (.bipush (-9), 2) := by decide +kernel
theorem dd_X4_degreeIn_2 : decode (zc mm_X4_degreeIn) 2 = .ok (.istore_n 2, 1) := by decide +kernel
theorem dd_X4_degreeIn_3 : decode (zc mm_X4_degreeIn) 3 = .ok (.iconst 0, 1) := by decide +kernel
theorem dd_X4_degreeIn_4 : decode (zc mm_X4_degreeIn) 4 = .ok (.istore_n 3, 1) := by decide +kernel
theorem dd_X4_degreeIn_5 : decode (zc mm_X4_degreeIn) 5 = .ok (.iload_n 3, 1) := by decide +kernel
theorem dd_X4_degreeIn_6 : decode (zc mm_X4_degreeIn) 6 = .ok (.iconst 5, 1) := by decide +kernel
theorem dd_X4_degreeIn_7 : decode (zc mm_X4_degreeIn) 7 = .ok (.if_icmp .ge 49, 3) := by decide +kernel
theorem dd_X4_degreeIn_10 : decode (zc mm_X4_degreeIn) 10 = .ok (.iconst 0, 1) := by decide +kernel
theorem dd_X4_degreeIn_11 : decode (zc mm_X4_degreeIn) 11 = .ok (.istore 4, 2) := by decide +kernel
theorem dd_X4_degreeIn_13 : decode (zc mm_X4_degreeIn) 13 = .ok (.iload 4, 2) := by decide +kernel
theorem dd_X4_degreeIn_15 : decode (zc mm_X4_degreeIn) 15 = .ok (.iconst 5, 1) := by decide +kernel
theorem dd_X4_degreeIn_16 : decode (zc mm_X4_degreeIn) 16 = .ok (.if_icmp .ge 34, 3) := by decide +kernel
theorem dd_X4_degreeIn_19 : decode (zc mm_X4_degreeIn) 19 = .ok (.aload_n 0, 1) := by decide +kernel
theorem dd_X4_degreeIn_20 : decode (zc mm_X4_degreeIn) 20 = .ok (.iload_n 3, 1) := by decide +kernel
theorem dd_X4_degreeIn_21 : decode (zc mm_X4_degreeIn) 21 = .ok (.iload 4, 2) := by decide +kernel
theorem dd_X4_degreeIn_23 : decode (zc mm_X4_degreeIn) 23 = .ok (.invokevirtual 66, 3) := by decide +kernel
theorem dd_X4_degreeIn_26 : decode (zc mm_X4_degreeIn) 26 = .ok (.ifCond .eq 18, 3) := by decide +kernel
theorem dd_X4_degreeIn_29 : decode (zc mm_X4_degreeIn) 29 = .ok (.iload_n 2, 1) := by decide +kernel
theorem dd_X4_degreeIn_30 : decode (zc mm_X4_degreeIn) 30 = .ok (.iload_n 1, 1) := by decide +kernel
theorem dd_X4_degreeIn_31 : decode (zc mm_X4_degreeIn) 31 = .ok (.ifCond .ne 7, 3) := by decide +kernel
theorem dd_X4_degreeIn_34 : decode (zc mm_X4_degreeIn) 34 = .ok (.iload_n 3, 1) := by decide +kernel
theorem dd_X4_degreeIn_35 : decode (zc mm_X4_degreeIn) 35 = .ok (.goto 5, 3) := by decide +kernel
theorem dd_X4_degreeIn_38 : decode (zc mm_X4_degreeIn) 38 = .ok (.iload 4, 2) := by decide +kernel
theorem dd_X4_degreeIn_40 : decode (zc mm_X4_degreeIn) 40 = .ok (.invokestatic 70, 3) := by decide +kernel
theorem dd_X4_degreeIn_43 : decode (zc mm_X4_degreeIn) 43 = .ok (.istore_n 2, 1) := by decide +kernel
theorem dd_X4_degreeIn_44 : decode (zc mm_X4_degreeIn) 44 = .ok (.iinc 4 1, 3) := by decide +kernel
theorem dd_X4_degreeIn_47 : decode (zc mm_X4_degreeIn) 47 = .ok (.goto (-34), 3) := by decide +kernel
theorem dd_X4_degreeIn_50 : decode (zc mm_X4_degreeIn) 50 = .ok (.iinc 3 1, 3) := by decide +kernel
theorem dd_X4_degreeIn_53 : decode (zc mm_X4_degreeIn) 53 = .ok (.goto (-48), 3) := by decide +kernel
theorem dd_X4_degreeIn_56 : decode (zc mm_X4_degreeIn) 56 = .ok (.iload_n 2, 1) := by decide +kernel
theorem dd_X4_degreeIn_57 : decode (zc mm_X4_degreeIn) 57 = .ok (.ireturn, 1) := by decide +kernel
theorem dd_X4_wholeDegree_0 : decode (zc mm_X4_wholeDegree) 0 = .ok (.bipush (-9), 2) := by decide +kernel
theorem dd_X4_wholeDegree_2 : decode (zc mm_X4_wholeDegree) 2 = .ok (.istore_n 1, 1) := by decide +kernel
theorem dd_X4_wholeDegree_3 : decode (zc mm_X4_wholeDegree) 3 = .ok (.iconst 0, 1) := by decide +kernel
theorem dd_X4_wholeDegree_4 : decode (zc mm_X4_wholeDegree) 4 = .ok (.istore_n 2, 1) := by decide +kernel
theorem dd_X4_wholeDegree_5 : decode (zc mm_X4_wholeDegree) 5 = .ok (.iload_n 2, 1) := by decide +kernel
theorem dd_X4_wholeDegree_6 : decode (zc mm_X4_wholeDegree) 6 = .ok (.iconst 5, 1) := by decide +kernel
theorem dd_X4_wholeDegree_7 : decode (zc mm_X4_wholeDegree) 7 = .ok (.if_icmp .ge 39, 3) := by decide +kernel
theorem dd_X4_wholeDegree_10 : decode (zc mm_X4_wholeDegree) 10 = .ok (.iconst 0, 1) := by decide +kernel
theorem dd_X4_wholeDegree_11 : decode (zc mm_X4_wholeDegree) 11 = .ok (.istore_n 3, 1) := by decide +kernel
theorem dd_X4_wholeDegree_12 : decode (zc mm_X4_wholeDegree) 12 = .ok (.iload_n 3, 1) := by decide +kernel
theorem dd_X4_wholeDegree_13 : decode (zc mm_X4_wholeDegree) 13 = .ok (.iconst 5, 1) := by decide +kernel
theorem dd_X4_wholeDegree_14 : decode (zc mm_X4_wholeDegree) 14 = .ok (.if_icmp .ge 26, 3) := by decide +kernel
theorem dd_X4_wholeDegree_17 : decode (zc mm_X4_wholeDegree) 17 = .ok (.aload_n 0, 1) := by decide +kernel
theorem dd_X4_wholeDegree_18 : decode (zc mm_X4_wholeDegree) 18 = .ok (.iload_n 2, 1) := by decide +kernel
theorem dd_X4_wholeDegree_19 : decode (zc mm_X4_wholeDegree) 19 = .ok (.iload_n 3, 1) := by decide +kernel
theorem dd_X4_wholeDegree_20 : decode (zc mm_X4_wholeDegree) 20 = .ok (.invokevirtual 66, 3) := by decide +kernel
theorem dd_X4_wholeDegree_23 : decode (zc mm_X4_wholeDegree) 23 = .ok (.ifCond .eq 11, 3) := by decide +kernel
theorem dd_X4_wholeDegree_26 : decode (zc mm_X4_wholeDegree) 26 = .ok (.iload_n 1, 1) := by decide +kernel
theorem dd_X4_wholeDegree_27 : decode (zc mm_X4_wholeDegree) 27 = .ok (.iload_n 2, 1) := by decide +kernel
theorem dd_X4_wholeDegree_28 : decode (zc mm_X4_wholeDegree) 28 = .ok (.iload_n 3, 1) := by decide +kernel
theorem dd_X4_wholeDegree_29 : decode (zc mm_X4_wholeDegree) 29 = .ok (.iadd, 1) := by decide +kernel
theorem dd_X4_wholeDegree_30 : decode (zc mm_X4_wholeDegree) 30 = .ok (.invokestatic 70, 3) := by decide +kernel
theorem dd_X4_wholeDegree_33 : decode (zc mm_X4_wholeDegree) 33 = .ok (.istore_n 1, 1) := by decide +kernel
theorem dd_X4_wholeDegree_34 : decode (zc mm_X4_wholeDegree) 34 = .ok (.iinc 3 1, 3) := by decide +kernel
theorem dd_X4_wholeDegree_37 : decode (zc mm_X4_wholeDegree) 37 = .ok (.goto (-25), 3) := by decide +kernel
theorem dd_X4_wholeDegree_40 : decode (zc mm_X4_wholeDegree) 40 = .ok (.iinc 2 1, 3) := by decide +kernel
theorem dd_X4_wholeDegree_43 : decode (zc mm_X4_wholeDegree) 43 = .ok (.goto (-38), 3) := by decide +kernel
theorem dd_X4_wholeDegree_46 : decode (zc mm_X4_wholeDegree) 46 = .ok (.iload_n 1, 1) := by decide +kernel
theorem dd_X4_wholeDegree_47 : decode (zc mm_X4_wholeDegree) 47 = .ok (.ireturn, 1) := by decide +kernel
theorem dd_X4_termByLetter_0 : decode (zc mm_X4_termByLetter) 0 = .ok (.iconst 0, 1) := by decide +kernel
theorem dd_X4_termByLetter_1 : decode (zc mm_X4_termByLetter) 1 = .ok (.istore_n 2, 1) := by decide +kernel
theorem dd_X4_termByLetter_2 : decode (zc mm_X4_termByLetter) 2 = .ok (.iconst 4, 1) := by decide +kernel
theorem dd_X4_termByLetter_3 : decode (zc mm_X4_termByLetter) 3 = .ok (.istore_n 3, 1) := by decide +kernel
theorem dd_X4_termByLetter_4 : decode (zc mm_X4_termByLetter) 4 = .ok (.iload_n 3, 1) := by decide +kernel
theorem dd_X4_termByLetter_5 : decode (zc mm_X4_termByLetter) 5 = .ok (.ifCond .lt 52, 3) := by decide +kernel
theorem dd_X4_termByLetter_8 : decode (zc mm_X4_termByLetter) 8 = .ok (.iconst 4, 1) := by decide +kernel
theorem dd_X4_termByLetter_9 : decode (zc mm_X4_termByLetter) 9 = .ok (.istore 4, 2) := by decide +kernel
theorem dd_X4_termByLetter_11 : decode (zc mm_X4_termByLetter) 11 = .ok (.iload 4, 2) := by decide +kernel
theorem dd_X4_termByLetter_13 : decode (zc mm_X4_termByLetter) 13 = .ok (.ifCond .lt 38, 3) := by decide +kernel
theorem dd_X4_termByLetter_16 : decode (zc mm_X4_termByLetter) 16 = .ok (.aload_n 0, 1) := by decide +kernel
theorem dd_X4_termByLetter_17 : decode (zc mm_X4_termByLetter) 17 = .ok (.iload_n 3, 1) := by decide +kernel
theorem dd_X4_termByLetter_18 : decode (zc mm_X4_termByLetter) 18 = .ok (.iload 4, 2) := by decide +kernel
theorem dd_X4_termByLetter_20 : decode (zc mm_X4_termByLetter) 20 = .ok (.invokevirtual 66, 3) := by decide +kernel
theorem dd_X4_termByLetter_23 : decode (zc mm_X4_termByLetter) 23 = .ok (.ifCond .ne 6, 3) := by decide +kernel
theorem dd_X4_termByLetter_26 : decode (zc mm_X4_termByLetter) 26 = .ok (.goto 19, 3) := by decide +kernel
theorem dd_X4_termByLetter_29 : decode (zc mm_X4_termByLetter) 29 = .ok (.iload_n 2, 1) := by decide +kernel
theorem dd_X4_termByLetter_30 : decode (zc mm_X4_termByLetter) 30 = .ok (.iload_n 1, 1) := by decide +kernel
theorem dd_X4_termByLetter_31 : decode (zc mm_X4_termByLetter) 31 = .ok (.if_icmp .ne 11, 3) := by decide +kernel
theorem dd_X4_termByLetter_34 : decode (zc mm_X4_termByLetter) 34 = .ok (.bipush 10, 2) := by decide +kernel
theorem dd_X4_termByLetter_36 : decode (zc mm_X4_termByLetter) 36 = .ok (.iload_n 3, 1) := by decide +kernel
theorem dd_X4_termByLetter_37 : decode (zc mm_X4_termByLetter) 37 = .ok (.imul, 1) := by decide +kernel
theorem dd_X4_termByLetter_38 : decode (zc mm_X4_termByLetter) 38 = .ok (.iload 4, 2) := by decide +kernel
theorem dd_X4_termByLetter_40 : decode (zc mm_X4_termByLetter) 40 = .ok (.iadd, 1) := by decide +kernel
theorem dd_X4_termByLetter_41 : decode (zc mm_X4_termByLetter) 41 = .ok (.ireturn, 1) := by decide +kernel
theorem dd_X4_termByLetter_42 : decode (zc mm_X4_termByLetter) 42 = .ok (.iinc 2 1, 3) := by decide +kernel
theorem dd_X4_termByLetter_45 : decode (zc mm_X4_termByLetter) 45 = .ok (.iinc 4 (-1), 3) := by decide +kernel
theorem dd_X4_termByLetter_48 : decode (zc mm_X4_termByLetter) 48 = .ok (.goto (-37), 3) := by decide +kernel
theorem dd_X4_termByLetter_51 : decode (zc mm_X4_termByLetter) 51 = .ok (.iinc 3 (-1), 3) := by decide +kernel
theorem dd_X4_termByLetter_54 : decode (zc mm_X4_termByLetter) 54 = .ok (.goto (-50), 3) := by decide +kernel
theorem dd_X4_termByLetter_57 : decode (zc mm_X4_termByLetter) 57 = .ok (.bipush (-9), 2) := by decide +kernel
theorem dd_X4_termByLetter_59 : decode (zc mm_X4_termByLetter) 59 = .ok (.ireturn, 1) := by decide +kernel
theorem dd_X4_termByWhole_0 : decode (zc mm_X4_termByWhole) 0 = .ok (.iconst 0, 1) := by decide +kernel
theorem dd_X4_termByWhole_1 : decode (zc mm_X4_termByWhole) 1 = .ok (.istore_n 2, 1) := by decide +kernel
theorem dd_X4_termByWhole_2 : decode (zc mm_X4_termByWhole) 2 = .ok (.bipush 8, 2) := by decide +kernel
theorem dd_X4_termByWhole_4 : decode (zc mm_X4_termByWhole) 4 = .ok (.istore_n 3, 1) := by decide +kernel
theorem dd_X4_termByWhole_5 : decode (zc mm_X4_termByWhole) 5 = .ok (.iload_n 3, 1) := by decide +kernel
theorem dd_X4_termByWhole_6 : decode (zc mm_X4_termByWhole) 6 = .ok (.ifCond .lt 70, 3) := by decide +kernel
theorem dd_X4_termByWhole_9 : decode (zc mm_X4_termByWhole) 9 = .ok (.iconst 4, 1) := by decide +kernel
theorem dd_X4_termByWhole_10 : decode (zc mm_X4_termByWhole) 10 = .ok (.iload_n 3, 1) := by decide +kernel
theorem dd_X4_termByWhole_11 : decode (zc mm_X4_termByWhole) 11 = .ok (.invokestatic 73, 3) := by decide +kernel
theorem dd_X4_termByWhole_14 : decode (zc mm_X4_termByWhole) 14 = .ok (.istore 4, 2) := by decide +kernel
theorem dd_X4_termByWhole_16 : decode (zc mm_X4_termByWhole) 16 = .ok (.iload 4, 2) := by decide +kernel
theorem dd_X4_termByWhole_18 : decode (zc mm_X4_termByWhole) 18 = .ok (.ifCond .lt 52, 3) := by decide +kernel
theorem dd_X4_termByWhole_21 : decode (zc mm_X4_termByWhole) 21 = .ok (.iload_n 3, 1) := by decide +kernel
theorem dd_X4_termByWhole_22 : decode (zc mm_X4_termByWhole) 22 = .ok (.iload 4, 2) := by decide +kernel
theorem dd_X4_termByWhole_24 : decode (zc mm_X4_termByWhole) 24 = .ok (.isub, 1) := by decide +kernel
theorem dd_X4_termByWhole_25 : decode (zc mm_X4_termByWhole) 25 = .ok (.iconst 4, 1) := by decide +kernel
theorem dd_X4_termByWhole_26 : decode (zc mm_X4_termByWhole) 26 = .ok (.if_icmp .gt 44, 3) := by decide +kernel
theorem dd_X4_termByWhole_29 : decode (zc mm_X4_termByWhole) 29 = .ok (.aload_n 0, 1) := by decide +kernel
theorem dd_X4_termByWhole_30 : decode (zc mm_X4_termByWhole) 30 = .ok (.iload 4, 2) := by decide +kernel
theorem dd_X4_termByWhole_32 : decode (zc mm_X4_termByWhole) 32 = .ok (.iload_n 3, 1) := by decide +kernel
theorem dd_X4_termByWhole_33 : decode (zc mm_X4_termByWhole) 33 = .ok (.iload 4, 2) := by decide +kernel
theorem dd_X4_termByWhole_35 : decode (zc mm_X4_termByWhole) 35 = .ok (.isub, 1) := by decide +kernel
theorem dd_X4_termByWhole_36 : decode (zc mm_X4_termByWhole) 36 = .ok (.invokevirtual 66, 3) := by decide +kernel
theorem dd_X4_termByWhole_39 : decode (zc mm_X4_termByWhole) 39 = .ok (.ifCond .ne 6, 3) := by decide +kernel
theorem dd_X4_termByWhole_42 : decode (zc mm_X4_termByWhole) 42 = .ok (.goto 22, 3) := by decide +kernel
theorem dd_X4_termByWhole_45 : decode (zc mm_X4_termByWhole) 45 = .ok (.iload_n 2, 1) := by decide +kernel
theorem dd_X4_termByWhole_46 : decode (zc mm_X4_termByWhole) 46 = .ok (.iload_n 1, 1) := by decide +kernel
theorem dd_X4_termByWhole_47 : decode (zc mm_X4_termByWhole) 47 = .ok (.if_icmp .ne 14, 3) := by decide +kernel
theorem dd_X4_termByWhole_50 : decode (zc mm_X4_termByWhole) 50 = .ok (.bipush 10, 2) := by decide +kernel
theorem dd_X4_termByWhole_52 : decode (zc mm_X4_termByWhole) 52 = .ok (.iload 4, 2) := by decide +kernel
theorem dd_X4_termByWhole_54 : decode (zc mm_X4_termByWhole) 54 = .ok (.imul, 1) := by decide +kernel
theorem dd_X4_termByWhole_55 : decode (zc mm_X4_termByWhole) 55 = .ok (.iload_n 3, 1) := by decide +kernel
theorem dd_X4_termByWhole_56 : decode (zc mm_X4_termByWhole) 56 = .ok (.iadd, 1) := by decide +kernel
theorem dd_X4_termByWhole_57 : decode (zc mm_X4_termByWhole) 57 = .ok (.iload 4, 2) := by decide +kernel
theorem dd_X4_termByWhole_59 : decode (zc mm_X4_termByWhole) 59 = .ok (.isub, 1) := by decide +kernel
theorem dd_X4_termByWhole_60 : decode (zc mm_X4_termByWhole) 60 = .ok (.ireturn, 1) := by decide +kernel
theorem dd_X4_termByWhole_61 : decode (zc mm_X4_termByWhole) 61 = .ok (.iinc 2 1, 3) := by decide +kernel
theorem dd_X4_termByWhole_64 : decode (zc mm_X4_termByWhole) 64 = .ok (.iinc 4 (-1), 3) := by decide +kernel
theorem dd_X4_termByWhole_67 : decode (zc mm_X4_termByWhole) 67 = .ok (.goto (-51), 3) := by decide +kernel
theorem dd_X4_termByWhole_70 : decode (zc mm_X4_termByWhole) 70 = .ok (.iinc 3 (-1), 3) := by decide +kernel
theorem dd_X4_termByWhole_73 : decode (zc mm_X4_termByWhole) 73 = .ok (.goto (-68), 3) := by decide +kernel
theorem dd_X4_termByWhole_76 : decode (zc mm_X4_termByWhole) 76 = .ok (.bipush (-9), 2) := by decide +kernel
theorem dd_X4_termByWhole_78 : decode (zc mm_X4_termByWhole) 78 = .ok (.ireturn, 1) := by decide +kernel
theorem dd_X4_part_0 : decode (zc mm_X4_part) 0 = .ok (.iload_n 2, 1) := by decide +kernel
theorem dd_X4_part_1 : decode (zc mm_X4_part) 1 = .ok (.ifCond .lt 17, 3) := by decide +kernel
theorem dd_X4_part_4 : decode (zc mm_X4_part) 4 = .ok (.iload_n 2, 1) := by decide +kernel
theorem dd_X4_part_5 : decode (zc mm_X4_part) 5 = .ok (.iconst 4, 1) := by decide +kernel
theorem dd_X4_part_6 : decode (zc mm_X4_part) 6 = .ok (.if_icmp .gt 12, 3) := by decide +kernel
theorem dd_X4_part_9 : decode (zc mm_X4_part) 9 = .ok (.iload_n 3, 1) := by decide +kernel
theorem dd_X4_part_10 : decode (zc mm_X4_part) 10 = .ok (.ifCond .lt 8, 3) := by decide +kernel
theorem dd_X4_part_13 : decode (zc mm_X4_part) 13 = .ok (.iload_n 3, 1) := by decide +kernel
theorem dd_X4_part_14 : decode (zc mm_X4_part) 14 = .ok (.iconst 4, 1) := by decide +kernel
theorem dd_X4_part_15 : decode (zc mm_X4_part) 15 = .ok (.if_icmp .le 5, 3) := by decide +kernel
theorem dd_X4_part_18 : decode (zc mm_X4_part) 18 = .ok (.iconst 0, 1) := by decide +kernel
theorem dd_X4_part_19 : decode (zc mm_X4_part) 19 = .ok (.ireturn, 1) := by decide +kernel
theorem dd_X4_part_20 : decode (zc mm_X4_part) 20 = .ok (.iload_n 1, 1) := by decide +kernel
theorem dd_X4_part_21 : decode (zc mm_X4_part) 21 = .ok (.ifCond .ne 16, 3) := by decide +kernel
theorem dd_X4_part_24 : decode (zc mm_X4_part) 24 = .ok (.aload_n 0, 1) := by decide +kernel
theorem dd_X4_part_25 : decode (zc mm_X4_part) 25 = .ok (.getfield 15, 3) := by decide +kernel
theorem dd_X4_part_28 : decode (zc mm_X4_part) 28 = .ok (.iconst 5, 1) := by decide +kernel
theorem dd_X4_part_29 : decode (zc mm_X4_part) 29 = .ok (.iload_n 2, 1) := by decide +kernel
theorem dd_X4_part_30 : decode (zc mm_X4_part) 30 = .ok (.imul, 1) := by decide +kernel
theorem dd_X4_part_31 : decode (zc mm_X4_part) 31 = .ok (.iload_n 3, 1) := by decide +kernel
theorem dd_X4_part_32 : decode (zc mm_X4_part) 32 = .ok (.iadd, 1) := by decide +kernel
theorem dd_X4_part_33 : decode (zc mm_X4_part) 33 = .ok (.iaload, 1) := by decide +kernel
theorem dd_X4_part_34 : decode (zc mm_X4_part) 34 = .ok (.goto 13, 3) := by decide +kernel
theorem dd_X4_part_37 : decode (zc mm_X4_part) 37 = .ok (.aload_n 0, 1) := by decide +kernel
theorem dd_X4_part_38 : decode (zc mm_X4_part) 38 = .ok (.getfield 15, 3) := by decide +kernel
theorem dd_X4_part_41 : decode (zc mm_X4_part) 41 = .ok (.iconst 5, 1) := by decide +kernel
theorem dd_X4_part_42 : decode (zc mm_X4_part) 42 = .ok (.iload_n 3, 1) := by decide +kernel
theorem dd_X4_part_43 : decode (zc mm_X4_part) 43 = .ok (.imul, 1) := by decide +kernel
theorem dd_X4_part_44 : decode (zc mm_X4_part) 44 = .ok (.iload_n 2, 1) := by decide +kernel
theorem dd_X4_part_45 : decode (zc mm_X4_part) 45 = .ok (.iadd, 1) := by decide +kernel
theorem dd_X4_part_46 : decode (zc mm_X4_part) 46 = .ok (.iaload, 1) := by decide +kernel
theorem dd_X4_part_47 : decode (zc mm_X4_part) 47 = .ok (.ireturn, 1) := by decide +kernel
theorem dd_X4_reduceAt_0 : decode (zc mm_X4_reduceAt) 0 = .ok (.iconst 0, 1) := by decide +kernel
theorem dd_X4_reduceAt_1 : decode (zc mm_X4_reduceAt) 1 = .ok (.istore 5, 2) := by decide +kernel
theorem dd_X4_reduceAt_3 : decode (zc mm_X4_reduceAt) 3 = .ok (.iload 5, 2) := by decide +kernel
theorem dd_X4_reduceAt_5 : decode (zc mm_X4_reduceAt) 5 = .ok (.iconst 5, 1) := by decide +kernel
theorem dd_X4_reduceAt_6 : decode (zc mm_X4_reduceAt) 6 = .ok (.if_icmp .ge 59, 3) := by decide +kernel
theorem dd_X4_reduceAt_9 : decode (zc mm_X4_reduceAt) 9 = .ok (.iload 5, 2) := by decide +kernel
theorem dd_X4_reduceAt_11 : decode (zc mm_X4_reduceAt) 11 = .ok (.aload 4, 2) := by decide +kernel
theorem dd_X4_reduceAt_13 : decode (zc mm_X4_reduceAt) 13 = .ok (.arraylength, 1) := by decide +kernel
theorem dd_X4_reduceAt_14 : decode (zc mm_X4_reduceAt) 14 = .ok (.if_icmp .ge 51, 3) := by decide +kernel
theorem dd_X4_reduceAt_17 : decode (zc mm_X4_reduceAt) 17 = .ok (.iconst 0, 1) := by decide +kernel
theorem dd_X4_reduceAt_18 : decode (zc mm_X4_reduceAt) 18 = .ok (.istore 6, 2) := by decide +kernel
theorem dd_X4_reduceAt_20 : decode (zc mm_X4_reduceAt) 20 = .ok (.iconst 4, 1) := by decide +kernel
theorem dd_X4_reduceAt_21 : decode (zc mm_X4_reduceAt) 21 = .ok (.istore 7, 2) := by decide +kernel
theorem dd_X4_reduceAt_23 : decode (zc mm_X4_reduceAt) 23 = .ok (.iload 7, 2) := by decide +kernel
theorem dd_X4_reduceAt_25 : decode (zc mm_X4_reduceAt) 25 = .ok (.ifCond .lt 27, 3) := by decide +kernel
theorem dd_X4_reduceAt_28 : decode (zc mm_X4_reduceAt) 28 = .ok (.iload 6, 2) := by decide +kernel
theorem dd_X4_reduceAt_30 : decode (zc mm_X4_reduceAt) 30 = .ok (.iload_n 2, 1) := by decide +kernel
theorem dd_X4_reduceAt_31 : decode (zc mm_X4_reduceAt) 31 = .ok (.imul, 1) := by decide +kernel
theorem dd_X4_reduceAt_32 : decode (zc mm_X4_reduceAt) 32 = .ok (.aload_n 0, 1) := by decide +kernel
theorem dd_X4_reduceAt_33 : decode (zc mm_X4_reduceAt) 33 = .ok (.iload_n 1, 1) := by decide +kernel
theorem dd_X4_reduceAt_34 : decode (zc mm_X4_reduceAt) 34 = .ok (.iload 5, 2) := by decide +kernel
theorem dd_X4_reduceAt_36 : decode (zc mm_X4_reduceAt) 36 = .ok (.iload 7, 2) := by decide +kernel
theorem dd_X4_reduceAt_38 : decode (zc mm_X4_reduceAt) 38 = .ok (.invokevirtual 76, 3) := by decide +kernel
theorem dd_X4_reduceAt_41 : decode (zc mm_X4_reduceAt) 41 = .ok (.iadd, 1) := by decide +kernel
theorem dd_X4_reduceAt_42 : decode (zc mm_X4_reduceAt) 42 = .ok (.iload_n 3, 1) := by decide +kernel
theorem dd_X4_reduceAt_43 : decode (zc mm_X4_reduceAt) 43 = .ok (.irem, 1) := by decide +kernel
theorem dd_X4_reduceAt_44 : decode (zc mm_X4_reduceAt) 44 = .ok (.istore 6, 2) := by decide +kernel
theorem dd_X4_reduceAt_46 : decode (zc mm_X4_reduceAt) 46 = .ok (.iinc 7 (-1), 3) := by decide +kernel
theorem dd_X4_reduceAt_49 : decode (zc mm_X4_reduceAt) 49 = .ok (.goto (-26), 3) := by decide +kernel
theorem dd_X4_reduceAt_52 : decode (zc mm_X4_reduceAt) 52 = .ok (.aload 4, 2) := by decide +kernel
theorem dd_X4_reduceAt_54 : decode (zc mm_X4_reduceAt) 54 = .ok (.iload 5, 2) := by decide +kernel
theorem dd_X4_reduceAt_56 : decode (zc mm_X4_reduceAt) 56 = .ok (.iload 6, 2) := by decide +kernel
theorem dd_X4_reduceAt_58 : decode (zc mm_X4_reduceAt) 58 = .ok (.iastore, 1) := by decide +kernel
theorem dd_X4_reduceAt_59 : decode (zc mm_X4_reduceAt) 59 = .ok (.iinc 5 1, 3) := by decide +kernel
theorem dd_X4_reduceAt_62 : decode (zc mm_X4_reduceAt) 62 = .ok (.goto (-59), 3) := by decide +kernel
theorem dd_X4_reduceAt_65 : decode (zc mm_X4_reduceAt) 65 = .ok (.return_, 1) := by decide +kernel
theorem dd_X4_leadingPart_0 : decode (zc mm_X4_leadingPart) 0 = .ok (.aload_n 0, 1) := by decide +kernel
theorem dd_X4_leadingPart_1 : decode (zc mm_X4_leadingPart) 1 = .ok (.iload_n 1, 1) := by decide +kernel
theorem dd_X4_leadingPart_2 : decode (zc mm_X4_leadingPart) 2 = .ok (.invokevirtual 79, 3) := by decide +kernel
theorem dd_X4_leadingPart_5 : decode (zc mm_X4_leadingPart) 5 = .ok (.istore_n 3, 1) := by decide +kernel
theorem dd_X4_leadingPart_6 : decode (zc mm_X4_leadingPart) 6 = .ok (.iconst 0, 1) := by decide +kernel
theorem dd_X4_leadingPart_7 : decode (zc mm_X4_leadingPart) 7 = .ok (.istore 4, 2) := by decide +kernel
theorem dd_X4_leadingPart_9 : decode (zc mm_X4_leadingPart) 9 = .ok (.iload 4, 2) := by decide +kernel
theorem dd_X4_leadingPart_11 : decode (zc mm_X4_leadingPart) 11 = .ok (.iconst 5, 1) := by decide +kernel
theorem dd_X4_leadingPart_12 : decode (zc mm_X4_leadingPart) 12 = .ok (.if_icmp .ge 28, 3) := by decide +kernel
theorem dd_X4_leadingPart_15 : decode (zc mm_X4_leadingPart) 15 = .ok (.iload 4, 2) := by decide +kernel
theorem dd_X4_leadingPart_17 : decode (zc mm_X4_leadingPart) 17 = .ok (.aload_n 2, 1) := by decide +kernel
theorem dd_X4_leadingPart_18 : decode (zc mm_X4_leadingPart) 18 = .ok (.arraylength, 1) := by decide +kernel
theorem dd_X4_leadingPart_19 : decode (zc mm_X4_leadingPart) 19 = .ok (.if_icmp .ge 21, 3) := by decide +kernel
theorem dd_X4_leadingPart_22 : decode (zc mm_X4_leadingPart) 22 = .ok (.aload_n 2, 1) := by decide +kernel
theorem dd_X4_leadingPart_23 : decode (zc mm_X4_leadingPart) 23 = .ok (.iload 4, 2) := by decide +kernel
theorem dd_X4_leadingPart_25 : decode (zc mm_X4_leadingPart) 25 = .ok (.aload_n 0, 1) := by decide +kernel
theorem dd_X4_leadingPart_26 : decode (zc mm_X4_leadingPart) 26 = .ok (.iload_n 1, 1) := by decide +kernel
theorem dd_X4_leadingPart_27 : decode (zc mm_X4_leadingPart) 27 = .ok (.iload_n 3, 1) := by decide +kernel
theorem dd_X4_leadingPart_28 : decode (zc mm_X4_leadingPart) 28 = .ok (.iload 4, 2) := by decide +kernel
theorem dd_X4_leadingPart_30 : decode (zc mm_X4_leadingPart) 30 = .ok (.invokevirtual 76, 3) := by decide +kernel
theorem dd_X4_leadingPart_33 : decode (zc mm_X4_leadingPart) 33 = .ok (.iastore, 1) := by decide +kernel
theorem dd_X4_leadingPart_34 : decode (zc mm_X4_leadingPart) 34 = .ok (.iinc 4 1, 3) := by decide +kernel
theorem dd_X4_leadingPart_37 : decode (zc mm_X4_leadingPart) 37 = .ok (.goto (-28), 3) := by decide +kernel
theorem dd_X4_leadingPart_40 : decode (zc mm_X4_leadingPart) 40 = .ok (.return_, 1) := by decide +kernel
theorem dd_X4_multipliesWith_0 : decode (zc mm_X4_multipliesWith) 0 = .ok (.aload_n 0, 1) := by decide +kernel
theorem dd_X4_multipliesWith_1 : decode (zc mm_X4_multipliesWith) 1 = .ok (.iconst 0, 1) := by decide +kernel
theorem dd_X4_multipliesWith_2 : decode (zc mm_X4_multipliesWith) 2 = .ok (.invokevirtual 79, 3) := by decide +kernel
theorem dd_X4_multipliesWith_5 : decode (zc mm_X4_multipliesWith) 5 = .ok (.aload_n 1, 1) := by decide +kernel
theorem dd_X4_multipliesWith_6 : decode (zc mm_X4_multipliesWith) 6 = .ok (.iconst 0, 1) := by decide +kernel
theorem dd_X4_multipliesWith_7 : decode (zc mm_X4_multipliesWith) 7 = .ok (.invokevirtual 79, 3) := by decide +kernel
theorem dd_X4_multipliesWith_10 : decode (zc mm_X4_multipliesWith) 10 = .ok (.iadd, 1) := by decide +kernel
theorem dd_X4_multipliesWith_11 : decode (zc mm_X4_multipliesWith) 11 = .ok (.iconst 4, 1) := by decide +kernel
theorem dd_X4_multipliesWith_12 : decode (zc mm_X4_multipliesWith) 12 = .ok (.if_icmp .gt 22, 3) := by decide +kernel
theorem dd_X4_multipliesWith_15 : decode (zc mm_X4_multipliesWith) 15 = .ok (.aload_n 0, 1) := by decide +kernel
theorem dd_X4_multipliesWith_16 : decode (zc mm_X4_multipliesWith) 16 = .ok (.iconst 1, 1) := by decide +kernel
theorem dd_X4_multipliesWith_17 : decode (zc mm_X4_multipliesWith) 17 = .ok (.invokevirtual 79, 3) := by decide +kernel
theorem dd_X4_multipliesWith_20 : decode (zc mm_X4_multipliesWith) 20 = .ok (.aload_n 1, 1) := by decide +kernel
theorem dd_X4_multipliesWith_21 : decode (zc mm_X4_multipliesWith) 21 = .ok (.iconst 1, 1) := by decide +kernel
theorem dd_X4_multipliesWith_22 : decode (zc mm_X4_multipliesWith) 22 = .ok (.invokevirtual 79, 3) := by decide +kernel
theorem dd_X4_multipliesWith_25 : decode (zc mm_X4_multipliesWith) 25 = .ok (.iadd, 1) := by decide +kernel
theorem dd_X4_multipliesWith_26 : decode (zc mm_X4_multipliesWith) 26 = .ok (.iconst 4, 1) := by decide +kernel
theorem dd_X4_multipliesWith_27 : decode (zc mm_X4_multipliesWith) 27 = .ok (.if_icmp .gt 7, 3) := by decide +kernel
theorem dd_X4_multipliesWith_30 : decode (zc mm_X4_multipliesWith) 30 = .ok (.iconst 1, 1) := by decide +kernel
theorem dd_X4_multipliesWith_31 : decode (zc mm_X4_multipliesWith) 31 = .ok (.goto 4, 3) := by decide +kernel
theorem dd_X4_multipliesWith_34 : decode (zc mm_X4_multipliesWith) 34 = .ok (.iconst 0, 1) := by decide +kernel
theorem dd_X4_multipliesWith_35 : decode (zc mm_X4_multipliesWith) 35 = .ok (.ireturn, 1) := by decide +kernel
theorem dd_X4_multiply_0 : decode (zc mm_X4_multiply) 0 = .ok (.iconst 0, 1) := by decide +kernel
theorem dd_X4_multiply_1 : decode (zc mm_X4_multiply) 1 = .ok (.istore 4, 2) := by decide +kernel
theorem dd_X4_multiply_3 : decode (zc mm_X4_multiply) 3 = .ok (.iload 4, 2) := by decide +kernel
theorem dd_X4_multiply_5 : decode (zc mm_X4_multiply) 5 = .ok (.iconst 5, 1) := by decide +kernel
theorem dd_X4_multiply_6 : decode (zc mm_X4_multiply) 6 = .ok (.if_icmp .ge 56, 3) := by decide +kernel
theorem dd_X4_multiply_9 : decode (zc mm_X4_multiply) 9 = .ok (.iconst 0, 1) := by decide +kernel
theorem dd_X4_multiply_10 : decode (zc mm_X4_multiply) 10 = .ok (.istore 5, 2) := by decide +kernel
theorem dd_X4_multiply_12 : decode (zc mm_X4_multiply) 12 = .ok (.iload 5, 2) := by decide +kernel
theorem dd_X4_multiply_14 : decode (zc mm_X4_multiply) 14 = .ok (.iconst 5, 1) := by decide +kernel
theorem dd_X4_multiply_15 : decode (zc mm_X4_multiply) 15 = .ok (.if_icmp .ge 41, 3) := by decide +kernel
theorem dd_X4_multiply_18 : decode (zc mm_X4_multiply) 18 = .ok (.aload_n 1, 1) := by decide +kernel
theorem dd_X4_multiply_19 : decode (zc mm_X4_multiply) 19 = .ok (.iload 4, 2) := by decide +kernel
theorem dd_X4_multiply_21 : decode (zc mm_X4_multiply) 21 = .ok (.iload 5, 2) := by decide +kernel
theorem dd_X4_multiply_23 : decode (zc mm_X4_multiply) 23 = .ok (.invokevirtual 66, 3) := by decide +kernel
theorem dd_X4_multiply_26 : decode (zc mm_X4_multiply) 26 = .ok (.ifCond .eq 24, 3) := by decide +kernel
theorem dd_X4_multiply_29 : decode (zc mm_X4_multiply) 29 = .ok (.aload_n 0, 1) := by decide +kernel
theorem dd_X4_multiply_30 : decode (zc mm_X4_multiply) 30 = .ok (.aload_n 2, 1) := by decide +kernel
theorem dd_X4_multiply_31 : decode (zc mm_X4_multiply) 31 = .ok (.iload 4, 2) := by decide +kernel
theorem dd_X4_multiply_33 : decode (zc mm_X4_multiply) 33 = .ok (.iload 5, 2) := by decide +kernel
theorem dd_X4_multiply_35 : decode (zc mm_X4_multiply) 35 = .ok (.aload_n 1, 1) := by decide +kernel
theorem dd_X4_multiply_36 : decode (zc mm_X4_multiply) 36 = .ok (.getfield 15, 3) := by decide +kernel
theorem dd_X4_multiply_39 : decode (zc mm_X4_multiply) 39 = .ok (.iconst 5, 1) := by decide +kernel
theorem dd_X4_multiply_40 : decode (zc mm_X4_multiply) 40 = .ok (.iload 4, 2) := by decide +kernel
theorem dd_X4_multiply_42 : decode (zc mm_X4_multiply) 42 = .ok (.imul, 1) := by decide +kernel
theorem dd_X4_multiply_43 : decode (zc mm_X4_multiply) 43 = .ok (.iload 5, 2) := by decide +kernel
theorem dd_X4_multiply_45 : decode (zc mm_X4_multiply) 45 = .ok (.iadd, 1) := by decide +kernel
theorem dd_X4_multiply_46 : decode (zc mm_X4_multiply) 46 = .ok (.iaload, 1) := by decide +kernel
theorem dd_X4_multiply_47 : decode (zc mm_X4_multiply) 47 = .ok (.invokevirtual 83, 3) := by decide +kernel
theorem dd_X4_multiply_50 : decode (zc mm_X4_multiply) 50 = .ok (.iinc 5 1, 3) := by decide +kernel
theorem dd_X4_multiply_53 : decode (zc mm_X4_multiply) 53 = .ok (.goto (-41), 3) := by decide +kernel
theorem dd_X4_multiply_56 : decode (zc mm_X4_multiply) 56 = .ok (.iinc 4 1, 3) := by decide +kernel
theorem dd_X4_multiply_59 : decode (zc mm_X4_multiply) 59 = .ok (.goto (-56), 3) := by decide +kernel
theorem dd_X4_multiply_62 : decode (zc mm_X4_multiply) 62 = .ok (.aload_n 0, 1) := by decide +kernel
theorem dd_X4_multiply_63 : decode (zc mm_X4_multiply) 63 = .ok (.iload_n 3, 1) := by decide +kernel
theorem dd_X4_multiply_64 : decode (zc mm_X4_multiply) 64 = .ok (.invokevirtual 87, 3) := by decide +kernel
theorem dd_X4_multiply_67 : decode (zc mm_X4_multiply) 67 = .ok (.return_, 1) := by decide +kernel
theorem dd_X4_addMultiple_0 : decode (zc mm_X4_addMultiple) 0 = .ok (.iconst 0, 1) := by decide +kernel
theorem dd_X4_addMultiple_1 : decode (zc mm_X4_addMultiple) 1 = .ok (.istore 5, 2) := by decide +kernel
theorem dd_X4_addMultiple_3 : decode (zc mm_X4_addMultiple) 3 = .ok (.iload 5, 2) := by decide +kernel
theorem dd_X4_addMultiple_5 : decode (zc mm_X4_addMultiple) 5 = .ok (.iload_n 2, 1) := by decide +kernel
theorem dd_X4_addMultiple_6 : decode (zc mm_X4_addMultiple) 6 = .ok (.iadd, 1) := by decide +kernel
theorem dd_X4_addMultiple_7 : decode (zc mm_X4_addMultiple) 7 = .ok (.iconst 5, 1) := by decide +kernel
theorem dd_X4_addMultiple_8 : decode (zc mm_X4_addMultiple) 8 = .ok (.if_icmp .ge 60, 3) := by decide +kernel
theorem dd_X4_addMultiple_11 : decode (zc mm_X4_addMultiple) 11 = .ok (.iconst 0, 1) := by decide +kernel
theorem dd_X4_addMultiple_12 : decode (zc mm_X4_addMultiple) 12 = .ok (.istore 6, 2) := by decide +kernel
theorem dd_X4_addMultiple_14 : decode (zc mm_X4_addMultiple) 14 = .ok (.iload 6, 2) := by decide +kernel
theorem dd_X4_addMultiple_16 : decode (zc mm_X4_addMultiple) 16 = .ok (.iload_n 3, 1) := by decide +kernel
theorem dd_X4_addMultiple_17 : decode (zc mm_X4_addMultiple) 17 = .ok (.iadd, 1) := by decide +kernel
theorem dd_X4_addMultiple_18 : decode (zc mm_X4_addMultiple) 18 = .ok (.iconst 5, 1) := by decide +kernel
theorem dd_X4_addMultiple_19 : decode (zc mm_X4_addMultiple) 19 = .ok (.if_icmp .ge 43, 3) := by decide +kernel
theorem dd_X4_addMultiple_22 : decode (zc mm_X4_addMultiple) 22 = .ok (.aload_n 0, 1) := by decide +kernel
theorem dd_X4_addMultiple_23 : decode (zc mm_X4_addMultiple) 23 = .ok (.getfield 9, 3) := by decide +kernel
theorem dd_X4_addMultiple_26 : decode (zc mm_X4_addMultiple) 26 = .ok (.iconst 5, 1) := by decide +kernel
theorem dd_X4_addMultiple_27 : decode (zc mm_X4_addMultiple) 27 = .ok (.iload 5, 2) := by decide +kernel
theorem dd_X4_addMultiple_29 : decode (zc mm_X4_addMultiple) 29 = .ok (.iload_n 2, 1) := by decide +kernel
theorem dd_X4_addMultiple_30 : decode (zc mm_X4_addMultiple) 30 = .ok (.iadd, 1) := by decide +kernel
theorem dd_X4_addMultiple_31 : decode (zc mm_X4_addMultiple) 31 = .ok (.imul, 1) := by decide +kernel
theorem dd_X4_addMultiple_32 : decode (zc mm_X4_addMultiple) 32 = .ok (.iload 6, 2) := by decide +kernel
theorem dd_X4_addMultiple_34 : decode (zc mm_X4_addMultiple) 34 = .ok (.iadd, 1) := by decide +kernel
theorem dd_X4_addMultiple_35 : decode (zc mm_X4_addMultiple) 35 = .ok (.iload_n 3, 1) := by decide +kernel
theorem dd_X4_addMultiple_36 : decode (zc mm_X4_addMultiple) 36 = .ok (.iadd, 1) := by decide +kernel
theorem dd_X4_addMultiple_37 : decode (zc mm_X4_addMultiple) 37 = .ok (.dup2, 1) := by decide +kernel
theorem dd_X4_addMultiple_38 : decode (zc mm_X4_addMultiple) 38 = .ok (.iaload, 1) := by decide +kernel
theorem dd_X4_addMultiple_39 : decode (zc mm_X4_addMultiple) 39 = .ok (.iload 4, 2) := by decide +kernel
theorem dd_X4_addMultiple_41 : decode (zc mm_X4_addMultiple) 41 = .ok (.aload_n 1, 1) := by decide +kernel
theorem dd_X4_addMultiple_42 : decode (zc mm_X4_addMultiple) 42 = .ok (.getfield 15, 3) := by decide +kernel
theorem dd_X4_addMultiple_45 : decode (zc mm_X4_addMultiple) 45 = .ok (.iconst 5, 1) := by decide +kernel
theorem dd_X4_addMultiple_46 : decode (zc mm_X4_addMultiple) 46 = .ok (.iload 5, 2) := by decide +kernel
theorem dd_X4_addMultiple_48 : decode (zc mm_X4_addMultiple) 48 = .ok (.imul, 1) := by decide +kernel
theorem dd_X4_addMultiple_49 : decode (zc mm_X4_addMultiple) 49 = .ok (.iload 6, 2) := by decide +kernel
theorem dd_X4_addMultiple_51 : decode (zc mm_X4_addMultiple) 51 = .ok (.iadd, 1) := by decide +kernel
theorem dd_X4_addMultiple_52 : decode (zc mm_X4_addMultiple) 52 = .ok (.iaload, 1) := by decide +kernel
theorem dd_X4_addMultiple_53 : decode (zc mm_X4_addMultiple) 53 = .ok (.imul, 1) := by decide +kernel
theorem dd_X4_addMultiple_54 : decode (zc mm_X4_addMultiple) 54 = .ok (.iadd, 1) := by decide +kernel
theorem dd_X4_addMultiple_55 : decode (zc mm_X4_addMultiple) 55 = .ok (.iastore, 1) := by decide +kernel
theorem dd_X4_addMultiple_56 : decode (zc mm_X4_addMultiple) 56 = .ok (.iinc 6 1, 3) := by decide +kernel
theorem dd_X4_addMultiple_59 : decode (zc mm_X4_addMultiple) 59 = .ok (.goto (-45), 3) := by decide +kernel
theorem dd_X4_addMultiple_62 : decode (zc mm_X4_addMultiple) 62 = .ok (.iinc 5 1, 3) := by decide +kernel
theorem dd_X4_addMultiple_65 : decode (zc mm_X4_addMultiple) 65 = .ok (.goto (-62), 3) := by decide +kernel
theorem dd_X4_addMultiple_68 : decode (zc mm_X4_addMultiple) 68 = .ok (.return_, 1) := by decide +kernel
theorem dd_X5_init_0 : decode (zc mm_X5_init) 0 = .ok (.aload_n 0, 1) := by decide +kernel
theorem dd_X5_init_1 : decode (zc mm_X5_init) 1 = .ok (.invokespecial 5, 3) := by decide +kernel
theorem dd_X5_init_4 : decode (zc mm_X5_init) 4 = .ok (.aload_n 0, 1) := by decide +kernel
theorem dd_X5_init_5 : decode (zc mm_X5_init) 5 = .ok (.bipush 81, 2) := by decide +kernel
theorem dd_X5_init_7 : decode (zc mm_X5_init) 7 = .ok (.newarray .int, 2) := by decide +kernel
theorem dd_X5_init_9 : decode (zc mm_X5_init) 9 = .ok (.putfield 11, 3) := by decide +kernel
theorem dd_X5_init_12 : decode (zc mm_X5_init) 12 = .ok (.aload_n 0, 1) := by decide +kernel
theorem dd_X5_init_13 : decode (zc mm_X5_init) 13 = .ok (.sipush 162, 3) := by decide +kernel
theorem dd_X5_init_16 : decode (zc mm_X5_init) 16 = .ok (.newarray .int, 2) := by decide +kernel
theorem dd_X5_init_18 : decode (zc mm_X5_init) 18 = .ok (.putfield 15, 3) := by decide +kernel
theorem dd_X5_init_21 : decode (zc mm_X5_init) 21 = .ok (.return_, 1) := by decide +kernel
theorem dd_X5_ofOne_0 : decode (zc mm_X5_ofOne) 0 = .ok (.aload_n 0, 1) := by decide +kernel
theorem dd_X5_ofOne_1 : decode (zc mm_X5_ofOne) 1 = .ok (.getfield 11, 3) := by decide +kernel
theorem dd_X5_ofOne_4 : decode (zc mm_X5_ofOne) 4 = .ok (.iconst 0, 1) := by decide +kernel
theorem dd_X5_ofOne_5 : decode (zc mm_X5_ofOne) 5 = .ok (.invokestatic 18, 3) := by decide +kernel
theorem dd_X5_ofOne_8 : decode (zc mm_X5_ofOne) 8 = .ok (.aload_n 0, 1) := by decide +kernel
theorem dd_X5_ofOne_9 : decode (zc mm_X5_ofOne) 9 = .ok (.aload_n 1, 1) := by decide +kernel
theorem dd_X5_ofOne_10 : decode (zc mm_X5_ofOne) 10 = .ok (.iconst 0, 1) := by decide +kernel
theorem dd_X5_ofOne_11 : decode (zc mm_X5_ofOne) 11 = .ok (.iconst 0, 1) := by decide +kernel
theorem dd_X5_ofOne_12 : decode (zc mm_X5_ofOne) 12 = .ok (.invokevirtual 24, 3) := by decide +kernel
theorem dd_X5_ofOne_15 : decode (zc mm_X5_ofOne) 15 = .ok (.aload_n 0, 1) := by decide +kernel
theorem dd_X5_ofOne_16 : decode (zc mm_X5_ofOne) 16 = .ok (.invokevirtual 28, 3) := by decide +kernel
theorem dd_X5_ofOne_19 : decode (zc mm_X5_ofOne) 19 = .ok (.return_, 1) := by decide +kernel
theorem dd_X5_ofTwo_0 : decode (zc mm_X5_ofTwo) 0 = .ok (.aload_n 0, 1) := by decide +kernel
theorem dd_X5_ofTwo_1 : decode (zc mm_X5_ofTwo) 1 = .ok (.getfield 11, 3) := by decide +kernel
theorem dd_X5_ofTwo_4 : decode (zc mm_X5_ofTwo) 4 = .ok (.iconst 0, 1) := by decide +kernel
theorem dd_X5_ofTwo_5 : decode (zc mm_X5_ofTwo) 5 = .ok (.invokestatic 18, 3) := by decide +kernel
theorem dd_X5_ofTwo_8 : decode (zc mm_X5_ofTwo) 8 = .ok (.iconst 0, 1) := by decide +kernel
theorem dd_X5_ofTwo_9 : decode (zc mm_X5_ofTwo) 9 = .ok (.istore_n 3, 1) := by decide +kernel
theorem dd_X5_ofTwo_10 : decode (zc mm_X5_ofTwo) 10 = .ok (.iload_n 3, 1) := by decide +kernel
theorem dd_X5_ofTwo_11 : decode (zc mm_X5_ofTwo) 11 = .ok (.iconst 5, 1) := by decide +kernel
theorem dd_X5_ofTwo_12 : decode (zc mm_X5_ofTwo) 12 = .ok (.if_icmp .ge 42, 3) := by decide +kernel
theorem dd_X5_ofTwo_15 : decode (zc mm_X5_ofTwo) 15 = .ok (.iconst 0, 1) := by decide +kernel
theorem dd_X5_ofTwo_16 : decode (zc mm_X5_ofTwo) 16 = .ok (.istore 4, 2) := by decide +kernel
theorem dd_X5_ofTwo_18 : decode (zc mm_X5_ofTwo) 18 = .ok (.iload 4, 2) := by decide +kernel
theorem dd_X5_ofTwo_20 : decode (zc mm_X5_ofTwo) 20 = .ok (.iconst 5, 1) := by decide +kernel
theorem dd_X5_ofTwo_21 : decode (zc mm_X5_ofTwo) 21 = .ok (.if_icmp .ge 27, 3) := by decide +kernel
theorem dd_X5_ofTwo_24 : decode (zc mm_X5_ofTwo) 24 = .ok (.aload_n 1, 1) := by decide +kernel
theorem dd_X5_ofTwo_25 : decode (zc mm_X5_ofTwo) 25 = .ok (.iload_n 3, 1) := by decide +kernel
theorem dd_X5_ofTwo_26 : decode (zc mm_X5_ofTwo) 26 = .ok (.iload 4, 2) := by decide +kernel
theorem dd_X5_ofTwo_28 : decode (zc mm_X5_ofTwo) 28 = .ok (.invokevirtual 31, 3) := by decide +kernel
theorem dd_X5_ofTwo_31 : decode (zc mm_X5_ofTwo) 31 = .ok (.ifCond .eq 11, 3) := by decide +kernel
theorem dd_X5_ofTwo_34 : decode (zc mm_X5_ofTwo) 34 = .ok (.aload_n 0, 1) := by decide +kernel
theorem dd_X5_ofTwo_35 : decode (zc mm_X5_ofTwo) 35 = .ok (.aload_n 2, 1) := by decide +kernel
theorem dd_X5_ofTwo_36 : decode (zc mm_X5_ofTwo) 36 = .ok (.iload_n 3, 1) := by decide +kernel
theorem dd_X5_ofTwo_37 : decode (zc mm_X5_ofTwo) 37 = .ok (.iload 4, 2) := by decide +kernel
theorem dd_X5_ofTwo_39 : decode (zc mm_X5_ofTwo) 39 = .ok (.invokevirtual 24, 3) := by decide +kernel
theorem dd_X5_ofTwo_42 : decode (zc mm_X5_ofTwo) 42 = .ok (.iinc 4 1, 3) := by decide +kernel
theorem dd_X5_ofTwo_45 : decode (zc mm_X5_ofTwo) 45 = .ok (.goto (-27), 3) := by decide +kernel
theorem dd_X5_ofTwo_48 : decode (zc mm_X5_ofTwo) 48 = .ok (.iinc 3 1, 3) := by decide +kernel
theorem dd_X5_ofTwo_51 : decode (zc mm_X5_ofTwo) 51 = .ok (.goto (-41), 3) := by decide +kernel
theorem dd_X5_ofTwo_54 : decode (zc mm_X5_ofTwo) 54 = .ok (.aload_n 0, 1) := by decide +kernel
theorem dd_X5_ofTwo_55 : decode (zc mm_X5_ofTwo) 55 = .ok (.invokevirtual 28, 3) := by decide +kernel
theorem dd_X5_ofTwo_58 : decode (zc mm_X5_ofTwo) 58 = .ok (.return_, 1) := by decide +kernel
theorem dd_X5_markMoved_0 : decode (zc mm_X5_markMoved) 0 = .ok (.iconst 0, 1) := by decide +kernel
theorem dd_X5_markMoved_1 : decode (zc mm_X5_markMoved) 1 = .ok (.istore 4, 2) := by decide +kernel
theorem dd_X5_markMoved_3 : decode (zc mm_X5_markMoved) 3 = .ok (.iload 4, 2) := by decide +kernel
theorem dd_X5_markMoved_5 : decode (zc mm_X5_markMoved) 5 = .ok (.iconst 5, 1) := by decide +kernel
theorem dd_X5_markMoved_6 : decode (zc mm_X5_markMoved) 6 = .ok (.if_icmp .ge 53, 3) := by decide +kernel
theorem dd_X5_markMoved_9 : decode (zc mm_X5_markMoved) 9 = .ok (.iconst 0, 1) := by decide +kernel
theorem dd_X5_markMoved_10 : decode (zc mm_X5_markMoved) 10 = .ok (.istore 5, 2) := by decide +kernel
theorem dd_X5_markMoved_12 : decode (zc mm_X5_markMoved) 12 = .ok (.iload 5, 2) := by decide +kernel
theorem dd_X5_markMoved_14 : decode (zc mm_X5_markMoved) 14 = .ok (.iconst 5, 1) := by decide +kernel
theorem dd_X5_markMoved_15 : decode (zc mm_X5_markMoved) 15 = .ok (.if_icmp .ge 38, 3) := by decide +kernel
theorem dd_X5_markMoved_18 : decode (zc mm_X5_markMoved) 18 = .ok (.aload_n 1, 1) := by decide +kernel
theorem dd_X5_markMoved_19 : decode (zc mm_X5_markMoved) 19 = .ok (.iload 4, 2) := by decide +kernel
theorem dd_X5_markMoved_21 : decode (zc mm_X5_markMoved) 21 = .ok (.iload 5, 2) := by decide +kernel
theorem dd_X5_markMoved_23 : decode (zc mm_X5_markMoved) 23 = .ok (.invokevirtual 31, 3) := by decide +kernel
theorem dd_X5_markMoved_26 : decode (zc mm_X5_markMoved) 26 = .ok (.ifCond .eq 21, 3) := by decide +kernel
theorem dd_X5_markMoved_29 : decode (zc mm_X5_markMoved) 29 = .ok (.aload_n 0, 1) := by decide +kernel
theorem dd_X5_markMoved_30 : decode (zc mm_X5_markMoved) 30 = .ok (.getfield 11, 3) := by decide +kernel
theorem dd_X5_markMoved_33 : decode (zc mm_X5_markMoved) 33 = .ok (.bipush 9, 2) := by decide +kernel
theorem dd_X5_markMoved_35 : decode (zc mm_X5_markMoved) 35 = .ok (.iload 4, 2) := by decide +kernel
theorem dd_X5_markMoved_37 : decode (zc mm_X5_markMoved) 37 = .ok (.iload_n 2, 1) := by decide +kernel
theorem dd_X5_markMoved_38 : decode (zc mm_X5_markMoved) 38 = .ok (.iadd, 1) := by decide +kernel
theorem dd_X5_markMoved_39 : decode (zc mm_X5_markMoved) 39 = .ok (.imul, 1) := by decide +kernel
theorem dd_X5_markMoved_40 : decode (zc mm_X5_markMoved) 40 = .ok (.iload 5, 2) := by decide +kernel
theorem dd_X5_markMoved_42 : decode (zc mm_X5_markMoved) 42 = .ok (.iadd, 1) := by decide +kernel
theorem dd_X5_markMoved_43 : decode (zc mm_X5_markMoved) 43 = .ok (.iload_n 3, 1) := by decide +kernel
theorem dd_X5_markMoved_44 : decode (zc mm_X5_markMoved) 44 = .ok (.iadd, 1) := by decide +kernel
theorem dd_X5_markMoved_45 : decode (zc mm_X5_markMoved) 45 = .ok (.iconst 1, 1) := by decide +kernel
theorem dd_X5_markMoved_46 : decode (zc mm_X5_markMoved) 46 = .ok (.iastore, 1) := by decide +kernel
theorem dd_X5_markMoved_47 : decode (zc mm_X5_markMoved) 47 = .ok (.iinc 5 1, 3) := by decide +kernel
theorem dd_X5_markMoved_50 : decode (zc mm_X5_markMoved) 50 = .ok (.goto (-38), 3) := by decide +kernel
theorem dd_X5_markMoved_53 : decode (zc mm_X5_markMoved) 53 = .ok (.iinc 4 1, 3) := by decide +kernel
theorem dd_X5_markMoved_56 : decode (zc mm_X5_markMoved) 56 = .ok (.goto (-53), 3) := by decide +kernel
theorem dd_X5_markMoved_59 : decode (zc mm_X5_markMoved) 59 = .ok (.return_, 1) := by decide +kernel
theorem dd_X5_wrap_0 : decode (zc mm_X5_wrap) 0 = .ok (.aload_n 0, 1) := by decide +kernel
theorem dd_X5_wrap_1 : decode (zc mm_X5_wrap) 1 = .ok (.iconst 0, 1) := by decide +kernel
theorem dd_X5_wrap_2 : decode (zc mm_X5_wrap) 2 = .ok (.putfield 37, 3) := by decide +kernel
theorem dd_X5_wrap_5 : decode (zc mm_X5_wrap) 5 = .ok (.iconst 0, 1) := by decide +kernel
theorem dd_X5_wrap_6 : decode (zc mm_X5_wrap) 6 = .ok (.istore_n 1, 1) := by decide +kernel
theorem dd_X5_wrap_7 : decode (zc mm_X5_wrap) 7 = .ok (.iload_n 1, 1) := by decide +kernel
theorem dd_X5_wrap_8 : decode (zc mm_X5_wrap) 8 = .ok (.bipush 81, 2) := by decide +kernel
theorem dd_X5_wrap_10 : decode (zc mm_X5_wrap) 10 = .ok (.if_icmp .ge 24, 3) := by decide +kernel
theorem dd_X5_wrap_13 : decode (zc mm_X5_wrap) 13 = .ok (.aload_n 0, 1) := by decide +kernel
theorem dd_X5_wrap_14 : decode (zc mm_X5_wrap) 14 = .ok (.getfield 11, 3) := by decide +kernel
theorem dd_X5_wrap_17 : decode (zc mm_X5_wrap) 17 = .ok (.iload_n 1, 1) := by decide +kernel
theorem dd_X5_wrap_18 : decode (zc mm_X5_wrap) 18 = .ok (.iaload, 1) := by decide +kernel
theorem dd_X5_wrap_19 : decode (zc mm_X5_wrap) 19 = .ok (.ifCond .eq 9, 3) := by decide +kernel
theorem dd_X5_wrap_22 : decode (zc mm_X5_wrap) 22 = .ok (.aload_n 0, 1) := by decide +kernel
theorem dd_X5_wrap_23 : decode (zc mm_X5_wrap) 23 = .ok (.iload_n 1, 1) := by decide +kernel
theorem dd_X5_wrap_24 : decode (zc mm_X5_wrap) 24 = .ok (.iconst 1, 1) := by decide +kernel
theorem dd_X5_wrap_25 : decode (zc mm_X5_wrap) 25 = .ok (.invokevirtual 41, 3) := by decide +kernel
theorem dd_X5_wrap_28 : decode (zc mm_X5_wrap) 28 = .ok (.iinc 1 1, 3) := by decide +kernel
theorem dd_X5_wrap_31 : decode (zc mm_X5_wrap) 31 = .ok (.goto (-24), 3) := by decide +kernel
theorem dd_X5_wrap_34 : decode (zc mm_X5_wrap) 34 = .ok (.aload_n 0, 1) := by decide +kernel
theorem dd_X5_wrap_35 : decode (zc mm_X5_wrap) 35 = .ok (.getfield 37, 3) := by decide +kernel
theorem dd_X5_wrap_38 : decode (zc mm_X5_wrap) 38 = .ok (.istore_n 1, 1) := by decide +kernel
theorem dd_X5_wrap_39 : decode (zc mm_X5_wrap) 39 = .ok (.aload_n 0, 1) := by decide +kernel
theorem dd_X5_wrap_40 : decode (zc mm_X5_wrap) 40 = .ok (.getfield 37, 3) := by decide +kernel
theorem dd_X5_wrap_43 : decode (zc mm_X5_wrap) 43 = .ok (.ifCond .le 17, 3) := by decide +kernel
theorem dd_X5_wrap_46 : decode (zc mm_X5_wrap) 46 = .ok (.aload_n 0, 1) := by decide +kernel
theorem dd_X5_wrap_47 : decode (zc mm_X5_wrap) 47 = .ok (.getfield 15, 3) := by decide +kernel
theorem dd_X5_wrap_50 : decode (zc mm_X5_wrap) 50 = .ok (.aload_n 0, 1) := by decide +kernel
theorem dd_X5_wrap_51 : decode (zc mm_X5_wrap) 51 = .ok (.getfield 37, 3) := by decide +kernel
theorem dd_X5_wrap_54 : decode (zc mm_X5_wrap) 54 = .ok (.iconst 1, 1) := by decide +kernel
theorem dd_X5_wrap_55 : decode (zc mm_X5_wrap) 55 = .ok (.isub, 1) := by decide +kernel
theorem dd_X5_wrap_56 : decode (zc mm_X5_wrap) 56 = .ok (.iaload, 1) := by decide +kernel
theorem dd_X5_wrap_57 : decode (zc mm_X5_wrap) 57 = .ok (.goto 4, 3) := by decide +kernel
theorem dd_X5_wrap_60 : decode (zc mm_X5_wrap) 60 = .ok (.iconst 0, 1) := by decide +kernel
theorem dd_X5_wrap_61 : decode (zc mm_X5_wrap) 61 = .ok (.istore_n 2, 1) := by decide +kernel
theorem dd_X5_wrap_62 : decode (zc mm_X5_wrap) 62 = .ok (.iload_n 2, 1) := by decide +kernel
theorem dd_X5_wrap_63 : decode (zc mm_X5_wrap) 63 = .ok (.iconst 1, 1) := by decide +kernel
theorem dd_X5_wrap_64 : decode (zc mm_X5_wrap) 64 = .ok (.isub, 1) := by decide +kernel
theorem dd_X5_wrap_65 : decode (zc mm_X5_wrap) 65 = .ok (.istore_n 3, 1) := by decide +kernel
theorem dd_X5_wrap_66 : decode (zc mm_X5_wrap) 66 = .ok (.iload_n 3, 1) := by decide +kernel
theorem dd_X5_wrap_67 : decode (zc mm_X5_wrap) 67 = .ok (.ifCond .lt 24, 3) := by decide +kernel
theorem dd_X5_wrap_70 : decode (zc mm_X5_wrap) 70 = .ok (.aload_n 0, 1) := by decide +kernel
theorem dd_X5_wrap_71 : decode (zc mm_X5_wrap) 71 = .ok (.getfield 11, 3) := by decide +kernel
theorem dd_X5_wrap_74 : decode (zc mm_X5_wrap) 74 = .ok (.iload_n 3, 1) := by decide +kernel
theorem dd_X5_wrap_75 : decode (zc mm_X5_wrap) 75 = .ok (.iaload, 1) := by decide +kernel
theorem dd_X5_wrap_76 : decode (zc mm_X5_wrap) 76 = .ok (.ifCond .eq 9, 3) := by decide +kernel
theorem dd_X5_wrap_79 : decode (zc mm_X5_wrap) 79 = .ok (.aload_n 0, 1) := by decide +kernel
theorem dd_X5_wrap_80 : decode (zc mm_X5_wrap) 80 = .ok (.iload_n 3, 1) := by decide +kernel
theorem dd_X5_wrap_81 : decode (zc mm_X5_wrap) 81 = .ok (.iload_n 1, 1) := by decide +kernel
theorem dd_X5_wrap_82 : decode (zc mm_X5_wrap) 82 = .ok (.invokevirtual 41, 3) := by decide +kernel
theorem dd_X5_wrap_85 : decode (zc mm_X5_wrap) 85 = .ok (.iinc 3 (-1), 3) := by decide +kernel
theorem dd_X5_wrap_88 : decode (zc mm_X5_wrap) 88 = .ok (.goto (-22), 3) := by decide +kernel
theorem dd_X5_wrap_91 : decode (zc mm_X5_wrap) 91 = .ok (.aload_n 0, 1) := by decide +kernel
theorem dd_X5_wrap_92 : decode (zc mm_X5_wrap) 92 = .ok (.getfield 37, 3) := by decide +kernel
theorem dd_X5_wrap_95 : decode (zc mm_X5_wrap) 95 = .ok (.iconst 1, 1) := by decide +kernel
theorem dd_X5_wrap_96 : decode (zc mm_X5_wrap) 96 = .ok (.if_icmp .le 13, 3) := by decide +kernel
theorem dd_X5_wrap_99 : decode (zc mm_X5_wrap) 99 = .ok (.aload_n 0, 1) := by decide +kernel
theorem dd_X5_wrap_100 : decode (zc mm_X5_wrap) 100 = .ok (.dup, 1) := by decide +kernel
theorem dd_X5_wrap_101 : decode (zc mm_X5_wrap) 101 = .ok (.getfield 37, 3) := by decide +kernel
theorem dd_X5_wrap_104 : decode (zc mm_X5_wrap) 104 = .ok (.iconst 1, 1) := by decide +kernel
theorem dd_X5_wrap_105 : decode (zc mm_X5_wrap) 105 = .ok (.isub, 1) := by decide +kernel
theorem dd_X5_wrap_106 : decode (zc mm_X5_wrap) 106 = .ok (.putfield 37, 3) := by decide +kernel
theorem dd_X5_wrap_109 : decode (zc mm_X5_wrap) 109 = .ok (.return_, 1) := by decide +kernel
theorem dd_X5_goOn_0 : decode (zc mm_X5_goOn) 0 = .ok (.aload_n 0, 1) := by decide +kernel
theorem dd_X5_goOn_1 : decode (zc mm_X5_goOn) 1 = .ok (.getfield 37, 3) := by decide +kernel
theorem dd_X5_goOn_4 : decode (zc mm_X5_goOn) 4 = .ok (.iload_n 2, 1) := by decide +kernel
theorem dd_X5_goOn_5 : decode (zc mm_X5_goOn) 5 = .ok (.if_icmp .le 53, 3) := by decide +kernel
theorem dd_X5_goOn_8 : decode (zc mm_X5_goOn) 8 = .ok (.aload_n 0, 1) := by decide +kernel
theorem dd_X5_goOn_9 : decode (zc mm_X5_goOn) 9 = .ok (.getfield 37, 3) := by decide +kernel
theorem dd_X5_goOn_12 : decode (zc mm_X5_goOn) 12 = .ok (.iconst 1, 1) := by decide +kernel
theorem dd_X5_goOn_13 : decode (zc mm_X5_goOn) 13 = .ok (.if_icmp .le 45, 3) := by decide +kernel
theorem dd_X5_goOn_16 : decode (zc mm_X5_goOn) 16 = .ok (.aload_n 0, 1) := by decide +kernel
theorem dd_X5_goOn_17 : decode (zc mm_X5_goOn) 17 = .ok (.getfield 15, 3) := by decide +kernel
theorem dd_X5_goOn_20 : decode (zc mm_X5_goOn) 20 = .ok (.aload_n 0, 1) := by decide +kernel
theorem dd_X5_goOn_21 : decode (zc mm_X5_goOn) 21 = .ok (.getfield 37, 3) := by decide +kernel
theorem dd_X5_goOn_24 : decode (zc mm_X5_goOn) 24 = .ok (.iconst 2, 1) := by decide +kernel
theorem dd_X5_goOn_25 : decode (zc mm_X5_goOn) 25 = .ok (.isub, 1) := by decide +kernel
theorem dd_X5_goOn_26 : decode (zc mm_X5_goOn) 26 = .ok (.iaload, 1) := by decide +kernel
theorem dd_X5_goOn_27 : decode (zc mm_X5_goOn) 27 = .ok (.aload_n 0, 1) := by decide +kernel
theorem dd_X5_goOn_28 : decode (zc mm_X5_goOn) 28 = .ok (.getfield 15, 3) := by decide +kernel
theorem dd_X5_goOn_31 : decode (zc mm_X5_goOn) 31 = .ok (.aload_n 0, 1) := by decide +kernel
theorem dd_X5_goOn_32 : decode (zc mm_X5_goOn) 32 = .ok (.getfield 37, 3) := by decide +kernel
theorem dd_X5_goOn_35 : decode (zc mm_X5_goOn) 35 = .ok (.iconst 1, 1) := by decide +kernel
theorem dd_X5_goOn_36 : decode (zc mm_X5_goOn) 36 = .ok (.isub, 1) := by decide +kernel
theorem dd_X5_goOn_37 : decode (zc mm_X5_goOn) 37 = .ok (.iaload, 1) := by decide +kernel
theorem dd_X5_goOn_38 : decode (zc mm_X5_goOn) 38 = .ok (.iload_n 1, 1) := by decide +kernel
theorem dd_X5_goOn_39 : decode (zc mm_X5_goOn) 39 = .ok (.invokestatic 45, 3) := by decide +kernel
theorem dd_X5_goOn_42 : decode (zc mm_X5_goOn) 42 = .ok (.ifCond .gt 16, 3) := by decide +kernel
theorem dd_X5_goOn_45 : decode (zc mm_X5_goOn) 45 = .ok (.aload_n 0, 1) := by decide +kernel
theorem dd_X5_goOn_46 : decode (zc mm_X5_goOn) 46 = .ok (.dup, 1) := by decide +kernel
theorem dd_X5_goOn_47 : decode (zc mm_X5_goOn) 47 = .ok (.getfield 37, 3) := by decide +kernel
theorem dd_X5_goOn_50 : decode (zc mm_X5_goOn) 50 = .ok (.iconst 1, 1) := by decide +kernel
theorem dd_X5_goOn_51 : decode (zc mm_X5_goOn) 51 = .ok (.isub, 1) := by decide +kernel
theorem dd_X5_goOn_52 : decode (zc mm_X5_goOn) 52 = .ok (.putfield 37, 3) := by decide +kernel
theorem dd_X5_goOn_55 : decode (zc mm_X5_goOn) 55 = .ok (.goto (-55), 3) := by decide +kernel
theorem dd_X5_goOn_58 : decode (zc mm_X5_goOn) 58 = .ok (.aload_n 0, 1) := by decide +kernel
theorem dd_X5_goOn_59 : decode (zc mm_X5_goOn) 59 = .ok (.getfield 37, 3) := by decide +kernel
theorem dd_X5_goOn_62 : decode (zc mm_X5_goOn) 62 = .ok (.aload_n 0, 1) := by decide +kernel
theorem dd_X5_goOn_63 : decode (zc mm_X5_goOn) 63 = .ok (.getfield 15, 3) := by decide +kernel
theorem dd_X5_goOn_66 : decode (zc mm_X5_goOn) 66 = .ok (.arraylength, 1) := by decide +kernel
theorem dd_X5_goOn_67 : decode (zc mm_X5_goOn) 67 = .ok (.if_icmp .ge 23, 3) := by decide +kernel
theorem dd_X5_goOn_70 : decode (zc mm_X5_goOn) 70 = .ok (.aload_n 0, 1) := by decide +kernel
theorem dd_X5_goOn_71 : decode (zc mm_X5_goOn) 71 = .ok (.getfield 15, 3) := by decide +kernel
theorem dd_X5_goOn_74 : decode (zc mm_X5_goOn) 74 = .ok (.aload_n 0, 1) := by decide +kernel
theorem dd_X5_goOn_75 : decode (zc mm_X5_goOn) 75 = .ok (.getfield 37, 3) := by decide +kernel
theorem dd_X5_goOn_78 : decode (zc mm_X5_goOn) 78 = .ok (.iload_n 1, 1) := by decide +kernel
theorem dd_X5_goOn_79 : decode (zc mm_X5_goOn) 79 = .ok (.iastore, 1) := by decide +kernel
theorem dd_X5_goOn_80 : decode (zc mm_X5_goOn) 80 = .ok (.aload_n 0, 1) := by decide +kernel
theorem dd_X5_goOn_81 : decode (zc mm_X5_goOn) 81 = .ok (.dup, 1) := by decide +kernel
theorem dd_X5_goOn_82 : decode (zc mm_X5_goOn) 82 = .ok (.getfield 37, 3) := by decide +kernel
theorem dd_X5_goOn_85 : decode (zc mm_X5_goOn) 85 = .ok (.iconst 1, 1) := by decide +kernel
theorem dd_X5_goOn_86 : decode (zc mm_X5_goOn) 86 = .ok (.iadd, 1) := by decide +kernel
theorem dd_X5_goOn_87 : decode (zc mm_X5_goOn) 87 = .ok (.putfield 37, 3) := by decide +kernel
theorem dd_X5_goOn_90 : decode (zc mm_X5_goOn) 90 = .ok (.return_, 1) := by decide +kernel
theorem dd_X5_turning_0 : decode (zc mm_X5_turning) 0 = .ok (.iload_n 1, 1) := by decide +kernel
theorem dd_X5_turning_1 : decode (zc mm_X5_turning) 1 = .ok (.bipush 9, 2) := by decide +kernel
theorem dd_X5_turning_3 : decode (zc mm_X5_turning) 3 = .ok (.idiv, 1) := by decide +kernel
theorem dd_X5_turning_4 : decode (zc mm_X5_turning) 4 = .ok (.iload_n 0, 1) := by decide +kernel
theorem dd_X5_turning_5 : decode (zc mm_X5_turning) 5 = .ok (.bipush 9, 2) := by decide +kernel
theorem dd_X5_turning_7 : decode (zc mm_X5_turning) 7 = .ok (.idiv, 1) := by decide +kernel
theorem dd_X5_turning_8 : decode (zc mm_X5_turning) 8 = .ok (.isub, 1) := by decide +kernel
theorem dd_X5_turning_9 : decode (zc mm_X5_turning) 9 = .ok (.istore_n 3, 1) := by decide +kernel
theorem dd_X5_turning_10 : decode (zc mm_X5_turning) 10 = .ok (.iload_n 1, 1) := by decide +kernel
theorem dd_X5_turning_11 : decode (zc mm_X5_turning) 11 = .ok (.bipush 9, 2) := by decide +kernel
theorem dd_X5_turning_13 : decode (zc mm_X5_turning) 13 = .ok (.irem, 1) := by decide +kernel
theorem dd_X5_turning_14 : decode (zc mm_X5_turning) 14 = .ok (.iload_n 0, 1) := by decide +kernel
theorem dd_X5_turning_15 : decode (zc mm_X5_turning) 15 = .ok (.bipush 9, 2) := by decide +kernel
theorem dd_X5_turning_17 : decode (zc mm_X5_turning) 17 = .ok (.irem, 1) := by decide +kernel
theorem dd_X5_turning_18 : decode (zc mm_X5_turning) 18 = .ok (.isub, 1) := by decide +kernel
theorem dd_X5_turning_19 : decode (zc mm_X5_turning) 19 = .ok (.istore 4, 2) := by decide +kernel
theorem dd_X5_turning_21 : decode (zc mm_X5_turning) 21 = .ok (.iload_n 3, 1) := by decide +kernel
theorem dd_X5_turning_22 : decode (zc mm_X5_turning) 22 = .ok (.iload_n 2, 1) := by decide +kernel
theorem dd_X5_turning_23 : decode (zc mm_X5_turning) 23 = .ok (.bipush 9, 2) := by decide +kernel
theorem dd_X5_turning_25 : decode (zc mm_X5_turning) 25 = .ok (.irem, 1) := by decide +kernel
theorem dd_X5_turning_26 : decode (zc mm_X5_turning) 26 = .ok (.iload_n 0, 1) := by decide +kernel
theorem dd_X5_turning_27 : decode (zc mm_X5_turning) 27 = .ok (.bipush 9, 2) := by decide +kernel
theorem dd_X5_turning_29 : decode (zc mm_X5_turning) 29 = .ok (.irem, 1) := by decide +kernel
theorem dd_X5_turning_30 : decode (zc mm_X5_turning) 30 = .ok (.isub, 1) := by decide +kernel
theorem dd_X5_turning_31 : decode (zc mm_X5_turning) 31 = .ok (.imul, 1) := by decide +kernel
theorem dd_X5_turning_32 : decode (zc mm_X5_turning) 32 = .ok (.iload 4, 2) := by decide +kernel
theorem dd_X5_turning_34 : decode (zc mm_X5_turning) 34 = .ok (.iload_n 2, 1) := by decide +kernel
theorem dd_X5_turning_35 : decode (zc mm_X5_turning) 35 = .ok (.bipush 9, 2) := by decide +kernel
theorem dd_X5_turning_37 : decode (zc mm_X5_turning) 37 = .ok (.idiv, 1) := by decide +kernel
theorem dd_X5_turning_38 : decode (zc mm_X5_turning) 38 = .ok (.iload_n 0, 1) := by decide +kernel
theorem dd_X5_turning_39 : decode (zc mm_X5_turning) 39 = .ok (.bipush 9, 2) := by decide +kernel
theorem dd_X5_turning_41 : decode (zc mm_X5_turning) 41 = .ok (.idiv, 1) := by decide +kernel
theorem dd_X5_turning_42 : decode (zc mm_X5_turning) 42 = .ok (.isub, 1) := by decide +kernel
theorem dd_X5_turning_43 : decode (zc mm_X5_turning) 43 = .ok (.imul, 1) := by decide +kernel
theorem dd_X5_turning_44 : decode (zc mm_X5_turning) 44 = .ok (.isub, 1) := by decide +kernel
theorem dd_X5_turning_45 : decode (zc mm_X5_turning) 45 = .ok (.ireturn, 1) := by decide +kernel
theorem dd_X5_cornerCode_0 : decode (zc mm_X5_cornerCode) 0 = .ok (.iload_n 1, 1) := by decide +kernel
theorem dd_X5_cornerCode_1 : decode (zc mm_X5_cornerCode) 1 = .ok (.ifCond .lt 36, 3) := by decide +kernel
theorem dd_X5_cornerCode_4 : decode (zc mm_X5_cornerCode) 4 = .ok (.iload_n 1, 1) := by decide +kernel
theorem dd_X5_cornerCode_5 : decode (zc mm_X5_cornerCode) 5 = .ok (.aload_n 0, 1) := by decide +kernel
theorem dd_X5_cornerCode_6 : decode (zc mm_X5_cornerCode) 6 = .ok (.getfield 37, 3) := by decide +kernel
theorem dd_X5_cornerCode_9 : decode (zc mm_X5_cornerCode) 9 = .ok (.if_icmp .ge 28, 3) := by decide +kernel
theorem dd_X5_cornerCode_12 : decode (zc mm_X5_cornerCode) 12 = .ok (.bipush 10, 2) := by decide +kernel
theorem dd_X5_cornerCode_14 : decode (zc mm_X5_cornerCode) 14 = .ok (.aload_n 0, 1) := by decide +kernel
theorem dd_X5_cornerCode_15 : decode (zc mm_X5_cornerCode) 15 = .ok (.getfield 15, 3) := by decide +kernel
theorem dd_X5_cornerCode_18 : decode (zc mm_X5_cornerCode) 18 = .ok (.iload_n 1, 1) := by decide +kernel
theorem dd_X5_cornerCode_19 : decode (zc mm_X5_cornerCode) 19 = .ok (.iaload, 1) := by decide +kernel
theorem dd_X5_cornerCode_20 : decode (zc mm_X5_cornerCode) 20 = .ok (.bipush 9, 2) := by decide +kernel
theorem dd_X5_cornerCode_22 : decode (zc mm_X5_cornerCode) 22 = .ok (.idiv, 1) := by decide +kernel
theorem dd_X5_cornerCode_23 : decode (zc mm_X5_cornerCode) 23 = .ok (.imul, 1) := by decide +kernel
theorem dd_X5_cornerCode_24 : decode (zc mm_X5_cornerCode) 24 = .ok (.aload_n 0, 1) := by decide +kernel
theorem dd_X5_cornerCode_25 : decode (zc mm_X5_cornerCode) 25 = .ok (.getfield 15, 3) := by decide +kernel
theorem dd_X5_cornerCode_28 : decode (zc mm_X5_cornerCode) 28 = .ok (.iload_n 1, 1) := by decide +kernel
theorem dd_X5_cornerCode_29 : decode (zc mm_X5_cornerCode) 29 = .ok (.iaload, 1) := by decide +kernel
theorem dd_X5_cornerCode_30 : decode (zc mm_X5_cornerCode) 30 = .ok (.bipush 9, 2) := by decide +kernel
theorem dd_X5_cornerCode_32 : decode (zc mm_X5_cornerCode) 32 = .ok (.irem, 1) := by decide +kernel
theorem dd_X5_cornerCode_33 : decode (zc mm_X5_cornerCode) 33 = .ok (.iadd, 1) := by decide +kernel
theorem dd_X5_cornerCode_34 : decode (zc mm_X5_cornerCode) 34 = .ok (.goto 5, 3) := by decide +kernel
theorem dd_X5_cornerCode_37 : decode (zc mm_X5_cornerCode) 37 = .ok (.bipush (-9), 2) := by decide +kernel
theorem dd_X5_cornerCode_39 : decode (zc mm_X5_cornerCode) 39 = .ok (.ireturn, 1) := by decide +kernel
theorem dd_X5_twiceCovered_0 : decode (zc mm_X5_twiceCovered) 0 = .ok (.iconst 0, 1) := by decide +kernel
theorem dd_X5_twiceCovered_1 : decode (zc mm_X5_twiceCovered) 1 = .ok (.istore_n 1, 1) := by decide +kernel
theorem dd_X5_twiceCovered_2 : decode (zc mm_X5_twiceCovered) 2 = .ok (.iconst 2, 1) := by decide +kernel
theorem dd_X5_twiceCovered_3 : decode (zc mm_X5_twiceCovered) 3 = .ok (.istore_n 2, 1) := by decide +kernel
theorem dd_X5_twiceCovered_4 : decode (zc mm_X5_twiceCovered) 4 = .ok (.iload_n 2, 1) := by decide +kernel
theorem dd_X5_twiceCovered_5 : decode (zc mm_X5_twiceCovered) 5 = .ok (.aload_n 0, 1) := by decide +kernel
theorem dd_X5_twiceCovered_6 : decode (zc mm_X5_twiceCovered) 6 = .ok (.getfield 37, 3) := by decide +kernel
theorem dd_X5_twiceCovered_9 : decode (zc mm_X5_twiceCovered) 9 = .ok (.if_icmp .ge 35, 3) := by decide +kernel
theorem dd_X5_twiceCovered_12 : decode (zc mm_X5_twiceCovered) 12 = .ok (.iload_n 1, 1) := by decide +kernel
theorem dd_X5_twiceCovered_13 : decode (zc mm_X5_twiceCovered) 13 = .ok (.aload_n 0, 1) := by decide +kernel
theorem dd_X5_twiceCovered_14 : decode (zc mm_X5_twiceCovered) 14 = .ok (.getfield 15, 3) := by decide +kernel
theorem dd_X5_twiceCovered_17 : decode (zc mm_X5_twiceCovered) 17 = .ok (.iconst 0, 1) := by decide +kernel
theorem dd_X5_twiceCovered_18 : decode (zc mm_X5_twiceCovered) 18 = .ok (.iaload, 1) := by decide +kernel
theorem dd_X5_twiceCovered_19 : decode (zc mm_X5_twiceCovered) 19 = .ok (.aload_n 0, 1) := by decide +kernel
theorem dd_X5_twiceCovered_20 : decode (zc mm_X5_twiceCovered) 20 = .ok (.getfield 15, 3) := by decide +kernel
theorem dd_X5_twiceCovered_23 : decode (zc mm_X5_twiceCovered) 23 = .ok (.iload_n 2, 1) := by decide +kernel
theorem dd_X5_twiceCovered_24 : decode (zc mm_X5_twiceCovered) 24 = .ok (.iconst 1, 1) := by decide +kernel
theorem dd_X5_twiceCovered_25 : decode (zc mm_X5_twiceCovered) 25 = .ok (.isub, 1) := by decide +kernel
theorem dd_X5_twiceCovered_26 : decode (zc mm_X5_twiceCovered) 26 = .ok (.iaload, 1) := by decide +kernel
theorem dd_X5_twiceCovered_27 : decode (zc mm_X5_twiceCovered) 27 = .ok (.aload_n 0, 1) := by decide +kernel
theorem dd_X5_twiceCovered_28 : decode (zc mm_X5_twiceCovered) 28 = .ok (.getfield 15, 3) := by decide +kernel
theorem dd_X5_twiceCovered_31 : decode (zc mm_X5_twiceCovered) 31 = .ok (.iload_n 2, 1) := by decide +kernel
theorem dd_X5_twiceCovered_32 : decode (zc mm_X5_twiceCovered) 32 = .ok (.iaload, 1) := by decide +kernel
theorem dd_X5_twiceCovered_33 : decode (zc mm_X5_twiceCovered) 33 = .ok (.invokestatic 45, 3) := by decide +kernel
theorem dd_X5_twiceCovered_36 : decode (zc mm_X5_twiceCovered) 36 = .ok (.iadd, 1) := by decide +kernel
theorem dd_X5_twiceCovered_37 : decode (zc mm_X5_twiceCovered) 37 = .ok (.istore_n 1, 1) := by decide +kernel
theorem dd_X5_twiceCovered_38 : decode (zc mm_X5_twiceCovered) 38 = .ok (.iinc 2 1, 3) := by decide +kernel
theorem dd_X5_twiceCovered_41 : decode (zc mm_X5_twiceCovered) 41 = .ok (.goto (-37), 3) := by decide +kernel
theorem dd_X5_twiceCovered_44 : decode (zc mm_X5_twiceCovered) 44 = .ok (.iload_n 1, 1) := by decide +kernel
theorem dd_X5_twiceCovered_45 : decode (zc mm_X5_twiceCovered) 45 = .ok (.ireturn, 1) := by decide +kernel
theorem dd_X6_init_0 : decode (zc mm_X6_init) 0 = .ok (.aload_n 0, 1) := by decide +kernel
theorem dd_X6_init_1 : decode (zc mm_X6_init) 1 = .ok (.invokespecial 3, 3) := by decide +kernel
theorem dd_X6_init_4 : decode (zc mm_X6_init) 4 = .ok (.aload_n 0, 1) := by decide +kernel
theorem dd_X6_init_5 : decode (zc mm_X6_init) 5 = .ok (.bipush 25, 2) := by decide +kernel
theorem dd_X6_init_7 : decode (zc mm_X6_init) 7 = .ok (.newarray .int, 2) := by decide +kernel
theorem dd_X6_init_9 : decode (zc mm_X6_init) 9 = .ok (.putfield 9, 3) := by decide +kernel
theorem dd_X6_init_12 : decode (zc mm_X6_init) 12 = .ok (.aload_n 0, 1) := by decide +kernel
theorem dd_X6_init_13 : decode (zc mm_X6_init) 13 = .ok (.bipush 72, 2) := by decide +kernel
theorem dd_X6_init_15 : decode (zc mm_X6_init) 15 = .ok (.newarray .int, 2) := by decide +kernel
theorem dd_X6_init_17 : decode (zc mm_X6_init) 17 = .ok (.putfield 15, 3) := by decide +kernel
theorem dd_X6_init_20 : decode (zc mm_X6_init) 20 = .ok (.return_, 1) := by decide +kernel
theorem dd_X6_isFull_0 : decode (zc mm_X6_isFull) 0 = .ok (.aload_n 0, 1) := by decide +kernel
theorem dd_X6_isFull_1 : decode (zc mm_X6_isFull) 1 = .ok (.getfield 18, 3) := by decide +kernel
theorem dd_X6_isFull_4 : decode (zc mm_X6_isFull) 4 = .ok (.bipush 72, 2) := by decide +kernel
theorem dd_X6_isFull_6 : decode (zc mm_X6_isFull) 6 = .ok (.if_icmp .lt 7, 3) := by decide +kernel
theorem dd_X6_isFull_9 : decode (zc mm_X6_isFull) 9 = .ok (.iconst 1, 1) := by decide +kernel
theorem dd_X6_isFull_10 : decode (zc mm_X6_isFull) 10 = .ok (.goto 4, 3) := by decide +kernel
theorem dd_X6_isFull_13 : decode (zc mm_X6_isFull) 13 = .ok (.iconst 0, 1) := by decide +kernel
theorem dd_X6_isFull_14 : decode (zc mm_X6_isFull) 14 = .ok (.ireturn, 1) := by decide +kernel
theorem dd_X6_take_0 : decode (zc mm_X6_take) 0 = .ok (.aload_n 0, 1) := by decide +kernel
theorem dd_X6_take_1 : decode (zc mm_X6_take) 1 = .ok (.getfield 18, 3) := by decide +kernel
theorem dd_X6_take_4 : decode (zc mm_X6_take) 4 = .ok (.bipush 72, 2) := by decide +kernel
theorem dd_X6_take_6 : decode (zc mm_X6_take) 6 = .ok (.if_icmp .ge 23, 3) := by decide +kernel
theorem dd_X6_take_9 : decode (zc mm_X6_take) 9 = .ok (.aload_n 0, 1) := by decide +kernel
theorem dd_X6_take_10 : decode (zc mm_X6_take) 10 = .ok (.getfield 15, 3) := by decide +kernel
theorem dd_X6_take_13 : decode (zc mm_X6_take) 13 = .ok (.aload_n 0, 1) := by decide +kernel
theorem dd_X6_take_14 : decode (zc mm_X6_take) 14 = .ok (.getfield 18, 3) := by decide +kernel
theorem dd_X6_take_17 : decode (zc mm_X6_take) 17 = .ok (.iload_n 1, 1) := by decide +kernel
theorem dd_X6_take_18 : decode (zc mm_X6_take) 18 = .ok (.iastore, 1) := by decide +kernel
theorem dd_X6_take_19 : decode (zc mm_X6_take) 19 = .ok (.aload_n 0, 1) := by decide +kernel
theorem dd_X6_take_20 : decode (zc mm_X6_take) 20 = .ok (.dup, 1) := by decide +kernel
theorem dd_X6_take_21 : decode (zc mm_X6_take) 21 = .ok (.getfield 18, 3) := by decide +kernel
theorem dd_X6_take_24 : decode (zc mm_X6_take) 24 = .ok (.iconst 1, 1) := by decide +kernel
theorem dd_X6_take_25 : decode (zc mm_X6_take) 25 = .ok (.iadd, 1) := by decide +kernel
theorem dd_X6_take_26 : decode (zc mm_X6_take) 26 = .ok (.putfield 18, 3) := by decide +kernel
theorem dd_X6_take_29 : decode (zc mm_X6_take) 29 = .ok (.aload_n 0, 1) := by decide +kernel
theorem dd_X6_take_30 : decode (zc mm_X6_take) 30 = .ok (.getfield 18, 3) := by decide +kernel
theorem dd_X6_take_33 : decode (zc mm_X6_take) 33 = .ok (.ireturn, 1) := by decide +kernel
theorem dd_X6_forget_0 : decode (zc mm_X6_forget) 0 = .ok (.aload_n 0, 1) := by decide +kernel
theorem dd_X6_forget_1 : decode (zc mm_X6_forget) 1 = .ok (.iconst 0, 1) := by decide +kernel
theorem dd_X6_forget_2 : decode (zc mm_X6_forget) 2 = .ok (.putfield 18, 3) := by decide +kernel
theorem dd_X6_forget_5 : decode (zc mm_X6_forget) 5 = .ok (.return_, 1) := by decide +kernel
theorem dd_X6_read_0 : decode (zc mm_X6_read) 0 = .ok (.aload_n 0, 1) := by decide +kernel
theorem dd_X6_read_1 : decode (zc mm_X6_read) 1 = .ok (.getfield 9, 3) := by decide +kernel
theorem dd_X6_read_4 : decode (zc mm_X6_read) 4 = .ok (.iconst 0, 1) := by decide +kernel
theorem dd_X6_read_5 : decode (zc mm_X6_read) 5 = .ok (.invokestatic 22, 3) := by decide +kernel
theorem dd_X6_read_8 : decode (zc mm_X6_read) 8 = .ok (.aload_n 0, 1) := by decide +kernel
theorem dd_X6_read_9 : decode (zc mm_X6_read) 9 = .ok (.iconst 0, 1) := by decide +kernel
theorem dd_X6_read_10 : decode (zc mm_X6_read) 10 = .ok (.putfield 28, 3) := by decide +kernel
theorem dd_X6_read_13 : decode (zc mm_X6_read) 13 = .ok (.iconst 1, 1) := by decide +kernel
theorem dd_X6_read_14 : decode (zc mm_X6_read) 14 = .ok (.istore_n 1, 1) := by decide +kernel
theorem dd_X6_read_15 : decode (zc mm_X6_read) 15 = .ok (.aload_n 0, 1) := by decide +kernel
theorem dd_X6_read_16 : decode (zc mm_X6_read) 16 = .ok (.invokevirtual 31, 3) := by decide +kernel
theorem dd_X6_read_19 : decode (zc mm_X6_read) 19 = .ok (.bipush 45, 2) := by decide +kernel
theorem dd_X6_read_21 : decode (zc mm_X6_read) 21 = .ok (.if_icmp .ne 15, 3) := by decide +kernel
theorem dd_X6_read_24 : decode (zc mm_X6_read) 24 = .ok (.iconst (-1), 1) := by decide +kernel
theorem dd_X6_read_25 : decode (zc mm_X6_read) 25 = .ok (.istore_n 1, 1) := by decide +kernel
theorem dd_X6_read_26 : decode (zc mm_X6_read) 26 = .ok (.aload_n 0, 1) := by decide +kernel
theorem dd_X6_read_27 : decode (zc mm_X6_read) 27 = .ok (.dup, 1) := by decide +kernel
theorem dd_X6_read_28 : decode (zc mm_X6_read) 28 = .ok (.getfield 28, 3) := by decide +kernel
theorem dd_X6_read_31 : decode (zc mm_X6_read) 31 = .ok (.iconst 1, 1) := by decide +kernel
theorem dd_X6_read_32 : decode (zc mm_X6_read) 32 = .ok (.iadd, 1) := by decide +kernel
theorem dd_X6_read_33 : decode (zc mm_X6_read) 33 = .ok (.putfield 28, 3) := by decide +kernel
theorem dd_X6_read_36 : decode (zc mm_X6_read) 36 = .ok (.iconst 0, 1) := by decide +kernel
theorem dd_X6_read_37 : decode (zc mm_X6_read) 37 = .ok (.istore_n 2, 1) := by decide +kernel
theorem dd_X6_read_38 : decode (zc mm_X6_read) 38 = .ok (.iload_n 2, 1) := by decide +kernel
theorem dd_X6_read_39 : decode (zc mm_X6_read) 39 = .ok (.bipush 72, 2) := by decide +kernel
theorem dd_X6_read_41 : decode (zc mm_X6_read) 41 = .ok (.if_icmp .gt 97, 3) := by decide +kernel
theorem dd_X6_read_44 : decode (zc mm_X6_read) 44 = .ok (.aload_n 0, 1) := by decide +kernel
theorem dd_X6_read_45 : decode (zc mm_X6_read) 45 = .ok (.invokevirtual 35, 3) := by decide +kernel
theorem dd_X6_read_48 : decode (zc mm_X6_read) 48 = .ok (.ifCond .ne 8, 3) := by decide +kernel
theorem dd_X6_read_51 : decode (zc mm_X6_read) 51 = .ok (.aload_n 0, 1) := by decide +kernel
theorem dd_X6_read_52 : decode (zc mm_X6_read) 52 = .ok (.getfield 28, 3) := by decide +kernel
theorem dd_X6_read_55 : decode (zc mm_X6_read) 55 = .ok (.ireturn, 1) := by decide +kernel
theorem dd_X6_read_56 : decode (zc mm_X6_read) 56 = .ok (.aload_n 0, 1) := by decide +kernel
theorem dd_X6_read_57 : decode (zc mm_X6_read) 57 = .ok (.getfield 9, 3) := by decide +kernel
theorem dd_X6_read_60 : decode (zc mm_X6_read) 60 = .ok (.iconst 5, 1) := by decide +kernel
theorem dd_X6_read_61 : decode (zc mm_X6_read) 61 = .ok (.aload_n 0, 1) := by decide +kernel
theorem dd_X6_read_62 : decode (zc mm_X6_read) 62 = .ok (.getfield 39, 3) := by decide +kernel
theorem dd_X6_read_65 : decode (zc mm_X6_read) 65 = .ok (.imul, 1) := by decide +kernel
theorem dd_X6_read_66 : decode (zc mm_X6_read) 66 = .ok (.aload_n 0, 1) := by decide +kernel
theorem dd_X6_read_67 : decode (zc mm_X6_read) 67 = .ok (.getfield 42, 3) := by decide +kernel
theorem dd_X6_read_70 : decode (zc mm_X6_read) 70 = .ok (.iadd, 1) := by decide +kernel
theorem dd_X6_read_71 : decode (zc mm_X6_read) 71 = .ok (.dup2, 1) := by decide +kernel
theorem dd_X6_read_72 : decode (zc mm_X6_read) 72 = .ok (.iaload, 1) := by decide +kernel
theorem dd_X6_read_73 : decode (zc mm_X6_read) 73 = .ok (.iload_n 1, 1) := by decide +kernel
theorem dd_X6_read_74 : decode (zc mm_X6_read) 74 = .ok (.aload_n 0, 1) := by decide +kernel
theorem dd_X6_read_75 : decode (zc mm_X6_read) 75 = .ok (.getfield 45, 3) := by decide +kernel
theorem dd_X6_read_78 : decode (zc mm_X6_read) 78 = .ok (.imul, 1) := by decide +kernel
theorem dd_X6_read_79 : decode (zc mm_X6_read) 79 = .ok (.iadd, 1) := by decide +kernel
theorem dd_X6_read_80 : decode (zc mm_X6_read) 80 = .ok (.iastore, 1) := by decide +kernel
theorem dd_X6_read_81 : decode (zc mm_X6_read) 81 = .ok (.aload_n 0, 1) := by decide +kernel
theorem dd_X6_read_82 : decode (zc mm_X6_read) 82 = .ok (.invokevirtual 31, 3) := by decide +kernel
theorem dd_X6_read_85 : decode (zc mm_X6_read) 85 = .ok (.istore_n 3, 1) := by decide +kernel
theorem dd_X6_read_86 : decode (zc mm_X6_read) 86 = .ok (.iload_n 3, 1) := by decide +kernel
theorem dd_X6_read_87 : decode (zc mm_X6_read) 87 = .ok (.iconst (-1), 1) := by decide +kernel
theorem dd_X6_read_88 : decode (zc mm_X6_read) 88 = .ok (.if_icmp .ne 5, 3) := by decide +kernel
theorem dd_X6_read_91 : decode (zc mm_X6_read) 91 = .ok (.iconst (-1), 1) := by decide +kernel
theorem dd_X6_read_92 : decode (zc mm_X6_read) 92 = .ok (.ireturn, 1) := by decide +kernel
theorem dd_X6_read_93 : decode (zc mm_X6_read) 93 = .ok (.iload_n 3, 1) := by decide +kernel
theorem dd_X6_read_94 : decode (zc mm_X6_read) 94 = .ok (.bipush 43, 2) := by decide +kernel
theorem dd_X6_read_96 : decode (zc mm_X6_read) 96 = .ok (.if_icmp .eq 14, 3) := by decide +kernel
theorem dd_X6_read_99 : decode (zc mm_X6_read) 99 = .ok (.iload_n 3, 1) := by decide +kernel
theorem dd_X6_read_100 : decode (zc mm_X6_read) 100 = .ok (.bipush 45, 2) := by decide +kernel
theorem dd_X6_read_102 : decode (zc mm_X6_read) 102 = .ok (.if_icmp .eq 8, 3) := by decide +kernel
theorem dd_X6_read_105 : decode (zc mm_X6_read) 105 = .ok (.aload_n 0, 1) := by decide +kernel
theorem dd_X6_read_106 : decode (zc mm_X6_read) 106 = .ok (.getfield 28, 3) := by decide +kernel
theorem dd_X6_read_109 : decode (zc mm_X6_read) 109 = .ok (.ireturn, 1) := by decide +kernel
theorem dd_X6_read_110 : decode (zc mm_X6_read) 110 = .ok (.iload_n 3, 1) := by decide +kernel
theorem dd_X6_read_111 : decode (zc mm_X6_read) 111 = .ok (.bipush 43, 2) := by decide +kernel
theorem dd_X6_read_113 : decode (zc mm_X6_read) 113 = .ok (.if_icmp .ne 7, 3) := by decide +kernel
theorem dd_X6_read_116 : decode (zc mm_X6_read) 116 = .ok (.iconst 1, 1) := by decide +kernel
theorem dd_X6_read_117 : decode (zc mm_X6_read) 117 = .ok (.goto 4, 3) := by decide +kernel
theorem dd_X6_read_120 : decode (zc mm_X6_read) 120 = .ok (.iconst (-1), 1) := by decide +kernel
theorem dd_X6_read_121 : decode (zc mm_X6_read) 121 = .ok (.istore_n 1, 1) := by decide +kernel
theorem dd_X6_read_122 : decode (zc mm_X6_read) 122 = .ok (.aload_n 0, 1) := by decide +kernel
theorem dd_X6_read_123 : decode (zc mm_X6_read) 123 = .ok (.dup, 1) := by decide +kernel
theorem dd_X6_read_124 : decode (zc mm_X6_read) 124 = .ok (.getfield 28, 3) := by decide +kernel
theorem dd_X6_read_127 : decode (zc mm_X6_read) 127 = .ok (.iconst 1, 1) := by decide +kernel
theorem dd_X6_read_128 : decode (zc mm_X6_read) 128 = .ok (.iadd, 1) := by decide +kernel
theorem dd_X6_read_129 : decode (zc mm_X6_read) 129 = .ok (.putfield 28, 3) := by decide +kernel
theorem dd_X6_read_132 : decode (zc mm_X6_read) 132 = .ok (.iinc 2 1, 3) := by decide +kernel
theorem dd_X6_read_135 : decode (zc mm_X6_read) 135 = .ok (.goto (-97), 3) := by decide +kernel
theorem dd_X6_read_138 : decode (zc mm_X6_read) 138 = .ok (.aload_n 0, 1) := by decide +kernel
theorem dd_X6_read_139 : decode (zc mm_X6_read) 139 = .ok (.getfield 28, 3) := by decide +kernel
theorem dd_X6_read_142 : decode (zc mm_X6_read) 142 = .ok (.ireturn, 1) := by decide +kernel
theorem dd_X6_next_0 : decode (zc mm_X6_next) 0 = .ok (.aload_n 0, 1) := by decide +kernel
theorem dd_X6_next_1 : decode (zc mm_X6_next) 1 = .ok (.getfield 28, 3) := by decide +kernel
theorem dd_X6_next_4 : decode (zc mm_X6_next) 4 = .ok (.ifCond .lt 26, 3) := by decide +kernel
theorem dd_X6_next_7 : decode (zc mm_X6_next) 7 = .ok (.aload_n 0, 1) := by decide +kernel
theorem dd_X6_next_8 : decode (zc mm_X6_next) 8 = .ok (.getfield 28, 3) := by decide +kernel
theorem dd_X6_next_11 : decode (zc mm_X6_next) 11 = .ok (.aload_n 0, 1) := by decide +kernel
theorem dd_X6_next_12 : decode (zc mm_X6_next) 12 = .ok (.getfield 18, 3) := by decide +kernel
theorem dd_X6_next_15 : decode (zc mm_X6_next) 15 = .ok (.if_icmp .ge 15, 3) := by decide +kernel
theorem dd_X6_next_18 : decode (zc mm_X6_next) 18 = .ok (.aload_n 0, 1) := by decide +kernel
theorem dd_X6_next_19 : decode (zc mm_X6_next) 19 = .ok (.getfield 15, 3) := by decide +kernel
theorem dd_X6_next_22 : decode (zc mm_X6_next) 22 = .ok (.aload_n 0, 1) := by decide +kernel
theorem dd_X6_next_23 : decode (zc mm_X6_next) 23 = .ok (.getfield 28, 3) := by decide +kernel
theorem dd_X6_next_26 : decode (zc mm_X6_next) 26 = .ok (.iaload, 1) := by decide +kernel
theorem dd_X6_next_27 : decode (zc mm_X6_next) 27 = .ok (.goto 4, 3) := by decide +kernel
theorem dd_X6_next_30 : decode (zc mm_X6_next) 30 = .ok (.iconst (-1), 1) := by decide +kernel
theorem dd_X6_next_31 : decode (zc mm_X6_next) 31 = .ok (.ireturn, 1) := by decide +kernel
theorem dd_X6_readTerm_0 : decode (zc mm_X6_readTerm) 0 = .ok (.aload_n 0, 1) := by decide +kernel
theorem dd_X6_readTerm_1 : decode (zc mm_X6_readTerm) 1 = .ok (.getfield 28, 3) := by decide +kernel
theorem dd_X6_readTerm_4 : decode (zc mm_X6_readTerm) 4 = .ok (.istore_n 1, 1) := by decide +kernel
theorem dd_X6_readTerm_5 : decode (zc mm_X6_readTerm) 5 = .ok (.aload_n 0, 1) := by decide +kernel
theorem dd_X6_readTerm_6 : decode (zc mm_X6_readTerm) 6 = .ok (.invokevirtual 48, 3) := by decide +kernel
theorem dd_X6_readTerm_9 : decode (zc mm_X6_readTerm) 9 = .ok (.aload_n 0, 1) := by decide +kernel
theorem dd_X6_readTerm_10 : decode (zc mm_X6_readTerm) 10 = .ok (.aload_n 0, 1) := by decide +kernel
theorem dd_X6_readTerm_11 : decode (zc mm_X6_readTerm) 11 = .ok (.bipush 120, 2) := by decide +kernel
theorem dd_X6_readTerm_13 : decode (zc mm_X6_readTerm) 13 = .ok (.invokevirtual 51, 3) := by decide +kernel
theorem dd_X6_readTerm_16 : decode (zc mm_X6_readTerm) 16 = .ok (.putfield 39, 3) := by decide +kernel
theorem dd_X6_readTerm_19 : decode (zc mm_X6_readTerm) 19 = .ok (.aload_n 0, 1) := by decide +kernel
theorem dd_X6_readTerm_20 : decode (zc mm_X6_readTerm) 20 = .ok (.getfield 39, 3) := by decide +kernel
theorem dd_X6_readTerm_23 : decode (zc mm_X6_readTerm) 23 = .ok (.ifCond .ge 5, 3) := by decide +kernel
theorem dd_X6_readTerm_26 : decode (zc mm_X6_readTerm) 26 = .ok (.iconst 0, 1) := by decide +kernel
theorem dd_X6_readTerm_27 : decode (zc mm_X6_readTerm) 27 = .ok (.ireturn, 1) := by decide +kernel
theorem dd_X6_readTerm_28 : decode (zc mm_X6_readTerm) 28 = .ok (.aload_n 0, 1) := by decide +kernel
theorem dd_X6_readTerm_29 : decode (zc mm_X6_readTerm) 29 = .ok (.aload_n 0, 1) := by decide +kernel
theorem dd_X6_readTerm_30 : decode (zc mm_X6_readTerm) 30 = .ok (.bipush 121, 2) := by decide +kernel
theorem dd_X6_readTerm_32 : decode (zc mm_X6_readTerm) 32 = .ok (.invokevirtual 51, 3) := by decide +kernel
theorem dd_X6_readTerm_35 : decode (zc mm_X6_readTerm) 35 = .ok (.putfield 42, 3) := by decide +kernel
theorem dd_X6_readTerm_38 : decode (zc mm_X6_readTerm) 38 = .ok (.aload_n 0, 1) := by decide +kernel
theorem dd_X6_readTerm_39 : decode (zc mm_X6_readTerm) 39 = .ok (.getfield 42, 3) := by decide +kernel
theorem dd_X6_readTerm_42 : decode (zc mm_X6_readTerm) 42 = .ok (.ifCond .lt 15, 3) := by decide +kernel
theorem dd_X6_readTerm_45 : decode (zc mm_X6_readTerm) 45 = .ok (.aload_n 0, 1) := by decide +kernel
theorem dd_X6_readTerm_46 : decode (zc mm_X6_readTerm) 46 = .ok (.getfield 28, 3) := by decide +kernel
theorem dd_X6_readTerm_49 : decode (zc mm_X6_readTerm) 49 = .ok (.iload_n 1, 1) := by decide +kernel
theorem dd_X6_readTerm_50 : decode (zc mm_X6_readTerm) 50 = .ok (.if_icmp .le 7, 3) := by decide +kernel
theorem dd_X6_readTerm_53 : decode (zc mm_X6_readTerm) 53 = .ok (.iconst 1, 1) := by decide +kernel
theorem dd_X6_readTerm_54 : decode (zc mm_X6_readTerm) 54 = .ok (.goto 4, 3) := by decide +kernel
theorem dd_X6_readTerm_57 : decode (zc mm_X6_readTerm) 57 = .ok (.iconst 0, 1) := by decide +kernel
theorem dd_X6_readTerm_58 : decode (zc mm_X6_readTerm) 58 = .ok (.ireturn, 1) := by decide +kernel
theorem dd_X6_readNumber_0 : decode (zc mm_X6_readNumber) 0 = .ok (.aload_n 0, 1) := by decide +kernel
theorem dd_X6_readNumber_1 : decode (zc mm_X6_readNumber) 1 = .ok (.iconst 0, 1) := by decide +kernel
theorem dd_X6_readNumber_2 : decode (zc mm_X6_readNumber) 2 = .ok (.putfield 45, 3) := by decide +kernel
theorem dd_X6_readNumber_5 : decode (zc mm_X6_readNumber) 5 = .ok (.aload_n 0, 1) := by decide +kernel
theorem dd_X6_readNumber_6 : decode (zc mm_X6_readNumber) 6 = .ok (.getfield 28, 3) := by decide +kernel
theorem dd_X6_readNumber_9 : decode (zc mm_X6_readNumber) 9 = .ok (.istore_n 1, 1) := by decide +kernel
theorem dd_X6_readNumber_10 : decode (zc mm_X6_readNumber) 10 = .ok (.aload_n 0, 1) := by decide +kernel
theorem dd_X6_readNumber_11 : decode (zc mm_X6_readNumber) 11 = .ok (.getfield 28, 3) := by decide +kernel
theorem dd_X6_readNumber_14 : decode (zc mm_X6_readNumber) 14 = .ok (.iload_n 1, 1) := by decide +kernel
theorem dd_X6_readNumber_15 : decode (zc mm_X6_readNumber) 15 = .ok (.iconst 2, 1) := by decide +kernel
theorem dd_X6_readNumber_16 : decode (zc mm_X6_readNumber) 16 = .ok (.iadd, 1) := by decide +kernel
theorem dd_X6_readNumber_17 : decode (zc mm_X6_readNumber) 17 = .ok (.if_icmp .ge 53, 3) := by decide +kernel
theorem dd_X6_readNumber_20 : decode (zc mm_X6_readNumber) 20 = .ok (.aload_n 0, 1) := by decide +kernel
theorem dd_X6_readNumber_21 : decode (zc mm_X6_readNumber) 21 = .ok (.invokevirtual 31, 3) := by decide +kernel
theorem dd_X6_readNumber_24 : decode (zc mm_X6_readNumber) 24 = .ok (.bipush 48, 2) := by decide +kernel
theorem dd_X6_readNumber_26 : decode (zc mm_X6_readNumber) 26 = .ok (.if_icmp .lt 44, 3) := by decide +kernel
theorem dd_X6_readNumber_29 : decode (zc mm_X6_readNumber) 29 = .ok (.aload_n 0, 1) := by decide +kernel
theorem dd_X6_readNumber_30 : decode (zc mm_X6_readNumber) 30 = .ok (.invokevirtual 31, 3) := by decide +kernel
theorem dd_X6_readNumber_33 : decode (zc mm_X6_readNumber) 33 = .ok (.bipush 57, 2) := by decide +kernel
theorem dd_X6_readNumber_35 : decode (zc mm_X6_readNumber) 35 = .ok (.if_icmp .gt 35, 3) := by decide +kernel
theorem dd_X6_readNumber_38 : decode (zc mm_X6_readNumber) 38 = .ok (.aload_n 0, 1) := by decide +kernel
theorem dd_X6_readNumber_39 : decode (zc mm_X6_readNumber) 39 = .ok (.bipush 10, 2) := by decide +kernel
theorem dd_X6_readNumber_41 : decode (zc mm_X6_readNumber) 41 = .ok (.aload_n 0, 1) := by decide +kernel
theorem dd_X6_readNumber_42 : decode (zc mm_X6_readNumber) 42 = .ok (.getfield 45, 3) := by decide +kernel
theorem dd_X6_readNumber_45 : decode (zc mm_X6_readNumber) 45 = .ok (.imul, 1) := by decide +kernel
theorem dd_X6_readNumber_46 : decode (zc mm_X6_readNumber) 46 = .ok (.aload_n 0, 1) := by decide +kernel
theorem dd_X6_readNumber_47 : decode (zc mm_X6_readNumber) 47 = .ok (.invokevirtual 31, 3) := by decide +kernel
theorem dd_X6_readNumber_50 : decode (zc mm_X6_readNumber) 50 = .ok (.iadd, 1) := by decide +kernel
theorem dd_X6_readNumber_51 : decode (zc mm_X6_readNumber) 51 = .ok (.bipush 48, 2) := by decide +kernel
theorem dd_X6_readNumber_53 : decode (zc mm_X6_readNumber) 53 = .ok (.isub, 1) := by decide +kernel
theorem dd_X6_readNumber_54 : decode (zc mm_X6_readNumber) 54 = .ok (.putfield 45, 3) := by decide +kernel
theorem dd_X6_readNumber_57 : decode (zc mm_X6_readNumber) 57 = .ok (.aload_n 0, 1) := by decide +kernel
theorem dd_X6_readNumber_58 : decode (zc mm_X6_readNumber) 58 = .ok (.dup, 1) := by decide +kernel
theorem dd_X6_readNumber_59 : decode (zc mm_X6_readNumber) 59 = .ok (.getfield 28, 3) := by decide +kernel
theorem dd_X6_readNumber_62 : decode (zc mm_X6_readNumber) 62 = .ok (.iconst 1, 1) := by decide +kernel
theorem dd_X6_readNumber_63 : decode (zc mm_X6_readNumber) 63 = .ok (.iadd, 1) := by decide +kernel
theorem dd_X6_readNumber_64 : decode (zc mm_X6_readNumber) 64 = .ok (.putfield 28, 3) := by decide +kernel
theorem dd_X6_readNumber_67 : decode (zc mm_X6_readNumber) 67 = .ok (.goto (-57), 3) := by decide +kernel
theorem dd_X6_readNumber_70 : decode (zc mm_X6_readNumber) 70 = .ok (.aload_n 0, 1) := by decide +kernel
theorem dd_X6_readNumber_71 : decode (zc mm_X6_readNumber) 71 = .ok (.getfield 28, 3) := by decide +kernel
theorem dd_X6_readNumber_74 : decode (zc mm_X6_readNumber) 74 = .ok (.iload_n 1, 1) := by decide +kernel
theorem dd_X6_readNumber_75 : decode (zc mm_X6_readNumber) 75 = .ok (.if_icmp .ne 8, 3) := by decide +kernel
theorem dd_X6_readNumber_78 : decode (zc mm_X6_readNumber) 78 = .ok (.aload_n 0, 1) := by decide +kernel
theorem dd_X6_readNumber_79 : decode (zc mm_X6_readNumber) 79 = .ok (.iconst 1, 1) := by decide +kernel
theorem dd_X6_readNumber_80 : decode (zc mm_X6_readNumber) 80 = .ok (.putfield 45, 3) := by decide +kernel
theorem dd_X6_readNumber_83 : decode (zc mm_X6_readNumber) 83 = .ok (.return_, 1) := by decide +kernel
theorem dd_X6_readPower_0 : decode (zc mm_X6_readPower) 0 = .ok (.aload_n 0, 1) := by decide +kernel
theorem dd_X6_readPower_1 : decode (zc mm_X6_readPower) 1 = .ok (.invokevirtual 31, 3) := by decide +kernel
theorem dd_X6_readPower_4 : decode (zc mm_X6_readPower) 4 = .ok (.iload_n 1, 1) := by decide +kernel
theorem dd_X6_readPower_5 : decode (zc mm_X6_readPower) 5 = .ok (.if_icmp .eq 5, 3) := by decide +kernel
theorem dd_X6_readPower_8 : decode (zc mm_X6_readPower) 8 = .ok (.iconst 0, 1) := by decide +kernel
theorem dd_X6_readPower_9 : decode (zc mm_X6_readPower) 9 = .ok (.ireturn, 1) := by decide +kernel
theorem dd_X6_readPower_10 : decode (zc mm_X6_readPower) 10 = .ok (.aload_n 0, 1) := by decide +kernel
theorem dd_X6_readPower_11 : decode (zc mm_X6_readPower) 11 = .ok (.dup, 1) := by decide +kernel
theorem dd_X6_readPower_12 : decode (zc mm_X6_readPower) 12 = .ok (.getfield 28, 3) := by decide +kernel
theorem dd_X6_readPower_15 : decode (zc mm_X6_readPower) 15 = .ok (.iconst 1, 1) := by decide +kernel
theorem dd_X6_readPower_16 : decode (zc mm_X6_readPower) 16 = .ok (.iadd, 1) := by decide +kernel
theorem dd_X6_readPower_17 : decode (zc mm_X6_readPower) 17 = .ok (.putfield 28, 3) := by decide +kernel
theorem dd_X6_readPower_20 : decode (zc mm_X6_readPower) 20 = .ok (.aload_n 0, 1) := by decide +kernel
theorem dd_X6_readPower_21 : decode (zc mm_X6_readPower) 21 = .ok (.invokevirtual 31, 3) := by decide +kernel
theorem dd_X6_readPower_24 : decode (zc mm_X6_readPower) 24 = .ok (.bipush 94, 2) := by decide +kernel
theorem dd_X6_readPower_26 : decode (zc mm_X6_readPower) 26 = .ok (.if_icmp .eq 5, 3) := by decide +kernel
theorem dd_X6_readPower_29 : decode (zc mm_X6_readPower) 29 = .ok (.iconst 1, 1) := by decide +kernel
theorem dd_X6_readPower_30 : decode (zc mm_X6_readPower) 30 = .ok (.ireturn, 1) := by decide +kernel
theorem dd_X6_readPower_31 : decode (zc mm_X6_readPower) 31 = .ok (.aload_n 0, 1) := by decide +kernel
theorem dd_X6_readPower_32 : decode (zc mm_X6_readPower) 32 = .ok (.dup, 1) := by decide +kernel
theorem dd_X6_readPower_33 : decode (zc mm_X6_readPower) 33 = .ok (.getfield 28, 3) := by decide +kernel
theorem dd_X6_readPower_36 : decode (zc mm_X6_readPower) 36 = .ok (.iconst 1, 1) := by decide +kernel
theorem dd_X6_readPower_37 : decode (zc mm_X6_readPower) 37 = .ok (.iadd, 1) := by decide +kernel
theorem dd_X6_readPower_38 : decode (zc mm_X6_readPower) 38 = .ok (.putfield 28, 3) := by decide +kernel
theorem dd_X6_readPower_41 : decode (zc mm_X6_readPower) 41 = .ok (.aload_n 0, 1) := by decide +kernel
theorem dd_X6_readPower_42 : decode (zc mm_X6_readPower) 42 = .ok (.invokevirtual 31, 3) := by decide +kernel
theorem dd_X6_readPower_45 : decode (zc mm_X6_readPower) 45 = .ok (.bipush 48, 2) := by decide +kernel
theorem dd_X6_readPower_47 : decode (zc mm_X6_readPower) 47 = .ok (.isub, 1) := by decide +kernel
theorem dd_X6_readPower_48 : decode (zc mm_X6_readPower) 48 = .ok (.istore_n 2, 1) := by decide +kernel
theorem dd_X6_readPower_49 : decode (zc mm_X6_readPower) 49 = .ok (.iload_n 2, 1) := by decide +kernel
theorem dd_X6_readPower_50 : decode (zc mm_X6_readPower) 50 = .ok (.iconst 1, 1) := by decide +kernel
theorem dd_X6_readPower_51 : decode (zc mm_X6_readPower) 51 = .ok (.if_icmp .lt 8, 3) := by decide +kernel
theorem dd_X6_readPower_54 : decode (zc mm_X6_readPower) 54 = .ok (.iload_n 2, 1) := by decide +kernel
theorem dd_X6_readPower_55 : decode (zc mm_X6_readPower) 55 = .ok (.iconst 4, 1) := by decide +kernel
theorem dd_X6_readPower_56 : decode (zc mm_X6_readPower) 56 = .ok (.if_icmp .le 5, 3) := by decide +kernel
theorem dd_X6_readPower_59 : decode (zc mm_X6_readPower) 59 = .ok (.iconst (-1), 1) := by decide +kernel
theorem dd_X6_readPower_60 : decode (zc mm_X6_readPower) 60 = .ok (.ireturn, 1) := by decide +kernel
theorem dd_X6_readPower_61 : decode (zc mm_X6_readPower) 61 = .ok (.aload_n 0, 1) := by decide +kernel
theorem dd_X6_readPower_62 : decode (zc mm_X6_readPower) 62 = .ok (.dup, 1) := by decide +kernel
theorem dd_X6_readPower_63 : decode (zc mm_X6_readPower) 63 = .ok (.getfield 28, 3) := by decide +kernel
theorem dd_X6_readPower_66 : decode (zc mm_X6_readPower) 66 = .ok (.iconst 1, 1) := by decide +kernel
theorem dd_X6_readPower_67 : decode (zc mm_X6_readPower) 67 = .ok (.iadd, 1) := by decide +kernel
theorem dd_X6_readPower_68 : decode (zc mm_X6_readPower) 68 = .ok (.putfield 28, 3) := by decide +kernel
theorem dd_X6_readPower_71 : decode (zc mm_X6_readPower) 71 = .ok (.iload_n 2, 1) := by decide +kernel
theorem dd_X6_readPower_72 : decode (zc mm_X6_readPower) 72 = .ok (.ireturn, 1) := by decide +kernel
theorem dd_X7_init_0 : decode (zc mm_X7_init) 0 = .ok (.aload_n 0, 1) := by decide +kernel
theorem dd_X7_init_1 : decode (zc mm_X7_init) 1 = .ok (.invokespecial 3, 3) := by decide +kernel
theorem dd_X7_init_4 : decode (zc mm_X7_init) 4 = .ok (.aload_n 0, 1) := by decide +kernel
theorem dd_X7_init_5 : decode (zc mm_X7_init) 5 = .ok (.iconst 5, 1) := by decide +kernel
theorem dd_X7_init_6 : decode (zc mm_X7_init) 6 = .ok (.newarray .int, 2) := by decide +kernel
theorem dd_X7_init_8 : decode (zc mm_X7_init) 8 = .ok (.putfield 9, 3) := by decide +kernel
theorem dd_X7_init_11 : decode (zc mm_X7_init) 11 = .ok (.aload_n 0, 1) := by decide +kernel
theorem dd_X7_init_12 : decode (zc mm_X7_init) 12 = .ok (.iconst 5, 1) := by decide +kernel
theorem dd_X7_init_13 : decode (zc mm_X7_init) 13 = .ok (.newarray .int, 2) := by decide +kernel
theorem dd_X7_init_15 : decode (zc mm_X7_init) 15 = .ok (.putfield 15, 3) := by decide +kernel
theorem dd_X7_init_18 : decode (zc mm_X7_init) 18 = .ok (.return_, 1) := by decide +kernel
theorem dd_X7_tryAll_0 : decode (zc mm_X7_tryAll) 0 = .ok (.aload_n 0, 1) := by decide +kernel
theorem dd_X7_tryAll_1 : decode (zc mm_X7_tryAll) 1 = .ok (.iconst 0, 1) := by decide +kernel
theorem dd_X7_tryAll_2 : decode (zc mm_X7_tryAll) 2 = .ok (.putfield 18, 3) := by decide +kernel
theorem dd_X7_tryAll_5 : decode (zc mm_X7_tryAll) 5 = .ok (.aload_n 0, 1) := by decide +kernel
theorem dd_X7_tryAll_6 : decode (zc mm_X7_tryAll) 6 = .ok (.iconst 0, 1) := by decide +kernel
theorem dd_X7_tryAll_7 : decode (zc mm_X7_tryAll) 7 = .ok (.putfield 22, 3) := by decide +kernel
theorem dd_X7_tryAll_10 : decode (zc mm_X7_tryAll) 10 = .ok (.aload_n 0, 1) := by decide +kernel
theorem dd_X7_tryAll_11 : decode (zc mm_X7_tryAll) 11 = .ok (.bipush (-9), 2) := by decide +kernel
theorem dd_X7_tryAll_13 : decode (zc mm_X7_tryAll) 13 = .ok (.putfield 25, 3) := by decide +kernel
theorem dd_X7_tryAll_16 : decode (zc mm_X7_tryAll) 16 = .ok (.aload_n 0, 1) := by decide +kernel
theorem dd_X7_tryAll_17 : decode (zc mm_X7_tryAll) 17 = .ok (.iconst 0, 1) := by decide +kernel
theorem dd_X7_tryAll_18 : decode (zc mm_X7_tryAll) 18 = .ok (.putfield 28, 3) := by decide +kernel
theorem dd_X7_tryAll_21 : decode (zc mm_X7_tryAll) 21 = .ok (.aload_n 0, 1) := by decide +kernel
theorem dd_X7_tryAll_22 : decode (zc mm_X7_tryAll) 22 = .ok (.iconst 0, 1) := by decide +kernel
theorem dd_X7_tryAll_23 : decode (zc mm_X7_tryAll) 23 = .ok (.putfield 31, 3) := by decide +kernel
theorem dd_X7_tryAll_26 : decode (zc mm_X7_tryAll) 26 = .ok (.iconst 0, 1) := by decide +kernel
theorem dd_X7_tryAll_27 : decode (zc mm_X7_tryAll) 27 = .ok (.istore 5, 2) := by decide +kernel
theorem dd_X7_tryAll_29 : decode (zc mm_X7_tryAll) 29 = .ok (.iload 5, 2) := by decide +kernel
theorem dd_X7_tryAll_31 : decode (zc mm_X7_tryAll) 31 = .ok (.iload 4, 2) := by decide +kernel
theorem dd_X7_tryAll_33 : decode (zc mm_X7_tryAll) 33 = .ok (.if_icmp .ge 88, 3) := by decide +kernel
theorem dd_X7_tryAll_36 : decode (zc mm_X7_tryAll) 36 = .ok (.aload_n 1, 1) := by decide +kernel
theorem dd_X7_tryAll_37 : decode (zc mm_X7_tryAll) 37 = .ok (.iconst 1, 1) := by decide +kernel
theorem dd_X7_tryAll_38 : decode (zc mm_X7_tryAll) 38 = .ok (.iload 5, 2) := by decide +kernel
theorem dd_X7_tryAll_40 : decode (zc mm_X7_tryAll) 40 = .ok (.iload 4, 2) := by decide +kernel
theorem dd_X7_tryAll_42 : decode (zc mm_X7_tryAll) 42 = .ok (.aload_n 0, 1) := by decide +kernel
theorem dd_X7_tryAll_43 : decode (zc mm_X7_tryAll) 43 = .ok (.getfield 9, 3) := by decide +kernel
theorem dd_X7_tryAll_46 : decode (zc mm_X7_tryAll) 46 = .ok (.invokevirtual 34, 3) := by decide +kernel
theorem dd_X7_tryAll_49 : decode (zc mm_X7_tryAll) 49 = .ok (.aload_n 2, 1) := by decide +kernel
theorem dd_X7_tryAll_50 : decode (zc mm_X7_tryAll) 50 = .ok (.iconst 1, 1) := by decide +kernel
theorem dd_X7_tryAll_51 : decode (zc mm_X7_tryAll) 51 = .ok (.iload 5, 2) := by decide +kernel
theorem dd_X7_tryAll_53 : decode (zc mm_X7_tryAll) 53 = .ok (.iload 4, 2) := by decide +kernel
theorem dd_X7_tryAll_55 : decode (zc mm_X7_tryAll) 55 = .ok (.aload_n 0, 1) := by decide +kernel
theorem dd_X7_tryAll_56 : decode (zc mm_X7_tryAll) 56 = .ok (.getfield 15, 3) := by decide +kernel
theorem dd_X7_tryAll_59 : decode (zc mm_X7_tryAll) 59 = .ok (.invokevirtual 34, 3) := by decide +kernel
theorem dd_X7_tryAll_62 : decode (zc mm_X7_tryAll) 62 = .ok (.iconst 0, 1) := by decide +kernel
theorem dd_X7_tryAll_63 : decode (zc mm_X7_tryAll) 63 = .ok (.istore 6, 2) := by decide +kernel
theorem dd_X7_tryAll_65 : decode (zc mm_X7_tryAll) 65 = .ok (.iload 6, 2) := by decide +kernel
theorem dd_X7_tryAll_67 : decode (zc mm_X7_tryAll) 67 = .ok (.iload 4, 2) := by decide +kernel
theorem dd_X7_tryAll_69 : decode (zc mm_X7_tryAll) 69 = .ok (.if_icmp .ge 46, 3) := by decide +kernel
theorem dd_X7_tryAll_72 : decode (zc mm_X7_tryAll) 72 = .ok (.aload_n 0, 1) := by decide +kernel
theorem dd_X7_tryAll_73 : decode (zc mm_X7_tryAll) 73 = .ok (.getfield 9, 3) := by decide +kernel
theorem dd_X7_tryAll_76 : decode (zc mm_X7_tryAll) 76 = .ok (.iload 6, 2) := by decide +kernel
theorem dd_X7_tryAll_78 : decode (zc mm_X7_tryAll) 78 = .ok (.iload 4, 2) := by decide +kernel
theorem dd_X7_tryAll_80 : decode (zc mm_X7_tryAll) 80 = .ok (.invokestatic 40, 3) := by decide +kernel
theorem dd_X7_tryAll_83 : decode (zc mm_X7_tryAll) 83 = .ok (.ifCond .ne 26, 3) := by decide +kernel
theorem dd_X7_tryAll_86 : decode (zc mm_X7_tryAll) 86 = .ok (.aload_n 0, 1) := by decide +kernel
theorem dd_X7_tryAll_87 : decode (zc mm_X7_tryAll) 87 = .ok (.getfield 15, 3) := by decide +kernel
theorem dd_X7_tryAll_90 : decode (zc mm_X7_tryAll) 90 = .ok (.iload 6, 2) := by decide +kernel
theorem dd_X7_tryAll_92 : decode (zc mm_X7_tryAll) 92 = .ok (.iload 4, 2) := by decide +kernel
theorem dd_X7_tryAll_94 : decode (zc mm_X7_tryAll) 94 = .ok (.invokestatic 40, 3) := by decide +kernel
theorem dd_X7_tryAll_97 : decode (zc mm_X7_tryAll) 97 = .ok (.ifCond .ne 12, 3) := by decide +kernel
theorem dd_X7_tryAll_100 : decode (zc mm_X7_tryAll) 100 = .ok (.aload_n 0, 1) := by decide +kernel
theorem dd_X7_tryAll_101 : decode (zc mm_X7_tryAll) 101 = .ok (.iload 5, 2) := by decide +kernel
theorem dd_X7_tryAll_103 : decode (zc mm_X7_tryAll) 103 = .ok (.iload 6, 2) := by decide +kernel
theorem dd_X7_tryAll_105 : decode (zc mm_X7_tryAll) 105 = .ok (.iload_n 3, 1) := by decide +kernel
theorem dd_X7_tryAll_106 : decode (zc mm_X7_tryAll) 106 = .ok (.invokevirtual 46, 3) := by decide +kernel
theorem dd_X7_tryAll_109 : decode (zc mm_X7_tryAll) 109 = .ok (.iinc 6 1, 3) := by decide +kernel
theorem dd_X7_tryAll_112 : decode (zc mm_X7_tryAll) 112 = .ok (.goto (-47), 3) := by decide +kernel
theorem dd_X7_tryAll_115 : decode (zc mm_X7_tryAll) 115 = .ok (.iinc 5 1, 3) := by decide +kernel
theorem dd_X7_tryAll_118 : decode (zc mm_X7_tryAll) 118 = .ok (.goto (-89), 3) := by decide +kernel
theorem dd_X7_tryAll_121 : decode (zc mm_X7_tryAll) 121 = .ok (.return_, 1) := by decide +kernel
theorem dd_X7_note_0 : decode (zc mm_X7_note) 0 = .ok (.aload_n 0, 1) := by decide +kernel
theorem dd_X7_note_1 : decode (zc mm_X7_note) 1 = .ok (.getfield 18, 3) := by decide +kernel
theorem dd_X7_note_4 : decode (zc mm_X7_note) 4 = .ok (.iload_n 3, 1) := by decide +kernel
theorem dd_X7_note_5 : decode (zc mm_X7_note) 5 = .ok (.if_icmp .ne 13, 3) := by decide +kernel
theorem dd_X7_note_8 : decode (zc mm_X7_note) 8 = .ok (.aload_n 0, 1) := by decide +kernel
theorem dd_X7_note_9 : decode (zc mm_X7_note) 9 = .ok (.bipush 100, 2) := by decide +kernel
theorem dd_X7_note_11 : decode (zc mm_X7_note) 11 = .ok (.iload_n 1, 1) := by decide +kernel
theorem dd_X7_note_12 : decode (zc mm_X7_note) 12 = .ok (.imul, 1) := by decide +kernel
theorem dd_X7_note_13 : decode (zc mm_X7_note) 13 = .ok (.iload_n 2, 1) := by decide +kernel
theorem dd_X7_note_14 : decode (zc mm_X7_note) 14 = .ok (.iadd, 1) := by decide +kernel
theorem dd_X7_note_15 : decode (zc mm_X7_note) 15 = .ok (.putfield 25, 3) := by decide +kernel
theorem dd_X7_note_18 : decode (zc mm_X7_note) 18 = .ok (.aload_n 0, 1) := by decide +kernel
theorem dd_X7_note_19 : decode (zc mm_X7_note) 19 = .ok (.dup, 1) := by decide +kernel
theorem dd_X7_note_20 : decode (zc mm_X7_note) 20 = .ok (.getfield 18, 3) := by decide +kernel
theorem dd_X7_note_23 : decode (zc mm_X7_note) 23 = .ok (.iconst 1, 1) := by decide +kernel
theorem dd_X7_note_24 : decode (zc mm_X7_note) 24 = .ok (.iadd, 1) := by decide +kernel
theorem dd_X7_note_25 : decode (zc mm_X7_note) 25 = .ok (.putfield 18, 3) := by decide +kernel
theorem dd_X7_note_28 : decode (zc mm_X7_note) 28 = .ok (.iload_n 1, 1) := by decide +kernel
theorem dd_X7_note_29 : decode (zc mm_X7_note) 29 = .ok (.ifCond .eq 17, 3) := by decide +kernel
theorem dd_X7_note_32 : decode (zc mm_X7_note) 32 = .ok (.iload_n 2, 1) := by decide +kernel
theorem dd_X7_note_33 : decode (zc mm_X7_note) 33 = .ok (.ifCond .eq 13, 3) := by decide +kernel
theorem dd_X7_note_36 : decode (zc mm_X7_note) 36 = .ok (.aload_n 0, 1) := by decide +kernel
theorem dd_X7_note_37 : decode (zc mm_X7_note) 37 = .ok (.dup, 1) := by decide +kernel
theorem dd_X7_note_38 : decode (zc mm_X7_note) 38 = .ok (.getfield 22, 3) := by decide +kernel
theorem dd_X7_note_41 : decode (zc mm_X7_note) 41 = .ok (.iconst 1, 1) := by decide +kernel
theorem dd_X7_note_42 : decode (zc mm_X7_note) 42 = .ok (.iadd, 1) := by decide +kernel
theorem dd_X7_note_43 : decode (zc mm_X7_note) 43 = .ok (.putfield 22, 3) := by decide +kernel
theorem dd_X7_note_46 : decode (zc mm_X7_note) 46 = .ok (.aload_n 0, 1) := by decide +kernel
theorem dd_X7_note_47 : decode (zc mm_X7_note) 47 = .ok (.dup, 1) := by decide +kernel
theorem dd_X7_note_48 : decode (zc mm_X7_note) 48 = .ok (.getfield 28, 3) := by decide +kernel
theorem dd_X7_note_51 : decode (zc mm_X7_note) 51 = .ok (.iconst 1, 1) := by decide +kernel
theorem dd_X7_note_52 : decode (zc mm_X7_note) 52 = .ok (.iload_n 1, 1) := by decide +kernel
theorem dd_X7_note_53 : decode (zc mm_X7_note) 53 = .ok (.ishl, 1) := by decide +kernel
theorem dd_X7_note_54 : decode (zc mm_X7_note) 54 = .ok (.ior, 1) := by decide +kernel
theorem dd_X7_note_55 : decode (zc mm_X7_note) 55 = .ok (.putfield 28, 3) := by decide +kernel
theorem dd_X7_note_58 : decode (zc mm_X7_note) 58 = .ok (.aload_n 0, 1) := by decide +kernel
theorem dd_X7_note_59 : decode (zc mm_X7_note) 59 = .ok (.dup, 1) := by decide +kernel
theorem dd_X7_note_60 : decode (zc mm_X7_note) 60 = .ok (.getfield 31, 3) := by decide +kernel
theorem dd_X7_note_63 : decode (zc mm_X7_note) 63 = .ok (.iconst 1, 1) := by decide +kernel
theorem dd_X7_note_64 : decode (zc mm_X7_note) 64 = .ok (.iload_n 2, 1) := by decide +kernel
theorem dd_X7_note_65 : decode (zc mm_X7_note) 65 = .ok (.ishl, 1) := by decide +kernel
theorem dd_X7_note_66 : decode (zc mm_X7_note) 66 = .ok (.ior, 1) := by decide +kernel
theorem dd_X7_note_67 : decode (zc mm_X7_note) 67 = .ok (.putfield 31, 3) := by decide +kernel
theorem dd_X7_note_70 : decode (zc mm_X7_note) 70 = .ok (.return_, 1) := by decide +kernel
theorem dd_X7_valueOf_0 : decode (zc mm_X7_valueOf) 0 = .ok (.aload_n 1, 1) := by decide +kernel
theorem dd_X7_valueOf_1 : decode (zc mm_X7_valueOf) 1 = .ok (.iconst 1, 1) := by decide +kernel
theorem dd_X7_valueOf_2 : decode (zc mm_X7_valueOf) 2 = .ok (.iload_n 2, 1) := by decide +kernel
theorem dd_X7_valueOf_3 : decode (zc mm_X7_valueOf) 3 = .ok (.iload 4, 2) := by decide +kernel
theorem dd_X7_valueOf_5 : decode (zc mm_X7_valueOf) 5 = .ok (.aload_n 0, 1) := by decide +kernel
theorem dd_X7_valueOf_6 : decode (zc mm_X7_valueOf) 6 = .ok (.getfield 9, 3) := by decide +kernel
theorem dd_X7_valueOf_9 : decode (zc mm_X7_valueOf) 9 = .ok (.invokevirtual 34, 3) := by decide +kernel
theorem dd_X7_valueOf_12 : decode (zc mm_X7_valueOf) 12 = .ok (.aload_n 0, 1) := by decide +kernel
theorem dd_X7_valueOf_13 : decode (zc mm_X7_valueOf) 13 = .ok (.getfield 9, 3) := by decide +kernel
theorem dd_X7_valueOf_16 : decode (zc mm_X7_valueOf) 16 = .ok (.iload_n 3, 1) := by decide +kernel
theorem dd_X7_valueOf_17 : decode (zc mm_X7_valueOf) 17 = .ok (.iload 4, 2) := by decide +kernel
theorem dd_X7_valueOf_19 : decode (zc mm_X7_valueOf) 19 = .ok (.invokestatic 40, 3) := by decide +kernel
theorem dd_X7_valueOf_22 : decode (zc mm_X7_valueOf) 22 = .ok (.ireturn, 1) := by decide +kernel
theorem dd_X7_drawLots_0 : decode (zc mm_X7_drawLots) 0 = .ok (.aload_n 0, 1) := by decide +kernel
theorem dd_X7_drawLots_1 : decode (zc mm_X7_drawLots) 1 = .ok (.iload_n 3, 1) := by decide +kernel
theorem dd_X7_drawLots_2 : decode (zc mm_X7_drawLots) 2 = .ok (.putfield 50, 3) := by decide +kernel
theorem dd_X7_drawLots_5 : decode (zc mm_X7_drawLots) 5 = .ok (.iconst 0, 1) := by decide +kernel
theorem dd_X7_drawLots_6 : decode (zc mm_X7_drawLots) 6 = .ok (.istore 6, 2) := by decide +kernel
theorem dd_X7_drawLots_8 : decode (zc mm_X7_drawLots) 8 = .ok (.iconst 0, 1) := by decide +kernel
theorem dd_X7_drawLots_9 : decode (zc mm_X7_drawLots) 9 = .ok (.istore 7, 2) := by decide +kernel
theorem dd_X7_drawLots_11 : decode (zc mm_X7_drawLots) 11 = .ok (.iconst 0, 1) := by decide +kernel
theorem dd_X7_drawLots_12 : decode (zc mm_X7_drawLots) 12 = .ok (.istore 8, 2) := by decide +kernel
theorem dd_X7_drawLots_14 : decode (zc mm_X7_drawLots) 14 = .ok (.iload 8, 2) := by decide +kernel
theorem dd_X7_drawLots_16 : decode (zc mm_X7_drawLots) 16 = .ok (.iload_n 2, 1) := by decide +kernel
theorem dd_X7_drawLots_17 : decode (zc mm_X7_drawLots) 17 = .ok (.if_icmp .ge 53, 3) := by decide +kernel
theorem dd_X7_drawLots_20 : decode (zc mm_X7_drawLots) 20 = .ok (.aload_n 0, 1) := by decide +kernel
theorem dd_X7_drawLots_21 : decode (zc mm_X7_drawLots) 21 = .ok (.iload 5, 2) := by decide +kernel
theorem dd_X7_drawLots_23 : decode (zc mm_X7_drawLots) 23 = .ok (.invokevirtual 53, 3) := by decide +kernel
theorem dd_X7_drawLots_26 : decode (zc mm_X7_drawLots) 26 = .ok (.istore 9, 2) := by decide +kernel
theorem dd_X7_drawLots_28 : decode (zc mm_X7_drawLots) 28 = .ok (.aload_n 0, 1) := by decide +kernel
theorem dd_X7_drawLots_29 : decode (zc mm_X7_drawLots) 29 = .ok (.iload 5, 2) := by decide +kernel
theorem dd_X7_drawLots_31 : decode (zc mm_X7_drawLots) 31 = .ok (.invokevirtual 53, 3) := by decide +kernel
theorem dd_X7_drawLots_34 : decode (zc mm_X7_drawLots) 34 = .ok (.istore 10, 2) := by decide +kernel
theorem dd_X7_drawLots_36 : decode (zc mm_X7_drawLots) 36 = .ok (.aload_n 0, 1) := by decide +kernel
theorem dd_X7_drawLots_37 : decode (zc mm_X7_drawLots) 37 = .ok (.aload_n 1, 1) := by decide +kernel
theorem dd_X7_drawLots_38 : decode (zc mm_X7_drawLots) 38 = .ok (.iload 9, 2) := by decide +kernel
theorem dd_X7_drawLots_40 : decode (zc mm_X7_drawLots) 40 = .ok (.iload 10, 2) := by decide +kernel
theorem dd_X7_drawLots_42 : decode (zc mm_X7_drawLots) 42 = .ok (.iload 5, 2) := by decide +kernel
theorem dd_X7_drawLots_44 : decode (zc mm_X7_drawLots) 44 = .ok (.invokevirtual 57, 3) := by decide +kernel
theorem dd_X7_drawLots_47 : decode (zc mm_X7_drawLots) 47 = .ok (.istore 11, 2) := by decide +kernel
theorem dd_X7_drawLots_49 : decode (zc mm_X7_drawLots) 49 = .ok (.iload 7, 2) := by decide +kernel
theorem dd_X7_drawLots_51 : decode (zc mm_X7_drawLots) 51 = .ok (.iload 11, 2) := by decide +kernel
theorem dd_X7_drawLots_53 : decode (zc mm_X7_drawLots) 53 = .ok (.iadd, 1) := by decide +kernel
theorem dd_X7_drawLots_54 : decode (zc mm_X7_drawLots) 54 = .ok (.istore 7, 2) := by decide +kernel
theorem dd_X7_drawLots_56 : decode (zc mm_X7_drawLots) 56 = .ok (.iload 11, 2) := by decide +kernel
theorem dd_X7_drawLots_58 : decode (zc mm_X7_drawLots) 58 = .ok (.ifCond .ne 6, 3) := by decide +kernel
theorem dd_X7_drawLots_61 : decode (zc mm_X7_drawLots) 61 = .ok (.iinc 6 1, 3) := by decide +kernel
theorem dd_X7_drawLots_64 : decode (zc mm_X7_drawLots) 64 = .ok (.iinc 8 1, 3) := by decide +kernel
theorem dd_X7_drawLots_67 : decode (zc mm_X7_drawLots) 67 = .ok (.goto (-53), 3) := by decide +kernel
theorem dd_X7_drawLots_70 : decode (zc mm_X7_drawLots) 70 = .ok (.iload 4, 2) := by decide +kernel
theorem dd_X7_drawLots_72 : decode (zc mm_X7_drawLots) 72 = .ok (.ifCond .ne 8, 3) := by decide +kernel
theorem dd_X7_drawLots_75 : decode (zc mm_X7_drawLots) 75 = .ok (.iload 6, 2) := by decide +kernel
theorem dd_X7_drawLots_77 : decode (zc mm_X7_drawLots) 77 = .ok (.goto 5, 3) := by decide +kernel

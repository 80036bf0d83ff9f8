theorem dd_X11_result_33 : decode (zc mm_X11_result) 33 = .ok (.bipush (-6), 2) := by decide +kernel
theorem dd_X11_result_35 : decode (zc mm_X11_result) 35 = .ok (.goto 4, 3) := by decide +kernel
theorem dd_X11_result_38 : decode (zc mm_X11_result) 38 = .ok (.iconst 0, 1) := by decide +kernel
theorem dd_X11_result_39 : decode (zc mm_X11_result) 39 = .ok (.istore 6, 2) := by decide +kernel
theorem dd_X11_result_41 : decode (zc mm_X11_result) 41 = .ok (.iload 6, 2) := by decide +kernel
theorem dd_X11_result_43 : decode (zc mm_X11_result) 43 = .ok (.ifCond .eq 10, 3) := by decide +kernel
theorem dd_X11_result_46 : decode (zc mm_X11_result) 46 = .ok (.aload_n 0, 1) := by decide +kernel
theorem dd_X11_result_47 : decode (zc mm_X11_result) 47 = .ok (.iload 6, 2) := by decide +kernel
theorem dd_X11_result_49 : decode (zc mm_X11_result) 49 = .ok (.invokevirtual 120, 3) := by decide +kernel
theorem dd_X11_result_52 : decode (zc mm_X11_result) 52 = .ok (.ireturn, 1) := by decide +kernel
theorem dd_X11_result_53 : decode (zc mm_X11_result) 53 = .ok (.aload_n 0, 1) := by decide +kernel
theorem dd_X11_result_54 : decode (zc mm_X11_result) 54 = .ok (.iload_n 1, 1) := by decide +kernel
theorem dd_X11_result_55 : decode (zc mm_X11_result) 55 = .ok (.iload_n 2, 1) := by decide +kernel
theorem dd_X11_result_56 : decode (zc mm_X11_result) 56 = .ok (.iload_n 3, 1) := by decide +kernel
theorem dd_X11_result_57 : decode (zc mm_X11_result) 57 = .ok (.iload 4, 2) := by decide +kernel
theorem dd_X11_result_59 : decode (zc mm_X11_result) 59 = .ok (.invokevirtual 224, 3) := by decide +kernel
theorem dd_X11_result_62 : decode (zc mm_X11_result) 62 = .ok (.aload_n 0, 1) := by decide +kernel
theorem dd_X11_result_63 : decode (zc mm_X11_result) 63 = .ok (.getfield 64, 3) := by decide +kernel
theorem dd_X11_result_66 : decode (zc mm_X11_result) 66 = .ok (.iload 5, 2) := by decide +kernel
theorem dd_X11_result_68 : decode (zc mm_X11_result) 68 = .ok (.iaload, 1) := by decide +kernel
theorem dd_X11_result_69 : decode (zc mm_X11_result) 69 = .ok (.ireturn, 1) := by decide +kernel
theorem dd_X11_degree_0 : decode (zc mm_X11_degree) 0 = .ok (.aload_n 0, 1) := by decide +kernel
theorem dd_X11_degree_1 : decode (zc mm_X11_degree) 1 = .ok (.iload_n 1, 1) := by decide +kernel
theorem dd_X11_degree_2 : decode (zc mm_X11_degree) 2 = .ok (.iload_n 2, 1) := by decide +kernel
theorem dd_X11_degree_3 : decode (zc mm_X11_degree) 3 = .ok (.iload_n 3, 1) := by decide +kernel
theorem dd_X11_degree_4 : decode (zc mm_X11_degree) 4 = .ok (.iload 4, 2) := by decide +kernel
theorem dd_X11_degree_6 : decode (zc mm_X11_degree) 6 = .ok (.invokevirtual 176, 3) := by decide +kernel
theorem dd_X11_degree_9 : decode (zc mm_X11_degree) 9 = .ok (.istore 5, 2) := by decide +kernel
theorem dd_X11_degree_11 : decode (zc mm_X11_degree) 11 = .ok (.iload 5, 2) := by decide +kernel
theorem dd_X11_degree_13 : decode (zc mm_X11_degree) 13 = .ok (.ifCond .eq 10, 3) := by decide +kernel
theorem dd_X11_degree_16 : decode (zc mm_X11_degree) 16 = .ok (.aload_n 0, 1) := by decide +kernel
theorem dd_X11_degree_17 : decode (zc mm_X11_degree) 17 = .ok (.iload 5, 2) := by decide +kernel
theorem dd_X11_degree_19 : decode (zc mm_X11_degree) 19 = .ok (.invokevirtual 120, 3) := by decide +kernel
theorem dd_X11_degree_22 : decode (zc mm_X11_degree) 22 = .ok (.ireturn, 1) := by decide +kernel
theorem dd_X11_degree_23 : decode (zc mm_X11_degree) 23 = .ok (.aload_n 0, 1) := by decide +kernel
theorem dd_X11_degree_24 : decode (zc mm_X11_degree) 24 = .ok (.iload_n 1, 1) := by decide +kernel
theorem dd_X11_degree_25 : decode (zc mm_X11_degree) 25 = .ok (.iload_n 2, 1) := by decide +kernel
theorem dd_X11_degree_26 : decode (zc mm_X11_degree) 26 = .ok (.iload_n 3, 1) := by decide +kernel
theorem dd_X11_degree_27 : decode (zc mm_X11_degree) 27 = .ok (.iload 4, 2) := by decide +kernel
theorem dd_X11_degree_29 : decode (zc mm_X11_degree) 29 = .ok (.invokevirtual 224, 3) := by decide +kernel
theorem dd_X11_degree_32 : decode (zc mm_X11_degree) 32 = .ok (.bipush 40, 2) := by decide +kernel
theorem dd_X11_degree_34 : decode (zc mm_X11_degree) 34 = .ok (.istore 6, 2) := by decide +kernel
theorem dd_X11_degree_36 : decode (zc mm_X11_degree) 36 = .ok (.iload 6, 2) := by decide +kernel
theorem dd_X11_degree_38 : decode (zc mm_X11_degree) 38 = .ok (.ifCond .lt 19, 3) := by decide +kernel
theorem dd_X11_degree_41 : decode (zc mm_X11_degree) 41 = .ok (.aload_n 0, 1) := by decide +kernel
theorem dd_X11_degree_42 : decode (zc mm_X11_degree) 42 = .ok (.getfield 64, 3) := by decide +kernel
theorem dd_X11_degree_45 : decode (zc mm_X11_degree) 45 = .ok (.iload 6, 2) := by decide +kernel
theorem dd_X11_degree_47 : decode (zc mm_X11_degree) 47 = .ok (.iaload, 1) := by decide +kernel
theorem dd_X11_degree_48 : decode (zc mm_X11_degree) 48 = .ok (.ifCond .ne 9, 3) := by decide +kernel
theorem dd_X11_degree_51 : decode (zc mm_X11_degree) 51 = .ok (.iinc 6 (-1), 3) := by decide +kernel
theorem dd_X11_degree_54 : decode (zc mm_X11_degree) 54 = .ok (.goto (-18), 3) := by decide +kernel
theorem dd_X11_degree_57 : decode (zc mm_X11_degree) 57 = .ok (.iload 6, 2) := by decide +kernel
theorem dd_X11_degree_59 : decode (zc mm_X11_degree) 59 = .ok (.ifCond .ge 8, 3) := by decide +kernel
theorem dd_X11_degree_62 : decode (zc mm_X11_degree) 62 = .ok (.bipush (-9), 2) := by decide +kernel
theorem dd_X11_degree_64 : decode (zc mm_X11_degree) 64 = .ok (.goto 5, 3) := by decide +kernel
theorem dd_X11_degree_67 : decode (zc mm_X11_degree) 67 = .ok (.iload 6, 2) := by decide +kernel
theorem dd_X11_degree_69 : decode (zc mm_X11_degree) 69 = .ok (.ireturn, 1) := by decide +kernel
theorem dd_X11_at_0 : decode (zc mm_X11_at) 0 = .ok (.aload_n 0, 1) := by decide +kernel
theorem dd_X11_at_1 : decode (zc mm_X11_at) 1 = .ok (.iload_n 1, 1) := by decide +kernel
theorem dd_X11_at_2 : decode (zc mm_X11_at) 2 = .ok (.iload_n 2, 1) := by decide +kernel
theorem dd_X11_at_3 : decode (zc mm_X11_at) 3 = .ok (.iload_n 3, 1) := by decide +kernel
theorem dd_X11_at_4 : decode (zc mm_X11_at) 4 = .ok (.iload 4, 2) := by decide +kernel
theorem dd_X11_at_6 : decode (zc mm_X11_at) 6 = .ok (.invokevirtual 176, 3) := by decide +kernel
theorem dd_X11_at_9 : decode (zc mm_X11_at) 9 = .ok (.istore 6, 2) := by decide +kernel
theorem dd_X11_at_11 : decode (zc mm_X11_at) 11 = .ok (.iload 6, 2) := by decide +kernel
theorem dd_X11_at_13 : decode (zc mm_X11_at) 13 = .ok (.ifCond .ne 30, 3) := by decide +kernel
theorem dd_X11_at_16 : decode (zc mm_X11_at) 16 = .ok (.iload 5, 2) := by decide +kernel
theorem dd_X11_at_18 : decode (zc mm_X11_at) 18 = .ok (.ifCond .ge 8, 3) := by decide +kernel
theorem dd_X11_at_21 : decode (zc mm_X11_at) 21 = .ok (.bipush (-4), 2) := by decide +kernel
theorem dd_X11_at_23 : decode (zc mm_X11_at) 23 = .ok (.goto 18, 3) := by decide +kernel
theorem dd_X11_at_26 : decode (zc mm_X11_at) 26 = .ok (.iload 5, 2) := by decide +kernel
theorem dd_X11_at_28 : decode (zc mm_X11_at) 28 = .ok (.aload_n 0, 1) := by decide +kernel
theorem dd_X11_at_29 : decode (zc mm_X11_at) 29 = .ok (.getfield 9, 3) := by decide +kernel
theorem dd_X11_at_32 : decode (zc mm_X11_at) 32 = .ok (.if_icmp .lt 8, 3) := by decide +kernel
theorem dd_X11_at_35 : decode (zc mm_X11_at) 35 = .ok (.bipush (-6), 2) := by decide +kernel
theorem dd_X11_at_37 : decode (zc mm_X11_at) 37 = .ok (.goto 4, 3) := by decide +kernel
theorem dd_X11_at_40 : decode (zc mm_X11_at) 40 = .ok (.iconst 0, 1) := by decide +kernel
theorem dd_X11_at_41 : decode (zc mm_X11_at) 41 = .ok (.istore 6, 2) := by decide +kernel
theorem dd_X11_at_43 : decode (zc mm_X11_at) 43 = .ok (.iload 6, 2) := by decide +kernel
theorem dd_X11_at_45 : decode (zc mm_X11_at) 45 = .ok (.ifCond .eq 10, 3) := by decide +kernel
theorem dd_X11_at_48 : decode (zc mm_X11_at) 48 = .ok (.aload_n 0, 1) := by decide +kernel
theorem dd_X11_at_49 : decode (zc mm_X11_at) 49 = .ok (.iload 6, 2) := by decide +kernel
theorem dd_X11_at_51 : decode (zc mm_X11_at) 51 = .ok (.invokevirtual 120, 3) := by decide +kernel
theorem dd_X11_at_54 : decode (zc mm_X11_at) 54 = .ok (.ireturn, 1) := by decide +kernel
theorem dd_X11_at_55 : decode (zc mm_X11_at) 55 = .ok (.aload_n 0, 1) := by decide +kernel
theorem dd_X11_at_56 : decode (zc mm_X11_at) 56 = .ok (.iload_n 1, 1) := by decide +kernel
theorem dd_X11_at_57 : decode (zc mm_X11_at) 57 = .ok (.iload_n 2, 1) := by decide +kernel
theorem dd_X11_at_58 : decode (zc mm_X11_at) 58 = .ok (.iload_n 3, 1) := by decide +kernel
theorem dd_X11_at_59 : decode (zc mm_X11_at) 59 = .ok (.iload 4, 2) := by decide +kernel
theorem dd_X11_at_61 : decode (zc mm_X11_at) 61 = .ok (.invokevirtual 224, 3) := by decide +kernel
theorem dd_X11_at_64 : decode (zc mm_X11_at) 64 = .ok (.aload_n 0, 1) := by decide +kernel
theorem dd_X11_at_65 : decode (zc mm_X11_at) 65 = .ok (.iload 5, 2) := by decide +kernel
theorem dd_X11_at_67 : decode (zc mm_X11_at) 67 = .ok (.invokevirtual 227, 3) := by decide +kernel
theorem dd_X11_at_70 : decode (zc mm_X11_at) 70 = .ok (.ireturn, 1) := by decide +kernel
theorem dd_X11_deepOf_0 : decode (zc mm_X11_deepOf) 0 = .ok (.iload_n 1, 1) := by decide +kernel
theorem dd_X11_deepOf_1 : decode (zc mm_X11_deepOf) 1 = .ok (.istore_n 2, 1) := by decide +kernel
theorem dd_X11_deepOf_2 : decode (zc mm_X11_deepOf) 2 = .ok (.iload_n 2, 1) := by decide +kernel
theorem dd_X11_deepOf_3 : decode (zc mm_X11_deepOf) 3 = .ok (.ifCond .lt 15, 3) := by decide +kernel
theorem dd_X11_deepOf_6 : decode (zc mm_X11_deepOf) 6 = .ok (.aload_n 0, 1) := by decide +kernel
theorem dd_X11_deepOf_7 : decode (zc mm_X11_deepOf) 7 = .ok (.iload_n 2, 1) := by decide +kernel
theorem dd_X11_deepOf_8 : decode (zc mm_X11_deepOf) 8 = .ok (.iaload, 1) := by decide +kernel
theorem dd_X11_deepOf_9 : decode (zc mm_X11_deepOf) 9 = .ok (.ifCond .ne 9, 3) := by decide +kernel
theorem dd_X11_deepOf_12 : decode (zc mm_X11_deepOf) 12 = .ok (.iinc 2 (-1), 3) := by decide +kernel
theorem dd_X11_deepOf_15 : decode (zc mm_X11_deepOf) 15 = .ok (.goto (-13), 3) := by decide +kernel
theorem dd_X11_deepOf_18 : decode (zc mm_X11_deepOf) 18 = .ok (.iload_n 2, 1) := by decide +kernel
theorem dd_X11_deepOf_19 : decode (zc mm_X11_deepOf) 19 = .ok (.ireturn, 1) := by decide +kernel
theorem dd_X11_standsAt_0 : decode (zc mm_X11_standsAt) 0 = .ok (.iconst 0, 1) := by decide +kernel
theorem dd_X11_standsAt_1 : decode (zc mm_X11_standsAt) 1 = .ok (.istore_n 2, 1) := by decide +kernel
theorem dd_X11_standsAt_2 : decode (zc mm_X11_standsAt) 2 = .ok (.iload_n 2, 1) := by decide +kernel
theorem dd_X11_standsAt_3 : decode (zc mm_X11_standsAt) 3 = .ok (.iconst 5, 1) := by decide +kernel
theorem dd_X11_standsAt_4 : decode (zc mm_X11_standsAt) 4 = .ok (.if_icmp .ge 87, 3) := by decide +kernel
theorem dd_X11_standsAt_7 : decode (zc mm_X11_standsAt) 7 = .ok (.aload_n 0, 1) := by decide +kernel
theorem dd_X11_standsAt_8 : decode (zc mm_X11_standsAt) 8 = .ok (.getfield 67, 3) := by decide +kernel
theorem dd_X11_standsAt_11 : decode (zc mm_X11_standsAt) 11 = .ok (.iload_n 2, 1) := by decide +kernel
theorem dd_X11_standsAt_12 : decode (zc mm_X11_standsAt) 12 = .ok (.iconst 0, 1) := by decide +kernel
theorem dd_X11_standsAt_13 : decode (zc mm_X11_standsAt) 13 = .ok (.iastore, 1) := by decide +kernel
theorem dd_X11_standsAt_14 : decode (zc mm_X11_standsAt) 14 = .ok (.aload_n 0, 1) := by decide +kernel
theorem dd_X11_standsAt_15 : decode (zc mm_X11_standsAt) 15 = .ok (.getfield 70, 3) := by decide +kernel
theorem dd_X11_standsAt_18 : decode (zc mm_X11_standsAt) 18 = .ok (.iload_n 2, 1) := by decide +kernel
theorem dd_X11_standsAt_19 : decode (zc mm_X11_standsAt) 19 = .ok (.iconst 0, 1) := by decide +kernel
theorem dd_X11_standsAt_20 : decode (zc mm_X11_standsAt) 20 = .ok (.iastore, 1) := by decide +kernel
theorem dd_X11_standsAt_21 : decode (zc mm_X11_standsAt) 21 = .ok (.iconst 4, 1) := by decide +kernel
theorem dd_X11_standsAt_22 : decode (zc mm_X11_standsAt) 22 = .ok (.istore_n 3, 1) := by decide +kernel
theorem dd_X11_standsAt_23 : decode (zc mm_X11_standsAt) 23 = .ok (.iload_n 3, 1) := by decide +kernel
theorem dd_X11_standsAt_24 : decode (zc mm_X11_standsAt) 24 = .ok (.ifCond .lt 61, 3) := by decide +kernel
theorem dd_X11_standsAt_27 : decode (zc mm_X11_standsAt) 27 = .ok (.aload_n 0, 1) := by decide +kernel
theorem dd_X11_standsAt_28 : decode (zc mm_X11_standsAt) 28 = .ok (.getfield 67, 3) := by decide +kernel
theorem dd_X11_standsAt_31 : decode (zc mm_X11_standsAt) 31 = .ok (.iload_n 2, 1) := by decide +kernel
theorem dd_X11_standsAt_32 : decode (zc mm_X11_standsAt) 32 = .ok (.aload_n 0, 1) := by decide +kernel
theorem dd_X11_standsAt_33 : decode (zc mm_X11_standsAt) 33 = .ok (.getfield 67, 3) := by decide +kernel
theorem dd_X11_standsAt_36 : decode (zc mm_X11_standsAt) 36 = .ok (.iload_n 2, 1) := by decide +kernel
theorem dd_X11_standsAt_37 : decode (zc mm_X11_standsAt) 37 = .ok (.iaload, 1) := by decide +kernel
theorem dd_X11_standsAt_38 : decode (zc mm_X11_standsAt) 38 = .ok (.iload_n 1, 1) := by decide +kernel
theorem dd_X11_standsAt_39 : decode (zc mm_X11_standsAt) 39 = .ok (.imul, 1) := by decide +kernel
theorem dd_X11_standsAt_40 : decode (zc mm_X11_standsAt) 40 = .ok (.aload_n 0, 1) := by decide +kernel
theorem dd_X11_standsAt_41 : decode (zc mm_X11_standsAt) 41 = .ok (.iload_n 2, 1) := by decide +kernel
theorem dd_X11_standsAt_42 : decode (zc mm_X11_standsAt) 42 = .ok (.iload_n 3, 1) := by decide +kernel
theorem dd_X11_standsAt_43 : decode (zc mm_X11_standsAt) 43 = .ok (.invokevirtual 189, 3) := by decide +kernel
theorem dd_X11_standsAt_46 : decode (zc mm_X11_standsAt) 46 = .ok (.iadd, 1) := by decide +kernel
theorem dd_X11_standsAt_47 : decode (zc mm_X11_standsAt) 47 = .ok (.aload_n 0, 1) := by decide +kernel
theorem dd_X11_standsAt_48 : decode (zc mm_X11_standsAt) 48 = .ok (.getfield 9, 3) := by decide +kernel
theorem dd_X11_standsAt_51 : decode (zc mm_X11_standsAt) 51 = .ok (.irem, 1) := by decide +kernel
theorem dd_X11_standsAt_52 : decode (zc mm_X11_standsAt) 52 = .ok (.iastore, 1) := by decide +kernel
theorem dd_X11_standsAt_53 : decode (zc mm_X11_standsAt) 53 = .ok (.aload_n 0, 1) := by decide +kernel
theorem dd_X11_standsAt_54 : decode (zc mm_X11_standsAt) 54 = .ok (.getfield 70, 3) := by decide +kernel
theorem dd_X11_standsAt_57 : decode (zc mm_X11_standsAt) 57 = .ok (.iload_n 2, 1) := by decide +kernel
theorem dd_X11_standsAt_58 : decode (zc mm_X11_standsAt) 58 = .ok (.aload_n 0, 1) := by decide +kernel
theorem dd_X11_standsAt_59 : decode (zc mm_X11_standsAt) 59 = .ok (.getfield 70, 3) := by decide +kernel
theorem dd_X11_standsAt_62 : decode (zc mm_X11_standsAt) 62 = .ok (.iload_n 2, 1) := by decide +kernel
theorem dd_X11_standsAt_63 : decode (zc mm_X11_standsAt) 63 = .ok (.iaload, 1) := by decide +kernel
theorem dd_X11_standsAt_64 : decode (zc mm_X11_standsAt) 64 = .ok (.iload_n 1, 1) := by decide +kernel
theorem dd_X11_standsAt_65 : decode (zc mm_X11_standsAt) 65 = .ok (.imul, 1) := by decide +kernel
theorem dd_X11_standsAt_66 : decode (zc mm_X11_standsAt) 66 = .ok (.aload_n 0, 1) := by decide +kernel
theorem dd_X11_standsAt_67 : decode (zc mm_X11_standsAt) 67 = .ok (.iload_n 2, 1) := by decide +kernel
theorem dd_X11_standsAt_68 : decode (zc mm_X11_standsAt) 68 = .ok (.iload_n 3, 1) := by decide +kernel
theorem dd_X11_standsAt_69 : decode (zc mm_X11_standsAt) 69 = .ok (.invokevirtual 192, 3) := by decide +kernel
theorem dd_X11_standsAt_72 : decode (zc mm_X11_standsAt) 72 = .ok (.iadd, 1) := by decide +kernel
theorem dd_X11_standsAt_73 : decode (zc mm_X11_standsAt) 73 = .ok (.aload_n 0, 1) := by decide +kernel
theorem dd_X11_standsAt_74 : decode (zc mm_X11_standsAt) 74 = .ok (.getfield 9, 3) := by decide +kernel
theorem dd_X11_standsAt_77 : decode (zc mm_X11_standsAt) 77 = .ok (.irem, 1) := by decide +kernel
theorem dd_X11_standsAt_78 : decode (zc mm_X11_standsAt) 78 = .ok (.iastore, 1) := by decide +kernel
theorem dd_X11_standsAt_79 : decode (zc mm_X11_standsAt) 79 = .ok (.iinc 3 (-1), 3) := by decide +kernel
theorem dd_X11_standsAt_82 : decode (zc mm_X11_standsAt) 82 = .ok (.goto (-59), 3) := by decide +kernel
theorem dd_X11_standsAt_85 : decode (zc mm_X11_standsAt) 85 = .ok (.iinc 2 1, 3) := by decide +kernel
theorem dd_X11_standsAt_88 : decode (zc mm_X11_standsAt) 88 = .ok (.goto (-86), 3) := by decide +kernel
theorem dd_X11_standsAt_91 : decode (zc mm_X11_standsAt) 91 = .ok (.aload_n 0, 1) := by decide +kernel
theorem dd_X11_standsAt_92 : decode (zc mm_X11_standsAt) 92 = .ok (.aload_n 0, 1) := by decide +kernel
theorem dd_X11_standsAt_93 : decode (zc mm_X11_standsAt) 93 = .ok (.getfield 67, 3) := by decide +kernel
theorem dd_X11_standsAt_96 : decode (zc mm_X11_standsAt) 96 = .ok (.iconst 4, 1) := by decide +kernel
theorem dd_X11_standsAt_97 : decode (zc mm_X11_standsAt) 97 = .ok (.invokestatic 230, 3) := by decide +kernel
theorem dd_X11_standsAt_100 : decode (zc mm_X11_standsAt) 100 = .ok (.putfield 234, 3) := by decide +kernel
theorem dd_X11_standsAt_103 : decode (zc mm_X11_standsAt) 103 = .ok (.aload_n 0, 1) := by decide +kernel
theorem dd_X11_standsAt_104 : decode (zc mm_X11_standsAt) 104 = .ok (.aload_n 0, 1) := by decide +kernel
theorem dd_X11_standsAt_105 : decode (zc mm_X11_standsAt) 105 = .ok (.getfield 70, 3) := by decide +kernel
theorem dd_X11_standsAt_108 : decode (zc mm_X11_standsAt) 108 = .ok (.iconst 4, 1) := by decide +kernel
theorem dd_X11_standsAt_109 : decode (zc mm_X11_standsAt) 109 = .ok (.invokestatic 230, 3) := by decide +kernel
theorem dd_X11_standsAt_112 : decode (zc mm_X11_standsAt) 112 = .ok (.putfield 237, 3) := by decide +kernel
theorem dd_X11_standsAt_115 : decode (zc mm_X11_standsAt) 115 = .ok (.return_, 1) := by decide +kernel
theorem dd_X11_divides_0 : decode (zc mm_X11_divides) 0 = .ok (.aload_n 0, 1) := by decide +kernel
theorem dd_X11_divides_1 : decode (zc mm_X11_divides) 1 = .ok (.aload_n 1, 1) := by decide +kernel
theorem dd_X11_divides_2 : decode (zc mm_X11_divides) 2 = .ok (.iload_n 2, 1) := by decide +kernel
theorem dd_X11_divides_3 : decode (zc mm_X11_divides) 3 = .ok (.iaload, 1) := by decide +kernel
theorem dd_X11_divides_4 : decode (zc mm_X11_divides) 4 = .ok (.invokevirtual 240, 3) := by decide +kernel
theorem dd_X11_divides_7 : decode (zc mm_X11_divides) 7 = .ok (.istore_n 3, 1) := by decide +kernel
theorem dd_X11_divides_8 : decode (zc mm_X11_divides) 8 = .ok (.bipush 8, 2) := by decide +kernel
theorem dd_X11_divides_10 : decode (zc mm_X11_divides) 10 = .ok (.istore 4, 2) := by decide +kernel
theorem dd_X11_divides_12 : decode (zc mm_X11_divides) 12 = .ok (.iload 4, 2) := by decide +kernel
theorem dd_X11_divides_14 : decode (zc mm_X11_divides) 14 = .ok (.iload_n 2, 1) := by decide +kernel
theorem dd_X11_divides_15 : decode (zc mm_X11_divides) 15 = .ok (.if_icmp .lt 76, 3) := by decide +kernel
theorem dd_X11_divides_18 : decode (zc mm_X11_divides) 18 = .ok (.aload_n 0, 1) := by decide +kernel
theorem dd_X11_divides_19 : decode (zc mm_X11_divides) 19 = .ok (.getfield 73, 3) := by decide +kernel
theorem dd_X11_divides_22 : decode (zc mm_X11_divides) 22 = .ok (.iload 4, 2) := by decide +kernel
theorem dd_X11_divides_24 : decode (zc mm_X11_divides) 24 = .ok (.iaload, 1) := by decide +kernel
theorem dd_X11_divides_25 : decode (zc mm_X11_divides) 25 = .ok (.iload_n 3, 1) := by decide +kernel
theorem dd_X11_divides_26 : decode (zc mm_X11_divides) 26 = .ok (.imul, 1) := by decide +kernel
theorem dd_X11_divides_27 : decode (zc mm_X11_divides) 27 = .ok (.aload_n 0, 1) := by decide +kernel
theorem dd_X11_divides_28 : decode (zc mm_X11_divides) 28 = .ok (.getfield 9, 3) := by decide +kernel
theorem dd_X11_divides_31 : decode (zc mm_X11_divides) 31 = .ok (.irem, 1) := by decide +kernel
theorem dd_X11_divides_32 : decode (zc mm_X11_divides) 32 = .ok (.istore 5, 2) := by decide +kernel
theorem dd_X11_divides_34 : decode (zc mm_X11_divides) 34 = .ok (.iconst 0, 1) := by decide +kernel
theorem dd_X11_divides_35 : decode (zc mm_X11_divides) 35 = .ok (.istore 6, 2) := by decide +kernel
theorem dd_X11_divides_37 : decode (zc mm_X11_divides) 37 = .ok (.iload 6, 2) := by decide +kernel
theorem dd_X11_divides_39 : decode (zc mm_X11_divides) 39 = .ok (.iload_n 2, 1) := by decide +kernel
theorem dd_X11_divides_40 : decode (zc mm_X11_divides) 40 = .ok (.if_icmp .gt 45, 3) := by decide +kernel
theorem dd_X11_divides_43 : decode (zc mm_X11_divides) 43 = .ok (.aload_n 0, 1) := by decide +kernel
theorem dd_X11_divides_44 : decode (zc mm_X11_divides) 44 = .ok (.getfield 73, 3) := by decide +kernel
theorem dd_X11_divides_47 : decode (zc mm_X11_divides) 47 = .ok (.iload 4, 2) := by decide +kernel
theorem dd_X11_divides_49 : decode (zc mm_X11_divides) 49 = .ok (.iload_n 2, 1) := by decide +kernel
theorem dd_X11_divides_50 : decode (zc mm_X11_divides) 50 = .ok (.isub, 1) := by decide +kernel
theorem dd_X11_divides_51 : decode (zc mm_X11_divides) 51 = .ok (.iload 6, 2) := by decide +kernel
theorem dd_X11_divides_53 : decode (zc mm_X11_divides) 53 = .ok (.iadd, 1) := by decide +kernel
theorem dd_X11_divides_54 : decode (zc mm_X11_divides) 54 = .ok (.aload_n 0, 1) := by decide +kernel
theorem dd_X11_divides_55 : decode (zc mm_X11_divides) 55 = .ok (.aload_n 0, 1) := by decide +kernel
theorem dd_X11_divides_56 : decode (zc mm_X11_divides) 56 = .ok (.getfield 73, 3) := by decide +kernel
theorem dd_X11_divides_59 : decode (zc mm_X11_divides) 59 = .ok (.iload 4, 2) := by decide +kernel
theorem dd_X11_divides_61 : decode (zc mm_X11_divides) 61 = .ok (.iload_n 2, 1) := by decide +kernel
theorem dd_X11_divides_62 : decode (zc mm_X11_divides) 62 = .ok (.isub, 1) := by decide +kernel
theorem dd_X11_divides_63 : decode (zc mm_X11_divides) 63 = .ok (.iload 6, 2) := by decide +kernel
theorem dd_X11_divides_65 : decode (zc mm_X11_divides) 65 = .ok (.iadd, 1) := by decide +kernel
theorem dd_X11_divides_66 : decode (zc mm_X11_divides) 66 = .ok (.iaload, 1) := by decide +kernel
theorem dd_X11_divides_67 : decode (zc mm_X11_divides) 67 = .ok (.iload 5, 2) := by decide +kernel
theorem dd_X11_divides_69 : decode (zc mm_X11_divides) 69 = .ok (.aload_n 1, 1) := by decide +kernel
theorem dd_X11_divides_70 : decode (zc mm_X11_divides) 70 = .ok (.iload 6, 2) := by decide +kernel
theorem dd_X11_divides_72 : decode (zc mm_X11_divides) 72 = .ok (.iaload, 1) := by decide +kernel
theorem dd_X11_divides_73 : decode (zc mm_X11_divides) 73 = .ok (.imul, 1) := by decide +kernel
theorem dd_X11_divides_74 : decode (zc mm_X11_divides) 74 = .ok (.isub, 1) := by decide +kernel
theorem dd_X11_divides_75 : decode (zc mm_X11_divides) 75 = .ok (.invokevirtual 13, 3) := by decide +kernel
theorem dd_X11_divides_78 : decode (zc mm_X11_divides) 78 = .ok (.iastore, 1) := by decide +kernel
theorem dd_X11_divides_79 : decode (zc mm_X11_divides) 79 = .ok (.iinc 6 1, 3) := by decide +kernel
theorem dd_X11_divides_82 : decode (zc mm_X11_divides) 82 = .ok (.goto (-45), 3) := by decide +kernel
theorem dd_X11_divides_85 : decode (zc mm_X11_divides) 85 = .ok (.iinc 4 (-1), 3) := by decide +kernel
theorem dd_X11_divides_88 : decode (zc mm_X11_divides) 88 = .ok (.goto (-76), 3) := by decide +kernel
theorem dd_X11_divides_91 : decode (zc mm_X11_divides) 91 = .ok (.return_, 1) := by decide +kernel
theorem dd_X11_takesLeft_0 : decode (zc mm_X11_takesLeft) 0 = .ok (.iconst 0, 1) := by decide +kernel
theorem dd_X11_takesLeft_1 : decode (zc mm_X11_takesLeft) 1 = .ok (.istore_n 2, 1) := by decide +kernel
theorem dd_X11_takesLeft_2 : decode (zc mm_X11_takesLeft) 2 = .ok (.iload_n 2, 1) := by decide +kernel
theorem dd_X11_takesLeft_3 : decode (zc mm_X11_takesLeft) 3 = .ok (.bipush 9, 2) := by decide +kernel
theorem dd_X11_takesLeft_5 : decode (zc mm_X11_takesLeft) 5 = .ok (.if_icmp .ge 27, 3) := by decide +kernel
theorem dd_X11_takesLeft_8 : decode (zc mm_X11_takesLeft) 8 = .ok (.aload_n 0, 1) := by decide +kernel
theorem dd_X11_takesLeft_9 : decode (zc mm_X11_takesLeft) 9 = .ok (.getfield 73, 3) := by decide +kernel
theorem dd_X11_takesLeft_12 : decode (zc mm_X11_takesLeft) 12 = .ok (.iload_n 2, 1) := by decide +kernel
theorem dd_X11_takesLeft_13 : decode (zc mm_X11_takesLeft) 13 = .ok (.iload_n 2, 1) := by decide +kernel
theorem dd_X11_takesLeft_14 : decode (zc mm_X11_takesLeft) 14 = .ok (.iconst 5, 1) := by decide +kernel
theorem dd_X11_takesLeft_15 : decode (zc mm_X11_takesLeft) 15 = .ok (.if_icmp .ge 9, 3) := by decide +kernel
theorem dd_X11_takesLeft_18 : decode (zc mm_X11_takesLeft) 18 = .ok (.aload_n 1, 1) := by decide +kernel
theorem dd_X11_takesLeft_19 : decode (zc mm_X11_takesLeft) 19 = .ok (.iload_n 2, 1) := by decide +kernel
theorem dd_X11_takesLeft_20 : decode (zc mm_X11_takesLeft) 20 = .ok (.iaload, 1) := by decide +kernel
theorem dd_X11_takesLeft_21 : decode (zc mm_X11_takesLeft) 21 = .ok (.goto 4, 3) := by decide +kernel
theorem dd_X11_takesLeft_24 : decode (zc mm_X11_takesLeft) 24 = .ok (.iconst 0, 1) := by decide +kernel
theorem dd_X11_takesLeft_25 : decode (zc mm_X11_takesLeft) 25 = .ok (.iastore, 1) := by decide +kernel
theorem dd_X11_takesLeft_26 : decode (zc mm_X11_takesLeft) 26 = .ok (.iinc 2 1, 3) := by decide +kernel
theorem dd_X11_takesLeft_29 : decode (zc mm_X11_takesLeft) 29 = .ok (.goto (-27), 3) := by decide +kernel
theorem dd_X11_takesLeft_32 : decode (zc mm_X11_takesLeft) 32 = .ok (.return_, 1) := by decide +kernel
theorem dd_X11_remains_0 : decode (zc mm_X11_remains) 0 = .ok (.iconst 0, 1) := by decide +kernel
theorem dd_X11_remains_1 : decode (zc mm_X11_remains) 1 = .ok (.istore_n 2, 1) := by decide +kernel
theorem dd_X11_remains_2 : decode (zc mm_X11_remains) 2 = .ok (.bipush (-9), 2) := by decide +kernel
theorem dd_X11_remains_4 : decode (zc mm_X11_remains) 4 = .ok (.istore_n 3, 1) := by decide +kernel
theorem dd_X11_remains_5 : decode (zc mm_X11_remains) 5 = .ok (.aload_n 0, 1) := by decide +kernel
theorem dd_X11_remains_6 : decode (zc mm_X11_remains) 6 = .ok (.getfield 234, 3) := by decide +kernel
theorem dd_X11_remains_9 : decode (zc mm_X11_remains) 9 = .ok (.ifCond .lt 21, 3) := by decide +kernel
theorem dd_X11_remains_12 : decode (zc mm_X11_remains) 12 = .ok (.iload_n 1, 1) := by decide +kernel
theorem dd_X11_remains_13 : decode (zc mm_X11_remains) 13 = .ok (.iload_n 2, 1) := by decide +kernel
theorem dd_X11_remains_14 : decode (zc mm_X11_remains) 14 = .ok (.if_icmp .ne 8, 3) := by decide +kernel
theorem dd_X11_remains_17 : decode (zc mm_X11_remains) 17 = .ok (.aload_n 0, 1) := by decide +kernel
theorem dd_X11_remains_18 : decode (zc mm_X11_remains) 18 = .ok (.getfield 234, 3) := by decide +kernel
theorem dd_X11_remains_21 : decode (zc mm_X11_remains) 21 = .ok (.ireturn, 1) := by decide +kernel
theorem dd_X11_remains_22 : decode (zc mm_X11_remains) 22 = .ok (.aload_n 0, 1) := by decide +kernel
theorem dd_X11_remains_23 : decode (zc mm_X11_remains) 23 = .ok (.getfield 234, 3) := by decide +kernel
theorem dd_X11_remains_26 : decode (zc mm_X11_remains) 26 = .ok (.istore_n 3, 1) := by decide +kernel
theorem dd_X11_remains_27 : decode (zc mm_X11_remains) 27 = .ok (.iinc 2 1, 3) := by decide +kernel
theorem dd_X11_remains_30 : decode (zc mm_X11_remains) 30 = .ok (.aload_n 0, 1) := by decide +kernel
theorem dd_X11_remains_31 : decode (zc mm_X11_remains) 31 = .ok (.getfield 237, 3) := by decide +kernel
theorem dd_X11_remains_34 : decode (zc mm_X11_remains) 34 = .ok (.ifCond .lt 107, 3) := by decide +kernel
theorem dd_X11_remains_37 : decode (zc mm_X11_remains) 37 = .ok (.iload_n 1, 1) := by decide +kernel
theorem dd_X11_remains_38 : decode (zc mm_X11_remains) 38 = .ok (.iload_n 2, 1) := by decide +kernel
theorem dd_X11_remains_39 : decode (zc mm_X11_remains) 39 = .ok (.if_icmp .ne 8, 3) := by decide +kernel
theorem dd_X11_remains_42 : decode (zc mm_X11_remains) 42 = .ok (.aload_n 0, 1) := by decide +kernel
theorem dd_X11_remains_43 : decode (zc mm_X11_remains) 43 = .ok (.getfield 237, 3) := by decide +kernel
theorem dd_X11_remains_46 : decode (zc mm_X11_remains) 46 = .ok (.ireturn, 1) := by decide +kernel
theorem dd_X11_remains_47 : decode (zc mm_X11_remains) 47 = .ok (.aload_n 0, 1) := by decide +kernel
theorem dd_X11_remains_48 : decode (zc mm_X11_remains) 48 = .ok (.getfield 237, 3) := by decide +kernel
theorem dd_X11_remains_51 : decode (zc mm_X11_remains) 51 = .ok (.istore_n 3, 1) := by decide +kernel
theorem dd_X11_remains_52 : decode (zc mm_X11_remains) 52 = .ok (.iinc 2 1, 3) := by decide +kernel
theorem dd_X11_remains_55 : decode (zc mm_X11_remains) 55 = .ok (.aload_n 0, 1) := by decide +kernel
theorem dd_X11_remains_56 : decode (zc mm_X11_remains) 56 = .ok (.aload_n 0, 1) := by decide +kernel
theorem dd_X11_remains_57 : decode (zc mm_X11_remains) 57 = .ok (.getfield 67, 3) := by decide +kernel
theorem dd_X11_remains_60 : decode (zc mm_X11_remains) 60 = .ok (.invokevirtual 243, 3) := by decide +kernel
theorem dd_X11_remains_63 : decode (zc mm_X11_remains) 63 = .ok (.aload_n 0, 1) := by decide +kernel
theorem dd_X11_remains_64 : decode (zc mm_X11_remains) 64 = .ok (.aload_n 0, 1) := by decide +kernel
theorem dd_X11_remains_65 : decode (zc mm_X11_remains) 65 = .ok (.getfield 70, 3) := by decide +kernel
theorem dd_X11_remains_68 : decode (zc mm_X11_remains) 68 = .ok (.aload_n 0, 1) := by decide +kernel
theorem dd_X11_remains_69 : decode (zc mm_X11_remains) 69 = .ok (.getfield 237, 3) := by decide +kernel
theorem dd_X11_remains_72 : decode (zc mm_X11_remains) 72 = .ok (.invokevirtual 247, 3) := by decide +kernel
theorem dd_X11_remains_75 : decode (zc mm_X11_remains) 75 = .ok (.iconst 0, 1) := by decide +kernel
theorem dd_X11_remains_76 : decode (zc mm_X11_remains) 76 = .ok (.istore 4, 2) := by decide +kernel
theorem dd_X11_remains_78 : decode (zc mm_X11_remains) 78 = .ok (.iload 4, 2) := by decide +kernel
theorem dd_X11_remains_80 : decode (zc mm_X11_remains) 80 = .ok (.iconst 5, 1) := by decide +kernel
theorem dd_X11_remains_81 : decode (zc mm_X11_remains) 81 = .ok (.if_icmp .ge 37, 3) := by decide +kernel
theorem dd_X11_remains_84 : decode (zc mm_X11_remains) 84 = .ok (.aload_n 0, 1) := by decide +kernel
theorem dd_X11_remains_85 : decode (zc mm_X11_remains) 85 = .ok (.getfield 67, 3) := by decide +kernel
theorem dd_X11_remains_88 : decode (zc mm_X11_remains) 88 = .ok (.iload 4, 2) := by decide +kernel
theorem dd_X11_remains_90 : decode (zc mm_X11_remains) 90 = .ok (.aload_n 0, 1) := by decide +kernel
theorem dd_X11_remains_91 : decode (zc mm_X11_remains) 91 = .ok (.getfield 70, 3) := by decide +kernel
theorem dd_X11_remains_94 : decode (zc mm_X11_remains) 94 = .ok (.iload 4, 2) := by decide +kernel
theorem dd_X11_remains_96 : decode (zc mm_X11_remains) 96 = .ok (.iaload, 1) := by decide +kernel
theorem dd_X11_remains_97 : decode (zc mm_X11_remains) 97 = .ok (.iastore, 1) := by decide +kernel
theorem dd_X11_remains_98 : decode (zc mm_X11_remains) 98 = .ok (.aload_n 0, 1) := by decide +kernel
theorem dd_X11_remains_99 : decode (zc mm_X11_remains) 99 = .ok (.getfield 70, 3) := by decide +kernel
theorem dd_X11_remains_102 : decode (zc mm_X11_remains) 102 = .ok (.iload 4, 2) := by decide +kernel
theorem dd_X11_remains_104 : decode (zc mm_X11_remains) 104 = .ok (.aload_n 0, 1) := by decide +kernel
theorem dd_X11_remains_105 : decode (zc mm_X11_remains) 105 = .ok (.getfield 73, 3) := by decide +kernel
theorem dd_X11_remains_108 : decode (zc mm_X11_remains) 108 = .ok (.iload 4, 2) := by decide +kernel
theorem dd_X11_remains_110 : decode (zc mm_X11_remains) 110 = .ok (.iaload, 1) := by decide +kernel
theorem dd_X11_remains_111 : decode (zc mm_X11_remains) 111 = .ok (.iastore, 1) := by decide +kernel
theorem dd_X11_remains_112 : decode (zc mm_X11_remains) 112 = .ok (.iinc 4 1, 3) := by decide +kernel
theorem dd_X11_remains_115 : decode (zc mm_X11_remains) 115 = .ok (.goto (-37), 3) := by decide +kernel
theorem dd_X11_remains_118 : decode (zc mm_X11_remains) 118 = .ok (.aload_n 0, 1) := by decide +kernel
theorem dd_X11_remains_119 : decode (zc mm_X11_remains) 119 = .ok (.aload_n 0, 1) := by decide +kernel
theorem dd_X11_remains_120 : decode (zc mm_X11_remains) 120 = .ok (.getfield 237, 3) := by decide +kernel
theorem dd_X11_remains_123 : decode (zc mm_X11_remains) 123 = .ok (.putfield 234, 3) := by decide +kernel
theorem dd_X11_remains_126 : decode (zc mm_X11_remains) 126 = .ok (.aload_n 0, 1) := by decide +kernel
theorem dd_X11_remains_127 : decode (zc mm_X11_remains) 127 = .ok (.aload_n 0, 1) := by decide +kernel
theorem dd_X11_remains_128 : decode (zc mm_X11_remains) 128 = .ok (.getfield 70, 3) := by decide +kernel
theorem dd_X11_remains_131 : decode (zc mm_X11_remains) 131 = .ok (.iconst 4, 1) := by decide +kernel
theorem dd_X11_remains_132 : decode (zc mm_X11_remains) 132 = .ok (.invokestatic 230, 3) := by decide +kernel
theorem dd_X11_remains_135 : decode (zc mm_X11_remains) 135 = .ok (.putfield 237, 3) := by decide +kernel
theorem dd_X11_remains_138 : decode (zc mm_X11_remains) 138 = .ok (.goto (-108), 3) := by decide +kernel
theorem dd_X11_remains_141 : decode (zc mm_X11_remains) 141 = .ok (.iload_n 1, 1) := by decide +kernel
theorem dd_X11_remains_142 : decode (zc mm_X11_remains) 142 = .ok (.iconst (-1), 1) := by decide +kernel
theorem dd_X11_remains_143 : decode (zc mm_X11_remains) 143 = .ok (.if_icmp .ne 7, 3) := by decide +kernel
theorem dd_X11_remains_146 : decode (zc mm_X11_remains) 146 = .ok (.iload_n 2, 1) := by decide +kernel
theorem dd_X11_remains_147 : decode (zc mm_X11_remains) 147 = .ok (.goto 15, 3) := by decide +kernel
theorem dd_X11_remains_150 : decode (zc mm_X11_remains) 150 = .ok (.iload_n 1, 1) := by decide +kernel
theorem dd_X11_remains_151 : decode (zc mm_X11_remains) 151 = .ok (.bipush (-2), 2) := by decide +kernel
theorem dd_X11_remains_153 : decode (zc mm_X11_remains) 153 = .ok (.if_icmp .ne 7, 3) := by decide +kernel
theorem dd_X11_remains_156 : decode (zc mm_X11_remains) 156 = .ok (.iload_n 3, 1) := by decide +kernel
theorem dd_X11_remains_157 : decode (zc mm_X11_remains) 157 = .ok (.goto 5, 3) := by decide +kernel
theorem dd_X11_remains_160 : decode (zc mm_X11_remains) 160 = .ok (.bipush (-9), 2) := by decide +kernel
theorem dd_X11_remains_162 : decode (zc mm_X11_remains) 162 = .ok (.ireturn, 1) := by decide +kernel
theorem dd_X11_notAt_0 : decode (zc mm_X11_notAt) 0 = .ok (.aload_n 0, 1) := by decide +kernel
theorem dd_X11_notAt_1 : decode (zc mm_X11_notAt) 1 = .ok (.iload_n 1, 1) := by decide +kernel
theorem dd_X11_notAt_2 : decode (zc mm_X11_notAt) 2 = .ok (.iload_n 2, 1) := by decide +kernel
theorem dd_X11_notAt_3 : decode (zc mm_X11_notAt) 3 = .ok (.iload_n 3, 1) := by decide +kernel
theorem dd_X11_notAt_4 : decode (zc mm_X11_notAt) 4 = .ok (.invokevirtual 251, 3) := by decide +kernel
theorem dd_X11_notAt_7 : decode (zc mm_X11_notAt) 7 = .ok (.istore 5, 2) := by decide +kernel
theorem dd_X11_notAt_9 : decode (zc mm_X11_notAt) 9 = .ok (.iload 5, 2) := by decide +kernel
theorem dd_X11_notAt_11 : decode (zc mm_X11_notAt) 11 = .ok (.ifCond .eq 8, 3) := by decide +kernel
theorem dd_X11_notAt_14 : decode (zc mm_X11_notAt) 14 = .ok (.iload 5, 2) := by decide +kernel
theorem dd_X11_notAt_16 : decode (zc mm_X11_notAt) 16 = .ok (.goto 28, 3) := by decide +kernel
theorem dd_X11_notAt_19 : decode (zc mm_X11_notAt) 19 = .ok (.iload 4, 2) := by decide +kernel
theorem dd_X11_notAt_21 : decode (zc mm_X11_notAt) 21 = .ok (.ifCond .ge 8, 3) := by decide +kernel
theorem dd_X11_notAt_24 : decode (zc mm_X11_notAt) 24 = .ok (.bipush (-4), 2) := by decide +kernel
theorem dd_X11_notAt_26 : decode (zc mm_X11_notAt) 26 = .ok (.goto 18, 3) := by decide +kernel
theorem dd_X11_notAt_29 : decode (zc mm_X11_notAt) 29 = .ok (.iload 4, 2) := by decide +kernel
theorem dd_X11_notAt_31 : decode (zc mm_X11_notAt) 31 = .ok (.aload_n 0, 1) := by decide +kernel
theorem dd_X11_notAt_32 : decode (zc mm_X11_notAt) 32 = .ok (.getfield 9, 3) := by decide +kernel
theorem dd_X11_notAt_35 : decode (zc mm_X11_notAt) 35 = .ok (.if_icmp .lt 8, 3) := by decide +kernel
theorem dd_X11_notAt_38 : decode (zc mm_X11_notAt) 38 = .ok (.bipush (-6), 2) := by decide +kernel
theorem dd_X11_notAt_40 : decode (zc mm_X11_notAt) 40 = .ok (.goto 4, 3) := by decide +kernel
theorem dd_X11_notAt_43 : decode (zc mm_X11_notAt) 43 = .ok (.iconst 0, 1) := by decide +kernel
theorem dd_X11_notAt_44 : decode (zc mm_X11_notAt) 44 = .ok (.ireturn, 1) := by decide +kernel
theorem dd_X11_remainder_0 : decode (zc mm_X11_remainder) 0 = .ok (.aload_n 0, 1) := by decide +kernel
theorem dd_X11_remainder_1 : decode (zc mm_X11_remainder) 1 = .ok (.iload_n 1, 1) := by decide +kernel
theorem dd_X11_remainder_2 : decode (zc mm_X11_remainder) 2 = .ok (.iload_n 2, 1) := by decide +kernel
theorem dd_X11_remainder_3 : decode (zc mm_X11_remainder) 3 = .ok (.iload_n 3, 1) := by decide +kernel
theorem dd_X11_remainder_4 : decode (zc mm_X11_remainder) 4 = .ok (.invokevirtual 251, 3) := by decide +kernel
theorem dd_X11_remainder_7 : decode (zc mm_X11_remainder) 7 = .ok (.istore 6, 2) := by decide +kernel
theorem dd_X11_remainder_9 : decode (zc mm_X11_remainder) 9 = .ok (.iload 6, 2) := by decide +kernel
theorem dd_X11_remainder_11 : decode (zc mm_X11_remainder) 11 = .ok (.ifCond .ne 36, 3) := by decide +kernel
theorem dd_X11_remainder_14 : decode (zc mm_X11_remainder) 14 = .ok (.iload 4, 2) := by decide +kernel
theorem dd_X11_remainder_16 : decode (zc mm_X11_remainder) 16 = .ok (.ifCond .lt 9, 3) := by decide +kernel
theorem dd_X11_remainder_19 : decode (zc mm_X11_remainder) 19 = .ok (.iload 5, 2) := by decide +kernel
theorem dd_X11_remainder_21 : decode (zc mm_X11_remainder) 21 = .ok (.iconst (-1), 1) := by decide +kernel
theorem dd_X11_remainder_22 : decode (zc mm_X11_remainder) 22 = .ok (.if_icmp .ge 8, 3) := by decide +kernel
theorem dd_X11_remainder_25 : decode (zc mm_X11_remainder) 25 = .ok (.bipush (-4), 2) := by decide +kernel
theorem dd_X11_remainder_27 : decode (zc mm_X11_remainder) 27 = .ok (.goto 18, 3) := by decide +kernel
theorem dd_X11_remainder_30 : decode (zc mm_X11_remainder) 30 = .ok (.iload 4, 2) := by decide +kernel
theorem dd_X11_remainder_32 : decode (zc mm_X11_remainder) 32 = .ok (.aload_n 0, 1) := by decide +kernel
theorem dd_X11_remainder_33 : decode (zc mm_X11_remainder) 33 = .ok (.getfield 9, 3) := by decide +kernel
theorem dd_X11_remainder_36 : decode (zc mm_X11_remainder) 36 = .ok (.if_icmp .lt 8, 3) := by decide +kernel
theorem dd_X11_remainder_39 : decode (zc mm_X11_remainder) 39 = .ok (.bipush (-6), 2) := by decide +kernel
theorem dd_X11_remainder_41 : decode (zc mm_X11_remainder) 41 = .ok (.goto 4, 3) := by decide +kernel
theorem dd_X11_remainder_44 : decode (zc mm_X11_remainder) 44 = .ok (.iconst 0, 1) := by decide +kernel
theorem dd_X11_remainder_45 : decode (zc mm_X11_remainder) 45 = .ok (.istore 6, 2) := by decide +kernel
theorem dd_X11_remainder_47 : decode (zc mm_X11_remainder) 47 = .ok (.iload 6, 2) := by decide +kernel
theorem dd_X11_remainder_49 : decode (zc mm_X11_remainder) 49 = .ok (.ifCond .eq 10, 3) := by decide +kernel
theorem dd_X11_remainder_52 : decode (zc mm_X11_remainder) 52 = .ok (.aload_n 0, 1) := by decide +kernel
theorem dd_X11_remainder_53 : decode (zc mm_X11_remainder) 53 = .ok (.iload 6, 2) := by decide +kernel
theorem dd_X11_remainder_55 : decode (zc mm_X11_remainder) 55 = .ok (.invokevirtual 120, 3) := by decide +kernel
theorem dd_X11_remainder_58 : decode (zc mm_X11_remainder) 58 = .ok (.ireturn, 1) := by decide +kernel
theorem dd_X11_remainder_59 : decode (zc mm_X11_remainder) 59 = .ok (.aload_n 0, 1) := by decide +kernel
theorem dd_X11_remainder_60 : decode (zc mm_X11_remainder) 60 = .ok (.iload_n 1, 1) := by decide +kernel
theorem dd_X11_remainder_61 : decode (zc mm_X11_remainder) 61 = .ok (.iload_n 2, 1) := by decide +kernel
theorem dd_X11_remainder_62 : decode (zc mm_X11_remainder) 62 = .ok (.iload_n 3, 1) := by decide +kernel
theorem dd_X11_remainder_63 : decode (zc mm_X11_remainder) 63 = .ok (.invokevirtual 201, 3) := by decide +kernel
theorem dd_X11_remainder_66 : decode (zc mm_X11_remainder) 66 = .ok (.aload_n 0, 1) := by decide +kernel
theorem dd_X11_remainder_67 : decode (zc mm_X11_remainder) 67 = .ok (.iload 4, 2) := by decide +kernel
theorem dd_X11_remainder_69 : decode (zc mm_X11_remainder) 69 = .ok (.invokevirtual 254, 3) := by decide +kernel
theorem dd_X11_remainder_72 : decode (zc mm_X11_remainder) 72 = .ok (.aload_n 0, 1) := by decide +kernel
theorem dd_X11_remainder_73 : decode (zc mm_X11_remainder) 73 = .ok (.iload 5, 2) := by decide +kernel
theorem dd_X11_remainder_75 : decode (zc mm_X11_remainder) 75 = .ok (.invokevirtual 258, 3) := by decide +kernel
theorem dd_X11_remainder_78 : decode (zc mm_X11_remainder) 78 = .ok (.ireturn, 1) := by decide +kernel
theorem dd_X11_common_0 : decode (zc mm_X11_common) 0 = .ok (.aload_n 0, 1) := by decide +kernel
theorem dd_X11_common_1 : decode (zc mm_X11_common) 1 = .ok (.iload_n 1, 1) := by decide +kernel
theorem dd_X11_common_2 : decode (zc mm_X11_common) 2 = .ok (.iload_n 2, 1) := by decide +kernel
theorem dd_X11_common_3 : decode (zc mm_X11_common) 3 = .ok (.iload_n 3, 1) := by decide +kernel
theorem dd_X11_common_4 : decode (zc mm_X11_common) 4 = .ok (.iload 4, 2) := by decide +kernel
theorem dd_X11_common_6 : decode (zc mm_X11_common) 6 = .ok (.invokevirtual 261, 3) := by decide +kernel
theorem dd_X11_common_9 : decode (zc mm_X11_common) 9 = .ok (.istore 5, 2) := by decide +kernel
theorem dd_X11_common_11 : decode (zc mm_X11_common) 11 = .ok (.iload 5, 2) := by decide +kernel
theorem dd_X11_common_13 : decode (zc mm_X11_common) 13 = .ok (.ifCond .eq 10, 3) := by decide +kernel
theorem dd_X11_common_16 : decode (zc mm_X11_common) 16 = .ok (.aload_n 0, 1) := by decide +kernel
theorem dd_X11_common_17 : decode (zc mm_X11_common) 17 = .ok (.iload 5, 2) := by decide +kernel
theorem dd_X11_common_19 : decode (zc mm_X11_common) 19 = .ok (.invokevirtual 120, 3) := by decide +kernel
theorem dd_X11_common_22 : decode (zc mm_X11_common) 22 = .ok (.ireturn, 1) := by decide +kernel
theorem dd_X11_common_23 : decode (zc mm_X11_common) 23 = .ok (.aload_n 0, 1) := by decide +kernel
theorem dd_X11_common_24 : decode (zc mm_X11_common) 24 = .ok (.iload_n 1, 1) := by decide +kernel
theorem dd_X11_common_25 : decode (zc mm_X11_common) 25 = .ok (.iload_n 2, 1) := by decide +kernel
theorem dd_X11_common_26 : decode (zc mm_X11_common) 26 = .ok (.iload_n 3, 1) := by decide +kernel
theorem dd_X11_common_27 : decode (zc mm_X11_common) 27 = .ok (.invokevirtual 201, 3) := by decide +kernel
theorem dd_X11_common_30 : decode (zc mm_X11_common) 30 = .ok (.aload_n 0, 1) := by decide +kernel
theorem dd_X11_common_31 : decode (zc mm_X11_common) 31 = .ok (.iload 4, 2) := by decide +kernel
theorem dd_X11_common_33 : decode (zc mm_X11_common) 33 = .ok (.invokevirtual 254, 3) := by decide +kernel
theorem dd_X11_common_36 : decode (zc mm_X11_common) 36 = .ok (.aload_n 0, 1) := by decide +kernel
theorem dd_X11_common_37 : decode (zc mm_X11_common) 37 = .ok (.bipush (-2), 2) := by decide +kernel
theorem dd_X11_common_39 : decode (zc mm_X11_common) 39 = .ok (.invokevirtual 258, 3) := by decide +kernel
theorem dd_X11_common_42 : decode (zc mm_X11_common) 42 = .ok (.ireturn, 1) := by decide +kernel
theorem dd_X11_norm_0 : decode (zc mm_X11_norm) 0 = .ok (.aload_n 0, 1) := by decide +kernel
theorem dd_X11_norm_1 : decode (zc mm_X11_norm) 1 = .ok (.iload_n 1, 1) := by decide +kernel
theorem dd_X11_norm_2 : decode (zc mm_X11_norm) 2 = .ok (.iload_n 2, 1) := by decide +kernel
theorem dd_X11_norm_3 : decode (zc mm_X11_norm) 3 = .ok (.iload_n 3, 1) := by decide +kernel
theorem dd_X11_norm_4 : decode (zc mm_X11_norm) 4 = .ok (.iload 4, 2) := by decide +kernel
theorem dd_X11_norm_6 : decode (zc mm_X11_norm) 6 = .ok (.invokevirtual 261, 3) := by decide +kernel
theorem dd_X11_norm_9 : decode (zc mm_X11_norm) 9 = .ok (.istore 5, 2) := by decide +kernel
theorem dd_X11_norm_11 : decode (zc mm_X11_norm) 11 = .ok (.iload 5, 2) := by decide +kernel
theorem dd_X11_norm_13 : decode (zc mm_X11_norm) 13 = .ok (.ifCond .eq 10, 3) := by decide +kernel
theorem dd_X11_norm_16 : decode (zc mm_X11_norm) 16 = .ok (.aload_n 0, 1) := by decide +kernel
theorem dd_X11_norm_17 : decode (zc mm_X11_norm) 17 = .ok (.iload 5, 2) := by decide +kernel
theorem dd_X11_norm_19 : decode (zc mm_X11_norm) 19 = .ok (.invokevirtual 120, 3) := by decide +kernel
theorem dd_X11_norm_22 : decode (zc mm_X11_norm) 22 = .ok (.ireturn, 1) := by decide +kernel
theorem dd_X11_norm_23 : decode (zc mm_X11_norm) 23 = .ok (.aload_n 0, 1) := by decide +kernel
theorem dd_X11_norm_24 : decode (zc mm_X11_norm) 24 = .ok (.iload_n 1, 1) := by decide +kernel
theorem dd_X11_norm_25 : decode (zc mm_X11_norm) 25 = .ok (.iload_n 2, 1) := by decide +kernel
theorem dd_X11_norm_26 : decode (zc mm_X11_norm) 26 = .ok (.iload_n 3, 1) := by decide +kernel
theorem dd_X11_norm_27 : decode (zc mm_X11_norm) 27 = .ok (.invokevirtual 201, 3) := by decide +kernel
theorem dd_X11_norm_30 : decode (zc mm_X11_norm) 30 = .ok (.aload_n 0, 1) := by decide +kernel
theorem dd_X11_norm_31 : decode (zc mm_X11_norm) 31 = .ok (.iload 4, 2) := by decide +kernel
theorem dd_X11_norm_33 : decode (zc mm_X11_norm) 33 = .ok (.invokevirtual 254, 3) := by decide +kernel
theorem dd_X11_norm_36 : decode (zc mm_X11_norm) 36 = .ok (.aload_n 0, 1) := by decide +kernel
theorem dd_X11_norm_37 : decode (zc mm_X11_norm) 37 = .ok (.getfield 234, 3) := by decide +kernel
theorem dd_X11_norm_40 : decode (zc mm_X11_norm) 40 = .ok (.ifCond .ge 6, 3) := by decide +kernel
theorem dd_X11_norm_43 : decode (zc mm_X11_norm) 43 = .ok (.bipush (-9), 2) := by decide +kernel
theorem dd_X11_norm_45 : decode (zc mm_X11_norm) 45 = .ok (.ireturn, 1) := by decide +kernel
theorem dd_X11_norm_46 : decode (zc mm_X11_norm) 46 = .ok (.aload_n 0, 1) := by decide +kernel
theorem dd_X11_norm_47 : decode (zc mm_X11_norm) 47 = .ok (.aload_n 0, 1) := by decide +kernel
theorem dd_X11_norm_48 : decode (zc mm_X11_norm) 48 = .ok (.getfield 234, 3) := by decide +kernel
theorem dd_X11_norm_51 : decode (zc mm_X11_norm) 51 = .ok (.putfield 186, 3) := by decide +kernel
theorem dd_X11_norm_54 : decode (zc mm_X11_norm) 54 = .ok (.aload_n 0, 1) := by decide +kernel
theorem dd_X11_norm_55 : decode (zc mm_X11_norm) 55 = .ok (.aload_n 0, 1) := by decide +kernel
theorem dd_X11_norm_56 : decode (zc mm_X11_norm) 56 = .ok (.getfield 70, 3) := by decide +kernel
theorem dd_X11_norm_59 : decode (zc mm_X11_norm) 59 = .ok (.invokevirtual 243, 3) := by decide +kernel
theorem dd_X11_norm_62 : decode (zc mm_X11_norm) 62 = .ok (.iconst 0, 1) := by decide +kernel
theorem dd_X11_norm_63 : decode (zc mm_X11_norm) 63 = .ok (.istore 6, 2) := by decide +kernel
theorem dd_X11_norm_65 : decode (zc mm_X11_norm) 65 = .ok (.iload 6, 2) := by decide +kernel
theorem dd_X11_norm_67 : decode (zc mm_X11_norm) 67 = .ok (.aload_n 0, 1) := by decide +kernel
theorem dd_X11_norm_68 : decode (zc mm_X11_norm) 68 = .ok (.getfield 186, 3) := by decide +kernel
theorem dd_X11_norm_71 : decode (zc mm_X11_norm) 71 = .ok (.if_icmp .ge 128, 3) := by decide +kernel
theorem dd_X11_norm_74 : decode (zc mm_X11_norm) 74 = .ok (.aload_n 0, 1) := by decide +kernel
theorem dd_X11_norm_75 : decode (zc mm_X11_norm) 75 = .ok (.aload_n 0, 1) := by decide +kernel
theorem dd_X11_norm_76 : decode (zc mm_X11_norm) 76 = .ok (.getfield 67, 3) := by decide +kernel
theorem dd_X11_norm_79 : decode (zc mm_X11_norm) 79 = .ok (.aload_n 0, 1) := by decide +kernel
theorem dd_X11_norm_80 : decode (zc mm_X11_norm) 80 = .ok (.getfield 234, 3) := by decide +kernel
theorem dd_X11_norm_83 : decode (zc mm_X11_norm) 83 = .ok (.invokevirtual 247, 3) := by decide +kernel
theorem dd_X11_norm_86 : decode (zc mm_X11_norm) 86 = .ok (.iconst 0, 1) := by decide +kernel
theorem dd_X11_norm_87 : decode (zc mm_X11_norm) 87 = .ok (.istore 7, 2) := by decide +kernel
theorem dd_X11_norm_89 : decode (zc mm_X11_norm) 89 = .ok (.iload 7, 2) := by decide +kernel
theorem dd_X11_norm_91 : decode (zc mm_X11_norm) 91 = .ok (.aload_n 0, 1) := by decide +kernel
theorem dd_X11_norm_92 : decode (zc mm_X11_norm) 92 = .ok (.getfield 186, 3) := by decide +kernel
theorem dd_X11_norm_95 : decode (zc mm_X11_norm) 95 = .ok (.if_icmp .ge 60, 3) := by decide +kernel
theorem dd_X11_norm_98 : decode (zc mm_X11_norm) 98 = .ok (.iconst 0, 1) := by decide +kernel
theorem dd_X11_norm_99 : decode (zc mm_X11_norm) 99 = .ok (.istore 8, 2) := by decide +kernel
theorem dd_X11_norm_101 : decode (zc mm_X11_norm) 101 = .ok (.iload 8, 2) := by decide +kernel
theorem dd_X11_norm_103 : decode (zc mm_X11_norm) 103 = .ok (.bipush 9, 2) := by decide +kernel
theorem dd_X11_norm_105 : decode (zc mm_X11_norm) 105 = .ok (.if_icmp .ge 44, 3) := by decide +kernel
theorem dd_X11_norm_108 : decode (zc mm_X11_norm) 108 = .ok (.aload_n 0, 1) := by decide +kernel
theorem dd_X11_norm_109 : decode (zc mm_X11_norm) 109 = .ok (.getfield 58, 3) := by decide +kernel
theorem dd_X11_norm_112 : decode (zc mm_X11_norm) 112 = .ok (.bipush 9, 2) := by decide +kernel
theorem dd_X11_norm_114 : decode (zc mm_X11_norm) 114 = .ok (.bipush 8, 2) := by decide +kernel
theorem dd_X11_norm_116 : decode (zc mm_X11_norm) 116 = .ok (.iload 6, 2) := by decide +kernel
theorem dd_X11_norm_118 : decode (zc mm_X11_norm) 118 = .ok (.imul, 1) := by decide +kernel
theorem dd_X11_norm_119 : decode (zc mm_X11_norm) 119 = .ok (.iload 7, 2) := by decide +kernel
theorem dd_X11_norm_121 : decode (zc mm_X11_norm) 121 = .ok (.iadd, 1) := by decide +kernel
theorem dd_X11_norm_122 : decode (zc mm_X11_norm) 122 = .ok (.imul, 1) := by decide +kernel
theorem dd_X11_norm_123 : decode (zc mm_X11_norm) 123 = .ok (.iload 8, 2) := by decide +kernel
theorem dd_X11_norm_125 : decode (zc mm_X11_norm) 125 = .ok (.iadd, 1) := by decide +kernel
theorem dd_X11_norm_126 : decode (zc mm_X11_norm) 126 = .ok (.iload 8, 2) := by decide +kernel
theorem dd_X11_norm_128 : decode (zc mm_X11_norm) 128 = .ok (.ifCond .ne 13, 3) := by decide +kernel
theorem dd_X11_norm_131 : decode (zc mm_X11_norm) 131 = .ok (.aload_n 0, 1) := by decide +kernel
theorem dd_X11_norm_132 : decode (zc mm_X11_norm) 132 = .ok (.getfield 73, 3) := by decide +kernel
theorem dd_X11_norm_135 : decode (zc mm_X11_norm) 135 = .ok (.iload 7, 2) := by decide +kernel
theorem dd_X11_norm_137 : decode (zc mm_X11_norm) 137 = .ok (.iaload, 1) := by decide +kernel
theorem dd_X11_norm_138 : decode (zc mm_X11_norm) 138 = .ok (.goto 4, 3) := by decide +kernel
theorem dd_X11_norm_141 : decode (zc mm_X11_norm) 141 = .ok (.iconst 0, 1) := by decide +kernel
theorem dd_X11_norm_142 : decode (zc mm_X11_norm) 142 = .ok (.iastore, 1) := by decide +kernel
theorem dd_X11_norm_143 : decode (zc mm_X11_norm) 143 = .ok (.iinc 8 1, 3) := by decide +kernel
theorem dd_X11_norm_146 : decode (zc mm_X11_norm) 146 = .ok (.goto (-45), 3) := by decide +kernel
theorem dd_X11_norm_149 : decode (zc mm_X11_norm) 149 = .ok (.iinc 7 1, 3) := by decide +kernel
theorem dd_X11_norm_152 : decode (zc mm_X11_norm) 152 = .ok (.goto (-63), 3) := by decide +kernel
theorem dd_X11_norm_155 : decode (zc mm_X11_norm) 155 = .ok (.bipush 8, 2) := by decide +kernel
theorem dd_X11_norm_157 : decode (zc mm_X11_norm) 157 = .ok (.istore 7, 2) := by decide +kernel
theorem dd_X11_norm_159 : decode (zc mm_X11_norm) 159 = .ok (.iload 7, 2) := by decide +kernel
theorem dd_X11_norm_161 : decode (zc mm_X11_norm) 161 = .ok (.ifCond .le 25, 3) := by decide +kernel
theorem dd_X11_norm_164 : decode (zc mm_X11_norm) 164 = .ok (.aload_n 0, 1) := by decide +kernel
theorem dd_X11_norm_165 : decode (zc mm_X11_norm) 165 = .ok (.getfield 73, 3) := by decide +kernel
theorem dd_X11_norm_168 : decode (zc mm_X11_norm) 168 = .ok (.iload 7, 2) := by decide +kernel
theorem dd_X11_norm_170 : decode (zc mm_X11_norm) 170 = .ok (.aload_n 0, 1) := by decide +kernel
theorem dd_X11_norm_171 : decode (zc mm_X11_norm) 171 = .ok (.getfield 73, 3) := by decide +kernel
theorem dd_X11_norm_174 : decode (zc mm_X11_norm) 174 = .ok (.iload 7, 2) := by decide +kernel
theorem dd_X11_norm_176 : decode (zc mm_X11_norm) 176 = .ok (.iconst 1, 1) := by decide +kernel
theorem dd_X11_norm_177 : decode (zc mm_X11_norm) 177 = .ok (.isub, 1) := by decide +kernel
theorem dd_X11_norm_178 : decode (zc mm_X11_norm) 178 = .ok (.iaload, 1) := by decide +kernel
theorem dd_X11_norm_179 : decode (zc mm_X11_norm) 179 = .ok (.iastore, 1) := by decide +kernel
theorem dd_X11_norm_180 : decode (zc mm_X11_norm) 180 = .ok (.iinc 7 (-1), 3) := by decide +kernel
theorem dd_X11_norm_183 : decode (zc mm_X11_norm) 183 = .ok (.goto (-24), 3) := by decide +kernel
theorem dd_X11_norm_186 : decode (zc mm_X11_norm) 186 = .ok (.aload_n 0, 1) := by decide +kernel
theorem dd_X11_norm_187 : decode (zc mm_X11_norm) 187 = .ok (.getfield 73, 3) := by decide +kernel
theorem dd_X11_norm_190 : decode (zc mm_X11_norm) 190 = .ok (.iconst 0, 1) := by decide +kernel
theorem dd_X11_norm_191 : decode (zc mm_X11_norm) 191 = .ok (.iconst 0, 1) := by decide +kernel
theorem dd_X11_norm_192 : decode (zc mm_X11_norm) 192 = .ok (.iastore, 1) := by decide +kernel
theorem dd_X11_norm_193 : decode (zc mm_X11_norm) 193 = .ok (.iinc 6 1, 3) := by decide +kernel
theorem dd_X11_norm_196 : decode (zc mm_X11_norm) 196 = .ok (.goto (-131), 3) := by decide +kernel
theorem dd_X11_norm_199 : decode (zc mm_X11_norm) 199 = .ok (.aload_n 0, 1) := by decide +kernel
theorem dd_X11_norm_200 : decode (zc mm_X11_norm) 200 = .ok (.getfield 61, 3) := by decide +kernel
theorem dd_X11_norm_203 : decode (zc mm_X11_norm) 203 = .ok (.aload_n 0, 1) := by decide +kernel
theorem dd_X11_norm_204 : decode (zc mm_X11_norm) 204 = .ok (.invokevirtual 221, 3) := by decide +kernel
theorem dd_X11_norm_207 : decode (zc mm_X11_norm) 207 = .ok (.iaload, 1) := by decide +kernel
theorem dd_X11_norm_208 : decode (zc mm_X11_norm) 208 = .ok (.ireturn, 1) := by decide +kernel
theorem dd_X11_extra_0 : decode (zc mm_X11_extra) 0 = .ok (.aload_n 0, 1) := by decide +kernel
theorem dd_X11_extra_1 : decode (zc mm_X11_extra) 1 = .ok (.iload_n 1, 1) := by decide +kernel
theorem dd_X11_extra_2 : decode (zc mm_X11_extra) 2 = .ok (.iload_n 2, 1) := by decide +kernel
theorem dd_X11_extra_3 : decode (zc mm_X11_extra) 3 = .ok (.iload_n 3, 1) := by decide +kernel
theorem dd_X11_extra_4 : decode (zc mm_X11_extra) 4 = .ok (.invokevirtual 251, 3) := by decide +kernel
theorem dd_X11_extra_7 : decode (zc mm_X11_extra) 7 = .ok (.istore 4, 2) := by decide +kernel
theorem dd_X11_extra_9 : decode (zc mm_X11_extra) 9 = .ok (.iload 4, 2) := by decide +kernel
theorem dd_X11_extra_11 : decode (zc mm_X11_extra) 11 = .ok (.ifCond .eq 10, 3) := by decide +kernel
theorem dd_X11_extra_14 : decode (zc mm_X11_extra) 14 = .ok (.aload_n 0, 1) := by decide +kernel
theorem dd_X11_extra_15 : decode (zc mm_X11_extra) 15 = .ok (.iload 4, 2) := by decide +kernel
theorem dd_X11_extra_17 : decode (zc mm_X11_extra) 17 = .ok (.invokevirtual 120, 3) := by decide +kernel
theorem dd_X11_extra_20 : decode (zc mm_X11_extra) 20 = .ok (.ireturn, 1) := by decide +kernel
theorem dd_X11_extra_21 : decode (zc mm_X11_extra) 21 = .ok (.aload_n 0, 1) := by decide +kernel
theorem dd_X11_extra_22 : decode (zc mm_X11_extra) 22 = .ok (.iload_n 1, 1) := by decide +kernel
theorem dd_X11_extra_23 : decode (zc mm_X11_extra) 23 = .ok (.iload_n 2, 1) := by decide +kernel
theorem dd_X11_extra_24 : decode (zc mm_X11_extra) 24 = .ok (.iload_n 3, 1) := by decide +kernel
theorem dd_X11_extra_25 : decode (zc mm_X11_extra) 25 = .ok (.invokevirtual 201, 3) := by decide +kernel
theorem dd_X11_extra_28 : decode (zc mm_X11_extra) 28 = .ok (.iconst 0, 1) := by decide +kernel
theorem dd_X11_extra_29 : decode (zc mm_X11_extra) 29 = .ok (.istore 5, 2) := by decide +kernel
theorem dd_X11_extra_31 : decode (zc mm_X11_extra) 31 = .ok (.iload 5, 2) := by decide +kernel
theorem dd_X11_extra_33 : decode (zc mm_X11_extra) 33 = .ok (.iconst 5, 1) := by decide +kernel
theorem dd_X11_extra_34 : decode (zc mm_X11_extra) 34 = .ok (.if_icmp .ge 43, 3) := by decide +kernel
theorem dd_X11_extra_37 : decode (zc mm_X11_extra) 37 = .ok (.aload_n 0, 1) := by decide +kernel
theorem dd_X11_extra_38 : decode (zc mm_X11_extra) 38 = .ok (.getfield 67, 3) := by decide +kernel
theorem dd_X11_extra_41 : decode (zc mm_X11_extra) 41 = .ok (.iload 5, 2) := by decide +kernel
theorem dd_X11_extra_43 : decode (zc mm_X11_extra) 43 = .ok (.aload_n 0, 1) := by decide +kernel
theorem dd_X11_extra_44 : decode (zc mm_X11_extra) 44 = .ok (.aload_n 0, 1) := by decide +kernel
theorem dd_X11_extra_45 : decode (zc mm_X11_extra) 45 = .ok (.getfield 180, 3) := by decide +kernel
theorem dd_X11_extra_48 : decode (zc mm_X11_extra) 48 = .ok (.iload 5, 2) := by decide +kernel
theorem dd_X11_extra_50 : decode (zc mm_X11_extra) 50 = .ok (.invokevirtual 189, 3) := by decide +kernel
theorem dd_X11_extra_53 : decode (zc mm_X11_extra) 53 = .ok (.iastore, 1) := by decide +kernel
theorem dd_X11_extra_54 : decode (zc mm_X11_extra) 54 = .ok (.aload_n 0, 1) := by decide +kernel
theorem dd_X11_extra_55 : decode (zc mm_X11_extra) 55 = .ok (.getfield 70, 3) := by decide +kernel
theorem dd_X11_extra_58 : decode (zc mm_X11_extra) 58 = .ok (.iload 5, 2) := by decide +kernel
theorem dd_X11_extra_60 : decode (zc mm_X11_extra) 60 = .ok (.aload_n 0, 1) := by decide +kernel
theorem dd_X11_extra_61 : decode (zc mm_X11_extra) 61 = .ok (.aload_n 0, 1) := by decide +kernel
theorem dd_X11_extra_62 : decode (zc mm_X11_extra) 62 = .ok (.getfield 183, 3) := by decide +kernel
theorem dd_X11_extra_65 : decode (zc mm_X11_extra) 65 = .ok (.iload 5, 2) := by decide +kernel
theorem dd_X11_extra_67 : decode (zc mm_X11_extra) 67 = .ok (.invokevirtual 192, 3) := by decide +kernel
theorem dd_X11_extra_70 : decode (zc mm_X11_extra) 70 = .ok (.iastore, 1) := by decide +kernel
theorem dd_X11_extra_71 : decode (zc mm_X11_extra) 71 = .ok (.iinc 5 1, 3) := by decide +kernel
theorem dd_X11_extra_74 : decode (zc mm_X11_extra) 74 = .ok (.goto (-43), 3) := by decide +kernel
theorem dd_X11_extra_77 : decode (zc mm_X11_extra) 77 = .ok (.aload_n 0, 1) := by decide +kernel
theorem dd_X11_extra_78 : decode (zc mm_X11_extra) 78 = .ok (.aload_n 0, 1) := by decide +kernel
theorem dd_X11_extra_79 : decode (zc mm_X11_extra) 79 = .ok (.getfield 67, 3) := by decide +kernel
theorem dd_X11_extra_82 : decode (zc mm_X11_extra) 82 = .ok (.iconst 4, 1) := by decide +kernel
theorem dd_X11_extra_83 : decode (zc mm_X11_extra) 83 = .ok (.invokestatic 230, 3) := by decide +kernel
theorem dd_X11_extra_86 : decode (zc mm_X11_extra) 86 = .ok (.putfield 234, 3) := by decide +kernel
theorem dd_X11_extra_89 : decode (zc mm_X11_extra) 89 = .ok (.aload_n 0, 1) := by decide +kernel
theorem dd_X11_extra_90 : decode (zc mm_X11_extra) 90 = .ok (.aload_n 0, 1) := by decide +kernel
theorem dd_X11_extra_91 : decode (zc mm_X11_extra) 91 = .ok (.getfield 70, 3) := by decide +kernel
theorem dd_X11_extra_94 : decode (zc mm_X11_extra) 94 = .ok (.iconst 4, 1) := by decide +kernel
theorem dd_X11_extra_95 : decode (zc mm_X11_extra) 95 = .ok (.invokestatic 230, 3) := by decide +kernel
theorem dd_X11_extra_98 : decode (zc mm_X11_extra) 98 = .ok (.putfield 237, 3) := by decide +kernel
theorem dd_X11_extra_101 : decode (zc mm_X11_extra) 101 = .ok (.aload_n 0, 1) := by decide +kernel
theorem dd_X11_extra_102 : decode (zc mm_X11_extra) 102 = .ok (.bipush (-2), 2) := by decide +kernel
theorem dd_X11_extra_104 : decode (zc mm_X11_extra) 104 = .ok (.invokevirtual 258, 3) := by decide +kernel
theorem dd_X11_extra_107 : decode (zc mm_X11_extra) 107 = .ok (.ireturn, 1) := by decide +kernel
theorem dd_X11_zeros_0 : decode (zc mm_X11_zeros) 0 = .ok (.aload_n 0, 1) := by decide +kernel
theorem dd_X11_zeros_1 : decode (zc mm_X11_zeros) 1 = .ok (.iload_n 1, 1) := by decide +kernel
theorem dd_X11_zeros_2 : decode (zc mm_X11_zeros) 2 = .ok (.iload_n 2, 1) := by decide +kernel
theorem dd_X11_zeros_3 : decode (zc mm_X11_zeros) 3 = .ok (.iload_n 3, 1) := by decide +kernel
theorem dd_X11_zeros_4 : decode (zc mm_X11_zeros) 4 = .ok (.invokevirtual 251, 3) := by decide +kernel
theorem dd_X11_zeros_7 : decode (zc mm_X11_zeros) 7 = .ok (.istore 4, 2) := by decide +kernel
theorem dd_X11_zeros_9 : decode (zc mm_X11_zeros) 9 = .ok (.iload 4, 2) := by decide +kernel
theorem dd_X11_zeros_11 : decode (zc mm_X11_zeros) 11 = .ok (.ifCond .eq 10, 3) := by decide +kernel
theorem dd_X11_zeros_14 : decode (zc mm_X11_zeros) 14 = .ok (.aload_n 0, 1) := by decide +kernel
theorem dd_X11_zeros_15 : decode (zc mm_X11_zeros) 15 = .ok (.iload 4, 2) := by decide +kernel
theorem dd_X11_zeros_17 : decode (zc mm_X11_zeros) 17 = .ok (.invokevirtual 120, 3) := by decide +kernel
theorem dd_X11_zeros_20 : decode (zc mm_X11_zeros) 20 = .ok (.ireturn, 1) := by decide +kernel
theorem dd_X11_zeros_21 : decode (zc mm_X11_zeros) 21 = .ok (.aload_n 0, 1) := by decide +kernel
theorem dd_X11_zeros_22 : decode (zc mm_X11_zeros) 22 = .ok (.iload_n 1, 1) := by decide +kernel
theorem dd_X11_zeros_23 : decode (zc mm_X11_zeros) 23 = .ok (.iload_n 2, 1) := by decide +kernel
theorem dd_X11_zeros_24 : decode (zc mm_X11_zeros) 24 = .ok (.iload_n 3, 1) := by decide +kernel
theorem dd_X11_zeros_25 : decode (zc mm_X11_zeros) 25 = .ok (.iconst 0, 1) := by decide +kernel
theorem dd_X11_zeros_26 : decode (zc mm_X11_zeros) 26 = .ok (.invokevirtual 224, 3) := by decide +kernel
theorem dd_X11_zeros_29 : decode (zc mm_X11_zeros) 29 = .ok (.iconst 0, 1) := by decide +kernel
theorem dd_X11_zeros_30 : decode (zc mm_X11_zeros) 30 = .ok (.istore 5, 2) := by decide +kernel
theorem dd_X11_zeros_32 : decode (zc mm_X11_zeros) 32 = .ok (.iconst 0, 1) := by decide +kernel
theorem dd_X11_zeros_33 : decode (zc mm_X11_zeros) 33 = .ok (.istore 6, 2) := by decide +kernel
theorem dd_X11_zeros_35 : decode (zc mm_X11_zeros) 35 = .ok (.iload 6, 2) := by decide +kernel
theorem dd_X11_zeros_37 : decode (zc mm_X11_zeros) 37 = .ok (.aload_n 0, 1) := by decide +kernel
theorem dd_X11_zeros_38 : decode (zc mm_X11_zeros) 38 = .ok (.getfield 9, 3) := by decide +kernel
theorem dd_X11_zeros_41 : decode (zc mm_X11_zeros) 41 = .ok (.if_icmp .ge 31, 3) := by decide +kernel
theorem dd_X11_zeros_44 : decode (zc mm_X11_zeros) 44 = .ok (.iload 5, 2) := by decide +kernel
theorem dd_X11_zeros_46 : decode (zc mm_X11_zeros) 46 = .ok (.aload_n 0, 1) := by decide +kernel
theorem dd_X11_zeros_47 : decode (zc mm_X11_zeros) 47 = .ok (.iload 6, 2) := by decide +kernel
theorem dd_X11_zeros_49 : decode (zc mm_X11_zeros) 49 = .ok (.invokevirtual 227, 3) := by decide +kernel
theorem dd_X11_zeros_52 : decode (zc mm_X11_zeros) 52 = .ok (.ifCond .ne 10, 3) := by decide +kernel
theorem dd_X11_zeros_55 : decode (zc mm_X11_zeros) 55 = .ok (.iconst 1, 1) := by decide +kernel
theorem dd_X11_zeros_56 : decode (zc mm_X11_zeros) 56 = .ok (.iload 6, 2) := by decide +kernel
theorem dd_X11_zeros_58 : decode (zc mm_X11_zeros) 58 = .ok (.ishl, 1) := by decide +kernel
theorem dd_X11_zeros_59 : decode (zc mm_X11_zeros) 59 = .ok (.goto 4, 3) := by decide +kernel
theorem dd_X11_zeros_62 : decode (zc mm_X11_zeros) 62 = .ok (.iconst 0, 1) := by decide +kernel
theorem dd_X11_zeros_63 : decode (zc mm_X11_zeros) 63 = .ok (.ior, 1) := by decide +kernel
theorem dd_X11_zeros_64 : decode (zc mm_X11_zeros) 64 = .ok (.istore 5, 2) := by decide +kernel
theorem dd_X11_zeros_66 : decode (zc mm_X11_zeros) 66 = .ok (.iinc 6 1, 3) := by decide +kernel
theorem dd_X11_zeros_69 : decode (zc mm_X11_zeros) 69 = .ok (.goto (-34), 3) := by decide +kernel
theorem dd_X11_zeros_72 : decode (zc mm_X11_zeros) 72 = .ok (.iload 5, 2) := by decide +kernel
theorem dd_X11_zeros_74 : decode (zc mm_X11_zeros) 74 = .ok (.ireturn, 1) := by decide +kernel
theorem dd_X11_isRoot_0 : decode (zc mm_X11_isRoot) 0 = .ok (.aload_n 0, 1) := by decide +kernel
theorem dd_X11_isRoot_1 : decode (zc mm_X11_isRoot) 1 = .ok (.iload_n 1, 1) := by decide +kernel
theorem dd_X11_isRoot_2 : decode (zc mm_X11_isRoot) 2 = .ok (.iload_n 3, 1) := by decide +kernel
theorem dd_X11_isRoot_3 : decode (zc mm_X11_isRoot) 3 = .ok (.iload 4, 2) := by decide +kernel
theorem dd_X11_isRoot_5 : decode (zc mm_X11_isRoot) 5 = .ok (.invokevirtual 167, 3) := by decide +kernel
theorem dd_X11_isRoot_8 : decode (zc mm_X11_isRoot) 8 = .ok (.ifCond .ne 18, 3) := by decide +kernel
theorem dd_X11_isRoot_11 : decode (zc mm_X11_isRoot) 11 = .ok (.aload_n 0, 1) := by decide +kernel
theorem dd_X11_isRoot_12 : decode (zc mm_X11_isRoot) 12 = .ok (.iload_n 2, 1) := by decide +kernel
theorem dd_X11_isRoot_13 : decode (zc mm_X11_isRoot) 13 = .ok (.iload_n 3, 1) := by decide +kernel
theorem dd_X11_isRoot_14 : decode (zc mm_X11_isRoot) 14 = .ok (.iload 4, 2) := by decide +kernel
theorem dd_X11_isRoot_16 : decode (zc mm_X11_isRoot) 16 = .ok (.invokevirtual 167, 3) := by decide +kernel
theorem dd_X11_isRoot_19 : decode (zc mm_X11_isRoot) 19 = .ok (.ifCond .ne 7, 3) := by decide +kernel
theorem dd_X11_isRoot_22 : decode (zc mm_X11_isRoot) 22 = .ok (.iconst 1, 1) := by decide +kernel
theorem dd_X11_isRoot_23 : decode (zc mm_X11_isRoot) 23 = .ok (.goto 4, 3) := by decide +kernel
theorem dd_X11_isRoot_26 : decode (zc mm_X11_isRoot) 26 = .ok (.iconst 0, 1) := by decide +kernel
theorem dd_X11_isRoot_27 : decode (zc mm_X11_isRoot) 27 = .ok (.ireturn, 1) := by decide +kernel
theorem dd_X11_lifted_0 : decode (zc mm_X11_lifted) 0 = .ok (.aload_n 0, 1) := by decide +kernel
theorem dd_X11_lifted_1 : decode (zc mm_X11_lifted) 1 = .ok (.iload_n 1, 1) := by decide +kernel
theorem dd_X11_lifted_2 : decode (zc mm_X11_lifted) 2 = .ok (.iload_n 2, 1) := by decide +kernel
theorem dd_X11_lifted_3 : decode (zc mm_X11_lifted) 3 = .ok (.iload_n 3, 1) := by decide +kernel
theorem dd_X11_lifted_4 : decode (zc mm_X11_lifted) 4 = .ok (.invokevirtual 170, 3) := by decide +kernel
theorem dd_X11_lifted_7 : decode (zc mm_X11_lifted) 7 = .ok (.ifCond .eq 9, 3) := by decide +kernel
theorem dd_X11_lifted_10 : decode (zc mm_X11_lifted) 10 = .ok (.aload_n 0, 1) := by decide +kernel
theorem dd_X11_lifted_11 : decode (zc mm_X11_lifted) 11 = .ok (.iconst (-1), 1) := by decide +kernel
theorem dd_X11_lifted_12 : decode (zc mm_X11_lifted) 12 = .ok (.invokevirtual 120, 3) := by decide +kernel
theorem dd_X11_lifted_15 : decode (zc mm_X11_lifted) 15 = .ok (.ireturn, 1) := by decide +kernel
theorem dd_X11_lifted_16 : decode (zc mm_X11_lifted) 16 = .ok (.iconst 0, 1) := by decide +kernel
theorem dd_X11_lifted_17 : decode (zc mm_X11_lifted) 17 = .ok (.istore 4, 2) := by decide +kernel
theorem dd_X11_lifted_19 : decode (zc mm_X11_lifted) 19 = .ok (.iconst 0, 1) := by decide +kernel
theorem dd_X11_lifted_20 : decode (zc mm_X11_lifted) 20 = .ok (.istore 5, 2) := by decide +kernel
theorem dd_X11_lifted_22 : decode (zc mm_X11_lifted) 22 = .ok (.iload 5, 2) := by decide +kernel
theorem dd_X11_lifted_24 : decode (zc mm_X11_lifted) 24 = .ok (.aload_n 0, 1) := by decide +kernel
theorem dd_X11_lifted_25 : decode (zc mm_X11_lifted) 25 = .ok (.getfield 9, 3) := by decide +kernel
theorem dd_X11_lifted_28 : decode (zc mm_X11_lifted) 28 = .ok (.if_icmp .ge 62, 3) := by decide +kernel
theorem dd_X11_lifted_31 : decode (zc mm_X11_lifted) 31 = .ok (.iconst 0, 1) := by decide +kernel
theorem dd_X11_lifted_32 : decode (zc mm_X11_lifted) 32 = .ok (.istore 6, 2) := by decide +kernel
theorem dd_X11_lifted_34 : decode (zc mm_X11_lifted) 34 = .ok (.iload 6, 2) := by decide +kernel
theorem dd_X11_lifted_36 : decode (zc mm_X11_lifted) 36 = .ok (.aload_n 0, 1) := by decide +kernel
theorem dd_X11_lifted_37 : decode (zc mm_X11_lifted) 37 = .ok (.getfield 9, 3) := by decide +kernel
theorem dd_X11_lifted_40 : decode (zc mm_X11_lifted) 40 = .ok (.if_icmp .ge 44, 3) := by decide +kernel
theorem dd_X11_lifted_43 : decode (zc mm_X11_lifted) 43 = .ok (.iload 4, 2) := by decide +kernel
theorem dd_X11_lifted_45 : decode (zc mm_X11_lifted) 45 = .ok (.aload_n 0, 1) := by decide +kernel
theorem dd_X11_lifted_46 : decode (zc mm_X11_lifted) 46 = .ok (.iload_n 1, 1) := by decide +kernel
theorem dd_X11_lifted_47 : decode (zc mm_X11_lifted) 47 = .ok (.iload_n 2, 1) := by decide +kernel
theorem dd_X11_lifted_48 : decode (zc mm_X11_lifted) 48 = .ok (.iload 5, 2) := by decide +kernel
theorem dd_X11_lifted_50 : decode (zc mm_X11_lifted) 50 = .ok (.iload 6, 2) := by decide +kernel
theorem dd_X11_lifted_52 : decode (zc mm_X11_lifted) 52 = .ok (.invokevirtual 264, 3) := by decide +kernel
theorem dd_X11_lifted_55 : decode (zc mm_X11_lifted) 55 = .ok (.ifCond .eq 19, 3) := by decide +kernel
theorem dd_X11_lifted_58 : decode (zc mm_X11_lifted) 58 = .ok (.iconst 1, 1) := by decide +kernel
theorem dd_X11_lifted_59 : decode (zc mm_X11_lifted) 59 = .ok (.iload_n 3, 1) := by decide +kernel
theorem dd_X11_lifted_60 : decode (zc mm_X11_lifted) 60 = .ok (.ifCond .ne 8, 3) := by decide +kernel
theorem dd_X11_lifted_63 : decode (zc mm_X11_lifted) 63 = .ok (.iload 6, 2) := by decide +kernel
theorem dd_X11_lifted_65 : decode (zc mm_X11_lifted) 65 = .ok (.goto 5, 3) := by decide +kernel
theorem dd_X11_lifted_68 : decode (zc mm_X11_lifted) 68 = .ok (.iload 5, 2) := by decide +kernel
theorem dd_X11_lifted_70 : decode (zc mm_X11_lifted) 70 = .ok (.ishl, 1) := by decide +kernel
theorem dd_X11_lifted_71 : decode (zc mm_X11_lifted) 71 = .ok (.goto 4, 3) := by decide +kernel
theorem dd_X11_lifted_74 : decode (zc mm_X11_lifted) 74 = .ok (.iconst 0, 1) := by decide +kernel
theorem dd_X11_lifted_75 : decode (zc mm_X11_lifted) 75 = .ok (.ior, 1) := by decide +kernel
theorem dd_X11_lifted_76 : decode (zc mm_X11_lifted) 76 = .ok (.istore 4, 2) := by decide +kernel
theorem dd_X11_lifted_78 : decode (zc mm_X11_lifted) 78 = .ok (.iinc 6 1, 3) := by decide +kernel
theorem dd_X11_lifted_81 : decode (zc mm_X11_lifted) 81 = .ok (.goto (-47), 3) := by decide +kernel
theorem dd_X11_lifted_84 : decode (zc mm_X11_lifted) 84 = .ok (.iinc 5 1, 3) := by decide +kernel
theorem dd_X11_lifted_87 : decode (zc mm_X11_lifted) 87 = .ok (.goto (-65), 3) := by decide +kernel
theorem dd_X11_lifted_90 : decode (zc mm_X11_lifted) 90 = .ok (.iload 4, 2) := by decide +kernel
theorem dd_X11_lifted_92 : decode (zc mm_X11_lifted) 92 = .ok (.ireturn, 1) := by decide +kernel
theorem dd_X11_root_0 : decode (zc mm_X11_root) 0 = .ok (.aload_n 0, 1) := by decide +kernel
theorem dd_X11_root_1 : decode (zc mm_X11_root) 1 = .ok (.iload_n 1, 1) := by decide +kernel
theorem dd_X11_root_2 : decode (zc mm_X11_root) 2 = .ok (.iload_n 2, 1) := by decide +kernel
theorem dd_X11_root_3 : decode (zc mm_X11_root) 3 = .ok (.iconst 0, 1) := by decide +kernel
theorem dd_X11_root_4 : decode (zc mm_X11_root) 4 = .ok (.invokevirtual 170, 3) := by decide +kernel
theorem dd_X11_root_7 : decode (zc mm_X11_root) 7 = .ok (.ifCond .eq 9, 3) := by decide +kernel
theorem dd_X11_root_10 : decode (zc mm_X11_root) 10 = .ok (.aload_n 0, 1) := by decide +kernel
theorem dd_X11_root_11 : decode (zc mm_X11_root) 11 = .ok (.iconst (-1), 1) := by decide +kernel
theorem dd_X11_root_12 : decode (zc mm_X11_root) 12 = .ok (.invokevirtual 120, 3) := by decide +kernel
theorem dd_X11_root_15 : decode (zc mm_X11_root) 15 = .ok (.ireturn, 1) := by decide +kernel
theorem dd_X11_root_16 : decode (zc mm_X11_root) 16 = .ok (.iload_n 3, 1) := by decide +kernel
theorem dd_X11_root_17 : decode (zc mm_X11_root) 17 = .ok (.iconst (-1), 1) := by decide +kernel
theorem dd_X11_root_18 : decode (zc mm_X11_root) 18 = .ok (.if_icmp .ge 10, 3) := by decide +kernel
theorem dd_X11_root_21 : decode (zc mm_X11_root) 21 = .ok (.aload_n 0, 1) := by decide +kernel
theorem dd_X11_root_22 : decode (zc mm_X11_root) 22 = .ok (.bipush (-4), 2) := by decide +kernel
theorem dd_X11_root_24 : decode (zc mm_X11_root) 24 = .ok (.invokevirtual 120, 3) := by decide +kernel
theorem dd_X11_root_27 : decode (zc mm_X11_root) 27 = .ok (.ireturn, 1) := by decide +kernel
theorem dd_X11_root_28 : decode (zc mm_X11_root) 28 = .ok (.iconst 0, 1) := by decide +kernel
theorem dd_X11_root_29 : decode (zc mm_X11_root) 29 = .ok (.istore 4, 2) := by decide +kernel
theorem dd_X11_root_31 : decode (zc mm_X11_root) 31 = .ok (.iconst 0, 1) := by decide +kernel
theorem dd_X11_root_32 : decode (zc mm_X11_root) 32 = .ok (.istore 5, 2) := by decide +kernel
theorem dd_X11_root_34 : decode (zc mm_X11_root) 34 = .ok (.iload 5, 2) := by decide +kernel
theorem dd_X11_root_36 : decode (zc mm_X11_root) 36 = .ok (.aload_n 0, 1) := by decide +kernel
theorem dd_X11_root_37 : decode (zc mm_X11_root) 37 = .ok (.getfield 9, 3) := by decide +kernel
theorem dd_X11_root_40 : decode (zc mm_X11_root) 40 = .ok (.if_icmp .ge 61, 3) := by decide +kernel
theorem dd_X11_root_43 : decode (zc mm_X11_root) 43 = .ok (.iconst 0, 1) := by decide +kernel
theorem dd_X11_root_44 : decode (zc mm_X11_root) 44 = .ok (.istore 6, 2) := by decide +kernel
theorem dd_X11_root_46 : decode (zc mm_X11_root) 46 = .ok (.iload 6, 2) := by decide +kernel
theorem dd_X11_root_48 : decode (zc mm_X11_root) 48 = .ok (.aload_n 0, 1) := by decide +kernel
theorem dd_X11_root_49 : decode (zc mm_X11_root) 49 = .ok (.getfield 9, 3) := by decide +kernel
theorem dd_X11_root_52 : decode (zc mm_X11_root) 52 = .ok (.if_icmp .ge 43, 3) := by decide +kernel
theorem dd_X11_root_55 : decode (zc mm_X11_root) 55 = .ok (.aload_n 0, 1) := by decide +kernel
theorem dd_X11_root_56 : decode (zc mm_X11_root) 56 = .ok (.iload_n 1, 1) := by decide +kernel
theorem dd_X11_root_57 : decode (zc mm_X11_root) 57 = .ok (.iload_n 2, 1) := by decide +kernel
theorem dd_X11_root_58 : decode (zc mm_X11_root) 58 = .ok (.iload 5, 2) := by decide +kernel
theorem dd_X11_root_60 : decode (zc mm_X11_root) 60 = .ok (.iload 6, 2) := by decide +kernel
theorem dd_X11_root_62 : decode (zc mm_X11_root) 62 = .ok (.invokevirtual 264, 3) := by decide +kernel
theorem dd_X11_root_65 : decode (zc mm_X11_root) 65 = .ok (.ifCond .ne 6, 3) := by decide +kernel
theorem dd_X11_root_68 : decode (zc mm_X11_root) 68 = .ok (.goto 21, 3) := by decide +kernel
theorem dd_X11_root_71 : decode (zc mm_X11_root) 71 = .ok (.iload 4, 2) := by decide +kernel
theorem dd_X11_root_73 : decode (zc mm_X11_root) 73 = .ok (.iload_n 3, 1) := by decide +kernel
theorem dd_X11_root_74 : decode (zc mm_X11_root) 74 = .ok (.if_icmp .ne 12, 3) := by decide +kernel
theorem dd_X11_root_77 : decode (zc mm_X11_root) 77 = .ok (.bipush 100, 2) := by decide +kernel
theorem dd_X11_root_79 : decode (zc mm_X11_root) 79 = .ok (.iload 5, 2) := by decide +kernel
theorem dd_X11_root_81 : decode (zc mm_X11_root) 81 = .ok (.imul, 1) := by decide +kernel
theorem dd_X11_root_82 : decode (zc mm_X11_root) 82 = .ok (.iload 6, 2) := by decide +kernel
theorem dd_X11_root_84 : decode (zc mm_X11_root) 84 = .ok (.iadd, 1) := by decide +kernel
theorem dd_X11_root_85 : decode (zc mm_X11_root) 85 = .ok (.ireturn, 1) := by decide +kernel
theorem dd_X11_root_86 : decode (zc mm_X11_root) 86 = .ok (.iinc 4 1, 3) := by decide +kernel
theorem dd_X11_root_89 : decode (zc mm_X11_root) 89 = .ok (.iinc 6 1, 3) := by decide +kernel
theorem dd_X11_root_92 : decode (zc mm_X11_root) 92 = .ok (.goto (-46), 3) := by decide +kernel
theorem dd_X11_root_95 : decode (zc mm_X11_root) 95 = .ok (.iinc 5 1, 3) := by decide +kernel
theorem dd_X11_root_98 : decode (zc mm_X11_root) 98 = .ok (.goto (-64), 3) := by decide +kernel
theorem dd_X11_root_101 : decode (zc mm_X11_root) 101 = .ok (.iload_n 3, 1) := by decide +kernel
theorem dd_X11_root_102 : decode (zc mm_X11_root) 102 = .ok (.ifCond .ge 8, 3) := by decide +kernel
theorem dd_X11_root_105 : decode (zc mm_X11_root) 105 = .ok (.iload 4, 2) := by decide +kernel
theorem dd_X11_root_107 : decode (zc mm_X11_root) 107 = .ok (.goto 5, 3) := by decide +kernel
theorem dd_X11_root_110 : decode (zc mm_X11_root) 110 = .ok (.bipush (-9), 2) := by decide +kernel
theorem dd_X11_root_112 : decode (zc mm_X11_root) 112 = .ok (.ireturn, 1) := by decide +kernel
theorem dd_X11_without_0 : decode (zc mm_X11_without) 0 = .ok (.aload_n 0, 1) := by decide +kernel
theorem dd_X11_without_1 : decode (zc mm_X11_without) 1 = .ok (.iload_n 1, 1) := by decide +kernel
theorem dd_X11_without_2 : decode (zc mm_X11_without) 2 = .ok (.iload_n 2, 1) := by decide +kernel
theorem dd_X11_without_3 : decode (zc mm_X11_without) 3 = .ok (.iconst 0, 1) := by decide +kernel
theorem dd_X11_without_4 : decode (zc mm_X11_without) 4 = .ok (.invokevirtual 170, 3) := by decide +kernel
theorem dd_X11_without_7 : decode (zc mm_X11_without) 7 = .ok (.ifCond .eq 9, 3) := by decide +kernel
theorem dd_X11_without_10 : decode (zc mm_X11_without) 10 = .ok (.aload_n 0, 1) := by decide +kernel
theorem dd_X11_without_11 : decode (zc mm_X11_without) 11 = .ok (.iconst (-1), 1) := by decide +kernel
theorem dd_X11_without_12 : decode (zc mm_X11_without) 12 = .ok (.invokevirtual 120, 3) := by decide +kernel
theorem dd_X11_without_15 : decode (zc mm_X11_without) 15 = .ok (.ireturn, 1) := by decide +kernel
theorem dd_X11_without_16 : decode (zc mm_X11_without) 16 = .ok (.iconst 0, 1) := by decide +kernel
theorem dd_X11_without_17 : decode (zc mm_X11_without) 17 = .ok (.istore_n 3, 1) := by decide +kernel
theorem dd_X11_without_18 : decode (zc mm_X11_without) 18 = .ok (.iconst 1, 1) := by decide +kernel
theorem dd_X11_without_19 : decode (zc mm_X11_without) 19 = .ok (.istore 4, 2) := by decide +kernel
theorem dd_X11_without_21 : decode (zc mm_X11_without) 21 = .ok (.iload 4, 2) := by decide +kernel
theorem dd_X11_without_23 : decode (zc mm_X11_without) 23 = .ok (.aload_n 0, 1) := by decide +kernel
theorem dd_X11_without_24 : decode (zc mm_X11_without) 24 = .ok (.getfield 9, 3) := by decide +kernel
theorem dd_X11_without_27 : decode (zc mm_X11_without) 27 = .ok (.if_icmp .ge 48, 3) := by decide +kernel
theorem dd_X11_without_30 : decode (zc mm_X11_without) 30 = .ok (.iconst 1, 1) := by decide +kernel
theorem dd_X11_without_31 : decode (zc mm_X11_without) 31 = .ok (.istore 5, 2) := by decide +kernel
theorem dd_X11_without_33 : decode (zc mm_X11_without) 33 = .ok (.iload 5, 2) := by decide +kernel
theorem dd_X11_without_35 : decode (zc mm_X11_without) 35 = .ok (.aload_n 0, 1) := by decide +kernel
theorem dd_X11_without_36 : decode (zc mm_X11_without) 36 = .ok (.getfield 9, 3) := by decide +kernel
theorem dd_X11_without_39 : decode (zc mm_X11_without) 39 = .ok (.if_icmp .ge 30, 3) := by decide +kernel
theorem dd_X11_without_42 : decode (zc mm_X11_without) 42 = .ok (.iload_n 3, 1) := by decide +kernel
theorem dd_X11_without_43 : decode (zc mm_X11_without) 43 = .ok (.aload_n 0, 1) := by decide +kernel
theorem dd_X11_without_44 : decode (zc mm_X11_without) 44 = .ok (.iload_n 1, 1) := by decide +kernel
theorem dd_X11_without_45 : decode (zc mm_X11_without) 45 = .ok (.iload_n 2, 1) := by decide +kernel
theorem dd_X11_without_46 : decode (zc mm_X11_without) 46 = .ok (.iload 4, 2) := by decide +kernel
theorem dd_X11_without_48 : decode (zc mm_X11_without) 48 = .ok (.iload 5, 2) := by decide +kernel
theorem dd_X11_without_50 : decode (zc mm_X11_without) 50 = .ok (.invokevirtual 264, 3) := by decide +kernel
theorem dd_X11_without_53 : decode (zc mm_X11_without) 53 = .ok (.ifCond .eq 7, 3) := by decide +kernel
theorem dd_X11_without_56 : decode (zc mm_X11_without) 56 = .ok (.iconst 1, 1) := by decide +kernel
theorem dd_X11_without_57 : decode (zc mm_X11_without) 57 = .ok (.goto 4, 3) := by decide +kernel
theorem dd_X11_without_60 : decode (zc mm_X11_without) 60 = .ok (.iconst 0, 1) := by decide +kernel
theorem dd_X11_without_61 : decode (zc mm_X11_without) 61 = .ok (.iadd, 1) := by decide +kernel
theorem dd_X11_without_62 : decode (zc mm_X11_without) 62 = .ok (.istore_n 3, 1) := by decide +kernel
theorem dd_X11_without_63 : decode (zc mm_X11_without) 63 = .ok (.iinc 5 1, 3) := by decide +kernel
theorem dd_X11_without_66 : decode (zc mm_X11_without) 66 = .ok (.goto (-33), 3) := by decide +kernel
theorem dd_X11_without_69 : decode (zc mm_X11_without) 69 = .ok (.iinc 4 1, 3) := by decide +kernel
theorem dd_X11_without_72 : decode (zc mm_X11_without) 72 = .ok (.goto (-51), 3) := by decide +kernel
theorem dd_X11_without_75 : decode (zc mm_X11_without) 75 = .ok (.iload_n 3, 1) := by decide +kernel
theorem dd_X11_without_76 : decode (zc mm_X11_without) 76 = .ok (.ireturn, 1) := by decide +kernel
theorem dd_X11_clears_0 : decode (zc mm_X11_clears) 0 = .ok (.iconst 0, 1) := by decide +kernel
theorem dd_X11_clears_1 : decode (zc mm_X11_clears) 1 = .ok (.istore_n 1, 1) := by decide +kernel
theorem dd_X11_clears_2 : decode (zc mm_X11_clears) 2 = .ok (.iload_n 1, 1) := by decide +kernel
theorem dd_X11_clears_3 : decode (zc mm_X11_clears) 3 = .ok (.sipush 144, 3) := by decide +kernel
theorem dd_X11_clears_6 : decode (zc mm_X11_clears) 6 = .ok (.if_icmp .ge 16, 3) := by decide +kernel
theorem dd_X11_clears_9 : decode (zc mm_X11_clears) 9 = .ok (.aload_n 0, 1) := by decide +kernel
theorem dd_X11_clears_10 : decode (zc mm_X11_clears) 10 = .ok (.getfield 76, 3) := by decide +kernel
theorem dd_X11_clears_13 : decode (zc mm_X11_clears) 13 = .ok (.iload_n 1, 1) := by decide +kernel
theorem dd_X11_clears_14 : decode (zc mm_X11_clears) 14 = .ok (.iconst 0, 1) := by decide +kernel
theorem dd_X11_clears_15 : decode (zc mm_X11_clears) 15 = .ok (.bastore, 1) := by decide +kernel
theorem dd_X11_clears_16 : decode (zc mm_X11_clears) 16 = .ok (.iinc 1 1, 3) := by decide +kernel
theorem dd_X11_clears_19 : decode (zc mm_X11_clears) 19 = .ok (.goto (-17), 3) := by decide +kernel
theorem dd_X11_clears_22 : decode (zc mm_X11_clears) 22 = .ok (.return_, 1) := by decide +kernel
theorem dd_X11_turns_0 : decode (zc mm_X11_turns) 0 = .ok (.iload_n 1, 1) := by decide +kernel
theorem dd_X11_turns_1 : decode (zc mm_X11_turns) 1 = .ok (.bipush 16, 2) := by decide +kernel
theorem dd_X11_turns_3 : decode (zc mm_X11_turns) 3 = .ok (.idiv, 1) := by decide +kernel
theorem dd_X11_turns_4 : decode (zc mm_X11_turns) 4 = .ok (.iload_n 0, 1) := by decide +kernel
theorem dd_X11_turns_5 : decode (zc mm_X11_turns) 5 = .ok (.bipush 16, 2) := by decide +kernel
theorem dd_X11_turns_7 : decode (zc mm_X11_turns) 7 = .ok (.idiv, 1) := by decide +kernel
theorem dd_X11_turns_8 : decode (zc mm_X11_turns) 8 = .ok (.isub, 1) := by decide +kernel
theorem dd_X11_turns_9 : decode (zc mm_X11_turns) 9 = .ok (.iload_n 2, 1) := by decide +kernel
theorem dd_X11_turns_10 : decode (zc mm_X11_turns) 10 = .ok (.bipush 16, 2) := by decide +kernel
theorem dd_X11_turns_12 : decode (zc mm_X11_turns) 12 = .ok (.irem, 1) := by decide +kernel
theorem dd_X11_turns_13 : decode (zc mm_X11_turns) 13 = .ok (.iload_n 0, 1) := by decide +kernel
theorem dd_X11_turns_14 : decode (zc mm_X11_turns) 14 = .ok (.bipush 16, 2) := by decide +kernel
theorem dd_X11_turns_16 : decode (zc mm_X11_turns) 16 = .ok (.irem, 1) := by decide +kernel
theorem dd_X11_turns_17 : decode (zc mm_X11_turns) 17 = .ok (.isub, 1) := by decide +kernel
theorem dd_X11_turns_18 : decode (zc mm_X11_turns) 18 = .ok (.imul, 1) := by decide +kernel
theorem dd_X11_turns_19 : decode (zc mm_X11_turns) 19 = .ok (.iload_n 1, 1) := by decide +kernel
theorem dd_X11_turns_20 : decode (zc mm_X11_turns) 20 = .ok (.bipush 16, 2) := by decide +kernel
theorem dd_X11_turns_22 : decode (zc mm_X11_turns) 22 = .ok (.irem, 1) := by decide +kernel
theorem dd_X11_turns_23 : decode (zc mm_X11_turns) 23 = .ok (.iload_n 0, 1) := by decide +kernel
theorem dd_X11_turns_24 : decode (zc mm_X11_turns) 24 = .ok (.bipush 16, 2) := by decide +kernel
theorem dd_X11_turns_26 : decode (zc mm_X11_turns) 26 = .ok (.irem, 1) := by decide +kernel
theorem dd_X11_turns_27 : decode (zc mm_X11_turns) 27 = .ok (.isub, 1) := by decide +kernel
theorem dd_X11_turns_28 : decode (zc mm_X11_turns) 28 = .ok (.iload_n 2, 1) := by decide +kernel
theorem dd_X11_turns_29 : decode (zc mm_X11_turns) 29 = .ok (.bipush 16, 2) := by decide +kernel
theorem dd_X11_turns_31 : decode (zc mm_X11_turns) 31 = .ok (.idiv, 1) := by decide +kernel
theorem dd_X11_turns_32 : decode (zc mm_X11_turns) 32 = .ok (.iload_n 0, 1) := by decide +kernel
theorem dd_X11_turns_33 : decode (zc mm_X11_turns) 33 = .ok (.bipush 16, 2) := by decide +kernel
theorem dd_X11_turns_35 : decode (zc mm_X11_turns) 35 = .ok (.idiv, 1) := by decide +kernel
theorem dd_X11_turns_36 : decode (zc mm_X11_turns) 36 = .ok (.isub, 1) := by decide +kernel
theorem dd_X11_turns_37 : decode (zc mm_X11_turns) 37 = .ok (.imul, 1) := by decide +kernel
theorem dd_X11_turns_38 : decode (zc mm_X11_turns) 38 = .ok (.isub, 1) := by decide +kernel
theorem dd_X11_turns_39 : decode (zc mm_X11_turns) 39 = .ok (.ireturn, 1) := by decide +kernel
theorem dd_X11_far_0 : decode (zc mm_X11_far) 0 = .ok (.iload_n 1, 1) := by decide +kernel
theorem dd_X11_far_1 : decode (zc mm_X11_far) 1 = .ok (.bipush 16, 2) := by decide +kernel
theorem dd_X11_far_3 : decode (zc mm_X11_far) 3 = .ok (.idiv, 1) := by decide +kernel
theorem dd_X11_far_4 : decode (zc mm_X11_far) 4 = .ok (.iload_n 0, 1) := by decide +kernel
theorem dd_X11_far_5 : decode (zc mm_X11_far) 5 = .ok (.bipush 16, 2) := by decide +kernel
theorem dd_X11_far_7 : decode (zc mm_X11_far) 7 = .ok (.idiv, 1) := by decide +kernel
theorem dd_X11_far_8 : decode (zc mm_X11_far) 8 = .ok (.isub, 1) := by decide +kernel
theorem dd_X11_far_9 : decode (zc mm_X11_far) 9 = .ok (.istore_n 2, 1) := by decide +kernel
theorem dd_X11_far_10 : decode (zc mm_X11_far) 10 = .ok (.iload_n 1, 1) := by decide +kernel
theorem dd_X11_far_11 : decode (zc mm_X11_far) 11 = .ok (.bipush 16, 2) := by decide +kernel
theorem dd_X11_far_13 : decode (zc mm_X11_far) 13 = .ok (.irem, 1) := by decide +kernel
theorem dd_X11_far_14 : decode (zc mm_X11_far) 14 = .ok (.iload_n 0, 1) := by decide +kernel
theorem dd_X11_far_15 : decode (zc mm_X11_far) 15 = .ok (.bipush 16, 2) := by decide +kernel
theorem dd_X11_far_17 : decode (zc mm_X11_far) 17 = .ok (.irem, 1) := by decide +kernel
theorem dd_X11_far_18 : decode (zc mm_X11_far) 18 = .ok (.isub, 1) := by decide +kernel
theorem dd_X11_far_19 : decode (zc mm_X11_far) 19 = .ok (.istore_n 3, 1) := by decide +kernel
theorem dd_X11_far_20 : decode (zc mm_X11_far) 20 = .ok (.iload_n 2, 1) := by decide +kernel
theorem dd_X11_far_21 : decode (zc mm_X11_far) 21 = .ok (.iload_n 2, 1) := by decide +kernel
theorem dd_X11_far_22 : decode (zc mm_X11_far) 22 = .ok (.imul, 1) := by decide +kernel
theorem dd_X11_far_23 : decode (zc mm_X11_far) 23 = .ok (.iload_n 3, 1) := by decide +kernel
theorem dd_X11_far_24 : decode (zc mm_X11_far) 24 = .ok (.iload_n 3, 1) := by decide +kernel
theorem dd_X11_far_25 : decode (zc mm_X11_far) 25 = .ok (.imul, 1) := by decide +kernel
theorem dd_X11_far_26 : decode (zc mm_X11_far) 26 = .ok (.iadd, 1) := by decide +kernel
theorem dd_X11_far_27 : decode (zc mm_X11_far) 27 = .ok (.ireturn, 1) := by decide +kernel
theorem dd_X11_behind_0 : decode (zc mm_X11_behind) 0 = .ok (.iload_n 1, 1) := by decide +kernel
theorem dd_X11_behind_1 : decode (zc mm_X11_behind) 1 = .ok (.istore_n 2, 1) := by decide +kernel
theorem dd_X11_behind_2 : decode (zc mm_X11_behind) 2 = .ok (.iconst 0, 1) := by decide +kernel
theorem dd_X11_behind_3 : decode (zc mm_X11_behind) 3 = .ok (.istore_n 3, 1) := by decide +kernel
theorem dd_X11_behind_4 : decode (zc mm_X11_behind) 4 = .ok (.iload_n 3, 1) := by decide +kernel
theorem dd_X11_behind_5 : decode (zc mm_X11_behind) 5 = .ok (.sipush 144, 3) := by decide +kernel
theorem dd_X11_behind_8 : decode (zc mm_X11_behind) 8 = .ok (.if_icmp .ge 68, 3) := by decide +kernel
theorem dd_X11_behind_11 : decode (zc mm_X11_behind) 11 = .ok (.aload_n 0, 1) := by decide +kernel
theorem dd_X11_behind_12 : decode (zc mm_X11_behind) 12 = .ok (.getfield 76, 3) := by decide +kernel
theorem dd_X11_behind_15 : decode (zc mm_X11_behind) 15 = .ok (.iload_n 3, 1) := by decide +kernel
theorem dd_X11_behind_16 : decode (zc mm_X11_behind) 16 = .ok (.baload, 1) := by decide +kernel
theorem dd_X11_behind_17 : decode (zc mm_X11_behind) 17 = .ok (.ifCond .eq 53, 3) := by decide +kernel
theorem dd_X11_behind_20 : decode (zc mm_X11_behind) 20 = .ok (.iload_n 3, 1) := by decide +kernel
theorem dd_X11_behind_21 : decode (zc mm_X11_behind) 21 = .ok (.iload_n 1, 1) := by decide +kernel
theorem dd_X11_behind_22 : decode (zc mm_X11_behind) 22 = .ok (.if_icmp .ne 6, 3) := by decide +kernel
theorem dd_X11_behind_25 : decode (zc mm_X11_behind) 25 = .ok (.goto 45, 3) := by decide +kernel
theorem dd_X11_behind_28 : decode (zc mm_X11_behind) 28 = .ok (.iload_n 2, 1) := by decide +kernel
theorem dd_X11_behind_29 : decode (zc mm_X11_behind) 29 = .ok (.iload_n 1, 1) := by decide +kernel
theorem dd_X11_behind_30 : decode (zc mm_X11_behind) 30 = .ok (.if_icmp .ne 7, 3) := by decide +kernel
theorem dd_X11_behind_33 : decode (zc mm_X11_behind) 33 = .ok (.iconst (-1), 1) := by decide +kernel
theorem dd_X11_behind_34 : decode (zc mm_X11_behind) 34 = .ok (.goto 9, 3) := by decide +kernel
theorem dd_X11_behind_37 : decode (zc mm_X11_behind) 37 = .ok (.iload_n 1, 1) := by decide +kernel
theorem dd_X11_behind_38 : decode (zc mm_X11_behind) 38 = .ok (.iload_n 2, 1) := by decide +kernel
theorem dd_X11_behind_39 : decode (zc mm_X11_behind) 39 = .ok (.iload_n 3, 1) := by decide +kernel
theorem dd_X11_behind_40 : decode (zc mm_X11_behind) 40 = .ok (.invokestatic 268, 3) := by decide +kernel
theorem dd_X11_behind_43 : decode (zc mm_X11_behind) 43 = .ok (.istore 4, 2) := by decide +kernel
theorem dd_X11_behind_45 : decode (zc mm_X11_behind) 45 = .ok (.iload 4, 2) := by decide +kernel
theorem dd_X11_behind_47 : decode (zc mm_X11_behind) 47 = .ok (.ifCond .lt 21, 3) := by decide +kernel
theorem dd_X11_behind_50 : decode (zc mm_X11_behind) 50 = .ok (.iload 4, 2) := by decide +kernel
theorem dd_X11_behind_52 : decode (zc mm_X11_behind) 52 = .ok (.ifCond .ne 18, 3) := by decide +kernel
theorem dd_X11_behind_55 : decode (zc mm_X11_behind) 55 = .ok (.iload_n 1, 1) := by decide +kernel
theorem dd_X11_behind_56 : decode (zc mm_X11_behind) 56 = .ok (.iload_n 3, 1) := by decide +kernel
theorem dd_X11_behind_57 : decode (zc mm_X11_behind) 57 = .ok (.invokestatic 271, 3) := by decide +kernel
theorem dd_X11_behind_60 : decode (zc mm_X11_behind) 60 = .ok (.iload_n 1, 1) := by decide +kernel
theorem dd_X11_behind_61 : decode (zc mm_X11_behind) 61 = .ok (.iload_n 2, 1) := by decide +kernel
theorem dd_X11_behind_62 : decode (zc mm_X11_behind) 62 = .ok (.invokestatic 271, 3) := by decide +kernel
theorem dd_X11_behind_65 : decode (zc mm_X11_behind) 65 = .ok (.if_icmp .le 5, 3) := by decide +kernel
theorem dd_X11_behind_68 : decode (zc mm_X11_behind) 68 = .ok (.iload_n 3, 1) := by decide +kernel
theorem dd_X11_behind_69 : decode (zc mm_X11_behind) 69 = .ok (.istore_n 2, 1) := by decide +kernel
theorem dd_X11_behind_70 : decode (zc mm_X11_behind) 70 = .ok (.iinc 3 1, 3) := by decide +kernel
theorem dd_X11_behind_73 : decode (zc mm_X11_behind) 73 = .ok (.goto (-69), 3) := by decide +kernel
theorem dd_X11_behind_76 : decode (zc mm_X11_behind) 76 = .ok (.iload_n 2, 1) := by decide +kernel
theorem dd_X11_behind_77 : decode (zc mm_X11_behind) 77 = .ok (.ireturn, 1) := by decide +kernel
theorem dd_X11_wraps_0 : decode (zc mm_X11_wraps) 0 = .ok (.iconst 0, 1) := by decide +kernel
theorem dd_X11_wraps_1 : decode (zc mm_X11_wraps) 1 = .ok (.istore_n 1, 1) := by decide +kernel
theorem dd_X11_wraps_2 : decode (zc mm_X11_wraps) 2 = .ok (.aload_n 0, 1) := by decide +kernel
theorem dd_X11_wraps_3 : decode (zc mm_X11_wraps) 3 = .ok (.getfield 76, 3) := by decide +kernel
theorem dd_X11_wraps_6 : decode (zc mm_X11_wraps) 6 = .ok (.iload_n 1, 1) := by decide +kernel
theorem dd_X11_wraps_7 : decode (zc mm_X11_wraps) 7 = .ok (.baload, 1) := by decide +kernel
theorem dd_X11_wraps_8 : decode (zc mm_X11_wraps) 8 = .ok (.ifCond .ne 9, 3) := by decide +kernel
theorem dd_X11_wraps_11 : decode (zc mm_X11_wraps) 11 = .ok (.iinc 1 1, 3) := by decide +kernel
theorem dd_X11_wraps_14 : decode (zc mm_X11_wraps) 14 = .ok (.goto (-12), 3) := by decide +kernel
theorem dd_X11_wraps_17 : decode (zc mm_X11_wraps) 17 = .ok (.aload_n 0, 1) := by decide +kernel
theorem dd_X11_wraps_18 : decode (zc mm_X11_wraps) 18 = .ok (.iconst 0, 1) := by decide +kernel
theorem dd_X11_wraps_19 : decode (zc mm_X11_wraps) 19 = .ok (.putfield 274, 3) := by decide +kernel
theorem dd_X11_wraps_22 : decode (zc mm_X11_wraps) 22 = .ok (.iload_n 1, 1) := by decide +kernel
theorem dd_X11_wraps_23 : decode (zc mm_X11_wraps) 23 = .ok (.istore_n 2, 1) := by decide +kernel
theorem dd_X11_wraps_24 : decode (zc mm_X11_wraps) 24 = .ok (.aload_n 0, 1) := by decide +kernel
theorem dd_X11_wraps_25 : decode (zc mm_X11_wraps) 25 = .ok (.getfield 80, 3) := by decide +kernel
theorem dd_X11_wraps_28 : decode (zc mm_X11_wraps) 28 = .ok (.aload_n 0, 1) := by decide +kernel
theorem dd_X11_wraps_29 : decode (zc mm_X11_wraps) 29 = .ok (.getfield 274, 3) := by decide +kernel
theorem dd_X11_wraps_32 : decode (zc mm_X11_wraps) 32 = .ok (.iload_n 2, 1) := by decide +kernel
theorem dd_X11_wraps_33 : decode (zc mm_X11_wraps) 33 = .ok (.iastore, 1) := by decide +kernel
theorem dd_X11_wraps_34 : decode (zc mm_X11_wraps) 34 = .ok (.aload_n 0, 1) := by decide +kernel
theorem dd_X11_wraps_35 : decode (zc mm_X11_wraps) 35 = .ok (.dup, 1) := by decide +kernel
theorem dd_X11_wraps_36 : decode (zc mm_X11_wraps) 36 = .ok (.getfield 274, 3) := by decide +kernel
theorem dd_X11_wraps_39 : decode (zc mm_X11_wraps) 39 = .ok (.iconst 1, 1) := by decide +kernel
theorem dd_X11_wraps_40 : decode (zc mm_X11_wraps) 40 = .ok (.iadd, 1) := by decide +kernel
theorem dd_X11_wraps_41 : decode (zc mm_X11_wraps) 41 = .ok (.putfield 274, 3) := by decide +kernel
theorem dd_X11_wraps_44 : decode (zc mm_X11_wraps) 44 = .ok (.aload_n 0, 1) := by decide +kernel
theorem dd_X11_wraps_45 : decode (zc mm_X11_wraps) 45 = .ok (.iload_n 2, 1) := by decide +kernel
theorem dd_X11_wraps_46 : decode (zc mm_X11_wraps) 46 = .ok (.invokevirtual 277, 3) := by decide +kernel
theorem dd_X11_wraps_49 : decode (zc mm_X11_wraps) 49 = .ok (.istore_n 2, 1) := by decide +kernel
theorem dd_X11_wraps_50 : decode (zc mm_X11_wraps) 50 = .ok (.iload_n 2, 1) := by decide +kernel
theorem dd_X11_wraps_51 : decode (zc mm_X11_wraps) 51 = .ok (.iload_n 1, 1) := by decide +kernel
theorem dd_X11_wraps_52 : decode (zc mm_X11_wraps) 52 = .ok (.if_icmp .ne (-28), 3) := by decide +kernel
theorem dd_X11_wraps_55 : decode (zc mm_X11_wraps) 55 = .ok (.return_, 1) := by decide +kernel
theorem dd_X11_wrapsOne_0 : decode (zc mm_X11_wrapsOne) 0 = .ok (.aload_n 0, 1) := by decide +kernel
theorem dd_X11_wrapsOne_1 : decode (zc mm_X11_wrapsOne) 1 = .ok (.invokevirtual 280, 3) := by decide +kernel
theorem dd_X11_wrapsOne_4 : decode (zc mm_X11_wrapsOne) 4 = .ok (.iconst 0, 1) := by decide +kernel
theorem dd_X11_wrapsOne_5 : decode (zc mm_X11_wrapsOne) 5 = .ok (.istore_n 2, 1) := by decide +kernel
theorem dd_X11_wrapsOne_6 : decode (zc mm_X11_wrapsOne) 6 = .ok (.iload_n 2, 1) := by decide +kernel
theorem dd_X11_wrapsOne_7 : decode (zc mm_X11_wrapsOne) 7 = .ok (.bipush 25, 2) := by decide +kernel
theorem dd_X11_wrapsOne_9 : decode (zc mm_X11_wrapsOne) 9 = .ok (.if_icmp .ge 35, 3) := by decide +kernel
theorem dd_X11_wrapsOne_12 : decode (zc mm_X11_wrapsOne) 12 = .ok (.aload_n 0, 1) := by decide +kernel
theorem dd_X11_wrapsOne_13 : decode (zc mm_X11_wrapsOne) 13 = .ok (.getfield 76, 3) := by decide +kernel
theorem dd_X11_wrapsOne_16 : decode (zc mm_X11_wrapsOne) 16 = .ok (.bipush 16, 2) := by decide +kernel
theorem dd_X11_wrapsOne_18 : decode (zc mm_X11_wrapsOne) 18 = .ok (.iload_n 2, 1) := by decide +kernel
theorem dd_X11_wrapsOne_19 : decode (zc mm_X11_wrapsOne) 19 = .ok (.iconst 5, 1) := by decide +kernel
theorem dd_X11_wrapsOne_20 : decode (zc mm_X11_wrapsOne) 20 = .ok (.idiv, 1) := by decide +kernel
theorem dd_X11_wrapsOne_21 : decode (zc mm_X11_wrapsOne) 21 = .ok (.imul, 1) := by decide +kernel
theorem dd_X11_wrapsOne_22 : decode (zc mm_X11_wrapsOne) 22 = .ok (.iload_n 2, 1) := by decide +kernel
theorem dd_X11_wrapsOne_23 : decode (zc mm_X11_wrapsOne) 23 = .ok (.iconst 5, 1) := by decide +kernel
theorem dd_X11_wrapsOne_24 : decode (zc mm_X11_wrapsOne) 24 = .ok (.irem, 1) := by decide +kernel
theorem dd_X11_wrapsOne_25 : decode (zc mm_X11_wrapsOne) 25 = .ok (.iadd, 1) := by decide +kernel
theorem dd_X11_wrapsOne_26 : decode (zc mm_X11_wrapsOne) 26 = .ok (.aload_n 0, 1) := by decide +kernel
theorem dd_X11_wrapsOne_27 : decode (zc mm_X11_wrapsOne) 27 = .ok (.iload_n 1, 1) := by decide +kernel
theorem dd_X11_wrapsOne_28 : decode (zc mm_X11_wrapsOne) 28 = .ok (.iload_n 2, 1) := by decide +kernel
theorem dd_X11_wrapsOne_29 : decode (zc mm_X11_wrapsOne) 29 = .ok (.iconst 5, 1) := by decide +kernel
theorem dd_X11_wrapsOne_30 : decode (zc mm_X11_wrapsOne) 30 = .ok (.idiv, 1) := by decide +kernel
theorem dd_X11_wrapsOne_31 : decode (zc mm_X11_wrapsOne) 31 = .ok (.iload_n 2, 1) := by decide +kernel
theorem dd_X11_wrapsOne_32 : decode (zc mm_X11_wrapsOne) 32 = .ok (.iconst 5, 1) := by decide +kernel
theorem dd_X11_wrapsOne_33 : decode (zc mm_X11_wrapsOne) 33 = .ok (.irem, 1) := by decide +kernel
theorem dd_X11_wrapsOne_34 : decode (zc mm_X11_wrapsOne) 34 = .ok (.invokevirtual 111, 3) := by decide +kernel
theorem dd_X11_wrapsOne_37 : decode (zc mm_X11_wrapsOne) 37 = .ok (.bastore, 1) := by decide +kernel
theorem dd_X11_wrapsOne_38 : decode (zc mm_X11_wrapsOne) 38 = .ok (.iinc 2 1, 3) := by decide +kernel
theorem dd_X11_wrapsOne_41 : decode (zc mm_X11_wrapsOne) 41 = .ok (.goto (-35), 3) := by decide +kernel
theorem dd_X11_wrapsOne_44 : decode (zc mm_X11_wrapsOne) 44 = .ok (.aload_n 0, 1) := by decide +kernel
theorem dd_X11_wrapsOne_45 : decode (zc mm_X11_wrapsOne) 45 = .ok (.invokevirtual 283, 3) := by decide +kernel
theorem dd_X11_wrapsOne_48 : decode (zc mm_X11_wrapsOne) 48 = .ok (.return_, 1) := by decide +kernel
theorem dd_X11_wrapsSum_0 : decode (zc mm_X11_wrapsSum) 0 = .ok (.aload_n 0, 1) := by decide +kernel
theorem dd_X11_wrapsSum_1 : decode (zc mm_X11_wrapsSum) 1 = .ok (.invokevirtual 280, 3) := by decide +kernel
theorem dd_X11_wrapsSum_4 : decode (zc mm_X11_wrapsSum) 4 = .ok (.iconst 0, 1) := by decide +kernel
theorem dd_X11_wrapsSum_5 : decode (zc mm_X11_wrapsSum) 5 = .ok (.istore_n 3, 1) := by decide +kernel
theorem dd_X11_wrapsSum_6 : decode (zc mm_X11_wrapsSum) 6 = .ok (.iload_n 3, 1) := by decide +kernel
theorem dd_X11_wrapsSum_7 : decode (zc mm_X11_wrapsSum) 7 = .ok (.bipush 25, 2) := by decide +kernel
theorem dd_X11_wrapsSum_9 : decode (zc mm_X11_wrapsSum) 9 = .ok (.if_icmp .ge 84, 3) := by decide +kernel
theorem dd_X11_wrapsSum_12 : decode (zc mm_X11_wrapsSum) 12 = .ok (.aload_n 0, 1) := by decide +kernel
theorem dd_X11_wrapsSum_13 : decode (zc mm_X11_wrapsSum) 13 = .ok (.iload_n 1, 1) := by decide +kernel
theorem dd_X11_wrapsSum_14 : decode (zc mm_X11_wrapsSum) 14 = .ok (.iload_n 3, 1) := by decide +kernel
theorem dd_X11_wrapsSum_15 : decode (zc mm_X11_wrapsSum) 15 = .ok (.iconst 5, 1) := by decide +kernel
theorem dd_X11_wrapsSum_16 : decode (zc mm_X11_wrapsSum) 16 = .ok (.idiv, 1) := by decide +kernel
theorem dd_X11_wrapsSum_17 : decode (zc mm_X11_wrapsSum) 17 = .ok (.iload_n 3, 1) := by decide +kernel
theorem dd_X11_wrapsSum_18 : decode (zc mm_X11_wrapsSum) 18 = .ok (.iconst 5, 1) := by decide +kernel
theorem dd_X11_wrapsSum_19 : decode (zc mm_X11_wrapsSum) 19 = .ok (.irem, 1) := by decide +kernel
theorem dd_X11_wrapsSum_20 : decode (zc mm_X11_wrapsSum) 20 = .ok (.invokevirtual 111, 3) := by decide +kernel
theorem dd_X11_wrapsSum_23 : decode (zc mm_X11_wrapsSum) 23 = .ok (.ifCond .ne 6, 3) := by decide +kernel
theorem dd_X11_wrapsSum_26 : decode (zc mm_X11_wrapsSum) 26 = .ok (.goto 61, 3) := by decide +kernel
theorem dd_X11_wrapsSum_29 : decode (zc mm_X11_wrapsSum) 29 = .ok (.iconst 0, 1) := by decide +kernel
theorem dd_X11_wrapsSum_30 : decode (zc mm_X11_wrapsSum) 30 = .ok (.istore 4, 2) := by decide +kernel
theorem dd_X11_wrapsSum_32 : decode (zc mm_X11_wrapsSum) 32 = .ok (.iload 4, 2) := by decide +kernel
theorem dd_X11_wrapsSum_34 : decode (zc mm_X11_wrapsSum) 34 = .ok (.bipush 25, 2) := by decide +kernel
theorem dd_X11_wrapsSum_36 : decode (zc mm_X11_wrapsSum) 36 = .ok (.if_icmp .ge 51, 3) := by decide +kernel
theorem dd_X11_wrapsSum_39 : decode (zc mm_X11_wrapsSum) 39 = .ok (.aload_n 0, 1) := by decide +kernel
theorem dd_X11_wrapsSum_40 : decode (zc mm_X11_wrapsSum) 40 = .ok (.iload_n 2, 1) := by decide +kernel
theorem dd_X11_wrapsSum_41 : decode (zc mm_X11_wrapsSum) 41 = .ok (.iload 4, 2) := by decide +kernel
theorem dd_X11_wrapsSum_43 : decode (zc mm_X11_wrapsSum) 43 = .ok (.iconst 5, 1) := by decide +kernel
theorem dd_X11_wrapsSum_44 : decode (zc mm_X11_wrapsSum) 44 = .ok (.idiv, 1) := by decide +kernel
theorem dd_X11_wrapsSum_45 : decode (zc mm_X11_wrapsSum) 45 = .ok (.iload 4, 2) := by decide +kernel
theorem dd_X11_wrapsSum_47 : decode (zc mm_X11_wrapsSum) 47 = .ok (.iconst 5, 1) := by decide +kernel
theorem dd_X11_wrapsSum_48 : decode (zc mm_X11_wrapsSum) 48 = .ok (.irem, 1) := by decide +kernel
theorem dd_X11_wrapsSum_49 : decode (zc mm_X11_wrapsSum) 49 = .ok (.invokevirtual 111, 3) := by decide +kernel
theorem dd_X11_wrapsSum_52 : decode (zc mm_X11_wrapsSum) 52 = .ok (.ifCond .eq 29, 3) := by decide +kernel
theorem dd_X11_wrapsSum_55 : decode (zc mm_X11_wrapsSum) 55 = .ok (.aload_n 0, 1) := by decide +kernel
theorem dd_X11_wrapsSum_56 : decode (zc mm_X11_wrapsSum) 56 = .ok (.getfield 76, 3) := by decide +kernel
theorem dd_X11_wrapsSum_59 : decode (zc mm_X11_wrapsSum) 59 = .ok (.bipush 16, 2) := by decide +kernel
theorem dd_X11_wrapsSum_61 : decode (zc mm_X11_wrapsSum) 61 = .ok (.iload_n 3, 1) := by decide +kernel
theorem dd_X11_wrapsSum_62 : decode (zc mm_X11_wrapsSum) 62 = .ok (.iconst 5, 1) := by decide +kernel
theorem dd_X11_wrapsSum_63 : decode (zc mm_X11_wrapsSum) 63 = .ok (.idiv, 1) := by decide +kernel
theorem dd_X11_wrapsSum_64 : decode (zc mm_X11_wrapsSum) 64 = .ok (.iload 4, 2) := by decide +kernel
theorem dd_X11_wrapsSum_66 : decode (zc mm_X11_wrapsSum) 66 = .ok (.iconst 5, 1) := by decide +kernel
theorem dd_X11_wrapsSum_67 : decode (zc mm_X11_wrapsSum) 67 = .ok (.idiv, 1) := by decide +kernel
theorem dd_X11_wrapsSum_68 : decode (zc mm_X11_wrapsSum) 68 = .ok (.iadd, 1) := by decide +kernel
theorem dd_X11_wrapsSum_69 : decode (zc mm_X11_wrapsSum) 69 = .ok (.imul, 1) := by decide +kernel
theorem dd_X11_wrapsSum_70 : decode (zc mm_X11_wrapsSum) 70 = .ok (.iload_n 3, 1) := by decide +kernel
theorem dd_X11_wrapsSum_71 : decode (zc mm_X11_wrapsSum) 71 = .ok (.iconst 5, 1) := by decide +kernel
theorem dd_X11_wrapsSum_72 : decode (zc mm_X11_wrapsSum) 72 = .ok (.irem, 1) := by decide +kernel
theorem dd_X11_wrapsSum_73 : decode (zc mm_X11_wrapsSum) 73 = .ok (.iadd, 1) := by decide +kernel
theorem dd_X11_wrapsSum_74 : decode (zc mm_X11_wrapsSum) 74 = .ok (.iload 4, 2) := by decide +kernel
theorem dd_X11_wrapsSum_76 : decode (zc mm_X11_wrapsSum) 76 = .ok (.iconst 5, 1) := by decide +kernel
theorem dd_X11_wrapsSum_77 : decode (zc mm_X11_wrapsSum) 77 = .ok (.irem, 1) := by decide +kernel
theorem dd_X11_wrapsSum_78 : decode (zc mm_X11_wrapsSum) 78 = .ok (.iadd, 1) := by decide +kernel
theorem dd_X11_wrapsSum_79 : decode (zc mm_X11_wrapsSum) 79 = .ok (.iconst 1, 1) := by decide +kernel
theorem dd_X11_wrapsSum_80 : decode (zc mm_X11_wrapsSum) 80 = .ok (.bastore, 1) := by decide +kernel
theorem dd_X11_wrapsSum_81 : decode (zc mm_X11_wrapsSum) 81 = .ok (.iinc 4 1, 3) := by decide +kernel
theorem dd_X11_wrapsSum_84 : decode (zc mm_X11_wrapsSum) 84 = .ok (.goto (-52), 3) := by decide +kernel
theorem dd_X11_wrapsSum_87 : decode (zc mm_X11_wrapsSum) 87 = .ok (.iinc 3 1, 3) := by decide +kernel
theorem dd_X11_wrapsSum_90 : decode (zc mm_X11_wrapsSum) 90 = .ok (.goto (-84), 3) := by decide +kernel
theorem dd_X11_wrapsSum_93 : decode (zc mm_X11_wrapsSum) 93 = .ok (.aload_n 0, 1) := by decide +kernel
theorem dd_X11_wrapsSum_94 : decode (zc mm_X11_wrapsSum) 94 = .ok (.invokevirtual 283, 3) := by decide +kernel
theorem dd_X11_wrapsSum_97 : decode (zc mm_X11_wrapsSum) 97 = .ok (.return_, 1) := by decide +kernel
theorem dd_X11_areaNow_0 : decode (zc mm_X11_areaNow) 0 = .ok (.iconst 0, 1) := by decide +kernel
theorem dd_X11_areaNow_1 : decode (zc mm_X11_areaNow) 1 = .ok (.istore_n 1, 1) := by decide +kernel
theorem dd_X11_areaNow_2 : decode (zc mm_X11_areaNow) 2 = .ok (.iconst 1, 1) := by decide +kernel
theorem dd_X11_areaNow_3 : decode (zc mm_X11_areaNow) 3 = .ok (.istore_n 2, 1) := by decide +kernel
theorem dd_X11_areaNow_4 : decode (zc mm_X11_areaNow) 4 = .ok (.iload_n 2, 1) := by decide +kernel
theorem dd_X11_areaNow_5 : decode (zc mm_X11_areaNow) 5 = .ok (.iconst 1, 1) := by decide +kernel
theorem dd_X11_areaNow_6 : decode (zc mm_X11_areaNow) 6 = .ok (.iadd, 1) := by decide +kernel
theorem dd_X11_areaNow_7 : decode (zc mm_X11_areaNow) 7 = .ok (.aload_n 0, 1) := by decide +kernel
theorem dd_X11_areaNow_8 : decode (zc mm_X11_areaNow) 8 = .ok (.getfield 274, 3) := by decide +kernel
theorem dd_X11_areaNow_11 : decode (zc mm_X11_areaNow) 11 = .ok (.if_icmp .ge 35, 3) := by decide +kernel
theorem dd_X11_areaNow_14 : decode (zc mm_X11_areaNow) 14 = .ok (.iload_n 1, 1) := by decide +kernel
theorem dd_X11_areaNow_15 : decode (zc mm_X11_areaNow) 15 = .ok (.aload_n 0, 1) := by decide +kernel
theorem dd_X11_areaNow_16 : decode (zc mm_X11_areaNow) 16 = .ok (.getfield 80, 3) := by decide +kernel
theorem dd_X11_areaNow_19 : decode (zc mm_X11_areaNow) 19 = .ok (.iconst 0, 1) := by decide +kernel
theorem dd_X11_areaNow_20 : decode (zc mm_X11_areaNow) 20 = .ok (.iaload, 1) := by decide +kernel
theorem dd_X11_areaNow_21 : decode (zc mm_X11_areaNow) 21 = .ok (.aload_n 0, 1) := by decide +kernel
theorem dd_X11_areaNow_22 : decode (zc mm_X11_areaNow) 22 = .ok (.getfield 80, 3) := by decide +kernel
theorem dd_X11_areaNow_25 : decode (zc mm_X11_areaNow) 25 = .ok (.iload_n 2, 1) := by decide +kernel
theorem dd_X11_areaNow_26 : decode (zc mm_X11_areaNow) 26 = .ok (.iaload, 1) := by decide +kernel
theorem dd_X11_areaNow_27 : decode (zc mm_X11_areaNow) 27 = .ok (.aload_n 0, 1) := by decide +kernel
theorem dd_X11_areaNow_28 : decode (zc mm_X11_areaNow) 28 = .ok (.getfield 80, 3) := by decide +kernel
theorem dd_X11_areaNow_31 : decode (zc mm_X11_areaNow) 31 = .ok (.iload_n 2, 1) := by decide +kernel
theorem dd_X11_areaNow_32 : decode (zc mm_X11_areaNow) 32 = .ok (.iconst 1, 1) := by decide +kernel
theorem dd_X11_areaNow_33 : decode (zc mm_X11_areaNow) 33 = .ok (.iadd, 1) := by decide +kernel
theorem dd_X11_areaNow_34 : decode (zc mm_X11_areaNow) 34 = .ok (.iaload, 1) := by decide +kernel
theorem dd_X11_areaNow_35 : decode (zc mm_X11_areaNow) 35 = .ok (.invokestatic 268, 3) := by decide +kernel
theorem dd_X11_areaNow_38 : decode (zc mm_X11_areaNow) 38 = .ok (.iadd, 1) := by decide +kernel
theorem dd_X11_areaNow_39 : decode (zc mm_X11_areaNow) 39 = .ok (.istore_n 1, 1) := by decide +kernel
theorem dd_X11_areaNow_40 : decode (zc mm_X11_areaNow) 40 = .ok (.iinc 2 1, 3) := by decide +kernel
theorem dd_X11_areaNow_43 : decode (zc mm_X11_areaNow) 43 = .ok (.goto (-39), 3) := by decide +kernel
theorem dd_X11_areaNow_46 : decode (zc mm_X11_areaNow) 46 = .ok (.iload_n 1, 1) := by decide +kernel
theorem dd_X11_areaNow_47 : decode (zc mm_X11_areaNow) 47 = .ok (.ireturn, 1) := by decide +kernel
theorem dd_X11_cornerAt_0 : decode (zc mm_X11_cornerAt) 0 = .ok (.iload_n 1, 1) := by decide +kernel
theorem dd_X11_cornerAt_1 : decode (zc mm_X11_cornerAt) 1 = .ok (.aload_n 0, 1) := by decide +kernel
theorem dd_X11_cornerAt_2 : decode (zc mm_X11_cornerAt) 2 = .ok (.getfield 274, 3) := by decide +kernel
theorem dd_X11_cornerAt_5 : decode (zc mm_X11_cornerAt) 5 = .ok (.if_icmp .ge 28, 3) := by decide +kernel
theorem dd_X11_cornerAt_8 : decode (zc mm_X11_cornerAt) 8 = .ok (.bipush 10, 2) := by decide +kernel
theorem dd_X11_cornerAt_10 : decode (zc mm_X11_cornerAt) 10 = .ok (.aload_n 0, 1) := by decide +kernel
theorem dd_X11_cornerAt_11 : decode (zc mm_X11_cornerAt) 11 = .ok (.getfield 80, 3) := by decide +kernel
theorem dd_X11_cornerAt_14 : decode (zc mm_X11_cornerAt) 14 = .ok (.iload_n 1, 1) := by decide +kernel
theorem dd_X11_cornerAt_15 : decode (zc mm_X11_cornerAt) 15 = .ok (.iaload, 1) := by decide +kernel
theorem dd_X11_cornerAt_16 : decode (zc mm_X11_cornerAt) 16 = .ok (.bipush 16, 2) := by decide +kernel
theorem dd_X11_cornerAt_18 : decode (zc mm_X11_cornerAt) 18 = .ok (.idiv, 1) := by decide +kernel
theorem dd_X11_cornerAt_19 : decode (zc mm_X11_cornerAt) 19 = .ok (.imul, 1) := by decide +kernel
theorem dd_X11_cornerAt_20 : decode (zc mm_X11_cornerAt) 20 = .ok (.aload_n 0, 1) := by decide +kernel
theorem dd_X11_cornerAt_21 : decode (zc mm_X11_cornerAt) 21 = .ok (.getfield 80, 3) := by decide +kernel
theorem dd_X11_cornerAt_24 : decode (zc mm_X11_cornerAt) 24 = .ok (.iload_n 1, 1) := by decide +kernel
theorem dd_X11_cornerAt_25 : decode (zc mm_X11_cornerAt) 25 = .ok (.iaload, 1) := by decide +kernel
theorem dd_X11_cornerAt_26 : decode (zc mm_X11_cornerAt) 26 = .ok (.bipush 16, 2) := by decide +kernel
theorem dd_X11_cornerAt_28 : decode (zc mm_X11_cornerAt) 28 = .ok (.irem, 1) := by decide +kernel
theorem dd_X11_cornerAt_29 : decode (zc mm_X11_cornerAt) 29 = .ok (.iadd, 1) := by decide +kernel
theorem dd_X11_cornerAt_30 : decode (zc mm_X11_cornerAt) 30 = .ok (.goto 5, 3) := by decide +kernel
theorem dd_X11_cornerAt_33 : decode (zc mm_X11_cornerAt) 33 = .ok (.bipush (-9), 2) := by decide +kernel
theorem dd_X11_cornerAt_35 : decode (zc mm_X11_cornerAt) 35 = .ok (.ireturn, 1) := by decide +kernel
theorem dd_X11_corner_0 : decode (zc mm_X11_corner) 0 = .ok (.aload_n 0, 1) := by decide +kernel
theorem dd_X11_corner_1 : decode (zc mm_X11_corner) 1 = .ok (.iload_n 1, 1) := by decide +kernel
theorem dd_X11_corner_2 : decode (zc mm_X11_corner) 2 = .ok (.invokevirtual 154, 3) := by decide +kernel
theorem dd_X11_corner_5 : decode (zc mm_X11_corner) 5 = .ok (.ifCond .ne 7, 3) := by decide +kernel
theorem dd_X11_corner_8 : decode (zc mm_X11_corner) 8 = .ok (.iconst (-1), 1) := by decide +kernel
theorem dd_X11_corner_9 : decode (zc mm_X11_corner) 9 = .ok (.goto 26, 3) := by decide +kernel
theorem dd_X11_corner_12 : decode (zc mm_X11_corner) 12 = .ok (.aload_n 0, 1) := by decide +kernel
theorem dd_X11_corner_13 : decode (zc mm_X11_corner) 13 = .ok (.iload_n 1, 1) := by decide +kernel
theorem dd_X11_corner_14 : decode (zc mm_X11_corner) 14 = .ok (.invokevirtual 173, 3) := by decide +kernel
theorem dd_X11_corner_17 : decode (zc mm_X11_corner) 17 = .ok (.ifCond .eq 8, 3) := by decide +kernel
theorem dd_X11_corner_20 : decode (zc mm_X11_corner) 20 = .ok (.bipush (-3), 2) := by decide +kernel
theorem dd_X11_corner_22 : decode (zc mm_X11_corner) 22 = .ok (.goto 13, 3) := by decide +kernel
theorem dd_X11_corner_25 : decode (zc mm_X11_corner) 25 = .ok (.iload_n 2, 1) := by decide +kernel
theorem dd_X11_corner_26 : decode (zc mm_X11_corner) 26 = .ok (.ifCond .ge 8, 3) := by decide +kernel
theorem dd_X11_corner_29 : decode (zc mm_X11_corner) 29 = .ok (.bipush (-4), 2) := by decide +kernel
theorem dd_X11_corner_31 : decode (zc mm_X11_corner) 31 = .ok (.goto 4, 3) := by decide +kernel
theorem dd_X11_corner_34 : decode (zc mm_X11_corner) 34 = .ok (.iconst 0, 1) := by decide +kernel
theorem dd_X11_corner_35 : decode (zc mm_X11_corner) 35 = .ok (.istore_n 3, 1) := by decide +kernel
theorem dd_X11_corner_36 : decode (zc mm_X11_corner) 36 = .ok (.iload_n 3, 1) := by decide +kernel
theorem dd_X11_corner_37 : decode (zc mm_X11_corner) 37 = .ok (.ifCond .eq 9, 3) := by decide +kernel
theorem dd_X11_corner_40 : decode (zc mm_X11_corner) 40 = .ok (.aload_n 0, 1) := by decide +kernel
theorem dd_X11_corner_41 : decode (zc mm_X11_corner) 41 = .ok (.iload_n 3, 1) := by decide +kernel
theorem dd_X11_corner_42 : decode (zc mm_X11_corner) 42 = .ok (.invokevirtual 120, 3) := by decide +kernel
theorem dd_X11_corner_45 : decode (zc mm_X11_corner) 45 = .ok (.ireturn, 1) := by decide +kernel
theorem dd_X11_corner_46 : decode (zc mm_X11_corner) 46 = .ok (.aload_n 0, 1) := by decide +kernel
theorem dd_X11_corner_47 : decode (zc mm_X11_corner) 47 = .ok (.iload_n 1, 1) := by decide +kernel
theorem dd_X11_corner_48 : decode (zc mm_X11_corner) 48 = .ok (.invokevirtual 286, 3) := by decide +kernel
theorem dd_X11_corner_51 : decode (zc mm_X11_corner) 51 = .ok (.aload_n 0, 1) := by decide +kernel
theorem dd_X11_corner_52 : decode (zc mm_X11_corner) 52 = .ok (.iload_n 2, 1) := by decide +kernel
theorem dd_X11_corner_53 : decode (zc mm_X11_corner) 53 = .ok (.invokevirtual 289, 3) := by decide +kernel
theorem dd_X11_corner_56 : decode (zc mm_X11_corner) 56 = .ok (.ireturn, 1) := by decide +kernel
theorem dd_X11_areaOf_0 : decode (zc mm_X11_areaOf) 0 = .ok (.aload_n 0, 1) := by decide +kernel
theorem dd_X11_areaOf_1 : decode (zc mm_X11_areaOf) 1 = .ok (.iload_n 1, 1) := by decide +kernel
theorem dd_X11_areaOf_2 : decode (zc mm_X11_areaOf) 2 = .ok (.invokevirtual 286, 3) := by decide +kernel
theorem dd_X11_areaOf_5 : decode (zc mm_X11_areaOf) 5 = .ok (.aload_n 0, 1) := by decide +kernel
theorem dd_X11_areaOf_6 : decode (zc mm_X11_areaOf) 6 = .ok (.invokevirtual 292, 3) := by decide +kernel
theorem dd_X11_areaOf_9 : decode (zc mm_X11_areaOf) 9 = .ok (.ireturn, 1) := by decide +kernel
theorem dd_X11_area_0 : decode (zc mm_X11_area) 0 = .ok (.aload_n 0, 1) := by decide +kernel
theorem dd_X11_area_1 : decode (zc mm_X11_area) 1 = .ok (.iload_n 1, 1) := by decide +kernel
theorem dd_X11_area_2 : decode (zc mm_X11_area) 2 = .ok (.invokevirtual 154, 3) := by decide +kernel
theorem dd_X11_area_5 : decode (zc mm_X11_area) 5 = .ok (.ifCond .ne 7, 3) := by decide +kernel
theorem dd_X11_area_8 : decode (zc mm_X11_area) 8 = .ok (.iconst (-1), 1) := by decide +kernel
theorem dd_X11_area_9 : decode (zc mm_X11_area) 9 = .ok (.goto 17, 3) := by decide +kernel
theorem dd_X11_area_12 : decode (zc mm_X11_area) 12 = .ok (.aload_n 0, 1) := by decide +kernel
theorem dd_X11_area_13 : decode (zc mm_X11_area) 13 = .ok (.iload_n 1, 1) := by decide +kernel
theorem dd_X11_area_14 : decode (zc mm_X11_area) 14 = .ok (.invokevirtual 173, 3) := by decide +kernel
theorem dd_X11_area_17 : decode (zc mm_X11_area) 17 = .ok (.ifCond .eq 8, 3) := by decide +kernel
theorem dd_X11_area_20 : decode (zc mm_X11_area) 20 = .ok (.bipush (-3), 2) := by decide +kernel
theorem dd_X11_area_22 : decode (zc mm_X11_area) 22 = .ok (.goto 4, 3) := by decide +kernel
theorem dd_X11_area_25 : decode (zc mm_X11_area) 25 = .ok (.iconst 0, 1) := by decide +kernel
theorem dd_X11_area_26 : decode (zc mm_X11_area) 26 = .ok (.istore_n 2, 1) := by decide +kernel
theorem dd_X11_area_27 : decode (zc mm_X11_area) 27 = .ok (.iload_n 2, 1) := by decide +kernel
theorem dd_X11_area_28 : decode (zc mm_X11_area) 28 = .ok (.ifCond .eq 11, 3) := by decide +kernel
theorem dd_X11_area_31 : decode (zc mm_X11_area) 31 = .ok (.aload_n 0, 1) := by decide +kernel
theorem dd_X11_area_32 : decode (zc mm_X11_area) 32 = .ok (.iload_n 2, 1) := by decide +kernel
theorem dd_X11_area_33 : decode (zc mm_X11_area) 33 = .ok (.invokevirtual 120, 3) := by decide +kernel
theorem dd_X11_area_36 : decode (zc mm_X11_area) 36 = .ok (.goto 8, 3) := by decide +kernel
theorem dd_X11_area_39 : decode (zc mm_X11_area) 39 = .ok (.aload_n 0, 1) := by decide +kernel
theorem dd_X11_area_40 : decode (zc mm_X11_area) 40 = .ok (.iload_n 1, 1) := by decide +kernel
theorem dd_X11_area_41 : decode (zc mm_X11_area) 41 = .ok (.invokevirtual 295, 3) := by decide +kernel
theorem dd_X11_area_44 : decode (zc mm_X11_area) 44 = .ok (.ireturn, 1) := by decide +kernel
theorem dd_X11_sum_0 : decode (zc mm_X11_sum) 0 = .ok (.aload_n 0, 1) := by decide +kernel
theorem dd_X11_sum_1 : decode (zc mm_X11_sum) 1 = .ok (.iload_n 1, 1) := by decide +kernel
theorem dd_X11_sum_2 : decode (zc mm_X11_sum) 2 = .ok (.iload_n 2, 1) := by decide +kernel
theorem dd_X11_sum_3 : decode (zc mm_X11_sum) 3 = .ok (.iconst 0, 1) := by decide +kernel
theorem dd_X11_sum_4 : decode (zc mm_X11_sum) 4 = .ok (.invokevirtual 251, 3) := by decide +kernel
theorem dd_X11_sum_7 : decode (zc mm_X11_sum) 7 = .ok (.istore 4, 2) := by decide +kernel
theorem dd_X11_sum_9 : decode (zc mm_X11_sum) 9 = .ok (.iload 4, 2) := by decide +kernel
theorem dd_X11_sum_11 : decode (zc mm_X11_sum) 11 = .ok (.ifCond .ne 12, 3) := by decide +kernel
theorem dd_X11_sum_14 : decode (zc mm_X11_sum) 14 = .ok (.iload_n 3, 1) := by decide +kernel
theorem dd_X11_sum_15 : decode (zc mm_X11_sum) 15 = .ok (.iconst (-1), 1) := by decide +kernel
theorem dd_X11_sum_16 : decode (zc mm_X11_sum) 16 = .ok (.if_icmp .ge 7, 3) := by decide +kernel
theorem dd_X11_sum_19 : decode (zc mm_X11_sum) 19 = .ok (.bipush (-4), 2) := by decide +kernel
theorem dd_X11_sum_21 : decode (zc mm_X11_sum) 21 = .ok (.istore 4, 2) := by decide +kernel
theorem dd_X11_sum_23 : decode (zc mm_X11_sum) 23 = .ok (.iload 4, 2) := by decide +kernel
theorem dd_X11_sum_25 : decode (zc mm_X11_sum) 25 = .ok (.ifCond .eq 10, 3) := by decide +kernel
theorem dd_X11_sum_28 : decode (zc mm_X11_sum) 28 = .ok (.aload_n 0, 1) := by decide +kernel
theorem dd_X11_sum_29 : decode (zc mm_X11_sum) 29 = .ok (.iload 4, 2) := by decide +kernel
theorem dd_X11_sum_31 : decode (zc mm_X11_sum) 31 = .ok (.invokevirtual 120, 3) := by decide +kernel
theorem dd_X11_sum_34 : decode (zc mm_X11_sum) 34 = .ok (.ireturn, 1) := by decide +kernel
theorem dd_X11_sum_35 : decode (zc mm_X11_sum) 35 = .ok (.aload_n 0, 1) := by decide +kernel
theorem dd_X11_sum_36 : decode (zc mm_X11_sum) 36 = .ok (.iload_n 1, 1) := by decide +kernel
theorem dd_X11_sum_37 : decode (zc mm_X11_sum) 37 = .ok (.iload_n 2, 1) := by decide +kernel
theorem dd_X11_sum_38 : decode (zc mm_X11_sum) 38 = .ok (.invokevirtual 298, 3) := by decide +kernel
theorem dd_X11_sum_41 : decode (zc mm_X11_sum) 41 = .ok (.iload_n 3, 1) := by decide +kernel
theorem dd_X11_sum_42 : decode (zc mm_X11_sum) 42 = .ok (.ifCond .ge 10, 3) := by decide +kernel
theorem dd_X11_sum_45 : decode (zc mm_X11_sum) 45 = .ok (.aload_n 0, 1) := by decide +kernel
theorem dd_X11_sum_46 : decode (zc mm_X11_sum) 46 = .ok (.invokevirtual 292, 3) := by decide +kernel
theorem dd_X11_sum_49 : decode (zc mm_X11_sum) 49 = .ok (.goto 8, 3) := by decide +kernel
theorem dd_X11_sum_52 : decode (zc mm_X11_sum) 52 = .ok (.aload_n 0, 1) := by decide +kernel
theorem dd_X11_sum_53 : decode (zc mm_X11_sum) 53 = .ok (.iload_n 3, 1) := by decide +kernel
theorem dd_X11_sum_54 : decode (zc mm_X11_sum) 54 = .ok (.invokevirtual 289, 3) := by decide +kernel
theorem dd_X11_sum_57 : decode (zc mm_X11_sum) 57 = .ok (.ireturn, 1) := by decide +kernel
theorem dd_X11_mixed_0 : decode (zc mm_X11_mixed) 0 = .ok (.aload_n 0, 1) := by decide +kernel
theorem dd_X11_mixed_1 : decode (zc mm_X11_mixed) 1 = .ok (.iload_n 1, 1) := by decide +kernel
theorem dd_X11_mixed_2 : decode (zc mm_X11_mixed) 2 = .ok (.iload_n 2, 1) := by decide +kernel
theorem dd_X11_mixed_3 : decode (zc mm_X11_mixed) 3 = .ok (.iconst 0, 1) := by decide +kernel
theorem dd_X11_mixed_4 : decode (zc mm_X11_mixed) 4 = .ok (.invokevirtual 251, 3) := by decide +kernel
theorem dd_X11_mixed_7 : decode (zc mm_X11_mixed) 7 = .ok (.istore_n 3, 1) := by decide +kernel
theorem dd_X11_mixed_8 : decode (zc mm_X11_mixed) 8 = .ok (.iload_n 3, 1) := by decide +kernel
theorem dd_X11_mixed_9 : decode (zc mm_X11_mixed) 9 = .ok (.ifCond .eq 9, 3) := by decide +kernel
theorem dd_X11_mixed_12 : decode (zc mm_X11_mixed) 12 = .ok (.aload_n 0, 1) := by decide +kernel
theorem dd_X11_mixed_13 : decode (zc mm_X11_mixed) 13 = .ok (.iload_n 3, 1) := by decide +kernel
theorem dd_X11_mixed_14 : decode (zc mm_X11_mixed) 14 = .ok (.invokevirtual 120, 3) := by decide +kernel
theorem dd_X11_mixed_17 : decode (zc mm_X11_mixed) 17 = .ok (.ireturn, 1) := by decide +kernel
theorem dd_X11_mixed_18 : decode (zc mm_X11_mixed) 18 = .ok (.aload_n 0, 1) := by decide +kernel
theorem dd_X11_mixed_19 : decode (zc mm_X11_mixed) 19 = .ok (.iload_n 1, 1) := by decide +kernel
theorem dd_X11_mixed_20 : decode (zc mm_X11_mixed) 20 = .ok (.invokevirtual 295, 3) := by decide +kernel
theorem dd_X11_mixed_23 : decode (zc mm_X11_mixed) 23 = .ok (.aload_n 0, 1) := by decide +kernel
theorem dd_X11_mixed_24 : decode (zc mm_X11_mixed) 24 = .ok (.iload_n 2, 1) := by decide +kernel
theorem dd_X11_mixed_25 : decode (zc mm_X11_mixed) 25 = .ok (.invokevirtual 295, 3) := by decide +kernel
theorem dd_X11_mixed_28 : decode (zc mm_X11_mixed) 28 = .ok (.iadd, 1) := by decide +kernel
theorem dd_X11_mixed_29 : decode (zc mm_X11_mixed) 29 = .ok (.istore 4, 2) := by decide +kernel
theorem dd_X11_mixed_31 : decode (zc mm_X11_mixed) 31 = .ok (.aload_n 0, 1) := by decide +kernel
theorem dd_X11_mixed_32 : decode (zc mm_X11_mixed) 32 = .ok (.iload_n 1, 1) := by decide +kernel
theorem dd_X11_mixed_33 : decode (zc mm_X11_mixed) 33 = .ok (.iload_n 2, 1) := by decide +kernel
theorem dd_X11_mixed_34 : decode (zc mm_X11_mixed) 34 = .ok (.invokevirtual 298, 3) := by decide +kernel
theorem dd_X11_mixed_37 : decode (zc mm_X11_mixed) 37 = .ok (.aload_n 0, 1) := by decide +kernel
theorem dd_X11_mixed_38 : decode (zc mm_X11_mixed) 38 = .ok (.invokevirtual 292, 3) := by decide +kernel
theorem dd_X11_mixed_41 : decode (zc mm_X11_mixed) 41 = .ok (.iload 4, 2) := by decide +kernel
theorem dd_X11_mixed_43 : decode (zc mm_X11_mixed) 43 = .ok (.isub, 1) := by decide +kernel
theorem dd_X11_mixed_44 : decode (zc mm_X11_mixed) 44 = .ok (.iconst 2, 1) := by decide +kernel
theorem dd_X11_mixed_45 : decode (zc mm_X11_mixed) 45 = .ok (.idiv, 1) := by decide +kernel
theorem dd_X11_mixed_46 : decode (zc mm_X11_mixed) 46 = .ok (.ireturn, 1) := by decide +kernel
theorem dd_X11_multiplies_0 : decode (zc mm_X11_multiplies) 0 = .ok (.iconst 0, 1) := by decide +kernel
theorem dd_X11_multiplies_1 : decode (zc mm_X11_multiplies) 1 = .ok (.istore_n 3, 1) := by decide +kernel
theorem dd_X11_multiplies_2 : decode (zc mm_X11_multiplies) 2 = .ok (.iload_n 3, 1) := by decide +kernel
theorem dd_X11_multiplies_3 : decode (zc mm_X11_multiplies) 3 = .ok (.bipush 25, 2) := by decide +kernel
theorem dd_X11_multiplies_5 : decode (zc mm_X11_multiplies) 5 = .ok (.if_icmp .ge 16, 3) := by decide +kernel
theorem dd_X11_multiplies_8 : decode (zc mm_X11_multiplies) 8 = .ok (.aload_n 0, 1) := by decide +kernel
theorem dd_X11_multiplies_9 : decode (zc mm_X11_multiplies) 9 = .ok (.getfield 49, 3) := by decide +kernel
theorem dd_X11_multiplies_12 : decode (zc mm_X11_multiplies) 12 = .ok (.iload_n 3, 1) := by decide +kernel
theorem dd_X11_multiplies_13 : decode (zc mm_X11_multiplies) 13 = .ok (.iconst 0, 1) := by decide +kernel
theorem dd_X11_multiplies_14 : decode (zc mm_X11_multiplies) 14 = .ok (.iastore, 1) := by decide +kernel
theorem dd_X11_multiplies_15 : decode (zc mm_X11_multiplies) 15 = .ok (.iinc 3 1, 3) := by decide +kernel
theorem dd_X11_multiplies_18 : decode (zc mm_X11_multiplies) 18 = .ok (.goto (-16), 3) := by decide +kernel
theorem dd_X11_multiplies_21 : decode (zc mm_X11_multiplies) 21 = .ok (.iconst 1, 1) := by decide +kernel
theorem dd_X11_multiplies_22 : decode (zc mm_X11_multiplies) 22 = .ok (.istore_n 3, 1) := by decide +kernel
theorem dd_X11_multiplies_23 : decode (zc mm_X11_multiplies) 23 = .ok (.iconst 0, 1) := by decide +kernel
theorem dd_X11_multiplies_24 : decode (zc mm_X11_multiplies) 24 = .ok (.istore 4, 2) := by decide +kernel
theorem dd_X11_multiplies_26 : decode (zc mm_X11_multiplies) 26 = .ok (.iload 4, 2) := by decide +kernel
theorem dd_X11_multiplies_28 : decode (zc mm_X11_multiplies) 28 = .ok (.bipush 9, 2) := by decide +kernel
theorem dd_X11_multiplies_30 : decode (zc mm_X11_multiplies) 30 = .ok (.if_icmp .ge 157, 3) := by decide +kernel
theorem dd_X11_multiplies_33 : decode (zc mm_X11_multiplies) 33 = .ok (.iconst 0, 1) := by decide +kernel
theorem dd_X11_multiplies_34 : decode (zc mm_X11_multiplies) 34 = .ok (.istore 5, 2) := by decide +kernel
theorem dd_X11_multiplies_36 : decode (zc mm_X11_multiplies) 36 = .ok (.iload 5, 2) := by decide +kernel
theorem dd_X11_multiplies_38 : decode (zc mm_X11_multiplies) 38 = .ok (.bipush 9, 2) := by decide +kernel
theorem dd_X11_multiplies_40 : decode (zc mm_X11_multiplies) 40 = .ok (.if_icmp .ge 141, 3) := by decide +kernel
theorem dd_X11_multiplies_43 : decode (zc mm_X11_multiplies) 43 = .ok (.iconst 0, 1) := by decide +kernel
theorem dd_X11_multiplies_44 : decode (zc mm_X11_multiplies) 44 = .ok (.istore 6, 2) := by decide +kernel
theorem dd_X11_multiplies_46 : decode (zc mm_X11_multiplies) 46 = .ok (.iconst 0, 1) := by decide +kernel
theorem dd_X11_multiplies_47 : decode (zc mm_X11_multiplies) 47 = .ok (.istore 7, 2) := by decide +kernel
theorem dd_X11_multiplies_49 : decode (zc mm_X11_multiplies) 49 = .ok (.iload 7, 2) := by decide +kernel
theorem dd_X11_multiplies_51 : decode (zc mm_X11_multiplies) 51 = .ok (.bipush 25, 2) := by decide +kernel
theorem dd_X11_multiplies_53 : decode (zc mm_X11_multiplies) 53 = .ok (.if_icmp .ge 80, 3) := by decide +kernel
theorem dd_X11_multiplies_56 : decode (zc mm_X11_multiplies) 56 = .ok (.iload 4, 2) := by decide +kernel
theorem dd_X11_multiplies_58 : decode (zc mm_X11_multiplies) 58 = .ok (.iload 7, 2) := by decide +kernel
theorem dd_X11_multiplies_60 : decode (zc mm_X11_multiplies) 60 = .ok (.iconst 5, 1) := by decide +kernel
theorem dd_X11_multiplies_61 : decode (zc mm_X11_multiplies) 61 = .ok (.idiv, 1) := by decide +kernel
theorem dd_X11_multiplies_62 : decode (zc mm_X11_multiplies) 62 = .ok (.isub, 1) := by decide +kernel
theorem dd_X11_multiplies_63 : decode (zc mm_X11_multiplies) 63 = .ok (.istore 8, 2) := by decide +kernel
theorem dd_X11_multiplies_65 : decode (zc mm_X11_multiplies) 65 = .ok (.iload 5, 2) := by decide +kernel
theorem dd_X11_multiplies_67 : decode (zc mm_X11_multiplies) 67 = .ok (.iload 7, 2) := by decide +kernel
theorem dd_X11_multiplies_69 : decode (zc mm_X11_multiplies) 69 = .ok (.iconst 5, 1) := by decide +kernel
theorem dd_X11_multiplies_70 : decode (zc mm_X11_multiplies) 70 = .ok (.irem, 1) := by decide +kernel
theorem dd_X11_multiplies_71 : decode (zc mm_X11_multiplies) 71 = .ok (.isub, 1) := by decide +kernel
theorem dd_X11_multiplies_72 : decode (zc mm_X11_multiplies) 72 = .ok (.istore 9, 2) := by decide +kernel
theorem dd_X11_multiplies_74 : decode (zc mm_X11_multiplies) 74 = .ok (.iload 8, 2) := by decide +kernel
theorem dd_X11_multiplies_76 : decode (zc mm_X11_multiplies) 76 = .ok (.iconst 0, 1) := by decide +kernel
theorem dd_X11_multiplies_77 : decode (zc mm_X11_multiplies) 77 = .ok (.iconst 4, 1) := by decide +kernel
theorem dd_X11_multiplies_78 : decode (zc mm_X11_multiplies) 78 = .ok (.invokestatic 21, 3) := by decide +kernel
theorem dd_X11_multiplies_81 : decode (zc mm_X11_multiplies) 81 = .ok (.ifCond .eq 46, 3) := by decide +kernel
theorem dd_X11_multiplies_84 : decode (zc mm_X11_multiplies) 84 = .ok (.iload 9, 2) := by decide +kernel
theorem dd_X11_multiplies_86 : decode (zc mm_X11_multiplies) 86 = .ok (.iconst 0, 1) := by decide +kernel
theorem dd_X11_multiplies_87 : decode (zc mm_X11_multiplies) 87 = .ok (.iconst 4, 1) := by decide +kernel
theorem dd_X11_multiplies_88 : decode (zc mm_X11_multiplies) 88 = .ok (.invokestatic 21, 3) := by decide +kernel
theorem dd_X11_multiplies_91 : decode (zc mm_X11_multiplies) 91 = .ok (.ifCond .eq 36, 3) := by decide +kernel
theorem dd_X11_multiplies_94 : decode (zc mm_X11_multiplies) 94 = .ok (.iload 6, 2) := by decide +kernel
theorem dd_X11_multiplies_96 : decode (zc mm_X11_multiplies) 96 = .ok (.aload_n 0, 1) := by decide +kernel
theorem dd_X11_multiplies_97 : decode (zc mm_X11_multiplies) 97 = .ok (.iload_n 1, 1) := by decide +kernel
theorem dd_X11_multiplies_98 : decode (zc mm_X11_multiplies) 98 = .ok (.iload 7, 2) := by decide +kernel
theorem dd_X11_multiplies_100 : decode (zc mm_X11_multiplies) 100 = .ok (.iconst 5, 1) := by decide +kernel
theorem dd_X11_multiplies_101 : decode (zc mm_X11_multiplies) 101 = .ok (.idiv, 1) := by decide +kernel
theorem dd_X11_multiplies_102 : decode (zc mm_X11_multiplies) 102 = .ok (.iload 7, 2) := by decide +kernel
theorem dd_X11_multiplies_104 : decode (zc mm_X11_multiplies) 104 = .ok (.iconst 5, 1) := by decide +kernel
theorem dd_X11_multiplies_105 : decode (zc mm_X11_multiplies) 105 = .ok (.irem, 1) := by decide +kernel
theorem dd_X11_multiplies_106 : decode (zc mm_X11_multiplies) 106 = .ok (.invokevirtual 108, 3) := by decide +kernel
theorem dd_X11_multiplies_109 : decode (zc mm_X11_multiplies) 109 = .ok (.aload_n 0, 1) := by decide +kernel
theorem dd_X11_multiplies_110 : decode (zc mm_X11_multiplies) 110 = .ok (.iload_n 2, 1) := by decide +kernel
theorem dd_X11_multiplies_111 : decode (zc mm_X11_multiplies) 111 = .ok (.iload 8, 2) := by decide +kernel
theorem dd_X11_multiplies_113 : decode (zc mm_X11_multiplies) 113 = .ok (.iload 9, 2) := by decide +kernel
theorem dd_X11_multiplies_115 : decode (zc mm_X11_multiplies) 115 = .ok (.invokevirtual 108, 3) := by decide +kernel
theorem dd_X11_multiplies_118 : decode (zc mm_X11_multiplies) 118 = .ok (.imul, 1) := by decide +kernel
theorem dd_X11_multiplies_119 : decode (zc mm_X11_multiplies) 119 = .ok (.iadd, 1) := by decide +kernel
theorem dd_X11_multiplies_120 : decode (zc mm_X11_multiplies) 120 = .ok (.aload_n 0, 1) := by decide +kernel
theorem dd_X11_multiplies_121 : decode (zc mm_X11_multiplies) 121 = .ok (.getfield 9, 3) := by decide +kernel
theorem dd_X11_multiplies_124 : decode (zc mm_X11_multiplies) 124 = .ok (.irem, 1) := by decide +kernel
theorem dd_X11_multiplies_125 : decode (zc mm_X11_multiplies) 125 = .ok (.istore 6, 2) := by decide +kernel
theorem dd_X11_multiplies_127 : decode (zc mm_X11_multiplies) 127 = .ok (.iinc 7 1, 3) := by decide +kernel
theorem dd_X11_multiplies_130 : decode (zc mm_X11_multiplies) 130 = .ok (.goto (-81), 3) := by decide +kernel
theorem dd_X11_multiplies_133 : decode (zc mm_X11_multiplies) 133 = .ok (.iload 4, 2) := by decide +kernel
theorem dd_X11_multiplies_135 : decode (zc mm_X11_multiplies) 135 = .ok (.iconst 5, 1) := by decide +kernel
theorem dd_X11_multiplies_136 : decode (zc mm_X11_multiplies) 136 = .ok (.if_icmp .ge 26, 3) := by decide +kernel
theorem dd_X11_multiplies_139 : decode (zc mm_X11_multiplies) 139 = .ok (.iload 5, 2) := by decide +kernel
theorem dd_X11_multiplies_141 : decode (zc mm_X11_multiplies) 141 = .ok (.iconst 5, 1) := by decide +kernel
theorem dd_X11_multiplies_142 : decode (zc mm_X11_multiplies) 142 = .ok (.if_icmp .ge 20, 3) := by decide +kernel
theorem dd_X11_multiplies_145 : decode (zc mm_X11_multiplies) 145 = .ok (.aload_n 0, 1) := by decide +kernel
theorem dd_X11_multiplies_146 : decode (zc mm_X11_multiplies) 146 = .ok (.getfield 49, 3) := by decide +kernel
theorem dd_X11_multiplies_149 : decode (zc mm_X11_multiplies) 149 = .ok (.iconst 5, 1) := by decide +kernel
theorem dd_X11_multiplies_150 : decode (zc mm_X11_multiplies) 150 = .ok (.iload 4, 2) := by decide +kernel
theorem dd_X11_multiplies_152 : decode (zc mm_X11_multiplies) 152 = .ok (.imul, 1) := by decide +kernel
theorem dd_X11_multiplies_153 : decode (zc mm_X11_multiplies) 153 = .ok (.iload 5, 2) := by decide +kernel
theorem dd_X11_multiplies_155 : decode (zc mm_X11_multiplies) 155 = .ok (.iadd, 1) := by decide +kernel
theorem dd_X11_multiplies_156 : decode (zc mm_X11_multiplies) 156 = .ok (.iload 6, 2) := by decide +kernel
theorem dd_X11_multiplies_158 : decode (zc mm_X11_multiplies) 158 = .ok (.iastore, 1) := by decide +kernel
theorem dd_X11_multiplies_159 : decode (zc mm_X11_multiplies) 159 = .ok (.goto 16, 3) := by decide +kernel
theorem dd_X11_multiplies_162 : decode (zc mm_X11_multiplies) 162 = .ok (.iload_n 3, 1) := by decide +kernel
theorem dd_X11_multiplies_163 : decode (zc mm_X11_multiplies) 163 = .ok (.iload 6, 2) := by decide +kernel
theorem dd_X11_multiplies_165 : decode (zc mm_X11_multiplies) 165 = .ok (.ifCond .ne 7, 3) := by decide +kernel
theorem dd_X11_multiplies_168 : decode (zc mm_X11_multiplies) 168 = .ok (.iconst 1, 1) := by decide +kernel
theorem dd_X11_multiplies_169 : decode (zc mm_X11_multiplies) 169 = .ok (.goto 4, 3) := by decide +kernel
theorem dd_X11_multiplies_172 : decode (zc mm_X11_multiplies) 172 = .ok (.iconst 0, 1) := by decide +kernel
theorem dd_X11_multiplies_173 : decode (zc mm_X11_multiplies) 173 = .ok (.iand, 1) := by decide +kernel
theorem dd_X11_multiplies_174 : decode (zc mm_X11_multiplies) 174 = .ok (.istore_n 3, 1) := by decide +kernel
theorem dd_X11_multiplies_175 : decode (zc mm_X11_multiplies) 175 = .ok (.iinc 5 1, 3) := by decide +kernel
theorem dd_X11_multiplies_178 : decode (zc mm_X11_multiplies) 178 = .ok (.goto (-142), 3) := by decide +kernel
theorem dd_X11_multiplies_181 : decode (zc mm_X11_multiplies) 181 = .ok (.iinc 4 1, 3) := by decide +kernel
theorem dd_X11_multiplies_184 : decode (zc mm_X11_multiplies) 184 = .ok (.goto (-158), 3) := by decide +kernel
theorem dd_X11_multiplies_187 : decode (zc mm_X11_multiplies) 187 = .ok (.iload_n 3, 1) := by decide +kernel
theorem dd_X11_multiplies_188 : decode (zc mm_X11_multiplies) 188 = .ok (.ireturn, 1) := by decide +kernel
theorem dd_X11_product_0 : decode (zc mm_X11_product) 0 = .ok (.aload_n 0, 1) := by decide +kernel
theorem dd_X11_product_1 : decode (zc mm_X11_product) 1 = .ok (.iload_n 1, 1) := by decide +kernel
theorem dd_X11_product_2 : decode (zc mm_X11_product) 2 = .ok (.iload_n 2, 1) := by decide +kernel
theorem dd_X11_product_3 : decode (zc mm_X11_product) 3 = .ok (.iconst 0, 1) := by decide +kernel
theorem dd_X11_product_4 : decode (zc mm_X11_product) 4 = .ok (.invokevirtual 170, 3) := by decide +kernel
theorem dd_X11_product_7 : decode (zc mm_X11_product) 7 = .ok (.ifCond .eq 7, 3) := by decide +kernel
theorem dd_X11_product_10 : decode (zc mm_X11_product) 10 = .ok (.iconst (-1), 1) := by decide +kernel
theorem dd_X11_product_11 : decode (zc mm_X11_product) 11 = .ok (.goto 18, 3) := by decide +kernel
theorem dd_X11_product_14 : decode (zc mm_X11_product) 14 = .ok (.aload_n 0, 1) := by decide +kernel
theorem dd_X11_product_15 : decode (zc mm_X11_product) 15 = .ok (.getfield 95, 3) := by decide +kernel
theorem dd_X11_product_18 : decode (zc mm_X11_product) 18 = .ok (.bipush 6, 2) := by decide +kernel
theorem dd_X11_product_20 : decode (zc mm_X11_product) 20 = .ok (.if_icmp .ne 8, 3) := by decide +kernel
theorem dd_X11_product_23 : decode (zc mm_X11_product) 23 = .ok (.bipush (-6), 2) := by decide +kernel
theorem dd_X11_product_25 : decode (zc mm_X11_product) 25 = .ok (.goto 4, 3) := by decide +kernel
theorem dd_X11_product_28 : decode (zc mm_X11_product) 28 = .ok (.iconst 0, 1) := by decide +kernel
theorem dd_X11_product_29 : decode (zc mm_X11_product) 29 = .ok (.istore_n 3, 1) := by decide +kernel
theorem dd_X11_product_30 : decode (zc mm_X11_product) 30 = .ok (.iload_n 3, 1) := by decide +kernel
theorem dd_X11_product_31 : decode (zc mm_X11_product) 31 = .ok (.ifCond .ne 15, 3) := by decide +kernel
theorem dd_X11_product_34 : decode (zc mm_X11_product) 34 = .ok (.aload_n 0, 1) := by decide +kernel
theorem dd_X11_product_35 : decode (zc mm_X11_product) 35 = .ok (.iload_n 1, 1) := by decide +kernel
theorem dd_X11_product_36 : decode (zc mm_X11_product) 36 = .ok (.iload_n 2, 1) := by decide +kernel
theorem dd_X11_product_37 : decode (zc mm_X11_product) 37 = .ok (.invokevirtual 301, 3) := by decide +kernel
theorem dd_X11_product_40 : decode (zc mm_X11_product) 40 = .ok (.ifCond .ne 6, 3) := by decide +kernel
theorem dd_X11_product_43 : decode (zc mm_X11_product) 43 = .ok (.bipush (-3), 2) := by decide +kernel
theorem dd_X11_product_45 : decode (zc mm_X11_product) 45 = .ok (.istore_n 3, 1) := by decide +kernel
theorem dd_X11_product_46 : decode (zc mm_X11_product) 46 = .ok (.iload_n 3, 1) := by decide +kernel
theorem dd_X11_product_47 : decode (zc mm_X11_product) 47 = .ok (.ifCond .eq 11, 3) := by decide +kernel
theorem dd_X11_product_50 : decode (zc mm_X11_product) 50 = .ok (.aload_n 0, 1) := by decide +kernel
theorem dd_X11_product_51 : decode (zc mm_X11_product) 51 = .ok (.iload_n 3, 1) := by decide +kernel
theorem dd_X11_product_52 : decode (zc mm_X11_product) 52 = .ok (.invokevirtual 120, 3) := by decide +kernel
theorem dd_X11_product_55 : decode (zc mm_X11_product) 55 = .ok (.goto 7, 3) := by decide +kernel
theorem dd_X11_product_58 : decode (zc mm_X11_product) 58 = .ok (.aload_n 0, 1) := by decide +kernel
theorem dd_X11_product_59 : decode (zc mm_X11_product) 59 = .ok (.invokevirtual 147, 3) := by decide +kernel
theorem dd_X11_product_62 : decode (zc mm_X11_product) 62 = .ok (.ireturn, 1) := by decide +kernel
theorem dd_X11_divisor_0 : decode (zc mm_X11_divisor) 0 = .ok (.lload_n 0, 1) := by decide +kernel
theorem dd_X11_divisor_1 : decode (zc mm_X11_divisor) 1 = .ok (.lstore 4, 2) := by decide +kernel
theorem dd_X11_divisor_3 : decode (zc mm_X11_divisor) 3 = .ok (.lload_n 2, 1) := by decide +kernel
theorem dd_X11_divisor_4 : decode (zc mm_X11_divisor) 4 = .ok (.lstore 6, 2) := by decide +kernel
theorem dd_X11_divisor_6 : decode (zc mm_X11_divisor) 6 = .ok (.lload 6, 2) := by decide +kernel
theorem dd_X11_divisor_8 : decode (zc mm_X11_divisor) 8 = .ok (.lconst 0, 1) := by decide +kernel
theorem dd_X11_divisor_9 : decode (zc mm_X11_divisor) 9 = .ok (.lcmp, 1) := by decide +kernel
theorem dd_X11_divisor_10 : decode (zc mm_X11_divisor) 10 = .ok (.ifCond .eq 21, 3) := by decide +kernel
theorem dd_X11_divisor_13 : decode (zc mm_X11_divisor) 13 = .ok (.lload 4, 2) := by decide +kernel
theorem dd_X11_divisor_15 : decode (zc mm_X11_divisor) 15 = .ok (.lload 6, 2) := by decide +kernel
theorem dd_X11_divisor_17 : decode (zc mm_X11_divisor) 17 = .ok (.lrem, 1) := by decide +kernel
theorem dd_X11_divisor_18 : decode (zc mm_X11_divisor) 18 = .ok (.lstore 8, 2) := by decide +kernel
theorem dd_X11_divisor_20 : decode (zc mm_X11_divisor) 20 = .ok (.lload 6, 2) := by decide +kernel
theorem dd_X11_divisor_22 : decode (zc mm_X11_divisor) 22 = .ok (.lstore 4, 2) := by decide +kernel
theorem dd_X11_divisor_24 : decode (zc mm_X11_divisor) 24 = .ok (.lload 8, 2) := by decide +kernel
theorem dd_X11_divisor_26 : decode (zc mm_X11_divisor) 26 = .ok (.lstore 6, 2) := by decide +kernel
theorem dd_X11_divisor_28 : decode (zc mm_X11_divisor) 28 = .ok (.goto (-22), 3) := by decide +kernel
theorem dd_X11_divisor_31 : decode (zc mm_X11_divisor) 31 = .ok (.lload 4, 2) := by decide +kernel
theorem dd_X11_divisor_33 : decode (zc mm_X11_divisor) 33 = .ok (.lreturn, 1) := by decide +kernel
theorem dd_X11_odds_0 : decode (zc mm_X11_odds) 0 = .ok (.aload_n 0, 1) := by decide +kernel
theorem dd_X11_odds_1 : decode (zc mm_X11_odds) 1 = .ok (.iload_n 1, 1) := by decide +kernel
theorem dd_X11_odds_2 : decode (zc mm_X11_odds) 2 = .ok (.invokevirtual 154, 3) := by decide +kernel
theorem dd_X11_odds_5 : decode (zc mm_X11_odds) 5 = .ok (.ifCond .ne 7, 3) := by decide +kernel
theorem dd_X11_odds_8 : decode (zc mm_X11_odds) 8 = .ok (.iconst (-1), 1) := by decide +kernel
theorem dd_X11_odds_9 : decode (zc mm_X11_odds) 9 = .ok (.goto 18, 3) := by decide +kernel
theorem dd_X11_odds_12 : decode (zc mm_X11_odds) 12 = .ok (.iload_n 2, 1) := by decide +kernel
theorem dd_X11_odds_13 : decode (zc mm_X11_odds) 13 = .ok (.iconst 0, 1) := by decide +kernel
theorem dd_X11_odds_14 : decode (zc mm_X11_odds) 14 = .ok (.iconst 1, 1) := by decide +kernel
theorem dd_X11_odds_15 : decode (zc mm_X11_odds) 15 = .ok (.invokestatic 21, 3) := by decide +kernel
theorem dd_X11_odds_18 : decode (zc mm_X11_odds) 18 = .ok (.ifCond .ne 8, 3) := by decide +kernel
theorem dd_X11_odds_21 : decode (zc mm_X11_odds) 21 = .ok (.bipush (-2), 2) := by decide +kernel
theorem dd_X11_odds_23 : decode (zc mm_X11_odds) 23 = .ok (.goto 4, 3) := by decide +kernel
theorem dd_X11_odds_26 : decode (zc mm_X11_odds) 26 = .ok (.iconst 0, 1) := by decide +kernel
theorem dd_X11_odds_27 : decode (zc mm_X11_odds) 27 = .ok (.istore_n 3, 1) := by decide +kernel
theorem dd_X11_odds_28 : decode (zc mm_X11_odds) 28 = .ok (.iload_n 3, 1) := by decide +kernel
theorem dd_X11_odds_29 : decode (zc mm_X11_odds) 29 = .ok (.ifCond .eq 9, 3) := by decide +kernel
theorem dd_X11_odds_32 : decode (zc mm_X11_odds) 32 = .ok (.aload_n 0, 1) := by decide +kernel
theorem dd_X11_odds_33 : decode (zc mm_X11_odds) 33 = .ok (.iload_n 3, 1) := by decide +kernel
theorem dd_X11_odds_34 : decode (zc mm_X11_odds) 34 = .ok (.invokevirtual 305, 3) := by decide +kernel
theorem dd_X11_odds_37 : decode (zc mm_X11_odds) 37 = .ok (.lreturn, 1) := by decide +kernel
theorem dd_X11_odds_38 : decode (zc mm_X11_odds) 38 = .ok (.lconst 0, 1) := by decide +kernel
theorem dd_X11_odds_39 : decode (zc mm_X11_odds) 39 = .ok (.lstore 4, 2) := by decide +kernel
theorem dd_X11_odds_41 : decode (zc mm_X11_odds) 41 = .ok (.aload_n 0, 1) := by decide +kernel
theorem dd_X11_odds_42 : decode (zc mm_X11_odds) 42 = .ok (.getfield 9, 3) := by decide +kernel
theorem dd_X11_odds_45 : decode (zc mm_X11_odds) 45 = .ok (.aload_n 0, 1) := by decide +kernel
theorem dd_X11_odds_46 : decode (zc mm_X11_odds) 46 = .ok (.getfield 9, 3) := by decide +kernel
theorem dd_X11_odds_49 : decode (zc mm_X11_odds) 49 = .ok (.imul, 1) := by decide +kernel
theorem dd_X11_odds_50 : decode (zc mm_X11_odds) 50 = .ok (.i2l, 1) := by decide +kernel
theorem dd_X11_odds_51 : decode (zc mm_X11_odds) 51 = .ok (.lstore 6, 2) := by decide +kernel
theorem dd_X11_odds_53 : decode (zc mm_X11_odds) 53 = .ok (.iconst 0, 1) := by decide +kernel
theorem dd_X11_odds_54 : decode (zc mm_X11_odds) 54 = .ok (.istore 8, 2) := by decide +kernel
theorem dd_X11_odds_56 : decode (zc mm_X11_odds) 56 = .ok (.iload 8, 2) := by decide +kernel
theorem dd_X11_odds_58 : decode (zc mm_X11_odds) 58 = .ok (.aload_n 0, 1) := by decide +kernel
theorem dd_X11_odds_59 : decode (zc mm_X11_odds) 59 = .ok (.getfield 9, 3) := by decide +kernel
theorem dd_X11_odds_62 : decode (zc mm_X11_odds) 62 = .ok (.if_icmp .ge 49, 3) := by decide +kernel
theorem dd_X11_odds_65 : decode (zc mm_X11_odds) 65 = .ok (.iconst 0, 1) := by decide +kernel
theorem dd_X11_odds_66 : decode (zc mm_X11_odds) 66 = .ok (.istore 9, 2) := by decide +kernel
theorem dd_X11_odds_68 : decode (zc mm_X11_odds) 68 = .ok (.iload 9, 2) := by decide +kernel
theorem dd_X11_odds_70 : decode (zc mm_X11_odds) 70 = .ok (.aload_n 0, 1) := by decide +kernel
theorem dd_X11_odds_71 : decode (zc mm_X11_odds) 71 = .ok (.getfield 9, 3) := by decide +kernel
theorem dd_X11_odds_74 : decode (zc mm_X11_odds) 74 = .ok (.if_icmp .ge 31, 3) := by decide +kernel
theorem dd_X11_odds_77 : decode (zc mm_X11_odds) 77 = .ok (.lload 4, 2) := by decide +kernel
theorem dd_X11_odds_79 : decode (zc mm_X11_odds) 79 = .ok (.aload_n 0, 1) := by decide +kernel
theorem dd_X11_odds_80 : decode (zc mm_X11_odds) 80 = .ok (.iload_n 1, 1) := by decide +kernel
theorem dd_X11_odds_81 : decode (zc mm_X11_odds) 81 = .ok (.iload 8, 2) := by decide +kernel
theorem dd_X11_odds_83 : decode (zc mm_X11_odds) 83 = .ok (.iload 9, 2) := by decide +kernel
theorem dd_X11_odds_85 : decode (zc mm_X11_odds) 85 = .ok (.invokevirtual 167, 3) := by decide +kernel
theorem dd_X11_odds_88 : decode (zc mm_X11_odds) 88 = .ok (.ifCond .ne 7, 3) := by decide +kernel
theorem dd_X11_odds_91 : decode (zc mm_X11_odds) 91 = .ok (.lconst 1, 1) := by decide +kernel
theorem dd_X11_odds_92 : decode (zc mm_X11_odds) 92 = .ok (.goto 4, 3) := by decide +kernel
theorem dd_X11_odds_95 : decode (zc mm_X11_odds) 95 = .ok (.lconst 0, 1) := by decide +kernel
theorem dd_X11_odds_96 : decode (zc mm_X11_odds) 96 = .ok (.ladd, 1) := by decide +kernel
theorem dd_X11_odds_97 : decode (zc mm_X11_odds) 97 = .ok (.lstore 4, 2) := by decide +kernel
theorem dd_X11_odds_99 : decode (zc mm_X11_odds) 99 = .ok (.iinc 9 1, 3) := by decide +kernel
theorem dd_X11_odds_102 : decode (zc mm_X11_odds) 102 = .ok (.goto (-34), 3) := by decide +kernel
theorem dd_X11_odds_105 : decode (zc mm_X11_odds) 105 = .ok (.iinc 8 1, 3) := by decide +kernel
theorem dd_X11_odds_108 : decode (zc mm_X11_odds) 108 = .ok (.goto (-52), 3) := by decide +kernel
theorem dd_X11_odds_111 : decode (zc mm_X11_odds) 111 = .ok (.iload_n 2, 1) := by decide +kernel
theorem dd_X11_odds_112 : decode (zc mm_X11_odds) 112 = .ok (.ifCond .ne 8, 3) := by decide +kernel
theorem dd_X11_odds_115 : decode (zc mm_X11_odds) 115 = .ok (.lload 4, 2) := by decide +kernel
theorem dd_X11_odds_117 : decode (zc mm_X11_odds) 117 = .ok (.goto 5, 3) := by decide +kernel
theorem dd_X11_odds_120 : decode (zc mm_X11_odds) 120 = .ok (.lload 6, 2) := by decide +kernel
theorem dd_X11_odds_122 : decode (zc mm_X11_odds) 122 = .ok (.lload 4, 2) := by decide +kernel
theorem dd_X11_odds_124 : decode (zc mm_X11_odds) 124 = .ok (.lload 6, 2) := by decide +kernel
theorem dd_X11_odds_126 : decode (zc mm_X11_odds) 126 = .ok (.invokestatic 309, 3) := by decide +kernel
theorem dd_X11_odds_129 : decode (zc mm_X11_odds) 129 = .ok (.ldiv, 1) := by decide +kernel
theorem dd_X11_odds_130 : decode (zc mm_X11_odds) 130 = .ok (.lreturn, 1) := by decide +kernel
theorem dd_X11_draw_0 : decode (zc mm_X11_draw) 0 = .ok (.aload_n 0, 1) := by decide +kernel
theorem dd_X11_draw_1 : decode (zc mm_X11_draw) 1 = .ok (.aload_n 0, 1) := by decide +kernel
theorem dd_X11_draw_2 : decode (zc mm_X11_draw) 2 = .ok (.getfield 313, 3) := by decide +kernel
theorem dd_X11_draw_5 : decode (zc mm_X11_draw) 5 = .ok (.ldc_w 316, 3) := by decide +kernel
theorem dd_X11_draw_8 : decode (zc mm_X11_draw) 8 = .ok (.imul, 1) := by decide +kernel
theorem dd_X11_draw_9 : decode (zc mm_X11_draw) 9 = .ok (.ldc_w 317, 3) := by decide +kernel
theorem dd_X11_draw_12 : decode (zc mm_X11_draw) 12 = .ok (.iadd, 1) := by decide +kernel
theorem dd_X11_draw_13 : decode (zc mm_X11_draw) 13 = .ok (.putfield 313, 3) := by decide +kernel
theorem dd_X11_draw_16 : decode (zc mm_X11_draw) 16 = .ok (.aload_n 0, 1) := by decide +kernel
theorem dd_X11_draw_17 : decode (zc mm_X11_draw) 17 = .ok (.getfield 313, 3) := by decide +kernel
theorem dd_X11_draw_20 : decode (zc mm_X11_draw) 20 = .ok (.ldc_w 318, 3) := by decide +kernel
theorem dd_X11_draw_23 : decode (zc mm_X11_draw) 23 = .ok (.iand, 1) := by decide +kernel
theorem dd_X11_draw_24 : decode (zc mm_X11_draw) 24 = .ok (.sipush 256, 3) := by decide +kernel
theorem dd_X11_draw_27 : decode (zc mm_X11_draw) 27 = .ok (.idiv, 1) := by decide +kernel
theorem dd_X11_draw_28 : decode (zc mm_X11_draw) 28 = .ok (.iload_n 1, 1) := by decide +kernel
theorem dd_X11_draw_29 : decode (zc mm_X11_draw) 29 = .ok (.irem, 1) := by decide +kernel
theorem dd_X11_draw_30 : decode (zc mm_X11_draw) 30 = .ok (.ireturn, 1) := by decide +kernel
theorem dd_X11_lots_0 : decode (zc mm_X11_lots) 0 = .ok (.aload_n 0, 1) := by decide +kernel
theorem dd_X11_lots_1 : decode (zc mm_X11_lots) 1 = .ok (.iload_n 1, 1) := by decide +kernel
theorem dd_X11_lots_2 : decode (zc mm_X11_lots) 2 = .ok (.invokevirtual 154, 3) := by decide +kernel
theorem dd_X11_lots_5 : decode (zc mm_X11_lots) 5 = .ok (.ifCond .ne 7, 3) := by decide +kernel
theorem dd_X11_lots_8 : decode (zc mm_X11_lots) 8 = .ok (.iconst (-1), 1) := by decide +kernel
theorem dd_X11_lots_9 : decode (zc mm_X11_lots) 9 = .ok (.goto 40, 3) := by decide +kernel
theorem dd_X11_lots_12 : decode (zc mm_X11_lots) 12 = .ok (.iload_n 2, 1) := by decide +kernel
theorem dd_X11_lots_13 : decode (zc mm_X11_lots) 13 = .ok (.iconst 1, 1) := by decide +kernel
theorem dd_X11_lots_14 : decode (zc mm_X11_lots) 14 = .ok (.if_icmp .ge 8, 3) := by decide +kernel
theorem dd_X11_lots_17 : decode (zc mm_X11_lots) 17 = .ok (.bipush (-4), 2) := by decide +kernel
theorem dd_X11_lots_19 : decode (zc mm_X11_lots) 19 = .ok (.goto 30, 3) := by decide +kernel
theorem dd_X11_lots_22 : decode (zc mm_X11_lots) 22 = .ok (.iload_n 2, 1) := by decide +kernel
theorem dd_X11_lots_23 : decode (zc mm_X11_lots) 23 = .ok (.bipush 50, 2) := by decide +kernel
theorem dd_X11_lots_25 : decode (zc mm_X11_lots) 25 = .ok (.if_icmp .le 8, 3) := by decide +kernel
theorem dd_X11_lots_28 : decode (zc mm_X11_lots) 28 = .ok (.bipush (-6), 2) := by decide +kernel
theorem dd_X11_lots_30 : decode (zc mm_X11_lots) 30 = .ok (.goto 19, 3) := by decide +kernel
theorem dd_X11_lots_33 : decode (zc mm_X11_lots) 33 = .ok (.iload 4, 2) := by decide +kernel
theorem dd_X11_lots_35 : decode (zc mm_X11_lots) 35 = .ok (.iconst 0, 1) := by decide +kernel
theorem dd_X11_lots_36 : decode (zc mm_X11_lots) 36 = .ok (.iconst 1, 1) := by decide +kernel
theorem dd_X11_lots_37 : decode (zc mm_X11_lots) 37 = .ok (.invokestatic 21, 3) := by decide +kernel
theorem dd_X11_lots_40 : decode (zc mm_X11_lots) 40 = .ok (.ifCond .ne 8, 3) := by decide +kernel
theorem dd_X11_lots_43 : decode (zc mm_X11_lots) 43 = .ok (.bipush (-2), 2) := by decide +kernel
theorem dd_X11_lots_45 : decode (zc mm_X11_lots) 45 = .ok (.goto 4, 3) := by decide +kernel
theorem dd_X11_lots_48 : decode (zc mm_X11_lots) 48 = .ok (.iconst 0, 1) := by decide +kernel
theorem dd_X11_lots_49 : decode (zc mm_X11_lots) 49 = .ok (.istore 5, 2) := by decide +kernel
theorem dd_X11_lots_51 : decode (zc mm_X11_lots) 51 = .ok (.iload 5, 2) := by decide +kernel
theorem dd_X11_lots_53 : decode (zc mm_X11_lots) 53 = .ok (.ifCond .eq 10, 3) := by decide +kernel
theorem dd_X11_lots_56 : decode (zc mm_X11_lots) 56 = .ok (.aload_n 0, 1) := by decide +kernel
theorem dd_X11_lots_57 : decode (zc mm_X11_lots) 57 = .ok (.iload 5, 2) := by decide +kernel
theorem dd_X11_lots_59 : decode (zc mm_X11_lots) 59 = .ok (.invokevirtual 120, 3) := by decide +kernel
theorem dd_X11_lots_62 : decode (zc mm_X11_lots) 62 = .ok (.ireturn, 1) := by decide +kernel
theorem dd_X11_lots_63 : decode (zc mm_X11_lots) 63 = .ok (.aload_n 0, 1) := by decide +kernel
theorem dd_X11_lots_64 : decode (zc mm_X11_lots) 64 = .ok (.iload_n 3, 1) := by decide +kernel
theorem dd_X11_lots_65 : decode (zc mm_X11_lots) 65 = .ok (.putfield 313, 3) := by decide +kernel
theorem dd_X11_lots_68 : decode (zc mm_X11_lots) 68 = .ok (.iconst 0, 1) := by decide +kernel
theorem dd_X11_lots_69 : decode (zc mm_X11_lots) 69 = .ok (.istore 6, 2) := by decide +kernel
theorem dd_X11_lots_71 : decode (zc mm_X11_lots) 71 = .ok (.iconst 0, 1) := by decide +kernel
theorem dd_X11_lots_72 : decode (zc mm_X11_lots) 72 = .ok (.istore 7, 2) := by decide +kernel
theorem dd_X11_lots_74 : decode (zc mm_X11_lots) 74 = .ok (.iconst 0, 1) := by decide +kernel
theorem dd_X11_lots_75 : decode (zc mm_X11_lots) 75 = .ok (.istore 8, 2) := by decide +kernel
theorem dd_X11_lots_77 : decode (zc mm_X11_lots) 77 = .ok (.iload 8, 2) := by decide +kernel
theorem dd_X11_lots_79 : decode (zc mm_X11_lots) 79 = .ok (.iload_n 2, 1) := by decide +kernel
theorem dd_X11_lots_80 : decode (zc mm_X11_lots) 80 = .ok (.if_icmp .ge 58, 3) := by decide +kernel
theorem dd_X11_lots_83 : decode (zc mm_X11_lots) 83 = .ok (.aload_n 0, 1) := by decide +kernel
theorem dd_X11_lots_84 : decode (zc mm_X11_lots) 84 = .ok (.aload_n 0, 1) := by decide +kernel
theorem dd_X11_lots_85 : decode (zc mm_X11_lots) 85 = .ok (.getfield 9, 3) := by decide +kernel
theorem dd_X11_lots_88 : decode (zc mm_X11_lots) 88 = .ok (.invokevirtual 319, 3) := by decide +kernel
theorem dd_X11_lots_91 : decode (zc mm_X11_lots) 91 = .ok (.istore 9, 2) := by decide +kernel
theorem dd_X11_lots_93 : decode (zc mm_X11_lots) 93 = .ok (.aload_n 0, 1) := by decide +kernel
theorem dd_X11_lots_94 : decode (zc mm_X11_lots) 94 = .ok (.iload_n 1, 1) := by decide +kernel
theorem dd_X11_lots_95 : decode (zc mm_X11_lots) 95 = .ok (.iload 9, 2) := by decide +kernel
theorem dd_X11_lots_97 : decode (zc mm_X11_lots) 97 = .ok (.aload_n 0, 1) := by decide +kernel
theorem dd_X11_lots_98 : decode (zc mm_X11_lots) 98 = .ok (.aload_n 0, 1) := by decide +kernel
theorem dd_X11_lots_99 : decode (zc mm_X11_lots) 99 = .ok (.getfield 9, 3) := by decide +kernel
theorem dd_X11_lots_102 : decode (zc mm_X11_lots) 102 = .ok (.invokevirtual 319, 3) := by decide +kernel
theorem dd_X11_lots_105 : decode (zc mm_X11_lots) 105 = .ok (.invokevirtual 167, 3) := by decide +kernel
theorem dd_X11_lots_108 : decode (zc mm_X11_lots) 108 = .ok (.istore 10, 2) := by decide +kernel
theorem dd_X11_lots_110 : decode (zc mm_X11_lots) 110 = .ok (.iload 6, 2) := by decide +kernel
theorem dd_X11_lots_112 : decode (zc mm_X11_lots) 112 = .ok (.iload 10, 2) := by decide +kernel
theorem dd_X11_lots_114 : decode (zc mm_X11_lots) 114 = .ok (.ifCond .ne 7, 3) := by decide +kernel
theorem dd_X11_lots_117 : decode (zc mm_X11_lots) 117 = .ok (.iconst 1, 1) := by decide +kernel
theorem dd_X11_lots_118 : decode (zc mm_X11_lots) 118 = .ok (.goto 4, 3) := by decide +kernel
theorem dd_X11_lots_121 : decode (zc mm_X11_lots) 121 = .ok (.iconst 0, 1) := by decide +kernel
theorem dd_X11_lots_122 : decode (zc mm_X11_lots) 122 = .ok (.iadd, 1) := by decide +kernel
theorem dd_X11_lots_123 : decode (zc mm_X11_lots) 123 = .ok (.istore 6, 2) := by decide +kernel
theorem dd_X11_lots_125 : decode (zc mm_X11_lots) 125 = .ok (.iload 7, 2) := by decide +kernel
theorem dd_X11_lots_127 : decode (zc mm_X11_lots) 127 = .ok (.iload 10, 2) := by decide +kernel
theorem dd_X11_lots_129 : decode (zc mm_X11_lots) 129 = .ok (.iadd, 1) := by decide +kernel
theorem dd_X11_lots_130 : decode (zc mm_X11_lots) 130 = .ok (.istore 7, 2) := by decide +kernel
theorem dd_X11_lots_132 : decode (zc mm_X11_lots) 132 = .ok (.iinc 8 1, 3) := by decide +kernel
theorem dd_X11_lots_135 : decode (zc mm_X11_lots) 135 = .ok (.goto (-58), 3) := by decide +kernel
theorem dd_X11_lots_138 : decode (zc mm_X11_lots) 138 = .ok (.iload 4, 2) := by decide +kernel
theorem dd_X11_lots_140 : decode (zc mm_X11_lots) 140 = .ok (.ifCond .ne 8, 3) := by decide +kernel
theorem dd_X11_lots_143 : decode (zc mm_X11_lots) 143 = .ok (.iload 6, 2) := by decide +kernel
theorem dd_X11_lots_145 : decode (zc mm_X11_lots) 145 = .ok (.goto 5, 3) := by decide +kernel
theorem dd_X11_lots_148 : decode (zc mm_X11_lots) 148 = .ok (.iload 7, 2) := by decide +kernel
theorem dd_X11_lots_150 : decode (zc mm_X11_lots) 150 = .ok (.ireturn, 1) := by decide +kernel
theorem dd_X11_isList_0 : decode (zc mm_X11_isList) 0 = .ok (.iload_n 0, 1) := by decide +kernel
theorem dd_X11_isList_1 : decode (zc mm_X11_isList) 1 = .ok (.iconst 0, 1) := by decide +kernel
theorem dd_X11_isList_2 : decode (zc mm_X11_isList) 2 = .ok (.iconst 2, 1) := by decide +kernel
theorem dd_X11_isList_3 : decode (zc mm_X11_isList) 3 = .ok (.invokestatic 21, 3) := by decide +kernel
theorem dd_X11_isList_6 : decode (zc mm_X11_isList) 6 = .ok (.ireturn, 1) := by decide +kernel
theorem dd_X11_list_0 : decode (zc mm_X11_list) 0 = .ok (.iload_n 1, 1) := by decide +kernel
theorem dd_X11_list_1 : decode (zc mm_X11_list) 1 = .ok (.invokestatic 322, 3) := by decide +kernel
theorem dd_X11_list_4 : decode (zc mm_X11_list) 4 = .ok (.ifCond .ne 9, 3) := by decide +kernel
theorem dd_X11_list_7 : decode (zc mm_X11_list) 7 = .ok (.aload_n 0, 1) := by decide +kernel
theorem dd_X11_list_8 : decode (zc mm_X11_list) 8 = .ok (.iconst (-1), 1) := by decide +kernel
theorem dd_X11_list_9 : decode (zc mm_X11_list) 9 = .ok (.invokevirtual 120, 3) := by decide +kernel
theorem dd_X11_list_12 : decode (zc mm_X11_list) 12 = .ok (.ireturn, 1) := by decide +kernel
theorem dd_X11_list_13 : decode (zc mm_X11_list) 13 = .ok (.iload_n 2, 1) := by decide +kernel
theorem dd_X11_list_14 : decode (zc mm_X11_list) 14 = .ok (.bipush 40, 2) := by decide +kernel
theorem dd_X11_list_16 : decode (zc mm_X11_list) 16 = .ok (.if_icmp .le 10, 3) := by decide +kernel
theorem dd_X11_list_19 : decode (zc mm_X11_list) 19 = .ok (.aload_n 0, 1) := by decide +kernel
theorem dd_X11_list_20 : decode (zc mm_X11_list) 20 = .ok (.bipush (-6), 2) := by decide +kernel
theorem dd_X11_list_22 : decode (zc mm_X11_list) 22 = .ok (.invokevirtual 120, 3) := by decide +kernel
theorem dd_X11_list_25 : decode (zc mm_X11_list) 25 = .ok (.ireturn, 1) := by decide +kernel
theorem dd_X11_list_26 : decode (zc mm_X11_list) 26 = .ok (.iload_n 2, 1) := by decide +kernel
theorem dd_X11_list_27 : decode (zc mm_X11_list) 27 = .ok (.ifCond .ge 6, 3) := by decide +kernel
theorem dd_X11_list_30 : decode (zc mm_X11_list) 30 = .ok (.bipush (-14), 2) := by decide +kernel
theorem dd_X11_list_32 : decode (zc mm_X11_list) 32 = .ok (.ireturn, 1) := by decide +kernel
theorem dd_X11_list_33 : decode (zc mm_X11_list) 33 = .ok (.aload_n 0, 1) := by decide +kernel
theorem dd_X11_list_34 : decode (zc mm_X11_list) 34 = .ok (.getfield 83, 3) := by decide +kernel
theorem dd_X11_list_37 : decode (zc mm_X11_list) 37 = .ok (.iload_n 1, 1) := by decide +kernel
theorem dd_X11_list_38 : decode (zc mm_X11_list) 38 = .ok (.iload_n 2, 1) := by decide +kernel
theorem dd_X11_list_39 : decode (zc mm_X11_list) 39 = .ok (.iastore, 1) := by decide +kernel
theorem dd_X11_list_40 : decode (zc mm_X11_list) 40 = .ok (.iconst 0, 1) := by decide +kernel
theorem dd_X11_list_41 : decode (zc mm_X11_list) 41 = .ok (.istore_n 3, 1) := by decide +kernel
theorem dd_X11_list_42 : decode (zc mm_X11_list) 42 = .ok (.iload_n 3, 1) := by decide +kernel
theorem dd_X11_list_43 : decode (zc mm_X11_list) 43 = .ok (.bipush 40, 2) := by decide +kernel
theorem dd_X11_list_45 : decode (zc mm_X11_list) 45 = .ok (.if_icmp .ge 21, 3) := by decide +kernel
theorem dd_X11_list_48 : decode (zc mm_X11_list) 48 = .ok (.aload_n 0, 1) := by decide +kernel
theorem dd_X11_list_49 : decode (zc mm_X11_list) 49 = .ok (.getfield 86, 3) := by decide +kernel
theorem dd_X11_list_52 : decode (zc mm_X11_list) 52 = .ok (.bipush 40, 2) := by decide +kernel
theorem dd_X11_list_54 : decode (zc mm_X11_list) 54 = .ok (.iload_n 1, 1) := by decide +kernel
theorem dd_X11_list_55 : decode (zc mm_X11_list) 55 = .ok (.imul, 1) := by decide +kernel
theorem dd_X11_list_56 : decode (zc mm_X11_list) 56 = .ok (.iload_n 3, 1) := by decide +kernel
theorem dd_X11_list_57 : decode (zc mm_X11_list) 57 = .ok (.iadd, 1) := by decide +kernel
theorem dd_X11_list_58 : decode (zc mm_X11_list) 58 = .ok (.iconst 0, 1) := by decide +kernel
theorem dd_X11_list_59 : decode (zc mm_X11_list) 59 = .ok (.iastore, 1) := by decide +kernel
theorem dd_X11_list_60 : decode (zc mm_X11_list) 60 = .ok (.iinc 3 1, 3) := by decide +kernel
theorem dd_X11_list_63 : decode (zc mm_X11_list) 63 = .ok (.goto (-21), 3) := by decide +kernel
theorem dd_X11_list_66 : decode (zc mm_X11_list) 66 = .ok (.iconst 1, 1) := by decide +kernel
theorem dd_X11_list_67 : decode (zc mm_X11_list) 67 = .ok (.ireturn, 1) := by decide +kernel
theorem dd_X11_notPlace_0 : decode (zc mm_X11_notPlace) 0 = .ok (.aload_n 0, 1) := by decide +kernel
theorem dd_X11_notPlace_1 : decode (zc mm_X11_notPlace) 1 = .ok (.getfield 83, 3) := by decide +kernel
theorem dd_X11_notPlace_4 : decode (zc mm_X11_notPlace) 4 = .ok (.iload_n 1, 1) := by decide +kernel
theorem dd_X11_notPlace_5 : decode (zc mm_X11_notPlace) 5 = .ok (.iaload, 1) := by decide +kernel
theorem dd_X11_notPlace_6 : decode (zc mm_X11_notPlace) 6 = .ok (.ifCond .ge 8, 3) := by decide +kernel
theorem dd_X11_notPlace_9 : decode (zc mm_X11_notPlace) 9 = .ok (.bipush (-11), 2) := by decide +kernel
theorem dd_X11_notPlace_11 : decode (zc mm_X11_notPlace) 11 = .ok (.goto 25, 3) := by decide +kernel
theorem dd_X11_notPlace_14 : decode (zc mm_X11_notPlace) 14 = .ok (.iload_n 2, 1) := by decide +kernel
theorem dd_X11_notPlace_15 : decode (zc mm_X11_notPlace) 15 = .ok (.iconst 0, 1) := by decide +kernel
theorem dd_X11_notPlace_16 : decode (zc mm_X11_notPlace) 16 = .ok (.aload_n 0, 1) := by decide +kernel
theorem dd_X11_notPlace_17 : decode (zc mm_X11_notPlace) 17 = .ok (.getfield 83, 3) := by decide +kernel
theorem dd_X11_notPlace_20 : decode (zc mm_X11_notPlace) 20 = .ok (.iload_n 1, 1) := by decide +kernel
theorem dd_X11_notPlace_21 : decode (zc mm_X11_notPlace) 21 = .ok (.iaload, 1) := by decide +kernel
theorem dd_X11_notPlace_22 : decode (zc mm_X11_notPlace) 22 = .ok (.iconst 1, 1) := by decide +kernel
theorem dd_X11_notPlace_23 : decode (zc mm_X11_notPlace) 23 = .ok (.isub, 1) := by decide +kernel
theorem dd_X11_notPlace_24 : decode (zc mm_X11_notPlace) 24 = .ok (.invokestatic 21, 3) := by decide +kernel
theorem dd_X11_notPlace_27 : decode (zc mm_X11_notPlace) 27 = .ok (.ifCond .ne 8, 3) := by decide +kernel
theorem dd_X11_notPlace_30 : decode (zc mm_X11_notPlace) 30 = .ok (.bipush (-13), 2) := by decide +kernel
theorem dd_X11_notPlace_32 : decode (zc mm_X11_notPlace) 32 = .ok (.goto 4, 3) := by decide +kernel
theorem dd_X11_notPlace_35 : decode (zc mm_X11_notPlace) 35 = .ok (.iconst 0, 1) := by decide +kernel
theorem dd_X11_notPlace_36 : decode (zc mm_X11_notPlace) 36 = .ok (.ireturn, 1) := by decide +kernel
theorem dd_X11_put_0 : decode (zc mm_X11_put) 0 = .ok (.iload_n 1, 1) := by decide +kernel
theorem dd_X11_put_1 : decode (zc mm_X11_put) 1 = .ok (.invokestatic 322, 3) := by decide +kernel
theorem dd_X11_put_4 : decode (zc mm_X11_put) 4 = .ok (.ifCond .ne 9, 3) := by decide +kernel
theorem dd_X11_put_7 : decode (zc mm_X11_put) 7 = .ok (.aload_n 0, 1) := by decide +kernel
theorem dd_X11_put_8 : decode (zc mm_X11_put) 8 = .ok (.iconst (-1), 1) := by decide +kernel
theorem dd_X11_put_9 : decode (zc mm_X11_put) 9 = .ok (.invokevirtual 120, 3) := by decide +kernel
theorem dd_X11_put_12 : decode (zc mm_X11_put) 12 = .ok (.ireturn, 1) := by decide +kernel
theorem dd_X11_put_13 : decode (zc mm_X11_put) 13 = .ok (.aload_n 0, 1) := by decide +kernel
theorem dd_X11_put_14 : decode (zc mm_X11_put) 14 = .ok (.iload_n 1, 1) := by decide +kernel
theorem dd_X11_put_15 : decode (zc mm_X11_put) 15 = .ok (.iload_n 2, 1) := by decide +kernel
theorem dd_X11_put_16 : decode (zc mm_X11_put) 16 = .ok (.invokevirtual 325, 3) := by decide +kernel
theorem dd_X11_put_19 : decode (zc mm_X11_put) 19 = .ok (.istore 4, 2) := by decide +kernel
theorem dd_X11_put_21 : decode (zc mm_X11_put) 21 = .ok (.iload 4, 2) := by decide +kernel
theorem dd_X11_put_23 : decode (zc mm_X11_put) 23 = .ok (.ifCond .eq 6, 3) := by decide +kernel
theorem dd_X11_put_26 : decode (zc mm_X11_put) 26 = .ok (.iload 4, 2) := by decide +kernel
theorem dd_X11_put_28 : decode (zc mm_X11_put) 28 = .ok (.ireturn, 1) := by decide +kernel
theorem dd_X11_put_29 : decode (zc mm_X11_put) 29 = .ok (.aload_n 0, 1) := by decide +kernel
theorem dd_X11_put_30 : decode (zc mm_X11_put) 30 = .ok (.getfield 86, 3) := by decide +kernel
theorem dd_X11_put_33 : decode (zc mm_X11_put) 33 = .ok (.bipush 40, 2) := by decide +kernel
theorem dd_X11_put_35 : decode (zc mm_X11_put) 35 = .ok (.iload_n 1, 1) := by decide +kernel
theorem dd_X11_put_36 : decode (zc mm_X11_put) 36 = .ok (.imul, 1) := by decide +kernel
theorem dd_X11_put_37 : decode (zc mm_X11_put) 37 = .ok (.iload_n 2, 1) := by decide +kernel
theorem dd_X11_put_38 : decode (zc mm_X11_put) 38 = .ok (.iadd, 1) := by decide +kernel
theorem dd_X11_put_39 : decode (zc mm_X11_put) 39 = .ok (.iload_n 3, 1) := by decide +kernel
theorem dd_X11_put_40 : decode (zc mm_X11_put) 40 = .ok (.iastore, 1) := by decide +kernel
theorem dd_X11_put_41 : decode (zc mm_X11_put) 41 = .ok (.iconst 1, 1) := by decide +kernel
theorem dd_X11_put_42 : decode (zc mm_X11_put) 42 = .ok (.ireturn, 1) := by decide +kernel
theorem dd_X11_look_0 : decode (zc mm_X11_look) 0 = .ok (.iload_n 1, 1) := by decide +kernel
theorem dd_X11_look_1 : decode (zc mm_X11_look) 1 = .ok (.invokestatic 322, 3) := by decide +kernel
theorem dd_X11_look_4 : decode (zc mm_X11_look) 4 = .ok (.ifCond .ne 9, 3) := by decide +kernel
theorem dd_X11_look_7 : decode (zc mm_X11_look) 7 = .ok (.aload_n 0, 1) := by decide +kernel
theorem dd_X11_look_8 : decode (zc mm_X11_look) 8 = .ok (.iconst (-1), 1) := by decide +kernel
theorem dd_X11_look_9 : decode (zc mm_X11_look) 9 = .ok (.invokevirtual 305, 3) := by decide +kernel
theorem dd_X11_look_12 : decode (zc mm_X11_look) 12 = .ok (.lreturn, 1) := by decide +kernel
theorem dd_X11_look_13 : decode (zc mm_X11_look) 13 = .ok (.aload_n 0, 1) := by decide +kernel
theorem dd_X11_look_14 : decode (zc mm_X11_look) 14 = .ok (.iload_n 1, 1) := by decide +kernel
theorem dd_X11_look_15 : decode (zc mm_X11_look) 15 = .ok (.iload_n 2, 1) := by decide +kernel
theorem dd_X11_look_16 : decode (zc mm_X11_look) 16 = .ok (.invokevirtual 325, 3) := by decide +kernel
theorem dd_X11_look_19 : decode (zc mm_X11_look) 19 = .ok (.istore_n 3, 1) := by decide +kernel
theorem dd_X11_look_20 : decode (zc mm_X11_look) 20 = .ok (.iload_n 3, 1) := by decide +kernel
theorem dd_X11_look_21 : decode (zc mm_X11_look) 21 = .ok (.ifCond .eq 12, 3) := by decide +kernel
theorem dd_X11_look_24 : decode (zc mm_X11_look) 24 = .ok (.ldc2_w 7, 3) := by decide +kernel
theorem dd_X11_look_27 : decode (zc mm_X11_look) 27 = .ok (.iload_n 3, 1) := by decide +kernel
theorem dd_X11_look_28 : decode (zc mm_X11_look) 28 = .ok (.i2l, 1) := by decide +kernel
theorem dd_X11_look_29 : decode (zc mm_X11_look) 29 = .ok (.lsub, 1) := by decide +kernel
theorem dd_X11_look_30 : decode (zc mm_X11_look) 30 = .ok (.goto 15, 3) := by decide +kernel
theorem dd_X11_look_33 : decode (zc mm_X11_look) 33 = .ok (.aload_n 0, 1) := by decide +kernel
theorem dd_X11_look_34 : decode (zc mm_X11_look) 34 = .ok (.getfield 86, 3) := by decide +kernel
theorem dd_X11_look_37 : decode (zc mm_X11_look) 37 = .ok (.bipush 40, 2) := by decide +kernel
theorem dd_X11_look_39 : decode (zc mm_X11_look) 39 = .ok (.iload_n 1, 1) := by decide +kernel
theorem dd_X11_look_40 : decode (zc mm_X11_look) 40 = .ok (.imul, 1) := by decide +kernel
theorem dd_X11_look_41 : decode (zc mm_X11_look) 41 = .ok (.iload_n 2, 1) := by decide +kernel
theorem dd_X11_look_42 : decode (zc mm_X11_look) 42 = .ok (.iadd, 1) := by decide +kernel
theorem dd_X11_look_43 : decode (zc mm_X11_look) 43 = .ok (.iaload, 1) := by decide +kernel
theorem dd_X11_look_44 : decode (zc mm_X11_look) 44 = .ok (.i2l, 1) := by decide +kernel
theorem dd_X11_look_45 : decode (zc mm_X11_look) 45 = .ok (.lreturn, 1) := by decide +kernel
theorem dd_X11_notListed_0 : decode (zc mm_X11_notListed) 0 = .ok (.iload_n 1, 1) := by decide +kernel
theorem dd_X11_notListed_1 : decode (zc mm_X11_notListed) 1 = .ok (.invokestatic 322, 3) := by decide +kernel
theorem dd_X11_notListed_4 : decode (zc mm_X11_notListed) 4 = .ok (.ifCond .ne 7, 3) := by decide +kernel
theorem dd_X11_notListed_7 : decode (zc mm_X11_notListed) 7 = .ok (.iconst (-1), 1) := by decide +kernel
theorem dd_X11_notListed_8 : decode (zc mm_X11_notListed) 8 = .ok (.goto 13, 3) := by decide +kernel
theorem dd_X11_notListed_11 : decode (zc mm_X11_notListed) 11 = .ok (.aload_n 0, 1) := by decide +kernel
theorem dd_X11_notListed_12 : decode (zc mm_X11_notListed) 12 = .ok (.iload_n 2, 1) := by decide +kernel
theorem dd_X11_notListed_13 : decode (zc mm_X11_notListed) 13 = .ok (.iload_n 3, 1) := by decide +kernel
theorem dd_X11_notListed_14 : decode (zc mm_X11_notListed) 14 = .ok (.iload 4, 2) := by decide +kernel
theorem dd_X11_notListed_16 : decode (zc mm_X11_notListed) 16 = .ok (.iload 5, 2) := by decide +kernel
theorem dd_X11_notListed_18 : decode (zc mm_X11_notListed) 18 = .ok (.invokevirtual 176, 3) := by decide +kernel
theorem dd_X11_notListed_21 : decode (zc mm_X11_notListed) 21 = .ok (.ireturn, 1) := by decide +kernel
theorem dd_X11_lays_0 : decode (zc mm_X11_lays) 0 = .ok (.aload_n 0, 1) := by decide +kernel
theorem dd_X11_lays_1 : decode (zc mm_X11_lays) 1 = .ok (.iload_n 1, 1) := by decide +kernel
theorem dd_X11_lays_2 : decode (zc mm_X11_lays) 2 = .ok (.iload_n 3, 1) := by decide +kernel
theorem dd_X11_lays_3 : decode (zc mm_X11_lays) 3 = .ok (.iload 4, 2) := by decide +kernel
theorem dd_X11_lays_5 : decode (zc mm_X11_lays) 5 = .ok (.iload 5, 2) := by decide +kernel
theorem dd_X11_lays_7 : decode (zc mm_X11_lays) 7 = .ok (.iload 6, 2) := by decide +kernel
theorem dd_X11_lays_9 : decode (zc mm_X11_lays) 9 = .ok (.invokevirtual 328, 3) := by decide +kernel
theorem dd_X11_lays_12 : decode (zc mm_X11_lays) 12 = .ok (.istore 7, 2) := by decide +kernel
theorem dd_X11_lays_14 : decode (zc mm_X11_lays) 14 = .ok (.iload 7, 2) := by decide +kernel
theorem dd_X11_lays_16 : decode (zc mm_X11_lays) 16 = .ok (.ifCond .eq 10, 3) := by decide +kernel
theorem dd_X11_lays_19 : decode (zc mm_X11_lays) 19 = .ok (.aload_n 0, 1) := by decide +kernel
theorem dd_X11_lays_20 : decode (zc mm_X11_lays) 20 = .ok (.iload 7, 2) := by decide +kernel
theorem dd_X11_lays_22 : decode (zc mm_X11_lays) 22 = .ok (.invokevirtual 120, 3) := by decide +kernel
theorem dd_X11_lays_25 : decode (zc mm_X11_lays) 25 = .ok (.ireturn, 1) := by decide +kernel
theorem dd_X11_lays_26 : decode (zc mm_X11_lays) 26 = .ok (.aload_n 0, 1) := by decide +kernel
theorem dd_X11_lays_27 : decode (zc mm_X11_lays) 27 = .ok (.iload_n 1, 1) := by decide +kernel
theorem dd_X11_lays_28 : decode (zc mm_X11_lays) 28 = .ok (.iload_n 2, 1) := by decide +kernel
theorem dd_X11_lays_29 : decode (zc mm_X11_lays) 29 = .ok (.invokevirtual 325, 3) := by decide +kernel
theorem dd_X11_lays_32 : decode (zc mm_X11_lays) 32 = .ok (.istore 7, 2) := by decide +kernel
theorem dd_X11_lays_34 : decode (zc mm_X11_lays) 34 = .ok (.iload 7, 2) := by decide +kernel
theorem dd_X11_lays_36 : decode (zc mm_X11_lays) 36 = .ok (.ifCond .eq 6, 3) := by decide +kernel
theorem dd_X11_lays_39 : decode (zc mm_X11_lays) 39 = .ok (.iload 7, 2) := by decide +kernel
theorem dd_X11_lays_41 : decode (zc mm_X11_lays) 41 = .ok (.ireturn, 1) := by decide +kernel
theorem dd_X11_lays_42 : decode (zc mm_X11_lays) 42 = .ok (.aload_n 0, 1) := by decide +kernel
theorem dd_X11_lays_43 : decode (zc mm_X11_lays) 43 = .ok (.iload_n 3, 1) := by decide +kernel
theorem dd_X11_lays_44 : decode (zc mm_X11_lays) 44 = .ok (.iload 4, 2) := by decide +kernel
theorem dd_X11_lays_46 : decode (zc mm_X11_lays) 46 = .ok (.iload 5, 2) := by decide +kernel
theorem dd_X11_lays_48 : decode (zc mm_X11_lays) 48 = .ok (.iload 6, 2) := by decide +kernel
theorem dd_X11_lays_50 : decode (zc mm_X11_lays) 50 = .ok (.invokevirtual 224, 3) := by decide +kernel
theorem dd_X11_lays_53 : decode (zc mm_X11_lays) 53 = .ok (.aload_n 0, 1) := by decide +kernel
theorem dd_X11_lays_54 : decode (zc mm_X11_lays) 54 = .ok (.getfield 83, 3) := by decide +kernel
theorem dd_X11_lays_57 : decode (zc mm_X11_lays) 57 = .ok (.iload_n 1, 1) := by decide +kernel
theorem dd_X11_lays_58 : decode (zc mm_X11_lays) 58 = .ok (.iaload, 1) := by decide +kernel
theorem dd_X11_lays_59 : decode (zc mm_X11_lays) 59 = .ok (.iload_n 2, 1) := by decide +kernel
theorem dd_X11_lays_60 : decode (zc mm_X11_lays) 60 = .ok (.isub, 1) := by decide +kernel
theorem dd_X11_lays_61 : decode (zc mm_X11_lays) 61 = .ok (.istore 8, 2) := by decide +kernel
theorem dd_X11_lays_63 : decode (zc mm_X11_lays) 63 = .ok (.iconst 0, 1) := by decide +kernel
theorem dd_X11_lays_64 : decode (zc mm_X11_lays) 64 = .ok (.istore 9, 2) := by decide +kernel
theorem dd_X11_lays_66 : decode (zc mm_X11_lays) 66 = .ok (.iload 9, 2) := by decide +kernel
theorem dd_X11_lays_68 : decode (zc mm_X11_lays) 68 = .ok (.iload 8, 2) := by decide +kernel
theorem dd_X11_lays_70 : decode (zc mm_X11_lays) 70 = .ok (.if_icmp .ge 30, 3) := by decide +kernel
theorem dd_X11_lays_73 : decode (zc mm_X11_lays) 73 = .ok (.aload_n 0, 1) := by decide +kernel
theorem dd_X11_lays_74 : decode (zc mm_X11_lays) 74 = .ok (.getfield 86, 3) := by decide +kernel
theorem dd_X11_lays_77 : decode (zc mm_X11_lays) 77 = .ok (.bipush 40, 2) := by decide +kernel
theorem dd_X11_lays_79 : decode (zc mm_X11_lays) 79 = .ok (.iload_n 1, 1) := by decide +kernel
theorem dd_X11_lays_80 : decode (zc mm_X11_lays) 80 = .ok (.imul, 1) := by decide +kernel
theorem dd_X11_lays_81 : decode (zc mm_X11_lays) 81 = .ok (.iload_n 2, 1) := by decide +kernel
theorem dd_X11_lays_82 : decode (zc mm_X11_lays) 82 = .ok (.iadd, 1) := by decide +kernel
theorem dd_X11_lays_83 : decode (zc mm_X11_lays) 83 = .ok (.iload 9, 2) := by decide +kernel
theorem dd_X11_lays_85 : decode (zc mm_X11_lays) 85 = .ok (.iadd, 1) := by decide +kernel
theorem dd_X11_lays_86 : decode (zc mm_X11_lays) 86 = .ok (.aload_n 0, 1) := by decide +kernel
theorem dd_X11_lays_87 : decode (zc mm_X11_lays) 87 = .ok (.getfield 64, 3) := by decide +kernel
theorem dd_X11_lays_90 : decode (zc mm_X11_lays) 90 = .ok (.iload 9, 2) := by decide +kernel
theorem dd_X11_lays_92 : decode (zc mm_X11_lays) 92 = .ok (.iaload, 1) := by decide +kernel
theorem dd_X11_lays_93 : decode (zc mm_X11_lays) 93 = .ok (.iastore, 1) := by decide +kernel
theorem dd_X11_lays_94 : decode (zc mm_X11_lays) 94 = .ok (.iinc 9 1, 3) := by decide +kernel
theorem dd_X11_lays_97 : decode (zc mm_X11_lays) 97 = .ok (.goto (-31), 3) := by decide +kernel
theorem dd_X11_lays_100 : decode (zc mm_X11_lays) 100 = .ok (.iload 8, 2) := by decide +kernel
theorem dd_X11_lays_102 : decode (zc mm_X11_lays) 102 = .ok (.ireturn, 1) := by decide +kernel
theorem dd_X11_judge_0 : decode (zc mm_X11_judge) 0 = .ok (.aload_n 0, 1) := by decide +kernel
theorem dd_X11_judge_1 : decode (zc mm_X11_judge) 1 = .ok (.iload_n 1, 1) := by decide +kernel
theorem dd_X11_judge_2 : decode (zc mm_X11_judge) 2 = .ok (.iload_n 2, 1) := by decide +kernel
theorem dd_X11_judge_3 : decode (zc mm_X11_judge) 3 = .ok (.iload_n 3, 1) := by decide +kernel
theorem dd_X11_judge_4 : decode (zc mm_X11_judge) 4 = .ok (.iload 4, 2) := by decide +kernel
theorem dd_X11_judge_6 : decode (zc mm_X11_judge) 6 = .ok (.iload 5, 2) := by decide +kernel
theorem dd_X11_judge_8 : decode (zc mm_X11_judge) 8 = .ok (.invokevirtual 328, 3) := by decide +kernel
theorem dd_X11_judge_11 : decode (zc mm_X11_judge) 11 = .ok (.istore 6, 2) := by decide +kernel
theorem dd_X11_judge_13 : decode (zc mm_X11_judge) 13 = .ok (.iload 6, 2) := by decide +kernel
theorem dd_X11_judge_15 : decode (zc mm_X11_judge) 15 = .ok (.ifCond .eq 10, 3) := by decide +kernel
theorem dd_X11_judge_18 : decode (zc mm_X11_judge) 18 = .ok (.aload_n 0, 1) := by decide +kernel
theorem dd_X11_judge_19 : decode (zc mm_X11_judge) 19 = .ok (.iload 6, 2) := by decide +kernel
theorem dd_X11_judge_21 : decode (zc mm_X11_judge) 21 = .ok (.invokevirtual 120, 3) := by decide +kernel
theorem dd_X11_judge_24 : decode (zc mm_X11_judge) 24 = .ok (.ireturn, 1) := by decide +kernel
theorem dd_X11_judge_25 : decode (zc mm_X11_judge) 25 = .ok (.aload_n 0, 1) := by decide +kernel
theorem dd_X11_judge_26 : decode (zc mm_X11_judge) 26 = .ok (.getfield 83, 3) := by decide +kernel
theorem dd_X11_judge_29 : decode (zc mm_X11_judge) 29 = .ok (.iload_n 1, 1) := by decide +kernel
theorem dd_X11_judge_30 : decode (zc mm_X11_judge) 30 = .ok (.iaload, 1) := by decide +kernel
theorem dd_X11_judge_31 : decode (zc mm_X11_judge) 31 = .ok (.ifCond .ge 6, 3) := by decide +kernel
theorem dd_X11_judge_34 : decode (zc mm_X11_judge) 34 = .ok (.bipush (-11), 2) := by decide +kernel
theorem dd_X11_judge_36 : decode (zc mm_X11_judge) 36 = .ok (.ireturn, 1) := by decide +kernel
theorem dd_X11_judge_37 : decode (zc mm_X11_judge) 37 = .ok (.aload_n 0, 1) := by decide +kernel
theorem dd_X11_judge_38 : decode (zc mm_X11_judge) 38 = .ok (.iload_n 2, 1) := by decide +kernel
theorem dd_X11_judge_39 : decode (zc mm_X11_judge) 39 = .ok (.iload_n 3, 1) := by decide +kernel
theorem dd_X11_judge_40 : decode (zc mm_X11_judge) 40 = .ok (.iload 4, 2) := by decide +kernel
theorem dd_X11_judge_42 : decode (zc mm_X11_judge) 42 = .ok (.iload 5, 2) := by decide +kernel
theorem dd_X11_judge_44 : decode (zc mm_X11_judge) 44 = .ok (.invokevirtual 224, 3) := by decide +kernel
theorem dd_X11_judge_47 : decode (zc mm_X11_judge) 47 = .ok (.iconst 0, 1) := by decide +kernel
theorem dd_X11_judge_48 : decode (zc mm_X11_judge) 48 = .ok (.istore 7, 2) := by decide +kernel
theorem dd_X11_judge_50 : decode (zc mm_X11_judge) 50 = .ok (.iload 7, 2) := by decide +kernel
theorem dd_X11_judge_52 : decode (zc mm_X11_judge) 52 = .ok (.bipush 41, 2) := by decide +kernel
theorem dd_X11_judge_54 : decode (zc mm_X11_judge) 54 = .ok (.if_icmp .ge 57, 3) := by decide +kernel
theorem dd_X11_judge_57 : decode (zc mm_X11_judge) 57 = .ok (.iload 7, 2) := by decide +kernel
theorem dd_X11_judge_59 : decode (zc mm_X11_judge) 59 = .ok (.aload_n 0, 1) := by decide +kernel
theorem dd_X11_judge_60 : decode (zc mm_X11_judge) 60 = .ok (.getfield 83, 3) := by decide +kernel
theorem dd_X11_judge_63 : decode (zc mm_X11_judge) 63 = .ok (.iload_n 1, 1) := by decide +kernel
theorem dd_X11_judge_64 : decode (zc mm_X11_judge) 64 = .ok (.iaload, 1) := by decide +kernel
theorem dd_X11_judge_65 : decode (zc mm_X11_judge) 65 = .ok (.if_icmp .ge 22, 3) := by decide +kernel
theorem dd_X11_judge_68 : decode (zc mm_X11_judge) 68 = .ok (.aload_n 0, 1) := by decide +kernel
theorem dd_X11_judge_69 : decode (zc mm_X11_judge) 69 = .ok (.aload_n 0, 1) := by decide +kernel
theorem dd_X11_judge_70 : decode (zc mm_X11_judge) 70 = .ok (.getfield 86, 3) := by decide +kernel
theorem dd_X11_judge_73 : decode (zc mm_X11_judge) 73 = .ok (.bipush 40, 2) := by decide +kernel
theorem dd_X11_judge_75 : decode (zc mm_X11_judge) 75 = .ok (.iload_n 1, 1) := by decide +kernel
theorem dd_X11_judge_76 : decode (zc mm_X11_judge) 76 = .ok (.imul, 1) := by decide +kernel
theorem dd_X11_judge_77 : decode (zc mm_X11_judge) 77 = .ok (.iload 7, 2) := by decide +kernel
theorem dd_X11_judge_79 : decode (zc mm_X11_judge) 79 = .ok (.iadd, 1) := by decide +kernel
theorem dd_X11_judge_80 : decode (zc mm_X11_judge) 80 = .ok (.iaload, 1) := by decide +kernel
theorem dd_X11_judge_81 : decode (zc mm_X11_judge) 81 = .ok (.invokevirtual 13, 3) := by decide +kernel
theorem dd_X11_judge_84 : decode (zc mm_X11_judge) 84 = .ok (.goto 4, 3) := by decide +kernel
theorem dd_X11_judge_87 : decode (zc mm_X11_judge) 87 = .ok (.iconst 0, 1) := by decide +kernel
theorem dd_X11_judge_88 : decode (zc mm_X11_judge) 88 = .ok (.istore 8, 2) := by decide +kernel
theorem dd_X11_judge_90 : decode (zc mm_X11_judge) 90 = .ok (.iload 8, 2) := by decide +kernel
theorem dd_X11_judge_92 : decode (zc mm_X11_judge) 92 = .ok (.aload_n 0, 1) := by decide +kernel
theorem dd_X11_judge_93 : decode (zc mm_X11_judge) 93 = .ok (.getfield 64, 3) := by decide +kernel
theorem dd_X11_judge_96 : decode (zc mm_X11_judge) 96 = .ok (.iload 7, 2) := by decide +kernel
theorem dd_X11_judge_98 : decode (zc mm_X11_judge) 98 = .ok (.iaload, 1) := by decide +kernel
theorem dd_X11_judge_99 : decode (zc mm_X11_judge) 99 = .ok (.if_icmp .eq 6, 3) := by decide +kernel
theorem dd_X11_judge_102 : decode (zc mm_X11_judge) 102 = .ok (.iload 7, 2) := by decide +kernel
theorem dd_X11_judge_104 : decode (zc mm_X11_judge) 104 = .ok (.ireturn, 1) := by decide +kernel
theorem dd_X11_judge_105 : decode (zc mm_X11_judge) 105 = .ok (.iinc 7 1, 3) := by decide +kernel
theorem dd_X11_judge_108 : decode (zc mm_X11_judge) 108 = .ok (.goto (-58), 3) := by decide +kernel
theorem dd_X11_judge_111 : decode (zc mm_X11_judge) 111 = .ok (.bipush (-9), 2) := by decide +kernel
theorem dd_X11_judge_113 : decode (zc mm_X11_judge) 113 = .ok (.ireturn, 1) := by decide +kernel
theorem dd_X11_passOne_0 : decode (zc mm_X11_passOne) 0 = .ok (.aload_n 0, 1) := by decide +kernel
theorem dd_X11_passOne_1 : decode (zc mm_X11_passOne) 1 = .ok (.getfield 332, 3) := by decide +kernel
theorem dd_X11_passOne_4 : decode (zc mm_X11_passOne) 4 = .ok (.ifCond .eq 7, 3) := by decide +kernel
theorem dd_X11_passOne_7 : decode (zc mm_X11_passOne) 7 = .ok (.iload_n 1, 1) := by decide +kernel
theorem dd_X11_passOne_8 : decode (zc mm_X11_passOne) 8 = .ok (.goto 12, 3) := by decide +kernel
theorem dd_X11_passOne_11 : decode (zc mm_X11_passOne) 11 = .ok (.aload_n 0, 1) := by decide +kernel
theorem dd_X11_passOne_12 : decode (zc mm_X11_passOne) 12 = .ok (.getfield 89, 3) := by decide +kernel
theorem dd_X11_passOne_15 : decode (zc mm_X11_passOne) 15 = .ok (.aload_n 0, 1) := by decide +kernel
theorem dd_X11_passOne_16 : decode (zc mm_X11_passOne) 16 = .ok (.getfield 336, 3) := by decide +kernel
theorem dd_X11_passOne_19 : decode (zc mm_X11_passOne) 19 = .ok (.iaload, 1) := by decide +kernel
theorem dd_X11_passOne_20 : decode (zc mm_X11_passOne) 20 = .ok (.istore_n 2, 1) := by decide +kernel
theorem dd_X11_passOne_21 : decode (zc mm_X11_passOne) 21 = .ok (.aload_n 0, 1) := by decide +kernel
theorem dd_X11_passOne_22 : decode (zc mm_X11_passOne) 22 = .ok (.getfield 89, 3) := by decide +kernel
theorem dd_X11_passOne_25 : decode (zc mm_X11_passOne) 25 = .ok (.aload_n 0, 1) := by decide +kernel
theorem dd_X11_passOne_26 : decode (zc mm_X11_passOne) 26 = .ok (.getfield 336, 3) := by decide +kernel
theorem dd_X11_passOne_29 : decode (zc mm_X11_passOne) 29 = .ok (.iload_n 2, 1) := by decide +kernel
theorem dd_X11_passOne_30 : decode (zc mm_X11_passOne) 30 = .ok (.iastore, 1) := by decide +kernel
theorem dd_X11_passOne_31 : decode (zc mm_X11_passOne) 31 = .ok (.aload_n 0, 1) := by decide +kernel
theorem dd_X11_passOne_32 : decode (zc mm_X11_passOne) 32 = .ok (.dup, 1) := by decide +kernel
theorem dd_X11_passOne_33 : decode (zc mm_X11_passOne) 33 = .ok (.getfield 336, 3) := by decide +kernel
theorem dd_X11_passOne_36 : decode (zc mm_X11_passOne) 36 = .ok (.iconst 1, 1) := by decide +kernel
theorem dd_X11_passOne_37 : decode (zc mm_X11_passOne) 37 = .ok (.iadd, 1) := by decide +kernel
theorem dd_X11_passOne_38 : decode (zc mm_X11_passOne) 38 = .ok (.putfield 336, 3) := by decide +kernel
theorem dd_X11_passOne_41 : decode (zc mm_X11_passOne) 41 = .ok (.iload_n 2, 1) := by decide +kernel
theorem dd_X11_passOne_42 : decode (zc mm_X11_passOne) 42 = .ok (.ireturn, 1) := by decide +kernel
theorem dd_X11_passesAll_0 : decode (zc mm_X11_passesAll) 0 = .ok (.aload_n 0, 1) := by decide +kernel
theorem dd_X11_passesAll_1 : decode (zc mm_X11_passesAll) 1 = .ok (.iload_n 1, 1) := by decide +kernel
theorem dd_X11_passesAll_2 : decode (zc mm_X11_passesAll) 2 = .ok (.putfield 332, 3) := by decide +kernel
theorem dd_X11_passesAll_5 : decode (zc mm_X11_passesAll) 5 = .ok (.aload_n 0, 1) := by decide +kernel
theorem dd_X11_passesAll_6 : decode (zc mm_X11_passesAll) 6 = .ok (.iconst 0, 1) := by decide +kernel
theorem dd_X11_passesAll_7 : decode (zc mm_X11_passesAll) 7 = .ok (.putfield 336, 3) := by decide +kernel
theorem dd_X11_passesAll_10 : decode (zc mm_X11_passesAll) 10 = .ok (.aload_n 0, 1) := by decide +kernel
theorem dd_X11_passesAll_11 : decode (zc mm_X11_passesAll) 11 = .ok (.aload_n 0, 1) := by decide +kernel
theorem dd_X11_passesAll_12 : decode (zc mm_X11_passesAll) 12 = .ok (.aload_n 0, 1) := by decide +kernel
theorem dd_X11_passesAll_13 : decode (zc mm_X11_passesAll) 13 = .ok (.getfield 9, 3) := by decide +kernel
theorem dd_X11_passesAll_16 : decode (zc mm_X11_passesAll) 16 = .ok (.invokevirtual 339, 3) := by decide +kernel
theorem dd_X11_passesAll_19 : decode (zc mm_X11_passesAll) 19 = .ok (.putfield 9, 3) := by decide +kernel
theorem dd_X11_passesAll_22 : decode (zc mm_X11_passesAll) 22 = .ok (.aload_n 0, 1) := by decide +kernel
theorem dd_X11_passesAll_23 : decode (zc mm_X11_passesAll) 23 = .ok (.aload_n 0, 1) := by decide +kernel
theorem dd_X11_passesAll_24 : decode (zc mm_X11_passesAll) 24 = .ok (.aload_n 0, 1) := by decide +kernel
theorem dd_X11_passesAll_25 : decode (zc mm_X11_passesAll) 25 = .ok (.getfield 95, 3) := by decide +kernel
theorem dd_X11_passesAll_28 : decode (zc mm_X11_passesAll) 28 = .ok (.invokevirtual 339, 3) := by decide +kernel
theorem dd_X11_passesAll_31 : decode (zc mm_X11_passesAll) 31 = .ok (.putfield 95, 3) := by decide +kernel
theorem dd_X11_passesAll_34 : decode (zc mm_X11_passesAll) 34 = .ok (.iconst 0, 1) := by decide +kernel
theorem dd_X11_passesAll_35 : decode (zc mm_X11_passesAll) 35 = .ok (.istore_n 2, 1) := by decide +kernel
theorem dd_X11_passesAll_36 : decode (zc mm_X11_passesAll) 36 = .ok (.iload_n 2, 1) := by decide +kernel
theorem dd_X11_passesAll_37 : decode (zc mm_X11_passesAll) 37 = .ok (.bipush 6, 2) := by decide +kernel
theorem dd_X11_passesAll_39 : decode (zc mm_X11_passesAll) 39 = .ok (.if_icmp .ge 41, 3) := by decide +kernel
theorem dd_X11_passesAll_42 : decode (zc mm_X11_passesAll) 42 = .ok (.aload_n 0, 1) := by decide +kernel
theorem dd_X11_passesAll_43 : decode (zc mm_X11_passesAll) 43 = .ok (.getfield 34, 3) := by decide +kernel
theorem dd_X11_passesAll_46 : decode (zc mm_X11_passesAll) 46 = .ok (.iload_n 2, 1) := by decide +kernel
theorem dd_X11_passesAll_47 : decode (zc mm_X11_passesAll) 47 = .ok (.aload_n 0, 1) := by decide +kernel
theorem dd_X11_passesAll_48 : decode (zc mm_X11_passesAll) 48 = .ok (.aload_n 0, 1) := by decide +kernel
theorem dd_X11_passesAll_49 : decode (zc mm_X11_passesAll) 49 = .ok (.getfield 34, 3) := by decide +kernel
theorem dd_X11_passesAll_52 : decode (zc mm_X11_passesAll) 52 = .ok (.iload_n 2, 1) := by decide +kernel
theorem dd_X11_passesAll_53 : decode (zc mm_X11_passesAll) 53 = .ok (.iaload, 1) := by decide +kernel
theorem dd_X11_passesAll_54 : decode (zc mm_X11_passesAll) 54 = .ok (.invokevirtual 339, 3) := by decide +kernel
theorem dd_X11_passesAll_57 : decode (zc mm_X11_passesAll) 57 = .ok (.iastore, 1) := by decide +kernel
theorem dd_X11_passesAll_58 : decode (zc mm_X11_passesAll) 58 = .ok (.aload_n 0, 1) := by decide +kernel
theorem dd_X11_passesAll_59 : decode (zc mm_X11_passesAll) 59 = .ok (.getfield 37, 3) := by decide +kernel
theorem dd_X11_passesAll_62 : decode (zc mm_X11_passesAll) 62 = .ok (.iload_n 2, 1) := by decide +kernel
theorem dd_X11_passesAll_63 : decode (zc mm_X11_passesAll) 63 = .ok (.aload_n 0, 1) := by decide +kernel
theorem dd_X11_passesAll_64 : decode (zc mm_X11_passesAll) 64 = .ok (.aload_n 0, 1) := by decide +kernel
theorem dd_X11_passesAll_65 : decode (zc mm_X11_passesAll) 65 = .ok (.getfield 37, 3) := by decide +kernel
theorem dd_X11_passesAll_68 : decode (zc mm_X11_passesAll) 68 = .ok (.iload_n 2, 1) := by decide +kernel
theorem dd_X11_passesAll_69 : decode (zc mm_X11_passesAll) 69 = .ok (.iaload, 1) := by decide +kernel
theorem dd_X11_passesAll_70 : decode (zc mm_X11_passesAll) 70 = .ok (.invokevirtual 339, 3) := by decide +kernel
theorem dd_X11_passesAll_73 : decode (zc mm_X11_passesAll) 73 = .ok (.iastore, 1) := by decide +kernel
theorem dd_X11_passesAll_74 : decode (zc mm_X11_passesAll) 74 = .ok (.iinc 2 1, 3) := by decide +kernel
theorem dd_X11_passesAll_77 : decode (zc mm_X11_passesAll) 77 = .ok (.goto (-41), 3) := by decide +kernel
theorem dd_X11_passesAll_80 : decode (zc mm_X11_passesAll) 80 = .ok (.iconst 0, 1) := by decide +kernel
theorem dd_X11_passesAll_81 : decode (zc mm_X11_passesAll) 81 = .ok (.istore_n 2, 1) := by decide +kernel
theorem dd_X11_passesAll_82 : decode (zc mm_X11_passesAll) 82 = .ok (.iload_n 2, 1) := by decide +kernel
theorem dd_X11_passesAll_83 : decode (zc mm_X11_passesAll) 83 = .ok (.sipush 150, 3) := by decide +kernel
theorem dd_X11_passesAll_86 : decode (zc mm_X11_passesAll) 86 = .ok (.if_icmp .ge 25, 3) := by decide +kernel
theorem dd_X11_passesAll_89 : decode (zc mm_X11_passesAll) 89 = .ok (.aload_n 0, 1) := by decide +kernel
theorem dd_X11_passesAll_90 : decode (zc mm_X11_passesAll) 90 = .ok (.getfield 31, 3) := by decide +kernel
theorem dd_X11_passesAll_93 : decode (zc mm_X11_passesAll) 93 = .ok (.iload_n 2, 1) := by decide +kernel
theorem dd_X11_passesAll_94 : decode (zc mm_X11_passesAll) 94 = .ok (.aload_n 0, 1) := by decide +kernel
theorem dd_X11_passesAll_95 : decode (zc mm_X11_passesAll) 95 = .ok (.aload_n 0, 1) := by decide +kernel
theorem dd_X11_passesAll_96 : decode (zc mm_X11_passesAll) 96 = .ok (.getfield 31, 3) := by decide +kernel
theorem dd_X11_passesAll_99 : decode (zc mm_X11_passesAll) 99 = .ok (.iload_n 2, 1) := by decide +kernel
theorem dd_X11_passesAll_100 : decode (zc mm_X11_passesAll) 100 = .ok (.iaload, 1) := by decide +kernel
theorem dd_X11_passesAll_101 : decode (zc mm_X11_passesAll) 101 = .ok (.invokevirtual 339, 3) := by decide +kernel
theorem dd_X11_passesAll_104 : decode (zc mm_X11_passesAll) 104 = .ok (.iastore, 1) := by decide +kernel
theorem dd_X11_passesAll_105 : decode (zc mm_X11_passesAll) 105 = .ok (.iinc 2 1, 3) := by decide +kernel
theorem dd_X11_passesAll_108 : decode (zc mm_X11_passesAll) 108 = .ok (.goto (-26), 3) := by decide +kernel
theorem dd_X11_passesAll_111 : decode (zc mm_X11_passesAll) 111 = .ok (.return_, 1) := by decide +kernel
theorem dd_X11_image_0 : decode (zc mm_X11_image) 0 = .ok (.aload_n 0, 1) := by decide +kernel
theorem dd_X11_image_1 : decode (zc mm_X11_image) 1 = .ok (.iconst 1, 1) := by decide +kernel
theorem dd_X11_image_2 : decode (zc mm_X11_image) 2 = .ok (.invokevirtual 342, 3) := by decide +kernel
theorem dd_X11_image_5 : decode (zc mm_X11_image) 5 = .ok (.aload_n 0, 1) := by decide +kernel
theorem dd_X11_image_6 : decode (zc mm_X11_image) 6 = .ok (.aload_n 0, 1) := by decide +kernel
theorem dd_X11_image_7 : decode (zc mm_X11_image) 7 = .ok (.getfield 95, 3) := by decide +kernel
theorem dd_X11_image_10 : decode (zc mm_X11_image) 10 = .ok (.putfield 92, 3) := by decide +kernel
theorem dd_X11_image_13 : decode (zc mm_X11_image) 13 = .ok (.aload_n 0, 1) := by decide +kernel
theorem dd_X11_image_14 : decode (zc mm_X11_image) 14 = .ok (.getfield 95, 3) := by decide +kernel
theorem dd_X11_image_17 : decode (zc mm_X11_image) 17 = .ok (.ireturn, 1) := by decide +kernel
theorem dd_X11_on_0 : decode (zc mm_X11_on) 0 = .ok (.aload_n 0, 1) := by decide +kernel
theorem dd_X11_on_1 : decode (zc mm_X11_on) 1 = .ok (.getfield 92, 3) := by decide +kernel
theorem dd_X11_on_4 : decode (zc mm_X11_on) 4 = .ok (.ifCond .ge 10, 3) := by decide +kernel
theorem dd_X11_on_7 : decode (zc mm_X11_on) 7 = .ok (.aload_n 0, 1) := by decide +kernel
theorem dd_X11_on_8 : decode (zc mm_X11_on) 8 = .ok (.bipush (-3), 2) := by decide +kernel
theorem dd_X11_on_10 : decode (zc mm_X11_on) 10 = .ok (.invokevirtual 120, 3) := by decide +kernel
theorem dd_X11_on_13 : decode (zc mm_X11_on) 13 = .ok (.ireturn, 1) := by decide +kernel
theorem dd_X11_on_14 : decode (zc mm_X11_on) 14 = .ok (.aload_n 0, 1) := by decide +kernel
theorem dd_X11_on_15 : decode (zc mm_X11_on) 15 = .ok (.iconst 0, 1) := by decide +kernel
theorem dd_X11_on_16 : decode (zc mm_X11_on) 16 = .ok (.invokevirtual 342, 3) := by decide +kernel
theorem dd_X11_on_19 : decode (zc mm_X11_on) 19 = .ok (.aload_n 0, 1) := by decide +kernel
theorem dd_X11_on_20 : decode (zc mm_X11_on) 20 = .ok (.iconst 0, 1) := by decide +kernel
theorem dd_X11_on_21 : decode (zc mm_X11_on) 21 = .ok (.putfield 117, 3) := by decide +kernel
theorem dd_X11_on_24 : decode (zc mm_X11_on) 24 = .ok (.aload_n 0, 1) := by decide +kernel
theorem dd_X11_on_25 : decode (zc mm_X11_on) 25 = .ok (.getfield 95, 3) := by decide +kernel
theorem dd_X11_on_28 : decode (zc mm_X11_on) 28 = .ok (.ireturn, 1) := by decide +kernel
theorem dd_X11_count_0 : decode (zc mm_X11_count) 0 = .ok (.iload_n 1, 1) := by decide +kernel
theorem dd_X11_count_1 : decode (zc mm_X11_count) 1 = .ok (.bipush 11, 2) := by decide +kernel
theorem dd_X11_count_3 : decode (zc mm_X11_count) 3 = .ok (.bipush 16, 2) := by decide +kernel
theorem dd_X11_count_5 : decode (zc mm_X11_count) 5 = .ok (.invokestatic 21, 3) := by decide +kernel
theorem dd_X11_count_8 : decode (zc mm_X11_count) 8 = .ok (.ifCond .eq 13, 3) := by decide +kernel
theorem dd_X11_count_11 : decode (zc mm_X11_count) 11 = .ok (.aload_n 0, 1) := by decide +kernel
theorem dd_X11_count_12 : decode (zc mm_X11_count) 12 = .ok (.getfield 1, 3) := by decide +kernel
theorem dd_X11_count_15 : decode (zc mm_X11_count) 15 = .ok (.iload_n 1, 1) := by decide +kernel
theorem dd_X11_count_16 : decode (zc mm_X11_count) 16 = .ok (.bipush 10, 2) := by decide +kernel
theorem dd_X11_count_18 : decode (zc mm_X11_count) 18 = .ok (.isub, 1) := by decide +kernel
theorem dd_X11_count_19 : decode (zc mm_X11_count) 19 = .ok (.iaload, 1) := by decide +kernel
theorem dd_X11_count_20 : decode (zc mm_X11_count) 20 = .ok (.ireturn, 1) := by decide +kernel
theorem dd_X11_count_21 : decode (zc mm_X11_count) 21 = .ok (.iconst 0, 1) := by decide +kernel
theorem dd_X11_count_22 : decode (zc mm_X11_count) 22 = .ok (.istore_n 2, 1) := by decide +kernel
theorem dd_X11_count_23 : decode (zc mm_X11_count) 23 = .ok (.iload_n 1, 1) := by decide +kernel
theorem dd_X11_count_24 : decode (zc mm_X11_count) 24 = .ok (.tableswitch 122 0 5 #[40, 45, 50, 76, 81, 86], 40) := by decide +kernel
theorem dd_X11_count_64 : decode (zc mm_X11_count) 64 = .ok (.aload_n 0, 1) := by decide +kernel
theorem dd_X11_count_65 : decode (zc mm_X11_count) 65 = .ok (.getfield 95, 3) := by decide +kernel
theorem dd_X11_count_68 : decode (zc mm_X11_count) 68 = .ok (.ireturn, 1) := by decide +kernel
theorem dd_X11_count_69 : decode (zc mm_X11_count) 69 = .ok (.aload_n 0, 1) := by decide +kernel
theorem dd_X11_count_70 : decode (zc mm_X11_count) 70 = .ok (.getfield 9, 3) := by decide +kernel
theorem dd_X11_count_73 : decode (zc mm_X11_count) 73 = .ok (.ireturn, 1) := by decide +kernel
theorem dd_X11_count_74 : decode (zc mm_X11_count) 74 = .ok (.iconst 0, 1) := by decide +kernel
theorem dd_X11_count_75 : decode (zc mm_X11_count) 75 = .ok (.istore_n 3, 1) := by decide +kernel
theorem dd_X11_count_76 : decode (zc mm_X11_count) 76 = .ok (.iload_n 3, 1) := by decide +kernel
theorem dd_X11_count_77 : decode (zc mm_X11_count) 77 = .ok (.aload_n 0, 1) := by decide +kernel
theorem dd_X11_count_78 : decode (zc mm_X11_count) 78 = .ok (.getfield 95, 3) := by decide +kernel
theorem dd_X11_count_81 : decode (zc mm_X11_count) 81 = .ok (.if_icmp .ge 17, 3) := by decide +kernel
theorem dd_X11_count_84 : decode (zc mm_X11_count) 84 = .ok (.iload_n 2, 1) := by decide +kernel
theorem dd_X11_count_85 : decode (zc mm_X11_count) 85 = .ok (.aload_n 0, 1) := by decide +kernel
theorem dd_X11_count_86 : decode (zc mm_X11_count) 86 = .ok (.iload_n 3, 1) := by decide +kernel
theorem dd_X11_count_87 : decode (zc mm_X11_count) 87 = .ok (.invokevirtual 164, 3) := by decide +kernel
theorem dd_X11_count_90 : decode (zc mm_X11_count) 90 = .ok (.iadd, 1) := by decide +kernel
theorem dd_X11_count_91 : decode (zc mm_X11_count) 91 = .ok (.istore_n 2, 1) := by decide +kernel
theorem dd_X11_count_92 : decode (zc mm_X11_count) 92 = .ok (.iinc 3 1, 3) := by decide +kernel
theorem dd_X11_count_95 : decode (zc mm_X11_count) 95 = .ok (.goto (-19), 3) := by decide +kernel
theorem dd_X11_count_98 : decode (zc mm_X11_count) 98 = .ok (.iload_n 2, 1) := by decide +kernel
theorem dd_X11_count_99 : decode (zc mm_X11_count) 99 = .ok (.ireturn, 1) := by decide +kernel
theorem dd_X11_count_100 : decode (zc mm_X11_count) 100 = .ok (.aload_n 0, 1) := by decide +kernel
theorem dd_X11_count_101 : decode (zc mm_X11_count) 101 = .ok (.getfield 123, 3) := by decide +kernel
theorem dd_X11_count_104 : decode (zc mm_X11_count) 104 = .ok (.ireturn, 1) := by decide +kernel
theorem dd_X11_count_105 : decode (zc mm_X11_count) 105 = .ok (.aload_n 0, 1) := by decide +kernel
theorem dd_X11_count_106 : decode (zc mm_X11_count) 106 = .ok (.getfield 117, 3) := by decide +kernel
theorem dd_X11_count_109 : decode (zc mm_X11_count) 109 = .ok (.ireturn, 1) := by decide +kernel
theorem dd_X11_count_110 : decode (zc mm_X11_count) 110 = .ok (.iconst 0, 1) := by decide +kernel
theorem dd_X11_count_111 : decode (zc mm_X11_count) 111 = .ok (.istore_n 3, 1) := by decide +kernel
theorem dd_X11_count_112 : decode (zc mm_X11_count) 112 = .ok (.iload_n 3, 1) := by decide +kernel
theorem dd_X11_count_113 : decode (zc mm_X11_count) 113 = .ok (.aload_n 0, 1) := by decide +kernel
theorem dd_X11_count_114 : decode (zc mm_X11_count) 114 = .ok (.getfield 95, 3) := by decide +kernel
theorem dd_X11_count_117 : decode (zc mm_X11_count) 117 = .ok (.if_icmp .ge 27, 3) := by decide +kernel
theorem dd_X11_count_120 : decode (zc mm_X11_count) 120 = .ok (.iload_n 2, 1) := by decide +kernel
theorem dd_X11_count_121 : decode (zc mm_X11_count) 121 = .ok (.aload_n 0, 1) := by decide +kernel
theorem dd_X11_count_122 : decode (zc mm_X11_count) 122 = .ok (.iload_n 3, 1) := by decide +kernel
theorem dd_X11_count_123 : decode (zc mm_X11_count) 123 = .ok (.invokevirtual 173, 3) := by decide +kernel
theorem dd_X11_count_126 : decode (zc mm_X11_count) 126 = .ok (.ifCond .eq 9, 3) := by decide +kernel
theorem dd_X11_count_129 : decode (zc mm_X11_count) 129 = .ok (.iconst 1, 1) := by decide +kernel
theorem dd_X11_count_130 : decode (zc mm_X11_count) 130 = .ok (.iload_n 3, 1) := by decide +kernel
theorem dd_X11_count_131 : decode (zc mm_X11_count) 131 = .ok (.ishl, 1) := by decide +kernel
theorem dd_X11_count_132 : decode (zc mm_X11_count) 132 = .ok (.goto 4, 3) := by decide +kernel
theorem dd_X11_count_135 : decode (zc mm_X11_count) 135 = .ok (.iconst 0, 1) := by decide +kernel
theorem dd_X11_count_136 : decode (zc mm_X11_count) 136 = .ok (.ior, 1) := by decide +kernel
theorem dd_X11_count_137 : decode (zc mm_X11_count) 137 = .ok (.istore_n 2, 1) := by decide +kernel
theorem dd_X11_count_138 : decode (zc mm_X11_count) 138 = .ok (.iinc 3 1, 3) := by decide +kernel
theorem dd_X11_count_141 : decode (zc mm_X11_count) 141 = .ok (.goto (-29), 3) := by decide +kernel
theorem dd_X11_count_144 : decode (zc mm_X11_count) 144 = .ok (.iload_n 2, 1) := by decide +kernel
theorem dd_X11_count_145 : decode (zc mm_X11_count) 145 = .ok (.ireturn, 1) := by decide +kernel
theorem dd_X11_count_146 : decode (zc mm_X11_count) 146 = .ok (.bipush (-9), 2) := by decide +kernel
theorem dd_X11_count_148 : decode (zc mm_X11_count) 148 = .ok (.ireturn, 1) := by decide +kernel

theorem dd_X7_drawLots_80 : decode (zc mm_X7_drawLots) 80 = .ok (.iload 7, 2) := by decide +kernel
theorem dd_X7_drawLots_82 : decode (zc mm_X7_drawLots) 82 = .ok (.ireturn, 1) := by decide +kernel
theorem dd_X7_draw_0 : decode (zc mm_X7_draw) 0 = .ok (.aload_n 0, 1) := by decide +kernel
theorem dd_X7_draw_1 : decode (zc mm_X7_draw) 1 = .ok (.aload_n 0, 1) := by decide +kernel
theorem dd_X7_draw_2 : decode (zc mm_X7_draw) 2 = .ok (.getfield 50, 3) := by decide +kernel
theorem dd_X7_draw_5 : decode (zc mm_X7_draw) 5 = .ok (.ldc 61, 2) := by decide +kernel
theorem dd_X7_draw_7 : decode (zc mm_X7_draw) 7 = .ok (.imul, 1) := by decide +kernel
theorem dd_X7_draw_8 : decode (zc mm_X7_draw) 8 = .ok (.ldc 62, 2) := by decide +kernel
theorem dd_X7_draw_10 : decode (zc mm_X7_draw) 10 = .ok (.iadd, 1) := by decide +kernel
theorem dd_X7_draw_11 : decode (zc mm_X7_draw) 11 = .ok (.putfield 50, 3) := by decide +kernel
theorem dd_X7_draw_14 : decode (zc mm_X7_draw) 14 = .ok (.aload_n 0, 1) := by decide +kernel
theorem dd_X7_draw_15 : decode (zc mm_X7_draw) 15 = .ok (.getfield 50, 3) := by decide +kernel
theorem dd_X7_draw_18 : decode (zc mm_X7_draw) 18 = .ok (.ldc 63, 2) := by decide +kernel
theorem dd_X7_draw_20 : decode (zc mm_X7_draw) 20 = .ok (.iand, 1) := by decide +kernel
theorem dd_X7_draw_21 : decode (zc mm_X7_draw) 21 = .ok (.sipush 256, 3) := by decide +kernel
theorem dd_X7_draw_24 : decode (zc mm_X7_draw) 24 = .ok (.idiv, 1) := by decide +kernel
theorem dd_X7_draw_25 : decode (zc mm_X7_draw) 25 = .ok (.iload_n 1, 1) := by decide +kernel
theorem dd_X7_draw_26 : decode (zc mm_X7_draw) 26 = .ok (.irem, 1) := by decide +kernel
theorem dd_X7_draw_27 : decode (zc mm_X7_draw) 27 = .ok (.ireturn, 1) := by decide +kernel
theorem dd_X8_init_0 : decode (zc mm_X8_init) 0 = .ok (.aload_n 0, 1) := by decide +kernel
theorem dd_X8_init_1 : decode (zc mm_X8_init) 1 = .ok (.invokespecial 3, 3) := by decide +kernel
theorem dd_X8_init_4 : decode (zc mm_X8_init) 4 = .ok (.aload_n 0, 1) := by decide +kernel
theorem dd_X8_init_5 : decode (zc mm_X8_init) 5 = .ok (.bipush 7, 2) := by decide +kernel
theorem dd_X8_init_7 : decode (zc mm_X8_init) 7 = .ok (.putfield 9, 3) := by decide +kernel
theorem dd_X8_init_10 : decode (zc mm_X8_init) 10 = .ok (.aload_n 0, 1) := by decide +kernel
theorem dd_X8_init_11 : decode (zc mm_X8_init) 11 = .ok (.bipush 6, 2) := by decide +kernel
theorem dd_X8_init_13 : decode (zc mm_X8_init) 13 = .ok (.anewarray 15, 3) := by decide +kernel
theorem dd_X8_init_16 : decode (zc mm_X8_init) 16 = .ok (.putfield 17, 3) := by decide +kernel
theorem dd_X8_init_19 : decode (zc mm_X8_init) 19 = .ok (.iconst 0, 1) := by decide +kernel
theorem dd_X8_init_20 : decode (zc mm_X8_init) 20 = .ok (.istore_n 1, 1) := by decide +kernel
theorem dd_X8_init_21 : decode (zc mm_X8_init) 21 = .ok (.iload_n 1, 1) := by decide +kernel
theorem dd_X8_init_22 : decode (zc mm_X8_init) 22 = .ok (.bipush 6, 2) := by decide +kernel
theorem dd_X8_init_24 : decode (zc mm_X8_init) 24 = .ok (.if_icmp .ge 22, 3) := by decide +kernel
theorem dd_X8_init_27 : decode (zc mm_X8_init) 27 = .ok (.aload_n 0, 1) := by decide +kernel
theorem dd_X8_init_28 : decode (zc mm_X8_init) 28 = .ok (.getfield 17, 3) := by decide +kernel
theorem dd_X8_init_31 : decode (zc mm_X8_init) 31 = .ok (.iload_n 1, 1) := by decide +kernel
theorem dd_X8_init_32 : decode (zc mm_X8_init) 32 = .ok (.new 15, 3) := by decide +kernel
theorem dd_X8_init_35 : decode (zc mm_X8_init) 35 = .ok (.dup, 1) := by decide +kernel
theorem dd_X8_init_36 : decode (zc mm_X8_init) 36 = .ok (.invokespecial 21, 3) := by decide +kernel
theorem dd_X8_init_39 : decode (zc mm_X8_init) 39 = .ok (.aastore, 1) := by decide +kernel
theorem dd_X8_init_40 : decode (zc mm_X8_init) 40 = .ok (.iinc 1 1, 3) := by decide +kernel
theorem dd_X8_init_43 : decode (zc mm_X8_init) 43 = .ok (.goto (-22), 3) := by decide +kernel
theorem dd_X8_init_46 : decode (zc mm_X8_init) 46 = .ok (.return_, 1) := by decide +kernel
theorem dd_X8_has_0 : decode (zc mm_X8_has) 0 = .ok (.iload_n 1, 1) := by decide +kernel
theorem dd_X8_has_1 : decode (zc mm_X8_has) 1 = .ok (.ifCond .lt 15, 3) := by decide +kernel
theorem dd_X8_has_4 : decode (zc mm_X8_has) 4 = .ok (.iload_n 1, 1) := by decide +kernel
theorem dd_X8_has_5 : decode (zc mm_X8_has) 5 = .ok (.aload_n 0, 1) := by decide +kernel
theorem dd_X8_has_6 : decode (zc mm_X8_has) 6 = .ok (.getfield 22, 3) := by decide +kernel
theorem dd_X8_has_9 : decode (zc mm_X8_has) 9 = .ok (.if_icmp .ge 7, 3) := by decide +kernel
theorem dd_X8_has_12 : decode (zc mm_X8_has) 12 = .ok (.iconst 1, 1) := by decide +kernel
theorem dd_X8_has_13 : decode (zc mm_X8_has) 13 = .ok (.goto 4, 3) := by decide +kernel
theorem dd_X8_has_16 : decode (zc mm_X8_has) 16 = .ok (.iconst 0, 1) := by decide +kernel
theorem dd_X8_has_17 : decode (zc mm_X8_has) 17 = .ok (.ireturn, 1) := by decide +kernel
theorem dd_X8_isFull_0 : decode (zc mm_X8_isFull) 0 = .ok (.aload_n 0, 1) := by decide +kernel
theorem dd_X8_isFull_1 : decode (zc mm_X8_isFull) 1 = .ok (.getfield 22, 3) := by decide +kernel
theorem dd_X8_isFull_4 : decode (zc mm_X8_isFull) 4 = .ok (.bipush 6, 2) := by decide +kernel
theorem dd_X8_isFull_6 : decode (zc mm_X8_isFull) 6 = .ok (.if_icmp .lt 7, 3) := by decide +kernel
theorem dd_X8_isFull_9 : decode (zc mm_X8_isFull) 9 = .ok (.iconst 1, 1) := by decide +kernel
theorem dd_X8_isFull_10 : decode (zc mm_X8_isFull) 10 = .ok (.goto 4, 3) := by decide +kernel
theorem dd_X8_isFull_13 : decode (zc mm_X8_isFull) 13 = .ok (.iconst 0, 1) := by decide +kernel
theorem dd_X8_isFull_14 : decode (zc mm_X8_isFull) 14 = .ok (.ireturn, 1) := by decide +kernel
theorem dd_X8_addPlain_0 : decode (zc mm_X8_addPlain) 0 = .ok (.aload_n 0, 1) := by decide +kernel
theorem dd_X8_addPlain_1 : decode (zc mm_X8_addPlain) 1 = .ok (.getfield 22, 3) := by decide +kernel
theorem dd_X8_addPlain_4 : decode (zc mm_X8_addPlain) 4 = .ok (.bipush 6, 2) := by decide +kernel
theorem dd_X8_addPlain_6 : decode (zc mm_X8_addPlain) 6 = .ok (.if_icmp .ge 13, 3) := by decide +kernel
theorem dd_X8_addPlain_9 : decode (zc mm_X8_addPlain) 9 = .ok (.aload_n 0, 1) := by decide +kernel
theorem dd_X8_addPlain_10 : decode (zc mm_X8_addPlain) 10 = .ok (.dup, 1) := by decide +kernel
theorem dd_X8_addPlain_11 : decode (zc mm_X8_addPlain) 11 = .ok (.getfield 22, 3) := by decide +kernel
theorem dd_X8_addPlain_14 : decode (zc mm_X8_addPlain) 14 = .ok (.iconst 1, 1) := by decide +kernel
theorem dd_X8_addPlain_15 : decode (zc mm_X8_addPlain) 15 = .ok (.iadd, 1) := by decide +kernel
theorem dd_X8_addPlain_16 : decode (zc mm_X8_addPlain) 16 = .ok (.putfield 22, 3) := by decide +kernel
theorem dd_X8_addPlain_19 : decode (zc mm_X8_addPlain) 19 = .ok (.aload_n 0, 1) := by decide +kernel
theorem dd_X8_addPlain_20 : decode (zc mm_X8_addPlain) 20 = .ok (.getfield 17, 3) := by decide +kernel
theorem dd_X8_addPlain_23 : decode (zc mm_X8_addPlain) 23 = .ok (.aload_n 0, 1) := by decide +kernel
theorem dd_X8_addPlain_24 : decode (zc mm_X8_addPlain) 24 = .ok (.getfield 22, 3) := by decide +kernel
theorem dd_X8_addPlain_27 : decode (zc mm_X8_addPlain) 27 = .ok (.iconst 1, 1) := by decide +kernel
theorem dd_X8_addPlain_28 : decode (zc mm_X8_addPlain) 28 = .ok (.isub, 1) := by decide +kernel
theorem dd_X8_addPlain_29 : decode (zc mm_X8_addPlain) 29 = .ok (.aaload, 1) := by decide +kernel
theorem dd_X8_addPlain_30 : decode (zc mm_X8_addPlain) 30 = .ok (.astore_n 1, 1) := by decide +kernel
theorem dd_X8_addPlain_31 : decode (zc mm_X8_addPlain) 31 = .ok (.aload_n 1, 1) := by decide +kernel
theorem dd_X8_addPlain_32 : decode (zc mm_X8_addPlain) 32 = .ok (.invokevirtual 25, 3) := by decide +kernel
theorem dd_X8_addPlain_35 : decode (zc mm_X8_addPlain) 35 = .ok (.aload_n 1, 1) := by decide +kernel
theorem dd_X8_addPlain_36 : decode (zc mm_X8_addPlain) 36 = .ok (.areturn, 1) := by decide +kernel
theorem dd_X8_reduceBy_0 : decode (zc mm_X8_reduceBy) 0 = .ok (.aload_n 0, 1) := by decide +kernel
theorem dd_X8_reduceBy_1 : decode (zc mm_X8_reduceBy) 1 = .ok (.iload_n 1, 1) := by decide +kernel
theorem dd_X8_reduceBy_2 : decode (zc mm_X8_reduceBy) 2 = .ok (.putfield 9, 3) := by decide +kernel
theorem dd_X8_reduceBy_5 : decode (zc mm_X8_reduceBy) 5 = .ok (.iconst 0, 1) := by decide +kernel
theorem dd_X8_reduceBy_6 : decode (zc mm_X8_reduceBy) 6 = .ok (.istore_n 2, 1) := by decide +kernel
theorem dd_X8_reduceBy_7 : decode (zc mm_X8_reduceBy) 7 = .ok (.iload_n 2, 1) := by decide +kernel
theorem dd_X8_reduceBy_8 : decode (zc mm_X8_reduceBy) 8 = .ok (.aload_n 0, 1) := by decide +kernel
theorem dd_X8_reduceBy_9 : decode (zc mm_X8_reduceBy) 9 = .ok (.getfield 22, 3) := by decide +kernel
theorem dd_X8_reduceBy_12 : decode (zc mm_X8_reduceBy) 12 = .ok (.if_icmp .ge 19, 3) := by decide +kernel
theorem dd_X8_reduceBy_15 : decode (zc mm_X8_reduceBy) 15 = .ok (.aload_n 0, 1) := by decide +kernel
theorem dd_X8_reduceBy_16 : decode (zc mm_X8_reduceBy) 16 = .ok (.getfield 17, 3) := by decide +kernel
theorem dd_X8_reduceBy_19 : decode (zc mm_X8_reduceBy) 19 = .ok (.iload_n 2, 1) := by decide +kernel
theorem dd_X8_reduceBy_20 : decode (zc mm_X8_reduceBy) 20 = .ok (.aaload, 1) := by decide +kernel
theorem dd_X8_reduceBy_21 : decode (zc mm_X8_reduceBy) 21 = .ok (.iload_n 1, 1) := by decide +kernel
theorem dd_X8_reduceBy_22 : decode (zc mm_X8_reduceBy) 22 = .ok (.invokevirtual 28, 3) := by decide +kernel
theorem dd_X8_reduceBy_25 : decode (zc mm_X8_reduceBy) 25 = .ok (.iinc 2 1, 3) := by decide +kernel
theorem dd_X8_reduceBy_28 : decode (zc mm_X8_reduceBy) 28 = .ok (.goto (-21), 3) := by decide +kernel
theorem dd_X8_reduceBy_31 : decode (zc mm_X8_reduceBy) 31 = .ok (.return_, 1) := by decide +kernel
theorem dd_X8_copyFrom_0 : decode (zc mm_X8_copyFrom) 0 = .ok (.aload_n 0, 1) := by decide +kernel
theorem dd_X8_copyFrom_1 : decode (zc mm_X8_copyFrom) 1 = .ok (.aload_n 1, 1) := by decide +kernel
theorem dd_X8_copyFrom_2 : decode (zc mm_X8_copyFrom) 2 = .ok (.getfield 9, 3) := by decide +kernel
theorem dd_X8_copyFrom_5 : decode (zc mm_X8_copyFrom) 5 = .ok (.putfield 9, 3) := by decide +kernel
theorem dd_X8_copyFrom_8 : decode (zc mm_X8_copyFrom) 8 = .ok (.aload_n 0, 1) := by decide +kernel
theorem dd_X8_copyFrom_9 : decode (zc mm_X8_copyFrom) 9 = .ok (.aload_n 1, 1) := by decide +kernel
theorem dd_X8_copyFrom_10 : decode (zc mm_X8_copyFrom) 10 = .ok (.getfield 22, 3) := by decide +kernel
theorem dd_X8_copyFrom_13 : decode (zc mm_X8_copyFrom) 13 = .ok (.putfield 22, 3) := by decide +kernel
theorem dd_X8_copyFrom_16 : decode (zc mm_X8_copyFrom) 16 = .ok (.iconst 0, 1) := by decide +kernel
theorem dd_X8_copyFrom_17 : decode (zc mm_X8_copyFrom) 17 = .ok (.istore_n 2, 1) := by decide +kernel
theorem dd_X8_copyFrom_18 : decode (zc mm_X8_copyFrom) 18 = .ok (.iload_n 2, 1) := by decide +kernel
theorem dd_X8_copyFrom_19 : decode (zc mm_X8_copyFrom) 19 = .ok (.aload_n 0, 1) := by decide +kernel
theorem dd_X8_copyFrom_20 : decode (zc mm_X8_copyFrom) 20 = .ok (.getfield 22, 3) := by decide +kernel
theorem dd_X8_copyFrom_23 : decode (zc mm_X8_copyFrom) 23 = .ok (.if_icmp .ge 24, 3) := by decide +kernel
theorem dd_X8_copyFrom_26 : decode (zc mm_X8_copyFrom) 26 = .ok (.aload_n 0, 1) := by decide +kernel
theorem dd_X8_copyFrom_27 : decode (zc mm_X8_copyFrom) 27 = .ok (.getfield 17, 3) := by decide +kernel
theorem dd_X8_copyFrom_30 : decode (zc mm_X8_copyFrom) 30 = .ok (.iload_n 2, 1) := by decide +kernel
theorem dd_X8_copyFrom_31 : decode (zc mm_X8_copyFrom) 31 = .ok (.aaload, 1) := by decide +kernel
theorem dd_X8_copyFrom_32 : decode (zc mm_X8_copyFrom) 32 = .ok (.aload_n 1, 1) := by decide +kernel
theorem dd_X8_copyFrom_33 : decode (zc mm_X8_copyFrom) 33 = .ok (.getfield 17, 3) := by decide +kernel
theorem dd_X8_copyFrom_36 : decode (zc mm_X8_copyFrom) 36 = .ok (.iload_n 2, 1) := by decide +kernel
theorem dd_X8_copyFrom_37 : decode (zc mm_X8_copyFrom) 37 = .ok (.aaload, 1) := by decide +kernel
theorem dd_X8_copyFrom_38 : decode (zc mm_X8_copyFrom) 38 = .ok (.invokevirtual 32, 3) := by decide +kernel
theorem dd_X8_copyFrom_41 : decode (zc mm_X8_copyFrom) 41 = .ok (.iinc 2 1, 3) := by decide +kernel
theorem dd_X8_copyFrom_44 : decode (zc mm_X8_copyFrom) 44 = .ok (.goto (-26), 3) := by decide +kernel
theorem dd_X8_copyFrom_47 : decode (zc mm_X8_copyFrom) 47 = .ok (.return_, 1) := by decide +kernel
theorem dd_X8_termsOfAll_0 : decode (zc mm_X8_termsOfAll) 0 = .ok (.iconst 0, 1) := by decide +kernel
theorem dd_X8_termsOfAll_1 : decode (zc mm_X8_termsOfAll) 1 = .ok (.istore_n 1, 1) := by decide +kernel
theorem dd_X8_termsOfAll_2 : decode (zc mm_X8_termsOfAll) 2 = .ok (.iconst 0, 1) := by decide +kernel
theorem dd_X8_termsOfAll_3 : decode (zc mm_X8_termsOfAll) 3 = .ok (.istore_n 2, 1) := by decide +kernel
theorem dd_X8_termsOfAll_4 : decode (zc mm_X8_termsOfAll) 4 = .ok (.iload_n 2, 1) := by decide +kernel
theorem dd_X8_termsOfAll_5 : decode (zc mm_X8_termsOfAll) 5 = .ok (.aload_n 0, 1) := by decide +kernel
theorem dd_X8_termsOfAll_6 : decode (zc mm_X8_termsOfAll) 6 = .ok (.getfield 22, 3) := by decide +kernel
theorem dd_X8_termsOfAll_9 : decode (zc mm_X8_termsOfAll) 9 = .ok (.if_icmp .ge 21, 3) := by decide +kernel
theorem dd_X8_termsOfAll_12 : decode (zc mm_X8_termsOfAll) 12 = .ok (.iload_n 1, 1) := by decide +kernel
theorem dd_X8_termsOfAll_13 : decode (zc mm_X8_termsOfAll) 13 = .ok (.aload_n 0, 1) := by decide +kernel
theorem dd_X8_termsOfAll_14 : decode (zc mm_X8_termsOfAll) 14 = .ok (.getfield 17, 3) := by decide +kernel
theorem dd_X8_termsOfAll_17 : decode (zc mm_X8_termsOfAll) 17 = .ok (.iload_n 2, 1) := by decide +kernel
theorem dd_X8_termsOfAll_18 : decode (zc mm_X8_termsOfAll) 18 = .ok (.aaload, 1) := by decide +kernel
theorem dd_X8_termsOfAll_19 : decode (zc mm_X8_termsOfAll) 19 = .ok (.invokevirtual 36, 3) := by decide +kernel
theorem dd_X8_termsOfAll_22 : decode (zc mm_X8_termsOfAll) 22 = .ok (.iadd, 1) := by decide +kernel
theorem dd_X8_termsOfAll_23 : decode (zc mm_X8_termsOfAll) 23 = .ok (.istore_n 1, 1) := by decide +kernel
theorem dd_X8_termsOfAll_24 : decode (zc mm_X8_termsOfAll) 24 = .ok (.iinc 2 1, 3) := by decide +kernel
theorem dd_X8_termsOfAll_27 : decode (zc mm_X8_termsOfAll) 27 = .ok (.goto (-23), 3) := by decide +kernel
theorem dd_X8_termsOfAll_30 : decode (zc mm_X8_termsOfAll) 30 = .ok (.iload_n 1, 1) := by decide +kernel
theorem dd_X8_termsOfAll_31 : decode (zc mm_X8_termsOfAll) 31 = .ok (.ireturn, 1) := by decide +kernel
theorem dd_X8_noughtBits_0 : decode (zc mm_X8_noughtBits) 0 = .ok (.iconst 0, 1) := by decide +kernel
theorem dd_X8_noughtBits_1 : decode (zc mm_X8_noughtBits) 1 = .ok (.istore_n 1, 1) := by decide +kernel
theorem dd_X8_noughtBits_2 : decode (zc mm_X8_noughtBits) 2 = .ok (.iconst 0, 1) := by decide +kernel
theorem dd_X8_noughtBits_3 : decode (zc mm_X8_noughtBits) 3 = .ok (.istore_n 2, 1) := by decide +kernel
theorem dd_X8_noughtBits_4 : decode (zc mm_X8_noughtBits) 4 = .ok (.iload_n 2, 1) := by decide +kernel
theorem dd_X8_noughtBits_5 : decode (zc mm_X8_noughtBits) 5 = .ok (.aload_n 0, 1) := by decide +kernel
theorem dd_X8_noughtBits_6 : decode (zc mm_X8_noughtBits) 6 = .ok (.getfield 22, 3) := by decide +kernel
theorem dd_X8_noughtBits_9 : decode (zc mm_X8_noughtBits) 9 = .ok (.if_icmp .ge 27, 3) := by decide +kernel
theorem dd_X8_noughtBits_12 : decode (zc mm_X8_noughtBits) 12 = .ok (.aload_n 0, 1) := by decide +kernel
theorem dd_X8_noughtBits_13 : decode (zc mm_X8_noughtBits) 13 = .ok (.getfield 17, 3) := by decide +kernel
theorem dd_X8_noughtBits_16 : decode (zc mm_X8_noughtBits) 16 = .ok (.iload_n 2, 1) := by decide +kernel
theorem dd_X8_noughtBits_17 : decode (zc mm_X8_noughtBits) 17 = .ok (.aaload, 1) := by decide +kernel
theorem dd_X8_noughtBits_18 : decode (zc mm_X8_noughtBits) 18 = .ok (.invokevirtual 40, 3) := by decide +kernel
theorem dd_X8_noughtBits_21 : decode (zc mm_X8_noughtBits) 21 = .ok (.ifCond .eq 9, 3) := by decide +kernel
theorem dd_X8_noughtBits_24 : decode (zc mm_X8_noughtBits) 24 = .ok (.iload_n 1, 1) := by decide +kernel
theorem dd_X8_noughtBits_25 : decode (zc mm_X8_noughtBits) 25 = .ok (.iconst 1, 1) := by decide +kernel
theorem dd_X8_noughtBits_26 : decode (zc mm_X8_noughtBits) 26 = .ok (.iload_n 2, 1) := by decide +kernel
theorem dd_X8_noughtBits_27 : decode (zc mm_X8_noughtBits) 27 = .ok (.ishl, 1) := by decide +kernel
theorem dd_X8_noughtBits_28 : decode (zc mm_X8_noughtBits) 28 = .ok (.ior, 1) := by decide +kernel
theorem dd_X8_noughtBits_29 : decode (zc mm_X8_noughtBits) 29 = .ok (.istore_n 1, 1) := by decide +kernel
theorem dd_X8_noughtBits_30 : decode (zc mm_X8_noughtBits) 30 = .ok (.iinc 2 1, 3) := by decide +kernel
theorem dd_X8_noughtBits_33 : decode (zc mm_X8_noughtBits) 33 = .ok (.goto (-29), 3) := by decide +kernel
theorem dd_X8_noughtBits_36 : decode (zc mm_X8_noughtBits) 36 = .ok (.iload_n 1, 1) := by decide +kernel
theorem dd_X8_noughtBits_37 : decode (zc mm_X8_noughtBits) 37 = .ok (.ireturn, 1) := by decide +kernel
theorem dd_X9_init_0 : decode (zc mm_X9_init) 0 = .ok (.aload_n 0, 1) := by decide +kernel
theorem dd_X9_init_1 : decode (zc mm_X9_init) 1 = .ok (.invokespecial 3, 3) := by decide +kernel
theorem dd_X9_init_4 : decode (zc mm_X9_init) 4 = .ok (.aload_n 0, 1) := by decide +kernel
theorem dd_X9_init_5 : decode (zc mm_X9_init) 5 = .ok (.bipush 41, 2) := by decide +kernel
theorem dd_X9_init_7 : decode (zc mm_X9_init) 7 = .ok (.newarray .int, 2) := by decide +kernel
theorem dd_X9_init_9 : decode (zc mm_X9_init) 9 = .ok (.putfield 9, 3) := by decide +kernel
theorem dd_X9_init_12 : decode (zc mm_X9_init) 12 = .ok (.aload_n 0, 1) := by decide +kernel
theorem dd_X9_init_13 : decode (zc mm_X9_init) 13 = .ok (.sipush 576, 3) := by decide +kernel
theorem dd_X9_init_16 : decode (zc mm_X9_init) 16 = .ok (.newarray .int, 2) := by decide +kernel
theorem dd_X9_init_18 : decode (zc mm_X9_init) 18 = .ok (.putfield 15, 3) := by decide +kernel
theorem dd_X9_init_21 : decode (zc mm_X9_init) 21 = .ok (.aload_n 0, 1) := by decide +kernel
theorem dd_X9_init_22 : decode (zc mm_X9_init) 22 = .ok (.sipush 8448, 3) := by decide +kernel
theorem dd_X9_init_25 : decode (zc mm_X9_init) 25 = .ok (.newarray .int, 2) := by decide +kernel
theorem dd_X9_init_27 : decode (zc mm_X9_init) 27 = .ok (.putfield 18, 3) := by decide +kernel
theorem dd_X9_init_30 : decode (zc mm_X9_init) 30 = .ok (.aload_n 0, 1) := by decide +kernel
theorem dd_X9_init_31 : decode (zc mm_X9_init) 31 = .ok (.sipush 256, 3) := by decide +kernel
theorem dd_X9_init_34 : decode (zc mm_X9_init) 34 = .ok (.newarray .int, 2) := by decide +kernel
theorem dd_X9_init_36 : decode (zc mm_X9_init) 36 = .ok (.putfield 21, 3) := by decide +kernel
theorem dd_X9_init_39 : decode (zc mm_X9_init) 39 = .ok (.return_, 1) := by decide +kernel
theorem dd_X9_sizeOf_0 : decode (zc mm_X9_sizeOf) 0 = .ok (.aload_n 0, 1) := by decide +kernel
theorem dd_X9_sizeOf_1 : decode (zc mm_X9_sizeOf) 1 = .ok (.iload_n 2, 1) := by decide +kernel
theorem dd_X9_sizeOf_2 : decode (zc mm_X9_sizeOf) 2 = .ok (.invokevirtual 24, 3) := by decide +kernel
theorem dd_X9_sizeOf_5 : decode (zc mm_X9_sizeOf) 5 = .ok (.istore 4, 2) := by decide +kernel
theorem dd_X9_sizeOf_7 : decode (zc mm_X9_sizeOf) 7 = .ok (.aload_n 1, 1) := by decide +kernel
theorem dd_X9_sizeOf_8 : decode (zc mm_X9_sizeOf) 8 = .ok (.iload_n 2, 1) := by decide +kernel
theorem dd_X9_sizeOf_9 : decode (zc mm_X9_sizeOf) 9 = .ok (.invokevirtual 24, 3) := by decide +kernel
theorem dd_X9_sizeOf_12 : decode (zc mm_X9_sizeOf) 12 = .ok (.istore 5, 2) := by decide +kernel
theorem dd_X9_sizeOf_14 : decode (zc mm_X9_sizeOf) 14 = .ok (.iconst 0, 1) := by decide +kernel
theorem dd_X9_sizeOf_15 : decode (zc mm_X9_sizeOf) 15 = .ok (.iload_n 3, 1) := by decide +kernel
theorem dd_X9_sizeOf_16 : decode (zc mm_X9_sizeOf) 16 = .ok (.ifCond .ne 11, 3) := by decide +kernel
theorem dd_X9_sizeOf_19 : decode (zc mm_X9_sizeOf) 19 = .ok (.iload 4, 2) := by decide +kernel
theorem dd_X9_sizeOf_21 : decode (zc mm_X9_sizeOf) 21 = .ok (.iload 5, 2) := by decide +kernel
theorem dd_X9_sizeOf_23 : decode (zc mm_X9_sizeOf) 23 = .ok (.iadd, 1) := by decide +kernel
theorem dd_X9_sizeOf_24 : decode (zc mm_X9_sizeOf) 24 = .ok (.goto 10, 3) := by decide +kernel
theorem dd_X9_sizeOf_27 : decode (zc mm_X9_sizeOf) 27 = .ok (.iload 4, 2) := by decide +kernel
theorem dd_X9_sizeOf_29 : decode (zc mm_X9_sizeOf) 29 = .ok (.iload 5, 2) := by decide +kernel
theorem dd_X9_sizeOf_31 : decode (zc mm_X9_sizeOf) 31 = .ok (.invokestatic 30, 3) := by decide +kernel
theorem dd_X9_sizeOf_34 : decode (zc mm_X9_sizeOf) 34 = .ok (.invokestatic 30, 3) := by decide +kernel
theorem dd_X9_sizeOf_37 : decode (zc mm_X9_sizeOf) 37 = .ok (.ireturn, 1) := by decide +kernel
theorem dd_X9_baseOf_0 : decode (zc mm_X9_baseOf) 0 = .ok (.iload_n 0, 1) := by decide +kernel
theorem dd_X9_baseOf_1 : decode (zc mm_X9_baseOf) 1 = .ok (.bipush 8, 2) := by decide +kernel
theorem dd_X9_baseOf_3 : decode (zc mm_X9_baseOf) 3 = .ok (.imul, 1) := by decide +kernel
theorem dd_X9_baseOf_4 : decode (zc mm_X9_baseOf) 4 = .ok (.iload_n 1, 1) := by decide +kernel
theorem dd_X9_baseOf_5 : decode (zc mm_X9_baseOf) 5 = .ok (.iadd, 1) := by decide +kernel
theorem dd_X9_baseOf_6 : decode (zc mm_X9_baseOf) 6 = .ok (.bipush 9, 2) := by decide +kernel
theorem dd_X9_baseOf_8 : decode (zc mm_X9_baseOf) 8 = .ok (.imul, 1) := by decide +kernel
theorem dd_X9_baseOf_9 : decode (zc mm_X9_baseOf) 9 = .ok (.ireturn, 1) := by decide +kernel
theorem dd_X9_clear_0 : decode (zc mm_X9_clear) 0 = .ok (.aload_n 0, 1) := by decide +kernel
theorem dd_X9_clear_1 : decode (zc mm_X9_clear) 1 = .ok (.iload_n 1, 1) := by decide +kernel
theorem dd_X9_clear_2 : decode (zc mm_X9_clear) 2 = .ok (.bipush 8, 2) := by decide +kernel
theorem dd_X9_clear_4 : decode (zc mm_X9_clear) 4 = .ok (.invokestatic 36, 3) := by decide +kernel
theorem dd_X9_clear_7 : decode (zc mm_X9_clear) 7 = .ok (.putfield 39, 3) := by decide +kernel
theorem dd_X9_clear_10 : decode (zc mm_X9_clear) 10 = .ok (.aload_n 0, 1) := by decide +kernel
theorem dd_X9_clear_11 : decode (zc mm_X9_clear) 11 = .ok (.iload_n 2, 1) := by decide +kernel
theorem dd_X9_clear_12 : decode (zc mm_X9_clear) 12 = .ok (.putfield 43, 3) := by decide +kernel
theorem dd_X9_clear_15 : decode (zc mm_X9_clear) 15 = .ok (.aload_n 0, 1) := by decide +kernel
theorem dd_X9_clear_16 : decode (zc mm_X9_clear) 16 = .ok (.getfield 15, 3) := by decide +kernel
theorem dd_X9_clear_19 : decode (zc mm_X9_clear) 19 = .ok (.iconst 0, 1) := by decide +kernel
theorem dd_X9_clear_20 : decode (zc mm_X9_clear) 20 = .ok (.invokestatic 46, 3) := by decide +kernel
theorem dd_X9_clear_23 : decode (zc mm_X9_clear) 23 = .ok (.return_, 1) := by decide +kernel
theorem dd_X9_cellPower_0 : decode (zc mm_X9_cellPower) 0 = .ok (.aload_n 0, 1) := by decide +kernel
theorem dd_X9_cellPower_1 : decode (zc mm_X9_cellPower) 1 = .ok (.getfield 15, 3) := by decide +kernel
theorem dd_X9_cellPower_4 : decode (zc mm_X9_cellPower) 4 = .ok (.iload_n 1, 1) := by decide +kernel
theorem dd_X9_cellPower_5 : decode (zc mm_X9_cellPower) 5 = .ok (.iload_n 2, 1) := by decide +kernel
theorem dd_X9_cellPower_6 : decode (zc mm_X9_cellPower) 6 = .ok (.invokestatic 52, 3) := by decide +kernel
theorem dd_X9_cellPower_9 : decode (zc mm_X9_cellPower) 9 = .ok (.iload_n 3, 1) := by decide +kernel
theorem dd_X9_cellPower_10 : decode (zc mm_X9_cellPower) 10 = .ok (.iadd, 1) := by decide +kernel
theorem dd_X9_cellPower_11 : decode (zc mm_X9_cellPower) 11 = .ok (.iaload, 1) := by decide +kernel
theorem dd_X9_cellPower_12 : decode (zc mm_X9_cellPower) 12 = .ok (.ireturn, 1) := by decide +kernel
theorem dd_X9_setNumber_0 : decode (zc mm_X9_setNumber) 0 = .ok (.aload_n 0, 1) := by decide +kernel
theorem dd_X9_setNumber_1 : decode (zc mm_X9_setNumber) 1 = .ok (.getfield 15, 3) := by decide +kernel
theorem dd_X9_setNumber_4 : decode (zc mm_X9_setNumber) 4 = .ok (.iload_n 1, 1) := by decide +kernel
theorem dd_X9_setNumber_5 : decode (zc mm_X9_setNumber) 5 = .ok (.iload_n 2, 1) := by decide +kernel
theorem dd_X9_setNumber_6 : decode (zc mm_X9_setNumber) 6 = .ok (.invokestatic 52, 3) := by decide +kernel
theorem dd_X9_setNumber_9 : decode (zc mm_X9_setNumber) 9 = .ok (.iload_n 3, 1) := by decide +kernel
theorem dd_X9_setNumber_10 : decode (zc mm_X9_setNumber) 10 = .ok (.iastore, 1) := by decide +kernel
theorem dd_X9_setNumber_11 : decode (zc mm_X9_setNumber) 11 = .ok (.return_, 1) := by decide +kernel
theorem dd_X9_fill_0 : decode (zc mm_X9_fill) 0 = .ok (.aload_n 0, 1) := by decide +kernel
theorem dd_X9_fill_1 : decode (zc mm_X9_fill) 1 = .ok (.aload_n 1, 1) := by decide +kernel
theorem dd_X9_fill_2 : decode (zc mm_X9_fill) 2 = .ok (.aload_n 2, 1) := by decide +kernel
theorem dd_X9_fill_3 : decode (zc mm_X9_fill) 3 = .ok (.iload_n 3, 1) := by decide +kernel
theorem dd_X9_fill_4 : decode (zc mm_X9_fill) 4 = .ok (.iload 4, 2) := by decide +kernel
theorem dd_X9_fill_6 : decode (zc mm_X9_fill) 6 = .ok (.invokestatic 55, 3) := by decide +kernel
theorem dd_X9_fill_9 : decode (zc mm_X9_fill) 9 = .ok (.iload 4, 2) := by decide +kernel
theorem dd_X9_fill_11 : decode (zc mm_X9_fill) 11 = .ok (.ifCond .ne 7, 3) := by decide +kernel
theorem dd_X9_fill_14 : decode (zc mm_X9_fill) 14 = .ok (.iconst 4, 1) := by decide +kernel
theorem dd_X9_fill_15 : decode (zc mm_X9_fill) 15 = .ok (.goto 5, 3) := by decide +kernel
theorem dd_X9_fill_18 : decode (zc mm_X9_fill) 18 = .ok (.bipush 8, 2) := by decide +kernel
theorem dd_X9_fill_20 : decode (zc mm_X9_fill) 20 = .ok (.invokevirtual 59, 3) := by decide +kernel
theorem dd_X9_fill_23 : decode (zc mm_X9_fill) 23 = .ok (.aload_n 0, 1) := by decide +kernel
theorem dd_X9_fill_24 : decode (zc mm_X9_fill) 24 = .ok (.aload_n 1, 1) := by decide +kernel
theorem dd_X9_fill_25 : decode (zc mm_X9_fill) 25 = .ok (.iload_n 3, 1) := by decide +kernel
theorem dd_X9_fill_26 : decode (zc mm_X9_fill) 26 = .ok (.invokevirtual 24, 3) := by decide +kernel
theorem dd_X9_fill_29 : decode (zc mm_X9_fill) 29 = .ok (.putfield 63, 3) := by decide +kernel
theorem dd_X9_fill_32 : decode (zc mm_X9_fill) 32 = .ok (.aload_n 0, 1) := by decide +kernel
theorem dd_X9_fill_33 : decode (zc mm_X9_fill) 33 = .ok (.aload_n 2, 1) := by decide +kernel
theorem dd_X9_fill_34 : decode (zc mm_X9_fill) 34 = .ok (.iload_n 3, 1) := by decide +kernel
theorem dd_X9_fill_35 : decode (zc mm_X9_fill) 35 = .ok (.invokevirtual 24, 3) := by decide +kernel
theorem dd_X9_fill_38 : decode (zc mm_X9_fill) 38 = .ok (.putfield 66, 3) := by decide +kernel
theorem dd_X9_fill_41 : decode (zc mm_X9_fill) 41 = .ok (.iconst 0, 1) := by decide +kernel
theorem dd_X9_fill_42 : decode (zc mm_X9_fill) 42 = .ok (.istore 6, 2) := by decide +kernel
theorem dd_X9_fill_44 : decode (zc mm_X9_fill) 44 = .ok (.iload 6, 2) := by decide +kernel
theorem dd_X9_fill_46 : decode (zc mm_X9_fill) 46 = .ok (.aload_n 0, 1) := by decide +kernel
theorem dd_X9_fill_47 : decode (zc mm_X9_fill) 47 = .ok (.getfield 39, 3) := by decide +kernel
theorem dd_X9_fill_50 : decode (zc mm_X9_fill) 50 = .ok (.if_icmp .ge 70, 3) := by decide +kernel
theorem dd_X9_fill_53 : decode (zc mm_X9_fill) 53 = .ok (.iconst 0, 1) := by decide +kernel
theorem dd_X9_fill_54 : decode (zc mm_X9_fill) 54 = .ok (.istore 7, 2) := by decide +kernel
theorem dd_X9_fill_56 : decode (zc mm_X9_fill) 56 = .ok (.iload 7, 2) := by decide +kernel
theorem dd_X9_fill_58 : decode (zc mm_X9_fill) 58 = .ok (.aload_n 0, 1) := by decide +kernel
theorem dd_X9_fill_59 : decode (zc mm_X9_fill) 59 = .ok (.getfield 39, 3) := by decide +kernel
theorem dd_X9_fill_62 : decode (zc mm_X9_fill) 62 = .ok (.if_icmp .ge 52, 3) := by decide +kernel
theorem dd_X9_fill_65 : decode (zc mm_X9_fill) 65 = .ok (.iload 4, 2) := by decide +kernel
theorem dd_X9_fill_67 : decode (zc mm_X9_fill) 67 = .ok (.ifCond .ne 17, 3) := by decide +kernel
theorem dd_X9_fill_70 : decode (zc mm_X9_fill) 70 = .ok (.aload_n 0, 1) := by decide +kernel
theorem dd_X9_fill_71 : decode (zc mm_X9_fill) 71 = .ok (.aload_n 1, 1) := by decide +kernel
theorem dd_X9_fill_72 : decode (zc mm_X9_fill) 72 = .ok (.aload_n 2, 1) := by decide +kernel
theorem dd_X9_fill_73 : decode (zc mm_X9_fill) 73 = .ok (.iload_n 3, 1) := by decide +kernel
theorem dd_X9_fill_74 : decode (zc mm_X9_fill) 74 = .ok (.iload 6, 2) := by decide +kernel
theorem dd_X9_fill_76 : decode (zc mm_X9_fill) 76 = .ok (.iload 7, 2) := by decide +kernel
theorem dd_X9_fill_78 : decode (zc mm_X9_fill) 78 = .ok (.invokevirtual 69, 3) := by decide +kernel
theorem dd_X9_fill_81 : decode (zc mm_X9_fill) 81 = .ok (.goto 14, 3) := by decide +kernel
theorem dd_X9_fill_84 : decode (zc mm_X9_fill) 84 = .ok (.aload_n 0, 1) := by decide +kernel
theorem dd_X9_fill_85 : decode (zc mm_X9_fill) 85 = .ok (.aload_n 1, 1) := by decide +kernel
theorem dd_X9_fill_86 : decode (zc mm_X9_fill) 86 = .ok (.aload_n 2, 1) := by decide +kernel
theorem dd_X9_fill_87 : decode (zc mm_X9_fill) 87 = .ok (.iload_n 3, 1) := by decide +kernel
theorem dd_X9_fill_88 : decode (zc mm_X9_fill) 88 = .ok (.iload 6, 2) := by decide +kernel
theorem dd_X9_fill_90 : decode (zc mm_X9_fill) 90 = .ok (.iload 7, 2) := by decide +kernel
theorem dd_X9_fill_92 : decode (zc mm_X9_fill) 92 = .ok (.invokevirtual 73, 3) := by decide +kernel
theorem dd_X9_fill_95 : decode (zc mm_X9_fill) 95 = .ok (.aload_n 0, 1) := by decide +kernel
theorem dd_X9_fill_96 : decode (zc mm_X9_fill) 96 = .ok (.iload 6, 2) := by decide +kernel
theorem dd_X9_fill_98 : decode (zc mm_X9_fill) 98 = .ok (.iload 7, 2) := by decide +kernel
theorem dd_X9_fill_100 : decode (zc mm_X9_fill) 100 = .ok (.invokestatic 52, 3) := by decide +kernel
theorem dd_X9_fill_103 : decode (zc mm_X9_fill) 103 = .ok (.iload 5, 2) := by decide +kernel
theorem dd_X9_fill_105 : decode (zc mm_X9_fill) 105 = .ok (.invokevirtual 76, 3) := by decide +kernel
theorem dd_X9_fill_108 : decode (zc mm_X9_fill) 108 = .ok (.iinc 7 1, 3) := by decide +kernel
theorem dd_X9_fill_111 : decode (zc mm_X9_fill) 111 = .ok (.goto (-55), 3) := by decide +kernel
theorem dd_X9_fill_114 : decode (zc mm_X9_fill) 114 = .ok (.iinc 6 1, 3) := by decide +kernel
theorem dd_X9_fill_117 : decode (zc mm_X9_fill) 117 = .ok (.goto (-73), 3) := by decide +kernel
theorem dd_X9_fill_120 : decode (zc mm_X9_fill) 120 = .ok (.return_, 1) := by decide +kernel
theorem dd_X9_reduceCell_0 : decode (zc mm_X9_reduceCell) 0 = .ok (.iconst 0, 1) := by decide +kernel
theorem dd_X9_reduceCell_1 : decode (zc mm_X9_reduceCell) 1 = .ok (.istore_n 3, 1) := by decide +kernel
theorem dd_X9_reduceCell_2 : decode (zc mm_X9_reduceCell) 2 = .ok (.iload_n 3, 1) := by decide +kernel
theorem dd_X9_reduceCell_3 : decode (zc mm_X9_reduceCell) 3 = .ok (.aload_n 0, 1) := by decide +kernel
theorem dd_X9_reduceCell_4 : decode (zc mm_X9_reduceCell) 4 = .ok (.getfield 43, 3) := by decide +kernel
theorem dd_X9_reduceCell_7 : decode (zc mm_X9_reduceCell) 7 = .ok (.if_icmp .gt 29, 3) := by decide +kernel
theorem dd_X9_reduceCell_10 : decode (zc mm_X9_reduceCell) 10 = .ok (.aload_n 0, 1) := by decide +kernel
theorem dd_X9_reduceCell_11 : decode (zc mm_X9_reduceCell) 11 = .ok (.getfield 15, 3) := by decide +kernel
theorem dd_X9_reduceCell_14 : decode (zc mm_X9_reduceCell) 14 = .ok (.iload_n 1, 1) := by decide +kernel
theorem dd_X9_reduceCell_15 : decode (zc mm_X9_reduceCell) 15 = .ok (.iload_n 3, 1) := by decide +kernel
theorem dd_X9_reduceCell_16 : decode (zc mm_X9_reduceCell) 16 = .ok (.iadd, 1) := by decide +kernel
theorem dd_X9_reduceCell_17 : decode (zc mm_X9_reduceCell) 17 = .ok (.aload_n 0, 1) := by decide +kernel
theorem dd_X9_reduceCell_18 : decode (zc mm_X9_reduceCell) 18 = .ok (.getfield 15, 3) := by decide +kernel
theorem dd_X9_reduceCell_21 : decode (zc mm_X9_reduceCell) 21 = .ok (.iload_n 1, 1) := by decide +kernel
theorem dd_X9_reduceCell_22 : decode (zc mm_X9_reduceCell) 22 = .ok (.iload_n 3, 1) := by decide +kernel
theorem dd_X9_reduceCell_23 : decode (zc mm_X9_reduceCell) 23 = .ok (.iadd, 1) := by decide +kernel
theorem dd_X9_reduceCell_24 : decode (zc mm_X9_reduceCell) 24 = .ok (.iaload, 1) := by decide +kernel
theorem dd_X9_reduceCell_25 : decode (zc mm_X9_reduceCell) 25 = .ok (.iload_n 2, 1) := by decide +kernel
theorem dd_X9_reduceCell_26 : decode (zc mm_X9_reduceCell) 26 = .ok (.invokestatic 79, 3) := by decide +kernel
theorem dd_X9_reduceCell_29 : decode (zc mm_X9_reduceCell) 29 = .ok (.iastore, 1) := by decide +kernel
theorem dd_X9_reduceCell_30 : decode (zc mm_X9_reduceCell) 30 = .ok (.iinc 3 1, 3) := by decide +kernel
theorem dd_X9_reduceCell_33 : decode (zc mm_X9_reduceCell) 33 = .ok (.goto (-31), 3) := by decide +kernel
theorem dd_X9_reduceCell_36 : decode (zc mm_X9_reduceCell) 36 = .ok (.return_, 1) := by decide +kernel
theorem dd_X9_fillSylvester_0 : decode (zc mm_X9_fillSylvester) 0 = .ok (.iload 4, 2) := by decide +kernel
theorem dd_X9_fillSylvester_2 : decode (zc mm_X9_fillSylvester) 2 = .ok (.iload 5, 2) := by decide +kernel
theorem dd_X9_fillSylvester_4 : decode (zc mm_X9_fillSylvester) 4 = .ok (.invokestatic 52, 3) := by decide +kernel
theorem dd_X9_fillSylvester_7 : decode (zc mm_X9_fillSylvester) 7 = .ok (.istore 6, 2) := by decide +kernel
theorem dd_X9_fillSylvester_9 : decode (zc mm_X9_fillSylvester) 9 = .ok (.iconst 0, 1) := by decide +kernel
theorem dd_X9_fillSylvester_10 : decode (zc mm_X9_fillSylvester) 10 = .ok (.istore 7, 2) := by decide +kernel
theorem dd_X9_fillSylvester_12 : decode (zc mm_X9_fillSylvester) 12 = .ok (.iload 7, 2) := by decide +kernel
theorem dd_X9_fillSylvester_14 : decode (zc mm_X9_fillSylvester) 14 = .ok (.iconst 4, 1) := by decide +kernel
theorem dd_X9_fillSylvester_15 : decode (zc mm_X9_fillSylvester) 15 = .ok (.if_icmp .gt 60, 3) := by decide +kernel
theorem dd_X9_fillSylvester_18 : decode (zc mm_X9_fillSylvester) 18 = .ok (.aload_n 0, 1) := by decide +kernel
theorem dd_X9_fillSylvester_19 : decode (zc mm_X9_fillSylvester) 19 = .ok (.getfield 15, 3) := by decide +kernel
theorem dd_X9_fillSylvester_22 : decode (zc mm_X9_fillSylvester) 22 = .ok (.iload 6, 2) := by decide +kernel
theorem dd_X9_fillSylvester_24 : decode (zc mm_X9_fillSylvester) 24 = .ok (.iload 7, 2) := by decide +kernel
theorem dd_X9_fillSylvester_26 : decode (zc mm_X9_fillSylvester) 26 = .ok (.iadd, 1) := by decide +kernel
theorem dd_X9_fillSylvester_27 : decode (zc mm_X9_fillSylvester) 27 = .ok (.iload 4, 2) := by decide +kernel
theorem dd_X9_fillSylvester_29 : decode (zc mm_X9_fillSylvester) 29 = .ok (.aload_n 0, 1) := by decide +kernel
theorem dd_X9_fillSylvester_30 : decode (zc mm_X9_fillSylvester) 30 = .ok (.getfield 66, 3) := by decide +kernel
theorem dd_X9_fillSylvester_33 : decode (zc mm_X9_fillSylvester) 33 = .ok (.if_icmp .ge 23, 3) := by decide +kernel
theorem dd_X9_fillSylvester_36 : decode (zc mm_X9_fillSylvester) 36 = .ok (.aload_n 1, 1) := by decide +kernel
theorem dd_X9_fillSylvester_37 : decode (zc mm_X9_fillSylvester) 37 = .ok (.iload_n 3, 1) := by decide +kernel
theorem dd_X9_fillSylvester_38 : decode (zc mm_X9_fillSylvester) 38 = .ok (.aload_n 0, 1) := by decide +kernel
theorem dd_X9_fillSylvester_39 : decode (zc mm_X9_fillSylvester) 39 = .ok (.getfield 63, 3) := by decide +kernel
theorem dd_X9_fillSylvester_42 : decode (zc mm_X9_fillSylvester) 42 = .ok (.iload 4, 2) := by decide +kernel
theorem dd_X9_fillSylvester_44 : decode (zc mm_X9_fillSylvester) 44 = .ok (.iadd, 1) := by decide +kernel
theorem dd_X9_fillSylvester_45 : decode (zc mm_X9_fillSylvester) 45 = .ok (.iload 5, 2) := by decide +kernel
theorem dd_X9_fillSylvester_47 : decode (zc mm_X9_fillSylvester) 47 = .ok (.isub, 1) := by decide +kernel
theorem dd_X9_fillSylvester_48 : decode (zc mm_X9_fillSylvester) 48 = .ok (.iload 7, 2) := by decide +kernel
theorem dd_X9_fillSylvester_50 : decode (zc mm_X9_fillSylvester) 50 = .ok (.invokevirtual 82, 3) := by decide +kernel
theorem dd_X9_fillSylvester_53 : decode (zc mm_X9_fillSylvester) 53 = .ok (.goto 15, 3) := by decide +kernel
theorem dd_X9_fillSylvester_56 : decode (zc mm_X9_fillSylvester) 56 = .ok (.aload_n 2, 1) := by decide +kernel
theorem dd_X9_fillSylvester_57 : decode (zc mm_X9_fillSylvester) 57 = .ok (.iload_n 3, 1) := by decide +kernel
theorem dd_X9_fillSylvester_58 : decode (zc mm_X9_fillSylvester) 58 = .ok (.iload 4, 2) := by decide +kernel
theorem dd_X9_fillSylvester_60 : decode (zc mm_X9_fillSylvester) 60 = .ok (.iload 5, 2) := by decide +kernel
theorem dd_X9_fillSylvester_62 : decode (zc mm_X9_fillSylvester) 62 = .ok (.isub, 1) := by decide +kernel
theorem dd_X9_fillSylvester_63 : decode (zc mm_X9_fillSylvester) 63 = .ok (.iload 7, 2) := by decide +kernel
theorem dd_X9_fillSylvester_65 : decode (zc mm_X9_fillSylvester) 65 = .ok (.invokevirtual 82, 3) := by decide +kernel
theorem dd_X9_fillSylvester_68 : decode (zc mm_X9_fillSylvester) 68 = .ok (.iastore, 1) := by decide +kernel
theorem dd_X9_fillSylvester_69 : decode (zc mm_X9_fillSylvester) 69 = .ok (.iinc 7 1, 3) := by decide +kernel
theorem dd_X9_fillSylvester_72 : decode (zc mm_X9_fillSylvester) 72 = .ok (.goto (-60), 3) := by decide +kernel
theorem dd_X9_fillSylvester_75 : decode (zc mm_X9_fillSylvester) 75 = .ok (.return_, 1) := by decide +kernel
theorem dd_X9_fillBezout_0 : decode (zc mm_X9_fillBezout) 0 = .ok (.iload 4, 2) := by decide +kernel
theorem dd_X9_fillBezout_2 : decode (zc mm_X9_fillBezout) 2 = .ok (.iload 5, 2) := by decide +kernel
theorem dd_X9_fillBezout_4 : decode (zc mm_X9_fillBezout) 4 = .ok (.invokestatic 52, 3) := by decide +kernel
theorem dd_X9_fillBezout_7 : decode (zc mm_X9_fillBezout) 7 = .ok (.istore 6, 2) := by decide +kernel
theorem dd_X9_fillBezout_9 : decode (zc mm_X9_fillBezout) 9 = .ok (.iload 4, 2) := by decide +kernel
theorem dd_X9_fillBezout_11 : decode (zc mm_X9_fillBezout) 11 = .ok (.aload_n 0, 1) := by decide +kernel
theorem dd_X9_fillBezout_12 : decode (zc mm_X9_fillBezout) 12 = .ok (.getfield 39, 3) := by decide +kernel
theorem dd_X9_fillBezout_15 : decode (zc mm_X9_fillBezout) 15 = .ok (.iconst 1, 1) := by decide +kernel
theorem dd_X9_fillBezout_16 : decode (zc mm_X9_fillBezout) 16 = .ok (.isub, 1) := by decide +kernel
theorem dd_X9_fillBezout_17 : decode (zc mm_X9_fillBezout) 17 = .ok (.iload 5, 2) := by decide +kernel
theorem dd_X9_fillBezout_19 : decode (zc mm_X9_fillBezout) 19 = .ok (.isub, 1) := by decide +kernel
theorem dd_X9_fillBezout_20 : decode (zc mm_X9_fillBezout) 20 = .ok (.invokestatic 36, 3) := by decide +kernel
theorem dd_X9_fillBezout_23 : decode (zc mm_X9_fillBezout) 23 = .ok (.istore 7, 2) := by decide +kernel
theorem dd_X9_fillBezout_25 : decode (zc mm_X9_fillBezout) 25 = .ok (.iconst 0, 1) := by decide +kernel
theorem dd_X9_fillBezout_26 : decode (zc mm_X9_fillBezout) 26 = .ok (.istore 8, 2) := by decide +kernel
theorem dd_X9_fillBezout_28 : decode (zc mm_X9_fillBezout) 28 = .ok (.iload 8, 2) := by decide +kernel
theorem dd_X9_fillBezout_30 : decode (zc mm_X9_fillBezout) 30 = .ok (.iload 7, 2) := by decide +kernel
theorem dd_X9_fillBezout_32 : decode (zc mm_X9_fillBezout) 32 = .ok (.if_icmp .gt 110, 3) := by decide +kernel
theorem dd_X9_fillBezout_35 : decode (zc mm_X9_fillBezout) 35 = .ok (.iconst 0, 1) := by decide +kernel
theorem dd_X9_fillBezout_36 : decode (zc mm_X9_fillBezout) 36 = .ok (.istore 9, 2) := by decide +kernel
theorem dd_X9_fillBezout_38 : decode (zc mm_X9_fillBezout) 38 = .ok (.iload 9, 2) := by decide +kernel
theorem dd_X9_fillBezout_40 : decode (zc mm_X9_fillBezout) 40 = .ok (.iconst 4, 1) := by decide +kernel
theorem dd_X9_fillBezout_41 : decode (zc mm_X9_fillBezout) 41 = .ok (.if_icmp .gt 95, 3) := by decide +kernel
theorem dd_X9_fillBezout_44 : decode (zc mm_X9_fillBezout) 44 = .ok (.iconst 0, 1) := by decide +kernel
theorem dd_X9_fillBezout_45 : decode (zc mm_X9_fillBezout) 45 = .ok (.istore 10, 2) := by decide +kernel
theorem dd_X9_fillBezout_47 : decode (zc mm_X9_fillBezout) 47 = .ok (.iload 10, 2) := by decide +kernel
theorem dd_X9_fillBezout_49 : decode (zc mm_X9_fillBezout) 49 = .ok (.iconst 4, 1) := by decide +kernel
theorem dd_X9_fillBezout_50 : decode (zc mm_X9_fillBezout) 50 = .ok (.if_icmp .gt 80, 3) := by decide +kernel
theorem dd_X9_fillBezout_53 : decode (zc mm_X9_fillBezout) 53 = .ok (.aload_n 0, 1) := by decide +kernel
theorem dd_X9_fillBezout_54 : decode (zc mm_X9_fillBezout) 54 = .ok (.getfield 15, 3) := by decide +kernel
theorem dd_X9_fillBezout_57 : decode (zc mm_X9_fillBezout) 57 = .ok (.iload 6, 2) := by decide +kernel
theorem dd_X9_fillBezout_59 : decode (zc mm_X9_fillBezout) 59 = .ok (.iload 9, 2) := by decide +kernel
theorem dd_X9_fillBezout_61 : decode (zc mm_X9_fillBezout) 61 = .ok (.iadd, 1) := by decide +kernel
theorem dd_X9_fillBezout_62 : decode (zc mm_X9_fillBezout) 62 = .ok (.iload 10, 2) := by decide +kernel
theorem dd_X9_fillBezout_64 : decode (zc mm_X9_fillBezout) 64 = .ok (.iadd, 1) := by decide +kernel
theorem dd_X9_fillBezout_65 : decode (zc mm_X9_fillBezout) 65 = .ok (.dup2, 1) := by decide +kernel
theorem dd_X9_fillBezout_66 : decode (zc mm_X9_fillBezout) 66 = .ok (.iaload, 1) := by decide +kernel
theorem dd_X9_fillBezout_67 : decode (zc mm_X9_fillBezout) 67 = .ok (.aload_n 1, 1) := by decide +kernel
theorem dd_X9_fillBezout_68 : decode (zc mm_X9_fillBezout) 68 = .ok (.iload_n 3, 1) := by decide +kernel
theorem dd_X9_fillBezout_69 : decode (zc mm_X9_fillBezout) 69 = .ok (.iload 5, 2) := by decide +kernel
theorem dd_X9_fillBezout_71 : decode (zc mm_X9_fillBezout) 71 = .ok (.iload 8, 2) := by decide +kernel
theorem dd_X9_fillBezout_73 : decode (zc mm_X9_fillBezout) 73 = .ok (.iadd, 1) := by decide +kernel
theorem dd_X9_fillBezout_74 : decode (zc mm_X9_fillBezout) 74 = .ok (.iconst 1, 1) := by decide +kernel
theorem dd_X9_fillBezout_75 : decode (zc mm_X9_fillBezout) 75 = .ok (.iadd, 1) := by decide +kernel
theorem dd_X9_fillBezout_76 : decode (zc mm_X9_fillBezout) 76 = .ok (.iload 9, 2) := by decide +kernel
theorem dd_X9_fillBezout_78 : decode (zc mm_X9_fillBezout) 78 = .ok (.invokevirtual 82, 3) := by decide +kernel
theorem dd_X9_fillBezout_81 : decode (zc mm_X9_fillBezout) 81 = .ok (.aload_n 2, 1) := by decide +kernel
theorem dd_X9_fillBezout_82 : decode (zc mm_X9_fillBezout) 82 = .ok (.iload_n 3, 1) := by decide +kernel
theorem dd_X9_fillBezout_83 : decode (zc mm_X9_fillBezout) 83 = .ok (.iload 4, 2) := by decide +kernel
theorem dd_X9_fillBezout_85 : decode (zc mm_X9_fillBezout) 85 = .ok (.iload 8, 2) := by decide +kernel
theorem dd_X9_fillBezout_87 : decode (zc mm_X9_fillBezout) 87 = .ok (.isub, 1) := by decide +kernel
theorem dd_X9_fillBezout_88 : decode (zc mm_X9_fillBezout) 88 = .ok (.iload 10, 2) := by decide +kernel
theorem dd_X9_fillBezout_90 : decode (zc mm_X9_fillBezout) 90 = .ok (.invokevirtual 82, 3) := by decide +kernel
theorem dd_X9_fillBezout_93 : decode (zc mm_X9_fillBezout) 93 = .ok (.imul, 1) := by decide +kernel
theorem dd_X9_fillBezout_94 : decode (zc mm_X9_fillBezout) 94 = .ok (.aload_n 1, 1) := by decide +kernel
theorem dd_X9_fillBezout_95 : decode (zc mm_X9_fillBezout) 95 = .ok (.iload_n 3, 1) := by decide +kernel
theorem dd_X9_fillBezout_96 : decode (zc mm_X9_fillBezout) 96 = .ok (.iload 4, 2) := by decide +kernel
theorem dd_X9_fillBezout_98 : decode (zc mm_X9_fillBezout) 98 = .ok (.iload 8, 2) := by decide +kernel
theorem dd_X9_fillBezout_100 : decode (zc mm_X9_fillBezout) 100 = .ok (.isub, 1) := by decide +kernel
theorem dd_X9_fillBezout_101 : decode (zc mm_X9_fillBezout) 101 = .ok (.iload 9, 2) := by decide +kernel
theorem dd_X9_fillBezout_103 : decode (zc mm_X9_fillBezout) 103 = .ok (.invokevirtual 82, 3) := by decide +kernel
theorem dd_X9_fillBezout_106 : decode (zc mm_X9_fillBezout) 106 = .ok (.aload_n 2, 1) := by decide +kernel
theorem dd_X9_fillBezout_107 : decode (zc mm_X9_fillBezout) 107 = .ok (.iload_n 3, 1) := by decide +kernel
theorem dd_X9_fillBezout_108 : decode (zc mm_X9_fillBezout) 108 = .ok (.iload 5, 2) := by decide +kernel
theorem dd_X9_fillBezout_110 : decode (zc mm_X9_fillBezout) 110 = .ok (.iload 8, 2) := by decide +kernel
theorem dd_X9_fillBezout_112 : decode (zc mm_X9_fillBezout) 112 = .ok (.iadd, 1) := by decide +kernel
theorem dd_X9_fillBezout_113 : decode (zc mm_X9_fillBezout) 113 = .ok (.iconst 1, 1) := by decide +kernel
theorem dd_X9_fillBezout_114 : decode (zc mm_X9_fillBezout) 114 = .ok (.iadd, 1) := by decide +kernel
theorem dd_X9_fillBezout_115 : decode (zc mm_X9_fillBezout) 115 = .ok (.iload 10, 2) := by decide +kernel
theorem dd_X9_fillBezout_117 : decode (zc mm_X9_fillBezout) 117 = .ok (.invokevirtual 82, 3) := by decide +kernel
theorem dd_X9_fillBezout_120 : decode (zc mm_X9_fillBezout) 120 = .ok (.imul, 1) := by decide +kernel
theorem dd_X9_fillBezout_121 : decode (zc mm_X9_fillBezout) 121 = .ok (.isub, 1) := by decide +kernel
theorem dd_X9_fillBezout_122 : decode (zc mm_X9_fillBezout) 122 = .ok (.iadd, 1) := by decide +kernel
theorem dd_X9_fillBezout_123 : decode (zc mm_X9_fillBezout) 123 = .ok (.iastore, 1) := by decide +kernel
theorem dd_X9_fillBezout_124 : decode (zc mm_X9_fillBezout) 124 = .ok (.iinc 10 1, 3) := by decide +kernel
theorem dd_X9_fillBezout_127 : decode (zc mm_X9_fillBezout) 127 = .ok (.goto (-80), 3) := by decide +kernel
theorem dd_X9_fillBezout_130 : decode (zc mm_X9_fillBezout) 130 = .ok (.iinc 9 1, 3) := by decide +kernel
theorem dd_X9_fillBezout_133 : decode (zc mm_X9_fillBezout) 133 = .ok (.goto (-95), 3) := by decide +kernel
theorem dd_X9_fillBezout_136 : decode (zc mm_X9_fillBezout) 136 = .ok (.iinc 8 1, 3) := by decide +kernel
theorem dd_X9_fillBezout_139 : decode (zc mm_X9_fillBezout) 139 = .ok (.goto (-111), 3) := by decide +kernel
theorem dd_X9_fillBezout_142 : decode (zc mm_X9_fillBezout) 142 = .ok (.return_, 1) := by decide +kernel
theorem dd_X9_expand_0 : decode (zc mm_X9_expand) 0 = .ok (.aload_n 0, 1) := by decide +kernel
theorem dd_X9_expand_1 : decode (zc mm_X9_expand) 1 = .ok (.getfield 9, 3) := by decide +kernel
theorem dd_X9_expand_4 : decode (zc mm_X9_expand) 4 = .ok (.iconst 0, 1) := by decide +kernel
theorem dd_X9_expand_5 : decode (zc mm_X9_expand) 5 = .ok (.invokestatic 46, 3) := by decide +kernel
theorem dd_X9_expand_8 : decode (zc mm_X9_expand) 8 = .ok (.aload_n 0, 1) := by decide +kernel
theorem dd_X9_expand_9 : decode (zc mm_X9_expand) 9 = .ok (.getfield 18, 3) := by decide +kernel
theorem dd_X9_expand_12 : decode (zc mm_X9_expand) 12 = .ok (.iconst 0, 1) := by decide +kernel
theorem dd_X9_expand_13 : decode (zc mm_X9_expand) 13 = .ok (.iconst 1, 1) := by decide +kernel
theorem dd_X9_expand_14 : decode (zc mm_X9_expand) 14 = .ok (.iastore, 1) := by decide +kernel
theorem dd_X9_expand_15 : decode (zc mm_X9_expand) 15 = .ok (.aload_n 0, 1) := by decide +kernel
theorem dd_X9_expand_16 : decode (zc mm_X9_expand) 16 = .ok (.getfield 21, 3) := by decide +kernel
theorem dd_X9_expand_19 : decode (zc mm_X9_expand) 19 = .ok (.iconst 0, 1) := by decide +kernel
theorem dd_X9_expand_20 : decode (zc mm_X9_expand) 20 = .ok (.iconst 0, 1) := by decide +kernel
theorem dd_X9_expand_21 : decode (zc mm_X9_expand) 21 = .ok (.iastore, 1) := by decide +kernel
theorem dd_X9_expand_22 : decode (zc mm_X9_expand) 22 = .ok (.iconst 1, 1) := by decide +kernel
theorem dd_X9_expand_23 : decode (zc mm_X9_expand) 23 = .ok (.aload_n 0, 1) := by decide +kernel
theorem dd_X9_expand_24 : decode (zc mm_X9_expand) 24 = .ok (.getfield 39, 3) := by decide +kernel
theorem dd_X9_expand_27 : decode (zc mm_X9_expand) 27 = .ok (.ishl, 1) := by decide +kernel
theorem dd_X9_expand_28 : decode (zc mm_X9_expand) 28 = .ok (.iconst 1, 1) := by decide +kernel
theorem dd_X9_expand_29 : decode (zc mm_X9_expand) 29 = .ok (.isub, 1) := by decide +kernel
theorem dd_X9_expand_30 : decode (zc mm_X9_expand) 30 = .ok (.istore_n 2, 1) := by decide +kernel
theorem dd_X9_expand_31 : decode (zc mm_X9_expand) 31 = .ok (.iconst 1, 1) := by decide +kernel
theorem dd_X9_expand_32 : decode (zc mm_X9_expand) 32 = .ok (.istore_n 3, 1) := by decide +kernel
theorem dd_X9_expand_33 : decode (zc mm_X9_expand) 33 = .ok (.iload_n 3, 1) := by decide +kernel
theorem dd_X9_expand_34 : decode (zc mm_X9_expand) 34 = .ok (.iload_n 2, 1) := by decide +kernel
theorem dd_X9_expand_35 : decode (zc mm_X9_expand) 35 = .ok (.if_icmp .gt 15, 3) := by decide +kernel
theorem dd_X9_expand_38 : decode (zc mm_X9_expand) 38 = .ok (.aload_n 0, 1) := by decide +kernel
theorem dd_X9_expand_39 : decode (zc mm_X9_expand) 39 = .ok (.iload_n 3, 1) := by decide +kernel
theorem dd_X9_expand_40 : decode (zc mm_X9_expand) 40 = .ok (.iload_n 1, 1) := by decide +kernel
theorem dd_X9_expand_41 : decode (zc mm_X9_expand) 41 = .ok (.invokevirtual 86, 3) := by decide +kernel
theorem dd_X9_expand_44 : decode (zc mm_X9_expand) 44 = .ok (.iinc 3 1, 3) := by decide +kernel
theorem dd_X9_expand_47 : decode (zc mm_X9_expand) 47 = .ok (.goto (-14), 3) := by decide +kernel
theorem dd_X9_expand_50 : decode (zc mm_X9_expand) 50 = .ok (.iconst 0, 1) := by decide +kernel
theorem dd_X9_expand_51 : decode (zc mm_X9_expand) 51 = .ok (.istore_n 3, 1) := by decide +kernel
theorem dd_X9_expand_52 : decode (zc mm_X9_expand) 52 = .ok (.iload_n 3, 1) := by decide +kernel
theorem dd_X9_expand_53 : decode (zc mm_X9_expand) 53 = .ok (.aload_n 0, 1) := by decide +kernel
theorem dd_X9_expand_54 : decode (zc mm_X9_expand) 54 = .ok (.getfield 21, 3) := by decide +kernel
theorem dd_X9_expand_57 : decode (zc mm_X9_expand) 57 = .ok (.iload_n 2, 1) := by decide +kernel
theorem dd_X9_expand_58 : decode (zc mm_X9_expand) 58 = .ok (.iaload, 1) := by decide +kernel
theorem dd_X9_expand_59 : decode (zc mm_X9_expand) 59 = .ok (.if_icmp .gt 26, 3) := by decide +kernel
theorem dd_X9_expand_62 : decode (zc mm_X9_expand) 62 = .ok (.aload_n 0, 1) := by decide +kernel
theorem dd_X9_expand_63 : decode (zc mm_X9_expand) 63 = .ok (.getfield 9, 3) := by decide +kernel
theorem dd_X9_expand_66 : decode (zc mm_X9_expand) 66 = .ok (.iload_n 3, 1) := by decide +kernel
theorem dd_X9_expand_67 : decode (zc mm_X9_expand) 67 = .ok (.aload_n 0, 1) := by decide +kernel
theorem dd_X9_expand_68 : decode (zc mm_X9_expand) 68 = .ok (.getfield 18, 3) := by decide +kernel
theorem dd_X9_expand_71 : decode (zc mm_X9_expand) 71 = .ok (.bipush 33, 2) := by decide +kernel
theorem dd_X9_expand_73 : decode (zc mm_X9_expand) 73 = .ok (.iload_n 2, 1) := by decide +kernel
theorem dd_X9_expand_74 : decode (zc mm_X9_expand) 74 = .ok (.imul, 1) := by decide +kernel
theorem dd_X9_expand_75 : decode (zc mm_X9_expand) 75 = .ok (.iload_n 3, 1) := by decide +kernel
theorem dd_X9_expand_76 : decode (zc mm_X9_expand) 76 = .ok (.iadd, 1) := by decide +kernel
theorem dd_X9_expand_77 : decode (zc mm_X9_expand) 77 = .ok (.iaload, 1) := by decide +kernel
theorem dd_X9_expand_78 : decode (zc mm_X9_expand) 78 = .ok (.iastore, 1) := by decide +kernel
theorem dd_X9_expand_79 : decode (zc mm_X9_expand) 79 = .ok (.iinc 3 1, 3) := by decide +kernel
theorem dd_X9_expand_82 : decode (zc mm_X9_expand) 82 = .ok (.goto (-30), 3) := by decide +kernel
theorem dd_X9_expand_85 : decode (zc mm_X9_expand) 85 = .ok (.return_, 1) := by decide +kernel
theorem dd_X9_expandSet_0 : decode (zc mm_X9_expandSet) 0 = .ok (.bipush 33, 2) := by decide +kernel
theorem dd_X9_expandSet_2 : decode (zc mm_X9_expandSet) 2 = .ok (.iload_n 1, 1) := by decide +kernel
theorem dd_X9_expandSet_3 : decode (zc mm_X9_expandSet) 3 = .ok (.imul, 1) := by decide +kernel
theorem dd_X9_expandSet_4 : decode (zc mm_X9_expandSet) 4 = .ok (.istore_n 3, 1) := by decide +kernel
theorem dd_X9_expandSet_5 : decode (zc mm_X9_expandSet) 5 = .ok (.iload_n 1, 1) := by decide +kernel
theorem dd_X9_expandSet_6 : decode (zc mm_X9_expandSet) 6 = .ok (.invokestatic 89, 3) := by decide +kernel
theorem dd_X9_expandSet_9 : decode (zc mm_X9_expandSet) 9 = .ok (.iconst 1, 1) := by decide +kernel
theorem dd_X9_expandSet_10 : decode (zc mm_X9_expandSet) 10 = .ok (.isub, 1) := by decide +kernel
theorem dd_X9_expandSet_11 : decode (zc mm_X9_expandSet) 11 = .ok (.istore 4, 2) := by decide +kernel
theorem dd_X9_expandSet_13 : decode (zc mm_X9_expandSet) 13 = .ok (.iload 4, 2) := by decide +kernel
theorem dd_X9_expandSet_15 : decode (zc mm_X9_expandSet) 15 = .ok (.iconst 1, 1) := by decide +kernel
theorem dd_X9_expandSet_16 : decode (zc mm_X9_expandSet) 16 = .ok (.iadd, 1) := by decide +kernel
theorem dd_X9_expandSet_17 : decode (zc mm_X9_expandSet) 17 = .ok (.aload_n 0, 1) := by decide +kernel
theorem dd_X9_expandSet_18 : decode (zc mm_X9_expandSet) 18 = .ok (.getfield 43, 3) := by decide +kernel
theorem dd_X9_expandSet_21 : decode (zc mm_X9_expandSet) 21 = .ok (.imul, 1) := by decide +kernel
theorem dd_X9_expandSet_22 : decode (zc mm_X9_expandSet) 22 = .ok (.bipush 32, 2) := by decide +kernel
theorem dd_X9_expandSet_24 : decode (zc mm_X9_expandSet) 24 = .ok (.invokestatic 36, 3) := by decide +kernel
theorem dd_X9_expandSet_27 : decode (zc mm_X9_expandSet) 27 = .ok (.istore 5, 2) := by decide +kernel
theorem dd_X9_expandSet_29 : decode (zc mm_X9_expandSet) 29 = .ok (.iconst 0, 1) := by decide +kernel
theorem dd_X9_expandSet_30 : decode (zc mm_X9_expandSet) 30 = .ok (.istore 6, 2) := by decide +kernel
theorem dd_X9_expandSet_32 : decode (zc mm_X9_expandSet) 32 = .ok (.iload 6, 2) := by decide +kernel
theorem dd_X9_expandSet_34 : decode (zc mm_X9_expandSet) 34 = .ok (.iload 5, 2) := by decide +kernel
theorem dd_X9_expandSet_36 : decode (zc mm_X9_expandSet) 36 = .ok (.if_icmp .gt 19, 3) := by decide +kernel
theorem dd_X9_expandSet_39 : decode (zc mm_X9_expandSet) 39 = .ok (.aload_n 0, 1) := by decide +kernel
theorem dd_X9_expandSet_40 : decode (zc mm_X9_expandSet) 40 = .ok (.getfield 18, 3) := by decide +kernel
theorem dd_X9_expandSet_43 : decode (zc mm_X9_expandSet) 43 = .ok (.iload_n 3, 1) := by decide +kernel
theorem dd_X9_expandSet_44 : decode (zc mm_X9_expandSet) 44 = .ok (.iload 6, 2) := by decide +kernel
theorem dd_X9_expandSet_46 : decode (zc mm_X9_expandSet) 46 = .ok (.iadd, 1) := by decide +kernel
theorem dd_X9_expandSet_47 : decode (zc mm_X9_expandSet) 47 = .ok (.iconst 0, 1) := by decide +kernel
theorem dd_X9_expandSet_48 : decode (zc mm_X9_expandSet) 48 = .ok (.iastore, 1) := by decide +kernel
theorem dd_X9_expandSet_49 : decode (zc mm_X9_expandSet) 49 = .ok (.iinc 6 1, 3) := by decide +kernel
theorem dd_X9_expandSet_52 : decode (zc mm_X9_expandSet) 52 = .ok (.goto (-20), 3) := by decide +kernel
theorem dd_X9_expandSet_55 : decode (zc mm_X9_expandSet) 55 = .ok (.iconst 1, 1) := by decide +kernel
theorem dd_X9_expandSet_56 : decode (zc mm_X9_expandSet) 56 = .ok (.istore 6, 2) := by decide +kernel
theorem dd_X9_expandSet_58 : decode (zc mm_X9_expandSet) 58 = .ok (.aload_n 0, 1) := by decide +kernel
theorem dd_X9_expandSet_59 : decode (zc mm_X9_expandSet) 59 = .ok (.getfield 39, 3) := by decide +kernel
theorem dd_X9_expandSet_62 : decode (zc mm_X9_expandSet) 62 = .ok (.iconst 1, 1) := by decide +kernel
theorem dd_X9_expandSet_63 : decode (zc mm_X9_expandSet) 63 = .ok (.isub, 1) := by decide +kernel
theorem dd_X9_expandSet_64 : decode (zc mm_X9_expandSet) 64 = .ok (.istore 7, 2) := by decide +kernel
theorem dd_X9_expandSet_66 : decode (zc mm_X9_expandSet) 66 = .ok (.iload 7, 2) := by decide +kernel
theorem dd_X9_expandSet_68 : decode (zc mm_X9_expandSet) 68 = .ok (.ifCond .lt 43, 3) := by decide +kernel
theorem dd_X9_expandSet_71 : decode (zc mm_X9_expandSet) 71 = .ok (.iload_n 1, 1) := by decide +kernel
theorem dd_X9_expandSet_72 : decode (zc mm_X9_expandSet) 72 = .ok (.iload 7, 2) := by decide +kernel
theorem dd_X9_expandSet_74 : decode (zc mm_X9_expandSet) 74 = .ok (.ishr, 1) := by decide +kernel
theorem dd_X9_expandSet_75 : decode (zc mm_X9_expandSet) 75 = .ok (.iconst 1, 1) := by decide +kernel
theorem dd_X9_expandSet_76 : decode (zc mm_X9_expandSet) 76 = .ok (.iand, 1) := by decide +kernel
theorem dd_X9_expandSet_77 : decode (zc mm_X9_expandSet) 77 = .ok (.ifCond .eq 28, 3) := by decide +kernel
theorem dd_X9_expandSet_80 : decode (zc mm_X9_expandSet) 80 = .ok (.aload_n 0, 1) := by decide +kernel
theorem dd_X9_expandSet_81 : decode (zc mm_X9_expandSet) 81 = .ok (.iload_n 3, 1) := by decide +kernel
theorem dd_X9_expandSet_82 : decode (zc mm_X9_expandSet) 82 = .ok (.iload 4, 2) := by decide +kernel
theorem dd_X9_expandSet_84 : decode (zc mm_X9_expandSet) 84 = .ok (.iload 7, 2) := by decide +kernel
theorem dd_X9_expandSet_86 : decode (zc mm_X9_expandSet) 86 = .ok (.invokestatic 52, 3) := by decide +kernel
theorem dd_X9_expandSet_89 : decode (zc mm_X9_expandSet) 89 = .ok (.iload_n 1, 1) := by decide +kernel
theorem dd_X9_expandSet_90 : decode (zc mm_X9_expandSet) 90 = .ok (.iconst 1, 1) := by decide +kernel
theorem dd_X9_expandSet_91 : decode (zc mm_X9_expandSet) 91 = .ok (.iload 7, 2) := by decide +kernel
theorem dd_X9_expandSet_93 : decode (zc mm_X9_expandSet) 93 = .ok (.ishl, 1) := by decide +kernel
theorem dd_X9_expandSet_94 : decode (zc mm_X9_expandSet) 94 = .ok (.ixor, 1) := by decide +kernel
theorem dd_X9_expandSet_95 : decode (zc mm_X9_expandSet) 95 = .ok (.iload 6, 2) := by decide +kernel
theorem dd_X9_expandSet_97 : decode (zc mm_X9_expandSet) 97 = .ok (.invokevirtual 94, 3) := by decide +kernel
theorem dd_X9_expandSet_100 : decode (zc mm_X9_expandSet) 100 = .ok (.iload 6, 2) := by decide +kernel
theorem dd_X9_expandSet_102 : decode (zc mm_X9_expandSet) 102 = .ok (.ineg, 1) := by decide +kernel
theorem dd_X9_expandSet_103 : decode (zc mm_X9_expandSet) 103 = .ok (.istore 6, 2) := by decide +kernel
theorem dd_X9_expandSet_105 : decode (zc mm_X9_expandSet) 105 = .ok (.iinc 7 (-1), 3) := by decide +kernel
theorem dd_X9_expandSet_108 : decode (zc mm_X9_expandSet) 108 = .ok (.goto (-42), 3) := by decide +kernel
theorem dd_X9_expandSet_111 : decode (zc mm_X9_expandSet) 111 = .ok (.aload_n 0, 1) := by decide +kernel
theorem dd_X9_expandSet_112 : decode (zc mm_X9_expandSet) 112 = .ok (.getfield 21, 3) := by decide +kernel
theorem dd_X9_expandSet_115 : decode (zc mm_X9_expandSet) 115 = .ok (.iload_n 1, 1) := by decide +kernel
theorem dd_X9_expandSet_116 : decode (zc mm_X9_expandSet) 116 = .ok (.iconst (-1), 1) := by decide +kernel
theorem dd_X9_expandSet_117 : decode (zc mm_X9_expandSet) 117 = .ok (.iastore, 1) := by decide +kernel
theorem dd_X9_expandSet_118 : decode (zc mm_X9_expandSet) 118 = .ok (.iconst 0, 1) := by decide +kernel
theorem dd_X9_expandSet_119 : decode (zc mm_X9_expandSet) 119 = .ok (.istore 7, 2) := by decide +kernel
theorem dd_X9_expandSet_121 : decode (zc mm_X9_expandSet) 121 = .ok (.iload 7, 2) := by decide +kernel
theorem dd_X9_expandSet_123 : decode (zc mm_X9_expandSet) 123 = .ok (.iload 5, 2) := by decide +kernel
theorem dd_X9_expandSet_125 : decode (zc mm_X9_expandSet) 125 = .ok (.if_icmp .gt 66, 3) := by decide +kernel
theorem dd_X9_expandSet_128 : decode (zc mm_X9_expandSet) 128 = .ok (.aload_n 0, 1) := by decide +kernel
theorem dd_X9_expandSet_129 : decode (zc mm_X9_expandSet) 129 = .ok (.getfield 18, 3) := by decide +kernel
theorem dd_X9_expandSet_132 : decode (zc mm_X9_expandSet) 132 = .ok (.iload_n 3, 1) := by decide +kernel
theorem dd_X9_expandSet_133 : decode (zc mm_X9_expandSet) 133 = .ok (.iload 7, 2) := by decide +kernel
theorem dd_X9_expandSet_135 : decode (zc mm_X9_expandSet) 135 = .ok (.iadd, 1) := by decide +kernel
theorem dd_X9_expandSet_136 : decode (zc mm_X9_expandSet) 136 = .ok (.iaload, 1) := by decide +kernel
theorem dd_X9_expandSet_137 : decode (zc mm_X9_expandSet) 137 = .ok (.istore 8, 2) := by decide +kernel
theorem dd_X9_expandSet_139 : decode (zc mm_X9_expandSet) 139 = .ok (.iload 8, 2) := by decide +kernel
theorem dd_X9_expandSet_141 : decode (zc mm_X9_expandSet) 141 = .ok (.ifCond .eq 44, 3) := by decide +kernel
theorem dd_X9_expandSet_144 : decode (zc mm_X9_expandSet) 144 = .ok (.iload 8, 2) := by decide +kernel
theorem dd_X9_expandSet_146 : decode (zc mm_X9_expandSet) 146 = .ok (.iload_n 2, 1) := by decide +kernel
theorem dd_X9_expandSet_147 : decode (zc mm_X9_expandSet) 147 = .ok (.invokestatic 79, 3) := by decide +kernel
theorem dd_X9_expandSet_150 : decode (zc mm_X9_expandSet) 150 = .ok (.istore 8, 2) := by decide +kernel
theorem dd_X9_expandSet_152 : decode (zc mm_X9_expandSet) 152 = .ok (.aload_n 0, 1) := by decide +kernel
theorem dd_X9_expandSet_153 : decode (zc mm_X9_expandSet) 153 = .ok (.getfield 18, 3) := by decide +kernel
theorem dd_X9_expandSet_156 : decode (zc mm_X9_expandSet) 156 = .ok (.iload_n 3, 1) := by decide +kernel
theorem dd_X9_expandSet_157 : decode (zc mm_X9_expandSet) 157 = .ok (.iload 7, 2) := by decide +kernel
theorem dd_X9_expandSet_159 : decode (zc mm_X9_expandSet) 159 = .ok (.iadd, 1) := by decide +kernel
theorem dd_X9_expandSet_160 : decode (zc mm_X9_expandSet) 160 = .ok (.iload 8, 2) := by decide +kernel
theorem dd_X9_expandSet_162 : decode (zc mm_X9_expandSet) 162 = .ok (.iastore, 1) := by decide +kernel
theorem dd_X9_expandSet_163 : decode (zc mm_X9_expandSet) 163 = .ok (.aload_n 0, 1) := by decide +kernel
theorem dd_X9_expandSet_164 : decode (zc mm_X9_expandSet) 164 = .ok (.getfield 21, 3) := by decide +kernel
theorem dd_X9_expandSet_167 : decode (zc mm_X9_expandSet) 167 = .ok (.iload_n 1, 1) := by decide +kernel
theorem dd_X9_expandSet_168 : decode (zc mm_X9_expandSet) 168 = .ok (.iload 8, 2) := by decide +kernel
theorem dd_X9_expandSet_170 : decode (zc mm_X9_expandSet) 170 = .ok (.ifCond .eq 8, 3) := by decide +kernel
theorem dd_X9_expandSet_173 : decode (zc mm_X9_expandSet) 173 = .ok (.iload 7, 2) := by decide +kernel
theorem dd_X9_expandSet_175 : decode (zc mm_X9_expandSet) 175 = .ok (.goto 9, 3) := by decide +kernel
theorem dd_X9_expandSet_178 : decode (zc mm_X9_expandSet) 178 = .ok (.aload_n 0, 1) := by decide +kernel
theorem dd_X9_expandSet_179 : decode (zc mm_X9_expandSet) 179 = .ok (.getfield 21, 3) := by decide +kernel
theorem dd_X9_expandSet_182 : decode (zc mm_X9_expandSet) 182 = .ok (.iload_n 1, 1) := by decide +kernel
theorem dd_X9_expandSet_183 : decode (zc mm_X9_expandSet) 183 = .ok (.iaload, 1) := by decide +kernel
theorem dd_X9_expandSet_184 : decode (zc mm_X9_expandSet) 184 = .ok (.iastore, 1) := by decide +kernel
theorem dd_X9_expandSet_185 : decode (zc mm_X9_expandSet) 185 = .ok (.iinc 7 1, 3) := by decide +kernel
theorem dd_X9_expandSet_188 : decode (zc mm_X9_expandSet) 188 = .ok (.goto (-67), 3) := by decide +kernel
theorem dd_X9_expandSet_191 : decode (zc mm_X9_expandSet) 191 = .ok (.return_, 1) := by decide +kernel
theorem dd_X9_addMultiple_0 : decode (zc mm_X9_addMultiple) 0 = .ok (.bipush 33, 2) := by decide +kernel
theorem dd_X9_addMultiple_2 : decode (zc mm_X9_addMultiple) 2 = .ok (.iload_n 3, 1) := by decide +kernel
theorem dd_X9_addMultiple_3 : decode (zc mm_X9_addMultiple) 3 = .ok (.imul, 1) := by decide +kernel
theorem dd_X9_addMultiple_4 : decode (zc mm_X9_addMultiple) 4 = .ok (.istore 5, 2) := by decide +kernel
theorem dd_X9_addMultiple_6 : decode (zc mm_X9_addMultiple) 6 = .ok (.aload_n 0, 1) := by decide +kernel
theorem dd_X9_addMultiple_7 : decode (zc mm_X9_addMultiple) 7 = .ok (.getfield 21, 3) := by decide +kernel
theorem dd_X9_addMultiple_10 : decode (zc mm_X9_addMultiple) 10 = .ok (.iload_n 3, 1) := by decide +kernel
theorem dd_X9_addMultiple_11 : decode (zc mm_X9_addMultiple) 11 = .ok (.iaload, 1) := by decide +kernel
theorem dd_X9_addMultiple_12 : decode (zc mm_X9_addMultiple) 12 = .ok (.istore 6, 2) := by decide +kernel
theorem dd_X9_addMultiple_14 : decode (zc mm_X9_addMultiple) 14 = .ok (.iconst 0, 1) := by decide +kernel
theorem dd_X9_addMultiple_15 : decode (zc mm_X9_addMultiple) 15 = .ok (.istore 7, 2) := by decide +kernel
theorem dd_X9_addMultiple_17 : decode (zc mm_X9_addMultiple) 17 = .ok (.iload 7, 2) := by decide +kernel
theorem dd_X9_addMultiple_19 : decode (zc mm_X9_addMultiple) 19 = .ok (.aload_n 0, 1) := by decide +kernel
theorem dd_X9_addMultiple_20 : decode (zc mm_X9_addMultiple) 20 = .ok (.getfield 43, 3) := by decide +kernel
theorem dd_X9_addMultiple_23 : decode (zc mm_X9_addMultiple) 23 = .ok (.if_icmp .gt 75, 3) := by decide +kernel
theorem dd_X9_addMultiple_26 : decode (zc mm_X9_addMultiple) 26 = .ok (.iload 4, 2) := by decide +kernel
theorem dd_X9_addMultiple_28 : decode (zc mm_X9_addMultiple) 28 = .ok (.aload_n 0, 1) := by decide +kernel
theorem dd_X9_addMultiple_29 : decode (zc mm_X9_addMultiple) 29 = .ok (.getfield 15, 3) := by decide +kernel
theorem dd_X9_addMultiple_32 : decode (zc mm_X9_addMultiple) 32 = .ok (.iload_n 2, 1) := by decide +kernel
theorem dd_X9_addMultiple_33 : decode (zc mm_X9_addMultiple) 33 = .ok (.iload 7, 2) := by decide +kernel
theorem dd_X9_addMultiple_35 : decode (zc mm_X9_addMultiple) 35 = .ok (.iadd, 1) := by decide +kernel
theorem dd_X9_addMultiple_36 : decode (zc mm_X9_addMultiple) 36 = .ok (.iaload, 1) := by decide +kernel
theorem dd_X9_addMultiple_37 : decode (zc mm_X9_addMultiple) 37 = .ok (.imul, 1) := by decide +kernel
theorem dd_X9_addMultiple_38 : decode (zc mm_X9_addMultiple) 38 = .ok (.istore 8, 2) := by decide +kernel
theorem dd_X9_addMultiple_40 : decode (zc mm_X9_addMultiple) 40 = .ok (.iload 8, 2) := by decide +kernel
theorem dd_X9_addMultiple_42 : decode (zc mm_X9_addMultiple) 42 = .ok (.ifCond .ne 6, 3) := by decide +kernel
theorem dd_X9_addMultiple_45 : decode (zc mm_X9_addMultiple) 45 = .ok (.goto 47, 3) := by decide +kernel
theorem dd_X9_addMultiple_48 : decode (zc mm_X9_addMultiple) 48 = .ok (.iconst 0, 1) := by decide +kernel
theorem dd_X9_addMultiple_49 : decode (zc mm_X9_addMultiple) 49 = .ok (.istore 9, 2) := by decide +kernel
theorem dd_X9_addMultiple_51 : decode (zc mm_X9_addMultiple) 51 = .ok (.iload 9, 2) := by decide +kernel
theorem dd_X9_addMultiple_53 : decode (zc mm_X9_addMultiple) 53 = .ok (.iload 6, 2) := by decide +kernel
theorem dd_X9_addMultiple_55 : decode (zc mm_X9_addMultiple) 55 = .ok (.if_icmp .gt 37, 3) := by decide +kernel
theorem dd_X9_addMultiple_58 : decode (zc mm_X9_addMultiple) 58 = .ok (.aload_n 0, 1) := by decide +kernel
theorem dd_X9_addMultiple_59 : decode (zc mm_X9_addMultiple) 59 = .ok (.getfield 18, 3) := by decide +kernel
theorem dd_X9_addMultiple_62 : decode (zc mm_X9_addMultiple) 62 = .ok (.iload_n 1, 1) := by decide +kernel
theorem dd_X9_addMultiple_63 : decode (zc mm_X9_addMultiple) 63 = .ok (.iload 7, 2) := by decide +kernel
theorem dd_X9_addMultiple_65 : decode (zc mm_X9_addMultiple) 65 = .ok (.iadd, 1) := by decide +kernel
theorem dd_X9_addMultiple_66 : decode (zc mm_X9_addMultiple) 66 = .ok (.iload 9, 2) := by decide +kernel
theorem dd_X9_addMultiple_68 : decode (zc mm_X9_addMultiple) 68 = .ok (.iadd, 1) := by decide +kernel
theorem dd_X9_addMultiple_69 : decode (zc mm_X9_addMultiple) 69 = .ok (.dup2, 1) := by decide +kernel
theorem dd_X9_addMultiple_70 : decode (zc mm_X9_addMultiple) 70 = .ok (.iaload, 1) := by decide +kernel
theorem dd_X9_addMultiple_71 : decode (zc mm_X9_addMultiple) 71 = .ok (.iload 8, 2) := by decide +kernel
theorem dd_X9_addMultiple_73 : decode (zc mm_X9_addMultiple) 73 = .ok (.aload_n 0, 1) := by decide +kernel
theorem dd_X9_addMultiple_74 : decode (zc mm_X9_addMultiple) 74 = .ok (.getfield 18, 3) := by decide +kernel
theorem dd_X9_addMultiple_77 : decode (zc mm_X9_addMultiple) 77 = .ok (.iload 5, 2) := by decide +kernel
theorem dd_X9_addMultiple_79 : decode (zc mm_X9_addMultiple) 79 = .ok (.iload 9, 2) := by decide +kernel
theorem dd_X9_addMultiple_81 : decode (zc mm_X9_addMultiple) 81 = .ok (.iadd, 1) := by decide +kernel
theorem dd_X9_addMultiple_82 : decode (zc mm_X9_addMultiple) 82 = .ok (.iaload, 1) := by decide +kernel
theorem dd_X9_addMultiple_83 : decode (zc mm_X9_addMultiple) 83 = .ok (.imul, 1) := by decide +kernel
theorem dd_X9_addMultiple_84 : decode (zc mm_X9_addMultiple) 84 = .ok (.iadd, 1) := by decide +kernel
theorem dd_X9_addMultiple_85 : decode (zc mm_X9_addMultiple) 85 = .ok (.iastore, 1) := by decide +kernel
theorem dd_X9_addMultiple_86 : decode (zc mm_X9_addMultiple) 86 = .ok (.iinc 9 1, 3) := by decide +kernel
theorem dd_X9_addMultiple_89 : decode (zc mm_X9_addMultiple) 89 = .ok (.goto (-38), 3) := by decide +kernel
theorem dd_X9_addMultiple_92 : decode (zc mm_X9_addMultiple) 92 = .ok (.iinc 7 1, 3) := by decide +kernel
theorem dd_X9_addMultiple_95 : decode (zc mm_X9_addMultiple) 95 = .ok (.goto (-78), 3) := by decide +kernel
theorem dd_X9_addMultiple_98 : decode (zc mm_X9_addMultiple) 98 = .ok (.return_, 1) := by decide +kernel
theorem dd_J6_bitCount_0f7a4_0 : decode (zc mm_J6_bitCount_0f7a4) 0 = .ok (.iload_n 0, 1) := by decide +kernel
theorem dd_J6_bitCount_0f7a4_1 : decode (zc mm_J6_bitCount_0f7a4) 1 = .ok (.iload_n 0, 1) := by decide +kernel
theorem dd_J6_bitCount_0f7a4_2 : decode (zc mm_J6_bitCount_0f7a4) 2 = .ok (.iconst 1, 1) := by decide +kernel
theorem dd_J6_bitCount_0f7a4_3 : decode (zc mm_J6_bitCount_0f7a4) 3 = .ok (.iushr, 1) := by decide +kernel
theorem dd_J6_bitCount_0f7a4_4 : decode (zc mm_J6_bitCount_0f7a4) 4 = .ok (.ldc_w 265, 3) := by decide +kernel
theorem dd_J6_bitCount_0f7a4_7 : decode (zc mm_J6_bitCount_0f7a4) 7 = .ok (.iand, 1) := by decide +kernel
theorem dd_J6_bitCount_0f7a4_8 : decode (zc mm_J6_bitCount_0f7a4) 8 = .ok (.isub, 1) := by decide +kernel
theorem dd_J6_bitCount_0f7a4_9 : decode (zc mm_J6_bitCount_0f7a4) 9 = .ok (.istore_n 0, 1) := by decide +kernel
theorem dd_J6_bitCount_0f7a4_10 : decode (zc mm_J6_bitCount_0f7a4) 10 = .ok (.iload_n 0, 1) := by decide +kernel
theorem dd_J6_bitCount_0f7a4_11 : decode (zc mm_J6_bitCount_0f7a4) 11 = .ok (.ldc_w 266, 3) := by decide +kernel
theorem dd_J6_bitCount_0f7a4_14 : decode (zc mm_J6_bitCount_0f7a4) 14 = .ok (.iand, 1) := by decide +kernel
theorem dd_J6_bitCount_0f7a4_15 : decode (zc mm_J6_bitCount_0f7a4) 15 = .ok (.iload_n 0, 1) := by decide +kernel
theorem dd_J6_bitCount_0f7a4_16 : decode (zc mm_J6_bitCount_0f7a4) 16 = .ok (.iconst 2, 1) := by decide +kernel
theorem dd_J6_bitCount_0f7a4_17 : decode (zc mm_J6_bitCount_0f7a4) 17 = .ok (.iushr, 1) := by decide +kernel
theorem dd_J6_bitCount_0f7a4_18 : decode (zc mm_J6_bitCount_0f7a4) 18 = .ok (.ldc_w 266, 3) := by decide +kernel
theorem dd_J6_bitCount_0f7a4_21 : decode (zc mm_J6_bitCount_0f7a4) 21 = .ok (.iand, 1) := by decide +kernel
theorem dd_J6_bitCount_0f7a4_22 : decode (zc mm_J6_bitCount_0f7a4) 22 = .ok (.iadd, 1) := by decide +kernel
theorem dd_J6_bitCount_0f7a4_23 : decode (zc mm_J6_bitCount_0f7a4) 23 = .ok (.istore_n 0, 1) := by decide +kernel
theorem dd_J6_bitCount_0f7a4_24 : decode (zc mm_J6_bitCount_0f7a4) 24 = .ok (.iload_n 0, 1) := by decide +kernel
theorem dd_J6_bitCount_0f7a4_25 : decode (zc mm_J6_bitCount_0f7a4) 25 = .ok (.iload_n 0, 1) := by decide +kernel
theorem dd_J6_bitCount_0f7a4_26 : decode (zc mm_J6_bitCount_0f7a4) 26 = .ok (.iconst 4, 1) := by decide +kernel
theorem dd_J6_bitCount_0f7a4_27 : decode (zc mm_J6_bitCount_0f7a4) 27 = .ok (.iushr, 1) := by decide +kernel
theorem dd_J6_bitCount_0f7a4_28 : decode (zc mm_J6_bitCount_0f7a4) 28 = .ok (.iadd, 1) := by decide +kernel
theorem dd_J6_bitCount_0f7a4_29 : decode (zc mm_J6_bitCount_0f7a4) 29 = .ok (.ldc_w 267, 3) := by decide +kernel
theorem dd_J6_bitCount_0f7a4_32 : decode (zc mm_J6_bitCount_0f7a4) 32 = .ok (.iand, 1) := by decide +kernel
theorem dd_J6_bitCount_0f7a4_33 : decode (zc mm_J6_bitCount_0f7a4) 33 = .ok (.istore_n 0, 1) := by decide +kernel
theorem dd_J6_bitCount_0f7a4_34 : decode (zc mm_J6_bitCount_0f7a4) 34 = .ok (.iload_n 0, 1) := by decide +kernel
theorem dd_J6_bitCount_0f7a4_35 : decode (zc mm_J6_bitCount_0f7a4) 35 = .ok (.iload_n 0, 1) := by decide +kernel
theorem dd_J6_bitCount_0f7a4_36 : decode (zc mm_J6_bitCount_0f7a4) 36 = .ok (.bipush 8, 2) := by decide +kernel
theorem dd_J6_bitCount_0f7a4_38 : decode (zc mm_J6_bitCount_0f7a4) 38 = .ok (.iushr, 1) := by decide +kernel
theorem dd_J6_bitCount_0f7a4_39 : decode (zc mm_J6_bitCount_0f7a4) 39 = .ok (.iadd, 1) := by decide +kernel
theorem dd_J6_bitCount_0f7a4_40 : decode (zc mm_J6_bitCount_0f7a4) 40 = .ok (.istore_n 0, 1) := by decide +kernel
theorem dd_J6_bitCount_0f7a4_41 : decode (zc mm_J6_bitCount_0f7a4) 41 = .ok (.iload_n 0, 1) := by decide +kernel
theorem dd_J6_bitCount_0f7a4_42 : decode (zc mm_J6_bitCount_0f7a4) 42 = .ok (.iload_n 0, 1) := by decide +kernel
theorem dd_J6_bitCount_0f7a4_43 : decode (zc mm_J6_bitCount_0f7a4) 43 = .ok (.bipush 16, 2) := by decide +kernel
theorem dd_J6_bitCount_0f7a4_45 : decode (zc mm_J6_bitCount_0f7a4) 45 = .ok (.iushr, 1) := by decide +kernel
theorem dd_J6_bitCount_0f7a4_46 : decode (zc mm_J6_bitCount_0f7a4) 46 = .ok (.iadd, 1) := by decide +kernel
theorem dd_J6_bitCount_0f7a4_47 : decode (zc mm_J6_bitCount_0f7a4) 47 = .ok (.istore_n 0, 1) := by decide +kernel
theorem dd_J6_bitCount_0f7a4_48 : decode (zc mm_J6_bitCount_0f7a4) 48 = .ok (.iload_n 0, 1) := by decide +kernel
theorem dd_J6_bitCount_0f7a4_49 : decode (zc mm_J6_bitCount_0f7a4) 49 = .ok (.bipush 63, 2) := by decide +kernel
theorem dd_J6_bitCount_0f7a4_51 : decode (zc mm_J6_bitCount_0f7a4) 51 = .ok (.iand, 1) := by decide +kernel
theorem dd_J6_bitCount_0f7a4_52 : decode (zc mm_J6_bitCount_0f7a4) 52 = .ok (.ireturn, 1) := by decide +kernel
theorem dd_J9_floorMod_7cf53_0 : decode (zc mm_J9_floorMod_7cf53) 0 = .ok (.iload_n 0, 1) := by decide +kernel
theorem dd_J9_floorMod_7cf53_1 : decode (zc mm_J9_floorMod_7cf53) 1 = .ok (.iload_n 1, 1) := by decide +kernel
theorem dd_J9_floorMod_7cf53_2 : decode (zc mm_J9_floorMod_7cf53) 2 = .ok (.irem, 1) := by decide +kernel
theorem dd_J9_floorMod_7cf53_3 : decode (zc mm_J9_floorMod_7cf53) 3 = .ok (.istore_n 2, 1) := by decide +kernel
theorem dd_J9_floorMod_7cf53_4 : decode (zc mm_J9_floorMod_7cf53) 4 = .ok (.iload_n 0, 1) := by decide +kernel
theorem dd_J9_floorMod_7cf53_5 : decode (zc mm_J9_floorMod_7cf53) 5 = .ok (.iload_n 1, 1) := by decide +kernel
theorem dd_J9_floorMod_7cf53_6 : decode (zc mm_J9_floorMod_7cf53) 6 = .ok (.ixor, 1) := by decide +kernel
theorem dd_J9_floorMod_7cf53_7 : decode (zc mm_J9_floorMod_7cf53) 7 = .ok (.ifCond .ge 11, 3) := by decide +kernel
theorem dd_J9_floorMod_7cf53_10 : decode (zc mm_J9_floorMod_7cf53) 10 = .ok (.iload_n 2, 1) := by decide +kernel
theorem dd_J9_floorMod_7cf53_11 : decode (zc mm_J9_floorMod_7cf53) 11 = .ok (.ifCond .eq 7, 3) := by decide +kernel
theorem dd_J9_floorMod_7cf53_14 : decode (zc mm_J9_floorMod_7cf53) 14 = .ok (.iload_n 2, 1) := by decide +kernel
theorem dd_J9_floorMod_7cf53_15 : decode (zc mm_J9_floorMod_7cf53) 15 = .ok (.iload_n 1, 1) := by decide +kernel
theorem dd_J9_floorMod_7cf53_16 : decode (zc mm_J9_floorMod_7cf53) 16 = .ok (.iadd, 1) := by decide +kernel
theorem dd_J9_floorMod_7cf53_17 : decode (zc mm_J9_floorMod_7cf53) 17 = .ok (.ireturn, 1) := by decide +kernel
theorem dd_J9_floorMod_7cf53_18 : decode (zc mm_J9_floorMod_7cf53) 18 = .ok (.iload_n 2, 1) := by decide +kernel
theorem dd_J9_floorMod_7cf53_19 : decode (zc mm_J9_floorMod_7cf53) 19 = .ok (.ireturn, 1) := by decide +kernel
theorem dd_J9_max_7cf53_0 : decode (zc mm_J9_max_7cf53) 0 = .ok (.iload_n 0, 1) := by decide +kernel
theorem dd_J9_max_7cf53_1 : decode (zc mm_J9_max_7cf53) 1 = .ok (.iload_n 1, 1) := by decide +kernel
theorem dd_J9_max_7cf53_2 : decode (zc mm_J9_max_7cf53) 2 = .ok (.if_icmp .lt 7, 3) := by decide +kernel
theorem dd_J9_max_7cf53_5 : decode (zc mm_J9_max_7cf53) 5 = .ok (.iload_n 0, 1) := by decide +kernel
theorem dd_J9_max_7cf53_6 : decode (zc mm_J9_max_7cf53) 6 = .ok (.goto 4, 3) := by decide +kernel
theorem dd_J9_max_7cf53_9 : decode (zc mm_J9_max_7cf53) 9 = .ok (.iload_n 1, 1) := by decide +kernel
theorem dd_J9_max_7cf53_10 : decode (zc mm_J9_max_7cf53) 10 = .ok (.ireturn, 1) := by decide +kernel
theorem dd_J9_min_7cf53_0 : decode (zc mm_J9_min_7cf53) 0 = .ok (.iload_n 0, 1) := by decide +kernel
theorem dd_J9_min_7cf53_1 : decode (zc mm_J9_min_7cf53) 1 = .ok (.iload_n 1, 1) := by decide +kernel
theorem dd_J9_min_7cf53_2 : decode (zc mm_J9_min_7cf53) 2 = .ok (.if_icmp .gt 7, 3) := by decide +kernel
theorem dd_J9_min_7cf53_5 : decode (zc mm_J9_min_7cf53) 5 = .ok (.iload_n 0, 1) := by decide +kernel
theorem dd_J9_min_7cf53_6 : decode (zc mm_J9_min_7cf53) 6 = .ok (.goto 4, 3) := by decide +kernel
theorem dd_J9_min_7cf53_9 : decode (zc mm_J9_min_7cf53) 9 = .ok (.iload_n 1, 1) := by decide +kernel
theorem dd_J9_min_7cf53_10 : decode (zc mm_J9_min_7cf53) 10 = .ok (.ireturn, 1) := by decide +kernel
theorem dd_J7_fill_53178_0 : decode (zc mm_J7_fill_53178) 0 = .ok (.iconst 0, 1) := by decide +kernel
theorem dd_J7_fill_53178_1 : decode (zc mm_J7_fill_53178) 1 = .ok (.istore_n 2, 1) := by decide +kernel
theorem dd_J7_fill_53178_2 : decode (zc mm_J7_fill_53178) 2 = .ok (.aload_n 0, 1) := by decide +kernel
theorem dd_J7_fill_53178_3 : decode (zc mm_J7_fill_53178) 3 = .ok (.arraylength, 1) := by decide +kernel
theorem dd_J7_fill_53178_4 : decode (zc mm_J7_fill_53178) 4 = .ok (.istore_n 3, 1) := by decide +kernel
theorem dd_J7_fill_53178_5 : decode (zc mm_J7_fill_53178) 5 = .ok (.iload_n 2, 1) := by decide +kernel
theorem dd_J7_fill_53178_6 : decode (zc mm_J7_fill_53178) 6 = .ok (.iload_n 3, 1) := by decide +kernel
theorem dd_J7_fill_53178_7 : decode (zc mm_J7_fill_53178) 7 = .ok (.if_icmp .ge 13, 3) := by decide +kernel
theorem dd_J7_fill_53178_10 : decode (zc mm_J7_fill_53178) 10 = .ok (.aload_n 0, 1) := by decide +kernel
theorem dd_J7_fill_53178_11 : decode (zc mm_J7_fill_53178) 11 = .ok (.iload_n 2, 1) := by decide +kernel
theorem dd_J7_fill_53178_12 : decode (zc mm_J7_fill_53178) 12 = .ok (.iload_n 1, 1) := by decide +kernel
theorem dd_J7_fill_53178_13 : decode (zc mm_J7_fill_53178) 13 = .ok (.iastore, 1) := by decide +kernel
theorem dd_J7_fill_53178_14 : decode (zc mm_J7_fill_53178) 14 = .ok (.iinc 2 1, 3) := by decide +kernel
theorem dd_J7_fill_53178_17 : decode (zc mm_J7_fill_53178) 17 = .ok (.goto (-12), 3) := by decide +kernel
theorem dd_J7_fill_53178_20 : decode (zc mm_J7_fill_53178) 20 = .ok (.return_, 1) := by decide +kernel

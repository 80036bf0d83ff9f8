theorem dd_X11_no_0 : decode (zc mm_X11_no) 0 = .ok (.aload_n 0, 1) := by decide +kernel
theorem dd_X11_no_1 : decode (zc mm_X11_no) 1 = .ok (.getfield 1, 3) := by decide +kernel
theorem dd_X11_no_4 : decode (zc mm_X11_no) 4 = .ok (.iload_n 1, 1) := by decide +kernel
theorem dd_X11_no_5 : decode (zc mm_X11_no) 5 = .ok (.ineg, 1) := by decide +kernel
theorem dd_X11_no_6 : decode (zc mm_X11_no) 6 = .ok (.dup2, 1) := by decide +kernel
theorem dd_X11_no_7 : decode (zc mm_X11_no) 7 = .ok (.iaload, 1) := by decide +kernel
theorem dd_X11_no_8 : decode (zc mm_X11_no) 8 = .ok (.iconst 1, 1) := by decide +kernel
theorem dd_X11_no_9 : decode (zc mm_X11_no) 9 = .ok (.iadd, 1) := by decide +kernel
theorem dd_X11_no_10 : decode (zc mm_X11_no) 10 = .ok (.iastore, 1) := by decide +kernel
theorem dd_X11_no_11 : decode (zc mm_X11_no) 11 = .ok (.iload_n 1, 1) := by decide +kernel
theorem dd_X11_no_12 : decode (zc mm_X11_no) 12 = .ok (.ireturn, 1) := by decide +kernel
theorem dd_X11_lowest_0 : decode (zc mm_X11_lowest) 0 = .ok (.aload_n 0, 1) := by decide +kernel
theorem dd_X11_lowest_1 : decode (zc mm_X11_lowest) 1 = .ok (.getfield 1, 3) := by decide +kernel
theorem dd_X11_lowest_4 : decode (zc mm_X11_lowest) 4 = .ok (.iload_n 1, 1) := by decide +kernel
theorem dd_X11_lowest_5 : decode (zc mm_X11_lowest) 5 = .ok (.ineg, 1) := by decide +kernel
theorem dd_X11_lowest_6 : decode (zc mm_X11_lowest) 6 = .ok (.dup2, 1) := by decide +kernel
theorem dd_X11_lowest_7 : decode (zc mm_X11_lowest) 7 = .ok (.iaload, 1) := by decide +kernel
theorem dd_X11_lowest_8 : decode (zc mm_X11_lowest) 8 = .ok (.iconst 1, 1) := by decide +kernel
theorem dd_X11_lowest_9 : decode (zc mm_X11_lowest) 9 = .ok (.iadd, 1) := by decide +kernel
theorem dd_X11_lowest_10 : decode (zc mm_X11_lowest) 10 = .ok (.iastore, 1) := by decide +kernel
theorem dd_X11_lowest_11 : decode (zc mm_X11_lowest) 11 = .ok (.ldc2_w 7, 3) := by decide +kernel
theorem dd_X11_lowest_14 : decode (zc mm_X11_lowest) 14 = .ok (.iload_n 1, 1) := by decide +kernel
theorem dd_X11_lowest_15 : decode (zc mm_X11_lowest) 15 = .ok (.i2l, 1) := by decide +kernel
theorem dd_X11_lowest_16 : decode (zc mm_X11_lowest) 16 = .ok (.lsub, 1) := by decide +kernel
theorem dd_X11_lowest_17 : decode (zc mm_X11_lowest) 17 = .ok (.lreturn, 1) := by decide +kernel
theorem dd_X11_isIn_0 : decode (zc mm_X11_isIn) 0 = .ok (.iload_n 0, 1) := by decide +kernel
theorem dd_X11_isIn_1 : decode (zc mm_X11_isIn) 1 = .ok (.iload_n 1, 1) := by decide +kernel
theorem dd_X11_isIn_2 : decode (zc mm_X11_isIn) 2 = .ok (.if_icmp .lt 12, 3) := by decide +kernel
theorem dd_X11_isIn_5 : decode (zc mm_X11_isIn) 5 = .ok (.iload_n 0, 1) := by decide +kernel
theorem dd_X11_isIn_6 : decode (zc mm_X11_isIn) 6 = .ok (.iload_n 2, 1) := by decide +kernel
theorem dd_X11_isIn_7 : decode (zc mm_X11_isIn) 7 = .ok (.if_icmp .gt 7, 3) := by decide +kernel
theorem dd_X11_isIn_10 : decode (zc mm_X11_isIn) 10 = .ok (.iconst 1, 1) := by decide +kernel
theorem dd_X11_isIn_11 : decode (zc mm_X11_isIn) 11 = .ok (.goto 4, 3) := by decide +kernel
theorem dd_X11_isIn_14 : decode (zc mm_X11_isIn) 14 = .ok (.iconst 0, 1) := by decide +kernel
theorem dd_X11_isIn_15 : decode (zc mm_X11_isIn) 15 = .ok (.ireturn, 1) := by decide +kernel
theorem dd_X11_rest_0 : decode (zc mm_X11_rest) 0 = .ok (.iload_n 1, 1) := by decide +kernel
theorem dd_X11_rest_1 : decode (zc mm_X11_rest) 1 = .ok (.aload_n 0, 1) := by decide +kernel
theorem dd_X11_rest_2 : decode (zc mm_X11_rest) 2 = .ok (.getfield 9, 3) := by decide +kernel
theorem dd_X11_rest_5 : decode (zc mm_X11_rest) 5 = .ok (.irem, 1) := by decide +kernel
theorem dd_X11_rest_6 : decode (zc mm_X11_rest) 6 = .ok (.aload_n 0, 1) := by decide +kernel
theorem dd_X11_rest_7 : decode (zc mm_X11_rest) 7 = .ok (.getfield 9, 3) := by decide +kernel
theorem dd_X11_rest_10 : decode (zc mm_X11_rest) 10 = .ok (.iadd, 1) := by decide +kernel
theorem dd_X11_rest_11 : decode (zc mm_X11_rest) 11 = .ok (.aload_n 0, 1) := by decide +kernel
theorem dd_X11_rest_12 : decode (zc mm_X11_rest) 12 = .ok (.getfield 9, 3) := by decide +kernel
theorem dd_X11_rest_15 : decode (zc mm_X11_rest) 15 = .ok (.irem, 1) := by decide +kernel
theorem dd_X11_rest_16 : decode (zc mm_X11_rest) 16 = .ok (.ireturn, 1) := by decide +kernel
theorem dd_X11_power_0 : decode (zc mm_X11_power) 0 = .ok (.iconst 1, 1) := by decide +kernel
theorem dd_X11_power_1 : decode (zc mm_X11_power) 1 = .ok (.aload_n 0, 1) := by decide +kernel
theorem dd_X11_power_2 : decode (zc mm_X11_power) 2 = .ok (.getfield 9, 3) := by decide +kernel
theorem dd_X11_power_5 : decode (zc mm_X11_power) 5 = .ok (.irem, 1) := by decide +kernel
theorem dd_X11_power_6 : decode (zc mm_X11_power) 6 = .ok (.istore_n 3, 1) := by decide +kernel
theorem dd_X11_power_7 : decode (zc mm_X11_power) 7 = .ok (.iconst 0, 1) := by decide +kernel
theorem dd_X11_power_8 : decode (zc mm_X11_power) 8 = .ok (.istore 4, 2) := by decide +kernel
theorem dd_X11_power_10 : decode (zc mm_X11_power) 10 = .ok (.iload 4, 2) := by decide +kernel
theorem dd_X11_power_12 : decode (zc mm_X11_power) 12 = .ok (.iload_n 2, 1) := by decide +kernel
theorem dd_X11_power_13 : decode (zc mm_X11_power) 13 = .ok (.if_icmp .ge 22, 3) := by decide +kernel
theorem dd_X11_power_16 : decode (zc mm_X11_power) 16 = .ok (.iload_n 3, 1) := by decide +kernel
theorem dd_X11_power_17 : decode (zc mm_X11_power) 17 = .ok (.aload_n 0, 1) := by decide +kernel
theorem dd_X11_power_18 : decode (zc mm_X11_power) 18 = .ok (.iload_n 1, 1) := by decide +kernel
theorem dd_X11_power_19 : decode (zc mm_X11_power) 19 = .ok (.invokevirtual 13, 3) := by decide +kernel
theorem dd_X11_power_22 : decode (zc mm_X11_power) 22 = .ok (.imul, 1) := by decide +kernel
theorem dd_X11_power_23 : decode (zc mm_X11_power) 23 = .ok (.aload_n 0, 1) := by decide +kernel
theorem dd_X11_power_24 : decode (zc mm_X11_power) 24 = .ok (.getfield 9, 3) := by decide +kernel
theorem dd_X11_power_27 : decode (zc mm_X11_power) 27 = .ok (.irem, 1) := by decide +kernel
theorem dd_X11_power_28 : decode (zc mm_X11_power) 28 = .ok (.istore_n 3, 1) := by decide +kernel
theorem dd_X11_power_29 : decode (zc mm_X11_power) 29 = .ok (.iinc 4 1, 3) := by decide +kernel
theorem dd_X11_power_32 : decode (zc mm_X11_power) 32 = .ok (.goto (-22), 3) := by decide +kernel
theorem dd_X11_power_35 : decode (zc mm_X11_power) 35 = .ok (.iload_n 3, 1) := by decide +kernel
theorem dd_X11_power_36 : decode (zc mm_X11_power) 36 = .ok (.ireturn, 1) := by decide +kernel
theorem dd_X11_inverse_0 : decode (zc mm_X11_inverse) 0 = .ok (.aload_n 0, 1) := by decide +kernel
theorem dd_X11_inverse_1 : decode (zc mm_X11_inverse) 1 = .ok (.iload_n 1, 1) := by decide +kernel
theorem dd_X11_inverse_2 : decode (zc mm_X11_inverse) 2 = .ok (.aload_n 0, 1) := by decide +kernel
theorem dd_X11_inverse_3 : decode (zc mm_X11_inverse) 3 = .ok (.getfield 9, 3) := by decide +kernel
theorem dd_X11_inverse_6 : decode (zc mm_X11_inverse) 6 = .ok (.iconst 2, 1) := by decide +kernel
theorem dd_X11_inverse_7 : decode (zc mm_X11_inverse) 7 = .ok (.isub, 1) := by decide +kernel
theorem dd_X11_inverse_8 : decode (zc mm_X11_inverse) 8 = .ok (.invokevirtual 17, 3) := by decide +kernel
theorem dd_X11_inverse_11 : decode (zc mm_X11_inverse) 11 = .ok (.ireturn, 1) := by decide +kernel
theorem dd_X11_isPrime_0 : decode (zc mm_X11_isPrime) 0 = .ok (.iload_n 0, 1) := by decide +kernel
theorem dd_X11_isPrime_1 : decode (zc mm_X11_isPrime) 1 = .ok (.iconst 2, 1) := by decide +kernel
theorem dd_X11_isPrime_2 : decode (zc mm_X11_isPrime) 2 = .ok (.bipush 31, 2) := by decide +kernel
theorem dd_X11_isPrime_4 : decode (zc mm_X11_isPrime) 4 = .ok (.invokestatic 21, 3) := by decide +kernel
theorem dd_X11_isPrime_7 : decode (zc mm_X11_isPrime) 7 = .ok (.istore_n 1, 1) := by decide +kernel
theorem dd_X11_isPrime_8 : decode (zc mm_X11_isPrime) 8 = .ok (.iconst 2, 1) := by decide +kernel
theorem dd_X11_isPrime_9 : decode (zc mm_X11_isPrime) 9 = .ok (.istore_n 2, 1) := by decide +kernel
theorem dd_X11_isPrime_10 : decode (zc mm_X11_isPrime) 10 = .ok (.iload_n 1, 1) := by decide +kernel
theorem dd_X11_isPrime_11 : decode (zc mm_X11_isPrime) 11 = .ok (.ifCond .eq 26, 3) := by decide +kernel
theorem dd_X11_isPrime_14 : decode (zc mm_X11_isPrime) 14 = .ok (.iload_n 2, 1) := by decide +kernel
theorem dd_X11_isPrime_15 : decode (zc mm_X11_isPrime) 15 = .ok (.iload_n 0, 1) := by decide +kernel
theorem dd_X11_isPrime_16 : decode (zc mm_X11_isPrime) 16 = .ok (.if_icmp .ge 21, 3) := by decide +kernel
theorem dd_X11_isPrime_19 : decode (zc mm_X11_isPrime) 19 = .ok (.iload_n 0, 1) := by decide +kernel
theorem dd_X11_isPrime_20 : decode (zc mm_X11_isPrime) 20 = .ok (.iload_n 2, 1) := by decide +kernel
theorem dd_X11_isPrime_21 : decode (zc mm_X11_isPrime) 21 = .ok (.irem, 1) := by decide +kernel
theorem dd_X11_isPrime_22 : decode (zc mm_X11_isPrime) 22 = .ok (.ifCond .eq 7, 3) := by decide +kernel
theorem dd_X11_isPrime_25 : decode (zc mm_X11_isPrime) 25 = .ok (.iconst 1, 1) := by decide +kernel
theorem dd_X11_isPrime_26 : decode (zc mm_X11_isPrime) 26 = .ok (.goto 4, 3) := by decide +kernel
theorem dd_X11_isPrime_29 : decode (zc mm_X11_isPrime) 29 = .ok (.iconst 0, 1) := by decide +kernel
theorem dd_X11_isPrime_30 : decode (zc mm_X11_isPrime) 30 = .ok (.istore_n 1, 1) := by decide +kernel
theorem dd_X11_isPrime_31 : decode (zc mm_X11_isPrime) 31 = .ok (.iinc 2 1, 3) := by decide +kernel
theorem dd_X11_isPrime_34 : decode (zc mm_X11_isPrime) 34 = .ok (.goto (-24), 3) := by decide +kernel
theorem dd_X11_isPrime_37 : decode (zc mm_X11_isPrime) 37 = .ok (.iload_n 1, 1) := by decide +kernel
theorem dd_X11_isPrime_38 : decode (zc mm_X11_isPrime) 38 = .ok (.ireturn, 1) := by decide +kernel
theorem dd_X11_init_0 : decode (zc mm_X11_init) 0 = .ok (.aload_n 0, 1) := by decide +kernel
theorem dd_X11_init_1 : decode (zc mm_X11_init) 1 = .ok (.invokespecial 25, 3) := by decide +kernel
theorem dd_X11_init_4 : decode (zc mm_X11_init) 4 = .ok (.aload_n 0, 1) := by decide +kernel
theorem dd_X11_init_5 : decode (zc mm_X11_init) 5 = .ok (.bipush 7, 2) := by decide +kernel
theorem dd_X11_init_7 : decode (zc mm_X11_init) 7 = .ok (.newarray .int, 2) := by decide +kernel
theorem dd_X11_init_9 : decode (zc mm_X11_init) 9 = .ok (.putfield 1, 3) := by decide +kernel
theorem dd_X11_init_12 : decode (zc mm_X11_init) 12 = .ok (.aload_n 0, 1) := by decide +kernel
theorem dd_X11_init_13 : decode (zc mm_X11_init) 13 = .ok (.bipush 7, 2) := by decide +kernel
theorem dd_X11_init_15 : decode (zc mm_X11_init) 15 = .ok (.putfield 9, 3) := by decide +kernel
theorem dd_X11_init_18 : decode (zc mm_X11_init) 18 = .ok (.aload_n 0, 1) := by decide +kernel
theorem dd_X11_init_19 : decode (zc mm_X11_init) 19 = .ok (.sipush 150, 3) := by decide +kernel
theorem dd_X11_init_22 : decode (zc mm_X11_init) 22 = .ok (.newarray .int, 2) := by decide +kernel
theorem dd_X11_init_24 : decode (zc mm_X11_init) 24 = .ok (.putfield 31, 3) := by decide +kernel
theorem dd_X11_init_27 : decode (zc mm_X11_init) 27 = .ok (.aload_n 0, 1) := by decide +kernel
theorem dd_X11_init_28 : decode (zc mm_X11_init) 28 = .ok (.bipush 6, 2) := by decide +kernel
theorem dd_X11_init_30 : decode (zc mm_X11_init) 30 = .ok (.newarray .int, 2) := by decide +kernel
theorem dd_X11_init_32 : decode (zc mm_X11_init) 32 = .ok (.putfield 34, 3) := by decide +kernel
theorem dd_X11_init_35 : decode (zc mm_X11_init) 35 = .ok (.aload_n 0, 1) := by decide +kernel
theorem dd_X11_init_36 : decode (zc mm_X11_init) 36 = .ok (.bipush 6, 2) := by decide +kernel
theorem dd_X11_init_38 : decode (zc mm_X11_init) 38 = .ok (.newarray .int, 2) := by decide +kernel
theorem dd_X11_init_40 : decode (zc mm_X11_init) 40 = .ok (.putfield 37, 3) := by decide +kernel
theorem dd_X11_init_43 : decode (zc mm_X11_init) 43 = .ok (.aload_n 0, 1) := by decide +kernel
theorem dd_X11_init_44 : decode (zc mm_X11_init) 44 = .ok (.bipush 16, 2) := by decide +kernel
theorem dd_X11_init_46 : decode (zc mm_X11_init) 46 = .ok (.newarray .int, 2) := by decide +kernel
theorem dd_X11_init_48 : decode (zc mm_X11_init) 48 = .ok (.putfield 40, 3) := by decide +kernel
theorem dd_X11_init_51 : decode (zc mm_X11_init) 51 = .ok (.aload_n 0, 1) := by decide +kernel
theorem dd_X11_init_52 : decode (zc mm_X11_init) 52 = .ok (.bipush 16, 2) := by decide +kernel
theorem dd_X11_init_54 : decode (zc mm_X11_init) 54 = .ok (.newarray .int, 2) := by decide +kernel
theorem dd_X11_init_56 : decode (zc mm_X11_init) 56 = .ok (.putfield 43, 3) := by decide +kernel
theorem dd_X11_init_59 : decode (zc mm_X11_init) 59 = .ok (.aload_n 0, 1) := by decide +kernel
theorem dd_X11_init_60 : decode (zc mm_X11_init) 60 = .ok (.bipush 72, 2) := by decide +kernel
theorem dd_X11_init_62 : decode (zc mm_X11_init) 62 = .ok (.newarray .int, 2) := by decide +kernel
theorem dd_X11_init_64 : decode (zc mm_X11_init) 64 = .ok (.putfield 46, 3) := by decide +kernel
theorem dd_X11_init_67 : decode (zc mm_X11_init) 67 = .ok (.aload_n 0, 1) := by decide +kernel
theorem dd_X11_init_68 : decode (zc mm_X11_init) 68 = .ok (.bipush 25, 2) := by decide +kernel
theorem dd_X11_init_70 : decode (zc mm_X11_init) 70 = .ok (.newarray .int, 2) := by decide +kernel
theorem dd_X11_init_72 : decode (zc mm_X11_init) 72 = .ok (.putfield 49, 3) := by decide +kernel
theorem dd_X11_init_75 : decode (zc mm_X11_init) 75 = .ok (.aload_n 0, 1) := by decide +kernel
theorem dd_X11_init_76 : decode (zc mm_X11_init) 76 = .ok (.bipush 25, 2) := by decide +kernel
theorem dd_X11_init_78 : decode (zc mm_X11_init) 78 = .ok (.newarray .int, 2) := by decide +kernel
theorem dd_X11_init_80 : decode (zc mm_X11_init) 80 = .ok (.putfield 52, 3) := by decide +kernel
theorem dd_X11_init_83 : decode (zc mm_X11_init) 83 = .ok (.aload_n 0, 1) := by decide +kernel
theorem dd_X11_init_84 : decode (zc mm_X11_init) 84 = .ok (.bipush 25, 2) := by decide +kernel
theorem dd_X11_init_86 : decode (zc mm_X11_init) 86 = .ok (.newarray .int, 2) := by decide +kernel
theorem dd_X11_init_88 : decode (zc mm_X11_init) 88 = .ok (.putfield 55, 3) := by decide +kernel
theorem dd_X11_init_91 : decode (zc mm_X11_init) 91 = .ok (.aload_n 0, 1) := by decide +kernel
theorem dd_X11_init_92 : decode (zc mm_X11_init) 92 = .ok (.sipush 576, 3) := by decide +kernel
theorem dd_X11_init_95 : decode (zc mm_X11_init) 95 = .ok (.newarray .int, 2) := by decide +kernel
theorem dd_X11_init_97 : decode (zc mm_X11_init) 97 = .ok (.putfield 58, 3) := by decide +kernel
theorem dd_X11_init_100 : decode (zc mm_X11_init) 100 = .ok (.aload_n 0, 1) := by decide +kernel
theorem dd_X11_init_101 : decode (zc mm_X11_init) 101 = .ok (.sipush 10496, 3) := by decide +kernel
theorem dd_X11_init_104 : decode (zc mm_X11_init) 104 = .ok (.newarray .int, 2) := by decide +kernel
theorem dd_X11_init_106 : decode (zc mm_X11_init) 106 = .ok (.putfield 61, 3) := by decide +kernel
theorem dd_X11_init_109 : decode (zc mm_X11_init) 109 = .ok (.aload_n 0, 1) := by decide +kernel
theorem dd_X11_init_110 : decode (zc mm_X11_init) 110 = .ok (.bipush 41, 2) := by decide +kernel
theorem dd_X11_init_112 : decode (zc mm_X11_init) 112 = .ok (.newarray .int, 2) := by decide +kernel
theorem dd_X11_init_114 : decode (zc mm_X11_init) 114 = .ok (.putfield 64, 3) := by decide +kernel
theorem dd_X11_init_117 : decode (zc mm_X11_init) 117 = .ok (.aload_n 0, 1) := by decide +kernel
theorem dd_X11_init_118 : decode (zc mm_X11_init) 118 = .ok (.iconst 5, 1) := by decide +kernel
theorem dd_X11_init_119 : decode (zc mm_X11_init) 119 = .ok (.newarray .int, 2) := by decide +kernel
theorem dd_X11_init_121 : decode (zc mm_X11_init) 121 = .ok (.putfield 67, 3) := by decide +kernel
theorem dd_X11_init_124 : decode (zc mm_X11_init) 124 = .ok (.aload_n 0, 1) := by decide +kernel
theorem dd_X11_init_125 : decode (zc mm_X11_init) 125 = .ok (.iconst 5, 1) := by decide +kernel
theorem dd_X11_init_126 : decode (zc mm_X11_init) 126 = .ok (.newarray .int, 2) := by decide +kernel
theorem dd_X11_init_128 : decode (zc mm_X11_init) 128 = .ok (.putfield 70, 3) := by decide +kernel
theorem dd_X11_init_131 : decode (zc mm_X11_init) 131 = .ok (.aload_n 0, 1) := by decide +kernel
theorem dd_X11_init_132 : decode (zc mm_X11_init) 132 = .ok (.bipush 9, 2) := by decide +kernel
theorem dd_X11_init_134 : decode (zc mm_X11_init) 134 = .ok (.newarray .int, 2) := by decide +kernel
theorem dd_X11_init_136 : decode (zc mm_X11_init) 136 = .ok (.putfield 73, 3) := by decide +kernel
theorem dd_X11_init_139 : decode (zc mm_X11_init) 139 = .ok (.aload_n 0, 1) := by decide +kernel
theorem dd_X11_init_140 : decode (zc mm_X11_init) 140 = .ok (.sipush 144, 3) := by decide +kernel
theorem dd_X11_init_143 : decode (zc mm_X11_init) 143 = .ok (.newarray .boolean, 2) := by decide +kernel
theorem dd_X11_init_145 : decode (zc mm_X11_init) 145 = .ok (.putfield 76, 3) := by decide +kernel
theorem dd_X11_init_148 : decode (zc mm_X11_init) 148 = .ok (.aload_n 0, 1) := by decide +kernel
theorem dd_X11_init_149 : decode (zc mm_X11_init) 149 = .ok (.bipush 90, 2) := by decide +kernel
theorem dd_X11_init_151 : decode (zc mm_X11_init) 151 = .ok (.newarray .int, 2) := by decide +kernel
theorem dd_X11_init_153 : decode (zc mm_X11_init) 153 = .ok (.putfield 80, 3) := by decide +kernel
theorem dd_X11_init_156 : decode (zc mm_X11_init) 156 = .ok (.aload_n 0, 1) := by decide +kernel
theorem dd_X11_init_157 : decode (zc mm_X11_init) 157 = .ok (.iconst 3, 1) := by decide +kernel
theorem dd_X11_init_158 : decode (zc mm_X11_init) 158 = .ok (.newarray .int, 2) := by decide +kernel
theorem dd_X11_init_160 : decode (zc mm_X11_init) 160 = .ok (.putfield 83, 3) := by decide +kernel
theorem dd_X11_init_163 : decode (zc mm_X11_init) 163 = .ok (.aload_n 0, 1) := by decide +kernel
theorem dd_X11_init_164 : decode (zc mm_X11_init) 164 = .ok (.bipush 120, 2) := by decide +kernel
theorem dd_X11_init_166 : decode (zc mm_X11_init) 166 = .ok (.newarray .int, 2) := by decide +kernel
theorem dd_X11_init_168 : decode (zc mm_X11_init) 168 = .ok (.putfield 86, 3) := by decide +kernel
theorem dd_X11_init_171 : decode (zc mm_X11_init) 171 = .ok (.aload_n 0, 1) := by decide +kernel
theorem dd_X11_init_172 : decode (zc mm_X11_init) 172 = .ok (.sipush 170, 3) := by decide +kernel
theorem dd_X11_init_175 : decode (zc mm_X11_init) 175 = .ok (.newarray .int, 2) := by decide +kernel
theorem dd_X11_init_177 : decode (zc mm_X11_init) 177 = .ok (.putfield 89, 3) := by decide +kernel
theorem dd_X11_init_180 : decode (zc mm_X11_init) 180 = .ok (.aload_n 0, 1) := by decide +kernel
theorem dd_X11_init_181 : decode (zc mm_X11_init) 181 = .ok (.bipush (-9), 2) := by decide +kernel
theorem dd_X11_init_183 : decode (zc mm_X11_init) 183 = .ok (.putfield 92, 3) := by decide +kernel
theorem dd_X11_init_186 : decode (zc mm_X11_init) 186 = .ok (.iconst 0, 1) := by decide +kernel
theorem dd_X11_init_187 : decode (zc mm_X11_init) 187 = .ok (.istore_n 1, 1) := by decide +kernel
theorem dd_X11_init_188 : decode (zc mm_X11_init) 188 = .ok (.iload_n 1, 1) := by decide +kernel
theorem dd_X11_init_189 : decode (zc mm_X11_init) 189 = .ok (.iconst 3, 1) := by decide +kernel
theorem dd_X11_init_190 : decode (zc mm_X11_init) 190 = .ok (.if_icmp .ge 17, 3) := by decide +kernel
theorem dd_X11_init_193 : decode (zc mm_X11_init) 193 = .ok (.aload_n 0, 1) := by decide +kernel
theorem dd_X11_init_194 : decode (zc mm_X11_init) 194 = .ok (.getfield 83, 3) := by decide +kernel
theorem dd_X11_init_197 : decode (zc mm_X11_init) 197 = .ok (.iload_n 1, 1) := by decide +kernel
theorem dd_X11_init_198 : decode (zc mm_X11_init) 198 = .ok (.bipush (-9), 2) := by decide +kernel
theorem dd_X11_init_200 : decode (zc mm_X11_init) 200 = .ok (.iastore, 1) := by decide +kernel
theorem dd_X11_init_201 : decode (zc mm_X11_init) 201 = .ok (.iinc 1 1, 3) := by decide +kernel
theorem dd_X11_init_204 : decode (zc mm_X11_init) 204 = .ok (.goto (-16), 3) := by decide +kernel
theorem dd_X11_init_207 : decode (zc mm_X11_init) 207 = .ok (.return_, 1) := by decide +kernel
theorem dd_X11_isPoly_0 : decode (zc mm_X11_isPoly) 0 = .ok (.iload_n 1, 1) := by decide +kernel
theorem dd_X11_isPoly_1 : decode (zc mm_X11_isPoly) 1 = .ok (.iconst 0, 1) := by decide +kernel
theorem dd_X11_isPoly_2 : decode (zc mm_X11_isPoly) 2 = .ok (.aload_n 0, 1) := by decide +kernel
theorem dd_X11_isPoly_3 : decode (zc mm_X11_isPoly) 3 = .ok (.getfield 95, 3) := by decide +kernel
theorem dd_X11_isPoly_6 : decode (zc mm_X11_isPoly) 6 = .ok (.iconst 1, 1) := by decide +kernel
theorem dd_X11_isPoly_7 : decode (zc mm_X11_isPoly) 7 = .ok (.isub, 1) := by decide +kernel
theorem dd_X11_isPoly_8 : decode (zc mm_X11_isPoly) 8 = .ok (.invokestatic 21, 3) := by decide +kernel
theorem dd_X11_isPoly_11 : decode (zc mm_X11_isPoly) 11 = .ok (.ireturn, 1) := by decide +kernel
theorem dd_X11_toldOf_0 : decode (zc mm_X11_toldOf) 0 = .ok (.aload_n 0, 1) := by decide +kernel
theorem dd_X11_toldOf_1 : decode (zc mm_X11_toldOf) 1 = .ok (.getfield 31, 3) := by decide +kernel
theorem dd_X11_toldOf_4 : decode (zc mm_X11_toldOf) 4 = .ok (.bipush 25, 2) := by decide +kernel
theorem dd_X11_toldOf_6 : decode (zc mm_X11_toldOf) 6 = .ok (.iload_n 1, 1) := by decide +kernel
theorem dd_X11_toldOf_7 : decode (zc mm_X11_toldOf) 7 = .ok (.imul, 1) := by decide +kernel
theorem dd_X11_toldOf_8 : decode (zc mm_X11_toldOf) 8 = .ok (.iconst 5, 1) := by decide +kernel
theorem dd_X11_toldOf_9 : decode (zc mm_X11_toldOf) 9 = .ok (.iload_n 2, 1) := by decide +kernel
theorem dd_X11_toldOf_10 : decode (zc mm_X11_toldOf) 10 = .ok (.imul, 1) := by decide +kernel
theorem dd_X11_toldOf_11 : decode (zc mm_X11_toldOf) 11 = .ok (.iadd, 1) := by decide +kernel
theorem dd_X11_toldOf_12 : decode (zc mm_X11_toldOf) 12 = .ok (.iload_n 3, 1) := by decide +kernel
theorem dd_X11_toldOf_13 : decode (zc mm_X11_toldOf) 13 = .ok (.iadd, 1) := by decide +kernel
theorem dd_X11_toldOf_14 : decode (zc mm_X11_toldOf) 14 = .ok (.iaload, 1) := by decide +kernel
theorem dd_X11_toldOf_15 : decode (zc mm_X11_toldOf) 15 = .ok (.ireturn, 1) := by decide +kernel
theorem dd_X11_evenOf_0 : decode (zc mm_X11_evenOf) 0 = .ok (.iload_n 2, 1) := by decide +kernel
theorem dd_X11_evenOf_1 : decode (zc mm_X11_evenOf) 1 = .ok (.iconst 2, 1) := by decide +kernel
theorem dd_X11_evenOf_2 : decode (zc mm_X11_evenOf) 2 = .ok (.irem, 1) := by decide +kernel
theorem dd_X11_evenOf_3 : decode (zc mm_X11_evenOf) 3 = .ok (.iconst 1, 1) := by decide +kernel
theorem dd_X11_evenOf_4 : decode (zc mm_X11_evenOf) 4 = .ok (.if_icmp .ne 7, 3) := by decide +kernel
theorem dd_X11_evenOf_7 : decode (zc mm_X11_evenOf) 7 = .ok (.iconst 0, 1) := by decide +kernel
theorem dd_X11_evenOf_8 : decode (zc mm_X11_evenOf) 8 = .ok (.goto 10, 3) := by decide +kernel
theorem dd_X11_evenOf_11 : decode (zc mm_X11_evenOf) 11 = .ok (.aload_n 0, 1) := by decide +kernel
theorem dd_X11_evenOf_12 : decode (zc mm_X11_evenOf) 12 = .ok (.iload_n 1, 1) := by decide +kernel
theorem dd_X11_evenOf_13 : decode (zc mm_X11_evenOf) 13 = .ok (.iload_n 2, 1) := by decide +kernel
theorem dd_X11_evenOf_14 : decode (zc mm_X11_evenOf) 14 = .ok (.iload_n 3, 1) := by decide +kernel
theorem dd_X11_evenOf_15 : decode (zc mm_X11_evenOf) 15 = .ok (.invokevirtual 98, 3) := by decide +kernel
theorem dd_X11_evenOf_18 : decode (zc mm_X11_evenOf) 18 = .ok (.ireturn, 1) := by decide +kernel
theorem dd_X11_shiftedOf_0 : decode (zc mm_X11_shiftedOf) 0 = .ok (.iconst 0, 1) := by decide +kernel
theorem dd_X11_shiftedOf_1 : decode (zc mm_X11_shiftedOf) 1 = .ok (.istore 4, 2) := by decide +kernel
theorem dd_X11_shiftedOf_3 : decode (zc mm_X11_shiftedOf) 3 = .ok (.iconst 1, 1) := by decide +kernel
theorem dd_X11_shiftedOf_4 : decode (zc mm_X11_shiftedOf) 4 = .ok (.istore 5, 2) := by decide +kernel
theorem dd_X11_shiftedOf_6 : decode (zc mm_X11_shiftedOf) 6 = .ok (.iconst 1, 1) := by decide +kernel
theorem dd_X11_shiftedOf_7 : decode (zc mm_X11_shiftedOf) 7 = .ok (.istore 6, 2) := by decide +kernel
theorem dd_X11_shiftedOf_9 : decode (zc mm_X11_shiftedOf) 9 = .ok (.iload_n 2, 1) := by decide +kernel
theorem dd_X11_shiftedOf_10 : decode (zc mm_X11_shiftedOf) 10 = .ok (.istore 7, 2) := by decide +kernel
theorem dd_X11_shiftedOf_12 : decode (zc mm_X11_shiftedOf) 12 = .ok (.iload 7, 2) := by decide +kernel
theorem dd_X11_shiftedOf_14 : decode (zc mm_X11_shiftedOf) 14 = .ok (.iconst 5, 1) := by decide +kernel
theorem dd_X11_shiftedOf_15 : decode (zc mm_X11_shiftedOf) 15 = .ok (.if_icmp .ge 78, 3) := by decide +kernel
theorem dd_X11_shiftedOf_18 : decode (zc mm_X11_shiftedOf) 18 = .ok (.iload 4, 2) := by decide +kernel
theorem dd_X11_shiftedOf_20 : decode (zc mm_X11_shiftedOf) 20 = .ok (.aload_n 0, 1) := by decide +kernel
theorem dd_X11_shiftedOf_21 : decode (zc mm_X11_shiftedOf) 21 = .ok (.iload 5, 2) := by decide +kernel
theorem dd_X11_shiftedOf_23 : decode (zc mm_X11_shiftedOf) 23 = .ok (.invokevirtual 13, 3) := by decide +kernel
theorem dd_X11_shiftedOf_26 : decode (zc mm_X11_shiftedOf) 26 = .ok (.iload 6, 2) := by decide +kernel
theorem dd_X11_shiftedOf_28 : decode (zc mm_X11_shiftedOf) 28 = .ok (.imul, 1) := by decide +kernel
theorem dd_X11_shiftedOf_29 : decode (zc mm_X11_shiftedOf) 29 = .ok (.aload_n 0, 1) := by decide +kernel
theorem dd_X11_shiftedOf_30 : decode (zc mm_X11_shiftedOf) 30 = .ok (.getfield 9, 3) := by decide +kernel
theorem dd_X11_shiftedOf_33 : decode (zc mm_X11_shiftedOf) 33 = .ok (.irem, 1) := by decide +kernel
theorem dd_X11_shiftedOf_34 : decode (zc mm_X11_shiftedOf) 34 = .ok (.aload_n 0, 1) := by decide +kernel
theorem dd_X11_shiftedOf_35 : decode (zc mm_X11_shiftedOf) 35 = .ok (.iload_n 1, 1) := by decide +kernel
theorem dd_X11_shiftedOf_36 : decode (zc mm_X11_shiftedOf) 36 = .ok (.iload 7, 2) := by decide +kernel
theorem dd_X11_shiftedOf_38 : decode (zc mm_X11_shiftedOf) 38 = .ok (.iload_n 3, 1) := by decide +kernel
theorem dd_X11_shiftedOf_39 : decode (zc mm_X11_shiftedOf) 39 = .ok (.invokevirtual 98, 3) := by decide +kernel
theorem dd_X11_shiftedOf_42 : decode (zc mm_X11_shiftedOf) 42 = .ok (.imul, 1) := by decide +kernel
theorem dd_X11_shiftedOf_43 : decode (zc mm_X11_shiftedOf) 43 = .ok (.iadd, 1) := by decide +kernel
theorem dd_X11_shiftedOf_44 : decode (zc mm_X11_shiftedOf) 44 = .ok (.aload_n 0, 1) := by decide +kernel
theorem dd_X11_shiftedOf_45 : decode (zc mm_X11_shiftedOf) 45 = .ok (.getfield 9, 3) := by decide +kernel
theorem dd_X11_shiftedOf_48 : decode (zc mm_X11_shiftedOf) 48 = .ok (.irem, 1) := by decide +kernel
theorem dd_X11_shiftedOf_49 : decode (zc mm_X11_shiftedOf) 49 = .ok (.istore 4, 2) := by decide +kernel
theorem dd_X11_shiftedOf_51 : decode (zc mm_X11_shiftedOf) 51 = .ok (.iload 5, 2) := by decide +kernel
theorem dd_X11_shiftedOf_53 : decode (zc mm_X11_shiftedOf) 53 = .ok (.iload 7, 2) := by decide +kernel
theorem dd_X11_shiftedOf_55 : decode (zc mm_X11_shiftedOf) 55 = .ok (.iconst 1, 1) := by decide +kernel
theorem dd_X11_shiftedOf_56 : decode (zc mm_X11_shiftedOf) 56 = .ok (.iadd, 1) := by decide +kernel
theorem dd_X11_shiftedOf_57 : decode (zc mm_X11_shiftedOf) 57 = .ok (.imul, 1) := by decide +kernel
theorem dd_X11_shiftedOf_58 : decode (zc mm_X11_shiftedOf) 58 = .ok (.iload 7, 2) := by decide +kernel
theorem dd_X11_shiftedOf_60 : decode (zc mm_X11_shiftedOf) 60 = .ok (.iconst 1, 1) := by decide +kernel
theorem dd_X11_shiftedOf_61 : decode (zc mm_X11_shiftedOf) 61 = .ok (.iadd, 1) := by decide +kernel
theorem dd_X11_shiftedOf_62 : decode (zc mm_X11_shiftedOf) 62 = .ok (.iload_n 2, 1) := by decide +kernel
theorem dd_X11_shiftedOf_63 : decode (zc mm_X11_shiftedOf) 63 = .ok (.isub, 1) := by decide +kernel
theorem dd_X11_shiftedOf_64 : decode (zc mm_X11_shiftedOf) 64 = .ok (.idiv, 1) := by decide +kernel
theorem dd_X11_shiftedOf_65 : decode (zc mm_X11_shiftedOf) 65 = .ok (.istore 5, 2) := by decide +kernel
theorem dd_X11_shiftedOf_67 : decode (zc mm_X11_shiftedOf) 67 = .ok (.iload 6, 2) := by decide +kernel
theorem dd_X11_shiftedOf_69 : decode (zc mm_X11_shiftedOf) 69 = .ok (.aload_n 0, 1) := by decide +kernel
theorem dd_X11_shiftedOf_70 : decode (zc mm_X11_shiftedOf) 70 = .ok (.aload_n 0, 1) := by decide +kernel
theorem dd_X11_shiftedOf_71 : decode (zc mm_X11_shiftedOf) 71 = .ok (.getfield 37, 3) := by decide +kernel
theorem dd_X11_shiftedOf_74 : decode (zc mm_X11_shiftedOf) 74 = .ok (.iload_n 1, 1) := by decide +kernel
theorem dd_X11_shiftedOf_75 : decode (zc mm_X11_shiftedOf) 75 = .ok (.iaload, 1) := by decide +kernel
theorem dd_X11_shiftedOf_76 : decode (zc mm_X11_shiftedOf) 76 = .ok (.invokevirtual 13, 3) := by decide +kernel
theorem dd_X11_shiftedOf_79 : decode (zc mm_X11_shiftedOf) 79 = .ok (.imul, 1) := by decide +kernel
theorem dd_X11_shiftedOf_80 : decode (zc mm_X11_shiftedOf) 80 = .ok (.aload_n 0, 1) := by decide +kernel
theorem dd_X11_shiftedOf_81 : decode (zc mm_X11_shiftedOf) 81 = .ok (.getfield 9, 3) := by decide +kernel
theorem dd_X11_shiftedOf_84 : decode (zc mm_X11_shiftedOf) 84 = .ok (.irem, 1) := by decide +kernel
theorem dd_X11_shiftedOf_85 : decode (zc mm_X11_shiftedOf) 85 = .ok (.istore 6, 2) := by decide +kernel
theorem dd_X11_shiftedOf_87 : decode (zc mm_X11_shiftedOf) 87 = .ok (.iinc 7 1, 3) := by decide +kernel
theorem dd_X11_shiftedOf_90 : decode (zc mm_X11_shiftedOf) 90 = .ok (.goto (-78), 3) := by decide +kernel
theorem dd_X11_shiftedOf_93 : decode (zc mm_X11_shiftedOf) 93 = .ok (.iload 4, 2) := by decide +kernel
theorem dd_X11_shiftedOf_95 : decode (zc mm_X11_shiftedOf) 95 = .ok (.ireturn, 1) := by decide +kernel
theorem dd_X11_coefficientOf_0 : decode (zc mm_X11_coefficientOf) 0 = .ok (.aload_n 0, 1) := by decide +kernel
theorem dd_X11_coefficientOf_1 : decode (zc mm_X11_coefficientOf) 1 = .ok (.getfield 34, 3) := by decide +kernel
theorem dd_X11_coefficientOf_4 : decode (zc mm_X11_coefficientOf) 4 = .ok (.iload_n 1, 1) := by decide +kernel
theorem dd_X11_coefficientOf_5 : decode (zc mm_X11_coefficientOf) 5 = .ok (.iaload, 1) := by decide +kernel
theorem dd_X11_coefficientOf_6 : decode (zc mm_X11_coefficientOf) 6 = .ok (.tableswitch 111 1 5 #[34, 42, 50, 58, 86], 34) := by decide +kernel
theorem dd_X11_coefficientOf_40 : decode (zc mm_X11_coefficientOf) 40 = .ok (.aload_n 0, 1) := by decide +kernel
theorem dd_X11_coefficientOf_41 : decode (zc mm_X11_coefficientOf) 41 = .ok (.iload_n 1, 1) := by decide +kernel
theorem dd_X11_coefficientOf_42 : decode (zc mm_X11_coefficientOf) 42 = .ok (.iload_n 2, 1) := by decide +kernel
theorem dd_X11_coefficientOf_43 : decode (zc mm_X11_coefficientOf) 43 = .ok (.iload_n 3, 1) := by decide +kernel
theorem dd_X11_coefficientOf_44 : decode (zc mm_X11_coefficientOf) 44 = .ok (.invokevirtual 102, 3) := by decide +kernel
theorem dd_X11_coefficientOf_47 : decode (zc mm_X11_coefficientOf) 47 = .ok (.ireturn, 1) := by decide +kernel
theorem dd_X11_coefficientOf_48 : decode (zc mm_X11_coefficientOf) 48 = .ok (.aload_n 0, 1) := by decide +kernel
theorem dd_X11_coefficientOf_49 : decode (zc mm_X11_coefficientOf) 49 = .ok (.iload_n 1, 1) := by decide +kernel
theorem dd_X11_coefficientOf_50 : decode (zc mm_X11_coefficientOf) 50 = .ok (.iload_n 3, 1) := by decide +kernel
theorem dd_X11_coefficientOf_51 : decode (zc mm_X11_coefficientOf) 51 = .ok (.iload_n 2, 1) := by decide +kernel
theorem dd_X11_coefficientOf_52 : decode (zc mm_X11_coefficientOf) 52 = .ok (.invokevirtual 98, 3) := by decide +kernel
theorem dd_X11_coefficientOf_55 : decode (zc mm_X11_coefficientOf) 55 = .ok (.ireturn, 1) := by decide +kernel
theorem dd_X11_coefficientOf_56 : decode (zc mm_X11_coefficientOf) 56 = .ok (.aload_n 0, 1) := by decide +kernel
theorem dd_X11_coefficientOf_57 : decode (zc mm_X11_coefficientOf) 57 = .ok (.iload_n 1, 1) := by decide +kernel
theorem dd_X11_coefficientOf_58 : decode (zc mm_X11_coefficientOf) 58 = .ok (.iload_n 2, 1) := by decide +kernel
theorem dd_X11_coefficientOf_59 : decode (zc mm_X11_coefficientOf) 59 = .ok (.iload_n 3, 1) := by decide +kernel
theorem dd_X11_coefficientOf_60 : decode (zc mm_X11_coefficientOf) 60 = .ok (.invokevirtual 105, 3) := by decide +kernel
theorem dd_X11_coefficientOf_63 : decode (zc mm_X11_coefficientOf) 63 = .ok (.ireturn, 1) := by decide +kernel
theorem dd_X11_coefficientOf_64 : decode (zc mm_X11_coefficientOf) 64 = .ok (.iload_n 2, 1) := by decide +kernel
theorem dd_X11_coefficientOf_65 : decode (zc mm_X11_coefficientOf) 65 = .ok (.iconst 4, 1) := by decide +kernel
theorem dd_X11_coefficientOf_66 : decode (zc mm_X11_coefficientOf) 66 = .ok (.if_icmp .ne 7, 3) := by decide +kernel
theorem dd_X11_coefficientOf_69 : decode (zc mm_X11_coefficientOf) 69 = .ok (.iconst 0, 1) := by decide +kernel
theorem dd_X11_coefficientOf_70 : decode (zc mm_X11_coefficientOf) 70 = .ok (.goto 21, 3) := by decide +kernel
theorem dd_X11_coefficientOf_73 : decode (zc mm_X11_coefficientOf) 73 = .ok (.iload_n 2, 1) := by decide +kernel
theorem dd_X11_coefficientOf_74 : decode (zc mm_X11_coefficientOf) 74 = .ok (.iconst 1, 1) := by decide +kernel
theorem dd_X11_coefficientOf_75 : decode (zc mm_X11_coefficientOf) 75 = .ok (.iadd, 1) := by decide +kernel
theorem dd_X11_coefficientOf_76 : decode (zc mm_X11_coefficientOf) 76 = .ok (.aload_n 0, 1) := by decide +kernel
theorem dd_X11_coefficientOf_77 : decode (zc mm_X11_coefficientOf) 77 = .ok (.iload_n 1, 1) := by decide +kernel
theorem dd_X11_coefficientOf_78 : decode (zc mm_X11_coefficientOf) 78 = .ok (.iload_n 2, 1) := by decide +kernel
theorem dd_X11_coefficientOf_79 : decode (zc mm_X11_coefficientOf) 79 = .ok (.iconst 1, 1) := by decide +kernel
theorem dd_X11_coefficientOf_80 : decode (zc mm_X11_coefficientOf) 80 = .ok (.iadd, 1) := by decide +kernel
theorem dd_X11_coefficientOf_81 : decode (zc mm_X11_coefficientOf) 81 = .ok (.iload_n 3, 1) := by decide +kernel
theorem dd_X11_coefficientOf_82 : decode (zc mm_X11_coefficientOf) 82 = .ok (.invokevirtual 102, 3) := by decide +kernel
theorem dd_X11_coefficientOf_85 : decode (zc mm_X11_coefficientOf) 85 = .ok (.imul, 1) := by decide +kernel
theorem dd_X11_coefficientOf_86 : decode (zc mm_X11_coefficientOf) 86 = .ok (.aload_n 0, 1) := by decide +kernel
theorem dd_X11_coefficientOf_87 : decode (zc mm_X11_coefficientOf) 87 = .ok (.getfield 9, 3) := by decide +kernel
theorem dd_X11_coefficientOf_90 : decode (zc mm_X11_coefficientOf) 90 = .ok (.irem, 1) := by decide +kernel
theorem dd_X11_coefficientOf_91 : decode (zc mm_X11_coefficientOf) 91 = .ok (.ireturn, 1) := by decide +kernel
theorem dd_X11_coefficientOf_92 : decode (zc mm_X11_coefficientOf) 92 = .ok (.aload_n 0, 1) := by decide +kernel
theorem dd_X11_coefficientOf_93 : decode (zc mm_X11_coefficientOf) 93 = .ok (.iload_n 1, 1) := by decide +kernel
theorem dd_X11_coefficientOf_94 : decode (zc mm_X11_coefficientOf) 94 = .ok (.iload_n 3, 1) := by decide +kernel
theorem dd_X11_coefficientOf_95 : decode (zc mm_X11_coefficientOf) 95 = .ok (.iload_n 2, 1) := by decide +kernel
theorem dd_X11_coefficientOf_96 : decode (zc mm_X11_coefficientOf) 96 = .ok (.invokevirtual 98, 3) := by decide +kernel
theorem dd_X11_coefficientOf_99 : decode (zc mm_X11_coefficientOf) 99 = .ok (.aload_n 0, 1) := by decide +kernel
theorem dd_X11_coefficientOf_100 : decode (zc mm_X11_coefficientOf) 100 = .ok (.aload_n 0, 1) := by decide +kernel
theorem dd_X11_coefficientOf_101 : decode (zc mm_X11_coefficientOf) 101 = .ok (.getfield 37, 3) := by decide +kernel
theorem dd_X11_coefficientOf_104 : decode (zc mm_X11_coefficientOf) 104 = .ok (.iload_n 1, 1) := by decide +kernel
theorem dd_X11_coefficientOf_105 : decode (zc mm_X11_coefficientOf) 105 = .ok (.iaload, 1) := by decide +kernel
theorem dd_X11_coefficientOf_106 : decode (zc mm_X11_coefficientOf) 106 = .ok (.iload_n 3, 1) := by decide +kernel
theorem dd_X11_coefficientOf_107 : decode (zc mm_X11_coefficientOf) 107 = .ok (.invokevirtual 17, 3) := by decide +kernel
theorem dd_X11_coefficientOf_110 : decode (zc mm_X11_coefficientOf) 110 = .ok (.imul, 1) := by decide +kernel
theorem dd_X11_coefficientOf_111 : decode (zc mm_X11_coefficientOf) 111 = .ok (.aload_n 0, 1) := by decide +kernel
theorem dd_X11_coefficientOf_112 : decode (zc mm_X11_coefficientOf) 112 = .ok (.getfield 9, 3) := by decide +kernel
theorem dd_X11_coefficientOf_115 : decode (zc mm_X11_coefficientOf) 115 = .ok (.irem, 1) := by decide +kernel
theorem dd_X11_coefficientOf_116 : decode (zc mm_X11_coefficientOf) 116 = .ok (.ireturn, 1) := by decide +kernel
theorem dd_X11_coefficientOf_117 : decode (zc mm_X11_coefficientOf) 117 = .ok (.aload_n 0, 1) := by decide +kernel
theorem dd_X11_coefficientOf_118 : decode (zc mm_X11_coefficientOf) 118 = .ok (.iload_n 1, 1) := by decide +kernel
theorem dd_X11_coefficientOf_119 : decode (zc mm_X11_coefficientOf) 119 = .ok (.iload_n 2, 1) := by decide +kernel
theorem dd_X11_coefficientOf_120 : decode (zc mm_X11_coefficientOf) 120 = .ok (.iload_n 3, 1) := by decide +kernel
theorem dd_X11_coefficientOf_121 : decode (zc mm_X11_coefficientOf) 121 = .ok (.invokevirtual 98, 3) := by decide +kernel
theorem dd_X11_coefficientOf_124 : decode (zc mm_X11_coefficientOf) 124 = .ok (.ireturn, 1) := by decide +kernel
theorem dd_X11_isTerm_0 : decode (zc mm_X11_isTerm) 0 = .ok (.aload_n 0, 1) := by decide +kernel
theorem dd_X11_isTerm_1 : decode (zc mm_X11_isTerm) 1 = .ok (.iload_n 1, 1) := by decide +kernel
theorem dd_X11_isTerm_2 : decode (zc mm_X11_isTerm) 2 = .ok (.iload_n 2, 1) := by decide +kernel
theorem dd_X11_isTerm_3 : decode (zc mm_X11_isTerm) 3 = .ok (.iload_n 3, 1) := by decide +kernel
theorem dd_X11_isTerm_4 : decode (zc mm_X11_isTerm) 4 = .ok (.invokevirtual 108, 3) := by decide +kernel
theorem dd_X11_isTerm_7 : decode (zc mm_X11_isTerm) 7 = .ok (.ifCond .eq 7, 3) := by decide +kernel
theorem dd_X11_isTerm_10 : decode (zc mm_X11_isTerm) 10 = .ok (.iconst 1, 1) := by decide +kernel
theorem dd_X11_isTerm_11 : decode (zc mm_X11_isTerm) 11 = .ok (.goto 4, 3) := by decide +kernel
theorem dd_X11_isTerm_14 : decode (zc mm_X11_isTerm) 14 = .ok (.iconst 0, 1) := by decide +kernel
theorem dd_X11_isTerm_15 : decode (zc mm_X11_isTerm) 15 = .ok (.ireturn, 1) := by decide +kernel
theorem dd_X11_degreeOf_0 : decode (zc mm_X11_degreeOf) 0 = .ok (.bipush (-9), 2) := by decide +kernel
theorem dd_X11_degreeOf_2 : decode (zc mm_X11_degreeOf) 2 = .ok (.istore_n 3, 1) := by decide +kernel
theorem dd_X11_degreeOf_3 : decode (zc mm_X11_degreeOf) 3 = .ok (.iconst 0, 1) := by decide +kernel
theorem dd_X11_degreeOf_4 : decode (zc mm_X11_degreeOf) 4 = .ok (.istore 4, 2) := by decide +kernel
theorem dd_X11_degreeOf_6 : decode (zc mm_X11_degreeOf) 6 = .ok (.iload 4, 2) := by decide +kernel
theorem dd_X11_degreeOf_8 : decode (zc mm_X11_degreeOf) 8 = .ok (.bipush 25, 2) := by decide +kernel
theorem dd_X11_degreeOf_10 : decode (zc mm_X11_degreeOf) 10 = .ok (.if_icmp .ge 72, 3) := by decide +kernel
theorem dd_X11_degreeOf_13 : decode (zc mm_X11_degreeOf) 13 = .ok (.iload 4, 2) := by decide +kernel
theorem dd_X11_degreeOf_15 : decode (zc mm_X11_degreeOf) 15 = .ok (.iconst 5, 1) := by decide +kernel
theorem dd_X11_degreeOf_16 : decode (zc mm_X11_degreeOf) 16 = .ok (.idiv, 1) := by decide +kernel
theorem dd_X11_degreeOf_17 : decode (zc mm_X11_degreeOf) 17 = .ok (.istore 5, 2) := by decide +kernel
theorem dd_X11_degreeOf_19 : decode (zc mm_X11_degreeOf) 19 = .ok (.iload 4, 2) := by decide +kernel
theorem dd_X11_degreeOf_21 : decode (zc mm_X11_degreeOf) 21 = .ok (.iconst 5, 1) := by decide +kernel
theorem dd_X11_degreeOf_22 : decode (zc mm_X11_degreeOf) 22 = .ok (.irem, 1) := by decide +kernel
theorem dd_X11_degreeOf_23 : decode (zc mm_X11_degreeOf) 23 = .ok (.istore 6, 2) := by decide +kernel
theorem dd_X11_degreeOf_25 : decode (zc mm_X11_degreeOf) 25 = .ok (.iload_n 2, 1) := by decide +kernel
theorem dd_X11_degreeOf_26 : decode (zc mm_X11_degreeOf) 26 = .ok (.ifCond .ne 8, 3) := by decide +kernel
theorem dd_X11_degreeOf_29 : decode (zc mm_X11_degreeOf) 29 = .ok (.iload 5, 2) := by decide +kernel
theorem dd_X11_degreeOf_31 : decode (zc mm_X11_degreeOf) 31 = .ok (.goto 18, 3) := by decide +kernel
theorem dd_X11_degreeOf_34 : decode (zc mm_X11_degreeOf) 34 = .ok (.iload_n 2, 1) := by decide +kernel
theorem dd_X11_degreeOf_35 : decode (zc mm_X11_degreeOf) 35 = .ok (.iconst 1, 1) := by decide +kernel
theorem dd_X11_degreeOf_36 : decode (zc mm_X11_degreeOf) 36 = .ok (.if_icmp .ne 8, 3) := by decide +kernel
theorem dd_X11_degreeOf_39 : decode (zc mm_X11_degreeOf) 39 = .ok (.iload 6, 2) := by decide +kernel
theorem dd_X11_degreeOf_41 : decode (zc mm_X11_degreeOf) 41 = .ok (.goto 8, 3) := by decide +kernel
theorem dd_X11_degreeOf_44 : decode (zc mm_X11_degreeOf) 44 = .ok (.iload 5, 2) := by decide +kernel
theorem dd_X11_degreeOf_46 : decode (zc mm_X11_degreeOf) 46 = .ok (.iload 6, 2) := by decide +kernel
theorem dd_X11_degreeOf_48 : decode (zc mm_X11_degreeOf) 48 = .ok (.iadd, 1) := by decide +kernel
theorem dd_X11_degreeOf_49 : decode (zc mm_X11_degreeOf) 49 = .ok (.istore 7, 2) := by decide +kernel
theorem dd_X11_degreeOf_51 : decode (zc mm_X11_degreeOf) 51 = .ok (.iload 7, 2) := by decide +kernel
theorem dd_X11_degreeOf_53 : decode (zc mm_X11_degreeOf) 53 = .ok (.iload_n 3, 1) := by decide +kernel
theorem dd_X11_degreeOf_54 : decode (zc mm_X11_degreeOf) 54 = .ok (.if_icmp .le 20, 3) := by decide +kernel
theorem dd_X11_degreeOf_57 : decode (zc mm_X11_degreeOf) 57 = .ok (.aload_n 0, 1) := by decide +kernel
theorem dd_X11_degreeOf_58 : decode (zc mm_X11_degreeOf) 58 = .ok (.iload_n 1, 1) := by decide +kernel
theorem dd_X11_degreeOf_59 : decode (zc mm_X11_degreeOf) 59 = .ok (.iload 5, 2) := by decide +kernel
theorem dd_X11_degreeOf_61 : decode (zc mm_X11_degreeOf) 61 = .ok (.iload 6, 2) := by decide +kernel
theorem dd_X11_degreeOf_63 : decode (zc mm_X11_degreeOf) 63 = .ok (.invokevirtual 111, 3) := by decide +kernel
theorem dd_X11_degreeOf_66 : decode (zc mm_X11_degreeOf) 66 = .ok (.ifCond .eq 8, 3) := by decide +kernel
theorem dd_X11_degreeOf_69 : decode (zc mm_X11_degreeOf) 69 = .ok (.iload 7, 2) := by decide +kernel
theorem dd_X11_degreeOf_71 : decode (zc mm_X11_degreeOf) 71 = .ok (.goto 4, 3) := by decide +kernel
theorem dd_X11_degreeOf_74 : decode (zc mm_X11_degreeOf) 74 = .ok (.iload_n 3, 1) := by decide +kernel
theorem dd_X11_degreeOf_75 : decode (zc mm_X11_degreeOf) 75 = .ok (.istore_n 3, 1) := by decide +kernel
theorem dd_X11_degreeOf_76 : decode (zc mm_X11_degreeOf) 76 = .ok (.iinc 4 1, 3) := by decide +kernel
theorem dd_X11_degreeOf_79 : decode (zc mm_X11_degreeOf) 79 = .ok (.goto (-73), 3) := by decide +kernel
theorem dd_X11_degreeOf_82 : decode (zc mm_X11_degreeOf) 82 = .ok (.iload_n 3, 1) := by decide +kernel
theorem dd_X11_degreeOf_83 : decode (zc mm_X11_degreeOf) 83 = .ok (.ireturn, 1) := by decide +kernel
theorem dd_X11_isNought_0 : decode (zc mm_X11_isNought) 0 = .ok (.aload_n 0, 1) := by decide +kernel
theorem dd_X11_isNought_1 : decode (zc mm_X11_isNought) 1 = .ok (.iload_n 1, 1) := by decide +kernel
theorem dd_X11_isNought_2 : decode (zc mm_X11_isNought) 2 = .ok (.iconst 0, 1) := by decide +kernel
theorem dd_X11_isNought_3 : decode (zc mm_X11_isNought) 3 = .ok (.invokevirtual 114, 3) := by decide +kernel
theorem dd_X11_isNought_6 : decode (zc mm_X11_isNought) 6 = .ok (.ifCond .ge 7, 3) := by decide +kernel
theorem dd_X11_isNought_9 : decode (zc mm_X11_isNought) 9 = .ok (.iconst 1, 1) := by decide +kernel
theorem dd_X11_isNought_10 : decode (zc mm_X11_isNought) 10 = .ok (.goto 4, 3) := by decide +kernel
theorem dd_X11_isNought_13 : decode (zc mm_X11_isNought) 13 = .ok (.iconst 0, 1) := by decide +kernel
theorem dd_X11_isNought_14 : decode (zc mm_X11_isNought) 14 = .ok (.ireturn, 1) := by decide +kernel
theorem dd_X11_termsOf_0 : decode (zc mm_X11_termsOf) 0 = .ok (.iconst 0, 1) := by decide +kernel
theorem dd_X11_termsOf_1 : decode (zc mm_X11_termsOf) 1 = .ok (.istore_n 2, 1) := by decide +kernel
theorem dd_X11_termsOf_2 : decode (zc mm_X11_termsOf) 2 = .ok (.iconst 0, 1) := by decide +kernel
theorem dd_X11_termsOf_3 : decode (zc mm_X11_termsOf) 3 = .ok (.istore_n 3, 1) := by decide +kernel
theorem dd_X11_termsOf_4 : decode (zc mm_X11_termsOf) 4 = .ok (.iload_n 3, 1) := by decide +kernel
theorem dd_X11_termsOf_5 : decode (zc mm_X11_termsOf) 5 = .ok (.bipush 25, 2) := by decide +kernel
theorem dd_X11_termsOf_7 : decode (zc mm_X11_termsOf) 7 = .ok (.if_icmp .ge 31, 3) := by decide +kernel
theorem dd_X11_termsOf_10 : decode (zc mm_X11_termsOf) 10 = .ok (.iload_n 2, 1) := by decide +kernel
theorem dd_X11_termsOf_11 : decode (zc mm_X11_termsOf) 11 = .ok (.aload_n 0, 1) := by decide +kernel
theorem dd_X11_termsOf_12 : decode (zc mm_X11_termsOf) 12 = .ok (.iload_n 1, 1) := by decide +kernel
theorem dd_X11_termsOf_13 : decode (zc mm_X11_termsOf) 13 = .ok (.iload_n 3, 1) := by decide +kernel
theorem dd_X11_termsOf_14 : decode (zc mm_X11_termsOf) 14 = .ok (.iconst 5, 1) := by decide +kernel
theorem dd_X11_termsOf_15 : decode (zc mm_X11_termsOf) 15 = .ok (.idiv, 1) := by decide +kernel
theorem dd_X11_termsOf_16 : decode (zc mm_X11_termsOf) 16 = .ok (.iload_n 3, 1) := by decide +kernel
theorem dd_X11_termsOf_17 : decode (zc mm_X11_termsOf) 17 = .ok (.iconst 5, 1) := by decide +kernel
theorem dd_X11_termsOf_18 : decode (zc mm_X11_termsOf) 18 = .ok (.irem, 1) := by decide +kernel
theorem dd_X11_termsOf_19 : decode (zc mm_X11_termsOf) 19 = .ok (.invokevirtual 111, 3) := by decide +kernel
theorem dd_X11_termsOf_22 : decode (zc mm_X11_termsOf) 22 = .ok (.ifCond .eq 7, 3) := by decide +kernel
theorem dd_X11_termsOf_25 : decode (zc mm_X11_termsOf) 25 = .ok (.iconst 1, 1) := by decide +kernel
theorem dd_X11_termsOf_26 : decode (zc mm_X11_termsOf) 26 = .ok (.goto 4, 3) := by decide +kernel
theorem dd_X11_termsOf_29 : decode (zc mm_X11_termsOf) 29 = .ok (.iconst 0, 1) := by decide +kernel
theorem dd_X11_termsOf_30 : decode (zc mm_X11_termsOf) 30 = .ok (.iadd, 1) := by decide +kernel
theorem dd_X11_termsOf_31 : decode (zc mm_X11_termsOf) 31 = .ok (.istore_n 2, 1) := by decide +kernel
theorem dd_X11_termsOf_32 : decode (zc mm_X11_termsOf) 32 = .ok (.iinc 3 1, 3) := by decide +kernel
theorem dd_X11_termsOf_35 : decode (zc mm_X11_termsOf) 35 = .ok (.goto (-31), 3) := by decide +kernel
theorem dd_X11_termsOf_38 : decode (zc mm_X11_termsOf) 38 = .ok (.iload_n 2, 1) := by decide +kernel
theorem dd_X11_termsOf_39 : decode (zc mm_X11_termsOf) 39 = .ok (.ireturn, 1) := by decide +kernel
theorem dd_X11_valueAt_0 : decode (zc mm_X11_valueAt) 0 = .ok (.iconst 0, 1) := by decide +kernel
theorem dd_X11_valueAt_1 : decode (zc mm_X11_valueAt) 1 = .ok (.istore 4, 2) := by decide +kernel
theorem dd_X11_valueAt_3 : decode (zc mm_X11_valueAt) 3 = .ok (.iconst 0, 1) := by decide +kernel
theorem dd_X11_valueAt_4 : decode (zc mm_X11_valueAt) 4 = .ok (.istore 5, 2) := by decide +kernel
theorem dd_X11_valueAt_6 : decode (zc mm_X11_valueAt) 6 = .ok (.iload 5, 2) := by decide +kernel
theorem dd_X11_valueAt_8 : decode (zc mm_X11_valueAt) 8 = .ok (.bipush 25, 2) := by decide +kernel
theorem dd_X11_valueAt_10 : decode (zc mm_X11_valueAt) 10 = .ok (.if_icmp .ge 57, 3) := by decide +kernel
theorem dd_X11_valueAt_13 : decode (zc mm_X11_valueAt) 13 = .ok (.iload 4, 2) := by decide +kernel
theorem dd_X11_valueAt_15 : decode (zc mm_X11_valueAt) 15 = .ok (.aload_n 0, 1) := by decide +kernel
theorem dd_X11_valueAt_16 : decode (zc mm_X11_valueAt) 16 = .ok (.iload_n 1, 1) := by decide +kernel
theorem dd_X11_valueAt_17 : decode (zc mm_X11_valueAt) 17 = .ok (.iload 5, 2) := by decide +kernel
theorem dd_X11_valueAt_19 : decode (zc mm_X11_valueAt) 19 = .ok (.iconst 5, 1) := by decide +kernel
theorem dd_X11_valueAt_20 : decode (zc mm_X11_valueAt) 20 = .ok (.idiv, 1) := by decide +kernel
theorem dd_X11_valueAt_21 : decode (zc mm_X11_valueAt) 21 = .ok (.iload 5, 2) := by decide +kernel
theorem dd_X11_valueAt_23 : decode (zc mm_X11_valueAt) 23 = .ok (.iconst 5, 1) := by decide +kernel
theorem dd_X11_valueAt_24 : decode (zc mm_X11_valueAt) 24 = .ok (.irem, 1) := by decide +kernel
theorem dd_X11_valueAt_25 : decode (zc mm_X11_valueAt) 25 = .ok (.invokevirtual 108, 3) := by decide +kernel
theorem dd_X11_valueAt_28 : decode (zc mm_X11_valueAt) 28 = .ok (.aload_n 0, 1) := by decide +kernel
theorem dd_X11_valueAt_29 : decode (zc mm_X11_valueAt) 29 = .ok (.iload_n 2, 1) := by decide +kernel
theorem dd_X11_valueAt_30 : decode (zc mm_X11_valueAt) 30 = .ok (.iload 5, 2) := by decide +kernel
theorem dd_X11_valueAt_32 : decode (zc mm_X11_valueAt) 32 = .ok (.iconst 5, 1) := by decide +kernel
theorem dd_X11_valueAt_33 : decode (zc mm_X11_valueAt) 33 = .ok (.idiv, 1) := by decide +kernel
theorem dd_X11_valueAt_34 : decode (zc mm_X11_valueAt) 34 = .ok (.invokevirtual 17, 3) := by decide +kernel
theorem dd_X11_valueAt_37 : decode (zc mm_X11_valueAt) 37 = .ok (.imul, 1) := by decide +kernel
theorem dd_X11_valueAt_38 : decode (zc mm_X11_valueAt) 38 = .ok (.aload_n 0, 1) := by decide +kernel
theorem dd_X11_valueAt_39 : decode (zc mm_X11_valueAt) 39 = .ok (.getfield 9, 3) := by decide +kernel
theorem dd_X11_valueAt_42 : decode (zc mm_X11_valueAt) 42 = .ok (.irem, 1) := by decide +kernel
theorem dd_X11_valueAt_43 : decode (zc mm_X11_valueAt) 43 = .ok (.aload_n 0, 1) := by decide +kernel
theorem dd_X11_valueAt_44 : decode (zc mm_X11_valueAt) 44 = .ok (.iload_n 3, 1) := by decide +kernel
theorem dd_X11_valueAt_45 : decode (zc mm_X11_valueAt) 45 = .ok (.iload 5, 2) := by decide +kernel
theorem dd_X11_valueAt_47 : decode (zc mm_X11_valueAt) 47 = .ok (.iconst 5, 1) := by decide +kernel
theorem dd_X11_valueAt_48 : decode (zc mm_X11_valueAt) 48 = .ok (.irem, 1) := by decide +kernel
theorem dd_X11_valueAt_49 : decode (zc mm_X11_valueAt) 49 = .ok (.invokevirtual 17, 3) := by decide +kernel
theorem dd_X11_valueAt_52 : decode (zc mm_X11_valueAt) 52 = .ok (.imul, 1) := by decide +kernel
theorem dd_X11_valueAt_53 : decode (zc mm_X11_valueAt) 53 = .ok (.iadd, 1) := by decide +kernel
theorem dd_X11_valueAt_54 : decode (zc mm_X11_valueAt) 54 = .ok (.aload_n 0, 1) := by decide +kernel
theorem dd_X11_valueAt_55 : decode (zc mm_X11_valueAt) 55 = .ok (.getfield 9, 3) := by decide +kernel
theorem dd_X11_valueAt_58 : decode (zc mm_X11_valueAt) 58 = .ok (.irem, 1) := by decide +kernel
theorem dd_X11_valueAt_59 : decode (zc mm_X11_valueAt) 59 = .ok (.istore 4, 2) := by decide +kernel
theorem dd_X11_valueAt_61 : decode (zc mm_X11_valueAt) 61 = .ok (.iinc 5 1, 3) := by decide +kernel
theorem dd_X11_valueAt_64 : decode (zc mm_X11_valueAt) 64 = .ok (.goto (-58), 3) := by decide +kernel
theorem dd_X11_valueAt_67 : decode (zc mm_X11_valueAt) 67 = .ok (.iload 4, 2) := by decide +kernel
theorem dd_X11_valueAt_69 : decode (zc mm_X11_valueAt) 69 = .ok (.ireturn, 1) := by decide +kernel
theorem dd_X11_notes_0 : decode (zc mm_X11_notes) 0 = .ok (.aload_n 0, 1) := by decide +kernel
theorem dd_X11_notes_1 : decode (zc mm_X11_notes) 1 = .ok (.getfield 117, 3) := by decide +kernel
theorem dd_X11_notes_4 : decode (zc mm_X11_notes) 4 = .ok (.bipush 16, 2) := by decide +kernel
theorem dd_X11_notes_6 : decode (zc mm_X11_notes) 6 = .ok (.if_icmp .ne 55, 3) := by decide +kernel
theorem dd_X11_notes_9 : decode (zc mm_X11_notes) 9 = .ok (.iconst 1, 1) := by decide +kernel
theorem dd_X11_notes_10 : decode (zc mm_X11_notes) 10 = .ok (.istore_n 3, 1) := by decide +kernel
theorem dd_X11_notes_11 : decode (zc mm_X11_notes) 11 = .ok (.iload_n 3, 1) := by decide +kernel
theorem dd_X11_notes_12 : decode (zc mm_X11_notes) 12 = .ok (.bipush 16, 2) := by decide +kernel
theorem dd_X11_notes_14 : decode (zc mm_X11_notes) 14 = .ok (.if_icmp .ge 37, 3) := by decide +kernel
theorem dd_X11_notes_17 : decode (zc mm_X11_notes) 17 = .ok (.aload_n 0, 1) := by decide +kernel
theorem dd_X11_notes_18 : decode (zc mm_X11_notes) 18 = .ok (.getfield 40, 3) := by decide +kernel
theorem dd_X11_notes_21 : decode (zc mm_X11_notes) 21 = .ok (.iload_n 3, 1) := by decide +kernel
theorem dd_X11_notes_22 : decode (zc mm_X11_notes) 22 = .ok (.iconst 1, 1) := by decide +kernel
theorem dd_X11_notes_23 : decode (zc mm_X11_notes) 23 = .ok (.isub, 1) := by decide +kernel
theorem dd_X11_notes_24 : decode (zc mm_X11_notes) 24 = .ok (.aload_n 0, 1) := by decide +kernel
theorem dd_X11_notes_25 : decode (zc mm_X11_notes) 25 = .ok (.getfield 40, 3) := by decide +kernel
theorem dd_X11_notes_28 : decode (zc mm_X11_notes) 28 = .ok (.iload_n 3, 1) := by decide +kernel
theorem dd_X11_notes_29 : decode (zc mm_X11_notes) 29 = .ok (.iaload, 1) := by decide +kernel
theorem dd_X11_notes_30 : decode (zc mm_X11_notes) 30 = .ok (.iastore, 1) := by decide +kernel
theorem dd_X11_notes_31 : decode (zc mm_X11_notes) 31 = .ok (.aload_n 0, 1) := by decide +kernel
theorem dd_X11_notes_32 : decode (zc mm_X11_notes) 32 = .ok (.getfield 43, 3) := by decide +kernel
theorem dd_X11_notes_35 : decode (zc mm_X11_notes) 35 = .ok (.iload_n 3, 1) := by decide +kernel
theorem dd_X11_notes_36 : decode (zc mm_X11_notes) 36 = .ok (.iconst 1, 1) := by decide +kernel
theorem dd_X11_notes_37 : decode (zc mm_X11_notes) 37 = .ok (.isub, 1) := by decide +kernel
theorem dd_X11_notes_38 : decode (zc mm_X11_notes) 38 = .ok (.aload_n 0, 1) := by decide +kernel
theorem dd_X11_notes_39 : decode (zc mm_X11_notes) 39 = .ok (.getfield 43, 3) := by decide +kernel
theorem dd_X11_notes_42 : decode (zc mm_X11_notes) 42 = .ok (.iload_n 3, 1) := by decide +kernel
theorem dd_X11_notes_43 : decode (zc mm_X11_notes) 43 = .ok (.iaload, 1) := by decide +kernel
theorem dd_X11_notes_44 : decode (zc mm_X11_notes) 44 = .ok (.iastore, 1) := by decide +kernel
theorem dd_X11_notes_45 : decode (zc mm_X11_notes) 45 = .ok (.iinc 3 1, 3) := by decide +kernel
theorem dd_X11_notes_48 : decode (zc mm_X11_notes) 48 = .ok (.goto (-37), 3) := by decide +kernel
theorem dd_X11_notes_51 : decode (zc mm_X11_notes) 51 = .ok (.aload_n 0, 1) := by decide +kernel
theorem dd_X11_notes_52 : decode (zc mm_X11_notes) 52 = .ok (.dup, 1) := by decide +kernel
theorem dd_X11_notes_53 : decode (zc mm_X11_notes) 53 = .ok (.getfield 117, 3) := by decide +kernel
theorem dd_X11_notes_56 : decode (zc mm_X11_notes) 56 = .ok (.iconst 1, 1) := by decide +kernel
theorem dd_X11_notes_57 : decode (zc mm_X11_notes) 57 = .ok (.isub, 1) := by decide +kernel
theorem dd_X11_notes_58 : decode (zc mm_X11_notes) 58 = .ok (.putfield 117, 3) := by decide +kernel
theorem dd_X11_notes_61 : decode (zc mm_X11_notes) 61 = .ok (.aload_n 0, 1) := by decide +kernel
theorem dd_X11_notes_62 : decode (zc mm_X11_notes) 62 = .ok (.getfield 40, 3) := by decide +kernel
theorem dd_X11_notes_65 : decode (zc mm_X11_notes) 65 = .ok (.aload_n 0, 1) := by decide +kernel
theorem dd_X11_notes_66 : decode (zc mm_X11_notes) 66 = .ok (.getfield 117, 3) := by decide +kernel
theorem dd_X11_notes_69 : decode (zc mm_X11_notes) 69 = .ok (.iload_n 1, 1) := by decide +kernel
theorem dd_X11_notes_70 : decode (zc mm_X11_notes) 70 = .ok (.iastore, 1) := by decide +kernel
theorem dd_X11_notes_71 : decode (zc mm_X11_notes) 71 = .ok (.aload_n 0, 1) := by decide +kernel
theorem dd_X11_notes_72 : decode (zc mm_X11_notes) 72 = .ok (.getfield 43, 3) := by decide +kernel
theorem dd_X11_notes_75 : decode (zc mm_X11_notes) 75 = .ok (.aload_n 0, 1) := by decide +kernel
theorem dd_X11_notes_76 : decode (zc mm_X11_notes) 76 = .ok (.getfield 117, 3) := by decide +kernel
theorem dd_X11_notes_79 : decode (zc mm_X11_notes) 79 = .ok (.iload_n 2, 1) := by decide +kernel
theorem dd_X11_notes_80 : decode (zc mm_X11_notes) 80 = .ok (.iastore, 1) := by decide +kernel
theorem dd_X11_notes_81 : decode (zc mm_X11_notes) 81 = .ok (.aload_n 0, 1) := by decide +kernel
theorem dd_X11_notes_82 : decode (zc mm_X11_notes) 82 = .ok (.dup, 1) := by decide +kernel
theorem dd_X11_notes_83 : decode (zc mm_X11_notes) 83 = .ok (.getfield 117, 3) := by decide +kernel
theorem dd_X11_notes_86 : decode (zc mm_X11_notes) 86 = .ok (.iconst 1, 1) := by decide +kernel
theorem dd_X11_notes_87 : decode (zc mm_X11_notes) 87 = .ok (.iadd, 1) := by decide +kernel
theorem dd_X11_notes_88 : decode (zc mm_X11_notes) 88 = .ok (.putfield 117, 3) := by decide +kernel
theorem dd_X11_notes_91 : decode (zc mm_X11_notes) 91 = .ok (.return_, 1) := by decide +kernel
theorem dd_X11_undo_0 : decode (zc mm_X11_undo) 0 = .ok (.aload_n 0, 1) := by decide +kernel
theorem dd_X11_undo_1 : decode (zc mm_X11_undo) 1 = .ok (.getfield 117, 3) := by decide +kernel
theorem dd_X11_undo_4 : decode (zc mm_X11_undo) 4 = .ok (.ifCond .ne 10, 3) := by decide +kernel
theorem dd_X11_undo_7 : decode (zc mm_X11_undo) 7 = .ok (.aload_n 0, 1) := by decide +kernel
theorem dd_X11_undo_8 : decode (zc mm_X11_undo) 8 = .ok (.bipush (-3), 2) := by decide +kernel
theorem dd_X11_undo_10 : decode (zc mm_X11_undo) 10 = .ok (.invokevirtual 120, 3) := by decide +kernel
theorem dd_X11_undo_13 : decode (zc mm_X11_undo) 13 = .ok (.ireturn, 1) := by decide +kernel
theorem dd_X11_undo_14 : decode (zc mm_X11_undo) 14 = .ok (.aload_n 0, 1) := by decide +kernel
theorem dd_X11_undo_15 : decode (zc mm_X11_undo) 15 = .ok (.dup, 1) := by decide +kernel
theorem dd_X11_undo_16 : decode (zc mm_X11_undo) 16 = .ok (.getfield 117, 3) := by decide +kernel
theorem dd_X11_undo_19 : decode (zc mm_X11_undo) 19 = .ok (.iconst 1, 1) := by decide +kernel
theorem dd_X11_undo_20 : decode (zc mm_X11_undo) 20 = .ok (.isub, 1) := by decide +kernel
theorem dd_X11_undo_21 : decode (zc mm_X11_undo) 21 = .ok (.putfield 117, 3) := by decide +kernel
theorem dd_X11_undo_24 : decode (zc mm_X11_undo) 24 = .ok (.aload_n 0, 1) := by decide +kernel
theorem dd_X11_undo_25 : decode (zc mm_X11_undo) 25 = .ok (.getfield 40, 3) := by decide +kernel
theorem dd_X11_undo_28 : decode (zc mm_X11_undo) 28 = .ok (.aload_n 0, 1) := by decide +kernel
theorem dd_X11_undo_29 : decode (zc mm_X11_undo) 29 = .ok (.getfield 117, 3) := by decide +kernel
theorem dd_X11_undo_32 : decode (zc mm_X11_undo) 32 = .ok (.iaload, 1) := by decide +kernel
theorem dd_X11_undo_33 : decode (zc mm_X11_undo) 33 = .ok (.istore_n 1, 1) := by decide +kernel
theorem dd_X11_undo_34 : decode (zc mm_X11_undo) 34 = .ok (.iload_n 1, 1) := by decide +kernel
theorem dd_X11_undo_35 : decode (zc mm_X11_undo) 35 = .ok (.ifCond .ge 46, 3) := by decide +kernel
theorem dd_X11_undo_38 : decode (zc mm_X11_undo) 38 = .ok (.aload_n 0, 1) := by decide +kernel
theorem dd_X11_undo_39 : decode (zc mm_X11_undo) 39 = .ok (.getfield 34, 3) := by decide +kernel
theorem dd_X11_undo_42 : decode (zc mm_X11_undo) 42 = .ok (.iconst (-1), 1) := by decide +kernel
theorem dd_X11_undo_43 : decode (zc mm_X11_undo) 43 = .ok (.iload_n 1, 1) := by decide +kernel
theorem dd_X11_undo_44 : decode (zc mm_X11_undo) 44 = .ok (.isub, 1) := by decide +kernel
theorem dd_X11_undo_45 : decode (zc mm_X11_undo) 45 = .ok (.aload_n 0, 1) := by decide +kernel
theorem dd_X11_undo_46 : decode (zc mm_X11_undo) 46 = .ok (.getfield 43, 3) := by decide +kernel
theorem dd_X11_undo_49 : decode (zc mm_X11_undo) 49 = .ok (.aload_n 0, 1) := by decide +kernel
theorem dd_X11_undo_50 : decode (zc mm_X11_undo) 50 = .ok (.getfield 117, 3) := by decide +kernel
theorem dd_X11_undo_53 : decode (zc mm_X11_undo) 53 = .ok (.iaload, 1) := by decide +kernel
theorem dd_X11_undo_54 : decode (zc mm_X11_undo) 54 = .ok (.bipush 10, 2) := by decide +kernel
theorem dd_X11_undo_56 : decode (zc mm_X11_undo) 56 = .ok (.idiv, 1) := by decide +kernel
theorem dd_X11_undo_57 : decode (zc mm_X11_undo) 57 = .ok (.iastore, 1) := by decide +kernel
theorem dd_X11_undo_58 : decode (zc mm_X11_undo) 58 = .ok (.aload_n 0, 1) := by decide +kernel
theorem dd_X11_undo_59 : decode (zc mm_X11_undo) 59 = .ok (.getfield 37, 3) := by decide +kernel
theorem dd_X11_undo_62 : decode (zc mm_X11_undo) 62 = .ok (.iconst (-1), 1) := by decide +kernel
theorem dd_X11_undo_63 : decode (zc mm_X11_undo) 63 = .ok (.iload_n 1, 1) := by decide +kernel
theorem dd_X11_undo_64 : decode (zc mm_X11_undo) 64 = .ok (.isub, 1) := by decide +kernel
theorem dd_X11_undo_65 : decode (zc mm_X11_undo) 65 = .ok (.aload_n 0, 1) := by decide +kernel
theorem dd_X11_undo_66 : decode (zc mm_X11_undo) 66 = .ok (.getfield 43, 3) := by decide +kernel
theorem dd_X11_undo_69 : decode (zc mm_X11_undo) 69 = .ok (.aload_n 0, 1) := by decide +kernel
theorem dd_X11_undo_70 : decode (zc mm_X11_undo) 70 = .ok (.getfield 117, 3) := by decide +kernel
theorem dd_X11_undo_73 : decode (zc mm_X11_undo) 73 = .ok (.iaload, 1) := by decide +kernel
theorem dd_X11_undo_74 : decode (zc mm_X11_undo) 74 = .ok (.bipush 10, 2) := by decide +kernel
theorem dd_X11_undo_76 : decode (zc mm_X11_undo) 76 = .ok (.irem, 1) := by decide +kernel
theorem dd_X11_undo_77 : decode (zc mm_X11_undo) 77 = .ok (.iastore, 1) := by decide +kernel
theorem dd_X11_undo_78 : decode (zc mm_X11_undo) 78 = .ok (.goto 18, 3) := by decide +kernel
theorem dd_X11_undo_81 : decode (zc mm_X11_undo) 81 = .ok (.aload_n 0, 1) := by decide +kernel
theorem dd_X11_undo_82 : decode (zc mm_X11_undo) 82 = .ok (.getfield 31, 3) := by decide +kernel
theorem dd_X11_undo_85 : decode (zc mm_X11_undo) 85 = .ok (.iload_n 1, 1) := by decide +kernel
theorem dd_X11_undo_86 : decode (zc mm_X11_undo) 86 = .ok (.aload_n 0, 1) := by decide +kernel
theorem dd_X11_undo_87 : decode (zc mm_X11_undo) 87 = .ok (.getfield 43, 3) := by decide +kernel
theorem dd_X11_undo_90 : decode (zc mm_X11_undo) 90 = .ok (.aload_n 0, 1) := by decide +kernel
theorem dd_X11_undo_91 : decode (zc mm_X11_undo) 91 = .ok (.getfield 117, 3) := by decide +kernel
theorem dd_X11_undo_94 : decode (zc mm_X11_undo) 94 = .ok (.iaload, 1) := by decide +kernel
theorem dd_X11_undo_95 : decode (zc mm_X11_undo) 95 = .ok (.iastore, 1) := by decide +kernel
theorem dd_X11_undo_96 : decode (zc mm_X11_undo) 96 = .ok (.aload_n 0, 1) := by decide +kernel
theorem dd_X11_undo_97 : decode (zc mm_X11_undo) 97 = .ok (.getfield 117, 3) := by decide +kernel
theorem dd_X11_undo_100 : decode (zc mm_X11_undo) 100 = .ok (.ireturn, 1) := by decide +kernel
theorem dd_X11_letter_0 : decode (zc mm_X11_letter) 0 = .ok (.iload_n 1, 1) := by decide +kernel
theorem dd_X11_letter_1 : decode (zc mm_X11_letter) 1 = .ok (.ifCond .ge 10, 3) := by decide +kernel
theorem dd_X11_letter_4 : decode (zc mm_X11_letter) 4 = .ok (.aload_n 0, 1) := by decide +kernel
theorem dd_X11_letter_5 : decode (zc mm_X11_letter) 5 = .ok (.bipush (-4), 2) := by decide +kernel
theorem dd_X11_letter_7 : decode (zc mm_X11_letter) 7 = .ok (.invokevirtual 120, 3) := by decide +kernel
theorem dd_X11_letter_10 : decode (zc mm_X11_letter) 10 = .ok (.ireturn, 1) := by decide +kernel
theorem dd_X11_letter_11 : decode (zc mm_X11_letter) 11 = .ok (.iload_n 1, 1) := by decide +kernel
theorem dd_X11_letter_12 : decode (zc mm_X11_letter) 12 = .ok (.sipush 255, 3) := by decide +kernel
theorem dd_X11_letter_15 : decode (zc mm_X11_letter) 15 = .ok (.if_icmp .gt 12, 3) := by decide +kernel
theorem dd_X11_letter_18 : decode (zc mm_X11_letter) 18 = .ok (.aload_n 0, 1) := by decide +kernel
theorem dd_X11_letter_19 : decode (zc mm_X11_letter) 19 = .ok (.getfield 123, 3) := by decide +kernel
theorem dd_X11_letter_22 : decode (zc mm_X11_letter) 22 = .ok (.bipush 72, 2) := by decide +kernel
theorem dd_X11_letter_24 : decode (zc mm_X11_letter) 24 = .ok (.if_icmp .ne 10, 3) := by decide +kernel
theorem dd_X11_letter_27 : decode (zc mm_X11_letter) 27 = .ok (.aload_n 0, 1) := by decide +kernel
theorem dd_X11_letter_28 : decode (zc mm_X11_letter) 28 = .ok (.bipush (-6), 2) := by decide +kernel
theorem dd_X11_letter_30 : decode (zc mm_X11_letter) 30 = .ok (.invokevirtual 120, 3) := by decide +kernel
theorem dd_X11_letter_33 : decode (zc mm_X11_letter) 33 = .ok (.ireturn, 1) := by decide +kernel
theorem dd_X11_letter_34 : decode (zc mm_X11_letter) 34 = .ok (.aload_n 0, 1) := by decide +kernel
theorem dd_X11_letter_35 : decode (zc mm_X11_letter) 35 = .ok (.getfield 46, 3) := by decide +kernel
theorem dd_X11_letter_38 : decode (zc mm_X11_letter) 38 = .ok (.aload_n 0, 1) := by decide +kernel
theorem dd_X11_letter_39 : decode (zc mm_X11_letter) 39 = .ok (.getfield 123, 3) := by decide +kernel
theorem dd_X11_letter_42 : decode (zc mm_X11_letter) 42 = .ok (.iload_n 1, 1) := by decide +kernel
theorem dd_X11_letter_43 : decode (zc mm_X11_letter) 43 = .ok (.iastore, 1) := by decide +kernel
theorem dd_X11_letter_44 : decode (zc mm_X11_letter) 44 = .ok (.aload_n 0, 1) := by decide +kernel
theorem dd_X11_letter_45 : decode (zc mm_X11_letter) 45 = .ok (.dup, 1) := by decide +kernel
theorem dd_X11_letter_46 : decode (zc mm_X11_letter) 46 = .ok (.getfield 123, 3) := by decide +kernel
theorem dd_X11_letter_49 : decode (zc mm_X11_letter) 49 = .ok (.iconst 1, 1) := by decide +kernel
theorem dd_X11_letter_50 : decode (zc mm_X11_letter) 50 = .ok (.iadd, 1) := by decide +kernel
theorem dd_X11_letter_51 : decode (zc mm_X11_letter) 51 = .ok (.putfield 123, 3) := by decide +kernel
theorem dd_X11_letter_54 : decode (zc mm_X11_letter) 54 = .ok (.aload_n 0, 1) := by decide +kernel
theorem dd_X11_letter_55 : decode (zc mm_X11_letter) 55 = .ok (.getfield 123, 3) := by decide +kernel
theorem dd_X11_letter_58 : decode (zc mm_X11_letter) 58 = .ok (.ireturn, 1) := by decide +kernel
theorem dd_X11_next_0 : decode (zc mm_X11_next) 0 = .ok (.aload_n 0, 1) := by decide +kernel
theorem dd_X11_next_1 : decode (zc mm_X11_next) 1 = .ok (.getfield 126, 3) := by decide +kernel
theorem dd_X11_next_4 : decode (zc mm_X11_next) 4 = .ok (.aload_n 0, 1) := by decide +kernel
theorem dd_X11_next_5 : decode (zc mm_X11_next) 5 = .ok (.getfield 123, 3) := by decide +kernel
theorem dd_X11_next_8 : decode (zc mm_X11_next) 8 = .ok (.if_icmp .ge 15, 3) := by decide +kernel
theorem dd_X11_next_11 : decode (zc mm_X11_next) 11 = .ok (.aload_n 0, 1) := by decide +kernel
theorem dd_X11_next_12 : decode (zc mm_X11_next) 12 = .ok (.getfield 46, 3) := by decide +kernel
theorem dd_X11_next_15 : decode (zc mm_X11_next) 15 = .ok (.aload_n 0, 1) := by decide +kernel
theorem dd_X11_next_16 : decode (zc mm_X11_next) 16 = .ok (.getfield 126, 3) := by decide +kernel
theorem dd_X11_next_19 : decode (zc mm_X11_next) 19 = .ok (.iaload, 1) := by decide +kernel
theorem dd_X11_next_20 : decode (zc mm_X11_next) 20 = .ok (.goto 5, 3) := by decide +kernel
theorem dd_X11_next_23 : decode (zc mm_X11_next) 23 = .ok (.bipush (-9), 2) := by decide +kernel
theorem dd_X11_next_25 : decode (zc mm_X11_next) 25 = .ok (.ireturn, 1) := by decide +kernel
theorem dd_X11_isDigit_0 : decode (zc mm_X11_isDigit) 0 = .ok (.aload_n 0, 1) := by decide +kernel
theorem dd_X11_isDigit_1 : decode (zc mm_X11_isDigit) 1 = .ok (.invokevirtual 129, 3) := by decide +kernel
theorem dd_X11_isDigit_4 : decode (zc mm_X11_isDigit) 4 = .ok (.bipush 48, 2) := by decide +kernel
theorem dd_X11_isDigit_6 : decode (zc mm_X11_isDigit) 6 = .ok (.bipush 57, 2) := by decide +kernel
theorem dd_X11_isDigit_8 : decode (zc mm_X11_isDigit) 8 = .ok (.invokestatic 21, 3) := by decide +kernel
theorem dd_X11_isDigit_11 : decode (zc mm_X11_isDigit) 11 = .ok (.ireturn, 1) := by decide +kernel
theorem dd_X11_readsPower_0 : decode (zc mm_X11_readsPower) 0 = .ok (.aload_n 0, 1) := by decide +kernel
theorem dd_X11_readsPower_1 : decode (zc mm_X11_readsPower) 1 = .ok (.dup, 1) := by decide +kernel
theorem dd_X11_readsPower_2 : decode (zc mm_X11_readsPower) 2 = .ok (.getfield 126, 3) := by decide +kernel
theorem dd_X11_readsPower_5 : decode (zc mm_X11_readsPower) 5 = .ok (.iconst 1, 1) := by decide +kernel
theorem dd_X11_readsPower_6 : decode (zc mm_X11_readsPower) 6 = .ok (.iadd, 1) := by decide +kernel
theorem dd_X11_readsPower_7 : decode (zc mm_X11_readsPower) 7 = .ok (.putfield 126, 3) := by decide +kernel
theorem dd_X11_readsPower_10 : decode (zc mm_X11_readsPower) 10 = .ok (.aload_n 0, 1) := by decide +kernel
theorem dd_X11_readsPower_11 : decode (zc mm_X11_readsPower) 11 = .ok (.invokevirtual 129, 3) := by decide +kernel
theorem dd_X11_readsPower_14 : decode (zc mm_X11_readsPower) 14 = .ok (.bipush 94, 2) := by decide +kernel
theorem dd_X11_readsPower_16 : decode (zc mm_X11_readsPower) 16 = .ok (.if_icmp .eq 5, 3) := by decide +kernel
theorem dd_X11_readsPower_19 : decode (zc mm_X11_readsPower) 19 = .ok (.iconst 1, 1) := by decide +kernel
theorem dd_X11_readsPower_20 : decode (zc mm_X11_readsPower) 20 = .ok (.ireturn, 1) := by decide +kernel
theorem dd_X11_readsPower_21 : decode (zc mm_X11_readsPower) 21 = .ok (.aload_n 0, 1) := by decide +kernel
theorem dd_X11_readsPower_22 : decode (zc mm_X11_readsPower) 22 = .ok (.dup, 1) := by decide +kernel
theorem dd_X11_readsPower_23 : decode (zc mm_X11_readsPower) 23 = .ok (.getfield 126, 3) := by decide +kernel
theorem dd_X11_readsPower_26 : decode (zc mm_X11_readsPower) 26 = .ok (.iconst 1, 1) := by decide +kernel
theorem dd_X11_readsPower_27 : decode (zc mm_X11_readsPower) 27 = .ok (.iadd, 1) := by decide +kernel
theorem dd_X11_readsPower_28 : decode (zc mm_X11_readsPower) 28 = .ok (.putfield 126, 3) := by decide +kernel
theorem dd_X11_readsPower_31 : decode (zc mm_X11_readsPower) 31 = .ok (.aload_n 0, 1) := by decide +kernel
theorem dd_X11_readsPower_32 : decode (zc mm_X11_readsPower) 32 = .ok (.invokevirtual 129, 3) := by decide +kernel
theorem dd_X11_readsPower_35 : decode (zc mm_X11_readsPower) 35 = .ok (.bipush 49, 2) := by decide +kernel
theorem dd_X11_readsPower_37 : decode (zc mm_X11_readsPower) 37 = .ok (.bipush 52, 2) := by decide +kernel
theorem dd_X11_readsPower_39 : decode (zc mm_X11_readsPower) 39 = .ok (.invokestatic 21, 3) := by decide +kernel
theorem dd_X11_readsPower_42 : decode (zc mm_X11_readsPower) 42 = .ok (.ifCond .ne 6, 3) := by decide +kernel
theorem dd_X11_readsPower_45 : decode (zc mm_X11_readsPower) 45 = .ok (.bipush (-9), 2) := by decide +kernel
theorem dd_X11_readsPower_47 : decode (zc mm_X11_readsPower) 47 = .ok (.ireturn, 1) := by decide +kernel
theorem dd_X11_readsPower_48 : decode (zc mm_X11_readsPower) 48 = .ok (.aload_n 0, 1) := by decide +kernel
theorem dd_X11_readsPower_49 : decode (zc mm_X11_readsPower) 49 = .ok (.invokevirtual 129, 3) := by decide +kernel
theorem dd_X11_readsPower_52 : decode (zc mm_X11_readsPower) 52 = .ok (.bipush 48, 2) := by decide +kernel
theorem dd_X11_readsPower_54 : decode (zc mm_X11_readsPower) 54 = .ok (.isub, 1) := by decide +kernel
theorem dd_X11_readsPower_55 : decode (zc mm_X11_readsPower) 55 = .ok (.istore_n 1, 1) := by decide +kernel
theorem dd_X11_readsPower_56 : decode (zc mm_X11_readsPower) 56 = .ok (.aload_n 0, 1) := by decide +kernel
theorem dd_X11_readsPower_57 : decode (zc mm_X11_readsPower) 57 = .ok (.dup, 1) := by decide +kernel
theorem dd_X11_readsPower_58 : decode (zc mm_X11_readsPower) 58 = .ok (.getfield 126, 3) := by decide +kernel
theorem dd_X11_readsPower_61 : decode (zc mm_X11_readsPower) 61 = .ok (.iconst 1, 1) := by decide +kernel
theorem dd_X11_readsPower_62 : decode (zc mm_X11_readsPower) 62 = .ok (.iadd, 1) := by decide +kernel
theorem dd_X11_readsPower_63 : decode (zc mm_X11_readsPower) 63 = .ok (.putfield 126, 3) := by decide +kernel
theorem dd_X11_readsPower_66 : decode (zc mm_X11_readsPower) 66 = .ok (.iload_n 1, 1) := by decide +kernel
theorem dd_X11_readsPower_67 : decode (zc mm_X11_readsPower) 67 = .ok (.ireturn, 1) := by decide +kernel
theorem dd_X11_readsTerm_0 : decode (zc mm_X11_readsTerm) 0 = .ok (.iconst 1, 1) := by decide +kernel
theorem dd_X11_readsTerm_1 : decode (zc mm_X11_readsTerm) 1 = .ok (.istore_n 2, 1) := by decide +kernel
theorem dd_X11_readsTerm_2 : decode (zc mm_X11_readsTerm) 2 = .ok (.aload_n 0, 1) := by decide +kernel
theorem dd_X11_readsTerm_3 : decode (zc mm_X11_readsTerm) 3 = .ok (.invokevirtual 133, 3) := by decide +kernel
theorem dd_X11_readsTerm_6 : decode (zc mm_X11_readsTerm) 6 = .ok (.istore_n 3, 1) := by decide +kernel
theorem dd_X11_readsTerm_7 : decode (zc mm_X11_readsTerm) 7 = .ok (.iload_n 3, 1) := by decide +kernel
theorem dd_X11_readsTerm_8 : decode (zc mm_X11_readsTerm) 8 = .ok (.ifCond .eq 51, 3) := by decide +kernel
theorem dd_X11_readsTerm_11 : decode (zc mm_X11_readsTerm) 11 = .ok (.aload_n 0, 1) := by decide +kernel
theorem dd_X11_readsTerm_12 : decode (zc mm_X11_readsTerm) 12 = .ok (.invokevirtual 129, 3) := by decide +kernel
theorem dd_X11_readsTerm_15 : decode (zc mm_X11_readsTerm) 15 = .ok (.bipush 48, 2) := by decide +kernel
theorem dd_X11_readsTerm_17 : decode (zc mm_X11_readsTerm) 17 = .ok (.isub, 1) := by decide +kernel
theorem dd_X11_readsTerm_18 : decode (zc mm_X11_readsTerm) 18 = .ok (.istore_n 2, 1) := by decide +kernel
theorem dd_X11_readsTerm_19 : decode (zc mm_X11_readsTerm) 19 = .ok (.aload_n 0, 1) := by decide +kernel
theorem dd_X11_readsTerm_20 : decode (zc mm_X11_readsTerm) 20 = .ok (.dup, 1) := by decide +kernel
theorem dd_X11_readsTerm_21 : decode (zc mm_X11_readsTerm) 21 = .ok (.getfield 126, 3) := by decide +kernel
theorem dd_X11_readsTerm_24 : decode (zc mm_X11_readsTerm) 24 = .ok (.iconst 1, 1) := by decide +kernel
theorem dd_X11_readsTerm_25 : decode (zc mm_X11_readsTerm) 25 = .ok (.iadd, 1) := by decide +kernel
theorem dd_X11_readsTerm_26 : decode (zc mm_X11_readsTerm) 26 = .ok (.putfield 126, 3) := by decide +kernel
theorem dd_X11_readsTerm_29 : decode (zc mm_X11_readsTerm) 29 = .ok (.aload_n 0, 1) := by decide +kernel
theorem dd_X11_readsTerm_30 : decode (zc mm_X11_readsTerm) 30 = .ok (.invokevirtual 133, 3) := by decide +kernel
theorem dd_X11_readsTerm_33 : decode (zc mm_X11_readsTerm) 33 = .ok (.ifCond .eq 26, 3) := by decide +kernel
theorem dd_X11_readsTerm_36 : decode (zc mm_X11_readsTerm) 36 = .ok (.bipush 10, 2) := by decide +kernel
theorem dd_X11_readsTerm_38 : decode (zc mm_X11_readsTerm) 38 = .ok (.iload_n 2, 1) := by decide +kernel
theorem dd_X11_readsTerm_39 : decode (zc mm_X11_readsTerm) 39 = .ok (.imul, 1) := by decide +kernel
theorem dd_X11_readsTerm_40 : decode (zc mm_X11_readsTerm) 40 = .ok (.aload_n 0, 1) := by decide +kernel
theorem dd_X11_readsTerm_41 : decode (zc mm_X11_readsTerm) 41 = .ok (.invokevirtual 129, 3) := by decide +kernel
theorem dd_X11_readsTerm_44 : decode (zc mm_X11_readsTerm) 44 = .ok (.iadd, 1) := by decide +kernel
theorem dd_X11_readsTerm_45 : decode (zc mm_X11_readsTerm) 45 = .ok (.bipush 48, 2) := by decide +kernel
theorem dd_X11_readsTerm_47 : decode (zc mm_X11_readsTerm) 47 = .ok (.isub, 1) := by decide +kernel
theorem dd_X11_readsTerm_48 : decode (zc mm_X11_readsTerm) 48 = .ok (.istore_n 2, 1) := by decide +kernel
theorem dd_X11_readsTerm_49 : decode (zc mm_X11_readsTerm) 49 = .ok (.aload_n 0, 1) := by decide +kernel
theorem dd_X11_readsTerm_50 : decode (zc mm_X11_readsTerm) 50 = .ok (.dup, 1) := by decide +kernel
theorem dd_X11_readsTerm_51 : decode (zc mm_X11_readsTerm) 51 = .ok (.getfield 126, 3) := by decide +kernel
theorem dd_X11_readsTerm_54 : decode (zc mm_X11_readsTerm) 54 = .ok (.iconst 1, 1) := by decide +kernel
theorem dd_X11_readsTerm_55 : decode (zc mm_X11_readsTerm) 55 = .ok (.iadd, 1) := by decide +kernel
theorem dd_X11_readsTerm_56 : decode (zc mm_X11_readsTerm) 56 = .ok (.putfield 126, 3) := by decide +kernel
theorem dd_X11_readsTerm_59 : decode (zc mm_X11_readsTerm) 59 = .ok (.iconst 0, 1) := by decide +kernel
theorem dd_X11_readsTerm_60 : decode (zc mm_X11_readsTerm) 60 = .ok (.istore 4, 2) := by decide +kernel
theorem dd_X11_readsTerm_62 : decode (zc mm_X11_readsTerm) 62 = .ok (.iconst 0, 1) := by decide +kernel
theorem dd_X11_readsTerm_63 : decode (zc mm_X11_readsTerm) 63 = .ok (.istore 5, 2) := by decide +kernel
theorem dd_X11_readsTerm_65 : decode (zc mm_X11_readsTerm) 65 = .ok (.aload_n 0, 1) := by decide +kernel
theorem dd_X11_readsTerm_66 : decode (zc mm_X11_readsTerm) 66 = .ok (.invokevirtual 129, 3) := by decide +kernel
theorem dd_X11_readsTerm_69 : decode (zc mm_X11_readsTerm) 69 = .ok (.bipush 120, 2) := by decide +kernel
theorem dd_X11_readsTerm_71 : decode (zc mm_X11_readsTerm) 71 = .ok (.if_icmp .ne 18, 3) := by decide +kernel
theorem dd_X11_readsTerm_74 : decode (zc mm_X11_readsTerm) 74 = .ok (.iconst 1, 1) := by decide +kernel
theorem dd_X11_readsTerm_75 : decode (zc mm_X11_readsTerm) 75 = .ok (.istore_n 3, 1) := by decide +kernel
theorem dd_X11_readsTerm_76 : decode (zc mm_X11_readsTerm) 76 = .ok (.aload_n 0, 1) := by decide +kernel
theorem dd_X11_readsTerm_77 : decode (zc mm_X11_readsTerm) 77 = .ok (.invokevirtual 137, 3) := by decide +kernel
theorem dd_X11_readsTerm_80 : decode (zc mm_X11_readsTerm) 80 = .ok (.istore 4, 2) := by decide +kernel
theorem dd_X11_readsTerm_82 : decode (zc mm_X11_readsTerm) 82 = .ok (.iload 4, 2) := by decide +kernel
theorem dd_X11_readsTerm_84 : decode (zc mm_X11_readsTerm) 84 = .ok (.ifCond .ge 5, 3) := by decide +kernel
theorem dd_X11_readsTerm_87 : decode (zc mm_X11_readsTerm) 87 = .ok (.iconst 0, 1) := by decide +kernel
theorem dd_X11_readsTerm_88 : decode (zc mm_X11_readsTerm) 88 = .ok (.ireturn, 1) := by decide +kernel
theorem dd_X11_readsTerm_89 : decode (zc mm_X11_readsTerm) 89 = .ok (.aload_n 0, 1) := by decide +kernel
theorem dd_X11_readsTerm_90 : decode (zc mm_X11_readsTerm) 90 = .ok (.invokevirtual 129, 3) := by decide +kernel
theorem dd_X11_readsTerm_93 : decode (zc mm_X11_readsTerm) 93 = .ok (.bipush 121, 2) := by decide +kernel
theorem dd_X11_readsTerm_95 : decode (zc mm_X11_readsTerm) 95 = .ok (.if_icmp .ne 18, 3) := by decide +kernel
theorem dd_X11_readsTerm_98 : decode (zc mm_X11_readsTerm) 98 = .ok (.iconst 1, 1) := by decide +kernel
theorem dd_X11_readsTerm_99 : decode (zc mm_X11_readsTerm) 99 = .ok (.istore_n 3, 1) := by decide +kernel
theorem dd_X11_readsTerm_100 : decode (zc mm_X11_readsTerm) 100 = .ok (.aload_n 0, 1) := by decide +kernel
theorem dd_X11_readsTerm_101 : decode (zc mm_X11_readsTerm) 101 = .ok (.invokevirtual 137, 3) := by decide +kernel
theorem dd_X11_readsTerm_104 : decode (zc mm_X11_readsTerm) 104 = .ok (.istore 5, 2) := by decide +kernel
theorem dd_X11_readsTerm_106 : decode (zc mm_X11_readsTerm) 106 = .ok (.iload 5, 2) := by decide +kernel
theorem dd_X11_readsTerm_108 : decode (zc mm_X11_readsTerm) 108 = .ok (.ifCond .ge 5, 3) := by decide +kernel
theorem dd_X11_readsTerm_111 : decode (zc mm_X11_readsTerm) 111 = .ok (.iconst 0, 1) := by decide +kernel
theorem dd_X11_readsTerm_112 : decode (zc mm_X11_readsTerm) 112 = .ok (.ireturn, 1) := by decide +kernel
theorem dd_X11_readsTerm_113 : decode (zc mm_X11_readsTerm) 113 = .ok (.iload_n 3, 1) := by decide +kernel
theorem dd_X11_readsTerm_114 : decode (zc mm_X11_readsTerm) 114 = .ok (.ifCond .ne 5, 3) := by decide +kernel
theorem dd_X11_readsTerm_117 : decode (zc mm_X11_readsTerm) 117 = .ok (.iconst 0, 1) := by decide +kernel
theorem dd_X11_readsTerm_118 : decode (zc mm_X11_readsTerm) 118 = .ok (.ireturn, 1) := by decide +kernel
theorem dd_X11_readsTerm_119 : decode (zc mm_X11_readsTerm) 119 = .ok (.aload_n 0, 1) := by decide +kernel
theorem dd_X11_readsTerm_120 : decode (zc mm_X11_readsTerm) 120 = .ok (.getfield 49, 3) := by decide +kernel
theorem dd_X11_readsTerm_123 : decode (zc mm_X11_readsTerm) 123 = .ok (.iconst 5, 1) := by decide +kernel
theorem dd_X11_readsTerm_124 : decode (zc mm_X11_readsTerm) 124 = .ok (.iload 4, 2) := by decide +kernel
theorem dd_X11_readsTerm_126 : decode (zc mm_X11_readsTerm) 126 = .ok (.imul, 1) := by decide +kernel
theorem dd_X11_readsTerm_127 : decode (zc mm_X11_readsTerm) 127 = .ok (.iload 5, 2) := by decide +kernel
theorem dd_X11_readsTerm_129 : decode (zc mm_X11_readsTerm) 129 = .ok (.iadd, 1) := by decide +kernel
theorem dd_X11_readsTerm_130 : decode (zc mm_X11_readsTerm) 130 = .ok (.aload_n 0, 1) := by decide +kernel
theorem dd_X11_readsTerm_131 : decode (zc mm_X11_readsTerm) 131 = .ok (.aload_n 0, 1) := by decide +kernel
theorem dd_X11_readsTerm_132 : decode (zc mm_X11_readsTerm) 132 = .ok (.getfield 49, 3) := by decide +kernel
theorem dd_X11_readsTerm_135 : decode (zc mm_X11_readsTerm) 135 = .ok (.iconst 5, 1) := by decide +kernel
theorem dd_X11_readsTerm_136 : decode (zc mm_X11_readsTerm) 136 = .ok (.iload 4, 2) := by decide +kernel
theorem dd_X11_readsTerm_138 : decode (zc mm_X11_readsTerm) 138 = .ok (.imul, 1) := by decide +kernel
theorem dd_X11_readsTerm_139 : decode (zc mm_X11_readsTerm) 139 = .ok (.iload 5, 2) := by decide +kernel
theorem dd_X11_readsTerm_141 : decode (zc mm_X11_readsTerm) 141 = .ok (.iadd, 1) := by decide +kernel
theorem dd_X11_readsTerm_142 : decode (zc mm_X11_readsTerm) 142 = .ok (.iaload, 1) := by decide +kernel
theorem dd_X11_readsTerm_143 : decode (zc mm_X11_readsTerm) 143 = .ok (.iload_n 1, 1) := by decide +kernel
theorem dd_X11_readsTerm_144 : decode (zc mm_X11_readsTerm) 144 = .ok (.ifCond .eq 8, 3) := by decide +kernel
theorem dd_X11_readsTerm_147 : decode (zc mm_X11_readsTerm) 147 = .ok (.iload_n 2, 1) := by decide +kernel
theorem dd_X11_readsTerm_148 : decode (zc mm_X11_readsTerm) 148 = .ok (.ineg, 1) := by decide +kernel
theorem dd_X11_readsTerm_149 : decode (zc mm_X11_readsTerm) 149 = .ok (.goto 4, 3) := by decide +kernel
theorem dd_X11_readsTerm_152 : decode (zc mm_X11_readsTerm) 152 = .ok (.iload_n 2, 1) := by decide +kernel
theorem dd_X11_readsTerm_153 : decode (zc mm_X11_readsTerm) 153 = .ok (.iadd, 1) := by decide +kernel
theorem dd_X11_readsTerm_154 : decode (zc mm_X11_readsTerm) 154 = .ok (.invokevirtual 13, 3) := by decide +kernel
theorem dd_X11_readsTerm_157 : decode (zc mm_X11_readsTerm) 157 = .ok (.iastore, 1) := by decide +kernel
theorem dd_X11_readsTerm_158 : decode (zc mm_X11_readsTerm) 158 = .ok (.iconst 1, 1) := by decide +kernel
theorem dd_X11_readsTerm_159 : decode (zc mm_X11_readsTerm) 159 = .ok (.ireturn, 1) := by decide +kernel
theorem dd_X11_readsAll_0 : decode (zc mm_X11_readsAll) 0 = .ok (.iconst 0, 1) := by decide +kernel
theorem dd_X11_readsAll_1 : decode (zc mm_X11_readsAll) 1 = .ok (.istore_n 1, 1) := by decide +kernel
theorem dd_X11_readsAll_2 : decode (zc mm_X11_readsAll) 2 = .ok (.iload_n 1, 1) := by decide +kernel
theorem dd_X11_readsAll_3 : decode (zc mm_X11_readsAll) 3 = .ok (.bipush 25, 2) := by decide +kernel
theorem dd_X11_readsAll_5 : decode (zc mm_X11_readsAll) 5 = .ok (.if_icmp .ge 16, 3) := by decide +kernel
theorem dd_X11_readsAll_8 : decode (zc mm_X11_readsAll) 8 = .ok (.aload_n 0, 1) := by decide +kernel
theorem dd_X11_readsAll_9 : decode (zc mm_X11_readsAll) 9 = .ok (.getfield 49, 3) := by decide +kernel
theorem dd_X11_readsAll_12 : decode (zc mm_X11_readsAll) 12 = .ok (.iload_n 1, 1) := by decide +kernel
theorem dd_X11_readsAll_13 : decode (zc mm_X11_readsAll) 13 = .ok (.iconst 0, 1) := by decide +kernel
theorem dd_X11_readsAll_14 : decode (zc mm_X11_readsAll) 14 = .ok (.iastore, 1) := by decide +kernel
theorem dd_X11_readsAll_15 : decode (zc mm_X11_readsAll) 15 = .ok (.iinc 1 1, 3) := by decide +kernel
theorem dd_X11_readsAll_18 : decode (zc mm_X11_readsAll) 18 = .ok (.goto (-16), 3) := by decide +kernel
theorem dd_X11_readsAll_21 : decode (zc mm_X11_readsAll) 21 = .ok (.aload_n 0, 1) := by decide +kernel
theorem dd_X11_readsAll_22 : decode (zc mm_X11_readsAll) 22 = .ok (.aload_n 0, 1) := by decide +kernel
theorem dd_X11_readsAll_23 : decode (zc mm_X11_readsAll) 23 = .ok (.invokevirtual 129, 3) := by decide +kernel
theorem dd_X11_readsAll_26 : decode (zc mm_X11_readsAll) 26 = .ok (.bipush 45, 2) := by decide +kernel
theorem dd_X11_readsAll_28 : decode (zc mm_X11_readsAll) 28 = .ok (.if_icmp .ne 7, 3) := by decide +kernel
theorem dd_X11_readsAll_31 : decode (zc mm_X11_readsAll) 31 = .ok (.iconst 1, 1) := by decide +kernel
theorem dd_X11_readsAll_32 : decode (zc mm_X11_readsAll) 32 = .ok (.goto 4, 3) := by decide +kernel
theorem dd_X11_readsAll_35 : decode (zc mm_X11_readsAll) 35 = .ok (.iconst 0, 1) := by decide +kernel
theorem dd_X11_readsAll_36 : decode (zc mm_X11_readsAll) 36 = .ok (.putfield 126, 3) := by decide +kernel
theorem dd_X11_readsAll_39 : decode (zc mm_X11_readsAll) 39 = .ok (.aload_n 0, 1) := by decide +kernel
theorem dd_X11_readsAll_40 : decode (zc mm_X11_readsAll) 40 = .ok (.aload_n 0, 1) := by decide +kernel
theorem dd_X11_readsAll_41 : decode (zc mm_X11_readsAll) 41 = .ok (.getfield 126, 3) := by decide +kernel
theorem dd_X11_readsAll_44 : decode (zc mm_X11_readsAll) 44 = .ok (.iconst 1, 1) := by decide +kernel
theorem dd_X11_readsAll_45 : decode (zc mm_X11_readsAll) 45 = .ok (.if_icmp .ne 7, 3) := by decide +kernel
theorem dd_X11_readsAll_48 : decode (zc mm_X11_readsAll) 48 = .ok (.iconst 1, 1) := by decide +kernel
theorem dd_X11_readsAll_49 : decode (zc mm_X11_readsAll) 49 = .ok (.goto 4, 3) := by decide +kernel
theorem dd_X11_readsAll_52 : decode (zc mm_X11_readsAll) 52 = .ok (.iconst 0, 1) := by decide +kernel
theorem dd_X11_readsAll_53 : decode (zc mm_X11_readsAll) 53 = .ok (.invokevirtual 140, 3) := by decide +kernel
theorem dd_X11_readsAll_56 : decode (zc mm_X11_readsAll) 56 = .ok (.istore_n 1, 1) := by decide +kernel
theorem dd_X11_readsAll_57 : decode (zc mm_X11_readsAll) 57 = .ok (.iload_n 1, 1) := by decide +kernel
theorem dd_X11_readsAll_58 : decode (zc mm_X11_readsAll) 58 = .ok (.ifCond .eq 60, 3) := by decide +kernel
theorem dd_X11_readsAll_61 : decode (zc mm_X11_readsAll) 61 = .ok (.aload_n 0, 1) := by decide +kernel
theorem dd_X11_readsAll_62 : decode (zc mm_X11_readsAll) 62 = .ok (.invokevirtual 129, 3) := by decide +kernel
theorem dd_X11_readsAll_65 : decode (zc mm_X11_readsAll) 65 = .ok (.bipush 43, 2) := by decide +kernel
theorem dd_X11_readsAll_67 : decode (zc mm_X11_readsAll) 67 = .ok (.if_icmp .eq 12, 3) := by decide +kernel
theorem dd_X11_readsAll_70 : decode (zc mm_X11_readsAll) 70 = .ok (.aload_n 0, 1) := by decide +kernel
theorem dd_X11_readsAll_71 : decode (zc mm_X11_readsAll) 71 = .ok (.invokevirtual 129, 3) := by decide +kernel
theorem dd_X11_readsAll_74 : decode (zc mm_X11_readsAll) 74 = .ok (.bipush 45, 2) := by decide +kernel
theorem dd_X11_readsAll_76 : decode (zc mm_X11_readsAll) 76 = .ok (.if_icmp .ne 42, 3) := by decide +kernel
theorem dd_X11_readsAll_79 : decode (zc mm_X11_readsAll) 79 = .ok (.aload_n 0, 1) := by decide +kernel
theorem dd_X11_readsAll_80 : decode (zc mm_X11_readsAll) 80 = .ok (.dup, 1) := by decide +kernel
theorem dd_X11_readsAll_81 : decode (zc mm_X11_readsAll) 81 = .ok (.getfield 126, 3) := by decide +kernel
theorem dd_X11_readsAll_84 : decode (zc mm_X11_readsAll) 84 = .ok (.iconst 1, 1) := by decide +kernel
theorem dd_X11_readsAll_85 : decode (zc mm_X11_readsAll) 85 = .ok (.iadd, 1) := by decide +kernel
theorem dd_X11_readsAll_86 : decode (zc mm_X11_readsAll) 86 = .ok (.putfield 126, 3) := by decide +kernel
theorem dd_X11_readsAll_89 : decode (zc mm_X11_readsAll) 89 = .ok (.aload_n 0, 1) := by decide +kernel
theorem dd_X11_readsAll_90 : decode (zc mm_X11_readsAll) 90 = .ok (.aload_n 0, 1) := by decide +kernel
theorem dd_X11_readsAll_91 : decode (zc mm_X11_readsAll) 91 = .ok (.getfield 46, 3) := by decide +kernel
theorem dd_X11_readsAll_94 : decode (zc mm_X11_readsAll) 94 = .ok (.aload_n 0, 1) := by decide +kernel
theorem dd_X11_readsAll_95 : decode (zc mm_X11_readsAll) 95 = .ok (.getfield 126, 3) := by decide +kernel
theorem dd_X11_readsAll_98 : decode (zc mm_X11_readsAll) 98 = .ok (.iconst 1, 1) := by decide +kernel
theorem dd_X11_readsAll_99 : decode (zc mm_X11_readsAll) 99 = .ok (.isub, 1) := by decide +kernel
theorem dd_X11_readsAll_100 : decode (zc mm_X11_readsAll) 100 = .ok (.iaload, 1) := by decide +kernel
theorem dd_X11_readsAll_101 : decode (zc mm_X11_readsAll) 101 = .ok (.bipush 45, 2) := by decide +kernel
theorem dd_X11_readsAll_103 : decode (zc mm_X11_readsAll) 103 = .ok (.if_icmp .ne 7, 3) := by decide +kernel
theorem dd_X11_readsAll_106 : decode (zc mm_X11_readsAll) 106 = .ok (.iconst 1, 1) := by decide +kernel
theorem dd_X11_readsAll_107 : decode (zc mm_X11_readsAll) 107 = .ok (.goto 4, 3) := by decide +kernel
theorem dd_X11_readsAll_110 : decode (zc mm_X11_readsAll) 110 = .ok (.iconst 0, 1) := by decide +kernel
theorem dd_X11_readsAll_111 : decode (zc mm_X11_readsAll) 111 = .ok (.invokevirtual 140, 3) := by decide +kernel
theorem dd_X11_readsAll_114 : decode (zc mm_X11_readsAll) 114 = .ok (.istore_n 1, 1) := by decide +kernel
theorem dd_X11_readsAll_115 : decode (zc mm_X11_readsAll) 115 = .ok (.goto (-58), 3) := by decide +kernel
theorem dd_X11_readsAll_118 : decode (zc mm_X11_readsAll) 118 = .ok (.iload_n 1, 1) := by decide +kernel
theorem dd_X11_readsAll_119 : decode (zc mm_X11_readsAll) 119 = .ok (.ifCond .eq 18, 3) := by decide +kernel
theorem dd_X11_readsAll_122 : decode (zc mm_X11_readsAll) 122 = .ok (.aload_n 0, 1) := by decide +kernel
theorem dd_X11_readsAll_123 : decode (zc mm_X11_readsAll) 123 = .ok (.getfield 126, 3) := by decide +kernel
theorem dd_X11_readsAll_126 : decode (zc mm_X11_readsAll) 126 = .ok (.aload_n 0, 1) := by decide +kernel
theorem dd_X11_readsAll_127 : decode (zc mm_X11_readsAll) 127 = .ok (.getfield 123, 3) := by decide +kernel
theorem dd_X11_readsAll_130 : decode (zc mm_X11_readsAll) 130 = .ok (.if_icmp .ne 7, 3) := by decide +kernel
theorem dd_X11_readsAll_133 : decode (zc mm_X11_readsAll) 133 = .ok (.iconst 1, 1) := by decide +kernel
theorem dd_X11_readsAll_134 : decode (zc mm_X11_readsAll) 134 = .ok (.goto 4, 3) := by decide +kernel
theorem dd_X11_readsAll_137 : decode (zc mm_X11_readsAll) 137 = .ok (.iconst 0, 1) := by decide +kernel
theorem dd_X11_readsAll_138 : decode (zc mm_X11_readsAll) 138 = .ok (.ireturn, 1) := by decide +kernel
theorem dd_X11_comes_0 : decode (zc mm_X11_comes) 0 = .ok (.iconst 0, 1) := by decide +kernel
theorem dd_X11_comes_1 : decode (zc mm_X11_comes) 1 = .ok (.istore_n 1, 1) := by decide +kernel
theorem dd_X11_comes_2 : decode (zc mm_X11_comes) 2 = .ok (.iload_n 1, 1) := by decide +kernel
theorem dd_X11_comes_3 : decode (zc mm_X11_comes) 3 = .ok (.bipush 25, 2) := by decide +kernel
theorem dd_X11_comes_5 : decode (zc mm_X11_comes) 5 = .ok (.if_icmp .ge 29, 3) := by decide +kernel
theorem dd_X11_comes_8 : decode (zc mm_X11_comes) 8 = .ok (.aload_n 0, 1) := by decide +kernel
theorem dd_X11_comes_9 : decode (zc mm_X11_comes) 9 = .ok (.getfield 31, 3) := by decide +kernel
theorem dd_X11_comes_12 : decode (zc mm_X11_comes) 12 = .ok (.bipush 25, 2) := by decide +kernel
theorem dd_X11_comes_14 : decode (zc mm_X11_comes) 14 = .ok (.aload_n 0, 1) := by decide +kernel
theorem dd_X11_comes_15 : decode (zc mm_X11_comes) 15 = .ok (.getfield 95, 3) := by decide +kernel
theorem dd_X11_comes_18 : decode (zc mm_X11_comes) 18 = .ok (.imul, 1) := by decide +kernel
theorem dd_X11_comes_19 : decode (zc mm_X11_comes) 19 = .ok (.iload_n 1, 1) := by decide +kernel
theorem dd_X11_comes_20 : decode (zc mm_X11_comes) 20 = .ok (.iadd, 1) := by decide +kernel
theorem dd_X11_comes_21 : decode (zc mm_X11_comes) 21 = .ok (.aload_n 0, 1) := by decide +kernel
theorem dd_X11_comes_22 : decode (zc mm_X11_comes) 22 = .ok (.getfield 49, 3) := by decide +kernel
theorem dd_X11_comes_25 : decode (zc mm_X11_comes) 25 = .ok (.iload_n 1, 1) := by decide +kernel
theorem dd_X11_comes_26 : decode (zc mm_X11_comes) 26 = .ok (.iaload, 1) := by decide +kernel
theorem dd_X11_comes_27 : decode (zc mm_X11_comes) 27 = .ok (.iastore, 1) := by decide +kernel
theorem dd_X11_comes_28 : decode (zc mm_X11_comes) 28 = .ok (.iinc 1 1, 3) := by decide +kernel
theorem dd_X11_comes_31 : decode (zc mm_X11_comes) 31 = .ok (.goto (-29), 3) := by decide +kernel
theorem dd_X11_comes_34 : decode (zc mm_X11_comes) 34 = .ok (.aload_n 0, 1) := by decide +kernel
theorem dd_X11_comes_35 : decode (zc mm_X11_comes) 35 = .ok (.getfield 34, 3) := by decide +kernel
theorem dd_X11_comes_38 : decode (zc mm_X11_comes) 38 = .ok (.aload_n 0, 1) := by decide +kernel
theorem dd_X11_comes_39 : decode (zc mm_X11_comes) 39 = .ok (.getfield 95, 3) := by decide +kernel
theorem dd_X11_comes_42 : decode (zc mm_X11_comes) 42 = .ok (.iconst 0, 1) := by decide +kernel
theorem dd_X11_comes_43 : decode (zc mm_X11_comes) 43 = .ok (.iastore, 1) := by decide +kernel
theorem dd_X11_comes_44 : decode (zc mm_X11_comes) 44 = .ok (.aload_n 0, 1) := by decide +kernel
theorem dd_X11_comes_45 : decode (zc mm_X11_comes) 45 = .ok (.getfield 37, 3) := by decide +kernel
theorem dd_X11_comes_48 : decode (zc mm_X11_comes) 48 = .ok (.aload_n 0, 1) := by decide +kernel
theorem dd_X11_comes_49 : decode (zc mm_X11_comes) 49 = .ok (.getfield 95, 3) := by decide +kernel
theorem dd_X11_comes_52 : decode (zc mm_X11_comes) 52 = .ok (.iconst 0, 1) := by decide +kernel
theorem dd_X11_comes_53 : decode (zc mm_X11_comes) 53 = .ok (.iastore, 1) := by decide +kernel
theorem dd_X11_comes_54 : decode (zc mm_X11_comes) 54 = .ok (.aload_n 0, 1) := by decide +kernel
theorem dd_X11_comes_55 : decode (zc mm_X11_comes) 55 = .ok (.iconst 0, 1) := by decide +kernel
theorem dd_X11_comes_56 : decode (zc mm_X11_comes) 56 = .ok (.putfield 117, 3) := by decide +kernel
theorem dd_X11_comes_59 : decode (zc mm_X11_comes) 59 = .ok (.aload_n 0, 1) := by decide +kernel
theorem dd_X11_comes_60 : decode (zc mm_X11_comes) 60 = .ok (.dup, 1) := by decide +kernel
theorem dd_X11_comes_61 : decode (zc mm_X11_comes) 61 = .ok (.getfield 95, 3) := by decide +kernel
theorem dd_X11_comes_64 : decode (zc mm_X11_comes) 64 = .ok (.iconst 1, 1) := by decide +kernel
theorem dd_X11_comes_65 : decode (zc mm_X11_comes) 65 = .ok (.iadd, 1) := by decide +kernel
theorem dd_X11_comes_66 : decode (zc mm_X11_comes) 66 = .ok (.putfield 95, 3) := by decide +kernel
theorem dd_X11_comes_69 : decode (zc mm_X11_comes) 69 = .ok (.aload_n 0, 1) := by decide +kernel
theorem dd_X11_comes_70 : decode (zc mm_X11_comes) 70 = .ok (.getfield 95, 3) := by decide +kernel
theorem dd_X11_comes_73 : decode (zc mm_X11_comes) 73 = .ok (.iconst 1, 1) := by decide +kernel
theorem dd_X11_comes_74 : decode (zc mm_X11_comes) 74 = .ok (.isub, 1) := by decide +kernel
theorem dd_X11_comes_75 : decode (zc mm_X11_comes) 75 = .ok (.ireturn, 1) := by decide +kernel
theorem dd_X11_poly_0 : decode (zc mm_X11_poly) 0 = .ok (.aload_n 0, 1) := by decide +kernel
theorem dd_X11_poly_1 : decode (zc mm_X11_poly) 1 = .ok (.getfield 95, 3) := by decide +kernel
theorem dd_X11_poly_4 : decode (zc mm_X11_poly) 4 = .ok (.bipush 6, 2) := by decide +kernel
theorem dd_X11_poly_6 : decode (zc mm_X11_poly) 6 = .ok (.if_icmp .ne 10, 3) := by decide +kernel
theorem dd_X11_poly_9 : decode (zc mm_X11_poly) 9 = .ok (.aload_n 0, 1) := by decide +kernel
theorem dd_X11_poly_10 : decode (zc mm_X11_poly) 10 = .ok (.bipush (-6), 2) := by decide +kernel
theorem dd_X11_poly_12 : decode (zc mm_X11_poly) 12 = .ok (.invokevirtual 120, 3) := by decide +kernel
theorem dd_X11_poly_15 : decode (zc mm_X11_poly) 15 = .ok (.ireturn, 1) := by decide +kernel
theorem dd_X11_poly_16 : decode (zc mm_X11_poly) 16 = .ok (.aload_n 0, 1) := by decide +kernel
theorem dd_X11_poly_17 : decode (zc mm_X11_poly) 17 = .ok (.iconst 0, 1) := by decide +kernel
theorem dd_X11_poly_18 : decode (zc mm_X11_poly) 18 = .ok (.putfield 126, 3) := by decide +kernel
theorem dd_X11_poly_21 : decode (zc mm_X11_poly) 21 = .ok (.aload_n 0, 1) := by decide +kernel
theorem dd_X11_poly_22 : decode (zc mm_X11_poly) 22 = .ok (.invokevirtual 144, 3) := by decide +kernel
theorem dd_X11_poly_25 : decode (zc mm_X11_poly) 25 = .ok (.istore_n 1, 1) := by decide +kernel
theorem dd_X11_poly_26 : decode (zc mm_X11_poly) 26 = .ok (.aload_n 0, 1) := by decide +kernel
theorem dd_X11_poly_27 : decode (zc mm_X11_poly) 27 = .ok (.iconst 0, 1) := by decide +kernel
theorem dd_X11_poly_28 : decode (zc mm_X11_poly) 28 = .ok (.putfield 123, 3) := by decide +kernel
theorem dd_X11_poly_31 : decode (zc mm_X11_poly) 31 = .ok (.iload_n 1, 1) := by decide +kernel
theorem dd_X11_poly_32 : decode (zc mm_X11_poly) 32 = .ok (.ifCond .eq 10, 3) := by decide +kernel
theorem dd_X11_poly_35 : decode (zc mm_X11_poly) 35 = .ok (.aload_n 0, 1) := by decide +kernel
theorem dd_X11_poly_36 : decode (zc mm_X11_poly) 36 = .ok (.invokevirtual 147, 3) := by decide +kernel
theorem dd_X11_poly_39 : decode (zc mm_X11_poly) 39 = .ok (.goto 11, 3) := by decide +kernel
theorem dd_X11_poly_42 : decode (zc mm_X11_poly) 42 = .ok (.sipush (-1000), 3) := by decide +kernel
theorem dd_X11_poly_45 : decode (zc mm_X11_poly) 45 = .ok (.aload_n 0, 1) := by decide +kernel
theorem dd_X11_poly_46 : decode (zc mm_X11_poly) 46 = .ok (.getfield 126, 3) := by decide +kernel
theorem dd_X11_poly_49 : decode (zc mm_X11_poly) 49 = .ok (.isub, 1) := by decide +kernel
theorem dd_X11_poly_50 : decode (zc mm_X11_poly) 50 = .ok (.ireturn, 1) := by decide +kernel
theorem dd_X11_drop_0 : decode (zc mm_X11_drop) 0 = .ok (.aload_n 0, 1) := by decide +kernel
theorem dd_X11_drop_1 : decode (zc mm_X11_drop) 1 = .ok (.getfield 95, 3) := by decide +kernel
theorem dd_X11_drop_4 : decode (zc mm_X11_drop) 4 = .ok (.ifCond .ne 10, 3) := by decide +kernel
theorem dd_X11_drop_7 : decode (zc mm_X11_drop) 7 = .ok (.aload_n 0, 1) := by decide +kernel
theorem dd_X11_drop_8 : decode (zc mm_X11_drop) 8 = .ok (.bipush (-3), 2) := by decide +kernel
theorem dd_X11_drop_10 : decode (zc mm_X11_drop) 10 = .ok (.invokevirtual 120, 3) := by decide +kernel
theorem dd_X11_drop_13 : decode (zc mm_X11_drop) 13 = .ok (.ireturn, 1) := by decide +kernel
theorem dd_X11_drop_14 : decode (zc mm_X11_drop) 14 = .ok (.aload_n 0, 1) := by decide +kernel
theorem dd_X11_drop_15 : decode (zc mm_X11_drop) 15 = .ok (.iconst 0, 1) := by decide +kernel
theorem dd_X11_drop_16 : decode (zc mm_X11_drop) 16 = .ok (.putfield 117, 3) := by decide +kernel
theorem dd_X11_drop_19 : decode (zc mm_X11_drop) 19 = .ok (.aload_n 0, 1) := by decide +kernel
theorem dd_X11_drop_20 : decode (zc mm_X11_drop) 20 = .ok (.dup, 1) := by decide +kernel
theorem dd_X11_drop_21 : decode (zc mm_X11_drop) 21 = .ok (.getfield 95, 3) := by decide +kernel
theorem dd_X11_drop_24 : decode (zc mm_X11_drop) 24 = .ok (.iconst 1, 1) := by decide +kernel
theorem dd_X11_drop_25 : decode (zc mm_X11_drop) 25 = .ok (.isub, 1) := by decide +kernel
theorem dd_X11_drop_26 : decode (zc mm_X11_drop) 26 = .ok (.putfield 95, 3) := by decide +kernel
theorem dd_X11_drop_29 : decode (zc mm_X11_drop) 29 = .ok (.aload_n 0, 1) := by decide +kernel
theorem dd_X11_drop_30 : decode (zc mm_X11_drop) 30 = .ok (.getfield 95, 3) := by decide +kernel
theorem dd_X11_drop_33 : decode (zc mm_X11_drop) 33 = .ok (.ireturn, 1) := by decide +kernel
theorem dd_X11_prime_0 : decode (zc mm_X11_prime) 0 = .ok (.iload_n 1, 1) := by decide +kernel
theorem dd_X11_prime_1 : decode (zc mm_X11_prime) 1 = .ok (.invokestatic 150, 3) := by decide +kernel
theorem dd_X11_prime_4 : decode (zc mm_X11_prime) 4 = .ok (.ifCond .ne 10, 3) := by decide +kernel
theorem dd_X11_prime_7 : decode (zc mm_X11_prime) 7 = .ok (.aload_n 0, 1) := by decide +kernel
theorem dd_X11_prime_8 : decode (zc mm_X11_prime) 8 = .ok (.bipush (-3), 2) := by decide +kernel
theorem dd_X11_prime_10 : decode (zc mm_X11_prime) 10 = .ok (.invokevirtual 120, 3) := by decide +kernel
theorem dd_X11_prime_13 : decode (zc mm_X11_prime) 13 = .ok (.ireturn, 1) := by decide +kernel
theorem dd_X11_prime_14 : decode (zc mm_X11_prime) 14 = .ok (.aload_n 0, 1) := by decide +kernel
theorem dd_X11_prime_15 : decode (zc mm_X11_prime) 15 = .ok (.getfield 9, 3) := by decide +kernel
theorem dd_X11_prime_18 : decode (zc mm_X11_prime) 18 = .ok (.istore_n 2, 1) := by decide +kernel
theorem dd_X11_prime_19 : decode (zc mm_X11_prime) 19 = .ok (.aload_n 0, 1) := by decide +kernel
theorem dd_X11_prime_20 : decode (zc mm_X11_prime) 20 = .ok (.iload_n 1, 1) := by decide +kernel
theorem dd_X11_prime_21 : decode (zc mm_X11_prime) 21 = .ok (.putfield 9, 3) := by decide +kernel
theorem dd_X11_prime_24 : decode (zc mm_X11_prime) 24 = .ok (.iconst 0, 1) := by decide +kernel
theorem dd_X11_prime_25 : decode (zc mm_X11_prime) 25 = .ok (.istore_n 3, 1) := by decide +kernel
theorem dd_X11_prime_26 : decode (zc mm_X11_prime) 26 = .ok (.iload_n 3, 1) := by decide +kernel
theorem dd_X11_prime_27 : decode (zc mm_X11_prime) 27 = .ok (.bipush 25, 2) := by decide +kernel
theorem dd_X11_prime_29 : decode (zc mm_X11_prime) 29 = .ok (.aload_n 0, 1) := by decide +kernel
theorem dd_X11_prime_30 : decode (zc mm_X11_prime) 30 = .ok (.getfield 95, 3) := by decide +kernel
theorem dd_X11_prime_33 : decode (zc mm_X11_prime) 33 = .ok (.imul, 1) := by decide +kernel
theorem dd_X11_prime_34 : decode (zc mm_X11_prime) 34 = .ok (.if_icmp .ge 19, 3) := by decide +kernel
theorem dd_X11_prime_37 : decode (zc mm_X11_prime) 37 = .ok (.aload_n 0, 1) := by decide +kernel
theorem dd_X11_prime_38 : decode (zc mm_X11_prime) 38 = .ok (.getfield 31, 3) := by decide +kernel
theorem dd_X11_prime_41 : decode (zc mm_X11_prime) 41 = .ok (.iload_n 3, 1) := by decide +kernel
theorem dd_X11_prime_42 : decode (zc mm_X11_prime) 42 = .ok (.dup2, 1) := by decide +kernel
theorem dd_X11_prime_43 : decode (zc mm_X11_prime) 43 = .ok (.iaload, 1) := by decide +kernel
theorem dd_X11_prime_44 : decode (zc mm_X11_prime) 44 = .ok (.iload_n 1, 1) := by decide +kernel
theorem dd_X11_prime_45 : decode (zc mm_X11_prime) 45 = .ok (.irem, 1) := by decide +kernel
theorem dd_X11_prime_46 : decode (zc mm_X11_prime) 46 = .ok (.iastore, 1) := by decide +kernel
theorem dd_X11_prime_47 : decode (zc mm_X11_prime) 47 = .ok (.iinc 3 1, 3) := by decide +kernel
theorem dd_X11_prime_50 : decode (zc mm_X11_prime) 50 = .ok (.goto (-24), 3) := by decide +kernel
theorem dd_X11_prime_53 : decode (zc mm_X11_prime) 53 = .ok (.aload_n 0, 1) := by decide +kernel
theorem dd_X11_prime_54 : decode (zc mm_X11_prime) 54 = .ok (.iconst 0, 1) := by decide +kernel
theorem dd_X11_prime_55 : decode (zc mm_X11_prime) 55 = .ok (.putfield 117, 3) := by decide +kernel
theorem dd_X11_prime_58 : decode (zc mm_X11_prime) 58 = .ok (.iload_n 2, 1) := by decide +kernel
theorem dd_X11_prime_59 : decode (zc mm_X11_prime) 59 = .ok (.ireturn, 1) := by decide +kernel
theorem dd_X11_turn_0 : decode (zc mm_X11_turn) 0 = .ok (.aload_n 0, 1) := by decide +kernel
theorem dd_X11_turn_1 : decode (zc mm_X11_turn) 1 = .ok (.iload_n 1, 1) := by decide +kernel
theorem dd_X11_turn_2 : decode (zc mm_X11_turn) 2 = .ok (.invokevirtual 154, 3) := by decide +kernel
theorem dd_X11_turn_5 : decode (zc mm_X11_turn) 5 = .ok (.ifCond .ne 7, 3) := by decide +kernel
theorem dd_X11_turn_8 : decode (zc mm_X11_turn) 8 = .ok (.iconst (-1), 1) := by decide +kernel
theorem dd_X11_turn_9 : decode (zc mm_X11_turn) 9 = .ok (.goto 38, 3) := by decide +kernel
theorem dd_X11_turn_12 : decode (zc mm_X11_turn) 12 = .ok (.iload_n 2, 1) := by decide +kernel
theorem dd_X11_turn_13 : decode (zc mm_X11_turn) 13 = .ok (.iconst 0, 1) := by decide +kernel
theorem dd_X11_turn_14 : decode (zc mm_X11_turn) 14 = .ok (.iconst 5, 1) := by decide +kernel
theorem dd_X11_turn_15 : decode (zc mm_X11_turn) 15 = .ok (.invokestatic 21, 3) := by decide +kernel
theorem dd_X11_turn_18 : decode (zc mm_X11_turn) 18 = .ok (.ifCond .ne 8, 3) := by decide +kernel
theorem dd_X11_turn_21 : decode (zc mm_X11_turn) 21 = .ok (.bipush (-2), 2) := by decide +kernel
theorem dd_X11_turn_23 : decode (zc mm_X11_turn) 23 = .ok (.goto 24, 3) := by decide +kernel
theorem dd_X11_turn_26 : decode (zc mm_X11_turn) 26 = .ok (.iload_n 3, 1) := by decide +kernel
theorem dd_X11_turn_27 : decode (zc mm_X11_turn) 27 = .ok (.ifCond .ge 8, 3) := by decide +kernel
theorem dd_X11_turn_30 : decode (zc mm_X11_turn) 30 = .ok (.bipush (-4), 2) := by decide +kernel
theorem dd_X11_turn_32 : decode (zc mm_X11_turn) 32 = .ok (.goto 15, 3) := by decide +kernel
theorem dd_X11_turn_35 : decode (zc mm_X11_turn) 35 = .ok (.iload_n 3, 1) := by decide +kernel
theorem dd_X11_turn_36 : decode (zc mm_X11_turn) 36 = .ok (.bipush 9, 2) := by decide +kernel
theorem dd_X11_turn_38 : decode (zc mm_X11_turn) 38 = .ok (.if_icmp .le 8, 3) := by decide +kernel
theorem dd_X11_turn_41 : decode (zc mm_X11_turn) 41 = .ok (.bipush (-6), 2) := by decide +kernel
theorem dd_X11_turn_43 : decode (zc mm_X11_turn) 43 = .ok (.goto 4, 3) := by decide +kernel
theorem dd_X11_turn_46 : decode (zc mm_X11_turn) 46 = .ok (.iconst 0, 1) := by decide +kernel
theorem dd_X11_turn_47 : decode (zc mm_X11_turn) 47 = .ok (.istore 4, 2) := by decide +kernel
theorem dd_X11_turn_49 : decode (zc mm_X11_turn) 49 = .ok (.iload 4, 2) := by decide +kernel
theorem dd_X11_turn_51 : decode (zc mm_X11_turn) 51 = .ok (.ifCond .eq 10, 3) := by decide +kernel
theorem dd_X11_turn_54 : decode (zc mm_X11_turn) 54 = .ok (.aload_n 0, 1) := by decide +kernel
theorem dd_X11_turn_55 : decode (zc mm_X11_turn) 55 = .ok (.iload 4, 2) := by decide +kernel
theorem dd_X11_turn_57 : decode (zc mm_X11_turn) 57 = .ok (.invokevirtual 120, 3) := by decide +kernel
theorem dd_X11_turn_60 : decode (zc mm_X11_turn) 60 = .ok (.ireturn, 1) := by decide +kernel
theorem dd_X11_turn_61 : decode (zc mm_X11_turn) 61 = .ok (.bipush 10, 2) := by decide +kernel
theorem dd_X11_turn_63 : decode (zc mm_X11_turn) 63 = .ok (.aload_n 0, 1) := by decide +kernel
theorem dd_X11_turn_64 : decode (zc mm_X11_turn) 64 = .ok (.getfield 34, 3) := by decide +kernel
theorem dd_X11_turn_67 : decode (zc mm_X11_turn) 67 = .ok (.iload_n 1, 1) := by decide +kernel
theorem dd_X11_turn_68 : decode (zc mm_X11_turn) 68 = .ok (.iaload, 1) := by decide +kernel
theorem dd_X11_turn_69 : decode (zc mm_X11_turn) 69 = .ok (.imul, 1) := by decide +kernel
theorem dd_X11_turn_70 : decode (zc mm_X11_turn) 70 = .ok (.aload_n 0, 1) := by decide +kernel
theorem dd_X11_turn_71 : decode (zc mm_X11_turn) 71 = .ok (.getfield 37, 3) := by decide +kernel
theorem dd_X11_turn_74 : decode (zc mm_X11_turn) 74 = .ok (.iload_n 1, 1) := by decide +kernel
theorem dd_X11_turn_75 : decode (zc mm_X11_turn) 75 = .ok (.iaload, 1) := by decide +kernel
theorem dd_X11_turn_76 : decode (zc mm_X11_turn) 76 = .ok (.iadd, 1) := by decide +kernel
theorem dd_X11_turn_77 : decode (zc mm_X11_turn) 77 = .ok (.istore 5, 2) := by decide +kernel
theorem dd_X11_turn_79 : decode (zc mm_X11_turn) 79 = .ok (.aload_n 0, 1) := by decide +kernel
theorem dd_X11_turn_80 : decode (zc mm_X11_turn) 80 = .ok (.iconst (-1), 1) := by decide +kernel
theorem dd_X11_turn_81 : decode (zc mm_X11_turn) 81 = .ok (.iload_n 1, 1) := by decide +kernel
theorem dd_X11_turn_82 : decode (zc mm_X11_turn) 82 = .ok (.isub, 1) := by decide +kernel
theorem dd_X11_turn_83 : decode (zc mm_X11_turn) 83 = .ok (.iload 5, 2) := by decide +kernel
theorem dd_X11_turn_85 : decode (zc mm_X11_turn) 85 = .ok (.invokevirtual 157, 3) := by decide +kernel
theorem dd_X11_turn_88 : decode (zc mm_X11_turn) 88 = .ok (.aload_n 0, 1) := by decide +kernel
theorem dd_X11_turn_89 : decode (zc mm_X11_turn) 89 = .ok (.getfield 34, 3) := by decide +kernel
theorem dd_X11_turn_92 : decode (zc mm_X11_turn) 92 = .ok (.iload_n 1, 1) := by decide +kernel
theorem dd_X11_turn_93 : decode (zc mm_X11_turn) 93 = .ok (.iload_n 2, 1) := by decide +kernel
theorem dd_X11_turn_94 : decode (zc mm_X11_turn) 94 = .ok (.iastore, 1) := by decide +kernel
theorem dd_X11_turn_95 : decode (zc mm_X11_turn) 95 = .ok (.aload_n 0, 1) := by decide +kernel
theorem dd_X11_turn_96 : decode (zc mm_X11_turn) 96 = .ok (.getfield 37, 3) := by decide +kernel
theorem dd_X11_turn_99 : decode (zc mm_X11_turn) 99 = .ok (.iload_n 1, 1) := by decide +kernel
theorem dd_X11_turn_100 : decode (zc mm_X11_turn) 100 = .ok (.iload_n 3, 1) := by decide +kernel
theorem dd_X11_turn_101 : decode (zc mm_X11_turn) 101 = .ok (.iastore, 1) := by decide +kernel
theorem dd_X11_turn_102 : decode (zc mm_X11_turn) 102 = .ok (.iload 5, 2) := by decide +kernel
theorem dd_X11_turn_104 : decode (zc mm_X11_turn) 104 = .ok (.ireturn, 1) := by decide +kernel
theorem dd_X11_notPowers_0 : decode (zc mm_X11_notPowers) 0 = .ok (.aload_n 0, 1) := by decide +kernel
theorem dd_X11_notPowers_1 : decode (zc mm_X11_notPowers) 1 = .ok (.iload_n 1, 1) := by decide +kernel
theorem dd_X11_notPowers_2 : decode (zc mm_X11_notPowers) 2 = .ok (.invokevirtual 154, 3) := by decide +kernel
theorem dd_X11_notPowers_5 : decode (zc mm_X11_notPowers) 5 = .ok (.ifCond .ne 7, 3) := by decide +kernel
theorem dd_X11_notPowers_8 : decode (zc mm_X11_notPowers) 8 = .ok (.iconst (-1), 1) := by decide +kernel
theorem dd_X11_notPowers_9 : decode (zc mm_X11_notPowers) 9 = .ok (.goto 32, 3) := by decide +kernel
theorem dd_X11_notPowers_12 : decode (zc mm_X11_notPowers) 12 = .ok (.iload_n 2, 1) := by decide +kernel
theorem dd_X11_notPowers_13 : decode (zc mm_X11_notPowers) 13 = .ok (.ifCond .lt 7, 3) := by decide +kernel
theorem dd_X11_notPowers_16 : decode (zc mm_X11_notPowers) 16 = .ok (.iload_n 3, 1) := by decide +kernel
theorem dd_X11_notPowers_17 : decode (zc mm_X11_notPowers) 17 = .ok (.ifCond .ge 8, 3) := by decide +kernel
theorem dd_X11_notPowers_20 : decode (zc mm_X11_notPowers) 20 = .ok (.bipush (-4), 2) := by decide +kernel
theorem dd_X11_notPowers_22 : decode (zc mm_X11_notPowers) 22 = .ok (.goto 19, 3) := by decide +kernel
theorem dd_X11_notPowers_25 : decode (zc mm_X11_notPowers) 25 = .ok (.iload_n 2, 1) := by decide +kernel
theorem dd_X11_notPowers_26 : decode (zc mm_X11_notPowers) 26 = .ok (.iconst 5, 1) := by decide +kernel
theorem dd_X11_notPowers_27 : decode (zc mm_X11_notPowers) 27 = .ok (.if_icmp .ge 8, 3) := by decide +kernel
theorem dd_X11_notPowers_30 : decode (zc mm_X11_notPowers) 30 = .ok (.iload_n 3, 1) := by decide +kernel
theorem dd_X11_notPowers_31 : decode (zc mm_X11_notPowers) 31 = .ok (.iconst 5, 1) := by decide +kernel
theorem dd_X11_notPowers_32 : decode (zc mm_X11_notPowers) 32 = .ok (.if_icmp .lt 8, 3) := by decide +kernel
theorem dd_X11_notPowers_35 : decode (zc mm_X11_notPowers) 35 = .ok (.bipush (-6), 2) := by decide +kernel
theorem dd_X11_notPowers_37 : decode (zc mm_X11_notPowers) 37 = .ok (.goto 4, 3) := by decide +kernel
theorem dd_X11_notPowers_40 : decode (zc mm_X11_notPowers) 40 = .ok (.iconst 0, 1) := by decide +kernel
theorem dd_X11_notPowers_41 : decode (zc mm_X11_notPowers) 41 = .ok (.ireturn, 1) := by decide +kernel
theorem dd_X11_change_0 : decode (zc mm_X11_change) 0 = .ok (.aload_n 0, 1) := by decide +kernel
theorem dd_X11_change_1 : decode (zc mm_X11_change) 1 = .ok (.iload_n 1, 1) := by decide +kernel
theorem dd_X11_change_2 : decode (zc mm_X11_change) 2 = .ok (.iload_n 2, 1) := by decide +kernel
theorem dd_X11_change_3 : decode (zc mm_X11_change) 3 = .ok (.iload_n 3, 1) := by decide +kernel
theorem dd_X11_change_4 : decode (zc mm_X11_change) 4 = .ok (.invokevirtual 161, 3) := by decide +kernel
theorem dd_X11_change_7 : decode (zc mm_X11_change) 7 = .ok (.istore 5, 2) := by decide +kernel
theorem dd_X11_change_9 : decode (zc mm_X11_change) 9 = .ok (.iload 5, 2) := by decide +kernel
theorem dd_X11_change_11 : decode (zc mm_X11_change) 11 = .ok (.ifCond .eq 10, 3) := by decide +kernel
theorem dd_X11_change_14 : decode (zc mm_X11_change) 14 = .ok (.aload_n 0, 1) := by decide +kernel
theorem dd_X11_change_15 : decode (zc mm_X11_change) 15 = .ok (.iload 5, 2) := by decide +kernel
theorem dd_X11_change_17 : decode (zc mm_X11_change) 17 = .ok (.invokevirtual 120, 3) := by decide +kernel
theorem dd_X11_change_20 : decode (zc mm_X11_change) 20 = .ok (.ireturn, 1) := by decide +kernel
theorem dd_X11_change_21 : decode (zc mm_X11_change) 21 = .ok (.bipush 25, 2) := by decide +kernel
theorem dd_X11_change_23 : decode (zc mm_X11_change) 23 = .ok (.iload_n 1, 1) := by decide +kernel
theorem dd_X11_change_24 : decode (zc mm_X11_change) 24 = .ok (.imul, 1) := by decide +kernel
theorem dd_X11_change_25 : decode (zc mm_X11_change) 25 = .ok (.iconst 5, 1) := by decide +kernel
theorem dd_X11_change_26 : decode (zc mm_X11_change) 26 = .ok (.iload_n 2, 1) := by decide +kernel
theorem dd_X11_change_27 : decode (zc mm_X11_change) 27 = .ok (.imul, 1) := by decide +kernel
theorem dd_X11_change_28 : decode (zc mm_X11_change) 28 = .ok (.iadd, 1) := by decide +kernel
theorem dd_X11_change_29 : decode (zc mm_X11_change) 29 = .ok (.iload_n 3, 1) := by decide +kernel
theorem dd_X11_change_30 : decode (zc mm_X11_change) 30 = .ok (.iadd, 1) := by decide +kernel
theorem dd_X11_change_31 : decode (zc mm_X11_change) 31 = .ok (.istore 6, 2) := by decide +kernel
theorem dd_X11_change_33 : decode (zc mm_X11_change) 33 = .ok (.aload_n 0, 1) := by decide +kernel
theorem dd_X11_change_34 : decode (zc mm_X11_change) 34 = .ok (.getfield 31, 3) := by decide +kernel
theorem dd_X11_change_37 : decode (zc mm_X11_change) 37 = .ok (.iload 6, 2) := by decide +kernel
theorem dd_X11_change_39 : decode (zc mm_X11_change) 39 = .ok (.iaload, 1) := by decide +kernel
theorem dd_X11_change_40 : decode (zc mm_X11_change) 40 = .ok (.istore 7, 2) := by decide +kernel
theorem dd_X11_change_42 : decode (zc mm_X11_change) 42 = .ok (.aload_n 0, 1) := by decide +kernel
theorem dd_X11_change_43 : decode (zc mm_X11_change) 43 = .ok (.iload 6, 2) := by decide +kernel
theorem dd_X11_change_45 : decode (zc mm_X11_change) 45 = .ok (.iload 7, 2) := by decide +kernel
theorem dd_X11_change_47 : decode (zc mm_X11_change) 47 = .ok (.invokevirtual 157, 3) := by decide +kernel
theorem dd_X11_change_50 : decode (zc mm_X11_change) 50 = .ok (.aload_n 0, 1) := by decide +kernel
theorem dd_X11_change_51 : decode (zc mm_X11_change) 51 = .ok (.getfield 31, 3) := by decide +kernel
theorem dd_X11_change_54 : decode (zc mm_X11_change) 54 = .ok (.iload 6, 2) := by decide +kernel
theorem dd_X11_change_56 : decode (zc mm_X11_change) 56 = .ok (.aload_n 0, 1) := by decide +kernel
theorem dd_X11_change_57 : decode (zc mm_X11_change) 57 = .ok (.iload 4, 2) := by decide +kernel
theorem dd_X11_change_59 : decode (zc mm_X11_change) 59 = .ok (.invokevirtual 13, 3) := by decide +kernel
theorem dd_X11_change_62 : decode (zc mm_X11_change) 62 = .ok (.iastore, 1) := by decide +kernel
theorem dd_X11_change_63 : decode (zc mm_X11_change) 63 = .ok (.iload 7, 2) := by decide +kernel
theorem dd_X11_change_65 : decode (zc mm_X11_change) 65 = .ok (.ireturn, 1) := by decide +kernel
theorem dd_X11_coefficient_0 : decode (zc mm_X11_coefficient) 0 = .ok (.aload_n 0, 1) := by decide +kernel
theorem dd_X11_coefficient_1 : decode (zc mm_X11_coefficient) 1 = .ok (.iload_n 1, 1) := by decide +kernel
theorem dd_X11_coefficient_2 : decode (zc mm_X11_coefficient) 2 = .ok (.iload_n 2, 1) := by decide +kernel
theorem dd_X11_coefficient_3 : decode (zc mm_X11_coefficient) 3 = .ok (.iload_n 3, 1) := by decide +kernel
theorem dd_X11_coefficient_4 : decode (zc mm_X11_coefficient) 4 = .ok (.invokevirtual 161, 3) := by decide +kernel
theorem dd_X11_coefficient_7 : decode (zc mm_X11_coefficient) 7 = .ok (.istore 4, 2) := by decide +kernel
theorem dd_X11_coefficient_9 : decode (zc mm_X11_coefficient) 9 = .ok (.iload 4, 2) := by decide +kernel
theorem dd_X11_coefficient_11 : decode (zc mm_X11_coefficient) 11 = .ok (.ifCond .eq 12, 3) := by decide +kernel
theorem dd_X11_coefficient_14 : decode (zc mm_X11_coefficient) 14 = .ok (.aload_n 0, 1) := by decide +kernel
theorem dd_X11_coefficient_15 : decode (zc mm_X11_coefficient) 15 = .ok (.iload 4, 2) := by decide +kernel
theorem dd_X11_coefficient_17 : decode (zc mm_X11_coefficient) 17 = .ok (.invokevirtual 120, 3) := by decide +kernel
theorem dd_X11_coefficient_20 : decode (zc mm_X11_coefficient) 20 = .ok (.goto 10, 3) := by decide +kernel
theorem dd_X11_coefficient_23 : decode (zc mm_X11_coefficient) 23 = .ok (.aload_n 0, 1) := by decide +kernel
theorem dd_X11_coefficient_24 : decode (zc mm_X11_coefficient) 24 = .ok (.iload_n 1, 1) := by decide +kernel
theorem dd_X11_coefficient_25 : decode (zc mm_X11_coefficient) 25 = .ok (.iload_n 2, 1) := by decide +kernel
theorem dd_X11_coefficient_26 : decode (zc mm_X11_coefficient) 26 = .ok (.iload_n 3, 1) := by decide +kernel
theorem dd_X11_coefficient_27 : decode (zc mm_X11_coefficient) 27 = .ok (.invokevirtual 108, 3) := by decide +kernel
theorem dd_X11_coefficient_30 : decode (zc mm_X11_coefficient) 30 = .ok (.ireturn, 1) := by decide +kernel
theorem dd_X11_of_0 : decode (zc mm_X11_of) 0 = .ok (.aload_n 0, 1) := by decide +kernel
theorem dd_X11_of_1 : decode (zc mm_X11_of) 1 = .ok (.iload_n 1, 1) := by decide +kernel
theorem dd_X11_of_2 : decode (zc mm_X11_of) 2 = .ok (.invokevirtual 154, 3) := by decide +kernel
theorem dd_X11_of_5 : decode (zc mm_X11_of) 5 = .ok (.ifCond .ne 9, 3) := by decide +kernel
theorem dd_X11_of_8 : decode (zc mm_X11_of) 8 = .ok (.aload_n 0, 1) := by decide +kernel
theorem dd_X11_of_9 : decode (zc mm_X11_of) 9 = .ok (.iconst (-1), 1) := by decide +kernel
theorem dd_X11_of_10 : decode (zc mm_X11_of) 10 = .ok (.invokevirtual 120, 3) := by decide +kernel
theorem dd_X11_of_13 : decode (zc mm_X11_of) 13 = .ok (.ireturn, 1) := by decide +kernel
theorem dd_X11_of_14 : decode (zc mm_X11_of) 14 = .ok (.iload_n 2, 1) := by decide +kernel
theorem dd_X11_of_15 : decode (zc mm_X11_of) 15 = .ok (.tableswitch 78 0 5 #[37, 44, 51, 58, 65, 71], 37) := by decide +kernel
theorem dd_X11_of_52 : decode (zc mm_X11_of) 52 = .ok (.aload_n 0, 1) := by decide +kernel
theorem dd_X11_of_53 : decode (zc mm_X11_of) 53 = .ok (.getfield 34, 3) := by decide +kernel
theorem dd_X11_of_56 : decode (zc mm_X11_of) 56 = .ok (.iload_n 1, 1) := by decide +kernel
theorem dd_X11_of_57 : decode (zc mm_X11_of) 57 = .ok (.iaload, 1) := by decide +kernel
theorem dd_X11_of_58 : decode (zc mm_X11_of) 58 = .ok (.ireturn, 1) := by decide +kernel
theorem dd_X11_of_59 : decode (zc mm_X11_of) 59 = .ok (.aload_n 0, 1) := by decide +kernel
theorem dd_X11_of_60 : decode (zc mm_X11_of) 60 = .ok (.getfield 37, 3) := by decide +kernel
theorem dd_X11_of_63 : decode (zc mm_X11_of) 63 = .ok (.iload_n 1, 1) := by decide +kernel
theorem dd_X11_of_64 : decode (zc mm_X11_of) 64 = .ok (.iaload, 1) := by decide +kernel
theorem dd_X11_of_65 : decode (zc mm_X11_of) 65 = .ok (.ireturn, 1) := by decide +kernel
theorem dd_X11_of_66 : decode (zc mm_X11_of) 66 = .ok (.aload_n 0, 1) := by decide +kernel
theorem dd_X11_of_67 : decode (zc mm_X11_of) 67 = .ok (.iload_n 1, 1) := by decide +kernel
theorem dd_X11_of_68 : decode (zc mm_X11_of) 68 = .ok (.iconst 0, 1) := by decide +kernel
theorem dd_X11_of_69 : decode (zc mm_X11_of) 69 = .ok (.invokevirtual 114, 3) := by decide +kernel
theorem dd_X11_of_72 : decode (zc mm_X11_of) 72 = .ok (.ireturn, 1) := by decide +kernel
theorem dd_X11_of_73 : decode (zc mm_X11_of) 73 = .ok (.aload_n 0, 1) := by decide +kernel
theorem dd_X11_of_74 : decode (zc mm_X11_of) 74 = .ok (.iload_n 1, 1) := by decide +kernel
theorem dd_X11_of_75 : decode (zc mm_X11_of) 75 = .ok (.iconst 1, 1) := by decide +kernel
theorem dd_X11_of_76 : decode (zc mm_X11_of) 76 = .ok (.invokevirtual 114, 3) := by decide +kernel
theorem dd_X11_of_79 : decode (zc mm_X11_of) 79 = .ok (.ireturn, 1) := by decide +kernel
theorem dd_X11_of_80 : decode (zc mm_X11_of) 80 = .ok (.aload_n 0, 1) := by decide +kernel
theorem dd_X11_of_81 : decode (zc mm_X11_of) 81 = .ok (.iload_n 1, 1) := by decide +kernel
theorem dd_X11_of_82 : decode (zc mm_X11_of) 82 = .ok (.invokevirtual 164, 3) := by decide +kernel
theorem dd_X11_of_85 : decode (zc mm_X11_of) 85 = .ok (.ireturn, 1) := by decide +kernel
theorem dd_X11_of_86 : decode (zc mm_X11_of) 86 = .ok (.aload_n 0, 1) := by decide +kernel
theorem dd_X11_of_87 : decode (zc mm_X11_of) 87 = .ok (.iload_n 1, 1) := by decide +kernel
theorem dd_X11_of_88 : decode (zc mm_X11_of) 88 = .ok (.iconst 2, 1) := by decide +kernel
theorem dd_X11_of_89 : decode (zc mm_X11_of) 89 = .ok (.invokevirtual 114, 3) := by decide +kernel
theorem dd_X11_of_92 : decode (zc mm_X11_of) 92 = .ok (.ireturn, 1) := by decide +kernel
theorem dd_X11_of_93 : decode (zc mm_X11_of) 93 = .ok (.aload_n 0, 1) := by decide +kernel
theorem dd_X11_of_94 : decode (zc mm_X11_of) 94 = .ok (.bipush (-2), 2) := by decide +kernel
theorem dd_X11_of_96 : decode (zc mm_X11_of) 96 = .ok (.invokevirtual 120, 3) := by decide +kernel
theorem dd_X11_of_99 : decode (zc mm_X11_of) 99 = .ok (.ireturn, 1) := by decide +kernel
theorem dd_X11_term_0 : decode (zc mm_X11_term) 0 = .ok (.aload_n 0, 1) := by decide +kernel
theorem dd_X11_term_1 : decode (zc mm_X11_term) 1 = .ok (.iload_n 1, 1) := by decide +kernel
theorem dd_X11_term_2 : decode (zc mm_X11_term) 2 = .ok (.invokevirtual 154, 3) := by decide +kernel
theorem dd_X11_term_5 : decode (zc mm_X11_term) 5 = .ok (.ifCond .ne 7, 3) := by decide +kernel
theorem dd_X11_term_8 : decode (zc mm_X11_term) 8 = .ok (.iconst (-1), 1) := by decide +kernel
theorem dd_X11_term_9 : decode (zc mm_X11_term) 9 = .ok (.goto 27, 3) := by decide +kernel
theorem dd_X11_term_12 : decode (zc mm_X11_term) 12 = .ok (.iload_n 2, 1) := by decide +kernel
theorem dd_X11_term_13 : decode (zc mm_X11_term) 13 = .ok (.iconst 0, 1) := by decide +kernel
theorem dd_X11_term_14 : decode (zc mm_X11_term) 14 = .ok (.iconst 1, 1) := by decide +kernel
theorem dd_X11_term_15 : decode (zc mm_X11_term) 15 = .ok (.invokestatic 21, 3) := by decide +kernel
theorem dd_X11_term_18 : decode (zc mm_X11_term) 18 = .ok (.ifCond .ne 8, 3) := by decide +kernel
theorem dd_X11_term_21 : decode (zc mm_X11_term) 21 = .ok (.bipush (-2), 2) := by decide +kernel
theorem dd_X11_term_23 : decode (zc mm_X11_term) 23 = .ok (.goto 13, 3) := by decide +kernel
theorem dd_X11_term_26 : decode (zc mm_X11_term) 26 = .ok (.iload_n 3, 1) := by decide +kernel
theorem dd_X11_term_27 : decode (zc mm_X11_term) 27 = .ok (.ifCond .ge 8, 3) := by decide +kernel
theorem dd_X11_term_30 : decode (zc mm_X11_term) 30 = .ok (.bipush (-4), 2) := by decide +kernel
theorem dd_X11_term_32 : decode (zc mm_X11_term) 32 = .ok (.goto 4, 3) := by decide +kernel
theorem dd_X11_term_35 : decode (zc mm_X11_term) 35 = .ok (.iconst 0, 1) := by decide +kernel
theorem dd_X11_term_36 : decode (zc mm_X11_term) 36 = .ok (.istore 4, 2) := by decide +kernel
theorem dd_X11_term_38 : decode (zc mm_X11_term) 38 = .ok (.iload 4, 2) := by decide +kernel
theorem dd_X11_term_40 : decode (zc mm_X11_term) 40 = .ok (.ifCond .eq 10, 3) := by decide +kernel
theorem dd_X11_term_43 : decode (zc mm_X11_term) 43 = .ok (.aload_n 0, 1) := by decide +kernel
theorem dd_X11_term_44 : decode (zc mm_X11_term) 44 = .ok (.iload 4, 2) := by decide +kernel
theorem dd_X11_term_46 : decode (zc mm_X11_term) 46 = .ok (.invokevirtual 120, 3) := by decide +kernel
theorem dd_X11_term_49 : decode (zc mm_X11_term) 49 = .ok (.ireturn, 1) := by decide +kernel
theorem dd_X11_term_50 : decode (zc mm_X11_term) 50 = .ok (.iconst 0, 1) := by decide +kernel
theorem dd_X11_term_51 : decode (zc mm_X11_term) 51 = .ok (.istore 5, 2) := by decide +kernel
theorem dd_X11_term_53 : decode (zc mm_X11_term) 53 = .ok (.iload_n 2, 1) := by decide +kernel
theorem dd_X11_term_54 : decode (zc mm_X11_term) 54 = .ok (.ifCond .ne 7, 3) := by decide +kernel
theorem dd_X11_term_57 : decode (zc mm_X11_term) 57 = .ok (.iconst 0, 1) := by decide +kernel
theorem dd_X11_term_58 : decode (zc mm_X11_term) 58 = .ok (.goto 5, 3) := by decide +kernel
theorem dd_X11_term_61 : decode (zc mm_X11_term) 61 = .ok (.bipush 8, 2) := by decide +kernel
theorem dd_X11_term_63 : decode (zc mm_X11_term) 63 = .ok (.istore 6, 2) := by decide +kernel
theorem dd_X11_term_65 : decode (zc mm_X11_term) 65 = .ok (.iload 6, 2) := by decide +kernel
theorem dd_X11_term_67 : decode (zc mm_X11_term) 67 = .ok (.ifCond .lt 84, 3) := by decide +kernel
theorem dd_X11_term_70 : decode (zc mm_X11_term) 70 = .ok (.bipush 24, 2) := by decide +kernel
theorem dd_X11_term_72 : decode (zc mm_X11_term) 72 = .ok (.istore 7, 2) := by decide +kernel
theorem dd_X11_term_74 : decode (zc mm_X11_term) 74 = .ok (.iload 7, 2) := by decide +kernel
theorem dd_X11_term_76 : decode (zc mm_X11_term) 76 = .ok (.ifCond .lt 69, 3) := by decide +kernel
theorem dd_X11_term_79 : decode (zc mm_X11_term) 79 = .ok (.iload 7, 2) := by decide +kernel
theorem dd_X11_term_81 : decode (zc mm_X11_term) 81 = .ok (.iconst 5, 1) := by decide +kernel
theorem dd_X11_term_82 : decode (zc mm_X11_term) 82 = .ok (.idiv, 1) := by decide +kernel
theorem dd_X11_term_83 : decode (zc mm_X11_term) 83 = .ok (.istore 8, 2) := by decide +kernel
theorem dd_X11_term_85 : decode (zc mm_X11_term) 85 = .ok (.iload 7, 2) := by decide +kernel
theorem dd_X11_term_87 : decode (zc mm_X11_term) 87 = .ok (.iconst 5, 1) := by decide +kernel
theorem dd_X11_term_88 : decode (zc mm_X11_term) 88 = .ok (.irem, 1) := by decide +kernel
theorem dd_X11_term_89 : decode (zc mm_X11_term) 89 = .ok (.istore 9, 2) := by decide +kernel
theorem dd_X11_term_91 : decode (zc mm_X11_term) 91 = .ok (.iload_n 2, 1) := by decide +kernel
theorem dd_X11_term_92 : decode (zc mm_X11_term) 92 = .ok (.iconst 1, 1) := by decide +kernel
theorem dd_X11_term_93 : decode (zc mm_X11_term) 93 = .ok (.if_icmp .ne 13, 3) := by decide +kernel
theorem dd_X11_term_96 : decode (zc mm_X11_term) 96 = .ok (.iload 8, 2) := by decide +kernel
theorem dd_X11_term_98 : decode (zc mm_X11_term) 98 = .ok (.iload 9, 2) := by decide +kernel
theorem dd_X11_term_100 : decode (zc mm_X11_term) 100 = .ok (.iadd, 1) := by decide +kernel
theorem dd_X11_term_101 : decode (zc mm_X11_term) 101 = .ok (.iload 6, 2) := by decide +kernel
theorem dd_X11_term_103 : decode (zc mm_X11_term) 103 = .ok (.if_icmp .ne 36, 3) := by decide +kernel
theorem dd_X11_term_106 : decode (zc mm_X11_term) 106 = .ok (.aload_n 0, 1) := by decide +kernel
theorem dd_X11_term_107 : decode (zc mm_X11_term) 107 = .ok (.iload_n 1, 1) := by decide +kernel
theorem dd_X11_term_108 : decode (zc mm_X11_term) 108 = .ok (.iload 8, 2) := by decide +kernel
theorem dd_X11_term_110 : decode (zc mm_X11_term) 110 = .ok (.iload 9, 2) := by decide +kernel
theorem dd_X11_term_112 : decode (zc mm_X11_term) 112 = .ok (.invokevirtual 111, 3) := by decide +kernel
theorem dd_X11_term_115 : decode (zc mm_X11_term) 115 = .ok (.ifCond .ne 6, 3) := by decide +kernel
theorem dd_X11_term_118 : decode (zc mm_X11_term) 118 = .ok (.goto 21, 3) := by decide +kernel
theorem dd_X11_term_121 : decode (zc mm_X11_term) 121 = .ok (.iload 5, 2) := by decide +kernel
theorem dd_X11_term_123 : decode (zc mm_X11_term) 123 = .ok (.iload_n 3, 1) := by decide +kernel
theorem dd_X11_term_124 : decode (zc mm_X11_term) 124 = .ok (.if_icmp .ne 12, 3) := by decide +kernel
theorem dd_X11_term_127 : decode (zc mm_X11_term) 127 = .ok (.bipush 10, 2) := by decide +kernel
theorem dd_X11_term_129 : decode (zc mm_X11_term) 129 = .ok (.iload 8, 2) := by decide +kernel
theorem dd_X11_term_131 : decode (zc mm_X11_term) 131 = .ok (.imul, 1) := by decide +kernel
theorem dd_X11_term_132 : decode (zc mm_X11_term) 132 = .ok (.iload 9, 2) := by decide +kernel
theorem dd_X11_term_134 : decode (zc mm_X11_term) 134 = .ok (.iadd, 1) := by decide +kernel
theorem dd_X11_term_135 : decode (zc mm_X11_term) 135 = .ok (.ireturn, 1) := by decide +kernel
theorem dd_X11_term_136 : decode (zc mm_X11_term) 136 = .ok (.iinc 5 1, 3) := by decide +kernel
theorem dd_X11_term_139 : decode (zc mm_X11_term) 139 = .ok (.iinc 7 (-1), 3) := by decide +kernel
theorem dd_X11_term_142 : decode (zc mm_X11_term) 142 = .ok (.goto (-68), 3) := by decide +kernel
theorem dd_X11_term_145 : decode (zc mm_X11_term) 145 = .ok (.iinc 6 (-1), 3) := by decide +kernel
theorem dd_X11_term_148 : decode (zc mm_X11_term) 148 = .ok (.goto (-83), 3) := by decide +kernel
theorem dd_X11_term_151 : decode (zc mm_X11_term) 151 = .ok (.bipush (-9), 2) := by decide +kernel
theorem dd_X11_term_153 : decode (zc mm_X11_term) 153 = .ok (.ireturn, 1) := by decide +kernel
theorem dd_X11_value_0 : decode (zc mm_X11_value) 0 = .ok (.aload_n 0, 1) := by decide +kernel
theorem dd_X11_value_1 : decode (zc mm_X11_value) 1 = .ok (.iload_n 1, 1) := by decide +kernel
theorem dd_X11_value_2 : decode (zc mm_X11_value) 2 = .ok (.invokevirtual 154, 3) := by decide +kernel
theorem dd_X11_value_5 : decode (zc mm_X11_value) 5 = .ok (.ifCond .ne 7, 3) := by decide +kernel
theorem dd_X11_value_8 : decode (zc mm_X11_value) 8 = .ok (.iconst (-1), 1) := by decide +kernel
theorem dd_X11_value_9 : decode (zc mm_X11_value) 9 = .ok (.goto 38, 3) := by decide +kernel
theorem dd_X11_value_12 : decode (zc mm_X11_value) 12 = .ok (.iload_n 2, 1) := by decide +kernel
theorem dd_X11_value_13 : decode (zc mm_X11_value) 13 = .ok (.ifCond .lt 7, 3) := by decide +kernel
theorem dd_X11_value_16 : decode (zc mm_X11_value) 16 = .ok (.iload_n 3, 1) := by decide +kernel
theorem dd_X11_value_17 : decode (zc mm_X11_value) 17 = .ok (.ifCond .ge 8, 3) := by decide +kernel
theorem dd_X11_value_20 : decode (zc mm_X11_value) 20 = .ok (.bipush (-4), 2) := by decide +kernel
theorem dd_X11_value_22 : decode (zc mm_X11_value) 22 = .ok (.goto 25, 3) := by decide +kernel
theorem dd_X11_value_25 : decode (zc mm_X11_value) 25 = .ok (.iload_n 2, 1) := by decide +kernel
theorem dd_X11_value_26 : decode (zc mm_X11_value) 26 = .ok (.aload_n 0, 1) := by decide +kernel
theorem dd_X11_value_27 : decode (zc mm_X11_value) 27 = .ok (.getfield 9, 3) := by decide +kernel
theorem dd_X11_value_30 : decode (zc mm_X11_value) 30 = .ok (.if_icmp .ge 11, 3) := by decide +kernel
theorem dd_X11_value_33 : decode (zc mm_X11_value) 33 = .ok (.iload_n 3, 1) := by decide +kernel
theorem dd_X11_value_34 : decode (zc mm_X11_value) 34 = .ok (.aload_n 0, 1) := by decide +kernel
theorem dd_X11_value_35 : decode (zc mm_X11_value) 35 = .ok (.getfield 9, 3) := by decide +kernel
theorem dd_X11_value_38 : decode (zc mm_X11_value) 38 = .ok (.if_icmp .lt 8, 3) := by decide +kernel
theorem dd_X11_value_41 : decode (zc mm_X11_value) 41 = .ok (.bipush (-6), 2) := by decide +kernel
theorem dd_X11_value_43 : decode (zc mm_X11_value) 43 = .ok (.goto 4, 3) := by decide +kernel
theorem dd_X11_value_46 : decode (zc mm_X11_value) 46 = .ok (.iconst 0, 1) := by decide +kernel
theorem dd_X11_value_47 : decode (zc mm_X11_value) 47 = .ok (.istore 4, 2) := by decide +kernel
theorem dd_X11_value_49 : decode (zc mm_X11_value) 49 = .ok (.iload 4, 2) := by decide +kernel
theorem dd_X11_value_51 : decode (zc mm_X11_value) 51 = .ok (.ifCond .eq 12, 3) := by decide +kernel
theorem dd_X11_value_54 : decode (zc mm_X11_value) 54 = .ok (.aload_n 0, 1) := by decide +kernel
theorem dd_X11_value_55 : decode (zc mm_X11_value) 55 = .ok (.iload 4, 2) := by decide +kernel
theorem dd_X11_value_57 : decode (zc mm_X11_value) 57 = .ok (.invokevirtual 120, 3) := by decide +kernel
theorem dd_X11_value_60 : decode (zc mm_X11_value) 60 = .ok (.goto 10, 3) := by decide +kernel
theorem dd_X11_value_63 : decode (zc mm_X11_value) 63 = .ok (.aload_n 0, 1) := by decide +kernel
theorem dd_X11_value_64 : decode (zc mm_X11_value) 64 = .ok (.iload_n 1, 1) := by decide +kernel
theorem dd_X11_value_65 : decode (zc mm_X11_value) 65 = .ok (.iload_n 2, 1) := by decide +kernel
theorem dd_X11_value_66 : decode (zc mm_X11_value) 66 = .ok (.iload_n 3, 1) := by decide +kernel
theorem dd_X11_value_67 : decode (zc mm_X11_value) 67 = .ok (.invokevirtual 167, 3) := by decide +kernel
theorem dd_X11_value_70 : decode (zc mm_X11_value) 70 = .ok (.ireturn, 1) := by decide +kernel
theorem dd_X11_notTwo_0 : decode (zc mm_X11_notTwo) 0 = .ok (.aload_n 0, 1) := by decide +kernel
theorem dd_X11_notTwo_1 : decode (zc mm_X11_notTwo) 1 = .ok (.iload_n 1, 1) := by decide +kernel
theorem dd_X11_notTwo_2 : decode (zc mm_X11_notTwo) 2 = .ok (.invokevirtual 154, 3) := by decide +kernel
theorem dd_X11_notTwo_5 : decode (zc mm_X11_notTwo) 5 = .ok (.ifCond .eq 24, 3) := by decide +kernel
theorem dd_X11_notTwo_8 : decode (zc mm_X11_notTwo) 8 = .ok (.aload_n 0, 1) := by decide +kernel
theorem dd_X11_notTwo_9 : decode (zc mm_X11_notTwo) 9 = .ok (.iload_n 2, 1) := by decide +kernel
theorem dd_X11_notTwo_10 : decode (zc mm_X11_notTwo) 10 = .ok (.invokevirtual 154, 3) := by decide +kernel
theorem dd_X11_notTwo_13 : decode (zc mm_X11_notTwo) 13 = .ok (.ifCond .eq 16, 3) := by decide +kernel
theorem dd_X11_notTwo_16 : decode (zc mm_X11_notTwo) 16 = .ok (.iload_n 3, 1) := by decide +kernel
theorem dd_X11_notTwo_17 : decode (zc mm_X11_notTwo) 17 = .ok (.iconst 0, 1) := by decide +kernel
theorem dd_X11_notTwo_18 : decode (zc mm_X11_notTwo) 18 = .ok (.iconst 1, 1) := by decide +kernel
theorem dd_X11_notTwo_19 : decode (zc mm_X11_notTwo) 19 = .ok (.invokestatic 21, 3) := by decide +kernel
theorem dd_X11_notTwo_22 : decode (zc mm_X11_notTwo) 22 = .ok (.ifCond .eq 7, 3) := by decide +kernel
theorem dd_X11_notTwo_25 : decode (zc mm_X11_notTwo) 25 = .ok (.iconst 0, 1) := by decide +kernel
theorem dd_X11_notTwo_26 : decode (zc mm_X11_notTwo) 26 = .ok (.goto 4, 3) := by decide +kernel
theorem dd_X11_notTwo_29 : decode (zc mm_X11_notTwo) 29 = .ok (.iconst (-1), 1) := by decide +kernel
theorem dd_X11_notTwo_30 : decode (zc mm_X11_notTwo) 30 = .ok (.ireturn, 1) := by decide +kernel
theorem dd_X11_notTable_0 : decode (zc mm_X11_notTable) 0 = .ok (.aload_n 0, 1) := by decide +kernel
theorem dd_X11_notTable_1 : decode (zc mm_X11_notTable) 1 = .ok (.iload_n 1, 1) := by decide +kernel
theorem dd_X11_notTable_2 : decode (zc mm_X11_notTable) 2 = .ok (.iload_n 2, 1) := by decide +kernel
theorem dd_X11_notTable_3 : decode (zc mm_X11_notTable) 3 = .ok (.iload_n 3, 1) := by decide +kernel
theorem dd_X11_notTable_4 : decode (zc mm_X11_notTable) 4 = .ok (.invokevirtual 170, 3) := by decide +kernel
theorem dd_X11_notTable_7 : decode (zc mm_X11_notTable) 7 = .ok (.ifCond .eq 7, 3) := by decide +kernel
theorem dd_X11_notTable_10 : decode (zc mm_X11_notTable) 10 = .ok (.iconst (-1), 1) := by decide +kernel
theorem dd_X11_notTable_11 : decode (zc mm_X11_notTable) 11 = .ok (.goto 40, 3) := by decide +kernel
theorem dd_X11_notTable_14 : decode (zc mm_X11_notTable) 14 = .ok (.iload 4, 2) := by decide +kernel
theorem dd_X11_notTable_16 : decode (zc mm_X11_notTable) 16 = .ok (.iconst 0, 1) := by decide +kernel
theorem dd_X11_notTable_17 : decode (zc mm_X11_notTable) 17 = .ok (.iconst 1, 1) := by decide +kernel
theorem dd_X11_notTable_18 : decode (zc mm_X11_notTable) 18 = .ok (.invokestatic 21, 3) := by decide +kernel
theorem dd_X11_notTable_21 : decode (zc mm_X11_notTable) 21 = .ok (.ifCond .ne 8, 3) := by decide +kernel
theorem dd_X11_notTable_24 : decode (zc mm_X11_notTable) 24 = .ok (.bipush (-2), 2) := by decide +kernel
theorem dd_X11_notTable_26 : decode (zc mm_X11_notTable) 26 = .ok (.goto 25, 3) := by decide +kernel
theorem dd_X11_notTable_29 : decode (zc mm_X11_notTable) 29 = .ok (.aload_n 0, 1) := by decide +kernel
theorem dd_X11_notTable_30 : decode (zc mm_X11_notTable) 30 = .ok (.iload_n 1, 1) := by decide +kernel
theorem dd_X11_notTable_31 : decode (zc mm_X11_notTable) 31 = .ok (.invokevirtual 173, 3) := by decide +kernel
theorem dd_X11_notTable_34 : decode (zc mm_X11_notTable) 34 = .ok (.ifCond .ne 11, 3) := by decide +kernel
theorem dd_X11_notTable_37 : decode (zc mm_X11_notTable) 37 = .ok (.aload_n 0, 1) := by decide +kernel
theorem dd_X11_notTable_38 : decode (zc mm_X11_notTable) 38 = .ok (.iload_n 2, 1) := by decide +kernel
theorem dd_X11_notTable_39 : decode (zc mm_X11_notTable) 39 = .ok (.invokevirtual 173, 3) := by decide +kernel
theorem dd_X11_notTable_42 : decode (zc mm_X11_notTable) 42 = .ok (.ifCond .eq 8, 3) := by decide +kernel
theorem dd_X11_notTable_45 : decode (zc mm_X11_notTable) 45 = .ok (.bipush (-3), 2) := by decide +kernel
theorem dd_X11_notTable_47 : decode (zc mm_X11_notTable) 47 = .ok (.goto 4, 3) := by decide +kernel
theorem dd_X11_notTable_50 : decode (zc mm_X11_notTable) 50 = .ok (.iconst 0, 1) := by decide +kernel
theorem dd_X11_notTable_51 : decode (zc mm_X11_notTable) 51 = .ok (.ireturn, 1) := by decide +kernel
theorem dd_X11_notBoth_0 : decode (zc mm_X11_notBoth) 0 = .ok (.aload_n 0, 1) := by decide +kernel
theorem dd_X11_notBoth_1 : decode (zc mm_X11_notBoth) 1 = .ok (.iload_n 1, 1) := by decide +kernel
theorem dd_X11_notBoth_2 : decode (zc mm_X11_notBoth) 2 = .ok (.iload_n 2, 1) := by decide +kernel
theorem dd_X11_notBoth_3 : decode (zc mm_X11_notBoth) 3 = .ok (.iload_n 3, 1) := by decide +kernel
theorem dd_X11_notBoth_4 : decode (zc mm_X11_notBoth) 4 = .ok (.iconst 0, 1) := by decide +kernel
theorem dd_X11_notBoth_5 : decode (zc mm_X11_notBoth) 5 = .ok (.invokevirtual 176, 3) := by decide +kernel
theorem dd_X11_notBoth_8 : decode (zc mm_X11_notBoth) 8 = .ok (.ireturn, 1) := by decide +kernel
theorem dd_X11_takes_0 : decode (zc mm_X11_takes) 0 = .ok (.iconst 0, 1) := by decide +kernel
theorem dd_X11_takes_1 : decode (zc mm_X11_takes) 1 = .ok (.istore 4, 2) := by decide +kernel
theorem dd_X11_takes_3 : decode (zc mm_X11_takes) 3 = .ok (.iload 4, 2) := by decide +kernel
theorem dd_X11_takes_5 : decode (zc mm_X11_takes) 5 = .ok (.bipush 25, 2) := by decide +kernel
theorem dd_X11_takes_7 : decode (zc mm_X11_takes) 7 = .ok (.if_icmp .ge 85, 3) := by decide +kernel
theorem dd_X11_takes_10 : decode (zc mm_X11_takes) 10 = .ok (.iload 4, 2) := by decide +kernel
theorem dd_X11_takes_12 : decode (zc mm_X11_takes) 12 = .ok (.iconst 5, 1) := by decide +kernel
theorem dd_X11_takes_13 : decode (zc mm_X11_takes) 13 = .ok (.idiv, 1) := by decide +kernel
theorem dd_X11_takes_14 : decode (zc mm_X11_takes) 14 = .ok (.istore 5, 2) := by decide +kernel
theorem dd_X11_takes_16 : decode (zc mm_X11_takes) 16 = .ok (.iload 4, 2) := by decide +kernel
theorem dd_X11_takes_18 : decode (zc mm_X11_takes) 18 = .ok (.iconst 5, 1) := by decide +kernel
theorem dd_X11_takes_19 : decode (zc mm_X11_takes) 19 = .ok (.irem, 1) := by decide +kernel
theorem dd_X11_takes_20 : decode (zc mm_X11_takes) 20 = .ok (.istore 6, 2) := by decide +kernel
theorem dd_X11_takes_22 : decode (zc mm_X11_takes) 22 = .ok (.aload_n 0, 1) := by decide +kernel
theorem dd_X11_takes_23 : decode (zc mm_X11_takes) 23 = .ok (.getfield 52, 3) := by decide +kernel
theorem dd_X11_takes_26 : decode (zc mm_X11_takes) 26 = .ok (.iload 4, 2) := by decide +kernel
theorem dd_X11_takes_28 : decode (zc mm_X11_takes) 28 = .ok (.iload_n 3, 1) := by decide +kernel
theorem dd_X11_takes_29 : decode (zc mm_X11_takes) 29 = .ok (.ifCond .ne 15, 3) := by decide +kernel
theorem dd_X11_takes_32 : decode (zc mm_X11_takes) 32 = .ok (.aload_n 0, 1) := by decide +kernel
theorem dd_X11_takes_33 : decode (zc mm_X11_takes) 33 = .ok (.iload_n 1, 1) := by decide +kernel
theorem dd_X11_takes_34 : decode (zc mm_X11_takes) 34 = .ok (.iload 5, 2) := by decide +kernel
theorem dd_X11_takes_36 : decode (zc mm_X11_takes) 36 = .ok (.iload 6, 2) := by decide +kernel
theorem dd_X11_takes_38 : decode (zc mm_X11_takes) 38 = .ok (.invokevirtual 108, 3) := by decide +kernel
theorem dd_X11_takes_41 : decode (zc mm_X11_takes) 41 = .ok (.goto 12, 3) := by decide +kernel
theorem dd_X11_takes_44 : decode (zc mm_X11_takes) 44 = .ok (.aload_n 0, 1) := by decide +kernel
theorem dd_X11_takes_45 : decode (zc mm_X11_takes) 45 = .ok (.iload_n 1, 1) := by decide +kernel
theorem dd_X11_takes_46 : decode (zc mm_X11_takes) 46 = .ok (.iload 6, 2) := by decide +kernel
theorem dd_X11_takes_48 : decode (zc mm_X11_takes) 48 = .ok (.iload 5, 2) := by decide +kernel
theorem dd_X11_takes_50 : decode (zc mm_X11_takes) 50 = .ok (.invokevirtual 108, 3) := by decide +kernel
theorem dd_X11_takes_53 : decode (zc mm_X11_takes) 53 = .ok (.iastore, 1) := by decide +kernel
theorem dd_X11_takes_54 : decode (zc mm_X11_takes) 54 = .ok (.aload_n 0, 1) := by decide +kernel
theorem dd_X11_takes_55 : decode (zc mm_X11_takes) 55 = .ok (.getfield 55, 3) := by decide +kernel
theorem dd_X11_takes_58 : decode (zc mm_X11_takes) 58 = .ok (.iload 4, 2) := by decide +kernel
theorem dd_X11_takes_60 : decode (zc mm_X11_takes) 60 = .ok (.iload_n 3, 1) := by decide +kernel
theorem dd_X11_takes_61 : decode (zc mm_X11_takes) 61 = .ok (.ifCond .ne 15, 3) := by decide +kernel
theorem dd_X11_takes_64 : decode (zc mm_X11_takes) 64 = .ok (.aload_n 0, 1) := by decide +kernel
theorem dd_X11_takes_65 : decode (zc mm_X11_takes) 65 = .ok (.iload_n 2, 1) := by decide +kernel
theorem dd_X11_takes_66 : decode (zc mm_X11_takes) 66 = .ok (.iload 5, 2) := by decide +kernel
theorem dd_X11_takes_68 : decode (zc mm_X11_takes) 68 = .ok (.iload 6, 2) := by decide +kernel
theorem dd_X11_takes_70 : decode (zc mm_X11_takes) 70 = .ok (.invokevirtual 108, 3) := by decide +kernel
theorem dd_X11_takes_73 : decode (zc mm_X11_takes) 73 = .ok (.goto 12, 3) := by decide +kernel
theorem dd_X11_takes_76 : decode (zc mm_X11_takes) 76 = .ok (.aload_n 0, 1) := by decide +kernel
theorem dd_X11_takes_77 : decode (zc mm_X11_takes) 77 = .ok (.iload_n 2, 1) := by decide +kernel
theorem dd_X11_takes_78 : decode (zc mm_X11_takes) 78 = .ok (.iload 6, 2) := by decide +kernel
theorem dd_X11_takes_80 : decode (zc mm_X11_takes) 80 = .ok (.iload 5, 2) := by decide +kernel
theorem dd_X11_takes_82 : decode (zc mm_X11_takes) 82 = .ok (.invokevirtual 108, 3) := by decide +kernel
theorem dd_X11_takes_85 : decode (zc mm_X11_takes) 85 = .ok (.iastore, 1) := by decide +kernel
theorem dd_X11_takes_86 : decode (zc mm_X11_takes) 86 = .ok (.iinc 4 1, 3) := by decide +kernel
theorem dd_X11_takes_89 : decode (zc mm_X11_takes) 89 = .ok (.goto (-86), 3) := by decide +kernel
theorem dd_X11_takes_92 : decode (zc mm_X11_takes) 92 = .ok (.aload_n 0, 1) := by decide +kernel
theorem dd_X11_takes_93 : decode (zc mm_X11_takes) 93 = .ok (.aload_n 0, 1) := by decide +kernel
theorem dd_X11_takes_94 : decode (zc mm_X11_takes) 94 = .ok (.iload_n 1, 1) := by decide +kernel
theorem dd_X11_takes_95 : decode (zc mm_X11_takes) 95 = .ok (.iload_n 3, 1) := by decide +kernel
theorem dd_X11_takes_96 : decode (zc mm_X11_takes) 96 = .ok (.invokevirtual 114, 3) := by decide +kernel
theorem dd_X11_takes_99 : decode (zc mm_X11_takes) 99 = .ok (.putfield 180, 3) := by decide +kernel
theorem dd_X11_takes_102 : decode (zc mm_X11_takes) 102 = .ok (.aload_n 0, 1) := by decide +kernel
theorem dd_X11_takes_103 : decode (zc mm_X11_takes) 103 = .ok (.aload_n 0, 1) := by decide +kernel
theorem dd_X11_takes_104 : decode (zc mm_X11_takes) 104 = .ok (.iload_n 2, 1) := by decide +kernel
theorem dd_X11_takes_105 : decode (zc mm_X11_takes) 105 = .ok (.iload_n 3, 1) := by decide +kernel
theorem dd_X11_takes_106 : decode (zc mm_X11_takes) 106 = .ok (.invokevirtual 114, 3) := by decide +kernel
theorem dd_X11_takes_109 : decode (zc mm_X11_takes) 109 = .ok (.putfield 183, 3) := by decide +kernel
theorem dd_X11_takes_112 : decode (zc mm_X11_takes) 112 = .ok (.return_, 1) := by decide +kernel
theorem dd_X11_oneAt_0 : decode (zc mm_X11_oneAt) 0 = .ok (.iload_n 1, 1) := by decide +kernel
theorem dd_X11_oneAt_1 : decode (zc mm_X11_oneAt) 1 = .ok (.iconst 0, 1) := by decide +kernel
theorem dd_X11_oneAt_2 : decode (zc mm_X11_oneAt) 2 = .ok (.aload_n 0, 1) := by decide +kernel
theorem dd_X11_oneAt_3 : decode (zc mm_X11_oneAt) 3 = .ok (.getfield 180, 3) := by decide +kernel
theorem dd_X11_oneAt_6 : decode (zc mm_X11_oneAt) 6 = .ok (.invokestatic 21, 3) := by decide +kernel
theorem dd_X11_oneAt_9 : decode (zc mm_X11_oneAt) 9 = .ok (.ifCond .eq 21, 3) := by decide +kernel
theorem dd_X11_oneAt_12 : decode (zc mm_X11_oneAt) 12 = .ok (.iload_n 2, 1) := by decide +kernel
theorem dd_X11_oneAt_13 : decode (zc mm_X11_oneAt) 13 = .ok (.iconst 5, 1) := by decide +kernel
theorem dd_X11_oneAt_14 : decode (zc mm_X11_oneAt) 14 = .ok (.if_icmp .ge 16, 3) := by decide +kernel
theorem dd_X11_oneAt_17 : decode (zc mm_X11_oneAt) 17 = .ok (.aload_n 0, 1) := by decide +kernel
theorem dd_X11_oneAt_18 : decode (zc mm_X11_oneAt) 18 = .ok (.getfield 52, 3) := by decide +kernel
theorem dd_X11_oneAt_21 : decode (zc mm_X11_oneAt) 21 = .ok (.iconst 5, 1) := by decide +kernel
theorem dd_X11_oneAt_22 : decode (zc mm_X11_oneAt) 22 = .ok (.iload_n 1, 1) := by decide +kernel
theorem dd_X11_oneAt_23 : decode (zc mm_X11_oneAt) 23 = .ok (.imul, 1) := by decide +kernel
theorem dd_X11_oneAt_24 : decode (zc mm_X11_oneAt) 24 = .ok (.iload_n 2, 1) := by decide +kernel
theorem dd_X11_oneAt_25 : decode (zc mm_X11_oneAt) 25 = .ok (.iadd, 1) := by decide +kernel
theorem dd_X11_oneAt_26 : decode (zc mm_X11_oneAt) 26 = .ok (.iaload, 1) := by decide +kernel
theorem dd_X11_oneAt_27 : decode (zc mm_X11_oneAt) 27 = .ok (.goto 4, 3) := by decide +kernel
theorem dd_X11_oneAt_30 : decode (zc mm_X11_oneAt) 30 = .ok (.iconst 0, 1) := by decide +kernel
theorem dd_X11_oneAt_31 : decode (zc mm_X11_oneAt) 31 = .ok (.ireturn, 1) := by decide +kernel
theorem dd_X11_twoAt_0 : decode (zc mm_X11_twoAt) 0 = .ok (.iload_n 1, 1) := by decide +kernel
theorem dd_X11_twoAt_1 : decode (zc mm_X11_twoAt) 1 = .ok (.iconst 0, 1) := by decide +kernel
theorem dd_X11_twoAt_2 : decode (zc mm_X11_twoAt) 2 = .ok (.aload_n 0, 1) := by decide +kernel
theorem dd_X11_twoAt_3 : decode (zc mm_X11_twoAt) 3 = .ok (.getfield 183, 3) := by decide +kernel
theorem dd_X11_twoAt_6 : decode (zc mm_X11_twoAt) 6 = .ok (.invokestatic 21, 3) := by decide +kernel
theorem dd_X11_twoAt_9 : decode (zc mm_X11_twoAt) 9 = .ok (.ifCond .eq 21, 3) := by decide +kernel
theorem dd_X11_twoAt_12 : decode (zc mm_X11_twoAt) 12 = .ok (.iload_n 2, 1) := by decide +kernel
theorem dd_X11_twoAt_13 : decode (zc mm_X11_twoAt) 13 = .ok (.iconst 5, 1) := by decide +kernel
theorem dd_X11_twoAt_14 : decode (zc mm_X11_twoAt) 14 = .ok (.if_icmp .ge 16, 3) := by decide +kernel
theorem dd_X11_twoAt_17 : decode (zc mm_X11_twoAt) 17 = .ok (.aload_n 0, 1) := by decide +kernel
theorem dd_X11_twoAt_18 : decode (zc mm_X11_twoAt) 18 = .ok (.getfield 55, 3) := by decide +kernel
theorem dd_X11_twoAt_21 : decode (zc mm_X11_twoAt) 21 = .ok (.iconst 5, 1) := by decide +kernel
theorem dd_X11_twoAt_22 : decode (zc mm_X11_twoAt) 22 = .ok (.iload_n 1, 1) := by decide +kernel
theorem dd_X11_twoAt_23 : decode (zc mm_X11_twoAt) 23 = .ok (.imul, 1) := by decide +kernel
theorem dd_X11_twoAt_24 : decode (zc mm_X11_twoAt) 24 = .ok (.iload_n 2, 1) := by decide +kernel
theorem dd_X11_twoAt_25 : decode (zc mm_X11_twoAt) 25 = .ok (.iadd, 1) := by decide +kernel
theorem dd_X11_twoAt_26 : decode (zc mm_X11_twoAt) 26 = .ok (.iaload, 1) := by decide +kernel
theorem dd_X11_twoAt_27 : decode (zc mm_X11_twoAt) 27 = .ok (.goto 4, 3) := by decide +kernel
theorem dd_X11_twoAt_30 : decode (zc mm_X11_twoAt) 30 = .ok (.iconst 0, 1) := by decide +kernel
theorem dd_X11_twoAt_31 : decode (zc mm_X11_twoAt) 31 = .ok (.ireturn, 1) := by decide +kernel
theorem dd_X11_fillsSylvester_0 : decode (zc mm_X11_fillsSylvester) 0 = .ok (.aload_n 0, 1) := by decide +kernel
theorem dd_X11_fillsSylvester_1 : decode (zc mm_X11_fillsSylvester) 1 = .ok (.aload_n 0, 1) := by decide +kernel
theorem dd_X11_fillsSylvester_2 : decode (zc mm_X11_fillsSylvester) 2 = .ok (.getfield 180, 3) := by decide +kernel
theorem dd_X11_fillsSylvester_5 : decode (zc mm_X11_fillsSylvester) 5 = .ok (.aload_n 0, 1) := by decide +kernel
theorem dd_X11_fillsSylvester_6 : decode (zc mm_X11_fillsSylvester) 6 = .ok (.getfield 183, 3) := by decide +kernel
theorem dd_X11_fillsSylvester_9 : decode (zc mm_X11_fillsSylvester) 9 = .ok (.iadd, 1) := by decide +kernel
theorem dd_X11_fillsSylvester_10 : decode (zc mm_X11_fillsSylvester) 10 = .ok (.putfield 186, 3) := by decide +kernel
theorem dd_X11_fillsSylvester_13 : decode (zc mm_X11_fillsSylvester) 13 = .ok (.iconst 0, 1) := by decide +kernel
theorem dd_X11_fillsSylvester_14 : decode (zc mm_X11_fillsSylvester) 14 = .ok (.istore_n 1, 1) := by decide +kernel
theorem dd_X11_fillsSylvester_15 : decode (zc mm_X11_fillsSylvester) 15 = .ok (.iload_n 1, 1) := by decide +kernel
theorem dd_X11_fillsSylvester_16 : decode (zc mm_X11_fillsSylvester) 16 = .ok (.aload_n 0, 1) := by decide +kernel
theorem dd_X11_fillsSylvester_17 : decode (zc mm_X11_fillsSylvester) 17 = .ok (.getfield 186, 3) := by decide +kernel
theorem dd_X11_fillsSylvester_20 : decode (zc mm_X11_fillsSylvester) 20 = .ok (.if_icmp .ge 97, 3) := by decide +kernel
theorem dd_X11_fillsSylvester_23 : decode (zc mm_X11_fillsSylvester) 23 = .ok (.iconst 0, 1) := by decide +kernel
theorem dd_X11_fillsSylvester_24 : decode (zc mm_X11_fillsSylvester) 24 = .ok (.istore_n 2, 1) := by decide +kernel
theorem dd_X11_fillsSylvester_25 : decode (zc mm_X11_fillsSylvester) 25 = .ok (.iload_n 2, 1) := by decide +kernel
theorem dd_X11_fillsSylvester_26 : decode (zc mm_X11_fillsSylvester) 26 = .ok (.aload_n 0, 1) := by decide +kernel
theorem dd_X11_fillsSylvester_27 : decode (zc mm_X11_fillsSylvester) 27 = .ok (.getfield 186, 3) := by decide +kernel
theorem dd_X11_fillsSylvester_30 : decode (zc mm_X11_fillsSylvester) 30 = .ok (.if_icmp .ge 81, 3) := by decide +kernel
theorem dd_X11_fillsSylvester_33 : decode (zc mm_X11_fillsSylvester) 33 = .ok (.iconst 0, 1) := by decide +kernel
theorem dd_X11_fillsSylvester_34 : decode (zc mm_X11_fillsSylvester) 34 = .ok (.istore_n 3, 1) := by decide +kernel
theorem dd_X11_fillsSylvester_35 : decode (zc mm_X11_fillsSylvester) 35 = .ok (.iload_n 3, 1) := by decide +kernel
theorem dd_X11_fillsSylvester_36 : decode (zc mm_X11_fillsSylvester) 36 = .ok (.bipush 9, 2) := by decide +kernel
theorem dd_X11_fillsSylvester_38 : decode (zc mm_X11_fillsSylvester) 38 = .ok (.if_icmp .ge 67, 3) := by decide +kernel
theorem dd_X11_fillsSylvester_41 : decode (zc mm_X11_fillsSylvester) 41 = .ok (.aload_n 0, 1) := by decide +kernel
theorem dd_X11_fillsSylvester_42 : decode (zc mm_X11_fillsSylvester) 42 = .ok (.getfield 58, 3) := by decide +kernel
theorem dd_X11_fillsSylvester_45 : decode (zc mm_X11_fillsSylvester) 45 = .ok (.bipush 9, 2) := by decide +kernel
theorem dd_X11_fillsSylvester_47 : decode (zc mm_X11_fillsSylvester) 47 = .ok (.bipush 8, 2) := by decide +kernel
theorem dd_X11_fillsSylvester_49 : decode (zc mm_X11_fillsSylvester) 49 = .ok (.iload_n 1, 1) := by decide +kernel
theorem dd_X11_fillsSylvester_50 : decode (zc mm_X11_fillsSylvester) 50 = .ok (.imul, 1) := by decide +kernel
theorem dd_X11_fillsSylvester_51 : decode (zc mm_X11_fillsSylvester) 51 = .ok (.iload_n 2, 1) := by decide +kernel
theorem dd_X11_fillsSylvester_52 : decode (zc mm_X11_fillsSylvester) 52 = .ok (.iadd, 1) := by decide +kernel
theorem dd_X11_fillsSylvester_53 : decode (zc mm_X11_fillsSylvester) 53 = .ok (.imul, 1) := by decide +kernel
theorem dd_X11_fillsSylvester_54 : decode (zc mm_X11_fillsSylvester) 54 = .ok (.iload_n 3, 1) := by decide +kernel
theorem dd_X11_fillsSylvester_55 : decode (zc mm_X11_fillsSylvester) 55 = .ok (.iadd, 1) := by decide +kernel
theorem dd_X11_fillsSylvester_56 : decode (zc mm_X11_fillsSylvester) 56 = .ok (.iload_n 1, 1) := by decide +kernel
theorem dd_X11_fillsSylvester_57 : decode (zc mm_X11_fillsSylvester) 57 = .ok (.aload_n 0, 1) := by decide +kernel
theorem dd_X11_fillsSylvester_58 : decode (zc mm_X11_fillsSylvester) 58 = .ok (.getfield 183, 3) := by decide +kernel
theorem dd_X11_fillsSylvester_61 : decode (zc mm_X11_fillsSylvester) 61 = .ok (.if_icmp .ge 19, 3) := by decide +kernel
theorem dd_X11_fillsSylvester_64 : decode (zc mm_X11_fillsSylvester) 64 = .ok (.aload_n 0, 1) := by decide +kernel
theorem dd_X11_fillsSylvester_65 : decode (zc mm_X11_fillsSylvester) 65 = .ok (.aload_n 0, 1) := by decide +kernel
theorem dd_X11_fillsSylvester_66 : decode (zc mm_X11_fillsSylvester) 66 = .ok (.getfield 180, 3) := by decide +kernel
theorem dd_X11_fillsSylvester_69 : decode (zc mm_X11_fillsSylvester) 69 = .ok (.iload_n 1, 1) := by decide +kernel
theorem dd_X11_fillsSylvester_70 : decode (zc mm_X11_fillsSylvester) 70 = .ok (.iadd, 1) := by decide +kernel
theorem dd_X11_fillsSylvester_71 : decode (zc mm_X11_fillsSylvester) 71 = .ok (.iload_n 2, 1) := by decide +kernel
theorem dd_X11_fillsSylvester_72 : decode (zc mm_X11_fillsSylvester) 72 = .ok (.isub, 1) := by decide +kernel
theorem dd_X11_fillsSylvester_73 : decode (zc mm_X11_fillsSylvester) 73 = .ok (.iload_n 3, 1) := by decide +kernel
theorem dd_X11_fillsSylvester_74 : decode (zc mm_X11_fillsSylvester) 74 = .ok (.invokevirtual 189, 3) := by decide +kernel
theorem dd_X11_fillsSylvester_77 : decode (zc mm_X11_fillsSylvester) 77 = .ok (.goto 21, 3) := by decide +kernel
theorem dd_X11_fillsSylvester_80 : decode (zc mm_X11_fillsSylvester) 80 = .ok (.aload_n 0, 1) := by decide +kernel
theorem dd_X11_fillsSylvester_81 : decode (zc mm_X11_fillsSylvester) 81 = .ok (.aload_n 0, 1) := by decide +kernel
theorem dd_X11_fillsSylvester_82 : decode (zc mm_X11_fillsSylvester) 82 = .ok (.getfield 183, 3) := by decide +kernel
theorem dd_X11_fillsSylvester_85 : decode (zc mm_X11_fillsSylvester) 85 = .ok (.iload_n 1, 1) := by decide +kernel
theorem dd_X11_fillsSylvester_86 : decode (zc mm_X11_fillsSylvester) 86 = .ok (.iadd, 1) := by decide +kernel
theorem dd_X11_fillsSylvester_87 : decode (zc mm_X11_fillsSylvester) 87 = .ok (.aload_n 0, 1) := by decide +kernel
theorem dd_X11_fillsSylvester_88 : decode (zc mm_X11_fillsSylvester) 88 = .ok (.getfield 183, 3) := by decide +kernel
theorem dd_X11_fillsSylvester_91 : decode (zc mm_X11_fillsSylvester) 91 = .ok (.isub, 1) := by decide +kernel
theorem dd_X11_fillsSylvester_92 : decode (zc mm_X11_fillsSylvester) 92 = .ok (.iload_n 2, 1) := by decide +kernel
theorem dd_X11_fillsSylvester_93 : decode (zc mm_X11_fillsSylvester) 93 = .ok (.isub, 1) := by decide +kernel
theorem dd_X11_fillsSylvester_94 : decode (zc mm_X11_fillsSylvester) 94 = .ok (.iload_n 3, 1) := by decide +kernel
theorem dd_X11_fillsSylvester_95 : decode (zc mm_X11_fillsSylvester) 95 = .ok (.invokevirtual 192, 3) := by decide +kernel
theorem dd_X11_fillsSylvester_98 : decode (zc mm_X11_fillsSylvester) 98 = .ok (.iastore, 1) := by decide +kernel
theorem dd_X11_fillsSylvester_99 : decode (zc mm_X11_fillsSylvester) 99 = .ok (.iinc 3 1, 3) := by decide +kernel
theorem dd_X11_fillsSylvester_102 : decode (zc mm_X11_fillsSylvester) 102 = .ok (.goto (-67), 3) := by decide +kernel
theorem dd_X11_fillsSylvester_105 : decode (zc mm_X11_fillsSylvester) 105 = .ok (.iinc 2 1, 3) := by decide +kernel
theorem dd_X11_fillsSylvester_108 : decode (zc mm_X11_fillsSylvester) 108 = .ok (.goto (-83), 3) := by decide +kernel
theorem dd_X11_fillsSylvester_111 : decode (zc mm_X11_fillsSylvester) 111 = .ok (.iinc 1 1, 3) := by decide +kernel
theorem dd_X11_fillsSylvester_114 : decode (zc mm_X11_fillsSylvester) 114 = .ok (.goto (-99), 3) := by decide +kernel
theorem dd_X11_fillsSylvester_117 : decode (zc mm_X11_fillsSylvester) 117 = .ok (.return_, 1) := by decide +kernel
theorem dd_X11_productAt_0 : decode (zc mm_X11_productAt) 0 = .ok (.iconst 0, 1) := by decide +kernel
theorem dd_X11_productAt_1 : decode (zc mm_X11_productAt) 1 = .ok (.istore 4, 2) := by decide +kernel
theorem dd_X11_productAt_3 : decode (zc mm_X11_productAt) 3 = .ok (.iconst 0, 1) := by decide +kernel
theorem dd_X11_productAt_4 : decode (zc mm_X11_productAt) 4 = .ok (.istore 5, 2) := by decide +kernel
theorem dd_X11_productAt_6 : decode (zc mm_X11_productAt) 6 = .ok (.iload 5, 2) := by decide +kernel
theorem dd_X11_productAt_8 : decode (zc mm_X11_productAt) 8 = .ok (.iload_n 3, 1) := by decide +kernel
theorem dd_X11_productAt_9 : decode (zc mm_X11_productAt) 9 = .ok (.if_icmp .gt 36, 3) := by decide +kernel
theorem dd_X11_productAt_12 : decode (zc mm_X11_productAt) 12 = .ok (.iload 4, 2) := by decide +kernel
theorem dd_X11_productAt_14 : decode (zc mm_X11_productAt) 14 = .ok (.aload_n 0, 1) := by decide +kernel
theorem dd_X11_productAt_15 : decode (zc mm_X11_productAt) 15 = .ok (.iload_n 1, 1) := by decide +kernel
theorem dd_X11_productAt_16 : decode (zc mm_X11_productAt) 16 = .ok (.iload 5, 2) := by decide +kernel
theorem dd_X11_productAt_18 : decode (zc mm_X11_productAt) 18 = .ok (.invokevirtual 189, 3) := by decide +kernel
theorem dd_X11_productAt_21 : decode (zc mm_X11_productAt) 21 = .ok (.aload_n 0, 1) := by decide +kernel
theorem dd_X11_productAt_22 : decode (zc mm_X11_productAt) 22 = .ok (.iload_n 2, 1) := by decide +kernel
theorem dd_X11_productAt_23 : decode (zc mm_X11_productAt) 23 = .ok (.iload_n 3, 1) := by decide +kernel
theorem dd_X11_productAt_24 : decode (zc mm_X11_productAt) 24 = .ok (.iload 5, 2) := by decide +kernel
theorem dd_X11_productAt_26 : decode (zc mm_X11_productAt) 26 = .ok (.isub, 1) := by decide +kernel
theorem dd_X11_productAt_27 : decode (zc mm_X11_productAt) 27 = .ok (.invokevirtual 192, 3) := by decide +kernel
theorem dd_X11_productAt_30 : decode (zc mm_X11_productAt) 30 = .ok (.imul, 1) := by decide +kernel
theorem dd_X11_productAt_31 : decode (zc mm_X11_productAt) 31 = .ok (.iadd, 1) := by decide +kernel
theorem dd_X11_productAt_32 : decode (zc mm_X11_productAt) 32 = .ok (.aload_n 0, 1) := by decide +kernel
theorem dd_X11_productAt_33 : decode (zc mm_X11_productAt) 33 = .ok (.getfield 9, 3) := by decide +kernel
theorem dd_X11_productAt_36 : decode (zc mm_X11_productAt) 36 = .ok (.irem, 1) := by decide +kernel
theorem dd_X11_productAt_37 : decode (zc mm_X11_productAt) 37 = .ok (.istore 4, 2) := by decide +kernel
theorem dd_X11_productAt_39 : decode (zc mm_X11_productAt) 39 = .ok (.iinc 5 1, 3) := by decide +kernel
theorem dd_X11_productAt_42 : decode (zc mm_X11_productAt) 42 = .ok (.goto (-36), 3) := by decide +kernel
theorem dd_X11_productAt_45 : decode (zc mm_X11_productAt) 45 = .ok (.iload 4, 2) := by decide +kernel
theorem dd_X11_productAt_47 : decode (zc mm_X11_productAt) 47 = .ok (.ireturn, 1) := by decide +kernel
theorem dd_X11_bezoutAt_0 : decode (zc mm_X11_bezoutAt) 0 = .ok (.iconst 0, 1) := by decide +kernel
theorem dd_X11_bezoutAt_1 : decode (zc mm_X11_bezoutAt) 1 = .ok (.istore 4, 2) := by decide +kernel
theorem dd_X11_bezoutAt_3 : decode (zc mm_X11_bezoutAt) 3 = .ok (.iconst 0, 1) := by decide +kernel
theorem dd_X11_bezoutAt_4 : decode (zc mm_X11_bezoutAt) 4 = .ok (.istore 5, 2) := by decide +kernel
theorem dd_X11_bezoutAt_6 : decode (zc mm_X11_bezoutAt) 6 = .ok (.iload 5, 2) := by decide +kernel
theorem dd_X11_bezoutAt_8 : decode (zc mm_X11_bezoutAt) 8 = .ok (.iload_n 1, 1) := by decide +kernel
theorem dd_X11_bezoutAt_9 : decode (zc mm_X11_bezoutAt) 9 = .ok (.if_icmp .gt 62, 3) := by decide +kernel
theorem dd_X11_bezoutAt_12 : decode (zc mm_X11_bezoutAt) 12 = .ok (.iload 5, 2) := by decide +kernel
theorem dd_X11_bezoutAt_14 : decode (zc mm_X11_bezoutAt) 14 = .ok (.aload_n 0, 1) := by decide +kernel
theorem dd_X11_bezoutAt_15 : decode (zc mm_X11_bezoutAt) 15 = .ok (.getfield 186, 3) := by decide +kernel
theorem dd_X11_bezoutAt_18 : decode (zc mm_X11_bezoutAt) 18 = .ok (.iconst 1, 1) := by decide +kernel
theorem dd_X11_bezoutAt_19 : decode (zc mm_X11_bezoutAt) 19 = .ok (.isub, 1) := by decide +kernel
theorem dd_X11_bezoutAt_20 : decode (zc mm_X11_bezoutAt) 20 = .ok (.iload_n 2, 1) := by decide +kernel
theorem dd_X11_bezoutAt_21 : decode (zc mm_X11_bezoutAt) 21 = .ok (.isub, 1) := by decide +kernel
theorem dd_X11_bezoutAt_22 : decode (zc mm_X11_bezoutAt) 22 = .ok (.if_icmp .gt 49, 3) := by decide +kernel
theorem dd_X11_bezoutAt_25 : decode (zc mm_X11_bezoutAt) 25 = .ok (.aload_n 0, 1) := by decide +kernel
theorem dd_X11_bezoutAt_26 : decode (zc mm_X11_bezoutAt) 26 = .ok (.iload 4, 2) := by decide +kernel
theorem dd_X11_bezoutAt_28 : decode (zc mm_X11_bezoutAt) 28 = .ok (.aload_n 0, 1) := by decide +kernel
theorem dd_X11_bezoutAt_29 : decode (zc mm_X11_bezoutAt) 29 = .ok (.iload_n 2, 1) := by decide +kernel
theorem dd_X11_bezoutAt_30 : decode (zc mm_X11_bezoutAt) 30 = .ok (.iload 5, 2) := by decide +kernel
theorem dd_X11_bezoutAt_32 : decode (zc mm_X11_bezoutAt) 32 = .ok (.iadd, 1) := by decide +kernel
theorem dd_X11_bezoutAt_33 : decode (zc mm_X11_bezoutAt) 33 = .ok (.iconst 1, 1) := by decide +kernel
theorem dd_X11_bezoutAt_34 : decode (zc mm_X11_bezoutAt) 34 = .ok (.iadd, 1) := by decide +kernel
theorem dd_X11_bezoutAt_35 : decode (zc mm_X11_bezoutAt) 35 = .ok (.iload_n 1, 1) := by decide +kernel
theorem dd_X11_bezoutAt_36 : decode (zc mm_X11_bezoutAt) 36 = .ok (.iload 5, 2) := by decide +kernel
theorem dd_X11_bezoutAt_38 : decode (zc mm_X11_bezoutAt) 38 = .ok (.isub, 1) := by decide +kernel
theorem dd_X11_bezoutAt_39 : decode (zc mm_X11_bezoutAt) 39 = .ok (.iload_n 3, 1) := by decide +kernel
theorem dd_X11_bezoutAt_40 : decode (zc mm_X11_bezoutAt) 40 = .ok (.invokevirtual 195, 3) := by decide +kernel
theorem dd_X11_bezoutAt_43 : decode (zc mm_X11_bezoutAt) 43 = .ok (.iadd, 1) := by decide +kernel
theorem dd_X11_bezoutAt_44 : decode (zc mm_X11_bezoutAt) 44 = .ok (.aload_n 0, 1) := by decide +kernel
theorem dd_X11_bezoutAt_45 : decode (zc mm_X11_bezoutAt) 45 = .ok (.iload_n 1, 1) := by decide +kernel
theorem dd_X11_bezoutAt_46 : decode (zc mm_X11_bezoutAt) 46 = .ok (.iload 5, 2) := by decide +kernel
theorem dd_X11_bezoutAt_48 : decode (zc mm_X11_bezoutAt) 48 = .ok (.isub, 1) := by decide +kernel
theorem dd_X11_bezoutAt_49 : decode (zc mm_X11_bezoutAt) 49 = .ok (.iload_n 2, 1) := by decide +kernel
theorem dd_X11_bezoutAt_50 : decode (zc mm_X11_bezoutAt) 50 = .ok (.iload 5, 2) := by decide +kernel
theorem dd_X11_bezoutAt_52 : decode (zc mm_X11_bezoutAt) 52 = .ok (.iadd, 1) := by decide +kernel
theorem dd_X11_bezoutAt_53 : decode (zc mm_X11_bezoutAt) 53 = .ok (.iconst 1, 1) := by decide +kernel
theorem dd_X11_bezoutAt_54 : decode (zc mm_X11_bezoutAt) 54 = .ok (.iadd, 1) := by decide +kernel
theorem dd_X11_bezoutAt_55 : decode (zc mm_X11_bezoutAt) 55 = .ok (.iload_n 3, 1) := by decide +kernel
theorem dd_X11_bezoutAt_56 : decode (zc mm_X11_bezoutAt) 56 = .ok (.invokevirtual 195, 3) := by decide +kernel
theorem dd_X11_bezoutAt_59 : decode (zc mm_X11_bezoutAt) 59 = .ok (.isub, 1) := by decide +kernel
theorem dd_X11_bezoutAt_60 : decode (zc mm_X11_bezoutAt) 60 = .ok (.invokevirtual 13, 3) := by decide +kernel
theorem dd_X11_bezoutAt_63 : decode (zc mm_X11_bezoutAt) 63 = .ok (.istore 4, 2) := by decide +kernel
theorem dd_X11_bezoutAt_65 : decode (zc mm_X11_bezoutAt) 65 = .ok (.iinc 5 1, 3) := by decide +kernel
theorem dd_X11_bezoutAt_68 : decode (zc mm_X11_bezoutAt) 68 = .ok (.goto (-62), 3) := by decide +kernel
theorem dd_X11_bezoutAt_71 : decode (zc mm_X11_bezoutAt) 71 = .ok (.iload 4, 2) := by decide +kernel
theorem dd_X11_bezoutAt_73 : decode (zc mm_X11_bezoutAt) 73 = .ok (.ireturn, 1) := by decide +kernel
theorem dd_X11_fillsBezout_0 : decode (zc mm_X11_fillsBezout) 0 = .ok (.aload_n 0, 1) := by decide +kernel
theorem dd_X11_fillsBezout_1 : decode (zc mm_X11_fillsBezout) 1 = .ok (.aload_n 0, 1) := by decide +kernel
theorem dd_X11_fillsBezout_2 : decode (zc mm_X11_fillsBezout) 2 = .ok (.getfield 180, 3) := by decide +kernel
theorem dd_X11_fillsBezout_5 : decode (zc mm_X11_fillsBezout) 5 = .ok (.aload_n 0, 1) := by decide +kernel
theorem dd_X11_fillsBezout_6 : decode (zc mm_X11_fillsBezout) 6 = .ok (.getfield 183, 3) := by decide +kernel
theorem dd_X11_fillsBezout_9 : decode (zc mm_X11_fillsBezout) 9 = .ok (.if_icmp .le 10, 3) := by decide +kernel
theorem dd_X11_fillsBezout_12 : decode (zc mm_X11_fillsBezout) 12 = .ok (.aload_n 0, 1) := by decide +kernel
theorem dd_X11_fillsBezout_13 : decode (zc mm_X11_fillsBezout) 13 = .ok (.getfield 180, 3) := by decide +kernel
theorem dd_X11_fillsBezout_16 : decode (zc mm_X11_fillsBezout) 16 = .ok (.goto 7, 3) := by decide +kernel
theorem dd_X11_fillsBezout_19 : decode (zc mm_X11_fillsBezout) 19 = .ok (.aload_n 0, 1) := by decide +kernel
theorem dd_X11_fillsBezout_20 : decode (zc mm_X11_fillsBezout) 20 = .ok (.getfield 183, 3) := by decide +kernel
theorem dd_X11_fillsBezout_23 : decode (zc mm_X11_fillsBezout) 23 = .ok (.putfield 186, 3) := by decide +kernel
theorem dd_X11_fillsBezout_26 : decode (zc mm_X11_fillsBezout) 26 = .ok (.iconst 0, 1) := by decide +kernel
theorem dd_X11_fillsBezout_27 : decode (zc mm_X11_fillsBezout) 27 = .ok (.istore_n 1, 1) := by decide +kernel
theorem dd_X11_fillsBezout_28 : decode (zc mm_X11_fillsBezout) 28 = .ok (.iload_n 1, 1) := by decide +kernel
theorem dd_X11_fillsBezout_29 : decode (zc mm_X11_fillsBezout) 29 = .ok (.aload_n 0, 1) := by decide +kernel
theorem dd_X11_fillsBezout_30 : decode (zc mm_X11_fillsBezout) 30 = .ok (.getfield 186, 3) := by decide +kernel
theorem dd_X11_fillsBezout_33 : decode (zc mm_X11_fillsBezout) 33 = .ok (.if_icmp .ge 62, 3) := by decide +kernel
theorem dd_X11_fillsBezout_36 : decode (zc mm_X11_fillsBezout) 36 = .ok (.iconst 0, 1) := by decide +kernel
theorem dd_X11_fillsBezout_37 : decode (zc mm_X11_fillsBezout) 37 = .ok (.istore_n 2, 1) := by decide +kernel
theorem dd_X11_fillsBezout_38 : decode (zc mm_X11_fillsBezout) 38 = .ok (.iload_n 2, 1) := by decide +kernel
theorem dd_X11_fillsBezout_39 : decode (zc mm_X11_fillsBezout) 39 = .ok (.aload_n 0, 1) := by decide +kernel
theorem dd_X11_fillsBezout_40 : decode (zc mm_X11_fillsBezout) 40 = .ok (.getfield 186, 3) := by decide +kernel
theorem dd_X11_fillsBezout_43 : decode (zc mm_X11_fillsBezout) 43 = .ok (.if_icmp .ge 46, 3) := by decide +kernel
theorem dd_X11_fillsBezout_46 : decode (zc mm_X11_fillsBezout) 46 = .ok (.iconst 0, 1) := by decide +kernel
theorem dd_X11_fillsBezout_47 : decode (zc mm_X11_fillsBezout) 47 = .ok (.istore_n 3, 1) := by decide +kernel
theorem dd_X11_fillsBezout_48 : decode (zc mm_X11_fillsBezout) 48 = .ok (.iload_n 3, 1) := by decide +kernel
theorem dd_X11_fillsBezout_49 : decode (zc mm_X11_fillsBezout) 49 = .ok (.bipush 9, 2) := by decide +kernel
theorem dd_X11_fillsBezout_51 : decode (zc mm_X11_fillsBezout) 51 = .ok (.if_icmp .ge 32, 3) := by decide +kernel
theorem dd_X11_fillsBezout_54 : decode (zc mm_X11_fillsBezout) 54 = .ok (.aload_n 0, 1) := by decide +kernel
theorem dd_X11_fillsBezout_55 : decode (zc mm_X11_fillsBezout) 55 = .ok (.getfield 58, 3) := by decide +kernel
theorem dd_X11_fillsBezout_58 : decode (zc mm_X11_fillsBezout) 58 = .ok (.bipush 9, 2) := by decide +kernel
theorem dd_X11_fillsBezout_60 : decode (zc mm_X11_fillsBezout) 60 = .ok (.bipush 8, 2) := by decide +kernel
theorem dd_X11_fillsBezout_62 : decode (zc mm_X11_fillsBezout) 62 = .ok (.iload_n 1, 1) := by decide +kernel
theorem dd_X11_fillsBezout_63 : decode (zc mm_X11_fillsBezout) 63 = .ok (.imul, 1) := by decide +kernel
theorem dd_X11_fillsBezout_64 : decode (zc mm_X11_fillsBezout) 64 = .ok (.iload_n 2, 1) := by decide +kernel
theorem dd_X11_fillsBezout_65 : decode (zc mm_X11_fillsBezout) 65 = .ok (.iadd, 1) := by decide +kernel
theorem dd_X11_fillsBezout_66 : decode (zc mm_X11_fillsBezout) 66 = .ok (.imul, 1) := by decide +kernel
theorem dd_X11_fillsBezout_67 : decode (zc mm_X11_fillsBezout) 67 = .ok (.iload_n 3, 1) := by decide +kernel
theorem dd_X11_fillsBezout_68 : decode (zc mm_X11_fillsBezout) 68 = .ok (.iadd, 1) := by decide +kernel
theorem dd_X11_fillsBezout_69 : decode (zc mm_X11_fillsBezout) 69 = .ok (.aload_n 0, 1) := by decide +kernel
theorem dd_X11_fillsBezout_70 : decode (zc mm_X11_fillsBezout) 70 = .ok (.iload_n 1, 1) := by decide +kernel
theorem dd_X11_fillsBezout_71 : decode (zc mm_X11_fillsBezout) 71 = .ok (.iload_n 2, 1) := by decide +kernel
theorem dd_X11_fillsBezout_72 : decode (zc mm_X11_fillsBezout) 72 = .ok (.iload_n 3, 1) := by decide +kernel
theorem dd_X11_fillsBezout_73 : decode (zc mm_X11_fillsBezout) 73 = .ok (.invokevirtual 198, 3) := by decide +kernel
theorem dd_X11_fillsBezout_76 : decode (zc mm_X11_fillsBezout) 76 = .ok (.iastore, 1) := by decide +kernel
theorem dd_X11_fillsBezout_77 : decode (zc mm_X11_fillsBezout) 77 = .ok (.iinc 3 1, 3) := by decide +kernel
theorem dd_X11_fillsBezout_80 : decode (zc mm_X11_fillsBezout) 80 = .ok (.goto (-32), 3) := by decide +kernel
theorem dd_X11_fillsBezout_83 : decode (zc mm_X11_fillsBezout) 83 = .ok (.iinc 2 1, 3) := by decide +kernel
theorem dd_X11_fillsBezout_86 : decode (zc mm_X11_fillsBezout) 86 = .ok (.goto (-48), 3) := by decide +kernel
theorem dd_X11_fillsBezout_89 : decode (zc mm_X11_fillsBezout) 89 = .ok (.iinc 1 1, 3) := by decide +kernel
theorem dd_X11_fillsBezout_92 : decode (zc mm_X11_fillsBezout) 92 = .ok (.goto (-64), 3) := by decide +kernel
theorem dd_X11_fillsBezout_95 : decode (zc mm_X11_fillsBezout) 95 = .ok (.return_, 1) := by decide +kernel
theorem dd_X11_fills_0 : decode (zc mm_X11_fills) 0 = .ok (.aload_n 0, 1) := by decide +kernel
theorem dd_X11_fills_1 : decode (zc mm_X11_fills) 1 = .ok (.iload_n 1, 1) := by decide +kernel
theorem dd_X11_fills_2 : decode (zc mm_X11_fills) 2 = .ok (.iload_n 2, 1) := by decide +kernel
theorem dd_X11_fills_3 : decode (zc mm_X11_fills) 3 = .ok (.iload_n 3, 1) := by decide +kernel
theorem dd_X11_fills_4 : decode (zc mm_X11_fills) 4 = .ok (.invokevirtual 201, 3) := by decide +kernel
theorem dd_X11_fills_7 : decode (zc mm_X11_fills) 7 = .ok (.iload 4, 2) := by decide +kernel
theorem dd_X11_fills_9 : decode (zc mm_X11_fills) 9 = .ok (.ifCond .ne 10, 3) := by decide +kernel
theorem dd_X11_fills_12 : decode (zc mm_X11_fills) 12 = .ok (.aload_n 0, 1) := by decide +kernel
theorem dd_X11_fills_13 : decode (zc mm_X11_fills) 13 = .ok (.invokevirtual 205, 3) := by decide +kernel
theorem dd_X11_fills_16 : decode (zc mm_X11_fills) 16 = .ok (.goto 7, 3) := by decide +kernel
theorem dd_X11_fills_19 : decode (zc mm_X11_fills) 19 = .ok (.aload_n 0, 1) := by decide +kernel
theorem dd_X11_fills_20 : decode (zc mm_X11_fills) 20 = .ok (.invokevirtual 208, 3) := by decide +kernel
theorem dd_X11_fills_23 : decode (zc mm_X11_fills) 23 = .ok (.return_, 1) := by decide +kernel
theorem dd_X11_bits_0 : decode (zc mm_X11_bits) 0 = .ok (.iconst 0, 1) := by decide +kernel
theorem dd_X11_bits_1 : decode (zc mm_X11_bits) 1 = .ok (.istore_n 1, 1) := by decide +kernel
theorem dd_X11_bits_2 : decode (zc mm_X11_bits) 2 = .ok (.iconst 0, 1) := by decide +kernel
theorem dd_X11_bits_3 : decode (zc mm_X11_bits) 3 = .ok (.istore_n 2, 1) := by decide +kernel
theorem dd_X11_bits_4 : decode (zc mm_X11_bits) 4 = .ok (.iload_n 2, 1) := by decide +kernel
theorem dd_X11_bits_5 : decode (zc mm_X11_bits) 5 = .ok (.bipush 8, 2) := by decide +kernel
theorem dd_X11_bits_7 : decode (zc mm_X11_bits) 7 = .ok (.if_icmp .ge 17, 3) := by decide +kernel
theorem dd_X11_bits_10 : decode (zc mm_X11_bits) 10 = .ok (.iload_n 1, 1) := by decide +kernel
theorem dd_X11_bits_11 : decode (zc mm_X11_bits) 11 = .ok (.iload_n 0, 1) := by decide +kernel
theorem dd_X11_bits_12 : decode (zc mm_X11_bits) 12 = .ok (.iload_n 2, 1) := by decide +kernel
theorem dd_X11_bits_13 : decode (zc mm_X11_bits) 13 = .ok (.ishr, 1) := by decide +kernel
theorem dd_X11_bits_14 : decode (zc mm_X11_bits) 14 = .ok (.iconst 1, 1) := by decide +kernel
theorem dd_X11_bits_15 : decode (zc mm_X11_bits) 15 = .ok (.iand, 1) := by decide +kernel
theorem dd_X11_bits_16 : decode (zc mm_X11_bits) 16 = .ok (.iadd, 1) := by decide +kernel
theorem dd_X11_bits_17 : decode (zc mm_X11_bits) 17 = .ok (.istore_n 1, 1) := by decide +kernel
theorem dd_X11_bits_18 : decode (zc mm_X11_bits) 18 = .ok (.iinc 2 1, 3) := by decide +kernel
theorem dd_X11_bits_21 : decode (zc mm_X11_bits) 21 = .ok (.goto (-17), 3) := by decide +kernel
theorem dd_X11_bits_24 : decode (zc mm_X11_bits) 24 = .ok (.iload_n 1, 1) := by decide +kernel
theorem dd_X11_bits_25 : decode (zc mm_X11_bits) 25 = .ok (.ireturn, 1) := by decide +kernel
theorem dd_X11_addsColumn_0 : decode (zc mm_X11_addsColumn) 0 = .ok (.iload_n 1, 1) := by decide +kernel
theorem dd_X11_addsColumn_1 : decode (zc mm_X11_addsColumn) 1 = .ok (.invokestatic 211, 3) := by decide +kernel
theorem dd_X11_addsColumn_4 : decode (zc mm_X11_addsColumn) 4 = .ok (.iconst 1, 1) := by decide +kernel
theorem dd_X11_addsColumn_5 : decode (zc mm_X11_addsColumn) 5 = .ok (.isub, 1) := by decide +kernel
theorem dd_X11_addsColumn_6 : decode (zc mm_X11_addsColumn) 6 = .ok (.istore_n 3, 1) := by decide +kernel
theorem dd_X11_addsColumn_7 : decode (zc mm_X11_addsColumn) 7 = .ok (.bipush 41, 2) := by decide +kernel
theorem dd_X11_addsColumn_9 : decode (zc mm_X11_addsColumn) 9 = .ok (.iload_n 1, 1) := by decide +kernel
theorem dd_X11_addsColumn_10 : decode (zc mm_X11_addsColumn) 10 = .ok (.iconst 1, 1) := by decide +kernel
theorem dd_X11_addsColumn_11 : decode (zc mm_X11_addsColumn) 11 = .ok (.iload_n 2, 1) := by decide +kernel
theorem dd_X11_addsColumn_12 : decode (zc mm_X11_addsColumn) 12 = .ok (.ishl, 1) := by decide +kernel
theorem dd_X11_addsColumn_13 : decode (zc mm_X11_addsColumn) 13 = .ok (.iconst (-1), 1) := by decide +kernel
theorem dd_X11_addsColumn_14 : decode (zc mm_X11_addsColumn) 14 = .ok (.ixor, 1) := by decide +kernel
theorem dd_X11_addsColumn_15 : decode (zc mm_X11_addsColumn) 15 = .ok (.iand, 1) := by decide +kernel
theorem dd_X11_addsColumn_16 : decode (zc mm_X11_addsColumn) 16 = .ok (.imul, 1) := by decide +kernel
theorem dd_X11_addsColumn_17 : decode (zc mm_X11_addsColumn) 17 = .ok (.istore 4, 2) := by decide +kernel
theorem dd_X11_addsColumn_19 : decode (zc mm_X11_addsColumn) 19 = .ok (.iload_n 1, 1) := by decide +kernel
theorem dd_X11_addsColumn_20 : decode (zc mm_X11_addsColumn) 20 = .ok (.iload_n 2, 1) := by decide +kernel
theorem dd_X11_addsColumn_21 : decode (zc mm_X11_addsColumn) 21 = .ok (.iconst 1, 1) := by decide +kernel
theorem dd_X11_addsColumn_22 : decode (zc mm_X11_addsColumn) 22 = .ok (.iadd, 1) := by decide +kernel
theorem dd_X11_addsColumn_23 : decode (zc mm_X11_addsColumn) 23 = .ok (.ishr, 1) := by decide +kernel
theorem dd_X11_addsColumn_24 : decode (zc mm_X11_addsColumn) 24 = .ok (.invokestatic 211, 3) := by decide +kernel
theorem dd_X11_addsColumn_27 : decode (zc mm_X11_addsColumn) 27 = .ok (.iconst 2, 1) := by decide +kernel
theorem dd_X11_addsColumn_28 : decode (zc mm_X11_addsColumn) 28 = .ok (.irem, 1) := by decide +kernel
theorem dd_X11_addsColumn_29 : decode (zc mm_X11_addsColumn) 29 = .ok (.iconst 1, 1) := by decide +kernel
theorem dd_X11_addsColumn_30 : decode (zc mm_X11_addsColumn) 30 = .ok (.if_icmp .ne 7, 3) := by decide +kernel
theorem dd_X11_addsColumn_33 : decode (zc mm_X11_addsColumn) 33 = .ok (.iconst 1, 1) := by decide +kernel
theorem dd_X11_addsColumn_34 : decode (zc mm_X11_addsColumn) 34 = .ok (.goto 4, 3) := by decide +kernel
theorem dd_X11_addsColumn_37 : decode (zc mm_X11_addsColumn) 37 = .ok (.iconst 0, 1) := by decide +kernel
theorem dd_X11_addsColumn_38 : decode (zc mm_X11_addsColumn) 38 = .ok (.istore 5, 2) := by decide +kernel
theorem dd_X11_addsColumn_40 : decode (zc mm_X11_addsColumn) 40 = .ok (.iconst 0, 1) := by decide +kernel
theorem dd_X11_addsColumn_41 : decode (zc mm_X11_addsColumn) 41 = .ok (.istore 6, 2) := by decide +kernel
theorem dd_X11_addsColumn_43 : decode (zc mm_X11_addsColumn) 43 = .ok (.iload 6, 2) := by decide +kernel
theorem dd_X11_addsColumn_45 : decode (zc mm_X11_addsColumn) 45 = .ok (.bipush 9, 2) := by decide +kernel
theorem dd_X11_addsColumn_47 : decode (zc mm_X11_addsColumn) 47 = .ok (.if_icmp .ge 118, 3) := by decide +kernel
theorem dd_X11_addsColumn_50 : decode (zc mm_X11_addsColumn) 50 = .ok (.aload_n 0, 1) := by decide +kernel
theorem dd_X11_addsColumn_51 : decode (zc mm_X11_addsColumn) 51 = .ok (.getfield 58, 3) := by decide +kernel
theorem dd_X11_addsColumn_54 : decode (zc mm_X11_addsColumn) 54 = .ok (.bipush 9, 2) := by decide +kernel
theorem dd_X11_addsColumn_56 : decode (zc mm_X11_addsColumn) 56 = .ok (.bipush 8, 2) := by decide +kernel
theorem dd_X11_addsColumn_58 : decode (zc mm_X11_addsColumn) 58 = .ok (.iload_n 3, 1) := by decide +kernel
theorem dd_X11_addsColumn_59 : decode (zc mm_X11_addsColumn) 59 = .ok (.imul, 1) := by decide +kernel
theorem dd_X11_addsColumn_60 : decode (zc mm_X11_addsColumn) 60 = .ok (.iload_n 2, 1) := by decide +kernel
theorem dd_X11_addsColumn_61 : decode (zc mm_X11_addsColumn) 61 = .ok (.iadd, 1) := by decide +kernel
theorem dd_X11_addsColumn_62 : decode (zc mm_X11_addsColumn) 62 = .ok (.imul, 1) := by decide +kernel
theorem dd_X11_addsColumn_63 : decode (zc mm_X11_addsColumn) 63 = .ok (.iload 6, 2) := by decide +kernel
theorem dd_X11_addsColumn_65 : decode (zc mm_X11_addsColumn) 65 = .ok (.iadd, 1) := by decide +kernel
theorem dd_X11_addsColumn_66 : decode (zc mm_X11_addsColumn) 66 = .ok (.iaload, 1) := by decide +kernel
theorem dd_X11_addsColumn_67 : decode (zc mm_X11_addsColumn) 67 = .ok (.istore 7, 2) := by decide +kernel
theorem dd_X11_addsColumn_69 : decode (zc mm_X11_addsColumn) 69 = .ok (.iload 7, 2) := by decide +kernel
theorem dd_X11_addsColumn_71 : decode (zc mm_X11_addsColumn) 71 = .ok (.ifCond .ne 6, 3) := by decide +kernel
theorem dd_X11_addsColumn_74 : decode (zc mm_X11_addsColumn) 74 = .ok (.goto 85, 3) := by decide +kernel
theorem dd_X11_addsColumn_77 : decode (zc mm_X11_addsColumn) 77 = .ok (.iconst 0, 1) := by decide +kernel
theorem dd_X11_addsColumn_78 : decode (zc mm_X11_addsColumn) 78 = .ok (.istore 8, 2) := by decide +kernel
theorem dd_X11_addsColumn_80 : decode (zc mm_X11_addsColumn) 80 = .ok (.iload 8, 2) := by decide +kernel
theorem dd_X11_addsColumn_82 : decode (zc mm_X11_addsColumn) 82 = .ok (.iload 6, 2) := by decide +kernel
theorem dd_X11_addsColumn_84 : decode (zc mm_X11_addsColumn) 84 = .ok (.iadd, 1) := by decide +kernel
theorem dd_X11_addsColumn_85 : decode (zc mm_X11_addsColumn) 85 = .ok (.bipush 41, 2) := by decide +kernel
theorem dd_X11_addsColumn_87 : decode (zc mm_X11_addsColumn) 87 = .ok (.if_icmp .ge 72, 3) := by decide +kernel
theorem dd_X11_addsColumn_90 : decode (zc mm_X11_addsColumn) 90 = .ok (.iload 7, 2) := by decide +kernel
theorem dd_X11_addsColumn_92 : decode (zc mm_X11_addsColumn) 92 = .ok (.aload_n 0, 1) := by decide +kernel
theorem dd_X11_addsColumn_93 : decode (zc mm_X11_addsColumn) 93 = .ok (.getfield 61, 3) := by decide +kernel
theorem dd_X11_addsColumn_96 : decode (zc mm_X11_addsColumn) 96 = .ok (.iload 4, 2) := by decide +kernel
theorem dd_X11_addsColumn_98 : decode (zc mm_X11_addsColumn) 98 = .ok (.iload 8, 2) := by decide +kernel
theorem dd_X11_addsColumn_100 : decode (zc mm_X11_addsColumn) 100 = .ok (.iadd, 1) := by decide +kernel
theorem dd_X11_addsColumn_101 : decode (zc mm_X11_addsColumn) 101 = .ok (.iaload, 1) := by decide +kernel
theorem dd_X11_addsColumn_102 : decode (zc mm_X11_addsColumn) 102 = .ok (.imul, 1) := by decide +kernel
theorem dd_X11_addsColumn_103 : decode (zc mm_X11_addsColumn) 103 = .ok (.istore 9, 2) := by decide +kernel
theorem dd_X11_addsColumn_105 : decode (zc mm_X11_addsColumn) 105 = .ok (.aload_n 0, 1) := by decide +kernel
theorem dd_X11_addsColumn_106 : decode (zc mm_X11_addsColumn) 106 = .ok (.getfield 61, 3) := by decide +kernel
theorem dd_X11_addsColumn_109 : decode (zc mm_X11_addsColumn) 109 = .ok (.bipush 41, 2) := by decide +kernel
theorem dd_X11_addsColumn_111 : decode (zc mm_X11_addsColumn) 111 = .ok (.iload_n 1, 1) := by decide +kernel
theorem dd_X11_addsColumn_112 : decode (zc mm_X11_addsColumn) 112 = .ok (.imul, 1) := by decide +kernel
theorem dd_X11_addsColumn_113 : decode (zc mm_X11_addsColumn) 113 = .ok (.iload 8, 2) := by decide +kernel
theorem dd_X11_addsColumn_115 : decode (zc mm_X11_addsColumn) 115 = .ok (.iadd, 1) := by decide +kernel
theorem dd_X11_addsColumn_116 : decode (zc mm_X11_addsColumn) 116 = .ok (.iload 6, 2) := by decide +kernel
theorem dd_X11_addsColumn_118 : decode (zc mm_X11_addsColumn) 118 = .ok (.iadd, 1) := by decide +kernel
theorem dd_X11_addsColumn_119 : decode (zc mm_X11_addsColumn) 119 = .ok (.aload_n 0, 1) := by decide +kernel
theorem dd_X11_addsColumn_120 : decode (zc mm_X11_addsColumn) 120 = .ok (.aload_n 0, 1) := by decide +kernel
theorem dd_X11_addsColumn_121 : decode (zc mm_X11_addsColumn) 121 = .ok (.getfield 61, 3) := by decide +kernel
theorem dd_X11_addsColumn_124 : decode (zc mm_X11_addsColumn) 124 = .ok (.bipush 41, 2) := by decide +kernel
theorem dd_X11_addsColumn_126 : decode (zc mm_X11_addsColumn) 126 = .ok (.iload_n 1, 1) := by decide +kernel
theorem dd_X11_addsColumn_127 : decode (zc mm_X11_addsColumn) 127 = .ok (.imul, 1) := by decide +kernel
theorem dd_X11_addsColumn_128 : decode (zc mm_X11_addsColumn) 128 = .ok (.iload 8, 2) := by decide +kernel
theorem dd_X11_addsColumn_130 : decode (zc mm_X11_addsColumn) 130 = .ok (.iadd, 1) := by decide +kernel
theorem dd_X11_addsColumn_131 : decode (zc mm_X11_addsColumn) 131 = .ok (.iload 6, 2) := by decide +kernel
theorem dd_X11_addsColumn_133 : decode (zc mm_X11_addsColumn) 133 = .ok (.iadd, 1) := by decide +kernel
theorem dd_X11_addsColumn_134 : decode (zc mm_X11_addsColumn) 134 = .ok (.iaload, 1) := by decide +kernel
theorem dd_X11_addsColumn_135 : decode (zc mm_X11_addsColumn) 135 = .ok (.iload 5, 2) := by decide +kernel
theorem dd_X11_addsColumn_137 : decode (zc mm_X11_addsColumn) 137 = .ok (.ifCond .eq 9, 3) := by decide +kernel
theorem dd_X11_addsColumn_140 : decode (zc mm_X11_addsColumn) 140 = .ok (.iload 9, 2) := by decide +kernel
theorem dd_X11_addsColumn_142 : decode (zc mm_X11_addsColumn) 142 = .ok (.ineg, 1) := by decide +kernel
theorem dd_X11_addsColumn_143 : decode (zc mm_X11_addsColumn) 143 = .ok (.goto 5, 3) := by decide +kernel
theorem dd_X11_addsColumn_146 : decode (zc mm_X11_addsColumn) 146 = .ok (.iload 9, 2) := by decide +kernel
theorem dd_X11_addsColumn_148 : decode (zc mm_X11_addsColumn) 148 = .ok (.iadd, 1) := by decide +kernel
theorem dd_X11_addsColumn_149 : decode (zc mm_X11_addsColumn) 149 = .ok (.invokevirtual 13, 3) := by decide +kernel
theorem dd_X11_addsColumn_152 : decode (zc mm_X11_addsColumn) 152 = .ok (.iastore, 1) := by decide +kernel
theorem dd_X11_addsColumn_153 : decode (zc mm_X11_addsColumn) 153 = .ok (.iinc 8 1, 3) := by decide +kernel
theorem dd_X11_addsColumn_156 : decode (zc mm_X11_addsColumn) 156 = .ok (.goto (-76), 3) := by decide +kernel
theorem dd_X11_addsColumn_159 : decode (zc mm_X11_addsColumn) 159 = .ok (.iinc 6 1, 3) := by decide +kernel
theorem dd_X11_addsColumn_162 : decode (zc mm_X11_addsColumn) 162 = .ok (.goto (-119), 3) := by decide +kernel
theorem dd_X11_addsColumn_165 : decode (zc mm_X11_addsColumn) 165 = .ok (.return_, 1) := by decide +kernel
theorem dd_X11_determinant_0 : decode (zc mm_X11_determinant) 0 = .ok (.iconst 0, 1) := by decide +kernel
theorem dd_X11_determinant_1 : decode (zc mm_X11_determinant) 1 = .ok (.istore_n 1, 1) := by decide +kernel
theorem dd_X11_determinant_2 : decode (zc mm_X11_determinant) 2 = .ok (.iload_n 1, 1) := by decide +kernel
theorem dd_X11_determinant_3 : decode (zc mm_X11_determinant) 3 = .ok (.bipush 41, 2) := by decide +kernel
theorem dd_X11_determinant_5 : decode (zc mm_X11_determinant) 5 = .ok (.if_icmp .ge 29, 3) := by decide +kernel
theorem dd_X11_determinant_8 : decode (zc mm_X11_determinant) 8 = .ok (.aload_n 0, 1) := by decide +kernel
theorem dd_X11_determinant_9 : decode (zc mm_X11_determinant) 9 = .ok (.getfield 61, 3) := by decide +kernel
theorem dd_X11_determinant_12 : decode (zc mm_X11_determinant) 12 = .ok (.iload_n 1, 1) := by decide +kernel
theorem dd_X11_determinant_13 : decode (zc mm_X11_determinant) 13 = .ok (.iload_n 1, 1) := by decide +kernel
theorem dd_X11_determinant_14 : decode (zc mm_X11_determinant) 14 = .ok (.ifCond .ne 12, 3) := by decide +kernel
theorem dd_X11_determinant_17 : decode (zc mm_X11_determinant) 17 = .ok (.iconst 1, 1) := by decide +kernel
theorem dd_X11_determinant_18 : decode (zc mm_X11_determinant) 18 = .ok (.aload_n 0, 1) := by decide +kernel
theorem dd_X11_determinant_19 : decode (zc mm_X11_determinant) 19 = .ok (.getfield 9, 3) := by decide +kernel
theorem dd_X11_determinant_22 : decode (zc mm_X11_determinant) 22 = .ok (.irem, 1) := by decide +kernel
theorem dd_X11_determinant_23 : decode (zc mm_X11_determinant) 23 = .ok (.goto 4, 3) := by decide +kernel
theorem dd_X11_determinant_26 : decode (zc mm_X11_determinant) 26 = .ok (.iconst 0, 1) := by decide +kernel
theorem dd_X11_determinant_27 : decode (zc mm_X11_determinant) 27 = .ok (.iastore, 1) := by decide +kernel
theorem dd_X11_determinant_28 : decode (zc mm_X11_determinant) 28 = .ok (.iinc 1 1, 3) := by decide +kernel
theorem dd_X11_determinant_31 : decode (zc mm_X11_determinant) 31 = .ok (.goto (-29), 3) := by decide +kernel
theorem dd_X11_determinant_34 : decode (zc mm_X11_determinant) 34 = .ok (.iconst 1, 1) := by decide +kernel
theorem dd_X11_determinant_35 : decode (zc mm_X11_determinant) 35 = .ok (.istore_n 1, 1) := by decide +kernel
theorem dd_X11_determinant_36 : decode (zc mm_X11_determinant) 36 = .ok (.iload_n 1, 1) := by decide +kernel
theorem dd_X11_determinant_37 : decode (zc mm_X11_determinant) 37 = .ok (.iconst 1, 1) := by decide +kernel
theorem dd_X11_determinant_38 : decode (zc mm_X11_determinant) 38 = .ok (.aload_n 0, 1) := by decide +kernel
theorem dd_X11_determinant_39 : decode (zc mm_X11_determinant) 39 = .ok (.getfield 186, 3) := by decide +kernel
theorem dd_X11_determinant_42 : decode (zc mm_X11_determinant) 42 = .ok (.ishl, 1) := by decide +kernel
theorem dd_X11_determinant_43 : decode (zc mm_X11_determinant) 43 = .ok (.if_icmp .ge 66, 3) := by decide +kernel
theorem dd_X11_determinant_46 : decode (zc mm_X11_determinant) 46 = .ok (.iconst 0, 1) := by decide +kernel
theorem dd_X11_determinant_47 : decode (zc mm_X11_determinant) 47 = .ok (.istore_n 2, 1) := by decide +kernel
theorem dd_X11_determinant_48 : decode (zc mm_X11_determinant) 48 = .ok (.iload_n 2, 1) := by decide +kernel
theorem dd_X11_determinant_49 : decode (zc mm_X11_determinant) 49 = .ok (.bipush 41, 2) := by decide +kernel
theorem dd_X11_determinant_51 : decode (zc mm_X11_determinant) 51 = .ok (.if_icmp .ge 21, 3) := by decide +kernel
theorem dd_X11_determinant_54 : decode (zc mm_X11_determinant) 54 = .ok (.aload_n 0, 1) := by decide +kernel
theorem dd_X11_determinant_55 : decode (zc mm_X11_determinant) 55 = .ok (.getfield 61, 3) := by decide +kernel
theorem dd_X11_determinant_58 : decode (zc mm_X11_determinant) 58 = .ok (.bipush 41, 2) := by decide +kernel
theorem dd_X11_determinant_60 : decode (zc mm_X11_determinant) 60 = .ok (.iload_n 1, 1) := by decide +kernel
theorem dd_X11_determinant_61 : decode (zc mm_X11_determinant) 61 = .ok (.imul, 1) := by decide +kernel
theorem dd_X11_determinant_62 : decode (zc mm_X11_determinant) 62 = .ok (.iload_n 2, 1) := by decide +kernel
theorem dd_X11_determinant_63 : decode (zc mm_X11_determinant) 63 = .ok (.iadd, 1) := by decide +kernel
theorem dd_X11_determinant_64 : decode (zc mm_X11_determinant) 64 = .ok (.iconst 0, 1) := by decide +kernel
theorem dd_X11_determinant_65 : decode (zc mm_X11_determinant) 65 = .ok (.iastore, 1) := by decide +kernel
theorem dd_X11_determinant_66 : decode (zc mm_X11_determinant) 66 = .ok (.iinc 2 1, 3) := by decide +kernel
theorem dd_X11_determinant_69 : decode (zc mm_X11_determinant) 69 = .ok (.goto (-21), 3) := by decide +kernel
theorem dd_X11_determinant_72 : decode (zc mm_X11_determinant) 72 = .ok (.iconst 0, 1) := by decide +kernel
theorem dd_X11_determinant_73 : decode (zc mm_X11_determinant) 73 = .ok (.istore_n 2, 1) := by decide +kernel
theorem dd_X11_determinant_74 : decode (zc mm_X11_determinant) 74 = .ok (.iload_n 2, 1) := by decide +kernel
theorem dd_X11_determinant_75 : decode (zc mm_X11_determinant) 75 = .ok (.aload_n 0, 1) := by decide +kernel
theorem dd_X11_determinant_76 : decode (zc mm_X11_determinant) 76 = .ok (.getfield 186, 3) := by decide +kernel
theorem dd_X11_determinant_79 : decode (zc mm_X11_determinant) 79 = .ok (.if_icmp .ge 24, 3) := by decide +kernel
theorem dd_X11_determinant_82 : decode (zc mm_X11_determinant) 82 = .ok (.iload_n 1, 1) := by decide +kernel
theorem dd_X11_determinant_83 : decode (zc mm_X11_determinant) 83 = .ok (.iload_n 2, 1) := by decide +kernel
theorem dd_X11_determinant_84 : decode (zc mm_X11_determinant) 84 = .ok (.ishr, 1) := by decide +kernel
theorem dd_X11_determinant_85 : decode (zc mm_X11_determinant) 85 = .ok (.iconst 1, 1) := by decide +kernel
theorem dd_X11_determinant_86 : decode (zc mm_X11_determinant) 86 = .ok (.iand, 1) := by decide +kernel
theorem dd_X11_determinant_87 : decode (zc mm_X11_determinant) 87 = .ok (.iconst 1, 1) := by decide +kernel
theorem dd_X11_determinant_88 : decode (zc mm_X11_determinant) 88 = .ok (.if_icmp .ne 9, 3) := by decide +kernel
theorem dd_X11_determinant_91 : decode (zc mm_X11_determinant) 91 = .ok (.aload_n 0, 1) := by decide +kernel
theorem dd_X11_determinant_92 : decode (zc mm_X11_determinant) 92 = .ok (.iload_n 1, 1) := by decide +kernel
theorem dd_X11_determinant_93 : decode (zc mm_X11_determinant) 93 = .ok (.iload_n 2, 1) := by decide +kernel
theorem dd_X11_determinant_94 : decode (zc mm_X11_determinant) 94 = .ok (.invokevirtual 214, 3) := by decide +kernel
theorem dd_X11_determinant_97 : decode (zc mm_X11_determinant) 97 = .ok (.iinc 2 1, 3) := by decide +kernel
theorem dd_X11_determinant_100 : decode (zc mm_X11_determinant) 100 = .ok (.goto (-26), 3) := by decide +kernel
theorem dd_X11_determinant_103 : decode (zc mm_X11_determinant) 103 = .ok (.iinc 1 1, 3) := by decide +kernel
theorem dd_X11_determinant_106 : decode (zc mm_X11_determinant) 106 = .ok (.goto (-70), 3) := by decide +kernel
theorem dd_X11_determinant_109 : decode (zc mm_X11_determinant) 109 = .ok (.bipush 41, 2) := by decide +kernel
theorem dd_X11_determinant_111 : decode (zc mm_X11_determinant) 111 = .ok (.iconst 1, 1) := by decide +kernel
theorem dd_X11_determinant_112 : decode (zc mm_X11_determinant) 112 = .ok (.aload_n 0, 1) := by decide +kernel
theorem dd_X11_determinant_113 : decode (zc mm_X11_determinant) 113 = .ok (.getfield 186, 3) := by decide +kernel
theorem dd_X11_determinant_116 : decode (zc mm_X11_determinant) 116 = .ok (.ishl, 1) := by decide +kernel
theorem dd_X11_determinant_117 : decode (zc mm_X11_determinant) 117 = .ok (.iconst 1, 1) := by decide +kernel
theorem dd_X11_determinant_118 : decode (zc mm_X11_determinant) 118 = .ok (.isub, 1) := by decide +kernel
theorem dd_X11_determinant_119 : decode (zc mm_X11_determinant) 119 = .ok (.imul, 1) := by decide +kernel
theorem dd_X11_determinant_120 : decode (zc mm_X11_determinant) 120 = .ok (.ireturn, 1) := by decide +kernel
theorem dd_X11_results_0 : decode (zc mm_X11_results) 0 = .ok (.aload_n 0, 1) := by decide +kernel
theorem dd_X11_results_1 : decode (zc mm_X11_results) 1 = .ok (.iload_n 1, 1) := by decide +kernel
theorem dd_X11_results_2 : decode (zc mm_X11_results) 2 = .ok (.iload_n 2, 1) := by decide +kernel
theorem dd_X11_results_3 : decode (zc mm_X11_results) 3 = .ok (.iload_n 3, 1) := by decide +kernel
theorem dd_X11_results_4 : decode (zc mm_X11_results) 4 = .ok (.iload 4, 2) := by decide +kernel
theorem dd_X11_results_6 : decode (zc mm_X11_results) 6 = .ok (.invokevirtual 217, 3) := by decide +kernel
theorem dd_X11_results_9 : decode (zc mm_X11_results) 9 = .ok (.aload_n 0, 1) := by decide +kernel
theorem dd_X11_results_10 : decode (zc mm_X11_results) 10 = .ok (.invokevirtual 221, 3) := by decide +kernel
theorem dd_X11_results_13 : decode (zc mm_X11_results) 13 = .ok (.istore 5, 2) := by decide +kernel
theorem dd_X11_results_15 : decode (zc mm_X11_results) 15 = .ok (.iconst 0, 1) := by decide +kernel
theorem dd_X11_results_16 : decode (zc mm_X11_results) 16 = .ok (.istore 6, 2) := by decide +kernel
theorem dd_X11_results_18 : decode (zc mm_X11_results) 18 = .ok (.iload 6, 2) := by decide +kernel
theorem dd_X11_results_20 : decode (zc mm_X11_results) 20 = .ok (.bipush 41, 2) := by decide +kernel
theorem dd_X11_results_22 : decode (zc mm_X11_results) 22 = .ok (.if_icmp .ge 26, 3) := by decide +kernel
theorem dd_X11_results_25 : decode (zc mm_X11_results) 25 = .ok (.aload_n 0, 1) := by decide +kernel
theorem dd_X11_results_26 : decode (zc mm_X11_results) 26 = .ok (.getfield 64, 3) := by decide +kernel
theorem dd_X11_results_29 : decode (zc mm_X11_results) 29 = .ok (.iload 6, 2) := by decide +kernel
theorem dd_X11_results_31 : decode (zc mm_X11_results) 31 = .ok (.aload_n 0, 1) := by decide +kernel
theorem dd_X11_results_32 : decode (zc mm_X11_results) 32 = .ok (.getfield 61, 3) := by decide +kernel
theorem dd_X11_results_35 : decode (zc mm_X11_results) 35 = .ok (.iload 5, 2) := by decide +kernel
theorem dd_X11_results_37 : decode (zc mm_X11_results) 37 = .ok (.iload 6, 2) := by decide +kernel
theorem dd_X11_results_39 : decode (zc mm_X11_results) 39 = .ok (.iadd, 1) := by decide +kernel
theorem dd_X11_results_40 : decode (zc mm_X11_results) 40 = .ok (.iaload, 1) := by decide +kernel
theorem dd_X11_results_41 : decode (zc mm_X11_results) 41 = .ok (.iastore, 1) := by decide +kernel
theorem dd_X11_results_42 : decode (zc mm_X11_results) 42 = .ok (.iinc 6 1, 3) := by decide +kernel
theorem dd_X11_results_45 : decode (zc mm_X11_results) 45 = .ok (.goto (-27), 3) := by decide +kernel
theorem dd_X11_results_48 : decode (zc mm_X11_results) 48 = .ok (.return_, 1) := by decide +kernel
theorem dd_X11_resultAt_0 : decode (zc mm_X11_resultAt) 0 = .ok (.iconst 0, 1) := by decide +kernel
theorem dd_X11_resultAt_1 : decode (zc mm_X11_resultAt) 1 = .ok (.istore_n 2, 1) := by decide +kernel
theorem dd_X11_resultAt_2 : decode (zc mm_X11_resultAt) 2 = .ok (.bipush 40, 2) := by decide +kernel
theorem dd_X11_resultAt_4 : decode (zc mm_X11_resultAt) 4 = .ok (.istore_n 3, 1) := by decide +kernel
theorem dd_X11_resultAt_5 : decode (zc mm_X11_resultAt) 5 = .ok (.iload_n 3, 1) := by decide +kernel
theorem dd_X11_resultAt_6 : decode (zc mm_X11_resultAt) 6 = .ok (.ifCond .lt 25, 3) := by decide +kernel
theorem dd_X11_resultAt_9 : decode (zc mm_X11_resultAt) 9 = .ok (.iload_n 2, 1) := by decide +kernel
theorem dd_X11_resultAt_10 : decode (zc mm_X11_resultAt) 10 = .ok (.iload_n 1, 1) := by decide +kernel
theorem dd_X11_resultAt_11 : decode (zc mm_X11_resultAt) 11 = .ok (.imul, 1) := by decide +kernel
theorem dd_X11_resultAt_12 : decode (zc mm_X11_resultAt) 12 = .ok (.aload_n 0, 1) := by decide +kernel
theorem dd_X11_resultAt_13 : decode (zc mm_X11_resultAt) 13 = .ok (.getfield 64, 3) := by decide +kernel
theorem dd_X11_resultAt_16 : decode (zc mm_X11_resultAt) 16 = .ok (.iload_n 3, 1) := by decide +kernel
theorem dd_X11_resultAt_17 : decode (zc mm_X11_resultAt) 17 = .ok (.iaload, 1) := by decide +kernel
theorem dd_X11_resultAt_18 : decode (zc mm_X11_resultAt) 18 = .ok (.iadd, 1) := by decide +kernel
theorem dd_X11_resultAt_19 : decode (zc mm_X11_resultAt) 19 = .ok (.aload_n 0, 1) := by decide +kernel
theorem dd_X11_resultAt_20 : decode (zc mm_X11_resultAt) 20 = .ok (.getfield 9, 3) := by decide +kernel
theorem dd_X11_resultAt_23 : decode (zc mm_X11_resultAt) 23 = .ok (.irem, 1) := by decide +kernel
theorem dd_X11_resultAt_24 : decode (zc mm_X11_resultAt) 24 = .ok (.istore_n 2, 1) := by decide +kernel
theorem dd_X11_resultAt_25 : decode (zc mm_X11_resultAt) 25 = .ok (.iinc 3 (-1), 3) := by decide +kernel
theorem dd_X11_resultAt_28 : decode (zc mm_X11_resultAt) 28 = .ok (.goto (-23), 3) := by decide +kernel
theorem dd_X11_resultAt_31 : decode (zc mm_X11_resultAt) 31 = .ok (.iload_n 2, 1) := by decide +kernel
theorem dd_X11_resultAt_32 : decode (zc mm_X11_resultAt) 32 = .ok (.ireturn, 1) := by decide +kernel
theorem dd_X11_rows_0 : decode (zc mm_X11_rows) 0 = .ok (.aload_n 0, 1) := by decide +kernel
theorem dd_X11_rows_1 : decode (zc mm_X11_rows) 1 = .ok (.iload_n 1, 1) := by decide +kernel
theorem dd_X11_rows_2 : decode (zc mm_X11_rows) 2 = .ok (.iload_n 2, 1) := by decide +kernel
theorem dd_X11_rows_3 : decode (zc mm_X11_rows) 3 = .ok (.iload_n 3, 1) := by decide +kernel
theorem dd_X11_rows_4 : decode (zc mm_X11_rows) 4 = .ok (.iload 4, 2) := by decide +kernel
theorem dd_X11_rows_6 : decode (zc mm_X11_rows) 6 = .ok (.invokevirtual 176, 3) := by decide +kernel
theorem dd_X11_rows_9 : decode (zc mm_X11_rows) 9 = .ok (.istore 5, 2) := by decide +kernel
theorem dd_X11_rows_11 : decode (zc mm_X11_rows) 11 = .ok (.iload 5, 2) := by decide +kernel
theorem dd_X11_rows_13 : decode (zc mm_X11_rows) 13 = .ok (.ifCond .eq 10, 3) := by decide +kernel
theorem dd_X11_rows_16 : decode (zc mm_X11_rows) 16 = .ok (.aload_n 0, 1) := by decide +kernel
theorem dd_X11_rows_17 : decode (zc mm_X11_rows) 17 = .ok (.iload 5, 2) := by decide +kernel
theorem dd_X11_rows_19 : decode (zc mm_X11_rows) 19 = .ok (.invokevirtual 120, 3) := by decide +kernel
theorem dd_X11_rows_22 : decode (zc mm_X11_rows) 22 = .ok (.ireturn, 1) := by decide +kernel
theorem dd_X11_rows_23 : decode (zc mm_X11_rows) 23 = .ok (.aload_n 0, 1) := by decide +kernel
theorem dd_X11_rows_24 : decode (zc mm_X11_rows) 24 = .ok (.iload_n 1, 1) := by decide +kernel
theorem dd_X11_rows_25 : decode (zc mm_X11_rows) 25 = .ok (.iload_n 2, 1) := by decide +kernel
theorem dd_X11_rows_26 : decode (zc mm_X11_rows) 26 = .ok (.iload_n 3, 1) := by decide +kernel
theorem dd_X11_rows_27 : decode (zc mm_X11_rows) 27 = .ok (.iload 4, 2) := by decide +kernel
theorem dd_X11_rows_29 : decode (zc mm_X11_rows) 29 = .ok (.invokevirtual 217, 3) := by decide +kernel
theorem dd_X11_rows_32 : decode (zc mm_X11_rows) 32 = .ok (.aload_n 0, 1) := by decide +kernel
theorem dd_X11_rows_33 : decode (zc mm_X11_rows) 33 = .ok (.getfield 186, 3) := by decide +kernel
theorem dd_X11_rows_36 : decode (zc mm_X11_rows) 36 = .ok (.ireturn, 1) := by decide +kernel
theorem dd_X11_entry_0 : decode (zc mm_X11_entry) 0 = .ok (.aload_n 0, 1) := by decide +kernel
theorem dd_X11_entry_1 : decode (zc mm_X11_entry) 1 = .ok (.iload_n 1, 1) := by decide +kernel
theorem dd_X11_entry_2 : decode (zc mm_X11_entry) 2 = .ok (.iload_n 2, 1) := by decide +kernel
theorem dd_X11_entry_3 : decode (zc mm_X11_entry) 3 = .ok (.iload_n 3, 1) := by decide +kernel
theorem dd_X11_entry_4 : decode (zc mm_X11_entry) 4 = .ok (.iload 4, 2) := by decide +kernel
theorem dd_X11_entry_6 : decode (zc mm_X11_entry) 6 = .ok (.invokevirtual 176, 3) := by decide +kernel
theorem dd_X11_entry_9 : decode (zc mm_X11_entry) 9 = .ok (.istore 8, 2) := by decide +kernel
theorem dd_X11_entry_11 : decode (zc mm_X11_entry) 11 = .ok (.iload 8, 2) := by decide +kernel
theorem dd_X11_entry_13 : decode (zc mm_X11_entry) 13 = .ok (.ifCond .eq 10, 3) := by decide +kernel
theorem dd_X11_entry_16 : decode (zc mm_X11_entry) 16 = .ok (.aload_n 0, 1) := by decide +kernel
theorem dd_X11_entry_17 : decode (zc mm_X11_entry) 17 = .ok (.iload 8, 2) := by decide +kernel
theorem dd_X11_entry_19 : decode (zc mm_X11_entry) 19 = .ok (.invokevirtual 120, 3) := by decide +kernel
theorem dd_X11_entry_22 : decode (zc mm_X11_entry) 22 = .ok (.ireturn, 1) := by decide +kernel
theorem dd_X11_entry_23 : decode (zc mm_X11_entry) 23 = .ok (.iload 5, 2) := by decide +kernel
theorem dd_X11_entry_25 : decode (zc mm_X11_entry) 25 = .ok (.ifCond .lt 13, 3) := by decide +kernel
theorem dd_X11_entry_28 : decode (zc mm_X11_entry) 28 = .ok (.iload 6, 2) := by decide +kernel
theorem dd_X11_entry_30 : decode (zc mm_X11_entry) 30 = .ok (.ifCond .lt 8, 3) := by decide +kernel
theorem dd_X11_entry_33 : decode (zc mm_X11_entry) 33 = .ok (.iload 7, 2) := by decide +kernel
theorem dd_X11_entry_35 : decode (zc mm_X11_entry) 35 = .ok (.ifCond .ge 10, 3) := by decide +kernel
theorem dd_X11_entry_38 : decode (zc mm_X11_entry) 38 = .ok (.aload_n 0, 1) := by decide +kernel
theorem dd_X11_entry_39 : decode (zc mm_X11_entry) 39 = .ok (.bipush (-4), 2) := by decide +kernel
theorem dd_X11_entry_41 : decode (zc mm_X11_entry) 41 = .ok (.invokevirtual 120, 3) := by decide +kernel
theorem dd_X11_entry_44 : decode (zc mm_X11_entry) 44 = .ok (.ireturn, 1) := by decide +kernel
theorem dd_X11_entry_45 : decode (zc mm_X11_entry) 45 = .ok (.aload_n 0, 1) := by decide +kernel
theorem dd_X11_entry_46 : decode (zc mm_X11_entry) 46 = .ok (.iload_n 1, 1) := by decide +kernel
theorem dd_X11_entry_47 : decode (zc mm_X11_entry) 47 = .ok (.iload_n 2, 1) := by decide +kernel
theorem dd_X11_entry_48 : decode (zc mm_X11_entry) 48 = .ok (.iload_n 3, 1) := by decide +kernel
theorem dd_X11_entry_49 : decode (zc mm_X11_entry) 49 = .ok (.iload 4, 2) := by decide +kernel
theorem dd_X11_entry_51 : decode (zc mm_X11_entry) 51 = .ok (.invokevirtual 217, 3) := by decide +kernel
theorem dd_X11_entry_54 : decode (zc mm_X11_entry) 54 = .ok (.iload 5, 2) := by decide +kernel
theorem dd_X11_entry_56 : decode (zc mm_X11_entry) 56 = .ok (.aload_n 0, 1) := by decide +kernel
theorem dd_X11_entry_57 : decode (zc mm_X11_entry) 57 = .ok (.getfield 186, 3) := by decide +kernel
theorem dd_X11_entry_60 : decode (zc mm_X11_entry) 60 = .ok (.if_icmp .ge 19, 3) := by decide +kernel
theorem dd_X11_entry_63 : decode (zc mm_X11_entry) 63 = .ok (.iload 6, 2) := by decide +kernel
theorem dd_X11_entry_65 : decode (zc mm_X11_entry) 65 = .ok (.aload_n 0, 1) := by decide +kernel
theorem dd_X11_entry_66 : decode (zc mm_X11_entry) 66 = .ok (.getfield 186, 3) := by decide +kernel
theorem dd_X11_entry_69 : decode (zc mm_X11_entry) 69 = .ok (.if_icmp .ge 10, 3) := by decide +kernel
theorem dd_X11_entry_72 : decode (zc mm_X11_entry) 72 = .ok (.iload 7, 2) := by decide +kernel
theorem dd_X11_entry_74 : decode (zc mm_X11_entry) 74 = .ok (.bipush 9, 2) := by decide +kernel
theorem dd_X11_entry_76 : decode (zc mm_X11_entry) 76 = .ok (.if_icmp .lt 12, 3) := by decide +kernel
theorem dd_X11_entry_79 : decode (zc mm_X11_entry) 79 = .ok (.aload_n 0, 1) := by decide +kernel
theorem dd_X11_entry_80 : decode (zc mm_X11_entry) 80 = .ok (.bipush (-6), 2) := by decide +kernel
theorem dd_X11_entry_82 : decode (zc mm_X11_entry) 82 = .ok (.invokevirtual 120, 3) := by decide +kernel
theorem dd_X11_entry_85 : decode (zc mm_X11_entry) 85 = .ok (.goto 22, 3) := by decide +kernel
theorem dd_X11_entry_88 : decode (zc mm_X11_entry) 88 = .ok (.aload_n 0, 1) := by decide +kernel
theorem dd_X11_entry_89 : decode (zc mm_X11_entry) 89 = .ok (.getfield 58, 3) := by decide +kernel
theorem dd_X11_entry_92 : decode (zc mm_X11_entry) 92 = .ok (.bipush 9, 2) := by decide +kernel
theorem dd_X11_entry_94 : decode (zc mm_X11_entry) 94 = .ok (.bipush 8, 2) := by decide +kernel
theorem dd_X11_entry_96 : decode (zc mm_X11_entry) 96 = .ok (.iload 5, 2) := by decide +kernel
theorem dd_X11_entry_98 : decode (zc mm_X11_entry) 98 = .ok (.imul, 1) := by decide +kernel
theorem dd_X11_entry_99 : decode (zc mm_X11_entry) 99 = .ok (.iload 6, 2) := by decide +kernel
theorem dd_X11_entry_101 : decode (zc mm_X11_entry) 101 = .ok (.iadd, 1) := by decide +kernel
theorem dd_X11_entry_102 : decode (zc mm_X11_entry) 102 = .ok (.imul, 1) := by decide +kernel
theorem dd_X11_entry_103 : decode (zc mm_X11_entry) 103 = .ok (.iload 7, 2) := by decide +kernel
theorem dd_X11_entry_105 : decode (zc mm_X11_entry) 105 = .ok (.iadd, 1) := by decide +kernel
theorem dd_X11_entry_106 : decode (zc mm_X11_entry) 106 = .ok (.iaload, 1) := by decide +kernel
theorem dd_X11_entry_107 : decode (zc mm_X11_entry) 107 = .ok (.ireturn, 1) := by decide +kernel
theorem dd_X11_result_0 : decode (zc mm_X11_result) 0 = .ok (.aload_n 0, 1) := by decide +kernel
theorem dd_X11_result_1 : decode (zc mm_X11_result) 1 = .ok (.iload_n 1, 1) := by decide +kernel
theorem dd_X11_result_2 : decode (zc mm_X11_result) 2 = .ok (.iload_n 2, 1) := by decide +kernel
theorem dd_X11_result_3 : decode (zc mm_X11_result) 3 = .ok (.iload_n 3, 1) := by decide +kernel
theorem dd_X11_result_4 : decode (zc mm_X11_result) 4 = .ok (.iload 4, 2) := by decide +kernel
theorem dd_X11_result_6 : decode (zc mm_X11_result) 6 = .ok (.invokevirtual 176, 3) := by decide +kernel
theorem dd_X11_result_9 : decode (zc mm_X11_result) 9 = .ok (.istore 6, 2) := by decide +kernel
theorem dd_X11_result_11 : decode (zc mm_X11_result) 11 = .ok (.iload 6, 2) := by decide +kernel
theorem dd_X11_result_13 : decode (zc mm_X11_result) 13 = .ok (.ifCond .ne 28, 3) := by decide +kernel
theorem dd_X11_result_16 : decode (zc mm_X11_result) 16 = .ok (.iload 5, 2) := by decide +kernel
theorem dd_X11_result_18 : decode (zc mm_X11_result) 18 = .ok (.ifCond .ge 8, 3) := by decide +kernel
theorem dd_X11_result_21 : decode (zc mm_X11_result) 21 = .ok (.bipush (-4), 2) := by decide +kernel
theorem dd_X11_result_23 : decode (zc mm_X11_result) 23 = .ok (.goto 16, 3) := by decide +kernel
theorem dd_X11_result_26 : decode (zc mm_X11_result) 26 = .ok (.iload 5, 2) := by decide +kernel
theorem dd_X11_result_28 : decode (zc mm_X11_result) 28 = .ok (.bipush 41, 2) := by decide +kernel
theorem dd_X11_result_30 : decode (zc mm_X11_result) 30 = .ok (.if_icmp .lt 8, 3) := by decide +kernel

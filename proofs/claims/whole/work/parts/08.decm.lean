theorem d_Mo_init_0 : decode prog_9_method_1_code 0 = .ok (.aload_n 0, 1) := by decide +kernel
theorem d_Mo_init_1 : decode prog_9_method_1_code 1 = .ok (.invokespecial 1, 3) := by decide +kernel
theorem d_Mo_init_4 : decode prog_9_method_1_code 4 = .ok (.aload_n 0, 1) := by decide +kernel
theorem d_Mo_init_5 : decode prog_9_method_1_code 5 = .ok (.bipush 64, 2) := by decide +kernel
theorem d_Mo_init_7 : decode prog_9_method_1_code 7 = .ok (.newarray .int, 2) := by decide +kernel
theorem d_Mo_init_9 : decode prog_9_method_1_code 9 = .ok (.putfield 7, 3) := by decide +kernel
theorem d_Mo_init_12 : decode prog_9_method_1_code 12 = .ok (.aload_n 0, 1) := by decide +kernel
theorem d_Mo_init_13 : decode prog_9_method_1_code 13 = .ok (.bipush 64, 2) := by decide +kernel
theorem d_Mo_init_15 : decode prog_9_method_1_code 15 = .ok (.newarray .int, 2) := by decide +kernel
theorem d_Mo_init_17 : decode prog_9_method_1_code 17 = .ok (.putfield 13, 3) := by decide +kernel
theorem d_Mo_init_20 : decode prog_9_method_1_code 20 = .ok (.aload_n 0, 1) := by decide +kernel
theorem d_Mo_init_21 : decode prog_9_method_1_code 21 = .ok (.bipush 64, 2) := by decide +kernel
theorem d_Mo_init_23 : decode prog_9_method_1_code 23 = .ok (.newarray .int, 2) := by decide +kernel
theorem d_Mo_init_25 : decode prog_9_method_1_code 25 = .ok (.putfield 16, 3) := by decide +kernel
theorem d_Mo_init_28 : decode prog_9_method_1_code 28 = .ok (.aload_n 0, 1) := by decide +kernel
theorem d_Mo_init_29 : decode prog_9_method_1_code 29 = .ok (.bipush 64, 2) := by decide +kernel
theorem d_Mo_init_31 : decode prog_9_method_1_code 31 = .ok (.newarray .boolean, 2) := by decide +kernel
theorem d_Mo_init_33 : decode prog_9_method_1_code 33 = .ok (.putfield 19, 3) := by decide +kernel
theorem d_Mo_init_36 : decode prog_9_method_1_code 36 = .ok (.aload_n 0, 1) := by decide +kernel
theorem d_Mo_init_37 : decode prog_9_method_1_code 37 = .ok (.sipush 8192, 3) := by decide +kernel
theorem d_Mo_init_40 : decode prog_9_method_1_code 40 = .ok (.newarray .long, 2) := by decide +kernel
theorem d_Mo_init_42 : decode prog_9_method_1_code 42 = .ok (.putfield 23, 3) := by decide +kernel
theorem d_Mo_init_45 : decode prog_9_method_1_code 45 = .ok (.aload_n 0, 1) := by decide +kernel
theorem d_Mo_init_46 : decode prog_9_method_1_code 46 = .ok (.iload_n 1, 1) := by decide +kernel
theorem d_Mo_init_47 : decode prog_9_method_1_code 47 = .ok (.iconst 1, 1) := by decide +kernel
theorem d_Mo_init_48 : decode prog_9_method_1_code 48 = .ok (.if_icmp .ge 7, 3) := by decide +kernel
theorem d_Mo_init_51 : decode prog_9_method_1_code 51 = .ok (.iconst 1, 1) := by decide +kernel
theorem d_Mo_init_52 : decode prog_9_method_1_code 52 = .ok (.goto 17, 3) := by decide +kernel
theorem d_Mo_init_55 : decode prog_9_method_1_code 55 = .ok (.iload_n 1, 1) := by decide +kernel
theorem d_Mo_init_56 : decode prog_9_method_1_code 56 = .ok (.sipush 5100, 3) := by decide +kernel
theorem d_Mo_init_59 : decode prog_9_method_1_code 59 = .ok (.if_icmp .le 9, 3) := by decide +kernel
theorem d_Mo_init_62 : decode prog_9_method_1_code 62 = .ok (.sipush 5100, 3) := by decide +kernel
theorem d_Mo_init_65 : decode prog_9_method_1_code 65 = .ok (.goto 4, 3) := by decide +kernel
theorem d_Mo_init_68 : decode prog_9_method_1_code 68 = .ok (.iload_n 1, 1) := by decide +kernel
theorem d_Mo_init_69 : decode prog_9_method_1_code 69 = .ok (.putfield 27, 3) := by decide +kernel
theorem d_Mo_init_72 : decode prog_9_method_1_code 72 = .ok (.aload_n 0, 1) := by decide +kernel
theorem d_Mo_init_73 : decode prog_9_method_1_code 73 = .ok (.iload_n 2, 1) := by decide +kernel
theorem d_Mo_init_74 : decode prog_9_method_1_code 74 = .ok (.iconst 1, 1) := by decide +kernel
theorem d_Mo_init_75 : decode prog_9_method_1_code 75 = .ok (.if_icmp .ge 7, 3) := by decide +kernel
theorem d_Mo_init_78 : decode prog_9_method_1_code 78 = .ok (.iconst 1, 1) := by decide +kernel
theorem d_Mo_init_79 : decode prog_9_method_1_code 79 = .ok (.goto 17, 3) := by decide +kernel
theorem d_Mo_init_82 : decode prog_9_method_1_code 82 = .ok (.iload_n 2, 1) := by decide +kernel
theorem d_Mo_init_83 : decode prog_9_method_1_code 83 = .ok (.sipush 5100, 3) := by decide +kernel
theorem d_Mo_init_86 : decode prog_9_method_1_code 86 = .ok (.if_icmp .le 9, 3) := by decide +kernel
theorem d_Mo_init_89 : decode prog_9_method_1_code 89 = .ok (.sipush 5100, 3) := by decide +kernel
theorem d_Mo_init_92 : decode prog_9_method_1_code 92 = .ok (.goto 4, 3) := by decide +kernel
theorem d_Mo_init_95 : decode prog_9_method_1_code 95 = .ok (.iload_n 2, 1) := by decide +kernel
theorem d_Mo_init_96 : decode prog_9_method_1_code 96 = .ok (.putfield 31, 3) := by decide +kernel
theorem d_Mo_init_99 : decode prog_9_method_1_code 99 = .ok (.aload_n 0, 1) := by decide +kernel
theorem d_Mo_init_100 : decode prog_9_method_1_code 100 = .ok (.iload_n 3, 1) := by decide +kernel
theorem d_Mo_init_101 : decode prog_9_method_1_code 101 = .ok (.iconst 1, 1) := by decide +kernel
theorem d_Mo_init_102 : decode prog_9_method_1_code 102 = .ok (.if_icmp .ge 7, 3) := by decide +kernel
theorem d_Mo_init_105 : decode prog_9_method_1_code 105 = .ok (.iconst 1, 1) := by decide +kernel
theorem d_Mo_init_106 : decode prog_9_method_1_code 106 = .ok (.goto 19, 3) := by decide +kernel
theorem d_Mo_init_109 : decode prog_9_method_1_code 109 = .ok (.iload_n 3, 1) := by decide +kernel
theorem d_Mo_init_110 : decode prog_9_method_1_code 110 = .ok (.aload_n 0, 1) := by decide +kernel
theorem d_Mo_init_111 : decode prog_9_method_1_code 111 = .ok (.getfield 31, 3) := by decide +kernel
theorem d_Mo_init_114 : decode prog_9_method_1_code 114 = .ok (.if_icmp .le 10, 3) := by decide +kernel
theorem d_Mo_init_117 : decode prog_9_method_1_code 117 = .ok (.aload_n 0, 1) := by decide +kernel
theorem d_Mo_init_118 : decode prog_9_method_1_code 118 = .ok (.getfield 31, 3) := by decide +kernel
theorem d_Mo_init_121 : decode prog_9_method_1_code 121 = .ok (.goto 4, 3) := by decide +kernel
theorem d_Mo_init_124 : decode prog_9_method_1_code 124 = .ok (.iload_n 3, 1) := by decide +kernel
theorem d_Mo_init_125 : decode prog_9_method_1_code 125 = .ok (.putfield 34, 3) := by decide +kernel
theorem d_Mo_init_128 : decode prog_9_method_1_code 128 = .ok (.aload_n 0, 1) := by decide +kernel
theorem d_Mo_init_129 : decode prog_9_method_1_code 129 = .ok (.bipush 80, 2) := by decide +kernel
theorem d_Mo_init_131 : decode prog_9_method_1_code 131 = .ok (.aload_n 0, 1) := by decide +kernel
theorem d_Mo_init_132 : decode prog_9_method_1_code 132 = .ok (.getfield 31, 3) := by decide +kernel
theorem d_Mo_init_135 : decode prog_9_method_1_code 135 = .ok (.imul, 1) := by decide +kernel
theorem d_Mo_init_136 : decode prog_9_method_1_code 136 = .ok (.newarray .long, 2) := by decide +kernel
theorem d_Mo_init_138 : decode prog_9_method_1_code 138 = .ok (.putfield 37, 3) := by decide +kernel
theorem d_Mo_init_141 : decode prog_9_method_1_code 141 = .ok (.aload_n 0, 1) := by decide +kernel
theorem d_Mo_init_142 : decode prog_9_method_1_code 142 = .ok (.aload_n 0, 1) := by decide +kernel
theorem d_Mo_init_143 : decode prog_9_method_1_code 143 = .ok (.getfield 27, 3) := by decide +kernel
theorem d_Mo_init_146 : decode prog_9_method_1_code 146 = .ok (.iconst 1, 1) := by decide +kernel
theorem d_Mo_init_147 : decode prog_9_method_1_code 147 = .ok (.isub, 1) := by decide +kernel
theorem d_Mo_init_148 : decode prog_9_method_1_code 148 = .ok (.putfield 40, 3) := by decide +kernel
theorem d_Mo_init_151 : decode prog_9_method_1_code 151 = .ok (.aload_n 0, 1) := by decide +kernel
theorem d_Mo_init_152 : decode prog_9_method_1_code 152 = .ok (.aload_n 0, 1) := by decide +kernel
theorem d_Mo_init_153 : decode prog_9_method_1_code 153 = .ok (.getfield 31, 3) := by decide +kernel
theorem d_Mo_init_156 : decode prog_9_method_1_code 156 = .ok (.iconst 1, 1) := by decide +kernel
theorem d_Mo_init_157 : decode prog_9_method_1_code 157 = .ok (.isub, 1) := by decide +kernel
theorem d_Mo_init_158 : decode prog_9_method_1_code 158 = .ok (.putfield 43, 3) := by decide +kernel
theorem d_Mo_init_161 : decode prog_9_method_1_code 161 = .ok (.return_, 1) := by decide +kernel
theorem d_Mo_thrown_0 : decode prog_9_method_2_code 0 = .ok (.aload_n 0, 1) := by decide +kernel
theorem d_Mo_thrown_1 : decode prog_9_method_2_code 1 = .ok (.getfield 46, 3) := by decide +kernel
theorem d_Mo_thrown_4 : decode prog_9_method_2_code 4 = .ok (.ireturn, 1) := by decide +kernel
theorem d_Mo_isIn_0 : decode prog_9_method_3_code 0 = .ok (.iload_n 1, 1) := by decide +kernel
theorem d_Mo_isIn_1 : decode prog_9_method_3_code 1 = .ok (.ifCond .lt 27, 3) := by decide +kernel
theorem d_Mo_isIn_4 : decode prog_9_method_3_code 4 = .ok (.iload_n 1, 1) := by decide +kernel
theorem d_Mo_isIn_5 : decode prog_9_method_3_code 5 = .ok (.aload_n 0, 1) := by decide +kernel
theorem d_Mo_isIn_6 : decode prog_9_method_3_code 6 = .ok (.getfield 27, 3) := by decide +kernel
theorem d_Mo_isIn_9 : decode prog_9_method_3_code 9 = .ok (.if_icmp .ge 19, 3) := by decide +kernel
theorem d_Mo_isIn_12 : decode prog_9_method_3_code 12 = .ok (.iload_n 2, 1) := by decide +kernel
theorem d_Mo_isIn_13 : decode prog_9_method_3_code 13 = .ok (.ifCond .lt 15, 3) := by decide +kernel
theorem d_Mo_isIn_16 : decode prog_9_method_3_code 16 = .ok (.iload_n 2, 1) := by decide +kernel
theorem d_Mo_isIn_17 : decode prog_9_method_3_code 17 = .ok (.aload_n 0, 1) := by decide +kernel
theorem d_Mo_isIn_18 : decode prog_9_method_3_code 18 = .ok (.getfield 31, 3) := by decide +kernel
theorem d_Mo_isIn_21 : decode prog_9_method_3_code 21 = .ok (.if_icmp .ge 7, 3) := by decide +kernel
theorem d_Mo_isIn_24 : decode prog_9_method_3_code 24 = .ok (.iconst 1, 1) := by decide +kernel
theorem d_Mo_isIn_25 : decode prog_9_method_3_code 25 = .ok (.goto 4, 3) := by decide +kernel
theorem d_Mo_isIn_28 : decode prog_9_method_3_code 28 = .ok (.iconst 0, 1) := by decide +kernel
theorem d_Mo_isIn_29 : decode prog_9_method_3_code 29 = .ok (.ireturn, 1) := by decide +kernel
theorem d_Mo_isBlack_0 : decode prog_9_method_4_code 0 = .ok (.aload_n 0, 1) := by decide +kernel
theorem d_Mo_isBlack_1 : decode prog_9_method_4_code 1 = .ok (.getfield 37, 3) := by decide +kernel
theorem d_Mo_isBlack_4 : decode prog_9_method_4_code 4 = .ok (.bipush 80, 2) := by decide +kernel
theorem d_Mo_isBlack_6 : decode prog_9_method_4_code 6 = .ok (.iload_n 2, 1) := by decide +kernel
theorem d_Mo_isBlack_7 : decode prog_9_method_4_code 7 = .ok (.imul, 1) := by decide +kernel
theorem d_Mo_isBlack_8 : decode prog_9_method_4_code 8 = .ok (.iload_n 1, 1) := by decide +kernel
theorem d_Mo_isBlack_9 : decode prog_9_method_4_code 9 = .ok (.bipush 64, 2) := by decide +kernel
theorem d_Mo_isBlack_11 : decode prog_9_method_4_code 11 = .ok (.idiv, 1) := by decide +kernel
theorem d_Mo_isBlack_12 : decode prog_9_method_4_code 12 = .ok (.iadd, 1) := by decide +kernel
theorem d_Mo_isBlack_13 : decode prog_9_method_4_code 13 = .ok (.laload, 1) := by decide +kernel
theorem d_Mo_isBlack_14 : decode prog_9_method_4_code 14 = .ok (.bipush 63, 2) := by decide +kernel
theorem d_Mo_isBlack_16 : decode prog_9_method_4_code 16 = .ok (.iload_n 1, 1) := by decide +kernel
theorem d_Mo_isBlack_17 : decode prog_9_method_4_code 17 = .ok (.bipush 64, 2) := by decide +kernel
theorem d_Mo_isBlack_19 : decode prog_9_method_4_code 19 = .ok (.irem, 1) := by decide +kernel
theorem d_Mo_isBlack_20 : decode prog_9_method_4_code 20 = .ok (.isub, 1) := by decide +kernel
theorem d_Mo_isBlack_21 : decode prog_9_method_4_code 21 = .ok (.lshr, 1) := by decide +kernel
theorem d_Mo_isBlack_22 : decode prog_9_method_4_code 22 = .ok (.lconst 1, 1) := by decide +kernel
theorem d_Mo_isBlack_23 : decode prog_9_method_4_code 23 = .ok (.land, 1) := by decide +kernel
theorem d_Mo_isBlack_24 : decode prog_9_method_4_code 24 = .ok (.lconst 1, 1) := by decide +kernel
theorem d_Mo_isBlack_25 : decode prog_9_method_4_code 25 = .ok (.lcmp, 1) := by decide +kernel
theorem d_Mo_isBlack_26 : decode prog_9_method_4_code 26 = .ok (.ifCond .ne 7, 3) := by decide +kernel
theorem d_Mo_isBlack_29 : decode prog_9_method_4_code 29 = .ok (.iconst 1, 1) := by decide +kernel
theorem d_Mo_isBlack_30 : decode prog_9_method_4_code 30 = .ok (.goto 4, 3) := by decide +kernel
theorem d_Mo_isBlack_33 : decode prog_9_method_4_code 33 = .ok (.iconst 0, 1) := by decide +kernel
theorem d_Mo_isBlack_34 : decode prog_9_method_4_code 34 = .ok (.ireturn, 1) := by decide +kernel
theorem d_Mo_set_0 : decode prog_9_method_5_code 0 = .ok (.bipush 80, 2) := by decide +kernel
theorem d_Mo_set_2 : decode prog_9_method_5_code 2 = .ok (.iload_n 2, 1) := by decide +kernel
theorem d_Mo_set_3 : decode prog_9_method_5_code 3 = .ok (.imul, 1) := by decide +kernel
theorem d_Mo_set_4 : decode prog_9_method_5_code 4 = .ok (.iload_n 1, 1) := by decide +kernel
theorem d_Mo_set_5 : decode prog_9_method_5_code 5 = .ok (.bipush 64, 2) := by decide +kernel
theorem d_Mo_set_7 : decode prog_9_method_5_code 7 = .ok (.idiv, 1) := by decide +kernel
theorem d_Mo_set_8 : decode prog_9_method_5_code 8 = .ok (.iadd, 1) := by decide +kernel
theorem d_Mo_set_9 : decode prog_9_method_5_code 9 = .ok (.istore 4, 2) := by decide +kernel
theorem d_Mo_set_11 : decode prog_9_method_5_code 11 = .ok (.lconst 1, 1) := by decide +kernel
theorem d_Mo_set_12 : decode prog_9_method_5_code 12 = .ok (.bipush 63, 2) := by decide +kernel
theorem d_Mo_set_14 : decode prog_9_method_5_code 14 = .ok (.iload_n 1, 1) := by decide +kernel
theorem d_Mo_set_15 : decode prog_9_method_5_code 15 = .ok (.bipush 64, 2) := by decide +kernel
theorem d_Mo_set_17 : decode prog_9_method_5_code 17 = .ok (.irem, 1) := by decide +kernel
theorem d_Mo_set_18 : decode prog_9_method_5_code 18 = .ok (.isub, 1) := by decide +kernel
theorem d_Mo_set_19 : decode prog_9_method_5_code 19 = .ok (.lshl, 1) := by decide +kernel
theorem d_Mo_set_20 : decode prog_9_method_5_code 20 = .ok (.lstore 5, 2) := by decide +kernel
theorem d_Mo_set_22 : decode prog_9_method_5_code 22 = .ok (.aload_n 0, 1) := by decide +kernel
theorem d_Mo_set_23 : decode prog_9_method_5_code 23 = .ok (.getfield 37, 3) := by decide +kernel
theorem d_Mo_set_26 : decode prog_9_method_5_code 26 = .ok (.iload 4, 2) := by decide +kernel
theorem d_Mo_set_28 : decode prog_9_method_5_code 28 = .ok (.iload_n 3, 1) := by decide +kernel
theorem d_Mo_set_29 : decode prog_9_method_5_code 29 = .ok (.ifCond .eq 16, 3) := by decide +kernel
theorem d_Mo_set_32 : decode prog_9_method_5_code 32 = .ok (.aload_n 0, 1) := by decide +kernel
theorem d_Mo_set_33 : decode prog_9_method_5_code 33 = .ok (.getfield 37, 3) := by decide +kernel
theorem d_Mo_set_36 : decode prog_9_method_5_code 36 = .ok (.iload 4, 2) := by decide +kernel
theorem d_Mo_set_38 : decode prog_9_method_5_code 38 = .ok (.laload, 1) := by decide +kernel
theorem d_Mo_set_39 : decode prog_9_method_5_code 39 = .ok (.lload 5, 2) := by decide +kernel
theorem d_Mo_set_41 : decode prog_9_method_5_code 41 = .ok (.lor, 1) := by decide +kernel
theorem d_Mo_set_42 : decode prog_9_method_5_code 42 = .ok (.goto 17, 3) := by decide +kernel
theorem d_Mo_set_45 : decode prog_9_method_5_code 45 = .ok (.aload_n 0, 1) := by decide +kernel
theorem d_Mo_set_46 : decode prog_9_method_5_code 46 = .ok (.getfield 37, 3) := by decide +kernel
theorem d_Mo_set_49 : decode prog_9_method_5_code 49 = .ok (.iload 4, 2) := by decide +kernel
theorem d_Mo_set_51 : decode prog_9_method_5_code 51 = .ok (.laload, 1) := by decide +kernel
theorem d_Mo_set_52 : decode prog_9_method_5_code 52 = .ok (.lload 5, 2) := by decide +kernel
theorem d_Mo_set_54 : decode prog_9_method_5_code 54 = .ok (.ldc2_w 49, 3) := by decide +kernel
theorem d_Mo_set_57 : decode prog_9_method_5_code 57 = .ok (.lxor, 1) := by decide +kernel
theorem d_Mo_set_58 : decode prog_9_method_5_code 58 = .ok (.land, 1) := by decide +kernel
theorem d_Mo_set_59 : decode prog_9_method_5_code 59 = .ok (.lastore, 1) := by decide +kernel
theorem d_Mo_set_60 : decode prog_9_method_5_code 60 = .ok (.return_, 1) := by decide +kernel
theorem d_Mo_threshold_0 : decode prog_9_method_6_code 0 = .ok (.iconst 0, 1) := by decide +kernel
theorem d_Mo_threshold_1 : decode prog_9_method_6_code 1 = .ok (.istore_n 2, 1) := by decide +kernel
theorem d_Mo_threshold_2 : decode prog_9_method_6_code 2 = .ok (.iconst 0, 1) := by decide +kernel
theorem d_Mo_threshold_3 : decode prog_9_method_6_code 3 = .ok (.istore_n 3, 1) := by decide +kernel
theorem d_Mo_threshold_4 : decode prog_9_method_6_code 4 = .ok (.iload_n 3, 1) := by decide +kernel
theorem d_Mo_threshold_5 : decode prog_9_method_6_code 5 = .ok (.iconst 3, 1) := by decide +kernel
theorem d_Mo_threshold_6 : decode prog_9_method_6_code 6 = .ok (.if_icmp .ge 53, 3) := by decide +kernel
theorem d_Mo_threshold_9 : decode prog_9_method_6_code 9 = .ok (.iload_n 0, 1) := by decide +kernel
theorem d_Mo_threshold_10 : decode prog_9_method_6_code 10 = .ok (.iload_n 3, 1) := by decide +kernel
theorem d_Mo_threshold_11 : decode prog_9_method_6_code 11 = .ok (.ishr, 1) := by decide +kernel
theorem d_Mo_threshold_12 : decode prog_9_method_6_code 12 = .ok (.iconst 1, 1) := by decide +kernel
theorem d_Mo_threshold_13 : decode prog_9_method_6_code 13 = .ok (.iand, 1) := by decide +kernel
theorem d_Mo_threshold_14 : decode prog_9_method_6_code 14 = .ok (.istore 4, 2) := by decide +kernel
theorem d_Mo_threshold_16 : decode prog_9_method_6_code 16 = .ok (.iload_n 1, 1) := by decide +kernel
theorem d_Mo_threshold_17 : decode prog_9_method_6_code 17 = .ok (.iload_n 3, 1) := by decide +kernel
theorem d_Mo_threshold_18 : decode prog_9_method_6_code 18 = .ok (.ishr, 1) := by decide +kernel
theorem d_Mo_threshold_19 : decode prog_9_method_6_code 19 = .ok (.iconst 1, 1) := by decide +kernel
theorem d_Mo_threshold_20 : decode prog_9_method_6_code 20 = .ok (.iand, 1) := by decide +kernel
theorem d_Mo_threshold_21 : decode prog_9_method_6_code 21 = .ok (.istore 5, 2) := by decide +kernel
theorem d_Mo_threshold_23 : decode prog_9_method_6_code 23 = .ok (.iload_n 2, 1) := by decide +kernel
theorem d_Mo_threshold_24 : decode prog_9_method_6_code 24 = .ok (.iload 4, 2) := by decide +kernel
theorem d_Mo_threshold_26 : decode prog_9_method_6_code 26 = .ok (.iload 5, 2) := by decide +kernel
theorem d_Mo_threshold_28 : decode prog_9_method_6_code 28 = .ok (.if_icmp .ne 7, 3) := by decide +kernel
theorem d_Mo_threshold_31 : decode prog_9_method_6_code 31 = .ok (.iconst 0, 1) := by decide +kernel
theorem d_Mo_threshold_32 : decode prog_9_method_6_code 32 = .ok (.goto 9, 3) := by decide +kernel
theorem d_Mo_threshold_35 : decode prog_9_method_6_code 35 = .ok (.bipush 32, 2) := by decide +kernel
theorem d_Mo_threshold_37 : decode prog_9_method_6_code 37 = .ok (.iconst 2, 1) := by decide +kernel
theorem d_Mo_threshold_38 : decode prog_9_method_6_code 38 = .ok (.iload_n 3, 1) := by decide +kernel
theorem d_Mo_threshold_39 : decode prog_9_method_6_code 39 = .ok (.imul, 1) := by decide +kernel
theorem d_Mo_threshold_40 : decode prog_9_method_6_code 40 = .ok (.ishr, 1) := by decide +kernel
theorem d_Mo_threshold_41 : decode prog_9_method_6_code 41 = .ok (.iload 5, 2) := by decide +kernel
theorem d_Mo_threshold_43 : decode prog_9_method_6_code 43 = .ok (.bipush 16, 2) := by decide +kernel
theorem d_Mo_threshold_45 : decode prog_9_method_6_code 45 = .ok (.iconst 2, 1) := by decide +kernel
theorem d_Mo_threshold_46 : decode prog_9_method_6_code 46 = .ok (.iload_n 3, 1) := by decide +kernel
theorem d_Mo_threshold_47 : decode prog_9_method_6_code 47 = .ok (.imul, 1) := by decide +kernel
theorem d_Mo_threshold_48 : decode prog_9_method_6_code 48 = .ok (.ishr, 1) := by decide +kernel
theorem d_Mo_threshold_49 : decode prog_9_method_6_code 49 = .ok (.imul, 1) := by decide +kernel
theorem d_Mo_threshold_50 : decode prog_9_method_6_code 50 = .ok (.iadd, 1) := by decide +kernel
theorem d_Mo_threshold_51 : decode prog_9_method_6_code 51 = .ok (.iadd, 1) := by decide +kernel
theorem d_Mo_threshold_52 : decode prog_9_method_6_code 52 = .ok (.istore_n 2, 1) := by decide +kernel
theorem d_Mo_threshold_53 : decode prog_9_method_6_code 53 = .ok (.iinc 3 1, 3) := by decide +kernel
theorem d_Mo_threshold_56 : decode prog_9_method_6_code 56 = .ok (.goto (-52), 3) := by decide +kernel
theorem d_Mo_threshold_59 : decode prog_9_method_6_code 59 = .ok (.iload_n 2, 1) := by decide +kernel
theorem d_Mo_threshold_60 : decode prog_9_method_6_code 60 = .ok (.ireturn, 1) := by decide +kernel
theorem d_Mo_hatch_0 : decode prog_9_method_7_code 0 = .ok (.iload_n 1, 1) := by decide +kernel
theorem d_Mo_hatch_1 : decode prog_9_method_7_code 1 = .ok (.bipush 16, 2) := by decide +kernel
theorem d_Mo_hatch_3 : decode prog_9_method_7_code 3 = .ok (.irem, 1) := by decide +kernel
theorem d_Mo_hatch_4 : decode prog_9_method_7_code 4 = .ok (.istore_n 3, 1) := by decide +kernel
theorem d_Mo_hatch_5 : decode prog_9_method_7_code 5 = .ok (.iload_n 2, 1) := by decide +kernel
theorem d_Mo_hatch_6 : decode prog_9_method_7_code 6 = .ok (.bipush 16, 2) := by decide +kernel
theorem d_Mo_hatch_8 : decode prog_9_method_7_code 8 = .ok (.irem, 1) := by decide +kernel
theorem d_Mo_hatch_9 : decode prog_9_method_7_code 9 = .ok (.istore 4, 2) := by decide +kernel
theorem d_Mo_hatch_11 : decode prog_9_method_7_code 11 = .ok (.iload 4, 2) := by decide +kernel
theorem d_Mo_hatch_13 : decode prog_9_method_7_code 13 = .ok (.bipush 7, 2) := by decide +kernel
theorem d_Mo_hatch_15 : decode prog_9_method_7_code 15 = .ok (.if_icmp .eq 10, 3) := by decide +kernel
theorem d_Mo_hatch_18 : decode prog_9_method_7_code 18 = .ok (.iload 4, 2) := by decide +kernel
theorem d_Mo_hatch_20 : decode prog_9_method_7_code 20 = .ok (.bipush 8, 2) := by decide +kernel
theorem d_Mo_hatch_22 : decode prog_9_method_7_code 22 = .ok (.if_icmp .ne 7, 3) := by decide +kernel
theorem d_Mo_hatch_25 : decode prog_9_method_7_code 25 = .ok (.iconst 1, 1) := by decide +kernel
theorem d_Mo_hatch_26 : decode prog_9_method_7_code 26 = .ok (.goto 4, 3) := by decide +kernel
theorem d_Mo_hatch_29 : decode prog_9_method_7_code 29 = .ok (.iconst 0, 1) := by decide +kernel
theorem d_Mo_hatch_30 : decode prog_9_method_7_code 30 = .ok (.istore 5, 2) := by decide +kernel
theorem d_Mo_hatch_32 : decode prog_9_method_7_code 32 = .ok (.iload_n 3, 1) := by decide +kernel
theorem d_Mo_hatch_33 : decode prog_9_method_7_code 33 = .ok (.bipush 7, 2) := by decide +kernel
theorem d_Mo_hatch_35 : decode prog_9_method_7_code 35 = .ok (.if_icmp .eq 9, 3) := by decide +kernel
theorem d_Mo_hatch_38 : decode prog_9_method_7_code 38 = .ok (.iload_n 3, 1) := by decide +kernel
theorem d_Mo_hatch_39 : decode prog_9_method_7_code 39 = .ok (.bipush 8, 2) := by decide +kernel
theorem d_Mo_hatch_41 : decode prog_9_method_7_code 41 = .ok (.if_icmp .ne 7, 3) := by decide +kernel
theorem d_Mo_hatch_44 : decode prog_9_method_7_code 44 = .ok (.iconst 1, 1) := by decide +kernel
theorem d_Mo_hatch_45 : decode prog_9_method_7_code 45 = .ok (.goto 4, 3) := by decide +kernel
theorem d_Mo_hatch_48 : decode prog_9_method_7_code 48 = .ok (.iconst 0, 1) := by decide +kernel
theorem d_Mo_hatch_49 : decode prog_9_method_7_code 49 = .ok (.istore 6, 2) := by decide +kernel
theorem d_Mo_hatch_51 : decode prog_9_method_7_code 51 = .ok (.iload_n 3, 1) := by decide +kernel
theorem d_Mo_hatch_52 : decode prog_9_method_7_code 52 = .ok (.iload 4, 2) := by decide +kernel
theorem d_Mo_hatch_54 : decode prog_9_method_7_code 54 = .ok (.iadd, 1) := by decide +kernel
theorem d_Mo_hatch_55 : decode prog_9_method_7_code 55 = .ok (.bipush 16, 2) := by decide +kernel
theorem d_Mo_hatch_57 : decode prog_9_method_7_code 57 = .ok (.irem, 1) := by decide +kernel
theorem d_Mo_hatch_58 : decode prog_9_method_7_code 58 = .ok (.iconst 2, 1) := by decide +kernel
theorem d_Mo_hatch_59 : decode prog_9_method_7_code 59 = .ok (.if_icmp .ge 7, 3) := by decide +kernel
theorem d_Mo_hatch_62 : decode prog_9_method_7_code 62 = .ok (.iconst 1, 1) := by decide +kernel
theorem d_Mo_hatch_63 : decode prog_9_method_7_code 63 = .ok (.goto 4, 3) := by decide +kernel
theorem d_Mo_hatch_66 : decode prog_9_method_7_code 66 = .ok (.iconst 0, 1) := by decide +kernel
theorem d_Mo_hatch_67 : decode prog_9_method_7_code 67 = .ok (.istore 7, 2) := by decide +kernel
theorem d_Mo_hatch_69 : decode prog_9_method_7_code 69 = .ok (.iload_n 3, 1) := by decide +kernel
theorem d_Mo_hatch_70 : decode prog_9_method_7_code 70 = .ok (.iload 4, 2) := by decide +kernel
theorem d_Mo_hatch_72 : decode prog_9_method_7_code 72 = .ok (.isub, 1) := by decide +kernel
theorem d_Mo_hatch_73 : decode prog_9_method_7_code 73 = .ok (.bipush 16, 2) := by decide +kernel
theorem d_Mo_hatch_75 : decode prog_9_method_7_code 75 = .ok (.iadd, 1) := by decide +kernel
theorem d_Mo_hatch_76 : decode prog_9_method_7_code 76 = .ok (.bipush 16, 2) := by decide +kernel
theorem d_Mo_hatch_78 : decode prog_9_method_7_code 78 = .ok (.irem, 1) := by decide +kernel
theorem d_Mo_hatch_79 : decode prog_9_method_7_code 79 = .ok (.iconst 2, 1) := by decide +kernel
theorem d_Mo_hatch_80 : decode prog_9_method_7_code 80 = .ok (.if_icmp .ge 7, 3) := by decide +kernel
theorem d_Mo_hatch_83 : decode prog_9_method_7_code 83 = .ok (.iconst 1, 1) := by decide +kernel
theorem d_Mo_hatch_84 : decode prog_9_method_7_code 84 = .ok (.goto 4, 3) := by decide +kernel
theorem d_Mo_hatch_87 : decode prog_9_method_7_code 87 = .ok (.iconst 0, 1) := by decide +kernel
theorem d_Mo_hatch_88 : decode prog_9_method_7_code 88 = .ok (.istore 8, 2) := by decide +kernel
theorem d_Mo_hatch_90 : decode prog_9_method_7_code 90 = .ok (.iload_n 0, 1) := by decide +kernel
theorem d_Mo_hatch_91 : decode prog_9_method_7_code 91 = .ok (.tableswitch 61 1 5 #[33, 36, 39, 42, 45], 33) := by decide +kernel
theorem d_Mo_hatch_124 : decode prog_9_method_7_code 124 = .ok (.iload 5, 2) := by decide +kernel
theorem d_Mo_hatch_126 : decode prog_9_method_7_code 126 = .ok (.ireturn, 1) := by decide +kernel
theorem d_Mo_hatch_127 : decode prog_9_method_7_code 127 = .ok (.iload 6, 2) := by decide +kernel
theorem d_Mo_hatch_129 : decode prog_9_method_7_code 129 = .ok (.ireturn, 1) := by decide +kernel
theorem d_Mo_hatch_130 : decode prog_9_method_7_code 130 = .ok (.iload 7, 2) := by decide +kernel
theorem d_Mo_hatch_132 : decode prog_9_method_7_code 132 = .ok (.ireturn, 1) := by decide +kernel
theorem d_Mo_hatch_133 : decode prog_9_method_7_code 133 = .ok (.iload 8, 2) := by decide +kernel
theorem d_Mo_hatch_135 : decode prog_9_method_7_code 135 = .ok (.ireturn, 1) := by decide +kernel
theorem d_Mo_hatch_136 : decode prog_9_method_7_code 136 = .ok (.iload 5, 2) := by decide +kernel
theorem d_Mo_hatch_138 : decode prog_9_method_7_code 138 = .ok (.ifCond .ne 8, 3) := by decide +kernel
theorem d_Mo_hatch_141 : decode prog_9_method_7_code 141 = .ok (.iload 6, 2) := by decide +kernel
theorem d_Mo_hatch_143 : decode prog_9_method_7_code 143 = .ok (.ifCond .eq 7, 3) := by decide +kernel
theorem d_Mo_hatch_146 : decode prog_9_method_7_code 146 = .ok (.iconst 1, 1) := by decide +kernel
theorem d_Mo_hatch_147 : decode prog_9_method_7_code 147 = .ok (.goto 4, 3) := by decide +kernel
theorem d_Mo_hatch_150 : decode prog_9_method_7_code 150 = .ok (.iconst 0, 1) := by decide +kernel
theorem d_Mo_hatch_151 : decode prog_9_method_7_code 151 = .ok (.ireturn, 1) := by decide +kernel
theorem d_Mo_hatch_152 : decode prog_9_method_7_code 152 = .ok (.iload 7, 2) := by decide +kernel
theorem d_Mo_hatch_154 : decode prog_9_method_7_code 154 = .ok (.ifCond .ne 8, 3) := by decide +kernel
theorem d_Mo_hatch_157 : decode prog_9_method_7_code 157 = .ok (.iload 8, 2) := by decide +kernel
theorem d_Mo_hatch_159 : decode prog_9_method_7_code 159 = .ok (.ifCond .eq 7, 3) := by decide +kernel
theorem d_Mo_hatch_162 : decode prog_9_method_7_code 162 = .ok (.iconst 1, 1) := by decide +kernel
theorem d_Mo_hatch_163 : decode prog_9_method_7_code 163 = .ok (.goto 4, 3) := by decide +kernel
theorem d_Mo_hatch_166 : decode prog_9_method_7_code 166 = .ok (.iconst 0, 1) := by decide +kernel
theorem d_Mo_hatch_167 : decode prog_9_method_7_code 167 = .ok (.ireturn, 1) := by decide +kernel
theorem d_Mo_isInk_0 : decode prog_9_method_8_code 0 = .ok (.aload_n 0, 1) := by decide +kernel
theorem d_Mo_isInk_1 : decode prog_9_method_8_code 1 = .ok (.getfield 51, 3) := by decide +kernel
theorem d_Mo_isInk_4 : decode prog_9_method_8_code 4 = .ok (.iconst 2, 1) := by decide +kernel
theorem d_Mo_isInk_5 : decode prog_9_method_8_code 5 = .ok (.if_icmp .ge 16, 3) := by decide +kernel
theorem d_Mo_isInk_8 : decode prog_9_method_8_code 8 = .ok (.aload_n 0, 1) := by decide +kernel
theorem d_Mo_isInk_9 : decode prog_9_method_8_code 9 = .ok (.getfield 51, 3) := by decide +kernel
theorem d_Mo_isInk_12 : decode prog_9_method_8_code 12 = .ok (.ifCond .ne 7, 3) := by decide +kernel
theorem d_Mo_isInk_15 : decode prog_9_method_8_code 15 = .ok (.iconst 1, 1) := by decide +kernel
theorem d_Mo_isInk_16 : decode prog_9_method_8_code 16 = .ok (.goto 4, 3) := by decide +kernel
theorem d_Mo_isInk_19 : decode prog_9_method_8_code 19 = .ok (.iconst 0, 1) := by decide +kernel
theorem d_Mo_isInk_20 : decode prog_9_method_8_code 20 = .ok (.ireturn, 1) := by decide +kernel
theorem d_Mo_isInk_21 : decode prog_9_method_8_code 21 = .ok (.aload_n 0, 1) := by decide +kernel
theorem d_Mo_isInk_22 : decode prog_9_method_8_code 22 = .ok (.getfield 51, 3) := by decide +kernel
theorem d_Mo_isInk_25 : decode prog_9_method_8_code 25 = .ok (.iconst 2, 1) := by decide +kernel
theorem d_Mo_isInk_26 : decode prog_9_method_8_code 26 = .ok (.if_icmp .ne 38, 3) := by decide +kernel
theorem d_Mo_isInk_29 : decode prog_9_method_8_code 29 = .ok (.iload_n 1, 1) := by decide +kernel
theorem d_Mo_isInk_30 : decode prog_9_method_8_code 30 = .ok (.bipush 8, 2) := by decide +kernel
theorem d_Mo_isInk_32 : decode prog_9_method_8_code 32 = .ok (.irem, 1) := by decide +kernel
theorem d_Mo_isInk_33 : decode prog_9_method_8_code 33 = .ok (.iload_n 2, 1) := by decide +kernel
theorem d_Mo_isInk_34 : decode prog_9_method_8_code 34 = .ok (.bipush 8, 2) := by decide +kernel
theorem d_Mo_isInk_36 : decode prog_9_method_8_code 36 = .ok (.irem, 1) := by decide +kernel
theorem d_Mo_isInk_37 : decode prog_9_method_8_code 37 = .ok (.invokestatic 54, 3) := by decide +kernel
theorem d_Mo_isInk_40 : decode prog_9_method_8_code 40 = .ok (.bipush 64, 2) := by decide +kernel
theorem d_Mo_isInk_42 : decode prog_9_method_8_code 42 = .ok (.aload_n 0, 1) := by decide +kernel
theorem d_Mo_isInk_43 : decode prog_9_method_8_code 43 = .ok (.getfield 58, 3) := by decide +kernel
theorem d_Mo_isInk_46 : decode prog_9_method_8_code 46 = .ok (.imul, 1) := by decide +kernel
theorem d_Mo_isInk_47 : decode prog_9_method_8_code 47 = .ok (.bipush 99, 2) := by decide +kernel
theorem d_Mo_isInk_49 : decode prog_9_method_8_code 49 = .ok (.iadd, 1) := by decide +kernel
theorem d_Mo_isInk_50 : decode prog_9_method_8_code 50 = .ok (.bipush 100, 2) := by decide +kernel
theorem d_Mo_isInk_52 : decode prog_9_method_8_code 52 = .ok (.idiv, 1) := by decide +kernel
theorem d_Mo_isInk_53 : decode prog_9_method_8_code 53 = .ok (.if_icmp .ge 7, 3) := by decide +kernel
theorem d_Mo_isInk_56 : decode prog_9_method_8_code 56 = .ok (.iconst 1, 1) := by decide +kernel
theorem d_Mo_isInk_57 : decode prog_9_method_8_code 57 = .ok (.goto 16, 3) := by decide +kernel
theorem d_Mo_isInk_60 : decode prog_9_method_8_code 60 = .ok (.iconst 0, 1) := by decide +kernel
theorem d_Mo_isInk_61 : decode prog_9_method_8_code 61 = .ok (.goto 12, 3) := by decide +kernel
theorem d_Mo_isInk_64 : decode prog_9_method_8_code 64 = .ok (.aload_n 0, 1) := by decide +kernel
theorem d_Mo_isInk_65 : decode prog_9_method_8_code 65 = .ok (.getfield 58, 3) := by decide +kernel
theorem d_Mo_isInk_68 : decode prog_9_method_8_code 68 = .ok (.iload_n 1, 1) := by decide +kernel
theorem d_Mo_isInk_69 : decode prog_9_method_8_code 69 = .ok (.iload_n 2, 1) := by decide +kernel
theorem d_Mo_isInk_70 : decode prog_9_method_8_code 70 = .ok (.invokestatic 61, 3) := by decide +kernel
theorem d_Mo_isInk_73 : decode prog_9_method_8_code 73 = .ok (.ireturn, 1) := by decide +kernel
theorem d_Mo_paint_0 : decode prog_9_method_9_code 0 = .ok (.aload_n 0, 1) := by decide +kernel
theorem d_Mo_paint_1 : decode prog_9_method_9_code 1 = .ok (.iload_n 1, 1) := by decide +kernel
theorem d_Mo_paint_2 : decode prog_9_method_9_code 2 = .ok (.iload_n 2, 1) := by decide +kernel
theorem d_Mo_paint_3 : decode prog_9_method_9_code 3 = .ok (.invokevirtual 65, 3) := by decide +kernel
theorem d_Mo_paint_6 : decode prog_9_method_9_code 6 = .ok (.ifCond .eq 35, 3) := by decide +kernel
theorem d_Mo_paint_9 : decode prog_9_method_9_code 9 = .ok (.iload_n 1, 1) := by decide +kernel
theorem d_Mo_paint_10 : decode prog_9_method_9_code 10 = .ok (.aload_n 0, 1) := by decide +kernel
theorem d_Mo_paint_11 : decode prog_9_method_9_code 11 = .ok (.getfield 69, 3) := by decide +kernel
theorem d_Mo_paint_14 : decode prog_9_method_9_code 14 = .ok (.if_icmp .lt 27, 3) := by decide +kernel
theorem d_Mo_paint_17 : decode prog_9_method_9_code 17 = .ok (.iload_n 1, 1) := by decide +kernel
theorem d_Mo_paint_18 : decode prog_9_method_9_code 18 = .ok (.aload_n 0, 1) := by decide +kernel
theorem d_Mo_paint_19 : decode prog_9_method_9_code 19 = .ok (.getfield 40, 3) := by decide +kernel
theorem d_Mo_paint_22 : decode prog_9_method_9_code 22 = .ok (.if_icmp .gt 19, 3) := by decide +kernel
theorem d_Mo_paint_25 : decode prog_9_method_9_code 25 = .ok (.iload_n 2, 1) := by decide +kernel
theorem d_Mo_paint_26 : decode prog_9_method_9_code 26 = .ok (.aload_n 0, 1) := by decide +kernel
theorem d_Mo_paint_27 : decode prog_9_method_9_code 27 = .ok (.getfield 72, 3) := by decide +kernel
theorem d_Mo_paint_30 : decode prog_9_method_9_code 30 = .ok (.if_icmp .lt 11, 3) := by decide +kernel
theorem d_Mo_paint_33 : decode prog_9_method_9_code 33 = .ok (.iload_n 2, 1) := by decide +kernel
theorem d_Mo_paint_34 : decode prog_9_method_9_code 34 = .ok (.aload_n 0, 1) := by decide +kernel
theorem d_Mo_paint_35 : decode prog_9_method_9_code 35 = .ok (.getfield 43, 3) := by decide +kernel
theorem d_Mo_paint_38 : decode prog_9_method_9_code 38 = .ok (.if_icmp .le 4, 3) := by decide +kernel
theorem d_Mo_paint_41 : decode prog_9_method_9_code 41 = .ok (.return_, 1) := by decide +kernel
theorem d_Mo_paint_42 : decode prog_9_method_9_code 42 = .ok (.iload_n 3, 1) := by decide +kernel
theorem d_Mo_paint_43 : decode prog_9_method_9_code 43 = .ok (.ifCond .ne 20, 3) := by decide +kernel
theorem d_Mo_paint_46 : decode prog_9_method_9_code 46 = .ok (.aload_n 0, 1) := by decide +kernel
theorem d_Mo_paint_47 : decode prog_9_method_9_code 47 = .ok (.getfield 75, 3) := by decide +kernel
theorem d_Mo_paint_50 : decode prog_9_method_9_code 50 = .ok (.ifCond .eq 46, 3) := by decide +kernel
theorem d_Mo_paint_53 : decode prog_9_method_9_code 53 = .ok (.aload_n 0, 1) := by decide +kernel
theorem d_Mo_paint_54 : decode prog_9_method_9_code 54 = .ok (.iload_n 1, 1) := by decide +kernel
theorem d_Mo_paint_55 : decode prog_9_method_9_code 55 = .ok (.iload_n 2, 1) := by decide +kernel
theorem d_Mo_paint_56 : decode prog_9_method_9_code 56 = .ok (.iconst 0, 1) := by decide +kernel
theorem d_Mo_paint_57 : decode prog_9_method_9_code 57 = .ok (.invokevirtual 79, 3) := by decide +kernel
theorem d_Mo_paint_60 : decode prog_9_method_9_code 60 = .ok (.goto 36, 3) := by decide +kernel
theorem d_Mo_paint_63 : decode prog_9_method_9_code 63 = .ok (.aload_n 0, 1) := by decide +kernel
theorem d_Mo_paint_64 : decode prog_9_method_9_code 64 = .ok (.iload_n 1, 1) := by decide +kernel
theorem d_Mo_paint_65 : decode prog_9_method_9_code 65 = .ok (.iload_n 2, 1) := by decide +kernel
theorem d_Mo_paint_66 : decode prog_9_method_9_code 66 = .ok (.invokevirtual 83, 3) := by decide +kernel
theorem d_Mo_paint_69 : decode prog_9_method_9_code 69 = .ok (.ifCond .eq 13, 3) := by decide +kernel
theorem d_Mo_paint_72 : decode prog_9_method_9_code 72 = .ok (.aload_n 0, 1) := by decide +kernel
theorem d_Mo_paint_73 : decode prog_9_method_9_code 73 = .ok (.iload_n 1, 1) := by decide +kernel
theorem d_Mo_paint_74 : decode prog_9_method_9_code 74 = .ok (.iload_n 2, 1) := by decide +kernel
theorem d_Mo_paint_75 : decode prog_9_method_9_code 75 = .ok (.iconst 1, 1) := by decide +kernel
theorem d_Mo_paint_76 : decode prog_9_method_9_code 76 = .ok (.invokevirtual 79, 3) := by decide +kernel
theorem d_Mo_paint_79 : decode prog_9_method_9_code 79 = .ok (.goto 17, 3) := by decide +kernel
theorem d_Mo_paint_82 : decode prog_9_method_9_code 82 = .ok (.aload_n 0, 1) := by decide +kernel
theorem d_Mo_paint_83 : decode prog_9_method_9_code 83 = .ok (.getfield 86, 3) := by decide +kernel
theorem d_Mo_paint_86 : decode prog_9_method_9_code 86 = .ok (.ifCond .eq 10, 3) := by decide +kernel
theorem d_Mo_paint_89 : decode prog_9_method_9_code 89 = .ok (.aload_n 0, 1) := by decide +kernel
theorem d_Mo_paint_90 : decode prog_9_method_9_code 90 = .ok (.iload_n 1, 1) := by decide +kernel
theorem d_Mo_paint_91 : decode prog_9_method_9_code 91 = .ok (.iload_n 2, 1) := by decide +kernel
theorem d_Mo_paint_92 : decode prog_9_method_9_code 92 = .ok (.iconst 0, 1) := by decide +kernel
theorem d_Mo_paint_93 : decode prog_9_method_9_code 93 = .ok (.invokevirtual 79, 3) := by decide +kernel
theorem d_Mo_paint_96 : decode prog_9_method_9_code 96 = .ok (.return_, 1) := by decide +kernel
theorem d_Mo_lay_0 : decode prog_9_method_10_code 0 = .ok (.aload_n 0, 1) := by decide +kernel
theorem d_Mo_lay_1 : decode prog_9_method_10_code 1 = .ok (.getfield 89, 3) := by decide +kernel
theorem d_Mo_lay_4 : decode prog_9_method_10_code 4 = .ok (.ifCond .ne 9, 3) := by decide +kernel
theorem d_Mo_lay_7 : decode prog_9_method_10_code 7 = .ok (.iload_n 1, 1) := by decide +kernel
theorem d_Mo_lay_8 : decode prog_9_method_10_code 8 = .ok (.iload_n 3, 1) := by decide +kernel
theorem d_Mo_lay_9 : decode prog_9_method_10_code 9 = .ok (.iadd, 1) := by decide +kernel
theorem d_Mo_lay_10 : decode prog_9_method_10_code 10 = .ok (.goto 36, 3) := by decide +kernel
theorem d_Mo_lay_13 : decode prog_9_method_10_code 13 = .ok (.aload_n 0, 1) := by decide +kernel
theorem d_Mo_lay_14 : decode prog_9_method_10_code 14 = .ok (.getfield 89, 3) := by decide +kernel
theorem d_Mo_lay_17 : decode prog_9_method_10_code 17 = .ok (.iconst 1, 1) := by decide +kernel
theorem d_Mo_lay_18 : decode prog_9_method_10_code 18 = .ok (.if_icmp .ne 10, 3) := by decide +kernel
theorem d_Mo_lay_21 : decode prog_9_method_10_code 21 = .ok (.iload_n 1, 1) := by decide +kernel
theorem d_Mo_lay_22 : decode prog_9_method_10_code 22 = .ok (.iload 4, 2) := by decide +kernel
theorem d_Mo_lay_24 : decode prog_9_method_10_code 24 = .ok (.iadd, 1) := by decide +kernel
theorem d_Mo_lay_25 : decode prog_9_method_10_code 25 = .ok (.goto 21, 3) := by decide +kernel
theorem d_Mo_lay_28 : decode prog_9_method_10_code 28 = .ok (.aload_n 0, 1) := by decide +kernel
theorem d_Mo_lay_29 : decode prog_9_method_10_code 29 = .ok (.getfield 89, 3) := by decide +kernel
theorem d_Mo_lay_32 : decode prog_9_method_10_code 32 = .ok (.iconst 2, 1) := by decide +kernel
theorem d_Mo_lay_33 : decode prog_9_method_10_code 33 = .ok (.if_icmp .ne 9, 3) := by decide +kernel
theorem d_Mo_lay_36 : decode prog_9_method_10_code 36 = .ok (.iload_n 1, 1) := by decide +kernel
theorem d_Mo_lay_37 : decode prog_9_method_10_code 37 = .ok (.iload_n 3, 1) := by decide +kernel
theorem d_Mo_lay_38 : decode prog_9_method_10_code 38 = .ok (.isub, 1) := by decide +kernel
theorem d_Mo_lay_39 : decode prog_9_method_10_code 39 = .ok (.goto 7, 3) := by decide +kernel
theorem d_Mo_lay_42 : decode prog_9_method_10_code 42 = .ok (.iload_n 1, 1) := by decide +kernel
theorem d_Mo_lay_43 : decode prog_9_method_10_code 43 = .ok (.iload 4, 2) := by decide +kernel
theorem d_Mo_lay_45 : decode prog_9_method_10_code 45 = .ok (.isub, 1) := by decide +kernel
theorem d_Mo_lay_46 : decode prog_9_method_10_code 46 = .ok (.istore 6, 2) := by decide +kernel
theorem d_Mo_lay_48 : decode prog_9_method_10_code 48 = .ok (.aload_n 0, 1) := by decide +kernel
theorem d_Mo_lay_49 : decode prog_9_method_10_code 49 = .ok (.getfield 89, 3) := by decide +kernel
theorem d_Mo_lay_52 : decode prog_9_method_10_code 52 = .ok (.ifCond .ne 10, 3) := by decide +kernel
theorem d_Mo_lay_55 : decode prog_9_method_10_code 55 = .ok (.iload_n 2, 1) := by decide +kernel
theorem d_Mo_lay_56 : decode prog_9_method_10_code 56 = .ok (.iload 4, 2) := by decide +kernel
theorem d_Mo_lay_58 : decode prog_9_method_10_code 58 = .ok (.iadd, 1) := by decide +kernel
theorem d_Mo_lay_59 : decode prog_9_method_10_code 59 = .ok (.goto 35, 3) := by decide +kernel
theorem d_Mo_lay_62 : decode prog_9_method_10_code 62 = .ok (.aload_n 0, 1) := by decide +kernel
theorem d_Mo_lay_63 : decode prog_9_method_10_code 63 = .ok (.getfield 89, 3) := by decide +kernel
theorem d_Mo_lay_66 : decode prog_9_method_10_code 66 = .ok (.iconst 1, 1) := by decide +kernel
theorem d_Mo_lay_67 : decode prog_9_method_10_code 67 = .ok (.if_icmp .ne 9, 3) := by decide +kernel
theorem d_Mo_lay_70 : decode prog_9_method_10_code 70 = .ok (.iload_n 2, 1) := by decide +kernel
theorem d_Mo_lay_71 : decode prog_9_method_10_code 71 = .ok (.iload_n 3, 1) := by decide +kernel
theorem d_Mo_lay_72 : decode prog_9_method_10_code 72 = .ok (.isub, 1) := by decide +kernel
theorem d_Mo_lay_73 : decode prog_9_method_10_code 73 = .ok (.goto 21, 3) := by decide +kernel
theorem d_Mo_lay_76 : decode prog_9_method_10_code 76 = .ok (.aload_n 0, 1) := by decide +kernel
theorem d_Mo_lay_77 : decode prog_9_method_10_code 77 = .ok (.getfield 89, 3) := by decide +kernel
theorem d_Mo_lay_80 : decode prog_9_method_10_code 80 = .ok (.iconst 2, 1) := by decide +kernel
theorem d_Mo_lay_81 : decode prog_9_method_10_code 81 = .ok (.if_icmp .ne 10, 3) := by decide +kernel
theorem d_Mo_lay_84 : decode prog_9_method_10_code 84 = .ok (.iload_n 2, 1) := by decide +kernel
theorem d_Mo_lay_85 : decode prog_9_method_10_code 85 = .ok (.iload 4, 2) := by decide +kernel
theorem d_Mo_lay_87 : decode prog_9_method_10_code 87 = .ok (.isub, 1) := by decide +kernel
theorem d_Mo_lay_88 : decode prog_9_method_10_code 88 = .ok (.goto 6, 3) := by decide +kernel
theorem d_Mo_lay_91 : decode prog_9_method_10_code 91 = .ok (.iload_n 2, 1) := by decide +kernel
theorem d_Mo_lay_92 : decode prog_9_method_10_code 92 = .ok (.iload_n 3, 1) := by decide +kernel
theorem d_Mo_lay_93 : decode prog_9_method_10_code 93 = .ok (.iadd, 1) := by decide +kernel
theorem d_Mo_lay_94 : decode prog_9_method_10_code 94 = .ok (.istore 7, 2) := by decide +kernel
theorem d_Mo_lay_96 : decode prog_9_method_10_code 96 = .ok (.aload_n 0, 1) := by decide +kernel
theorem d_Mo_lay_97 : decode prog_9_method_10_code 97 = .ok (.iload 6, 2) := by decide +kernel
theorem d_Mo_lay_99 : decode prog_9_method_10_code 99 = .ok (.iload 7, 2) := by decide +kernel
theorem d_Mo_lay_101 : decode prog_9_method_10_code 101 = .ok (.iload 5, 2) := by decide +kernel
theorem d_Mo_lay_103 : decode prog_9_method_10_code 103 = .ok (.invokevirtual 92, 3) := by decide +kernel
theorem d_Mo_lay_106 : decode prog_9_method_10_code 106 = .ok (.return_, 1) := by decide +kernel
theorem d_Mo_shape_0 : decode prog_9_method_11_code 0 = .ok (.aload_n 0, 1) := by decide +kernel
theorem d_Mo_shape_1 : decode prog_9_method_11_code 1 = .ok (.iload_n 1, 1) := by decide +kernel
theorem d_Mo_shape_2 : decode prog_9_method_11_code 2 = .ok (.iconst 1, 1) := by decide +kernel
theorem d_Mo_shape_3 : decode prog_9_method_11_code 3 = .ok (.if_icmp .lt 22, 3) := by decide +kernel
theorem d_Mo_shape_6 : decode prog_9_method_11_code 6 = .ok (.iload_n 1, 1) := by decide +kernel
theorem d_Mo_shape_7 : decode prog_9_method_11_code 7 = .ok (.sipush 128, 3) := by decide +kernel
theorem d_Mo_shape_10 : decode prog_9_method_11_code 10 = .ok (.if_icmp .gt 15, 3) := by decide +kernel
theorem d_Mo_shape_13 : decode prog_9_method_11_code 13 = .ok (.iload_n 2, 1) := by decide +kernel
theorem d_Mo_shape_14 : decode prog_9_method_11_code 14 = .ok (.iconst 1, 1) := by decide +kernel
theorem d_Mo_shape_15 : decode prog_9_method_11_code 15 = .ok (.if_icmp .lt 10, 3) := by decide +kernel
theorem d_Mo_shape_18 : decode prog_9_method_11_code 18 = .ok (.iload_n 2, 1) := by decide +kernel
theorem d_Mo_shape_19 : decode prog_9_method_11_code 19 = .ok (.sipush 128, 3) := by decide +kernel
theorem d_Mo_shape_22 : decode prog_9_method_11_code 22 = .ok (.if_icmp .le 7, 3) := by decide +kernel
theorem d_Mo_shape_25 : decode prog_9_method_11_code 25 = .ok (.iconst 1, 1) := by decide +kernel
theorem d_Mo_shape_26 : decode prog_9_method_11_code 26 = .ok (.goto 29, 3) := by decide +kernel
theorem d_Mo_shape_29 : decode prog_9_method_11_code 29 = .ok (.aload_n 0, 1) := by decide +kernel
theorem d_Mo_shape_30 : decode prog_9_method_11_code 30 = .ok (.getfield 95, 3) := by decide +kernel
theorem d_Mo_shape_33 : decode prog_9_method_11_code 33 = .ok (.bipush 64, 2) := by decide +kernel
theorem d_Mo_shape_35 : decode prog_9_method_11_code 35 = .ok (.if_icmp .eq 15, 3) := by decide +kernel
theorem d_Mo_shape_38 : decode prog_9_method_11_code 38 = .ok (.aload_n 0, 1) := by decide +kernel
theorem d_Mo_shape_39 : decode prog_9_method_11_code 39 = .ok (.getfield 98, 3) := by decide +kernel
theorem d_Mo_shape_42 : decode prog_9_method_11_code 42 = .ok (.iload_n 2, 1) := by decide +kernel
theorem d_Mo_shape_43 : decode prog_9_method_11_code 43 = .ok (.iadd, 1) := by decide +kernel
theorem d_Mo_shape_44 : decode prog_9_method_11_code 44 = .ok (.sipush 4096, 3) := by decide +kernel
theorem d_Mo_shape_47 : decode prog_9_method_11_code 47 = .ok (.if_icmp .le 7, 3) := by decide +kernel
theorem d_Mo_shape_50 : decode prog_9_method_11_code 50 = .ok (.iconst 2, 1) := by decide +kernel
theorem d_Mo_shape_51 : decode prog_9_method_11_code 51 = .ok (.goto 4, 3) := by decide +kernel
theorem d_Mo_shape_54 : decode prog_9_method_11_code 54 = .ok (.iconst 0, 1) := by decide +kernel
theorem d_Mo_shape_55 : decode prog_9_method_11_code 55 = .ok (.putfield 46, 3) := by decide +kernel
theorem d_Mo_shape_58 : decode prog_9_method_11_code 58 = .ok (.aload_n 0, 1) := by decide +kernel
theorem d_Mo_shape_59 : decode prog_9_method_11_code 59 = .ok (.getfield 46, 3) := by decide +kernel
theorem d_Mo_shape_62 : decode prog_9_method_11_code 62 = .ok (.ifCond .le 5, 3) := by decide +kernel
theorem d_Mo_shape_65 : decode prog_9_method_11_code 65 = .ok (.iconst 0, 1) := by decide +kernel
theorem d_Mo_shape_66 : decode prog_9_method_11_code 66 = .ok (.ireturn, 1) := by decide +kernel
theorem d_Mo_shape_67 : decode prog_9_method_11_code 67 = .ok (.aload_n 0, 1) := by decide +kernel
theorem d_Mo_shape_68 : decode prog_9_method_11_code 68 = .ok (.getfield 7, 3) := by decide +kernel
theorem d_Mo_shape_71 : decode prog_9_method_11_code 71 = .ok (.aload_n 0, 1) := by decide +kernel
theorem d_Mo_shape_72 : decode prog_9_method_11_code 72 = .ok (.getfield 95, 3) := by decide +kernel
theorem d_Mo_shape_75 : decode prog_9_method_11_code 75 = .ok (.iload_n 1, 1) := by decide +kernel
theorem d_Mo_shape_76 : decode prog_9_method_11_code 76 = .ok (.iastore, 1) := by decide +kernel
theorem d_Mo_shape_77 : decode prog_9_method_11_code 77 = .ok (.aload_n 0, 1) := by decide +kernel
theorem d_Mo_shape_78 : decode prog_9_method_11_code 78 = .ok (.getfield 13, 3) := by decide +kernel
theorem d_Mo_shape_81 : decode prog_9_method_11_code 81 = .ok (.aload_n 0, 1) := by decide +kernel
theorem d_Mo_shape_82 : decode prog_9_method_11_code 82 = .ok (.getfield 95, 3) := by decide +kernel
theorem d_Mo_shape_85 : decode prog_9_method_11_code 85 = .ok (.iload_n 2, 1) := by decide +kernel
theorem d_Mo_shape_86 : decode prog_9_method_11_code 86 = .ok (.iastore, 1) := by decide +kernel
theorem d_Mo_shape_87 : decode prog_9_method_11_code 87 = .ok (.aload_n 0, 1) := by decide +kernel
theorem d_Mo_shape_88 : decode prog_9_method_11_code 88 = .ok (.getfield 16, 3) := by decide +kernel
theorem d_Mo_shape_91 : decode prog_9_method_11_code 91 = .ok (.aload_n 0, 1) := by decide +kernel
theorem d_Mo_shape_92 : decode prog_9_method_11_code 92 = .ok (.getfield 95, 3) := by decide +kernel
theorem d_Mo_shape_95 : decode prog_9_method_11_code 95 = .ok (.aload_n 0, 1) := by decide +kernel
theorem d_Mo_shape_96 : decode prog_9_method_11_code 96 = .ok (.getfield 98, 3) := by decide +kernel
theorem d_Mo_shape_99 : decode prog_9_method_11_code 99 = .ok (.iastore, 1) := by decide +kernel
theorem d_Mo_shape_100 : decode prog_9_method_11_code 100 = .ok (.aload_n 0, 1) := by decide +kernel
theorem d_Mo_shape_101 : decode prog_9_method_11_code 101 = .ok (.getfield 19, 3) := by decide +kernel
theorem d_Mo_shape_104 : decode prog_9_method_11_code 104 = .ok (.aload_n 0, 1) := by decide +kernel
theorem d_Mo_shape_105 : decode prog_9_method_11_code 105 = .ok (.getfield 95, 3) := by decide +kernel
theorem d_Mo_shape_108 : decode prog_9_method_11_code 108 = .ok (.iconst 0, 1) := by decide +kernel
theorem d_Mo_shape_109 : decode prog_9_method_11_code 109 = .ok (.bastore, 1) := by decide +kernel
theorem d_Mo_shape_110 : decode prog_9_method_11_code 110 = .ok (.iconst 2, 1) := by decide +kernel
theorem d_Mo_shape_111 : decode prog_9_method_11_code 111 = .ok (.aload_n 0, 1) := by decide +kernel
theorem d_Mo_shape_112 : decode prog_9_method_11_code 112 = .ok (.getfield 98, 3) := by decide +kernel
theorem d_Mo_shape_115 : decode prog_9_method_11_code 115 = .ok (.imul, 1) := by decide +kernel
theorem d_Mo_shape_116 : decode prog_9_method_11_code 116 = .ok (.istore_n 3, 1) := by decide +kernel
theorem d_Mo_shape_117 : decode prog_9_method_11_code 117 = .ok (.iload_n 3, 1) := by decide +kernel
theorem d_Mo_shape_118 : decode prog_9_method_11_code 118 = .ok (.iconst 2, 1) := by decide +kernel
theorem d_Mo_shape_119 : decode prog_9_method_11_code 119 = .ok (.aload_n 0, 1) := by decide +kernel
theorem d_Mo_shape_120 : decode prog_9_method_11_code 120 = .ok (.getfield 98, 3) := by decide +kernel
theorem d_Mo_shape_123 : decode prog_9_method_11_code 123 = .ok (.iload_n 2, 1) := by decide +kernel
theorem d_Mo_shape_124 : decode prog_9_method_11_code 124 = .ok (.iadd, 1) := by decide +kernel
theorem d_Mo_shape_125 : decode prog_9_method_11_code 125 = .ok (.imul, 1) := by decide +kernel
theorem d_Mo_shape_126 : decode prog_9_method_11_code 126 = .ok (.if_icmp .ge 16, 3) := by decide +kernel
theorem d_Mo_shape_129 : decode prog_9_method_11_code 129 = .ok (.aload_n 0, 1) := by decide +kernel
theorem d_Mo_shape_130 : decode prog_9_method_11_code 130 = .ok (.getfield 23, 3) := by decide +kernel
theorem d_Mo_shape_133 : decode prog_9_method_11_code 133 = .ok (.iload_n 3, 1) := by decide +kernel
theorem d_Mo_shape_134 : decode prog_9_method_11_code 134 = .ok (.lconst 0, 1) := by decide +kernel
theorem d_Mo_shape_135 : decode prog_9_method_11_code 135 = .ok (.lastore, 1) := by decide +kernel
theorem d_Mo_shape_136 : decode prog_9_method_11_code 136 = .ok (.iinc 3 1, 3) := by decide +kernel
theorem d_Mo_shape_139 : decode prog_9_method_11_code 139 = .ok (.goto (-22), 3) := by decide +kernel
theorem d_Mo_shape_142 : decode prog_9_method_11_code 142 = .ok (.aload_n 0, 1) := by decide +kernel
theorem d_Mo_shape_143 : decode prog_9_method_11_code 143 = .ok (.dup, 1) := by decide +kernel
theorem d_Mo_shape_144 : decode prog_9_method_11_code 144 = .ok (.getfield 98, 3) := by decide +kernel
theorem d_Mo_shape_147 : decode prog_9_method_11_code 147 = .ok (.iload_n 2, 1) := by decide +kernel
theorem d_Mo_shape_148 : decode prog_9_method_11_code 148 = .ok (.iadd, 1) := by decide +kernel
theorem d_Mo_shape_149 : decode prog_9_method_11_code 149 = .ok (.putfield 98, 3) := by decide +kernel
theorem d_Mo_shape_152 : decode prog_9_method_11_code 152 = .ok (.aload_n 0, 1) := by decide +kernel
theorem d_Mo_shape_153 : decode prog_9_method_11_code 153 = .ok (.dup, 1) := by decide +kernel
theorem d_Mo_shape_154 : decode prog_9_method_11_code 154 = .ok (.getfield 95, 3) := by decide +kernel
theorem d_Mo_shape_157 : decode prog_9_method_11_code 157 = .ok (.iconst 1, 1) := by decide +kernel
theorem d_Mo_shape_158 : decode prog_9_method_11_code 158 = .ok (.iadd, 1) := by decide +kernel
theorem d_Mo_shape_159 : decode prog_9_method_11_code 159 = .ok (.putfield 95, 3) := by decide +kernel
theorem d_Mo_shape_162 : decode prog_9_method_11_code 162 = .ok (.aload_n 0, 1) := by decide +kernel
theorem d_Mo_shape_163 : decode prog_9_method_11_code 163 = .ok (.getfield 95, 3) := by decide +kernel
theorem d_Mo_shape_166 : decode prog_9_method_11_code 166 = .ok (.iconst 1, 1) := by decide +kernel
theorem d_Mo_shape_167 : decode prog_9_method_11_code 167 = .ok (.isub, 1) := by decide +kernel
theorem d_Mo_shape_168 : decode prog_9_method_11_code 168 = .ok (.ireturn, 1) := by decide +kernel
theorem d_Mo_isShape_0 : decode prog_9_method_12_code 0 = .ok (.iload_n 1, 1) := by decide +kernel
theorem d_Mo_isShape_1 : decode prog_9_method_12_code 1 = .ok (.ifCond .lt 15, 3) := by decide +kernel
theorem d_Mo_isShape_4 : decode prog_9_method_12_code 4 = .ok (.iload_n 1, 1) := by decide +kernel
theorem d_Mo_isShape_5 : decode prog_9_method_12_code 5 = .ok (.aload_n 0, 1) := by decide +kernel
theorem d_Mo_isShape_6 : decode prog_9_method_12_code 6 = .ok (.getfield 95, 3) := by decide +kernel
theorem d_Mo_isShape_9 : decode prog_9_method_12_code 9 = .ok (.if_icmp .ge 7, 3) := by decide +kernel
theorem d_Mo_isShape_12 : decode prog_9_method_12_code 12 = .ok (.iconst 1, 1) := by decide +kernel
theorem d_Mo_isShape_13 : decode prog_9_method_12_code 13 = .ok (.goto 4, 3) := by decide +kernel
theorem d_Mo_isShape_16 : decode prog_9_method_12_code 16 = .ok (.iconst 0, 1) := by decide +kernel
theorem d_Mo_isShape_17 : decode prog_9_method_12_code 17 = .ok (.ireturn, 1) := by decide +kernel
theorem d_Mo_highest_0 : decode prog_9_method_13_code 0 = .ok (.iload_n 2, 1) := by decide +kernel
theorem d_Mo_highest_1 : decode prog_9_method_13_code 1 = .ok (.bipush 64, 2) := by decide +kernel
theorem d_Mo_highest_3 : decode prog_9_method_13_code 3 = .ok (.if_icmp .lt 7, 3) := by decide +kernel
theorem d_Mo_highest_6 : decode prog_9_method_13_code 6 = .ok (.lload_n 0, 1) := by decide +kernel
theorem d_Mo_highest_7 : decode prog_9_method_13_code 7 = .ok (.goto 21, 3) := by decide +kernel
theorem d_Mo_highest_10 : decode prog_9_method_13_code 10 = .ok (.iload_n 2, 1) := by decide +kernel
theorem d_Mo_highest_11 : decode prog_9_method_13_code 11 = .ok (.ifCond .gt 7, 3) := by decide +kernel
theorem d_Mo_highest_14 : decode prog_9_method_13_code 14 = .ok (.lconst 0, 1) := by decide +kernel
theorem d_Mo_highest_15 : decode prog_9_method_13_code 15 = .ok (.goto 13, 3) := by decide +kernel
theorem d_Mo_highest_18 : decode prog_9_method_13_code 18 = .ok (.lload_n 0, 1) := by decide +kernel
theorem d_Mo_highest_19 : decode prog_9_method_13_code 19 = .ok (.ldc2_w 49, 3) := by decide +kernel
theorem d_Mo_highest_22 : decode prog_9_method_13_code 22 = .ok (.bipush 64, 2) := by decide +kernel
theorem d_Mo_highest_24 : decode prog_9_method_13_code 24 = .ok (.iload_n 2, 1) := by decide +kernel
theorem d_Mo_highest_25 : decode prog_9_method_13_code 25 = .ok (.isub, 1) := by decide +kernel
theorem d_Mo_highest_26 : decode prog_9_method_13_code 26 = .ok (.lshl, 1) := by decide +kernel
theorem d_Mo_highest_27 : decode prog_9_method_13_code 27 = .ok (.land, 1) := by decide +kernel
theorem d_Mo_highest_28 : decode prog_9_method_13_code 28 = .ok (.lreturn, 1) := by decide +kernel
theorem d_Mo_draw_0 : decode prog_9_method_14_code 0 = .ok (.aload_n 0, 1) := by decide +kernel
theorem d_Mo_draw_1 : decode prog_9_method_14_code 1 = .ok (.iconst 0, 1) := by decide +kernel
theorem d_Mo_draw_2 : decode prog_9_method_14_code 2 = .ok (.putfield 46, 3) := by decide +kernel
theorem d_Mo_draw_5 : decode prog_9_method_14_code 5 = .ok (.aload_n 0, 1) := by decide +kernel
theorem d_Mo_draw_6 : decode prog_9_method_14_code 6 = .ok (.iload_n 1, 1) := by decide +kernel
theorem d_Mo_draw_7 : decode prog_9_method_14_code 7 = .ok (.invokevirtual 101, 3) := by decide +kernel
theorem d_Mo_draw_10 : decode prog_9_method_14_code 10 = .ok (.ifCond .eq 50, 3) := by decide +kernel
theorem d_Mo_draw_13 : decode prog_9_method_14_code 13 = .ok (.iload_n 2, 1) := by decide +kernel
theorem d_Mo_draw_14 : decode prog_9_method_14_code 14 = .ok (.ifCond .lt 46, 3) := by decide +kernel
theorem d_Mo_draw_17 : decode prog_9_method_14_code 17 = .ok (.iload_n 2, 1) := by decide +kernel
theorem d_Mo_draw_18 : decode prog_9_method_14_code 18 = .ok (.aload_n 0, 1) := by decide +kernel
theorem d_Mo_draw_19 : decode prog_9_method_14_code 19 = .ok (.getfield 13, 3) := by decide +kernel
theorem d_Mo_draw_22 : decode prog_9_method_14_code 22 = .ok (.aload_n 0, 1) := by decide +kernel
theorem d_Mo_draw_23 : decode prog_9_method_14_code 23 = .ok (.iload_n 1, 1) := by decide +kernel
theorem d_Mo_draw_24 : decode prog_9_method_14_code 24 = .ok (.invokevirtual 101, 3) := by decide +kernel
theorem d_Mo_draw_27 : decode prog_9_method_14_code 27 = .ok (.ifCond .eq 7, 3) := by decide +kernel
theorem d_Mo_draw_30 : decode prog_9_method_14_code 30 = .ok (.iload_n 1, 1) := by decide +kernel
theorem d_Mo_draw_31 : decode prog_9_method_14_code 31 = .ok (.goto 4, 3) := by decide +kernel
theorem d_Mo_draw_34 : decode prog_9_method_14_code 34 = .ok (.iconst 0, 1) := by decide +kernel
theorem d_Mo_draw_35 : decode prog_9_method_14_code 35 = .ok (.iaload, 1) := by decide +kernel
theorem d_Mo_draw_36 : decode prog_9_method_14_code 36 = .ok (.if_icmp .ge 24, 3) := by decide +kernel
theorem d_Mo_draw_39 : decode prog_9_method_14_code 39 = .ok (.aload_n 0, 1) := by decide +kernel
theorem d_Mo_draw_40 : decode prog_9_method_14_code 40 = .ok (.getfield 19, 3) := by decide +kernel
theorem d_Mo_draw_43 : decode prog_9_method_14_code 43 = .ok (.aload_n 0, 1) := by decide +kernel
theorem d_Mo_draw_44 : decode prog_9_method_14_code 44 = .ok (.iload_n 1, 1) := by decide +kernel
theorem d_Mo_draw_45 : decode prog_9_method_14_code 45 = .ok (.invokevirtual 101, 3) := by decide +kernel
theorem d_Mo_draw_48 : decode prog_9_method_14_code 48 = .ok (.ifCond .eq 7, 3) := by decide +kernel
theorem d_Mo_draw_51 : decode prog_9_method_14_code 51 = .ok (.iload_n 1, 1) := by decide +kernel
theorem d_Mo_draw_52 : decode prog_9_method_14_code 52 = .ok (.goto 4, 3) := by decide +kernel
theorem d_Mo_draw_55 : decode prog_9_method_14_code 55 = .ok (.iconst 0, 1) := by decide +kernel
theorem d_Mo_draw_56 : decode prog_9_method_14_code 56 = .ok (.baload, 1) := by decide +kernel
theorem d_Mo_draw_57 : decode prog_9_method_14_code 57 = .ok (.ifCond .eq 5, 3) := by decide +kernel
theorem d_Mo_draw_60 : decode prog_9_method_14_code 60 = .ok (.iconst 0, 1) := by decide +kernel
theorem d_Mo_draw_61 : decode prog_9_method_14_code 61 = .ok (.ireturn, 1) := by decide +kernel
theorem d_Mo_draw_62 : decode prog_9_method_14_code 62 = .ok (.iconst 2, 1) := by decide +kernel
theorem d_Mo_draw_63 : decode prog_9_method_14_code 63 = .ok (.aload_n 0, 1) := by decide +kernel
theorem d_Mo_draw_64 : decode prog_9_method_14_code 64 = .ok (.getfield 16, 3) := by decide +kernel
theorem d_Mo_draw_67 : decode prog_9_method_14_code 67 = .ok (.iload_n 1, 1) := by decide +kernel
theorem d_Mo_draw_68 : decode prog_9_method_14_code 68 = .ok (.iaload, 1) := by decide +kernel
theorem d_Mo_draw_69 : decode prog_9_method_14_code 69 = .ok (.iload_n 2, 1) := by decide +kernel
theorem d_Mo_draw_70 : decode prog_9_method_14_code 70 = .ok (.iadd, 1) := by decide +kernel
theorem d_Mo_draw_71 : decode prog_9_method_14_code 71 = .ok (.imul, 1) := by decide +kernel
theorem d_Mo_draw_72 : decode prog_9_method_14_code 72 = .ok (.istore 7, 2) := by decide +kernel
theorem d_Mo_draw_74 : decode prog_9_method_14_code 74 = .ok (.aload_n 0, 1) := by decide +kernel
theorem d_Mo_draw_75 : decode prog_9_method_14_code 75 = .ok (.getfield 23, 3) := by decide +kernel
theorem d_Mo_draw_78 : decode prog_9_method_14_code 78 = .ok (.iload 7, 2) := by decide +kernel
theorem d_Mo_draw_80 : decode prog_9_method_14_code 80 = .ok (.lload_n 3, 1) := by decide +kernel
theorem d_Mo_draw_81 : decode prog_9_method_14_code 81 = .ok (.aload_n 0, 1) := by decide +kernel
theorem d_Mo_draw_82 : decode prog_9_method_14_code 82 = .ok (.getfield 7, 3) := by decide +kernel
theorem d_Mo_draw_85 : decode prog_9_method_14_code 85 = .ok (.iload_n 1, 1) := by decide +kernel
theorem d_Mo_draw_86 : decode prog_9_method_14_code 86 = .ok (.iaload, 1) := by decide +kernel
theorem d_Mo_draw_87 : decode prog_9_method_14_code 87 = .ok (.invokestatic 105, 3) := by decide +kernel
theorem d_Mo_draw_90 : decode prog_9_method_14_code 90 = .ok (.lastore, 1) := by decide +kernel
theorem d_Mo_draw_91 : decode prog_9_method_14_code 91 = .ok (.aload_n 0, 1) := by decide +kernel
theorem d_Mo_draw_92 : decode prog_9_method_14_code 92 = .ok (.getfield 23, 3) := by decide +kernel
theorem d_Mo_draw_95 : decode prog_9_method_14_code 95 = .ok (.iload 7, 2) := by decide +kernel
theorem d_Mo_draw_97 : decode prog_9_method_14_code 97 = .ok (.iconst 1, 1) := by decide +kernel
theorem d_Mo_draw_98 : decode prog_9_method_14_code 98 = .ok (.iadd, 1) := by decide +kernel
theorem d_Mo_draw_99 : decode prog_9_method_14_code 99 = .ok (.lload 5, 2) := by decide +kernel
theorem d_Mo_draw_101 : decode prog_9_method_14_code 101 = .ok (.aload_n 0, 1) := by decide +kernel
theorem d_Mo_draw_102 : decode prog_9_method_14_code 102 = .ok (.getfield 7, 3) := by decide +kernel
theorem d_Mo_draw_105 : decode prog_9_method_14_code 105 = .ok (.iload_n 1, 1) := by decide +kernel
theorem d_Mo_draw_106 : decode prog_9_method_14_code 106 = .ok (.iaload, 1) := by decide +kernel
theorem d_Mo_draw_107 : decode prog_9_method_14_code 107 = .ok (.bipush 64, 2) := by decide +kernel
theorem d_Mo_draw_109 : decode prog_9_method_14_code 109 = .ok (.isub, 1) := by decide +kernel
theorem d_Mo_draw_110 : decode prog_9_method_14_code 110 = .ok (.invokestatic 105, 3) := by decide +kernel
theorem d_Mo_draw_113 : decode prog_9_method_14_code 113 = .ok (.lastore, 1) := by decide +kernel
theorem d_Mo_draw_114 : decode prog_9_method_14_code 114 = .ok (.iconst 1, 1) := by decide +kernel
theorem d_Mo_draw_115 : decode prog_9_method_14_code 115 = .ok (.ireturn, 1) := by decide +kernel
theorem d_Mo_shapeDot_0 : decode prog_9_method_15_code 0 = .ok (.aload_n 0, 1) := by decide +kernel
theorem d_Mo_shapeDot_1 : decode prog_9_method_15_code 1 = .ok (.getfield 23, 3) := by decide +kernel
theorem d_Mo_shapeDot_4 : decode prog_9_method_15_code 4 = .ok (.iconst 2, 1) := by decide +kernel
theorem d_Mo_shapeDot_5 : decode prog_9_method_15_code 5 = .ok (.aload_n 0, 1) := by decide +kernel
theorem d_Mo_shapeDot_6 : decode prog_9_method_15_code 6 = .ok (.getfield 16, 3) := by decide +kernel
theorem d_Mo_shapeDot_9 : decode prog_9_method_15_code 9 = .ok (.iload_n 1, 1) := by decide +kernel
theorem d_Mo_shapeDot_10 : decode prog_9_method_15_code 10 = .ok (.iaload, 1) := by decide +kernel
theorem d_Mo_shapeDot_11 : decode prog_9_method_15_code 11 = .ok (.iload_n 3, 1) := by decide +kernel
theorem d_Mo_shapeDot_12 : decode prog_9_method_15_code 12 = .ok (.iadd, 1) := by decide +kernel
theorem d_Mo_shapeDot_13 : decode prog_9_method_15_code 13 = .ok (.imul, 1) := by decide +kernel
theorem d_Mo_shapeDot_14 : decode prog_9_method_15_code 14 = .ok (.iload_n 2, 1) := by decide +kernel
theorem d_Mo_shapeDot_15 : decode prog_9_method_15_code 15 = .ok (.bipush 64, 2) := by decide +kernel
theorem d_Mo_shapeDot_17 : decode prog_9_method_15_code 17 = .ok (.idiv, 1) := by decide +kernel
theorem d_Mo_shapeDot_18 : decode prog_9_method_15_code 18 = .ok (.iadd, 1) := by decide +kernel
theorem d_Mo_shapeDot_19 : decode prog_9_method_15_code 19 = .ok (.laload, 1) := by decide +kernel
theorem d_Mo_shapeDot_20 : decode prog_9_method_15_code 20 = .ok (.bipush 63, 2) := by decide +kernel
theorem d_Mo_shapeDot_22 : decode prog_9_method_15_code 22 = .ok (.iload_n 2, 1) := by decide +kernel
theorem d_Mo_shapeDot_23 : decode prog_9_method_15_code 23 = .ok (.bipush 64, 2) := by decide +kernel
theorem d_Mo_shapeDot_25 : decode prog_9_method_15_code 25 = .ok (.irem, 1) := by decide +kernel
theorem d_Mo_shapeDot_26 : decode prog_9_method_15_code 26 = .ok (.isub, 1) := by decide +kernel
theorem d_Mo_shapeDot_27 : decode prog_9_method_15_code 27 = .ok (.lshr, 1) := by decide +kernel
theorem d_Mo_shapeDot_28 : decode prog_9_method_15_code 28 = .ok (.lconst 1, 1) := by decide +kernel
theorem d_Mo_shapeDot_29 : decode prog_9_method_15_code 29 = .ok (.land, 1) := by decide +kernel
theorem d_Mo_shapeDot_30 : decode prog_9_method_15_code 30 = .ok (.lconst 1, 1) := by decide +kernel
theorem d_Mo_shapeDot_31 : decode prog_9_method_15_code 31 = .ok (.lcmp, 1) := by decide +kernel
theorem d_Mo_shapeDot_32 : decode prog_9_method_15_code 32 = .ok (.ifCond .ne 7, 3) := by decide +kernel
theorem d_Mo_shapeDot_35 : decode prog_9_method_15_code 35 = .ok (.iconst 1, 1) := by decide +kernel
theorem d_Mo_shapeDot_36 : decode prog_9_method_15_code 36 = .ok (.goto 4, 3) := by decide +kernel
theorem d_Mo_shapeDot_39 : decode prog_9_method_15_code 39 = .ok (.iconst 0, 1) := by decide +kernel
theorem d_Mo_shapeDot_40 : decode prog_9_method_15_code 40 = .ok (.ireturn, 1) := by decide +kernel
theorem d_Mo_ink_0 : decode prog_9_method_16_code 0 = .ok (.aload_n 0, 1) := by decide +kernel
theorem d_Mo_ink_1 : decode prog_9_method_16_code 1 = .ok (.iconst 0, 1) := by decide +kernel
theorem d_Mo_ink_2 : decode prog_9_method_16_code 2 = .ok (.putfield 46, 3) := by decide +kernel
theorem d_Mo_ink_5 : decode prog_9_method_16_code 5 = .ok (.iload_n 1, 1) := by decide +kernel
theorem d_Mo_ink_6 : decode prog_9_method_16_code 6 = .ok (.ifCond .eq 40, 3) := by decide +kernel
theorem d_Mo_ink_9 : decode prog_9_method_16_code 9 = .ok (.iload_n 1, 1) := by decide +kernel
theorem d_Mo_ink_10 : decode prog_9_method_16_code 10 = .ok (.iconst 1, 1) := by decide +kernel
theorem d_Mo_ink_11 : decode prog_9_method_16_code 11 = .ok (.if_icmp .eq 35, 3) := by decide +kernel
theorem d_Mo_ink_14 : decode prog_9_method_16_code 14 = .ok (.iload_n 1, 1) := by decide +kernel
theorem d_Mo_ink_15 : decode prog_9_method_16_code 15 = .ok (.iconst 2, 1) := by decide +kernel
theorem d_Mo_ink_16 : decode prog_9_method_16_code 16 = .ok (.if_icmp .ne 14, 3) := by decide +kernel
theorem d_Mo_ink_19 : decode prog_9_method_16_code 19 = .ok (.iload_n 2, 1) := by decide +kernel
theorem d_Mo_ink_20 : decode prog_9_method_16_code 20 = .ok (.iconst 1, 1) := by decide +kernel
theorem d_Mo_ink_21 : decode prog_9_method_16_code 21 = .ok (.if_icmp .lt 9, 3) := by decide +kernel
theorem d_Mo_ink_24 : decode prog_9_method_16_code 24 = .ok (.iload_n 2, 1) := by decide +kernel
theorem d_Mo_ink_25 : decode prog_9_method_16_code 25 = .ok (.bipush 100, 2) := by decide +kernel
theorem d_Mo_ink_27 : decode prog_9_method_16_code 27 = .ok (.if_icmp .le 19, 3) := by decide +kernel
theorem d_Mo_ink_30 : decode prog_9_method_16_code 30 = .ok (.iload_n 1, 1) := by decide +kernel
theorem d_Mo_ink_31 : decode prog_9_method_16_code 31 = .ok (.iconst 3, 1) := by decide +kernel
theorem d_Mo_ink_32 : decode prog_9_method_16_code 32 = .ok (.if_icmp .ne 18, 3) := by decide +kernel
theorem d_Mo_ink_35 : decode prog_9_method_16_code 35 = .ok (.iload_n 2, 1) := by decide +kernel
theorem d_Mo_ink_36 : decode prog_9_method_16_code 36 = .ok (.iconst 1, 1) := by decide +kernel
theorem d_Mo_ink_37 : decode prog_9_method_16_code 37 = .ok (.if_icmp .lt 13, 3) := by decide +kernel
theorem d_Mo_ink_40 : decode prog_9_method_16_code 40 = .ok (.iload_n 2, 1) := by decide +kernel
theorem d_Mo_ink_41 : decode prog_9_method_16_code 41 = .ok (.bipush 6, 2) := by decide +kernel
theorem d_Mo_ink_43 : decode prog_9_method_16_code 43 = .ok (.if_icmp .gt 7, 3) := by decide +kernel
theorem d_Mo_ink_46 : decode prog_9_method_16_code 46 = .ok (.iconst 1, 1) := by decide +kernel
theorem d_Mo_ink_47 : decode prog_9_method_16_code 47 = .ok (.goto 4, 3) := by decide +kernel
theorem d_Mo_ink_50 : decode prog_9_method_16_code 50 = .ok (.iconst 0, 1) := by decide +kernel
theorem d_Mo_ink_51 : decode prog_9_method_16_code 51 = .ok (.istore_n 3, 1) := by decide +kernel
theorem d_Mo_ink_52 : decode prog_9_method_16_code 52 = .ok (.iload_n 3, 1) := by decide +kernel
theorem d_Mo_ink_53 : decode prog_9_method_16_code 53 = .ok (.ifCond .eq 22, 3) := by decide +kernel
theorem d_Mo_ink_56 : decode prog_9_method_16_code 56 = .ok (.aload_n 0, 1) := by decide +kernel
theorem d_Mo_ink_57 : decode prog_9_method_16_code 57 = .ok (.iload_n 1, 1) := by decide +kernel
theorem d_Mo_ink_58 : decode prog_9_method_16_code 58 = .ok (.putfield 51, 3) := by decide +kernel
theorem d_Mo_ink_61 : decode prog_9_method_16_code 61 = .ok (.aload_n 0, 1) := by decide +kernel
theorem d_Mo_ink_62 : decode prog_9_method_16_code 62 = .ok (.iload_n 1, 1) := by decide +kernel
theorem d_Mo_ink_63 : decode prog_9_method_16_code 63 = .ok (.iconst 2, 1) := by decide +kernel
theorem d_Mo_ink_64 : decode prog_9_method_16_code 64 = .ok (.if_icmp .ge 7, 3) := by decide +kernel
theorem d_Mo_ink_67 : decode prog_9_method_16_code 67 = .ok (.iconst 0, 1) := by decide +kernel
theorem d_Mo_ink_68 : decode prog_9_method_16_code 68 = .ok (.goto 4, 3) := by decide +kernel
theorem d_Mo_ink_71 : decode prog_9_method_16_code 71 = .ok (.iload_n 2, 1) := by decide +kernel
theorem d_Mo_ink_72 : decode prog_9_method_16_code 72 = .ok (.putfield 58, 3) := by decide +kernel
theorem d_Mo_ink_75 : decode prog_9_method_16_code 75 = .ok (.iload_n 3, 1) := by decide +kernel
theorem d_Mo_ink_76 : decode prog_9_method_16_code 76 = .ok (.ireturn, 1) := by decide +kernel
theorem d_Mo_mode_0 : decode prog_9_method_17_code 0 = .ok (.aload_n 0, 1) := by decide +kernel
theorem d_Mo_mode_1 : decode prog_9_method_17_code 1 = .ok (.iconst 0, 1) := by decide +kernel
theorem d_Mo_mode_2 : decode prog_9_method_17_code 2 = .ok (.putfield 46, 3) := by decide +kernel
theorem d_Mo_mode_5 : decode prog_9_method_17_code 5 = .ok (.aload_n 0, 1) := by decide +kernel
theorem d_Mo_mode_6 : decode prog_9_method_17_code 6 = .ok (.iload_n 1, 1) := by decide +kernel
theorem d_Mo_mode_7 : decode prog_9_method_17_code 7 = .ok (.putfield 75, 3) := by decide +kernel
theorem d_Mo_mode_10 : decode prog_9_method_17_code 10 = .ok (.aload_n 0, 1) := by decide +kernel
theorem d_Mo_mode_11 : decode prog_9_method_17_code 11 = .ok (.iload_n 2, 1) := by decide +kernel
theorem d_Mo_mode_12 : decode prog_9_method_17_code 12 = .ok (.putfield 86, 3) := by decide +kernel
theorem d_Mo_mode_15 : decode prog_9_method_17_code 15 = .ok (.return_, 1) := by decide +kernel
theorem d_Mo_turn_0 : decode prog_9_method_18_code 0 = .ok (.aload_n 0, 1) := by decide +kernel
theorem d_Mo_turn_1 : decode prog_9_method_18_code 1 = .ok (.iconst 0, 1) := by decide +kernel
theorem d_Mo_turn_2 : decode prog_9_method_18_code 2 = .ok (.putfield 46, 3) := by decide +kernel
theorem d_Mo_turn_5 : decode prog_9_method_18_code 5 = .ok (.iload_n 1, 1) := by decide +kernel
theorem d_Mo_turn_6 : decode prog_9_method_18_code 6 = .ok (.ifCond .lt 8, 3) := by decide +kernel
theorem d_Mo_turn_9 : decode prog_9_method_18_code 9 = .ok (.iload_n 1, 1) := by decide +kernel
theorem d_Mo_turn_10 : decode prog_9_method_18_code 10 = .ok (.iconst 3, 1) := by decide +kernel
theorem d_Mo_turn_11 : decode prog_9_method_18_code 11 = .ok (.if_icmp .le 5, 3) := by decide +kernel
theorem d_Mo_turn_14 : decode prog_9_method_18_code 14 = .ok (.iconst 0, 1) := by decide +kernel
theorem d_Mo_turn_15 : decode prog_9_method_18_code 15 = .ok (.ireturn, 1) := by decide +kernel
theorem d_Mo_turn_16 : decode prog_9_method_18_code 16 = .ok (.aload_n 0, 1) := by decide +kernel
theorem d_Mo_turn_17 : decode prog_9_method_18_code 17 = .ok (.iload_n 1, 1) := by decide +kernel
theorem d_Mo_turn_18 : decode prog_9_method_18_code 18 = .ok (.putfield 89, 3) := by decide +kernel
theorem d_Mo_turn_21 : decode prog_9_method_18_code 21 = .ok (.iconst 1, 1) := by decide +kernel
theorem d_Mo_turn_22 : decode prog_9_method_18_code 22 = .ok (.ireturn, 1) := by decide +kernel
theorem d_Mo_clip_0 : decode prog_9_method_19_code 0 = .ok (.aload_n 0, 1) := by decide +kernel
theorem d_Mo_clip_1 : decode prog_9_method_19_code 1 = .ok (.iconst 0, 1) := by decide +kernel
theorem d_Mo_clip_2 : decode prog_9_method_19_code 2 = .ok (.putfield 46, 3) := by decide +kernel
theorem d_Mo_clip_5 : decode prog_9_method_19_code 5 = .ok (.iload_n 1, 1) := by decide +kernel
theorem d_Mo_clip_6 : decode prog_9_method_19_code 6 = .ok (.iload_n 3, 1) := by decide +kernel
theorem d_Mo_clip_7 : decode prog_9_method_19_code 7 = .ok (.if_icmp .gt 9, 3) := by decide +kernel
theorem d_Mo_clip_10 : decode prog_9_method_19_code 10 = .ok (.iload_n 2, 1) := by decide +kernel
theorem d_Mo_clip_11 : decode prog_9_method_19_code 11 = .ok (.iload 4, 2) := by decide +kernel
theorem d_Mo_clip_13 : decode prog_9_method_19_code 13 = .ok (.if_icmp .le 5, 3) := by decide +kernel
theorem d_Mo_clip_16 : decode prog_9_method_19_code 16 = .ok (.iconst 0, 1) := by decide +kernel
theorem d_Mo_clip_17 : decode prog_9_method_19_code 17 = .ok (.ireturn, 1) := by decide +kernel
theorem d_Mo_clip_18 : decode prog_9_method_19_code 18 = .ok (.aload_n 0, 1) := by decide +kernel
theorem d_Mo_clip_19 : decode prog_9_method_19_code 19 = .ok (.iload_n 1, 1) := by decide +kernel
theorem d_Mo_clip_20 : decode prog_9_method_19_code 20 = .ok (.putfield 69, 3) := by decide +kernel
theorem d_Mo_clip_23 : decode prog_9_method_19_code 23 = .ok (.aload_n 0, 1) := by decide +kernel
theorem d_Mo_clip_24 : decode prog_9_method_19_code 24 = .ok (.iload_n 2, 1) := by decide +kernel
theorem d_Mo_clip_25 : decode prog_9_method_19_code 25 = .ok (.putfield 72, 3) := by decide +kernel
theorem d_Mo_clip_28 : decode prog_9_method_19_code 28 = .ok (.aload_n 0, 1) := by decide +kernel
theorem d_Mo_clip_29 : decode prog_9_method_19_code 29 = .ok (.iload_n 3, 1) := by decide +kernel
theorem d_Mo_clip_30 : decode prog_9_method_19_code 30 = .ok (.putfield 40, 3) := by decide +kernel
theorem d_Mo_clip_33 : decode prog_9_method_19_code 33 = .ok (.aload_n 0, 1) := by decide +kernel
theorem d_Mo_clip_34 : decode prog_9_method_19_code 34 = .ok (.iload 4, 2) := by decide +kernel
theorem d_Mo_clip_36 : decode prog_9_method_19_code 36 = .ok (.putfield 43, 3) := by decide +kernel
theorem d_Mo_clip_39 : decode prog_9_method_19_code 39 = .ok (.iconst 1, 1) := by decide +kernel
theorem d_Mo_clip_40 : decode prog_9_method_19_code 40 = .ok (.ireturn, 1) := by decide +kernel
theorem d_Mo_isPlace_0 : decode prog_9_method_20_code 0 = .ok (.iload_n 0, 1) := by decide +kernel
theorem d_Mo_isPlace_1 : decode prog_9_method_20_code 1 = .ok (.sipush (-10000), 3) := by decide +kernel
theorem d_Mo_isPlace_4 : decode prog_9_method_20_code 4 = .ok (.if_icmp .lt 14, 3) := by decide +kernel
theorem d_Mo_isPlace_7 : decode prog_9_method_20_code 7 = .ok (.iload_n 0, 1) := by decide +kernel
theorem d_Mo_isPlace_8 : decode prog_9_method_20_code 8 = .ok (.sipush 10000, 3) := by decide +kernel
theorem d_Mo_isPlace_11 : decode prog_9_method_20_code 11 = .ok (.if_icmp .gt 7, 3) := by decide +kernel
theorem d_Mo_isPlace_14 : decode prog_9_method_20_code 14 = .ok (.iconst 1, 1) := by decide +kernel
theorem d_Mo_isPlace_15 : decode prog_9_method_20_code 15 = .ok (.goto 4, 3) := by decide +kernel
theorem d_Mo_isPlace_18 : decode prog_9_method_20_code 18 = .ok (.iconst 0, 1) := by decide +kernel
theorem d_Mo_isPlace_19 : decode prog_9_method_20_code 19 = .ok (.ireturn, 1) := by decide +kernel
theorem d_Mo_stamp_0 : decode prog_9_method_21_code 0 = .ok (.aload_n 0, 1) := by decide +kernel
theorem d_Mo_stamp_1 : decode prog_9_method_21_code 1 = .ok (.iconst 0, 1) := by decide +kernel
theorem d_Mo_stamp_2 : decode prog_9_method_21_code 2 = .ok (.putfield 46, 3) := by decide +kernel
theorem d_Mo_stamp_5 : decode prog_9_method_21_code 5 = .ok (.aload_n 0, 1) := by decide +kernel
theorem d_Mo_stamp_6 : decode prog_9_method_21_code 6 = .ok (.iload_n 1, 1) := by decide +kernel
theorem d_Mo_stamp_7 : decode prog_9_method_21_code 7 = .ok (.invokevirtual 101, 3) := by decide +kernel
theorem d_Mo_stamp_10 : decode prog_9_method_21_code 10 = .ok (.ifCond .eq 27, 3) := by decide +kernel
theorem d_Mo_stamp_13 : decode prog_9_method_21_code 13 = .ok (.iload_n 2, 1) := by decide +kernel
theorem d_Mo_stamp_14 : decode prog_9_method_21_code 14 = .ok (.invokestatic 109, 3) := by decide +kernel
theorem d_Mo_stamp_17 : decode prog_9_method_21_code 17 = .ok (.ifCond .eq 20, 3) := by decide +kernel
theorem d_Mo_stamp_20 : decode prog_9_method_21_code 20 = .ok (.iload_n 3, 1) := by decide +kernel
theorem d_Mo_stamp_21 : decode prog_9_method_21_code 21 = .ok (.invokestatic 109, 3) := by decide +kernel
theorem d_Mo_stamp_24 : decode prog_9_method_21_code 24 = .ok (.ifCond .eq 13, 3) := by decide +kernel
theorem d_Mo_stamp_27 : decode prog_9_method_21_code 27 = .ok (.aload_n 0, 1) := by decide +kernel
theorem d_Mo_stamp_28 : decode prog_9_method_21_code 28 = .ok (.getfield 112, 3) := by decide +kernel
theorem d_Mo_stamp_31 : decode prog_9_method_21_code 31 = .ok (.sipush 4096, 3) := by decide +kernel
theorem d_Mo_stamp_34 : decode prog_9_method_21_code 34 = .ok (.if_icmp .ne 5, 3) := by decide +kernel
theorem d_Mo_stamp_37 : decode prog_9_method_21_code 37 = .ok (.iconst 0, 1) := by decide +kernel
theorem d_Mo_stamp_38 : decode prog_9_method_21_code 38 = .ok (.ireturn, 1) := by decide +kernel
theorem d_Mo_stamp_39 : decode prog_9_method_21_code 39 = .ok (.aload_n 0, 1) := by decide +kernel
theorem d_Mo_stamp_40 : decode prog_9_method_21_code 40 = .ok (.dup, 1) := by decide +kernel
theorem d_Mo_stamp_41 : decode prog_9_method_21_code 41 = .ok (.getfield 112, 3) := by decide +kernel
theorem d_Mo_stamp_44 : decode prog_9_method_21_code 44 = .ok (.iconst 1, 1) := by decide +kernel
theorem d_Mo_stamp_45 : decode prog_9_method_21_code 45 = .ok (.iadd, 1) := by decide +kernel
theorem d_Mo_stamp_46 : decode prog_9_method_21_code 46 = .ok (.putfield 112, 3) := by decide +kernel
theorem d_Mo_stamp_49 : decode prog_9_method_21_code 49 = .ok (.aload_n 0, 1) := by decide +kernel
theorem d_Mo_stamp_50 : decode prog_9_method_21_code 50 = .ok (.getfield 19, 3) := by decide +kernel
theorem d_Mo_stamp_53 : decode prog_9_method_21_code 53 = .ok (.iload_n 1, 1) := by decide +kernel
theorem d_Mo_stamp_54 : decode prog_9_method_21_code 54 = .ok (.iconst 1, 1) := by decide +kernel
theorem d_Mo_stamp_55 : decode prog_9_method_21_code 55 = .ok (.bastore, 1) := by decide +kernel
theorem d_Mo_stamp_56 : decode prog_9_method_21_code 56 = .ok (.iconst 0, 1) := by decide +kernel
theorem d_Mo_stamp_57 : decode prog_9_method_21_code 57 = .ok (.istore 4, 2) := by decide +kernel
theorem d_Mo_stamp_59 : decode prog_9_method_21_code 59 = .ok (.iload 4, 2) := by decide +kernel
theorem d_Mo_stamp_61 : decode prog_9_method_21_code 61 = .ok (.aload_n 0, 1) := by decide +kernel
theorem d_Mo_stamp_62 : decode prog_9_method_21_code 62 = .ok (.getfield 13, 3) := by decide +kernel
theorem d_Mo_stamp_65 : decode prog_9_method_21_code 65 = .ok (.iload_n 1, 1) := by decide +kernel
theorem d_Mo_stamp_66 : decode prog_9_method_21_code 66 = .ok (.iaload, 1) := by decide +kernel
theorem d_Mo_stamp_67 : decode prog_9_method_21_code 67 = .ok (.if_icmp .ge 48, 3) := by decide +kernel
theorem d_Mo_stamp_70 : decode prog_9_method_21_code 70 = .ok (.iconst 0, 1) := by decide +kernel
theorem d_Mo_stamp_71 : decode prog_9_method_21_code 71 = .ok (.istore 5, 2) := by decide +kernel
theorem d_Mo_stamp_73 : decode prog_9_method_21_code 73 = .ok (.iload 5, 2) := by decide +kernel
theorem d_Mo_stamp_75 : decode prog_9_method_21_code 75 = .ok (.aload_n 0, 1) := by decide +kernel
theorem d_Mo_stamp_76 : decode prog_9_method_21_code 76 = .ok (.getfield 7, 3) := by decide +kernel
theorem d_Mo_stamp_79 : decode prog_9_method_21_code 79 = .ok (.iload_n 1, 1) := by decide +kernel
theorem d_Mo_stamp_80 : decode prog_9_method_21_code 80 = .ok (.iaload, 1) := by decide +kernel
theorem d_Mo_stamp_81 : decode prog_9_method_21_code 81 = .ok (.if_icmp .ge 28, 3) := by decide +kernel
theorem d_Mo_stamp_84 : decode prog_9_method_21_code 84 = .ok (.aload_n 0, 1) := by decide +kernel
theorem d_Mo_stamp_85 : decode prog_9_method_21_code 85 = .ok (.iload_n 2, 1) := by decide +kernel
theorem d_Mo_stamp_86 : decode prog_9_method_21_code 86 = .ok (.iload_n 3, 1) := by decide +kernel
theorem d_Mo_stamp_87 : decode prog_9_method_21_code 87 = .ok (.iload 5, 2) := by decide +kernel
theorem d_Mo_stamp_89 : decode prog_9_method_21_code 89 = .ok (.iload 4, 2) := by decide +kernel
theorem d_Mo_stamp_91 : decode prog_9_method_21_code 91 = .ok (.aload_n 0, 1) := by decide +kernel
theorem d_Mo_stamp_92 : decode prog_9_method_21_code 92 = .ok (.iload_n 1, 1) := by decide +kernel
theorem d_Mo_stamp_93 : decode prog_9_method_21_code 93 = .ok (.iload 5, 2) := by decide +kernel
theorem d_Mo_stamp_95 : decode prog_9_method_21_code 95 = .ok (.iload 4, 2) := by decide +kernel
theorem d_Mo_stamp_97 : decode prog_9_method_21_code 97 = .ok (.invokevirtual 115, 3) := by decide +kernel
theorem d_Mo_stamp_100 : decode prog_9_method_21_code 100 = .ok (.invokevirtual 118, 3) := by decide +kernel
theorem d_Mo_stamp_103 : decode prog_9_method_21_code 103 = .ok (.iinc 5 1, 3) := by decide +kernel
theorem d_Mo_stamp_106 : decode prog_9_method_21_code 106 = .ok (.goto (-33), 3) := by decide +kernel
theorem d_Mo_stamp_109 : decode prog_9_method_21_code 109 = .ok (.iinc 4 1, 3) := by decide +kernel
theorem d_Mo_stamp_112 : decode prog_9_method_21_code 112 = .ok (.goto (-53), 3) := by decide +kernel
theorem d_Mo_stamp_115 : decode prog_9_method_21_code 115 = .ok (.iconst 1, 1) := by decide +kernel
theorem d_Mo_stamp_116 : decode prog_9_method_21_code 116 = .ok (.ireturn, 1) := by decide +kernel
theorem d_Mo_most_0 : decode prog_9_method_22_code 0 = .ok (.iload_n 0, 1) := by decide +kernel
theorem d_Mo_most_1 : decode prog_9_method_22_code 1 = .ok (.iload_n 1, 1) := by decide +kernel
theorem d_Mo_most_2 : decode prog_9_method_22_code 2 = .ok (.if_icmp .le 7, 3) := by decide +kernel
theorem d_Mo_most_5 : decode prog_9_method_22_code 5 = .ok (.iload_n 0, 1) := by decide +kernel
theorem d_Mo_most_6 : decode prog_9_method_22_code 6 = .ok (.goto 4, 3) := by decide +kernel
theorem d_Mo_most_9 : decode prog_9_method_22_code 9 = .ok (.iload_n 1, 1) := by decide +kernel
theorem d_Mo_most_10 : decode prog_9_method_22_code 10 = .ok (.ireturn, 1) := by decide +kernel
theorem d_Mo_least_0 : decode prog_9_method_23_code 0 = .ok (.iload_n 0, 1) := by decide +kernel
theorem d_Mo_least_1 : decode prog_9_method_23_code 1 = .ok (.iload_n 1, 1) := by decide +kernel
theorem d_Mo_least_2 : decode prog_9_method_23_code 2 = .ok (.if_icmp .ge 7, 3) := by decide +kernel
theorem d_Mo_least_5 : decode prog_9_method_23_code 5 = .ok (.iload_n 0, 1) := by decide +kernel
theorem d_Mo_least_6 : decode prog_9_method_23_code 6 = .ok (.goto 4, 3) := by decide +kernel
theorem d_Mo_least_9 : decode prog_9_method_23_code 9 = .ok (.iload_n 1, 1) := by decide +kernel
theorem d_Mo_least_10 : decode prog_9_method_23_code 10 = .ok (.ireturn, 1) := by decide +kernel
theorem d_Mo_rule_0 : decode prog_9_method_24_code 0 = .ok (.aload_n 0, 1) := by decide +kernel
theorem d_Mo_rule_1 : decode prog_9_method_24_code 1 = .ok (.iconst 0, 1) := by decide +kernel
theorem d_Mo_rule_2 : decode prog_9_method_24_code 2 = .ok (.putfield 46, 3) := by decide +kernel
theorem d_Mo_rule_5 : decode prog_9_method_24_code 5 = .ok (.iload_n 1, 1) := by decide +kernel
theorem d_Mo_rule_6 : decode prog_9_method_24_code 6 = .ok (.invokestatic 109, 3) := by decide +kernel
theorem d_Mo_rule_9 : decode prog_9_method_24_code 9 = .ok (.ifCond .eq 46, 3) := by decide +kernel
theorem d_Mo_rule_12 : decode prog_9_method_24_code 12 = .ok (.iload_n 2, 1) := by decide +kernel
theorem d_Mo_rule_13 : decode prog_9_method_24_code 13 = .ok (.invokestatic 109, 3) := by decide +kernel
theorem d_Mo_rule_16 : decode prog_9_method_24_code 16 = .ok (.ifCond .eq 39, 3) := by decide +kernel
theorem d_Mo_rule_19 : decode prog_9_method_24_code 19 = .ok (.iload_n 3, 1) := by decide +kernel
theorem d_Mo_rule_20 : decode prog_9_method_24_code 20 = .ok (.iconst 1, 1) := by decide +kernel
theorem d_Mo_rule_21 : decode prog_9_method_24_code 21 = .ok (.if_icmp .lt 34, 3) := by decide +kernel
theorem d_Mo_rule_24 : decode prog_9_method_24_code 24 = .ok (.iload_n 3, 1) := by decide +kernel
theorem d_Mo_rule_25 : decode prog_9_method_24_code 25 = .ok (.sipush 10000, 3) := by decide +kernel
theorem d_Mo_rule_28 : decode prog_9_method_24_code 28 = .ok (.if_icmp .gt 27, 3) := by decide +kernel
theorem d_Mo_rule_31 : decode prog_9_method_24_code 31 = .ok (.iload 4, 2) := by decide +kernel
theorem d_Mo_rule_33 : decode prog_9_method_24_code 33 = .ok (.iconst 1, 1) := by decide +kernel
theorem d_Mo_rule_34 : decode prog_9_method_24_code 34 = .ok (.if_icmp .lt 21, 3) := by decide +kernel
theorem d_Mo_rule_37 : decode prog_9_method_24_code 37 = .ok (.iload 4, 2) := by decide +kernel
theorem d_Mo_rule_39 : decode prog_9_method_24_code 39 = .ok (.sipush 10000, 3) := by decide +kernel
theorem d_Mo_rule_42 : decode prog_9_method_24_code 42 = .ok (.if_icmp .gt 13, 3) := by decide +kernel
theorem d_Mo_rule_45 : decode prog_9_method_24_code 45 = .ok (.aload_n 0, 1) := by decide +kernel
theorem d_Mo_rule_46 : decode prog_9_method_24_code 46 = .ok (.getfield 112, 3) := by decide +kernel
theorem d_Mo_rule_49 : decode prog_9_method_24_code 49 = .ok (.sipush 4096, 3) := by decide +kernel
theorem d_Mo_rule_52 : decode prog_9_method_24_code 52 = .ok (.if_icmp .ne 5, 3) := by decide +kernel
theorem d_Mo_rule_55 : decode prog_9_method_24_code 55 = .ok (.iconst 0, 1) := by decide +kernel
theorem d_Mo_rule_56 : decode prog_9_method_24_code 56 = .ok (.ireturn, 1) := by decide +kernel
theorem d_Mo_rule_57 : decode prog_9_method_24_code 57 = .ok (.aload_n 0, 1) := by decide +kernel
theorem d_Mo_rule_58 : decode prog_9_method_24_code 58 = .ok (.dup, 1) := by decide +kernel
theorem d_Mo_rule_59 : decode prog_9_method_24_code 59 = .ok (.getfield 112, 3) := by decide +kernel
theorem d_Mo_rule_62 : decode prog_9_method_24_code 62 = .ok (.iconst 1, 1) := by decide +kernel
theorem d_Mo_rule_63 : decode prog_9_method_24_code 63 = .ok (.iadd, 1) := by decide +kernel
theorem d_Mo_rule_64 : decode prog_9_method_24_code 64 = .ok (.putfield 112, 3) := by decide +kernel
theorem d_Mo_rule_67 : decode prog_9_method_24_code 67 = .ok (.aload_n 0, 1) := by decide +kernel
theorem d_Mo_rule_68 : decode prog_9_method_24_code 68 = .ok (.getfield 89, 3) := by decide +kernel
theorem d_Mo_rule_71 : decode prog_9_method_24_code 71 = .ok (.ifCond .eq 11, 3) := by decide +kernel
theorem d_Mo_rule_74 : decode prog_9_method_24_code 74 = .ok (.aload_n 0, 1) := by decide +kernel
theorem d_Mo_rule_75 : decode prog_9_method_24_code 75 = .ok (.getfield 89, 3) := by decide +kernel
theorem d_Mo_rule_78 : decode prog_9_method_24_code 78 = .ok (.iconst 1, 1) := by decide +kernel
theorem d_Mo_rule_79 : decode prog_9_method_24_code 79 = .ok (.if_icmp .ne 7, 3) := by decide +kernel
theorem d_Mo_rule_82 : decode prog_9_method_24_code 82 = .ok (.iload_n 1, 1) := by decide +kernel
theorem d_Mo_rule_83 : decode prog_9_method_24_code 83 = .ok (.goto 25, 3) := by decide +kernel
theorem d_Mo_rule_86 : decode prog_9_method_24_code 86 = .ok (.aload_n 0, 1) := by decide +kernel
theorem d_Mo_rule_87 : decode prog_9_method_24_code 87 = .ok (.getfield 89, 3) := by decide +kernel
theorem d_Mo_rule_90 : decode prog_9_method_24_code 90 = .ok (.iconst 2, 1) := by decide +kernel
theorem d_Mo_rule_91 : decode prog_9_method_24_code 91 = .ok (.if_icmp .ne 11, 3) := by decide +kernel
theorem d_Mo_rule_94 : decode prog_9_method_24_code 94 = .ok (.iload_n 1, 1) := by decide +kernel
theorem d_Mo_rule_95 : decode prog_9_method_24_code 95 = .ok (.iload_n 3, 1) := by decide +kernel
theorem d_Mo_rule_96 : decode prog_9_method_24_code 96 = .ok (.isub, 1) := by decide +kernel
theorem d_Mo_rule_97 : decode prog_9_method_24_code 97 = .ok (.iconst 1, 1) := by decide +kernel
theorem d_Mo_rule_98 : decode prog_9_method_24_code 98 = .ok (.iadd, 1) := by decide +kernel
theorem d_Mo_rule_99 : decode prog_9_method_24_code 99 = .ok (.goto 9, 3) := by decide +kernel
theorem d_Mo_rule_102 : decode prog_9_method_24_code 102 = .ok (.iload_n 1, 1) := by decide +kernel
theorem d_Mo_rule_103 : decode prog_9_method_24_code 103 = .ok (.iload 4, 2) := by decide +kernel
theorem d_Mo_rule_105 : decode prog_9_method_24_code 105 = .ok (.isub, 1) := by decide +kernel
theorem d_Mo_rule_106 : decode prog_9_method_24_code 106 = .ok (.iconst 1, 1) := by decide +kernel
theorem d_Mo_rule_107 : decode prog_9_method_24_code 107 = .ok (.iadd, 1) := by decide +kernel
theorem d_Mo_rule_108 : decode prog_9_method_24_code 108 = .ok (.istore 5, 2) := by decide +kernel
theorem d_Mo_rule_110 : decode prog_9_method_24_code 110 = .ok (.aload_n 0, 1) := by decide +kernel
theorem d_Mo_rule_111 : decode prog_9_method_24_code 111 = .ok (.getfield 89, 3) := by decide +kernel
theorem d_Mo_rule_114 : decode prog_9_method_24_code 114 = .ok (.ifCond .ne 11, 3) := by decide +kernel
theorem d_Mo_rule_117 : decode prog_9_method_24_code 117 = .ok (.iload_n 1, 1) := by decide +kernel
theorem d_Mo_rule_118 : decode prog_9_method_24_code 118 = .ok (.iload_n 3, 1) := by decide +kernel
theorem d_Mo_rule_119 : decode prog_9_method_24_code 119 = .ok (.iadd, 1) := by decide +kernel
theorem d_Mo_rule_120 : decode prog_9_method_24_code 120 = .ok (.iconst 1, 1) := by decide +kernel
theorem d_Mo_rule_121 : decode prog_9_method_24_code 121 = .ok (.isub, 1) := by decide +kernel
theorem d_Mo_rule_122 : decode prog_9_method_24_code 122 = .ok (.goto 21, 3) := by decide +kernel
theorem d_Mo_rule_125 : decode prog_9_method_24_code 125 = .ok (.aload_n 0, 1) := by decide +kernel
theorem d_Mo_rule_126 : decode prog_9_method_24_code 126 = .ok (.getfield 89, 3) := by decide +kernel
theorem d_Mo_rule_129 : decode prog_9_method_24_code 129 = .ok (.iconst 1, 1) := by decide +kernel
theorem d_Mo_rule_130 : decode prog_9_method_24_code 130 = .ok (.if_icmp .ne 12, 3) := by decide +kernel
theorem d_Mo_rule_133 : decode prog_9_method_24_code 133 = .ok (.iload_n 1, 1) := by decide +kernel
theorem d_Mo_rule_134 : decode prog_9_method_24_code 134 = .ok (.iload 4, 2) := by decide +kernel
theorem d_Mo_rule_136 : decode prog_9_method_24_code 136 = .ok (.iadd, 1) := by decide +kernel
theorem d_Mo_rule_137 : decode prog_9_method_24_code 137 = .ok (.iconst 1, 1) := by decide +kernel
theorem d_Mo_rule_138 : decode prog_9_method_24_code 138 = .ok (.isub, 1) := by decide +kernel
theorem d_Mo_rule_139 : decode prog_9_method_24_code 139 = .ok (.goto 4, 3) := by decide +kernel
theorem d_Mo_rule_142 : decode prog_9_method_24_code 142 = .ok (.iload_n 1, 1) := by decide +kernel
theorem d_Mo_rule_143 : decode prog_9_method_24_code 143 = .ok (.istore 6, 2) := by decide +kernel
theorem d_Mo_rule_145 : decode prog_9_method_24_code 145 = .ok (.aload_n 0, 1) := by decide +kernel
theorem d_Mo_rule_146 : decode prog_9_method_24_code 146 = .ok (.getfield 89, 3) := by decide +kernel
theorem d_Mo_rule_149 : decode prog_9_method_24_code 149 = .ok (.ifCond .eq 11, 3) := by decide +kernel
theorem d_Mo_rule_152 : decode prog_9_method_24_code 152 = .ok (.aload_n 0, 1) := by decide +kernel
theorem d_Mo_rule_153 : decode prog_9_method_24_code 153 = .ok (.getfield 89, 3) := by decide +kernel
theorem d_Mo_rule_156 : decode prog_9_method_24_code 156 = .ok (.iconst 3, 1) := by decide +kernel
theorem d_Mo_rule_157 : decode prog_9_method_24_code 157 = .ok (.if_icmp .ne 7, 3) := by decide +kernel
theorem d_Mo_rule_160 : decode prog_9_method_24_code 160 = .ok (.iload_n 2, 1) := by decide +kernel
theorem d_Mo_rule_161 : decode prog_9_method_24_code 161 = .ok (.goto 25, 3) := by decide +kernel
theorem d_Mo_rule_164 : decode prog_9_method_24_code 164 = .ok (.aload_n 0, 1) := by decide +kernel
theorem d_Mo_rule_165 : decode prog_9_method_24_code 165 = .ok (.getfield 89, 3) := by decide +kernel
theorem d_Mo_rule_168 : decode prog_9_method_24_code 168 = .ok (.iconst 1, 1) := by decide +kernel
theorem d_Mo_rule_169 : decode prog_9_method_24_code 169 = .ok (.if_icmp .ne 11, 3) := by decide +kernel
theorem d_Mo_rule_172 : decode prog_9_method_24_code 172 = .ok (.iload_n 2, 1) := by decide +kernel
theorem d_Mo_rule_173 : decode prog_9_method_24_code 173 = .ok (.iload_n 3, 1) := by decide +kernel
theorem d_Mo_rule_174 : decode prog_9_method_24_code 174 = .ok (.isub, 1) := by decide +kernel
theorem d_Mo_rule_175 : decode prog_9_method_24_code 175 = .ok (.iconst 1, 1) := by decide +kernel
theorem d_Mo_rule_176 : decode prog_9_method_24_code 176 = .ok (.iadd, 1) := by decide +kernel
theorem d_Mo_rule_177 : decode prog_9_method_24_code 177 = .ok (.goto 9, 3) := by decide +kernel
theorem d_Mo_rule_180 : decode prog_9_method_24_code 180 = .ok (.iload_n 2, 1) := by decide +kernel
theorem d_Mo_rule_181 : decode prog_9_method_24_code 181 = .ok (.iload 4, 2) := by decide +kernel
theorem d_Mo_rule_183 : decode prog_9_method_24_code 183 = .ok (.isub, 1) := by decide +kernel
theorem d_Mo_rule_184 : decode prog_9_method_24_code 184 = .ok (.iconst 1, 1) := by decide +kernel
theorem d_Mo_rule_185 : decode prog_9_method_24_code 185 = .ok (.iadd, 1) := by decide +kernel
theorem d_Mo_rule_186 : decode prog_9_method_24_code 186 = .ok (.istore 7, 2) := by decide +kernel
theorem d_Mo_rule_188 : decode prog_9_method_24_code 188 = .ok (.aload_n 0, 1) := by decide +kernel
theorem d_Mo_rule_189 : decode prog_9_method_24_code 189 = .ok (.getfield 89, 3) := by decide +kernel
theorem d_Mo_rule_192 : decode prog_9_method_24_code 192 = .ok (.ifCond .ne 12, 3) := by decide +kernel
theorem d_Mo_rule_195 : decode prog_9_method_24_code 195 = .ok (.iload_n 2, 1) := by decide +kernel
theorem d_Mo_rule_196 : decode prog_9_method_24_code 196 = .ok (.iload 4, 2) := by decide +kernel
theorem d_Mo_rule_198 : decode prog_9_method_24_code 198 = .ok (.iadd, 1) := by decide +kernel
theorem d_Mo_rule_199 : decode prog_9_method_24_code 199 = .ok (.iconst 1, 1) := by decide +kernel
theorem d_Mo_rule_200 : decode prog_9_method_24_code 200 = .ok (.isub, 1) := by decide +kernel
theorem d_Mo_rule_201 : decode prog_9_method_24_code 201 = .ok (.goto 20, 3) := by decide +kernel
theorem d_Mo_rule_204 : decode prog_9_method_24_code 204 = .ok (.aload_n 0, 1) := by decide +kernel
theorem d_Mo_rule_205 : decode prog_9_method_24_code 205 = .ok (.getfield 89, 3) := by decide +kernel
theorem d_Mo_rule_208 : decode prog_9_method_24_code 208 = .ok (.iconst 3, 1) := by decide +kernel
theorem d_Mo_rule_209 : decode prog_9_method_24_code 209 = .ok (.if_icmp .ne 11, 3) := by decide +kernel
theorem d_Mo_rule_212 : decode prog_9_method_24_code 212 = .ok (.iload_n 2, 1) := by decide +kernel
theorem d_Mo_rule_213 : decode prog_9_method_24_code 213 = .ok (.iload_n 3, 1) := by decide +kernel
theorem d_Mo_rule_214 : decode prog_9_method_24_code 214 = .ok (.iadd, 1) := by decide +kernel
theorem d_Mo_rule_215 : decode prog_9_method_24_code 215 = .ok (.iconst 1, 1) := by decide +kernel
theorem d_Mo_rule_216 : decode prog_9_method_24_code 216 = .ok (.isub, 1) := by decide +kernel
theorem d_Mo_rule_217 : decode prog_9_method_24_code 217 = .ok (.goto 4, 3) := by decide +kernel
theorem d_Mo_rule_220 : decode prog_9_method_24_code 220 = .ok (.iload_n 2, 1) := by decide +kernel
theorem d_Mo_rule_221 : decode prog_9_method_24_code 221 = .ok (.istore 8, 2) := by decide +kernel
theorem d_Mo_rule_223 : decode prog_9_method_24_code 223 = .ok (.iload 7, 2) := by decide +kernel
theorem d_Mo_rule_225 : decode prog_9_method_24_code 225 = .ok (.iconst 0, 1) := by decide +kernel
theorem d_Mo_rule_226 : decode prog_9_method_24_code 226 = .ok (.invokestatic 122, 3) := by decide +kernel
theorem d_Mo_rule_229 : decode prog_9_method_24_code 229 = .ok (.istore 9, 2) := by decide +kernel
theorem d_Mo_rule_231 : decode prog_9_method_24_code 231 = .ok (.iload 9, 2) := by decide +kernel
theorem d_Mo_rule_233 : decode prog_9_method_24_code 233 = .ok (.iload 8, 2) := by decide +kernel
theorem d_Mo_rule_235 : decode prog_9_method_24_code 235 = .ok (.aload_n 0, 1) := by decide +kernel
theorem d_Mo_rule_236 : decode prog_9_method_24_code 236 = .ok (.getfield 31, 3) := by decide +kernel
theorem d_Mo_rule_239 : decode prog_9_method_24_code 239 = .ok (.iconst 1, 1) := by decide +kernel
theorem d_Mo_rule_240 : decode prog_9_method_24_code 240 = .ok (.isub, 1) := by decide +kernel
theorem d_Mo_rule_241 : decode prog_9_method_24_code 241 = .ok (.invokestatic 125, 3) := by decide +kernel
theorem d_Mo_rule_244 : decode prog_9_method_24_code 244 = .ok (.if_icmp .gt 48, 3) := by decide +kernel
theorem d_Mo_rule_247 : decode prog_9_method_24_code 247 = .ok (.iload 5, 2) := by decide +kernel
theorem d_Mo_rule_249 : decode prog_9_method_24_code 249 = .ok (.iconst 0, 1) := by decide +kernel
theorem d_Mo_rule_250 : decode prog_9_method_24_code 250 = .ok (.invokestatic 122, 3) := by decide +kernel
theorem d_Mo_rule_253 : decode prog_9_method_24_code 253 = .ok (.istore 10, 2) := by decide +kernel
theorem d_Mo_rule_255 : decode prog_9_method_24_code 255 = .ok (.iload 10, 2) := by decide +kernel
theorem d_Mo_rule_257 : decode prog_9_method_24_code 257 = .ok (.iload 6, 2) := by decide +kernel
theorem d_Mo_rule_259 : decode prog_9_method_24_code 259 = .ok (.aload_n 0, 1) := by decide +kernel
theorem d_Mo_rule_260 : decode prog_9_method_24_code 260 = .ok (.getfield 27, 3) := by decide +kernel
theorem d_Mo_rule_263 : decode prog_9_method_24_code 263 = .ok (.iconst 1, 1) := by decide +kernel
theorem d_Mo_rule_264 : decode prog_9_method_24_code 264 = .ok (.isub, 1) := by decide +kernel
theorem d_Mo_rule_265 : decode prog_9_method_24_code 265 = .ok (.invokestatic 125, 3) := by decide +kernel
theorem d_Mo_rule_268 : decode prog_9_method_24_code 268 = .ok (.if_icmp .gt 18, 3) := by decide +kernel
theorem d_Mo_rule_271 : decode prog_9_method_24_code 271 = .ok (.aload_n 0, 1) := by decide +kernel
theorem d_Mo_rule_272 : decode prog_9_method_24_code 272 = .ok (.iload 10, 2) := by decide +kernel
theorem d_Mo_rule_274 : decode prog_9_method_24_code 274 = .ok (.iload 9, 2) := by decide +kernel
theorem d_Mo_rule_276 : decode prog_9_method_24_code 276 = .ok (.iconst 1, 1) := by decide +kernel
theorem d_Mo_rule_277 : decode prog_9_method_24_code 277 = .ok (.invokevirtual 92, 3) := by decide +kernel
theorem d_Mo_rule_280 : decode prog_9_method_24_code 280 = .ok (.iinc 10 1, 3) := by decide +kernel
theorem d_Mo_rule_283 : decode prog_9_method_24_code 283 = .ok (.goto (-28), 3) := by decide +kernel
theorem d_Mo_rule_286 : decode prog_9_method_24_code 286 = .ok (.iinc 9 1, 3) := by decide +kernel
theorem d_Mo_rule_289 : decode prog_9_method_24_code 289 = .ok (.goto (-58), 3) := by decide +kernel
theorem d_Mo_rule_292 : decode prog_9_method_24_code 292 = .ok (.iconst 1, 1) := by decide +kernel
theorem d_Mo_rule_293 : decode prog_9_method_24_code 293 = .ok (.ireturn, 1) := by decide +kernel
theorem d_Mo_row_0 : decode prog_9_method_25_code 0 = .ok (.aload_n 0, 1) := by decide +kernel
theorem d_Mo_row_1 : decode prog_9_method_25_code 1 = .ok (.iconst 0, 1) := by decide +kernel
theorem d_Mo_row_2 : decode prog_9_method_25_code 2 = .ok (.putfield 46, 3) := by decide +kernel
theorem d_Mo_row_5 : decode prog_9_method_25_code 5 = .ok (.iload_n 1, 1) := by decide +kernel
theorem d_Mo_row_6 : decode prog_9_method_25_code 6 = .ok (.invokestatic 109, 3) := by decide +kernel
theorem d_Mo_row_9 : decode prog_9_method_25_code 9 = .ok (.ifCond .eq 34, 3) := by decide +kernel
theorem d_Mo_row_12 : decode prog_9_method_25_code 12 = .ok (.iload_n 2, 1) := by decide +kernel
theorem d_Mo_row_13 : decode prog_9_method_25_code 13 = .ok (.invokestatic 109, 3) := by decide +kernel
theorem d_Mo_row_16 : decode prog_9_method_25_code 16 = .ok (.ifCond .eq 27, 3) := by decide +kernel
theorem d_Mo_row_19 : decode prog_9_method_25_code 19 = .ok (.iload_n 3, 1) := by decide +kernel
theorem d_Mo_row_20 : decode prog_9_method_25_code 20 = .ok (.iconst 1, 1) := by decide +kernel
theorem d_Mo_row_21 : decode prog_9_method_25_code 21 = .ok (.if_icmp .lt 22, 3) := by decide +kernel
theorem d_Mo_row_24 : decode prog_9_method_25_code 24 = .ok (.iload_n 3, 1) := by decide +kernel
theorem d_Mo_row_25 : decode prog_9_method_25_code 25 = .ok (.bipush 8, 2) := by decide +kernel
theorem d_Mo_row_27 : decode prog_9_method_25_code 27 = .ok (.if_icmp .gt 16, 3) := by decide +kernel
theorem d_Mo_row_30 : decode prog_9_method_25_code 30 = .ok (.iload 4, 2) := by decide +kernel
theorem d_Mo_row_32 : decode prog_9_method_25_code 32 = .ok (.iconst 1, 1) := by decide +kernel
theorem d_Mo_row_33 : decode prog_9_method_25_code 33 = .ok (.if_icmp .lt 10, 3) := by decide +kernel
theorem d_Mo_row_36 : decode prog_9_method_25_code 36 = .ok (.iload 4, 2) := by decide +kernel
theorem d_Mo_row_38 : decode prog_9_method_25_code 38 = .ok (.bipush 64, 2) := by decide +kernel
theorem d_Mo_row_40 : decode prog_9_method_25_code 40 = .ok (.if_icmp .le 5, 3) := by decide +kernel
theorem d_Mo_row_43 : decode prog_9_method_25_code 43 = .ok (.iconst 0, 1) := by decide +kernel
theorem d_Mo_row_44 : decode prog_9_method_25_code 44 = .ok (.ireturn, 1) := by decide +kernel
theorem d_Mo_row_45 : decode prog_9_method_25_code 45 = .ok (.iload 4, 2) := by decide +kernel
theorem d_Mo_row_47 : decode prog_9_method_25_code 47 = .ok (.bipush 7, 2) := by decide +kernel
theorem d_Mo_row_49 : decode prog_9_method_25_code 49 = .ok (.iadd, 1) := by decide +kernel
theorem d_Mo_row_50 : decode prog_9_method_25_code 50 = .ok (.bipush 8, 2) := by decide +kernel
theorem d_Mo_row_52 : decode prog_9_method_25_code 52 = .ok (.idiv, 1) := by decide +kernel
theorem d_Mo_row_53 : decode prog_9_method_25_code 53 = .ok (.istore 7, 2) := by decide +kernel
theorem d_Mo_row_55 : decode prog_9_method_25_code 55 = .ok (.aload_n 0, 1) := by decide +kernel
theorem d_Mo_row_56 : decode prog_9_method_25_code 56 = .ok (.getfield 112, 3) := by decide +kernel
theorem d_Mo_row_59 : decode prog_9_method_25_code 59 = .ok (.sipush 4096, 3) := by decide +kernel
theorem d_Mo_row_62 : decode prog_9_method_25_code 62 = .ok (.if_icmp .eq 15, 3) := by decide +kernel
theorem d_Mo_row_65 : decode prog_9_method_25_code 65 = .ok (.aload_n 0, 1) := by decide +kernel
theorem d_Mo_row_66 : decode prog_9_method_25_code 66 = .ok (.getfield 128, 3) := by decide +kernel
theorem d_Mo_row_69 : decode prog_9_method_25_code 69 = .ok (.iload 7, 2) := by decide +kernel
theorem d_Mo_row_71 : decode prog_9_method_25_code 71 = .ok (.iadd, 1) := by decide +kernel
theorem d_Mo_row_72 : decode prog_9_method_25_code 72 = .ok (.ldc 131, 2) := by decide +kernel
theorem d_Mo_row_74 : decode prog_9_method_25_code 74 = .ok (.if_icmp .le 5, 3) := by decide +kernel
theorem d_Mo_row_77 : decode prog_9_method_25_code 77 = .ok (.iconst 0, 1) := by decide +kernel
theorem d_Mo_row_78 : decode prog_9_method_25_code 78 = .ok (.ireturn, 1) := by decide +kernel
theorem d_Mo_row_79 : decode prog_9_method_25_code 79 = .ok (.aload_n 0, 1) := by decide +kernel
theorem d_Mo_row_80 : decode prog_9_method_25_code 80 = .ok (.dup, 1) := by decide +kernel
theorem d_Mo_row_81 : decode prog_9_method_25_code 81 = .ok (.getfield 112, 3) := by decide +kernel
theorem d_Mo_row_84 : decode prog_9_method_25_code 84 = .ok (.iconst 1, 1) := by decide +kernel
theorem d_Mo_row_85 : decode prog_9_method_25_code 85 = .ok (.iadd, 1) := by decide +kernel
theorem d_Mo_row_86 : decode prog_9_method_25_code 86 = .ok (.putfield 112, 3) := by decide +kernel
theorem d_Mo_row_89 : decode prog_9_method_25_code 89 = .ok (.aload_n 0, 1) := by decide +kernel
theorem d_Mo_row_90 : decode prog_9_method_25_code 90 = .ok (.dup, 1) := by decide +kernel
theorem d_Mo_row_91 : decode prog_9_method_25_code 91 = .ok (.getfield 128, 3) := by decide +kernel
theorem d_Mo_row_94 : decode prog_9_method_25_code 94 = .ok (.iload 7, 2) := by decide +kernel
theorem d_Mo_row_96 : decode prog_9_method_25_code 96 = .ok (.iadd, 1) := by decide +kernel
theorem d_Mo_row_97 : decode prog_9_method_25_code 97 = .ok (.putfield 128, 3) := by decide +kernel
theorem d_Mo_row_100 : decode prog_9_method_25_code 100 = .ok (.iconst 0, 1) := by decide +kernel
theorem d_Mo_row_101 : decode prog_9_method_25_code 101 = .ok (.istore 8, 2) := by decide +kernel
theorem d_Mo_row_103 : decode prog_9_method_25_code 103 = .ok (.iload 8, 2) := by decide +kernel
theorem d_Mo_row_105 : decode prog_9_method_25_code 105 = .ok (.iload 4, 2) := by decide +kernel
theorem d_Mo_row_107 : decode prog_9_method_25_code 107 = .ok (.if_icmp .ge 78, 3) := by decide +kernel
theorem d_Mo_row_110 : decode prog_9_method_25_code 110 = .ok (.lload 5, 2) := by decide +kernel
theorem d_Mo_row_112 : decode prog_9_method_25_code 112 = .ok (.bipush 63, 2) := by decide +kernel
theorem d_Mo_row_114 : decode prog_9_method_25_code 114 = .ok (.iload 8, 2) := by decide +kernel
theorem d_Mo_row_116 : decode prog_9_method_25_code 116 = .ok (.isub, 1) := by decide +kernel
theorem d_Mo_row_117 : decode prog_9_method_25_code 117 = .ok (.lshr, 1) := by decide +kernel
theorem d_Mo_row_118 : decode prog_9_method_25_code 118 = .ok (.lconst 1, 1) := by decide +kernel
theorem d_Mo_row_119 : decode prog_9_method_25_code 119 = .ok (.land, 1) := by decide +kernel
theorem d_Mo_row_120 : decode prog_9_method_25_code 120 = .ok (.lconst 1, 1) := by decide +kernel
theorem d_Mo_row_121 : decode prog_9_method_25_code 121 = .ok (.lcmp, 1) := by decide +kernel
theorem d_Mo_row_122 : decode prog_9_method_25_code 122 = .ok (.ifCond .ne 7, 3) := by decide +kernel
theorem d_Mo_row_125 : decode prog_9_method_25_code 125 = .ok (.iconst 1, 1) := by decide +kernel
theorem d_Mo_row_126 : decode prog_9_method_25_code 126 = .ok (.goto 4, 3) := by decide +kernel
theorem d_Mo_row_129 : decode prog_9_method_25_code 129 = .ok (.iconst 0, 1) := by decide +kernel
theorem d_Mo_row_130 : decode prog_9_method_25_code 130 = .ok (.istore 9, 2) := by decide +kernel
theorem d_Mo_row_132 : decode prog_9_method_25_code 132 = .ok (.iconst 0, 1) := by decide +kernel
theorem d_Mo_row_133 : decode prog_9_method_25_code 133 = .ok (.istore 10, 2) := by decide +kernel
theorem d_Mo_row_135 : decode prog_9_method_25_code 135 = .ok (.iload 10, 2) := by decide +kernel
theorem d_Mo_row_137 : decode prog_9_method_25_code 137 = .ok (.iload_n 3, 1) := by decide +kernel
theorem d_Mo_row_138 : decode prog_9_method_25_code 138 = .ok (.if_icmp .ge 41, 3) := by decide +kernel
theorem d_Mo_row_141 : decode prog_9_method_25_code 141 = .ok (.iconst 0, 1) := by decide +kernel
theorem d_Mo_row_142 : decode prog_9_method_25_code 142 = .ok (.istore 11, 2) := by decide +kernel
theorem d_Mo_row_144 : decode prog_9_method_25_code 144 = .ok (.iload 11, 2) := by decide +kernel
theorem d_Mo_row_146 : decode prog_9_method_25_code 146 = .ok (.iload_n 3, 1) := by decide +kernel
theorem d_Mo_row_147 : decode prog_9_method_25_code 147 = .ok (.if_icmp .ge 26, 3) := by decide +kernel
theorem d_Mo_row_150 : decode prog_9_method_25_code 150 = .ok (.aload_n 0, 1) := by decide +kernel
theorem d_Mo_row_151 : decode prog_9_method_25_code 151 = .ok (.iload_n 1, 1) := by decide +kernel
theorem d_Mo_row_152 : decode prog_9_method_25_code 152 = .ok (.iload_n 2, 1) := by decide +kernel
theorem d_Mo_row_153 : decode prog_9_method_25_code 153 = .ok (.iload_n 3, 1) := by decide +kernel
theorem d_Mo_row_154 : decode prog_9_method_25_code 154 = .ok (.iload 8, 2) := by decide +kernel
theorem d_Mo_row_156 : decode prog_9_method_25_code 156 = .ok (.imul, 1) := by decide +kernel
theorem d_Mo_row_157 : decode prog_9_method_25_code 157 = .ok (.iload 10, 2) := by decide +kernel
theorem d_Mo_row_159 : decode prog_9_method_25_code 159 = .ok (.iadd, 1) := by decide +kernel
theorem d_Mo_row_160 : decode prog_9_method_25_code 160 = .ok (.iload 11, 2) := by decide +kernel
theorem d_Mo_row_162 : decode prog_9_method_25_code 162 = .ok (.iload 9, 2) := by decide +kernel
theorem d_Mo_row_164 : decode prog_9_method_25_code 164 = .ok (.invokevirtual 118, 3) := by decide +kernel
theorem d_Mo_row_167 : decode prog_9_method_25_code 167 = .ok (.iinc 11 1, 3) := by decide +kernel
theorem d_Mo_row_170 : decode prog_9_method_25_code 170 = .ok (.goto (-26), 3) := by decide +kernel
theorem d_Mo_row_173 : decode prog_9_method_25_code 173 = .ok (.iinc 10 1, 3) := by decide +kernel
theorem d_Mo_row_176 : decode prog_9_method_25_code 176 = .ok (.goto (-41), 3) := by decide +kernel
theorem d_Mo_row_179 : decode prog_9_method_25_code 179 = .ok (.iinc 8 1, 3) := by decide +kernel
theorem d_Mo_row_182 : decode prog_9_method_25_code 182 = .ok (.goto (-79), 3) := by decide +kernel
theorem d_Mo_row_185 : decode prog_9_method_25_code 185 = .ok (.iconst 1, 1) := by decide +kernel
theorem d_Mo_row_186 : decode prog_9_method_25_code 186 = .ok (.ireturn, 1) := by decide +kernel
theorem d_Mo_eject_0 : decode prog_9_method_26_code 0 = .ok (.aload_n 0, 1) := by decide +kernel
theorem d_Mo_eject_1 : decode prog_9_method_26_code 1 = .ok (.iconst 0, 1) := by decide +kernel
theorem d_Mo_eject_2 : decode prog_9_method_26_code 2 = .ok (.putfield 46, 3) := by decide +kernel
theorem d_Mo_eject_5 : decode prog_9_method_26_code 5 = .ok (.iconst 0, 1) := by decide +kernel
theorem d_Mo_eject_6 : decode prog_9_method_26_code 6 = .ok (.istore_n 1, 1) := by decide +kernel
theorem d_Mo_eject_7 : decode prog_9_method_26_code 7 = .ok (.iload_n 1, 1) := by decide +kernel
theorem d_Mo_eject_8 : decode prog_9_method_26_code 8 = .ok (.aload_n 0, 1) := by decide +kernel
theorem d_Mo_eject_9 : decode prog_9_method_26_code 9 = .ok (.getfield 37, 3) := by decide +kernel
theorem d_Mo_eject_12 : decode prog_9_method_26_code 12 = .ok (.arraylength, 1) := by decide +kernel
theorem d_Mo_eject_13 : decode prog_9_method_26_code 13 = .ok (.if_icmp .ge 16, 3) := by decide +kernel
theorem d_Mo_eject_16 : decode prog_9_method_26_code 16 = .ok (.aload_n 0, 1) := by decide +kernel
theorem d_Mo_eject_17 : decode prog_9_method_26_code 17 = .ok (.getfield 37, 3) := by decide +kernel
theorem d_Mo_eject_20 : decode prog_9_method_26_code 20 = .ok (.iload_n 1, 1) := by decide +kernel
theorem d_Mo_eject_21 : decode prog_9_method_26_code 21 = .ok (.lconst 0, 1) := by decide +kernel
theorem d_Mo_eject_22 : decode prog_9_method_26_code 22 = .ok (.lastore, 1) := by decide +kernel
theorem d_Mo_eject_23 : decode prog_9_method_26_code 23 = .ok (.iinc 1 1, 3) := by decide +kernel
theorem d_Mo_eject_26 : decode prog_9_method_26_code 26 = .ok (.goto (-19), 3) := by decide +kernel
theorem d_Mo_eject_29 : decode prog_9_method_26_code 29 = .ok (.aload_n 0, 1) := by decide +kernel
theorem d_Mo_eject_30 : decode prog_9_method_26_code 30 = .ok (.iconst 0, 1) := by decide +kernel
theorem d_Mo_eject_31 : decode prog_9_method_26_code 31 = .ok (.putfield 112, 3) := by decide +kernel
theorem d_Mo_eject_34 : decode prog_9_method_26_code 34 = .ok (.aload_n 0, 1) := by decide +kernel
theorem d_Mo_eject_35 : decode prog_9_method_26_code 35 = .ok (.iconst 0, 1) := by decide +kernel
theorem d_Mo_eject_36 : decode prog_9_method_26_code 36 = .ok (.putfield 128, 3) := by decide +kernel
theorem d_Mo_eject_39 : decode prog_9_method_26_code 39 = .ok (.iconst 0, 1) := by decide +kernel
theorem d_Mo_eject_40 : decode prog_9_method_26_code 40 = .ok (.istore_n 1, 1) := by decide +kernel
theorem d_Mo_eject_41 : decode prog_9_method_26_code 41 = .ok (.iload_n 1, 1) := by decide +kernel
theorem d_Mo_eject_42 : decode prog_9_method_26_code 42 = .ok (.bipush 64, 2) := by decide +kernel
theorem d_Mo_eject_44 : decode prog_9_method_26_code 44 = .ok (.if_icmp .ge 16, 3) := by decide +kernel
theorem d_Mo_eject_47 : decode prog_9_method_26_code 47 = .ok (.aload_n 0, 1) := by decide +kernel
theorem d_Mo_eject_48 : decode prog_9_method_26_code 48 = .ok (.getfield 19, 3) := by decide +kernel
theorem d_Mo_eject_51 : decode prog_9_method_26_code 51 = .ok (.iload_n 1, 1) := by decide +kernel
theorem d_Mo_eject_52 : decode prog_9_method_26_code 52 = .ok (.iconst 0, 1) := by decide +kernel
theorem d_Mo_eject_53 : decode prog_9_method_26_code 53 = .ok (.bastore, 1) := by decide +kernel
theorem d_Mo_eject_54 : decode prog_9_method_26_code 54 = .ok (.iinc 1 1, 3) := by decide +kernel
theorem d_Mo_eject_57 : decode prog_9_method_26_code 57 = .ok (.goto (-16), 3) := by decide +kernel
theorem d_Mo_eject_60 : decode prog_9_method_26_code 60 = .ok (.return_, 1) := by decide +kernel
theorem d_Mo_line_0 : decode prog_9_method_27_code 0 = .ok (.aload_n 0, 1) := by decide +kernel
theorem d_Mo_line_1 : decode prog_9_method_27_code 1 = .ok (.iconst 0, 1) := by decide +kernel
theorem d_Mo_line_2 : decode prog_9_method_27_code 2 = .ok (.putfield 46, 3) := by decide +kernel
theorem d_Mo_line_5 : decode prog_9_method_27_code 5 = .ok (.iload_n 1, 1) := by decide +kernel
theorem d_Mo_line_6 : decode prog_9_method_27_code 6 = .ok (.ifCond .lt 21, 3) := by decide +kernel
theorem d_Mo_line_9 : decode prog_9_method_27_code 9 = .ok (.iload_n 1, 1) := by decide +kernel
theorem d_Mo_line_10 : decode prog_9_method_27_code 10 = .ok (.aload_n 0, 1) := by decide +kernel
theorem d_Mo_line_11 : decode prog_9_method_27_code 11 = .ok (.getfield 31, 3) := by decide +kernel
theorem d_Mo_line_14 : decode prog_9_method_27_code 14 = .ok (.if_icmp .ge 13, 3) := by decide +kernel
theorem d_Mo_line_17 : decode prog_9_method_27_code 17 = .ok (.iload_n 2, 1) := by decide +kernel
theorem d_Mo_line_18 : decode prog_9_method_27_code 18 = .ok (.ifCond .lt 9, 3) := by decide +kernel
theorem d_Mo_line_21 : decode prog_9_method_27_code 21 = .ok (.iload_n 2, 1) := by decide +kernel
theorem d_Mo_line_22 : decode prog_9_method_27_code 22 = .ok (.bipush 79, 2) := by decide +kernel
theorem d_Mo_line_24 : decode prog_9_method_27_code 24 = .ok (.if_icmp .le 7, 3) := by decide +kernel
theorem d_Mo_line_27 : decode prog_9_method_27_code 27 = .ok (.lconst 0, 1) := by decide +kernel
theorem d_Mo_line_28 : decode prog_9_method_27_code 28 = .ok (.goto 14, 3) := by decide +kernel
theorem d_Mo_line_31 : decode prog_9_method_27_code 31 = .ok (.aload_n 0, 1) := by decide +kernel
theorem d_Mo_line_32 : decode prog_9_method_27_code 32 = .ok (.getfield 37, 3) := by decide +kernel
theorem d_Mo_line_35 : decode prog_9_method_27_code 35 = .ok (.bipush 80, 2) := by decide +kernel
theorem d_Mo_line_37 : decode prog_9_method_27_code 37 = .ok (.iload_n 1, 1) := by decide +kernel
theorem d_Mo_line_38 : decode prog_9_method_27_code 38 = .ok (.imul, 1) := by decide +kernel
theorem d_Mo_line_39 : decode prog_9_method_27_code 39 = .ok (.iload_n 2, 1) := by decide +kernel
theorem d_Mo_line_40 : decode prog_9_method_27_code 40 = .ok (.iadd, 1) := by decide +kernel
theorem d_Mo_line_41 : decode prog_9_method_27_code 41 = .ok (.laload, 1) := by decide +kernel
theorem d_Mo_line_42 : decode prog_9_method_27_code 42 = .ok (.lreturn, 1) := by decide +kernel
theorem d_Mo_black_0 : decode prog_9_method_28_code 0 = .ok (.aload_n 0, 1) := by decide +kernel
theorem d_Mo_black_1 : decode prog_9_method_28_code 1 = .ok (.aload_n 0, 1) := by decide +kernel
theorem d_Mo_black_2 : decode prog_9_method_28_code 2 = .ok (.iload_n 1, 1) := by decide +kernel
theorem d_Mo_black_3 : decode prog_9_method_28_code 3 = .ok (.iload_n 2, 1) := by decide +kernel
theorem d_Mo_black_4 : decode prog_9_method_28_code 4 = .ok (.invokevirtual 65, 3) := by decide +kernel
theorem d_Mo_black_7 : decode prog_9_method_28_code 7 = .ok (.ifCond .eq 7, 3) := by decide +kernel
theorem d_Mo_black_10 : decode prog_9_method_28_code 10 = .ok (.iconst 0, 1) := by decide +kernel
theorem d_Mo_black_11 : decode prog_9_method_28_code 11 = .ok (.goto 4, 3) := by decide +kernel
theorem d_Mo_black_14 : decode prog_9_method_28_code 14 = .ok (.iconst 1, 1) := by decide +kernel
theorem d_Mo_black_15 : decode prog_9_method_28_code 15 = .ok (.putfield 46, 3) := by decide +kernel
theorem d_Mo_black_18 : decode prog_9_method_28_code 18 = .ok (.aload_n 0, 1) := by decide +kernel
theorem d_Mo_black_19 : decode prog_9_method_28_code 19 = .ok (.getfield 46, 3) := by decide +kernel
theorem d_Mo_black_22 : decode prog_9_method_28_code 22 = .ok (.ifCond .ne 16, 3) := by decide +kernel
theorem d_Mo_black_25 : decode prog_9_method_28_code 25 = .ok (.aload_n 0, 1) := by decide +kernel
theorem d_Mo_black_26 : decode prog_9_method_28_code 26 = .ok (.iload_n 1, 1) := by decide +kernel
theorem d_Mo_black_27 : decode prog_9_method_28_code 27 = .ok (.iload_n 2, 1) := by decide +kernel
theorem d_Mo_black_28 : decode prog_9_method_28_code 28 = .ok (.invokevirtual 132, 3) := by decide +kernel
theorem d_Mo_black_31 : decode prog_9_method_28_code 31 = .ok (.ifCond .eq 7, 3) := by decide +kernel
theorem d_Mo_black_34 : decode prog_9_method_28_code 34 = .ok (.iconst 1, 1) := by decide +kernel
theorem d_Mo_black_35 : decode prog_9_method_28_code 35 = .ok (.goto 4, 3) := by decide +kernel
theorem d_Mo_black_38 : decode prog_9_method_28_code 38 = .ok (.iconst 0, 1) := by decide +kernel
theorem d_Mo_black_39 : decode prog_9_method_28_code 39 = .ok (.ireturn, 1) := by decide +kernel
theorem d_Mo_ones_0 : decode prog_9_method_29_code 0 = .ok (.iconst 0, 1) := by decide +kernel
theorem d_Mo_ones_1 : decode prog_9_method_29_code 1 = .ok (.istore_n 2, 1) := by decide +kernel
theorem d_Mo_ones_2 : decode prog_9_method_29_code 2 = .ok (.lload_n 0, 1) := by decide +kernel
theorem d_Mo_ones_3 : decode prog_9_method_29_code 3 = .ok (.lstore_n 3, 1) := by decide +kernel
theorem d_Mo_ones_4 : decode prog_9_method_29_code 4 = .ok (.lload_n 3, 1) := by decide +kernel
theorem d_Mo_ones_5 : decode prog_9_method_29_code 5 = .ok (.lconst 0, 1) := by decide +kernel
theorem d_Mo_ones_6 : decode prog_9_method_29_code 6 = .ok (.lcmp, 1) := by decide +kernel
theorem d_Mo_ones_7 : decode prog_9_method_29_code 7 = .ok (.ifCond .eq 15, 3) := by decide +kernel
theorem d_Mo_ones_10 : decode prog_9_method_29_code 10 = .ok (.iinc 2 1, 3) := by decide +kernel
theorem d_Mo_ones_13 : decode prog_9_method_29_code 13 = .ok (.lload_n 3, 1) := by decide +kernel
theorem d_Mo_ones_14 : decode prog_9_method_29_code 14 = .ok (.lload_n 3, 1) := by decide +kernel
theorem d_Mo_ones_15 : decode prog_9_method_29_code 15 = .ok (.lconst 1, 1) := by decide +kernel
theorem d_Mo_ones_16 : decode prog_9_method_29_code 16 = .ok (.lsub, 1) := by decide +kernel
theorem d_Mo_ones_17 : decode prog_9_method_29_code 17 = .ok (.land, 1) := by decide +kernel
theorem d_Mo_ones_18 : decode prog_9_method_29_code 18 = .ok (.lstore_n 3, 1) := by decide +kernel
theorem d_Mo_ones_19 : decode prog_9_method_29_code 19 = .ok (.goto (-15), 3) := by decide +kernel
theorem d_Mo_ones_22 : decode prog_9_method_29_code 22 = .ok (.iload_n 2, 1) := by decide +kernel
theorem d_Mo_ones_23 : decode prog_9_method_29_code 23 = .ok (.ireturn, 1) := by decide +kernel
theorem d_Mo_blacksOf_0 : decode prog_9_method_30_code 0 = .ok (.iconst 0, 1) := by decide +kernel
theorem d_Mo_blacksOf_1 : decode prog_9_method_30_code 1 = .ok (.istore_n 2, 1) := by decide +kernel
theorem d_Mo_blacksOf_2 : decode prog_9_method_30_code 2 = .ok (.bipush 80, 2) := by decide +kernel
theorem d_Mo_blacksOf_4 : decode prog_9_method_30_code 4 = .ok (.iload_n 1, 1) := by decide +kernel
theorem d_Mo_blacksOf_5 : decode prog_9_method_30_code 5 = .ok (.imul, 1) := by decide +kernel
theorem d_Mo_blacksOf_6 : decode prog_9_method_30_code 6 = .ok (.istore_n 3, 1) := by decide +kernel
theorem d_Mo_blacksOf_7 : decode prog_9_method_30_code 7 = .ok (.iload_n 3, 1) := by decide +kernel
theorem d_Mo_blacksOf_8 : decode prog_9_method_30_code 8 = .ok (.bipush 80, 2) := by decide +kernel
theorem d_Mo_blacksOf_10 : decode prog_9_method_30_code 10 = .ok (.iload_n 1, 1) := by decide +kernel
theorem d_Mo_blacksOf_11 : decode prog_9_method_30_code 11 = .ok (.imul, 1) := by decide +kernel
theorem d_Mo_blacksOf_12 : decode prog_9_method_30_code 12 = .ok (.bipush 80, 2) := by decide +kernel
theorem d_Mo_blacksOf_14 : decode prog_9_method_30_code 14 = .ok (.iadd, 1) := by decide +kernel
theorem d_Mo_blacksOf_15 : decode prog_9_method_30_code 15 = .ok (.if_icmp .ge 21, 3) := by decide +kernel
theorem d_Mo_blacksOf_18 : decode prog_9_method_30_code 18 = .ok (.iload_n 2, 1) := by decide +kernel
theorem d_Mo_blacksOf_19 : decode prog_9_method_30_code 19 = .ok (.aload_n 0, 1) := by decide +kernel
theorem d_Mo_blacksOf_20 : decode prog_9_method_30_code 20 = .ok (.getfield 37, 3) := by decide +kernel
theorem d_Mo_blacksOf_23 : decode prog_9_method_30_code 23 = .ok (.iload_n 3, 1) := by decide +kernel
theorem d_Mo_blacksOf_24 : decode prog_9_method_30_code 24 = .ok (.laload, 1) := by decide +kernel
theorem d_Mo_blacksOf_25 : decode prog_9_method_30_code 25 = .ok (.invokestatic 135, 3) := by decide +kernel
theorem d_Mo_blacksOf_28 : decode prog_9_method_30_code 28 = .ok (.iadd, 1) := by decide +kernel
theorem d_Mo_blacksOf_29 : decode prog_9_method_30_code 29 = .ok (.istore_n 2, 1) := by decide +kernel
theorem d_Mo_blacksOf_30 : decode prog_9_method_30_code 30 = .ok (.iinc 3 1, 3) := by decide +kernel
theorem d_Mo_blacksOf_33 : decode prog_9_method_30_code 33 = .ok (.goto (-26), 3) := by decide +kernel
theorem d_Mo_blacksOf_36 : decode prog_9_method_30_code 36 = .ok (.iload_n 2, 1) := by decide +kernel
theorem d_Mo_blacksOf_37 : decode prog_9_method_30_code 37 = .ok (.ireturn, 1) := by decide +kernel
theorem d_Mo_count_0 : decode prog_9_method_31_code 0 = .ok (.aload_n 0, 1) := by decide +kernel
theorem d_Mo_count_1 : decode prog_9_method_31_code 1 = .ok (.iconst 0, 1) := by decide +kernel
theorem d_Mo_count_2 : decode prog_9_method_31_code 2 = .ok (.putfield 46, 3) := by decide +kernel
theorem d_Mo_count_5 : decode prog_9_method_31_code 5 = .ok (.iconst 0, 1) := by decide +kernel
theorem d_Mo_count_6 : decode prog_9_method_31_code 6 = .ok (.istore_n 3, 1) := by decide +kernel
theorem d_Mo_count_7 : decode prog_9_method_31_code 7 = .ok (.iload_n 1, 1) := by decide +kernel
theorem d_Mo_count_8 : decode prog_9_method_31_code 8 = .ok (.iconst 0, 1) := by decide +kernel
theorem d_Mo_count_9 : decode prog_9_method_31_code 9 = .ok (.invokestatic 122, 3) := by decide +kernel
theorem d_Mo_count_12 : decode prog_9_method_31_code 12 = .ok (.istore 4, 2) := by decide +kernel
theorem d_Mo_count_14 : decode prog_9_method_31_code 14 = .ok (.iload 4, 2) := by decide +kernel
theorem d_Mo_count_16 : decode prog_9_method_31_code 16 = .ok (.iload_n 2, 1) := by decide +kernel
theorem d_Mo_count_17 : decode prog_9_method_31_code 17 = .ok (.aload_n 0, 1) := by decide +kernel
theorem d_Mo_count_18 : decode prog_9_method_31_code 18 = .ok (.getfield 31, 3) := by decide +kernel
theorem d_Mo_count_21 : decode prog_9_method_31_code 21 = .ok (.iconst 1, 1) := by decide +kernel
theorem d_Mo_count_22 : decode prog_9_method_31_code 22 = .ok (.isub, 1) := by decide +kernel
theorem d_Mo_count_23 : decode prog_9_method_31_code 23 = .ok (.invokestatic 125, 3) := by decide +kernel
theorem d_Mo_count_26 : decode prog_9_method_31_code 26 = .ok (.if_icmp .gt 18, 3) := by decide +kernel
theorem d_Mo_count_29 : decode prog_9_method_31_code 29 = .ok (.iload_n 3, 1) := by decide +kernel
theorem d_Mo_count_30 : decode prog_9_method_31_code 30 = .ok (.aload_n 0, 1) := by decide +kernel
theorem d_Mo_count_31 : decode prog_9_method_31_code 31 = .ok (.iload 4, 2) := by decide +kernel
theorem d_Mo_count_33 : decode prog_9_method_31_code 33 = .ok (.invokevirtual 139, 3) := by decide +kernel
theorem d_Mo_count_36 : decode prog_9_method_31_code 36 = .ok (.iadd, 1) := by decide +kernel
theorem d_Mo_count_37 : decode prog_9_method_31_code 37 = .ok (.istore_n 3, 1) := by decide +kernel
theorem d_Mo_count_38 : decode prog_9_method_31_code 38 = .ok (.iinc 4 1, 3) := by decide +kernel
theorem d_Mo_count_41 : decode prog_9_method_31_code 41 = .ok (.goto (-27), 3) := by decide +kernel
theorem d_Mo_count_44 : decode prog_9_method_31_code 44 = .ok (.iload_n 3, 1) := by decide +kernel
theorem d_Mo_count_45 : decode prog_9_method_31_code 45 = .ok (.ireturn, 1) := by decide +kernel
theorem d_Mo_top_0 : decode prog_9_method_32_code 0 = .ok (.aload_n 0, 1) := by decide +kernel
theorem d_Mo_top_1 : decode prog_9_method_32_code 1 = .ok (.iconst 0, 1) := by decide +kernel
theorem d_Mo_top_2 : decode prog_9_method_32_code 2 = .ok (.putfield 46, 3) := by decide +kernel
theorem d_Mo_top_5 : decode prog_9_method_32_code 5 = .ok (.iload_n 1, 1) := by decide +kernel
theorem d_Mo_top_6 : decode prog_9_method_32_code 6 = .ok (.iconst 0, 1) := by decide +kernel
theorem d_Mo_top_7 : decode prog_9_method_32_code 7 = .ok (.invokestatic 122, 3) := by decide +kernel
theorem d_Mo_top_10 : decode prog_9_method_32_code 10 = .ok (.istore_n 2, 1) := by decide +kernel
theorem d_Mo_top_11 : decode prog_9_method_32_code 11 = .ok (.iload_n 2, 1) := by decide +kernel
theorem d_Mo_top_12 : decode prog_9_method_32_code 12 = .ok (.aload_n 0, 1) := by decide +kernel
theorem d_Mo_top_13 : decode prog_9_method_32_code 13 = .ok (.getfield 31, 3) := by decide +kernel
theorem d_Mo_top_16 : decode prog_9_method_32_code 16 = .ok (.if_icmp .ge 19, 3) := by decide +kernel
theorem d_Mo_top_19 : decode prog_9_method_32_code 19 = .ok (.aload_n 0, 1) := by decide +kernel
theorem d_Mo_top_20 : decode prog_9_method_32_code 20 = .ok (.iload_n 2, 1) := by decide +kernel
theorem d_Mo_top_21 : decode prog_9_method_32_code 21 = .ok (.invokevirtual 139, 3) := by decide +kernel
theorem d_Mo_top_24 : decode prog_9_method_32_code 24 = .ok (.ifCond .le 5, 3) := by decide +kernel
theorem d_Mo_top_27 : decode prog_9_method_32_code 27 = .ok (.iload_n 2, 1) := by decide +kernel
theorem d_Mo_top_28 : decode prog_9_method_32_code 28 = .ok (.ireturn, 1) := by decide +kernel
theorem d_Mo_top_29 : decode prog_9_method_32_code 29 = .ok (.iinc 2 1, 3) := by decide +kernel
theorem d_Mo_top_32 : decode prog_9_method_32_code 32 = .ok (.goto (-21), 3) := by decide +kernel
theorem d_Mo_top_35 : decode prog_9_method_32_code 35 = .ok (.iconst (-1), 1) := by decide +kernel
theorem d_Mo_top_36 : decode prog_9_method_32_code 36 = .ok (.ireturn, 1) := by decide +kernel
theorem d_Mo_of_0 : decode prog_9_method_33_code 0 = .ok (.aload_n 0, 1) := by decide +kernel
theorem d_Mo_of_1 : decode prog_9_method_33_code 1 = .ok (.iconst 0, 1) := by decide +kernel
theorem d_Mo_of_2 : decode prog_9_method_33_code 2 = .ok (.putfield 46, 3) := by decide +kernel
theorem d_Mo_of_5 : decode prog_9_method_33_code 5 = .ok (.aload_n 0, 1) := by decide +kernel
theorem d_Mo_of_6 : decode prog_9_method_33_code 6 = .ok (.iload_n 1, 1) := by decide +kernel
theorem d_Mo_of_7 : decode prog_9_method_33_code 7 = .ok (.invokevirtual 101, 3) := by decide +kernel
theorem d_Mo_of_10 : decode prog_9_method_33_code 10 = .ok (.ifCond .eq 12, 3) := by decide +kernel
theorem d_Mo_of_13 : decode prog_9_method_33_code 13 = .ok (.iload_n 2, 1) := by decide +kernel
theorem d_Mo_of_14 : decode prog_9_method_33_code 14 = .ok (.ifCond .lt 8, 3) := by decide +kernel
theorem d_Mo_of_17 : decode prog_9_method_33_code 17 = .ok (.iload_n 2, 1) := by decide +kernel
theorem d_Mo_of_18 : decode prog_9_method_33_code 18 = .ok (.iconst 3, 1) := by decide +kernel
theorem d_Mo_of_19 : decode prog_9_method_33_code 19 = .ok (.if_icmp .le 5, 3) := by decide +kernel
theorem d_Mo_of_22 : decode prog_9_method_33_code 22 = .ok (.iconst (-1), 1) := by decide +kernel
theorem d_Mo_of_23 : decode prog_9_method_33_code 23 = .ok (.ireturn, 1) := by decide +kernel
theorem d_Mo_of_24 : decode prog_9_method_33_code 24 = .ok (.iload_n 2, 1) := by decide +kernel
theorem d_Mo_of_25 : decode prog_9_method_33_code 25 = .ok (.iconst 2, 1) := by decide +kernel
theorem d_Mo_of_26 : decode prog_9_method_33_code 26 = .ok (.if_icmp .ne 56, 3) := by decide +kernel
theorem d_Mo_of_29 : decode prog_9_method_33_code 29 = .ok (.iconst 0, 1) := by decide +kernel
theorem d_Mo_of_30 : decode prog_9_method_33_code 30 = .ok (.istore_n 3, 1) := by decide +kernel
theorem d_Mo_of_31 : decode prog_9_method_33_code 31 = .ok (.iconst 2, 1) := by decide +kernel
theorem d_Mo_of_32 : decode prog_9_method_33_code 32 = .ok (.aload_n 0, 1) := by decide +kernel
theorem d_Mo_of_33 : decode prog_9_method_33_code 33 = .ok (.getfield 16, 3) := by decide +kernel
theorem d_Mo_of_36 : decode prog_9_method_33_code 36 = .ok (.iload_n 1, 1) := by decide +kernel
theorem d_Mo_of_37 : decode prog_9_method_33_code 37 = .ok (.iaload, 1) := by decide +kernel
theorem d_Mo_of_38 : decode prog_9_method_33_code 38 = .ok (.imul, 1) := by decide +kernel
theorem d_Mo_of_39 : decode prog_9_method_33_code 39 = .ok (.istore 4, 2) := by decide +kernel
theorem d_Mo_of_41 : decode prog_9_method_33_code 41 = .ok (.iload 4, 2) := by decide +kernel
theorem d_Mo_of_43 : decode prog_9_method_33_code 43 = .ok (.iconst 2, 1) := by decide +kernel
theorem d_Mo_of_44 : decode prog_9_method_33_code 44 = .ok (.aload_n 0, 1) := by decide +kernel
theorem d_Mo_of_45 : decode prog_9_method_33_code 45 = .ok (.getfield 16, 3) := by decide +kernel
theorem d_Mo_of_48 : decode prog_9_method_33_code 48 = .ok (.iload_n 1, 1) := by decide +kernel
theorem d_Mo_of_49 : decode prog_9_method_33_code 49 = .ok (.iaload, 1) := by decide +kernel
theorem d_Mo_of_50 : decode prog_9_method_33_code 50 = .ok (.aload_n 0, 1) := by decide +kernel
theorem d_Mo_of_51 : decode prog_9_method_33_code 51 = .ok (.getfield 13, 3) := by decide +kernel
theorem d_Mo_of_54 : decode prog_9_method_33_code 54 = .ok (.iload_n 1, 1) := by decide +kernel
theorem d_Mo_of_55 : decode prog_9_method_33_code 55 = .ok (.iaload, 1) := by decide +kernel
theorem d_Mo_of_56 : decode prog_9_method_33_code 56 = .ok (.iadd, 1) := by decide +kernel
theorem d_Mo_of_57 : decode prog_9_method_33_code 57 = .ok (.imul, 1) := by decide +kernel
theorem d_Mo_of_58 : decode prog_9_method_33_code 58 = .ok (.if_icmp .ge 22, 3) := by decide +kernel
theorem d_Mo_of_61 : decode prog_9_method_33_code 61 = .ok (.iload_n 3, 1) := by decide +kernel
theorem d_Mo_of_62 : decode prog_9_method_33_code 62 = .ok (.aload_n 0, 1) := by decide +kernel
theorem d_Mo_of_63 : decode prog_9_method_33_code 63 = .ok (.getfield 23, 3) := by decide +kernel
theorem d_Mo_of_66 : decode prog_9_method_33_code 66 = .ok (.iload 4, 2) := by decide +kernel
theorem d_Mo_of_68 : decode prog_9_method_33_code 68 = .ok (.laload, 1) := by decide +kernel
theorem d_Mo_of_69 : decode prog_9_method_33_code 69 = .ok (.invokestatic 135, 3) := by decide +kernel
theorem d_Mo_of_72 : decode prog_9_method_33_code 72 = .ok (.iadd, 1) := by decide +kernel
theorem d_Mo_of_73 : decode prog_9_method_33_code 73 = .ok (.istore_n 3, 1) := by decide +kernel
theorem d_Mo_of_74 : decode prog_9_method_33_code 74 = .ok (.iinc 4 1, 3) := by decide +kernel
theorem d_Mo_of_77 : decode prog_9_method_33_code 77 = .ok (.goto (-36), 3) := by decide +kernel
theorem d_Mo_of_80 : decode prog_9_method_33_code 80 = .ok (.iload_n 3, 1) := by decide +kernel
theorem d_Mo_of_81 : decode prog_9_method_33_code 81 = .ok (.ireturn, 1) := by decide +kernel
theorem d_Mo_of_82 : decode prog_9_method_33_code 82 = .ok (.iload_n 2, 1) := by decide +kernel
theorem d_Mo_of_83 : decode prog_9_method_33_code 83 = .ok (.ifCond .ne 12, 3) := by decide +kernel
theorem d_Mo_of_86 : decode prog_9_method_33_code 86 = .ok (.aload_n 0, 1) := by decide +kernel
theorem d_Mo_of_87 : decode prog_9_method_33_code 87 = .ok (.getfield 7, 3) := by decide +kernel
theorem d_Mo_of_90 : decode prog_9_method_33_code 90 = .ok (.iload_n 1, 1) := by decide +kernel
theorem d_Mo_of_91 : decode prog_9_method_33_code 91 = .ok (.iaload, 1) := by decide +kernel
theorem d_Mo_of_92 : decode prog_9_method_33_code 92 = .ok (.goto 31, 3) := by decide +kernel
theorem d_Mo_of_95 : decode prog_9_method_33_code 95 = .ok (.iload_n 2, 1) := by decide +kernel
theorem d_Mo_of_96 : decode prog_9_method_33_code 96 = .ok (.iconst 1, 1) := by decide +kernel
theorem d_Mo_of_97 : decode prog_9_method_33_code 97 = .ok (.if_icmp .ne 12, 3) := by decide +kernel
theorem d_Mo_of_100 : decode prog_9_method_33_code 100 = .ok (.aload_n 0, 1) := by decide +kernel
theorem d_Mo_of_101 : decode prog_9_method_33_code 101 = .ok (.getfield 13, 3) := by decide +kernel
theorem d_Mo_of_104 : decode prog_9_method_33_code 104 = .ok (.iload_n 1, 1) := by decide +kernel
theorem d_Mo_of_105 : decode prog_9_method_33_code 105 = .ok (.iaload, 1) := by decide +kernel
theorem d_Mo_of_106 : decode prog_9_method_33_code 106 = .ok (.goto 17, 3) := by decide +kernel
theorem d_Mo_of_109 : decode prog_9_method_33_code 109 = .ok (.aload_n 0, 1) := by decide +kernel
theorem d_Mo_of_110 : decode prog_9_method_33_code 110 = .ok (.getfield 19, 3) := by decide +kernel
theorem d_Mo_of_113 : decode prog_9_method_33_code 113 = .ok (.iload_n 1, 1) := by decide +kernel
theorem d_Mo_of_114 : decode prog_9_method_33_code 114 = .ok (.baload, 1) := by decide +kernel
theorem d_Mo_of_115 : decode prog_9_method_33_code 115 = .ok (.ifCond .eq 7, 3) := by decide +kernel
theorem d_Mo_of_118 : decode prog_9_method_33_code 118 = .ok (.iconst 1, 1) := by decide +kernel
theorem d_Mo_of_119 : decode prog_9_method_33_code 119 = .ok (.goto 4, 3) := by decide +kernel
theorem d_Mo_of_122 : decode prog_9_method_33_code 122 = .ok (.iconst 0, 1) := by decide +kernel
theorem d_Mo_of_123 : decode prog_9_method_33_code 123 = .ok (.ireturn, 1) := by decide +kernel
theorem d_Mo_look_0 : decode prog_9_method_34_code 0 = .ok (.aload_n 0, 1) := by decide +kernel
theorem d_Mo_look_1 : decode prog_9_method_34_code 1 = .ok (.iconst 0, 1) := by decide +kernel
theorem d_Mo_look_2 : decode prog_9_method_34_code 2 = .ok (.putfield 46, 3) := by decide +kernel
theorem d_Mo_look_5 : decode prog_9_method_34_code 5 = .ok (.iload_n 1, 1) := by decide +kernel
theorem d_Mo_look_6 : decode prog_9_method_34_code 6 = .ok (.tableswitch 138 0 11 #[62, 67, 72, 77, 82, 87, 92, 97, 102, 107, 120, 133], 62) := by decide +kernel
theorem d_Mo_look_68 : decode prog_9_method_34_code 68 = .ok (.aload_n 0, 1) := by decide +kernel
theorem d_Mo_look_69 : decode prog_9_method_34_code 69 = .ok (.getfield 27, 3) := by decide +kernel
theorem d_Mo_look_72 : decode prog_9_method_34_code 72 = .ok (.ireturn, 1) := by decide +kernel
theorem d_Mo_look_73 : decode prog_9_method_34_code 73 = .ok (.aload_n 0, 1) := by decide +kernel
theorem d_Mo_look_74 : decode prog_9_method_34_code 74 = .ok (.getfield 31, 3) := by decide +kernel
theorem d_Mo_look_77 : decode prog_9_method_34_code 77 = .ok (.ireturn, 1) := by decide +kernel
theorem d_Mo_look_78 : decode prog_9_method_34_code 78 = .ok (.aload_n 0, 1) := by decide +kernel
theorem d_Mo_look_79 : decode prog_9_method_34_code 79 = .ok (.getfield 34, 3) := by decide +kernel
theorem d_Mo_look_82 : decode prog_9_method_34_code 82 = .ok (.ireturn, 1) := by decide +kernel
theorem d_Mo_look_83 : decode prog_9_method_34_code 83 = .ok (.aload_n 0, 1) := by decide +kernel
theorem d_Mo_look_84 : decode prog_9_method_34_code 84 = .ok (.getfield 112, 3) := by decide +kernel
theorem d_Mo_look_87 : decode prog_9_method_34_code 87 = .ok (.ireturn, 1) := by decide +kernel
theorem d_Mo_look_88 : decode prog_9_method_34_code 88 = .ok (.aload_n 0, 1) := by decide +kernel
theorem d_Mo_look_89 : decode prog_9_method_34_code 89 = .ok (.getfield 128, 3) := by decide +kernel
theorem d_Mo_look_92 : decode prog_9_method_34_code 92 = .ok (.ireturn, 1) := by decide +kernel
theorem d_Mo_look_93 : decode prog_9_method_34_code 93 = .ok (.aload_n 0, 1) := by decide +kernel
theorem d_Mo_look_94 : decode prog_9_method_34_code 94 = .ok (.getfield 95, 3) := by decide +kernel
theorem d_Mo_look_97 : decode prog_9_method_34_code 97 = .ok (.ireturn, 1) := by decide +kernel
theorem d_Mo_look_98 : decode prog_9_method_34_code 98 = .ok (.aload_n 0, 1) := by decide +kernel
theorem d_Mo_look_99 : decode prog_9_method_34_code 99 = .ok (.getfield 98, 3) := by decide +kernel
theorem d_Mo_look_102 : decode prog_9_method_34_code 102 = .ok (.ireturn, 1) := by decide +kernel
theorem d_Mo_look_103 : decode prog_9_method_34_code 103 = .ok (.aload_n 0, 1) := by decide +kernel
theorem d_Mo_look_104 : decode prog_9_method_34_code 104 = .ok (.getfield 51, 3) := by decide +kernel
theorem d_Mo_look_107 : decode prog_9_method_34_code 107 = .ok (.ireturn, 1) := by decide +kernel
theorem d_Mo_look_108 : decode prog_9_method_34_code 108 = .ok (.aload_n 0, 1) := by decide +kernel
theorem d_Mo_look_109 : decode prog_9_method_34_code 109 = .ok (.getfield 58, 3) := by decide +kernel
theorem d_Mo_look_112 : decode prog_9_method_34_code 112 = .ok (.ireturn, 1) := by decide +kernel
theorem d_Mo_look_113 : decode prog_9_method_34_code 113 = .ok (.aload_n 0, 1) := by decide +kernel
theorem d_Mo_look_114 : decode prog_9_method_34_code 114 = .ok (.getfield 75, 3) := by decide +kernel
theorem d_Mo_look_117 : decode prog_9_method_34_code 117 = .ok (.ifCond .eq 7, 3) := by decide +kernel
theorem d_Mo_look_120 : decode prog_9_method_34_code 120 = .ok (.iconst 1, 1) := by decide +kernel
theorem d_Mo_look_121 : decode prog_9_method_34_code 121 = .ok (.goto 4, 3) := by decide +kernel
theorem d_Mo_look_124 : decode prog_9_method_34_code 124 = .ok (.iconst 0, 1) := by decide +kernel
theorem d_Mo_look_125 : decode prog_9_method_34_code 125 = .ok (.ireturn, 1) := by decide +kernel
theorem d_Mo_look_126 : decode prog_9_method_34_code 126 = .ok (.aload_n 0, 1) := by decide +kernel
theorem d_Mo_look_127 : decode prog_9_method_34_code 127 = .ok (.getfield 86, 3) := by decide +kernel
theorem d_Mo_look_130 : decode prog_9_method_34_code 130 = .ok (.ifCond .eq 7, 3) := by decide +kernel
theorem d_Mo_look_133 : decode prog_9_method_34_code 133 = .ok (.iconst 1, 1) := by decide +kernel
theorem d_Mo_look_134 : decode prog_9_method_34_code 134 = .ok (.goto 4, 3) := by decide +kernel
theorem d_Mo_look_137 : decode prog_9_method_34_code 137 = .ok (.iconst 0, 1) := by decide +kernel
theorem d_Mo_look_138 : decode prog_9_method_34_code 138 = .ok (.ireturn, 1) := by decide +kernel
theorem d_Mo_look_139 : decode prog_9_method_34_code 139 = .ok (.aload_n 0, 1) := by decide +kernel
theorem d_Mo_look_140 : decode prog_9_method_34_code 140 = .ok (.getfield 89, 3) := by decide +kernel
theorem d_Mo_look_143 : decode prog_9_method_34_code 143 = .ok (.ireturn, 1) := by decide +kernel
theorem d_Mo_look_144 : decode prog_9_method_34_code 144 = .ok (.iconst (-1), 1) := by decide +kernel
theorem d_Mo_look_145 : decode prog_9_method_34_code 145 = .ok (.ireturn, 1) := by decide +kernel

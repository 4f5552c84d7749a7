theorem d_BP_init_0 : decode prog_1_method_1_code 0 = .ok (.aload_n 0, 1) := by decide +kernel
theorem d_BP_init_1 : decode prog_1_method_1_code 1 = .ok (.invokespecial 1, 3) := by decide +kernel
theorem d_BP_init_4 : decode prog_1_method_1_code 4 = .ok (.aload_n 0, 1) := by decide +kernel
theorem d_BP_init_5 : decode prog_1_method_1_code 5 = .ok (.iconst 1, 1) := by decide +kernel
theorem d_BP_init_6 : decode prog_1_method_1_code 6 = .ok (.iload_n 1, 1) := by decide +kernel
theorem d_BP_init_7 : decode prog_1_method_1_code 7 = .ok (.sipush 5100, 3) := by decide +kernel
theorem d_BP_init_10 : decode prog_1_method_1_code 10 = .ok (.invokestatic 9, 3) := by decide +kernel
theorem d_BP_init_13 : decode prog_1_method_1_code 13 = .ok (.putfield 13, 3) := by decide +kernel
theorem d_BP_init_16 : decode prog_1_method_1_code 16 = .ok (.aload_n 0, 1) := by decide +kernel
theorem d_BP_init_17 : decode prog_1_method_1_code 17 = .ok (.iconst 1, 1) := by decide +kernel
theorem d_BP_init_18 : decode prog_1_method_1_code 18 = .ok (.iload_n 2, 1) := by decide +kernel
theorem d_BP_init_19 : decode prog_1_method_1_code 19 = .ok (.sipush 5100, 3) := by decide +kernel
theorem d_BP_init_22 : decode prog_1_method_1_code 22 = .ok (.invokestatic 9, 3) := by decide +kernel
theorem d_BP_init_25 : decode prog_1_method_1_code 25 = .ok (.putfield 17, 3) := by decide +kernel
theorem d_BP_init_28 : decode prog_1_method_1_code 28 = .ok (.aload_n 0, 1) := by decide +kernel
theorem d_BP_init_29 : decode prog_1_method_1_code 29 = .ok (.iconst 1, 1) := by decide +kernel
theorem d_BP_init_30 : decode prog_1_method_1_code 30 = .ok (.iload_n 3, 1) := by decide +kernel
theorem d_BP_init_31 : decode prog_1_method_1_code 31 = .ok (.aload_n 0, 1) := by decide +kernel
theorem d_BP_init_32 : decode prog_1_method_1_code 32 = .ok (.getfield 17, 3) := by decide +kernel
theorem d_BP_init_35 : decode prog_1_method_1_code 35 = .ok (.invokestatic 9, 3) := by decide +kernel
theorem d_BP_init_38 : decode prog_1_method_1_code 38 = .ok (.putfield 20, 3) := by decide +kernel
theorem d_BP_init_41 : decode prog_1_method_1_code 41 = .ok (.aload_n 0, 1) := by decide +kernel
theorem d_BP_init_42 : decode prog_1_method_1_code 42 = .ok (.new 23, 3) := by decide +kernel
theorem d_BP_init_45 : decode prog_1_method_1_code 45 = .ok (.dup, 1) := by decide +kernel
theorem d_BP_init_46 : decode prog_1_method_1_code 46 = .ok (.iconst 0, 1) := by decide +kernel
theorem d_BP_init_47 : decode prog_1_method_1_code 47 = .ok (.iconst 0, 1) := by decide +kernel
theorem d_BP_init_48 : decode prog_1_method_1_code 48 = .ok (.aload_n 0, 1) := by decide +kernel
theorem d_BP_init_49 : decode prog_1_method_1_code 49 = .ok (.getfield 13, 3) := by decide +kernel
theorem d_BP_init_52 : decode prog_1_method_1_code 52 = .ok (.iconst 1, 1) := by decide +kernel
theorem d_BP_init_53 : decode prog_1_method_1_code 53 = .ok (.isub, 1) := by decide +kernel
theorem d_BP_init_54 : decode prog_1_method_1_code 54 = .ok (.aload_n 0, 1) := by decide +kernel
theorem d_BP_init_55 : decode prog_1_method_1_code 55 = .ok (.getfield 17, 3) := by decide +kernel
theorem d_BP_init_58 : decode prog_1_method_1_code 58 = .ok (.iconst 1, 1) := by decide +kernel
theorem d_BP_init_59 : decode prog_1_method_1_code 59 = .ok (.isub, 1) := by decide +kernel
theorem d_BP_init_60 : decode prog_1_method_1_code 60 = .ok (.invokespecial 25, 3) := by decide +kernel
theorem d_BP_init_63 : decode prog_1_method_1_code 63 = .ok (.putfield 28, 3) := by decide +kernel
theorem d_BP_init_66 : decode prog_1_method_1_code 66 = .ok (.aload_n 0, 1) := by decide +kernel
theorem d_BP_init_67 : decode prog_1_method_1_code 67 = .ok (.bipush 64, 2) := by decide +kernel
theorem d_BP_init_69 : decode prog_1_method_1_code 69 = .ok (.anewarray 32, 3) := by decide +kernel
theorem d_BP_init_72 : decode prog_1_method_1_code 72 = .ok (.putfield 34, 3) := by decide +kernel
theorem d_BP_init_75 : decode prog_1_method_1_code 75 = .ok (.aload_n 0, 1) := by decide +kernel
theorem d_BP_init_76 : decode prog_1_method_1_code 76 = .ok (.new 38, 3) := by decide +kernel
theorem d_BP_init_79 : decode prog_1_method_1_code 79 = .ok (.dup, 1) := by decide +kernel
theorem d_BP_init_80 : decode prog_1_method_1_code 80 = .ok (.aload_n 0, 1) := by decide +kernel
theorem d_BP_init_81 : decode prog_1_method_1_code 81 = .ok (.getfield 17, 3) := by decide +kernel
theorem d_BP_init_84 : decode prog_1_method_1_code 84 = .ok (.invokespecial 40, 3) := by decide +kernel
theorem d_BP_init_87 : decode prog_1_method_1_code 87 = .ok (.putfield 43, 3) := by decide +kernel
theorem d_BP_init_90 : decode prog_1_method_1_code 90 = .ok (.aload_n 0, 1) := by decide +kernel
theorem d_BP_init_91 : decode prog_1_method_1_code 91 = .ok (.new 47, 3) := by decide +kernel
theorem d_BP_init_94 : decode prog_1_method_1_code 94 = .ok (.dup, 1) := by decide +kernel
theorem d_BP_init_95 : decode prog_1_method_1_code 95 = .ok (.iconst 0, 1) := by decide +kernel
theorem d_BP_init_96 : decode prog_1_method_1_code 96 = .ok (.iconst 0, 1) := by decide +kernel
theorem d_BP_init_97 : decode prog_1_method_1_code 97 = .ok (.invokespecial 49, 3) := by decide +kernel
theorem d_BP_init_100 : decode prog_1_method_1_code 100 = .ok (.putfield 52, 3) := by decide +kernel
theorem d_BP_init_103 : decode prog_1_method_1_code 103 = .ok (.aload_n 0, 1) := by decide +kernel
theorem d_BP_init_104 : decode prog_1_method_1_code 104 = .ok (.aload_n 0, 1) := by decide +kernel
theorem d_BP_init_105 : decode prog_1_method_1_code 105 = .ok (.getfield 28, 3) := by decide +kernel
theorem d_BP_init_108 : decode prog_1_method_1_code 108 = .ok (.putfield 56, 3) := by decide +kernel
theorem d_BP_init_111 : decode prog_1_method_1_code 111 = .ok (.return_, 1) := by decide +kernel
theorem d_BP_shape_0 : decode prog_1_method_2_code 0 = .ok (.iconst 1, 1) := by decide +kernel
theorem d_BP_shape_1 : decode prog_1_method_2_code 1 = .ok (.iload_n 1, 1) := by decide +kernel
theorem d_BP_shape_2 : decode prog_1_method_2_code 2 = .ok (.sipush 128, 3) := by decide +kernel
theorem d_BP_shape_5 : decode prog_1_method_2_code 5 = .ok (.invokestatic 59, 3) := by decide +kernel
theorem d_BP_shape_8 : decode prog_1_method_2_code 8 = .ok (.ifCond .eq 14, 3) := by decide +kernel
theorem d_BP_shape_11 : decode prog_1_method_2_code 11 = .ok (.iconst 1, 1) := by decide +kernel
theorem d_BP_shape_12 : decode prog_1_method_2_code 12 = .ok (.iload_n 2, 1) := by decide +kernel
theorem d_BP_shape_13 : decode prog_1_method_2_code 13 = .ok (.sipush 128, 3) := by decide +kernel
theorem d_BP_shape_16 : decode prog_1_method_2_code 16 = .ok (.invokestatic 59, 3) := by decide +kernel
theorem d_BP_shape_19 : decode prog_1_method_2_code 19 = .ok (.ifCond .ne 13, 3) := by decide +kernel
theorem d_BP_shape_22 : decode prog_1_method_2_code 22 = .ok (.new 63, 3) := by decide +kernel
theorem d_BP_shape_25 : decode prog_1_method_2_code 25 = .ok (.dup, 1) := by decide +kernel
theorem d_BP_shape_26 : decode prog_1_method_2_code 26 = .ok (.ldc 65, 2) := by decide +kernel
theorem d_BP_shape_28 : decode prog_1_method_2_code 28 = .ok (.invokespecial 67, 3) := by decide +kernel
theorem d_BP_shape_31 : decode prog_1_method_2_code 31 = .ok (.athrow, 1) := by decide +kernel
theorem d_BP_shape_32 : decode prog_1_method_2_code 32 = .ok (.aload_n 0, 1) := by decide +kernel
theorem d_BP_shape_33 : decode prog_1_method_2_code 33 = .ok (.getfield 70, 3) := by decide +kernel
theorem d_BP_shape_36 : decode prog_1_method_2_code 36 = .ok (.bipush 64, 2) := by decide +kernel
theorem d_BP_shape_38 : decode prog_1_method_2_code 38 = .ok (.if_icmp .ge 15, 3) := by decide +kernel
theorem d_BP_shape_41 : decode prog_1_method_2_code 41 = .ok (.aload_n 0, 1) := by decide +kernel
theorem d_BP_shape_42 : decode prog_1_method_2_code 42 = .ok (.getfield 73, 3) := by decide +kernel
theorem d_BP_shape_45 : decode prog_1_method_2_code 45 = .ok (.iload_n 2, 1) := by decide +kernel
theorem d_BP_shape_46 : decode prog_1_method_2_code 46 = .ok (.iadd, 1) := by decide +kernel
theorem d_BP_shape_47 : decode prog_1_method_2_code 47 = .ok (.sipush 4096, 3) := by decide +kernel
theorem d_BP_shape_50 : decode prog_1_method_2_code 50 = .ok (.if_icmp .le 13, 3) := by decide +kernel
theorem d_BP_shape_53 : decode prog_1_method_2_code 53 = .ok (.new 76, 3) := by decide +kernel
theorem d_BP_shape_56 : decode prog_1_method_2_code 56 = .ok (.dup, 1) := by decide +kernel
theorem d_BP_shape_57 : decode prog_1_method_2_code 57 = .ok (.ldc 78, 2) := by decide +kernel
theorem d_BP_shape_59 : decode prog_1_method_2_code 59 = .ok (.invokespecial 80, 3) := by decide +kernel
theorem d_BP_shape_62 : decode prog_1_method_2_code 62 = .ok (.athrow, 1) := by decide +kernel
theorem d_BP_shape_63 : decode prog_1_method_2_code 63 = .ok (.aload_n 0, 1) := by decide +kernel
theorem d_BP_shape_64 : decode prog_1_method_2_code 64 = .ok (.getfield 70, 3) := by decide +kernel
theorem d_BP_shape_67 : decode prog_1_method_2_code 67 = .ok (.istore_n 3, 1) := by decide +kernel
theorem d_BP_shape_68 : decode prog_1_method_2_code 68 = .ok (.aload_n 0, 1) := by decide +kernel
theorem d_BP_shape_69 : decode prog_1_method_2_code 69 = .ok (.getfield 34, 3) := by decide +kernel
theorem d_BP_shape_72 : decode prog_1_method_2_code 72 = .ok (.iload_n 3, 1) := by decide +kernel
theorem d_BP_shape_73 : decode prog_1_method_2_code 73 = .ok (.new 32, 3) := by decide +kernel
theorem d_BP_shape_76 : decode prog_1_method_2_code 76 = .ok (.dup, 1) := by decide +kernel
theorem d_BP_shape_77 : decode prog_1_method_2_code 77 = .ok (.iload_n 1, 1) := by decide +kernel
theorem d_BP_shape_78 : decode prog_1_method_2_code 78 = .ok (.iload_n 2, 1) := by decide +kernel
theorem d_BP_shape_79 : decode prog_1_method_2_code 79 = .ok (.invokespecial 81, 3) := by decide +kernel
theorem d_BP_shape_82 : decode prog_1_method_2_code 82 = .ok (.aastore, 1) := by decide +kernel
theorem d_BP_shape_83 : decode prog_1_method_2_code 83 = .ok (.aload_n 0, 1) := by decide +kernel
theorem d_BP_shape_84 : decode prog_1_method_2_code 84 = .ok (.dup, 1) := by decide +kernel
theorem d_BP_shape_85 : decode prog_1_method_2_code 85 = .ok (.getfield 70, 3) := by decide +kernel
theorem d_BP_shape_88 : decode prog_1_method_2_code 88 = .ok (.iconst 1, 1) := by decide +kernel
theorem d_BP_shape_89 : decode prog_1_method_2_code 89 = .ok (.iadd, 1) := by decide +kernel
theorem d_BP_shape_90 : decode prog_1_method_2_code 90 = .ok (.putfield 70, 3) := by decide +kernel
theorem d_BP_shape_93 : decode prog_1_method_2_code 93 = .ok (.aload_n 0, 1) := by decide +kernel
theorem d_BP_shape_94 : decode prog_1_method_2_code 94 = .ok (.dup, 1) := by decide +kernel
theorem d_BP_shape_95 : decode prog_1_method_2_code 95 = .ok (.getfield 73, 3) := by decide +kernel
theorem d_BP_shape_98 : decode prog_1_method_2_code 98 = .ok (.iload_n 2, 1) := by decide +kernel
theorem d_BP_shape_99 : decode prog_1_method_2_code 99 = .ok (.iadd, 1) := by decide +kernel
theorem d_BP_shape_100 : decode prog_1_method_2_code 100 = .ok (.putfield 73, 3) := by decide +kernel
theorem d_BP_shape_103 : decode prog_1_method_2_code 103 = .ok (.iload_n 3, 1) := by decide +kernel
theorem d_BP_shape_104 : decode prog_1_method_2_code 104 = .ok (.ireturn, 1) := by decide +kernel
theorem d_BP_draw_0 : decode prog_1_method_3_code 0 = .ok (.aload_n 0, 1) := by decide +kernel
theorem d_BP_draw_1 : decode prog_1_method_3_code 1 = .ok (.iload_n 1, 1) := by decide +kernel
theorem d_BP_draw_2 : decode prog_1_method_3_code 2 = .ok (.invokevirtual 82, 3) := by decide +kernel
theorem d_BP_draw_5 : decode prog_1_method_3_code 5 = .ok (.astore 7, 2) := by decide +kernel
theorem d_BP_draw_7 : decode prog_1_method_3_code 7 = .ok (.aload 7, 2) := by decide +kernel
theorem d_BP_draw_9 : decode prog_1_method_3_code 9 = .ok (.ifnull 29, 3) := by decide +kernel
theorem d_BP_draw_12 : decode prog_1_method_3_code 12 = .ok (.aload 7, 2) := by decide +kernel
theorem d_BP_draw_14 : decode prog_1_method_3_code 14 = .ok (.getfield 86, 3) := by decide +kernel
theorem d_BP_draw_17 : decode prog_1_method_3_code 17 = .ok (.ifCond .ne 21, 3) := by decide +kernel
theorem d_BP_draw_20 : decode prog_1_method_3_code 20 = .ok (.iconst 0, 1) := by decide +kernel
theorem d_BP_draw_21 : decode prog_1_method_3_code 21 = .ok (.iload_n 2, 1) := by decide +kernel
theorem d_BP_draw_22 : decode prog_1_method_3_code 22 = .ok (.aload 7, 2) := by decide +kernel
theorem d_BP_draw_24 : decode prog_1_method_3_code 24 = .ok (.getfield 90, 3) := by decide +kernel
theorem d_BP_draw_27 : decode prog_1_method_3_code 27 = .ok (.getfield 94, 3) := by decide +kernel
theorem d_BP_draw_30 : decode prog_1_method_3_code 30 = .ok (.iconst 1, 1) := by decide +kernel
theorem d_BP_draw_31 : decode prog_1_method_3_code 31 = .ok (.isub, 1) := by decide +kernel
theorem d_BP_draw_32 : decode prog_1_method_3_code 32 = .ok (.invokestatic 59, 3) := by decide +kernel
theorem d_BP_draw_35 : decode prog_1_method_3_code 35 = .ok (.ifCond .ne 5, 3) := by decide +kernel
theorem d_BP_draw_38 : decode prog_1_method_3_code 38 = .ok (.iconst 0, 1) := by decide +kernel
theorem d_BP_draw_39 : decode prog_1_method_3_code 39 = .ok (.ireturn, 1) := by decide +kernel
theorem d_BP_draw_40 : decode prog_1_method_3_code 40 = .ok (.aload 7, 2) := by decide +kernel
theorem d_BP_draw_42 : decode prog_1_method_3_code 42 = .ok (.iload_n 2, 1) := by decide +kernel
theorem d_BP_draw_43 : decode prog_1_method_3_code 43 = .ok (.lload_n 3, 1) := by decide +kernel
theorem d_BP_draw_44 : decode prog_1_method_3_code 44 = .ok (.lload 5, 2) := by decide +kernel
theorem d_BP_draw_46 : decode prog_1_method_3_code 46 = .ok (.invokevirtual 99, 3) := by decide +kernel
theorem d_BP_draw_49 : decode prog_1_method_3_code 49 = .ok (.iconst 1, 1) := by decide +kernel
theorem d_BP_draw_50 : decode prog_1_method_3_code 50 = .ok (.ireturn, 1) := by decide +kernel
theorem d_BP_ink_0 : decode prog_1_method_4_code 0 = .ok (.iload_n 1, 1) := by decide +kernel
theorem d_BP_ink_1 : decode prog_1_method_4_code 1 = .ok (.iload_n 2, 1) := by decide +kernel
theorem d_BP_ink_2 : decode prog_1_method_4_code 2 = .ok (.invokestatic 103, 3) := by decide +kernel
theorem d_BP_ink_5 : decode prog_1_method_4_code 5 = .ok (.ifCond .ne 5, 3) := by decide +kernel
theorem d_BP_ink_8 : decode prog_1_method_4_code 8 = .ok (.iconst 0, 1) := by decide +kernel
theorem d_BP_ink_9 : decode prog_1_method_4_code 9 = .ok (.ireturn, 1) := by decide +kernel
theorem d_BP_ink_10 : decode prog_1_method_4_code 10 = .ok (.aload_n 0, 1) := by decide +kernel
theorem d_BP_ink_11 : decode prog_1_method_4_code 11 = .ok (.new 47, 3) := by decide +kernel
theorem d_BP_ink_14 : decode prog_1_method_4_code 14 = .ok (.dup, 1) := by decide +kernel
theorem d_BP_ink_15 : decode prog_1_method_4_code 15 = .ok (.iload_n 1, 1) := by decide +kernel
theorem d_BP_ink_16 : decode prog_1_method_4_code 16 = .ok (.iload_n 2, 1) := by decide +kernel
theorem d_BP_ink_17 : decode prog_1_method_4_code 17 = .ok (.invokespecial 49, 3) := by decide +kernel
theorem d_BP_ink_20 : decode prog_1_method_4_code 20 = .ok (.putfield 52, 3) := by decide +kernel
theorem d_BP_ink_23 : decode prog_1_method_4_code 23 = .ok (.iconst 1, 1) := by decide +kernel
theorem d_BP_ink_24 : decode prog_1_method_4_code 24 = .ok (.ireturn, 1) := by decide +kernel
theorem d_BP_mode_0 : decode prog_1_method_5_code 0 = .ok (.aload_n 0, 1) := by decide +kernel
theorem d_BP_mode_1 : decode prog_1_method_5_code 1 = .ok (.iload_n 1, 1) := by decide +kernel
theorem d_BP_mode_2 : decode prog_1_method_5_code 2 = .ok (.putfield 107, 3) := by decide +kernel
theorem d_BP_mode_5 : decode prog_1_method_5_code 5 = .ok (.aload_n 0, 1) := by decide +kernel
theorem d_BP_mode_6 : decode prog_1_method_5_code 6 = .ok (.iload_n 2, 1) := by decide +kernel
theorem d_BP_mode_7 : decode prog_1_method_5_code 7 = .ok (.putfield 110, 3) := by decide +kernel
theorem d_BP_mode_10 : decode prog_1_method_5_code 10 = .ok (.return_, 1) := by decide +kernel
theorem d_BP_turn_0 : decode prog_1_method_6_code 0 = .ok (.iconst 0, 1) := by decide +kernel
theorem d_BP_turn_1 : decode prog_1_method_6_code 1 = .ok (.iload_n 1, 1) := by decide +kernel
theorem d_BP_turn_2 : decode prog_1_method_6_code 2 = .ok (.iconst 3, 1) := by decide +kernel
theorem d_BP_turn_3 : decode prog_1_method_6_code 3 = .ok (.invokestatic 59, 3) := by decide +kernel
theorem d_BP_turn_6 : decode prog_1_method_6_code 6 = .ok (.ifCond .ne 5, 3) := by decide +kernel
theorem d_BP_turn_9 : decode prog_1_method_6_code 9 = .ok (.iconst 0, 1) := by decide +kernel
theorem d_BP_turn_10 : decode prog_1_method_6_code 10 = .ok (.ireturn, 1) := by decide +kernel
theorem d_BP_turn_11 : decode prog_1_method_6_code 11 = .ok (.aload_n 0, 1) := by decide +kernel
theorem d_BP_turn_12 : decode prog_1_method_6_code 12 = .ok (.iload_n 1, 1) := by decide +kernel
theorem d_BP_turn_13 : decode prog_1_method_6_code 13 = .ok (.putfield 113, 3) := by decide +kernel
theorem d_BP_turn_16 : decode prog_1_method_6_code 16 = .ok (.iconst 1, 1) := by decide +kernel
theorem d_BP_turn_17 : decode prog_1_method_6_code 17 = .ok (.ireturn, 1) := by decide +kernel
theorem d_BP_clip_0 : decode prog_1_method_7_code 0 = .ok (.iload_n 1, 1) := by decide +kernel
theorem d_BP_clip_1 : decode prog_1_method_7_code 1 = .ok (.iload_n 3, 1) := by decide +kernel
theorem d_BP_clip_2 : decode prog_1_method_7_code 2 = .ok (.if_icmp .gt 9, 3) := by decide +kernel
theorem d_BP_clip_5 : decode prog_1_method_7_code 5 = .ok (.iload_n 2, 1) := by decide +kernel
theorem d_BP_clip_6 : decode prog_1_method_7_code 6 = .ok (.iload 4, 2) := by decide +kernel
theorem d_BP_clip_8 : decode prog_1_method_7_code 8 = .ok (.if_icmp .le 5, 3) := by decide +kernel
theorem d_BP_clip_11 : decode prog_1_method_7_code 11 = .ok (.iconst 0, 1) := by decide +kernel
theorem d_BP_clip_12 : decode prog_1_method_7_code 12 = .ok (.ireturn, 1) := by decide +kernel
theorem d_BP_clip_13 : decode prog_1_method_7_code 13 = .ok (.aload_n 0, 1) := by decide +kernel
theorem d_BP_clip_14 : decode prog_1_method_7_code 14 = .ok (.new 23, 3) := by decide +kernel
theorem d_BP_clip_17 : decode prog_1_method_7_code 17 = .ok (.dup, 1) := by decide +kernel
theorem d_BP_clip_18 : decode prog_1_method_7_code 18 = .ok (.iload_n 1, 1) := by decide +kernel
theorem d_BP_clip_19 : decode prog_1_method_7_code 19 = .ok (.iload_n 2, 1) := by decide +kernel
theorem d_BP_clip_20 : decode prog_1_method_7_code 20 = .ok (.iload_n 3, 1) := by decide +kernel
theorem d_BP_clip_21 : decode prog_1_method_7_code 21 = .ok (.iload 4, 2) := by decide +kernel
theorem d_BP_clip_23 : decode prog_1_method_7_code 23 = .ok (.invokespecial 25, 3) := by decide +kernel
theorem d_BP_clip_26 : decode prog_1_method_7_code 26 = .ok (.aload_n 0, 1) := by decide +kernel
theorem d_BP_clip_27 : decode prog_1_method_7_code 27 = .ok (.getfield 28, 3) := by decide +kernel
theorem d_BP_clip_30 : decode prog_1_method_7_code 30 = .ok (.invokevirtual 116, 3) := by decide +kernel
theorem d_BP_clip_33 : decode prog_1_method_7_code 33 = .ok (.putfield 56, 3) := by decide +kernel
theorem d_BP_clip_36 : decode prog_1_method_7_code 36 = .ok (.iconst 1, 1) := by decide +kernel
theorem d_BP_clip_37 : decode prog_1_method_7_code 37 = .ok (.ireturn, 1) := by decide +kernel
theorem d_BP_stamp_0 : decode prog_1_method_8_code 0 = .ok (.aload_n 0, 1) := by decide +kernel
theorem d_BP_stamp_1 : decode prog_1_method_8_code 1 = .ok (.iload_n 1, 1) := by decide +kernel
theorem d_BP_stamp_2 : decode prog_1_method_8_code 2 = .ok (.invokevirtual 82, 3) := by decide +kernel
theorem d_BP_stamp_5 : decode prog_1_method_8_code 5 = .ok (.astore 4, 2) := by decide +kernel
theorem d_BP_stamp_7 : decode prog_1_method_8_code 7 = .ok (.aload 4, 2) := by decide +kernel
theorem d_BP_stamp_9 : decode prog_1_method_8_code 9 = .ok (.ifnull 12, 3) := by decide +kernel
theorem d_BP_stamp_12 : decode prog_1_method_8_code 12 = .ok (.aload_n 0, 1) := by decide +kernel
theorem d_BP_stamp_13 : decode prog_1_method_8_code 13 = .ok (.iload_n 2, 1) := by decide +kernel
theorem d_BP_stamp_14 : decode prog_1_method_8_code 14 = .ok (.iload_n 3, 1) := by decide +kernel
theorem d_BP_stamp_15 : decode prog_1_method_8_code 15 = .ok (.invokevirtual 120, 3) := by decide +kernel
theorem d_BP_stamp_18 : decode prog_1_method_8_code 18 = .ok (.ifCond .ne 5, 3) := by decide +kernel
theorem d_BP_stamp_21 : decode prog_1_method_8_code 21 = .ok (.iconst 0, 1) := by decide +kernel
theorem d_BP_stamp_22 : decode prog_1_method_8_code 22 = .ok (.ireturn, 1) := by decide +kernel
theorem d_BP_stamp_23 : decode prog_1_method_8_code 23 = .ok (.aload 4, 2) := by decide +kernel
theorem d_BP_stamp_25 : decode prog_1_method_8_code 25 = .ok (.iconst 1, 1) := by decide +kernel
theorem d_BP_stamp_26 : decode prog_1_method_8_code 26 = .ok (.putfield 86, 3) := by decide +kernel
theorem d_BP_stamp_29 : decode prog_1_method_8_code 29 = .ok (.aload_n 0, 1) := by decide +kernel
theorem d_BP_stamp_30 : decode prog_1_method_8_code 30 = .ok (.aload 4, 2) := by decide +kernel
theorem d_BP_stamp_32 : decode prog_1_method_8_code 32 = .ok (.aload_n 0, 1) := by decide +kernel
theorem d_BP_stamp_33 : decode prog_1_method_8_code 33 = .ok (.getfield 113, 3) := by decide +kernel
theorem d_BP_stamp_36 : decode prog_1_method_8_code 36 = .ok (.invokevirtual 123, 3) := by decide +kernel
theorem d_BP_stamp_39 : decode prog_1_method_8_code 39 = .ok (.iload_n 2, 1) := by decide +kernel
theorem d_BP_stamp_40 : decode prog_1_method_8_code 40 = .ok (.iload_n 3, 1) := by decide +kernel
theorem d_BP_stamp_41 : decode prog_1_method_8_code 41 = .ok (.aload 4, 2) := by decide +kernel
theorem d_BP_stamp_43 : decode prog_1_method_8_code 43 = .ok (.getfield 90, 3) := by decide +kernel
theorem d_BP_stamp_46 : decode prog_1_method_8_code 46 = .ok (.getfield 127, 3) := by decide +kernel
theorem d_BP_stamp_49 : decode prog_1_method_8_code 49 = .ok (.aload 4, 2) := by decide +kernel
theorem d_BP_stamp_51 : decode prog_1_method_8_code 51 = .ok (.getfield 90, 3) := by decide +kernel
theorem d_BP_stamp_54 : decode prog_1_method_8_code 54 = .ok (.getfield 94, 3) := by decide +kernel
theorem d_BP_stamp_57 : decode prog_1_method_8_code 57 = .ok (.invokevirtual 130, 3) := by decide +kernel
theorem d_BP_stamp_60 : decode prog_1_method_8_code 60 = .ok (.iconst 1, 1) := by decide +kernel
theorem d_BP_stamp_61 : decode prog_1_method_8_code 61 = .ok (.ireturn, 1) := by decide +kernel
theorem d_BP_rule_0 : decode prog_1_method_9_code 0 = .ok (.aload_n 0, 1) := by decide +kernel
theorem d_BP_rule_1 : decode prog_1_method_9_code 1 = .ok (.iload_n 1, 1) := by decide +kernel
theorem d_BP_rule_2 : decode prog_1_method_9_code 2 = .ok (.iload_n 2, 1) := by decide +kernel
theorem d_BP_rule_3 : decode prog_1_method_9_code 3 = .ok (.invokevirtual 120, 3) := by decide +kernel
theorem d_BP_rule_6 : decode prog_1_method_9_code 6 = .ok (.ifCond .eq 26, 3) := by decide +kernel
theorem d_BP_rule_9 : decode prog_1_method_9_code 9 = .ok (.iconst 1, 1) := by decide +kernel
theorem d_BP_rule_10 : decode prog_1_method_9_code 10 = .ok (.iload_n 3, 1) := by decide +kernel
theorem d_BP_rule_11 : decode prog_1_method_9_code 11 = .ok (.sipush 10000, 3) := by decide +kernel
theorem d_BP_rule_14 : decode prog_1_method_9_code 14 = .ok (.invokestatic 59, 3) := by decide +kernel
theorem d_BP_rule_17 : decode prog_1_method_9_code 17 = .ok (.ifCond .eq 15, 3) := by decide +kernel
theorem d_BP_rule_20 : decode prog_1_method_9_code 20 = .ok (.iconst 1, 1) := by decide +kernel
theorem d_BP_rule_21 : decode prog_1_method_9_code 21 = .ok (.iload 4, 2) := by decide +kernel
theorem d_BP_rule_23 : decode prog_1_method_9_code 23 = .ok (.sipush 10000, 3) := by decide +kernel
theorem d_BP_rule_26 : decode prog_1_method_9_code 26 = .ok (.invokestatic 59, 3) := by decide +kernel
theorem d_BP_rule_29 : decode prog_1_method_9_code 29 = .ok (.ifCond .ne 5, 3) := by decide +kernel
theorem d_BP_rule_32 : decode prog_1_method_9_code 32 = .ok (.iconst 0, 1) := by decide +kernel
theorem d_BP_rule_33 : decode prog_1_method_9_code 33 = .ok (.ireturn, 1) := by decide +kernel
theorem d_BP_rule_34 : decode prog_1_method_9_code 34 = .ok (.aload_n 0, 1) := by decide +kernel
theorem d_BP_rule_35 : decode prog_1_method_9_code 35 = .ok (.aconst_null, 1) := by decide +kernel
theorem d_BP_rule_36 : decode prog_1_method_9_code 36 = .ok (.iload_n 1, 1) := by decide +kernel
theorem d_BP_rule_37 : decode prog_1_method_9_code 37 = .ok (.iload_n 2, 1) := by decide +kernel
theorem d_BP_rule_38 : decode prog_1_method_9_code 38 = .ok (.iload_n 3, 1) := by decide +kernel
theorem d_BP_rule_39 : decode prog_1_method_9_code 39 = .ok (.iload 4, 2) := by decide +kernel
theorem d_BP_rule_41 : decode prog_1_method_9_code 41 = .ok (.invokevirtual 130, 3) := by decide +kernel
theorem d_BP_rule_44 : decode prog_1_method_9_code 44 = .ok (.iconst 1, 1) := by decide +kernel
theorem d_BP_rule_45 : decode prog_1_method_9_code 45 = .ok (.ireturn, 1) := by decide +kernel
theorem d_BP_row_0 : decode prog_1_method_10_code 0 = .ok (.aload_n 0, 1) := by decide +kernel
theorem d_BP_row_1 : decode prog_1_method_10_code 1 = .ok (.iload_n 1, 1) := by decide +kernel
theorem d_BP_row_2 : decode prog_1_method_10_code 2 = .ok (.iload_n 2, 1) := by decide +kernel
theorem d_BP_row_3 : decode prog_1_method_10_code 3 = .ok (.invokevirtual 120, 3) := by decide +kernel
theorem d_BP_row_6 : decode prog_1_method_10_code 6 = .ok (.ifCond .eq 24, 3) := by decide +kernel
theorem d_BP_row_9 : decode prog_1_method_10_code 9 = .ok (.iconst 1, 1) := by decide +kernel
theorem d_BP_row_10 : decode prog_1_method_10_code 10 = .ok (.iload_n 3, 1) := by decide +kernel
theorem d_BP_row_11 : decode prog_1_method_10_code 11 = .ok (.bipush 8, 2) := by decide +kernel
theorem d_BP_row_13 : decode prog_1_method_10_code 13 = .ok (.invokestatic 59, 3) := by decide +kernel
theorem d_BP_row_16 : decode prog_1_method_10_code 16 = .ok (.ifCond .eq 14, 3) := by decide +kernel
theorem d_BP_row_19 : decode prog_1_method_10_code 19 = .ok (.iconst 1, 1) := by decide +kernel
theorem d_BP_row_20 : decode prog_1_method_10_code 20 = .ok (.iload 4, 2) := by decide +kernel
theorem d_BP_row_22 : decode prog_1_method_10_code 22 = .ok (.bipush 64, 2) := by decide +kernel
theorem d_BP_row_24 : decode prog_1_method_10_code 24 = .ok (.invokestatic 59, 3) := by decide +kernel
theorem d_BP_row_27 : decode prog_1_method_10_code 27 = .ok (.ifCond .ne 5, 3) := by decide +kernel
theorem d_BP_row_30 : decode prog_1_method_10_code 30 = .ok (.iconst 0, 1) := by decide +kernel
theorem d_BP_row_31 : decode prog_1_method_10_code 31 = .ok (.ireturn, 1) := by decide +kernel
theorem d_BP_row_32 : decode prog_1_method_10_code 32 = .ok (.iload 4, 2) := by decide +kernel
theorem d_BP_row_34 : decode prog_1_method_10_code 34 = .ok (.bipush 7, 2) := by decide +kernel
theorem d_BP_row_36 : decode prog_1_method_10_code 36 = .ok (.iadd, 1) := by decide +kernel
theorem d_BP_row_37 : decode prog_1_method_10_code 37 = .ok (.bipush 8, 2) := by decide +kernel
theorem d_BP_row_39 : decode prog_1_method_10_code 39 = .ok (.idiv, 1) := by decide +kernel
theorem d_BP_row_40 : decode prog_1_method_10_code 40 = .ok (.istore 7, 2) := by decide +kernel
theorem d_BP_row_42 : decode prog_1_method_10_code 42 = .ok (.aload_n 0, 1) := by decide +kernel
theorem d_BP_row_43 : decode prog_1_method_10_code 43 = .ok (.getfield 134, 3) := by decide +kernel
theorem d_BP_row_46 : decode prog_1_method_10_code 46 = .ok (.iload 7, 2) := by decide +kernel
theorem d_BP_row_48 : decode prog_1_method_10_code 48 = .ok (.iadd, 1) := by decide +kernel
theorem d_BP_row_49 : decode prog_1_method_10_code 49 = .ok (.ldc 137, 2) := by decide +kernel
theorem d_BP_row_51 : decode prog_1_method_10_code 51 = .ok (.if_icmp .le 5, 3) := by decide +kernel
theorem d_BP_row_54 : decode prog_1_method_10_code 54 = .ok (.iconst 0, 1) := by decide +kernel
theorem d_BP_row_55 : decode prog_1_method_10_code 55 = .ok (.ireturn, 1) := by decide +kernel
theorem d_BP_row_56 : decode prog_1_method_10_code 56 = .ok (.aload_n 0, 1) := by decide +kernel
theorem d_BP_row_57 : decode prog_1_method_10_code 57 = .ok (.dup, 1) := by decide +kernel
theorem d_BP_row_58 : decode prog_1_method_10_code 58 = .ok (.getfield 134, 3) := by decide +kernel
theorem d_BP_row_61 : decode prog_1_method_10_code 61 = .ok (.iload 7, 2) := by decide +kernel
theorem d_BP_row_63 : decode prog_1_method_10_code 63 = .ok (.iadd, 1) := by decide +kernel
theorem d_BP_row_64 : decode prog_1_method_10_code 64 = .ok (.putfield 134, 3) := by decide +kernel
theorem d_BP_row_67 : decode prog_1_method_10_code 67 = .ok (.new 95, 3) := by decide +kernel
theorem d_BP_row_70 : decode prog_1_method_10_code 70 = .ok (.dup, 1) := by decide +kernel
theorem d_BP_row_71 : decode prog_1_method_10_code 71 = .ok (.iload 4, 2) := by decide +kernel
theorem d_BP_row_73 : decode prog_1_method_10_code 73 = .ok (.iconst 1, 1) := by decide +kernel
theorem d_BP_row_74 : decode prog_1_method_10_code 74 = .ok (.iconst 1, 1) := by decide +kernel
theorem d_BP_row_75 : decode prog_1_method_10_code 75 = .ok (.invokespecial 138, 3) := by decide +kernel
theorem d_BP_row_78 : decode prog_1_method_10_code 78 = .ok (.astore 8, 2) := by decide +kernel
theorem d_BP_row_80 : decode prog_1_method_10_code 80 = .ok (.aload 8, 2) := by decide +kernel
theorem d_BP_row_82 : decode prog_1_method_10_code 82 = .ok (.iconst 0, 1) := by decide +kernel
theorem d_BP_row_83 : decode prog_1_method_10_code 83 = .ok (.lload 5, 2) := by decide +kernel
theorem d_BP_row_85 : decode prog_1_method_10_code 85 = .ok (.lconst 0, 1) := by decide +kernel
theorem d_BP_row_86 : decode prog_1_method_10_code 86 = .ok (.invokevirtual 141, 3) := by decide +kernel
theorem d_BP_row_89 : decode prog_1_method_10_code 89 = .ok (.aload_n 0, 1) := by decide +kernel
theorem d_BP_row_90 : decode prog_1_method_10_code 90 = .ok (.aload 8, 2) := by decide +kernel
theorem d_BP_row_92 : decode prog_1_method_10_code 92 = .ok (.aload_n 0, 1) := by decide +kernel
theorem d_BP_row_93 : decode prog_1_method_10_code 93 = .ok (.getfield 113, 3) := by decide +kernel
theorem d_BP_row_96 : decode prog_1_method_10_code 96 = .ok (.invokevirtual 144, 3) := by decide +kernel
theorem d_BP_row_99 : decode prog_1_method_10_code 99 = .ok (.iload_n 3, 1) := by decide +kernel
theorem d_BP_row_100 : decode prog_1_method_10_code 100 = .ok (.invokevirtual 145, 3) := by decide +kernel
theorem d_BP_row_103 : decode prog_1_method_10_code 103 = .ok (.iload_n 1, 1) := by decide +kernel
theorem d_BP_row_104 : decode prog_1_method_10_code 104 = .ok (.iload_n 2, 1) := by decide +kernel
theorem d_BP_row_105 : decode prog_1_method_10_code 105 = .ok (.iload 4, 2) := by decide +kernel
theorem d_BP_row_107 : decode prog_1_method_10_code 107 = .ok (.iload_n 3, 1) := by decide +kernel
theorem d_BP_row_108 : decode prog_1_method_10_code 108 = .ok (.imul, 1) := by decide +kernel
theorem d_BP_row_109 : decode prog_1_method_10_code 109 = .ok (.iload_n 3, 1) := by decide +kernel
theorem d_BP_row_110 : decode prog_1_method_10_code 110 = .ok (.invokevirtual 130, 3) := by decide +kernel
theorem d_BP_row_113 : decode prog_1_method_10_code 113 = .ok (.iconst 1, 1) := by decide +kernel
theorem d_BP_row_114 : decode prog_1_method_10_code 114 = .ok (.ireturn, 1) := by decide +kernel
theorem d_BP_eject_0 : decode prog_1_method_11_code 0 = .ok (.aload_n 0, 1) := by decide +kernel
theorem d_BP_eject_1 : decode prog_1_method_11_code 1 = .ok (.getfield 43, 3) := by decide +kernel
theorem d_BP_eject_4 : decode prog_1_method_11_code 4 = .ok (.invokevirtual 148, 3) := by decide +kernel
theorem d_BP_eject_7 : decode prog_1_method_11_code 7 = .ok (.aload_n 0, 1) := by decide +kernel
theorem d_BP_eject_8 : decode prog_1_method_11_code 8 = .ok (.iconst 0, 1) := by decide +kernel
theorem d_BP_eject_9 : decode prog_1_method_11_code 9 = .ok (.putfield 134, 3) := by decide +kernel
theorem d_BP_eject_12 : decode prog_1_method_11_code 12 = .ok (.iconst 0, 1) := by decide +kernel
theorem d_BP_eject_13 : decode prog_1_method_11_code 13 = .ok (.istore_n 1, 1) := by decide +kernel
theorem d_BP_eject_14 : decode prog_1_method_11_code 14 = .ok (.iload_n 1, 1) := by decide +kernel
theorem d_BP_eject_15 : decode prog_1_method_11_code 15 = .ok (.aload_n 0, 1) := by decide +kernel
theorem d_BP_eject_16 : decode prog_1_method_11_code 16 = .ok (.getfield 70, 3) := by decide +kernel
theorem d_BP_eject_19 : decode prog_1_method_11_code 19 = .ok (.if_icmp .ge 24, 3) := by decide +kernel
theorem d_BP_eject_22 : decode prog_1_method_11_code 22 = .ok (.aload_n 0, 1) := by decide +kernel
theorem d_BP_eject_23 : decode prog_1_method_11_code 23 = .ok (.iload_n 1, 1) := by decide +kernel
theorem d_BP_eject_24 : decode prog_1_method_11_code 24 = .ok (.invokevirtual 82, 3) := by decide +kernel
theorem d_BP_eject_27 : decode prog_1_method_11_code 27 = .ok (.astore_n 2, 1) := by decide +kernel
theorem d_BP_eject_28 : decode prog_1_method_11_code 28 = .ok (.aload_n 2, 1) := by decide +kernel
theorem d_BP_eject_29 : decode prog_1_method_11_code 29 = .ok (.ifnull 8, 3) := by decide +kernel
theorem d_BP_eject_32 : decode prog_1_method_11_code 32 = .ok (.aload_n 2, 1) := by decide +kernel
theorem d_BP_eject_33 : decode prog_1_method_11_code 33 = .ok (.iconst 0, 1) := by decide +kernel
theorem d_BP_eject_34 : decode prog_1_method_11_code 34 = .ok (.putfield 86, 3) := by decide +kernel
theorem d_BP_eject_37 : decode prog_1_method_11_code 37 = .ok (.iinc 1 1, 3) := by decide +kernel
theorem d_BP_eject_40 : decode prog_1_method_11_code 40 = .ok (.goto (-26), 3) := by decide +kernel
theorem d_BP_eject_43 : decode prog_1_method_11_code 43 = .ok (.return_, 1) := by decide +kernel
theorem d_BP_line_0 : decode prog_1_method_12_code 0 = .ok (.iconst 0, 1) := by decide +kernel
theorem d_BP_line_1 : decode prog_1_method_12_code 1 = .ok (.iload_n 1, 1) := by decide +kernel
theorem d_BP_line_2 : decode prog_1_method_12_code 2 = .ok (.aload_n 0, 1) := by decide +kernel
theorem d_BP_line_3 : decode prog_1_method_12_code 3 = .ok (.getfield 17, 3) := by decide +kernel
theorem d_BP_line_6 : decode prog_1_method_12_code 6 = .ok (.iconst 1, 1) := by decide +kernel
theorem d_BP_line_7 : decode prog_1_method_12_code 7 = .ok (.isub, 1) := by decide +kernel
theorem d_BP_line_8 : decode prog_1_method_12_code 8 = .ok (.invokestatic 59, 3) := by decide +kernel
theorem d_BP_line_11 : decode prog_1_method_12_code 11 = .ok (.ifCond .eq 20, 3) := by decide +kernel
theorem d_BP_line_14 : decode prog_1_method_12_code 14 = .ok (.iconst 0, 1) := by decide +kernel
theorem d_BP_line_15 : decode prog_1_method_12_code 15 = .ok (.iload_n 2, 1) := by decide +kernel
theorem d_BP_line_16 : decode prog_1_method_12_code 16 = .ok (.aload_n 0, 1) := by decide +kernel
theorem d_BP_line_17 : decode prog_1_method_12_code 17 = .ok (.getfield 13, 3) := by decide +kernel
theorem d_BP_line_20 : decode prog_1_method_12_code 20 = .ok (.iconst 1, 1) := by decide +kernel
theorem d_BP_line_21 : decode prog_1_method_12_code 21 = .ok (.isub, 1) := by decide +kernel
theorem d_BP_line_22 : decode prog_1_method_12_code 22 = .ok (.bipush 64, 2) := by decide +kernel
theorem d_BP_line_24 : decode prog_1_method_12_code 24 = .ok (.idiv, 1) := by decide +kernel
theorem d_BP_line_25 : decode prog_1_method_12_code 25 = .ok (.invokestatic 59, 3) := by decide +kernel
theorem d_BP_line_28 : decode prog_1_method_12_code 28 = .ok (.ifCond .ne 5, 3) := by decide +kernel
theorem d_BP_line_31 : decode prog_1_method_12_code 31 = .ok (.lconst 0, 1) := by decide +kernel
theorem d_BP_line_32 : decode prog_1_method_12_code 32 = .ok (.lreturn, 1) := by decide +kernel
theorem d_BP_line_33 : decode prog_1_method_12_code 33 = .ok (.aload_n 0, 1) := by decide +kernel
theorem d_BP_line_34 : decode prog_1_method_12_code 34 = .ok (.getfield 43, 3) := by decide +kernel
theorem d_BP_line_37 : decode prog_1_method_12_code 37 = .ok (.iload_n 1, 1) := by decide +kernel
theorem d_BP_line_38 : decode prog_1_method_12_code 38 = .ok (.iload_n 2, 1) := by decide +kernel
theorem d_BP_line_39 : decode prog_1_method_12_code 39 = .ok (.invokevirtual 151, 3) := by decide +kernel
theorem d_BP_line_42 : decode prog_1_method_12_code 42 = .ok (.lreturn, 1) := by decide +kernel
theorem d_BP_black_0 : decode prog_1_method_13_code 0 = .ok (.iconst 0, 1) := by decide +kernel
theorem d_BP_black_1 : decode prog_1_method_13_code 1 = .ok (.iload_n 1, 1) := by decide +kernel
theorem d_BP_black_2 : decode prog_1_method_13_code 2 = .ok (.aload_n 0, 1) := by decide +kernel
theorem d_BP_black_3 : decode prog_1_method_13_code 3 = .ok (.getfield 13, 3) := by decide +kernel
theorem d_BP_black_6 : decode prog_1_method_13_code 6 = .ok (.iconst 1, 1) := by decide +kernel
theorem d_BP_black_7 : decode prog_1_method_13_code 7 = .ok (.isub, 1) := by decide +kernel
theorem d_BP_black_8 : decode prog_1_method_13_code 8 = .ok (.invokestatic 59, 3) := by decide +kernel
theorem d_BP_black_11 : decode prog_1_method_13_code 11 = .ok (.ifCond .eq 17, 3) := by decide +kernel
theorem d_BP_black_14 : decode prog_1_method_13_code 14 = .ok (.iconst 0, 1) := by decide +kernel
theorem d_BP_black_15 : decode prog_1_method_13_code 15 = .ok (.iload_n 2, 1) := by decide +kernel
theorem d_BP_black_16 : decode prog_1_method_13_code 16 = .ok (.aload_n 0, 1) := by decide +kernel
theorem d_BP_black_17 : decode prog_1_method_13_code 17 = .ok (.getfield 17, 3) := by decide +kernel
theorem d_BP_black_20 : decode prog_1_method_13_code 20 = .ok (.iconst 1, 1) := by decide +kernel
theorem d_BP_black_21 : decode prog_1_method_13_code 21 = .ok (.isub, 1) := by decide +kernel
theorem d_BP_black_22 : decode prog_1_method_13_code 22 = .ok (.invokestatic 59, 3) := by decide +kernel
theorem d_BP_black_25 : decode prog_1_method_13_code 25 = .ok (.ifCond .ne 13, 3) := by decide +kernel
theorem d_BP_black_28 : decode prog_1_method_13_code 28 = .ok (.new 155, 3) := by decide +kernel
theorem d_BP_black_31 : decode prog_1_method_13_code 31 = .ok (.dup, 1) := by decide +kernel
theorem d_BP_black_32 : decode prog_1_method_13_code 32 = .ok (.ldc 157, 2) := by decide +kernel
theorem d_BP_black_34 : decode prog_1_method_13_code 34 = .ok (.invokespecial 159, 3) := by decide +kernel
theorem d_BP_black_37 : decode prog_1_method_13_code 37 = .ok (.athrow, 1) := by decide +kernel
theorem d_BP_black_38 : decode prog_1_method_13_code 38 = .ok (.aload_n 0, 1) := by decide +kernel
theorem d_BP_black_39 : decode prog_1_method_13_code 39 = .ok (.getfield 43, 3) := by decide +kernel
theorem d_BP_black_42 : decode prog_1_method_13_code 42 = .ok (.iload_n 2, 1) := by decide +kernel
theorem d_BP_black_43 : decode prog_1_method_13_code 43 = .ok (.iload_n 1, 1) := by decide +kernel
theorem d_BP_black_44 : decode prog_1_method_13_code 44 = .ok (.bipush 64, 2) := by decide +kernel
theorem d_BP_black_46 : decode prog_1_method_13_code 46 = .ok (.idiv, 1) := by decide +kernel
theorem d_BP_black_47 : decode prog_1_method_13_code 47 = .ok (.invokevirtual 151, 3) := by decide +kernel
theorem d_BP_black_50 : decode prog_1_method_13_code 50 = .ok (.ldc2_w 160, 3) := by decide +kernel
theorem d_BP_black_53 : decode prog_1_method_13_code 53 = .ok (.iload_n 1, 1) := by decide +kernel
theorem d_BP_black_54 : decode prog_1_method_13_code 54 = .ok (.bipush 64, 2) := by decide +kernel
theorem d_BP_black_56 : decode prog_1_method_13_code 56 = .ok (.irem, 1) := by decide +kernel
theorem d_BP_black_57 : decode prog_1_method_13_code 57 = .ok (.lushr, 1) := by decide +kernel
theorem d_BP_black_58 : decode prog_1_method_13_code 58 = .ok (.land, 1) := by decide +kernel
theorem d_BP_black_59 : decode prog_1_method_13_code 59 = .ok (.lconst 0, 1) := by decide +kernel
theorem d_BP_black_60 : decode prog_1_method_13_code 60 = .ok (.lcmp, 1) := by decide +kernel
theorem d_BP_black_61 : decode prog_1_method_13_code 61 = .ok (.ifCond .eq 7, 3) := by decide +kernel
theorem d_BP_black_64 : decode prog_1_method_13_code 64 = .ok (.iconst 1, 1) := by decide +kernel
theorem d_BP_black_65 : decode prog_1_method_13_code 65 = .ok (.goto 4, 3) := by decide +kernel
theorem d_BP_black_68 : decode prog_1_method_13_code 68 = .ok (.iconst 0, 1) := by decide +kernel
theorem d_BP_black_69 : decode prog_1_method_13_code 69 = .ok (.ireturn, 1) := by decide +kernel
theorem d_BP_count_0 : decode prog_1_method_14_code 0 = .ok (.iload_n 2, 1) := by decide +kernel
theorem d_BP_count_1 : decode prog_1_method_14_code 1 = .ok (.aload_n 0, 1) := by decide +kernel
theorem d_BP_count_2 : decode prog_1_method_14_code 2 = .ok (.getfield 17, 3) := by decide +kernel
theorem d_BP_count_5 : decode prog_1_method_14_code 5 = .ok (.iconst 1, 1) := by decide +kernel
theorem d_BP_count_6 : decode prog_1_method_14_code 6 = .ok (.isub, 1) := by decide +kernel
theorem d_BP_count_7 : decode prog_1_method_14_code 7 = .ok (.invokestatic 162, 3) := by decide +kernel
theorem d_BP_count_10 : decode prog_1_method_14_code 10 = .ok (.istore_n 3, 1) := by decide +kernel
theorem d_BP_count_11 : decode prog_1_method_14_code 11 = .ok (.iconst 0, 1) := by decide +kernel
theorem d_BP_count_12 : decode prog_1_method_14_code 12 = .ok (.istore 4, 2) := by decide +kernel
theorem d_BP_count_14 : decode prog_1_method_14_code 14 = .ok (.iload_n 1, 1) := by decide +kernel
theorem d_BP_count_15 : decode prog_1_method_14_code 15 = .ok (.iconst 0, 1) := by decide +kernel
theorem d_BP_count_16 : decode prog_1_method_14_code 16 = .ok (.invokestatic 168, 3) := by decide +kernel
theorem d_BP_count_19 : decode prog_1_method_14_code 19 = .ok (.istore 5, 2) := by decide +kernel
theorem d_BP_count_21 : decode prog_1_method_14_code 21 = .ok (.iload 5, 2) := by decide +kernel
theorem d_BP_count_23 : decode prog_1_method_14_code 23 = .ok (.iload_n 3, 1) := by decide +kernel
theorem d_BP_count_24 : decode prog_1_method_14_code 24 = .ok (.if_icmp .gt 23, 3) := by decide +kernel
theorem d_BP_count_27 : decode prog_1_method_14_code 27 = .ok (.iload 4, 2) := by decide +kernel
theorem d_BP_count_29 : decode prog_1_method_14_code 29 = .ok (.aload_n 0, 1) := by decide +kernel
theorem d_BP_count_30 : decode prog_1_method_14_code 30 = .ok (.getfield 43, 3) := by decide +kernel
theorem d_BP_count_33 : decode prog_1_method_14_code 33 = .ok (.iload 5, 2) := by decide +kernel
theorem d_BP_count_35 : decode prog_1_method_14_code 35 = .ok (.invokevirtual 171, 3) := by decide +kernel
theorem d_BP_count_38 : decode prog_1_method_14_code 38 = .ok (.iadd, 1) := by decide +kernel
theorem d_BP_count_39 : decode prog_1_method_14_code 39 = .ok (.istore 4, 2) := by decide +kernel
theorem d_BP_count_41 : decode prog_1_method_14_code 41 = .ok (.iinc 5 1, 3) := by decide +kernel
theorem d_BP_count_44 : decode prog_1_method_14_code 44 = .ok (.goto (-23), 3) := by decide +kernel
theorem d_BP_count_47 : decode prog_1_method_14_code 47 = .ok (.iload 4, 2) := by decide +kernel
theorem d_BP_count_49 : decode prog_1_method_14_code 49 = .ok (.ireturn, 1) := by decide +kernel
theorem d_BP_top_0 : decode prog_1_method_15_code 0 = .ok (.iload_n 1, 1) := by decide +kernel
theorem d_BP_top_1 : decode prog_1_method_15_code 1 = .ok (.iconst 0, 1) := by decide +kernel
theorem d_BP_top_2 : decode prog_1_method_15_code 2 = .ok (.invokestatic 168, 3) := by decide +kernel
theorem d_BP_top_5 : decode prog_1_method_15_code 5 = .ok (.istore_n 2, 1) := by decide +kernel
theorem d_BP_top_6 : decode prog_1_method_15_code 6 = .ok (.iload_n 2, 1) := by decide +kernel
theorem d_BP_top_7 : decode prog_1_method_15_code 7 = .ok (.aload_n 0, 1) := by decide +kernel
theorem d_BP_top_8 : decode prog_1_method_15_code 8 = .ok (.getfield 17, 3) := by decide +kernel
theorem d_BP_top_11 : decode prog_1_method_15_code 11 = .ok (.if_icmp .ge 22, 3) := by decide +kernel
theorem d_BP_top_14 : decode prog_1_method_15_code 14 = .ok (.aload_n 0, 1) := by decide +kernel
theorem d_BP_top_15 : decode prog_1_method_15_code 15 = .ok (.getfield 43, 3) := by decide +kernel
theorem d_BP_top_18 : decode prog_1_method_15_code 18 = .ok (.iload_n 2, 1) := by decide +kernel
theorem d_BP_top_19 : decode prog_1_method_15_code 19 = .ok (.invokevirtual 171, 3) := by decide +kernel
theorem d_BP_top_22 : decode prog_1_method_15_code 22 = .ok (.ifCond .le 5, 3) := by decide +kernel
theorem d_BP_top_25 : decode prog_1_method_15_code 25 = .ok (.iload_n 2, 1) := by decide +kernel
theorem d_BP_top_26 : decode prog_1_method_15_code 26 = .ok (.ireturn, 1) := by decide +kernel
theorem d_BP_top_27 : decode prog_1_method_15_code 27 = .ok (.iinc 2 1, 3) := by decide +kernel
theorem d_BP_top_30 : decode prog_1_method_15_code 30 = .ok (.goto (-24), 3) := by decide +kernel
theorem d_BP_top_33 : decode prog_1_method_15_code 33 = .ok (.iconst (-1), 1) := by decide +kernel
theorem d_BP_top_34 : decode prog_1_method_15_code 34 = .ok (.ireturn, 1) := by decide +kernel
theorem d_BP_of_0 : decode prog_1_method_16_code 0 = .ok (.aload_n 0, 1) := by decide +kernel
theorem d_BP_of_1 : decode prog_1_method_16_code 1 = .ok (.iload_n 1, 1) := by decide +kernel
theorem d_BP_of_2 : decode prog_1_method_16_code 2 = .ok (.invokevirtual 82, 3) := by decide +kernel
theorem d_BP_of_5 : decode prog_1_method_16_code 5 = .ok (.astore_n 3, 1) := by decide +kernel
theorem d_BP_of_6 : decode prog_1_method_16_code 6 = .ok (.aload_n 3, 1) := by decide +kernel
theorem d_BP_of_7 : decode prog_1_method_16_code 7 = .ok (.ifnonnull 5, 3) := by decide +kernel
theorem d_BP_of_10 : decode prog_1_method_16_code 10 = .ok (.iconst (-1), 1) := by decide +kernel
theorem d_BP_of_11 : decode prog_1_method_16_code 11 = .ok (.ireturn, 1) := by decide +kernel
theorem d_BP_of_12 : decode prog_1_method_16_code 12 = .ok (.iload_n 2, 1) := by decide +kernel
theorem d_BP_of_13 : decode prog_1_method_16_code 13 = .ok (.tableswitch 63 0 3 #[31, 39, 47, 55], 31) := by decide +kernel
theorem d_BP_of_44 : decode prog_1_method_16_code 44 = .ok (.aload_n 3, 1) := by decide +kernel
theorem d_BP_of_45 : decode prog_1_method_16_code 45 = .ok (.getfield 90, 3) := by decide +kernel
theorem d_BP_of_48 : decode prog_1_method_16_code 48 = .ok (.getfield 127, 3) := by decide +kernel
theorem d_BP_of_51 : decode prog_1_method_16_code 51 = .ok (.ireturn, 1) := by decide +kernel
theorem d_BP_of_52 : decode prog_1_method_16_code 52 = .ok (.aload_n 3, 1) := by decide +kernel
theorem d_BP_of_53 : decode prog_1_method_16_code 53 = .ok (.getfield 90, 3) := by decide +kernel
theorem d_BP_of_56 : decode prog_1_method_16_code 56 = .ok (.getfield 94, 3) := by decide +kernel
theorem d_BP_of_59 : decode prog_1_method_16_code 59 = .ok (.ireturn, 1) := by decide +kernel
theorem d_BP_of_60 : decode prog_1_method_16_code 60 = .ok (.aload_n 3, 1) := by decide +kernel
theorem d_BP_of_61 : decode prog_1_method_16_code 61 = .ok (.getfield 90, 3) := by decide +kernel
theorem d_BP_of_64 : decode prog_1_method_16_code 64 = .ok (.invokevirtual 175, 3) := by decide +kernel
theorem d_BP_of_67 : decode prog_1_method_16_code 67 = .ok (.ireturn, 1) := by decide +kernel
theorem d_BP_of_68 : decode prog_1_method_16_code 68 = .ok (.aload_n 3, 1) := by decide +kernel
theorem d_BP_of_69 : decode prog_1_method_16_code 69 = .ok (.getfield 86, 3) := by decide +kernel
theorem d_BP_of_72 : decode prog_1_method_16_code 72 = .ok (.invokestatic 179, 3) := by decide +kernel
theorem d_BP_of_75 : decode prog_1_method_16_code 75 = .ok (.ireturn, 1) := by decide +kernel
theorem d_BP_of_76 : decode prog_1_method_16_code 76 = .ok (.iconst (-1), 1) := by decide +kernel
theorem d_BP_of_77 : decode prog_1_method_16_code 77 = .ok (.ireturn, 1) := by decide +kernel
theorem d_BP_look_0 : decode prog_1_method_17_code 0 = .ok (.iload_n 1, 1) := by decide +kernel
theorem d_BP_look_1 : decode prog_1_method_17_code 1 = .ok (.tableswitch 138 0 11 #[63, 68, 73, 78, 86, 91, 96, 101, 109, 117, 125, 133], 63) := by decide +kernel
theorem d_BP_look_64 : decode prog_1_method_17_code 64 = .ok (.aload_n 0, 1) := by decide +kernel
theorem d_BP_look_65 : decode prog_1_method_17_code 65 = .ok (.getfield 13, 3) := by decide +kernel
theorem d_BP_look_68 : decode prog_1_method_17_code 68 = .ok (.ireturn, 1) := by decide +kernel
theorem d_BP_look_69 : decode prog_1_method_17_code 69 = .ok (.aload_n 0, 1) := by decide +kernel
theorem d_BP_look_70 : decode prog_1_method_17_code 70 = .ok (.getfield 17, 3) := by decide +kernel
theorem d_BP_look_73 : decode prog_1_method_17_code 73 = .ok (.ireturn, 1) := by decide +kernel
theorem d_BP_look_74 : decode prog_1_method_17_code 74 = .ok (.aload_n 0, 1) := by decide +kernel
theorem d_BP_look_75 : decode prog_1_method_17_code 75 = .ok (.getfield 20, 3) := by decide +kernel
theorem d_BP_look_78 : decode prog_1_method_17_code 78 = .ok (.ireturn, 1) := by decide +kernel
theorem d_BP_look_79 : decode prog_1_method_17_code 79 = .ok (.aload_n 0, 1) := by decide +kernel
theorem d_BP_look_80 : decode prog_1_method_17_code 80 = .ok (.getfield 43, 3) := by decide +kernel
theorem d_BP_look_83 : decode prog_1_method_17_code 83 = .ok (.getfield 183, 3) := by decide +kernel
theorem d_BP_look_86 : decode prog_1_method_17_code 86 = .ok (.ireturn, 1) := by decide +kernel
theorem d_BP_look_87 : decode prog_1_method_17_code 87 = .ok (.aload_n 0, 1) := by decide +kernel
theorem d_BP_look_88 : decode prog_1_method_17_code 88 = .ok (.getfield 134, 3) := by decide +kernel
theorem d_BP_look_91 : decode prog_1_method_17_code 91 = .ok (.ireturn, 1) := by decide +kernel
theorem d_BP_look_92 : decode prog_1_method_17_code 92 = .ok (.aload_n 0, 1) := by decide +kernel
theorem d_BP_look_93 : decode prog_1_method_17_code 93 = .ok (.getfield 70, 3) := by decide +kernel
theorem d_BP_look_96 : decode prog_1_method_17_code 96 = .ok (.ireturn, 1) := by decide +kernel
theorem d_BP_look_97 : decode prog_1_method_17_code 97 = .ok (.aload_n 0, 1) := by decide +kernel
theorem d_BP_look_98 : decode prog_1_method_17_code 98 = .ok (.getfield 73, 3) := by decide +kernel
theorem d_BP_look_101 : decode prog_1_method_17_code 101 = .ok (.ireturn, 1) := by decide +kernel
theorem d_BP_look_102 : decode prog_1_method_17_code 102 = .ok (.aload_n 0, 1) := by decide +kernel
theorem d_BP_look_103 : decode prog_1_method_17_code 103 = .ok (.getfield 52, 3) := by decide +kernel
theorem d_BP_look_106 : decode prog_1_method_17_code 106 = .ok (.getfield 186, 3) := by decide +kernel
theorem d_BP_look_109 : decode prog_1_method_17_code 109 = .ok (.ireturn, 1) := by decide +kernel
theorem d_BP_look_110 : decode prog_1_method_17_code 110 = .ok (.aload_n 0, 1) := by decide +kernel
theorem d_BP_look_111 : decode prog_1_method_17_code 111 = .ok (.getfield 52, 3) := by decide +kernel
theorem d_BP_look_114 : decode prog_1_method_17_code 114 = .ok (.getfield 189, 3) := by decide +kernel
theorem d_BP_look_117 : decode prog_1_method_17_code 117 = .ok (.ireturn, 1) := by decide +kernel
theorem d_BP_look_118 : decode prog_1_method_17_code 118 = .ok (.aload_n 0, 1) := by decide +kernel
theorem d_BP_look_119 : decode prog_1_method_17_code 119 = .ok (.getfield 107, 3) := by decide +kernel
theorem d_BP_look_122 : decode prog_1_method_17_code 122 = .ok (.invokestatic 179, 3) := by decide +kernel
theorem d_BP_look_125 : decode prog_1_method_17_code 125 = .ok (.ireturn, 1) := by decide +kernel
theorem d_BP_look_126 : decode prog_1_method_17_code 126 = .ok (.aload_n 0, 1) := by decide +kernel
theorem d_BP_look_127 : decode prog_1_method_17_code 127 = .ok (.getfield 110, 3) := by decide +kernel
theorem d_BP_look_130 : decode prog_1_method_17_code 130 = .ok (.invokestatic 179, 3) := by decide +kernel
theorem d_BP_look_133 : decode prog_1_method_17_code 133 = .ok (.ireturn, 1) := by decide +kernel
theorem d_BP_look_134 : decode prog_1_method_17_code 134 = .ok (.aload_n 0, 1) := by decide +kernel
theorem d_BP_look_135 : decode prog_1_method_17_code 135 = .ok (.getfield 113, 3) := by decide +kernel
theorem d_BP_look_138 : decode prog_1_method_17_code 138 = .ok (.ireturn, 1) := by decide +kernel
theorem d_BP_look_139 : decode prog_1_method_17_code 139 = .ok (.iconst (-1), 1) := by decide +kernel
theorem d_BP_look_140 : decode prog_1_method_17_code 140 = .ok (.ireturn, 1) := by decide +kernel
theorem d_BP_shapeOf_0 : decode prog_1_method_18_code 0 = .ok (.iconst 0, 1) := by decide +kernel
theorem d_BP_shapeOf_1 : decode prog_1_method_18_code 1 = .ok (.iload_n 1, 1) := by decide +kernel
theorem d_BP_shapeOf_2 : decode prog_1_method_18_code 2 = .ok (.aload_n 0, 1) := by decide +kernel
theorem d_BP_shapeOf_3 : decode prog_1_method_18_code 3 = .ok (.getfield 70, 3) := by decide +kernel
theorem d_BP_shapeOf_6 : decode prog_1_method_18_code 6 = .ok (.iconst 1, 1) := by decide +kernel
theorem d_BP_shapeOf_7 : decode prog_1_method_18_code 7 = .ok (.isub, 1) := by decide +kernel
theorem d_BP_shapeOf_8 : decode prog_1_method_18_code 8 = .ok (.invokestatic 59, 3) := by decide +kernel
theorem d_BP_shapeOf_11 : decode prog_1_method_18_code 11 = .ok (.ifCond .eq 12, 3) := by decide +kernel
theorem d_BP_shapeOf_14 : decode prog_1_method_18_code 14 = .ok (.aload_n 0, 1) := by decide +kernel
theorem d_BP_shapeOf_15 : decode prog_1_method_18_code 15 = .ok (.getfield 34, 3) := by decide +kernel
theorem d_BP_shapeOf_18 : decode prog_1_method_18_code 18 = .ok (.iload_n 1, 1) := by decide +kernel
theorem d_BP_shapeOf_19 : decode prog_1_method_18_code 19 = .ok (.aaload, 1) := by decide +kernel
theorem d_BP_shapeOf_20 : decode prog_1_method_18_code 20 = .ok (.goto 4, 3) := by decide +kernel
theorem d_BP_shapeOf_23 : decode prog_1_method_18_code 23 = .ok (.aconst_null, 1) := by decide +kernel
theorem d_BP_shapeOf_24 : decode prog_1_method_18_code 24 = .ok (.areturn, 1) := by decide +kernel
theorem d_BP_canLayAt_0 : decode prog_1_method_19_code 0 = .ok (.sipush (-10000), 3) := by decide +kernel
theorem d_BP_canLayAt_3 : decode prog_1_method_19_code 3 = .ok (.iload_n 1, 1) := by decide +kernel
theorem d_BP_canLayAt_4 : decode prog_1_method_19_code 4 = .ok (.sipush 10000, 3) := by decide +kernel
theorem d_BP_canLayAt_7 : decode prog_1_method_19_code 7 = .ok (.invokestatic 59, 3) := by decide +kernel
theorem d_BP_canLayAt_10 : decode prog_1_method_19_code 10 = .ok (.ifCond .eq 33, 3) := by decide +kernel
theorem d_BP_canLayAt_13 : decode prog_1_method_19_code 13 = .ok (.sipush (-10000), 3) := by decide +kernel
theorem d_BP_canLayAt_16 : decode prog_1_method_19_code 16 = .ok (.iload_n 2, 1) := by decide +kernel
theorem d_BP_canLayAt_17 : decode prog_1_method_19_code 17 = .ok (.sipush 10000, 3) := by decide +kernel
theorem d_BP_canLayAt_20 : decode prog_1_method_19_code 20 = .ok (.invokestatic 59, 3) := by decide +kernel
theorem d_BP_canLayAt_23 : decode prog_1_method_19_code 23 = .ok (.ifCond .eq 20, 3) := by decide +kernel
theorem d_BP_canLayAt_26 : decode prog_1_method_19_code 26 = .ok (.aload_n 0, 1) := by decide +kernel
theorem d_BP_canLayAt_27 : decode prog_1_method_19_code 27 = .ok (.getfield 43, 3) := by decide +kernel
theorem d_BP_canLayAt_30 : decode prog_1_method_19_code 30 = .ok (.getfield 183, 3) := by decide +kernel
theorem d_BP_canLayAt_33 : decode prog_1_method_19_code 33 = .ok (.sipush 4096, 3) := by decide +kernel
theorem d_BP_canLayAt_36 : decode prog_1_method_19_code 36 = .ok (.if_icmp .ge 7, 3) := by decide +kernel
theorem d_BP_canLayAt_39 : decode prog_1_method_19_code 39 = .ok (.iconst 1, 1) := by decide +kernel
theorem d_BP_canLayAt_40 : decode prog_1_method_19_code 40 = .ok (.goto 4, 3) := by decide +kernel
theorem d_BP_canLayAt_43 : decode prog_1_method_19_code 43 = .ok (.iconst 0, 1) := by decide +kernel
theorem d_BP_canLayAt_44 : decode prog_1_method_19_code 44 = .ok (.ireturn, 1) := by decide +kernel
theorem d_BP_lay_0 : decode prog_1_method_20_code 0 = .ok (.aload_n 0, 1) := by decide +kernel
theorem d_BP_lay_1 : decode prog_1_method_20_code 1 = .ok (.getfield 113, 3) := by decide +kernel
theorem d_BP_lay_4 : decode prog_1_method_20_code 4 = .ok (.iconst 1, 1) := by decide +kernel
theorem d_BP_lay_5 : decode prog_1_method_20_code 5 = .ok (.if_icmp .eq 11, 3) := by decide +kernel
theorem d_BP_lay_8 : decode prog_1_method_20_code 8 = .ok (.aload_n 0, 1) := by decide +kernel
theorem d_BP_lay_9 : decode prog_1_method_20_code 9 = .ok (.getfield 113, 3) := by decide +kernel
theorem d_BP_lay_12 : decode prog_1_method_20_code 12 = .ok (.iconst 3, 1) := by decide +kernel
theorem d_BP_lay_13 : decode prog_1_method_20_code 13 = .ok (.if_icmp .ne 7, 3) := by decide +kernel
theorem d_BP_lay_16 : decode prog_1_method_20_code 16 = .ok (.iconst 1, 1) := by decide +kernel
theorem d_BP_lay_17 : decode prog_1_method_20_code 17 = .ok (.goto 4, 3) := by decide +kernel
theorem d_BP_lay_20 : decode prog_1_method_20_code 20 = .ok (.iconst 0, 1) := by decide +kernel
theorem d_BP_lay_21 : decode prog_1_method_20_code 21 = .ok (.istore 6, 2) := by decide +kernel
theorem d_BP_lay_23 : decode prog_1_method_20_code 23 = .ok (.iload 6, 2) := by decide +kernel
theorem d_BP_lay_25 : decode prog_1_method_20_code 25 = .ok (.ifCond .eq 8, 3) := by decide +kernel
theorem d_BP_lay_28 : decode prog_1_method_20_code 28 = .ok (.iload 5, 2) := by decide +kernel
theorem d_BP_lay_30 : decode prog_1_method_20_code 30 = .ok (.goto 5, 3) := by decide +kernel
theorem d_BP_lay_33 : decode prog_1_method_20_code 33 = .ok (.iload 4, 2) := by decide +kernel
theorem d_BP_lay_35 : decode prog_1_method_20_code 35 = .ok (.iconst 1, 1) := by decide +kernel
theorem d_BP_lay_36 : decode prog_1_method_20_code 36 = .ok (.isub, 1) := by decide +kernel
theorem d_BP_lay_37 : decode prog_1_method_20_code 37 = .ok (.istore 7, 2) := by decide +kernel
theorem d_BP_lay_39 : decode prog_1_method_20_code 39 = .ok (.iload 6, 2) := by decide +kernel
theorem d_BP_lay_41 : decode prog_1_method_20_code 41 = .ok (.ifCond .eq 8, 3) := by decide +kernel
theorem d_BP_lay_44 : decode prog_1_method_20_code 44 = .ok (.iload 4, 2) := by decide +kernel
theorem d_BP_lay_46 : decode prog_1_method_20_code 46 = .ok (.goto 5, 3) := by decide +kernel
theorem d_BP_lay_49 : decode prog_1_method_20_code 49 = .ok (.iload 5, 2) := by decide +kernel
theorem d_BP_lay_51 : decode prog_1_method_20_code 51 = .ok (.iconst 1, 1) := by decide +kernel
theorem d_BP_lay_52 : decode prog_1_method_20_code 52 = .ok (.isub, 1) := by decide +kernel
theorem d_BP_lay_53 : decode prog_1_method_20_code 53 = .ok (.istore 8, 2) := by decide +kernel
theorem d_BP_lay_55 : decode prog_1_method_20_code 55 = .ok (.aload_n 0, 1) := by decide +kernel
theorem d_BP_lay_56 : decode prog_1_method_20_code 56 = .ok (.getfield 113, 3) := by decide +kernel
theorem d_BP_lay_59 : decode prog_1_method_20_code 59 = .ok (.iconst 2, 1) := by decide +kernel
theorem d_BP_lay_60 : decode prog_1_method_20_code 60 = .ok (.if_icmp .eq 11, 3) := by decide +kernel
theorem d_BP_lay_63 : decode prog_1_method_20_code 63 = .ok (.aload_n 0, 1) := by decide +kernel
theorem d_BP_lay_64 : decode prog_1_method_20_code 64 = .ok (.getfield 113, 3) := by decide +kernel
theorem d_BP_lay_67 : decode prog_1_method_20_code 67 = .ok (.iconst 3, 1) := by decide +kernel
theorem d_BP_lay_68 : decode prog_1_method_20_code 68 = .ok (.if_icmp .ne 10, 3) := by decide +kernel
theorem d_BP_lay_71 : decode prog_1_method_20_code 71 = .ok (.iload_n 2, 1) := by decide +kernel
theorem d_BP_lay_72 : decode prog_1_method_20_code 72 = .ok (.iload 7, 2) := by decide +kernel
theorem d_BP_lay_74 : decode prog_1_method_20_code 74 = .ok (.isub, 1) := by decide +kernel
theorem d_BP_lay_75 : decode prog_1_method_20_code 75 = .ok (.goto 4, 3) := by decide +kernel
theorem d_BP_lay_78 : decode prog_1_method_20_code 78 = .ok (.iload_n 2, 1) := by decide +kernel
theorem d_BP_lay_79 : decode prog_1_method_20_code 79 = .ok (.istore 9, 2) := by decide +kernel
theorem d_BP_lay_81 : decode prog_1_method_20_code 81 = .ok (.aload_n 0, 1) := by decide +kernel
theorem d_BP_lay_82 : decode prog_1_method_20_code 82 = .ok (.getfield 113, 3) := by decide +kernel
theorem d_BP_lay_85 : decode prog_1_method_20_code 85 = .ok (.iconst 1, 1) := by decide +kernel
theorem d_BP_lay_86 : decode prog_1_method_20_code 86 = .ok (.if_icmp .eq 11, 3) := by decide +kernel
theorem d_BP_lay_89 : decode prog_1_method_20_code 89 = .ok (.aload_n 0, 1) := by decide +kernel
theorem d_BP_lay_90 : decode prog_1_method_20_code 90 = .ok (.getfield 113, 3) := by decide +kernel
theorem d_BP_lay_93 : decode prog_1_method_20_code 93 = .ok (.iconst 2, 1) := by decide +kernel
theorem d_BP_lay_94 : decode prog_1_method_20_code 94 = .ok (.if_icmp .ne 10, 3) := by decide +kernel
theorem d_BP_lay_97 : decode prog_1_method_20_code 97 = .ok (.iload_n 3, 1) := by decide +kernel
theorem d_BP_lay_98 : decode prog_1_method_20_code 98 = .ok (.iload 8, 2) := by decide +kernel
theorem d_BP_lay_100 : decode prog_1_method_20_code 100 = .ok (.isub, 1) := by decide +kernel
theorem d_BP_lay_101 : decode prog_1_method_20_code 101 = .ok (.goto 4, 3) := by decide +kernel
theorem d_BP_lay_104 : decode prog_1_method_20_code 104 = .ok (.iload_n 3, 1) := by decide +kernel
theorem d_BP_lay_105 : decode prog_1_method_20_code 105 = .ok (.istore 10, 2) := by decide +kernel
theorem d_BP_lay_107 : decode prog_1_method_20_code 107 = .ok (.new 23, 3) := by decide +kernel
theorem d_BP_lay_110 : decode prog_1_method_20_code 110 = .ok (.dup, 1) := by decide +kernel
theorem d_BP_lay_111 : decode prog_1_method_20_code 111 = .ok (.iload 9, 2) := by decide +kernel
theorem d_BP_lay_113 : decode prog_1_method_20_code 113 = .ok (.iload 10, 2) := by decide +kernel
theorem d_BP_lay_115 : decode prog_1_method_20_code 115 = .ok (.iload 9, 2) := by decide +kernel
theorem d_BP_lay_117 : decode prog_1_method_20_code 117 = .ok (.iload 7, 2) := by decide +kernel
theorem d_BP_lay_119 : decode prog_1_method_20_code 119 = .ok (.iadd, 1) := by decide +kernel
theorem d_BP_lay_120 : decode prog_1_method_20_code 120 = .ok (.iload 10, 2) := by decide +kernel
theorem d_BP_lay_122 : decode prog_1_method_20_code 122 = .ok (.iload 8, 2) := by decide +kernel
theorem d_BP_lay_124 : decode prog_1_method_20_code 124 = .ok (.iadd, 1) := by decide +kernel
theorem d_BP_lay_125 : decode prog_1_method_20_code 125 = .ok (.invokespecial 25, 3) := by decide +kernel
theorem d_BP_lay_128 : decode prog_1_method_20_code 128 = .ok (.astore 11, 2) := by decide +kernel
theorem d_BP_lay_130 : decode prog_1_method_20_code 130 = .ok (.aload_n 0, 1) := by decide +kernel
theorem d_BP_lay_131 : decode prog_1_method_20_code 131 = .ok (.getfield 43, 3) := by decide +kernel
theorem d_BP_lay_134 : decode prog_1_method_20_code 134 = .ok (.new 192, 3) := by decide +kernel
theorem d_BP_lay_137 : decode prog_1_method_20_code 137 = .ok (.dup, 1) := by decide +kernel
theorem d_BP_lay_138 : decode prog_1_method_20_code 138 = .ok (.aload_n 1, 1) := by decide +kernel
theorem d_BP_lay_139 : decode prog_1_method_20_code 139 = .ok (.iload 9, 2) := by decide +kernel
theorem d_BP_lay_141 : decode prog_1_method_20_code 141 = .ok (.iload 10, 2) := by decide +kernel
theorem d_BP_lay_143 : decode prog_1_method_20_code 143 = .ok (.aload 11, 2) := by decide +kernel
theorem d_BP_lay_145 : decode prog_1_method_20_code 145 = .ok (.aload_n 0, 1) := by decide +kernel
theorem d_BP_lay_146 : decode prog_1_method_20_code 146 = .ok (.getfield 56, 3) := by decide +kernel
theorem d_BP_lay_149 : decode prog_1_method_20_code 149 = .ok (.invokevirtual 116, 3) := by decide +kernel
theorem d_BP_lay_152 : decode prog_1_method_20_code 152 = .ok (.aload_n 0, 1) := by decide +kernel
theorem d_BP_lay_153 : decode prog_1_method_20_code 153 = .ok (.getfield 52, 3) := by decide +kernel
theorem d_BP_lay_156 : decode prog_1_method_20_code 156 = .ok (.aload_n 0, 1) := by decide +kernel
theorem d_BP_lay_157 : decode prog_1_method_20_code 157 = .ok (.getfield 107, 3) := by decide +kernel
theorem d_BP_lay_160 : decode prog_1_method_20_code 160 = .ok (.aload_n 0, 1) := by decide +kernel
theorem d_BP_lay_161 : decode prog_1_method_20_code 161 = .ok (.getfield 110, 3) := by decide +kernel
theorem d_BP_lay_164 : decode prog_1_method_20_code 164 = .ok (.invokespecial 194, 3) := by decide +kernel
theorem d_BP_lay_167 : decode prog_1_method_20_code 167 = .ok (.invokevirtual 197, 3) := by decide +kernel
theorem d_BP_lay_170 : decode prog_1_method_20_code 170 = .ok (.return_, 1) := by decide +kernel
theorem d_BP_isWithin_0 : decode prog_1_method_21_code 0 = .ok (.iload_n 0, 1) := by decide +kernel
theorem d_BP_isWithin_1 : decode prog_1_method_21_code 1 = .ok (.iload_n 1, 1) := by decide +kernel
theorem d_BP_isWithin_2 : decode prog_1_method_21_code 2 = .ok (.if_icmp .gt 12, 3) := by decide +kernel
theorem d_BP_isWithin_5 : decode prog_1_method_21_code 5 = .ok (.iload_n 1, 1) := by decide +kernel
theorem d_BP_isWithin_6 : decode prog_1_method_21_code 6 = .ok (.iload_n 2, 1) := by decide +kernel
theorem d_BP_isWithin_7 : decode prog_1_method_21_code 7 = .ok (.if_icmp .gt 7, 3) := by decide +kernel
theorem d_BP_isWithin_10 : decode prog_1_method_21_code 10 = .ok (.iconst 1, 1) := by decide +kernel
theorem d_BP_isWithin_11 : decode prog_1_method_21_code 11 = .ok (.goto 4, 3) := by decide +kernel
theorem d_BP_isWithin_14 : decode prog_1_method_21_code 14 = .ok (.iconst 0, 1) := by decide +kernel
theorem d_BP_isWithin_15 : decode prog_1_method_21_code 15 = .ok (.ireturn, 1) := by decide +kernel
theorem d_BP_within_0 : decode prog_1_method_22_code 0 = .ok (.iload_n 0, 1) := by decide +kernel
theorem d_BP_within_1 : decode prog_1_method_22_code 1 = .ok (.iload_n 1, 1) := by decide +kernel
theorem d_BP_within_2 : decode prog_1_method_22_code 2 = .ok (.iload_n 2, 1) := by decide +kernel
theorem d_BP_within_3 : decode prog_1_method_22_code 3 = .ok (.invokestatic 162, 3) := by decide +kernel
theorem d_BP_within_6 : decode prog_1_method_22_code 6 = .ok (.invokestatic 168, 3) := by decide +kernel
theorem d_BP_within_9 : decode prog_1_method_22_code 9 = .ok (.ireturn, 1) := by decide +kernel
theorem d_BP_oneIf_0 : decode prog_1_method_23_code 0 = .ok (.iload_n 0, 1) := by decide +kernel
theorem d_BP_oneIf_1 : decode prog_1_method_23_code 1 = .ok (.ifCond .eq 7, 3) := by decide +kernel
theorem d_BP_oneIf_4 : decode prog_1_method_23_code 4 = .ok (.iconst 1, 1) := by decide +kernel
theorem d_BP_oneIf_5 : decode prog_1_method_23_code 5 = .ok (.goto 4, 3) := by decide +kernel
theorem d_BP_oneIf_8 : decode prog_1_method_23_code 8 = .ok (.iconst 0, 1) := by decide +kernel
theorem d_BP_oneIf_9 : decode prog_1_method_23_code 9 = .ok (.ireturn, 1) := by decide +kernel
theorem d_BP_firstDots_0 : decode prog_1_method_24_code 0 = .ok (.iload_n 0, 1) := by decide +kernel
theorem d_BP_firstDots_1 : decode prog_1_method_24_code 1 = .ok (.ifCond .gt 5, 3) := by decide +kernel
theorem d_BP_firstDots_4 : decode prog_1_method_24_code 4 = .ok (.lconst 0, 1) := by decide +kernel
theorem d_BP_firstDots_5 : decode prog_1_method_24_code 5 = .ok (.lreturn, 1) := by decide +kernel
theorem d_BP_firstDots_6 : decode prog_1_method_24_code 6 = .ok (.iload_n 0, 1) := by decide +kernel
theorem d_BP_firstDots_7 : decode prog_1_method_24_code 7 = .ok (.bipush 64, 2) := by decide +kernel
theorem d_BP_firstDots_9 : decode prog_1_method_24_code 9 = .ok (.if_icmp .lt 9, 3) := by decide +kernel
theorem d_BP_firstDots_12 : decode prog_1_method_24_code 12 = .ok (.ldc2_w 201, 3) := by decide +kernel
theorem d_BP_firstDots_15 : decode prog_1_method_24_code 15 = .ok (.goto 11, 3) := by decide +kernel
theorem d_BP_firstDots_18 : decode prog_1_method_24_code 18 = .ok (.ldc2_w 201, 3) := by decide +kernel
theorem d_BP_firstDots_21 : decode prog_1_method_24_code 21 = .ok (.bipush 64, 2) := by decide +kernel
theorem d_BP_firstDots_23 : decode prog_1_method_24_code 23 = .ok (.iload_n 0, 1) := by decide +kernel
theorem d_BP_firstDots_24 : decode prog_1_method_24_code 24 = .ok (.isub, 1) := by decide +kernel
theorem d_BP_firstDots_25 : decode prog_1_method_24_code 25 = .ok (.lshl, 1) := by decide +kernel
theorem d_BP_firstDots_26 : decode prog_1_method_24_code 26 = .ok (.lreturn, 1) := by decide +kernel
theorem d_Pl_init_0 : decode prog_6_method_1_code 0 = .ok (.aload_n 0, 1) := by decide +kernel
theorem d_Pl_init_1 : decode prog_6_method_1_code 1 = .ok (.invokespecial 3, 3) := by decide +kernel
theorem d_Pl_init_4 : decode prog_6_method_1_code 4 = .ok (.aload_n 0, 1) := by decide +kernel
theorem d_Pl_init_5 : decode prog_6_method_1_code 5 = .ok (.iload_n 1, 1) := by decide +kernel
theorem d_Pl_init_6 : decode prog_6_method_1_code 6 = .ok (.putfield 9, 3) := by decide +kernel
theorem d_Pl_init_9 : decode prog_6_method_1_code 9 = .ok (.aload_n 0, 1) := by decide +kernel
theorem d_Pl_init_10 : decode prog_6_method_1_code 10 = .ok (.iload_n 1, 1) := by decide +kernel
theorem d_Pl_init_11 : decode prog_6_method_1_code 11 = .ok (.newarray .int, 2) := by decide +kernel
theorem d_Pl_init_13 : decode prog_6_method_1_code 13 = .ok (.putfield 15, 3) := by decide +kernel
theorem d_Pl_init_16 : decode prog_6_method_1_code 16 = .ok (.aload_n 0, 1) := by decide +kernel
theorem d_Pl_init_17 : decode prog_6_method_1_code 17 = .ok (.iload_n 1, 1) := by decide +kernel
theorem d_Pl_init_18 : decode prog_6_method_1_code 18 = .ok (.newarray .boolean, 2) := by decide +kernel
theorem d_Pl_init_20 : decode prog_6_method_1_code 20 = .ok (.putfield 19, 3) := by decide +kernel
theorem d_Pl_init_23 : decode prog_6_method_1_code 23 = .ok (.return_, 1) := by decide +kernel
theorem d_Pl_clear_0 : decode prog_6_method_2_code 0 = .ok (.aload_n 0, 1) := by decide +kernel
theorem d_Pl_clear_1 : decode prog_6_method_2_code 1 = .ok (.iconst 0, 1) := by decide +kernel
theorem d_Pl_clear_2 : decode prog_6_method_2_code 2 = .ok (.putfield 23, 3) := by decide +kernel
theorem d_Pl_clear_5 : decode prog_6_method_2_code 5 = .ok (.aload_n 0, 1) := by decide +kernel
theorem d_Pl_clear_6 : decode prog_6_method_2_code 6 = .ok (.aconst_null, 1) := by decide +kernel
theorem d_Pl_clear_7 : decode prog_6_method_2_code 7 = .ok (.putfield 26, 3) := by decide +kernel
theorem d_Pl_clear_10 : decode prog_6_method_2_code 10 = .ok (.aload_n 0, 1) := by decide +kernel
theorem d_Pl_clear_11 : decode prog_6_method_2_code 11 = .ok (.getfield 15, 3) := by decide +kernel
theorem d_Pl_clear_14 : decode prog_6_method_2_code 14 = .ok (.iconst 0, 1) := by decide +kernel
theorem d_Pl_clear_15 : decode prog_6_method_2_code 15 = .ok (.invokestatic 30, 3) := by decide +kernel
theorem d_Pl_clear_18 : decode prog_6_method_2_code 18 = .ok (.iconst 0, 1) := by decide +kernel
theorem d_Pl_clear_19 : decode prog_6_method_2_code 19 = .ok (.istore_n 1, 1) := by decide +kernel
theorem d_Pl_clear_20 : decode prog_6_method_2_code 20 = .ok (.iload_n 1, 1) := by decide +kernel
theorem d_Pl_clear_21 : decode prog_6_method_2_code 21 = .ok (.aload_n 0, 1) := by decide +kernel
theorem d_Pl_clear_22 : decode prog_6_method_2_code 22 = .ok (.getfield 9, 3) := by decide +kernel
theorem d_Pl_clear_25 : decode prog_6_method_2_code 25 = .ok (.if_icmp .ge 16, 3) := by decide +kernel
theorem d_Pl_clear_28 : decode prog_6_method_2_code 28 = .ok (.aload_n 0, 1) := by decide +kernel
theorem d_Pl_clear_29 : decode prog_6_method_2_code 29 = .ok (.getfield 19, 3) := by decide +kernel
theorem d_Pl_clear_32 : decode prog_6_method_2_code 32 = .ok (.iload_n 1, 1) := by decide +kernel
theorem d_Pl_clear_33 : decode prog_6_method_2_code 33 = .ok (.iconst 0, 1) := by decide +kernel
theorem d_Pl_clear_34 : decode prog_6_method_2_code 34 = .ok (.bastore, 1) := by decide +kernel
theorem d_Pl_clear_35 : decode prog_6_method_2_code 35 = .ok (.iinc 1 1, 3) := by decide +kernel
theorem d_Pl_clear_38 : decode prog_6_method_2_code 38 = .ok (.goto (-18), 3) := by decide +kernel
theorem d_Pl_clear_41 : decode prog_6_method_2_code 41 = .ok (.return_, 1) := by decide +kernel
theorem d_Pl_add_0 : decode prog_6_method_3_code 0 = .ok (.aload_n 0, 1) := by decide +kernel
theorem d_Pl_add_1 : decode prog_6_method_3_code 1 = .ok (.dup, 1) := by decide +kernel
theorem d_Pl_add_2 : decode prog_6_method_3_code 2 = .ok (.getfield 23, 3) := by decide +kernel
theorem d_Pl_add_5 : decode prog_6_method_3_code 5 = .ok (.iconst 1, 1) := by decide +kernel
theorem d_Pl_add_6 : decode prog_6_method_3_code 6 = .ok (.iadd, 1) := by decide +kernel
theorem d_Pl_add_7 : decode prog_6_method_3_code 7 = .ok (.putfield 23, 3) := by decide +kernel
theorem d_Pl_add_10 : decode prog_6_method_3_code 10 = .ok (.aload_n 1, 1) := by decide +kernel
theorem d_Pl_add_11 : decode prog_6_method_3_code 11 = .ok (.getfield 36, 3) := by decide +kernel
theorem d_Pl_add_14 : decode prog_6_method_3_code 14 = .ok (.invokevirtual 42, 3) := by decide +kernel
theorem d_Pl_add_17 : decode prog_6_method_3_code 17 = .ok (.ifCond .eq 4, 3) := by decide +kernel
theorem d_Pl_add_20 : decode prog_6_method_3_code 20 = .ok (.return_, 1) := by decide +kernel
theorem d_Pl_add_21 : decode prog_6_method_3_code 21 = .ok (.aload_n 1, 1) := by decide +kernel
theorem d_Pl_add_22 : decode prog_6_method_3_code 22 = .ok (.aload_n 0, 1) := by decide +kernel
theorem d_Pl_add_23 : decode prog_6_method_3_code 23 = .ok (.getfield 26, 3) := by decide +kernel
theorem d_Pl_add_26 : decode prog_6_method_3_code 26 = .ok (.putfield 48, 3) := by decide +kernel
theorem d_Pl_add_29 : decode prog_6_method_3_code 29 = .ok (.aload_n 0, 1) := by decide +kernel
theorem d_Pl_add_30 : decode prog_6_method_3_code 30 = .ok (.aload_n 1, 1) := by decide +kernel
theorem d_Pl_add_31 : decode prog_6_method_3_code 31 = .ok (.putfield 26, 3) := by decide +kernel
theorem d_Pl_add_34 : decode prog_6_method_3_code 34 = .ok (.aload_n 0, 1) := by decide +kernel
theorem d_Pl_add_35 : decode prog_6_method_3_code 35 = .ok (.aload_n 1, 1) := by decide +kernel
theorem d_Pl_add_36 : decode prog_6_method_3_code 36 = .ok (.invokevirtual 51, 3) := by decide +kernel
theorem d_Pl_add_39 : decode prog_6_method_3_code 39 = .ok (.return_, 1) := by decide +kernel
theorem d_Pl_stir_0 : decode prog_6_method_4_code 0 = .ok (.iconst 0, 1) := by decide +kernel
theorem d_Pl_stir_1 : decode prog_6_method_4_code 1 = .ok (.aload_n 1, 1) := by decide +kernel
theorem d_Pl_stir_2 : decode prog_6_method_4_code 2 = .ok (.getfield 36, 3) := by decide +kernel
theorem d_Pl_stir_5 : decode prog_6_method_4_code 5 = .ok (.getfield 55, 3) := by decide +kernel
theorem d_Pl_stir_8 : decode prog_6_method_4_code 8 = .ok (.invokestatic 58, 3) := by decide +kernel
theorem d_Pl_stir_11 : decode prog_6_method_4_code 11 = .ok (.istore_n 2, 1) := by decide +kernel
theorem d_Pl_stir_12 : decode prog_6_method_4_code 12 = .ok (.aload_n 0, 1) := by decide +kernel
theorem d_Pl_stir_13 : decode prog_6_method_4_code 13 = .ok (.getfield 9, 3) := by decide +kernel
theorem d_Pl_stir_16 : decode prog_6_method_4_code 16 = .ok (.aload_n 1, 1) := by decide +kernel
theorem d_Pl_stir_17 : decode prog_6_method_4_code 17 = .ok (.getfield 36, 3) := by decide +kernel
theorem d_Pl_stir_20 : decode prog_6_method_4_code 20 = .ok (.getfield 64, 3) := by decide +kernel
theorem d_Pl_stir_23 : decode prog_6_method_4_code 23 = .ok (.iconst 1, 1) := by decide +kernel
theorem d_Pl_stir_24 : decode prog_6_method_4_code 24 = .ok (.iadd, 1) := by decide +kernel
theorem d_Pl_stir_25 : decode prog_6_method_4_code 25 = .ok (.invokestatic 67, 3) := by decide +kernel
theorem d_Pl_stir_28 : decode prog_6_method_4_code 28 = .ok (.istore_n 3, 1) := by decide +kernel
theorem d_Pl_stir_29 : decode prog_6_method_4_code 29 = .ok (.iload_n 2, 1) := by decide +kernel
theorem d_Pl_stir_30 : decode prog_6_method_4_code 30 = .ok (.istore 4, 2) := by decide +kernel
theorem d_Pl_stir_32 : decode prog_6_method_4_code 32 = .ok (.iload 4, 2) := by decide +kernel
theorem d_Pl_stir_34 : decode prog_6_method_4_code 34 = .ok (.iload_n 3, 1) := by decide +kernel
theorem d_Pl_stir_35 : decode prog_6_method_4_code 35 = .ok (.if_icmp .ge 38, 3) := by decide +kernel
theorem d_Pl_stir_38 : decode prog_6_method_4_code 38 = .ok (.aload_n 0, 1) := by decide +kernel
theorem d_Pl_stir_39 : decode prog_6_method_4_code 39 = .ok (.getfield 15, 3) := by decide +kernel
theorem d_Pl_stir_42 : decode prog_6_method_4_code 42 = .ok (.iload 4, 2) := by decide +kernel
theorem d_Pl_stir_44 : decode prog_6_method_4_code 44 = .ok (.iconst (-1), 1) := by decide +kernel
theorem d_Pl_stir_45 : decode prog_6_method_4_code 45 = .ok (.iastore, 1) := by decide +kernel
theorem d_Pl_stir_46 : decode prog_6_method_4_code 46 = .ok (.aload_n 1, 1) := by decide +kernel
theorem d_Pl_stir_47 : decode prog_6_method_4_code 47 = .ok (.getfield 70, 3) := by decide +kernel
theorem d_Pl_stir_50 : decode prog_6_method_4_code 50 = .ok (.ifnonnull 9, 3) := by decide +kernel
theorem d_Pl_stir_53 : decode prog_6_method_4_code 53 = .ok (.iload 4, 2) := by decide +kernel
theorem d_Pl_stir_55 : decode prog_6_method_4_code 55 = .ok (.iload_n 2, 1) := by decide +kernel
theorem d_Pl_stir_56 : decode prog_6_method_4_code 56 = .ok (.if_icmp .ne 11, 3) := by decide +kernel
theorem d_Pl_stir_59 : decode prog_6_method_4_code 59 = .ok (.aload_n 0, 1) := by decide +kernel
theorem d_Pl_stir_60 : decode prog_6_method_4_code 60 = .ok (.getfield 19, 3) := by decide +kernel
theorem d_Pl_stir_63 : decode prog_6_method_4_code 63 = .ok (.iload 4, 2) := by decide +kernel
theorem d_Pl_stir_65 : decode prog_6_method_4_code 65 = .ok (.iconst 1, 1) := by decide +kernel
theorem d_Pl_stir_66 : decode prog_6_method_4_code 66 = .ok (.bastore, 1) := by decide +kernel
theorem d_Pl_stir_67 : decode prog_6_method_4_code 67 = .ok (.iinc 4 1, 3) := by decide +kernel
theorem d_Pl_stir_70 : decode prog_6_method_4_code 70 = .ok (.goto (-38), 3) := by decide +kernel
theorem d_Pl_stir_73 : decode prog_6_method_4_code 73 = .ok (.iconst 0, 1) := by decide +kernel
theorem d_Pl_stir_74 : decode prog_6_method_4_code 74 = .ok (.iload_n 3, 1) := by decide +kernel
theorem d_Pl_stir_75 : decode prog_6_method_4_code 75 = .ok (.aload_n 0, 1) := by decide +kernel
theorem d_Pl_stir_76 : decode prog_6_method_4_code 76 = .ok (.getfield 9, 3) := by decide +kernel
theorem d_Pl_stir_79 : decode prog_6_method_4_code 79 = .ok (.iconst 1, 1) := by decide +kernel
theorem d_Pl_stir_80 : decode prog_6_method_4_code 80 = .ok (.isub, 1) := by decide +kernel
theorem d_Pl_stir_81 : decode prog_6_method_4_code 81 = .ok (.invokestatic 74, 3) := by decide +kernel
theorem d_Pl_stir_84 : decode prog_6_method_4_code 84 = .ok (.ifCond .eq 10, 3) := by decide +kernel
theorem d_Pl_stir_87 : decode prog_6_method_4_code 87 = .ok (.aload_n 0, 1) := by decide +kernel
theorem d_Pl_stir_88 : decode prog_6_method_4_code 88 = .ok (.getfield 19, 3) := by decide +kernel
theorem d_Pl_stir_91 : decode prog_6_method_4_code 91 = .ok (.iload_n 3, 1) := by decide +kernel
theorem d_Pl_stir_92 : decode prog_6_method_4_code 92 = .ok (.iconst 1, 1) := by decide +kernel
theorem d_Pl_stir_93 : decode prog_6_method_4_code 93 = .ok (.bastore, 1) := by decide +kernel
theorem d_Pl_stir_94 : decode prog_6_method_4_code 94 = .ok (.return_, 1) := by decide +kernel
theorem d_Pl_wordOf_0 : decode prog_6_method_5_code 0 = .ok (.aload_n 0, 1) := by decide +kernel
theorem d_Pl_wordOf_1 : decode prog_6_method_5_code 1 = .ok (.iload_n 1, 1) := by decide +kernel
theorem d_Pl_wordOf_2 : decode prog_6_method_5_code 2 = .ok (.invokevirtual 78, 3) := by decide +kernel
theorem d_Pl_wordOf_5 : decode prog_6_method_5_code 5 = .ok (.iload_n 1, 1) := by decide +kernel
theorem d_Pl_wordOf_6 : decode prog_6_method_5_code 6 = .ok (.iload_n 2, 1) := by decide +kernel
theorem d_Pl_wordOf_7 : decode prog_6_method_5_code 7 = .ok (.invokestatic 82, 3) := by decide +kernel
theorem d_Pl_wordOf_10 : decode prog_6_method_5_code 10 = .ok (.lreturn, 1) := by decide +kernel
theorem d_Pl_blacksOf_0 : decode prog_6_method_6_code 0 = .ok (.iconst 0, 1) := by decide +kernel
theorem d_Pl_blacksOf_1 : decode prog_6_method_6_code 1 = .ok (.iload_n 1, 1) := by decide +kernel
theorem d_Pl_blacksOf_2 : decode prog_6_method_6_code 2 = .ok (.aload_n 0, 1) := by decide +kernel
theorem d_Pl_blacksOf_3 : decode prog_6_method_6_code 3 = .ok (.getfield 9, 3) := by decide +kernel
theorem d_Pl_blacksOf_6 : decode prog_6_method_6_code 6 = .ok (.iconst 1, 1) := by decide +kernel
theorem d_Pl_blacksOf_7 : decode prog_6_method_6_code 7 = .ok (.isub, 1) := by decide +kernel
theorem d_Pl_blacksOf_8 : decode prog_6_method_6_code 8 = .ok (.invokestatic 74, 3) := by decide +kernel
theorem d_Pl_blacksOf_11 : decode prog_6_method_6_code 11 = .ok (.ifCond .ne 5, 3) := by decide +kernel
theorem d_Pl_blacksOf_14 : decode prog_6_method_6_code 14 = .ok (.iconst 0, 1) := by decide +kernel
theorem d_Pl_blacksOf_15 : decode prog_6_method_6_code 15 = .ok (.ireturn, 1) := by decide +kernel
theorem d_Pl_blacksOf_16 : decode prog_6_method_6_code 16 = .ok (.iload_n 1, 1) := by decide +kernel
theorem d_Pl_blacksOf_17 : decode prog_6_method_6_code 17 = .ok (.istore_n 2, 1) := by decide +kernel
theorem d_Pl_blacksOf_18 : decode prog_6_method_6_code 18 = .ok (.iload_n 2, 1) := by decide +kernel
theorem d_Pl_blacksOf_19 : decode prog_6_method_6_code 19 = .ok (.bipush 16, 2) := by decide +kernel
theorem d_Pl_blacksOf_21 : decode prog_6_method_6_code 21 = .ok (.if_icmp .lt 27, 3) := by decide +kernel
theorem d_Pl_blacksOf_24 : decode prog_6_method_6_code 24 = .ok (.aload_n 0, 1) := by decide +kernel
theorem d_Pl_blacksOf_25 : decode prog_6_method_6_code 25 = .ok (.getfield 15, 3) := by decide +kernel
theorem d_Pl_blacksOf_28 : decode prog_6_method_6_code 28 = .ok (.iload_n 2, 1) := by decide +kernel
theorem d_Pl_blacksOf_29 : decode prog_6_method_6_code 29 = .ok (.iaload, 1) := by decide +kernel
theorem d_Pl_blacksOf_30 : decode prog_6_method_6_code 30 = .ok (.iconst (-1), 1) := by decide +kernel
theorem d_Pl_blacksOf_31 : decode prog_6_method_6_code 31 = .ok (.if_icmp .ne 17, 3) := by decide +kernel
theorem d_Pl_blacksOf_34 : decode prog_6_method_6_code 34 = .ok (.aload_n 0, 1) := by decide +kernel
theorem d_Pl_blacksOf_35 : decode prog_6_method_6_code 35 = .ok (.iload_n 2, 1) := by decide +kernel
theorem d_Pl_blacksOf_36 : decode prog_6_method_6_code 36 = .ok (.invokevirtual 86, 3) := by decide +kernel
theorem d_Pl_blacksOf_39 : decode prog_6_method_6_code 39 = .ok (.ifCond .eq 9, 3) := by decide +kernel
theorem d_Pl_blacksOf_42 : decode prog_6_method_6_code 42 = .ok (.iinc 2 (-16), 3) := by decide +kernel
theorem d_Pl_blacksOf_45 : decode prog_6_method_6_code 45 = .ok (.goto (-27), 3) := by decide +kernel
theorem d_Pl_blacksOf_48 : decode prog_6_method_6_code 48 = .ok (.aload_n 0, 1) := by decide +kernel
theorem d_Pl_blacksOf_49 : decode prog_6_method_6_code 49 = .ok (.getfield 15, 3) := by decide +kernel
theorem d_Pl_blacksOf_52 : decode prog_6_method_6_code 52 = .ok (.iload_n 2, 1) := by decide +kernel
theorem d_Pl_blacksOf_53 : decode prog_6_method_6_code 53 = .ok (.iaload, 1) := by decide +kernel
theorem d_Pl_blacksOf_54 : decode prog_6_method_6_code 54 = .ok (.iconst (-1), 1) := by decide +kernel
theorem d_Pl_blacksOf_55 : decode prog_6_method_6_code 55 = .ok (.if_icmp .ne 14, 3) := by decide +kernel
theorem d_Pl_blacksOf_58 : decode prog_6_method_6_code 58 = .ok (.aload_n 0, 1) := by decide +kernel
theorem d_Pl_blacksOf_59 : decode prog_6_method_6_code 59 = .ok (.getfield 15, 3) := by decide +kernel
theorem d_Pl_blacksOf_62 : decode prog_6_method_6_code 62 = .ok (.iload_n 2, 1) := by decide +kernel
theorem d_Pl_blacksOf_63 : decode prog_6_method_6_code 63 = .ok (.aload_n 0, 1) := by decide +kernel
theorem d_Pl_blacksOf_64 : decode prog_6_method_6_code 64 = .ok (.iload_n 2, 1) := by decide +kernel
theorem d_Pl_blacksOf_65 : decode prog_6_method_6_code 65 = .ok (.invokevirtual 90, 3) := by decide +kernel
theorem d_Pl_blacksOf_68 : decode prog_6_method_6_code 68 = .ok (.iastore, 1) := by decide +kernel
theorem d_Pl_blacksOf_69 : decode prog_6_method_6_code 69 = .ok (.aload_n 0, 1) := by decide +kernel
theorem d_Pl_blacksOf_70 : decode prog_6_method_6_code 70 = .ok (.getfield 15, 3) := by decide +kernel
theorem d_Pl_blacksOf_73 : decode prog_6_method_6_code 73 = .ok (.iload_n 1, 1) := by decide +kernel
theorem d_Pl_blacksOf_74 : decode prog_6_method_6_code 74 = .ok (.aload_n 0, 1) := by decide +kernel
theorem d_Pl_blacksOf_75 : decode prog_6_method_6_code 75 = .ok (.getfield 15, 3) := by decide +kernel
theorem d_Pl_blacksOf_78 : decode prog_6_method_6_code 78 = .ok (.iload_n 2, 1) := by decide +kernel
theorem d_Pl_blacksOf_79 : decode prog_6_method_6_code 79 = .ok (.iaload, 1) := by decide +kernel
theorem d_Pl_blacksOf_80 : decode prog_6_method_6_code 80 = .ok (.iastore, 1) := by decide +kernel
theorem d_Pl_blacksOf_81 : decode prog_6_method_6_code 81 = .ok (.aload_n 0, 1) := by decide +kernel
theorem d_Pl_blacksOf_82 : decode prog_6_method_6_code 82 = .ok (.getfield 15, 3) := by decide +kernel
theorem d_Pl_blacksOf_85 : decode prog_6_method_6_code 85 = .ok (.iload_n 1, 1) := by decide +kernel
theorem d_Pl_blacksOf_86 : decode prog_6_method_6_code 86 = .ok (.iaload, 1) := by decide +kernel
theorem d_Pl_blacksOf_87 : decode prog_6_method_6_code 87 = .ok (.ireturn, 1) := by decide +kernel
theorem d_Pl_isLikeAbove_0 : decode prog_6_method_7_code 0 = .ok (.bipush 16, 2) := by decide +kernel
theorem d_Pl_isLikeAbove_2 : decode prog_6_method_7_code 2 = .ok (.iload_n 1, 1) := by decide +kernel
theorem d_Pl_isLikeAbove_3 : decode prog_6_method_7_code 3 = .ok (.aload_n 0, 1) := by decide +kernel
theorem d_Pl_isLikeAbove_4 : decode prog_6_method_7_code 4 = .ok (.getfield 9, 3) := by decide +kernel
theorem d_Pl_isLikeAbove_7 : decode prog_6_method_7_code 7 = .ok (.iconst 1, 1) := by decide +kernel
theorem d_Pl_isLikeAbove_8 : decode prog_6_method_7_code 8 = .ok (.isub, 1) := by decide +kernel
theorem d_Pl_isLikeAbove_9 : decode prog_6_method_7_code 9 = .ok (.invokestatic 74, 3) := by decide +kernel
theorem d_Pl_isLikeAbove_12 : decode prog_6_method_7_code 12 = .ok (.ifCond .ne 5, 3) := by decide +kernel
theorem d_Pl_isLikeAbove_15 : decode prog_6_method_7_code 15 = .ok (.iconst 0, 1) := by decide +kernel
theorem d_Pl_isLikeAbove_16 : decode prog_6_method_7_code 16 = .ok (.ireturn, 1) := by decide +kernel
theorem d_Pl_isLikeAbove_17 : decode prog_6_method_7_code 17 = .ok (.iload_n 1, 1) := by decide +kernel
theorem d_Pl_isLikeAbove_18 : decode prog_6_method_7_code 18 = .ok (.istore_n 2, 1) := by decide +kernel
theorem d_Pl_isLikeAbove_19 : decode prog_6_method_7_code 19 = .ok (.iload_n 2, 1) := by decide +kernel
theorem d_Pl_isLikeAbove_20 : decode prog_6_method_7_code 20 = .ok (.iload_n 1, 1) := by decide +kernel
theorem d_Pl_isLikeAbove_21 : decode prog_6_method_7_code 21 = .ok (.bipush 16, 2) := by decide +kernel
theorem d_Pl_isLikeAbove_23 : decode prog_6_method_7_code 23 = .ok (.isub, 1) := by decide +kernel
theorem d_Pl_isLikeAbove_24 : decode prog_6_method_7_code 24 = .ok (.if_icmp .le 20, 3) := by decide +kernel
theorem d_Pl_isLikeAbove_27 : decode prog_6_method_7_code 27 = .ok (.aload_n 0, 1) := by decide +kernel
theorem d_Pl_isLikeAbove_28 : decode prog_6_method_7_code 28 = .ok (.getfield 19, 3) := by decide +kernel
theorem d_Pl_isLikeAbove_31 : decode prog_6_method_7_code 31 = .ok (.iload_n 2, 1) := by decide +kernel
theorem d_Pl_isLikeAbove_32 : decode prog_6_method_7_code 32 = .ok (.baload, 1) := by decide +kernel
theorem d_Pl_isLikeAbove_33 : decode prog_6_method_7_code 33 = .ok (.ifCond .eq 5, 3) := by decide +kernel
theorem d_Pl_isLikeAbove_36 : decode prog_6_method_7_code 36 = .ok (.iconst 0, 1) := by decide +kernel
theorem d_Pl_isLikeAbove_37 : decode prog_6_method_7_code 37 = .ok (.ireturn, 1) := by decide +kernel
theorem d_Pl_isLikeAbove_38 : decode prog_6_method_7_code 38 = .ok (.iinc 2 (-1), 3) := by decide +kernel
theorem d_Pl_isLikeAbove_41 : decode prog_6_method_7_code 41 = .ok (.goto (-22), 3) := by decide +kernel
theorem d_Pl_isLikeAbove_44 : decode prog_6_method_7_code 44 = .ok (.iconst 1, 1) := by decide +kernel
theorem d_Pl_isLikeAbove_45 : decode prog_6_method_7_code 45 = .ok (.ireturn, 1) := by decide +kernel
theorem d_Pl_countedBlacks_0 : decode prog_6_method_8_code 0 = .ok (.aload_n 0, 1) := by decide +kernel
theorem d_Pl_countedBlacks_1 : decode prog_6_method_8_code 1 = .ok (.iload_n 1, 1) := by decide +kernel
theorem d_Pl_countedBlacks_2 : decode prog_6_method_8_code 2 = .ok (.invokevirtual 78, 3) := by decide +kernel
theorem d_Pl_countedBlacks_5 : decode prog_6_method_8_code 5 = .ok (.astore_n 2, 1) := by decide +kernel
theorem d_Pl_countedBlacks_6 : decode prog_6_method_8_code 6 = .ok (.sipush 5100, 3) := by decide +kernel
theorem d_Pl_countedBlacks_9 : decode prog_6_method_8_code 9 = .ok (.istore_n 3, 1) := by decide +kernel
theorem d_Pl_countedBlacks_10 : decode prog_6_method_8_code 10 = .ok (.iconst 0, 1) := by decide +kernel
theorem d_Pl_countedBlacks_11 : decode prog_6_method_8_code 11 = .ok (.istore 4, 2) := by decide +kernel
theorem d_Pl_countedBlacks_13 : decode prog_6_method_8_code 13 = .ok (.aload_n 2, 1) := by decide +kernel
theorem d_Pl_countedBlacks_14 : decode prog_6_method_8_code 14 = .ok (.astore 5, 2) := by decide +kernel
theorem d_Pl_countedBlacks_16 : decode prog_6_method_8_code 16 = .ok (.aload 5, 2) := by decide +kernel
theorem d_Pl_countedBlacks_18 : decode prog_6_method_8_code 18 = .ok (.ifnull 41, 3) := by decide +kernel
theorem d_Pl_countedBlacks_21 : decode prog_6_method_8_code 21 = .ok (.iload_n 3, 1) := by decide +kernel
theorem d_Pl_countedBlacks_22 : decode prog_6_method_8_code 22 = .ok (.aload 5, 2) := by decide +kernel
theorem d_Pl_countedBlacks_24 : decode prog_6_method_8_code 24 = .ok (.getfield 36, 3) := by decide +kernel
theorem d_Pl_countedBlacks_27 : decode prog_6_method_8_code 27 = .ok (.getfield 94, 3) := by decide +kernel
theorem d_Pl_countedBlacks_30 : decode prog_6_method_8_code 30 = .ok (.invokestatic 67, 3) := by decide +kernel
theorem d_Pl_countedBlacks_33 : decode prog_6_method_8_code 33 = .ok (.istore_n 3, 1) := by decide +kernel
theorem d_Pl_countedBlacks_34 : decode prog_6_method_8_code 34 = .ok (.iload 4, 2) := by decide +kernel
theorem d_Pl_countedBlacks_36 : decode prog_6_method_8_code 36 = .ok (.aload 5, 2) := by decide +kernel
theorem d_Pl_countedBlacks_38 : decode prog_6_method_8_code 38 = .ok (.getfield 36, 3) := by decide +kernel
theorem d_Pl_countedBlacks_41 : decode prog_6_method_8_code 41 = .ok (.getfield 97, 3) := by decide +kernel
theorem d_Pl_countedBlacks_44 : decode prog_6_method_8_code 44 = .ok (.invokestatic 58, 3) := by decide +kernel
theorem d_Pl_countedBlacks_47 : decode prog_6_method_8_code 47 = .ok (.istore 4, 2) := by decide +kernel
theorem d_Pl_countedBlacks_49 : decode prog_6_method_8_code 49 = .ok (.aload 5, 2) := by decide +kernel
theorem d_Pl_countedBlacks_51 : decode prog_6_method_8_code 51 = .ok (.getfield 100, 3) := by decide +kernel
theorem d_Pl_countedBlacks_54 : decode prog_6_method_8_code 54 = .ok (.astore 5, 2) := by decide +kernel
theorem d_Pl_countedBlacks_56 : decode prog_6_method_8_code 56 = .ok (.goto (-40), 3) := by decide +kernel
theorem d_Pl_countedBlacks_59 : decode prog_6_method_8_code 59 = .ok (.iconst 0, 1) := by decide +kernel
theorem d_Pl_countedBlacks_60 : decode prog_6_method_8_code 60 = .ok (.istore 5, 2) := by decide +kernel
theorem d_Pl_countedBlacks_62 : decode prog_6_method_8_code 62 = .ok (.iload_n 3, 1) := by decide +kernel
theorem d_Pl_countedBlacks_63 : decode prog_6_method_8_code 63 = .ok (.bipush 64, 2) := by decide +kernel
theorem d_Pl_countedBlacks_65 : decode prog_6_method_8_code 65 = .ok (.idiv, 1) := by decide +kernel
theorem d_Pl_countedBlacks_66 : decode prog_6_method_8_code 66 = .ok (.istore 6, 2) := by decide +kernel
theorem d_Pl_countedBlacks_68 : decode prog_6_method_8_code 68 = .ok (.iload 6, 2) := by decide +kernel
theorem d_Pl_countedBlacks_70 : decode prog_6_method_8_code 70 = .ok (.iload 4, 2) := by decide +kernel
theorem d_Pl_countedBlacks_72 : decode prog_6_method_8_code 72 = .ok (.bipush 64, 2) := by decide +kernel
theorem d_Pl_countedBlacks_74 : decode prog_6_method_8_code 74 = .ok (.idiv, 1) := by decide +kernel
theorem d_Pl_countedBlacks_75 : decode prog_6_method_8_code 75 = .ok (.if_icmp .gt 24, 3) := by decide +kernel
theorem d_Pl_countedBlacks_78 : decode prog_6_method_8_code 78 = .ok (.iload 5, 2) := by decide +kernel
theorem d_Pl_countedBlacks_80 : decode prog_6_method_8_code 80 = .ok (.aload_n 2, 1) := by decide +kernel
theorem d_Pl_countedBlacks_81 : decode prog_6_method_8_code 81 = .ok (.iload_n 1, 1) := by decide +kernel
theorem d_Pl_countedBlacks_82 : decode prog_6_method_8_code 82 = .ok (.iload 6, 2) := by decide +kernel
theorem d_Pl_countedBlacks_84 : decode prog_6_method_8_code 84 = .ok (.invokestatic 82, 3) := by decide +kernel
theorem d_Pl_countedBlacks_87 : decode prog_6_method_8_code 87 = .ok (.invokestatic 103, 3) := by decide +kernel
theorem d_Pl_countedBlacks_90 : decode prog_6_method_8_code 90 = .ok (.iadd, 1) := by decide +kernel
theorem d_Pl_countedBlacks_91 : decode prog_6_method_8_code 91 = .ok (.istore 5, 2) := by decide +kernel
theorem d_Pl_countedBlacks_93 : decode prog_6_method_8_code 93 = .ok (.iinc 6 1, 3) := by decide +kernel
theorem d_Pl_countedBlacks_96 : decode prog_6_method_8_code 96 = .ok (.goto (-28), 3) := by decide +kernel
theorem d_Pl_countedBlacks_99 : decode prog_6_method_8_code 99 = .ok (.iload 5, 2) := by decide +kernel
theorem d_Pl_countedBlacks_101 : decode prog_6_method_8_code 101 = .ok (.ireturn, 1) := by decide +kernel
theorem d_Pl_newestOnLine_0 : decode prog_6_method_9_code 0 = .ok (.aconst_null, 1) := by decide +kernel
theorem d_Pl_newestOnLine_1 : decode prog_6_method_9_code 1 = .ok (.astore_n 2, 1) := by decide +kernel
theorem d_Pl_newestOnLine_2 : decode prog_6_method_9_code 2 = .ok (.aconst_null, 1) := by decide +kernel
theorem d_Pl_newestOnLine_3 : decode prog_6_method_9_code 3 = .ok (.astore_n 3, 1) := by decide +kernel
theorem d_Pl_newestOnLine_4 : decode prog_6_method_9_code 4 = .ok (.aload_n 0, 1) := by decide +kernel
theorem d_Pl_newestOnLine_5 : decode prog_6_method_9_code 5 = .ok (.getfield 26, 3) := by decide +kernel
theorem d_Pl_newestOnLine_8 : decode prog_6_method_9_code 8 = .ok (.astore 4, 2) := by decide +kernel
theorem d_Pl_newestOnLine_10 : decode prog_6_method_9_code 10 = .ok (.aload 4, 2) := by decide +kernel
theorem d_Pl_newestOnLine_12 : decode prog_6_method_9_code 12 = .ok (.ifnull 50, 3) := by decide +kernel
theorem d_Pl_newestOnLine_15 : decode prog_6_method_9_code 15 = .ok (.aload 4, 2) := by decide +kernel
theorem d_Pl_newestOnLine_17 : decode prog_6_method_9_code 17 = .ok (.getfield 36, 3) := by decide +kernel
theorem d_Pl_newestOnLine_20 : decode prog_6_method_9_code 20 = .ok (.iload_n 1, 1) := by decide +kernel
theorem d_Pl_newestOnLine_21 : decode prog_6_method_9_code 21 = .ok (.invokevirtual 109, 3) := by decide +kernel
theorem d_Pl_newestOnLine_24 : decode prog_6_method_9_code 24 = .ok (.ifCond .eq 28, 3) := by decide +kernel
theorem d_Pl_newestOnLine_27 : decode prog_6_method_9_code 27 = .ok (.aload 4, 2) := by decide +kernel
theorem d_Pl_newestOnLine_29 : decode prog_6_method_9_code 29 = .ok (.aconst_null, 1) := by decide +kernel
theorem d_Pl_newestOnLine_30 : decode prog_6_method_9_code 30 = .ok (.putfield 100, 3) := by decide +kernel
theorem d_Pl_newestOnLine_33 : decode prog_6_method_9_code 33 = .ok (.aload_n 3, 1) := by decide +kernel
theorem d_Pl_newestOnLine_34 : decode prog_6_method_9_code 34 = .ok (.ifnonnull 9, 3) := by decide +kernel
theorem d_Pl_newestOnLine_37 : decode prog_6_method_9_code 37 = .ok (.aload 4, 2) := by decide +kernel
theorem d_Pl_newestOnLine_39 : decode prog_6_method_9_code 39 = .ok (.astore_n 2, 1) := by decide +kernel
theorem d_Pl_newestOnLine_40 : decode prog_6_method_9_code 40 = .ok (.goto 9, 3) := by decide +kernel
theorem d_Pl_newestOnLine_43 : decode prog_6_method_9_code 43 = .ok (.aload_n 3, 1) := by decide +kernel
theorem d_Pl_newestOnLine_44 : decode prog_6_method_9_code 44 = .ok (.aload 4, 2) := by decide +kernel
theorem d_Pl_newestOnLine_46 : decode prog_6_method_9_code 46 = .ok (.putfield 100, 3) := by decide +kernel
theorem d_Pl_newestOnLine_49 : decode prog_6_method_9_code 49 = .ok (.aload 4, 2) := by decide +kernel
theorem d_Pl_newestOnLine_51 : decode prog_6_method_9_code 51 = .ok (.astore_n 3, 1) := by decide +kernel
theorem d_Pl_newestOnLine_52 : decode prog_6_method_9_code 52 = .ok (.aload 4, 2) := by decide +kernel
theorem d_Pl_newestOnLine_54 : decode prog_6_method_9_code 54 = .ok (.getfield 48, 3) := by decide +kernel
theorem d_Pl_newestOnLine_57 : decode prog_6_method_9_code 57 = .ok (.astore 4, 2) := by decide +kernel
theorem d_Pl_newestOnLine_59 : decode prog_6_method_9_code 59 = .ok (.goto (-49), 3) := by decide +kernel
theorem d_Pl_newestOnLine_62 : decode prog_6_method_9_code 62 = .ok (.aload_n 2, 1) := by decide +kernel
theorem d_Pl_newestOnLine_63 : decode prog_6_method_9_code 63 = .ok (.areturn, 1) := by decide +kernel
theorem d_Pl_wordUnder_0 : decode prog_6_method_10_code 0 = .ok (.ldc2_w 112, 3) := by decide +kernel
theorem d_Pl_wordUnder_3 : decode prog_6_method_10_code 3 = .ok (.lstore_n 3, 1) := by decide +kernel
theorem d_Pl_wordUnder_4 : decode prog_6_method_10_code 4 = .ok (.lconst 0, 1) := by decide +kernel
theorem d_Pl_wordUnder_5 : decode prog_6_method_10_code 5 = .ok (.lstore 5, 2) := by decide +kernel
theorem d_Pl_wordUnder_7 : decode prog_6_method_10_code 7 = .ok (.aload_n 0, 1) := by decide +kernel
theorem d_Pl_wordUnder_8 : decode prog_6_method_10_code 8 = .ok (.astore 7, 2) := by decide +kernel
theorem d_Pl_wordUnder_10 : decode prog_6_method_10_code 10 = .ok (.aload 7, 2) := by decide +kernel
theorem d_Pl_wordUnder_12 : decode prog_6_method_10_code 12 = .ok (.ifnull 166, 3) := by decide +kernel
theorem d_Pl_wordUnder_15 : decode prog_6_method_10_code 15 = .ok (.lload_n 3, 1) := by decide +kernel
theorem d_Pl_wordUnder_16 : decode prog_6_method_10_code 16 = .ok (.lconst 0, 1) := by decide +kernel
theorem d_Pl_wordUnder_17 : decode prog_6_method_10_code 17 = .ok (.lcmp, 1) := by decide +kernel
theorem d_Pl_wordUnder_18 : decode prog_6_method_10_code 18 = .ok (.ifCond .eq 160, 3) := by decide +kernel
theorem d_Pl_wordUnder_21 : decode prog_6_method_10_code 21 = .ok (.aload 7, 2) := by decide +kernel
theorem d_Pl_wordUnder_23 : decode prog_6_method_10_code 23 = .ok (.getfield 36, 3) := by decide +kernel
theorem d_Pl_wordUnder_26 : decode prog_6_method_10_code 26 = .ok (.iload_n 2, 1) := by decide +kernel
theorem d_Pl_wordUnder_27 : decode prog_6_method_10_code 27 = .ok (.invokevirtual 114, 3) := by decide +kernel
theorem d_Pl_wordUnder_30 : decode prog_6_method_10_code 30 = .ok (.lload_n 3, 1) := by decide +kernel
theorem d_Pl_wordUnder_31 : decode prog_6_method_10_code 31 = .ok (.land, 1) := by decide +kernel
theorem d_Pl_wordUnder_32 : decode prog_6_method_10_code 32 = .ok (.lstore 8, 2) := by decide +kernel
theorem d_Pl_wordUnder_34 : decode prog_6_method_10_code 34 = .ok (.lload 8, 2) := by decide +kernel
theorem d_Pl_wordUnder_36 : decode prog_6_method_10_code 36 = .ok (.lconst 0, 1) := by decide +kernel
theorem d_Pl_wordUnder_37 : decode prog_6_method_10_code 37 = .ok (.lcmp, 1) := by decide +kernel
theorem d_Pl_wordUnder_38 : decode prog_6_method_10_code 38 = .ok (.ifCond .eq 130, 3) := by decide +kernel
theorem d_Pl_wordUnder_41 : decode prog_6_method_10_code 41 = .ok (.aload 7, 2) := by decide +kernel
theorem d_Pl_wordUnder_43 : decode prog_6_method_10_code 43 = .ok (.getfield 70, 3) := by decide +kernel
theorem d_Pl_wordUnder_46 : decode prog_6_method_10_code 46 = .ok (.astore 10, 2) := by decide +kernel
theorem d_Pl_wordUnder_48 : decode prog_6_method_10_code 48 = .ok (.aload 10, 2) := by decide +kernel
theorem d_Pl_wordUnder_50 : decode prog_6_method_10_code 50 = .ok (.ifnonnull 8, 3) := by decide +kernel
theorem d_Pl_wordUnder_53 : decode prog_6_method_10_code 53 = .ok (.lload 8, 2) := by decide +kernel
theorem d_Pl_wordUnder_55 : decode prog_6_method_10_code 55 = .ok (.goto 28, 3) := by decide +kernel
theorem d_Pl_wordUnder_58 : decode prog_6_method_10_code 58 = .ok (.aload 10, 2) := by decide +kernel
theorem d_Pl_wordUnder_60 : decode prog_6_method_10_code 60 = .ok (.iload_n 1, 1) := by decide +kernel
theorem d_Pl_wordUnder_61 : decode prog_6_method_10_code 61 = .ok (.aload 7, 2) := by decide +kernel
theorem d_Pl_wordUnder_63 : decode prog_6_method_10_code 63 = .ok (.getfield 118, 3) := by decide +kernel
theorem d_Pl_wordUnder_66 : decode prog_6_method_10_code 66 = .ok (.isub, 1) := by decide +kernel
theorem d_Pl_wordUnder_67 : decode prog_6_method_10_code 67 = .ok (.iload_n 2, 1) := by decide +kernel
theorem d_Pl_wordUnder_68 : decode prog_6_method_10_code 68 = .ok (.bipush 64, 2) := by decide +kernel
theorem d_Pl_wordUnder_70 : decode prog_6_method_10_code 70 = .ok (.imul, 1) := by decide +kernel
theorem d_Pl_wordUnder_71 : decode prog_6_method_10_code 71 = .ok (.aload 7, 2) := by decide +kernel
theorem d_Pl_wordUnder_73 : decode prog_6_method_10_code 73 = .ok (.getfield 121, 3) := by decide +kernel
theorem d_Pl_wordUnder_76 : decode prog_6_method_10_code 76 = .ok (.isub, 1) := by decide +kernel
theorem d_Pl_wordUnder_77 : decode prog_6_method_10_code 77 = .ok (.invokevirtual 124, 3) := by decide +kernel
theorem d_Pl_wordUnder_80 : decode prog_6_method_10_code 80 = .ok (.lload 8, 2) := by decide +kernel
theorem d_Pl_wordUnder_82 : decode prog_6_method_10_code 82 = .ok (.land, 1) := by decide +kernel
theorem d_Pl_wordUnder_83 : decode prog_6_method_10_code 83 = .ok (.lstore 11, 2) := by decide +kernel
theorem d_Pl_wordUnder_85 : decode prog_6_method_10_code 85 = .ok (.lload 11, 2) := by decide +kernel
theorem d_Pl_wordUnder_87 : decode prog_6_method_10_code 87 = .ok (.aload 7, 2) := by decide +kernel
theorem d_Pl_wordUnder_89 : decode prog_6_method_10_code 89 = .ok (.getfield 130, 3) := by decide +kernel
theorem d_Pl_wordUnder_92 : decode prog_6_method_10_code 92 = .ok (.iload_n 1, 1) := by decide +kernel
theorem d_Pl_wordUnder_93 : decode prog_6_method_10_code 93 = .ok (.invokevirtual 134, 3) := by decide +kernel
theorem d_Pl_wordUnder_96 : decode prog_6_method_10_code 96 = .ok (.land, 1) := by decide +kernel
theorem d_Pl_wordUnder_97 : decode prog_6_method_10_code 97 = .ok (.lstore 13, 2) := by decide +kernel
theorem d_Pl_wordUnder_99 : decode prog_6_method_10_code 99 = .ok (.lload 5, 2) := by decide +kernel
theorem d_Pl_wordUnder_101 : decode prog_6_method_10_code 101 = .ok (.lload 13, 2) := by decide +kernel
theorem d_Pl_wordUnder_103 : decode prog_6_method_10_code 103 = .ok (.lor, 1) := by decide +kernel
theorem d_Pl_wordUnder_104 : decode prog_6_method_10_code 104 = .ok (.lstore 5, 2) := by decide +kernel
theorem d_Pl_wordUnder_106 : decode prog_6_method_10_code 106 = .ok (.lload_n 3, 1) := by decide +kernel
theorem d_Pl_wordUnder_107 : decode prog_6_method_10_code 107 = .ok (.lload 13, 2) := by decide +kernel
theorem d_Pl_wordUnder_109 : decode prog_6_method_10_code 109 = .ok (.ldc2_w 112, 3) := by decide +kernel
theorem d_Pl_wordUnder_112 : decode prog_6_method_10_code 112 = .ok (.lxor, 1) := by decide +kernel
theorem d_Pl_wordUnder_113 : decode prog_6_method_10_code 113 = .ok (.land, 1) := by decide +kernel
theorem d_Pl_wordUnder_114 : decode prog_6_method_10_code 114 = .ok (.lstore_n 3, 1) := by decide +kernel
theorem d_Pl_wordUnder_115 : decode prog_6_method_10_code 115 = .ok (.lload_n 3, 1) := by decide +kernel
theorem d_Pl_wordUnder_116 : decode prog_6_method_10_code 116 = .ok (.aload 7, 2) := by decide +kernel
theorem d_Pl_wordUnder_118 : decode prog_6_method_10_code 118 = .ok (.getfield 139, 3) := by decide +kernel
theorem d_Pl_wordUnder_121 : decode prog_6_method_10_code 121 = .ok (.ifCond .eq 12, 3) := by decide +kernel
theorem d_Pl_wordUnder_124 : decode prog_6_method_10_code 124 = .ok (.lload 11, 2) := by decide +kernel
theorem d_Pl_wordUnder_126 : decode prog_6_method_10_code 126 = .ok (.ldc2_w 112, 3) := by decide +kernel
theorem d_Pl_wordUnder_129 : decode prog_6_method_10_code 129 = .ok (.lxor, 1) := by decide +kernel
theorem d_Pl_wordUnder_130 : decode prog_6_method_10_code 130 = .ok (.goto 6, 3) := by decide +kernel
theorem d_Pl_wordUnder_133 : decode prog_6_method_10_code 133 = .ok (.ldc2_w 112, 3) := by decide +kernel
theorem d_Pl_wordUnder_136 : decode prog_6_method_10_code 136 = .ok (.land, 1) := by decide +kernel
theorem d_Pl_wordUnder_137 : decode prog_6_method_10_code 137 = .ok (.lstore_n 3, 1) := by decide +kernel
theorem d_Pl_wordUnder_138 : decode prog_6_method_10_code 138 = .ok (.lload_n 3, 1) := by decide +kernel
theorem d_Pl_wordUnder_139 : decode prog_6_method_10_code 139 = .ok (.aload 7, 2) := by decide +kernel
theorem d_Pl_wordUnder_141 : decode prog_6_method_10_code 141 = .ok (.getfield 143, 3) := by decide +kernel
theorem d_Pl_wordUnder_144 : decode prog_6_method_10_code 144 = .ok (.ifCond .eq 19, 3) := by decide +kernel
theorem d_Pl_wordUnder_147 : decode prog_6_method_10_code 147 = .ok (.lload 8, 2) := by decide +kernel
theorem d_Pl_wordUnder_149 : decode prog_6_method_10_code 149 = .ok (.lload 11, 2) := by decide +kernel
theorem d_Pl_wordUnder_151 : decode prog_6_method_10_code 151 = .ok (.ldc2_w 112, 3) := by decide +kernel
theorem d_Pl_wordUnder_154 : decode prog_6_method_10_code 154 = .ok (.lxor, 1) := by decide +kernel
theorem d_Pl_wordUnder_155 : decode prog_6_method_10_code 155 = .ok (.land, 1) := by decide +kernel
theorem d_Pl_wordUnder_156 : decode prog_6_method_10_code 156 = .ok (.ldc2_w 112, 3) := by decide +kernel
theorem d_Pl_wordUnder_159 : decode prog_6_method_10_code 159 = .ok (.lxor, 1) := by decide +kernel
theorem d_Pl_wordUnder_160 : decode prog_6_method_10_code 160 = .ok (.goto 6, 3) := by decide +kernel
theorem d_Pl_wordUnder_163 : decode prog_6_method_10_code 163 = .ok (.ldc2_w 112, 3) := by decide +kernel
theorem d_Pl_wordUnder_166 : decode prog_6_method_10_code 166 = .ok (.land, 1) := by decide +kernel
theorem d_Pl_wordUnder_167 : decode prog_6_method_10_code 167 = .ok (.lstore_n 3, 1) := by decide +kernel
theorem d_Pl_wordUnder_168 : decode prog_6_method_10_code 168 = .ok (.aload 7, 2) := by decide +kernel
theorem d_Pl_wordUnder_170 : decode prog_6_method_10_code 170 = .ok (.getfield 100, 3) := by decide +kernel
theorem d_Pl_wordUnder_173 : decode prog_6_method_10_code 173 = .ok (.astore 7, 2) := by decide +kernel
theorem d_Pl_wordUnder_175 : decode prog_6_method_10_code 175 = .ok (.goto (-165), 3) := by decide +kernel
theorem d_Pl_wordUnder_178 : decode prog_6_method_10_code 178 = .ok (.lload 5, 2) := by decide +kernel
theorem d_Pl_wordUnder_180 : decode prog_6_method_10_code 180 = .ok (.lreturn, 1) := by decide +kernel
theorem d_Sh_init_0 : decode prog_7_method_1_code 0 = .ok (.aload_n 0, 1) := by decide +kernel
theorem d_Sh_init_1 : decode prog_7_method_1_code 1 = .ok (.invokespecial 3, 3) := by decide +kernel
theorem d_Sh_init_4 : decode prog_7_method_1_code 4 = .ok (.aload_n 0, 1) := by decide +kernel
theorem d_Sh_init_5 : decode prog_7_method_1_code 5 = .ok (.new 9, 3) := by decide +kernel
theorem d_Sh_init_8 : decode prog_7_method_1_code 8 = .ok (.dup, 1) := by decide +kernel
theorem d_Sh_init_9 : decode prog_7_method_1_code 9 = .ok (.iload_n 1, 1) := by decide +kernel
theorem d_Sh_init_10 : decode prog_7_method_1_code 10 = .ok (.iload_n 2, 1) := by decide +kernel
theorem d_Sh_init_11 : decode prog_7_method_1_code 11 = .ok (.iconst 1, 1) := by decide +kernel
theorem d_Sh_init_12 : decode prog_7_method_1_code 12 = .ok (.invokespecial 11, 3) := by decide +kernel
theorem d_Sh_init_15 : decode prog_7_method_1_code 15 = .ok (.putfield 14, 3) := by decide +kernel
theorem d_Sh_init_18 : decode prog_7_method_1_code 18 = .ok (.aload_n 0, 1) := by decide +kernel
theorem d_Sh_init_19 : decode prog_7_method_1_code 19 = .ok (.iconst 4, 1) := by decide +kernel
theorem d_Sh_init_20 : decode prog_7_method_1_code 20 = .ok (.anewarray 9, 3) := by decide +kernel
theorem d_Sh_init_23 : decode prog_7_method_1_code 23 = .ok (.putfield 20, 3) := by decide +kernel
theorem d_Sh_init_26 : decode prog_7_method_1_code 26 = .ok (.return_, 1) := by decide +kernel
theorem d_Sh_redraw_0 : decode prog_7_method_2_code 0 = .ok (.aload_n 0, 1) := by decide +kernel
theorem d_Sh_redraw_1 : decode prog_7_method_2_code 1 = .ok (.getfield 14, 3) := by decide +kernel
theorem d_Sh_redraw_4 : decode prog_7_method_2_code 4 = .ok (.iload_n 1, 1) := by decide +kernel
theorem d_Sh_redraw_5 : decode prog_7_method_2_code 5 = .ok (.lload_n 2, 1) := by decide +kernel
theorem d_Sh_redraw_6 : decode prog_7_method_2_code 6 = .ok (.lload 4, 2) := by decide +kernel
theorem d_Sh_redraw_8 : decode prog_7_method_2_code 8 = .ok (.invokevirtual 24, 3) := by decide +kernel
theorem d_Sh_redraw_11 : decode prog_7_method_2_code 11 = .ok (.iconst 0, 1) := by decide +kernel
theorem d_Sh_redraw_12 : decode prog_7_method_2_code 12 = .ok (.istore 6, 2) := by decide +kernel
theorem d_Sh_redraw_14 : decode prog_7_method_2_code 14 = .ok (.iload 6, 2) := by decide +kernel
theorem d_Sh_redraw_16 : decode prog_7_method_2_code 16 = .ok (.iconst 4, 1) := by decide +kernel
theorem d_Sh_redraw_17 : decode prog_7_method_2_code 17 = .ok (.if_icmp .ge 17, 3) := by decide +kernel
theorem d_Sh_redraw_20 : decode prog_7_method_2_code 20 = .ok (.aload_n 0, 1) := by decide +kernel
theorem d_Sh_redraw_21 : decode prog_7_method_2_code 21 = .ok (.getfield 20, 3) := by decide +kernel
theorem d_Sh_redraw_24 : decode prog_7_method_2_code 24 = .ok (.iload 6, 2) := by decide +kernel
theorem d_Sh_redraw_26 : decode prog_7_method_2_code 26 = .ok (.aconst_null, 1) := by decide +kernel
theorem d_Sh_redraw_27 : decode prog_7_method_2_code 27 = .ok (.aastore, 1) := by decide +kernel
theorem d_Sh_redraw_28 : decode prog_7_method_2_code 28 = .ok (.iinc 6 1, 3) := by decide +kernel
theorem d_Sh_redraw_31 : decode prog_7_method_2_code 31 = .ok (.goto (-17), 3) := by decide +kernel
theorem d_Sh_redraw_34 : decode prog_7_method_2_code 34 = .ok (.return_, 1) := by decide +kernel
theorem d_Sh_turnedBy_0 : decode prog_7_method_3_code 0 = .ok (.iconst 0, 1) := by decide +kernel
theorem d_Sh_turnedBy_1 : decode prog_7_method_3_code 1 = .ok (.iload_n 1, 1) := by decide +kernel
theorem d_Sh_turnedBy_2 : decode prog_7_method_3_code 2 = .ok (.iconst 3, 1) := by decide +kernel
theorem d_Sh_turnedBy_3 : decode prog_7_method_3_code 3 = .ok (.invokestatic 28, 3) := by decide +kernel
theorem d_Sh_turnedBy_6 : decode prog_7_method_3_code 6 = .ok (.ifCond .ne 8, 3) := by decide +kernel
theorem d_Sh_turnedBy_9 : decode prog_7_method_3_code 9 = .ok (.aload_n 0, 1) := by decide +kernel
theorem d_Sh_turnedBy_10 : decode prog_7_method_3_code 10 = .ok (.getfield 14, 3) := by decide +kernel
theorem d_Sh_turnedBy_13 : decode prog_7_method_3_code 13 = .ok (.areturn, 1) := by decide +kernel
theorem d_Sh_turnedBy_14 : decode prog_7_method_3_code 14 = .ok (.aload_n 0, 1) := by decide +kernel
theorem d_Sh_turnedBy_15 : decode prog_7_method_3_code 15 = .ok (.getfield 20, 3) := by decide +kernel
theorem d_Sh_turnedBy_18 : decode prog_7_method_3_code 18 = .ok (.iload_n 1, 1) := by decide +kernel
theorem d_Sh_turnedBy_19 : decode prog_7_method_3_code 19 = .ok (.aaload, 1) := by decide +kernel
theorem d_Sh_turnedBy_20 : decode prog_7_method_3_code 20 = .ok (.ifnonnull 17, 3) := by decide +kernel
theorem d_Sh_turnedBy_23 : decode prog_7_method_3_code 23 = .ok (.aload_n 0, 1) := by decide +kernel
theorem d_Sh_turnedBy_24 : decode prog_7_method_3_code 24 = .ok (.getfield 20, 3) := by decide +kernel
theorem d_Sh_turnedBy_27 : decode prog_7_method_3_code 27 = .ok (.iload_n 1, 1) := by decide +kernel
theorem d_Sh_turnedBy_28 : decode prog_7_method_3_code 28 = .ok (.aload_n 0, 1) := by decide +kernel
theorem d_Sh_turnedBy_29 : decode prog_7_method_3_code 29 = .ok (.getfield 14, 3) := by decide +kernel
theorem d_Sh_turnedBy_32 : decode prog_7_method_3_code 32 = .ok (.iload_n 1, 1) := by decide +kernel
theorem d_Sh_turnedBy_33 : decode prog_7_method_3_code 33 = .ok (.invokevirtual 32, 3) := by decide +kernel
theorem d_Sh_turnedBy_36 : decode prog_7_method_3_code 36 = .ok (.aastore, 1) := by decide +kernel
theorem d_Sh_turnedBy_37 : decode prog_7_method_3_code 37 = .ok (.aload_n 0, 1) := by decide +kernel
theorem d_Sh_turnedBy_38 : decode prog_7_method_3_code 38 = .ok (.getfield 20, 3) := by decide +kernel
theorem d_Sh_turnedBy_41 : decode prog_7_method_3_code 41 = .ok (.iload_n 1, 1) := by decide +kernel
theorem d_Sh_turnedBy_42 : decode prog_7_method_3_code 42 = .ok (.aaload, 1) := by decide +kernel
theorem d_Sh_turnedBy_43 : decode prog_7_method_3_code 43 = .ok (.areturn, 1) := by decide +kernel

theorem d_Bx_init_0 : decode prog_2_method_1_code 0 = .ok (.aload_n 0, 1) := by decide +kernel
theorem d_Bx_init_1 : decode prog_2_method_1_code 1 = .ok (.invokespecial 3, 3) := by decide +kernel
theorem d_Bx_init_4 : decode prog_2_method_1_code 4 = .ok (.aload_n 0, 1) := by decide +kernel
theorem d_Bx_init_5 : decode prog_2_method_1_code 5 = .ok (.iload_n 1, 1) := by decide +kernel
theorem d_Bx_init_6 : decode prog_2_method_1_code 6 = .ok (.putfield 9, 3) := by decide +kernel
theorem d_Bx_init_9 : decode prog_2_method_1_code 9 = .ok (.aload_n 0, 1) := by decide +kernel
theorem d_Bx_init_10 : decode prog_2_method_1_code 10 = .ok (.iload_n 2, 1) := by decide +kernel
theorem d_Bx_init_11 : decode prog_2_method_1_code 11 = .ok (.putfield 15, 3) := by decide +kernel
theorem d_Bx_init_14 : decode prog_2_method_1_code 14 = .ok (.aload_n 0, 1) := by decide +kernel
theorem d_Bx_init_15 : decode prog_2_method_1_code 15 = .ok (.iload_n 3, 1) := by decide +kernel
theorem d_Bx_init_16 : decode prog_2_method_1_code 16 = .ok (.putfield 18, 3) := by decide +kernel
theorem d_Bx_init_19 : decode prog_2_method_1_code 19 = .ok (.aload_n 0, 1) := by decide +kernel
theorem d_Bx_init_20 : decode prog_2_method_1_code 20 = .ok (.iload 4, 2) := by decide +kernel
theorem d_Bx_init_22 : decode prog_2_method_1_code 22 = .ok (.putfield 21, 3) := by decide +kernel
theorem d_Bx_init_25 : decode prog_2_method_1_code 25 = .ok (.return_, 1) := by decide +kernel
theorem d_Bx_common_0 : decode prog_2_method_2_code 0 = .ok (.new 10, 3) := by decide +kernel
theorem d_Bx_common_3 : decode prog_2_method_2_code 3 = .ok (.dup, 1) := by decide +kernel
theorem d_Bx_common_4 : decode prog_2_method_2_code 4 = .ok (.aload_n 0, 1) := by decide +kernel
theorem d_Bx_common_5 : decode prog_2_method_2_code 5 = .ok (.getfield 9, 3) := by decide +kernel
theorem d_Bx_common_8 : decode prog_2_method_2_code 8 = .ok (.aload_n 1, 1) := by decide +kernel
theorem d_Bx_common_9 : decode prog_2_method_2_code 9 = .ok (.getfield 9, 3) := by decide +kernel
theorem d_Bx_common_12 : decode prog_2_method_2_code 12 = .ok (.invokestatic 24, 3) := by decide +kernel
theorem d_Bx_common_15 : decode prog_2_method_2_code 15 = .ok (.aload_n 0, 1) := by decide +kernel
theorem d_Bx_common_16 : decode prog_2_method_2_code 16 = .ok (.getfield 15, 3) := by decide +kernel
theorem d_Bx_common_19 : decode prog_2_method_2_code 19 = .ok (.aload_n 1, 1) := by decide +kernel
theorem d_Bx_common_20 : decode prog_2_method_2_code 20 = .ok (.getfield 15, 3) := by decide +kernel
theorem d_Bx_common_23 : decode prog_2_method_2_code 23 = .ok (.invokestatic 24, 3) := by decide +kernel
theorem d_Bx_common_26 : decode prog_2_method_2_code 26 = .ok (.aload_n 0, 1) := by decide +kernel
theorem d_Bx_common_27 : decode prog_2_method_2_code 27 = .ok (.getfield 18, 3) := by decide +kernel
theorem d_Bx_common_30 : decode prog_2_method_2_code 30 = .ok (.aload_n 1, 1) := by decide +kernel
theorem d_Bx_common_31 : decode prog_2_method_2_code 31 = .ok (.getfield 18, 3) := by decide +kernel
theorem d_Bx_common_34 : decode prog_2_method_2_code 34 = .ok (.invokestatic 30, 3) := by decide +kernel
theorem d_Bx_common_37 : decode prog_2_method_2_code 37 = .ok (.aload_n 0, 1) := by decide +kernel
theorem d_Bx_common_38 : decode prog_2_method_2_code 38 = .ok (.getfield 21, 3) := by decide +kernel
theorem d_Bx_common_41 : decode prog_2_method_2_code 41 = .ok (.aload_n 1, 1) := by decide +kernel
theorem d_Bx_common_42 : decode prog_2_method_2_code 42 = .ok (.getfield 21, 3) := by decide +kernel
theorem d_Bx_common_45 : decode prog_2_method_2_code 45 = .ok (.invokestatic 30, 3) := by decide +kernel
theorem d_Bx_common_48 : decode prog_2_method_2_code 48 = .ok (.invokespecial 33, 3) := by decide +kernel
theorem d_Bx_common_51 : decode prog_2_method_2_code 51 = .ok (.areturn, 1) := by decide +kernel
theorem d_Bx_isEmpty_0 : decode prog_2_method_3_code 0 = .ok (.aload_n 0, 1) := by decide +kernel
theorem d_Bx_isEmpty_1 : decode prog_2_method_3_code 1 = .ok (.getfield 9, 3) := by decide +kernel
theorem d_Bx_isEmpty_4 : decode prog_2_method_3_code 4 = .ok (.aload_n 0, 1) := by decide +kernel
theorem d_Bx_isEmpty_5 : decode prog_2_method_3_code 5 = .ok (.getfield 18, 3) := by decide +kernel
theorem d_Bx_isEmpty_8 : decode prog_2_method_3_code 8 = .ok (.if_icmp .gt 14, 3) := by decide +kernel
theorem d_Bx_isEmpty_11 : decode prog_2_method_3_code 11 = .ok (.aload_n 0, 1) := by decide +kernel
theorem d_Bx_isEmpty_12 : decode prog_2_method_3_code 12 = .ok (.getfield 15, 3) := by decide +kernel
theorem d_Bx_isEmpty_15 : decode prog_2_method_3_code 15 = .ok (.aload_n 0, 1) := by decide +kernel
theorem d_Bx_isEmpty_16 : decode prog_2_method_3_code 16 = .ok (.getfield 21, 3) := by decide +kernel
theorem d_Bx_isEmpty_19 : decode prog_2_method_3_code 19 = .ok (.if_icmp .le 7, 3) := by decide +kernel
theorem d_Bx_isEmpty_22 : decode prog_2_method_3_code 22 = .ok (.iconst 1, 1) := by decide +kernel
theorem d_Bx_isEmpty_23 : decode prog_2_method_3_code 23 = .ok (.goto 4, 3) := by decide +kernel
theorem d_Bx_isEmpty_26 : decode prog_2_method_3_code 26 = .ok (.iconst 0, 1) := by decide +kernel
theorem d_Bx_isEmpty_27 : decode prog_2_method_3_code 27 = .ok (.ireturn, 1) := by decide +kernel
theorem d_Bx_meetsLine_0 : decode prog_2_method_4_code 0 = .ok (.aload_n 0, 1) := by decide +kernel
theorem d_Bx_meetsLine_1 : decode prog_2_method_4_code 1 = .ok (.getfield 15, 3) := by decide +kernel
theorem d_Bx_meetsLine_4 : decode prog_2_method_4_code 4 = .ok (.iload_n 1, 1) := by decide +kernel
theorem d_Bx_meetsLine_5 : decode prog_2_method_4_code 5 = .ok (.if_icmp .gt 15, 3) := by decide +kernel
theorem d_Bx_meetsLine_8 : decode prog_2_method_4_code 8 = .ok (.iload_n 1, 1) := by decide +kernel
theorem d_Bx_meetsLine_9 : decode prog_2_method_4_code 9 = .ok (.aload_n 0, 1) := by decide +kernel
theorem d_Bx_meetsLine_10 : decode prog_2_method_4_code 10 = .ok (.getfield 21, 3) := by decide +kernel
theorem d_Bx_meetsLine_13 : decode prog_2_method_4_code 13 = .ok (.if_icmp .gt 7, 3) := by decide +kernel
theorem d_Bx_meetsLine_16 : decode prog_2_method_4_code 16 = .ok (.iconst 1, 1) := by decide +kernel
theorem d_Bx_meetsLine_17 : decode prog_2_method_4_code 17 = .ok (.goto 4, 3) := by decide +kernel
theorem d_Bx_meetsLine_20 : decode prog_2_method_4_code 20 = .ok (.iconst 0, 1) := by decide +kernel
theorem d_Bx_meetsLine_21 : decode prog_2_method_4_code 21 = .ok (.ireturn, 1) := by decide +kernel
theorem d_Bx_dotsOfWord_0 : decode prog_2_method_5_code 0 = .ok (.iload_n 1, 1) := by decide +kernel
theorem d_Bx_dotsOfWord_1 : decode prog_2_method_5_code 1 = .ok (.bipush 64, 2) := by decide +kernel
theorem d_Bx_dotsOfWord_3 : decode prog_2_method_5_code 3 = .ok (.imul, 1) := by decide +kernel
theorem d_Bx_dotsOfWord_4 : decode prog_2_method_5_code 4 = .ok (.istore_n 2, 1) := by decide +kernel
theorem d_Bx_dotsOfWord_5 : decode prog_2_method_5_code 5 = .ok (.aload_n 0, 1) := by decide +kernel
theorem d_Bx_dotsOfWord_6 : decode prog_2_method_5_code 6 = .ok (.getfield 18, 3) := by decide +kernel
theorem d_Bx_dotsOfWord_9 : decode prog_2_method_5_code 9 = .ok (.iconst 1, 1) := by decide +kernel
theorem d_Bx_dotsOfWord_10 : decode prog_2_method_5_code 10 = .ok (.iadd, 1) := by decide +kernel
theorem d_Bx_dotsOfWord_11 : decode prog_2_method_5_code 11 = .ok (.iload_n 2, 1) := by decide +kernel
theorem d_Bx_dotsOfWord_12 : decode prog_2_method_5_code 12 = .ok (.isub, 1) := by decide +kernel
theorem d_Bx_dotsOfWord_13 : decode prog_2_method_5_code 13 = .ok (.invokestatic 36, 3) := by decide +kernel
theorem d_Bx_dotsOfWord_16 : decode prog_2_method_5_code 16 = .ok (.aload_n 0, 1) := by decide +kernel
theorem d_Bx_dotsOfWord_17 : decode prog_2_method_5_code 17 = .ok (.getfield 9, 3) := by decide +kernel
theorem d_Bx_dotsOfWord_20 : decode prog_2_method_5_code 20 = .ok (.iload_n 2, 1) := by decide +kernel
theorem d_Bx_dotsOfWord_21 : decode prog_2_method_5_code 21 = .ok (.isub, 1) := by decide +kernel
theorem d_Bx_dotsOfWord_22 : decode prog_2_method_5_code 22 = .ok (.invokestatic 36, 3) := by decide +kernel
theorem d_Bx_dotsOfWord_25 : decode prog_2_method_5_code 25 = .ok (.ldc2_w 40, 3) := by decide +kernel
theorem d_Bx_dotsOfWord_28 : decode prog_2_method_5_code 28 = .ok (.lxor, 1) := by decide +kernel
theorem d_Bx_dotsOfWord_29 : decode prog_2_method_5_code 29 = .ok (.land, 1) := by decide +kernel
theorem d_Bx_dotsOfWord_30 : decode prog_2_method_5_code 30 = .ok (.lreturn, 1) := by decide +kernel
theorem d_In_init_0 : decode prog_3_method_1_code 0 = .ok (.aload_n 0, 1) := by decide +kernel
theorem d_In_init_1 : decode prog_3_method_1_code 1 = .ok (.invokespecial 3, 3) := by decide +kernel
theorem d_In_init_4 : decode prog_3_method_1_code 4 = .ok (.aload_n 0, 1) := by decide +kernel
theorem d_In_init_5 : decode prog_3_method_1_code 5 = .ok (.iload_n 1, 1) := by decide +kernel
theorem d_In_init_6 : decode prog_3_method_1_code 6 = .ok (.putfield 9, 3) := by decide +kernel
theorem d_In_init_9 : decode prog_3_method_1_code 9 = .ok (.aload_n 0, 1) := by decide +kernel
theorem d_In_init_10 : decode prog_3_method_1_code 10 = .ok (.iload_n 1, 1) := by decide +kernel
theorem d_In_init_11 : decode prog_3_method_1_code 11 = .ok (.ifCond .eq 8, 3) := by decide +kernel
theorem d_In_init_14 : decode prog_3_method_1_code 14 = .ok (.iload_n 1, 1) := by decide +kernel
theorem d_In_init_15 : decode prog_3_method_1_code 15 = .ok (.iconst 1, 1) := by decide +kernel
theorem d_In_init_16 : decode prog_3_method_1_code 16 = .ok (.if_icmp .ne 7, 3) := by decide +kernel
theorem d_In_init_19 : decode prog_3_method_1_code 19 = .ok (.iconst 0, 1) := by decide +kernel
theorem d_In_init_20 : decode prog_3_method_1_code 20 = .ok (.goto 4, 3) := by decide +kernel
theorem d_In_init_23 : decode prog_3_method_1_code 23 = .ok (.iload_n 2, 1) := by decide +kernel
theorem d_In_init_24 : decode prog_3_method_1_code 24 = .ok (.putfield 15, 3) := by decide +kernel
theorem d_In_init_27 : decode prog_3_method_1_code 27 = .ok (.aload_n 0, 1) := by decide +kernel
theorem d_In_init_28 : decode prog_3_method_1_code 28 = .ok (.bipush 16, 2) := by decide +kernel
theorem d_In_init_30 : decode prog_3_method_1_code 30 = .ok (.newarray .long, 2) := by decide +kernel
theorem d_In_init_32 : decode prog_3_method_1_code 32 = .ok (.putfield 18, 3) := by decide +kernel
theorem d_In_init_35 : decode prog_3_method_1_code 35 = .ok (.iconst 0, 1) := by decide +kernel
theorem d_In_init_36 : decode prog_3_method_1_code 36 = .ok (.istore_n 3, 1) := by decide +kernel
theorem d_In_init_37 : decode prog_3_method_1_code 37 = .ok (.iload_n 3, 1) := by decide +kernel
theorem d_In_init_38 : decode prog_3_method_1_code 38 = .ok (.bipush 16, 2) := by decide +kernel
theorem d_In_init_40 : decode prog_3_method_1_code 40 = .ok (.if_icmp .ge 21, 3) := by decide +kernel
theorem d_In_init_43 : decode prog_3_method_1_code 43 = .ok (.aload_n 0, 1) := by decide +kernel
theorem d_In_init_44 : decode prog_3_method_1_code 44 = .ok (.getfield 18, 3) := by decide +kernel
theorem d_In_init_47 : decode prog_3_method_1_code 47 = .ok (.iload_n 3, 1) := by decide +kernel
theorem d_In_init_48 : decode prog_3_method_1_code 48 = .ok (.iload_n 1, 1) := by decide +kernel
theorem d_In_init_49 : decode prog_3_method_1_code 49 = .ok (.iload_n 2, 1) := by decide +kernel
theorem d_In_init_50 : decode prog_3_method_1_code 50 = .ok (.iload_n 3, 1) := by decide +kernel
theorem d_In_init_51 : decode prog_3_method_1_code 51 = .ok (.invokestatic 22, 3) := by decide +kernel
theorem d_In_init_54 : decode prog_3_method_1_code 54 = .ok (.lastore, 1) := by decide +kernel
theorem d_In_init_55 : decode prog_3_method_1_code 55 = .ok (.iinc 3 1, 3) := by decide +kernel
theorem d_In_init_58 : decode prog_3_method_1_code 58 = .ok (.goto (-21), 3) := by decide +kernel
theorem d_In_init_61 : decode prog_3_method_1_code 61 = .ok (.return_, 1) := by decide +kernel
theorem d_In_exists_0 : decode prog_3_method_2_code 0 = .ok (.iload_n 0, 1) := by decide +kernel
theorem d_In_exists_1 : decode prog_3_method_2_code 1 = .ok (.tableswitch 51 0 3 #[31, 33, 35, 43], 31) := by decide +kernel
theorem d_In_exists_32 : decode prog_3_method_2_code 32 = .ok (.iconst 1, 1) := by decide +kernel
theorem d_In_exists_33 : decode prog_3_method_2_code 33 = .ok (.ireturn, 1) := by decide +kernel
theorem d_In_exists_34 : decode prog_3_method_2_code 34 = .ok (.iconst 1, 1) := by decide +kernel
theorem d_In_exists_35 : decode prog_3_method_2_code 35 = .ok (.ireturn, 1) := by decide +kernel
theorem d_In_exists_36 : decode prog_3_method_2_code 36 = .ok (.iconst 1, 1) := by decide +kernel
theorem d_In_exists_37 : decode prog_3_method_2_code 37 = .ok (.iload_n 1, 1) := by decide +kernel
theorem d_In_exists_38 : decode prog_3_method_2_code 38 = .ok (.bipush 100, 2) := by decide +kernel
theorem d_In_exists_40 : decode prog_3_method_2_code 40 = .ok (.invokestatic 26, 3) := by decide +kernel
theorem d_In_exists_43 : decode prog_3_method_2_code 43 = .ok (.ireturn, 1) := by decide +kernel
theorem d_In_exists_44 : decode prog_3_method_2_code 44 = .ok (.iconst 1, 1) := by decide +kernel
theorem d_In_exists_45 : decode prog_3_method_2_code 45 = .ok (.iload_n 1, 1) := by decide +kernel
theorem d_In_exists_46 : decode prog_3_method_2_code 46 = .ok (.bipush 6, 2) := by decide +kernel
theorem d_In_exists_48 : decode prog_3_method_2_code 48 = .ok (.invokestatic 26, 3) := by decide +kernel
theorem d_In_exists_51 : decode prog_3_method_2_code 51 = .ok (.ireturn, 1) := by decide +kernel
theorem d_In_exists_52 : decode prog_3_method_2_code 52 = .ok (.iconst 0, 1) := by decide +kernel
theorem d_In_exists_53 : decode prog_3_method_2_code 53 = .ok (.ireturn, 1) := by decide +kernel
theorem d_In_dotsAt_0 : decode prog_3_method_3_code 0 = .ok (.aload_n 0, 1) := by decide +kernel
theorem d_In_dotsAt_1 : decode prog_3_method_3_code 1 = .ok (.getfield 18, 3) := by decide +kernel
theorem d_In_dotsAt_4 : decode prog_3_method_3_code 4 = .ok (.iload_n 1, 1) := by decide +kernel
theorem d_In_dotsAt_5 : decode prog_3_method_3_code 5 = .ok (.bipush 15, 2) := by decide +kernel
theorem d_In_dotsAt_7 : decode prog_3_method_3_code 7 = .ok (.iand, 1) := by decide +kernel
theorem d_In_dotsAt_8 : decode prog_3_method_3_code 8 = .ok (.laload, 1) := by decide +kernel
theorem d_In_dotsAt_9 : decode prog_3_method_3_code 9 = .ok (.lreturn, 1) := by decide +kernel
theorem d_In_dotsOfLine_0 : decode prog_3_method_4_code 0 = .ok (.iload_n 0, 1) := by decide +kernel
theorem d_In_dotsOfLine_1 : decode prog_3_method_4_code 1 = .ok (.ifCond .ne 7, 3) := by decide +kernel
theorem d_In_dotsOfLine_4 : decode prog_3_method_4_code 4 = .ok (.ldc2_w 30, 3) := by decide +kernel
theorem d_In_dotsOfLine_7 : decode prog_3_method_4_code 7 = .ok (.lreturn, 1) := by decide +kernel
theorem d_In_dotsOfLine_8 : decode prog_3_method_4_code 8 = .ok (.iload_n 0, 1) := by decide +kernel
theorem d_In_dotsOfLine_9 : decode prog_3_method_4_code 9 = .ok (.iconst 1, 1) := by decide +kernel
theorem d_In_dotsOfLine_10 : decode prog_3_method_4_code 10 = .ok (.if_icmp .ne 5, 3) := by decide +kernel
theorem d_In_dotsOfLine_13 : decode prog_3_method_4_code 13 = .ok (.lconst 0, 1) := by decide +kernel
theorem d_In_dotsOfLine_14 : decode prog_3_method_4_code 14 = .ok (.lreturn, 1) := by decide +kernel
theorem d_In_dotsOfLine_15 : decode prog_3_method_4_code 15 = .ok (.lconst 0, 1) := by decide +kernel
theorem d_In_dotsOfLine_16 : decode prog_3_method_4_code 16 = .ok (.lstore_n 3, 1) := by decide +kernel
theorem d_In_dotsOfLine_17 : decode prog_3_method_4_code 17 = .ok (.iconst 0, 1) := by decide +kernel
theorem d_In_dotsOfLine_18 : decode prog_3_method_4_code 18 = .ok (.istore 5, 2) := by decide +kernel
theorem d_In_dotsOfLine_20 : decode prog_3_method_4_code 20 = .ok (.iload 5, 2) := by decide +kernel
theorem d_In_dotsOfLine_22 : decode prog_3_method_4_code 22 = .ok (.bipush 16, 2) := by decide +kernel
theorem d_In_dotsOfLine_24 : decode prog_3_method_4_code 24 = .ok (.if_icmp .ge 46, 3) := by decide +kernel
theorem d_In_dotsOfLine_27 : decode prog_3_method_4_code 27 = .ok (.iload_n 0, 1) := by decide +kernel
theorem d_In_dotsOfLine_28 : decode prog_3_method_4_code 28 = .ok (.iconst 2, 1) := by decide +kernel
theorem d_In_dotsOfLine_29 : decode prog_3_method_4_code 29 = .ok (.if_icmp .ne 16, 3) := by decide +kernel
theorem d_In_dotsOfLine_32 : decode prog_3_method_4_code 32 = .ok (.iload_n 1, 1) := by decide +kernel
theorem d_In_dotsOfLine_33 : decode prog_3_method_4_code 33 = .ok (.iload 5, 2) := by decide +kernel
theorem d_In_dotsOfLine_35 : decode prog_3_method_4_code 35 = .ok (.iload_n 2, 1) := by decide +kernel
theorem d_In_dotsOfLine_36 : decode prog_3_method_4_code 36 = .ok (.invokestatic 32, 3) := by decide +kernel
theorem d_In_dotsOfLine_39 : decode prog_3_method_4_code 39 = .ok (.ifCond .eq 25, 3) := by decide +kernel
theorem d_In_dotsOfLine_42 : decode prog_3_method_4_code 42 = .ok (.goto 13, 3) := by decide +kernel
theorem d_In_dotsOfLine_45 : decode prog_3_method_4_code 45 = .ok (.iload_n 1, 1) := by decide +kernel
theorem d_In_dotsOfLine_46 : decode prog_3_method_4_code 46 = .ok (.iload 5, 2) := by decide +kernel
theorem d_In_dotsOfLine_48 : decode prog_3_method_4_code 48 = .ok (.iload_n 2, 1) := by decide +kernel
theorem d_In_dotsOfLine_49 : decode prog_3_method_4_code 49 = .ok (.invokestatic 35, 3) := by decide +kernel
theorem d_In_dotsOfLine_52 : decode prog_3_method_4_code 52 = .ok (.ifCond .eq 12, 3) := by decide +kernel
theorem d_In_dotsOfLine_55 : decode prog_3_method_4_code 55 = .ok (.lload_n 3, 1) := by decide +kernel
theorem d_In_dotsOfLine_56 : decode prog_3_method_4_code 56 = .ok (.ldc2_w 38, 3) := by decide +kernel
theorem d_In_dotsOfLine_59 : decode prog_3_method_4_code 59 = .ok (.iload 5, 2) := by decide +kernel
theorem d_In_dotsOfLine_61 : decode prog_3_method_4_code 61 = .ok (.lushr, 1) := by decide +kernel
theorem d_In_dotsOfLine_62 : decode prog_3_method_4_code 62 = .ok (.lor, 1) := by decide +kernel
theorem d_In_dotsOfLine_63 : decode prog_3_method_4_code 63 = .ok (.lstore_n 3, 1) := by decide +kernel
theorem d_In_dotsOfLine_64 : decode prog_3_method_4_code 64 = .ok (.iinc 5 1, 3) := by decide +kernel
theorem d_In_dotsOfLine_67 : decode prog_3_method_4_code 67 = .ok (.goto (-47), 3) := by decide +kernel
theorem d_In_dotsOfLine_70 : decode prog_3_method_4_code 70 = .ok (.lload_n 3, 1) := by decide +kernel
theorem d_In_dotsOfLine_71 : decode prog_3_method_4_code 71 = .ok (.lload_n 3, 1) := by decide +kernel
theorem d_In_dotsOfLine_72 : decode prog_3_method_4_code 72 = .ok (.bipush 16, 2) := by decide +kernel
theorem d_In_dotsOfLine_74 : decode prog_3_method_4_code 74 = .ok (.lushr, 1) := by decide +kernel
theorem d_In_dotsOfLine_75 : decode prog_3_method_4_code 75 = .ok (.lor, 1) := by decide +kernel
theorem d_In_dotsOfLine_76 : decode prog_3_method_4_code 76 = .ok (.lstore_n 3, 1) := by decide +kernel
theorem d_In_dotsOfLine_77 : decode prog_3_method_4_code 77 = .ok (.lload_n 3, 1) := by decide +kernel
theorem d_In_dotsOfLine_78 : decode prog_3_method_4_code 78 = .ok (.lload_n 3, 1) := by decide +kernel
theorem d_In_dotsOfLine_79 : decode prog_3_method_4_code 79 = .ok (.bipush 32, 2) := by decide +kernel
theorem d_In_dotsOfLine_81 : decode prog_3_method_4_code 81 = .ok (.lushr, 1) := by decide +kernel
theorem d_In_dotsOfLine_82 : decode prog_3_method_4_code 82 = .ok (.lor, 1) := by decide +kernel
theorem d_In_dotsOfLine_83 : decode prog_3_method_4_code 83 = .ok (.lreturn, 1) := by decide +kernel
theorem d_In_isShaded_0 : decode prog_3_method_5_code 0 = .ok (.iconst 0, 1) := by decide +kernel
theorem d_In_isShaded_1 : decode prog_3_method_5_code 1 = .ok (.istore_n 3, 1) := by decide +kernel
theorem d_In_isShaded_2 : decode prog_3_method_5_code 2 = .ok (.iconst 0, 1) := by decide +kernel
theorem d_In_isShaded_3 : decode prog_3_method_5_code 3 = .ok (.istore 4, 2) := by decide +kernel
theorem d_In_isShaded_5 : decode prog_3_method_5_code 5 = .ok (.iload 4, 2) := by decide +kernel
theorem d_In_isShaded_7 : decode prog_3_method_5_code 7 = .ok (.iconst 3, 1) := by decide +kernel
theorem d_In_isShaded_8 : decode prog_3_method_5_code 8 = .ok (.if_icmp .ge 52, 3) := by decide +kernel
theorem d_In_isShaded_11 : decode prog_3_method_5_code 11 = .ok (.iload_n 1, 1) := by decide +kernel
theorem d_In_isShaded_12 : decode prog_3_method_5_code 12 = .ok (.iload 4, 2) := by decide +kernel
theorem d_In_isShaded_14 : decode prog_3_method_5_code 14 = .ok (.ishr, 1) := by decide +kernel
theorem d_In_isShaded_15 : decode prog_3_method_5_code 15 = .ok (.iconst 1, 1) := by decide +kernel
theorem d_In_isShaded_16 : decode prog_3_method_5_code 16 = .ok (.iand, 1) := by decide +kernel
theorem d_In_isShaded_17 : decode prog_3_method_5_code 17 = .ok (.istore 5, 2) := by decide +kernel
theorem d_In_isShaded_19 : decode prog_3_method_5_code 19 = .ok (.iload_n 2, 1) := by decide +kernel
theorem d_In_isShaded_20 : decode prog_3_method_5_code 20 = .ok (.iload 4, 2) := by decide +kernel
theorem d_In_isShaded_22 : decode prog_3_method_5_code 22 = .ok (.ishr, 1) := by decide +kernel
theorem d_In_isShaded_23 : decode prog_3_method_5_code 23 = .ok (.iconst 1, 1) := by decide +kernel
theorem d_In_isShaded_24 : decode prog_3_method_5_code 24 = .ok (.iand, 1) := by decide +kernel
theorem d_In_isShaded_25 : decode prog_3_method_5_code 25 = .ok (.istore 6, 2) := by decide +kernel
theorem d_In_isShaded_27 : decode prog_3_method_5_code 27 = .ok (.iload_n 3, 1) := by decide +kernel
theorem d_In_isShaded_28 : decode prog_3_method_5_code 28 = .ok (.bipush 32, 2) := by decide +kernel
theorem d_In_isShaded_30 : decode prog_3_method_5_code 30 = .ok (.iconst 2, 1) := by decide +kernel
theorem d_In_isShaded_31 : decode prog_3_method_5_code 31 = .ok (.iload 4, 2) := by decide +kernel
theorem d_In_isShaded_33 : decode prog_3_method_5_code 33 = .ok (.imul, 1) := by decide +kernel
theorem d_In_isShaded_34 : decode prog_3_method_5_code 34 = .ok (.ishr, 1) := by decide +kernel
theorem d_In_isShaded_35 : decode prog_3_method_5_code 35 = .ok (.iload 5, 2) := by decide +kernel
theorem d_In_isShaded_37 : decode prog_3_method_5_code 37 = .ok (.iload 6, 2) := by decide +kernel
theorem d_In_isShaded_39 : decode prog_3_method_5_code 39 = .ok (.ixor, 1) := by decide +kernel
theorem d_In_isShaded_40 : decode prog_3_method_5_code 40 = .ok (.imul, 1) := by decide +kernel
theorem d_In_isShaded_41 : decode prog_3_method_5_code 41 = .ok (.bipush 16, 2) := by decide +kernel
theorem d_In_isShaded_43 : decode prog_3_method_5_code 43 = .ok (.iconst 2, 1) := by decide +kernel
theorem d_In_isShaded_44 : decode prog_3_method_5_code 44 = .ok (.iload 4, 2) := by decide +kernel
theorem d_In_isShaded_46 : decode prog_3_method_5_code 46 = .ok (.imul, 1) := by decide +kernel
theorem d_In_isShaded_47 : decode prog_3_method_5_code 47 = .ok (.ishr, 1) := by decide +kernel
theorem d_In_isShaded_48 : decode prog_3_method_5_code 48 = .ok (.iload 6, 2) := by decide +kernel
theorem d_In_isShaded_50 : decode prog_3_method_5_code 50 = .ok (.imul, 1) := by decide +kernel
theorem d_In_isShaded_51 : decode prog_3_method_5_code 51 = .ok (.iadd, 1) := by decide +kernel
theorem d_In_isShaded_52 : decode prog_3_method_5_code 52 = .ok (.iadd, 1) := by decide +kernel
theorem d_In_isShaded_53 : decode prog_3_method_5_code 53 = .ok (.istore_n 3, 1) := by decide +kernel
theorem d_In_isShaded_54 : decode prog_3_method_5_code 54 = .ok (.iinc 4 1, 3) := by decide +kernel
theorem d_In_isShaded_57 : decode prog_3_method_5_code 57 = .ok (.goto (-52), 3) := by decide +kernel
theorem d_In_isShaded_60 : decode prog_3_method_5_code 60 = .ok (.iload_n 3, 1) := by decide +kernel
theorem d_In_isShaded_61 : decode prog_3_method_5_code 61 = .ok (.bipush 64, 2) := by decide +kernel
theorem d_In_isShaded_63 : decode prog_3_method_5_code 63 = .ok (.iload_n 0, 1) := by decide +kernel
theorem d_In_isShaded_64 : decode prog_3_method_5_code 64 = .ok (.imul, 1) := by decide +kernel
theorem d_In_isShaded_65 : decode prog_3_method_5_code 65 = .ok (.bipush 99, 2) := by decide +kernel
theorem d_In_isShaded_67 : decode prog_3_method_5_code 67 = .ok (.iadd, 1) := by decide +kernel
theorem d_In_isShaded_68 : decode prog_3_method_5_code 68 = .ok (.bipush 100, 2) := by decide +kernel
theorem d_In_isShaded_70 : decode prog_3_method_5_code 70 = .ok (.idiv, 1) := by decide +kernel
theorem d_In_isShaded_71 : decode prog_3_method_5_code 71 = .ok (.if_icmp .ge 7, 3) := by decide +kernel
theorem d_In_isShaded_74 : decode prog_3_method_5_code 74 = .ok (.iconst 1, 1) := by decide +kernel
theorem d_In_isShaded_75 : decode prog_3_method_5_code 75 = .ok (.goto 4, 3) := by decide +kernel
theorem d_In_isShaded_78 : decode prog_3_method_5_code 78 = .ok (.iconst 0, 1) := by decide +kernel
theorem d_In_isShaded_79 : decode prog_3_method_5_code 79 = .ok (.ireturn, 1) := by decide +kernel
theorem d_In_isHatched_0 : decode prog_3_method_6_code 0 = .ok (.iload_n 2, 1) := by decide +kernel
theorem d_In_isHatched_1 : decode prog_3_method_6_code 1 = .ok (.bipush 7, 2) := by decide +kernel
theorem d_In_isHatched_3 : decode prog_3_method_6_code 3 = .ok (.if_icmp .eq 9, 3) := by decide +kernel
theorem d_In_isHatched_6 : decode prog_3_method_6_code 6 = .ok (.iload_n 2, 1) := by decide +kernel
theorem d_In_isHatched_7 : decode prog_3_method_6_code 7 = .ok (.bipush 8, 2) := by decide +kernel
theorem d_In_isHatched_9 : decode prog_3_method_6_code 9 = .ok (.if_icmp .ne 7, 3) := by decide +kernel
theorem d_In_isHatched_12 : decode prog_3_method_6_code 12 = .ok (.iconst 1, 1) := by decide +kernel
theorem d_In_isHatched_13 : decode prog_3_method_6_code 13 = .ok (.goto 4, 3) := by decide +kernel
theorem d_In_isHatched_16 : decode prog_3_method_6_code 16 = .ok (.iconst 0, 1) := by decide +kernel
theorem d_In_isHatched_17 : decode prog_3_method_6_code 17 = .ok (.istore_n 3, 1) := by decide +kernel
theorem d_In_isHatched_18 : decode prog_3_method_6_code 18 = .ok (.iload_n 1, 1) := by decide +kernel
theorem d_In_isHatched_19 : decode prog_3_method_6_code 19 = .ok (.bipush 7, 2) := by decide +kernel
theorem d_In_isHatched_21 : decode prog_3_method_6_code 21 = .ok (.if_icmp .eq 9, 3) := by decide +kernel
theorem d_In_isHatched_24 : decode prog_3_method_6_code 24 = .ok (.iload_n 1, 1) := by decide +kernel
theorem d_In_isHatched_25 : decode prog_3_method_6_code 25 = .ok (.bipush 8, 2) := by decide +kernel
theorem d_In_isHatched_27 : decode prog_3_method_6_code 27 = .ok (.if_icmp .ne 7, 3) := by decide +kernel
theorem d_In_isHatched_30 : decode prog_3_method_6_code 30 = .ok (.iconst 1, 1) := by decide +kernel
theorem d_In_isHatched_31 : decode prog_3_method_6_code 31 = .ok (.goto 4, 3) := by decide +kernel
theorem d_In_isHatched_34 : decode prog_3_method_6_code 34 = .ok (.iconst 0, 1) := by decide +kernel
theorem d_In_isHatched_35 : decode prog_3_method_6_code 35 = .ok (.istore 4, 2) := by decide +kernel
theorem d_In_isHatched_37 : decode prog_3_method_6_code 37 = .ok (.iload_n 1, 1) := by decide +kernel
theorem d_In_isHatched_38 : decode prog_3_method_6_code 38 = .ok (.iload_n 2, 1) := by decide +kernel
theorem d_In_isHatched_39 : decode prog_3_method_6_code 39 = .ok (.iadd, 1) := by decide +kernel
theorem d_In_isHatched_40 : decode prog_3_method_6_code 40 = .ok (.bipush 16, 2) := by decide +kernel
theorem d_In_isHatched_42 : decode prog_3_method_6_code 42 = .ok (.irem, 1) := by decide +kernel
theorem d_In_isHatched_43 : decode prog_3_method_6_code 43 = .ok (.iconst 2, 1) := by decide +kernel
theorem d_In_isHatched_44 : decode prog_3_method_6_code 44 = .ok (.if_icmp .ge 7, 3) := by decide +kernel
theorem d_In_isHatched_47 : decode prog_3_method_6_code 47 = .ok (.iconst 1, 1) := by decide +kernel
theorem d_In_isHatched_48 : decode prog_3_method_6_code 48 = .ok (.goto 4, 3) := by decide +kernel
theorem d_In_isHatched_51 : decode prog_3_method_6_code 51 = .ok (.iconst 0, 1) := by decide +kernel
theorem d_In_isHatched_52 : decode prog_3_method_6_code 52 = .ok (.istore 5, 2) := by decide +kernel
theorem d_In_isHatched_54 : decode prog_3_method_6_code 54 = .ok (.iload_n 1, 1) := by decide +kernel
theorem d_In_isHatched_55 : decode prog_3_method_6_code 55 = .ok (.iload_n 2, 1) := by decide +kernel
theorem d_In_isHatched_56 : decode prog_3_method_6_code 56 = .ok (.isub, 1) := by decide +kernel
theorem d_In_isHatched_57 : decode prog_3_method_6_code 57 = .ok (.bipush 16, 2) := by decide +kernel
theorem d_In_isHatched_59 : decode prog_3_method_6_code 59 = .ok (.iadd, 1) := by decide +kernel
theorem d_In_isHatched_60 : decode prog_3_method_6_code 60 = .ok (.bipush 16, 2) := by decide +kernel
theorem d_In_isHatched_62 : decode prog_3_method_6_code 62 = .ok (.irem, 1) := by decide +kernel
theorem d_In_isHatched_63 : decode prog_3_method_6_code 63 = .ok (.iconst 2, 1) := by decide +kernel
theorem d_In_isHatched_64 : decode prog_3_method_6_code 64 = .ok (.if_icmp .ge 7, 3) := by decide +kernel
theorem d_In_isHatched_67 : decode prog_3_method_6_code 67 = .ok (.iconst 1, 1) := by decide +kernel
theorem d_In_isHatched_68 : decode prog_3_method_6_code 68 = .ok (.goto 4, 3) := by decide +kernel
theorem d_In_isHatched_71 : decode prog_3_method_6_code 71 = .ok (.iconst 0, 1) := by decide +kernel
theorem d_In_isHatched_72 : decode prog_3_method_6_code 72 = .ok (.istore 6, 2) := by decide +kernel
theorem d_In_isHatched_74 : decode prog_3_method_6_code 74 = .ok (.iload_n 0, 1) := by decide +kernel
theorem d_In_isHatched_75 : decode prog_3_method_6_code 75 = .ok (.tableswitch 79 1 6 #[37, 39, 42, 45, 48, 63], 37) := by decide +kernel
theorem d_In_isHatched_112 : decode prog_3_method_6_code 112 = .ok (.iload_n 3, 1) := by decide +kernel
theorem d_In_isHatched_113 : decode prog_3_method_6_code 113 = .ok (.ireturn, 1) := by decide +kernel
theorem d_In_isHatched_114 : decode prog_3_method_6_code 114 = .ok (.iload 4, 2) := by decide +kernel
theorem d_In_isHatched_116 : decode prog_3_method_6_code 116 = .ok (.ireturn, 1) := by decide +kernel
theorem d_In_isHatched_117 : decode prog_3_method_6_code 117 = .ok (.iload 5, 2) := by decide +kernel
theorem d_In_isHatched_119 : decode prog_3_method_6_code 119 = .ok (.ireturn, 1) := by decide +kernel
theorem d_In_isHatched_120 : decode prog_3_method_6_code 120 = .ok (.iload 6, 2) := by decide +kernel
theorem d_In_isHatched_122 : decode prog_3_method_6_code 122 = .ok (.ireturn, 1) := by decide +kernel
theorem d_In_isHatched_123 : decode prog_3_method_6_code 123 = .ok (.iload_n 3, 1) := by decide +kernel
theorem d_In_isHatched_124 : decode prog_3_method_6_code 124 = .ok (.ifCond .ne 8, 3) := by decide +kernel
theorem d_In_isHatched_127 : decode prog_3_method_6_code 127 = .ok (.iload 4, 2) := by decide +kernel
theorem d_In_isHatched_129 : decode prog_3_method_6_code 129 = .ok (.ifCond .eq 7, 3) := by decide +kernel
theorem d_In_isHatched_132 : decode prog_3_method_6_code 132 = .ok (.iconst 1, 1) := by decide +kernel
theorem d_In_isHatched_133 : decode prog_3_method_6_code 133 = .ok (.goto 4, 3) := by decide +kernel
theorem d_In_isHatched_136 : decode prog_3_method_6_code 136 = .ok (.iconst 0, 1) := by decide +kernel
theorem d_In_isHatched_137 : decode prog_3_method_6_code 137 = .ok (.ireturn, 1) := by decide +kernel
theorem d_In_isHatched_138 : decode prog_3_method_6_code 138 = .ok (.iload 5, 2) := by decide +kernel
theorem d_In_isHatched_140 : decode prog_3_method_6_code 140 = .ok (.ifCond .ne 8, 3) := by decide +kernel
theorem d_In_isHatched_143 : decode prog_3_method_6_code 143 = .ok (.iload 6, 2) := by decide +kernel
theorem d_In_isHatched_145 : decode prog_3_method_6_code 145 = .ok (.ifCond .eq 7, 3) := by decide +kernel
theorem d_In_isHatched_148 : decode prog_3_method_6_code 148 = .ok (.iconst 1, 1) := by decide +kernel
theorem d_In_isHatched_149 : decode prog_3_method_6_code 149 = .ok (.goto 4, 3) := by decide +kernel
theorem d_In_isHatched_152 : decode prog_3_method_6_code 152 = .ok (.iconst 0, 1) := by decide +kernel
theorem d_In_isHatched_153 : decode prog_3_method_6_code 153 = .ok (.ireturn, 1) := by decide +kernel
theorem d_In_isHatched_154 : decode prog_3_method_6_code 154 = .ok (.iconst 0, 1) := by decide +kernel
theorem d_In_isHatched_155 : decode prog_3_method_6_code 155 = .ok (.ireturn, 1) := by decide +kernel
theorem d_Mk_init_0 : decode prog_4_method_1_code 0 = .ok (.aload_n 0, 1) := by decide +kernel
theorem d_Mk_init_1 : decode prog_4_method_1_code 1 = .ok (.invokespecial 1, 3) := by decide +kernel
theorem d_Mk_init_4 : decode prog_4_method_1_code 4 = .ok (.aload_n 0, 1) := by decide +kernel
theorem d_Mk_init_5 : decode prog_4_method_1_code 5 = .ok (.aload_n 1, 1) := by decide +kernel
theorem d_Mk_init_6 : decode prog_4_method_1_code 6 = .ok (.putfield 7, 3) := by decide +kernel
theorem d_Mk_init_9 : decode prog_4_method_1_code 9 = .ok (.aload_n 0, 1) := by decide +kernel
theorem d_Mk_init_10 : decode prog_4_method_1_code 10 = .ok (.iload_n 2, 1) := by decide +kernel
theorem d_Mk_init_11 : decode prog_4_method_1_code 11 = .ok (.putfield 13, 3) := by decide +kernel
theorem d_Mk_init_14 : decode prog_4_method_1_code 14 = .ok (.aload_n 0, 1) := by decide +kernel
theorem d_Mk_init_15 : decode prog_4_method_1_code 15 = .ok (.iload_n 3, 1) := by decide +kernel
theorem d_Mk_init_16 : decode prog_4_method_1_code 16 = .ok (.putfield 17, 3) := by decide +kernel
theorem d_Mk_init_19 : decode prog_4_method_1_code 19 = .ok (.aload_n 0, 1) := by decide +kernel
theorem d_Mk_init_20 : decode prog_4_method_1_code 20 = .ok (.aload 4, 2) := by decide +kernel
theorem d_Mk_init_22 : decode prog_4_method_1_code 22 = .ok (.putfield 20, 3) := by decide +kernel
theorem d_Mk_init_25 : decode prog_4_method_1_code 25 = .ok (.aload_n 0, 1) := by decide +kernel
theorem d_Mk_init_26 : decode prog_4_method_1_code 26 = .ok (.aload 5, 2) := by decide +kernel
theorem d_Mk_init_28 : decode prog_4_method_1_code 28 = .ok (.putfield 24, 3) := by decide +kernel
theorem d_Mk_init_31 : decode prog_4_method_1_code 31 = .ok (.aload_n 0, 1) := by decide +kernel
theorem d_Mk_init_32 : decode prog_4_method_1_code 32 = .ok (.iload 6, 2) := by decide +kernel
theorem d_Mk_init_34 : decode prog_4_method_1_code 34 = .ok (.putfield 28, 3) := by decide +kernel
theorem d_Mk_init_37 : decode prog_4_method_1_code 37 = .ok (.aload_n 0, 1) := by decide +kernel
theorem d_Mk_init_38 : decode prog_4_method_1_code 38 = .ok (.iload 7, 2) := by decide +kernel
theorem d_Mk_init_40 : decode prog_4_method_1_code 40 = .ok (.putfield 32, 3) := by decide +kernel
theorem d_Mk_init_43 : decode prog_4_method_1_code 43 = .ok (.return_, 1) := by decide +kernel
theorem d_Pc_init_0 : decode prog_5_method_1_code 0 = .ok (.aload_n 0, 1) := by decide +kernel
theorem d_Pc_init_1 : decode prog_5_method_1_code 1 = .ok (.invokespecial 3, 3) := by decide +kernel
theorem d_Pc_init_4 : decode prog_5_method_1_code 4 = .ok (.aload_n 0, 1) := by decide +kernel
theorem d_Pc_init_5 : decode prog_5_method_1_code 5 = .ok (.iconst 1, 1) := by decide +kernel
theorem d_Pc_init_6 : decode prog_5_method_1_code 6 = .ok (.iload_n 1, 1) := by decide +kernel
theorem d_Pc_init_7 : decode prog_5_method_1_code 7 = .ok (.invokestatic 9, 3) := by decide +kernel
theorem d_Pc_init_10 : decode prog_5_method_1_code 10 = .ok (.putfield 15, 3) := by decide +kernel
theorem d_Pc_init_13 : decode prog_5_method_1_code 13 = .ok (.aload_n 0, 1) := by decide +kernel
theorem d_Pc_init_14 : decode prog_5_method_1_code 14 = .ok (.iconst 1, 1) := by decide +kernel
theorem d_Pc_init_15 : decode prog_5_method_1_code 15 = .ok (.iload_n 2, 1) := by decide +kernel
theorem d_Pc_init_16 : decode prog_5_method_1_code 16 = .ok (.invokestatic 9, 3) := by decide +kernel
theorem d_Pc_init_19 : decode prog_5_method_1_code 19 = .ok (.putfield 21, 3) := by decide +kernel
theorem d_Pc_init_22 : decode prog_5_method_1_code 22 = .ok (.aload_n 0, 1) := by decide +kernel
theorem d_Pc_init_23 : decode prog_5_method_1_code 23 = .ok (.iconst 1, 1) := by decide +kernel
theorem d_Pc_init_24 : decode prog_5_method_1_code 24 = .ok (.iload_n 3, 1) := by decide +kernel
theorem d_Pc_init_25 : decode prog_5_method_1_code 25 = .ok (.invokestatic 9, 3) := by decide +kernel
theorem d_Pc_init_28 : decode prog_5_method_1_code 28 = .ok (.putfield 24, 3) := by decide +kernel
theorem d_Pc_init_31 : decode prog_5_method_1_code 31 = .ok (.aload_n 0, 1) := by decide +kernel
theorem d_Pc_init_32 : decode prog_5_method_1_code 32 = .ok (.aload_n 0, 1) := by decide +kernel
theorem d_Pc_init_33 : decode prog_5_method_1_code 33 = .ok (.getfield 15, 3) := by decide +kernel
theorem d_Pc_init_36 : decode prog_5_method_1_code 36 = .ok (.bipush 64, 2) := by decide +kernel
theorem d_Pc_init_38 : decode prog_5_method_1_code 38 = .ok (.iadd, 1) := by decide +kernel
theorem d_Pc_init_39 : decode prog_5_method_1_code 39 = .ok (.iconst 1, 1) := by decide +kernel
theorem d_Pc_init_40 : decode prog_5_method_1_code 40 = .ok (.isub, 1) := by decide +kernel
theorem d_Pc_init_41 : decode prog_5_method_1_code 41 = .ok (.bipush 64, 2) := by decide +kernel
theorem d_Pc_init_43 : decode prog_5_method_1_code 43 = .ok (.idiv, 1) := by decide +kernel
theorem d_Pc_init_44 : decode prog_5_method_1_code 44 = .ok (.putfield 27, 3) := by decide +kernel
theorem d_Pc_init_47 : decode prog_5_method_1_code 47 = .ok (.aload_n 0, 1) := by decide +kernel
theorem d_Pc_init_48 : decode prog_5_method_1_code 48 = .ok (.aload_n 0, 1) := by decide +kernel
theorem d_Pc_init_49 : decode prog_5_method_1_code 49 = .ok (.getfield 27, 3) := by decide +kernel
theorem d_Pc_init_52 : decode prog_5_method_1_code 52 = .ok (.aload_n 0, 1) := by decide +kernel
theorem d_Pc_init_53 : decode prog_5_method_1_code 53 = .ok (.getfield 21, 3) := by decide +kernel
theorem d_Pc_init_56 : decode prog_5_method_1_code 56 = .ok (.imul, 1) := by decide +kernel
theorem d_Pc_init_57 : decode prog_5_method_1_code 57 = .ok (.newarray .long, 2) := by decide +kernel
theorem d_Pc_init_59 : decode prog_5_method_1_code 59 = .ok (.putfield 30, 3) := by decide +kernel
theorem d_Pc_init_62 : decode prog_5_method_1_code 62 = .ok (.return_, 1) := by decide +kernel
theorem d_Pc_setDots_0 : decode prog_5_method_2_code 0 = .ok (.aload_n 0, 1) := by decide +kernel
theorem d_Pc_setDots_1 : decode prog_5_method_2_code 1 = .ok (.iload_n 1, 1) := by decide +kernel
theorem d_Pc_setDots_2 : decode prog_5_method_2_code 2 = .ok (.iconst 0, 1) := by decide +kernel
theorem d_Pc_setDots_3 : decode prog_5_method_2_code 3 = .ok (.lload_n 2, 1) := by decide +kernel
theorem d_Pc_setDots_4 : decode prog_5_method_2_code 4 = .ok (.aload_n 0, 1) := by decide +kernel
theorem d_Pc_setDots_5 : decode prog_5_method_2_code 5 = .ok (.getfield 15, 3) := by decide +kernel
theorem d_Pc_setDots_8 : decode prog_5_method_2_code 8 = .ok (.invokestatic 34, 3) := by decide +kernel
theorem d_Pc_setDots_11 : decode prog_5_method_2_code 11 = .ok (.land, 1) := by decide +kernel
theorem d_Pc_setDots_12 : decode prog_5_method_2_code 12 = .ok (.invokevirtual 38, 3) := by decide +kernel
theorem d_Pc_setDots_15 : decode prog_5_method_2_code 15 = .ok (.aload_n 0, 1) := by decide +kernel
theorem d_Pc_setDots_16 : decode prog_5_method_2_code 16 = .ok (.iload_n 1, 1) := by decide +kernel
theorem d_Pc_setDots_17 : decode prog_5_method_2_code 17 = .ok (.iconst 1, 1) := by decide +kernel
theorem d_Pc_setDots_18 : decode prog_5_method_2_code 18 = .ok (.lload 4, 2) := by decide +kernel
theorem d_Pc_setDots_20 : decode prog_5_method_2_code 20 = .ok (.aload_n 0, 1) := by decide +kernel
theorem d_Pc_setDots_21 : decode prog_5_method_2_code 21 = .ok (.getfield 15, 3) := by decide +kernel
theorem d_Pc_setDots_24 : decode prog_5_method_2_code 24 = .ok (.bipush 64, 2) := by decide +kernel
theorem d_Pc_setDots_26 : decode prog_5_method_2_code 26 = .ok (.isub, 1) := by decide +kernel
theorem d_Pc_setDots_27 : decode prog_5_method_2_code 27 = .ok (.invokestatic 34, 3) := by decide +kernel
theorem d_Pc_setDots_30 : decode prog_5_method_2_code 30 = .ok (.land, 1) := by decide +kernel
theorem d_Pc_setDots_31 : decode prog_5_method_2_code 31 = .ok (.invokevirtual 38, 3) := by decide +kernel
theorem d_Pc_setDots_34 : decode prog_5_method_2_code 34 = .ok (.return_, 1) := by decide +kernel
theorem d_Pc_blacks_0 : decode prog_5_method_3_code 0 = .ok (.iconst 0, 1) := by decide +kernel
theorem d_Pc_blacks_1 : decode prog_5_method_3_code 1 = .ok (.istore_n 1, 1) := by decide +kernel
theorem d_Pc_blacks_2 : decode prog_5_method_3_code 2 = .ok (.iconst 0, 1) := by decide +kernel
theorem d_Pc_blacks_3 : decode prog_5_method_3_code 3 = .ok (.istore_n 2, 1) := by decide +kernel
theorem d_Pc_blacks_4 : decode prog_5_method_3_code 4 = .ok (.iload_n 2, 1) := by decide +kernel
theorem d_Pc_blacks_5 : decode prog_5_method_3_code 5 = .ok (.aload_n 0, 1) := by decide +kernel
theorem d_Pc_blacks_6 : decode prog_5_method_3_code 6 = .ok (.getfield 30, 3) := by decide +kernel
theorem d_Pc_blacks_9 : decode prog_5_method_3_code 9 = .ok (.arraylength, 1) := by decide +kernel
theorem d_Pc_blacks_10 : decode prog_5_method_3_code 10 = .ok (.if_icmp .ge 21, 3) := by decide +kernel
theorem d_Pc_blacks_13 : decode prog_5_method_3_code 13 = .ok (.iload_n 1, 1) := by decide +kernel
theorem d_Pc_blacks_14 : decode prog_5_method_3_code 14 = .ok (.aload_n 0, 1) := by decide +kernel
theorem d_Pc_blacks_15 : decode prog_5_method_3_code 15 = .ok (.getfield 30, 3) := by decide +kernel
theorem d_Pc_blacks_18 : decode prog_5_method_3_code 18 = .ok (.iload_n 2, 1) := by decide +kernel
theorem d_Pc_blacks_19 : decode prog_5_method_3_code 19 = .ok (.laload, 1) := by decide +kernel
theorem d_Pc_blacks_20 : decode prog_5_method_3_code 20 = .ok (.invokestatic 42, 3) := by decide +kernel
theorem d_Pc_blacks_23 : decode prog_5_method_3_code 23 = .ok (.iadd, 1) := by decide +kernel
theorem d_Pc_blacks_24 : decode prog_5_method_3_code 24 = .ok (.istore_n 1, 1) := by decide +kernel
theorem d_Pc_blacks_25 : decode prog_5_method_3_code 25 = .ok (.iinc 2 1, 3) := by decide +kernel
theorem d_Pc_blacks_28 : decode prog_5_method_3_code 28 = .ok (.goto (-24), 3) := by decide +kernel
theorem d_Pc_blacks_31 : decode prog_5_method_3_code 31 = .ok (.iload_n 1, 1) := by decide +kernel
theorem d_Pc_blacks_32 : decode prog_5_method_3_code 32 = .ok (.ireturn, 1) := by decide +kernel
theorem d_Pc_dotsFrom_0 : decode prog_5_method_4_code 0 = .ok (.aload_n 0, 1) := by decide +kernel
theorem d_Pc_dotsFrom_1 : decode prog_5_method_4_code 1 = .ok (.getfield 24, 3) := by decide +kernel
theorem d_Pc_dotsFrom_4 : decode prog_5_method_4_code 4 = .ok (.iconst 1, 1) := by decide +kernel
theorem d_Pc_dotsFrom_5 : decode prog_5_method_4_code 5 = .ok (.if_icmp .le 12, 3) := by decide +kernel
theorem d_Pc_dotsFrom_8 : decode prog_5_method_4_code 8 = .ok (.iload_n 1, 1) := by decide +kernel
theorem d_Pc_dotsFrom_9 : decode prog_5_method_4_code 9 = .ok (.aload_n 0, 1) := by decide +kernel
theorem d_Pc_dotsFrom_10 : decode prog_5_method_4_code 10 = .ok (.getfield 24, 3) := by decide +kernel
theorem d_Pc_dotsFrom_13 : decode prog_5_method_4_code 13 = .ok (.idiv, 1) := by decide +kernel
theorem d_Pc_dotsFrom_14 : decode prog_5_method_4_code 14 = .ok (.goto 4, 3) := by decide +kernel
theorem d_Pc_dotsFrom_17 : decode prog_5_method_4_code 17 = .ok (.iload_n 1, 1) := by decide +kernel
theorem d_Pc_dotsFrom_18 : decode prog_5_method_4_code 18 = .ok (.istore_n 3, 1) := by decide +kernel
theorem d_Pc_dotsFrom_19 : decode prog_5_method_4_code 19 = .ok (.iload_n 2, 1) := by decide +kernel
theorem d_Pc_dotsFrom_20 : decode prog_5_method_4_code 20 = .ok (.bipush 64, 2) := by decide +kernel
theorem d_Pc_dotsFrom_22 : decode prog_5_method_4_code 22 = .ok (.invokestatic 48, 3) := by decide +kernel
theorem d_Pc_dotsFrom_25 : decode prog_5_method_4_code 25 = .ok (.istore 4, 2) := by decide +kernel
theorem d_Pc_dotsFrom_27 : decode prog_5_method_4_code 27 = .ok (.iload_n 2, 1) := by decide +kernel
theorem d_Pc_dotsFrom_28 : decode prog_5_method_4_code 28 = .ok (.bipush 64, 2) := by decide +kernel
theorem d_Pc_dotsFrom_30 : decode prog_5_method_4_code 30 = .ok (.invokestatic 51, 3) := by decide +kernel
theorem d_Pc_dotsFrom_33 : decode prog_5_method_4_code 33 = .ok (.istore 5, 2) := by decide +kernel
theorem d_Pc_dotsFrom_35 : decode prog_5_method_4_code 35 = .ok (.aload_n 0, 1) := by decide +kernel
theorem d_Pc_dotsFrom_36 : decode prog_5_method_4_code 36 = .ok (.iload_n 3, 1) := by decide +kernel
theorem d_Pc_dotsFrom_37 : decode prog_5_method_4_code 37 = .ok (.iload 4, 2) := by decide +kernel
theorem d_Pc_dotsFrom_39 : decode prog_5_method_4_code 39 = .ok (.invokevirtual 54, 3) := by decide +kernel
theorem d_Pc_dotsFrom_42 : decode prog_5_method_4_code 42 = .ok (.iload 5, 2) := by decide +kernel
theorem d_Pc_dotsFrom_44 : decode prog_5_method_4_code 44 = .ok (.lshl, 1) := by decide +kernel
theorem d_Pc_dotsFrom_45 : decode prog_5_method_4_code 45 = .ok (.lstore 6, 2) := by decide +kernel
theorem d_Pc_dotsFrom_47 : decode prog_5_method_4_code 47 = .ok (.iload 5, 2) := by decide +kernel
theorem d_Pc_dotsFrom_49 : decode prog_5_method_4_code 49 = .ok (.ifCond .ne 8, 3) := by decide +kernel
theorem d_Pc_dotsFrom_52 : decode prog_5_method_4_code 52 = .ok (.lload 6, 2) := by decide +kernel
theorem d_Pc_dotsFrom_54 : decode prog_5_method_4_code 54 = .ok (.goto 21, 3) := by decide +kernel
theorem d_Pc_dotsFrom_57 : decode prog_5_method_4_code 57 = .ok (.lload 6, 2) := by decide +kernel
theorem d_Pc_dotsFrom_59 : decode prog_5_method_4_code 59 = .ok (.aload_n 0, 1) := by decide +kernel
theorem d_Pc_dotsFrom_60 : decode prog_5_method_4_code 60 = .ok (.iload_n 3, 1) := by decide +kernel
theorem d_Pc_dotsFrom_61 : decode prog_5_method_4_code 61 = .ok (.iload 4, 2) := by decide +kernel
theorem d_Pc_dotsFrom_63 : decode prog_5_method_4_code 63 = .ok (.iconst 1, 1) := by decide +kernel
theorem d_Pc_dotsFrom_64 : decode prog_5_method_4_code 64 = .ok (.iadd, 1) := by decide +kernel
theorem d_Pc_dotsFrom_65 : decode prog_5_method_4_code 65 = .ok (.invokevirtual 54, 3) := by decide +kernel
theorem d_Pc_dotsFrom_68 : decode prog_5_method_4_code 68 = .ok (.bipush 64, 2) := by decide +kernel
theorem d_Pc_dotsFrom_70 : decode prog_5_method_4_code 70 = .ok (.iload 5, 2) := by decide +kernel
theorem d_Pc_dotsFrom_72 : decode prog_5_method_4_code 72 = .ok (.isub, 1) := by decide +kernel
theorem d_Pc_dotsFrom_73 : decode prog_5_method_4_code 73 = .ok (.lushr, 1) := by decide +kernel
theorem d_Pc_dotsFrom_74 : decode prog_5_method_4_code 74 = .ok (.lor, 1) := by decide +kernel
theorem d_Pc_dotsFrom_75 : decode prog_5_method_4_code 75 = .ok (.lreturn, 1) := by decide +kernel
theorem d_Pc_turnedBy_0 : decode prog_5_method_5_code 0 = .ok (.iload_n 1, 1) := by decide +kernel
theorem d_Pc_turnedBy_1 : decode prog_5_method_5_code 1 = .ok (.ifCond .ne 5, 3) := by decide +kernel
theorem d_Pc_turnedBy_4 : decode prog_5_method_5_code 4 = .ok (.aload_n 0, 1) := by decide +kernel
theorem d_Pc_turnedBy_5 : decode prog_5_method_5_code 5 = .ok (.areturn, 1) := by decide +kernel
theorem d_Pc_turnedBy_6 : decode prog_5_method_5_code 6 = .ok (.iload_n 1, 1) := by decide +kernel
theorem d_Pc_turnedBy_7 : decode prog_5_method_5_code 7 = .ok (.iconst 2, 1) := by decide +kernel
theorem d_Pc_turnedBy_8 : decode prog_5_method_5_code 8 = .ok (.if_icmp .ne 25, 3) := by decide +kernel
theorem d_Pc_turnedBy_11 : decode prog_5_method_5_code 11 = .ok (.new 16, 3) := by decide +kernel
theorem d_Pc_turnedBy_14 : decode prog_5_method_5_code 14 = .ok (.dup, 1) := by decide +kernel
theorem d_Pc_turnedBy_15 : decode prog_5_method_5_code 15 = .ok (.aload_n 0, 1) := by decide +kernel
theorem d_Pc_turnedBy_16 : decode prog_5_method_5_code 16 = .ok (.getfield 15, 3) := by decide +kernel
theorem d_Pc_turnedBy_19 : decode prog_5_method_5_code 19 = .ok (.aload_n 0, 1) := by decide +kernel
theorem d_Pc_turnedBy_20 : decode prog_5_method_5_code 20 = .ok (.getfield 21, 3) := by decide +kernel
theorem d_Pc_turnedBy_23 : decode prog_5_method_5_code 23 = .ok (.aload_n 0, 1) := by decide +kernel
theorem d_Pc_turnedBy_24 : decode prog_5_method_5_code 24 = .ok (.getfield 24, 3) := by decide +kernel
theorem d_Pc_turnedBy_27 : decode prog_5_method_5_code 27 = .ok (.invokespecial 58, 3) := by decide +kernel
theorem d_Pc_turnedBy_30 : decode prog_5_method_5_code 30 = .ok (.goto 22, 3) := by decide +kernel
theorem d_Pc_turnedBy_33 : decode prog_5_method_5_code 33 = .ok (.new 16, 3) := by decide +kernel
theorem d_Pc_turnedBy_36 : decode prog_5_method_5_code 36 = .ok (.dup, 1) := by decide +kernel
theorem d_Pc_turnedBy_37 : decode prog_5_method_5_code 37 = .ok (.aload_n 0, 1) := by decide +kernel
theorem d_Pc_turnedBy_38 : decode prog_5_method_5_code 38 = .ok (.getfield 21, 3) := by decide +kernel
theorem d_Pc_turnedBy_41 : decode prog_5_method_5_code 41 = .ok (.aload_n 0, 1) := by decide +kernel
theorem d_Pc_turnedBy_42 : decode prog_5_method_5_code 42 = .ok (.getfield 15, 3) := by decide +kernel
theorem d_Pc_turnedBy_45 : decode prog_5_method_5_code 45 = .ok (.aload_n 0, 1) := by decide +kernel
theorem d_Pc_turnedBy_46 : decode prog_5_method_5_code 46 = .ok (.getfield 24, 3) := by decide +kernel
theorem d_Pc_turnedBy_49 : decode prog_5_method_5_code 49 = .ok (.invokespecial 58, 3) := by decide +kernel
theorem d_Pc_turnedBy_52 : decode prog_5_method_5_code 52 = .ok (.astore_n 2, 1) := by decide +kernel
theorem d_Pc_turnedBy_53 : decode prog_5_method_5_code 53 = .ok (.iconst 0, 1) := by decide +kernel
theorem d_Pc_turnedBy_54 : decode prog_5_method_5_code 54 = .ok (.istore_n 3, 1) := by decide +kernel
theorem d_Pc_turnedBy_55 : decode prog_5_method_5_code 55 = .ok (.iload_n 3, 1) := by decide +kernel
theorem d_Pc_turnedBy_56 : decode prog_5_method_5_code 56 = .ok (.aload_n 0, 1) := by decide +kernel
theorem d_Pc_turnedBy_57 : decode prog_5_method_5_code 57 = .ok (.getfield 21, 3) := by decide +kernel
theorem d_Pc_turnedBy_60 : decode prog_5_method_5_code 60 = .ok (.if_icmp .ge 45, 3) := by decide +kernel
theorem d_Pc_turnedBy_63 : decode prog_5_method_5_code 63 = .ok (.iconst 0, 1) := by decide +kernel
theorem d_Pc_turnedBy_64 : decode prog_5_method_5_code 64 = .ok (.istore 4, 2) := by decide +kernel
theorem d_Pc_turnedBy_66 : decode prog_5_method_5_code 66 = .ok (.iload 4, 2) := by decide +kernel
theorem d_Pc_turnedBy_68 : decode prog_5_method_5_code 68 = .ok (.aload_n 0, 1) := by decide +kernel
theorem d_Pc_turnedBy_69 : decode prog_5_method_5_code 69 = .ok (.getfield 15, 3) := by decide +kernel
theorem d_Pc_turnedBy_72 : decode prog_5_method_5_code 72 = .ok (.if_icmp .ge 27, 3) := by decide +kernel
theorem d_Pc_turnedBy_75 : decode prog_5_method_5_code 75 = .ok (.aload_n 0, 1) := by decide +kernel
theorem d_Pc_turnedBy_76 : decode prog_5_method_5_code 76 = .ok (.iload 4, 2) := by decide +kernel
theorem d_Pc_turnedBy_78 : decode prog_5_method_5_code 78 = .ok (.iload_n 3, 1) := by decide +kernel
theorem d_Pc_turnedBy_79 : decode prog_5_method_5_code 79 = .ok (.invokevirtual 61, 3) := by decide +kernel
theorem d_Pc_turnedBy_82 : decode prog_5_method_5_code 82 = .ok (.ifCond .eq 11, 3) := by decide +kernel
theorem d_Pc_turnedBy_85 : decode prog_5_method_5_code 85 = .ok (.aload_n 2, 1) := by decide +kernel
theorem d_Pc_turnedBy_86 : decode prog_5_method_5_code 86 = .ok (.iload_n 1, 1) := by decide +kernel
theorem d_Pc_turnedBy_87 : decode prog_5_method_5_code 87 = .ok (.iload 4, 2) := by decide +kernel
theorem d_Pc_turnedBy_89 : decode prog_5_method_5_code 89 = .ok (.iload_n 3, 1) := by decide +kernel
theorem d_Pc_turnedBy_90 : decode prog_5_method_5_code 90 = .ok (.invokevirtual 65, 3) := by decide +kernel
theorem d_Pc_turnedBy_93 : decode prog_5_method_5_code 93 = .ok (.iinc 4 1, 3) := by decide +kernel
theorem d_Pc_turnedBy_96 : decode prog_5_method_5_code 96 = .ok (.goto (-30), 3) := by decide +kernel
theorem d_Pc_turnedBy_99 : decode prog_5_method_5_code 99 = .ok (.iinc 3 1, 3) := by decide +kernel
theorem d_Pc_turnedBy_102 : decode prog_5_method_5_code 102 = .ok (.goto (-47), 3) := by decide +kernel
theorem d_Pc_turnedBy_105 : decode prog_5_method_5_code 105 = .ok (.aload_n 2, 1) := by decide +kernel
theorem d_Pc_turnedBy_106 : decode prog_5_method_5_code 106 = .ok (.areturn, 1) := by decide +kernel
theorem d_Pc_enlarged_0 : decode prog_5_method_6_code 0 = .ok (.new 16, 3) := by decide +kernel
theorem d_Pc_enlarged_3 : decode prog_5_method_6_code 3 = .ok (.dup, 1) := by decide +kernel
theorem d_Pc_enlarged_4 : decode prog_5_method_6_code 4 = .ok (.aload_n 0, 1) := by decide +kernel
theorem d_Pc_enlarged_5 : decode prog_5_method_6_code 5 = .ok (.getfield 15, 3) := by decide +kernel
theorem d_Pc_enlarged_8 : decode prog_5_method_6_code 8 = .ok (.iload_n 1, 1) := by decide +kernel
theorem d_Pc_enlarged_9 : decode prog_5_method_6_code 9 = .ok (.imul, 1) := by decide +kernel
theorem d_Pc_enlarged_10 : decode prog_5_method_6_code 10 = .ok (.aload_n 0, 1) := by decide +kernel
theorem d_Pc_enlarged_11 : decode prog_5_method_6_code 11 = .ok (.getfield 21, 3) := by decide +kernel
theorem d_Pc_enlarged_14 : decode prog_5_method_6_code 14 = .ok (.iload_n 1, 1) := by decide +kernel
theorem d_Pc_enlarged_15 : decode prog_5_method_6_code 15 = .ok (.invokespecial 58, 3) := by decide +kernel
theorem d_Pc_enlarged_18 : decode prog_5_method_6_code 18 = .ok (.astore_n 2, 1) := by decide +kernel
theorem d_Pc_enlarged_19 : decode prog_5_method_6_code 19 = .ok (.iconst 0, 1) := by decide +kernel
theorem d_Pc_enlarged_20 : decode prog_5_method_6_code 20 = .ok (.istore_n 3, 1) := by decide +kernel
theorem d_Pc_enlarged_21 : decode prog_5_method_6_code 21 = .ok (.iload_n 3, 1) := by decide +kernel
theorem d_Pc_enlarged_22 : decode prog_5_method_6_code 22 = .ok (.aload_n 0, 1) := by decide +kernel
theorem d_Pc_enlarged_23 : decode prog_5_method_6_code 23 = .ok (.getfield 21, 3) := by decide +kernel
theorem d_Pc_enlarged_26 : decode prog_5_method_6_code 26 = .ok (.if_icmp .ge 56, 3) := by decide +kernel
theorem d_Pc_enlarged_29 : decode prog_5_method_6_code 29 = .ok (.iconst 0, 1) := by decide +kernel
theorem d_Pc_enlarged_30 : decode prog_5_method_6_code 30 = .ok (.istore 4, 2) := by decide +kernel
theorem d_Pc_enlarged_32 : decode prog_5_method_6_code 32 = .ok (.iload 4, 2) := by decide +kernel
theorem d_Pc_enlarged_34 : decode prog_5_method_6_code 34 = .ok (.aload_n 2, 1) := by decide +kernel
theorem d_Pc_enlarged_35 : decode prog_5_method_6_code 35 = .ok (.getfield 15, 3) := by decide +kernel
theorem d_Pc_enlarged_38 : decode prog_5_method_6_code 38 = .ok (.if_icmp .ge 38, 3) := by decide +kernel
theorem d_Pc_enlarged_41 : decode prog_5_method_6_code 41 = .ok (.aload_n 0, 1) := by decide +kernel
theorem d_Pc_enlarged_42 : decode prog_5_method_6_code 42 = .ok (.iload_n 1, 1) := by decide +kernel
theorem d_Pc_enlarged_43 : decode prog_5_method_6_code 43 = .ok (.iconst 1, 1) := by decide +kernel
theorem d_Pc_enlarged_44 : decode prog_5_method_6_code 44 = .ok (.if_icmp .le 10, 3) := by decide +kernel
theorem d_Pc_enlarged_47 : decode prog_5_method_6_code 47 = .ok (.iload 4, 2) := by decide +kernel
theorem d_Pc_enlarged_49 : decode prog_5_method_6_code 49 = .ok (.iload_n 1, 1) := by decide +kernel
theorem d_Pc_enlarged_50 : decode prog_5_method_6_code 50 = .ok (.idiv, 1) := by decide +kernel
theorem d_Pc_enlarged_51 : decode prog_5_method_6_code 51 = .ok (.goto 5, 3) := by decide +kernel
theorem d_Pc_enlarged_54 : decode prog_5_method_6_code 54 = .ok (.iload 4, 2) := by decide +kernel
theorem d_Pc_enlarged_56 : decode prog_5_method_6_code 56 = .ok (.iload_n 3, 1) := by decide +kernel
theorem d_Pc_enlarged_57 : decode prog_5_method_6_code 57 = .ok (.invokevirtual 61, 3) := by decide +kernel
theorem d_Pc_enlarged_60 : decode prog_5_method_6_code 60 = .ok (.ifCond .eq 10, 3) := by decide +kernel
theorem d_Pc_enlarged_63 : decode prog_5_method_6_code 63 = .ok (.aload_n 2, 1) := by decide +kernel
theorem d_Pc_enlarged_64 : decode prog_5_method_6_code 64 = .ok (.iload 4, 2) := by decide +kernel
theorem d_Pc_enlarged_66 : decode prog_5_method_6_code 66 = .ok (.iload_n 3, 1) := by decide +kernel
theorem d_Pc_enlarged_67 : decode prog_5_method_6_code 67 = .ok (.invokevirtual 68, 3) := by decide +kernel
theorem d_Pc_enlarged_70 : decode prog_5_method_6_code 70 = .ok (.iinc 4 1, 3) := by decide +kernel
theorem d_Pc_enlarged_73 : decode prog_5_method_6_code 73 = .ok (.goto (-41), 3) := by decide +kernel
theorem d_Pc_enlarged_76 : decode prog_5_method_6_code 76 = .ok (.iinc 3 1, 3) := by decide +kernel
theorem d_Pc_enlarged_79 : decode prog_5_method_6_code 79 = .ok (.goto (-58), 3) := by decide +kernel
theorem d_Pc_enlarged_82 : decode prog_5_method_6_code 82 = .ok (.aload_n 2, 1) := by decide +kernel
theorem d_Pc_enlarged_83 : decode prog_5_method_6_code 83 = .ok (.areturn, 1) := by decide +kernel
theorem d_Pc_blackenTurned_0 : decode prog_5_method_7_code 0 = .ok (.iload_n 1, 1) := by decide +kernel
theorem d_Pc_blackenTurned_1 : decode prog_5_method_7_code 1 = .ok (.lookupswitch 66 #[(1, 27), (2, 43)], 27) := by decide +kernel
theorem d_Pc_blackenTurned_28 : decode prog_5_method_7_code 28 = .ok (.aload_n 0, 1) := by decide +kernel
theorem d_Pc_blackenTurned_29 : decode prog_5_method_7_code 29 = .ok (.iload_n 3, 1) := by decide +kernel
theorem d_Pc_blackenTurned_30 : decode prog_5_method_7_code 30 = .ok (.aload_n 0, 1) := by decide +kernel
theorem d_Pc_blackenTurned_31 : decode prog_5_method_7_code 31 = .ok (.getfield 21, 3) := by decide +kernel
theorem d_Pc_blackenTurned_34 : decode prog_5_method_7_code 34 = .ok (.iconst 1, 1) := by decide +kernel
theorem d_Pc_blackenTurned_35 : decode prog_5_method_7_code 35 = .ok (.isub, 1) := by decide +kernel
theorem d_Pc_blackenTurned_36 : decode prog_5_method_7_code 36 = .ok (.iload_n 2, 1) := by decide +kernel
theorem d_Pc_blackenTurned_37 : decode prog_5_method_7_code 37 = .ok (.isub, 1) := by decide +kernel
theorem d_Pc_blackenTurned_38 : decode prog_5_method_7_code 38 = .ok (.invokevirtual 68, 3) := by decide +kernel
theorem d_Pc_blackenTurned_41 : decode prog_5_method_7_code 41 = .ok (.goto 39, 3) := by decide +kernel
theorem d_Pc_blackenTurned_44 : decode prog_5_method_7_code 44 = .ok (.aload_n 0, 1) := by decide +kernel
theorem d_Pc_blackenTurned_45 : decode prog_5_method_7_code 45 = .ok (.aload_n 0, 1) := by decide +kernel
theorem d_Pc_blackenTurned_46 : decode prog_5_method_7_code 46 = .ok (.getfield 15, 3) := by decide +kernel
theorem d_Pc_blackenTurned_49 : decode prog_5_method_7_code 49 = .ok (.iconst 1, 1) := by decide +kernel
theorem d_Pc_blackenTurned_50 : decode prog_5_method_7_code 50 = .ok (.isub, 1) := by decide +kernel
theorem d_Pc_blackenTurned_51 : decode prog_5_method_7_code 51 = .ok (.iload_n 2, 1) := by decide +kernel
theorem d_Pc_blackenTurned_52 : decode prog_5_method_7_code 52 = .ok (.isub, 1) := by decide +kernel
theorem d_Pc_blackenTurned_53 : decode prog_5_method_7_code 53 = .ok (.aload_n 0, 1) := by decide +kernel
theorem d_Pc_blackenTurned_54 : decode prog_5_method_7_code 54 = .ok (.getfield 21, 3) := by decide +kernel
theorem d_Pc_blackenTurned_57 : decode prog_5_method_7_code 57 = .ok (.iconst 1, 1) := by decide +kernel
theorem d_Pc_blackenTurned_58 : decode prog_5_method_7_code 58 = .ok (.isub, 1) := by decide +kernel
theorem d_Pc_blackenTurned_59 : decode prog_5_method_7_code 59 = .ok (.iload_n 3, 1) := by decide +kernel
theorem d_Pc_blackenTurned_60 : decode prog_5_method_7_code 60 = .ok (.isub, 1) := by decide +kernel
theorem d_Pc_blackenTurned_61 : decode prog_5_method_7_code 61 = .ok (.invokevirtual 68, 3) := by decide +kernel
theorem d_Pc_blackenTurned_64 : decode prog_5_method_7_code 64 = .ok (.goto 16, 3) := by decide +kernel
theorem d_Pc_blackenTurned_67 : decode prog_5_method_7_code 67 = .ok (.aload_n 0, 1) := by decide +kernel
theorem d_Pc_blackenTurned_68 : decode prog_5_method_7_code 68 = .ok (.aload_n 0, 1) := by decide +kernel
theorem d_Pc_blackenTurned_69 : decode prog_5_method_7_code 69 = .ok (.getfield 15, 3) := by decide +kernel
theorem d_Pc_blackenTurned_72 : decode prog_5_method_7_code 72 = .ok (.iconst 1, 1) := by decide +kernel
theorem d_Pc_blackenTurned_73 : decode prog_5_method_7_code 73 = .ok (.isub, 1) := by decide +kernel
theorem d_Pc_blackenTurned_74 : decode prog_5_method_7_code 74 = .ok (.iload_n 3, 1) := by decide +kernel
theorem d_Pc_blackenTurned_75 : decode prog_5_method_7_code 75 = .ok (.isub, 1) := by decide +kernel
theorem d_Pc_blackenTurned_76 : decode prog_5_method_7_code 76 = .ok (.iload_n 2, 1) := by decide +kernel
theorem d_Pc_blackenTurned_77 : decode prog_5_method_7_code 77 = .ok (.invokevirtual 68, 3) := by decide +kernel
theorem d_Pc_blackenTurned_80 : decode prog_5_method_7_code 80 = .ok (.return_, 1) := by decide +kernel
theorem d_Pc_isBlack_0 : decode prog_5_method_8_code 0 = .ok (.aload_n 0, 1) := by decide +kernel
theorem d_Pc_isBlack_1 : decode prog_5_method_8_code 1 = .ok (.iload_n 2, 1) := by decide +kernel
theorem d_Pc_isBlack_2 : decode prog_5_method_8_code 2 = .ok (.iload_n 1, 1) := by decide +kernel
theorem d_Pc_isBlack_3 : decode prog_5_method_8_code 3 = .ok (.bipush 64, 2) := by decide +kernel
theorem d_Pc_isBlack_5 : decode prog_5_method_8_code 5 = .ok (.idiv, 1) := by decide +kernel
theorem d_Pc_isBlack_6 : decode prog_5_method_8_code 6 = .ok (.invokevirtual 54, 3) := by decide +kernel
theorem d_Pc_isBlack_9 : decode prog_5_method_8_code 9 = .ok (.ldc2_w 72, 3) := by decide +kernel
theorem d_Pc_isBlack_12 : decode prog_5_method_8_code 12 = .ok (.iload_n 1, 1) := by decide +kernel
theorem d_Pc_isBlack_13 : decode prog_5_method_8_code 13 = .ok (.bipush 64, 2) := by decide +kernel
theorem d_Pc_isBlack_15 : decode prog_5_method_8_code 15 = .ok (.irem, 1) := by decide +kernel
theorem d_Pc_isBlack_16 : decode prog_5_method_8_code 16 = .ok (.lushr, 1) := by decide +kernel
theorem d_Pc_isBlack_17 : decode prog_5_method_8_code 17 = .ok (.land, 1) := by decide +kernel
theorem d_Pc_isBlack_18 : decode prog_5_method_8_code 18 = .ok (.lconst 0, 1) := by decide +kernel
theorem d_Pc_isBlack_19 : decode prog_5_method_8_code 19 = .ok (.lcmp, 1) := by decide +kernel
theorem d_Pc_isBlack_20 : decode prog_5_method_8_code 20 = .ok (.ifCond .eq 7, 3) := by decide +kernel
theorem d_Pc_isBlack_23 : decode prog_5_method_8_code 23 = .ok (.iconst 1, 1) := by decide +kernel
theorem d_Pc_isBlack_24 : decode prog_5_method_8_code 24 = .ok (.goto 4, 3) := by decide +kernel
theorem d_Pc_isBlack_27 : decode prog_5_method_8_code 27 = .ok (.iconst 0, 1) := by decide +kernel
theorem d_Pc_isBlack_28 : decode prog_5_method_8_code 28 = .ok (.ireturn, 1) := by decide +kernel
theorem d_Pc_blacken_0 : decode prog_5_method_9_code 0 = .ok (.aload_n 0, 1) := by decide +kernel
theorem d_Pc_blacken_1 : decode prog_5_method_9_code 1 = .ok (.iload_n 2, 1) := by decide +kernel
theorem d_Pc_blacken_2 : decode prog_5_method_9_code 2 = .ok (.iload_n 1, 1) := by decide +kernel
theorem d_Pc_blacken_3 : decode prog_5_method_9_code 3 = .ok (.bipush 64, 2) := by decide +kernel
theorem d_Pc_blacken_5 : decode prog_5_method_9_code 5 = .ok (.idiv, 1) := by decide +kernel
theorem d_Pc_blacken_6 : decode prog_5_method_9_code 6 = .ok (.aload_n 0, 1) := by decide +kernel
theorem d_Pc_blacken_7 : decode prog_5_method_9_code 7 = .ok (.iload_n 2, 1) := by decide +kernel
theorem d_Pc_blacken_8 : decode prog_5_method_9_code 8 = .ok (.iload_n 1, 1) := by decide +kernel
theorem d_Pc_blacken_9 : decode prog_5_method_9_code 9 = .ok (.bipush 64, 2) := by decide +kernel
theorem d_Pc_blacken_11 : decode prog_5_method_9_code 11 = .ok (.idiv, 1) := by decide +kernel
theorem d_Pc_blacken_12 : decode prog_5_method_9_code 12 = .ok (.invokevirtual 54, 3) := by decide +kernel
theorem d_Pc_blacken_15 : decode prog_5_method_9_code 15 = .ok (.ldc2_w 72, 3) := by decide +kernel
theorem d_Pc_blacken_18 : decode prog_5_method_9_code 18 = .ok (.iload_n 1, 1) := by decide +kernel
theorem d_Pc_blacken_19 : decode prog_5_method_9_code 19 = .ok (.bipush 64, 2) := by decide +kernel
theorem d_Pc_blacken_21 : decode prog_5_method_9_code 21 = .ok (.irem, 1) := by decide +kernel
theorem d_Pc_blacken_22 : decode prog_5_method_9_code 22 = .ok (.lushr, 1) := by decide +kernel
theorem d_Pc_blacken_23 : decode prog_5_method_9_code 23 = .ok (.lor, 1) := by decide +kernel
theorem d_Pc_blacken_24 : decode prog_5_method_9_code 24 = .ok (.invokevirtual 38, 3) := by decide +kernel
theorem d_Pc_blacken_27 : decode prog_5_method_9_code 27 = .ok (.return_, 1) := by decide +kernel
theorem d_Pc_wordAt_0 : decode prog_5_method_10_code 0 = .ok (.aload_n 0, 1) := by decide +kernel
theorem d_Pc_wordAt_1 : decode prog_5_method_10_code 1 = .ok (.iload_n 1, 1) := by decide +kernel
theorem d_Pc_wordAt_2 : decode prog_5_method_10_code 2 = .ok (.iload_n 2, 1) := by decide +kernel
theorem d_Pc_wordAt_3 : decode prog_5_method_10_code 3 = .ok (.invokevirtual 74, 3) := by decide +kernel
theorem d_Pc_wordAt_6 : decode prog_5_method_10_code 6 = .ok (.ifCond .eq 19, 3) := by decide +kernel
theorem d_Pc_wordAt_9 : decode prog_5_method_10_code 9 = .ok (.aload_n 0, 1) := by decide +kernel
theorem d_Pc_wordAt_10 : decode prog_5_method_10_code 10 = .ok (.getfield 30, 3) := by decide +kernel
theorem d_Pc_wordAt_13 : decode prog_5_method_10_code 13 = .ok (.iload_n 1, 1) := by decide +kernel
theorem d_Pc_wordAt_14 : decode prog_5_method_10_code 14 = .ok (.aload_n 0, 1) := by decide +kernel
theorem d_Pc_wordAt_15 : decode prog_5_method_10_code 15 = .ok (.getfield 27, 3) := by decide +kernel
theorem d_Pc_wordAt_18 : decode prog_5_method_10_code 18 = .ok (.imul, 1) := by decide +kernel
theorem d_Pc_wordAt_19 : decode prog_5_method_10_code 19 = .ok (.iload_n 2, 1) := by decide +kernel
theorem d_Pc_wordAt_20 : decode prog_5_method_10_code 20 = .ok (.iadd, 1) := by decide +kernel
theorem d_Pc_wordAt_21 : decode prog_5_method_10_code 21 = .ok (.laload, 1) := by decide +kernel
theorem d_Pc_wordAt_22 : decode prog_5_method_10_code 22 = .ok (.goto 4, 3) := by decide +kernel
theorem d_Pc_wordAt_25 : decode prog_5_method_10_code 25 = .ok (.lconst 0, 1) := by decide +kernel
theorem d_Pc_wordAt_26 : decode prog_5_method_10_code 26 = .ok (.lreturn, 1) := by decide +kernel
theorem d_Pc_setWord_0 : decode prog_5_method_11_code 0 = .ok (.aload_n 0, 1) := by decide +kernel
theorem d_Pc_setWord_1 : decode prog_5_method_11_code 1 = .ok (.iload_n 1, 1) := by decide +kernel
theorem d_Pc_setWord_2 : decode prog_5_method_11_code 2 = .ok (.iload_n 2, 1) := by decide +kernel
theorem d_Pc_setWord_3 : decode prog_5_method_11_code 3 = .ok (.invokevirtual 74, 3) := by decide +kernel
theorem d_Pc_setWord_6 : decode prog_5_method_11_code 6 = .ok (.ifCond .eq 17, 3) := by decide +kernel
theorem d_Pc_setWord_9 : decode prog_5_method_11_code 9 = .ok (.aload_n 0, 1) := by decide +kernel
theorem d_Pc_setWord_10 : decode prog_5_method_11_code 10 = .ok (.getfield 30, 3) := by decide +kernel
theorem d_Pc_setWord_13 : decode prog_5_method_11_code 13 = .ok (.iload_n 1, 1) := by decide +kernel
theorem d_Pc_setWord_14 : decode prog_5_method_11_code 14 = .ok (.aload_n 0, 1) := by decide +kernel
theorem d_Pc_setWord_15 : decode prog_5_method_11_code 15 = .ok (.getfield 27, 3) := by decide +kernel
theorem d_Pc_setWord_18 : decode prog_5_method_11_code 18 = .ok (.imul, 1) := by decide +kernel
theorem d_Pc_setWord_19 : decode prog_5_method_11_code 19 = .ok (.iload_n 2, 1) := by decide +kernel
theorem d_Pc_setWord_20 : decode prog_5_method_11_code 20 = .ok (.iadd, 1) := by decide +kernel
theorem d_Pc_setWord_21 : decode prog_5_method_11_code 21 = .ok (.lload_n 3, 1) := by decide +kernel
theorem d_Pc_setWord_22 : decode prog_5_method_11_code 22 = .ok (.lastore, 1) := by decide +kernel
theorem d_Pc_setWord_23 : decode prog_5_method_11_code 23 = .ok (.return_, 1) := by decide +kernel
theorem d_Pc_hasWord_0 : decode prog_5_method_12_code 0 = .ok (.iconst 0, 1) := by decide +kernel
theorem d_Pc_hasWord_1 : decode prog_5_method_12_code 1 = .ok (.iload_n 1, 1) := by decide +kernel
theorem d_Pc_hasWord_2 : decode prog_5_method_12_code 2 = .ok (.if_icmp .gt 28, 3) := by decide +kernel
theorem d_Pc_hasWord_5 : decode prog_5_method_12_code 5 = .ok (.iload_n 1, 1) := by decide +kernel
theorem d_Pc_hasWord_6 : decode prog_5_method_12_code 6 = .ok (.aload_n 0, 1) := by decide +kernel
theorem d_Pc_hasWord_7 : decode prog_5_method_12_code 7 = .ok (.getfield 21, 3) := by decide +kernel
theorem d_Pc_hasWord_10 : decode prog_5_method_12_code 10 = .ok (.if_icmp .ge 20, 3) := by decide +kernel
theorem d_Pc_hasWord_13 : decode prog_5_method_12_code 13 = .ok (.iconst 0, 1) := by decide +kernel
theorem d_Pc_hasWord_14 : decode prog_5_method_12_code 14 = .ok (.iload_n 2, 1) := by decide +kernel
theorem d_Pc_hasWord_15 : decode prog_5_method_12_code 15 = .ok (.if_icmp .gt 15, 3) := by decide +kernel
theorem d_Pc_hasWord_18 : decode prog_5_method_12_code 18 = .ok (.iload_n 2, 1) := by decide +kernel
theorem d_Pc_hasWord_19 : decode prog_5_method_12_code 19 = .ok (.aload_n 0, 1) := by decide +kernel
theorem d_Pc_hasWord_20 : decode prog_5_method_12_code 20 = .ok (.getfield 27, 3) := by decide +kernel
theorem d_Pc_hasWord_23 : decode prog_5_method_12_code 23 = .ok (.if_icmp .ge 7, 3) := by decide +kernel
theorem d_Pc_hasWord_26 : decode prog_5_method_12_code 26 = .ok (.iconst 1, 1) := by decide +kernel
theorem d_Pc_hasWord_27 : decode prog_5_method_12_code 27 = .ok (.goto 4, 3) := by decide +kernel
theorem d_Pc_hasWord_30 : decode prog_5_method_12_code 30 = .ok (.iconst 0, 1) := by decide +kernel
theorem d_Pc_hasWord_31 : decode prog_5_method_12_code 31 = .ok (.ireturn, 1) := by decide +kernel
theorem d_JL_bitCount_0 : decode prog_14_method_50_code 0 = .ok (.lload_n 0, 1) := by decide +kernel
theorem d_JL_bitCount_1 : decode prog_14_method_50_code 1 = .ok (.lload_n 0, 1) := by decide +kernel
theorem d_JL_bitCount_2 : decode prog_14_method_50_code 2 = .ok (.iconst 1, 1) := by decide +kernel
theorem d_JL_bitCount_3 : decode prog_14_method_50_code 3 = .ok (.lushr, 1) := by decide +kernel
theorem d_JL_bitCount_4 : decode prog_14_method_50_code 4 = .ok (.ldc2_w 314, 3) := by decide +kernel
theorem d_JL_bitCount_7 : decode prog_14_method_50_code 7 = .ok (.land, 1) := by decide +kernel
theorem d_JL_bitCount_8 : decode prog_14_method_50_code 8 = .ok (.lsub, 1) := by decide +kernel
theorem d_JL_bitCount_9 : decode prog_14_method_50_code 9 = .ok (.lstore_n 0, 1) := by decide +kernel
theorem d_JL_bitCount_10 : decode prog_14_method_50_code 10 = .ok (.lload_n 0, 1) := by decide +kernel
theorem d_JL_bitCount_11 : decode prog_14_method_50_code 11 = .ok (.ldc2_w 316, 3) := by decide +kernel
theorem d_JL_bitCount_14 : decode prog_14_method_50_code 14 = .ok (.land, 1) := by decide +kernel
theorem d_JL_bitCount_15 : decode prog_14_method_50_code 15 = .ok (.lload_n 0, 1) := by decide +kernel
theorem d_JL_bitCount_16 : decode prog_14_method_50_code 16 = .ok (.iconst 2, 1) := by decide +kernel
theorem d_JL_bitCount_17 : decode prog_14_method_50_code 17 = .ok (.lushr, 1) := by decide +kernel
theorem d_JL_bitCount_18 : decode prog_14_method_50_code 18 = .ok (.ldc2_w 316, 3) := by decide +kernel
theorem d_JL_bitCount_21 : decode prog_14_method_50_code 21 = .ok (.land, 1) := by decide +kernel
theorem d_JL_bitCount_22 : decode prog_14_method_50_code 22 = .ok (.ladd, 1) := by decide +kernel
theorem d_JL_bitCount_23 : decode prog_14_method_50_code 23 = .ok (.lstore_n 0, 1) := by decide +kernel
theorem d_JL_bitCount_24 : decode prog_14_method_50_code 24 = .ok (.lload_n 0, 1) := by decide +kernel
theorem d_JL_bitCount_25 : decode prog_14_method_50_code 25 = .ok (.lload_n 0, 1) := by decide +kernel
theorem d_JL_bitCount_26 : decode prog_14_method_50_code 26 = .ok (.iconst 4, 1) := by decide +kernel
theorem d_JL_bitCount_27 : decode prog_14_method_50_code 27 = .ok (.lushr, 1) := by decide +kernel
theorem d_JL_bitCount_28 : decode prog_14_method_50_code 28 = .ok (.ladd, 1) := by decide +kernel
theorem d_JL_bitCount_29 : decode prog_14_method_50_code 29 = .ok (.ldc2_w 318, 3) := by decide +kernel
theorem d_JL_bitCount_32 : decode prog_14_method_50_code 32 = .ok (.land, 1) := by decide +kernel
theorem d_JL_bitCount_33 : decode prog_14_method_50_code 33 = .ok (.lstore_n 0, 1) := by decide +kernel
theorem d_JL_bitCount_34 : decode prog_14_method_50_code 34 = .ok (.lload_n 0, 1) := by decide +kernel
theorem d_JL_bitCount_35 : decode prog_14_method_50_code 35 = .ok (.lload_n 0, 1) := by decide +kernel
theorem d_JL_bitCount_36 : decode prog_14_method_50_code 36 = .ok (.bipush 8, 2) := by decide +kernel
theorem d_JL_bitCount_38 : decode prog_14_method_50_code 38 = .ok (.lushr, 1) := by decide +kernel
theorem d_JL_bitCount_39 : decode prog_14_method_50_code 39 = .ok (.ladd, 1) := by decide +kernel
theorem d_JL_bitCount_40 : decode prog_14_method_50_code 40 = .ok (.lstore_n 0, 1) := by decide +kernel
theorem d_JL_bitCount_41 : decode prog_14_method_50_code 41 = .ok (.lload_n 0, 1) := by decide +kernel
theorem d_JL_bitCount_42 : decode prog_14_method_50_code 42 = .ok (.lload_n 0, 1) := by decide +kernel
theorem d_JL_bitCount_43 : decode prog_14_method_50_code 43 = .ok (.bipush 16, 2) := by decide +kernel
theorem d_JL_bitCount_45 : decode prog_14_method_50_code 45 = .ok (.lushr, 1) := by decide +kernel
theorem d_JL_bitCount_46 : decode prog_14_method_50_code 46 = .ok (.ladd, 1) := by decide +kernel
theorem d_JL_bitCount_47 : decode prog_14_method_50_code 47 = .ok (.lstore_n 0, 1) := by decide +kernel
theorem d_JL_bitCount_48 : decode prog_14_method_50_code 48 = .ok (.lload_n 0, 1) := by decide +kernel
theorem d_JL_bitCount_49 : decode prog_14_method_50_code 49 = .ok (.lload_n 0, 1) := by decide +kernel
theorem d_JL_bitCount_50 : decode prog_14_method_50_code 50 = .ok (.bipush 32, 2) := by decide +kernel
theorem d_JL_bitCount_52 : decode prog_14_method_50_code 52 = .ok (.lushr, 1) := by decide +kernel
theorem d_JL_bitCount_53 : decode prog_14_method_50_code 53 = .ok (.ladd, 1) := by decide +kernel
theorem d_JL_bitCount_54 : decode prog_14_method_50_code 54 = .ok (.lstore_n 0, 1) := by decide +kernel
theorem d_JL_bitCount_55 : decode prog_14_method_50_code 55 = .ok (.lload_n 0, 1) := by decide +kernel
theorem d_JL_bitCount_56 : decode prog_14_method_50_code 56 = .ok (.l2i, 1) := by decide +kernel
theorem d_JL_bitCount_57 : decode prog_14_method_50_code 57 = .ok (.bipush 127, 2) := by decide +kernel
theorem d_JL_bitCount_59 : decode prog_14_method_50_code 59 = .ok (.iand, 1) := by decide +kernel
theorem d_JL_bitCount_60 : decode prog_14_method_50_code 60 = .ok (.ireturn, 1) := by decide +kernel
theorem d_JM_floorDiv_0 : decode prog_15_method_47_code 0 = .ok (.iload_n 0, 1) := by decide +kernel
theorem d_JM_floorDiv_1 : decode prog_15_method_47_code 1 = .ok (.iload_n 1, 1) := by decide +kernel
theorem d_JM_floorDiv_2 : decode prog_15_method_47_code 2 = .ok (.idiv, 1) := by decide +kernel
theorem d_JM_floorDiv_3 : decode prog_15_method_47_code 3 = .ok (.istore_n 2, 1) := by decide +kernel
theorem d_JM_floorDiv_4 : decode prog_15_method_47_code 4 = .ok (.iload_n 0, 1) := by decide +kernel
theorem d_JM_floorDiv_5 : decode prog_15_method_47_code 5 = .ok (.iload_n 1, 1) := by decide +kernel
theorem d_JM_floorDiv_6 : decode prog_15_method_47_code 6 = .ok (.ixor, 1) := by decide +kernel
theorem d_JM_floorDiv_7 : decode prog_15_method_47_code 7 = .ok (.ifCond .ge 14, 3) := by decide +kernel
theorem d_JM_floorDiv_10 : decode prog_15_method_47_code 10 = .ok (.iload_n 2, 1) := by decide +kernel
theorem d_JM_floorDiv_11 : decode prog_15_method_47_code 11 = .ok (.iload_n 1, 1) := by decide +kernel
theorem d_JM_floorDiv_12 : decode prog_15_method_47_code 12 = .ok (.imul, 1) := by decide +kernel
theorem d_JM_floorDiv_13 : decode prog_15_method_47_code 13 = .ok (.iload_n 0, 1) := by decide +kernel
theorem d_JM_floorDiv_14 : decode prog_15_method_47_code 14 = .ok (.if_icmp .eq 7, 3) := by decide +kernel
theorem d_JM_floorDiv_17 : decode prog_15_method_47_code 17 = .ok (.iload_n 2, 1) := by decide +kernel
theorem d_JM_floorDiv_18 : decode prog_15_method_47_code 18 = .ok (.iconst 1, 1) := by decide +kernel
theorem d_JM_floorDiv_19 : decode prog_15_method_47_code 19 = .ok (.isub, 1) := by decide +kernel
theorem d_JM_floorDiv_20 : decode prog_15_method_47_code 20 = .ok (.ireturn, 1) := by decide +kernel
theorem d_JM_floorDiv_21 : decode prog_15_method_47_code 21 = .ok (.iload_n 2, 1) := by decide +kernel
theorem d_JM_floorDiv_22 : decode prog_15_method_47_code 22 = .ok (.ireturn, 1) := by decide +kernel
theorem d_JM_floorMod_0 : decode prog_15_method_50_code 0 = .ok (.iload_n 0, 1) := by decide +kernel
theorem d_JM_floorMod_1 : decode prog_15_method_50_code 1 = .ok (.iload_n 1, 1) := by decide +kernel
theorem d_JM_floorMod_2 : decode prog_15_method_50_code 2 = .ok (.irem, 1) := by decide +kernel
theorem d_JM_floorMod_3 : decode prog_15_method_50_code 3 = .ok (.istore_n 2, 1) := by decide +kernel
theorem d_JM_floorMod_4 : decode prog_15_method_50_code 4 = .ok (.iload_n 0, 1) := by decide +kernel
theorem d_JM_floorMod_5 : decode prog_15_method_50_code 5 = .ok (.iload_n 1, 1) := by decide +kernel
theorem d_JM_floorMod_6 : decode prog_15_method_50_code 6 = .ok (.ixor, 1) := by decide +kernel
theorem d_JM_floorMod_7 : decode prog_15_method_50_code 7 = .ok (.ifCond .ge 11, 3) := by decide +kernel
theorem d_JM_floorMod_10 : decode prog_15_method_50_code 10 = .ok (.iload_n 2, 1) := by decide +kernel
theorem d_JM_floorMod_11 : decode prog_15_method_50_code 11 = .ok (.ifCond .eq 7, 3) := by decide +kernel
theorem d_JM_floorMod_14 : decode prog_15_method_50_code 14 = .ok (.iload_n 2, 1) := by decide +kernel
theorem d_JM_floorMod_15 : decode prog_15_method_50_code 15 = .ok (.iload_n 1, 1) := by decide +kernel
theorem d_JM_floorMod_16 : decode prog_15_method_50_code 16 = .ok (.iadd, 1) := by decide +kernel
theorem d_JM_floorMod_17 : decode prog_15_method_50_code 17 = .ok (.ireturn, 1) := by decide +kernel
theorem d_JM_floorMod_18 : decode prog_15_method_50_code 18 = .ok (.iload_n 2, 1) := by decide +kernel
theorem d_JM_floorMod_19 : decode prog_15_method_50_code 19 = .ok (.ireturn, 1) := by decide +kernel
theorem d_JA_fill_0 : decode prog_19_method_103_code 0 = .ok (.iconst 0, 1) := by decide +kernel
theorem d_JA_fill_1 : decode prog_19_method_103_code 1 = .ok (.istore_n 2, 1) := by decide +kernel
theorem d_JA_fill_2 : decode prog_19_method_103_code 2 = .ok (.aload_n 0, 1) := by decide +kernel
theorem d_JA_fill_3 : decode prog_19_method_103_code 3 = .ok (.arraylength, 1) := by decide +kernel
theorem d_JA_fill_4 : decode prog_19_method_103_code 4 = .ok (.istore_n 3, 1) := by decide +kernel
theorem d_JA_fill_5 : decode prog_19_method_103_code 5 = .ok (.iload_n 2, 1) := by decide +kernel
theorem d_JA_fill_6 : decode prog_19_method_103_code 6 = .ok (.iload_n 3, 1) := by decide +kernel
theorem d_JA_fill_7 : decode prog_19_method_103_code 7 = .ok (.if_icmp .ge 13, 3) := by decide +kernel
theorem d_JA_fill_10 : decode prog_19_method_103_code 10 = .ok (.aload_n 0, 1) := by decide +kernel
theorem d_JA_fill_11 : decode prog_19_method_103_code 11 = .ok (.iload_n 2, 1) := by decide +kernel
theorem d_JA_fill_12 : decode prog_19_method_103_code 12 = .ok (.iload_n 1, 1) := by decide +kernel
theorem d_JA_fill_13 : decode prog_19_method_103_code 13 = .ok (.iastore, 1) := by decide +kernel
theorem d_JA_fill_14 : decode prog_19_method_103_code 14 = .ok (.iinc 2 1, 3) := by decide +kernel
theorem d_JA_fill_17 : decode prog_19_method_103_code 17 = .ok (.goto (-12), 3) := by decide +kernel
theorem d_JA_fill_20 : decode prog_19_method_103_code 20 = .ok (.return_, 1) := by decide +kernel

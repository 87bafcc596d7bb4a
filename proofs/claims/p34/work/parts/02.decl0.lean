theorem dL_cell_0 : decode cL_cell 0 = .ok (.iload_n 1, 1) := by decide +kernel
theorem dL_cell_1 : decode cL_cell 1 = .ok (.aload_n 0, 1) := by decide +kernel
theorem dL_cell_2 : decode cL_cell 2 = .ok (.arraylength, 1) := by decide +kernel
theorem dL_cell_3 : decode cL_cell 3 = .ok (.if_icmp .ge 9, 3) := by decide +kernel
theorem dL_cell_6 : decode cL_cell 6 = .ok (.aload_n 0, 1) := by decide +kernel
theorem dL_cell_7 : decode cL_cell 7 = .ok (.iload_n 1, 1) := by decide +kernel
theorem dL_cell_8 : decode cL_cell 8 = .ok (.iaload, 1) := by decide +kernel
theorem dL_cell_9 : decode cL_cell 9 = .ok (.goto 12, 3) := by decide +kernel
theorem dL_cell_12 : decode cL_cell 12 = .ok (.ldc 7, 2) := by decide +kernel
theorem dL_cell_14 : decode cL_cell 14 = .ok (.iload_n 1, 1) := by decide +kernel
theorem dL_cell_15 : decode cL_cell 15 = .ok (.iconst 1, 1) := by decide +kernel
theorem dL_cell_16 : decode cL_cell 16 = .ok (.iadd, 1) := by decide +kernel
theorem dL_cell_17 : decode cL_cell 17 = .ok (.imul, 1) := by decide +kernel
theorem dL_cell_18 : decode cL_cell 18 = .ok (.ldc 8, 2) := by decide +kernel
theorem dL_cell_20 : decode cL_cell 20 = .ok (.iadd, 1) := by decide +kernel
theorem dL_cell_21 : decode cL_cell 21 = .ok (.ireturn, 1) := by decide +kernel
theorem dL_low_0 : decode cL_low 0 = .ok (.iload_n 0, 1) := by decide +kernel
theorem dL_low_1 : decode cL_low 1 = .ok (.ldc 9, 2) := by decide +kernel
theorem dL_low_3 : decode cL_low 3 = .ok (.iand, 1) := by decide +kernel
theorem dL_low_4 : decode cL_low 4 = .ok (.iload_n 1, 1) := by decide +kernel
theorem dL_low_5 : decode cL_low 5 = .ok (.irem, 1) := by decide +kernel
theorem dL_low_6 : decode cL_low 6 = .ok (.ireturn, 1) := by decide +kernel
theorem dL_mix_0 : decode cL_mix 0 = .ok (.ldc2_w 10, 3) := by decide +kernel
theorem dL_mix_3 : decode cL_mix 3 = .ok (.iload_n 2, 1) := by decide +kernel
theorem dL_mix_4 : decode cL_mix 4 = .ok (.i2l, 1) := by decide +kernel
theorem dL_mix_5 : decode cL_mix 5 = .ok (.lmul, 1) := by decide +kernel
theorem dL_mix_6 : decode cL_mix 6 = .ok (.ldc2_w 12, 3) := by decide +kernel
theorem dL_mix_9 : decode cL_mix 9 = .ok (.iload_n 1, 1) := by decide +kernel
theorem dL_mix_10 : decode cL_mix 10 = .ok (.i2l, 1) := by decide +kernel
theorem dL_mix_11 : decode cL_mix 11 = .ok (.lmul, 1) := by decide +kernel
theorem dL_mix_12 : decode cL_mix 12 = .ok (.ladd, 1) := by decide +kernel
theorem dL_mix_13 : decode cL_mix 13 = .ok (.ldc2_w 14, 3) := by decide +kernel
theorem dL_mix_16 : decode cL_mix 16 = .ok (.ladd, 1) := by decide +kernel
theorem dL_mix_17 : decode cL_mix 17 = .ok (.lstore_n 3, 1) := by decide +kernel
theorem dL_mix_18 : decode cL_mix 18 = .ok (.iconst 0, 1) := by decide +kernel
theorem dL_mix_19 : decode cL_mix 19 = .ok (.istore 5, 2) := by decide +kernel
theorem dL_mix_21 : decode cL_mix 21 = .ok (.iconst 0, 1) := by decide +kernel
theorem dL_mix_22 : decode cL_mix 22 = .ok (.istore 6, 2) := by decide +kernel
theorem dL_mix_24 : decode cL_mix 24 = .ok (.iload 6, 2) := by decide +kernel
theorem dL_mix_26 : decode cL_mix 26 = .ok (.bipush 16, 2) := by decide +kernel
theorem dL_mix_28 : decode cL_mix 28 = .ok (.if_icmp .ge 38, 3) := by decide +kernel
theorem dL_mix_31 : decode cL_mix 31 = .ok (.iload 5, 2) := by decide +kernel
theorem dL_mix_33 : decode cL_mix 33 = .ok (.iload_n 0, 1) := by decide +kernel
theorem dL_mix_34 : decode cL_mix 34 = .ok (.iload 6, 2) := by decide +kernel
theorem dL_mix_36 : decode cL_mix 36 = .ok (.ishr, 1) := by decide +kernel
theorem dL_mix_37 : decode cL_mix 37 = .ok (.iconst 1, 1) := by decide +kernel
theorem dL_mix_38 : decode cL_mix 38 = .ok (.iand, 1) := by decide +kernel
theorem dL_mix_39 : decode cL_mix 39 = .ok (.lload_n 3, 1) := by decide +kernel
theorem dL_mix_40 : decode cL_mix 40 = .ok (.iload 6, 2) := by decide +kernel
theorem dL_mix_42 : decode cL_mix 42 = .ok (.lshr, 1) := by decide +kernel
theorem dL_mix_43 : decode cL_mix 43 = .ok (.lconst 1, 1) := by decide +kernel
theorem dL_mix_44 : decode cL_mix 44 = .ok (.land, 1) := by decide +kernel
theorem dL_mix_45 : decode cL_mix 45 = .ok (.l2i, 1) := by decide +kernel
theorem dL_mix_46 : decode cL_mix 46 = .ok (.if_icmp .eq 10, 3) := by decide +kernel
theorem dL_mix_49 : decode cL_mix 49 = .ok (.iconst 1, 1) := by decide +kernel
theorem dL_mix_50 : decode cL_mix 50 = .ok (.iload 6, 2) := by decide +kernel
theorem dL_mix_52 : decode cL_mix 52 = .ok (.ishl, 1) := by decide +kernel
theorem dL_mix_53 : decode cL_mix 53 = .ok (.goto 4, 3) := by decide +kernel
theorem dL_mix_56 : decode cL_mix 56 = .ok (.iconst 0, 1) := by decide +kernel
theorem dL_mix_57 : decode cL_mix 57 = .ok (.ior, 1) := by decide +kernel
theorem dL_mix_58 : decode cL_mix 58 = .ok (.istore 5, 2) := by decide +kernel
theorem dL_mix_60 : decode cL_mix 60 = .ok (.iinc 6 1, 3) := by decide +kernel
theorem dL_mix_63 : decode cL_mix 63 = .ok (.goto (-39), 3) := by decide +kernel
theorem dL_mix_66 : decode cL_mix 66 = .ok (.iload 5, 2) := by decide +kernel
theorem dL_mix_68 : decode cL_mix 68 = .ok (.ireturn, 1) := by decide +kernel
theorem dL_first_0 : decode cL_first 0 = .ok (.aload_n 0, 1) := by decide +kernel
theorem dL_first_1 : decode cL_first 1 = .ok (.iconst 4, 1) := by decide +kernel
theorem dL_first_2 : decode cL_first 2 = .ok (.iaload, 1) := by decide +kernel
theorem dL_first_3 : decode cL_first 3 = .ok (.iconst 1, 1) := by decide +kernel
theorem dL_first_4 : decode cL_first 4 = .ok (.if_icmp .ne 7, 3) := by decide +kernel
theorem dL_first_7 : decode cL_first 7 = .ok (.aload_n 0, 1) := by decide +kernel
theorem dL_first_8 : decode cL_first 8 = .ok (.iconst 3, 1) := by decide +kernel
theorem dL_first_9 : decode cL_first 9 = .ok (.iaload, 1) := by decide +kernel
theorem dL_first_10 : decode cL_first 10 = .ok (.ireturn, 1) := by decide +kernel
theorem dL_first_11 : decode cL_first 11 = .ok (.aload_n 0, 1) := by decide +kernel
theorem dL_first_12 : decode cL_first 12 = .ok (.iconst 3, 1) := by decide +kernel
theorem dL_first_13 : decode cL_first 13 = .ok (.iaload, 1) := by decide +kernel
theorem dL_first_14 : decode cL_first 14 = .ok (.aload_n 0, 1) := by decide +kernel
theorem dL_first_15 : decode cL_first 15 = .ok (.bipush 7, 2) := by decide +kernel
theorem dL_first_17 : decode cL_first 17 = .ok (.iaload, 1) := by decide +kernel
theorem dL_first_18 : decode cL_first 18 = .ok (.if_icmp .le 14, 3) := by decide +kernel
theorem dL_first_21 : decode cL_first 21 = .ok (.aload_n 0, 1) := by decide +kernel
theorem dL_first_22 : decode cL_first 22 = .ok (.iconst 3, 1) := by decide +kernel
theorem dL_first_23 : decode cL_first 23 = .ok (.iaload, 1) := by decide +kernel
theorem dL_first_24 : decode cL_first 24 = .ok (.aload_n 0, 1) := by decide +kernel
theorem dL_first_25 : decode cL_first 25 = .ok (.bipush 7, 2) := by decide +kernel
theorem dL_first_27 : decode cL_first 27 = .ok (.iaload, 1) := by decide +kernel
theorem dL_first_28 : decode cL_first 28 = .ok (.isub, 1) := by decide +kernel
theorem dL_first_29 : decode cL_first 29 = .ok (.goto 4, 3) := by decide +kernel
theorem dL_first_32 : decode cL_first 32 = .ok (.iconst 0, 1) := by decide +kernel
theorem dL_first_33 : decode cL_first 33 = .ok (.ireturn, 1) := by decide +kernel
theorem dL_behind_0 : decode cL_behind 0 = .ok (.aload_n 0, 1) := by decide +kernel
theorem dL_behind_1 : decode cL_behind 1 = .ok (.iconst 4, 1) := by decide +kernel
theorem dL_behind_2 : decode cL_behind 2 = .ok (.iaload, 1) := by decide +kernel
theorem dL_behind_3 : decode cL_behind 3 = .ok (.ifCond .ne 7, 3) := by decide +kernel
theorem dL_behind_6 : decode cL_behind 6 = .ok (.aload_n 0, 1) := by decide +kernel
theorem dL_behind_7 : decode cL_behind 7 = .ok (.iconst 3, 1) := by decide +kernel
theorem dL_behind_8 : decode cL_behind 8 = .ok (.iaload, 1) := by decide +kernel
theorem dL_behind_9 : decode cL_behind 9 = .ok (.ireturn, 1) := by decide +kernel
theorem dL_behind_10 : decode cL_behind 10 = .ok (.aload_n 0, 1) := by decide +kernel
theorem dL_behind_11 : decode cL_behind 11 = .ok (.iconst 3, 1) := by decide +kernel
theorem dL_behind_12 : decode cL_behind 12 = .ok (.iaload, 1) := by decide +kernel
theorem dL_behind_13 : decode cL_behind 13 = .ok (.aload_n 0, 1) := by decide +kernel
theorem dL_behind_14 : decode cL_behind 14 = .ok (.bipush 7, 2) := by decide +kernel
theorem dL_behind_16 : decode cL_behind 16 = .ok (.iaload, 1) := by decide +kernel
theorem dL_behind_17 : decode cL_behind 17 = .ok (.iadd, 1) := by decide +kernel
theorem dL_behind_18 : decode cL_behind 18 = .ok (.aload_n 0, 1) := by decide +kernel
theorem dL_behind_19 : decode cL_behind 19 = .ok (.iconst 0, 1) := by decide +kernel
theorem dL_behind_20 : decode cL_behind 20 = .ok (.iaload, 1) := by decide +kernel
theorem dL_behind_21 : decode cL_behind 21 = .ok (.if_icmp .ge 14, 3) := by decide +kernel
theorem dL_behind_24 : decode cL_behind 24 = .ok (.aload_n 0, 1) := by decide +kernel
theorem dL_behind_25 : decode cL_behind 25 = .ok (.iconst 3, 1) := by decide +kernel
theorem dL_behind_26 : decode cL_behind 26 = .ok (.iaload, 1) := by decide +kernel
theorem dL_behind_27 : decode cL_behind 27 = .ok (.aload_n 0, 1) := by decide +kernel
theorem dL_behind_28 : decode cL_behind 28 = .ok (.bipush 7, 2) := by decide +kernel
theorem dL_behind_30 : decode cL_behind 30 = .ok (.iaload, 1) := by decide +kernel
theorem dL_behind_31 : decode cL_behind 31 = .ok (.iadd, 1) := by decide +kernel
theorem dL_behind_32 : decode cL_behind 32 = .ok (.goto 6, 3) := by decide +kernel
theorem dL_behind_35 : decode cL_behind 35 = .ok (.aload_n 0, 1) := by decide +kernel
theorem dL_behind_36 : decode cL_behind 36 = .ok (.iconst 0, 1) := by decide +kernel
theorem dL_behind_37 : decode cL_behind 37 = .ok (.iaload, 1) := by decide +kernel
theorem dL_behind_38 : decode cL_behind 38 = .ok (.ireturn, 1) := by decide +kernel
theorem dL_key_0 : decode cL_key 0 = .ok (.aload_n 1, 1) := by decide +kernel
theorem dL_key_1 : decode cL_key 1 = .ok (.iconst 2, 1) := by decide +kernel
theorem dL_key_2 : decode cL_key 2 = .ok (.iaload, 1) := by decide +kernel
theorem dL_key_3 : decode cL_key 3 = .ok (.ifCond .ge 7, 3) := by decide +kernel
theorem dL_key_6 : decode cL_key 6 = .ok (.aload_n 1, 1) := by decide +kernel
theorem dL_key_7 : decode cL_key 7 = .ok (.iconst 1, 1) := by decide +kernel
theorem dL_key_8 : decode cL_key 8 = .ok (.iaload, 1) := by decide +kernel
theorem dL_key_9 : decode cL_key 9 = .ok (.ireturn, 1) := by decide +kernel
theorem dL_key_10 : decode cL_key 10 = .ok (.iload_n 0, 1) := by decide +kernel
theorem dL_key_11 : decode cL_key 11 = .ok (.aload_n 1, 1) := by decide +kernel
theorem dL_key_12 : decode cL_key 12 = .ok (.invokestatic 16, 3) := by decide +kernel
theorem dL_key_15 : decode cL_key 15 = .ok (.if_icmp .lt 19, 3) := by decide +kernel
theorem dL_key_18 : decode cL_key 18 = .ok (.iload_n 0, 1) := by decide +kernel
theorem dL_key_19 : decode cL_key 19 = .ok (.aload_n 1, 1) := by decide +kernel
theorem dL_key_20 : decode cL_key 20 = .ok (.invokestatic 16, 3) := by decide +kernel
theorem dL_key_23 : decode cL_key 23 = .ok (.aload_n 1, 1) := by decide +kernel
theorem dL_key_24 : decode cL_key 24 = .ok (.iconst 5, 1) := by decide +kernel
theorem dL_key_25 : decode cL_key 25 = .ok (.iaload, 1) := by decide +kernel
theorem dL_key_26 : decode cL_key 26 = .ok (.iadd, 1) := by decide +kernel
theorem dL_key_27 : decode cL_key 27 = .ok (.if_icmp .ge 7, 3) := by decide +kernel
theorem dL_key_30 : decode cL_key 30 = .ok (.iconst 1, 1) := by decide +kernel
theorem dL_key_31 : decode cL_key 31 = .ok (.goto 4, 3) := by decide +kernel
theorem dL_key_34 : decode cL_key 34 = .ok (.iconst 0, 1) := by decide +kernel
theorem dL_key_35 : decode cL_key 35 = .ok (.istore_n 2, 1) := by decide +kernel
theorem dL_key_36 : decode cL_key 36 = .ok (.aload_n 1, 1) := by decide +kernel
theorem dL_key_37 : decode cL_key 37 = .ok (.iconst 4, 1) := by decide +kernel
theorem dL_key_38 : decode cL_key 38 = .ok (.iaload, 1) := by decide +kernel
theorem dL_key_39 : decode cL_key 39 = .ok (.iconst 1, 1) := by decide +kernel
theorem dL_key_40 : decode cL_key 40 = .ok (.if_icmp .ne 24, 3) := by decide +kernel
theorem dL_key_43 : decode cL_key 43 = .ok (.iload_n 0, 1) := by decide +kernel
theorem dL_key_44 : decode cL_key 44 = .ok (.aload_n 1, 1) := by decide +kernel
theorem dL_key_45 : decode cL_key 45 = .ok (.iconst 3, 1) := by decide +kernel
theorem dL_key_46 : decode cL_key 46 = .ok (.iaload, 1) := by decide +kernel
theorem dL_key_47 : decode cL_key 47 = .ok (.if_icmp .lt 7, 3) := by decide +kernel
theorem dL_key_50 : decode cL_key 50 = .ok (.iload_n 2, 1) := by decide +kernel
theorem dL_key_51 : decode cL_key 51 = .ok (.ifCond .eq 9, 3) := by decide +kernel
theorem dL_key_54 : decode cL_key 54 = .ok (.aload_n 1, 1) := by decide +kernel
theorem dL_key_55 : decode cL_key 55 = .ok (.iconst 2, 1) := by decide +kernel
theorem dL_key_56 : decode cL_key 56 = .ok (.iaload, 1) := by decide +kernel
theorem dL_key_57 : decode cL_key 57 = .ok (.goto 6, 3) := by decide +kernel
theorem dL_key_60 : decode cL_key 60 = .ok (.aload_n 1, 1) := by decide +kernel
theorem dL_key_61 : decode cL_key 61 = .ok (.iconst 1, 1) := by decide +kernel
theorem dL_key_62 : decode cL_key 62 = .ok (.iaload, 1) := by decide +kernel
theorem dL_key_63 : decode cL_key 63 = .ok (.ireturn, 1) := by decide +kernel
theorem dL_key_64 : decode cL_key 64 = .ok (.iload_n 0, 1) := by decide +kernel
theorem dL_key_65 : decode cL_key 65 = .ok (.aload_n 1, 1) := by decide +kernel
theorem dL_key_66 : decode cL_key 66 = .ok (.iconst 3, 1) := by decide +kernel
theorem dL_key_67 : decode cL_key 67 = .ok (.iaload, 1) := by decide +kernel
theorem dL_key_68 : decode cL_key 68 = .ok (.if_icmp .ge 13, 3) := by decide +kernel
theorem dL_key_71 : decode cL_key 71 = .ok (.iload_n 2, 1) := by decide +kernel
theorem dL_key_72 : decode cL_key 72 = .ok (.ifCond .ne 9, 3) := by decide +kernel
theorem dL_key_75 : decode cL_key 75 = .ok (.aload_n 1, 1) := by decide +kernel
theorem dL_key_76 : decode cL_key 76 = .ok (.iconst 2, 1) := by decide +kernel
theorem dL_key_77 : decode cL_key 77 = .ok (.iaload, 1) := by decide +kernel
theorem dL_key_78 : decode cL_key 78 = .ok (.goto 6, 3) := by decide +kernel
theorem dL_key_81 : decode cL_key 81 = .ok (.aload_n 1, 1) := by decide +kernel
theorem dL_key_82 : decode cL_key 82 = .ok (.iconst 1, 1) := by decide +kernel
theorem dL_key_83 : decode cL_key 83 = .ok (.iaload, 1) := by decide +kernel
theorem dL_key_84 : decode cL_key 84 = .ok (.ireturn, 1) := by decide +kernel
theorem dL_plain_0 : decode cL_plain 0 = .ok (.aload_n 2, 1) := by decide +kernel
theorem dL_plain_1 : decode cL_plain 1 = .ok (.iload_n 0, 1) := by decide +kernel
theorem dL_plain_2 : decode cL_plain 2 = .ok (.iaload, 1) := by decide +kernel
theorem dL_plain_3 : decode cL_plain 3 = .ok (.iload_n 0, 1) := by decide +kernel
theorem dL_plain_4 : decode cL_plain 4 = .ok (.aload_n 1, 1) := by decide +kernel
theorem dL_plain_5 : decode cL_plain 5 = .ok (.bipush 10, 2) := by decide +kernel
theorem dL_plain_7 : decode cL_plain 7 = .ok (.iload_n 0, 1) := by decide +kernel
theorem dL_plain_8 : decode cL_plain 8 = .ok (.aload_n 1, 1) := by decide +kernel
theorem dL_plain_9 : decode cL_plain 9 = .ok (.invokestatic 22, 3) := by decide +kernel
theorem dL_plain_12 : decode cL_plain 12 = .ok (.iadd, 1) := by decide +kernel
theorem dL_plain_13 : decode cL_plain 13 = .ok (.iaload, 1) := by decide +kernel
theorem dL_plain_14 : decode cL_plain 14 = .ok (.invokestatic 26, 3) := by decide +kernel
theorem dL_plain_17 : decode cL_plain 17 = .ok (.ireturn, 1) := by decide +kernel
theorem dL_close_0 : decode cL_close 0 = .ok (.aload_n 0, 1) := by decide +kernel
theorem dL_close_1 : decode cL_close 1 = .ok (.iconst 5, 1) := by decide +kernel
theorem dL_close_2 : decode cL_close 2 = .ok (.iconst 0, 1) := by decide +kernel
theorem dL_close_3 : decode cL_close 3 = .ok (.iastore, 1) := by decide +kernel
theorem dL_close_4 : decode cL_close 4 = .ok (.aload_n 0, 1) := by decide +kernel
theorem dL_close_5 : decode cL_close 5 = .ok (.bipush 6, 2) := by decide +kernel
theorem dL_close_7 : decode cL_close 7 = .ok (.iconst 0, 1) := by decide +kernel
theorem dL_close_8 : decode cL_close 8 = .ok (.iastore, 1) := by decide +kernel
theorem dL_close_9 : decode cL_close 9 = .ok (.iconst 0, 1) := by decide +kernel
theorem dL_close_10 : decode cL_close 10 = .ok (.istore_n 2, 1) := by decide +kernel
theorem dL_close_11 : decode cL_close 11 = .ok (.iload_n 2, 1) := by decide +kernel
theorem dL_close_12 : decode cL_close 12 = .ok (.bipush 20, 2) := by decide +kernel
theorem dL_close_14 : decode cL_close 14 = .ok (.if_icmp .ge 14, 3) := by decide +kernel
theorem dL_close_17 : decode cL_close 17 = .ok (.aload_n 1, 1) := by decide +kernel
theorem dL_close_18 : decode cL_close 18 = .ok (.iload_n 2, 1) := by decide +kernel
theorem dL_close_19 : decode cL_close 19 = .ok (.bipush (-6), 2) := by decide +kernel
theorem dL_close_21 : decode cL_close 21 = .ok (.iastore, 1) := by decide +kernel
theorem dL_close_22 : decode cL_close 22 = .ok (.iinc 2 1, 3) := by decide +kernel
theorem dL_close_25 : decode cL_close 25 = .ok (.goto (-14), 3) := by decide +kernel
theorem dL_close_28 : decode cL_close 28 = .ok (.return_, 1) := by decide +kernel
theorem dL_end_0 : decode cL_end 0 = .ok (.aload_n 0, 1) := by decide +kernel
theorem dL_end_1 : decode cL_end 1 = .ok (.iconst 4, 1) := by decide +kernel
theorem dL_end_2 : decode cL_end 2 = .ok (.iaload, 1) := by decide +kernel
theorem dL_end_3 : decode cL_end 3 = .ok (.iconst 1, 1) := by decide +kernel
theorem dL_end_4 : decode cL_end 4 = .ok (.if_icmp .ne 16, 3) := by decide +kernel
theorem dL_end_7 : decode cL_end 7 = .ok (.aload_n 0, 1) := by decide +kernel
theorem dL_end_8 : decode cL_end 8 = .ok (.iconst 3, 1) := by decide +kernel
theorem dL_end_9 : decode cL_end 9 = .ok (.iaload, 1) := by decide +kernel
theorem dL_end_10 : decode cL_end 10 = .ok (.aload_n 0, 1) := by decide +kernel
theorem dL_end_11 : decode cL_end 11 = .ok (.iconst 0, 1) := by decide +kernel
theorem dL_end_12 : decode cL_end 12 = .ok (.iaload, 1) := by decide +kernel
theorem dL_end_13 : decode cL_end 13 = .ok (.if_icmp .ne 7, 3) := by decide +kernel
theorem dL_end_16 : decode cL_end 16 = .ok (.iconst 1, 1) := by decide +kernel
theorem dL_end_17 : decode cL_end 17 = .ok (.goto 4, 3) := by decide +kernel
theorem dL_end_20 : decode cL_end 20 = .ok (.iconst 0, 1) := by decide +kernel
theorem dL_end_21 : decode cL_end 21 = .ok (.istore_n 2, 1) := by decide +kernel
theorem dL_end_22 : decode cL_end 22 = .ok (.iload_n 2, 1) := by decide +kernel
theorem dL_end_23 : decode cL_end 23 = .ok (.ifCond .ne 17, 3) := by decide +kernel
theorem dL_end_26 : decode cL_end 26 = .ok (.aload_n 0, 1) := by decide +kernel
theorem dL_end_27 : decode cL_end 27 = .ok (.iconst 4, 1) := by decide +kernel
theorem dL_end_28 : decode cL_end 28 = .ok (.iaload, 1) := by decide +kernel
theorem dL_end_29 : decode cL_end 29 = .ok (.iconst 1, 1) := by decide +kernel
theorem dL_end_30 : decode cL_end 30 = .ok (.if_icmp .eq 9, 3) := by decide +kernel
theorem dL_end_33 : decode cL_end 33 = .ok (.aload_n 0, 1) := by decide +kernel
theorem dL_end_34 : decode cL_end 34 = .ok (.iconst 3, 1) := by decide +kernel
theorem dL_end_35 : decode cL_end 35 = .ok (.iaload, 1) := by decide +kernel
theorem dL_end_36 : decode cL_end 36 = .ok (.ifCond .le 4, 3) := by decide +kernel
theorem dL_end_39 : decode cL_end 39 = .ok (.return_, 1) := by decide +kernel
theorem dL_end_40 : decode cL_end 40 = .ok (.iload_n 2, 1) := by decide +kernel
theorem dL_end_41 : decode cL_end 41 = .ok (.ifCond .eq 17, 3) := by decide +kernel
theorem dL_end_44 : decode cL_end 44 = .ok (.aload_n 0, 1) := by decide +kernel
theorem dL_end_45 : decode cL_end 45 = .ok (.iconst 1, 1) := by decide +kernel
theorem dL_end_46 : decode cL_end 46 = .ok (.aload_n 0, 1) := by decide +kernel
theorem dL_end_47 : decode cL_end 47 = .ok (.iconst 2, 1) := by decide +kernel
theorem dL_end_48 : decode cL_end 48 = .ok (.iaload, 1) := by decide +kernel
theorem dL_end_49 : decode cL_end 49 = .ok (.iastore, 1) := by decide +kernel
theorem dL_end_50 : decode cL_end 50 = .ok (.aload_n 0, 1) := by decide +kernel
theorem dL_end_51 : decode cL_end 51 = .ok (.bipush 9, 2) := by decide +kernel
theorem dL_end_53 : decode cL_end 53 = .ok (.dup2, 1) := by decide +kernel
theorem dL_end_54 : decode cL_end 54 = .ok (.iaload, 1) := by decide +kernel
theorem dL_end_55 : decode cL_end 55 = .ok (.iconst 1, 1) := by decide +kernel
theorem dL_end_56 : decode cL_end 56 = .ok (.iadd, 1) := by decide +kernel
theorem dL_end_57 : decode cL_end 57 = .ok (.iastore, 1) := by decide +kernel
theorem dL_end_58 : decode cL_end 58 = .ok (.aload_n 0, 1) := by decide +kernel
theorem dL_end_59 : decode cL_end 59 = .ok (.iconst 2, 1) := by decide +kernel
theorem dL_end_60 : decode cL_end 60 = .ok (.bipush (-6), 2) := by decide +kernel
theorem dL_end_62 : decode cL_end 62 = .ok (.iastore, 1) := by decide +kernel
theorem dL_end_63 : decode cL_end 63 = .ok (.aload_n 0, 1) := by decide +kernel
theorem dL_end_64 : decode cL_end 64 = .ok (.iconst 3, 1) := by decide +kernel
theorem dL_end_65 : decode cL_end 65 = .ok (.bipush (-6), 2) := by decide +kernel
theorem dL_end_67 : decode cL_end 67 = .ok (.iastore, 1) := by decide +kernel
theorem dL_end_68 : decode cL_end 68 = .ok (.aload_n 0, 1) := by decide +kernel
theorem dL_end_69 : decode cL_end 69 = .ok (.iconst 4, 1) := by decide +kernel
theorem dL_end_70 : decode cL_end 70 = .ok (.bipush (-6), 2) := by decide +kernel
theorem dL_end_72 : decode cL_end 72 = .ok (.iastore, 1) := by decide +kernel
theorem dL_end_73 : decode cL_end 73 = .ok (.aload_n 0, 1) := by decide +kernel
theorem dL_end_74 : decode cL_end 74 = .ok (.aload_n 1, 1) := by decide +kernel
theorem dL_end_75 : decode cL_end 75 = .ok (.invokestatic 30, 3) := by decide +kernel
theorem dL_end_78 : decode cL_end 78 = .ok (.return_, 1) := by decide +kernel
theorem dL_step_0 : decode cL_step 0 = .ok (.aload_n 0, 1) := by decide +kernel
theorem dL_step_1 : decode cL_step 1 = .ok (.iconst 2, 1) := by decide +kernel
theorem dL_step_2 : decode cL_step 2 = .ok (.iaload, 1) := by decide +kernel
theorem dL_step_3 : decode cL_step 3 = .ok (.ifCond .ge 5, 3) := by decide +kernel
theorem dL_step_6 : decode cL_step 6 = .ok (.iconst 0, 1) := by decide +kernel
theorem dL_step_7 : decode cL_step 7 = .ok (.ireturn, 1) := by decide +kernel
theorem dL_step_8 : decode cL_step 8 = .ok (.aload_n 0, 1) := by decide +kernel
theorem dL_step_9 : decode cL_step 9 = .ok (.invokestatic 16, 3) := by decide +kernel
theorem dL_step_12 : decode cL_step 12 = .ok (.istore_n 3, 1) := by decide +kernel
theorem dL_step_13 : decode cL_step 13 = .ok (.aload_n 0, 1) := by decide +kernel
theorem dL_step_14 : decode cL_step 14 = .ok (.invokestatic 34, 3) := by decide +kernel
theorem dL_step_17 : decode cL_step 17 = .ok (.istore 4, 2) := by decide +kernel
theorem dL_step_19 : decode cL_step 19 = .ok (.aload_n 0, 1) := by decide +kernel
theorem dL_step_20 : decode cL_step 20 = .ok (.bipush 8, 2) := by decide +kernel
theorem dL_step_22 : decode cL_step 22 = .ok (.iaload, 1) := by decide +kernel
theorem dL_step_23 : decode cL_step 23 = .ok (.iconst 1, 1) := by decide +kernel
theorem dL_step_24 : decode cL_step 24 = .ok (.if_icmp .ne 48, 3) := by decide +kernel
theorem dL_step_27 : decode cL_step 27 = .ok (.aload_n 0, 1) := by decide +kernel
theorem dL_step_28 : decode cL_step 28 = .ok (.bipush 6, 2) := by decide +kernel
theorem dL_step_30 : decode cL_step 30 = .ok (.iaload, 1) := by decide +kernel
theorem dL_step_31 : decode cL_step 31 = .ok (.ifCond .ne 41, 3) := by decide +kernel
theorem dL_step_34 : decode cL_step 34 = .ok (.aload_n 0, 1) := by decide +kernel
theorem dL_step_35 : decode cL_step 35 = .ok (.iconst 5, 1) := by decide +kernel
theorem dL_step_36 : decode cL_step 36 = .ok (.iaload, 1) := by decide +kernel
theorem dL_step_37 : decode cL_step 37 = .ok (.ifCond .ne 35, 3) := by decide +kernel
theorem dL_step_40 : decode cL_step 40 = .ok (.iload_n 3, 1) := by decide +kernel
theorem dL_step_41 : decode cL_step 41 = .ok (.istore 5, 2) := by decide +kernel
theorem dL_step_43 : decode cL_step 43 = .ok (.iload 5, 2) := by decide +kernel
theorem dL_step_45 : decode cL_step 45 = .ok (.iload 4, 2) := by decide +kernel
theorem dL_step_47 : decode cL_step 47 = .ok (.if_icmp .ge 17, 3) := by decide +kernel
theorem dL_step_50 : decode cL_step 50 = .ok (.aload_n 2, 1) := by decide +kernel
theorem dL_step_51 : decode cL_step 51 = .ok (.iload 5, 2) := by decide +kernel
theorem dL_step_53 : decode cL_step 53 = .ok (.aload_n 1, 1) := by decide +kernel
theorem dL_step_54 : decode cL_step 54 = .ok (.iload 5, 2) := by decide +kernel
theorem dL_step_56 : decode cL_step 56 = .ok (.iaload, 1) := by decide +kernel
theorem dL_step_57 : decode cL_step 57 = .ok (.iastore, 1) := by decide +kernel
theorem dL_step_58 : decode cL_step 58 = .ok (.iinc 5 1, 3) := by decide +kernel
theorem dL_step_61 : decode cL_step 61 = .ok (.goto (-18), 3) := by decide +kernel
theorem dL_step_64 : decode cL_step 64 = .ok (.aload_n 0, 1) := by decide +kernel
theorem dL_step_65 : decode cL_step 65 = .ok (.bipush 6, 2) := by decide +kernel
theorem dL_step_67 : decode cL_step 67 = .ok (.iconst 1, 1) := by decide +kernel
theorem dL_step_68 : decode cL_step 68 = .ok (.iastore, 1) := by decide +kernel
theorem dL_step_69 : decode cL_step 69 = .ok (.goto 102, 3) := by decide +kernel
theorem dL_step_72 : decode cL_step 72 = .ok (.iload_n 3, 1) := by decide +kernel
theorem dL_step_73 : decode cL_step 73 = .ok (.aload_n 0, 1) := by decide +kernel
theorem dL_step_74 : decode cL_step 74 = .ok (.iconst 5, 1) := by decide +kernel
theorem dL_step_75 : decode cL_step 75 = .ok (.iaload, 1) := by decide +kernel
theorem dL_step_76 : decode cL_step 76 = .ok (.iadd, 1) := by decide +kernel
theorem dL_step_77 : decode cL_step 77 = .ok (.iload 4, 2) := by decide +kernel
theorem dL_step_79 : decode cL_step 79 = .ok (.if_icmp .ge 66, 3) := by decide +kernel
theorem dL_step_82 : decode cL_step 82 = .ok (.iload_n 3, 1) := by decide +kernel
theorem dL_step_83 : decode cL_step 83 = .ok (.aload_n 0, 1) := by decide +kernel
theorem dL_step_84 : decode cL_step 84 = .ok (.iconst 5, 1) := by decide +kernel
theorem dL_step_85 : decode cL_step 85 = .ok (.iaload, 1) := by decide +kernel
theorem dL_step_86 : decode cL_step 86 = .ok (.iadd, 1) := by decide +kernel
theorem dL_step_87 : decode cL_step 87 = .ok (.istore 5, 2) := by decide +kernel
theorem dL_step_89 : decode cL_step 89 = .ok (.iload 5, 2) := by decide +kernel
theorem dL_step_91 : decode cL_step 91 = .ok (.aload_n 0, 1) := by decide +kernel
theorem dL_step_92 : decode cL_step 92 = .ok (.invokestatic 22, 3) := by decide +kernel
theorem dL_step_95 : decode cL_step 95 = .ok (.aload_n 0, 1) := by decide +kernel
theorem dL_step_96 : decode cL_step 96 = .ok (.iconst 1, 1) := by decide +kernel
theorem dL_step_97 : decode cL_step 97 = .ok (.iaload, 1) := by decide +kernel
theorem dL_step_98 : decode cL_step 98 = .ok (.if_icmp .ne 9, 3) := by decide +kernel
theorem dL_step_101 : decode cL_step 101 = .ok (.aload_n 0, 1) := by decide +kernel
theorem dL_step_102 : decode cL_step 102 = .ok (.iconst 2, 1) := by decide +kernel
theorem dL_step_103 : decode cL_step 103 = .ok (.iaload, 1) := by decide +kernel
theorem dL_step_104 : decode cL_step 104 = .ok (.goto 6, 3) := by decide +kernel
theorem dL_step_107 : decode cL_step 107 = .ok (.aload_n 0, 1) := by decide +kernel
theorem dL_step_108 : decode cL_step 108 = .ok (.iconst 1, 1) := by decide +kernel
theorem dL_step_109 : decode cL_step 109 = .ok (.iaload, 1) := by decide +kernel
theorem dL_step_110 : decode cL_step 110 = .ok (.istore 6, 2) := by decide +kernel
theorem dL_step_112 : decode cL_step 112 = .ok (.aload_n 1, 1) := by decide +kernel
theorem dL_step_113 : decode cL_step 113 = .ok (.iload 5, 2) := by decide +kernel
theorem dL_step_115 : decode cL_step 115 = .ok (.iload 5, 2) := by decide +kernel
theorem dL_step_117 : decode cL_step 117 = .ok (.aload_n 0, 1) := by decide +kernel
theorem dL_step_118 : decode cL_step 118 = .ok (.aload_n 1, 1) := by decide +kernel
theorem dL_step_119 : decode cL_step 119 = .ok (.invokestatic 37, 3) := by decide +kernel
theorem dL_step_122 : decode cL_step 122 = .ok (.iload 5, 2) := by decide +kernel
theorem dL_step_124 : decode cL_step 124 = .ok (.aload_n 0, 1) := by decide +kernel
theorem dL_step_125 : decode cL_step 125 = .ok (.bipush 10, 2) := by decide +kernel
theorem dL_step_127 : decode cL_step 127 = .ok (.iload 6, 2) := by decide +kernel
theorem dL_step_129 : decode cL_step 129 = .ok (.iadd, 1) := by decide +kernel
theorem dL_step_130 : decode cL_step 130 = .ok (.iaload, 1) := by decide +kernel
theorem dL_step_131 : decode cL_step 131 = .ok (.invokestatic 26, 3) := by decide +kernel
theorem dL_step_134 : decode cL_step 134 = .ok (.iastore, 1) := by decide +kernel
theorem dL_step_135 : decode cL_step 135 = .ok (.aload_n 0, 1) := by decide +kernel
theorem dL_step_136 : decode cL_step 136 = .ok (.iconst 5, 1) := by decide +kernel
theorem dL_step_137 : decode cL_step 137 = .ok (.dup2, 1) := by decide +kernel
theorem dL_step_138 : decode cL_step 138 = .ok (.iaload, 1) := by decide +kernel
theorem dL_step_139 : decode cL_step 139 = .ok (.iconst 1, 1) := by decide +kernel
theorem dL_step_140 : decode cL_step 140 = .ok (.iadd, 1) := by decide +kernel
theorem dL_step_141 : decode cL_step 141 = .ok (.iastore, 1) := by decide +kernel
theorem dL_step_142 : decode cL_step 142 = .ok (.goto 29, 3) := by decide +kernel
theorem dL_step_145 : decode cL_step 145 = .ok (.aload_n 0, 1) := by decide +kernel
theorem dL_step_146 : decode cL_step 146 = .ok (.iconst 3, 1) := by decide +kernel
theorem dL_step_147 : decode cL_step 147 = .ok (.aload_n 0, 1) := by decide +kernel
theorem dL_step_148 : decode cL_step 148 = .ok (.iconst 4, 1) := by decide +kernel
theorem dL_step_149 : decode cL_step 149 = .ok (.iaload, 1) := by decide +kernel
theorem dL_step_150 : decode cL_step 150 = .ok (.iconst 1, 1) := by decide +kernel
theorem dL_step_151 : decode cL_step 151 = .ok (.if_icmp .ne 8, 3) := by decide +kernel
theorem dL_step_154 : decode cL_step 154 = .ok (.iload 4, 2) := by decide +kernel
theorem dL_step_156 : decode cL_step 156 = .ok (.goto 4, 3) := by decide +kernel
theorem dL_step_159 : decode cL_step 159 = .ok (.iload_n 3, 1) := by decide +kernel
theorem dL_step_160 : decode cL_step 160 = .ok (.iastore, 1) := by decide +kernel
theorem dL_step_161 : decode cL_step 161 = .ok (.aload_n 0, 1) := by decide +kernel
theorem dL_step_162 : decode cL_step 162 = .ok (.aload_n 2, 1) := by decide +kernel
theorem dL_step_163 : decode cL_step 163 = .ok (.invokestatic 30, 3) := by decide +kernel
theorem dL_step_166 : decode cL_step 166 = .ok (.aload_n 0, 1) := by decide +kernel
theorem dL_step_167 : decode cL_step 167 = .ok (.aload_n 2, 1) := by decide +kernel
theorem dL_step_168 : decode cL_step 168 = .ok (.invokestatic 41, 3) := by decide +kernel
theorem dL_step_171 : decode cL_step 171 = .ok (.iconst 1, 1) := by decide +kernel
theorem dL_step_172 : decode cL_step 172 = .ok (.ireturn, 1) := by decide +kernel
theorem dL_fail_0 : decode cL_fail 0 = .ok (.iconst 0, 1) := by decide +kernel
theorem dL_fail_1 : decode cL_fail 1 = .ok (.istore 4, 2) := by decide +kernel
theorem dL_fail_3 : decode cL_fail 3 = .ok (.iload 4, 2) := by decide +kernel
theorem dL_fail_5 : decode cL_fail 5 = .ok (.aload_n 0, 1) := by decide +kernel
theorem dL_fail_6 : decode cL_fail 6 = .ok (.iconst 0, 1) := by decide +kernel
theorem dL_fail_7 : decode cL_fail 7 = .ok (.iaload, 1) := by decide +kernel
theorem dL_fail_8 : decode cL_fail 8 = .ok (.if_icmp .ge 30, 3) := by decide +kernel
theorem dL_fail_11 : decode cL_fail 11 = .ok (.aload_n 2, 1) := by decide +kernel
theorem dL_fail_12 : decode cL_fail 12 = .ok (.iload 4, 2) := by decide +kernel
theorem dL_fail_14 : decode cL_fail 14 = .ok (.bipush (-6), 2) := by decide +kernel
theorem dL_fail_16 : decode cL_fail 16 = .ok (.iastore, 1) := by decide +kernel
theorem dL_fail_17 : decode cL_fail 17 = .ok (.aload_n 3, 1) := by decide +kernel
theorem dL_fail_18 : decode cL_fail 18 = .ok (.iload 4, 2) := by decide +kernel
theorem dL_fail_20 : decode cL_fail 20 = .ok (.iaload, 1) := by decide +kernel
theorem dL_fail_21 : decode cL_fail 21 = .ok (.ifCond .lt 11, 3) := by decide +kernel
theorem dL_fail_24 : decode cL_fail 24 = .ok (.aload_n 1, 1) := by decide +kernel
theorem dL_fail_25 : decode cL_fail 25 = .ok (.iload 4, 2) := by decide +kernel
theorem dL_fail_27 : decode cL_fail 27 = .ok (.aload_n 3, 1) := by decide +kernel
theorem dL_fail_28 : decode cL_fail 28 = .ok (.iload 4, 2) := by decide +kernel
theorem dL_fail_30 : decode cL_fail 30 = .ok (.iaload, 1) := by decide +kernel
theorem dL_fail_31 : decode cL_fail 31 = .ok (.iastore, 1) := by decide +kernel
theorem dL_fail_32 : decode cL_fail 32 = .ok (.iinc 4 1, 3) := by decide +kernel
theorem dL_fail_35 : decode cL_fail 35 = .ok (.goto (-32), 3) := by decide +kernel
theorem dL_fail_38 : decode cL_fail 38 = .ok (.aload_n 0, 1) := by decide +kernel
theorem dL_fail_39 : decode cL_fail 39 = .ok (.aload_n 3, 1) := by decide +kernel
theorem dL_fail_40 : decode cL_fail 40 = .ok (.invokestatic 30, 3) := by decide +kernel
theorem dL_fail_43 : decode cL_fail 43 = .ok (.aload_n 0, 1) := by decide +kernel
theorem dL_fail_44 : decode cL_fail 44 = .ok (.bipush 10, 2) := by decide +kernel
theorem dL_fail_46 : decode cL_fail 46 = .ok (.dup2, 1) := by decide +kernel
theorem dL_fail_47 : decode cL_fail 47 = .ok (.iaload, 1) := by decide +kernel
theorem dL_fail_48 : decode cL_fail 48 = .ok (.iconst 1, 1) := by decide +kernel
theorem dL_fail_49 : decode cL_fail 49 = .ok (.iadd, 1) := by decide +kernel
theorem dL_fail_50 : decode cL_fail 50 = .ok (.iastore, 1) := by decide +kernel
theorem dL_fail_51 : decode cL_fail 51 = .ok (.return_, 1) := by decide +kernel
theorem dL_damaged_0 : decode cL_damaged 0 = .ok (.iconst 0, 1) := by decide +kernel
theorem dL_damaged_1 : decode cL_damaged 1 = .ok (.istore 4, 2) := by decide +kernel
theorem dL_damaged_3 : decode cL_damaged 3 = .ok (.iconst 0, 1) := by decide +kernel
theorem dL_damaged_4 : decode cL_damaged 4 = .ok (.istore 5, 2) := by decide +kernel
theorem dL_damaged_6 : decode cL_damaged 6 = .ok (.iload 5, 2) := by decide +kernel
theorem dL_damaged_8 : decode cL_damaged 8 = .ok (.aload_n 0, 1) := by decide +kernel
theorem dL_damaged_9 : decode cL_damaged 9 = .ok (.iconst 0, 1) := by decide +kernel
theorem dL_damaged_10 : decode cL_damaged 10 = .ok (.iaload, 1) := by decide +kernel
theorem dL_damaged_11 : decode cL_damaged 11 = .ok (.if_icmp .ge 47, 3) := by decide +kernel
theorem dL_damaged_14 : decode cL_damaged 14 = .ok (.iload 4, 2) := by decide +kernel
theorem dL_damaged_16 : decode cL_damaged 16 = .ok (.aload_n 2, 1) := by decide +kernel
theorem dL_damaged_17 : decode cL_damaged 17 = .ok (.iload 5, 2) := by decide +kernel
theorem dL_damaged_19 : decode cL_damaged 19 = .ok (.iaload, 1) := by decide +kernel
theorem dL_damaged_20 : decode cL_damaged 20 = .ok (.ifCond .ge 13, 3) := by decide +kernel
theorem dL_damaged_23 : decode cL_damaged 23 = .ok (.iload 5, 2) := by decide +kernel
theorem dL_damaged_25 : decode cL_damaged 25 = .ok (.aload_n 0, 1) := by decide +kernel
theorem dL_damaged_26 : decode cL_damaged 26 = .ok (.aload_n 1, 1) := by decide +kernel
theorem dL_damaged_27 : decode cL_damaged 27 = .ok (.invokestatic 37, 3) := by decide +kernel
theorem dL_damaged_30 : decode cL_damaged 30 = .ok (.goto 7, 3) := by decide +kernel
theorem dL_damaged_33 : decode cL_damaged 33 = .ok (.aload_n 2, 1) := by decide +kernel
theorem dL_damaged_34 : decode cL_damaged 34 = .ok (.iload 5, 2) := by decide +kernel
theorem dL_damaged_36 : decode cL_damaged 36 = .ok (.iaload, 1) := by decide +kernel
theorem dL_damaged_37 : decode cL_damaged 37 = .ok (.aload_n 3, 1) := by decide +kernel
theorem dL_damaged_38 : decode cL_damaged 38 = .ok (.iload 5, 2) := by decide +kernel
theorem dL_damaged_40 : decode cL_damaged 40 = .ok (.iaload, 1) := by decide +kernel
theorem dL_damaged_41 : decode cL_damaged 41 = .ok (.if_icmp .ne 7, 3) := by decide +kernel
theorem dL_damaged_44 : decode cL_damaged 44 = .ok (.iconst 0, 1) := by decide +kernel
theorem dL_damaged_45 : decode cL_damaged 45 = .ok (.goto 4, 3) := by decide +kernel
theorem dL_damaged_48 : decode cL_damaged 48 = .ok (.iconst 1, 1) := by decide +kernel
theorem dL_damaged_49 : decode cL_damaged 49 = .ok (.iadd, 1) := by decide +kernel
theorem dL_damaged_50 : decode cL_damaged 50 = .ok (.istore 4, 2) := by decide +kernel
theorem dL_damaged_52 : decode cL_damaged 52 = .ok (.iinc 5 1, 3) := by decide +kernel
theorem dL_damaged_55 : decode cL_damaged 55 = .ok (.goto (-49), 3) := by decide +kernel
theorem dL_damaged_58 : decode cL_damaged 58 = .ok (.iload 4, 2) := by decide +kernel
theorem dL_damaged_60 : decode cL_damaged 60 = .ok (.ireturn, 1) := by decide +kernel
theorem dL_cached_0 : decode cL_cached 0 = .ok (.iconst 0, 1) := by decide +kernel
theorem dL_cached_1 : decode cL_cached 1 = .ok (.istore_n 2, 1) := by decide +kernel
theorem dL_cached_2 : decode cL_cached 2 = .ok (.iconst 0, 1) := by decide +kernel
theorem dL_cached_3 : decode cL_cached 3 = .ok (.istore_n 3, 1) := by decide +kernel
theorem dL_cached_4 : decode cL_cached 4 = .ok (.iload_n 3, 1) := by decide +kernel
theorem dL_cached_5 : decode cL_cached 5 = .ok (.aload_n 0, 1) := by decide +kernel
theorem dL_cached_6 : decode cL_cached 6 = .ok (.iconst 0, 1) := by decide +kernel
theorem dL_cached_7 : decode cL_cached 7 = .ok (.iaload, 1) := by decide +kernel
theorem dL_cached_8 : decode cL_cached 8 = .ok (.if_icmp .ge 23, 3) := by decide +kernel
theorem dL_cached_11 : decode cL_cached 11 = .ok (.iload_n 2, 1) := by decide +kernel
theorem dL_cached_12 : decode cL_cached 12 = .ok (.aload_n 1, 1) := by decide +kernel
theorem dL_cached_13 : decode cL_cached 13 = .ok (.iload_n 3, 1) := by decide +kernel
theorem dL_cached_14 : decode cL_cached 14 = .ok (.iaload, 1) := by decide +kernel
theorem dL_cached_15 : decode cL_cached 15 = .ok (.ifCond .ge 7, 3) := by decide +kernel
theorem dL_cached_18 : decode cL_cached 18 = .ok (.iconst 0, 1) := by decide +kernel
theorem dL_cached_19 : decode cL_cached 19 = .ok (.goto 4, 3) := by decide +kernel
theorem dL_cached_22 : decode cL_cached 22 = .ok (.iconst 1, 1) := by decide +kernel
theorem dL_cached_23 : decode cL_cached 23 = .ok (.iadd, 1) := by decide +kernel
theorem dL_cached_24 : decode cL_cached 24 = .ok (.istore_n 2, 1) := by decide +kernel
theorem dL_cached_25 : decode cL_cached 25 = .ok (.iinc 3 1, 3) := by decide +kernel
theorem dL_cached_28 : decode cL_cached 28 = .ok (.goto (-24), 3) := by decide +kernel
theorem dL_cached_31 : decode cL_cached 31 = .ok (.iload_n 2, 1) := by decide +kernel
theorem dL_cached_32 : decode cL_cached 32 = .ok (.ireturn, 1) := by decide +kernel
theorem dL_then_0 : decode cL_then 0 = .ok (.bipush 16, 2) := by decide +kernel
theorem dL_then_2 : decode cL_then 2 = .ok (.newarray .int, 2) := by decide +kernel
theorem dL_then_4 : decode cL_then 4 = .ok (.astore 7, 2) := by decide +kernel
theorem dL_then_6 : decode cL_then 6 = .ok (.bipush 20, 2) := by decide +kernel
theorem dL_then_8 : decode cL_then 8 = .ok (.newarray .int, 2) := by decide +kernel
theorem dL_then_10 : decode cL_then 10 = .ok (.astore 8, 2) := by decide +kernel
theorem dL_then_12 : decode cL_then 12 = .ok (.bipush 20, 2) := by decide +kernel
theorem dL_then_14 : decode cL_then 14 = .ok (.newarray .int, 2) := by decide +kernel
theorem dL_then_16 : decode cL_then 16 = .ok (.astore 9, 2) := by decide +kernel
theorem dL_then_18 : decode cL_then 18 = .ok (.bipush 20, 2) := by decide +kernel
theorem dL_then_20 : decode cL_then 20 = .ok (.newarray .int, 2) := by decide +kernel
theorem dL_then_22 : decode cL_then 22 = .ok (.astore 10, 2) := by decide +kernel
theorem dL_then_24 : decode cL_then 24 = .ok (.iconst 0, 1) := by decide +kernel
theorem dL_then_25 : decode cL_then 25 = .ok (.istore 11, 2) := by decide +kernel
theorem dL_then_27 : decode cL_then 27 = .ok (.iload 11, 2) := by decide +kernel
theorem dL_then_29 : decode cL_then 29 = .ok (.bipush 20, 2) := by decide +kernel
theorem dL_then_31 : decode cL_then 31 = .ok (.if_icmp .ge 54, 3) := by decide +kernel
theorem dL_then_34 : decode cL_then 34 = .ok (.iload 11, 2) := by decide +kernel
theorem dL_then_36 : decode cL_then 36 = .ok (.bipush 16, 2) := by decide +kernel
theorem dL_then_38 : decode cL_then 38 = .ok (.if_icmp .ge 12, 3) := by decide +kernel
theorem dL_then_41 : decode cL_then 41 = .ok (.aload 7, 2) := by decide +kernel
theorem dL_then_43 : decode cL_then 43 = .ok (.iload 11, 2) := by decide +kernel
theorem dL_then_45 : decode cL_then 45 = .ok (.aload_n 2, 1) := by decide +kernel
theorem dL_then_46 : decode cL_then 46 = .ok (.iload 11, 2) := by decide +kernel
theorem dL_then_48 : decode cL_then 48 = .ok (.iaload, 1) := by decide +kernel
theorem dL_then_49 : decode cL_then 49 = .ok (.iastore, 1) := by decide +kernel
theorem dL_then_50 : decode cL_then 50 = .ok (.aload 8, 2) := by decide +kernel
theorem dL_then_52 : decode cL_then 52 = .ok (.iload 11, 2) := by decide +kernel
theorem dL_then_54 : decode cL_then 54 = .ok (.aload_n 3, 1) := by decide +kernel
theorem dL_then_55 : decode cL_then 55 = .ok (.iload 11, 2) := by decide +kernel
theorem dL_then_57 : decode cL_then 57 = .ok (.iaload, 1) := by decide +kernel
theorem dL_then_58 : decode cL_then 58 = .ok (.iastore, 1) := by decide +kernel
theorem dL_then_59 : decode cL_then 59 = .ok (.aload 9, 2) := by decide +kernel
theorem dL_then_61 : decode cL_then 61 = .ok (.iload 11, 2) := by decide +kernel
theorem dL_then_63 : decode cL_then 63 = .ok (.aload 4, 2) := by decide +kernel
theorem dL_then_65 : decode cL_then 65 = .ok (.iload 11, 2) := by decide +kernel
theorem dL_then_67 : decode cL_then 67 = .ok (.iaload, 1) := by decide +kernel
theorem dL_then_68 : decode cL_then 68 = .ok (.iastore, 1) := by decide +kernel
theorem dL_then_69 : decode cL_then 69 = .ok (.aload 10, 2) := by decide +kernel
theorem dL_then_71 : decode cL_then 71 = .ok (.iload 11, 2) := by decide +kernel
theorem dL_then_73 : decode cL_then 73 = .ok (.aload 6, 2) := by decide +kernel
theorem dL_then_75 : decode cL_then 75 = .ok (.iload 11, 2) := by decide +kernel
theorem dL_then_77 : decode cL_then 77 = .ok (.iaload, 1) := by decide +kernel
theorem dL_then_78 : decode cL_then 78 = .ok (.iastore, 1) := by decide +kernel
theorem dL_then_79 : decode cL_then 79 = .ok (.iinc 11 1, 3) := by decide +kernel
theorem dL_then_82 : decode cL_then 82 = .ok (.goto (-55), 3) := by decide +kernel
theorem dL_then_85 : decode cL_then 85 = .ok (.iconst 0, 1) := by decide +kernel
theorem dL_then_86 : decode cL_then 86 = .ok (.istore 11, 2) := by decide +kernel
theorem dL_then_88 : decode cL_then 88 = .ok (.iload 11, 2) := by decide +kernel
theorem dL_then_90 : decode cL_then 90 = .ok (.iload_n 0, 1) := by decide +kernel
theorem dL_then_91 : decode cL_then 91 = .ok (.if_icmp .ge 21, 3) := by decide +kernel
theorem dL_then_94 : decode cL_then 94 = .ok (.aload 7, 2) := by decide +kernel
theorem dL_then_96 : decode cL_then 96 = .ok (.aload 8, 2) := by decide +kernel
theorem dL_then_98 : decode cL_then 98 = .ok (.aload 10, 2) := by decide +kernel
theorem dL_then_100 : decode cL_then 100 = .ok (.invokestatic 44, 3) := by decide +kernel
theorem dL_then_103 : decode cL_then 103 = .ok (.ifCond .eq 9, 3) := by decide +kernel
theorem dL_then_106 : decode cL_then 106 = .ok (.iinc 11 1, 3) := by decide +kernel
theorem dL_then_109 : decode cL_then 109 = .ok (.goto (-21), 3) := by decide +kernel
theorem dL_then_112 : decode cL_then 112 = .ok (.iload_n 1, 1) := by decide +kernel
theorem dL_then_113 : decode cL_then 113 = .ok (.ifCond .ne 6, 3) := by decide +kernel
theorem dL_then_116 : decode cL_then 116 = .ok (.iload 11, 2) := by decide +kernel
theorem dL_then_118 : decode cL_then 118 = .ok (.ireturn, 1) := by decide +kernel
theorem dL_then_119 : decode cL_then 119 = .ok (.aload 7, 2) := by decide +kernel
theorem dL_then_121 : decode cL_then 121 = .ok (.aload 8, 2) := by decide +kernel
theorem dL_then_123 : decode cL_then 123 = .ok (.aload 9, 2) := by decide +kernel
theorem dL_then_125 : decode cL_then 125 = .ok (.aload 10, 2) := by decide +kernel
theorem dL_then_127 : decode cL_then 127 = .ok (.invokestatic 48, 3) := by decide +kernel
theorem dL_then_130 : decode cL_then 130 = .ok (.aload 7, 2) := by decide +kernel
theorem dL_then_132 : decode cL_then 132 = .ok (.aload 8, 2) := by decide +kernel
theorem dL_then_134 : decode cL_then 134 = .ok (.aload 9, 2) := by decide +kernel
theorem dL_then_136 : decode cL_then 136 = .ok (.aload 5, 2) := by decide +kernel
theorem dL_then_138 : decode cL_then 138 = .ok (.invokestatic 52, 3) := by decide +kernel
theorem dL_then_141 : decode cL_then 141 = .ok (.ireturn, 1) := by decide +kernel
theorem dL_same_0 : decode cL_same 0 = .ok (.iconst 0, 1) := by decide +kernel
theorem dL_same_1 : decode cL_same 1 = .ok (.istore 7, 2) := by decide +kernel
theorem dL_same_3 : decode cL_same 3 = .ok (.bipush (-6), 2) := by decide +kernel
theorem dL_same_5 : decode cL_same 5 = .ok (.istore 8, 2) := by decide +kernel
theorem dL_same_7 : decode cL_same 7 = .ok (.aload_n 2, 1) := by decide +kernel
theorem dL_same_8 : decode cL_same 8 = .ok (.iconst 5, 1) := by decide +kernel
theorem dL_same_9 : decode cL_same 9 = .ok (.iaload, 1) := by decide +kernel
theorem dL_same_10 : decode cL_same 10 = .ok (.ifCond .gt 10, 3) := by decide +kernel

theorem dX5_init_0 : decode cX5_init 0 = .ok (.aload_n 0, 1) := by decide +kernel
theorem dX5_init_1 : decode cX5_init 1 = .ok (.invokespecial 1, 3) := by decide +kernel
theorem dX5_init_4 : decode cX5_init 4 = .ok (.aload_n 0, 1) := by decide +kernel
theorem dX5_init_5 : decode cX5_init 5 = .ok (.sipush 367, 3) := by decide +kernel
theorem dX5_init_8 : decode cX5_init 8 = .ok (.newarray .int, 2) := by decide +kernel
theorem dX5_init_10 : decode cX5_init 10 = .ok (.putfield 7, 3) := by decide +kernel
theorem dX5_init_13 : decode cX5_init 13 = .ok (.aload_n 0, 1) := by decide +kernel
theorem dX5_init_14 : decode cX5_init 14 = .ok (.sipush 367, 3) := by decide +kernel
theorem dX5_init_17 : decode cX5_init 17 = .ok (.newarray .int, 2) := by decide +kernel
theorem dX5_init_19 : decode cX5_init 19 = .ok (.putfield 13, 3) := by decide +kernel
theorem dX5_init_22 : decode cX5_init 22 = .ok (.aload_n 0, 1) := by decide +kernel
theorem dX5_init_23 : decode cX5_init 23 = .ok (.sipush 367, 3) := by decide +kernel
theorem dX5_init_26 : decode cX5_init 26 = .ok (.newarray .int, 2) := by decide +kernel
theorem dX5_init_28 : decode cX5_init 28 = .ok (.putfield 16, 3) := by decide +kernel
theorem dX5_init_31 : decode cX5_init 31 = .ok (.aload_n 0, 1) := by decide +kernel
theorem dX5_init_32 : decode cX5_init 32 = .ok (.sipush 2202, 3) := by decide +kernel
theorem dX5_init_35 : decode cX5_init 35 = .ok (.newarray .int, 2) := by decide +kernel
theorem dX5_init_37 : decode cX5_init 37 = .ok (.putfield 19, 3) := by decide +kernel
theorem dX5_init_40 : decode cX5_init 40 = .ok (.aload_n 0, 1) := by decide +kernel
theorem dX5_init_41 : decode cX5_init 41 = .ok (.bipush 80, 2) := by decide +kernel
theorem dX5_init_43 : decode cX5_init 43 = .ok (.newarray .int, 2) := by decide +kernel
theorem dX5_init_45 : decode cX5_init 45 = .ok (.putfield 22, 3) := by decide +kernel
theorem dX5_init_48 : decode cX5_init 48 = .ok (.aload_n 0, 1) := by decide +kernel
theorem dX5_init_49 : decode cX5_init 49 = .ok (.bipush 64, 2) := by decide +kernel
theorem dX5_init_51 : decode cX5_init 51 = .ok (.newarray .int, 2) := by decide +kernel
theorem dX5_init_53 : decode cX5_init 53 = .ok (.putfield 25, 3) := by decide +kernel
theorem dX5_init_56 : decode cX5_init 56 = .ok (.iconst 0, 1) := by decide +kernel
theorem dX5_init_57 : decode cX5_init 57 = .ok (.istore_n 1, 1) := by decide +kernel
theorem dX5_init_58 : decode cX5_init 58 = .ok (.iload_n 1, 1) := by decide +kernel
theorem dX5_init_59 : decode cX5_init 59 = .ok (.bipush 100, 2) := by decide +kernel
theorem dX5_init_61 : decode cX5_init 61 = .ok (.if_icmp .ge 20, 3) := by decide +kernel
theorem dX5_init_64 : decode cX5_init 64 = .ok (.aload_n 0, 1) := by decide +kernel
theorem dX5_init_65 : decode cX5_init 65 = .ok (.getfield 7, 3) := by decide +kernel
theorem dX5_init_68 : decode cX5_init 68 = .ok (.bipush 11, 2) := by decide +kernel
theorem dX5_init_70 : decode cX5_init 70 = .ok (.iload_n 1, 1) := by decide +kernel
theorem dX5_init_71 : decode cX5_init 71 = .ok (.iadd, 1) := by decide +kernel
theorem dX5_init_72 : decode cX5_init 72 = .ok (.bipush (-6), 2) := by decide +kernel
theorem dX5_init_74 : decode cX5_init 74 = .ok (.iastore, 1) := by decide +kernel
theorem dX5_init_75 : decode cX5_init 75 = .ok (.iinc 1 1, 3) := by decide +kernel
theorem dX5_init_78 : decode cX5_init 78 = .ok (.goto (-20), 3) := by decide +kernel
theorem dX5_init_81 : decode cX5_init 81 = .ok (.aload_n 0, 1) := by decide +kernel
theorem dX5_init_82 : decode cX5_init 82 = .ok (.getfield 7, 3) := by decide +kernel
theorem dX5_init_85 : decode cX5_init 85 = .ok (.iconst 1, 1) := by decide +kernel
theorem dX5_init_86 : decode cX5_init 86 = .ok (.iconst 1, 1) := by decide +kernel
theorem dX5_init_87 : decode cX5_init 87 = .ok (.iastore, 1) := by decide +kernel
theorem dX5_init_88 : decode cX5_init 88 = .ok (.aload_n 0, 1) := by decide +kernel
theorem dX5_init_89 : decode cX5_init 89 = .ok (.getfield 7, 3) := by decide +kernel
theorem dX5_init_92 : decode cX5_init 92 = .ok (.bipush 12, 2) := by decide +kernel
theorem dX5_init_94 : decode cX5_init 94 = .ok (.iconst 0, 1) := by decide +kernel
theorem dX5_init_95 : decode cX5_init 95 = .ok (.iastore, 1) := by decide +kernel
theorem dX5_init_96 : decode cX5_init 96 = .ok (.aload_n 0, 1) := by decide +kernel
theorem dX5_init_97 : decode cX5_init 97 = .ok (.getfield 7, 3) := by decide +kernel
theorem dX5_init_100 : decode cX5_init 100 = .ok (.bipush 7, 2) := by decide +kernel
theorem dX5_init_102 : decode cX5_init 102 = .ok (.iconst 4, 1) := by decide +kernel
theorem dX5_init_103 : decode cX5_init 103 = .ok (.iastore, 1) := by decide +kernel
theorem dX5_init_104 : decode cX5_init 104 = .ok (.aload_n 0, 1) := by decide +kernel
theorem dX5_init_105 : decode cX5_init 105 = .ok (.getfield 7, 3) := by decide +kernel
theorem dX5_init_108 : decode cX5_init 108 = .ok (.bipush 8, 2) := by decide +kernel
theorem dX5_init_110 : decode cX5_init 110 = .ok (.iconst 1, 1) := by decide +kernel
theorem dX5_init_111 : decode cX5_init 111 = .ok (.iastore, 1) := by decide +kernel
theorem dX5_init_112 : decode cX5_init 112 = .ok (.aload_n 0, 1) := by decide +kernel
theorem dX5_init_113 : decode cX5_init 113 = .ok (.bipush 16, 2) := by decide +kernel
theorem dX5_init_115 : decode cX5_init 115 = .ok (.invokevirtual 28, 3) := by decide +kernel
theorem dX5_init_118 : decode cX5_init 118 = .ok (.return_, 1) := by decide +kernel
theorem dX5_within_0 : decode cX5_within 0 = .ok (.iload_n 0, 1) := by decide +kernel
theorem dX5_within_1 : decode cX5_within 1 = .ok (.iload_n 1, 1) := by decide +kernel
theorem dX5_within_2 : decode cX5_within 2 = .ok (.if_icmp .lt 12, 3) := by decide +kernel
theorem dX5_within_5 : decode cX5_within 5 = .ok (.iload_n 0, 1) := by decide +kernel
theorem dX5_within_6 : decode cX5_within 6 = .ok (.iload_n 2, 1) := by decide +kernel
theorem dX5_within_7 : decode cX5_within 7 = .ok (.if_icmp .gt 7, 3) := by decide +kernel
theorem dX5_within_10 : decode cX5_within 10 = .ok (.iconst 1, 1) := by decide +kernel
theorem dX5_within_11 : decode cX5_within 11 = .ok (.goto 4, 3) := by decide +kernel
theorem dX5_within_14 : decode cX5_within 14 = .ok (.iconst 0, 1) := by decide +kernel
theorem dX5_within_15 : decode cX5_within 15 = .ok (.ireturn, 1) := by decide +kernel
theorem dX5_copies_0 : decode cX5_copies 0 = .ok (.iconst 0, 1) := by decide +kernel
theorem dX5_copies_1 : decode cX5_copies 1 = .ok (.istore 4, 2) := by decide +kernel
theorem dX5_copies_3 : decode cX5_copies 3 = .ok (.iload 4, 2) := by decide +kernel
theorem dX5_copies_5 : decode cX5_copies 5 = .ok (.sipush 367, 3) := by decide +kernel
theorem dX5_copies_8 : decode cX5_copies 8 = .ok (.if_icmp .ge 21, 3) := by decide +kernel
theorem dX5_copies_11 : decode cX5_copies 11 = .ok (.aload_n 2, 1) := by decide +kernel
theorem dX5_copies_12 : decode cX5_copies 12 = .ok (.iload_n 3, 1) := by decide +kernel
theorem dX5_copies_13 : decode cX5_copies 13 = .ok (.iload 4, 2) := by decide +kernel
theorem dX5_copies_15 : decode cX5_copies 15 = .ok (.iadd, 1) := by decide +kernel
theorem dX5_copies_16 : decode cX5_copies 16 = .ok (.aload_n 0, 1) := by decide +kernel
theorem dX5_copies_17 : decode cX5_copies 17 = .ok (.iload_n 1, 1) := by decide +kernel
theorem dX5_copies_18 : decode cX5_copies 18 = .ok (.iload 4, 2) := by decide +kernel
theorem dX5_copies_20 : decode cX5_copies 20 = .ok (.iadd, 1) := by decide +kernel
theorem dX5_copies_21 : decode cX5_copies 21 = .ok (.iaload, 1) := by decide +kernel
theorem dX5_copies_22 : decode cX5_copies 22 = .ok (.iastore, 1) := by decide +kernel
theorem dX5_copies_23 : decode cX5_copies 23 = .ok (.iinc 4 1, 3) := by decide +kernel
theorem dX5_copies_26 : decode cX5_copies 26 = .ok (.goto (-23), 3) := by decide +kernel
theorem dX5_copies_29 : decode cX5_copies 29 = .ok (.return_, 1) := by decide +kernel
theorem dX5_record_0 : decode cX5_record 0 = .ok (.aload_n 0, 1) := by decide +kernel
theorem dX5_record_1 : decode cX5_record 1 = .ok (.getfield 32, 3) := by decide +kernel
theorem dX5_record_4 : decode cX5_record 4 = .ok (.bipush 6, 2) := by decide +kernel
theorem dX5_record_6 : decode cX5_record 6 = .ok (.if_icmp .ne 44, 3) := by decide +kernel
theorem dX5_record_9 : decode cX5_record 9 = .ok (.iconst 0, 1) := by decide +kernel
theorem dX5_record_10 : decode cX5_record 10 = .ok (.istore_n 1, 1) := by decide +kernel
theorem dX5_record_11 : decode cX5_record 11 = .ok (.iload_n 1, 1) := by decide +kernel
theorem dX5_record_12 : decode cX5_record 12 = .ok (.sipush 1835, 3) := by decide +kernel
theorem dX5_record_15 : decode cX5_record 15 = .ok (.if_icmp .ge 25, 3) := by decide +kernel
theorem dX5_record_18 : decode cX5_record 18 = .ok (.aload_n 0, 1) := by decide +kernel
theorem dX5_record_19 : decode cX5_record 19 = .ok (.getfield 19, 3) := by decide +kernel
theorem dX5_record_22 : decode cX5_record 22 = .ok (.iload_n 1, 1) := by decide +kernel
theorem dX5_record_23 : decode cX5_record 23 = .ok (.aload_n 0, 1) := by decide +kernel
theorem dX5_record_24 : decode cX5_record 24 = .ok (.getfield 19, 3) := by decide +kernel
theorem dX5_record_27 : decode cX5_record 27 = .ok (.iload_n 1, 1) := by decide +kernel
theorem dX5_record_28 : decode cX5_record 28 = .ok (.sipush 367, 3) := by decide +kernel
theorem dX5_record_31 : decode cX5_record 31 = .ok (.iadd, 1) := by decide +kernel
theorem dX5_record_32 : decode cX5_record 32 = .ok (.iaload, 1) := by decide +kernel
theorem dX5_record_33 : decode cX5_record 33 = .ok (.iastore, 1) := by decide +kernel
theorem dX5_record_34 : decode cX5_record 34 = .ok (.iinc 1 1, 3) := by decide +kernel
theorem dX5_record_37 : decode cX5_record 37 = .ok (.goto (-26), 3) := by decide +kernel
theorem dX5_record_40 : decode cX5_record 40 = .ok (.aload_n 0, 1) := by decide +kernel
theorem dX5_record_41 : decode cX5_record 41 = .ok (.dup, 1) := by decide +kernel
theorem dX5_record_42 : decode cX5_record 42 = .ok (.getfield 32, 3) := by decide +kernel
theorem dX5_record_45 : decode cX5_record 45 = .ok (.iconst 1, 1) := by decide +kernel
theorem dX5_record_46 : decode cX5_record 46 = .ok (.isub, 1) := by decide +kernel
theorem dX5_record_47 : decode cX5_record 47 = .ok (.putfield 32, 3) := by decide +kernel
theorem dX5_record_50 : decode cX5_record 50 = .ok (.aload_n 0, 1) := by decide +kernel
theorem dX5_record_51 : decode cX5_record 51 = .ok (.getfield 7, 3) := by decide +kernel
theorem dX5_record_54 : decode cX5_record 54 = .ok (.iconst 0, 1) := by decide +kernel
theorem dX5_record_55 : decode cX5_record 55 = .ok (.aload_n 0, 1) := by decide +kernel
theorem dX5_record_56 : decode cX5_record 56 = .ok (.getfield 19, 3) := by decide +kernel
theorem dX5_record_59 : decode cX5_record 59 = .ok (.aload_n 0, 1) := by decide +kernel
theorem dX5_record_60 : decode cX5_record 60 = .ok (.getfield 32, 3) := by decide +kernel
theorem dX5_record_63 : decode cX5_record 63 = .ok (.sipush 367, 3) := by decide +kernel
theorem dX5_record_66 : decode cX5_record 66 = .ok (.imul, 1) := by decide +kernel
theorem dX5_record_67 : decode cX5_record 67 = .ok (.invokestatic 36, 3) := by decide +kernel
theorem dX5_record_70 : decode cX5_record 70 = .ok (.aload_n 0, 1) := by decide +kernel
theorem dX5_record_71 : decode cX5_record 71 = .ok (.dup, 1) := by decide +kernel
theorem dX5_record_72 : decode cX5_record 72 = .ok (.getfield 32, 3) := by decide +kernel
theorem dX5_record_75 : decode cX5_record 75 = .ok (.iconst 1, 1) := by decide +kernel
theorem dX5_record_76 : decode cX5_record 76 = .ok (.iadd, 1) := by decide +kernel
theorem dX5_record_77 : decode cX5_record 77 = .ok (.putfield 32, 3) := by decide +kernel
theorem dX5_record_80 : decode cX5_record 80 = .ok (.return_, 1) := by decide +kernel
theorem dX5_scramble_0 : decode cX5_scramble 0 = .ok (.iload_n 0, 1) := by decide +kernel
theorem dX5_scramble_1 : decode cX5_scramble 1 = .ok (.ldc 40, 2) := by decide +kernel
theorem dX5_scramble_3 : decode cX5_scramble 3 = .ok (.iload_n 2, 1) := by decide +kernel
theorem dX5_scramble_4 : decode cX5_scramble 4 = .ok (.imul, 1) := by decide +kernel
theorem dX5_scramble_5 : decode cX5_scramble 5 = .ok (.sipush 30011, 3) := by decide +kernel
theorem dX5_scramble_8 : decode cX5_scramble 8 = .ok (.iload_n 1, 1) := by decide +kernel
theorem dX5_scramble_9 : decode cX5_scramble 9 = .ok (.imul, 1) := by decide +kernel
theorem dX5_scramble_10 : decode cX5_scramble 10 = .ok (.iadd, 1) := by decide +kernel
theorem dX5_scramble_11 : decode cX5_scramble 11 = .ok (.sipush 12345, 3) := by decide +kernel
theorem dX5_scramble_14 : decode cX5_scramble 14 = .ok (.iadd, 1) := by decide +kernel
theorem dX5_scramble_15 : decode cX5_scramble 15 = .ok (.ldc 41, 2) := by decide +kernel
theorem dX5_scramble_17 : decode cX5_scramble 17 = .ok (.iand, 1) := by decide +kernel
theorem dX5_scramble_18 : decode cX5_scramble 18 = .ok (.ixor, 1) := by decide +kernel
theorem dX5_scramble_19 : decode cX5_scramble 19 = .ok (.ireturn, 1) := by decide +kernel
theorem dX5_formats_0 : decode cX5_formats 0 = .ok (.aload_n 0, 1) := by decide +kernel
theorem dX5_formats_1 : decode cX5_formats 1 = .ok (.getfield 7, 3) := by decide +kernel
theorem dX5_formats_4 : decode cX5_formats 4 = .ok (.iconst 0, 1) := by decide +kernel
theorem dX5_formats_5 : decode cX5_formats 5 = .ok (.iload_n 1, 1) := by decide +kernel
theorem dX5_formats_6 : decode cX5_formats 6 = .ok (.iastore, 1) := by decide +kernel
theorem dX5_formats_7 : decode cX5_formats 7 = .ok (.aload_n 0, 1) := by decide +kernel
theorem dX5_formats_8 : decode cX5_formats 8 = .ok (.invokevirtual 42, 3) := by decide +kernel
theorem dX5_formats_11 : decode cX5_formats 11 = .ok (.iconst 0, 1) := by decide +kernel
theorem dX5_formats_12 : decode cX5_formats 12 = .ok (.istore_n 2, 1) := by decide +kernel
theorem dX5_formats_13 : decode cX5_formats 13 = .ok (.iload_n 2, 1) := by decide +kernel
theorem dX5_formats_14 : decode cX5_formats 14 = .ok (.bipush 64, 2) := by decide +kernel
theorem dX5_formats_16 : decode cX5_formats 16 = .ok (.if_icmp .ge 69, 3) := by decide +kernel
theorem dX5_formats_19 : decode cX5_formats 19 = .ok (.aload_n 0, 1) := by decide +kernel
theorem dX5_formats_20 : decode cX5_formats 20 = .ok (.getfield 7, 3) := by decide +kernel
theorem dX5_formats_23 : decode cX5_formats 23 = .ok (.bipush 111, 2) := by decide +kernel
theorem dX5_formats_25 : decode cX5_formats 25 = .ok (.iload_n 2, 1) := by decide +kernel
theorem dX5_formats_26 : decode cX5_formats 26 = .ok (.iadd, 1) := by decide +kernel
theorem dX5_formats_27 : decode cX5_formats 27 = .ok (.iload_n 2, 1) := by decide +kernel
theorem dX5_formats_28 : decode cX5_formats 28 = .ok (.iload_n 1, 1) := by decide +kernel
theorem dX5_formats_29 : decode cX5_formats 29 = .ok (.if_icmp .ge 25, 3) := by decide +kernel
theorem dX5_formats_32 : decode cX5_formats 32 = .ok (.iconst 0, 1) := by decide +kernel
theorem dX5_formats_33 : decode cX5_formats 33 = .ok (.iload_n 2, 1) := by decide +kernel
theorem dX5_formats_34 : decode cX5_formats 34 = .ok (.aload_n 0, 1) := by decide +kernel
theorem dX5_formats_35 : decode cX5_formats 35 = .ok (.getfield 7, 3) := by decide +kernel
theorem dX5_formats_38 : decode cX5_formats 38 = .ok (.bipush 11, 2) := by decide +kernel
theorem dX5_formats_40 : decode cX5_formats 40 = .ok (.aload_n 0, 1) := by decide +kernel
theorem dX5_formats_41 : decode cX5_formats 41 = .ok (.getfield 7, 3) := by decide +kernel
theorem dX5_formats_44 : decode cX5_formats 44 = .ok (.iconst 1, 1) := by decide +kernel
theorem dX5_formats_45 : decode cX5_formats 45 = .ok (.iaload, 1) := by decide +kernel
theorem dX5_formats_46 : decode cX5_formats 46 = .ok (.iadd, 1) := by decide +kernel
theorem dX5_formats_47 : decode cX5_formats 47 = .ok (.iaload, 1) := by decide +kernel
theorem dX5_formats_48 : decode cX5_formats 48 = .ok (.invokestatic 45, 3) := by decide +kernel
theorem dX5_formats_51 : decode cX5_formats 51 = .ok (.goto 4, 3) := by decide +kernel
theorem dX5_formats_54 : decode cX5_formats 54 = .ok (.iconst 0, 1) := by decide +kernel
theorem dX5_formats_55 : decode cX5_formats 55 = .ok (.iastore, 1) := by decide +kernel
theorem dX5_formats_56 : decode cX5_formats 56 = .ok (.aload_n 0, 1) := by decide +kernel
theorem dX5_formats_57 : decode cX5_formats 57 = .ok (.getfield 7, 3) := by decide +kernel
theorem dX5_formats_60 : decode cX5_formats 60 = .ok (.sipush 239, 3) := by decide +kernel
theorem dX5_formats_63 : decode cX5_formats 63 = .ok (.iload_n 2, 1) := by decide +kernel
theorem dX5_formats_64 : decode cX5_formats 64 = .ok (.iadd, 1) := by decide +kernel
theorem dX5_formats_65 : decode cX5_formats 65 = .ok (.bipush (-6), 2) := by decide +kernel
theorem dX5_formats_67 : decode cX5_formats 67 = .ok (.iastore, 1) := by decide +kernel
theorem dX5_formats_68 : decode cX5_formats 68 = .ok (.aload_n 0, 1) := by decide +kernel
theorem dX5_formats_69 : decode cX5_formats 69 = .ok (.getfield 7, 3) := by decide +kernel
theorem dX5_formats_72 : decode cX5_formats 72 = .ok (.sipush 303, 3) := by decide +kernel
theorem dX5_formats_75 : decode cX5_formats 75 = .ok (.iload_n 2, 1) := by decide +kernel
theorem dX5_formats_76 : decode cX5_formats 76 = .ok (.iadd, 1) := by decide +kernel
theorem dX5_formats_77 : decode cX5_formats 77 = .ok (.iconst 0, 1) := by decide +kernel
theorem dX5_formats_78 : decode cX5_formats 78 = .ok (.iastore, 1) := by decide +kernel
theorem dX5_formats_79 : decode cX5_formats 79 = .ok (.iinc 2 1, 3) := by decide +kernel
theorem dX5_formats_82 : decode cX5_formats 82 = .ok (.goto (-69), 3) := by decide +kernel
theorem dX5_formats_85 : decode cX5_formats 85 = .ok (.return_, 1) := by decide +kernel
theorem dX5_ends_0 : decode cX5_ends 0 = .ok (.aload_n 0, 1) := by decide +kernel
theorem dX5_ends_1 : decode cX5_ends 1 = .ok (.getfield 7, 3) := by decide +kernel
theorem dX5_ends_4 : decode cX5_ends 4 = .ok (.iconst 2, 1) := by decide +kernel
theorem dX5_ends_5 : decode cX5_ends 5 = .ok (.bipush (-6), 2) := by decide +kernel
theorem dX5_ends_7 : decode cX5_ends 7 = .ok (.iastore, 1) := by decide +kernel
theorem dX5_ends_8 : decode cX5_ends 8 = .ok (.aload_n 0, 1) := by decide +kernel
theorem dX5_ends_9 : decode cX5_ends 9 = .ok (.getfield 7, 3) := by decide +kernel
theorem dX5_ends_12 : decode cX5_ends 12 = .ok (.iconst 3, 1) := by decide +kernel
theorem dX5_ends_13 : decode cX5_ends 13 = .ok (.bipush (-6), 2) := by decide +kernel
theorem dX5_ends_15 : decode cX5_ends 15 = .ok (.iastore, 1) := by decide +kernel
theorem dX5_ends_16 : decode cX5_ends 16 = .ok (.aload_n 0, 1) := by decide +kernel
theorem dX5_ends_17 : decode cX5_ends 17 = .ok (.getfield 7, 3) := by decide +kernel
theorem dX5_ends_20 : decode cX5_ends 20 = .ok (.iconst 4, 1) := by decide +kernel
theorem dX5_ends_21 : decode cX5_ends 21 = .ok (.bipush (-6), 2) := by decide +kernel
theorem dX5_ends_23 : decode cX5_ends 23 = .ok (.iastore, 1) := by decide +kernel
theorem dX5_ends_24 : decode cX5_ends 24 = .ok (.aload_n 0, 1) := by decide +kernel
theorem dX5_ends_25 : decode cX5_ends 25 = .ok (.invokevirtual 49, 3) := by decide +kernel
theorem dX5_ends_28 : decode cX5_ends 28 = .ok (.return_, 1) := by decide +kernel
theorem dX5_closes_0 : decode cX5_closes 0 = .ok (.aload_n 0, 1) := by decide +kernel
theorem dX5_closes_1 : decode cX5_closes 1 = .ok (.getfield 7, 3) := by decide +kernel
theorem dX5_closes_4 : decode cX5_closes 4 = .ok (.iconst 5, 1) := by decide +kernel
theorem dX5_closes_5 : decode cX5_closes 5 = .ok (.iconst 0, 1) := by decide +kernel
theorem dX5_closes_6 : decode cX5_closes 6 = .ok (.iastore, 1) := by decide +kernel
theorem dX5_closes_7 : decode cX5_closes 7 = .ok (.aload_n 0, 1) := by decide +kernel
theorem dX5_closes_8 : decode cX5_closes 8 = .ok (.getfield 7, 3) := by decide +kernel
theorem dX5_closes_11 : decode cX5_closes 11 = .ok (.bipush 6, 2) := by decide +kernel
theorem dX5_closes_13 : decode cX5_closes 13 = .ok (.iconst 0, 1) := by decide +kernel
theorem dX5_closes_14 : decode cX5_closes 14 = .ok (.iastore, 1) := by decide +kernel
theorem dX5_closes_15 : decode cX5_closes 15 = .ok (.iconst 0, 1) := by decide +kernel
theorem dX5_closes_16 : decode cX5_closes 16 = .ok (.istore_n 1, 1) := by decide +kernel
theorem dX5_closes_17 : decode cX5_closes 17 = .ok (.iload_n 1, 1) := by decide +kernel
theorem dX5_closes_18 : decode cX5_closes 18 = .ok (.bipush 64, 2) := by decide +kernel
theorem dX5_closes_20 : decode cX5_closes 20 = .ok (.if_icmp .ge 21, 3) := by decide +kernel
theorem dX5_closes_23 : decode cX5_closes 23 = .ok (.aload_n 0, 1) := by decide +kernel
theorem dX5_closes_24 : decode cX5_closes 24 = .ok (.getfield 7, 3) := by decide +kernel
theorem dX5_closes_27 : decode cX5_closes 27 = .ok (.sipush 175, 3) := by decide +kernel
theorem dX5_closes_30 : decode cX5_closes 30 = .ok (.iload_n 1, 1) := by decide +kernel
theorem dX5_closes_31 : decode cX5_closes 31 = .ok (.iadd, 1) := by decide +kernel
theorem dX5_closes_32 : decode cX5_closes 32 = .ok (.bipush (-6), 2) := by decide +kernel
theorem dX5_closes_34 : decode cX5_closes 34 = .ok (.iastore, 1) := by decide +kernel
theorem dX5_closes_35 : decode cX5_closes 35 = .ok (.iinc 1 1, 3) := by decide +kernel
theorem dX5_closes_38 : decode cX5_closes 38 = .ok (.goto (-21), 3) := by decide +kernel
theorem dX5_closes_41 : decode cX5_closes 41 = .ok (.return_, 1) := by decide +kernel
theorem dX5_isRekeying_0 : decode cX5_isRekeying 0 = .ok (.aload_n 0, 1) := by decide +kernel
theorem dX5_isRekeying_1 : decode cX5_isRekeying 1 = .ok (.getfield 7, 3) := by decide +kernel
theorem dX5_isRekeying_4 : decode cX5_isRekeying 4 = .ok (.iconst 2, 1) := by decide +kernel
theorem dX5_isRekeying_5 : decode cX5_isRekeying 5 = .ok (.iaload, 1) := by decide +kernel
theorem dX5_isRekeying_6 : decode cX5_isRekeying 6 = .ok (.bipush (-6), 2) := by decide +kernel
theorem dX5_isRekeying_8 : decode cX5_isRekeying 8 = .ok (.if_icmp .eq 7, 3) := by decide +kernel
theorem dX5_isRekeying_11 : decode cX5_isRekeying 11 = .ok (.iconst 1, 1) := by decide +kernel
theorem dX5_isRekeying_12 : decode cX5_isRekeying 12 = .ok (.goto 4, 3) := by decide +kernel
theorem dX5_isRekeying_15 : decode cX5_isRekeying 15 = .ok (.iconst 0, 1) := by decide +kernel
theorem dX5_isRekeying_16 : decode cX5_isRekeying 16 = .ok (.ireturn, 1) := by decide +kernel
theorem dX5_isOpen_0 : decode cX5_isOpen 0 = .ok (.aload_n 0, 1) := by decide +kernel
theorem dX5_isOpen_1 : decode cX5_isOpen 1 = .ok (.getfield 7, 3) := by decide +kernel
theorem dX5_isOpen_4 : decode cX5_isOpen 4 = .ok (.iconst 5, 1) := by decide +kernel
theorem dX5_isOpen_5 : decode cX5_isOpen 5 = .ok (.iaload, 1) := by decide +kernel
theorem dX5_isOpen_6 : decode cX5_isOpen 6 = .ok (.ifCond .gt 13, 3) := by decide +kernel
theorem dX5_isOpen_9 : decode cX5_isOpen 9 = .ok (.aload_n 0, 1) := by decide +kernel
theorem dX5_isOpen_10 : decode cX5_isOpen 10 = .ok (.getfield 7, 3) := by decide +kernel
theorem dX5_isOpen_13 : decode cX5_isOpen 13 = .ok (.bipush 6, 2) := by decide +kernel
theorem dX5_isOpen_15 : decode cX5_isOpen 15 = .ok (.iaload, 1) := by decide +kernel
theorem dX5_isOpen_16 : decode cX5_isOpen 16 = .ok (.ifCond .le 7, 3) := by decide +kernel
theorem dX5_isOpen_19 : decode cX5_isOpen 19 = .ok (.iconst 1, 1) := by decide +kernel
theorem dX5_isOpen_20 : decode cX5_isOpen 20 = .ok (.goto 4, 3) := by decide +kernel
theorem dX5_isOpen_23 : decode cX5_isOpen 23 = .ok (.iconst 0, 1) := by decide +kernel
theorem dX5_isOpen_24 : decode cX5_isOpen 24 = .ok (.ireturn, 1) := by decide +kernel
theorem dX5_isSector_0 : decode cX5_isSector 0 = .ok (.iload_n 1, 1) := by decide +kernel
theorem dX5_isSector_1 : decode cX5_isSector 1 = .ok (.iconst 0, 1) := by decide +kernel
theorem dX5_isSector_2 : decode cX5_isSector 2 = .ok (.aload_n 0, 1) := by decide +kernel
theorem dX5_isSector_3 : decode cX5_isSector 3 = .ok (.getfield 7, 3) := by decide +kernel
theorem dX5_isSector_6 : decode cX5_isSector 6 = .ok (.iconst 0, 1) := by decide +kernel
theorem dX5_isSector_7 : decode cX5_isSector 7 = .ok (.iaload, 1) := by decide +kernel
theorem dX5_isSector_8 : decode cX5_isSector 8 = .ok (.iconst 1, 1) := by decide +kernel
theorem dX5_isSector_9 : decode cX5_isSector 9 = .ok (.isub, 1) := by decide +kernel
theorem dX5_isSector_10 : decode cX5_isSector 10 = .ok (.invokestatic 52, 3) := by decide +kernel
theorem dX5_isSector_13 : decode cX5_isSector 13 = .ok (.ireturn, 1) := by decide +kernel
theorem dX5_isKey_0 : decode cX5_isKey 0 = .ok (.iload_n 1, 1) := by decide +kernel
theorem dX5_isKey_1 : decode cX5_isKey 1 = .ok (.iconst 1, 1) := by decide +kernel
theorem dX5_isKey_2 : decode cX5_isKey 2 = .ok (.bipush 99, 2) := by decide +kernel
theorem dX5_isKey_4 : decode cX5_isKey 4 = .ok (.invokestatic 52, 3) := by decide +kernel
theorem dX5_isKey_7 : decode cX5_isKey 7 = .ok (.ifCond .eq 21, 3) := by decide +kernel
theorem dX5_isKey_10 : decode cX5_isKey 10 = .ok (.aload_n 0, 1) := by decide +kernel
theorem dX5_isKey_11 : decode cX5_isKey 11 = .ok (.getfield 7, 3) := by decide +kernel
theorem dX5_isKey_14 : decode cX5_isKey 14 = .ok (.bipush 11, 2) := by decide +kernel
theorem dX5_isKey_16 : decode cX5_isKey 16 = .ok (.iload_n 1, 1) := by decide +kernel
theorem dX5_isKey_17 : decode cX5_isKey 17 = .ok (.iadd, 1) := by decide +kernel
theorem dX5_isKey_18 : decode cX5_isKey 18 = .ok (.iaload, 1) := by decide +kernel
theorem dX5_isKey_19 : decode cX5_isKey 19 = .ok (.bipush (-6), 2) := by decide +kernel
theorem dX5_isKey_21 : decode cX5_isKey 21 = .ok (.if_icmp .eq 7, 3) := by decide +kernel
theorem dX5_isKey_24 : decode cX5_isKey 24 = .ok (.iconst 1, 1) := by decide +kernel
theorem dX5_isKey_25 : decode cX5_isKey 25 = .ok (.goto 4, 3) := by decide +kernel
theorem dX5_isKey_28 : decode cX5_isKey 28 = .ok (.iconst 0, 1) := by decide +kernel
theorem dX5_isKey_29 : decode cX5_isKey 29 = .ok (.ireturn, 1) := by decide +kernel
theorem dX5_keysMany_0 : decode cX5_keysMany 0 = .ok (.iconst 0, 1) := by decide +kernel
theorem dX5_keysMany_1 : decode cX5_keysMany 1 = .ok (.istore_n 1, 1) := by decide +kernel
theorem dX5_keysMany_2 : decode cX5_keysMany 2 = .ok (.iconst 1, 1) := by decide +kernel
theorem dX5_keysMany_3 : decode cX5_keysMany 3 = .ok (.istore_n 2, 1) := by decide +kernel
theorem dX5_keysMany_4 : decode cX5_keysMany 4 = .ok (.iload_n 2, 1) := by decide +kernel
theorem dX5_keysMany_5 : decode cX5_keysMany 5 = .ok (.bipush 100, 2) := by decide +kernel
theorem dX5_keysMany_7 : decode cX5_keysMany 7 = .ok (.if_icmp .ge 31, 3) := by decide +kernel
theorem dX5_keysMany_10 : decode cX5_keysMany 10 = .ok (.iload_n 1, 1) := by decide +kernel
theorem dX5_keysMany_11 : decode cX5_keysMany 11 = .ok (.aload_n 0, 1) := by decide +kernel
theorem dX5_keysMany_12 : decode cX5_keysMany 12 = .ok (.getfield 7, 3) := by decide +kernel
theorem dX5_keysMany_15 : decode cX5_keysMany 15 = .ok (.bipush 11, 2) := by decide +kernel
theorem dX5_keysMany_17 : decode cX5_keysMany 17 = .ok (.iload_n 2, 1) := by decide +kernel
theorem dX5_keysMany_18 : decode cX5_keysMany 18 = .ok (.iadd, 1) := by decide +kernel
theorem dX5_keysMany_19 : decode cX5_keysMany 19 = .ok (.iaload, 1) := by decide +kernel
theorem dX5_keysMany_20 : decode cX5_keysMany 20 = .ok (.bipush (-6), 2) := by decide +kernel
theorem dX5_keysMany_22 : decode cX5_keysMany 22 = .ok (.if_icmp .ne 7, 3) := by decide +kernel
theorem dX5_keysMany_25 : decode cX5_keysMany 25 = .ok (.iconst 0, 1) := by decide +kernel
theorem dX5_keysMany_26 : decode cX5_keysMany 26 = .ok (.goto 4, 3) := by decide +kernel
theorem dX5_keysMany_29 : decode cX5_keysMany 29 = .ok (.iconst 1, 1) := by decide +kernel
theorem dX5_keysMany_30 : decode cX5_keysMany 30 = .ok (.iadd, 1) := by decide +kernel
theorem dX5_keysMany_31 : decode cX5_keysMany 31 = .ok (.istore_n 1, 1) := by decide +kernel
theorem dX5_keysMany_32 : decode cX5_keysMany 32 = .ok (.iinc 2 1, 3) := by decide +kernel
theorem dX5_keysMany_35 : decode cX5_keysMany 35 = .ok (.goto (-31), 3) := by decide +kernel
theorem dX5_keysMany_38 : decode cX5_keysMany 38 = .ok (.iload_n 1, 1) := by decide +kernel
theorem dX5_keysMany_39 : decode cX5_keysMany 39 = .ok (.ireturn, 1) := by decide +kernel
theorem dX5_zoneFrom_0 : decode cX5_zoneFrom 0 = .ok (.aload_n 0, 1) := by decide +kernel
theorem dX5_zoneFrom_1 : decode cX5_zoneFrom 1 = .ok (.getfield 7, 3) := by decide +kernel
theorem dX5_zoneFrom_4 : decode cX5_zoneFrom 4 = .ok (.iconst 3, 1) := by decide +kernel
theorem dX5_zoneFrom_5 : decode cX5_zoneFrom 5 = .ok (.iaload, 1) := by decide +kernel
theorem dX5_zoneFrom_6 : decode cX5_zoneFrom 6 = .ok (.aload_n 0, 1) := by decide +kernel
theorem dX5_zoneFrom_7 : decode cX5_zoneFrom 7 = .ok (.getfield 7, 3) := by decide +kernel
theorem dX5_zoneFrom_10 : decode cX5_zoneFrom 10 = .ok (.bipush 7, 2) := by decide +kernel
theorem dX5_zoneFrom_12 : decode cX5_zoneFrom 12 = .ok (.iaload, 1) := by decide +kernel
theorem dX5_zoneFrom_13 : decode cX5_zoneFrom 13 = .ok (.isub, 1) := by decide +kernel
theorem dX5_zoneFrom_14 : decode cX5_zoneFrom 14 = .ok (.istore_n 1, 1) := by decide +kernel
theorem dX5_zoneFrom_15 : decode cX5_zoneFrom 15 = .ok (.aload_n 0, 1) := by decide +kernel
theorem dX5_zoneFrom_16 : decode cX5_zoneFrom 16 = .ok (.getfield 7, 3) := by decide +kernel
theorem dX5_zoneFrom_19 : decode cX5_zoneFrom 19 = .ok (.iconst 4, 1) := by decide +kernel
theorem dX5_zoneFrom_20 : decode cX5_zoneFrom 20 = .ok (.iaload, 1) := by decide +kernel
theorem dX5_zoneFrom_21 : decode cX5_zoneFrom 21 = .ok (.iconst 1, 1) := by decide +kernel
theorem dX5_zoneFrom_22 : decode cX5_zoneFrom 22 = .ok (.if_icmp .ne 12, 3) := by decide +kernel
theorem dX5_zoneFrom_25 : decode cX5_zoneFrom 25 = .ok (.aload_n 0, 1) := by decide +kernel
theorem dX5_zoneFrom_26 : decode cX5_zoneFrom 26 = .ok (.getfield 7, 3) := by decide +kernel
theorem dX5_zoneFrom_29 : decode cX5_zoneFrom 29 = .ok (.iconst 3, 1) := by decide +kernel
theorem dX5_zoneFrom_30 : decode cX5_zoneFrom 30 = .ok (.iaload, 1) := by decide +kernel
theorem dX5_zoneFrom_31 : decode cX5_zoneFrom 31 = .ok (.goto 12, 3) := by decide +kernel
theorem dX5_zoneFrom_34 : decode cX5_zoneFrom 34 = .ok (.iload_n 1, 1) := by decide +kernel
theorem dX5_zoneFrom_35 : decode cX5_zoneFrom 35 = .ok (.ifCond .ge 7, 3) := by decide +kernel
theorem dX5_zoneFrom_38 : decode cX5_zoneFrom 38 = .ok (.iconst 0, 1) := by decide +kernel
theorem dX5_zoneFrom_39 : decode cX5_zoneFrom 39 = .ok (.goto 4, 3) := by decide +kernel
theorem dX5_zoneFrom_42 : decode cX5_zoneFrom 42 = .ok (.iload_n 1, 1) := by decide +kernel
theorem dX5_zoneFrom_43 : decode cX5_zoneFrom 43 = .ok (.ireturn, 1) := by decide +kernel
theorem dX5_zoneTo_0 : decode cX5_zoneTo 0 = .ok (.aload_n 0, 1) := by decide +kernel
theorem dX5_zoneTo_1 : decode cX5_zoneTo 1 = .ok (.getfield 7, 3) := by decide +kernel
theorem dX5_zoneTo_4 : decode cX5_zoneTo 4 = .ok (.iconst 3, 1) := by decide +kernel
theorem dX5_zoneTo_5 : decode cX5_zoneTo 5 = .ok (.iaload, 1) := by decide +kernel
theorem dX5_zoneTo_6 : decode cX5_zoneTo 6 = .ok (.aload_n 0, 1) := by decide +kernel
theorem dX5_zoneTo_7 : decode cX5_zoneTo 7 = .ok (.getfield 7, 3) := by decide +kernel
theorem dX5_zoneTo_10 : decode cX5_zoneTo 10 = .ok (.bipush 7, 2) := by decide +kernel
theorem dX5_zoneTo_12 : decode cX5_zoneTo 12 = .ok (.iaload, 1) := by decide +kernel
theorem dX5_zoneTo_13 : decode cX5_zoneTo 13 = .ok (.iadd, 1) := by decide +kernel
theorem dX5_zoneTo_14 : decode cX5_zoneTo 14 = .ok (.istore_n 1, 1) := by decide +kernel
theorem dX5_zoneTo_15 : decode cX5_zoneTo 15 = .ok (.aload_n 0, 1) := by decide +kernel
theorem dX5_zoneTo_16 : decode cX5_zoneTo 16 = .ok (.getfield 7, 3) := by decide +kernel
theorem dX5_zoneTo_19 : decode cX5_zoneTo 19 = .ok (.iconst 4, 1) := by decide +kernel
theorem dX5_zoneTo_20 : decode cX5_zoneTo 20 = .ok (.iaload, 1) := by decide +kernel
theorem dX5_zoneTo_21 : decode cX5_zoneTo 21 = .ok (.ifCond .ne 12, 3) := by decide +kernel
theorem dX5_zoneTo_24 : decode cX5_zoneTo 24 = .ok (.aload_n 0, 1) := by decide +kernel
theorem dX5_zoneTo_25 : decode cX5_zoneTo 25 = .ok (.getfield 7, 3) := by decide +kernel
theorem dX5_zoneTo_28 : decode cX5_zoneTo 28 = .ok (.iconst 3, 1) := by decide +kernel
theorem dX5_zoneTo_29 : decode cX5_zoneTo 29 = .ok (.iaload, 1) := by decide +kernel
theorem dX5_zoneTo_30 : decode cX5_zoneTo 30 = .ok (.goto 23, 3) := by decide +kernel
theorem dX5_zoneTo_33 : decode cX5_zoneTo 33 = .ok (.iload_n 1, 1) := by decide +kernel
theorem dX5_zoneTo_34 : decode cX5_zoneTo 34 = .ok (.aload_n 0, 1) := by decide +kernel
theorem dX5_zoneTo_35 : decode cX5_zoneTo 35 = .ok (.getfield 7, 3) := by decide +kernel
theorem dX5_zoneTo_38 : decode cX5_zoneTo 38 = .ok (.iconst 0, 1) := by decide +kernel
theorem dX5_zoneTo_39 : decode cX5_zoneTo 39 = .ok (.iaload, 1) := by decide +kernel
theorem dX5_zoneTo_40 : decode cX5_zoneTo 40 = .ok (.if_icmp .le 12, 3) := by decide +kernel
theorem dX5_zoneTo_43 : decode cX5_zoneTo 43 = .ok (.aload_n 0, 1) := by decide +kernel
theorem dX5_zoneTo_44 : decode cX5_zoneTo 44 = .ok (.getfield 7, 3) := by decide +kernel
theorem dX5_zoneTo_47 : decode cX5_zoneTo 47 = .ok (.iconst 0, 1) := by decide +kernel
theorem dX5_zoneTo_48 : decode cX5_zoneTo 48 = .ok (.iaload, 1) := by decide +kernel
theorem dX5_zoneTo_49 : decode cX5_zoneTo 49 = .ok (.goto 4, 3) := by decide +kernel
theorem dX5_zoneTo_52 : decode cX5_zoneTo 52 = .ok (.iload_n 1, 1) := by decide +kernel
theorem dX5_zoneTo_53 : decode cX5_zoneTo 53 = .ok (.ireturn, 1) := by decide +kernel
theorem dX5_isInZone_0 : decode cX5_isInZone 0 = .ok (.aload_n 0, 1) := by decide +kernel
theorem dX5_isInZone_1 : decode cX5_isInZone 1 = .ok (.invokevirtual 56, 3) := by decide +kernel
theorem dX5_isInZone_4 : decode cX5_isInZone 4 = .ok (.ifCond .eq 23, 3) := by decide +kernel
theorem dX5_isInZone_7 : decode cX5_isInZone 7 = .ok (.iload_n 1, 1) := by decide +kernel
theorem dX5_isInZone_8 : decode cX5_isInZone 8 = .ok (.aload_n 0, 1) := by decide +kernel
theorem dX5_isInZone_9 : decode cX5_isInZone 9 = .ok (.invokevirtual 60, 3) := by decide +kernel
theorem dX5_isInZone_12 : decode cX5_isInZone 12 = .ok (.if_icmp .lt 15, 3) := by decide +kernel
theorem dX5_isInZone_15 : decode cX5_isInZone 15 = .ok (.iload_n 1, 1) := by decide +kernel
theorem dX5_isInZone_16 : decode cX5_isInZone 16 = .ok (.aload_n 0, 1) := by decide +kernel
theorem dX5_isInZone_17 : decode cX5_isInZone 17 = .ok (.invokevirtual 64, 3) := by decide +kernel
theorem dX5_isInZone_20 : decode cX5_isInZone 20 = .ok (.if_icmp .ge 7, 3) := by decide +kernel
theorem dX5_isInZone_23 : decode cX5_isInZone 23 = .ok (.iconst 1, 1) := by decide +kernel
theorem dX5_isInZone_24 : decode cX5_isInZone 24 = .ok (.goto 4, 3) := by decide +kernel
theorem dX5_isInZone_27 : decode cX5_isInZone 27 = .ok (.iconst 0, 1) := by decide +kernel
theorem dX5_isInZone_28 : decode cX5_isInZone 28 = .ok (.ireturn, 1) := by decide +kernel
theorem dX5_isRewritten_0 : decode cX5_isRewritten 0 = .ok (.aload_n 0, 1) := by decide +kernel
theorem dX5_isRewritten_1 : decode cX5_isRewritten 1 = .ok (.iload_n 1, 1) := by decide +kernel
theorem dX5_isRewritten_2 : decode cX5_isRewritten 2 = .ok (.invokevirtual 67, 3) := by decide +kernel
theorem dX5_isRewritten_5 : decode cX5_isRewritten 5 = .ok (.ifCond .eq 22, 3) := by decide +kernel
theorem dX5_isRewritten_8 : decode cX5_isRewritten 8 = .ok (.iload_n 1, 1) := by decide +kernel
theorem dX5_isRewritten_9 : decode cX5_isRewritten 9 = .ok (.aload_n 0, 1) := by decide +kernel
theorem dX5_isRewritten_10 : decode cX5_isRewritten 10 = .ok (.invokevirtual 60, 3) := by decide +kernel
theorem dX5_isRewritten_13 : decode cX5_isRewritten 13 = .ok (.aload_n 0, 1) := by decide +kernel
theorem dX5_isRewritten_14 : decode cX5_isRewritten 14 = .ok (.getfield 7, 3) := by decide +kernel
theorem dX5_isRewritten_17 : decode cX5_isRewritten 17 = .ok (.iconst 5, 1) := by decide +kernel
theorem dX5_isRewritten_18 : decode cX5_isRewritten 18 = .ok (.iaload, 1) := by decide +kernel
theorem dX5_isRewritten_19 : decode cX5_isRewritten 19 = .ok (.iadd, 1) := by decide +kernel
theorem dX5_isRewritten_20 : decode cX5_isRewritten 20 = .ok (.if_icmp .ge 7, 3) := by decide +kernel
theorem dX5_isRewritten_23 : decode cX5_isRewritten 23 = .ok (.iconst 1, 1) := by decide +kernel
theorem dX5_isRewritten_24 : decode cX5_isRewritten 24 = .ok (.goto 4, 3) := by decide +kernel
theorem dX5_isRewritten_27 : decode cX5_isRewritten 27 = .ok (.iconst 0, 1) := by decide +kernel
theorem dX5_isRewritten_28 : decode cX5_isRewritten 28 = .ok (.ireturn, 1) := by decide +kernel
theorem dX5_keyAt_0 : decode cX5_keyAt 0 = .ok (.aload_n 0, 1) := by decide +kernel
theorem dX5_keyAt_1 : decode cX5_keyAt 1 = .ok (.invokevirtual 56, 3) := by decide +kernel
theorem dX5_keyAt_4 : decode cX5_keyAt 4 = .ok (.ifCond .ne 10, 3) := by decide +kernel
theorem dX5_keyAt_7 : decode cX5_keyAt 7 = .ok (.aload_n 0, 1) := by decide +kernel
theorem dX5_keyAt_8 : decode cX5_keyAt 8 = .ok (.getfield 7, 3) := by decide +kernel
theorem dX5_keyAt_11 : decode cX5_keyAt 11 = .ok (.iconst 1, 1) := by decide +kernel
theorem dX5_keyAt_12 : decode cX5_keyAt 12 = .ok (.iaload, 1) := by decide +kernel
theorem dX5_keyAt_13 : decode cX5_keyAt 13 = .ok (.ireturn, 1) := by decide +kernel
theorem dX5_keyAt_14 : decode cX5_keyAt 14 = .ok (.iload_n 1, 1) := by decide +kernel
theorem dX5_keyAt_15 : decode cX5_keyAt 15 = .ok (.aload_n 0, 1) := by decide +kernel
theorem dX5_keyAt_16 : decode cX5_keyAt 16 = .ok (.getfield 7, 3) := by decide +kernel
theorem dX5_keyAt_19 : decode cX5_keyAt 19 = .ok (.iconst 3, 1) := by decide +kernel
theorem dX5_keyAt_20 : decode cX5_keyAt 20 = .ok (.iaload, 1) := by decide +kernel
theorem dX5_keyAt_21 : decode cX5_keyAt 21 = .ok (.if_icmp .ge 7, 3) := by decide +kernel
theorem dX5_keyAt_24 : decode cX5_keyAt 24 = .ok (.iconst 1, 1) := by decide +kernel
theorem dX5_keyAt_25 : decode cX5_keyAt 25 = .ok (.goto 4, 3) := by decide +kernel
theorem dX5_keyAt_28 : decode cX5_keyAt 28 = .ok (.iconst 0, 1) := by decide +kernel
theorem dX5_keyAt_29 : decode cX5_keyAt 29 = .ok (.aload_n 0, 1) := by decide +kernel
theorem dX5_keyAt_30 : decode cX5_keyAt 30 = .ok (.iload_n 1, 1) := by decide +kernel
theorem dX5_keyAt_31 : decode cX5_keyAt 31 = .ok (.invokevirtual 71, 3) := by decide +kernel
theorem dX5_keyAt_34 : decode cX5_keyAt 34 = .ok (.if_icmp .eq 7, 3) := by decide +kernel
theorem dX5_keyAt_37 : decode cX5_keyAt 37 = .ok (.iconst 1, 1) := by decide +kernel
theorem dX5_keyAt_38 : decode cX5_keyAt 38 = .ok (.goto 4, 3) := by decide +kernel
theorem dX5_keyAt_41 : decode cX5_keyAt 41 = .ok (.iconst 0, 1) := by decide +kernel
theorem dX5_keyAt_42 : decode cX5_keyAt 42 = .ok (.istore_n 2, 1) := by decide +kernel
theorem dX5_keyAt_43 : decode cX5_keyAt 43 = .ok (.iload_n 2, 1) := by decide +kernel
theorem dX5_keyAt_44 : decode cX5_keyAt 44 = .ok (.ifCond .eq 12, 3) := by decide +kernel
theorem dX5_keyAt_47 : decode cX5_keyAt 47 = .ok (.aload_n 0, 1) := by decide +kernel
theorem dX5_keyAt_48 : decode cX5_keyAt 48 = .ok (.getfield 7, 3) := by decide +kernel
theorem dX5_keyAt_51 : decode cX5_keyAt 51 = .ok (.iconst 2, 1) := by decide +kernel
theorem dX5_keyAt_52 : decode cX5_keyAt 52 = .ok (.iaload, 1) := by decide +kernel
theorem dX5_keyAt_53 : decode cX5_keyAt 53 = .ok (.goto 9, 3) := by decide +kernel
theorem dX5_keyAt_56 : decode cX5_keyAt 56 = .ok (.aload_n 0, 1) := by decide +kernel
theorem dX5_keyAt_57 : decode cX5_keyAt 57 = .ok (.getfield 7, 3) := by decide +kernel
theorem dX5_keyAt_60 : decode cX5_keyAt 60 = .ok (.iconst 1, 1) := by decide +kernel
theorem dX5_keyAt_61 : decode cX5_keyAt 61 = .ok (.iaload, 1) := by decide +kernel
theorem dX5_keyAt_62 : decode cX5_keyAt 62 = .ok (.ireturn, 1) := by decide +kernel
theorem dX5_secretAt_0 : decode cX5_secretAt 0 = .ok (.aload_n 0, 1) := by decide +kernel
theorem dX5_secretAt_1 : decode cX5_secretAt 1 = .ok (.getfield 7, 3) := by decide +kernel
theorem dX5_secretAt_4 : decode cX5_secretAt 4 = .ok (.bipush 11, 2) := by decide +kernel
theorem dX5_secretAt_6 : decode cX5_secretAt 6 = .ok (.aload_n 0, 1) := by decide +kernel
theorem dX5_secretAt_7 : decode cX5_secretAt 7 = .ok (.iload_n 1, 1) := by decide +kernel
theorem dX5_secretAt_8 : decode cX5_secretAt 8 = .ok (.invokevirtual 74, 3) := by decide +kernel
theorem dX5_secretAt_11 : decode cX5_secretAt 11 = .ok (.iadd, 1) := by decide +kernel
theorem dX5_secretAt_12 : decode cX5_secretAt 12 = .ok (.iaload, 1) := by decide +kernel
theorem dX5_secretAt_13 : decode cX5_secretAt 13 = .ok (.ireturn, 1) := by decide +kernel
theorem dX5_plain_0 : decode cX5_plain 0 = .ok (.aload_n 0, 1) := by decide +kernel
theorem dX5_plain_1 : decode cX5_plain 1 = .ok (.getfield 7, 3) := by decide +kernel
theorem dX5_plain_4 : decode cX5_plain 4 = .ok (.bipush 111, 2) := by decide +kernel
theorem dX5_plain_6 : decode cX5_plain 6 = .ok (.iload_n 1, 1) := by decide +kernel
theorem dX5_plain_7 : decode cX5_plain 7 = .ok (.iadd, 1) := by decide +kernel
theorem dX5_plain_8 : decode cX5_plain 8 = .ok (.iaload, 1) := by decide +kernel
theorem dX5_plain_9 : decode cX5_plain 9 = .ok (.iload_n 1, 1) := by decide +kernel
theorem dX5_plain_10 : decode cX5_plain 10 = .ok (.aload_n 0, 1) := by decide +kernel
theorem dX5_plain_11 : decode cX5_plain 11 = .ok (.iload_n 1, 1) := by decide +kernel
theorem dX5_plain_12 : decode cX5_plain 12 = .ok (.invokevirtual 78, 3) := by decide +kernel
theorem dX5_plain_15 : decode cX5_plain 15 = .ok (.invokestatic 45, 3) := by decide +kernel
theorem dX5_plain_18 : decode cX5_plain 18 = .ok (.ireturn, 1) := by decide +kernel
theorem dX5_valueOf_0 : decode cX5_valueOf 0 = .ok (.aload_n 0, 1) := by decide +kernel
theorem dX5_valueOf_1 : decode cX5_valueOf 1 = .ok (.getfield 7, 3) := by decide +kernel
theorem dX5_valueOf_4 : decode cX5_valueOf 4 = .ok (.sipush 239, 3) := by decide +kernel
theorem dX5_valueOf_7 : decode cX5_valueOf 7 = .ok (.iload_n 1, 1) := by decide +kernel
theorem dX5_valueOf_8 : decode cX5_valueOf 8 = .ok (.iadd, 1) := by decide +kernel
theorem dX5_valueOf_9 : decode cX5_valueOf 9 = .ok (.iaload, 1) := by decide +kernel
theorem dX5_valueOf_10 : decode cX5_valueOf 10 = .ok (.bipush (-6), 2) := by decide +kernel
theorem dX5_valueOf_12 : decode cX5_valueOf 12 = .ok (.if_icmp .ne 11, 3) := by decide +kernel
theorem dX5_valueOf_15 : decode cX5_valueOf 15 = .ok (.aload_n 0, 1) := by decide +kernel
theorem dX5_valueOf_16 : decode cX5_valueOf 16 = .ok (.iload_n 1, 1) := by decide +kernel
theorem dX5_valueOf_17 : decode cX5_valueOf 17 = .ok (.invokevirtual 81, 3) := by decide +kernel
theorem dX5_valueOf_20 : decode cX5_valueOf 20 = .ok (.goto 13, 3) := by decide +kernel
theorem dX5_valueOf_23 : decode cX5_valueOf 23 = .ok (.aload_n 0, 1) := by decide +kernel
theorem dX5_valueOf_24 : decode cX5_valueOf 24 = .ok (.getfield 7, 3) := by decide +kernel
theorem dX5_valueOf_27 : decode cX5_valueOf 27 = .ok (.sipush 239, 3) := by decide +kernel
theorem dX5_valueOf_30 : decode cX5_valueOf 30 = .ok (.iload_n 1, 1) := by decide +kernel
theorem dX5_valueOf_31 : decode cX5_valueOf 31 = .ok (.iadd, 1) := by decide +kernel
theorem dX5_valueOf_32 : decode cX5_valueOf 32 = .ok (.iaload, 1) := by decide +kernel
theorem dX5_valueOf_33 : decode cX5_valueOf 33 = .ok (.ireturn, 1) := by decide +kernel
theorem dX5_makesStep_0 : decode cX5_makesStep 0 = .ok (.aload_n 0, 1) := by decide +kernel
theorem dX5_makesStep_1 : decode cX5_makesStep 1 = .ok (.invokevirtual 60, 3) := by decide +kernel
theorem dX5_makesStep_4 : decode cX5_makesStep 4 = .ok (.istore_n 1, 1) := by decide +kernel
theorem dX5_makesStep_5 : decode cX5_makesStep 5 = .ok (.aload_n 0, 1) := by decide +kernel
theorem dX5_makesStep_6 : decode cX5_makesStep 6 = .ok (.invokevirtual 64, 3) := by decide +kernel
theorem dX5_makesStep_9 : decode cX5_makesStep 9 = .ok (.istore_n 2, 1) := by decide +kernel
theorem dX5_makesStep_10 : decode cX5_makesStep 10 = .ok (.aload_n 0, 1) := by decide +kernel
theorem dX5_makesStep_11 : decode cX5_makesStep 11 = .ok (.getfield 7, 3) := by decide +kernel
theorem dX5_makesStep_14 : decode cX5_makesStep 14 = .ok (.bipush 8, 2) := by decide +kernel
theorem dX5_makesStep_16 : decode cX5_makesStep 16 = .ok (.iaload, 1) := by decide +kernel
theorem dX5_makesStep_17 : decode cX5_makesStep 17 = .ok (.iconst 1, 1) := by decide +kernel
theorem dX5_makesStep_18 : decode cX5_makesStep 18 = .ok (.if_icmp .ne 67, 3) := by decide +kernel
theorem dX5_makesStep_21 : decode cX5_makesStep 21 = .ok (.aload_n 0, 1) := by decide +kernel
theorem dX5_makesStep_22 : decode cX5_makesStep 22 = .ok (.getfield 7, 3) := by decide +kernel
theorem dX5_makesStep_25 : decode cX5_makesStep 25 = .ok (.bipush 6, 2) := by decide +kernel
theorem dX5_makesStep_27 : decode cX5_makesStep 27 = .ok (.iaload, 1) := by decide +kernel
theorem dX5_makesStep_28 : decode cX5_makesStep 28 = .ok (.ifCond .ne 57, 3) := by decide +kernel
theorem dX5_makesStep_31 : decode cX5_makesStep 31 = .ok (.aload_n 0, 1) := by decide +kernel
theorem dX5_makesStep_32 : decode cX5_makesStep 32 = .ok (.getfield 7, 3) := by decide +kernel
theorem dX5_makesStep_35 : decode cX5_makesStep 35 = .ok (.iconst 5, 1) := by decide +kernel
theorem dX5_makesStep_36 : decode cX5_makesStep 36 = .ok (.iaload, 1) := by decide +kernel
theorem dX5_makesStep_37 : decode cX5_makesStep 37 = .ok (.ifCond .ne 48, 3) := by decide +kernel
theorem dX5_makesStep_40 : decode cX5_makesStep 40 = .ok (.iload_n 1, 1) := by decide +kernel
theorem dX5_makesStep_41 : decode cX5_makesStep 41 = .ok (.istore_n 3, 1) := by decide +kernel
theorem dX5_makesStep_42 : decode cX5_makesStep 42 = .ok (.iload_n 3, 1) := by decide +kernel
theorem dX5_makesStep_43 : decode cX5_makesStep 43 = .ok (.iload_n 2, 1) := by decide +kernel
theorem dX5_makesStep_44 : decode cX5_makesStep 44 = .ok (.if_icmp .ge 28, 3) := by decide +kernel
theorem dX5_makesStep_47 : decode cX5_makesStep 47 = .ok (.aload_n 0, 1) := by decide +kernel
theorem dX5_makesStep_48 : decode cX5_makesStep 48 = .ok (.getfield 7, 3) := by decide +kernel
theorem dX5_makesStep_51 : decode cX5_makesStep 51 = .ok (.sipush 175, 3) := by decide +kernel
theorem dX5_makesStep_54 : decode cX5_makesStep 54 = .ok (.iload_n 3, 1) := by decide +kernel
theorem dX5_makesStep_55 : decode cX5_makesStep 55 = .ok (.iadd, 1) := by decide +kernel
theorem dX5_makesStep_56 : decode cX5_makesStep 56 = .ok (.aload_n 0, 1) := by decide +kernel
theorem dX5_makesStep_57 : decode cX5_makesStep 57 = .ok (.getfield 7, 3) := by decide +kernel
theorem dX5_makesStep_60 : decode cX5_makesStep 60 = .ok (.bipush 111, 2) := by decide +kernel
theorem dX5_makesStep_62 : decode cX5_makesStep 62 = .ok (.iload_n 3, 1) := by decide +kernel
theorem dX5_makesStep_63 : decode cX5_makesStep 63 = .ok (.iadd, 1) := by decide +kernel
theorem dX5_makesStep_64 : decode cX5_makesStep 64 = .ok (.iaload, 1) := by decide +kernel
theorem dX5_makesStep_65 : decode cX5_makesStep 65 = .ok (.iastore, 1) := by decide +kernel
theorem dX5_makesStep_66 : decode cX5_makesStep 66 = .ok (.iinc 3 1, 3) := by decide +kernel
theorem dX5_makesStep_69 : decode cX5_makesStep 69 = .ok (.goto (-27), 3) := by decide +kernel
theorem dX5_makesStep_72 : decode cX5_makesStep 72 = .ok (.aload_n 0, 1) := by decide +kernel
theorem dX5_makesStep_73 : decode cX5_makesStep 73 = .ok (.getfield 7, 3) := by decide +kernel
theorem dX5_makesStep_76 : decode cX5_makesStep 76 = .ok (.bipush 6, 2) := by decide +kernel
theorem dX5_makesStep_78 : decode cX5_makesStep 78 = .ok (.iload_n 2, 1) := by decide +kernel
theorem dX5_makesStep_79 : decode cX5_makesStep 79 = .ok (.iload_n 1, 1) := by decide +kernel
theorem dX5_makesStep_80 : decode cX5_makesStep 80 = .ok (.isub, 1) := by decide +kernel
theorem dX5_makesStep_81 : decode cX5_makesStep 81 = .ok (.iastore, 1) := by decide +kernel
theorem dX5_makesStep_82 : decode cX5_makesStep 82 = .ok (.goto 93, 3) := by decide +kernel
theorem dX5_makesStep_85 : decode cX5_makesStep 85 = .ok (.aload_n 0, 1) := by decide +kernel
theorem dX5_makesStep_86 : decode cX5_makesStep 86 = .ok (.getfield 7, 3) := by decide +kernel
theorem dX5_makesStep_89 : decode cX5_makesStep 89 = .ok (.iconst 5, 1) := by decide +kernel
theorem dX5_makesStep_90 : decode cX5_makesStep 90 = .ok (.iaload, 1) := by decide +kernel
theorem dX5_makesStep_91 : decode cX5_makesStep 91 = .ok (.iload_n 2, 1) := by decide +kernel
theorem dX5_makesStep_92 : decode cX5_makesStep 92 = .ok (.iload_n 1, 1) := by decide +kernel
theorem dX5_makesStep_93 : decode cX5_makesStep 93 = .ok (.isub, 1) := by decide +kernel
theorem dX5_makesStep_94 : decode cX5_makesStep 94 = .ok (.if_icmp .ge 52, 3) := by decide +kernel
theorem dX5_makesStep_97 : decode cX5_makesStep 97 = .ok (.iload_n 1, 1) := by decide +kernel
theorem dX5_makesStep_98 : decode cX5_makesStep 98 = .ok (.aload_n 0, 1) := by decide +kernel
theorem dX5_makesStep_99 : decode cX5_makesStep 99 = .ok (.getfield 7, 3) := by decide +kernel
theorem dX5_makesStep_102 : decode cX5_makesStep 102 = .ok (.iconst 5, 1) := by decide +kernel
theorem dX5_makesStep_103 : decode cX5_makesStep 103 = .ok (.iaload, 1) := by decide +kernel
theorem dX5_makesStep_104 : decode cX5_makesStep 104 = .ok (.iadd, 1) := by decide +kernel
theorem dX5_makesStep_105 : decode cX5_makesStep 105 = .ok (.istore_n 3, 1) := by decide +kernel
theorem dX5_makesStep_106 : decode cX5_makesStep 106 = .ok (.aload_n 0, 1) := by decide +kernel
theorem dX5_makesStep_107 : decode cX5_makesStep 107 = .ok (.iload_n 3, 1) := by decide +kernel
theorem dX5_makesStep_108 : decode cX5_makesStep 108 = .ok (.invokevirtual 81, 3) := by decide +kernel
theorem dX5_makesStep_111 : decode cX5_makesStep 111 = .ok (.istore 4, 2) := by decide +kernel
theorem dX5_makesStep_113 : decode cX5_makesStep 113 = .ok (.aload_n 0, 1) := by decide +kernel
theorem dX5_makesStep_114 : decode cX5_makesStep 114 = .ok (.getfield 7, 3) := by decide +kernel
theorem dX5_makesStep_117 : decode cX5_makesStep 117 = .ok (.iconst 5, 1) := by decide +kernel
theorem dX5_makesStep_118 : decode cX5_makesStep 118 = .ok (.dup2, 1) := by decide +kernel
theorem dX5_makesStep_119 : decode cX5_makesStep 119 = .ok (.iaload, 1) := by decide +kernel
theorem dX5_makesStep_120 : decode cX5_makesStep 120 = .ok (.iconst 1, 1) := by decide +kernel
theorem dX5_makesStep_121 : decode cX5_makesStep 121 = .ok (.iadd, 1) := by decide +kernel
theorem dX5_makesStep_122 : decode cX5_makesStep 122 = .ok (.iastore, 1) := by decide +kernel
theorem dX5_makesStep_123 : decode cX5_makesStep 123 = .ok (.aload_n 0, 1) := by decide +kernel
theorem dX5_makesStep_124 : decode cX5_makesStep 124 = .ok (.getfield 7, 3) := by decide +kernel
theorem dX5_makesStep_127 : decode cX5_makesStep 127 = .ok (.bipush 111, 2) := by decide +kernel
theorem dX5_makesStep_129 : decode cX5_makesStep 129 = .ok (.iload_n 3, 1) := by decide +kernel
theorem dX5_makesStep_130 : decode cX5_makesStep 130 = .ok (.iadd, 1) := by decide +kernel
theorem dX5_makesStep_131 : decode cX5_makesStep 131 = .ok (.iload 4, 2) := by decide +kernel
theorem dX5_makesStep_133 : decode cX5_makesStep 133 = .ok (.iload_n 3, 1) := by decide +kernel
theorem dX5_makesStep_134 : decode cX5_makesStep 134 = .ok (.aload_n 0, 1) := by decide +kernel
theorem dX5_makesStep_135 : decode cX5_makesStep 135 = .ok (.iload_n 3, 1) := by decide +kernel
theorem dX5_makesStep_136 : decode cX5_makesStep 136 = .ok (.invokevirtual 78, 3) := by decide +kernel
theorem dX5_makesStep_139 : decode cX5_makesStep 139 = .ok (.invokestatic 45, 3) := by decide +kernel
theorem dX5_makesStep_142 : decode cX5_makesStep 142 = .ok (.iastore, 1) := by decide +kernel
theorem dX5_makesStep_143 : decode cX5_makesStep 143 = .ok (.goto 32, 3) := by decide +kernel
theorem dX5_makesStep_146 : decode cX5_makesStep 146 = .ok (.aload_n 0, 1) := by decide +kernel
theorem dX5_makesStep_147 : decode cX5_makesStep 147 = .ok (.getfield 7, 3) := by decide +kernel
theorem dX5_makesStep_150 : decode cX5_makesStep 150 = .ok (.iconst 3, 1) := by decide +kernel
theorem dX5_makesStep_151 : decode cX5_makesStep 151 = .ok (.aload_n 0, 1) := by decide +kernel
theorem dX5_makesStep_152 : decode cX5_makesStep 152 = .ok (.getfield 7, 3) := by decide +kernel
theorem dX5_makesStep_155 : decode cX5_makesStep 155 = .ok (.iconst 4, 1) := by decide +kernel
theorem dX5_makesStep_156 : decode cX5_makesStep 156 = .ok (.iaload, 1) := by decide +kernel
theorem dX5_makesStep_157 : decode cX5_makesStep 157 = .ok (.iconst 1, 1) := by decide +kernel
theorem dX5_makesStep_158 : decode cX5_makesStep 158 = .ok (.if_icmp .ne 7, 3) := by decide +kernel
theorem dX5_makesStep_161 : decode cX5_makesStep 161 = .ok (.iload_n 2, 1) := by decide +kernel
theorem dX5_makesStep_162 : decode cX5_makesStep 162 = .ok (.goto 4, 3) := by decide +kernel
theorem dX5_makesStep_165 : decode cX5_makesStep 165 = .ok (.iload_n 1, 1) := by decide +kernel
theorem dX5_makesStep_166 : decode cX5_makesStep 166 = .ok (.iastore, 1) := by decide +kernel
theorem dX5_makesStep_167 : decode cX5_makesStep 167 = .ok (.aload_n 0, 1) := by decide +kernel
theorem dX5_makesStep_168 : decode cX5_makesStep 168 = .ok (.invokevirtual 49, 3) := by decide +kernel
theorem dX5_makesStep_171 : decode cX5_makesStep 171 = .ok (.aload_n 0, 1) := by decide +kernel
theorem dX5_makesStep_172 : decode cX5_makesStep 172 = .ok (.invokevirtual 84, 3) := by decide +kernel
theorem dX5_makesStep_175 : decode cX5_makesStep 175 = .ok (.return_, 1) := by decide +kernel
theorem dX5_endsAtEnd_0 : decode cX5_endsAtEnd 0 = .ok (.aload_n 0, 1) := by decide +kernel
theorem dX5_endsAtEnd_1 : decode cX5_endsAtEnd 1 = .ok (.getfield 7, 3) := by decide +kernel
theorem dX5_endsAtEnd_4 : decode cX5_endsAtEnd 4 = .ok (.iconst 4, 1) := by decide +kernel
theorem dX5_endsAtEnd_5 : decode cX5_endsAtEnd 5 = .ok (.iaload, 1) := by decide +kernel
theorem dX5_endsAtEnd_6 : decode cX5_endsAtEnd 6 = .ok (.iconst 1, 1) := by decide +kernel
theorem dX5_endsAtEnd_7 : decode cX5_endsAtEnd 7 = .ok (.if_icmp .ne 48, 3) := by decide +kernel
theorem dX5_endsAtEnd_10 : decode cX5_endsAtEnd 10 = .ok (.aload_n 0, 1) := by decide +kernel
theorem dX5_endsAtEnd_11 : decode cX5_endsAtEnd 11 = .ok (.getfield 7, 3) := by decide +kernel
theorem dX5_endsAtEnd_14 : decode cX5_endsAtEnd 14 = .ok (.iconst 3, 1) := by decide +kernel
theorem dX5_endsAtEnd_15 : decode cX5_endsAtEnd 15 = .ok (.iaload, 1) := by decide +kernel
theorem dX5_endsAtEnd_16 : decode cX5_endsAtEnd 16 = .ok (.aload_n 0, 1) := by decide +kernel
theorem dX5_endsAtEnd_17 : decode cX5_endsAtEnd 17 = .ok (.getfield 7, 3) := by decide +kernel
theorem dX5_endsAtEnd_20 : decode cX5_endsAtEnd 20 = .ok (.iconst 0, 1) := by decide +kernel
theorem dX5_endsAtEnd_21 : decode cX5_endsAtEnd 21 = .ok (.iaload, 1) := by decide +kernel
theorem dX5_endsAtEnd_22 : decode cX5_endsAtEnd 22 = .ok (.if_icmp .ne 33, 3) := by decide +kernel
theorem dX5_endsAtEnd_25 : decode cX5_endsAtEnd 25 = .ok (.aload_n 0, 1) := by decide +kernel
theorem dX5_endsAtEnd_26 : decode cX5_endsAtEnd 26 = .ok (.getfield 7, 3) := by decide +kernel
theorem dX5_endsAtEnd_29 : decode cX5_endsAtEnd 29 = .ok (.iconst 1, 1) := by decide +kernel
theorem dX5_endsAtEnd_30 : decode cX5_endsAtEnd 30 = .ok (.aload_n 0, 1) := by decide +kernel
theorem dX5_endsAtEnd_31 : decode cX5_endsAtEnd 31 = .ok (.getfield 7, 3) := by decide +kernel
theorem dX5_endsAtEnd_34 : decode cX5_endsAtEnd 34 = .ok (.iconst 2, 1) := by decide +kernel
theorem dX5_endsAtEnd_35 : decode cX5_endsAtEnd 35 = .ok (.iaload, 1) := by decide +kernel
theorem dX5_endsAtEnd_36 : decode cX5_endsAtEnd 36 = .ok (.iastore, 1) := by decide +kernel
theorem dX5_endsAtEnd_37 : decode cX5_endsAtEnd 37 = .ok (.aload_n 0, 1) := by decide +kernel
theorem dX5_endsAtEnd_38 : decode cX5_endsAtEnd 38 = .ok (.getfield 7, 3) := by decide +kernel
theorem dX5_endsAtEnd_41 : decode cX5_endsAtEnd 41 = .ok (.bipush 9, 2) := by decide +kernel
theorem dX5_endsAtEnd_43 : decode cX5_endsAtEnd 43 = .ok (.dup2, 1) := by decide +kernel
theorem dX5_endsAtEnd_44 : decode cX5_endsAtEnd 44 = .ok (.iaload, 1) := by decide +kernel
theorem dX5_endsAtEnd_45 : decode cX5_endsAtEnd 45 = .ok (.iconst 1, 1) := by decide +kernel
theorem dX5_endsAtEnd_46 : decode cX5_endsAtEnd 46 = .ok (.iadd, 1) := by decide +kernel
theorem dX5_endsAtEnd_47 : decode cX5_endsAtEnd 47 = .ok (.iastore, 1) := by decide +kernel
theorem dX5_endsAtEnd_48 : decode cX5_endsAtEnd 48 = .ok (.aload_n 0, 1) := by decide +kernel
theorem dX5_endsAtEnd_49 : decode cX5_endsAtEnd 49 = .ok (.invokevirtual 42, 3) := by decide +kernel
theorem dX5_endsAtEnd_52 : decode cX5_endsAtEnd 52 = .ok (.goto 25, 3) := by decide +kernel
theorem dX5_endsAtEnd_55 : decode cX5_endsAtEnd 55 = .ok (.aload_n 0, 1) := by decide +kernel
theorem dX5_endsAtEnd_56 : decode cX5_endsAtEnd 56 = .ok (.getfield 7, 3) := by decide +kernel
theorem dX5_endsAtEnd_59 : decode cX5_endsAtEnd 59 = .ok (.iconst 4, 1) := by decide +kernel
theorem dX5_endsAtEnd_60 : decode cX5_endsAtEnd 60 = .ok (.iaload, 1) := by decide +kernel
theorem dX5_endsAtEnd_61 : decode cX5_endsAtEnd 61 = .ok (.ifCond .ne 16, 3) := by decide +kernel
theorem dX5_endsAtEnd_64 : decode cX5_endsAtEnd 64 = .ok (.aload_n 0, 1) := by decide +kernel
theorem dX5_endsAtEnd_65 : decode cX5_endsAtEnd 65 = .ok (.getfield 7, 3) := by decide +kernel
theorem dX5_endsAtEnd_68 : decode cX5_endsAtEnd 68 = .ok (.iconst 3, 1) := by decide +kernel
theorem dX5_endsAtEnd_69 : decode cX5_endsAtEnd 69 = .ok (.iaload, 1) := by decide +kernel
theorem dX5_endsAtEnd_70 : decode cX5_endsAtEnd 70 = .ok (.ifCond .ne 7, 3) := by decide +kernel
theorem dX5_endsAtEnd_73 : decode cX5_endsAtEnd 73 = .ok (.aload_n 0, 1) := by decide +kernel
theorem dX5_endsAtEnd_74 : decode cX5_endsAtEnd 74 = .ok (.invokevirtual 42, 3) := by decide +kernel
theorem dX5_endsAtEnd_77 : decode cX5_endsAtEnd 77 = .ok (.return_, 1) := by decide +kernel
theorem dX5_makesSteps_0 : decode cX5_makesSteps 0 = .ok (.iconst 0, 1) := by decide +kernel
theorem dX5_makesSteps_1 : decode cX5_makesSteps 1 = .ok (.istore_n 2, 1) := by decide +kernel
theorem dX5_makesSteps_2 : decode cX5_makesSteps 2 = .ok (.iload_n 2, 1) := by decide +kernel
theorem dX5_makesSteps_3 : decode cX5_makesSteps 3 = .ok (.iload_n 1, 1) := by decide +kernel
theorem dX5_makesSteps_4 : decode cX5_makesSteps 4 = .ok (.if_icmp .ge 20, 3) := by decide +kernel
theorem dX5_makesSteps_7 : decode cX5_makesSteps 7 = .ok (.aload_n 0, 1) := by decide +kernel
theorem dX5_makesSteps_8 : decode cX5_makesSteps 8 = .ok (.invokevirtual 56, 3) := by decide +kernel
theorem dX5_makesSteps_11 : decode cX5_makesSteps 11 = .ok (.ifCond .eq 13, 3) := by decide +kernel
theorem dX5_makesSteps_14 : decode cX5_makesSteps 14 = .ok (.aload_n 0, 1) := by decide +kernel
theorem dX5_makesSteps_15 : decode cX5_makesSteps 15 = .ok (.invokevirtual 87, 3) := by decide +kernel
theorem dX5_makesSteps_18 : decode cX5_makesSteps 18 = .ok (.iinc 2 1, 3) := by decide +kernel
theorem dX5_makesSteps_21 : decode cX5_makesSteps 21 = .ok (.goto (-19), 3) := by decide +kernel
theorem dX5_makesSteps_24 : decode cX5_makesSteps 24 = .ok (.iload_n 2, 1) := by decide +kernel
theorem dX5_makesSteps_25 : decode cX5_makesSteps 25 = .ok (.ireturn, 1) := by decide +kernel
theorem dX5_left_0 : decode cX5_left 0 = .ok (.aload_n 0, 1) := by decide +kernel
theorem dX5_left_1 : decode cX5_left 1 = .ok (.invokevirtual 56, 3) := by decide +kernel
theorem dX5_left_4 : decode cX5_left 4 = .ok (.ifCond .ne 5, 3) := by decide +kernel
theorem dX5_left_7 : decode cX5_left 7 = .ok (.iconst 0, 1) := by decide +kernel
theorem dX5_left_8 : decode cX5_left 8 = .ok (.ireturn, 1) := by decide +kernel
theorem dX5_left_9 : decode cX5_left 9 = .ok (.aload_n 0, 1) := by decide +kernel
theorem dX5_left_10 : decode cX5_left 10 = .ok (.getfield 7, 3) := by decide +kernel
theorem dX5_left_13 : decode cX5_left 13 = .ok (.iconst 4, 1) := by decide +kernel
theorem dX5_left_14 : decode cX5_left 14 = .ok (.iaload, 1) := by decide +kernel
theorem dX5_left_15 : decode cX5_left 15 = .ok (.iconst 1, 1) := by decide +kernel
theorem dX5_left_16 : decode cX5_left 16 = .ok (.if_icmp .ne 19, 3) := by decide +kernel
theorem dX5_left_19 : decode cX5_left 19 = .ok (.aload_n 0, 1) := by decide +kernel
theorem dX5_left_20 : decode cX5_left 20 = .ok (.getfield 7, 3) := by decide +kernel
theorem dX5_left_23 : decode cX5_left 23 = .ok (.iconst 0, 1) := by decide +kernel
theorem dX5_left_24 : decode cX5_left 24 = .ok (.iaload, 1) := by decide +kernel
theorem dX5_left_25 : decode cX5_left 25 = .ok (.aload_n 0, 1) := by decide +kernel
theorem dX5_left_26 : decode cX5_left 26 = .ok (.getfield 7, 3) := by decide +kernel
theorem dX5_left_29 : decode cX5_left 29 = .ok (.iconst 3, 1) := by decide +kernel
theorem dX5_left_30 : decode cX5_left 30 = .ok (.iaload, 1) := by decide +kernel
theorem dX5_left_31 : decode cX5_left 31 = .ok (.isub, 1) := by decide +kernel
theorem dX5_left_32 : decode cX5_left 32 = .ok (.goto 9, 3) := by decide +kernel
theorem dX5_left_35 : decode cX5_left 35 = .ok (.aload_n 0, 1) := by decide +kernel
theorem dX5_left_36 : decode cX5_left 36 = .ok (.getfield 7, 3) := by decide +kernel
theorem dX5_left_39 : decode cX5_left 39 = .ok (.iconst 3, 1) := by decide +kernel
theorem dX5_left_40 : decode cX5_left 40 = .ok (.iaload, 1) := by decide +kernel
theorem dX5_left_41 : decode cX5_left 41 = .ok (.istore_n 1, 1) := by decide +kernel
theorem dX5_left_42 : decode cX5_left 42 = .ok (.iload_n 1, 1) := by decide +kernel
theorem dX5_left_43 : decode cX5_left 43 = .ok (.aload_n 0, 1) := by decide +kernel
theorem dX5_left_44 : decode cX5_left 44 = .ok (.getfield 7, 3) := by decide +kernel
theorem dX5_left_47 : decode cX5_left 47 = .ok (.bipush 7, 2) := by decide +kernel
theorem dX5_left_49 : decode cX5_left 49 = .ok (.iaload, 1) := by decide +kernel
theorem dX5_left_50 : decode cX5_left 50 = .ok (.iadd, 1) := by decide +kernel
theorem dX5_left_51 : decode cX5_left 51 = .ok (.iconst 1, 1) := by decide +kernel
theorem dX5_left_52 : decode cX5_left 52 = .ok (.isub, 1) := by decide +kernel
theorem dX5_left_53 : decode cX5_left 53 = .ok (.aload_n 0, 1) := by decide +kernel
theorem dX5_left_54 : decode cX5_left 54 = .ok (.getfield 7, 3) := by decide +kernel
theorem dX5_left_57 : decode cX5_left 57 = .ok (.bipush 7, 2) := by decide +kernel
theorem dX5_left_59 : decode cX5_left 59 = .ok (.iaload, 1) := by decide +kernel
theorem dX5_left_60 : decode cX5_left 60 = .ok (.idiv, 1) := by decide +kernel
theorem dX5_left_61 : decode cX5_left 61 = .ok (.istore_n 2, 1) := by decide +kernel
theorem dX5_left_62 : decode cX5_left 62 = .ok (.iload_n 1, 1) := by decide +kernel
theorem dX5_left_63 : decode cX5_left 63 = .ok (.iload_n 2, 1) := by decide +kernel
theorem dX5_left_64 : decode cX5_left 64 = .ok (.iadd, 1) := by decide +kernel
theorem dX5_left_65 : decode cX5_left 65 = .ok (.aload_n 0, 1) := by decide +kernel
theorem dX5_left_66 : decode cX5_left 66 = .ok (.getfield 7, 3) := by decide +kernel
theorem dX5_left_69 : decode cX5_left 69 = .ok (.bipush 8, 2) := by decide +kernel
theorem dX5_left_71 : decode cX5_left 71 = .ok (.iaload, 1) := by decide +kernel
theorem dX5_left_72 : decode cX5_left 72 = .ok (.iconst 1, 1) := by decide +kernel
theorem dX5_left_73 : decode cX5_left 73 = .ok (.if_icmp .ne 7, 3) := by decide +kernel
theorem dX5_left_76 : decode cX5_left 76 = .ok (.iload_n 2, 1) := by decide +kernel
theorem dX5_left_77 : decode cX5_left 77 = .ok (.goto 4, 3) := by decide +kernel
theorem dX5_left_80 : decode cX5_left 80 = .ok (.iconst 0, 1) := by decide +kernel
theorem dX5_left_81 : decode cX5_left 81 = .ok (.iadd, 1) := by decide +kernel
theorem dX5_left_82 : decode cX5_left 82 = .ok (.istore_n 3, 1) := by decide +kernel
theorem dX5_left_83 : decode cX5_left 83 = .ok (.iload_n 3, 1) := by decide +kernel
theorem dX5_left_84 : decode cX5_left 84 = .ok (.aload_n 0, 1) := by decide +kernel
theorem dX5_left_85 : decode cX5_left 85 = .ok (.getfield 7, 3) := by decide +kernel
theorem dX5_left_88 : decode cX5_left 88 = .ok (.iconst 5, 1) := by decide +kernel
theorem dX5_left_89 : decode cX5_left 89 = .ok (.iaload, 1) := by decide +kernel
theorem dX5_left_90 : decode cX5_left 90 = .ok (.isub, 1) := by decide +kernel
theorem dX5_left_91 : decode cX5_left 91 = .ok (.aload_n 0, 1) := by decide +kernel
theorem dX5_left_92 : decode cX5_left 92 = .ok (.getfield 7, 3) := by decide +kernel
theorem dX5_left_95 : decode cX5_left 95 = .ok (.bipush 6, 2) := by decide +kernel
theorem dX5_left_97 : decode cX5_left 97 = .ok (.iaload, 1) := by decide +kernel
theorem dX5_left_98 : decode cX5_left 98 = .ok (.ifCond .le 7, 3) := by decide +kernel
theorem dX5_left_101 : decode cX5_left 101 = .ok (.iconst 1, 1) := by decide +kernel
theorem dX5_left_102 : decode cX5_left 102 = .ok (.goto 4, 3) := by decide +kernel
theorem dX5_left_105 : decode cX5_left 105 = .ok (.iconst 0, 1) := by decide +kernel
theorem dX5_left_106 : decode cX5_left 106 = .ok (.isub, 1) := by decide +kernel
theorem dX5_left_107 : decode cX5_left 107 = .ok (.ireturn, 1) := by decide +kernel
theorem dX5_fails_0 : decode cX5_fails 0 = .ok (.iconst 0, 1) := by decide +kernel
theorem dX5_fails_1 : decode cX5_fails 1 = .ok (.istore_n 1, 1) := by decide +kernel
theorem dX5_fails_2 : decode cX5_fails 2 = .ok (.iload_n 1, 1) := by decide +kernel
theorem dX5_fails_3 : decode cX5_fails 3 = .ok (.bipush 64, 2) := by decide +kernel
theorem dX5_fails_5 : decode cX5_fails 5 = .ok (.if_icmp .ge 67, 3) := by decide +kernel
theorem dX5_fails_8 : decode cX5_fails 8 = .ok (.aload_n 0, 1) := by decide +kernel
theorem dX5_fails_9 : decode cX5_fails 9 = .ok (.getfield 7, 3) := by decide +kernel
theorem dX5_fails_12 : decode cX5_fails 12 = .ok (.sipush 239, 3) := by decide +kernel
theorem dX5_fails_15 : decode cX5_fails 15 = .ok (.iload_n 1, 1) := by decide +kernel
theorem dX5_fails_16 : decode cX5_fails 16 = .ok (.iadd, 1) := by decide +kernel
theorem dX5_fails_17 : decode cX5_fails 17 = .ok (.bipush (-6), 2) := by decide +kernel
theorem dX5_fails_19 : decode cX5_fails 19 = .ok (.iastore, 1) := by decide +kernel
theorem dX5_fails_20 : decode cX5_fails 20 = .ok (.aload_n 0, 1) := by decide +kernel
theorem dX5_fails_21 : decode cX5_fails 21 = .ok (.getfield 7, 3) := by decide +kernel
theorem dX5_fails_24 : decode cX5_fails 24 = .ok (.bipush 111, 2) := by decide +kernel
theorem dX5_fails_26 : decode cX5_fails 26 = .ok (.iload_n 1, 1) := by decide +kernel
theorem dX5_fails_27 : decode cX5_fails 27 = .ok (.iadd, 1) := by decide +kernel
theorem dX5_fails_28 : decode cX5_fails 28 = .ok (.aload_n 0, 1) := by decide +kernel
theorem dX5_fails_29 : decode cX5_fails 29 = .ok (.getfield 7, 3) := by decide +kernel
theorem dX5_fails_32 : decode cX5_fails 32 = .ok (.sipush 175, 3) := by decide +kernel
theorem dX5_fails_35 : decode cX5_fails 35 = .ok (.iload_n 1, 1) := by decide +kernel
theorem dX5_fails_36 : decode cX5_fails 36 = .ok (.iadd, 1) := by decide +kernel
theorem dX5_fails_37 : decode cX5_fails 37 = .ok (.iaload, 1) := by decide +kernel
theorem dX5_fails_38 : decode cX5_fails 38 = .ok (.bipush (-6), 2) := by decide +kernel
theorem dX5_fails_40 : decode cX5_fails 40 = .ok (.if_icmp .ne 15, 3) := by decide +kernel
theorem dX5_fails_43 : decode cX5_fails 43 = .ok (.aload_n 0, 1) := by decide +kernel
theorem dX5_fails_44 : decode cX5_fails 44 = .ok (.getfield 7, 3) := by decide +kernel
theorem dX5_fails_47 : decode cX5_fails 47 = .ok (.bipush 111, 2) := by decide +kernel
theorem dX5_fails_49 : decode cX5_fails 49 = .ok (.iload_n 1, 1) := by decide +kernel
theorem dX5_fails_50 : decode cX5_fails 50 = .ok (.iadd, 1) := by decide +kernel
theorem dX5_fails_51 : decode cX5_fails 51 = .ok (.iaload, 1) := by decide +kernel
theorem dX5_fails_52 : decode cX5_fails 52 = .ok (.goto 13, 3) := by decide +kernel
theorem dX5_fails_55 : decode cX5_fails 55 = .ok (.aload_n 0, 1) := by decide +kernel
theorem dX5_fails_56 : decode cX5_fails 56 = .ok (.getfield 7, 3) := by decide +kernel
theorem dX5_fails_59 : decode cX5_fails 59 = .ok (.sipush 175, 3) := by decide +kernel
theorem dX5_fails_62 : decode cX5_fails 62 = .ok (.iload_n 1, 1) := by decide +kernel
theorem dX5_fails_63 : decode cX5_fails 63 = .ok (.iadd, 1) := by decide +kernel
theorem dX5_fails_64 : decode cX5_fails 64 = .ok (.iaload, 1) := by decide +kernel
theorem dX5_fails_65 : decode cX5_fails 65 = .ok (.iastore, 1) := by decide +kernel
theorem dX5_fails_66 : decode cX5_fails 66 = .ok (.iinc 1 1, 3) := by decide +kernel
theorem dX5_fails_69 : decode cX5_fails 69 = .ok (.goto (-67), 3) := by decide +kernel
theorem dX5_fails_72 : decode cX5_fails 72 = .ok (.aload_n 0, 1) := by decide +kernel
theorem dX5_fails_73 : decode cX5_fails 73 = .ok (.invokevirtual 49, 3) := by decide +kernel
theorem dX5_fails_76 : decode cX5_fails 76 = .ok (.aload_n 0, 1) := by decide +kernel
theorem dX5_fails_77 : decode cX5_fails 77 = .ok (.getfield 7, 3) := by decide +kernel
theorem dX5_fails_80 : decode cX5_fails 80 = .ok (.bipush 10, 2) := by decide +kernel
theorem dX5_fails_82 : decode cX5_fails 82 = .ok (.dup2, 1) := by decide +kernel
theorem dX5_fails_83 : decode cX5_fails 83 = .ok (.iaload, 1) := by decide +kernel
theorem dX5_fails_84 : decode cX5_fails 84 = .ok (.iconst 1, 1) := by decide +kernel
theorem dX5_fails_85 : decode cX5_fails 85 = .ok (.iadd, 1) := by decide +kernel
theorem dX5_fails_86 : decode cX5_fails 86 = .ok (.iastore, 1) := by decide +kernel
theorem dX5_fails_87 : decode cX5_fails 87 = .ok (.return_, 1) := by decide +kernel
theorem dX5_damagedMany_0 : decode cX5_damagedMany 0 = .ok (.iconst 0, 1) := by decide +kernel
theorem dX5_damagedMany_1 : decode cX5_damagedMany 1 = .ok (.istore_n 1, 1) := by decide +kernel
theorem dX5_damagedMany_2 : decode cX5_damagedMany 2 = .ok (.iconst 0, 1) := by decide +kernel
theorem dX5_damagedMany_3 : decode cX5_damagedMany 3 = .ok (.istore_n 2, 1) := by decide +kernel
theorem dX5_damagedMany_4 : decode cX5_damagedMany 4 = .ok (.iload_n 2, 1) := by decide +kernel
theorem dX5_damagedMany_5 : decode cX5_damagedMany 5 = .ok (.aload_n 0, 1) := by decide +kernel
theorem dX5_damagedMany_6 : decode cX5_damagedMany 6 = .ok (.getfield 7, 3) := by decide +kernel
theorem dX5_damagedMany_9 : decode cX5_damagedMany 9 = .ok (.iconst 0, 1) := by decide +kernel
theorem dX5_damagedMany_10 : decode cX5_damagedMany 10 = .ok (.iaload, 1) := by decide +kernel
theorem dX5_damagedMany_11 : decode cX5_damagedMany 11 = .ok (.if_icmp .ge 35, 3) := by decide +kernel
theorem dX5_damagedMany_14 : decode cX5_damagedMany 14 = .ok (.iload_n 1, 1) := by decide +kernel
theorem dX5_damagedMany_15 : decode cX5_damagedMany 15 = .ok (.aload_n 0, 1) := by decide +kernel
theorem dX5_damagedMany_16 : decode cX5_damagedMany 16 = .ok (.iload_n 2, 1) := by decide +kernel
theorem dX5_damagedMany_17 : decode cX5_damagedMany 17 = .ok (.invokevirtual 90, 3) := by decide +kernel
theorem dX5_damagedMany_20 : decode cX5_damagedMany 20 = .ok (.aload_n 0, 1) := by decide +kernel
theorem dX5_damagedMany_21 : decode cX5_damagedMany 21 = .ok (.getfield 7, 3) := by decide +kernel
theorem dX5_damagedMany_24 : decode cX5_damagedMany 24 = .ok (.sipush 303, 3) := by decide +kernel
theorem dX5_damagedMany_27 : decode cX5_damagedMany 27 = .ok (.iload_n 2, 1) := by decide +kernel
theorem dX5_damagedMany_28 : decode cX5_damagedMany 28 = .ok (.iadd, 1) := by decide +kernel
theorem dX5_damagedMany_29 : decode cX5_damagedMany 29 = .ok (.iaload, 1) := by decide +kernel
theorem dX5_damagedMany_30 : decode cX5_damagedMany 30 = .ok (.if_icmp .ne 7, 3) := by decide +kernel
theorem dX5_damagedMany_33 : decode cX5_damagedMany 33 = .ok (.iconst 0, 1) := by decide +kernel
theorem dX5_damagedMany_34 : decode cX5_damagedMany 34 = .ok (.goto 4, 3) := by decide +kernel
theorem dX5_damagedMany_37 : decode cX5_damagedMany 37 = .ok (.iconst 1, 1) := by decide +kernel
theorem dX5_damagedMany_38 : decode cX5_damagedMany 38 = .ok (.iadd, 1) := by decide +kernel
theorem dX5_damagedMany_39 : decode cX5_damagedMany 39 = .ok (.istore_n 1, 1) := by decide +kernel
theorem dX5_damagedMany_40 : decode cX5_damagedMany 40 = .ok (.iinc 2 1, 3) := by decide +kernel
theorem dX5_damagedMany_43 : decode cX5_damagedMany 43 = .ok (.goto (-39), 3) := by decide +kernel
theorem dX5_damagedMany_46 : decode cX5_damagedMany 46 = .ok (.iload_n 1, 1) := by decide +kernel
theorem dX5_damagedMany_47 : decode cX5_damagedMany 47 = .ok (.ireturn, 1) := by decide +kernel
theorem dX5_format_0 : decode cX5_format 0 = .ok (.iload_n 1, 1) := by decide +kernel
theorem dX5_format_1 : decode cX5_format 1 = .ok (.iconst 4, 1) := by decide +kernel
theorem dX5_format_2 : decode cX5_format 2 = .ok (.bipush 64, 2) := by decide +kernel
theorem dX5_format_4 : decode cX5_format 4 = .ok (.invokestatic 52, 3) := by decide +kernel
theorem dX5_format_7 : decode cX5_format 7 = .ok (.ifCond .ne 6, 3) := by decide +kernel
theorem dX5_format_10 : decode cX5_format 10 = .ok (.bipush (-2), 2) := by decide +kernel
theorem dX5_format_12 : decode cX5_format 12 = .ok (.ireturn, 1) := by decide +kernel
theorem dX5_format_13 : decode cX5_format 13 = .ok (.aload_n 0, 1) := by decide +kernel
theorem dX5_format_14 : decode cX5_format 14 = .ok (.invokevirtual 93, 3) := by decide +kernel
theorem dX5_format_17 : decode cX5_format 17 = .ok (.aload_n 0, 1) := by decide +kernel
theorem dX5_format_18 : decode cX5_format 18 = .ok (.getfield 7, 3) := by decide +kernel
theorem dX5_format_21 : decode cX5_format 21 = .ok (.iconst 0, 1) := by decide +kernel
theorem dX5_format_22 : decode cX5_format 22 = .ok (.iaload, 1) := by decide +kernel
theorem dX5_format_23 : decode cX5_format 23 = .ok (.istore_n 2, 1) := by decide +kernel
theorem dX5_format_24 : decode cX5_format 24 = .ok (.aload_n 0, 1) := by decide +kernel
theorem dX5_format_25 : decode cX5_format 25 = .ok (.iload_n 1, 1) := by decide +kernel
theorem dX5_format_26 : decode cX5_format 26 = .ok (.invokevirtual 28, 3) := by decide +kernel
theorem dX5_format_29 : decode cX5_format 29 = .ok (.iload_n 2, 1) := by decide +kernel
theorem dX5_format_30 : decode cX5_format 30 = .ok (.ireturn, 1) := by decide +kernel
theorem dX5_addKey_0 : decode cX5_addKey 0 = .ok (.iload_n 1, 1) := by decide +kernel
theorem dX5_addKey_1 : decode cX5_addKey 1 = .ok (.iconst 1, 1) := by decide +kernel
theorem dX5_addKey_2 : decode cX5_addKey 2 = .ok (.bipush 99, 2) := by decide +kernel
theorem dX5_addKey_4 : decode cX5_addKey 4 = .ok (.invokestatic 52, 3) := by decide +kernel
theorem dX5_addKey_7 : decode cX5_addKey 7 = .ok (.ifCond .eq 13, 3) := by decide +kernel
theorem dX5_addKey_10 : decode cX5_addKey 10 = .ok (.iload_n 2, 1) := by decide +kernel
theorem dX5_addKey_11 : decode cX5_addKey 11 = .ok (.iconst 0, 1) := by decide +kernel
theorem dX5_addKey_12 : decode cX5_addKey 12 = .ok (.ldc 41, 2) := by decide +kernel
theorem dX5_addKey_14 : decode cX5_addKey 14 = .ok (.invokestatic 52, 3) := by decide +kernel
theorem dX5_addKey_17 : decode cX5_addKey 17 = .ok (.ifCond .ne 6, 3) := by decide +kernel
theorem dX5_addKey_20 : decode cX5_addKey 20 = .ok (.bipush (-2), 2) := by decide +kernel
theorem dX5_addKey_22 : decode cX5_addKey 22 = .ok (.ireturn, 1) := by decide +kernel
theorem dX5_addKey_23 : decode cX5_addKey 23 = .ok (.aload_n 0, 1) := by decide +kernel
theorem dX5_addKey_24 : decode cX5_addKey 24 = .ok (.iload_n 1, 1) := by decide +kernel
theorem dX5_addKey_25 : decode cX5_addKey 25 = .ok (.invokevirtual 96, 3) := by decide +kernel
theorem dX5_addKey_28 : decode cX5_addKey 28 = .ok (.ifCond .eq 6, 3) := by decide +kernel
theorem dX5_addKey_31 : decode cX5_addKey 31 = .ok (.bipush (-3), 2) := by decide +kernel
theorem dX5_addKey_33 : decode cX5_addKey 33 = .ok (.ireturn, 1) := by decide +kernel
theorem dX5_addKey_34 : decode cX5_addKey 34 = .ok (.aload_n 0, 1) := by decide +kernel
theorem dX5_addKey_35 : decode cX5_addKey 35 = .ok (.invokevirtual 99, 3) := by decide +kernel
theorem dX5_addKey_38 : decode cX5_addKey 38 = .ok (.bipush 8, 2) := by decide +kernel
theorem dX5_addKey_40 : decode cX5_addKey 40 = .ok (.if_icmp .ne 6, 3) := by decide +kernel
theorem dX5_addKey_43 : decode cX5_addKey 43 = .ok (.bipush (-4), 2) := by decide +kernel
theorem dX5_addKey_45 : decode cX5_addKey 45 = .ok (.ireturn, 1) := by decide +kernel
theorem dX5_addKey_46 : decode cX5_addKey 46 = .ok (.aload_n 0, 1) := by decide +kernel
theorem dX5_addKey_47 : decode cX5_addKey 47 = .ok (.invokevirtual 93, 3) := by decide +kernel
theorem dX5_addKey_50 : decode cX5_addKey 50 = .ok (.aload_n 0, 1) := by decide +kernel
theorem dX5_addKey_51 : decode cX5_addKey 51 = .ok (.getfield 7, 3) := by decide +kernel
theorem dX5_addKey_54 : decode cX5_addKey 54 = .ok (.bipush 11, 2) := by decide +kernel
theorem dX5_addKey_56 : decode cX5_addKey 56 = .ok (.iload_n 1, 1) := by decide +kernel
theorem dX5_addKey_57 : decode cX5_addKey 57 = .ok (.iadd, 1) := by decide +kernel
theorem dX5_addKey_58 : decode cX5_addKey 58 = .ok (.iload_n 2, 1) := by decide +kernel
theorem dX5_addKey_59 : decode cX5_addKey 59 = .ok (.iastore, 1) := by decide +kernel
theorem dX5_addKey_60 : decode cX5_addKey 60 = .ok (.aload_n 0, 1) := by decide +kernel
theorem dX5_addKey_61 : decode cX5_addKey 61 = .ok (.invokevirtual 99, 3) := by decide +kernel
theorem dX5_addKey_64 : decode cX5_addKey 64 = .ok (.ireturn, 1) := by decide +kernel
theorem dX5_removeKey_0 : decode cX5_removeKey 0 = .ok (.aload_n 0, 1) := by decide +kernel
theorem dX5_removeKey_1 : decode cX5_removeKey 1 = .ok (.iload_n 1, 1) := by decide +kernel
theorem dX5_removeKey_2 : decode cX5_removeKey 2 = .ok (.invokevirtual 96, 3) := by decide +kernel
theorem dX5_removeKey_5 : decode cX5_removeKey 5 = .ok (.ifCond .ne 5, 3) := by decide +kernel
theorem dX5_removeKey_8 : decode cX5_removeKey 8 = .ok (.iconst (-1), 1) := by decide +kernel
theorem dX5_removeKey_9 : decode cX5_removeKey 9 = .ok (.ireturn, 1) := by decide +kernel
theorem dX5_removeKey_10 : decode cX5_removeKey 10 = .ok (.iload_n 1, 1) := by decide +kernel
theorem dX5_removeKey_11 : decode cX5_removeKey 11 = .ok (.aload_n 0, 1) := by decide +kernel
theorem dX5_removeKey_12 : decode cX5_removeKey 12 = .ok (.getfield 7, 3) := by decide +kernel
theorem dX5_removeKey_15 : decode cX5_removeKey 15 = .ok (.iconst 1, 1) := by decide +kernel
theorem dX5_removeKey_16 : decode cX5_removeKey 16 = .ok (.iaload, 1) := by decide +kernel
theorem dX5_removeKey_17 : decode cX5_removeKey 17 = .ok (.if_icmp .eq 13, 3) := by decide +kernel
theorem dX5_removeKey_20 : decode cX5_removeKey 20 = .ok (.iload_n 1, 1) := by decide +kernel
theorem dX5_removeKey_21 : decode cX5_removeKey 21 = .ok (.aload_n 0, 1) := by decide +kernel
theorem dX5_removeKey_22 : decode cX5_removeKey 22 = .ok (.getfield 7, 3) := by decide +kernel
theorem dX5_removeKey_25 : decode cX5_removeKey 25 = .ok (.iconst 2, 1) := by decide +kernel
theorem dX5_removeKey_26 : decode cX5_removeKey 26 = .ok (.iaload, 1) := by decide +kernel
theorem dX5_removeKey_27 : decode cX5_removeKey 27 = .ok (.if_icmp .ne 6, 3) := by decide +kernel
theorem dX5_removeKey_30 : decode cX5_removeKey 30 = .ok (.bipush (-3), 2) := by decide +kernel
theorem dX5_removeKey_32 : decode cX5_removeKey 32 = .ok (.ireturn, 1) := by decide +kernel
theorem dX5_removeKey_33 : decode cX5_removeKey 33 = .ok (.aload_n 0, 1) := by decide +kernel
theorem dX5_removeKey_34 : decode cX5_removeKey 34 = .ok (.invokevirtual 93, 3) := by decide +kernel
theorem dX5_removeKey_37 : decode cX5_removeKey 37 = .ok (.aload_n 0, 1) := by decide +kernel
theorem dX5_removeKey_38 : decode cX5_removeKey 38 = .ok (.getfield 7, 3) := by decide +kernel
theorem dX5_removeKey_41 : decode cX5_removeKey 41 = .ok (.bipush 11, 2) := by decide +kernel
theorem dX5_removeKey_43 : decode cX5_removeKey 43 = .ok (.iload_n 1, 1) := by decide +kernel
theorem dX5_removeKey_44 : decode cX5_removeKey 44 = .ok (.iadd, 1) := by decide +kernel
theorem dX5_removeKey_45 : decode cX5_removeKey 45 = .ok (.bipush (-6), 2) := by decide +kernel
theorem dX5_removeKey_47 : decode cX5_removeKey 47 = .ok (.iastore, 1) := by decide +kernel
theorem dX5_removeKey_48 : decode cX5_removeKey 48 = .ok (.aload_n 0, 1) := by decide +kernel
theorem dX5_removeKey_49 : decode cX5_removeKey 49 = .ok (.invokevirtual 99, 3) := by decide +kernel
theorem dX5_removeKey_52 : decode cX5_removeKey 52 = .ok (.ireturn, 1) := by decide +kernel
theorem dX5_secretOf_0 : decode cX5_secretOf 0 = .ok (.aload_n 0, 1) := by decide +kernel
theorem dX5_secretOf_1 : decode cX5_secretOf 1 = .ok (.iload_n 1, 1) := by decide +kernel
theorem dX5_secretOf_2 : decode cX5_secretOf 2 = .ok (.invokevirtual 96, 3) := by decide +kernel
theorem dX5_secretOf_5 : decode cX5_secretOf 5 = .ok (.ifCond .eq 15, 3) := by decide +kernel
theorem dX5_secretOf_8 : decode cX5_secretOf 8 = .ok (.aload_n 0, 1) := by decide +kernel
theorem dX5_secretOf_9 : decode cX5_secretOf 9 = .ok (.getfield 7, 3) := by decide +kernel
theorem dX5_secretOf_12 : decode cX5_secretOf 12 = .ok (.bipush 11, 2) := by decide +kernel
theorem dX5_secretOf_14 : decode cX5_secretOf 14 = .ok (.iload_n 1, 1) := by decide +kernel
theorem dX5_secretOf_15 : decode cX5_secretOf 15 = .ok (.iadd, 1) := by decide +kernel
theorem dX5_secretOf_16 : decode cX5_secretOf 16 = .ok (.iaload, 1) := by decide +kernel
theorem dX5_secretOf_17 : decode cX5_secretOf 17 = .ok (.goto 4, 3) := by decide +kernel
theorem dX5_secretOf_20 : decode cX5_secretOf 20 = .ok (.iconst (-1), 1) := by decide +kernel
theorem dX5_secretOf_21 : decode cX5_secretOf 21 = .ok (.ireturn, 1) := by decide +kernel
theorem dX5_sets_0 : decode cX5_sets 0 = .ok (.aload_n 0, 1) := by decide +kernel
theorem dX5_sets_1 : decode cX5_sets 1 = .ok (.invokevirtual 102, 3) := by decide +kernel
theorem dX5_sets_4 : decode cX5_sets 4 = .ok (.ifCond .eq 6, 3) := by decide +kernel
theorem dX5_sets_7 : decode cX5_sets 7 = .ok (.bipush (-3), 2) := by decide +kernel
theorem dX5_sets_9 : decode cX5_sets 9 = .ok (.ireturn, 1) := by decide +kernel
theorem dX5_sets_10 : decode cX5_sets 10 = .ok (.aload_n 0, 1) := by decide +kernel
theorem dX5_sets_11 : decode cX5_sets 11 = .ok (.invokevirtual 93, 3) := by decide +kernel
theorem dX5_sets_14 : decode cX5_sets 14 = .ok (.aload_n 0, 1) := by decide +kernel
theorem dX5_sets_15 : decode cX5_sets 15 = .ok (.getfield 7, 3) := by decide +kernel
theorem dX5_sets_18 : decode cX5_sets 18 = .ok (.iload_n 1, 1) := by decide +kernel
theorem dX5_sets_19 : decode cX5_sets 19 = .ok (.iaload, 1) := by decide +kernel
theorem dX5_sets_20 : decode cX5_sets 20 = .ok (.istore_n 3, 1) := by decide +kernel
theorem dX5_sets_21 : decode cX5_sets 21 = .ok (.aload_n 0, 1) := by decide +kernel
theorem dX5_sets_22 : decode cX5_sets 22 = .ok (.getfield 7, 3) := by decide +kernel
theorem dX5_sets_25 : decode cX5_sets 25 = .ok (.iload_n 1, 1) := by decide +kernel
theorem dX5_sets_26 : decode cX5_sets 26 = .ok (.iload_n 2, 1) := by decide +kernel
theorem dX5_sets_27 : decode cX5_sets 27 = .ok (.iastore, 1) := by decide +kernel
theorem dX5_sets_28 : decode cX5_sets 28 = .ok (.iload_n 3, 1) := by decide +kernel
theorem dX5_sets_29 : decode cX5_sets 29 = .ok (.ireturn, 1) := by decide +kernel
theorem dX5_setZone_0 : decode cX5_setZone 0 = .ok (.iload_n 1, 1) := by decide +kernel
theorem dX5_setZone_1 : decode cX5_setZone 1 = .ok (.iconst 1, 1) := by decide +kernel
theorem dX5_setZone_2 : decode cX5_setZone 2 = .ok (.bipush 8, 2) := by decide +kernel
theorem dX5_setZone_4 : decode cX5_setZone 4 = .ok (.invokestatic 52, 3) := by decide +kernel
theorem dX5_setZone_7 : decode cX5_setZone 7 = .ok (.ifCond .eq 13, 3) := by decide +kernel
theorem dX5_setZone_10 : decode cX5_setZone 10 = .ok (.aload_n 0, 1) := by decide +kernel
theorem dX5_setZone_11 : decode cX5_setZone 11 = .ok (.bipush 7, 2) := by decide +kernel
theorem dX5_setZone_13 : decode cX5_setZone 13 = .ok (.iload_n 1, 1) := by decide +kernel
theorem dX5_setZone_14 : decode cX5_setZone 14 = .ok (.invokevirtual 105, 3) := by decide +kernel
theorem dX5_setZone_17 : decode cX5_setZone 17 = .ok (.goto 5, 3) := by decide +kernel
theorem dX5_setZone_20 : decode cX5_setZone 20 = .ok (.bipush (-2), 2) := by decide +kernel
theorem dX5_setZone_22 : decode cX5_setZone 22 = .ok (.ireturn, 1) := by decide +kernel
theorem dX5_setJournal_0 : decode cX5_setJournal 0 = .ok (.iload_n 1, 1) := by decide +kernel
theorem dX5_setJournal_1 : decode cX5_setJournal 1 = .ok (.iconst 0, 1) := by decide +kernel
theorem dX5_setJournal_2 : decode cX5_setJournal 2 = .ok (.iconst 1, 1) := by decide +kernel
theorem dX5_setJournal_3 : decode cX5_setJournal 3 = .ok (.invokestatic 52, 3) := by decide +kernel
theorem dX5_setJournal_6 : decode cX5_setJournal 6 = .ok (.ifCond .eq 13, 3) := by decide +kernel
theorem dX5_setJournal_9 : decode cX5_setJournal 9 = .ok (.aload_n 0, 1) := by decide +kernel
theorem dX5_setJournal_10 : decode cX5_setJournal 10 = .ok (.bipush 8, 2) := by decide +kernel
theorem dX5_setJournal_12 : decode cX5_setJournal 12 = .ok (.iload_n 1, 1) := by decide +kernel
theorem dX5_setJournal_13 : decode cX5_setJournal 13 = .ok (.invokevirtual 105, 3) := by decide +kernel
theorem dX5_setJournal_16 : decode cX5_setJournal 16 = .ok (.goto 5, 3) := by decide +kernel
theorem dX5_setJournal_19 : decode cX5_setJournal 19 = .ok (.bipush (-2), 2) := by decide +kernel
theorem dX5_setJournal_21 : decode cX5_setJournal 21 = .ok (.ireturn, 1) := by decide +kernel
theorem dX5_start_0 : decode cX5_start 0 = .ok (.aload_n 0, 1) := by decide +kernel
theorem dX5_start_1 : decode cX5_start 1 = .ok (.iload_n 1, 1) := by decide +kernel
theorem dX5_start_2 : decode cX5_start 2 = .ok (.invokevirtual 96, 3) := by decide +kernel
theorem dX5_start_5 : decode cX5_start 5 = .ok (.ifCond .ne 5, 3) := by decide +kernel
theorem dX5_start_8 : decode cX5_start 8 = .ok (.iconst (-1), 1) := by decide +kernel
theorem dX5_start_9 : decode cX5_start 9 = .ok (.ireturn, 1) := by decide +kernel
theorem dX5_start_10 : decode cX5_start 10 = .ok (.aload_n 0, 1) := by decide +kernel
theorem dX5_start_11 : decode cX5_start 11 = .ok (.invokevirtual 56, 3) := by decide +kernel
theorem dX5_start_14 : decode cX5_start 14 = .ok (.ifCond .ne 13, 3) := by decide +kernel
theorem dX5_start_17 : decode cX5_start 17 = .ok (.iload_n 1, 1) := by decide +kernel
theorem dX5_start_18 : decode cX5_start 18 = .ok (.aload_n 0, 1) := by decide +kernel
theorem dX5_start_19 : decode cX5_start 19 = .ok (.getfield 7, 3) := by decide +kernel
theorem dX5_start_22 : decode cX5_start 22 = .ok (.iconst 1, 1) := by decide +kernel
theorem dX5_start_23 : decode cX5_start 23 = .ok (.iaload, 1) := by decide +kernel
theorem dX5_start_24 : decode cX5_start 24 = .ok (.if_icmp .ne 6, 3) := by decide +kernel
theorem dX5_start_27 : decode cX5_start 27 = .ok (.bipush (-3), 2) := by decide +kernel
theorem dX5_start_29 : decode cX5_start 29 = .ok (.ireturn, 1) := by decide +kernel
theorem dX5_start_30 : decode cX5_start 30 = .ok (.aload_n 0, 1) := by decide +kernel
theorem dX5_start_31 : decode cX5_start 31 = .ok (.invokevirtual 93, 3) := by decide +kernel
theorem dX5_start_34 : decode cX5_start 34 = .ok (.aload_n 0, 1) := by decide +kernel
theorem dX5_start_35 : decode cX5_start 35 = .ok (.getfield 7, 3) := by decide +kernel
theorem dX5_start_38 : decode cX5_start 38 = .ok (.iconst 2, 1) := by decide +kernel
theorem dX5_start_39 : decode cX5_start 39 = .ok (.iload_n 1, 1) := by decide +kernel
theorem dX5_start_40 : decode cX5_start 40 = .ok (.iastore, 1) := by decide +kernel
theorem dX5_start_41 : decode cX5_start 41 = .ok (.aload_n 0, 1) := by decide +kernel
theorem dX5_start_42 : decode cX5_start 42 = .ok (.getfield 7, 3) := by decide +kernel
theorem dX5_start_45 : decode cX5_start 45 = .ok (.iconst 3, 1) := by decide +kernel
theorem dX5_start_46 : decode cX5_start 46 = .ok (.iconst 0, 1) := by decide +kernel
theorem dX5_start_47 : decode cX5_start 47 = .ok (.iastore, 1) := by decide +kernel
theorem dX5_start_48 : decode cX5_start 48 = .ok (.aload_n 0, 1) := by decide +kernel
theorem dX5_start_49 : decode cX5_start 49 = .ok (.getfield 7, 3) := by decide +kernel
theorem dX5_start_52 : decode cX5_start 52 = .ok (.iconst 4, 1) := by decide +kernel
theorem dX5_start_53 : decode cX5_start 53 = .ok (.iconst 1, 1) := by decide +kernel
theorem dX5_start_54 : decode cX5_start 54 = .ok (.iastore, 1) := by decide +kernel
theorem dX5_start_55 : decode cX5_start 55 = .ok (.aload_n 0, 1) := by decide +kernel
theorem dX5_start_56 : decode cX5_start 56 = .ok (.invokevirtual 109, 3) := by decide +kernel
theorem dX5_start_59 : decode cX5_start 59 = .ok (.ireturn, 1) := by decide +kernel
theorem dX5_whyNotSteps_0 : decode cX5_whyNotSteps 0 = .ok (.iload_n 1, 1) := by decide +kernel
theorem dX5_whyNotSteps_1 : decode cX5_whyNotSteps 1 = .ok (.iconst 1, 1) := by decide +kernel
theorem dX5_whyNotSteps_2 : decode cX5_whyNotSteps 2 = .ok (.sipush 999, 3) := by decide +kernel
theorem dX5_whyNotSteps_5 : decode cX5_whyNotSteps 5 = .ok (.invokestatic 52, 3) := by decide +kernel
theorem dX5_whyNotSteps_8 : decode cX5_whyNotSteps 8 = .ok (.ifCond .ne 8, 3) := by decide +kernel
theorem dX5_whyNotSteps_11 : decode cX5_whyNotSteps 11 = .ok (.bipush (-2), 2) := by decide +kernel
theorem dX5_whyNotSteps_13 : decode cX5_whyNotSteps 13 = .ok (.goto 16, 3) := by decide +kernel
theorem dX5_whyNotSteps_16 : decode cX5_whyNotSteps 16 = .ok (.aload_n 0, 1) := by decide +kernel
theorem dX5_whyNotSteps_17 : decode cX5_whyNotSteps 17 = .ok (.invokevirtual 56, 3) := by decide +kernel
theorem dX5_whyNotSteps_20 : decode cX5_whyNotSteps 20 = .ok (.ifCond .eq 7, 3) := by decide +kernel
theorem dX5_whyNotSteps_23 : decode cX5_whyNotSteps 23 = .ok (.iconst 0, 1) := by decide +kernel
theorem dX5_whyNotSteps_24 : decode cX5_whyNotSteps 24 = .ok (.goto 5, 3) := by decide +kernel
theorem dX5_whyNotSteps_27 : decode cX5_whyNotSteps 27 = .ok (.bipush (-3), 2) := by decide +kernel
theorem dX5_whyNotSteps_29 : decode cX5_whyNotSteps 29 = .ok (.ireturn, 1) := by decide +kernel
theorem dX5_steps_0 : decode cX5_steps 0 = .ok (.aload_n 0, 1) := by decide +kernel
theorem dX5_steps_1 : decode cX5_steps 1 = .ok (.iload_n 1, 1) := by decide +kernel
theorem dX5_steps_2 : decode cX5_steps 2 = .ok (.invokevirtual 112, 3) := by decide +kernel
theorem dX5_steps_5 : decode cX5_steps 5 = .ok (.istore_n 2, 1) := by decide +kernel
theorem dX5_steps_6 : decode cX5_steps 6 = .ok (.iload_n 2, 1) := by decide +kernel
theorem dX5_steps_7 : decode cX5_steps 7 = .ok (.ifCond .ge 5, 3) := by decide +kernel
theorem dX5_steps_10 : decode cX5_steps 10 = .ok (.iload_n 2, 1) := by decide +kernel
theorem dX5_steps_11 : decode cX5_steps 11 = .ok (.ireturn, 1) := by decide +kernel
theorem dX5_steps_12 : decode cX5_steps 12 = .ok (.aload_n 0, 1) := by decide +kernel
theorem dX5_steps_13 : decode cX5_steps 13 = .ok (.invokevirtual 93, 3) := by decide +kernel
theorem dX5_steps_16 : decode cX5_steps 16 = .ok (.aload_n 0, 1) := by decide +kernel
theorem dX5_steps_17 : decode cX5_steps 17 = .ok (.iload_n 1, 1) := by decide +kernel
theorem dX5_steps_18 : decode cX5_steps 18 = .ok (.invokevirtual 115, 3) := by decide +kernel
theorem dX5_steps_21 : decode cX5_steps 21 = .ok (.ireturn, 1) := by decide +kernel
theorem dX5_whyNotTurned_0 : decode cX5_whyNotTurned 0 = .ok (.aload_n 0, 1) := by decide +kernel
theorem dX5_whyNotTurned_1 : decode cX5_whyNotTurned 1 = .ok (.invokevirtual 56, 3) := by decide +kernel
theorem dX5_whyNotTurned_4 : decode cX5_whyNotTurned 4 = .ok (.ifCond .eq 14, 3) := by decide +kernel
theorem dX5_whyNotTurned_7 : decode cX5_whyNotTurned 7 = .ok (.aload_n 0, 1) := by decide +kernel
theorem dX5_whyNotTurned_8 : decode cX5_whyNotTurned 8 = .ok (.invokevirtual 102, 3) := by decide +kernel
theorem dX5_whyNotTurned_11 : decode cX5_whyNotTurned 11 = .ok (.ifCond .ne 7, 3) := by decide +kernel
theorem dX5_whyNotTurned_14 : decode cX5_whyNotTurned 14 = .ok (.iconst 0, 1) := by decide +kernel
theorem dX5_whyNotTurned_15 : decode cX5_whyNotTurned 15 = .ok (.goto 5, 3) := by decide +kernel
theorem dX5_whyNotTurned_18 : decode cX5_whyNotTurned 18 = .ok (.bipush (-3), 2) := by decide +kernel
theorem dX5_whyNotTurned_20 : decode cX5_whyNotTurned 20 = .ok (.ireturn, 1) := by decide +kernel
theorem dX5_turns_0 : decode cX5_turns 0 = .ok (.aload_n 0, 1) := by decide +kernel
theorem dX5_turns_1 : decode cX5_turns 1 = .ok (.getfield 7, 3) := by decide +kernel
theorem dX5_turns_4 : decode cX5_turns 4 = .ok (.iconst 4, 1) := by decide +kernel
theorem dX5_turns_5 : decode cX5_turns 5 = .ok (.iconst 1, 1) := by decide +kernel
theorem dX5_turns_6 : decode cX5_turns 6 = .ok (.aload_n 0, 1) := by decide +kernel
theorem dX5_turns_7 : decode cX5_turns 7 = .ok (.getfield 7, 3) := by decide +kernel
theorem dX5_turns_10 : decode cX5_turns 10 = .ok (.iconst 4, 1) := by decide +kernel
theorem dX5_turns_11 : decode cX5_turns 11 = .ok (.iaload, 1) := by decide +kernel
theorem dX5_turns_12 : decode cX5_turns 12 = .ok (.isub, 1) := by decide +kernel
theorem dX5_turns_13 : decode cX5_turns 13 = .ok (.iastore, 1) := by decide +kernel
theorem dX5_turns_14 : decode cX5_turns 14 = .ok (.aload_n 0, 1) := by decide +kernel
theorem dX5_turns_15 : decode cX5_turns 15 = .ok (.invokevirtual 84, 3) := by decide +kernel
theorem dX5_turns_18 : decode cX5_turns 18 = .ok (.aload_n 0, 1) := by decide +kernel
theorem dX5_turns_19 : decode cX5_turns 19 = .ok (.invokevirtual 109, 3) := by decide +kernel
theorem dX5_turns_22 : decode cX5_turns 22 = .ok (.ireturn, 1) := by decide +kernel
theorem dX5_turnBack_0 : decode cX5_turnBack 0 = .ok (.aload_n 0, 1) := by decide +kernel
theorem dX5_turnBack_1 : decode cX5_turnBack 1 = .ok (.invokevirtual 118, 3) := by decide +kernel
theorem dX5_turnBack_4 : decode cX5_turnBack 4 = .ok (.istore_n 1, 1) := by decide +kernel
theorem dX5_turnBack_5 : decode cX5_turnBack 5 = .ok (.iload_n 1, 1) := by decide +kernel
theorem dX5_turnBack_6 : decode cX5_turnBack 6 = .ok (.ifCond .ge 5, 3) := by decide +kernel
theorem dX5_turnBack_9 : decode cX5_turnBack 9 = .ok (.iload_n 1, 1) := by decide +kernel
theorem dX5_turnBack_10 : decode cX5_turnBack 10 = .ok (.ireturn, 1) := by decide +kernel
theorem dX5_turnBack_11 : decode cX5_turnBack 11 = .ok (.aload_n 0, 1) := by decide +kernel
theorem dX5_turnBack_12 : decode cX5_turnBack 12 = .ok (.invokevirtual 93, 3) := by decide +kernel
theorem dX5_turnBack_15 : decode cX5_turnBack 15 = .ok (.aload_n 0, 1) := by decide +kernel
theorem dX5_turnBack_16 : decode cX5_turnBack 16 = .ok (.invokevirtual 121, 3) := by decide +kernel
theorem dX5_turnBack_19 : decode cX5_turnBack 19 = .ok (.ireturn, 1) := by decide +kernel
theorem dX5_cachedMany_0 : decode cX5_cachedMany 0 = .ok (.iconst 0, 1) := by decide +kernel
theorem dX5_cachedMany_1 : decode cX5_cachedMany 1 = .ok (.istore_n 1, 1) := by decide +kernel
theorem dX5_cachedMany_2 : decode cX5_cachedMany 2 = .ok (.iconst 0, 1) := by decide +kernel
theorem dX5_cachedMany_3 : decode cX5_cachedMany 3 = .ok (.istore_n 2, 1) := by decide +kernel
theorem dX5_cachedMany_4 : decode cX5_cachedMany 4 = .ok (.iload_n 2, 1) := by decide +kernel
theorem dX5_cachedMany_5 : decode cX5_cachedMany 5 = .ok (.aload_n 0, 1) := by decide +kernel
theorem dX5_cachedMany_6 : decode cX5_cachedMany 6 = .ok (.getfield 7, 3) := by decide +kernel
theorem dX5_cachedMany_9 : decode cX5_cachedMany 9 = .ok (.iconst 0, 1) := by decide +kernel
theorem dX5_cachedMany_10 : decode cX5_cachedMany 10 = .ok (.iaload, 1) := by decide +kernel
theorem dX5_cachedMany_11 : decode cX5_cachedMany 11 = .ok (.if_icmp .ge 32, 3) := by decide +kernel
theorem dX5_cachedMany_14 : decode cX5_cachedMany 14 = .ok (.iload_n 1, 1) := by decide +kernel
theorem dX5_cachedMany_15 : decode cX5_cachedMany 15 = .ok (.aload_n 0, 1) := by decide +kernel
theorem dX5_cachedMany_16 : decode cX5_cachedMany 16 = .ok (.getfield 7, 3) := by decide +kernel
theorem dX5_cachedMany_19 : decode cX5_cachedMany 19 = .ok (.sipush 239, 3) := by decide +kernel
theorem dX5_cachedMany_22 : decode cX5_cachedMany 22 = .ok (.iload_n 2, 1) := by decide +kernel
theorem dX5_cachedMany_23 : decode cX5_cachedMany 23 = .ok (.iadd, 1) := by decide +kernel
theorem dX5_cachedMany_24 : decode cX5_cachedMany 24 = .ok (.iaload, 1) := by decide +kernel
theorem dX5_cachedMany_25 : decode cX5_cachedMany 25 = .ok (.bipush (-6), 2) := by decide +kernel
theorem dX5_cachedMany_27 : decode cX5_cachedMany 27 = .ok (.if_icmp .ne 7, 3) := by decide +kernel
theorem dX5_cachedMany_30 : decode cX5_cachedMany 30 = .ok (.iconst 0, 1) := by decide +kernel
theorem dX5_cachedMany_31 : decode cX5_cachedMany 31 = .ok (.goto 4, 3) := by decide +kernel
theorem dX5_cachedMany_34 : decode cX5_cachedMany 34 = .ok (.iconst 1, 1) := by decide +kernel
theorem dX5_cachedMany_35 : decode cX5_cachedMany 35 = .ok (.iadd, 1) := by decide +kernel
theorem dX5_cachedMany_36 : decode cX5_cachedMany 36 = .ok (.istore_n 1, 1) := by decide +kernel
theorem dX5_cachedMany_37 : decode cX5_cachedMany 37 = .ok (.iinc 2 1, 3) := by decide +kernel
theorem dX5_cachedMany_40 : decode cX5_cachedMany 40 = .ok (.goto (-36), 3) := by decide +kernel
theorem dX5_cachedMany_43 : decode cX5_cachedMany 43 = .ok (.iload_n 1, 1) := by decide +kernel
theorem dX5_cachedMany_44 : decode cX5_cachedMany 44 = .ok (.ireturn, 1) := by decide +kernel
theorem dX5_whyNotWritten_0 : decode cX5_whyNotWritten 0 = .ok (.aload_n 0, 1) := by decide +kernel
theorem dX5_whyNotWritten_1 : decode cX5_whyNotWritten 1 = .ok (.iload_n 1, 1) := by decide +kernel
theorem dX5_whyNotWritten_2 : decode cX5_whyNotWritten 2 = .ok (.invokevirtual 124, 3) := by decide +kernel
theorem dX5_whyNotWritten_5 : decode cX5_whyNotWritten 5 = .ok (.ifCond .ne 5, 3) := by decide +kernel
theorem dX5_whyNotWritten_8 : decode cX5_whyNotWritten 8 = .ok (.iconst (-1), 1) := by decide +kernel
theorem dX5_whyNotWritten_9 : decode cX5_whyNotWritten 9 = .ok (.ireturn, 1) := by decide +kernel
theorem dX5_whyNotWritten_10 : decode cX5_whyNotWritten 10 = .ok (.iload_n 2, 1) := by decide +kernel
theorem dX5_whyNotWritten_11 : decode cX5_whyNotWritten 11 = .ok (.iconst 0, 1) := by decide +kernel
theorem dX5_whyNotWritten_12 : decode cX5_whyNotWritten 12 = .ok (.ldc 41, 2) := by decide +kernel
theorem dX5_whyNotWritten_14 : decode cX5_whyNotWritten 14 = .ok (.invokestatic 52, 3) := by decide +kernel
theorem dX5_whyNotWritten_17 : decode cX5_whyNotWritten 17 = .ok (.ifCond .ne 6, 3) := by decide +kernel
theorem dX5_whyNotWritten_20 : decode cX5_whyNotWritten 20 = .ok (.bipush (-2), 2) := by decide +kernel
theorem dX5_whyNotWritten_22 : decode cX5_whyNotWritten 22 = .ok (.ireturn, 1) := by decide +kernel
theorem dX5_whyNotWritten_23 : decode cX5_whyNotWritten 23 = .ok (.aload_n 0, 1) := by decide +kernel
theorem dX5_whyNotWritten_24 : decode cX5_whyNotWritten 24 = .ok (.getfield 7, 3) := by decide +kernel
theorem dX5_whyNotWritten_27 : decode cX5_whyNotWritten 27 = .ok (.sipush 239, 3) := by decide +kernel
theorem dX5_whyNotWritten_30 : decode cX5_whyNotWritten 30 = .ok (.iload_n 1, 1) := by decide +kernel
theorem dX5_whyNotWritten_31 : decode cX5_whyNotWritten 31 = .ok (.iadd, 1) := by decide +kernel
theorem dX5_whyNotWritten_32 : decode cX5_whyNotWritten 32 = .ok (.iaload, 1) := by decide +kernel
theorem dX5_whyNotWritten_33 : decode cX5_whyNotWritten 33 = .ok (.bipush (-6), 2) := by decide +kernel
theorem dX5_whyNotWritten_35 : decode cX5_whyNotWritten 35 = .ok (.if_icmp .ne 17, 3) := by decide +kernel
theorem dX5_whyNotWritten_38 : decode cX5_whyNotWritten 38 = .ok (.aload_n 0, 1) := by decide +kernel
theorem dX5_whyNotWritten_39 : decode cX5_whyNotWritten 39 = .ok (.invokevirtual 127, 3) := by decide +kernel
theorem dX5_whyNotWritten_42 : decode cX5_whyNotWritten 42 = .ok (.bipush 8, 2) := by decide +kernel
theorem dX5_whyNotWritten_44 : decode cX5_whyNotWritten 44 = .ok (.if_icmp .ne 8, 3) := by decide +kernel
theorem dX5_whyNotWritten_47 : decode cX5_whyNotWritten 47 = .ok (.bipush (-4), 2) := by decide +kernel
theorem dX5_whyNotWritten_49 : decode cX5_whyNotWritten 49 = .ok (.goto 4, 3) := by decide +kernel
theorem dX5_whyNotWritten_52 : decode cX5_whyNotWritten 52 = .ok (.iconst 0, 1) := by decide +kernel
theorem dX5_whyNotWritten_53 : decode cX5_whyNotWritten 53 = .ok (.ireturn, 1) := by decide +kernel
theorem dX5_writes_0 : decode cX5_writes 0 = .ok (.aload_n 0, 1) := by decide +kernel
theorem dX5_writes_1 : decode cX5_writes 1 = .ok (.getfield 7, 3) := by decide +kernel
theorem dX5_writes_4 : decode cX5_writes 4 = .ok (.sipush 239, 3) := by decide +kernel
theorem dX5_writes_7 : decode cX5_writes 7 = .ok (.iload_n 1, 1) := by decide +kernel
theorem dX5_writes_8 : decode cX5_writes 8 = .ok (.iadd, 1) := by decide +kernel
theorem dX5_writes_9 : decode cX5_writes 9 = .ok (.iload_n 2, 1) := by decide +kernel
theorem dX5_writes_10 : decode cX5_writes 10 = .ok (.iastore, 1) := by decide +kernel
theorem dX5_writes_11 : decode cX5_writes 11 = .ok (.aload_n 0, 1) := by decide +kernel
theorem dX5_writes_12 : decode cX5_writes 12 = .ok (.getfield 7, 3) := by decide +kernel
theorem dX5_writes_15 : decode cX5_writes 15 = .ok (.sipush 303, 3) := by decide +kernel
theorem dX5_writes_18 : decode cX5_writes 18 = .ok (.iload_n 1, 1) := by decide +kernel
theorem dX5_writes_19 : decode cX5_writes 19 = .ok (.iadd, 1) := by decide +kernel
theorem dX5_writes_20 : decode cX5_writes 20 = .ok (.iload_n 2, 1) := by decide +kernel
theorem dX5_writes_21 : decode cX5_writes 21 = .ok (.iastore, 1) := by decide +kernel
theorem dX5_writes_22 : decode cX5_writes 22 = .ok (.aload_n 0, 1) := by decide +kernel
theorem dX5_writes_23 : decode cX5_writes 23 = .ok (.invokevirtual 127, 3) := by decide +kernel
theorem dX5_writes_26 : decode cX5_writes 26 = .ok (.ireturn, 1) := by decide +kernel
theorem dX5_write_0 : decode cX5_write 0 = .ok (.aload_n 0, 1) := by decide +kernel
theorem dX5_write_1 : decode cX5_write 1 = .ok (.iload_n 1, 1) := by decide +kernel
theorem dX5_write_2 : decode cX5_write 2 = .ok (.iload_n 2, 1) := by decide +kernel
theorem dX5_write_3 : decode cX5_write 3 = .ok (.invokevirtual 130, 3) := by decide +kernel
theorem dX5_write_6 : decode cX5_write 6 = .ok (.istore_n 3, 1) := by decide +kernel
theorem dX5_write_7 : decode cX5_write 7 = .ok (.iload_n 3, 1) := by decide +kernel
theorem dX5_write_8 : decode cX5_write 8 = .ok (.ifCond .ge 5, 3) := by decide +kernel
theorem dX5_write_11 : decode cX5_write 11 = .ok (.iload_n 3, 1) := by decide +kernel
theorem dX5_write_12 : decode cX5_write 12 = .ok (.ireturn, 1) := by decide +kernel
theorem dX5_write_13 : decode cX5_write 13 = .ok (.aload_n 0, 1) := by decide +kernel
theorem dX5_write_14 : decode cX5_write 14 = .ok (.invokevirtual 93, 3) := by decide +kernel
theorem dX5_write_17 : decode cX5_write 17 = .ok (.aload_n 0, 1) := by decide +kernel
theorem dX5_write_18 : decode cX5_write 18 = .ok (.iload_n 1, 1) := by decide +kernel
theorem dX5_write_19 : decode cX5_write 19 = .ok (.iload_n 2, 1) := by decide +kernel
theorem dX5_write_20 : decode cX5_write 20 = .ok (.invokevirtual 133, 3) := by decide +kernel
theorem dX5_write_23 : decode cX5_write 23 = .ok (.ireturn, 1) := by decide +kernel
theorem dX5_canFlush_0 : decode cX5_canFlush 0 = .ok (.aload_n 0, 1) := by decide +kernel
theorem dX5_canFlush_1 : decode cX5_canFlush 1 = .ok (.getfield 7, 3) := by decide +kernel
theorem dX5_canFlush_4 : decode cX5_canFlush 4 = .ok (.sipush 239, 3) := by decide +kernel
theorem dX5_canFlush_7 : decode cX5_canFlush 7 = .ok (.iload_n 1, 1) := by decide +kernel
theorem dX5_canFlush_8 : decode cX5_canFlush 8 = .ok (.iadd, 1) := by decide +kernel
theorem dX5_canFlush_9 : decode cX5_canFlush 9 = .ok (.iaload, 1) := by decide +kernel
theorem dX5_canFlush_10 : decode cX5_canFlush 10 = .ok (.bipush (-6), 2) := by decide +kernel
theorem dX5_canFlush_12 : decode cX5_canFlush 12 = .ok (.if_icmp .eq 22, 3) := by decide +kernel
theorem dX5_canFlush_15 : decode cX5_canFlush 15 = .ok (.aload_n 0, 1) := by decide +kernel
theorem dX5_canFlush_16 : decode cX5_canFlush 16 = .ok (.invokevirtual 102, 3) := by decide +kernel
theorem dX5_canFlush_19 : decode cX5_canFlush 19 = .ok (.ifCond .eq 11, 3) := by decide +kernel
theorem dX5_canFlush_22 : decode cX5_canFlush 22 = .ok (.aload_n 0, 1) := by decide +kernel
theorem dX5_canFlush_23 : decode cX5_canFlush 23 = .ok (.iload_n 1, 1) := by decide +kernel
theorem dX5_canFlush_24 : decode cX5_canFlush 24 = .ok (.invokevirtual 67, 3) := by decide +kernel
theorem dX5_canFlush_27 : decode cX5_canFlush 27 = .ok (.ifCond .ne 7, 3) := by decide +kernel
theorem dX5_canFlush_30 : decode cX5_canFlush 30 = .ok (.iconst 1, 1) := by decide +kernel
theorem dX5_canFlush_31 : decode cX5_canFlush 31 = .ok (.goto 4, 3) := by decide +kernel
theorem dX5_canFlush_34 : decode cX5_canFlush 34 = .ok (.iconst 0, 1) := by decide +kernel
theorem dX5_canFlush_35 : decode cX5_canFlush 35 = .ok (.ireturn, 1) := by decide +kernel
theorem dX5_formThen_0 : decode cX5_formThen 0 = .ok (.aload_n 0, 1) := by decide +kernel
theorem dX5_formThen_1 : decode cX5_formThen 1 = .ok (.iload_n 1, 1) := by decide +kernel
theorem dX5_formThen_2 : decode cX5_formThen 2 = .ok (.invokevirtual 136, 3) := by decide +kernel
theorem dX5_formThen_5 : decode cX5_formThen 5 = .ok (.ifCond .eq 25, 3) := by decide +kernel
theorem dX5_formThen_8 : decode cX5_formThen 8 = .ok (.aload_n 0, 1) := by decide +kernel
theorem dX5_formThen_9 : decode cX5_formThen 9 = .ok (.getfield 7, 3) := by decide +kernel
theorem dX5_formThen_12 : decode cX5_formThen 12 = .ok (.sipush 239, 3) := by decide +kernel
theorem dX5_formThen_15 : decode cX5_formThen 15 = .ok (.iload_n 1, 1) := by decide +kernel
theorem dX5_formThen_16 : decode cX5_formThen 16 = .ok (.iadd, 1) := by decide +kernel
theorem dX5_formThen_17 : decode cX5_formThen 17 = .ok (.iaload, 1) := by decide +kernel
theorem dX5_formThen_18 : decode cX5_formThen 18 = .ok (.iload_n 1, 1) := by decide +kernel
theorem dX5_formThen_19 : decode cX5_formThen 19 = .ok (.aload_n 0, 1) := by decide +kernel
theorem dX5_formThen_20 : decode cX5_formThen 20 = .ok (.iload_n 1, 1) := by decide +kernel
theorem dX5_formThen_21 : decode cX5_formThen 21 = .ok (.invokevirtual 78, 3) := by decide +kernel
theorem dX5_formThen_24 : decode cX5_formThen 24 = .ok (.invokestatic 45, 3) := by decide +kernel
theorem dX5_formThen_27 : decode cX5_formThen 27 = .ok (.goto 12, 3) := by decide +kernel
theorem dX5_formThen_30 : decode cX5_formThen 30 = .ok (.aload_n 0, 1) := by decide +kernel
theorem dX5_formThen_31 : decode cX5_formThen 31 = .ok (.getfield 7, 3) := by decide +kernel
theorem dX5_formThen_34 : decode cX5_formThen 34 = .ok (.bipush 111, 2) := by decide +kernel
theorem dX5_formThen_36 : decode cX5_formThen 36 = .ok (.iload_n 1, 1) := by decide +kernel
theorem dX5_formThen_37 : decode cX5_formThen 37 = .ok (.iadd, 1) := by decide +kernel
theorem dX5_formThen_38 : decode cX5_formThen 38 = .ok (.iaload, 1) := by decide +kernel
theorem dX5_formThen_39 : decode cX5_formThen 39 = .ok (.ireturn, 1) := by decide +kernel
theorem dX5_flushes_0 : decode cX5_flushes 0 = .ok (.iconst 0, 1) := by decide +kernel
theorem dX5_flushes_1 : decode cX5_flushes 1 = .ok (.istore_n 1, 1) := by decide +kernel
theorem dX5_flushes_2 : decode cX5_flushes 2 = .ok (.iconst 0, 1) := by decide +kernel
theorem dX5_flushes_3 : decode cX5_flushes 3 = .ok (.istore_n 2, 1) := by decide +kernel
theorem dX5_flushes_4 : decode cX5_flushes 4 = .ok (.iload_n 2, 1) := by decide +kernel
theorem dX5_flushes_5 : decode cX5_flushes 5 = .ok (.aload_n 0, 1) := by decide +kernel
theorem dX5_flushes_6 : decode cX5_flushes 6 = .ok (.getfield 7, 3) := by decide +kernel
theorem dX5_flushes_9 : decode cX5_flushes 9 = .ok (.iconst 0, 1) := by decide +kernel
theorem dX5_flushes_10 : decode cX5_flushes 10 = .ok (.iaload, 1) := by decide +kernel
theorem dX5_flushes_11 : decode cX5_flushes 11 = .ok (.if_icmp .ge 46, 3) := by decide +kernel
theorem dX5_flushes_14 : decode cX5_flushes 14 = .ok (.aload_n 0, 1) := by decide +kernel
theorem dX5_flushes_15 : decode cX5_flushes 15 = .ok (.iload_n 2, 1) := by decide +kernel
theorem dX5_flushes_16 : decode cX5_flushes 16 = .ok (.invokevirtual 136, 3) := by decide +kernel
theorem dX5_flushes_19 : decode cX5_flushes 19 = .ok (.ifCond .eq 32, 3) := by decide +kernel
theorem dX5_flushes_22 : decode cX5_flushes 22 = .ok (.aload_n 0, 1) := by decide +kernel
theorem dX5_flushes_23 : decode cX5_flushes 23 = .ok (.getfield 7, 3) := by decide +kernel
theorem dX5_flushes_26 : decode cX5_flushes 26 = .ok (.bipush 111, 2) := by decide +kernel
theorem dX5_flushes_28 : decode cX5_flushes 28 = .ok (.iload_n 2, 1) := by decide +kernel
theorem dX5_flushes_29 : decode cX5_flushes 29 = .ok (.iadd, 1) := by decide +kernel
theorem dX5_flushes_30 : decode cX5_flushes 30 = .ok (.aload_n 0, 1) := by decide +kernel
theorem dX5_flushes_31 : decode cX5_flushes 31 = .ok (.iload_n 2, 1) := by decide +kernel
theorem dX5_flushes_32 : decode cX5_flushes 32 = .ok (.invokevirtual 139, 3) := by decide +kernel
theorem dX5_flushes_35 : decode cX5_flushes 35 = .ok (.iastore, 1) := by decide +kernel
theorem dX5_flushes_36 : decode cX5_flushes 36 = .ok (.aload_n 0, 1) := by decide +kernel
theorem dX5_flushes_37 : decode cX5_flushes 37 = .ok (.getfield 7, 3) := by decide +kernel
theorem dX5_flushes_40 : decode cX5_flushes 40 = .ok (.sipush 239, 3) := by decide +kernel
theorem dX5_flushes_43 : decode cX5_flushes 43 = .ok (.iload_n 2, 1) := by decide +kernel
theorem dX5_flushes_44 : decode cX5_flushes 44 = .ok (.iadd, 1) := by decide +kernel
theorem dX5_flushes_45 : decode cX5_flushes 45 = .ok (.bipush (-6), 2) := by decide +kernel
theorem dX5_flushes_47 : decode cX5_flushes 47 = .ok (.iastore, 1) := by decide +kernel
theorem dX5_flushes_48 : decode cX5_flushes 48 = .ok (.iinc 1 1, 3) := by decide +kernel
theorem dX5_flushes_51 : decode cX5_flushes 51 = .ok (.iinc 2 1, 3) := by decide +kernel
theorem dX5_flushes_54 : decode cX5_flushes 54 = .ok (.goto (-50), 3) := by decide +kernel
theorem dX5_flushes_57 : decode cX5_flushes 57 = .ok (.iload_n 1, 1) := by decide +kernel
theorem dX5_flushes_58 : decode cX5_flushes 58 = .ok (.ireturn, 1) := by decide +kernel
theorem dX5_flush_0 : decode cX5_flush 0 = .ok (.aload_n 0, 1) := by decide +kernel
theorem dX5_flush_1 : decode cX5_flush 1 = .ok (.invokevirtual 93, 3) := by decide +kernel
theorem dX5_flush_4 : decode cX5_flush 4 = .ok (.aload_n 0, 1) := by decide +kernel
theorem dX5_flush_5 : decode cX5_flush 5 = .ok (.invokevirtual 142, 3) := by decide +kernel
theorem dX5_flush_8 : decode cX5_flush 8 = .ok (.ireturn, 1) := by decide +kernel
theorem dX5_fail_0 : decode cX5_fail 0 = .ok (.aload_n 0, 1) := by decide +kernel
theorem dX5_fail_1 : decode cX5_fail 1 = .ok (.invokevirtual 93, 3) := by decide +kernel
theorem dX5_fail_4 : decode cX5_fail 4 = .ok (.iconst 0, 1) := by decide +kernel
theorem dX5_fail_5 : decode cX5_fail 5 = .ok (.istore_n 1, 1) := by decide +kernel
theorem dX5_fail_6 : decode cX5_fail 6 = .ok (.iload_n 1, 1) := by decide +kernel
theorem dX5_fail_7 : decode cX5_fail 7 = .ok (.aload_n 0, 1) := by decide +kernel
theorem dX5_fail_8 : decode cX5_fail 8 = .ok (.getfield 7, 3) := by decide +kernel
theorem dX5_fail_11 : decode cX5_fail 11 = .ok (.iconst 0, 1) := by decide +kernel
theorem dX5_fail_12 : decode cX5_fail 12 = .ok (.iaload, 1) := by decide +kernel
theorem dX5_fail_13 : decode cX5_fail 13 = .ok (.if_icmp .ge 20, 3) := by decide +kernel
theorem dX5_fail_16 : decode cX5_fail 16 = .ok (.aload_n 0, 1) := by decide +kernel
theorem dX5_fail_17 : decode cX5_fail 17 = .ok (.getfield 25, 3) := by decide +kernel
theorem dX5_fail_20 : decode cX5_fail 20 = .ok (.iload_n 1, 1) := by decide +kernel
theorem dX5_fail_21 : decode cX5_fail 21 = .ok (.aload_n 0, 1) := by decide +kernel
theorem dX5_fail_22 : decode cX5_fail 22 = .ok (.iload_n 1, 1) := by decide +kernel
theorem dX5_fail_23 : decode cX5_fail 23 = .ok (.invokevirtual 90, 3) := by decide +kernel
theorem dX5_fail_26 : decode cX5_fail 26 = .ok (.iastore, 1) := by decide +kernel
theorem dX5_fail_27 : decode cX5_fail 27 = .ok (.iinc 1 1, 3) := by decide +kernel
theorem dX5_fail_30 : decode cX5_fail 30 = .ok (.goto (-24), 3) := by decide +kernel
theorem dX5_fail_33 : decode cX5_fail 33 = .ok (.aload_n 0, 1) := by decide +kernel
theorem dX5_fail_34 : decode cX5_fail 34 = .ok (.invokevirtual 145, 3) := by decide +kernel
theorem dX5_fail_37 : decode cX5_fail 37 = .ok (.iconst 0, 1) := by decide +kernel
theorem dX5_fail_38 : decode cX5_fail 38 = .ok (.istore_n 1, 1) := by decide +kernel
theorem dX5_fail_39 : decode cX5_fail 39 = .ok (.iconst 0, 1) := by decide +kernel
theorem dX5_fail_40 : decode cX5_fail 40 = .ok (.istore_n 2, 1) := by decide +kernel
theorem dX5_fail_41 : decode cX5_fail 41 = .ok (.iload_n 2, 1) := by decide +kernel
theorem dX5_fail_42 : decode cX5_fail 42 = .ok (.aload_n 0, 1) := by decide +kernel
theorem dX5_fail_43 : decode cX5_fail 43 = .ok (.getfield 7, 3) := by decide +kernel
theorem dX5_fail_46 : decode cX5_fail 46 = .ok (.iconst 0, 1) := by decide +kernel
theorem dX5_fail_47 : decode cX5_fail 47 = .ok (.iaload, 1) := by decide +kernel
theorem dX5_fail_48 : decode cX5_fail 48 = .ok (.if_icmp .ge 31, 3) := by decide +kernel
theorem dX5_fail_51 : decode cX5_fail 51 = .ok (.iload_n 1, 1) := by decide +kernel
theorem dX5_fail_52 : decode cX5_fail 52 = .ok (.aload_n 0, 1) := by decide +kernel
theorem dX5_fail_53 : decode cX5_fail 53 = .ok (.getfield 25, 3) := by decide +kernel
theorem dX5_fail_56 : decode cX5_fail 56 = .ok (.iload_n 2, 1) := by decide +kernel
theorem dX5_fail_57 : decode cX5_fail 57 = .ok (.iaload, 1) := by decide +kernel
theorem dX5_fail_58 : decode cX5_fail 58 = .ok (.aload_n 0, 1) := by decide +kernel
theorem dX5_fail_59 : decode cX5_fail 59 = .ok (.iload_n 2, 1) := by decide +kernel
theorem dX5_fail_60 : decode cX5_fail 60 = .ok (.invokevirtual 90, 3) := by decide +kernel
theorem dX5_fail_63 : decode cX5_fail 63 = .ok (.if_icmp .ne 7, 3) := by decide +kernel
theorem dX5_fail_66 : decode cX5_fail 66 = .ok (.iconst 0, 1) := by decide +kernel
theorem dX5_fail_67 : decode cX5_fail 67 = .ok (.goto 4, 3) := by decide +kernel
theorem dX5_fail_70 : decode cX5_fail 70 = .ok (.iconst 1, 1) := by decide +kernel
theorem dX5_fail_71 : decode cX5_fail 71 = .ok (.iadd, 1) := by decide +kernel
theorem dX5_fail_72 : decode cX5_fail 72 = .ok (.istore_n 1, 1) := by decide +kernel
theorem dX5_fail_73 : decode cX5_fail 73 = .ok (.iinc 2 1, 3) := by decide +kernel
theorem dX5_fail_76 : decode cX5_fail 76 = .ok (.goto (-35), 3) := by decide +kernel
theorem dX5_fail_79 : decode cX5_fail 79 = .ok (.iload_n 1, 1) := by decide +kernel
theorem dX5_fail_80 : decode cX5_fail 80 = .ok (.ireturn, 1) := by decide +kernel
theorem dX5_countOf_0 : decode cX5_countOf 0 = .ok (.iload_n 1, 1) := by decide +kernel
theorem dX5_countOf_1 : decode cX5_countOf 1 = .ok (.tableswitch 93 6 12 #[43, 51, 56, 64, 72, 77, 85], 43) := by decide +kernel
theorem dX5_countOf_44 : decode cX5_countOf 44 = .ok (.aload_n 0, 1) := by decide +kernel
theorem dX5_countOf_45 : decode cX5_countOf 45 = .ok (.getfield 7, 3) := by decide +kernel
theorem dX5_countOf_48 : decode cX5_countOf 48 = .ok (.bipush 6, 2) := by decide +kernel
theorem dX5_countOf_50 : decode cX5_countOf 50 = .ok (.iaload, 1) := by decide +kernel
theorem dX5_countOf_51 : decode cX5_countOf 51 = .ok (.ireturn, 1) := by decide +kernel
theorem dX5_countOf_52 : decode cX5_countOf 52 = .ok (.aload_n 0, 1) := by decide +kernel
theorem dX5_countOf_53 : decode cX5_countOf 53 = .ok (.invokevirtual 127, 3) := by decide +kernel
theorem dX5_countOf_56 : decode cX5_countOf 56 = .ok (.ireturn, 1) := by decide +kernel
theorem dX5_countOf_57 : decode cX5_countOf 57 = .ok (.aload_n 0, 1) := by decide +kernel
theorem dX5_countOf_58 : decode cX5_countOf 58 = .ok (.getfield 7, 3) := by decide +kernel
theorem dX5_countOf_61 : decode cX5_countOf 61 = .ok (.bipush 7, 2) := by decide +kernel
theorem dX5_countOf_63 : decode cX5_countOf 63 = .ok (.iaload, 1) := by decide +kernel
theorem dX5_countOf_64 : decode cX5_countOf 64 = .ok (.ireturn, 1) := by decide +kernel
theorem dX5_countOf_65 : decode cX5_countOf 65 = .ok (.aload_n 0, 1) := by decide +kernel
theorem dX5_countOf_66 : decode cX5_countOf 66 = .ok (.getfield 7, 3) := by decide +kernel
theorem dX5_countOf_69 : decode cX5_countOf 69 = .ok (.bipush 8, 2) := by decide +kernel
theorem dX5_countOf_71 : decode cX5_countOf 71 = .ok (.iaload, 1) := by decide +kernel
theorem dX5_countOf_72 : decode cX5_countOf 72 = .ok (.ireturn, 1) := by decide +kernel
theorem dX5_countOf_73 : decode cX5_countOf 73 = .ok (.aload_n 0, 1) := by decide +kernel
theorem dX5_countOf_74 : decode cX5_countOf 74 = .ok (.invokevirtual 99, 3) := by decide +kernel
theorem dX5_countOf_77 : decode cX5_countOf 77 = .ok (.ireturn, 1) := by decide +kernel
theorem dX5_countOf_78 : decode cX5_countOf 78 = .ok (.aload_n 0, 1) := by decide +kernel
theorem dX5_countOf_79 : decode cX5_countOf 79 = .ok (.getfield 7, 3) := by decide +kernel
theorem dX5_countOf_82 : decode cX5_countOf 82 = .ok (.bipush 9, 2) := by decide +kernel
theorem dX5_countOf_84 : decode cX5_countOf 84 = .ok (.iaload, 1) := by decide +kernel
theorem dX5_countOf_85 : decode cX5_countOf 85 = .ok (.ireturn, 1) := by decide +kernel
theorem dX5_countOf_86 : decode cX5_countOf 86 = .ok (.aload_n 0, 1) := by decide +kernel
theorem dX5_countOf_87 : decode cX5_countOf 87 = .ok (.getfield 7, 3) := by decide +kernel
theorem dX5_countOf_90 : decode cX5_countOf 90 = .ok (.bipush 10, 2) := by decide +kernel
theorem dX5_countOf_92 : decode cX5_countOf 92 = .ok (.iaload, 1) := by decide +kernel
theorem dX5_countOf_93 : decode cX5_countOf 93 = .ok (.ireturn, 1) := by decide +kernel
theorem dX5_countOf_94 : decode cX5_countOf 94 = .ok (.aload_n 0, 1) := by decide +kernel
theorem dX5_countOf_95 : decode cX5_countOf 95 = .ok (.getfield 7, 3) := by decide +kernel
theorem dX5_countOf_98 : decode cX5_countOf 98 = .ok (.iload_n 1, 1) := by decide +kernel
theorem dX5_countOf_99 : decode cX5_countOf 99 = .ok (.iaload, 1) := by decide +kernel
theorem dX5_countOf_100 : decode cX5_countOf 100 = .ok (.ireturn, 1) := by decide +kernel
theorem dX5_count_0 : decode cX5_count 0 = .ok (.iload_n 1, 1) := by decide +kernel
theorem dX5_count_1 : decode cX5_count 1 = .ok (.iconst 0, 1) := by decide +kernel
theorem dX5_count_2 : decode cX5_count 2 = .ok (.bipush 12, 2) := by decide +kernel
theorem dX5_count_4 : decode cX5_count 4 = .ok (.invokestatic 52, 3) := by decide +kernel
theorem dX5_count_7 : decode cX5_count 7 = .ok (.ifCond .eq 11, 3) := by decide +kernel
theorem dX5_count_10 : decode cX5_count 10 = .ok (.aload_n 0, 1) := by decide +kernel
theorem dX5_count_11 : decode cX5_count 11 = .ok (.iload_n 1, 1) := by decide +kernel
theorem dX5_count_12 : decode cX5_count 12 = .ok (.invokevirtual 148, 3) := by decide +kernel
theorem dX5_count_15 : decode cX5_count 15 = .ok (.goto 5, 3) := by decide +kernel
theorem dX5_count_18 : decode cX5_count 18 = .ok (.bipush (-2), 2) := by decide +kernel
theorem dX5_count_20 : decode cX5_count 20 = .ok (.ireturn, 1) := by decide +kernel
theorem dX5_read_0 : decode cX5_read 0 = .ok (.aload_n 0, 1) := by decide +kernel
theorem dX5_read_1 : decode cX5_read 1 = .ok (.iload_n 1, 1) := by decide +kernel
theorem dX5_read_2 : decode cX5_read 2 = .ok (.invokevirtual 124, 3) := by decide +kernel
theorem dX5_read_5 : decode cX5_read 5 = .ok (.ifCond .eq 11, 3) := by decide +kernel
theorem dX5_read_8 : decode cX5_read 8 = .ok (.aload_n 0, 1) := by decide +kernel
theorem dX5_read_9 : decode cX5_read 9 = .ok (.iload_n 1, 1) := by decide +kernel
theorem dX5_read_10 : decode cX5_read 10 = .ok (.invokevirtual 90, 3) := by decide +kernel
theorem dX5_read_13 : decode cX5_read 13 = .ok (.goto 4, 3) := by decide +kernel
theorem dX5_read_16 : decode cX5_read 16 = .ok (.iconst (-1), 1) := by decide +kernel
theorem dX5_read_17 : decode cX5_read 17 = .ok (.ireturn, 1) := by decide +kernel
theorem dX5_stored_0 : decode cX5_stored 0 = .ok (.aload_n 0, 1) := by decide +kernel
theorem dX5_stored_1 : decode cX5_stored 1 = .ok (.iload_n 1, 1) := by decide +kernel
theorem dX5_stored_2 : decode cX5_stored 2 = .ok (.invokevirtual 124, 3) := by decide +kernel
theorem dX5_stored_5 : decode cX5_stored 5 = .ok (.ifCond .eq 15, 3) := by decide +kernel
theorem dX5_stored_8 : decode cX5_stored 8 = .ok (.aload_n 0, 1) := by decide +kernel
theorem dX5_stored_9 : decode cX5_stored 9 = .ok (.getfield 7, 3) := by decide +kernel
theorem dX5_stored_12 : decode cX5_stored 12 = .ok (.bipush 111, 2) := by decide +kernel
theorem dX5_stored_14 : decode cX5_stored 14 = .ok (.iload_n 1, 1) := by decide +kernel
theorem dX5_stored_15 : decode cX5_stored 15 = .ok (.iadd, 1) := by decide +kernel
theorem dX5_stored_16 : decode cX5_stored 16 = .ok (.iaload, 1) := by decide +kernel
theorem dX5_stored_17 : decode cX5_stored 17 = .ok (.goto 4, 3) := by decide +kernel
theorem dX5_stored_20 : decode cX5_stored 20 = .ok (.iconst (-1), 1) := by decide +kernel
theorem dX5_stored_21 : decode cX5_stored 21 = .ok (.ireturn, 1) := by decide +kernel
theorem dX5_keyOf_0 : decode cX5_keyOf 0 = .ok (.aload_n 0, 1) := by decide +kernel
theorem dX5_keyOf_1 : decode cX5_keyOf 1 = .ok (.iload_n 1, 1) := by decide +kernel
theorem dX5_keyOf_2 : decode cX5_keyOf 2 = .ok (.invokevirtual 124, 3) := by decide +kernel
theorem dX5_keyOf_5 : decode cX5_keyOf 5 = .ok (.ifCond .eq 11, 3) := by decide +kernel
theorem dX5_keyOf_8 : decode cX5_keyOf 8 = .ok (.aload_n 0, 1) := by decide +kernel
theorem dX5_keyOf_9 : decode cX5_keyOf 9 = .ok (.iload_n 1, 1) := by decide +kernel
theorem dX5_keyOf_10 : decode cX5_keyOf 10 = .ok (.invokevirtual 74, 3) := by decide +kernel
theorem dX5_keyOf_13 : decode cX5_keyOf 13 = .ok (.goto 4, 3) := by decide +kernel
theorem dX5_keyOf_16 : decode cX5_keyOf 16 = .ok (.iconst (-1), 1) := by decide +kernel
theorem dX5_keyOf_17 : decode cX5_keyOf 17 = .ok (.ireturn, 1) := by decide +kernel
theorem dX5_journal_0 : decode cX5_journal 0 = .ok (.aload_n 0, 1) := by decide +kernel
theorem dX5_journal_1 : decode cX5_journal 1 = .ok (.iload_n 1, 1) := by decide +kernel
theorem dX5_journal_2 : decode cX5_journal 2 = .ok (.invokevirtual 124, 3) := by decide +kernel
theorem dX5_journal_5 : decode cX5_journal 5 = .ok (.ifCond .eq 16, 3) := by decide +kernel
theorem dX5_journal_8 : decode cX5_journal 8 = .ok (.aload_n 0, 1) := by decide +kernel
theorem dX5_journal_9 : decode cX5_journal 9 = .ok (.getfield 7, 3) := by decide +kernel
theorem dX5_journal_12 : decode cX5_journal 12 = .ok (.sipush 175, 3) := by decide +kernel
theorem dX5_journal_15 : decode cX5_journal 15 = .ok (.iload_n 1, 1) := by decide +kernel
theorem dX5_journal_16 : decode cX5_journal 16 = .ok (.iadd, 1) := by decide +kernel
theorem dX5_journal_17 : decode cX5_journal 17 = .ok (.iaload, 1) := by decide +kernel
theorem dX5_journal_18 : decode cX5_journal 18 = .ok (.goto 4, 3) := by decide +kernel
theorem dX5_journal_21 : decode cX5_journal 21 = .ok (.iconst (-1), 1) := by decide +kernel
theorem dX5_journal_22 : decode cX5_journal 22 = .ok (.ireturn, 1) := by decide +kernel
theorem dX5_cached_0 : decode cX5_cached 0 = .ok (.aload_n 0, 1) := by decide +kernel
theorem dX5_cached_1 : decode cX5_cached 1 = .ok (.iload_n 1, 1) := by decide +kernel
theorem dX5_cached_2 : decode cX5_cached 2 = .ok (.invokevirtual 124, 3) := by decide +kernel
theorem dX5_cached_5 : decode cX5_cached 5 = .ok (.ifCond .eq 16, 3) := by decide +kernel
theorem dX5_cached_8 : decode cX5_cached 8 = .ok (.aload_n 0, 1) := by decide +kernel
theorem dX5_cached_9 : decode cX5_cached 9 = .ok (.getfield 7, 3) := by decide +kernel
theorem dX5_cached_12 : decode cX5_cached 12 = .ok (.sipush 239, 3) := by decide +kernel
theorem dX5_cached_15 : decode cX5_cached 15 = .ok (.iload_n 1, 1) := by decide +kernel
theorem dX5_cached_16 : decode cX5_cached 16 = .ok (.iadd, 1) := by decide +kernel
theorem dX5_cached_17 : decode cX5_cached 17 = .ok (.iaload, 1) := by decide +kernel
theorem dX5_cached_18 : decode cX5_cached 18 = .ok (.goto 4, 3) := by decide +kernel
theorem dX5_cached_21 : decode cX5_cached 21 = .ok (.iconst (-1), 1) := by decide +kernel
theorem dX5_cached_22 : decode cX5_cached 22 = .ok (.ireturn, 1) := by decide +kernel
theorem dX5_zoneStart_0 : decode cX5_zoneStart 0 = .ok (.aload_n 0, 1) := by decide +kernel
theorem dX5_zoneStart_1 : decode cX5_zoneStart 1 = .ok (.invokevirtual 56, 3) := by decide +kernel
theorem dX5_zoneStart_4 : decode cX5_zoneStart 4 = .ok (.ifCond .eq 10, 3) := by decide +kernel
theorem dX5_zoneStart_7 : decode cX5_zoneStart 7 = .ok (.aload_n 0, 1) := by decide +kernel
theorem dX5_zoneStart_8 : decode cX5_zoneStart 8 = .ok (.invokevirtual 60, 3) := by decide +kernel
theorem dX5_zoneStart_11 : decode cX5_zoneStart 11 = .ok (.goto 5, 3) := by decide +kernel
theorem dX5_zoneStart_14 : decode cX5_zoneStart 14 = .ok (.bipush (-3), 2) := by decide +kernel
theorem dX5_zoneStart_16 : decode cX5_zoneStart 16 = .ok (.ireturn, 1) := by decide +kernel
theorem dX5_damaged_0 : decode cX5_damaged 0 = .ok (.aload_n 0, 1) := by decide +kernel
theorem dX5_damaged_1 : decode cX5_damaged 1 = .ok (.invokevirtual 151, 3) := by decide +kernel
theorem dX5_damaged_4 : decode cX5_damaged 4 = .ok (.ireturn, 1) := by decide +kernel
theorem dX5_firstOne_0 : decode cX5_firstOne 0 = .ok (.iconst 0, 1) := by decide +kernel
theorem dX5_firstOne_1 : decode cX5_firstOne 1 = .ok (.istore_n 1, 1) := by decide +kernel
theorem dX5_firstOne_2 : decode cX5_firstOne 2 = .ok (.iload_n 1, 1) := by decide +kernel
theorem dX5_firstOne_3 : decode cX5_firstOne 3 = .ok (.aload_n 0, 1) := by decide +kernel
theorem dX5_firstOne_4 : decode cX5_firstOne 4 = .ok (.getfield 7, 3) := by decide +kernel
theorem dX5_firstOne_7 : decode cX5_firstOne 7 = .ok (.iconst 0, 1) := by decide +kernel
theorem dX5_firstOne_8 : decode cX5_firstOne 8 = .ok (.iaload, 1) := by decide +kernel
theorem dX5_firstOne_9 : decode cX5_firstOne 9 = .ok (.if_icmp .ge 29, 3) := by decide +kernel
theorem dX5_firstOne_12 : decode cX5_firstOne 12 = .ok (.aload_n 0, 1) := by decide +kernel
theorem dX5_firstOne_13 : decode cX5_firstOne 13 = .ok (.iload_n 1, 1) := by decide +kernel
theorem dX5_firstOne_14 : decode cX5_firstOne 14 = .ok (.invokevirtual 90, 3) := by decide +kernel
theorem dX5_firstOne_17 : decode cX5_firstOne 17 = .ok (.aload_n 0, 1) := by decide +kernel
theorem dX5_firstOne_18 : decode cX5_firstOne 18 = .ok (.getfield 7, 3) := by decide +kernel
theorem dX5_firstOne_21 : decode cX5_firstOne 21 = .ok (.sipush 303, 3) := by decide +kernel
theorem dX5_firstOne_24 : decode cX5_firstOne 24 = .ok (.iload_n 1, 1) := by decide +kernel
theorem dX5_firstOne_25 : decode cX5_firstOne 25 = .ok (.iadd, 1) := by decide +kernel
theorem dX5_firstOne_26 : decode cX5_firstOne 26 = .ok (.iaload, 1) := by decide +kernel
theorem dX5_firstOne_27 : decode cX5_firstOne 27 = .ok (.if_icmp .eq 5, 3) := by decide +kernel
theorem dX5_firstOne_30 : decode cX5_firstOne 30 = .ok (.iload_n 1, 1) := by decide +kernel
theorem dX5_firstOne_31 : decode cX5_firstOne 31 = .ok (.ireturn, 1) := by decide +kernel
theorem dX5_firstOne_32 : decode cX5_firstOne 32 = .ok (.iinc 1 1, 3) := by decide +kernel
theorem dX5_firstOne_35 : decode cX5_firstOne 35 = .ok (.goto (-33), 3) := by decide +kernel
theorem dX5_firstOne_38 : decode cX5_firstOne 38 = .ok (.bipush (-6), 2) := by decide +kernel
theorem dX5_firstOne_40 : decode cX5_firstOne 40 = .ok (.ireturn, 1) := by decide +kernel
theorem dX5_firstDamaged_0 : decode cX5_firstDamaged 0 = .ok (.aload_n 0, 1) := by decide +kernel
theorem dX5_firstDamaged_1 : decode cX5_firstDamaged 1 = .ok (.invokevirtual 154, 3) := by decide +kernel
theorem dX5_firstDamaged_4 : decode cX5_firstDamaged 4 = .ok (.ireturn, 1) := by decide +kernel
theorem dX5_stepsLeft_0 : decode cX5_stepsLeft 0 = .ok (.aload_n 0, 1) := by decide +kernel
theorem dX5_stepsLeft_1 : decode cX5_stepsLeft 1 = .ok (.invokevirtual 56, 3) := by decide +kernel
theorem dX5_stepsLeft_4 : decode cX5_stepsLeft 4 = .ok (.ifCond .eq 10, 3) := by decide +kernel
theorem dX5_stepsLeft_7 : decode cX5_stepsLeft 7 = .ok (.aload_n 0, 1) := by decide +kernel
theorem dX5_stepsLeft_8 : decode cX5_stepsLeft 8 = .ok (.invokevirtual 109, 3) := by decide +kernel
theorem dX5_stepsLeft_11 : decode cX5_stepsLeft 11 = .ok (.goto 5, 3) := by decide +kernel
theorem dX5_stepsLeft_14 : decode cX5_stepsLeft 14 = .ok (.bipush (-3), 2) := by decide +kernel
theorem dX5_stepsLeft_16 : decode cX5_stepsLeft 16 = .ok (.ireturn, 1) := by decide +kernel
theorem dX5_damagedThen_0 : decode cX5_damagedThen 0 = .ok (.aload_n 0, 1) := by decide +kernel
theorem dX5_damagedThen_1 : decode cX5_damagedThen 1 = .ok (.getfield 7, 3) := by decide +kernel
theorem dX5_damagedThen_4 : decode cX5_damagedThen 4 = .ok (.iconst 0, 1) := by decide +kernel
theorem dX5_damagedThen_5 : decode cX5_damagedThen 5 = .ok (.aload_n 0, 1) := by decide +kernel
theorem dX5_damagedThen_6 : decode cX5_damagedThen 6 = .ok (.getfield 16, 3) := by decide +kernel
theorem dX5_damagedThen_9 : decode cX5_damagedThen 9 = .ok (.iconst 0, 1) := by decide +kernel
theorem dX5_damagedThen_10 : decode cX5_damagedThen 10 = .ok (.invokestatic 36, 3) := by decide +kernel
theorem dX5_damagedThen_13 : decode cX5_damagedThen 13 = .ok (.aload_n 0, 1) := by decide +kernel
theorem dX5_damagedThen_14 : decode cX5_damagedThen 14 = .ok (.invokevirtual 145, 3) := by decide +kernel
theorem dX5_damagedThen_17 : decode cX5_damagedThen 17 = .ok (.aload_n 0, 1) := by decide +kernel
theorem dX5_damagedThen_18 : decode cX5_damagedThen 18 = .ok (.invokevirtual 151, 3) := by decide +kernel
theorem dX5_damagedThen_21 : decode cX5_damagedThen 21 = .ok (.istore_n 1, 1) := by decide +kernel
theorem dX5_damagedThen_22 : decode cX5_damagedThen 22 = .ok (.aload_n 0, 1) := by decide +kernel
theorem dX5_damagedThen_23 : decode cX5_damagedThen 23 = .ok (.getfield 16, 3) := by decide +kernel
theorem dX5_damagedThen_26 : decode cX5_damagedThen 26 = .ok (.iconst 0, 1) := by decide +kernel
theorem dX5_damagedThen_27 : decode cX5_damagedThen 27 = .ok (.aload_n 0, 1) := by decide +kernel
theorem dX5_damagedThen_28 : decode cX5_damagedThen 28 = .ok (.getfield 7, 3) := by decide +kernel
theorem dX5_damagedThen_31 : decode cX5_damagedThen 31 = .ok (.iconst 0, 1) := by decide +kernel
theorem dX5_damagedThen_32 : decode cX5_damagedThen 32 = .ok (.invokestatic 36, 3) := by decide +kernel
theorem dX5_damagedThen_35 : decode cX5_damagedThen 35 = .ok (.iload_n 1, 1) := by decide +kernel
theorem dX5_damagedThen_36 : decode cX5_damagedThen 36 = .ok (.ireturn, 1) := by decide +kernel
theorem dX5_ifFailed_0 : decode cX5_ifFailed 0 = .ok (.iload_n 1, 1) := by decide +kernel
theorem dX5_ifFailed_1 : decode cX5_ifFailed 1 = .ok (.iconst 0, 1) := by decide +kernel
theorem dX5_ifFailed_2 : decode cX5_ifFailed 2 = .ok (.sipush 999, 3) := by decide +kernel
theorem dX5_ifFailed_5 : decode cX5_ifFailed 5 = .ok (.invokestatic 52, 3) := by decide +kernel
theorem dX5_ifFailed_8 : decode cX5_ifFailed 8 = .ok (.ifCond .ne 6, 3) := by decide +kernel
theorem dX5_ifFailed_11 : decode cX5_ifFailed 11 = .ok (.bipush (-2), 2) := by decide +kernel
theorem dX5_ifFailed_13 : decode cX5_ifFailed 13 = .ok (.ireturn, 1) := by decide +kernel
theorem dX5_ifFailed_14 : decode cX5_ifFailed 14 = .ok (.aload_n 0, 1) := by decide +kernel
theorem dX5_ifFailed_15 : decode cX5_ifFailed 15 = .ok (.getfield 7, 3) := by decide +kernel
theorem dX5_ifFailed_18 : decode cX5_ifFailed 18 = .ok (.iconst 0, 1) := by decide +kernel
theorem dX5_ifFailed_19 : decode cX5_ifFailed 19 = .ok (.aload_n 0, 1) := by decide +kernel
theorem dX5_ifFailed_20 : decode cX5_ifFailed 20 = .ok (.getfield 13, 3) := by decide +kernel
theorem dX5_ifFailed_23 : decode cX5_ifFailed 23 = .ok (.iconst 0, 1) := by decide +kernel
theorem dX5_ifFailed_24 : decode cX5_ifFailed 24 = .ok (.invokestatic 36, 3) := by decide +kernel
theorem dX5_ifFailed_27 : decode cX5_ifFailed 27 = .ok (.aload_n 0, 1) := by decide +kernel
theorem dX5_ifFailed_28 : decode cX5_ifFailed 28 = .ok (.iload_n 1, 1) := by decide +kernel
theorem dX5_ifFailed_29 : decode cX5_ifFailed 29 = .ok (.invokevirtual 115, 3) := by decide +kernel
theorem dX5_ifFailed_32 : decode cX5_ifFailed 32 = .ok (.pop, 1) := by decide +kernel
theorem dX5_ifFailed_33 : decode cX5_ifFailed 33 = .ok (.aload_n 0, 1) := by decide +kernel
theorem dX5_ifFailed_34 : decode cX5_ifFailed 34 = .ok (.invokevirtual 157, 3) := by decide +kernel
theorem dX5_ifFailed_37 : decode cX5_ifFailed 37 = .ok (.istore_n 2, 1) := by decide +kernel
theorem dX5_ifFailed_38 : decode cX5_ifFailed 38 = .ok (.aload_n 0, 1) := by decide +kernel
theorem dX5_ifFailed_39 : decode cX5_ifFailed 39 = .ok (.getfield 13, 3) := by decide +kernel
theorem dX5_ifFailed_42 : decode cX5_ifFailed 42 = .ok (.iconst 0, 1) := by decide +kernel
theorem dX5_ifFailed_43 : decode cX5_ifFailed 43 = .ok (.aload_n 0, 1) := by decide +kernel
theorem dX5_ifFailed_44 : decode cX5_ifFailed 44 = .ok (.getfield 7, 3) := by decide +kernel
theorem dX5_ifFailed_47 : decode cX5_ifFailed 47 = .ok (.iconst 0, 1) := by decide +kernel
theorem dX5_ifFailed_48 : decode cX5_ifFailed 48 = .ok (.invokestatic 36, 3) := by decide +kernel
theorem dX5_ifFailed_51 : decode cX5_ifFailed 51 = .ok (.iload_n 2, 1) := by decide +kernel
theorem dX5_ifFailed_52 : decode cX5_ifFailed 52 = .ok (.ireturn, 1) := by decide +kernel
theorem dX5_worstTime_0 : decode cX5_worstTime 0 = .ok (.aload_n 0, 1) := by decide +kernel
theorem dX5_worstTime_1 : decode cX5_worstTime 1 = .ok (.getfield 7, 3) := by decide +kernel
theorem dX5_worstTime_4 : decode cX5_worstTime 4 = .ok (.iconst 0, 1) := by decide +kernel
theorem dX5_worstTime_5 : decode cX5_worstTime 5 = .ok (.aload_n 0, 1) := by decide +kernel
theorem dX5_worstTime_6 : decode cX5_worstTime 6 = .ok (.getfield 13, 3) := by decide +kernel
theorem dX5_worstTime_9 : decode cX5_worstTime 9 = .ok (.iconst 0, 1) := by decide +kernel
theorem dX5_worstTime_10 : decode cX5_worstTime 10 = .ok (.invokestatic 36, 3) := by decide +kernel
theorem dX5_worstTime_13 : decode cX5_worstTime 13 = .ok (.iconst 0, 1) := by decide +kernel
theorem dX5_worstTime_14 : decode cX5_worstTime 14 = .ok (.istore_n 1, 1) := by decide +kernel
theorem dX5_worstTime_15 : decode cX5_worstTime 15 = .ok (.bipush (-6), 2) := by decide +kernel
theorem dX5_worstTime_17 : decode cX5_worstTime 17 = .ok (.istore_n 2, 1) := by decide +kernel
theorem dX5_worstTime_18 : decode cX5_worstTime 18 = .ok (.iconst 0, 1) := by decide +kernel
theorem dX5_worstTime_19 : decode cX5_worstTime 19 = .ok (.istore_n 3, 1) := by decide +kernel
theorem dX5_worstTime_20 : decode cX5_worstTime 20 = .ok (.iload_n 3, 1) := by decide +kernel
theorem dX5_worstTime_21 : decode cX5_worstTime 21 = .ok (.bipush 100, 2) := by decide +kernel
theorem dX5_worstTime_23 : decode cX5_worstTime 23 = .ok (.if_icmp .ge 46, 3) := by decide +kernel
theorem dX5_worstTime_26 : decode cX5_worstTime 26 = .ok (.aload_n 0, 1) := by decide +kernel
theorem dX5_worstTime_27 : decode cX5_worstTime 27 = .ok (.invokevirtual 157, 3) := by decide +kernel
theorem dX5_worstTime_30 : decode cX5_worstTime 30 = .ok (.istore 4, 2) := by decide +kernel
theorem dX5_worstTime_32 : decode cX5_worstTime 32 = .ok (.iload 4, 2) := by decide +kernel
theorem dX5_worstTime_34 : decode cX5_worstTime 34 = .ok (.iload_n 2, 1) := by decide +kernel
theorem dX5_worstTime_35 : decode cX5_worstTime 35 = .ok (.if_icmp .le 7, 3) := by decide +kernel
theorem dX5_worstTime_38 : decode cX5_worstTime 38 = .ok (.iload_n 3, 1) := by decide +kernel
theorem dX5_worstTime_39 : decode cX5_worstTime 39 = .ok (.goto 4, 3) := by decide +kernel
theorem dX5_worstTime_42 : decode cX5_worstTime 42 = .ok (.iload_n 1, 1) := by decide +kernel
theorem dX5_worstTime_43 : decode cX5_worstTime 43 = .ok (.istore_n 1, 1) := by decide +kernel
theorem dX5_worstTime_44 : decode cX5_worstTime 44 = .ok (.iload 4, 2) := by decide +kernel
theorem dX5_worstTime_46 : decode cX5_worstTime 46 = .ok (.iload_n 2, 1) := by decide +kernel
theorem dX5_worstTime_47 : decode cX5_worstTime 47 = .ok (.if_icmp .le 8, 3) := by decide +kernel
theorem dX5_worstTime_50 : decode cX5_worstTime 50 = .ok (.iload 4, 2) := by decide +kernel
theorem dX5_worstTime_52 : decode cX5_worstTime 52 = .ok (.goto 4, 3) := by decide +kernel
theorem dX5_worstTime_55 : decode cX5_worstTime 55 = .ok (.iload_n 2, 1) := by decide +kernel
theorem dX5_worstTime_56 : decode cX5_worstTime 56 = .ok (.istore_n 2, 1) := by decide +kernel
theorem dX5_worstTime_57 : decode cX5_worstTime 57 = .ok (.aload_n 0, 1) := by decide +kernel
theorem dX5_worstTime_58 : decode cX5_worstTime 58 = .ok (.iconst 1, 1) := by decide +kernel
theorem dX5_worstTime_59 : decode cX5_worstTime 59 = .ok (.invokevirtual 115, 3) := by decide +kernel
theorem dX5_worstTime_62 : decode cX5_worstTime 62 = .ok (.pop, 1) := by decide +kernel
theorem dX5_worstTime_63 : decode cX5_worstTime 63 = .ok (.iinc 3 1, 3) := by decide +kernel
theorem dX5_worstTime_66 : decode cX5_worstTime 66 = .ok (.goto (-46), 3) := by decide +kernel
theorem dX5_worstTime_69 : decode cX5_worstTime 69 = .ok (.aload_n 0, 1) := by decide +kernel
theorem dX5_worstTime_70 : decode cX5_worstTime 70 = .ok (.getfield 13, 3) := by decide +kernel
theorem dX5_worstTime_73 : decode cX5_worstTime 73 = .ok (.iconst 0, 1) := by decide +kernel
theorem dX5_worstTime_74 : decode cX5_worstTime 74 = .ok (.aload_n 0, 1) := by decide +kernel
theorem dX5_worstTime_75 : decode cX5_worstTime 75 = .ok (.getfield 7, 3) := by decide +kernel
theorem dX5_worstTime_78 : decode cX5_worstTime 78 = .ok (.iconst 0, 1) := by decide +kernel
theorem dX5_worstTime_79 : decode cX5_worstTime 79 = .ok (.invokestatic 36, 3) := by decide +kernel
theorem dX5_worstTime_82 : decode cX5_worstTime 82 = .ok (.iload_n 1, 1) := by decide +kernel
theorem dX5_worstTime_83 : decode cX5_worstTime 83 = .ok (.ireturn, 1) := by decide +kernel
theorem dX5_ifFlushed_0 : decode cX5_ifFlushed 0 = .ok (.aload_n 0, 1) := by decide +kernel
theorem dX5_ifFlushed_1 : decode cX5_ifFlushed 1 = .ok (.iload_n 1, 1) := by decide +kernel
theorem dX5_ifFlushed_2 : decode cX5_ifFlushed 2 = .ok (.invokevirtual 124, 3) := by decide +kernel
theorem dX5_ifFlushed_5 : decode cX5_ifFlushed 5 = .ok (.ifCond .eq 11, 3) := by decide +kernel
theorem dX5_ifFlushed_8 : decode cX5_ifFlushed 8 = .ok (.aload_n 0, 1) := by decide +kernel
theorem dX5_ifFlushed_9 : decode cX5_ifFlushed 9 = .ok (.iload_n 1, 1) := by decide +kernel
theorem dX5_ifFlushed_10 : decode cX5_ifFlushed 10 = .ok (.invokevirtual 139, 3) := by decide +kernel
theorem dX5_ifFlushed_13 : decode cX5_ifFlushed 13 = .ok (.goto 4, 3) := by decide +kernel
theorem dX5_ifFlushed_16 : decode cX5_ifFlushed 16 = .ok (.iconst (-1), 1) := by decide +kernel
theorem dX5_ifFlushed_17 : decode cX5_ifFlushed 17 = .ok (.ireturn, 1) := by decide +kernel
theorem dX5_type_0 : decode cX5_type 0 = .ok (.iload_n 1, 1) := by decide +kernel
theorem dX5_type_1 : decode cX5_type 1 = .ok (.bipush 33, 2) := by decide +kernel
theorem dX5_type_3 : decode cX5_type 3 = .ok (.bipush 126, 2) := by decide +kernel
theorem dX5_type_5 : decode cX5_type 5 = .ok (.invokestatic 52, 3) := by decide +kernel
theorem dX5_type_8 : decode cX5_type 8 = .ok (.ifCond .ne 6, 3) := by decide +kernel
theorem dX5_type_11 : decode cX5_type 11 = .ok (.bipush (-2), 2) := by decide +kernel
theorem dX5_type_13 : decode cX5_type 13 = .ok (.ireturn, 1) := by decide +kernel
theorem dX5_type_14 : decode cX5_type 14 = .ok (.aload_n 0, 1) := by decide +kernel
theorem dX5_type_15 : decode cX5_type 15 = .ok (.getfield 160, 3) := by decide +kernel
theorem dX5_type_18 : decode cX5_type 18 = .ok (.bipush 80, 2) := by decide +kernel
theorem dX5_type_20 : decode cX5_type 20 = .ok (.if_icmp .ne 6, 3) := by decide +kernel
theorem dX5_type_23 : decode cX5_type 23 = .ok (.bipush (-4), 2) := by decide +kernel
theorem dX5_type_25 : decode cX5_type 25 = .ok (.ireturn, 1) := by decide +kernel
theorem dX5_type_26 : decode cX5_type 26 = .ok (.aload_n 0, 1) := by decide +kernel
theorem dX5_type_27 : decode cX5_type 27 = .ok (.getfield 22, 3) := by decide +kernel
theorem dX5_type_30 : decode cX5_type 30 = .ok (.aload_n 0, 1) := by decide +kernel
theorem dX5_type_31 : decode cX5_type 31 = .ok (.getfield 160, 3) := by decide +kernel
theorem dX5_type_34 : decode cX5_type 34 = .ok (.iload_n 1, 1) := by decide +kernel
theorem dX5_type_35 : decode cX5_type 35 = .ok (.iastore, 1) := by decide +kernel
theorem dX5_type_36 : decode cX5_type 36 = .ok (.aload_n 0, 1) := by decide +kernel
theorem dX5_type_37 : decode cX5_type 37 = .ok (.dup, 1) := by decide +kernel
theorem dX5_type_38 : decode cX5_type 38 = .ok (.getfield 160, 3) := by decide +kernel
theorem dX5_type_41 : decode cX5_type 41 = .ok (.iconst 1, 1) := by decide +kernel
theorem dX5_type_42 : decode cX5_type 42 = .ok (.iadd, 1) := by decide +kernel
theorem dX5_type_43 : decode cX5_type 43 = .ok (.putfield 160, 3) := by decide +kernel
theorem dX5_type_46 : decode cX5_type 46 = .ok (.aload_n 0, 1) := by decide +kernel
theorem dX5_type_47 : decode cX5_type 47 = .ok (.getfield 160, 3) := by decide +kernel
theorem dX5_type_50 : decode cX5_type 50 = .ok (.ireturn, 1) := by decide +kernel
theorem dX5_clearText_0 : decode cX5_clearText 0 = .ok (.aload_n 0, 1) := by decide +kernel
theorem dX5_clearText_1 : decode cX5_clearText 1 = .ok (.getfield 160, 3) := by decide +kernel
theorem dX5_clearText_4 : decode cX5_clearText 4 = .ok (.istore_n 1, 1) := by decide +kernel
theorem dX5_clearText_5 : decode cX5_clearText 5 = .ok (.aload_n 0, 1) := by decide +kernel
theorem dX5_clearText_6 : decode cX5_clearText 6 = .ok (.iconst 0, 1) := by decide +kernel
theorem dX5_clearText_7 : decode cX5_clearText 7 = .ok (.putfield 160, 3) := by decide +kernel
theorem dX5_clearText_10 : decode cX5_clearText 10 = .ok (.iload_n 1, 1) := by decide +kernel
theorem dX5_clearText_11 : decode cX5_clearText 11 = .ok (.ireturn, 1) := by decide +kernel
theorem dX5_character_0 : decode cX5_character 0 = .ok (.iload_n 1, 1) := by decide +kernel
theorem dX5_character_1 : decode cX5_character 1 = .ok (.aload_n 0, 1) := by decide +kernel
theorem dX5_character_2 : decode cX5_character 2 = .ok (.getfield 160, 3) := by decide +kernel
theorem dX5_character_5 : decode cX5_character 5 = .ok (.if_icmp .ge 12, 3) := by decide +kernel
theorem dX5_character_8 : decode cX5_character 8 = .ok (.aload_n 0, 1) := by decide +kernel
theorem dX5_character_9 : decode cX5_character 9 = .ok (.getfield 22, 3) := by decide +kernel
theorem dX5_character_12 : decode cX5_character 12 = .ok (.iload_n 1, 1) := by decide +kernel
theorem dX5_character_13 : decode cX5_character 13 = .ok (.iaload, 1) := by decide +kernel
theorem dX5_character_14 : decode cX5_character 14 = .ok (.goto 4, 3) := by decide +kernel
theorem dX5_character_17 : decode cX5_character 17 = .ok (.iconst (-1), 1) := by decide +kernel
theorem dX5_character_18 : decode cX5_character 18 = .ok (.ireturn, 1) := by decide +kernel
theorem dX5_isNext_0 : decode cX5_isNext 0 = .ok (.aload_n 0, 1) := by decide +kernel
theorem dX5_isNext_1 : decode cX5_isNext 1 = .ok (.aload_n 0, 1) := by decide +kernel
theorem dX5_isNext_2 : decode cX5_isNext 2 = .ok (.getfield 163, 3) := by decide +kernel
theorem dX5_isNext_5 : decode cX5_isNext 5 = .ok (.invokevirtual 166, 3) := by decide +kernel
theorem dX5_isNext_8 : decode cX5_isNext 8 = .ok (.iload_n 1, 1) := by decide +kernel
theorem dX5_isNext_9 : decode cX5_isNext 9 = .ok (.if_icmp .ne 7, 3) := by decide +kernel
theorem dX5_isNext_12 : decode cX5_isNext 12 = .ok (.iconst 1, 1) := by decide +kernel
theorem dX5_isNext_13 : decode cX5_isNext 13 = .ok (.goto 4, 3) := by decide +kernel
theorem dX5_isNext_16 : decode cX5_isNext 16 = .ok (.iconst 0, 1) := by decide +kernel
theorem dX5_isNext_17 : decode cX5_isNext 17 = .ok (.istore_n 2, 1) := by decide +kernel
theorem dX5_isNext_18 : decode cX5_isNext 18 = .ok (.aload_n 0, 1) := by decide +kernel
theorem dX5_isNext_19 : decode cX5_isNext 19 = .ok (.dup, 1) := by decide +kernel
theorem dX5_isNext_20 : decode cX5_isNext 20 = .ok (.getfield 163, 3) := by decide +kernel
theorem dX5_isNext_23 : decode cX5_isNext 23 = .ok (.iload_n 2, 1) := by decide +kernel
theorem dX5_isNext_24 : decode cX5_isNext 24 = .ok (.ifCond .eq 7, 3) := by decide +kernel
theorem dX5_isNext_27 : decode cX5_isNext 27 = .ok (.iconst 1, 1) := by decide +kernel
theorem dX5_isNext_28 : decode cX5_isNext 28 = .ok (.goto 4, 3) := by decide +kernel
theorem dX5_isNext_31 : decode cX5_isNext 31 = .ok (.iconst 0, 1) := by decide +kernel
theorem dX5_isNext_32 : decode cX5_isNext 32 = .ok (.iadd, 1) := by decide +kernel
theorem dX5_isNext_33 : decode cX5_isNext 33 = .ok (.putfield 163, 3) := by decide +kernel
theorem dX5_isNext_36 : decode cX5_isNext 36 = .ok (.iload_n 2, 1) := by decide +kernel
theorem dX5_isNext_37 : decode cX5_isNext 37 = .ok (.ireturn, 1) := by decide +kernel
theorem dX5_readsNumber_0 : decode cX5_readsNumber 0 = .ok (.aload_n 0, 1) := by decide +kernel
theorem dX5_readsNumber_1 : decode cX5_readsNumber 1 = .ok (.iconst 0, 1) := by decide +kernel
theorem dX5_readsNumber_2 : decode cX5_readsNumber 2 = .ok (.putfield 169, 3) := by decide +kernel
theorem dX5_readsNumber_5 : decode cX5_readsNumber 5 = .ok (.iconst 0, 1) := by decide +kernel
theorem dX5_readsNumber_6 : decode cX5_readsNumber 6 = .ok (.istore_n 1, 1) := by decide +kernel
theorem dX5_readsNumber_7 : decode cX5_readsNumber 7 = .ok (.iload_n 1, 1) := by decide +kernel
theorem dX5_readsNumber_8 : decode cX5_readsNumber 8 = .ok (.iconst 5, 1) := by decide +kernel
theorem dX5_readsNumber_9 : decode cX5_readsNumber 9 = .ok (.if_icmp .ge 60, 3) := by decide +kernel
theorem dX5_readsNumber_12 : decode cX5_readsNumber 12 = .ok (.aload_n 0, 1) := by decide +kernel
theorem dX5_readsNumber_13 : decode cX5_readsNumber 13 = .ok (.aload_n 0, 1) := by decide +kernel
theorem dX5_readsNumber_14 : decode cX5_readsNumber 14 = .ok (.getfield 163, 3) := by decide +kernel
theorem dX5_readsNumber_17 : decode cX5_readsNumber 17 = .ok (.invokevirtual 166, 3) := by decide +kernel
theorem dX5_readsNumber_20 : decode cX5_readsNumber 20 = .ok (.bipush 48, 2) := by decide +kernel
theorem dX5_readsNumber_22 : decode cX5_readsNumber 22 = .ok (.bipush 57, 2) := by decide +kernel
theorem dX5_readsNumber_24 : decode cX5_readsNumber 24 = .ok (.invokestatic 52, 3) := by decide +kernel
theorem dX5_readsNumber_27 : decode cX5_readsNumber 27 = .ok (.ifCond .eq 42, 3) := by decide +kernel
theorem dX5_readsNumber_30 : decode cX5_readsNumber 30 = .ok (.aload_n 0, 1) := by decide +kernel
theorem dX5_readsNumber_31 : decode cX5_readsNumber 31 = .ok (.bipush 10, 2) := by decide +kernel
theorem dX5_readsNumber_33 : decode cX5_readsNumber 33 = .ok (.aload_n 0, 1) := by decide +kernel
theorem dX5_readsNumber_34 : decode cX5_readsNumber 34 = .ok (.getfield 169, 3) := by decide +kernel
theorem dX5_readsNumber_37 : decode cX5_readsNumber 37 = .ok (.imul, 1) := by decide +kernel
theorem dX5_readsNumber_38 : decode cX5_readsNumber 38 = .ok (.aload_n 0, 1) := by decide +kernel
theorem dX5_readsNumber_39 : decode cX5_readsNumber 39 = .ok (.aload_n 0, 1) := by decide +kernel
theorem dX5_readsNumber_40 : decode cX5_readsNumber 40 = .ok (.getfield 163, 3) := by decide +kernel
theorem dX5_readsNumber_43 : decode cX5_readsNumber 43 = .ok (.invokevirtual 166, 3) := by decide +kernel
theorem dX5_readsNumber_46 : decode cX5_readsNumber 46 = .ok (.iadd, 1) := by decide +kernel
theorem dX5_readsNumber_47 : decode cX5_readsNumber 47 = .ok (.bipush 48, 2) := by decide +kernel
theorem dX5_readsNumber_49 : decode cX5_readsNumber 49 = .ok (.isub, 1) := by decide +kernel
theorem dX5_readsNumber_50 : decode cX5_readsNumber 50 = .ok (.putfield 169, 3) := by decide +kernel
theorem dX5_readsNumber_53 : decode cX5_readsNumber 53 = .ok (.iinc 1 1, 3) := by decide +kernel
theorem dX5_readsNumber_56 : decode cX5_readsNumber 56 = .ok (.aload_n 0, 1) := by decide +kernel
theorem dX5_readsNumber_57 : decode cX5_readsNumber 57 = .ok (.dup, 1) := by decide +kernel
theorem dX5_readsNumber_58 : decode cX5_readsNumber 58 = .ok (.getfield 163, 3) := by decide +kernel
theorem dX5_readsNumber_61 : decode cX5_readsNumber 61 = .ok (.iconst 1, 1) := by decide +kernel
theorem dX5_readsNumber_62 : decode cX5_readsNumber 62 = .ok (.iadd, 1) := by decide +kernel
theorem dX5_readsNumber_63 : decode cX5_readsNumber 63 = .ok (.putfield 163, 3) := by decide +kernel
theorem dX5_readsNumber_66 : decode cX5_readsNumber 66 = .ok (.goto (-59), 3) := by decide +kernel
theorem dX5_readsNumber_69 : decode cX5_readsNumber 69 = .ok (.iload_n 1, 1) := by decide +kernel
theorem dX5_readsNumber_70 : decode cX5_readsNumber 70 = .ok (.ifCond .le 7, 3) := by decide +kernel
theorem dX5_readsNumber_73 : decode cX5_readsNumber 73 = .ok (.iconst 1, 1) := by decide +kernel
theorem dX5_readsNumber_74 : decode cX5_readsNumber 74 = .ok (.goto 4, 3) := by decide +kernel
theorem dX5_readsNumber_77 : decode cX5_readsNumber 77 = .ok (.iconst 0, 1) := by decide +kernel
theorem dX5_readsNumber_78 : decode cX5_readsNumber 78 = .ok (.ireturn, 1) := by decide +kernel
theorem dX5_readsCommand_0 : decode cX5_readsCommand 0 = .ok (.aload_n 0, 1) := by decide +kernel
theorem dX5_readsCommand_1 : decode cX5_readsCommand 1 = .ok (.aload_n 0, 1) := by decide +kernel
theorem dX5_readsCommand_2 : decode cX5_readsCommand 2 = .ok (.aload_n 0, 1) := by decide +kernel
theorem dX5_readsCommand_3 : decode cX5_readsCommand 3 = .ok (.getfield 163, 3) := by decide +kernel
theorem dX5_readsCommand_6 : decode cX5_readsCommand 6 = .ok (.invokevirtual 166, 3) := by decide +kernel
theorem dX5_readsCommand_9 : decode cX5_readsCommand 9 = .ok (.putfield 172, 3) := by decide +kernel
theorem dX5_readsCommand_12 : decode cX5_readsCommand 12 = .ok (.aload_n 0, 1) := by decide +kernel
theorem dX5_readsCommand_13 : decode cX5_readsCommand 13 = .ok (.getfield 172, 3) := by decide +kernel
theorem dX5_readsCommand_16 : decode cX5_readsCommand 16 = .ok (.bipush 119, 2) := by decide +kernel
theorem dX5_readsCommand_18 : decode cX5_readsCommand 18 = .ok (.if_icmp .eq 41, 3) := by decide +kernel
theorem dX5_readsCommand_21 : decode cX5_readsCommand 21 = .ok (.aload_n 0, 1) := by decide +kernel
theorem dX5_readsCommand_22 : decode cX5_readsCommand 22 = .ok (.getfield 172, 3) := by decide +kernel
theorem dX5_readsCommand_25 : decode cX5_readsCommand 25 = .ok (.bipush 102, 2) := by decide +kernel
theorem dX5_readsCommand_27 : decode cX5_readsCommand 27 = .ok (.if_icmp .eq 32, 3) := by decide +kernel
theorem dX5_readsCommand_30 : decode cX5_readsCommand 30 = .ok (.aload_n 0, 1) := by decide +kernel
theorem dX5_readsCommand_31 : decode cX5_readsCommand 31 = .ok (.getfield 172, 3) := by decide +kernel
theorem dX5_readsCommand_34 : decode cX5_readsCommand 34 = .ok (.bipush 115, 2) := by decide +kernel
theorem dX5_readsCommand_36 : decode cX5_readsCommand 36 = .ok (.if_icmp .eq 23, 3) := by decide +kernel
theorem dX5_readsCommand_39 : decode cX5_readsCommand 39 = .ok (.aload_n 0, 1) := by decide +kernel
theorem dX5_readsCommand_40 : decode cX5_readsCommand 40 = .ok (.getfield 172, 3) := by decide +kernel
theorem dX5_readsCommand_43 : decode cX5_readsCommand 43 = .ok (.bipush 120, 2) := by decide +kernel
theorem dX5_readsCommand_45 : decode cX5_readsCommand 45 = .ok (.if_icmp .eq 14, 3) := by decide +kernel
theorem dX5_readsCommand_48 : decode cX5_readsCommand 48 = .ok (.aload_n 0, 1) := by decide +kernel
theorem dX5_readsCommand_49 : decode cX5_readsCommand 49 = .ok (.getfield 172, 3) := by decide +kernel
theorem dX5_readsCommand_52 : decode cX5_readsCommand 52 = .ok (.bipush 98, 2) := by decide +kernel
theorem dX5_readsCommand_54 : decode cX5_readsCommand 54 = .ok (.if_icmp .eq 5, 3) := by decide +kernel
theorem dX5_readsCommand_57 : decode cX5_readsCommand 57 = .ok (.iconst 0, 1) := by decide +kernel
theorem dX5_readsCommand_58 : decode cX5_readsCommand 58 = .ok (.ireturn, 1) := by decide +kernel
theorem dX5_readsCommand_59 : decode cX5_readsCommand 59 = .ok (.aload_n 0, 1) := by decide +kernel
theorem dX5_readsCommand_60 : decode cX5_readsCommand 60 = .ok (.dup, 1) := by decide +kernel
theorem dX5_readsCommand_61 : decode cX5_readsCommand 61 = .ok (.getfield 163, 3) := by decide +kernel
theorem dX5_readsCommand_64 : decode cX5_readsCommand 64 = .ok (.iconst 1, 1) := by decide +kernel
theorem dX5_readsCommand_65 : decode cX5_readsCommand 65 = .ok (.iadd, 1) := by decide +kernel
theorem dX5_readsCommand_66 : decode cX5_readsCommand 66 = .ok (.putfield 163, 3) := by decide +kernel
theorem dX5_readsCommand_69 : decode cX5_readsCommand 69 = .ok (.aload_n 0, 1) := by decide +kernel
theorem dX5_readsCommand_70 : decode cX5_readsCommand 70 = .ok (.getfield 172, 3) := by decide +kernel
theorem dX5_readsCommand_73 : decode cX5_readsCommand 73 = .ok (.bipush 119, 2) := by decide +kernel
theorem dX5_readsCommand_75 : decode cX5_readsCommand 75 = .ok (.if_icmp .eq 12, 3) := by decide +kernel
theorem dX5_readsCommand_78 : decode cX5_readsCommand 78 = .ok (.aload_n 0, 1) := by decide +kernel
theorem dX5_readsCommand_79 : decode cX5_readsCommand 79 = .ok (.getfield 172, 3) := by decide +kernel
theorem dX5_readsCommand_82 : decode cX5_readsCommand 82 = .ok (.bipush 115, 2) := by decide +kernel
theorem dX5_readsCommand_84 : decode cX5_readsCommand 84 = .ok (.if_icmp .ne 10, 3) := by decide +kernel
theorem dX5_readsCommand_87 : decode cX5_readsCommand 87 = .ok (.aload_n 0, 1) := by decide +kernel
theorem dX5_readsCommand_88 : decode cX5_readsCommand 88 = .ok (.invokevirtual 175, 3) := by decide +kernel
theorem dX5_readsCommand_91 : decode cX5_readsCommand 91 = .ok (.ifCond .eq 7, 3) := by decide +kernel
theorem dX5_readsCommand_94 : decode cX5_readsCommand 94 = .ok (.iconst 1, 1) := by decide +kernel
theorem dX5_readsCommand_95 : decode cX5_readsCommand 95 = .ok (.goto 4, 3) := by decide +kernel
theorem dX5_readsCommand_98 : decode cX5_readsCommand 98 = .ok (.iconst 0, 1) := by decide +kernel
theorem dX5_readsCommand_99 : decode cX5_readsCommand 99 = .ok (.istore_n 1, 1) := by decide +kernel
theorem dX5_readsCommand_100 : decode cX5_readsCommand 100 = .ok (.aload_n 0, 1) := by decide +kernel
theorem dX5_readsCommand_101 : decode cX5_readsCommand 101 = .ok (.aload_n 0, 1) := by decide +kernel
theorem dX5_readsCommand_102 : decode cX5_readsCommand 102 = .ok (.getfield 169, 3) := by decide +kernel
theorem dX5_readsCommand_105 : decode cX5_readsCommand 105 = .ok (.putfield 178, 3) := by decide +kernel
theorem dX5_readsCommand_108 : decode cX5_readsCommand 108 = .ok (.iload_n 1, 1) := by decide +kernel
theorem dX5_readsCommand_109 : decode cX5_readsCommand 109 = .ok (.ifCond .eq 32, 3) := by decide +kernel
theorem dX5_readsCommand_112 : decode cX5_readsCommand 112 = .ok (.aload_n 0, 1) := by decide +kernel
theorem dX5_readsCommand_113 : decode cX5_readsCommand 113 = .ok (.getfield 172, 3) := by decide +kernel
theorem dX5_readsCommand_116 : decode cX5_readsCommand 116 = .ok (.bipush 119, 2) := by decide +kernel
theorem dX5_readsCommand_118 : decode cX5_readsCommand 118 = .ok (.if_icmp .ne 19, 3) := by decide +kernel
theorem dX5_readsCommand_121 : decode cX5_readsCommand 121 = .ok (.aload_n 0, 1) := by decide +kernel
theorem dX5_readsCommand_122 : decode cX5_readsCommand 122 = .ok (.bipush 61, 2) := by decide +kernel
theorem dX5_readsCommand_124 : decode cX5_readsCommand 124 = .ok (.invokevirtual 181, 3) := by decide +kernel
theorem dX5_readsCommand_127 : decode cX5_readsCommand 127 = .ok (.ifCond .eq 14, 3) := by decide +kernel
theorem dX5_readsCommand_130 : decode cX5_readsCommand 130 = .ok (.aload_n 0, 1) := by decide +kernel
theorem dX5_readsCommand_131 : decode cX5_readsCommand 131 = .ok (.invokevirtual 175, 3) := by decide +kernel
theorem dX5_readsCommand_134 : decode cX5_readsCommand 134 = .ok (.ifCond .eq 7, 3) := by decide +kernel
theorem dX5_readsCommand_137 : decode cX5_readsCommand 137 = .ok (.iconst 1, 1) := by decide +kernel
theorem dX5_readsCommand_138 : decode cX5_readsCommand 138 = .ok (.goto 4, 3) := by decide +kernel
theorem dX5_readsCommand_141 : decode cX5_readsCommand 141 = .ok (.iconst 0, 1) := by decide +kernel
theorem dX5_readsCommand_142 : decode cX5_readsCommand 142 = .ok (.istore_n 1, 1) := by decide +kernel
theorem dX5_readsCommand_143 : decode cX5_readsCommand 143 = .ok (.aload_n 0, 1) := by decide +kernel
theorem dX5_readsCommand_144 : decode cX5_readsCommand 144 = .ok (.aload_n 0, 1) := by decide +kernel
theorem dX5_readsCommand_145 : decode cX5_readsCommand 145 = .ok (.getfield 169, 3) := by decide +kernel
theorem dX5_readsCommand_148 : decode cX5_readsCommand 148 = .ok (.putfield 184, 3) := by decide +kernel
theorem dX5_readsCommand_151 : decode cX5_readsCommand 151 = .ok (.iload_n 1, 1) := by decide +kernel
theorem dX5_readsCommand_152 : decode cX5_readsCommand 152 = .ok (.ireturn, 1) := by decide +kernel
theorem dX5_findError_0 : decode cX5_findError 0 = .ok (.aload_n 0, 1) := by decide +kernel
theorem dX5_findError_1 : decode cX5_findError 1 = .ok (.iconst 0, 1) := by decide +kernel
theorem dX5_findError_2 : decode cX5_findError 2 = .ok (.putfield 163, 3) := by decide +kernel
theorem dX5_findError_5 : decode cX5_findError 5 = .ok (.aload_n 0, 1) := by decide +kernel
theorem dX5_findError_6 : decode cX5_findError 6 = .ok (.invokevirtual 187, 3) := by decide +kernel
theorem dX5_findError_9 : decode cX5_findError 9 = .ok (.ifCond .ne 8, 3) := by decide +kernel
theorem dX5_findError_12 : decode cX5_findError 12 = .ok (.aload_n 0, 1) := by decide +kernel
theorem dX5_findError_13 : decode cX5_findError 13 = .ok (.getfield 163, 3) := by decide +kernel
theorem dX5_findError_16 : decode cX5_findError 16 = .ok (.ireturn, 1) := by decide +kernel
theorem dX5_findError_17 : decode cX5_findError 17 = .ok (.aload_n 0, 1) := by decide +kernel
theorem dX5_findError_18 : decode cX5_findError 18 = .ok (.getfield 163, 3) := by decide +kernel
theorem dX5_findError_21 : decode cX5_findError 21 = .ok (.aload_n 0, 1) := by decide +kernel
theorem dX5_findError_22 : decode cX5_findError 22 = .ok (.getfield 160, 3) := by decide +kernel
theorem dX5_findError_25 : decode cX5_findError 25 = .ok (.if_icmp .ne 6, 3) := by decide +kernel
theorem dX5_findError_28 : decode cX5_findError 28 = .ok (.bipush (-6), 2) := by decide +kernel
theorem dX5_findError_30 : decode cX5_findError 30 = .ok (.ireturn, 1) := by decide +kernel
theorem dX5_findError_31 : decode cX5_findError 31 = .ok (.aload_n 0, 1) := by decide +kernel
theorem dX5_findError_32 : decode cX5_findError 32 = .ok (.bipush 59, 2) := by decide +kernel
theorem dX5_findError_34 : decode cX5_findError 34 = .ok (.invokevirtual 181, 3) := by decide +kernel
theorem dX5_findError_37 : decode cX5_findError 37 = .ok (.ifCond .ne (-32), 3) := by decide +kernel
theorem dX5_findError_40 : decode cX5_findError 40 = .ok (.aload_n 0, 1) := by decide +kernel
theorem dX5_findError_41 : decode cX5_findError 41 = .ok (.getfield 163, 3) := by decide +kernel
theorem dX5_findError_44 : decode cX5_findError 44 = .ok (.ireturn, 1) := by decide +kernel
theorem dX5_syntaxError_0 : decode cX5_syntaxError 0 = .ok (.aload_n 0, 1) := by decide +kernel
theorem dX5_syntaxError_1 : decode cX5_syntaxError 1 = .ok (.invokevirtual 190, 3) := by decide +kernel
theorem dX5_syntaxError_4 : decode cX5_syntaxError 4 = .ok (.ireturn, 1) := by decide +kernel
theorem dX5_whyNotDone_0 : decode cX5_whyNotDone 0 = .ok (.aload_n 0, 1) := by decide +kernel
theorem dX5_whyNotDone_1 : decode cX5_whyNotDone 1 = .ok (.getfield 172, 3) := by decide +kernel
theorem dX5_whyNotDone_4 : decode cX5_whyNotDone 4 = .ok (.lookupswitch 63 #[(98, 58), (115, 49), (119, 36)], 36) := by decide +kernel
theorem dX5_whyNotDone_40 : decode cX5_whyNotDone 40 = .ok (.aload_n 0, 1) := by decide +kernel
theorem dX5_whyNotDone_41 : decode cX5_whyNotDone 41 = .ok (.aload_n 0, 1) := by decide +kernel
theorem dX5_whyNotDone_42 : decode cX5_whyNotDone 42 = .ok (.getfield 178, 3) := by decide +kernel
theorem dX5_whyNotDone_45 : decode cX5_whyNotDone 45 = .ok (.aload_n 0, 1) := by decide +kernel
theorem dX5_whyNotDone_46 : decode cX5_whyNotDone 46 = .ok (.getfield 184, 3) := by decide +kernel
theorem dX5_whyNotDone_49 : decode cX5_whyNotDone 49 = .ok (.invokevirtual 130, 3) := by decide +kernel
theorem dX5_whyNotDone_52 : decode cX5_whyNotDone 52 = .ok (.ireturn, 1) := by decide +kernel
theorem dX5_whyNotDone_53 : decode cX5_whyNotDone 53 = .ok (.aload_n 0, 1) := by decide +kernel
theorem dX5_whyNotDone_54 : decode cX5_whyNotDone 54 = .ok (.aload_n 0, 1) := by decide +kernel
theorem dX5_whyNotDone_55 : decode cX5_whyNotDone 55 = .ok (.getfield 178, 3) := by decide +kernel
theorem dX5_whyNotDone_58 : decode cX5_whyNotDone 58 = .ok (.invokevirtual 112, 3) := by decide +kernel
theorem dX5_whyNotDone_61 : decode cX5_whyNotDone 61 = .ok (.ireturn, 1) := by decide +kernel
theorem dX5_whyNotDone_62 : decode cX5_whyNotDone 62 = .ok (.aload_n 0, 1) := by decide +kernel
theorem dX5_whyNotDone_63 : decode cX5_whyNotDone 63 = .ok (.invokevirtual 118, 3) := by decide +kernel
theorem dX5_whyNotDone_66 : decode cX5_whyNotDone 66 = .ok (.ireturn, 1) := by decide +kernel
theorem dX5_whyNotDone_67 : decode cX5_whyNotDone 67 = .ok (.iconst 0, 1) := by decide +kernel
theorem dX5_whyNotDone_68 : decode cX5_whyNotDone 68 = .ok (.ireturn, 1) := by decide +kernel
theorem dX5_does_0 : decode cX5_does 0 = .ok (.aload_n 0, 1) := by decide +kernel
theorem dX5_does_1 : decode cX5_does 1 = .ok (.getfield 172, 3) := by decide +kernel
theorem dX5_does_4 : decode cX5_does 4 = .ok (.lookupswitch 88 #[(98, 72), (102, 80), (115, 60), (119, 44)], 44) := by decide +kernel
theorem dX5_does_48 : decode cX5_does 48 = .ok (.aload_n 0, 1) := by decide +kernel
theorem dX5_does_49 : decode cX5_does 49 = .ok (.aload_n 0, 1) := by decide +kernel
theorem dX5_does_50 : decode cX5_does 50 = .ok (.getfield 178, 3) := by decide +kernel
theorem dX5_does_53 : decode cX5_does 53 = .ok (.aload_n 0, 1) := by decide +kernel
theorem dX5_does_54 : decode cX5_does 54 = .ok (.getfield 184, 3) := by decide +kernel
theorem dX5_does_57 : decode cX5_does 57 = .ok (.invokevirtual 133, 3) := by decide +kernel
theorem dX5_does_60 : decode cX5_does 60 = .ok (.pop, 1) := by decide +kernel
theorem dX5_does_61 : decode cX5_does 61 = .ok (.goto 35, 3) := by decide +kernel
theorem dX5_does_64 : decode cX5_does 64 = .ok (.aload_n 0, 1) := by decide +kernel
theorem dX5_does_65 : decode cX5_does 65 = .ok (.aload_n 0, 1) := by decide +kernel
theorem dX5_does_66 : decode cX5_does 66 = .ok (.getfield 178, 3) := by decide +kernel
theorem dX5_does_69 : decode cX5_does 69 = .ok (.invokevirtual 115, 3) := by decide +kernel
theorem dX5_does_72 : decode cX5_does 72 = .ok (.pop, 1) := by decide +kernel
theorem dX5_does_73 : decode cX5_does 73 = .ok (.goto 23, 3) := by decide +kernel
theorem dX5_does_76 : decode cX5_does 76 = .ok (.aload_n 0, 1) := by decide +kernel
theorem dX5_does_77 : decode cX5_does 77 = .ok (.invokevirtual 121, 3) := by decide +kernel
theorem dX5_does_80 : decode cX5_does 80 = .ok (.pop, 1) := by decide +kernel
theorem dX5_does_81 : decode cX5_does 81 = .ok (.goto 15, 3) := by decide +kernel
theorem dX5_does_84 : decode cX5_does 84 = .ok (.aload_n 0, 1) := by decide +kernel
theorem dX5_does_85 : decode cX5_does 85 = .ok (.invokevirtual 142, 3) := by decide +kernel
theorem dX5_does_88 : decode cX5_does 88 = .ok (.pop, 1) := by decide +kernel
theorem dX5_does_89 : decode cX5_does 89 = .ok (.goto 7, 3) := by decide +kernel
theorem dX5_does_92 : decode cX5_does 92 = .ok (.aload_n 0, 1) := by decide +kernel
theorem dX5_does_93 : decode cX5_does 93 = .ok (.invokevirtual 145, 3) := by decide +kernel
theorem dX5_does_96 : decode cX5_does 96 = .ok (.return_, 1) := by decide +kernel
theorem dX5_carryOut_0 : decode cX5_carryOut 0 = .ok (.aload_n 0, 1) := by decide +kernel
theorem dX5_carryOut_1 : decode cX5_carryOut 1 = .ok (.invokevirtual 190, 3) := by decide +kernel
theorem dX5_carryOut_4 : decode cX5_carryOut 4 = .ok (.bipush (-6), 2) := by decide +kernel
theorem dX5_carryOut_6 : decode cX5_carryOut 6 = .ok (.if_icmp .eq 6, 3) := by decide +kernel
theorem dX5_carryOut_9 : decode cX5_carryOut 9 = .ok (.bipush (-5), 2) := by decide +kernel
theorem dX5_carryOut_11 : decode cX5_carryOut 11 = .ok (.ireturn, 1) := by decide +kernel
theorem dX5_carryOut_12 : decode cX5_carryOut 12 = .ok (.aload_n 0, 1) := by decide +kernel
theorem dX5_carryOut_13 : decode cX5_carryOut 13 = .ok (.invokevirtual 93, 3) := by decide +kernel
theorem dX5_carryOut_16 : decode cX5_carryOut 16 = .ok (.iconst 0, 1) := by decide +kernel
theorem dX5_carryOut_17 : decode cX5_carryOut 17 = .ok (.istore_n 1, 1) := by decide +kernel
theorem dX5_carryOut_18 : decode cX5_carryOut 18 = .ok (.aload_n 0, 1) := by decide +kernel
theorem dX5_carryOut_19 : decode cX5_carryOut 19 = .ok (.iconst 0, 1) := by decide +kernel
theorem dX5_carryOut_20 : decode cX5_carryOut 20 = .ok (.putfield 163, 3) := by decide +kernel
theorem dX5_carryOut_23 : decode cX5_carryOut 23 = .ok (.iconst 1, 1) := by decide +kernel
theorem dX5_carryOut_24 : decode cX5_carryOut 24 = .ok (.istore_n 2, 1) := by decide +kernel
theorem dX5_carryOut_25 : decode cX5_carryOut 25 = .ok (.iload_n 2, 1) := by decide +kernel
theorem dX5_carryOut_26 : decode cX5_carryOut 26 = .ok (.ifCond .eq 53, 3) := by decide +kernel
theorem dX5_carryOut_29 : decode cX5_carryOut 29 = .ok (.aload_n 0, 1) := by decide +kernel
theorem dX5_carryOut_30 : decode cX5_carryOut 30 = .ok (.getfield 163, 3) := by decide +kernel
theorem dX5_carryOut_33 : decode cX5_carryOut 33 = .ok (.aload_n 0, 1) := by decide +kernel
theorem dX5_carryOut_34 : decode cX5_carryOut 34 = .ok (.getfield 160, 3) := by decide +kernel
theorem dX5_carryOut_37 : decode cX5_carryOut 37 = .ok (.if_icmp .ge 42, 3) := by decide +kernel
theorem dX5_carryOut_40 : decode cX5_carryOut 40 = .ok (.aload_n 0, 1) := by decide +kernel
theorem dX5_carryOut_41 : decode cX5_carryOut 41 = .ok (.invokevirtual 187, 3) := by decide +kernel
theorem dX5_carryOut_44 : decode cX5_carryOut 44 = .ok (.pop, 1) := by decide +kernel
theorem dX5_carryOut_45 : decode cX5_carryOut 45 = .ok (.aload_n 0, 1) := by decide +kernel
theorem dX5_carryOut_46 : decode cX5_carryOut 46 = .ok (.bipush 59, 2) := by decide +kernel
theorem dX5_carryOut_48 : decode cX5_carryOut 48 = .ok (.invokevirtual 181, 3) := by decide +kernel
theorem dX5_carryOut_51 : decode cX5_carryOut 51 = .ok (.pop, 1) := by decide +kernel
theorem dX5_carryOut_52 : decode cX5_carryOut 52 = .ok (.aload_n 0, 1) := by decide +kernel
theorem dX5_carryOut_53 : decode cX5_carryOut 53 = .ok (.invokevirtual 193, 3) := by decide +kernel
theorem dX5_carryOut_56 : decode cX5_carryOut 56 = .ok (.ifCond .ne 7, 3) := by decide +kernel
theorem dX5_carryOut_59 : decode cX5_carryOut 59 = .ok (.iconst 1, 1) := by decide +kernel
theorem dX5_carryOut_60 : decode cX5_carryOut 60 = .ok (.goto 4, 3) := by decide +kernel
theorem dX5_carryOut_63 : decode cX5_carryOut 63 = .ok (.iconst 0, 1) := by decide +kernel
theorem dX5_carryOut_64 : decode cX5_carryOut 64 = .ok (.istore_n 2, 1) := by decide +kernel
theorem dX5_carryOut_65 : decode cX5_carryOut 65 = .ok (.iload_n 2, 1) := by decide +kernel
theorem dX5_carryOut_66 : decode cX5_carryOut 66 = .ok (.ifCond .eq (-41), 3) := by decide +kernel
theorem dX5_carryOut_69 : decode cX5_carryOut 69 = .ok (.aload_n 0, 1) := by decide +kernel
theorem dX5_carryOut_70 : decode cX5_carryOut 70 = .ok (.invokevirtual 196, 3) := by decide +kernel
theorem dX5_carryOut_73 : decode cX5_carryOut 73 = .ok (.iinc 1 1, 3) := by decide +kernel
theorem dX5_carryOut_76 : decode cX5_carryOut 76 = .ok (.goto (-51), 3) := by decide +kernel
theorem dX5_carryOut_79 : decode cX5_carryOut 79 = .ok (.aload_n 0, 1) := by decide +kernel
theorem dX5_carryOut_80 : decode cX5_carryOut 80 = .ok (.iconst 0, 1) := by decide +kernel
theorem dX5_carryOut_81 : decode cX5_carryOut 81 = .ok (.putfield 160, 3) := by decide +kernel
theorem dX5_carryOut_84 : decode cX5_carryOut 84 = .ok (.iload_n 1, 1) := by decide +kernel
theorem dX5_carryOut_85 : decode cX5_carryOut 85 = .ok (.ireturn, 1) := by decide +kernel
theorem dX5_undo_0 : decode cX5_undo 0 = .ok (.aload_n 0, 1) := by decide +kernel
theorem dX5_undo_1 : decode cX5_undo 1 = .ok (.getfield 32, 3) := by decide +kernel
theorem dX5_undo_4 : decode cX5_undo 4 = .ok (.ifCond .ne 6, 3) := by decide +kernel
theorem dX5_undo_7 : decode cX5_undo 7 = .ok (.bipush (-3), 2) := by decide +kernel
theorem dX5_undo_9 : decode cX5_undo 9 = .ok (.ireturn, 1) := by decide +kernel
theorem dX5_undo_10 : decode cX5_undo 10 = .ok (.aload_n 0, 1) := by decide +kernel
theorem dX5_undo_11 : decode cX5_undo 11 = .ok (.dup, 1) := by decide +kernel
theorem dX5_undo_12 : decode cX5_undo 12 = .ok (.getfield 32, 3) := by decide +kernel
theorem dX5_undo_15 : decode cX5_undo 15 = .ok (.iconst 1, 1) := by decide +kernel
theorem dX5_undo_16 : decode cX5_undo 16 = .ok (.isub, 1) := by decide +kernel
theorem dX5_undo_17 : decode cX5_undo 17 = .ok (.putfield 32, 3) := by decide +kernel
theorem dX5_undo_20 : decode cX5_undo 20 = .ok (.aload_n 0, 1) := by decide +kernel
theorem dX5_undo_21 : decode cX5_undo 21 = .ok (.getfield 19, 3) := by decide +kernel
theorem dX5_undo_24 : decode cX5_undo 24 = .ok (.aload_n 0, 1) := by decide +kernel
theorem dX5_undo_25 : decode cX5_undo 25 = .ok (.getfield 32, 3) := by decide +kernel
theorem dX5_undo_28 : decode cX5_undo 28 = .ok (.sipush 367, 3) := by decide +kernel
theorem dX5_undo_31 : decode cX5_undo 31 = .ok (.imul, 1) := by decide +kernel
theorem dX5_undo_32 : decode cX5_undo 32 = .ok (.aload_n 0, 1) := by decide +kernel
theorem dX5_undo_33 : decode cX5_undo 33 = .ok (.getfield 7, 3) := by decide +kernel
theorem dX5_undo_36 : decode cX5_undo 36 = .ok (.iconst 0, 1) := by decide +kernel
theorem dX5_undo_37 : decode cX5_undo 37 = .ok (.invokestatic 36, 3) := by decide +kernel
theorem dX5_undo_40 : decode cX5_undo 40 = .ok (.aload_n 0, 1) := by decide +kernel
theorem dX5_undo_41 : decode cX5_undo 41 = .ok (.getfield 32, 3) := by decide +kernel
theorem dX5_undo_44 : decode cX5_undo 44 = .ok (.ireturn, 1) := by decide +kernel
theorem dX5_digest_0 : decode cX5_digest 0 = .ok (.ldc2_w 199, 3) := by decide +kernel
theorem dX5_digest_3 : decode cX5_digest 3 = .ok (.lstore_n 1, 1) := by decide +kernel
theorem dX5_digest_4 : decode cX5_digest 4 = .ok (.iconst 0, 1) := by decide +kernel
theorem dX5_digest_5 : decode cX5_digest 5 = .ok (.istore_n 3, 1) := by decide +kernel
theorem dX5_digest_6 : decode cX5_digest 6 = .ok (.iload_n 3, 1) := by decide +kernel
theorem dX5_digest_7 : decode cX5_digest 7 = .ok (.bipush 12, 2) := by decide +kernel
theorem dX5_digest_9 : decode cX5_digest 9 = .ok (.if_icmp .gt 22, 3) := by decide +kernel
theorem dX5_digest_12 : decode cX5_digest 12 = .ok (.ldc2_w 201, 3) := by decide +kernel
theorem dX5_digest_15 : decode cX5_digest 15 = .ok (.lload_n 1, 1) := by decide +kernel
theorem dX5_digest_16 : decode cX5_digest 16 = .ok (.lmul, 1) := by decide +kernel
theorem dX5_digest_17 : decode cX5_digest 17 = .ok (.aload_n 0, 1) := by decide +kernel
theorem dX5_digest_18 : decode cX5_digest 18 = .ok (.iload_n 3, 1) := by decide +kernel
theorem dX5_digest_19 : decode cX5_digest 19 = .ok (.invokevirtual 148, 3) := by decide +kernel
theorem dX5_digest_22 : decode cX5_digest 22 = .ok (.i2l, 1) := by decide +kernel
theorem dX5_digest_23 : decode cX5_digest 23 = .ok (.ladd, 1) := by decide +kernel
theorem dX5_digest_24 : decode cX5_digest 24 = .ok (.lstore_n 1, 1) := by decide +kernel
theorem dX5_digest_25 : decode cX5_digest 25 = .ok (.iinc 3 1, 3) := by decide +kernel
theorem dX5_digest_28 : decode cX5_digest 28 = .ok (.goto (-22), 3) := by decide +kernel
theorem dX5_digest_31 : decode cX5_digest 31 = .ok (.iconst 1, 1) := by decide +kernel
theorem dX5_digest_32 : decode cX5_digest 32 = .ok (.istore_n 3, 1) := by decide +kernel
theorem dX5_digest_33 : decode cX5_digest 33 = .ok (.iload_n 3, 1) := by decide +kernel
theorem dX5_digest_34 : decode cX5_digest 34 = .ok (.bipush 100, 2) := by decide +kernel
theorem dX5_digest_36 : decode cX5_digest 36 = .ok (.if_icmp .ge 49, 3) := by decide +kernel
theorem dX5_digest_39 : decode cX5_digest 39 = .ok (.aload_n 0, 1) := by decide +kernel
theorem dX5_digest_40 : decode cX5_digest 40 = .ok (.getfield 7, 3) := by decide +kernel
theorem dX5_digest_43 : decode cX5_digest 43 = .ok (.bipush 11, 2) := by decide +kernel
theorem dX5_digest_45 : decode cX5_digest 45 = .ok (.iload_n 3, 1) := by decide +kernel
theorem dX5_digest_46 : decode cX5_digest 46 = .ok (.iadd, 1) := by decide +kernel
theorem dX5_digest_47 : decode cX5_digest 47 = .ok (.iaload, 1) := by decide +kernel
theorem dX5_digest_48 : decode cX5_digest 48 = .ok (.bipush (-6), 2) := by decide +kernel
theorem dX5_digest_50 : decode cX5_digest 50 = .ok (.if_icmp .eq 29, 3) := by decide +kernel
theorem dX5_digest_53 : decode cX5_digest 53 = .ok (.ldc2_w 201, 3) := by decide +kernel
theorem dX5_digest_56 : decode cX5_digest 56 = .ok (.lload_n 1, 1) := by decide +kernel
theorem dX5_digest_57 : decode cX5_digest 57 = .ok (.lmul, 1) := by decide +kernel
theorem dX5_digest_58 : decode cX5_digest 58 = .ok (.iload_n 3, 1) := by decide +kernel
theorem dX5_digest_59 : decode cX5_digest 59 = .ok (.i2l, 1) := by decide +kernel
theorem dX5_digest_60 : decode cX5_digest 60 = .ok (.ladd, 1) := by decide +kernel
theorem dX5_digest_61 : decode cX5_digest 61 = .ok (.lstore_n 1, 1) := by decide +kernel
theorem dX5_digest_62 : decode cX5_digest 62 = .ok (.ldc2_w 201, 3) := by decide +kernel
theorem dX5_digest_65 : decode cX5_digest 65 = .ok (.lload_n 1, 1) := by decide +kernel
theorem dX5_digest_66 : decode cX5_digest 66 = .ok (.lmul, 1) := by decide +kernel
theorem dX5_digest_67 : decode cX5_digest 67 = .ok (.aload_n 0, 1) := by decide +kernel
theorem dX5_digest_68 : decode cX5_digest 68 = .ok (.getfield 7, 3) := by decide +kernel
theorem dX5_digest_71 : decode cX5_digest 71 = .ok (.bipush 11, 2) := by decide +kernel
theorem dX5_digest_73 : decode cX5_digest 73 = .ok (.iload_n 3, 1) := by decide +kernel
theorem dX5_digest_74 : decode cX5_digest 74 = .ok (.iadd, 1) := by decide +kernel
theorem dX5_digest_75 : decode cX5_digest 75 = .ok (.iaload, 1) := by decide +kernel
theorem dX5_digest_76 : decode cX5_digest 76 = .ok (.i2l, 1) := by decide +kernel
theorem dX5_digest_77 : decode cX5_digest 77 = .ok (.ladd, 1) := by decide +kernel
theorem dX5_digest_78 : decode cX5_digest 78 = .ok (.lstore_n 1, 1) := by decide +kernel
theorem dX5_digest_79 : decode cX5_digest 79 = .ok (.iinc 3 1, 3) := by decide +kernel
theorem dX5_digest_82 : decode cX5_digest 82 = .ok (.goto (-49), 3) := by decide +kernel
theorem dX5_digest_85 : decode cX5_digest 85 = .ok (.iconst 0, 1) := by decide +kernel
theorem dX5_digest_86 : decode cX5_digest 86 = .ok (.istore_n 3, 1) := by decide +kernel
theorem dX5_digest_87 : decode cX5_digest 87 = .ok (.iload_n 3, 1) := by decide +kernel
theorem dX5_digest_88 : decode cX5_digest 88 = .ok (.aload_n 0, 1) := by decide +kernel
theorem dX5_digest_89 : decode cX5_digest 89 = .ok (.getfield 7, 3) := by decide +kernel
theorem dX5_digest_92 : decode cX5_digest 92 = .ok (.iconst 0, 1) := by decide +kernel
theorem dX5_digest_93 : decode cX5_digest 93 = .ok (.iaload, 1) := by decide +kernel
theorem dX5_digest_94 : decode cX5_digest 94 = .ok (.if_icmp .ge 88, 3) := by decide +kernel
theorem dX5_digest_97 : decode cX5_digest 97 = .ok (.ldc2_w 201, 3) := by decide +kernel
theorem dX5_digest_100 : decode cX5_digest 100 = .ok (.lload_n 1, 1) := by decide +kernel
theorem dX5_digest_101 : decode cX5_digest 101 = .ok (.lmul, 1) := by decide +kernel
theorem dX5_digest_102 : decode cX5_digest 102 = .ok (.aload_n 0, 1) := by decide +kernel
theorem dX5_digest_103 : decode cX5_digest 103 = .ok (.iload_n 3, 1) := by decide +kernel
theorem dX5_digest_104 : decode cX5_digest 104 = .ok (.invokevirtual 90, 3) := by decide +kernel
theorem dX5_digest_107 : decode cX5_digest 107 = .ok (.i2l, 1) := by decide +kernel
theorem dX5_digest_108 : decode cX5_digest 108 = .ok (.ladd, 1) := by decide +kernel
theorem dX5_digest_109 : decode cX5_digest 109 = .ok (.lstore_n 1, 1) := by decide +kernel
theorem dX5_digest_110 : decode cX5_digest 110 = .ok (.ldc2_w 201, 3) := by decide +kernel
theorem dX5_digest_113 : decode cX5_digest 113 = .ok (.lload_n 1, 1) := by decide +kernel
theorem dX5_digest_114 : decode cX5_digest 114 = .ok (.lmul, 1) := by decide +kernel
theorem dX5_digest_115 : decode cX5_digest 115 = .ok (.aload_n 0, 1) := by decide +kernel
theorem dX5_digest_116 : decode cX5_digest 116 = .ok (.getfield 7, 3) := by decide +kernel
theorem dX5_digest_119 : decode cX5_digest 119 = .ok (.bipush 111, 2) := by decide +kernel
theorem dX5_digest_121 : decode cX5_digest 121 = .ok (.iload_n 3, 1) := by decide +kernel
theorem dX5_digest_122 : decode cX5_digest 122 = .ok (.iadd, 1) := by decide +kernel
theorem dX5_digest_123 : decode cX5_digest 123 = .ok (.iaload, 1) := by decide +kernel
theorem dX5_digest_124 : decode cX5_digest 124 = .ok (.i2l, 1) := by decide +kernel
theorem dX5_digest_125 : decode cX5_digest 125 = .ok (.ladd, 1) := by decide +kernel
theorem dX5_digest_126 : decode cX5_digest 126 = .ok (.lstore_n 1, 1) := by decide +kernel
theorem dX5_digest_127 : decode cX5_digest 127 = .ok (.ldc2_w 201, 3) := by decide +kernel
theorem dX5_digest_130 : decode cX5_digest 130 = .ok (.lload_n 1, 1) := by decide +kernel
theorem dX5_digest_131 : decode cX5_digest 131 = .ok (.lmul, 1) := by decide +kernel
theorem dX5_digest_132 : decode cX5_digest 132 = .ok (.aload_n 0, 1) := by decide +kernel
theorem dX5_digest_133 : decode cX5_digest 133 = .ok (.iload_n 3, 1) := by decide +kernel
theorem dX5_digest_134 : decode cX5_digest 134 = .ok (.invokevirtual 74, 3) := by decide +kernel
theorem dX5_digest_137 : decode cX5_digest 137 = .ok (.i2l, 1) := by decide +kernel
theorem dX5_digest_138 : decode cX5_digest 138 = .ok (.ladd, 1) := by decide +kernel
theorem dX5_digest_139 : decode cX5_digest 139 = .ok (.lstore_n 1, 1) := by decide +kernel
theorem dX5_digest_140 : decode cX5_digest 140 = .ok (.ldc2_w 201, 3) := by decide +kernel
theorem dX5_digest_143 : decode cX5_digest 143 = .ok (.lload_n 1, 1) := by decide +kernel
theorem dX5_digest_144 : decode cX5_digest 144 = .ok (.lmul, 1) := by decide +kernel
theorem dX5_digest_145 : decode cX5_digest 145 = .ok (.aload_n 0, 1) := by decide +kernel
theorem dX5_digest_146 : decode cX5_digest 146 = .ok (.getfield 7, 3) := by decide +kernel
theorem dX5_digest_149 : decode cX5_digest 149 = .ok (.sipush 175, 3) := by decide +kernel
theorem dX5_digest_152 : decode cX5_digest 152 = .ok (.iload_n 3, 1) := by decide +kernel
theorem dX5_digest_153 : decode cX5_digest 153 = .ok (.iadd, 1) := by decide +kernel
theorem dX5_digest_154 : decode cX5_digest 154 = .ok (.iaload, 1) := by decide +kernel
theorem dX5_digest_155 : decode cX5_digest 155 = .ok (.i2l, 1) := by decide +kernel
theorem dX5_digest_156 : decode cX5_digest 156 = .ok (.ladd, 1) := by decide +kernel
theorem dX5_digest_157 : decode cX5_digest 157 = .ok (.lstore_n 1, 1) := by decide +kernel
theorem dX5_digest_158 : decode cX5_digest 158 = .ok (.ldc2_w 201, 3) := by decide +kernel
theorem dX5_digest_161 : decode cX5_digest 161 = .ok (.lload_n 1, 1) := by decide +kernel
theorem dX5_digest_162 : decode cX5_digest 162 = .ok (.lmul, 1) := by decide +kernel
theorem dX5_digest_163 : decode cX5_digest 163 = .ok (.aload_n 0, 1) := by decide +kernel
theorem dX5_digest_164 : decode cX5_digest 164 = .ok (.getfield 7, 3) := by decide +kernel
theorem dX5_digest_167 : decode cX5_digest 167 = .ok (.sipush 239, 3) := by decide +kernel
theorem dX5_digest_170 : decode cX5_digest 170 = .ok (.iload_n 3, 1) := by decide +kernel
theorem dX5_digest_171 : decode cX5_digest 171 = .ok (.iadd, 1) := by decide +kernel
theorem dX5_digest_172 : decode cX5_digest 172 = .ok (.iaload, 1) := by decide +kernel
theorem dX5_digest_173 : decode cX5_digest 173 = .ok (.i2l, 1) := by decide +kernel
theorem dX5_digest_174 : decode cX5_digest 174 = .ok (.ladd, 1) := by decide +kernel
theorem dX5_digest_175 : decode cX5_digest 175 = .ok (.lstore_n 1, 1) := by decide +kernel
theorem dX5_digest_176 : decode cX5_digest 176 = .ok (.iinc 3 1, 3) := by decide +kernel
theorem dX5_digest_179 : decode cX5_digest 179 = .ok (.goto (-92), 3) := by decide +kernel
theorem dX5_digest_182 : decode cX5_digest 182 = .ok (.ldc2_w 201, 3) := by decide +kernel
theorem dX5_digest_185 : decode cX5_digest 185 = .ok (.lload_n 1, 1) := by decide +kernel
theorem dX5_digest_186 : decode cX5_digest 186 = .ok (.lmul, 1) := by decide +kernel
theorem dX5_digest_187 : decode cX5_digest 187 = .ok (.aload_n 0, 1) := by decide +kernel
theorem dX5_digest_188 : decode cX5_digest 188 = .ok (.invokevirtual 151, 3) := by decide +kernel
theorem dX5_digest_191 : decode cX5_digest 191 = .ok (.i2l, 1) := by decide +kernel
theorem dX5_digest_192 : decode cX5_digest 192 = .ok (.ladd, 1) := by decide +kernel
theorem dX5_digest_193 : decode cX5_digest 193 = .ok (.lstore_n 1, 1) := by decide +kernel
theorem dX5_digest_194 : decode cX5_digest 194 = .ok (.ldc2_w 201, 3) := by decide +kernel
theorem dX5_digest_197 : decode cX5_digest 197 = .ok (.lload_n 1, 1) := by decide +kernel
theorem dX5_digest_198 : decode cX5_digest 198 = .ok (.lmul, 1) := by decide +kernel
theorem dX5_digest_199 : decode cX5_digest 199 = .ok (.aload_n 0, 1) := by decide +kernel
theorem dX5_digest_200 : decode cX5_digest 200 = .ok (.invokevirtual 154, 3) := by decide +kernel
theorem dX5_digest_203 : decode cX5_digest 203 = .ok (.i2l, 1) := by decide +kernel
theorem dX5_digest_204 : decode cX5_digest 204 = .ok (.ladd, 1) := by decide +kernel
theorem dX5_digest_205 : decode cX5_digest 205 = .ok (.lstore_n 1, 1) := by decide +kernel
theorem dX5_digest_206 : decode cX5_digest 206 = .ok (.aload_n 0, 1) := by decide +kernel
theorem dX5_digest_207 : decode cX5_digest 207 = .ok (.invokevirtual 56, 3) := by decide +kernel
theorem dX5_digest_210 : decode cX5_digest 210 = .ok (.ifCond .eq 27, 3) := by decide +kernel
theorem dX5_digest_213 : decode cX5_digest 213 = .ok (.ldc2_w 201, 3) := by decide +kernel
theorem dX5_digest_216 : decode cX5_digest 216 = .ok (.lload_n 1, 1) := by decide +kernel
theorem dX5_digest_217 : decode cX5_digest 217 = .ok (.lmul, 1) := by decide +kernel
theorem dX5_digest_218 : decode cX5_digest 218 = .ok (.aload_n 0, 1) := by decide +kernel
theorem dX5_digest_219 : decode cX5_digest 219 = .ok (.invokevirtual 60, 3) := by decide +kernel
theorem dX5_digest_222 : decode cX5_digest 222 = .ok (.i2l, 1) := by decide +kernel
theorem dX5_digest_223 : decode cX5_digest 223 = .ok (.ladd, 1) := by decide +kernel
theorem dX5_digest_224 : decode cX5_digest 224 = .ok (.lstore_n 1, 1) := by decide +kernel
theorem dX5_digest_225 : decode cX5_digest 225 = .ok (.ldc2_w 201, 3) := by decide +kernel
theorem dX5_digest_228 : decode cX5_digest 228 = .ok (.lload_n 1, 1) := by decide +kernel
theorem dX5_digest_229 : decode cX5_digest 229 = .ok (.lmul, 1) := by decide +kernel
theorem dX5_digest_230 : decode cX5_digest 230 = .ok (.aload_n 0, 1) := by decide +kernel
theorem dX5_digest_231 : decode cX5_digest 231 = .ok (.invokevirtual 109, 3) := by decide +kernel
theorem dX5_digest_234 : decode cX5_digest 234 = .ok (.i2l, 1) := by decide +kernel
theorem dX5_digest_235 : decode cX5_digest 235 = .ok (.ladd, 1) := by decide +kernel
theorem dX5_digest_236 : decode cX5_digest 236 = .ok (.lstore_n 1, 1) := by decide +kernel
theorem dX5_digest_237 : decode cX5_digest 237 = .ok (.lload_n 1, 1) := by decide +kernel
theorem dX5_digest_238 : decode cX5_digest 238 = .ok (.lreturn, 1) := by decide +kernel

theorem dX0_init_0 : decode cX0_init 0 = .ok (.aload_n 0, 1) := by decide +kernel
theorem dX0_init_1 : decode cX0_init 1 = .ok (.invokespecial 3, 3) := by decide +kernel
theorem dX0_init_4 : decode cX0_init 4 = .ok (.aload_n 0, 1) := by decide +kernel
theorem dX0_init_5 : decode cX0_init 5 = .ok (.new 9, 3) := by decide +kernel
theorem dX0_init_8 : decode cX0_init 8 = .ok (.dup, 1) := by decide +kernel
theorem dX0_init_9 : decode cX0_init 9 = .ok (.bipush 64, 2) := by decide +kernel
theorem dX0_init_11 : decode cX0_init 11 = .ok (.invokespecial 11, 3) := by decide +kernel
theorem dX0_init_14 : decode cX0_init 14 = .ok (.putfield 14, 3) := by decide +kernel
theorem dX0_init_17 : decode cX0_init 17 = .ok (.aload_n 0, 1) := by decide +kernel
theorem dX0_init_18 : decode cX0_init 18 = .ok (.new 9, 3) := by decide +kernel
theorem dX0_init_21 : decode cX0_init 21 = .ok (.dup, 1) := by decide +kernel
theorem dX0_init_22 : decode cX0_init 22 = .ok (.bipush 64, 2) := by decide +kernel
theorem dX0_init_24 : decode cX0_init 24 = .ok (.invokespecial 11, 3) := by decide +kernel
theorem dX0_init_27 : decode cX0_init 27 = .ok (.putfield 20, 3) := by decide +kernel
theorem dX0_init_30 : decode cX0_init 30 = .ok (.aload_n 0, 1) := by decide +kernel
theorem dX0_init_31 : decode cX0_init 31 = .ok (.new 9, 3) := by decide +kernel
theorem dX0_init_34 : decode cX0_init 34 = .ok (.dup, 1) := by decide +kernel
theorem dX0_init_35 : decode cX0_init 35 = .ok (.bipush 64, 2) := by decide +kernel
theorem dX0_init_37 : decode cX0_init 37 = .ok (.invokespecial 11, 3) := by decide +kernel
theorem dX0_init_40 : decode cX0_init 40 = .ok (.putfield 23, 3) := by decide +kernel
theorem dX0_init_43 : decode cX0_init 43 = .ok (.aload_n 0, 1) := by decide +kernel
theorem dX0_init_44 : decode cX0_init 44 = .ok (.new 9, 3) := by decide +kernel
theorem dX0_init_47 : decode cX0_init 47 = .ok (.dup, 1) := by decide +kernel
theorem dX0_init_48 : decode cX0_init 48 = .ok (.bipush 64, 2) := by decide +kernel
theorem dX0_init_50 : decode cX0_init 50 = .ok (.invokespecial 11, 3) := by decide +kernel
theorem dX0_init_53 : decode cX0_init 53 = .ok (.putfield 26, 3) := by decide +kernel
theorem dX0_init_56 : decode cX0_init 56 = .ok (.aload_n 0, 1) := by decide +kernel
theorem dX0_init_57 : decode cX0_init 57 = .ok (.new 9, 3) := by decide +kernel
theorem dX0_init_60 : decode cX0_init 60 = .ok (.dup, 1) := by decide +kernel
theorem dX0_init_61 : decode cX0_init 61 = .ok (.bipush 100, 2) := by decide +kernel
theorem dX0_init_63 : decode cX0_init 63 = .ok (.invokespecial 11, 3) := by decide +kernel
theorem dX0_init_66 : decode cX0_init 66 = .ok (.putfield 29, 3) := by decide +kernel
theorem dX0_init_69 : decode cX0_init 69 = .ok (.aload_n 0, 1) := by decide +kernel
theorem dX0_init_70 : decode cX0_init 70 = .ok (.bipush 16, 2) := by decide +kernel
theorem dX0_init_72 : decode cX0_init 72 = .ok (.putfield 32, 3) := by decide +kernel
theorem dX0_init_75 : decode cX0_init 75 = .ok (.aload_n 0, 1) := by decide +kernel
theorem dX0_init_76 : decode cX0_init 76 = .ok (.iconst 1, 1) := by decide +kernel
theorem dX0_init_77 : decode cX0_init 77 = .ok (.putfield 36, 3) := by decide +kernel
theorem dX0_init_80 : decode cX0_init 80 = .ok (.aload_n 0, 1) := by decide +kernel
theorem dX0_init_81 : decode cX0_init 81 = .ok (.iconst 0, 1) := by decide +kernel
theorem dX0_init_82 : decode cX0_init 82 = .ok (.putfield 39, 3) := by decide +kernel
theorem dX0_init_85 : decode cX0_init 85 = .ok (.aload_n 0, 1) := by decide +kernel
theorem dX0_init_86 : decode cX0_init 86 = .ok (.iconst 1, 1) := by decide +kernel
theorem dX0_init_87 : decode cX0_init 87 = .ok (.putfield 42, 3) := by decide +kernel
theorem dX0_init_90 : decode cX0_init 90 = .ok (.aload_n 0, 1) := by decide +kernel
theorem dX0_init_91 : decode cX0_init 91 = .ok (.iconst 0, 1) := by decide +kernel
theorem dX0_init_92 : decode cX0_init 92 = .ok (.putfield 46, 3) := by decide +kernel
theorem dX0_init_95 : decode cX0_init 95 = .ok (.aload_n 0, 1) := by decide +kernel
theorem dX0_init_96 : decode cX0_init 96 = .ok (.iconst 0, 1) := by decide +kernel
theorem dX0_init_97 : decode cX0_init 97 = .ok (.putfield 49, 3) := by decide +kernel
theorem dX0_init_100 : decode cX0_init 100 = .ok (.aload_n 0, 1) := by decide +kernel
theorem dX0_init_101 : decode cX0_init 101 = .ok (.iconst 4, 1) := by decide +kernel
theorem dX0_init_102 : decode cX0_init 102 = .ok (.putfield 52, 3) := by decide +kernel
theorem dX0_init_105 : decode cX0_init 105 = .ok (.aload_n 0, 1) := by decide +kernel
theorem dX0_init_106 : decode cX0_init 106 = .ok (.iconst 1, 1) := by decide +kernel
theorem dX0_init_107 : decode cX0_init 107 = .ok (.putfield 55, 3) := by decide +kernel
theorem dX0_init_110 : decode cX0_init 110 = .ok (.aload_n 0, 1) := by decide +kernel
theorem dX0_init_111 : decode cX0_init 111 = .ok (.iconst 0, 1) := by decide +kernel
theorem dX0_init_112 : decode cX0_init 112 = .ok (.putfield 58, 3) := by decide +kernel
theorem dX0_init_115 : decode cX0_init 115 = .ok (.aload_n 0, 1) := by decide +kernel
theorem dX0_init_116 : decode cX0_init 116 = .ok (.iconst 0, 1) := by decide +kernel
theorem dX0_init_117 : decode cX0_init 117 = .ok (.putfield 61, 3) := by decide +kernel
theorem dX0_init_120 : decode cX0_init 120 = .ok (.aload_n 0, 1) := by decide +kernel
theorem dX0_init_121 : decode cX0_init 121 = .ok (.getfield 29, 3) := by decide +kernel
theorem dX0_init_124 : decode cX0_init 124 = .ok (.aload_n 0, 1) := by decide +kernel
theorem dX0_init_125 : decode cX0_init 125 = .ok (.getfield 36, 3) := by decide +kernel
theorem dX0_init_128 : decode cX0_init 128 = .ok (.iconst 0, 1) := by decide +kernel
theorem dX0_init_129 : decode cX0_init 129 = .ok (.invokevirtual 64, 3) := by decide +kernel
theorem dX0_init_132 : decode cX0_init 132 = .ok (.aload_n 0, 1) := by decide +kernel
theorem dX0_init_133 : decode cX0_init 133 = .ok (.invokevirtual 68, 3) := by decide +kernel
theorem dX0_init_136 : decode cX0_init 136 = .ok (.return_, 1) := by decide +kernel
theorem dX0_takeOver_0 : decode cX0_takeOver 0 = .ok (.aload_n 0, 1) := by decide +kernel
theorem dX0_takeOver_1 : decode cX0_takeOver 1 = .ok (.getfield 14, 3) := by decide +kernel
theorem dX0_takeOver_4 : decode cX0_takeOver 4 = .ok (.aload_n 1, 1) := by decide +kernel
theorem dX0_takeOver_5 : decode cX0_takeOver 5 = .ok (.getfield 14, 3) := by decide +kernel
theorem dX0_takeOver_8 : decode cX0_takeOver 8 = .ok (.invokevirtual 71, 3) := by decide +kernel
theorem dX0_takeOver_11 : decode cX0_takeOver 11 = .ok (.aload_n 0, 1) := by decide +kernel
theorem dX0_takeOver_12 : decode cX0_takeOver 12 = .ok (.getfield 20, 3) := by decide +kernel
theorem dX0_takeOver_15 : decode cX0_takeOver 15 = .ok (.aload_n 1, 1) := by decide +kernel
theorem dX0_takeOver_16 : decode cX0_takeOver 16 = .ok (.getfield 20, 3) := by decide +kernel
theorem dX0_takeOver_19 : decode cX0_takeOver 19 = .ok (.invokevirtual 71, 3) := by decide +kernel
theorem dX0_takeOver_22 : decode cX0_takeOver 22 = .ok (.aload_n 0, 1) := by decide +kernel
theorem dX0_takeOver_23 : decode cX0_takeOver 23 = .ok (.getfield 23, 3) := by decide +kernel
theorem dX0_takeOver_26 : decode cX0_takeOver 26 = .ok (.aload_n 1, 1) := by decide +kernel
theorem dX0_takeOver_27 : decode cX0_takeOver 27 = .ok (.getfield 23, 3) := by decide +kernel
theorem dX0_takeOver_30 : decode cX0_takeOver 30 = .ok (.invokevirtual 71, 3) := by decide +kernel
theorem dX0_takeOver_33 : decode cX0_takeOver 33 = .ok (.aload_n 0, 1) := by decide +kernel
theorem dX0_takeOver_34 : decode cX0_takeOver 34 = .ok (.getfield 26, 3) := by decide +kernel
theorem dX0_takeOver_37 : decode cX0_takeOver 37 = .ok (.aload_n 1, 1) := by decide +kernel
theorem dX0_takeOver_38 : decode cX0_takeOver 38 = .ok (.getfield 26, 3) := by decide +kernel
theorem dX0_takeOver_41 : decode cX0_takeOver 41 = .ok (.invokevirtual 71, 3) := by decide +kernel
theorem dX0_takeOver_44 : decode cX0_takeOver 44 = .ok (.aload_n 0, 1) := by decide +kernel
theorem dX0_takeOver_45 : decode cX0_takeOver 45 = .ok (.getfield 29, 3) := by decide +kernel
theorem dX0_takeOver_48 : decode cX0_takeOver 48 = .ok (.aload_n 1, 1) := by decide +kernel
theorem dX0_takeOver_49 : decode cX0_takeOver 49 = .ok (.getfield 29, 3) := by decide +kernel
theorem dX0_takeOver_52 : decode cX0_takeOver 52 = .ok (.invokevirtual 71, 3) := by decide +kernel
theorem dX0_takeOver_55 : decode cX0_takeOver 55 = .ok (.aload_n 0, 1) := by decide +kernel
theorem dX0_takeOver_56 : decode cX0_takeOver 56 = .ok (.aload_n 1, 1) := by decide +kernel
theorem dX0_takeOver_57 : decode cX0_takeOver 57 = .ok (.getfield 32, 3) := by decide +kernel
theorem dX0_takeOver_60 : decode cX0_takeOver 60 = .ok (.putfield 32, 3) := by decide +kernel
theorem dX0_takeOver_63 : decode cX0_takeOver 63 = .ok (.aload_n 0, 1) := by decide +kernel
theorem dX0_takeOver_64 : decode cX0_takeOver 64 = .ok (.aload_n 1, 1) := by decide +kernel
theorem dX0_takeOver_65 : decode cX0_takeOver 65 = .ok (.getfield 36, 3) := by decide +kernel
theorem dX0_takeOver_68 : decode cX0_takeOver 68 = .ok (.putfield 36, 3) := by decide +kernel
theorem dX0_takeOver_71 : decode cX0_takeOver 71 = .ok (.aload_n 0, 1) := by decide +kernel
theorem dX0_takeOver_72 : decode cX0_takeOver 72 = .ok (.aload_n 1, 1) := by decide +kernel
theorem dX0_takeOver_73 : decode cX0_takeOver 73 = .ok (.getfield 39, 3) := by decide +kernel
theorem dX0_takeOver_76 : decode cX0_takeOver 76 = .ok (.putfield 39, 3) := by decide +kernel
theorem dX0_takeOver_79 : decode cX0_takeOver 79 = .ok (.aload_n 0, 1) := by decide +kernel
theorem dX0_takeOver_80 : decode cX0_takeOver 80 = .ok (.aload_n 1, 1) := by decide +kernel
theorem dX0_takeOver_81 : decode cX0_takeOver 81 = .ok (.getfield 42, 3) := by decide +kernel
theorem dX0_takeOver_84 : decode cX0_takeOver 84 = .ok (.putfield 42, 3) := by decide +kernel
theorem dX0_takeOver_87 : decode cX0_takeOver 87 = .ok (.aload_n 0, 1) := by decide +kernel
theorem dX0_takeOver_88 : decode cX0_takeOver 88 = .ok (.aload_n 1, 1) := by decide +kernel
theorem dX0_takeOver_89 : decode cX0_takeOver 89 = .ok (.getfield 46, 3) := by decide +kernel
theorem dX0_takeOver_92 : decode cX0_takeOver 92 = .ok (.putfield 46, 3) := by decide +kernel
theorem dX0_takeOver_95 : decode cX0_takeOver 95 = .ok (.aload_n 0, 1) := by decide +kernel
theorem dX0_takeOver_96 : decode cX0_takeOver 96 = .ok (.aload_n 1, 1) := by decide +kernel
theorem dX0_takeOver_97 : decode cX0_takeOver 97 = .ok (.getfield 49, 3) := by decide +kernel
theorem dX0_takeOver_100 : decode cX0_takeOver 100 = .ok (.putfield 49, 3) := by decide +kernel
theorem dX0_takeOver_103 : decode cX0_takeOver 103 = .ok (.aload_n 0, 1) := by decide +kernel
theorem dX0_takeOver_104 : decode cX0_takeOver 104 = .ok (.aload_n 1, 1) := by decide +kernel
theorem dX0_takeOver_105 : decode cX0_takeOver 105 = .ok (.getfield 52, 3) := by decide +kernel
theorem dX0_takeOver_108 : decode cX0_takeOver 108 = .ok (.putfield 52, 3) := by decide +kernel
theorem dX0_takeOver_111 : decode cX0_takeOver 111 = .ok (.aload_n 0, 1) := by decide +kernel
theorem dX0_takeOver_112 : decode cX0_takeOver 112 = .ok (.aload_n 1, 1) := by decide +kernel
theorem dX0_takeOver_113 : decode cX0_takeOver 113 = .ok (.getfield 55, 3) := by decide +kernel
theorem dX0_takeOver_116 : decode cX0_takeOver 116 = .ok (.putfield 55, 3) := by decide +kernel
theorem dX0_takeOver_119 : decode cX0_takeOver 119 = .ok (.aload_n 0, 1) := by decide +kernel
theorem dX0_takeOver_120 : decode cX0_takeOver 120 = .ok (.aload_n 1, 1) := by decide +kernel
theorem dX0_takeOver_121 : decode cX0_takeOver 121 = .ok (.getfield 58, 3) := by decide +kernel
theorem dX0_takeOver_124 : decode cX0_takeOver 124 = .ok (.putfield 58, 3) := by decide +kernel
theorem dX0_takeOver_127 : decode cX0_takeOver 127 = .ok (.aload_n 0, 1) := by decide +kernel
theorem dX0_takeOver_128 : decode cX0_takeOver 128 = .ok (.aload_n 1, 1) := by decide +kernel
theorem dX0_takeOver_129 : decode cX0_takeOver 129 = .ok (.getfield 61, 3) := by decide +kernel
theorem dX0_takeOver_132 : decode cX0_takeOver 132 = .ok (.putfield 61, 3) := by decide +kernel
theorem dX0_takeOver_135 : decode cX0_takeOver 135 = .ok (.return_, 1) := by decide +kernel
theorem dX0_reformat_0 : decode cX0_reformat 0 = .ok (.iload_n 1, 1) := by decide +kernel
theorem dX0_reformat_1 : decode cX0_reformat 1 = .ok (.iconst 4, 1) := by decide +kernel
theorem dX0_reformat_2 : decode cX0_reformat 2 = .ok (.if_icmp .lt 9, 3) := by decide +kernel
theorem dX0_reformat_5 : decode cX0_reformat 5 = .ok (.iload_n 1, 1) := by decide +kernel
theorem dX0_reformat_6 : decode cX0_reformat 6 = .ok (.bipush 64, 2) := by decide +kernel
theorem dX0_reformat_8 : decode cX0_reformat 8 = .ok (.if_icmp .le 6, 3) := by decide +kernel
theorem dX0_reformat_11 : decode cX0_reformat 11 = .ok (.bipush (-2), 2) := by decide +kernel
theorem dX0_reformat_13 : decode cX0_reformat 13 = .ok (.ireturn, 1) := by decide +kernel
theorem dX0_reformat_14 : decode cX0_reformat 14 = .ok (.aload_n 0, 1) := by decide +kernel
theorem dX0_reformat_15 : decode cX0_reformat 15 = .ok (.getfield 32, 3) := by decide +kernel
theorem dX0_reformat_18 : decode cX0_reformat 18 = .ok (.istore_n 2, 1) := by decide +kernel
theorem dX0_reformat_19 : decode cX0_reformat 19 = .ok (.aload_n 0, 1) := by decide +kernel
theorem dX0_reformat_20 : decode cX0_reformat 20 = .ok (.iload_n 1, 1) := by decide +kernel
theorem dX0_reformat_21 : decode cX0_reformat 21 = .ok (.putfield 32, 3) := by decide +kernel
theorem dX0_reformat_24 : decode cX0_reformat 24 = .ok (.aload_n 0, 1) := by decide +kernel
theorem dX0_reformat_25 : decode cX0_reformat 25 = .ok (.iconst 0, 1) := by decide +kernel
theorem dX0_reformat_26 : decode cX0_reformat 26 = .ok (.putfield 39, 3) := by decide +kernel
theorem dX0_reformat_29 : decode cX0_reformat 29 = .ok (.aload_n 0, 1) := by decide +kernel
theorem dX0_reformat_30 : decode cX0_reformat 30 = .ok (.invokevirtual 75, 3) := by decide +kernel
theorem dX0_reformat_33 : decode cX0_reformat 33 = .ok (.aload_n 0, 1) := by decide +kernel
theorem dX0_reformat_34 : decode cX0_reformat 34 = .ok (.invokevirtual 68, 3) := by decide +kernel
theorem dX0_reformat_37 : decode cX0_reformat 37 = .ok (.iload_n 2, 1) := by decide +kernel
theorem dX0_reformat_38 : decode cX0_reformat 38 = .ok (.ireturn, 1) := by decide +kernel
theorem dX0_insertKey_0 : decode cX0_insertKey 0 = .ok (.iload_n 1, 1) := by decide +kernel
theorem dX0_insertKey_1 : decode cX0_insertKey 1 = .ok (.iconst 1, 1) := by decide +kernel
theorem dX0_insertKey_2 : decode cX0_insertKey 2 = .ok (.if_icmp .lt 19, 3) := by decide +kernel
theorem dX0_insertKey_5 : decode cX0_insertKey 5 = .ok (.iload_n 1, 1) := by decide +kernel
theorem dX0_insertKey_6 : decode cX0_insertKey 6 = .ok (.bipush 99, 2) := by decide +kernel
theorem dX0_insertKey_8 : decode cX0_insertKey 8 = .ok (.if_icmp .gt 13, 3) := by decide +kernel
theorem dX0_insertKey_11 : decode cX0_insertKey 11 = .ok (.iload_n 2, 1) := by decide +kernel
theorem dX0_insertKey_12 : decode cX0_insertKey 12 = .ok (.ifCond .lt 9, 3) := by decide +kernel
theorem dX0_insertKey_15 : decode cX0_insertKey 15 = .ok (.iload_n 2, 1) := by decide +kernel
theorem dX0_insertKey_16 : decode cX0_insertKey 16 = .ok (.ldc 78, 2) := by decide +kernel
theorem dX0_insertKey_18 : decode cX0_insertKey 18 = .ok (.if_icmp .le 6, 3) := by decide +kernel
theorem dX0_insertKey_21 : decode cX0_insertKey 21 = .ok (.bipush (-2), 2) := by decide +kernel
theorem dX0_insertKey_23 : decode cX0_insertKey 23 = .ok (.ireturn, 1) := by decide +kernel
theorem dX0_insertKey_24 : decode cX0_insertKey 24 = .ok (.aload_n 0, 1) := by decide +kernel
theorem dX0_insertKey_25 : decode cX0_insertKey 25 = .ok (.iload_n 1, 1) := by decide +kernel
theorem dX0_insertKey_26 : decode cX0_insertKey 26 = .ok (.invokevirtual 79, 3) := by decide +kernel
theorem dX0_insertKey_29 : decode cX0_insertKey 29 = .ok (.ifCond .eq 6, 3) := by decide +kernel
theorem dX0_insertKey_32 : decode cX0_insertKey 32 = .ok (.bipush (-3), 2) := by decide +kernel
theorem dX0_insertKey_34 : decode cX0_insertKey 34 = .ok (.ireturn, 1) := by decide +kernel
theorem dX0_insertKey_35 : decode cX0_insertKey 35 = .ok (.aload_n 0, 1) := by decide +kernel
theorem dX0_insertKey_36 : decode cX0_insertKey 36 = .ok (.getfield 29, 3) := by decide +kernel
theorem dX0_insertKey_39 : decode cX0_insertKey 39 = .ok (.invokevirtual 83, 3) := by decide +kernel
theorem dX0_insertKey_42 : decode cX0_insertKey 42 = .ok (.bipush 8, 2) := by decide +kernel
theorem dX0_insertKey_44 : decode cX0_insertKey 44 = .ok (.if_icmp .lt 6, 3) := by decide +kernel
theorem dX0_insertKey_47 : decode cX0_insertKey 47 = .ok (.bipush (-4), 2) := by decide +kernel
theorem dX0_insertKey_49 : decode cX0_insertKey 49 = .ok (.ireturn, 1) := by decide +kernel
theorem dX0_insertKey_50 : decode cX0_insertKey 50 = .ok (.aload_n 0, 1) := by decide +kernel
theorem dX0_insertKey_51 : decode cX0_insertKey 51 = .ok (.getfield 29, 3) := by decide +kernel
theorem dX0_insertKey_54 : decode cX0_insertKey 54 = .ok (.iload_n 1, 1) := by decide +kernel
theorem dX0_insertKey_55 : decode cX0_insertKey 55 = .ok (.iload_n 2, 1) := by decide +kernel
theorem dX0_insertKey_56 : decode cX0_insertKey 56 = .ok (.invokevirtual 64, 3) := by decide +kernel
theorem dX0_insertKey_59 : decode cX0_insertKey 59 = .ok (.aload_n 0, 1) := by decide +kernel
theorem dX0_insertKey_60 : decode cX0_insertKey 60 = .ok (.getfield 29, 3) := by decide +kernel
theorem dX0_insertKey_63 : decode cX0_insertKey 63 = .ok (.invokevirtual 83, 3) := by decide +kernel
theorem dX0_insertKey_66 : decode cX0_insertKey 66 = .ok (.ireturn, 1) := by decide +kernel
theorem dX0_dropKey_0 : decode cX0_dropKey 0 = .ok (.aload_n 0, 1) := by decide +kernel
theorem dX0_dropKey_1 : decode cX0_dropKey 1 = .ok (.iload_n 1, 1) := by decide +kernel
theorem dX0_dropKey_2 : decode cX0_dropKey 2 = .ok (.invokevirtual 79, 3) := by decide +kernel
theorem dX0_dropKey_5 : decode cX0_dropKey 5 = .ok (.ifCond .ne 5, 3) := by decide +kernel
theorem dX0_dropKey_8 : decode cX0_dropKey 8 = .ok (.iconst (-1), 1) := by decide +kernel
theorem dX0_dropKey_9 : decode cX0_dropKey 9 = .ok (.ireturn, 1) := by decide +kernel
theorem dX0_dropKey_10 : decode cX0_dropKey 10 = .ok (.iload_n 1, 1) := by decide +kernel
theorem dX0_dropKey_11 : decode cX0_dropKey 11 = .ok (.aload_n 0, 1) := by decide +kernel
theorem dX0_dropKey_12 : decode cX0_dropKey 12 = .ok (.getfield 36, 3) := by decide +kernel
theorem dX0_dropKey_15 : decode cX0_dropKey 15 = .ok (.if_icmp .eq 11, 3) := by decide +kernel
theorem dX0_dropKey_18 : decode cX0_dropKey 18 = .ok (.iload_n 1, 1) := by decide +kernel
theorem dX0_dropKey_19 : decode cX0_dropKey 19 = .ok (.aload_n 0, 1) := by decide +kernel
theorem dX0_dropKey_20 : decode cX0_dropKey 20 = .ok (.getfield 39, 3) := by decide +kernel
theorem dX0_dropKey_23 : decode cX0_dropKey 23 = .ok (.if_icmp .ne 6, 3) := by decide +kernel
theorem dX0_dropKey_26 : decode cX0_dropKey 26 = .ok (.bipush (-3), 2) := by decide +kernel
theorem dX0_dropKey_28 : decode cX0_dropKey 28 = .ok (.ireturn, 1) := by decide +kernel
theorem dX0_dropKey_29 : decode cX0_dropKey 29 = .ok (.aload_n 0, 1) := by decide +kernel
theorem dX0_dropKey_30 : decode cX0_dropKey 30 = .ok (.getfield 29, 3) := by decide +kernel
theorem dX0_dropKey_33 : decode cX0_dropKey 33 = .ok (.iload_n 1, 1) := by decide +kernel
theorem dX0_dropKey_34 : decode cX0_dropKey 34 = .ok (.iconst (-1), 1) := by decide +kernel
theorem dX0_dropKey_35 : decode cX0_dropKey 35 = .ok (.invokevirtual 64, 3) := by decide +kernel
theorem dX0_dropKey_38 : decode cX0_dropKey 38 = .ok (.aload_n 0, 1) := by decide +kernel
theorem dX0_dropKey_39 : decode cX0_dropKey 39 = .ok (.getfield 29, 3) := by decide +kernel
theorem dX0_dropKey_42 : decode cX0_dropKey 42 = .ok (.invokevirtual 83, 3) := by decide +kernel
theorem dX0_dropKey_45 : decode cX0_dropKey 45 = .ok (.ireturn, 1) := by decide +kernel
theorem dX0_resizeZone_0 : decode cX0_resizeZone 0 = .ok (.iload_n 1, 1) := by decide +kernel
theorem dX0_resizeZone_1 : decode cX0_resizeZone 1 = .ok (.iconst 1, 1) := by decide +kernel
theorem dX0_resizeZone_2 : decode cX0_resizeZone 2 = .ok (.if_icmp .lt 9, 3) := by decide +kernel
theorem dX0_resizeZone_5 : decode cX0_resizeZone 5 = .ok (.iload_n 1, 1) := by decide +kernel
theorem dX0_resizeZone_6 : decode cX0_resizeZone 6 = .ok (.bipush 8, 2) := by decide +kernel
theorem dX0_resizeZone_8 : decode cX0_resizeZone 8 = .ok (.if_icmp .le 6, 3) := by decide +kernel
theorem dX0_resizeZone_11 : decode cX0_resizeZone 11 = .ok (.bipush (-2), 2) := by decide +kernel
theorem dX0_resizeZone_13 : decode cX0_resizeZone 13 = .ok (.ireturn, 1) := by decide +kernel
theorem dX0_resizeZone_14 : decode cX0_resizeZone 14 = .ok (.aload_n 0, 1) := by decide +kernel
theorem dX0_resizeZone_15 : decode cX0_resizeZone 15 = .ok (.invokevirtual 87, 3) := by decide +kernel
theorem dX0_resizeZone_18 : decode cX0_resizeZone 18 = .ok (.ifCond .eq 6, 3) := by decide +kernel
theorem dX0_resizeZone_21 : decode cX0_resizeZone 21 = .ok (.bipush (-3), 2) := by decide +kernel
theorem dX0_resizeZone_23 : decode cX0_resizeZone 23 = .ok (.ireturn, 1) := by decide +kernel
theorem dX0_resizeZone_24 : decode cX0_resizeZone 24 = .ok (.aload_n 0, 1) := by decide +kernel
theorem dX0_resizeZone_25 : decode cX0_resizeZone 25 = .ok (.getfield 52, 3) := by decide +kernel
theorem dX0_resizeZone_28 : decode cX0_resizeZone 28 = .ok (.istore_n 2, 1) := by decide +kernel
theorem dX0_resizeZone_29 : decode cX0_resizeZone 29 = .ok (.aload_n 0, 1) := by decide +kernel
theorem dX0_resizeZone_30 : decode cX0_resizeZone 30 = .ok (.iload_n 1, 1) := by decide +kernel
theorem dX0_resizeZone_31 : decode cX0_resizeZone 31 = .ok (.putfield 52, 3) := by decide +kernel
theorem dX0_resizeZone_34 : decode cX0_resizeZone 34 = .ok (.iload_n 2, 1) := by decide +kernel
theorem dX0_resizeZone_35 : decode cX0_resizeZone 35 = .ok (.ireturn, 1) := by decide +kernel
theorem dX0_switchJournal_0 : decode cX0_switchJournal 0 = .ok (.iload_n 1, 1) := by decide +kernel
theorem dX0_switchJournal_1 : decode cX0_switchJournal 1 = .ok (.ifCond .eq 11, 3) := by decide +kernel
theorem dX0_switchJournal_4 : decode cX0_switchJournal 4 = .ok (.iload_n 1, 1) := by decide +kernel
theorem dX0_switchJournal_5 : decode cX0_switchJournal 5 = .ok (.iconst 1, 1) := by decide +kernel
theorem dX0_switchJournal_6 : decode cX0_switchJournal 6 = .ok (.if_icmp .eq 6, 3) := by decide +kernel
theorem dX0_switchJournal_9 : decode cX0_switchJournal 9 = .ok (.bipush (-2), 2) := by decide +kernel
theorem dX0_switchJournal_11 : decode cX0_switchJournal 11 = .ok (.ireturn, 1) := by decide +kernel
theorem dX0_switchJournal_12 : decode cX0_switchJournal 12 = .ok (.aload_n 0, 1) := by decide +kernel
theorem dX0_switchJournal_13 : decode cX0_switchJournal 13 = .ok (.invokevirtual 87, 3) := by decide +kernel
theorem dX0_switchJournal_16 : decode cX0_switchJournal 16 = .ok (.ifCond .eq 6, 3) := by decide +kernel
theorem dX0_switchJournal_19 : decode cX0_switchJournal 19 = .ok (.bipush (-3), 2) := by decide +kernel
theorem dX0_switchJournal_21 : decode cX0_switchJournal 21 = .ok (.ireturn, 1) := by decide +kernel
theorem dX0_switchJournal_22 : decode cX0_switchJournal 22 = .ok (.aload_n 0, 1) := by decide +kernel
theorem dX0_switchJournal_23 : decode cX0_switchJournal 23 = .ok (.getfield 55, 3) := by decide +kernel
theorem dX0_switchJournal_26 : decode cX0_switchJournal 26 = .ok (.ifCond .eq 7, 3) := by decide +kernel
theorem dX0_switchJournal_29 : decode cX0_switchJournal 29 = .ok (.iconst 1, 1) := by decide +kernel
theorem dX0_switchJournal_30 : decode cX0_switchJournal 30 = .ok (.goto 4, 3) := by decide +kernel
theorem dX0_switchJournal_33 : decode cX0_switchJournal 33 = .ok (.iconst 0, 1) := by decide +kernel
theorem dX0_switchJournal_34 : decode cX0_switchJournal 34 = .ok (.istore_n 2, 1) := by decide +kernel
theorem dX0_switchJournal_35 : decode cX0_switchJournal 35 = .ok (.aload_n 0, 1) := by decide +kernel
theorem dX0_switchJournal_36 : decode cX0_switchJournal 36 = .ok (.iload_n 1, 1) := by decide +kernel
theorem dX0_switchJournal_37 : decode cX0_switchJournal 37 = .ok (.iconst 1, 1) := by decide +kernel
theorem dX0_switchJournal_38 : decode cX0_switchJournal 38 = .ok (.if_icmp .ne 7, 3) := by decide +kernel
theorem dX0_switchJournal_41 : decode cX0_switchJournal 41 = .ok (.iconst 1, 1) := by decide +kernel
theorem dX0_switchJournal_42 : decode cX0_switchJournal 42 = .ok (.goto 4, 3) := by decide +kernel
theorem dX0_switchJournal_45 : decode cX0_switchJournal 45 = .ok (.iconst 0, 1) := by decide +kernel
theorem dX0_switchJournal_46 : decode cX0_switchJournal 46 = .ok (.putfield 55, 3) := by decide +kernel
theorem dX0_switchJournal_49 : decode cX0_switchJournal 49 = .ok (.iload_n 2, 1) := by decide +kernel
theorem dX0_switchJournal_50 : decode cX0_switchJournal 50 = .ok (.ireturn, 1) := by decide +kernel
theorem dX0_begin_0 : decode cX0_begin 0 = .ok (.aload_n 0, 1) := by decide +kernel
theorem dX0_begin_1 : decode cX0_begin 1 = .ok (.iload_n 1, 1) := by decide +kernel
theorem dX0_begin_2 : decode cX0_begin 2 = .ok (.invokevirtual 79, 3) := by decide +kernel
theorem dX0_begin_5 : decode cX0_begin 5 = .ok (.ifCond .ne 5, 3) := by decide +kernel
theorem dX0_begin_8 : decode cX0_begin 8 = .ok (.iconst (-1), 1) := by decide +kernel
theorem dX0_begin_9 : decode cX0_begin 9 = .ok (.ireturn, 1) := by decide +kernel
theorem dX0_begin_10 : decode cX0_begin 10 = .ok (.aload_n 0, 1) := by decide +kernel
theorem dX0_begin_11 : decode cX0_begin 11 = .ok (.invokevirtual 91, 3) := by decide +kernel
theorem dX0_begin_14 : decode cX0_begin 14 = .ok (.ifCond .ne 11, 3) := by decide +kernel
theorem dX0_begin_17 : decode cX0_begin 17 = .ok (.iload_n 1, 1) := by decide +kernel
theorem dX0_begin_18 : decode cX0_begin 18 = .ok (.aload_n 0, 1) := by decide +kernel
theorem dX0_begin_19 : decode cX0_begin 19 = .ok (.getfield 36, 3) := by decide +kernel
theorem dX0_begin_22 : decode cX0_begin 22 = .ok (.if_icmp .ne 6, 3) := by decide +kernel
theorem dX0_begin_25 : decode cX0_begin 25 = .ok (.bipush (-3), 2) := by decide +kernel
theorem dX0_begin_27 : decode cX0_begin 27 = .ok (.ireturn, 1) := by decide +kernel
theorem dX0_begin_28 : decode cX0_begin 28 = .ok (.aload_n 0, 1) := by decide +kernel
theorem dX0_begin_29 : decode cX0_begin 29 = .ok (.iload_n 1, 1) := by decide +kernel
theorem dX0_begin_30 : decode cX0_begin 30 = .ok (.putfield 39, 3) := by decide +kernel
theorem dX0_begin_33 : decode cX0_begin 33 = .ok (.aload_n 0, 1) := by decide +kernel
theorem dX0_begin_34 : decode cX0_begin 34 = .ok (.iconst 1, 1) := by decide +kernel
theorem dX0_begin_35 : decode cX0_begin 35 = .ok (.putfield 42, 3) := by decide +kernel
theorem dX0_begin_38 : decode cX0_begin 38 = .ok (.aload_n 0, 1) := by decide +kernel
theorem dX0_begin_39 : decode cX0_begin 39 = .ok (.iconst 0, 1) := by decide +kernel
theorem dX0_begin_40 : decode cX0_begin 40 = .ok (.putfield 46, 3) := by decide +kernel
theorem dX0_begin_43 : decode cX0_begin 43 = .ok (.aload_n 0, 1) := by decide +kernel
theorem dX0_begin_44 : decode cX0_begin 44 = .ok (.invokevirtual 94, 3) := by decide +kernel
theorem dX0_begin_47 : decode cX0_begin 47 = .ok (.ireturn, 1) := by decide +kernel
theorem dX0_advance_0 : decode cX0_advance 0 = .ok (.iload_n 1, 1) := by decide +kernel
theorem dX0_advance_1 : decode cX0_advance 1 = .ok (.iconst 1, 1) := by decide +kernel
theorem dX0_advance_2 : decode cX0_advance 2 = .ok (.if_icmp .lt 10, 3) := by decide +kernel
theorem dX0_advance_5 : decode cX0_advance 5 = .ok (.iload_n 1, 1) := by decide +kernel
theorem dX0_advance_6 : decode cX0_advance 6 = .ok (.sipush 999, 3) := by decide +kernel
theorem dX0_advance_9 : decode cX0_advance 9 = .ok (.if_icmp .le 6, 3) := by decide +kernel
theorem dX0_advance_12 : decode cX0_advance 12 = .ok (.bipush (-2), 2) := by decide +kernel
theorem dX0_advance_14 : decode cX0_advance 14 = .ok (.ireturn, 1) := by decide +kernel
theorem dX0_advance_15 : decode cX0_advance 15 = .ok (.aload_n 0, 1) := by decide +kernel
theorem dX0_advance_16 : decode cX0_advance 16 = .ok (.invokevirtual 91, 3) := by decide +kernel
theorem dX0_advance_19 : decode cX0_advance 19 = .ok (.ifCond .ne 6, 3) := by decide +kernel
theorem dX0_advance_22 : decode cX0_advance 22 = .ok (.bipush (-3), 2) := by decide +kernel
theorem dX0_advance_24 : decode cX0_advance 24 = .ok (.ireturn, 1) := by decide +kernel
theorem dX0_advance_25 : decode cX0_advance 25 = .ok (.iconst 0, 1) := by decide +kernel
theorem dX0_advance_26 : decode cX0_advance 26 = .ok (.istore_n 2, 1) := by decide +kernel
theorem dX0_advance_27 : decode cX0_advance 27 = .ok (.iload_n 2, 1) := by decide +kernel
theorem dX0_advance_28 : decode cX0_advance 28 = .ok (.iload_n 1, 1) := by decide +kernel
theorem dX0_advance_29 : decode cX0_advance 29 = .ok (.if_icmp .ge 20, 3) := by decide +kernel
theorem dX0_advance_32 : decode cX0_advance 32 = .ok (.aload_n 0, 1) := by decide +kernel
theorem dX0_advance_33 : decode cX0_advance 33 = .ok (.invokevirtual 91, 3) := by decide +kernel
theorem dX0_advance_36 : decode cX0_advance 36 = .ok (.ifCond .eq 13, 3) := by decide +kernel
theorem dX0_advance_39 : decode cX0_advance 39 = .ok (.aload_n 0, 1) := by decide +kernel
theorem dX0_advance_40 : decode cX0_advance 40 = .ok (.invokevirtual 97, 3) := by decide +kernel
theorem dX0_advance_43 : decode cX0_advance 43 = .ok (.iinc 2 1, 3) := by decide +kernel
theorem dX0_advance_46 : decode cX0_advance 46 = .ok (.goto (-19), 3) := by decide +kernel
theorem dX0_advance_49 : decode cX0_advance 49 = .ok (.iload_n 2, 1) := by decide +kernel
theorem dX0_advance_50 : decode cX0_advance 50 = .ok (.ireturn, 1) := by decide +kernel
theorem dX0_turn_0 : decode cX0_turn 0 = .ok (.aload_n 0, 1) := by decide +kernel
theorem dX0_turn_1 : decode cX0_turn 1 = .ok (.invokevirtual 91, 3) := by decide +kernel
theorem dX0_turn_4 : decode cX0_turn 4 = .ok (.ifCond .eq 10, 3) := by decide +kernel
theorem dX0_turn_7 : decode cX0_turn 7 = .ok (.aload_n 0, 1) := by decide +kernel
theorem dX0_turn_8 : decode cX0_turn 8 = .ok (.invokevirtual 87, 3) := by decide +kernel
theorem dX0_turn_11 : decode cX0_turn 11 = .ok (.ifCond .eq 6, 3) := by decide +kernel
theorem dX0_turn_14 : decode cX0_turn 14 = .ok (.bipush (-3), 2) := by decide +kernel
theorem dX0_turn_16 : decode cX0_turn 16 = .ok (.ireturn, 1) := by decide +kernel
theorem dX0_turn_17 : decode cX0_turn 17 = .ok (.aload_n 0, 1) := by decide +kernel
theorem dX0_turn_18 : decode cX0_turn 18 = .ok (.aload_n 0, 1) := by decide +kernel
theorem dX0_turn_19 : decode cX0_turn 19 = .ok (.getfield 42, 3) := by decide +kernel
theorem dX0_turn_22 : decode cX0_turn 22 = .ok (.ifCond .ne 7, 3) := by decide +kernel
theorem dX0_turn_25 : decode cX0_turn 25 = .ok (.iconst 1, 1) := by decide +kernel
theorem dX0_turn_26 : decode cX0_turn 26 = .ok (.goto 4, 3) := by decide +kernel
theorem dX0_turn_29 : decode cX0_turn 29 = .ok (.iconst 0, 1) := by decide +kernel
theorem dX0_turn_30 : decode cX0_turn 30 = .ok (.putfield 42, 3) := by decide +kernel
theorem dX0_turn_33 : decode cX0_turn 33 = .ok (.aload_n 0, 1) := by decide +kernel
theorem dX0_turn_34 : decode cX0_turn 34 = .ok (.invokevirtual 100, 3) := by decide +kernel
theorem dX0_turn_37 : decode cX0_turn 37 = .ok (.aload_n 0, 1) := by decide +kernel
theorem dX0_turn_38 : decode cX0_turn 38 = .ok (.invokevirtual 94, 3) := by decide +kernel
theorem dX0_turn_41 : decode cX0_turn 41 = .ok (.ireturn, 1) := by decide +kernel
theorem dX0_put_0 : decode cX0_put 0 = .ok (.aload_n 0, 1) := by decide +kernel
theorem dX0_put_1 : decode cX0_put 1 = .ok (.iload_n 1, 1) := by decide +kernel
theorem dX0_put_2 : decode cX0_put 2 = .ok (.invokevirtual 103, 3) := by decide +kernel
theorem dX0_put_5 : decode cX0_put 5 = .ok (.ifCond .ne 5, 3) := by decide +kernel
theorem dX0_put_8 : decode cX0_put 8 = .ok (.iconst (-1), 1) := by decide +kernel
theorem dX0_put_9 : decode cX0_put 9 = .ok (.ireturn, 1) := by decide +kernel
theorem dX0_put_10 : decode cX0_put 10 = .ok (.iload_n 2, 1) := by decide +kernel
theorem dX0_put_11 : decode cX0_put 11 = .ok (.ifCond .lt 9, 3) := by decide +kernel
theorem dX0_put_14 : decode cX0_put 14 = .ok (.iload_n 2, 1) := by decide +kernel
theorem dX0_put_15 : decode cX0_put 15 = .ok (.ldc 78, 2) := by decide +kernel
theorem dX0_put_17 : decode cX0_put 17 = .ok (.if_icmp .le 6, 3) := by decide +kernel
theorem dX0_put_20 : decode cX0_put 20 = .ok (.bipush (-2), 2) := by decide +kernel
theorem dX0_put_22 : decode cX0_put 22 = .ok (.ireturn, 1) := by decide +kernel
theorem dX0_put_23 : decode cX0_put 23 = .ok (.aload_n 0, 1) := by decide +kernel
theorem dX0_put_24 : decode cX0_put 24 = .ok (.getfield 23, 3) := by decide +kernel
theorem dX0_put_27 : decode cX0_put 27 = .ok (.iload_n 1, 1) := by decide +kernel
theorem dX0_put_28 : decode cX0_put 28 = .ok (.invokevirtual 106, 3) := by decide +kernel
theorem dX0_put_31 : decode cX0_put 31 = .ok (.iconst (-1), 1) := by decide +kernel
theorem dX0_put_32 : decode cX0_put 32 = .ok (.if_icmp .ne 18, 3) := by decide +kernel
theorem dX0_put_35 : decode cX0_put 35 = .ok (.aload_n 0, 1) := by decide +kernel
theorem dX0_put_36 : decode cX0_put 36 = .ok (.getfield 23, 3) := by decide +kernel
theorem dX0_put_39 : decode cX0_put 39 = .ok (.invokevirtual 83, 3) := by decide +kernel
theorem dX0_put_42 : decode cX0_put 42 = .ok (.bipush 8, 2) := by decide +kernel
theorem dX0_put_44 : decode cX0_put 44 = .ok (.if_icmp .lt 6, 3) := by decide +kernel
theorem dX0_put_47 : decode cX0_put 47 = .ok (.bipush (-4), 2) := by decide +kernel
theorem dX0_put_49 : decode cX0_put 49 = .ok (.ireturn, 1) := by decide +kernel
theorem dX0_put_50 : decode cX0_put 50 = .ok (.aload_n 0, 1) := by decide +kernel
theorem dX0_put_51 : decode cX0_put 51 = .ok (.getfield 23, 3) := by decide +kernel
theorem dX0_put_54 : decode cX0_put 54 = .ok (.iload_n 1, 1) := by decide +kernel
theorem dX0_put_55 : decode cX0_put 55 = .ok (.iload_n 2, 1) := by decide +kernel
theorem dX0_put_56 : decode cX0_put 56 = .ok (.invokevirtual 64, 3) := by decide +kernel
theorem dX0_put_59 : decode cX0_put 59 = .ok (.aload_n 0, 1) := by decide +kernel
theorem dX0_put_60 : decode cX0_put 60 = .ok (.getfield 20, 3) := by decide +kernel
theorem dX0_put_63 : decode cX0_put 63 = .ok (.iload_n 1, 1) := by decide +kernel
theorem dX0_put_64 : decode cX0_put 64 = .ok (.iload_n 2, 1) := by decide +kernel
theorem dX0_put_65 : decode cX0_put 65 = .ok (.invokevirtual 64, 3) := by decide +kernel
theorem dX0_put_68 : decode cX0_put 68 = .ok (.aload_n 0, 1) := by decide +kernel
theorem dX0_put_69 : decode cX0_put 69 = .ok (.getfield 23, 3) := by decide +kernel
theorem dX0_put_72 : decode cX0_put 72 = .ok (.invokevirtual 83, 3) := by decide +kernel
theorem dX0_put_75 : decode cX0_put 75 = .ok (.ireturn, 1) := by decide +kernel
theorem dX0_flushCache_0 : decode cX0_flushCache 0 = .ok (.iconst 0, 1) := by decide +kernel
theorem dX0_flushCache_1 : decode cX0_flushCache 1 = .ok (.istore_n 1, 1) := by decide +kernel
theorem dX0_flushCache_2 : decode cX0_flushCache 2 = .ok (.iconst 0, 1) := by decide +kernel
theorem dX0_flushCache_3 : decode cX0_flushCache 3 = .ok (.istore_n 2, 1) := by decide +kernel
theorem dX0_flushCache_4 : decode cX0_flushCache 4 = .ok (.iload_n 2, 1) := by decide +kernel
theorem dX0_flushCache_5 : decode cX0_flushCache 5 = .ok (.aload_n 0, 1) := by decide +kernel
theorem dX0_flushCache_6 : decode cX0_flushCache 6 = .ok (.getfield 32, 3) := by decide +kernel
theorem dX0_flushCache_9 : decode cX0_flushCache 9 = .ok (.if_icmp .ge 42, 3) := by decide +kernel
theorem dX0_flushCache_12 : decode cX0_flushCache 12 = .ok (.aload_n 0, 1) := by decide +kernel
theorem dX0_flushCache_13 : decode cX0_flushCache 13 = .ok (.iload_n 2, 1) := by decide +kernel
theorem dX0_flushCache_14 : decode cX0_flushCache 14 = .ok (.invokevirtual 110, 3) := by decide +kernel
theorem dX0_flushCache_17 : decode cX0_flushCache 17 = .ok (.ifCond .eq 28, 3) := by decide +kernel
theorem dX0_flushCache_20 : decode cX0_flushCache 20 = .ok (.aload_n 0, 1) := by decide +kernel
theorem dX0_flushCache_21 : decode cX0_flushCache 21 = .ok (.getfield 14, 3) := by decide +kernel
theorem dX0_flushCache_24 : decode cX0_flushCache 24 = .ok (.iload_n 2, 1) := by decide +kernel
theorem dX0_flushCache_25 : decode cX0_flushCache 25 = .ok (.aload_n 0, 1) := by decide +kernel
theorem dX0_flushCache_26 : decode cX0_flushCache 26 = .ok (.iload_n 2, 1) := by decide +kernel
theorem dX0_flushCache_27 : decode cX0_flushCache 27 = .ok (.invokevirtual 113, 3) := by decide +kernel
theorem dX0_flushCache_30 : decode cX0_flushCache 30 = .ok (.invokevirtual 64, 3) := by decide +kernel
theorem dX0_flushCache_33 : decode cX0_flushCache 33 = .ok (.aload_n 0, 1) := by decide +kernel
theorem dX0_flushCache_34 : decode cX0_flushCache 34 = .ok (.getfield 23, 3) := by decide +kernel
theorem dX0_flushCache_37 : decode cX0_flushCache 37 = .ok (.iload_n 2, 1) := by decide +kernel
theorem dX0_flushCache_38 : decode cX0_flushCache 38 = .ok (.iconst (-1), 1) := by decide +kernel
theorem dX0_flushCache_39 : decode cX0_flushCache 39 = .ok (.invokevirtual 64, 3) := by decide +kernel
theorem dX0_flushCache_42 : decode cX0_flushCache 42 = .ok (.iinc 1 1, 3) := by decide +kernel
theorem dX0_flushCache_45 : decode cX0_flushCache 45 = .ok (.iinc 2 1, 3) := by decide +kernel
theorem dX0_flushCache_48 : decode cX0_flushCache 48 = .ok (.goto (-44), 3) := by decide +kernel
theorem dX0_flushCache_51 : decode cX0_flushCache 51 = .ok (.iload_n 1, 1) := by decide +kernel
theorem dX0_flushCache_52 : decode cX0_flushCache 52 = .ok (.ireturn, 1) := by decide +kernel
theorem dX0_losePower_0 : decode cX0_losePower 0 = .ok (.iconst 0, 1) := by decide +kernel
theorem dX0_losePower_1 : decode cX0_losePower 1 = .ok (.istore_n 1, 1) := by decide +kernel
theorem dX0_losePower_2 : decode cX0_losePower 2 = .ok (.iconst 0, 1) := by decide +kernel
theorem dX0_losePower_3 : decode cX0_losePower 3 = .ok (.istore_n 2, 1) := by decide +kernel
theorem dX0_losePower_4 : decode cX0_losePower 4 = .ok (.iload_n 2, 1) := by decide +kernel
theorem dX0_losePower_5 : decode cX0_losePower 5 = .ok (.aload_n 0, 1) := by decide +kernel
theorem dX0_losePower_6 : decode cX0_losePower 6 = .ok (.getfield 32, 3) := by decide +kernel
theorem dX0_losePower_9 : decode cX0_losePower 9 = .ok (.if_icmp .ge 25, 3) := by decide +kernel
theorem dX0_losePower_12 : decode cX0_losePower 12 = .ok (.aload_n 0, 1) := by decide +kernel
theorem dX0_losePower_13 : decode cX0_losePower 13 = .ok (.iload_n 2, 1) := by decide +kernel
theorem dX0_losePower_14 : decode cX0_losePower 14 = .ok (.invokevirtual 116, 3) := by decide +kernel
theorem dX0_losePower_17 : decode cX0_losePower 17 = .ok (.aload_n 0, 1) := by decide +kernel
theorem dX0_losePower_18 : decode cX0_losePower 18 = .ok (.iload_n 2, 1) := by decide +kernel
theorem dX0_losePower_19 : decode cX0_losePower 19 = .ok (.invokevirtual 119, 3) := by decide +kernel
theorem dX0_losePower_22 : decode cX0_losePower 22 = .ok (.if_icmp .eq 6, 3) := by decide +kernel
theorem dX0_losePower_25 : decode cX0_losePower 25 = .ok (.iinc 1 1, 3) := by decide +kernel
theorem dX0_losePower_28 : decode cX0_losePower 28 = .ok (.iinc 2 1, 3) := by decide +kernel
theorem dX0_losePower_31 : decode cX0_losePower 31 = .ok (.goto (-27), 3) := by decide +kernel
theorem dX0_losePower_34 : decode cX0_losePower 34 = .ok (.iconst 0, 1) := by decide +kernel
theorem dX0_losePower_35 : decode cX0_losePower 35 = .ok (.istore_n 2, 1) := by decide +kernel
theorem dX0_losePower_36 : decode cX0_losePower 36 = .ok (.iload_n 2, 1) := by decide +kernel
theorem dX0_losePower_37 : decode cX0_losePower 37 = .ok (.aload_n 0, 1) := by decide +kernel
theorem dX0_losePower_38 : decode cX0_losePower 38 = .ok (.getfield 32, 3) := by decide +kernel
theorem dX0_losePower_41 : decode cX0_losePower 41 = .ok (.if_icmp .ge 22, 3) := by decide +kernel
theorem dX0_losePower_44 : decode cX0_losePower 44 = .ok (.aload_n 0, 1) := by decide +kernel
theorem dX0_losePower_45 : decode cX0_losePower 45 = .ok (.getfield 14, 3) := by decide +kernel
theorem dX0_losePower_48 : decode cX0_losePower 48 = .ok (.iload_n 2, 1) := by decide +kernel
theorem dX0_losePower_49 : decode cX0_losePower 49 = .ok (.aload_n 0, 1) := by decide +kernel
theorem dX0_losePower_50 : decode cX0_losePower 50 = .ok (.iload_n 2, 1) := by decide +kernel
theorem dX0_losePower_51 : decode cX0_losePower 51 = .ok (.invokevirtual 122, 3) := by decide +kernel
theorem dX0_losePower_54 : decode cX0_losePower 54 = .ok (.invokevirtual 64, 3) := by decide +kernel
theorem dX0_losePower_57 : decode cX0_losePower 57 = .ok (.iinc 2 1, 3) := by decide +kernel
theorem dX0_losePower_60 : decode cX0_losePower 60 = .ok (.goto (-24), 3) := by decide +kernel
theorem dX0_losePower_63 : decode cX0_losePower 63 = .ok (.aload_n 0, 1) := by decide +kernel
theorem dX0_losePower_64 : decode cX0_losePower 64 = .ok (.getfield 23, 3) := by decide +kernel
theorem dX0_losePower_67 : decode cX0_losePower 67 = .ok (.invokevirtual 125, 3) := by decide +kernel
theorem dX0_losePower_70 : decode cX0_losePower 70 = .ok (.aload_n 0, 1) := by decide +kernel
theorem dX0_losePower_71 : decode cX0_losePower 71 = .ok (.invokevirtual 75, 3) := by decide +kernel
theorem dX0_losePower_74 : decode cX0_losePower 74 = .ok (.aload_n 0, 1) := by decide +kernel
theorem dX0_losePower_75 : decode cX0_losePower 75 = .ok (.dup, 1) := by decide +kernel
theorem dX0_losePower_76 : decode cX0_losePower 76 = .ok (.getfield 61, 3) := by decide +kernel
theorem dX0_losePower_79 : decode cX0_losePower 79 = .ok (.iconst 1, 1) := by decide +kernel
theorem dX0_losePower_80 : decode cX0_losePower 80 = .ok (.iadd, 1) := by decide +kernel
theorem dX0_losePower_81 : decode cX0_losePower 81 = .ok (.putfield 61, 3) := by decide +kernel
theorem dX0_losePower_84 : decode cX0_losePower 84 = .ok (.iload_n 1, 1) := by decide +kernel
theorem dX0_losePower_85 : decode cX0_losePower 85 = .ok (.ireturn, 1) := by decide +kernel
theorem dX0_hasSector_0 : decode cX0_hasSector 0 = .ok (.iload_n 1, 1) := by decide +kernel
theorem dX0_hasSector_1 : decode cX0_hasSector 1 = .ok (.ifCond .lt 15, 3) := by decide +kernel
theorem dX0_hasSector_4 : decode cX0_hasSector 4 = .ok (.iload_n 1, 1) := by decide +kernel
theorem dX0_hasSector_5 : decode cX0_hasSector 5 = .ok (.aload_n 0, 1) := by decide +kernel
theorem dX0_hasSector_6 : decode cX0_hasSector 6 = .ok (.getfield 32, 3) := by decide +kernel
theorem dX0_hasSector_9 : decode cX0_hasSector 9 = .ok (.if_icmp .ge 7, 3) := by decide +kernel
theorem dX0_hasSector_12 : decode cX0_hasSector 12 = .ok (.iconst 1, 1) := by decide +kernel
theorem dX0_hasSector_13 : decode cX0_hasSector 13 = .ok (.goto 4, 3) := by decide +kernel
theorem dX0_hasSector_16 : decode cX0_hasSector 16 = .ok (.iconst 0, 1) := by decide +kernel
theorem dX0_hasSector_17 : decode cX0_hasSector 17 = .ok (.ireturn, 1) := by decide +kernel
theorem dX0_hasKey_0 : decode cX0_hasKey 0 = .ok (.aload_n 0, 1) := by decide +kernel
theorem dX0_hasKey_1 : decode cX0_hasKey 1 = .ok (.getfield 29, 3) := by decide +kernel
theorem dX0_hasKey_4 : decode cX0_hasKey 4 = .ok (.iload_n 1, 1) := by decide +kernel
theorem dX0_hasKey_5 : decode cX0_hasKey 5 = .ok (.invokevirtual 106, 3) := by decide +kernel
theorem dX0_hasKey_8 : decode cX0_hasKey 8 = .ok (.iconst (-1), 1) := by decide +kernel
theorem dX0_hasKey_9 : decode cX0_hasKey 9 = .ok (.if_icmp .eq 7, 3) := by decide +kernel
theorem dX0_hasKey_12 : decode cX0_hasKey 12 = .ok (.iconst 1, 1) := by decide +kernel
theorem dX0_hasKey_13 : decode cX0_hasKey 13 = .ok (.goto 4, 3) := by decide +kernel
theorem dX0_hasKey_16 : decode cX0_hasKey 16 = .ok (.iconst 0, 1) := by decide +kernel
theorem dX0_hasKey_17 : decode cX0_hasKey 17 = .ok (.ireturn, 1) := by decide +kernel
theorem dX0_secretBehind_0 : decode cX0_secretBehind 0 = .ok (.aload_n 0, 1) := by decide +kernel
theorem dX0_secretBehind_1 : decode cX0_secretBehind 1 = .ok (.getfield 29, 3) := by decide +kernel
theorem dX0_secretBehind_4 : decode cX0_secretBehind 4 = .ok (.iload_n 1, 1) := by decide +kernel
theorem dX0_secretBehind_5 : decode cX0_secretBehind 5 = .ok (.invokevirtual 106, 3) := by decide +kernel
theorem dX0_secretBehind_8 : decode cX0_secretBehind 8 = .ok (.ireturn, 1) := by decide +kernel
theorem dX0_scrambledIn_0 : decode cX0_scrambledIn 0 = .ok (.aload_n 0, 1) := by decide +kernel
theorem dX0_scrambledIn_1 : decode cX0_scrambledIn 1 = .ok (.getfield 14, 3) := by decide +kernel
theorem dX0_scrambledIn_4 : decode cX0_scrambledIn 4 = .ok (.iload_n 1, 1) := by decide +kernel
theorem dX0_scrambledIn_5 : decode cX0_scrambledIn 5 = .ok (.invokevirtual 106, 3) := by decide +kernel
theorem dX0_scrambledIn_8 : decode cX0_scrambledIn 8 = .ok (.ireturn, 1) := by decide +kernel
theorem dX0_inJournal_0 : decode cX0_inJournal 0 = .ok (.aload_n 0, 1) := by decide +kernel
theorem dX0_inJournal_1 : decode cX0_inJournal 1 = .ok (.getfield 26, 3) := by decide +kernel
theorem dX0_inJournal_4 : decode cX0_inJournal 4 = .ok (.iload_n 1, 1) := by decide +kernel
theorem dX0_inJournal_5 : decode cX0_inJournal 5 = .ok (.invokevirtual 106, 3) := by decide +kernel
theorem dX0_inJournal_8 : decode cX0_inJournal 8 = .ok (.ireturn, 1) := by decide +kernel
theorem dX0_inCache_0 : decode cX0_inCache 0 = .ok (.aload_n 0, 1) := by decide +kernel
theorem dX0_inCache_1 : decode cX0_inCache 1 = .ok (.getfield 23, 3) := by decide +kernel
theorem dX0_inCache_4 : decode cX0_inCache 4 = .ok (.iload_n 1, 1) := by decide +kernel
theorem dX0_inCache_5 : decode cX0_inCache 5 = .ok (.invokevirtual 106, 3) := by decide +kernel
theorem dX0_inCache_8 : decode cX0_inCache 8 = .ok (.ireturn, 1) := by decide +kernel
theorem dX0_valueIn_0 : decode cX0_valueIn 0 = .ok (.aload_n 0, 1) := by decide +kernel
theorem dX0_valueIn_1 : decode cX0_valueIn 1 = .ok (.getfield 23, 3) := by decide +kernel
theorem dX0_valueIn_4 : decode cX0_valueIn 4 = .ok (.iload_n 1, 1) := by decide +kernel
theorem dX0_valueIn_5 : decode cX0_valueIn 5 = .ok (.invokevirtual 106, 3) := by decide +kernel
theorem dX0_valueIn_8 : decode cX0_valueIn 8 = .ok (.istore_n 2, 1) := by decide +kernel
theorem dX0_valueIn_9 : decode cX0_valueIn 9 = .ok (.iload_n 2, 1) := by decide +kernel
theorem dX0_valueIn_10 : decode cX0_valueIn 10 = .ok (.iconst (-1), 1) := by decide +kernel
theorem dX0_valueIn_11 : decode cX0_valueIn 11 = .ok (.if_icmp .eq 7, 3) := by decide +kernel
theorem dX0_valueIn_14 : decode cX0_valueIn 14 = .ok (.iload_n 2, 1) := by decide +kernel
theorem dX0_valueIn_15 : decode cX0_valueIn 15 = .ok (.goto 21, 3) := by decide +kernel
theorem dX0_valueIn_18 : decode cX0_valueIn 18 = .ok (.aload_n 0, 1) := by decide +kernel
theorem dX0_valueIn_19 : decode cX0_valueIn 19 = .ok (.aload_n 0, 1) := by decide +kernel
theorem dX0_valueIn_20 : decode cX0_valueIn 20 = .ok (.getfield 14, 3) := by decide +kernel
theorem dX0_valueIn_23 : decode cX0_valueIn 23 = .ok (.iload_n 1, 1) := by decide +kernel
theorem dX0_valueIn_24 : decode cX0_valueIn 24 = .ok (.invokevirtual 106, 3) := by decide +kernel
theorem dX0_valueIn_27 : decode cX0_valueIn 27 = .ok (.iload_n 1, 1) := by decide +kernel
theorem dX0_valueIn_28 : decode cX0_valueIn 28 = .ok (.aload_n 0, 1) := by decide +kernel
theorem dX0_valueIn_29 : decode cX0_valueIn 29 = .ok (.iload_n 1, 1) := by decide +kernel
theorem dX0_valueIn_30 : decode cX0_valueIn 30 = .ok (.invokevirtual 144, 3) := by decide +kernel
theorem dX0_valueIn_33 : decode cX0_valueIn 33 = .ok (.invokevirtual 147, 3) := by decide +kernel
theorem dX0_valueIn_36 : decode cX0_valueIn 36 = .ok (.ireturn, 1) := by decide +kernel
theorem dX0_keyAt_0 : decode cX0_keyAt 0 = .ok (.aload_n 0, 1) := by decide +kernel
theorem dX0_keyAt_1 : decode cX0_keyAt 1 = .ok (.invokevirtual 151, 3) := by decide +kernel
theorem dX0_keyAt_4 : decode cX0_keyAt 4 = .ok (.istore_n 2, 1) := by decide +kernel
theorem dX0_keyAt_5 : decode cX0_keyAt 5 = .ok (.iload_n 1, 1) := by decide +kernel
theorem dX0_keyAt_6 : decode cX0_keyAt 6 = .ok (.iload_n 2, 1) := by decide +kernel
theorem dX0_keyAt_7 : decode cX0_keyAt 7 = .ok (.if_icmp .lt 17, 3) := by decide +kernel
theorem dX0_keyAt_10 : decode cX0_keyAt 10 = .ok (.iload_n 1, 1) := by decide +kernel
theorem dX0_keyAt_11 : decode cX0_keyAt 11 = .ok (.iload_n 2, 1) := by decide +kernel
theorem dX0_keyAt_12 : decode cX0_keyAt 12 = .ok (.aload_n 0, 1) := by decide +kernel
theorem dX0_keyAt_13 : decode cX0_keyAt 13 = .ok (.getfield 49, 3) := by decide +kernel

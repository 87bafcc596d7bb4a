theorem dX0_keyAt_16 : decode cX0_keyAt 16 = .ok (.iadd, 1) := by decide +kernel
theorem dX0_keyAt_17 : decode cX0_keyAt 17 = .ok (.if_icmp .ge 7, 3) := by decide +kernel
theorem dX0_keyAt_20 : decode cX0_keyAt 20 = .ok (.iconst 1, 1) := by decide +kernel
theorem dX0_keyAt_21 : decode cX0_keyAt 21 = .ok (.goto 4, 3) := by decide +kernel
theorem dX0_keyAt_24 : decode cX0_keyAt 24 = .ok (.iconst 0, 1) := by decide +kernel
theorem dX0_keyAt_25 : decode cX0_keyAt 25 = .ok (.istore_n 3, 1) := by decide +kernel
theorem dX0_keyAt_26 : decode cX0_keyAt 26 = .ok (.iload_n 3, 1) := by decide +kernel
theorem dX0_keyAt_27 : decode cX0_keyAt 27 = .ok (.ifCond .eq 15, 3) := by decide +kernel
theorem dX0_keyAt_30 : decode cX0_keyAt 30 = .ok (.aload_n 0, 1) := by decide +kernel
theorem dX0_keyAt_31 : decode cX0_keyAt 31 = .ok (.aload_n 0, 1) := by decide +kernel
theorem dX0_keyAt_32 : decode cX0_keyAt 32 = .ok (.iload_n 1, 1) := by decide +kernel
theorem dX0_keyAt_33 : decode cX0_keyAt 33 = .ok (.invokevirtual 154, 3) := by decide +kernel
theorem dX0_keyAt_36 : decode cX0_keyAt 36 = .ok (.invokevirtual 157, 3) := by decide +kernel
theorem dX0_keyAt_39 : decode cX0_keyAt 39 = .ok (.goto 8, 3) := by decide +kernel
theorem dX0_keyAt_42 : decode cX0_keyAt 42 = .ok (.aload_n 0, 1) := by decide +kernel
theorem dX0_keyAt_43 : decode cX0_keyAt 43 = .ok (.iload_n 1, 1) := by decide +kernel
theorem dX0_keyAt_44 : decode cX0_keyAt 44 = .ok (.invokevirtual 154, 3) := by decide +kernel
theorem dX0_keyAt_47 : decode cX0_keyAt 47 = .ok (.ireturn, 1) := by decide +kernel
theorem dX0_keyByPosition_0 : decode cX0_keyByPosition 0 = .ok (.aload_n 0, 1) := by decide +kernel
theorem dX0_keyByPosition_1 : decode cX0_keyByPosition 1 = .ok (.invokevirtual 91, 3) := by decide +kernel
theorem dX0_keyByPosition_4 : decode cX0_keyByPosition 4 = .ok (.ifCond .eq 18, 3) := by decide +kernel
theorem dX0_keyByPosition_7 : decode cX0_keyByPosition 7 = .ok (.iload_n 1, 1) := by decide +kernel
theorem dX0_keyByPosition_8 : decode cX0_keyByPosition 8 = .ok (.aload_n 0, 1) := by decide +kernel
theorem dX0_keyByPosition_9 : decode cX0_keyByPosition 9 = .ok (.getfield 46, 3) := by decide +kernel
theorem dX0_keyByPosition_12 : decode cX0_keyByPosition 12 = .ok (.if_icmp .ge 10, 3) := by decide +kernel
theorem dX0_keyByPosition_15 : decode cX0_keyByPosition 15 = .ok (.aload_n 0, 1) := by decide +kernel
theorem dX0_keyByPosition_16 : decode cX0_keyByPosition 16 = .ok (.getfield 39, 3) := by decide +kernel
theorem dX0_keyByPosition_19 : decode cX0_keyByPosition 19 = .ok (.goto 7, 3) := by decide +kernel
theorem dX0_keyByPosition_22 : decode cX0_keyByPosition 22 = .ok (.aload_n 0, 1) := by decide +kernel
theorem dX0_keyByPosition_23 : decode cX0_keyByPosition 23 = .ok (.getfield 36, 3) := by decide +kernel
theorem dX0_keyByPosition_26 : decode cX0_keyByPosition 26 = .ok (.ireturn, 1) := by decide +kernel
theorem dX0_otherKey_0 : decode cX0_otherKey 0 = .ok (.iload_n 1, 1) := by decide +kernel
theorem dX0_otherKey_1 : decode cX0_otherKey 1 = .ok (.aload_n 0, 1) := by decide +kernel
theorem dX0_otherKey_2 : decode cX0_otherKey 2 = .ok (.getfield 36, 3) := by decide +kernel
theorem dX0_otherKey_5 : decode cX0_otherKey 5 = .ok (.if_icmp .ne 10, 3) := by decide +kernel
theorem dX0_otherKey_8 : decode cX0_otherKey 8 = .ok (.aload_n 0, 1) := by decide +kernel
theorem dX0_otherKey_9 : decode cX0_otherKey 9 = .ok (.getfield 39, 3) := by decide +kernel
theorem dX0_otherKey_12 : decode cX0_otherKey 12 = .ok (.goto 7, 3) := by decide +kernel
theorem dX0_otherKey_15 : decode cX0_otherKey 15 = .ok (.aload_n 0, 1) := by decide +kernel
theorem dX0_otherKey_16 : decode cX0_otherKey 16 = .ok (.getfield 36, 3) := by decide +kernel
theorem dX0_otherKey_19 : decode cX0_otherKey 19 = .ok (.ireturn, 1) := by decide +kernel
theorem dX0_exchange_0 : decode cX0_exchange 0 = .ok (.ldc 160, 2) := by decide +kernel
theorem dX0_exchange_2 : decode cX0_exchange 2 = .ok (.aload_n 0, 1) := by decide +kernel
theorem dX0_exchange_3 : decode cX0_exchange 3 = .ok (.getfield 29, 3) := by decide +kernel
theorem dX0_exchange_6 : decode cX0_exchange 6 = .ok (.iload_n 3, 1) := by decide +kernel
theorem dX0_exchange_7 : decode cX0_exchange 7 = .ok (.invokevirtual 106, 3) := by decide +kernel
theorem dX0_exchange_10 : decode cX0_exchange 10 = .ok (.imul, 1) := by decide +kernel
theorem dX0_exchange_11 : decode cX0_exchange 11 = .ok (.sipush 30011, 3) := by decide +kernel
theorem dX0_exchange_14 : decode cX0_exchange 14 = .ok (.iload_n 2, 1) := by decide +kernel
theorem dX0_exchange_15 : decode cX0_exchange 15 = .ok (.imul, 1) := by decide +kernel
theorem dX0_exchange_16 : decode cX0_exchange 16 = .ok (.iadd, 1) := by decide +kernel
theorem dX0_exchange_17 : decode cX0_exchange 17 = .ok (.sipush 12345, 3) := by decide +kernel
theorem dX0_exchange_20 : decode cX0_exchange 20 = .ok (.iadd, 1) := by decide +kernel
theorem dX0_exchange_21 : decode cX0_exchange 21 = .ok (.istore 4, 2) := by decide +kernel
theorem dX0_exchange_23 : decode cX0_exchange 23 = .ok (.iload_n 1, 1) := by decide +kernel
theorem dX0_exchange_24 : decode cX0_exchange 24 = .ok (.iload 4, 2) := by decide +kernel
theorem dX0_exchange_26 : decode cX0_exchange 26 = .ok (.ldc 78, 2) := by decide +kernel
theorem dX0_exchange_28 : decode cX0_exchange 28 = .ok (.iand, 1) := by decide +kernel
theorem dX0_exchange_29 : decode cX0_exchange 29 = .ok (.ixor, 1) := by decide +kernel
theorem dX0_exchange_30 : decode cX0_exchange 30 = .ok (.ireturn, 1) := by decide +kernel
theorem dX0_fillWithZeros_0 : decode cX0_fillWithZeros 0 = .ok (.aload_n 0, 1) := by decide +kernel
theorem dX0_fillWithZeros_1 : decode cX0_fillWithZeros 1 = .ok (.getfield 23, 3) := by decide +kernel
theorem dX0_fillWithZeros_4 : decode cX0_fillWithZeros 4 = .ok (.invokevirtual 125, 3) := by decide +kernel
theorem dX0_fillWithZeros_7 : decode cX0_fillWithZeros 7 = .ok (.iconst 0, 1) := by decide +kernel
theorem dX0_fillWithZeros_8 : decode cX0_fillWithZeros 8 = .ok (.istore_n 1, 1) := by decide +kernel
theorem dX0_fillWithZeros_9 : decode cX0_fillWithZeros 9 = .ok (.iload_n 1, 1) := by decide +kernel
theorem dX0_fillWithZeros_10 : decode cX0_fillWithZeros 10 = .ok (.aload_n 0, 1) := by decide +kernel
theorem dX0_fillWithZeros_11 : decode cX0_fillWithZeros 11 = .ok (.getfield 32, 3) := by decide +kernel
theorem dX0_fillWithZeros_14 : decode cX0_fillWithZeros 14 = .ok (.if_icmp .ge 36, 3) := by decide +kernel
theorem dX0_fillWithZeros_17 : decode cX0_fillWithZeros 17 = .ok (.aload_n 0, 1) := by decide +kernel
theorem dX0_fillWithZeros_18 : decode cX0_fillWithZeros 18 = .ok (.getfield 14, 3) := by decide +kernel
theorem dX0_fillWithZeros_21 : decode cX0_fillWithZeros 21 = .ok (.iload_n 1, 1) := by decide +kernel
theorem dX0_fillWithZeros_22 : decode cX0_fillWithZeros 22 = .ok (.aload_n 0, 1) := by decide +kernel
theorem dX0_fillWithZeros_23 : decode cX0_fillWithZeros 23 = .ok (.iconst 0, 1) := by decide +kernel
theorem dX0_fillWithZeros_24 : decode cX0_fillWithZeros 24 = .ok (.iload_n 1, 1) := by decide +kernel
theorem dX0_fillWithZeros_25 : decode cX0_fillWithZeros 25 = .ok (.aload_n 0, 1) := by decide +kernel
theorem dX0_fillWithZeros_26 : decode cX0_fillWithZeros 26 = .ok (.getfield 36, 3) := by decide +kernel
theorem dX0_fillWithZeros_29 : decode cX0_fillWithZeros 29 = .ok (.invokevirtual 147, 3) := by decide +kernel
theorem dX0_fillWithZeros_32 : decode cX0_fillWithZeros 32 = .ok (.invokevirtual 64, 3) := by decide +kernel
theorem dX0_fillWithZeros_35 : decode cX0_fillWithZeros 35 = .ok (.aload_n 0, 1) := by decide +kernel
theorem dX0_fillWithZeros_36 : decode cX0_fillWithZeros 36 = .ok (.getfield 20, 3) := by decide +kernel
theorem dX0_fillWithZeros_39 : decode cX0_fillWithZeros 39 = .ok (.iload_n 1, 1) := by decide +kernel
theorem dX0_fillWithZeros_40 : decode cX0_fillWithZeros 40 = .ok (.iconst 0, 1) := by decide +kernel
theorem dX0_fillWithZeros_41 : decode cX0_fillWithZeros 41 = .ok (.invokevirtual 64, 3) := by decide +kernel
theorem dX0_fillWithZeros_44 : decode cX0_fillWithZeros 44 = .ok (.iinc 1 1, 3) := by decide +kernel
theorem dX0_fillWithZeros_47 : decode cX0_fillWithZeros 47 = .ok (.goto (-38), 3) := by decide +kernel
theorem dX0_fillWithZeros_50 : decode cX0_fillWithZeros 50 = .ok (.return_, 1) := by decide +kernel
theorem dX0_isRekeying_0 : decode cX0_isRekeying 0 = .ok (.aload_n 0, 1) := by decide +kernel
theorem dX0_isRekeying_1 : decode cX0_isRekeying 1 = .ok (.getfield 39, 3) := by decide +kernel
theorem dX0_isRekeying_4 : decode cX0_isRekeying 4 = .ok (.ifCond .eq 7, 3) := by decide +kernel
theorem dX0_isRekeying_7 : decode cX0_isRekeying 7 = .ok (.iconst 1, 1) := by decide +kernel
theorem dX0_isRekeying_8 : decode cX0_isRekeying 8 = .ok (.goto 4, 3) := by decide +kernel
theorem dX0_isRekeying_11 : decode cX0_isRekeying 11 = .ok (.iconst 0, 1) := by decide +kernel
theorem dX0_isRekeying_12 : decode cX0_isRekeying 12 = .ok (.ireturn, 1) := by decide +kernel
theorem dX0_zoneFirst_0 : decode cX0_zoneFirst 0 = .ok (.aload_n 0, 1) := by decide +kernel
theorem dX0_zoneFirst_1 : decode cX0_zoneFirst 1 = .ok (.getfield 42, 3) := by decide +kernel
theorem dX0_zoneFirst_4 : decode cX0_zoneFirst 4 = .ok (.ifCond .eq 10, 3) := by decide +kernel
theorem dX0_zoneFirst_7 : decode cX0_zoneFirst 7 = .ok (.aload_n 0, 1) := by decide +kernel
theorem dX0_zoneFirst_8 : decode cX0_zoneFirst 8 = .ok (.getfield 46, 3) := by decide +kernel
theorem dX0_zoneFirst_11 : decode cX0_zoneFirst 11 = .ok (.goto 16, 3) := by decide +kernel
theorem dX0_zoneFirst_14 : decode cX0_zoneFirst 14 = .ok (.iconst 0, 1) := by decide +kernel
theorem dX0_zoneFirst_15 : decode cX0_zoneFirst 15 = .ok (.aload_n 0, 1) := by decide +kernel
theorem dX0_zoneFirst_16 : decode cX0_zoneFirst 16 = .ok (.getfield 46, 3) := by decide +kernel
theorem dX0_zoneFirst_19 : decode cX0_zoneFirst 19 = .ok (.aload_n 0, 1) := by decide +kernel
theorem dX0_zoneFirst_20 : decode cX0_zoneFirst 20 = .ok (.getfield 52, 3) := by decide +kernel
theorem dX0_zoneFirst_23 : decode cX0_zoneFirst 23 = .ok (.isub, 1) := by decide +kernel
theorem dX0_zoneFirst_24 : decode cX0_zoneFirst 24 = .ok (.invokestatic 161, 3) := by decide +kernel
theorem dX0_zoneFirst_27 : decode cX0_zoneFirst 27 = .ok (.ireturn, 1) := by decide +kernel
theorem dX0_zoneEnd_0 : decode cX0_zoneEnd 0 = .ok (.aload_n 0, 1) := by decide +kernel
theorem dX0_zoneEnd_1 : decode cX0_zoneEnd 1 = .ok (.getfield 42, 3) := by decide +kernel
theorem dX0_zoneEnd_4 : decode cX0_zoneEnd 4 = .ok (.ifCond .eq 22, 3) := by decide +kernel
theorem dX0_zoneEnd_7 : decode cX0_zoneEnd 7 = .ok (.aload_n 0, 1) := by decide +kernel
theorem dX0_zoneEnd_8 : decode cX0_zoneEnd 8 = .ok (.getfield 32, 3) := by decide +kernel
theorem dX0_zoneEnd_11 : decode cX0_zoneEnd 11 = .ok (.aload_n 0, 1) := by decide +kernel
theorem dX0_zoneEnd_12 : decode cX0_zoneEnd 12 = .ok (.getfield 46, 3) := by decide +kernel
theorem dX0_zoneEnd_15 : decode cX0_zoneEnd 15 = .ok (.aload_n 0, 1) := by decide +kernel
theorem dX0_zoneEnd_16 : decode cX0_zoneEnd 16 = .ok (.getfield 52, 3) := by decide +kernel
theorem dX0_zoneEnd_19 : decode cX0_zoneEnd 19 = .ok (.iadd, 1) := by decide +kernel
theorem dX0_zoneEnd_20 : decode cX0_zoneEnd 20 = .ok (.invokestatic 166, 3) := by decide +kernel
theorem dX0_zoneEnd_23 : decode cX0_zoneEnd 23 = .ok (.goto 7, 3) := by decide +kernel
theorem dX0_zoneEnd_26 : decode cX0_zoneEnd 26 = .ok (.aload_n 0, 1) := by decide +kernel
theorem dX0_zoneEnd_27 : decode cX0_zoneEnd 27 = .ok (.getfield 46, 3) := by decide +kernel
theorem dX0_zoneEnd_30 : decode cX0_zoneEnd 30 = .ok (.ireturn, 1) := by decide +kernel
theorem dX0_isZoneOpen_0 : decode cX0_isZoneOpen 0 = .ok (.aload_n 0, 1) := by decide +kernel
theorem dX0_isZoneOpen_1 : decode cX0_isZoneOpen 1 = .ok (.getfield 49, 3) := by decide +kernel
theorem dX0_isZoneOpen_4 : decode cX0_isZoneOpen 4 = .ok (.ifCond .gt 13, 3) := by decide +kernel
theorem dX0_isZoneOpen_7 : decode cX0_isZoneOpen 7 = .ok (.aload_n 0, 1) := by decide +kernel
theorem dX0_isZoneOpen_8 : decode cX0_isZoneOpen 8 = .ok (.getfield 26, 3) := by decide +kernel
theorem dX0_isZoneOpen_11 : decode cX0_isZoneOpen 11 = .ok (.invokevirtual 83, 3) := by decide +kernel
theorem dX0_isZoneOpen_14 : decode cX0_isZoneOpen 14 = .ok (.ifCond .le 7, 3) := by decide +kernel
theorem dX0_isZoneOpen_17 : decode cX0_isZoneOpen 17 = .ok (.iconst 1, 1) := by decide +kernel
theorem dX0_isZoneOpen_18 : decode cX0_isZoneOpen 18 = .ok (.goto 4, 3) := by decide +kernel
theorem dX0_isZoneOpen_21 : decode cX0_isZoneOpen 21 = .ok (.iconst 0, 1) := by decide +kernel
theorem dX0_isZoneOpen_22 : decode cX0_isZoneOpen 22 = .ok (.ireturn, 1) := by decide +kernel
theorem dX0_needsJournal_0 : decode cX0_needsJournal 0 = .ok (.aload_n 0, 1) := by decide +kernel
theorem dX0_needsJournal_1 : decode cX0_needsJournal 1 = .ok (.getfield 55, 3) := by decide +kernel
theorem dX0_needsJournal_4 : decode cX0_needsJournal 4 = .ok (.ifCond .eq 14, 3) := by decide +kernel
theorem dX0_needsJournal_7 : decode cX0_needsJournal 7 = .ok (.aload_n 0, 1) := by decide +kernel
theorem dX0_needsJournal_8 : decode cX0_needsJournal 8 = .ok (.invokevirtual 87, 3) := by decide +kernel
theorem dX0_needsJournal_11 : decode cX0_needsJournal 11 = .ok (.ifCond .ne 7, 3) := by decide +kernel
theorem dX0_needsJournal_14 : decode cX0_needsJournal 14 = .ok (.iconst 1, 1) := by decide +kernel
theorem dX0_needsJournal_15 : decode cX0_needsJournal 15 = .ok (.goto 4, 3) := by decide +kernel
theorem dX0_needsJournal_18 : decode cX0_needsJournal 18 = .ok (.iconst 0, 1) := by decide +kernel
theorem dX0_needsJournal_19 : decode cX0_needsJournal 19 = .ok (.ireturn, 1) := by decide +kernel
theorem dX0_makeStep_0 : decode cX0_makeStep 0 = .ok (.aload_n 0, 1) := by decide +kernel
theorem dX0_makeStep_1 : decode cX0_makeStep 1 = .ok (.invokevirtual 169, 3) := by decide +kernel
theorem dX0_makeStep_4 : decode cX0_makeStep 4 = .ok (.ifCond .eq 41, 3) := by decide +kernel
theorem dX0_makeStep_7 : decode cX0_makeStep 7 = .ok (.aload_n 0, 1) := by decide +kernel
theorem dX0_makeStep_8 : decode cX0_makeStep 8 = .ok (.invokevirtual 151, 3) := by decide +kernel
theorem dX0_makeStep_11 : decode cX0_makeStep 11 = .ok (.istore_n 1, 1) := by decide +kernel
theorem dX0_makeStep_12 : decode cX0_makeStep 12 = .ok (.iload_n 1, 1) := by decide +kernel
theorem dX0_makeStep_13 : decode cX0_makeStep 13 = .ok (.aload_n 0, 1) := by decide +kernel
theorem dX0_makeStep_14 : decode cX0_makeStep 14 = .ok (.invokevirtual 172, 3) := by decide +kernel
theorem dX0_makeStep_17 : decode cX0_makeStep 17 = .ok (.if_icmp .ge 25, 3) := by decide +kernel
theorem dX0_makeStep_20 : decode cX0_makeStep 20 = .ok (.aload_n 0, 1) := by decide +kernel
theorem dX0_makeStep_21 : decode cX0_makeStep 21 = .ok (.getfield 26, 3) := by decide +kernel
theorem dX0_makeStep_24 : decode cX0_makeStep 24 = .ok (.iload_n 1, 1) := by decide +kernel
theorem dX0_makeStep_25 : decode cX0_makeStep 25 = .ok (.aload_n 0, 1) := by decide +kernel
theorem dX0_makeStep_26 : decode cX0_makeStep 26 = .ok (.getfield 14, 3) := by decide +kernel
theorem dX0_makeStep_29 : decode cX0_makeStep 29 = .ok (.iload_n 1, 1) := by decide +kernel
theorem dX0_makeStep_30 : decode cX0_makeStep 30 = .ok (.invokevirtual 106, 3) := by decide +kernel
theorem dX0_makeStep_33 : decode cX0_makeStep 33 = .ok (.invokevirtual 64, 3) := by decide +kernel
theorem dX0_makeStep_36 : decode cX0_makeStep 36 = .ok (.iinc 1 1, 3) := by decide +kernel
theorem dX0_makeStep_39 : decode cX0_makeStep 39 = .ok (.goto (-27), 3) := by decide +kernel
theorem dX0_makeStep_42 : decode cX0_makeStep 42 = .ok (.goto 65, 3) := by decide +kernel
theorem dX0_makeStep_45 : decode cX0_makeStep 45 = .ok (.aload_n 0, 1) := by decide +kernel
theorem dX0_makeStep_46 : decode cX0_makeStep 46 = .ok (.invokevirtual 151, 3) := by decide +kernel
theorem dX0_makeStep_49 : decode cX0_makeStep 49 = .ok (.aload_n 0, 1) := by decide +kernel
theorem dX0_makeStep_50 : decode cX0_makeStep 50 = .ok (.getfield 49, 3) := by decide +kernel
theorem dX0_makeStep_53 : decode cX0_makeStep 53 = .ok (.iadd, 1) := by decide +kernel
theorem dX0_makeStep_54 : decode cX0_makeStep 54 = .ok (.aload_n 0, 1) := by decide +kernel
theorem dX0_makeStep_55 : decode cX0_makeStep 55 = .ok (.invokevirtual 172, 3) := by decide +kernel
theorem dX0_makeStep_58 : decode cX0_makeStep 58 = .ok (.if_icmp .ge 19, 3) := by decide +kernel
theorem dX0_makeStep_61 : decode cX0_makeStep 61 = .ok (.aload_n 0, 1) := by decide +kernel
theorem dX0_makeStep_62 : decode cX0_makeStep 62 = .ok (.aload_n 0, 1) := by decide +kernel
theorem dX0_makeStep_63 : decode cX0_makeStep 63 = .ok (.invokevirtual 151, 3) := by decide +kernel
theorem dX0_makeStep_66 : decode cX0_makeStep 66 = .ok (.aload_n 0, 1) := by decide +kernel
theorem dX0_makeStep_67 : decode cX0_makeStep 67 = .ok (.getfield 49, 3) := by decide +kernel
theorem dX0_makeStep_70 : decode cX0_makeStep 70 = .ok (.iadd, 1) := by decide +kernel
theorem dX0_makeStep_71 : decode cX0_makeStep 71 = .ok (.invokevirtual 175, 3) := by decide +kernel
theorem dX0_makeStep_74 : decode cX0_makeStep 74 = .ok (.goto 33, 3) := by decide +kernel
theorem dX0_makeStep_77 : decode cX0_makeStep 77 = .ok (.aload_n 0, 1) := by decide +kernel
theorem dX0_makeStep_78 : decode cX0_makeStep 78 = .ok (.aload_n 0, 1) := by decide +kernel
theorem dX0_makeStep_79 : decode cX0_makeStep 79 = .ok (.getfield 42, 3) := by decide +kernel
theorem dX0_makeStep_82 : decode cX0_makeStep 82 = .ok (.ifCond .eq 10, 3) := by decide +kernel
theorem dX0_makeStep_85 : decode cX0_makeStep 85 = .ok (.aload_n 0, 1) := by decide +kernel
theorem dX0_makeStep_86 : decode cX0_makeStep 86 = .ok (.invokevirtual 172, 3) := by decide +kernel
theorem dX0_makeStep_89 : decode cX0_makeStep 89 = .ok (.goto 7, 3) := by decide +kernel
theorem dX0_makeStep_92 : decode cX0_makeStep 92 = .ok (.aload_n 0, 1) := by decide +kernel
theorem dX0_makeStep_93 : decode cX0_makeStep 93 = .ok (.invokevirtual 151, 3) := by decide +kernel
theorem dX0_makeStep_96 : decode cX0_makeStep 96 = .ok (.putfield 46, 3) := by decide +kernel
theorem dX0_makeStep_99 : decode cX0_makeStep 99 = .ok (.aload_n 0, 1) := by decide +kernel
theorem dX0_makeStep_100 : decode cX0_makeStep 100 = .ok (.invokevirtual 75, 3) := by decide +kernel
theorem dX0_makeStep_103 : decode cX0_makeStep 103 = .ok (.aload_n 0, 1) := by decide +kernel
theorem dX0_makeStep_104 : decode cX0_makeStep 104 = .ok (.invokevirtual 100, 3) := by decide +kernel
theorem dX0_makeStep_107 : decode cX0_makeStep 107 = .ok (.return_, 1) := by decide +kernel
theorem dX0_rewriteNext_0 : decode cX0_rewriteNext 0 = .ok (.aload_n 0, 1) := by decide +kernel
theorem dX0_rewriteNext_1 : decode cX0_rewriteNext 1 = .ok (.iload_n 1, 1) := by decide +kernel
theorem dX0_rewriteNext_2 : decode cX0_rewriteNext 2 = .ok (.invokevirtual 154, 3) := by decide +kernel
theorem dX0_rewriteNext_5 : decode cX0_rewriteNext 5 = .ok (.istore_n 2, 1) := by decide +kernel
theorem dX0_rewriteNext_6 : decode cX0_rewriteNext 6 = .ok (.aload_n 0, 1) := by decide +kernel
theorem dX0_rewriteNext_7 : decode cX0_rewriteNext 7 = .ok (.aload_n 0, 1) := by decide +kernel
theorem dX0_rewriteNext_8 : decode cX0_rewriteNext 8 = .ok (.getfield 14, 3) := by decide +kernel
theorem dX0_rewriteNext_11 : decode cX0_rewriteNext 11 = .ok (.iload_n 1, 1) := by decide +kernel
theorem dX0_rewriteNext_12 : decode cX0_rewriteNext 12 = .ok (.invokevirtual 106, 3) := by decide +kernel
theorem dX0_rewriteNext_15 : decode cX0_rewriteNext 15 = .ok (.iload_n 1, 1) := by decide +kernel
theorem dX0_rewriteNext_16 : decode cX0_rewriteNext 16 = .ok (.iload_n 2, 1) := by decide +kernel
theorem dX0_rewriteNext_17 : decode cX0_rewriteNext 17 = .ok (.invokevirtual 147, 3) := by decide +kernel
theorem dX0_rewriteNext_20 : decode cX0_rewriteNext 20 = .ok (.istore_n 3, 1) := by decide +kernel
theorem dX0_rewriteNext_21 : decode cX0_rewriteNext 21 = .ok (.aload_n 0, 1) := by decide +kernel
theorem dX0_rewriteNext_22 : decode cX0_rewriteNext 22 = .ok (.getfield 14, 3) := by decide +kernel
theorem dX0_rewriteNext_25 : decode cX0_rewriteNext 25 = .ok (.iload_n 1, 1) := by decide +kernel
theorem dX0_rewriteNext_26 : decode cX0_rewriteNext 26 = .ok (.aload_n 0, 1) := by decide +kernel
theorem dX0_rewriteNext_27 : decode cX0_rewriteNext 27 = .ok (.iload_n 3, 1) := by decide +kernel
theorem dX0_rewriteNext_28 : decode cX0_rewriteNext 28 = .ok (.iload_n 1, 1) := by decide +kernel
theorem dX0_rewriteNext_29 : decode cX0_rewriteNext 29 = .ok (.aload_n 0, 1) := by decide +kernel
theorem dX0_rewriteNext_30 : decode cX0_rewriteNext 30 = .ok (.iload_n 2, 1) := by decide +kernel
theorem dX0_rewriteNext_31 : decode cX0_rewriteNext 31 = .ok (.invokevirtual 157, 3) := by decide +kernel
theorem dX0_rewriteNext_34 : decode cX0_rewriteNext 34 = .ok (.invokevirtual 147, 3) := by decide +kernel
theorem dX0_rewriteNext_37 : decode cX0_rewriteNext 37 = .ok (.invokevirtual 64, 3) := by decide +kernel
theorem dX0_rewriteNext_40 : decode cX0_rewriteNext 40 = .ok (.aload_n 0, 1) := by decide +kernel
theorem dX0_rewriteNext_41 : decode cX0_rewriteNext 41 = .ok (.dup, 1) := by decide +kernel
theorem dX0_rewriteNext_42 : decode cX0_rewriteNext 42 = .ok (.getfield 49, 3) := by decide +kernel
theorem dX0_rewriteNext_45 : decode cX0_rewriteNext 45 = .ok (.iconst 1, 1) := by decide +kernel
theorem dX0_rewriteNext_46 : decode cX0_rewriteNext 46 = .ok (.iadd, 1) := by decide +kernel
theorem dX0_rewriteNext_47 : decode cX0_rewriteNext 47 = .ok (.putfield 49, 3) := by decide +kernel
theorem dX0_rewriteNext_50 : decode cX0_rewriteNext 50 = .ok (.return_, 1) := by decide +kernel
theorem dX0_closeZone_0 : decode cX0_closeZone 0 = .ok (.aload_n 0, 1) := by decide +kernel
theorem dX0_closeZone_1 : decode cX0_closeZone 1 = .ok (.getfield 26, 3) := by decide +kernel
theorem dX0_closeZone_4 : decode cX0_closeZone 4 = .ok (.invokevirtual 125, 3) := by decide +kernel
theorem dX0_closeZone_7 : decode cX0_closeZone 7 = .ok (.aload_n 0, 1) := by decide +kernel
theorem dX0_closeZone_8 : decode cX0_closeZone 8 = .ok (.iconst 0, 1) := by decide +kernel
theorem dX0_closeZone_9 : decode cX0_closeZone 9 = .ok (.putfield 49, 3) := by decide +kernel
theorem dX0_closeZone_12 : decode cX0_closeZone 12 = .ok (.return_, 1) := by decide +kernel
theorem dX0_endIfThrough_0 : decode cX0_endIfThrough 0 = .ok (.aload_n 0, 1) := by decide +kernel
theorem dX0_endIfThrough_1 : decode cX0_endIfThrough 1 = .ok (.getfield 42, 3) := by decide +kernel
theorem dX0_endIfThrough_4 : decode cX0_endIfThrough 4 = .ok (.ifCond .eq 40, 3) := by decide +kernel
theorem dX0_endIfThrough_7 : decode cX0_endIfThrough 7 = .ok (.aload_n 0, 1) := by decide +kernel
theorem dX0_endIfThrough_8 : decode cX0_endIfThrough 8 = .ok (.getfield 46, 3) := by decide +kernel
theorem dX0_endIfThrough_11 : decode cX0_endIfThrough 11 = .ok (.aload_n 0, 1) := by decide +kernel
theorem dX0_endIfThrough_12 : decode cX0_endIfThrough 12 = .ok (.getfield 32, 3) := by decide +kernel
theorem dX0_endIfThrough_15 : decode cX0_endIfThrough 15 = .ok (.if_icmp .lt 29, 3) := by decide +kernel
theorem dX0_endIfThrough_18 : decode cX0_endIfThrough 18 = .ok (.aload_n 0, 1) := by decide +kernel
theorem dX0_endIfThrough_19 : decode cX0_endIfThrough 19 = .ok (.aload_n 0, 1) := by decide +kernel
theorem dX0_endIfThrough_20 : decode cX0_endIfThrough 20 = .ok (.getfield 39, 3) := by decide +kernel
theorem dX0_endIfThrough_23 : decode cX0_endIfThrough 23 = .ok (.putfield 36, 3) := by decide +kernel
theorem dX0_endIfThrough_26 : decode cX0_endIfThrough 26 = .ok (.aload_n 0, 1) := by decide +kernel
theorem dX0_endIfThrough_27 : decode cX0_endIfThrough 27 = .ok (.dup, 1) := by decide +kernel
theorem dX0_endIfThrough_28 : decode cX0_endIfThrough 28 = .ok (.getfield 58, 3) := by decide +kernel
theorem dX0_endIfThrough_31 : decode cX0_endIfThrough 31 = .ok (.iconst 1, 1) := by decide +kernel
theorem dX0_endIfThrough_32 : decode cX0_endIfThrough 32 = .ok (.iadd, 1) := by decide +kernel
theorem dX0_endIfThrough_33 : decode cX0_endIfThrough 33 = .ok (.putfield 58, 3) := by decide +kernel
theorem dX0_endIfThrough_36 : decode cX0_endIfThrough 36 = .ok (.aload_n 0, 1) := by decide +kernel
theorem dX0_endIfThrough_37 : decode cX0_endIfThrough 37 = .ok (.iconst 0, 1) := by decide +kernel
theorem dX0_endIfThrough_38 : decode cX0_endIfThrough 38 = .ok (.putfield 39, 3) := by decide +kernel
theorem dX0_endIfThrough_41 : decode cX0_endIfThrough 41 = .ok (.goto 22, 3) := by decide +kernel
theorem dX0_endIfThrough_44 : decode cX0_endIfThrough 44 = .ok (.aload_n 0, 1) := by decide +kernel
theorem dX0_endIfThrough_45 : decode cX0_endIfThrough 45 = .ok (.getfield 42, 3) := by decide +kernel
theorem dX0_endIfThrough_48 : decode cX0_endIfThrough 48 = .ok (.ifCond .ne 15, 3) := by decide +kernel
theorem dX0_endIfThrough_51 : decode cX0_endIfThrough 51 = .ok (.aload_n 0, 1) := by decide +kernel
theorem dX0_endIfThrough_52 : decode cX0_endIfThrough 52 = .ok (.getfield 46, 3) := by decide +kernel
theorem dX0_endIfThrough_55 : decode cX0_endIfThrough 55 = .ok (.ifCond .gt 8, 3) := by decide +kernel
theorem dX0_endIfThrough_58 : decode cX0_endIfThrough 58 = .ok (.aload_n 0, 1) := by decide +kernel
theorem dX0_endIfThrough_59 : decode cX0_endIfThrough 59 = .ok (.iconst 0, 1) := by decide +kernel
theorem dX0_endIfThrough_60 : decode cX0_endIfThrough 60 = .ok (.putfield 39, 3) := by decide +kernel
theorem dX0_endIfThrough_63 : decode cX0_endIfThrough 63 = .ok (.return_, 1) := by decide +kernel
theorem dX0_stepsAhead_0 : decode cX0_stepsAhead 0 = .ok (.aload_n 0, 1) := by decide +kernel
theorem dX0_stepsAhead_1 : decode cX0_stepsAhead 1 = .ok (.invokevirtual 91, 3) := by decide +kernel
theorem dX0_stepsAhead_4 : decode cX0_stepsAhead 4 = .ok (.ifCond .ne 5, 3) := by decide +kernel
theorem dX0_stepsAhead_7 : decode cX0_stepsAhead 7 = .ok (.iconst 0, 1) := by decide +kernel
theorem dX0_stepsAhead_8 : decode cX0_stepsAhead 8 = .ok (.ireturn, 1) := by decide +kernel
theorem dX0_stepsAhead_9 : decode cX0_stepsAhead 9 = .ok (.aload_n 0, 1) := by decide +kernel
theorem dX0_stepsAhead_10 : decode cX0_stepsAhead 10 = .ok (.invokevirtual 169, 3) := by decide +kernel
theorem dX0_stepsAhead_13 : decode cX0_stepsAhead 13 = .ok (.ifCond .eq 7, 3) := by decide +kernel
theorem dX0_stepsAhead_16 : decode cX0_stepsAhead 16 = .ok (.iconst 1, 1) := by decide +kernel
theorem dX0_stepsAhead_17 : decode cX0_stepsAhead 17 = .ok (.goto 4, 3) := by decide +kernel
theorem dX0_stepsAhead_20 : decode cX0_stepsAhead 20 = .ok (.iconst 0, 1) := by decide +kernel
theorem dX0_stepsAhead_21 : decode cX0_stepsAhead 21 = .ok (.aload_n 0, 1) := by decide +kernel
theorem dX0_stepsAhead_22 : decode cX0_stepsAhead 22 = .ok (.invokevirtual 172, 3) := by decide +kernel
theorem dX0_stepsAhead_25 : decode cX0_stepsAhead 25 = .ok (.iadd, 1) := by decide +kernel
theorem dX0_stepsAhead_26 : decode cX0_stepsAhead 26 = .ok (.aload_n 0, 1) := by decide +kernel
theorem dX0_stepsAhead_27 : decode cX0_stepsAhead 27 = .ok (.invokevirtual 151, 3) := by decide +kernel
theorem dX0_stepsAhead_30 : decode cX0_stepsAhead 30 = .ok (.isub, 1) := by decide +kernel
theorem dX0_stepsAhead_31 : decode cX0_stepsAhead 31 = .ok (.aload_n 0, 1) := by decide +kernel
theorem dX0_stepsAhead_32 : decode cX0_stepsAhead 32 = .ok (.getfield 49, 3) := by decide +kernel
theorem dX0_stepsAhead_35 : decode cX0_stepsAhead 35 = .ok (.isub, 1) := by decide +kernel
theorem dX0_stepsAhead_36 : decode cX0_stepsAhead 36 = .ok (.iconst 1, 1) := by decide +kernel
theorem dX0_stepsAhead_37 : decode cX0_stepsAhead 37 = .ok (.iadd, 1) := by decide +kernel
theorem dX0_stepsAhead_38 : decode cX0_stepsAhead 38 = .ok (.istore_n 1, 1) := by decide +kernel
theorem dX0_stepsAhead_39 : decode cX0_stepsAhead 39 = .ok (.aload_n 0, 1) := by decide +kernel
theorem dX0_stepsAhead_40 : decode cX0_stepsAhead 40 = .ok (.getfield 42, 3) := by decide +kernel
theorem dX0_stepsAhead_43 : decode cX0_stepsAhead 43 = .ok (.ifCond .eq 15, 3) := by decide +kernel
theorem dX0_stepsAhead_46 : decode cX0_stepsAhead 46 = .ok (.aload_n 0, 1) := by decide +kernel
theorem dX0_stepsAhead_47 : decode cX0_stepsAhead 47 = .ok (.getfield 32, 3) := by decide +kernel
theorem dX0_stepsAhead_50 : decode cX0_stepsAhead 50 = .ok (.aload_n 0, 1) := by decide +kernel
theorem dX0_stepsAhead_51 : decode cX0_stepsAhead 51 = .ok (.invokevirtual 172, 3) := by decide +kernel
theorem dX0_stepsAhead_54 : decode cX0_stepsAhead 54 = .ok (.isub, 1) := by decide +kernel
theorem dX0_stepsAhead_55 : decode cX0_stepsAhead 55 = .ok (.goto 7, 3) := by decide +kernel
theorem dX0_stepsAhead_58 : decode cX0_stepsAhead 58 = .ok (.aload_n 0, 1) := by decide +kernel
theorem dX0_stepsAhead_59 : decode cX0_stepsAhead 59 = .ok (.invokevirtual 151, 3) := by decide +kernel
theorem dX0_stepsAhead_62 : decode cX0_stepsAhead 62 = .ok (.istore_n 2, 1) := by decide +kernel
theorem dX0_stepsAhead_63 : decode cX0_stepsAhead 63 = .ok (.aload_n 0, 1) := by decide +kernel
theorem dX0_stepsAhead_64 : decode cX0_stepsAhead 64 = .ok (.getfield 52, 3) := by decide +kernel
theorem dX0_stepsAhead_67 : decode cX0_stepsAhead 67 = .ok (.ifCond .le 19, 3) := by decide +kernel
theorem dX0_stepsAhead_70 : decode cX0_stepsAhead 70 = .ok (.iload_n 2, 1) := by decide +kernel
theorem dX0_stepsAhead_71 : decode cX0_stepsAhead 71 = .ok (.aload_n 0, 1) := by decide +kernel
theorem dX0_stepsAhead_72 : decode cX0_stepsAhead 72 = .ok (.getfield 52, 3) := by decide +kernel
theorem dX0_stepsAhead_75 : decode cX0_stepsAhead 75 = .ok (.iadd, 1) := by decide +kernel
theorem dX0_stepsAhead_76 : decode cX0_stepsAhead 76 = .ok (.iconst 1, 1) := by decide +kernel
theorem dX0_stepsAhead_77 : decode cX0_stepsAhead 77 = .ok (.isub, 1) := by decide +kernel
theorem dX0_stepsAhead_78 : decode cX0_stepsAhead 78 = .ok (.aload_n 0, 1) := by decide +kernel
theorem dX0_stepsAhead_79 : decode cX0_stepsAhead 79 = .ok (.getfield 52, 3) := by decide +kernel
theorem dX0_stepsAhead_82 : decode cX0_stepsAhead 82 = .ok (.idiv, 1) := by decide +kernel
theorem dX0_stepsAhead_83 : decode cX0_stepsAhead 83 = .ok (.goto 4, 3) := by decide +kernel
theorem dX0_stepsAhead_86 : decode cX0_stepsAhead 86 = .ok (.iconst 0, 1) := by decide +kernel
theorem dX0_stepsAhead_87 : decode cX0_stepsAhead 87 = .ok (.istore_n 3, 1) := by decide +kernel
theorem dX0_stepsAhead_88 : decode cX0_stepsAhead 88 = .ok (.iload_n 1, 1) := by decide +kernel
theorem dX0_stepsAhead_89 : decode cX0_stepsAhead 89 = .ok (.iload_n 2, 1) := by decide +kernel
theorem dX0_stepsAhead_90 : decode cX0_stepsAhead 90 = .ok (.iadd, 1) := by decide +kernel
theorem dX0_stepsAhead_91 : decode cX0_stepsAhead 91 = .ok (.iload_n 3, 1) := by decide +kernel
theorem dX0_stepsAhead_92 : decode cX0_stepsAhead 92 = .ok (.aload_n 0, 1) := by decide +kernel
theorem dX0_stepsAhead_93 : decode cX0_stepsAhead 93 = .ok (.getfield 55, 3) := by decide +kernel
theorem dX0_stepsAhead_96 : decode cX0_stepsAhead 96 = .ok (.ifCond .eq 7, 3) := by decide +kernel
theorem dX0_stepsAhead_99 : decode cX0_stepsAhead 99 = .ok (.iconst 2, 1) := by decide +kernel
theorem dX0_stepsAhead_100 : decode cX0_stepsAhead 100 = .ok (.goto 4, 3) := by decide +kernel
theorem dX0_stepsAhead_103 : decode cX0_stepsAhead 103 = .ok (.iconst 1, 1) := by decide +kernel
theorem dX0_stepsAhead_104 : decode cX0_stepsAhead 104 = .ok (.imul, 1) := by decide +kernel
theorem dX0_stepsAhead_105 : decode cX0_stepsAhead 105 = .ok (.iadd, 1) := by decide +kernel
theorem dX0_stepsAhead_106 : decode cX0_stepsAhead 106 = .ok (.ireturn, 1) := by decide +kernel
theorem dX0_isFlushable_0 : decode cX0_isFlushable 0 = .ok (.aload_n 0, 1) := by decide +kernel
theorem dX0_isFlushable_1 : decode cX0_isFlushable 1 = .ok (.invokevirtual 87, 3) := by decide +kernel
theorem dX0_isFlushable_4 : decode cX0_isFlushable 4 = .ok (.ifCond .eq 23, 3) := by decide +kernel
theorem dX0_isFlushable_7 : decode cX0_isFlushable 7 = .ok (.iload_n 1, 1) := by decide +kernel
theorem dX0_isFlushable_8 : decode cX0_isFlushable 8 = .ok (.aload_n 0, 1) := by decide +kernel
theorem dX0_isFlushable_9 : decode cX0_isFlushable 9 = .ok (.invokevirtual 151, 3) := by decide +kernel
theorem dX0_isFlushable_12 : decode cX0_isFlushable 12 = .ok (.if_icmp .lt 15, 3) := by decide +kernel
theorem dX0_isFlushable_15 : decode cX0_isFlushable 15 = .ok (.iload_n 1, 1) := by decide +kernel
theorem dX0_isFlushable_16 : decode cX0_isFlushable 16 = .ok (.aload_n 0, 1) := by decide +kernel
theorem dX0_isFlushable_17 : decode cX0_isFlushable 17 = .ok (.invokevirtual 172, 3) := by decide +kernel
theorem dX0_isFlushable_20 : decode cX0_isFlushable 20 = .ok (.if_icmp .ge 7, 3) := by decide +kernel
theorem dX0_isFlushable_23 : decode cX0_isFlushable 23 = .ok (.iconst 1, 1) := by decide +kernel
theorem dX0_isFlushable_24 : decode cX0_isFlushable 24 = .ok (.goto 4, 3) := by decide +kernel
theorem dX0_isFlushable_27 : decode cX0_isFlushable 27 = .ok (.iconst 0, 1) := by decide +kernel
theorem dX0_isFlushable_28 : decode cX0_isFlushable 28 = .ok (.istore_n 2, 1) := by decide +kernel
theorem dX0_isFlushable_29 : decode cX0_isFlushable 29 = .ok (.aload_n 0, 1) := by decide +kernel
theorem dX0_isFlushable_30 : decode cX0_isFlushable 30 = .ok (.getfield 23, 3) := by decide +kernel
theorem dX0_isFlushable_33 : decode cX0_isFlushable 33 = .ok (.iload_n 1, 1) := by decide +kernel
theorem dX0_isFlushable_34 : decode cX0_isFlushable 34 = .ok (.invokevirtual 106, 3) := by decide +kernel
theorem dX0_isFlushable_37 : decode cX0_isFlushable 37 = .ok (.iconst (-1), 1) := by decide +kernel
theorem dX0_isFlushable_38 : decode cX0_isFlushable 38 = .ok (.if_icmp .eq 11, 3) := by decide +kernel
theorem dX0_isFlushable_41 : decode cX0_isFlushable 41 = .ok (.iload_n 2, 1) := by decide +kernel
theorem dX0_isFlushable_42 : decode cX0_isFlushable 42 = .ok (.ifCond .ne 7, 3) := by decide +kernel
theorem dX0_isFlushable_45 : decode cX0_isFlushable 45 = .ok (.iconst 1, 1) := by decide +kernel
theorem dX0_isFlushable_46 : decode cX0_isFlushable 46 = .ok (.goto 4, 3) := by decide +kernel
theorem dX0_isFlushable_49 : decode cX0_isFlushable 49 = .ok (.iconst 0, 1) := by decide +kernel
theorem dX0_isFlushable_50 : decode cX0_isFlushable 50 = .ok (.ireturn, 1) := by decide +kernel
theorem dX0_scrambledAfterFlush_0 : decode cX0_scrambledAfterFlush 0 = .ok (.aload_n 0, 1) := by decide +kernel
theorem dX0_scrambledAfterFlush_1 : decode cX0_scrambledAfterFlush 1 = .ok (.iload_n 1, 1) := by decide +kernel
theorem dX0_scrambledAfterFlush_2 : decode cX0_scrambledAfterFlush 2 = .ok (.invokevirtual 110, 3) := by decide +kernel
theorem dX0_scrambledAfterFlush_5 : decode cX0_scrambledAfterFlush 5 = .ok (.ifCond .eq 24, 3) := by decide +kernel
theorem dX0_scrambledAfterFlush_8 : decode cX0_scrambledAfterFlush 8 = .ok (.aload_n 0, 1) := by decide +kernel
theorem dX0_scrambledAfterFlush_9 : decode cX0_scrambledAfterFlush 9 = .ok (.aload_n 0, 1) := by decide +kernel
theorem dX0_scrambledAfterFlush_10 : decode cX0_scrambledAfterFlush 10 = .ok (.getfield 23, 3) := by decide +kernel
theorem dX0_scrambledAfterFlush_13 : decode cX0_scrambledAfterFlush 13 = .ok (.iload_n 1, 1) := by decide +kernel
theorem dX0_scrambledAfterFlush_14 : decode cX0_scrambledAfterFlush 14 = .ok (.invokevirtual 106, 3) := by decide +kernel
theorem dX0_scrambledAfterFlush_17 : decode cX0_scrambledAfterFlush 17 = .ok (.iload_n 1, 1) := by decide +kernel
theorem dX0_scrambledAfterFlush_18 : decode cX0_scrambledAfterFlush 18 = .ok (.aload_n 0, 1) := by decide +kernel
theorem dX0_scrambledAfterFlush_19 : decode cX0_scrambledAfterFlush 19 = .ok (.iload_n 1, 1) := by decide +kernel
theorem dX0_scrambledAfterFlush_20 : decode cX0_scrambledAfterFlush 20 = .ok (.invokevirtual 144, 3) := by decide +kernel
theorem dX0_scrambledAfterFlush_23 : decode cX0_scrambledAfterFlush 23 = .ok (.invokevirtual 147, 3) := by decide +kernel
theorem dX0_scrambledAfterFlush_26 : decode cX0_scrambledAfterFlush 26 = .ok (.goto 11, 3) := by decide +kernel
theorem dX0_scrambledAfterFlush_29 : decode cX0_scrambledAfterFlush 29 = .ok (.aload_n 0, 1) := by decide +kernel
theorem dX0_scrambledAfterFlush_30 : decode cX0_scrambledAfterFlush 30 = .ok (.getfield 14, 3) := by decide +kernel
theorem dX0_scrambledAfterFlush_33 : decode cX0_scrambledAfterFlush 33 = .ok (.iload_n 1, 1) := by decide +kernel
theorem dX0_scrambledAfterFlush_34 : decode cX0_scrambledAfterFlush 34 = .ok (.invokevirtual 106, 3) := by decide +kernel
theorem dX0_scrambledAfterFlush_37 : decode cX0_scrambledAfterFlush 37 = .ok (.ireturn, 1) := by decide +kernel
theorem dX0_scrambledAfterFailure_0 : decode cX0_scrambledAfterFailure 0 = .ok (.aload_n 0, 1) := by decide +kernel
theorem dX0_scrambledAfterFailure_1 : decode cX0_scrambledAfterFailure 1 = .ok (.getfield 26, 3) := by decide +kernel
theorem dX0_scrambledAfterFailure_4 : decode cX0_scrambledAfterFailure 4 = .ok (.iload_n 1, 1) := by decide +kernel
theorem dX0_scrambledAfterFailure_5 : decode cX0_scrambledAfterFailure 5 = .ok (.invokevirtual 106, 3) := by decide +kernel
theorem dX0_scrambledAfterFailure_8 : decode cX0_scrambledAfterFailure 8 = .ok (.istore_n 2, 1) := by decide +kernel
theorem dX0_scrambledAfterFailure_9 : decode cX0_scrambledAfterFailure 9 = .ok (.iload_n 2, 1) := by decide +kernel
theorem dX0_scrambledAfterFailure_10 : decode cX0_scrambledAfterFailure 10 = .ok (.iconst (-1), 1) := by decide +kernel
theorem dX0_scrambledAfterFailure_11 : decode cX0_scrambledAfterFailure 11 = .ok (.if_icmp .eq 7, 3) := by decide +kernel
theorem dX0_scrambledAfterFailure_14 : decode cX0_scrambledAfterFailure 14 = .ok (.iload_n 2, 1) := by decide +kernel
theorem dX0_scrambledAfterFailure_15 : decode cX0_scrambledAfterFailure 15 = .ok (.goto 11, 3) := by decide +kernel
theorem dX0_scrambledAfterFailure_18 : decode cX0_scrambledAfterFailure 18 = .ok (.aload_n 0, 1) := by decide +kernel
theorem dX0_scrambledAfterFailure_19 : decode cX0_scrambledAfterFailure 19 = .ok (.getfield 14, 3) := by decide +kernel
theorem dX0_scrambledAfterFailure_22 : decode cX0_scrambledAfterFailure 22 = .ok (.iload_n 1, 1) := by decide +kernel
theorem dX0_scrambledAfterFailure_23 : decode cX0_scrambledAfterFailure 23 = .ok (.invokevirtual 106, 3) := by decide +kernel
theorem dX0_scrambledAfterFailure_26 : decode cX0_scrambledAfterFailure 26 = .ok (.ireturn, 1) := by decide +kernel
theorem dX0_valueAfterFailure_0 : decode cX0_valueAfterFailure 0 = .ok (.aload_n 0, 1) := by decide +kernel
theorem dX0_valueAfterFailure_1 : decode cX0_valueAfterFailure 1 = .ok (.aload_n 0, 1) := by decide +kernel
theorem dX0_valueAfterFailure_2 : decode cX0_valueAfterFailure 2 = .ok (.iload_n 1, 1) := by decide +kernel
theorem dX0_valueAfterFailure_3 : decode cX0_valueAfterFailure 3 = .ok (.invokevirtual 122, 3) := by decide +kernel
theorem dX0_valueAfterFailure_6 : decode cX0_valueAfterFailure 6 = .ok (.iload_n 1, 1) := by decide +kernel
theorem dX0_valueAfterFailure_7 : decode cX0_valueAfterFailure 7 = .ok (.aload_n 0, 1) := by decide +kernel
theorem dX0_valueAfterFailure_8 : decode cX0_valueAfterFailure 8 = .ok (.iload_n 1, 1) := by decide +kernel
theorem dX0_valueAfterFailure_9 : decode cX0_valueAfterFailure 9 = .ok (.invokevirtual 154, 3) := by decide +kernel
theorem dX0_valueAfterFailure_12 : decode cX0_valueAfterFailure 12 = .ok (.invokevirtual 147, 3) := by decide +kernel
theorem dX0_valueAfterFailure_15 : decode cX0_valueAfterFailure 15 = .ok (.ireturn, 1) := by decide +kernel
theorem dX0_damageAfterFailure_0 : decode cX0_damageAfterFailure 0 = .ok (.iconst 0, 1) := by decide +kernel
theorem dX0_damageAfterFailure_1 : decode cX0_damageAfterFailure 1 = .ok (.istore_n 1, 1) := by decide +kernel
theorem dX0_damageAfterFailure_2 : decode cX0_damageAfterFailure 2 = .ok (.iconst 0, 1) := by decide +kernel
theorem dX0_damageAfterFailure_3 : decode cX0_damageAfterFailure 3 = .ok (.istore_n 2, 1) := by decide +kernel
theorem dX0_damageAfterFailure_4 : decode cX0_damageAfterFailure 4 = .ok (.iload_n 2, 1) := by decide +kernel
theorem dX0_damageAfterFailure_5 : decode cX0_damageAfterFailure 5 = .ok (.aload_n 0, 1) := by decide +kernel
theorem dX0_damageAfterFailure_6 : decode cX0_damageAfterFailure 6 = .ok (.getfield 32, 3) := by decide +kernel
theorem dX0_damageAfterFailure_9 : decode cX0_damageAfterFailure 9 = .ok (.if_icmp .ge 28, 3) := by decide +kernel
theorem dX0_damageAfterFailure_12 : decode cX0_damageAfterFailure 12 = .ok (.aload_n 0, 1) := by decide +kernel
theorem dX0_damageAfterFailure_13 : decode cX0_damageAfterFailure 13 = .ok (.iload_n 2, 1) := by decide +kernel
theorem dX0_damageAfterFailure_14 : decode cX0_damageAfterFailure 14 = .ok (.invokevirtual 119, 3) := by decide +kernel
theorem dX0_damageAfterFailure_17 : decode cX0_damageAfterFailure 17 = .ok (.aload_n 0, 1) := by decide +kernel
theorem dX0_damageAfterFailure_18 : decode cX0_damageAfterFailure 18 = .ok (.getfield 20, 3) := by decide +kernel
theorem dX0_damageAfterFailure_21 : decode cX0_damageAfterFailure 21 = .ok (.iload_n 2, 1) := by decide +kernel
theorem dX0_damageAfterFailure_22 : decode cX0_damageAfterFailure 22 = .ok (.invokevirtual 106, 3) := by decide +kernel
theorem dX0_damageAfterFailure_25 : decode cX0_damageAfterFailure 25 = .ok (.if_icmp .eq 6, 3) := by decide +kernel
theorem dX0_damageAfterFailure_28 : decode cX0_damageAfterFailure 28 = .ok (.iinc 1 1, 3) := by decide +kernel
theorem dX0_damageAfterFailure_31 : decode cX0_damageAfterFailure 31 = .ok (.iinc 2 1, 3) := by decide +kernel
theorem dX0_damageAfterFailure_34 : decode cX0_damageAfterFailure 34 = .ok (.goto (-30), 3) := by decide +kernel
theorem dX0_damageAfterFailure_37 : decode cX0_damageAfterFailure 37 = .ok (.iload_n 1, 1) := by decide +kernel
theorem dX0_damageAfterFailure_38 : decode cX0_damageAfterFailure 38 = .ok (.ireturn, 1) := by decide +kernel
theorem dX0_damageCount_0 : decode cX0_damageCount 0 = .ok (.iconst 0, 1) := by decide +kernel
theorem dX0_damageCount_1 : decode cX0_damageCount 1 = .ok (.istore_n 1, 1) := by decide +kernel
theorem dX0_damageCount_2 : decode cX0_damageCount 2 = .ok (.iconst 0, 1) := by decide +kernel
theorem dX0_damageCount_3 : decode cX0_damageCount 3 = .ok (.istore_n 2, 1) := by decide +kernel
theorem dX0_damageCount_4 : decode cX0_damageCount 4 = .ok (.iload_n 2, 1) := by decide +kernel
theorem dX0_damageCount_5 : decode cX0_damageCount 5 = .ok (.aload_n 0, 1) := by decide +kernel
theorem dX0_damageCount_6 : decode cX0_damageCount 6 = .ok (.getfield 32, 3) := by decide +kernel
theorem dX0_damageCount_9 : decode cX0_damageCount 9 = .ok (.if_icmp .ge 28, 3) := by decide +kernel
theorem dX0_damageCount_12 : decode cX0_damageCount 12 = .ok (.aload_n 0, 1) := by decide +kernel
theorem dX0_damageCount_13 : decode cX0_damageCount 13 = .ok (.iload_n 2, 1) := by decide +kernel
theorem dX0_damageCount_14 : decode cX0_damageCount 14 = .ok (.invokevirtual 116, 3) := by decide +kernel
theorem dX0_damageCount_17 : decode cX0_damageCount 17 = .ok (.aload_n 0, 1) := by decide +kernel
theorem dX0_damageCount_18 : decode cX0_damageCount 18 = .ok (.getfield 20, 3) := by decide +kernel
theorem dX0_damageCount_21 : decode cX0_damageCount 21 = .ok (.iload_n 2, 1) := by decide +kernel
theorem dX0_damageCount_22 : decode cX0_damageCount 22 = .ok (.invokevirtual 106, 3) := by decide +kernel
theorem dX0_damageCount_25 : decode cX0_damageCount 25 = .ok (.if_icmp .eq 6, 3) := by decide +kernel
theorem dX0_damageCount_28 : decode cX0_damageCount 28 = .ok (.iinc 1 1, 3) := by decide +kernel
theorem dX0_damageCount_31 : decode cX0_damageCount 31 = .ok (.iinc 2 1, 3) := by decide +kernel
theorem dX0_damageCount_34 : decode cX0_damageCount 34 = .ok (.goto (-30), 3) := by decide +kernel
theorem dX0_damageCount_37 : decode cX0_damageCount 37 = .ok (.iload_n 1, 1) := by decide +kernel
theorem dX0_damageCount_38 : decode cX0_damageCount 38 = .ok (.ireturn, 1) := by decide +kernel
theorem dX0_firstDamage_0 : decode cX0_firstDamage 0 = .ok (.iconst 0, 1) := by decide +kernel
theorem dX0_firstDamage_1 : decode cX0_firstDamage 1 = .ok (.istore_n 1, 1) := by decide +kernel
theorem dX0_firstDamage_2 : decode cX0_firstDamage 2 = .ok (.iload_n 1, 1) := by decide +kernel
theorem dX0_firstDamage_3 : decode cX0_firstDamage 3 = .ok (.aload_n 0, 1) := by decide +kernel
theorem dX0_firstDamage_4 : decode cX0_firstDamage 4 = .ok (.getfield 32, 3) := by decide +kernel
theorem dX0_firstDamage_7 : decode cX0_firstDamage 7 = .ok (.if_icmp .ge 27, 3) := by decide +kernel
theorem dX0_firstDamage_10 : decode cX0_firstDamage 10 = .ok (.aload_n 0, 1) := by decide +kernel
theorem dX0_firstDamage_11 : decode cX0_firstDamage 11 = .ok (.iload_n 1, 1) := by decide +kernel
theorem dX0_firstDamage_12 : decode cX0_firstDamage 12 = .ok (.invokevirtual 116, 3) := by decide +kernel
theorem dX0_firstDamage_15 : decode cX0_firstDamage 15 = .ok (.aload_n 0, 1) := by decide +kernel
theorem dX0_firstDamage_16 : decode cX0_firstDamage 16 = .ok (.getfield 20, 3) := by decide +kernel
theorem dX0_firstDamage_19 : decode cX0_firstDamage 19 = .ok (.iload_n 1, 1) := by decide +kernel
theorem dX0_firstDamage_20 : decode cX0_firstDamage 20 = .ok (.invokevirtual 106, 3) := by decide +kernel
theorem dX0_firstDamage_23 : decode cX0_firstDamage 23 = .ok (.if_icmp .eq 5, 3) := by decide +kernel
theorem dX0_firstDamage_26 : decode cX0_firstDamage 26 = .ok (.iload_n 1, 1) := by decide +kernel
theorem dX0_firstDamage_27 : decode cX0_firstDamage 27 = .ok (.ireturn, 1) := by decide +kernel
theorem dX0_firstDamage_28 : decode cX0_firstDamage 28 = .ok (.iinc 1 1, 3) := by decide +kernel
theorem dX0_firstDamage_31 : decode cX0_firstDamage 31 = .ok (.goto (-29), 3) := by decide +kernel
theorem dX0_firstDamage_34 : decode cX0_firstDamage 34 = .ok (.iconst (-1), 1) := by decide +kernel
theorem dX0_firstDamage_35 : decode cX0_firstDamage 35 = .ok (.ireturn, 1) := by decide +kernel
theorem dX0_numberOfRekeying_0 : decode cX0_numberOfRekeying 0 = .ok (.aload_n 0, 1) := by decide +kernel
theorem dX0_numberOfRekeying_1 : decode cX0_numberOfRekeying 1 = .ok (.invokevirtual 91, 3) := by decide +kernel
theorem dX0_numberOfRekeying_4 : decode cX0_numberOfRekeying 4 = .ok (.ifCond .ne 6, 3) := by decide +kernel
theorem dX0_numberOfRekeying_7 : decode cX0_numberOfRekeying 7 = .ok (.bipush (-6), 2) := by decide +kernel
theorem dX0_numberOfRekeying_9 : decode cX0_numberOfRekeying 9 = .ok (.ireturn, 1) := by decide +kernel
theorem dX0_numberOfRekeying_10 : decode cX0_numberOfRekeying 10 = .ok (.iload_n 1, 1) := by decide +kernel
theorem dX0_numberOfRekeying_11 : decode cX0_numberOfRekeying 11 = .ok (.iconst 2, 1) := by decide +kernel
theorem dX0_numberOfRekeying_12 : decode cX0_numberOfRekeying 12 = .ok (.if_icmp .ne 8, 3) := by decide +kernel
theorem dX0_numberOfRekeying_15 : decode cX0_numberOfRekeying 15 = .ok (.aload_n 0, 1) := by decide +kernel
theorem dX0_numberOfRekeying_16 : decode cX0_numberOfRekeying 16 = .ok (.getfield 39, 3) := by decide +kernel
theorem dX0_numberOfRekeying_19 : decode cX0_numberOfRekeying 19 = .ok (.ireturn, 1) := by decide +kernel
theorem dX0_numberOfRekeying_20 : decode cX0_numberOfRekeying 20 = .ok (.iload_n 1, 1) := by decide +kernel
theorem dX0_numberOfRekeying_21 : decode cX0_numberOfRekeying 21 = .ok (.iconst 3, 1) := by decide +kernel
theorem dX0_numberOfRekeying_22 : decode cX0_numberOfRekeying 22 = .ok (.if_icmp .ne 8, 3) := by decide +kernel
theorem dX0_numberOfRekeying_25 : decode cX0_numberOfRekeying 25 = .ok (.aload_n 0, 1) := by decide +kernel
theorem dX0_numberOfRekeying_26 : decode cX0_numberOfRekeying 26 = .ok (.getfield 46, 3) := by decide +kernel
theorem dX0_numberOfRekeying_29 : decode cX0_numberOfRekeying 29 = .ok (.ireturn, 1) := by decide +kernel
theorem dX0_numberOfRekeying_30 : decode cX0_numberOfRekeying 30 = .ok (.aload_n 0, 1) := by decide +kernel
theorem dX0_numberOfRekeying_31 : decode cX0_numberOfRekeying 31 = .ok (.getfield 42, 3) := by decide +kernel
theorem dX0_numberOfRekeying_34 : decode cX0_numberOfRekeying 34 = .ok (.ifCond .eq 7, 3) := by decide +kernel
theorem dX0_numberOfRekeying_37 : decode cX0_numberOfRekeying 37 = .ok (.iconst 1, 1) := by decide +kernel
theorem dX0_numberOfRekeying_38 : decode cX0_numberOfRekeying 38 = .ok (.goto 4, 3) := by decide +kernel
theorem dX0_numberOfRekeying_41 : decode cX0_numberOfRekeying 41 = .ok (.iconst 0, 1) := by decide +kernel
theorem dX0_numberOfRekeying_42 : decode cX0_numberOfRekeying 42 = .ok (.ireturn, 1) := by decide +kernel
theorem dX0_number_0 : decode cX0_number 0 = .ok (.iload_n 1, 1) := by decide +kernel
theorem dX0_number_1 : decode cX0_number 1 = .ok (.tableswitch 134 0 12 #[67, 72, 134, 134, 134, 77, 82, 90, 98, 103, 116, 124, 129], 67) := by decide +kernel
theorem dX0_number_68 : decode cX0_number 68 = .ok (.aload_n 0, 1) := by decide +kernel
theorem dX0_number_69 : decode cX0_number 69 = .ok (.getfield 32, 3) := by decide +kernel
theorem dX0_number_72 : decode cX0_number 72 = .ok (.ireturn, 1) := by decide +kernel
theorem dX0_number_73 : decode cX0_number 73 = .ok (.aload_n 0, 1) := by decide +kernel
theorem dX0_number_74 : decode cX0_number 74 = .ok (.getfield 36, 3) := by decide +kernel
theorem dX0_number_77 : decode cX0_number 77 = .ok (.ireturn, 1) := by decide +kernel
theorem dX0_number_78 : decode cX0_number 78 = .ok (.aload_n 0, 1) := by decide +kernel
theorem dX0_number_79 : decode cX0_number 79 = .ok (.getfield 49, 3) := by decide +kernel
theorem dX0_number_82 : decode cX0_number 82 = .ok (.ireturn, 1) := by decide +kernel
theorem dX0_number_83 : decode cX0_number 83 = .ok (.aload_n 0, 1) := by decide +kernel
theorem dX0_number_84 : decode cX0_number 84 = .ok (.getfield 26, 3) := by decide +kernel
theorem dX0_number_87 : decode cX0_number 87 = .ok (.invokevirtual 83, 3) := by decide +kernel
theorem dX0_number_90 : decode cX0_number 90 = .ok (.ireturn, 1) := by decide +kernel
theorem dX0_number_91 : decode cX0_number 91 = .ok (.aload_n 0, 1) := by decide +kernel
theorem dX0_number_92 : decode cX0_number 92 = .ok (.getfield 23, 3) := by decide +kernel
theorem dX0_number_95 : decode cX0_number 95 = .ok (.invokevirtual 83, 3) := by decide +kernel
theorem dX0_number_98 : decode cX0_number 98 = .ok (.ireturn, 1) := by decide +kernel
theorem dX0_number_99 : decode cX0_number 99 = .ok (.aload_n 0, 1) := by decide +kernel
theorem dX0_number_100 : decode cX0_number 100 = .ok (.getfield 52, 3) := by decide +kernel
theorem dX0_number_103 : decode cX0_number 103 = .ok (.ireturn, 1) := by decide +kernel
theorem dX0_number_104 : decode cX0_number 104 = .ok (.aload_n 0, 1) := by decide +kernel
theorem dX0_number_105 : decode cX0_number 105 = .ok (.getfield 55, 3) := by decide +kernel
theorem dX0_number_108 : decode cX0_number 108 = .ok (.ifCond .eq 7, 3) := by decide +kernel
theorem dX0_number_111 : decode cX0_number 111 = .ok (.iconst 1, 1) := by decide +kernel
theorem dX0_number_112 : decode cX0_number 112 = .ok (.goto 4, 3) := by decide +kernel
theorem dX0_number_115 : decode cX0_number 115 = .ok (.iconst 0, 1) := by decide +kernel
theorem dX0_number_116 : decode cX0_number 116 = .ok (.ireturn, 1) := by decide +kernel
theorem dX0_number_117 : decode cX0_number 117 = .ok (.aload_n 0, 1) := by decide +kernel
theorem dX0_number_118 : decode cX0_number 118 = .ok (.getfield 29, 3) := by decide +kernel
theorem dX0_number_121 : decode cX0_number 121 = .ok (.invokevirtual 83, 3) := by decide +kernel
theorem dX0_number_124 : decode cX0_number 124 = .ok (.ireturn, 1) := by decide +kernel
theorem dX0_number_125 : decode cX0_number 125 = .ok (.aload_n 0, 1) := by decide +kernel
theorem dX0_number_126 : decode cX0_number 126 = .ok (.getfield 58, 3) := by decide +kernel
theorem dX0_number_129 : decode cX0_number 129 = .ok (.ireturn, 1) := by decide +kernel
theorem dX0_number_130 : decode cX0_number 130 = .ok (.aload_n 0, 1) := by decide +kernel
theorem dX0_number_131 : decode cX0_number 131 = .ok (.getfield 61, 3) := by decide +kernel
theorem dX0_number_134 : decode cX0_number 134 = .ok (.ireturn, 1) := by decide +kernel
theorem dX0_number_135 : decode cX0_number 135 = .ok (.bipush (-2), 2) := by decide +kernel
theorem dX0_number_137 : decode cX0_number 137 = .ok (.ireturn, 1) := by decide +kernel
theorem dX1_init_0 : decode cX1_init 0 = .ok (.aload_n 0, 1) := by decide +kernel
theorem dX1_init_1 : decode cX1_init 1 = .ok (.invokespecial 3, 3) := by decide +kernel
theorem dX1_init_4 : decode cX1_init 4 = .ok (.aload_n 0, 1) := by decide +kernel

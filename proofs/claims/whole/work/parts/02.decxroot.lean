theorem dX1_init_0 : decode cX1_init 0 = .ok (.aload_n 0, 1) := by decide +kernel
theorem dX1_init_1 : decode cX1_init 1 = .ok (.invokespecial 3, 3) := by decide +kernel
theorem dX1_init_4 : decode cX1_init 4 = .ok (.aload_n 0, 1) := by decide +kernel
theorem dX1_init_5 : decode cX1_init 5 = .ok (.bipush 7, 2) := by decide +kernel
theorem dX1_init_7 : decode cX1_init 7 = .ok (.anewarray 11, 3) := by decide +kernel
theorem dX1_init_10 : decode cX1_init 10 = .ok (.putfield 13, 3) := by decide +kernel
theorem dX1_init_13 : decode cX1_init 13 = .ok (.aload_n 0, 1) := by decide +kernel
theorem dX1_init_14 : decode cX1_init 14 = .ok (.iconst 0, 1) := by decide +kernel
theorem dX1_init_15 : decode cX1_init 15 = .ok (.putfield 17, 3) := by decide +kernel
theorem dX1_init_18 : decode cX1_init 18 = .ok (.aload_n 0, 1) := by decide +kernel
theorem dX1_init_19 : decode cX1_init 19 = .ok (.iconst 0, 1) := by decide +kernel
theorem dX1_init_20 : decode cX1_init 20 = .ok (.putfield 21, 3) := by decide +kernel
theorem dX1_init_23 : decode cX1_init 23 = .ok (.iconst 0, 1) := by decide +kernel
theorem dX1_init_24 : decode cX1_init 24 = .ok (.istore_n 1, 1) := by decide +kernel
theorem dX1_init_25 : decode cX1_init 25 = .ok (.iload_n 1, 1) := by decide +kernel
theorem dX1_init_26 : decode cX1_init 26 = .ok (.aload_n 0, 1) := by decide +kernel
theorem dX1_init_27 : decode cX1_init 27 = .ok (.getfield 13, 3) := by decide +kernel
theorem dX1_init_30 : decode cX1_init 30 = .ok (.arraylength, 1) := by decide +kernel
theorem dX1_init_31 : decode cX1_init 31 = .ok (.if_icmp .ge 22, 3) := by decide +kernel
theorem dX1_init_34 : decode cX1_init 34 = .ok (.aload_n 0, 1) := by decide +kernel
theorem dX1_init_35 : decode cX1_init 35 = .ok (.getfield 13, 3) := by decide +kernel
theorem dX1_init_38 : decode cX1_init 38 = .ok (.iload_n 1, 1) := by decide +kernel
theorem dX1_init_39 : decode cX1_init 39 = .ok (.new 11, 3) := by decide +kernel
theorem dX1_init_42 : decode cX1_init 42 = .ok (.dup, 1) := by decide +kernel
theorem dX1_init_43 : decode cX1_init 43 = .ok (.invokespecial 24, 3) := by decide +kernel
theorem dX1_init_46 : decode cX1_init 46 = .ok (.aastore, 1) := by decide +kernel
theorem dX1_init_47 : decode cX1_init 47 = .ok (.iinc 1 1, 3) := by decide +kernel
theorem dX1_init_50 : decode cX1_init 50 = .ok (.goto (-25), 3) := by decide +kernel
theorem dX1_init_53 : decode cX1_init 53 = .ok (.return_, 1) := by decide +kernel
theorem dX1_slot_0 : decode cX1_slot 0 = .ok (.iload_n 1, 1) := by decide +kernel
theorem dX1_slot_1 : decode cX1_slot 1 = .ok (.ifCond .lt 21, 3) := by decide +kernel
theorem dX1_slot_4 : decode cX1_slot 4 = .ok (.iload_n 1, 1) := by decide +kernel
theorem dX1_slot_5 : decode cX1_slot 5 = .ok (.aload_n 0, 1) := by decide +kernel
theorem dX1_slot_6 : decode cX1_slot 6 = .ok (.getfield 13, 3) := by decide +kernel
theorem dX1_slot_9 : decode cX1_slot 9 = .ok (.arraylength, 1) := by decide +kernel
theorem dX1_slot_10 : decode cX1_slot 10 = .ok (.if_icmp .ge 12, 3) := by decide +kernel
theorem dX1_slot_13 : decode cX1_slot 13 = .ok (.aload_n 0, 1) := by decide +kernel
theorem dX1_slot_14 : decode cX1_slot 14 = .ok (.getfield 13, 3) := by decide +kernel
theorem dX1_slot_17 : decode cX1_slot 17 = .ok (.iload_n 1, 1) := by decide +kernel
theorem dX1_slot_18 : decode cX1_slot 18 = .ok (.aaload, 1) := by decide +kernel
theorem dX1_slot_19 : decode cX1_slot 19 = .ok (.goto 4, 3) := by decide +kernel
theorem dX1_slot_22 : decode cX1_slot 22 = .ok (.aconst_null, 1) := by decide +kernel
theorem dX1_slot_23 : decode cX1_slot 23 = .ok (.areturn, 1) := by decide +kernel
theorem dX1_draft_0 : decode cX1_draft 0 = .ok (.aload_n 0, 1) := by decide +kernel
theorem dX1_draft_1 : decode cX1_draft 1 = .ok (.aload_n 0, 1) := by decide +kernel
theorem dX1_draft_2 : decode cX1_draft 2 = .ok (.getfield 17, 3) := by decide +kernel
theorem dX1_draft_5 : decode cX1_draft 5 = .ok (.invokevirtual 25, 3) := by decide +kernel
theorem dX1_draft_8 : decode cX1_draft 8 = .ok (.astore_n 2, 1) := by decide +kernel
theorem dX1_draft_9 : decode cX1_draft 9 = .ok (.aload_n 2, 1) := by decide +kernel
theorem dX1_draft_10 : decode cX1_draft 10 = .ok (.ifnull 8, 3) := by decide +kernel
theorem dX1_draft_13 : decode cX1_draft 13 = .ok (.aload_n 2, 1) := by decide +kernel
theorem dX1_draft_14 : decode cX1_draft 14 = .ok (.aload_n 1, 1) := by decide +kernel
theorem dX1_draft_15 : decode cX1_draft 15 = .ok (.invokevirtual 29, 3) := by decide +kernel
theorem dX1_draft_18 : decode cX1_draft 18 = .ok (.return_, 1) := by decide +kernel
theorem dX1_keep_0 : decode cX1_keep 0 = .ok (.iload_n 1, 1) := by decide +kernel
theorem dX1_keep_1 : decode cX1_keep 1 = .ok (.ifCond .lt 31, 3) := by decide +kernel
theorem dX1_keep_4 : decode cX1_keep 4 = .ok (.aload_n 0, 1) := by decide +kernel
theorem dX1_keep_5 : decode cX1_keep 5 = .ok (.aload_n 0, 1) := by decide +kernel
theorem dX1_keep_6 : decode cX1_keep 6 = .ok (.getfield 17, 3) := by decide +kernel
theorem dX1_keep_9 : decode cX1_keep 9 = .ok (.iconst 1, 1) := by decide +kernel
theorem dX1_keep_10 : decode cX1_keep 10 = .ok (.iadd, 1) := by decide +kernel
theorem dX1_keep_11 : decode cX1_keep 11 = .ok (.bipush 7, 2) := by decide +kernel
theorem dX1_keep_13 : decode cX1_keep 13 = .ok (.irem, 1) := by decide +kernel
theorem dX1_keep_14 : decode cX1_keep 14 = .ok (.putfield 17, 3) := by decide +kernel
theorem dX1_keep_17 : decode cX1_keep 17 = .ok (.aload_n 0, 1) := by decide +kernel
theorem dX1_keep_18 : decode cX1_keep 18 = .ok (.aload_n 0, 1) := by decide +kernel
theorem dX1_keep_19 : decode cX1_keep 19 = .ok (.getfield 21, 3) := by decide +kernel
theorem dX1_keep_22 : decode cX1_keep 22 = .ok (.iconst 1, 1) := by decide +kernel
theorem dX1_keep_23 : decode cX1_keep 23 = .ok (.iadd, 1) := by decide +kernel
theorem dX1_keep_24 : decode cX1_keep 24 = .ok (.bipush 6, 2) := by decide +kernel
theorem dX1_keep_26 : decode cX1_keep 26 = .ok (.invokestatic 33, 3) := by decide +kernel
theorem dX1_keep_29 : decode cX1_keep 29 = .ok (.putfield 21, 3) := by decide +kernel
theorem dX1_keep_32 : decode cX1_keep 32 = .ok (.iload_n 1, 1) := by decide +kernel
theorem dX1_keep_33 : decode cX1_keep 33 = .ok (.ireturn, 1) := by decide +kernel
theorem dX1_bringBack_0 : decode cX1_bringBack 0 = .ok (.aload_n 0, 1) := by decide +kernel
theorem dX1_bringBack_1 : decode cX1_bringBack 1 = .ok (.getfield 17, 3) := by decide +kernel
theorem dX1_bringBack_4 : decode cX1_bringBack 4 = .ok (.bipush 7, 2) := by decide +kernel
theorem dX1_bringBack_6 : decode cX1_bringBack 6 = .ok (.iadd, 1) := by decide +kernel
theorem dX1_bringBack_7 : decode cX1_bringBack 7 = .ok (.iconst 1, 1) := by decide +kernel
theorem dX1_bringBack_8 : decode cX1_bringBack 8 = .ok (.isub, 1) := by decide +kernel
theorem dX1_bringBack_9 : decode cX1_bringBack 9 = .ok (.bipush 7, 2) := by decide +kernel
theorem dX1_bringBack_11 : decode cX1_bringBack 11 = .ok (.irem, 1) := by decide +kernel
theorem dX1_bringBack_12 : decode cX1_bringBack 12 = .ok (.istore_n 2, 1) := by decide +kernel
theorem dX1_bringBack_13 : decode cX1_bringBack 13 = .ok (.aload_n 0, 1) := by decide +kernel
theorem dX1_bringBack_14 : decode cX1_bringBack 14 = .ok (.iload_n 2, 1) := by decide +kernel
theorem dX1_bringBack_15 : decode cX1_bringBack 15 = .ok (.invokevirtual 25, 3) := by decide +kernel
theorem dX1_bringBack_18 : decode cX1_bringBack 18 = .ok (.astore_n 3, 1) := by decide +kernel
theorem dX1_bringBack_19 : decode cX1_bringBack 19 = .ok (.aload_n 0, 1) := by decide +kernel
theorem dX1_bringBack_20 : decode cX1_bringBack 20 = .ok (.getfield 21, 3) := by decide +kernel
theorem dX1_bringBack_23 : decode cX1_bringBack 23 = .ok (.ifCond .eq 7, 3) := by decide +kernel
theorem dX1_bringBack_26 : decode cX1_bringBack 26 = .ok (.aload_n 3, 1) := by decide +kernel
theorem dX1_bringBack_27 : decode cX1_bringBack 27 = .ok (.ifnonnull 6, 3) := by decide +kernel
theorem dX1_bringBack_30 : decode cX1_bringBack 30 = .ok (.bipush (-3), 2) := by decide +kernel
theorem dX1_bringBack_32 : decode cX1_bringBack 32 = .ok (.ireturn, 1) := by decide +kernel
theorem dX1_bringBack_33 : decode cX1_bringBack 33 = .ok (.aload_n 1, 1) := by decide +kernel
theorem dX1_bringBack_34 : decode cX1_bringBack 34 = .ok (.aload_n 3, 1) := by decide +kernel
theorem dX1_bringBack_35 : decode cX1_bringBack 35 = .ok (.invokevirtual 29, 3) := by decide +kernel
theorem dX1_bringBack_38 : decode cX1_bringBack 38 = .ok (.aload_n 0, 1) := by decide +kernel
theorem dX1_bringBack_39 : decode cX1_bringBack 39 = .ok (.iload_n 2, 1) := by decide +kernel
theorem dX1_bringBack_40 : decode cX1_bringBack 40 = .ok (.putfield 17, 3) := by decide +kernel
theorem dX1_bringBack_43 : decode cX1_bringBack 43 = .ok (.aload_n 0, 1) := by decide +kernel
theorem dX1_bringBack_44 : decode cX1_bringBack 44 = .ok (.dup, 1) := by decide +kernel
theorem dX1_bringBack_45 : decode cX1_bringBack 45 = .ok (.getfield 21, 3) := by decide +kernel
theorem dX1_bringBack_48 : decode cX1_bringBack 48 = .ok (.iconst 1, 1) := by decide +kernel
theorem dX1_bringBack_49 : decode cX1_bringBack 49 = .ok (.isub, 1) := by decide +kernel
theorem dX1_bringBack_50 : decode cX1_bringBack 50 = .ok (.putfield 21, 3) := by decide +kernel
theorem dX1_bringBack_53 : decode cX1_bringBack 53 = .ok (.aload_n 0, 1) := by decide +kernel
theorem dX1_bringBack_54 : decode cX1_bringBack 54 = .ok (.getfield 21, 3) := by decide +kernel
theorem dX1_bringBack_57 : decode cX1_bringBack 57 = .ok (.ireturn, 1) := by decide +kernel
theorem dX3_init_0 : decode cX3_init 0 = .ok (.aload_n 0, 1) := by decide +kernel
theorem dX3_init_1 : decode cX3_init 1 = .ok (.invokespecial 3, 3) := by decide +kernel
theorem dX3_init_4 : decode cX3_init 4 = .ok (.aload_n 0, 1) := by decide +kernel
theorem dX3_init_5 : decode cX3_init 5 = .ok (.new 9, 3) := by decide +kernel
theorem dX3_init_8 : decode cX3_init 8 = .ok (.dup, 1) := by decide +kernel
theorem dX3_init_9 : decode cX3_init 9 = .ok (.bipush 80, 2) := by decide +kernel
theorem dX3_init_11 : decode cX3_init 11 = .ok (.invokespecial 11, 3) := by decide +kernel
theorem dX3_init_14 : decode cX3_init 14 = .ok (.putfield 14, 3) := by decide +kernel
theorem dX3_init_17 : decode cX3_init 17 = .ok (.aload_n 0, 1) := by decide +kernel
theorem dX3_init_18 : decode cX3_init 18 = .ok (.new 9, 3) := by decide +kernel
theorem dX3_init_21 : decode cX3_init 21 = .ok (.dup, 1) := by decide +kernel
theorem dX3_init_22 : decode cX3_init 22 = .ok (.bipush 40, 2) := by decide +kernel
theorem dX3_init_24 : decode cX3_init 24 = .ok (.invokespecial 11, 3) := by decide +kernel
theorem dX3_init_27 : decode cX3_init 27 = .ok (.putfield 20, 3) := by decide +kernel
theorem dX3_init_30 : decode cX3_init 30 = .ok (.aload_n 0, 1) := by decide +kernel
theorem dX3_init_31 : decode cX3_init 31 = .ok (.new 9, 3) := by decide +kernel
theorem dX3_init_34 : decode cX3_init 34 = .ok (.dup, 1) := by decide +kernel
theorem dX3_init_35 : decode cX3_init 35 = .ok (.bipush 40, 2) := by decide +kernel
theorem dX3_init_37 : decode cX3_init 37 = .ok (.invokespecial 11, 3) := by decide +kernel
theorem dX3_init_40 : decode cX3_init 40 = .ok (.putfield 23, 3) := by decide +kernel
theorem dX3_init_43 : decode cX3_init 43 = .ok (.aload_n 0, 1) := by decide +kernel
theorem dX3_init_44 : decode cX3_init 44 = .ok (.new 9, 3) := by decide +kernel
theorem dX3_init_47 : decode cX3_init 47 = .ok (.dup, 1) := by decide +kernel
theorem dX3_init_48 : decode cX3_init 48 = .ok (.bipush 40, 2) := by decide +kernel
theorem dX3_init_50 : decode cX3_init 50 = .ok (.invokespecial 11, 3) := by decide +kernel
theorem dX3_init_53 : decode cX3_init 53 = .ok (.putfield 26, 3) := by decide +kernel
theorem dX3_init_56 : decode cX3_init 56 = .ok (.aload_n 0, 1) := by decide +kernel
theorem dX3_init_57 : decode cX3_init 57 = .ok (.iconst 0, 1) := by decide +kernel
theorem dX3_init_58 : decode cX3_init 58 = .ok (.putfield 29, 3) := by decide +kernel
theorem dX3_init_61 : decode cX3_init 61 = .ok (.return_, 1) := by decide +kernel
theorem dX3_append_0 : decode cX3_append 0 = .ok (.iload_n 1, 1) := by decide +kernel
theorem dX3_append_1 : decode cX3_append 1 = .ok (.bipush 33, 2) := by decide +kernel
theorem dX3_append_3 : decode cX3_append 3 = .ok (.if_icmp .lt 9, 3) := by decide +kernel
theorem dX3_append_6 : decode cX3_append 6 = .ok (.iload_n 1, 1) := by decide +kernel
theorem dX3_append_7 : decode cX3_append 7 = .ok (.bipush 126, 2) := by decide +kernel
theorem dX3_append_9 : decode cX3_append 9 = .ok (.if_icmp .le 6, 3) := by decide +kernel
theorem dX3_append_12 : decode cX3_append 12 = .ok (.bipush (-2), 2) := by decide +kernel
theorem dX3_append_14 : decode cX3_append 14 = .ok (.ireturn, 1) := by decide +kernel
theorem dX3_append_15 : decode cX3_append 15 = .ok (.aload_n 0, 1) := by decide +kernel
theorem dX3_append_16 : decode cX3_append 16 = .ok (.getfield 29, 3) := by decide +kernel
theorem dX3_append_19 : decode cX3_append 19 = .ok (.bipush 80, 2) := by decide +kernel
theorem dX3_append_21 : decode cX3_append 21 = .ok (.if_icmp .lt 6, 3) := by decide +kernel
theorem dX3_append_24 : decode cX3_append 24 = .ok (.bipush (-4), 2) := by decide +kernel
theorem dX3_append_26 : decode cX3_append 26 = .ok (.ireturn, 1) := by decide +kernel
theorem dX3_append_27 : decode cX3_append 27 = .ok (.aload_n 0, 1) := by decide +kernel
theorem dX3_append_28 : decode cX3_append 28 = .ok (.getfield 14, 3) := by decide +kernel
theorem dX3_append_31 : decode cX3_append 31 = .ok (.aload_n 0, 1) := by decide +kernel
theorem dX3_append_32 : decode cX3_append 32 = .ok (.getfield 29, 3) := by decide +kernel
theorem dX3_append_35 : decode cX3_append 35 = .ok (.iload_n 1, 1) := by decide +kernel
theorem dX3_append_36 : decode cX3_append 36 = .ok (.invokevirtual 33, 3) := by decide +kernel
theorem dX3_append_39 : decode cX3_append 39 = .ok (.aload_n 0, 1) := by decide +kernel
theorem dX3_append_40 : decode cX3_append 40 = .ok (.dup, 1) := by decide +kernel
theorem dX3_append_41 : decode cX3_append 41 = .ok (.getfield 29, 3) := by decide +kernel
theorem dX3_append_44 : decode cX3_append 44 = .ok (.iconst 1, 1) := by decide +kernel
theorem dX3_append_45 : decode cX3_append 45 = .ok (.iadd, 1) := by decide +kernel
theorem dX3_append_46 : decode cX3_append 46 = .ok (.putfield 29, 3) := by decide +kernel
theorem dX3_append_49 : decode cX3_append 49 = .ok (.aload_n 0, 1) := by decide +kernel
theorem dX3_append_50 : decode cX3_append 50 = .ok (.getfield 29, 3) := by decide +kernel
theorem dX3_append_53 : decode cX3_append 53 = .ok (.ireturn, 1) := by decide +kernel
theorem dX3_empty_0 : decode cX3_empty 0 = .ok (.aload_n 0, 1) := by decide +kernel
theorem dX3_empty_1 : decode cX3_empty 1 = .ok (.getfield 29, 3) := by decide +kernel
theorem dX3_empty_4 : decode cX3_empty 4 = .ok (.istore_n 1, 1) := by decide +kernel
theorem dX3_empty_5 : decode cX3_empty 5 = .ok (.aload_n 0, 1) := by decide +kernel
theorem dX3_empty_6 : decode cX3_empty 6 = .ok (.iconst 0, 1) := by decide +kernel
theorem dX3_empty_7 : decode cX3_empty 7 = .ok (.putfield 29, 3) := by decide +kernel
theorem dX3_empty_10 : decode cX3_empty 10 = .ok (.iload_n 1, 1) := by decide +kernel
theorem dX3_empty_11 : decode cX3_empty 11 = .ok (.ireturn, 1) := by decide +kernel
theorem dX3_firstError_0 : decode cX3_firstError 0 = .ok (.iconst 0, 1) := by decide +kernel
theorem dX3_firstError_1 : decode cX3_firstError 1 = .ok (.istore_n 1, 1) := by decide +kernel
theorem dX3_firstError_2 : decode cX3_firstError 2 = .ok (.iconst 0, 1) := by decide +kernel
theorem dX3_firstError_3 : decode cX3_firstError 3 = .ok (.istore_n 2, 1) := by decide +kernel
theorem dX3_firstError_4 : decode cX3_firstError 4 = .ok (.iload_n 2, 1) := by decide +kernel
theorem dX3_firstError_5 : decode cX3_firstError 5 = .ok (.aload_n 0, 1) := by decide +kernel
theorem dX3_firstError_6 : decode cX3_firstError 6 = .ok (.getfield 29, 3) := by decide +kernel
theorem dX3_firstError_9 : decode cX3_firstError 9 = .ok (.if_icmp .ge 29, 3) := by decide +kernel
theorem dX3_firstError_12 : decode cX3_firstError 12 = .ok (.iload_n 1, 1) := by decide +kernel
theorem dX3_firstError_13 : decode cX3_firstError 13 = .ok (.aload_n 0, 1) := by decide +kernel
theorem dX3_firstError_14 : decode cX3_firstError 14 = .ok (.getfield 14, 3) := by decide +kernel
theorem dX3_firstError_17 : decode cX3_firstError 17 = .ok (.iload_n 2, 1) := by decide +kernel
theorem dX3_firstError_18 : decode cX3_firstError 18 = .ok (.invokevirtual 37, 3) := by decide +kernel
theorem dX3_firstError_21 : decode cX3_firstError 21 = .ok (.invokestatic 41, 3) := by decide +kernel
theorem dX3_firstError_24 : decode cX3_firstError 24 = .ok (.istore_n 1, 1) := by decide +kernel
theorem dX3_firstError_25 : decode cX3_firstError 25 = .ok (.iload_n 1, 1) := by decide +kernel
theorem dX3_firstError_26 : decode cX3_firstError 26 = .ok (.iconst (-1), 1) := by decide +kernel
theorem dX3_firstError_27 : decode cX3_firstError 27 = .ok (.if_icmp .ne 5, 3) := by decide +kernel
theorem dX3_firstError_30 : decode cX3_firstError 30 = .ok (.iload_n 2, 1) := by decide +kernel
theorem dX3_firstError_31 : decode cX3_firstError 31 = .ok (.ireturn, 1) := by decide +kernel
theorem dX3_firstError_32 : decode cX3_firstError 32 = .ok (.iinc 2 1, 3) := by decide +kernel
theorem dX3_firstError_35 : decode cX3_firstError 35 = .ok (.goto (-31), 3) := by decide +kernel
theorem dX3_firstError_38 : decode cX3_firstError 38 = .ok (.iload_n 1, 1) := by decide +kernel
theorem dX3_firstError_39 : decode cX3_firstError 39 = .ok (.iconst 1, 1) := by decide +kernel
theorem dX3_firstError_40 : decode cX3_firstError 40 = .ok (.if_icmp .eq 9, 3) := by decide +kernel
theorem dX3_firstError_43 : decode cX3_firstError 43 = .ok (.iload_n 1, 1) := by decide +kernel
theorem dX3_firstError_44 : decode cX3_firstError 44 = .ok (.bipush 20, 2) := by decide +kernel
theorem dX3_firstError_46 : decode cX3_firstError 46 = .ok (.if_icmp .le 7, 3) := by decide +kernel
theorem dX3_firstError_49 : decode cX3_firstError 49 = .ok (.iconst 1, 1) := by decide +kernel
theorem dX3_firstError_50 : decode cX3_firstError 50 = .ok (.goto 4, 3) := by decide +kernel
theorem dX3_firstError_53 : decode cX3_firstError 53 = .ok (.iconst 0, 1) := by decide +kernel
theorem dX3_firstError_54 : decode cX3_firstError 54 = .ok (.istore_n 2, 1) := by decide +kernel
theorem dX3_firstError_55 : decode cX3_firstError 55 = .ok (.iload_n 2, 1) := by decide +kernel
theorem dX3_firstError_56 : decode cX3_firstError 56 = .ok (.ifCond .eq 8, 3) := by decide +kernel
theorem dX3_firstError_59 : decode cX3_firstError 59 = .ok (.bipush (-6), 2) := by decide +kernel
theorem dX3_firstError_61 : decode cX3_firstError 61 = .ok (.goto 7, 3) := by decide +kernel
theorem dX3_firstError_64 : decode cX3_firstError 64 = .ok (.aload_n 0, 1) := by decide +kernel
theorem dX3_firstError_65 : decode cX3_firstError 65 = .ok (.getfield 29, 3) := by decide +kernel
theorem dX3_firstError_68 : decode cX3_firstError 68 = .ok (.ireturn, 1) := by decide +kernel
theorem dX3_placeBehind_0 : decode cX3_placeBehind 0 = .ok (.iload_n 0, 1) := by decide +kernel
theorem dX3_placeBehind_1 : decode cX3_placeBehind 1 = .ok (.ifCond .ne 8, 3) := by decide +kernel
theorem dX3_placeBehind_4 : decode cX3_placeBehind 4 = .ok (.iload_n 1, 1) := by decide +kernel
theorem dX3_placeBehind_5 : decode cX3_placeBehind 5 = .ok (.invokestatic 45, 3) := by decide +kernel
theorem dX3_placeBehind_8 : decode cX3_placeBehind 8 = .ok (.ireturn, 1) := by decide +kernel
theorem dX3_placeBehind_9 : decode cX3_placeBehind 9 = .ok (.iload_n 0, 1) := by decide +kernel
theorem dX3_placeBehind_10 : decode cX3_placeBehind 10 = .ok (.iconst 1, 1) := by decide +kernel
theorem dX3_placeBehind_11 : decode cX3_placeBehind 11 = .ok (.if_icmp .ne 15, 3) := by decide +kernel
theorem dX3_placeBehind_14 : decode cX3_placeBehind 14 = .ok (.iload_n 1, 1) := by decide +kernel
theorem dX3_placeBehind_15 : decode cX3_placeBehind 15 = .ok (.bipush 59, 2) := by decide +kernel
theorem dX3_placeBehind_17 : decode cX3_placeBehind 17 = .ok (.if_icmp .ne 7, 3) := by decide +kernel
theorem dX3_placeBehind_20 : decode cX3_placeBehind 20 = .ok (.iconst 0, 1) := by decide +kernel
theorem dX3_placeBehind_21 : decode cX3_placeBehind 21 = .ok (.goto 4, 3) := by decide +kernel
theorem dX3_placeBehind_24 : decode cX3_placeBehind 24 = .ok (.iconst (-1), 1) := by decide +kernel
theorem dX3_placeBehind_25 : decode cX3_placeBehind 25 = .ok (.ireturn, 1) := by decide +kernel
theorem dX3_placeBehind_26 : decode cX3_placeBehind 26 = .ok (.iload_n 0, 1) := by decide +kernel
theorem dX3_placeBehind_27 : decode cX3_placeBehind 27 = .ok (.bipush 20, 2) := by decide +kernel
theorem dX3_placeBehind_29 : decode cX3_placeBehind 29 = .ok (.if_icmp .ge 8, 3) := by decide +kernel
theorem dX3_placeBehind_32 : decode cX3_placeBehind 32 = .ok (.bipush 10, 2) := by decide +kernel
theorem dX3_placeBehind_34 : decode cX3_placeBehind 34 = .ok (.goto 5, 3) := by decide +kernel
theorem dX3_placeBehind_37 : decode cX3_placeBehind 37 = .ok (.bipush 20, 2) := by decide +kernel
theorem dX3_placeBehind_39 : decode cX3_placeBehind 39 = .ok (.istore_n 2, 1) := by decide +kernel
theorem dX3_placeBehind_40 : decode cX3_placeBehind 40 = .ok (.iload_n 1, 1) := by decide +kernel
theorem dX3_placeBehind_41 : decode cX3_placeBehind 41 = .ok (.invokestatic 48, 3) := by decide +kernel
theorem dX3_placeBehind_44 : decode cX3_placeBehind 44 = .ok (.ifCond .eq 18, 3) := by decide +kernel
theorem dX3_placeBehind_47 : decode cX3_placeBehind 47 = .ok (.iload_n 0, 1) := by decide +kernel
theorem dX3_placeBehind_48 : decode cX3_placeBehind 48 = .ok (.iload_n 2, 1) := by decide +kernel
theorem dX3_placeBehind_49 : decode cX3_placeBehind 49 = .ok (.iconst 5, 1) := by decide +kernel
theorem dX3_placeBehind_50 : decode cX3_placeBehind 50 = .ok (.iadd, 1) := by decide +kernel
theorem dX3_placeBehind_51 : decode cX3_placeBehind 51 = .ok (.if_icmp .ge 9, 3) := by decide +kernel
theorem dX3_placeBehind_54 : decode cX3_placeBehind 54 = .ok (.iload_n 0, 1) := by decide +kernel
theorem dX3_placeBehind_55 : decode cX3_placeBehind 55 = .ok (.iconst 1, 1) := by decide +kernel
theorem dX3_placeBehind_56 : decode cX3_placeBehind 56 = .ok (.iadd, 1) := by decide +kernel
theorem dX3_placeBehind_57 : decode cX3_placeBehind 57 = .ok (.goto 4, 3) := by decide +kernel
theorem dX3_placeBehind_60 : decode cX3_placeBehind 60 = .ok (.iconst (-1), 1) := by decide +kernel
theorem dX3_placeBehind_61 : decode cX3_placeBehind 61 = .ok (.ireturn, 1) := by decide +kernel
theorem dX3_placeBehind_62 : decode cX3_placeBehind 62 = .ok (.iload_n 0, 1) := by decide +kernel
theorem dX3_placeBehind_63 : decode cX3_placeBehind 63 = .ok (.iload_n 2, 1) := by decide +kernel
theorem dX3_placeBehind_64 : decode cX3_placeBehind 64 = .ok (.if_icmp .ne 5, 3) := by decide +kernel
theorem dX3_placeBehind_67 : decode cX3_placeBehind 67 = .ok (.iconst (-1), 1) := by decide +kernel
theorem dX3_placeBehind_68 : decode cX3_placeBehind 68 = .ok (.ireturn, 1) := by decide +kernel
theorem dX3_placeBehind_69 : decode cX3_placeBehind 69 = .ok (.iload_n 2, 1) := by decide +kernel
theorem dX3_placeBehind_70 : decode cX3_placeBehind 70 = .ok (.bipush 10, 2) := by decide +kernel
theorem dX3_placeBehind_72 : decode cX3_placeBehind 72 = .ok (.if_icmp .ne 16, 3) := by decide +kernel
theorem dX3_placeBehind_75 : decode cX3_placeBehind 75 = .ok (.iload_n 1, 1) := by decide +kernel
theorem dX3_placeBehind_76 : decode cX3_placeBehind 76 = .ok (.bipush 61, 2) := by decide +kernel
theorem dX3_placeBehind_78 : decode cX3_placeBehind 78 = .ok (.if_icmp .ne 8, 3) := by decide +kernel
theorem dX3_placeBehind_81 : decode cX3_placeBehind 81 = .ok (.bipush 20, 2) := by decide +kernel
theorem dX3_placeBehind_83 : decode cX3_placeBehind 83 = .ok (.goto 4, 3) := by decide +kernel
theorem dX3_placeBehind_86 : decode cX3_placeBehind 86 = .ok (.iconst (-1), 1) := by decide +kernel
theorem dX3_placeBehind_87 : decode cX3_placeBehind 87 = .ok (.ireturn, 1) := by decide +kernel
theorem dX3_placeBehind_88 : decode cX3_placeBehind 88 = .ok (.iload_n 1, 1) := by decide +kernel
theorem dX3_placeBehind_89 : decode cX3_placeBehind 89 = .ok (.bipush 59, 2) := by decide +kernel
theorem dX3_placeBehind_91 : decode cX3_placeBehind 91 = .ok (.if_icmp .ne 7, 3) := by decide +kernel
theorem dX3_placeBehind_94 : decode cX3_placeBehind 94 = .ok (.iconst 0, 1) := by decide +kernel
theorem dX3_placeBehind_95 : decode cX3_placeBehind 95 = .ok (.goto 4, 3) := by decide +kernel
theorem dX3_placeBehind_98 : decode cX3_placeBehind 98 = .ok (.iconst (-1), 1) := by decide +kernel
theorem dX3_placeBehind_99 : decode cX3_placeBehind 99 = .ok (.ireturn, 1) := by decide +kernel
theorem dX3_placeBehindLetter_0 : decode cX3_placeBehindLetter 0 = .ok (.iload_n 0, 1) := by decide +kernel
theorem dX3_placeBehindLetter_1 : decode cX3_placeBehindLetter 1 = .ok (.lookupswitch 59 #[(98, 57), (102, 57), (115, 54), (119, 51), (120, 57)], 51) := by decide +kernel
theorem dX3_placeBehindLetter_52 : decode cX3_placeBehindLetter 52 = .ok (.bipush 10, 2) := by decide +kernel
theorem dX3_placeBehindLetter_54 : decode cX3_placeBehindLetter 54 = .ok (.ireturn, 1) := by decide +kernel
theorem dX3_placeBehindLetter_55 : decode cX3_placeBehindLetter 55 = .ok (.bipush 20, 2) := by decide +kernel
theorem dX3_placeBehindLetter_57 : decode cX3_placeBehindLetter 57 = .ok (.ireturn, 1) := by decide +kernel
theorem dX3_placeBehindLetter_58 : decode cX3_placeBehindLetter 58 = .ok (.iconst 1, 1) := by decide +kernel
theorem dX3_placeBehindLetter_59 : decode cX3_placeBehindLetter 59 = .ok (.ireturn, 1) := by decide +kernel
theorem dX3_placeBehindLetter_60 : decode cX3_placeBehindLetter 60 = .ok (.iconst (-1), 1) := by decide +kernel
theorem dX3_placeBehindLetter_61 : decode cX3_placeBehindLetter 61 = .ok (.ireturn, 1) := by decide +kernel
theorem dX3_isDigit_0 : decode cX3_isDigit 0 = .ok (.iload_n 0, 1) := by decide +kernel
theorem dX3_isDigit_1 : decode cX3_isDigit 1 = .ok (.bipush 48, 2) := by decide +kernel
theorem dX3_isDigit_3 : decode cX3_isDigit 3 = .ok (.if_icmp .lt 13, 3) := by decide +kernel
theorem dX3_isDigit_6 : decode cX3_isDigit 6 = .ok (.iload_n 0, 1) := by decide +kernel
theorem dX3_isDigit_7 : decode cX3_isDigit 7 = .ok (.bipush 57, 2) := by decide +kernel
theorem dX3_isDigit_9 : decode cX3_isDigit 9 = .ok (.if_icmp .gt 7, 3) := by decide +kernel
theorem dX3_isDigit_12 : decode cX3_isDigit 12 = .ok (.iconst 1, 1) := by decide +kernel
theorem dX3_isDigit_13 : decode cX3_isDigit 13 = .ok (.goto 4, 3) := by decide +kernel
theorem dX3_isDigit_16 : decode cX3_isDigit 16 = .ok (.iconst 0, 1) := by decide +kernel
theorem dX3_isDigit_17 : decode cX3_isDigit 17 = .ok (.ireturn, 1) := by decide +kernel
theorem dX3_split_0 : decode cX3_split 0 = .ok (.iconst 0, 1) := by decide +kernel
theorem dX3_split_1 : decode cX3_split 1 = .ok (.istore_n 1, 1) := by decide +kernel
theorem dX3_split_2 : decode cX3_split 2 = .ok (.iconst 0, 1) := by decide +kernel
theorem dX3_split_3 : decode cX3_split 3 = .ok (.istore_n 2, 1) := by decide +kernel
theorem dX3_split_4 : decode cX3_split 4 = .ok (.iconst 0, 1) := by decide +kernel
theorem dX3_split_5 : decode cX3_split 5 = .ok (.istore_n 3, 1) := by decide +kernel
theorem dX3_split_6 : decode cX3_split 6 = .ok (.iload_n 3, 1) := by decide +kernel
theorem dX3_split_7 : decode cX3_split 7 = .ok (.aload_n 0, 1) := by decide +kernel
theorem dX3_split_8 : decode cX3_split 8 = .ok (.getfield 29, 3) := by decide +kernel
theorem dX3_split_11 : decode cX3_split 11 = .ok (.if_icmp .ge 97, 3) := by decide +kernel
theorem dX3_split_14 : decode cX3_split 14 = .ok (.aload_n 0, 1) := by decide +kernel
theorem dX3_split_15 : decode cX3_split 15 = .ok (.getfield 14, 3) := by decide +kernel
theorem dX3_split_18 : decode cX3_split 18 = .ok (.iload_n 3, 1) := by decide +kernel
theorem dX3_split_19 : decode cX3_split 19 = .ok (.invokevirtual 37, 3) := by decide +kernel
theorem dX3_split_22 : decode cX3_split 22 = .ok (.istore 4, 2) := by decide +kernel
theorem dX3_split_24 : decode cX3_split 24 = .ok (.iload 4, 2) := by decide +kernel
theorem dX3_split_26 : decode cX3_split 26 = .ok (.invokestatic 48, 3) := by decide +kernel
theorem dX3_split_29 : decode cX3_split 29 = .ok (.ifCond .eq 28, 3) := by decide +kernel
theorem dX3_split_32 : decode cX3_split 32 = .ok (.bipush 10, 2) := by decide +kernel
theorem dX3_split_34 : decode cX3_split 34 = .ok (.iload_n 2, 1) := by decide +kernel
theorem dX3_split_35 : decode cX3_split 35 = .ok (.imul, 1) := by decide +kernel
theorem dX3_split_36 : decode cX3_split 36 = .ok (.iload 4, 2) := by decide +kernel
theorem dX3_split_38 : decode cX3_split 38 = .ok (.iadd, 1) := by decide +kernel
theorem dX3_split_39 : decode cX3_split 39 = .ok (.bipush 48, 2) := by decide +kernel
theorem dX3_split_41 : decode cX3_split 41 = .ok (.isub, 1) := by decide +kernel
theorem dX3_split_42 : decode cX3_split 42 = .ok (.istore_n 2, 1) := by decide +kernel
theorem dX3_split_43 : decode cX3_split 43 = .ok (.aload_n 0, 1) := by decide +kernel
theorem dX3_split_44 : decode cX3_split 44 = .ok (.getfield 26, 3) := by decide +kernel
theorem dX3_split_47 : decode cX3_split 47 = .ok (.iload_n 1, 1) := by decide +kernel
theorem dX3_split_48 : decode cX3_split 48 = .ok (.iconst 1, 1) := by decide +kernel
theorem dX3_split_49 : decode cX3_split 49 = .ok (.isub, 1) := by decide +kernel
theorem dX3_split_50 : decode cX3_split 50 = .ok (.iload_n 2, 1) := by decide +kernel
theorem dX3_split_51 : decode cX3_split 51 = .ok (.invokevirtual 33, 3) := by decide +kernel
theorem dX3_split_54 : decode cX3_split 54 = .ok (.goto 48, 3) := by decide +kernel
theorem dX3_split_57 : decode cX3_split 57 = .ok (.iload 4, 2) := by decide +kernel
theorem dX3_split_59 : decode cX3_split 59 = .ok (.bipush 61, 2) := by decide +kernel
theorem dX3_split_61 : decode cX3_split 61 = .ok (.if_icmp .ne 19, 3) := by decide +kernel
theorem dX3_split_64 : decode cX3_split 64 = .ok (.aload_n 0, 1) := by decide +kernel
theorem dX3_split_65 : decode cX3_split 65 = .ok (.getfield 23, 3) := by decide +kernel
theorem dX3_split_68 : decode cX3_split 68 = .ok (.iload_n 1, 1) := by decide +kernel
theorem dX3_split_69 : decode cX3_split 69 = .ok (.iconst 1, 1) := by decide +kernel
theorem dX3_split_70 : decode cX3_split 70 = .ok (.isub, 1) := by decide +kernel
theorem dX3_split_71 : decode cX3_split 71 = .ok (.iload_n 2, 1) := by decide +kernel
theorem dX3_split_72 : decode cX3_split 72 = .ok (.invokevirtual 33, 3) := by decide +kernel
theorem dX3_split_75 : decode cX3_split 75 = .ok (.iconst 0, 1) := by decide +kernel
theorem dX3_split_76 : decode cX3_split 76 = .ok (.istore_n 2, 1) := by decide +kernel
theorem dX3_split_77 : decode cX3_split 77 = .ok (.goto 25, 3) := by decide +kernel
theorem dX3_split_80 : decode cX3_split 80 = .ok (.iload 4, 2) := by decide +kernel
theorem dX3_split_82 : decode cX3_split 82 = .ok (.bipush 59, 2) := by decide +kernel
theorem dX3_split_84 : decode cX3_split 84 = .ok (.if_icmp .eq 18, 3) := by decide +kernel
theorem dX3_split_87 : decode cX3_split 87 = .ok (.aload_n 0, 1) := by decide +kernel
theorem dX3_split_88 : decode cX3_split 88 = .ok (.getfield 20, 3) := by decide +kernel
theorem dX3_split_91 : decode cX3_split 91 = .ok (.iload_n 1, 1) := by decide +kernel
theorem dX3_split_92 : decode cX3_split 92 = .ok (.iload 4, 2) := by decide +kernel
theorem dX3_split_94 : decode cX3_split 94 = .ok (.invokevirtual 33, 3) := by decide +kernel
theorem dX3_split_97 : decode cX3_split 97 = .ok (.iinc 1 1, 3) := by decide +kernel
theorem dX3_split_100 : decode cX3_split 100 = .ok (.iconst 0, 1) := by decide +kernel
theorem dX3_split_101 : decode cX3_split 101 = .ok (.istore_n 2, 1) := by decide +kernel
theorem dX3_split_102 : decode cX3_split 102 = .ok (.iinc 3 1, 3) := by decide +kernel
theorem dX3_split_105 : decode cX3_split 105 = .ok (.goto (-99), 3) := by decide +kernel
theorem dX3_split_108 : decode cX3_split 108 = .ok (.iload_n 1, 1) := by decide +kernel
theorem dX3_split_109 : decode cX3_split 109 = .ok (.ireturn, 1) := by decide +kernel
theorem dX3_letter_0 : decode cX3_letter 0 = .ok (.aload_n 0, 1) := by decide +kernel
theorem dX3_letter_1 : decode cX3_letter 1 = .ok (.getfield 20, 3) := by decide +kernel
theorem dX3_letter_4 : decode cX3_letter 4 = .ok (.iload_n 1, 1) := by decide +kernel
theorem dX3_letter_5 : decode cX3_letter 5 = .ok (.invokevirtual 37, 3) := by decide +kernel
theorem dX3_letter_8 : decode cX3_letter 8 = .ok (.ireturn, 1) := by decide +kernel
theorem dX3_sector_0 : decode cX3_sector 0 = .ok (.aload_n 0, 1) := by decide +kernel
theorem dX3_sector_1 : decode cX3_sector 1 = .ok (.getfield 23, 3) := by decide +kernel
theorem dX3_sector_4 : decode cX3_sector 4 = .ok (.iload_n 1, 1) := by decide +kernel
theorem dX3_sector_5 : decode cX3_sector 5 = .ok (.invokevirtual 37, 3) := by decide +kernel
theorem dX3_sector_8 : decode cX3_sector 8 = .ok (.ireturn, 1) := by decide +kernel
theorem dX3_number_0 : decode cX3_number 0 = .ok (.aload_n 0, 1) := by decide +kernel
theorem dX3_number_1 : decode cX3_number 1 = .ok (.getfield 26, 3) := by decide +kernel
theorem dX3_number_4 : decode cX3_number 4 = .ok (.iload_n 1, 1) := by decide +kernel
theorem dX3_number_5 : decode cX3_number 5 = .ok (.invokevirtual 37, 3) := by decide +kernel
theorem dX3_number_8 : decode cX3_number 8 = .ok (.ireturn, 1) := by decide +kernel
theorem dX4_init_0 : decode cX4_init 0 = .ok (.aload_n 0, 1) := by decide +kernel
theorem dX4_init_1 : decode cX4_init 1 = .ok (.invokespecial 3, 3) := by decide +kernel
theorem dX4_init_4 : decode cX4_init 4 = .ok (.aload_n 0, 1) := by decide +kernel
theorem dX4_init_5 : decode cX4_init 5 = .ok (.new 9, 3) := by decide +kernel
theorem dX4_init_8 : decode cX4_init 8 = .ok (.dup, 1) := by decide +kernel
theorem dX4_init_9 : decode cX4_init 9 = .ok (.invokespecial 11, 3) := by decide +kernel
theorem dX4_init_12 : decode cX4_init 12 = .ok (.putfield 12, 3) := by decide +kernel
theorem dX4_init_15 : decode cX4_init 15 = .ok (.aload_n 0, 1) := by decide +kernel
theorem dX4_init_16 : decode cX4_init 16 = .ok (.new 9, 3) := by decide +kernel
theorem dX4_init_19 : decode cX4_init 19 = .ok (.dup, 1) := by decide +kernel
theorem dX4_init_20 : decode cX4_init 20 = .ok (.invokespecial 11, 3) := by decide +kernel
theorem dX4_init_23 : decode cX4_init 23 = .ok (.putfield 16, 3) := by decide +kernel
theorem dX4_init_26 : decode cX4_init 26 = .ok (.aload_n 0, 1) := by decide +kernel
theorem dX4_init_27 : decode cX4_init 27 = .ok (.new 19, 3) := by decide +kernel
theorem dX4_init_30 : decode cX4_init 30 = .ok (.dup, 1) := by decide +kernel
theorem dX4_init_31 : decode cX4_init 31 = .ok (.invokespecial 21, 3) := by decide +kernel
theorem dX4_init_34 : decode cX4_init 34 = .ok (.putfield 22, 3) := by decide +kernel
theorem dX4_init_37 : decode cX4_init 37 = .ok (.aload_n 0, 1) := by decide +kernel
theorem dX4_init_38 : decode cX4_init 38 = .ok (.new 26, 3) := by decide +kernel
theorem dX4_init_41 : decode cX4_init 41 = .ok (.dup, 1) := by decide +kernel
theorem dX4_init_42 : decode cX4_init 42 = .ok (.invokespecial 28, 3) := by decide +kernel
theorem dX4_init_45 : decode cX4_init 45 = .ok (.putfield 29, 3) := by decide +kernel
theorem dX4_init_48 : decode cX4_init 48 = .ok (.return_, 1) := by decide +kernel
theorem dX4_format_0 : decode cX4_format 0 = .ok (.aload_n 0, 1) := by decide +kernel
theorem dX4_format_1 : decode cX4_format 1 = .ok (.getfield 22, 3) := by decide +kernel
theorem dX4_format_4 : decode cX4_format 4 = .ok (.aload_n 0, 1) := by decide +kernel
theorem dX4_format_5 : decode cX4_format 5 = .ok (.getfield 12, 3) := by decide +kernel
theorem dX4_format_8 : decode cX4_format 8 = .ok (.invokevirtual 33, 3) := by decide +kernel
theorem dX4_format_11 : decode cX4_format 11 = .ok (.aload_n 0, 1) := by decide +kernel
theorem dX4_format_12 : decode cX4_format 12 = .ok (.getfield 22, 3) := by decide +kernel
theorem dX4_format_15 : decode cX4_format 15 = .ok (.aload_n 0, 1) := by decide +kernel
theorem dX4_format_16 : decode cX4_format 16 = .ok (.getfield 12, 3) := by decide +kernel
theorem dX4_format_19 : decode cX4_format 19 = .ok (.iload_n 1, 1) := by decide +kernel
theorem dX4_format_20 : decode cX4_format 20 = .ok (.invokevirtual 37, 3) := by decide +kernel
theorem dX4_format_23 : decode cX4_format 23 = .ok (.invokevirtual 41, 3) := by decide +kernel
theorem dX4_format_26 : decode cX4_format 26 = .ok (.ireturn, 1) := by decide +kernel
theorem dX4_addKey_0 : decode cX4_addKey 0 = .ok (.aload_n 0, 1) := by decide +kernel
theorem dX4_addKey_1 : decode cX4_addKey 1 = .ok (.getfield 22, 3) := by decide +kernel
theorem dX4_addKey_4 : decode cX4_addKey 4 = .ok (.aload_n 0, 1) := by decide +kernel
theorem dX4_addKey_5 : decode cX4_addKey 5 = .ok (.getfield 12, 3) := by decide +kernel
theorem dX4_addKey_8 : decode cX4_addKey 8 = .ok (.invokevirtual 33, 3) := by decide +kernel
theorem dX4_addKey_11 : decode cX4_addKey 11 = .ok (.aload_n 0, 1) := by decide +kernel
theorem dX4_addKey_12 : decode cX4_addKey 12 = .ok (.getfield 22, 3) := by decide +kernel
theorem dX4_addKey_15 : decode cX4_addKey 15 = .ok (.aload_n 0, 1) := by decide +kernel
theorem dX4_addKey_16 : decode cX4_addKey 16 = .ok (.getfield 12, 3) := by decide +kernel
theorem dX4_addKey_19 : decode cX4_addKey 19 = .ok (.iload_n 1, 1) := by decide +kernel
theorem dX4_addKey_20 : decode cX4_addKey 20 = .ok (.iload_n 2, 1) := by decide +kernel
theorem dX4_addKey_21 : decode cX4_addKey 21 = .ok (.invokevirtual 44, 3) := by decide +kernel
theorem dX4_addKey_24 : decode cX4_addKey 24 = .ok (.invokevirtual 41, 3) := by decide +kernel
theorem dX4_addKey_27 : decode cX4_addKey 27 = .ok (.ireturn, 1) := by decide +kernel
theorem dX4_removeKey_0 : decode cX4_removeKey 0 = .ok (.aload_n 0, 1) := by decide +kernel
theorem dX4_removeKey_1 : decode cX4_removeKey 1 = .ok (.getfield 22, 3) := by decide +kernel
theorem dX4_removeKey_4 : decode cX4_removeKey 4 = .ok (.aload_n 0, 1) := by decide +kernel
theorem dX4_removeKey_5 : decode cX4_removeKey 5 = .ok (.getfield 12, 3) := by decide +kernel
theorem dX4_removeKey_8 : decode cX4_removeKey 8 = .ok (.invokevirtual 33, 3) := by decide +kernel
theorem dX4_removeKey_11 : decode cX4_removeKey 11 = .ok (.aload_n 0, 1) := by decide +kernel
theorem dX4_removeKey_12 : decode cX4_removeKey 12 = .ok (.getfield 22, 3) := by decide +kernel
theorem dX4_removeKey_15 : decode cX4_removeKey 15 = .ok (.aload_n 0, 1) := by decide +kernel
theorem dX4_removeKey_16 : decode cX4_removeKey 16 = .ok (.getfield 12, 3) := by decide +kernel
theorem dX4_removeKey_19 : decode cX4_removeKey 19 = .ok (.iload_n 1, 1) := by decide +kernel
theorem dX4_removeKey_20 : decode cX4_removeKey 20 = .ok (.invokevirtual 48, 3) := by decide +kernel
theorem dX4_removeKey_23 : decode cX4_removeKey 23 = .ok (.invokevirtual 41, 3) := by decide +kernel
theorem dX4_removeKey_26 : decode cX4_removeKey 26 = .ok (.ireturn, 1) := by decide +kernel
theorem dX4_secretOf_0 : decode cX4_secretOf 0 = .ok (.aload_n 0, 1) := by decide +kernel
theorem dX4_secretOf_1 : decode cX4_secretOf 1 = .ok (.getfield 12, 3) := by decide +kernel
theorem dX4_secretOf_4 : decode cX4_secretOf 4 = .ok (.iload_n 1, 1) := by decide +kernel
theorem dX4_secretOf_5 : decode cX4_secretOf 5 = .ok (.invokevirtual 51, 3) := by decide +kernel
theorem dX4_secretOf_8 : decode cX4_secretOf 8 = .ok (.ifCond .eq 14, 3) := by decide +kernel
theorem dX4_secretOf_11 : decode cX4_secretOf 11 = .ok (.aload_n 0, 1) := by decide +kernel
theorem dX4_secretOf_12 : decode cX4_secretOf 12 = .ok (.getfield 12, 3) := by decide +kernel
theorem dX4_secretOf_15 : decode cX4_secretOf 15 = .ok (.iload_n 1, 1) := by decide +kernel
theorem dX4_secretOf_16 : decode cX4_secretOf 16 = .ok (.invokevirtual 55, 3) := by decide +kernel
theorem dX4_secretOf_19 : decode cX4_secretOf 19 = .ok (.goto 4, 3) := by decide +kernel
theorem dX4_secretOf_22 : decode cX4_secretOf 22 = .ok (.iconst (-1), 1) := by decide +kernel
theorem dX4_secretOf_23 : decode cX4_secretOf 23 = .ok (.ireturn, 1) := by decide +kernel
theorem dX4_setZone_0 : decode cX4_setZone 0 = .ok (.aload_n 0, 1) := by decide +kernel
theorem dX4_setZone_1 : decode cX4_setZone 1 = .ok (.getfield 22, 3) := by decide +kernel
theorem dX4_setZone_4 : decode cX4_setZone 4 = .ok (.aload_n 0, 1) := by decide +kernel
theorem dX4_setZone_5 : decode cX4_setZone 5 = .ok (.getfield 12, 3) := by decide +kernel
theorem dX4_setZone_8 : decode cX4_setZone 8 = .ok (.invokevirtual 33, 3) := by decide +kernel
theorem dX4_setZone_11 : decode cX4_setZone 11 = .ok (.aload_n 0, 1) := by decide +kernel
theorem dX4_setZone_12 : decode cX4_setZone 12 = .ok (.getfield 22, 3) := by decide +kernel
theorem dX4_setZone_15 : decode cX4_setZone 15 = .ok (.aload_n 0, 1) := by decide +kernel
theorem dX4_setZone_16 : decode cX4_setZone 16 = .ok (.getfield 12, 3) := by decide +kernel
theorem dX4_setZone_19 : decode cX4_setZone 19 = .ok (.iload_n 1, 1) := by decide +kernel
theorem dX4_setZone_20 : decode cX4_setZone 20 = .ok (.invokevirtual 58, 3) := by decide +kernel
theorem dX4_setZone_23 : decode cX4_setZone 23 = .ok (.invokevirtual 41, 3) := by decide +kernel
theorem dX4_setZone_26 : decode cX4_setZone 26 = .ok (.ireturn, 1) := by decide +kernel
theorem dX4_setJournal_0 : decode cX4_setJournal 0 = .ok (.aload_n 0, 1) := by decide +kernel
theorem dX4_setJournal_1 : decode cX4_setJournal 1 = .ok (.getfield 22, 3) := by decide +kernel
theorem dX4_setJournal_4 : decode cX4_setJournal 4 = .ok (.aload_n 0, 1) := by decide +kernel
theorem dX4_setJournal_5 : decode cX4_setJournal 5 = .ok (.getfield 12, 3) := by decide +kernel
theorem dX4_setJournal_8 : decode cX4_setJournal 8 = .ok (.invokevirtual 33, 3) := by decide +kernel
theorem dX4_setJournal_11 : decode cX4_setJournal 11 = .ok (.aload_n 0, 1) := by decide +kernel
theorem dX4_setJournal_12 : decode cX4_setJournal 12 = .ok (.getfield 22, 3) := by decide +kernel
theorem dX4_setJournal_15 : decode cX4_setJournal 15 = .ok (.aload_n 0, 1) := by decide +kernel
theorem dX4_setJournal_16 : decode cX4_setJournal 16 = .ok (.getfield 12, 3) := by decide +kernel
theorem dX4_setJournal_19 : decode cX4_setJournal 19 = .ok (.iload_n 1, 1) := by decide +kernel
theorem dX4_setJournal_20 : decode cX4_setJournal 20 = .ok (.invokevirtual 61, 3) := by decide +kernel
theorem dX4_setJournal_23 : decode cX4_setJournal 23 = .ok (.invokevirtual 41, 3) := by decide +kernel
theorem dX4_setJournal_26 : decode cX4_setJournal 26 = .ok (.ireturn, 1) := by decide +kernel
theorem dX4_start_0 : decode cX4_start 0 = .ok (.aload_n 0, 1) := by decide +kernel
theorem dX4_start_1 : decode cX4_start 1 = .ok (.getfield 22, 3) := by decide +kernel
theorem dX4_start_4 : decode cX4_start 4 = .ok (.aload_n 0, 1) := by decide +kernel
theorem dX4_start_5 : decode cX4_start 5 = .ok (.getfield 12, 3) := by decide +kernel
theorem dX4_start_8 : decode cX4_start 8 = .ok (.invokevirtual 33, 3) := by decide +kernel
theorem dX4_start_11 : decode cX4_start 11 = .ok (.aload_n 0, 1) := by decide +kernel
theorem dX4_start_12 : decode cX4_start 12 = .ok (.getfield 22, 3) := by decide +kernel
theorem dX4_start_15 : decode cX4_start 15 = .ok (.aload_n 0, 1) := by decide +kernel
theorem dX4_start_16 : decode cX4_start 16 = .ok (.getfield 12, 3) := by decide +kernel
theorem dX4_start_19 : decode cX4_start 19 = .ok (.iload_n 1, 1) := by decide +kernel
theorem dX4_start_20 : decode cX4_start 20 = .ok (.invokevirtual 64, 3) := by decide +kernel
theorem dX4_start_23 : decode cX4_start 23 = .ok (.invokevirtual 41, 3) := by decide +kernel
theorem dX4_start_26 : decode cX4_start 26 = .ok (.ireturn, 1) := by decide +kernel
theorem dX4_steps_0 : decode cX4_steps 0 = .ok (.aload_n 0, 1) := by decide +kernel
theorem dX4_steps_1 : decode cX4_steps 1 = .ok (.getfield 22, 3) := by decide +kernel
theorem dX4_steps_4 : decode cX4_steps 4 = .ok (.aload_n 0, 1) := by decide +kernel
theorem dX4_steps_5 : decode cX4_steps 5 = .ok (.getfield 12, 3) := by decide +kernel
theorem dX4_steps_8 : decode cX4_steps 8 = .ok (.invokevirtual 33, 3) := by decide +kernel
theorem dX4_steps_11 : decode cX4_steps 11 = .ok (.aload_n 0, 1) := by decide +kernel
theorem dX4_steps_12 : decode cX4_steps 12 = .ok (.getfield 22, 3) := by decide +kernel
theorem dX4_steps_15 : decode cX4_steps 15 = .ok (.aload_n 0, 1) := by decide +kernel
theorem dX4_steps_16 : decode cX4_steps 16 = .ok (.getfield 12, 3) := by decide +kernel
theorem dX4_steps_19 : decode cX4_steps 19 = .ok (.iload_n 1, 1) := by decide +kernel
theorem dX4_steps_20 : decode cX4_steps 20 = .ok (.invokevirtual 67, 3) := by decide +kernel
theorem dX4_steps_23 : decode cX4_steps 23 = .ok (.invokevirtual 41, 3) := by decide +kernel
theorem dX4_steps_26 : decode cX4_steps 26 = .ok (.ireturn, 1) := by decide +kernel
theorem dX4_turnBack_0 : decode cX4_turnBack 0 = .ok (.aload_n 0, 1) := by decide +kernel
theorem dX4_turnBack_1 : decode cX4_turnBack 1 = .ok (.getfield 22, 3) := by decide +kernel
theorem dX4_turnBack_4 : decode cX4_turnBack 4 = .ok (.aload_n 0, 1) := by decide +kernel
theorem dX4_turnBack_5 : decode cX4_turnBack 5 = .ok (.getfield 12, 3) := by decide +kernel
theorem dX4_turnBack_8 : decode cX4_turnBack 8 = .ok (.invokevirtual 33, 3) := by decide +kernel
theorem dX4_turnBack_11 : decode cX4_turnBack 11 = .ok (.aload_n 0, 1) := by decide +kernel
theorem dX4_turnBack_12 : decode cX4_turnBack 12 = .ok (.getfield 22, 3) := by decide +kernel
theorem dX4_turnBack_15 : decode cX4_turnBack 15 = .ok (.aload_n 0, 1) := by decide +kernel
theorem dX4_turnBack_16 : decode cX4_turnBack 16 = .ok (.getfield 12, 3) := by decide +kernel
theorem dX4_turnBack_19 : decode cX4_turnBack 19 = .ok (.invokevirtual 70, 3) := by decide +kernel
theorem dX4_turnBack_22 : decode cX4_turnBack 22 = .ok (.invokevirtual 41, 3) := by decide +kernel
theorem dX4_turnBack_25 : decode cX4_turnBack 25 = .ok (.ireturn, 1) := by decide +kernel
theorem dX4_write_0 : decode cX4_write 0 = .ok (.aload_n 0, 1) := by decide +kernel
theorem dX4_write_1 : decode cX4_write 1 = .ok (.getfield 22, 3) := by decide +kernel
theorem dX4_write_4 : decode cX4_write 4 = .ok (.aload_n 0, 1) := by decide +kernel
theorem dX4_write_5 : decode cX4_write 5 = .ok (.getfield 12, 3) := by decide +kernel
theorem dX4_write_8 : decode cX4_write 8 = .ok (.invokevirtual 33, 3) := by decide +kernel
theorem dX4_write_11 : decode cX4_write 11 = .ok (.aload_n 0, 1) := by decide +kernel
theorem dX4_write_12 : decode cX4_write 12 = .ok (.getfield 22, 3) := by decide +kernel
theorem dX4_write_15 : decode cX4_write 15 = .ok (.aload_n 0, 1) := by decide +kernel
theorem dX4_write_16 : decode cX4_write 16 = .ok (.getfield 12, 3) := by decide +kernel
theorem dX4_write_19 : decode cX4_write 19 = .ok (.iload_n 1, 1) := by decide +kernel
theorem dX4_write_20 : decode cX4_write 20 = .ok (.iload_n 2, 1) := by decide +kernel
theorem dX4_write_21 : decode cX4_write 21 = .ok (.invokevirtual 74, 3) := by decide +kernel
theorem dX4_write_24 : decode cX4_write 24 = .ok (.invokevirtual 41, 3) := by decide +kernel
theorem dX4_write_27 : decode cX4_write 27 = .ok (.ireturn, 1) := by decide +kernel
theorem dX4_flush_0 : decode cX4_flush 0 = .ok (.aload_n 0, 1) := by decide +kernel
theorem dX4_flush_1 : decode cX4_flush 1 = .ok (.getfield 22, 3) := by decide +kernel
theorem dX4_flush_4 : decode cX4_flush 4 = .ok (.aload_n 0, 1) := by decide +kernel
theorem dX4_flush_5 : decode cX4_flush 5 = .ok (.getfield 12, 3) := by decide +kernel
theorem dX4_flush_8 : decode cX4_flush 8 = .ok (.invokevirtual 33, 3) := by decide +kernel
theorem dX4_flush_11 : decode cX4_flush 11 = .ok (.aload_n 0, 1) := by decide +kernel
theorem dX4_flush_12 : decode cX4_flush 12 = .ok (.getfield 22, 3) := by decide +kernel
theorem dX4_flush_15 : decode cX4_flush 15 = .ok (.aload_n 0, 1) := by decide +kernel
theorem dX4_flush_16 : decode cX4_flush 16 = .ok (.getfield 12, 3) := by decide +kernel
theorem dX4_flush_19 : decode cX4_flush 19 = .ok (.invokevirtual 77, 3) := by decide +kernel
theorem dX4_flush_22 : decode cX4_flush 22 = .ok (.invokevirtual 41, 3) := by decide +kernel
theorem dX4_flush_25 : decode cX4_flush 25 = .ok (.ireturn, 1) := by decide +kernel
theorem dX4_fail_0 : decode cX4_fail 0 = .ok (.aload_n 0, 1) := by decide +kernel
theorem dX4_fail_1 : decode cX4_fail 1 = .ok (.getfield 22, 3) := by decide +kernel
theorem dX4_fail_4 : decode cX4_fail 4 = .ok (.aload_n 0, 1) := by decide +kernel
theorem dX4_fail_5 : decode cX4_fail 5 = .ok (.getfield 12, 3) := by decide +kernel
theorem dX4_fail_8 : decode cX4_fail 8 = .ok (.invokevirtual 33, 3) := by decide +kernel
theorem dX4_fail_11 : decode cX4_fail 11 = .ok (.aload_n 0, 1) := by decide +kernel
theorem dX4_fail_12 : decode cX4_fail 12 = .ok (.getfield 22, 3) := by decide +kernel
theorem dX4_fail_15 : decode cX4_fail 15 = .ok (.aload_n 0, 1) := by decide +kernel
theorem dX4_fail_16 : decode cX4_fail 16 = .ok (.getfield 12, 3) := by decide +kernel
theorem dX4_fail_19 : decode cX4_fail 19 = .ok (.invokevirtual 80, 3) := by decide +kernel
theorem dX4_fail_22 : decode cX4_fail 22 = .ok (.invokevirtual 41, 3) := by decide +kernel
theorem dX4_fail_25 : decode cX4_fail 25 = .ok (.ireturn, 1) := by decide +kernel
theorem dX4_count_0 : decode cX4_count 0 = .ok (.iload_n 1, 1) := by decide +kernel
theorem dX4_count_1 : decode cX4_count 1 = .ok (.ifCond .lt 9, 3) := by decide +kernel
theorem dX4_count_4 : decode cX4_count 4 = .ok (.iload_n 1, 1) := by decide +kernel
theorem dX4_count_5 : decode cX4_count 5 = .ok (.bipush 13, 2) := by decide +kernel
theorem dX4_count_7 : decode cX4_count 7 = .ok (.if_icmp .lt 6, 3) := by decide +kernel
theorem dX4_count_10 : decode cX4_count 10 = .ok (.bipush (-2), 2) := by decide +kernel
theorem dX4_count_12 : decode cX4_count 12 = .ok (.ireturn, 1) := by decide +kernel
theorem dX4_count_13 : decode cX4_count 13 = .ok (.iload_n 1, 1) := by decide +kernel
theorem dX4_count_14 : decode cX4_count 14 = .ok (.iconst 2, 1) := by decide +kernel
theorem dX4_count_15 : decode cX4_count 15 = .ok (.if_icmp .lt 19, 3) := by decide +kernel
theorem dX4_count_18 : decode cX4_count 18 = .ok (.iload_n 1, 1) := by decide +kernel
theorem dX4_count_19 : decode cX4_count 19 = .ok (.iconst 4, 1) := by decide +kernel
theorem dX4_count_20 : decode cX4_count 20 = .ok (.if_icmp .gt 14, 3) := by decide +kernel
theorem dX4_count_23 : decode cX4_count 23 = .ok (.aload_n 0, 1) := by decide +kernel
theorem dX4_count_24 : decode cX4_count 24 = .ok (.getfield 12, 3) := by decide +kernel
theorem dX4_count_27 : decode cX4_count 27 = .ok (.iload_n 1, 1) := by decide +kernel
theorem dX4_count_28 : decode cX4_count 28 = .ok (.invokevirtual 83, 3) := by decide +kernel
theorem dX4_count_31 : decode cX4_count 31 = .ok (.goto 11, 3) := by decide +kernel
theorem dX4_count_34 : decode cX4_count 34 = .ok (.aload_n 0, 1) := by decide +kernel
theorem dX4_count_35 : decode cX4_count 35 = .ok (.getfield 12, 3) := by decide +kernel
theorem dX4_count_38 : decode cX4_count 38 = .ok (.iload_n 1, 1) := by decide +kernel
theorem dX4_count_39 : decode cX4_count 39 = .ok (.invokevirtual 86, 3) := by decide +kernel
theorem dX4_count_42 : decode cX4_count 42 = .ok (.ireturn, 1) := by decide +kernel
theorem dX4_read_0 : decode cX4_read 0 = .ok (.aload_n 0, 1) := by decide +kernel
theorem dX4_read_1 : decode cX4_read 1 = .ok (.getfield 12, 3) := by decide +kernel
theorem dX4_read_4 : decode cX4_read 4 = .ok (.iload_n 1, 1) := by decide +kernel
theorem dX4_read_5 : decode cX4_read 5 = .ok (.invokevirtual 89, 3) := by decide +kernel
theorem dX4_read_8 : decode cX4_read 8 = .ok (.ifCond .eq 14, 3) := by decide +kernel
theorem dX4_read_11 : decode cX4_read 11 = .ok (.aload_n 0, 1) := by decide +kernel
theorem dX4_read_12 : decode cX4_read 12 = .ok (.getfield 12, 3) := by decide +kernel
theorem dX4_read_15 : decode cX4_read 15 = .ok (.iload_n 1, 1) := by decide +kernel
theorem dX4_read_16 : decode cX4_read 16 = .ok (.invokevirtual 92, 3) := by decide +kernel
theorem dX4_read_19 : decode cX4_read 19 = .ok (.goto 4, 3) := by decide +kernel
theorem dX4_read_22 : decode cX4_read 22 = .ok (.iconst (-1), 1) := by decide +kernel
theorem dX4_read_23 : decode cX4_read 23 = .ok (.ireturn, 1) := by decide +kernel
theorem dX4_stored_0 : decode cX4_stored 0 = .ok (.aload_n 0, 1) := by decide +kernel
theorem dX4_stored_1 : decode cX4_stored 1 = .ok (.getfield 12, 3) := by decide +kernel
theorem dX4_stored_4 : decode cX4_stored 4 = .ok (.iload_n 1, 1) := by decide +kernel
theorem dX4_stored_5 : decode cX4_stored 5 = .ok (.invokevirtual 89, 3) := by decide +kernel
theorem dX4_stored_8 : decode cX4_stored 8 = .ok (.ifCond .eq 14, 3) := by decide +kernel
theorem dX4_stored_11 : decode cX4_stored 11 = .ok (.aload_n 0, 1) := by decide +kernel
theorem dX4_stored_12 : decode cX4_stored 12 = .ok (.getfield 12, 3) := by decide +kernel
theorem dX4_stored_15 : decode cX4_stored 15 = .ok (.iload_n 1, 1) := by decide +kernel
theorem dX4_stored_16 : decode cX4_stored 16 = .ok (.invokevirtual 95, 3) := by decide +kernel
theorem dX4_stored_19 : decode cX4_stored 19 = .ok (.goto 4, 3) := by decide +kernel
theorem dX4_stored_22 : decode cX4_stored 22 = .ok (.iconst (-1), 1) := by decide +kernel
theorem dX4_stored_23 : decode cX4_stored 23 = .ok (.ireturn, 1) := by decide +kernel
theorem dX4_keyOf_0 : decode cX4_keyOf 0 = .ok (.aload_n 0, 1) := by decide +kernel
theorem dX4_keyOf_1 : decode cX4_keyOf 1 = .ok (.getfield 12, 3) := by decide +kernel
theorem dX4_keyOf_4 : decode cX4_keyOf 4 = .ok (.iload_n 1, 1) := by decide +kernel
theorem dX4_keyOf_5 : decode cX4_keyOf 5 = .ok (.invokevirtual 89, 3) := by decide +kernel
theorem dX4_keyOf_8 : decode cX4_keyOf 8 = .ok (.ifCond .eq 14, 3) := by decide +kernel
theorem dX4_keyOf_11 : decode cX4_keyOf 11 = .ok (.aload_n 0, 1) := by decide +kernel
theorem dX4_keyOf_12 : decode cX4_keyOf 12 = .ok (.getfield 12, 3) := by decide +kernel
theorem dX4_keyOf_15 : decode cX4_keyOf 15 = .ok (.iload_n 1, 1) := by decide +kernel
theorem dX4_keyOf_16 : decode cX4_keyOf 16 = .ok (.invokevirtual 98, 3) := by decide +kernel
theorem dX4_keyOf_19 : decode cX4_keyOf 19 = .ok (.goto 4, 3) := by decide +kernel
theorem dX4_keyOf_22 : decode cX4_keyOf 22 = .ok (.iconst (-1), 1) := by decide +kernel
theorem dX4_keyOf_23 : decode cX4_keyOf 23 = .ok (.ireturn, 1) := by decide +kernel
theorem dX4_journal_0 : decode cX4_journal 0 = .ok (.aload_n 0, 1) := by decide +kernel
theorem dX4_journal_1 : decode cX4_journal 1 = .ok (.getfield 12, 3) := by decide +kernel
theorem dX4_journal_4 : decode cX4_journal 4 = .ok (.iload_n 1, 1) := by decide +kernel
theorem dX4_journal_5 : decode cX4_journal 5 = .ok (.invokevirtual 89, 3) := by decide +kernel
theorem dX4_journal_8 : decode cX4_journal 8 = .ok (.ifCond .eq 17, 3) := by decide +kernel
theorem dX4_journal_11 : decode cX4_journal 11 = .ok (.aload_n 0, 1) := by decide +kernel
theorem dX4_journal_12 : decode cX4_journal 12 = .ok (.getfield 12, 3) := by decide +kernel
theorem dX4_journal_15 : decode cX4_journal 15 = .ok (.iload_n 1, 1) := by decide +kernel
theorem dX4_journal_16 : decode cX4_journal 16 = .ok (.invokevirtual 101, 3) := by decide +kernel
theorem dX4_journal_19 : decode cX4_journal 19 = .ok (.invokestatic 104, 3) := by decide +kernel
theorem dX4_journal_22 : decode cX4_journal 22 = .ok (.goto 4, 3) := by decide +kernel
theorem dX4_journal_25 : decode cX4_journal 25 = .ok (.iconst (-1), 1) := by decide +kernel
theorem dX4_journal_26 : decode cX4_journal 26 = .ok (.ireturn, 1) := by decide +kernel
theorem dX4_cached_0 : decode cX4_cached 0 = .ok (.aload_n 0, 1) := by decide +kernel
theorem dX4_cached_1 : decode cX4_cached 1 = .ok (.getfield 12, 3) := by decide +kernel
theorem dX4_cached_4 : decode cX4_cached 4 = .ok (.iload_n 1, 1) := by decide +kernel
theorem dX4_cached_5 : decode cX4_cached 5 = .ok (.invokevirtual 89, 3) := by decide +kernel
theorem dX4_cached_8 : decode cX4_cached 8 = .ok (.ifCond .eq 17, 3) := by decide +kernel
theorem dX4_cached_11 : decode cX4_cached 11 = .ok (.aload_n 0, 1) := by decide +kernel
theorem dX4_cached_12 : decode cX4_cached 12 = .ok (.getfield 12, 3) := by decide +kernel
theorem dX4_cached_15 : decode cX4_cached 15 = .ok (.iload_n 1, 1) := by decide +kernel
theorem dX4_cached_16 : decode cX4_cached 16 = .ok (.invokevirtual 107, 3) := by decide +kernel
theorem dX4_cached_19 : decode cX4_cached 19 = .ok (.invokestatic 104, 3) := by decide +kernel
theorem dX4_cached_22 : decode cX4_cached 22 = .ok (.goto 4, 3) := by decide +kernel
theorem dX4_cached_25 : decode cX4_cached 25 = .ok (.iconst (-1), 1) := by decide +kernel
theorem dX4_cached_26 : decode cX4_cached 26 = .ok (.ireturn, 1) := by decide +kernel
theorem dX4_zoneStart_0 : decode cX4_zoneStart 0 = .ok (.aload_n 0, 1) := by decide +kernel
theorem dX4_zoneStart_1 : decode cX4_zoneStart 1 = .ok (.getfield 12, 3) := by decide +kernel
theorem dX4_zoneStart_4 : decode cX4_zoneStart 4 = .ok (.invokevirtual 110, 3) := by decide +kernel
theorem dX4_zoneStart_7 : decode cX4_zoneStart 7 = .ok (.ifCond .eq 13, 3) := by decide +kernel
theorem dX4_zoneStart_10 : decode cX4_zoneStart 10 = .ok (.aload_n 0, 1) := by decide +kernel
theorem dX4_zoneStart_11 : decode cX4_zoneStart 11 = .ok (.getfield 12, 3) := by decide +kernel
theorem dX4_zoneStart_14 : decode cX4_zoneStart 14 = .ok (.invokevirtual 114, 3) := by decide +kernel
theorem dX4_zoneStart_17 : decode cX4_zoneStart 17 = .ok (.goto 5, 3) := by decide +kernel
theorem dX4_zoneStart_20 : decode cX4_zoneStart 20 = .ok (.bipush (-3), 2) := by decide +kernel
theorem dX4_zoneStart_22 : decode cX4_zoneStart 22 = .ok (.ireturn, 1) := by decide +kernel
theorem dX4_damaged_0 : decode cX4_damaged 0 = .ok (.aload_n 0, 1) := by decide +kernel
theorem dX4_damaged_1 : decode cX4_damaged 1 = .ok (.getfield 12, 3) := by decide +kernel
theorem dX4_damaged_4 : decode cX4_damaged 4 = .ok (.invokevirtual 117, 3) := by decide +kernel
theorem dX4_damaged_7 : decode cX4_damaged 7 = .ok (.ireturn, 1) := by decide +kernel
theorem dX4_firstDamaged_0 : decode cX4_firstDamaged 0 = .ok (.aload_n 0, 1) := by decide +kernel
theorem dX4_firstDamaged_1 : decode cX4_firstDamaged 1 = .ok (.getfield 12, 3) := by decide +kernel
theorem dX4_firstDamaged_4 : decode cX4_firstDamaged 4 = .ok (.invokevirtual 120, 3) := by decide +kernel
theorem dX4_firstDamaged_7 : decode cX4_firstDamaged 7 = .ok (.invokestatic 104, 3) := by decide +kernel
theorem dX4_firstDamaged_10 : decode cX4_firstDamaged 10 = .ok (.ireturn, 1) := by decide +kernel
theorem dX4_stepsLeft_0 : decode cX4_stepsLeft 0 = .ok (.aload_n 0, 1) := by decide +kernel
theorem dX4_stepsLeft_1 : decode cX4_stepsLeft 1 = .ok (.getfield 12, 3) := by decide +kernel
theorem dX4_stepsLeft_4 : decode cX4_stepsLeft 4 = .ok (.invokevirtual 110, 3) := by decide +kernel
theorem dX4_stepsLeft_7 : decode cX4_stepsLeft 7 = .ok (.ifCond .eq 13, 3) := by decide +kernel
theorem dX4_stepsLeft_10 : decode cX4_stepsLeft 10 = .ok (.aload_n 0, 1) := by decide +kernel
theorem dX4_stepsLeft_11 : decode cX4_stepsLeft 11 = .ok (.getfield 12, 3) := by decide +kernel
theorem dX4_stepsLeft_14 : decode cX4_stepsLeft 14 = .ok (.invokevirtual 123, 3) := by decide +kernel
theorem dX4_stepsLeft_17 : decode cX4_stepsLeft 17 = .ok (.goto 5, 3) := by decide +kernel
theorem dX4_stepsLeft_20 : decode cX4_stepsLeft 20 = .ok (.bipush (-3), 2) := by decide +kernel
theorem dX4_stepsLeft_22 : decode cX4_stepsLeft 22 = .ok (.ireturn, 1) := by decide +kernel
theorem dX4_ifFailed_0 : decode cX4_ifFailed 0 = .ok (.iload_n 1, 1) := by decide +kernel
theorem dX4_ifFailed_1 : decode cX4_ifFailed 1 = .ok (.ifCond .lt 10, 3) := by decide +kernel
theorem dX4_ifFailed_4 : decode cX4_ifFailed 4 = .ok (.iload_n 1, 1) := by decide +kernel
theorem dX4_ifFailed_5 : decode cX4_ifFailed 5 = .ok (.sipush 999, 3) := by decide +kernel
theorem dX4_ifFailed_8 : decode cX4_ifFailed 8 = .ok (.if_icmp .le 6, 3) := by decide +kernel
theorem dX4_ifFailed_11 : decode cX4_ifFailed 11 = .ok (.bipush (-2), 2) := by decide +kernel
theorem dX4_ifFailed_13 : decode cX4_ifFailed 13 = .ok (.ireturn, 1) := by decide +kernel
theorem dX4_ifFailed_14 : decode cX4_ifFailed 14 = .ok (.aload_n 0, 1) := by decide +kernel
theorem dX4_ifFailed_15 : decode cX4_ifFailed 15 = .ok (.getfield 16, 3) := by decide +kernel
theorem dX4_ifFailed_18 : decode cX4_ifFailed 18 = .ok (.aload_n 0, 1) := by decide +kernel
theorem dX4_ifFailed_19 : decode cX4_ifFailed 19 = .ok (.getfield 12, 3) := by decide +kernel
theorem dX4_ifFailed_22 : decode cX4_ifFailed 22 = .ok (.invokevirtual 126, 3) := by decide +kernel
theorem dX4_ifFailed_25 : decode cX4_ifFailed 25 = .ok (.iconst 0, 1) := by decide +kernel
theorem dX4_ifFailed_26 : decode cX4_ifFailed 26 = .ok (.istore_n 2, 1) := by decide +kernel
theorem dX4_ifFailed_27 : decode cX4_ifFailed 27 = .ok (.iload_n 2, 1) := by decide +kernel
theorem dX4_ifFailed_28 : decode cX4_ifFailed 28 = .ok (.iload_n 1, 1) := by decide +kernel
theorem dX4_ifFailed_29 : decode cX4_ifFailed 29 = .ok (.if_icmp .ge 26, 3) := by decide +kernel
theorem dX4_ifFailed_32 : decode cX4_ifFailed 32 = .ok (.aload_n 0, 1) := by decide +kernel
theorem dX4_ifFailed_33 : decode cX4_ifFailed 33 = .ok (.getfield 16, 3) := by decide +kernel
theorem dX4_ifFailed_36 : decode cX4_ifFailed 36 = .ok (.invokevirtual 110, 3) := by decide +kernel
theorem dX4_ifFailed_39 : decode cX4_ifFailed 39 = .ok (.ifCond .eq 16, 3) := by decide +kernel
theorem dX4_ifFailed_42 : decode cX4_ifFailed 42 = .ok (.aload_n 0, 1) := by decide +kernel
theorem dX4_ifFailed_43 : decode cX4_ifFailed 43 = .ok (.getfield 16, 3) := by decide +kernel
theorem dX4_ifFailed_46 : decode cX4_ifFailed 46 = .ok (.invokevirtual 129, 3) := by decide +kernel
theorem dX4_ifFailed_49 : decode cX4_ifFailed 49 = .ok (.iinc 2 1, 3) := by decide +kernel
theorem dX4_ifFailed_52 : decode cX4_ifFailed 52 = .ok (.goto (-25), 3) := by decide +kernel
theorem dX4_ifFailed_55 : decode cX4_ifFailed 55 = .ok (.aload_n 0, 1) := by decide +kernel
theorem dX4_ifFailed_56 : decode cX4_ifFailed 56 = .ok (.getfield 16, 3) := by decide +kernel
theorem dX4_ifFailed_59 : decode cX4_ifFailed 59 = .ok (.invokevirtual 132, 3) := by decide +kernel
theorem dX4_ifFailed_62 : decode cX4_ifFailed 62 = .ok (.ireturn, 1) := by decide +kernel
theorem dX4_worstTime_0 : decode cX4_worstTime 0 = .ok (.aload_n 0, 1) := by decide +kernel
theorem dX4_worstTime_1 : decode cX4_worstTime 1 = .ok (.getfield 16, 3) := by decide +kernel
theorem dX4_worstTime_4 : decode cX4_worstTime 4 = .ok (.aload_n 0, 1) := by decide +kernel
theorem dX4_worstTime_5 : decode cX4_worstTime 5 = .ok (.getfield 12, 3) := by decide +kernel
theorem dX4_worstTime_8 : decode cX4_worstTime 8 = .ok (.invokevirtual 126, 3) := by decide +kernel
theorem dX4_worstTime_11 : decode cX4_worstTime 11 = .ok (.iconst 0, 1) := by decide +kernel
theorem dX4_worstTime_12 : decode cX4_worstTime 12 = .ok (.istore_n 1, 1) := by decide +kernel
theorem dX4_worstTime_13 : decode cX4_worstTime 13 = .ok (.aload_n 0, 1) := by decide +kernel
theorem dX4_worstTime_14 : decode cX4_worstTime 14 = .ok (.getfield 16, 3) := by decide +kernel
theorem dX4_worstTime_17 : decode cX4_worstTime 17 = .ok (.invokevirtual 132, 3) := by decide +kernel
theorem dX4_worstTime_20 : decode cX4_worstTime 20 = .ok (.istore_n 2, 1) := by decide +kernel
theorem dX4_worstTime_21 : decode cX4_worstTime 21 = .ok (.iconst 1, 1) := by decide +kernel
theorem dX4_worstTime_22 : decode cX4_worstTime 22 = .ok (.istore_n 3, 1) := by decide +kernel
theorem dX4_worstTime_23 : decode cX4_worstTime 23 = .ok (.iload_n 3, 1) := by decide +kernel
theorem dX4_worstTime_24 : decode cX4_worstTime 24 = .ok (.bipush 99, 2) := by decide +kernel
theorem dX4_worstTime_26 : decode cX4_worstTime 26 = .ok (.if_icmp .gt 46, 3) := by decide +kernel
theorem dX4_worstTime_29 : decode cX4_worstTime 29 = .ok (.aload_n 0, 1) := by decide +kernel
theorem dX4_worstTime_30 : decode cX4_worstTime 30 = .ok (.getfield 16, 3) := by decide +kernel
theorem dX4_worstTime_33 : decode cX4_worstTime 33 = .ok (.invokevirtual 110, 3) := by decide +kernel
theorem dX4_worstTime_36 : decode cX4_worstTime 36 = .ok (.ifCond .eq 36, 3) := by decide +kernel
theorem dX4_worstTime_39 : decode cX4_worstTime 39 = .ok (.aload_n 0, 1) := by decide +kernel
theorem dX4_worstTime_40 : decode cX4_worstTime 40 = .ok (.getfield 16, 3) := by decide +kernel
theorem dX4_worstTime_43 : decode cX4_worstTime 43 = .ok (.invokevirtual 129, 3) := by decide +kernel
theorem dX4_worstTime_46 : decode cX4_worstTime 46 = .ok (.aload_n 0, 1) := by decide +kernel
theorem dX4_worstTime_47 : decode cX4_worstTime 47 = .ok (.getfield 16, 3) := by decide +kernel
theorem dX4_worstTime_50 : decode cX4_worstTime 50 = .ok (.invokevirtual 132, 3) := by decide +kernel
theorem dX4_worstTime_53 : decode cX4_worstTime 53 = .ok (.istore 4, 2) := by decide +kernel
theorem dX4_worstTime_55 : decode cX4_worstTime 55 = .ok (.iload 4, 2) := by decide +kernel
theorem dX4_worstTime_57 : decode cX4_worstTime 57 = .ok (.iload_n 2, 1) := by decide +kernel
theorem dX4_worstTime_58 : decode cX4_worstTime 58 = .ok (.if_icmp .le 8, 3) := by decide +kernel
theorem dX4_worstTime_61 : decode cX4_worstTime 61 = .ok (.iload 4, 2) := by decide +kernel
theorem dX4_worstTime_63 : decode cX4_worstTime 63 = .ok (.istore_n 2, 1) := by decide +kernel
theorem dX4_worstTime_64 : decode cX4_worstTime 64 = .ok (.iload_n 3, 1) := by decide +kernel
theorem dX4_worstTime_65 : decode cX4_worstTime 65 = .ok (.istore_n 1, 1) := by decide +kernel
theorem dX4_worstTime_66 : decode cX4_worstTime 66 = .ok (.iinc 3 1, 3) := by decide +kernel
theorem dX4_worstTime_69 : decode cX4_worstTime 69 = .ok (.goto (-46), 3) := by decide +kernel
theorem dX4_worstTime_72 : decode cX4_worstTime 72 = .ok (.iload_n 1, 1) := by decide +kernel
theorem dX4_worstTime_73 : decode cX4_worstTime 73 = .ok (.ireturn, 1) := by decide +kernel
theorem dX4_ifFlushed_0 : decode cX4_ifFlushed 0 = .ok (.aload_n 0, 1) := by decide +kernel
theorem dX4_ifFlushed_1 : decode cX4_ifFlushed 1 = .ok (.getfield 12, 3) := by decide +kernel
theorem dX4_ifFlushed_4 : decode cX4_ifFlushed 4 = .ok (.iload_n 1, 1) := by decide +kernel
theorem dX4_ifFlushed_5 : decode cX4_ifFlushed 5 = .ok (.invokevirtual 89, 3) := by decide +kernel
theorem dX4_ifFlushed_8 : decode cX4_ifFlushed 8 = .ok (.ifCond .eq 14, 3) := by decide +kernel
theorem dX4_ifFlushed_11 : decode cX4_ifFlushed 11 = .ok (.aload_n 0, 1) := by decide +kernel
theorem dX4_ifFlushed_12 : decode cX4_ifFlushed 12 = .ok (.getfield 12, 3) := by decide +kernel
theorem dX4_ifFlushed_15 : decode cX4_ifFlushed 15 = .ok (.iload_n 1, 1) := by decide +kernel
theorem dX4_ifFlushed_16 : decode cX4_ifFlushed 16 = .ok (.invokevirtual 135, 3) := by decide +kernel
theorem dX4_ifFlushed_19 : decode cX4_ifFlushed 19 = .ok (.goto 4, 3) := by decide +kernel
theorem dX4_ifFlushed_22 : decode cX4_ifFlushed 22 = .ok (.iconst (-1), 1) := by decide +kernel
theorem dX4_ifFlushed_23 : decode cX4_ifFlushed 23 = .ok (.ireturn, 1) := by decide +kernel
theorem dX4_type_0 : decode cX4_type 0 = .ok (.aload_n 0, 1) := by decide +kernel
theorem dX4_type_1 : decode cX4_type 1 = .ok (.getfield 29, 3) := by decide +kernel
theorem dX4_type_4 : decode cX4_type 4 = .ok (.iload_n 1, 1) := by decide +kernel
theorem dX4_type_5 : decode cX4_type 5 = .ok (.invokevirtual 138, 3) := by decide +kernel
theorem dX4_type_8 : decode cX4_type 8 = .ok (.ireturn, 1) := by decide +kernel
theorem dX4_clearText_0 : decode cX4_clearText 0 = .ok (.aload_n 0, 1) := by decide +kernel
theorem dX4_clearText_1 : decode cX4_clearText 1 = .ok (.getfield 29, 3) := by decide +kernel
theorem dX4_clearText_4 : decode cX4_clearText 4 = .ok (.invokevirtual 141, 3) := by decide +kernel
theorem dX4_clearText_7 : decode cX4_clearText 7 = .ok (.ireturn, 1) := by decide +kernel
theorem dX4_syntaxError_0 : decode cX4_syntaxError 0 = .ok (.aload_n 0, 1) := by decide +kernel
theorem dX4_syntaxError_1 : decode cX4_syntaxError 1 = .ok (.getfield 29, 3) := by decide +kernel
theorem dX4_syntaxError_4 : decode cX4_syntaxError 4 = .ok (.invokevirtual 144, 3) := by decide +kernel
theorem dX4_syntaxError_7 : decode cX4_syntaxError 7 = .ok (.ireturn, 1) := by decide +kernel
theorem dX4_carryOut_0 : decode cX4_carryOut 0 = .ok (.aload_n 0, 1) := by decide +kernel
theorem dX4_carryOut_1 : decode cX4_carryOut 1 = .ok (.getfield 29, 3) := by decide +kernel
theorem dX4_carryOut_4 : decode cX4_carryOut 4 = .ok (.invokevirtual 144, 3) := by decide +kernel
theorem dX4_carryOut_7 : decode cX4_carryOut 7 = .ok (.bipush (-6), 2) := by decide +kernel
theorem dX4_carryOut_9 : decode cX4_carryOut 9 = .ok (.if_icmp .eq 6, 3) := by decide +kernel
theorem dX4_carryOut_12 : decode cX4_carryOut 12 = .ok (.bipush (-5), 2) := by decide +kernel
theorem dX4_carryOut_14 : decode cX4_carryOut 14 = .ok (.ireturn, 1) := by decide +kernel
theorem dX4_carryOut_15 : decode cX4_carryOut 15 = .ok (.aload_n 0, 1) := by decide +kernel
theorem dX4_carryOut_16 : decode cX4_carryOut 16 = .ok (.getfield 22, 3) := by decide +kernel
theorem dX4_carryOut_19 : decode cX4_carryOut 19 = .ok (.aload_n 0, 1) := by decide +kernel
theorem dX4_carryOut_20 : decode cX4_carryOut 20 = .ok (.getfield 12, 3) := by decide +kernel
theorem dX4_carryOut_23 : decode cX4_carryOut 23 = .ok (.invokevirtual 33, 3) := by decide +kernel
theorem dX4_carryOut_26 : decode cX4_carryOut 26 = .ok (.aload_n 0, 1) := by decide +kernel
theorem dX4_carryOut_27 : decode cX4_carryOut 27 = .ok (.getfield 29, 3) := by decide +kernel
theorem dX4_carryOut_30 : decode cX4_carryOut 30 = .ok (.invokevirtual 147, 3) := by decide +kernel
theorem dX4_carryOut_33 : decode cX4_carryOut 33 = .ok (.istore_n 1, 1) := by decide +kernel
theorem dX4_carryOut_34 : decode cX4_carryOut 34 = .ok (.iconst 0, 1) := by decide +kernel
theorem dX4_carryOut_35 : decode cX4_carryOut 35 = .ok (.istore_n 2, 1) := by decide +kernel
theorem dX4_carryOut_36 : decode cX4_carryOut 36 = .ok (.iload_n 2, 1) := by decide +kernel
theorem dX4_carryOut_37 : decode cX4_carryOut 37 = .ok (.iload_n 1, 1) := by decide +kernel
theorem dX4_carryOut_38 : decode cX4_carryOut 38 = .ok (.if_icmp .ge 43, 3) := by decide +kernel
theorem dX4_carryOut_41 : decode cX4_carryOut 41 = .ok (.aload_n 0, 1) := by decide +kernel
theorem dX4_carryOut_42 : decode cX4_carryOut 42 = .ok (.getfield 12, 3) := by decide +kernel
theorem dX4_carryOut_45 : decode cX4_carryOut 45 = .ok (.aload_n 0, 1) := by decide +kernel
theorem dX4_carryOut_46 : decode cX4_carryOut 46 = .ok (.getfield 29, 3) := by decide +kernel
theorem dX4_carryOut_49 : decode cX4_carryOut 49 = .ok (.iload_n 2, 1) := by decide +kernel
theorem dX4_carryOut_50 : decode cX4_carryOut 50 = .ok (.invokevirtual 150, 3) := by decide +kernel
theorem dX4_carryOut_53 : decode cX4_carryOut 53 = .ok (.aload_n 0, 1) := by decide +kernel
theorem dX4_carryOut_54 : decode cX4_carryOut 54 = .ok (.getfield 29, 3) := by decide +kernel
theorem dX4_carryOut_57 : decode cX4_carryOut 57 = .ok (.iload_n 2, 1) := by decide +kernel
theorem dX4_carryOut_58 : decode cX4_carryOut 58 = .ok (.invokevirtual 153, 3) := by decide +kernel
theorem dX4_carryOut_61 : decode cX4_carryOut 61 = .ok (.aload_n 0, 1) := by decide +kernel
theorem dX4_carryOut_62 : decode cX4_carryOut 62 = .ok (.getfield 29, 3) := by decide +kernel
theorem dX4_carryOut_65 : decode cX4_carryOut 65 = .ok (.iload_n 2, 1) := by decide +kernel
theorem dX4_carryOut_66 : decode cX4_carryOut 66 = .ok (.invokevirtual 156, 3) := by decide +kernel
theorem dX4_carryOut_69 : decode cX4_carryOut 69 = .ok (.invokevirtual 157, 3) := by decide +kernel
theorem dX4_carryOut_72 : decode cX4_carryOut 72 = .ok (.ifCond .lt 9, 3) := by decide +kernel
theorem dX4_carryOut_75 : decode cX4_carryOut 75 = .ok (.iinc 2 1, 3) := by decide +kernel
theorem dX4_carryOut_78 : decode cX4_carryOut 78 = .ok (.goto (-42), 3) := by decide +kernel
theorem dX4_carryOut_81 : decode cX4_carryOut 81 = .ok (.aload_n 0, 1) := by decide +kernel
theorem dX4_carryOut_82 : decode cX4_carryOut 82 = .ok (.getfield 29, 3) := by decide +kernel
theorem dX4_carryOut_85 : decode cX4_carryOut 85 = .ok (.invokevirtual 141, 3) := by decide +kernel
theorem dX4_carryOut_88 : decode cX4_carryOut 88 = .ok (.pop, 1) := by decide +kernel
theorem dX4_carryOut_89 : decode cX4_carryOut 89 = .ok (.aload_n 0, 1) := by decide +kernel
theorem dX4_carryOut_90 : decode cX4_carryOut 90 = .ok (.getfield 22, 3) := by decide +kernel
theorem dX4_carryOut_93 : decode cX4_carryOut 93 = .ok (.iload_n 2, 1) := by decide +kernel
theorem dX4_carryOut_94 : decode cX4_carryOut 94 = .ok (.invokevirtual 41, 3) := by decide +kernel
theorem dX4_carryOut_97 : decode cX4_carryOut 97 = .ok (.ireturn, 1) := by decide +kernel
theorem dX4_undo_0 : decode cX4_undo 0 = .ok (.aload_n 0, 1) := by decide +kernel
theorem dX4_undo_1 : decode cX4_undo 1 = .ok (.getfield 22, 3) := by decide +kernel
theorem dX4_undo_4 : decode cX4_undo 4 = .ok (.aload_n 0, 1) := by decide +kernel
theorem dX4_undo_5 : decode cX4_undo 5 = .ok (.getfield 12, 3) := by decide +kernel
theorem dX4_undo_8 : decode cX4_undo 8 = .ok (.invokevirtual 161, 3) := by decide +kernel
theorem dX4_undo_11 : decode cX4_undo 11 = .ok (.ireturn, 1) := by decide +kernel
theorem dX4_digest_0 : decode cX4_digest 0 = .ok (.ldc2_w 165, 3) := by decide +kernel
theorem dX4_digest_3 : decode cX4_digest 3 = .ok (.lstore_n 1, 1) := by decide +kernel
theorem dX4_digest_4 : decode cX4_digest 4 = .ok (.iconst 0, 1) := by decide +kernel
theorem dX4_digest_5 : decode cX4_digest 5 = .ok (.istore_n 3, 1) := by decide +kernel
theorem dX4_digest_6 : decode cX4_digest 6 = .ok (.iload_n 3, 1) := by decide +kernel
theorem dX4_digest_7 : decode cX4_digest 7 = .ok (.bipush 13, 2) := by decide +kernel
theorem dX4_digest_9 : decode cX4_digest 9 = .ok (.if_icmp .ge 22, 3) := by decide +kernel
theorem dX4_digest_12 : decode cX4_digest 12 = .ok (.ldc2_w 167, 3) := by decide +kernel
theorem dX4_digest_15 : decode cX4_digest 15 = .ok (.lload_n 1, 1) := by decide +kernel
theorem dX4_digest_16 : decode cX4_digest 16 = .ok (.lmul, 1) := by decide +kernel
theorem dX4_digest_17 : decode cX4_digest 17 = .ok (.aload_n 0, 1) := by decide +kernel
theorem dX4_digest_18 : decode cX4_digest 18 = .ok (.iload_n 3, 1) := by decide +kernel
theorem dX4_digest_19 : decode cX4_digest 19 = .ok (.invokevirtual 169, 3) := by decide +kernel
theorem dX4_digest_22 : decode cX4_digest 22 = .ok (.i2l, 1) := by decide +kernel
theorem dX4_digest_23 : decode cX4_digest 23 = .ok (.ladd, 1) := by decide +kernel
theorem dX4_digest_24 : decode cX4_digest 24 = .ok (.lstore_n 1, 1) := by decide +kernel
theorem dX4_digest_25 : decode cX4_digest 25 = .ok (.iinc 3 1, 3) := by decide +kernel
theorem dX4_digest_28 : decode cX4_digest 28 = .ok (.goto (-22), 3) := by decide +kernel
theorem dX4_digest_31 : decode cX4_digest 31 = .ok (.aload_n 0, 1) := by decide +kernel
theorem dX4_digest_32 : decode cX4_digest 32 = .ok (.aload_n 0, 1) := by decide +kernel
theorem dX4_digest_33 : decode cX4_digest 33 = .ok (.lload_n 1, 1) := by decide +kernel
theorem dX4_digest_34 : decode cX4_digest 34 = .ok (.invokevirtual 172, 3) := by decide +kernel
theorem dX4_digest_37 : decode cX4_digest 37 = .ok (.invokevirtual 176, 3) := by decide +kernel
theorem dX4_digest_40 : decode cX4_digest 40 = .ok (.lstore_n 1, 1) := by decide +kernel
theorem dX4_digest_41 : decode cX4_digest 41 = .ok (.ldc2_w 167, 3) := by decide +kernel
theorem dX4_digest_44 : decode cX4_digest 44 = .ok (.lload_n 1, 1) := by decide +kernel
theorem dX4_digest_45 : decode cX4_digest 45 = .ok (.lmul, 1) := by decide +kernel
theorem dX4_digest_46 : decode cX4_digest 46 = .ok (.aload_n 0, 1) := by decide +kernel
theorem dX4_digest_47 : decode cX4_digest 47 = .ok (.invokevirtual 179, 3) := by decide +kernel
theorem dX4_digest_50 : decode cX4_digest 50 = .ok (.i2l, 1) := by decide +kernel
theorem dX4_digest_51 : decode cX4_digest 51 = .ok (.ladd, 1) := by decide +kernel
theorem dX4_digest_52 : decode cX4_digest 52 = .ok (.lstore_n 1, 1) := by decide +kernel
theorem dX4_digest_53 : decode cX4_digest 53 = .ok (.ldc2_w 167, 3) := by decide +kernel
theorem dX4_digest_56 : decode cX4_digest 56 = .ok (.lload_n 1, 1) := by decide +kernel
theorem dX4_digest_57 : decode cX4_digest 57 = .ok (.lmul, 1) := by decide +kernel
theorem dX4_digest_58 : decode cX4_digest 58 = .ok (.aload_n 0, 1) := by decide +kernel
theorem dX4_digest_59 : decode cX4_digest 59 = .ok (.invokevirtual 182, 3) := by decide +kernel
theorem dX4_digest_62 : decode cX4_digest 62 = .ok (.i2l, 1) := by decide +kernel
theorem dX4_digest_63 : decode cX4_digest 63 = .ok (.ladd, 1) := by decide +kernel
theorem dX4_digest_64 : decode cX4_digest 64 = .ok (.lstore_n 1, 1) := by decide +kernel
theorem dX4_digest_65 : decode cX4_digest 65 = .ok (.aload_n 0, 1) := by decide +kernel
theorem dX4_digest_66 : decode cX4_digest 66 = .ok (.getfield 12, 3) := by decide +kernel
theorem dX4_digest_69 : decode cX4_digest 69 = .ok (.invokevirtual 110, 3) := by decide +kernel
theorem dX4_digest_72 : decode cX4_digest 72 = .ok (.ifCond .eq 27, 3) := by decide +kernel
theorem dX4_digest_75 : decode cX4_digest 75 = .ok (.ldc2_w 167, 3) := by decide +kernel
theorem dX4_digest_78 : decode cX4_digest 78 = .ok (.lload_n 1, 1) := by decide +kernel
theorem dX4_digest_79 : decode cX4_digest 79 = .ok (.lmul, 1) := by decide +kernel
theorem dX4_digest_80 : decode cX4_digest 80 = .ok (.aload_n 0, 1) := by decide +kernel
theorem dX4_digest_81 : decode cX4_digest 81 = .ok (.invokevirtual 185, 3) := by decide +kernel
theorem dX4_digest_84 : decode cX4_digest 84 = .ok (.i2l, 1) := by decide +kernel
theorem dX4_digest_85 : decode cX4_digest 85 = .ok (.ladd, 1) := by decide +kernel
theorem dX4_digest_86 : decode cX4_digest 86 = .ok (.lstore_n 1, 1) := by decide +kernel
theorem dX4_digest_87 : decode cX4_digest 87 = .ok (.ldc2_w 167, 3) := by decide +kernel
theorem dX4_digest_90 : decode cX4_digest 90 = .ok (.lload_n 1, 1) := by decide +kernel
theorem dX4_digest_91 : decode cX4_digest 91 = .ok (.lmul, 1) := by decide +kernel
theorem dX4_digest_92 : decode cX4_digest 92 = .ok (.aload_n 0, 1) := by decide +kernel
theorem dX4_digest_93 : decode cX4_digest 93 = .ok (.invokevirtual 188, 3) := by decide +kernel
theorem dX4_digest_96 : decode cX4_digest 96 = .ok (.i2l, 1) := by decide +kernel
theorem dX4_digest_97 : decode cX4_digest 97 = .ok (.ladd, 1) := by decide +kernel
theorem dX4_digest_98 : decode cX4_digest 98 = .ok (.lstore_n 1, 1) := by decide +kernel
theorem dX4_digest_99 : decode cX4_digest 99 = .ok (.lload_n 1, 1) := by decide +kernel
theorem dX4_digest_100 : decode cX4_digest 100 = .ok (.lreturn, 1) := by decide +kernel
theorem dX4_withKeys_0 : decode cX4_withKeys 0 = .ok (.lload_n 1, 1) := by decide +kernel
theorem dX4_withKeys_1 : decode cX4_withKeys 1 = .ok (.lstore_n 3, 1) := by decide +kernel
theorem dX4_withKeys_2 : decode cX4_withKeys 2 = .ok (.iconst 1, 1) := by decide +kernel
theorem dX4_withKeys_3 : decode cX4_withKeys 3 = .ok (.istore 5, 2) := by decide +kernel
theorem dX4_withKeys_5 : decode cX4_withKeys 5 = .ok (.iload 5, 2) := by decide +kernel
theorem dX4_withKeys_7 : decode cX4_withKeys 7 = .ok (.bipush 99, 2) := by decide +kernel
theorem dX4_withKeys_9 : decode cX4_withKeys 9 = .ok (.if_icmp .gt 45, 3) := by decide +kernel
theorem dX4_withKeys_12 : decode cX4_withKeys 12 = .ok (.aload_n 0, 1) := by decide +kernel
theorem dX4_withKeys_13 : decode cX4_withKeys 13 = .ok (.getfield 12, 3) := by decide +kernel
theorem dX4_withKeys_16 : decode cX4_withKeys 16 = .ok (.iload 5, 2) := by decide +kernel
theorem dX4_withKeys_18 : decode cX4_withKeys 18 = .ok (.invokevirtual 51, 3) := by decide +kernel
theorem dX4_withKeys_21 : decode cX4_withKeys 21 = .ok (.ifCond .eq 27, 3) := by decide +kernel
theorem dX4_withKeys_24 : decode cX4_withKeys 24 = .ok (.ldc2_w 167, 3) := by decide +kernel
theorem dX4_withKeys_27 : decode cX4_withKeys 27 = .ok (.lload_n 3, 1) := by decide +kernel
theorem dX4_withKeys_28 : decode cX4_withKeys 28 = .ok (.lmul, 1) := by decide +kernel
theorem dX4_withKeys_29 : decode cX4_withKeys 29 = .ok (.iload 5, 2) := by decide +kernel
theorem dX4_withKeys_31 : decode cX4_withKeys 31 = .ok (.i2l, 1) := by decide +kernel
theorem dX4_withKeys_32 : decode cX4_withKeys 32 = .ok (.ladd, 1) := by decide +kernel
theorem dX4_withKeys_33 : decode cX4_withKeys 33 = .ok (.lstore_n 3, 1) := by decide +kernel
theorem dX4_withKeys_34 : decode cX4_withKeys 34 = .ok (.ldc2_w 167, 3) := by decide +kernel
theorem dX4_withKeys_37 : decode cX4_withKeys 37 = .ok (.lload_n 3, 1) := by decide +kernel
theorem dX4_withKeys_38 : decode cX4_withKeys 38 = .ok (.lmul, 1) := by decide +kernel
theorem dX4_withKeys_39 : decode cX4_withKeys 39 = .ok (.aload_n 0, 1) := by decide +kernel
theorem dX4_withKeys_40 : decode cX4_withKeys 40 = .ok (.iload 5, 2) := by decide +kernel
theorem dX4_withKeys_42 : decode cX4_withKeys 42 = .ok (.invokevirtual 191, 3) := by decide +kernel
theorem dX4_withKeys_45 : decode cX4_withKeys 45 = .ok (.i2l, 1) := by decide +kernel
theorem dX4_withKeys_46 : decode cX4_withKeys 46 = .ok (.ladd, 1) := by decide +kernel
theorem dX4_withKeys_47 : decode cX4_withKeys 47 = .ok (.lstore_n 3, 1) := by decide +kernel
theorem dX4_withKeys_48 : decode cX4_withKeys 48 = .ok (.iinc 5 1, 3) := by decide +kernel
theorem dX4_withKeys_51 : decode cX4_withKeys 51 = .ok (.goto (-46), 3) := by decide +kernel
theorem dX4_withKeys_54 : decode cX4_withKeys 54 = .ok (.lload_n 3, 1) := by decide +kernel
theorem dX4_withKeys_55 : decode cX4_withKeys 55 = .ok (.lreturn, 1) := by decide +kernel
theorem dX4_withSectors_0 : decode cX4_withSectors 0 = .ok (.lload_n 1, 1) := by decide +kernel
theorem dX4_withSectors_1 : decode cX4_withSectors 1 = .ok (.lstore_n 3, 1) := by decide +kernel
theorem dX4_withSectors_2 : decode cX4_withSectors 2 = .ok (.iconst 0, 1) := by decide +kernel
theorem dX4_withSectors_3 : decode cX4_withSectors 3 = .ok (.istore 5, 2) := by decide +kernel
theorem dX4_withSectors_5 : decode cX4_withSectors 5 = .ok (.iload 5, 2) := by decide +kernel
theorem dX4_withSectors_7 : decode cX4_withSectors 7 = .ok (.bipush 64, 2) := by decide +kernel
theorem dX4_withSectors_9 : decode cX4_withSectors 9 = .ok (.if_icmp .ge 91, 3) := by decide +kernel
theorem dX4_withSectors_12 : decode cX4_withSectors 12 = .ok (.aload_n 0, 1) := by decide +kernel
theorem dX4_withSectors_13 : decode cX4_withSectors 13 = .ok (.getfield 12, 3) := by decide +kernel
theorem dX4_withSectors_16 : decode cX4_withSectors 16 = .ok (.iload 5, 2) := by decide +kernel
theorem dX4_withSectors_18 : decode cX4_withSectors 18 = .ok (.invokevirtual 89, 3) := by decide +kernel
theorem dX4_withSectors_21 : decode cX4_withSectors 21 = .ok (.ifCond .eq 79, 3) := by decide +kernel
theorem dX4_withSectors_24 : decode cX4_withSectors 24 = .ok (.ldc2_w 167, 3) := by decide +kernel
theorem dX4_withSectors_27 : decode cX4_withSectors 27 = .ok (.lload_n 3, 1) := by decide +kernel
theorem dX4_withSectors_28 : decode cX4_withSectors 28 = .ok (.lmul, 1) := by decide +kernel
theorem dX4_withSectors_29 : decode cX4_withSectors 29 = .ok (.aload_n 0, 1) := by decide +kernel
theorem dX4_withSectors_30 : decode cX4_withSectors 30 = .ok (.iload 5, 2) := by decide +kernel
theorem dX4_withSectors_32 : decode cX4_withSectors 32 = .ok (.invokevirtual 194, 3) := by decide +kernel
theorem dX4_withSectors_35 : decode cX4_withSectors 35 = .ok (.i2l, 1) := by decide +kernel
theorem dX4_withSectors_36 : decode cX4_withSectors 36 = .ok (.ladd, 1) := by decide +kernel
theorem dX4_withSectors_37 : decode cX4_withSectors 37 = .ok (.lstore_n 3, 1) := by decide +kernel
theorem dX4_withSectors_38 : decode cX4_withSectors 38 = .ok (.ldc2_w 167, 3) := by decide +kernel
theorem dX4_withSectors_41 : decode cX4_withSectors 41 = .ok (.lload_n 3, 1) := by decide +kernel
theorem dX4_withSectors_42 : decode cX4_withSectors 42 = .ok (.lmul, 1) := by decide +kernel
theorem dX4_withSectors_43 : decode cX4_withSectors 43 = .ok (.aload_n 0, 1) := by decide +kernel
theorem dX4_withSectors_44 : decode cX4_withSectors 44 = .ok (.iload 5, 2) := by decide +kernel
theorem dX4_withSectors_46 : decode cX4_withSectors 46 = .ok (.invokevirtual 197, 3) := by decide +kernel
theorem dX4_withSectors_49 : decode cX4_withSectors 49 = .ok (.i2l, 1) := by decide +kernel
theorem dX4_withSectors_50 : decode cX4_withSectors 50 = .ok (.ladd, 1) := by decide +kernel
theorem dX4_withSectors_51 : decode cX4_withSectors 51 = .ok (.lstore_n 3, 1) := by decide +kernel
theorem dX4_withSectors_52 : decode cX4_withSectors 52 = .ok (.ldc2_w 167, 3) := by decide +kernel
theorem dX4_withSectors_55 : decode cX4_withSectors 55 = .ok (.lload_n 3, 1) := by decide +kernel
theorem dX4_withSectors_56 : decode cX4_withSectors 56 = .ok (.lmul, 1) := by decide +kernel
theorem dX4_withSectors_57 : decode cX4_withSectors 57 = .ok (.aload_n 0, 1) := by decide +kernel
theorem dX4_withSectors_58 : decode cX4_withSectors 58 = .ok (.iload 5, 2) := by decide +kernel
theorem dX4_withSectors_60 : decode cX4_withSectors 60 = .ok (.invokevirtual 200, 3) := by decide +kernel
theorem dX4_withSectors_63 : decode cX4_withSectors 63 = .ok (.i2l, 1) := by decide +kernel
theorem dX4_withSectors_64 : decode cX4_withSectors 64 = .ok (.ladd, 1) := by decide +kernel
theorem dX4_withSectors_65 : decode cX4_withSectors 65 = .ok (.lstore_n 3, 1) := by decide +kernel
theorem dX4_withSectors_66 : decode cX4_withSectors 66 = .ok (.ldc2_w 167, 3) := by decide +kernel
theorem dX4_withSectors_69 : decode cX4_withSectors 69 = .ok (.lload_n 3, 1) := by decide +kernel
theorem dX4_withSectors_70 : decode cX4_withSectors 70 = .ok (.lmul, 1) := by decide +kernel
theorem dX4_withSectors_71 : decode cX4_withSectors 71 = .ok (.aload_n 0, 1) := by decide +kernel
theorem dX4_withSectors_72 : decode cX4_withSectors 72 = .ok (.iload 5, 2) := by decide +kernel
theorem dX4_withSectors_74 : decode cX4_withSectors 74 = .ok (.invokevirtual 203, 3) := by decide +kernel
theorem dX4_withSectors_77 : decode cX4_withSectors 77 = .ok (.i2l, 1) := by decide +kernel
theorem dX4_withSectors_78 : decode cX4_withSectors 78 = .ok (.ladd, 1) := by decide +kernel
theorem dX4_withSectors_79 : decode cX4_withSectors 79 = .ok (.lstore_n 3, 1) := by decide +kernel
theorem dX4_withSectors_80 : decode cX4_withSectors 80 = .ok (.ldc2_w 167, 3) := by decide +kernel
theorem dX4_withSectors_83 : decode cX4_withSectors 83 = .ok (.lload_n 3, 1) := by decide +kernel
theorem dX4_withSectors_84 : decode cX4_withSectors 84 = .ok (.lmul, 1) := by decide +kernel
theorem dX4_withSectors_85 : decode cX4_withSectors 85 = .ok (.aload_n 0, 1) := by decide +kernel
theorem dX4_withSectors_86 : decode cX4_withSectors 86 = .ok (.iload 5, 2) := by decide +kernel
theorem dX4_withSectors_88 : decode cX4_withSectors 88 = .ok (.invokevirtual 206, 3) := by decide +kernel
theorem dX4_withSectors_91 : decode cX4_withSectors 91 = .ok (.i2l, 1) := by decide +kernel
theorem dX4_withSectors_92 : decode cX4_withSectors 92 = .ok (.ladd, 1) := by decide +kernel
theorem dX4_withSectors_93 : decode cX4_withSectors 93 = .ok (.lstore_n 3, 1) := by decide +kernel
theorem dX4_withSectors_94 : decode cX4_withSectors 94 = .ok (.iinc 5 1, 3) := by decide +kernel
theorem dX4_withSectors_97 : decode cX4_withSectors 97 = .ok (.goto (-92), 3) := by decide +kernel
theorem dX4_withSectors_100 : decode cX4_withSectors 100 = .ok (.lload_n 3, 1) := by decide +kernel
theorem dX4_withSectors_101 : decode cX4_withSectors 101 = .ok (.lreturn, 1) := by decide +kernel
theorem dX4_orNone_0 : decode cX4_orNone 0 = .ok (.iload_n 0, 1) := by decide +kernel
theorem dX4_orNone_1 : decode cX4_orNone 1 = .ok (.iconst (-1), 1) := by decide +kernel
theorem dX4_orNone_2 : decode cX4_orNone 2 = .ok (.if_icmp .ne 8, 3) := by decide +kernel
theorem dX4_orNone_5 : decode cX4_orNone 5 = .ok (.bipush (-6), 2) := by decide +kernel
theorem dX4_orNone_7 : decode cX4_orNone 7 = .ok (.goto 4, 3) := by decide +kernel
theorem dX4_orNone_10 : decode cX4_orNone 10 = .ok (.iload_n 0, 1) := by decide +kernel
theorem dX4_orNone_11 : decode cX4_orNone 11 = .ok (.ireturn, 1) := by decide +kernel

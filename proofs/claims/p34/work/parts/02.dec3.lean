theorem dX1_init_5 : decode cX1_init 5 = .ok (.bipush 7, 2) := by decide +kernel
theorem dX1_init_7 : decode cX1_init 7 = .ok (.anewarray 11, 3) := by decide +kernel
theorem dX1_init_10 : decode cX1_init 10 = .ok (.putfield 13, 3) := by decide +kernel
theorem dX1_init_13 : decode cX1_init 13 = .ok (.aload_n 0, 1) := by decide +kernel
theorem dX1_init_14 : decode cX1_init 14 = .ok (.iconst 0, 1) := by decide +kernel
theorem dX1_init_15 : decode cX1_init 15 = .ok (.putfield 17, 3) := by decide +kernel
theorem dX1_init_18 : decode cX1_init 18 = .ok (.aload_n 0, 1) := by decide +kernel
theorem dX1_init_19 : decode cX1_init 19 = .ok (.iconst 0, 1) := by decide +kernel
theorem dX1_init_20 : decode cX1_init 20 = .ok (.putfield 21, 3) := by decide +kernel
theorem dX1_init_23 : decode cX1_init 23 = .ok (.iconst 0, 1) := by decide +kernel
theorem dX1_init_24 : decode cX1_init 24 = .ok (.istore_n 1, 1) := by decide +kernel
theorem dX1_init_25 : decode cX1_init 25 = .ok (.iload_n 1, 1) := by decide +kernel
theorem dX1_init_26 : decode cX1_init 26 = .ok (.aload_n 0, 1) := by decide +kernel
theorem dX1_init_27 : decode cX1_init 27 = .ok (.getfield 13, 3) := by decide +kernel
theorem dX1_init_30 : decode cX1_init 30 = .ok (.arraylength, 1) := by decide +kernel
theorem dX1_init_31 : decode cX1_init 31 = .ok (.if_icmp .ge 22, 3) := by decide +kernel
theorem dX1_init_34 : decode cX1_init 34 = .ok (.aload_n 0, 1) := by decide +kernel
theorem dX1_init_35 : decode cX1_init 35 = .ok (.getfield 13, 3) := by decide +kernel
theorem dX1_init_38 : decode cX1_init 38 = .ok (.iload_n 1, 1) := by decide +kernel
theorem dX1_init_39 : decode cX1_init 39 = .ok (.new 11, 3) := by decide +kernel
theorem dX1_init_42 : decode cX1_init 42 = .ok (.dup, 1) := by decide +kernel
theorem dX1_init_43 : decode cX1_init 43 = .ok (.invokespecial 24, 3) := by decide +kernel
theorem dX1_init_46 : decode cX1_init 46 = .ok (.aastore, 1) := by decide +kernel
theorem dX1_init_47 : decode cX1_init 47 = .ok (.iinc 1 1, 3) := by decide +kernel
theorem dX1_init_50 : decode cX1_init 50 = .ok (.goto (-25), 3) := by decide +kernel
theorem dX1_init_53 : decode cX1_init 53 = .ok (.return_, 1) := by decide +kernel
theorem dX1_slot_0 : decode cX1_slot 0 = .ok (.iload_n 1, 1) := by decide +kernel
theorem dX1_slot_1 : decode cX1_slot 1 = .ok (.ifCond .lt 21, 3) := by decide +kernel
theorem dX1_slot_4 : decode cX1_slot 4 = .ok (.iload_n 1, 1) := by decide +kernel
theorem dX1_slot_5 : decode cX1_slot 5 = .ok (.aload_n 0, 1) := by decide +kernel
theorem dX1_slot_6 : decode cX1_slot 6 = .ok (.getfield 13, 3) := by decide +kernel
theorem dX1_slot_9 : decode cX1_slot 9 = .ok (.arraylength, 1) := by decide +kernel
theorem dX1_slot_10 : decode cX1_slot 10 = .ok (.if_icmp .ge 12, 3) := by decide +kernel
theorem dX1_slot_13 : decode cX1_slot 13 = .ok (.aload_n 0, 1) := by decide +kernel
theorem dX1_slot_14 : decode cX1_slot 14 = .ok (.getfield 13, 3) := by decide +kernel
theorem dX1_slot_17 : decode cX1_slot 17 = .ok (.iload_n 1, 1) := by decide +kernel
theorem dX1_slot_18 : decode cX1_slot 18 = .ok (.aaload, 1) := by decide +kernel
theorem dX1_slot_19 : decode cX1_slot 19 = .ok (.goto 4, 3) := by decide +kernel
theorem dX1_slot_22 : decode cX1_slot 22 = .ok (.aconst_null, 1) := by decide +kernel
theorem dX1_slot_23 : decode cX1_slot 23 = .ok (.areturn, 1) := by decide +kernel
theorem dX1_draft_0 : decode cX1_draft 0 = .ok (.aload_n 0, 1) := by decide +kernel
theorem dX1_draft_1 : decode cX1_draft 1 = .ok (.aload_n 0, 1) := by decide +kernel
theorem dX1_draft_2 : decode cX1_draft 2 = .ok (.getfield 17, 3) := by decide +kernel
theorem dX1_draft_5 : decode cX1_draft 5 = .ok (.invokevirtual 25, 3) := by decide +kernel
theorem dX1_draft_8 : decode cX1_draft 8 = .ok (.astore_n 2, 1) := by decide +kernel
theorem dX1_draft_9 : decode cX1_draft 9 = .ok (.aload_n 2, 1) := by decide +kernel
theorem dX1_draft_10 : decode cX1_draft 10 = .ok (.ifnull 8, 3) := by decide +kernel
theorem dX1_draft_13 : decode cX1_draft 13 = .ok (.aload_n 2, 1) := by decide +kernel
theorem dX1_draft_14 : decode cX1_draft 14 = .ok (.aload_n 1, 1) := by decide +kernel
theorem dX1_draft_15 : decode cX1_draft 15 = .ok (.invokevirtual 29, 3) := by decide +kernel
theorem dX1_draft_18 : decode cX1_draft 18 = .ok (.return_, 1) := by decide +kernel
theorem dX1_keep_0 : decode cX1_keep 0 = .ok (.iload_n 1, 1) := by decide +kernel
theorem dX1_keep_1 : decode cX1_keep 1 = .ok (.ifCond .lt 31, 3) := by decide +kernel
theorem dX1_keep_4 : decode cX1_keep 4 = .ok (.aload_n 0, 1) := by decide +kernel
theorem dX1_keep_5 : decode cX1_keep 5 = .ok (.aload_n 0, 1) := by decide +kernel
theorem dX1_keep_6 : decode cX1_keep 6 = .ok (.getfield 17, 3) := by decide +kernel
theorem dX1_keep_9 : decode cX1_keep 9 = .ok (.iconst 1, 1) := by decide +kernel
theorem dX1_keep_10 : decode cX1_keep 10 = .ok (.iadd, 1) := by decide +kernel
theorem dX1_keep_11 : decode cX1_keep 11 = .ok (.bipush 7, 2) := by decide +kernel
theorem dX1_keep_13 : decode cX1_keep 13 = .ok (.irem, 1) := by decide +kernel
theorem dX1_keep_14 : decode cX1_keep 14 = .ok (.putfield 17, 3) := by decide +kernel
theorem dX1_keep_17 : decode cX1_keep 17 = .ok (.aload_n 0, 1) := by decide +kernel
theorem dX1_keep_18 : decode cX1_keep 18 = .ok (.aload_n 0, 1) := by decide +kernel
theorem dX1_keep_19 : decode cX1_keep 19 = .ok (.getfield 21, 3) := by decide +kernel
theorem dX1_keep_22 : decode cX1_keep 22 = .ok (.iconst 1, 1) := by decide +kernel
theorem dX1_keep_23 : decode cX1_keep 23 = .ok (.iadd, 1) := by decide +kernel
theorem dX1_keep_24 : decode cX1_keep 24 = .ok (.bipush 6, 2) := by decide +kernel
theorem dX1_keep_26 : decode cX1_keep 26 = .ok (.invokestatic 33, 3) := by decide +kernel
theorem dX1_keep_29 : decode cX1_keep 29 = .ok (.putfield 21, 3) := by decide +kernel
theorem dX1_keep_32 : decode cX1_keep 32 = .ok (.iload_n 1, 1) := by decide +kernel
theorem dX1_keep_33 : decode cX1_keep 33 = .ok (.ireturn, 1) := by decide +kernel
theorem dX2_init_0 : decode cX2_init 0 = .ok (.aload_n 0, 1) := by decide +kernel
theorem dX2_init_1 : decode cX2_init 1 = .ok (.invokespecial 3, 3) := by decide +kernel
theorem dX2_init_4 : decode cX2_init 4 = .ok (.aload_n 0, 1) := by decide +kernel
theorem dX2_init_5 : decode cX2_init 5 = .ok (.iload_n 1, 1) := by decide +kernel
theorem dX2_init_6 : decode cX2_init 6 = .ok (.iconst 0, 1) := by decide +kernel
theorem dX2_init_7 : decode cX2_init 7 = .ok (.invokestatic 9, 3) := by decide +kernel
theorem dX2_init_10 : decode cX2_init 10 = .ok (.newarray .int, 2) := by decide +kernel
theorem dX2_init_12 : decode cX2_init 12 = .ok (.putfield 15, 3) := by decide +kernel
theorem dX2_init_15 : decode cX2_init 15 = .ok (.aload_n 0, 1) := by decide +kernel
theorem dX2_init_16 : decode cX2_init 16 = .ok (.invokevirtual 21, 3) := by decide +kernel
theorem dX2_init_19 : decode cX2_init 19 = .ok (.return_, 1) := by decide +kernel
theorem dX2_get_0 : decode cX2_get 0 = .ok (.iload_n 1, 1) := by decide +kernel
theorem dX2_get_1 : decode cX2_get 1 = .ok (.ifCond .lt 21, 3) := by decide +kernel
theorem dX2_get_4 : decode cX2_get 4 = .ok (.iload_n 1, 1) := by decide +kernel
theorem dX2_get_5 : decode cX2_get 5 = .ok (.aload_n 0, 1) := by decide +kernel
theorem dX2_get_6 : decode cX2_get 6 = .ok (.getfield 15, 3) := by decide +kernel
theorem dX2_get_9 : decode cX2_get 9 = .ok (.arraylength, 1) := by decide +kernel
theorem dX2_get_10 : decode cX2_get 10 = .ok (.if_icmp .ge 12, 3) := by decide +kernel
theorem dX2_get_13 : decode cX2_get 13 = .ok (.aload_n 0, 1) := by decide +kernel
theorem dX2_get_14 : decode cX2_get 14 = .ok (.getfield 15, 3) := by decide +kernel
theorem dX2_get_17 : decode cX2_get 17 = .ok (.iload_n 1, 1) := by decide +kernel
theorem dX2_get_18 : decode cX2_get 18 = .ok (.iaload, 1) := by decide +kernel
theorem dX2_get_19 : decode cX2_get 19 = .ok (.goto 4, 3) := by decide +kernel
theorem dX2_get_22 : decode cX2_get 22 = .ok (.iconst (-1), 1) := by decide +kernel
theorem dX2_get_23 : decode cX2_get 23 = .ok (.ireturn, 1) := by decide +kernel
theorem dX2_set_0 : decode cX2_set 0 = .ok (.iload_n 1, 1) := by decide +kernel
theorem dX2_set_1 : decode cX2_set 1 = .ok (.ifCond .lt 19, 3) := by decide +kernel
theorem dX2_set_4 : decode cX2_set 4 = .ok (.iload_n 1, 1) := by decide +kernel
theorem dX2_set_5 : decode cX2_set 5 = .ok (.aload_n 0, 1) := by decide +kernel
theorem dX2_set_6 : decode cX2_set 6 = .ok (.getfield 15, 3) := by decide +kernel
theorem dX2_set_9 : decode cX2_set 9 = .ok (.arraylength, 1) := by decide +kernel
theorem dX2_set_10 : decode cX2_set 10 = .ok (.if_icmp .ge 10, 3) := by decide +kernel
theorem dX2_set_13 : decode cX2_set 13 = .ok (.aload_n 0, 1) := by decide +kernel
theorem dX2_set_14 : decode cX2_set 14 = .ok (.getfield 15, 3) := by decide +kernel
theorem dX2_set_17 : decode cX2_set 17 = .ok (.iload_n 1, 1) := by decide +kernel
theorem dX2_set_18 : decode cX2_set 18 = .ok (.iload_n 2, 1) := by decide +kernel
theorem dX2_set_19 : decode cX2_set 19 = .ok (.iastore, 1) := by decide +kernel
theorem dX2_set_20 : decode cX2_set 20 = .ok (.return_, 1) := by decide +kernel
theorem dX2_clear_0 : decode cX2_clear 0 = .ok (.iconst 0, 1) := by decide +kernel
theorem dX2_clear_1 : decode cX2_clear 1 = .ok (.istore_n 1, 1) := by decide +kernel
theorem dX2_clear_2 : decode cX2_clear 2 = .ok (.iload_n 1, 1) := by decide +kernel
theorem dX2_clear_3 : decode cX2_clear 3 = .ok (.aload_n 0, 1) := by decide +kernel
theorem dX2_clear_4 : decode cX2_clear 4 = .ok (.getfield 15, 3) := by decide +kernel
theorem dX2_clear_7 : decode cX2_clear 7 = .ok (.arraylength, 1) := by decide +kernel
theorem dX2_clear_8 : decode cX2_clear 8 = .ok (.if_icmp .ge 16, 3) := by decide +kernel
theorem dX2_clear_11 : decode cX2_clear 11 = .ok (.aload_n 0, 1) := by decide +kernel
theorem dX2_clear_12 : decode cX2_clear 12 = .ok (.getfield 15, 3) := by decide +kernel
theorem dX2_clear_15 : decode cX2_clear 15 = .ok (.iload_n 1, 1) := by decide +kernel
theorem dX2_clear_16 : decode cX2_clear 16 = .ok (.iconst (-1), 1) := by decide +kernel
theorem dX2_clear_17 : decode cX2_clear 17 = .ok (.iastore, 1) := by decide +kernel
theorem dX2_clear_18 : decode cX2_clear 18 = .ok (.iinc 1 1, 3) := by decide +kernel
theorem dX2_clear_21 : decode cX2_clear 21 = .ok (.goto (-19), 3) := by decide +kernel
theorem dX2_clear_24 : decode cX2_clear 24 = .ok (.return_, 1) := by decide +kernel
theorem dX2_filled_0 : decode cX2_filled 0 = .ok (.iconst 0, 1) := by decide +kernel
theorem dX2_filled_1 : decode cX2_filled 1 = .ok (.istore_n 1, 1) := by decide +kernel
theorem dX2_filled_2 : decode cX2_filled 2 = .ok (.iconst 0, 1) := by decide +kernel
theorem dX2_filled_3 : decode cX2_filled 3 = .ok (.istore_n 2, 1) := by decide +kernel
theorem dX2_filled_4 : decode cX2_filled 4 = .ok (.iload_n 2, 1) := by decide +kernel
theorem dX2_filled_5 : decode cX2_filled 5 = .ok (.aload_n 0, 1) := by decide +kernel
theorem dX2_filled_6 : decode cX2_filled 6 = .ok (.getfield 15, 3) := by decide +kernel
theorem dX2_filled_9 : decode cX2_filled 9 = .ok (.arraylength, 1) := by decide +kernel
theorem dX2_filled_10 : decode cX2_filled 10 = .ok (.if_icmp .ge 22, 3) := by decide +kernel
theorem dX2_filled_13 : decode cX2_filled 13 = .ok (.aload_n 0, 1) := by decide +kernel
theorem dX2_filled_14 : decode cX2_filled 14 = .ok (.getfield 15, 3) := by decide +kernel
theorem dX2_filled_17 : decode cX2_filled 17 = .ok (.iload_n 2, 1) := by decide +kernel
theorem dX2_filled_18 : decode cX2_filled 18 = .ok (.iaload, 1) := by decide +kernel
theorem dX2_filled_19 : decode cX2_filled 19 = .ok (.iconst (-1), 1) := by decide +kernel
theorem dX2_filled_20 : decode cX2_filled 20 = .ok (.if_icmp .eq 6, 3) := by decide +kernel
theorem dX2_filled_23 : decode cX2_filled 23 = .ok (.iinc 1 1, 3) := by decide +kernel
theorem dX2_filled_26 : decode cX2_filled 26 = .ok (.iinc 2 1, 3) := by decide +kernel
theorem dX2_filled_29 : decode cX2_filled 29 = .ok (.goto (-25), 3) := by decide +kernel
theorem dX2_filled_32 : decode cX2_filled 32 = .ok (.iload_n 1, 1) := by decide +kernel
theorem dX2_filled_33 : decode cX2_filled 33 = .ok (.ireturn, 1) := by decide +kernel
theorem dX2_takeOver_0 : decode cX2_takeOver 0 = .ok (.iconst 0, 1) := by decide +kernel
theorem dX2_takeOver_1 : decode cX2_takeOver 1 = .ok (.istore_n 2, 1) := by decide +kernel
theorem dX2_takeOver_2 : decode cX2_takeOver 2 = .ok (.iload_n 2, 1) := by decide +kernel
theorem dX2_takeOver_3 : decode cX2_takeOver 3 = .ok (.aload_n 0, 1) := by decide +kernel
theorem dX2_takeOver_4 : decode cX2_takeOver 4 = .ok (.getfield 15, 3) := by decide +kernel
theorem dX2_takeOver_7 : decode cX2_takeOver 7 = .ok (.arraylength, 1) := by decide +kernel
theorem dX2_takeOver_8 : decode cX2_takeOver 8 = .ok (.if_icmp .ge 20, 3) := by decide +kernel
theorem dX2_takeOver_11 : decode cX2_takeOver 11 = .ok (.aload_n 0, 1) := by decide +kernel
theorem dX2_takeOver_12 : decode cX2_takeOver 12 = .ok (.getfield 15, 3) := by decide +kernel
theorem dX2_takeOver_15 : decode cX2_takeOver 15 = .ok (.iload_n 2, 1) := by decide +kernel
theorem dX2_takeOver_16 : decode cX2_takeOver 16 = .ok (.aload_n 1, 1) := by decide +kernel
theorem dX2_takeOver_17 : decode cX2_takeOver 17 = .ok (.iload_n 2, 1) := by decide +kernel
theorem dX2_takeOver_18 : decode cX2_takeOver 18 = .ok (.invokevirtual 24, 3) := by decide +kernel
theorem dX2_takeOver_21 : decode cX2_takeOver 21 = .ok (.iastore, 1) := by decide +kernel
theorem dX2_takeOver_22 : decode cX2_takeOver 22 = .ok (.iinc 2 1, 3) := by decide +kernel
theorem dX2_takeOver_25 : decode cX2_takeOver 25 = .ok (.goto (-23), 3) := by decide +kernel
theorem dX2_takeOver_28 : decode cX2_takeOver 28 = .ok (.return_, 1) := by decide +kernel
theorem dX3_init_0 : decode cX3_init 0 = .ok (.aload_n 0, 1) := by decide +kernel
theorem dX3_init_1 : decode cX3_init 1 = .ok (.invokespecial 3, 3) := by decide +kernel
theorem dX3_init_4 : decode cX3_init 4 = .ok (.aload_n 0, 1) := by decide +kernel
theorem dX3_init_5 : decode cX3_init 5 = .ok (.new 9, 3) := by decide +kernel
theorem dX3_init_8 : decode cX3_init 8 = .ok (.dup, 1) := by decide +kernel
theorem dX3_init_9 : decode cX3_init 9 = .ok (.bipush 80, 2) := by decide +kernel
theorem dX3_init_11 : decode cX3_init 11 = .ok (.invokespecial 11, 3) := by decide +kernel
theorem dX3_init_14 : decode cX3_init 14 = .ok (.putfield 14, 3) := by decide +kernel
theorem dX3_init_17 : decode cX3_init 17 = .ok (.aload_n 0, 1) := by decide +kernel
theorem dX3_init_18 : decode cX3_init 18 = .ok (.new 9, 3) := by decide +kernel
theorem dX3_init_21 : decode cX3_init 21 = .ok (.dup, 1) := by decide +kernel
theorem dX3_init_22 : decode cX3_init 22 = .ok (.bipush 40, 2) := by decide +kernel
theorem dX3_init_24 : decode cX3_init 24 = .ok (.invokespecial 11, 3) := by decide +kernel
theorem dX3_init_27 : decode cX3_init 27 = .ok (.putfield 20, 3) := by decide +kernel
theorem dX3_init_30 : decode cX3_init 30 = .ok (.aload_n 0, 1) := by decide +kernel
theorem dX3_init_31 : decode cX3_init 31 = .ok (.new 9, 3) := by decide +kernel
theorem dX3_init_34 : decode cX3_init 34 = .ok (.dup, 1) := by decide +kernel
theorem dX3_init_35 : decode cX3_init 35 = .ok (.bipush 40, 2) := by decide +kernel
theorem dX3_init_37 : decode cX3_init 37 = .ok (.invokespecial 11, 3) := by decide +kernel
theorem dX3_init_40 : decode cX3_init 40 = .ok (.putfield 23, 3) := by decide +kernel
theorem dX3_init_43 : decode cX3_init 43 = .ok (.aload_n 0, 1) := by decide +kernel
theorem dX3_init_44 : decode cX3_init 44 = .ok (.new 9, 3) := by decide +kernel
theorem dX3_init_47 : decode cX3_init 47 = .ok (.dup, 1) := by decide +kernel
theorem dX3_init_48 : decode cX3_init 48 = .ok (.bipush 40, 2) := by decide +kernel
theorem dX3_init_50 : decode cX3_init 50 = .ok (.invokespecial 11, 3) := by decide +kernel
theorem dX3_init_53 : decode cX3_init 53 = .ok (.putfield 26, 3) := by decide +kernel
theorem dX3_init_56 : decode cX3_init 56 = .ok (.aload_n 0, 1) := by decide +kernel
theorem dX3_init_57 : decode cX3_init 57 = .ok (.iconst 0, 1) := by decide +kernel
theorem dX3_init_58 : decode cX3_init 58 = .ok (.putfield 29, 3) := by decide +kernel
theorem dX3_init_61 : decode cX3_init 61 = .ok (.return_, 1) := by decide +kernel
theorem dX4_init_0 : decode cX4_init 0 = .ok (.aload_n 0, 1) := by decide +kernel
theorem dX4_init_1 : decode cX4_init 1 = .ok (.invokespecial 3, 3) := by decide +kernel
theorem dX4_init_4 : decode cX4_init 4 = .ok (.aload_n 0, 1) := by decide +kernel
theorem dX4_init_5 : decode cX4_init 5 = .ok (.new 9, 3) := by decide +kernel
theorem dX4_init_8 : decode cX4_init 8 = .ok (.dup, 1) := by decide +kernel
theorem dX4_init_9 : decode cX4_init 9 = .ok (.invokespecial 11, 3) := by decide +kernel
theorem dX4_init_12 : decode cX4_init 12 = .ok (.putfield 12, 3) := by decide +kernel
theorem dX4_init_15 : decode cX4_init 15 = .ok (.aload_n 0, 1) := by decide +kernel
theorem dX4_init_16 : decode cX4_init 16 = .ok (.new 9, 3) := by decide +kernel
theorem dX4_init_19 : decode cX4_init 19 = .ok (.dup, 1) := by decide +kernel
theorem dX4_init_20 : decode cX4_init 20 = .ok (.invokespecial 11, 3) := by decide +kernel
theorem dX4_init_23 : decode cX4_init 23 = .ok (.putfield 16, 3) := by decide +kernel
theorem dX4_init_26 : decode cX4_init 26 = .ok (.aload_n 0, 1) := by decide +kernel
theorem dX4_init_27 : decode cX4_init 27 = .ok (.new 19, 3) := by decide +kernel
theorem dX4_init_30 : decode cX4_init 30 = .ok (.dup, 1) := by decide +kernel
theorem dX4_init_31 : decode cX4_init 31 = .ok (.invokespecial 21, 3) := by decide +kernel
theorem dX4_init_34 : decode cX4_init 34 = .ok (.putfield 22, 3) := by decide +kernel
theorem dX4_init_37 : decode cX4_init 37 = .ok (.aload_n 0, 1) := by decide +kernel
theorem dX4_init_38 : decode cX4_init 38 = .ok (.new 26, 3) := by decide +kernel
theorem dX4_init_41 : decode cX4_init 41 = .ok (.dup, 1) := by decide +kernel
theorem dX4_init_42 : decode cX4_init 42 = .ok (.invokespecial 28, 3) := by decide +kernel
theorem dX4_init_45 : decode cX4_init 45 = .ok (.putfield 29, 3) := by decide +kernel
theorem dX4_init_48 : decode cX4_init 48 = .ok (.return_, 1) := by decide +kernel
theorem dX4_format_0 : decode cX4_format 0 = .ok (.aload_n 0, 1) := by decide +kernel
theorem dX4_format_1 : decode cX4_format 1 = .ok (.getfield 22, 3) := by decide +kernel
theorem dX4_format_4 : decode cX4_format 4 = .ok (.aload_n 0, 1) := by decide +kernel
theorem dX4_format_5 : decode cX4_format 5 = .ok (.getfield 12, 3) := by decide +kernel
theorem dX4_format_8 : decode cX4_format 8 = .ok (.invokevirtual 33, 3) := by decide +kernel
theorem dX4_format_11 : decode cX4_format 11 = .ok (.aload_n 0, 1) := by decide +kernel
theorem dX4_format_12 : decode cX4_format 12 = .ok (.getfield 22, 3) := by decide +kernel
theorem dX4_format_15 : decode cX4_format 15 = .ok (.aload_n 0, 1) := by decide +kernel
theorem dX4_format_16 : decode cX4_format 16 = .ok (.getfield 12, 3) := by decide +kernel
theorem dX4_format_19 : decode cX4_format 19 = .ok (.iload_n 1, 1) := by decide +kernel
theorem dX4_format_20 : decode cX4_format 20 = .ok (.invokevirtual 37, 3) := by decide +kernel
theorem dX4_format_23 : decode cX4_format 23 = .ok (.invokevirtual 41, 3) := by decide +kernel
theorem dX4_format_26 : decode cX4_format 26 = .ok (.ireturn, 1) := by decide +kernel
theorem dX4_addKey_0 : decode cX4_addKey 0 = .ok (.aload_n 0, 1) := by decide +kernel
theorem dX4_addKey_1 : decode cX4_addKey 1 = .ok (.getfield 22, 3) := by decide +kernel
theorem dX4_addKey_4 : decode cX4_addKey 4 = .ok (.aload_n 0, 1) := by decide +kernel
theorem dX4_addKey_5 : decode cX4_addKey 5 = .ok (.getfield 12, 3) := by decide +kernel
theorem dX4_addKey_8 : decode cX4_addKey 8 = .ok (.invokevirtual 33, 3) := by decide +kernel
theorem dX4_addKey_11 : decode cX4_addKey 11 = .ok (.aload_n 0, 1) := by decide +kernel
theorem dX4_addKey_12 : decode cX4_addKey 12 = .ok (.getfield 22, 3) := by decide +kernel
theorem dX4_addKey_15 : decode cX4_addKey 15 = .ok (.aload_n 0, 1) := by decide +kernel
theorem dX4_addKey_16 : decode cX4_addKey 16 = .ok (.getfield 12, 3) := by decide +kernel
theorem dX4_addKey_19 : decode cX4_addKey 19 = .ok (.iload_n 1, 1) := by decide +kernel
theorem dX4_addKey_20 : decode cX4_addKey 20 = .ok (.iload_n 2, 1) := by decide +kernel
theorem dX4_addKey_21 : decode cX4_addKey 21 = .ok (.invokevirtual 44, 3) := by decide +kernel
theorem dX4_addKey_24 : decode cX4_addKey 24 = .ok (.invokevirtual 41, 3) := by decide +kernel
theorem dX4_addKey_27 : decode cX4_addKey 27 = .ok (.ireturn, 1) := by decide +kernel
theorem dX4_removeKey_0 : decode cX4_removeKey 0 = .ok (.aload_n 0, 1) := by decide +kernel
theorem dX4_removeKey_1 : decode cX4_removeKey 1 = .ok (.getfield 22, 3) := by decide +kernel
theorem dX4_removeKey_4 : decode cX4_removeKey 4 = .ok (.aload_n 0, 1) := by decide +kernel
theorem dX4_removeKey_5 : decode cX4_removeKey 5 = .ok (.getfield 12, 3) := by decide +kernel
theorem dX4_removeKey_8 : decode cX4_removeKey 8 = .ok (.invokevirtual 33, 3) := by decide +kernel
theorem dX4_removeKey_11 : decode cX4_removeKey 11 = .ok (.aload_n 0, 1) := by decide +kernel
theorem dX4_removeKey_12 : decode cX4_removeKey 12 = .ok (.getfield 22, 3) := by decide +kernel
theorem dX4_removeKey_15 : decode cX4_removeKey 15 = .ok (.aload_n 0, 1) := by decide +kernel
theorem dX4_removeKey_16 : decode cX4_removeKey 16 = .ok (.getfield 12, 3) := by decide +kernel
theorem dX4_removeKey_19 : decode cX4_removeKey 19 = .ok (.iload_n 1, 1) := by decide +kernel
theorem dX4_removeKey_20 : decode cX4_removeKey 20 = .ok (.invokevirtual 48, 3) := by decide +kernel
theorem dX4_removeKey_23 : decode cX4_removeKey 23 = .ok (.invokevirtual 41, 3) := by decide +kernel
theorem dX4_removeKey_26 : decode cX4_removeKey 26 = .ok (.ireturn, 1) := by decide +kernel
theorem dX4_secretOf_0 : decode cX4_secretOf 0 = .ok (.aload_n 0, 1) := by decide +kernel
theorem dX4_secretOf_1 : decode cX4_secretOf 1 = .ok (.getfield 12, 3) := by decide +kernel
theorem dX4_secretOf_4 : decode cX4_secretOf 4 = .ok (.iload_n 1, 1) := by decide +kernel
theorem dX4_secretOf_5 : decode cX4_secretOf 5 = .ok (.invokevirtual 51, 3) := by decide +kernel
theorem dX4_secretOf_8 : decode cX4_secretOf 8 = .ok (.ifCond .eq 14, 3) := by decide +kernel
theorem dX4_secretOf_11 : decode cX4_secretOf 11 = .ok (.aload_n 0, 1) := by decide +kernel
theorem dX4_secretOf_12 : decode cX4_secretOf 12 = .ok (.getfield 12, 3) := by decide +kernel
theorem dX4_secretOf_15 : decode cX4_secretOf 15 = .ok (.iload_n 1, 1) := by decide +kernel
theorem dX4_secretOf_16 : decode cX4_secretOf 16 = .ok (.invokevirtual 55, 3) := by decide +kernel
theorem dX4_secretOf_19 : decode cX4_secretOf 19 = .ok (.goto 4, 3) := by decide +kernel
theorem dX4_secretOf_22 : decode cX4_secretOf 22 = .ok (.iconst (-1), 1) := by decide +kernel
theorem dX4_secretOf_23 : decode cX4_secretOf 23 = .ok (.ireturn, 1) := by decide +kernel
theorem dX4_setZone_0 : decode cX4_setZone 0 = .ok (.aload_n 0, 1) := by decide +kernel
theorem dX4_setZone_1 : decode cX4_setZone 1 = .ok (.getfield 22, 3) := by decide +kernel
theorem dX4_setZone_4 : decode cX4_setZone 4 = .ok (.aload_n 0, 1) := by decide +kernel
theorem dX4_setZone_5 : decode cX4_setZone 5 = .ok (.getfield 12, 3) := by decide +kernel
theorem dX4_setZone_8 : decode cX4_setZone 8 = .ok (.invokevirtual 33, 3) := by decide +kernel
theorem dX4_setZone_11 : decode cX4_setZone 11 = .ok (.aload_n 0, 1) := by decide +kernel
theorem dX4_setZone_12 : decode cX4_setZone 12 = .ok (.getfield 22, 3) := by decide +kernel
theorem dX4_setZone_15 : decode cX4_setZone 15 = .ok (.aload_n 0, 1) := by decide +kernel
theorem dX4_setZone_16 : decode cX4_setZone 16 = .ok (.getfield 12, 3) := by decide +kernel
theorem dX4_setZone_19 : decode cX4_setZone 19 = .ok (.iload_n 1, 1) := by decide +kernel
theorem dX4_setZone_20 : decode cX4_setZone 20 = .ok (.invokevirtual 58, 3) := by decide +kernel
theorem dX4_setZone_23 : decode cX4_setZone 23 = .ok (.invokevirtual 41, 3) := by decide +kernel
theorem dX4_setZone_26 : decode cX4_setZone 26 = .ok (.ireturn, 1) := by decide +kernel
theorem dX4_setJournal_0 : decode cX4_setJournal 0 = .ok (.aload_n 0, 1) := by decide +kernel
theorem dX4_setJournal_1 : decode cX4_setJournal 1 = .ok (.getfield 22, 3) := by decide +kernel
theorem dX4_setJournal_4 : decode cX4_setJournal 4 = .ok (.aload_n 0, 1) := by decide +kernel
theorem dX4_setJournal_5 : decode cX4_setJournal 5 = .ok (.getfield 12, 3) := by decide +kernel
theorem dX4_setJournal_8 : decode cX4_setJournal 8 = .ok (.invokevirtual 33, 3) := by decide +kernel
theorem dX4_setJournal_11 : decode cX4_setJournal 11 = .ok (.aload_n 0, 1) := by decide +kernel
theorem dX4_setJournal_12 : decode cX4_setJournal 12 = .ok (.getfield 22, 3) := by decide +kernel
theorem dX4_setJournal_15 : decode cX4_setJournal 15 = .ok (.aload_n 0, 1) := by decide +kernel
theorem dX4_setJournal_16 : decode cX4_setJournal 16 = .ok (.getfield 12, 3) := by decide +kernel
theorem dX4_setJournal_19 : decode cX4_setJournal 19 = .ok (.iload_n 1, 1) := by decide +kernel
theorem dX4_setJournal_20 : decode cX4_setJournal 20 = .ok (.invokevirtual 61, 3) := by decide +kernel
theorem dX4_setJournal_23 : decode cX4_setJournal 23 = .ok (.invokevirtual 41, 3) := by decide +kernel
theorem dX4_setJournal_26 : decode cX4_setJournal 26 = .ok (.ireturn, 1) := by decide +kernel
theorem dX4_start_0 : decode cX4_start 0 = .ok (.aload_n 0, 1) := by decide +kernel
theorem dX4_start_1 : decode cX4_start 1 = .ok (.getfield 22, 3) := by decide +kernel
theorem dX4_start_4 : decode cX4_start 4 = .ok (.aload_n 0, 1) := by decide +kernel
theorem dX4_start_5 : decode cX4_start 5 = .ok (.getfield 12, 3) := by decide +kernel
theorem dX4_start_8 : decode cX4_start 8 = .ok (.invokevirtual 33, 3) := by decide +kernel
theorem dX4_start_11 : decode cX4_start 11 = .ok (.aload_n 0, 1) := by decide +kernel
theorem dX4_start_12 : decode cX4_start 12 = .ok (.getfield 22, 3) := by decide +kernel
theorem dX4_start_15 : decode cX4_start 15 = .ok (.aload_n 0, 1) := by decide +kernel
theorem dX4_start_16 : decode cX4_start 16 = .ok (.getfield 12, 3) := by decide +kernel
theorem dX4_start_19 : decode cX4_start 19 = .ok (.iload_n 1, 1) := by decide +kernel
theorem dX4_start_20 : decode cX4_start 20 = .ok (.invokevirtual 64, 3) := by decide +kernel
theorem dX4_start_23 : decode cX4_start 23 = .ok (.invokevirtual 41, 3) := by decide +kernel
theorem dX4_start_26 : decode cX4_start 26 = .ok (.ireturn, 1) := by decide +kernel
theorem dX4_steps_0 : decode cX4_steps 0 = .ok (.aload_n 0, 1) := by decide +kernel
theorem dX4_steps_1 : decode cX4_steps 1 = .ok (.getfield 22, 3) := by decide +kernel
theorem dX4_steps_4 : decode cX4_steps 4 = .ok (.aload_n 0, 1) := by decide +kernel
theorem dX4_steps_5 : decode cX4_steps 5 = .ok (.getfield 12, 3) := by decide +kernel
theorem dX4_steps_8 : decode cX4_steps 8 = .ok (.invokevirtual 33, 3) := by decide +kernel
theorem dX4_steps_11 : decode cX4_steps 11 = .ok (.aload_n 0, 1) := by decide +kernel
theorem dX4_steps_12 : decode cX4_steps 12 = .ok (.getfield 22, 3) := by decide +kernel
theorem dX4_steps_15 : decode cX4_steps 15 = .ok (.aload_n 0, 1) := by decide +kernel
theorem dX4_steps_16 : decode cX4_steps 16 = .ok (.getfield 12, 3) := by decide +kernel
theorem dX4_steps_19 : decode cX4_steps 19 = .ok (.iload_n 1, 1) := by decide +kernel
theorem dX4_steps_20 : decode cX4_steps 20 = .ok (.invokevirtual 67, 3) := by decide +kernel
theorem dX4_steps_23 : decode cX4_steps 23 = .ok (.invokevirtual 41, 3) := by decide +kernel
theorem dX4_steps_26 : decode cX4_steps 26 = .ok (.ireturn, 1) := by decide +kernel
theorem dX4_turnBack_0 : decode cX4_turnBack 0 = .ok (.aload_n 0, 1) := by decide +kernel
theorem dX4_turnBack_1 : decode cX4_turnBack 1 = .ok (.getfield 22, 3) := by decide +kernel
theorem dX4_turnBack_4 : decode cX4_turnBack 4 = .ok (.aload_n 0, 1) := by decide +kernel
theorem dX4_turnBack_5 : decode cX4_turnBack 5 = .ok (.getfield 12, 3) := by decide +kernel
theorem dX4_turnBack_8 : decode cX4_turnBack 8 = .ok (.invokevirtual 33, 3) := by decide +kernel
theorem dX4_turnBack_11 : decode cX4_turnBack 11 = .ok (.aload_n 0, 1) := by decide +kernel
theorem dX4_turnBack_12 : decode cX4_turnBack 12 = .ok (.getfield 22, 3) := by decide +kernel
theorem dX4_turnBack_15 : decode cX4_turnBack 15 = .ok (.aload_n 0, 1) := by decide +kernel
theorem dX4_turnBack_16 : decode cX4_turnBack 16 = .ok (.getfield 12, 3) := by decide +kernel
theorem dX4_turnBack_19 : decode cX4_turnBack 19 = .ok (.invokevirtual 70, 3) := by decide +kernel
theorem dX4_turnBack_22 : decode cX4_turnBack 22 = .ok (.invokevirtual 41, 3) := by decide +kernel
theorem dX4_turnBack_25 : decode cX4_turnBack 25 = .ok (.ireturn, 1) := by decide +kernel
theorem dX4_write_0 : decode cX4_write 0 = .ok (.aload_n 0, 1) := by decide +kernel
theorem dX4_write_1 : decode cX4_write 1 = .ok (.getfield 22, 3) := by decide +kernel
theorem dX4_write_4 : decode cX4_write 4 = .ok (.aload_n 0, 1) := by decide +kernel
theorem dX4_write_5 : decode cX4_write 5 = .ok (.getfield 12, 3) := by decide +kernel
theorem dX4_write_8 : decode cX4_write 8 = .ok (.invokevirtual 33, 3) := by decide +kernel
theorem dX4_write_11 : decode cX4_write 11 = .ok (.aload_n 0, 1) := by decide +kernel
theorem dX4_write_12 : decode cX4_write 12 = .ok (.getfield 22, 3) := by decide +kernel
theorem dX4_write_15 : decode cX4_write 15 = .ok (.aload_n 0, 1) := by decide +kernel
theorem dX4_write_16 : decode cX4_write 16 = .ok (.getfield 12, 3) := by decide +kernel
theorem dX4_write_19 : decode cX4_write 19 = .ok (.iload_n 1, 1) := by decide +kernel
theorem dX4_write_20 : decode cX4_write 20 = .ok (.iload_n 2, 1) := by decide +kernel
theorem dX4_write_21 : decode cX4_write 21 = .ok (.invokevirtual 74, 3) := by decide +kernel
theorem dX4_write_24 : decode cX4_write 24 = .ok (.invokevirtual 41, 3) := by decide +kernel
theorem dX4_write_27 : decode cX4_write 27 = .ok (.ireturn, 1) := by decide +kernel
theorem dX4_flush_0 : decode cX4_flush 0 = .ok (.aload_n 0, 1) := by decide +kernel
theorem dX4_flush_1 : decode cX4_flush 1 = .ok (.getfield 22, 3) := by decide +kernel
theorem dX4_flush_4 : decode cX4_flush 4 = .ok (.aload_n 0, 1) := by decide +kernel
theorem dX4_flush_5 : decode cX4_flush 5 = .ok (.getfield 12, 3) := by decide +kernel
theorem dX4_flush_8 : decode cX4_flush 8 = .ok (.invokevirtual 33, 3) := by decide +kernel
theorem dX4_flush_11 : decode cX4_flush 11 = .ok (.aload_n 0, 1) := by decide +kernel
theorem dX4_flush_12 : decode cX4_flush 12 = .ok (.getfield 22, 3) := by decide +kernel
theorem dX4_flush_15 : decode cX4_flush 15 = .ok (.aload_n 0, 1) := by decide +kernel
theorem dX4_flush_16 : decode cX4_flush 16 = .ok (.getfield 12, 3) := by decide +kernel
theorem dX4_flush_19 : decode cX4_flush 19 = .ok (.invokevirtual 77, 3) := by decide +kernel
theorem dX4_flush_22 : decode cX4_flush 22 = .ok (.invokevirtual 41, 3) := by decide +kernel
theorem dX4_flush_25 : decode cX4_flush 25 = .ok (.ireturn, 1) := by decide +kernel
theorem dX4_fail_0 : decode cX4_fail 0 = .ok (.aload_n 0, 1) := by decide +kernel
theorem dX4_fail_1 : decode cX4_fail 1 = .ok (.getfield 22, 3) := by decide +kernel
theorem dX4_fail_4 : decode cX4_fail 4 = .ok (.aload_n 0, 1) := by decide +kernel
theorem dX4_fail_5 : decode cX4_fail 5 = .ok (.getfield 12, 3) := by decide +kernel
theorem dX4_fail_8 : decode cX4_fail 8 = .ok (.invokevirtual 33, 3) := by decide +kernel
theorem dX4_fail_11 : decode cX4_fail 11 = .ok (.aload_n 0, 1) := by decide +kernel
theorem dX4_fail_12 : decode cX4_fail 12 = .ok (.getfield 22, 3) := by decide +kernel
theorem dX4_fail_15 : decode cX4_fail 15 = .ok (.aload_n 0, 1) := by decide +kernel
theorem dX4_fail_16 : decode cX4_fail 16 = .ok (.getfield 12, 3) := by decide +kernel
theorem dX4_fail_19 : decode cX4_fail 19 = .ok (.invokevirtual 80, 3) := by decide +kernel
theorem dX4_fail_22 : decode cX4_fail 22 = .ok (.invokevirtual 41, 3) := by decide +kernel
theorem dX4_fail_25 : decode cX4_fail 25 = .ok (.ireturn, 1) := by decide +kernel
theorem dX4_count_0 : decode cX4_count 0 = .ok (.iload_n 1, 1) := by decide +kernel
theorem dX4_count_1 : decode cX4_count 1 = .ok (.ifCond .lt 9, 3) := by decide +kernel
theorem dX4_count_4 : decode cX4_count 4 = .ok (.iload_n 1, 1) := by decide +kernel
theorem dX4_count_5 : decode cX4_count 5 = .ok (.bipush 13, 2) := by decide +kernel
theorem dX4_count_7 : decode cX4_count 7 = .ok (.if_icmp .lt 6, 3) := by decide +kernel
theorem dX4_count_10 : decode cX4_count 10 = .ok (.bipush (-2), 2) := by decide +kernel
theorem dX4_count_12 : decode cX4_count 12 = .ok (.ireturn, 1) := by decide +kernel
theorem dX4_count_13 : decode cX4_count 13 = .ok (.iload_n 1, 1) := by decide +kernel
theorem dX4_count_14 : decode cX4_count 14 = .ok (.iconst 2, 1) := by decide +kernel
theorem dX4_count_15 : decode cX4_count 15 = .ok (.if_icmp .lt 19, 3) := by decide +kernel
theorem dX4_count_18 : decode cX4_count 18 = .ok (.iload_n 1, 1) := by decide +kernel
theorem dX4_count_19 : decode cX4_count 19 = .ok (.iconst 4, 1) := by decide +kernel
theorem dX4_count_20 : decode cX4_count 20 = .ok (.if_icmp .gt 14, 3) := by decide +kernel
theorem dX4_count_23 : decode cX4_count 23 = .ok (.aload_n 0, 1) := by decide +kernel
theorem dX4_count_24 : decode cX4_count 24 = .ok (.getfield 12, 3) := by decide +kernel
theorem dX4_count_27 : decode cX4_count 27 = .ok (.iload_n 1, 1) := by decide +kernel
theorem dX4_count_28 : decode cX4_count 28 = .ok (.invokevirtual 83, 3) := by decide +kernel
theorem dX4_count_31 : decode cX4_count 31 = .ok (.goto 11, 3) := by decide +kernel
theorem dX4_count_34 : decode cX4_count 34 = .ok (.aload_n 0, 1) := by decide +kernel
theorem dX4_count_35 : decode cX4_count 35 = .ok (.getfield 12, 3) := by decide +kernel
theorem dX4_count_38 : decode cX4_count 38 = .ok (.iload_n 1, 1) := by decide +kernel
theorem dX4_count_39 : decode cX4_count 39 = .ok (.invokevirtual 86, 3) := by decide +kernel
theorem dX4_count_42 : decode cX4_count 42 = .ok (.ireturn, 1) := by decide +kernel
theorem dX4_read_0 : decode cX4_read 0 = .ok (.aload_n 0, 1) := by decide +kernel
theorem dX4_read_1 : decode cX4_read 1 = .ok (.getfield 12, 3) := by decide +kernel
theorem dX4_read_4 : decode cX4_read 4 = .ok (.iload_n 1, 1) := by decide +kernel
theorem dX4_read_5 : decode cX4_read 5 = .ok (.invokevirtual 89, 3) := by decide +kernel
theorem dX4_read_8 : decode cX4_read 8 = .ok (.ifCond .eq 14, 3) := by decide +kernel
theorem dX4_read_11 : decode cX4_read 11 = .ok (.aload_n 0, 1) := by decide +kernel
theorem dX4_read_12 : decode cX4_read 12 = .ok (.getfield 12, 3) := by decide +kernel
theorem dX4_read_15 : decode cX4_read 15 = .ok (.iload_n 1, 1) := by decide +kernel
theorem dX4_read_16 : decode cX4_read 16 = .ok (.invokevirtual 92, 3) := by decide +kernel
theorem dX4_read_19 : decode cX4_read 19 = .ok (.goto 4, 3) := by decide +kernel
theorem dX4_read_22 : decode cX4_read 22 = .ok (.iconst (-1), 1) := by decide +kernel
theorem dX4_read_23 : decode cX4_read 23 = .ok (.ireturn, 1) := by decide +kernel
theorem dX4_stored_0 : decode cX4_stored 0 = .ok (.aload_n 0, 1) := by decide +kernel
theorem dX4_stored_1 : decode cX4_stored 1 = .ok (.getfield 12, 3) := by decide +kernel
theorem dX4_stored_4 : decode cX4_stored 4 = .ok (.iload_n 1, 1) := by decide +kernel
theorem dX4_stored_5 : decode cX4_stored 5 = .ok (.invokevirtual 89, 3) := by decide +kernel
theorem dX4_stored_8 : decode cX4_stored 8 = .ok (.ifCond .eq 14, 3) := by decide +kernel
theorem dX4_stored_11 : decode cX4_stored 11 = .ok (.aload_n 0, 1) := by decide +kernel
theorem dX4_stored_12 : decode cX4_stored 12 = .ok (.getfield 12, 3) := by decide +kernel
theorem dX4_stored_15 : decode cX4_stored 15 = .ok (.iload_n 1, 1) := by decide +kernel
theorem dX4_stored_16 : decode cX4_stored 16 = .ok (.invokevirtual 95, 3) := by decide +kernel
theorem dX4_stored_19 : decode cX4_stored 19 = .ok (.goto 4, 3) := by decide +kernel
theorem dX4_stored_22 : decode cX4_stored 22 = .ok (.iconst (-1), 1) := by decide +kernel
theorem dX4_stored_23 : decode cX4_stored 23 = .ok (.ireturn, 1) := by decide +kernel
theorem dX4_keyOf_0 : decode cX4_keyOf 0 = .ok (.aload_n 0, 1) := by decide +kernel
theorem dX4_keyOf_1 : decode cX4_keyOf 1 = .ok (.getfield 12, 3) := by decide +kernel
theorem dX4_keyOf_4 : decode cX4_keyOf 4 = .ok (.iload_n 1, 1) := by decide +kernel
theorem dX4_keyOf_5 : decode cX4_keyOf 5 = .ok (.invokevirtual 89, 3) := by decide +kernel
theorem dX4_keyOf_8 : decode cX4_keyOf 8 = .ok (.ifCond .eq 14, 3) := by decide +kernel
theorem dX4_keyOf_11 : decode cX4_keyOf 11 = .ok (.aload_n 0, 1) := by decide +kernel
theorem dX4_keyOf_12 : decode cX4_keyOf 12 = .ok (.getfield 12, 3) := by decide +kernel
theorem dX4_keyOf_15 : decode cX4_keyOf 15 = .ok (.iload_n 1, 1) := by decide +kernel
theorem dX4_keyOf_16 : decode cX4_keyOf 16 = .ok (.invokevirtual 98, 3) := by decide +kernel
theorem dX4_keyOf_19 : decode cX4_keyOf 19 = .ok (.goto 4, 3) := by decide +kernel
theorem dX4_keyOf_22 : decode cX4_keyOf 22 = .ok (.iconst (-1), 1) := by decide +kernel
theorem dX4_keyOf_23 : decode cX4_keyOf 23 = .ok (.ireturn, 1) := by decide +kernel
theorem dX4_journal_0 : decode cX4_journal 0 = .ok (.aload_n 0, 1) := by decide +kernel
theorem dX4_journal_1 : decode cX4_journal 1 = .ok (.getfield 12, 3) := by decide +kernel
theorem dX4_journal_4 : decode cX4_journal 4 = .ok (.iload_n 1, 1) := by decide +kernel
theorem dX4_journal_5 : decode cX4_journal 5 = .ok (.invokevirtual 89, 3) := by decide +kernel
theorem dX4_journal_8 : decode cX4_journal 8 = .ok (.ifCond .eq 17, 3) := by decide +kernel
theorem dX4_journal_11 : decode cX4_journal 11 = .ok (.aload_n 0, 1) := by decide +kernel
theorem dX4_journal_12 : decode cX4_journal 12 = .ok (.getfield 12, 3) := by decide +kernel
theorem dX4_journal_15 : decode cX4_journal 15 = .ok (.iload_n 1, 1) := by decide +kernel
theorem dX4_journal_16 : decode cX4_journal 16 = .ok (.invokevirtual 101, 3) := by decide +kernel
theorem dX4_journal_19 : decode cX4_journal 19 = .ok (.invokestatic 104, 3) := by decide +kernel
theorem dX4_journal_22 : decode cX4_journal 22 = .ok (.goto 4, 3) := by decide +kernel
theorem dX4_journal_25 : decode cX4_journal 25 = .ok (.iconst (-1), 1) := by decide +kernel
theorem dX4_journal_26 : decode cX4_journal 26 = .ok (.ireturn, 1) := by decide +kernel
theorem dX4_cached_0 : decode cX4_cached 0 = .ok (.aload_n 0, 1) := by decide +kernel
theorem dX4_cached_1 : decode cX4_cached 1 = .ok (.getfield 12, 3) := by decide +kernel
theorem dX4_cached_4 : decode cX4_cached 4 = .ok (.iload_n 1, 1) := by decide +kernel
theorem dX4_cached_5 : decode cX4_cached 5 = .ok (.invokevirtual 89, 3) := by decide +kernel
theorem dX4_cached_8 : decode cX4_cached 8 = .ok (.ifCond .eq 17, 3) := by decide +kernel
theorem dX4_cached_11 : decode cX4_cached 11 = .ok (.aload_n 0, 1) := by decide +kernel
theorem dX4_cached_12 : decode cX4_cached 12 = .ok (.getfield 12, 3) := by decide +kernel
theorem dX4_cached_15 : decode cX4_cached 15 = .ok (.iload_n 1, 1) := by decide +kernel
theorem dX4_cached_16 : decode cX4_cached 16 = .ok (.invokevirtual 107, 3) := by decide +kernel
theorem dX4_cached_19 : decode cX4_cached 19 = .ok (.invokestatic 104, 3) := by decide +kernel
theorem dX4_cached_22 : decode cX4_cached 22 = .ok (.goto 4, 3) := by decide +kernel
theorem dX4_cached_25 : decode cX4_cached 25 = .ok (.iconst (-1), 1) := by decide +kernel
theorem dX4_cached_26 : decode cX4_cached 26 = .ok (.ireturn, 1) := by decide +kernel
theorem dX4_zoneStart_0 : decode cX4_zoneStart 0 = .ok (.aload_n 0, 1) := by decide +kernel
theorem dX4_zoneStart_1 : decode cX4_zoneStart 1 = .ok (.getfield 12, 3) := by decide +kernel
theorem dX4_zoneStart_4 : decode cX4_zoneStart 4 = .ok (.invokevirtual 110, 3) := by decide +kernel
theorem dX4_zoneStart_7 : decode cX4_zoneStart 7 = .ok (.ifCond .eq 13, 3) := by decide +kernel
theorem dX4_zoneStart_10 : decode cX4_zoneStart 10 = .ok (.aload_n 0, 1) := by decide +kernel
theorem dX4_zoneStart_11 : decode cX4_zoneStart 11 = .ok (.getfield 12, 3) := by decide +kernel
theorem dX4_zoneStart_14 : decode cX4_zoneStart 14 = .ok (.invokevirtual 114, 3) := by decide +kernel
theorem dX4_zoneStart_17 : decode cX4_zoneStart 17 = .ok (.goto 5, 3) := by decide +kernel
theorem dX4_zoneStart_20 : decode cX4_zoneStart 20 = .ok (.bipush (-3), 2) := by decide +kernel
theorem dX4_zoneStart_22 : decode cX4_zoneStart 22 = .ok (.ireturn, 1) := by decide +kernel
theorem dX4_damaged_0 : decode cX4_damaged 0 = .ok (.aload_n 0, 1) := by decide +kernel
theorem dX4_damaged_1 : decode cX4_damaged 1 = .ok (.getfield 12, 3) := by decide +kernel
theorem dX4_damaged_4 : decode cX4_damaged 4 = .ok (.invokevirtual 117, 3) := by decide +kernel
theorem dX4_damaged_7 : decode cX4_damaged 7 = .ok (.ireturn, 1) := by decide +kernel
theorem dX4_firstDamaged_0 : decode cX4_firstDamaged 0 = .ok (.aload_n 0, 1) := by decide +kernel
theorem dX4_firstDamaged_1 : decode cX4_firstDamaged 1 = .ok (.getfield 12, 3) := by decide +kernel
theorem dX4_firstDamaged_4 : decode cX4_firstDamaged 4 = .ok (.invokevirtual 120, 3) := by decide +kernel
theorem dX4_firstDamaged_7 : decode cX4_firstDamaged 7 = .ok (.invokestatic 104, 3) := by decide +kernel
theorem dX4_firstDamaged_10 : decode cX4_firstDamaged 10 = .ok (.ireturn, 1) := by decide +kernel
theorem dX4_stepsLeft_0 : decode cX4_stepsLeft 0 = .ok (.aload_n 0, 1) := by decide +kernel
theorem dX4_stepsLeft_1 : decode cX4_stepsLeft 1 = .ok (.getfield 12, 3) := by decide +kernel
theorem dX4_stepsLeft_4 : decode cX4_stepsLeft 4 = .ok (.invokevirtual 110, 3) := by decide +kernel
theorem dX4_stepsLeft_7 : decode cX4_stepsLeft 7 = .ok (.ifCond .eq 13, 3) := by decide +kernel
theorem dX4_stepsLeft_10 : decode cX4_stepsLeft 10 = .ok (.aload_n 0, 1) := by decide +kernel
theorem dX4_stepsLeft_11 : decode cX4_stepsLeft 11 = .ok (.getfield 12, 3) := by decide +kernel
theorem dX4_stepsLeft_14 : decode cX4_stepsLeft 14 = .ok (.invokevirtual 123, 3) := by decide +kernel
theorem dX4_stepsLeft_17 : decode cX4_stepsLeft 17 = .ok (.goto 5, 3) := by decide +kernel
theorem dX4_stepsLeft_20 : decode cX4_stepsLeft 20 = .ok (.bipush (-3), 2) := by decide +kernel
theorem dX4_stepsLeft_22 : decode cX4_stepsLeft 22 = .ok (.ireturn, 1) := by decide +kernel
theorem dX4_ifFailed_0 : decode cX4_ifFailed 0 = .ok (.iload_n 1, 1) := by decide +kernel
theorem dX4_ifFailed_1 : decode cX4_ifFailed 1 = .ok (.ifCond .lt 10, 3) := by decide +kernel
theorem dX4_ifFailed_4 : decode cX4_ifFailed 4 = .ok (.iload_n 1, 1) := by decide +kernel
theorem dX4_ifFailed_5 : decode cX4_ifFailed 5 = .ok (.sipush 999, 3) := by decide +kernel
theorem dX4_ifFailed_8 : decode cX4_ifFailed 8 = .ok (.if_icmp .le 6, 3) := by decide +kernel
theorem dX4_ifFailed_11 : decode cX4_ifFailed 11 = .ok (.bipush (-2), 2) := by decide +kernel
theorem dX4_ifFailed_13 : decode cX4_ifFailed 13 = .ok (.ireturn, 1) := by decide +kernel
theorem dX4_ifFailed_14 : decode cX4_ifFailed 14 = .ok (.aload_n 0, 1) := by decide +kernel
theorem dX4_ifFailed_15 : decode cX4_ifFailed 15 = .ok (.getfield 16, 3) := by decide +kernel
theorem dX4_ifFailed_18 : decode cX4_ifFailed 18 = .ok (.aload_n 0, 1) := by decide +kernel
theorem dX4_ifFailed_19 : decode cX4_ifFailed 19 = .ok (.getfield 12, 3) := by decide +kernel
theorem dX4_ifFailed_22 : decode cX4_ifFailed 22 = .ok (.invokevirtual 126, 3) := by decide +kernel
theorem dX4_ifFailed_25 : decode cX4_ifFailed 25 = .ok (.iconst 0, 1) := by decide +kernel
theorem dX4_ifFailed_26 : decode cX4_ifFailed 26 = .ok (.istore_n 2, 1) := by decide +kernel
theorem dX4_ifFailed_27 : decode cX4_ifFailed 27 = .ok (.iload_n 2, 1) := by decide +kernel
theorem dX4_ifFailed_28 : decode cX4_ifFailed 28 = .ok (.iload_n 1, 1) := by decide +kernel
theorem dX4_ifFailed_29 : decode cX4_ifFailed 29 = .ok (.if_icmp .ge 26, 3) := by decide +kernel
theorem dX4_ifFailed_32 : decode cX4_ifFailed 32 = .ok (.aload_n 0, 1) := by decide +kernel
theorem dX4_ifFailed_33 : decode cX4_ifFailed 33 = .ok (.getfield 16, 3) := by decide +kernel
theorem dX4_ifFailed_36 : decode cX4_ifFailed 36 = .ok (.invokevirtual 110, 3) := by decide +kernel
theorem dX4_ifFailed_39 : decode cX4_ifFailed 39 = .ok (.ifCond .eq 16, 3) := by decide +kernel
theorem dX4_ifFailed_42 : decode cX4_ifFailed 42 = .ok (.aload_n 0, 1) := by decide +kernel
theorem dX4_ifFailed_43 : decode cX4_ifFailed 43 = .ok (.getfield 16, 3) := by decide +kernel
theorem dX4_ifFailed_46 : decode cX4_ifFailed 46 = .ok (.invokevirtual 129, 3) := by decide +kernel
theorem dX4_ifFailed_49 : decode cX4_ifFailed 49 = .ok (.iinc 2 1, 3) := by decide +kernel
theorem dX4_ifFailed_52 : decode cX4_ifFailed 52 = .ok (.goto (-25), 3) := by decide +kernel
theorem dX4_ifFailed_55 : decode cX4_ifFailed 55 = .ok (.aload_n 0, 1) := by decide +kernel
theorem dX4_ifFailed_56 : decode cX4_ifFailed 56 = .ok (.getfield 16, 3) := by decide +kernel
theorem dX4_ifFailed_59 : decode cX4_ifFailed 59 = .ok (.invokevirtual 132, 3) := by decide +kernel
theorem dX4_ifFailed_62 : decode cX4_ifFailed 62 = .ok (.ireturn, 1) := by decide +kernel
theorem dX4_ifFlushed_0 : decode cX4_ifFlushed 0 = .ok (.aload_n 0, 1) := by decide +kernel
theorem dX4_ifFlushed_1 : decode cX4_ifFlushed 1 = .ok (.getfield 12, 3) := by decide +kernel
theorem dX4_ifFlushed_4 : decode cX4_ifFlushed 4 = .ok (.iload_n 1, 1) := by decide +kernel
theorem dX4_ifFlushed_5 : decode cX4_ifFlushed 5 = .ok (.invokevirtual 89, 3) := by decide +kernel
theorem dX4_ifFlushed_8 : decode cX4_ifFlushed 8 = .ok (.ifCond .eq 14, 3) := by decide +kernel
theorem dX4_ifFlushed_11 : decode cX4_ifFlushed 11 = .ok (.aload_n 0, 1) := by decide +kernel
theorem dX4_ifFlushed_12 : decode cX4_ifFlushed 12 = .ok (.getfield 12, 3) := by decide +kernel
theorem dX4_ifFlushed_15 : decode cX4_ifFlushed 15 = .ok (.iload_n 1, 1) := by decide +kernel
theorem dX4_ifFlushed_16 : decode cX4_ifFlushed 16 = .ok (.invokevirtual 135, 3) := by decide +kernel
theorem dX4_ifFlushed_19 : decode cX4_ifFlushed 19 = .ok (.goto 4, 3) := by decide +kernel
theorem dX4_ifFlushed_22 : decode cX4_ifFlushed 22 = .ok (.iconst (-1), 1) := by decide +kernel
theorem dX4_ifFlushed_23 : decode cX4_ifFlushed 23 = .ok (.ireturn, 1) := by decide +kernel
theorem dX4_orNone_0 : decode cX4_orNone 0 = .ok (.iload_n 0, 1) := by decide +kernel
theorem dX4_orNone_1 : decode cX4_orNone 1 = .ok (.iconst (-1), 1) := by decide +kernel
theorem dX4_orNone_2 : decode cX4_orNone 2 = .ok (.if_icmp .ne 8, 3) := by decide +kernel
theorem dX4_orNone_5 : decode cX4_orNone 5 = .ok (.bipush (-6), 2) := by decide +kernel
theorem dX4_orNone_7 : decode cX4_orNone 7 = .ok (.goto 4, 3) := by decide +kernel
theorem dX4_orNone_10 : decode cX4_orNone 10 = .ok (.iload_n 0, 1) := by decide +kernel
theorem dX4_orNone_11 : decode cX4_orNone 11 = .ok (.ireturn, 1) := by decide +kernel

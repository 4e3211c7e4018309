theorem dX0_init_0 : decode cX0_init 0 = .ok (.aload_n 0, 1) := by decide +kernel
theorem dX0_init_1 : decode cX0_init 1 = .ok (.invokespecial 3, 3) := by decide +kernel
theorem dX0_init_4 : decode cX0_init 4 = .ok (.aload_n 0, 1) := by decide +kernel
theorem dX0_init_5 : decode cX0_init 5 = .ok (.iload_n 1, 1) := by decide +kernel
theorem dX0_init_6 : decode cX0_init 6 = .ok (.putfield 9, 3) := by decide +kernel
theorem dX0_init_9 : decode cX0_init 9 = .ok (.aload_n 0, 1) := by decide +kernel
theorem dX0_init_10 : decode cX0_init 10 = .ok (.iload_n 2, 1) := by decide +kernel
theorem dX0_init_11 : decode cX0_init 11 = .ok (.putfield 15, 3) := by decide +kernel
theorem dX0_init_14 : decode cX0_init 14 = .ok (.aload_n 0, 1) := by decide +kernel
theorem dX0_init_15 : decode cX0_init 15 = .ok (.aload_n 3, 1) := by decide +kernel
theorem dX0_init_16 : decode cX0_init 16 = .ok (.getfield 18, 3) := by decide +kernel
theorem dX0_init_19 : decode cX0_init 19 = .ok (.putfield 23, 3) := by decide +kernel
theorem dX0_init_22 : decode cX0_init 22 = .ok (.aload_n 0, 1) := by decide +kernel
theorem dX0_init_23 : decode cX0_init 23 = .ok (.aload_n 3, 1) := by decide +kernel
theorem dX0_init_24 : decode cX0_init 24 = .ok (.getfield 24, 3) := by decide +kernel
theorem dX0_init_27 : decode cX0_init 27 = .ok (.putfield 27, 3) := by decide +kernel
theorem dX0_init_30 : decode cX0_init 30 = .ok (.aload_n 0, 1) := by decide +kernel
theorem dX0_init_31 : decode cX0_init 31 = .ok (.aload_n 3, 1) := by decide +kernel
theorem dX0_init_32 : decode cX0_init 32 = .ok (.getfield 28, 3) := by decide +kernel
theorem dX0_init_35 : decode cX0_init 35 = .ok (.putfield 31, 3) := by decide +kernel
theorem dX0_init_38 : decode cX0_init 38 = .ok (.aload_n 0, 1) := by decide +kernel
theorem dX0_init_39 : decode cX0_init 39 = .ok (.iload 4, 2) := by decide +kernel
theorem dX0_init_41 : decode cX0_init 41 = .ok (.putfield 32, 3) := by decide +kernel
theorem dX0_init_44 : decode cX0_init 44 = .ok (.return_, 1) := by decide +kernel
theorem dX0_part_0 : decode cX0_part 0 = .ok (.iload_n 1, 1) := by decide +kernel
theorem dX0_part_1 : decode cX0_part 1 = .ok (.tableswitch 60 0 4 #[35, 40, 45, 50, 55], 35) := by decide +kernel
theorem dX0_part_36 : decode cX0_part 36 = .ok (.aload_n 0, 1) := by decide +kernel
theorem dX0_part_37 : decode cX0_part 37 = .ok (.getfield 9, 3) := by decide +kernel
theorem dX0_part_40 : decode cX0_part 40 = .ok (.ireturn, 1) := by decide +kernel
theorem dX0_part_41 : decode cX0_part 41 = .ok (.aload_n 0, 1) := by decide +kernel
theorem dX0_part_42 : decode cX0_part 42 = .ok (.getfield 23, 3) := by decide +kernel
theorem dX0_part_45 : decode cX0_part 45 = .ok (.ireturn, 1) := by decide +kernel
theorem dX0_part_46 : decode cX0_part 46 = .ok (.aload_n 0, 1) := by decide +kernel
theorem dX0_part_47 : decode cX0_part 47 = .ok (.getfield 31, 3) := by decide +kernel
theorem dX0_part_50 : decode cX0_part 50 = .ok (.ireturn, 1) := by decide +kernel
theorem dX0_part_51 : decode cX0_part 51 = .ok (.aload_n 0, 1) := by decide +kernel
theorem dX0_part_52 : decode cX0_part 52 = .ok (.getfield 32, 3) := by decide +kernel
theorem dX0_part_55 : decode cX0_part 55 = .ok (.ireturn, 1) := by decide +kernel
theorem dX0_part_56 : decode cX0_part 56 = .ok (.aload_n 0, 1) := by decide +kernel
theorem dX0_part_57 : decode cX0_part 57 = .ok (.getfield 15, 3) := by decide +kernel
theorem dX0_part_60 : decode cX0_part 60 = .ok (.ireturn, 1) := by decide +kernel
theorem dX0_part_61 : decode cX0_part 61 = .ok (.iconst (-1), 1) := by decide +kernel
theorem dX0_part_62 : decode cX0_part 62 = .ok (.ireturn, 1) := by decide +kernel
theorem dX1_init_0 : decode cX1_init 0 = .ok (.aload_n 0, 1) := by decide +kernel
theorem dX1_init_1 : decode cX1_init 1 = .ok (.invokespecial 3, 3) := by decide +kernel
theorem dX1_init_4 : decode cX1_init 4 = .ok (.aload_n 0, 1) := by decide +kernel
theorem dX1_init_5 : decode cX1_init 5 = .ok (.sipush 128, 3) := by decide +kernel
theorem dX1_init_8 : decode cX1_init 8 = .ok (.anewarray 9, 3) := by decide +kernel
theorem dX1_init_11 : decode cX1_init 11 = .ok (.putfield 11, 3) := by decide +kernel
theorem dX1_init_14 : decode cX1_init 14 = .ok (.return_, 1) := by decide +kernel
theorem dX1_at_0 : decode cX1_at 0 = .ok (.iload_n 1, 1) := by decide +kernel
theorem dX1_at_1 : decode cX1_at 1 = .ok (.ifCond .lt 29, 3) := by decide +kernel
theorem dX1_at_4 : decode cX1_at 4 = .ok (.iload_n 1, 1) := by decide +kernel
theorem dX1_at_5 : decode cX1_at 5 = .ok (.aload_n 0, 1) := by decide +kernel
theorem dX1_at_6 : decode cX1_at 6 = .ok (.getfield 17, 3) := by decide +kernel
theorem dX1_at_9 : decode cX1_at 9 = .ok (.if_icmp .ge 21, 3) := by decide +kernel
theorem dX1_at_12 : decode cX1_at 12 = .ok (.iload_n 1, 1) := by decide +kernel
theorem dX1_at_13 : decode cX1_at 13 = .ok (.aload_n 0, 1) := by decide +kernel
theorem dX1_at_14 : decode cX1_at 14 = .ok (.getfield 11, 3) := by decide +kernel
theorem dX1_at_17 : decode cX1_at 17 = .ok (.arraylength, 1) := by decide +kernel
theorem dX1_at_18 : decode cX1_at 18 = .ok (.if_icmp .ge 12, 3) := by decide +kernel
theorem dX1_at_21 : decode cX1_at 21 = .ok (.aload_n 0, 1) := by decide +kernel
theorem dX1_at_22 : decode cX1_at 22 = .ok (.getfield 11, 3) := by decide +kernel
theorem dX1_at_25 : decode cX1_at 25 = .ok (.iload_n 1, 1) := by decide +kernel
theorem dX1_at_26 : decode cX1_at 26 = .ok (.aaload, 1) := by decide +kernel
theorem dX1_at_27 : decode cX1_at 27 = .ok (.goto 4, 3) := by decide +kernel
theorem dX1_at_30 : decode cX1_at 30 = .ok (.aconst_null, 1) := by decide +kernel
theorem dX1_at_31 : decode cX1_at 31 = .ok (.areturn, 1) := by decide +kernel
theorem dX1_append_0 : decode cX1_append 0 = .ok (.aload_n 0, 1) := by decide +kernel
theorem dX1_append_1 : decode cX1_append 1 = .ok (.getfield 17, 3) := by decide +kernel
theorem dX1_append_4 : decode cX1_append 4 = .ok (.aload_n 0, 1) := by decide +kernel
theorem dX1_append_5 : decode cX1_append 5 = .ok (.getfield 11, 3) := by decide +kernel
theorem dX1_append_8 : decode cX1_append 8 = .ok (.arraylength, 1) := by decide +kernel
theorem dX1_append_9 : decode cX1_append 9 = .ok (.if_icmp .ge 23, 3) := by decide +kernel
theorem dX1_append_12 : decode cX1_append 12 = .ok (.aload_n 0, 1) := by decide +kernel
theorem dX1_append_13 : decode cX1_append 13 = .ok (.getfield 11, 3) := by decide +kernel
theorem dX1_append_16 : decode cX1_append 16 = .ok (.aload_n 0, 1) := by decide +kernel
theorem dX1_append_17 : decode cX1_append 17 = .ok (.getfield 17, 3) := by decide +kernel
theorem dX1_append_20 : decode cX1_append 20 = .ok (.aload_n 1, 1) := by decide +kernel
theorem dX1_append_21 : decode cX1_append 21 = .ok (.aastore, 1) := by decide +kernel
theorem dX1_append_22 : decode cX1_append 22 = .ok (.aload_n 0, 1) := by decide +kernel
theorem dX1_append_23 : decode cX1_append 23 = .ok (.dup, 1) := by decide +kernel
theorem dX1_append_24 : decode cX1_append 24 = .ok (.getfield 17, 3) := by decide +kernel
theorem dX1_append_27 : decode cX1_append 27 = .ok (.iconst 1, 1) := by decide +kernel
theorem dX1_append_28 : decode cX1_append 28 = .ok (.iadd, 1) := by decide +kernel
theorem dX1_append_29 : decode cX1_append 29 = .ok (.putfield 17, 3) := by decide +kernel
theorem dX1_append_32 : decode cX1_append 32 = .ok (.return_, 1) := by decide +kernel
theorem dX1_firstAbove_0 : decode cX1_firstAbove 0 = .ok (.iconst 0, 1) := by decide +kernel
theorem dX1_firstAbove_1 : decode cX1_firstAbove 1 = .ok (.istore_n 2, 1) := by decide +kernel
theorem dX1_firstAbove_2 : decode cX1_firstAbove 2 = .ok (.iload_n 2, 1) := by decide +kernel
theorem dX1_firstAbove_3 : decode cX1_firstAbove 3 = .ok (.aload_n 0, 1) := by decide +kernel
theorem dX1_firstAbove_4 : decode cX1_firstAbove 4 = .ok (.getfield 17, 3) := by decide +kernel
theorem dX1_firstAbove_7 : decode cX1_firstAbove 7 = .ok (.if_icmp .ge 29, 3) := by decide +kernel
theorem dX1_firstAbove_10 : decode cX1_firstAbove 10 = .ok (.aload_n 0, 1) := by decide +kernel
theorem dX1_firstAbove_11 : decode cX1_firstAbove 11 = .ok (.iload_n 2, 1) := by decide +kernel
theorem dX1_firstAbove_12 : decode cX1_firstAbove 12 = .ok (.invokevirtual 21, 3) := by decide +kernel
theorem dX1_firstAbove_15 : decode cX1_firstAbove 15 = .ok (.astore_n 3, 1) := by decide +kernel
theorem dX1_firstAbove_16 : decode cX1_firstAbove 16 = .ok (.aload_n 3, 1) := by decide +kernel
theorem dX1_firstAbove_17 : decode cX1_firstAbove 17 = .ok (.ifnull 13, 3) := by decide +kernel
theorem dX1_firstAbove_20 : decode cX1_firstAbove 20 = .ok (.aload_n 3, 1) := by decide +kernel
theorem dX1_firstAbove_21 : decode cX1_firstAbove 21 = .ok (.getfield 25, 3) := by decide +kernel
theorem dX1_firstAbove_24 : decode cX1_firstAbove 24 = .ok (.iload_n 1, 1) := by decide +kernel
theorem dX1_firstAbove_25 : decode cX1_firstAbove 25 = .ok (.if_icmp .le 5, 3) := by decide +kernel
theorem dX1_firstAbove_28 : decode cX1_firstAbove 28 = .ok (.aload_n 3, 1) := by decide +kernel
theorem dX1_firstAbove_29 : decode cX1_firstAbove 29 = .ok (.areturn, 1) := by decide +kernel
theorem dX1_firstAbove_30 : decode cX1_firstAbove 30 = .ok (.iinc 2 1, 3) := by decide +kernel
theorem dX1_firstAbove_33 : decode cX1_firstAbove 33 = .ok (.goto (-31), 3) := by decide +kernel
theorem dX1_firstAbove_36 : decode cX1_firstAbove 36 = .ok (.aconst_null, 1) := by decide +kernel
theorem dX1_firstAbove_37 : decode cX1_firstAbove 37 = .ok (.areturn, 1) := by decide +kernel
theorem dX1_drop_0 : decode cX1_drop 0 = .ok (.iconst 0, 1) := by decide +kernel
theorem dX1_drop_1 : decode cX1_drop 1 = .ok (.istore_n 2, 1) := by decide +kernel
theorem dX1_drop_2 : decode cX1_drop 2 = .ok (.iconst 0, 1) := by decide +kernel
theorem dX1_drop_3 : decode cX1_drop 3 = .ok (.istore_n 3, 1) := by decide +kernel
theorem dX1_drop_4 : decode cX1_drop 4 = .ok (.iload_n 3, 1) := by decide +kernel
theorem dX1_drop_5 : decode cX1_drop 5 = .ok (.aload_n 0, 1) := by decide +kernel
theorem dX1_drop_6 : decode cX1_drop 6 = .ok (.getfield 17, 3) := by decide +kernel
theorem dX1_drop_9 : decode cX1_drop 9 = .ok (.if_icmp .ge 41, 3) := by decide +kernel
theorem dX1_drop_12 : decode cX1_drop 12 = .ok (.aload_n 0, 1) := by decide +kernel
theorem dX1_drop_13 : decode cX1_drop 13 = .ok (.iload_n 3, 1) := by decide +kernel
theorem dX1_drop_14 : decode cX1_drop 14 = .ok (.invokevirtual 21, 3) := by decide +kernel
theorem dX1_drop_17 : decode cX1_drop 17 = .ok (.astore 4, 2) := by decide +kernel
theorem dX1_drop_19 : decode cX1_drop 19 = .ok (.aload 4, 2) := by decide +kernel
theorem dX1_drop_21 : decode cX1_drop 21 = .ok (.ifnull 23, 3) := by decide +kernel
theorem dX1_drop_24 : decode cX1_drop 24 = .ok (.aload 4, 2) := by decide +kernel
theorem dX1_drop_26 : decode cX1_drop 26 = .ok (.getfield 25, 3) := by decide +kernel
theorem dX1_drop_29 : decode cX1_drop 29 = .ok (.iload_n 1, 1) := by decide +kernel
theorem dX1_drop_30 : decode cX1_drop 30 = .ok (.if_icmp .eq 14, 3) := by decide +kernel
theorem dX1_drop_33 : decode cX1_drop 33 = .ok (.aload_n 0, 1) := by decide +kernel
theorem dX1_drop_34 : decode cX1_drop 34 = .ok (.getfield 11, 3) := by decide +kernel
theorem dX1_drop_37 : decode cX1_drop 37 = .ok (.iload_n 2, 1) := by decide +kernel
theorem dX1_drop_38 : decode cX1_drop 38 = .ok (.aload 4, 2) := by decide +kernel
theorem dX1_drop_40 : decode cX1_drop 40 = .ok (.aastore, 1) := by decide +kernel
theorem dX1_drop_41 : decode cX1_drop 41 = .ok (.iinc 2 1, 3) := by decide +kernel
theorem dX1_drop_44 : decode cX1_drop 44 = .ok (.iinc 3 1, 3) := by decide +kernel
theorem dX1_drop_47 : decode cX1_drop 47 = .ok (.goto (-43), 3) := by decide +kernel
theorem dX1_drop_50 : decode cX1_drop 50 = .ok (.iload_n 2, 1) := by decide +kernel
theorem dX1_drop_51 : decode cX1_drop 51 = .ok (.istore_n 3, 1) := by decide +kernel
theorem dX1_drop_52 : decode cX1_drop 52 = .ok (.iload_n 3, 1) := by decide +kernel
theorem dX1_drop_53 : decode cX1_drop 53 = .ok (.aload_n 0, 1) := by decide +kernel
theorem dX1_drop_54 : decode cX1_drop 54 = .ok (.getfield 17, 3) := by decide +kernel
theorem dX1_drop_57 : decode cX1_drop 57 = .ok (.if_icmp .ge 16, 3) := by decide +kernel
theorem dX1_drop_60 : decode cX1_drop 60 = .ok (.aload_n 0, 1) := by decide +kernel
theorem dX1_drop_61 : decode cX1_drop 61 = .ok (.getfield 11, 3) := by decide +kernel
theorem dX1_drop_64 : decode cX1_drop 64 = .ok (.iload_n 3, 1) := by decide +kernel
theorem dX1_drop_65 : decode cX1_drop 65 = .ok (.aconst_null, 1) := by decide +kernel
theorem dX1_drop_66 : decode cX1_drop 66 = .ok (.aastore, 1) := by decide +kernel
theorem dX1_drop_67 : decode cX1_drop 67 = .ok (.iinc 3 1, 3) := by decide +kernel
theorem dX1_drop_70 : decode cX1_drop 70 = .ok (.goto (-18), 3) := by decide +kernel
theorem dX1_drop_73 : decode cX1_drop 73 = .ok (.aload_n 0, 1) := by decide +kernel
theorem dX1_drop_74 : decode cX1_drop 74 = .ok (.iload_n 2, 1) := by decide +kernel
theorem dX1_drop_75 : decode cX1_drop 75 = .ok (.putfield 17, 3) := by decide +kernel
theorem dX1_drop_78 : decode cX1_drop 78 = .ok (.return_, 1) := by decide +kernel
theorem dX2_init_0 : decode cX2_init 0 = .ok (.aload_n 0, 1) := by decide +kernel
theorem dX2_init_1 : decode cX2_init 1 = .ok (.invokespecial 1, 3) := by decide +kernel
theorem dX2_init_4 : decode cX2_init 4 = .ok (.return_, 1) := by decide +kernel
theorem dX2_matches_0 : decode cX2_matches 0 = .ok (.aload_n 0, 1) := by decide +kernel
theorem dX2_matches_1 : decode cX2_matches 1 = .ok (.getfield 7, 3) := by decide +kernel
theorem dX2_matches_4 : decode cX2_matches 4 = .ok (.ifCond .eq 36, 3) := by decide +kernel
theorem dX2_matches_7 : decode cX2_matches 7 = .ok (.aload_n 1, 1) := by decide +kernel
theorem dX2_matches_8 : decode cX2_matches 8 = .ok (.getfield 7, 3) := by decide +kernel
theorem dX2_matches_11 : decode cX2_matches 11 = .ok (.ifCond .eq 29, 3) := by decide +kernel
theorem dX2_matches_14 : decode cX2_matches 14 = .ok (.aload_n 0, 1) := by decide +kernel
theorem dX2_matches_15 : decode cX2_matches 15 = .ok (.getfield 13, 3) := by decide +kernel
theorem dX2_matches_18 : decode cX2_matches 18 = .ok (.aload_n 1, 1) := by decide +kernel
theorem dX2_matches_19 : decode cX2_matches 19 = .ok (.getfield 13, 3) := by decide +kernel
theorem dX2_matches_22 : decode cX2_matches 22 = .ok (.if_icmp .ne 18, 3) := by decide +kernel
theorem dX2_matches_25 : decode cX2_matches 25 = .ok (.aload_n 0, 1) := by decide +kernel
theorem dX2_matches_26 : decode cX2_matches 26 = .ok (.getfield 17, 3) := by decide +kernel
theorem dX2_matches_29 : decode cX2_matches 29 = .ok (.aload_n 1, 1) := by decide +kernel
theorem dX2_matches_30 : decode cX2_matches 30 = .ok (.getfield 17, 3) := by decide +kernel
theorem dX2_matches_33 : decode cX2_matches 33 = .ok (.if_icmp .eq 7, 3) := by decide +kernel
theorem dX2_matches_36 : decode cX2_matches 36 = .ok (.iconst 1, 1) := by decide +kernel
theorem dX2_matches_37 : decode cX2_matches 37 = .ok (.goto 4, 3) := by decide +kernel
theorem dX2_matches_40 : decode cX2_matches 40 = .ok (.iconst 0, 1) := by decide +kernel
theorem dX2_matches_41 : decode cX2_matches 41 = .ok (.ireturn, 1) := by decide +kernel
theorem dX3_init_0 : decode cX3_init 0 = .ok (.aload_n 0, 1) := by decide +kernel
theorem dX3_init_1 : decode cX3_init 1 = .ok (.invokespecial 3, 3) := by decide +kernel
theorem dX3_init_4 : decode cX3_init 4 = .ok (.return_, 1) := by decide +kernel
theorem dX3_set_0 : decode cX3_set 0 = .ok (.aload_n 0, 1) := by decide +kernel
theorem dX3_set_1 : decode cX3_set 1 = .ok (.iconst 1, 1) := by decide +kernel
theorem dX3_set_2 : decode cX3_set 2 = .ok (.putfield 9, 3) := by decide +kernel
theorem dX3_set_5 : decode cX3_set 5 = .ok (.aload_n 0, 1) := by decide +kernel
theorem dX3_set_6 : decode cX3_set 6 = .ok (.iload_n 1, 1) := by decide +kernel
theorem dX3_set_7 : decode cX3_set 7 = .ok (.putfield 15, 3) := by decide +kernel
theorem dX3_set_10 : decode cX3_set 10 = .ok (.aload_n 0, 1) := by decide +kernel
theorem dX3_set_11 : decode cX3_set 11 = .ok (.iload_n 2, 1) := by decide +kernel
theorem dX3_set_12 : decode cX3_set 12 = .ok (.putfield 19, 3) := by decide +kernel
theorem dX3_set_15 : decode cX3_set 15 = .ok (.aload_n 0, 1) := by decide +kernel
theorem dX3_set_16 : decode cX3_set 16 = .ok (.iload_n 3, 1) := by decide +kernel
theorem dX3_set_17 : decode cX3_set 17 = .ok (.putfield 22, 3) := by decide +kernel
theorem dX3_set_20 : decode cX3_set 20 = .ok (.aload_n 0, 1) := by decide +kernel
theorem dX3_set_21 : decode cX3_set 21 = .ok (.iload 4, 2) := by decide +kernel
theorem dX3_set_23 : decode cX3_set 23 = .ok (.putfield 25, 3) := by decide +kernel
theorem dX3_set_26 : decode cX3_set 26 = .ok (.return_, 1) := by decide +kernel
theorem dX3_part_0 : decode cX3_part 0 = .ok (.aload_n 0, 1) := by decide +kernel
theorem dX3_part_1 : decode cX3_part 1 = .ok (.getfield 9, 3) := by decide +kernel
theorem dX3_part_4 : decode cX3_part 4 = .ok (.ifCond .ne 5, 3) := by decide +kernel
theorem dX3_part_7 : decode cX3_part 7 = .ok (.iconst (-1), 1) := by decide +kernel
theorem dX3_part_8 : decode cX3_part 8 = .ok (.ireturn, 1) := by decide +kernel
theorem dX3_part_9 : decode cX3_part 9 = .ok (.iload_n 1, 1) := by decide +kernel
theorem dX3_part_10 : decode cX3_part 10 = .ok (.tableswitch 50 0 3 #[30, 35, 40, 45], 30) := by decide +kernel
theorem dX3_part_40 : decode cX3_part 40 = .ok (.aload_n 0, 1) := by decide +kernel
theorem dX3_part_41 : decode cX3_part 41 = .ok (.getfield 15, 3) := by decide +kernel
theorem dX3_part_44 : decode cX3_part 44 = .ok (.ireturn, 1) := by decide +kernel
theorem dX3_part_45 : decode cX3_part 45 = .ok (.aload_n 0, 1) := by decide +kernel
theorem dX3_part_46 : decode cX3_part 46 = .ok (.getfield 19, 3) := by decide +kernel
theorem dX3_part_49 : decode cX3_part 49 = .ok (.ireturn, 1) := by decide +kernel
theorem dX3_part_50 : decode cX3_part 50 = .ok (.aload_n 0, 1) := by decide +kernel
theorem dX3_part_51 : decode cX3_part 51 = .ok (.getfield 22, 3) := by decide +kernel
theorem dX3_part_54 : decode cX3_part 54 = .ok (.ireturn, 1) := by decide +kernel
theorem dX3_part_55 : decode cX3_part 55 = .ok (.aload_n 0, 1) := by decide +kernel
theorem dX3_part_56 : decode cX3_part 56 = .ok (.getfield 25, 3) := by decide +kernel
theorem dX3_part_59 : decode cX3_part 59 = .ok (.ireturn, 1) := by decide +kernel
theorem dX3_part_60 : decode cX3_part 60 = .ok (.iconst (-1), 1) := by decide +kernel
theorem dX3_part_61 : decode cX3_part 61 = .ok (.ireturn, 1) := by decide +kernel
theorem dX4_init_0 : decode cX4_init 0 = .ok (.aload_n 0, 1) := by decide +kernel
theorem dX4_init_1 : decode cX4_init 1 = .ok (.invokespecial 3, 3) := by decide +kernel
theorem dX4_init_4 : decode cX4_init 4 = .ok (.aload_n 0, 1) := by decide +kernel
theorem dX4_init_5 : decode cX4_init 5 = .ok (.sipush 1600, 3) := by decide +kernel
theorem dX4_init_8 : decode cX4_init 8 = .ok (.newarray .int, 2) := by decide +kernel
theorem dX4_init_10 : decode cX4_init 10 = .ok (.putfield 9, 3) := by decide +kernel
theorem dX4_init_13 : decode cX4_init 13 = .ok (.return_, 1) := by decide +kernel
theorem dX4_add_0 : decode cX4_add 0 = .ok (.aload_n 0, 1) := by decide +kernel
theorem dX4_add_1 : decode cX4_add 1 = .ok (.getfield 15, 3) := by decide +kernel
theorem dX4_add_4 : decode cX4_add 4 = .ok (.sipush 200, 3) := by decide +kernel
theorem dX4_add_7 : decode cX4_add 7 = .ok (.if_icmp .ge 155, 3) := by decide +kernel
theorem dX4_add_10 : decode cX4_add 10 = .ok (.aload_n 0, 1) := by decide +kernel
theorem dX4_add_11 : decode cX4_add 11 = .ok (.getfield 15, 3) := by decide +kernel
theorem dX4_add_14 : decode cX4_add 14 = .ok (.bipush 8, 2) := by decide +kernel
theorem dX4_add_16 : decode cX4_add 16 = .ok (.imul, 1) := by decide +kernel
theorem dX4_add_17 : decode cX4_add 17 = .ok (.istore 5, 2) := by decide +kernel
theorem dX4_add_19 : decode cX4_add 19 = .ok (.aload_n 3, 1) := by decide +kernel
theorem dX4_add_20 : decode cX4_add 20 = .ok (.getfield 19, 3) := by decide +kernel
theorem dX4_add_23 : decode cX4_add 23 = .ok (.ifCond .ne 7, 3) := by decide +kernel
theorem dX4_add_26 : decode cX4_add 26 = .ok (.iconst 1, 1) := by decide +kernel
theorem dX4_add_27 : decode cX4_add 27 = .ok (.goto 4, 3) := by decide +kernel
theorem dX4_add_30 : decode cX4_add 30 = .ok (.iconst 0, 1) := by decide +kernel
theorem dX4_add_31 : decode cX4_add 31 = .ok (.istore 6, 2) := by decide +kernel
theorem dX4_add_33 : decode cX4_add 33 = .ok (.aload_n 0, 1) := by decide +kernel
theorem dX4_add_34 : decode cX4_add 34 = .ok (.getfield 9, 3) := by decide +kernel
theorem dX4_add_37 : decode cX4_add 37 = .ok (.iload 5, 2) := by decide +kernel
theorem dX4_add_39 : decode cX4_add 39 = .ok (.aload_n 1, 1) := by decide +kernel
theorem dX4_add_40 : decode cX4_add 40 = .ok (.getfield 24, 3) := by decide +kernel
theorem dX4_add_43 : decode cX4_add 43 = .ok (.iastore, 1) := by decide +kernel
theorem dX4_add_44 : decode cX4_add 44 = .ok (.aload_n 0, 1) := by decide +kernel
theorem dX4_add_45 : decode cX4_add 45 = .ok (.getfield 9, 3) := by decide +kernel
theorem dX4_add_48 : decode cX4_add 48 = .ok (.iload 5, 2) := by decide +kernel
theorem dX4_add_50 : decode cX4_add 50 = .ok (.iconst 1, 1) := by decide +kernel
theorem dX4_add_51 : decode cX4_add 51 = .ok (.iadd, 1) := by decide +kernel
theorem dX4_add_52 : decode cX4_add 52 = .ok (.aload_n 2, 1) := by decide +kernel
theorem dX4_add_53 : decode cX4_add 53 = .ok (.getfield 29, 3) := by decide +kernel
theorem dX4_add_56 : decode cX4_add 56 = .ok (.iastore, 1) := by decide +kernel
theorem dX4_add_57 : decode cX4_add 57 = .ok (.aload_n 0, 1) := by decide +kernel
theorem dX4_add_58 : decode cX4_add 58 = .ok (.getfield 9, 3) := by decide +kernel
theorem dX4_add_61 : decode cX4_add 61 = .ok (.iload 5, 2) := by decide +kernel
theorem dX4_add_63 : decode cX4_add 63 = .ok (.iconst 2, 1) := by decide +kernel
theorem dX4_add_64 : decode cX4_add 64 = .ok (.iadd, 1) := by decide +kernel
theorem dX4_add_65 : decode cX4_add 65 = .ok (.aload_n 3, 1) := by decide +kernel
theorem dX4_add_66 : decode cX4_add 66 = .ok (.getfield 34, 3) := by decide +kernel
theorem dX4_add_69 : decode cX4_add 69 = .ok (.iastore, 1) := by decide +kernel
theorem dX4_add_70 : decode cX4_add 70 = .ok (.aload_n 0, 1) := by decide +kernel
theorem dX4_add_71 : decode cX4_add 71 = .ok (.getfield 9, 3) := by decide +kernel
theorem dX4_add_74 : decode cX4_add 74 = .ok (.iload 5, 2) := by decide +kernel
theorem dX4_add_76 : decode cX4_add 76 = .ok (.iconst 3, 1) := by decide +kernel
theorem dX4_add_77 : decode cX4_add 77 = .ok (.iadd, 1) := by decide +kernel
theorem dX4_add_78 : decode cX4_add 78 = .ok (.iload 6, 2) := by decide +kernel
theorem dX4_add_80 : decode cX4_add 80 = .ok (.ifCond .eq 10, 3) := by decide +kernel
theorem dX4_add_83 : decode cX4_add 83 = .ok (.aload_n 3, 1) := by decide +kernel
theorem dX4_add_84 : decode cX4_add 84 = .ok (.getfield 37, 3) := by decide +kernel
theorem dX4_add_87 : decode cX4_add 87 = .ok (.goto 7, 3) := by decide +kernel
theorem dX4_add_90 : decode cX4_add 90 = .ok (.aload_n 2, 1) := by decide +kernel
theorem dX4_add_91 : decode cX4_add 91 = .ok (.getfield 40, 3) := by decide +kernel
theorem dX4_add_94 : decode cX4_add 94 = .ok (.iastore, 1) := by decide +kernel
theorem dX4_add_95 : decode cX4_add 95 = .ok (.aload_n 0, 1) := by decide +kernel
theorem dX4_add_96 : decode cX4_add 96 = .ok (.getfield 9, 3) := by decide +kernel
theorem dX4_add_99 : decode cX4_add 99 = .ok (.iload 5, 2) := by decide +kernel
theorem dX4_add_101 : decode cX4_add 101 = .ok (.iconst 4, 1) := by decide +kernel
theorem dX4_add_102 : decode cX4_add 102 = .ok (.iadd, 1) := by decide +kernel
theorem dX4_add_103 : decode cX4_add 103 = .ok (.iload 6, 2) := by decide +kernel
theorem dX4_add_105 : decode cX4_add 105 = .ok (.ifCond .eq 10, 3) := by decide +kernel
theorem dX4_add_108 : decode cX4_add 108 = .ok (.aload_n 1, 1) := by decide +kernel
theorem dX4_add_109 : decode cX4_add 109 = .ok (.getfield 24, 3) := by decide +kernel
theorem dX4_add_112 : decode cX4_add 112 = .ok (.goto 7, 3) := by decide +kernel
theorem dX4_add_115 : decode cX4_add 115 = .ok (.aload_n 2, 1) := by decide +kernel
theorem dX4_add_116 : decode cX4_add 116 = .ok (.getfield 29, 3) := by decide +kernel
theorem dX4_add_119 : decode cX4_add 119 = .ok (.iastore, 1) := by decide +kernel
theorem dX4_add_120 : decode cX4_add 120 = .ok (.aload_n 0, 1) := by decide +kernel
theorem dX4_add_121 : decode cX4_add 121 = .ok (.getfield 9, 3) := by decide +kernel
theorem dX4_add_124 : decode cX4_add 124 = .ok (.iload 5, 2) := by decide +kernel
theorem dX4_add_126 : decode cX4_add 126 = .ok (.iconst 5, 1) := by decide +kernel
theorem dX4_add_127 : decode cX4_add 127 = .ok (.iadd, 1) := by decide +kernel
theorem dX4_add_128 : decode cX4_add 128 = .ok (.aload_n 1, 1) := by decide +kernel
theorem dX4_add_129 : decode cX4_add 129 = .ok (.getfield 41, 3) := by decide +kernel
theorem dX4_add_132 : decode cX4_add 132 = .ok (.getfield 45, 3) := by decide +kernel
theorem dX4_add_135 : decode cX4_add 135 = .ok (.iastore, 1) := by decide +kernel
theorem dX4_add_136 : decode cX4_add 136 = .ok (.aload_n 0, 1) := by decide +kernel
theorem dX4_add_137 : decode cX4_add 137 = .ok (.getfield 9, 3) := by decide +kernel
theorem dX4_add_140 : decode cX4_add 140 = .ok (.iload 5, 2) := by decide +kernel
theorem dX4_add_142 : decode cX4_add 142 = .ok (.bipush 6, 2) := by decide +kernel
theorem dX4_add_144 : decode cX4_add 144 = .ok (.iadd, 1) := by decide +kernel
theorem dX4_add_145 : decode cX4_add 145 = .ok (.aload_n 2, 1) := by decide +kernel
theorem dX4_add_146 : decode cX4_add 146 = .ok (.getfield 50, 3) := by decide +kernel
theorem dX4_add_149 : decode cX4_add 149 = .ok (.iastore, 1) := by decide +kernel
theorem dX4_add_150 : decode cX4_add 150 = .ok (.aload_n 0, 1) := by decide +kernel
theorem dX4_add_151 : decode cX4_add 151 = .ok (.getfield 9, 3) := by decide +kernel
theorem dX4_add_154 : decode cX4_add 154 = .ok (.iload 5, 2) := by decide +kernel
theorem dX4_add_156 : decode cX4_add 156 = .ok (.bipush 7, 2) := by decide +kernel
theorem dX4_add_158 : decode cX4_add 158 = .ok (.iadd, 1) := by decide +kernel
theorem dX4_add_159 : decode cX4_add 159 = .ok (.iload 4, 2) := by decide +kernel
theorem dX4_add_161 : decode cX4_add 161 = .ok (.iastore, 1) := by decide +kernel
theorem dX4_add_162 : decode cX4_add 162 = .ok (.aload_n 0, 1) := by decide +kernel
theorem dX4_add_163 : decode cX4_add 163 = .ok (.dup, 1) := by decide +kernel
theorem dX4_add_164 : decode cX4_add 164 = .ok (.getfield 15, 3) := by decide +kernel
theorem dX4_add_167 : decode cX4_add 167 = .ok (.iconst 1, 1) := by decide +kernel
theorem dX4_add_168 : decode cX4_add 168 = .ok (.iadd, 1) := by decide +kernel
theorem dX4_add_169 : decode cX4_add 169 = .ok (.putfield 15, 3) := by decide +kernel
theorem dX4_add_172 : decode cX4_add 172 = .ok (.return_, 1) := by decide +kernel
theorem dX4_part_0 : decode cX4_part 0 = .ok (.iload_n 1, 1) := by decide +kernel
theorem dX4_part_1 : decode cX4_part 1 = .ok (.ifCond .lt 28, 3) := by decide +kernel
theorem dX4_part_4 : decode cX4_part 4 = .ok (.iload_n 1, 1) := by decide +kernel
theorem dX4_part_5 : decode cX4_part 5 = .ok (.aload_n 0, 1) := by decide +kernel
theorem dX4_part_6 : decode cX4_part 6 = .ok (.getfield 15, 3) := by decide +kernel
theorem dX4_part_9 : decode cX4_part 9 = .ok (.if_icmp .ge 20, 3) := by decide +kernel
theorem dX4_part_12 : decode cX4_part 12 = .ok (.iload_n 1, 1) := by decide +kernel
theorem dX4_part_13 : decode cX4_part 13 = .ok (.sipush 200, 3) := by decide +kernel
theorem dX4_part_16 : decode cX4_part 16 = .ok (.if_icmp .ge 13, 3) := by decide +kernel
theorem dX4_part_19 : decode cX4_part 19 = .ok (.iload_n 2, 1) := by decide +kernel
theorem dX4_part_20 : decode cX4_part 20 = .ok (.ifCond .lt 9, 3) := by decide +kernel
theorem dX4_part_23 : decode cX4_part 23 = .ok (.iload_n 2, 1) := by decide +kernel
theorem dX4_part_24 : decode cX4_part 24 = .ok (.bipush 8, 2) := by decide +kernel
theorem dX4_part_26 : decode cX4_part 26 = .ok (.if_icmp .lt 5, 3) := by decide +kernel
theorem dX4_part_29 : decode cX4_part 29 = .ok (.iconst (-1), 1) := by decide +kernel
theorem dX4_part_30 : decode cX4_part 30 = .ok (.ireturn, 1) := by decide +kernel
theorem dX4_part_31 : decode cX4_part 31 = .ok (.aload_n 0, 1) := by decide +kernel
theorem dX4_part_32 : decode cX4_part 32 = .ok (.getfield 9, 3) := by decide +kernel
theorem dX4_part_35 : decode cX4_part 35 = .ok (.iload_n 1, 1) := by decide +kernel
theorem dX4_part_36 : decode cX4_part 36 = .ok (.bipush 8, 2) := by decide +kernel
theorem dX4_part_38 : decode cX4_part 38 = .ok (.imul, 1) := by decide +kernel
theorem dX4_part_39 : decode cX4_part 39 = .ok (.iload_n 2, 1) := by decide +kernel
theorem dX4_part_40 : decode cX4_part 40 = .ok (.iadd, 1) := by decide +kernel
theorem dX4_part_41 : decode cX4_part 41 = .ok (.iaload, 1) := by decide +kernel
theorem dX4_part_42 : decode cX4_part 42 = .ok (.ireturn, 1) := by decide +kernel
theorem dX5_init_0 : decode cX5_init 0 = .ok (.aload_n 0, 1) := by decide +kernel
theorem dX5_init_1 : decode cX5_init 1 = .ok (.invokespecial 3, 3) := by decide +kernel
theorem dX5_init_4 : decode cX5_init 4 = .ok (.aload_n 0, 1) := by decide +kernel
theorem dX5_init_5 : decode cX5_init 5 = .ok (.new 9, 3) := by decide +kernel
theorem dX5_init_8 : decode cX5_init 8 = .ok (.dup, 1) := by decide +kernel
theorem dX5_init_9 : decode cX5_init 9 = .ok (.invokespecial 11, 3) := by decide +kernel
theorem dX5_init_12 : decode cX5_init 12 = .ok (.putfield 12, 3) := by decide +kernel
theorem dX5_init_15 : decode cX5_init 15 = .ok (.aload_n 0, 1) := by decide +kernel
theorem dX5_init_16 : decode cX5_init 16 = .ok (.new 18, 3) := by decide +kernel
theorem dX5_init_19 : decode cX5_init 19 = .ok (.dup, 1) := by decide +kernel
theorem dX5_init_20 : decode cX5_init 20 = .ok (.invokespecial 20, 3) := by decide +kernel
theorem dX5_init_23 : decode cX5_init 23 = .ok (.putfield 21, 3) := by decide +kernel
theorem dX5_init_26 : decode cX5_init 26 = .ok (.aload_n 0, 1) := by decide +kernel
theorem dX5_init_27 : decode cX5_init 27 = .ok (.bipush 8, 2) := by decide +kernel
theorem dX5_init_29 : decode cX5_init 29 = .ok (.anewarray 25, 3) := by decide +kernel
theorem dX5_init_32 : decode cX5_init 32 = .ok (.putfield 27, 3) := by decide +kernel
theorem dX5_init_35 : decode cX5_init 35 = .ok (.aload_n 0, 1) := by decide +kernel
theorem dX5_init_36 : decode cX5_init 36 = .ok (.bipush 8, 2) := by decide +kernel
theorem dX5_init_38 : decode cX5_init 38 = .ok (.anewarray 31, 3) := by decide +kernel
theorem dX5_init_41 : decode cX5_init 41 = .ok (.putfield 33, 3) := by decide +kernel
theorem dX5_init_44 : decode cX5_init 44 = .ok (.aload_n 0, 1) := by decide +kernel
theorem dX5_init_45 : decode cX5_init 45 = .ok (.iconst 0, 1) := by decide +kernel
theorem dX5_init_46 : decode cX5_init 46 = .ok (.putfield 37, 3) := by decide +kernel
theorem dX5_init_49 : decode cX5_init 49 = .ok (.aload_n 0, 1) := by decide +kernel
theorem dX5_init_50 : decode cX5_init 50 = .ok (.iconst (-1), 1) := by decide +kernel
theorem dX5_init_51 : decode cX5_init 51 = .ok (.putfield 41, 3) := by decide +kernel
theorem dX5_init_54 : decode cX5_init 54 = .ok (.aload_n 0, 1) := by decide +kernel
theorem dX5_init_55 : decode cX5_init 55 = .ok (.iload_n 1, 1) := by decide +kernel
theorem dX5_init_56 : decode cX5_init 56 = .ok (.putfield 44, 3) := by decide +kernel
theorem dX5_init_59 : decode cX5_init 59 = .ok (.iconst 0, 1) := by decide +kernel
theorem dX5_init_60 : decode cX5_init 60 = .ok (.istore_n 2, 1) := by decide +kernel
theorem dX5_init_61 : decode cX5_init 61 = .ok (.iload_n 2, 1) := by decide +kernel
theorem dX5_init_62 : decode cX5_init 62 = .ok (.bipush 8, 2) := by decide +kernel
theorem dX5_init_64 : decode cX5_init 64 = .ok (.if_icmp .ge 22, 3) := by decide +kernel
theorem dX5_init_67 : decode cX5_init 67 = .ok (.aload_n 0, 1) := by decide +kernel
theorem dX5_init_68 : decode cX5_init 68 = .ok (.getfield 27, 3) := by decide +kernel
theorem dX5_init_71 : decode cX5_init 71 = .ok (.iload_n 2, 1) := by decide +kernel
theorem dX5_init_72 : decode cX5_init 72 = .ok (.new 25, 3) := by decide +kernel
theorem dX5_init_75 : decode cX5_init 75 = .ok (.dup, 1) := by decide +kernel
theorem dX5_init_76 : decode cX5_init 76 = .ok (.invokespecial 47, 3) := by decide +kernel
theorem dX5_init_79 : decode cX5_init 79 = .ok (.aastore, 1) := by decide +kernel
theorem dX5_init_80 : decode cX5_init 80 = .ok (.iinc 2 1, 3) := by decide +kernel
theorem dX5_init_83 : decode cX5_init 83 = .ok (.goto (-22), 3) := by decide +kernel
theorem dX5_init_86 : decode cX5_init 86 = .ok (.return_, 1) := by decide +kernel
theorem dX5_becomeIdle_0 : decode cX5_becomeIdle 0 = .ok (.aload_n 0, 1) := by decide +kernel
theorem dX5_becomeIdle_1 : decode cX5_becomeIdle 1 = .ok (.iconst 1, 1) := by decide +kernel
theorem dX5_becomeIdle_2 : decode cX5_becomeIdle 2 = .ok (.putfield 37, 3) := by decide +kernel
theorem dX5_becomeIdle_5 : decode cX5_becomeIdle 5 = .ok (.aload_n 0, 1) := by decide +kernel
theorem dX5_becomeIdle_6 : decode cX5_becomeIdle 6 = .ok (.iconst 0, 1) := by decide +kernel
theorem dX5_becomeIdle_7 : decode cX5_becomeIdle 7 = .ok (.putfield 48, 3) := by decide +kernel
theorem dX5_becomeIdle_10 : decode cX5_becomeIdle 10 = .ok (.aload_n 0, 1) := by decide +kernel
theorem dX5_becomeIdle_11 : decode cX5_becomeIdle 11 = .ok (.iconst 0, 1) := by decide +kernel
theorem dX5_becomeIdle_12 : decode cX5_becomeIdle 12 = .ok (.putfield 51, 3) := by decide +kernel
theorem dX5_becomeIdle_15 : decode cX5_becomeIdle 15 = .ok (.return_, 1) := by decide +kernel
theorem dX5_addGuard_0 : decode cX5_addGuard 0 = .ok (.aload_n 0, 1) := by decide +kernel
theorem dX5_addGuard_1 : decode cX5_addGuard 1 = .ok (.getfield 48, 3) := by decide +kernel
theorem dX5_addGuard_4 : decode cX5_addGuard 4 = .ok (.aload_n 0, 1) := by decide +kernel
theorem dX5_addGuard_5 : decode cX5_addGuard 5 = .ok (.getfield 27, 3) := by decide +kernel
theorem dX5_addGuard_8 : decode cX5_addGuard 8 = .ok (.arraylength, 1) := by decide +kernel
theorem dX5_addGuard_9 : decode cX5_addGuard 9 = .ok (.if_icmp .lt 5, 3) := by decide +kernel
theorem dX5_addGuard_12 : decode cX5_addGuard 12 = .ok (.iconst 0, 1) := by decide +kernel
theorem dX5_addGuard_13 : decode cX5_addGuard 13 = .ok (.ireturn, 1) := by decide +kernel
theorem dX5_addGuard_14 : decode cX5_addGuard 14 = .ok (.aload_n 0, 1) := by decide +kernel
theorem dX5_addGuard_15 : decode cX5_addGuard 15 = .ok (.getfield 27, 3) := by decide +kernel
theorem dX5_addGuard_18 : decode cX5_addGuard 18 = .ok (.aload_n 0, 1) := by decide +kernel
theorem dX5_addGuard_19 : decode cX5_addGuard 19 = .ok (.getfield 48, 3) := by decide +kernel
theorem dX5_addGuard_22 : decode cX5_addGuard 22 = .ok (.aaload, 1) := by decide +kernel
theorem dX5_addGuard_23 : decode cX5_addGuard 23 = .ok (.astore 5, 2) := by decide +kernel
theorem dX5_addGuard_25 : decode cX5_addGuard 25 = .ok (.aload 5, 2) := by decide +kernel
theorem dX5_addGuard_27 : decode cX5_addGuard 27 = .ok (.iload_n 1, 1) := by decide +kernel
theorem dX5_addGuard_28 : decode cX5_addGuard 28 = .ok (.putfield 54, 3) := by decide +kernel
theorem dX5_addGuard_31 : decode cX5_addGuard 31 = .ok (.aload 5, 2) := by decide +kernel
theorem dX5_addGuard_33 : decode cX5_addGuard 33 = .ok (.iload_n 2, 1) := by decide +kernel
theorem dX5_addGuard_34 : decode cX5_addGuard 34 = .ok (.putfield 57, 3) := by decide +kernel
theorem dX5_addGuard_37 : decode cX5_addGuard 37 = .ok (.aload 5, 2) := by decide +kernel
theorem dX5_addGuard_39 : decode cX5_addGuard 39 = .ok (.iload_n 3, 1) := by decide +kernel
theorem dX5_addGuard_40 : decode cX5_addGuard 40 = .ok (.putfield 60, 3) := by decide +kernel
theorem dX5_addGuard_43 : decode cX5_addGuard 43 = .ok (.aload 5, 2) := by decide +kernel
theorem dX5_addGuard_45 : decode cX5_addGuard 45 = .ok (.iload 4, 2) := by decide +kernel
theorem dX5_addGuard_47 : decode cX5_addGuard 47 = .ok (.putfield 63, 3) := by decide +kernel
theorem dX5_addGuard_50 : decode cX5_addGuard 50 = .ok (.aload_n 0, 1) := by decide +kernel
theorem dX5_addGuard_51 : decode cX5_addGuard 51 = .ok (.dup, 1) := by decide +kernel
theorem dX5_addGuard_52 : decode cX5_addGuard 52 = .ok (.getfield 48, 3) := by decide +kernel
theorem dX5_addGuard_55 : decode cX5_addGuard 55 = .ok (.iconst 1, 1) := by decide +kernel
theorem dX5_addGuard_56 : decode cX5_addGuard 56 = .ok (.iadd, 1) := by decide +kernel
theorem dX5_addGuard_57 : decode cX5_addGuard 57 = .ok (.putfield 48, 3) := by decide +kernel
theorem dX5_addGuard_60 : decode cX5_addGuard 60 = .ok (.iconst 1, 1) := by decide +kernel
theorem dX5_addGuard_61 : decode cX5_addGuard 61 = .ok (.ireturn, 1) := by decide +kernel
theorem dX5_beginOffer_0 : decode cX5_beginOffer 0 = .ok (.aload_n 0, 1) := by decide +kernel
theorem dX5_beginOffer_1 : decode cX5_beginOffer 1 = .ok (.getfield 12, 3) := by decide +kernel
theorem dX5_beginOffer_4 : decode cX5_beginOffer 4 = .ok (.dup, 1) := by decide +kernel
theorem dX5_beginOffer_5 : decode cX5_beginOffer 5 = .ok (.getfield 67, 3) := by decide +kernel
theorem dX5_beginOffer_8 : decode cX5_beginOffer 8 = .ok (.iconst 1, 1) := by decide +kernel
theorem dX5_beginOffer_9 : decode cX5_beginOffer 9 = .ok (.iadd, 1) := by decide +kernel
theorem dX5_beginOffer_10 : decode cX5_beginOffer 10 = .ok (.putfield 67, 3) := by decide +kernel
theorem dX5_beginOffer_13 : decode cX5_beginOffer 13 = .ok (.aload_n 0, 1) := by decide +kernel
theorem dX5_beginOffer_14 : decode cX5_beginOffer 14 = .ok (.getfield 12, 3) := by decide +kernel
theorem dX5_beginOffer_17 : decode cX5_beginOffer 17 = .ok (.iconst 1, 1) := by decide +kernel
theorem dX5_beginOffer_18 : decode cX5_beginOffer 18 = .ok (.invokevirtual 70, 3) := by decide +kernel
theorem dX5_beginOffer_21 : decode cX5_beginOffer 21 = .ok (.aload_n 0, 1) := by decide +kernel
theorem dX5_beginOffer_22 : decode cX5_beginOffer 22 = .ok (.aload_n 0, 1) := by decide +kernel
theorem dX5_beginOffer_23 : decode cX5_beginOffer 23 = .ok (.getfield 51, 3) := by decide +kernel
theorem dX5_beginOffer_26 : decode cX5_beginOffer 26 = .ok (.ifCond .le 12, 3) := by decide +kernel
theorem dX5_beginOffer_29 : decode cX5_beginOffer 29 = .ok (.iload_n 1, 1) := by decide +kernel
theorem dX5_beginOffer_30 : decode cX5_beginOffer 30 = .ok (.aload_n 0, 1) := by decide +kernel
theorem dX5_beginOffer_31 : decode cX5_beginOffer 31 = .ok (.getfield 51, 3) := by decide +kernel
theorem dX5_beginOffer_34 : decode cX5_beginOffer 34 = .ok (.iadd, 1) := by decide +kernel
theorem dX5_beginOffer_35 : decode cX5_beginOffer 35 = .ok (.goto 4, 3) := by decide +kernel
theorem dX5_beginOffer_38 : decode cX5_beginOffer 38 = .ok (.iconst (-1), 1) := by decide +kernel
theorem dX5_beginOffer_39 : decode cX5_beginOffer 39 = .ok (.putfield 41, 3) := by decide +kernel
theorem dX5_beginOffer_42 : decode cX5_beginOffer 42 = .ok (.aload_n 0, 1) := by decide +kernel
theorem dX5_beginOffer_43 : decode cX5_beginOffer 43 = .ok (.iconst 0, 1) := by decide +kernel
theorem dX5_beginOffer_44 : decode cX5_beginOffer 44 = .ok (.putfield 74, 3) := by decide +kernel
theorem dX5_beginOffer_47 : decode cX5_beginOffer 47 = .ok (.aload_n 0, 1) := by decide +kernel
theorem dX5_beginOffer_48 : decode cX5_beginOffer 48 = .ok (.iconst 0, 1) := by decide +kernel
theorem dX5_beginOffer_49 : decode cX5_beginOffer 49 = .ok (.putfield 77, 3) := by decide +kernel
theorem dX5_beginOffer_52 : decode cX5_beginOffer 52 = .ok (.aload_n 0, 1) := by decide +kernel
theorem dX5_beginOffer_53 : decode cX5_beginOffer 53 = .ok (.aconst_null, 1) := by decide +kernel
theorem dX5_beginOffer_54 : decode cX5_beginOffer 54 = .ok (.putfield 80, 3) := by decide +kernel
theorem dX5_beginOffer_57 : decode cX5_beginOffer 57 = .ok (.aload_n 0, 1) := by decide +kernel
theorem dX5_beginOffer_58 : decode cX5_beginOffer 58 = .ok (.iconst 0, 1) := by decide +kernel
theorem dX5_beginOffer_59 : decode cX5_beginOffer 59 = .ok (.putfield 84, 3) := by decide +kernel
theorem dX5_beginOffer_62 : decode cX5_beginOffer 62 = .ok (.aload_n 0, 1) := by decide +kernel
theorem dX5_beginOffer_63 : decode cX5_beginOffer 63 = .ok (.iconst 0, 1) := by decide +kernel
theorem dX5_beginOffer_64 : decode cX5_beginOffer 64 = .ok (.putfield 87, 3) := by decide +kernel
theorem dX5_beginOffer_67 : decode cX5_beginOffer 67 = .ok (.aload_n 0, 1) := by decide +kernel
theorem dX5_beginOffer_68 : decode cX5_beginOffer 68 = .ok (.iconst 0, 1) := by decide +kernel
theorem dX5_beginOffer_69 : decode cX5_beginOffer 69 = .ok (.putfield 90, 3) := by decide +kernel
theorem dX5_beginOffer_72 : decode cX5_beginOffer 72 = .ok (.aload_n 0, 1) := by decide +kernel
theorem dX5_beginOffer_73 : decode cX5_beginOffer 73 = .ok (.iconst 0, 1) := by decide +kernel
theorem dX5_beginOffer_74 : decode cX5_beginOffer 74 = .ok (.putfield 93, 3) := by decide +kernel
theorem dX5_beginOffer_77 : decode cX5_beginOffer 77 = .ok (.aload_n 0, 1) := by decide +kernel
theorem dX5_beginOffer_78 : decode cX5_beginOffer 78 = .ok (.iconst 0, 1) := by decide +kernel
theorem dX5_beginOffer_79 : decode cX5_beginOffer 79 = .ok (.putfield 96, 3) := by decide +kernel
theorem dX5_beginOffer_82 : decode cX5_beginOffer 82 = .ok (.aload_n 0, 1) := by decide +kernel
theorem dX5_beginOffer_83 : decode cX5_beginOffer 83 = .ok (.iconst 0, 1) := by decide +kernel
theorem dX5_beginOffer_84 : decode cX5_beginOffer 84 = .ok (.putfield 99, 3) := by decide +kernel
theorem dX5_beginOffer_87 : decode cX5_beginOffer 87 = .ok (.aload_n 0, 1) := by decide +kernel
theorem dX5_beginOffer_88 : decode cX5_beginOffer 88 = .ok (.iconst 0, 1) := by decide +kernel
theorem dX5_beginOffer_89 : decode cX5_beginOffer 89 = .ok (.invokevirtual 102, 3) := by decide +kernel
theorem dX5_beginOffer_92 : decode cX5_beginOffer 92 = .ok (.istore_n 2, 1) := by decide +kernel
theorem dX5_beginOffer_93 : decode cX5_beginOffer 93 = .ok (.aload_n 0, 1) := by decide +kernel
theorem dX5_beginOffer_94 : decode cX5_beginOffer 94 = .ok (.iload_n 2, 1) := by decide +kernel
theorem dX5_beginOffer_95 : decode cX5_beginOffer 95 = .ok (.iconst 0, 1) := by decide +kernel
theorem dX5_beginOffer_96 : decode cX5_beginOffer 96 = .ok (.invokestatic 106, 3) := by decide +kernel
theorem dX5_beginOffer_99 : decode cX5_beginOffer 99 = .ok (.putfield 112, 3) := by decide +kernel
theorem dX5_beginOffer_102 : decode cX5_beginOffer 102 = .ok (.aload_n 0, 1) := by decide +kernel
theorem dX5_beginOffer_103 : decode cX5_beginOffer 103 = .ok (.iload_n 2, 1) := by decide +kernel
theorem dX5_beginOffer_104 : decode cX5_beginOffer 104 = .ok (.iconst (-1), 1) := by decide +kernel
theorem dX5_beginOffer_105 : decode cX5_beginOffer 105 = .ok (.if_icmp .ne 8, 3) := by decide +kernel
theorem dX5_beginOffer_108 : decode cX5_beginOffer 108 = .ok (.bipush 9, 2) := by decide +kernel
theorem dX5_beginOffer_110 : decode cX5_beginOffer 110 = .ok (.goto 4, 3) := by decide +kernel
theorem dX5_beginOffer_113 : decode cX5_beginOffer 113 = .ok (.iconst 2, 1) := by decide +kernel
theorem dX5_beginOffer_114 : decode cX5_beginOffer 114 = .ok (.putfield 37, 3) := by decide +kernel
theorem dX5_beginOffer_117 : decode cX5_beginOffer 117 = .ok (.return_, 1) := by decide +kernel
theorem dX5_isOffering_0 : decode cX5_isOffering 0 = .ok (.aload_n 0, 1) := by decide +kernel
theorem dX5_isOffering_1 : decode cX5_isOffering 1 = .ok (.getfield 37, 3) := by decide +kernel
theorem dX5_isOffering_4 : decode cX5_isOffering 4 = .ok (.iconst 2, 1) := by decide +kernel
theorem dX5_isOffering_5 : decode cX5_isOffering 5 = .ok (.if_icmp .lt 16, 3) := by decide +kernel
theorem dX5_isOffering_8 : decode cX5_isOffering 8 = .ok (.aload_n 0, 1) := by decide +kernel
theorem dX5_isOffering_9 : decode cX5_isOffering 9 = .ok (.getfield 37, 3) := by decide +kernel
theorem dX5_isOffering_12 : decode cX5_isOffering 12 = .ok (.bipush 11, 2) := by decide +kernel
theorem dX5_isOffering_14 : decode cX5_isOffering 14 = .ok (.if_icmp .gt 7, 3) := by decide +kernel
theorem dX5_isOffering_17 : decode cX5_isOffering 17 = .ok (.iconst 1, 1) := by decide +kernel
theorem dX5_isOffering_18 : decode cX5_isOffering 18 = .ok (.goto 4, 3) := by decide +kernel
theorem dX5_isOffering_21 : decode cX5_isOffering 21 = .ok (.iconst 0, 1) := by decide +kernel
theorem dX5_isOffering_22 : decode cX5_isOffering 22 = .ok (.ireturn, 1) := by decide +kernel
theorem dX5_isClaiming_0 : decode cX5_isClaiming 0 = .ok (.aload_n 0, 1) := by decide +kernel
theorem dX5_isClaiming_1 : decode cX5_isClaiming 1 = .ok (.getfield 37, 3) := by decide +kernel
theorem dX5_isClaiming_4 : decode cX5_isClaiming 4 = .ok (.iconst 5, 1) := by decide +kernel
theorem dX5_isClaiming_5 : decode cX5_isClaiming 5 = .ok (.if_icmp .lt 16, 3) := by decide +kernel
theorem dX5_isClaiming_8 : decode cX5_isClaiming 8 = .ok (.aload_n 0, 1) := by decide +kernel
theorem dX5_isClaiming_9 : decode cX5_isClaiming 9 = .ok (.getfield 37, 3) := by decide +kernel
theorem dX5_isClaiming_12 : decode cX5_isClaiming 12 = .ok (.bipush 8, 2) := by decide +kernel
theorem dX5_isClaiming_14 : decode cX5_isClaiming 14 = .ok (.if_icmp .gt 7, 3) := by decide +kernel
theorem dX5_isClaiming_17 : decode cX5_isClaiming 17 = .ok (.iconst 1, 1) := by decide +kernel
theorem dX5_isClaiming_18 : decode cX5_isClaiming 18 = .ok (.goto 4, 3) := by decide +kernel
theorem dX5_isClaiming_21 : decode cX5_isClaiming 21 = .ok (.iconst 0, 1) := by decide +kernel
theorem dX5_isClaiming_22 : decode cX5_isClaiming 22 = .ok (.ireturn, 1) := by decide +kernel
theorem dX5_heedsTime_0 : decode cX5_heedsTime 0 = .ok (.aload_n 0, 1) := by decide +kernel
theorem dX5_heedsTime_1 : decode cX5_heedsTime 1 = .ok (.getfield 37, 3) := by decide +kernel
theorem dX5_heedsTime_4 : decode cX5_heedsTime 4 = .ok (.iconst 2, 1) := by decide +kernel
theorem dX5_heedsTime_5 : decode cX5_heedsTime 5 = .ok (.if_icmp .eq 29, 3) := by decide +kernel
theorem dX5_heedsTime_8 : decode cX5_heedsTime 8 = .ok (.aload_n 0, 1) := by decide +kernel
theorem dX5_heedsTime_9 : decode cX5_heedsTime 9 = .ok (.getfield 37, 3) := by decide +kernel
theorem dX5_heedsTime_12 : decode cX5_heedsTime 12 = .ok (.iconst 3, 1) := by decide +kernel
theorem dX5_heedsTime_13 : decode cX5_heedsTime 13 = .ok (.if_icmp .eq 21, 3) := by decide +kernel
theorem dX5_heedsTime_16 : decode cX5_heedsTime 16 = .ok (.aload_n 0, 1) := by decide +kernel
theorem dX5_heedsTime_17 : decode cX5_heedsTime 17 = .ok (.getfield 37, 3) := by decide +kernel
theorem dX5_heedsTime_20 : decode cX5_heedsTime 20 = .ok (.bipush 9, 2) := by decide +kernel
theorem dX5_heedsTime_22 : decode cX5_heedsTime 22 = .ok (.if_icmp .eq 12, 3) := by decide +kernel
theorem dX5_heedsTime_25 : decode cX5_heedsTime 25 = .ok (.aload_n 0, 1) := by decide +kernel
theorem dX5_heedsTime_26 : decode cX5_heedsTime 26 = .ok (.getfield 37, 3) := by decide +kernel
theorem dX5_heedsTime_29 : decode cX5_heedsTime 29 = .ok (.bipush 10, 2) := by decide +kernel
theorem dX5_heedsTime_31 : decode cX5_heedsTime 31 = .ok (.if_icmp .ne 7, 3) := by decide +kernel
theorem dX5_heedsTime_34 : decode cX5_heedsTime 34 = .ok (.iconst 1, 1) := by decide +kernel
theorem dX5_heedsTime_35 : decode cX5_heedsTime 35 = .ok (.goto 4, 3) := by decide +kernel
theorem dX5_heedsTime_38 : decode cX5_heedsTime 38 = .ok (.iconst 0, 1) := by decide +kernel
theorem dX5_heedsTime_39 : decode cX5_heedsTime 39 = .ok (.ireturn, 1) := by decide +kernel
theorem dX5_isDue_0 : decode cX5_isDue 0 = .ok (.aload_n 0, 1) := by decide +kernel
theorem dX5_isDue_1 : decode cX5_isDue 1 = .ok (.getfield 41, 3) := by decide +kernel
theorem dX5_isDue_4 : decode cX5_isDue 4 = .ok (.iconst (-1), 1) := by decide +kernel
theorem dX5_isDue_5 : decode cX5_isDue 5 = .ok (.if_icmp .eq 15, 3) := by decide +kernel
theorem dX5_isDue_8 : decode cX5_isDue 8 = .ok (.iload_n 1, 1) := by decide +kernel
theorem dX5_isDue_9 : decode cX5_isDue 9 = .ok (.aload_n 0, 1) := by decide +kernel
theorem dX5_isDue_10 : decode cX5_isDue 10 = .ok (.getfield 41, 3) := by decide +kernel
theorem dX5_isDue_13 : decode cX5_isDue 13 = .ok (.if_icmp .lt 7, 3) := by decide +kernel
theorem dX5_isDue_16 : decode cX5_isDue 16 = .ok (.iconst 1, 1) := by decide +kernel
theorem dX5_isDue_17 : decode cX5_isDue 17 = .ok (.goto 4, 3) := by decide +kernel
theorem dX5_isDue_20 : decode cX5_isDue 20 = .ok (.iconst 0, 1) := by decide +kernel
theorem dX5_isDue_21 : decode cX5_isDue 21 = .ok (.ireturn, 1) := by decide +kernel
theorem dX5_standing_0 : decode cX5_standing 0 = .ok (.aload_n 0, 1) := by decide +kernel
theorem dX5_standing_1 : decode cX5_standing 1 = .ok (.getfield 37, 3) := by decide +kernel
theorem dX5_standing_4 : decode cX5_standing 4 = .ok (.lookupswitch 70 #[(0, 44), (1, 46), (10, 48), (12, 50)], 44) := by decide +kernel
theorem dX5_standing_48 : decode cX5_standing 48 = .ok (.iconst (-1), 1) := by decide +kernel
theorem dX5_standing_49 : decode cX5_standing 49 = .ok (.ireturn, 1) := by decide +kernel
theorem dX5_standing_50 : decode cX5_standing 50 = .ok (.iconst 4, 1) := by decide +kernel
theorem dX5_standing_51 : decode cX5_standing 51 = .ok (.ireturn, 1) := by decide +kernel
theorem dX5_standing_52 : decode cX5_standing 52 = .ok (.iconst 1, 1) := by decide +kernel
theorem dX5_standing_53 : decode cX5_standing 53 = .ok (.ireturn, 1) := by decide +kernel
theorem dX5_standing_54 : decode cX5_standing 54 = .ok (.aload_n 0, 1) := by decide +kernel
theorem dX5_standing_55 : decode cX5_standing 55 = .ok (.getfield 12, 3) := by decide +kernel
theorem dX5_standing_58 : decode cX5_standing 58 = .ok (.getfield 115, 3) := by decide +kernel
theorem dX5_standing_61 : decode cX5_standing 61 = .ok (.iconst 3, 1) := by decide +kernel
theorem dX5_standing_62 : decode cX5_standing 62 = .ok (.if_icmp .ne 7, 3) := by decide +kernel
theorem dX5_standing_65 : decode cX5_standing 65 = .ok (.iconst 2, 1) := by decide +kernel
theorem dX5_standing_66 : decode cX5_standing 66 = .ok (.goto 7, 3) := by decide +kernel
theorem dX5_standing_69 : decode cX5_standing 69 = .ok (.aload_n 0, 1) := by decide +kernel
theorem dX5_standing_70 : decode cX5_standing 70 = .ok (.getfield 84, 3) := by decide +kernel
theorem dX5_standing_73 : decode cX5_standing 73 = .ok (.ireturn, 1) := by decide +kernel
theorem dX5_standing_74 : decode cX5_standing 74 = .ok (.iconst 0, 1) := by decide +kernel
theorem dX5_standing_75 : decode cX5_standing 75 = .ok (.ireturn, 1) := by decide +kernel
theorem dX5_currentGuard_0 : decode cX5_currentGuard 0 = .ok (.aload_n 0, 1) := by decide +kernel
theorem dX5_currentGuard_1 : decode cX5_currentGuard 1 = .ok (.getfield 112, 3) := by decide +kernel
theorem dX5_currentGuard_4 : decode cX5_currentGuard 4 = .ok (.ifCond .lt 38, 3) := by decide +kernel
theorem dX5_currentGuard_7 : decode cX5_currentGuard 7 = .ok (.aload_n 0, 1) := by decide +kernel
theorem dX5_currentGuard_8 : decode cX5_currentGuard 8 = .ok (.getfield 112, 3) := by decide +kernel
theorem dX5_currentGuard_11 : decode cX5_currentGuard 11 = .ok (.aload_n 0, 1) := by decide +kernel
theorem dX5_currentGuard_12 : decode cX5_currentGuard 12 = .ok (.getfield 48, 3) := by decide +kernel
theorem dX5_currentGuard_15 : decode cX5_currentGuard 15 = .ok (.if_icmp .ge 27, 3) := by decide +kernel
theorem dX5_currentGuard_18 : decode cX5_currentGuard 18 = .ok (.aload_n 0, 1) := by decide +kernel
theorem dX5_currentGuard_19 : decode cX5_currentGuard 19 = .ok (.getfield 112, 3) := by decide +kernel
theorem dX5_currentGuard_22 : decode cX5_currentGuard 22 = .ok (.aload_n 0, 1) := by decide +kernel
theorem dX5_currentGuard_23 : decode cX5_currentGuard 23 = .ok (.getfield 27, 3) := by decide +kernel
theorem dX5_currentGuard_26 : decode cX5_currentGuard 26 = .ok (.arraylength, 1) := by decide +kernel
theorem dX5_currentGuard_27 : decode cX5_currentGuard 27 = .ok (.if_icmp .ge 15, 3) := by decide +kernel
theorem dX5_currentGuard_30 : decode cX5_currentGuard 30 = .ok (.aload_n 0, 1) := by decide +kernel
theorem dX5_currentGuard_31 : decode cX5_currentGuard 31 = .ok (.getfield 27, 3) := by decide +kernel
theorem dX5_currentGuard_34 : decode cX5_currentGuard 34 = .ok (.aload_n 0, 1) := by decide +kernel
theorem dX5_currentGuard_35 : decode cX5_currentGuard 35 = .ok (.getfield 112, 3) := by decide +kernel
theorem dX5_currentGuard_38 : decode cX5_currentGuard 38 = .ok (.aaload, 1) := by decide +kernel
theorem dX5_currentGuard_39 : decode cX5_currentGuard 39 = .ok (.goto 4, 3) := by decide +kernel
theorem dX5_currentGuard_42 : decode cX5_currentGuard 42 = .ok (.aconst_null, 1) := by decide +kernel
theorem dX5_currentGuard_43 : decode cX5_currentGuard 43 = .ok (.areturn, 1) := by decide +kernel
theorem dX5_nextOn_0 : decode cX5_nextOn 0 = .ok (.iload_n 1, 1) := by decide +kernel
theorem dX5_nextOn_1 : decode cX5_nextOn 1 = .ok (.iconst 0, 1) := by decide +kernel
theorem dX5_nextOn_2 : decode cX5_nextOn 2 = .ok (.invokestatic 106, 3) := by decide +kernel
theorem dX5_nextOn_5 : decode cX5_nextOn 5 = .ok (.istore_n 2, 1) := by decide +kernel
theorem dX5_nextOn_6 : decode cX5_nextOn 6 = .ok (.iload_n 2, 1) := by decide +kernel
theorem dX5_nextOn_7 : decode cX5_nextOn 7 = .ok (.aload_n 0, 1) := by decide +kernel
theorem dX5_nextOn_8 : decode cX5_nextOn 8 = .ok (.getfield 48, 3) := by decide +kernel
theorem dX5_nextOn_11 : decode cX5_nextOn 11 = .ok (.if_icmp .ge 32, 3) := by decide +kernel
theorem dX5_nextOn_14 : decode cX5_nextOn 14 = .ok (.iload_n 2, 1) := by decide +kernel
theorem dX5_nextOn_15 : decode cX5_nextOn 15 = .ok (.aload_n 0, 1) := by decide +kernel
theorem dX5_nextOn_16 : decode cX5_nextOn 16 = .ok (.getfield 27, 3) := by decide +kernel
theorem dX5_nextOn_19 : decode cX5_nextOn 19 = .ok (.arraylength, 1) := by decide +kernel
theorem dX5_nextOn_20 : decode cX5_nextOn 20 = .ok (.if_icmp .ge 23, 3) := by decide +kernel
theorem dX5_nextOn_23 : decode cX5_nextOn 23 = .ok (.aload_n 0, 1) := by decide +kernel
theorem dX5_nextOn_24 : decode cX5_nextOn 24 = .ok (.getfield 27, 3) := by decide +kernel
theorem dX5_nextOn_27 : decode cX5_nextOn 27 = .ok (.iload_n 2, 1) := by decide +kernel
theorem dX5_nextOn_28 : decode cX5_nextOn 28 = .ok (.aaload, 1) := by decide +kernel
theorem dX5_nextOn_29 : decode cX5_nextOn 29 = .ok (.getfield 63, 3) := by decide +kernel
theorem dX5_nextOn_32 : decode cX5_nextOn 32 = .ok (.ifCond .eq 5, 3) := by decide +kernel
theorem dX5_nextOn_35 : decode cX5_nextOn 35 = .ok (.iload_n 2, 1) := by decide +kernel
theorem dX5_nextOn_36 : decode cX5_nextOn 36 = .ok (.ireturn, 1) := by decide +kernel
theorem dX5_nextOn_37 : decode cX5_nextOn 37 = .ok (.iinc 2 1, 3) := by decide +kernel
theorem dX5_nextOn_40 : decode cX5_nextOn 40 = .ok (.goto (-34), 3) := by decide +kernel
theorem dX5_nextOn_43 : decode cX5_nextOn 43 = .ok (.iconst (-1), 1) := by decide +kernel
theorem dX5_nextOn_44 : decode cX5_nextOn 44 = .ok (.ireturn, 1) := by decide +kernel
theorem dX5_lookFromFirst_0 : decode cX5_lookFromFirst 0 = .ok (.aload_n 0, 1) := by decide +kernel
theorem dX5_lookFromFirst_1 : decode cX5_lookFromFirst 1 = .ok (.iconst 0, 1) := by decide +kernel
theorem dX5_lookFromFirst_2 : decode cX5_lookFromFirst 2 = .ok (.invokevirtual 102, 3) := by decide +kernel
theorem dX5_lookFromFirst_5 : decode cX5_lookFromFirst 5 = .ok (.istore_n 1, 1) := by decide +kernel
theorem dX5_lookFromFirst_6 : decode cX5_lookFromFirst 6 = .ok (.iload_n 1, 1) := by decide +kernel
theorem dX5_lookFromFirst_7 : decode cX5_lookFromFirst 7 = .ok (.iconst (-1), 1) := by decide +kernel
theorem dX5_lookFromFirst_8 : decode cX5_lookFromFirst 8 = .ok (.if_icmp .ne 10, 3) := by decide +kernel
theorem dX5_lookFromFirst_11 : decode cX5_lookFromFirst 11 = .ok (.aload_n 0, 1) := by decide +kernel
theorem dX5_lookFromFirst_12 : decode cX5_lookFromFirst 12 = .ok (.bipush 10, 2) := by decide +kernel
theorem dX5_lookFromFirst_14 : decode cX5_lookFromFirst 14 = .ok (.putfield 37, 3) := by decide +kernel
theorem dX5_lookFromFirst_17 : decode cX5_lookFromFirst 17 = .ok (.return_, 1) := by decide +kernel
theorem dX5_lookFromFirst_18 : decode cX5_lookFromFirst 18 = .ok (.aload_n 0, 1) := by decide +kernel
theorem dX5_lookFromFirst_19 : decode cX5_lookFromFirst 19 = .ok (.iload_n 1, 1) := by decide +kernel
theorem dX5_lookFromFirst_20 : decode cX5_lookFromFirst 20 = .ok (.invokevirtual 116, 3) := by decide +kernel
theorem dX5_lookFromFirst_23 : decode cX5_lookFromFirst 23 = .ok (.return_, 1) := by decide +kernel
theorem dX5_lookAtNext_0 : decode cX5_lookAtNext 0 = .ok (.aload_n 0, 1) := by decide +kernel
theorem dX5_lookAtNext_1 : decode cX5_lookAtNext 1 = .ok (.aload_n 0, 1) := by decide +kernel
theorem dX5_lookAtNext_2 : decode cX5_lookAtNext 2 = .ok (.getfield 112, 3) := by decide +kernel
theorem dX5_lookAtNext_5 : decode cX5_lookAtNext 5 = .ok (.iconst 1, 1) := by decide +kernel
theorem dX5_lookAtNext_6 : decode cX5_lookAtNext 6 = .ok (.iadd, 1) := by decide +kernel
theorem dX5_lookAtNext_7 : decode cX5_lookAtNext 7 = .ok (.invokevirtual 102, 3) := by decide +kernel
theorem dX5_lookAtNext_10 : decode cX5_lookAtNext 10 = .ok (.istore_n 1, 1) := by decide +kernel
theorem dX5_lookAtNext_11 : decode cX5_lookAtNext 11 = .ok (.iload_n 1, 1) := by decide +kernel
theorem dX5_lookAtNext_12 : decode cX5_lookAtNext 12 = .ok (.iconst (-1), 1) := by decide +kernel
theorem dX5_lookAtNext_13 : decode cX5_lookAtNext 13 = .ok (.if_icmp .ne 10, 3) := by decide +kernel
theorem dX5_lookAtNext_16 : decode cX5_lookAtNext 16 = .ok (.aload_n 0, 1) := by decide +kernel
theorem dX5_lookAtNext_17 : decode cX5_lookAtNext 17 = .ok (.bipush 9, 2) := by decide +kernel
theorem dX5_lookAtNext_19 : decode cX5_lookAtNext 19 = .ok (.putfield 37, 3) := by decide +kernel
theorem dX5_lookAtNext_22 : decode cX5_lookAtNext 22 = .ok (.return_, 1) := by decide +kernel
theorem dX5_lookAtNext_23 : decode cX5_lookAtNext 23 = .ok (.aload_n 0, 1) := by decide +kernel
theorem dX5_lookAtNext_24 : decode cX5_lookAtNext 24 = .ok (.iload_n 1, 1) := by decide +kernel
theorem dX5_lookAtNext_25 : decode cX5_lookAtNext 25 = .ok (.invokevirtual 116, 3) := by decide +kernel
theorem dX5_lookAtNext_28 : decode cX5_lookAtNext 28 = .ok (.return_, 1) := by decide +kernel
theorem dX5_lookAt_0 : decode cX5_lookAt 0 = .ok (.aload_n 0, 1) := by decide +kernel
theorem dX5_lookAt_1 : decode cX5_lookAt 1 = .ok (.iload_n 1, 1) := by decide +kernel
theorem dX5_lookAt_2 : decode cX5_lookAt 2 = .ok (.putfield 112, 3) := by decide +kernel
theorem dX5_lookAt_5 : decode cX5_lookAt 5 = .ok (.aload_n 0, 1) := by decide +kernel
theorem dX5_lookAt_6 : decode cX5_lookAt 6 = .ok (.iconst 0, 1) := by decide +kernel
theorem dX5_lookAt_7 : decode cX5_lookAt 7 = .ok (.putfield 119, 3) := by decide +kernel
theorem dX5_lookAt_10 : decode cX5_lookAt 10 = .ok (.aload_n 0, 1) := by decide +kernel
theorem dX5_lookAt_11 : decode cX5_lookAt 11 = .ok (.iconst 3, 1) := by decide +kernel
theorem dX5_lookAt_12 : decode cX5_lookAt 12 = .ok (.putfield 37, 3) := by decide +kernel
theorem dX5_lookAt_15 : decode cX5_lookAt 15 = .ok (.return_, 1) := by decide +kernel
theorem dX5_endLooking_0 : decode cX5_endLooking 0 = .ok (.aload_n 0, 1) := by decide +kernel
theorem dX5_endLooking_1 : decode cX5_endLooking 1 = .ok (.getfield 12, 3) := by decide +kernel
theorem dX5_endLooking_4 : decode cX5_endLooking 4 = .ok (.invokevirtual 122, 3) := by decide +kernel
theorem dX5_endLooking_7 : decode cX5_endLooking 7 = .ok (.ifCond .eq 10, 3) := by decide +kernel
theorem dX5_endLooking_10 : decode cX5_endLooking 10 = .ok (.aload_n 0, 1) := by decide +kernel
theorem dX5_endLooking_11 : decode cX5_endLooking 11 = .ok (.invokevirtual 126, 3) := by decide +kernel
theorem dX5_endLooking_14 : decode cX5_endLooking 14 = .ok (.goto 28, 3) := by decide +kernel
theorem dX5_endLooking_17 : decode cX5_endLooking 17 = .ok (.aload_n 0, 1) := by decide +kernel
theorem dX5_endLooking_18 : decode cX5_endLooking 18 = .ok (.getfield 74, 3) := by decide +kernel
theorem dX5_endLooking_21 : decode cX5_endLooking 21 = .ok (.ifCond .eq 15, 3) := by decide +kernel
theorem dX5_endLooking_24 : decode cX5_endLooking 24 = .ok (.aload_n 0, 1) := by decide +kernel
theorem dX5_endLooking_25 : decode cX5_endLooking 25 = .ok (.iconst 0, 1) := by decide +kernel
theorem dX5_endLooking_26 : decode cX5_endLooking 26 = .ok (.putfield 74, 3) := by decide +kernel
theorem dX5_endLooking_29 : decode cX5_endLooking 29 = .ok (.aload_n 0, 1) := by decide +kernel
theorem dX5_endLooking_30 : decode cX5_endLooking 30 = .ok (.invokevirtual 129, 3) := by decide +kernel
theorem dX5_endLooking_33 : decode cX5_endLooking 33 = .ok (.goto 9, 3) := by decide +kernel
theorem dX5_endLooking_36 : decode cX5_endLooking 36 = .ok (.aload_n 0, 1) := by decide +kernel
theorem dX5_endLooking_37 : decode cX5_endLooking 37 = .ok (.bipush 10, 2) := by decide +kernel
theorem dX5_endLooking_39 : decode cX5_endLooking 39 = .ok (.putfield 37, 3) := by decide +kernel
theorem dX5_endLooking_42 : decode cX5_endLooking 42 = .ok (.return_, 1) := by decide +kernel
theorem dX5_wakeIfSettled_0 : decode cX5_wakeIfSettled 0 = .ok (.aload_n 0, 1) := by decide +kernel
theorem dX5_wakeIfSettled_1 : decode cX5_wakeIfSettled 1 = .ok (.getfield 12, 3) := by decide +kernel
theorem dX5_wakeIfSettled_4 : decode cX5_wakeIfSettled 4 = .ok (.invokevirtual 122, 3) := by decide +kernel
theorem dX5_wakeIfSettled_7 : decode cX5_wakeIfSettled 7 = .ok (.ifCond .eq 7, 3) := by decide +kernel
theorem dX5_wakeIfSettled_10 : decode cX5_wakeIfSettled 10 = .ok (.aload_n 0, 1) := by decide +kernel
theorem dX5_wakeIfSettled_11 : decode cX5_wakeIfSettled 11 = .ok (.invokevirtual 126, 3) := by decide +kernel
theorem dX5_wakeIfSettled_14 : decode cX5_wakeIfSettled 14 = .ok (.return_, 1) := by decide +kernel
theorem dX5_keepEntry_0 : decode cX5_keepEntry 0 = .ok (.aload_n 0, 1) := by decide +kernel
theorem dX5_keepEntry_1 : decode cX5_keepEntry 1 = .ok (.getfield 87, 3) := by decide +kernel
theorem dX5_keepEntry_4 : decode cX5_keepEntry 4 = .ok (.aload_n 0, 1) := by decide +kernel
theorem dX5_keepEntry_5 : decode cX5_keepEntry 5 = .ok (.getfield 33, 3) := by decide +kernel
theorem dX5_keepEntry_8 : decode cX5_keepEntry 8 = .ok (.arraylength, 1) := by decide +kernel
theorem dX5_keepEntry_9 : decode cX5_keepEntry 9 = .ok (.if_icmp .ge 23, 3) := by decide +kernel
theorem dX5_keepEntry_12 : decode cX5_keepEntry 12 = .ok (.aload_n 0, 1) := by decide +kernel
theorem dX5_keepEntry_13 : decode cX5_keepEntry 13 = .ok (.getfield 33, 3) := by decide +kernel
theorem dX5_keepEntry_16 : decode cX5_keepEntry 16 = .ok (.aload_n 0, 1) := by decide +kernel
theorem dX5_keepEntry_17 : decode cX5_keepEntry 17 = .ok (.getfield 87, 3) := by decide +kernel
theorem dX5_keepEntry_20 : decode cX5_keepEntry 20 = .ok (.aload_n 1, 1) := by decide +kernel
theorem dX5_keepEntry_21 : decode cX5_keepEntry 21 = .ok (.aastore, 1) := by decide +kernel
theorem dX5_keepEntry_22 : decode cX5_keepEntry 22 = .ok (.aload_n 0, 1) := by decide +kernel
theorem dX5_keepEntry_23 : decode cX5_keepEntry 23 = .ok (.dup, 1) := by decide +kernel
theorem dX5_keepEntry_24 : decode cX5_keepEntry 24 = .ok (.getfield 87, 3) := by decide +kernel
theorem dX5_keepEntry_27 : decode cX5_keepEntry 27 = .ok (.iconst 1, 1) := by decide +kernel
theorem dX5_keepEntry_28 : decode cX5_keepEntry 28 = .ok (.iadd, 1) := by decide +kernel
theorem dX5_keepEntry_29 : decode cX5_keepEntry 29 = .ok (.putfield 87, 3) := by decide +kernel
theorem dX5_keepEntry_32 : decode cX5_keepEntry 32 = .ok (.return_, 1) := by decide +kernel
theorem dX5_firstEntry_0 : decode cX5_firstEntry 0 = .ok (.aload_n 0, 1) := by decide +kernel
theorem dX5_firstEntry_1 : decode cX5_firstEntry 1 = .ok (.getfield 90, 3) := by decide +kernel
theorem dX5_firstEntry_4 : decode cX5_firstEntry 4 = .ok (.ifCond .lt 38, 3) := by decide +kernel
theorem dX5_firstEntry_7 : decode cX5_firstEntry 7 = .ok (.aload_n 0, 1) := by decide +kernel
theorem dX5_firstEntry_8 : decode cX5_firstEntry 8 = .ok (.getfield 90, 3) := by decide +kernel
theorem dX5_firstEntry_11 : decode cX5_firstEntry 11 = .ok (.aload_n 0, 1) := by decide +kernel
theorem dX5_firstEntry_12 : decode cX5_firstEntry 12 = .ok (.getfield 87, 3) := by decide +kernel
theorem dX5_firstEntry_15 : decode cX5_firstEntry 15 = .ok (.if_icmp .ge 27, 3) := by decide +kernel
theorem dX5_firstEntry_18 : decode cX5_firstEntry 18 = .ok (.aload_n 0, 1) := by decide +kernel
theorem dX5_firstEntry_19 : decode cX5_firstEntry 19 = .ok (.getfield 90, 3) := by decide +kernel
theorem dX5_firstEntry_22 : decode cX5_firstEntry 22 = .ok (.aload_n 0, 1) := by decide +kernel
theorem dX5_firstEntry_23 : decode cX5_firstEntry 23 = .ok (.getfield 33, 3) := by decide +kernel
theorem dX5_firstEntry_26 : decode cX5_firstEntry 26 = .ok (.arraylength, 1) := by decide +kernel
theorem dX5_firstEntry_27 : decode cX5_firstEntry 27 = .ok (.if_icmp .ge 15, 3) := by decide +kernel
theorem dX5_firstEntry_30 : decode cX5_firstEntry 30 = .ok (.aload_n 0, 1) := by decide +kernel
theorem dX5_firstEntry_31 : decode cX5_firstEntry 31 = .ok (.getfield 33, 3) := by decide +kernel
theorem dX5_firstEntry_34 : decode cX5_firstEntry 34 = .ok (.aload_n 0, 1) := by decide +kernel
theorem dX5_firstEntry_35 : decode cX5_firstEntry 35 = .ok (.getfield 90, 3) := by decide +kernel
theorem dX5_firstEntry_38 : decode cX5_firstEntry 38 = .ok (.aaload, 1) := by decide +kernel
theorem dX5_firstEntry_39 : decode cX5_firstEntry 39 = .ok (.goto 4, 3) := by decide +kernel
theorem dX5_firstEntry_42 : decode cX5_firstEntry 42 = .ok (.aconst_null, 1) := by decide +kernel
theorem dX5_firstEntry_43 : decode cX5_firstEntry 43 = .ok (.areturn, 1) := by decide +kernel
theorem dX5_beginWithdraw_0 : decode cX5_beginWithdraw 0 = .ok (.aload_n 0, 1) := by decide +kernel
theorem dX5_beginWithdraw_1 : decode cX5_beginWithdraw 1 = .ok (.aload_n 0, 1) := by decide +kernel
theorem dX5_beginWithdraw_2 : decode cX5_beginWithdraw 2 = .ok (.invokevirtual 132, 3) := by decide +kernel
theorem dX5_beginWithdraw_5 : decode cX5_beginWithdraw 5 = .ok (.ifnonnull 8, 3) := by decide +kernel
theorem dX5_beginWithdraw_8 : decode cX5_beginWithdraw 8 = .ok (.bipush 12, 2) := by decide +kernel
theorem dX5_beginWithdraw_10 : decode cX5_beginWithdraw 10 = .ok (.goto 5, 3) := by decide +kernel
theorem dX5_beginWithdraw_13 : decode cX5_beginWithdraw 13 = .ok (.bipush 11, 2) := by decide +kernel
theorem dX5_beginWithdraw_15 : decode cX5_beginWithdraw 15 = .ok (.putfield 37, 3) := by decide +kernel
theorem dX5_beginWithdraw_18 : decode cX5_beginWithdraw 18 = .ok (.return_, 1) := by decide +kernel
theorem dX5_matches_0 : decode cX5_matches 0 = .ok (.iconst 0, 1) := by decide +kernel
theorem dX5_matches_1 : decode cX5_matches 1 = .ok (.istore_n 2, 1) := by decide +kernel
theorem dX5_matches_2 : decode cX5_matches 2 = .ok (.iload_n 2, 1) := by decide +kernel
theorem dX5_matches_3 : decode cX5_matches 3 = .ok (.aload_n 0, 1) := by decide +kernel
theorem dX5_matches_4 : decode cX5_matches 4 = .ok (.getfield 48, 3) := by decide +kernel
theorem dX5_matches_7 : decode cX5_matches 7 = .ok (.if_icmp .ge 63, 3) := by decide +kernel
theorem dX5_matches_10 : decode cX5_matches 10 = .ok (.iload_n 2, 1) := by decide +kernel
theorem dX5_matches_11 : decode cX5_matches 11 = .ok (.aload_n 0, 1) := by decide +kernel
theorem dX5_matches_12 : decode cX5_matches 12 = .ok (.getfield 27, 3) := by decide +kernel
theorem dX5_matches_15 : decode cX5_matches 15 = .ok (.arraylength, 1) := by decide +kernel
theorem dX5_matches_16 : decode cX5_matches 16 = .ok (.if_icmp .ge 54, 3) := by decide +kernel
theorem dX5_matches_19 : decode cX5_matches 19 = .ok (.iconst 0, 1) := by decide +kernel
theorem dX5_matches_20 : decode cX5_matches 20 = .ok (.istore_n 3, 1) := by decide +kernel
theorem dX5_matches_21 : decode cX5_matches 21 = .ok (.iload_n 3, 1) := by decide +kernel
theorem dX5_matches_22 : decode cX5_matches 22 = .ok (.aload_n 1, 1) := by decide +kernel
theorem dX5_matches_23 : decode cX5_matches 23 = .ok (.getfield 48, 3) := by decide +kernel
theorem dX5_matches_26 : decode cX5_matches 26 = .ok (.if_icmp .ge 38, 3) := by decide +kernel
theorem dX5_matches_29 : decode cX5_matches 29 = .ok (.iload_n 3, 1) := by decide +kernel
theorem dX5_matches_30 : decode cX5_matches 30 = .ok (.aload_n 1, 1) := by decide +kernel
theorem dX5_matches_31 : decode cX5_matches 31 = .ok (.getfield 27, 3) := by decide +kernel
theorem dX5_matches_34 : decode cX5_matches 34 = .ok (.arraylength, 1) := by decide +kernel
theorem dX5_matches_35 : decode cX5_matches 35 = .ok (.if_icmp .ge 29, 3) := by decide +kernel
theorem dX5_matches_38 : decode cX5_matches 38 = .ok (.aload_n 0, 1) := by decide +kernel
theorem dX5_matches_39 : decode cX5_matches 39 = .ok (.getfield 27, 3) := by decide +kernel
theorem dX5_matches_42 : decode cX5_matches 42 = .ok (.iload_n 2, 1) := by decide +kernel
theorem dX5_matches_43 : decode cX5_matches 43 = .ok (.aaload, 1) := by decide +kernel
theorem dX5_matches_44 : decode cX5_matches 44 = .ok (.aload_n 1, 1) := by decide +kernel
theorem dX5_matches_45 : decode cX5_matches 45 = .ok (.getfield 27, 3) := by decide +kernel
theorem dX5_matches_48 : decode cX5_matches 48 = .ok (.iload_n 3, 1) := by decide +kernel
theorem dX5_matches_49 : decode cX5_matches 49 = .ok (.aaload, 1) := by decide +kernel
theorem dX5_matches_50 : decode cX5_matches 50 = .ok (.invokevirtual 136, 3) := by decide +kernel
theorem dX5_matches_53 : decode cX5_matches 53 = .ok (.ifCond .eq 5, 3) := by decide +kernel
theorem dX5_matches_56 : decode cX5_matches 56 = .ok (.iconst 1, 1) := by decide +kernel
theorem dX5_matches_57 : decode cX5_matches 57 = .ok (.ireturn, 1) := by decide +kernel
theorem dX5_matches_58 : decode cX5_matches 58 = .ok (.iinc 3 1, 3) := by decide +kernel
theorem dX5_matches_61 : decode cX5_matches 61 = .ok (.goto (-40), 3) := by decide +kernel
theorem dX5_matches_64 : decode cX5_matches 64 = .ok (.iinc 2 1, 3) := by decide +kernel
theorem dX5_matches_67 : decode cX5_matches 67 = .ok (.goto (-65), 3) := by decide +kernel
theorem dX5_matches_70 : decode cX5_matches 70 = .ok (.iconst 0, 1) := by decide +kernel
theorem dX5_matches_71 : decode cX5_matches 71 = .ok (.ireturn, 1) := by decide +kernel
theorem dX6_init_0 : decode cX6_init 0 = .ok (.aload_n 0, 1) := by decide +kernel
theorem dX6_init_1 : decode cX6_init 1 = .ok (.invokespecial 3, 3) := by decide +kernel
theorem dX6_init_4 : decode cX6_init 4 = .ok (.aload_n 0, 1) := by decide +kernel
theorem dX6_init_5 : decode cX6_init 5 = .ok (.iconst 0, 1) := by decide +kernel
theorem dX6_init_6 : decode cX6_init 6 = .ok (.putfield 9, 3) := by decide +kernel
theorem dX6_init_9 : decode cX6_init 9 = .ok (.aload_n 0, 1) := by decide +kernel
theorem dX6_init_10 : decode cX6_init 10 = .ok (.iconst (-1), 1) := by decide +kernel
theorem dX6_init_11 : decode cX6_init 11 = .ok (.putfield 15, 3) := by decide +kernel
theorem dX6_init_14 : decode cX6_init 14 = .ok (.return_, 1) := by decide +kernel
theorem dX6_become_0 : decode cX6_become 0 = .ok (.aload_n 0, 1) := by decide +kernel
theorem dX6_become_1 : decode cX6_become 1 = .ok (.iload_n 1, 1) := by decide +kernel
theorem dX6_become_2 : decode cX6_become 2 = .ok (.putfield 9, 3) := by decide +kernel
theorem dX6_become_5 : decode cX6_become 5 = .ok (.aload_n 0, 1) := by decide +kernel
theorem dX6_become_6 : decode cX6_become 6 = .ok (.iconst (-1), 1) := by decide +kernel
theorem dX6_become_7 : decode cX6_become 7 = .ok (.putfield 15, 3) := by decide +kernel
theorem dX6_become_10 : decode cX6_become 10 = .ok (.return_, 1) := by decide +kernel
theorem dX6_claimFor_0 : decode cX6_claimFor 0 = .ok (.aload_n 0, 1) := by decide +kernel
theorem dX6_claimFor_1 : decode cX6_claimFor 1 = .ok (.iconst 2, 1) := by decide +kernel
theorem dX6_claimFor_2 : decode cX6_claimFor 2 = .ok (.putfield 9, 3) := by decide +kernel
theorem dX6_claimFor_5 : decode cX6_claimFor 5 = .ok (.aload_n 0, 1) := by decide +kernel
theorem dX6_claimFor_6 : decode cX6_claimFor 6 = .ok (.iload_n 1, 1) := by decide +kernel
theorem dX6_claimFor_7 : decode cX6_claimFor 7 = .ok (.putfield 15, 3) := by decide +kernel
theorem dX6_claimFor_10 : decode cX6_claimFor 10 = .ok (.return_, 1) := by decide +kernel
theorem dX6_isAt_0 : decode cX6_isAt 0 = .ok (.aload_n 0, 1) := by decide +kernel
theorem dX6_isAt_1 : decode cX6_isAt 1 = .ok (.getfield 9, 3) := by decide +kernel
theorem dX6_isAt_4 : decode cX6_isAt 4 = .ok (.iload_n 1, 1) := by decide +kernel
theorem dX6_isAt_5 : decode cX6_isAt 5 = .ok (.if_icmp .ne 15, 3) := by decide +kernel
theorem dX6_isAt_8 : decode cX6_isAt 8 = .ok (.aload_n 0, 1) := by decide +kernel
theorem dX6_isAt_9 : decode cX6_isAt 9 = .ok (.getfield 18, 3) := by decide +kernel
theorem dX6_isAt_12 : decode cX6_isAt 12 = .ok (.iload_n 2, 1) := by decide +kernel
theorem dX6_isAt_13 : decode cX6_isAt 13 = .ok (.if_icmp .ne 7, 3) := by decide +kernel
theorem dX6_isAt_16 : decode cX6_isAt 16 = .ok (.iconst 1, 1) := by decide +kernel
theorem dX6_isAt_17 : decode cX6_isAt 17 = .ok (.goto 4, 3) := by decide +kernel
theorem dX6_isAt_20 : decode cX6_isAt 20 = .ok (.iconst 0, 1) := by decide +kernel
theorem dX6_isAt_21 : decode cX6_isAt 21 = .ok (.ireturn, 1) := by decide +kernel
theorem dX6_isSettled_0 : decode cX6_isSettled 0 = .ok (.aload_n 0, 1) := by decide +kernel
theorem dX6_isSettled_1 : decode cX6_isSettled 1 = .ok (.getfield 9, 3) := by decide +kernel
theorem dX6_isSettled_4 : decode cX6_isSettled 4 = .ok (.iconst 3, 1) := by decide +kernel
theorem dX6_isSettled_5 : decode cX6_isSettled 5 = .ok (.if_icmp .eq 11, 3) := by decide +kernel
theorem dX6_isSettled_8 : decode cX6_isSettled 8 = .ok (.aload_n 0, 1) := by decide +kernel
theorem dX6_isSettled_9 : decode cX6_isSettled 9 = .ok (.getfield 9, 3) := by decide +kernel
theorem dX6_isSettled_12 : decode cX6_isSettled 12 = .ok (.iconst 4, 1) := by decide +kernel
theorem dX6_isSettled_13 : decode cX6_isSettled 13 = .ok (.if_icmp .ne 7, 3) := by decide +kernel
theorem dX6_isSettled_16 : decode cX6_isSettled 16 = .ok (.iconst 1, 1) := by decide +kernel
theorem dX6_isSettled_17 : decode cX6_isSettled 17 = .ok (.goto 4, 3) := by decide +kernel
theorem dX6_isSettled_20 : decode cX6_isSettled 20 = .ok (.iconst 0, 1) := by decide +kernel
theorem dX6_isSettled_21 : decode cX6_isSettled 21 = .ok (.ireturn, 1) := by decide +kernel
theorem dX6_part_0 : decode cX6_part 0 = .ok (.iload_n 1, 1) := by decide +kernel
theorem dX6_part_1 : decode cX6_part 1 = .ok (.tableswitch 42 0 2 #[27, 32, 37], 27) := by decide +kernel
theorem dX6_part_28 : decode cX6_part 28 = .ok (.aload_n 0, 1) := by decide +kernel
theorem dX6_part_29 : decode cX6_part 29 = .ok (.getfield 9, 3) := by decide +kernel
theorem dX6_part_32 : decode cX6_part 32 = .ok (.ireturn, 1) := by decide +kernel
theorem dX6_part_33 : decode cX6_part 33 = .ok (.aload_n 0, 1) := by decide +kernel
theorem dX6_part_34 : decode cX6_part 34 = .ok (.getfield 18, 3) := by decide +kernel
theorem dX6_part_37 : decode cX6_part 37 = .ok (.ireturn, 1) := by decide +kernel
theorem dX6_part_38 : decode cX6_part 38 = .ok (.aload_n 0, 1) := by decide +kernel
theorem dX6_part_39 : decode cX6_part 39 = .ok (.getfield 15, 3) := by decide +kernel
theorem dX6_part_42 : decode cX6_part 42 = .ok (.ireturn, 1) := by decide +kernel
theorem dX6_part_43 : decode cX6_part 43 = .ok (.iconst (-1), 1) := by decide +kernel
theorem dX6_part_44 : decode cX6_part 44 = .ok (.ireturn, 1) := by decide +kernel
theorem dX7_init_0 : decode cX7_init 0 = .ok (.aload_n 0, 1) := by decide +kernel
theorem dX7_init_1 : decode cX7_init 1 = .ok (.invokespecial 3, 3) := by decide +kernel
theorem dX7_init_4 : decode cX7_init 4 = .ok (.iconst 2, 1) := by decide +kernel
theorem dX7_init_5 : decode cX7_init 5 = .ok (.bipush 16, 2) := by decide +kernel
theorem dX7_init_7 : decode cX7_init 7 = .ok (.iload_n 1, 1) := by decide +kernel
theorem dX7_init_8 : decode cX7_init 8 = .ok (.invokestatic 9, 3) := by decide +kernel
theorem dX7_init_11 : decode cX7_init 11 = .ok (.invokestatic 15, 3) := by decide +kernel
theorem dX7_init_14 : decode cX7_init 14 = .ok (.istore_n 2, 1) := by decide +kernel
theorem dX7_init_15 : decode cX7_init 15 = .ok (.aload_n 0, 1) := by decide +kernel
theorem dX7_init_16 : decode cX7_init 16 = .ok (.iload_n 2, 1) := by decide +kernel
theorem dX7_init_17 : decode cX7_init 17 = .ok (.anewarray 18, 3) := by decide +kernel
theorem dX7_init_20 : decode cX7_init 20 = .ok (.putfield 20, 3) := by decide +kernel
theorem dX7_init_23 : decode cX7_init 23 = .ok (.iconst 0, 1) := by decide +kernel
theorem dX7_init_24 : decode cX7_init 24 = .ok (.istore_n 3, 1) := by decide +kernel
theorem dX7_init_25 : decode cX7_init 25 = .ok (.iload_n 3, 1) := by decide +kernel
theorem dX7_init_26 : decode cX7_init 26 = .ok (.iload_n 2, 1) := by decide +kernel
theorem dX7_init_27 : decode cX7_init 27 = .ok (.if_icmp .ge 23, 3) := by decide +kernel
theorem dX7_init_30 : decode cX7_init 30 = .ok (.aload_n 0, 1) := by decide +kernel
theorem dX7_init_31 : decode cX7_init 31 = .ok (.getfield 20, 3) := by decide +kernel
theorem dX7_init_34 : decode cX7_init 34 = .ok (.iload_n 3, 1) := by decide +kernel
theorem dX7_init_35 : decode cX7_init 35 = .ok (.new 18, 3) := by decide +kernel
theorem dX7_init_38 : decode cX7_init 38 = .ok (.dup, 1) := by decide +kernel
theorem dX7_init_39 : decode cX7_init 39 = .ok (.iload_n 3, 1) := by decide +kernel
theorem dX7_init_40 : decode cX7_init 40 = .ok (.invokespecial 24, 3) := by decide +kernel
theorem dX7_init_43 : decode cX7_init 43 = .ok (.aastore, 1) := by decide +kernel
theorem dX7_init_44 : decode cX7_init 44 = .ok (.iinc 3 1, 3) := by decide +kernel
theorem dX7_init_47 : decode cX7_init 47 = .ok (.goto (-22), 3) := by decide +kernel
theorem dX7_init_50 : decode cX7_init 50 = .ok (.aload_n 0, 1) := by decide +kernel
theorem dX7_init_51 : decode cX7_init 51 = .ok (.bipush 8, 2) := by decide +kernel
theorem dX7_init_53 : decode cX7_init 53 = .ok (.anewarray 27, 3) := by decide +kernel
theorem dX7_init_56 : decode cX7_init 56 = .ok (.putfield 29, 3) := by decide +kernel
theorem dX7_init_59 : decode cX7_init 59 = .ok (.iconst 0, 1) := by decide +kernel
theorem dX7_init_60 : decode cX7_init 60 = .ok (.istore_n 3, 1) := by decide +kernel
theorem dX7_init_61 : decode cX7_init 61 = .ok (.iload_n 3, 1) := by decide +kernel
theorem dX7_init_62 : decode cX7_init 62 = .ok (.bipush 8, 2) := by decide +kernel
theorem dX7_init_64 : decode cX7_init 64 = .ok (.if_icmp .ge 22, 3) := by decide +kernel
theorem dX7_init_67 : decode cX7_init 67 = .ok (.aload_n 0, 1) := by decide +kernel
theorem dX7_init_68 : decode cX7_init 68 = .ok (.getfield 29, 3) := by decide +kernel
theorem dX7_init_71 : decode cX7_init 71 = .ok (.iload_n 3, 1) := by decide +kernel
theorem dX7_init_72 : decode cX7_init 72 = .ok (.new 27, 3) := by decide +kernel
theorem dX7_init_75 : decode cX7_init 75 = .ok (.dup, 1) := by decide +kernel
theorem dX7_init_76 : decode cX7_init 76 = .ok (.invokespecial 33, 3) := by decide +kernel
theorem dX7_init_79 : decode cX7_init 79 = .ok (.aastore, 1) := by decide +kernel
theorem dX7_init_80 : decode cX7_init 80 = .ok (.iinc 3 1, 3) := by decide +kernel
theorem dX7_init_83 : decode cX7_init 83 = .ok (.goto (-22), 3) := by decide +kernel
theorem dX7_init_86 : decode cX7_init 86 = .ok (.aload_n 0, 1) := by decide +kernel
theorem dX7_init_87 : decode cX7_init 87 = .ok (.new 34, 3) := by decide +kernel
theorem dX7_init_90 : decode cX7_init 90 = .ok (.dup, 1) := by decide +kernel
theorem dX7_init_91 : decode cX7_init 91 = .ok (.invokespecial 36, 3) := by decide +kernel
theorem dX7_init_94 : decode cX7_init 94 = .ok (.putfield 37, 3) := by decide +kernel
theorem dX7_init_97 : decode cX7_init 97 = .ok (.return_, 1) := by decide +kernel
theorem dX7_spawn_0 : decode cX7_spawn 0 = .ok (.aload_n 0, 1) := by decide +kernel
theorem dX7_spawn_1 : decode cX7_spawn 1 = .ok (.iload_n 1, 1) := by decide +kernel
theorem dX7_spawn_2 : decode cX7_spawn 2 = .ok (.iconst 0, 1) := by decide +kernel
theorem dX7_spawn_3 : decode cX7_spawn 3 = .ok (.invokevirtual 41, 3) := by decide +kernel
theorem dX7_spawn_6 : decode cX7_spawn 6 = .ok (.astore_n 2, 1) := by decide +kernel
theorem dX7_spawn_7 : decode cX7_spawn 7 = .ok (.aload_n 2, 1) := by decide +kernel
theorem dX7_spawn_8 : decode cX7_spawn 8 = .ok (.ifnonnull 5, 3) := by decide +kernel
theorem dX7_spawn_11 : decode cX7_spawn 11 = .ok (.iconst 0, 1) := by decide +kernel
theorem dX7_spawn_12 : decode cX7_spawn 12 = .ok (.ireturn, 1) := by decide +kernel
theorem dX7_spawn_13 : decode cX7_spawn 13 = .ok (.aload_n 2, 1) := by decide +kernel
theorem dX7_spawn_14 : decode cX7_spawn 14 = .ok (.invokevirtual 45, 3) := by decide +kernel
theorem dX7_spawn_17 : decode cX7_spawn 17 = .ok (.iconst 1, 1) := by decide +kernel
theorem dX7_spawn_18 : decode cX7_spawn 18 = .ok (.ireturn, 1) := by decide +kernel
theorem dX7_quit_0 : decode cX7_quit 0 = .ok (.aload_n 0, 1) := by decide +kernel
theorem dX7_quit_1 : decode cX7_quit 1 = .ok (.iload_n 1, 1) := by decide +kernel
theorem dX7_quit_2 : decode cX7_quit 2 = .ok (.iconst 1, 1) := by decide +kernel
theorem dX7_quit_3 : decode cX7_quit 3 = .ok (.invokevirtual 41, 3) := by decide +kernel
theorem dX7_quit_6 : decode cX7_quit 6 = .ok (.astore_n 2, 1) := by decide +kernel
theorem dX7_quit_7 : decode cX7_quit 7 = .ok (.aload_n 2, 1) := by decide +kernel
theorem dX7_quit_8 : decode cX7_quit 8 = .ok (.ifnonnull 5, 3) := by decide +kernel
theorem dX7_quit_11 : decode cX7_quit 11 = .ok (.iconst 0, 1) := by decide +kernel
theorem dX7_quit_12 : decode cX7_quit 12 = .ok (.ireturn, 1) := by decide +kernel
theorem dX7_quit_13 : decode cX7_quit 13 = .ok (.aload_n 2, 1) := by decide +kernel
theorem dX7_quit_14 : decode cX7_quit 14 = .ok (.iconst 0, 1) := by decide +kernel
theorem dX7_quit_15 : decode cX7_quit 15 = .ok (.putfield 48, 3) := by decide +kernel
theorem dX7_quit_18 : decode cX7_quit 18 = .ok (.iconst 1, 1) := by decide +kernel
theorem dX7_quit_19 : decode cX7_quit 19 = .ok (.ireturn, 1) := by decide +kernel
theorem dX7_guard_0 : decode cX7_guard 0 = .ok (.aload_n 0, 1) := by decide +kernel
theorem dX7_guard_1 : decode cX7_guard 1 = .ok (.iload_n 1, 1) := by decide +kernel
theorem dX7_guard_2 : decode cX7_guard 2 = .ok (.iconst 1, 1) := by decide +kernel
theorem dX7_guard_3 : decode cX7_guard 3 = .ok (.invokevirtual 41, 3) := by decide +kernel
theorem dX7_guard_6 : decode cX7_guard 6 = .ok (.astore 6, 2) := by decide +kernel
theorem dX7_guard_8 : decode cX7_guard 8 = .ok (.aload 6, 2) := by decide +kernel
theorem dX7_guard_10 : decode cX7_guard 10 = .ok (.ifnull 20, 3) := by decide +kernel
theorem dX7_guard_13 : decode cX7_guard 13 = .ok (.iload_n 2, 1) := by decide +kernel
theorem dX7_guard_14 : decode cX7_guard 14 = .ok (.ifCond .eq 8, 3) := by decide +kernel
theorem dX7_guard_17 : decode cX7_guard 17 = .ok (.iload_n 2, 1) := by decide +kernel
theorem dX7_guard_18 : decode cX7_guard 18 = .ok (.iconst 1, 1) := by decide +kernel
theorem dX7_guard_19 : decode cX7_guard 19 = .ok (.if_icmp .ne 11, 3) := by decide +kernel
theorem dX7_guard_22 : decode cX7_guard 22 = .ok (.aload_n 0, 1) := by decide +kernel
theorem dX7_guard_23 : decode cX7_guard 23 = .ok (.iload_n 3, 1) := by decide +kernel
theorem dX7_guard_24 : decode cX7_guard 24 = .ok (.invokevirtual 52, 3) := by decide +kernel
theorem dX7_guard_27 : decode cX7_guard 27 = .ok (.ifnonnull 5, 3) := by decide +kernel
theorem dX7_guard_30 : decode cX7_guard 30 = .ok (.iconst 0, 1) := by decide +kernel
theorem dX7_guard_31 : decode cX7_guard 31 = .ok (.ireturn, 1) := by decide +kernel
theorem dX7_guard_32 : decode cX7_guard 32 = .ok (.aload 6, 2) := by decide +kernel
theorem dX7_guard_34 : decode cX7_guard 34 = .ok (.iload_n 2, 1) := by decide +kernel
theorem dX7_guard_35 : decode cX7_guard 35 = .ok (.iload_n 3, 1) := by decide +kernel
theorem dX7_guard_36 : decode cX7_guard 36 = .ok (.iload 4, 2) := by decide +kernel
theorem dX7_guard_38 : decode cX7_guard 38 = .ok (.iload 5, 2) := by decide +kernel
theorem dX7_guard_40 : decode cX7_guard 40 = .ok (.invokevirtual 56, 3) := by decide +kernel
theorem dX7_guard_43 : decode cX7_guard 43 = .ok (.ireturn, 1) := by decide +kernel
theorem dX7_timeout_0 : decode cX7_timeout 0 = .ok (.aload_n 0, 1) := by decide +kernel
theorem dX7_timeout_1 : decode cX7_timeout 1 = .ok (.iload_n 1, 1) := by decide +kernel
theorem dX7_timeout_2 : decode cX7_timeout 2 = .ok (.iconst 1, 1) := by decide +kernel
theorem dX7_timeout_3 : decode cX7_timeout 3 = .ok (.invokevirtual 41, 3) := by decide +kernel
theorem dX7_timeout_6 : decode cX7_timeout 6 = .ok (.astore_n 3, 1) := by decide +kernel
theorem dX7_timeout_7 : decode cX7_timeout 7 = .ok (.aload_n 3, 1) := by decide +kernel
theorem dX7_timeout_8 : decode cX7_timeout 8 = .ok (.ifnull 14, 3) := by decide +kernel
theorem dX7_timeout_11 : decode cX7_timeout 11 = .ok (.iload_n 2, 1) := by decide +kernel
theorem dX7_timeout_12 : decode cX7_timeout 12 = .ok (.ifCond .lt 10, 3) := by decide +kernel
theorem dX7_timeout_15 : decode cX7_timeout 15 = .ok (.iload_n 2, 1) := by decide +kernel
theorem dX7_timeout_16 : decode cX7_timeout 16 = .ok (.sipush 1000, 3) := by decide +kernel
theorem dX7_timeout_19 : decode cX7_timeout 19 = .ok (.if_icmp .le 5, 3) := by decide +kernel
theorem dX7_timeout_22 : decode cX7_timeout 22 = .ok (.iconst 0, 1) := by decide +kernel
theorem dX7_timeout_23 : decode cX7_timeout 23 = .ok (.ireturn, 1) := by decide +kernel
theorem dX7_timeout_24 : decode cX7_timeout 24 = .ok (.aload_n 3, 1) := by decide +kernel
theorem dX7_timeout_25 : decode cX7_timeout 25 = .ok (.iload_n 2, 1) := by decide +kernel
theorem dX7_timeout_26 : decode cX7_timeout 26 = .ok (.putfield 60, 3) := by decide +kernel
theorem dX7_timeout_29 : decode cX7_timeout 29 = .ok (.iconst 1, 1) := by decide +kernel
theorem dX7_timeout_30 : decode cX7_timeout 30 = .ok (.ireturn, 1) := by decide +kernel
theorem dX7_offer_0 : decode cX7_offer 0 = .ok (.aload_n 0, 1) := by decide +kernel
theorem dX7_offer_1 : decode cX7_offer 1 = .ok (.iload_n 1, 1) := by decide +kernel
theorem dX7_offer_2 : decode cX7_offer 2 = .ok (.iconst 1, 1) := by decide +kernel
theorem dX7_offer_3 : decode cX7_offer 3 = .ok (.invokevirtual 41, 3) := by decide +kernel
theorem dX7_offer_6 : decode cX7_offer 6 = .ok (.astore_n 2, 1) := by decide +kernel
theorem dX7_offer_7 : decode cX7_offer 7 = .ok (.aload_n 2, 1) := by decide +kernel
theorem dX7_offer_8 : decode cX7_offer 8 = .ok (.ifnull 16, 3) := by decide +kernel
theorem dX7_offer_11 : decode cX7_offer 11 = .ok (.aload_n 2, 1) := by decide +kernel
theorem dX7_offer_12 : decode cX7_offer 12 = .ok (.getfield 63, 3) := by decide +kernel
theorem dX7_offer_15 : decode cX7_offer 15 = .ok (.getfield 67, 3) := by decide +kernel
theorem dX7_offer_18 : decode cX7_offer 18 = .ok (.sipush 1000, 3) := by decide +kernel
theorem dX7_offer_21 : decode cX7_offer 21 = .ok (.if_icmp .lt 5, 3) := by decide +kernel
theorem dX7_offer_24 : decode cX7_offer 24 = .ok (.iconst 0, 1) := by decide +kernel
theorem dX7_offer_25 : decode cX7_offer 25 = .ok (.ireturn, 1) := by decide +kernel
theorem dX7_offer_26 : decode cX7_offer 26 = .ok (.aload_n 2, 1) := by decide +kernel
theorem dX7_offer_27 : decode cX7_offer 27 = .ok (.aload_n 0, 1) := by decide +kernel
theorem dX7_offer_28 : decode cX7_offer 28 = .ok (.getfield 72, 3) := by decide +kernel
theorem dX7_offer_31 : decode cX7_offer 31 = .ok (.invokevirtual 75, 3) := by decide +kernel
theorem dX7_offer_34 : decode cX7_offer 34 = .ok (.iconst 1, 1) := by decide +kernel
theorem dX7_offer_35 : decode cX7_offer 35 = .ok (.ireturn, 1) := by decide +kernel
theorem dX7_step_0 : decode cX7_step 0 = .ok (.aload_n 0, 1) := by decide +kernel
theorem dX7_step_1 : decode cX7_step 1 = .ok (.iload_n 1, 1) := by decide +kernel
theorem dX7_step_2 : decode cX7_step 2 = .ok (.invokevirtual 78, 3) := by decide +kernel
theorem dX7_step_5 : decode cX7_step 5 = .ok (.astore_n 2, 1) := by decide +kernel
theorem dX7_step_6 : decode cX7_step 6 = .ok (.aload_n 2, 1) := by decide +kernel
theorem dX7_step_7 : decode cX7_step 7 = .ok (.ifnonnull 5, 3) := by decide +kernel
theorem dX7_step_10 : decode cX7_step 10 = .ok (.iconst (-1), 1) := by decide +kernel
theorem dX7_step_11 : decode cX7_step 11 = .ok (.ireturn, 1) := by decide +kernel
theorem dX7_step_12 : decode cX7_step 12 = .ok (.aload_n 2, 1) := by decide +kernel
theorem dX7_step_13 : decode cX7_step 13 = .ok (.invokevirtual 82, 3) := by decide +kernel
theorem dX7_step_16 : decode cX7_step 16 = .ok (.ifCond .eq 8, 3) := by decide +kernel
theorem dX7_step_19 : decode cX7_step 19 = .ok (.aload_n 0, 1) := by decide +kernel
theorem dX7_step_20 : decode cX7_step 20 = .ok (.aload_n 2, 1) := by decide +kernel
theorem dX7_step_21 : decode cX7_step 21 = .ok (.invokevirtual 86, 3) := by decide +kernel
theorem dX7_step_24 : decode cX7_step 24 = .ok (.aload_n 2, 1) := by decide +kernel
theorem dX7_step_25 : decode cX7_step 25 = .ok (.invokevirtual 90, 3) := by decide +kernel
theorem dX7_step_28 : decode cX7_step 28 = .ok (.ireturn, 1) := by decide +kernel
theorem dX7_cancel_0 : decode cX7_cancel 0 = .ok (.aload_n 0, 1) := by decide +kernel
theorem dX7_cancel_1 : decode cX7_cancel 1 = .ok (.iload_n 1, 1) := by decide +kernel
theorem dX7_cancel_2 : decode cX7_cancel 2 = .ok (.invokevirtual 78, 3) := by decide +kernel
theorem dX7_cancel_5 : decode cX7_cancel 5 = .ok (.astore_n 2, 1) := by decide +kernel
theorem dX7_cancel_6 : decode cX7_cancel 6 = .ok (.aload_n 2, 1) := by decide +kernel
theorem dX7_cancel_7 : decode cX7_cancel 7 = .ok (.ifnull 21, 3) := by decide +kernel
theorem dX7_cancel_10 : decode cX7_cancel 10 = .ok (.aload_n 2, 1) := by decide +kernel
theorem dX7_cancel_11 : decode cX7_cancel 11 = .ok (.invokevirtual 82, 3) := by decide +kernel
theorem dX7_cancel_14 : decode cX7_cancel 14 = .ok (.ifCond .eq 14, 3) := by decide +kernel
theorem dX7_cancel_17 : decode cX7_cancel 17 = .ok (.aload_n 2, 1) := by decide +kernel
theorem dX7_cancel_18 : decode cX7_cancel 18 = .ok (.getfield 63, 3) := by decide +kernel
theorem dX7_cancel_21 : decode cX7_cancel 21 = .ok (.getfield 94, 3) := by decide +kernel
theorem dX7_cancel_24 : decode cX7_cancel 24 = .ok (.iconst 1, 1) := by decide +kernel
theorem dX7_cancel_25 : decode cX7_cancel 25 = .ok (.if_icmp .eq 5, 3) := by decide +kernel
theorem dX7_cancel_28 : decode cX7_cancel 28 = .ok (.iconst 0, 1) := by decide +kernel
theorem dX7_cancel_29 : decode cX7_cancel 29 = .ok (.ireturn, 1) := by decide +kernel
theorem dX7_cancel_30 : decode cX7_cancel 30 = .ok (.aload_n 0, 1) := by decide +kernel
theorem dX7_cancel_31 : decode cX7_cancel 31 = .ok (.aload_n 2, 1) := by decide +kernel
theorem dX7_cancel_32 : decode cX7_cancel 32 = .ok (.iconst 5, 1) := by decide +kernel
theorem dX7_cancel_33 : decode cX7_cancel 33 = .ok (.invokevirtual 97, 3) := by decide +kernel
theorem dX7_cancel_36 : decode cX7_cancel 36 = .ok (.aload_n 2, 1) := by decide +kernel
theorem dX7_cancel_37 : decode cX7_cancel 37 = .ok (.invokevirtual 101, 3) := by decide +kernel
theorem dX7_cancel_40 : decode cX7_cancel 40 = .ok (.ifCond .ne 7, 3) := by decide +kernel
theorem dX7_cancel_43 : decode cX7_cancel 43 = .ok (.aload_n 2, 1) := by decide +kernel
theorem dX7_cancel_44 : decode cX7_cancel 44 = .ok (.invokevirtual 104, 3) := by decide +kernel
theorem dX7_cancel_47 : decode cX7_cancel 47 = .ok (.iconst 1, 1) := by decide +kernel
theorem dX7_cancel_48 : decode cX7_cancel 48 = .ok (.ireturn, 1) := by decide +kernel
theorem dX7_finish_0 : decode cX7_finish 0 = .ok (.aload_n 0, 1) := by decide +kernel
theorem dX7_finish_1 : decode cX7_finish 1 = .ok (.iload_n 1, 1) := by decide +kernel
theorem dX7_finish_2 : decode cX7_finish 2 = .ok (.bipush 12, 2) := by decide +kernel
theorem dX7_finish_4 : decode cX7_finish 4 = .ok (.invokevirtual 41, 3) := by decide +kernel
theorem dX7_finish_7 : decode cX7_finish 7 = .ok (.astore_n 2, 1) := by decide +kernel
theorem dX7_finish_8 : decode cX7_finish 8 = .ok (.aload_n 2, 1) := by decide +kernel
theorem dX7_finish_9 : decode cX7_finish 9 = .ok (.ifnonnull 5, 3) := by decide +kernel
theorem dX7_finish_12 : decode cX7_finish 12 = .ok (.iconst 0, 1) := by decide +kernel
theorem dX7_finish_13 : decode cX7_finish 13 = .ok (.ireturn, 1) := by decide +kernel
theorem dX7_finish_14 : decode cX7_finish 14 = .ok (.aload_n 2, 1) := by decide +kernel
theorem dX7_finish_15 : decode cX7_finish 15 = .ok (.getfield 63, 3) := by decide +kernel
theorem dX7_finish_18 : decode cX7_finish 18 = .ok (.iconst 0, 1) := by decide +kernel
theorem dX7_finish_19 : decode cX7_finish 19 = .ok (.invokevirtual 107, 3) := by decide +kernel
theorem dX7_finish_22 : decode cX7_finish 22 = .ok (.aload_n 2, 1) := by decide +kernel
theorem dX7_finish_23 : decode cX7_finish 23 = .ok (.invokevirtual 45, 3) := by decide +kernel
theorem dX7_finish_26 : decode cX7_finish 26 = .ok (.iconst 1, 1) := by decide +kernel
theorem dX7_finish_27 : decode cX7_finish 27 = .ok (.ireturn, 1) := by decide +kernel
theorem dX7_tick_0 : decode cX7_tick 0 = .ok (.aload_n 0, 1) := by decide +kernel
theorem dX7_tick_1 : decode cX7_tick 1 = .ok (.dup, 1) := by decide +kernel
theorem dX7_tick_2 : decode cX7_tick 2 = .ok (.getfield 72, 3) := by decide +kernel
theorem dX7_tick_5 : decode cX7_tick 5 = .ok (.iconst 1, 1) := by decide +kernel
theorem dX7_tick_6 : decode cX7_tick 6 = .ok (.iadd, 1) := by decide +kernel
theorem dX7_tick_7 : decode cX7_tick 7 = .ok (.putfield 72, 3) := by decide +kernel
theorem dX7_tick_10 : decode cX7_tick 10 = .ok (.aload_n 0, 1) := by decide +kernel
theorem dX7_tick_11 : decode cX7_tick 11 = .ok (.getfield 72, 3) := by decide +kernel
theorem dX7_tick_14 : decode cX7_tick 14 = .ok (.ireturn, 1) := by decide +kernel
theorem dX7_run_0 : decode cX7_run 0 = .ok (.aload_n 0, 1) := by decide +kernel
theorem dX7_run_1 : decode cX7_run 1 = .ok (.getfield 20, 3) := by decide +kernel
theorem dX7_run_4 : decode cX7_run 4 = .ok (.arraylength, 1) := by decide +kernel
theorem dX7_run_5 : decode cX7_run 5 = .ok (.istore_n 3, 1) := by decide +kernel
theorem dX7_run_6 : decode cX7_run 6 = .ok (.iload_n 1, 1) := by decide +kernel
theorem dX7_run_7 : decode cX7_run 7 = .ok (.ifCond .lt 14, 3) := by decide +kernel
theorem dX7_run_10 : decode cX7_run 10 = .ok (.iload_n 1, 1) := by decide +kernel
theorem dX7_run_11 : decode cX7_run 11 = .ok (.sipush 5000, 3) := by decide +kernel
theorem dX7_run_14 : decode cX7_run 14 = .ok (.if_icmp .gt 7, 3) := by decide +kernel
theorem dX7_run_17 : decode cX7_run 17 = .ok (.iload_n 3, 1) := by decide +kernel
theorem dX7_run_18 : decode cX7_run 18 = .ok (.ifCond .ne 5, 3) := by decide +kernel
theorem dX7_run_21 : decode cX7_run 21 = .ok (.iconst (-1), 1) := by decide +kernel
theorem dX7_run_22 : decode cX7_run 22 = .ok (.ireturn, 1) := by decide +kernel
theorem dX7_run_23 : decode cX7_run 23 = .ok (.aload_n 0, 1) := by decide +kernel
theorem dX7_run_24 : decode cX7_run 24 = .ok (.getfield 37, 3) := by decide +kernel
theorem dX7_run_27 : decode cX7_run 27 = .ok (.getfield 110, 3) := by decide +kernel
theorem dX7_run_30 : decode cX7_run 30 = .ok (.istore 4, 2) := by decide +kernel
theorem dX7_run_32 : decode cX7_run 32 = .ok (.iload_n 2, 1) := by decide +kernel
theorem dX7_run_33 : decode cX7_run 33 = .ok (.istore 5, 2) := by decide +kernel
theorem dX7_run_35 : decode cX7_run 35 = .ok (.iconst 0, 1) := by decide +kernel
theorem dX7_run_36 : decode cX7_run 36 = .ok (.istore 6, 2) := by decide +kernel
theorem dX7_run_38 : decode cX7_run 38 = .ok (.iload 6, 2) := by decide +kernel
theorem dX7_run_40 : decode cX7_run 40 = .ok (.iload_n 1, 1) := by decide +kernel
theorem dX7_run_41 : decode cX7_run 41 = .ok (.if_icmp .ge 52, 3) := by decide +kernel
theorem dX7_run_44 : decode cX7_run 44 = .ok (.iload 5, 2) := by decide +kernel
theorem dX7_run_46 : decode cX7_run 46 = .ok (.ldc 113, 2) := by decide +kernel
theorem dX7_run_48 : decode cX7_run 48 = .ok (.imul, 1) := by decide +kernel
theorem dX7_run_49 : decode cX7_run 49 = .ok (.sipush 12345, 3) := by decide +kernel
theorem dX7_run_52 : decode cX7_run 52 = .ok (.iadd, 1) := by decide +kernel
theorem dX7_run_53 : decode cX7_run 53 = .ok (.istore 5, 2) := by decide +kernel
theorem dX7_run_55 : decode cX7_run 55 = .ok (.aload_n 0, 1) := by decide +kernel
theorem dX7_run_56 : decode cX7_run 56 = .ok (.iload 5, 2) := by decide +kernel
theorem dX7_run_58 : decode cX7_run 58 = .ok (.bipush 16, 2) := by decide +kernel
theorem dX7_run_60 : decode cX7_run 60 = .ok (.iushr, 1) := by decide +kernel
theorem dX7_run_61 : decode cX7_run 61 = .ok (.iload_n 3, 1) := by decide +kernel
theorem dX7_run_62 : decode cX7_run 62 = .ok (.irem, 1) := by decide +kernel
theorem dX7_run_63 : decode cX7_run 63 = .ok (.invokevirtual 78, 3) := by decide +kernel
theorem dX7_run_66 : decode cX7_run 66 = .ok (.astore 7, 2) := by decide +kernel
theorem dX7_run_68 : decode cX7_run 68 = .ok (.aload 7, 2) := by decide +kernel
theorem dX7_run_70 : decode cX7_run 70 = .ok (.ifnull 17, 3) := by decide +kernel
theorem dX7_run_73 : decode cX7_run 73 = .ok (.aload 7, 2) := by decide +kernel
theorem dX7_run_75 : decode cX7_run 75 = .ok (.invokevirtual 82, 3) := by decide +kernel
theorem dX7_run_78 : decode cX7_run 78 = .ok (.ifCond .eq 9, 3) := by decide +kernel
theorem dX7_run_81 : decode cX7_run 81 = .ok (.aload_n 0, 1) := by decide +kernel
theorem dX7_run_82 : decode cX7_run 82 = .ok (.aload 7, 2) := by decide +kernel
theorem dX7_run_84 : decode cX7_run 84 = .ok (.invokevirtual 86, 3) := by decide +kernel
theorem dX7_run_87 : decode cX7_run 87 = .ok (.iinc 6 1, 3) := by decide +kernel
theorem dX7_run_90 : decode cX7_run 90 = .ok (.goto (-52), 3) := by decide +kernel
theorem dX7_run_93 : decode cX7_run 93 = .ok (.aload_n 0, 1) := by decide +kernel
theorem dX7_run_94 : decode cX7_run 94 = .ok (.getfield 37, 3) := by decide +kernel
theorem dX7_run_97 : decode cX7_run 97 = .ok (.getfield 110, 3) := by decide +kernel
theorem dX7_run_100 : decode cX7_run 100 = .ok (.iload 4, 2) := by decide +kernel
theorem dX7_run_102 : decode cX7_run 102 = .ok (.isub, 1) := by decide +kernel
theorem dX7_run_103 : decode cX7_run 103 = .ok (.ireturn, 1) := by decide +kernel
theorem dX7_phase_0 : decode cX7_phase 0 = .ok (.aload_n 0, 1) := by decide +kernel
theorem dX7_phase_1 : decode cX7_phase 1 = .ok (.iload_n 1, 1) := by decide +kernel
theorem dX7_phase_2 : decode cX7_phase 2 = .ok (.invokevirtual 78, 3) := by decide +kernel
theorem dX7_phase_5 : decode cX7_phase 5 = .ok (.astore_n 2, 1) := by decide +kernel
theorem dX7_phase_6 : decode cX7_phase 6 = .ok (.aload_n 2, 1) := by decide +kernel
theorem dX7_phase_7 : decode cX7_phase 7 = .ok (.ifnonnull 7, 3) := by decide +kernel
theorem dX7_phase_10 : decode cX7_phase 10 = .ok (.iconst (-1), 1) := by decide +kernel
theorem dX7_phase_11 : decode cX7_phase 11 = .ok (.goto 7, 3) := by decide +kernel
theorem dX7_phase_14 : decode cX7_phase 14 = .ok (.aload_n 2, 1) := by decide +kernel
theorem dX7_phase_15 : decode cX7_phase 15 = .ok (.getfield 48, 3) := by decide +kernel
theorem dX7_phase_18 : decode cX7_phase 18 = .ok (.ireturn, 1) := by decide +kernel
theorem dX7_word_0 : decode cX7_word 0 = .ok (.aload_n 0, 1) := by decide +kernel
theorem dX7_word_1 : decode cX7_word 1 = .ok (.iload_n 1, 1) := by decide +kernel
theorem dX7_word_2 : decode cX7_word 2 = .ok (.invokevirtual 78, 3) := by decide +kernel
theorem dX7_word_5 : decode cX7_word 5 = .ok (.astore_n 3, 1) := by decide +kernel
theorem dX7_word_6 : decode cX7_word 6 = .ok (.aload_n 3, 1) := by decide +kernel
theorem dX7_word_7 : decode cX7_word 7 = .ok (.ifnonnull 7, 3) := by decide +kernel
theorem dX7_word_10 : decode cX7_word 10 = .ok (.iconst (-1), 1) := by decide +kernel
theorem dX7_word_11 : decode cX7_word 11 = .ok (.goto 11, 3) := by decide +kernel
theorem dX7_word_14 : decode cX7_word 14 = .ok (.aload_n 3, 1) := by decide +kernel
theorem dX7_word_15 : decode cX7_word 15 = .ok (.getfield 63, 3) := by decide +kernel
theorem dX7_word_18 : decode cX7_word 18 = .ok (.iload_n 2, 1) := by decide +kernel
theorem dX7_word_19 : decode cX7_word 19 = .ok (.invokevirtual 114, 3) := by decide +kernel
theorem dX7_word_22 : decode cX7_word 22 = .ok (.ireturn, 1) := by decide +kernel
theorem dX7_outcome_0 : decode cX7_outcome 0 = .ok (.aload_n 0, 1) := by decide +kernel
theorem dX7_outcome_1 : decode cX7_outcome 1 = .ok (.iload_n 1, 1) := by decide +kernel
theorem dX7_outcome_2 : decode cX7_outcome 2 = .ok (.invokevirtual 78, 3) := by decide +kernel
theorem dX7_outcome_5 : decode cX7_outcome 5 = .ok (.astore_n 3, 1) := by decide +kernel
theorem dX7_outcome_6 : decode cX7_outcome 6 = .ok (.aload_n 3, 1) := by decide +kernel
theorem dX7_outcome_7 : decode cX7_outcome 7 = .ok (.ifnonnull 7, 3) := by decide +kernel
theorem dX7_outcome_10 : decode cX7_outcome 10 = .ok (.iconst (-1), 1) := by decide +kernel
theorem dX7_outcome_11 : decode cX7_outcome 11 = .ok (.goto 11, 3) := by decide +kernel
theorem dX7_outcome_14 : decode cX7_outcome 14 = .ok (.aload_n 3, 1) := by decide +kernel
theorem dX7_outcome_15 : decode cX7_outcome 15 = .ok (.getfield 118, 3) := by decide +kernel
theorem dX7_outcome_18 : decode cX7_outcome 18 = .ok (.iload_n 2, 1) := by decide +kernel
theorem dX7_outcome_19 : decode cX7_outcome 19 = .ok (.invokevirtual 122, 3) := by decide +kernel
theorem dX7_outcome_22 : decode cX7_outcome 22 = .ok (.ireturn, 1) := by decide +kernel
theorem dX7_entry_0 : decode cX7_entry 0 = .ok (.aload_n 0, 1) := by decide +kernel
theorem dX7_entry_1 : decode cX7_entry 1 = .ok (.iload_n 1, 1) := by decide +kernel
theorem dX7_entry_2 : decode cX7_entry 2 = .ok (.invokevirtual 52, 3) := by decide +kernel
theorem dX7_entry_5 : decode cX7_entry 5 = .ok (.astore 4, 2) := by decide +kernel
theorem dX7_entry_7 : decode cX7_entry 7 = .ok (.aload 4, 2) := by decide +kernel
theorem dX7_entry_9 : decode cX7_entry 9 = .ok (.ifnonnull 7, 3) := by decide +kernel
theorem dX7_entry_12 : decode cX7_entry 12 = .ok (.aconst_null, 1) := by decide +kernel
theorem dX7_entry_13 : decode cX7_entry 13 = .ok (.goto 9, 3) := by decide +kernel
theorem dX7_entry_16 : decode cX7_entry 16 = .ok (.aload 4, 2) := by decide +kernel
theorem dX7_entry_18 : decode cX7_entry 18 = .ok (.iload_n 2, 1) := by decide +kernel
theorem dX7_entry_19 : decode cX7_entry 19 = .ok (.invokevirtual 125, 3) := by decide +kernel
theorem dX7_entry_22 : decode cX7_entry 22 = .ok (.astore 5, 2) := by decide +kernel
theorem dX7_entry_24 : decode cX7_entry 24 = .ok (.aload 5, 2) := by decide +kernel
theorem dX7_entry_26 : decode cX7_entry 26 = .ok (.ifnonnull 7, 3) := by decide +kernel
theorem dX7_entry_29 : decode cX7_entry 29 = .ok (.iconst (-1), 1) := by decide +kernel
theorem dX7_entry_30 : decode cX7_entry 30 = .ok (.goto 9, 3) := by decide +kernel
theorem dX7_entry_33 : decode cX7_entry 33 = .ok (.aload 5, 2) := by decide +kernel
theorem dX7_entry_35 : decode cX7_entry 35 = .ok (.iload_n 3, 1) := by decide +kernel
theorem dX7_entry_36 : decode cX7_entry 36 = .ok (.invokevirtual 129, 3) := by decide +kernel
theorem dX7_entry_39 : decode cX7_entry 39 = .ok (.ireturn, 1) := by decide +kernel
theorem dX7_pair_0 : decode cX7_pair 0 = .ok (.aload_n 0, 1) := by decide +kernel
theorem dX7_pair_1 : decode cX7_pair 1 = .ok (.getfield 37, 3) := by decide +kernel
theorem dX7_pair_4 : decode cX7_pair 4 = .ok (.iload_n 1, 1) := by decide +kernel
theorem dX7_pair_5 : decode cX7_pair 5 = .ok (.iload_n 2, 1) := by decide +kernel
theorem dX7_pair_6 : decode cX7_pair 6 = .ok (.invokevirtual 132, 3) := by decide +kernel
theorem dX7_pair_9 : decode cX7_pair 9 = .ok (.ireturn, 1) := by decide +kernel
theorem dX7_doubles_0 : decode cX7_doubles 0 = .ok (.aload_n 0, 1) := by decide +kernel
theorem dX7_doubles_1 : decode cX7_doubles 1 = .ok (.getfield 134, 3) := by decide +kernel
theorem dX7_doubles_4 : decode cX7_doubles 4 = .ok (.ireturn, 1) := by decide +kernel
theorem dX7_unmet_0 : decode cX7_unmet 0 = .ok (.iconst 0, 1) := by decide +kernel
theorem dX7_unmet_1 : decode cX7_unmet 1 = .ok (.istore_n 1, 1) := by decide +kernel
theorem dX7_unmet_2 : decode cX7_unmet 2 = .ok (.iconst 0, 1) := by decide +kernel
theorem dX7_unmet_3 : decode cX7_unmet 3 = .ok (.istore_n 2, 1) := by decide +kernel
theorem dX7_unmet_4 : decode cX7_unmet 4 = .ok (.iload_n 2, 1) := by decide +kernel
theorem dX7_unmet_5 : decode cX7_unmet 5 = .ok (.aload_n 0, 1) := by decide +kernel
theorem dX7_unmet_6 : decode cX7_unmet 6 = .ok (.getfield 20, 3) := by decide +kernel
theorem dX7_unmet_9 : decode cX7_unmet 9 = .ok (.arraylength, 1) := by decide +kernel
theorem dX7_unmet_10 : decode cX7_unmet 10 = .ok (.if_icmp .ge 49, 3) := by decide +kernel
theorem dX7_unmet_13 : decode cX7_unmet 13 = .ok (.iload_n 2, 1) := by decide +kernel
theorem dX7_unmet_14 : decode cX7_unmet 14 = .ok (.iconst 1, 1) := by decide +kernel
theorem dX7_unmet_15 : decode cX7_unmet 15 = .ok (.iadd, 1) := by decide +kernel
theorem dX7_unmet_16 : decode cX7_unmet 16 = .ok (.istore_n 3, 1) := by decide +kernel
theorem dX7_unmet_17 : decode cX7_unmet 17 = .ok (.iload_n 3, 1) := by decide +kernel
theorem dX7_unmet_18 : decode cX7_unmet 18 = .ok (.aload_n 0, 1) := by decide +kernel
theorem dX7_unmet_19 : decode cX7_unmet 19 = .ok (.getfield 20, 3) := by decide +kernel
theorem dX7_unmet_22 : decode cX7_unmet 22 = .ok (.arraylength, 1) := by decide +kernel
theorem dX7_unmet_23 : decode cX7_unmet 23 = .ok (.if_icmp .ge 30, 3) := by decide +kernel
theorem dX7_unmet_26 : decode cX7_unmet 26 = .ok (.aload_n 0, 1) := by decide +kernel
theorem dX7_unmet_27 : decode cX7_unmet 27 = .ok (.getfield 20, 3) := by decide +kernel
theorem dX7_unmet_30 : decode cX7_unmet 30 = .ok (.iload_n 2, 1) := by decide +kernel
theorem dX7_unmet_31 : decode cX7_unmet 31 = .ok (.aaload, 1) := by decide +kernel
theorem dX7_unmet_32 : decode cX7_unmet 32 = .ok (.aload_n 0, 1) := by decide +kernel
theorem dX7_unmet_33 : decode cX7_unmet 33 = .ok (.getfield 20, 3) := by decide +kernel
theorem dX7_unmet_36 : decode cX7_unmet 36 = .ok (.iload_n 3, 1) := by decide +kernel
theorem dX7_unmet_37 : decode cX7_unmet 37 = .ok (.aaload, 1) := by decide +kernel
theorem dX7_unmet_38 : decode cX7_unmet 38 = .ok (.invokestatic 137, 3) := by decide +kernel
theorem dX7_unmet_41 : decode cX7_unmet 41 = .ok (.ifCond .eq 6, 3) := by decide +kernel
theorem dX7_unmet_44 : decode cX7_unmet 44 = .ok (.iinc 1 1, 3) := by decide +kernel
theorem dX7_unmet_47 : decode cX7_unmet 47 = .ok (.iinc 3 1, 3) := by decide +kernel
theorem dX7_unmet_50 : decode cX7_unmet 50 = .ok (.goto (-33), 3) := by decide +kernel
theorem dX7_unmet_53 : decode cX7_unmet 53 = .ok (.iinc 2 1, 3) := by decide +kernel
theorem dX7_unmet_56 : decode cX7_unmet 56 = .ok (.goto (-52), 3) := by decide +kernel
theorem dX7_unmet_59 : decode cX7_unmet 59 = .ok (.iload_n 1, 1) := by decide +kernel
theorem dX7_unmet_60 : decode cX7_unmet 60 = .ok (.ireturn, 1) := by decide +kernel
theorem dX7_held_0 : decode cX7_held 0 = .ok (.iconst 0, 1) := by decide +kernel
theorem dX7_held_1 : decode cX7_held 1 = .ok (.istore_n 1, 1) := by decide +kernel
theorem dX7_held_2 : decode cX7_held 2 = .ok (.iconst 0, 1) := by decide +kernel
theorem dX7_held_3 : decode cX7_held 3 = .ok (.istore_n 2, 1) := by decide +kernel
theorem dX7_held_4 : decode cX7_held 4 = .ok (.iload_n 2, 1) := by decide +kernel
theorem dX7_held_5 : decode cX7_held 5 = .ok (.aload_n 0, 1) := by decide +kernel
theorem dX7_held_6 : decode cX7_held 6 = .ok (.getfield 20, 3) := by decide +kernel
theorem dX7_held_9 : decode cX7_held 9 = .ok (.arraylength, 1) := by decide +kernel
theorem dX7_held_10 : decode cX7_held 10 = .ok (.if_icmp .ge 57, 3) := by decide +kernel
theorem dX7_held_13 : decode cX7_held 13 = .ok (.aload_n 0, 1) := by decide +kernel
theorem dX7_held_14 : decode cX7_held 14 = .ok (.getfield 20, 3) := by decide +kernel
theorem dX7_held_17 : decode cX7_held 17 = .ok (.iload_n 2, 1) := by decide +kernel
theorem dX7_held_18 : decode cX7_held 18 = .ok (.aaload, 1) := by decide +kernel
theorem dX7_held_19 : decode cX7_held 19 = .ok (.getfield 63, 3) := by decide +kernel
theorem dX7_held_22 : decode cX7_held 22 = .ok (.astore_n 3, 1) := by decide +kernel
theorem dX7_held_23 : decode cX7_held 23 = .ok (.aload_n 3, 1) := by decide +kernel
theorem dX7_held_24 : decode cX7_held 24 = .ok (.getfield 94, 3) := by decide +kernel
theorem dX7_held_27 : decode cX7_held 27 = .ok (.iconst 2, 1) := by decide +kernel
theorem dX7_held_28 : decode cX7_held 28 = .ok (.if_icmp .ne 14, 3) := by decide +kernel
theorem dX7_held_31 : decode cX7_held 31 = .ok (.aload_n 0, 1) := by decide +kernel
theorem dX7_held_32 : decode cX7_held 32 = .ok (.aload_n 3, 1) := by decide +kernel
theorem dX7_held_33 : decode cX7_held 33 = .ok (.getfield 141, 3) := by decide +kernel
theorem dX7_held_36 : decode cX7_held 36 = .ok (.invokevirtual 78, 3) := by decide +kernel
theorem dX7_held_39 : decode cX7_held 39 = .ok (.goto 4, 3) := by decide +kernel
theorem dX7_held_42 : decode cX7_held 42 = .ok (.aconst_null, 1) := by decide +kernel
theorem dX7_held_43 : decode cX7_held 43 = .ok (.astore 4, 2) := by decide +kernel
theorem dX7_held_45 : decode cX7_held 45 = .ok (.aload 4, 2) := by decide +kernel
theorem dX7_held_47 : decode cX7_held 47 = .ok (.ifnull 14, 3) := by decide +kernel
theorem dX7_held_50 : decode cX7_held 50 = .ok (.aload 4, 2) := by decide +kernel
theorem dX7_held_52 : decode cX7_held 52 = .ok (.invokevirtual 101, 3) := by decide +kernel
theorem dX7_held_55 : decode cX7_held 55 = .ok (.ifCond .ne 6, 3) := by decide +kernel
theorem dX7_held_58 : decode cX7_held 58 = .ok (.iinc 1 1, 3) := by decide +kernel
theorem dX7_held_61 : decode cX7_held 61 = .ok (.iinc 2 1, 3) := by decide +kernel
theorem dX7_held_64 : decode cX7_held 64 = .ok (.goto (-60), 3) := by decide +kernel
theorem dX7_held_67 : decode cX7_held 67 = .ok (.iload_n 1, 1) := by decide +kernel
theorem dX7_held_68 : decode cX7_held 68 = .ok (.ireturn, 1) := by decide +kernel
theorem dX7_count_0 : decode cX7_count 0 = .ok (.iload_n 1, 1) := by decide +kernel
theorem dX7_count_1 : decode cX7_count 1 = .ok (.tableswitch 100 0 8 #[51, 57, 62, 70, 75, 80, 85, 90, 95], 51) := by decide +kernel
theorem dX7_count_52 : decode cX7_count 52 = .ok (.aload_n 0, 1) := by decide +kernel
theorem dX7_count_53 : decode cX7_count 53 = .ok (.getfield 20, 3) := by decide +kernel
theorem dX7_count_56 : decode cX7_count 56 = .ok (.arraylength, 1) := by decide +kernel
theorem dX7_count_57 : decode cX7_count 57 = .ok (.ireturn, 1) := by decide +kernel
theorem dX7_count_58 : decode cX7_count 58 = .ok (.aload_n 0, 1) := by decide +kernel
theorem dX7_count_59 : decode cX7_count 59 = .ok (.invokevirtual 144, 3) := by decide +kernel
theorem dX7_count_62 : decode cX7_count 62 = .ok (.ireturn, 1) := by decide +kernel
theorem dX7_count_63 : decode cX7_count 63 = .ok (.aload_n 0, 1) := by decide +kernel
theorem dX7_count_64 : decode cX7_count 64 = .ok (.getfield 37, 3) := by decide +kernel
theorem dX7_count_67 : decode cX7_count 67 = .ok (.getfield 110, 3) := by decide +kernel
theorem dX7_count_70 : decode cX7_count 70 = .ok (.ireturn, 1) := by decide +kernel
theorem dX7_count_71 : decode cX7_count 71 = .ok (.aload_n 0, 1) := by decide +kernel
theorem dX7_count_72 : decode cX7_count 72 = .ok (.getfield 72, 3) := by decide +kernel
theorem dX7_count_75 : decode cX7_count 75 = .ok (.ireturn, 1) := by decide +kernel
theorem dX7_count_76 : decode cX7_count 76 = .ok (.aload_n 0, 1) := by decide +kernel
theorem dX7_count_77 : decode cX7_count 77 = .ok (.getfield 147, 3) := by decide +kernel
theorem dX7_count_80 : decode cX7_count 80 = .ok (.ireturn, 1) := by decide +kernel
theorem dX7_count_81 : decode cX7_count 81 = .ok (.aload_n 0, 1) := by decide +kernel
theorem dX7_count_82 : decode cX7_count 82 = .ok (.invokevirtual 150, 3) := by decide +kernel
theorem dX7_count_85 : decode cX7_count 85 = .ok (.ireturn, 1) := by decide +kernel
theorem dX7_count_86 : decode cX7_count 86 = .ok (.aload_n 0, 1) := by decide +kernel
theorem dX7_count_87 : decode cX7_count 87 = .ok (.getfield 153, 3) := by decide +kernel
theorem dX7_count_90 : decode cX7_count 90 = .ok (.ireturn, 1) := by decide +kernel
theorem dX7_count_91 : decode cX7_count 91 = .ok (.aload_n 0, 1) := by decide +kernel
theorem dX7_count_92 : decode cX7_count 92 = .ok (.getfield 156, 3) := by decide +kernel
theorem dX7_count_95 : decode cX7_count 95 = .ok (.ireturn, 1) := by decide +kernel
theorem dX7_count_96 : decode cX7_count 96 = .ok (.aload_n 0, 1) := by decide +kernel
theorem dX7_count_97 : decode cX7_count 97 = .ok (.getfield 159, 3) := by decide +kernel
theorem dX7_count_100 : decode cX7_count 100 = .ok (.ireturn, 1) := by decide +kernel
theorem dX7_count_101 : decode cX7_count 101 = .ok (.iconst (-1), 1) := by decide +kernel
theorem dX7_count_102 : decode cX7_count 102 = .ok (.ireturn, 1) := by decide +kernel
theorem dX7_procAt_0 : decode cX7_procAt 0 = .ok (.iload_n 1, 1) := by decide +kernel
theorem dX7_procAt_1 : decode cX7_procAt 1 = .ok (.ifCond .lt 21, 3) := by decide +kernel
theorem dX7_procAt_4 : decode cX7_procAt 4 = .ok (.iload_n 1, 1) := by decide +kernel
theorem dX7_procAt_5 : decode cX7_procAt 5 = .ok (.aload_n 0, 1) := by decide +kernel
theorem dX7_procAt_6 : decode cX7_procAt 6 = .ok (.getfield 20, 3) := by decide +kernel
theorem dX7_procAt_9 : decode cX7_procAt 9 = .ok (.arraylength, 1) := by decide +kernel
theorem dX7_procAt_10 : decode cX7_procAt 10 = .ok (.if_icmp .ge 12, 3) := by decide +kernel
theorem dX7_procAt_13 : decode cX7_procAt 13 = .ok (.aload_n 0, 1) := by decide +kernel
theorem dX7_procAt_14 : decode cX7_procAt 14 = .ok (.getfield 20, 3) := by decide +kernel
theorem dX7_procAt_17 : decode cX7_procAt 17 = .ok (.iload_n 1, 1) := by decide +kernel
theorem dX7_procAt_18 : decode cX7_procAt 18 = .ok (.aaload, 1) := by decide +kernel
theorem dX7_procAt_19 : decode cX7_procAt 19 = .ok (.goto 4, 3) := by decide +kernel
theorem dX7_procAt_22 : decode cX7_procAt 22 = .ok (.aconst_null, 1) := by decide +kernel
theorem dX7_procAt_23 : decode cX7_procAt 23 = .ok (.areturn, 1) := by decide +kernel
theorem dX7_procIn_0 : decode cX7_procIn 0 = .ok (.aload_n 0, 1) := by decide +kernel
theorem dX7_procIn_1 : decode cX7_procIn 1 = .ok (.iload_n 1, 1) := by decide +kernel
theorem dX7_procIn_2 : decode cX7_procIn 2 = .ok (.invokevirtual 78, 3) := by decide +kernel
theorem dX7_procIn_5 : decode cX7_procIn 5 = .ok (.astore_n 3, 1) := by decide +kernel
theorem dX7_procIn_6 : decode cX7_procIn 6 = .ok (.aload_n 3, 1) := by decide +kernel
theorem dX7_procIn_7 : decode cX7_procIn 7 = .ok (.ifnull 15, 3) := by decide +kernel
theorem dX7_procIn_10 : decode cX7_procIn 10 = .ok (.aload_n 3, 1) := by decide +kernel
theorem dX7_procIn_11 : decode cX7_procIn 11 = .ok (.getfield 48, 3) := by decide +kernel
theorem dX7_procIn_14 : decode cX7_procIn 14 = .ok (.iload_n 2, 1) := by decide +kernel
theorem dX7_procIn_15 : decode cX7_procIn 15 = .ok (.if_icmp .ne 7, 3) := by decide +kernel
theorem dX7_procIn_18 : decode cX7_procIn 18 = .ok (.aload_n 3, 1) := by decide +kernel
theorem dX7_procIn_19 : decode cX7_procIn 19 = .ok (.goto 4, 3) := by decide +kernel
theorem dX7_procIn_22 : decode cX7_procIn 22 = .ok (.aconst_null, 1) := by decide +kernel
theorem dX7_procIn_23 : decode cX7_procIn 23 = .ok (.areturn, 1) := by decide +kernel
theorem dX7_listAt_0 : decode cX7_listAt 0 = .ok (.iload_n 1, 1) := by decide +kernel
theorem dX7_listAt_1 : decode cX7_listAt 1 = .ok (.ifCond .lt 21, 3) := by decide +kernel
theorem dX7_listAt_4 : decode cX7_listAt 4 = .ok (.iload_n 1, 1) := by decide +kernel
theorem dX7_listAt_5 : decode cX7_listAt 5 = .ok (.aload_n 0, 1) := by decide +kernel
theorem dX7_listAt_6 : decode cX7_listAt 6 = .ok (.getfield 29, 3) := by decide +kernel
theorem dX7_listAt_9 : decode cX7_listAt 9 = .ok (.arraylength, 1) := by decide +kernel
theorem dX7_listAt_10 : decode cX7_listAt 10 = .ok (.if_icmp .ge 12, 3) := by decide +kernel
theorem dX7_listAt_13 : decode cX7_listAt 13 = .ok (.aload_n 0, 1) := by decide +kernel
theorem dX7_listAt_14 : decode cX7_listAt 14 = .ok (.getfield 29, 3) := by decide +kernel
theorem dX7_listAt_17 : decode cX7_listAt 17 = .ok (.iload_n 1, 1) := by decide +kernel
theorem dX7_listAt_18 : decode cX7_listAt 18 = .ok (.aaload, 1) := by decide +kernel
theorem dX7_listAt_19 : decode cX7_listAt 19 = .ok (.goto 4, 3) := by decide +kernel
theorem dX7_listAt_22 : decode cX7_listAt 22 = .ok (.aconst_null, 1) := by decide +kernel
theorem dX7_listAt_23 : decode cX7_listAt 23 = .ok (.areturn, 1) := by decide +kernel
theorem dX7_present_0 : decode cX7_present 0 = .ok (.iconst 0, 1) := by decide +kernel
theorem dX7_present_1 : decode cX7_present 1 = .ok (.istore_n 1, 1) := by decide +kernel
theorem dX7_present_2 : decode cX7_present 2 = .ok (.iconst 0, 1) := by decide +kernel
theorem dX7_present_3 : decode cX7_present 3 = .ok (.istore_n 2, 1) := by decide +kernel
theorem dX7_present_4 : decode cX7_present 4 = .ok (.iload_n 2, 1) := by decide +kernel
theorem dX7_present_5 : decode cX7_present 5 = .ok (.aload_n 0, 1) := by decide +kernel
theorem dX7_present_6 : decode cX7_present 6 = .ok (.getfield 20, 3) := by decide +kernel
theorem dX7_present_9 : decode cX7_present 9 = .ok (.arraylength, 1) := by decide +kernel
theorem dX7_present_10 : decode cX7_present 10 = .ok (.if_icmp .ge 24, 3) := by decide +kernel
theorem dX7_present_13 : decode cX7_present 13 = .ok (.aload_n 0, 1) := by decide +kernel
theorem dX7_present_14 : decode cX7_present 14 = .ok (.getfield 20, 3) := by decide +kernel
theorem dX7_present_17 : decode cX7_present 17 = .ok (.iload_n 2, 1) := by decide +kernel
theorem dX7_present_18 : decode cX7_present 18 = .ok (.aaload, 1) := by decide +kernel
theorem dX7_present_19 : decode cX7_present 19 = .ok (.getfield 48, 3) := by decide +kernel
theorem dX7_present_22 : decode cX7_present 22 = .ok (.ifCond .eq 6, 3) := by decide +kernel
theorem dX7_present_25 : decode cX7_present 25 = .ok (.iinc 1 1, 3) := by decide +kernel
theorem dX7_present_28 : decode cX7_present 28 = .ok (.iinc 2 1, 3) := by decide +kernel
theorem dX7_present_31 : decode cX7_present 31 = .ok (.goto (-27), 3) := by decide +kernel
theorem dX7_present_34 : decode cX7_present 34 = .ok (.iload_n 1, 1) := by decide +kernel
theorem dX7_present_35 : decode cX7_present 35 = .ok (.ireturn, 1) := by decide +kernel
theorem dX7_listed_0 : decode cX7_listed 0 = .ok (.iconst 0, 1) := by decide +kernel
theorem dX7_listed_1 : decode cX7_listed 1 = .ok (.istore_n 1, 1) := by decide +kernel
theorem dX7_listed_2 : decode cX7_listed 2 = .ok (.iconst 0, 1) := by decide +kernel
theorem dX7_listed_3 : decode cX7_listed 3 = .ok (.istore_n 2, 1) := by decide +kernel
theorem dX7_listed_4 : decode cX7_listed 4 = .ok (.iload_n 2, 1) := by decide +kernel
theorem dX7_listed_5 : decode cX7_listed 5 = .ok (.aload_n 0, 1) := by decide +kernel
theorem dX7_listed_6 : decode cX7_listed 6 = .ok (.getfield 29, 3) := by decide +kernel
theorem dX7_listed_9 : decode cX7_listed 9 = .ok (.arraylength, 1) := by decide +kernel
theorem dX7_listed_10 : decode cX7_listed 10 = .ok (.if_icmp .ge 21, 3) := by decide +kernel
theorem dX7_listed_13 : decode cX7_listed 13 = .ok (.iload_n 1, 1) := by decide +kernel
theorem dX7_listed_14 : decode cX7_listed 14 = .ok (.aload_n 0, 1) := by decide +kernel
theorem dX7_listed_15 : decode cX7_listed 15 = .ok (.getfield 29, 3) := by decide +kernel
theorem dX7_listed_18 : decode cX7_listed 18 = .ok (.iload_n 2, 1) := by decide +kernel
theorem dX7_listed_19 : decode cX7_listed 19 = .ok (.aaload, 1) := by decide +kernel
theorem dX7_listed_20 : decode cX7_listed 20 = .ok (.getfield 162, 3) := by decide +kernel
theorem dX7_listed_23 : decode cX7_listed 23 = .ok (.iadd, 1) := by decide +kernel
theorem dX7_listed_24 : decode cX7_listed 24 = .ok (.istore_n 1, 1) := by decide +kernel
theorem dX7_listed_25 : decode cX7_listed 25 = .ok (.iinc 2 1, 3) := by decide +kernel
theorem dX7_listed_28 : decode cX7_listed 28 = .ok (.goto (-24), 3) := by decide +kernel
theorem dX7_listed_31 : decode cX7_listed 31 = .ok (.iload_n 1, 1) := by decide +kernel
theorem dX7_listed_32 : decode cX7_listed 32 = .ok (.ireturn, 1) := by decide +kernel
theorem dX7_sleepUnmet_0 : decode cX7_sleepUnmet 0 = .ok (.aload_n 0, 1) := by decide +kernel
theorem dX7_sleepUnmet_1 : decode cX7_sleepUnmet 1 = .ok (.getfield 48, 3) := by decide +kernel
theorem dX7_sleepUnmet_4 : decode cX7_sleepUnmet 4 = .ok (.bipush 10, 2) := by decide +kernel
theorem dX7_sleepUnmet_6 : decode cX7_sleepUnmet 6 = .ok (.if_icmp .ne 46, 3) := by decide +kernel
theorem dX7_sleepUnmet_9 : decode cX7_sleepUnmet 9 = .ok (.aload_n 1, 1) := by decide +kernel
theorem dX7_sleepUnmet_10 : decode cX7_sleepUnmet 10 = .ok (.getfield 48, 3) := by decide +kernel
theorem dX7_sleepUnmet_13 : decode cX7_sleepUnmet 13 = .ok (.bipush 10, 2) := by decide +kernel
theorem dX7_sleepUnmet_15 : decode cX7_sleepUnmet 15 = .ok (.if_icmp .ne 37, 3) := by decide +kernel
theorem dX7_sleepUnmet_18 : decode cX7_sleepUnmet 18 = .ok (.aload_n 0, 1) := by decide +kernel
theorem dX7_sleepUnmet_19 : decode cX7_sleepUnmet 19 = .ok (.getfield 63, 3) := by decide +kernel
theorem dX7_sleepUnmet_22 : decode cX7_sleepUnmet 22 = .ok (.getfield 94, 3) := by decide +kernel
theorem dX7_sleepUnmet_25 : decode cX7_sleepUnmet 25 = .ok (.iconst 1, 1) := by decide +kernel
theorem dX7_sleepUnmet_26 : decode cX7_sleepUnmet 26 = .ok (.if_icmp .ne 26, 3) := by decide +kernel
theorem dX7_sleepUnmet_29 : decode cX7_sleepUnmet 29 = .ok (.aload_n 1, 1) := by decide +kernel
theorem dX7_sleepUnmet_30 : decode cX7_sleepUnmet 30 = .ok (.getfield 63, 3) := by decide +kernel
theorem dX7_sleepUnmet_33 : decode cX7_sleepUnmet 33 = .ok (.getfield 94, 3) := by decide +kernel
theorem dX7_sleepUnmet_36 : decode cX7_sleepUnmet 36 = .ok (.iconst 1, 1) := by decide +kernel
theorem dX7_sleepUnmet_37 : decode cX7_sleepUnmet 37 = .ok (.if_icmp .ne 15, 3) := by decide +kernel
theorem dX7_sleepUnmet_40 : decode cX7_sleepUnmet 40 = .ok (.aload_n 0, 1) := by decide +kernel
theorem dX7_sleepUnmet_41 : decode cX7_sleepUnmet 41 = .ok (.aload_n 1, 1) := by decide +kernel
theorem dX7_sleepUnmet_42 : decode cX7_sleepUnmet 42 = .ok (.invokevirtual 163, 3) := by decide +kernel
theorem dX7_sleepUnmet_45 : decode cX7_sleepUnmet 45 = .ok (.ifCond .eq 7, 3) := by decide +kernel
theorem dX7_sleepUnmet_48 : decode cX7_sleepUnmet 48 = .ok (.iconst 1, 1) := by decide +kernel
theorem dX7_sleepUnmet_49 : decode cX7_sleepUnmet 49 = .ok (.goto 4, 3) := by decide +kernel
theorem dX7_sleepUnmet_52 : decode cX7_sleepUnmet 52 = .ok (.iconst 0, 1) := by decide +kernel
theorem dX7_sleepUnmet_53 : decode cX7_sleepUnmet 53 = .ok (.ireturn, 1) := by decide +kernel
theorem dX7_access_0 : decode cX7_access 0 = .ok (.aload_n 0, 1) := by decide +kernel
theorem dX7_access_1 : decode cX7_access 1 = .ok (.dup, 1) := by decide +kernel
theorem dX7_access_2 : decode cX7_access 2 = .ok (.getfield 147, 3) := by decide +kernel
theorem dX7_access_5 : decode cX7_access 5 = .ok (.iconst 1, 1) := by decide +kernel
theorem dX7_access_6 : decode cX7_access 6 = .ok (.iadd, 1) := by decide +kernel
theorem dX7_access_7 : decode cX7_access 7 = .ok (.putfield 147, 3) := by decide +kernel
theorem dX7_access_10 : decode cX7_access 10 = .ok (.aload_n 1, 1) := by decide +kernel
theorem dX7_access_11 : decode cX7_access 11 = .ok (.aload_n 0, 1) := by decide +kernel
theorem dX7_access_12 : decode cX7_access 12 = .ok (.getfield 72, 3) := by decide +kernel
theorem dX7_access_15 : decode cX7_access 15 = .ok (.invokevirtual 167, 3) := by decide +kernel
theorem dX7_access_18 : decode cX7_access 18 = .ok (.ifCond .eq 16, 3) := by decide +kernel
theorem dX7_access_21 : decode cX7_access 21 = .ok (.aload_n 1, 1) := by decide +kernel
theorem dX7_access_22 : decode cX7_access 22 = .ok (.invokevirtual 171, 3) := by decide +kernel
theorem dX7_access_25 : decode cX7_access 25 = .ok (.ifCond .eq 9, 3) := by decide +kernel
theorem dX7_access_28 : decode cX7_access 28 = .ok (.aload_n 0, 1) := by decide +kernel
theorem dX7_access_29 : decode cX7_access 29 = .ok (.aload_n 1, 1) := by decide +kernel
theorem dX7_access_30 : decode cX7_access 30 = .ok (.invokevirtual 174, 3) := by decide +kernel
theorem dX7_access_33 : decode cX7_access 33 = .ok (.return_, 1) := by decide +kernel
theorem dX7_access_34 : decode cX7_access 34 = .ok (.aload_n 1, 1) := by decide +kernel
theorem dX7_access_35 : decode cX7_access 35 = .ok (.getfield 48, 3) := by decide +kernel
theorem dX7_access_38 : decode cX7_access 38 = .ok (.tableswitch 92 2 11 #[54, 62, 92, 92, 92, 92, 92, 70, 77, 84], 54) := by decide +kernel
theorem dX7_access_92 : decode cX7_access 92 = .ok (.aload_n 0, 1) := by decide +kernel
theorem dX7_access_93 : decode cX7_access 93 = .ok (.aload_n 1, 1) := by decide +kernel
theorem dX7_access_94 : decode cX7_access 94 = .ok (.invokevirtual 177, 3) := by decide +kernel
theorem dX7_access_97 : decode cX7_access 97 = .ok (.goto 38, 3) := by decide +kernel
theorem dX7_access_100 : decode cX7_access 100 = .ok (.aload_n 0, 1) := by decide +kernel
theorem dX7_access_101 : decode cX7_access 101 = .ok (.aload_n 1, 1) := by decide +kernel
theorem dX7_access_102 : decode cX7_access 102 = .ok (.invokevirtual 180, 3) := by decide +kernel
theorem dX7_access_105 : decode cX7_access 105 = .ok (.goto 30, 3) := by decide +kernel
theorem dX7_access_108 : decode cX7_access 108 = .ok (.aload_n 1, 1) := by decide +kernel
theorem dX7_access_109 : decode cX7_access 109 = .ok (.invokevirtual 183, 3) := by decide +kernel
theorem dX7_access_112 : decode cX7_access 112 = .ok (.goto 23, 3) := by decide +kernel
theorem dX7_access_115 : decode cX7_access 115 = .ok (.aload_n 1, 1) := by decide +kernel
theorem dX7_access_116 : decode cX7_access 116 = .ok (.invokevirtual 186, 3) := by decide +kernel
theorem dX7_access_119 : decode cX7_access 119 = .ok (.goto 16, 3) := by decide +kernel
theorem dX7_access_122 : decode cX7_access 122 = .ok (.aload_n 0, 1) := by decide +kernel
theorem dX7_access_123 : decode cX7_access 123 = .ok (.aload_n 1, 1) := by decide +kernel
theorem dX7_access_124 : decode cX7_access 124 = .ok (.invokevirtual 189, 3) := by decide +kernel
theorem dX7_access_127 : decode cX7_access 127 = .ok (.goto 8, 3) := by decide +kernel
theorem dX7_access_130 : decode cX7_access 130 = .ok (.aload_n 0, 1) := by decide +kernel
theorem dX7_access_131 : decode cX7_access 131 = .ok (.aload_n 1, 1) := by decide +kernel
theorem dX7_access_132 : decode cX7_access 132 = .ok (.invokevirtual 192, 3) := by decide +kernel
theorem dX7_access_135 : decode cX7_access 135 = .ok (.return_, 1) := by decide +kernel
theorem dX7_accessToMeet_0 : decode cX7_accessToMeet 0 = .ok (.aload_n 1, 1) := by decide +kernel
theorem dX7_accessToMeet_1 : decode cX7_accessToMeet 1 = .ok (.invokevirtual 195, 3) := by decide +kernel
theorem dX7_accessToMeet_4 : decode cX7_accessToMeet 4 = .ok (.astore_n 2, 1) := by decide +kernel
theorem dX7_accessToMeet_5 : decode cX7_accessToMeet 5 = .ok (.aload_n 1, 1) := by decide +kernel
theorem dX7_accessToMeet_6 : decode cX7_accessToMeet 6 = .ok (.getfield 199, 3) := by decide +kernel
theorem dX7_accessToMeet_9 : decode cX7_accessToMeet 9 = .ok (.astore_n 3, 1) := by decide +kernel
theorem dX7_accessToMeet_10 : decode cX7_accessToMeet 10 = .ok (.aload_n 3, 1) := by decide +kernel
theorem dX7_accessToMeet_11 : decode cX7_accessToMeet 11 = .ok (.ifnonnull 7, 3) := by decide +kernel
theorem dX7_accessToMeet_14 : decode cX7_accessToMeet 14 = .ok (.aconst_null, 1) := by decide +kernel
theorem dX7_accessToMeet_15 : decode cX7_accessToMeet 15 = .ok (.goto 11, 3) := by decide +kernel
theorem dX7_accessToMeet_18 : decode cX7_accessToMeet 18 = .ok (.aload_n 0, 1) := by decide +kernel
theorem dX7_accessToMeet_19 : decode cX7_accessToMeet 19 = .ok (.aload_n 3, 1) := by decide +kernel
theorem dX7_accessToMeet_20 : decode cX7_accessToMeet 20 = .ok (.getfield 203, 3) := by decide +kernel
theorem dX7_accessToMeet_23 : decode cX7_accessToMeet 23 = .ok (.invokevirtual 78, 3) := by decide +kernel
theorem dX7_accessToMeet_26 : decode cX7_accessToMeet 26 = .ok (.astore 4, 2) := by decide +kernel
theorem dX7_accessToMeet_28 : decode cX7_accessToMeet 28 = .ok (.aload_n 2, 1) := by decide +kernel
theorem dX7_accessToMeet_29 : decode cX7_accessToMeet 29 = .ok (.ifnull 8, 3) := by decide +kernel
theorem dX7_accessToMeet_32 : decode cX7_accessToMeet 32 = .ok (.aload 4, 2) := by decide +kernel
theorem dX7_accessToMeet_34 : decode cX7_accessToMeet 34 = .ok (.ifnonnull 4, 3) := by decide +kernel
theorem dX7_accessToMeet_37 : decode cX7_accessToMeet 37 = .ok (.return_, 1) := by decide +kernel
theorem dX7_accessToMeet_38 : decode cX7_accessToMeet 38 = .ok (.aload_n 1, 1) := by decide +kernel
theorem dX7_accessToMeet_39 : decode cX7_accessToMeet 39 = .ok (.getfield 48, 3) := by decide +kernel
theorem dX7_accessToMeet_42 : decode cX7_accessToMeet 42 = .ok (.tableswitch 88 4 8 #[34, 45, 57, 67, 78], 34) := by decide +kernel
theorem dX7_accessToMeet_76 : decode cX7_accessToMeet 76 = .ok (.aload_n 0, 1) := by decide +kernel
theorem dX7_accessToMeet_77 : decode cX7_accessToMeet 77 = .ok (.aload_n 1, 1) := by decide +kernel
theorem dX7_accessToMeet_78 : decode cX7_accessToMeet 78 = .ok (.aload 4, 2) := by decide +kernel
theorem dX7_accessToMeet_80 : decode cX7_accessToMeet 80 = .ok (.aload_n 3, 1) := by decide +kernel
theorem dX7_accessToMeet_81 : decode cX7_accessToMeet 81 = .ok (.invokevirtual 206, 3) := by decide +kernel
theorem dX7_accessToMeet_84 : decode cX7_accessToMeet 84 = .ok (.goto 46, 3) := by decide +kernel
theorem dX7_accessToMeet_87 : decode cX7_accessToMeet 87 = .ok (.aload_n 0, 1) := by decide +kernel
theorem dX7_accessToMeet_88 : decode cX7_accessToMeet 88 = .ok (.aload_n 1, 1) := by decide +kernel
theorem dX7_accessToMeet_89 : decode cX7_accessToMeet 89 = .ok (.aload 4, 2) := by decide +kernel
theorem dX7_accessToMeet_91 : decode cX7_accessToMeet 91 = .ok (.aload_n 3, 1) := by decide +kernel
theorem dX7_accessToMeet_92 : decode cX7_accessToMeet 92 = .ok (.aload_n 2, 1) := by decide +kernel
theorem dX7_accessToMeet_93 : decode cX7_accessToMeet 93 = .ok (.invokevirtual 210, 3) := by decide +kernel
theorem dX7_accessToMeet_96 : decode cX7_accessToMeet 96 = .ok (.goto 34, 3) := by decide +kernel
theorem dX7_accessToMeet_99 : decode cX7_accessToMeet 99 = .ok (.aload_n 0, 1) := by decide +kernel
theorem dX7_accessToMeet_100 : decode cX7_accessToMeet 100 = .ok (.aload_n 1, 1) := by decide +kernel
theorem dX7_accessToMeet_101 : decode cX7_accessToMeet 101 = .ok (.aload 4, 2) := by decide +kernel
theorem dX7_accessToMeet_103 : decode cX7_accessToMeet 103 = .ok (.invokevirtual 214, 3) := by decide +kernel
theorem dX7_accessToMeet_106 : decode cX7_accessToMeet 106 = .ok (.goto 24, 3) := by decide +kernel
theorem dX7_accessToMeet_109 : decode cX7_accessToMeet 109 = .ok (.aload_n 0, 1) := by decide +kernel
theorem dX7_accessToMeet_110 : decode cX7_accessToMeet 110 = .ok (.aload_n 1, 1) := by decide +kernel
theorem dX7_accessToMeet_111 : decode cX7_accessToMeet 111 = .ok (.aload 4, 2) := by decide +kernel
theorem dX7_accessToMeet_113 : decode cX7_accessToMeet 113 = .ok (.aload_n 2, 1) := by decide +kernel
theorem dX7_accessToMeet_114 : decode cX7_accessToMeet 114 = .ok (.invokevirtual 218, 3) := by decide +kernel
theorem dX7_accessToMeet_117 : decode cX7_accessToMeet 117 = .ok (.goto 13, 3) := by decide +kernel
theorem dX7_accessToMeet_120 : decode cX7_accessToMeet 120 = .ok (.aload_n 0, 1) := by decide +kernel
theorem dX7_accessToMeet_121 : decode cX7_accessToMeet 121 = .ok (.aload_n 1, 1) := by decide +kernel
theorem dX7_accessToMeet_122 : decode cX7_accessToMeet 122 = .ok (.aload_n 3, 1) := by decide +kernel
theorem dX7_accessToMeet_123 : decode cX7_accessToMeet 123 = .ok (.aload_n 2, 1) := by decide +kernel
theorem dX7_accessToMeet_124 : decode cX7_accessToMeet 124 = .ok (.invokevirtual 222, 3) := by decide +kernel
theorem dX7_accessToMeet_127 : decode cX7_accessToMeet 127 = .ok (.goto 3, 3) := by decide +kernel
theorem dX7_accessToMeet_130 : decode cX7_accessToMeet 130 = .ok (.return_, 1) := by decide +kernel
theorem dX7_runOutOfTime_0 : decode cX7_runOutOfTime 0 = .ok (.aload_n 1, 1) := by decide +kernel
theorem dX7_runOutOfTime_1 : decode cX7_runOutOfTime 1 = .ok (.getfield 63, 3) := by decide +kernel
theorem dX7_runOutOfTime_4 : decode cX7_runOutOfTime 4 = .ok (.getfield 94, 3) := by decide +kernel
theorem dX7_runOutOfTime_7 : decode cX7_runOutOfTime 7 = .ok (.iconst 1, 1) := by decide +kernel
theorem dX7_runOutOfTime_8 : decode cX7_runOutOfTime 8 = .ok (.if_icmp .ne 16, 3) := by decide +kernel
theorem dX7_runOutOfTime_11 : decode cX7_runOutOfTime 11 = .ok (.aload_n 0, 1) := by decide +kernel
theorem dX7_runOutOfTime_12 : decode cX7_runOutOfTime 12 = .ok (.aload_n 1, 1) := by decide +kernel
theorem dX7_runOutOfTime_13 : decode cX7_runOutOfTime 13 = .ok (.iconst 3, 1) := by decide +kernel
theorem dX7_runOutOfTime_14 : decode cX7_runOutOfTime 14 = .ok (.invokevirtual 97, 3) := by decide +kernel
theorem dX7_runOutOfTime_17 : decode cX7_runOutOfTime 17 = .ok (.aload_n 1, 1) := by decide +kernel
theorem dX7_runOutOfTime_18 : decode cX7_runOutOfTime 18 = .ok (.invokevirtual 104, 3) := by decide +kernel
theorem dX7_runOutOfTime_21 : decode cX7_runOutOfTime 21 = .ok (.goto 18, 3) := by decide +kernel
theorem dX7_runOutOfTime_24 : decode cX7_runOutOfTime 24 = .ok (.aload_n 1, 1) := by decide +kernel
theorem dX7_runOutOfTime_25 : decode cX7_runOutOfTime 25 = .ok (.getfield 63, 3) := by decide +kernel
theorem dX7_runOutOfTime_28 : decode cX7_runOutOfTime 28 = .ok (.getfield 94, 3) := by decide +kernel
theorem dX7_runOutOfTime_31 : decode cX7_runOutOfTime 31 = .ok (.iconst 3, 1) := by decide +kernel
theorem dX7_runOutOfTime_32 : decode cX7_runOutOfTime 32 = .ok (.if_icmp .ne 7, 3) := by decide +kernel
theorem dX7_runOutOfTime_35 : decode cX7_runOutOfTime 35 = .ok (.aload_n 1, 1) := by decide +kernel
theorem dX7_runOutOfTime_36 : decode cX7_runOutOfTime 36 = .ok (.invokevirtual 104, 3) := by decide +kernel
theorem dX7_runOutOfTime_39 : decode cX7_runOutOfTime 39 = .ok (.return_, 1) := by decide +kernel
theorem dX7_putOut_0 : decode cX7_putOut 0 = .ok (.aload_n 1, 1) := by decide +kernel
theorem dX7_putOut_1 : decode cX7_putOut 1 = .ok (.getfield 63, 3) := by decide +kernel
theorem dX7_putOut_4 : decode cX7_putOut 4 = .ok (.iconst 4, 1) := by decide +kernel
theorem dX7_putOut_5 : decode cX7_putOut 5 = .ok (.invokevirtual 107, 3) := by decide +kernel
theorem dX7_putOut_8 : decode cX7_putOut 8 = .ok (.aload_n 1, 1) := by decide +kernel
theorem dX7_putOut_9 : decode cX7_putOut 9 = .ok (.iload_n 2, 1) := by decide +kernel
theorem dX7_putOut_10 : decode cX7_putOut 10 = .ok (.putfield 226, 3) := by decide +kernel
theorem dX7_putOut_13 : decode cX7_putOut 13 = .ok (.aload_n 1, 1) := by decide +kernel
theorem dX7_putOut_14 : decode cX7_putOut 14 = .ok (.iconst 1, 1) := by decide +kernel
theorem dX7_putOut_15 : decode cX7_putOut 15 = .ok (.putfield 229, 3) := by decide +kernel
theorem dX7_putOut_18 : decode cX7_putOut 18 = .ok (.aload_n 0, 1) := by decide +kernel
theorem dX7_putOut_19 : decode cX7_putOut 19 = .ok (.aload_n 1, 1) := by decide +kernel
theorem dX7_putOut_20 : decode cX7_putOut 20 = .ok (.invokevirtual 233, 3) := by decide +kernel
theorem dX7_putOut_23 : decode cX7_putOut 23 = .ok (.return_, 1) := by decide +kernel
theorem dX7_publishEntry_0 : decode cX7_publishEntry 0 = .ok (.aload_n 1, 1) := by decide +kernel
theorem dX7_publishEntry_1 : decode cX7_publishEntry 1 = .ok (.invokevirtual 195, 3) := by decide +kernel
theorem dX7_publishEntry_4 : decode cX7_publishEntry 4 = .ok (.astore_n 2, 1) := by decide +kernel
theorem dX7_publishEntry_5 : decode cX7_publishEntry 5 = .ok (.aload_n 2, 1) := by decide +kernel
theorem dX7_publishEntry_6 : decode cX7_publishEntry 6 = .ok (.ifnonnull 7, 3) := by decide +kernel
theorem dX7_publishEntry_9 : decode cX7_publishEntry 9 = .ok (.aconst_null, 1) := by decide +kernel
theorem dX7_publishEntry_10 : decode cX7_publishEntry 10 = .ok (.goto 11, 3) := by decide +kernel
theorem dX7_publishEntry_13 : decode cX7_publishEntry 13 = .ok (.aload_n 0, 1) := by decide +kernel
theorem dX7_publishEntry_14 : decode cX7_publishEntry 14 = .ok (.aload_n 2, 1) := by decide +kernel
theorem dX7_publishEntry_15 : decode cX7_publishEntry 15 = .ok (.getfield 236, 3) := by decide +kernel
theorem dX7_publishEntry_18 : decode cX7_publishEntry 18 = .ok (.invokevirtual 52, 3) := by decide +kernel
theorem dX7_publishEntry_21 : decode cX7_publishEntry 21 = .ok (.astore_n 3, 1) := by decide +kernel
theorem dX7_publishEntry_22 : decode cX7_publishEntry 22 = .ok (.aload_n 2, 1) := by decide +kernel
theorem dX7_publishEntry_23 : decode cX7_publishEntry 23 = .ok (.ifnull 54, 3) := by decide +kernel
theorem dX7_publishEntry_26 : decode cX7_publishEntry 26 = .ok (.aload_n 3, 1) := by decide +kernel
theorem dX7_publishEntry_27 : decode cX7_publishEntry 27 = .ok (.ifnull 50, 3) := by decide +kernel
theorem dX7_publishEntry_30 : decode cX7_publishEntry 30 = .ok (.aload_n 0, 1) := by decide +kernel
theorem dX7_publishEntry_31 : decode cX7_publishEntry 31 = .ok (.dup, 1) := by decide +kernel
theorem dX7_publishEntry_32 : decode cX7_publishEntry 32 = .ok (.getfield 153, 3) := by decide +kernel
theorem dX7_publishEntry_35 : decode cX7_publishEntry 35 = .ok (.iconst 1, 1) := by decide +kernel
theorem dX7_publishEntry_36 : decode cX7_publishEntry 36 = .ok (.iadd, 1) := by decide +kernel
theorem dX7_publishEntry_37 : decode cX7_publishEntry 37 = .ok (.putfield 153, 3) := by decide +kernel
theorem dX7_publishEntry_40 : decode cX7_publishEntry 40 = .ok (.new 130, 3) := by decide +kernel
theorem dX7_publishEntry_43 : decode cX7_publishEntry 43 = .ok (.dup, 1) := by decide +kernel
theorem dX7_publishEntry_44 : decode cX7_publishEntry 44 = .ok (.aload_n 1, 1) := by decide +kernel
theorem dX7_publishEntry_45 : decode cX7_publishEntry 45 = .ok (.getfield 241, 3) := by decide +kernel
theorem dX7_publishEntry_48 : decode cX7_publishEntry 48 = .ok (.aload_n 1, 1) := by decide +kernel
theorem dX7_publishEntry_49 : decode cX7_publishEntry 49 = .ok (.getfield 63, 3) := by decide +kernel
theorem dX7_publishEntry_52 : decode cX7_publishEntry 52 = .ok (.getfield 67, 3) := by decide +kernel
theorem dX7_publishEntry_55 : decode cX7_publishEntry 55 = .ok (.aload_n 2, 1) := by decide +kernel
theorem dX7_publishEntry_56 : decode cX7_publishEntry 56 = .ok (.aload_n 0, 1) := by decide +kernel
theorem dX7_publishEntry_57 : decode cX7_publishEntry 57 = .ok (.getfield 153, 3) := by decide +kernel
theorem dX7_publishEntry_60 : decode cX7_publishEntry 60 = .ok (.invokespecial 244, 3) := by decide +kernel
theorem dX7_publishEntry_63 : decode cX7_publishEntry 63 = .ok (.astore 4, 2) := by decide +kernel
theorem dX7_publishEntry_65 : decode cX7_publishEntry 65 = .ok (.aload_n 3, 1) := by decide +kernel
theorem dX7_publishEntry_66 : decode cX7_publishEntry 66 = .ok (.aload 4, 2) := by decide +kernel
theorem dX7_publishEntry_68 : decode cX7_publishEntry 68 = .ok (.invokevirtual 247, 3) := by decide +kernel
theorem dX7_publishEntry_71 : decode cX7_publishEntry 71 = .ok (.aload_n 1, 1) := by decide +kernel
theorem dX7_publishEntry_72 : decode cX7_publishEntry 72 = .ok (.aload 4, 2) := by decide +kernel
theorem dX7_publishEntry_74 : decode cX7_publishEntry 74 = .ok (.invokevirtual 251, 3) := by decide +kernel
theorem dX7_publishEntry_77 : decode cX7_publishEntry 77 = .ok (.aload_n 1, 1) := by decide +kernel
theorem dX7_publishEntry_78 : decode cX7_publishEntry 78 = .ok (.aload_n 1, 1) := by decide +kernel
theorem dX7_publishEntry_79 : decode cX7_publishEntry 79 = .ok (.getfield 254, 3) := by decide +kernel
theorem dX7_publishEntry_82 : decode cX7_publishEntry 82 = .ok (.iconst 1, 1) := by decide +kernel
theorem dX7_publishEntry_83 : decode cX7_publishEntry 83 = .ok (.iadd, 1) := by decide +kernel
theorem dX7_publishEntry_84 : decode cX7_publishEntry 84 = .ok (.invokevirtual 256, 3) := by decide +kernel
theorem dX7_publishEntry_87 : decode cX7_publishEntry 87 = .ok (.istore 4, 2) := by decide +kernel
theorem dX7_publishEntry_89 : decode cX7_publishEntry 89 = .ok (.iload 4, 2) := by decide +kernel
theorem dX7_publishEntry_91 : decode cX7_publishEntry 91 = .ok (.iconst (-1), 1) := by decide +kernel
theorem dX7_publishEntry_92 : decode cX7_publishEntry 92 = .ok (.if_icmp .ne 10, 3) := by decide +kernel
theorem dX7_publishEntry_95 : decode cX7_publishEntry 95 = .ok (.aload_n 1, 1) := by decide +kernel
theorem dX7_publishEntry_96 : decode cX7_publishEntry 96 = .ok (.invokevirtual 259, 3) := by decide +kernel
theorem dX7_publishEntry_99 : decode cX7_publishEntry 99 = .ok (.goto 9, 3) := by decide +kernel
theorem dX7_publishEntry_102 : decode cX7_publishEntry 102 = .ok (.aload_n 1, 1) := by decide +kernel
theorem dX7_publishEntry_103 : decode cX7_publishEntry 103 = .ok (.iload 4, 2) := by decide +kernel
theorem dX7_publishEntry_105 : decode cX7_publishEntry 105 = .ok (.putfield 254, 3) := by decide +kernel
theorem dX7_publishEntry_108 : decode cX7_publishEntry 108 = .ok (.return_, 1) := by decide +kernel
theorem dX7_lookOn_0 : decode cX7_lookOn 0 = .ok (.aload_n 1, 1) := by decide +kernel
theorem dX7_lookOn_1 : decode cX7_lookOn 1 = .ok (.invokevirtual 195, 3) := by decide +kernel
theorem dX7_lookOn_4 : decode cX7_lookOn 4 = .ok (.astore_n 2, 1) := by decide +kernel
theorem dX7_lookOn_5 : decode cX7_lookOn 5 = .ok (.aload_n 2, 1) := by decide +kernel
theorem dX7_lookOn_6 : decode cX7_lookOn 6 = .ok (.ifnonnull 7, 3) := by decide +kernel
theorem dX7_lookOn_9 : decode cX7_lookOn 9 = .ok (.aconst_null, 1) := by decide +kernel
theorem dX7_lookOn_10 : decode cX7_lookOn 10 = .ok (.goto 11, 3) := by decide +kernel
theorem dX7_lookOn_13 : decode cX7_lookOn 13 = .ok (.aload_n 0, 1) := by decide +kernel
theorem dX7_lookOn_14 : decode cX7_lookOn 14 = .ok (.aload_n 2, 1) := by decide +kernel
theorem dX7_lookOn_15 : decode cX7_lookOn 15 = .ok (.getfield 236, 3) := by decide +kernel
theorem dX7_lookOn_18 : decode cX7_lookOn 18 = .ok (.invokevirtual 52, 3) := by decide +kernel
theorem dX7_lookOn_21 : decode cX7_lookOn 21 = .ok (.astore_n 3, 1) := by decide +kernel
theorem dX7_lookOn_22 : decode cX7_lookOn 22 = .ok (.aload_n 3, 1) := by decide +kernel
theorem dX7_lookOn_23 : decode cX7_lookOn 23 = .ok (.ifnonnull 7, 3) := by decide +kernel
theorem dX7_lookOn_26 : decode cX7_lookOn 26 = .ok (.aconst_null, 1) := by decide +kernel
theorem dX7_lookOn_27 : decode cX7_lookOn 27 = .ok (.goto 11, 3) := by decide +kernel
theorem dX7_lookOn_30 : decode cX7_lookOn 30 = .ok (.aload_n 3, 1) := by decide +kernel
theorem dX7_lookOn_31 : decode cX7_lookOn 31 = .ok (.aload_n 1, 1) := by decide +kernel
theorem dX7_lookOn_32 : decode cX7_lookOn 32 = .ok (.getfield 262, 3) := by decide +kernel
theorem dX7_lookOn_35 : decode cX7_lookOn 35 = .ok (.invokevirtual 265, 3) := by decide +kernel
theorem dX7_lookOn_38 : decode cX7_lookOn 38 = .ok (.astore 4, 2) := by decide +kernel
theorem dX7_lookOn_40 : decode cX7_lookOn 40 = .ok (.aload_n 2, 1) := by decide +kernel
theorem dX7_lookOn_41 : decode cX7_lookOn 41 = .ok (.ifnull 8, 3) := by decide +kernel
theorem dX7_lookOn_44 : decode cX7_lookOn 44 = .ok (.aload 4, 2) := by decide +kernel
theorem dX7_lookOn_46 : decode cX7_lookOn 46 = .ok (.ifnonnull 8, 3) := by decide +kernel
theorem dX7_lookOn_49 : decode cX7_lookOn 49 = .ok (.aload_n 1, 1) := by decide +kernel
theorem dX7_lookOn_50 : decode cX7_lookOn 50 = .ok (.invokevirtual 268, 3) := by decide +kernel
theorem dX7_lookOn_53 : decode cX7_lookOn 53 = .ok (.return_, 1) := by decide +kernel
theorem dX7_lookOn_54 : decode cX7_lookOn 54 = .ok (.aload_n 1, 1) := by decide +kernel
theorem dX7_lookOn_55 : decode cX7_lookOn 55 = .ok (.aload 4, 2) := by decide +kernel
theorem dX7_lookOn_57 : decode cX7_lookOn 57 = .ok (.getfield 271, 3) := by decide +kernel
theorem dX7_lookOn_60 : decode cX7_lookOn 60 = .ok (.putfield 262, 3) := by decide +kernel
theorem dX7_lookOn_63 : decode cX7_lookOn 63 = .ok (.aload 4, 2) := by decide +kernel
theorem dX7_lookOn_65 : decode cX7_lookOn 65 = .ok (.getfield 203, 3) := by decide +kernel
theorem dX7_lookOn_68 : decode cX7_lookOn 68 = .ok (.aload_n 1, 1) := by decide +kernel
theorem dX7_lookOn_69 : decode cX7_lookOn 69 = .ok (.getfield 241, 3) := by decide +kernel
theorem dX7_lookOn_72 : decode cX7_lookOn 72 = .ok (.if_icmp .eq 26, 3) := by decide +kernel
theorem dX7_lookOn_75 : decode cX7_lookOn 75 = .ok (.aload 4, 2) := by decide +kernel
theorem dX7_lookOn_77 : decode cX7_lookOn 77 = .ok (.getfield 272, 3) := by decide +kernel
theorem dX7_lookOn_80 : decode cX7_lookOn 80 = .ok (.aload_n 2, 1) := by decide +kernel
theorem dX7_lookOn_81 : decode cX7_lookOn 81 = .ok (.getfield 273, 3) := by decide +kernel
theorem dX7_lookOn_84 : decode cX7_lookOn 84 = .ok (.if_icmp .eq 14, 3) := by decide +kernel
theorem dX7_lookOn_87 : decode cX7_lookOn 87 = .ok (.aload_n 1, 1) := by decide +kernel
theorem dX7_lookOn_88 : decode cX7_lookOn 88 = .ok (.aload 4, 2) := by decide +kernel
theorem dX7_lookOn_90 : decode cX7_lookOn 90 = .ok (.putfield 199, 3) := by decide +kernel
theorem dX7_lookOn_93 : decode cX7_lookOn 93 = .ok (.aload_n 1, 1) := by decide +kernel
theorem dX7_lookOn_94 : decode cX7_lookOn 94 = .ok (.iconst 4, 1) := by decide +kernel
theorem dX7_lookOn_95 : decode cX7_lookOn 95 = .ok (.putfield 48, 3) := by decide +kernel
theorem dX7_lookOn_98 : decode cX7_lookOn 98 = .ok (.return_, 1) := by decide +kernel
theorem dX7_claimLower_0 : decode cX7_claimLower 0 = .ok (.aload_n 1, 1) := by decide +kernel
theorem dX7_claimLower_1 : decode cX7_claimLower 1 = .ok (.getfield 241, 3) := by decide +kernel
theorem dX7_claimLower_4 : decode cX7_claimLower 4 = .ok (.aload_n 2, 1) := by decide +kernel
theorem dX7_claimLower_5 : decode cX7_claimLower 5 = .ok (.getfield 241, 3) := by decide +kernel
theorem dX7_claimLower_8 : decode cX7_claimLower 8 = .ok (.if_icmp .ge 7, 3) := by decide +kernel
theorem dX7_claimLower_11 : decode cX7_claimLower 11 = .ok (.aload_n 1, 1) := by decide +kernel
theorem dX7_claimLower_12 : decode cX7_claimLower 12 = .ok (.goto 4, 3) := by decide +kernel
theorem dX7_claimLower_15 : decode cX7_claimLower 15 = .ok (.aload_n 2, 1) := by decide +kernel
theorem dX7_claimLower_16 : decode cX7_claimLower 16 = .ok (.astore 4, 2) := by decide +kernel
theorem dX7_claimLower_18 : decode cX7_claimLower 18 = .ok (.aload_n 0, 1) := by decide +kernel
theorem dX7_claimLower_19 : decode cX7_claimLower 19 = .ok (.aload_n 1, 1) := by decide +kernel
theorem dX7_claimLower_20 : decode cX7_claimLower 20 = .ok (.aload 4, 2) := by decide +kernel
theorem dX7_claimLower_22 : decode cX7_claimLower 22 = .ok (.aload_n 3, 1) := by decide +kernel
theorem dX7_claimLower_23 : decode cX7_claimLower 23 = .ok (.invokevirtual 274, 3) := by decide +kernel
theorem dX7_claimLower_26 : decode cX7_claimLower 26 = .ok (.ifCond .eq 11, 3) := by decide +kernel
theorem dX7_claimLower_29 : decode cX7_claimLower 29 = .ok (.aload_n 1, 1) := by decide +kernel
theorem dX7_claimLower_30 : decode cX7_claimLower 30 = .ok (.iconst 5, 1) := by decide +kernel
theorem dX7_claimLower_31 : decode cX7_claimLower 31 = .ok (.putfield 48, 3) := by decide +kernel
theorem dX7_claimLower_34 : decode cX7_claimLower 34 = .ok (.goto 38, 3) := by decide +kernel
theorem dX7_claimLower_37 : decode cX7_claimLower 37 = .ok (.aload 4, 2) := by decide +kernel
theorem dX7_claimLower_39 : decode cX7_claimLower 39 = .ok (.aload_n 1, 1) := by decide +kernel
theorem dX7_claimLower_40 : decode cX7_claimLower 40 = .ok (.if_acmp .ne 20, 3) := by decide +kernel
theorem dX7_claimLower_43 : decode cX7_claimLower 43 = .ok (.aload_n 1, 1) := by decide +kernel
theorem dX7_claimLower_44 : decode cX7_claimLower 44 = .ok (.getfield 63, 3) := by decide +kernel
theorem dX7_claimLower_47 : decode cX7_claimLower 47 = .ok (.invokevirtual 278, 3) := by decide +kernel
theorem dX7_claimLower_50 : decode cX7_claimLower 50 = .ok (.ifCond .eq 10, 3) := by decide +kernel
theorem dX7_claimLower_53 : decode cX7_claimLower 53 = .ok (.aload_n 1, 1) := by decide +kernel
theorem dX7_claimLower_54 : decode cX7_claimLower 54 = .ok (.invokevirtual 104, 3) := by decide +kernel
theorem dX7_claimLower_57 : decode cX7_claimLower 57 = .ok (.goto 15, 3) := by decide +kernel
theorem dX7_claimLower_60 : decode cX7_claimLower 60 = .ok (.aload_n 1, 1) := by decide +kernel
theorem dX7_claimLower_61 : decode cX7_claimLower 61 = .ok (.aload 4, 2) := by decide +kernel
theorem dX7_claimLower_63 : decode cX7_claimLower 63 = .ok (.aload_n 3, 1) := by decide +kernel
theorem dX7_claimLower_64 : decode cX7_claimLower 64 = .ok (.invokestatic 281, 3) := by decide +kernel
theorem dX7_claimLower_67 : decode cX7_claimLower 67 = .ok (.aload_n 1, 1) := by decide +kernel
theorem dX7_claimLower_68 : decode cX7_claimLower 68 = .ok (.iconst 3, 1) := by decide +kernel
theorem dX7_claimLower_69 : decode cX7_claimLower 69 = .ok (.putfield 48, 3) := by decide +kernel
theorem dX7_claimLower_72 : decode cX7_claimLower 72 = .ok (.return_, 1) := by decide +kernel
theorem dX7_claimHigher_0 : decode cX7_claimHigher 0 = .ok (.aload_n 1, 1) := by decide +kernel
theorem dX7_claimHigher_1 : decode cX7_claimHigher 1 = .ok (.getfield 241, 3) := by decide +kernel
theorem dX7_claimHigher_4 : decode cX7_claimHigher 4 = .ok (.aload_n 2, 1) := by decide +kernel
theorem dX7_claimHigher_5 : decode cX7_claimHigher 5 = .ok (.getfield 241, 3) := by decide +kernel
theorem dX7_claimHigher_8 : decode cX7_claimHigher 8 = .ok (.if_icmp .ge 7, 3) := by decide +kernel
theorem dX7_claimHigher_11 : decode cX7_claimHigher 11 = .ok (.aload_n 2, 1) := by decide +kernel
theorem dX7_claimHigher_12 : decode cX7_claimHigher 12 = .ok (.goto 4, 3) := by decide +kernel
theorem dX7_claimHigher_15 : decode cX7_claimHigher 15 = .ok (.aload_n 1, 1) := by decide +kernel
theorem dX7_claimHigher_16 : decode cX7_claimHigher 16 = .ok (.astore 5, 2) := by decide +kernel
theorem dX7_claimHigher_18 : decode cX7_claimHigher 18 = .ok (.aload_n 0, 1) := by decide +kernel
theorem dX7_claimHigher_19 : decode cX7_claimHigher 19 = .ok (.aload_n 1, 1) := by decide +kernel
theorem dX7_claimHigher_20 : decode cX7_claimHigher 20 = .ok (.aload 5, 2) := by decide +kernel
theorem dX7_claimHigher_22 : decode cX7_claimHigher 22 = .ok (.aload_n 3, 1) := by decide +kernel
theorem dX7_claimHigher_23 : decode cX7_claimHigher 23 = .ok (.invokevirtual 274, 3) := by decide +kernel
theorem dX7_claimHigher_26 : decode cX7_claimHigher 26 = .ok (.ifCond .eq 19, 3) := by decide +kernel
theorem dX7_claimHigher_29 : decode cX7_claimHigher 29 = .ok (.aload_n 0, 1) := by decide +kernel
theorem dX7_claimHigher_30 : decode cX7_claimHigher 30 = .ok (.aload_n 1, 1) := by decide +kernel
theorem dX7_claimHigher_31 : decode cX7_claimHigher 31 = .ok (.aload_n 2, 1) := by decide +kernel
theorem dX7_claimHigher_32 : decode cX7_claimHigher 32 = .ok (.aload_n 3, 1) := by decide +kernel
theorem dX7_claimHigher_33 : decode cX7_claimHigher 33 = .ok (.aload 4, 2) := by decide +kernel
theorem dX7_claimHigher_35 : decode cX7_claimHigher 35 = .ok (.invokevirtual 284, 3) := by decide +kernel
theorem dX7_claimHigher_38 : decode cX7_claimHigher 38 = .ok (.aload_n 1, 1) := by decide +kernel
theorem dX7_claimHigher_39 : decode cX7_claimHigher 39 = .ok (.bipush 7, 2) := by decide +kernel
theorem dX7_claimHigher_41 : decode cX7_claimHigher 41 = .ok (.putfield 48, 3) := by decide +kernel
theorem dX7_claimHigher_44 : decode cX7_claimHigher 44 = .ok (.return_, 1) := by decide +kernel
theorem dX7_claimHigher_45 : decode cX7_claimHigher 45 = .ok (.aload_n 1, 1) := by decide +kernel
theorem dX7_claimHigher_46 : decode cX7_claimHigher 46 = .ok (.aload 5, 2) := by decide +kernel
theorem dX7_claimHigher_48 : decode cX7_claimHigher 48 = .ok (.aload_n 3, 1) := by decide +kernel
theorem dX7_claimHigher_49 : decode cX7_claimHigher 49 = .ok (.invokestatic 281, 3) := by decide +kernel
theorem dX7_claimHigher_52 : decode cX7_claimHigher 52 = .ok (.aload_n 1, 1) := by decide +kernel
theorem dX7_claimHigher_53 : decode cX7_claimHigher 53 = .ok (.aload 5, 2) := by decide +kernel
theorem dX7_claimHigher_55 : decode cX7_claimHigher 55 = .ok (.aload_n 1, 1) := by decide +kernel
theorem dX7_claimHigher_56 : decode cX7_claimHigher 56 = .ok (.if_acmp .ne 17, 3) := by decide +kernel
theorem dX7_claimHigher_59 : decode cX7_claimHigher 59 = .ok (.aload_n 1, 1) := by decide +kernel
theorem dX7_claimHigher_60 : decode cX7_claimHigher 60 = .ok (.getfield 63, 3) := by decide +kernel
theorem dX7_claimHigher_63 : decode cX7_claimHigher 63 = .ok (.invokevirtual 278, 3) := by decide +kernel
theorem dX7_claimHigher_66 : decode cX7_claimHigher 66 = .ok (.ifCond .eq 7, 3) := by decide +kernel
theorem dX7_claimHigher_69 : decode cX7_claimHigher 69 = .ok (.iconst 1, 1) := by decide +kernel
theorem dX7_claimHigher_70 : decode cX7_claimHigher 70 = .ok (.goto 4, 3) := by decide +kernel
theorem dX7_claimHigher_73 : decode cX7_claimHigher 73 = .ok (.iconst 0, 1) := by decide +kernel
theorem dX7_claimHigher_74 : decode cX7_claimHigher 74 = .ok (.putfield 287, 3) := by decide +kernel
theorem dX7_claimHigher_77 : decode cX7_claimHigher 77 = .ok (.aload_n 1, 1) := by decide +kernel
theorem dX7_claimHigher_78 : decode cX7_claimHigher 78 = .ok (.bipush 6, 2) := by decide +kernel
theorem dX7_claimHigher_80 : decode cX7_claimHigher 80 = .ok (.putfield 48, 3) := by decide +kernel
theorem dX7_claimHigher_83 : decode cX7_claimHigher 83 = .ok (.return_, 1) := by decide +kernel
theorem dX7_giveBack_0 : decode cX7_giveBack 0 = .ok (.aload_n 1, 1) := by decide +kernel
theorem dX7_giveBack_1 : decode cX7_giveBack 1 = .ok (.getfield 241, 3) := by decide +kernel
theorem dX7_giveBack_4 : decode cX7_giveBack 4 = .ok (.aload_n 2, 1) := by decide +kernel
theorem dX7_giveBack_5 : decode cX7_giveBack 5 = .ok (.getfield 241, 3) := by decide +kernel
theorem dX7_giveBack_8 : decode cX7_giveBack 8 = .ok (.if_icmp .ge 7, 3) := by decide +kernel
theorem dX7_giveBack_11 : decode cX7_giveBack 11 = .ok (.aload_n 1, 1) := by decide +kernel
theorem dX7_giveBack_12 : decode cX7_giveBack 12 = .ok (.goto 4, 3) := by decide +kernel
theorem dX7_giveBack_15 : decode cX7_giveBack 15 = .ok (.aload_n 2, 1) := by decide +kernel
theorem dX7_giveBack_16 : decode cX7_giveBack 16 = .ok (.astore_n 3, 1) := by decide +kernel
theorem dX7_giveBack_17 : decode cX7_giveBack 17 = .ok (.aload_n 3, 1) := by decide +kernel
theorem dX7_giveBack_18 : decode cX7_giveBack 18 = .ok (.getfield 63, 3) := by decide +kernel
theorem dX7_giveBack_21 : decode cX7_giveBack 21 = .ok (.iconst 1, 1) := by decide +kernel
theorem dX7_giveBack_22 : decode cX7_giveBack 22 = .ok (.invokevirtual 107, 3) := by decide +kernel
theorem dX7_giveBack_25 : decode cX7_giveBack 25 = .ok (.aload_n 1, 1) := by decide +kernel
theorem dX7_giveBack_26 : decode cX7_giveBack 26 = .ok (.getfield 287, 3) := by decide +kernel
theorem dX7_giveBack_29 : decode cX7_giveBack 29 = .ok (.ifCond .eq 10, 3) := by decide +kernel
theorem dX7_giveBack_32 : decode cX7_giveBack 32 = .ok (.aload_n 1, 1) := by decide +kernel
theorem dX7_giveBack_33 : decode cX7_giveBack 33 = .ok (.invokevirtual 104, 3) := by decide +kernel
theorem dX7_giveBack_36 : decode cX7_giveBack 36 = .ok (.goto 8, 3) := by decide +kernel
theorem dX7_giveBack_39 : decode cX7_giveBack 39 = .ok (.aload_n 1, 1) := by decide +kernel
theorem dX7_giveBack_40 : decode cX7_giveBack 40 = .ok (.iconst 3, 1) := by decide +kernel
theorem dX7_giveBack_41 : decode cX7_giveBack 41 = .ok (.putfield 48, 3) := by decide +kernel
theorem dX7_giveBack_44 : decode cX7_giveBack 44 = .ok (.return_, 1) := by decide +kernel
theorem dX7_tellOther_0 : decode cX7_tellOther 0 = .ok (.aload_n 2, 1) := by decide +kernel
theorem dX7_tellOther_1 : decode cX7_tellOther 1 = .ok (.getfield 63, 3) := by decide +kernel
theorem dX7_tellOther_4 : decode cX7_tellOther 4 = .ok (.iconst 3, 1) := by decide +kernel
theorem dX7_tellOther_5 : decode cX7_tellOther 5 = .ok (.invokevirtual 107, 3) := by decide +kernel
theorem dX7_tellOther_8 : decode cX7_tellOther 8 = .ok (.aload_n 2, 1) := by decide +kernel
theorem dX7_tellOther_9 : decode cX7_tellOther 9 = .ok (.getfield 118, 3) := by decide +kernel
theorem dX7_tellOther_12 : decode cX7_tellOther 12 = .ok (.aload_n 1, 1) := by decide +kernel
theorem dX7_tellOther_13 : decode cX7_tellOther 13 = .ok (.getfield 241, 3) := by decide +kernel
theorem dX7_tellOther_16 : decode cX7_tellOther 16 = .ok (.aload_n 3, 1) := by decide +kernel
theorem dX7_tellOther_17 : decode cX7_tellOther 17 = .ok (.getfield 236, 3) := by decide +kernel
theorem dX7_tellOther_20 : decode cX7_tellOther 20 = .ok (.aload_n 3, 1) := by decide +kernel
theorem dX7_tellOther_21 : decode cX7_tellOther 21 = .ok (.getfield 273, 3) := by decide +kernel
theorem dX7_tellOther_24 : decode cX7_tellOther 24 = .ok (.ifCond .ne 10, 3) := by decide +kernel
theorem dX7_tellOther_27 : decode cX7_tellOther 27 = .ok (.aload_n 3, 1) := by decide +kernel
theorem dX7_tellOther_28 : decode cX7_tellOther 28 = .ok (.getfield 290, 3) := by decide +kernel
theorem dX7_tellOther_31 : decode cX7_tellOther 31 = .ok (.goto 4, 3) := by decide +kernel
theorem dX7_tellOther_34 : decode cX7_tellOther 34 = .ok (.iconst 0, 1) := by decide +kernel
theorem dX7_tellOther_35 : decode cX7_tellOther 35 = .ok (.aload_n 2, 1) := by decide +kernel
theorem dX7_tellOther_36 : decode cX7_tellOther 36 = .ok (.getfield 63, 3) := by decide +kernel
theorem dX7_tellOther_39 : decode cX7_tellOther 39 = .ok (.getfield 67, 3) := by decide +kernel
theorem dX7_tellOther_42 : decode cX7_tellOther 42 = .ok (.invokevirtual 293, 3) := by decide +kernel
theorem dX7_tellOther_45 : decode cX7_tellOther 45 = .ok (.aload_n 1, 1) := by decide +kernel
theorem dX7_tellOther_46 : decode cX7_tellOther 46 = .ok (.bipush 8, 2) := by decide +kernel
theorem dX7_tellOther_48 : decode cX7_tellOther 48 = .ok (.putfield 48, 3) := by decide +kernel
theorem dX7_tellOther_51 : decode cX7_tellOther 51 = .ok (.return_, 1) := by decide +kernel
theorem dX7_takeOwn_0 : decode cX7_takeOwn 0 = .ok (.aload_n 1, 1) := by decide +kernel
theorem dX7_takeOwn_1 : decode cX7_takeOwn 1 = .ok (.getfield 63, 3) := by decide +kernel
theorem dX7_takeOwn_4 : decode cX7_takeOwn 4 = .ok (.iconst 3, 1) := by decide +kernel
theorem dX7_takeOwn_5 : decode cX7_takeOwn 5 = .ok (.invokevirtual 107, 3) := by decide +kernel
theorem dX7_takeOwn_8 : decode cX7_takeOwn 8 = .ok (.aload_n 1, 1) := by decide +kernel
theorem dX7_takeOwn_9 : decode cX7_takeOwn 9 = .ok (.getfield 118, 3) := by decide +kernel
theorem dX7_takeOwn_12 : decode cX7_takeOwn 12 = .ok (.aload_n 2, 1) := by decide +kernel
theorem dX7_takeOwn_13 : decode cX7_takeOwn 13 = .ok (.getfield 203, 3) := by decide +kernel
theorem dX7_takeOwn_16 : decode cX7_takeOwn 16 = .ok (.aload_n 3, 1) := by decide +kernel
theorem dX7_takeOwn_17 : decode cX7_takeOwn 17 = .ok (.getfield 236, 3) := by decide +kernel
theorem dX7_takeOwn_20 : decode cX7_takeOwn 20 = .ok (.aload_n 3, 1) := by decide +kernel
theorem dX7_takeOwn_21 : decode cX7_takeOwn 21 = .ok (.getfield 273, 3) := by decide +kernel
theorem dX7_takeOwn_24 : decode cX7_takeOwn 24 = .ok (.iconst 1, 1) := by decide +kernel
theorem dX7_takeOwn_25 : decode cX7_takeOwn 25 = .ok (.if_icmp .ne 10, 3) := by decide +kernel
theorem dX7_takeOwn_28 : decode cX7_takeOwn 28 = .ok (.aload_n 2, 1) := by decide +kernel
theorem dX7_takeOwn_29 : decode cX7_takeOwn 29 = .ok (.getfield 297, 3) := by decide +kernel
theorem dX7_takeOwn_32 : decode cX7_takeOwn 32 = .ok (.goto 4, 3) := by decide +kernel
theorem dX7_takeOwn_35 : decode cX7_takeOwn 35 = .ok (.iconst 0, 1) := by decide +kernel
theorem dX7_takeOwn_36 : decode cX7_takeOwn 36 = .ok (.aload_n 1, 1) := by decide +kernel
theorem dX7_takeOwn_37 : decode cX7_takeOwn 37 = .ok (.getfield 63, 3) := by decide +kernel
theorem dX7_takeOwn_40 : decode cX7_takeOwn 40 = .ok (.getfield 67, 3) := by decide +kernel
theorem dX7_takeOwn_43 : decode cX7_takeOwn 43 = .ok (.invokevirtual 293, 3) := by decide +kernel
theorem dX7_takeOwn_46 : decode cX7_takeOwn 46 = .ok (.aload_n 1, 1) := by decide +kernel
theorem dX7_takeOwn_47 : decode cX7_takeOwn 47 = .ok (.invokevirtual 104, 3) := by decide +kernel
theorem dX7_takeOwn_50 : decode cX7_takeOwn 50 = .ok (.return_, 1) := by decide +kernel
theorem dX7_withdrawEntry_0 : decode cX7_withdrawEntry 0 = .ok (.aload_n 1, 1) := by decide +kernel
theorem dX7_withdrawEntry_1 : decode cX7_withdrawEntry 1 = .ok (.invokevirtual 298, 3) := by decide +kernel
theorem dX7_withdrawEntry_4 : decode cX7_withdrawEntry 4 = .ok (.astore_n 2, 1) := by decide +kernel
theorem dX7_withdrawEntry_5 : decode cX7_withdrawEntry 5 = .ok (.aload_n 2, 1) := by decide +kernel
theorem dX7_withdrawEntry_6 : decode cX7_withdrawEntry 6 = .ok (.ifnonnull 7, 3) := by decide +kernel
theorem dX7_withdrawEntry_9 : decode cX7_withdrawEntry 9 = .ok (.aconst_null, 1) := by decide +kernel
theorem dX7_withdrawEntry_10 : decode cX7_withdrawEntry 10 = .ok (.goto 11, 3) := by decide +kernel
theorem dX7_withdrawEntry_13 : decode cX7_withdrawEntry 13 = .ok (.aload_n 0, 1) := by decide +kernel
theorem dX7_withdrawEntry_14 : decode cX7_withdrawEntry 14 = .ok (.aload_n 2, 1) := by decide +kernel
theorem dX7_withdrawEntry_15 : decode cX7_withdrawEntry 15 = .ok (.getfield 302, 3) := by decide +kernel
theorem dX7_withdrawEntry_18 : decode cX7_withdrawEntry 18 = .ok (.invokevirtual 52, 3) := by decide +kernel
theorem dX7_withdrawEntry_21 : decode cX7_withdrawEntry 21 = .ok (.astore_n 3, 1) := by decide +kernel
theorem dX7_withdrawEntry_22 : decode cX7_withdrawEntry 22 = .ok (.aload_n 2, 1) := by decide +kernel
theorem dX7_withdrawEntry_23 : decode cX7_withdrawEntry 23 = .ok (.ifnull 25, 3) := by decide +kernel
theorem dX7_withdrawEntry_26 : decode cX7_withdrawEntry 26 = .ok (.aload_n 3, 1) := by decide +kernel
theorem dX7_withdrawEntry_27 : decode cX7_withdrawEntry 27 = .ok (.ifnull 21, 3) := by decide +kernel
theorem dX7_withdrawEntry_30 : decode cX7_withdrawEntry 30 = .ok (.aload_n 3, 1) := by decide +kernel
theorem dX7_withdrawEntry_31 : decode cX7_withdrawEntry 31 = .ok (.aload_n 2, 1) := by decide +kernel
theorem dX7_withdrawEntry_32 : decode cX7_withdrawEntry 32 = .ok (.getfield 271, 3) := by decide +kernel
theorem dX7_withdrawEntry_35 : decode cX7_withdrawEntry 35 = .ok (.invokevirtual 303, 3) := by decide +kernel
theorem dX7_withdrawEntry_38 : decode cX7_withdrawEntry 38 = .ok (.aload_n 1, 1) := by decide +kernel
theorem dX7_withdrawEntry_39 : decode cX7_withdrawEntry 39 = .ok (.dup, 1) := by decide +kernel
theorem dX7_withdrawEntry_40 : decode cX7_withdrawEntry 40 = .ok (.getfield 306, 3) := by decide +kernel
theorem dX7_withdrawEntry_43 : decode cX7_withdrawEntry 43 = .ok (.iconst 1, 1) := by decide +kernel
theorem dX7_withdrawEntry_44 : decode cX7_withdrawEntry 44 = .ok (.iadd, 1) := by decide +kernel
theorem dX7_withdrawEntry_45 : decode cX7_withdrawEntry 45 = .ok (.putfield 306, 3) := by decide +kernel
theorem dX7_withdrawEntry_48 : decode cX7_withdrawEntry 48 = .ok (.aload_n 1, 1) := by decide +kernel
theorem dX7_withdrawEntry_49 : decode cX7_withdrawEntry 49 = .ok (.invokevirtual 104, 3) := by decide +kernel
theorem dX7_withdrawEntry_52 : decode cX7_withdrawEntry 52 = .ok (.return_, 1) := by decide +kernel
theorem dX7_tryWord_0 : decode cX7_tryWord 0 = .ok (.aload_n 0, 1) := by decide +kernel
theorem dX7_tryWord_1 : decode cX7_tryWord 1 = .ok (.dup, 1) := by decide +kernel
theorem dX7_tryWord_2 : decode cX7_tryWord 2 = .ok (.getfield 156, 3) := by decide +kernel
theorem dX7_tryWord_5 : decode cX7_tryWord 5 = .ok (.iconst 1, 1) := by decide +kernel
theorem dX7_tryWord_6 : decode cX7_tryWord 6 = .ok (.iadd, 1) := by decide +kernel
theorem dX7_tryWord_7 : decode cX7_tryWord 7 = .ok (.putfield 156, 3) := by decide +kernel
theorem dX7_tryWord_10 : decode cX7_tryWord 10 = .ok (.aload_n 2, 1) := by decide +kernel
theorem dX7_tryWord_11 : decode cX7_tryWord 11 = .ok (.getfield 63, 3) := by decide +kernel
theorem dX7_tryWord_14 : decode cX7_tryWord 14 = .ok (.iconst 1, 1) := by decide +kernel
theorem dX7_tryWord_15 : decode cX7_tryWord 15 = .ok (.aload_n 1, 1) := by decide +kernel
theorem dX7_tryWord_16 : decode cX7_tryWord 16 = .ok (.aload_n 2, 1) := by decide +kernel
theorem dX7_tryWord_17 : decode cX7_tryWord 17 = .ok (.aload_n 3, 1) := by decide +kernel
theorem dX7_tryWord_18 : decode cX7_tryWord 18 = .ok (.invokestatic 309, 3) := by decide +kernel
theorem dX7_tryWord_21 : decode cX7_tryWord 21 = .ok (.invokevirtual 313, 3) := by decide +kernel
theorem dX7_tryWord_24 : decode cX7_tryWord 24 = .ok (.ifCond .eq 16, 3) := by decide +kernel
theorem dX7_tryWord_27 : decode cX7_tryWord 27 = .ok (.aload_n 2, 1) := by decide +kernel
theorem dX7_tryWord_28 : decode cX7_tryWord 28 = .ok (.getfield 63, 3) := by decide +kernel
theorem dX7_tryWord_31 : decode cX7_tryWord 31 = .ok (.aload_n 1, 1) := by decide +kernel
theorem dX7_tryWord_32 : decode cX7_tryWord 32 = .ok (.getfield 241, 3) := by decide +kernel
theorem dX7_tryWord_35 : decode cX7_tryWord 35 = .ok (.invokevirtual 317, 3) := by decide +kernel
theorem dX7_tryWord_38 : decode cX7_tryWord 38 = .ok (.iconst 1, 1) := by decide +kernel
theorem dX7_tryWord_39 : decode cX7_tryWord 39 = .ok (.ireturn, 1) := by decide +kernel
theorem dX7_tryWord_40 : decode cX7_tryWord 40 = .ok (.aload_n 0, 1) := by decide +kernel
theorem dX7_tryWord_41 : decode cX7_tryWord 41 = .ok (.dup, 1) := by decide +kernel
theorem dX7_tryWord_42 : decode cX7_tryWord 42 = .ok (.getfield 159, 3) := by decide +kernel
theorem dX7_tryWord_45 : decode cX7_tryWord 45 = .ok (.iconst 1, 1) := by decide +kernel
theorem dX7_tryWord_46 : decode cX7_tryWord 46 = .ok (.iadd, 1) := by decide +kernel
theorem dX7_tryWord_47 : decode cX7_tryWord 47 = .ok (.putfield 159, 3) := by decide +kernel
theorem dX7_tryWord_50 : decode cX7_tryWord 50 = .ok (.iconst 0, 1) := by decide +kernel
theorem dX7_tryWord_51 : decode cX7_tryWord 51 = .ok (.ireturn, 1) := by decide +kernel
theorem dX7_noteBusy_0 : decode cX7_noteBusy 0 = .ok (.aload_n 1, 1) := by decide +kernel
theorem dX7_noteBusy_1 : decode cX7_noteBusy 1 = .ok (.getfield 63, 3) := by decide +kernel
theorem dX7_noteBusy_4 : decode cX7_noteBusy 4 = .ok (.iconst 2, 1) := by decide +kernel
theorem dX7_noteBusy_5 : decode cX7_noteBusy 5 = .ok (.aload_n 0, 1) := by decide +kernel
theorem dX7_noteBusy_6 : decode cX7_noteBusy 6 = .ok (.aload_n 1, 1) := by decide +kernel
theorem dX7_noteBusy_7 : decode cX7_noteBusy 7 = .ok (.aload_n 2, 1) := by decide +kernel
theorem dX7_noteBusy_8 : decode cX7_noteBusy 8 = .ok (.invokestatic 309, 3) := by decide +kernel
theorem dX7_noteBusy_11 : decode cX7_noteBusy 11 = .ok (.invokevirtual 313, 3) := by decide +kernel
theorem dX7_noteBusy_14 : decode cX7_noteBusy 14 = .ok (.ifCond .eq 8, 3) := by decide +kernel
theorem dX7_noteBusy_17 : decode cX7_noteBusy 17 = .ok (.aload_n 0, 1) := by decide +kernel
theorem dX7_noteBusy_18 : decode cX7_noteBusy 18 = .ok (.iconst 1, 1) := by decide +kernel
theorem dX7_noteBusy_19 : decode cX7_noteBusy 19 = .ok (.putfield 320, 3) := by decide +kernel
theorem dX7_noteBusy_22 : decode cX7_noteBusy 22 = .ok (.return_, 1) := by decide +kernel
theorem dX7_versionSought_0 : decode cX7_versionSought 0 = .ok (.aload_n 1, 1) := by decide +kernel
theorem dX7_versionSought_1 : decode cX7_versionSought 1 = .ok (.aload_n 0, 1) := by decide +kernel
theorem dX7_versionSought_2 : decode cX7_versionSought 2 = .ok (.if_acmp .ne 13, 3) := by decide +kernel
theorem dX7_versionSought_5 : decode cX7_versionSought 5 = .ok (.aload_n 0, 1) := by decide +kernel
theorem dX7_versionSought_6 : decode cX7_versionSought 6 = .ok (.getfield 63, 3) := by decide +kernel
theorem dX7_versionSought_9 : decode cX7_versionSought 9 = .ok (.getfield 67, 3) := by decide +kernel
theorem dX7_versionSought_12 : decode cX7_versionSought 12 = .ok (.goto 7, 3) := by decide +kernel
theorem dX7_versionSought_15 : decode cX7_versionSought 15 = .ok (.aload_n 2, 1) := by decide +kernel
theorem dX7_versionSought_16 : decode cX7_versionSought 16 = .ok (.getfield 323, 3) := by decide +kernel
theorem dX7_versionSought_19 : decode cX7_versionSought 19 = .ok (.ireturn, 1) := by decide +kernel
theorem dX7_recordPair_0 : decode cX7_recordPair 0 = .ok (.aload_n 0, 1) := by decide +kernel
theorem dX7_recordPair_1 : decode cX7_recordPair 1 = .ok (.getfield 37, 3) := by decide +kernel
theorem dX7_recordPair_4 : decode cX7_recordPair 4 = .ok (.aload_n 1, 1) := by decide +kernel
theorem dX7_recordPair_5 : decode cX7_recordPair 5 = .ok (.aload_n 3, 1) := by decide +kernel
theorem dX7_recordPair_6 : decode cX7_recordPair 6 = .ok (.aload 4, 2) := by decide +kernel
theorem dX7_recordPair_8 : decode cX7_recordPair 8 = .ok (.aload_n 0, 1) := by decide +kernel
theorem dX7_recordPair_9 : decode cX7_recordPair 9 = .ok (.getfield 147, 3) := by decide +kernel
theorem dX7_recordPair_12 : decode cX7_recordPair 12 = .ok (.invokevirtual 324, 3) := by decide +kernel
theorem dX7_recordPair_15 : decode cX7_recordPair 15 = .ok (.aload_n 1, 1) := by decide +kernel
theorem dX7_recordPair_16 : decode cX7_recordPair 16 = .ok (.dup, 1) := by decide +kernel
theorem dX7_recordPair_17 : decode cX7_recordPair 17 = .ok (.getfield 328, 3) := by decide +kernel
theorem dX7_recordPair_20 : decode cX7_recordPair 20 = .ok (.iconst 1, 1) := by decide +kernel
theorem dX7_recordPair_21 : decode cX7_recordPair 21 = .ok (.iadd, 1) := by decide +kernel
theorem dX7_recordPair_22 : decode cX7_recordPair 22 = .ok (.putfield 328, 3) := by decide +kernel
theorem dX7_recordPair_25 : decode cX7_recordPair 25 = .ok (.aload_n 0, 1) := by decide +kernel
theorem dX7_recordPair_26 : decode cX7_recordPair 26 = .ok (.aload_n 1, 1) := by decide +kernel
theorem dX7_recordPair_27 : decode cX7_recordPair 27 = .ok (.invokevirtual 233, 3) := by decide +kernel
theorem dX7_recordPair_30 : decode cX7_recordPair 30 = .ok (.aload_n 2, 1) := by decide +kernel
theorem dX7_recordPair_31 : decode cX7_recordPair 31 = .ok (.dup, 1) := by decide +kernel
theorem dX7_recordPair_32 : decode cX7_recordPair 32 = .ok (.getfield 328, 3) := by decide +kernel
theorem dX7_recordPair_35 : decode cX7_recordPair 35 = .ok (.iconst 1, 1) := by decide +kernel
theorem dX7_recordPair_36 : decode cX7_recordPair 36 = .ok (.iadd, 1) := by decide +kernel
theorem dX7_recordPair_37 : decode cX7_recordPair 37 = .ok (.putfield 328, 3) := by decide +kernel
theorem dX7_recordPair_40 : decode cX7_recordPair 40 = .ok (.aload_n 0, 1) := by decide +kernel
theorem dX7_recordPair_41 : decode cX7_recordPair 41 = .ok (.aload_n 2, 1) := by decide +kernel
theorem dX7_recordPair_42 : decode cX7_recordPair 42 = .ok (.invokevirtual 233, 3) := by decide +kernel
theorem dX7_recordPair_45 : decode cX7_recordPair 45 = .ok (.return_, 1) := by decide +kernel
theorem dX7_noteDouble_0 : decode cX7_noteDouble 0 = .ok (.aload_n 1, 1) := by decide +kernel
theorem dX7_noteDouble_1 : decode cX7_noteDouble 1 = .ok (.getfield 328, 3) := by decide +kernel
theorem dX7_noteDouble_4 : decode cX7_noteDouble 4 = .ok (.iconst 1, 1) := by decide +kernel
theorem dX7_noteDouble_5 : decode cX7_noteDouble 5 = .ok (.if_icmp .gt 18, 3) := by decide +kernel
theorem dX7_noteDouble_8 : decode cX7_noteDouble 8 = .ok (.aload_n 1, 1) := by decide +kernel
theorem dX7_noteDouble_9 : decode cX7_noteDouble 9 = .ok (.getfield 328, 3) := by decide +kernel
theorem dX7_noteDouble_12 : decode cX7_noteDouble 12 = .ok (.iconst 1, 1) := by decide +kernel
theorem dX7_noteDouble_13 : decode cX7_noteDouble 13 = .ok (.if_icmp .ne 14, 3) := by decide +kernel
theorem dX7_noteDouble_16 : decode cX7_noteDouble 16 = .ok (.aload_n 1, 1) := by decide +kernel
theorem dX7_noteDouble_17 : decode cX7_noteDouble 17 = .ok (.getfield 229, 3) := by decide +kernel
theorem dX7_noteDouble_20 : decode cX7_noteDouble 20 = .ok (.ifCond .eq 7, 3) := by decide +kernel
theorem dX7_noteDouble_23 : decode cX7_noteDouble 23 = .ok (.iconst 1, 1) := by decide +kernel
theorem dX7_noteDouble_24 : decode cX7_noteDouble 24 = .ok (.goto 4, 3) := by decide +kernel
theorem dX7_noteDouble_27 : decode cX7_noteDouble 27 = .ok (.iconst 0, 1) := by decide +kernel
theorem dX7_noteDouble_28 : decode cX7_noteDouble 28 = .ok (.istore_n 2, 1) := by decide +kernel
theorem dX7_noteDouble_29 : decode cX7_noteDouble 29 = .ok (.iload_n 2, 1) := by decide +kernel
theorem dX7_noteDouble_30 : decode cX7_noteDouble 30 = .ok (.ifCond .eq 25, 3) := by decide +kernel
theorem dX7_noteDouble_33 : decode cX7_noteDouble 33 = .ok (.aload_n 1, 1) := by decide +kernel
theorem dX7_noteDouble_34 : decode cX7_noteDouble 34 = .ok (.getfield 331, 3) := by decide +kernel
theorem dX7_noteDouble_37 : decode cX7_noteDouble 37 = .ok (.ifCond .ne 18, 3) := by decide +kernel
theorem dX7_noteDouble_40 : decode cX7_noteDouble 40 = .ok (.aload_n 1, 1) := by decide +kernel
theorem dX7_noteDouble_41 : decode cX7_noteDouble 41 = .ok (.iconst 1, 1) := by decide +kernel
theorem dX7_noteDouble_42 : decode cX7_noteDouble 42 = .ok (.putfield 331, 3) := by decide +kernel
theorem dX7_noteDouble_45 : decode cX7_noteDouble 45 = .ok (.aload_n 0, 1) := by decide +kernel
theorem dX7_noteDouble_46 : decode cX7_noteDouble 46 = .ok (.dup, 1) := by decide +kernel
theorem dX7_noteDouble_47 : decode cX7_noteDouble 47 = .ok (.getfield 134, 3) := by decide +kernel
theorem dX7_noteDouble_50 : decode cX7_noteDouble 50 = .ok (.iconst 1, 1) := by decide +kernel
theorem dX7_noteDouble_51 : decode cX7_noteDouble 51 = .ok (.iadd, 1) := by decide +kernel
theorem dX7_noteDouble_52 : decode cX7_noteDouble 52 = .ok (.putfield 134, 3) := by decide +kernel
theorem dX7_noteDouble_55 : decode cX7_noteDouble 55 = .ok (.return_, 1) := by decide +kernel

theorem d_X_letter_1 : decode b_X_letter 1 = .ok (.getfield 22, 3) := by decide +kernel
theorem d_X_letter_4 : decode b_X_letter 4 = .ok (.iload_n 1, 1) := by decide +kernel
theorem d_X_letter_5 : decode b_X_letter 5 = .ok (.invokevirtual 129, 3) := by decide +kernel
theorem d_X_letter_8 : decode b_X_letter 8 = .ok (.ifCond .ne 5, 3) := by decide +kernel
theorem d_X_letter_11 : decode b_X_letter 11 = .ok (.iconst (-1), 1) := by decide +kernel
theorem d_X_letter_12 : decode b_X_letter 12 = .ok (.ireturn, 1) := by decide +kernel
theorem d_X_letter_13 : decode b_X_letter 13 = .ok (.iload_n 2, 1) := by decide +kernel
theorem d_X_letter_14 : decode b_X_letter 14 = .ok (.tableswitch 56 0 2 #[26, 36, 46], 26) := by decide +kernel
theorem d_X_letter_40 : decode b_X_letter 40 = .ok (.aload_n 0, 1) := by decide +kernel
theorem d_X_letter_41 : decode b_X_letter 41 = .ok (.getfield 22, 3) := by decide +kernel
theorem d_X_letter_44 : decode b_X_letter 44 = .ok (.getfield 109, 3) := by decide +kernel
theorem d_X_letter_47 : decode b_X_letter 47 = .ok (.iload_n 1, 1) := by decide +kernel
theorem d_X_letter_48 : decode b_X_letter 48 = .ok (.iaload, 1) := by decide +kernel
theorem d_X_letter_49 : decode b_X_letter 49 = .ok (.ireturn, 1) := by decide +kernel
theorem d_X_letter_50 : decode b_X_letter 50 = .ok (.aload_n 0, 1) := by decide +kernel
theorem d_X_letter_51 : decode b_X_letter 51 = .ok (.getfield 22, 3) := by decide +kernel
theorem d_X_letter_54 : decode b_X_letter 54 = .ok (.getfield 118, 3) := by decide +kernel
theorem d_X_letter_57 : decode b_X_letter 57 = .ok (.iload_n 1, 1) := by decide +kernel
theorem d_X_letter_58 : decode b_X_letter 58 = .ok (.iaload, 1) := by decide +kernel
theorem d_X_letter_59 : decode b_X_letter 59 = .ok (.ireturn, 1) := by decide +kernel
theorem d_X_letter_60 : decode b_X_letter 60 = .ok (.aload_n 0, 1) := by decide +kernel
theorem d_X_letter_61 : decode b_X_letter 61 = .ok (.getfield 22, 3) := by decide +kernel
theorem d_X_letter_64 : decode b_X_letter 64 = .ok (.getfield 112, 3) := by decide +kernel
theorem d_X_letter_67 : decode b_X_letter 67 = .ok (.iload_n 1, 1) := by decide +kernel
theorem d_X_letter_68 : decode b_X_letter 68 = .ok (.iaload, 1) := by decide +kernel
theorem d_X_letter_69 : decode b_X_letter 69 = .ok (.ireturn, 1) := by decide +kernel
theorem d_X_letter_70 : decode b_X_letter 70 = .ok (.iconst (-1), 1) := by decide +kernel
theorem d_X_letter_71 : decode b_X_letter 71 = .ok (.ireturn, 1) := by decide +kernel
theorem d_X_giveUp_0 : decode b_X_giveUp 0 = .ok (.aload_n 0, 1) := by decide +kernel
theorem d_X_giveUp_1 : decode b_X_giveUp 1 = .ok (.iload_n 1, 1) := by decide +kernel
theorem d_X_giveUp_2 : decode b_X_giveUp 2 = .ok (.invokevirtual 102, 3) := by decide +kernel
theorem d_X_giveUp_5 : decode b_X_giveUp 5 = .ok (.astore_n 2, 1) := by decide +kernel
theorem d_X_giveUp_6 : decode b_X_giveUp 6 = .ok (.aload_n 2, 1) := by decide +kernel
theorem d_X_giveUp_7 : decode b_X_giveUp 7 = .ok (.ifnonnull 5, 3) := by decide +kernel
theorem d_X_giveUp_10 : decode b_X_giveUp 10 = .ok (.iconst 0, 1) := by decide +kernel
theorem d_X_giveUp_11 : decode b_X_giveUp 11 = .ok (.ireturn, 1) := by decide +kernel
theorem d_X_giveUp_12 : decode b_X_giveUp 12 = .ok (.aload_n 0, 1) := by decide +kernel
theorem d_X_giveUp_13 : decode b_X_giveUp 13 = .ok (.aload_n 2, 1) := by decide +kernel
theorem d_X_giveUp_14 : decode b_X_giveUp 14 = .ok (.iconst 4, 1) := by decide +kernel
theorem d_X_giveUp_15 : decode b_X_giveUp 15 = .ok (.invokevirtual 136, 3) := by decide +kernel
theorem d_X_giveUp_18 : decode b_X_giveUp 18 = .ok (.iconst 1, 1) := by decide +kernel
theorem d_X_giveUp_19 : decode b_X_giveUp 19 = .ok (.ireturn, 1) := by decide +kernel
theorem d_X_result_0 : decode b_X_result 0 = .ok (.aload_n 0, 1) := by decide +kernel
theorem d_X_result_1 : decode b_X_result 1 = .ok (.iload_n 1, 1) := by decide +kernel
theorem d_X_result_2 : decode b_X_result 2 = .ok (.invokevirtual 99, 3) := by decide +kernel
theorem d_X_result_5 : decode b_X_result 5 = .ok (.ifCond .eq 12, 3) := by decide +kernel
theorem d_X_result_8 : decode b_X_result 8 = .ok (.aload_n 0, 1) := by decide +kernel
theorem d_X_result_9 : decode b_X_result 9 = .ok (.getfield 32, 3) := by decide +kernel
theorem d_X_result_12 : decode b_X_result 12 = .ok (.iload_n 1, 1) := by decide +kernel
theorem d_X_result_13 : decode b_X_result 13 = .ok (.iaload, 1) := by decide +kernel
theorem d_X_result_14 : decode b_X_result 14 = .ok (.goto 4, 3) := by decide +kernel
theorem d_X_result_17 : decode b_X_result 17 = .ok (.iconst (-1), 1) := by decide +kernel
theorem d_X_result_18 : decode b_X_result 18 = .ok (.ireturn, 1) := by decide +kernel
theorem d_X_close_0 : decode b_X_close 0 = .ok (.iload_n 1, 1) := by decide +kernel
theorem d_X_close_1 : decode b_X_close 1 = .ok (.invokestatic 63, 3) := by decide +kernel
theorem d_X_close_4 : decode b_X_close 4 = .ok (.ifCond .eq 15, 3) := by decide +kernel
theorem d_X_close_7 : decode b_X_close 7 = .ok (.aload_n 0, 1) := by decide +kernel
theorem d_X_close_8 : decode b_X_close 8 = .ok (.getfield 11, 3) := by decide +kernel
theorem d_X_close_11 : decode b_X_close 11 = .ok (.iload_n 1, 1) := by decide +kernel
theorem d_X_close_12 : decode b_X_close 12 = .ok (.aaload, 1) := by decide +kernel
theorem d_X_close_13 : decode b_X_close 13 = .ok (.getfield 140, 3) := by decide +kernel
theorem d_X_close_16 : decode b_X_close 16 = .ok (.ifCond .ne 5, 3) := by decide +kernel
theorem d_X_close_19 : decode b_X_close 19 = .ok (.iconst 0, 1) := by decide +kernel
theorem d_X_close_20 : decode b_X_close 20 = .ok (.ireturn, 1) := by decide +kernel
theorem d_X_close_21 : decode b_X_close 21 = .ok (.aload_n 0, 1) := by decide +kernel
theorem d_X_close_22 : decode b_X_close 22 = .ok (.getfield 11, 3) := by decide +kernel
theorem d_X_close_25 : decode b_X_close 25 = .ok (.iload_n 1, 1) := by decide +kernel
theorem d_X_close_26 : decode b_X_close 26 = .ok (.aaload, 1) := by decide +kernel
theorem d_X_close_27 : decode b_X_close 27 = .ok (.iconst 0, 1) := by decide +kernel
theorem d_X_close_28 : decode b_X_close 28 = .ok (.putfield 140, 3) := by decide +kernel
theorem d_X_close_31 : decode b_X_close 31 = .ok (.iconst 1, 1) := by decide +kernel
theorem d_X_close_32 : decode b_X_close 32 = .ok (.ireturn, 1) := by decide +kernel
theorem d_X_open_0 : decode b_X_open 0 = .ok (.iload_n 1, 1) := by decide +kernel
theorem d_X_open_1 : decode b_X_open 1 = .ok (.invokestatic 63, 3) := by decide +kernel
theorem d_X_open_4 : decode b_X_open 4 = .ok (.ifCond .eq 15, 3) := by decide +kernel
theorem d_X_open_7 : decode b_X_open 7 = .ok (.aload_n 0, 1) := by decide +kernel
theorem d_X_open_8 : decode b_X_open 8 = .ok (.getfield 11, 3) := by decide +kernel
theorem d_X_open_11 : decode b_X_open 11 = .ok (.iload_n 1, 1) := by decide +kernel
theorem d_X_open_12 : decode b_X_open 12 = .ok (.aaload, 1) := by decide +kernel
theorem d_X_open_13 : decode b_X_open 13 = .ok (.getfield 140, 3) := by decide +kernel
theorem d_X_open_16 : decode b_X_open 16 = .ok (.ifCond .eq 5, 3) := by decide +kernel
theorem d_X_open_19 : decode b_X_open 19 = .ok (.iconst 0, 1) := by decide +kernel
theorem d_X_open_20 : decode b_X_open 20 = .ok (.ireturn, 1) := by decide +kernel
theorem d_X_open_21 : decode b_X_open 21 = .ok (.aload_n 0, 1) := by decide +kernel
theorem d_X_open_22 : decode b_X_open 22 = .ok (.getfield 11, 3) := by decide +kernel
theorem d_X_open_25 : decode b_X_open 25 = .ok (.iload_n 1, 1) := by decide +kernel
theorem d_X_open_26 : decode b_X_open 26 = .ok (.aaload, 1) := by decide +kernel
theorem d_X_open_27 : decode b_X_open 27 = .ok (.iconst 1, 1) := by decide +kernel
theorem d_X_open_28 : decode b_X_open 28 = .ok (.putfield 140, 3) := by decide +kernel
theorem d_X_open_31 : decode b_X_open 31 = .ok (.iconst 1, 1) := by decide +kernel
theorem d_X_open_32 : decode b_X_open 32 = .ok (.ireturn, 1) := by decide +kernel
theorem d_X_round_0 : decode b_X_round 0 = .ok (.aload_n 0, 1) := by decide +kernel
theorem d_X_round_1 : decode b_X_round 1 = .ok (.getfield 38, 3) := by decide +kernel
theorem d_X_round_4 : decode b_X_round 4 = .ok (.getfield 88, 3) := by decide +kernel
theorem d_X_round_7 : decode b_X_round 7 = .ok (.ireturn, 1) := by decide +kernel
theorem d_X_done_0 : decode b_X_done 0 = .ok (.aload_n 0, 1) := by decide +kernel
theorem d_X_done_1 : decode b_X_done 1 = .ok (.getfield 38, 3) := by decide +kernel
theorem d_X_done_4 : decode b_X_done 4 = .ok (.getfield 144, 3) := by decide +kernel
theorem d_X_done_7 : decode b_X_done 7 = .ok (.ireturn, 1) := by decide +kernel
theorem d_X_mends_0 : decode b_X_mends 0 = .ok (.iload_n 1, 1) := by decide +kernel
theorem d_X_mends_1 : decode b_X_mends 1 = .ok (.invokestatic 63, 3) := by decide +kernel
theorem d_X_mends_4 : decode b_X_mends 4 = .ok (.ifCond .eq 15, 3) := by decide +kernel
theorem d_X_mends_7 : decode b_X_mends 7 = .ok (.aload_n 0, 1) := by decide +kernel
theorem d_X_mends_8 : decode b_X_mends 8 = .ok (.getfield 11, 3) := by decide +kernel
theorem d_X_mends_11 : decode b_X_mends 11 = .ok (.iload_n 1, 1) := by decide +kernel
theorem d_X_mends_12 : decode b_X_mends 12 = .ok (.aaload, 1) := by decide +kernel
theorem d_X_mends_13 : decode b_X_mends 13 = .ok (.getfield 152, 3) := by decide +kernel
theorem d_X_mends_16 : decode b_X_mends 16 = .ok (.goto 4, 3) := by decide +kernel
theorem d_X_mends_19 : decode b_X_mends 19 = .ok (.iconst (-1), 1) := by decide +kernel
theorem d_X_mends_20 : decode b_X_mends 20 = .ok (.ireturn, 1) := by decide +kernel
theorem d_X_disputes_0 : decode b_X_disputes 0 = .ok (.aload_n 0, 1) := by decide +kernel
theorem d_X_disputes_1 : decode b_X_disputes 1 = .ok (.getfield 46, 3) := by decide +kernel
theorem d_X_disputes_4 : decode b_X_disputes 4 = .ok (.ireturn, 1) := by decide +kernel
theorem d_M_isHouse_0 : decode b_M_isHouse 0 = .ok (.iload_n 0, 1) := by decide +kernel
theorem d_M_isHouse_1 : decode b_M_isHouse 1 = .ok (.ifCond .lt 12, 3) := by decide +kernel
theorem d_M_isHouse_4 : decode b_M_isHouse 4 = .ok (.iload_n 0, 1) := by decide +kernel
theorem d_M_isHouse_5 : decode b_M_isHouse 5 = .ok (.iconst 3, 1) := by decide +kernel
theorem d_M_isHouse_6 : decode b_M_isHouse 6 = .ok (.if_icmp .ge 7, 3) := by decide +kernel
theorem d_M_isHouse_9 : decode b_M_isHouse 9 = .ok (.iconst 1, 1) := by decide +kernel
theorem d_M_isHouse_10 : decode b_M_isHouse 10 = .ok (.goto 4, 3) := by decide +kernel
theorem d_M_isHouse_13 : decode b_M_isHouse 13 = .ok (.iconst 0, 1) := by decide +kernel
theorem d_M_isHouse_14 : decode b_M_isHouse 14 = .ok (.ireturn, 1) := by decide +kernel
theorem d_M_blocksOf_0 : decode b_M_blocksOf 0 = .ok (.iload_n 1, 1) := by decide +kernel
theorem d_M_blocksOf_1 : decode b_M_blocksOf 1 = .ok (.ifCond .lt 18, 3) := by decide +kernel
theorem d_M_blocksOf_4 : decode b_M_blocksOf 4 = .ok (.iload_n 1, 1) := by decide +kernel
theorem d_M_blocksOf_5 : decode b_M_blocksOf 5 = .ok (.bipush 6, 2) := by decide +kernel
theorem d_M_blocksOf_7 : decode b_M_blocksOf 7 = .ok (.if_icmp .ge 12, 3) := by decide +kernel
theorem d_M_blocksOf_10 : decode b_M_blocksOf 10 = .ok (.aload_n 0, 1) := by decide +kernel
theorem d_M_blocksOf_11 : decode b_M_blocksOf 11 = .ok (.getfield 13, 3) := by decide +kernel
theorem d_M_blocksOf_14 : decode b_M_blocksOf 14 = .ok (.iload_n 1, 1) := by decide +kernel
theorem d_M_blocksOf_15 : decode b_M_blocksOf 15 = .ok (.iaload, 1) := by decide +kernel
theorem d_M_blocksOf_16 : decode b_M_blocksOf 16 = .ok (.goto 4, 3) := by decide +kernel
theorem d_M_blocksOf_19 : decode b_M_blocksOf 19 = .ok (.iconst 0, 1) := by decide +kernel
theorem d_M_blocksOf_20 : decode b_M_blocksOf 20 = .ok (.ireturn, 1) := by decide +kernel
theorem d_M_isByte_0 : decode b_M_isByte 0 = .ok (.iload_n 1, 1) := by decide +kernel
theorem d_M_isByte_1 : decode b_M_isByte 1 = .ok (.invokestatic 76, 3) := by decide +kernel
theorem d_M_isByte_4 : decode b_M_isByte 4 = .ok (.ifCond .eq 22, 3) := by decide +kernel
theorem d_M_isByte_7 : decode b_M_isByte 7 = .ok (.iload_n 3, 1) := by decide +kernel
theorem d_M_isByte_8 : decode b_M_isByte 8 = .ok (.ifCond .lt 18, 3) := by decide +kernel
theorem d_M_isByte_11 : decode b_M_isByte 11 = .ok (.iload_n 3, 1) := by decide +kernel
theorem d_M_isByte_12 : decode b_M_isByte 12 = .ok (.iconst 4, 1) := by decide +kernel
theorem d_M_isByte_13 : decode b_M_isByte 13 = .ok (.aload_n 0, 1) := by decide +kernel
theorem d_M_isByte_14 : decode b_M_isByte 14 = .ok (.iload_n 2, 1) := by decide +kernel
theorem d_M_isByte_15 : decode b_M_isByte 15 = .ok (.invokevirtual 80, 3) := by decide +kernel
theorem d_M_isByte_18 : decode b_M_isByte 18 = .ok (.imul, 1) := by decide +kernel
theorem d_M_isByte_19 : decode b_M_isByte 19 = .ok (.if_icmp .ge 7, 3) := by decide +kernel
theorem d_M_isByte_22 : decode b_M_isByte 22 = .ok (.iconst 1, 1) := by decide +kernel
theorem d_M_isByte_23 : decode b_M_isByte 23 = .ok (.goto 4, 3) := by decide +kernel
theorem d_M_isByte_26 : decode b_M_isByte 26 = .ok (.iconst 0, 1) := by decide +kernel
theorem d_M_isByte_27 : decode b_M_isByte 27 = .ok (.ireturn, 1) := by decide +kernel
theorem d_M_blocks_0 : decode b_M_blocks 0 = .ok (.aload_n 0, 1) := by decide +kernel
theorem d_M_blocks_1 : decode b_M_blocks 1 = .ok (.iload_n 1, 1) := by decide +kernel
theorem d_M_blocks_2 : decode b_M_blocks 2 = .ok (.invokevirtual 80, 3) := by decide +kernel
theorem d_M_blocks_5 : decode b_M_blocks 5 = .ok (.ireturn, 1) := by decide +kernel
theorem d_M_at_0 : decode b_M_at 0 = .ok (.aload_n 0, 1) := by decide +kernel
theorem d_M_at_1 : decode b_M_at 1 = .ok (.iload_n 1, 1) := by decide +kernel
theorem d_M_at_2 : decode b_M_at 2 = .ok (.iload_n 2, 1) := by decide +kernel
theorem d_M_at_3 : decode b_M_at 3 = .ok (.iload_n 3, 1) := by decide +kernel
theorem d_M_at_4 : decode b_M_at 4 = .ok (.invokevirtual 84, 3) := by decide +kernel
theorem d_M_at_7 : decode b_M_at 7 = .ok (.ifCond .eq 23, 3) := by decide +kernel
theorem d_M_at_10 : decode b_M_at 10 = .ok (.aload_n 0, 1) := by decide +kernel
theorem d_M_at_11 : decode b_M_at 11 = .ok (.getfield 7, 3) := by decide +kernel
theorem d_M_at_14 : decode b_M_at 14 = .ok (.sipush 384, 3) := by decide +kernel
theorem d_M_at_17 : decode b_M_at 17 = .ok (.iload_n 1, 1) := by decide +kernel
theorem d_M_at_18 : decode b_M_at 18 = .ok (.imul, 1) := by decide +kernel
theorem d_M_at_19 : decode b_M_at 19 = .ok (.bipush 64, 2) := by decide +kernel
theorem d_M_at_21 : decode b_M_at 21 = .ok (.iload_n 2, 1) := by decide +kernel
theorem d_M_at_22 : decode b_M_at 22 = .ok (.imul, 1) := by decide +kernel
theorem d_M_at_23 : decode b_M_at 23 = .ok (.iadd, 1) := by decide +kernel
theorem d_M_at_24 : decode b_M_at 24 = .ok (.iload_n 3, 1) := by decide +kernel
theorem d_M_at_25 : decode b_M_at 25 = .ok (.iadd, 1) := by decide +kernel
theorem d_M_at_26 : decode b_M_at 26 = .ok (.iaload, 1) := by decide +kernel
theorem d_M_at_27 : decode b_M_at 27 = .ok (.goto 4, 3) := by decide +kernel
theorem d_M_at_30 : decode b_M_at 30 = .ok (.iconst (-1), 1) := by decide +kernel
theorem d_M_at_31 : decode b_M_at 31 = .ok (.ireturn, 1) := by decide +kernel
theorem d_M_damage_0 : decode b_M_damage 0 = .ok (.aload_n 0, 1) := by decide +kernel
theorem d_M_damage_1 : decode b_M_damage 1 = .ok (.iload_n 1, 1) := by decide +kernel
theorem d_M_damage_2 : decode b_M_damage 2 = .ok (.iload_n 2, 1) := by decide +kernel
theorem d_M_damage_3 : decode b_M_damage 3 = .ok (.iload_n 3, 1) := by decide +kernel
theorem d_M_damage_4 : decode b_M_damage 4 = .ok (.invokevirtual 84, 3) := by decide +kernel
theorem d_M_damage_7 : decode b_M_damage 7 = .ok (.ifCond .ne 5, 3) := by decide +kernel
theorem d_M_damage_10 : decode b_M_damage 10 = .ok (.iconst (-1), 1) := by decide +kernel
theorem d_M_damage_11 : decode b_M_damage 11 = .ok (.ireturn, 1) := by decide +kernel
theorem d_M_damage_12 : decode b_M_damage 12 = .ok (.aload_n 0, 1) := by decide +kernel
theorem d_M_damage_13 : decode b_M_damage 13 = .ok (.getfield 7, 3) := by decide +kernel
theorem d_M_damage_16 : decode b_M_damage 16 = .ok (.sipush 384, 3) := by decide +kernel
theorem d_M_damage_19 : decode b_M_damage 19 = .ok (.iload_n 1, 1) := by decide +kernel
theorem d_M_damage_20 : decode b_M_damage 20 = .ok (.imul, 1) := by decide +kernel
theorem d_M_damage_21 : decode b_M_damage 21 = .ok (.bipush 64, 2) := by decide +kernel
theorem d_M_damage_23 : decode b_M_damage 23 = .ok (.iload_n 2, 1) := by decide +kernel
theorem d_M_damage_24 : decode b_M_damage 24 = .ok (.imul, 1) := by decide +kernel
theorem d_M_damage_25 : decode b_M_damage 25 = .ok (.iadd, 1) := by decide +kernel
theorem d_M_damage_26 : decode b_M_damage 26 = .ok (.iload_n 3, 1) := by decide +kernel
theorem d_M_damage_27 : decode b_M_damage 27 = .ok (.iadd, 1) := by decide +kernel
theorem d_M_damage_28 : decode b_M_damage 28 = .ok (.aload_n 0, 1) := by decide +kernel
theorem d_M_damage_29 : decode b_M_damage 29 = .ok (.getfield 7, 3) := by decide +kernel
theorem d_M_damage_32 : decode b_M_damage 32 = .ok (.sipush 384, 3) := by decide +kernel
theorem d_M_damage_35 : decode b_M_damage 35 = .ok (.iload_n 1, 1) := by decide +kernel
theorem d_M_damage_36 : decode b_M_damage 36 = .ok (.imul, 1) := by decide +kernel
theorem d_M_damage_37 : decode b_M_damage 37 = .ok (.bipush 64, 2) := by decide +kernel
theorem d_M_damage_39 : decode b_M_damage 39 = .ok (.iload_n 2, 1) := by decide +kernel
theorem d_M_damage_40 : decode b_M_damage 40 = .ok (.imul, 1) := by decide +kernel
theorem d_M_damage_41 : decode b_M_damage 41 = .ok (.iadd, 1) := by decide +kernel
theorem d_M_damage_42 : decode b_M_damage 42 = .ok (.iload_n 3, 1) := by decide +kernel
theorem d_M_damage_43 : decode b_M_damage 43 = .ok (.iadd, 1) := by decide +kernel
theorem d_M_damage_44 : decode b_M_damage 44 = .ok (.iaload, 1) := by decide +kernel
theorem d_M_damage_45 : decode b_M_damage 45 = .ok (.iload 4, 2) := by decide +kernel
theorem d_M_damage_47 : decode b_M_damage 47 = .ok (.sipush 255, 3) := by decide +kernel
theorem d_M_damage_50 : decode b_M_damage 50 = .ok (.iand, 1) := by decide +kernel
theorem d_M_damage_51 : decode b_M_damage 51 = .ok (.ixor, 1) := by decide +kernel
theorem d_M_damage_52 : decode b_M_damage 52 = .ok (.iastore, 1) := by decide +kernel
theorem d_M_damage_53 : decode b_M_damage 53 = .ok (.aload_n 0, 1) := by decide +kernel
theorem d_M_damage_54 : decode b_M_damage 54 = .ok (.getfield 7, 3) := by decide +kernel
theorem d_M_damage_57 : decode b_M_damage 57 = .ok (.sipush 384, 3) := by decide +kernel
theorem d_M_damage_60 : decode b_M_damage 60 = .ok (.iload_n 1, 1) := by decide +kernel
theorem d_M_damage_61 : decode b_M_damage 61 = .ok (.imul, 1) := by decide +kernel
theorem d_M_damage_62 : decode b_M_damage 62 = .ok (.bipush 64, 2) := by decide +kernel
theorem d_M_damage_64 : decode b_M_damage 64 = .ok (.iload_n 2, 1) := by decide +kernel
theorem d_M_damage_65 : decode b_M_damage 65 = .ok (.imul, 1) := by decide +kernel
theorem d_M_damage_66 : decode b_M_damage 66 = .ok (.iadd, 1) := by decide +kernel
theorem d_M_damage_67 : decode b_M_damage 67 = .ok (.iload_n 3, 1) := by decide +kernel
theorem d_M_damage_68 : decode b_M_damage 68 = .ok (.iadd, 1) := by decide +kernel
theorem d_M_damage_69 : decode b_M_damage 69 = .ok (.iaload, 1) := by decide +kernel
theorem d_M_damage_70 : decode b_M_damage 70 = .ok (.ireturn, 1) := by decide +kernel
theorem d_M_mix_0 : decode b_M_mix 0 = .ok (.lload_n 0, 1) := by decide +kernel
theorem d_M_mix_1 : decode b_M_mix 1 = .ok (.iload_n 2, 1) := by decide +kernel
theorem d_M_mix_2 : decode b_M_mix 2 = .ok (.i2l, 1) := by decide +kernel
theorem d_M_mix_3 : decode b_M_mix 3 = .ok (.lxor, 1) := by decide +kernel
theorem d_M_mix_4 : decode b_M_mix 4 = .ok (.ldc2_w 88, 3) := by decide +kernel
theorem d_M_mix_7 : decode b_M_mix 7 = .ok (.lmul, 1) := by decide +kernel
theorem d_M_mix_8 : decode b_M_mix 8 = .ok (.lreturn, 1) := by decide +kernel
theorem d_M_sizeOf_0 : decode b_M_sizeOf 0 = .ok (.iload_n 2, 1) := by decide +kernel
theorem d_M_sizeOf_1 : decode b_M_sizeOf 1 = .ok (.ifCond .lt 18, 3) := by decide +kernel
theorem d_M_sizeOf_4 : decode b_M_sizeOf 4 = .ok (.iload_n 2, 1) := by decide +kernel
theorem d_M_sizeOf_5 : decode b_M_sizeOf 5 = .ok (.bipush 7, 2) := by decide +kernel
theorem d_M_sizeOf_7 : decode b_M_sizeOf 7 = .ok (.if_icmp .gt 12, 3) := by decide +kernel
theorem d_M_sizeOf_10 : decode b_M_sizeOf 10 = .ok (.iload_n 2, 1) := by decide +kernel
theorem d_M_sizeOf_11 : decode b_M_sizeOf 11 = .ok (.aload_n 0, 1) := by decide +kernel
theorem d_M_sizeOf_12 : decode b_M_sizeOf 12 = .ok (.iload_n 1, 1) := by decide +kernel
theorem d_M_sizeOf_13 : decode b_M_sizeOf 13 = .ok (.invokevirtual 80, 3) := by decide +kernel
theorem d_M_sizeOf_16 : decode b_M_sizeOf 16 = .ok (.if_icmp .lt 7, 3) := by decide +kernel
theorem d_M_sizeOf_19 : decode b_M_sizeOf 19 = .ok (.iconst 0, 1) := by decide +kernel
theorem d_M_sizeOf_20 : decode b_M_sizeOf 20 = .ok (.goto 21, 3) := by decide +kernel
theorem d_M_sizeOf_23 : decode b_M_sizeOf 23 = .ok (.iload_n 2, 1) := by decide +kernel
theorem d_M_sizeOf_24 : decode b_M_sizeOf 24 = .ok (.bipush 8, 2) := by decide +kernel
theorem d_M_sizeOf_26 : decode b_M_sizeOf 26 = .ok (.iadd, 1) := by decide +kernel
theorem d_M_sizeOf_27 : decode b_M_sizeOf 27 = .ok (.aload_n 0, 1) := by decide +kernel
theorem d_M_sizeOf_28 : decode b_M_sizeOf 28 = .ok (.getfield 13, 3) := by decide +kernel
theorem d_M_sizeOf_31 : decode b_M_sizeOf 31 = .ok (.iload_n 1, 1) := by decide +kernel
theorem d_M_sizeOf_32 : decode b_M_sizeOf 32 = .ok (.iaload, 1) := by decide +kernel
theorem d_M_sizeOf_33 : decode b_M_sizeOf 33 = .ok (.if_icmp .ge 7, 3) := by decide +kernel
theorem d_M_sizeOf_36 : decode b_M_sizeOf 36 = .ok (.iconst 2, 1) := by decide +kernel
theorem d_M_sizeOf_37 : decode b_M_sizeOf 37 = .ok (.goto 4, 3) := by decide +kernel
theorem d_M_sizeOf_40 : decode b_M_sizeOf 40 = .ok (.iconst 1, 1) := by decide +kernel
theorem d_M_sizeOf_41 : decode b_M_sizeOf 41 = .ok (.ireturn, 1) := by decide +kernel
theorem d_M_sum_0 : decode b_M_sum 0 = .ok (.iload_n 1, 1) := by decide +kernel
theorem d_M_sum_1 : decode b_M_sum 1 = .ok (.invokestatic 76, 3) := by decide +kernel
theorem d_M_sum_4 : decode b_M_sum 4 = .ok (.ifCond .eq 21, 3) := by decide +kernel
theorem d_M_sum_7 : decode b_M_sum 7 = .ok (.iload_n 3, 1) := by decide +kernel
theorem d_M_sum_8 : decode b_M_sum 8 = .ok (.ifCond .lt 17, 3) := by decide +kernel
theorem d_M_sum_11 : decode b_M_sum 11 = .ok (.iload_n 3, 1) := by decide +kernel
theorem d_M_sum_12 : decode b_M_sum 12 = .ok (.bipush 7, 2) := by decide +kernel
theorem d_M_sum_14 : decode b_M_sum 14 = .ok (.if_icmp .gt 11, 3) := by decide +kernel
theorem d_M_sum_17 : decode b_M_sum 17 = .ok (.aload_n 0, 1) := by decide +kernel
theorem d_M_sum_18 : decode b_M_sum 18 = .ok (.iload_n 2, 1) := by decide +kernel
theorem d_M_sum_19 : decode b_M_sum 19 = .ok (.invokevirtual 80, 3) := by decide +kernel
theorem d_M_sum_22 : decode b_M_sum 22 = .ok (.ifCond .ne 5, 3) := by decide +kernel
theorem d_M_sum_25 : decode b_M_sum 25 = .ok (.lconst 0, 1) := by decide +kernel
theorem d_M_sum_26 : decode b_M_sum 26 = .ok (.lreturn, 1) := by decide +kernel
theorem d_M_sum_27 : decode b_M_sum 27 = .ok (.lload 4, 2) := by decide +kernel
theorem d_M_sum_29 : decode b_M_sum 29 = .ok (.lstore 6, 2) := by decide +kernel
theorem d_M_sum_31 : decode b_M_sum 31 = .ok (.iconst 0, 1) := by decide +kernel
theorem d_M_sum_32 : decode b_M_sum 32 = .ok (.istore 8, 2) := by decide +kernel
theorem d_M_sum_34 : decode b_M_sum 34 = .ok (.iload 8, 2) := by decide +kernel
theorem d_M_sum_36 : decode b_M_sum 36 = .ok (.aload_n 0, 1) := by decide +kernel
theorem d_M_sum_37 : decode b_M_sum 37 = .ok (.iload_n 2, 1) := by decide +kernel
theorem d_M_sum_38 : decode b_M_sum 38 = .ok (.iload_n 3, 1) := by decide +kernel
theorem d_M_sum_39 : decode b_M_sum 39 = .ok (.invokevirtual 90, 3) := by decide +kernel
theorem d_M_sum_42 : decode b_M_sum 42 = .ok (.if_icmp .ge 76, 3) := by decide +kernel
theorem d_M_sum_45 : decode b_M_sum 45 = .ok (.iload_n 3, 1) := by decide +kernel
theorem d_M_sum_46 : decode b_M_sum 46 = .ok (.bipush 8, 2) := by decide +kernel
theorem d_M_sum_48 : decode b_M_sum 48 = .ok (.iload 8, 2) := by decide +kernel
theorem d_M_sum_50 : decode b_M_sum 50 = .ok (.imul, 1) := by decide +kernel
theorem d_M_sum_51 : decode b_M_sum 51 = .ok (.iadd, 1) := by decide +kernel
theorem d_M_sum_52 : decode b_M_sum 52 = .ok (.istore 9, 2) := by decide +kernel
theorem d_M_sum_54 : decode b_M_sum 54 = .ok (.lload 6, 2) := by decide +kernel
theorem d_M_sum_56 : decode b_M_sum 56 = .ok (.iload_n 2, 1) := by decide +kernel
theorem d_M_sum_57 : decode b_M_sum 57 = .ok (.invokestatic 94, 3) := by decide +kernel
theorem d_M_sum_60 : decode b_M_sum 60 = .ok (.iload 9, 2) := by decide +kernel
theorem d_M_sum_62 : decode b_M_sum 62 = .ok (.invokestatic 94, 3) := by decide +kernel
theorem d_M_sum_65 : decode b_M_sum 65 = .ok (.lstore 6, 2) := by decide +kernel
theorem d_M_sum_67 : decode b_M_sum 67 = .ok (.iconst 0, 1) := by decide +kernel
theorem d_M_sum_68 : decode b_M_sum 68 = .ok (.istore 10, 2) := by decide +kernel
theorem d_M_sum_70 : decode b_M_sum 70 = .ok (.iload 10, 2) := by decide +kernel
theorem d_M_sum_72 : decode b_M_sum 72 = .ok (.iconst 4, 1) := by decide +kernel
theorem d_M_sum_73 : decode b_M_sum 73 = .ok (.if_icmp .ge 39, 3) := by decide +kernel
theorem d_M_sum_76 : decode b_M_sum 76 = .ok (.lload 6, 2) := by decide +kernel
theorem d_M_sum_78 : decode b_M_sum 78 = .ok (.aload_n 0, 1) := by decide +kernel
theorem d_M_sum_79 : decode b_M_sum 79 = .ok (.getfield 7, 3) := by decide +kernel
theorem d_M_sum_82 : decode b_M_sum 82 = .ok (.sipush 384, 3) := by decide +kernel
theorem d_M_sum_85 : decode b_M_sum 85 = .ok (.iload_n 1, 1) := by decide +kernel
theorem d_M_sum_86 : decode b_M_sum 86 = .ok (.imul, 1) := by decide +kernel
theorem d_M_sum_87 : decode b_M_sum 87 = .ok (.bipush 64, 2) := by decide +kernel
theorem d_M_sum_89 : decode b_M_sum 89 = .ok (.iload_n 2, 1) := by decide +kernel
theorem d_M_sum_90 : decode b_M_sum 90 = .ok (.imul, 1) := by decide +kernel
theorem d_M_sum_91 : decode b_M_sum 91 = .ok (.iadd, 1) := by decide +kernel
theorem d_M_sum_92 : decode b_M_sum 92 = .ok (.iconst 4, 1) := by decide +kernel
theorem d_M_sum_93 : decode b_M_sum 93 = .ok (.iload 9, 2) := by decide +kernel
theorem d_M_sum_95 : decode b_M_sum 95 = .ok (.imul, 1) := by decide +kernel
theorem d_M_sum_96 : decode b_M_sum 96 = .ok (.iadd, 1) := by decide +kernel
theorem d_M_sum_97 : decode b_M_sum 97 = .ok (.iload 10, 2) := by decide +kernel
theorem d_M_sum_99 : decode b_M_sum 99 = .ok (.iadd, 1) := by decide +kernel
theorem d_M_sum_100 : decode b_M_sum 100 = .ok (.iaload, 1) := by decide +kernel
theorem d_M_sum_101 : decode b_M_sum 101 = .ok (.invokestatic 94, 3) := by decide +kernel
theorem d_M_sum_104 : decode b_M_sum 104 = .ok (.lstore 6, 2) := by decide +kernel
theorem d_M_sum_106 : decode b_M_sum 106 = .ok (.iinc 10 1, 3) := by decide +kernel
theorem d_M_sum_109 : decode b_M_sum 109 = .ok (.goto (-39), 3) := by decide +kernel
theorem d_M_sum_112 : decode b_M_sum 112 = .ok (.iinc 8 1, 3) := by decide +kernel
theorem d_M_sum_115 : decode b_M_sum 115 = .ok (.goto (-81), 3) := by decide +kernel
theorem d_M_sum_118 : decode b_M_sum 118 = .ok (.lload 6, 2) := by decide +kernel
theorem d_M_sum_120 : decode b_M_sum 120 = .ok (.lreturn, 1) := by decide +kernel
theorem d_M_deposit_0 : decode b_M_deposit 0 = .ok (.iload_n 1, 1) := by decide +kernel
theorem d_M_deposit_1 : decode b_M_deposit 1 = .ok (.ifCond .lt 19, 3) := by decide +kernel
theorem d_M_deposit_4 : decode b_M_deposit 4 = .ok (.iload_n 1, 1) := by decide +kernel
theorem d_M_deposit_5 : decode b_M_deposit 5 = .ok (.iconst 5, 1) := by decide +kernel
theorem d_M_deposit_6 : decode b_M_deposit 6 = .ok (.if_icmp .gt 14, 3) := by decide +kernel
theorem d_M_deposit_9 : decode b_M_deposit 9 = .ok (.iload_n 2, 1) := by decide +kernel
theorem d_M_deposit_10 : decode b_M_deposit 10 = .ok (.iconst 1, 1) := by decide +kernel
theorem d_M_deposit_11 : decode b_M_deposit 11 = .ok (.if_icmp .lt 9, 3) := by decide +kernel
theorem d_M_deposit_14 : decode b_M_deposit 14 = .ok (.iload_n 2, 1) := by decide +kernel
theorem d_M_deposit_15 : decode b_M_deposit 15 = .ok (.bipush 16, 2) := by decide +kernel
theorem d_M_deposit_17 : decode b_M_deposit 17 = .ok (.if_icmp .le 5, 3) := by decide +kernel
theorem d_M_deposit_20 : decode b_M_deposit 20 = .ok (.iconst (-1), 1) := by decide +kernel
theorem d_M_deposit_21 : decode b_M_deposit 21 = .ok (.ireturn, 1) := by decide +kernel
theorem d_M_deposit_22 : decode b_M_deposit 22 = .ok (.aload_n 0, 1) := by decide +kernel
theorem d_M_deposit_23 : decode b_M_deposit 23 = .ok (.getfield 13, 3) := by decide +kernel
theorem d_M_deposit_26 : decode b_M_deposit 26 = .ok (.iload_n 1, 1) := by decide +kernel
theorem d_M_deposit_27 : decode b_M_deposit 27 = .ok (.iaload, 1) := by decide +kernel
theorem d_M_deposit_28 : decode b_M_deposit 28 = .ok (.ifCond .gt 30, 3) := by decide +kernel
theorem d_M_deposit_31 : decode b_M_deposit 31 = .ok (.aload_n 0, 1) := by decide +kernel
theorem d_M_deposit_32 : decode b_M_deposit 32 = .ok (.getfield 16, 3) := by decide +kernel
theorem d_M_deposit_35 : decode b_M_deposit 35 = .ok (.iconst 0, 1) := by decide +kernel
theorem d_M_deposit_36 : decode b_M_deposit 36 = .ok (.baload, 1) := by decide +kernel
theorem d_M_deposit_37 : decode b_M_deposit 37 = .ok (.ifCond .eq 21, 3) := by decide +kernel
theorem d_M_deposit_40 : decode b_M_deposit 40 = .ok (.aload_n 0, 1) := by decide +kernel
theorem d_M_deposit_41 : decode b_M_deposit 41 = .ok (.getfield 16, 3) := by decide +kernel
theorem d_M_deposit_44 : decode b_M_deposit 44 = .ok (.iconst 1, 1) := by decide +kernel
theorem d_M_deposit_45 : decode b_M_deposit 45 = .ok (.baload, 1) := by decide +kernel
theorem d_M_deposit_46 : decode b_M_deposit 46 = .ok (.ifCond .eq 12, 3) := by decide +kernel
theorem d_M_deposit_49 : decode b_M_deposit 49 = .ok (.aload_n 0, 1) := by decide +kernel
theorem d_M_deposit_50 : decode b_M_deposit 50 = .ok (.getfield 16, 3) := by decide +kernel
theorem d_M_deposit_53 : decode b_M_deposit 53 = .ok (.iconst 2, 1) := by decide +kernel
theorem d_M_deposit_54 : decode b_M_deposit 54 = .ok (.baload, 1) := by decide +kernel
theorem d_M_deposit_55 : decode b_M_deposit 55 = .ok (.ifCond .ne 6, 3) := by decide +kernel
theorem d_M_deposit_58 : decode b_M_deposit 58 = .ok (.bipush (-2), 2) := by decide +kernel
theorem d_M_deposit_60 : decode b_M_deposit 60 = .ok (.ireturn, 1) := by decide +kernel
theorem d_M_deposit_61 : decode b_M_deposit 61 = .ok (.aload_n 0, 1) := by decide +kernel
theorem d_M_deposit_62 : decode b_M_deposit 62 = .ok (.getfield 13, 3) := by decide +kernel
theorem d_M_deposit_65 : decode b_M_deposit 65 = .ok (.iload_n 1, 1) := by decide +kernel
theorem d_M_deposit_66 : decode b_M_deposit 66 = .ok (.iload_n 2, 1) := by decide +kernel
theorem d_M_deposit_67 : decode b_M_deposit 67 = .ok (.iastore, 1) := by decide +kernel
theorem d_M_deposit_68 : decode b_M_deposit 68 = .ok (.iconst 0, 1) := by decide +kernel
theorem d_M_deposit_69 : decode b_M_deposit 69 = .ok (.istore 4, 2) := by decide +kernel
theorem d_M_deposit_71 : decode b_M_deposit 71 = .ok (.iload 4, 2) := by decide +kernel
theorem d_M_deposit_73 : decode b_M_deposit 73 = .ok (.iconst 3, 1) := by decide +kernel
theorem d_M_deposit_74 : decode b_M_deposit 74 = .ok (.if_icmp .ge 56, 3) := by decide +kernel
theorem d_M_deposit_77 : decode b_M_deposit 77 = .ok (.iconst 0, 1) := by decide +kernel
theorem d_M_deposit_78 : decode b_M_deposit 78 = .ok (.istore 5, 2) := by decide +kernel
theorem d_M_deposit_80 : decode b_M_deposit 80 = .ok (.iload 5, 2) := by decide +kernel
theorem d_M_deposit_82 : decode b_M_deposit 82 = .ok (.iconst 4, 1) := by decide +kernel
theorem d_M_deposit_83 : decode b_M_deposit 83 = .ok (.iload_n 2, 1) := by decide +kernel
theorem d_M_deposit_84 : decode b_M_deposit 84 = .ok (.imul, 1) := by decide +kernel
theorem d_M_deposit_85 : decode b_M_deposit 85 = .ok (.if_icmp .ge 39, 3) := by decide +kernel
theorem d_M_deposit_88 : decode b_M_deposit 88 = .ok (.aload_n 0, 1) := by decide +kernel
theorem d_M_deposit_89 : decode b_M_deposit 89 = .ok (.getfield 7, 3) := by decide +kernel
theorem d_M_deposit_92 : decode b_M_deposit 92 = .ok (.sipush 384, 3) := by decide +kernel
theorem d_M_deposit_95 : decode b_M_deposit 95 = .ok (.iload 4, 2) := by decide +kernel
theorem d_M_deposit_97 : decode b_M_deposit 97 = .ok (.imul, 1) := by decide +kernel
theorem d_M_deposit_98 : decode b_M_deposit 98 = .ok (.bipush 64, 2) := by decide +kernel
theorem d_M_deposit_100 : decode b_M_deposit 100 = .ok (.iload_n 1, 1) := by decide +kernel
theorem d_M_deposit_101 : decode b_M_deposit 101 = .ok (.imul, 1) := by decide +kernel
theorem d_M_deposit_102 : decode b_M_deposit 102 = .ok (.iadd, 1) := by decide +kernel
theorem d_M_deposit_103 : decode b_M_deposit 103 = .ok (.iload 5, 2) := by decide +kernel
theorem d_M_deposit_105 : decode b_M_deposit 105 = .ok (.iadd, 1) := by decide +kernel
theorem d_M_deposit_106 : decode b_M_deposit 106 = .ok (.iload_n 3, 1) := by decide +kernel
theorem d_M_deposit_107 : decode b_M_deposit 107 = .ok (.bipush 31, 2) := by decide +kernel
theorem d_M_deposit_109 : decode b_M_deposit 109 = .ok (.iload 5, 2) := by decide +kernel
theorem d_M_deposit_111 : decode b_M_deposit 111 = .ok (.imul, 1) := by decide +kernel
theorem d_M_deposit_112 : decode b_M_deposit 112 = .ok (.iadd, 1) := by decide +kernel
theorem d_M_deposit_113 : decode b_M_deposit 113 = .ok (.sipush 255, 3) := by decide +kernel
theorem d_M_deposit_116 : decode b_M_deposit 116 = .ok (.iand, 1) := by decide +kernel
theorem d_M_deposit_117 : decode b_M_deposit 117 = .ok (.iastore, 1) := by decide +kernel
theorem d_M_deposit_118 : decode b_M_deposit 118 = .ok (.iinc 5 1, 3) := by decide +kernel
theorem d_M_deposit_121 : decode b_M_deposit 121 = .ok (.goto (-41), 3) := by decide +kernel
theorem d_M_deposit_124 : decode b_M_deposit 124 = .ok (.iinc 4 1, 3) := by decide +kernel
theorem d_M_deposit_127 : decode b_M_deposit 127 = .ok (.goto (-56), 3) := by decide +kernel
theorem d_M_deposit_130 : decode b_M_deposit 130 = .ok (.iconst 4, 1) := by decide +kernel
theorem d_M_deposit_131 : decode b_M_deposit 131 = .ok (.iload_n 2, 1) := by decide +kernel
theorem d_M_deposit_132 : decode b_M_deposit 132 = .ok (.imul, 1) := by decide +kernel
theorem d_M_deposit_133 : decode b_M_deposit 133 = .ok (.ireturn, 1) := by decide +kernel

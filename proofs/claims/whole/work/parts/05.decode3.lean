theorem d_X_decide_27 : decode b_X_decide 27 = .ok (.invokevirtual 212, 3) := by decide +kernel
theorem d_X_decide_30 : decode b_X_decide 30 = .ok (.ifCond .ne 5, 3) := by decide +kernel
theorem d_X_decide_33 : decode b_X_decide 33 = .ok (.iconst 4, 1) := by decide +kernel
theorem d_X_decide_34 : decode b_X_decide 34 = .ok (.ireturn, 1) := by decide +kernel
theorem d_X_decide_35 : decode b_X_decide 35 = .ok (.aload_n 0, 1) := by decide +kernel
theorem d_X_decide_36 : decode b_X_decide 36 = .ok (.aload_n 1, 1) := by decide +kernel
theorem d_X_decide_37 : decode b_X_decide 37 = .ok (.iconst 0, 1) := by decide +kernel
theorem d_X_decide_38 : decode b_X_decide 38 = .ok (.invokevirtual 216, 3) := by decide +kernel
theorem d_X_decide_41 : decode b_X_decide 41 = .ok (.aload_n 0, 1) := by decide +kernel
theorem d_X_decide_42 : decode b_X_decide 42 = .ok (.aload_n 1, 1) := by decide +kernel
theorem d_X_decide_43 : decode b_X_decide 43 = .ok (.iconst 1, 1) := by decide +kernel
theorem d_X_decide_44 : decode b_X_decide 44 = .ok (.invokevirtual 216, 3) := by decide +kernel
theorem d_X_decide_47 : decode b_X_decide 47 = .ok (.iconst 2, 1) := by decide +kernel
theorem d_X_decide_48 : decode b_X_decide 48 = .ok (.ireturn, 1) := by decide +kernel
theorem d_X_takeSum_0 : decode b_X_takeSum 0 = .ok (.aload_n 1, 1) := by decide +kernel
theorem d_X_takeSum_1 : decode b_X_takeSum 1 = .ok (.getfield 156, 3) := by decide +kernel
theorem d_X_takeSum_4 : decode b_X_takeSum 4 = .ok (.iload_n 2, 1) := by decide +kernel
theorem d_X_takeSum_5 : decode b_X_takeSum 5 = .ok (.lload_n 3, 1) := by decide +kernel
theorem d_X_takeSum_6 : decode b_X_takeSum 6 = .ok (.invokevirtual 199, 3) := by decide +kernel
theorem d_X_takeSum_9 : decode b_X_takeSum 9 = .ok (.ifCond .eq 13, 3) := by decide +kernel
theorem d_X_takeSum_12 : decode b_X_takeSum 12 = .ok (.aload_n 1, 1) := by decide +kernel
theorem d_X_takeSum_13 : decode b_X_takeSum 13 = .ok (.getfield 156, 3) := by decide +kernel
theorem d_X_takeSum_16 : decode b_X_takeSum 16 = .ok (.invokevirtual 160, 3) := by decide +kernel
theorem d_X_takeSum_19 : decode b_X_takeSum 19 = .ok (.ifCond .ne 4, 3) := by decide +kernel
theorem d_X_takeSum_22 : decode b_X_takeSum 22 = .ok (.return_, 1) := by decide +kernel
theorem d_X_takeSum_23 : decode b_X_takeSum 23 = .ok (.aload_n 1, 1) := by decide +kernel
theorem d_X_takeSum_24 : decode b_X_takeSum 24 = .ok (.getfield 156, 3) := by decide +kernel
theorem d_X_takeSum_27 : decode b_X_takeSum 27 = .ok (.invokevirtual 203, 3) := by decide +kernel
theorem d_X_takeSum_30 : decode b_X_takeSum 30 = .ok (.ifCond .eq 12, 3) := by decide +kernel
theorem d_X_takeSum_33 : decode b_X_takeSum 33 = .ok (.aload_n 0, 1) := by decide +kernel
theorem d_X_takeSum_34 : decode b_X_takeSum 34 = .ok (.aload_n 1, 1) := by decide +kernel
theorem d_X_takeSum_35 : decode b_X_takeSum 35 = .ok (.iconst 1, 1) := by decide +kernel
theorem d_X_takeSum_36 : decode b_X_takeSum 36 = .ok (.invokevirtual 136, 3) := by decide +kernel
theorem d_X_takeSum_39 : decode b_X_takeSum 39 = .ok (.goto 9, 3) := by decide +kernel
theorem d_X_takeSum_42 : decode b_X_takeSum 42 = .ok (.aload_n 0, 1) := by decide +kernel
theorem d_X_takeSum_43 : decode b_X_takeSum 43 = .ok (.aload_n 1, 1) := by decide +kernel
theorem d_X_takeSum_44 : decode b_X_takeSum 44 = .ok (.invokevirtual 95, 3) := by decide +kernel
theorem d_X_takeSum_47 : decode b_X_takeSum 47 = .ok (.pop, 1) := by decide +kernel
theorem d_X_takeSum_48 : decode b_X_takeSum 48 = .ok (.return_, 1) := by decide +kernel
theorem d_X_takeCopy_0 : decode b_X_takeCopy 0 = .ok (.aload_n 1, 1) := by decide +kernel
theorem d_X_takeCopy_1 : decode b_X_takeCopy 1 = .ok (.getfield 156, 3) := by decide +kernel
theorem d_X_takeCopy_4 : decode b_X_takeCopy 4 = .ok (.invokevirtual 160, 3) := by decide +kernel
theorem d_X_takeCopy_7 : decode b_X_takeCopy 7 = .ok (.ifCond .eq 35, 3) := by decide +kernel
theorem d_X_takeCopy_10 : decode b_X_takeCopy 10 = .ok (.aload_n 1, 1) := by decide +kernel
theorem d_X_takeCopy_11 : decode b_X_takeCopy 11 = .ok (.getfield 165, 3) := by decide +kernel
theorem d_X_takeCopy_14 : decode b_X_takeCopy 14 = .ok (.iload_n 2, 1) := by decide +kernel
theorem d_X_takeCopy_15 : decode b_X_takeCopy 15 = .ok (.lload_n 3, 1) := by decide +kernel
theorem d_X_takeCopy_16 : decode b_X_takeCopy 16 = .ok (.invokevirtual 199, 3) := by decide +kernel
theorem d_X_takeCopy_19 : decode b_X_takeCopy 19 = .ok (.ifCond .eq 23, 3) := by decide +kernel
theorem d_X_takeCopy_22 : decode b_X_takeCopy 22 = .ok (.aload_n 1, 1) := by decide +kernel
theorem d_X_takeCopy_23 : decode b_X_takeCopy 23 = .ok (.getfield 165, 3) := by decide +kernel
theorem d_X_takeCopy_26 : decode b_X_takeCopy 26 = .ok (.invokevirtual 160, 3) := by decide +kernel
theorem d_X_takeCopy_29 : decode b_X_takeCopy 29 = .ok (.ifCond .eq 13, 3) := by decide +kernel
theorem d_X_takeCopy_32 : decode b_X_takeCopy 32 = .ok (.aload_n 0, 1) := by decide +kernel
theorem d_X_takeCopy_33 : decode b_X_takeCopy 33 = .ok (.aload_n 1, 1) := by decide +kernel
theorem d_X_takeCopy_34 : decode b_X_takeCopy 34 = .ok (.aload_n 0, 1) := by decide +kernel
theorem d_X_takeCopy_35 : decode b_X_takeCopy 35 = .ok (.aload_n 1, 1) := by decide +kernel
theorem d_X_takeCopy_36 : decode b_X_takeCopy 36 = .ok (.invokevirtual 206, 3) := by decide +kernel
theorem d_X_takeCopy_39 : decode b_X_takeCopy 39 = .ok (.invokevirtual 136, 3) := by decide +kernel
theorem d_X_takeCopy_42 : decode b_X_takeCopy 42 = .ok (.return_, 1) := by decide +kernel
theorem d_X_arrive_0 : decode b_X_arrive 0 = .ok (.iload_n 2, 1) := by decide +kernel
theorem d_X_arrive_1 : decode b_X_arrive 1 = .ok (.tableswitch 71 1 4 #[31, 40, 51, 60], 31) := by decide +kernel
theorem d_X_arrive_32 : decode b_X_arrive 32 = .ok (.aload_n 0, 1) := by decide +kernel
theorem d_X_arrive_33 : decode b_X_arrive 33 = .ok (.aload_n 1, 1) := by decide +kernel
theorem d_X_arrive_34 : decode b_X_arrive 34 = .ok (.iload_n 3, 1) := by decide +kernel
theorem d_X_arrive_35 : decode b_X_arrive 35 = .ok (.invokevirtual 172, 3) := by decide +kernel
theorem d_X_arrive_38 : decode b_X_arrive 38 = .ok (.goto 34, 3) := by decide +kernel
theorem d_X_arrive_41 : decode b_X_arrive 41 = .ok (.aload_n 0, 1) := by decide +kernel
theorem d_X_arrive_42 : decode b_X_arrive 42 = .ok (.aload_n 1, 1) := by decide +kernel
theorem d_X_arrive_43 : decode b_X_arrive 43 = .ok (.iload_n 3, 1) := by decide +kernel
theorem d_X_arrive_44 : decode b_X_arrive 44 = .ok (.lload 4, 2) := by decide +kernel
theorem d_X_arrive_46 : decode b_X_arrive 46 = .ok (.invokevirtual 175, 3) := by decide +kernel
theorem d_X_arrive_49 : decode b_X_arrive 49 = .ok (.goto 23, 3) := by decide +kernel
theorem d_X_arrive_52 : decode b_X_arrive 52 = .ok (.aload_n 0, 1) := by decide +kernel
theorem d_X_arrive_53 : decode b_X_arrive 53 = .ok (.aload_n 1, 1) := by decide +kernel
theorem d_X_arrive_54 : decode b_X_arrive 54 = .ok (.iload_n 3, 1) := by decide +kernel
theorem d_X_arrive_55 : decode b_X_arrive 55 = .ok (.invokevirtual 179, 3) := by decide +kernel
theorem d_X_arrive_58 : decode b_X_arrive 58 = .ok (.goto 14, 3) := by decide +kernel
theorem d_X_arrive_61 : decode b_X_arrive 61 = .ok (.aload_n 0, 1) := by decide +kernel
theorem d_X_arrive_62 : decode b_X_arrive 62 = .ok (.aload_n 1, 1) := by decide +kernel
theorem d_X_arrive_63 : decode b_X_arrive 63 = .ok (.iload_n 3, 1) := by decide +kernel
theorem d_X_arrive_64 : decode b_X_arrive 64 = .ok (.lload 4, 2) := by decide +kernel
theorem d_X_arrive_66 : decode b_X_arrive 66 = .ok (.invokevirtual 182, 3) := by decide +kernel
theorem d_X_arrive_69 : decode b_X_arrive 69 = .ok (.goto 3, 3) := by decide +kernel
theorem d_X_arrive_72 : decode b_X_arrive 72 = .ok (.return_, 1) := by decide +kernel
theorem d_X_deposit_0 : decode b_X_deposit 0 = .ok (.iload_n 1, 1) := by decide +kernel
theorem d_X_deposit_1 : decode b_X_deposit 1 = .ok (.invokestatic 51, 3) := by decide +kernel
theorem d_X_deposit_4 : decode b_X_deposit 4 = .ok (.ifCond .eq 14, 3) := by decide +kernel
theorem d_X_deposit_7 : decode b_X_deposit 7 = .ok (.iload_n 2, 1) := by decide +kernel
theorem d_X_deposit_8 : decode b_X_deposit 8 = .ok (.iconst 1, 1) := by decide +kernel
theorem d_X_deposit_9 : decode b_X_deposit 9 = .ok (.if_icmp .lt 9, 3) := by decide +kernel
theorem d_X_deposit_12 : decode b_X_deposit 12 = .ok (.iload_n 2, 1) := by decide +kernel
theorem d_X_deposit_13 : decode b_X_deposit 13 = .ok (.bipush 16, 2) := by decide +kernel
theorem d_X_deposit_15 : decode b_X_deposit 15 = .ok (.if_icmp .le 5, 3) := by decide +kernel
theorem d_X_deposit_18 : decode b_X_deposit 18 = .ok (.iconst (-1), 1) := by decide +kernel
theorem d_X_deposit_19 : decode b_X_deposit 19 = .ok (.ireturn, 1) := by decide +kernel
theorem d_X_deposit_20 : decode b_X_deposit 20 = .ok (.aload_n 0, 1) := by decide +kernel
theorem d_X_deposit_21 : decode b_X_deposit 21 = .ok (.getfield 15, 3) := by decide +kernel
theorem d_X_deposit_24 : decode b_X_deposit 24 = .ok (.iload_n 1, 1) := by decide +kernel
theorem d_X_deposit_25 : decode b_X_deposit 25 = .ok (.iaload, 1) := by decide +kernel
theorem d_X_deposit_26 : decode b_X_deposit 26 = .ok (.ifCond .gt 10, 3) := by decide +kernel
theorem d_X_deposit_29 : decode b_X_deposit 29 = .ok (.aload_n 0, 1) := by decide +kernel
theorem d_X_deposit_30 : decode b_X_deposit 30 = .ok (.invokevirtual 55, 3) := by decide +kernel
theorem d_X_deposit_33 : decode b_X_deposit 33 = .ok (.ifCond .ne 6, 3) := by decide +kernel
theorem d_X_deposit_36 : decode b_X_deposit 36 = .ok (.bipush (-2), 2) := by decide +kernel
theorem d_X_deposit_38 : decode b_X_deposit 38 = .ok (.ireturn, 1) := by decide +kernel
theorem d_X_deposit_39 : decode b_X_deposit 39 = .ok (.aload_n 0, 1) := by decide +kernel
theorem d_X_deposit_40 : decode b_X_deposit 40 = .ok (.getfield 15, 3) := by decide +kernel
theorem d_X_deposit_43 : decode b_X_deposit 43 = .ok (.iload_n 1, 1) := by decide +kernel
theorem d_X_deposit_44 : decode b_X_deposit 44 = .ok (.iload_n 2, 1) := by decide +kernel
theorem d_X_deposit_45 : decode b_X_deposit 45 = .ok (.iastore, 1) := by decide +kernel
theorem d_X_deposit_46 : decode b_X_deposit 46 = .ok (.iconst 0, 1) := by decide +kernel
theorem d_X_deposit_47 : decode b_X_deposit 47 = .ok (.istore 4, 2) := by decide +kernel
theorem d_X_deposit_49 : decode b_X_deposit 49 = .ok (.iload 4, 2) := by decide +kernel
theorem d_X_deposit_51 : decode b_X_deposit 51 = .ok (.iconst 3, 1) := by decide +kernel
theorem d_X_deposit_52 : decode b_X_deposit 52 = .ok (.if_icmp .ge 22, 3) := by decide +kernel
theorem d_X_deposit_55 : decode b_X_deposit 55 = .ok (.aload_n 0, 1) := by decide +kernel
theorem d_X_deposit_56 : decode b_X_deposit 56 = .ok (.getfield 11, 3) := by decide +kernel
theorem d_X_deposit_59 : decode b_X_deposit 59 = .ok (.iload 4, 2) := by decide +kernel
theorem d_X_deposit_61 : decode b_X_deposit 61 = .ok (.aaload, 1) := by decide +kernel
theorem d_X_deposit_62 : decode b_X_deposit 62 = .ok (.iload_n 1, 1) := by decide +kernel
theorem d_X_deposit_63 : decode b_X_deposit 63 = .ok (.iload_n 2, 1) := by decide +kernel
theorem d_X_deposit_64 : decode b_X_deposit 64 = .ok (.iload_n 3, 1) := by decide +kernel
theorem d_X_deposit_65 : decode b_X_deposit 65 = .ok (.invokevirtual 59, 3) := by decide +kernel
theorem d_X_deposit_68 : decode b_X_deposit 68 = .ok (.iinc 4 1, 3) := by decide +kernel
theorem d_X_deposit_71 : decode b_X_deposit 71 = .ok (.goto (-22), 3) := by decide +kernel
theorem d_X_deposit_74 : decode b_X_deposit 74 = .ok (.iload_n 2, 1) := by decide +kernel
theorem d_X_deposit_75 : decode b_X_deposit 75 = .ok (.iconst 4, 1) := by decide +kernel
theorem d_X_deposit_76 : decode b_X_deposit 76 = .ok (.imul, 1) := by decide +kernel
theorem d_X_deposit_77 : decode b_X_deposit 77 = .ok (.ireturn, 1) := by decide +kernel
theorem d_X_blocks_0 : decode b_X_blocks 0 = .ok (.iload_n 1, 1) := by decide +kernel
theorem d_X_blocks_1 : decode b_X_blocks 1 = .ok (.invokestatic 51, 3) := by decide +kernel
theorem d_X_blocks_4 : decode b_X_blocks 4 = .ok (.ifCond .eq 12, 3) := by decide +kernel
theorem d_X_blocks_7 : decode b_X_blocks 7 = .ok (.aload_n 0, 1) := by decide +kernel
theorem d_X_blocks_8 : decode b_X_blocks 8 = .ok (.getfield 15, 3) := by decide +kernel
theorem d_X_blocks_11 : decode b_X_blocks 11 = .ok (.iload_n 1, 1) := by decide +kernel
theorem d_X_blocks_12 : decode b_X_blocks 12 = .ok (.iaload, 1) := by decide +kernel
theorem d_X_blocks_13 : decode b_X_blocks 13 = .ok (.goto 4, 3) := by decide +kernel
theorem d_X_blocks_16 : decode b_X_blocks 16 = .ok (.iconst 0, 1) := by decide +kernel
theorem d_X_blocks_17 : decode b_X_blocks 17 = .ok (.ireturn, 1) := by decide +kernel
theorem d_X_at_0 : decode b_X_at 0 = .ok (.iload_n 1, 1) := by decide +kernel
theorem d_X_at_1 : decode b_X_at 1 = .ok (.invokestatic 63, 3) := by decide +kernel
theorem d_X_at_4 : decode b_X_at 4 = .ok (.ifCond .eq 26, 3) := by decide +kernel
theorem d_X_at_7 : decode b_X_at 7 = .ok (.aload_n 0, 1) := by decide +kernel
theorem d_X_at_8 : decode b_X_at 8 = .ok (.iload_n 2, 1) := by decide +kernel
theorem d_X_at_9 : decode b_X_at 9 = .ok (.iload_n 3, 1) := by decide +kernel
theorem d_X_at_10 : decode b_X_at 10 = .ok (.invokevirtual 66, 3) := by decide +kernel
theorem d_X_at_13 : decode b_X_at 13 = .ok (.ifCond .eq 17, 3) := by decide +kernel
theorem d_X_at_16 : decode b_X_at 16 = .ok (.aload_n 0, 1) := by decide +kernel
theorem d_X_at_17 : decode b_X_at 17 = .ok (.getfield 11, 3) := by decide +kernel
theorem d_X_at_20 : decode b_X_at 20 = .ok (.iload_n 1, 1) := by decide +kernel
theorem d_X_at_21 : decode b_X_at 21 = .ok (.aaload, 1) := by decide +kernel
theorem d_X_at_22 : decode b_X_at 22 = .ok (.iload_n 2, 1) := by decide +kernel
theorem d_X_at_23 : decode b_X_at 23 = .ok (.iload_n 3, 1) := by decide +kernel
theorem d_X_at_24 : decode b_X_at 24 = .ok (.invokevirtual 70, 3) := by decide +kernel
theorem d_X_at_27 : decode b_X_at 27 = .ok (.goto 4, 3) := by decide +kernel
theorem d_X_at_30 : decode b_X_at 30 = .ok (.iconst (-1), 1) := by decide +kernel
theorem d_X_at_31 : decode b_X_at 31 = .ok (.ireturn, 1) := by decide +kernel
theorem d_X_damage_0 : decode b_X_damage 0 = .ok (.iload_n 1, 1) := by decide +kernel
theorem d_X_damage_1 : decode b_X_damage 1 = .ok (.invokestatic 63, 3) := by decide +kernel
theorem d_X_damage_4 : decode b_X_damage 4 = .ok (.ifCond .eq 12, 3) := by decide +kernel
theorem d_X_damage_7 : decode b_X_damage 7 = .ok (.aload_n 0, 1) := by decide +kernel
theorem d_X_damage_8 : decode b_X_damage 8 = .ok (.iload_n 2, 1) := by decide +kernel
theorem d_X_damage_9 : decode b_X_damage 9 = .ok (.iload_n 3, 1) := by decide +kernel
theorem d_X_damage_10 : decode b_X_damage 10 = .ok (.invokevirtual 66, 3) := by decide +kernel
theorem d_X_damage_13 : decode b_X_damage 13 = .ok (.ifCond .ne 5, 3) := by decide +kernel
theorem d_X_damage_16 : decode b_X_damage 16 = .ok (.iconst (-1), 1) := by decide +kernel
theorem d_X_damage_17 : decode b_X_damage 17 = .ok (.ireturn, 1) := by decide +kernel
theorem d_X_damage_18 : decode b_X_damage 18 = .ok (.aload_n 0, 1) := by decide +kernel
theorem d_X_damage_19 : decode b_X_damage 19 = .ok (.getfield 11, 3) := by decide +kernel
theorem d_X_damage_22 : decode b_X_damage 22 = .ok (.iload_n 1, 1) := by decide +kernel
theorem d_X_damage_23 : decode b_X_damage 23 = .ok (.aaload, 1) := by decide +kernel
theorem d_X_damage_24 : decode b_X_damage 24 = .ok (.iload_n 2, 1) := by decide +kernel
theorem d_X_damage_25 : decode b_X_damage 25 = .ok (.iload_n 3, 1) := by decide +kernel
theorem d_X_damage_26 : decode b_X_damage 26 = .ok (.iload 4, 2) := by decide +kernel
theorem d_X_damage_28 : decode b_X_damage 28 = .ok (.sipush 255, 3) := by decide +kernel
theorem d_X_damage_31 : decode b_X_damage 31 = .ok (.iand, 1) := by decide +kernel
theorem d_X_damage_32 : decode b_X_damage 32 = .ok (.invokevirtual 74, 3) := by decide +kernel
theorem d_X_damage_35 : decode b_X_damage 35 = .ok (.aload_n 0, 1) := by decide +kernel
theorem d_X_damage_36 : decode b_X_damage 36 = .ok (.getfield 11, 3) := by decide +kernel
theorem d_X_damage_39 : decode b_X_damage 39 = .ok (.iload_n 1, 1) := by decide +kernel
theorem d_X_damage_40 : decode b_X_damage 40 = .ok (.aaload, 1) := by decide +kernel
theorem d_X_damage_41 : decode b_X_damage 41 = .ok (.iload_n 2, 1) := by decide +kernel
theorem d_X_damage_42 : decode b_X_damage 42 = .ok (.iload_n 3, 1) := by decide +kernel
theorem d_X_damage_43 : decode b_X_damage 43 = .ok (.invokevirtual 70, 3) := by decide +kernel
theorem d_X_damage_46 : decode b_X_damage 46 = .ok (.ireturn, 1) := by decide +kernel
theorem d_X_sum_0 : decode b_X_sum 0 = .ok (.iload_n 1, 1) := by decide +kernel
theorem d_X_sum_1 : decode b_X_sum 1 = .ok (.invokestatic 63, 3) := by decide +kernel
theorem d_X_sum_4 : decode b_X_sum 4 = .ok (.ifCond .eq 26, 3) := by decide +kernel
theorem d_X_sum_7 : decode b_X_sum 7 = .ok (.iload_n 3, 1) := by decide +kernel
theorem d_X_sum_8 : decode b_X_sum 8 = .ok (.invokestatic 77, 3) := by decide +kernel
theorem d_X_sum_11 : decode b_X_sum 11 = .ok (.ifCond .eq 19, 3) := by decide +kernel
theorem d_X_sum_14 : decode b_X_sum 14 = .ok (.iload_n 2, 1) := by decide +kernel
theorem d_X_sum_15 : decode b_X_sum 15 = .ok (.invokestatic 51, 3) := by decide +kernel
theorem d_X_sum_18 : decode b_X_sum 18 = .ok (.ifCond .eq 12, 3) := by decide +kernel
theorem d_X_sum_21 : decode b_X_sum 21 = .ok (.aload_n 0, 1) := by decide +kernel
theorem d_X_sum_22 : decode b_X_sum 22 = .ok (.getfield 15, 3) := by decide +kernel
theorem d_X_sum_25 : decode b_X_sum 25 = .ok (.iload_n 2, 1) := by decide +kernel
theorem d_X_sum_26 : decode b_X_sum 26 = .ok (.iaload, 1) := by decide +kernel
theorem d_X_sum_27 : decode b_X_sum 27 = .ok (.ifCond .ne 5, 3) := by decide +kernel
theorem d_X_sum_30 : decode b_X_sum 30 = .ok (.lconst 0, 1) := by decide +kernel
theorem d_X_sum_31 : decode b_X_sum 31 = .ok (.lreturn, 1) := by decide +kernel
theorem d_X_sum_32 : decode b_X_sum 32 = .ok (.aload_n 0, 1) := by decide +kernel
theorem d_X_sum_33 : decode b_X_sum 33 = .ok (.getfield 11, 3) := by decide +kernel
theorem d_X_sum_36 : decode b_X_sum 36 = .ok (.iload_n 1, 1) := by decide +kernel
theorem d_X_sum_37 : decode b_X_sum 37 = .ok (.aaload, 1) := by decide +kernel
theorem d_X_sum_38 : decode b_X_sum 38 = .ok (.iload_n 2, 1) := by decide +kernel
theorem d_X_sum_39 : decode b_X_sum 39 = .ok (.iload_n 3, 1) := by decide +kernel
theorem d_X_sum_40 : decode b_X_sum 40 = .ok (.aload_n 0, 1) := by decide +kernel
theorem d_X_sum_41 : decode b_X_sum 41 = .ok (.getfield 15, 3) := by decide +kernel
theorem d_X_sum_44 : decode b_X_sum 44 = .ok (.iload_n 2, 1) := by decide +kernel
theorem d_X_sum_45 : decode b_X_sum 45 = .ok (.iaload, 1) := by decide +kernel
theorem d_X_sum_46 : decode b_X_sum 46 = .ok (.lload 4, 2) := by decide +kernel
theorem d_X_sum_48 : decode b_X_sum 48 = .ok (.invokevirtual 80, 3) := by decide +kernel
theorem d_X_sum_51 : decode b_X_sum 51 = .ok (.lreturn, 1) := by decide +kernel
theorem d_X_poll_0 : decode b_X_poll 0 = .ok (.iload_n 1, 1) := by decide +kernel
theorem d_X_poll_1 : decode b_X_poll 1 = .ok (.invokestatic 51, 3) := by decide +kernel
theorem d_X_poll_4 : decode b_X_poll 4 = .ok (.ifCond .eq 10, 3) := by decide +kernel
theorem d_X_poll_7 : decode b_X_poll 7 = .ok (.iload_n 2, 1) := by decide +kernel
theorem d_X_poll_8 : decode b_X_poll 8 = .ok (.invokestatic 77, 3) := by decide +kernel
theorem d_X_poll_11 : decode b_X_poll 11 = .ok (.ifCond .ne 5, 3) := by decide +kernel
theorem d_X_poll_14 : decode b_X_poll 14 = .ok (.iconst (-1), 1) := by decide +kernel
theorem d_X_poll_15 : decode b_X_poll 15 = .ok (.ireturn, 1) := by decide +kernel
theorem d_X_poll_16 : decode b_X_poll 16 = .ok (.iload_n 2, 1) := by decide +kernel
theorem d_X_poll_17 : decode b_X_poll 17 = .ok (.aload_n 0, 1) := by decide +kernel
theorem d_X_poll_18 : decode b_X_poll 18 = .ok (.getfield 15, 3) := by decide +kernel
theorem d_X_poll_21 : decode b_X_poll 21 = .ok (.iload_n 1, 1) := by decide +kernel
theorem d_X_poll_22 : decode b_X_poll 22 = .ok (.iaload, 1) := by decide +kernel
theorem d_X_poll_23 : decode b_X_poll 23 = .ok (.if_icmp .lt 6, 3) := by decide +kernel
theorem d_X_poll_26 : decode b_X_poll 26 = .ok (.bipush (-2), 2) := by decide +kernel
theorem d_X_poll_28 : decode b_X_poll 28 = .ok (.ireturn, 1) := by decide +kernel
theorem d_X_poll_29 : decode b_X_poll 29 = .ok (.aload_n 0, 1) := by decide +kernel
theorem d_X_poll_30 : decode b_X_poll 30 = .ok (.invokevirtual 84, 3) := by decide +kernel
theorem d_X_poll_33 : decode b_X_poll 33 = .ok (.astore 5, 2) := by decide +kernel
theorem d_X_poll_35 : decode b_X_poll 35 = .ok (.aload 5, 2) := by decide +kernel
theorem d_X_poll_37 : decode b_X_poll 37 = .ok (.ifnull 13, 3) := by decide +kernel
theorem d_X_poll_40 : decode b_X_poll 40 = .ok (.aload_n 0, 1) := by decide +kernel
theorem d_X_poll_41 : decode b_X_poll 41 = .ok (.getfield 42, 3) := by decide +kernel
theorem d_X_poll_44 : decode b_X_poll 44 = .ok (.sipush 512, 3) := by decide +kernel
theorem d_X_poll_47 : decode b_X_poll 47 = .ok (.if_icmp .lt 6, 3) := by decide +kernel
theorem d_X_poll_50 : decode b_X_poll 50 = .ok (.bipush (-3), 2) := by decide +kernel
theorem d_X_poll_52 : decode b_X_poll 52 = .ok (.ireturn, 1) := by decide +kernel
theorem d_X_poll_53 : decode b_X_poll 53 = .ok (.aload_n 0, 1) := by decide +kernel
theorem d_X_poll_54 : decode b_X_poll 54 = .ok (.dup, 1) := by decide +kernel
theorem d_X_poll_55 : decode b_X_poll 55 = .ok (.getfield 42, 3) := by decide +kernel
theorem d_X_poll_58 : decode b_X_poll 58 = .ok (.iconst 1, 1) := by decide +kernel
theorem d_X_poll_59 : decode b_X_poll 59 = .ok (.iadd, 1) := by decide +kernel
theorem d_X_poll_60 : decode b_X_poll 60 = .ok (.putfield 42, 3) := by decide +kernel
theorem d_X_poll_63 : decode b_X_poll 63 = .ok (.aload_n 0, 1) := by decide +kernel
theorem d_X_poll_64 : decode b_X_poll 64 = .ok (.getfield 32, 3) := by decide +kernel
theorem d_X_poll_67 : decode b_X_poll 67 = .ok (.aload_n 0, 1) := by decide +kernel
theorem d_X_poll_68 : decode b_X_poll 68 = .ok (.getfield 42, 3) := by decide +kernel
theorem d_X_poll_71 : decode b_X_poll 71 = .ok (.iconst 0, 1) := by decide +kernel
theorem d_X_poll_72 : decode b_X_poll 72 = .ok (.iastore, 1) := by decide +kernel
theorem d_X_poll_73 : decode b_X_poll 73 = .ok (.aload 5, 2) := by decide +kernel
theorem d_X_poll_75 : decode b_X_poll 75 = .ok (.aload_n 0, 1) := by decide +kernel
theorem d_X_poll_76 : decode b_X_poll 76 = .ok (.getfield 42, 3) := by decide +kernel
theorem d_X_poll_79 : decode b_X_poll 79 = .ok (.iload_n 1, 1) := by decide +kernel
theorem d_X_poll_80 : decode b_X_poll 80 = .ok (.iload_n 2, 1) := by decide +kernel
theorem d_X_poll_81 : decode b_X_poll 81 = .ok (.lload_n 3, 1) := by decide +kernel
theorem d_X_poll_82 : decode b_X_poll 82 = .ok (.aload_n 0, 1) := by decide +kernel
theorem d_X_poll_83 : decode b_X_poll 83 = .ok (.getfield 38, 3) := by decide +kernel
theorem d_X_poll_86 : decode b_X_poll 86 = .ok (.getfield 88, 3) := by decide +kernel
theorem d_X_poll_89 : decode b_X_poll 89 = .ok (.invokevirtual 91, 3) := by decide +kernel
theorem d_X_poll_92 : decode b_X_poll 92 = .ok (.aload_n 0, 1) := by decide +kernel
theorem d_X_poll_93 : decode b_X_poll 93 = .ok (.aload 5, 2) := by decide +kernel
theorem d_X_poll_95 : decode b_X_poll 95 = .ok (.invokevirtual 95, 3) := by decide +kernel
theorem d_X_poll_98 : decode b_X_poll 98 = .ok (.pop, 1) := by decide +kernel
theorem d_X_poll_99 : decode b_X_poll 99 = .ok (.aload_n 0, 1) := by decide +kernel
theorem d_X_poll_100 : decode b_X_poll 100 = .ok (.getfield 42, 3) := by decide +kernel
theorem d_X_poll_103 : decode b_X_poll 103 = .ok (.ireturn, 1) := by decide +kernel
theorem d_X_again_0 : decode b_X_again 0 = .ok (.aload_n 0, 1) := by decide +kernel
theorem d_X_again_1 : decode b_X_again 1 = .ok (.iload_n 1, 1) := by decide +kernel
theorem d_X_again_2 : decode b_X_again 2 = .ok (.invokevirtual 99, 3) := by decide +kernel
theorem d_X_again_5 : decode b_X_again 5 = .ok (.ifCond .ne 5, 3) := by decide +kernel
theorem d_X_again_8 : decode b_X_again 8 = .ok (.iconst (-1), 1) := by decide +kernel
theorem d_X_again_9 : decode b_X_again 9 = .ok (.ireturn, 1) := by decide +kernel
theorem d_X_again_10 : decode b_X_again 10 = .ok (.aload_n 0, 1) := by decide +kernel
theorem d_X_again_11 : decode b_X_again 11 = .ok (.iload_n 1, 1) := by decide +kernel
theorem d_X_again_12 : decode b_X_again 12 = .ok (.invokevirtual 102, 3) := by decide +kernel
theorem d_X_again_15 : decode b_X_again 15 = .ok (.astore_n 2, 1) := by decide +kernel
theorem d_X_again_16 : decode b_X_again 16 = .ok (.aload_n 2, 1) := by decide +kernel
theorem d_X_again_17 : decode b_X_again 17 = .ok (.ifnonnull 8, 3) := by decide +kernel
theorem d_X_again_20 : decode b_X_again 20 = .ok (.bipush (-2), 2) := by decide +kernel
theorem d_X_again_22 : decode b_X_again 22 = .ok (.goto 8, 3) := by decide +kernel
theorem d_X_again_25 : decode b_X_again 25 = .ok (.aload_n 0, 1) := by decide +kernel
theorem d_X_again_26 : decode b_X_again 26 = .ok (.aload_n 2, 1) := by decide +kernel
theorem d_X_again_27 : decode b_X_again 27 = .ok (.invokevirtual 95, 3) := by decide +kernel
theorem d_X_again_30 : decode b_X_again 30 = .ok (.ireturn, 1) := by decide +kernel
theorem d_X_step_0 : decode b_X_step 0 = .ok (.aload_n 0, 1) := by decide +kernel
theorem d_X_step_1 : decode b_X_step 1 = .ok (.getfield 22, 3) := by decide +kernel
theorem d_X_step_4 : decode b_X_step 4 = .ok (.getfield 106, 3) := by decide +kernel
theorem d_X_step_7 : decode b_X_step 7 = .ok (.ifCond .ne 5, 3) := by decide +kernel
theorem d_X_step_10 : decode b_X_step 10 = .ok (.iconst 0, 1) := by decide +kernel
theorem d_X_step_11 : decode b_X_step 11 = .ok (.ireturn, 1) := by decide +kernel
theorem d_X_step_12 : decode b_X_step 12 = .ok (.aload_n 0, 1) := by decide +kernel
theorem d_X_step_13 : decode b_X_step 13 = .ok (.getfield 22, 3) := by decide +kernel
theorem d_X_step_16 : decode b_X_step 16 = .ok (.getfield 109, 3) := by decide +kernel
theorem d_X_step_19 : decode b_X_step 19 = .ok (.iconst 0, 1) := by decide +kernel
theorem d_X_step_20 : decode b_X_step 20 = .ok (.iaload, 1) := by decide +kernel
theorem d_X_step_21 : decode b_X_step 21 = .ok (.istore_n 1, 1) := by decide +kernel
theorem d_X_step_22 : decode b_X_step 22 = .ok (.aload_n 0, 1) := by decide +kernel
theorem d_X_step_23 : decode b_X_step 23 = .ok (.getfield 22, 3) := by decide +kernel
theorem d_X_step_26 : decode b_X_step 26 = .ok (.getfield 112, 3) := by decide +kernel
theorem d_X_step_29 : decode b_X_step 29 = .ok (.iconst 0, 1) := by decide +kernel
theorem d_X_step_30 : decode b_X_step 30 = .ok (.iaload, 1) := by decide +kernel
theorem d_X_step_31 : decode b_X_step 31 = .ok (.istore_n 2, 1) := by decide +kernel
theorem d_X_step_32 : decode b_X_step 32 = .ok (.aload_n 0, 1) := by decide +kernel
theorem d_X_step_33 : decode b_X_step 33 = .ok (.getfield 22, 3) := by decide +kernel
theorem d_X_step_36 : decode b_X_step 36 = .ok (.getfield 114, 3) := by decide +kernel
theorem d_X_step_39 : decode b_X_step 39 = .ok (.iconst 0, 1) := by decide +kernel
theorem d_X_step_40 : decode b_X_step 40 = .ok (.laload, 1) := by decide +kernel
theorem d_X_step_41 : decode b_X_step 41 = .ok (.lstore_n 3, 1) := by decide +kernel
theorem d_X_step_42 : decode b_X_step 42 = .ok (.aload_n 0, 1) := by decide +kernel
theorem d_X_step_43 : decode b_X_step 43 = .ok (.aload_n 0, 1) := by decide +kernel
theorem d_X_step_44 : decode b_X_step 44 = .ok (.getfield 22, 3) := by decide +kernel
theorem d_X_step_47 : decode b_X_step 47 = .ok (.getfield 118, 3) := by decide +kernel
theorem d_X_step_50 : decode b_X_step 50 = .ok (.iconst 0, 1) := by decide +kernel
theorem d_X_step_51 : decode b_X_step 51 = .ok (.iaload, 1) := by decide +kernel
theorem d_X_step_52 : decode b_X_step 52 = .ok (.invokevirtual 102, 3) := by decide +kernel
theorem d_X_step_55 : decode b_X_step 55 = .ok (.astore 5, 2) := by decide +kernel
theorem d_X_step_57 : decode b_X_step 57 = .ok (.aload_n 0, 1) := by decide +kernel
theorem d_X_step_58 : decode b_X_step 58 = .ok (.getfield 22, 3) := by decide +kernel
theorem d_X_step_61 : decode b_X_step 61 = .ok (.iconst 0, 1) := by decide +kernel
theorem d_X_step_62 : decode b_X_step 62 = .ok (.invokevirtual 121, 3) := by decide +kernel
theorem d_X_step_65 : decode b_X_step 65 = .ok (.aload 5, 2) := by decide +kernel
theorem d_X_step_67 : decode b_X_step 67 = .ok (.ifnull 12, 3) := by decide +kernel
theorem d_X_step_70 : decode b_X_step 70 = .ok (.aload_n 0, 1) := by decide +kernel
theorem d_X_step_71 : decode b_X_step 71 = .ok (.aload 5, 2) := by decide +kernel
theorem d_X_step_73 : decode b_X_step 73 = .ok (.iload_n 1, 1) := by decide +kernel
theorem d_X_step_74 : decode b_X_step 74 = .ok (.iload_n 2, 1) := by decide +kernel
theorem d_X_step_75 : decode b_X_step 75 = .ok (.lload_n 3, 1) := by decide +kernel
theorem d_X_step_76 : decode b_X_step 76 = .ok (.invokevirtual 125, 3) := by decide +kernel
theorem d_X_step_79 : decode b_X_step 79 = .ok (.iload_n 1, 1) := by decide +kernel
theorem d_X_step_80 : decode b_X_step 80 = .ok (.ireturn, 1) := by decide +kernel
theorem d_X_lose_0 : decode b_X_lose 0 = .ok (.aload_n 0, 1) := by decide +kernel
theorem d_X_lose_1 : decode b_X_lose 1 = .ok (.getfield 22, 3) := by decide +kernel
theorem d_X_lose_4 : decode b_X_lose 4 = .ok (.iload_n 1, 1) := by decide +kernel
theorem d_X_lose_5 : decode b_X_lose 5 = .ok (.invokevirtual 129, 3) := by decide +kernel
theorem d_X_lose_8 : decode b_X_lose 8 = .ok (.ifCond .ne 5, 3) := by decide +kernel
theorem d_X_lose_11 : decode b_X_lose 11 = .ok (.iconst (-1), 1) := by decide +kernel
theorem d_X_lose_12 : decode b_X_lose 12 = .ok (.ireturn, 1) := by decide +kernel
theorem d_X_lose_13 : decode b_X_lose 13 = .ok (.aload_n 0, 1) := by decide +kernel
theorem d_X_lose_14 : decode b_X_lose 14 = .ok (.getfield 22, 3) := by decide +kernel
theorem d_X_lose_17 : decode b_X_lose 17 = .ok (.getfield 109, 3) := by decide +kernel
theorem d_X_lose_20 : decode b_X_lose 20 = .ok (.iload_n 1, 1) := by decide +kernel
theorem d_X_lose_21 : decode b_X_lose 21 = .ok (.iaload, 1) := by decide +kernel
theorem d_X_lose_22 : decode b_X_lose 22 = .ok (.istore_n 2, 1) := by decide +kernel
theorem d_X_lose_23 : decode b_X_lose 23 = .ok (.aload_n 0, 1) := by decide +kernel
theorem d_X_lose_24 : decode b_X_lose 24 = .ok (.getfield 22, 3) := by decide +kernel
theorem d_X_lose_27 : decode b_X_lose 27 = .ok (.iload_n 1, 1) := by decide +kernel
theorem d_X_lose_28 : decode b_X_lose 28 = .ok (.invokevirtual 121, 3) := by decide +kernel
theorem d_X_lose_31 : decode b_X_lose 31 = .ok (.iload_n 2, 1) := by decide +kernel
theorem d_X_lose_32 : decode b_X_lose 32 = .ok (.ireturn, 1) := by decide +kernel
theorem d_X_twice_0 : decode b_X_twice 0 = .ok (.aload_n 0, 1) := by decide +kernel
theorem d_X_twice_1 : decode b_X_twice 1 = .ok (.getfield 22, 3) := by decide +kernel
theorem d_X_twice_4 : decode b_X_twice 4 = .ok (.iload_n 1, 1) := by decide +kernel
theorem d_X_twice_5 : decode b_X_twice 5 = .ok (.invokevirtual 129, 3) := by decide +kernel
theorem d_X_twice_8 : decode b_X_twice 8 = .ok (.ifCond .ne 5, 3) := by decide +kernel
theorem d_X_twice_11 : decode b_X_twice 11 = .ok (.iconst (-1), 1) := by decide +kernel
theorem d_X_twice_12 : decode b_X_twice 12 = .ok (.ireturn, 1) := by decide +kernel
theorem d_X_twice_13 : decode b_X_twice 13 = .ok (.aload_n 0, 1) := by decide +kernel
theorem d_X_twice_14 : decode b_X_twice 14 = .ok (.getfield 22, 3) := by decide +kernel
theorem d_X_twice_17 : decode b_X_twice 17 = .ok (.getfield 106, 3) := by decide +kernel
theorem d_X_twice_20 : decode b_X_twice 20 = .ok (.bipush 24, 2) := by decide +kernel
theorem d_X_twice_22 : decode b_X_twice 22 = .ok (.if_icmp .ne 6, 3) := by decide +kernel
theorem d_X_twice_25 : decode b_X_twice 25 = .ok (.bipush (-3), 2) := by decide +kernel
theorem d_X_twice_27 : decode b_X_twice 27 = .ok (.ireturn, 1) := by decide +kernel
theorem d_X_twice_28 : decode b_X_twice 28 = .ok (.aload_n 0, 1) := by decide +kernel
theorem d_X_twice_29 : decode b_X_twice 29 = .ok (.getfield 22, 3) := by decide +kernel
theorem d_X_twice_32 : decode b_X_twice 32 = .ok (.aload_n 0, 1) := by decide +kernel
theorem d_X_twice_33 : decode b_X_twice 33 = .ok (.getfield 22, 3) := by decide +kernel
theorem d_X_twice_36 : decode b_X_twice 36 = .ok (.getfield 109, 3) := by decide +kernel
theorem d_X_twice_39 : decode b_X_twice 39 = .ok (.iload_n 1, 1) := by decide +kernel
theorem d_X_twice_40 : decode b_X_twice 40 = .ok (.iaload, 1) := by decide +kernel
theorem d_X_twice_41 : decode b_X_twice 41 = .ok (.aload_n 0, 1) := by decide +kernel
theorem d_X_twice_42 : decode b_X_twice 42 = .ok (.getfield 22, 3) := by decide +kernel
theorem d_X_twice_45 : decode b_X_twice 45 = .ok (.getfield 118, 3) := by decide +kernel
theorem d_X_twice_48 : decode b_X_twice 48 = .ok (.iload_n 1, 1) := by decide +kernel
theorem d_X_twice_49 : decode b_X_twice 49 = .ok (.iaload, 1) := by decide +kernel
theorem d_X_twice_50 : decode b_X_twice 50 = .ok (.aload_n 0, 1) := by decide +kernel
theorem d_X_twice_51 : decode b_X_twice 51 = .ok (.getfield 22, 3) := by decide +kernel
theorem d_X_twice_54 : decode b_X_twice 54 = .ok (.getfield 112, 3) := by decide +kernel
theorem d_X_twice_57 : decode b_X_twice 57 = .ok (.iload_n 1, 1) := by decide +kernel
theorem d_X_twice_58 : decode b_X_twice 58 = .ok (.iaload, 1) := by decide +kernel
theorem d_X_twice_59 : decode b_X_twice 59 = .ok (.aload_n 0, 1) := by decide +kernel
theorem d_X_twice_60 : decode b_X_twice 60 = .ok (.getfield 22, 3) := by decide +kernel
theorem d_X_twice_63 : decode b_X_twice 63 = .ok (.getfield 114, 3) := by decide +kernel
theorem d_X_twice_66 : decode b_X_twice 66 = .ok (.iload_n 1, 1) := by decide +kernel
theorem d_X_twice_67 : decode b_X_twice 67 = .ok (.laload, 1) := by decide +kernel
theorem d_X_twice_68 : decode b_X_twice 68 = .ok (.invokevirtual 132, 3) := by decide +kernel
theorem d_X_twice_71 : decode b_X_twice 71 = .ok (.aload_n 0, 1) := by decide +kernel
theorem d_X_twice_72 : decode b_X_twice 72 = .ok (.getfield 22, 3) := by decide +kernel
theorem d_X_twice_75 : decode b_X_twice 75 = .ok (.getfield 106, 3) := by decide +kernel
theorem d_X_twice_78 : decode b_X_twice 78 = .ok (.ireturn, 1) := by decide +kernel
theorem d_X_letters_0 : decode b_X_letters 0 = .ok (.aload_n 0, 1) := by decide +kernel
theorem d_X_letters_1 : decode b_X_letters 1 = .ok (.getfield 22, 3) := by decide +kernel
theorem d_X_letters_4 : decode b_X_letters 4 = .ok (.getfield 106, 3) := by decide +kernel
theorem d_X_letters_7 : decode b_X_letters 7 = .ok (.ireturn, 1) := by decide +kernel
theorem d_X_letter_0 : decode b_X_letter 0 = .ok (.aload_n 0, 1) := by decide +kernel

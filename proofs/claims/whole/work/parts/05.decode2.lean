theorem d_P_copiesAllDiffer_0 : decode b_P_copiesAllDiffer 0 = .ok (.aload_n 0, 1) := by decide +kernel
theorem d_P_copiesAllDiffer_1 : decode b_P_copiesAllDiffer 1 = .ok (.iconst 0, 1) := by decide +kernel
theorem d_P_copiesAllDiffer_2 : decode b_P_copiesAllDiffer 2 = .ok (.iload_n 1, 1) := by decide +kernel
theorem d_P_copiesAllDiffer_3 : decode b_P_copiesAllDiffer 3 = .ok (.invokevirtual 45, 3) := by decide +kernel
theorem d_P_copiesAllDiffer_6 : decode b_P_copiesAllDiffer 6 = .ok (.istore_n 2, 1) := by decide +kernel
theorem d_P_copiesAllDiffer_7 : decode b_P_copiesAllDiffer 7 = .ok (.aload_n 0, 1) := by decide +kernel
theorem d_P_copiesAllDiffer_8 : decode b_P_copiesAllDiffer 8 = .ok (.iconst 1, 1) := by decide +kernel
theorem d_P_copiesAllDiffer_9 : decode b_P_copiesAllDiffer 9 = .ok (.iload_n 1, 1) := by decide +kernel
theorem d_P_copiesAllDiffer_10 : decode b_P_copiesAllDiffer 10 = .ok (.invokevirtual 45, 3) := by decide +kernel
theorem d_P_copiesAllDiffer_13 : decode b_P_copiesAllDiffer 13 = .ok (.istore_n 3, 1) := by decide +kernel
theorem d_P_copiesAllDiffer_14 : decode b_P_copiesAllDiffer 14 = .ok (.aload_n 0, 1) := by decide +kernel
theorem d_P_copiesAllDiffer_15 : decode b_P_copiesAllDiffer 15 = .ok (.iconst 2, 1) := by decide +kernel
theorem d_P_copiesAllDiffer_16 : decode b_P_copiesAllDiffer 16 = .ok (.iload_n 1, 1) := by decide +kernel
theorem d_P_copiesAllDiffer_17 : decode b_P_copiesAllDiffer 17 = .ok (.invokevirtual 45, 3) := by decide +kernel
theorem d_P_copiesAllDiffer_20 : decode b_P_copiesAllDiffer 20 = .ok (.istore 4, 2) := by decide +kernel
theorem d_P_copiesAllDiffer_22 : decode b_P_copiesAllDiffer 22 = .ok (.iload_n 2, 1) := by decide +kernel
theorem d_P_copiesAllDiffer_23 : decode b_P_copiesAllDiffer 23 = .ok (.iload_n 3, 1) := by decide +kernel
theorem d_P_copiesAllDiffer_24 : decode b_P_copiesAllDiffer 24 = .ok (.if_icmp .eq 19, 3) := by decide +kernel
theorem d_P_copiesAllDiffer_27 : decode b_P_copiesAllDiffer 27 = .ok (.iload_n 3, 1) := by decide +kernel
theorem d_P_copiesAllDiffer_28 : decode b_P_copiesAllDiffer 28 = .ok (.iload 4, 2) := by decide +kernel
theorem d_P_copiesAllDiffer_30 : decode b_P_copiesAllDiffer 30 = .ok (.if_icmp .eq 13, 3) := by decide +kernel
theorem d_P_copiesAllDiffer_33 : decode b_P_copiesAllDiffer 33 = .ok (.iload_n 2, 1) := by decide +kernel
theorem d_P_copiesAllDiffer_34 : decode b_P_copiesAllDiffer 34 = .ok (.iload 4, 2) := by decide +kernel
theorem d_P_copiesAllDiffer_36 : decode b_P_copiesAllDiffer 36 = .ok (.if_icmp .eq 7, 3) := by decide +kernel
theorem d_P_copiesAllDiffer_39 : decode b_P_copiesAllDiffer 39 = .ok (.iconst 1, 1) := by decide +kernel
theorem d_P_copiesAllDiffer_40 : decode b_P_copiesAllDiffer 40 = .ok (.goto 4, 3) := by decide +kernel
theorem d_P_copiesAllDiffer_43 : decode b_P_copiesAllDiffer 43 = .ok (.iconst 0, 1) := by decide +kernel
theorem d_P_copiesAllDiffer_44 : decode b_P_copiesAllDiffer 44 = .ok (.ireturn, 1) := by decide +kernel
theorem d_X_isHouse_0 : decode b_X_isHouse 0 = .ok (.iload_n 0, 1) := by decide +kernel
theorem d_X_isHouse_1 : decode b_X_isHouse 1 = .ok (.ifCond .lt 12, 3) := by decide +kernel
theorem d_X_isHouse_4 : decode b_X_isHouse 4 = .ok (.iload_n 0, 1) := by decide +kernel
theorem d_X_isHouse_5 : decode b_X_isHouse 5 = .ok (.iconst 3, 1) := by decide +kernel
theorem d_X_isHouse_6 : decode b_X_isHouse 6 = .ok (.if_icmp .ge 7, 3) := by decide +kernel
theorem d_X_isHouse_9 : decode b_X_isHouse 9 = .ok (.iconst 1, 1) := by decide +kernel
theorem d_X_isHouse_10 : decode b_X_isHouse 10 = .ok (.goto 4, 3) := by decide +kernel
theorem d_X_isHouse_13 : decode b_X_isHouse 13 = .ok (.iconst 0, 1) := by decide +kernel
theorem d_X_isHouse_14 : decode b_X_isHouse 14 = .ok (.ireturn, 1) := by decide +kernel
theorem d_X_isDeposit_0 : decode b_X_isDeposit 0 = .ok (.iload_n 0, 1) := by decide +kernel
theorem d_X_isDeposit_1 : decode b_X_isDeposit 1 = .ok (.ifCond .lt 13, 3) := by decide +kernel
theorem d_X_isDeposit_4 : decode b_X_isDeposit 4 = .ok (.iload_n 0, 1) := by decide +kernel
theorem d_X_isDeposit_5 : decode b_X_isDeposit 5 = .ok (.bipush 6, 2) := by decide +kernel
theorem d_X_isDeposit_7 : decode b_X_isDeposit 7 = .ok (.if_icmp .ge 7, 3) := by decide +kernel
theorem d_X_isDeposit_10 : decode b_X_isDeposit 10 = .ok (.iconst 1, 1) := by decide +kernel
theorem d_X_isDeposit_11 : decode b_X_isDeposit 11 = .ok (.goto 4, 3) := by decide +kernel
theorem d_X_isDeposit_14 : decode b_X_isDeposit 14 = .ok (.iconst 0, 1) := by decide +kernel
theorem d_X_isDeposit_15 : decode b_X_isDeposit 15 = .ok (.ireturn, 1) := by decide +kernel
theorem d_X_isPart_0 : decode b_X_isPart 0 = .ok (.iload_n 0, 1) := by decide +kernel
theorem d_X_isPart_1 : decode b_X_isPart 1 = .ok (.ifCond .lt 13, 3) := by decide +kernel
theorem d_X_isPart_4 : decode b_X_isPart 4 = .ok (.iload_n 0, 1) := by decide +kernel
theorem d_X_isPart_5 : decode b_X_isPart 5 = .ok (.bipush 8, 2) := by decide +kernel
theorem d_X_isPart_7 : decode b_X_isPart 7 = .ok (.if_icmp .ge 7, 3) := by decide +kernel
theorem d_X_isPart_10 : decode b_X_isPart 10 = .ok (.iconst 1, 1) := by decide +kernel
theorem d_X_isPart_11 : decode b_X_isPart 11 = .ok (.goto 4, 3) := by decide +kernel
theorem d_X_isPart_14 : decode b_X_isPart 14 = .ok (.iconst 0, 1) := by decide +kernel
theorem d_X_isPart_15 : decode b_X_isPart 15 = .ok (.ireturn, 1) := by decide +kernel
theorem d_X_isByte_0 : decode b_X_isByte 0 = .ok (.iload_n 1, 1) := by decide +kernel
theorem d_X_isByte_1 : decode b_X_isByte 1 = .ok (.invokestatic 51, 3) := by decide +kernel
theorem d_X_isByte_4 : decode b_X_isByte 4 = .ok (.ifCond .eq 23, 3) := by decide +kernel
theorem d_X_isByte_7 : decode b_X_isByte 7 = .ok (.iload_n 2, 1) := by decide +kernel
theorem d_X_isByte_8 : decode b_X_isByte 8 = .ok (.ifCond .lt 19, 3) := by decide +kernel
theorem d_X_isByte_11 : decode b_X_isByte 11 = .ok (.iload_n 2, 1) := by decide +kernel
theorem d_X_isByte_12 : decode b_X_isByte 12 = .ok (.aload_n 0, 1) := by decide +kernel
theorem d_X_isByte_13 : decode b_X_isByte 13 = .ok (.getfield 15, 3) := by decide +kernel
theorem d_X_isByte_16 : decode b_X_isByte 16 = .ok (.iload_n 1, 1) := by decide +kernel
theorem d_X_isByte_17 : decode b_X_isByte 17 = .ok (.iaload, 1) := by decide +kernel
theorem d_X_isByte_18 : decode b_X_isByte 18 = .ok (.iconst 4, 1) := by decide +kernel
theorem d_X_isByte_19 : decode b_X_isByte 19 = .ok (.imul, 1) := by decide +kernel
theorem d_X_isByte_20 : decode b_X_isByte 20 = .ok (.if_icmp .ge 7, 3) := by decide +kernel
theorem d_X_isByte_23 : decode b_X_isByte 23 = .ok (.iconst 1, 1) := by decide +kernel
theorem d_X_isByte_24 : decode b_X_isByte 24 = .ok (.goto 4, 3) := by decide +kernel
theorem d_X_isByte_27 : decode b_X_isByte 27 = .ok (.iconst 0, 1) := by decide +kernel
theorem d_X_isByte_28 : decode b_X_isByte 28 = .ok (.ireturn, 1) := by decide +kernel
theorem d_X_isPoll_0 : decode b_X_isPoll 0 = .ok (.iload_n 1, 1) := by decide +kernel
theorem d_X_isPoll_1 : decode b_X_isPoll 1 = .ok (.iconst 1, 1) := by decide +kernel
theorem d_X_isPoll_2 : decode b_X_isPoll 2 = .ok (.if_icmp .lt 15, 3) := by decide +kernel
theorem d_X_isPoll_5 : decode b_X_isPoll 5 = .ok (.iload_n 1, 1) := by decide +kernel
theorem d_X_isPoll_6 : decode b_X_isPoll 6 = .ok (.aload_n 0, 1) := by decide +kernel
theorem d_X_isPoll_7 : decode b_X_isPoll 7 = .ok (.getfield 42, 3) := by decide +kernel
theorem d_X_isPoll_10 : decode b_X_isPoll 10 = .ok (.if_icmp .gt 7, 3) := by decide +kernel
theorem d_X_isPoll_13 : decode b_X_isPoll 13 = .ok (.iconst 1, 1) := by decide +kernel
theorem d_X_isPoll_14 : decode b_X_isPoll 14 = .ok (.goto 4, 3) := by decide +kernel
theorem d_X_isPoll_17 : decode b_X_isPoll 17 = .ok (.iconst 0, 1) := by decide +kernel
theorem d_X_isPoll_18 : decode b_X_isPoll 18 = .ok (.ireturn, 1) := by decide +kernel
theorem d_X_allHousesOpen_0 : decode b_X_allHousesOpen 0 = .ok (.iconst 0, 1) := by decide +kernel
theorem d_X_allHousesOpen_1 : decode b_X_allHousesOpen 1 = .ok (.istore_n 1, 1) := by decide +kernel
theorem d_X_allHousesOpen_2 : decode b_X_allHousesOpen 2 = .ok (.iload_n 1, 1) := by decide +kernel
theorem d_X_allHousesOpen_3 : decode b_X_allHousesOpen 3 = .ok (.iconst 3, 1) := by decide +kernel
theorem d_X_allHousesOpen_4 : decode b_X_allHousesOpen 4 = .ok (.if_icmp .ge 23, 3) := by decide +kernel
theorem d_X_allHousesOpen_7 : decode b_X_allHousesOpen 7 = .ok (.aload_n 0, 1) := by decide +kernel
theorem d_X_allHousesOpen_8 : decode b_X_allHousesOpen 8 = .ok (.getfield 11, 3) := by decide +kernel
theorem d_X_allHousesOpen_11 : decode b_X_allHousesOpen 11 = .ok (.iload_n 1, 1) := by decide +kernel
theorem d_X_allHousesOpen_12 : decode b_X_allHousesOpen 12 = .ok (.aaload, 1) := by decide +kernel
theorem d_X_allHousesOpen_13 : decode b_X_allHousesOpen 13 = .ok (.getfield 140, 3) := by decide +kernel
theorem d_X_allHousesOpen_16 : decode b_X_allHousesOpen 16 = .ok (.ifCond .ne 5, 3) := by decide +kernel
theorem d_X_allHousesOpen_19 : decode b_X_allHousesOpen 19 = .ok (.iconst 0, 1) := by decide +kernel
theorem d_X_allHousesOpen_20 : decode b_X_allHousesOpen 20 = .ok (.ireturn, 1) := by decide +kernel
theorem d_X_allHousesOpen_21 : decode b_X_allHousesOpen 21 = .ok (.iinc 1 1, 3) := by decide +kernel
theorem d_X_allHousesOpen_24 : decode b_X_allHousesOpen 24 = .ok (.goto (-22), 3) := by decide +kernel
theorem d_X_allHousesOpen_27 : decode b_X_allHousesOpen 27 = .ok (.iconst 1, 1) := by decide +kernel
theorem d_X_allHousesOpen_28 : decode b_X_allHousesOpen 28 = .ok (.ireturn, 1) := by decide +kernel
theorem d_X_freePlace_0 : decode b_X_freePlace 0 = .ok (.iconst 0, 1) := by decide +kernel
theorem d_X_freePlace_1 : decode b_X_freePlace 1 = .ok (.istore_n 1, 1) := by decide +kernel
theorem d_X_freePlace_2 : decode b_X_freePlace 2 = .ok (.iload_n 1, 1) := by decide +kernel
theorem d_X_freePlace_3 : decode b_X_freePlace 3 = .ok (.bipush 6, 2) := by decide +kernel
theorem d_X_freePlace_5 : decode b_X_freePlace 5 = .ok (.if_icmp .ge 28, 3) := by decide +kernel
theorem d_X_freePlace_8 : decode b_X_freePlace 8 = .ok (.aload_n 0, 1) := by decide +kernel
theorem d_X_freePlace_9 : decode b_X_freePlace 9 = .ok (.getfield 28, 3) := by decide +kernel
theorem d_X_freePlace_12 : decode b_X_freePlace 12 = .ok (.iload_n 1, 1) := by decide +kernel
theorem d_X_freePlace_13 : decode b_X_freePlace 13 = .ok (.aaload, 1) := by decide +kernel
theorem d_X_freePlace_14 : decode b_X_freePlace 14 = .ok (.getfield 155, 3) := by decide +kernel
theorem d_X_freePlace_17 : decode b_X_freePlace 17 = .ok (.ifCond .ne 10, 3) := by decide +kernel
theorem d_X_freePlace_20 : decode b_X_freePlace 20 = .ok (.aload_n 0, 1) := by decide +kernel
theorem d_X_freePlace_21 : decode b_X_freePlace 21 = .ok (.getfield 28, 3) := by decide +kernel
theorem d_X_freePlace_24 : decode b_X_freePlace 24 = .ok (.iload_n 1, 1) := by decide +kernel
theorem d_X_freePlace_25 : decode b_X_freePlace 25 = .ok (.aaload, 1) := by decide +kernel
theorem d_X_freePlace_26 : decode b_X_freePlace 26 = .ok (.areturn, 1) := by decide +kernel
theorem d_X_freePlace_27 : decode b_X_freePlace 27 = .ok (.iinc 1 1, 3) := by decide +kernel
theorem d_X_freePlace_30 : decode b_X_freePlace 30 = .ok (.goto (-28), 3) := by decide +kernel
theorem d_X_freePlace_33 : decode b_X_freePlace 33 = .ok (.aconst_null, 1) := by decide +kernel
theorem d_X_freePlace_34 : decode b_X_freePlace 34 = .ok (.areturn, 1) := by decide +kernel
theorem d_X_runningPoll_0 : decode b_X_runningPoll 0 = .ok (.aload_n 0, 1) := by decide +kernel
theorem d_X_runningPoll_1 : decode b_X_runningPoll 1 = .ok (.iload_n 1, 1) := by decide +kernel
theorem d_X_runningPoll_2 : decode b_X_runningPoll 2 = .ok (.invokevirtual 99, 3) := by decide +kernel
theorem d_X_runningPoll_5 : decode b_X_runningPoll 5 = .ok (.ifCond .ne 5, 3) := by decide +kernel
theorem d_X_runningPoll_8 : decode b_X_runningPoll 8 = .ok (.aconst_null, 1) := by decide +kernel
theorem d_X_runningPoll_9 : decode b_X_runningPoll 9 = .ok (.areturn, 1) := by decide +kernel
theorem d_X_runningPoll_10 : decode b_X_runningPoll 10 = .ok (.iconst 0, 1) := by decide +kernel
theorem d_X_runningPoll_11 : decode b_X_runningPoll 11 = .ok (.istore_n 2, 1) := by decide +kernel
theorem d_X_runningPoll_12 : decode b_X_runningPoll 12 = .ok (.iload_n 2, 1) := by decide +kernel
theorem d_X_runningPoll_13 : decode b_X_runningPoll 13 = .ok (.bipush 6, 2) := by decide +kernel
theorem d_X_runningPoll_15 : decode b_X_runningPoll 15 = .ok (.if_icmp .ge 29, 3) := by decide +kernel
theorem d_X_runningPoll_18 : decode b_X_runningPoll 18 = .ok (.aload_n 0, 1) := by decide +kernel
theorem d_X_runningPoll_19 : decode b_X_runningPoll 19 = .ok (.getfield 28, 3) := by decide +kernel
theorem d_X_runningPoll_22 : decode b_X_runningPoll 22 = .ok (.iload_n 2, 1) := by decide +kernel
theorem d_X_runningPoll_23 : decode b_X_runningPoll 23 = .ok (.aaload, 1) := by decide +kernel
theorem d_X_runningPoll_24 : decode b_X_runningPoll 24 = .ok (.getfield 155, 3) := by decide +kernel
theorem d_X_runningPoll_27 : decode b_X_runningPoll 27 = .ok (.iload_n 1, 1) := by decide +kernel
theorem d_X_runningPoll_28 : decode b_X_runningPoll 28 = .ok (.if_icmp .ne 10, 3) := by decide +kernel
theorem d_X_runningPoll_31 : decode b_X_runningPoll 31 = .ok (.aload_n 0, 1) := by decide +kernel
theorem d_X_runningPoll_32 : decode b_X_runningPoll 32 = .ok (.getfield 28, 3) := by decide +kernel
theorem d_X_runningPoll_35 : decode b_X_runningPoll 35 = .ok (.iload_n 2, 1) := by decide +kernel
theorem d_X_runningPoll_36 : decode b_X_runningPoll 36 = .ok (.aaload, 1) := by decide +kernel
theorem d_X_runningPoll_37 : decode b_X_runningPoll 37 = .ok (.areturn, 1) := by decide +kernel
theorem d_X_runningPoll_38 : decode b_X_runningPoll 38 = .ok (.iinc 2 1, 3) := by decide +kernel
theorem d_X_runningPoll_41 : decode b_X_runningPoll 41 = .ok (.goto (-29), 3) := by decide +kernel
theorem d_X_runningPoll_44 : decode b_X_runningPoll 44 = .ok (.aconst_null, 1) := by decide +kernel
theorem d_X_runningPoll_45 : decode b_X_runningPoll 45 = .ok (.areturn, 1) := by decide +kernel
theorem d_X_parts_0 : decode b_X_parts 0 = .ok (.iconst 0, 1) := by decide +kernel
theorem d_X_parts_1 : decode b_X_parts 1 = .ok (.istore_n 1, 1) := by decide +kernel
theorem d_X_parts_2 : decode b_X_parts 2 = .ok (.iconst 0, 1) := by decide +kernel
theorem d_X_parts_3 : decode b_X_parts 3 = .ok (.istore_n 2, 1) := by decide +kernel
theorem d_X_parts_4 : decode b_X_parts 4 = .ok (.iload_n 2, 1) := by decide +kernel
theorem d_X_parts_5 : decode b_X_parts 5 = .ok (.bipush 6, 2) := by decide +kernel
theorem d_X_parts_7 : decode b_X_parts 7 = .ok (.if_icmp .ge 23, 3) := by decide +kernel
theorem d_X_parts_10 : decode b_X_parts 10 = .ok (.iload_n 1, 1) := by decide +kernel
theorem d_X_parts_11 : decode b_X_parts 11 = .ok (.aload_n 0, 1) := by decide +kernel
theorem d_X_parts_12 : decode b_X_parts 12 = .ok (.getfield 15, 3) := by decide +kernel
theorem d_X_parts_15 : decode b_X_parts 15 = .ok (.iload_n 2, 1) := by decide +kernel
theorem d_X_parts_16 : decode b_X_parts 16 = .ok (.iaload, 1) := by decide +kernel
theorem d_X_parts_17 : decode b_X_parts 17 = .ok (.bipush 8, 2) := by decide +kernel
theorem d_X_parts_19 : decode b_X_parts 19 = .ok (.invokestatic 147, 3) := by decide +kernel
theorem d_X_parts_22 : decode b_X_parts 22 = .ok (.iadd, 1) := by decide +kernel
theorem d_X_parts_23 : decode b_X_parts 23 = .ok (.istore_n 1, 1) := by decide +kernel
theorem d_X_parts_24 : decode b_X_parts 24 = .ok (.iinc 2 1, 3) := by decide +kernel
theorem d_X_parts_27 : decode b_X_parts 27 = .ok (.goto (-23), 3) := by decide +kernel
theorem d_X_parts_30 : decode b_X_parts 30 = .ok (.iload_n 1, 1) := by decide +kernel
theorem d_X_parts_31 : decode b_X_parts 31 = .ok (.ireturn, 1) := by decide +kernel
theorem d_X_sendToAwaited_0 : decode b_X_sendToAwaited 0 = .ok (.aload_n 1, 1) := by decide +kernel
theorem d_X_sendToAwaited_1 : decode b_X_sendToAwaited 1 = .ok (.getfield 156, 3) := by decide +kernel
theorem d_X_sendToAwaited_4 : decode b_X_sendToAwaited 4 = .ok (.invokevirtual 160, 3) := by decide +kernel
theorem d_X_sendToAwaited_7 : decode b_X_sendToAwaited 7 = .ok (.istore_n 2, 1) := by decide +kernel
theorem d_X_sendToAwaited_8 : decode b_X_sendToAwaited 8 = .ok (.iload_n 2, 1) := by decide +kernel
theorem d_X_sendToAwaited_9 : decode b_X_sendToAwaited 9 = .ok (.ifCond .eq 7, 3) := by decide +kernel
theorem d_X_sendToAwaited_12 : decode b_X_sendToAwaited 12 = .ok (.iconst 3, 1) := by decide +kernel
theorem d_X_sendToAwaited_13 : decode b_X_sendToAwaited 13 = .ok (.goto 4, 3) := by decide +kernel
theorem d_X_sendToAwaited_16 : decode b_X_sendToAwaited 16 = .ok (.iconst 1, 1) := by decide +kernel
theorem d_X_sendToAwaited_17 : decode b_X_sendToAwaited 17 = .ok (.istore_n 3, 1) := by decide +kernel
theorem d_X_sendToAwaited_18 : decode b_X_sendToAwaited 18 = .ok (.iload_n 2, 1) := by decide +kernel
theorem d_X_sendToAwaited_19 : decode b_X_sendToAwaited 19 = .ok (.ifCond .eq 10, 3) := by decide +kernel
theorem d_X_sendToAwaited_22 : decode b_X_sendToAwaited 22 = .ok (.aload_n 1, 1) := by decide +kernel
theorem d_X_sendToAwaited_23 : decode b_X_sendToAwaited 23 = .ok (.getfield 165, 3) := by decide +kernel
theorem d_X_sendToAwaited_26 : decode b_X_sendToAwaited 26 = .ok (.goto 7, 3) := by decide +kernel
theorem d_X_sendToAwaited_29 : decode b_X_sendToAwaited 29 = .ok (.aload_n 1, 1) := by decide +kernel
theorem d_X_sendToAwaited_30 : decode b_X_sendToAwaited 30 = .ok (.getfield 156, 3) := by decide +kernel
theorem d_X_sendToAwaited_33 : decode b_X_sendToAwaited 33 = .ok (.astore 4, 2) := by decide +kernel
theorem d_X_sendToAwaited_35 : decode b_X_sendToAwaited 35 = .ok (.iconst 0, 1) := by decide +kernel
theorem d_X_sendToAwaited_36 : decode b_X_sendToAwaited 36 = .ok (.istore 5, 2) := by decide +kernel
theorem d_X_sendToAwaited_38 : decode b_X_sendToAwaited 38 = .ok (.iconst 0, 1) := by decide +kernel
theorem d_X_sendToAwaited_39 : decode b_X_sendToAwaited 39 = .ok (.istore 6, 2) := by decide +kernel
theorem d_X_sendToAwaited_41 : decode b_X_sendToAwaited 41 = .ok (.iload 6, 2) := by decide +kernel
theorem d_X_sendToAwaited_43 : decode b_X_sendToAwaited 43 = .ok (.iconst 3, 1) := by decide +kernel
theorem d_X_sendToAwaited_44 : decode b_X_sendToAwaited 44 = .ok (.if_icmp .ge 38, 3) := by decide +kernel
theorem d_X_sendToAwaited_47 : decode b_X_sendToAwaited 47 = .ok (.aload 4, 2) := by decide +kernel
theorem d_X_sendToAwaited_49 : decode b_X_sendToAwaited 49 = .ok (.getfield 168, 3) := by decide +kernel
theorem d_X_sendToAwaited_52 : decode b_X_sendToAwaited 52 = .ok (.iload 6, 2) := by decide +kernel
theorem d_X_sendToAwaited_54 : decode b_X_sendToAwaited 54 = .ok (.baload, 1) := by decide +kernel
theorem d_X_sendToAwaited_55 : decode b_X_sendToAwaited 55 = .ok (.ifCond .ne 21, 3) := by decide +kernel
theorem d_X_sendToAwaited_58 : decode b_X_sendToAwaited 58 = .ok (.aload_n 0, 1) := by decide +kernel
theorem d_X_sendToAwaited_59 : decode b_X_sendToAwaited 59 = .ok (.getfield 22, 3) := by decide +kernel
theorem d_X_sendToAwaited_62 : decode b_X_sendToAwaited 62 = .ok (.iload_n 3, 1) := by decide +kernel
theorem d_X_sendToAwaited_63 : decode b_X_sendToAwaited 63 = .ok (.aload_n 1, 1) := by decide +kernel
theorem d_X_sendToAwaited_64 : decode b_X_sendToAwaited 64 = .ok (.getfield 155, 3) := by decide +kernel
theorem d_X_sendToAwaited_67 : decode b_X_sendToAwaited 67 = .ok (.iload 6, 2) := by decide +kernel
theorem d_X_sendToAwaited_69 : decode b_X_sendToAwaited 69 = .ok (.lconst 0, 1) := by decide +kernel
theorem d_X_sendToAwaited_70 : decode b_X_sendToAwaited 70 = .ok (.invokevirtual 132, 3) := by decide +kernel
theorem d_X_sendToAwaited_73 : decode b_X_sendToAwaited 73 = .ok (.iinc 5 1, 3) := by decide +kernel
theorem d_X_sendToAwaited_76 : decode b_X_sendToAwaited 76 = .ok (.iinc 6 1, 3) := by decide +kernel
theorem d_X_sendToAwaited_79 : decode b_X_sendToAwaited 79 = .ok (.goto (-38), 3) := by decide +kernel
theorem d_X_sendToAwaited_82 : decode b_X_sendToAwaited 82 = .ok (.iload 5, 2) := by decide +kernel
theorem d_X_sendToAwaited_84 : decode b_X_sendToAwaited 84 = .ok (.ireturn, 1) := by decide +kernel
theorem d_X_answerAsk_0 : decode b_X_answerAsk 0 = .ok (.aload_n 0, 1) := by decide +kernel
theorem d_X_answerAsk_1 : decode b_X_answerAsk 1 = .ok (.getfield 11, 3) := by decide +kernel
theorem d_X_answerAsk_4 : decode b_X_answerAsk 4 = .ok (.iload_n 2, 1) := by decide +kernel
theorem d_X_answerAsk_5 : decode b_X_answerAsk 5 = .ok (.aaload, 1) := by decide +kernel
theorem d_X_answerAsk_6 : decode b_X_answerAsk 6 = .ok (.getfield 140, 3) := by decide +kernel
theorem d_X_answerAsk_9 : decode b_X_answerAsk 9 = .ok (.ifCond .eq 49, 3) := by decide +kernel
theorem d_X_answerAsk_12 : decode b_X_answerAsk 12 = .ok (.aload_n 1, 1) := by decide +kernel
theorem d_X_answerAsk_13 : decode b_X_answerAsk 13 = .ok (.getfield 185, 3) := by decide +kernel
theorem d_X_answerAsk_16 : decode b_X_answerAsk 16 = .ok (.istore_n 3, 1) := by decide +kernel
theorem d_X_answerAsk_17 : decode b_X_answerAsk 17 = .ok (.aload_n 0, 1) := by decide +kernel
theorem d_X_answerAsk_18 : decode b_X_answerAsk 18 = .ok (.getfield 11, 3) := by decide +kernel
theorem d_X_answerAsk_21 : decode b_X_answerAsk 21 = .ok (.iload_n 2, 1) := by decide +kernel
theorem d_X_answerAsk_22 : decode b_X_answerAsk 22 = .ok (.aaload, 1) := by decide +kernel
theorem d_X_answerAsk_23 : decode b_X_answerAsk 23 = .ok (.iload_n 3, 1) := by decide +kernel
theorem d_X_answerAsk_24 : decode b_X_answerAsk 24 = .ok (.aload_n 1, 1) := by decide +kernel
theorem d_X_answerAsk_25 : decode b_X_answerAsk 25 = .ok (.getfield 188, 3) := by decide +kernel
theorem d_X_answerAsk_28 : decode b_X_answerAsk 28 = .ok (.aload_n 0, 1) := by decide +kernel
theorem d_X_answerAsk_29 : decode b_X_answerAsk 29 = .ok (.getfield 15, 3) := by decide +kernel
theorem d_X_answerAsk_32 : decode b_X_answerAsk 32 = .ok (.iload_n 3, 1) := by decide +kernel
theorem d_X_answerAsk_33 : decode b_X_answerAsk 33 = .ok (.iaload, 1) := by decide +kernel
theorem d_X_answerAsk_34 : decode b_X_answerAsk 34 = .ok (.aload_n 1, 1) := by decide +kernel
theorem d_X_answerAsk_35 : decode b_X_answerAsk 35 = .ok (.getfield 191, 3) := by decide +kernel
theorem d_X_answerAsk_38 : decode b_X_answerAsk 38 = .ok (.invokevirtual 80, 3) := by decide +kernel
theorem d_X_answerAsk_41 : decode b_X_answerAsk 41 = .ok (.lstore 4, 2) := by decide +kernel
theorem d_X_answerAsk_43 : decode b_X_answerAsk 43 = .ok (.aload_n 0, 1) := by decide +kernel
theorem d_X_answerAsk_44 : decode b_X_answerAsk 44 = .ok (.getfield 22, 3) := by decide +kernel
theorem d_X_answerAsk_47 : decode b_X_answerAsk 47 = .ok (.iconst 2, 1) := by decide +kernel
theorem d_X_answerAsk_48 : decode b_X_answerAsk 48 = .ok (.aload_n 1, 1) := by decide +kernel
theorem d_X_answerAsk_49 : decode b_X_answerAsk 49 = .ok (.getfield 155, 3) := by decide +kernel
theorem d_X_answerAsk_52 : decode b_X_answerAsk 52 = .ok (.iload_n 2, 1) := by decide +kernel
theorem d_X_answerAsk_53 : decode b_X_answerAsk 53 = .ok (.lload 4, 2) := by decide +kernel
theorem d_X_answerAsk_55 : decode b_X_answerAsk 55 = .ok (.invokevirtual 132, 3) := by decide +kernel
theorem d_X_answerAsk_58 : decode b_X_answerAsk 58 = .ok (.return_, 1) := by decide +kernel
theorem d_X_answerFetch_0 : decode b_X_answerFetch 0 = .ok (.aload_n 0, 1) := by decide +kernel
theorem d_X_answerFetch_1 : decode b_X_answerFetch 1 = .ok (.getfield 11, 3) := by decide +kernel
theorem d_X_answerFetch_4 : decode b_X_answerFetch 4 = .ok (.iload_n 2, 1) := by decide +kernel
theorem d_X_answerFetch_5 : decode b_X_answerFetch 5 = .ok (.aaload, 1) := by decide +kernel
theorem d_X_answerFetch_6 : decode b_X_answerFetch 6 = .ok (.getfield 140, 3) := by decide +kernel
theorem d_X_answerFetch_9 : decode b_X_answerFetch 9 = .ok (.ifCond .eq 35, 3) := by decide +kernel
theorem d_X_answerFetch_12 : decode b_X_answerFetch 12 = .ok (.aload_n 0, 1) := by decide +kernel
theorem d_X_answerFetch_13 : decode b_X_answerFetch 13 = .ok (.getfield 11, 3) := by decide +kernel
theorem d_X_answerFetch_16 : decode b_X_answerFetch 16 = .ok (.iload_n 2, 1) := by decide +kernel
theorem d_X_answerFetch_17 : decode b_X_answerFetch 17 = .ok (.aaload, 1) := by decide +kernel
theorem d_X_answerFetch_18 : decode b_X_answerFetch 18 = .ok (.aload_n 1, 1) := by decide +kernel
theorem d_X_answerFetch_19 : decode b_X_answerFetch 19 = .ok (.getfield 185, 3) := by decide +kernel
theorem d_X_answerFetch_22 : decode b_X_answerFetch 22 = .ok (.aload_n 1, 1) := by decide +kernel
theorem d_X_answerFetch_23 : decode b_X_answerFetch 23 = .ok (.getfield 188, 3) := by decide +kernel
theorem d_X_answerFetch_26 : decode b_X_answerFetch 26 = .ok (.invokevirtual 195, 3) := by decide +kernel
theorem d_X_answerFetch_29 : decode b_X_answerFetch 29 = .ok (.lstore_n 3, 1) := by decide +kernel
theorem d_X_answerFetch_30 : decode b_X_answerFetch 30 = .ok (.aload_n 0, 1) := by decide +kernel
theorem d_X_answerFetch_31 : decode b_X_answerFetch 31 = .ok (.getfield 22, 3) := by decide +kernel
theorem d_X_answerFetch_34 : decode b_X_answerFetch 34 = .ok (.iconst 4, 1) := by decide +kernel
theorem d_X_answerFetch_35 : decode b_X_answerFetch 35 = .ok (.aload_n 1, 1) := by decide +kernel
theorem d_X_answerFetch_36 : decode b_X_answerFetch 36 = .ok (.getfield 155, 3) := by decide +kernel
theorem d_X_answerFetch_39 : decode b_X_answerFetch 39 = .ok (.iload_n 2, 1) := by decide +kernel
theorem d_X_answerFetch_40 : decode b_X_answerFetch 40 = .ok (.lload_n 3, 1) := by decide +kernel
theorem d_X_answerFetch_41 : decode b_X_answerFetch 41 = .ok (.invokevirtual 132, 3) := by decide +kernel
theorem d_X_answerFetch_44 : decode b_X_answerFetch 44 = .ok (.return_, 1) := by decide +kernel
theorem d_X_finish_0 : decode b_X_finish 0 = .ok (.aload_n 0, 1) := by decide +kernel
theorem d_X_finish_1 : decode b_X_finish 1 = .ok (.getfield 32, 3) := by decide +kernel
theorem d_X_finish_4 : decode b_X_finish 4 = .ok (.aload_n 1, 1) := by decide +kernel
theorem d_X_finish_5 : decode b_X_finish 5 = .ok (.getfield 155, 3) := by decide +kernel
theorem d_X_finish_8 : decode b_X_finish 8 = .ok (.iload_n 2, 1) := by decide +kernel
theorem d_X_finish_9 : decode b_X_finish 9 = .ok (.iastore, 1) := by decide +kernel
theorem d_X_finish_10 : decode b_X_finish 10 = .ok (.aload_n 1, 1) := by decide +kernel
theorem d_X_finish_11 : decode b_X_finish 11 = .ok (.iconst 0, 1) := by decide +kernel
theorem d_X_finish_12 : decode b_X_finish 12 = .ok (.putfield 155, 3) := by decide +kernel
theorem d_X_finish_15 : decode b_X_finish 15 = .ok (.iload_n 2, 1) := by decide +kernel
theorem d_X_finish_16 : decode b_X_finish 16 = .ok (.iconst 3, 1) := by decide +kernel
theorem d_X_finish_17 : decode b_X_finish 17 = .ok (.if_icmp .ne 13, 3) := by decide +kernel
theorem d_X_finish_20 : decode b_X_finish 20 = .ok (.aload_n 0, 1) := by decide +kernel
theorem d_X_finish_21 : decode b_X_finish 21 = .ok (.dup, 1) := by decide +kernel
theorem d_X_finish_22 : decode b_X_finish 22 = .ok (.getfield 46, 3) := by decide +kernel
theorem d_X_finish_25 : decode b_X_finish 25 = .ok (.iconst 1, 1) := by decide +kernel
theorem d_X_finish_26 : decode b_X_finish 26 = .ok (.iadd, 1) := by decide +kernel
theorem d_X_finish_27 : decode b_X_finish 27 = .ok (.putfield 46, 3) := by decide +kernel
theorem d_X_finish_30 : decode b_X_finish 30 = .ok (.iload_n 2, 1) := by decide +kernel
theorem d_X_finish_31 : decode b_X_finish 31 = .ok (.iconst 1, 1) := by decide +kernel
theorem d_X_finish_32 : decode b_X_finish 32 = .ok (.if_icmp .eq 8, 3) := by decide +kernel
theorem d_X_finish_35 : decode b_X_finish 35 = .ok (.iload_n 2, 1) := by decide +kernel
theorem d_X_finish_36 : decode b_X_finish 36 = .ok (.iconst 2, 1) := by decide +kernel
theorem d_X_finish_37 : decode b_X_finish 37 = .ok (.if_icmp .ne 33, 3) := by decide +kernel
theorem d_X_finish_40 : decode b_X_finish 40 = .ok (.aload_n 0, 1) := by decide +kernel
theorem d_X_finish_41 : decode b_X_finish 41 = .ok (.getfield 38, 3) := by decide +kernel
theorem d_X_finish_44 : decode b_X_finish 44 = .ok (.aload_n 1, 1) := by decide +kernel
theorem d_X_finish_45 : decode b_X_finish 45 = .ok (.getfield 185, 3) := by decide +kernel
theorem d_X_finish_48 : decode b_X_finish 48 = .ok (.aload_n 1, 1) := by decide +kernel
theorem d_X_finish_49 : decode b_X_finish 49 = .ok (.getfield 188, 3) := by decide +kernel
theorem d_X_finish_52 : decode b_X_finish 52 = .ok (.aload_n 1, 1) := by decide +kernel
theorem d_X_finish_53 : decode b_X_finish 53 = .ok (.getfield 228, 3) := by decide +kernel
theorem d_X_finish_56 : decode b_X_finish 56 = .ok (.invokevirtual 231, 3) := by decide +kernel
theorem d_X_finish_59 : decode b_X_finish 59 = .ok (.aload_n 0, 1) := by decide +kernel
theorem d_X_finish_60 : decode b_X_finish 60 = .ok (.getfield 38, 3) := by decide +kernel
theorem d_X_finish_63 : decode b_X_finish 63 = .ok (.aload_n 0, 1) := by decide +kernel
theorem d_X_finish_64 : decode b_X_finish 64 = .ok (.invokevirtual 234, 3) := by decide +kernel
theorem d_X_finish_67 : decode b_X_finish 67 = .ok (.invokevirtual 238, 3) := by decide +kernel
theorem d_X_finish_70 : decode b_X_finish 70 = .ok (.return_, 1) := by decide +kernel
theorem d_X_areCopiesCurrent_0 : decode b_X_areCopiesCurrent 0 = .ok (.iconst 0, 1) := by decide +kernel
theorem d_X_areCopiesCurrent_1 : decode b_X_areCopiesCurrent 1 = .ok (.istore_n 2, 1) := by decide +kernel
theorem d_X_areCopiesCurrent_2 : decode b_X_areCopiesCurrent 2 = .ok (.iload_n 2, 1) := by decide +kernel
theorem d_X_areCopiesCurrent_3 : decode b_X_areCopiesCurrent 3 = .ok (.iconst 3, 1) := by decide +kernel
theorem d_X_areCopiesCurrent_4 : decode b_X_areCopiesCurrent 4 = .ok (.if_icmp .ge 41, 3) := by decide +kernel
theorem d_X_areCopiesCurrent_7 : decode b_X_areCopiesCurrent 7 = .ok (.aload_n 0, 1) := by decide +kernel
theorem d_X_areCopiesCurrent_8 : decode b_X_areCopiesCurrent 8 = .ok (.getfield 11, 3) := by decide +kernel
theorem d_X_areCopiesCurrent_11 : decode b_X_areCopiesCurrent 11 = .ok (.iload_n 2, 1) := by decide +kernel
theorem d_X_areCopiesCurrent_12 : decode b_X_areCopiesCurrent 12 = .ok (.aaload, 1) := by decide +kernel
theorem d_X_areCopiesCurrent_13 : decode b_X_areCopiesCurrent 13 = .ok (.aload_n 1, 1) := by decide +kernel
theorem d_X_areCopiesCurrent_14 : decode b_X_areCopiesCurrent 14 = .ok (.getfield 185, 3) := by decide +kernel
theorem d_X_areCopiesCurrent_17 : decode b_X_areCopiesCurrent 17 = .ok (.aload_n 1, 1) := by decide +kernel
theorem d_X_areCopiesCurrent_18 : decode b_X_areCopiesCurrent 18 = .ok (.getfield 188, 3) := by decide +kernel
theorem d_X_areCopiesCurrent_21 : decode b_X_areCopiesCurrent 21 = .ok (.invokevirtual 195, 3) := by decide +kernel
theorem d_X_areCopiesCurrent_24 : decode b_X_areCopiesCurrent 24 = .ok (.aload_n 1, 1) := by decide +kernel
theorem d_X_areCopiesCurrent_25 : decode b_X_areCopiesCurrent 25 = .ok (.getfield 165, 3) := by decide +kernel
theorem d_X_areCopiesCurrent_28 : decode b_X_areCopiesCurrent 28 = .ok (.getfield 219, 3) := by decide +kernel
theorem d_X_areCopiesCurrent_31 : decode b_X_areCopiesCurrent 31 = .ok (.iload_n 2, 1) := by decide +kernel
theorem d_X_areCopiesCurrent_32 : decode b_X_areCopiesCurrent 32 = .ok (.laload, 1) := by decide +kernel
theorem d_X_areCopiesCurrent_33 : decode b_X_areCopiesCurrent 33 = .ok (.lcmp, 1) := by decide +kernel
theorem d_X_areCopiesCurrent_34 : decode b_X_areCopiesCurrent 34 = .ok (.ifCond .eq 5, 3) := by decide +kernel
theorem d_X_areCopiesCurrent_37 : decode b_X_areCopiesCurrent 37 = .ok (.iconst 0, 1) := by decide +kernel
theorem d_X_areCopiesCurrent_38 : decode b_X_areCopiesCurrent 38 = .ok (.ireturn, 1) := by decide +kernel
theorem d_X_areCopiesCurrent_39 : decode b_X_areCopiesCurrent 39 = .ok (.iinc 2 1, 3) := by decide +kernel
theorem d_X_areCopiesCurrent_42 : decode b_X_areCopiesCurrent 42 = .ok (.goto (-40), 3) := by decide +kernel
theorem d_X_areCopiesCurrent_45 : decode b_X_areCopiesCurrent 45 = .ok (.iconst 1, 1) := by decide +kernel
theorem d_X_areCopiesCurrent_46 : decode b_X_areCopiesCurrent 46 = .ok (.ireturn, 1) := by decide +kernel
theorem d_X_mendBlock_0 : decode b_X_mendBlock 0 = .ok (.iconst 0, 1) := by decide +kernel
theorem d_X_mendBlock_1 : decode b_X_mendBlock 1 = .ok (.istore_n 3, 1) := by decide +kernel
theorem d_X_mendBlock_2 : decode b_X_mendBlock 2 = .ok (.iload_n 3, 1) := by decide +kernel
theorem d_X_mendBlock_3 : decode b_X_mendBlock 3 = .ok (.iconst 3, 1) := by decide +kernel
theorem d_X_mendBlock_4 : decode b_X_mendBlock 4 = .ok (.if_icmp .ge 79, 3) := by decide +kernel
theorem d_X_mendBlock_7 : decode b_X_mendBlock 7 = .ok (.aload_n 1, 1) := by decide +kernel
theorem d_X_mendBlock_8 : decode b_X_mendBlock 8 = .ok (.iload_n 3, 1) := by decide +kernel
theorem d_X_mendBlock_9 : decode b_X_mendBlock 9 = .ok (.iload_n 2, 1) := by decide +kernel
theorem d_X_mendBlock_10 : decode b_X_mendBlock 10 = .ok (.invokevirtual 222, 3) := by decide +kernel
theorem d_X_mendBlock_13 : decode b_X_mendBlock 13 = .ok (.istore 4, 2) := by decide +kernel
theorem d_X_mendBlock_15 : decode b_X_mendBlock 15 = .ok (.aload_n 1, 1) := by decide +kernel
theorem d_X_mendBlock_16 : decode b_X_mendBlock 16 = .ok (.iload_n 3, 1) := by decide +kernel
theorem d_X_mendBlock_17 : decode b_X_mendBlock 17 = .ok (.iconst 1, 1) := by decide +kernel
theorem d_X_mendBlock_18 : decode b_X_mendBlock 18 = .ok (.iadd, 1) := by decide +kernel
theorem d_X_mendBlock_19 : decode b_X_mendBlock 19 = .ok (.iconst 3, 1) := by decide +kernel
theorem d_X_mendBlock_20 : decode b_X_mendBlock 20 = .ok (.irem, 1) := by decide +kernel
theorem d_X_mendBlock_21 : decode b_X_mendBlock 21 = .ok (.iload_n 2, 1) := by decide +kernel
theorem d_X_mendBlock_22 : decode b_X_mendBlock 22 = .ok (.invokevirtual 222, 3) := by decide +kernel
theorem d_X_mendBlock_25 : decode b_X_mendBlock 25 = .ok (.istore 5, 2) := by decide +kernel
theorem d_X_mendBlock_27 : decode b_X_mendBlock 27 = .ok (.aload_n 1, 1) := by decide +kernel
theorem d_X_mendBlock_28 : decode b_X_mendBlock 28 = .ok (.iload_n 3, 1) := by decide +kernel
theorem d_X_mendBlock_29 : decode b_X_mendBlock 29 = .ok (.iconst 2, 1) := by decide +kernel
theorem d_X_mendBlock_30 : decode b_X_mendBlock 30 = .ok (.iadd, 1) := by decide +kernel
theorem d_X_mendBlock_31 : decode b_X_mendBlock 31 = .ok (.iconst 3, 1) := by decide +kernel
theorem d_X_mendBlock_32 : decode b_X_mendBlock 32 = .ok (.irem, 1) := by decide +kernel
theorem d_X_mendBlock_33 : decode b_X_mendBlock 33 = .ok (.iload_n 2, 1) := by decide +kernel
theorem d_X_mendBlock_34 : decode b_X_mendBlock 34 = .ok (.invokevirtual 222, 3) := by decide +kernel
theorem d_X_mendBlock_37 : decode b_X_mendBlock 37 = .ok (.istore 6, 2) := by decide +kernel
theorem d_X_mendBlock_39 : decode b_X_mendBlock 39 = .ok (.iload 4, 2) := by decide +kernel
theorem d_X_mendBlock_41 : decode b_X_mendBlock 41 = .ok (.iload 5, 2) := by decide +kernel
theorem d_X_mendBlock_43 : decode b_X_mendBlock 43 = .ok (.if_icmp .eq 34, 3) := by decide +kernel
theorem d_X_mendBlock_46 : decode b_X_mendBlock 46 = .ok (.iload 5, 2) := by decide +kernel
theorem d_X_mendBlock_48 : decode b_X_mendBlock 48 = .ok (.iload 6, 2) := by decide +kernel
theorem d_X_mendBlock_50 : decode b_X_mendBlock 50 = .ok (.if_icmp .ne 27, 3) := by decide +kernel
theorem d_X_mendBlock_53 : decode b_X_mendBlock 53 = .ok (.aload_n 0, 1) := by decide +kernel
theorem d_X_mendBlock_54 : decode b_X_mendBlock 54 = .ok (.getfield 11, 3) := by decide +kernel
theorem d_X_mendBlock_57 : decode b_X_mendBlock 57 = .ok (.iload_n 3, 1) := by decide +kernel
theorem d_X_mendBlock_58 : decode b_X_mendBlock 58 = .ok (.aaload, 1) := by decide +kernel
theorem d_X_mendBlock_59 : decode b_X_mendBlock 59 = .ok (.aload_n 1, 1) := by decide +kernel
theorem d_X_mendBlock_60 : decode b_X_mendBlock 60 = .ok (.getfield 185, 3) := by decide +kernel
theorem d_X_mendBlock_63 : decode b_X_mendBlock 63 = .ok (.aload_n 1, 1) := by decide +kernel
theorem d_X_mendBlock_64 : decode b_X_mendBlock 64 = .ok (.getfield 188, 3) := by decide +kernel
theorem d_X_mendBlock_67 : decode b_X_mendBlock 67 = .ok (.iload_n 2, 1) := by decide +kernel
theorem d_X_mendBlock_68 : decode b_X_mendBlock 68 = .ok (.bipush 8, 2) := by decide +kernel
theorem d_X_mendBlock_70 : decode b_X_mendBlock 70 = .ok (.imul, 1) := by decide +kernel
theorem d_X_mendBlock_71 : decode b_X_mendBlock 71 = .ok (.iadd, 1) := by decide +kernel
theorem d_X_mendBlock_72 : decode b_X_mendBlock 72 = .ok (.iload 5, 2) := by decide +kernel
theorem d_X_mendBlock_74 : decode b_X_mendBlock 74 = .ok (.invokevirtual 225, 3) := by decide +kernel
theorem d_X_mendBlock_77 : decode b_X_mendBlock 77 = .ok (.iinc 3 1, 3) := by decide +kernel
theorem d_X_mendBlock_80 : decode b_X_mendBlock 80 = .ok (.goto (-78), 3) := by decide +kernel
theorem d_X_mendBlock_83 : decode b_X_mendBlock 83 = .ok (.return_, 1) := by decide +kernel
theorem d_X_decide_0 : decode b_X_decide 0 = .ok (.aload_n 1, 1) := by decide +kernel
theorem d_X_decide_1 : decode b_X_decide 1 = .ok (.iconst 0, 1) := by decide +kernel
theorem d_X_decide_2 : decode b_X_decide 2 = .ok (.invokevirtual 209, 3) := by decide +kernel
theorem d_X_decide_5 : decode b_X_decide 5 = .ok (.ifCond .ne 11, 3) := by decide +kernel
theorem d_X_decide_8 : decode b_X_decide 8 = .ok (.aload_n 1, 1) := by decide +kernel
theorem d_X_decide_9 : decode b_X_decide 9 = .ok (.iconst 1, 1) := by decide +kernel
theorem d_X_decide_10 : decode b_X_decide 10 = .ok (.invokevirtual 209, 3) := by decide +kernel
theorem d_X_decide_13 : decode b_X_decide 13 = .ok (.ifCond .eq 5, 3) := by decide +kernel
theorem d_X_decide_16 : decode b_X_decide 16 = .ok (.iconst 3, 1) := by decide +kernel
theorem d_X_decide_17 : decode b_X_decide 17 = .ok (.ireturn, 1) := by decide +kernel
theorem d_X_decide_18 : decode b_X_decide 18 = .ok (.aload_n 0, 1) := by decide +kernel
theorem d_X_decide_19 : decode b_X_decide 19 = .ok (.invokevirtual 55, 3) := by decide +kernel
theorem d_X_decide_22 : decode b_X_decide 22 = .ok (.ifCond .eq 11, 3) := by decide +kernel
theorem d_X_decide_25 : decode b_X_decide 25 = .ok (.aload_n 0, 1) := by decide +kernel
theorem d_X_decide_26 : decode b_X_decide 26 = .ok (.aload_n 1, 1) := by decide +kernel

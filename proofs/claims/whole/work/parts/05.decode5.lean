theorem d_M_come_0 : decode b_M_come 0 = .ok (.aload_n 0, 1) := by decide +kernel
theorem d_M_come_1 : decode b_M_come 1 = .ok (.getfield 98, 3) := by decide +kernel
theorem d_M_come_4 : decode b_M_come 4 = .ok (.istore 4, 2) := by decide +kernel
theorem d_M_come_6 : decode b_M_come 6 = .ok (.aload_n 0, 1) := by decide +kernel
theorem d_M_come_7 : decode b_M_come 7 = .ok (.getfield 51, 3) := by decide +kernel
theorem d_M_come_10 : decode b_M_come 10 = .ok (.iload 4, 2) := by decide +kernel
theorem d_M_come_12 : decode b_M_come 12 = .ok (.iload_n 1, 1) := by decide +kernel
theorem d_M_come_13 : decode b_M_come 13 = .ok (.iastore, 1) := by decide +kernel
theorem d_M_come_14 : decode b_M_come 14 = .ok (.aload_n 0, 1) := by decide +kernel
theorem d_M_come_15 : decode b_M_come 15 = .ok (.getfield 54, 3) := by decide +kernel
theorem d_M_come_18 : decode b_M_come 18 = .ok (.iload 4, 2) := by decide +kernel
theorem d_M_come_20 : decode b_M_come 20 = .ok (.iload_n 2, 1) := by decide +kernel
theorem d_M_come_21 : decode b_M_come 21 = .ok (.iastore, 1) := by decide +kernel
theorem d_M_come_22 : decode b_M_come 22 = .ok (.aload_n 0, 1) := by decide +kernel
theorem d_M_come_23 : decode b_M_come 23 = .ok (.getfield 57, 3) := by decide +kernel
theorem d_M_come_26 : decode b_M_come 26 = .ok (.iload 4, 2) := by decide +kernel
theorem d_M_come_28 : decode b_M_come 28 = .ok (.iload_n 3, 1) := by decide +kernel
theorem d_M_come_29 : decode b_M_come 29 = .ok (.iastore, 1) := by decide +kernel
theorem d_M_come_30 : decode b_M_come 30 = .ok (.aload_n 0, 1) := by decide +kernel
theorem d_M_come_31 : decode b_M_come 31 = .ok (.aload_n 0, 1) := by decide +kernel
theorem d_M_come_32 : decode b_M_come 32 = .ok (.getfield 98, 3) := by decide +kernel
theorem d_M_come_35 : decode b_M_come 35 = .ok (.bipush 24, 2) := by decide +kernel
theorem d_M_come_37 : decode b_M_come 37 = .ok (.if_icmp .ge 12, 3) := by decide +kernel
theorem d_M_come_40 : decode b_M_come 40 = .ok (.aload_n 0, 1) := by decide +kernel
theorem d_M_come_41 : decode b_M_come 41 = .ok (.getfield 98, 3) := by decide +kernel
theorem d_M_come_44 : decode b_M_come 44 = .ok (.iconst 1, 1) := by decide +kernel
theorem d_M_come_45 : decode b_M_come 45 = .ok (.iadd, 1) := by decide +kernel
theorem d_M_come_46 : decode b_M_come 46 = .ok (.goto 5, 3) := by decide +kernel
theorem d_M_come_49 : decode b_M_come 49 = .ok (.bipush 24, 2) := by decide +kernel
theorem d_M_come_51 : decode b_M_come 51 = .ok (.putfield 98, 3) := by decide +kernel
theorem d_M_come_54 : decode b_M_come 54 = .ok (.iload 4, 2) := by decide +kernel
theorem d_M_come_56 : decode b_M_come 56 = .ok (.ireturn, 1) := by decide +kernel
theorem d_M_isLetter_0 : decode b_M_isLetter 0 = .ok (.iload_n 1, 1) := by decide +kernel
theorem d_M_isLetter_1 : decode b_M_isLetter 1 = .ok (.ifCond .lt 15, 3) := by decide +kernel
theorem d_M_isLetter_4 : decode b_M_isLetter 4 = .ok (.iload_n 1, 1) := by decide +kernel
theorem d_M_isLetter_5 : decode b_M_isLetter 5 = .ok (.aload_n 0, 1) := by decide +kernel
theorem d_M_isLetter_6 : decode b_M_isLetter 6 = .ok (.getfield 98, 3) := by decide +kernel
theorem d_M_isLetter_9 : decode b_M_isLetter 9 = .ok (.if_icmp .ge 7, 3) := by decide +kernel
theorem d_M_isLetter_12 : decode b_M_isLetter 12 = .ok (.iconst 1, 1) := by decide +kernel
theorem d_M_isLetter_13 : decode b_M_isLetter 13 = .ok (.goto 4, 3) := by decide +kernel
theorem d_M_isLetter_16 : decode b_M_isLetter 16 = .ok (.iconst 0, 1) := by decide +kernel
theorem d_M_isLetter_17 : decode b_M_isLetter 17 = .ok (.ireturn, 1) := by decide +kernel
theorem d_M_copyLetter_0 : decode b_M_copyLetter 0 = .ok (.aload_n 0, 1) := by decide +kernel
theorem d_M_copyLetter_1 : decode b_M_copyLetter 1 = .ok (.getfield 51, 3) := by decide +kernel
theorem d_M_copyLetter_4 : decode b_M_copyLetter 4 = .ok (.iload_n 2, 1) := by decide +kernel
theorem d_M_copyLetter_5 : decode b_M_copyLetter 5 = .ok (.aload_n 0, 1) := by decide +kernel
theorem d_M_copyLetter_6 : decode b_M_copyLetter 6 = .ok (.getfield 51, 3) := by decide +kernel
theorem d_M_copyLetter_9 : decode b_M_copyLetter 9 = .ok (.iload_n 1, 1) := by decide +kernel
theorem d_M_copyLetter_10 : decode b_M_copyLetter 10 = .ok (.iaload, 1) := by decide +kernel
theorem d_M_copyLetter_11 : decode b_M_copyLetter 11 = .ok (.iastore, 1) := by decide +kernel
theorem d_M_copyLetter_12 : decode b_M_copyLetter 12 = .ok (.aload_n 0, 1) := by decide +kernel
theorem d_M_copyLetter_13 : decode b_M_copyLetter 13 = .ok (.getfield 54, 3) := by decide +kernel
theorem d_M_copyLetter_16 : decode b_M_copyLetter 16 = .ok (.iload_n 2, 1) := by decide +kernel
theorem d_M_copyLetter_17 : decode b_M_copyLetter 17 = .ok (.aload_n 0, 1) := by decide +kernel
theorem d_M_copyLetter_18 : decode b_M_copyLetter 18 = .ok (.getfield 54, 3) := by decide +kernel
theorem d_M_copyLetter_21 : decode b_M_copyLetter 21 = .ok (.iload_n 1, 1) := by decide +kernel
theorem d_M_copyLetter_22 : decode b_M_copyLetter 22 = .ok (.iaload, 1) := by decide +kernel
theorem d_M_copyLetter_23 : decode b_M_copyLetter 23 = .ok (.iastore, 1) := by decide +kernel
theorem d_M_copyLetter_24 : decode b_M_copyLetter 24 = .ok (.aload_n 0, 1) := by decide +kernel
theorem d_M_copyLetter_25 : decode b_M_copyLetter 25 = .ok (.getfield 57, 3) := by decide +kernel
theorem d_M_copyLetter_28 : decode b_M_copyLetter 28 = .ok (.iload_n 2, 1) := by decide +kernel
theorem d_M_copyLetter_29 : decode b_M_copyLetter 29 = .ok (.aload_n 0, 1) := by decide +kernel
theorem d_M_copyLetter_30 : decode b_M_copyLetter 30 = .ok (.getfield 57, 3) := by decide +kernel
theorem d_M_copyLetter_33 : decode b_M_copyLetter 33 = .ok (.iload_n 1, 1) := by decide +kernel
theorem d_M_copyLetter_34 : decode b_M_copyLetter 34 = .ok (.iaload, 1) := by decide +kernel
theorem d_M_copyLetter_35 : decode b_M_copyLetter 35 = .ok (.iastore, 1) := by decide +kernel
theorem d_M_copyLetter_36 : decode b_M_copyLetter 36 = .ok (.aload_n 0, 1) := by decide +kernel
theorem d_M_copyLetter_37 : decode b_M_copyLetter 37 = .ok (.getfield 60, 3) := by decide +kernel
theorem d_M_copyLetter_40 : decode b_M_copyLetter 40 = .ok (.iload_n 2, 1) := by decide +kernel
theorem d_M_copyLetter_41 : decode b_M_copyLetter 41 = .ok (.aload_n 0, 1) := by decide +kernel
theorem d_M_copyLetter_42 : decode b_M_copyLetter 42 = .ok (.getfield 60, 3) := by decide +kernel
theorem d_M_copyLetter_45 : decode b_M_copyLetter 45 = .ok (.iload_n 1, 1) := by decide +kernel
theorem d_M_copyLetter_46 : decode b_M_copyLetter 46 = .ok (.laload, 1) := by decide +kernel
theorem d_M_copyLetter_47 : decode b_M_copyLetter 47 = .ok (.lastore, 1) := by decide +kernel
theorem d_M_copyLetter_48 : decode b_M_copyLetter 48 = .ok (.iconst 0, 1) := by decide +kernel
theorem d_M_copyLetter_49 : decode b_M_copyLetter 49 = .ok (.istore_n 3, 1) := by decide +kernel
theorem d_M_copyLetter_50 : decode b_M_copyLetter 50 = .ok (.iload_n 3, 1) := by decide +kernel
theorem d_M_copyLetter_51 : decode b_M_copyLetter 51 = .ok (.bipush 8, 2) := by decide +kernel
theorem d_M_copyLetter_53 : decode b_M_copyLetter 53 = .ok (.if_icmp .ge 31, 3) := by decide +kernel
theorem d_M_copyLetter_56 : decode b_M_copyLetter 56 = .ok (.aload_n 0, 1) := by decide +kernel
theorem d_M_copyLetter_57 : decode b_M_copyLetter 57 = .ok (.getfield 63, 3) := by decide +kernel
theorem d_M_copyLetter_60 : decode b_M_copyLetter 60 = .ok (.bipush 8, 2) := by decide +kernel
theorem d_M_copyLetter_62 : decode b_M_copyLetter 62 = .ok (.iload_n 2, 1) := by decide +kernel
theorem d_M_copyLetter_63 : decode b_M_copyLetter 63 = .ok (.imul, 1) := by decide +kernel
theorem d_M_copyLetter_64 : decode b_M_copyLetter 64 = .ok (.iload_n 3, 1) := by decide +kernel
theorem d_M_copyLetter_65 : decode b_M_copyLetter 65 = .ok (.iadd, 1) := by decide +kernel
theorem d_M_copyLetter_66 : decode b_M_copyLetter 66 = .ok (.aload_n 0, 1) := by decide +kernel
theorem d_M_copyLetter_67 : decode b_M_copyLetter 67 = .ok (.getfield 63, 3) := by decide +kernel
theorem d_M_copyLetter_70 : decode b_M_copyLetter 70 = .ok (.bipush 8, 2) := by decide +kernel
theorem d_M_copyLetter_72 : decode b_M_copyLetter 72 = .ok (.iload_n 1, 1) := by decide +kernel
theorem d_M_copyLetter_73 : decode b_M_copyLetter 73 = .ok (.imul, 1) := by decide +kernel
theorem d_M_copyLetter_74 : decode b_M_copyLetter 74 = .ok (.iload_n 3, 1) := by decide +kernel
theorem d_M_copyLetter_75 : decode b_M_copyLetter 75 = .ok (.iadd, 1) := by decide +kernel
theorem d_M_copyLetter_76 : decode b_M_copyLetter 76 = .ok (.iaload, 1) := by decide +kernel
theorem d_M_copyLetter_77 : decode b_M_copyLetter 77 = .ok (.iastore, 1) := by decide +kernel
theorem d_M_copyLetter_78 : decode b_M_copyLetter 78 = .ok (.iinc 3 1, 3) := by decide +kernel
theorem d_M_copyLetter_81 : decode b_M_copyLetter 81 = .ok (.goto (-31), 3) := by decide +kernel
theorem d_M_copyLetter_84 : decode b_M_copyLetter 84 = .ok (.return_, 1) := by decide +kernel
theorem d_M_leave_0 : decode b_M_leave 0 = .ok (.aload_n 0, 1) := by decide +kernel
theorem d_M_leave_1 : decode b_M_leave 1 = .ok (.iload_n 1, 1) := by decide +kernel
theorem d_M_leave_2 : decode b_M_leave 2 = .ok (.bipush 24, 2) := by decide +kernel
theorem d_M_leave_4 : decode b_M_leave 4 = .ok (.invokevirtual 101, 3) := by decide +kernel
theorem d_M_leave_7 : decode b_M_leave 7 = .ok (.iload_n 1, 1) := by decide +kernel
theorem d_M_leave_8 : decode b_M_leave 8 = .ok (.istore_n 2, 1) := by decide +kernel
theorem d_M_leave_9 : decode b_M_leave 9 = .ok (.iload_n 2, 1) := by decide +kernel
theorem d_M_leave_10 : decode b_M_leave 10 = .ok (.iconst 1, 1) := by decide +kernel
theorem d_M_leave_11 : decode b_M_leave 11 = .ok (.iadd, 1) := by decide +kernel
theorem d_M_leave_12 : decode b_M_leave 12 = .ok (.aload_n 0, 1) := by decide +kernel
theorem d_M_leave_13 : decode b_M_leave 13 = .ok (.getfield 98, 3) := by decide +kernel
theorem d_M_leave_16 : decode b_M_leave 16 = .ok (.if_icmp .ge 17, 3) := by decide +kernel
theorem d_M_leave_19 : decode b_M_leave 19 = .ok (.aload_n 0, 1) := by decide +kernel
theorem d_M_leave_20 : decode b_M_leave 20 = .ok (.iload_n 2, 1) := by decide +kernel
theorem d_M_leave_21 : decode b_M_leave 21 = .ok (.iconst 1, 1) := by decide +kernel
theorem d_M_leave_22 : decode b_M_leave 22 = .ok (.iadd, 1) := by decide +kernel
theorem d_M_leave_23 : decode b_M_leave 23 = .ok (.iload_n 2, 1) := by decide +kernel
theorem d_M_leave_24 : decode b_M_leave 24 = .ok (.invokevirtual 101, 3) := by decide +kernel
theorem d_M_leave_27 : decode b_M_leave 27 = .ok (.iinc 2 1, 3) := by decide +kernel
theorem d_M_leave_30 : decode b_M_leave 30 = .ok (.goto (-21), 3) := by decide +kernel
theorem d_M_leave_33 : decode b_M_leave 33 = .ok (.aload_n 0, 1) := by decide +kernel
theorem d_M_leave_34 : decode b_M_leave 34 = .ok (.dup, 1) := by decide +kernel
theorem d_M_leave_35 : decode b_M_leave 35 = .ok (.getfield 98, 3) := by decide +kernel
theorem d_M_leave_38 : decode b_M_leave 38 = .ok (.iconst 1, 1) := by decide +kernel
theorem d_M_leave_39 : decode b_M_leave 39 = .ok (.isub, 1) := by decide +kernel
theorem d_M_leave_40 : decode b_M_leave 40 = .ok (.putfield 98, 3) := by decide +kernel
theorem d_M_leave_43 : decode b_M_leave 43 = .ok (.return_, 1) := by decide +kernel
theorem d_M_lose_0 : decode b_M_lose 0 = .ok (.aload_n 0, 1) := by decide +kernel
theorem d_M_lose_1 : decode b_M_lose 1 = .ok (.iload_n 1, 1) := by decide +kernel
theorem d_M_lose_2 : decode b_M_lose 2 = .ok (.invokevirtual 105, 3) := by decide +kernel
theorem d_M_lose_5 : decode b_M_lose 5 = .ok (.ifCond .ne 5, 3) := by decide +kernel
theorem d_M_lose_8 : decode b_M_lose 8 = .ok (.iconst (-1), 1) := by decide +kernel
theorem d_M_lose_9 : decode b_M_lose 9 = .ok (.ireturn, 1) := by decide +kernel
theorem d_M_lose_10 : decode b_M_lose 10 = .ok (.aload_n 0, 1) := by decide +kernel
theorem d_M_lose_11 : decode b_M_lose 11 = .ok (.getfield 51, 3) := by decide +kernel
theorem d_M_lose_14 : decode b_M_lose 14 = .ok (.iload_n 1, 1) := by decide +kernel
theorem d_M_lose_15 : decode b_M_lose 15 = .ok (.iaload, 1) := by decide +kernel
theorem d_M_lose_16 : decode b_M_lose 16 = .ok (.istore_n 2, 1) := by decide +kernel
theorem d_M_lose_17 : decode b_M_lose 17 = .ok (.aload_n 0, 1) := by decide +kernel
theorem d_M_lose_18 : decode b_M_lose 18 = .ok (.iload_n 1, 1) := by decide +kernel
theorem d_M_lose_19 : decode b_M_lose 19 = .ok (.invokevirtual 108, 3) := by decide +kernel
theorem d_M_lose_22 : decode b_M_lose 22 = .ok (.iload_n 2, 1) := by decide +kernel
theorem d_M_lose_23 : decode b_M_lose 23 = .ok (.ireturn, 1) := by decide +kernel
theorem d_M_twice_0 : decode b_M_twice 0 = .ok (.aload_n 0, 1) := by decide +kernel
theorem d_M_twice_1 : decode b_M_twice 1 = .ok (.iload_n 1, 1) := by decide +kernel
theorem d_M_twice_2 : decode b_M_twice 2 = .ok (.invokevirtual 105, 3) := by decide +kernel
theorem d_M_twice_5 : decode b_M_twice 5 = .ok (.ifCond .ne 5, 3) := by decide +kernel
theorem d_M_twice_8 : decode b_M_twice 8 = .ok (.iconst (-1), 1) := by decide +kernel
theorem d_M_twice_9 : decode b_M_twice 9 = .ok (.ireturn, 1) := by decide +kernel
theorem d_M_twice_10 : decode b_M_twice 10 = .ok (.aload_n 0, 1) := by decide +kernel
theorem d_M_twice_11 : decode b_M_twice 11 = .ok (.getfield 98, 3) := by decide +kernel
theorem d_M_twice_14 : decode b_M_twice 14 = .ok (.bipush 24, 2) := by decide +kernel
theorem d_M_twice_16 : decode b_M_twice 16 = .ok (.if_icmp .ne 6, 3) := by decide +kernel
theorem d_M_twice_19 : decode b_M_twice 19 = .ok (.bipush (-3), 2) := by decide +kernel
theorem d_M_twice_21 : decode b_M_twice 21 = .ok (.ireturn, 1) := by decide +kernel
theorem d_M_twice_22 : decode b_M_twice 22 = .ok (.aload_n 0, 1) := by decide +kernel
theorem d_M_twice_23 : decode b_M_twice 23 = .ok (.iload_n 1, 1) := by decide +kernel
theorem d_M_twice_24 : decode b_M_twice 24 = .ok (.aload_n 0, 1) := by decide +kernel
theorem d_M_twice_25 : decode b_M_twice 25 = .ok (.getfield 98, 3) := by decide +kernel
theorem d_M_twice_28 : decode b_M_twice 28 = .ok (.invokevirtual 101, 3) := by decide +kernel
theorem d_M_twice_31 : decode b_M_twice 31 = .ok (.aload_n 0, 1) := by decide +kernel
theorem d_M_twice_32 : decode b_M_twice 32 = .ok (.dup, 1) := by decide +kernel
theorem d_M_twice_33 : decode b_M_twice 33 = .ok (.getfield 98, 3) := by decide +kernel
theorem d_M_twice_36 : decode b_M_twice 36 = .ok (.iconst 1, 1) := by decide +kernel
theorem d_M_twice_37 : decode b_M_twice 37 = .ok (.iadd, 1) := by decide +kernel
theorem d_M_twice_38 : decode b_M_twice 38 = .ok (.putfield 98, 3) := by decide +kernel
theorem d_M_twice_41 : decode b_M_twice 41 = .ok (.aload_n 0, 1) := by decide +kernel
theorem d_M_twice_42 : decode b_M_twice 42 = .ok (.getfield 98, 3) := by decide +kernel
theorem d_M_twice_45 : decode b_M_twice 45 = .ok (.ireturn, 1) := by decide +kernel
theorem d_M_letters_0 : decode b_M_letters 0 = .ok (.aload_n 0, 1) := by decide +kernel
theorem d_M_letters_1 : decode b_M_letters 1 = .ok (.getfield 98, 3) := by decide +kernel
theorem d_M_letters_4 : decode b_M_letters 4 = .ok (.ireturn, 1) := by decide +kernel
theorem d_M_letter_0 : decode b_M_letter 0 = .ok (.aload_n 0, 1) := by decide +kernel
theorem d_M_letter_1 : decode b_M_letter 1 = .ok (.iload_n 1, 1) := by decide +kernel
theorem d_M_letter_2 : decode b_M_letter 2 = .ok (.invokevirtual 105, 3) := by decide +kernel
theorem d_M_letter_5 : decode b_M_letter 5 = .ok (.ifCond .eq 12, 3) := by decide +kernel
theorem d_M_letter_8 : decode b_M_letter 8 = .ok (.iload_n 2, 1) := by decide +kernel
theorem d_M_letter_9 : decode b_M_letter 9 = .ok (.ifCond .lt 8, 3) := by decide +kernel
theorem d_M_letter_12 : decode b_M_letter 12 = .ok (.iload_n 2, 1) := by decide +kernel
theorem d_M_letter_13 : decode b_M_letter 13 = .ok (.iconst 2, 1) := by decide +kernel
theorem d_M_letter_14 : decode b_M_letter 14 = .ok (.if_icmp .le 5, 3) := by decide +kernel
theorem d_M_letter_17 : decode b_M_letter 17 = .ok (.iconst (-1), 1) := by decide +kernel
theorem d_M_letter_18 : decode b_M_letter 18 = .ok (.ireturn, 1) := by decide +kernel
theorem d_M_letter_19 : decode b_M_letter 19 = .ok (.iload_n 2, 1) := by decide +kernel
theorem d_M_letter_20 : decode b_M_letter 20 = .ok (.ifCond .ne 12, 3) := by decide +kernel
theorem d_M_letter_23 : decode b_M_letter 23 = .ok (.aload_n 0, 1) := by decide +kernel
theorem d_M_letter_24 : decode b_M_letter 24 = .ok (.getfield 51, 3) := by decide +kernel
theorem d_M_letter_27 : decode b_M_letter 27 = .ok (.iload_n 1, 1) := by decide +kernel
theorem d_M_letter_28 : decode b_M_letter 28 = .ok (.iaload, 1) := by decide +kernel
theorem d_M_letter_29 : decode b_M_letter 29 = .ok (.goto 23, 3) := by decide +kernel
theorem d_M_letter_32 : decode b_M_letter 32 = .ok (.iload_n 2, 1) := by decide +kernel
theorem d_M_letter_33 : decode b_M_letter 33 = .ok (.iconst 1, 1) := by decide +kernel
theorem d_M_letter_34 : decode b_M_letter 34 = .ok (.if_icmp .ne 12, 3) := by decide +kernel
theorem d_M_letter_37 : decode b_M_letter 37 = .ok (.aload_n 0, 1) := by decide +kernel
theorem d_M_letter_38 : decode b_M_letter 38 = .ok (.getfield 54, 3) := by decide +kernel
theorem d_M_letter_41 : decode b_M_letter 41 = .ok (.iload_n 1, 1) := by decide +kernel
theorem d_M_letter_42 : decode b_M_letter 42 = .ok (.iaload, 1) := by decide +kernel
theorem d_M_letter_43 : decode b_M_letter 43 = .ok (.goto 9, 3) := by decide +kernel
theorem d_M_letter_46 : decode b_M_letter 46 = .ok (.aload_n 0, 1) := by decide +kernel
theorem d_M_letter_47 : decode b_M_letter 47 = .ok (.getfield 57, 3) := by decide +kernel
theorem d_M_letter_50 : decode b_M_letter 50 = .ok (.iload_n 1, 1) := by decide +kernel
theorem d_M_letter_51 : decode b_M_letter 51 = .ok (.iaload, 1) := by decide +kernel
theorem d_M_letter_52 : decode b_M_letter 52 = .ok (.ireturn, 1) := by decide +kernel
theorem d_M_placeOf_0 : decode b_M_placeOf 0 = .ok (.iconst (-1), 1) := by decide +kernel
theorem d_M_placeOf_1 : decode b_M_placeOf 1 = .ok (.istore_n 2, 1) := by decide +kernel
theorem d_M_placeOf_2 : decode b_M_placeOf 2 = .ok (.iconst 0, 1) := by decide +kernel
theorem d_M_placeOf_3 : decode b_M_placeOf 3 = .ok (.istore_n 3, 1) := by decide +kernel
theorem d_M_placeOf_4 : decode b_M_placeOf 4 = .ok (.iload_n 3, 1) := by decide +kernel
theorem d_M_placeOf_5 : decode b_M_placeOf 5 = .ok (.bipush 6, 2) := by decide +kernel
theorem d_M_placeOf_7 : decode b_M_placeOf 7 = .ok (.if_icmp .ge 29, 3) := by decide +kernel
theorem d_M_placeOf_10 : decode b_M_placeOf 10 = .ok (.iload_n 1, 1) := by decide +kernel
theorem d_M_placeOf_11 : decode b_M_placeOf 11 = .ok (.ifCond .le 17, 3) := by decide +kernel
theorem d_M_placeOf_14 : decode b_M_placeOf 14 = .ok (.aload_n 0, 1) := by decide +kernel
theorem d_M_placeOf_15 : decode b_M_placeOf 15 = .ok (.getfield 23, 3) := by decide +kernel
theorem d_M_placeOf_18 : decode b_M_placeOf 18 = .ok (.iload_n 3, 1) := by decide +kernel
theorem d_M_placeOf_19 : decode b_M_placeOf 19 = .ok (.iaload, 1) := by decide +kernel
theorem d_M_placeOf_20 : decode b_M_placeOf 20 = .ok (.iload_n 1, 1) := by decide +kernel
theorem d_M_placeOf_21 : decode b_M_placeOf 21 = .ok (.if_icmp .ne 7, 3) := by decide +kernel
theorem d_M_placeOf_24 : decode b_M_placeOf 24 = .ok (.iload_n 3, 1) := by decide +kernel
theorem d_M_placeOf_25 : decode b_M_placeOf 25 = .ok (.goto 4, 3) := by decide +kernel
theorem d_M_placeOf_28 : decode b_M_placeOf 28 = .ok (.iload_n 2, 1) := by decide +kernel
theorem d_M_placeOf_29 : decode b_M_placeOf 29 = .ok (.istore_n 2, 1) := by decide +kernel
theorem d_M_placeOf_30 : decode b_M_placeOf 30 = .ok (.iinc 3 1, 3) := by decide +kernel
theorem d_M_placeOf_33 : decode b_M_placeOf 33 = .ok (.goto (-29), 3) := by decide +kernel
theorem d_M_placeOf_36 : decode b_M_placeOf 36 = .ok (.iload_n 2, 1) := by decide +kernel
theorem d_M_placeOf_37 : decode b_M_placeOf 37 = .ok (.ireturn, 1) := by decide +kernel
theorem d_M_poll_0 : decode b_M_poll 0 = .ok (.iload_n 1, 1) := by decide +kernel
theorem d_M_poll_1 : decode b_M_poll 1 = .ok (.ifCond .lt 18, 3) := by decide +kernel
theorem d_M_poll_4 : decode b_M_poll 4 = .ok (.iload_n 1, 1) := by decide +kernel
theorem d_M_poll_5 : decode b_M_poll 5 = .ok (.iconst 5, 1) := by decide +kernel
theorem d_M_poll_6 : decode b_M_poll 6 = .ok (.if_icmp .gt 13, 3) := by decide +kernel
theorem d_M_poll_9 : decode b_M_poll 9 = .ok (.iload_n 2, 1) := by decide +kernel
theorem d_M_poll_10 : decode b_M_poll 10 = .ok (.ifCond .lt 9, 3) := by decide +kernel
theorem d_M_poll_13 : decode b_M_poll 13 = .ok (.iload_n 2, 1) := by decide +kernel
theorem d_M_poll_14 : decode b_M_poll 14 = .ok (.bipush 7, 2) := by decide +kernel
theorem d_M_poll_16 : decode b_M_poll 16 = .ok (.if_icmp .le 5, 3) := by decide +kernel
theorem d_M_poll_19 : decode b_M_poll 19 = .ok (.iconst (-1), 1) := by decide +kernel
theorem d_M_poll_20 : decode b_M_poll 20 = .ok (.ireturn, 1) := by decide +kernel
theorem d_M_poll_21 : decode b_M_poll 21 = .ok (.aload_n 0, 1) := by decide +kernel
theorem d_M_poll_22 : decode b_M_poll 22 = .ok (.iload_n 1, 1) := by decide +kernel
theorem d_M_poll_23 : decode b_M_poll 23 = .ok (.iload_n 2, 1) := by decide +kernel
theorem d_M_poll_24 : decode b_M_poll 24 = .ok (.invokevirtual 90, 3) := by decide +kernel
theorem d_M_poll_27 : decode b_M_poll 27 = .ok (.ifCond .ne 6, 3) := by decide +kernel
theorem d_M_poll_30 : decode b_M_poll 30 = .ok (.bipush (-2), 2) := by decide +kernel
theorem d_M_poll_32 : decode b_M_poll 32 = .ok (.ireturn, 1) := by decide +kernel
theorem d_M_poll_33 : decode b_M_poll 33 = .ok (.iconst (-1), 1) := by decide +kernel
theorem d_M_poll_34 : decode b_M_poll 34 = .ok (.istore 5, 2) := by decide +kernel
theorem d_M_poll_36 : decode b_M_poll 36 = .ok (.iconst 5, 1) := by decide +kernel
theorem d_M_poll_37 : decode b_M_poll 37 = .ok (.istore 6, 2) := by decide +kernel
theorem d_M_poll_39 : decode b_M_poll 39 = .ok (.iload 6, 2) := by decide +kernel
theorem d_M_poll_41 : decode b_M_poll 41 = .ok (.ifCond .lt 28, 3) := by decide +kernel
theorem d_M_poll_44 : decode b_M_poll 44 = .ok (.aload_n 0, 1) := by decide +kernel
theorem d_M_poll_45 : decode b_M_poll 45 = .ok (.getfield 23, 3) := by decide +kernel
theorem d_M_poll_48 : decode b_M_poll 48 = .ok (.iload 6, 2) := by decide +kernel
theorem d_M_poll_50 : decode b_M_poll 50 = .ok (.iaload, 1) := by decide +kernel
theorem d_M_poll_51 : decode b_M_poll 51 = .ok (.ifCond .ne 8, 3) := by decide +kernel
theorem d_M_poll_54 : decode b_M_poll 54 = .ok (.iload 6, 2) := by decide +kernel
theorem d_M_poll_56 : decode b_M_poll 56 = .ok (.goto 5, 3) := by decide +kernel
theorem d_M_poll_59 : decode b_M_poll 59 = .ok (.iload 5, 2) := by decide +kernel
theorem d_M_poll_61 : decode b_M_poll 61 = .ok (.istore 5, 2) := by decide +kernel
theorem d_M_poll_63 : decode b_M_poll 63 = .ok (.iinc 6 (-1), 3) := by decide +kernel
theorem d_M_poll_66 : decode b_M_poll 66 = .ok (.goto (-27), 3) := by decide +kernel
theorem d_M_poll_69 : decode b_M_poll 69 = .ok (.iload 5, 2) := by decide +kernel
theorem d_M_poll_71 : decode b_M_poll 71 = .ok (.ifCond .ge 6, 3) := by decide +kernel
theorem d_M_poll_74 : decode b_M_poll 74 = .ok (.bipush (-3), 2) := by decide +kernel
theorem d_M_poll_76 : decode b_M_poll 76 = .ok (.ireturn, 1) := by decide +kernel
theorem d_M_poll_77 : decode b_M_poll 77 = .ok (.aload_n 0, 1) := by decide +kernel
theorem d_M_poll_78 : decode b_M_poll 78 = .ok (.dup, 1) := by decide +kernel
theorem d_M_poll_79 : decode b_M_poll 79 = .ok (.getfield 112, 3) := by decide +kernel
theorem d_M_poll_82 : decode b_M_poll 82 = .ok (.iconst 1, 1) := by decide +kernel
theorem d_M_poll_83 : decode b_M_poll 83 = .ok (.iadd, 1) := by decide +kernel
theorem d_M_poll_84 : decode b_M_poll 84 = .ok (.putfield 112, 3) := by decide +kernel
theorem d_M_poll_87 : decode b_M_poll 87 = .ok (.aload_n 0, 1) := by decide +kernel
theorem d_M_poll_88 : decode b_M_poll 88 = .ok (.getfield 23, 3) := by decide +kernel
theorem d_M_poll_91 : decode b_M_poll 91 = .ok (.iload 5, 2) := by decide +kernel
theorem d_M_poll_93 : decode b_M_poll 93 = .ok (.aload_n 0, 1) := by decide +kernel
theorem d_M_poll_94 : decode b_M_poll 94 = .ok (.getfield 112, 3) := by decide +kernel
theorem d_M_poll_97 : decode b_M_poll 97 = .ok (.iastore, 1) := by decide +kernel
theorem d_M_poll_98 : decode b_M_poll 98 = .ok (.aload_n 0, 1) := by decide +kernel
theorem d_M_poll_99 : decode b_M_poll 99 = .ok (.getfield 26, 3) := by decide +kernel
theorem d_M_poll_102 : decode b_M_poll 102 = .ok (.iload 5, 2) := by decide +kernel
theorem d_M_poll_104 : decode b_M_poll 104 = .ok (.iload_n 1, 1) := by decide +kernel
theorem d_M_poll_105 : decode b_M_poll 105 = .ok (.iastore, 1) := by decide +kernel
theorem d_M_poll_106 : decode b_M_poll 106 = .ok (.aload_n 0, 1) := by decide +kernel
theorem d_M_poll_107 : decode b_M_poll 107 = .ok (.getfield 29, 3) := by decide +kernel
theorem d_M_poll_110 : decode b_M_poll 110 = .ok (.iload 5, 2) := by decide +kernel
theorem d_M_poll_112 : decode b_M_poll 112 = .ok (.iload_n 2, 1) := by decide +kernel
theorem d_M_poll_113 : decode b_M_poll 113 = .ok (.iastore, 1) := by decide +kernel
theorem d_M_poll_114 : decode b_M_poll 114 = .ok (.aload_n 0, 1) := by decide +kernel
theorem d_M_poll_115 : decode b_M_poll 115 = .ok (.getfield 32, 3) := by decide +kernel
theorem d_M_poll_118 : decode b_M_poll 118 = .ok (.iload 5, 2) := by decide +kernel
theorem d_M_poll_120 : decode b_M_poll 120 = .ok (.lload_n 3, 1) := by decide +kernel
theorem d_M_poll_121 : decode b_M_poll 121 = .ok (.lastore, 1) := by decide +kernel
theorem d_M_poll_122 : decode b_M_poll 122 = .ok (.aload_n 0, 1) := by decide +kernel
theorem d_M_poll_123 : decode b_M_poll 123 = .ok (.getfield 36, 3) := by decide +kernel
theorem d_M_poll_126 : decode b_M_poll 126 = .ok (.iload 5, 2) := by decide +kernel
theorem d_M_poll_128 : decode b_M_poll 128 = .ok (.aload_n 0, 1) := by decide +kernel
theorem d_M_poll_129 : decode b_M_poll 129 = .ok (.getfield 66, 3) := by decide +kernel
theorem d_M_poll_132 : decode b_M_poll 132 = .ok (.iastore, 1) := by decide +kernel
theorem d_M_poll_133 : decode b_M_poll 133 = .ok (.aload_n 0, 1) := by decide +kernel
theorem d_M_poll_134 : decode b_M_poll 134 = .ok (.getfield 39, 3) := by decide +kernel
theorem d_M_poll_137 : decode b_M_poll 137 = .ok (.iload 5, 2) := by decide +kernel
theorem d_M_poll_139 : decode b_M_poll 139 = .ok (.iconst 0, 1) := by decide +kernel
theorem d_M_poll_140 : decode b_M_poll 140 = .ok (.iastore, 1) := by decide +kernel
theorem d_M_poll_141 : decode b_M_poll 141 = .ok (.aload_n 0, 1) := by decide +kernel
theorem d_M_poll_142 : decode b_M_poll 142 = .ok (.getfield 42, 3) := by decide +kernel
theorem d_M_poll_145 : decode b_M_poll 145 = .ok (.iload 5, 2) := by decide +kernel
theorem d_M_poll_147 : decode b_M_poll 147 = .ok (.iconst 0, 1) := by decide +kernel
theorem d_M_poll_148 : decode b_M_poll 148 = .ok (.iastore, 1) := by decide +kernel
theorem d_M_poll_149 : decode b_M_poll 149 = .ok (.aload_n 0, 1) := by decide +kernel
theorem d_M_poll_150 : decode b_M_poll 150 = .ok (.getfield 20, 3) := by decide +kernel
theorem d_M_poll_153 : decode b_M_poll 153 = .ok (.aload_n 0, 1) := by decide +kernel
theorem d_M_poll_154 : decode b_M_poll 154 = .ok (.getfield 112, 3) := by decide +kernel
theorem d_M_poll_157 : decode b_M_poll 157 = .ok (.iconst 0, 1) := by decide +kernel
theorem d_M_poll_158 : decode b_M_poll 158 = .ok (.iastore, 1) := by decide +kernel
theorem d_M_poll_159 : decode b_M_poll 159 = .ok (.iconst 0, 1) := by decide +kernel
theorem d_M_poll_160 : decode b_M_poll 160 = .ok (.istore 6, 2) := by decide +kernel
theorem d_M_poll_162 : decode b_M_poll 162 = .ok (.iload 6, 2) := by decide +kernel
theorem d_M_poll_164 : decode b_M_poll 164 = .ok (.iconst 3, 1) := by decide +kernel
theorem d_M_poll_165 : decode b_M_poll 165 = .ok (.if_icmp .ge 21, 3) := by decide +kernel
theorem d_M_poll_168 : decode b_M_poll 168 = .ok (.aload_n 0, 1) := by decide +kernel
theorem d_M_poll_169 : decode b_M_poll 169 = .ok (.iconst 1, 1) := by decide +kernel
theorem d_M_poll_170 : decode b_M_poll 170 = .ok (.aload_n 0, 1) := by decide +kernel
theorem d_M_poll_171 : decode b_M_poll 171 = .ok (.getfield 112, 3) := by decide +kernel
theorem d_M_poll_174 : decode b_M_poll 174 = .ok (.iload 6, 2) := by decide +kernel
theorem d_M_poll_176 : decode b_M_poll 176 = .ok (.invokevirtual 115, 3) := by decide +kernel
theorem d_M_poll_179 : decode b_M_poll 179 = .ok (.pop, 1) := by decide +kernel
theorem d_M_poll_180 : decode b_M_poll 180 = .ok (.iinc 6 1, 3) := by decide +kernel
theorem d_M_poll_183 : decode b_M_poll 183 = .ok (.goto (-21), 3) := by decide +kernel
theorem d_M_poll_186 : decode b_M_poll 186 = .ok (.aload_n 0, 1) := by decide +kernel
theorem d_M_poll_187 : decode b_M_poll 187 = .ok (.getfield 112, 3) := by decide +kernel
theorem d_M_poll_190 : decode b_M_poll 190 = .ok (.ireturn, 1) := by decide +kernel
theorem d_M_again_0 : decode b_M_again 0 = .ok (.iload_n 1, 1) := by decide +kernel
theorem d_M_again_1 : decode b_M_again 1 = .ok (.iconst 1, 1) := by decide +kernel
theorem d_M_again_2 : decode b_M_again 2 = .ok (.if_icmp .lt 11, 3) := by decide +kernel
theorem d_M_again_5 : decode b_M_again 5 = .ok (.iload_n 1, 1) := by decide +kernel
theorem d_M_again_6 : decode b_M_again 6 = .ok (.aload_n 0, 1) := by decide +kernel
theorem d_M_again_7 : decode b_M_again 7 = .ok (.getfield 112, 3) := by decide +kernel
theorem d_M_again_10 : decode b_M_again 10 = .ok (.if_icmp .le 5, 3) := by decide +kernel
theorem d_M_again_13 : decode b_M_again 13 = .ok (.iconst (-1), 1) := by decide +kernel
theorem d_M_again_14 : decode b_M_again 14 = .ok (.ireturn, 1) := by decide +kernel
theorem d_M_again_15 : decode b_M_again 15 = .ok (.aload_n 0, 1) := by decide +kernel
theorem d_M_again_16 : decode b_M_again 16 = .ok (.iload_n 1, 1) := by decide +kernel
theorem d_M_again_17 : decode b_M_again 17 = .ok (.invokevirtual 119, 3) := by decide +kernel
theorem d_M_again_20 : decode b_M_again 20 = .ok (.istore_n 2, 1) := by decide +kernel
theorem d_M_again_21 : decode b_M_again 21 = .ok (.iload_n 2, 1) := by decide +kernel
theorem d_M_again_22 : decode b_M_again 22 = .ok (.ifCond .ge 6, 3) := by decide +kernel
theorem d_M_again_25 : decode b_M_again 25 = .ok (.bipush (-2), 2) := by decide +kernel
theorem d_M_again_27 : decode b_M_again 27 = .ok (.ireturn, 1) := by decide +kernel
theorem d_M_again_28 : decode b_M_again 28 = .ok (.aload_n 0, 1) := by decide +kernel
theorem d_M_again_29 : decode b_M_again 29 = .ok (.getfield 39, 3) := by decide +kernel
theorem d_M_again_32 : decode b_M_again 32 = .ok (.iload_n 2, 1) := by decide +kernel
theorem d_M_again_33 : decode b_M_again 33 = .ok (.iaload, 1) := by decide +kernel
theorem d_M_again_34 : decode b_M_again 34 = .ok (.bipush 7, 2) := by decide +kernel
theorem d_M_again_36 : decode b_M_again 36 = .ok (.if_icmp .ne 7, 3) := by decide +kernel
theorem d_M_again_39 : decode b_M_again 39 = .ok (.iconst 3, 1) := by decide +kernel
theorem d_M_again_40 : decode b_M_again 40 = .ok (.goto 4, 3) := by decide +kernel
theorem d_M_again_43 : decode b_M_again 43 = .ok (.iconst 1, 1) := by decide +kernel
theorem d_M_again_44 : decode b_M_again 44 = .ok (.istore_n 3, 1) := by decide +kernel
theorem d_M_again_45 : decode b_M_again 45 = .ok (.aload_n 0, 1) := by decide +kernel
theorem d_M_again_46 : decode b_M_again 46 = .ok (.getfield 39, 3) := by decide +kernel
theorem d_M_again_49 : decode b_M_again 49 = .ok (.iload_n 2, 1) := by decide +kernel
theorem d_M_again_50 : decode b_M_again 50 = .ok (.iaload, 1) := by decide +kernel
theorem d_M_again_51 : decode b_M_again 51 = .ok (.bipush 7, 2) := by decide +kernel
theorem d_M_again_53 : decode b_M_again 53 = .ok (.if_icmp .ne 12, 3) := by decide +kernel
theorem d_M_again_56 : decode b_M_again 56 = .ok (.aload_n 0, 1) := by decide +kernel
theorem d_M_again_57 : decode b_M_again 57 = .ok (.getfield 42, 3) := by decide +kernel
theorem d_M_again_60 : decode b_M_again 60 = .ok (.iload_n 2, 1) := by decide +kernel
theorem d_M_again_61 : decode b_M_again 61 = .ok (.iaload, 1) := by decide +kernel
theorem d_M_again_62 : decode b_M_again 62 = .ok (.goto 9, 3) := by decide +kernel
theorem d_M_again_65 : decode b_M_again 65 = .ok (.aload_n 0, 1) := by decide +kernel
theorem d_M_again_66 : decode b_M_again 66 = .ok (.getfield 39, 3) := by decide +kernel
theorem d_M_again_69 : decode b_M_again 69 = .ok (.iload_n 2, 1) := by decide +kernel
theorem d_M_again_70 : decode b_M_again 70 = .ok (.iaload, 1) := by decide +kernel
theorem d_M_again_71 : decode b_M_again 71 = .ok (.istore 4, 2) := by decide +kernel
theorem d_M_again_73 : decode b_M_again 73 = .ok (.iconst 0, 1) := by decide +kernel
theorem d_M_again_74 : decode b_M_again 74 = .ok (.istore 5, 2) := by decide +kernel
theorem d_M_again_76 : decode b_M_again 76 = .ok (.iconst 0, 1) := by decide +kernel
theorem d_M_again_77 : decode b_M_again 77 = .ok (.istore 6, 2) := by decide +kernel
theorem d_M_again_79 : decode b_M_again 79 = .ok (.iload 6, 2) := by decide +kernel
theorem d_M_again_81 : decode b_M_again 81 = .ok (.iconst 3, 1) := by decide +kernel
theorem d_M_again_82 : decode b_M_again 82 = .ok (.if_icmp .ge 31, 3) := by decide +kernel
theorem d_M_again_85 : decode b_M_again 85 = .ok (.iload 4, 2) := by decide +kernel
theorem d_M_again_87 : decode b_M_again 87 = .ok (.iload 6, 2) := by decide +kernel
theorem d_M_again_89 : decode b_M_again 89 = .ok (.ishr, 1) := by decide +kernel
theorem d_M_again_90 : decode b_M_again 90 = .ok (.iconst 1, 1) := by decide +kernel
theorem d_M_again_91 : decode b_M_again 91 = .ok (.iand, 1) := by decide +kernel
theorem d_M_again_92 : decode b_M_again 92 = .ok (.ifCond .ne 15, 3) := by decide +kernel
theorem d_M_again_95 : decode b_M_again 95 = .ok (.aload_n 0, 1) := by decide +kernel
theorem d_M_again_96 : decode b_M_again 96 = .ok (.iload_n 3, 1) := by decide +kernel
theorem d_M_again_97 : decode b_M_again 97 = .ok (.iload_n 1, 1) := by decide +kernel
theorem d_M_again_98 : decode b_M_again 98 = .ok (.iload 6, 2) := by decide +kernel
theorem d_M_again_100 : decode b_M_again 100 = .ok (.invokevirtual 115, 3) := by decide +kernel
theorem d_M_again_103 : decode b_M_again 103 = .ok (.pop, 1) := by decide +kernel
theorem d_M_again_104 : decode b_M_again 104 = .ok (.iinc 5 1, 3) := by decide +kernel
theorem d_M_again_107 : decode b_M_again 107 = .ok (.iinc 6 1, 3) := by decide +kernel
theorem d_M_again_110 : decode b_M_again 110 = .ok (.goto (-31), 3) := by decide +kernel
theorem d_M_again_113 : decode b_M_again 113 = .ok (.iload 5, 2) := by decide +kernel
theorem d_M_again_115 : decode b_M_again 115 = .ok (.ireturn, 1) := by decide +kernel
theorem d_M_count_0 : decode b_M_count 0 = .ok (.iconst 0, 1) := by decide +kernel
theorem d_M_count_1 : decode b_M_count 1 = .ok (.istore_n 2, 1) := by decide +kernel
theorem d_M_count_2 : decode b_M_count 2 = .ok (.iconst 0, 1) := by decide +kernel

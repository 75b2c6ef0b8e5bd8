theorem d_H_place_0 : decode b_H_place 0 = .ok (.iload_n 0, 1) := by decide +kernel
theorem d_H_place_1 : decode b_H_place 1 = .ok (.bipush 16, 2) := by decide +kernel
theorem d_H_place_3 : decode b_H_place 3 = .ok (.imul, 1) := by decide +kernel
theorem d_H_place_4 : decode b_H_place 4 = .ok (.iload_n 1, 1) := by decide +kernel
theorem d_H_place_5 : decode b_H_place 5 = .ok (.iadd, 1) := by decide +kernel
theorem d_H_place_6 : decode b_H_place 6 = .ok (.ireturn, 1) := by decide +kernel
theorem d_H_shift_0 : decode b_H_shift 0 = .ok (.iload_n 0, 1) := by decide +kernel
theorem d_H_shift_1 : decode b_H_shift 1 = .ok (.iconst 4, 1) := by decide +kernel
theorem d_H_shift_2 : decode b_H_shift 2 = .ok (.irem, 1) := by decide +kernel
theorem d_H_shift_3 : decode b_H_shift 3 = .ok (.bipush 8, 2) := by decide +kernel
theorem d_H_shift_5 : decode b_H_shift 5 = .ok (.imul, 1) := by decide +kernel
theorem d_H_shift_6 : decode b_H_shift 6 = .ok (.ireturn, 1) := by decide +kernel
theorem d_H_byteOf_0 : decode b_H_byteOf 0 = .ok (.aload_n 0, 1) := by decide +kernel
theorem d_H_byteOf_1 : decode b_H_byteOf 1 = .ok (.getfield 19, 3) := by decide +kernel
theorem d_H_byteOf_4 : decode b_H_byteOf 4 = .ok (.iload_n 1, 1) := by decide +kernel
theorem d_H_byteOf_5 : decode b_H_byteOf 5 = .ok (.iload_n 2, 1) := by decide +kernel
theorem d_H_byteOf_6 : decode b_H_byteOf 6 = .ok (.iconst 4, 1) := by decide +kernel
theorem d_H_byteOf_7 : decode b_H_byteOf 7 = .ok (.idiv, 1) := by decide +kernel
theorem d_H_byteOf_8 : decode b_H_byteOf 8 = .ok (.invokestatic 27, 3) := by decide +kernel
theorem d_H_byteOf_11 : decode b_H_byteOf 11 = .ok (.iaload, 1) := by decide +kernel
theorem d_H_byteOf_12 : decode b_H_byteOf 12 = .ok (.iload_n 2, 1) := by decide +kernel
theorem d_H_byteOf_13 : decode b_H_byteOf 13 = .ok (.invokestatic 31, 3) := by decide +kernel
theorem d_H_byteOf_16 : decode b_H_byteOf 16 = .ok (.iushr, 1) := by decide +kernel
theorem d_H_byteOf_17 : decode b_H_byteOf 17 = .ok (.sipush 255, 3) := by decide +kernel
theorem d_H_byteOf_20 : decode b_H_byteOf 20 = .ok (.iand, 1) := by decide +kernel
theorem d_H_byteOf_21 : decode b_H_byteOf 21 = .ok (.ireturn, 1) := by decide +kernel
theorem d_H_flip_0 : decode b_H_flip 0 = .ok (.aload_n 0, 1) := by decide +kernel
theorem d_H_flip_1 : decode b_H_flip 1 = .ok (.getfield 19, 3) := by decide +kernel
theorem d_H_flip_4 : decode b_H_flip 4 = .ok (.iload_n 1, 1) := by decide +kernel
theorem d_H_flip_5 : decode b_H_flip 5 = .ok (.iload_n 2, 1) := by decide +kernel
theorem d_H_flip_6 : decode b_H_flip 6 = .ok (.iconst 4, 1) := by decide +kernel
theorem d_H_flip_7 : decode b_H_flip 7 = .ok (.idiv, 1) := by decide +kernel
theorem d_H_flip_8 : decode b_H_flip 8 = .ok (.invokestatic 27, 3) := by decide +kernel
theorem d_H_flip_11 : decode b_H_flip 11 = .ok (.dup2, 1) := by decide +kernel
theorem d_H_flip_12 : decode b_H_flip 12 = .ok (.iaload, 1) := by decide +kernel
theorem d_H_flip_13 : decode b_H_flip 13 = .ok (.iload_n 3, 1) := by decide +kernel
theorem d_H_flip_14 : decode b_H_flip 14 = .ok (.iload_n 2, 1) := by decide +kernel
theorem d_H_flip_15 : decode b_H_flip 15 = .ok (.invokestatic 31, 3) := by decide +kernel
theorem d_H_flip_18 : decode b_H_flip 18 = .ok (.ishl, 1) := by decide +kernel
theorem d_H_flip_19 : decode b_H_flip 19 = .ok (.ixor, 1) := by decide +kernel
theorem d_H_flip_20 : decode b_H_flip 20 = .ok (.iastore, 1) := by decide +kernel
theorem d_H_flip_21 : decode b_H_flip 21 = .ok (.return_, 1) := by decide +kernel
theorem d_H_mend_0 : decode b_H_mend 0 = .ok (.aload_n 0, 1) := by decide +kernel
theorem d_H_mend_1 : decode b_H_mend 1 = .ok (.getfield 19, 3) := by decide +kernel
theorem d_H_mend_4 : decode b_H_mend 4 = .ok (.iload_n 1, 1) := by decide +kernel
theorem d_H_mend_5 : decode b_H_mend 5 = .ok (.iload_n 2, 1) := by decide +kernel
theorem d_H_mend_6 : decode b_H_mend 6 = .ok (.invokestatic 27, 3) := by decide +kernel
theorem d_H_mend_9 : decode b_H_mend 9 = .ok (.iload_n 3, 1) := by decide +kernel
theorem d_H_mend_10 : decode b_H_mend 10 = .ok (.iastore, 1) := by decide +kernel
theorem d_H_mend_11 : decode b_H_mend 11 = .ok (.aload_n 0, 1) := by decide +kernel
theorem d_H_mend_12 : decode b_H_mend 12 = .ok (.dup, 1) := by decide +kernel
theorem d_H_mend_13 : decode b_H_mend 13 = .ok (.getfield 15, 3) := by decide +kernel
theorem d_H_mend_16 : decode b_H_mend 16 = .ok (.iconst 1, 1) := by decide +kernel
theorem d_H_mend_17 : decode b_H_mend 17 = .ok (.iadd, 1) := by decide +kernel
theorem d_H_mend_18 : decode b_H_mend 18 = .ok (.putfield 15, 3) := by decide +kernel
theorem d_H_mend_21 : decode b_H_mend 21 = .ok (.return_, 1) := by decide +kernel
theorem d_H_bytesOfPart_0 : decode b_H_bytesOfPart 0 = .ok (.aload_n 0, 1) := by decide +kernel
theorem d_H_bytesOfPart_1 : decode b_H_bytesOfPart 1 = .ok (.getfield 19, 3) := by decide +kernel
theorem d_H_bytesOfPart_4 : decode b_H_bytesOfPart 4 = .ok (.iload_n 1, 1) := by decide +kernel
theorem d_H_bytesOfPart_5 : decode b_H_bytesOfPart 5 = .ok (.iload_n 2, 1) := by decide +kernel
theorem d_H_bytesOfPart_6 : decode b_H_bytesOfPart 6 = .ok (.invokestatic 27, 3) := by decide +kernel
theorem d_H_bytesOfPart_9 : decode b_H_bytesOfPart 9 = .ok (.iaload, 1) := by decide +kernel
theorem d_H_bytesOfPart_10 : decode b_H_bytesOfPart 10 = .ok (.i2l, 1) := by decide +kernel
theorem d_H_bytesOfPart_11 : decode b_H_bytesOfPart 11 = .ok (.ldc2_w 35, 3) := by decide +kernel
theorem d_H_bytesOfPart_14 : decode b_H_bytesOfPart 14 = .ok (.land, 1) := by decide +kernel
theorem d_H_bytesOfPart_15 : decode b_H_bytesOfPart 15 = .ok (.lstore_n 3, 1) := by decide +kernel
theorem d_H_bytesOfPart_16 : decode b_H_bytesOfPart 16 = .ok (.aload_n 0, 1) := by decide +kernel
theorem d_H_bytesOfPart_17 : decode b_H_bytesOfPart 17 = .ok (.getfield 19, 3) := by decide +kernel
theorem d_H_bytesOfPart_20 : decode b_H_bytesOfPart 20 = .ok (.iload_n 1, 1) := by decide +kernel
theorem d_H_bytesOfPart_21 : decode b_H_bytesOfPart 21 = .ok (.iload_n 2, 1) := by decide +kernel
theorem d_H_bytesOfPart_22 : decode b_H_bytesOfPart 22 = .ok (.bipush 8, 2) := by decide +kernel
theorem d_H_bytesOfPart_24 : decode b_H_bytesOfPart 24 = .ok (.iadd, 1) := by decide +kernel
theorem d_H_bytesOfPart_25 : decode b_H_bytesOfPart 25 = .ok (.invokestatic 27, 3) := by decide +kernel
theorem d_H_bytesOfPart_28 : decode b_H_bytesOfPart 28 = .ok (.iaload, 1) := by decide +kernel
theorem d_H_bytesOfPart_29 : decode b_H_bytesOfPart 29 = .ok (.i2l, 1) := by decide +kernel
theorem d_H_bytesOfPart_30 : decode b_H_bytesOfPart 30 = .ok (.lstore 5, 2) := by decide +kernel
theorem d_H_bytesOfPart_32 : decode b_H_bytesOfPart 32 = .ok (.lload 5, 2) := by decide +kernel
theorem d_H_bytesOfPart_34 : decode b_H_bytesOfPart 34 = .ok (.bipush 32, 2) := by decide +kernel
theorem d_H_bytesOfPart_36 : decode b_H_bytesOfPart 36 = .ok (.lshl, 1) := by decide +kernel
theorem d_H_bytesOfPart_37 : decode b_H_bytesOfPart 37 = .ok (.lload_n 3, 1) := by decide +kernel
theorem d_H_bytesOfPart_38 : decode b_H_bytesOfPart 38 = .ok (.lor, 1) := by decide +kernel
theorem d_H_bytesOfPart_39 : decode b_H_bytesOfPart 39 = .ok (.lreturn, 1) := by decide +kernel
theorem d_H_sumOfPart_0 : decode b_H_sumOfPart 0 = .ok (.lload 4, 2) := by decide +kernel
theorem d_H_sumOfPart_2 : decode b_H_sumOfPart 2 = .ok (.lstore 6, 2) := by decide +kernel
theorem d_H_sumOfPart_4 : decode b_H_sumOfPart 4 = .ok (.iload_n 2, 1) := by decide +kernel
theorem d_H_sumOfPart_5 : decode b_H_sumOfPart 5 = .ok (.istore 8, 2) := by decide +kernel
theorem d_H_sumOfPart_7 : decode b_H_sumOfPart 7 = .ok (.iload 8, 2) := by decide +kernel
theorem d_H_sumOfPart_9 : decode b_H_sumOfPart 9 = .ok (.iload_n 3, 1) := by decide +kernel
theorem d_H_sumOfPart_10 : decode b_H_sumOfPart 10 = .ok (.if_icmp .ge 69, 3) := by decide +kernel
theorem d_H_sumOfPart_13 : decode b_H_sumOfPart 13 = .ok (.lload 6, 2) := by decide +kernel
theorem d_H_sumOfPart_15 : decode b_H_sumOfPart 15 = .ok (.iload_n 1, 1) := by decide +kernel
theorem d_H_sumOfPart_16 : decode b_H_sumOfPart 16 = .ok (.i2l, 1) := by decide +kernel
theorem d_H_sumOfPart_17 : decode b_H_sumOfPart 17 = .ok (.lxor, 1) := by decide +kernel
theorem d_H_sumOfPart_18 : decode b_H_sumOfPart 18 = .ok (.ldc2_w 37, 3) := by decide +kernel
theorem d_H_sumOfPart_21 : decode b_H_sumOfPart 21 = .ok (.lmul, 1) := by decide +kernel
theorem d_H_sumOfPart_22 : decode b_H_sumOfPart 22 = .ok (.lstore 6, 2) := by decide +kernel
theorem d_H_sumOfPart_24 : decode b_H_sumOfPart 24 = .ok (.lload 6, 2) := by decide +kernel
theorem d_H_sumOfPart_26 : decode b_H_sumOfPart 26 = .ok (.iload 8, 2) := by decide +kernel
theorem d_H_sumOfPart_28 : decode b_H_sumOfPart 28 = .ok (.i2l, 1) := by decide +kernel
theorem d_H_sumOfPart_29 : decode b_H_sumOfPart 29 = .ok (.lxor, 1) := by decide +kernel
theorem d_H_sumOfPart_30 : decode b_H_sumOfPart 30 = .ok (.ldc2_w 37, 3) := by decide +kernel
theorem d_H_sumOfPart_33 : decode b_H_sumOfPart 33 = .ok (.lmul, 1) := by decide +kernel
theorem d_H_sumOfPart_34 : decode b_H_sumOfPart 34 = .ok (.lstore 6, 2) := by decide +kernel
theorem d_H_sumOfPart_36 : decode b_H_sumOfPart 36 = .ok (.iconst 0, 1) := by decide +kernel
theorem d_H_sumOfPart_37 : decode b_H_sumOfPart 37 = .ok (.istore 9, 2) := by decide +kernel
theorem d_H_sumOfPart_39 : decode b_H_sumOfPart 39 = .ok (.iload 9, 2) := by decide +kernel
theorem d_H_sumOfPart_41 : decode b_H_sumOfPart 41 = .ok (.iconst 4, 1) := by decide +kernel
theorem d_H_sumOfPart_42 : decode b_H_sumOfPart 42 = .ok (.if_icmp .ge 31, 3) := by decide +kernel
theorem d_H_sumOfPart_45 : decode b_H_sumOfPart 45 = .ok (.lload 6, 2) := by decide +kernel
theorem d_H_sumOfPart_47 : decode b_H_sumOfPart 47 = .ok (.aload_n 0, 1) := by decide +kernel
theorem d_H_sumOfPart_48 : decode b_H_sumOfPart 48 = .ok (.iload_n 1, 1) := by decide +kernel
theorem d_H_sumOfPart_49 : decode b_H_sumOfPart 49 = .ok (.iload 8, 2) := by decide +kernel
theorem d_H_sumOfPart_51 : decode b_H_sumOfPart 51 = .ok (.iconst 4, 1) := by decide +kernel
theorem d_H_sumOfPart_52 : decode b_H_sumOfPart 52 = .ok (.imul, 1) := by decide +kernel
theorem d_H_sumOfPart_53 : decode b_H_sumOfPart 53 = .ok (.iload 9, 2) := by decide +kernel
theorem d_H_sumOfPart_55 : decode b_H_sumOfPart 55 = .ok (.iadd, 1) := by decide +kernel
theorem d_H_sumOfPart_56 : decode b_H_sumOfPart 56 = .ok (.invokevirtual 39, 3) := by decide +kernel
theorem d_H_sumOfPart_59 : decode b_H_sumOfPart 59 = .ok (.i2l, 1) := by decide +kernel
theorem d_H_sumOfPart_60 : decode b_H_sumOfPart 60 = .ok (.lxor, 1) := by decide +kernel
theorem d_H_sumOfPart_61 : decode b_H_sumOfPart 61 = .ok (.ldc2_w 37, 3) := by decide +kernel
theorem d_H_sumOfPart_64 : decode b_H_sumOfPart 64 = .ok (.lmul, 1) := by decide +kernel
theorem d_H_sumOfPart_65 : decode b_H_sumOfPart 65 = .ok (.lstore 6, 2) := by decide +kernel
theorem d_H_sumOfPart_67 : decode b_H_sumOfPart 67 = .ok (.iinc 9 1, 3) := by decide +kernel
theorem d_H_sumOfPart_70 : decode b_H_sumOfPart 70 = .ok (.goto (-31), 3) := by decide +kernel
theorem d_H_sumOfPart_73 : decode b_H_sumOfPart 73 = .ok (.iinc 8 8, 3) := by decide +kernel
theorem d_H_sumOfPart_76 : decode b_H_sumOfPart 76 = .ok (.goto (-69), 3) := by decide +kernel
theorem d_H_sumOfPart_79 : decode b_H_sumOfPart 79 = .ok (.lload 6, 2) := by decide +kernel
theorem d_H_sumOfPart_81 : decode b_H_sumOfPart 81 = .ok (.lreturn, 1) := by decide +kernel
theorem d_H_receive_0 : decode b_H_receive 0 = .ok (.iconst 0, 1) := by decide +kernel
theorem d_H_receive_1 : decode b_H_receive 1 = .ok (.istore 4, 2) := by decide +kernel
theorem d_H_receive_3 : decode b_H_receive 3 = .ok (.iload 4, 2) := by decide +kernel
theorem d_H_receive_5 : decode b_H_receive 5 = .ok (.iload_n 2, 1) := by decide +kernel
theorem d_H_receive_6 : decode b_H_receive 6 = .ok (.iconst 4, 1) := by decide +kernel
theorem d_H_receive_7 : decode b_H_receive 7 = .ok (.imul, 1) := by decide +kernel
theorem d_H_receive_8 : decode b_H_receive 8 = .ok (.if_icmp .ge 27, 3) := by decide +kernel
theorem d_H_receive_11 : decode b_H_receive 11 = .ok (.aload_n 0, 1) := by decide +kernel
theorem d_H_receive_12 : decode b_H_receive 12 = .ok (.iload_n 1, 1) := by decide +kernel
theorem d_H_receive_13 : decode b_H_receive 13 = .ok (.iload 4, 2) := by decide +kernel
theorem d_H_receive_15 : decode b_H_receive 15 = .ok (.iload_n 3, 1) := by decide +kernel
theorem d_H_receive_16 : decode b_H_receive 16 = .ok (.bipush 31, 2) := by decide +kernel
theorem d_H_receive_18 : decode b_H_receive 18 = .ok (.iload 4, 2) := by decide +kernel
theorem d_H_receive_20 : decode b_H_receive 20 = .ok (.imul, 1) := by decide +kernel
theorem d_H_receive_21 : decode b_H_receive 21 = .ok (.iadd, 1) := by decide +kernel
theorem d_H_receive_22 : decode b_H_receive 22 = .ok (.sipush 255, 3) := by decide +kernel
theorem d_H_receive_25 : decode b_H_receive 25 = .ok (.iand, 1) := by decide +kernel
theorem d_H_receive_26 : decode b_H_receive 26 = .ok (.invokevirtual 23, 3) := by decide +kernel
theorem d_H_receive_29 : decode b_H_receive 29 = .ok (.iinc 4 1, 3) := by decide +kernel
theorem d_H_receive_32 : decode b_H_receive 32 = .ok (.goto (-29), 3) := by decide +kernel
theorem d_H_receive_35 : decode b_H_receive 35 = .ok (.return_, 1) := by decide +kernel
theorem d_A_forget_0 : decode b_A_forget 0 = .ok (.iconst 0, 1) := by decide +kernel
theorem d_A_forget_1 : decode b_A_forget 1 = .ok (.istore_n 1, 1) := by decide +kernel
theorem d_A_forget_2 : decode b_A_forget 2 = .ok (.iload_n 1, 1) := by decide +kernel
theorem d_A_forget_3 : decode b_A_forget 3 = .ok (.iconst 3, 1) := by decide +kernel
theorem d_A_forget_4 : decode b_A_forget 4 = .ok (.if_icmp .ge 16, 3) := by decide +kernel
theorem d_A_forget_7 : decode b_A_forget 7 = .ok (.aload_n 0, 1) := by decide +kernel
theorem d_A_forget_8 : decode b_A_forget 8 = .ok (.getfield 9, 3) := by decide +kernel
theorem d_A_forget_11 : decode b_A_forget 11 = .ok (.iload_n 1, 1) := by decide +kernel
theorem d_A_forget_12 : decode b_A_forget 12 = .ok (.iconst 0, 1) := by decide +kernel
theorem d_A_forget_13 : decode b_A_forget 13 = .ok (.bastore, 1) := by decide +kernel
theorem d_A_forget_14 : decode b_A_forget 14 = .ok (.iinc 1 1, 3) := by decide +kernel
theorem d_A_forget_17 : decode b_A_forget 17 = .ok (.goto (-15), 3) := by decide +kernel
theorem d_A_forget_20 : decode b_A_forget 20 = .ok (.aload_n 0, 1) := by decide +kernel
theorem d_A_forget_21 : decode b_A_forget 21 = .ok (.iconst 0, 1) := by decide +kernel
theorem d_A_forget_22 : decode b_A_forget 22 = .ok (.putfield 19, 3) := by decide +kernel
theorem d_A_forget_25 : decode b_A_forget 25 = .ok (.return_, 1) := by decide +kernel
theorem d_A_take_0 : decode b_A_take 0 = .ok (.aload_n 0, 1) := by decide +kernel
theorem d_A_take_1 : decode b_A_take 1 = .ok (.getfield 9, 3) := by decide +kernel
theorem d_A_take_4 : decode b_A_take 4 = .ok (.iload_n 1, 1) := by decide +kernel
theorem d_A_take_5 : decode b_A_take 5 = .ok (.baload, 1) := by decide +kernel
theorem d_A_take_6 : decode b_A_take 6 = .ok (.ifCond .eq 5, 3) := by decide +kernel
theorem d_A_take_9 : decode b_A_take 9 = .ok (.iconst 0, 1) := by decide +kernel
theorem d_A_take_10 : decode b_A_take 10 = .ok (.ireturn, 1) := by decide +kernel
theorem d_A_take_11 : decode b_A_take 11 = .ok (.aload_n 0, 1) := by decide +kernel
theorem d_A_take_12 : decode b_A_take 12 = .ok (.getfield 9, 3) := by decide +kernel
theorem d_A_take_15 : decode b_A_take 15 = .ok (.iload_n 1, 1) := by decide +kernel
theorem d_A_take_16 : decode b_A_take 16 = .ok (.iconst 1, 1) := by decide +kernel
theorem d_A_take_17 : decode b_A_take 17 = .ok (.bastore, 1) := by decide +kernel
theorem d_A_take_18 : decode b_A_take 18 = .ok (.aload_n 0, 1) := by decide +kernel
theorem d_A_take_19 : decode b_A_take 19 = .ok (.getfield 15, 3) := by decide +kernel
theorem d_A_take_22 : decode b_A_take 22 = .ok (.iload_n 1, 1) := by decide +kernel
theorem d_A_take_23 : decode b_A_take 23 = .ok (.lload_n 2, 1) := by decide +kernel
theorem d_A_take_24 : decode b_A_take 24 = .ok (.lastore, 1) := by decide +kernel
theorem d_A_take_25 : decode b_A_take 25 = .ok (.aload_n 0, 1) := by decide +kernel
theorem d_A_take_26 : decode b_A_take 26 = .ok (.dup, 1) := by decide +kernel
theorem d_A_take_27 : decode b_A_take 27 = .ok (.getfield 19, 3) := by decide +kernel
theorem d_A_take_30 : decode b_A_take 30 = .ok (.iconst 1, 1) := by decide +kernel
theorem d_A_take_31 : decode b_A_take 31 = .ok (.iadd, 1) := by decide +kernel
theorem d_A_take_32 : decode b_A_take 32 = .ok (.putfield 19, 3) := by decide +kernel
theorem d_A_take_35 : decode b_A_take 35 = .ok (.iconst 1, 1) := by decide +kernel
theorem d_A_take_36 : decode b_A_take 36 = .ok (.ireturn, 1) := by decide +kernel
theorem d_A_isComplete_0 : decode b_A_isComplete 0 = .ok (.aload_n 0, 1) := by decide +kernel
theorem d_A_isComplete_1 : decode b_A_isComplete 1 = .ok (.getfield 19, 3) := by decide +kernel
theorem d_A_isComplete_4 : decode b_A_isComplete 4 = .ok (.iconst 3, 1) := by decide +kernel
theorem d_A_isComplete_5 : decode b_A_isComplete 5 = .ok (.if_icmp .ne 7, 3) := by decide +kernel
theorem d_A_isComplete_8 : decode b_A_isComplete 8 = .ok (.iconst 1, 1) := by decide +kernel
theorem d_A_isComplete_9 : decode b_A_isComplete 9 = .ok (.goto 4, 3) := by decide +kernel
theorem d_A_isComplete_12 : decode b_A_isComplete 12 = .ok (.iconst 0, 1) := by decide +kernel
theorem d_A_isComplete_13 : decode b_A_isComplete 13 = .ok (.ireturn, 1) := by decide +kernel
theorem d_A_areAlike_0 : decode b_A_areAlike 0 = .ok (.aload_n 0, 1) := by decide +kernel
theorem d_A_areAlike_1 : decode b_A_areAlike 1 = .ok (.getfield 15, 3) := by decide +kernel
theorem d_A_areAlike_4 : decode b_A_areAlike 4 = .ok (.iconst 0, 1) := by decide +kernel
theorem d_A_areAlike_5 : decode b_A_areAlike 5 = .ok (.laload, 1) := by decide +kernel
theorem d_A_areAlike_6 : decode b_A_areAlike 6 = .ok (.aload_n 0, 1) := by decide +kernel
theorem d_A_areAlike_7 : decode b_A_areAlike 7 = .ok (.getfield 15, 3) := by decide +kernel
theorem d_A_areAlike_10 : decode b_A_areAlike 10 = .ok (.iconst 1, 1) := by decide +kernel
theorem d_A_areAlike_11 : decode b_A_areAlike 11 = .ok (.laload, 1) := by decide +kernel
theorem d_A_areAlike_12 : decode b_A_areAlike 12 = .ok (.lcmp, 1) := by decide +kernel
theorem d_A_areAlike_13 : decode b_A_areAlike 13 = .ok (.ifCond .ne 23, 3) := by decide +kernel
theorem d_A_areAlike_16 : decode b_A_areAlike 16 = .ok (.aload_n 0, 1) := by decide +kernel
theorem d_A_areAlike_17 : decode b_A_areAlike 17 = .ok (.getfield 15, 3) := by decide +kernel
theorem d_A_areAlike_20 : decode b_A_areAlike 20 = .ok (.iconst 1, 1) := by decide +kernel
theorem d_A_areAlike_21 : decode b_A_areAlike 21 = .ok (.laload, 1) := by decide +kernel
theorem d_A_areAlike_22 : decode b_A_areAlike 22 = .ok (.aload_n 0, 1) := by decide +kernel
theorem d_A_areAlike_23 : decode b_A_areAlike 23 = .ok (.getfield 15, 3) := by decide +kernel
theorem d_A_areAlike_26 : decode b_A_areAlike 26 = .ok (.iconst 2, 1) := by decide +kernel
theorem d_A_areAlike_27 : decode b_A_areAlike 27 = .ok (.laload, 1) := by decide +kernel
theorem d_A_areAlike_28 : decode b_A_areAlike 28 = .ok (.lcmp, 1) := by decide +kernel
theorem d_A_areAlike_29 : decode b_A_areAlike 29 = .ok (.ifCond .ne 7, 3) := by decide +kernel
theorem d_A_areAlike_32 : decode b_A_areAlike 32 = .ok (.iconst 1, 1) := by decide +kernel
theorem d_A_areAlike_33 : decode b_A_areAlike 33 = .ok (.goto 4, 3) := by decide +kernel
theorem d_A_areAlike_36 : decode b_A_areAlike 36 = .ok (.iconst 0, 1) := by decide +kernel
theorem d_A_areAlike_37 : decode b_A_areAlike 37 = .ok (.ireturn, 1) := by decide +kernel
theorem d_R_has_0 : decode b_R_has 0 = .ok (.iload_n 1, 1) := by decide +kernel
theorem d_R_has_1 : decode b_R_has 1 = .ok (.ifCond .lt 15, 3) := by decide +kernel
theorem d_R_has_4 : decode b_R_has 4 = .ok (.iload_n 1, 1) := by decide +kernel
theorem d_R_has_5 : decode b_R_has 5 = .ok (.aload_n 0, 1) := by decide +kernel
theorem d_R_has_6 : decode b_R_has 6 = .ok (.getfield 25, 3) := by decide +kernel
theorem d_R_has_9 : decode b_R_has 9 = .ok (.if_icmp .ge 7, 3) := by decide +kernel
theorem d_R_has_12 : decode b_R_has 12 = .ok (.iconst 1, 1) := by decide +kernel
theorem d_R_has_13 : decode b_R_has 13 = .ok (.goto 4, 3) := by decide +kernel
theorem d_R_has_16 : decode b_R_has 16 = .ok (.iconst 0, 1) := by decide +kernel
theorem d_R_has_17 : decode b_R_has 17 = .ok (.ireturn, 1) := by decide +kernel
theorem d_R_add_0 : decode b_R_add 0 = .ok (.aload_n 0, 1) := by decide +kernel
theorem d_R_add_1 : decode b_R_add 1 = .ok (.getfield 25, 3) := by decide +kernel
theorem d_R_add_4 : decode b_R_add 4 = .ok (.bipush 24, 2) := by decide +kernel
theorem d_R_add_6 : decode b_R_add 6 = .ok (.if_icmp .lt 4, 3) := by decide +kernel
theorem d_R_add_9 : decode b_R_add 9 = .ok (.return_, 1) := by decide +kernel
theorem d_R_add_10 : decode b_R_add 10 = .ok (.aload_n 0, 1) := by decide +kernel
theorem d_R_add_11 : decode b_R_add 11 = .ok (.getfield 9, 3) := by decide +kernel
theorem d_R_add_14 : decode b_R_add 14 = .ok (.aload_n 0, 1) := by decide +kernel
theorem d_R_add_15 : decode b_R_add 15 = .ok (.getfield 25, 3) := by decide +kernel
theorem d_R_add_18 : decode b_R_add 18 = .ok (.iload_n 1, 1) := by decide +kernel
theorem d_R_add_19 : decode b_R_add 19 = .ok (.iastore, 1) := by decide +kernel
theorem d_R_add_20 : decode b_R_add 20 = .ok (.aload_n 0, 1) := by decide +kernel
theorem d_R_add_21 : decode b_R_add 21 = .ok (.getfield 15, 3) := by decide +kernel
theorem d_R_add_24 : decode b_R_add 24 = .ok (.aload_n 0, 1) := by decide +kernel
theorem d_R_add_25 : decode b_R_add 25 = .ok (.getfield 25, 3) := by decide +kernel
theorem d_R_add_28 : decode b_R_add 28 = .ok (.iload_n 2, 1) := by decide +kernel
theorem d_R_add_29 : decode b_R_add 29 = .ok (.iastore, 1) := by decide +kernel
theorem d_R_add_30 : decode b_R_add 30 = .ok (.aload_n 0, 1) := by decide +kernel
theorem d_R_add_31 : decode b_R_add 31 = .ok (.getfield 18, 3) := by decide +kernel
theorem d_R_add_34 : decode b_R_add 34 = .ok (.aload_n 0, 1) := by decide +kernel
theorem d_R_add_35 : decode b_R_add 35 = .ok (.getfield 25, 3) := by decide +kernel
theorem d_R_add_38 : decode b_R_add 38 = .ok (.iload_n 3, 1) := by decide +kernel
theorem d_R_add_39 : decode b_R_add 39 = .ok (.iastore, 1) := by decide +kernel
theorem d_R_add_40 : decode b_R_add 40 = .ok (.aload_n 0, 1) := by decide +kernel
theorem d_R_add_41 : decode b_R_add 41 = .ok (.getfield 21, 3) := by decide +kernel
theorem d_R_add_44 : decode b_R_add 44 = .ok (.aload_n 0, 1) := by decide +kernel
theorem d_R_add_45 : decode b_R_add 45 = .ok (.getfield 25, 3) := by decide +kernel
theorem d_R_add_48 : decode b_R_add 48 = .ok (.lload 4, 2) := by decide +kernel
theorem d_R_add_50 : decode b_R_add 50 = .ok (.lastore, 1) := by decide +kernel
theorem d_R_add_51 : decode b_R_add 51 = .ok (.aload_n 0, 1) := by decide +kernel
theorem d_R_add_52 : decode b_R_add 52 = .ok (.dup, 1) := by decide +kernel
theorem d_R_add_53 : decode b_R_add 53 = .ok (.getfield 25, 3) := by decide +kernel
theorem d_R_add_56 : decode b_R_add 56 = .ok (.iconst 1, 1) := by decide +kernel
theorem d_R_add_57 : decode b_R_add 57 = .ok (.iadd, 1) := by decide +kernel
theorem d_R_add_58 : decode b_R_add 58 = .ok (.putfield 25, 3) := by decide +kernel
theorem d_R_add_61 : decode b_R_add 61 = .ok (.return_, 1) := by decide +kernel
theorem d_R_remove_0 : decode b_R_remove 0 = .ok (.aload_n 0, 1) := by decide +kernel
theorem d_R_remove_1 : decode b_R_remove 1 = .ok (.dup, 1) := by decide +kernel
theorem d_R_remove_2 : decode b_R_remove 2 = .ok (.getfield 25, 3) := by decide +kernel
theorem d_R_remove_5 : decode b_R_remove 5 = .ok (.iconst 1, 1) := by decide +kernel
theorem d_R_remove_6 : decode b_R_remove 6 = .ok (.isub, 1) := by decide +kernel
theorem d_R_remove_7 : decode b_R_remove 7 = .ok (.putfield 25, 3) := by decide +kernel
theorem d_R_remove_10 : decode b_R_remove 10 = .ok (.iload_n 1, 1) := by decide +kernel
theorem d_R_remove_11 : decode b_R_remove 11 = .ok (.istore_n 2, 1) := by decide +kernel
theorem d_R_remove_12 : decode b_R_remove 12 = .ok (.iload_n 2, 1) := by decide +kernel
theorem d_R_remove_13 : decode b_R_remove 13 = .ok (.aload_n 0, 1) := by decide +kernel
theorem d_R_remove_14 : decode b_R_remove 14 = .ok (.getfield 25, 3) := by decide +kernel
theorem d_R_remove_17 : decode b_R_remove 17 = .ok (.if_icmp .ge 65, 3) := by decide +kernel
theorem d_R_remove_20 : decode b_R_remove 20 = .ok (.aload_n 0, 1) := by decide +kernel
theorem d_R_remove_21 : decode b_R_remove 21 = .ok (.getfield 9, 3) := by decide +kernel
theorem d_R_remove_24 : decode b_R_remove 24 = .ok (.iload_n 2, 1) := by decide +kernel
theorem d_R_remove_25 : decode b_R_remove 25 = .ok (.aload_n 0, 1) := by decide +kernel
theorem d_R_remove_26 : decode b_R_remove 26 = .ok (.getfield 9, 3) := by decide +kernel
theorem d_R_remove_29 : decode b_R_remove 29 = .ok (.iload_n 2, 1) := by decide +kernel
theorem d_R_remove_30 : decode b_R_remove 30 = .ok (.iconst 1, 1) := by decide +kernel
theorem d_R_remove_31 : decode b_R_remove 31 = .ok (.iadd, 1) := by decide +kernel
theorem d_R_remove_32 : decode b_R_remove 32 = .ok (.iaload, 1) := by decide +kernel
theorem d_R_remove_33 : decode b_R_remove 33 = .ok (.iastore, 1) := by decide +kernel
theorem d_R_remove_34 : decode b_R_remove 34 = .ok (.aload_n 0, 1) := by decide +kernel
theorem d_R_remove_35 : decode b_R_remove 35 = .ok (.getfield 15, 3) := by decide +kernel
theorem d_R_remove_38 : decode b_R_remove 38 = .ok (.iload_n 2, 1) := by decide +kernel
theorem d_R_remove_39 : decode b_R_remove 39 = .ok (.aload_n 0, 1) := by decide +kernel
theorem d_R_remove_40 : decode b_R_remove 40 = .ok (.getfield 15, 3) := by decide +kernel
theorem d_R_remove_43 : decode b_R_remove 43 = .ok (.iload_n 2, 1) := by decide +kernel
theorem d_R_remove_44 : decode b_R_remove 44 = .ok (.iconst 1, 1) := by decide +kernel
theorem d_R_remove_45 : decode b_R_remove 45 = .ok (.iadd, 1) := by decide +kernel
theorem d_R_remove_46 : decode b_R_remove 46 = .ok (.iaload, 1) := by decide +kernel
theorem d_R_remove_47 : decode b_R_remove 47 = .ok (.iastore, 1) := by decide +kernel
theorem d_R_remove_48 : decode b_R_remove 48 = .ok (.aload_n 0, 1) := by decide +kernel
theorem d_R_remove_49 : decode b_R_remove 49 = .ok (.getfield 18, 3) := by decide +kernel
theorem d_R_remove_52 : decode b_R_remove 52 = .ok (.iload_n 2, 1) := by decide +kernel
theorem d_R_remove_53 : decode b_R_remove 53 = .ok (.aload_n 0, 1) := by decide +kernel
theorem d_R_remove_54 : decode b_R_remove 54 = .ok (.getfield 18, 3) := by decide +kernel
theorem d_R_remove_57 : decode b_R_remove 57 = .ok (.iload_n 2, 1) := by decide +kernel
theorem d_R_remove_58 : decode b_R_remove 58 = .ok (.iconst 1, 1) := by decide +kernel
theorem d_R_remove_59 : decode b_R_remove 59 = .ok (.iadd, 1) := by decide +kernel
theorem d_R_remove_60 : decode b_R_remove 60 = .ok (.iaload, 1) := by decide +kernel
theorem d_R_remove_61 : decode b_R_remove 61 = .ok (.iastore, 1) := by decide +kernel
theorem d_R_remove_62 : decode b_R_remove 62 = .ok (.aload_n 0, 1) := by decide +kernel
theorem d_R_remove_63 : decode b_R_remove 63 = .ok (.getfield 21, 3) := by decide +kernel
theorem d_R_remove_66 : decode b_R_remove 66 = .ok (.iload_n 2, 1) := by decide +kernel
theorem d_R_remove_67 : decode b_R_remove 67 = .ok (.aload_n 0, 1) := by decide +kernel
theorem d_R_remove_68 : decode b_R_remove 68 = .ok (.getfield 21, 3) := by decide +kernel
theorem d_R_remove_71 : decode b_R_remove 71 = .ok (.iload_n 2, 1) := by decide +kernel
theorem d_R_remove_72 : decode b_R_remove 72 = .ok (.iconst 1, 1) := by decide +kernel
theorem d_R_remove_73 : decode b_R_remove 73 = .ok (.iadd, 1) := by decide +kernel
theorem d_R_remove_74 : decode b_R_remove 74 = .ok (.laload, 1) := by decide +kernel
theorem d_R_remove_75 : decode b_R_remove 75 = .ok (.lastore, 1) := by decide +kernel
theorem d_R_remove_76 : decode b_R_remove 76 = .ok (.iinc 2 1, 3) := by decide +kernel
theorem d_R_remove_79 : decode b_R_remove 79 = .ok (.goto (-67), 3) := by decide +kernel
theorem d_R_remove_82 : decode b_R_remove 82 = .ok (.return_, 1) := by decide +kernel
theorem d_D_finishPart_0 : decode b_D_finishPart 0 = .ok (.iload_n 1, 1) := by decide +kernel
theorem d_D_finishPart_1 : decode b_D_finishPart 1 = .ok (.bipush 8, 2) := by decide +kernel
theorem d_D_finishPart_3 : decode b_D_finishPart 3 = .ok (.imul, 1) := by decide +kernel
theorem d_D_finishPart_4 : decode b_D_finishPart 4 = .ok (.iload_n 2, 1) := by decide +kernel
theorem d_D_finishPart_5 : decode b_D_finishPart 5 = .ok (.iadd, 1) := by decide +kernel
theorem d_D_finishPart_6 : decode b_D_finishPart 6 = .ok (.istore 4, 2) := by decide +kernel
theorem d_D_finishPart_8 : decode b_D_finishPart 8 = .ok (.iload_n 3, 1) := by decide +kernel
theorem d_D_finishPart_9 : decode b_D_finishPart 9 = .ok (.aload_n 0, 1) := by decide +kernel
theorem d_D_finishPart_10 : decode b_D_finishPart 10 = .ok (.getfield 9, 3) := by decide +kernel
theorem d_D_finishPart_13 : decode b_D_finishPart 13 = .ok (.if_icmp .ne 38, 3) := by decide +kernel
theorem d_D_finishPart_16 : decode b_D_finishPart 16 = .ok (.aload_n 0, 1) := by decide +kernel
theorem d_D_finishPart_17 : decode b_D_finishPart 17 = .ok (.getfield 18, 3) := by decide +kernel
theorem d_D_finishPart_20 : decode b_D_finishPart 20 = .ok (.iload 4, 2) := by decide +kernel
theorem d_D_finishPart_22 : decode b_D_finishPart 22 = .ok (.iaload, 1) := by decide +kernel
theorem d_D_finishPart_23 : decode b_D_finishPart 23 = .ok (.aload_n 0, 1) := by decide +kernel
theorem d_D_finishPart_24 : decode b_D_finishPart 24 = .ok (.getfield 9, 3) := by decide +kernel
theorem d_D_finishPart_27 : decode b_D_finishPart 27 = .ok (.if_icmp .eq 24, 3) := by decide +kernel
theorem d_D_finishPart_30 : decode b_D_finishPart 30 = .ok (.aload_n 0, 1) := by decide +kernel
theorem d_D_finishPart_31 : decode b_D_finishPart 31 = .ok (.getfield 18, 3) := by decide +kernel
theorem d_D_finishPart_34 : decode b_D_finishPart 34 = .ok (.iload 4, 2) := by decide +kernel
theorem d_D_finishPart_36 : decode b_D_finishPart 36 = .ok (.aload_n 0, 1) := by decide +kernel
theorem d_D_finishPart_37 : decode b_D_finishPart 37 = .ok (.getfield 9, 3) := by decide +kernel
theorem d_D_finishPart_40 : decode b_D_finishPart 40 = .ok (.iastore, 1) := by decide +kernel
theorem d_D_finishPart_41 : decode b_D_finishPart 41 = .ok (.aload_n 0, 1) := by decide +kernel
theorem d_D_finishPart_42 : decode b_D_finishPart 42 = .ok (.dup, 1) := by decide +kernel
theorem d_D_finishPart_43 : decode b_D_finishPart 43 = .ok (.getfield 15, 3) := by decide +kernel
theorem d_D_finishPart_46 : decode b_D_finishPart 46 = .ok (.iconst 1, 1) := by decide +kernel
theorem d_D_finishPart_47 : decode b_D_finishPart 47 = .ok (.iadd, 1) := by decide +kernel
theorem d_D_finishPart_48 : decode b_D_finishPart 48 = .ok (.putfield 15, 3) := by decide +kernel
theorem d_D_finishPart_51 : decode b_D_finishPart 51 = .ok (.return_, 1) := by decide +kernel
theorem d_D_endIfAllDone_0 : decode b_D_endIfAllDone 0 = .ok (.aload_n 0, 1) := by decide +kernel
theorem d_D_endIfAllDone_1 : decode b_D_endIfAllDone 1 = .ok (.getfield 15, 3) := by decide +kernel
theorem d_D_endIfAllDone_4 : decode b_D_endIfAllDone 4 = .ok (.iload_n 1, 1) := by decide +kernel
theorem d_D_endIfAllDone_5 : decode b_D_endIfAllDone 5 = .ok (.if_icmp .ne 18, 3) := by decide +kernel
theorem d_D_endIfAllDone_8 : decode b_D_endIfAllDone 8 = .ok (.aload_n 0, 1) := by decide +kernel
theorem d_D_endIfAllDone_9 : decode b_D_endIfAllDone 9 = .ok (.dup, 1) := by decide +kernel
theorem d_D_endIfAllDone_10 : decode b_D_endIfAllDone 10 = .ok (.getfield 9, 3) := by decide +kernel
theorem d_D_endIfAllDone_13 : decode b_D_endIfAllDone 13 = .ok (.iconst 1, 1) := by decide +kernel
theorem d_D_endIfAllDone_14 : decode b_D_endIfAllDone 14 = .ok (.iadd, 1) := by decide +kernel
theorem d_D_endIfAllDone_15 : decode b_D_endIfAllDone 15 = .ok (.putfield 9, 3) := by decide +kernel
theorem d_D_endIfAllDone_18 : decode b_D_endIfAllDone 18 = .ok (.aload_n 0, 1) := by decide +kernel
theorem d_D_endIfAllDone_19 : decode b_D_endIfAllDone 19 = .ok (.iconst 0, 1) := by decide +kernel
theorem d_D_endIfAllDone_20 : decode b_D_endIfAllDone 20 = .ok (.putfield 15, 3) := by decide +kernel
theorem d_D_endIfAllDone_23 : decode b_D_endIfAllDone 23 = .ok (.return_, 1) := by decide +kernel
theorem d_P_begin_0 : decode b_P_begin 0 = .ok (.aload_n 0, 1) := by decide +kernel
theorem d_P_begin_1 : decode b_P_begin 1 = .ok (.iload_n 1, 1) := by decide +kernel
theorem d_P_begin_2 : decode b_P_begin 2 = .ok (.putfield 9, 3) := by decide +kernel
theorem d_P_begin_5 : decode b_P_begin 5 = .ok (.aload_n 0, 1) := by decide +kernel
theorem d_P_begin_6 : decode b_P_begin 6 = .ok (.iload_n 2, 1) := by decide +kernel
theorem d_P_begin_7 : decode b_P_begin 7 = .ok (.putfield 15, 3) := by decide +kernel
theorem d_P_begin_10 : decode b_P_begin 10 = .ok (.aload_n 0, 1) := by decide +kernel
theorem d_P_begin_11 : decode b_P_begin 11 = .ok (.iload_n 3, 1) := by decide +kernel
theorem d_P_begin_12 : decode b_P_begin 12 = .ok (.putfield 18, 3) := by decide +kernel
theorem d_P_begin_15 : decode b_P_begin 15 = .ok (.aload_n 0, 1) := by decide +kernel
theorem d_P_begin_16 : decode b_P_begin 16 = .ok (.lload 4, 2) := by decide +kernel
theorem d_P_begin_18 : decode b_P_begin 18 = .ok (.putfield 21, 3) := by decide +kernel
theorem d_P_begin_21 : decode b_P_begin 21 = .ok (.aload_n 0, 1) := by decide +kernel
theorem d_P_begin_22 : decode b_P_begin 22 = .ok (.iload 6, 2) := by decide +kernel
theorem d_P_begin_24 : decode b_P_begin 24 = .ok (.putfield 25, 3) := by decide +kernel
theorem d_P_begin_27 : decode b_P_begin 27 = .ok (.aload_n 0, 1) := by decide +kernel
theorem d_P_begin_28 : decode b_P_begin 28 = .ok (.getfield 31, 3) := by decide +kernel
theorem d_P_begin_31 : decode b_P_begin 31 = .ok (.invokevirtual 38, 3) := by decide +kernel
theorem d_P_begin_34 : decode b_P_begin 34 = .ok (.aload_n 0, 1) := by decide +kernel
theorem d_P_begin_35 : decode b_P_begin 35 = .ok (.getfield 35, 3) := by decide +kernel
theorem d_P_begin_38 : decode b_P_begin 38 = .ok (.invokevirtual 38, 3) := by decide +kernel
theorem d_P_begin_41 : decode b_P_begin 41 = .ok (.return_, 1) := by decide +kernel
theorem d_P_copiedBlock_0 : decode b_P_copiedBlock 0 = .ok (.aload_n 0, 1) := by decide +kernel
theorem d_P_copiedBlock_1 : decode b_P_copiedBlock 1 = .ok (.getfield 35, 3) := by decide +kernel
theorem d_P_copiedBlock_4 : decode b_P_copiedBlock 4 = .ok (.getfield 41, 3) := by decide +kernel
theorem d_P_copiedBlock_7 : decode b_P_copiedBlock 7 = .ok (.iload_n 1, 1) := by decide +kernel
theorem d_P_copiedBlock_8 : decode b_P_copiedBlock 8 = .ok (.laload, 1) := by decide +kernel
theorem d_P_copiedBlock_9 : decode b_P_copiedBlock 9 = .ok (.bipush 32, 2) := by decide +kernel
theorem d_P_copiedBlock_11 : decode b_P_copiedBlock 11 = .ok (.iload_n 2, 1) := by decide +kernel
theorem d_P_copiedBlock_12 : decode b_P_copiedBlock 12 = .ok (.imul, 1) := by decide +kernel
theorem d_P_copiedBlock_13 : decode b_P_copiedBlock 13 = .ok (.lushr, 1) := by decide +kernel
theorem d_P_copiedBlock_14 : decode b_P_copiedBlock 14 = .ok (.l2i, 1) := by decide +kernel
theorem d_P_copiedBlock_15 : decode b_P_copiedBlock 15 = .ok (.ireturn, 1) := by decide +kernel

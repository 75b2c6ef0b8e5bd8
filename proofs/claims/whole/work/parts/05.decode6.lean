theorem d_M_count_3 : decode b_M_count 3 = .ok (.istore_n 3, 1) := by decide +kernel
theorem d_M_count_4 : decode b_M_count 4 = .ok (.iload_n 3, 1) := by decide +kernel
theorem d_M_count_5 : decode b_M_count 5 = .ok (.bipush 48, 2) := by decide +kernel
theorem d_M_count_7 : decode b_M_count 7 = .ok (.if_icmp .ge 45, 3) := by decide +kernel
theorem d_M_count_10 : decode b_M_count 10 = .ok (.iload_n 2, 1) := by decide +kernel
theorem d_M_count_11 : decode b_M_count 11 = .ok (.aload_n 0, 1) := by decide +kernel
theorem d_M_count_12 : decode b_M_count 12 = .ok (.iload_n 3, 1) := by decide +kernel
theorem d_M_count_13 : decode b_M_count 13 = .ok (.bipush 8, 2) := by decide +kernel
theorem d_M_count_15 : decode b_M_count 15 = .ok (.idiv, 1) := by decide +kernel
theorem d_M_count_16 : decode b_M_count 16 = .ok (.iload_n 3, 1) := by decide +kernel
theorem d_M_count_17 : decode b_M_count 17 = .ok (.bipush 8, 2) := by decide +kernel
theorem d_M_count_19 : decode b_M_count 19 = .ok (.irem, 1) := by decide +kernel
theorem d_M_count_20 : decode b_M_count 20 = .ok (.invokevirtual 90, 3) := by decide +kernel
theorem d_M_count_23 : decode b_M_count 23 = .ok (.ifCond .le 20, 3) := by decide +kernel
theorem d_M_count_26 : decode b_M_count 26 = .ok (.iload_n 1, 1) := by decide +kernel
theorem d_M_count_27 : decode b_M_count 27 = .ok (.ifCond .eq 12, 3) := by decide +kernel
theorem d_M_count_30 : decode b_M_count 30 = .ok (.aload_n 0, 1) := by decide +kernel
theorem d_M_count_31 : decode b_M_count 31 = .ok (.getfield 70, 3) := by decide +kernel
theorem d_M_count_34 : decode b_M_count 34 = .ok (.iload_n 3, 1) := by decide +kernel
theorem d_M_count_35 : decode b_M_count 35 = .ok (.baload, 1) := by decide +kernel
theorem d_M_count_36 : decode b_M_count 36 = .ok (.ifCond .eq 7, 3) := by decide +kernel
theorem d_M_count_39 : decode b_M_count 39 = .ok (.iconst 1, 1) := by decide +kernel
theorem d_M_count_40 : decode b_M_count 40 = .ok (.goto 4, 3) := by decide +kernel
theorem d_M_count_43 : decode b_M_count 43 = .ok (.iconst 0, 1) := by decide +kernel
theorem d_M_count_44 : decode b_M_count 44 = .ok (.iadd, 1) := by decide +kernel
theorem d_M_count_45 : decode b_M_count 45 = .ok (.istore_n 2, 1) := by decide +kernel
theorem d_M_count_46 : decode b_M_count 46 = .ok (.iinc 3 1, 3) := by decide +kernel
theorem d_M_count_49 : decode b_M_count 49 = .ok (.goto (-45), 3) := by decide +kernel
theorem d_M_count_52 : decode b_M_count 52 = .ok (.iload_n 2, 1) := by decide +kernel
theorem d_M_count_53 : decode b_M_count 53 = .ok (.ireturn, 1) := by decide +kernel
theorem d_M_end_0 : decode b_M_end 0 = .ok (.aload_n 0, 1) := by decide +kernel
theorem d_M_end_1 : decode b_M_end 1 = .ok (.getfield 20, 3) := by decide +kernel
theorem d_M_end_4 : decode b_M_end 4 = .ok (.aload_n 0, 1) := by decide +kernel
theorem d_M_end_5 : decode b_M_end 5 = .ok (.getfield 23, 3) := by decide +kernel
theorem d_M_end_8 : decode b_M_end 8 = .ok (.iload_n 1, 1) := by decide +kernel
theorem d_M_end_9 : decode b_M_end 9 = .ok (.iaload, 1) := by decide +kernel
theorem d_M_end_10 : decode b_M_end 10 = .ok (.iload_n 2, 1) := by decide +kernel
theorem d_M_end_11 : decode b_M_end 11 = .ok (.iastore, 1) := by decide +kernel
theorem d_M_end_12 : decode b_M_end 12 = .ok (.aload_n 0, 1) := by decide +kernel
theorem d_M_end_13 : decode b_M_end 13 = .ok (.getfield 23, 3) := by decide +kernel
theorem d_M_end_16 : decode b_M_end 16 = .ok (.iload_n 1, 1) := by decide +kernel
theorem d_M_end_17 : decode b_M_end 17 = .ok (.iconst 0, 1) := by decide +kernel
theorem d_M_end_18 : decode b_M_end 18 = .ok (.iastore, 1) := by decide +kernel
theorem d_M_end_19 : decode b_M_end 19 = .ok (.aload_n 0, 1) := by decide +kernel
theorem d_M_end_20 : decode b_M_end 20 = .ok (.dup, 1) := by decide +kernel
theorem d_M_end_21 : decode b_M_end 21 = .ok (.getfield 122, 3) := by decide +kernel
theorem d_M_end_24 : decode b_M_end 24 = .ok (.iload_n 2, 1) := by decide +kernel
theorem d_M_end_25 : decode b_M_end 25 = .ok (.iconst 3, 1) := by decide +kernel
theorem d_M_end_26 : decode b_M_end 26 = .ok (.if_icmp .ne 7, 3) := by decide +kernel
theorem d_M_end_29 : decode b_M_end 29 = .ok (.iconst 1, 1) := by decide +kernel
theorem d_M_end_30 : decode b_M_end 30 = .ok (.goto 4, 3) := by decide +kernel
theorem d_M_end_33 : decode b_M_end 33 = .ok (.iconst 0, 1) := by decide +kernel
theorem d_M_end_34 : decode b_M_end 34 = .ok (.iadd, 1) := by decide +kernel
theorem d_M_end_35 : decode b_M_end 35 = .ok (.putfield 122, 3) := by decide +kernel
theorem d_M_end_38 : decode b_M_end 38 = .ok (.iload_n 2, 1) := by decide +kernel
theorem d_M_end_39 : decode b_M_end 39 = .ok (.iconst 2, 1) := by decide +kernel
theorem d_M_end_40 : decode b_M_end 40 = .ok (.if_icmp .gt 16, 3) := by decide +kernel
theorem d_M_end_43 : decode b_M_end 43 = .ok (.aload_n 0, 1) := by decide +kernel
theorem d_M_end_44 : decode b_M_end 44 = .ok (.getfield 36, 3) := by decide +kernel
theorem d_M_end_47 : decode b_M_end 47 = .ok (.iload_n 1, 1) := by decide +kernel
theorem d_M_end_48 : decode b_M_end 48 = .ok (.iaload, 1) := by decide +kernel
theorem d_M_end_49 : decode b_M_end 49 = .ok (.aload_n 0, 1) := by decide +kernel
theorem d_M_end_50 : decode b_M_end 50 = .ok (.getfield 66, 3) := by decide +kernel
theorem d_M_end_53 : decode b_M_end 53 = .ok (.if_icmp .eq 4, 3) := by decide +kernel
theorem d_M_end_56 : decode b_M_end 56 = .ok (.return_, 1) := by decide +kernel
theorem d_M_end_57 : decode b_M_end 57 = .ok (.aload_n 0, 1) := by decide +kernel
theorem d_M_end_58 : decode b_M_end 58 = .ok (.getfield 70, 3) := by decide +kernel
theorem d_M_end_61 : decode b_M_end 61 = .ok (.bipush 8, 2) := by decide +kernel
theorem d_M_end_63 : decode b_M_end 63 = .ok (.aload_n 0, 1) := by decide +kernel
theorem d_M_end_64 : decode b_M_end 64 = .ok (.getfield 26, 3) := by decide +kernel
theorem d_M_end_67 : decode b_M_end 67 = .ok (.iload_n 1, 1) := by decide +kernel
theorem d_M_end_68 : decode b_M_end 68 = .ok (.iaload, 1) := by decide +kernel
theorem d_M_end_69 : decode b_M_end 69 = .ok (.imul, 1) := by decide +kernel
theorem d_M_end_70 : decode b_M_end 70 = .ok (.aload_n 0, 1) := by decide +kernel
theorem d_M_end_71 : decode b_M_end 71 = .ok (.getfield 29, 3) := by decide +kernel
theorem d_M_end_74 : decode b_M_end 74 = .ok (.iload_n 1, 1) := by decide +kernel
theorem d_M_end_75 : decode b_M_end 75 = .ok (.iaload, 1) := by decide +kernel
theorem d_M_end_76 : decode b_M_end 76 = .ok (.iadd, 1) := by decide +kernel
theorem d_M_end_77 : decode b_M_end 77 = .ok (.iconst 1, 1) := by decide +kernel
theorem d_M_end_78 : decode b_M_end 78 = .ok (.bastore, 1) := by decide +kernel
theorem d_M_end_79 : decode b_M_end 79 = .ok (.aload_n 0, 1) := by decide +kernel
theorem d_M_end_80 : decode b_M_end 80 = .ok (.iconst 1, 1) := by decide +kernel
theorem d_M_end_81 : decode b_M_end 81 = .ok (.invokevirtual 125, 3) := by decide +kernel
theorem d_M_end_84 : decode b_M_end 84 = .ok (.aload_n 0, 1) := by decide +kernel
theorem d_M_end_85 : decode b_M_end 85 = .ok (.iconst 0, 1) := by decide +kernel
theorem d_M_end_86 : decode b_M_end 86 = .ok (.invokevirtual 125, 3) := by decide +kernel
theorem d_M_end_89 : decode b_M_end 89 = .ok (.if_icmp .ge 4, 3) := by decide +kernel
theorem d_M_end_92 : decode b_M_end 92 = .ok (.return_, 1) := by decide +kernel
theorem d_M_end_93 : decode b_M_end 93 = .ok (.aload_n 0, 1) := by decide +kernel
theorem d_M_end_94 : decode b_M_end 94 = .ok (.dup, 1) := by decide +kernel
theorem d_M_end_95 : decode b_M_end 95 = .ok (.getfield 66, 3) := by decide +kernel
theorem d_M_end_98 : decode b_M_end 98 = .ok (.iconst 1, 1) := by decide +kernel
theorem d_M_end_99 : decode b_M_end 99 = .ok (.iadd, 1) := by decide +kernel
theorem d_M_end_100 : decode b_M_end 100 = .ok (.putfield 66, 3) := by decide +kernel
theorem d_M_end_103 : decode b_M_end 103 = .ok (.iconst 0, 1) := by decide +kernel
theorem d_M_end_104 : decode b_M_end 104 = .ok (.istore_n 3, 1) := by decide +kernel
theorem d_M_end_105 : decode b_M_end 105 = .ok (.iload_n 3, 1) := by decide +kernel
theorem d_M_end_106 : decode b_M_end 106 = .ok (.bipush 48, 2) := by decide +kernel
theorem d_M_end_108 : decode b_M_end 108 = .ok (.if_icmp .ge 16, 3) := by decide +kernel
theorem d_M_end_111 : decode b_M_end 111 = .ok (.aload_n 0, 1) := by decide +kernel
theorem d_M_end_112 : decode b_M_end 112 = .ok (.getfield 70, 3) := by decide +kernel
theorem d_M_end_115 : decode b_M_end 115 = .ok (.iload_n 3, 1) := by decide +kernel
theorem d_M_end_116 : decode b_M_end 116 = .ok (.iconst 0, 1) := by decide +kernel
theorem d_M_end_117 : decode b_M_end 117 = .ok (.bastore, 1) := by decide +kernel
theorem d_M_end_118 : decode b_M_end 118 = .ok (.iinc 3 1, 3) := by decide +kernel
theorem d_M_end_121 : decode b_M_end 121 = .ok (.goto (-16), 3) := by decide +kernel
theorem d_M_end_124 : decode b_M_end 124 = .ok (.return_, 1) := by decide +kernel
theorem d_M_takeSum_0 : decode b_M_takeSum 0 = .ok (.aload_n 0, 1) := by decide +kernel
theorem d_M_takeSum_1 : decode b_M_takeSum 1 = .ok (.getfield 39, 3) := by decide +kernel
theorem d_M_takeSum_4 : decode b_M_takeSum 4 = .ok (.iload_n 1, 1) := by decide +kernel
theorem d_M_takeSum_5 : decode b_M_takeSum 5 = .ok (.iaload, 1) := by decide +kernel
theorem d_M_takeSum_6 : decode b_M_takeSum 6 = .ok (.iload_n 2, 1) := by decide +kernel
theorem d_M_takeSum_7 : decode b_M_takeSum 7 = .ok (.ishr, 1) := by decide +kernel
theorem d_M_takeSum_8 : decode b_M_takeSum 8 = .ok (.iconst 1, 1) := by decide +kernel
theorem d_M_takeSum_9 : decode b_M_takeSum 9 = .ok (.iand, 1) := by decide +kernel
theorem d_M_takeSum_10 : decode b_M_takeSum 10 = .ok (.iconst 1, 1) := by decide +kernel
theorem d_M_takeSum_11 : decode b_M_takeSum 11 = .ok (.if_icmp .ne 4, 3) := by decide +kernel
theorem d_M_takeSum_14 : decode b_M_takeSum 14 = .ok (.return_, 1) := by decide +kernel
theorem d_M_takeSum_15 : decode b_M_takeSum 15 = .ok (.aload_n 0, 1) := by decide +kernel
theorem d_M_takeSum_16 : decode b_M_takeSum 16 = .ok (.getfield 39, 3) := by decide +kernel
theorem d_M_takeSum_19 : decode b_M_takeSum 19 = .ok (.iload_n 1, 1) := by decide +kernel
theorem d_M_takeSum_20 : decode b_M_takeSum 20 = .ok (.dup2, 1) := by decide +kernel
theorem d_M_takeSum_21 : decode b_M_takeSum 21 = .ok (.iaload, 1) := by decide +kernel
theorem d_M_takeSum_22 : decode b_M_takeSum 22 = .ok (.iconst 1, 1) := by decide +kernel
theorem d_M_takeSum_23 : decode b_M_takeSum 23 = .ok (.iload_n 2, 1) := by decide +kernel
theorem d_M_takeSum_24 : decode b_M_takeSum 24 = .ok (.ishl, 1) := by decide +kernel
theorem d_M_takeSum_25 : decode b_M_takeSum 25 = .ok (.ior, 1) := by decide +kernel
theorem d_M_takeSum_26 : decode b_M_takeSum 26 = .ok (.iastore, 1) := by decide +kernel
theorem d_M_takeSum_27 : decode b_M_takeSum 27 = .ok (.aload_n 0, 1) := by decide +kernel
theorem d_M_takeSum_28 : decode b_M_takeSum 28 = .ok (.getfield 45, 3) := by decide +kernel
theorem d_M_takeSum_31 : decode b_M_takeSum 31 = .ok (.iconst 3, 1) := by decide +kernel
theorem d_M_takeSum_32 : decode b_M_takeSum 32 = .ok (.iload_n 1, 1) := by decide +kernel
theorem d_M_takeSum_33 : decode b_M_takeSum 33 = .ok (.imul, 1) := by decide +kernel
theorem d_M_takeSum_34 : decode b_M_takeSum 34 = .ok (.iload_n 2, 1) := by decide +kernel
theorem d_M_takeSum_35 : decode b_M_takeSum 35 = .ok (.iadd, 1) := by decide +kernel
theorem d_M_takeSum_36 : decode b_M_takeSum 36 = .ok (.lload_n 3, 1) := by decide +kernel
theorem d_M_takeSum_37 : decode b_M_takeSum 37 = .ok (.lastore, 1) := by decide +kernel
theorem d_M_takeSum_38 : decode b_M_takeSum 38 = .ok (.aload_n 0, 1) := by decide +kernel
theorem d_M_takeSum_39 : decode b_M_takeSum 39 = .ok (.getfield 39, 3) := by decide +kernel
theorem d_M_takeSum_42 : decode b_M_takeSum 42 = .ok (.iload_n 1, 1) := by decide +kernel
theorem d_M_takeSum_43 : decode b_M_takeSum 43 = .ok (.iaload, 1) := by decide +kernel
theorem d_M_takeSum_44 : decode b_M_takeSum 44 = .ok (.bipush 7, 2) := by decide +kernel
theorem d_M_takeSum_46 : decode b_M_takeSum 46 = .ok (.if_icmp .ge 4, 3) := by decide +kernel
theorem d_M_takeSum_49 : decode b_M_takeSum 49 = .ok (.return_, 1) := by decide +kernel
theorem d_M_takeSum_50 : decode b_M_takeSum 50 = .ok (.aload_n 0, 1) := by decide +kernel
theorem d_M_takeSum_51 : decode b_M_takeSum 51 = .ok (.getfield 45, 3) := by decide +kernel
theorem d_M_takeSum_54 : decode b_M_takeSum 54 = .ok (.iconst 3, 1) := by decide +kernel
theorem d_M_takeSum_55 : decode b_M_takeSum 55 = .ok (.iload_n 1, 1) := by decide +kernel
theorem d_M_takeSum_56 : decode b_M_takeSum 56 = .ok (.imul, 1) := by decide +kernel
theorem d_M_takeSum_57 : decode b_M_takeSum 57 = .ok (.laload, 1) := by decide +kernel
theorem d_M_takeSum_58 : decode b_M_takeSum 58 = .ok (.aload_n 0, 1) := by decide +kernel
theorem d_M_takeSum_59 : decode b_M_takeSum 59 = .ok (.getfield 45, 3) := by decide +kernel
theorem d_M_takeSum_62 : decode b_M_takeSum 62 = .ok (.iconst 3, 1) := by decide +kernel
theorem d_M_takeSum_63 : decode b_M_takeSum 63 = .ok (.iload_n 1, 1) := by decide +kernel
theorem d_M_takeSum_64 : decode b_M_takeSum 64 = .ok (.imul, 1) := by decide +kernel
theorem d_M_takeSum_65 : decode b_M_takeSum 65 = .ok (.iconst 1, 1) := by decide +kernel
theorem d_M_takeSum_66 : decode b_M_takeSum 66 = .ok (.iadd, 1) := by decide +kernel
theorem d_M_takeSum_67 : decode b_M_takeSum 67 = .ok (.laload, 1) := by decide +kernel
theorem d_M_takeSum_68 : decode b_M_takeSum 68 = .ok (.lcmp, 1) := by decide +kernel
theorem d_M_takeSum_69 : decode b_M_takeSum 69 = .ok (.ifCond .ne 34, 3) := by decide +kernel
theorem d_M_takeSum_72 : decode b_M_takeSum 72 = .ok (.aload_n 0, 1) := by decide +kernel
theorem d_M_takeSum_73 : decode b_M_takeSum 73 = .ok (.getfield 45, 3) := by decide +kernel
theorem d_M_takeSum_76 : decode b_M_takeSum 76 = .ok (.iconst 3, 1) := by decide +kernel
theorem d_M_takeSum_77 : decode b_M_takeSum 77 = .ok (.iload_n 1, 1) := by decide +kernel
theorem d_M_takeSum_78 : decode b_M_takeSum 78 = .ok (.imul, 1) := by decide +kernel
theorem d_M_takeSum_79 : decode b_M_takeSum 79 = .ok (.laload, 1) := by decide +kernel
theorem d_M_takeSum_80 : decode b_M_takeSum 80 = .ok (.aload_n 0, 1) := by decide +kernel
theorem d_M_takeSum_81 : decode b_M_takeSum 81 = .ok (.getfield 45, 3) := by decide +kernel
theorem d_M_takeSum_84 : decode b_M_takeSum 84 = .ok (.iconst 3, 1) := by decide +kernel
theorem d_M_takeSum_85 : decode b_M_takeSum 85 = .ok (.iload_n 1, 1) := by decide +kernel
theorem d_M_takeSum_86 : decode b_M_takeSum 86 = .ok (.imul, 1) := by decide +kernel
theorem d_M_takeSum_87 : decode b_M_takeSum 87 = .ok (.iconst 2, 1) := by decide +kernel
theorem d_M_takeSum_88 : decode b_M_takeSum 88 = .ok (.iadd, 1) := by decide +kernel
theorem d_M_takeSum_89 : decode b_M_takeSum 89 = .ok (.laload, 1) := by decide +kernel
theorem d_M_takeSum_90 : decode b_M_takeSum 90 = .ok (.lcmp, 1) := by decide +kernel
theorem d_M_takeSum_91 : decode b_M_takeSum 91 = .ok (.ifCond .ne 12, 3) := by decide +kernel
theorem d_M_takeSum_94 : decode b_M_takeSum 94 = .ok (.aload_n 0, 1) := by decide +kernel
theorem d_M_takeSum_95 : decode b_M_takeSum 95 = .ok (.iload_n 1, 1) := by decide +kernel
theorem d_M_takeSum_96 : decode b_M_takeSum 96 = .ok (.iconst 1, 1) := by decide +kernel
theorem d_M_takeSum_97 : decode b_M_takeSum 97 = .ok (.invokevirtual 129, 3) := by decide +kernel
theorem d_M_takeSum_100 : decode b_M_takeSum 100 = .ok (.goto 32, 3) := by decide +kernel
theorem d_M_takeSum_103 : decode b_M_takeSum 103 = .ok (.iconst 0, 1) := by decide +kernel
theorem d_M_takeSum_104 : decode b_M_takeSum 104 = .ok (.istore 5, 2) := by decide +kernel
theorem d_M_takeSum_106 : decode b_M_takeSum 106 = .ok (.iload 5, 2) := by decide +kernel
theorem d_M_takeSum_108 : decode b_M_takeSum 108 = .ok (.iconst 3, 1) := by decide +kernel
theorem d_M_takeSum_109 : decode b_M_takeSum 109 = .ok (.if_icmp .ge 23, 3) := by decide +kernel
theorem d_M_takeSum_112 : decode b_M_takeSum 112 = .ok (.aload_n 0, 1) := by decide +kernel
theorem d_M_takeSum_113 : decode b_M_takeSum 113 = .ok (.iconst 3, 1) := by decide +kernel
theorem d_M_takeSum_114 : decode b_M_takeSum 114 = .ok (.aload_n 0, 1) := by decide +kernel
theorem d_M_takeSum_115 : decode b_M_takeSum 115 = .ok (.getfield 23, 3) := by decide +kernel
theorem d_M_takeSum_118 : decode b_M_takeSum 118 = .ok (.iload_n 1, 1) := by decide +kernel
theorem d_M_takeSum_119 : decode b_M_takeSum 119 = .ok (.iaload, 1) := by decide +kernel
theorem d_M_takeSum_120 : decode b_M_takeSum 120 = .ok (.iload 5, 2) := by decide +kernel
theorem d_M_takeSum_122 : decode b_M_takeSum 122 = .ok (.invokevirtual 115, 3) := by decide +kernel
theorem d_M_takeSum_125 : decode b_M_takeSum 125 = .ok (.pop, 1) := by decide +kernel
theorem d_M_takeSum_126 : decode b_M_takeSum 126 = .ok (.iinc 5 1, 3) := by decide +kernel
theorem d_M_takeSum_129 : decode b_M_takeSum 129 = .ok (.goto (-23), 3) := by decide +kernel
theorem d_M_takeSum_132 : decode b_M_takeSum 132 = .ok (.return_, 1) := by decide +kernel
theorem d_M_alike_0 : decode b_M_alike 0 = .ok (.iconst 1, 1) := by decide +kernel
theorem d_M_alike_1 : decode b_M_alike 1 = .ok (.istore 5, 2) := by decide +kernel
theorem d_M_alike_3 : decode b_M_alike 3 = .ok (.iconst 4, 1) := by decide +kernel
theorem d_M_alike_4 : decode b_M_alike 4 = .ok (.iload 4, 2) := by decide +kernel
theorem d_M_alike_6 : decode b_M_alike 6 = .ok (.imul, 1) := by decide +kernel
theorem d_M_alike_7 : decode b_M_alike 7 = .ok (.istore 6, 2) := by decide +kernel
theorem d_M_alike_9 : decode b_M_alike 9 = .ok (.iload 6, 2) := by decide +kernel
theorem d_M_alike_11 : decode b_M_alike 11 = .ok (.iconst 4, 1) := by decide +kernel
theorem d_M_alike_12 : decode b_M_alike 12 = .ok (.iload 4, 2) := by decide +kernel
theorem d_M_alike_14 : decode b_M_alike 14 = .ok (.imul, 1) := by decide +kernel
theorem d_M_alike_15 : decode b_M_alike 15 = .ok (.iconst 4, 1) := by decide +kernel
theorem d_M_alike_16 : decode b_M_alike 16 = .ok (.iadd, 1) := by decide +kernel
theorem d_M_alike_17 : decode b_M_alike 17 = .ok (.if_icmp .ge 58, 3) := by decide +kernel
theorem d_M_alike_20 : decode b_M_alike 20 = .ok (.iload 5, 2) := by decide +kernel
theorem d_M_alike_22 : decode b_M_alike 22 = .ok (.ifCond .eq 44, 3) := by decide +kernel
theorem d_M_alike_25 : decode b_M_alike 25 = .ok (.aload_n 0, 1) := by decide +kernel
theorem d_M_alike_26 : decode b_M_alike 26 = .ok (.getfield 48, 3) := by decide +kernel
theorem d_M_alike_29 : decode b_M_alike 29 = .ok (.bipush 24, 2) := by decide +kernel
theorem d_M_alike_31 : decode b_M_alike 31 = .ok (.iload_n 1, 1) := by decide +kernel
theorem d_M_alike_32 : decode b_M_alike 32 = .ok (.imul, 1) := by decide +kernel
theorem d_M_alike_33 : decode b_M_alike 33 = .ok (.bipush 8, 2) := by decide +kernel
theorem d_M_alike_35 : decode b_M_alike 35 = .ok (.iload_n 2, 1) := by decide +kernel
theorem d_M_alike_36 : decode b_M_alike 36 = .ok (.imul, 1) := by decide +kernel
theorem d_M_alike_37 : decode b_M_alike 37 = .ok (.iadd, 1) := by decide +kernel
theorem d_M_alike_38 : decode b_M_alike 38 = .ok (.iload 6, 2) := by decide +kernel
theorem d_M_alike_40 : decode b_M_alike 40 = .ok (.iadd, 1) := by decide +kernel
theorem d_M_alike_41 : decode b_M_alike 41 = .ok (.iaload, 1) := by decide +kernel
theorem d_M_alike_42 : decode b_M_alike 42 = .ok (.aload_n 0, 1) := by decide +kernel
theorem d_M_alike_43 : decode b_M_alike 43 = .ok (.getfield 48, 3) := by decide +kernel
theorem d_M_alike_46 : decode b_M_alike 46 = .ok (.bipush 24, 2) := by decide +kernel
theorem d_M_alike_48 : decode b_M_alike 48 = .ok (.iload_n 1, 1) := by decide +kernel
theorem d_M_alike_49 : decode b_M_alike 49 = .ok (.imul, 1) := by decide +kernel
theorem d_M_alike_50 : decode b_M_alike 50 = .ok (.bipush 8, 2) := by decide +kernel
theorem d_M_alike_52 : decode b_M_alike 52 = .ok (.iload_n 3, 1) := by decide +kernel
theorem d_M_alike_53 : decode b_M_alike 53 = .ok (.imul, 1) := by decide +kernel
theorem d_M_alike_54 : decode b_M_alike 54 = .ok (.iadd, 1) := by decide +kernel
theorem d_M_alike_55 : decode b_M_alike 55 = .ok (.iload 6, 2) := by decide +kernel
theorem d_M_alike_57 : decode b_M_alike 57 = .ok (.iadd, 1) := by decide +kernel
theorem d_M_alike_58 : decode b_M_alike 58 = .ok (.iaload, 1) := by decide +kernel
theorem d_M_alike_59 : decode b_M_alike 59 = .ok (.if_icmp .ne 7, 3) := by decide +kernel
theorem d_M_alike_62 : decode b_M_alike 62 = .ok (.iconst 1, 1) := by decide +kernel
theorem d_M_alike_63 : decode b_M_alike 63 = .ok (.goto 4, 3) := by decide +kernel
theorem d_M_alike_66 : decode b_M_alike 66 = .ok (.iconst 0, 1) := by decide +kernel
theorem d_M_alike_67 : decode b_M_alike 67 = .ok (.istore 5, 2) := by decide +kernel
theorem d_M_alike_69 : decode b_M_alike 69 = .ok (.iinc 6 1, 3) := by decide +kernel
theorem d_M_alike_72 : decode b_M_alike 72 = .ok (.goto (-63), 3) := by decide +kernel
theorem d_M_alike_75 : decode b_M_alike 75 = .ok (.iload 5, 2) := by decide +kernel
theorem d_M_alike_77 : decode b_M_alike 77 = .ok (.ireturn, 1) := by decide +kernel
theorem d_M_byteAt_0 : decode b_M_byteAt 0 = .ok (.sipush 384, 3) := by decide +kernel
theorem d_M_byteAt_3 : decode b_M_byteAt 3 = .ok (.iload_n 2, 1) := by decide +kernel
theorem d_M_byteAt_4 : decode b_M_byteAt 4 = .ok (.imul, 1) := by decide +kernel
theorem d_M_byteAt_5 : decode b_M_byteAt 5 = .ok (.bipush 64, 2) := by decide +kernel
theorem d_M_byteAt_7 : decode b_M_byteAt 7 = .ok (.aload_n 0, 1) := by decide +kernel
theorem d_M_byteAt_8 : decode b_M_byteAt 8 = .ok (.getfield 26, 3) := by decide +kernel
theorem d_M_byteAt_11 : decode b_M_byteAt 11 = .ok (.iload_n 1, 1) := by decide +kernel
theorem d_M_byteAt_12 : decode b_M_byteAt 12 = .ok (.iaload, 1) := by decide +kernel
theorem d_M_byteAt_13 : decode b_M_byteAt 13 = .ok (.imul, 1) := by decide +kernel
theorem d_M_byteAt_14 : decode b_M_byteAt 14 = .ok (.iadd, 1) := by decide +kernel
theorem d_M_byteAt_15 : decode b_M_byteAt 15 = .ok (.iconst 4, 1) := by decide +kernel
theorem d_M_byteAt_16 : decode b_M_byteAt 16 = .ok (.aload_n 0, 1) := by decide +kernel
theorem d_M_byteAt_17 : decode b_M_byteAt 17 = .ok (.getfield 29, 3) := by decide +kernel
theorem d_M_byteAt_20 : decode b_M_byteAt 20 = .ok (.iload_n 1, 1) := by decide +kernel
theorem d_M_byteAt_21 : decode b_M_byteAt 21 = .ok (.iaload, 1) := by decide +kernel
theorem d_M_byteAt_22 : decode b_M_byteAt 22 = .ok (.bipush 8, 2) := by decide +kernel
theorem d_M_byteAt_24 : decode b_M_byteAt 24 = .ok (.iload_n 3, 1) := by decide +kernel
theorem d_M_byteAt_25 : decode b_M_byteAt 25 = .ok (.iconst 4, 1) := by decide +kernel
theorem d_M_byteAt_26 : decode b_M_byteAt 26 = .ok (.idiv, 1) := by decide +kernel
theorem d_M_byteAt_27 : decode b_M_byteAt 27 = .ok (.imul, 1) := by decide +kernel
theorem d_M_byteAt_28 : decode b_M_byteAt 28 = .ok (.iadd, 1) := by decide +kernel
theorem d_M_byteAt_29 : decode b_M_byteAt 29 = .ok (.imul, 1) := by decide +kernel
theorem d_M_byteAt_30 : decode b_M_byteAt 30 = .ok (.iadd, 1) := by decide +kernel
theorem d_M_byteAt_31 : decode b_M_byteAt 31 = .ok (.iload_n 3, 1) := by decide +kernel
theorem d_M_byteAt_32 : decode b_M_byteAt 32 = .ok (.iconst 4, 1) := by decide +kernel
theorem d_M_byteAt_33 : decode b_M_byteAt 33 = .ok (.irem, 1) := by decide +kernel
theorem d_M_byteAt_34 : decode b_M_byteAt 34 = .ok (.iadd, 1) := by decide +kernel
theorem d_M_byteAt_35 : decode b_M_byteAt 35 = .ok (.ireturn, 1) := by decide +kernel
theorem d_M_isAsCopied_0 : decode b_M_isAsCopied 0 = .ok (.iconst 1, 1) := by decide +kernel
theorem d_M_isAsCopied_1 : decode b_M_isAsCopied 1 = .ok (.istore 4, 2) := by decide +kernel
theorem d_M_isAsCopied_3 : decode b_M_isAsCopied 3 = .ok (.iconst 0, 1) := by decide +kernel
theorem d_M_isAsCopied_4 : decode b_M_isAsCopied 4 = .ok (.istore 5, 2) := by decide +kernel
theorem d_M_isAsCopied_6 : decode b_M_isAsCopied 6 = .ok (.iload 5, 2) := by decide +kernel
theorem d_M_isAsCopied_8 : decode b_M_isAsCopied 8 = .ok (.iconst 4, 1) := by decide +kernel
theorem d_M_isAsCopied_9 : decode b_M_isAsCopied 9 = .ok (.iload_n 3, 1) := by decide +kernel
theorem d_M_isAsCopied_10 : decode b_M_isAsCopied 10 = .ok (.imul, 1) := by decide +kernel
theorem d_M_isAsCopied_11 : decode b_M_isAsCopied 11 = .ok (.if_icmp .ge 54, 3) := by decide +kernel
theorem d_M_isAsCopied_14 : decode b_M_isAsCopied 14 = .ok (.iload 4, 2) := by decide +kernel
theorem d_M_isAsCopied_16 : decode b_M_isAsCopied 16 = .ok (.ifCond .eq 40, 3) := by decide +kernel
theorem d_M_isAsCopied_19 : decode b_M_isAsCopied 19 = .ok (.aload_n 0, 1) := by decide +kernel
theorem d_M_isAsCopied_20 : decode b_M_isAsCopied 20 = .ok (.getfield 7, 3) := by decide +kernel
theorem d_M_isAsCopied_23 : decode b_M_isAsCopied 23 = .ok (.aload_n 0, 1) := by decide +kernel
theorem d_M_isAsCopied_24 : decode b_M_isAsCopied 24 = .ok (.iload_n 1, 1) := by decide +kernel
theorem d_M_isAsCopied_25 : decode b_M_isAsCopied 25 = .ok (.iload_n 2, 1) := by decide +kernel
theorem d_M_isAsCopied_26 : decode b_M_isAsCopied 26 = .ok (.iload 5, 2) := by decide +kernel
theorem d_M_isAsCopied_28 : decode b_M_isAsCopied 28 = .ok (.invokevirtual 132, 3) := by decide +kernel
theorem d_M_isAsCopied_31 : decode b_M_isAsCopied 31 = .ok (.iaload, 1) := by decide +kernel
theorem d_M_isAsCopied_32 : decode b_M_isAsCopied 32 = .ok (.aload_n 0, 1) := by decide +kernel
theorem d_M_isAsCopied_33 : decode b_M_isAsCopied 33 = .ok (.getfield 48, 3) := by decide +kernel
theorem d_M_isAsCopied_36 : decode b_M_isAsCopied 36 = .ok (.bipush 24, 2) := by decide +kernel
theorem d_M_isAsCopied_38 : decode b_M_isAsCopied 38 = .ok (.iload_n 1, 1) := by decide +kernel
theorem d_M_isAsCopied_39 : decode b_M_isAsCopied 39 = .ok (.imul, 1) := by decide +kernel
theorem d_M_isAsCopied_40 : decode b_M_isAsCopied 40 = .ok (.bipush 8, 2) := by decide +kernel
theorem d_M_isAsCopied_42 : decode b_M_isAsCopied 42 = .ok (.iload_n 2, 1) := by decide +kernel
theorem d_M_isAsCopied_43 : decode b_M_isAsCopied 43 = .ok (.imul, 1) := by decide +kernel
theorem d_M_isAsCopied_44 : decode b_M_isAsCopied 44 = .ok (.iadd, 1) := by decide +kernel
theorem d_M_isAsCopied_45 : decode b_M_isAsCopied 45 = .ok (.iload 5, 2) := by decide +kernel
theorem d_M_isAsCopied_47 : decode b_M_isAsCopied 47 = .ok (.iadd, 1) := by decide +kernel
theorem d_M_isAsCopied_48 : decode b_M_isAsCopied 48 = .ok (.iaload, 1) := by decide +kernel
theorem d_M_isAsCopied_49 : decode b_M_isAsCopied 49 = .ok (.if_icmp .ne 7, 3) := by decide +kernel
theorem d_M_isAsCopied_52 : decode b_M_isAsCopied 52 = .ok (.iconst 1, 1) := by decide +kernel
theorem d_M_isAsCopied_53 : decode b_M_isAsCopied 53 = .ok (.goto 4, 3) := by decide +kernel
theorem d_M_isAsCopied_56 : decode b_M_isAsCopied 56 = .ok (.iconst 0, 1) := by decide +kernel
theorem d_M_isAsCopied_57 : decode b_M_isAsCopied 57 = .ok (.istore 4, 2) := by decide +kernel
theorem d_M_isAsCopied_59 : decode b_M_isAsCopied 59 = .ok (.iinc 5 1, 3) := by decide +kernel
theorem d_M_isAsCopied_62 : decode b_M_isAsCopied 62 = .ok (.goto (-56), 3) := by decide +kernel
theorem d_M_isAsCopied_65 : decode b_M_isAsCopied 65 = .ok (.iload 4, 2) := by decide +kernel
theorem d_M_isAsCopied_67 : decode b_M_isAsCopied 67 = .ok (.ireturn, 1) := by decide +kernel
theorem d_M_mend_0 : decode b_M_mend 0 = .ok (.iconst 4, 1) := by decide +kernel
theorem d_M_mend_1 : decode b_M_mend 1 = .ok (.iload 4, 2) := by decide +kernel
theorem d_M_mend_3 : decode b_M_mend 3 = .ok (.imul, 1) := by decide +kernel
theorem d_M_mend_4 : decode b_M_mend 4 = .ok (.istore 5, 2) := by decide +kernel
theorem d_M_mend_6 : decode b_M_mend 6 = .ok (.iload 5, 2) := by decide +kernel
theorem d_M_mend_8 : decode b_M_mend 8 = .ok (.iconst 4, 1) := by decide +kernel
theorem d_M_mend_9 : decode b_M_mend 9 = .ok (.iload 4, 2) := by decide +kernel
theorem d_M_mend_11 : decode b_M_mend 11 = .ok (.imul, 1) := by decide +kernel
theorem d_M_mend_12 : decode b_M_mend 12 = .ok (.iconst 4, 1) := by decide +kernel
theorem d_M_mend_13 : decode b_M_mend 13 = .ok (.iadd, 1) := by decide +kernel
theorem d_M_mend_14 : decode b_M_mend 14 = .ok (.if_icmp .ge 39, 3) := by decide +kernel
theorem d_M_mend_17 : decode b_M_mend 17 = .ok (.aload_n 0, 1) := by decide +kernel
theorem d_M_mend_18 : decode b_M_mend 18 = .ok (.getfield 7, 3) := by decide +kernel
theorem d_M_mend_21 : decode b_M_mend 21 = .ok (.aload_n 0, 1) := by decide +kernel
theorem d_M_mend_22 : decode b_M_mend 22 = .ok (.iload_n 1, 1) := by decide +kernel
theorem d_M_mend_23 : decode b_M_mend 23 = .ok (.iload_n 2, 1) := by decide +kernel
theorem d_M_mend_24 : decode b_M_mend 24 = .ok (.iload 5, 2) := by decide +kernel
theorem d_M_mend_26 : decode b_M_mend 26 = .ok (.invokevirtual 132, 3) := by decide +kernel
theorem d_M_mend_29 : decode b_M_mend 29 = .ok (.aload_n 0, 1) := by decide +kernel
theorem d_M_mend_30 : decode b_M_mend 30 = .ok (.getfield 48, 3) := by decide +kernel
theorem d_M_mend_33 : decode b_M_mend 33 = .ok (.bipush 24, 2) := by decide +kernel
theorem d_M_mend_35 : decode b_M_mend 35 = .ok (.iload_n 1, 1) := by decide +kernel
theorem d_M_mend_36 : decode b_M_mend 36 = .ok (.imul, 1) := by decide +kernel
theorem d_M_mend_37 : decode b_M_mend 37 = .ok (.bipush 8, 2) := by decide +kernel
theorem d_M_mend_39 : decode b_M_mend 39 = .ok (.iload_n 3, 1) := by decide +kernel
theorem d_M_mend_40 : decode b_M_mend 40 = .ok (.imul, 1) := by decide +kernel
theorem d_M_mend_41 : decode b_M_mend 41 = .ok (.iadd, 1) := by decide +kernel
theorem d_M_mend_42 : decode b_M_mend 42 = .ok (.iload 5, 2) := by decide +kernel
theorem d_M_mend_44 : decode b_M_mend 44 = .ok (.iadd, 1) := by decide +kernel
theorem d_M_mend_45 : decode b_M_mend 45 = .ok (.iaload, 1) := by decide +kernel
theorem d_M_mend_46 : decode b_M_mend 46 = .ok (.iastore, 1) := by decide +kernel
theorem d_M_mend_47 : decode b_M_mend 47 = .ok (.iinc 5 1, 3) := by decide +kernel
theorem d_M_mend_50 : decode b_M_mend 50 = .ok (.goto (-44), 3) := by decide +kernel
theorem d_M_mend_53 : decode b_M_mend 53 = .ok (.aload_n 0, 1) := by decide +kernel
theorem d_M_mend_54 : decode b_M_mend 54 = .ok (.getfield 73, 3) := by decide +kernel
theorem d_M_mend_57 : decode b_M_mend 57 = .ok (.iload_n 2, 1) := by decide +kernel
theorem d_M_mend_58 : decode b_M_mend 58 = .ok (.dup2, 1) := by decide +kernel
theorem d_M_mend_59 : decode b_M_mend 59 = .ok (.iaload, 1) := by decide +kernel
theorem d_M_mend_60 : decode b_M_mend 60 = .ok (.iconst 1, 1) := by decide +kernel
theorem d_M_mend_61 : decode b_M_mend 61 = .ok (.iadd, 1) := by decide +kernel
theorem d_M_mend_62 : decode b_M_mend 62 = .ok (.iastore, 1) := by decide +kernel
theorem d_M_mend_63 : decode b_M_mend 63 = .ok (.return_, 1) := by decide +kernel
theorem d_M_decide_0 : decode b_M_decide 0 = .ok (.aload_n 0, 1) := by decide +kernel
theorem d_M_decide_1 : decode b_M_decide 1 = .ok (.aload_n 0, 1) := by decide +kernel
theorem d_M_decide_2 : decode b_M_decide 2 = .ok (.getfield 26, 3) := by decide +kernel
theorem d_M_decide_5 : decode b_M_decide 5 = .ok (.iload_n 1, 1) := by decide +kernel
theorem d_M_decide_6 : decode b_M_decide 6 = .ok (.iaload, 1) := by decide +kernel
theorem d_M_decide_7 : decode b_M_decide 7 = .ok (.aload_n 0, 1) := by decide +kernel
theorem d_M_decide_8 : decode b_M_decide 8 = .ok (.getfield 29, 3) := by decide +kernel
theorem d_M_decide_11 : decode b_M_decide 11 = .ok (.iload_n 1, 1) := by decide +kernel
theorem d_M_decide_12 : decode b_M_decide 12 = .ok (.iaload, 1) := by decide +kernel
theorem d_M_decide_13 : decode b_M_decide 13 = .ok (.invokevirtual 90, 3) := by decide +kernel
theorem d_M_decide_16 : decode b_M_decide 16 = .ok (.istore_n 2, 1) := by decide +kernel
theorem d_M_decide_17 : decode b_M_decide 17 = .ok (.iconst 0, 1) := by decide +kernel
theorem d_M_decide_18 : decode b_M_decide 18 = .ok (.istore_n 3, 1) := by decide +kernel
theorem d_M_decide_19 : decode b_M_decide 19 = .ok (.iconst 0, 1) := by decide +kernel
theorem d_M_decide_20 : decode b_M_decide 20 = .ok (.istore 4, 2) := by decide +kernel
theorem d_M_decide_22 : decode b_M_decide 22 = .ok (.iload 4, 2) := by decide +kernel
theorem d_M_decide_24 : decode b_M_decide 24 = .ok (.iload_n 2, 1) := by decide +kernel
theorem d_M_decide_25 : decode b_M_decide 25 = .ok (.if_icmp .ge 55, 3) := by decide +kernel
theorem d_M_decide_28 : decode b_M_decide 28 = .ok (.iload_n 3, 1) := by decide +kernel
theorem d_M_decide_29 : decode b_M_decide 29 = .ok (.ifCond .ne 39, 3) := by decide +kernel
theorem d_M_decide_32 : decode b_M_decide 32 = .ok (.aload_n 0, 1) := by decide +kernel
theorem d_M_decide_33 : decode b_M_decide 33 = .ok (.iload_n 1, 1) := by decide +kernel
theorem d_M_decide_34 : decode b_M_decide 34 = .ok (.iconst 0, 1) := by decide +kernel
theorem d_M_decide_35 : decode b_M_decide 35 = .ok (.iconst 1, 1) := by decide +kernel
theorem d_M_decide_36 : decode b_M_decide 36 = .ok (.iload 4, 2) := by decide +kernel
theorem d_M_decide_38 : decode b_M_decide 38 = .ok (.invokevirtual 135, 3) := by decide +kernel
theorem d_M_decide_41 : decode b_M_decide 41 = .ok (.ifCond .ne 31, 3) := by decide +kernel
theorem d_M_decide_44 : decode b_M_decide 44 = .ok (.aload_n 0, 1) := by decide +kernel
theorem d_M_decide_45 : decode b_M_decide 45 = .ok (.iload_n 1, 1) := by decide +kernel
theorem d_M_decide_46 : decode b_M_decide 46 = .ok (.iconst 0, 1) := by decide +kernel
theorem d_M_decide_47 : decode b_M_decide 47 = .ok (.iconst 2, 1) := by decide +kernel
theorem d_M_decide_48 : decode b_M_decide 48 = .ok (.iload 4, 2) := by decide +kernel
theorem d_M_decide_50 : decode b_M_decide 50 = .ok (.invokevirtual 135, 3) := by decide +kernel
theorem d_M_decide_53 : decode b_M_decide 53 = .ok (.ifCond .ne 19, 3) := by decide +kernel
theorem d_M_decide_56 : decode b_M_decide 56 = .ok (.aload_n 0, 1) := by decide +kernel
theorem d_M_decide_57 : decode b_M_decide 57 = .ok (.iload_n 1, 1) := by decide +kernel
theorem d_M_decide_58 : decode b_M_decide 58 = .ok (.iconst 1, 1) := by decide +kernel
theorem d_M_decide_59 : decode b_M_decide 59 = .ok (.iconst 2, 1) := by decide +kernel
theorem d_M_decide_60 : decode b_M_decide 60 = .ok (.iload 4, 2) := by decide +kernel
theorem d_M_decide_62 : decode b_M_decide 62 = .ok (.invokevirtual 135, 3) := by decide +kernel
theorem d_M_decide_65 : decode b_M_decide 65 = .ok (.ifCond .ne 7, 3) := by decide +kernel
theorem d_M_decide_68 : decode b_M_decide 68 = .ok (.iconst 1, 1) := by decide +kernel
theorem d_M_decide_69 : decode b_M_decide 69 = .ok (.goto 4, 3) := by decide +kernel
theorem d_M_decide_72 : decode b_M_decide 72 = .ok (.iconst 0, 1) := by decide +kernel

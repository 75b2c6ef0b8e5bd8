theorem d_M_decide_73 : decode b_M_decide 73 = .ok (.istore_n 3, 1) := by decide +kernel
theorem d_M_decide_74 : decode b_M_decide 74 = .ok (.iinc 4 1, 3) := by decide +kernel
theorem d_M_decide_77 : decode b_M_decide 77 = .ok (.goto (-55), 3) := by decide +kernel
theorem d_M_decide_80 : decode b_M_decide 80 = .ok (.iconst 1, 1) := by decide +kernel
theorem d_M_decide_81 : decode b_M_decide 81 = .ok (.istore 4, 2) := by decide +kernel
theorem d_M_decide_83 : decode b_M_decide 83 = .ok (.iconst 0, 1) := by decide +kernel
theorem d_M_decide_84 : decode b_M_decide 84 = .ok (.istore 5, 2) := by decide +kernel
theorem d_M_decide_86 : decode b_M_decide 86 = .ok (.iload 5, 2) := by decide +kernel
theorem d_M_decide_88 : decode b_M_decide 88 = .ok (.iconst 3, 1) := by decide +kernel
theorem d_M_decide_89 : decode b_M_decide 89 = .ok (.if_icmp .ge 42, 3) := by decide +kernel
theorem d_M_decide_92 : decode b_M_decide 92 = .ok (.iload 4, 2) := by decide +kernel
theorem d_M_decide_94 : decode b_M_decide 94 = .ok (.ifCond .eq 28, 3) := by decide +kernel
theorem d_M_decide_97 : decode b_M_decide 97 = .ok (.aload_n 0, 1) := by decide +kernel
theorem d_M_decide_98 : decode b_M_decide 98 = .ok (.getfield 16, 3) := by decide +kernel
theorem d_M_decide_101 : decode b_M_decide 101 = .ok (.iload 5, 2) := by decide +kernel
theorem d_M_decide_103 : decode b_M_decide 103 = .ok (.baload, 1) := by decide +kernel
theorem d_M_decide_104 : decode b_M_decide 104 = .ok (.ifCond .eq 18, 3) := by decide +kernel
theorem d_M_decide_107 : decode b_M_decide 107 = .ok (.aload_n 0, 1) := by decide +kernel
theorem d_M_decide_108 : decode b_M_decide 108 = .ok (.iload_n 1, 1) := by decide +kernel
theorem d_M_decide_109 : decode b_M_decide 109 = .ok (.iload 5, 2) := by decide +kernel
theorem d_M_decide_111 : decode b_M_decide 111 = .ok (.iload_n 2, 1) := by decide +kernel
theorem d_M_decide_112 : decode b_M_decide 112 = .ok (.invokevirtual 139, 3) := by decide +kernel
theorem d_M_decide_115 : decode b_M_decide 115 = .ok (.ifCond .eq 7, 3) := by decide +kernel
theorem d_M_decide_118 : decode b_M_decide 118 = .ok (.iconst 1, 1) := by decide +kernel
theorem d_M_decide_119 : decode b_M_decide 119 = .ok (.goto 4, 3) := by decide +kernel
theorem d_M_decide_122 : decode b_M_decide 122 = .ok (.iconst 0, 1) := by decide +kernel
theorem d_M_decide_123 : decode b_M_decide 123 = .ok (.istore 4, 2) := by decide +kernel
theorem d_M_decide_125 : decode b_M_decide 125 = .ok (.iinc 5 1, 3) := by decide +kernel
theorem d_M_decide_128 : decode b_M_decide 128 = .ok (.goto (-42), 3) := by decide +kernel
theorem d_M_decide_131 : decode b_M_decide 131 = .ok (.iload_n 3, 1) := by decide +kernel
theorem d_M_decide_132 : decode b_M_decide 132 = .ok (.ifCond .ne 102, 3) := by decide +kernel
theorem d_M_decide_135 : decode b_M_decide 135 = .ok (.iload 4, 2) := by decide +kernel
theorem d_M_decide_137 : decode b_M_decide 137 = .ok (.ifCond .eq 97, 3) := by decide +kernel
theorem d_M_decide_140 : decode b_M_decide 140 = .ok (.iconst 0, 1) := by decide +kernel
theorem d_M_decide_141 : decode b_M_decide 141 = .ok (.istore 5, 2) := by decide +kernel
theorem d_M_decide_143 : decode b_M_decide 143 = .ok (.iload 5, 2) := by decide +kernel
theorem d_M_decide_145 : decode b_M_decide 145 = .ok (.iload_n 2, 1) := by decide +kernel
theorem d_M_decide_146 : decode b_M_decide 146 = .ok (.if_icmp .ge 88, 3) := by decide +kernel
theorem d_M_decide_149 : decode b_M_decide 149 = .ok (.aload_n 0, 1) := by decide +kernel
theorem d_M_decide_150 : decode b_M_decide 150 = .ok (.iload_n 1, 1) := by decide +kernel
theorem d_M_decide_151 : decode b_M_decide 151 = .ok (.iconst 0, 1) := by decide +kernel
theorem d_M_decide_152 : decode b_M_decide 152 = .ok (.iconst 1, 1) := by decide +kernel
theorem d_M_decide_153 : decode b_M_decide 153 = .ok (.iload 5, 2) := by decide +kernel
theorem d_M_decide_155 : decode b_M_decide 155 = .ok (.invokevirtual 135, 3) := by decide +kernel
theorem d_M_decide_158 : decode b_M_decide 158 = .ok (.istore 6, 2) := by decide +kernel
theorem d_M_decide_160 : decode b_M_decide 160 = .ok (.aload_n 0, 1) := by decide +kernel
theorem d_M_decide_161 : decode b_M_decide 161 = .ok (.iload_n 1, 1) := by decide +kernel
theorem d_M_decide_162 : decode b_M_decide 162 = .ok (.iconst 0, 1) := by decide +kernel
theorem d_M_decide_163 : decode b_M_decide 163 = .ok (.iconst 2, 1) := by decide +kernel
theorem d_M_decide_164 : decode b_M_decide 164 = .ok (.iload 5, 2) := by decide +kernel
theorem d_M_decide_166 : decode b_M_decide 166 = .ok (.invokevirtual 135, 3) := by decide +kernel
theorem d_M_decide_169 : decode b_M_decide 169 = .ok (.istore 7, 2) := by decide +kernel
theorem d_M_decide_171 : decode b_M_decide 171 = .ok (.iload 6, 2) := by decide +kernel
theorem d_M_decide_173 : decode b_M_decide 173 = .ok (.ifCond .eq 17, 3) := by decide +kernel
theorem d_M_decide_176 : decode b_M_decide 176 = .ok (.iload 7, 2) := by decide +kernel
theorem d_M_decide_178 : decode b_M_decide 178 = .ok (.ifCond .ne 12, 3) := by decide +kernel
theorem d_M_decide_181 : decode b_M_decide 181 = .ok (.aload_n 0, 1) := by decide +kernel
theorem d_M_decide_182 : decode b_M_decide 182 = .ok (.iload_n 1, 1) := by decide +kernel
theorem d_M_decide_183 : decode b_M_decide 183 = .ok (.iconst 2, 1) := by decide +kernel
theorem d_M_decide_184 : decode b_M_decide 184 = .ok (.iconst 0, 1) := by decide +kernel
theorem d_M_decide_185 : decode b_M_decide 185 = .ok (.iload 5, 2) := by decide +kernel
theorem d_M_decide_187 : decode b_M_decide 187 = .ok (.invokevirtual 142, 3) := by decide +kernel
theorem d_M_decide_190 : decode b_M_decide 190 = .ok (.iload 7, 2) := by decide +kernel
theorem d_M_decide_192 : decode b_M_decide 192 = .ok (.ifCond .eq 17, 3) := by decide +kernel
theorem d_M_decide_195 : decode b_M_decide 195 = .ok (.iload 6, 2) := by decide +kernel
theorem d_M_decide_197 : decode b_M_decide 197 = .ok (.ifCond .ne 12, 3) := by decide +kernel
theorem d_M_decide_200 : decode b_M_decide 200 = .ok (.aload_n 0, 1) := by decide +kernel
theorem d_M_decide_201 : decode b_M_decide 201 = .ok (.iload_n 1, 1) := by decide +kernel
theorem d_M_decide_202 : decode b_M_decide 202 = .ok (.iconst 1, 1) := by decide +kernel
theorem d_M_decide_203 : decode b_M_decide 203 = .ok (.iconst 0, 1) := by decide +kernel
theorem d_M_decide_204 : decode b_M_decide 204 = .ok (.iload 5, 2) := by decide +kernel
theorem d_M_decide_206 : decode b_M_decide 206 = .ok (.invokevirtual 142, 3) := by decide +kernel
theorem d_M_decide_209 : decode b_M_decide 209 = .ok (.iload 6, 2) := by decide +kernel
theorem d_M_decide_211 : decode b_M_decide 211 = .ok (.ifCond .ne 17, 3) := by decide +kernel
theorem d_M_decide_214 : decode b_M_decide 214 = .ok (.iload 7, 2) := by decide +kernel
theorem d_M_decide_216 : decode b_M_decide 216 = .ok (.ifCond .ne 12, 3) := by decide +kernel
theorem d_M_decide_219 : decode b_M_decide 219 = .ok (.aload_n 0, 1) := by decide +kernel
theorem d_M_decide_220 : decode b_M_decide 220 = .ok (.iload_n 1, 1) := by decide +kernel
theorem d_M_decide_221 : decode b_M_decide 221 = .ok (.iconst 0, 1) := by decide +kernel
theorem d_M_decide_222 : decode b_M_decide 222 = .ok (.iconst 1, 1) := by decide +kernel
theorem d_M_decide_223 : decode b_M_decide 223 = .ok (.iload 5, 2) := by decide +kernel
theorem d_M_decide_225 : decode b_M_decide 225 = .ok (.invokevirtual 142, 3) := by decide +kernel
theorem d_M_decide_228 : decode b_M_decide 228 = .ok (.iinc 5 1, 3) := by decide +kernel
theorem d_M_decide_231 : decode b_M_decide 231 = .ok (.goto (-88), 3) := by decide +kernel
theorem d_M_decide_234 : decode b_M_decide 234 = .ok (.aload_n 0, 1) := by decide +kernel
theorem d_M_decide_235 : decode b_M_decide 235 = .ok (.iload_n 1, 1) := by decide +kernel
theorem d_M_decide_236 : decode b_M_decide 236 = .ok (.iload_n 3, 1) := by decide +kernel
theorem d_M_decide_237 : decode b_M_decide 237 = .ok (.ifCond .eq 7, 3) := by decide +kernel
theorem d_M_decide_240 : decode b_M_decide 240 = .ok (.iconst 3, 1) := by decide +kernel
theorem d_M_decide_241 : decode b_M_decide 241 = .ok (.goto 13, 3) := by decide +kernel
theorem d_M_decide_244 : decode b_M_decide 244 = .ok (.iload 4, 2) := by decide +kernel
theorem d_M_decide_246 : decode b_M_decide 246 = .ok (.ifCond .eq 7, 3) := by decide +kernel
theorem d_M_decide_249 : decode b_M_decide 249 = .ok (.iconst 2, 1) := by decide +kernel
theorem d_M_decide_250 : decode b_M_decide 250 = .ok (.goto 4, 3) := by decide +kernel
theorem d_M_decide_253 : decode b_M_decide 253 = .ok (.iconst 4, 1) := by decide +kernel
theorem d_M_decide_254 : decode b_M_decide 254 = .ok (.invokevirtual 129, 3) := by decide +kernel
theorem d_M_decide_257 : decode b_M_decide 257 = .ok (.return_, 1) := by decide +kernel
theorem d_M_takeCopy_0 : decode b_M_takeCopy 0 = .ok (.aload_n 0, 1) := by decide +kernel
theorem d_M_takeCopy_1 : decode b_M_takeCopy 1 = .ok (.getfield 39, 3) := by decide +kernel
theorem d_M_takeCopy_4 : decode b_M_takeCopy 4 = .ok (.iload_n 1, 1) := by decide +kernel
theorem d_M_takeCopy_5 : decode b_M_takeCopy 5 = .ok (.iaload, 1) := by decide +kernel
theorem d_M_takeCopy_6 : decode b_M_takeCopy 6 = .ok (.bipush 7, 2) := by decide +kernel
theorem d_M_takeCopy_8 : decode b_M_takeCopy 8 = .ok (.if_icmp .lt 17, 3) := by decide +kernel
theorem d_M_takeCopy_11 : decode b_M_takeCopy 11 = .ok (.aload_n 0, 1) := by decide +kernel
theorem d_M_takeCopy_12 : decode b_M_takeCopy 12 = .ok (.getfield 42, 3) := by decide +kernel
theorem d_M_takeCopy_15 : decode b_M_takeCopy 15 = .ok (.iload_n 1, 1) := by decide +kernel
theorem d_M_takeCopy_16 : decode b_M_takeCopy 16 = .ok (.iaload, 1) := by decide +kernel
theorem d_M_takeCopy_17 : decode b_M_takeCopy 17 = .ok (.iload_n 2, 1) := by decide +kernel
theorem d_M_takeCopy_18 : decode b_M_takeCopy 18 = .ok (.ishr, 1) := by decide +kernel
theorem d_M_takeCopy_19 : decode b_M_takeCopy 19 = .ok (.iconst 1, 1) := by decide +kernel
theorem d_M_takeCopy_20 : decode b_M_takeCopy 20 = .ok (.iand, 1) := by decide +kernel
theorem d_M_takeCopy_21 : decode b_M_takeCopy 21 = .ok (.iconst 1, 1) := by decide +kernel
theorem d_M_takeCopy_22 : decode b_M_takeCopy 22 = .ok (.if_icmp .ne 4, 3) := by decide +kernel
theorem d_M_takeCopy_25 : decode b_M_takeCopy 25 = .ok (.return_, 1) := by decide +kernel
theorem d_M_takeCopy_26 : decode b_M_takeCopy 26 = .ok (.aload_n 0, 1) := by decide +kernel
theorem d_M_takeCopy_27 : decode b_M_takeCopy 27 = .ok (.getfield 42, 3) := by decide +kernel
theorem d_M_takeCopy_30 : decode b_M_takeCopy 30 = .ok (.iload_n 1, 1) := by decide +kernel
theorem d_M_takeCopy_31 : decode b_M_takeCopy 31 = .ok (.dup2, 1) := by decide +kernel
theorem d_M_takeCopy_32 : decode b_M_takeCopy 32 = .ok (.iaload, 1) := by decide +kernel
theorem d_M_takeCopy_33 : decode b_M_takeCopy 33 = .ok (.iconst 1, 1) := by decide +kernel
theorem d_M_takeCopy_34 : decode b_M_takeCopy 34 = .ok (.iload_n 2, 1) := by decide +kernel
theorem d_M_takeCopy_35 : decode b_M_takeCopy 35 = .ok (.ishl, 1) := by decide +kernel
theorem d_M_takeCopy_36 : decode b_M_takeCopy 36 = .ok (.ior, 1) := by decide +kernel
theorem d_M_takeCopy_37 : decode b_M_takeCopy 37 = .ok (.iastore, 1) := by decide +kernel
theorem d_M_takeCopy_38 : decode b_M_takeCopy 38 = .ok (.iconst 0, 1) := by decide +kernel
theorem d_M_takeCopy_39 : decode b_M_takeCopy 39 = .ok (.istore_n 3, 1) := by decide +kernel
theorem d_M_takeCopy_40 : decode b_M_takeCopy 40 = .ok (.iload_n 3, 1) := by decide +kernel
theorem d_M_takeCopy_41 : decode b_M_takeCopy 41 = .ok (.bipush 8, 2) := by decide +kernel
theorem d_M_takeCopy_43 : decode b_M_takeCopy 43 = .ok (.if_icmp .ge 35, 3) := by decide +kernel
theorem d_M_takeCopy_46 : decode b_M_takeCopy 46 = .ok (.aload_n 0, 1) := by decide +kernel
theorem d_M_takeCopy_47 : decode b_M_takeCopy 47 = .ok (.getfield 48, 3) := by decide +kernel
theorem d_M_takeCopy_50 : decode b_M_takeCopy 50 = .ok (.bipush 24, 2) := by decide +kernel
theorem d_M_takeCopy_52 : decode b_M_takeCopy 52 = .ok (.iload_n 1, 1) := by decide +kernel
theorem d_M_takeCopy_53 : decode b_M_takeCopy 53 = .ok (.imul, 1) := by decide +kernel
theorem d_M_takeCopy_54 : decode b_M_takeCopy 54 = .ok (.bipush 8, 2) := by decide +kernel
theorem d_M_takeCopy_56 : decode b_M_takeCopy 56 = .ok (.iload_n 2, 1) := by decide +kernel
theorem d_M_takeCopy_57 : decode b_M_takeCopy 57 = .ok (.imul, 1) := by decide +kernel
theorem d_M_takeCopy_58 : decode b_M_takeCopy 58 = .ok (.iadd, 1) := by decide +kernel
theorem d_M_takeCopy_59 : decode b_M_takeCopy 59 = .ok (.iload_n 3, 1) := by decide +kernel
theorem d_M_takeCopy_60 : decode b_M_takeCopy 60 = .ok (.iadd, 1) := by decide +kernel
theorem d_M_takeCopy_61 : decode b_M_takeCopy 61 = .ok (.aload_n 0, 1) := by decide +kernel
theorem d_M_takeCopy_62 : decode b_M_takeCopy 62 = .ok (.getfield 63, 3) := by decide +kernel
theorem d_M_takeCopy_65 : decode b_M_takeCopy 65 = .ok (.sipush 192, 3) := by decide +kernel
theorem d_M_takeCopy_68 : decode b_M_takeCopy 68 = .ok (.iload_n 3, 1) := by decide +kernel
theorem d_M_takeCopy_69 : decode b_M_takeCopy 69 = .ok (.iadd, 1) := by decide +kernel
theorem d_M_takeCopy_70 : decode b_M_takeCopy 70 = .ok (.iaload, 1) := by decide +kernel
theorem d_M_takeCopy_71 : decode b_M_takeCopy 71 = .ok (.iastore, 1) := by decide +kernel
theorem d_M_takeCopy_72 : decode b_M_takeCopy 72 = .ok (.iinc 3 1, 3) := by decide +kernel
theorem d_M_takeCopy_75 : decode b_M_takeCopy 75 = .ok (.goto (-35), 3) := by decide +kernel
theorem d_M_takeCopy_78 : decode b_M_takeCopy 78 = .ok (.aload_n 0, 1) := by decide +kernel
theorem d_M_takeCopy_79 : decode b_M_takeCopy 79 = .ok (.getfield 42, 3) := by decide +kernel
theorem d_M_takeCopy_82 : decode b_M_takeCopy 82 = .ok (.iload_n 1, 1) := by decide +kernel
theorem d_M_takeCopy_83 : decode b_M_takeCopy 83 = .ok (.iaload, 1) := by decide +kernel
theorem d_M_takeCopy_84 : decode b_M_takeCopy 84 = .ok (.bipush 7, 2) := by decide +kernel
theorem d_M_takeCopy_86 : decode b_M_takeCopy 86 = .ok (.if_icmp .ne 8, 3) := by decide +kernel
theorem d_M_takeCopy_89 : decode b_M_takeCopy 89 = .ok (.aload_n 0, 1) := by decide +kernel
theorem d_M_takeCopy_90 : decode b_M_takeCopy 90 = .ok (.iload_n 1, 1) := by decide +kernel
theorem d_M_takeCopy_91 : decode b_M_takeCopy 91 = .ok (.invokevirtual 146, 3) := by decide +kernel
theorem d_M_takeCopy_94 : decode b_M_takeCopy 94 = .ok (.return_, 1) := by decide +kernel
theorem d_M_answer_0 : decode b_M_answer 0 = .ok (.aload_n 0, 1) := by decide +kernel
theorem d_M_answer_1 : decode b_M_answer 1 = .ok (.iload_n 2, 1) := by decide +kernel
theorem d_M_answer_2 : decode b_M_answer 2 = .ok (.iconst 1, 1) := by decide +kernel
theorem d_M_answer_3 : decode b_M_answer 3 = .ok (.if_icmp .ne 7, 3) := by decide +kernel
theorem d_M_answer_6 : decode b_M_answer 6 = .ok (.iconst 2, 1) := by decide +kernel
theorem d_M_answer_7 : decode b_M_answer 7 = .ok (.goto 4, 3) := by decide +kernel
theorem d_M_answer_10 : decode b_M_answer 10 = .ok (.iconst 4, 1) := by decide +kernel
theorem d_M_answer_11 : decode b_M_answer 11 = .ok (.aload_n 0, 1) := by decide +kernel
theorem d_M_answer_12 : decode b_M_answer 12 = .ok (.getfield 23, 3) := by decide +kernel
theorem d_M_answer_15 : decode b_M_answer 15 = .ok (.iload_n 1, 1) := by decide +kernel
theorem d_M_answer_16 : decode b_M_answer 16 = .ok (.iaload, 1) := by decide +kernel
theorem d_M_answer_17 : decode b_M_answer 17 = .ok (.iload_n 3, 1) := by decide +kernel
theorem d_M_answer_18 : decode b_M_answer 18 = .ok (.invokevirtual 115, 3) := by decide +kernel
theorem d_M_answer_21 : decode b_M_answer 21 = .ok (.istore 4, 2) := by decide +kernel
theorem d_M_answer_23 : decode b_M_answer 23 = .ok (.aload_n 0, 1) := by decide +kernel
theorem d_M_answer_24 : decode b_M_answer 24 = .ok (.getfield 60, 3) := by decide +kernel
theorem d_M_answer_27 : decode b_M_answer 27 = .ok (.iload 4, 2) := by decide +kernel
theorem d_M_answer_29 : decode b_M_answer 29 = .ok (.aload_n 0, 1) := by decide +kernel
theorem d_M_answer_30 : decode b_M_answer 30 = .ok (.iload_n 3, 1) := by decide +kernel
theorem d_M_answer_31 : decode b_M_answer 31 = .ok (.aload_n 0, 1) := by decide +kernel
theorem d_M_answer_32 : decode b_M_answer 32 = .ok (.getfield 26, 3) := by decide +kernel
theorem d_M_answer_35 : decode b_M_answer 35 = .ok (.iload_n 1, 1) := by decide +kernel
theorem d_M_answer_36 : decode b_M_answer 36 = .ok (.iaload, 1) := by decide +kernel
theorem d_M_answer_37 : decode b_M_answer 37 = .ok (.aload_n 0, 1) := by decide +kernel
theorem d_M_answer_38 : decode b_M_answer 38 = .ok (.getfield 29, 3) := by decide +kernel
theorem d_M_answer_41 : decode b_M_answer 41 = .ok (.iload_n 1, 1) := by decide +kernel
theorem d_M_answer_42 : decode b_M_answer 42 = .ok (.iaload, 1) := by decide +kernel
theorem d_M_answer_43 : decode b_M_answer 43 = .ok (.aload_n 0, 1) := by decide +kernel
theorem d_M_answer_44 : decode b_M_answer 44 = .ok (.getfield 32, 3) := by decide +kernel
theorem d_M_answer_47 : decode b_M_answer 47 = .ok (.iload_n 1, 1) := by decide +kernel
theorem d_M_answer_48 : decode b_M_answer 48 = .ok (.laload, 1) := by decide +kernel
theorem d_M_answer_49 : decode b_M_answer 49 = .ok (.invokevirtual 149, 3) := by decide +kernel
theorem d_M_answer_52 : decode b_M_answer 52 = .ok (.lastore, 1) := by decide +kernel
theorem d_M_answer_53 : decode b_M_answer 53 = .ok (.aload_n 0, 1) := by decide +kernel
theorem d_M_answer_54 : decode b_M_answer 54 = .ok (.aload_n 0, 1) := by decide +kernel
theorem d_M_answer_55 : decode b_M_answer 55 = .ok (.getfield 26, 3) := by decide +kernel
theorem d_M_answer_58 : decode b_M_answer 58 = .ok (.iload_n 1, 1) := by decide +kernel
theorem d_M_answer_59 : decode b_M_answer 59 = .ok (.iaload, 1) := by decide +kernel
theorem d_M_answer_60 : decode b_M_answer 60 = .ok (.aload_n 0, 1) := by decide +kernel
theorem d_M_answer_61 : decode b_M_answer 61 = .ok (.getfield 29, 3) := by decide +kernel
theorem d_M_answer_64 : decode b_M_answer 64 = .ok (.iload_n 1, 1) := by decide +kernel
theorem d_M_answer_65 : decode b_M_answer 65 = .ok (.iaload, 1) := by decide +kernel
theorem d_M_answer_66 : decode b_M_answer 66 = .ok (.invokevirtual 90, 3) := by decide +kernel
theorem d_M_answer_69 : decode b_M_answer 69 = .ok (.istore 5, 2) := by decide +kernel
theorem d_M_answer_71 : decode b_M_answer 71 = .ok (.iconst 0, 1) := by decide +kernel
theorem d_M_answer_72 : decode b_M_answer 72 = .ok (.istore 6, 2) := by decide +kernel
theorem d_M_answer_74 : decode b_M_answer 74 = .ok (.iload 6, 2) := by decide +kernel
theorem d_M_answer_76 : decode b_M_answer 76 = .ok (.iconst 4, 1) := by decide +kernel
theorem d_M_answer_77 : decode b_M_answer 77 = .ok (.iload 5, 2) := by decide +kernel
theorem d_M_answer_79 : decode b_M_answer 79 = .ok (.imul, 1) := by decide +kernel
theorem d_M_answer_80 : decode b_M_answer 80 = .ok (.if_icmp .ge 35, 3) := by decide +kernel
theorem d_M_answer_83 : decode b_M_answer 83 = .ok (.aload_n 0, 1) := by decide +kernel
theorem d_M_answer_84 : decode b_M_answer 84 = .ok (.getfield 63, 3) := by decide +kernel
theorem d_M_answer_87 : decode b_M_answer 87 = .ok (.bipush 8, 2) := by decide +kernel
theorem d_M_answer_89 : decode b_M_answer 89 = .ok (.iload 4, 2) := by decide +kernel
theorem d_M_answer_91 : decode b_M_answer 91 = .ok (.imul, 1) := by decide +kernel
theorem d_M_answer_92 : decode b_M_answer 92 = .ok (.iload 6, 2) := by decide +kernel
theorem d_M_answer_94 : decode b_M_answer 94 = .ok (.iadd, 1) := by decide +kernel
theorem d_M_answer_95 : decode b_M_answer 95 = .ok (.aload_n 0, 1) := by decide +kernel
theorem d_M_answer_96 : decode b_M_answer 96 = .ok (.getfield 7, 3) := by decide +kernel
theorem d_M_answer_99 : decode b_M_answer 99 = .ok (.aload_n 0, 1) := by decide +kernel
theorem d_M_answer_100 : decode b_M_answer 100 = .ok (.iload_n 1, 1) := by decide +kernel
theorem d_M_answer_101 : decode b_M_answer 101 = .ok (.iload_n 3, 1) := by decide +kernel
theorem d_M_answer_102 : decode b_M_answer 102 = .ok (.iload 6, 2) := by decide +kernel
theorem d_M_answer_104 : decode b_M_answer 104 = .ok (.invokevirtual 132, 3) := by decide +kernel
theorem d_M_answer_107 : decode b_M_answer 107 = .ok (.iaload, 1) := by decide +kernel
theorem d_M_answer_108 : decode b_M_answer 108 = .ok (.iastore, 1) := by decide +kernel
theorem d_M_answer_109 : decode b_M_answer 109 = .ok (.iinc 6 1, 3) := by decide +kernel
theorem d_M_answer_112 : decode b_M_answer 112 = .ok (.goto (-38), 3) := by decide +kernel
theorem d_M_answer_115 : decode b_M_answer 115 = .ok (.return_, 1) := by decide +kernel
theorem d_M_step_0 : decode b_M_step 0 = .ok (.aload_n 0, 1) := by decide +kernel
theorem d_M_step_1 : decode b_M_step 1 = .ok (.getfield 98, 3) := by decide +kernel
theorem d_M_step_4 : decode b_M_step 4 = .ok (.ifCond .ne 5, 3) := by decide +kernel
theorem d_M_step_7 : decode b_M_step 7 = .ok (.iconst 0, 1) := by decide +kernel
theorem d_M_step_8 : decode b_M_step 8 = .ok (.ireturn, 1) := by decide +kernel
theorem d_M_step_9 : decode b_M_step 9 = .ok (.aload_n 0, 1) := by decide +kernel
theorem d_M_step_10 : decode b_M_step 10 = .ok (.getfield 51, 3) := by decide +kernel
theorem d_M_step_13 : decode b_M_step 13 = .ok (.iconst 0, 1) := by decide +kernel
theorem d_M_step_14 : decode b_M_step 14 = .ok (.iaload, 1) := by decide +kernel
theorem d_M_step_15 : decode b_M_step 15 = .ok (.istore_n 1, 1) := by decide +kernel
theorem d_M_step_16 : decode b_M_step 16 = .ok (.aload_n 0, 1) := by decide +kernel
theorem d_M_step_17 : decode b_M_step 17 = .ok (.getfield 57, 3) := by decide +kernel
theorem d_M_step_20 : decode b_M_step 20 = .ok (.iconst 0, 1) := by decide +kernel
theorem d_M_step_21 : decode b_M_step 21 = .ok (.iaload, 1) := by decide +kernel
theorem d_M_step_22 : decode b_M_step 22 = .ok (.istore_n 2, 1) := by decide +kernel
theorem d_M_step_23 : decode b_M_step 23 = .ok (.aload_n 0, 1) := by decide +kernel
theorem d_M_step_24 : decode b_M_step 24 = .ok (.aload_n 0, 1) := by decide +kernel
theorem d_M_step_25 : decode b_M_step 25 = .ok (.getfield 54, 3) := by decide +kernel
theorem d_M_step_28 : decode b_M_step 28 = .ok (.iconst 0, 1) := by decide +kernel
theorem d_M_step_29 : decode b_M_step 29 = .ok (.iaload, 1) := by decide +kernel
theorem d_M_step_30 : decode b_M_step 30 = .ok (.invokevirtual 119, 3) := by decide +kernel
theorem d_M_step_33 : decode b_M_step 33 = .ok (.istore_n 3, 1) := by decide +kernel
theorem d_M_step_34 : decode b_M_step 34 = .ok (.aload_n 0, 1) := by decide +kernel
theorem d_M_step_35 : decode b_M_step 35 = .ok (.iconst 0, 1) := by decide +kernel
theorem d_M_step_36 : decode b_M_step 36 = .ok (.invokevirtual 108, 3) := by decide +kernel
theorem d_M_step_39 : decode b_M_step 39 = .ok (.iload_n 3, 1) := by decide +kernel
theorem d_M_step_40 : decode b_M_step 40 = .ok (.ifCond .lt 54, 3) := by decide +kernel
theorem d_M_step_43 : decode b_M_step 43 = .ok (.iload_n 1, 1) := by decide +kernel
theorem d_M_step_44 : decode b_M_step 44 = .ok (.iconst 2, 1) := by decide +kernel
theorem d_M_step_45 : decode b_M_step 45 = .ok (.if_icmp .ne 19, 3) := by decide +kernel
theorem d_M_step_48 : decode b_M_step 48 = .ok (.aload_n 0, 1) := by decide +kernel
theorem d_M_step_49 : decode b_M_step 49 = .ok (.iload_n 3, 1) := by decide +kernel
theorem d_M_step_50 : decode b_M_step 50 = .ok (.iload_n 2, 1) := by decide +kernel
theorem d_M_step_51 : decode b_M_step 51 = .ok (.aload_n 0, 1) := by decide +kernel
theorem d_M_step_52 : decode b_M_step 52 = .ok (.getfield 60, 3) := by decide +kernel
theorem d_M_step_55 : decode b_M_step 55 = .ok (.bipush 24, 2) := by decide +kernel
theorem d_M_step_57 : decode b_M_step 57 = .ok (.laload, 1) := by decide +kernel
theorem d_M_step_58 : decode b_M_step 58 = .ok (.invokevirtual 153, 3) := by decide +kernel
theorem d_M_step_61 : decode b_M_step 61 = .ok (.goto 33, 3) := by decide +kernel
theorem d_M_step_64 : decode b_M_step 64 = .ok (.iload_n 1, 1) := by decide +kernel
theorem d_M_step_65 : decode b_M_step 65 = .ok (.iconst 4, 1) := by decide +kernel
theorem d_M_step_66 : decode b_M_step 66 = .ok (.if_icmp .ne 12, 3) := by decide +kernel
theorem d_M_step_69 : decode b_M_step 69 = .ok (.aload_n 0, 1) := by decide +kernel
theorem d_M_step_70 : decode b_M_step 70 = .ok (.iload_n 3, 1) := by decide +kernel
theorem d_M_step_71 : decode b_M_step 71 = .ok (.iload_n 2, 1) := by decide +kernel
theorem d_M_step_72 : decode b_M_step 72 = .ok (.invokevirtual 157, 3) := by decide +kernel
theorem d_M_step_75 : decode b_M_step 75 = .ok (.goto 19, 3) := by decide +kernel
theorem d_M_step_78 : decode b_M_step 78 = .ok (.aload_n 0, 1) := by decide +kernel
theorem d_M_step_79 : decode b_M_step 79 = .ok (.getfield 16, 3) := by decide +kernel
theorem d_M_step_82 : decode b_M_step 82 = .ok (.iload_n 2, 1) := by decide +kernel
theorem d_M_step_83 : decode b_M_step 83 = .ok (.baload, 1) := by decide +kernel
theorem d_M_step_84 : decode b_M_step 84 = .ok (.ifCond .eq 10, 3) := by decide +kernel
theorem d_M_step_87 : decode b_M_step 87 = .ok (.aload_n 0, 1) := by decide +kernel
theorem d_M_step_88 : decode b_M_step 88 = .ok (.iload_n 3, 1) := by decide +kernel
theorem d_M_step_89 : decode b_M_step 89 = .ok (.iload_n 1, 1) := by decide +kernel
theorem d_M_step_90 : decode b_M_step 90 = .ok (.iload_n 2, 1) := by decide +kernel
theorem d_M_step_91 : decode b_M_step 91 = .ok (.invokevirtual 160, 3) := by decide +kernel
theorem d_M_step_94 : decode b_M_step 94 = .ok (.iload_n 1, 1) := by decide +kernel
theorem d_M_step_95 : decode b_M_step 95 = .ok (.ireturn, 1) := by decide +kernel
theorem d_M_giveUp_0 : decode b_M_giveUp 0 = .ok (.aload_n 0, 1) := by decide +kernel
theorem d_M_giveUp_1 : decode b_M_giveUp 1 = .ok (.iload_n 1, 1) := by decide +kernel
theorem d_M_giveUp_2 : decode b_M_giveUp 2 = .ok (.invokevirtual 119, 3) := by decide +kernel
theorem d_M_giveUp_5 : decode b_M_giveUp 5 = .ok (.istore_n 2, 1) := by decide +kernel
theorem d_M_giveUp_6 : decode b_M_giveUp 6 = .ok (.iload_n 2, 1) := by decide +kernel
theorem d_M_giveUp_7 : decode b_M_giveUp 7 = .ok (.ifCond .ge 5, 3) := by decide +kernel
theorem d_M_giveUp_10 : decode b_M_giveUp 10 = .ok (.iconst 0, 1) := by decide +kernel
theorem d_M_giveUp_11 : decode b_M_giveUp 11 = .ok (.ireturn, 1) := by decide +kernel
theorem d_M_giveUp_12 : decode b_M_giveUp 12 = .ok (.aload_n 0, 1) := by decide +kernel
theorem d_M_giveUp_13 : decode b_M_giveUp 13 = .ok (.iload_n 2, 1) := by decide +kernel
theorem d_M_giveUp_14 : decode b_M_giveUp 14 = .ok (.iconst 4, 1) := by decide +kernel
theorem d_M_giveUp_15 : decode b_M_giveUp 15 = .ok (.invokevirtual 129, 3) := by decide +kernel
theorem d_M_giveUp_18 : decode b_M_giveUp 18 = .ok (.iconst 1, 1) := by decide +kernel
theorem d_M_giveUp_19 : decode b_M_giveUp 19 = .ok (.ireturn, 1) := by decide +kernel
theorem d_M_result_0 : decode b_M_result 0 = .ok (.iload_n 1, 1) := by decide +kernel
theorem d_M_result_1 : decode b_M_result 1 = .ok (.iconst 1, 1) := by decide +kernel
theorem d_M_result_2 : decode b_M_result 2 = .ok (.if_icmp .lt 11, 3) := by decide +kernel
theorem d_M_result_5 : decode b_M_result 5 = .ok (.iload_n 1, 1) := by decide +kernel
theorem d_M_result_6 : decode b_M_result 6 = .ok (.aload_n 0, 1) := by decide +kernel
theorem d_M_result_7 : decode b_M_result 7 = .ok (.getfield 112, 3) := by decide +kernel
theorem d_M_result_10 : decode b_M_result 10 = .ok (.if_icmp .le 7, 3) := by decide +kernel
theorem d_M_result_13 : decode b_M_result 13 = .ok (.iconst (-1), 1) := by decide +kernel
theorem d_M_result_14 : decode b_M_result 14 = .ok (.goto 9, 3) := by decide +kernel
theorem d_M_result_17 : decode b_M_result 17 = .ok (.aload_n 0, 1) := by decide +kernel
theorem d_M_result_18 : decode b_M_result 18 = .ok (.getfield 20, 3) := by decide +kernel
theorem d_M_result_21 : decode b_M_result 21 = .ok (.iload_n 1, 1) := by decide +kernel
theorem d_M_result_22 : decode b_M_result 22 = .ok (.iaload, 1) := by decide +kernel
theorem d_M_result_23 : decode b_M_result 23 = .ok (.ireturn, 1) := by decide +kernel
theorem d_M_close_0 : decode b_M_close 0 = .ok (.iload_n 1, 1) := by decide +kernel
theorem d_M_close_1 : decode b_M_close 1 = .ok (.invokestatic 76, 3) := by decide +kernel
theorem d_M_close_4 : decode b_M_close 4 = .ok (.ifCond .eq 12, 3) := by decide +kernel
theorem d_M_close_7 : decode b_M_close 7 = .ok (.aload_n 0, 1) := by decide +kernel
theorem d_M_close_8 : decode b_M_close 8 = .ok (.getfield 16, 3) := by decide +kernel
theorem d_M_close_11 : decode b_M_close 11 = .ok (.iload_n 1, 1) := by decide +kernel
theorem d_M_close_12 : decode b_M_close 12 = .ok (.baload, 1) := by decide +kernel
theorem d_M_close_13 : decode b_M_close 13 = .ok (.ifCond .ne 5, 3) := by decide +kernel
theorem d_M_close_16 : decode b_M_close 16 = .ok (.iconst 0, 1) := by decide +kernel
theorem d_M_close_17 : decode b_M_close 17 = .ok (.ireturn, 1) := by decide +kernel
theorem d_M_close_18 : decode b_M_close 18 = .ok (.aload_n 0, 1) := by decide +kernel
theorem d_M_close_19 : decode b_M_close 19 = .ok (.getfield 16, 3) := by decide +kernel
theorem d_M_close_22 : decode b_M_close 22 = .ok (.iload_n 1, 1) := by decide +kernel
theorem d_M_close_23 : decode b_M_close 23 = .ok (.iconst 0, 1) := by decide +kernel
theorem d_M_close_24 : decode b_M_close 24 = .ok (.bastore, 1) := by decide +kernel
theorem d_M_close_25 : decode b_M_close 25 = .ok (.iconst 1, 1) := by decide +kernel
theorem d_M_close_26 : decode b_M_close 26 = .ok (.ireturn, 1) := by decide +kernel
theorem d_M_open_0 : decode b_M_open 0 = .ok (.iload_n 1, 1) := by decide +kernel
theorem d_M_open_1 : decode b_M_open 1 = .ok (.invokestatic 76, 3) := by decide +kernel
theorem d_M_open_4 : decode b_M_open 4 = .ok (.ifCond .eq 12, 3) := by decide +kernel
theorem d_M_open_7 : decode b_M_open 7 = .ok (.aload_n 0, 1) := by decide +kernel
theorem d_M_open_8 : decode b_M_open 8 = .ok (.getfield 16, 3) := by decide +kernel
theorem d_M_open_11 : decode b_M_open 11 = .ok (.iload_n 1, 1) := by decide +kernel
theorem d_M_open_12 : decode b_M_open 12 = .ok (.baload, 1) := by decide +kernel
theorem d_M_open_13 : decode b_M_open 13 = .ok (.ifCond .eq 5, 3) := by decide +kernel
theorem d_M_open_16 : decode b_M_open 16 = .ok (.iconst 0, 1) := by decide +kernel
theorem d_M_open_17 : decode b_M_open 17 = .ok (.ireturn, 1) := by decide +kernel
theorem d_M_open_18 : decode b_M_open 18 = .ok (.aload_n 0, 1) := by decide +kernel
theorem d_M_open_19 : decode b_M_open 19 = .ok (.getfield 16, 3) := by decide +kernel
theorem d_M_open_22 : decode b_M_open 22 = .ok (.iload_n 1, 1) := by decide +kernel
theorem d_M_open_23 : decode b_M_open 23 = .ok (.iconst 1, 1) := by decide +kernel
theorem d_M_open_24 : decode b_M_open 24 = .ok (.bastore, 1) := by decide +kernel
theorem d_M_open_25 : decode b_M_open 25 = .ok (.iconst 1, 1) := by decide +kernel
theorem d_M_open_26 : decode b_M_open 26 = .ok (.ireturn, 1) := by decide +kernel
theorem d_M_round_0 : decode b_M_round 0 = .ok (.aload_n 0, 1) := by decide +kernel
theorem d_M_round_1 : decode b_M_round 1 = .ok (.getfield 66, 3) := by decide +kernel
theorem d_M_round_4 : decode b_M_round 4 = .ok (.ireturn, 1) := by decide +kernel
theorem d_M_done_0 : decode b_M_done 0 = .ok (.aload_n 0, 1) := by decide +kernel
theorem d_M_done_1 : decode b_M_done 1 = .ok (.iconst 1, 1) := by decide +kernel
theorem d_M_done_2 : decode b_M_done 2 = .ok (.invokevirtual 125, 3) := by decide +kernel
theorem d_M_done_5 : decode b_M_done 5 = .ok (.ireturn, 1) := by decide +kernel
theorem d_M_parts_0 : decode b_M_parts 0 = .ok (.aload_n 0, 1) := by decide +kernel
theorem d_M_parts_1 : decode b_M_parts 1 = .ok (.iconst 0, 1) := by decide +kernel
theorem d_M_parts_2 : decode b_M_parts 2 = .ok (.invokevirtual 125, 3) := by decide +kernel
theorem d_M_parts_5 : decode b_M_parts 5 = .ok (.ireturn, 1) := by decide +kernel
theorem d_M_mends_0 : decode b_M_mends 0 = .ok (.iload_n 1, 1) := by decide +kernel
theorem d_M_mends_1 : decode b_M_mends 1 = .ok (.invokestatic 76, 3) := by decide +kernel
theorem d_M_mends_4 : decode b_M_mends 4 = .ok (.ifCond .eq 12, 3) := by decide +kernel
theorem d_M_mends_7 : decode b_M_mends 7 = .ok (.aload_n 0, 1) := by decide +kernel
theorem d_M_mends_8 : decode b_M_mends 8 = .ok (.getfield 73, 3) := by decide +kernel
theorem d_M_mends_11 : decode b_M_mends 11 = .ok (.iload_n 1, 1) := by decide +kernel
theorem d_M_mends_12 : decode b_M_mends 12 = .ok (.iaload, 1) := by decide +kernel
theorem d_M_mends_13 : decode b_M_mends 13 = .ok (.goto 4, 3) := by decide +kernel
theorem d_M_mends_16 : decode b_M_mends 16 = .ok (.iconst (-1), 1) := by decide +kernel
theorem d_M_mends_17 : decode b_M_mends 17 = .ok (.ireturn, 1) := by decide +kernel
theorem d_M_disputes_0 : decode b_M_disputes 0 = .ok (.aload_n 0, 1) := by decide +kernel
theorem d_M_disputes_1 : decode b_M_disputes 1 = .ok (.getfield 122, 3) := by decide +kernel
theorem d_M_disputes_4 : decode b_M_disputes 4 = .ok (.ireturn, 1) := by decide +kernel

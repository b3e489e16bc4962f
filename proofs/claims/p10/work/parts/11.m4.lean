theorem dX12_arrive_0 : decode cX12_arrive 0 = .ok (.aload_n 0, 1) := by decide +kernel
theorem dX12_arrive_1 : decode cX12_arrive 1 = .ok (.getfield 135, 3) := by decide +kernel
theorem dX12_arrive_4 : decode cX12_arrive 4 = .ok (.iload_n 1, 1) := by decide +kernel
theorem dX12_arrive_5 : decode cX12_arrive 5 = .ok (.iaload, 1) := by decide +kernel
theorem dX12_arrive_6 : decode cX12_arrive 6 = .ok (.iconst 1, 1) := by decide +kernel
theorem dX12_arrive_7 : decode cX12_arrive 7 = .ok (.if_icmp .ne 11, 3) := by decide +kernel
theorem dX12_arrive_10 : decode cX12_arrive 10 = .ok (.aload_n 0, 1) := by decide +kernel
theorem dX12_arrive_11 : decode cX12_arrive 11 = .ok (.getfield 135, 3) := by decide +kernel
theorem dX12_arrive_14 : decode cX12_arrive 14 = .ok (.iload_n 1, 1) := by decide +kernel
theorem dX12_arrive_15 : decode cX12_arrive 15 = .ok (.iconst 2, 1) := by decide +kernel
theorem dX12_arrive_16 : decode cX12_arrive 16 = .ok (.iastore, 1) := by decide +kernel
theorem dX12_arrive_17 : decode cX12_arrive 17 = .ok (.return_, 1) := by decide +kernel
theorem dX12_arrive_18 : decode cX12_arrive 18 = .ok (.aload_n 0, 1) := by decide +kernel
theorem dX12_arrive_19 : decode cX12_arrive 19 = .ok (.getfield 135, 3) := by decide +kernel
theorem dX12_arrive_22 : decode cX12_arrive 22 = .ok (.iload_n 1, 1) := by decide +kernel
theorem dX12_arrive_23 : decode cX12_arrive 23 = .ok (.iconst 5, 1) := by decide +kernel
theorem dX12_arrive_24 : decode cX12_arrive 24 = .ok (.iastore, 1) := by decide +kernel
theorem dX12_arrive_25 : decode cX12_arrive 25 = .ok (.aload_n 0, 1) := by decide +kernel
theorem dX12_arrive_26 : decode cX12_arrive 26 = .ok (.getfield 147, 3) := by decide +kernel
theorem dX12_arrive_29 : decode cX12_arrive 29 = .ok (.iload_n 1, 1) := by decide +kernel
theorem dX12_arrive_30 : decode cX12_arrive 30 = .ok (.aload_n 0, 1) := by decide +kernel
theorem dX12_arrive_31 : decode cX12_arrive 31 = .ok (.getfield 443, 3) := by decide +kernel
theorem dX12_arrive_34 : decode cX12_arrive 34 = .ok (.iastore, 1) := by decide +kernel
theorem dX12_arrive_35 : decode cX12_arrive 35 = .ok (.return_, 1) := by decide +kernel
theorem dX12_choose_0 : decode cX12_choose 0 = .ok (.aload_n 0, 1) := by decide +kernel
theorem dX12_choose_1 : decode cX12_choose 1 = .ok (.iload_n 1, 1) := by decide +kernel
theorem dX12_choose_2 : decode cX12_choose 2 = .ok (.invokevirtual 449, 3) := by decide +kernel
theorem dX12_choose_5 : decode cX12_choose 5 = .ok (.ldc 225, 2) := by decide +kernel
theorem dX12_choose_7 : decode cX12_choose 7 = .ok (.istore_n 3, 1) := by decide +kernel
theorem dX12_choose_8 : decode cX12_choose 8 = .ok (.iconst (-1), 1) := by decide +kernel
theorem dX12_choose_9 : decode cX12_choose 9 = .ok (.istore 4, 2) := by decide +kernel
theorem dX12_choose_11 : decode cX12_choose 11 = .ok (.aload_n 0, 1) := by decide +kernel
theorem dX12_choose_12 : decode cX12_choose 12 = .ok (.aload_n 0, 1) := by decide +kernel
theorem dX12_choose_13 : decode cX12_choose 13 = .ok (.getfield 138, 3) := by decide +kernel
theorem dX12_choose_16 : decode cX12_choose 16 = .ok (.iload_n 1, 1) := by decide +kernel
theorem dX12_choose_17 : decode cX12_choose 17 = .ok (.iaload, 1) := by decide +kernel
theorem dX12_choose_18 : decode cX12_choose 18 = .ok (.aload_n 0, 1) := by decide +kernel
theorem dX12_choose_19 : decode cX12_choose 19 = .ok (.getfield 22, 3) := by decide +kernel
theorem dX12_choose_22 : decode cX12_choose 22 = .ok (.iload_n 1, 1) := by decide +kernel
theorem dX12_choose_23 : decode cX12_choose 23 = .ok (.iaload, 1) := by decide +kernel
theorem dX12_choose_24 : decode cX12_choose 24 = .ok (.invokevirtual 236, 3) := by decide +kernel
theorem dX12_choose_27 : decode cX12_choose 27 = .ok (.ldc 225, 2) := by decide +kernel
theorem dX12_choose_29 : decode cX12_choose 29 = .ok (.if_icmp .ge 26, 3) := by decide +kernel
theorem dX12_choose_32 : decode cX12_choose 32 = .ok (.aload_n 0, 1) := by decide +kernel
theorem dX12_choose_33 : decode cX12_choose 33 = .ok (.getfield 443, 3) := by decide +kernel
theorem dX12_choose_36 : decode cX12_choose 36 = .ok (.aload_n 0, 1) := by decide +kernel
theorem dX12_choose_37 : decode cX12_choose 37 = .ok (.iload_n 1, 1) := by decide +kernel
theorem dX12_choose_38 : decode cX12_choose 38 = .ok (.aload_n 0, 1) := by decide +kernel
theorem dX12_choose_39 : decode cX12_choose 39 = .ok (.getfield 138, 3) := by decide +kernel
theorem dX12_choose_42 : decode cX12_choose 42 = .ok (.iload_n 1, 1) := by decide +kernel
theorem dX12_choose_43 : decode cX12_choose 43 = .ok (.iaload, 1) := by decide +kernel
theorem dX12_choose_44 : decode cX12_choose 44 = .ok (.aload_n 0, 1) := by decide +kernel
theorem dX12_choose_45 : decode cX12_choose 45 = .ok (.getfield 22, 3) := by decide +kernel
theorem dX12_choose_48 : decode cX12_choose 48 = .ok (.iload_n 1, 1) := by decide +kernel
theorem dX12_choose_49 : decode cX12_choose 49 = .ok (.iaload, 1) := by decide +kernel
theorem dX12_choose_50 : decode cX12_choose 50 = .ok (.invokevirtual 439, 3) := by decide +kernel
theorem dX12_choose_53 : decode cX12_choose 53 = .ok (.iadd, 1) := by decide +kernel
theorem dX12_choose_54 : decode cX12_choose 54 = .ok (.istore_n 3, 1) := by decide +kernel
theorem dX12_choose_55 : decode cX12_choose 55 = .ok (.iconst 0, 1) := by decide +kernel
theorem dX12_choose_56 : decode cX12_choose 56 = .ok (.istore 5, 2) := by decide +kernel
theorem dX12_choose_58 : decode cX12_choose 58 = .ok (.iload 5, 2) := by decide +kernel
theorem dX12_choose_60 : decode cX12_choose 60 = .ok (.aload_n 0, 1) := by decide +kernel
theorem dX12_choose_61 : decode cX12_choose 61 = .ok (.getfield 269, 3) := by decide +kernel
theorem dX12_choose_64 : decode cX12_choose 64 = .ok (.if_icmp .ge 124, 3) := by decide +kernel
theorem dX12_choose_67 : decode cX12_choose 67 = .ok (.aload_n 0, 1) := by decide +kernel
theorem dX12_choose_68 : decode cX12_choose 68 = .ok (.iload_n 1, 1) := by decide +kernel
theorem dX12_choose_69 : decode cX12_choose 69 = .ok (.iload 5, 2) := by decide +kernel
theorem dX12_choose_71 : decode cX12_choose 71 = .ok (.invokevirtual 432, 3) := by decide +kernel
theorem dX12_choose_74 : decode cX12_choose 74 = .ok (.ifCond .eq 108, 3) := by decide +kernel
theorem dX12_choose_77 : decode cX12_choose 77 = .ok (.aload_n 0, 1) := by decide +kernel
theorem dX12_choose_78 : decode cX12_choose 78 = .ok (.getfield 76, 3) := by decide +kernel
theorem dX12_choose_81 : decode cX12_choose 81 = .ok (.iload 5, 2) := by decide +kernel
theorem dX12_choose_83 : decode cX12_choose 83 = .ok (.iaload, 1) := by decide +kernel
theorem dX12_choose_84 : decode cX12_choose 84 = .ok (.iload_n 2, 1) := by decide +kernel
theorem dX12_choose_85 : decode cX12_choose 85 = .ok (.if_icmp .lt 97, 3) := by decide +kernel
theorem dX12_choose_88 : decode cX12_choose 88 = .ok (.aload_n 0, 1) := by decide +kernel
theorem dX12_choose_89 : decode cX12_choose 89 = .ok (.aload_n 0, 1) := by decide +kernel
theorem dX12_choose_90 : decode cX12_choose 90 = .ok (.getfield 138, 3) := by decide +kernel
theorem dX12_choose_93 : decode cX12_choose 93 = .ok (.iload_n 1, 1) := by decide +kernel
theorem dX12_choose_94 : decode cX12_choose 94 = .ok (.iaload, 1) := by decide +kernel
theorem dX12_choose_95 : decode cX12_choose 95 = .ok (.aload_n 0, 1) := by decide +kernel
theorem dX12_choose_96 : decode cX12_choose 96 = .ok (.getfield 49, 3) := by decide +kernel
theorem dX12_choose_99 : decode cX12_choose 99 = .ok (.aload_n 0, 1) := by decide +kernel
theorem dX12_choose_100 : decode cX12_choose 100 = .ok (.getfield 70, 3) := by decide +kernel
theorem dX12_choose_103 : decode cX12_choose 103 = .ok (.iload 5, 2) := by decide +kernel
theorem dX12_choose_105 : decode cX12_choose 105 = .ok (.iaload, 1) := by decide +kernel
theorem dX12_choose_106 : decode cX12_choose 106 = .ok (.iaload, 1) := by decide +kernel
theorem dX12_choose_107 : decode cX12_choose 107 = .ok (.invokevirtual 236, 3) := by decide +kernel
theorem dX12_choose_110 : decode cX12_choose 110 = .ok (.ldc 225, 2) := by decide +kernel
theorem dX12_choose_112 : decode cX12_choose 112 = .ok (.if_icmp .lt 6, 3) := by decide +kernel
theorem dX12_choose_115 : decode cX12_choose 115 = .ok (.goto 67, 3) := by decide +kernel
theorem dX12_choose_118 : decode cX12_choose 118 = .ok (.aload_n 0, 1) := by decide +kernel
theorem dX12_choose_119 : decode cX12_choose 119 = .ok (.getfield 443, 3) := by decide +kernel
theorem dX12_choose_122 : decode cX12_choose 122 = .ok (.aload_n 0, 1) := by decide +kernel
theorem dX12_choose_123 : decode cX12_choose 123 = .ok (.iload_n 1, 1) := by decide +kernel
theorem dX12_choose_124 : decode cX12_choose 124 = .ok (.aload_n 0, 1) := by decide +kernel
theorem dX12_choose_125 : decode cX12_choose 125 = .ok (.getfield 138, 3) := by decide +kernel
theorem dX12_choose_128 : decode cX12_choose 128 = .ok (.iload_n 1, 1) := by decide +kernel
theorem dX12_choose_129 : decode cX12_choose 129 = .ok (.iaload, 1) := by decide +kernel
theorem dX12_choose_130 : decode cX12_choose 130 = .ok (.aload_n 0, 1) := by decide +kernel
theorem dX12_choose_131 : decode cX12_choose 131 = .ok (.getfield 49, 3) := by decide +kernel
theorem dX12_choose_134 : decode cX12_choose 134 = .ok (.aload_n 0, 1) := by decide +kernel
theorem dX12_choose_135 : decode cX12_choose 135 = .ok (.getfield 70, 3) := by decide +kernel
theorem dX12_choose_138 : decode cX12_choose 138 = .ok (.iload 5, 2) := by decide +kernel
theorem dX12_choose_140 : decode cX12_choose 140 = .ok (.iaload, 1) := by decide +kernel
theorem dX12_choose_141 : decode cX12_choose 141 = .ok (.iaload, 1) := by decide +kernel
theorem dX12_choose_142 : decode cX12_choose 142 = .ok (.invokevirtual 439, 3) := by decide +kernel
theorem dX12_choose_145 : decode cX12_choose 145 = .ok (.iadd, 1) := by decide +kernel
theorem dX12_choose_146 : decode cX12_choose 146 = .ok (.aload_n 0, 1) := by decide +kernel
theorem dX12_choose_147 : decode cX12_choose 147 = .ok (.getfield 76, 3) := by decide +kernel
theorem dX12_choose_150 : decode cX12_choose 150 = .ok (.iload 5, 2) := by decide +kernel
theorem dX12_choose_152 : decode cX12_choose 152 = .ok (.iaload, 1) := by decide +kernel
theorem dX12_choose_153 : decode cX12_choose 153 = .ok (.if_icmp .gt 29, 3) := by decide +kernel
theorem dX12_choose_156 : decode cX12_choose 156 = .ok (.aload_n 0, 1) := by decide +kernel
theorem dX12_choose_157 : decode cX12_choose 157 = .ok (.getfield 177, 3) := by decide +kernel
theorem dX12_choose_160 : decode cX12_choose 160 = .ok (.iload 5, 2) := by decide +kernel
theorem dX12_choose_162 : decode cX12_choose 162 = .ok (.iaload, 1) := by decide +kernel
theorem dX12_choose_163 : decode cX12_choose 163 = .ok (.iload_n 3, 1) := by decide +kernel
theorem dX12_choose_164 : decode cX12_choose 164 = .ok (.if_icmp .lt 6, 3) := by decide +kernel
theorem dX12_choose_167 : decode cX12_choose 167 = .ok (.goto 15, 3) := by decide +kernel
theorem dX12_choose_170 : decode cX12_choose 170 = .ok (.aload_n 0, 1) := by decide +kernel
theorem dX12_choose_171 : decode cX12_choose 171 = .ok (.getfield 177, 3) := by decide +kernel
theorem dX12_choose_174 : decode cX12_choose 174 = .ok (.iload 5, 2) := by decide +kernel
theorem dX12_choose_176 : decode cX12_choose 176 = .ok (.iaload, 1) := by decide +kernel
theorem dX12_choose_177 : decode cX12_choose 177 = .ok (.istore_n 3, 1) := by decide +kernel
theorem dX12_choose_178 : decode cX12_choose 178 = .ok (.iload 5, 2) := by decide +kernel
theorem dX12_choose_180 : decode cX12_choose 180 = .ok (.istore 4, 2) := by decide +kernel
theorem dX12_choose_182 : decode cX12_choose 182 = .ok (.iinc 5 1, 3) := by decide +kernel
theorem dX12_choose_185 : decode cX12_choose 185 = .ok (.goto (-127), 3) := by decide +kernel
theorem dX12_choose_188 : decode cX12_choose 188 = .ok (.iload 4, 2) := by decide +kernel
theorem dX12_choose_190 : decode cX12_choose 190 = .ok (.iconst (-1), 1) := by decide +kernel
theorem dX12_choose_191 : decode cX12_choose 191 = .ok (.if_icmp .eq 26, 3) := by decide +kernel
theorem dX12_choose_194 : decode cX12_choose 194 = .ok (.aload_n 0, 1) := by decide +kernel
theorem dX12_choose_195 : decode cX12_choose 195 = .ok (.iload_n 1, 1) := by decide +kernel
theorem dX12_choose_196 : decode cX12_choose 196 = .ok (.aload_n 0, 1) := by decide +kernel
theorem dX12_choose_197 : decode cX12_choose 197 = .ok (.getfield 49, 3) := by decide +kernel
theorem dX12_choose_200 : decode cX12_choose 200 = .ok (.aload_n 0, 1) := by decide +kernel
theorem dX12_choose_201 : decode cX12_choose 201 = .ok (.getfield 70, 3) := by decide +kernel
theorem dX12_choose_204 : decode cX12_choose 204 = .ok (.iload 4, 2) := by decide +kernel
theorem dX12_choose_206 : decode cX12_choose 206 = .ok (.iaload, 1) := by decide +kernel
theorem dX12_choose_207 : decode cX12_choose 207 = .ok (.iaload, 1) := by decide +kernel
theorem dX12_choose_208 : decode cX12_choose 208 = .ok (.iconst 1, 1) := by decide +kernel
theorem dX12_choose_209 : decode cX12_choose 209 = .ok (.iload 4, 2) := by decide +kernel
theorem dX12_choose_211 : decode cX12_choose 211 = .ok (.invokevirtual 452, 3) := by decide +kernel
theorem dX12_choose_214 : decode cX12_choose 214 = .ok (.goto 33, 3) := by decide +kernel
theorem dX12_choose_217 : decode cX12_choose 217 = .ok (.iload_n 3, 1) := by decide +kernel
theorem dX12_choose_218 : decode cX12_choose 218 = .ok (.ldc 225, 2) := by decide +kernel
theorem dX12_choose_220 : decode cX12_choose 220 = .ok (.if_icmp .ge 19, 3) := by decide +kernel
theorem dX12_choose_223 : decode cX12_choose 223 = .ok (.aload_n 0, 1) := by decide +kernel
theorem dX12_choose_224 : decode cX12_choose 224 = .ok (.iload_n 1, 1) := by decide +kernel
theorem dX12_choose_225 : decode cX12_choose 225 = .ok (.aload_n 0, 1) := by decide +kernel
theorem dX12_choose_226 : decode cX12_choose 226 = .ok (.getfield 22, 3) := by decide +kernel
theorem dX12_choose_229 : decode cX12_choose 229 = .ok (.iload_n 1, 1) := by decide +kernel
theorem dX12_choose_230 : decode cX12_choose 230 = .ok (.iaload, 1) := by decide +kernel
theorem dX12_choose_231 : decode cX12_choose 231 = .ok (.iconst 4, 1) := by decide +kernel
theorem dX12_choose_232 : decode cX12_choose 232 = .ok (.iconst (-1), 1) := by decide +kernel
theorem dX12_choose_233 : decode cX12_choose 233 = .ok (.invokevirtual 452, 3) := by decide +kernel
theorem dX12_choose_236 : decode cX12_choose 236 = .ok (.goto 11, 3) := by decide +kernel
theorem dX12_choose_239 : decode cX12_choose 239 = .ok (.aload_n 0, 1) := by decide +kernel
theorem dX12_choose_240 : decode cX12_choose 240 = .ok (.getfield 135, 3) := by decide +kernel
theorem dX12_choose_243 : decode cX12_choose 243 = .ok (.iload_n 1, 1) := by decide +kernel
theorem dX12_choose_244 : decode cX12_choose 244 = .ok (.bipush 6, 2) := by decide +kernel
theorem dX12_choose_246 : decode cX12_choose 246 = .ok (.iastore, 1) := by decide +kernel
theorem dX12_choose_247 : decode cX12_choose 247 = .ok (.return_, 1) := by decide +kernel
theorem dX12_holds_0 : decode cX12_holds 0 = .ok (.iconst 0, 1) := by decide +kernel
theorem dX12_holds_1 : decode cX12_holds 1 = .ok (.istore 4, 2) := by decide +kernel
theorem dX12_holds_3 : decode cX12_holds 3 = .ok (.iload_n 2, 1) := by decide +kernel
theorem dX12_holds_4 : decode cX12_holds 4 = .ok (.istore 5, 2) := by decide +kernel
theorem dX12_holds_6 : decode cX12_holds 6 = .ok (.iload 5, 2) := by decide +kernel
theorem dX12_holds_8 : decode cX12_holds 8 = .ok (.iload_n 3, 1) := by decide +kernel
theorem dX12_holds_9 : decode cX12_holds 9 = .ok (.if_icmp .ge 275, 3) := by decide +kernel
theorem dX12_holds_12 : decode cX12_holds 12 = .ok (.bipush 120, 2) := by decide +kernel
theorem dX12_holds_14 : decode cX12_holds 14 = .ok (.iload_n 1, 1) := by decide +kernel
theorem dX12_holds_15 : decode cX12_holds 15 = .ok (.imul, 1) := by decide +kernel
theorem dX12_holds_16 : decode cX12_holds 16 = .ok (.iload 5, 2) := by decide +kernel
theorem dX12_holds_18 : decode cX12_holds 18 = .ok (.iadd, 1) := by decide +kernel
theorem dX12_holds_19 : decode cX12_holds 19 = .ok (.istore 6, 2) := by decide +kernel
theorem dX12_holds_21 : decode cX12_holds 21 = .ok (.aload_n 0, 1) := by decide +kernel
theorem dX12_holds_22 : decode cX12_holds 22 = .ok (.getfield 109, 3) := by decide +kernel
theorem dX12_holds_25 : decode cX12_holds 25 = .ok (.iload 6, 2) := by decide +kernel
theorem dX12_holds_27 : decode cX12_holds 27 = .ok (.iaload, 1) := by decide +kernel
theorem dX12_holds_28 : decode cX12_holds 28 = .ok (.istore 7, 2) := by decide +kernel
theorem dX12_holds_30 : decode cX12_holds 30 = .ok (.iload 7, 2) := by decide +kernel
theorem dX12_holds_32 : decode cX12_holds 32 = .ok (.bipush 12, 2) := by decide +kernel
theorem dX12_holds_34 : decode cX12_holds 34 = .ok (.if_icmp .ne 32, 3) := by decide +kernel
theorem dX12_holds_37 : decode cX12_holds 37 = .ok (.aload_n 0, 1) := by decide +kernel
theorem dX12_holds_38 : decode cX12_holds 38 = .ok (.getfield 124, 3) := by decide +kernel
theorem dX12_holds_41 : decode cX12_holds 41 = .ok (.iload 4, 2) := by decide +kernel
theorem dX12_holds_43 : decode cX12_holds 43 = .ok (.iconst 1, 1) := by decide +kernel
theorem dX12_holds_44 : decode cX12_holds 44 = .ok (.isub, 1) := by decide +kernel
theorem dX12_holds_45 : decode cX12_holds 45 = .ok (.aload_n 0, 1) := by decide +kernel
theorem dX12_holds_46 : decode cX12_holds 46 = .ok (.getfield 124, 3) := by decide +kernel
theorem dX12_holds_49 : decode cX12_holds 49 = .ok (.iload 4, 2) := by decide +kernel
theorem dX12_holds_51 : decode cX12_holds 51 = .ok (.iconst 1, 1) := by decide +kernel
theorem dX12_holds_52 : decode cX12_holds 52 = .ok (.isub, 1) := by decide +kernel
theorem dX12_holds_53 : decode cX12_holds 53 = .ok (.baload, 1) := by decide +kernel
theorem dX12_holds_54 : decode cX12_holds 54 = .ok (.ifCond .ne 7, 3) := by decide +kernel
theorem dX12_holds_57 : decode cX12_holds 57 = .ok (.iconst 1, 1) := by decide +kernel
theorem dX12_holds_58 : decode cX12_holds 58 = .ok (.goto 4, 3) := by decide +kernel
theorem dX12_holds_61 : decode cX12_holds 61 = .ok (.iconst 0, 1) := by decide +kernel
theorem dX12_holds_62 : decode cX12_holds 62 = .ok (.bastore, 1) := by decide +kernel
theorem dX12_holds_63 : decode cX12_holds 63 = .ok (.goto 215, 3) := by decide +kernel
theorem dX12_holds_66 : decode cX12_holds 66 = .ok (.iload 7, 2) := by decide +kernel
theorem dX12_holds_68 : decode cX12_holds 68 = .ok (.bipush 13, 2) := by decide +kernel
theorem dX12_holds_70 : decode cX12_holds 70 = .ok (.if_icmp .eq 10, 3) := by decide +kernel
theorem dX12_holds_73 : decode cX12_holds 73 = .ok (.iload 7, 2) := by decide +kernel
theorem dX12_holds_75 : decode cX12_holds 75 = .ok (.bipush 14, 2) := by decide +kernel
theorem dX12_holds_77 : decode cX12_holds 77 = .ok (.if_icmp .ne 82, 3) := by decide +kernel
theorem dX12_holds_80 : decode cX12_holds 80 = .ok (.iinc 4 (-1), 3) := by decide +kernel
theorem dX12_holds_83 : decode cX12_holds 83 = .ok (.aload_n 0, 1) := by decide +kernel
theorem dX12_holds_84 : decode cX12_holds 84 = .ok (.getfield 124, 3) := by decide +kernel
theorem dX12_holds_87 : decode cX12_holds 87 = .ok (.iload 4, 2) := by decide +kernel
theorem dX12_holds_89 : decode cX12_holds 89 = .ok (.iconst 1, 1) := by decide +kernel
theorem dX12_holds_90 : decode cX12_holds 90 = .ok (.isub, 1) := by decide +kernel
theorem dX12_holds_91 : decode cX12_holds 91 = .ok (.iload 7, 2) := by decide +kernel
theorem dX12_holds_93 : decode cX12_holds 93 = .ok (.bipush 13, 2) := by decide +kernel
theorem dX12_holds_95 : decode cX12_holds 95 = .ok (.if_icmp .ne 33, 3) := by decide +kernel
theorem dX12_holds_98 : decode cX12_holds 98 = .ok (.aload_n 0, 1) := by decide +kernel
theorem dX12_holds_99 : decode cX12_holds 99 = .ok (.getfield 124, 3) := by decide +kernel
theorem dX12_holds_102 : decode cX12_holds 102 = .ok (.iload 4, 2) := by decide +kernel
theorem dX12_holds_104 : decode cX12_holds 104 = .ok (.iconst 1, 1) := by decide +kernel
theorem dX12_holds_105 : decode cX12_holds 105 = .ok (.isub, 1) := by decide +kernel
theorem dX12_holds_106 : decode cX12_holds 106 = .ok (.baload, 1) := by decide +kernel
theorem dX12_holds_107 : decode cX12_holds 107 = .ok (.ifCond .eq 17, 3) := by decide +kernel
theorem dX12_holds_110 : decode cX12_holds 110 = .ok (.aload_n 0, 1) := by decide +kernel
theorem dX12_holds_111 : decode cX12_holds 111 = .ok (.getfield 124, 3) := by decide +kernel
theorem dX12_holds_114 : decode cX12_holds 114 = .ok (.iload 4, 2) := by decide +kernel
theorem dX12_holds_116 : decode cX12_holds 116 = .ok (.baload, 1) := by decide +kernel
theorem dX12_holds_117 : decode cX12_holds 117 = .ok (.ifCond .eq 7, 3) := by decide +kernel
theorem dX12_holds_120 : decode cX12_holds 120 = .ok (.iconst 1, 1) := by decide +kernel
theorem dX12_holds_121 : decode cX12_holds 121 = .ok (.goto 34, 3) := by decide +kernel
theorem dX12_holds_124 : decode cX12_holds 124 = .ok (.iconst 0, 1) := by decide +kernel
theorem dX12_holds_125 : decode cX12_holds 125 = .ok (.goto 30, 3) := by decide +kernel
theorem dX12_holds_128 : decode cX12_holds 128 = .ok (.aload_n 0, 1) := by decide +kernel
theorem dX12_holds_129 : decode cX12_holds 129 = .ok (.getfield 124, 3) := by decide +kernel
theorem dX12_holds_132 : decode cX12_holds 132 = .ok (.iload 4, 2) := by decide +kernel
theorem dX12_holds_134 : decode cX12_holds 134 = .ok (.iconst 1, 1) := by decide +kernel
theorem dX12_holds_135 : decode cX12_holds 135 = .ok (.isub, 1) := by decide +kernel
theorem dX12_holds_136 : decode cX12_holds 136 = .ok (.baload, 1) := by decide +kernel
theorem dX12_holds_137 : decode cX12_holds 137 = .ok (.ifCond .ne 13, 3) := by decide +kernel
theorem dX12_holds_140 : decode cX12_holds 140 = .ok (.aload_n 0, 1) := by decide +kernel
theorem dX12_holds_141 : decode cX12_holds 141 = .ok (.getfield 124, 3) := by decide +kernel
theorem dX12_holds_144 : decode cX12_holds 144 = .ok (.iload 4, 2) := by decide +kernel
theorem dX12_holds_146 : decode cX12_holds 146 = .ok (.baload, 1) := by decide +kernel
theorem dX12_holds_147 : decode cX12_holds 147 = .ok (.ifCond .eq 7, 3) := by decide +kernel
theorem dX12_holds_150 : decode cX12_holds 150 = .ok (.iconst 1, 1) := by decide +kernel
theorem dX12_holds_151 : decode cX12_holds 151 = .ok (.goto 4, 3) := by decide +kernel
theorem dX12_holds_154 : decode cX12_holds 154 = .ok (.iconst 0, 1) := by decide +kernel
theorem dX12_holds_155 : decode cX12_holds 155 = .ok (.bastore, 1) := by decide +kernel
theorem dX12_holds_156 : decode cX12_holds 156 = .ok (.goto 122, 3) := by decide +kernel
theorem dX12_holds_159 : decode cX12_holds 159 = .ok (.aload_n 0, 1) := by decide +kernel
theorem dX12_holds_160 : decode cX12_holds 160 = .ok (.getfield 121, 3) := by decide +kernel
theorem dX12_holds_163 : decode cX12_holds 163 = .ok (.iload 7, 2) := by decide +kernel
theorem dX12_holds_165 : decode cX12_holds 165 = .ok (.iaload, 1) := by decide +kernel
theorem dX12_holds_166 : decode cX12_holds 166 = .ok (.istore 8, 2) := by decide +kernel
theorem dX12_holds_168 : decode cX12_holds 168 = .ok (.aload_n 0, 1) := by decide +kernel
theorem dX12_holds_169 : decode cX12_holds 169 = .ok (.getfield 112, 3) := by decide +kernel
theorem dX12_holds_172 : decode cX12_holds 172 = .ok (.iload 6, 2) := by decide +kernel
theorem dX12_holds_174 : decode cX12_holds 174 = .ok (.iaload, 1) := by decide +kernel
theorem dX12_holds_175 : decode cX12_holds 175 = .ok (.istore 9, 2) := by decide +kernel
theorem dX12_holds_177 : decode cX12_holds 177 = .ok (.aload_n 0, 1) := by decide +kernel
theorem dX12_holds_178 : decode cX12_holds 178 = .ok (.getfield 124, 3) := by decide +kernel
theorem dX12_holds_181 : decode cX12_holds 181 = .ok (.iload 4, 2) := by decide +kernel
theorem dX12_holds_183 : decode cX12_holds 183 = .ok (.iload 7, 2) := by decide +kernel
theorem dX12_holds_185 : decode cX12_holds 185 = .ok (.iconst 4, 1) := by decide +kernel
theorem dX12_holds_186 : decode cX12_holds 186 = .ok (.if_icmp .ge 17, 3) := by decide +kernel
theorem dX12_holds_189 : decode cX12_holds 189 = .ok (.iload 8, 2) := by decide +kernel
theorem dX12_holds_191 : decode cX12_holds 191 = .ok (.iconst 1, 1) := by decide +kernel
theorem dX12_holds_192 : decode cX12_holds 192 = .ok (.if_icmp .ne 7, 3) := by decide +kernel
theorem dX12_holds_195 : decode cX12_holds 195 = .ok (.iconst 1, 1) := by decide +kernel
theorem dX12_holds_196 : decode cX12_holds 196 = .ok (.goto 78, 3) := by decide +kernel
theorem dX12_holds_199 : decode cX12_holds 199 = .ok (.iconst 0, 1) := by decide +kernel
theorem dX12_holds_200 : decode cX12_holds 200 = .ok (.goto 74, 3) := by decide +kernel
theorem dX12_holds_203 : decode cX12_holds 203 = .ok (.iload 9, 2) := by decide +kernel
theorem dX12_holds_205 : decode cX12_holds 205 = .ok (.bipush 60, 2) := by decide +kernel
theorem dX12_holds_207 : decode cX12_holds 207 = .ok (.if_icmp .ne 23, 3) := by decide +kernel
theorem dX12_holds_210 : decode cX12_holds 210 = .ok (.iload 8, 2) := by decide +kernel
theorem dX12_holds_212 : decode cX12_holds 212 = .ok (.aload_n 0, 1) := by decide +kernel
theorem dX12_holds_213 : decode cX12_holds 213 = .ok (.getfield 115, 3) := by decide +kernel
theorem dX12_holds_216 : decode cX12_holds 216 = .ok (.iload 6, 2) := by decide +kernel
theorem dX12_holds_218 : decode cX12_holds 218 = .ok (.iaload, 1) := by decide +kernel
theorem dX12_holds_219 : decode cX12_holds 219 = .ok (.if_icmp .ge 7, 3) := by decide +kernel
theorem dX12_holds_222 : decode cX12_holds 222 = .ok (.iconst 1, 1) := by decide +kernel
theorem dX12_holds_223 : decode cX12_holds 223 = .ok (.goto 51, 3) := by decide +kernel
theorem dX12_holds_226 : decode cX12_holds 226 = .ok (.iconst 0, 1) := by decide +kernel
theorem dX12_holds_227 : decode cX12_holds 227 = .ok (.goto 47, 3) := by decide +kernel
theorem dX12_holds_230 : decode cX12_holds 230 = .ok (.iload 9, 2) := by decide +kernel
theorem dX12_holds_232 : decode cX12_holds 232 = .ok (.bipush 61, 2) := by decide +kernel
theorem dX12_holds_234 : decode cX12_holds 234 = .ok (.if_icmp .ne 23, 3) := by decide +kernel
theorem dX12_holds_237 : decode cX12_holds 237 = .ok (.iload 8, 2) := by decide +kernel
theorem dX12_holds_239 : decode cX12_holds 239 = .ok (.aload_n 0, 1) := by decide +kernel
theorem dX12_holds_240 : decode cX12_holds 240 = .ok (.getfield 115, 3) := by decide +kernel
theorem dX12_holds_243 : decode cX12_holds 243 = .ok (.iload 6, 2) := by decide +kernel
theorem dX12_holds_245 : decode cX12_holds 245 = .ok (.iaload, 1) := by decide +kernel
theorem dX12_holds_246 : decode cX12_holds 246 = .ok (.if_icmp .ne 7, 3) := by decide +kernel
theorem dX12_holds_249 : decode cX12_holds 249 = .ok (.iconst 1, 1) := by decide +kernel
theorem dX12_holds_250 : decode cX12_holds 250 = .ok (.goto 24, 3) := by decide +kernel
theorem dX12_holds_253 : decode cX12_holds 253 = .ok (.iconst 0, 1) := by decide +kernel
theorem dX12_holds_254 : decode cX12_holds 254 = .ok (.goto 20, 3) := by decide +kernel
theorem dX12_holds_257 : decode cX12_holds 257 = .ok (.iload 8, 2) := by decide +kernel
theorem dX12_holds_259 : decode cX12_holds 259 = .ok (.aload_n 0, 1) := by decide +kernel
theorem dX12_holds_260 : decode cX12_holds 260 = .ok (.getfield 115, 3) := by decide +kernel
theorem dX12_holds_263 : decode cX12_holds 263 = .ok (.iload 6, 2) := by decide +kernel
theorem dX12_holds_265 : decode cX12_holds 265 = .ok (.iaload, 1) := by decide +kernel
theorem dX12_holds_266 : decode cX12_holds 266 = .ok (.if_icmp .le 7, 3) := by decide +kernel
theorem dX12_holds_269 : decode cX12_holds 269 = .ok (.iconst 1, 1) := by decide +kernel
theorem dX12_holds_270 : decode cX12_holds 270 = .ok (.goto 4, 3) := by decide +kernel
theorem dX12_holds_273 : decode cX12_holds 273 = .ok (.iconst 0, 1) := by decide +kernel
theorem dX12_holds_274 : decode cX12_holds 274 = .ok (.bastore, 1) := by decide +kernel
theorem dX12_holds_275 : decode cX12_holds 275 = .ok (.iinc 4 1, 3) := by decide +kernel
theorem dX12_holds_278 : decode cX12_holds 278 = .ok (.iinc 5 1, 3) := by decide +kernel
theorem dX12_holds_281 : decode cX12_holds 281 = .ok (.goto (-275), 3) := by decide +kernel
theorem dX12_holds_284 : decode cX12_holds 284 = .ok (.iload 4, 2) := by decide +kernel
theorem dX12_holds_286 : decode cX12_holds 286 = .ok (.ifCond .eq 12, 3) := by decide +kernel
theorem dX12_holds_289 : decode cX12_holds 289 = .ok (.aload_n 0, 1) := by decide +kernel
theorem dX12_holds_290 : decode cX12_holds 290 = .ok (.getfield 124, 3) := by decide +kernel
theorem dX12_holds_293 : decode cX12_holds 293 = .ok (.iconst 0, 1) := by decide +kernel
theorem dX12_holds_294 : decode cX12_holds 294 = .ok (.baload, 1) := by decide +kernel
theorem dX12_holds_295 : decode cX12_holds 295 = .ok (.ifCond .eq 7, 3) := by decide +kernel
theorem dX12_holds_298 : decode cX12_holds 298 = .ok (.iconst 1, 1) := by decide +kernel
theorem dX12_holds_299 : decode cX12_holds 299 = .ok (.goto 4, 3) := by decide +kernel
theorem dX12_holds_302 : decode cX12_holds 302 = .ok (.iconst 0, 1) := by decide +kernel
theorem dX12_holds_303 : decode cX12_holds 303 = .ok (.ireturn, 1) := by decide +kernel
theorem dX12_setOut_0 : decode cX12_setOut 0 = .ok (.aload_n 0, 1) := by decide +kernel
theorem dX12_setOut_1 : decode cX12_setOut 1 = .ok (.aload_n 0, 1) := by decide +kernel
theorem dX12_setOut_2 : decode cX12_setOut 2 = .ok (.getfield 138, 3) := by decide +kernel
theorem dX12_setOut_5 : decode cX12_setOut 5 = .ok (.iload_n 1, 1) := by decide +kernel
theorem dX12_setOut_6 : decode cX12_setOut 6 = .ok (.iaload, 1) := by decide +kernel
theorem dX12_setOut_7 : decode cX12_setOut 7 = .ok (.iload_n 2, 1) := by decide +kernel
theorem dX12_setOut_8 : decode cX12_setOut 8 = .ok (.invokevirtual 236, 3) := by decide +kernel
theorem dX12_setOut_11 : decode cX12_setOut 11 = .ok (.istore 5, 2) := by decide +kernel
theorem dX12_setOut_13 : decode cX12_setOut 13 = .ok (.aload_n 0, 1) := by decide +kernel
theorem dX12_setOut_14 : decode cX12_setOut 14 = .ok (.iload_n 1, 1) := by decide +kernel
theorem dX12_setOut_15 : decode cX12_setOut 15 = .ok (.aload_n 0, 1) := by decide +kernel
theorem dX12_setOut_16 : decode cX12_setOut 16 = .ok (.getfield 138, 3) := by decide +kernel
theorem dX12_setOut_19 : decode cX12_setOut 19 = .ok (.iload_n 1, 1) := by decide +kernel
theorem dX12_setOut_20 : decode cX12_setOut 20 = .ok (.iaload, 1) := by decide +kernel
theorem dX12_setOut_21 : decode cX12_setOut 21 = .ok (.iload_n 2, 1) := by decide +kernel
theorem dX12_setOut_22 : decode cX12_setOut 22 = .ok (.invokevirtual 439, 3) := by decide +kernel
theorem dX12_setOut_25 : decode cX12_setOut 25 = .ok (.istore 6, 2) := by decide +kernel
theorem dX12_setOut_27 : decode cX12_setOut 27 = .ok (.aload_n 0, 1) := by decide +kernel
theorem dX12_setOut_28 : decode cX12_setOut 28 = .ok (.getfield 153, 3) := by decide +kernel
theorem dX12_setOut_31 : decode cX12_setOut 31 = .ok (.iload_n 1, 1) := by decide +kernel
theorem dX12_setOut_32 : decode cX12_setOut 32 = .ok (.dup2, 1) := by decide +kernel
theorem dX12_setOut_33 : decode cX12_setOut 33 = .ok (.iaload, 1) := by decide +kernel
theorem dX12_setOut_34 : decode cX12_setOut 34 = .ok (.iload 5, 2) := by decide +kernel
theorem dX12_setOut_36 : decode cX12_setOut 36 = .ok (.iadd, 1) := by decide +kernel
theorem dX12_setOut_37 : decode cX12_setOut 37 = .ok (.iastore, 1) := by decide +kernel
theorem dX12_setOut_38 : decode cX12_setOut 38 = .ok (.aload_n 0, 1) := by decide +kernel
theorem dX12_setOut_39 : decode cX12_setOut 39 = .ok (.getfield 46, 3) := by decide +kernel
theorem dX12_setOut_42 : decode cX12_setOut 42 = .ok (.iload_n 1, 1) := by decide +kernel
theorem dX12_setOut_43 : decode cX12_setOut 43 = .ok (.iaload, 1) := by decide +kernel
theorem dX12_setOut_44 : decode cX12_setOut 44 = .ok (.sipush 300, 3) := by decide +kernel
theorem dX12_setOut_47 : decode cX12_setOut 47 = .ok (.idiv, 1) := by decide +kernel
theorem dX12_setOut_48 : decode cX12_setOut 48 = .ok (.istore 7, 2) := by decide +kernel
theorem dX12_setOut_50 : decode cX12_setOut 50 = .ok (.aload_n 0, 1) := by decide +kernel
theorem dX12_setOut_51 : decode cX12_setOut 51 = .ok (.getfield 46, 3) := by decide +kernel
theorem dX12_setOut_54 : decode cX12_setOut 54 = .ok (.iload_n 1, 1) := by decide +kernel
theorem dX12_setOut_55 : decode cX12_setOut 55 = .ok (.dup2, 1) := by decide +kernel
theorem dX12_setOut_56 : decode cX12_setOut 56 = .ok (.iaload, 1) := by decide +kernel
theorem dX12_setOut_57 : decode cX12_setOut 57 = .ok (.iload 5, 2) := by decide +kernel
theorem dX12_setOut_59 : decode cX12_setOut 59 = .ok (.iadd, 1) := by decide +kernel
theorem dX12_setOut_60 : decode cX12_setOut 60 = .ok (.iastore, 1) := by decide +kernel
theorem dX12_setOut_61 : decode cX12_setOut 61 = .ok (.aload_n 0, 1) := by decide +kernel
theorem dX12_setOut_62 : decode cX12_setOut 62 = .ok (.getfield 37, 3) := by decide +kernel
theorem dX12_setOut_65 : decode cX12_setOut 65 = .ok (.iload_n 1, 1) := by decide +kernel
theorem dX12_setOut_66 : decode cX12_setOut 66 = .ok (.dup2, 1) := by decide +kernel
theorem dX12_setOut_67 : decode cX12_setOut 67 = .ok (.iaload, 1) := by decide +kernel
theorem dX12_setOut_68 : decode cX12_setOut 68 = .ok (.aload_n 0, 1) := by decide +kernel
theorem dX12_setOut_69 : decode cX12_setOut 69 = .ok (.getfield 46, 3) := by decide +kernel
theorem dX12_setOut_72 : decode cX12_setOut 72 = .ok (.iload_n 1, 1) := by decide +kernel
theorem dX12_setOut_73 : decode cX12_setOut 73 = .ok (.iaload, 1) := by decide +kernel
theorem dX12_setOut_74 : decode cX12_setOut 74 = .ok (.sipush 300, 3) := by decide +kernel
theorem dX12_setOut_77 : decode cX12_setOut 77 = .ok (.idiv, 1) := by decide +kernel
theorem dX12_setOut_78 : decode cX12_setOut 78 = .ok (.iload 7, 2) := by decide +kernel
theorem dX12_setOut_80 : decode cX12_setOut 80 = .ok (.isub, 1) := by decide +kernel
theorem dX12_setOut_81 : decode cX12_setOut 81 = .ok (.isub, 1) := by decide +kernel
theorem dX12_setOut_82 : decode cX12_setOut 82 = .ok (.iastore, 1) := by decide +kernel
theorem dX12_setOut_83 : decode cX12_setOut 83 = .ok (.aload_n 0, 1) := by decide +kernel
theorem dX12_setOut_84 : decode cX12_setOut 84 = .ok (.getfield 37, 3) := by decide +kernel
theorem dX12_setOut_87 : decode cX12_setOut 87 = .ok (.iload_n 1, 1) := by decide +kernel
theorem dX12_setOut_88 : decode cX12_setOut 88 = .ok (.iaload, 1) := by decide +kernel
theorem dX12_setOut_89 : decode cX12_setOut 89 = .ok (.ifCond .ge 10, 3) := by decide +kernel
theorem dX12_setOut_92 : decode cX12_setOut 92 = .ok (.aload_n 0, 1) := by decide +kernel
theorem dX12_setOut_93 : decode cX12_setOut 93 = .ok (.getfield 37, 3) := by decide +kernel
theorem dX12_setOut_96 : decode cX12_setOut 96 = .ok (.iload_n 1, 1) := by decide +kernel
theorem dX12_setOut_97 : decode cX12_setOut 97 = .ok (.iconst 0, 1) := by decide +kernel
theorem dX12_setOut_98 : decode cX12_setOut 98 = .ok (.iastore, 1) := by decide +kernel
theorem dX12_setOut_99 : decode cX12_setOut 99 = .ok (.aload_n 0, 1) := by decide +kernel
theorem dX12_setOut_100 : decode cX12_setOut 100 = .ok (.getfield 138, 3) := by decide +kernel
theorem dX12_setOut_103 : decode cX12_setOut 103 = .ok (.iload_n 1, 1) := by decide +kernel
theorem dX12_setOut_104 : decode cX12_setOut 104 = .ok (.iload_n 2, 1) := by decide +kernel
theorem dX12_setOut_105 : decode cX12_setOut 105 = .ok (.iastore, 1) := by decide +kernel
theorem dX12_setOut_106 : decode cX12_setOut 106 = .ok (.aload_n 0, 1) := by decide +kernel
theorem dX12_setOut_107 : decode cX12_setOut 107 = .ok (.getfield 144, 3) := by decide +kernel
theorem dX12_setOut_110 : decode cX12_setOut 110 = .ok (.iload_n 1, 1) := by decide +kernel
theorem dX12_setOut_111 : decode cX12_setOut 111 = .ok (.iload 4, 2) := by decide +kernel
theorem dX12_setOut_113 : decode cX12_setOut 113 = .ok (.iastore, 1) := by decide +kernel
theorem dX12_setOut_114 : decode cX12_setOut 114 = .ok (.aload_n 0, 1) := by decide +kernel
theorem dX12_setOut_115 : decode cX12_setOut 115 = .ok (.getfield 135, 3) := by decide +kernel
theorem dX12_setOut_118 : decode cX12_setOut 118 = .ok (.iload_n 1, 1) := by decide +kernel
theorem dX12_setOut_119 : decode cX12_setOut 119 = .ok (.iload_n 3, 1) := by decide +kernel
theorem dX12_setOut_120 : decode cX12_setOut 120 = .ok (.iastore, 1) := by decide +kernel
theorem dX12_setOut_121 : decode cX12_setOut 121 = .ok (.aload_n 0, 1) := by decide +kernel
theorem dX12_setOut_122 : decode cX12_setOut 122 = .ok (.getfield 141, 3) := by decide +kernel
theorem dX12_setOut_125 : decode cX12_setOut 125 = .ok (.iload_n 1, 1) := by decide +kernel
theorem dX12_setOut_126 : decode cX12_setOut 126 = .ok (.aload_n 0, 1) := by decide +kernel
theorem dX12_setOut_127 : decode cX12_setOut 127 = .ok (.getfield 443, 3) := by decide +kernel
theorem dX12_setOut_130 : decode cX12_setOut 130 = .ok (.iload 6, 2) := by decide +kernel
theorem dX12_setOut_132 : decode cX12_setOut 132 = .ok (.iadd, 1) := by decide +kernel
theorem dX12_setOut_133 : decode cX12_setOut 133 = .ok (.iastore, 1) := by decide +kernel
theorem dX12_setOut_134 : decode cX12_setOut 134 = .ok (.iload 6, 2) := by decide +kernel
theorem dX12_setOut_136 : decode cX12_setOut 136 = .ok (.ifCond .ne 8, 3) := by decide +kernel
theorem dX12_setOut_139 : decode cX12_setOut 139 = .ok (.aload_n 0, 1) := by decide +kernel
theorem dX12_setOut_140 : decode cX12_setOut 140 = .ok (.iload_n 1, 1) := by decide +kernel
theorem dX12_setOut_141 : decode cX12_setOut 141 = .ok (.invokevirtual 446, 3) := by decide +kernel
theorem dX12_setOut_144 : decode cX12_setOut 144 = .ok (.return_, 1) := by decide +kernel
theorem dX12_tells_0 : decode cX12_tells 0 = .ok (.aload_n 0, 1) := by decide +kernel
theorem dX12_tells_1 : decode cX12_tells 1 = .ok (.iconst (-1), 1) := by decide +kernel
theorem dX12_tells_2 : decode cX12_tells 2 = .ok (.putfield 128, 3) := by decide +kernel
theorem dX12_tells_5 : decode cX12_tells 5 = .ok (.aload_n 0, 1) := by decide +kernel
theorem dX12_tells_6 : decode cX12_tells 6 = .ok (.getfield 52, 3) := by decide +kernel
theorem dX12_tells_9 : decode cX12_tells 9 = .ok (.aload_n 0, 1) := by decide +kernel
theorem dX12_tells_10 : decode cX12_tells 10 = .ok (.getfield 67, 3) := by decide +kernel
theorem dX12_tells_13 : decode cX12_tells 13 = .ok (.iload_n 1, 1) := by decide +kernel
theorem dX12_tells_14 : decode cX12_tells 14 = .ok (.iaload, 1) := by decide +kernel
theorem dX12_tells_15 : decode cX12_tells 15 = .ok (.iaload, 1) := by decide +kernel
theorem dX12_tells_16 : decode cX12_tells 16 = .ok (.iconst 2, 1) := by decide +kernel
theorem dX12_tells_17 : decode cX12_tells 17 = .ok (.if_icmp .ne 7, 3) := by decide +kernel
theorem dX12_tells_20 : decode cX12_tells 20 = .ok (.iconst 1, 1) := by decide +kernel
theorem dX12_tells_21 : decode cX12_tells 21 = .ok (.goto 4, 3) := by decide +kernel
theorem dX12_tells_24 : decode cX12_tells 24 = .ok (.iconst 0, 1) := by decide +kernel
theorem dX12_tells_25 : decode cX12_tells 25 = .ok (.istore 5, 2) := by decide +kernel
theorem dX12_tells_27 : decode cX12_tells 27 = .ok (.iload_n 2, 1) := by decide +kernel
theorem dX12_tells_28 : decode cX12_tells 28 = .ok (.iconst 5, 1) := by decide +kernel
theorem dX12_tells_29 : decode cX12_tells 29 = .ok (.if_icmp .ne 10, 3) := by decide +kernel
theorem dX12_tells_32 : decode cX12_tells 32 = .ok (.iload 5, 2) := by decide +kernel
theorem dX12_tells_34 : decode cX12_tells 34 = .ok (.ifCond .eq 5, 3) := by decide +kernel
theorem dX12_tells_37 : decode cX12_tells 37 = .ok (.iconst 0, 1) := by decide +kernel
theorem dX12_tells_38 : decode cX12_tells 38 = .ok (.ireturn, 1) := by decide +kernel
theorem dX12_tells_39 : decode cX12_tells 39 = .ok (.aload_n 0, 1) := by decide +kernel
theorem dX12_tells_40 : decode cX12_tells 40 = .ok (.iload_n 1, 1) := by decide +kernel
theorem dX12_tells_41 : decode cX12_tells 41 = .ok (.iload_n 2, 1) := by decide +kernel
theorem dX12_tells_42 : decode cX12_tells 42 = .ok (.ifCond .eq 13, 3) := by decide +kernel
theorem dX12_tells_45 : decode cX12_tells 45 = .ok (.iload_n 2, 1) := by decide +kernel
theorem dX12_tells_46 : decode cX12_tells 46 = .ok (.iconst 2, 1) := by decide +kernel
theorem dX12_tells_47 : decode cX12_tells 47 = .ok (.if_icmp .eq 8, 3) := by decide +kernel
theorem dX12_tells_50 : decode cX12_tells 50 = .ok (.iload_n 2, 1) := by decide +kernel
theorem dX12_tells_51 : decode cX12_tells 51 = .ok (.iconst 5, 1) := by decide +kernel
theorem dX12_tells_52 : decode cX12_tells 52 = .ok (.if_icmp .ne 7, 3) := by decide +kernel
theorem dX12_tells_55 : decode cX12_tells 55 = .ok (.iconst 0, 1) := by decide +kernel
theorem dX12_tells_56 : decode cX12_tells 56 = .ok (.goto 4, 3) := by decide +kernel
theorem dX12_tells_59 : decode cX12_tells 59 = .ok (.iload_n 3, 1) := by decide +kernel
theorem dX12_tells_60 : decode cX12_tells 60 = .ok (.iload 4, 2) := by decide +kernel
theorem dX12_tells_62 : decode cX12_tells 62 = .ok (.invokevirtual 400, 3) := by decide +kernel
theorem dX12_tells_65 : decode cX12_tells 65 = .ok (.aload_n 0, 1) := by decide +kernel
theorem dX12_tells_66 : decode cX12_tells 66 = .ok (.invokevirtual 403, 3) := by decide +kernel
theorem dX12_tells_69 : decode cX12_tells 69 = .ok (.istore 6, 2) := by decide +kernel
theorem dX12_tells_71 : decode cX12_tells 71 = .ok (.iconst 0, 1) := by decide +kernel
theorem dX12_tells_72 : decode cX12_tells 72 = .ok (.istore 7, 2) := by decide +kernel
theorem dX12_tells_74 : decode cX12_tells 74 = .ok (.iload 6, 2) := by decide +kernel
theorem dX12_tells_76 : decode cX12_tells 76 = .ok (.iconst (-1), 1) := by decide +kernel
theorem dX12_tells_77 : decode cX12_tells 77 = .ok (.if_icmp .eq 82, 3) := by decide +kernel
theorem dX12_tells_80 : decode cX12_tells 80 = .ok (.iload 7, 2) := by decide +kernel
theorem dX12_tells_82 : decode cX12_tells 82 = .ok (.aload_n 0, 1) := by decide +kernel
theorem dX12_tells_83 : decode cX12_tells 83 = .ok (.getfield 88, 3) := by decide +kernel
theorem dX12_tells_86 : decode cX12_tells 86 = .ok (.iload 6, 2) := by decide +kernel
theorem dX12_tells_88 : decode cX12_tells 88 = .ok (.iaload, 1) := by decide +kernel
theorem dX12_tells_89 : decode cX12_tells 89 = .ok (.if_icmp .ge 70, 3) := by decide +kernel
theorem dX12_tells_92 : decode cX12_tells 92 = .ok (.bipush 16, 2) := by decide +kernel
theorem dX12_tells_94 : decode cX12_tells 94 = .ok (.iload 6, 2) := by decide +kernel
theorem dX12_tells_96 : decode cX12_tells 96 = .ok (.imul, 1) := by decide +kernel
theorem dX12_tells_97 : decode cX12_tells 97 = .ok (.iload 7, 2) := by decide +kernel
theorem dX12_tells_99 : decode cX12_tells 99 = .ok (.iadd, 1) := by decide +kernel
theorem dX12_tells_100 : decode cX12_tells 100 = .ok (.istore 8, 2) := by decide +kernel
theorem dX12_tells_102 : decode cX12_tells 102 = .ok (.aload_n 0, 1) := by decide +kernel
theorem dX12_tells_103 : decode cX12_tells 103 = .ok (.getfield 97, 3) := by decide +kernel
theorem dX12_tells_106 : decode cX12_tells 106 = .ok (.iload 8, 2) := by decide +kernel
theorem dX12_tells_108 : decode cX12_tells 108 = .ok (.iaload, 1) := by decide +kernel
theorem dX12_tells_109 : decode cX12_tells 109 = .ok (.iload_n 2, 1) := by decide +kernel
theorem dX12_tells_110 : decode cX12_tells 110 = .ok (.if_icmp .ne 43, 3) := by decide +kernel
theorem dX12_tells_113 : decode cX12_tells 113 = .ok (.aload_n 0, 1) := by decide +kernel
theorem dX12_tells_114 : decode cX12_tells 114 = .ok (.iload 6, 2) := by decide +kernel
theorem dX12_tells_116 : decode cX12_tells 116 = .ok (.aload_n 0, 1) := by decide +kernel
theorem dX12_tells_117 : decode cX12_tells 117 = .ok (.getfield 103, 3) := by decide +kernel
theorem dX12_tells_120 : decode cX12_tells 120 = .ok (.iload 8, 2) := by decide +kernel
theorem dX12_tells_122 : decode cX12_tells 122 = .ok (.iaload, 1) := by decide +kernel
theorem dX12_tells_123 : decode cX12_tells 123 = .ok (.aload_n 0, 1) := by decide +kernel
theorem dX12_tells_124 : decode cX12_tells 124 = .ok (.getfield 106, 3) := by decide +kernel
theorem dX12_tells_127 : decode cX12_tells 127 = .ok (.iload 8, 2) := by decide +kernel
theorem dX12_tells_129 : decode cX12_tells 129 = .ok (.iaload, 1) := by decide +kernel
theorem dX12_tells_130 : decode cX12_tells 130 = .ok (.invokevirtual 406, 3) := by decide +kernel
theorem dX12_tells_133 : decode cX12_tells 133 = .ok (.ifCond .ne 6, 3) := by decide +kernel
theorem dX12_tells_136 : decode cX12_tells 136 = .ok (.goto 17, 3) := by decide +kernel
theorem dX12_tells_139 : decode cX12_tells 139 = .ok (.aload_n 0, 1) := by decide +kernel
theorem dX12_tells_140 : decode cX12_tells 140 = .ok (.iload 7, 2) := by decide +kernel
theorem dX12_tells_142 : decode cX12_tells 142 = .ok (.putfield 128, 3) := by decide +kernel
theorem dX12_tells_145 : decode cX12_tells 145 = .ok (.aload_n 0, 1) := by decide +kernel
theorem dX12_tells_146 : decode cX12_tells 146 = .ok (.getfield 100, 3) := by decide +kernel
theorem dX12_tells_149 : decode cX12_tells 149 = .ok (.iload 8, 2) := by decide +kernel
theorem dX12_tells_151 : decode cX12_tells 151 = .ok (.iaload, 1) := by decide +kernel
theorem dX12_tells_152 : decode cX12_tells 152 = .ok (.ireturn, 1) := by decide +kernel
theorem dX12_tells_153 : decode cX12_tells 153 = .ok (.iinc 7 1, 3) := by decide +kernel
theorem dX12_tells_156 : decode cX12_tells 156 = .ok (.goto (-82), 3) := by decide +kernel
theorem dX12_tells_159 : decode cX12_tells 159 = .ok (.iload_n 2, 1) := by decide +kernel
theorem dX12_tells_160 : decode cX12_tells 160 = .ok (.iload 5, 2) := by decide +kernel
theorem dX12_tells_162 : decode cX12_tells 162 = .ok (.invokestatic 409, 3) := by decide +kernel
theorem dX12_tells_165 : decode cX12_tells 165 = .ok (.ireturn, 1) := by decide +kernel
theorem dX12_told_0 : decode cX12_told 0 = .ok (.aload_n 0, 1) := by decide +kernel
theorem dX12_told_1 : decode cX12_told 1 = .ok (.iconst 0, 1) := by decide +kernel
theorem dX12_told_2 : decode cX12_told 2 = .ok (.putfield 204, 3) := by decide +kernel
theorem dX12_told_5 : decode cX12_told 5 = .ok (.iload_n 1, 1) := by decide +kernel
theorem dX12_told_6 : decode cX12_told 6 = .ok (.iconst 0, 1) := by decide +kernel
theorem dX12_told_7 : decode cX12_told 7 = .ok (.aload_n 0, 1) := by decide +kernel
theorem dX12_told_8 : decode cX12_told 8 = .ok (.getfield 269, 3) := by decide +kernel
theorem dX12_told_11 : decode cX12_told 11 = .ok (.iconst 1, 1) := by decide +kernel
theorem dX12_told_12 : decode cX12_told 12 = .ok (.isub, 1) := by decide +kernel
theorem dX12_told_13 : decode cX12_told 13 = .ok (.invokestatic 214, 3) := by decide +kernel
theorem dX12_told_16 : decode cX12_told 16 = .ok (.ifCond .eq 21, 3) := by decide +kernel
theorem dX12_told_19 : decode cX12_told 19 = .ok (.iload_n 2, 1) := by decide +kernel
theorem dX12_told_20 : decode cX12_told 20 = .ok (.iconst 0, 1) := by decide +kernel
theorem dX12_told_21 : decode cX12_told 21 = .ok (.iconst 5, 1) := by decide +kernel
theorem dX12_told_22 : decode cX12_told 22 = .ok (.invokestatic 214, 3) := by decide +kernel
theorem dX12_told_25 : decode cX12_told 25 = .ok (.ifCond .eq 12, 3) := by decide +kernel
theorem dX12_told_28 : decode cX12_told 28 = .ok (.iload_n 3, 1) := by decide +kernel
theorem dX12_told_29 : decode cX12_told 29 = .ok (.ifCond .lt 8, 3) := by decide +kernel
theorem dX12_told_32 : decode cX12_told 32 = .ok (.iload 4, 2) := by decide +kernel
theorem dX12_told_34 : decode cX12_told 34 = .ok (.ifCond .ge 5, 3) := by decide +kernel
theorem dX12_told_37 : decode cX12_told 37 = .ok (.iconst (-1), 1) := by decide +kernel
theorem dX12_told_38 : decode cX12_told 38 = .ok (.ireturn, 1) := by decide +kernel
theorem dX12_told_39 : decode cX12_told 39 = .ok (.aload_n 0, 1) := by decide +kernel
theorem dX12_told_40 : decode cX12_told 40 = .ok (.iload_n 1, 1) := by decide +kernel
theorem dX12_told_41 : decode cX12_told 41 = .ok (.iload_n 2, 1) := by decide +kernel
theorem dX12_told_42 : decode cX12_told 42 = .ok (.iload_n 3, 1) := by decide +kernel
theorem dX12_told_43 : decode cX12_told 43 = .ok (.iload 4, 2) := by decide +kernel
theorem dX12_told_45 : decode cX12_told 45 = .ok (.invokevirtual 413, 3) := by decide +kernel
theorem dX12_told_48 : decode cX12_told 48 = .ok (.istore 5, 2) := by decide +kernel
theorem dX12_told_50 : decode cX12_told 50 = .ok (.aload_n 0, 1) := by decide +kernel
theorem dX12_told_51 : decode cX12_told 51 = .ok (.aload_n 0, 1) := by decide +kernel
theorem dX12_told_52 : decode cX12_told 52 = .ok (.getfield 128, 3) := by decide +kernel
theorem dX12_told_55 : decode cX12_told 55 = .ok (.putfield 132, 3) := by decide +kernel
theorem dX12_told_58 : decode cX12_told 58 = .ok (.iload 5, 2) := by decide +kernel
theorem dX12_told_60 : decode cX12_told 60 = .ok (.ireturn, 1) := by decide +kernel
set_option maxHeartbeats 4000000 in
set_option maxRecDepth 100000 in
theorem m_arrive (l : Launch) (dC : Nat → ClassId) (dI : Nat → Nat → Nat) (sz h : Nat) (ad : Nat → Nat) (cA : Nat → ClassId) (hd : dM h ad) (fv : Nat → Int32) (wd : Int64) (ar : Nat → Nat → Int32) (hF_fv : rF fv) (hA_ar : rA ar) (pp : Int32) (h_pp : 0 ≤ pp.toInt ∧ pp.toInt ≤ 39) (hp_sW : sW ar) : Met l yX12_arrive (.code yX12_arrive cX12_arrive 2 none :: lw_good) ({ frames := 2, cells := 0, slots := 0, locals := 40 }) (va_Pc [.ref h, .int pp] (prM dC dI h ad cA fv wd ar sz)) (va_Qv (fun (u : mS) => rF u.1 ∧ rA u.2.2 ∧ fM [] fv u.1 ∧ fA [68, 72] ar u.2.2 ∧ (sW u.2.2) ∧ True) (enM dC dI h ad cA) (aM h ad sz)) 0 0 (aM h ad sz) := by
  refine Met.ofW (cc := cX12_arrive) (maxL := 2) (ret := none) (by decide) rfl ?_
  intro p e s m args below meth c s₁ B hml hv
  obtain ⟨rfl, hsz, hP, hK⟩ := hv
  have hx := B.exec
  have hb := B.bytes
  have hr := B.returns
  have hts := atoms_spec (ws := (.code yX12_arrive cX12_arrive 2 none :: lw_good)) B.pre
  have htg : ∀ w ∈ lw_good, w.before _ s = true := fun w hw => hts w (List.mem_cons_of_mem _ hw)
  have hown : s.vm.findClass RX12 = some m.cls := findClass_of_methodNamed B.named
  have hlocks := B.notSynchronized
  subst hsz
  have hS : va_S (aM h ad s.heap.size) s.heap s.heap [] := va_S.rf
  have hl := lv_entry ([.ref h, .int pp]) (n := 2) (Nat.le_of_ble_eq_true rfl)
  rw [lg_entry_eq]
  generalize (lg_sl ([.ref h, .int pp]) ++ List.replicate (2 - (lg_sl ([.ref h, .int pp])).length) Slot.unset).toArray = ls at hl ⊢
  have hl : lv_has ls 2 [(0, .ref h), (1, .int pp)] := hl
  refine lv_aload_n hx hb dX12_arrive_0 rfl (lv_at hl 0 rfl) ?_
  refine gM_68 hx hb htg hown hK hP dX12_arrive_1 ?_
  refine lv_iload_n hx hb dX12_arrive_4 rfl (lv_at hl 1 rfl) ?_
  refine lM_68 hx hb hK hP (iv_in h_pp (by decide) (by decide)) dX12_arrive_5 (fun v_1 ev_1 => ?_)
  refine lv_iconst (v := 1) hx hb dX12_arrive_6 (by decide) ?_
  refine lv_icmp_ne (tgt := 18) hx hb dX12_arrive_7 (by decide) (fun c_2 => ?_) (fun c_2 => ?_)
  · skip
    refine lv_aload_n hx hb dX12_arrive_18 rfl (lv_at hl 0 rfl) ?_
    refine gM_68 hx hb htg hown hK hP dX12_arrive_19 ?_
    refine lv_iload_n hx hb dX12_arrive_22 rfl (lv_at hl 1 rfl) ?_
    refine lv_iconst (v := 5) hx hb dX12_arrive_23 (by decide) ?_
    refine sM_68 hx hb hK hP hS hd (iv_in h_pp (by decide) (by decide)) dX12_arrive_24 (fun H locs ar_3 ear_3 hP hS => ?_)
    have hA_ar_3 : rA ar_3 := rA_put hA_ar ear_3 (iv_any _)
    have hp_4 : sW ar_3 := sW_68 hp_sW ear_3 (Or.inr (Or.inl (Int.lt_of_lt_of_le (by decide) ((⟨by decide, by decide⟩ : (5 : Int) ≤ (5 : Int32).toInt ∧ (5 : Int32).toInt ≤ 5)).1)))
    refine lv_aload_n hx hb dX12_arrive_25 rfl (lv_at hl 0 rfl) ?_
    refine gM_72 hx hb htg hown hK hP dX12_arrive_26 ?_
    refine lv_iload_n hx hb dX12_arrive_29 rfl (lv_at hl 1 rfl) ?_
    refine lv_aload_n hx hb dX12_arrive_30 rfl (lv_at hl 0 rfl) ?_
    refine gM_85 hx hb htg hown hK hP dX12_arrive_31 ?_
    have i_5 : 0 ≤ (fv 85).toInt ∧ (fv 85).toInt ≤ 840 := hF_fv 85
    refine sM_72 hx hb hK hP hS hd (iv_in h_pp (by decide) (by decide)) dX12_arrive_34 (fun H locs ar_6 ear_6 hP hS => ?_)
    have hA_ar_6 : rA ar_6 := rA_put hA_ar_3 ear_6 (iv_any _)
    exact W.vret hx hb hr (fun t ht hW => ⟨⟨(fv, wd, ar_6), rfl, ⟨hF_fv, hA_ar_6, (fM_rf [] _), (fA_put (fA_put (fA_rf [68, 72] _) ear_3 (by decide)) ear_6 (by decide)), (sW_fr hp_4 (fA_put (fA_rf [72] _) ear_6 (by decide)) rfl rfl), trivial⟩, ⟨by rw [ht]; exact hP, va_K.moved hW.alike hK⟩⟩, hS.F ht⟩) hS.2.2 dX12_arrive_35
  · skip
    have i_7 : 1 ≤ v_1.toInt ∧ v_1.toInt ≤ 1 := iv_eq1 (⟨by decide, by decide⟩ : (1 : Int) ≤ (1 : Int32).toInt ∧ (1 : Int32).toInt ≤ 1) c_2
    refine lv_aload_n hx hb dX12_arrive_10 rfl (lv_at hl 0 rfl) ?_
    refine gM_68 hx hb htg hown hK hP dX12_arrive_11 ?_
    refine lv_iload_n hx hb dX12_arrive_14 rfl (lv_at hl 1 rfl) ?_
    refine lv_iconst (v := 2) hx hb dX12_arrive_15 (by decide) ?_
    refine sM_68 hx hb hK hP hS hd (iv_in h_pp (by decide) (by decide)) dX12_arrive_16 (fun H locs ar_8 ear_8 hP hS => ?_)
    have hA_ar_8 : rA ar_8 := rA_put hA_ar ear_8 (iv_any _)
    have hp_9 : sW ar_8 := sW_68 hp_sW ear_8 (Or.inr (Or.inr (by have h9 := hp_sW pp.toNatClampNeg; rw [← ev_1] at h9; exact h9 (Int.le_trans (by decide) (i_7).1) (Int.le_trans (i_7).2 (by decide)))))
    exact W.vret hx hb hr (fun t ht hW => ⟨⟨(fv, wd, ar_8), rfl, ⟨hF_fv, hA_ar_8, (fM_rf [] _), (fA_put (fA_rf [68, 72] _) ear_8 (by decide)), hp_9, trivial⟩, ⟨by rw [ht]; exact hP, va_K.moved hW.alike hK⟩⟩, hS.F ht⟩) hS.2.2 dX12_arrive_17
set_option maxHeartbeats 4000000 in
set_option maxRecDepth 100000 in
theorem m_setOut (l : Launch) (dC : Nat → ClassId) (dI : Nat → Nat → Nat) (sz h : Nat) (ad : Nat → Nat) (cA : Nat → ClassId) (hd : dM h ad) (fv : Nat → Int32) (wd : Int64) (ar : Nat → Nat → Int32) (hF_fv : rF fv) (hA_ar : rA ar) (pp : Int32) (to0 : Int32) (how : Int32) (tr : Int32) (h_pp : 0 ≤ pp.toInt ∧ pp.toInt ≤ 39) (h_to0 : 0 ≤ to0.toInt ∧ to0.toInt ≤ 11) (h_how : 1 ≤ how.toInt ∧ how.toInt ≤ 4) (h_tr : (-1) ≤ tr.toInt ∧ tr.toInt ≤ 79) (hht : how.toInt = 4 ∨ 0 ≤ tr.toInt) (hp_sW : sW ar) : Met l yX12_setOut (.code yX12_setOut cX12_setOut 8 none :: lw_good) ({ frames := 5, cells := 0, slots := 0, locals := 106 }) (va_Pc [.ref h, .int pp, .int to0, .int how, .int tr] (prM dC dI h ad cA fv wd ar sz)) (va_Qv (fun (u : mS) => rF u.1 ∧ rA u.2.2 ∧ fM [8] fv u.1 ∧ fA [4, 15, 18, 68, 69, 70, 71, 72, 74] ar u.2.2 ∧ (sW u.2.2) ∧ True) (enM dC dI h ad cA) (aM h ad sz)) 0 0 (aM h ad sz) := by
  refine Met.ofW (cc := cX12_setOut) (maxL := 8) (ret := none) (by decide) rfl ?_
  intro p e s m args below meth c s₁ B hml hv
  obtain ⟨rfl, hsz, hP, hK⟩ := hv
  have hx := B.exec
  have hb := B.bytes
  have hr := B.returns
  have hts := atoms_spec (ws := (.code yX12_setOut cX12_setOut 8 none :: lw_good)) B.pre
  have htg : ∀ w ∈ lw_good, w.before _ s = true := fun w hw => hts w (List.mem_cons_of_mem _ hw)
  have hown : s.vm.findClass RX12 = some m.cls := findClass_of_methodNamed B.named
  have hlocks := B.notSynchronized
  subst hsz
  have hS : va_S (aM h ad s.heap.size) s.heap s.heap [] := va_S.rf
  have hl := lv_entry ([.ref h, .int pp, .int to0, .int how, .int tr]) (n := 8) (Nat.le_of_ble_eq_true rfl)
  rw [lg_entry_eq]
  generalize (lg_sl ([.ref h, .int pp, .int to0, .int how, .int tr]) ++ List.replicate (8 - (lg_sl ([.ref h, .int pp, .int to0, .int how, .int tr])).length) Slot.unset).toArray = ls at hl ⊢
  have hl : lv_has ls 8 [(0, .ref h), (1, .int pp), (2, .int to0), (3, .int how), (4, .int tr)] := hl
  refine lv_aload_n hx hb dX12_setOut_0 rfl (lv_at hl 0 rfl) ?_
  refine lv_aload_n hx hb dX12_setOut_1 rfl (lv_at hl 0 rfl) ?_
  refine gM_69 hx hb htg hown hK hP dX12_setOut_2 ?_
  refine lv_iload_n hx hb dX12_setOut_5 rfl (lv_at hl 1 rfl) ?_
  refine lM_69 hx hb hK hP (iv_in h_pp (by decide) (by decide)) dX12_setOut_6 (fun v_1 ev_1 => ?_)
  have i_2 : 0 ≤ v_1.toInt ∧ v_1.toInt ≤ 11 := ev_1 ▸ hA_ar 69 _
  refine lv_iload_n hx hb dX12_setOut_7 rfl (lv_at hl 2 rfl) ?_
  refine va_calli (va_runV (As := [.int v_1, .int to0]) (rest := []) ⟨hx, hb, hml, hown, hts⟩ (m_farOf l dC dI s.heap.size h ad cA hd fv wd ar hF_fv hA_ar v_1 to0 i_2 h_to0) (cwV 2 hts (gV kw_7_237 kw_7_239 kw_p_59 kw_1_15 kw_8_0) rfl rfl rfl (by decide +kernel) ⟨Nat.le_of_ble_eq_true rfl, Nat.le_of_ble_eq_true rfl⟩) ⟨fun a U g mk q => ⟨q.1, q.2.1, q.2.2.1, va_K.moved (u := U) (U := U.calling g mk a) (Vm.Alike.refl U.vm) q.2.2.2⟩, va_recv hK hP (ci := 12) (q0 := 0) rfl rfl, fun U hU hW => ⟨rfl, by rw [hU], by rw [hU]; exact hP, va_K.moved hW.alike hK⟩⟩ rfl rfl hl.1 rfl (lv_room (Nat.le_of_ble_eq_true rfl)) dX12_setOut_8 ⟨Nat.le_of_ble_eq_true rfl, Nat.le_of_ble_eq_true rfl⟩) hS (fun q _ h9 => aM_up hS q h9) (aM_up hS) (fun r_3 u t H1 locs ht _ hw hB _ hk1 hS => ?_)
  obtain ⟨fv_4, wd_5, ar_6⟩ := u
  obtain ⟨hF_fv_4, hA_ar_6, fr_7, fa_8, -⟩ := hw
  have hP : va_P (dC, dI) vwCl (wsM h ad cA fv_4 wd_5 ar_6) H1 := by have h9 := hB.1; rw [ht] at h9; exact h9
  have fr_7 : fM [8] fv fv_4 := fr_7
  have fa_8 : fA [4] ar ar_6 := fa_8
  generalize H1 = H at hP hS ⊢
  refine lv_istore (lv' := [(5, .int r_3), (0, .ref h), (1, .int pp), (2, .int to0), (3, .int how), (4, .int tr)]) hx hb dX12_setOut_11 hl (by decide) rfl (fun ls hl => ?_)
  refine lv_aload_n hx hb dX12_setOut_13 rfl (lv_at hl 1 rfl) ?_
  refine lv_iload_n hx hb dX12_setOut_14 rfl (lv_at hl 2 rfl) ?_
  refine lv_aload_n hx hb dX12_setOut_15 rfl (lv_at hl 1 rfl) ?_
  refine gM_69 hx hb htg hown hK hP dX12_setOut_16 ?_
  refine lv_iload_n hx hb dX12_setOut_19 rfl (lv_at hl 2 rfl) ?_
  refine lM_69 hx hb hK hP (iv_in h_pp (by decide) (by decide)) dX12_setOut_20 (fun v_9 ev_9 => ?_)
  obtain rfl : v_1 = v_9 := ev_1.trans ((congrFun ((fA_call (fA_rf [4] _) fa_8 (by decide)) 69 rfl) _).symm.trans ev_9.symm)
  refine lv_iload_n hx hb dX12_setOut_21 rfl (lv_at hl 3 rfl) ?_
  refine va_calli (va_runV (As := [.int pp, .int v_1, .int to0]) (rest := []) ⟨hx, hb, hml, hown, hts⟩ (m_walk l dC dI H.size h ad cA hd fv_4 wd_5 ar_6 hF_fv_4 hA_ar_6 pp v_1 to0 h_pp i_2 h_to0) (cwV 3 hts (gV kw_8_208 kw_8_210 kw_p_92 kw_1_15 kw_8_211) rfl rfl rfl (by decide +kernel) ⟨Nat.le_of_ble_eq_true rfl, Nat.le_of_ble_eq_true rfl⟩) ⟨fun a U g mk q => ⟨q.1, q.2.1, q.2.2.1, va_K.moved (u := U) (U := U.calling g mk a) (Vm.Alike.refl U.vm) q.2.2.2⟩, va_recv hK hP (ci := 12) (q0 := 0) rfl rfl, fun U hU hW => ⟨rfl, by rw [hU], by rw [hU]; exact hP, va_K.moved hW.alike hK⟩⟩ rfl rfl hl.1 rfl (lv_room (Nat.le_of_ble_eq_true rfl)) dX12_setOut_22 ⟨Nat.le_of_ble_eq_true rfl, Nat.le_of_ble_eq_true rfl⟩) hS (fun q _ h9 => aM_up hS q h9) (aM_up hS) (fun r_10 u t H1 locs ht _ hw hB _ hk1 hS => ?_)
  obtain ⟨fv_11, wd_12, ar_13⟩ := u
  obtain ⟨hF_fv_11, hA_ar_13, fr_14, fa_15, -⟩ := hw
  have hP : va_P (dC, dI) vwCl (wsM h ad cA fv_11 wd_12 ar_13) H1 := by have h9 := hB.1; rw [ht] at h9; exact h9
  have fr_14 : fM [8] fv_4 fv_11 := fr_14
  have fa_15 : fA [4] ar_6 ar_13 := fa_15
  generalize H1 = H at hP hS ⊢
  refine lv_istore (lv' := [(6, .int r_10), (5, .int r_3), (0, .ref h), (1, .int pp), (2, .int to0), (3, .int how), (4, .int tr)]) hx hb dX12_setOut_25 hl (by decide) rfl (fun ls hl => ?_)
  refine lv_aload_n hx hb dX12_setOut_27 rfl (lv_at hl 2 rfl) ?_
  refine gM_74 hx hb htg hown hK hP dX12_setOut_28 ?_
  refine lv_iload_n hx hb dX12_setOut_31 rfl (lv_at hl 3 rfl) ?_
  refine lv_dup2_11 hx hb dX12_setOut_32 rfl rfl ?_
  refine lM_74 hx hb hK hP (iv_in h_pp (by decide) (by decide)) dX12_setOut_33 (fun v_16 ev_16 => ?_)
  refine lv_iload hx hb dX12_setOut_34 (lv_at hl 1 rfl) ?_
  refine lv_iadd hx hb dX12_setOut_36 ?_
  refine lv_topi (fun v_17 ev_17 => ?_)
  refine sM_74 hx hb hK hP hS hd (iv_in h_pp (by decide) (by decide)) dX12_setOut_37 (fun H locs ar_18 ear_18 hP hS => ?_)
  have hA_ar_18 : rA ar_18 := rA_put hA_ar_13 ear_18 (iv_any _)
  refine lv_aload_n hx hb dX12_setOut_38 rfl (lv_at hl 2 rfl) ?_
  refine gM_18 hx hb htg hown hK hP dX12_setOut_39 ?_
  refine lv_iload_n hx hb dX12_setOut_42 rfl (lv_at hl 3 rfl) ?_
  refine lM_18 hx hb hK hP (iv_in h_pp (by decide) (by decide)) dX12_setOut_43 (fun v_19 ev_19 => ?_)
  refine lv_sipush (v := 300) hx hb dX12_setOut_44 (by decide) ?_
  refine lv_idiv hx hb dX12_setOut_47 (by decide) ?_
  refine lv_topi (fun v_20 ev_20 => ?_)
  refine lv_istore (lv' := [(7, .int v_20), (6, .int r_10), (5, .int r_3), (0, .ref h), (1, .int pp), (2, .int to0), (3, .int how), (4, .int tr)]) hx hb dX12_setOut_48 hl (by decide) rfl (fun ls hl => ?_)
  refine lv_aload_n hx hb dX12_setOut_50 rfl (lv_at hl 3 rfl) ?_
  refine gM_18 hx hb htg hown hK hP dX12_setOut_51 ?_
  refine lv_iload_n hx hb dX12_setOut_54 rfl (lv_at hl 4 rfl) ?_
  refine lv_dup2_11 hx hb dX12_setOut_55 rfl rfl ?_
  refine lM_18 hx hb hK hP (iv_in h_pp (by decide) (by decide)) dX12_setOut_56 (fun v_21 ev_21 => ?_)
  obtain rfl : v_19 = v_21 := ev_19.trans ev_21.symm
  refine lv_iload hx hb dX12_setOut_57 (lv_at hl 2 rfl) ?_
  refine lv_iadd hx hb dX12_setOut_59 ?_
  refine lv_topi (fun v_22 ev_22 => ?_)
  refine sM_18 hx hb hK hP hS hd (iv_in h_pp (by decide) (by decide)) dX12_setOut_60 (fun H locs ar_23 ear_23 hP hS => ?_)
  have hA_ar_23 : rA ar_23 := rA_put hA_ar_18 ear_23 (iv_any _)
  refine lv_aload_n hx hb dX12_setOut_61 rfl (lv_at hl 3 rfl) ?_
  refine gM_15 hx hb htg hown hK hP dX12_setOut_62 ?_
  refine lv_iload_n hx hb dX12_setOut_65 rfl (lv_at hl 4 rfl) ?_
  refine lv_dup2_11 hx hb dX12_setOut_66 rfl rfl ?_
  refine lM_15 hx hb hK hP (iv_in h_pp (by decide) (by decide)) dX12_setOut_67 (fun v_24 ev_24 => ?_)
  refine lv_aload_n hx hb dX12_setOut_68 rfl (lv_at hl 3 rfl) ?_
  refine gM_18 hx hb htg hown hK hP dX12_setOut_69 ?_
  refine lv_iload_n hx hb dX12_setOut_72 rfl (lv_at hl 4 rfl) ?_
  refine lM_18 hx hb hK hP (iv_in h_pp (by decide) (by decide)) dX12_setOut_73 (fun v_25 ev_25 => ?_)
  refine lv_sipush (v := 300) hx hb dX12_setOut_74 (by decide) ?_
  refine lv_idiv hx hb dX12_setOut_77 (by decide) ?_
  refine lv_topi (fun v_26 ev_26 => ?_)
  refine lv_iload hx hb dX12_setOut_78 (lv_at hl 0 rfl) ?_
  refine lv_isub hx hb dX12_setOut_80 ?_
  refine lv_topi (fun v_27 ev_27 => ?_)
  refine lv_isub hx hb dX12_setOut_81 ?_
  refine lv_topi (fun v_28 ev_28 => ?_)
  refine sM_15 hx hb hK hP hS hd (iv_in h_pp (by decide) (by decide)) dX12_setOut_82 (fun H locs ar_29 ear_29 hP hS => ?_)
  have hA_ar_29 : rA ar_29 := rA_put hA_ar_23 ear_29 (iv_any _)
  refine lv_aload_n hx hb dX12_setOut_83 rfl (lv_at hl 3 rfl) ?_
  refine gM_15 hx hb htg hown hK hP dX12_setOut_84 ?_
  refine lv_iload_n hx hb dX12_setOut_87 rfl (lv_at hl 4 rfl) ?_
  refine lM_15 hx hb hK hP (iv_in h_pp (by decide) (by decide)) dX12_setOut_88 (fun v_30 ev_30 => ?_)
  refine my_cut (P := fun R9 a9 Q9 => ∀ (ar_35 : Nat → Nat → Int32) (H : Heap) (locs : List Loc) (ls : Array Slot), rA ar_35 → fA [15] ar_29 ar_35 → sW ar_35 → va_P (dC, dI) vwCl (wsM h ad cA fv_11 wd_12 ar_35) H → va_S (aM h ad s.heap.size) s.heap H locs → lv_has ls 8 [(0, .ref h), (1, .int pp), (2, .int to0), (3, .int how), (4, .int tr), (6, .int r_10)] → W p l e R9 s m a9 below meth c H locs 0 0 Q9 (F0 m 99 ls [])) ?_ (fun hj_38 => ?_)
  · intro ar_35 H locs ls hA_ar_35 fa_36 hp_37 hP hS hl
    refine lv_aload_n hx hb dX12_setOut_99 rfl (lv_at hl 0 rfl) ?_
    refine gM_69 hx hb htg hown hK hP dX12_setOut_100 ?_
    refine lv_iload_n hx hb dX12_setOut_103 rfl (lv_at hl 1 rfl) ?_
    refine lv_iload_n hx hb dX12_setOut_104 rfl (lv_at hl 2 rfl) ?_
    refine sM_69 hx hb hK hP hS hd (iv_in h_pp (by decide) (by decide)) dX12_setOut_105 (fun H locs ar_39 ear_39 hP hS => ?_)
    have hA_ar_39 : rA ar_39 := rA_put hA_ar_35 ear_39 h_to0
    refine lv_aload_n hx hb dX12_setOut_106 rfl (lv_at hl 0 rfl) ?_
    refine gM_71 hx hb htg hown hK hP dX12_setOut_107 ?_
    refine lv_iload_n hx hb dX12_setOut_110 rfl (lv_at hl 1 rfl) ?_
    refine lv_iload hx hb dX12_setOut_111 (lv_at hl 4 rfl) ?_
    refine sM_71 hx hb hK hP hS hd (iv_in h_pp (by decide) (by decide)) dX12_setOut_113 (fun H locs ar_40 ear_40 hP hS => ?_)
    have hA_ar_40 : rA ar_40 := rA_put hA_ar_39 ear_40 h_tr
    refine lv_aload_n hx hb dX12_setOut_114 rfl (lv_at hl 0 rfl) ?_
    refine gM_68 hx hb htg hown hK hP dX12_setOut_115 ?_
    refine lv_iload_n hx hb dX12_setOut_118 rfl (lv_at hl 1 rfl) ?_
    refine lv_iload_n hx hb dX12_setOut_119 rfl (lv_at hl 3 rfl) ?_
    refine sM_68 hx hb hK hP hS hd (iv_in h_pp (by decide) (by decide)) dX12_setOut_120 (fun H locs ar_41 ear_41 hP hS => ?_)
    have hA_ar_41 : rA ar_41 := rA_put hA_ar_40 ear_41 (iv_any _)
    have hp_42 : sW ar_41 := sW_both (sW_fr hp_37 (fA_put (fA_rf [69] _) ear_39 (by decide)) rfl rfl) ear_40 ear_41 (by omega)
    refine lv_aload_n hx hb dX12_setOut_121 rfl (lv_at hl 0 rfl) ?_
    refine gM_70 hx hb htg hown hK hP dX12_setOut_122 ?_
    refine lv_iload_n hx hb dX12_setOut_125 rfl (lv_at hl 1 rfl) ?_
    refine lv_aload_n hx hb dX12_setOut_126 rfl (lv_at hl 0 rfl) ?_
    refine gM_85 hx hb htg hown hK hP dX12_setOut_127 ?_
    refine my_ti (y := fv 85) ((fr_14 85 rfl).trans ((fr_7 85 rfl))) ?_
    have i_43 : 0 ≤ (fv 85).toInt ∧ (fv 85).toInt ≤ 840 := hF_fv 85
    refine lv_iload hx hb dX12_setOut_130 (lv_at hl 5 rfl) ?_
    refine lv_iadd hx hb dX12_setOut_132 ?_
    refine lv_topi (fun v_44 ev_44 => ?_)
    refine sM_70 hx hb hK hP hS hd (iv_in h_pp (by decide) (by decide)) dX12_setOut_133 (fun H locs ar_45 ear_45 hP hS => ?_)
    have hA_ar_45 : rA ar_45 := rA_put hA_ar_41 ear_45 (iv_any _)
    refine lv_iload hx hb dX12_setOut_134 (lv_at hl 5 rfl) ?_
    refine lv_if_ne (tgt := 144) hx hb dX12_setOut_136 (by decide) (fun c_46 => ?_) (fun c_46 => ?_)
    · skip
      exact W.vret hx hb hr (fun t ht hW => ⟨⟨(fv_11, wd_12, ar_45), rfl, ⟨hF_fv_11, hA_ar_45, (fM_call (fM_call (fM_rf [8] _) fr_7 (by decide)) fr_14 (by decide)), (fA_put (fA_put (fA_put (fA_put (fA_call (fA_put (fA_put (fA_put (fA_call (fA_call (fA_rf [4, 15, 18, 68, 69, 70, 71, 72, 74] _) fa_8 (by decide)) fa_15 (by decide)) ear_18 (by decide)) ear_23 (by decide)) ear_29 (by decide)) fa_36 (by decide)) ear_39 (by decide)) ear_40 (by decide)) ear_41 (by decide)) ear_45 (by decide)), (sW_fr hp_42 (fA_put (fA_rf [70] _) ear_45 (by decide)) rfl rfl), trivial⟩, ⟨by rw [ht]; exact hP, va_K.moved hW.alike hK⟩⟩, hS.F ht⟩) hS.2.2 dX12_setOut_144
    · skip
      have i_47 : 0 ≤ r_10.toInt ∧ r_10.toInt ≤ 0 := iv_eq1 (⟨by decide, by decide⟩ : (0 : Int) ≤ (0 : Int32).toInt ∧ (0 : Int32).toInt ≤ 0) c_46
      refine lv_aload_n hx hb dX12_setOut_139 rfl (lv_at hl 0 rfl) ?_
      refine lv_iload_n hx hb dX12_setOut_140 rfl (lv_at hl 1 rfl) ?_
      refine va_callv (va_runV (As := [.int pp]) (rest := []) ⟨hx, hb, hml, hown, hts⟩ (m_arrive l dC dI H.size h ad cA hd fv_11 wd_12 ar_45 hF_fv_11 hA_ar_45 pp h_pp (sW_fr hp_42 (fA_put (fA_rf [70] _) ear_45 (by decide)) rfl rfl)) (cwV 1 hts (gV kw_8_220 kw_8_222 kw_p_95 kw_1_15 kw_8_223) rfl rfl rfl (by decide +kernel) ⟨Nat.le_of_ble_eq_true rfl, Nat.le_of_ble_eq_true rfl⟩) ⟨fun a U g mk q => ⟨q.1, q.2.1, q.2.2.1, va_K.moved (u := U) (U := U.calling g mk a) (Vm.Alike.refl U.vm) q.2.2.2⟩, va_recv hK hP (ci := 12) (q0 := 0) rfl rfl, fun U hU hW => ⟨rfl, by rw [hU], by rw [hU]; exact hP, va_K.moved hW.alike hK⟩⟩ rfl rfl hl.1 rfl (lv_room (Nat.le_of_ble_eq_true rfl)) dX12_setOut_141 ⟨Nat.le_of_ble_eq_true rfl, Nat.le_of_ble_eq_true rfl⟩) hS (fun q _ h9 => aM_up hS q h9) (aM_up hS) (fun u t H1 locs ht _ hw hB _ hk1 hS => ?_)
      obtain ⟨fv_50, wd_51, ar_52⟩ := u
      obtain ⟨hF_fv_50, hA_ar_52, fr_53, fa_54, p_49, -⟩ := hw
      have hP : va_P (dC, dI) vwCl (wsM h ad cA fv_50 wd_51 ar_52) H1 := by have h9 := hB.1; rw [ht] at h9; exact h9
      have fr_53 : fM [] fv_11 fv_50 := fr_53
      have fa_54 : fA [68, 72] ar_45 ar_52 := fa_54
      have p_49 : sW ar_52 := p_49
      generalize H1 = H at hP hS ⊢
      exact W.vret hx hb hr (fun t ht hW => ⟨⟨(fv_50, wd_51, ar_52), rfl, ⟨hF_fv_50, hA_ar_52, (fM_call (fM_call (fM_call (fM_rf [8] _) fr_7 (by decide)) fr_14 (by decide)) fr_53 (by decide)), (fA_call (fA_put (fA_put (fA_put (fA_put (fA_call (fA_put (fA_put (fA_put (fA_call (fA_call (fA_rf [4, 15, 18, 68, 69, 70, 71, 72, 74] _) fa_8 (by decide)) fa_15 (by decide)) ear_18 (by decide)) ear_23 (by decide)) ear_29 (by decide)) fa_36 (by decide)) ear_39 (by decide)) ear_40 (by decide)) ear_41 (by decide)) ear_45 (by decide)) fa_54 (by decide)), p_49, trivial⟩, ⟨by rw [ht]; exact hP, va_K.moved hW.alike hK⟩⟩, hS.F ht⟩) hS.2.2 dX12_setOut_144
  · skip
    refine lv_if_ge (tgt := 99) hx hb dX12_setOut_89 (by decide) (fun c_31 => ?_) (fun c_31 => ?_)
    · skip
      have i_32 : 0 ≤ v_30.toInt ∧ v_30.toInt ≤ 2147483647 := iv_le2 (⟨by decide, by decide⟩ : (0 : Int) ≤ (0 : Int32).toInt ∧ (0 : Int32).toInt ≤ 0) (iv_any v_30) c_31
      exact hj_38 ar_29 _ _ ls hA_ar_29 (fA_rf [15] _) (sW_fr hp_sW (fA_put (fA_put (fA_put (fA_call (fA_call (fA_rf [4, 15, 18, 74] _) fa_8 (by decide)) fa_15 (by decide)) ear_18 (by decide)) ear_23 (by decide)) ear_29 (by decide)) rfl rfl) hP hS (lv_sub hl [3, 4, 5, 6, 7, 1] rfl)
    · skip
      have i_33 : (-2147483648) ≤ v_30.toInt ∧ v_30.toInt ≤ (-1) := iv_lt1 (iv_any v_30) (⟨by decide, by decide⟩ : (0 : Int) ≤ (0 : Int32).toInt ∧ (0 : Int32).toInt ≤ 0) (Int32.not_le.mp c_31)
      refine lv_aload_n hx hb dX12_setOut_92 rfl (lv_at hl 3 rfl) ?_
      refine gM_15 hx hb htg hown hK hP dX12_setOut_93 ?_
      refine lv_iload_n hx hb dX12_setOut_96 rfl (lv_at hl 4 rfl) ?_
      refine lv_iconst (v := 0) hx hb dX12_setOut_97 (by decide) ?_
      refine sM_15 hx hb hK hP hS hd (iv_in h_pp (by decide) (by decide)) dX12_setOut_98 (fun H locs ar_34 ear_34 hP hS => ?_)
      have hA_ar_34 : rA ar_34 := rA_put hA_ar_29 ear_34 (iv_any _)
      exact hj_38 ar_34 _ _ ls hA_ar_34 (fA_put (fA_rf [15] _) ear_34 (by decide)) (sW_fr hp_sW (fA_put (fA_put (fA_put (fA_put (fA_call (fA_call (fA_rf [4, 15, 18, 74] _) fa_8 (by decide)) fa_15 (by decide)) ear_18 (by decide)) ear_23 (by decide)) ear_29 (by decide)) ear_34 (by decide)) rfl rfl) hP hS (lv_sub hl [3, 4, 5, 6, 7, 1] rfl)
set_option maxHeartbeats 4000000 in
set_option maxRecDepth 100000 in
theorem m_choose (l : Launch) (dC : Nat → ClassId) (dI : Nat → Nat → Nat) (sz h : Nat) (ad : Nat → Nat) (cA : Nat → ClassId) (hd : dM h ad) (fv : Nat → Int32) (wd : Int64) (ar : Nat → Nat → Int32) (hF_fv : rF fv) (hA_ar : rA ar) (pp : Int32) (a : Int32) (h_pp : 0 ≤ pp.toInt ∧ pp.toInt ≤ 39) (hp_sW : sW ar) : Met l yX12_choose (.code yX12_choose cX12_choose 6 none :: lw_good) ({ frames := 7, cells := 0, slots := 0, locals := 155 }) (va_Pc [.ref h, .int pp, .int a] (prM dC dI h ad cA fv wd ar sz)) (va_Qv (fun (u : mS) => rF u.1 ∧ rA u.2.2 ∧ fM [8] fv u.1 ∧ fA [4, 15, 18, 68, 69, 70, 71, 72, 74, 82] ar u.2.2 ∧ (sW u.2.2) ∧ True) (enM dC dI h ad cA) (aM h ad sz)) 0 0 (aM h ad sz) := by
  refine Met.ofW (cc := cX12_choose) (maxL := 6) (ret := none) (by decide) rfl ?_
  intro p e s m args below meth c s₁ B hml hv
  obtain ⟨rfl, hsz, hP, hK⟩ := hv
  have hx := B.exec
  have hb := B.bytes
  have hr := B.returns
  have hts := atoms_spec (ws := (.code yX12_choose cX12_choose 6 none :: lw_good)) B.pre
  have htg : ∀ w ∈ lw_good, w.before _ s = true := fun w hw => hts w (List.mem_cons_of_mem _ hw)
  have hown : s.vm.findClass RX12 = some m.cls := findClass_of_methodNamed B.named
  have hlocks := B.notSynchronized
  subst hsz
  have hS : va_S (aM h ad s.heap.size) s.heap s.heap [] := va_S.rf
  have hl := lv_entry ([.ref h, .int pp, .int a]) (n := 6) (Nat.le_of_ble_eq_true rfl)
  rw [lg_entry_eq]
  generalize (lg_sl ([.ref h, .int pp, .int a]) ++ List.replicate (6 - (lg_sl ([.ref h, .int pp, .int a])).length) Slot.unset).toArray = ls at hl ⊢
  have hl : lv_has ls 6 [(0, .ref h), (1, .int pp), (2, .int a)] := hl
  refine lv_aload_n hx hb dX12_choose_0 rfl (lv_at hl 0 rfl) ?_
  refine lv_iload_n hx hb dX12_choose_1 rfl (lv_at hl 1 rfl) ?_
  refine va_callv (va_runV (As := [.int pp]) (rest := []) ⟨hx, hb, hml, hown, hts⟩ (m_reckonWays l dC dI s.heap.size h ad cA hd fv wd ar hF_fv hA_ar pp h_pp) (cwV 1 hts (gV kw_8_192 kw_8_194 kw_p_88 kw_1_15 kw_8_195) rfl rfl rfl (by decide +kernel) ⟨Nat.le_of_ble_eq_true rfl, Nat.le_of_ble_eq_true rfl⟩) ⟨fun a U g mk q => ⟨q.1, q.2.1, q.2.2.1, va_K.moved (u := U) (U := U.calling g mk a) (Vm.Alike.refl U.vm) q.2.2.2⟩, va_recv hK hP (ci := 12) (q0 := 0) rfl rfl, fun U hU hW => ⟨rfl, by rw [hU], by rw [hU]; exact hP, va_K.moved hW.alike hK⟩⟩ rfl rfl hl.1 rfl (lv_room (Nat.le_of_ble_eq_true rfl)) dX12_choose_2 ⟨Nat.le_of_ble_eq_true rfl, Nat.le_of_ble_eq_true rfl⟩) hS (fun q _ h9 => aM_up hS q h9) (aM_up hS) (fun u t H1 locs ht _ hw hB _ hk1 hS => ?_)
  obtain ⟨fv_2, wd_3, ar_4⟩ := u
  obtain ⟨hF_fv_2, hA_ar_4, fr_5, fa_6, -⟩ := hw
  have hP : va_P (dC, dI) vwCl (wsM h ad cA fv_2 wd_3 ar_4) H1 := by have h9 := hB.1; rw [ht] at h9; exact h9
  have fr_5 : fM [8] fv fv_2 := fr_5
  have fa_6 : fA [4, 82] ar ar_4 := fa_6
  generalize H1 = H at hP hS ⊢
  refine lv_ldc hx hb hown (htg (.constant RX12 225 100000) kw_7_232) dX12_choose_5 ?_
  refine lv_istore_n (lv' := [(3, .int 100000), (0, .ref h), (1, .int pp), (2, .int a)]) hx hb dX12_choose_7 rfl hl (by decide) rfl (fun ls hl => ?_)
  refine lv_iconst (v := (-1)) hx hb dX12_choose_8 (by decide) ?_
  refine lv_istore (lv' := [(4, .int (-1)), (3, .int 100000), (0, .ref h), (1, .int pp), (2, .int a)]) hx hb dX12_choose_9 hl (by decide) rfl (fun ls hl => ?_)
  refine lv_aload_n hx hb dX12_choose_11 rfl (lv_at hl 2 rfl) ?_
  refine lv_aload_n hx hb dX12_choose_12 rfl (lv_at hl 2 rfl) ?_
  refine gM_69 hx hb htg hown hK hP dX12_choose_13 ?_
  refine lv_iload_n hx hb dX12_choose_16 rfl (lv_at hl 3 rfl) ?_
  refine lM_69 hx hb hK hP (iv_in h_pp (by decide) (by decide)) dX12_choose_17 (fun v_7 ev_7 => ?_)
  have i_8 : 0 ≤ v_7.toInt ∧ v_7.toInt ≤ 11 := ev_7 ▸ hA_ar_4 69 _
  refine lv_aload_n hx hb dX12_choose_18 rfl (lv_at hl 2 rfl) ?_
  refine gM_10 hx hb htg hown hK hP dX12_choose_19 ?_
  refine lv_iload_n hx hb dX12_choose_22 rfl (lv_at hl 3 rfl) ?_
  refine lM_10 hx hb hK hP (iv_in h_pp (by decide) (by decide)) dX12_choose_23 (fun v_9 ev_9 => ?_)
  have i_10 : 0 ≤ v_9.toInt ∧ v_9.toInt ≤ 11 := ev_9 ▸ hA_ar_4 10 _
  refine va_calli (va_runV (As := [.int v_7, .int v_9]) (rest := []) ⟨hx, hb, hml, hown, hts⟩ (m_farOf l dC dI H.size h ad cA hd fv_2 wd_3 ar_4 hF_fv_2 hA_ar_4 v_7 v_9 i_8 i_10) (cwV 2 hts (gV kw_7_237 kw_7_239 kw_p_59 kw_1_15 kw_8_0) rfl rfl rfl (by decide +kernel) ⟨Nat.le_of_ble_eq_true rfl, Nat.le_of_ble_eq_true rfl⟩) ⟨fun a U g mk q => ⟨q.1, q.2.1, q.2.2.1, va_K.moved (u := U) (U := U.calling g mk a) (Vm.Alike.refl U.vm) q.2.2.2⟩, va_recv hK hP (ci := 12) (q0 := 0) rfl rfl, fun U hU hW => ⟨rfl, by rw [hU], by rw [hU]; exact hP, va_K.moved hW.alike hK⟩⟩ rfl rfl hl.1 rfl (lv_room (Nat.le_of_ble_eq_true rfl)) dX12_choose_24 ⟨Nat.le_of_ble_eq_true rfl, Nat.le_of_ble_eq_true rfl⟩) hS (fun q _ h9 => aM_up hS q h9) (aM_up hS) (fun r_11 u t H1 locs ht _ hw hB _ hk1 hS => ?_)
  obtain ⟨fv_12, wd_13, ar_14⟩ := u
  obtain ⟨hF_fv_12, hA_ar_14, fr_15, fa_16, -⟩ := hw
  have hP : va_P (dC, dI) vwCl (wsM h ad cA fv_12 wd_13 ar_14) H1 := by have h9 := hB.1; rw [ht] at h9; exact h9
  have fr_15 : fM [8] fv_2 fv_12 := fr_15
  have fa_16 : fA [4] ar_4 ar_14 := fa_16
  generalize H1 = H at hP hS ⊢
  refine lv_ldc hx hb hown (htg (.constant RX12 225 100000) kw_7_232) dX12_choose_27 ?_
  refine my_cut (P := fun R9 a9 Q9 => ∀ (x_30 : Int32) (fv_31 : Nat → Int32) (ar_33 : Nat → Nat → Int32) (wd_35 : Int64) (H : Heap) (locs : List Loc) (ls : Array Slot), rF fv_31 → fM [8] fv_12 fv_31 → rA ar_33 → fA [4] ar_14 ar_33 → sW ar_33 → va_P (dC, dI) vwCl (wsM h ad cA fv_31 wd_35 ar_33) H → va_S (aM h ad s.heap.size) s.heap H locs → lv_has ls 6 [(0, .ref h), (1, .int pp), (2, .int a), (3, .int x_30), (4, .int (-1))] → W p l e R9 s m a9 below meth c H locs 0 0 Q9 (F0 m 55 ls [])) ?_ (fun hj_37 => ?_)
  · intro x_30 fv_31 ar_33 wd_35 H locs ls hF_fv_31 fr_32 hA_ar_33 fa_34 hp_36 hP hS hl
    refine lv_iconst (v := 0) hx hb dX12_choose_55 (by decide) ?_
    refine lv_istore (lv' := [(5, .int 0), (0, .ref h), (1, .int pp), (2, .int a), (3, .int x_30), (4, .int (-1))]) hx hb dX12_choose_56 hl (by decide) rfl (fun ls hl => ?_)
    refine my_cut (P := fun R9 a9 Q9 => ∀ (n_47 : Nat) (x_38 : Int32) (x_39 : Int32) (x_40 : Int32) (fv_41 : Nat → Int32) (ar_43 : Nat → Nat → Int32) (wd_45 : Int64) (H : Heap) (locs : List Loc) (ls : Array Slot), 80 - x_40.toInt < (n_47 : Int) → ((-1) ≤ x_39.toInt ∧ x_39.toInt ≤ 79) → (0 ≤ x_40.toInt ∧ x_40.toInt ≤ 80) → rF fv_41 → fM [8] fv_31 fv_41 → rA ar_43 → fA [4] ar_33 ar_43 → sW ar_43 → va_P (dC, dI) vwCl (wsM h ad cA fv_41 wd_45 ar_43) H → va_S (aM h ad s.heap.size) s.heap H locs → lv_has ls 6 [(0, .ref h), (1, .int pp), (2, .int a), (3, .int x_38), (4, .int x_39), (5, .int x_40)] → W p l e R9 s m a9 below meth c H locs 0 0 Q9 (F0 m 58 ls [])) ?_ (fun hj_49 => ?_)
    · intro n_47
      induction n_47 with
      | zero => intro x_38 x_39 x_40 fv_41 ar_43 wd_45 H locs ls fu_48 i_x_39 i_x_40 hF_fv_41 fr_42 hA_ar_43 fa_44 hp_46; exfalso; omega
      | succ n_47 ih_47 =>
        intro x_38 x_39 x_40 fv_41 ar_43 wd_45 H locs ls fu_48 i_x_39 i_x_40 hF_fv_41 fr_42 hA_ar_43 fa_44 hp_46 hP hS hl
        refine lv_iload hx hb dX12_choose_58 (lv_at hl 5 rfl) ?_
        refine lv_aload_n hx hb dX12_choose_60 rfl (lv_at hl 0 rfl) ?_
        refine gM_35 hx hb htg hown hK hP dX12_choose_61 ?_
        refine my_ti (y := fv 35) ((fr_42 35 rfl).trans ((fr_32 35 rfl).trans ((fr_15 35 rfl).trans ((fr_5 35 rfl))))) ?_
        have i_50 : 0 ≤ (fv 35).toInt ∧ (fv 35).toInt ≤ 80 := hF_fv 35
        refine lv_icmp_ge (tgt := 188) hx hb dX12_choose_64 (by decide) (fun c_51 => ?_) (fun c_51 => ?_)
        · skip
          refine lv_iload hx hb dX12_choose_188 (lv_at hl 4 rfl) ?_
          refine lv_iconst (v := (-1)) hx hb dX12_choose_190 (by decide) ?_
          refine lv_icmp_eq (tgt := 217) hx hb dX12_choose_191 (by decide) (fun c_114 => ?_) (fun c_114 => ?_)
          · skip
            have i_115 : (-1) ≤ x_39.toInt ∧ x_39.toInt ≤ (-1) := iv_eq1 (⟨by decide, by decide⟩ : (-1 : Int) ≤ ((-1) : Int32).toInt ∧ ((-1) : Int32).toInt ≤ -1) c_114
            refine lv_iload_n hx hb dX12_choose_217 rfl (lv_at hl 3 rfl) ?_
            refine lv_ldc hx hb hown (htg (.constant RX12 225 100000) kw_7_232) dX12_choose_218 ?_
            refine lv_icmp_ge (tgt := 239) hx hb dX12_choose_220 (by decide) (fun c_116 => ?_) (fun c_116 => ?_)
            · skip
              have i_117 : 100000 ≤ x_38.toInt ∧ x_38.toInt ≤ 2147483647 := iv_le2 (⟨by decide, by decide⟩ : (100000 : Int) ≤ (100000 : Int32).toInt ∧ (100000 : Int32).toInt ≤ 100000) (iv_any x_38) c_116
              refine lv_aload_n hx hb dX12_choose_239 rfl (lv_at hl 0 rfl) ?_
              refine gM_68 hx hb htg hown hK hP dX12_choose_240 ?_
              refine lv_iload_n hx hb dX12_choose_243 rfl (lv_at hl 1 rfl) ?_
              refine lv_bipush (v := 6) hx hb dX12_choose_244 (by decide) ?_
              refine sM_68 hx hb hK hP hS hd (iv_in h_pp (by decide) (by decide)) dX12_choose_246 (fun H locs ar_118 ear_118 hP hS => ?_)
              have hA_ar_118 : rA ar_118 := rA_put hA_ar_43 ear_118 (iv_any _)
              have hp_119 : sW ar_118 := sW_68 hp_46 ear_118 (Or.inr (Or.inl (Int.lt_of_lt_of_le (by decide) ((⟨by decide, by decide⟩ : (6 : Int) ≤ (6 : Int32).toInt ∧ (6 : Int32).toInt ≤ 6)).1)))
              exact W.vret hx hb hr (fun t ht hW => ⟨⟨(fv_41, wd_45, ar_118), rfl, ⟨hF_fv_41, hA_ar_118, (fM_call (fM_call (fM_call (fM_call (fM_rf [8] _) fr_5 (by decide)) fr_15 (by decide)) fr_32 (by decide)) fr_42 (by decide)), (fA_put (fA_call (fA_call (fA_call (fA_call (fA_rf [4, 15, 18, 68, 69, 70, 71, 72, 74, 82] _) fa_6 (by decide)) fa_16 (by decide)) fa_34 (by decide)) fa_44 (by decide)) ear_118 (by decide)), hp_119, trivial⟩, ⟨by rw [ht]; exact hP, va_K.moved hW.alike hK⟩⟩, hS.F ht⟩) hS.2.2 dX12_choose_247
            · skip
              have i_120 : (-2147483648) ≤ x_38.toInt ∧ x_38.toInt ≤ 99999 := iv_lt1 (iv_any x_38) (⟨by decide, by decide⟩ : (100000 : Int) ≤ (100000 : Int32).toInt ∧ (100000 : Int32).toInt ≤ 100000) (Int32.not_le.mp c_116)
              refine lv_aload_n hx hb dX12_choose_223 rfl (lv_at hl 0 rfl) ?_
              refine lv_iload_n hx hb dX12_choose_224 rfl (lv_at hl 1 rfl) ?_
              refine lv_aload_n hx hb dX12_choose_225 rfl (lv_at hl 0 rfl) ?_
              refine gM_10 hx hb htg hown hK hP dX12_choose_226 ?_
              refine lv_iload_n hx hb dX12_choose_229 rfl (lv_at hl 1 rfl) ?_
              refine lM_10 hx hb hK hP (iv_in h_pp (by decide) (by decide)) dX12_choose_230 (fun v_121 ev_121 => ?_)
              obtain rfl : v_9 = v_121 := ev_9.trans ((congrFun ((fA_call (fA_call (fA_call (fA_rf [4] _) fa_16 (by decide)) fa_34 (by decide)) fa_44 (by decide)) 10 rfl) _).symm.trans ev_121.symm)
              refine lv_iconst (v := 4) hx hb dX12_choose_231 (by decide) ?_
              refine lv_iconst (v := (-1)) hx hb dX12_choose_232 (by decide) ?_
              refine va_callv (va_runV (As := [.int pp, .int v_9, .int 4, .int (-1)]) (rest := []) ⟨hx, hb, hml, hown, hts⟩ (m_setOut l dC dI H.size h ad cA hd fv_41 wd_45 ar_43 hF_fv_41 hA_ar_43 pp v_9 4 (-1) h_pp i_10 (iv_w (⟨by decide, by decide⟩ : (4 : Int) ≤ (4 : Int32).toInt ∧ (4 : Int32).toInt ≤ 4) (by decide) (by decide)) (iv_w (⟨by decide, by decide⟩ : (-1 : Int) ≤ ((-1) : Int32).toInt ∧ ((-1) : Int32).toInt ≤ -1) (by decide) (by decide)) (Or.inl (by decide)) hp_46) (cwV 4 hts (gV kw_8_216 kw_8_218 kw_p_94 kw_1_15 kw_8_219) rfl rfl rfl (by decide +kernel) ⟨Nat.le_of_ble_eq_true rfl, Nat.le_of_ble_eq_true rfl⟩) ⟨fun a U g mk q => ⟨q.1, q.2.1, q.2.2.1, va_K.moved (u := U) (U := U.calling g mk a) (Vm.Alike.refl U.vm) q.2.2.2⟩, va_recv hK hP (ci := 12) (q0 := 0) rfl rfl, fun U hU hW => ⟨rfl, by rw [hU], by rw [hU]; exact hP, va_K.moved hW.alike hK⟩⟩ rfl rfl hl.1 rfl (lv_room (Nat.le_of_ble_eq_true rfl)) dX12_choose_233 ⟨Nat.le_of_ble_eq_true rfl, Nat.le_of_ble_eq_true rfl⟩) hS (fun q _ h9 => aM_up hS q h9) (aM_up hS) (fun u t H1 locs ht _ hw hB _ hk1 hS => ?_)
              obtain ⟨fv_124, wd_125, ar_126⟩ := u
              obtain ⟨hF_fv_124, hA_ar_126, fr_127, fa_128, p_123, -⟩ := hw
              have hP : va_P (dC, dI) vwCl (wsM h ad cA fv_124 wd_125 ar_126) H1 := by have h9 := hB.1; rw [ht] at h9; exact h9
              have fr_127 : fM [8] fv_41 fv_124 := fr_127
              have fa_128 : fA [4, 15, 18, 68, 69, 70, 71, 72, 74] ar_43 ar_126 := fa_128
              have p_123 : sW ar_126 := p_123
              generalize H1 = H at hP hS ⊢
              refine lv_goto (tgt := 247) hx hb dX12_choose_236 (by decide) ?_
              exact W.vret hx hb hr (fun t ht hW => ⟨⟨(fv_124, wd_125, ar_126), rfl, ⟨hF_fv_124, hA_ar_126, (fM_call (fM_call (fM_call (fM_call (fM_call (fM_rf [8] _) fr_5 (by decide)) fr_15 (by decide)) fr_32 (by decide)) fr_42 (by decide)) fr_127 (by decide)), (fA_call (fA_call (fA_call (fA_call (fA_call (fA_rf [4, 15, 18, 68, 69, 70, 71, 72, 74, 82] _) fa_6 (by decide)) fa_16 (by decide)) fa_34 (by decide)) fa_44 (by decide)) fa_128 (by decide)), p_123, trivial⟩, ⟨by rw [ht]; exact hP, va_K.moved hW.alike hK⟩⟩, hS.F ht⟩) hS.2.2 dX12_choose_247
          · skip
            have i_129 : 0 ≤ x_39.toInt ∧ x_39.toInt ≤ 79 := iv_nel i_x_39 (by decide) c_114
            refine lv_aload_n hx hb dX12_choose_194 rfl (lv_at hl 0 rfl) ?_
            refine lv_iload_n hx hb dX12_choose_195 rfl (lv_at hl 1 rfl) ?_
            refine lv_aload_n hx hb dX12_choose_196 rfl (lv_at hl 0 rfl) ?_
            refine gM_19 hx hb htg hown hK hP dX12_choose_197 ?_
            refine lv_aload_n hx hb dX12_choose_200 rfl (lv_at hl 0 rfl) ?_
            refine gM_26 hx hb htg hown hK hP dX12_choose_201 ?_
            refine lv_iload hx hb dX12_choose_204 (lv_at hl 4 rfl) ?_
            refine lM_26 hx hb hK hP (iv_in i_129 (by decide) (by decide)) dX12_choose_206 (fun v_130 ev_130 => ?_)
            have i_131 : 0 ≤ v_130.toInt ∧ v_130.toInt ≤ 7 := ev_130 ▸ hA_ar_43 26 _
            refine lM_19 hx hb hK hP (iv_in i_131 (by decide) (by decide)) dX12_choose_207 (fun v_132 ev_132 => ?_)
            have i_133 : 0 ≤ v_132.toInt ∧ v_132.toInt ≤ 11 := ev_132 ▸ hA_ar_43 19 _
            refine lv_iconst (v := 1) hx hb dX12_choose_208 (by decide) ?_
            refine lv_iload hx hb dX12_choose_209 (lv_at hl 4 rfl) ?_
            refine va_callv (va_runV (As := [.int pp, .int v_132, .int 1, .int x_39]) (rest := []) ⟨hx, hb, hml, hown, hts⟩ (m_setOut l dC dI H.size h ad cA hd fv_41 wd_45 ar_43 hF_fv_41 hA_ar_43 pp v_132 1 x_39 h_pp i_133 (iv_w (⟨by decide, by decide⟩ : (1 : Int) ≤ (1 : Int32).toInt ∧ (1 : Int32).toInt ≤ 1) (by decide) (by decide)) (iv_w i_129 (by decide) (by decide)) (Or.inr (i_129).1) hp_46) (cwV 4 hts (gV kw_8_216 kw_8_218 kw_p_94 kw_1_15 kw_8_219) rfl rfl rfl (by decide +kernel) ⟨Nat.le_of_ble_eq_true rfl, Nat.le_of_ble_eq_true rfl⟩) ⟨fun a U g mk q => ⟨q.1, q.2.1, q.2.2.1, va_K.moved (u := U) (U := U.calling g mk a) (Vm.Alike.refl U.vm) q.2.2.2⟩, va_recv hK hP (ci := 12) (q0 := 0) rfl rfl, fun U hU hW => ⟨rfl, by rw [hU], by rw [hU]; exact hP, va_K.moved hW.alike hK⟩⟩ rfl rfl hl.1 rfl (lv_room (Nat.le_of_ble_eq_true rfl)) dX12_choose_211 ⟨Nat.le_of_ble_eq_true rfl, Nat.le_of_ble_eq_true rfl⟩) hS (fun q _ h9 => aM_up hS q h9) (aM_up hS) (fun u t H1 locs ht _ hw hB _ hk1 hS => ?_)
            obtain ⟨fv_136, wd_137, ar_138⟩ := u
            obtain ⟨hF_fv_136, hA_ar_138, fr_139, fa_140, p_135, -⟩ := hw
            have hP : va_P (dC, dI) vwCl (wsM h ad cA fv_136 wd_137 ar_138) H1 := by have h9 := hB.1; rw [ht] at h9; exact h9
            have fr_139 : fM [8] fv_41 fv_136 := fr_139
            have fa_140 : fA [4, 15, 18, 68, 69, 70, 71, 72, 74] ar_43 ar_138 := fa_140
            have p_135 : sW ar_138 := p_135
            generalize H1 = H at hP hS ⊢
            refine lv_goto (tgt := 247) hx hb dX12_choose_214 (by decide) ?_
            exact W.vret hx hb hr (fun t ht hW => ⟨⟨(fv_136, wd_137, ar_138), rfl, ⟨hF_fv_136, hA_ar_138, (fM_call (fM_call (fM_call (fM_call (fM_call (fM_rf [8] _) fr_5 (by decide)) fr_15 (by decide)) fr_32 (by decide)) fr_42 (by decide)) fr_139 (by decide)), (fA_call (fA_call (fA_call (fA_call (fA_call (fA_rf [4, 15, 18, 68, 69, 70, 71, 72, 74, 82] _) fa_6 (by decide)) fa_16 (by decide)) fa_34 (by decide)) fa_44 (by decide)) fa_140 (by decide)), p_135, trivial⟩, ⟨by rw [ht]; exact hP, va_K.moved hW.alike hK⟩⟩, hS.F ht⟩) hS.2.2 dX12_choose_247
        · skip
          have i_52 : 0 ≤ x_40.toInt ∧ x_40.toInt ≤ 79 := iv_lt1 i_x_40 i_50 (Int32.not_le.mp c_51)
          have i_53 : 1 ≤ (fv 35).toInt ∧ (fv 35).toInt ≤ 80 := iv_lt2 i_x_40 i_50 (Int32.not_le.mp c_51)
          refine lv_aload_n hx hb dX12_choose_67 rfl (lv_at hl 0 rfl) ?_
          refine lv_iload_n hx hb dX12_choose_68 rfl (lv_at hl 1 rfl) ?_
          refine lv_iload hx hb dX12_choose_69 (lv_at hl 5 rfl) ?_
          refine va_calli (va_runV (As := [.int pp, .int x_40]) (rest := []) ⟨hx, hb, hml, hown, hts⟩ (m_isHeard l dC dI H.size h ad cA hd fv_41 wd_45 ar_43 hF_fv_41 hA_ar_43 pp x_40 h_pp i_52) (cwV 2 hts (gV kw_8_196 kw_8_198 kw_p_89 kw_1_15 kw_8_199) rfl rfl rfl (by decide +kernel) ⟨Nat.le_of_ble_eq_true rfl, Nat.le_of_ble_eq_true rfl⟩) ⟨fun a U g mk q => ⟨q.1, q.2.1, q.2.2.1, va_K.moved (u := U) (U := U.calling g mk a) (Vm.Alike.refl U.vm) q.2.2.2⟩, va_recv hK hP (ci := 12) (q0 := 0) rfl rfl, fun U hU hW => ⟨rfl, by rw [hU], by rw [hU]; exact hP, va_K.moved hW.alike hK⟩⟩ rfl rfl hl.1 rfl (lv_room (Nat.le_of_ble_eq_true rfl)) dX12_choose_71 ⟨Nat.le_of_ble_eq_true rfl, Nat.le_of_ble_eq_true rfl⟩) hS (fun q _ h9 => aM_up hS q h9) (aM_up hS) (fun r_54 u t H1 locs ht _ hw hB _ hk1 hS => ?_)
          obtain ⟨fv_56, wd_57, ar_58⟩ := u
          obtain ⟨hF_fv_56, hA_ar_58, fr_59, fa_60, p_55, -⟩ := hw
          have hP : va_P (dC, dI) vwCl (wsM h ad cA fv_56 wd_57 ar_58) H1 := by have h9 := hB.1; rw [ht] at h9; exact h9
          have fr_59 : fM [8] fv_41 fv_56 := fr_59
          have fa_60 : fA [4] ar_43 ar_58 := fa_60
          generalize H1 = H at hP hS ⊢
          refine my_cut (P := fun R9 a9 Q9 => ∀ (x_102 : Int32) (x_103 : Int32) (fv_104 : Nat → Int32) (ar_106 : Nat → Nat → Int32) (wd_108 : Int64) (H : Heap) (locs : List Loc) (ls : Array Slot), ((-1) ≤ x_103.toInt ∧ x_103.toInt ≤ 79) → rF fv_104 → fM [8] fv_56 fv_104 → rA ar_106 → fA [4] ar_58 ar_106 → sW ar_106 → va_P (dC, dI) vwCl (wsM h ad cA fv_104 wd_108 ar_106) H → va_S (aM h ad s.heap.size) s.heap H locs → lv_has ls 6 [(0, .ref h), (1, .int pp), (2, .int a), (3, .int x_102), (4, .int x_103), (5, .int x_40)] → W p l e R9 s m a9 below meth c H locs 0 0 Q9 (F0 m 182 ls [])) ?_ (fun hj_110 => ?_)
          · intro x_102 x_103 fv_104 ar_106 wd_108 H locs ls i_x_103 hF_fv_104 fr_105 hA_ar_106 fa_107 hp_109 hP hS hl
            obtain ⟨v_111, ev_111⟩ : ∃ z : Int32, z = x_40 + 1 := ⟨_, rfl⟩
            refine lv_iinc (v := v_111) (lv' := [(5, .int v_111), (0, .ref h), (1, .int pp), (2, .int a), (3, .int x_102), (4, .int x_103)]) hx hb dX12_choose_182 hl (k := 5) rfl (by rw [ev_111]; rfl) (by decide) rfl (fun ls hl => ?_)
            have t_112 : v_111.toInt = x_40.toInt + 1 ∧ 1 ≤ v_111.toInt ∧ v_111.toInt ≤ 80 := iv_addc ev_111 i_52 (by decide) (by decide) (by decide)
            refine lv_goto (tgt := 58) hx hb dX12_choose_185 (by decide) ?_
            exact ih_47 x_102 x_103 v_111 fv_104 ar_106 wd_108 _ _ ls (by omega) i_x_103 (iv_w t_112.2 (by decide) (by decide)) hF_fv_104 (fM_call (fM_call (fM_call (fM_rf [8] _) fr_42 (by decide)) fr_59 (by decide)) fr_105 (by decide)) hA_ar_106 (fA_call (fA_call (fA_call (fA_rf [4] _) fa_44 (by decide)) fa_60 (by decide)) fa_107 (by decide)) hp_109 hP hS (lv_sub hl [1, 2, 3, 4, 5, 0] rfl)
          · skip
            refine lv_if_eq (tgt := 182) hx hb dX12_choose_74 (by decide) (fun c_61 => ?_) (fun c_61 => ?_)
            · skip
              have i_62 : 0 ≤ r_54.toInt ∧ r_54.toInt ≤ 0 := iv_eq1 (⟨by decide, by decide⟩ : (0 : Int) ≤ (0 : Int32).toInt ∧ (0 : Int32).toInt ≤ 0) c_61
              exact hj_110 x_38 x_39 fv_56 ar_58 wd_57 _ _ ls i_x_39 hF_fv_56 (fM_rf [8] _) hA_ar_58 (fA_rf [4] _) (sW_fr hp_46 (fA_call (fA_rf [4] _) fa_60 (by decide)) rfl rfl) hP hS (lv_sub hl [0, 1, 2, 3, 4, 5] rfl)
            · skip
              have i_63 : 1 ≤ r_54.toInt ∧ r_54.toInt ≤ 1 := iv_nel p_55 (by decide) c_61
              refine lv_aload_n hx hb dX12_choose_77 rfl (lv_at hl 0 rfl) ?_
              refine gM_28 hx hb htg hown hK hP dX12_choose_78 ?_
              refine lv_iload hx hb dX12_choose_81 (lv_at hl 5 rfl) ?_
              refine lM_28 hx hb hK hP (iv_in i_52 (by decide) (by decide)) dX12_choose_83 (fun v_64 ev_64 => ?_)
              refine lv_iload_n hx hb dX12_choose_84 rfl (lv_at hl 2 rfl) ?_
              refine lv_icmp_lt (tgt := 182) hx hb dX12_choose_85 (by decide) (fun c_65 => ?_) (fun c_65 => ?_)
              · skip
                have i_66 : (-2147483648) ≤ v_64.toInt ∧ v_64.toInt ≤ 2147483646 := iv_lt1 (iv_any v_64) (iv_any a) c_65
                have i_67 : (-2147483647) ≤ a.toInt ∧ a.toInt ≤ 2147483647 := iv_lt2 (iv_any v_64) (iv_any a) c_65
                exact hj_110 x_38 x_39 fv_56 ar_58 wd_57 _ _ ls i_x_39 hF_fv_56 (fM_rf [8] _) hA_ar_58 (fA_rf [4] _) (sW_fr hp_46 (fA_call (fA_rf [4] _) fa_60 (by decide)) rfl rfl) hP hS (lv_sub hl [0, 1, 2, 3, 4, 5] rfl)
              · skip
                refine lv_aload_n hx hb dX12_choose_88 rfl (lv_at hl 0 rfl) ?_
                refine lv_aload_n hx hb dX12_choose_89 rfl (lv_at hl 0 rfl) ?_
                refine gM_69 hx hb htg hown hK hP dX12_choose_90 ?_
                refine lv_iload_n hx hb dX12_choose_93 rfl (lv_at hl 1 rfl) ?_
                refine lM_69 hx hb hK hP (iv_in h_pp (by decide) (by decide)) dX12_choose_94 (fun v_68 ev_68 => ?_)
                obtain rfl : v_7 = v_68 := ev_7.trans ((congrFun ((fA_call (fA_call (fA_call (fA_call (fA_rf [4] _) fa_16 (by decide)) fa_34 (by decide)) fa_44 (by decide)) fa_60 (by decide)) 69 rfl) _).symm.trans ev_68.symm)
                refine lv_aload_n hx hb dX12_choose_95 rfl (lv_at hl 0 rfl) ?_
                refine gM_19 hx hb htg hown hK hP dX12_choose_96 ?_
                refine lv_aload_n hx hb dX12_choose_99 rfl (lv_at hl 0 rfl) ?_
                refine gM_26 hx hb htg hown hK hP dX12_choose_100 ?_
                refine lv_iload hx hb dX12_choose_103 (lv_at hl 5 rfl) ?_
                refine lM_26 hx hb hK hP (iv_in i_52 (by decide) (by decide)) dX12_choose_105 (fun v_69 ev_69 => ?_)
                have i_70 : 0 ≤ v_69.toInt ∧ v_69.toInt ≤ 7 := ev_69 ▸ hA_ar_58 26 _
                refine lM_19 hx hb hK hP (iv_in i_70 (by decide) (by decide)) dX12_choose_106 (fun v_71 ev_71 => ?_)
                have i_72 : 0 ≤ v_71.toInt ∧ v_71.toInt ≤ 11 := ev_71 ▸ hA_ar_58 19 _
                refine va_calli (va_runV (As := [.int v_7, .int v_71]) (rest := []) ⟨hx, hb, hml, hown, hts⟩ (m_farOf l dC dI H.size h ad cA hd fv_56 wd_57 ar_58 hF_fv_56 hA_ar_58 v_7 v_71 i_8 i_72) (cwV 2 hts (gV kw_7_237 kw_7_239 kw_p_59 kw_1_15 kw_8_0) rfl rfl rfl (by decide +kernel) ⟨Nat.le_of_ble_eq_true rfl, Nat.le_of_ble_eq_true rfl⟩) ⟨fun a U g mk q => ⟨q.1, q.2.1, q.2.2.1, va_K.moved (u := U) (U := U.calling g mk a) (Vm.Alike.refl U.vm) q.2.2.2⟩, va_recv hK hP (ci := 12) (q0 := 0) rfl rfl, fun U hU hW => ⟨rfl, by rw [hU], by rw [hU]; exact hP, va_K.moved hW.alike hK⟩⟩ rfl rfl hl.1 rfl (lv_room (Nat.le_of_ble_eq_true rfl)) dX12_choose_107 ⟨Nat.le_of_ble_eq_true rfl, Nat.le_of_ble_eq_true rfl⟩) hS (fun q _ h9 => aM_up hS q h9) (aM_up hS) (fun r_73 u t H1 locs ht _ hw hB _ hk1 hS => ?_)
                obtain ⟨fv_74, wd_75, ar_76⟩ := u
                obtain ⟨hF_fv_74, hA_ar_76, fr_77, fa_78, -⟩ := hw
                have hP : va_P (dC, dI) vwCl (wsM h ad cA fv_74 wd_75 ar_76) H1 := by have h9 := hB.1; rw [ht] at h9; exact h9
                have fr_77 : fM [8] fv_56 fv_74 := fr_77
                have fa_78 : fA [4] ar_58 ar_76 := fa_78
                generalize H1 = H at hP hS ⊢
                refine lv_ldc hx hb hown (htg (.constant RX12 225 100000) kw_7_232) dX12_choose_110 ?_
                refine lv_icmp_lt (tgt := 118) hx hb dX12_choose_112 (by decide) (fun c_79 => ?_) (fun c_79 => ?_)
                · skip
                  have i_80 : (-2147483648) ≤ r_73.toInt ∧ r_73.toInt ≤ 99999 := iv_lt1 (iv_any r_73) (⟨by decide, by decide⟩ : (100000 : Int) ≤ (100000 : Int32).toInt ∧ (100000 : Int32).toInt ≤ 100000) c_79
                  refine lv_aload_n hx hb dX12_choose_118 rfl (lv_at hl 0 rfl) ?_
                  refine gM_85 hx hb htg hown hK hP dX12_choose_119 ?_
                  refine my_ti (y := fv 85) ((fr_77 85 rfl).trans ((fr_59 85 rfl).trans ((fr_42 85 rfl).trans ((fr_32 85 rfl).trans ((fr_15 85 rfl).trans ((fr_5 85 rfl))))))) ?_
                  have i_81 : 0 ≤ (fv 85).toInt ∧ (fv 85).toInt ≤ 840 := hF_fv 85
                  refine lv_aload_n hx hb dX12_choose_122 rfl (lv_at hl 0 rfl) ?_
                  refine lv_iload_n hx hb dX12_choose_123 rfl (lv_at hl 1 rfl) ?_
                  refine lv_aload_n hx hb dX12_choose_124 rfl (lv_at hl 0 rfl) ?_
                  refine gM_69 hx hb htg hown hK hP dX12_choose_125 ?_
                  refine lv_iload_n hx hb dX12_choose_128 rfl (lv_at hl 1 rfl) ?_
                  refine lM_69 hx hb hK hP (iv_in h_pp (by decide) (by decide)) dX12_choose_129 (fun v_82 ev_82 => ?_)
                  obtain rfl : v_7 = v_82 := ev_7.trans ((congrFun ((fA_call (fA_call (fA_call (fA_call (fA_call (fA_rf [4] _) fa_16 (by decide)) fa_34 (by decide)) fa_44 (by decide)) fa_60 (by decide)) fa_78 (by decide)) 69 rfl) _).symm.trans ev_82.symm)
                  refine lv_aload_n hx hb dX12_choose_130 rfl (lv_at hl 0 rfl) ?_
                  refine gM_19 hx hb htg hown hK hP dX12_choose_131 ?_
                  refine lv_aload_n hx hb dX12_choose_134 rfl (lv_at hl 0 rfl) ?_
                  refine gM_26 hx hb htg hown hK hP dX12_choose_135 ?_
                  refine lv_iload hx hb dX12_choose_138 (lv_at hl 5 rfl) ?_
                  refine lM_26 hx hb hK hP (iv_in i_52 (by decide) (by decide)) dX12_choose_140 (fun v_83 ev_83 => ?_)
                  obtain rfl : v_69 = v_83 := ev_69.trans ((congrFun ((fA_call (fA_rf [4] _) fa_78 (by decide)) 26 rfl) _).symm.trans ev_83.symm)
                  refine lM_19 hx hb hK hP (iv_in i_70 (by decide) (by decide)) dX12_choose_141 (fun v_84 ev_84 => ?_)
                  obtain rfl : v_71 = v_84 := ev_71.trans ((congrFun ((fA_call (fA_rf [4] _) fa_78 (by decide)) 19 rfl) _).symm.trans ev_84.symm)
                  refine va_calli (va_runV (As := [.int pp, .int v_7, .int v_71]) (rest := [.int (fv 85)]) ⟨hx, hb, hml, hown, hts⟩ (m_walk l dC dI H.size h ad cA hd fv_74 wd_75 ar_76 hF_fv_74 hA_ar_76 pp v_7 v_71 h_pp i_8 i_72) (cwV 3 hts (gV kw_8_208 kw_8_210 kw_p_92 kw_1_15 kw_8_211) rfl rfl rfl (by decide +kernel) ⟨Nat.le_of_ble_eq_true rfl, Nat.le_of_ble_eq_true rfl⟩) ⟨fun a U g mk q => ⟨q.1, q.2.1, q.2.2.1, va_K.moved (u := U) (U := U.calling g mk a) (Vm.Alike.refl U.vm) q.2.2.2⟩, va_recv hK hP (ci := 12) (q0 := 0) rfl rfl, fun U hU hW => ⟨rfl, by rw [hU], by rw [hU]; exact hP, va_K.moved hW.alike hK⟩⟩ rfl rfl hl.1 rfl (lv_room (Nat.le_of_ble_eq_true rfl)) dX12_choose_142 ⟨Nat.le_of_ble_eq_true rfl, Nat.le_of_ble_eq_true rfl⟩) hS (fun q _ h9 => aM_up hS q h9) (aM_up hS) (fun r_85 u t H1 locs ht _ hw hB _ hk1 hS => ?_)
                  obtain ⟨fv_86, wd_87, ar_88⟩ := u
                  obtain ⟨hF_fv_86, hA_ar_88, fr_89, fa_90, -⟩ := hw
                  have hP : va_P (dC, dI) vwCl (wsM h ad cA fv_86 wd_87 ar_88) H1 := by have h9 := hB.1; rw [ht] at h9; exact h9
                  have fr_89 : fM [8] fv_74 fv_86 := fr_89
                  have fa_90 : fA [4] ar_76 ar_88 := fa_90
                  generalize H1 = H at hP hS ⊢
                  refine lv_iadd hx hb dX12_choose_145 ?_
                  refine lv_topi (fun v_91 ev_91 => ?_)
                  refine lv_aload_n hx hb dX12_choose_146 rfl (lv_at hl 0 rfl) ?_
                  refine gM_28 hx hb htg hown hK hP dX12_choose_147 ?_
                  refine lv_iload hx hb dX12_choose_150 (lv_at hl 5 rfl) ?_
                  refine lM_28 hx hb hK hP (iv_in i_52 (by decide) (by decide)) dX12_choose_152 (fun v_92 ev_92 => ?_)
                  obtain rfl : v_64 = v_92 := ev_64.trans ((congrFun ((fA_call (fA_call (fA_rf [4] _) fa_78 (by decide)) fa_90 (by decide)) 28 rfl) _).symm.trans ev_92.symm)
                  refine lv_icmp_gt (tgt := 182) hx hb dX12_choose_153 (by decide) (fun c_93 => ?_) (fun c_93 => ?_)
                  · skip
                    have i_94 : (-2147483648) ≤ v_64.toInt ∧ v_64.toInt ≤ 2147483646 := iv_lt1 (iv_any v_64) (iv_any v_91) c_93
                    have i_95 : (-2147483647) ≤ v_91.toInt ∧ v_91.toInt ≤ 2147483647 := iv_lt2 (iv_any v_64) (iv_any v_91) c_93
                    exact hj_110 x_38 x_39 fv_86 ar_88 wd_87 _ _ ls i_x_39 hF_fv_86 (fM_call (fM_call (fM_rf [8] _) fr_77 (by decide)) fr_89 (by decide)) hA_ar_88 (fA_call (fA_call (fA_rf [4] _) fa_78 (by decide)) fa_90 (by decide)) (sW_fr hp_46 (fA_call (fA_call (fA_call (fA_rf [4] _) fa_60 (by decide)) fa_78 (by decide)) fa_90 (by decide)) rfl rfl) hP hS (lv_sub hl [0, 1, 2, 3, 4, 5] rfl)
                  · skip
                    refine lv_aload_n hx hb dX12_choose_156 rfl (lv_at hl 0 rfl) ?_
                    refine gM_82 hx hb htg hown hK hP dX12_choose_157 ?_
                    refine lv_iload hx hb dX12_choose_160 (lv_at hl 5 rfl) ?_
                    refine lM_82 hx hb hK hP (iv_in i_52 (by decide) (by decide)) dX12_choose_162 (fun v_96 ev_96 => ?_)
                    refine lv_iload_n hx hb dX12_choose_163 rfl (lv_at hl 3 rfl) ?_
                    refine lv_icmp_lt (tgt := 170) hx hb dX12_choose_164 (by decide) (fun c_97 => ?_) (fun c_97 => ?_)
                    · skip
                      have i_98 : (-2147483648) ≤ v_96.toInt ∧ v_96.toInt ≤ 2147483646 := iv_lt1 (iv_any v_96) (iv_any x_38) c_97
                      have i_99 : (-2147483647) ≤ x_38.toInt ∧ x_38.toInt ≤ 2147483647 := iv_lt2 (iv_any v_96) (iv_any x_38) c_97
                      refine lv_aload_n hx hb dX12_choose_170 rfl (lv_at hl 0 rfl) ?_
                      refine gM_82 hx hb htg hown hK hP dX12_choose_171 ?_
                      refine lv_iload hx hb dX12_choose_174 (lv_at hl 5 rfl) ?_
                      refine lM_82 hx hb hK hP (iv_in i_52 (by decide) (by decide)) dX12_choose_176 (fun v_100 ev_100 => ?_)
                      obtain rfl : v_96 = v_100 := ev_96.trans ev_100.symm
                      refine lv_istore_n (lv' := [(3, .int v_96), (0, .ref h), (1, .int pp), (2, .int a), (4, .int x_39), (5, .int x_40)]) hx hb dX12_choose_177 rfl hl (by decide) rfl (fun ls hl => ?_)
                      refine lv_iload hx hb dX12_choose_178 (lv_at hl 5 rfl) ?_
                      refine lv_istore (lv' := [(4, .int x_40), (3, .int v_96), (0, .ref h), (1, .int pp), (2, .int a), (5, .int x_40)]) hx hb dX12_choose_180 hl (by decide) rfl (fun ls hl => ?_)
                      exact hj_110 v_96 x_40 fv_86 ar_88 wd_87 _ _ ls (iv_w i_52 (by decide) (by decide)) hF_fv_86 (fM_call (fM_call (fM_rf [8] _) fr_77 (by decide)) fr_89 (by decide)) hA_ar_88 (fA_call (fA_call (fA_rf [4] _) fa_78 (by decide)) fa_90 (by decide)) (sW_fr hp_46 (fA_call (fA_call (fA_call (fA_rf [4] _) fa_60 (by decide)) fa_78 (by decide)) fa_90 (by decide)) rfl rfl) hP hS (lv_sub hl [2, 3, 4, 1, 0, 5] rfl)
                    · skip
                      refine lv_goto (tgt := 182) hx hb dX12_choose_167 (by decide) ?_
                      exact hj_110 x_38 x_39 fv_86 ar_88 wd_87 _ _ ls i_x_39 hF_fv_86 (fM_call (fM_call (fM_rf [8] _) fr_77 (by decide)) fr_89 (by decide)) hA_ar_88 (fA_call (fA_call (fA_rf [4] _) fa_78 (by decide)) fa_90 (by decide)) (sW_fr hp_46 (fA_call (fA_call (fA_call (fA_rf [4] _) fa_60 (by decide)) fa_78 (by decide)) fa_90 (by decide)) rfl rfl) hP hS (lv_sub hl [0, 1, 2, 3, 4, 5] rfl)
                · skip
                  have i_101 : 100000 ≤ r_73.toInt ∧ r_73.toInt ≤ 2147483647 := iv_le2 (⟨by decide, by decide⟩ : (100000 : Int) ≤ (100000 : Int32).toInt ∧ (100000 : Int32).toInt ≤ 100000) (iv_any r_73) (Int32.not_lt.mp c_79)
                  refine lv_goto (tgt := 182) hx hb dX12_choose_115 (by decide) ?_
                  exact hj_110 x_38 x_39 fv_74 ar_76 wd_75 _ _ ls i_x_39 hF_fv_74 (fM_call (fM_rf [8] _) fr_77 (by decide)) hA_ar_76 (fA_call (fA_rf [4] _) fa_78 (by decide)) (sW_fr hp_46 (fA_call (fA_call (fA_rf [4] _) fa_60 (by decide)) fa_78 (by decide)) rfl rfl) hP hS (lv_sub hl [0, 1, 2, 3, 4, 5] rfl)
    · skip
      have z_141 : ((-1) : Int32).toInt = (-1) := by decide
      have z_142 : (0 : Int32).toInt = 0 := by decide
      exact hj_49 81 x_30 (-1) 0 fv_31 ar_33 wd_35 _ _ ls (by first | decide | omega) (iv_w (⟨by decide, by decide⟩ : (-1 : Int) ≤ ((-1) : Int32).toInt ∧ ((-1) : Int32).toInt ≤ -1) (by decide) (by decide)) (iv_w (⟨by decide, by decide⟩ : (0 : Int) ≤ (0 : Int32).toInt ∧ (0 : Int32).toInt ≤ 0) (by decide) (by decide)) hF_fv_31 (fM_rf [8] _) hA_ar_33 (fA_rf [4] _) hp_36 hP hS (lv_sub hl [1, 2, 3, 4, 5, 0] rfl)
  · skip
    refine lv_icmp_ge (tgt := 55) hx hb dX12_choose_29 (by decide) (fun c_17 => ?_) (fun c_17 => ?_)
    · skip
      have i_18 : 100000 ≤ r_11.toInt ∧ r_11.toInt ≤ 2147483647 := iv_le2 (⟨by decide, by decide⟩ : (100000 : Int) ≤ (100000 : Int32).toInt ∧ (100000 : Int32).toInt ≤ 100000) (iv_any r_11) c_17
      exact hj_37 100000 fv_12 ar_14 wd_13 _ _ ls hF_fv_12 (fM_rf [8] _) hA_ar_14 (fA_rf [4] _) (sW_fr hp_sW (fA_call (fA_call (fA_rf [4, 82] _) fa_6 (by decide)) fa_16 (by decide)) rfl rfl) hP hS (lv_sub hl [2, 3, 4, 1, 0] rfl)
    · skip
      have i_19 : (-2147483648) ≤ r_11.toInt ∧ r_11.toInt ≤ 99999 := iv_lt1 (iv_any r_11) (⟨by decide, by decide⟩ : (100000 : Int) ≤ (100000 : Int32).toInt ∧ (100000 : Int32).toInt ≤ 100000) (Int32.not_le.mp c_17)
      refine lv_aload_n hx hb dX12_choose_32 rfl (lv_at hl 2 rfl) ?_
      refine gM_85 hx hb htg hown hK hP dX12_choose_33 ?_
      refine my_ti (y := fv 85) ((fr_15 85 rfl).trans ((fr_5 85 rfl))) ?_
      have i_20 : 0 ≤ (fv 85).toInt ∧ (fv 85).toInt ≤ 840 := hF_fv 85
      refine lv_aload_n hx hb dX12_choose_36 rfl (lv_at hl 2 rfl) ?_
      refine lv_iload_n hx hb dX12_choose_37 rfl (lv_at hl 3 rfl) ?_
      refine lv_aload_n hx hb dX12_choose_38 rfl (lv_at hl 2 rfl) ?_
      refine gM_69 hx hb htg hown hK hP dX12_choose_39 ?_
      refine lv_iload_n hx hb dX12_choose_42 rfl (lv_at hl 3 rfl) ?_
      refine lM_69 hx hb hK hP (iv_in h_pp (by decide) (by decide)) dX12_choose_43 (fun v_21 ev_21 => ?_)
      obtain rfl : v_7 = v_21 := ev_7.trans ((congrFun ((fA_call (fA_rf [4] _) fa_16 (by decide)) 69 rfl) _).symm.trans ev_21.symm)
      refine lv_aload_n hx hb dX12_choose_44 rfl (lv_at hl 2 rfl) ?_
      refine gM_10 hx hb htg hown hK hP dX12_choose_45 ?_
      refine lv_iload_n hx hb dX12_choose_48 rfl (lv_at hl 3 rfl) ?_
      refine lM_10 hx hb hK hP (iv_in h_pp (by decide) (by decide)) dX12_choose_49 (fun v_22 ev_22 => ?_)
      obtain rfl : v_9 = v_22 := ev_9.trans ((congrFun ((fA_call (fA_rf [4] _) fa_16 (by decide)) 10 rfl) _).symm.trans ev_22.symm)
      refine va_calli (va_runV (As := [.int pp, .int v_7, .int v_9]) (rest := [.int (fv 85)]) ⟨hx, hb, hml, hown, hts⟩ (m_walk l dC dI H.size h ad cA hd fv_12 wd_13 ar_14 hF_fv_12 hA_ar_14 pp v_7 v_9 h_pp i_8 i_10) (cwV 3 hts (gV kw_8_208 kw_8_210 kw_p_92 kw_1_15 kw_8_211) rfl rfl rfl (by decide +kernel) ⟨Nat.le_of_ble_eq_true rfl, Nat.le_of_ble_eq_true rfl⟩) ⟨fun a U g mk q => ⟨q.1, q.2.1, q.2.2.1, va_K.moved (u := U) (U := U.calling g mk a) (Vm.Alike.refl U.vm) q.2.2.2⟩, va_recv hK hP (ci := 12) (q0 := 0) rfl rfl, fun U hU hW => ⟨rfl, by rw [hU], by rw [hU]; exact hP, va_K.moved hW.alike hK⟩⟩ rfl rfl hl.1 rfl (lv_room (Nat.le_of_ble_eq_true rfl)) dX12_choose_50 ⟨Nat.le_of_ble_eq_true rfl, Nat.le_of_ble_eq_true rfl⟩) hS (fun q _ h9 => aM_up hS q h9) (aM_up hS) (fun r_23 u t H1 locs ht _ hw hB _ hk1 hS => ?_)
      obtain ⟨fv_24, wd_25, ar_26⟩ := u
      obtain ⟨hF_fv_24, hA_ar_26, fr_27, fa_28, -⟩ := hw
      have hP : va_P (dC, dI) vwCl (wsM h ad cA fv_24 wd_25 ar_26) H1 := by have h9 := hB.1; rw [ht] at h9; exact h9
      have fr_27 : fM [8] fv_12 fv_24 := fr_27
      have fa_28 : fA [4] ar_14 ar_26 := fa_28
      generalize H1 = H at hP hS ⊢
      refine lv_iadd hx hb dX12_choose_53 ?_
      refine lv_topi (fun v_29 ev_29 => ?_)
      refine lv_istore_n (lv' := [(3, .int v_29), (4, .int (-1)), (0, .ref h), (1, .int pp), (2, .int a)]) hx hb dX12_choose_54 rfl hl (by decide) rfl (fun ls hl => ?_)
      exact hj_37 v_29 fv_24 ar_26 wd_25 _ _ ls hF_fv_24 (fM_call (fM_rf [8] _) fr_27 (by decide)) hA_ar_26 (fA_call (fA_rf [4] _) fa_28 (by decide)) (sW_fr hp_sW (fA_call (fA_call (fA_call (fA_rf [4, 82] _) fa_6 (by decide)) fa_16 (by decide)) fa_28 (by decide)) rfl rfl) hP hS (lv_sub hl [2, 3, 4, 0, 1] rfl)
set_option maxHeartbeats 4000000 in
set_option maxRecDepth 100000 in
theorem m_holds (l : Launch) (dC : Nat → ClassId) (dI : Nat → Nat → Nat) (sz h : Nat) (ad : Nat → Nat) (cA : Nat → ClassId) (hd : dM h ad) (fv : Nat → Int32) (wd : Int64) (ar : Nat → Nat → Int32) (hF_fv : rF fv) (hA_ar : rA ar) (bb : Int32) (ff : Int32) (tt : Int32) (h_bb : 0 ≤ bb.toInt ∧ bb.toInt ≤ 9) (h_ff : 0 ≤ ff.toInt ∧ ff.toInt ≤ 120) (h_tt : 0 ≤ tt.toInt ∧ tt.toInt ≤ 120) (hvp : vP (ar 54) (120 * bb.toInt + ff.toInt).toNat (120 * bb.toInt + tt.toInt).toNat) : Met l yX12_holds (.code yX12_holds cX12_holds 10 (some .boolean) :: lw_good) ({ frames := 2, cells := 0, slots := 0, locals := 40 }) (va_Pc [.ref h, .int bb, .int ff, .int tt] (prM dC dI h ad cA fv wd ar sz)) (va_Qi (fun (r : Int32) (u : mS) => rF u.1 ∧ rA u.2.2 ∧ fM [] fv u.1 ∧ fA [65] ar u.2.2 ∧ (0 ≤ r.toInt ∧ r.toInt ≤ 1) ∧ True) (enM dC dI h ad cA) (aM h ad sz)) 0 0 (aM h ad sz) := by
  refine Met.ofW (cc := cX12_holds) (maxL := 10) (ret := (some .boolean)) (by decide) rfl ?_
  intro p e s m args below meth c s₁ B hml hv
  obtain ⟨rfl, hsz, hP, hK⟩ := hv
  have hx := B.exec
  have hb := B.bytes
  have hr := B.returns
  have hts := atoms_spec (ws := (.code yX12_holds cX12_holds 10 (some .boolean) :: lw_good)) B.pre
  have htg : ∀ w ∈ lw_good, w.before _ s = true := fun w hw => hts w (List.mem_cons_of_mem _ hw)
  have hown : s.vm.findClass RX12 = some m.cls := findClass_of_methodNamed B.named
  have hlocks := B.notSynchronized
  subst hsz
  have hS : va_S (aM h ad s.heap.size) s.heap s.heap [] := va_S.rf
  have hl := lv_entry ([.ref h, .int bb, .int ff, .int tt]) (n := 10) (Nat.le_of_ble_eq_true rfl)
  rw [lg_entry_eq]
  generalize (lg_sl ([.ref h, .int bb, .int ff, .int tt]) ++ List.replicate (10 - (lg_sl ([.ref h, .int bb, .int ff, .int tt])).length) Slot.unset).toArray = ls at hl ⊢
  have hl : lv_has ls 10 [(0, .ref h), (1, .int bb), (2, .int ff), (3, .int tt)] := hl
  refine lv_iconst (v := 0) hx hb dX12_holds_0 (by decide) ?_
  refine lv_istore (lv' := [(4, .int 0), (0, .ref h), (1, .int bb), (2, .int ff), (3, .int tt)]) hx hb dX12_holds_1 hl (by decide) rfl (fun ls hl => ?_)
  refine lv_iload_n hx hb dX12_holds_3 rfl (lv_at hl 3 rfl) ?_
  refine lv_istore (lv' := [(5, .int ff), (4, .int 0), (0, .ref h), (1, .int bb), (2, .int ff), (3, .int tt)]) hx hb dX12_holds_4 hl (by decide) rfl (fun ls hl => ?_)
  refine my_cut (P := fun R9 a9 Q9 => ∀ (n_7 : Nat) (x_1 : Int32) (x_2 : Int32) (ar_3 : Nat → Nat → Int32) (H : Heap) (locs : List Loc) (ls : Array Slot), 120 - x_2.toInt < (n_7 : Int) → (0 ≤ x_1.toInt ∧ x_1.toInt ≤ 61) → (0 ≤ x_2.toInt ∧ x_2.toInt ≤ 120) → rA ar_3 → fA [65] ar ar_3 → (x_1.toInt = dQ (ar 54) (120 * bb.toInt + ff.toInt).toNat (x_2.toInt - ff.toInt).toNat) → (ff.toInt ≤ x_2.toInt) → va_P (dC, dI) vwCl (wsM h ad cA fv wd ar_3) H → va_S (aM h ad s.heap.size) s.heap H locs → lv_has ls 10 [(0, .ref h), (1, .int bb), (3, .int tt), (4, .int x_1), (5, .int x_2)] → W p l e R9 s m a9 below meth c H locs 0 0 Q9 (F0 m 6 ls [])) ?_ (fun hj_9 => ?_)
  · intro n_7
    induction n_7 with
    | zero => intro x_1 x_2 ar_3 H locs ls fu_8 i_x_1 i_x_2 hA_ar_3 fa_4 q_5 q_6; exfalso; omega
    | succ n_7 ih_7 =>
      intro x_1 x_2 ar_3 H locs ls fu_8 i_x_1 i_x_2 hA_ar_3 fa_4 q_5 q_6 hP hS hl
      refine lv_iload hx hb dX12_holds_6 (lv_at hl 4 rfl) ?_
      refine lv_iload_n hx hb dX12_holds_8 rfl (lv_at hl 2 rfl) ?_
      refine lv_icmp_ge (tgt := 284) hx hb dX12_holds_9 (by decide) (fun c_10 => ?_) (fun c_10 => ?_)
      · skip
        have k_11 := Int32.le_iff_toInt_le.mp c_10
        refine lv_iload hx hb dX12_holds_284 (lv_at hl 3 rfl) ?_
        refine lv_if_eq (tgt := 298) hx hb dX12_holds_286 (by decide) (fun c_147 => ?_) (fun c_147 => ?_)
        · skip
          have i_148 : 0 ≤ x_1.toInt ∧ x_1.toInt ≤ 0 := iv_eq1 (⟨by decide, by decide⟩ : (0 : Int) ≤ (0 : Int32).toInt ∧ (0 : Int32).toInt ≤ 0) c_147
          refine lv_iconst (v := 1) hx hb dX12_holds_298 (by decide) ?_
          refine lv_goto (tgt := 303) hx hb dX12_holds_299 (by decide) ?_
          exact W.zret (v := 1) hx hb hr (by decide) (fun t ht hW => ⟨⟨1, (fv, wd, ar_3), rfl, ⟨hF_fv, hA_ar_3, (fM_rf [] _), (fA_call (fA_rf [65] _) fa_4 (by decide)), (iv_w (⟨by decide, by decide⟩ : (1 : Int) ≤ (1 : Int32).toInt ∧ (1 : Int32).toInt ≤ 1) (by decide) (by decide)), trivial⟩, ⟨by rw [ht]; exact hP, va_K.moved hW.alike hK⟩⟩, hS.F ht⟩) hS.2.2 dX12_holds_303
        · skip
          have i_150 : 1 ≤ x_1.toInt ∧ x_1.toInt ≤ 61 := iv_nel i_x_1 (by decide) c_147
          have k_151 : ¬ x_1.toInt = 0 := fun q => c_147 (Int32.toInt_inj.mp q)
          refine lv_aload_n hx hb dX12_holds_289 rfl (lv_at hl 0 rfl) ?_
          refine gM_65 hx hb htg hown hK hP dX12_holds_290 ?_
          refine lv_iconst (v := 0) hx hb dX12_holds_293 (by decide) ?_
          refine lM_65 hx hb hK hP (iv_in (⟨by decide, by decide⟩ : (0 : Int) ≤ (0 : Int32).toInt ∧ (0 : Int32).toInt ≤ 0) (by decide) (by decide)) dX12_holds_294 (fun v_152 ev_152 => ?_)
          have i_153 : 0 ≤ v_152.toInt ∧ v_152.toInt ≤ 1 := ev_152 ▸ hA_ar_3 65 _
          refine lv_if_eq (tgt := 302) hx hb dX12_holds_295 (by decide) (fun c_154 => ?_) (fun c_154 => ?_)
          · skip
            have i_155 : 0 ≤ v_152.toInt ∧ v_152.toInt ≤ 0 := iv_eq1 (⟨by decide, by decide⟩ : (0 : Int) ≤ (0 : Int32).toInt ∧ (0 : Int32).toInt ≤ 0) c_154
            refine lv_iconst (v := 0) hx hb dX12_holds_302 (by decide) ?_
            exact W.zret (v := 0) hx hb hr (by decide) (fun t ht hW => ⟨⟨0, (fv, wd, ar_3), rfl, ⟨hF_fv, hA_ar_3, (fM_rf [] _), (fA_call (fA_rf [65] _) fa_4 (by decide)), (iv_w (⟨by decide, by decide⟩ : (0 : Int) ≤ (0 : Int32).toInt ∧ (0 : Int32).toInt ≤ 0) (by decide) (by decide)), trivial⟩, ⟨by rw [ht]; exact hP, va_K.moved hW.alike hK⟩⟩, hS.F ht⟩) hS.2.2 dX12_holds_303
          · skip
            have i_157 : 1 ≤ v_152.toInt ∧ v_152.toInt ≤ 1 := iv_nel i_153 (by decide) c_154
            have k_158 : ¬ v_152.toInt = 0 := fun q => c_154 (Int32.toInt_inj.mp q)
            refine lv_iconst (v := 1) hx hb dX12_holds_298 (by decide) ?_
            refine lv_goto (tgt := 303) hx hb dX12_holds_299 (by decide) ?_
            exact W.zret (v := 1) hx hb hr (by decide) (fun t ht hW => ⟨⟨1, (fv, wd, ar_3), rfl, ⟨hF_fv, hA_ar_3, (fM_rf [] _), (fA_call (fA_rf [65] _) fa_4 (by decide)), (iv_w (⟨by decide, by decide⟩ : (1 : Int) ≤ (1 : Int32).toInt ∧ (1 : Int32).toInt ≤ 1) (by decide) (by decide)), trivial⟩, ⟨by rw [ht]; exact hP, va_K.moved hW.alike hK⟩⟩, hS.F ht⟩) hS.2.2 dX12_holds_303
      · skip
        have i_12 : 0 ≤ x_2.toInt ∧ x_2.toInt ≤ 119 := iv_lt1 i_x_2 h_tt (Int32.not_le.mp c_10)
        have i_13 : 1 ≤ tt.toInt ∧ tt.toInt ≤ 120 := iv_lt2 i_x_2 h_tt (Int32.not_le.mp c_10)
        have k_14 := Int32.lt_iff_toInt_lt.mp (Int32.not_le.mp c_10)
        refine lv_bipush (v := 120) hx hb dX12_holds_12 (by decide) ?_
        refine lv_iload_n hx hb dX12_holds_14 rfl (lv_at hl 1 rfl) ?_
        refine lv_imul hx hb dX12_holds_15 ?_
        refine lv_topi (fun v_15 ev_15 => ?_)
        have t_16 : v_15.toInt = 120 * bb.toInt ∧ 0 ≤ v_15.toInt ∧ v_15.toInt ≤ 1080 := iv_mulc ev_15 h_bb (by decide) (by decide) (by decide) (by decide)
        refine lv_iload hx hb dX12_holds_16 (lv_at hl 4 rfl) ?_
        refine lv_iadd hx hb dX12_holds_18 ?_
        refine lv_topi (fun v_18 ev_18 => ?_)
        have t_19 : v_18.toInt = v_15.toInt + x_2.toInt ∧ 0 ≤ v_18.toInt ∧ v_18.toInt ≤ 1199 := iv_add ev_18 t_16.2 i_12 (by decide) (by decide)
        refine lv_istore (lv' := [(6, .int v_18), (0, .ref h), (1, .int bb), (3, .int tt), (4, .int x_1), (5, .int x_2)]) hx hb dX12_holds_19 hl (by decide) rfl (fun ls hl => ?_)
        refine lv_aload_n hx hb dX12_holds_21 rfl (lv_at hl 1 rfl) ?_
        refine gM_54 hx hb htg hown hK hP dX12_holds_22 ?_
        refine lv_iload hx hb dX12_holds_25 (lv_at hl 0 rfl) ?_
        refine lM_54 hx hb hK hP (iv_in t_19.2 (by decide) (by decide)) dX12_holds_27 (fun v_21 ev_21 => ?_)
        have i_22 : 0 ≤ v_21.toInt ∧ v_21.toInt ≤ 15 := ev_21 ▸ hA_ar_3 54 _
        refine lv_istore (lv' := [(7, .int v_21), (6, .int v_18), (0, .ref h), (1, .int bb), (3, .int tt), (4, .int x_1), (5, .int x_2)]) hx hb dX12_holds_28 hl (by decide) rfl (fun ls hl => ?_)
        have hw9 : v_21 = ar 54 ((120 * bb.toInt + ff.toInt).toNat + (x_2.toInt - ff.toInt).toNat) := by
          rw [ev_21, ((fA_call (fA_rf [65] _) fa_4 (by decide)) 54 rfl)]; congr 1; show v_18.toInt.toNat = _; omega
        have ok9 := okP_st hvp (n := (x_2.toInt - ff.toInt).toNat) (by omega) hw9 q_5
        refine lv_iload hx hb dX12_holds_30 (lv_at hl 0 rfl) ?_
        refine lv_bipush (v := 12) hx hb dX12_holds_32 (by decide) ?_
        refine my_cut (P := fun R9 a9 Q9 => ∀ (x_139 : Int32) (ar_140 : Nat → Nat → Int32) (H : Heap) (locs : List Loc) (ls : Array Slot), (0 ≤ x_139.toInt ∧ x_139.toInt ≤ 61) → rA ar_140 → fA [65] ar_3 ar_140 → (x_139.toInt = dQ (ar 54) (120 * bb.toInt + ff.toInt).toNat ((x_2.toInt - ff.toInt).toNat + 1)) → va_P (dC, dI) vwCl (wsM h ad cA fv wd ar_140) H → va_S (aM h ad s.heap.size) s.heap H locs → lv_has ls 10 [(0, .ref h), (1, .int bb), (3, .int tt), (4, .int x_139), (5, .int x_2)] → W p l e R9 s m a9 below meth c H locs 0 0 Q9 (F0 m 278 ls [])) ?_ (fun hj_143 => ?_)
        · intro x_139 ar_140 H locs ls i_x_139 hA_ar_140 fa_141 q_142 hP hS hl
          obtain ⟨v_144, ev_144⟩ : ∃ z : Int32, z = x_2 + 1 := ⟨_, rfl⟩
          refine lv_iinc (v := v_144) (lv' := [(5, .int v_144), (0, .ref h), (1, .int bb), (3, .int tt), (4, .int x_139)]) hx hb dX12_holds_278 hl (k := 4) rfl (by rw [ev_144]; rfl) (by decide) rfl (fun ls hl => ?_)
          have t_145 : v_144.toInt = x_2.toInt + 1 ∧ 1 ≤ v_144.toInt ∧ v_144.toInt ≤ 120 := iv_addc ev_144 i_12 (by decide) (by decide) (by decide)
          refine lv_goto (tgt := 6) hx hb dX12_holds_281 (by decide) ?_
          exact ih_7 x_139 v_144 ar_140 _ _ ls (by omega) i_x_139 (iv_w t_145.2 (by decide) (by decide)) hA_ar_140 (fA_call (fA_call (fA_rf [65] _) fa_4 (by decide)) fa_141 (by decide)) (by rw [show (v_144.toInt - ff.toInt).toNat = (x_2.toInt - ff.toInt).toNat + 1 from by omega]; omega) (by omega) hP hS (lv_sub hl [1, 2, 3, 4, 0] rfl)
        · skip
          refine lv_icmp_ne (tgt := 66) hx hb dX12_holds_34 (by decide) (fun c_23 => ?_) (fun c_23 => ?_)
          · skip
            have k_24 : ¬ v_21.toInt = 12 := fun q => c_23 (Int32.toInt_inj.mp q)
            refine lv_iload hx hb dX12_holds_66 (lv_at hl 0 rfl) ?_
            refine lv_bipush (v := 13) hx hb dX12_holds_68 (by decide) ?_
            refine lv_icmp_eq (tgt := 80) hx hb dX12_holds_70 (by decide) (fun c_25 => ?_) (fun c_25 => ?_)
            · skip
              have i_26 : 13 ≤ v_21.toInt ∧ v_21.toInt ≤ 13 := iv_eq1 (⟨by decide, by decide⟩ : (13 : Int) ≤ (13 : Int32).toInt ∧ (13 : Int32).toInt ≤ 13) c_25
              have i_28 : 2 ≤ x_1.toInt ∧ x_1.toInt ≤ 61 := (by omega)
              obtain ⟨v_29, ev_29⟩ : ∃ z : Int32, z = x_1 + (-1) := ⟨_, rfl⟩
              refine lv_iinc (v := v_29) (lv' := [(4, .int v_29), (7, .int v_21), (6, .int v_18), (0, .ref h), (1, .int bb), (3, .int tt), (5, .int x_2)]) hx hb dX12_holds_80 hl (k := 5) rfl (by rw [ev_29]; rfl) (by decide) rfl (fun ls hl => ?_)
              have t_30 : v_29.toInt = x_1.toInt + (-1) ∧ 1 ≤ v_29.toInt ∧ v_29.toInt ≤ 60 := iv_addc ev_29 i_28 (by decide) (by decide) (by decide)
              refine lv_aload_n hx hb dX12_holds_83 rfl (lv_at hl 3 rfl) ?_
              refine gM_65 hx hb htg hown hK hP dX12_holds_84 ?_
              refine lv_iload hx hb dX12_holds_87 (lv_at hl 0 rfl) ?_
              refine lv_iconst (v := 1) hx hb dX12_holds_89 (by decide) ?_
              refine lv_isub hx hb dX12_holds_90 ?_
              refine lv_topi (fun v_32 ev_32 => ?_)
              have t_33 : v_32.toInt = v_29.toInt - 1 ∧ 0 ≤ v_32.toInt ∧ v_32.toInt ≤ 59 := iv_subc ev_32 t_30.2 (by decide) (by decide) (by decide)
              refine lv_iload hx hb dX12_holds_91 (lv_at hl 1 rfl) ?_
              refine lv_bipush (v := 13) hx hb dX12_holds_93 (by decide) ?_
              refine my_cut (P := fun R9 a9 Q9 => ∀ (x_51 : Int32) (H : Heap) (locs : List Loc) (ls : Array Slot), (0 ≤ x_51.toInt ∧ x_51.toInt ≤ 1) → va_P (dC, dI) vwCl (wsM h ad cA fv wd ar_3) H → va_S (aM h ad s.heap.size) s.heap H locs → lv_has ls 10 [(0, .ref h), (1, .int bb), (3, .int tt), (4, .int v_29), (5, .int x_2)] → W p l e R9 s m a9 below meth c H locs 0 0 Q9 (F0 m 155 ls [.int x_51, .int v_32, .ref (ad 65)])) ?_ (fun hj_52 => ?_)
              · intro x_51 H locs ls i_x_51 hP hS hl
                refine sM_65 hx hb hK hP hS hd (iv_in t_33.2 (by decide) (by decide)) dX12_holds_155 (fun H locs ar_53 ear_53 hP hS => ?_)
                have hA_ar_53 : rA ar_53 := rA_put hA_ar_3 ear_53 (iv_vn _)
                refine lv_goto (tgt := 278) hx hb dX12_holds_156 (by decide) ?_
                exact hj_143 v_29 ar_53 _ _ ls (iv_w t_30.2 (by decide) (by decide)) hA_ar_53 (fA_put (fA_rf [65] _) ear_53 (by decide)) (by omega) hP hS (lv_sub hl [0, 1, 2, 3, 4] rfl)
              · skip
                refine lv_icmp_ne (tgt := 128) hx hb dX12_holds_95 (by decide) (fun c_35 => ?_) (fun c_35 => ?_)
                · skip
                  exact absurd True.intro (by have h7 := i_26; have h8 := (⟨by decide, by decide⟩ : (13 : Int) ≤ (13 : Int32).toInt ∧ (13 : Int32).toInt ≤ 13); have h9 : ¬ _ := fun q => c_35 (Int32.toInt_inj.mp q); exfalso; omega)
                · skip
                  refine lv_aload_n hx hb dX12_holds_98 rfl (lv_at hl 3 rfl) ?_
                  refine gM_65 hx hb htg hown hK hP dX12_holds_99 ?_
                  refine lv_iload hx hb dX12_holds_102 (lv_at hl 0 rfl) ?_
                  refine lv_iconst (v := 1) hx hb dX12_holds_104 (by decide) ?_
                  refine lv_isub hx hb dX12_holds_105 ?_
                  refine my_ti (y := v_32) ev_32.symm ?_
                  refine lM_65 hx hb hK hP (iv_in t_33.2 (by decide) (by decide)) dX12_holds_106 (fun v_37 ev_37 => ?_)
                  have i_38 : 0 ≤ v_37.toInt ∧ v_37.toInt ≤ 1 := ev_37 ▸ hA_ar_3 65 _
                  refine lv_if_eq (tgt := 124) hx hb dX12_holds_107 (by decide) (fun c_39 => ?_) (fun c_39 => ?_)
                  · skip
                    have i_40 : 0 ≤ v_37.toInt ∧ v_37.toInt ≤ 0 := iv_eq1 (⟨by decide, by decide⟩ : (0 : Int) ≤ (0 : Int32).toInt ∧ (0 : Int32).toInt ≤ 0) c_39
                    refine lv_iconst (v := 0) hx hb dX12_holds_124 (by decide) ?_
                    refine lv_goto (tgt := 155) hx hb dX12_holds_125 (by decide) ?_
                    exact hj_52 0 _ _ ls (iv_w (⟨by decide, by decide⟩ : (0 : Int) ≤ (0 : Int32).toInt ∧ (0 : Int32).toInt ≤ 0) (by decide) (by decide)) hP hS (lv_sub hl [3, 4, 5, 0, 6] rfl)
                  · skip
                    have i_42 : 1 ≤ v_37.toInt ∧ v_37.toInt ≤ 1 := iv_nel i_38 (by decide) c_39
                    have k_43 : ¬ v_37.toInt = 0 := fun q => c_39 (Int32.toInt_inj.mp q)
                    refine lv_aload_n hx hb dX12_holds_110 rfl (lv_at hl 3 rfl) ?_
                    refine gM_65 hx hb htg hown hK hP dX12_holds_111 ?_
                    refine lv_iload hx hb dX12_holds_114 (lv_at hl 0 rfl) ?_
                    refine lM_65 hx hb hK hP (iv_in t_30.2 (by decide) (by decide)) dX12_holds_116 (fun v_44 ev_44 => ?_)
                    have i_45 : 0 ≤ v_44.toInt ∧ v_44.toInt ≤ 1 := ev_44 ▸ hA_ar_3 65 _
                    refine lv_if_eq (tgt := 124) hx hb dX12_holds_117 (by decide) (fun c_46 => ?_) (fun c_46 => ?_)
                    · skip
                      have i_47 : 0 ≤ v_44.toInt ∧ v_44.toInt ≤ 0 := iv_eq1 (⟨by decide, by decide⟩ : (0 : Int) ≤ (0 : Int32).toInt ∧ (0 : Int32).toInt ≤ 0) c_46
                      refine lv_iconst (v := 0) hx hb dX12_holds_124 (by decide) ?_
                      refine lv_goto (tgt := 155) hx hb dX12_holds_125 (by decide) ?_
                      exact hj_52 0 _ _ ls (iv_w (⟨by decide, by decide⟩ : (0 : Int) ≤ (0 : Int32).toInt ∧ (0 : Int32).toInt ≤ 0) (by decide) (by decide)) hP hS (lv_sub hl [3, 4, 5, 0, 6] rfl)
                    · skip
                      have i_49 : 1 ≤ v_44.toInt ∧ v_44.toInt ≤ 1 := iv_nel i_45 (by decide) c_46
                      have k_50 : ¬ v_44.toInt = 0 := fun q => c_46 (Int32.toInt_inj.mp q)
                      refine lv_iconst (v := 1) hx hb dX12_holds_120 (by decide) ?_
                      refine lv_goto (tgt := 155) hx hb dX12_holds_121 (by decide) ?_
                      exact hj_52 1 _ _ ls (iv_w (⟨by decide, by decide⟩ : (1 : Int) ≤ (1 : Int32).toInt ∧ (1 : Int32).toInt ≤ 1) (by decide) (by decide)) hP hS (lv_sub hl [3, 4, 5, 0, 6] rfl)
            · skip
              have k_54 : ¬ v_21.toInt = 13 := fun q => c_25 (Int32.toInt_inj.mp q)
              refine lv_iload hx hb dX12_holds_73 (lv_at hl 0 rfl) ?_
              refine lv_bipush (v := 14) hx hb dX12_holds_75 (by decide) ?_
              refine lv_icmp_ne (tgt := 159) hx hb dX12_holds_77 (by decide) (fun c_55 => ?_) (fun c_55 => ?_)
              · skip
                have k_56 : ¬ v_21.toInt = 14 := fun q => c_55 (Int32.toInt_inj.mp q)
                have i_57 : 0 ≤ x_1.toInt ∧ x_1.toInt ≤ 60 := (by omega)
                refine lv_aload_n hx hb dX12_holds_159 rfl (lv_at hl 2 rfl) ?_
                refine gM_64 hx hb htg hown hK hP dX12_holds_160 ?_
                refine lv_iload hx hb dX12_holds_163 (lv_at hl 0 rfl) ?_
                refine lM_64 hx hb hK hP (vp_in_iff.mpr (by omega)) dX12_holds_165 (fun v_58 ev_58 => ?_)
                refine lv_istore (lv' := [(8, .int v_58), (7, .int v_21), (6, .int v_18), (0, .ref h), (1, .int bb), (3, .int tt), (4, .int x_1), (5, .int x_2)]) hx hb dX12_holds_166 hl (by decide) rfl (fun ls hl => ?_)
                refine lv_aload_n hx hb dX12_holds_168 rfl (lv_at hl 3 rfl) ?_
                refine gM_55 hx hb htg hown hK hP dX12_holds_169 ?_
                refine lv_iload hx hb dX12_holds_172 (lv_at hl 2 rfl) ?_
                refine lM_55 hx hb hK hP (iv_in t_19.2 (by decide) (by decide)) dX12_holds_174 (fun v_59 ev_59 => ?_)
                refine lv_istore (lv' := [(9, .int v_59), (8, .int v_58), (7, .int v_21), (6, .int v_18), (0, .ref h), (1, .int bb), (3, .int tt), (4, .int x_1), (5, .int x_2)]) hx hb dX12_holds_175 hl (by decide) rfl (fun ls hl => ?_)
                refine lv_aload_n hx hb dX12_holds_177 rfl (lv_at hl 4 rfl) ?_
                refine gM_65 hx hb htg hown hK hP dX12_holds_178 ?_
                refine lv_iload hx hb dX12_holds_181 (lv_at hl 7 rfl) ?_
                refine lv_iload hx hb dX12_holds_183 (lv_at hl 2 rfl) ?_
                refine lv_iconst (v := 4) hx hb dX12_holds_185 (by decide) ?_
                refine my_cut (P := fun R9 a9 Q9 => ∀ (x_90 : Int32) (H : Heap) (locs : List Loc) (ls : Array Slot), (0 ≤ x_90.toInt ∧ x_90.toInt ≤ 1) → va_P (dC, dI) vwCl (wsM h ad cA fv wd ar_3) H → va_S (aM h ad s.heap.size) s.heap H locs → lv_has ls 10 [(0, .ref h), (1, .int bb), (3, .int tt), (4, .int x_1), (5, .int x_2)] → W p l e R9 s m a9 below meth c H locs 0 0 Q9 (F0 m 274 ls [.int x_90, .int x_1, .ref (ad 65)])) ?_ (fun hj_91 => ?_)
                · intro x_90 H locs ls i_x_90 hP hS hl
                  refine sM_65 hx hb hK hP hS hd (iv_in i_57 (by decide) (by decide)) dX12_holds_274 (fun H locs ar_92 ear_92 hP hS => ?_)
                  have hA_ar_92 : rA ar_92 := rA_put hA_ar_3 ear_92 (iv_vn _)
                  obtain ⟨v_93, ev_93⟩ : ∃ z : Int32, z = x_1 + 1 := ⟨_, rfl⟩
                  refine lv_iinc (v := v_93) (lv' := [(4, .int v_93), (0, .ref h), (1, .int bb), (3, .int tt), (5, .int x_2)]) hx hb dX12_holds_275 hl (k := 3) rfl (by rw [ev_93]; rfl) (by decide) rfl (fun ls hl => ?_)
                  have t_94 : v_93.toInt = x_1.toInt + 1 ∧ 1 ≤ v_93.toInt ∧ v_93.toInt ≤ 61 := iv_addc ev_93 i_57 (by decide) (by decide) (by decide)
                  exact hj_143 v_93 ar_92 _ _ ls (iv_w t_94.2 (by decide) (by decide)) hA_ar_92 (fA_put (fA_rf [65] _) ear_92 (by decide)) (by omega) hP hS (lv_sub hl [1, 2, 3, 0, 4] rfl)
                · skip
                  refine lv_icmp_ge (tgt := 203) hx hb dX12_holds_186 (by decide) (fun c_60 => ?_) (fun c_60 => ?_)
                  · skip
                    have i_61 : 4 ≤ v_21.toInt ∧ v_21.toInt ≤ 15 := iv_le2 (⟨by decide, by decide⟩ : (4 : Int) ≤ (4 : Int32).toInt ∧ (4 : Int32).toInt ≤ 4) i_22 c_60
                    refine lv_iload hx hb dX12_holds_203 (lv_at hl 0 rfl) ?_
                    refine lv_bipush (v := 60) hx hb dX12_holds_205 (by decide) ?_
                    refine lv_icmp_ne (tgt := 230) hx hb dX12_holds_207 (by decide) (fun c_62 => ?_) (fun c_62 => ?_)
                    · skip
                      have k_63 : ¬ v_59.toInt = 60 := fun q => c_62 (Int32.toInt_inj.mp q)
                      refine lv_iload hx hb dX12_holds_230 (lv_at hl 0 rfl) ?_
                      refine lv_bipush (v := 61) hx hb dX12_holds_232 (by decide) ?_
                      refine lv_icmp_ne (tgt := 257) hx hb dX12_holds_234 (by decide) (fun c_64 => ?_) (fun c_64 => ?_)
                      · skip
                        have k_65 : ¬ v_59.toInt = 61 := fun q => c_64 (Int32.toInt_inj.mp q)
                        refine lv_iload hx hb dX12_holds_257 (lv_at hl 1 rfl) ?_
                        refine lv_aload_n hx hb dX12_holds_259 rfl (lv_at hl 4 rfl) ?_
                        refine gM_56 hx hb htg hown hK hP dX12_holds_260 ?_
                        refine lv_iload hx hb dX12_holds_263 (lv_at hl 3 rfl) ?_
                        refine lM_56 hx hb hK hP (iv_in t_19.2 (by decide) (by decide)) dX12_holds_265 (fun v_66 ev_66 => ?_)
                        refine lv_icmp_le (tgt := 273) hx hb dX12_holds_266 (by decide) (fun c_67 => ?_) (fun c_67 => ?_)
                        · skip
                          have k_68 := Int32.le_iff_toInt_le.mp c_67
                          refine lv_iconst (v := 0) hx hb dX12_holds_273 (by decide) ?_
                          exact hj_91 0 _ _ ls (iv_w (⟨by decide, by decide⟩ : (0 : Int) ≤ (0 : Int32).toInt ∧ (0 : Int32).toInt ≤ 0) (by decide) (by decide)) hP hS (lv_sub hl [4, 5, 6, 7, 8] rfl)
                        · skip
                          have i_69 : (-2147483648) ≤ v_66.toInt ∧ v_66.toInt ≤ 2147483646 := iv_lt1 (iv_any v_66) (iv_any v_58) (Int32.not_le.mp c_67)
                          have i_70 : (-2147483647) ≤ v_58.toInt ∧ v_58.toInt ≤ 2147483647 := iv_lt2 (iv_any v_66) (iv_any v_58) (Int32.not_le.mp c_67)
                          have k_71 := Int32.lt_iff_toInt_lt.mp (Int32.not_le.mp c_67)
                          refine lv_iconst (v := 1) hx hb dX12_holds_269 (by decide) ?_
                          refine lv_goto (tgt := 274) hx hb dX12_holds_270 (by decide) ?_
                          exact hj_91 1 _ _ ls (iv_w (⟨by decide, by decide⟩ : (1 : Int) ≤ (1 : Int32).toInt ∧ (1 : Int32).toInt ≤ 1) (by decide) (by decide)) hP hS (lv_sub hl [4, 5, 6, 7, 8] rfl)
                      · skip
                        have i_72 : 61 ≤ v_59.toInt ∧ v_59.toInt ≤ 61 := iv_eq1 (⟨by decide, by decide⟩ : (61 : Int) ≤ (61 : Int32).toInt ∧ (61 : Int32).toInt ≤ 61) c_64
                        refine lv_iload hx hb dX12_holds_237 (lv_at hl 1 rfl) ?_
                        refine lv_aload_n hx hb dX12_holds_239 rfl (lv_at hl 4 rfl) ?_
                        refine gM_56 hx hb htg hown hK hP dX12_holds_240 ?_
                        refine lv_iload hx hb dX12_holds_243 (lv_at hl 3 rfl) ?_
                        refine lM_56 hx hb hK hP (iv_in t_19.2 (by decide) (by decide)) dX12_holds_245 (fun v_74 ev_74 => ?_)
                        refine lv_icmp_ne (tgt := 253) hx hb dX12_holds_246 (by decide) (fun c_75 => ?_) (fun c_75 => ?_)
                        · skip
                          refine lv_iconst (v := 0) hx hb dX12_holds_253 (by decide) ?_
                          refine lv_goto (tgt := 274) hx hb dX12_holds_254 (by decide) ?_
                          exact hj_91 0 _ _ ls (iv_w (⟨by decide, by decide⟩ : (0 : Int) ≤ (0 : Int32).toInt ∧ (0 : Int32).toInt ≤ 0) (by decide) (by decide)) hP hS (lv_sub hl [4, 5, 6, 7, 8] rfl)
                        · skip
                          have k_76 := congrArg Int32.toInt c_75
                          refine lv_iconst (v := 1) hx hb dX12_holds_249 (by decide) ?_
                          refine lv_goto (tgt := 274) hx hb dX12_holds_250 (by decide) ?_
                          exact hj_91 1 _ _ ls (iv_w (⟨by decide, by decide⟩ : (1 : Int) ≤ (1 : Int32).toInt ∧ (1 : Int32).toInt ≤ 1) (by decide) (by decide)) hP hS (lv_sub hl [4, 5, 6, 7, 8] rfl)
                    · skip
                      have i_77 : 60 ≤ v_59.toInt ∧ v_59.toInt ≤ 60 := iv_eq1 (⟨by decide, by decide⟩ : (60 : Int) ≤ (60 : Int32).toInt ∧ (60 : Int32).toInt ≤ 60) c_62
                      refine lv_iload hx hb dX12_holds_210 (lv_at hl 1 rfl) ?_
                      refine lv_aload_n hx hb dX12_holds_212 rfl (lv_at hl 4 rfl) ?_
                      refine gM_56 hx hb htg hown hK hP dX12_holds_213 ?_
                      refine lv_iload hx hb dX12_holds_216 (lv_at hl 3 rfl) ?_
                      refine lM_56 hx hb hK hP (iv_in t_19.2 (by decide) (by decide)) dX12_holds_218 (fun v_79 ev_79 => ?_)
                      refine lv_icmp_ge (tgt := 226) hx hb dX12_holds_219 (by decide) (fun c_80 => ?_) (fun c_80 => ?_)
                      · skip
                        have k_81 := Int32.le_iff_toInt_le.mp c_80
                        refine lv_iconst (v := 0) hx hb dX12_holds_226 (by decide) ?_
                        refine lv_goto (tgt := 274) hx hb dX12_holds_227 (by decide) ?_
                        exact hj_91 0 _ _ ls (iv_w (⟨by decide, by decide⟩ : (0 : Int) ≤ (0 : Int32).toInt ∧ (0 : Int32).toInt ≤ 0) (by decide) (by decide)) hP hS (lv_sub hl [4, 5, 6, 7, 8] rfl)
                      · skip
                        have i_82 : (-2147483648) ≤ v_58.toInt ∧ v_58.toInt ≤ 2147483646 := iv_lt1 (iv_any v_58) (iv_any v_79) (Int32.not_le.mp c_80)
                        have i_83 : (-2147483647) ≤ v_79.toInt ∧ v_79.toInt ≤ 2147483647 := iv_lt2 (iv_any v_58) (iv_any v_79) (Int32.not_le.mp c_80)
                        have k_84 := Int32.lt_iff_toInt_lt.mp (Int32.not_le.mp c_80)
                        refine lv_iconst (v := 1) hx hb dX12_holds_222 (by decide) ?_
                        refine lv_goto (tgt := 274) hx hb dX12_holds_223 (by decide) ?_
                        exact hj_91 1 _ _ ls (iv_w (⟨by decide, by decide⟩ : (1 : Int) ≤ (1 : Int32).toInt ∧ (1 : Int32).toInt ≤ 1) (by decide) (by decide)) hP hS (lv_sub hl [4, 5, 6, 7, 8] rfl)
                  · skip
                    have i_85 : 0 ≤ v_21.toInt ∧ v_21.toInt ≤ 3 := iv_lt1 i_22 (⟨by decide, by decide⟩ : (4 : Int) ≤ (4 : Int32).toInt ∧ (4 : Int32).toInt ≤ 4) (Int32.not_le.mp c_60)
                    refine lv_iload hx hb dX12_holds_189 (lv_at hl 1 rfl) ?_
                    refine lv_iconst (v := 1) hx hb dX12_holds_191 (by decide) ?_
                    refine lv_icmp_ne (tgt := 199) hx hb dX12_holds_192 (by decide) (fun c_86 => ?_) (fun c_86 => ?_)
                    · skip
                      have k_87 : ¬ v_58.toInt = 1 := fun q => c_86 (Int32.toInt_inj.mp q)
                      refine lv_iconst (v := 0) hx hb dX12_holds_199 (by decide) ?_
                      refine lv_goto (tgt := 274) hx hb dX12_holds_200 (by decide) ?_
                      exact hj_91 0 _ _ ls (iv_w (⟨by decide, by decide⟩ : (0 : Int) ≤ (0 : Int32).toInt ∧ (0 : Int32).toInt ≤ 0) (by decide) (by decide)) hP hS (lv_sub hl [4, 5, 6, 7, 8] rfl)
                    · skip
                      have i_88 : 1 ≤ v_58.toInt ∧ v_58.toInt ≤ 1 := iv_eq1 (⟨by decide, by decide⟩ : (1 : Int) ≤ (1 : Int32).toInt ∧ (1 : Int32).toInt ≤ 1) c_86
                      refine lv_iconst (v := 1) hx hb dX12_holds_195 (by decide) ?_
                      refine lv_goto (tgt := 274) hx hb dX12_holds_196 (by decide) ?_
                      exact hj_91 1 _ _ ls (iv_w (⟨by decide, by decide⟩ : (1 : Int) ≤ (1 : Int32).toInt ∧ (1 : Int32).toInt ≤ 1) (by decide) (by decide)) hP hS (lv_sub hl [4, 5, 6, 7, 8] rfl)
              · skip
                have i_96 : 14 ≤ v_21.toInt ∧ v_21.toInt ≤ 14 := iv_eq1 (⟨by decide, by decide⟩ : (14 : Int) ≤ (14 : Int32).toInt ∧ (14 : Int32).toInt ≤ 14) c_55
                have i_98 : 2 ≤ x_1.toInt ∧ x_1.toInt ≤ 61 := (by omega)
                obtain ⟨v_99, ev_99⟩ : ∃ z : Int32, z = x_1 + (-1) := ⟨_, rfl⟩
                refine lv_iinc (v := v_99) (lv' := [(4, .int v_99), (7, .int v_21), (6, .int v_18), (0, .ref h), (1, .int bb), (3, .int tt), (5, .int x_2)]) hx hb dX12_holds_80 hl (k := 5) rfl (by rw [ev_99]; rfl) (by decide) rfl (fun ls hl => ?_)
                have t_100 : v_99.toInt = x_1.toInt + (-1) ∧ 1 ≤ v_99.toInt ∧ v_99.toInt ≤ 60 := iv_addc ev_99 i_98 (by decide) (by decide) (by decide)
                refine lv_aload_n hx hb dX12_holds_83 rfl (lv_at hl 3 rfl) ?_
                refine gM_65 hx hb htg hown hK hP dX12_holds_84 ?_
                refine lv_iload hx hb dX12_holds_87 (lv_at hl 0 rfl) ?_
                refine lv_iconst (v := 1) hx hb dX12_holds_89 (by decide) ?_
                refine lv_isub hx hb dX12_holds_90 ?_
                refine lv_topi (fun v_102 ev_102 => ?_)
                have t_103 : v_102.toInt = v_99.toInt - 1 ∧ 0 ≤ v_102.toInt ∧ v_102.toInt ≤ 59 := iv_subc ev_102 t_100.2 (by decide) (by decide) (by decide)
                refine lv_iload hx hb dX12_holds_91 (lv_at hl 1 rfl) ?_
                refine lv_bipush (v := 13) hx hb dX12_holds_93 (by decide) ?_
                refine my_cut (P := fun R9 a9 Q9 => ∀ (x_121 : Int32) (H : Heap) (locs : List Loc) (ls : Array Slot), (0 ≤ x_121.toInt ∧ x_121.toInt ≤ 1) → va_P (dC, dI) vwCl (wsM h ad cA fv wd ar_3) H → va_S (aM h ad s.heap.size) s.heap H locs → lv_has ls 10 [(0, .ref h), (1, .int bb), (3, .int tt), (4, .int v_99), (5, .int x_2)] → W p l e R9 s m a9 below meth c H locs 0 0 Q9 (F0 m 155 ls [.int x_121, .int v_102, .ref (ad 65)])) ?_ (fun hj_122 => ?_)
                · intro x_121 H locs ls i_x_121 hP hS hl
                  refine sM_65 hx hb hK hP hS hd (iv_in t_103.2 (by decide) (by decide)) dX12_holds_155 (fun H locs ar_123 ear_123 hP hS => ?_)
                  have hA_ar_123 : rA ar_123 := rA_put hA_ar_3 ear_123 (iv_vn _)
                  refine lv_goto (tgt := 278) hx hb dX12_holds_156 (by decide) ?_
                  exact hj_143 v_99 ar_123 _ _ ls (iv_w t_100.2 (by decide) (by decide)) hA_ar_123 (fA_put (fA_rf [65] _) ear_123 (by decide)) (by omega) hP hS (lv_sub hl [0, 1, 2, 3, 4] rfl)
                · skip
                  refine lv_icmp_ne (tgt := 128) hx hb dX12_holds_95 (by decide) (fun c_105 => ?_) (fun c_105 => ?_)
                  · skip
                    have k_106 : ¬ v_21.toInt = 13 := fun q => c_105 (Int32.toInt_inj.mp q)
                    refine lv_aload_n hx hb dX12_holds_128 rfl (lv_at hl 3 rfl) ?_
                    refine gM_65 hx hb htg hown hK hP dX12_holds_129 ?_
                    refine lv_iload hx hb dX12_holds_132 (lv_at hl 0 rfl) ?_
                    refine lv_iconst (v := 1) hx hb dX12_holds_134 (by decide) ?_
                    refine lv_isub hx hb dX12_holds_135 ?_
                    refine my_ti (y := v_102) ev_102.symm ?_
                    refine lM_65 hx hb hK hP (iv_in t_103.2 (by decide) (by decide)) dX12_holds_136 (fun v_107 ev_107 => ?_)
                    have i_108 : 0 ≤ v_107.toInt ∧ v_107.toInt ≤ 1 := ev_107 ▸ hA_ar_3 65 _
                    refine lv_if_ne (tgt := 150) hx hb dX12_holds_137 (by decide) (fun c_109 => ?_) (fun c_109 => ?_)
                    · skip
                      have i_110 : 1 ≤ v_107.toInt ∧ v_107.toInt ≤ 1 := iv_nel i_108 (by decide) c_109
                      have k_111 : ¬ v_107.toInt = 0 := fun q => c_109 (Int32.toInt_inj.mp q)
                      refine lv_iconst (v := 1) hx hb dX12_holds_150 (by decide) ?_
                      refine lv_goto (tgt := 155) hx hb dX12_holds_151 (by decide) ?_
                      exact hj_122 1 _ _ ls (iv_w (⟨by decide, by decide⟩ : (1 : Int) ≤ (1 : Int32).toInt ∧ (1 : Int32).toInt ≤ 1) (by decide) (by decide)) hP hS (lv_sub hl [3, 4, 5, 0, 6] rfl)
                    · skip
                      have i_112 : 0 ≤ v_107.toInt ∧ v_107.toInt ≤ 0 := iv_eq1 (⟨by decide, by decide⟩ : (0 : Int) ≤ (0 : Int32).toInt ∧ (0 : Int32).toInt ≤ 0) c_109
                      refine lv_aload_n hx hb dX12_holds_140 rfl (lv_at hl 3 rfl) ?_
                      refine gM_65 hx hb htg hown hK hP dX12_holds_141 ?_
                      refine lv_iload hx hb dX12_holds_144 (lv_at hl 0 rfl) ?_
                      refine lM_65 hx hb hK hP (iv_in t_100.2 (by decide) (by decide)) dX12_holds_146 (fun v_114 ev_114 => ?_)
                      have i_115 : 0 ≤ v_114.toInt ∧ v_114.toInt ≤ 1 := ev_114 ▸ hA_ar_3 65 _
                      refine lv_if_eq (tgt := 154) hx hb dX12_holds_147 (by decide) (fun c_116 => ?_) (fun c_116 => ?_)
                      · skip
                        have i_117 : 0 ≤ v_114.toInt ∧ v_114.toInt ≤ 0 := iv_eq1 (⟨by decide, by decide⟩ : (0 : Int) ≤ (0 : Int32).toInt ∧ (0 : Int32).toInt ≤ 0) c_116
                        refine lv_iconst (v := 0) hx hb dX12_holds_154 (by decide) ?_
                        exact hj_122 0 _ _ ls (iv_w (⟨by decide, by decide⟩ : (0 : Int) ≤ (0 : Int32).toInt ∧ (0 : Int32).toInt ≤ 0) (by decide) (by decide)) hP hS (lv_sub hl [3, 4, 5, 0, 6] rfl)
                      · skip
                        have i_119 : 1 ≤ v_114.toInt ∧ v_114.toInt ≤ 1 := iv_nel i_115 (by decide) c_116
                        have k_120 : ¬ v_114.toInt = 0 := fun q => c_116 (Int32.toInt_inj.mp q)
                        refine lv_iconst (v := 1) hx hb dX12_holds_150 (by decide) ?_
                        refine lv_goto (tgt := 155) hx hb dX12_holds_151 (by decide) ?_
                        exact hj_122 1 _ _ ls (iv_w (⟨by decide, by decide⟩ : (1 : Int) ≤ (1 : Int32).toInt ∧ (1 : Int32).toInt ≤ 1) (by decide) (by decide)) hP hS (lv_sub hl [3, 4, 5, 0, 6] rfl)
                  · skip
                    exact absurd True.intro (by have h7 := i_96; have h8 := (⟨by decide, by decide⟩ : (13 : Int) ≤ (13 : Int32).toInt ∧ (13 : Int32).toInt ≤ 13); have h9 := congrArg Int32.toInt c_105; exfalso; omega)
          · skip
            have i_124 : 12 ≤ v_21.toInt ∧ v_21.toInt ≤ 12 := iv_eq1 (⟨by decide, by decide⟩ : (12 : Int) ≤ (12 : Int32).toInt ∧ (12 : Int32).toInt ≤ 12) c_23
            refine lv_aload_n hx hb dX12_holds_37 rfl (lv_at hl 2 rfl) ?_
            refine gM_65 hx hb htg hown hK hP dX12_holds_38 ?_
            refine lv_iload hx hb dX12_holds_41 (lv_at hl 5 rfl) ?_
            refine lv_iconst (v := 1) hx hb dX12_holds_43 (by decide) ?_
            refine lv_isub hx hb dX12_holds_44 ?_
            refine lv_topi (fun v_126 ev_126 => ?_)
            have t_127 : v_126.toInt = x_1.toInt - 1 ∧ (-1) ≤ v_126.toInt ∧ v_126.toInt ≤ 60 := iv_subc ev_126 i_x_1 (by decide) (by decide) (by decide)
            refine lv_aload_n hx hb dX12_holds_45 rfl (lv_at hl 2 rfl) ?_
            refine gM_65 hx hb htg hown hK hP dX12_holds_46 ?_
            refine lv_iload hx hb dX12_holds_49 (lv_at hl 5 rfl) ?_
            refine lv_iconst (v := 1) hx hb dX12_holds_51 (by decide) ?_
            refine lv_isub hx hb dX12_holds_52 ?_
            refine my_ti (y := v_126) ev_126.symm ?_
            refine lM_65 hx hb hK hP (vp_in_iff.mpr (by omega)) dX12_holds_53 (fun v_129 ev_129 => ?_)
            have i_130 : 0 ≤ v_129.toInt ∧ v_129.toInt ≤ 1 := ev_129 ▸ hA_ar_3 65 _
            refine my_cut (P := fun R9 a9 Q9 => ∀ (x_136 : Int32) (H : Heap) (locs : List Loc) (ls : Array Slot), (0 ≤ x_136.toInt ∧ x_136.toInt ≤ 1) → va_P (dC, dI) vwCl (wsM h ad cA fv wd ar_3) H → va_S (aM h ad s.heap.size) s.heap H locs → lv_has ls 10 [(0, .ref h), (1, .int bb), (3, .int tt), (4, .int x_1), (5, .int x_2)] → W p l e R9 s m a9 below meth c H locs 0 0 Q9 (F0 m 62 ls [.int x_136, .int v_126, .ref (ad 65)])) ?_ (fun hj_137 => ?_)
            · intro x_136 H locs ls i_x_136 hP hS hl
              refine sM_65 hx hb hK hP hS hd (vp_in_iff.mpr (by omega)) dX12_holds_62 (fun H locs ar_138 ear_138 hP hS => ?_)
              have hA_ar_138 : rA ar_138 := rA_put hA_ar_3 ear_138 (iv_vn _)
              refine lv_goto (tgt := 278) hx hb dX12_holds_63 (by decide) ?_
              exact hj_143 x_1 ar_138 _ _ ls i_x_1 hA_ar_138 (fA_put (fA_rf [65] _) ear_138 (by decide)) (by omega) hP hS (lv_sub hl [0, 1, 2, 3, 4] rfl)
            · skip
              refine lv_if_ne (tgt := 61) hx hb dX12_holds_54 (by decide) (fun c_131 => ?_) (fun c_131 => ?_)
              · skip
                have i_132 : 1 ≤ v_129.toInt ∧ v_129.toInt ≤ 1 := iv_nel i_130 (by decide) c_131
                have k_133 : ¬ v_129.toInt = 0 := fun q => c_131 (Int32.toInt_inj.mp q)
                refine lv_iconst (v := 0) hx hb dX12_holds_61 (by decide) ?_
                exact hj_137 0 _ _ ls (iv_w (⟨by decide, by decide⟩ : (0 : Int) ≤ (0 : Int32).toInt ∧ (0 : Int32).toInt ≤ 0) (by decide) (by decide)) hP hS (lv_sub hl [2, 3, 4, 5, 6] rfl)
              · skip
                have i_134 : 0 ≤ v_129.toInt ∧ v_129.toInt ≤ 0 := iv_eq1 (⟨by decide, by decide⟩ : (0 : Int) ≤ (0 : Int32).toInt ∧ (0 : Int32).toInt ≤ 0) c_131
                refine lv_iconst (v := 1) hx hb dX12_holds_57 (by decide) ?_
                refine lv_goto (tgt := 62) hx hb dX12_holds_58 (by decide) ?_
                exact hj_137 1 _ _ ls (iv_w (⟨by decide, by decide⟩ : (1 : Int) ≤ (1 : Int32).toInt ∧ (1 : Int32).toInt ≤ 1) (by decide) (by decide)) hP hS (lv_sub hl [2, 3, 4, 5, 6] rfl)
  · skip
    have z_159 : (0 : Int32).toInt = 0 := by decide
    exact hj_9 121 0 ff ar _ _ ls (by first | decide | omega) (iv_w (⟨by decide, by decide⟩ : (0 : Int) ≤ (0 : Int32).toInt ∧ (0 : Int32).toInt ≤ 0) (by decide) (by decide)) h_ff hA_ar (fA_rf [65] _) (by rw [show (ff.toInt - ff.toInt).toNat = 0 from by omega]; rfl) (Int.le_refl _) hP hS (lv_sub hl [2, 3, 5, 1, 0] rfl)
set_option maxHeartbeats 4000000 in
set_option maxRecDepth 100000 in
theorem m_tells (l : Launch) (dC : Nat → ClassId) (dI : Nat → Nat → Nat) (sz h : Nat) (ad : Nat → Nat) (cA : Nat → ClassId) (hd : dM h ad) (fv : Nat → Int32) (wd : Int64) (ar : Nat → Nat → Int32) (hF_fv : rF fv) (hA_ar : rA ar) (kk : Int32) (a : Int32) (b : Int32) (v : Int32) (h_kk : 0 ≤ kk.toInt ∧ kk.toInt ≤ 79) (hp_vM : vM fv ar) : Met l yX12_tells (.code yX12_tells cX12_tells 9 (some .int) :: lw_good) ({ frames := 4, cells := 0, slots := 0, locals := 86 }) (va_Pc [.ref h, .int kk, .int a, .int b, .int v] (prM dC dI h ad cA fv wd ar sz)) (va_Qi (fun (r : Int32) (u : mS) => rF u.1 ∧ rA u.2.2 ∧ fM [66] fv u.1 ∧ fA [64, 65] ar u.2.2 ∧ True) (enM dC dI h ad cA) (aM h ad sz)) 0 0 (aM h ad sz) := by
  refine Met.ofW (cc := cX12_tells) (maxL := 9) (ret := (some .int)) (by decide) rfl ?_
  intro p e s m args below meth c s₁ B hml hv
  obtain ⟨rfl, hsz, hP, hK⟩ := hv
  have hx := B.exec
  have hb := B.bytes
  have hr := B.returns
  have hts := atoms_spec (ws := (.code yX12_tells cX12_tells 9 (some .int) :: lw_good)) B.pre
  have htg : ∀ w ∈ lw_good, w.before _ s = true := fun w hw => hts w (List.mem_cons_of_mem _ hw)
  have hown : s.vm.findClass RX12 = some m.cls := findClass_of_methodNamed B.named
  have hlocks := B.notSynchronized
  subst hsz
  have hS : va_S (aM h ad s.heap.size) s.heap s.heap [] := va_S.rf
  have hl := lv_entry ([.ref h, .int kk, .int a, .int b, .int v]) (n := 9) (Nat.le_of_ble_eq_true rfl)
  rw [lg_entry_eq]
  generalize (lg_sl ([.ref h, .int kk, .int a, .int b, .int v]) ++ List.replicate (9 - (lg_sl ([.ref h, .int kk, .int a, .int b, .int v])).length) Slot.unset).toArray = ls at hl ⊢
  have hl : lv_has ls 9 [(0, .ref h), (1, .int kk), (2, .int a), (3, .int b), (4, .int v)] := hl
  refine lv_aload_n hx hb dX12_tells_0 rfl (lv_at hl 0 rfl) ?_
  refine lv_iconst (v := (-1)) hx hb dX12_tells_1 (by decide) ?_
  refine pM_66 hx hb htg hown hK hP hS hd dX12_tells_2 (fun H locs fv_1 efv_1 hP hS => ?_)
  have hF_fv_1 : rF fv_1 := rF_put hF_fv efv_1 (iv_any _)
  refine lv_aload_n hx hb dX12_tells_5 rfl (lv_at hl 0 rfl) ?_
  refine gM_20 hx hb htg hown hK hP dX12_tells_6 ?_
  refine lv_aload_n hx hb dX12_tells_9 rfl (lv_at hl 0 rfl) ?_
  refine gM_25 hx hb htg hown hK hP dX12_tells_10 ?_
  refine lv_iload_n hx hb dX12_tells_13 rfl (lv_at hl 1 rfl) ?_
  refine lM_25 hx hb hK hP (iv_in h_kk (by decide) (by decide)) dX12_tells_14 (fun v_2 ev_2 => ?_)
  have i_3 : 0 ≤ v_2.toInt ∧ v_2.toInt ≤ 19 := ev_2 ▸ hA_ar 25 _
  refine lM_20 hx hb hK hP (iv_in i_3 (by decide) (by decide)) dX12_tells_15 (fun v_4 ev_4 => ?_)
  refine lv_iconst (v := 2) hx hb dX12_tells_16 (by decide) ?_
  refine my_cut (P := fun R9 a9 Q9 => ∀ (x_9 : Int32) (H : Heap) (locs : List Loc) (ls : Array Slot), (0 ≤ x_9.toInt ∧ x_9.toInt ≤ 1) → va_P (dC, dI) vwCl (wsM h ad cA fv_1 wd ar) H → va_S (aM h ad s.heap.size) s.heap H locs → lv_has ls 9 [(0, .ref h), (1, .int kk), (2, .int a), (3, .int b), (4, .int v)] → W p l e R9 s m a9 below meth c H locs 0 0 Q9 (F0 m 25 ls [.int x_9])) ?_ (fun hj_10 => ?_)
  · intro x_9 H locs ls i_x_9 hP hS hl
    refine lv_istore (lv' := [(5, .int x_9), (0, .ref h), (1, .int kk), (2, .int a), (3, .int b), (4, .int v)]) hx hb dX12_tells_25 hl (by decide) rfl (fun ls hl => ?_)
    refine lv_iload_n hx hb dX12_tells_27 rfl (lv_at hl 3 rfl) ?_
    refine lv_iconst (v := 5) hx hb dX12_tells_28 (by decide) ?_
    refine lv_icmp_ne (tgt := 39) hx hb dX12_tells_29 (by decide) (fun c_11 => ?_) (fun c_11 => ?_)
    · skip
      have k_12 : ¬ a.toInt = 5 := fun q => c_11 (Int32.toInt_inj.mp q)
      refine lv_aload_n hx hb dX12_tells_39 rfl (lv_at hl 1 rfl) ?_
      refine lv_iload_n hx hb dX12_tells_40 rfl (lv_at hl 2 rfl) ?_
      refine lv_iload_n hx hb dX12_tells_41 rfl (lv_at hl 3 rfl) ?_
      refine my_cut (P := fun R9 a9 Q9 => ∀ (x_25 : Int32) (H : Heap) (locs : List Loc) (ls : Array Slot), va_P (dC, dI) vwCl (wsM h ad cA fv_1 wd ar) H → va_S (aM h ad s.heap.size) s.heap H locs → lv_has ls 9 [(0, .ref h), (2, .int a), (4, .int v), (5, .int x_9)] → W p l e R9 s m a9 below meth c H locs 0 0 Q9 (F0 m 60 ls [.int x_25, .int kk, .ref h])) ?_ (fun hj_26 => ?_)
      · intro x_25 H locs ls  hP hS hl
        refine lv_iload hx hb dX12_tells_60 (lv_at hl 2 rfl) ?_
        refine va_callv (va_runV (As := [.int kk, .int x_25, .int v]) (rest := []) ⟨hx, hb, hml, hown, hts⟩ (m_ask l dC dI H.size h ad cA hd fv_1 wd ar hF_fv_1 hA_ar kk x_25 v h_kk) (cwV 3 hts (gV kw_8_149 kw_8_151 kw_p_80 kw_1_15 kw_8_152) rfl rfl rfl (by decide +kernel) ⟨Nat.le_of_ble_eq_true rfl, Nat.le_of_ble_eq_true rfl⟩) ⟨fun a U g mk q => ⟨q.1, q.2.1, q.2.2.1, va_K.moved (u := U) (U := U.calling g mk a) (Vm.Alike.refl U.vm) q.2.2.2⟩, va_recv hK hP (ci := 12) (q0 := 0) rfl rfl, fun U hU hW => ⟨rfl, by rw [hU], by rw [hU]; exact hP, va_K.moved hW.alike hK⟩⟩ rfl rfl hl.1 rfl (lv_room (Nat.le_of_ble_eq_true rfl)) dX12_tells_62 ⟨Nat.le_of_ble_eq_true rfl, Nat.le_of_ble_eq_true rfl⟩) hS (fun q _ h9 => aM_up hS q h9) (aM_up hS) (fun u t H1 locs ht _ hw hB _ hk1 hS => ?_)
        obtain ⟨fv_28, wd_29, ar_30⟩ := u
        obtain ⟨hF_fv_28, hA_ar_30, fr_31, fa_32, -⟩ := hw
        have hP : va_P (dC, dI) vwCl (wsM h ad cA fv_28 wd_29 ar_30) H1 := by have h9 := hB.1; rw [ht] at h9; exact h9
        have fr_31 : fM [] fv_1 fv_28 := fr_31
        have fa_32 : fA [64] ar ar_30 := fa_32
        generalize H1 = H at hP hS ⊢
        refine lv_aload_n hx hb dX12_tells_65 rfl (lv_at hl 0 rfl) ?_
        have z_33 : (fv_28 58).toInt = (fv 58).toInt := congrArg Int32.toInt ((fr_31 58 rfl).trans ((congrFun efv_1 58)))
        have z_34 : 0 ≤ (fv_28 58).toInt ∧ (fv_28 58).toInt ≤ 10 := hF_fv_28 58
        refine va_calli (va_runV (As := []) (rest := []) ⟨hx, hb, hml, hown, hts⟩ (m_bylawNow l dC dI H.size h ad cA hd fv_28 wd_29 ar_30 hF_fv_28 hA_ar_30) (cwV 0 hts (gV kw_8_153 kw_8_155 kw_p_81 kw_1_15 kw_8_156) rfl rfl rfl (by decide +kernel) ⟨Nat.le_of_ble_eq_true rfl, Nat.le_of_ble_eq_true rfl⟩) ⟨fun a U g mk q => ⟨q.1, q.2.1, q.2.2.1, va_K.moved (u := U) (U := U.calling g mk a) (Vm.Alike.refl U.vm) q.2.2.2⟩, va_recv hK hP (ci := 12) (q0 := 0) rfl rfl, fun U hU hW => ⟨rfl, by rw [hU], by rw [hU]; exact hP, va_K.moved hW.alike hK⟩⟩ rfl rfl hl.1 rfl (lv_room (Nat.le_of_ble_eq_true rfl)) dX12_tells_66 ⟨Nat.le_of_ble_eq_true rfl, Nat.le_of_ble_eq_true rfl⟩) hS (fun q _ h9 => aM_up hS q h9) (aM_up hS) (fun r_35 u t H1 locs ht _ hw hB _ hk1 hS => ?_)
        obtain ⟨fv_38, wd_39, ar_40⟩ := u
        obtain ⟨hF_fv_38, hA_ar_40, fr_41, fa_42, p_36, p_37, -⟩ := hw
        have hP : va_P (dC, dI) vwCl (wsM h ad cA fv_38 wd_39 ar_40) H1 := by have h9 := hB.1; rw [ht] at h9; exact h9
        have fr_41 : fM [] fv_28 fv_38 := fr_41
        have fa_42 : fA [] ar_30 ar_40 := fa_42
        have p_37 : r_35.toInt < (fv_28 58).toInt := p_37
        generalize H1 = H at hP hS ⊢
        refine lv_istore (lv' := [(6, .int r_35), (0, .ref h), (2, .int a), (4, .int v), (5, .int x_9)]) hx hb dX12_tells_69 hl (by decide) rfl (fun ls hl => ?_)
        refine lv_iconst (v := 0) hx hb dX12_tells_71 (by decide) ?_
        refine lv_istore (lv' := [(7, .int 0), (6, .int r_35), (0, .ref h), (2, .int a), (4, .int v), (5, .int x_9)]) hx hb dX12_tells_72 hl (by decide) rfl (fun ls hl => ?_)
        refine my_cut (P := fun R9 a9 Q9 => ∀ (n_50 : Nat) (x_43 : Int32) (fv_44 : Nat → Int32) (ar_46 : Nat → Nat → Int32) (wd_48 : Int64) (H : Heap) (locs : List Loc) (ls : Array Slot), 16 - x_43.toInt < (n_50 : Int) → (0 ≤ x_43.toInt ∧ x_43.toInt ≤ 16) → rF fv_44 → fM [] fv_38 fv_44 → rA ar_46 → fA [65] ar_40 ar_46 → vM fv_44 ar_46 → va_P (dC, dI) vwCl (wsM h ad cA fv_44 wd_48 ar_46) H → va_S (aM h ad s.heap.size) s.heap H locs → lv_has ls 9 [(0, .ref h), (2, .int a), (5, .int x_9), (6, .int r_35), (7, .int x_43)] → W p l e R9 s m a9 below meth c H locs 0 0 Q9 (F0 m 74 ls [])) ?_ (fun hj_52 => ?_)
        · intro n_50
          induction n_50 with
          | zero => intro x_43 fv_44 ar_46 wd_48 H locs ls fu_51 i_x_43 hF_fv_44 fr_45 hA_ar_46 fa_47 hp_49; exfalso; omega
          | succ n_50 ih_50 =>
            intro x_43 fv_44 ar_46 wd_48 H locs ls fu_51 i_x_43 hF_fv_44 fr_45 hA_ar_46 fa_47 hp_49 hP hS hl
            refine lv_iload hx hb dX12_tells_74 (lv_at hl 3 rfl) ?_
            refine lv_iconst (v := (-1)) hx hb dX12_tells_76 (by decide) ?_
            refine lv_icmp_eq (tgt := 159) hx hb dX12_tells_77 (by decide) (fun c_53 => ?_) (fun c_53 => ?_)
            · skip
              have i_54 : (-1) ≤ r_35.toInt ∧ r_35.toInt ≤ (-1) := iv_eq1 (⟨by decide, by decide⟩ : (-1 : Int) ≤ ((-1) : Int32).toInt ∧ ((-1) : Int32).toInt ≤ -1) c_53
              refine lv_iload_n hx hb dX12_tells_159 rfl (lv_at hl 1 rfl) ?_
              refine lv_iload hx hb dX12_tells_160 (lv_at hl 2 rfl) ?_
              refine va_calli (va_runS (As := [.int a, .int x_9]) (rest := []) ⟨hx, hb, hml, hown, hts⟩ (m_usual l H.size a x_9 i_x_9) (va_cwS 2 hts (gS kw_8_161 kw_8_162 kw_1_15 kw_8_163) rfl rfl rfl (by decide +kernel) ⟨Nat.le_of_ble_eq_true rfl, Nat.le_of_ble_eq_true rfl⟩) ⟨fun a U g mk q => ⟨q.1, q.2⟩, fun U hU hW => ⟨rfl, congrArg Array.size hU⟩⟩ rfl rfl hl.1 rfl (lv_room (Nat.le_of_ble_eq_true rfl)) dX12_tells_162 ⟨Nat.le_of_ble_eq_true rfl, Nat.le_of_ble_eq_true rfl⟩) hS (fun q _ h9 => nM_up hS q h9) (nM_up hS) (fun r_56 u t H1 locs ht _ hw hB _ hk1 hS => ?_)
              have hP := my_keepM hP hk1
              generalize H1 = H at hP hS ⊢
              exact W.iret (v := r_56) hx hb hr (fun t ht hW => ⟨⟨r_56, (fv_44, wd_48, ar_46), rfl, ⟨hF_fv_44, hA_ar_46, (fM_call (fM_call (fM_call (fM_put (fM_rf [66] _) efv_1 (by decide)) fr_31 (by decide)) fr_41 (by decide)) fr_45 (by decide)), (fA_call (fA_call (fA_call (fA_rf [64, 65] _) fa_32 (by decide)) fa_42 (by decide)) fa_47 (by decide)), trivial⟩, ⟨by rw [ht]; exact hP, va_K.moved hW.alike hK⟩⟩, hS.F ht⟩) hS.2.2 dX12_tells_165
            · skip
              have i_57 : 0 ≤ r_35.toInt ∧ r_35.toInt ≤ 9 := iv_nel p_36 (by decide) c_53
              have k_58 : ¬ r_35.toInt = (-1) := fun q => c_53 (Int32.toInt_inj.mp q)
              refine lv_iload hx hb dX12_tells_80 (lv_at hl 4 rfl) ?_
              refine lv_aload_n hx hb dX12_tells_82 rfl (lv_at hl 0 rfl) ?_
              refine gM_47 hx hb htg hown hK hP dX12_tells_83 ?_
              refine lv_iload hx hb dX12_tells_86 (lv_at hl 3 rfl) ?_
              refine lM_47 hx hb hK hP (iv_in i_57 (by decide) (by decide)) dX12_tells_88 (fun v_59 ev_59 => ?_)
              have i_60 : 0 ≤ v_59.toInt ∧ v_59.toInt ≤ 16 := ev_59 ▸ hA_ar_46 47 _
              refine lv_icmp_ge (tgt := 159) hx hb dX12_tells_89 (by decide) (fun c_61 => ?_) (fun c_61 => ?_)
              · skip
                have k_62 := Int32.le_iff_toInt_le.mp c_61
                refine lv_iload_n hx hb dX12_tells_159 rfl (lv_at hl 1 rfl) ?_
                refine lv_iload hx hb dX12_tells_160 (lv_at hl 2 rfl) ?_
                refine va_calli (va_runS (As := [.int a, .int x_9]) (rest := []) ⟨hx, hb, hml, hown, hts⟩ (m_usual l H.size a x_9 i_x_9) (va_cwS 2 hts (gS kw_8_161 kw_8_162 kw_1_15 kw_8_163) rfl rfl rfl (by decide +kernel) ⟨Nat.le_of_ble_eq_true rfl, Nat.le_of_ble_eq_true rfl⟩) ⟨fun a U g mk q => ⟨q.1, q.2⟩, fun U hU hW => ⟨rfl, congrArg Array.size hU⟩⟩ rfl rfl hl.1 rfl (lv_room (Nat.le_of_ble_eq_true rfl)) dX12_tells_162 ⟨Nat.le_of_ble_eq_true rfl, Nat.le_of_ble_eq_true rfl⟩) hS (fun q _ h9 => nM_up hS q h9) (nM_up hS) (fun r_63 u t H1 locs ht _ hw hB _ hk1 hS => ?_)
                have hP := my_keepM hP hk1
                generalize H1 = H at hP hS ⊢
                exact W.iret (v := r_63) hx hb hr (fun t ht hW => ⟨⟨r_63, (fv_44, wd_48, ar_46), rfl, ⟨hF_fv_44, hA_ar_46, (fM_call (fM_call (fM_call (fM_put (fM_rf [66] _) efv_1 (by decide)) fr_31 (by decide)) fr_41 (by decide)) fr_45 (by decide)), (fA_call (fA_call (fA_call (fA_rf [64, 65] _) fa_32 (by decide)) fa_42 (by decide)) fa_47 (by decide)), trivial⟩, ⟨by rw [ht]; exact hP, va_K.moved hW.alike hK⟩⟩, hS.F ht⟩) hS.2.2 dX12_tells_165
              · skip
                have i_64 : 0 ≤ x_43.toInt ∧ x_43.toInt ≤ 15 := iv_lt1 i_x_43 i_60 (Int32.not_le.mp c_61)
                have i_65 : 1 ≤ v_59.toInt ∧ v_59.toInt ≤ 16 := iv_lt2 i_x_43 i_60 (Int32.not_le.mp c_61)
                have k_66 := Int32.lt_iff_toInt_lt.mp (Int32.not_le.mp c_61)
                refine lv_bipush (v := 16) hx hb dX12_tells_92 (by decide) ?_
                refine lv_iload hx hb dX12_tells_94 (lv_at hl 3 rfl) ?_
                refine lv_imul hx hb dX12_tells_96 ?_
                refine lv_topi (fun v_67 ev_67 => ?_)
                have t_68 : v_67.toInt = 16 * r_35.toInt ∧ 0 ≤ v_67.toInt ∧ v_67.toInt ≤ 144 := iv_mulc ev_67 i_57 (by decide) (by decide) (by decide) (by decide)
                refine lv_iload hx hb dX12_tells_97 (lv_at hl 4 rfl) ?_
                refine lv_iadd hx hb dX12_tells_99 ?_
                refine lv_topi (fun v_70 ev_70 => ?_)
                have t_71 : v_70.toInt = v_67.toInt + x_43.toInt ∧ 0 ≤ v_70.toInt ∧ v_70.toInt ≤ 159 := iv_add ev_70 t_68.2 i_64 (by decide) (by decide)
                refine lv_istore (lv' := [(8, .int v_70), (0, .ref h), (2, .int a), (5, .int x_9), (6, .int r_35), (7, .int x_43)]) hx hb dX12_tells_100 hl (by decide) rfl (fun ls hl => ?_)
                refine lv_aload_n hx hb dX12_tells_102 rfl (lv_at hl 1 rfl) ?_
                refine gM_50 hx hb htg hown hK hP dX12_tells_103 ?_
                refine lv_iload hx hb dX12_tells_106 (lv_at hl 0 rfl) ?_
                refine lM_50 hx hb hK hP (iv_in t_71.2 (by decide) (by decide)) dX12_tells_108 (fun v_73 ev_73 => ?_)
                refine lv_iload_n hx hb dX12_tells_109 rfl (lv_at hl 2 rfl) ?_
                refine lv_icmp_ne (tgt := 153) hx hb dX12_tells_110 (by decide) (fun c_74 => ?_) (fun c_74 => ?_)
                · skip
                  obtain ⟨v_75, ev_75⟩ : ∃ z : Int32, z = x_43 + 1 := ⟨_, rfl⟩
                  refine lv_iinc (v := v_75) (lv' := [(7, .int v_75), (8, .int v_70), (0, .ref h), (2, .int a), (5, .int x_9), (6, .int r_35)]) hx hb dX12_tells_153 hl (k := 5) rfl (by rw [ev_75]; rfl) (by decide) rfl (fun ls hl => ?_)
                  have t_76 : v_75.toInt = x_43.toInt + 1 ∧ 1 ≤ v_75.toInt ∧ v_75.toInt ≤ 16 := iv_addc ev_75 i_64 (by decide) (by decide) (by decide)
                  refine lv_goto (tgt := 74) hx hb dX12_tells_156 (by decide) ?_
                  exact ih_50 v_75 fv_44 ar_46 wd_48 _ _ ls (by omega) (iv_w t_76.2 (by decide) (by decide)) hF_fv_44 (fM_call (fM_rf [] _) fr_45 (by decide)) hA_ar_46 (fA_call (fA_rf [65] _) fa_47 (by decide)) hp_49 hP hS (lv_sub hl [2, 3, 4, 5, 0] rfl)
                · skip
                  have k_78 := congrArg Int32.toInt c_74
                  refine lv_aload_n hx hb dX12_tells_113 rfl (lv_at hl 1 rfl) ?_
                  refine lv_iload hx hb dX12_tells_114 (lv_at hl 4 rfl) ?_
                  refine lv_aload_n hx hb dX12_tells_116 rfl (lv_at hl 1 rfl) ?_
                  refine gM_52 hx hb htg hown hK hP dX12_tells_117 ?_
                  refine lv_iload hx hb dX12_tells_120 (lv_at hl 0 rfl) ?_
                  refine lM_52 hx hb hK hP (iv_in t_71.2 (by decide) (by decide)) dX12_tells_122 (fun v_79 ev_79 => ?_)
                  have i_80 : 0 ≤ v_79.toInt ∧ v_79.toInt ≤ 120 := ev_79 ▸ hA_ar_46 52 _
                  refine lv_aload_n hx hb dX12_tells_123 rfl (lv_at hl 1 rfl) ?_
                  refine gM_53 hx hb htg hown hK hP dX12_tells_124 ?_
                  refine lv_iload hx hb dX12_tells_127 (lv_at hl 0 rfl) ?_
                  refine lM_53 hx hb hK hP (iv_in t_71.2 (by decide) (by decide)) dX12_tells_129 (fun v_81 ev_81 => ?_)
                  have i_82 : 0 ≤ v_81.toInt ∧ v_81.toInt ≤ 120 := ev_81 ▸ hA_ar_46 53 _
                  have ln9 : v_59 = ar_46 47 r_35.toInt.toNat := ev_59
                  have ff9 : v_79 = ar_46 52 (16 * r_35.toInt.toNat + x_43.toInt.toNat) := by rw [ev_79]; congr 1; show v_70.toInt.toNat = _; omega
                  have tt9 : v_81 = ar_46 53 (16 * r_35.toInt.toNat + x_43.toInt.toNat) := by rw [ev_81]; congr 1; show v_70.toInt.toNat = _; omega
                  refine va_calli (va_runV (As := [.int r_35, .int v_79, .int v_81]) (rest := []) ⟨hx, hb, hml, hown, hts⟩ (m_holds l dC dI H.size h ad cA hd fv_44 wd_48 ar_46 hF_fv_44 hA_ar_46 r_35 v_79 v_81 i_57 i_80 i_82 (by have h9 := (hp_49) r_35.toInt.toNat x_43.toInt.toNat (by have h58 : (fv_44 58) = fv 58 := (fr_45 58 rfl).trans ((fr_41 58 rfl).trans ((fr_31 58 rfl).trans ((congrFun efv_1 58)))); rw [h58]; omega) (by rw [← ln9]; omega); rw [← ff9, ← tt9] at h9; rw [show (120 * r_35.toInt + v_79.toInt).toNat = 120 * r_35.toInt.toNat + v_79.toInt.toNat from by omega, show (120 * r_35.toInt + v_81.toInt).toNat = 120 * r_35.toInt.toNat + v_81.toInt.toNat from by omega]; exact h9)) (cwV 3 hts (gV kw_8_157 kw_8_159 kw_p_82 kw_1_15 kw_8_160) rfl rfl rfl (by decide +kernel) ⟨Nat.le_of_ble_eq_true rfl, Nat.le_of_ble_eq_true rfl⟩) ⟨fun a U g mk q => ⟨q.1, q.2.1, q.2.2.1, va_K.moved (u := U) (U := U.calling g mk a) (Vm.Alike.refl U.vm) q.2.2.2⟩, va_recv hK hP (ci := 12) (q0 := 0) rfl rfl, fun U hU hW => ⟨rfl, by rw [hU], by rw [hU]; exact hP, va_K.moved hW.alike hK⟩⟩ rfl rfl hl.1 rfl (lv_room (Nat.le_of_ble_eq_true rfl)) dX12_tells_130 ⟨Nat.le_of_ble_eq_true rfl, Nat.le_of_ble_eq_true rfl⟩) hS (fun q _ h9 => aM_up hS q h9) (aM_up hS) (fun r_83 u t H1 locs ht _ hw hB _ hk1 hS => ?_)
                  obtain ⟨fv_85, wd_86, ar_87⟩ := u
                  obtain ⟨hF_fv_85, hA_ar_87, fr_88, fa_89, p_84, -⟩ := hw
                  have hP : va_P (dC, dI) vwCl (wsM h ad cA fv_85 wd_86 ar_87) H1 := by have h9 := hB.1; rw [ht] at h9; exact h9
                  have fr_88 : fM [] fv_44 fv_85 := fr_88
                  have fa_89 : fA [65] ar_46 ar_87 := fa_89
                  generalize H1 = H at hP hS ⊢
                  refine lv_if_ne (tgt := 139) hx hb dX12_tells_133 (by decide) (fun c_90 => ?_) (fun c_90 => ?_)
                  · skip
                    have i_91 : 1 ≤ r_83.toInt ∧ r_83.toInt ≤ 1 := iv_nel p_84 (by decide) c_90
                    have k_92 : ¬ r_83.toInt = 0 := fun q => c_90 (Int32.toInt_inj.mp q)
                    refine lv_aload_n hx hb dX12_tells_139 rfl (lv_at hl 1 rfl) ?_
                    refine lv_iload hx hb dX12_tells_140 (lv_at hl 5 rfl) ?_
                    refine pM_66 hx hb htg hown hK hP hS hd dX12_tells_142 (fun H locs fv_93 efv_93 hP hS => ?_)
                    have hF_fv_93 : rF fv_93 := rF_put hF_fv_85 efv_93 (iv_any _)
                    refine lv_aload_n hx hb dX12_tells_145 rfl (lv_at hl 1 rfl) ?_
                    refine gM_51 hx hb htg hown hK hP dX12_tells_146 ?_
                    refine lv_iload hx hb dX12_tells_149 (lv_at hl 0 rfl) ?_
                    refine lM_51 hx hb hK hP (iv_in t_71.2 (by decide) (by decide)) dX12_tells_151 (fun v_94 ev_94 => ?_)
                    exact W.iret (v := v_94) hx hb hr (fun t ht hW => ⟨⟨v_94, (fv_93, wd_86, ar_87), rfl, ⟨hF_fv_93, hA_ar_87, (fM_put (fM_call (fM_call (fM_call (fM_call (fM_put (fM_rf [66] _) efv_1 (by decide)) fr_31 (by decide)) fr_41 (by decide)) fr_45 (by decide)) fr_88 (by decide)) efv_93 (by decide)), (fA_call (fA_call (fA_call (fA_call (fA_rf [64, 65] _) fa_32 (by decide)) fa_42 (by decide)) fa_47 (by decide)) fa_89 (by decide)), trivial⟩, ⟨by rw [ht]; exact hP, va_K.moved hW.alike hK⟩⟩, hS.F ht⟩) hS.2.2 dX12_tells_152
                  · skip
                    have i_95 : 0 ≤ r_83.toInt ∧ r_83.toInt ≤ 0 := iv_eq1 (⟨by decide, by decide⟩ : (0 : Int) ≤ (0 : Int32).toInt ∧ (0 : Int32).toInt ≤ 0) c_90
                    refine lv_goto (tgt := 153) hx hb dX12_tells_136 (by decide) ?_
                    obtain ⟨v_97, ev_97⟩ : ∃ z : Int32, z = x_43 + 1 := ⟨_, rfl⟩
                    refine lv_iinc (v := v_97) (lv' := [(7, .int v_97), (8, .int v_70), (0, .ref h), (2, .int a), (5, .int x_9), (6, .int r_35)]) hx hb dX12_tells_153 hl (k := 5) rfl (by rw [ev_97]; rfl) (by decide) rfl (fun ls hl => ?_)
                    have t_98 : v_97.toInt = x_43.toInt + 1 ∧ 1 ≤ v_97.toInt ∧ v_97.toInt ≤ 16 := iv_addc ev_97 i_64 (by decide) (by decide) (by decide)
                    refine lv_goto (tgt := 74) hx hb dX12_tells_156 (by decide) ?_
                    exact ih_50 v_97 fv_85 ar_87 wd_86 _ _ ls (by omega) (iv_w t_98.2 (by decide) (by decide)) hF_fv_85 (fM_call (fM_call (fM_rf [] _) fr_45 (by decide)) fr_88 (by decide)) hA_ar_87 (fA_call (fA_call (fA_rf [65] _) fa_47 (by decide)) fa_89 (by decide)) (vM_fr hp_49 (fM_call (fM_rf [] _) fr_88 (by decide)) (fA_call (fA_rf [65] _) fa_89 (by decide)) rfl rfl rfl rfl rfl) hP hS (lv_sub hl [2, 3, 4, 5, 0] rfl)
        · skip
          have z_100 : (0 : Int32).toInt = 0 := by decide
          exact hj_52 17 0 fv_38 ar_40 wd_39 _ _ ls (by first | decide | omega) (iv_w (⟨by decide, by decide⟩ : (0 : Int) ≤ (0 : Int32).toInt ∧ (0 : Int32).toInt ≤ 0) (by decide) (by decide)) hF_fv_38 (fM_rf [] _) hA_ar_40 (fA_rf [65] _) (vM_fr (vM_fr hp_vM (fM_put (fM_rf [66] _) efv_1 (by decide)) (fA_rf [] _) rfl rfl rfl rfl rfl) (fM_call (fM_call (fM_rf [] _) fr_31 (by decide)) fr_41 (by decide)) (fA_call (fA_call (fA_rf [64] _) fa_32 (by decide)) fa_42 (by decide)) rfl rfl rfl rfl rfl) hP hS (lv_sub hl [2, 3, 5, 1, 0] rfl)
      · skip
        refine lv_if_eq (tgt := 55) hx hb dX12_tells_42 (by decide) (fun c_13 => ?_) (fun c_13 => ?_)
        · skip
          have i_14 : 0 ≤ a.toInt ∧ a.toInt ≤ 0 := iv_eq1 (⟨by decide, by decide⟩ : (0 : Int) ≤ (0 : Int32).toInt ∧ (0 : Int32).toInt ≤ 0) c_13
          refine lv_iconst (v := 0) hx hb dX12_tells_55 (by decide) ?_
          refine lv_goto (tgt := 60) hx hb dX12_tells_56 (by decide) ?_
          exact hj_26 0 _ _ ls  hP hS (lv_sub hl [1, 3, 5, 0] rfl)
        · skip
          have k_16 : ¬ a.toInt = 0 := fun q => c_13 (Int32.toInt_inj.mp q)
          refine lv_iload_n hx hb dX12_tells_45 rfl (lv_at hl 3 rfl) ?_
          refine lv_iconst (v := 2) hx hb dX12_tells_46 (by decide) ?_
          refine lv_icmp_eq (tgt := 55) hx hb dX12_tells_47 (by decide) (fun c_17 => ?_) (fun c_17 => ?_)
          · skip
            have i_18 : 2 ≤ a.toInt ∧ a.toInt ≤ 2 := iv_eq1 (⟨by decide, by decide⟩ : (2 : Int) ≤ (2 : Int32).toInt ∧ (2 : Int32).toInt ≤ 2) c_17
            refine lv_iconst (v := 0) hx hb dX12_tells_55 (by decide) ?_
            refine lv_goto (tgt := 60) hx hb dX12_tells_56 (by decide) ?_
            exact hj_26 0 _ _ ls  hP hS (lv_sub hl [1, 3, 5, 0] rfl)
          · skip
            have k_20 : ¬ a.toInt = 2 := fun q => c_17 (Int32.toInt_inj.mp q)
            refine lv_iload_n hx hb dX12_tells_50 rfl (lv_at hl 3 rfl) ?_
            refine lv_iconst (v := 5) hx hb dX12_tells_51 (by decide) ?_
            refine lv_icmp_ne (tgt := 59) hx hb dX12_tells_52 (by decide) (fun c_21 => ?_) (fun c_21 => ?_)
            · skip
              have k_22 : ¬ a.toInt = 5 := fun q => c_21 (Int32.toInt_inj.mp q)
              refine lv_iload_n hx hb dX12_tells_59 rfl (lv_at hl 4 rfl) ?_
              exact hj_26 b _ _ ls  hP hS (lv_sub hl [1, 3, 5, 0] rfl)
            · skip
              have i_23 : 5 ≤ a.toInt ∧ a.toInt ≤ 5 := iv_eq1 (⟨by decide, by decide⟩ : (5 : Int) ≤ (5 : Int32).toInt ∧ (5 : Int32).toInt ≤ 5) c_21
              refine lv_iconst (v := 0) hx hb dX12_tells_55 (by decide) ?_
              refine lv_goto (tgt := 60) hx hb dX12_tells_56 (by decide) ?_
              exact hj_26 0 _ _ ls  hP hS (lv_sub hl [1, 3, 5, 0] rfl)
    · skip
      have i_101 : 5 ≤ a.toInt ∧ a.toInt ≤ 5 := iv_eq1 (⟨by decide, by decide⟩ : (5 : Int) ≤ (5 : Int32).toInt ∧ (5 : Int32).toInt ≤ 5) c_11
      refine lv_iload hx hb dX12_tells_32 (lv_at hl 0 rfl) ?_
      refine lv_if_eq (tgt := 39) hx hb dX12_tells_34 (by decide) (fun c_103 => ?_) (fun c_103 => ?_)
      · skip
        have i_104 : 0 ≤ x_9.toInt ∧ x_9.toInt ≤ 0 := iv_eq1 (⟨by decide, by decide⟩ : (0 : Int) ≤ (0 : Int32).toInt ∧ (0 : Int32).toInt ≤ 0) c_103
        refine lv_aload_n hx hb dX12_tells_39 rfl (lv_at hl 1 rfl) ?_
        refine lv_iload_n hx hb dX12_tells_40 rfl (lv_at hl 2 rfl) ?_
        refine lv_iload_n hx hb dX12_tells_41 rfl (lv_at hl 3 rfl) ?_
        refine lv_if_eq (tgt := 55) hx hb dX12_tells_42 (by decide) (fun c_106 => ?_) (fun c_106 => ?_)
        · skip
          exact absurd True.intro (by have h7 := i_101; have h8 := (⟨by decide, by decide⟩ : (0 : Int) ≤ (0 : Int32).toInt ∧ (0 : Int32).toInt ≤ 0); have h9 := congrArg Int32.toInt c_106; exfalso; omega)
        · skip
          have k_107 : ¬ a.toInt = 0 := fun q => c_106 (Int32.toInt_inj.mp q)
          refine lv_iload_n hx hb dX12_tells_45 rfl (lv_at hl 3 rfl) ?_
          refine lv_iconst (v := 2) hx hb dX12_tells_46 (by decide) ?_
          refine lv_icmp_eq (tgt := 55) hx hb dX12_tells_47 (by decide) (fun c_108 => ?_) (fun c_108 => ?_)
          · skip
            exact absurd True.intro (by have h7 := i_101; have h8 := (⟨by decide, by decide⟩ : (2 : Int) ≤ (2 : Int32).toInt ∧ (2 : Int32).toInt ≤ 2); have h9 := congrArg Int32.toInt c_108; exfalso; omega)
          · skip
            have k_109 : ¬ a.toInt = 2 := fun q => c_108 (Int32.toInt_inj.mp q)
            refine lv_iload_n hx hb dX12_tells_50 rfl (lv_at hl 3 rfl) ?_
            refine lv_iconst (v := 5) hx hb dX12_tells_51 (by decide) ?_
            refine lv_icmp_ne (tgt := 59) hx hb dX12_tells_52 (by decide) (fun c_110 => ?_) (fun c_110 => ?_)
            · skip
              exact absurd True.intro (by have h7 := i_101; have h8 := (⟨by decide, by decide⟩ : (5 : Int) ≤ (5 : Int32).toInt ∧ (5 : Int32).toInt ≤ 5); have h9 : ¬ _ := fun q => c_110 (Int32.toInt_inj.mp q); exfalso; omega)
            · skip
              refine lv_iconst (v := 0) hx hb dX12_tells_55 (by decide) ?_
              refine lv_goto (tgt := 60) hx hb dX12_tells_56 (by decide) ?_
              refine lv_iload hx hb dX12_tells_60 (lv_at hl 5 rfl) ?_
              refine va_callv (va_runV (As := [.int kk, .int 0, .int v]) (rest := []) ⟨hx, hb, hml, hown, hts⟩ (m_ask l dC dI H.size h ad cA hd fv_1 wd ar hF_fv_1 hA_ar kk 0 v h_kk) (cwV 3 hts (gV kw_8_149 kw_8_151 kw_p_80 kw_1_15 kw_8_152) rfl rfl rfl (by decide +kernel) ⟨Nat.le_of_ble_eq_true rfl, Nat.le_of_ble_eq_true rfl⟩) ⟨fun a U g mk q => ⟨q.1, q.2.1, q.2.2.1, va_K.moved (u := U) (U := U.calling g mk a) (Vm.Alike.refl U.vm) q.2.2.2⟩, va_recv hK hP (ci := 12) (q0 := 0) rfl rfl, fun U hU hW => ⟨rfl, by rw [hU], by rw [hU]; exact hP, va_K.moved hW.alike hK⟩⟩ rfl rfl hl.1 rfl (lv_room (Nat.le_of_ble_eq_true rfl)) dX12_tells_62 ⟨Nat.le_of_ble_eq_true rfl, Nat.le_of_ble_eq_true rfl⟩) hS (fun q _ h9 => aM_up hS q h9) (aM_up hS) (fun u t H1 locs ht _ hw hB _ hk1 hS => ?_)
              obtain ⟨fv_113, wd_114, ar_115⟩ := u
              obtain ⟨hF_fv_113, hA_ar_115, fr_116, fa_117, -⟩ := hw
              have hP : va_P (dC, dI) vwCl (wsM h ad cA fv_113 wd_114 ar_115) H1 := by have h9 := hB.1; rw [ht] at h9; exact h9
              have fr_116 : fM [] fv_1 fv_113 := fr_116
              have fa_117 : fA [64] ar ar_115 := fa_117
              generalize H1 = H at hP hS ⊢
              refine lv_aload_n hx hb dX12_tells_65 rfl (lv_at hl 1 rfl) ?_
              have z_118 : (fv_113 58).toInt = (fv 58).toInt := congrArg Int32.toInt ((fr_116 58 rfl).trans ((congrFun efv_1 58)))
              have z_119 : 0 ≤ (fv_113 58).toInt ∧ (fv_113 58).toInt ≤ 10 := hF_fv_113 58
              refine va_calli (va_runV (As := []) (rest := []) ⟨hx, hb, hml, hown, hts⟩ (m_bylawNow l dC dI H.size h ad cA hd fv_113 wd_114 ar_115 hF_fv_113 hA_ar_115) (cwV 0 hts (gV kw_8_153 kw_8_155 kw_p_81 kw_1_15 kw_8_156) rfl rfl rfl (by decide +kernel) ⟨Nat.le_of_ble_eq_true rfl, Nat.le_of_ble_eq_true rfl⟩) ⟨fun a U g mk q => ⟨q.1, q.2.1, q.2.2.1, va_K.moved (u := U) (U := U.calling g mk a) (Vm.Alike.refl U.vm) q.2.2.2⟩, va_recv hK hP (ci := 12) (q0 := 0) rfl rfl, fun U hU hW => ⟨rfl, by rw [hU], by rw [hU]; exact hP, va_K.moved hW.alike hK⟩⟩ rfl rfl hl.1 rfl (lv_room (Nat.le_of_ble_eq_true rfl)) dX12_tells_66 ⟨Nat.le_of_ble_eq_true rfl, Nat.le_of_ble_eq_true rfl⟩) hS (fun q _ h9 => aM_up hS q h9) (aM_up hS) (fun r_120 u t H1 locs ht _ hw hB _ hk1 hS => ?_)
              obtain ⟨fv_123, wd_124, ar_125⟩ := u
              obtain ⟨hF_fv_123, hA_ar_125, fr_126, fa_127, p_121, p_122, -⟩ := hw
              have hP : va_P (dC, dI) vwCl (wsM h ad cA fv_123 wd_124 ar_125) H1 := by have h9 := hB.1; rw [ht] at h9; exact h9
              have fr_126 : fM [] fv_113 fv_123 := fr_126
              have fa_127 : fA [] ar_115 ar_125 := fa_127
              have p_122 : r_120.toInt < (fv_113 58).toInt := p_122
              generalize H1 = H at hP hS ⊢
              refine lv_istore (lv' := [(6, .int r_120), (5, .int x_9), (0, .ref h), (1, .int kk), (2, .int a), (3, .int b), (4, .int v)]) hx hb dX12_tells_69 hl (by decide) rfl (fun ls hl => ?_)
              refine lv_iconst (v := 0) hx hb dX12_tells_71 (by decide) ?_
              refine lv_istore (lv' := [(7, .int 0), (6, .int r_120), (5, .int x_9), (0, .ref h), (1, .int kk), (2, .int a), (3, .int b), (4, .int v)]) hx hb dX12_tells_72 hl (by decide) rfl (fun ls hl => ?_)
              refine my_cut (P := fun R9 a9 Q9 => ∀ (n_135 : Nat) (x_128 : Int32) (fv_129 : Nat → Int32) (ar_131 : Nat → Nat → Int32) (wd_133 : Int64) (H : Heap) (locs : List Loc) (ls : Array Slot), 16 - x_128.toInt < (n_135 : Int) → (0 ≤ x_128.toInt ∧ x_128.toInt ≤ 16) → rF fv_129 → fM [] fv_123 fv_129 → rA ar_131 → fA [65] ar_125 ar_131 → vM fv_129 ar_131 → va_P (dC, dI) vwCl (wsM h ad cA fv_129 wd_133 ar_131) H → va_S (aM h ad s.heap.size) s.heap H locs → lv_has ls 9 [(0, .ref h), (2, .int a), (5, .int x_9), (6, .int r_120), (7, .int x_128)] → W p l e R9 s m a9 below meth c H locs 0 0 Q9 (F0 m 74 ls [])) ?_ (fun hj_137 => ?_)
              · intro n_135
                induction n_135 with
                | zero => intro x_128 fv_129 ar_131 wd_133 H locs ls fu_136 i_x_128 hF_fv_129 fr_130 hA_ar_131 fa_132 hp_134; exfalso; omega
                | succ n_135 ih_135 =>
                  intro x_128 fv_129 ar_131 wd_133 H locs ls fu_136 i_x_128 hF_fv_129 fr_130 hA_ar_131 fa_132 hp_134 hP hS hl
                  refine lv_iload hx hb dX12_tells_74 (lv_at hl 3 rfl) ?_
                  refine lv_iconst (v := (-1)) hx hb dX12_tells_76 (by decide) ?_
                  refine lv_icmp_eq (tgt := 159) hx hb dX12_tells_77 (by decide) (fun c_138 => ?_) (fun c_138 => ?_)
                  · skip
                    have i_139 : (-1) ≤ r_120.toInt ∧ r_120.toInt ≤ (-1) := iv_eq1 (⟨by decide, by decide⟩ : (-1 : Int) ≤ ((-1) : Int32).toInt ∧ ((-1) : Int32).toInt ≤ -1) c_138
                    refine lv_iload_n hx hb dX12_tells_159 rfl (lv_at hl 1 rfl) ?_
                    refine lv_iload hx hb dX12_tells_160 (lv_at hl 2 rfl) ?_
                    refine va_calli (va_runS (As := [.int a, .int x_9]) (rest := []) ⟨hx, hb, hml, hown, hts⟩ (m_usual l H.size a x_9 (iv_w i_104 (by decide) (by decide))) (va_cwS 2 hts (gS kw_8_161 kw_8_162 kw_1_15 kw_8_163) rfl rfl rfl (by decide +kernel) ⟨Nat.le_of_ble_eq_true rfl, Nat.le_of_ble_eq_true rfl⟩) ⟨fun a U g mk q => ⟨q.1, q.2⟩, fun U hU hW => ⟨rfl, congrArg Array.size hU⟩⟩ rfl rfl hl.1 rfl (lv_room (Nat.le_of_ble_eq_true rfl)) dX12_tells_162 ⟨Nat.le_of_ble_eq_true rfl, Nat.le_of_ble_eq_true rfl⟩) hS (fun q _ h9 => nM_up hS q h9) (nM_up hS) (fun r_141 u t H1 locs ht _ hw hB _ hk1 hS => ?_)
                    have hP := my_keepM hP hk1
                    generalize H1 = H at hP hS ⊢
                    exact W.iret (v := r_141) hx hb hr (fun t ht hW => ⟨⟨r_141, (fv_129, wd_133, ar_131), rfl, ⟨hF_fv_129, hA_ar_131, (fM_call (fM_call (fM_call (fM_put (fM_rf [66] _) efv_1 (by decide)) fr_116 (by decide)) fr_126 (by decide)) fr_130 (by decide)), (fA_call (fA_call (fA_call (fA_rf [64, 65] _) fa_117 (by decide)) fa_127 (by decide)) fa_132 (by decide)), trivial⟩, ⟨by rw [ht]; exact hP, va_K.moved hW.alike hK⟩⟩, hS.F ht⟩) hS.2.2 dX12_tells_165
                  · skip
                    have i_142 : 0 ≤ r_120.toInt ∧ r_120.toInt ≤ 9 := iv_nel p_121 (by decide) c_138
                    have k_143 : ¬ r_120.toInt = (-1) := fun q => c_138 (Int32.toInt_inj.mp q)
                    refine lv_iload hx hb dX12_tells_80 (lv_at hl 4 rfl) ?_
                    refine lv_aload_n hx hb dX12_tells_82 rfl (lv_at hl 0 rfl) ?_
                    refine gM_47 hx hb htg hown hK hP dX12_tells_83 ?_
                    refine lv_iload hx hb dX12_tells_86 (lv_at hl 3 rfl) ?_
                    refine lM_47 hx hb hK hP (iv_in i_142 (by decide) (by decide)) dX12_tells_88 (fun v_144 ev_144 => ?_)
                    have i_145 : 0 ≤ v_144.toInt ∧ v_144.toInt ≤ 16 := ev_144 ▸ hA_ar_131 47 _
                    refine lv_icmp_ge (tgt := 159) hx hb dX12_tells_89 (by decide) (fun c_146 => ?_) (fun c_146 => ?_)
                    · skip
                      have k_147 := Int32.le_iff_toInt_le.mp c_146
                      refine lv_iload_n hx hb dX12_tells_159 rfl (lv_at hl 1 rfl) ?_
                      refine lv_iload hx hb dX12_tells_160 (lv_at hl 2 rfl) ?_
                      refine va_calli (va_runS (As := [.int a, .int x_9]) (rest := []) ⟨hx, hb, hml, hown, hts⟩ (m_usual l H.size a x_9 (iv_w i_104 (by decide) (by decide))) (va_cwS 2 hts (gS kw_8_161 kw_8_162 kw_1_15 kw_8_163) rfl rfl rfl (by decide +kernel) ⟨Nat.le_of_ble_eq_true rfl, Nat.le_of_ble_eq_true rfl⟩) ⟨fun a U g mk q => ⟨q.1, q.2⟩, fun U hU hW => ⟨rfl, congrArg Array.size hU⟩⟩ rfl rfl hl.1 rfl (lv_room (Nat.le_of_ble_eq_true rfl)) dX12_tells_162 ⟨Nat.le_of_ble_eq_true rfl, Nat.le_of_ble_eq_true rfl⟩) hS (fun q _ h9 => nM_up hS q h9) (nM_up hS) (fun r_148 u t H1 locs ht _ hw hB _ hk1 hS => ?_)
                      have hP := my_keepM hP hk1
                      generalize H1 = H at hP hS ⊢
                      exact W.iret (v := r_148) hx hb hr (fun t ht hW => ⟨⟨r_148, (fv_129, wd_133, ar_131), rfl, ⟨hF_fv_129, hA_ar_131, (fM_call (fM_call (fM_call (fM_put (fM_rf [66] _) efv_1 (by decide)) fr_116 (by decide)) fr_126 (by decide)) fr_130 (by decide)), (fA_call (fA_call (fA_call (fA_rf [64, 65] _) fa_117 (by decide)) fa_127 (by decide)) fa_132 (by decide)), trivial⟩, ⟨by rw [ht]; exact hP, va_K.moved hW.alike hK⟩⟩, hS.F ht⟩) hS.2.2 dX12_tells_165
                    · skip
                      have i_149 : 0 ≤ x_128.toInt ∧ x_128.toInt ≤ 15 := iv_lt1 i_x_128 i_145 (Int32.not_le.mp c_146)
                      have i_150 : 1 ≤ v_144.toInt ∧ v_144.toInt ≤ 16 := iv_lt2 i_x_128 i_145 (Int32.not_le.mp c_146)
                      have k_151 := Int32.lt_iff_toInt_lt.mp (Int32.not_le.mp c_146)
                      refine lv_bipush (v := 16) hx hb dX12_tells_92 (by decide) ?_
                      refine lv_iload hx hb dX12_tells_94 (lv_at hl 3 rfl) ?_
                      refine lv_imul hx hb dX12_tells_96 ?_
                      refine lv_topi (fun v_152 ev_152 => ?_)
                      have t_153 : v_152.toInt = 16 * r_120.toInt ∧ 0 ≤ v_152.toInt ∧ v_152.toInt ≤ 144 := iv_mulc ev_152 i_142 (by decide) (by decide) (by decide) (by decide)
                      refine lv_iload hx hb dX12_tells_97 (lv_at hl 4 rfl) ?_
                      refine lv_iadd hx hb dX12_tells_99 ?_
                      refine lv_topi (fun v_155 ev_155 => ?_)
                      have t_156 : v_155.toInt = v_152.toInt + x_128.toInt ∧ 0 ≤ v_155.toInt ∧ v_155.toInt ≤ 159 := iv_add ev_155 t_153.2 i_149 (by decide) (by decide)
                      refine lv_istore (lv' := [(8, .int v_155), (0, .ref h), (2, .int a), (5, .int x_9), (6, .int r_120), (7, .int x_128)]) hx hb dX12_tells_100 hl (by decide) rfl (fun ls hl => ?_)
                      refine lv_aload_n hx hb dX12_tells_102 rfl (lv_at hl 1 rfl) ?_
                      refine gM_50 hx hb htg hown hK hP dX12_tells_103 ?_
                      refine lv_iload hx hb dX12_tells_106 (lv_at hl 0 rfl) ?_
                      refine lM_50 hx hb hK hP (iv_in t_156.2 (by decide) (by decide)) dX12_tells_108 (fun v_158 ev_158 => ?_)
                      refine lv_iload_n hx hb dX12_tells_109 rfl (lv_at hl 2 rfl) ?_
                      refine lv_icmp_ne (tgt := 153) hx hb dX12_tells_110 (by decide) (fun c_159 => ?_) (fun c_159 => ?_)
                      · skip
                        obtain ⟨v_160, ev_160⟩ : ∃ z : Int32, z = x_128 + 1 := ⟨_, rfl⟩
                        refine lv_iinc (v := v_160) (lv' := [(7, .int v_160), (8, .int v_155), (0, .ref h), (2, .int a), (5, .int x_9), (6, .int r_120)]) hx hb dX12_tells_153 hl (k := 5) rfl (by rw [ev_160]; rfl) (by decide) rfl (fun ls hl => ?_)
                        have t_161 : v_160.toInt = x_128.toInt + 1 ∧ 1 ≤ v_160.toInt ∧ v_160.toInt ≤ 16 := iv_addc ev_160 i_149 (by decide) (by decide) (by decide)
                        refine lv_goto (tgt := 74) hx hb dX12_tells_156 (by decide) ?_
                        exact ih_135 v_160 fv_129 ar_131 wd_133 _ _ ls (by omega) (iv_w t_161.2 (by decide) (by decide)) hF_fv_129 (fM_call (fM_rf [] _) fr_130 (by decide)) hA_ar_131 (fA_call (fA_rf [65] _) fa_132 (by decide)) hp_134 hP hS (lv_sub hl [2, 3, 4, 5, 0] rfl)
                      · skip
                        have i_163 : 5 ≤ v_158.toInt ∧ v_158.toInt ≤ 5 := iv_eq1 i_101 c_159
                        have k_164 := congrArg Int32.toInt c_159
                        refine lv_aload_n hx hb dX12_tells_113 rfl (lv_at hl 1 rfl) ?_
                        refine lv_iload hx hb dX12_tells_114 (lv_at hl 4 rfl) ?_
                        refine lv_aload_n hx hb dX12_tells_116 rfl (lv_at hl 1 rfl) ?_
                        refine gM_52 hx hb htg hown hK hP dX12_tells_117 ?_
                        refine lv_iload hx hb dX12_tells_120 (lv_at hl 0 rfl) ?_
                        refine lM_52 hx hb hK hP (iv_in t_156.2 (by decide) (by decide)) dX12_tells_122 (fun v_165 ev_165 => ?_)
                        have i_166 : 0 ≤ v_165.toInt ∧ v_165.toInt ≤ 120 := ev_165 ▸ hA_ar_131 52 _
                        refine lv_aload_n hx hb dX12_tells_123 rfl (lv_at hl 1 rfl) ?_
                        refine gM_53 hx hb htg hown hK hP dX12_tells_124 ?_
                        refine lv_iload hx hb dX12_tells_127 (lv_at hl 0 rfl) ?_
                        refine lM_53 hx hb hK hP (iv_in t_156.2 (by decide) (by decide)) dX12_tells_129 (fun v_167 ev_167 => ?_)
                        have i_168 : 0 ≤ v_167.toInt ∧ v_167.toInt ≤ 120 := ev_167 ▸ hA_ar_131 53 _
                        have ln9 : v_144 = ar_131 47 r_120.toInt.toNat := ev_144
                        have ff9 : v_165 = ar_131 52 (16 * r_120.toInt.toNat + x_128.toInt.toNat) := by rw [ev_165]; congr 1; show v_155.toInt.toNat = _; omega
                        have tt9 : v_167 = ar_131 53 (16 * r_120.toInt.toNat + x_128.toInt.toNat) := by rw [ev_167]; congr 1; show v_155.toInt.toNat = _; omega
                        refine va_calli (va_runV (As := [.int r_120, .int v_165, .int v_167]) (rest := []) ⟨hx, hb, hml, hown, hts⟩ (m_holds l dC dI H.size h ad cA hd fv_129 wd_133 ar_131 hF_fv_129 hA_ar_131 r_120 v_165 v_167 i_142 i_166 i_168 (by have h9 := (hp_134) r_120.toInt.toNat x_128.toInt.toNat (by have h58 : (fv_129 58) = fv 58 := (fr_130 58 rfl).trans ((fr_126 58 rfl).trans ((fr_116 58 rfl).trans ((congrFun efv_1 58)))); rw [h58]; omega) (by rw [← ln9]; omega); rw [← ff9, ← tt9] at h9; rw [show (120 * r_120.toInt + v_165.toInt).toNat = 120 * r_120.toInt.toNat + v_165.toInt.toNat from by omega, show (120 * r_120.toInt + v_167.toInt).toNat = 120 * r_120.toInt.toNat + v_167.toInt.toNat from by omega]; exact h9)) (cwV 3 hts (gV kw_8_157 kw_8_159 kw_p_82 kw_1_15 kw_8_160) rfl rfl rfl (by decide +kernel) ⟨Nat.le_of_ble_eq_true rfl, Nat.le_of_ble_eq_true rfl⟩) ⟨fun a U g mk q => ⟨q.1, q.2.1, q.2.2.1, va_K.moved (u := U) (U := U.calling g mk a) (Vm.Alike.refl U.vm) q.2.2.2⟩, va_recv hK hP (ci := 12) (q0 := 0) rfl rfl, fun U hU hW => ⟨rfl, by rw [hU], by rw [hU]; exact hP, va_K.moved hW.alike hK⟩⟩ rfl rfl hl.1 rfl (lv_room (Nat.le_of_ble_eq_true rfl)) dX12_tells_130 ⟨Nat.le_of_ble_eq_true rfl, Nat.le_of_ble_eq_true rfl⟩) hS (fun q _ h9 => aM_up hS q h9) (aM_up hS) (fun r_169 u t H1 locs ht _ hw hB _ hk1 hS => ?_)
                        obtain ⟨fv_171, wd_172, ar_173⟩ := u
                        obtain ⟨hF_fv_171, hA_ar_173, fr_174, fa_175, p_170, -⟩ := hw
                        have hP : va_P (dC, dI) vwCl (wsM h ad cA fv_171 wd_172 ar_173) H1 := by have h9 := hB.1; rw [ht] at h9; exact h9
                        have fr_174 : fM [] fv_129 fv_171 := fr_174
                        have fa_175 : fA [65] ar_131 ar_173 := fa_175
                        generalize H1 = H at hP hS ⊢
                        refine lv_if_ne (tgt := 139) hx hb dX12_tells_133 (by decide) (fun c_176 => ?_) (fun c_176 => ?_)
                        · skip
                          have i_177 : 1 ≤ r_169.toInt ∧ r_169.toInt ≤ 1 := iv_nel p_170 (by decide) c_176
                          have k_178 : ¬ r_169.toInt = 0 := fun q => c_176 (Int32.toInt_inj.mp q)
                          refine lv_aload_n hx hb dX12_tells_139 rfl (lv_at hl 1 rfl) ?_
                          refine lv_iload hx hb dX12_tells_140 (lv_at hl 5 rfl) ?_
                          refine pM_66 hx hb htg hown hK hP hS hd dX12_tells_142 (fun H locs fv_179 efv_179 hP hS => ?_)
                          have hF_fv_179 : rF fv_179 := rF_put hF_fv_171 efv_179 (iv_any _)
                          refine lv_aload_n hx hb dX12_tells_145 rfl (lv_at hl 1 rfl) ?_
                          refine gM_51 hx hb htg hown hK hP dX12_tells_146 ?_
                          refine lv_iload hx hb dX12_tells_149 (lv_at hl 0 rfl) ?_
                          refine lM_51 hx hb hK hP (iv_in t_156.2 (by decide) (by decide)) dX12_tells_151 (fun v_180 ev_180 => ?_)
                          exact W.iret (v := v_180) hx hb hr (fun t ht hW => ⟨⟨v_180, (fv_179, wd_172, ar_173), rfl, ⟨hF_fv_179, hA_ar_173, (fM_put (fM_call (fM_call (fM_call (fM_call (fM_put (fM_rf [66] _) efv_1 (by decide)) fr_116 (by decide)) fr_126 (by decide)) fr_130 (by decide)) fr_174 (by decide)) efv_179 (by decide)), (fA_call (fA_call (fA_call (fA_call (fA_rf [64, 65] _) fa_117 (by decide)) fa_127 (by decide)) fa_132 (by decide)) fa_175 (by decide)), trivial⟩, ⟨by rw [ht]; exact hP, va_K.moved hW.alike hK⟩⟩, hS.F ht⟩) hS.2.2 dX12_tells_152
                        · skip
                          have i_181 : 0 ≤ r_169.toInt ∧ r_169.toInt ≤ 0 := iv_eq1 (⟨by decide, by decide⟩ : (0 : Int) ≤ (0 : Int32).toInt ∧ (0 : Int32).toInt ≤ 0) c_176
                          refine lv_goto (tgt := 153) hx hb dX12_tells_136 (by decide) ?_
                          obtain ⟨v_183, ev_183⟩ : ∃ z : Int32, z = x_128 + 1 := ⟨_, rfl⟩
                          refine lv_iinc (v := v_183) (lv' := [(7, .int v_183), (8, .int v_155), (0, .ref h), (2, .int a), (5, .int x_9), (6, .int r_120)]) hx hb dX12_tells_153 hl (k := 5) rfl (by rw [ev_183]; rfl) (by decide) rfl (fun ls hl => ?_)
                          have t_184 : v_183.toInt = x_128.toInt + 1 ∧ 1 ≤ v_183.toInt ∧ v_183.toInt ≤ 16 := iv_addc ev_183 i_149 (by decide) (by decide) (by decide)
                          refine lv_goto (tgt := 74) hx hb dX12_tells_156 (by decide) ?_
                          exact ih_135 v_183 fv_171 ar_173 wd_172 _ _ ls (by omega) (iv_w t_184.2 (by decide) (by decide)) hF_fv_171 (fM_call (fM_call (fM_rf [] _) fr_130 (by decide)) fr_174 (by decide)) hA_ar_173 (fA_call (fA_call (fA_rf [65] _) fa_132 (by decide)) fa_175 (by decide)) (vM_fr hp_134 (fM_call (fM_rf [] _) fr_174 (by decide)) (fA_call (fA_rf [65] _) fa_175 (by decide)) rfl rfl rfl rfl rfl) hP hS (lv_sub hl [2, 3, 4, 5, 0] rfl)
              · skip
                have z_186 : (0 : Int32).toInt = 0 := by decide
                exact hj_137 17 0 fv_123 ar_125 wd_124 _ _ ls (by first | decide | omega) (iv_w (⟨by decide, by decide⟩ : (0 : Int) ≤ (0 : Int32).toInt ∧ (0 : Int32).toInt ≤ 0) (by decide) (by decide)) hF_fv_123 (fM_rf [] _) hA_ar_125 (fA_rf [65] _) (vM_fr (vM_fr hp_vM (fM_put (fM_rf [66] _) efv_1 (by decide)) (fA_rf [] _) rfl rfl rfl rfl rfl) (fM_call (fM_call (fM_rf [] _) fr_116 (by decide)) fr_126 (by decide)) (fA_call (fA_call (fA_rf [64] _) fa_117 (by decide)) fa_127 (by decide)) rfl rfl rfl rfl rfl) hP hS (lv_sub hl [3, 5, 2, 1, 0] rfl)
      · skip
        have i_187 : 1 ≤ x_9.toInt ∧ x_9.toInt ≤ 1 := iv_nel i_x_9 (by decide) c_103
        have k_188 : ¬ x_9.toInt = 0 := fun q => c_103 (Int32.toInt_inj.mp q)
        refine lv_iconst (v := 0) hx hb dX12_tells_37 (by decide) ?_
        exact W.iret (v := 0) hx hb hr (fun t ht hW => ⟨⟨0, (fv_1, wd, ar), rfl, ⟨hF_fv_1, hA_ar, (fM_put (fM_rf [66] _) efv_1 (by decide)), (fA_rf [64, 65] _), trivial⟩, ⟨by rw [ht]; exact hP, va_K.moved hW.alike hK⟩⟩, hS.F ht⟩) hS.2.2 dX12_tells_38
  · skip
    refine lv_icmp_ne (tgt := 24) hx hb dX12_tells_17 (by decide) (fun c_5 => ?_) (fun c_5 => ?_)
    · skip
      have k_6 : ¬ v_4.toInt = 2 := fun q => c_5 (Int32.toInt_inj.mp q)
      refine lv_iconst (v := 0) hx hb dX12_tells_24 (by decide) ?_
      exact hj_10 0 _ _ ls (iv_w (⟨by decide, by decide⟩ : (0 : Int) ≤ (0 : Int32).toInt ∧ (0 : Int32).toInt ≤ 0) (by decide) (by decide)) hP hS (lv_sub hl [0, 1, 2, 3, 4] rfl)
    · skip
      have i_7 : 2 ≤ v_4.toInt ∧ v_4.toInt ≤ 2 := iv_eq1 (⟨by decide, by decide⟩ : (2 : Int) ≤ (2 : Int32).toInt ∧ (2 : Int32).toInt ≤ 2) c_5
      refine lv_iconst (v := 1) hx hb dX12_tells_20 (by decide) ?_
      refine lv_goto (tgt := 25) hx hb dX12_tells_21 (by decide) ?_
      exact hj_10 1 _ _ ls (iv_w (⟨by decide, by decide⟩ : (1 : Int) ≤ (1 : Int32).toInt ∧ (1 : Int32).toInt ≤ 1) (by decide) (by decide)) hP hS (lv_sub hl [0, 1, 2, 3, 4] rfl)
set_option maxHeartbeats 4000000 in
set_option maxRecDepth 100000 in
theorem m_told (l : Launch) (dC : Nat → ClassId) (dI : Nat → Nat → Nat) (sz h : Nat) (ad : Nat → Nat) (cA : Nat → ClassId) (hd : dM h ad) (fv : Nat → Int32) (wd : Int64) (ar : Nat → Nat → Int32) (hF_fv : rF fv) (hA_ar : rA ar) (a : Int32) (b : Int32) (v : Int32) (f : Int32) (hp_vM : vM fv ar) : Met l yX12_told (.code yX12_told cX12_told 6 (some .int) :: lw_good) ({ frames := 5, cells := 0, slots := 0, locals := 114 }) (va_Pc [.ref h, .int a, .int b, .int v, .int f] (prM dC dI h ad cA fv wd ar sz)) (va_Qi (fun (r : Int32) (u : mS) => rF u.1 ∧ rA u.2.2 ∧ fM [0, 66, 67] fv u.1 ∧ fA [64, 65] ar u.2.2 ∧ True) (enM dC dI h ad cA) (aM h ad sz)) 0 0 (aM h ad sz) := by
  refine Met.ofW (cc := cX12_told) (maxL := 6) (ret := (some .int)) (by decide) rfl ?_
  intro p e s m args below meth c s₁ B hml hv
  obtain ⟨rfl, hsz, hP, hK⟩ := hv
  have hx := B.exec
  have hb := B.bytes
  have hr := B.returns
  have hts := atoms_spec (ws := (.code yX12_told cX12_told 6 (some .int) :: lw_good)) B.pre
  have htg : ∀ w ∈ lw_good, w.before _ s = true := fun w hw => hts w (List.mem_cons_of_mem _ hw)
  have hown : s.vm.findClass RX12 = some m.cls := findClass_of_methodNamed B.named
  have hlocks := B.notSynchronized
  subst hsz
  have hS : va_S (aM h ad s.heap.size) s.heap s.heap [] := va_S.rf
  have hl := lv_entry ([.ref h, .int a, .int b, .int v, .int f]) (n := 6) (Nat.le_of_ble_eq_true rfl)
  rw [lg_entry_eq]
  generalize (lg_sl ([.ref h, .int a, .int b, .int v, .int f]) ++ List.replicate (6 - (lg_sl ([.ref h, .int a, .int b, .int v, .int f])).length) Slot.unset).toArray = ls at hl ⊢
  have hl : lv_has ls 6 [(0, .ref h), (1, .int a), (2, .int b), (3, .int v), (4, .int f)] := hl
  refine lv_aload_n hx hb dX12_told_0 rfl (lv_at hl 0 rfl) ?_
  refine lv_iconst (v := 0) hx hb dX12_told_1 (by decide) ?_
  refine pM_0 hx hb htg hown hK hP hS hd dX12_told_2 (fun H locs fv_1 efv_1 hP hS => ?_)
  have hF_fv_1 : rF fv_1 := rF_put hF_fv efv_1 (iv_any _)
  refine lv_iload_n hx hb dX12_told_5 rfl (lv_at hl 1 rfl) ?_
  refine lv_iconst (v := 0) hx hb dX12_told_6 (by decide) ?_
  refine lv_aload_n hx hb dX12_told_7 rfl (lv_at hl 0 rfl) ?_
  refine gM_35 hx hb htg hown hK hP dX12_told_8 ?_
  refine my_ti (y := fv 35) ((congrFun efv_1 35)) ?_
  have i_2 : 0 ≤ (fv 35).toInt ∧ (fv 35).toInt ≤ 80 := hF_fv 35
  refine lv_iconst (v := 1) hx hb dX12_told_11 (by decide) ?_
  refine lv_isub hx hb dX12_told_12 ?_
  refine lv_topi (fun v_3 ev_3 => ?_)
  have t_4 : v_3.toInt = (fv 35).toInt - 1 ∧ (-1) ≤ v_3.toInt ∧ v_3.toInt ≤ 79 := iv_subc ev_3 i_2 (by decide) (by decide) (by decide)
  refine va_calli (va_runS (As := [.int a, .int 0, .int v_3]) (rest := []) ⟨hx, hb, hml, hown, hts⟩ (m_isIn l H.size a 0 v_3) (va_cwS 3 hts (gS kw_7_218 kw_7_219 kw_1_15 kw_7_220) rfl rfl rfl (by decide +kernel) ⟨Nat.le_of_ble_eq_true rfl, Nat.le_of_ble_eq_true rfl⟩) ⟨fun a U g mk q => ⟨q.1, q.2⟩, fun U hU hW => ⟨rfl, congrArg Array.size hU⟩⟩ rfl rfl hl.1 rfl (lv_room (Nat.le_of_ble_eq_true rfl)) dX12_told_13 ⟨Nat.le_of_ble_eq_true rfl, Nat.le_of_ble_eq_true rfl⟩) hS (fun q _ h9 => nM_up hS q h9) (nM_up hS) (fun r_6 u t H1 locs ht _ hw hB _ hk1 hS => ?_)
  obtain ⟨p_7, p_8, -⟩ := hw
  have hP := my_keepM hP hk1
  generalize H1 = H at hP hS ⊢
  rcases p_8 with ⟨rfl, p_8⟩ | ⟨rfl, p_8⟩
  · skip
    refine lv_if_eq (tgt := 37) hx hb dX12_told_16 (by decide) (fun c_9 => ?_) (fun c_9 => ?_)
    · skip
      refine lv_iconst (v := (-1)) hx hb dX12_told_37 (by decide) ?_
      exact W.iret (v := (-1)) hx hb hr (fun t ht hW => ⟨⟨(-1), (fv_1, wd, ar), rfl, ⟨hF_fv_1, hA_ar, (fM_put (fM_rf [0, 66, 67] _) efv_1 (by decide)), (fA_rf [64, 65] _), trivial⟩, ⟨by rw [ht]; exact hP, va_K.moved hW.alike hK⟩⟩, hS.F ht⟩) hS.2.2 dX12_told_38
    · skip
      exact absurd c_9 (by decide)
  · skip
    have i_10 : 0 ≤ a.toInt ∧ a.toInt ≤ 2147483647 := iv_le2 (⟨by decide, by decide⟩ : (0 : Int) ≤ (0 : Int32).toInt ∧ (0 : Int32).toInt ≤ 0) (iv_any a) (Int32.le_iff_toInt_le.mpr p_8.1)
    have i_11 : 0 ≤ a.toInt ∧ a.toInt ≤ 79 := iv_le1 i_10 t_4.2 (Int32.le_iff_toInt_le.mpr p_8.2)
    have i_12 : 0 ≤ v_3.toInt ∧ v_3.toInt ≤ 79 := iv_le2 i_10 t_4.2 (Int32.le_iff_toInt_le.mpr p_8.2)
    refine lv_if_eq (tgt := 37) hx hb dX12_told_16 (by decide) (fun c_13 => ?_) (fun c_13 => ?_)
    · skip
      exact absurd c_13 (by decide)
    · skip
      refine lv_iload_n hx hb dX12_told_19 rfl (lv_at hl 2 rfl) ?_
      refine lv_iconst (v := 0) hx hb dX12_told_20 (by decide) ?_
      refine lv_iconst (v := 5) hx hb dX12_told_21 (by decide) ?_
      refine va_calli (va_runS (As := [.int b, .int 0, .int 5]) (rest := []) ⟨hx, hb, hml, hown, hts⟩ (m_isIn l H.size b 0 5) (va_cwS 3 hts (gS kw_7_218 kw_7_219 kw_1_15 kw_7_220) rfl rfl rfl (by decide +kernel) ⟨Nat.le_of_ble_eq_true rfl, Nat.le_of_ble_eq_true rfl⟩) ⟨fun a U g mk q => ⟨q.1, q.2⟩, fun U hU hW => ⟨rfl, congrArg Array.size hU⟩⟩ rfl rfl hl.1 rfl (lv_room (Nat.le_of_ble_eq_true rfl)) dX12_told_22 ⟨Nat.le_of_ble_eq_true rfl, Nat.le_of_ble_eq_true rfl⟩) hS (fun q _ h9 => nM_up hS q h9) (nM_up hS) (fun r_14 u t H1 locs ht _ hw hB _ hk1 hS => ?_)
      obtain ⟨p_15, p_16, -⟩ := hw
      have hP := my_keepM hP hk1
      generalize H1 = H at hP hS ⊢
      rcases p_16 with ⟨rfl, p_16⟩ | ⟨rfl, p_16⟩
      · skip
        refine lv_if_eq (tgt := 37) hx hb dX12_told_25 (by decide) (fun c_17 => ?_) (fun c_17 => ?_)
        · skip
          refine lv_iconst (v := (-1)) hx hb dX12_told_37 (by decide) ?_
          exact W.iret (v := (-1)) hx hb hr (fun t ht hW => ⟨⟨(-1), (fv_1, wd, ar), rfl, ⟨hF_fv_1, hA_ar, (fM_put (fM_rf [0, 66, 67] _) efv_1 (by decide)), (fA_rf [64, 65] _), trivial⟩, ⟨by rw [ht]; exact hP, va_K.moved hW.alike hK⟩⟩, hS.F ht⟩) hS.2.2 dX12_told_38
        · skip
          exact absurd c_17 (by decide)
      · skip
        have i_18 : 0 ≤ b.toInt ∧ b.toInt ≤ 2147483647 := iv_le2 (⟨by decide, by decide⟩ : (0 : Int) ≤ (0 : Int32).toInt ∧ (0 : Int32).toInt ≤ 0) (iv_any b) (Int32.le_iff_toInt_le.mpr p_16.1)
        have i_19 : 0 ≤ b.toInt ∧ b.toInt ≤ 5 := iv_le1 i_18 (⟨by decide, by decide⟩ : (5 : Int) ≤ (5 : Int32).toInt ∧ (5 : Int32).toInt ≤ 5) (Int32.le_iff_toInt_le.mpr p_16.2)
        refine lv_if_eq (tgt := 37) hx hb dX12_told_25 (by decide) (fun c_20 => ?_) (fun c_20 => ?_)
        · skip
          exact absurd c_20 (by decide)
        · skip
          refine lv_iload_n hx hb dX12_told_28 rfl (lv_at hl 3 rfl) ?_
          refine lv_if_lt (tgt := 37) hx hb dX12_told_29 (by decide) (fun c_21 => ?_) (fun c_21 => ?_)
          · skip
            have i_22 : (-2147483648) ≤ v.toInt ∧ v.toInt ≤ (-1) := iv_lt1 (iv_any v) (⟨by decide, by decide⟩ : (0 : Int) ≤ (0 : Int32).toInt ∧ (0 : Int32).toInt ≤ 0) c_21
            refine lv_iconst (v := (-1)) hx hb dX12_told_37 (by decide) ?_
            exact W.iret (v := (-1)) hx hb hr (fun t ht hW => ⟨⟨(-1), (fv_1, wd, ar), rfl, ⟨hF_fv_1, hA_ar, (fM_put (fM_rf [0, 66, 67] _) efv_1 (by decide)), (fA_rf [64, 65] _), trivial⟩, ⟨by rw [ht]; exact hP, va_K.moved hW.alike hK⟩⟩, hS.F ht⟩) hS.2.2 dX12_told_38
          · skip
            have i_23 : 0 ≤ v.toInt ∧ v.toInt ≤ 2147483647 := iv_le2 (⟨by decide, by decide⟩ : (0 : Int) ≤ (0 : Int32).toInt ∧ (0 : Int32).toInt ≤ 0) (iv_any v) (Int32.not_lt.mp c_21)
            refine lv_iload hx hb dX12_told_32 (lv_at hl 4 rfl) ?_
            refine lv_if_ge (tgt := 39) hx hb dX12_told_34 (by decide) (fun c_24 => ?_) (fun c_24 => ?_)
            · skip
              have i_25 : 0 ≤ f.toInt ∧ f.toInt ≤ 2147483647 := iv_le2 (⟨by decide, by decide⟩ : (0 : Int) ≤ (0 : Int32).toInt ∧ (0 : Int32).toInt ≤ 0) (iv_any f) c_24
              refine lv_aload_n hx hb dX12_told_39 rfl (lv_at hl 0 rfl) ?_
              refine lv_iload_n hx hb dX12_told_40 rfl (lv_at hl 1 rfl) ?_
              refine lv_iload_n hx hb dX12_told_41 rfl (lv_at hl 2 rfl) ?_
              refine lv_iload_n hx hb dX12_told_42 rfl (lv_at hl 3 rfl) ?_
              refine lv_iload hx hb dX12_told_43 (lv_at hl 4 rfl) ?_
              refine va_calli (va_runV (As := [.int a, .int b, .int v, .int f]) (rest := []) ⟨hx, hb, hml, hown, hts⟩ (m_tells l dC dI H.size h ad cA hd fv_1 wd ar hF_fv_1 hA_ar a b v f i_11 (vM_fr hp_vM (fM_put (fM_rf [0] _) efv_1 (by decide)) (fA_rf [] _) rfl rfl rfl rfl rfl)) (cwV 4 hts (gV kw_8_145 kw_8_147 kw_p_79 kw_1_15 kw_8_148) rfl rfl rfl (by decide +kernel) ⟨Nat.le_of_ble_eq_true rfl, Nat.le_of_ble_eq_true rfl⟩) ⟨fun a U g mk q => ⟨q.1, q.2.1, q.2.2.1, va_K.moved (u := U) (U := U.calling g mk a) (Vm.Alike.refl U.vm) q.2.2.2⟩, va_recv hK hP (ci := 12) (q0 := 0) rfl rfl, fun U hU hW => ⟨rfl, by rw [hU], by rw [hU]; exact hP, va_K.moved hW.alike hK⟩⟩ rfl rfl hl.1 rfl (lv_room (Nat.le_of_ble_eq_true rfl)) dX12_told_45 ⟨Nat.le_of_ble_eq_true rfl, Nat.le_of_ble_eq_true rfl⟩) hS (fun q _ h9 => aM_up hS q h9) (aM_up hS) (fun r_26 u t H1 locs ht _ hw hB _ hk1 hS => ?_)
              obtain ⟨fv_27, wd_28, ar_29⟩ := u
              obtain ⟨hF_fv_27, hA_ar_29, fr_30, fa_31, -⟩ := hw
              have hP : va_P (dC, dI) vwCl (wsM h ad cA fv_27 wd_28 ar_29) H1 := by have h9 := hB.1; rw [ht] at h9; exact h9
              have fr_30 : fM [66] fv_1 fv_27 := fr_30
              have fa_31 : fA [64, 65] ar ar_29 := fa_31
              generalize H1 = H at hP hS ⊢
              refine lv_istore (lv' := [(5, .int r_26), (0, .ref h), (1, .int a), (2, .int b), (3, .int v), (4, .int f)]) hx hb dX12_told_48 hl (by decide) rfl (fun ls hl => ?_)
              refine lv_aload_n hx hb dX12_told_50 rfl (lv_at hl 1 rfl) ?_
              refine lv_aload_n hx hb dX12_told_51 rfl (lv_at hl 1 rfl) ?_
              refine gM_66 hx hb htg hown hK hP dX12_told_52 ?_
              refine pM_67 hx hb htg hown hK hP hS hd dX12_told_55 (fun H locs fv_32 efv_32 hP hS => ?_)
              have hF_fv_32 : rF fv_32 := rF_put hF_fv_27 efv_32 (iv_any (fv_27 66))
              refine lv_iload hx hb dX12_told_58 (lv_at hl 0 rfl) ?_
              exact W.iret (v := r_26) hx hb hr (fun t ht hW => ⟨⟨r_26, (fv_32, wd_28, ar_29), rfl, ⟨hF_fv_32, hA_ar_29, (fM_put (fM_call (fM_put (fM_rf [0, 66, 67] _) efv_1 (by decide)) fr_30 (by decide)) efv_32 (by decide)), (fA_call (fA_rf [64, 65] _) fa_31 (by decide)), trivial⟩, ⟨by rw [ht]; exact hP, va_K.moved hW.alike hK⟩⟩, hS.F ht⟩) hS.2.2 dX12_told_60
            · skip
              have i_33 : (-2147483648) ≤ f.toInt ∧ f.toInt ≤ (-1) := iv_lt1 (iv_any f) (⟨by decide, by decide⟩ : (0 : Int) ≤ (0 : Int32).toInt ∧ (0 : Int32).toInt ≤ 0) (Int32.not_le.mp c_24)
              refine lv_iconst (v := (-1)) hx hb dX12_told_37 (by decide) ?_
              exact W.iret (v := (-1)) hx hb hr (fun t ht hW => ⟨⟨(-1), (fv_1, wd, ar), rfl, ⟨hF_fv_1, hA_ar, (fM_put (fM_rf [0, 66, 67] _) efv_1 (by decide)), (fA_rf [64, 65] _), trivial⟩, ⟨by rw [ht]; exact hP, va_K.moved hW.alike hK⟩⟩, hS.F ht⟩) hS.2.2 dX12_told_38

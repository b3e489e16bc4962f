theorem dX12_arrive_0 : decode cX12_arrive 0 = .ok (.aload_n 0, 1) := by decide +kernel
theorem dX12_arrive_1 : decode cX12_arrive 1 = .ok (.getfield 135, 3) := by decide +kernel
theorem dX12_arrive_4 : decode cX12_arrive 4 = .ok (.iload_n 1, 1) := by decide +kernel
theorem dX12_arrive_5 : decode cX12_arrive 5 = .ok (.iaload, 1) := by decide +kernel
theorem dX12_arrive_6 : decode cX12_arrive 6 = .ok (.iconst 1, 1) := by decide +kernel
theorem dX12_arrive_7 : decode cX12_arrive 7 = .ok (.if_icmp .ne 11, 3) := by decide +kernel
theorem dX12_arrive_10 : decode cX12_arrive 10 = .ok (.aload_n 0, 1) := by decide +kernel
theorem dX12_arrive_11 : decode cX12_arrive 11 = .ok (.getfield 135, 3) := by decide +kernel
theorem dX12_arrive_14 : decode cX12_arrive 14 = .ok (.iload_n 1, 1) := by decide +kernel
theorem dX12_arrive_15 : decode cX12_arrive 15 = .ok (.iconst 2, 1) := by decide +kernel
theorem dX12_arrive_16 : decode cX12_arrive 16 = .ok (.iastore, 1) := by decide +kernel
theorem dX12_arrive_17 : decode cX12_arrive 17 = .ok (.return_, 1) := by decide +kernel
theorem dX12_arrive_18 : decode cX12_arrive 18 = .ok (.aload_n 0, 1) := by decide +kernel
theorem dX12_arrive_19 : decode cX12_arrive 19 = .ok (.getfield 135, 3) := by decide +kernel
theorem dX12_arrive_22 : decode cX12_arrive 22 = .ok (.iload_n 1, 1) := by decide +kernel
theorem dX12_arrive_23 : decode cX12_arrive 23 = .ok (.iconst 5, 1) := by decide +kernel
theorem dX12_arrive_24 : decode cX12_arrive 24 = .ok (.iastore, 1) := by decide +kernel
theorem dX12_arrive_25 : decode cX12_arrive 25 = .ok (.aload_n 0, 1) := by decide +kernel
theorem dX12_arrive_26 : decode cX12_arrive 26 = .ok (.getfield 147, 3) := by decide +kernel
theorem dX12_arrive_29 : decode cX12_arrive 29 = .ok (.iload_n 1, 1) := by decide +kernel
theorem dX12_arrive_30 : decode cX12_arrive 30 = .ok (.aload_n 0, 1) := by decide +kernel
theorem dX12_arrive_31 : decode cX12_arrive 31 = .ok (.getfield 443, 3) := by decide +kernel
theorem dX12_arrive_34 : decode cX12_arrive 34 = .ok (.iastore, 1) := by decide +kernel
theorem dX12_arrive_35 : decode cX12_arrive 35 = .ok (.return_, 1) := by decide +kernel
theorem dX12_choose_0 : decode cX12_choose 0 = .ok (.aload_n 0, 1) := by decide +kernel
theorem dX12_choose_1 : decode cX12_choose 1 = .ok (.iload_n 1, 1) := by decide +kernel
theorem dX12_choose_2 : decode cX12_choose 2 = .ok (.invokevirtual 449, 3) := by decide +kernel
theorem dX12_choose_5 : decode cX12_choose 5 = .ok (.ldc 225, 2) := by decide +kernel
theorem dX12_choose_7 : decode cX12_choose 7 = .ok (.istore_n 3, 1) := by decide +kernel
theorem dX12_choose_8 : decode cX12_choose 8 = .ok (.iconst (-1), 1) := by decide +kernel
theorem dX12_choose_9 : decode cX12_choose 9 = .ok (.istore 4, 2) := by decide +kernel
theorem dX12_choose_11 : decode cX12_choose 11 = .ok (.aload_n 0, 1) := by decide +kernel
theorem dX12_choose_12 : decode cX12_choose 12 = .ok (.aload_n 0, 1) := by decide +kernel
theorem dX12_choose_13 : decode cX12_choose 13 = .ok (.getfield 138, 3) := by decide +kernel
theorem dX12_choose_16 : decode cX12_choose 16 = .ok (.iload_n 1, 1) := by decide +kernel
theorem dX12_choose_17 : decode cX12_choose 17 = .ok (.iaload, 1) := by decide +kernel
theorem dX12_choose_18 : decode cX12_choose 18 = .ok (.aload_n 0, 1) := by decide +kernel
theorem dX12_choose_19 : decode cX12_choose 19 = .ok (.getfield 22, 3) := by decide +kernel
theorem dX12_choose_22 : decode cX12_choose 22 = .ok (.iload_n 1, 1) := by decide +kernel
theorem dX12_choose_23 : decode cX12_choose 23 = .ok (.iaload, 1) := by decide +kernel
theorem dX12_choose_24 : decode cX12_choose 24 = .ok (.invokevirtual 236, 3) := by decide +kernel
theorem dX12_choose_27 : decode cX12_choose 27 = .ok (.ldc 225, 2) := by decide +kernel
theorem dX12_choose_29 : decode cX12_choose 29 = .ok (.if_icmp .ge 26, 3) := by decide +kernel
theorem dX12_choose_32 : decode cX12_choose 32 = .ok (.aload_n 0, 1) := by decide +kernel
theorem dX12_choose_33 : decode cX12_choose 33 = .ok (.getfield 443, 3) := by decide +kernel
theorem dX12_choose_36 : decode cX12_choose 36 = .ok (.aload_n 0, 1) := by decide +kernel
theorem dX12_choose_37 : decode cX12_choose 37 = .ok (.iload_n 1, 1) := by decide +kernel
theorem dX12_choose_38 : decode cX12_choose 38 = .ok (.aload_n 0, 1) := by decide +kernel
theorem dX12_choose_39 : decode cX12_choose 39 = .ok (.getfield 138, 3) := by decide +kernel
theorem dX12_choose_42 : decode cX12_choose 42 = .ok (.iload_n 1, 1) := by decide +kernel
theorem dX12_choose_43 : decode cX12_choose 43 = .ok (.iaload, 1) := by decide +kernel
theorem dX12_choose_44 : decode cX12_choose 44 = .ok (.aload_n 0, 1) := by decide +kernel
theorem dX12_choose_45 : decode cX12_choose 45 = .ok (.getfield 22, 3) := by decide +kernel
theorem dX12_choose_48 : decode cX12_choose 48 = .ok (.iload_n 1, 1) := by decide +kernel
theorem dX12_choose_49 : decode cX12_choose 49 = .ok (.iaload, 1) := by decide +kernel
theorem dX12_choose_50 : decode cX12_choose 50 = .ok (.invokevirtual 439, 3) := by decide +kernel
theorem dX12_choose_53 : decode cX12_choose 53 = .ok (.iadd, 1) := by decide +kernel
theorem dX12_choose_54 : decode cX12_choose 54 = .ok (.istore_n 3, 1) := by decide +kernel
theorem dX12_choose_55 : decode cX12_choose 55 = .ok (.iconst 0, 1) := by decide +kernel
theorem dX12_choose_56 : decode cX12_choose 56 = .ok (.istore 5, 2) := by decide +kernel
theorem dX12_choose_58 : decode cX12_choose 58 = .ok (.iload 5, 2) := by decide +kernel
theorem dX12_choose_60 : decode cX12_choose 60 = .ok (.aload_n 0, 1) := by decide +kernel
theorem dX12_choose_61 : decode cX12_choose 61 = .ok (.getfield 269, 3) := by decide +kernel
theorem dX12_choose_64 : decode cX12_choose 64 = .ok (.if_icmp .ge 124, 3) := by decide +kernel
theorem dX12_choose_67 : decode cX12_choose 67 = .ok (.aload_n 0, 1) := by decide +kernel
theorem dX12_choose_68 : decode cX12_choose 68 = .ok (.iload_n 1, 1) := by decide +kernel
theorem dX12_choose_69 : decode cX12_choose 69 = .ok (.iload 5, 2) := by decide +kernel
theorem dX12_choose_71 : decode cX12_choose 71 = .ok (.invokevirtual 432, 3) := by decide +kernel
theorem dX12_choose_74 : decode cX12_choose 74 = .ok (.ifCond .eq 108, 3) := by decide +kernel
theorem dX12_choose_77 : decode cX12_choose 77 = .ok (.aload_n 0, 1) := by decide +kernel
theorem dX12_choose_78 : decode cX12_choose 78 = .ok (.getfield 76, 3) := by decide +kernel
theorem dX12_choose_81 : decode cX12_choose 81 = .ok (.iload 5, 2) := by decide +kernel
theorem dX12_choose_83 : decode cX12_choose 83 = .ok (.iaload, 1) := by decide +kernel
theorem dX12_choose_84 : decode cX12_choose 84 = .ok (.iload_n 2, 1) := by decide +kernel
theorem dX12_choose_85 : decode cX12_choose 85 = .ok (.if_icmp .lt 97, 3) := by decide +kernel
theorem dX12_choose_88 : decode cX12_choose 88 = .ok (.aload_n 0, 1) := by decide +kernel
theorem dX12_choose_89 : decode cX12_choose 89 = .ok (.aload_n 0, 1) := by decide +kernel
theorem dX12_choose_90 : decode cX12_choose 90 = .ok (.getfield 138, 3) := by decide +kernel
theorem dX12_choose_93 : decode cX12_choose 93 = .ok (.iload_n 1, 1) := by decide +kernel
theorem dX12_choose_94 : decode cX12_choose 94 = .ok (.iaload, 1) := by decide +kernel
theorem dX12_choose_95 : decode cX12_choose 95 = .ok (.aload_n 0, 1) := by decide +kernel
theorem dX12_choose_96 : decode cX12_choose 96 = .ok (.getfield 49, 3) := by decide +kernel
theorem dX12_choose_99 : decode cX12_choose 99 = .ok (.aload_n 0, 1) := by decide +kernel
theorem dX12_choose_100 : decode cX12_choose 100 = .ok (.getfield 70, 3) := by decide +kernel
theorem dX12_choose_103 : decode cX12_choose 103 = .ok (.iload 5, 2) := by decide +kernel
theorem dX12_choose_105 : decode cX12_choose 105 = .ok (.iaload, 1) := by decide +kernel
theorem dX12_choose_106 : decode cX12_choose 106 = .ok (.iaload, 1) := by decide +kernel
theorem dX12_choose_107 : decode cX12_choose 107 = .ok (.invokevirtual 236, 3) := by decide +kernel
theorem dX12_choose_110 : decode cX12_choose 110 = .ok (.ldc 225, 2) := by decide +kernel
theorem dX12_choose_112 : decode cX12_choose 112 = .ok (.if_icmp .lt 6, 3) := by decide +kernel
theorem dX12_choose_115 : decode cX12_choose 115 = .ok (.goto 67, 3) := by decide +kernel
theorem dX12_choose_118 : decode cX12_choose 118 = .ok (.aload_n 0, 1) := by decide +kernel
theorem dX12_choose_119 : decode cX12_choose 119 = .ok (.getfield 443, 3) := by decide +kernel
theorem dX12_choose_122 : decode cX12_choose 122 = .ok (.aload_n 0, 1) := by decide +kernel
theorem dX12_choose_123 : decode cX12_choose 123 = .ok (.iload_n 1, 1) := by decide +kernel
theorem dX12_choose_124 : decode cX12_choose 124 = .ok (.aload_n 0, 1) := by decide +kernel
theorem dX12_choose_125 : decode cX12_choose 125 = .ok (.getfield 138, 3) := by decide +kernel
theorem dX12_choose_128 : decode cX12_choose 128 = .ok (.iload_n 1, 1) := by decide +kernel
theorem dX12_choose_129 : decode cX12_choose 129 = .ok (.iaload, 1) := by decide +kernel
theorem dX12_choose_130 : decode cX12_choose 130 = .ok (.aload_n 0, 1) := by decide +kernel
theorem dX12_choose_131 : decode cX12_choose 131 = .ok (.getfield 49, 3) := by decide +kernel
theorem dX12_choose_134 : decode cX12_choose 134 = .ok (.aload_n 0, 1) := by decide +kernel
theorem dX12_choose_135 : decode cX12_choose 135 = .ok (.getfield 70, 3) := by decide +kernel
theorem dX12_choose_138 : decode cX12_choose 138 = .ok (.iload 5, 2) := by decide +kernel
theorem dX12_choose_140 : decode cX12_choose 140 = .ok (.iaload, 1) := by decide +kernel
theorem dX12_choose_141 : decode cX12_choose 141 = .ok (.iaload, 1) := by decide +kernel
theorem dX12_choose_142 : decode cX12_choose 142 = .ok (.invokevirtual 439, 3) := by decide +kernel
theorem dX12_choose_145 : decode cX12_choose 145 = .ok (.iadd, 1) := by decide +kernel
theorem dX12_choose_146 : decode cX12_choose 146 = .ok (.aload_n 0, 1) := by decide +kernel
theorem dX12_choose_147 : decode cX12_choose 147 = .ok (.getfield 76, 3) := by decide +kernel
theorem dX12_choose_150 : decode cX12_choose 150 = .ok (.iload 5, 2) := by decide +kernel
theorem dX12_choose_152 : decode cX12_choose 152 = .ok (.iaload, 1) := by decide +kernel
theorem dX12_choose_153 : decode cX12_choose 153 = .ok (.if_icmp .gt 29, 3) := by decide +kernel
theorem dX12_choose_156 : decode cX12_choose 156 = .ok (.aload_n 0, 1) := by decide +kernel
theorem dX12_choose_157 : decode cX12_choose 157 = .ok (.getfield 177, 3) := by decide +kernel
theorem dX12_choose_160 : decode cX12_choose 160 = .ok (.iload 5, 2) := by decide +kernel
theorem dX12_choose_162 : decode cX12_choose 162 = .ok (.iaload, 1) := by decide +kernel
theorem dX12_choose_163 : decode cX12_choose 163 = .ok (.iload_n 3, 1) := by decide +kernel
theorem dX12_choose_164 : decode cX12_choose 164 = .ok (.if_icmp .lt 6, 3) := by decide +kernel
theorem dX12_choose_167 : decode cX12_choose 167 = .ok (.goto 15, 3) := by decide +kernel
theorem dX12_choose_170 : decode cX12_choose 170 = .ok (.aload_n 0, 1) := by decide +kernel
theorem dX12_choose_171 : decode cX12_choose 171 = .ok (.getfield 177, 3) := by decide +kernel
theorem dX12_choose_174 : decode cX12_choose 174 = .ok (.iload 5, 2) := by decide +kernel
theorem dX12_choose_176 : decode cX12_choose 176 = .ok (.iaload, 1) := by decide +kernel
theorem dX12_choose_177 : decode cX12_choose 177 = .ok (.istore_n 3, 1) := by decide +kernel
theorem dX12_choose_178 : decode cX12_choose 178 = .ok (.iload 5, 2) := by decide +kernel
theorem dX12_choose_180 : decode cX12_choose 180 = .ok (.istore 4, 2) := by decide +kernel
theorem dX12_choose_182 : decode cX12_choose 182 = .ok (.iinc 5 1, 3) := by decide +kernel
theorem dX12_choose_185 : decode cX12_choose 185 = .ok (.goto (-127), 3) := by decide +kernel
theorem dX12_choose_188 : decode cX12_choose 188 = .ok (.iload 4, 2) := by decide +kernel
theorem dX12_choose_190 : decode cX12_choose 190 = .ok (.iconst (-1), 1) := by decide +kernel
theorem dX12_choose_191 : decode cX12_choose 191 = .ok (.if_icmp .eq 26, 3) := by decide +kernel
theorem dX12_choose_194 : decode cX12_choose 194 = .ok (.aload_n 0, 1) := by decide +kernel
theorem dX12_choose_195 : decode cX12_choose 195 = .ok (.iload_n 1, 1) := by decide +kernel
theorem dX12_choose_196 : decode cX12_choose 196 = .ok (.aload_n 0, 1) := by decide +kernel
theorem dX12_choose_197 : decode cX12_choose 197 = .ok (.getfield 49, 3) := by decide +kernel
theorem dX12_choose_200 : decode cX12_choose 200 = .ok (.aload_n 0, 1) := by decide +kernel
theorem dX12_choose_201 : decode cX12_choose 201 = .ok (.getfield 70, 3) := by decide +kernel
theorem dX12_choose_204 : decode cX12_choose 204 = .ok (.iload 4, 2) := by decide +kernel
theorem dX12_choose_206 : decode cX12_choose 206 = .ok (.iaload, 1) := by decide +kernel
theorem dX12_choose_207 : decode cX12_choose 207 = .ok (.iaload, 1) := by decide +kernel
theorem dX12_choose_208 : decode cX12_choose 208 = .ok (.iconst 1, 1) := by decide +kernel
theorem dX12_choose_209 : decode cX12_choose 209 = .ok (.iload 4, 2) := by decide +kernel
theorem dX12_choose_211 : decode cX12_choose 211 = .ok (.invokevirtual 452, 3) := by decide +kernel
theorem dX12_choose_214 : decode cX12_choose 214 = .ok (.goto 33, 3) := by decide +kernel
theorem dX12_choose_217 : decode cX12_choose 217 = .ok (.iload_n 3, 1) := by decide +kernel
theorem dX12_choose_218 : decode cX12_choose 218 = .ok (.ldc 225, 2) := by decide +kernel
theorem dX12_choose_220 : decode cX12_choose 220 = .ok (.if_icmp .ge 19, 3) := by decide +kernel
theorem dX12_choose_223 : decode cX12_choose 223 = .ok (.aload_n 0, 1) := by decide +kernel
theorem dX12_choose_224 : decode cX12_choose 224 = .ok (.iload_n 1, 1) := by decide +kernel
theorem dX12_choose_225 : decode cX12_choose 225 = .ok (.aload_n 0, 1) := by decide +kernel
theorem dX12_choose_226 : decode cX12_choose 226 = .ok (.getfield 22, 3) := by decide +kernel
theorem dX12_choose_229 : decode cX12_choose 229 = .ok (.iload_n 1, 1) := by decide +kernel
theorem dX12_choose_230 : decode cX12_choose 230 = .ok (.iaload, 1) := by decide +kernel
theorem dX12_choose_231 : decode cX12_choose 231 = .ok (.iconst 4, 1) := by decide +kernel
theorem dX12_choose_232 : decode cX12_choose 232 = .ok (.iconst (-1), 1) := by decide +kernel
theorem dX12_choose_233 : decode cX12_choose 233 = .ok (.invokevirtual 452, 3) := by decide +kernel
theorem dX12_choose_236 : decode cX12_choose 236 = .ok (.goto 11, 3) := by decide +kernel
theorem dX12_choose_239 : decode cX12_choose 239 = .ok (.aload_n 0, 1) := by decide +kernel
theorem dX12_choose_240 : decode cX12_choose 240 = .ok (.getfield 135, 3) := by decide +kernel
theorem dX12_choose_243 : decode cX12_choose 243 = .ok (.iload_n 1, 1) := by decide +kernel
theorem dX12_choose_244 : decode cX12_choose 244 = .ok (.bipush 6, 2) := by decide +kernel
theorem dX12_choose_246 : decode cX12_choose 246 = .ok (.iastore, 1) := by decide +kernel
theorem dX12_choose_247 : decode cX12_choose 247 = .ok (.return_, 1) := by decide +kernel
theorem dX12_holds_0 : decode cX12_holds 0 = .ok (.iconst 0, 1) := by decide +kernel
theorem dX12_holds_1 : decode cX12_holds 1 = .ok (.istore 4, 2) := by decide +kernel
theorem dX12_holds_3 : decode cX12_holds 3 = .ok (.iload_n 2, 1) := by decide +kernel
theorem dX12_holds_4 : decode cX12_holds 4 = .ok (.istore 5, 2) := by decide +kernel
theorem dX12_holds_6 : decode cX12_holds 6 = .ok (.iload 5, 2) := by decide +kernel
theorem dX12_holds_8 : decode cX12_holds 8 = .ok (.iload_n 3, 1) := by decide +kernel
theorem dX12_holds_9 : decode cX12_holds 9 = .ok (.if_icmp .ge 275, 3) := by decide +kernel
theorem dX12_holds_12 : decode cX12_holds 12 = .ok (.bipush 120, 2) := by decide +kernel
theorem dX12_holds_14 : decode cX12_holds 14 = .ok (.iload_n 1, 1) := by decide +kernel
theorem dX12_holds_15 : decode cX12_holds 15 = .ok (.imul, 1) := by decide +kernel
theorem dX12_holds_16 : decode cX12_holds 16 = .ok (.iload 5, 2) := by decide +kernel
theorem dX12_holds_18 : decode cX12_holds 18 = .ok (.iadd, 1) := by decide +kernel
theorem dX12_holds_19 : decode cX12_holds 19 = .ok (.istore 6, 2) := by decide +kernel
theorem dX12_holds_21 : decode cX12_holds 21 = .ok (.aload_n 0, 1) := by decide +kernel
theorem dX12_holds_22 : decode cX12_holds 22 = .ok (.getfield 109, 3) := by decide +kernel
theorem dX12_holds_25 : decode cX12_holds 25 = .ok (.iload 6, 2) := by decide +kernel
theorem dX12_holds_27 : decode cX12_holds 27 = .ok (.iaload, 1) := by decide +kernel
theorem dX12_holds_28 : decode cX12_holds 28 = .ok (.istore 7, 2) := by decide +kernel
theorem dX12_holds_30 : decode cX12_holds 30 = .ok (.iload 7, 2) := by decide +kernel
theorem dX12_holds_32 : decode cX12_holds 32 = .ok (.bipush 12, 2) := by decide +kernel
theorem dX12_holds_34 : decode cX12_holds 34 = .ok (.if_icmp .ne 32, 3) := by decide +kernel
theorem dX12_holds_37 : decode cX12_holds 37 = .ok (.aload_n 0, 1) := by decide +kernel
theorem dX12_holds_38 : decode cX12_holds 38 = .ok (.getfield 124, 3) := by decide +kernel
theorem dX12_holds_41 : decode cX12_holds 41 = .ok (.iload 4, 2) := by decide +kernel
theorem dX12_holds_43 : decode cX12_holds 43 = .ok (.iconst 1, 1) := by decide +kernel
theorem dX12_holds_44 : decode cX12_holds 44 = .ok (.isub, 1) := by decide +kernel
theorem dX12_holds_45 : decode cX12_holds 45 = .ok (.aload_n 0, 1) := by decide +kernel
theorem dX12_holds_46 : decode cX12_holds 46 = .ok (.getfield 124, 3) := by decide +kernel
theorem dX12_holds_49 : decode cX12_holds 49 = .ok (.iload 4, 2) := by decide +kernel
theorem dX12_holds_51 : decode cX12_holds 51 = .ok (.iconst 1, 1) := by decide +kernel
theorem dX12_holds_52 : decode cX12_holds 52 = .ok (.isub, 1) := by decide +kernel
theorem dX12_holds_53 : decode cX12_holds 53 = .ok (.baload, 1) := by decide +kernel
theorem dX12_holds_54 : decode cX12_holds 54 = .ok (.ifCond .ne 7, 3) := by decide +kernel
theorem dX12_holds_57 : decode cX12_holds 57 = .ok (.iconst 1, 1) := by decide +kernel
theorem dX12_holds_58 : decode cX12_holds 58 = .ok (.goto 4, 3) := by decide +kernel
theorem dX12_holds_61 : decode cX12_holds 61 = .ok (.iconst 0, 1) := by decide +kernel
theorem dX12_holds_62 : decode cX12_holds 62 = .ok (.bastore, 1) := by decide +kernel
theorem dX12_holds_63 : decode cX12_holds 63 = .ok (.goto 215, 3) := by decide +kernel
theorem dX12_holds_66 : decode cX12_holds 66 = .ok (.iload 7, 2) := by decide +kernel
theorem dX12_holds_68 : decode cX12_holds 68 = .ok (.bipush 13, 2) := by decide +kernel
theorem dX12_holds_70 : decode cX12_holds 70 = .ok (.if_icmp .eq 10, 3) := by decide +kernel
theorem dX12_holds_73 : decode cX12_holds 73 = .ok (.iload 7, 2) := by decide +kernel
theorem dX12_holds_75 : decode cX12_holds 75 = .ok (.bipush 14, 2) := by decide +kernel
theorem dX12_holds_77 : decode cX12_holds 77 = .ok (.if_icmp .ne 82, 3) := by decide +kernel
theorem dX12_holds_80 : decode cX12_holds 80 = .ok (.iinc 4 (-1), 3) := by decide +kernel
theorem dX12_holds_83 : decode cX12_holds 83 = .ok (.aload_n 0, 1) := by decide +kernel
theorem dX12_holds_84 : decode cX12_holds 84 = .ok (.getfield 124, 3) := by decide +kernel
theorem dX12_holds_87 : decode cX12_holds 87 = .ok (.iload 4, 2) := by decide +kernel
theorem dX12_holds_89 : decode cX12_holds 89 = .ok (.iconst 1, 1) := by decide +kernel
theorem dX12_holds_90 : decode cX12_holds 90 = .ok (.isub, 1) := by decide +kernel
theorem dX12_holds_91 : decode cX12_holds 91 = .ok (.iload 7, 2) := by decide +kernel
theorem dX12_holds_93 : decode cX12_holds 93 = .ok (.bipush 13, 2) := by decide +kernel
theorem dX12_holds_95 : decode cX12_holds 95 = .ok (.if_icmp .ne 33, 3) := by decide +kernel
theorem dX12_holds_98 : decode cX12_holds 98 = .ok (.aload_n 0, 1) := by decide +kernel
theorem dX12_holds_99 : decode cX12_holds 99 = .ok (.getfield 124, 3) := by decide +kernel
theorem dX12_holds_102 : decode cX12_holds 102 = .ok (.iload 4, 2) := by decide +kernel
theorem dX12_holds_104 : decode cX12_holds 104 = .ok (.iconst 1, 1) := by decide +kernel
theorem dX12_holds_105 : decode cX12_holds 105 = .ok (.isub, 1) := by decide +kernel
theorem dX12_holds_106 : decode cX12_holds 106 = .ok (.baload, 1) := by decide +kernel
theorem dX12_holds_107 : decode cX12_holds 107 = .ok (.ifCond .eq 17, 3) := by decide +kernel
theorem dX12_holds_110 : decode cX12_holds 110 = .ok (.aload_n 0, 1) := by decide +kernel
theorem dX12_holds_111 : decode cX12_holds 111 = .ok (.getfield 124, 3) := by decide +kernel
theorem dX12_holds_114 : decode cX12_holds 114 = .ok (.iload 4, 2) := by decide +kernel
theorem dX12_holds_116 : decode cX12_holds 116 = .ok (.baload, 1) := by decide +kernel
theorem dX12_holds_117 : decode cX12_holds 117 = .ok (.ifCond .eq 7, 3) := by decide +kernel
theorem dX12_holds_120 : decode cX12_holds 120 = .ok (.iconst 1, 1) := by decide +kernel
theorem dX12_holds_121 : decode cX12_holds 121 = .ok (.goto 34, 3) := by decide +kernel
theorem dX12_holds_124 : decode cX12_holds 124 = .ok (.iconst 0, 1) := by decide +kernel
theorem dX12_holds_125 : decode cX12_holds 125 = .ok (.goto 30, 3) := by decide +kernel
theorem dX12_holds_128 : decode cX12_holds 128 = .ok (.aload_n 0, 1) := by decide +kernel
theorem dX12_holds_129 : decode cX12_holds 129 = .ok (.getfield 124, 3) := by decide +kernel
theorem dX12_holds_132 : decode cX12_holds 132 = .ok (.iload 4, 2) := by decide +kernel
theorem dX12_holds_134 : decode cX12_holds 134 = .ok (.iconst 1, 1) := by decide +kernel
theorem dX12_holds_135 : decode cX12_holds 135 = .ok (.isub, 1) := by decide +kernel
theorem dX12_holds_136 : decode cX12_holds 136 = .ok (.baload, 1) := by decide +kernel
theorem dX12_holds_137 : decode cX12_holds 137 = .ok (.ifCond .ne 13, 3) := by decide +kernel
theorem dX12_holds_140 : decode cX12_holds 140 = .ok (.aload_n 0, 1) := by decide +kernel
theorem dX12_holds_141 : decode cX12_holds 141 = .ok (.getfield 124, 3) := by decide +kernel
theorem dX12_holds_144 : decode cX12_holds 144 = .ok (.iload 4, 2) := by decide +kernel
theorem dX12_holds_146 : decode cX12_holds 146 = .ok (.baload, 1) := by decide +kernel
theorem dX12_holds_147 : decode cX12_holds 147 = .ok (.ifCond .eq 7, 3) := by decide +kernel
theorem dX12_holds_150 : decode cX12_holds 150 = .ok (.iconst 1, 1) := by decide +kernel
theorem dX12_holds_151 : decode cX12_holds 151 = .ok (.goto 4, 3) := by decide +kernel
theorem dX12_holds_154 : decode cX12_holds 154 = .ok (.iconst 0, 1) := by decide +kernel
theorem dX12_holds_155 : decode cX12_holds 155 = .ok (.bastore, 1) := by decide +kernel
theorem dX12_holds_156 : decode cX12_holds 156 = .ok (.goto 122, 3) := by decide +kernel
theorem dX12_holds_159 : decode cX12_holds 159 = .ok (.aload_n 0, 1) := by decide +kernel
theorem dX12_holds_160 : decode cX12_holds 160 = .ok (.getfield 121, 3) := by decide +kernel
theorem dX12_holds_163 : decode cX12_holds 163 = .ok (.iload 7, 2) := by decide +kernel
theorem dX12_holds_165 : decode cX12_holds 165 = .ok (.iaload, 1) := by decide +kernel
theorem dX12_holds_166 : decode cX12_holds 166 = .ok (.istore 8, 2) := by decide +kernel
theorem dX12_holds_168 : decode cX12_holds 168 = .ok (.aload_n 0, 1) := by decide +kernel
theorem dX12_holds_169 : decode cX12_holds 169 = .ok (.getfield 112, 3) := by decide +kernel
theorem dX12_holds_172 : decode cX12_holds 172 = .ok (.iload 6, 2) := by decide +kernel
theorem dX12_holds_174 : decode cX12_holds 174 = .ok (.iaload, 1) := by decide +kernel
theorem dX12_holds_175 : decode cX12_holds 175 = .ok (.istore 9, 2) := by decide +kernel
theorem dX12_holds_177 : decode cX12_holds 177 = .ok (.aload_n 0, 1) := by decide +kernel
theorem dX12_holds_178 : decode cX12_holds 178 = .ok (.getfield 124, 3) := by decide +kernel
theorem dX12_holds_181 : decode cX12_holds 181 = .ok (.iload 4, 2) := by decide +kernel
theorem dX12_holds_183 : decode cX12_holds 183 = .ok (.iload 7, 2) := by decide +kernel
theorem dX12_holds_185 : decode cX12_holds 185 = .ok (.iconst 4, 1) := by decide +kernel
theorem dX12_holds_186 : decode cX12_holds 186 = .ok (.if_icmp .ge 17, 3) := by decide +kernel
theorem dX12_holds_189 : decode cX12_holds 189 = .ok (.iload 8, 2) := by decide +kernel
theorem dX12_holds_191 : decode cX12_holds 191 = .ok (.iconst 1, 1) := by decide +kernel
theorem dX12_holds_192 : decode cX12_holds 192 = .ok (.if_icmp .ne 7, 3) := by decide +kernel
theorem dX12_holds_195 : decode cX12_holds 195 = .ok (.iconst 1, 1) := by decide +kernel
theorem dX12_holds_196 : decode cX12_holds 196 = .ok (.goto 78, 3) := by decide +kernel
theorem dX12_holds_199 : decode cX12_holds 199 = .ok (.iconst 0, 1) := by decide +kernel
theorem dX12_holds_200 : decode cX12_holds 200 = .ok (.goto 74, 3) := by decide +kernel
theorem dX12_holds_203 : decode cX12_holds 203 = .ok (.iload 9, 2) := by decide +kernel
theorem dX12_holds_205 : decode cX12_holds 205 = .ok (.bipush 60, 2) := by decide +kernel
theorem dX12_holds_207 : decode cX12_holds 207 = .ok (.if_icmp .ne 23, 3) := by decide +kernel
theorem dX12_holds_210 : decode cX12_holds 210 = .ok (.iload 8, 2) := by decide +kernel
theorem dX12_holds_212 : decode cX12_holds 212 = .ok (.aload_n 0, 1) := by decide +kernel
theorem dX12_holds_213 : decode cX12_holds 213 = .ok (.getfield 115, 3) := by decide +kernel
theorem dX12_holds_216 : decode cX12_holds 216 = .ok (.iload 6, 2) := by decide +kernel
theorem dX12_holds_218 : decode cX12_holds 218 = .ok (.iaload, 1) := by decide +kernel
theorem dX12_holds_219 : decode cX12_holds 219 = .ok (.if_icmp .ge 7, 3) := by decide +kernel
theorem dX12_holds_222 : decode cX12_holds 222 = .ok (.iconst 1, 1) := by decide +kernel
theorem dX12_holds_223 : decode cX12_holds 223 = .ok (.goto 51, 3) := by decide +kernel
theorem dX12_holds_226 : decode cX12_holds 226 = .ok (.iconst 0, 1) := by decide +kernel
theorem dX12_holds_227 : decode cX12_holds 227 = .ok (.goto 47, 3) := by decide +kernel
theorem dX12_holds_230 : decode cX12_holds 230 = .ok (.iload 9, 2) := by decide +kernel
theorem dX12_holds_232 : decode cX12_holds 232 = .ok (.bipush 61, 2) := by decide +kernel
theorem dX12_holds_234 : decode cX12_holds 234 = .ok (.if_icmp .ne 23, 3) := by decide +kernel
theorem dX12_holds_237 : decode cX12_holds 237 = .ok (.iload 8, 2) := by decide +kernel
theorem dX12_holds_239 : decode cX12_holds 239 = .ok (.aload_n 0, 1) := by decide +kernel
theorem dX12_holds_240 : decode cX12_holds 240 = .ok (.getfield 115, 3) := by decide +kernel
theorem dX12_holds_243 : decode cX12_holds 243 = .ok (.iload 6, 2) := by decide +kernel
theorem dX12_holds_245 : decode cX12_holds 245 = .ok (.iaload, 1) := by decide +kernel
theorem dX12_holds_246 : decode cX12_holds 246 = .ok (.if_icmp .ne 7, 3) := by decide +kernel
theorem dX12_holds_249 : decode cX12_holds 249 = .ok (.iconst 1, 1) := by decide +kernel
theorem dX12_holds_250 : decode cX12_holds 250 = .ok (.goto 24, 3) := by decide +kernel
theorem dX12_holds_253 : decode cX12_holds 253 = .ok (.iconst 0, 1) := by decide +kernel
theorem dX12_holds_254 : decode cX12_holds 254 = .ok (.goto 20, 3) := by decide +kernel
theorem dX12_holds_257 : decode cX12_holds 257 = .ok (.iload 8, 2) := by decide +kernel
theorem dX12_holds_259 : decode cX12_holds 259 = .ok (.aload_n 0, 1) := by decide +kernel
theorem dX12_holds_260 : decode cX12_holds 260 = .ok (.getfield 115, 3) := by decide +kernel
theorem dX12_holds_263 : decode cX12_holds 263 = .ok (.iload 6, 2) := by decide +kernel
theorem dX12_holds_265 : decode cX12_holds 265 = .ok (.iaload, 1) := by decide +kernel
theorem dX12_holds_266 : decode cX12_holds 266 = .ok (.if_icmp .le 7, 3) := by decide +kernel
theorem dX12_holds_269 : decode cX12_holds 269 = .ok (.iconst 1, 1) := by decide +kernel
theorem dX12_holds_270 : decode cX12_holds 270 = .ok (.goto 4, 3) := by decide +kernel
theorem dX12_holds_273 : decode cX12_holds 273 = .ok (.iconst 0, 1) := by decide +kernel
theorem dX12_holds_274 : decode cX12_holds 274 = .ok (.bastore, 1) := by decide +kernel
theorem dX12_holds_275 : decode cX12_holds 275 = .ok (.iinc 4 1, 3) := by decide +kernel
theorem dX12_holds_278 : decode cX12_holds 278 = .ok (.iinc 5 1, 3) := by decide +kernel
theorem dX12_holds_281 : decode cX12_holds 281 = .ok (.goto (-275), 3) := by decide +kernel
theorem dX12_holds_284 : decode cX12_holds 284 = .ok (.iload 4, 2) := by decide +kernel
theorem dX12_holds_286 : decode cX12_holds 286 = .ok (.ifCond .eq 12, 3) := by decide +kernel
theorem dX12_holds_289 : decode cX12_holds 289 = .ok (.aload_n 0, 1) := by decide +kernel
theorem dX12_holds_290 : decode cX12_holds 290 = .ok (.getfield 124, 3) := by decide +kernel
theorem dX12_holds_293 : decode cX12_holds 293 = .ok (.iconst 0, 1) := by decide +kernel
theorem dX12_holds_294 : decode cX12_holds 294 = .ok (.baload, 1) := by decide +kernel
theorem dX12_holds_295 : decode cX12_holds 295 = .ok (.ifCond .eq 7, 3) := by decide +kernel
theorem dX12_holds_298 : decode cX12_holds 298 = .ok (.iconst 1, 1) := by decide +kernel
theorem dX12_holds_299 : decode cX12_holds 299 = .ok (.goto 4, 3) := by decide +kernel
theorem dX12_holds_302 : decode cX12_holds 302 = .ok (.iconst 0, 1) := by decide +kernel
theorem dX12_holds_303 : decode cX12_holds 303 = .ok (.ireturn, 1) := by decide +kernel
theorem dX12_setOut_0 : decode cX12_setOut 0 = .ok (.aload_n 0, 1) := by decide +kernel
theorem dX12_setOut_1 : decode cX12_setOut 1 = .ok (.aload_n 0, 1) := by decide +kernel
theorem dX12_setOut_2 : decode cX12_setOut 2 = .ok (.getfield 138, 3) := by decide +kernel
theorem dX12_setOut_5 : decode cX12_setOut 5 = .ok (.iload_n 1, 1) := by decide +kernel
theorem dX12_setOut_6 : decode cX12_setOut 6 = .ok (.iaload, 1) := by decide +kernel
theorem dX12_setOut_7 : decode cX12_setOut 7 = .ok (.iload_n 2, 1) := by decide +kernel
theorem dX12_setOut_8 : decode cX12_setOut 8 = .ok (.invokevirtual 236, 3) := by decide +kernel
theorem dX12_setOut_11 : decode cX12_setOut 11 = .ok (.istore 5, 2) := by decide +kernel
theorem dX12_setOut_13 : decode cX12_setOut 13 = .ok (.aload_n 0, 1) := by decide +kernel
theorem dX12_setOut_14 : decode cX12_setOut 14 = .ok (.iload_n 1, 1) := by decide +kernel
theorem dX12_setOut_15 : decode cX12_setOut 15 = .ok (.aload_n 0, 1) := by decide +kernel
theorem dX12_setOut_16 : decode cX12_setOut 16 = .ok (.getfield 138, 3) := by decide +kernel
theorem dX12_setOut_19 : decode cX12_setOut 19 = .ok (.iload_n 1, 1) := by decide +kernel
theorem dX12_setOut_20 : decode cX12_setOut 20 = .ok (.iaload, 1) := by decide +kernel
theorem dX12_setOut_21 : decode cX12_setOut 21 = .ok (.iload_n 2, 1) := by decide +kernel
theorem dX12_setOut_22 : decode cX12_setOut 22 = .ok (.invokevirtual 439, 3) := by decide +kernel
theorem dX12_setOut_25 : decode cX12_setOut 25 = .ok (.istore 6, 2) := by decide +kernel
theorem dX12_setOut_27 : decode cX12_setOut 27 = .ok (.aload_n 0, 1) := by decide +kernel
theorem dX12_setOut_28 : decode cX12_setOut 28 = .ok (.getfield 153, 3) := by decide +kernel
theorem dX12_setOut_31 : decode cX12_setOut 31 = .ok (.iload_n 1, 1) := by decide +kernel
theorem dX12_setOut_32 : decode cX12_setOut 32 = .ok (.dup2, 1) := by decide +kernel
theorem dX12_setOut_33 : decode cX12_setOut 33 = .ok (.iaload, 1) := by decide +kernel
theorem dX12_setOut_34 : decode cX12_setOut 34 = .ok (.iload 5, 2) := by decide +kernel
theorem dX12_setOut_36 : decode cX12_setOut 36 = .ok (.iadd, 1) := by decide +kernel
theorem dX12_setOut_37 : decode cX12_setOut 37 = .ok (.iastore, 1) := by decide +kernel
theorem dX12_setOut_38 : decode cX12_setOut 38 = .ok (.aload_n 0, 1) := by decide +kernel
theorem dX12_setOut_39 : decode cX12_setOut 39 = .ok (.getfield 46, 3) := by decide +kernel
theorem dX12_setOut_42 : decode cX12_setOut 42 = .ok (.iload_n 1, 1) := by decide +kernel
theorem dX12_setOut_43 : decode cX12_setOut 43 = .ok (.iaload, 1) := by decide +kernel
theorem dX12_setOut_44 : decode cX12_setOut 44 = .ok (.sipush 300, 3) := by decide +kernel
theorem dX12_setOut_47 : decode cX12_setOut 47 = .ok (.idiv, 1) := by decide +kernel
theorem dX12_setOut_48 : decode cX12_setOut 48 = .ok (.istore 7, 2) := by decide +kernel
theorem dX12_setOut_50 : decode cX12_setOut 50 = .ok (.aload_n 0, 1) := by decide +kernel
theorem dX12_setOut_51 : decode cX12_setOut 51 = .ok (.getfield 46, 3) := by decide +kernel
theorem dX12_setOut_54 : decode cX12_setOut 54 = .ok (.iload_n 1, 1) := by decide +kernel
theorem dX12_setOut_55 : decode cX12_setOut 55 = .ok (.dup2, 1) := by decide +kernel
theorem dX12_setOut_56 : decode cX12_setOut 56 = .ok (.iaload, 1) := by decide +kernel
theorem dX12_setOut_57 : decode cX12_setOut 57 = .ok (.iload 5, 2) := by decide +kernel
theorem dX12_setOut_59 : decode cX12_setOut 59 = .ok (.iadd, 1) := by decide +kernel
theorem dX12_setOut_60 : decode cX12_setOut 60 = .ok (.iastore, 1) := by decide +kernel
theorem dX12_setOut_61 : decode cX12_setOut 61 = .ok (.aload_n 0, 1) := by decide +kernel
theorem dX12_setOut_62 : decode cX12_setOut 62 = .ok (.getfield 37, 3) := by decide +kernel
theorem dX12_setOut_65 : decode cX12_setOut 65 = .ok (.iload_n 1, 1) := by decide +kernel
theorem dX12_setOut_66 : decode cX12_setOut 66 = .ok (.dup2, 1) := by decide +kernel
theorem dX12_setOut_67 : decode cX12_setOut 67 = .ok (.iaload, 1) := by decide +kernel
theorem dX12_setOut_68 : decode cX12_setOut 68 = .ok (.aload_n 0, 1) := by decide +kernel
theorem dX12_setOut_69 : decode cX12_setOut 69 = .ok (.getfield 46, 3) := by decide +kernel
theorem dX12_setOut_72 : decode cX12_setOut 72 = .ok (.iload_n 1, 1) := by decide +kernel
theorem dX12_setOut_73 : decode cX12_setOut 73 = .ok (.iaload, 1) := by decide +kernel
theorem dX12_setOut_74 : decode cX12_setOut 74 = .ok (.sipush 300, 3) := by decide +kernel
theorem dX12_setOut_77 : decode cX12_setOut 77 = .ok (.idiv, 1) := by decide +kernel
theorem dX12_setOut_78 : decode cX12_setOut 78 = .ok (.iload 7, 2) := by decide +kernel
theorem dX12_setOut_80 : decode cX12_setOut 80 = .ok (.isub, 1) := by decide +kernel
theorem dX12_setOut_81 : decode cX12_setOut 81 = .ok (.isub, 1) := by decide +kernel
theorem dX12_setOut_82 : decode cX12_setOut 82 = .ok (.iastore, 1) := by decide +kernel
theorem dX12_setOut_83 : decode cX12_setOut 83 = .ok (.aload_n 0, 1) := by decide +kernel
theorem dX12_setOut_84 : decode cX12_setOut 84 = .ok (.getfield 37, 3) := by decide +kernel
theorem dX12_setOut_87 : decode cX12_setOut 87 = .ok (.iload_n 1, 1) := by decide +kernel
theorem dX12_setOut_88 : decode cX12_setOut 88 = .ok (.iaload, 1) := by decide +kernel
theorem dX12_setOut_89 : decode cX12_setOut 89 = .ok (.ifCond .ge 10, 3) := by decide +kernel
theorem dX12_setOut_92 : decode cX12_setOut 92 = .ok (.aload_n 0, 1) := by decide +kernel
theorem dX12_setOut_93 : decode cX12_setOut 93 = .ok (.getfield 37, 3) := by decide +kernel
theorem dX12_setOut_96 : decode cX12_setOut 96 = .ok (.iload_n 1, 1) := by decide +kernel
theorem dX12_setOut_97 : decode cX12_setOut 97 = .ok (.iconst 0, 1) := by decide +kernel
theorem dX12_setOut_98 : decode cX12_setOut 98 = .ok (.iastore, 1) := by decide +kernel
theorem dX12_setOut_99 : decode cX12_setOut 99 = .ok (.aload_n 0, 1) := by decide +kernel
theorem dX12_setOut_100 : decode cX12_setOut 100 = .ok (.getfield 138, 3) := by decide +kernel
theorem dX12_setOut_103 : decode cX12_setOut 103 = .ok (.iload_n 1, 1) := by decide +kernel
theorem dX12_setOut_104 : decode cX12_setOut 104 = .ok (.iload_n 2, 1) := by decide +kernel
theorem dX12_setOut_105 : decode cX12_setOut 105 = .ok (.iastore, 1) := by decide +kernel
theorem dX12_setOut_106 : decode cX12_setOut 106 = .ok (.aload_n 0, 1) := by decide +kernel
theorem dX12_setOut_107 : decode cX12_setOut 107 = .ok (.getfield 144, 3) := by decide +kernel
theorem dX12_setOut_110 : decode cX12_setOut 110 = .ok (.iload_n 1, 1) := by decide +kernel
theorem dX12_setOut_111 : decode cX12_setOut 111 = .ok (.iload 4, 2) := by decide +kernel
theorem dX12_setOut_113 : decode cX12_setOut 113 = .ok (.iastore, 1) := by decide +kernel
theorem dX12_setOut_114 : decode cX12_setOut 114 = .ok (.aload_n 0, 1) := by decide +kernel
theorem dX12_setOut_115 : decode cX12_setOut 115 = .ok (.getfield 135, 3) := by decide +kernel
theorem dX12_setOut_118 : decode cX12_setOut 118 = .ok (.iload_n 1, 1) := by decide +kernel
theorem dX12_setOut_119 : decode cX12_setOut 119 = .ok (.iload_n 3, 1) := by decide +kernel
theorem dX12_setOut_120 : decode cX12_setOut 120 = .ok (.iastore, 1) := by decide +kernel
theorem dX12_setOut_121 : decode cX12_setOut 121 = .ok (.aload_n 0, 1) := by decide +kernel
theorem dX12_setOut_122 : decode cX12_setOut 122 = .ok (.getfield 141, 3) := by decide +kernel
theorem dX12_setOut_125 : decode cX12_setOut 125 = .ok (.iload_n 1, 1) := by decide +kernel
theorem dX12_setOut_126 : decode cX12_setOut 126 = .ok (.aload_n 0, 1) := by decide +kernel
theorem dX12_setOut_127 : decode cX12_setOut 127 = .ok (.getfield 443, 3) := by decide +kernel
theorem dX12_setOut_130 : decode cX12_setOut 130 = .ok (.iload 6, 2) := by decide +kernel
theorem dX12_setOut_132 : decode cX12_setOut 132 = .ok (.iadd, 1) := by decide +kernel
theorem dX12_setOut_133 : decode cX12_setOut 133 = .ok (.iastore, 1) := by decide +kernel
theorem dX12_setOut_134 : decode cX12_setOut 134 = .ok (.iload 6, 2) := by decide +kernel
theorem dX12_setOut_136 : decode cX12_setOut 136 = .ok (.ifCond .ne 8, 3) := by decide +kernel
theorem dX12_setOut_139 : decode cX12_setOut 139 = .ok (.aload_n 0, 1) := by decide +kernel
theorem dX12_setOut_140 : decode cX12_setOut 140 = .ok (.iload_n 1, 1) := by decide +kernel
theorem dX12_setOut_141 : decode cX12_setOut 141 = .ok (.invokevirtual 446, 3) := by decide +kernel
theorem dX12_setOut_144 : decode cX12_setOut 144 = .ok (.return_, 1) := by decide +kernel
theorem dX12_tells_0 : decode cX12_tells 0 = .ok (.aload_n 0, 1) := by decide +kernel
theorem dX12_tells_1 : decode cX12_tells 1 = .ok (.iconst (-1), 1) := by decide +kernel
theorem dX12_tells_2 : decode cX12_tells 2 = .ok (.putfield 128, 3) := by decide +kernel
theorem dX12_tells_5 : decode cX12_tells 5 = .ok (.aload_n 0, 1) := by decide +kernel
theorem dX12_tells_6 : decode cX12_tells 6 = .ok (.getfield 52, 3) := by decide +kernel
theorem dX12_tells_9 : decode cX12_tells 9 = .ok (.aload_n 0, 1) := by decide +kernel
theorem dX12_tells_10 : decode cX12_tells 10 = .ok (.getfield 67, 3) := by decide +kernel
theorem dX12_tells_13 : decode cX12_tells 13 = .ok (.iload_n 1, 1) := by decide +kernel
theorem dX12_tells_14 : decode cX12_tells 14 = .ok (.iaload, 1) := by decide +kernel
theorem dX12_tells_15 : decode cX12_tells 15 = .ok (.iaload, 1) := by decide +kernel
theorem dX12_tells_16 : decode cX12_tells 16 = .ok (.iconst 2, 1) := by decide +kernel
theorem dX12_tells_17 : decode cX12_tells 17 = .ok (.if_icmp .ne 7, 3) := by decide +kernel
theorem dX12_tells_20 : decode cX12_tells 20 = .ok (.iconst 1, 1) := by decide +kernel
theorem dX12_tells_21 : decode cX12_tells 21 = .ok (.goto 4, 3) := by decide +kernel
theorem dX12_tells_24 : decode cX12_tells 24 = .ok (.iconst 0, 1) := by decide +kernel
theorem dX12_tells_25 : decode cX12_tells 25 = .ok (.istore 5, 2) := by decide +kernel
theorem dX12_tells_27 : decode cX12_tells 27 = .ok (.iload_n 2, 1) := by decide +kernel
theorem dX12_tells_28 : decode cX12_tells 28 = .ok (.iconst 5, 1) := by decide +kernel
theorem dX12_tells_29 : decode cX12_tells 29 = .ok (.if_icmp .ne 10, 3) := by decide +kernel
theorem dX12_tells_32 : decode cX12_tells 32 = .ok (.iload 5, 2) := by decide +kernel
theorem dX12_tells_34 : decode cX12_tells 34 = .ok (.ifCond .eq 5, 3) := by decide +kernel
theorem dX12_tells_37 : decode cX12_tells 37 = .ok (.iconst 0, 1) := by decide +kernel
theorem dX12_tells_38 : decode cX12_tells 38 = .ok (.ireturn, 1) := by decide +kernel
theorem dX12_tells_39 : decode cX12_tells 39 = .ok (.aload_n 0, 1) := by decide +kernel
theorem dX12_tells_40 : decode cX12_tells 40 = .ok (.iload_n 1, 1) := by decide +kernel
theorem dX12_tells_41 : decode cX12_tells 41 = .ok (.iload_n 2, 1) := by decide +kernel
theorem dX12_tells_42 : decode cX12_tells 42 = .ok (.ifCond .eq 13, 3) := by decide +kernel
theorem dX12_tells_45 : decode cX12_tells 45 = .ok (.iload_n 2, 1) := by decide +kernel
theorem dX12_tells_46 : decode cX12_tells 46 = .ok (.iconst 2, 1) := by decide +kernel
theorem dX12_tells_47 : decode cX12_tells 47 = .ok (.if_icmp .eq 8, 3) := by decide +kernel
theorem dX12_tells_50 : decode cX12_tells 50 = .ok (.iload_n 2, 1) := by decide +kernel
theorem dX12_tells_51 : decode cX12_tells 51 = .ok (.iconst 5, 1) := by decide +kernel
theorem dX12_tells_52 : decode cX12_tells 52 = .ok (.if_icmp .ne 7, 3) := by decide +kernel
theorem dX12_tells_55 : decode cX12_tells 55 = .ok (.iconst 0, 1) := by decide +kernel
theorem dX12_tells_56 : decode cX12_tells 56 = .ok (.goto 4, 3) := by decide +kernel
theorem dX12_tells_59 : decode cX12_tells 59 = .ok (.iload_n 3, 1) := by decide +kernel
theorem dX12_tells_60 : decode cX12_tells 60 = .ok (.iload 4, 2) := by decide +kernel
theorem dX12_tells_62 : decode cX12_tells 62 = .ok (.invokevirtual 400, 3) := by decide +kernel
theorem dX12_tells_65 : decode cX12_tells 65 = .ok (.aload_n 0, 1) := by decide +kernel
theorem dX12_tells_66 : decode cX12_tells 66 = .ok (.invokevirtual 403, 3) := by decide +kernel
theorem dX12_tells_69 : decode cX12_tells 69 = .ok (.istore 6, 2) := by decide +kernel
theorem dX12_tells_71 : decode cX12_tells 71 = .ok (.iconst 0, 1) := by decide +kernel
theorem dX12_tells_72 : decode cX12_tells 72 = .ok (.istore 7, 2) := by decide +kernel
theorem dX12_tells_74 : decode cX12_tells 74 = .ok (.iload 6, 2) := by decide +kernel
theorem dX12_tells_76 : decode cX12_tells 76 = .ok (.iconst (-1), 1) := by decide +kernel
theorem dX12_tells_77 : decode cX12_tells 77 = .ok (.if_icmp .eq 82, 3) := by decide +kernel
theorem dX12_tells_80 : decode cX12_tells 80 = .ok (.iload 7, 2) := by decide +kernel
theorem dX12_tells_82 : decode cX12_tells 82 = .ok (.aload_n 0, 1) := by decide +kernel
theorem dX12_tells_83 : decode cX12_tells 83 = .ok (.getfield 88, 3) := by decide +kernel
theorem dX12_tells_86 : decode cX12_tells 86 = .ok (.iload 6, 2) := by decide +kernel
theorem dX12_tells_88 : decode cX12_tells 88 = .ok (.iaload, 1) := by decide +kernel
theorem dX12_tells_89 : decode cX12_tells 89 = .ok (.if_icmp .ge 70, 3) := by decide +kernel
theorem dX12_tells_92 : decode cX12_tells 92 = .ok (.bipush 16, 2) := by decide +kernel
theorem dX12_tells_94 : decode cX12_tells 94 = .ok (.iload 6, 2) := by decide +kernel
theorem dX12_tells_96 : decode cX12_tells 96 = .ok (.imul, 1) := by decide +kernel
theorem dX12_tells_97 : decode cX12_tells 97 = .ok (.iload 7, 2) := by decide +kernel
theorem dX12_tells_99 : decode cX12_tells 99 = .ok (.iadd, 1) := by decide +kernel
theorem dX12_tells_100 : decode cX12_tells 100 = .ok (.istore 8, 2) := by decide +kernel
theorem dX12_tells_102 : decode cX12_tells 102 = .ok (.aload_n 0, 1) := by decide +kernel
theorem dX12_tells_103 : decode cX12_tells 103 = .ok (.getfield 97, 3) := by decide +kernel
theorem dX12_tells_106 : decode cX12_tells 106 = .ok (.iload 8, 2) := by decide +kernel
theorem dX12_tells_108 : decode cX12_tells 108 = .ok (.iaload, 1) := by decide +kernel
theorem dX12_tells_109 : decode cX12_tells 109 = .ok (.iload_n 2, 1) := by decide +kernel
theorem dX12_tells_110 : decode cX12_tells 110 = .ok (.if_icmp .ne 43, 3) := by decide +kernel
theorem dX12_tells_113 : decode cX12_tells 113 = .ok (.aload_n 0, 1) := by decide +kernel
theorem dX12_tells_114 : decode cX12_tells 114 = .ok (.iload 6, 2) := by decide +kernel
theorem dX12_tells_116 : decode cX12_tells 116 = .ok (.aload_n 0, 1) := by decide +kernel
theorem dX12_tells_117 : decode cX12_tells 117 = .ok (.getfield 103, 3) := by decide +kernel
theorem dX12_tells_120 : decode cX12_tells 120 = .ok (.iload 8, 2) := by decide +kernel
theorem dX12_tells_122 : decode cX12_tells 122 = .ok (.iaload, 1) := by decide +kernel
theorem dX12_tells_123 : decode cX12_tells 123 = .ok (.aload_n 0, 1) := by decide +kernel
theorem dX12_tells_124 : decode cX12_tells 124 = .ok (.getfield 106, 3) := by decide +kernel
theorem dX12_tells_127 : decode cX12_tells 127 = .ok (.iload 8, 2) := by decide +kernel
theorem dX12_tells_129 : decode cX12_tells 129 = .ok (.iaload, 1) := by decide +kernel
theorem dX12_tells_130 : decode cX12_tells 130 = .ok (.invokevirtual 406, 3) := by decide +kernel
theorem dX12_tells_133 : decode cX12_tells 133 = .ok (.ifCond .ne 6, 3) := by decide +kernel
theorem dX12_tells_136 : decode cX12_tells 136 = .ok (.goto 17, 3) := by decide +kernel
theorem dX12_tells_139 : decode cX12_tells 139 = .ok (.aload_n 0, 1) := by decide +kernel
theorem dX12_tells_140 : decode cX12_tells 140 = .ok (.iload 7, 2) := by decide +kernel
theorem dX12_tells_142 : decode cX12_tells 142 = .ok (.putfield 128, 3) := by decide +kernel
theorem dX12_tells_145 : decode cX12_tells 145 = .ok (.aload_n 0, 1) := by decide +kernel
theorem dX12_tells_146 : decode cX12_tells 146 = .ok (.getfield 100, 3) := by decide +kernel
theorem dX12_tells_149 : decode cX12_tells 149 = .ok (.iload 8, 2) := by decide +kernel
theorem dX12_tells_151 : decode cX12_tells 151 = .ok (.iaload, 1) := by decide +kernel
theorem dX12_tells_152 : decode cX12_tells 152 = .ok (.ireturn, 1) := by decide +kernel
theorem dX12_tells_153 : decode cX12_tells 153 = .ok (.iinc 7 1, 3) := by decide +kernel
theorem dX12_tells_156 : decode cX12_tells 156 = .ok (.goto (-82), 3) := by decide +kernel
theorem dX12_tells_159 : decode cX12_tells 159 = .ok (.iload_n 2, 1) := by decide +kernel
theorem dX12_tells_160 : decode cX12_tells 160 = .ok (.iload 5, 2) := by decide +kernel
theorem dX12_tells_162 : decode cX12_tells 162 = .ok (.invokestatic 409, 3) := by decide +kernel
theorem dX12_tells_165 : decode cX12_tells 165 = .ok (.ireturn, 1) := by decide +kernel
theorem dX12_told_0 : decode cX12_told 0 = .ok (.aload_n 0, 1) := by decide +kernel
theorem dX12_told_1 : decode cX12_told 1 = .ok (.iconst 0, 1) := by decide +kernel
theorem dX12_told_2 : decode cX12_told 2 = .ok (.putfield 204, 3) := by decide +kernel
theorem dX12_told_5 : decode cX12_told 5 = .ok (.iload_n 1, 1) := by decide +kernel
theorem dX12_told_6 : decode cX12_told 6 = .ok (.iconst 0, 1) := by decide +kernel
theorem dX12_told_7 : decode cX12_told 7 = .ok (.aload_n 0, 1) := by decide +kernel
theorem dX12_told_8 : decode cX12_told 8 = .ok (.getfield 269, 3) := by decide +kernel
theorem dX12_told_11 : decode cX12_told 11 = .ok (.iconst 1, 1) := by decide +kernel
theorem dX12_told_12 : decode cX12_told 12 = .ok (.isub, 1) := by decide +kernel
theorem dX12_told_13 : decode cX12_told 13 = .ok (.invokestatic 214, 3) := by decide +kernel
theorem dX12_told_16 : decode cX12_told 16 = .ok (.ifCond .eq 21, 3) := by decide +kernel
theorem dX12_told_19 : decode cX12_told 19 = .ok (.iload_n 2, 1) := by decide +kernel
theorem dX12_told_20 : decode cX12_told 20 = .ok (.iconst 0, 1) := by decide +kernel
theorem dX12_told_21 : decode cX12_told 21 = .ok (.iconst 5, 1) := by decide +kernel
theorem dX12_told_22 : decode cX12_told 22 = .ok (.invokestatic 214, 3) := by decide +kernel
theorem dX12_told_25 : decode cX12_told 25 = .ok (.ifCond .eq 12, 3) := by decide +kernel
theorem dX12_told_28 : decode cX12_told 28 = .ok (.iload_n 3, 1) := by decide +kernel
theorem dX12_told_29 : decode cX12_told 29 = .ok (.ifCond .lt 8, 3) := by decide +kernel
theorem dX12_told_32 : decode cX12_told 32 = .ok (.iload 4, 2) := by decide +kernel
theorem dX12_told_34 : decode cX12_told 34 = .ok (.ifCond .ge 5, 3) := by decide +kernel
theorem dX12_told_37 : decode cX12_told 37 = .ok (.iconst (-1), 1) := by decide +kernel
theorem dX12_told_38 : decode cX12_told 38 = .ok (.ireturn, 1) := by decide +kernel
theorem dX12_told_39 : decode cX12_told 39 = .ok (.aload_n 0, 1) := by decide +kernel
theorem dX12_told_40 : decode cX12_told 40 = .ok (.iload_n 1, 1) := by decide +kernel
theorem dX12_told_41 : decode cX12_told 41 = .ok (.iload_n 2, 1) := by decide +kernel
theorem dX12_told_42 : decode cX12_told 42 = .ok (.iload_n 3, 1) := by decide +kernel
theorem dX12_told_43 : decode cX12_told 43 = .ok (.iload 4, 2) := by decide +kernel
theorem dX12_told_45 : decode cX12_told 45 = .ok (.invokevirtual 413, 3) := by decide +kernel
theorem dX12_told_48 : decode cX12_told 48 = .ok (.istore 5, 2) := by decide +kernel
theorem dX12_told_50 : decode cX12_told 50 = .ok (.aload_n 0, 1) := by decide +kernel
theorem dX12_told_51 : decode cX12_told 51 = .ok (.aload_n 0, 1) := by decide +kernel
theorem dX12_told_52 : decode cX12_told 52 = .ok (.getfield 128, 3) := by decide +kernel
theorem dX12_told_55 : decode cX12_told 55 = .ok (.putfield 132, 3) := by decide +kernel
theorem dX12_told_58 : decode cX12_told 58 = .ok (.iload 5, 2) := by decide +kernel
theorem dX12_told_60 : decode cX12_told 60 = .ok (.ireturn, 1) := by decide +kernel

theorem dX12_atom_0 : decode cX12_atom 0 = .ok (.aload_n 0, 1) := by decide +kernel
theorem dX12_atom_1 : decode cX12_atom 1 = .ok (.bipush 99, 2) := by decide +kernel
theorem dX12_atom_3 : decode cX12_atom 3 = .ok (.bipush 97, 2) := by decide +kernel
theorem dX12_atom_5 : decode cX12_atom 5 = .ok (.bipush 114, 2) := by decide +kernel
theorem dX12_atom_7 : decode cX12_atom 7 = .ok (.iconst 0, 1) := by decide +kernel
theorem dX12_atom_8 : decode cX12_atom 8 = .ok (.iconst 0, 1) := by decide +kernel
theorem dX12_atom_9 : decode cX12_atom 9 = .ok (.invokestatic 323, 3) := by decide +kernel
theorem dX12_atom_12 : decode cX12_atom 12 = .ok (.invokevirtual 327, 3) := by decide +kernel
theorem dX12_atom_15 : decode cX12_atom 15 = .ok (.ifCond .eq 5, 3) := by decide +kernel
theorem dX12_atom_18 : decode cX12_atom 18 = .ok (.iconst 0, 1) := by decide +kernel
theorem dX12_atom_19 : decode cX12_atom 19 = .ok (.ireturn, 1) := by decide +kernel
theorem dX12_atom_20 : decode cX12_atom 20 = .ok (.aload_n 0, 1) := by decide +kernel
theorem dX12_atom_21 : decode cX12_atom 21 = .ok (.bipush 119, 2) := by decide +kernel
theorem dX12_atom_23 : decode cX12_atom 23 = .ok (.bipush 97, 2) := by decide +kernel
theorem dX12_atom_25 : decode cX12_atom 25 = .ok (.bipush 103, 2) := by decide +kernel
theorem dX12_atom_27 : decode cX12_atom 27 = .ok (.bipush 111, 2) := by decide +kernel
theorem dX12_atom_29 : decode cX12_atom 29 = .ok (.bipush 110, 2) := by decide +kernel
theorem dX12_atom_31 : decode cX12_atom 31 = .ok (.invokestatic 323, 3) := by decide +kernel
theorem dX12_atom_34 : decode cX12_atom 34 = .ok (.invokevirtual 327, 3) := by decide +kernel
theorem dX12_atom_37 : decode cX12_atom 37 = .ok (.ifCond .eq 5, 3) := by decide +kernel
theorem dX12_atom_40 : decode cX12_atom 40 = .ok (.iconst 1, 1) := by decide +kernel
theorem dX12_atom_41 : decode cX12_atom 41 = .ok (.ireturn, 1) := by decide +kernel
theorem dX12_atom_42 : decode cX12_atom 42 = .ok (.aload_n 0, 1) := by decide +kernel
theorem dX12_atom_43 : decode cX12_atom 43 = .ok (.bipush 116, 2) := by decide +kernel
theorem dX12_atom_45 : decode cX12_atom 45 = .ok (.bipush 97, 2) := by decide +kernel
theorem dX12_atom_47 : decode cX12_atom 47 = .ok (.bipush 120, 2) := by decide +kernel
theorem dX12_atom_49 : decode cX12_atom 49 = .ok (.bipush 105, 2) := by decide +kernel
theorem dX12_atom_51 : decode cX12_atom 51 = .ok (.iconst 0, 1) := by decide +kernel
theorem dX12_atom_52 : decode cX12_atom 52 = .ok (.invokestatic 323, 3) := by decide +kernel
theorem dX12_atom_55 : decode cX12_atom 55 = .ok (.invokevirtual 327, 3) := by decide +kernel
theorem dX12_atom_58 : decode cX12_atom 58 = .ok (.ifCond .eq 5, 3) := by decide +kernel
theorem dX12_atom_61 : decode cX12_atom 61 = .ok (.iconst 2, 1) := by decide +kernel
theorem dX12_atom_62 : decode cX12_atom 62 = .ok (.ireturn, 1) := by decide +kernel
theorem dX12_atom_63 : decode cX12_atom 63 = .ok (.aload_n 0, 1) := by decide +kernel
theorem dX12_atom_64 : decode cX12_atom 64 = .ok (.ldc2_w 313, 3) := by decide +kernel
theorem dX12_atom_67 : decode cX12_atom 67 = .ok (.ldc2_w 313, 3) := by decide +kernel
theorem dX12_atom_70 : decode cX12_atom 70 = .ok (.bipush 105, 2) := by decide +kernel
theorem dX12_atom_72 : decode cX12_atom 72 = .ok (.bipush 110, 2) := by decide +kernel
theorem dX12_atom_74 : decode cX12_atom 74 = .ok (.bipush 115, 2) := by decide +kernel
theorem dX12_atom_76 : decode cX12_atom 76 = .ok (.bipush 117, 2) := by decide +kernel
theorem dX12_atom_78 : decode cX12_atom 78 = .ok (.bipush 114, 2) := by decide +kernel
theorem dX12_atom_80 : decode cX12_atom 80 = .ok (.invokestatic 323, 3) := by decide +kernel
theorem dX12_atom_83 : decode cX12_atom 83 = .ok (.lmul, 1) := by decide +kernel
theorem dX12_atom_84 : decode cX12_atom 84 = .ok (.ldc2_w 331, 3) := by decide +kernel
theorem dX12_atom_87 : decode cX12_atom 87 = .ok (.ladd, 1) := by decide +kernel
theorem dX12_atom_88 : decode cX12_atom 88 = .ok (.lmul, 1) := by decide +kernel
theorem dX12_atom_89 : decode cX12_atom 89 = .ok (.ldc2_w 333, 3) := by decide +kernel
theorem dX12_atom_92 : decode cX12_atom 92 = .ok (.ladd, 1) := by decide +kernel
theorem dX12_atom_93 : decode cX12_atom 93 = .ok (.invokevirtual 327, 3) := by decide +kernel
theorem dX12_atom_96 : decode cX12_atom 96 = .ok (.ifCond .eq 5, 3) := by decide +kernel
theorem dX12_atom_99 : decode cX12_atom 99 = .ok (.iconst 3, 1) := by decide +kernel
theorem dX12_atom_100 : decode cX12_atom 100 = .ok (.ireturn, 1) := by decide +kernel
theorem dX12_atom_101 : decode cX12_atom 101 = .ok (.aload_n 0, 1) := by decide +kernel
theorem dX12_atom_102 : decode cX12_atom 102 = .ok (.ldc2_w 313, 3) := by decide +kernel
theorem dX12_atom_105 : decode cX12_atom 105 = .ok (.bipush 114, 2) := by decide +kernel
theorem dX12_atom_107 : decode cX12_atom 107 = .ok (.bipush 105, 2) := by decide +kernel
theorem dX12_atom_109 : decode cX12_atom 109 = .ok (.bipush 100, 2) := by decide +kernel
theorem dX12_atom_111 : decode cX12_atom 111 = .ok (.bipush 101, 2) := by decide +kernel
theorem dX12_atom_113 : decode cX12_atom 113 = .ok (.bipush 114, 2) := by decide +kernel
theorem dX12_atom_115 : decode cX12_atom 115 = .ok (.invokestatic 323, 3) := by decide +kernel
theorem dX12_atom_118 : decode cX12_atom 118 = .ok (.lmul, 1) := by decide +kernel
theorem dX12_atom_119 : decode cX12_atom 119 = .ok (.ldc2_w 335, 3) := by decide +kernel
theorem dX12_atom_122 : decode cX12_atom 122 = .ok (.ladd, 1) := by decide +kernel
theorem dX12_atom_123 : decode cX12_atom 123 = .ok (.invokevirtual 327, 3) := by decide +kernel
theorem dX12_atom_126 : decode cX12_atom 126 = .ok (.ifCond .eq 5, 3) := by decide +kernel
theorem dX12_atom_129 : decode cX12_atom 129 = .ok (.iconst 4, 1) := by decide +kernel
theorem dX12_atom_130 : decode cX12_atom 130 = .ok (.ireturn, 1) := by decide +kernel
theorem dX12_atom_131 : decode cX12_atom 131 = .ok (.aload_n 0, 1) := by decide +kernel
theorem dX12_atom_132 : decode cX12_atom 132 = .ok (.bipush 115, 2) := by decide +kernel
theorem dX12_atom_134 : decode cX12_atom 134 = .ok (.bipush 101, 2) := by decide +kernel
theorem dX12_atom_136 : decode cX12_atom 136 = .ok (.bipush 97, 2) := by decide +kernel
theorem dX12_atom_138 : decode cX12_atom 138 = .ok (.bipush 116, 2) := by decide +kernel
theorem dX12_atom_140 : decode cX12_atom 140 = .ok (.bipush 115, 2) := by decide +kernel
theorem dX12_atom_142 : decode cX12_atom 142 = .ok (.invokestatic 323, 3) := by decide +kernel
theorem dX12_atom_145 : decode cX12_atom 145 = .ok (.invokevirtual 327, 3) := by decide +kernel
theorem dX12_atom_148 : decode cX12_atom 148 = .ok (.ifCond .eq 5, 3) := by decide +kernel
theorem dX12_atom_151 : decode cX12_atom 151 = .ok (.iconst 5, 1) := by decide +kernel
theorem dX12_atom_152 : decode cX12_atom 152 = .ok (.ireturn, 1) := by decide +kernel
theorem dX12_atom_153 : decode cX12_atom 153 = .ok (.aload_n 0, 1) := by decide +kernel
theorem dX12_atom_154 : decode cX12_atom 154 = .ok (.bipush 114, 2) := by decide +kernel
theorem dX12_atom_156 : decode cX12_atom 156 = .ok (.bipush 97, 2) := by decide +kernel
theorem dX12_atom_158 : decode cX12_atom 158 = .ok (.bipush 105, 2) := by decide +kernel
theorem dX12_atom_160 : decode cX12_atom 160 = .ok (.bipush 110, 2) := by decide +kernel
theorem dX12_atom_162 : decode cX12_atom 162 = .ok (.iconst 0, 1) := by decide +kernel
theorem dX12_atom_163 : decode cX12_atom 163 = .ok (.invokestatic 323, 3) := by decide +kernel
theorem dX12_atom_166 : decode cX12_atom 166 = .ok (.invokevirtual 327, 3) := by decide +kernel
theorem dX12_atom_169 : decode cX12_atom 169 = .ok (.ifCond .eq 6, 3) := by decide +kernel
theorem dX12_atom_172 : decode cX12_atom 172 = .ok (.bipush 6, 2) := by decide +kernel
theorem dX12_atom_174 : decode cX12_atom 174 = .ok (.ireturn, 1) := by decide +kernel
theorem dX12_atom_175 : decode cX12_atom 175 = .ok (.aload_n 0, 1) := by decide +kernel
theorem dX12_atom_176 : decode cX12_atom 176 = .ok (.ldc2_w 313, 3) := by decide +kernel
theorem dX12_atom_179 : decode cX12_atom 179 = .ok (.bipush 109, 2) := by decide +kernel
theorem dX12_atom_181 : decode cX12_atom 181 = .ok (.bipush 105, 2) := by decide +kernel
theorem dX12_atom_183 : decode cX12_atom 183 = .ok (.bipush 110, 2) := by decide +kernel
theorem dX12_atom_185 : decode cX12_atom 185 = .ok (.bipush 117, 2) := by decide +kernel
theorem dX12_atom_187 : decode cX12_atom 187 = .ok (.bipush 116, 2) := by decide +kernel
theorem dX12_atom_189 : decode cX12_atom 189 = .ok (.invokestatic 323, 3) := by decide +kernel
theorem dX12_atom_192 : decode cX12_atom 192 = .ok (.lmul, 1) := by decide +kernel
theorem dX12_atom_193 : decode cX12_atom 193 = .ok (.ldc2_w 331, 3) := by decide +kernel
theorem dX12_atom_196 : decode cX12_atom 196 = .ok (.ladd, 1) := by decide +kernel
theorem dX12_atom_197 : decode cX12_atom 197 = .ok (.invokevirtual 327, 3) := by decide +kernel
theorem dX12_atom_200 : decode cX12_atom 200 = .ok (.ifCond .eq 6, 3) := by decide +kernel
theorem dX12_atom_203 : decode cX12_atom 203 = .ok (.bipush 7, 2) := by decide +kernel
theorem dX12_atom_205 : decode cX12_atom 205 = .ok (.ireturn, 1) := by decide +kernel
theorem dX12_atom_206 : decode cX12_atom 206 = .ok (.aload_n 0, 1) := by decide +kernel
theorem dX12_atom_207 : decode cX12_atom 207 = .ok (.bipush 100, 2) := by decide +kernel
theorem dX12_atom_209 : decode cX12_atom 209 = .ok (.bipush 97, 2) := by decide +kernel
theorem dX12_atom_211 : decode cX12_atom 211 = .ok (.bipush 121, 2) := by decide +kernel
theorem dX12_atom_213 : decode cX12_atom 213 = .ok (.iconst 0, 1) := by decide +kernel
theorem dX12_atom_214 : decode cX12_atom 214 = .ok (.iconst 0, 1) := by decide +kernel
theorem dX12_atom_215 : decode cX12_atom 215 = .ok (.invokestatic 323, 3) := by decide +kernel
theorem dX12_atom_218 : decode cX12_atom 218 = .ok (.invokevirtual 327, 3) := by decide +kernel
theorem dX12_atom_221 : decode cX12_atom 221 = .ok (.ifCond .eq 6, 3) := by decide +kernel
theorem dX12_atom_224 : decode cX12_atom 224 = .ok (.bipush 8, 2) := by decide +kernel
theorem dX12_atom_226 : decode cX12_atom 226 = .ok (.ireturn, 1) := by decide +kernel
theorem dX12_atom_227 : decode cX12_atom 227 = .ok (.aload_n 0, 1) := by decide +kernel
theorem dX12_atom_228 : decode cX12_atom 228 = .ok (.bipush 102, 2) := by decide +kernel
theorem dX12_atom_230 : decode cX12_atom 230 = .ok (.bipush 114, 2) := by decide +kernel
theorem dX12_atom_232 : decode cX12_atom 232 = .ok (.bipush 111, 2) := by decide +kernel
theorem dX12_atom_234 : decode cX12_atom 234 = .ok (.bipush 109, 2) := by decide +kernel
theorem dX12_atom_236 : decode cX12_atom 236 = .ok (.iconst 0, 1) := by decide +kernel
theorem dX12_atom_237 : decode cX12_atom 237 = .ok (.invokestatic 323, 3) := by decide +kernel
theorem dX12_atom_240 : decode cX12_atom 240 = .ok (.invokevirtual 327, 3) := by decide +kernel
theorem dX12_atom_243 : decode cX12_atom 243 = .ok (.ifCond .eq 6, 3) := by decide +kernel
theorem dX12_atom_246 : decode cX12_atom 246 = .ok (.bipush 9, 2) := by decide +kernel
theorem dX12_atom_248 : decode cX12_atom 248 = .ok (.ireturn, 1) := by decide +kernel
theorem dX12_atom_249 : decode cX12_atom 249 = .ok (.aload_n 0, 1) := by decide +kernel
theorem dX12_atom_250 : decode cX12_atom 250 = .ok (.bipush 116, 2) := by decide +kernel
theorem dX12_atom_252 : decode cX12_atom 252 = .ok (.bipush 111, 2) := by decide +kernel
theorem dX12_atom_254 : decode cX12_atom 254 = .ok (.iconst 0, 1) := by decide +kernel
theorem dX12_atom_255 : decode cX12_atom 255 = .ok (.iconst 0, 1) := by decide +kernel
theorem dX12_atom_256 : decode cX12_atom 256 = .ok (.iconst 0, 1) := by decide +kernel
theorem dX12_atom_257 : decode cX12_atom 257 = .ok (.invokestatic 323, 3) := by decide +kernel
theorem dX12_atom_260 : decode cX12_atom 260 = .ok (.invokevirtual 327, 3) := by decide +kernel
theorem dX12_atom_263 : decode cX12_atom 263 = .ok (.ifCond .eq 6, 3) := by decide +kernel
theorem dX12_atom_266 : decode cX12_atom 266 = .ok (.bipush 10, 2) := by decide +kernel
theorem dX12_atom_268 : decode cX12_atom 268 = .ok (.ireturn, 1) := by decide +kernel
theorem dX12_atom_269 : decode cX12_atom 269 = .ok (.aload_n 0, 1) := by decide +kernel
theorem dX12_atom_270 : decode cX12_atom 270 = .ok (.bipush 116, 2) := by decide +kernel
theorem dX12_atom_272 : decode cX12_atom 272 = .ok (.bipush 105, 2) := by decide +kernel
theorem dX12_atom_274 : decode cX12_atom 274 = .ok (.bipush 109, 2) := by decide +kernel
theorem dX12_atom_276 : decode cX12_atom 276 = .ok (.bipush 101, 2) := by decide +kernel
theorem dX12_atom_278 : decode cX12_atom 278 = .ok (.bipush 115, 2) := by decide +kernel
theorem dX12_atom_280 : decode cX12_atom 280 = .ok (.invokestatic 323, 3) := by decide +kernel
theorem dX12_atom_283 : decode cX12_atom 283 = .ok (.invokevirtual 327, 3) := by decide +kernel
theorem dX12_atom_286 : decode cX12_atom 286 = .ok (.ifCond .eq 8, 3) := by decide +kernel
theorem dX12_atom_289 : decode cX12_atom 289 = .ok (.bipush 11, 2) := by decide +kernel
theorem dX12_atom_291 : decode cX12_atom 291 = .ok (.goto 4, 3) := by decide +kernel
theorem dX12_atom_294 : decode cX12_atom 294 = .ok (.iconst (-1), 1) := by decide +kernel
theorem dX12_atom_295 : decode cX12_atom 295 = .ok (.ireturn, 1) := by decide +kernel
theorem dX12_bad_0 : decode cX12_bad 0 = .ok (.aload_n 0, 1) := by decide +kernel
theorem dX12_bad_1 : decode cX12_bad 1 = .ok (.aload_n 0, 1) := by decide +kernel
theorem dX12_bad_2 : decode cX12_bad 2 = .ok (.getfield 288, 3) := by decide +kernel
theorem dX12_bad_5 : decode cX12_bad 5 = .ok (.iconst 1, 1) := by decide +kernel
theorem dX12_bad_6 : decode cX12_bad 6 = .ok (.if_icmp .ne 7, 3) := by decide +kernel
theorem dX12_bad_9 : decode cX12_bad 9 = .ok (.iconst 1, 1) := by decide +kernel
theorem dX12_bad_10 : decode cX12_bad 10 = .ok (.goto 4, 3) := by decide +kernel
theorem dX12_bad_13 : decode cX12_bad 13 = .ok (.iload_n 1, 1) := by decide +kernel
theorem dX12_bad_14 : decode cX12_bad 14 = .ok (.putfield 317, 3) := by decide +kernel
theorem dX12_bad_17 : decode cX12_bad 17 = .ok (.aload_n 0, 1) := by decide +kernel
theorem dX12_bad_18 : decode cX12_bad 18 = .ok (.aload_n 0, 1) := by decide +kernel
theorem dX12_bad_19 : decode cX12_bad 19 = .ok (.getfield 285, 3) := by decide +kernel
theorem dX12_bad_22 : decode cX12_bad 22 = .ok (.putfield 320, 3) := by decide +kernel
theorem dX12_bad_25 : decode cX12_bad 25 = .ok (.iconst 0, 1) := by decide +kernel
theorem dX12_bad_26 : decode cX12_bad 26 = .ok (.ireturn, 1) := by decide +kernel
theorem dX12_byteAt_0 : decode cX12_byteAt 0 = .ok (.iload_n 1, 1) := by decide +kernel
theorem dX12_byteAt_1 : decode cX12_byteAt 1 = .ok (.aload_n 0, 1) := by decide +kernel
theorem dX12_byteAt_2 : decode cX12_byteAt 2 = .ok (.getfield 279, 3) := by decide +kernel
theorem dX12_byteAt_5 : decode cX12_byteAt 5 = .ok (.if_icmp .ge 12, 3) := by decide +kernel
theorem dX12_byteAt_8 : decode cX12_byteAt 8 = .ok (.aload_n 0, 1) := by decide +kernel
theorem dX12_byteAt_9 : decode cX12_byteAt 9 = .ok (.getfield 7, 3) := by decide +kernel
theorem dX12_byteAt_12 : decode cX12_byteAt 12 = .ok (.iload_n 1, 1) := by decide +kernel
theorem dX12_byteAt_13 : decode cX12_byteAt 13 = .ok (.iaload, 1) := by decide +kernel
theorem dX12_byteAt_14 : decode cX12_byteAt 14 = .ok (.goto 4, 3) := by decide +kernel
theorem dX12_byteAt_17 : decode cX12_byteAt 17 = .ok (.iconst 0, 1) := by decide +kernel
theorem dX12_byteAt_18 : decode cX12_byteAt 18 = .ok (.ireturn, 1) := by decide +kernel
theorem dX12_go_0 : decode cX12_go 0 = .ok (.aload_n 0, 1) := by decide +kernel
theorem dX12_go_1 : decode cX12_go 1 = .ok (.getfield 282, 3) := by decide +kernel
theorem dX12_go_4 : decode cX12_go 4 = .ok (.aload_n 0, 1) := by decide +kernel
theorem dX12_go_5 : decode cX12_go 5 = .ok (.getfield 279, 3) := by decide +kernel
theorem dX12_go_8 : decode cX12_go 8 = .ok (.if_icmp .ge 44, 3) := by decide +kernel
theorem dX12_go_11 : decode cX12_go 11 = .ok (.aload_n 0, 1) := by decide +kernel
theorem dX12_go_12 : decode cX12_go 12 = .ok (.getfield 7, 3) := by decide +kernel
theorem dX12_go_15 : decode cX12_go 15 = .ok (.aload_n 0, 1) := by decide +kernel
theorem dX12_go_16 : decode cX12_go 16 = .ok (.getfield 282, 3) := by decide +kernel
theorem dX12_go_19 : decode cX12_go 19 = .ok (.iaload, 1) := by decide +kernel
theorem dX12_go_20 : decode cX12_go 20 = .ok (.bipush 32, 2) := by decide +kernel
theorem dX12_go_22 : decode cX12_go 22 = .ok (.if_icmp .eq 17, 3) := by decide +kernel
theorem dX12_go_25 : decode cX12_go 25 = .ok (.aload_n 0, 1) := by decide +kernel
theorem dX12_go_26 : decode cX12_go 26 = .ok (.getfield 7, 3) := by decide +kernel
theorem dX12_go_29 : decode cX12_go 29 = .ok (.aload_n 0, 1) := by decide +kernel
theorem dX12_go_30 : decode cX12_go 30 = .ok (.getfield 282, 3) := by decide +kernel
theorem dX12_go_33 : decode cX12_go 33 = .ok (.iaload, 1) := by decide +kernel
theorem dX12_go_34 : decode cX12_go 34 = .ok (.bipush 10, 2) := by decide +kernel
theorem dX12_go_36 : decode cX12_go 36 = .ok (.if_icmp .ne 16, 3) := by decide +kernel
theorem dX12_go_39 : decode cX12_go 39 = .ok (.aload_n 0, 1) := by decide +kernel
theorem dX12_go_40 : decode cX12_go 40 = .ok (.dup, 1) := by decide +kernel
theorem dX12_go_41 : decode cX12_go 41 = .ok (.getfield 282, 3) := by decide +kernel
theorem dX12_go_44 : decode cX12_go 44 = .ok (.iconst 1, 1) := by decide +kernel
theorem dX12_go_45 : decode cX12_go 45 = .ok (.iadd, 1) := by decide +kernel
theorem dX12_go_46 : decode cX12_go 46 = .ok (.putfield 282, 3) := by decide +kernel
theorem dX12_go_49 : decode cX12_go 49 = .ok (.goto (-49), 3) := by decide +kernel
theorem dX12_go_52 : decode cX12_go 52 = .ok (.aload_n 0, 1) := by decide +kernel
theorem dX12_go_53 : decode cX12_go 53 = .ok (.aload_n 0, 1) := by decide +kernel
theorem dX12_go_54 : decode cX12_go 54 = .ok (.getfield 282, 3) := by decide +kernel
theorem dX12_go_57 : decode cX12_go 57 = .ok (.putfield 285, 3) := by decide +kernel
theorem dX12_go_60 : decode cX12_go 60 = .ok (.aload_n 0, 1) := by decide +kernel
theorem dX12_go_61 : decode cX12_go 61 = .ok (.getfield 279, 3) := by decide +kernel
theorem dX12_go_64 : decode cX12_go 64 = .ok (.sipush 300, 3) := by decide +kernel
theorem dX12_go_67 : decode cX12_go 67 = .ok (.if_icmp .le 26, 3) := by decide +kernel
theorem dX12_go_70 : decode cX12_go 70 = .ok (.aload_n 0, 1) := by decide +kernel
theorem dX12_go_71 : decode cX12_go 71 = .ok (.getfield 285, 3) := by decide +kernel
theorem dX12_go_74 : decode cX12_go 74 = .ok (.sipush 300, 3) := by decide +kernel
theorem dX12_go_77 : decode cX12_go 77 = .ok (.if_icmp .lt 16, 3) := by decide +kernel
theorem dX12_go_80 : decode cX12_go 80 = .ok (.aload_n 0, 1) := by decide +kernel
theorem dX12_go_81 : decode cX12_go 81 = .ok (.sipush 300, 3) := by decide +kernel
theorem dX12_go_84 : decode cX12_go 84 = .ok (.putfield 285, 3) := by decide +kernel
theorem dX12_go_87 : decode cX12_go 87 = .ok (.aload_n 0, 1) := by decide +kernel
theorem dX12_go_88 : decode cX12_go 88 = .ok (.iconst 1, 1) := by decide +kernel
theorem dX12_go_89 : decode cX12_go 89 = .ok (.putfield 288, 3) := by decide +kernel
theorem dX12_go_92 : decode cX12_go 92 = .ok (.return_, 1) := by decide +kernel
theorem dX12_go_93 : decode cX12_go 93 = .ok (.aload_n 0, 1) := by decide +kernel
theorem dX12_go_94 : decode cX12_go 94 = .ok (.getfield 282, 3) := by decide +kernel
theorem dX12_go_97 : decode cX12_go 97 = .ok (.aload_n 0, 1) := by decide +kernel
theorem dX12_go_98 : decode cX12_go 98 = .ok (.getfield 279, 3) := by decide +kernel
theorem dX12_go_101 : decode cX12_go 101 = .ok (.if_icmp .lt 9, 3) := by decide +kernel
theorem dX12_go_104 : decode cX12_go 104 = .ok (.aload_n 0, 1) := by decide +kernel
theorem dX12_go_105 : decode cX12_go 105 = .ok (.iconst 0, 1) := by decide +kernel
theorem dX12_go_106 : decode cX12_go 106 = .ok (.putfield 288, 3) := by decide +kernel
theorem dX12_go_109 : decode cX12_go 109 = .ok (.return_, 1) := by decide +kernel
theorem dX12_go_110 : decode cX12_go 110 = .ok (.aload_n 0, 1) := by decide +kernel
theorem dX12_go_111 : decode cX12_go 111 = .ok (.getfield 7, 3) := by decide +kernel
theorem dX12_go_114 : decode cX12_go 114 = .ok (.aload_n 0, 1) := by decide +kernel
theorem dX12_go_115 : decode cX12_go 115 = .ok (.getfield 282, 3) := by decide +kernel
theorem dX12_go_118 : decode cX12_go 118 = .ok (.iaload, 1) := by decide +kernel
theorem dX12_go_119 : decode cX12_go 119 = .ok (.istore_n 1, 1) := by decide +kernel
theorem dX12_go_120 : decode cX12_go 120 = .ok (.iload_n 1, 1) := by decide +kernel
theorem dX12_go_121 : decode cX12_go 121 = .ok (.invokestatic 291, 3) := by decide +kernel
theorem dX12_go_124 : decode cX12_go 124 = .ok (.ifCond .ne 42, 3) := by decide +kernel
theorem dX12_go_127 : decode cX12_go 127 = .ok (.iload_n 1, 1) := by decide +kernel
theorem dX12_go_128 : decode cX12_go 128 = .ok (.invokestatic 294, 3) := by decide +kernel
theorem dX12_go_131 : decode cX12_go 131 = .ok (.ifCond .ne 35, 3) := by decide +kernel
theorem dX12_go_134 : decode cX12_go 134 = .ok (.aload_n 0, 1) := by decide +kernel
theorem dX12_go_135 : decode cX12_go 135 = .ok (.iload_n 1, 1) := by decide +kernel
theorem dX12_go_136 : decode cX12_go 136 = .ok (.invokestatic 297, 3) := by decide +kernel
theorem dX12_go_139 : decode cX12_go 139 = .ok (.ifCond .eq 7, 3) := by decide +kernel
theorem dX12_go_142 : decode cX12_go 142 = .ok (.iconst 4, 1) := by decide +kernel
theorem dX12_go_143 : decode cX12_go 143 = .ok (.goto 4, 3) := by decide +kernel
theorem dX12_go_146 : decode cX12_go 146 = .ok (.iconst 1, 1) := by decide +kernel
theorem dX12_go_147 : decode cX12_go 147 = .ok (.putfield 288, 3) := by decide +kernel
theorem dX12_go_150 : decode cX12_go 150 = .ok (.aload_n 0, 1) := by decide +kernel
theorem dX12_go_151 : decode cX12_go 151 = .ok (.iload_n 1, 1) := by decide +kernel
theorem dX12_go_152 : decode cX12_go 152 = .ok (.putfield 300, 3) := by decide +kernel
theorem dX12_go_155 : decode cX12_go 155 = .ok (.aload_n 0, 1) := by decide +kernel
theorem dX12_go_156 : decode cX12_go 156 = .ok (.dup, 1) := by decide +kernel
theorem dX12_go_157 : decode cX12_go 157 = .ok (.getfield 282, 3) := by decide +kernel
theorem dX12_go_160 : decode cX12_go 160 = .ok (.iconst 1, 1) := by decide +kernel
theorem dX12_go_161 : decode cX12_go 161 = .ok (.iadd, 1) := by decide +kernel
theorem dX12_go_162 : decode cX12_go 162 = .ok (.putfield 282, 3) := by decide +kernel
theorem dX12_go_165 : decode cX12_go 165 = .ok (.return_, 1) := by decide +kernel
theorem dX12_go_166 : decode cX12_go 166 = .ok (.iload_n 1, 1) := by decide +kernel
theorem dX12_go_167 : decode cX12_go 167 = .ok (.invokestatic 291, 3) := by decide +kernel
theorem dX12_go_170 : decode cX12_go 170 = .ok (.istore_n 2, 1) := by decide +kernel
theorem dX12_go_171 : decode cX12_go 171 = .ok (.iconst 1, 1) := by decide +kernel
theorem dX12_go_172 : decode cX12_go 172 = .ok (.istore_n 3, 1) := by decide +kernel
theorem dX12_go_173 : decode cX12_go 173 = .ok (.aload_n 0, 1) := by decide +kernel
theorem dX12_go_174 : decode cX12_go 174 = .ok (.lconst 0, 1) := by decide +kernel
theorem dX12_go_175 : decode cX12_go 175 = .ok (.putfield 303, 3) := by decide +kernel
theorem dX12_go_178 : decode cX12_go 178 = .ok (.aload_n 0, 1) := by decide +kernel
theorem dX12_go_179 : decode cX12_go 179 = .ok (.iconst 0, 1) := by decide +kernel
theorem dX12_go_180 : decode cX12_go 180 = .ok (.putfield 307, 3) := by decide +kernel
theorem dX12_go_183 : decode cX12_go 183 = .ok (.aload_n 0, 1) := by decide +kernel
theorem dX12_go_184 : decode cX12_go 184 = .ok (.aload_n 0, 1) := by decide +kernel
theorem dX12_go_185 : decode cX12_go 185 = .ok (.getfield 282, 3) := by decide +kernel
theorem dX12_go_188 : decode cX12_go 188 = .ok (.invokevirtual 310, 3) := by decide +kernel
theorem dX12_go_191 : decode cX12_go 191 = .ok (.invokestatic 291, 3) := by decide +kernel
theorem dX12_go_194 : decode cX12_go 194 = .ok (.ifCond .ne 17, 3) := by decide +kernel
theorem dX12_go_197 : decode cX12_go 197 = .ok (.aload_n 0, 1) := by decide +kernel
theorem dX12_go_198 : decode cX12_go 198 = .ok (.aload_n 0, 1) := by decide +kernel
theorem dX12_go_199 : decode cX12_go 199 = .ok (.getfield 282, 3) := by decide +kernel
theorem dX12_go_202 : decode cX12_go 202 = .ok (.invokevirtual 310, 3) := by decide +kernel
theorem dX12_go_205 : decode cX12_go 205 = .ok (.invokestatic 294, 3) := by decide +kernel
theorem dX12_go_208 : decode cX12_go 208 = .ok (.ifCond .eq 110, 3) := by decide +kernel
theorem dX12_go_211 : decode cX12_go 211 = .ok (.aload_n 0, 1) := by decide +kernel
theorem dX12_go_212 : decode cX12_go 212 = .ok (.getfield 7, 3) := by decide +kernel
theorem dX12_go_215 : decode cX12_go 215 = .ok (.aload_n 0, 1) := by decide +kernel
theorem dX12_go_216 : decode cX12_go 216 = .ok (.getfield 282, 3) := by decide +kernel
theorem dX12_go_219 : decode cX12_go 219 = .ok (.iaload, 1) := by decide +kernel
theorem dX12_go_220 : decode cX12_go 220 = .ok (.istore 4, 2) := by decide +kernel
theorem dX12_go_222 : decode cX12_go 222 = .ok (.iload_n 3, 1) := by decide +kernel
theorem dX12_go_223 : decode cX12_go 223 = .ok (.ifCond .eq 16, 3) := by decide +kernel
theorem dX12_go_226 : decode cX12_go 226 = .ok (.iload 4, 2) := by decide +kernel
theorem dX12_go_228 : decode cX12_go 228 = .ok (.invokestatic 291, 3) := by decide +kernel
theorem dX12_go_231 : decode cX12_go 231 = .ok (.iload_n 2, 1) := by decide +kernel
theorem dX12_go_232 : decode cX12_go 232 = .ok (.if_icmp .ne 7, 3) := by decide +kernel
theorem dX12_go_235 : decode cX12_go 235 = .ok (.iconst 1, 1) := by decide +kernel
theorem dX12_go_236 : decode cX12_go 236 = .ok (.goto 4, 3) := by decide +kernel
theorem dX12_go_239 : decode cX12_go 239 = .ok (.iconst 0, 1) := by decide +kernel
theorem dX12_go_240 : decode cX12_go 240 = .ok (.istore_n 3, 1) := by decide +kernel
theorem dX12_go_241 : decode cX12_go 241 = .ok (.aload_n 0, 1) := by decide +kernel
theorem dX12_go_242 : decode cX12_go 242 = .ok (.getfield 282, 3) := by decide +kernel
theorem dX12_go_245 : decode cX12_go 245 = .ok (.aload_n 0, 1) := by decide +kernel
theorem dX12_go_246 : decode cX12_go 246 = .ok (.getfield 285, 3) := by decide +kernel
theorem dX12_go_249 : decode cX12_go 249 = .ok (.isub, 1) := by decide +kernel
theorem dX12_go_250 : decode cX12_go 250 = .ok (.bipush 8, 2) := by decide +kernel
theorem dX12_go_252 : decode cX12_go 252 = .ok (.if_icmp .ge 23, 3) := by decide +kernel
theorem dX12_go_255 : decode cX12_go 255 = .ok (.aload_n 0, 1) := by decide +kernel
theorem dX12_go_256 : decode cX12_go 256 = .ok (.ldc2_w 313, 3) := by decide +kernel
theorem dX12_go_259 : decode cX12_go 259 = .ok (.aload_n 0, 1) := by decide +kernel
theorem dX12_go_260 : decode cX12_go 260 = .ok (.getfield 303, 3) := by decide +kernel
theorem dX12_go_263 : decode cX12_go 263 = .ok (.lmul, 1) := by decide +kernel
theorem dX12_go_264 : decode cX12_go 264 = .ok (.iload 4, 2) := by decide +kernel
theorem dX12_go_266 : decode cX12_go 266 = .ok (.i2l, 1) := by decide +kernel
theorem dX12_go_267 : decode cX12_go 267 = .ok (.ladd, 1) := by decide +kernel
theorem dX12_go_268 : decode cX12_go 268 = .ok (.ldc2_w 315, 3) := by decide +kernel
theorem dX12_go_271 : decode cX12_go 271 = .ok (.lsub, 1) := by decide +kernel
theorem dX12_go_272 : decode cX12_go 272 = .ok (.putfield 303, 3) := by decide +kernel
theorem dX12_go_275 : decode cX12_go 275 = .ok (.aload_n 0, 1) := by decide +kernel
theorem dX12_go_276 : decode cX12_go 276 = .ok (.getfield 282, 3) := by decide +kernel
theorem dX12_go_279 : decode cX12_go 279 = .ok (.aload_n 0, 1) := by decide +kernel
theorem dX12_go_280 : decode cX12_go 280 = .ok (.getfield 285, 3) := by decide +kernel
theorem dX12_go_283 : decode cX12_go 283 = .ok (.isub, 1) := by decide +kernel
theorem dX12_go_284 : decode cX12_go 284 = .ok (.iconst 4, 1) := by decide +kernel
theorem dX12_go_285 : decode cX12_go 285 = .ok (.if_icmp .ge 20, 3) := by decide +kernel
theorem dX12_go_288 : decode cX12_go 288 = .ok (.aload_n 0, 1) := by decide +kernel
theorem dX12_go_289 : decode cX12_go 289 = .ok (.bipush 10, 2) := by decide +kernel
theorem dX12_go_291 : decode cX12_go 291 = .ok (.aload_n 0, 1) := by decide +kernel
theorem dX12_go_292 : decode cX12_go 292 = .ok (.getfield 307, 3) := by decide +kernel
theorem dX12_go_295 : decode cX12_go 295 = .ok (.imul, 1) := by decide +kernel
theorem dX12_go_296 : decode cX12_go 296 = .ok (.iload 4, 2) := by decide +kernel
theorem dX12_go_298 : decode cX12_go 298 = .ok (.iadd, 1) := by decide +kernel
theorem dX12_go_299 : decode cX12_go 299 = .ok (.bipush 48, 2) := by decide +kernel
theorem dX12_go_301 : decode cX12_go 301 = .ok (.isub, 1) := by decide +kernel
theorem dX12_go_302 : decode cX12_go 302 = .ok (.putfield 307, 3) := by decide +kernel
theorem dX12_go_305 : decode cX12_go 305 = .ok (.aload_n 0, 1) := by decide +kernel
theorem dX12_go_306 : decode cX12_go 306 = .ok (.dup, 1) := by decide +kernel
theorem dX12_go_307 : decode cX12_go 307 = .ok (.getfield 282, 3) := by decide +kernel
theorem dX12_go_310 : decode cX12_go 310 = .ok (.iconst 1, 1) := by decide +kernel
theorem dX12_go_311 : decode cX12_go 311 = .ok (.iadd, 1) := by decide +kernel
theorem dX12_go_312 : decode cX12_go 312 = .ok (.putfield 282, 3) := by decide +kernel
theorem dX12_go_315 : decode cX12_go 315 = .ok (.goto (-132), 3) := by decide +kernel
theorem dX12_go_318 : decode cX12_go 318 = .ok (.aload_n 0, 1) := by decide +kernel
theorem dX12_go_319 : decode cX12_go 319 = .ok (.iload_n 3, 1) := by decide +kernel
theorem dX12_go_320 : decode cX12_go 320 = .ok (.ifCond .eq 25, 3) := by decide +kernel
theorem dX12_go_323 : decode cX12_go 323 = .ok (.aload_n 0, 1) := by decide +kernel
theorem dX12_go_324 : decode cX12_go 324 = .ok (.getfield 282, 3) := by decide +kernel
theorem dX12_go_327 : decode cX12_go 327 = .ok (.aload_n 0, 1) := by decide +kernel
theorem dX12_go_328 : decode cX12_go 328 = .ok (.getfield 285, 3) := by decide +kernel
theorem dX12_go_331 : decode cX12_go 331 = .ok (.isub, 1) := by decide +kernel
theorem dX12_go_332 : decode cX12_go 332 = .ok (.iload_n 2, 1) := by decide +kernel
theorem dX12_go_333 : decode cX12_go 333 = .ok (.ifCond .eq 8, 3) := by decide +kernel
theorem dX12_go_336 : decode cX12_go 336 = .ok (.bipush 8, 2) := by decide +kernel
theorem dX12_go_338 : decode cX12_go 338 = .ok (.goto 4, 3) := by decide +kernel
theorem dX12_go_341 : decode cX12_go 341 = .ok (.iconst 4, 1) := by decide +kernel
theorem dX12_go_342 : decode cX12_go 342 = .ok (.if_icmp .le 7, 3) := by decide +kernel
theorem dX12_go_345 : decode cX12_go 345 = .ok (.iconst 1, 1) := by decide +kernel
theorem dX12_go_346 : decode cX12_go 346 = .ok (.goto 12, 3) := by decide +kernel
theorem dX12_go_349 : decode cX12_go 349 = .ok (.iload_n 2, 1) := by decide +kernel
theorem dX12_go_350 : decode cX12_go 350 = .ok (.ifCond .eq 7, 3) := by decide +kernel
theorem dX12_go_353 : decode cX12_go 353 = .ok (.iconst 2, 1) := by decide +kernel
theorem dX12_go_354 : decode cX12_go 354 = .ok (.goto 4, 3) := by decide +kernel
theorem dX12_go_357 : decode cX12_go 357 = .ok (.iconst 3, 1) := by decide +kernel
theorem dX12_go_358 : decode cX12_go 358 = .ok (.putfield 288, 3) := by decide +kernel
theorem dX12_go_361 : decode cX12_go 361 = .ok (.return_, 1) := by decide +kernel
theorem dX12_isKey_0 : decode cX12_isKey 0 = .ok (.aload_n 0, 1) := by decide +kernel
theorem dX12_isKey_1 : decode cX12_isKey 1 = .ok (.getfield 288, 3) := by decide +kernel
theorem dX12_isKey_4 : decode cX12_isKey 4 = .ok (.iconst 2, 1) := by decide +kernel
theorem dX12_isKey_5 : decode cX12_isKey 5 = .ok (.if_icmp .ne 16, 3) := by decide +kernel
theorem dX12_isKey_8 : decode cX12_isKey 8 = .ok (.aload_n 0, 1) := by decide +kernel
theorem dX12_isKey_9 : decode cX12_isKey 9 = .ok (.getfield 303, 3) := by decide +kernel
theorem dX12_isKey_12 : decode cX12_isKey 12 = .ok (.lload_n 1, 1) := by decide +kernel
theorem dX12_isKey_13 : decode cX12_isKey 13 = .ok (.lcmp, 1) := by decide +kernel
theorem dX12_isKey_14 : decode cX12_isKey 14 = .ok (.ifCond .ne 7, 3) := by decide +kernel
theorem dX12_isKey_17 : decode cX12_isKey 17 = .ok (.iconst 1, 1) := by decide +kernel
theorem dX12_isKey_18 : decode cX12_isKey 18 = .ok (.goto 4, 3) := by decide +kernel
theorem dX12_isKey_21 : decode cX12_isKey 21 = .ok (.iconst 0, 1) := by decide +kernel
theorem dX12_isKey_22 : decode cX12_isKey 22 = .ok (.ireturn, 1) := by decide +kernel
theorem dX12_isNot_0 : decode cX12_isNot 0 = .ok (.aload_n 0, 1) := by decide +kernel
theorem dX12_isNot_1 : decode cX12_isNot 1 = .ok (.bipush 110, 2) := by decide +kernel
theorem dX12_isNot_3 : decode cX12_isNot 3 = .ok (.bipush 111, 2) := by decide +kernel
theorem dX12_isNot_5 : decode cX12_isNot 5 = .ok (.bipush 116, 2) := by decide +kernel
theorem dX12_isNot_7 : decode cX12_isNot 7 = .ok (.iconst 0, 1) := by decide +kernel
theorem dX12_isNot_8 : decode cX12_isNot 8 = .ok (.iconst 0, 1) := by decide +kernel
theorem dX12_isNot_9 : decode cX12_isNot 9 = .ok (.invokestatic 323, 3) := by decide +kernel
theorem dX12_isNot_12 : decode cX12_isNot 12 = .ok (.invokevirtual 327, 3) := by decide +kernel
theorem dX12_isNot_15 : decode cX12_isNot 15 = .ok (.ireturn, 1) := by decide +kernel
theorem dX12_isSign_0 : decode cX12_isSign 0 = .ok (.aload_n 0, 1) := by decide +kernel
theorem dX12_isSign_1 : decode cX12_isSign 1 = .ok (.getfield 288, 3) := by decide +kernel
theorem dX12_isSign_4 : decode cX12_isSign 4 = .ok (.iconst 4, 1) := by decide +kernel
theorem dX12_isSign_5 : decode cX12_isSign 5 = .ok (.if_icmp .ne 15, 3) := by decide +kernel
theorem dX12_isSign_8 : decode cX12_isSign 8 = .ok (.aload_n 0, 1) := by decide +kernel
theorem dX12_isSign_9 : decode cX12_isSign 9 = .ok (.getfield 300, 3) := by decide +kernel
theorem dX12_isSign_12 : decode cX12_isSign 12 = .ok (.iload_n 1, 1) := by decide +kernel
theorem dX12_isSign_13 : decode cX12_isSign 13 = .ok (.if_icmp .ne 7, 3) := by decide +kernel
theorem dX12_isSign_16 : decode cX12_isSign 16 = .ok (.iconst 1, 1) := by decide +kernel
theorem dX12_isSign_17 : decode cX12_isSign 17 = .ok (.goto 4, 3) := by decide +kernel
theorem dX12_isSign_20 : decode cX12_isSign 20 = .ok (.iconst 0, 1) := by decide +kernel
theorem dX12_isSign_21 : decode cX12_isSign 21 = .ok (.ireturn, 1) := by decide +kernel
theorem dX12_sortAtHand_0 : decode cX12_sortAtHand 0 = .ok (.aload_n 0, 1) := by decide +kernel
theorem dX12_sortAtHand_1 : decode cX12_sortAtHand 1 = .ok (.bipush 99, 2) := by decide +kernel
theorem dX12_sortAtHand_3 : decode cX12_sortAtHand 3 = .ok (.bipush 97, 2) := by decide +kernel
theorem dX12_sortAtHand_5 : decode cX12_sortAtHand 5 = .ok (.bipush 114, 2) := by decide +kernel
theorem dX12_sortAtHand_7 : decode cX12_sortAtHand 7 = .ok (.bipush 114, 2) := by decide +kernel
theorem dX12_sortAtHand_9 : decode cX12_sortAtHand 9 = .ok (.bipush 121, 2) := by decide +kernel
theorem dX12_sortAtHand_11 : decode cX12_sortAtHand 11 = .ok (.invokestatic 323, 3) := by decide +kernel
theorem dX12_sortAtHand_14 : decode cX12_sortAtHand 14 = .ok (.invokevirtual 327, 3) := by decide +kernel
theorem dX12_sortAtHand_17 : decode cX12_sortAtHand 17 = .ok (.ifCond .eq 5, 3) := by decide +kernel
theorem dX12_sortAtHand_20 : decode cX12_sortAtHand 20 = .ok (.iconst 0, 1) := by decide +kernel
theorem dX12_sortAtHand_21 : decode cX12_sortAtHand 21 = .ok (.ireturn, 1) := by decide +kernel
theorem dX12_sortAtHand_22 : decode cX12_sortAtHand 22 = .ok (.aload_n 0, 1) := by decide +kernel
theorem dX12_sortAtHand_23 : decode cX12_sortAtHand 23 = .ok (.bipush 115, 2) := by decide +kernel
theorem dX12_sortAtHand_25 : decode cX12_sortAtHand 25 = .ok (.bipush 116, 2) := by decide +kernel
theorem dX12_sortAtHand_27 : decode cX12_sortAtHand 27 = .ok (.bipush 111, 2) := by decide +kernel
theorem dX12_sortAtHand_29 : decode cX12_sortAtHand 29 = .ok (.bipush 112, 2) := by decide +kernel
theorem dX12_sortAtHand_31 : decode cX12_sortAtHand 31 = .ok (.iconst 0, 1) := by decide +kernel
theorem dX12_sortAtHand_32 : decode cX12_sortAtHand 32 = .ok (.invokestatic 323, 3) := by decide +kernel
theorem dX12_sortAtHand_35 : decode cX12_sortAtHand 35 = .ok (.invokevirtual 327, 3) := by decide +kernel
theorem dX12_sortAtHand_38 : decode cX12_sortAtHand 38 = .ok (.ifCond .eq 5, 3) := by decide +kernel
theorem dX12_sortAtHand_41 : decode cX12_sortAtHand 41 = .ok (.iconst 1, 1) := by decide +kernel
theorem dX12_sortAtHand_42 : decode cX12_sortAtHand 42 = .ok (.ireturn, 1) := by decide +kernel
theorem dX12_sortAtHand_43 : decode cX12_sortAtHand 43 = .ok (.aload_n 0, 1) := by decide +kernel
theorem dX12_sortAtHand_44 : decode cX12_sortAtHand 44 = .ok (.bipush 102, 2) := by decide +kernel
theorem dX12_sortAtHand_46 : decode cX12_sortAtHand 46 = .ok (.bipush 97, 2) := by decide +kernel
theorem dX12_sortAtHand_48 : decode cX12_sortAtHand 48 = .ok (.bipush 114, 2) := by decide +kernel
theorem dX12_sortAtHand_50 : decode cX12_sortAtHand 50 = .ok (.bipush 101, 2) := by decide +kernel
theorem dX12_sortAtHand_52 : decode cX12_sortAtHand 52 = .ok (.iconst 0, 1) := by decide +kernel
theorem dX12_sortAtHand_53 : decode cX12_sortAtHand 53 = .ok (.invokestatic 323, 3) := by decide +kernel
theorem dX12_sortAtHand_56 : decode cX12_sortAtHand 56 = .ok (.invokevirtual 327, 3) := by decide +kernel
theorem dX12_sortAtHand_59 : decode cX12_sortAtHand 59 = .ok (.ifCond .eq 5, 3) := by decide +kernel
theorem dX12_sortAtHand_62 : decode cX12_sortAtHand 62 = .ok (.iconst 2, 1) := by decide +kernel
theorem dX12_sortAtHand_63 : decode cX12_sortAtHand 63 = .ok (.ireturn, 1) := by decide +kernel
theorem dX12_sortAtHand_64 : decode cX12_sortAtHand 64 = .ok (.aload_n 0, 1) := by decide +kernel
theorem dX12_sortAtHand_65 : decode cX12_sortAtHand 65 = .ok (.bipush 104, 2) := by decide +kernel
theorem dX12_sortAtHand_67 : decode cX12_sortAtHand 67 = .ok (.bipush 111, 2) := by decide +kernel
theorem dX12_sortAtHand_69 : decode cX12_sortAtHand 69 = .ok (.bipush 108, 2) := by decide +kernel
theorem dX12_sortAtHand_71 : decode cX12_sortAtHand 71 = .ok (.bipush 100, 2) := by decide +kernel
theorem dX12_sortAtHand_73 : decode cX12_sortAtHand 73 = .ok (.iconst 0, 1) := by decide +kernel
theorem dX12_sortAtHand_74 : decode cX12_sortAtHand 74 = .ok (.invokestatic 323, 3) := by decide +kernel
theorem dX12_sortAtHand_77 : decode cX12_sortAtHand 77 = .ok (.invokevirtual 327, 3) := by decide +kernel
theorem dX12_sortAtHand_80 : decode cX12_sortAtHand 80 = .ok (.ifCond .eq 5, 3) := by decide +kernel
theorem dX12_sortAtHand_83 : decode cX12_sortAtHand 83 = .ok (.iconst 3, 1) := by decide +kernel
theorem dX12_sortAtHand_84 : decode cX12_sortAtHand 84 = .ok (.ireturn, 1) := by decide +kernel
theorem dX12_sortAtHand_85 : decode cX12_sortAtHand 85 = .ok (.aload_n 0, 1) := by decide +kernel
theorem dX12_sortAtHand_86 : decode cX12_sortAtHand 86 = .ok (.bipush 102, 2) := by decide +kernel
theorem dX12_sortAtHand_88 : decode cX12_sortAtHand 88 = .ok (.bipush 105, 2) := by decide +kernel
theorem dX12_sortAtHand_90 : decode cX12_sortAtHand 90 = .ok (.bipush 110, 2) := by decide +kernel
theorem dX12_sortAtHand_92 : decode cX12_sortAtHand 92 = .ok (.bipush 101, 2) := by decide +kernel
theorem dX12_sortAtHand_94 : decode cX12_sortAtHand 94 = .ok (.iconst 0, 1) := by decide +kernel
theorem dX12_sortAtHand_95 : decode cX12_sortAtHand 95 = .ok (.invokestatic 323, 3) := by decide +kernel
theorem dX12_sortAtHand_98 : decode cX12_sortAtHand 98 = .ok (.invokevirtual 327, 3) := by decide +kernel
theorem dX12_sortAtHand_101 : decode cX12_sortAtHand 101 = .ok (.ifCond .eq 5, 3) := by decide +kernel
theorem dX12_sortAtHand_104 : decode cX12_sortAtHand 104 = .ok (.iconst 4, 1) := by decide +kernel
theorem dX12_sortAtHand_105 : decode cX12_sortAtHand 105 = .ok (.ireturn, 1) := by decide +kernel
theorem dX12_sortAtHand_106 : decode cX12_sortAtHand 106 = .ok (.aload_n 0, 1) := by decide +kernel
theorem dX12_sortAtHand_107 : decode cX12_sortAtHand 107 = .ok (.bipush 103, 2) := by decide +kernel
theorem dX12_sortAtHand_109 : decode cX12_sortAtHand 109 = .ok (.bipush 97, 2) := by decide +kernel
theorem dX12_sortAtHand_111 : decode cX12_sortAtHand 111 = .ok (.bipush 115, 2) := by decide +kernel
theorem dX12_sortAtHand_113 : decode cX12_sortAtHand 113 = .ok (.iconst 0, 1) := by decide +kernel
theorem dX12_sortAtHand_114 : decode cX12_sortAtHand 114 = .ok (.iconst 0, 1) := by decide +kernel
theorem dX12_sortAtHand_115 : decode cX12_sortAtHand 115 = .ok (.invokestatic 323, 3) := by decide +kernel
theorem dX12_sortAtHand_118 : decode cX12_sortAtHand 118 = .ok (.invokevirtual 327, 3) := by decide +kernel
theorem dX12_sortAtHand_121 : decode cX12_sortAtHand 121 = .ok (.ifCond .eq 5, 3) := by decide +kernel
theorem dX12_sortAtHand_124 : decode cX12_sortAtHand 124 = .ok (.iconst 5, 1) := by decide +kernel
theorem dX12_sortAtHand_125 : decode cX12_sortAtHand 125 = .ok (.ireturn, 1) := by decide +kernel
theorem dX12_sortAtHand_126 : decode cX12_sortAtHand 126 = .ok (.aload_n 0, 1) := by decide +kernel
theorem dX12_sortAtHand_127 : decode cX12_sortAtHand 127 = .ok (.bipush 100, 2) := by decide +kernel
theorem dX12_sortAtHand_129 : decode cX12_sortAtHand 129 = .ok (.bipush 111, 2) := by decide +kernel
theorem dX12_sortAtHand_131 : decode cX12_sortAtHand 131 = .ok (.bipush 99, 2) := by decide +kernel
theorem dX12_sortAtHand_133 : decode cX12_sortAtHand 133 = .ok (.bipush 107, 2) := by decide +kernel
theorem dX12_sortAtHand_135 : decode cX12_sortAtHand 135 = .ok (.iconst 0, 1) := by decide +kernel
theorem dX12_sortAtHand_136 : decode cX12_sortAtHand 136 = .ok (.invokestatic 323, 3) := by decide +kernel
theorem dX12_sortAtHand_139 : decode cX12_sortAtHand 139 = .ok (.invokevirtual 327, 3) := by decide +kernel
theorem dX12_sortAtHand_142 : decode cX12_sortAtHand 142 = .ok (.ifCond .eq 8, 3) := by decide +kernel
theorem dX12_sortAtHand_145 : decode cX12_sortAtHand 145 = .ok (.bipush 6, 2) := by decide +kernel
theorem dX12_sortAtHand_147 : decode cX12_sortAtHand 147 = .ok (.goto 4, 3) := by decide +kernel
theorem dX12_sortAtHand_150 : decode cX12_sortAtHand 150 = .ok (.iconst (-1), 1) := by decide +kernel
theorem dX12_sortAtHand_151 : decode cX12_sortAtHand 151 = .ok (.ireturn, 1) := by decide +kernel
theorem dQ_K {g g1 : Nat → Int32} {f : Nat} : ∀ n, (∀ i, i < f + n → g1 i = g i) → dQ g1 f n = dQ g f n
  | 0, _ => rfl
  | n + 1, h => by
    show dQ g1 f n + dl (g1 (f + n)) = dQ g f n + dl (g (f + n))
    rw [dQ_K n (fun i hi => h i (by omega)), h (f + n) (by omega)]
theorem up_ne {g : Nat → Int32} {i j : Nat} {x : Int32} (h : i ≠ j) : upd g j x i = g i := if_neg h
theorem up_eq {g : Nat → Int32} {j : Nat} {x : Int32} : upd g j x j = x := if_pos rfl
theorem vP_K {g g1 : Nat → Int32} {f t : Nat} (h : vP g f t) (k : ∀ i, i < t → g1 i = g i) : vP g1 f t := by
  intro n hn
  rw [k (f + n) hn, dQ_K n (fun i hi => k i (by omega))]
  exact h n hn
theorem vP_emit {g : Nat → Int32} {f P : Nat} {x : Int32} (h : vP g f P) (hf : f ≤ P) (hx : okP x (dQ g f (P - f))) : vP (upd g P x) f (P + 1) := by
  intro n hn
  rcases Nat.lt_or_ge (f + n) P with q | q
  · rw [up_ne (by omega), dQ_K (g := g) n (fun i hi => up_ne (by omega))]
    exact h n q
  · have e : f + n = P := by omega
    rw [e, up_eq, dQ_K (g := g) n (fun i hi => up_ne (by omega)), show n = P - f from by omega]
    exact hx
theorem dQ_emit {g : Nat → Int32} {f P : Nat} {x : Int32} (hf : f ≤ P) : dQ (upd g P x) f (P + 1 - f) = dQ g f (P - f) + dl x := by
  rw [show P + 1 - f = (P - f) + 1 from by omega]
  show dQ (upd g P x) f (P - f) + dl (upd g P x (f + (P - f))) = _
  rw [dQ_K (g := g) (P - f) (fun i hi => up_ne (by omega)), show f + (P - f) = P from by omega, up_eq]
def nA (pl : Nat → Int32) : Nat → Int
  | 0 => 0
  | n + 1 => nA pl n + (if (pl n).toInt = 13 ∨ (pl n).toInt = 14 then 1 else 0)
theorem nA_b (pl : Nat → Int32) : ∀ n : Nat, 0 ≤ nA pl n ∧ nA pl n ≤ n
  | 0 => ⟨Int.le_refl _, Int.le_refl _⟩
  | n + 1 => by
    have := nA_b pl n
    show 0 ≤ nA pl n + (if (pl n).toInt = 13 ∨ (pl n).toInt = 14 then 1 else 0) ∧ nA pl n + (if (pl n).toInt = 13 ∨ (pl n).toInt = 14 then 1 else 0) ≤ ((n + 1 : Nat) : Int)
    split <;> omega
theorem nA_K {pl pl1 : Nat → Int32} : ∀ n, (∀ i, i < n → pl1 i = pl i) → nA pl1 n = nA pl n
  | 0, _ => rfl
  | n + 1, h => by
    show nA pl1 n + (if (pl1 n).toInt = 13 ∨ (pl1 n).toInt = 14 then 1 else 0) = nA pl n + (if (pl n).toInt = 13 ∨ (pl n).toInt = 14 then 1 else 0)
    rw [nA_K n (fun i hi => h i (by omega)), h n (by omega)]
theorem nA_1 {pl : Nat → Int32} {n : Nat} (h : (pl n).toInt = 13 ∨ (pl n).toInt = 14) : nA pl (n + 1) = nA pl n + 1 := by
  show nA pl n + (if _ then 1 else 0) = _; rw [if_pos h]
theorem nA_0 {pl : Nat → Int32} {n : Nat} (h : ¬ ((pl n).toInt = 13 ∨ (pl n).toInt = 14)) : nA pl (n + 1) = nA pl n := by
  show nA pl n + (if _ then 1 else 0) = _; rw [if_neg h]; omega
def pK (n : Nat) (g g1 : Nat → Int32) : Prop := ∀ i, i < n → g1 i = g i
def cX (FF : Nat) (g0 : Nat → Int32) (e p t o w : Int) (g pl : Nat → Int32) : Prop := ((0 ≤ p ∧ 0 ≤ t ∧ 0 ≤ e) ∧ p + t + e ≤ 2 * o ∧ t + e ≤ o ∧ t + e ≤ w + o ∧ o ≤ 50) ∧ (FF ≤ 1200 + p.toNat ∧ 1200 ≤ FF) ∧ pK FF g0 g ∧ vP g FF (1200 + p.toNat) ∧ dQ g FF (1200 + p.toNat - FF) = nA pl t.toNat + e
theorem cX_n {FF : Nat} {g0 : Nat → Int32} {e p t o w : Int} {g pl : Nat → Int32} (h : cX FF g0 e p t o w g pl) : (0 ≤ p ∧ 0 ≤ t ∧ 0 ≤ e) ∧ p + t + e ≤ 2 * o ∧ t + e ≤ o ∧ t + e ≤ w + o ∧ o ≤ 50 := h.1
theorem cX_put {FF : Nat} {g0 g g1 : Nat → Int32} {p p1 : Int} {i : Nat} {x : Int32} {d d1 : Int} (h0 : 0 ≤ p) (h2 : FF ≤ 1200 + p.toNat ∧ 1200 ≤ FF) (hk : pK FF g0 g) (hv : vP g FF (1200 + p.toNat)) (hd : dQ g FF (1200 + p.toNat - FF) = d) (hp : p1 = p + 1) (hi : i = 1200 + p.toNat) (hg : g1 = upd g i x) (ho : okP x d) (hd1 : d + dl x = d1) : (FF ≤ 1200 + p1.toNat ∧ 1200 ≤ FF) ∧ pK FF g0 g1 ∧ vP g1 FF (1200 + p1.toNat) ∧ dQ g1 FF (1200 + p1.toNat - FF) = d1 := by
  have e : 1200 + p1.toNat = (1200 + p.toNat) + 1 := by omega
  rw [e, hg, hi]
  refine ⟨by omega, fun j hj => by rw [up_ne (by omega)]; exact hk j hj, vP_emit hv h2.1 (by rw [hd]; exact ho), ?_⟩
  rw [dQ_emit h2.1, hd, hd1]
theorem cX_atom {FF : Nat} {g0 : Nat → Int32} {p t o w p1 t1 o1 w1 : Int} {g pl g1 : Nat → Int32} {i : Nat} {x : Int32} (h : cX FF g0 0 p t o w g pl) (hx : 0 ≤ x.toInt ∧ x.toInt ≤ 11) (hp : p1 = p + 1) (ht : t1 = t) (ho : o1 = o + 1) (ho2 : o1 ≤ 50) (hw : w1 = w) (hi : i = 1200 + p.toNat) (hg : g1 = upd g i x) : cX FF g0 1 p1 t1 o1 w1 g1 pl := by
  obtain ⟨h1, h2, h3, h4, h5⟩ := h
  have hn := nA_b pl t.toNat
  subst ht
  refine ⟨by omega, cX_put h1.1.1 h2 h3 h4 h5 hp hi hg ⟨by omega, by omega, by omega, by omega, by omega⟩ ?_⟩
  rw [dl, if_neg (by omega), if_neg (by omega)]; omega
theorem cX_not {FF : Nat} {g0 : Nat → Int32} {p t o w p1 t1 o1 w1 : Int} {g pl g1 : Nat → Int32} {i : Nat} {x : Int32} (h : cX FF g0 1 p t o w g pl) (h0 : 0 < t) (hpl : (pl (t - 1).toNat).toInt = 12) (hx : x.toInt = 12) (hp : p1 = p + 1) (ht : t1 = t - 1) (ho : o1 = o) (hw : w1 = w - 1) (hi : i = 1200 + p.toNat) (hg : g1 = upd g i x) : cX FF g0 1 p1 t1 o1 w1 g1 pl := by
  obtain ⟨h1, h2, h3, h4, h5⟩ := h
  have hn := nA_b pl t.toNat
  have hz : nA pl t.toNat = nA pl t1.toNat := by rw [show t.toNat = (t - 1).toNat + 1 from by omega, nA_0 (by omega), ht]
  refine ⟨by omega, cX_put h1.1.1 h2 h3 h4 h5 hp hi hg ⟨by omega, by omega, by omega, by omega, by omega⟩ ?_⟩
  rw [dl, if_pos hx]; omega
theorem cX_drop {FF : Nat} {g0 : Nat → Int32} {p t o w p1 t1 o1 w1 : Int} {g pl g1 : Nat → Int32} {i : Nat} {x : Int32} (h : cX FF g0 1 p t o w g pl) (h0 : 0 < t) (hpl : pl (t - 1).toNat = x) (hx : 13 ≤ x.toInt ∧ x.toInt ≤ 14) (hp : p1 = p + 1) (ht : t1 = t - 1) (ho : o1 = o) (hw : w1 = w) (hi : i = 1200 + p.toNat) (hg : g1 = upd g i x) : cX FF g0 1 p1 t1 o1 w1 g1 pl := by
  obtain ⟨h1, h2, h3, h4, h5⟩ := h
  have hz : nA pl t.toNat = nA pl t1.toNat + 1 := by rw [show t.toNat = (t - 1).toNat + 1 from by omega, nA_1 (by rw [hpl]; omega), ht]
  have hn := nA_b pl t1.toNat
  refine ⟨by omega, cX_put h1.1.1 h2 h3 h4 h5 hp hi hg ⟨by omega, by omega, by omega, by omega, by omega⟩ ?_⟩
  rw [dl, if_neg (by omega), if_pos (by omega)]; omega
theorem cX_push {FF : Nat} {g0 : Nat → Int32} {p t o w p1 t1 o1 w1 : Int} {g pl pl1 : Nat → Int32} {i : Nat} {x : Int32} (h : cX FF g0 0 p t o w g pl) (hx : x.toInt = 12 ∨ x.toInt = 15) (hp : p1 = p) (ht : t1 = t + 1) (ho : o1 = o + 1) (ho2 : o1 ≤ 50) (hw : w1 = w + 1) (hi : i = t.toNat) (hg : pl1 = upd pl i x) : cX FF g0 0 p1 t1 o1 w1 g pl1 := by
  obtain ⟨h1, h2, h3, h4, h5⟩ := h
  subst hp
  refine ⟨by omega, h2, h3, h4, ?_⟩
  rw [h5, show t1.toNat = t.toNat + 1 from by omega, nA_0 (by rw [hg, hi, up_eq]; omega), hg, nA_K (pl := pl) t.toNat (fun j hj => up_ne (by omega))]
theorem cX_op {FF : Nat} {g0 : Nat → Int32} {p t o w p1 t1 o1 w1 : Int} {g pl pl1 : Nat → Int32} {i : Nat} {x : Int32} (h : cX FF g0 1 p t o w g pl) (hx : 13 ≤ x.toInt ∧ x.toInt ≤ 14) (hp : p1 = p) (ht : t1 = t + 1) (ho : o1 = o) (hw : w1 = w) (hi : i = t.toNat) (hg : pl1 = upd pl i x) : cX FF g0 0 p1 t1 o1 w1 g pl1 := by
  obtain ⟨h1, h2, h3, h4, h5⟩ := h
  subst hp
  refine ⟨by omega, h2, h3, h4, ?_⟩
  rw [h5, show t1.toNat = t.toNat + 1 from by omega, nA_1 (by rw [hg, hi, up_eq]; omega), hg, nA_K (pl := pl) t.toNat (fun j hj => up_ne (by omega))]; omega
theorem cX_pop {FF : Nat} {g0 : Nat → Int32} {p t o w p1 t1 o1 w1 : Int} {g pl : Nat → Int32} (h : cX FF g0 1 p t o w g pl) (h0 : 0 < t) (hpl : ¬ ((pl (t - 1).toNat).toInt = 13 ∨ (pl (t - 1).toNat).toInt = 14)) (hp : p1 = p) (ht : t1 = t - 1) (ho : o1 = o) (hw : w1 = w - 1) : cX FF g0 1 p1 t1 o1 w1 g pl := by
  obtain ⟨h1, h2, h3, h4, h5⟩ := h
  subst hp
  refine ⟨by omega, h2, h3, h4, ?_⟩
  rw [h5, show t.toNat = (t - 1).toNat + 1 from by omega, nA_0 hpl, ht]
theorem cX_start {FF : Nat} {p t o w : Int} {g pl : Nat → Int32} (h0 : 0 ≤ p) (ht : t = 0) (hF : FF = 1200 + p.toNat) (ho : p ≤ 2 * o) (ho2 : o ≤ 50) (hz : 0 ≤ o) (hw : 0 ≤ w + o) : cX FF g 0 p t o w g pl := by
  subst ht; subst hF
  refine ⟨by omega, by omega, fun _ _ => rfl, fun n hn => by omega, ?_⟩
  rw [show 1200 + p.toNat - (1200 + p.toNat) = 0 from by omega]; rfl
theorem cX_eq {FF : Nat} {g0 : Nat → Int32} {e p t o w p1 t1 o1 w1 : Int} {g pl g1 pl1 : Nat → Int32} (h : cX FF g0 e p t o w g pl) (hp : p1 = p) (ht : t1 = t) (ho : o1 = o) (hw : w1 = w) (hg : g1 = g) (hl : pl1 = pl) : cX FF g0 e p1 t1 o1 w1 g1 pl1 := by
  subst hp; subst ht; subst ho; subst hw; subst hg; subst hl; exact h
set_option maxHeartbeats 4000000 in
set_option maxRecDepth 100000 in
theorem m_byteAt (l : Launch) (dC : Nat → ClassId) (dI : Nat → Nat → Nat) (sz h : Nat) (ad : Nat → Nat) (cA : Nat → ClassId) (hd : dM h ad) (fv : Nat → Int32) (wd : Int64) (ar : Nat → Nat → Int32) (hF_fv : rF fv) (hA_ar : rA ar) (pp : Int32) (h_pp : 0 ≤ pp.toInt ∧ pp.toInt ≤ 340) : Met l yX12_byteAt (.code yX12_byteAt cX12_byteAt 2 (some .int) :: lw_good) ({ frames := 2, cells := 0, slots := 0, locals := 40 }) (va_Pc [.ref h, .int pp] (prM dC dI h ad cA fv wd ar sz)) (va_Qi (fun (r : Int32) (u : mS) => rF u.1 ∧ rA u.2.2 ∧ fM [] fv u.1 ∧ fA [] ar u.2.2 ∧ (0 ≤ r.toInt ∧ r.toInt ≤ 255) ∧ (r.toInt = 0 ∨ pp.toInt ≤ 339) ∧ True) (enM dC dI h ad cA) (aM h ad sz)) 0 0 (aM h ad sz) := by
  refine Met.ofW (cc := cX12_byteAt) (maxL := 2) (ret := (some .int)) (by decide) rfl ?_
  intro p e s m args below meth c s₁ B hml hv
  obtain ⟨rfl, hsz, hP, hK⟩ := hv
  have hx := B.exec
  have hb := B.bytes
  have hr := B.returns
  have hts := atoms_spec (ws := (.code yX12_byteAt cX12_byteAt 2 (some .int) :: lw_good)) B.pre
  have htg : ∀ w ∈ lw_good, w.before _ s = true := fun w hw => hts w (List.mem_cons_of_mem _ hw)
  have hown : s.vm.findClass RX12 = some m.cls := findClass_of_methodNamed B.named
  have hlocks := B.notSynchronized
  subst hsz
  have hS : va_S (aM h ad s.heap.size) s.heap s.heap [] := va_S.rf
  have hl := lv_entry ([.ref h, .int pp]) (n := 2) (Nat.le_of_ble_eq_true rfl)
  rw [lg_entry_eq]
  generalize (lg_sl ([.ref h, .int pp]) ++ List.replicate (2 - (lg_sl ([.ref h, .int pp])).length) Slot.unset).toArray = ls at hl ⊢
  have hl : lv_has ls 2 [(0, .ref h), (1, .int pp)] := hl
  refine lv_iload_n hx hb dX12_byteAt_0 rfl (lv_at hl 1 rfl) ?_
  refine lv_aload_n hx hb dX12_byteAt_1 rfl (lv_at hl 0 rfl) ?_
  refine gM_37 hx hb htg hown hK hP dX12_byteAt_2 ?_
  have i_1 : 0 ≤ (fv 37).toInt ∧ (fv 37).toInt ≤ 340 := hF_fv 37
  refine lv_icmp_ge (tgt := 17) hx hb dX12_byteAt_5 (by decide) (fun c_2 => ?_) (fun c_2 => ?_)
  · skip
    refine lv_iconst (v := 0) hx hb dX12_byteAt_17 (by decide) ?_
    have z_3 : (0 : Int32).toInt = 0 := by decide
    exact W.iret (v := 0) hx hb hr (fun t ht hW => ⟨⟨0, (fv, wd, ar), rfl, ⟨hF_fv, hA_ar, (fM_rf [] _), (fA_rf [] _), (iv_w (⟨by decide, by decide⟩ : (0 : Int) ≤ (0 : Int32).toInt ∧ (0 : Int32).toInt ≤ 0) (by decide) (by decide)), (show (0 : Int32).toInt = 0 ∨ pp.toInt ≤ 339 from by omega), trivial⟩, ⟨by rw [ht]; exact hP, va_K.moved hW.alike hK⟩⟩, hS.F ht⟩) hS.2.2 dX12_byteAt_18
  · skip
    have i_4 : 0 ≤ pp.toInt ∧ pp.toInt ≤ 339 := iv_lt1 h_pp i_1 (Int32.not_le.mp c_2)
    have i_5 : 1 ≤ (fv 37).toInt ∧ (fv 37).toInt ≤ 340 := iv_lt2 h_pp i_1 (Int32.not_le.mp c_2)
    refine lv_aload_n hx hb dX12_byteAt_8 rfl (lv_at hl 0 rfl) ?_
    refine gM_1 hx hb htg hown hK hP dX12_byteAt_9 ?_
    refine lv_iload_n hx hb dX12_byteAt_12 rfl (lv_at hl 1 rfl) ?_
    refine lM_1 hx hb hK hP (iv_in i_4 (by decide) (by decide)) dX12_byteAt_13 (fun v_6 ev_6 => ?_)
    have i_7 : 0 ≤ v_6.toInt ∧ v_6.toInt ≤ 255 := ev_6 ▸ hA_ar 1 _
    refine lv_goto (tgt := 18) hx hb dX12_byteAt_14 (by decide) ?_
    exact W.iret (v := v_6) hx hb hr (fun t ht hW => ⟨⟨v_6, (fv, wd, ar), rfl, ⟨hF_fv, hA_ar, (fM_rf [] _), (fA_rf [] _), i_7, (show v_6.toInt = 0 ∨ pp.toInt ≤ 339 from by omega), trivial⟩, ⟨by rw [ht]; exact hP, va_K.moved hW.alike hK⟩⟩, hS.F ht⟩) hS.2.2 dX12_byteAt_18
set_option maxHeartbeats 4000000 in
set_option maxRecDepth 100000 in
theorem m_go (l : Launch) (dC : Nat → ClassId) (dI : Nat → Nat → Nat) (sz h : Nat) (ad : Nat → Nat) (cA : Nat → ClassId) (hd : dM h ad) (fv : Nat → Int32) (wd : Int64) (ar : Nat → Nat → Int32) (hF_fv : rF fv) (hA_ar : rA ar) : Met l yX12_go (.code yX12_go cX12_go 5 none :: lw_good) ({ frames := 3, cells := 0, slots := 0, locals := 61 }) (va_Pc [.ref h] (prM dC dI h ad cA fv wd ar sz)) (va_Qv (fun (u : mS) => rF u.1 ∧ rA u.2.2 ∧ fM [38, 39, 40, 41, 42] fv u.1 ∧ fA [] ar u.2.2 ∧ True) (enM dC dI h ad cA) (aM h ad sz)) 0 0 (aM h ad sz) := by
  refine Met.ofW (cc := cX12_go) (maxL := 5) (ret := none) (by decide) rfl ?_
  intro p e s m args below meth c s₁ B hml hv
  obtain ⟨rfl, hsz, hP, hK⟩ := hv
  have hx := B.exec
  have hb := B.bytes
  have hr := B.returns
  have hts := atoms_spec (ws := (.code yX12_go cX12_go 5 none :: lw_good)) B.pre
  have htg : ∀ w ∈ lw_good, w.before _ s = true := fun w hw => hts w (List.mem_cons_of_mem _ hw)
  have hown : s.vm.findClass RX12 = some m.cls := findClass_of_methodNamed B.named
  have hlocks := B.notSynchronized
  subst hsz
  have hS : va_S (aM h ad s.heap.size) s.heap s.heap [] := va_S.rf
  have hl := lv_entry ([.ref h]) (n := 5) (Nat.le_of_ble_eq_true rfl)
  rw [lg_entry_eq]
  generalize (lg_sl ([.ref h]) ++ List.replicate (5 - (lg_sl ([.ref h])).length) Slot.unset).toArray = ls at hl ⊢
  have hl : lv_has ls 5 [(0, .ref h)] := hl
  refine my_cut (P := fun R9 a9 Q9 => ∀ (n_4 : Nat) (fv_1 : Nat → Int32) (H : Heap) (locs : List Loc) (ls : Array Slot), 340 - (fv_1 38).toInt < (n_4 : Int) → rF fv_1 → fM [38] fv fv_1 → (0 ≤ (fv_1 38).toInt ∧ (fv_1 38).toInt ≤ 340) → va_P (dC, dI) vwCl (wsM h ad cA fv_1 wd ar) H → va_S (aM h ad s.heap.size) s.heap H locs → lv_has ls 5 [(0, .ref h)] → W p l e R9 s m a9 below meth c H locs 0 0 Q9 (F0 m 0 ls [])) ?_ (fun hj_6 => ?_)
  · intro n_4
    induction n_4 with
    | zero => intro fv_1 H locs ls fu_5 hF_fv_1 fr_2 q_3; exfalso; omega
    | succ n_4 ih_4 =>
      intro fv_1 H locs ls fu_5 hF_fv_1 fr_2 q_3 hP hS hl
      refine lv_aload_n hx hb dX12_go_0 rfl (lv_at hl 0 rfl) ?_
      refine gM_38 hx hb htg hown hK hP dX12_go_1 ?_
      have i_7 : 0 ≤ (fv_1 38).toInt ∧ (fv_1 38).toInt ≤ 340 := hF_fv_1 38
      refine lv_aload_n hx hb dX12_go_4 rfl (lv_at hl 0 rfl) ?_
      refine gM_37 hx hb htg hown hK hP dX12_go_5 ?_
      refine my_ti (y := fv 37) ((fr_2 37 rfl)) ?_
      have i_8 : 0 ≤ (fv 37).toInt ∧ (fv 37).toInt ≤ 340 := hF_fv 37
      refine my_cut (P := fun R9 a9 Q9 => ∀  (H : Heap) (locs : List Loc) (ls : Array Slot), va_P (dC, dI) vwCl (wsM h ad cA fv_1 wd ar) H → va_S (aM h ad s.heap.size) s.heap H locs → lv_has ls 5 [(0, .ref h)] → W p l e R9 s m a9 below meth c H locs 0 0 Q9 (F0 m 52 ls [])) ?_ (fun hj_27 => ?_)
      · intro  H locs ls  hP hS hl
        refine lv_aload_n hx hb dX12_go_52 rfl (lv_at hl 0 rfl) ?_
        refine lv_aload_n hx hb dX12_go_53 rfl (lv_at hl 0 rfl) ?_
        refine gM_38 hx hb htg hown hK hP dX12_go_54 ?_
        refine pM_39 hx hb htg hown hK hP hS hd dX12_go_57 (fun H locs fv_28 efv_28 hP hS => ?_)
        have hF_fv_28 : rF fv_28 := rF_put hF_fv_1 efv_28 i_7
        refine lv_aload_n hx hb dX12_go_60 rfl (lv_at hl 0 rfl) ?_
        refine gM_37 hx hb htg hown hK hP dX12_go_61 ?_
        refine my_ti (y := fv 37) ((congrFun efv_28 37).trans ((fr_2 37 rfl))) ?_
        refine lv_sipush (v := 300) hx hb dX12_go_64 (by decide) ?_
        refine lv_icmp_le (tgt := 93) hx hb dX12_go_67 (by decide) (fun c_29 => ?_) (fun c_29 => ?_)
        · skip
          have i_30 : 0 ≤ (fv 37).toInt ∧ (fv 37).toInt ≤ 300 := iv_le1 i_8 (⟨by decide, by decide⟩ : (300 : Int) ≤ (300 : Int32).toInt ∧ (300 : Int32).toInt ≤ 300) c_29
          refine lv_aload_n hx hb dX12_go_93 rfl (lv_at hl 0 rfl) ?_
          refine gM_38 hx hb htg hown hK hP dX12_go_94 ?_
          refine my_ti (y := fv_1 38) ((congrFun efv_28 38)) ?_
          refine lv_aload_n hx hb dX12_go_97 rfl (lv_at hl 0 rfl) ?_
          refine gM_37 hx hb htg hown hK hP dX12_go_98 ?_
          refine my_ti (y := fv 37) ((congrFun efv_28 37).trans ((fr_2 37 rfl))) ?_
          refine lv_icmp_lt (tgt := 110) hx hb dX12_go_101 (by decide) (fun c_31 => ?_) (fun c_31 => ?_)
          · skip
            have i_32 : 0 ≤ (fv_1 38).toInt ∧ (fv_1 38).toInt ≤ 299 := iv_lt1 i_7 i_30 c_31
            have i_33 : 1 ≤ (fv 37).toInt ∧ (fv 37).toInt ≤ 300 := iv_lt2 i_7 i_30 c_31
            refine lv_aload_n hx hb dX12_go_110 rfl (lv_at hl 0 rfl) ?_
            refine gM_1 hx hb htg hown hK hP dX12_go_111 ?_
            refine lv_aload_n hx hb dX12_go_114 rfl (lv_at hl 0 rfl) ?_
            refine gM_38 hx hb htg hown hK hP dX12_go_115 ?_
            refine my_ti (y := fv_1 38) ((congrFun efv_28 38)) ?_
            refine lM_1 hx hb hK hP (iv_in i_32 (by decide) (by decide)) dX12_go_118 (fun v_34 ev_34 => ?_)
            have i_35 : 0 ≤ v_34.toInt ∧ v_34.toInt ≤ 255 := ev_34 ▸ hA_ar 1 _
            refine lv_istore_n (lv' := [(1, .int v_34), (0, .ref h)]) hx hb dX12_go_119 rfl hl (by decide) rfl (fun ls hl => ?_)
            refine lv_iload_n hx hb dX12_go_120 rfl (lv_at hl 0 rfl) ?_
            refine va_calli (va_runS (As := [.int v_34]) (rest := []) ⟨hx, hb, hml, hown, hts⟩ (m_isLetter l H.size v_34) (va_cwS 1 hts (gS kw_8_64 kw_8_65 kw_1_15 kw_8_66) rfl rfl rfl (by decide +kernel) ⟨Nat.le_of_ble_eq_true rfl, Nat.le_of_ble_eq_true rfl⟩) ⟨fun a U g mk q => ⟨q.1, q.2⟩, fun U hU hW => ⟨rfl, congrArg Array.size hU⟩⟩ rfl rfl hl.1 rfl (lv_room (Nat.le_of_ble_eq_true rfl)) dX12_go_121 ⟨Nat.le_of_ble_eq_true rfl, Nat.le_of_ble_eq_true rfl⟩) hS (fun q _ h9 => nM_up hS q h9) (nM_up hS) (fun r_36 u t H1 locs ht _ hw hB _ hk1 hS => ?_)
            obtain ⟨p_37, p_38, -⟩ := hw
            have hP := my_keepM hP hk1
            generalize H1 = H at hP hS ⊢
            rcases p_38 with ⟨rfl, p_38⟩ | ⟨rfl, p_38⟩
            · skip
              refine lv_if_ne (tgt := 166) hx hb dX12_go_124 (by decide) (fun c_39 => ?_) (fun c_39 => ?_)
              · skip
                exact absurd c_39 (by decide)
              · skip
                refine lv_iload_n hx hb dX12_go_127 rfl (lv_at hl 0 rfl) ?_
                refine va_calli (va_runS (As := [.int v_34]) (rest := []) ⟨hx, hb, hml, hown, hts⟩ (m_isDigit l H.size v_34) (va_cwS 1 hts (gS kw_8_67 kw_8_68 kw_1_15 kw_8_69) rfl rfl rfl (by decide +kernel) ⟨Nat.le_of_ble_eq_true rfl, Nat.le_of_ble_eq_true rfl⟩) ⟨fun a U g mk q => ⟨q.1, q.2⟩, fun U hU hW => ⟨rfl, congrArg Array.size hU⟩⟩ rfl rfl hl.1 rfl (lv_room (Nat.le_of_ble_eq_true rfl)) dX12_go_128 ⟨Nat.le_of_ble_eq_true rfl, Nat.le_of_ble_eq_true rfl⟩) hS (fun q _ h9 => nM_up hS q h9) (nM_up hS) (fun r_40 u t H1 locs ht _ hw hB _ hk1 hS => ?_)
                obtain ⟨p_41, p_42, -⟩ := hw
                have hP := my_keepM hP hk1
                generalize H1 = H at hP hS ⊢
                rcases p_42 with ⟨rfl, p_42⟩ | ⟨rfl, p_42⟩
                · skip
                  refine lv_if_ne (tgt := 166) hx hb dX12_go_131 (by decide) (fun c_43 => ?_) (fun c_43 => ?_)
                  · skip
                    exact absurd c_43 (by decide)
                  · skip
                    refine lv_aload_n hx hb dX12_go_134 rfl (lv_at hl 1 rfl) ?_
                    refine lv_iload_n hx hb dX12_go_135 rfl (lv_at hl 0 rfl) ?_
                    refine va_calli (va_runS (As := [.int v_34]) (rest := [.ref h]) ⟨hx, hb, hml, hown, hts⟩ (m_isMark l H.size v_34) (va_cwS 1 hts (gS kw_8_70 kw_8_71 kw_1_15 kw_8_72) rfl rfl rfl (by decide +kernel) ⟨Nat.le_of_ble_eq_true rfl, Nat.le_of_ble_eq_true rfl⟩) ⟨fun a U g mk q => ⟨q.1, q.2⟩, fun U hU hW => ⟨rfl, congrArg Array.size hU⟩⟩ rfl rfl hl.1 rfl (lv_room (Nat.le_of_ble_eq_true rfl)) dX12_go_136 ⟨Nat.le_of_ble_eq_true rfl, Nat.le_of_ble_eq_true rfl⟩) hS (fun q _ h9 => nM_up hS q h9) (nM_up hS) (fun r_44 u t H1 locs ht _ hw hB _ hk1 hS => ?_)
                    obtain ⟨p_45, -⟩ := hw
                    have hP := my_keepM hP hk1
                    generalize H1 = H at hP hS ⊢
                    refine my_cut (P := fun R9 a9 Q9 => ∀ (x_49 : Int32) (H : Heap) (locs : List Loc) (ls : Array Slot), (1 ≤ x_49.toInt ∧ x_49.toInt ≤ 4) → va_P (dC, dI) vwCl (wsM h ad cA fv_28 wd ar) H → va_S (aM h ad s.heap.size) s.heap H locs → lv_has ls 5 [(0, .ref h), (1, .int v_34)] → W p l e R9 s m a9 below meth c H locs 0 0 Q9 (F0 m 147 ls [.int x_49, .ref h])) ?_ (fun hj_50 => ?_)
                    · intro x_49 H locs ls i_x_49 hP hS hl
                      refine pM_40 hx hb htg hown hK hP hS hd dX12_go_147 (fun H locs fv_51 efv_51 hP hS => ?_)
                      have hF_fv_51 : rF fv_51 := rF_put hF_fv_28 efv_51 (iv_any _)
                      refine lv_aload_n hx hb dX12_go_150 rfl (lv_at hl 0 rfl) ?_
                      refine lv_iload_n hx hb dX12_go_151 rfl (lv_at hl 1 rfl) ?_
                      refine pM_42 hx hb htg hown hK hP hS hd dX12_go_152 (fun H locs fv_52 efv_52 hP hS => ?_)
                      have hF_fv_52 : rF fv_52 := rF_put hF_fv_51 efv_52 (iv_any _)
                      refine lv_aload_n hx hb dX12_go_155 rfl (lv_at hl 0 rfl) ?_
                      refine lv_dup hx hb dX12_go_156 rfl ?_
                      refine gM_38 hx hb htg hown hK hP dX12_go_157 ?_
                      refine my_ti (y := fv_1 38) ((congrFun efv_52 38).trans ((congrFun efv_51 38).trans ((congrFun efv_28 38)))) ?_
                      refine lv_iconst (v := 1) hx hb dX12_go_160 (by decide) ?_
                      refine lv_iadd hx hb dX12_go_161 ?_
                      refine lv_topi (fun v_53 ev_53 => ?_)
                      have t_54 : v_53.toInt = (fv_1 38).toInt + 1 ∧ 1 ≤ v_53.toInt ∧ v_53.toInt ≤ 300 := iv_addc ev_53 i_32 (by decide) (by decide) (by decide)
                      refine pM_38 hx hb htg hown hK hP hS hd dX12_go_162 (fun H locs fv_56 efv_56 hP hS => ?_)
                      have hF_fv_56 : rF fv_56 := rF_put hF_fv_52 efv_56 (iv_w t_54.2 (by decide) (by decide))
                      exact W.vret hx hb hr (fun t ht hW => ⟨⟨(fv_56, wd, ar), rfl, ⟨hF_fv_56, hA_ar, (fM_put (fM_put (fM_put (fM_put (fM_call (fM_rf [38, 39, 40, 41, 42] _) fr_2 (by decide)) efv_28 (by decide)) efv_51 (by decide)) efv_52 (by decide)) efv_56 (by decide)), (fA_rf [] _), trivial⟩, ⟨by rw [ht]; exact hP, va_K.moved hW.alike hK⟩⟩, hS.F ht⟩) hS.2.2 dX12_go_165
                    · skip
                      refine lv_if_eq (tgt := 146) hx hb dX12_go_139 (by decide) (fun c_46 => ?_) (fun c_46 => ?_)
                      · skip
                        have i_47 : 0 ≤ r_44.toInt ∧ r_44.toInt ≤ 0 := iv_eq1 (⟨by decide, by decide⟩ : (0 : Int) ≤ (0 : Int32).toInt ∧ (0 : Int32).toInt ≤ 0) c_46
                        refine lv_iconst (v := 1) hx hb dX12_go_146 (by decide) ?_
                        exact hj_50 1 _ _ ls (iv_w (⟨by decide, by decide⟩ : (1 : Int) ≤ (1 : Int32).toInt ∧ (1 : Int32).toInt ≤ 1) (by decide) (by decide)) hP hS (lv_sub hl [1, 0] rfl)
                      · skip
                        have i_48 : 1 ≤ r_44.toInt ∧ r_44.toInt ≤ 1 := iv_nel p_45 (by decide) c_46
                        refine lv_iconst (v := 4) hx hb dX12_go_142 (by decide) ?_
                        refine lv_goto (tgt := 147) hx hb dX12_go_143 (by decide) ?_
                        exact hj_50 4 _ _ ls (iv_w (⟨by decide, by decide⟩ : (4 : Int) ≤ (4 : Int32).toInt ∧ (4 : Int32).toInt ≤ 4) (by decide) (by decide)) hP hS (lv_sub hl [1, 0] rfl)
                · skip
                  have i_57 : 48 ≤ v_34.toInt ∧ v_34.toInt ≤ 255 := ⟨p_42.1, i_35.2⟩
                  have i_58 : 48 ≤ v_34.toInt ∧ v_34.toInt ≤ 57 := ⟨i_57.1, p_42.2⟩
                  refine lv_if_ne (tgt := 166) hx hb dX12_go_131 (by decide) (fun c_59 => ?_) (fun c_59 => ?_)
                  · skip
                    refine lv_iload_n hx hb dX12_go_166 rfl (lv_at hl 0 rfl) ?_
                    refine va_calli (va_runS (As := [.int v_34]) (rest := []) ⟨hx, hb, hml, hown, hts⟩ (m_isLetter l H.size v_34) (va_cwS 1 hts (gS kw_8_64 kw_8_65 kw_1_15 kw_8_66) rfl rfl rfl (by decide +kernel) ⟨Nat.le_of_ble_eq_true rfl, Nat.le_of_ble_eq_true rfl⟩) ⟨fun a U g mk q => ⟨q.1, q.2⟩, fun U hU hW => ⟨rfl, congrArg Array.size hU⟩⟩ rfl rfl hl.1 rfl (lv_room (Nat.le_of_ble_eq_true rfl)) dX12_go_167 ⟨Nat.le_of_ble_eq_true rfl, Nat.le_of_ble_eq_true rfl⟩) hS (fun q _ h9 => nM_up hS q h9) (nM_up hS) (fun r_60 u t H1 locs ht _ hw hB _ hk1 hS => ?_)
                    obtain ⟨p_61, p_62, -⟩ := hw
                    have hP := my_keepM hP hk1
                    generalize H1 = H at hP hS ⊢
                    refine lv_istore_n (lv' := [(2, .int r_60), (1, .int v_34), (0, .ref h)]) hx hb dX12_go_170 rfl hl (by decide) rfl (fun ls hl => ?_)
                    refine lv_iconst (v := 1) hx hb dX12_go_171 (by decide) ?_
                    refine lv_istore_n (lv' := [(3, .int 1), (2, .int r_60), (1, .int v_34), (0, .ref h)]) hx hb dX12_go_172 rfl hl (by decide) rfl (fun ls hl => ?_)
                    refine lv_aload_n hx hb dX12_go_173 rfl (lv_at hl 3 rfl) ?_
                    refine lv_lconst (v := 0) hx hb dX12_go_174 (by decide) ?_
                    refine pM_46 hx hb htg hown hK hP hS hd dX12_go_175 (fun H locs hP hS => ?_)
                    refine lv_aload_n hx hb dX12_go_178 rfl (lv_at hl 3 rfl) ?_
                    refine lv_iconst (v := 0) hx hb dX12_go_179 (by decide) ?_
                    refine pM_41 hx hb htg hown hK hP hS hd dX12_go_180 (fun H locs fv_63 efv_63 hP hS => ?_)
                    have hF_fv_63 : rF fv_63 := rF_put hF_fv_28 efv_63 (iv_any _)
                    refine my_cut (P := fun R9 a9 Q9 => ∀ (n_71 : Nat) (x_64 : Int32) (fv_65 : Nat → Int32) (ar_67 : Nat → Nat → Int32) (wd_69 : Int64) (H : Heap) (locs : List Loc) (ls : Array Slot), 340 - (fv_65 38).toInt < (n_71 : Int) → (0 ≤ x_64.toInt ∧ x_64.toInt ≤ 1) → rF fv_65 → fM [38, 41] fv_63 fv_65 → rA ar_67 → fA [] ar ar_67 → (0 ≤ (fv_65 38).toInt ∧ (fv_65 38).toInt ≤ 340) → va_P (dC, dI) vwCl (wsM h ad cA fv_65 wd_69 ar_67) H → va_S (aM h ad s.heap.size) s.heap H locs → lv_has ls 5 [(0, .ref h), (2, .int r_60), (3, .int x_64)] → W p l e R9 s m a9 below meth c H locs 0 0 Q9 (F0 m 183 ls [])) ?_ (fun hj_73 => ?_)
                    · intro n_71
                      induction n_71 with
                      | zero => intro x_64 fv_65 ar_67 wd_69 H locs ls fu_72 i_x_64 hF_fv_65 fr_66 hA_ar_67 fa_68 q_70; exfalso; omega
                      | succ n_71 ih_71 =>
                        intro x_64 fv_65 ar_67 wd_69 H locs ls fu_72 i_x_64 hF_fv_65 fr_66 hA_ar_67 fa_68 q_70 hP hS hl
                        refine lv_aload_n hx hb dX12_go_183 rfl (lv_at hl 0 rfl) ?_
                        refine lv_aload_n hx hb dX12_go_184 rfl (lv_at hl 0 rfl) ?_
                        refine gM_38 hx hb htg hown hK hP dX12_go_185 ?_
                        have i_74 : 0 ≤ (fv_65 38).toInt ∧ (fv_65 38).toInt ≤ 340 := hF_fv_65 38
                        refine va_calli (va_runV (As := [.int (fv_65 38)]) (rest := []) ⟨hx, hb, hml, hown, hts⟩ (m_byteAt l dC dI H.size h ad cA hd fv_65 wd_69 ar_67 hF_fv_65 hA_ar_67 (fv_65 38) i_74) (cwV 1 hts (gV kw_8_73 kw_8_75 kw_p_65 kw_1_15 kw_8_76) rfl rfl rfl (by decide +kernel) ⟨Nat.le_of_ble_eq_true rfl, Nat.le_of_ble_eq_true rfl⟩) ⟨fun a U g mk q => ⟨q.1, q.2.1, q.2.2.1, va_K.moved (u := U) (U := U.calling g mk a) (Vm.Alike.refl U.vm) q.2.2.2⟩, va_recv hK hP (ci := 12) (q0 := 0) rfl rfl, fun U hU hW => ⟨rfl, by rw [hU], by rw [hU]; exact hP, va_K.moved hW.alike hK⟩⟩ rfl rfl hl.1 rfl (lv_room (Nat.le_of_ble_eq_true rfl)) dX12_go_188 ⟨Nat.le_of_ble_eq_true rfl, Nat.le_of_ble_eq_true rfl⟩) hS (fun q _ h9 => aM_up hS q h9) (aM_up hS) (fun r_75 u t H1 locs ht _ hw hB _ hk1 hS => ?_)
                        obtain ⟨fv_78, wd_79, ar_80⟩ := u
                        obtain ⟨hF_fv_78, hA_ar_80, fr_81, fa_82, p_76, p_77, -⟩ := hw
                        have hP : va_P (dC, dI) vwCl (wsM h ad cA fv_78 wd_79 ar_80) H1 := by have h9 := hB.1; rw [ht] at h9; exact h9
                        have fr_81 : fM [] fv_65 fv_78 := fr_81
                        have fa_82 : fA [] ar_67 ar_80 := fa_82
                        have p_77 : r_75.toInt = 0 ∨ (fv_65 38).toInt ≤ 339 := p_77
                        generalize H1 = H at hP hS ⊢
                        refine va_calli (va_runS (As := [.int r_75]) (rest := []) ⟨hx, hb, hml, hown, hts⟩ (m_isLetter l H.size r_75) (va_cwS 1 hts (gS kw_8_64 kw_8_65 kw_1_15 kw_8_66) rfl rfl rfl (by decide +kernel) ⟨Nat.le_of_ble_eq_true rfl, Nat.le_of_ble_eq_true rfl⟩) ⟨fun a U g mk q => ⟨q.1, q.2⟩, fun U hU hW => ⟨rfl, congrArg Array.size hU⟩⟩ rfl rfl hl.1 rfl (lv_room (Nat.le_of_ble_eq_true rfl)) dX12_go_191 ⟨Nat.le_of_ble_eq_true rfl, Nat.le_of_ble_eq_true rfl⟩) hS (fun q _ h9 => nM_up hS q h9) (nM_up hS) (fun r_83 u t H1 locs ht _ hw hB _ hk1 hS => ?_)
                        obtain ⟨p_84, p_85, -⟩ := hw
                        have hP := my_keepM hP hk1
                        generalize H1 = H at hP hS ⊢
                        rcases p_85 with ⟨rfl, p_85⟩ | ⟨rfl, p_85⟩
                        · skip
                          refine lv_if_ne (tgt := 211) hx hb dX12_go_194 (by decide) (fun c_86 => ?_) (fun c_86 => ?_)
                          · skip
                            exact absurd c_86 (by decide)
                          · skip
                            refine lv_aload_n hx hb dX12_go_197 rfl (lv_at hl 0 rfl) ?_
                            refine lv_aload_n hx hb dX12_go_198 rfl (lv_at hl 0 rfl) ?_
                            refine gM_38 hx hb htg hown hK hP dX12_go_199 ?_
                            refine my_ti (y := fv_65 38) ((fr_81 38 rfl)) ?_
                            refine va_calli (va_runV (As := [.int (fv_65 38)]) (rest := []) ⟨hx, hb, hml, hown, hts⟩ (m_byteAt l dC dI H.size h ad cA hd fv_78 wd_79 ar_80 hF_fv_78 hA_ar_80 (fv_65 38) i_74) (cwV 1 hts (gV kw_8_73 kw_8_75 kw_p_65 kw_1_15 kw_8_76) rfl rfl rfl (by decide +kernel) ⟨Nat.le_of_ble_eq_true rfl, Nat.le_of_ble_eq_true rfl⟩) ⟨fun a U g mk q => ⟨q.1, q.2.1, q.2.2.1, va_K.moved (u := U) (U := U.calling g mk a) (Vm.Alike.refl U.vm) q.2.2.2⟩, va_recv hK hP (ci := 12) (q0 := 0) rfl rfl, fun U hU hW => ⟨rfl, by rw [hU], by rw [hU]; exact hP, va_K.moved hW.alike hK⟩⟩ rfl rfl hl.1 rfl (lv_room (Nat.le_of_ble_eq_true rfl)) dX12_go_202 ⟨Nat.le_of_ble_eq_true rfl, Nat.le_of_ble_eq_true rfl⟩) hS (fun q _ h9 => aM_up hS q h9) (aM_up hS) (fun r_128 u t H1 locs ht _ hw hB _ hk1 hS => ?_)
                            obtain ⟨fv_131, wd_132, ar_133⟩ := u
                            obtain ⟨hF_fv_131, hA_ar_133, fr_134, fa_135, p_129, p_130, -⟩ := hw
                            have hP : va_P (dC, dI) vwCl (wsM h ad cA fv_131 wd_132 ar_133) H1 := by have h9 := hB.1; rw [ht] at h9; exact h9
                            have fr_134 : fM [] fv_78 fv_131 := fr_134
                            have fa_135 : fA [] ar_80 ar_133 := fa_135
                            have p_130 : r_128.toInt = 0 ∨ (fv_65 38).toInt ≤ 339 := p_130
                            generalize H1 = H at hP hS ⊢
                            refine va_calli (va_runS (As := [.int r_128]) (rest := []) ⟨hx, hb, hml, hown, hts⟩ (m_isDigit l H.size r_128) (va_cwS 1 hts (gS kw_8_67 kw_8_68 kw_1_15 kw_8_69) rfl rfl rfl (by decide +kernel) ⟨Nat.le_of_ble_eq_true rfl, Nat.le_of_ble_eq_true rfl⟩) ⟨fun a U g mk q => ⟨q.1, q.2⟩, fun U hU hW => ⟨rfl, congrArg Array.size hU⟩⟩ rfl rfl hl.1 rfl (lv_room (Nat.le_of_ble_eq_true rfl)) dX12_go_205 ⟨Nat.le_of_ble_eq_true rfl, Nat.le_of_ble_eq_true rfl⟩) hS (fun q _ h9 => nM_up hS q h9) (nM_up hS) (fun r_136 u t H1 locs ht _ hw hB _ hk1 hS => ?_)
                            obtain ⟨p_137, p_138, -⟩ := hw
                            have hP := my_keepM hP hk1
                            generalize H1 = H at hP hS ⊢
                            rcases p_138 with ⟨rfl, p_138⟩ | ⟨rfl, p_138⟩
                            · skip
                              refine lv_if_eq (tgt := 318) hx hb dX12_go_208 (by decide) (fun c_139 => ?_) (fun c_139 => ?_)
                              · skip
                                refine lv_aload_n hx hb dX12_go_318 rfl (lv_at hl 0 rfl) ?_
                                refine lv_iload_n hx hb dX12_go_319 rfl (lv_at hl 2 rfl) ?_
                                refine lv_if_eq (tgt := 345) hx hb dX12_go_320 (by decide) (fun c_181 => ?_) (fun c_181 => ?_)
                                · skip
                                  have i_182 : 0 ≤ x_64.toInt ∧ x_64.toInt ≤ 0 := iv_eq1 (⟨by decide, by decide⟩ : (0 : Int) ≤ (0 : Int32).toInt ∧ (0 : Int32).toInt ≤ 0) c_181
                                  refine lv_iconst (v := 1) hx hb dX12_go_345 (by decide) ?_
                                  refine lv_goto (tgt := 358) hx hb dX12_go_346 (by decide) ?_
                                  refine pM_40 hx hb htg hown hK hP hS hd dX12_go_358 (fun H locs fv_183 efv_183 hP hS => ?_)
                                  have hF_fv_183 : rF fv_183 := rF_put hF_fv_131 efv_183 (iv_any _)
                                  exact W.vret hx hb hr (fun t ht hW => ⟨⟨(fv_183, wd_132, ar_133), rfl, ⟨hF_fv_183, hA_ar_133, (fM_put (fM_call (fM_call (fM_call (fM_put (fM_put (fM_call (fM_rf [38, 39, 40, 41, 42] _) fr_2 (by decide)) efv_28 (by decide)) efv_63 (by decide)) fr_66 (by decide)) fr_81 (by decide)) fr_134 (by decide)) efv_183 (by decide)), (fA_call (fA_call (fA_call (fA_rf [] _) fa_68 (by decide)) fa_82 (by decide)) fa_135 (by decide)), trivial⟩, ⟨by rw [ht]; exact hP, va_K.moved hW.alike hK⟩⟩, hS.F ht⟩) hS.2.2 dX12_go_361
                                · skip
                                  have i_184 : 1 ≤ x_64.toInt ∧ x_64.toInt ≤ 1 := iv_nel i_x_64 (by decide) c_181
                                  refine lv_aload_n hx hb dX12_go_323 rfl (lv_at hl 0 rfl) ?_
                                  refine gM_38 hx hb htg hown hK hP dX12_go_324 ?_
                                  refine my_ti (y := fv_65 38) ((fr_134 38 rfl).trans ((fr_81 38 rfl))) ?_
                                  refine lv_aload_n hx hb dX12_go_327 rfl (lv_at hl 0 rfl) ?_
                                  refine gM_39 hx hb htg hown hK hP dX12_go_328 ?_
                                  refine my_ti (y := fv_1 38) ((fr_134 39 rfl).trans ((fr_81 39 rfl).trans ((fr_66 39 rfl).trans ((congrFun efv_63 39).trans ((congrFun efv_28 39)))))) ?_
                                  refine lv_isub hx hb dX12_go_331 ?_
                                  refine lv_topi (fun v_185 ev_185 => ?_)
                                  have t_186 : v_185.toInt = (fv_65 38 : Int32).toInt - (fv_1 38).toInt ∧ (-299) ≤ v_185.toInt ∧ v_185.toInt ≤ 340 := iv_sub ev_185 i_74 i_32 (by decide) (by decide)
                                  refine lv_iload_n hx hb dX12_go_332 rfl (lv_at hl 1 rfl) ?_
                                  refine my_cut (P := fun R9 a9 Q9 => ∀ (x_191 : Int32) (H : Heap) (locs : List Loc) (ls : Array Slot), (4 ≤ x_191.toInt ∧ x_191.toInt ≤ 8) → va_P (dC, dI) vwCl (wsM h ad cA fv_131 wd_132 ar_133) H → va_S (aM h ad s.heap.size) s.heap H locs → lv_has ls 5 [(2, .int r_60)] → W p l e R9 s m a9 below meth c H locs 0 0 Q9 (F0 m 342 ls [.int x_191, .int v_185, .ref h])) ?_ (fun hj_192 => ?_)
                                  · intro x_191 H locs ls i_x_191 hP hS hl
                                    refine lv_icmp_le (tgt := 349) hx hb dX12_go_342 (by decide) (fun c_193 => ?_) (fun c_193 => ?_)
                                    · skip
                                      have i_194 : (-299) ≤ v_185.toInt ∧ v_185.toInt ≤ 8 := iv_le1 t_186.2 i_x_191 c_193
                                      refine lv_iload_n hx hb dX12_go_349 rfl (lv_at hl 0 rfl) ?_
                                      refine lv_if_eq (tgt := 357) hx hb dX12_go_350 (by decide) (fun c_195 => ?_) (fun c_195 => ?_)
                                      · skip
                                        have i_196 : 0 ≤ r_60.toInt ∧ r_60.toInt ≤ 0 := iv_eq1 (⟨by decide, by decide⟩ : (0 : Int) ≤ (0 : Int32).toInt ∧ (0 : Int32).toInt ≤ 0) c_195
                                        refine lv_iconst (v := 3) hx hb dX12_go_357 (by decide) ?_
                                        refine pM_40 hx hb htg hown hK hP hS hd dX12_go_358 (fun H locs fv_197 efv_197 hP hS => ?_)
                                        have hF_fv_197 : rF fv_197 := rF_put hF_fv_131 efv_197 (iv_any _)
                                        exact W.vret hx hb hr (fun t ht hW => ⟨⟨(fv_197, wd_132, ar_133), rfl, ⟨hF_fv_197, hA_ar_133, (fM_put (fM_call (fM_call (fM_call (fM_put (fM_put (fM_call (fM_rf [38, 39, 40, 41, 42] _) fr_2 (by decide)) efv_28 (by decide)) efv_63 (by decide)) fr_66 (by decide)) fr_81 (by decide)) fr_134 (by decide)) efv_197 (by decide)), (fA_call (fA_call (fA_call (fA_rf [] _) fa_68 (by decide)) fa_82 (by decide)) fa_135 (by decide)), trivial⟩, ⟨by rw [ht]; exact hP, va_K.moved hW.alike hK⟩⟩, hS.F ht⟩) hS.2.2 dX12_go_361
                                      · skip
                                        have i_198 : 1 ≤ r_60.toInt ∧ r_60.toInt ≤ 1 := iv_nel p_61 (by decide) c_195
                                        refine lv_iconst (v := 2) hx hb dX12_go_353 (by decide) ?_
                                        refine lv_goto (tgt := 358) hx hb dX12_go_354 (by decide) ?_
                                        refine pM_40 hx hb htg hown hK hP hS hd dX12_go_358 (fun H locs fv_199 efv_199 hP hS => ?_)
                                        have hF_fv_199 : rF fv_199 := rF_put hF_fv_131 efv_199 (iv_any _)
                                        exact W.vret hx hb hr (fun t ht hW => ⟨⟨(fv_199, wd_132, ar_133), rfl, ⟨hF_fv_199, hA_ar_133, (fM_put (fM_call (fM_call (fM_call (fM_put (fM_put (fM_call (fM_rf [38, 39, 40, 41, 42] _) fr_2 (by decide)) efv_28 (by decide)) efv_63 (by decide)) fr_66 (by decide)) fr_81 (by decide)) fr_134 (by decide)) efv_199 (by decide)), (fA_call (fA_call (fA_call (fA_rf [] _) fa_68 (by decide)) fa_82 (by decide)) fa_135 (by decide)), trivial⟩, ⟨by rw [ht]; exact hP, va_K.moved hW.alike hK⟩⟩, hS.F ht⟩) hS.2.2 dX12_go_361
                                    · skip
                                      have i_200 : 5 ≤ v_185.toInt ∧ v_185.toInt ≤ 340 := iv_lt2 i_x_191 t_186.2 (Int32.not_le.mp c_193)
                                      refine lv_iconst (v := 1) hx hb dX12_go_345 (by decide) ?_
                                      refine lv_goto (tgt := 358) hx hb dX12_go_346 (by decide) ?_
                                      refine pM_40 hx hb htg hown hK hP hS hd dX12_go_358 (fun H locs fv_201 efv_201 hP hS => ?_)
                                      have hF_fv_201 : rF fv_201 := rF_put hF_fv_131 efv_201 (iv_any _)
                                      exact W.vret hx hb hr (fun t ht hW => ⟨⟨(fv_201, wd_132, ar_133), rfl, ⟨hF_fv_201, hA_ar_133, (fM_put (fM_call (fM_call (fM_call (fM_put (fM_put (fM_call (fM_rf [38, 39, 40, 41, 42] _) fr_2 (by decide)) efv_28 (by decide)) efv_63 (by decide)) fr_66 (by decide)) fr_81 (by decide)) fr_134 (by decide)) efv_201 (by decide)), (fA_call (fA_call (fA_call (fA_rf [] _) fa_68 (by decide)) fa_82 (by decide)) fa_135 (by decide)), trivial⟩, ⟨by rw [ht]; exact hP, va_K.moved hW.alike hK⟩⟩, hS.F ht⟩) hS.2.2 dX12_go_361
                                  · skip
                                    refine lv_if_eq (tgt := 341) hx hb dX12_go_333 (by decide) (fun c_188 => ?_) (fun c_188 => ?_)
                                    · skip
                                      have i_189 : 0 ≤ r_60.toInt ∧ r_60.toInt ≤ 0 := iv_eq1 (⟨by decide, by decide⟩ : (0 : Int) ≤ (0 : Int32).toInt ∧ (0 : Int32).toInt ≤ 0) c_188
                                      refine lv_iconst (v := 4) hx hb dX12_go_341 (by decide) ?_
                                      exact hj_192 4 _ _ ls (iv_w (⟨by decide, by decide⟩ : (4 : Int) ≤ (4 : Int32).toInt ∧ (4 : Int32).toInt ≤ 4) (by decide) (by decide)) hP hS (lv_sub hl [1] rfl)
                                    · skip
                                      have i_190 : 1 ≤ r_60.toInt ∧ r_60.toInt ≤ 1 := iv_nel p_61 (by decide) c_188
                                      refine lv_bipush (v := 8) hx hb dX12_go_336 (by decide) ?_
                                      refine lv_goto (tgt := 342) hx hb dX12_go_338 (by decide) ?_
                                      exact hj_192 8 _ _ ls (iv_w (⟨by decide, by decide⟩ : (8 : Int) ≤ (8 : Int32).toInt ∧ (8 : Int32).toInt ≤ 8) (by decide) (by decide)) hP hS (lv_sub hl [1] rfl)
                              · skip
                                exact absurd c_139 (by decide)
                            · skip
                              have i_140 : 48 ≤ r_128.toInt ∧ r_128.toInt ≤ 255 := ⟨p_138.1, p_129.2⟩
                              have i_141 : 48 ≤ r_128.toInt ∧ r_128.toInt ≤ 57 := ⟨i_140.1, p_138.2⟩
                              refine lv_if_eq (tgt := 318) hx hb dX12_go_208 (by decide) (fun c_142 => ?_) (fun c_142 => ?_)
                              · skip
                                exact absurd c_142 (by decide)
                              · skip
                                have i_143 : 0 ≤ (fv_65 38).toInt ∧ (fv_65 38).toInt ≤ 339 := (by omega)
                                refine lv_aload_n hx hb dX12_go_211 rfl (lv_at hl 0 rfl) ?_
                                refine gM_1 hx hb htg hown hK hP dX12_go_212 ?_
                                refine lv_aload_n hx hb dX12_go_215 rfl (lv_at hl 0 rfl) ?_
                                refine gM_38 hx hb htg hown hK hP dX12_go_216 ?_
                                refine my_ti (y := fv_65 38) ((fr_134 38 rfl).trans ((fr_81 38 rfl))) ?_
                                refine lM_1 hx hb hK hP (iv_in i_143 (by decide) (by decide)) dX12_go_219 (fun v_144 ev_144 => ?_)
                                have i_145 : 0 ≤ v_144.toInt ∧ v_144.toInt ≤ 255 := ev_144 ▸ hA_ar_133 1 _
                                refine lv_istore (lv' := [(4, .int v_144), (0, .ref h), (2, .int r_60), (3, .int x_64)]) hx hb dX12_go_220 hl (by decide) rfl (fun ls hl => ?_)
                                refine lv_iload_n hx hb dX12_go_222 rfl (lv_at hl 3 rfl) ?_
                                refine my_cut (P := fun R9 a9 Q9 => ∀ (x_153 : Int32) (H : Heap) (locs : List Loc) (ls : Array Slot), (0 ≤ x_153.toInt ∧ x_153.toInt ≤ 1) → va_P (dC, dI) vwCl (wsM h ad cA fv_131 wd_132 ar_133) H → va_S (aM h ad s.heap.size) s.heap H locs → lv_has ls 5 [(0, .ref h), (2, .int r_60), (4, .int v_144)] → W p l e R9 s m a9 below meth c H locs 0 0 Q9 (F0 m 240 ls [.int x_153])) ?_ (fun hj_154 => ?_)
                                · intro x_153 H locs ls i_x_153 hP hS hl
                                  refine lv_istore_n (lv' := [(3, .int x_153), (0, .ref h), (2, .int r_60), (4, .int v_144)]) hx hb dX12_go_240 rfl hl (by decide) rfl (fun ls hl => ?_)
                                  refine lv_aload_n hx hb dX12_go_241 rfl (lv_at hl 1 rfl) ?_
                                  refine gM_38 hx hb htg hown hK hP dX12_go_242 ?_
                                  refine my_ti (y := fv_65 38) ((fr_134 38 rfl).trans ((fr_81 38 rfl))) ?_
                                  refine lv_aload_n hx hb dX12_go_245 rfl (lv_at hl 1 rfl) ?_
                                  refine gM_39 hx hb htg hown hK hP dX12_go_246 ?_
                                  refine my_ti (y := fv_1 38) ((fr_134 39 rfl).trans ((fr_81 39 rfl).trans ((fr_66 39 rfl).trans ((congrFun efv_63 39).trans ((congrFun efv_28 39)))))) ?_
                                  refine lv_isub hx hb dX12_go_249 ?_
                                  refine lv_topi (fun v_155 ev_155 => ?_)
                                  have t_156 : v_155.toInt = (fv_65 38 : Int32).toInt - (fv_1 38).toInt ∧ (-299) ≤ v_155.toInt ∧ v_155.toInt ≤ 339 := iv_sub ev_155 i_143 i_32 (by decide) (by decide)
                                  refine lv_bipush (v := 8) hx hb dX12_go_250 (by decide) ?_
                                  refine my_cut (P := fun R9 a9 Q9 => ∀ (wd_165 : Int64) (H : Heap) (locs : List Loc) (ls : Array Slot), va_P (dC, dI) vwCl (wsM h ad cA fv_131 wd_165 ar_133) H → va_S (aM h ad s.heap.size) s.heap H locs → lv_has ls 5 [(0, .ref h), (2, .int r_60), (3, .int x_153), (4, .int v_144)] → W p l e R9 s m a9 below meth c H locs 0 0 Q9 (F0 m 275 ls [])) ?_ (fun hj_166 => ?_)
                                  · intro wd_165 H locs ls  hP hS hl
                                    refine lv_aload_n hx hb dX12_go_275 rfl (lv_at hl 0 rfl) ?_
                                    refine gM_38 hx hb htg hown hK hP dX12_go_276 ?_
                                    refine my_ti (y := fv_65 38) ((fr_134 38 rfl).trans ((fr_81 38 rfl))) ?_
                                    refine lv_aload_n hx hb dX12_go_279 rfl (lv_at hl 0 rfl) ?_
                                    refine gM_39 hx hb htg hown hK hP dX12_go_280 ?_
                                    refine my_ti (y := fv_1 38) ((fr_134 39 rfl).trans ((fr_81 39 rfl).trans ((fr_66 39 rfl).trans ((congrFun efv_63 39).trans ((congrFun efv_28 39)))))) ?_
                                    refine lv_isub hx hb dX12_go_283 ?_
                                    refine my_ti (y := v_155) ev_155.symm ?_
                                    refine lv_iconst (v := 4) hx hb dX12_go_284 (by decide) ?_
                                    refine my_cut (P := fun R9 a9 Q9 => ∀ (fv_174 : Nat → Int32) (H : Heap) (locs : List Loc) (ls : Array Slot), rF fv_174 → fM [41] fv_131 fv_174 → va_P (dC, dI) vwCl (wsM h ad cA fv_174 wd_165 ar_133) H → va_S (aM h ad s.heap.size) s.heap H locs → lv_has ls 5 [(0, .ref h), (2, .int r_60), (3, .int x_153)] → W p l e R9 s m a9 below meth c H locs 0 0 Q9 (F0 m 305 ls [])) ?_ (fun hj_176 => ?_)
                                    · intro fv_174 H locs ls hF_fv_174 fr_175 hP hS hl
                                      refine lv_aload_n hx hb dX12_go_305 rfl (lv_at hl 0 rfl) ?_
                                      refine lv_dup hx hb dX12_go_306 rfl ?_
                                      refine gM_38 hx hb htg hown hK hP dX12_go_307 ?_
                                      refine my_ti (y := fv_65 38) ((fr_175 38 rfl).trans ((fr_134 38 rfl).trans ((fr_81 38 rfl)))) ?_
                                      refine lv_iconst (v := 1) hx hb dX12_go_310 (by decide) ?_
                                      refine lv_iadd hx hb dX12_go_311 ?_
                                      refine lv_topi (fun v_177 ev_177 => ?_)
                                      have t_178 : v_177.toInt = (fv_65 38).toInt + 1 ∧ 1 ≤ v_177.toInt ∧ v_177.toInt ≤ 340 := iv_addc ev_177 i_143 (by decide) (by decide) (by decide)
                                      refine pM_38 hx hb htg hown hK hP hS hd dX12_go_312 (fun H locs fv_180 efv_180 hP hS => ?_)
                                      have hF_fv_180 : rF fv_180 := rF_put hF_fv_174 efv_180 (iv_w t_178.2 (by decide) (by decide))
                                      refine lv_goto (tgt := 183) hx hb dX12_go_315 (by decide) ?_
                                      have z_204 : (fv_180 38).toInt = v_177.toInt := congrArg Int32.toInt ((congrFun efv_180 38))
                                      have z_205 : 0 ≤ (fv_180 38).toInt ∧ (fv_180 38).toInt ≤ 340 := hF_fv_180 38
                                      exact ih_71 x_153 fv_180 ar_133 wd_165 _ _ ls (by omega) i_x_153 hF_fv_180 (fM_put (fM_call (fM_call (fM_call (fM_call (fM_rf [38, 41] _) fr_66 (by decide)) fr_81 (by decide)) fr_134 (by decide)) fr_175 (by decide)) efv_180 (by decide)) hA_ar_133 (fA_call (fA_call (fA_call (fA_rf [] _) fa_68 (by decide)) fa_82 (by decide)) fa_135 (by decide)) (by omega) hP hS (lv_sub hl [0, 1, 2] rfl)
                                    · skip
                                      refine lv_icmp_ge (tgt := 305) hx hb dX12_go_285 (by decide) (fun c_167 => ?_) (fun c_167 => ?_)
                                      · skip
                                        have i_168 : 4 ≤ v_155.toInt ∧ v_155.toInt ≤ 339 := iv_le2 (⟨by decide, by decide⟩ : (4 : Int) ≤ (4 : Int32).toInt ∧ (4 : Int32).toInt ≤ 4) t_156.2 c_167
                                        exact hj_176 fv_131 _ _ ls hF_fv_131 (fM_rf [41] _) hP hS (lv_sub hl [0, 1, 2] rfl)
                                      · skip
                                        have i_169 : (-299) ≤ v_155.toInt ∧ v_155.toInt ≤ 3 := iv_lt1 t_156.2 (⟨by decide, by decide⟩ : (4 : Int) ≤ (4 : Int32).toInt ∧ (4 : Int32).toInt ≤ 4) (Int32.not_le.mp c_167)
                                        refine lv_aload_n hx hb dX12_go_288 rfl (lv_at hl 0 rfl) ?_
                                        refine lv_bipush (v := 10) hx hb dX12_go_289 (by decide) ?_
                                        refine lv_aload_n hx hb dX12_go_291 rfl (lv_at hl 0 rfl) ?_
                                        refine gM_41 hx hb htg hown hK hP dX12_go_292 ?_
                                        refine my_ti (y := fv_65 41) ((fr_134 41 rfl).trans ((fr_81 41 rfl))) ?_
                                        refine lv_imul hx hb dX12_go_295 ?_
                                        refine lv_topi (fun v_170 ev_170 => ?_)
                                        refine lv_iload hx hb dX12_go_296 (lv_at hl 3 rfl) ?_
                                        refine lv_iadd hx hb dX12_go_298 ?_
                                        refine lv_topi (fun v_171 ev_171 => ?_)
                                        refine lv_bipush (v := 48) hx hb dX12_go_299 (by decide) ?_
                                        refine lv_isub hx hb dX12_go_301 ?_
                                        refine lv_topi (fun v_172 ev_172 => ?_)
                                        refine pM_41 hx hb htg hown hK hP hS hd dX12_go_302 (fun H locs fv_173 efv_173 hP hS => ?_)
                                        have hF_fv_173 : rF fv_173 := rF_put hF_fv_131 efv_173 (iv_any v_172)
                                        exact hj_176 fv_173 _ _ ls hF_fv_173 (fM_put (fM_rf [41] _) efv_173 (by decide)) hP hS (lv_sub hl [0, 1, 2] rfl)
                                  · skip
                                    refine lv_icmp_ge (tgt := 275) hx hb dX12_go_252 (by decide) (fun c_158 => ?_) (fun c_158 => ?_)
                                    · skip
                                      have i_159 : 8 ≤ v_155.toInt ∧ v_155.toInt ≤ 339 := iv_le2 (⟨by decide, by decide⟩ : (8 : Int) ≤ (8 : Int32).toInt ∧ (8 : Int32).toInt ≤ 8) t_156.2 c_158
                                      exact hj_166 wd_132 _ _ ls  hP hS (lv_sub hl [1, 2, 0, 3] rfl)
                                    · skip
                                      have i_160 : (-299) ≤ v_155.toInt ∧ v_155.toInt ≤ 7 := iv_lt1 t_156.2 (⟨by decide, by decide⟩ : (8 : Int) ≤ (8 : Int32).toInt ∧ (8 : Int32).toInt ≤ 8) (Int32.not_le.mp c_158)
                                      refine lv_aload_n hx hb dX12_go_255 rfl (lv_at hl 1 rfl) ?_
                                      refine lv_ldc2 (v := 27) hx hb hown (htg (.constantLong RX12 313 27) kw_8_77) dX12_go_256 ?_
                                      refine lv_aload_n hx hb dX12_go_259 rfl (lv_at hl 1 rfl) ?_
                                      refine gM_46 hx hb htg hown hK hP dX12_go_260 ?_
                                      refine lv_lmul hx hb dX12_go_263 ?_
                                      refine lv_topl (fun w_161 _ => ?_)
                                      refine lv_iload hx hb dX12_go_264 (lv_at hl 3 rfl) ?_
                                      refine lv_i2l hx hb dX12_go_266 rfl ?_
                                      refine lv_topl (fun w_162 _ => ?_)
                                      refine lv_ladd hx hb dX12_go_267 ?_
                                      refine lv_topl (fun w_163 _ => ?_)
                                      refine lv_ldc2 (v := 96) hx hb hown (htg (.constantLong RX12 315 96) kw_8_78) dX12_go_268 ?_
                                      refine lv_lsub hx hb dX12_go_271 ?_
                                      refine lv_topl (fun w_164 _ => ?_)
                                      refine pM_46 hx hb htg hown hK hP hS hd dX12_go_272 (fun H locs hP hS => ?_)
                                      exact hj_166 w_164 _ _ ls  hP hS (lv_sub hl [1, 2, 0, 3] rfl)
                                · skip
                                  refine lv_if_eq (tgt := 239) hx hb dX12_go_223 (by decide) (fun c_146 => ?_) (fun c_146 => ?_)
                                  · skip
                                    have i_147 : 0 ≤ x_64.toInt ∧ x_64.toInt ≤ 0 := iv_eq1 (⟨by decide, by decide⟩ : (0 : Int) ≤ (0 : Int32).toInt ∧ (0 : Int32).toInt ≤ 0) c_146
                                    refine lv_iconst (v := 0) hx hb dX12_go_239 (by decide) ?_
                                    exact hj_154 0 _ _ ls (iv_w (⟨by decide, by decide⟩ : (0 : Int) ≤ (0 : Int32).toInt ∧ (0 : Int32).toInt ≤ 0) (by decide) (by decide)) hP hS (lv_sub hl [1, 2, 0] rfl)
                                  · skip
                                    have i_148 : 1 ≤ x_64.toInt ∧ x_64.toInt ≤ 1 := iv_nel i_x_64 (by decide) c_146
                                    refine lv_iload hx hb dX12_go_226 (lv_at hl 0 rfl) ?_
                                    refine va_calli (va_runS (As := [.int v_144]) (rest := []) ⟨hx, hb, hml, hown, hts⟩ (m_isLetter l H.size v_144) (va_cwS 1 hts (gS kw_8_64 kw_8_65 kw_1_15 kw_8_66) rfl rfl rfl (by decide +kernel) ⟨Nat.le_of_ble_eq_true rfl, Nat.le_of_ble_eq_true rfl⟩) ⟨fun a U g mk q => ⟨q.1, q.2⟩, fun U hU hW => ⟨rfl, congrArg Array.size hU⟩⟩ rfl rfl hl.1 rfl (lv_room (Nat.le_of_ble_eq_true rfl)) dX12_go_228 ⟨Nat.le_of_ble_eq_true rfl, Nat.le_of_ble_eq_true rfl⟩) hS (fun q _ h9 => nM_up hS q h9) (nM_up hS) (fun r_149 u t H1 locs ht _ hw hB _ hk1 hS => ?_)
                                    obtain ⟨p_150, p_151, -⟩ := hw
                                    have hP := my_keepM hP hk1
                                    generalize H1 = H at hP hS ⊢
                                    refine lv_iload_n hx hb dX12_go_231 rfl (lv_at hl 2 rfl) ?_
                                    refine lv_icmp_ne (tgt := 239) hx hb dX12_go_232 (by decide) (fun c_152 => ?_) (fun c_152 => ?_)
                                    · skip
                                      refine lv_iconst (v := 0) hx hb dX12_go_239 (by decide) ?_
                                      exact hj_154 0 _ _ ls (iv_w (⟨by decide, by decide⟩ : (0 : Int) ≤ (0 : Int32).toInt ∧ (0 : Int32).toInt ≤ 0) (by decide) (by decide)) hP hS (lv_sub hl [1, 2, 0] rfl)
                                    · skip
                                      refine lv_iconst (v := 1) hx hb dX12_go_235 (by decide) ?_
                                      refine lv_goto (tgt := 240) hx hb dX12_go_236 (by decide) ?_
                                      exact hj_154 1 _ _ ls (iv_w (⟨by decide, by decide⟩ : (1 : Int) ≤ (1 : Int32).toInt ∧ (1 : Int32).toInt ≤ 1) (by decide) (by decide)) hP hS (lv_sub hl [1, 2, 0] rfl)
                        · skip
                          have i_87 : 97 ≤ r_75.toInt ∧ r_75.toInt ≤ 255 := ⟨p_85.1, p_76.2⟩
                          have i_88 : 97 ≤ r_75.toInt ∧ r_75.toInt ≤ 122 := ⟨i_87.1, p_85.2⟩
                          refine lv_if_ne (tgt := 211) hx hb dX12_go_194 (by decide) (fun c_89 => ?_) (fun c_89 => ?_)
                          · skip
                            have i_90 : 0 ≤ (fv_65 38).toInt ∧ (fv_65 38).toInt ≤ 339 := (by omega)
                            refine lv_aload_n hx hb dX12_go_211 rfl (lv_at hl 0 rfl) ?_
                            refine gM_1 hx hb htg hown hK hP dX12_go_212 ?_
                            refine lv_aload_n hx hb dX12_go_215 rfl (lv_at hl 0 rfl) ?_
                            refine gM_38 hx hb htg hown hK hP dX12_go_216 ?_
                            refine my_ti (y := fv_65 38) ((fr_81 38 rfl)) ?_
                            refine lM_1 hx hb hK hP (iv_in i_90 (by decide) (by decide)) dX12_go_219 (fun v_91 ev_91 => ?_)
                            have i_92 : 0 ≤ v_91.toInt ∧ v_91.toInt ≤ 255 := ev_91 ▸ hA_ar_80 1 _
                            refine lv_istore (lv' := [(4, .int v_91), (0, .ref h), (2, .int r_60), (3, .int x_64)]) hx hb dX12_go_220 hl (by decide) rfl (fun ls hl => ?_)
                            refine lv_iload_n hx hb dX12_go_222 rfl (lv_at hl 3 rfl) ?_
                            refine my_cut (P := fun R9 a9 Q9 => ∀ (x_100 : Int32) (H : Heap) (locs : List Loc) (ls : Array Slot), (0 ≤ x_100.toInt ∧ x_100.toInt ≤ 1) → va_P (dC, dI) vwCl (wsM h ad cA fv_78 wd_79 ar_80) H → va_S (aM h ad s.heap.size) s.heap H locs → lv_has ls 5 [(0, .ref h), (2, .int r_60), (4, .int v_91)] → W p l e R9 s m a9 below meth c H locs 0 0 Q9 (F0 m 240 ls [.int x_100])) ?_ (fun hj_101 => ?_)
                            · intro x_100 H locs ls i_x_100 hP hS hl
                              refine lv_istore_n (lv' := [(3, .int x_100), (0, .ref h), (2, .int r_60), (4, .int v_91)]) hx hb dX12_go_240 rfl hl (by decide) rfl (fun ls hl => ?_)
                              refine lv_aload_n hx hb dX12_go_241 rfl (lv_at hl 1 rfl) ?_
                              refine gM_38 hx hb htg hown hK hP dX12_go_242 ?_
                              refine my_ti (y := fv_65 38) ((fr_81 38 rfl)) ?_
                              refine lv_aload_n hx hb dX12_go_245 rfl (lv_at hl 1 rfl) ?_
                              refine gM_39 hx hb htg hown hK hP dX12_go_246 ?_
                              refine my_ti (y := fv_1 38) ((fr_81 39 rfl).trans ((fr_66 39 rfl).trans ((congrFun efv_63 39).trans ((congrFun efv_28 39))))) ?_
                              refine lv_isub hx hb dX12_go_249 ?_
                              refine lv_topi (fun v_102 ev_102 => ?_)
                              have t_103 : v_102.toInt = (fv_65 38 : Int32).toInt - (fv_1 38).toInt ∧ (-299) ≤ v_102.toInt ∧ v_102.toInt ≤ 339 := iv_sub ev_102 i_90 i_32 (by decide) (by decide)
                              refine lv_bipush (v := 8) hx hb dX12_go_250 (by decide) ?_
                              refine my_cut (P := fun R9 a9 Q9 => ∀ (wd_112 : Int64) (H : Heap) (locs : List Loc) (ls : Array Slot), va_P (dC, dI) vwCl (wsM h ad cA fv_78 wd_112 ar_80) H → va_S (aM h ad s.heap.size) s.heap H locs → lv_has ls 5 [(0, .ref h), (2, .int r_60), (3, .int x_100), (4, .int v_91)] → W p l e R9 s m a9 below meth c H locs 0 0 Q9 (F0 m 275 ls [])) ?_ (fun hj_113 => ?_)
                              · intro wd_112 H locs ls  hP hS hl
                                refine lv_aload_n hx hb dX12_go_275 rfl (lv_at hl 0 rfl) ?_
                                refine gM_38 hx hb htg hown hK hP dX12_go_276 ?_
                                refine my_ti (y := fv_65 38) ((fr_81 38 rfl)) ?_
                                refine lv_aload_n hx hb dX12_go_279 rfl (lv_at hl 0 rfl) ?_
                                refine gM_39 hx hb htg hown hK hP dX12_go_280 ?_
                                refine my_ti (y := fv_1 38) ((fr_81 39 rfl).trans ((fr_66 39 rfl).trans ((congrFun efv_63 39).trans ((congrFun efv_28 39))))) ?_
                                refine lv_isub hx hb dX12_go_283 ?_
                                refine my_ti (y := v_102) ev_102.symm ?_
                                refine lv_iconst (v := 4) hx hb dX12_go_284 (by decide) ?_
                                refine my_cut (P := fun R9 a9 Q9 => ∀ (fv_121 : Nat → Int32) (H : Heap) (locs : List Loc) (ls : Array Slot), rF fv_121 → fM [41] fv_78 fv_121 → va_P (dC, dI) vwCl (wsM h ad cA fv_121 wd_112 ar_80) H → va_S (aM h ad s.heap.size) s.heap H locs → lv_has ls 5 [(0, .ref h), (2, .int r_60), (3, .int x_100)] → W p l e R9 s m a9 below meth c H locs 0 0 Q9 (F0 m 305 ls [])) ?_ (fun hj_123 => ?_)
                                · intro fv_121 H locs ls hF_fv_121 fr_122 hP hS hl
                                  refine lv_aload_n hx hb dX12_go_305 rfl (lv_at hl 0 rfl) ?_
                                  refine lv_dup hx hb dX12_go_306 rfl ?_
                                  refine gM_38 hx hb htg hown hK hP dX12_go_307 ?_
                                  refine my_ti (y := fv_65 38) ((fr_122 38 rfl).trans ((fr_81 38 rfl))) ?_
                                  refine lv_iconst (v := 1) hx hb dX12_go_310 (by decide) ?_
                                  refine lv_iadd hx hb dX12_go_311 ?_
                                  refine lv_topi (fun v_124 ev_124 => ?_)
                                  have t_125 : v_124.toInt = (fv_65 38).toInt + 1 ∧ 1 ≤ v_124.toInt ∧ v_124.toInt ≤ 340 := iv_addc ev_124 i_90 (by decide) (by decide) (by decide)
                                  refine pM_38 hx hb htg hown hK hP hS hd dX12_go_312 (fun H locs fv_127 efv_127 hP hS => ?_)
                                  have hF_fv_127 : rF fv_127 := rF_put hF_fv_121 efv_127 (iv_w t_125.2 (by decide) (by decide))
                                  refine lv_goto (tgt := 183) hx hb dX12_go_315 (by decide) ?_
                                  have z_202 : (fv_127 38).toInt = v_124.toInt := congrArg Int32.toInt ((congrFun efv_127 38))
                                  have z_203 : 0 ≤ (fv_127 38).toInt ∧ (fv_127 38).toInt ≤ 340 := hF_fv_127 38
                                  exact ih_71 x_100 fv_127 ar_80 wd_112 _ _ ls (by omega) i_x_100 hF_fv_127 (fM_put (fM_call (fM_call (fM_call (fM_rf [38, 41] _) fr_66 (by decide)) fr_81 (by decide)) fr_122 (by decide)) efv_127 (by decide)) hA_ar_80 (fA_call (fA_call (fA_rf [] _) fa_68 (by decide)) fa_82 (by decide)) (by omega) hP hS (lv_sub hl [0, 1, 2] rfl)
                                · skip
                                  refine lv_icmp_ge (tgt := 305) hx hb dX12_go_285 (by decide) (fun c_114 => ?_) (fun c_114 => ?_)
                                  · skip
                                    have i_115 : 4 ≤ v_102.toInt ∧ v_102.toInt ≤ 339 := iv_le2 (⟨by decide, by decide⟩ : (4 : Int) ≤ (4 : Int32).toInt ∧ (4 : Int32).toInt ≤ 4) t_103.2 c_114
                                    exact hj_123 fv_78 _ _ ls hF_fv_78 (fM_rf [41] _) hP hS (lv_sub hl [0, 1, 2] rfl)
                                  · skip
                                    have i_116 : (-299) ≤ v_102.toInt ∧ v_102.toInt ≤ 3 := iv_lt1 t_103.2 (⟨by decide, by decide⟩ : (4 : Int) ≤ (4 : Int32).toInt ∧ (4 : Int32).toInt ≤ 4) (Int32.not_le.mp c_114)
                                    refine lv_aload_n hx hb dX12_go_288 rfl (lv_at hl 0 rfl) ?_
                                    refine lv_bipush (v := 10) hx hb dX12_go_289 (by decide) ?_
                                    refine lv_aload_n hx hb dX12_go_291 rfl (lv_at hl 0 rfl) ?_
                                    refine gM_41 hx hb htg hown hK hP dX12_go_292 ?_
                                    refine my_ti (y := fv_65 41) ((fr_81 41 rfl)) ?_
                                    refine lv_imul hx hb dX12_go_295 ?_
                                    refine lv_topi (fun v_117 ev_117 => ?_)
                                    refine lv_iload hx hb dX12_go_296 (lv_at hl 3 rfl) ?_
                                    refine lv_iadd hx hb dX12_go_298 ?_
                                    refine lv_topi (fun v_118 ev_118 => ?_)
                                    refine lv_bipush (v := 48) hx hb dX12_go_299 (by decide) ?_
                                    refine lv_isub hx hb dX12_go_301 ?_
                                    refine lv_topi (fun v_119 ev_119 => ?_)
                                    refine pM_41 hx hb htg hown hK hP hS hd dX12_go_302 (fun H locs fv_120 efv_120 hP hS => ?_)
                                    have hF_fv_120 : rF fv_120 := rF_put hF_fv_78 efv_120 (iv_any v_119)
                                    exact hj_123 fv_120 _ _ ls hF_fv_120 (fM_put (fM_rf [41] _) efv_120 (by decide)) hP hS (lv_sub hl [0, 1, 2] rfl)
                              · skip
                                refine lv_icmp_ge (tgt := 275) hx hb dX12_go_252 (by decide) (fun c_105 => ?_) (fun c_105 => ?_)
                                · skip
                                  have i_106 : 8 ≤ v_102.toInt ∧ v_102.toInt ≤ 339 := iv_le2 (⟨by decide, by decide⟩ : (8 : Int) ≤ (8 : Int32).toInt ∧ (8 : Int32).toInt ≤ 8) t_103.2 c_105
                                  exact hj_113 wd_79 _ _ ls  hP hS (lv_sub hl [1, 2, 0, 3] rfl)
                                · skip
                                  have i_107 : (-299) ≤ v_102.toInt ∧ v_102.toInt ≤ 7 := iv_lt1 t_103.2 (⟨by decide, by decide⟩ : (8 : Int) ≤ (8 : Int32).toInt ∧ (8 : Int32).toInt ≤ 8) (Int32.not_le.mp c_105)
                                  refine lv_aload_n hx hb dX12_go_255 rfl (lv_at hl 1 rfl) ?_
                                  refine lv_ldc2 (v := 27) hx hb hown (htg (.constantLong RX12 313 27) kw_8_77) dX12_go_256 ?_
                                  refine lv_aload_n hx hb dX12_go_259 rfl (lv_at hl 1 rfl) ?_
                                  refine gM_46 hx hb htg hown hK hP dX12_go_260 ?_
                                  refine lv_lmul hx hb dX12_go_263 ?_
                                  refine lv_topl (fun w_108 _ => ?_)
                                  refine lv_iload hx hb dX12_go_264 (lv_at hl 3 rfl) ?_
                                  refine lv_i2l hx hb dX12_go_266 rfl ?_
                                  refine lv_topl (fun w_109 _ => ?_)
                                  refine lv_ladd hx hb dX12_go_267 ?_
                                  refine lv_topl (fun w_110 _ => ?_)
                                  refine lv_ldc2 (v := 96) hx hb hown (htg (.constantLong RX12 315 96) kw_8_78) dX12_go_268 ?_
                                  refine lv_lsub hx hb dX12_go_271 ?_
                                  refine lv_topl (fun w_111 _ => ?_)
                                  refine pM_46 hx hb htg hown hK hP hS hd dX12_go_272 (fun H locs hP hS => ?_)
                                  exact hj_113 w_111 _ _ ls  hP hS (lv_sub hl [1, 2, 0, 3] rfl)
                            · skip
                              refine lv_if_eq (tgt := 239) hx hb dX12_go_223 (by decide) (fun c_93 => ?_) (fun c_93 => ?_)
                              · skip
                                have i_94 : 0 ≤ x_64.toInt ∧ x_64.toInt ≤ 0 := iv_eq1 (⟨by decide, by decide⟩ : (0 : Int) ≤ (0 : Int32).toInt ∧ (0 : Int32).toInt ≤ 0) c_93
                                refine lv_iconst (v := 0) hx hb dX12_go_239 (by decide) ?_
                                exact hj_101 0 _ _ ls (iv_w (⟨by decide, by decide⟩ : (0 : Int) ≤ (0 : Int32).toInt ∧ (0 : Int32).toInt ≤ 0) (by decide) (by decide)) hP hS (lv_sub hl [1, 2, 0] rfl)
                              · skip
                                have i_95 : 1 ≤ x_64.toInt ∧ x_64.toInt ≤ 1 := iv_nel i_x_64 (by decide) c_93
                                refine lv_iload hx hb dX12_go_226 (lv_at hl 0 rfl) ?_
                                refine va_calli (va_runS (As := [.int v_91]) (rest := []) ⟨hx, hb, hml, hown, hts⟩ (m_isLetter l H.size v_91) (va_cwS 1 hts (gS kw_8_64 kw_8_65 kw_1_15 kw_8_66) rfl rfl rfl (by decide +kernel) ⟨Nat.le_of_ble_eq_true rfl, Nat.le_of_ble_eq_true rfl⟩) ⟨fun a U g mk q => ⟨q.1, q.2⟩, fun U hU hW => ⟨rfl, congrArg Array.size hU⟩⟩ rfl rfl hl.1 rfl (lv_room (Nat.le_of_ble_eq_true rfl)) dX12_go_228 ⟨Nat.le_of_ble_eq_true rfl, Nat.le_of_ble_eq_true rfl⟩) hS (fun q _ h9 => nM_up hS q h9) (nM_up hS) (fun r_96 u t H1 locs ht _ hw hB _ hk1 hS => ?_)
                                obtain ⟨p_97, p_98, -⟩ := hw
                                have hP := my_keepM hP hk1
                                generalize H1 = H at hP hS ⊢
                                refine lv_iload_n hx hb dX12_go_231 rfl (lv_at hl 2 rfl) ?_
                                refine lv_icmp_ne (tgt := 239) hx hb dX12_go_232 (by decide) (fun c_99 => ?_) (fun c_99 => ?_)
                                · skip
                                  refine lv_iconst (v := 0) hx hb dX12_go_239 (by decide) ?_
                                  exact hj_101 0 _ _ ls (iv_w (⟨by decide, by decide⟩ : (0 : Int) ≤ (0 : Int32).toInt ∧ (0 : Int32).toInt ≤ 0) (by decide) (by decide)) hP hS (lv_sub hl [1, 2, 0] rfl)
                                · skip
                                  refine lv_iconst (v := 1) hx hb dX12_go_235 (by decide) ?_
                                  refine lv_goto (tgt := 240) hx hb dX12_go_236 (by decide) ?_
                                  exact hj_101 1 _ _ ls (iv_w (⟨by decide, by decide⟩ : (1 : Int) ≤ (1 : Int32).toInt ∧ (1 : Int32).toInt ≤ 1) (by decide) (by decide)) hP hS (lv_sub hl [1, 2, 0] rfl)
                          · skip
                            exact absurd c_89 (by decide)
                    · skip
                      have z_206 : (0 : Int32).toInt = 0 := by decide
                      have z_207 : (1 : Int32).toInt = 1 := by decide
                      have z_208 : (fv_63 38).toInt = (fv_1 38).toInt := congrArg Int32.toInt ((congrFun efv_63 38).trans ((congrFun efv_28 38)))
                      have z_209 : 0 ≤ (fv_63 38).toInt ∧ (fv_63 38).toInt ≤ 340 := hF_fv_63 38
                      exact hj_73 341 1 fv_63 ar 0 _ _ ls (by first | decide | omega) (iv_w (⟨by decide, by decide⟩ : (1 : Int) ≤ (1 : Int32).toInt ∧ (1 : Int32).toInt ≤ 1) (by decide) (by decide)) hF_fv_63 (fM_rf [38, 41] _) hA_ar (fA_rf [] _) (by omega) hP hS (lv_sub hl [3, 1, 0] rfl)
                  · skip
                    exact absurd c_59 (by decide)
            · skip
              have i_210 : 97 ≤ v_34.toInt ∧ v_34.toInt ≤ 255 := ⟨p_38.1, i_35.2⟩
              have i_211 : 97 ≤ v_34.toInt ∧ v_34.toInt ≤ 122 := ⟨i_210.1, p_38.2⟩
              refine lv_if_ne (tgt := 166) hx hb dX12_go_124 (by decide) (fun c_212 => ?_) (fun c_212 => ?_)
              · skip
                refine lv_iload_n hx hb dX12_go_166 rfl (lv_at hl 0 rfl) ?_
                refine va_calli (va_runS (As := [.int v_34]) (rest := []) ⟨hx, hb, hml, hown, hts⟩ (m_isLetter l H.size v_34) (va_cwS 1 hts (gS kw_8_64 kw_8_65 kw_1_15 kw_8_66) rfl rfl rfl (by decide +kernel) ⟨Nat.le_of_ble_eq_true rfl, Nat.le_of_ble_eq_true rfl⟩) ⟨fun a U g mk q => ⟨q.1, q.2⟩, fun U hU hW => ⟨rfl, congrArg Array.size hU⟩⟩ rfl rfl hl.1 rfl (lv_room (Nat.le_of_ble_eq_true rfl)) dX12_go_167 ⟨Nat.le_of_ble_eq_true rfl, Nat.le_of_ble_eq_true rfl⟩) hS (fun q _ h9 => nM_up hS q h9) (nM_up hS) (fun r_213 u t H1 locs ht _ hw hB _ hk1 hS => ?_)
                obtain ⟨p_214, p_215, -⟩ := hw
                have hP := my_keepM hP hk1
                generalize H1 = H at hP hS ⊢
                refine lv_istore_n (lv' := [(2, .int r_213), (1, .int v_34), (0, .ref h)]) hx hb dX12_go_170 rfl hl (by decide) rfl (fun ls hl => ?_)
                refine lv_iconst (v := 1) hx hb dX12_go_171 (by decide) ?_
                refine lv_istore_n (lv' := [(3, .int 1), (2, .int r_213), (1, .int v_34), (0, .ref h)]) hx hb dX12_go_172 rfl hl (by decide) rfl (fun ls hl => ?_)
                refine lv_aload_n hx hb dX12_go_173 rfl (lv_at hl 3 rfl) ?_
                refine lv_lconst (v := 0) hx hb dX12_go_174 (by decide) ?_
                refine pM_46 hx hb htg hown hK hP hS hd dX12_go_175 (fun H locs hP hS => ?_)
                refine lv_aload_n hx hb dX12_go_178 rfl (lv_at hl 3 rfl) ?_
                refine lv_iconst (v := 0) hx hb dX12_go_179 (by decide) ?_
                refine pM_41 hx hb htg hown hK hP hS hd dX12_go_180 (fun H locs fv_216 efv_216 hP hS => ?_)
                have hF_fv_216 : rF fv_216 := rF_put hF_fv_28 efv_216 (iv_any _)
                refine my_cut (P := fun R9 a9 Q9 => ∀ (n_224 : Nat) (x_217 : Int32) (fv_218 : Nat → Int32) (ar_220 : Nat → Nat → Int32) (wd_222 : Int64) (H : Heap) (locs : List Loc) (ls : Array Slot), 340 - (fv_218 38).toInt < (n_224 : Int) → (0 ≤ x_217.toInt ∧ x_217.toInt ≤ 1) → rF fv_218 → fM [38, 41] fv_216 fv_218 → rA ar_220 → fA [] ar ar_220 → (0 ≤ (fv_218 38).toInt ∧ (fv_218 38).toInt ≤ 340) → va_P (dC, dI) vwCl (wsM h ad cA fv_218 wd_222 ar_220) H → va_S (aM h ad s.heap.size) s.heap H locs → lv_has ls 5 [(0, .ref h), (2, .int r_213), (3, .int x_217)] → W p l e R9 s m a9 below meth c H locs 0 0 Q9 (F0 m 183 ls [])) ?_ (fun hj_226 => ?_)
                · intro n_224
                  induction n_224 with
                  | zero => intro x_217 fv_218 ar_220 wd_222 H locs ls fu_225 i_x_217 hF_fv_218 fr_219 hA_ar_220 fa_221 q_223; exfalso; omega
                  | succ n_224 ih_224 =>
                    intro x_217 fv_218 ar_220 wd_222 H locs ls fu_225 i_x_217 hF_fv_218 fr_219 hA_ar_220 fa_221 q_223 hP hS hl
                    refine lv_aload_n hx hb dX12_go_183 rfl (lv_at hl 0 rfl) ?_
                    refine lv_aload_n hx hb dX12_go_184 rfl (lv_at hl 0 rfl) ?_
                    refine gM_38 hx hb htg hown hK hP dX12_go_185 ?_
                    have i_227 : 0 ≤ (fv_218 38).toInt ∧ (fv_218 38).toInt ≤ 340 := hF_fv_218 38
                    refine va_calli (va_runV (As := [.int (fv_218 38)]) (rest := []) ⟨hx, hb, hml, hown, hts⟩ (m_byteAt l dC dI H.size h ad cA hd fv_218 wd_222 ar_220 hF_fv_218 hA_ar_220 (fv_218 38) i_227) (cwV 1 hts (gV kw_8_73 kw_8_75 kw_p_65 kw_1_15 kw_8_76) rfl rfl rfl (by decide +kernel) ⟨Nat.le_of_ble_eq_true rfl, Nat.le_of_ble_eq_true rfl⟩) ⟨fun a U g mk q => ⟨q.1, q.2.1, q.2.2.1, va_K.moved (u := U) (U := U.calling g mk a) (Vm.Alike.refl U.vm) q.2.2.2⟩, va_recv hK hP (ci := 12) (q0 := 0) rfl rfl, fun U hU hW => ⟨rfl, by rw [hU], by rw [hU]; exact hP, va_K.moved hW.alike hK⟩⟩ rfl rfl hl.1 rfl (lv_room (Nat.le_of_ble_eq_true rfl)) dX12_go_188 ⟨Nat.le_of_ble_eq_true rfl, Nat.le_of_ble_eq_true rfl⟩) hS (fun q _ h9 => aM_up hS q h9) (aM_up hS) (fun r_228 u t H1 locs ht _ hw hB _ hk1 hS => ?_)
                    obtain ⟨fv_231, wd_232, ar_233⟩ := u
                    obtain ⟨hF_fv_231, hA_ar_233, fr_234, fa_235, p_229, p_230, -⟩ := hw
                    have hP : va_P (dC, dI) vwCl (wsM h ad cA fv_231 wd_232 ar_233) H1 := by have h9 := hB.1; rw [ht] at h9; exact h9
                    have fr_234 : fM [] fv_218 fv_231 := fr_234
                    have fa_235 : fA [] ar_220 ar_233 := fa_235
                    have p_230 : r_228.toInt = 0 ∨ (fv_218 38).toInt ≤ 339 := p_230
                    generalize H1 = H at hP hS ⊢
                    refine va_calli (va_runS (As := [.int r_228]) (rest := []) ⟨hx, hb, hml, hown, hts⟩ (m_isLetter l H.size r_228) (va_cwS 1 hts (gS kw_8_64 kw_8_65 kw_1_15 kw_8_66) rfl rfl rfl (by decide +kernel) ⟨Nat.le_of_ble_eq_true rfl, Nat.le_of_ble_eq_true rfl⟩) ⟨fun a U g mk q => ⟨q.1, q.2⟩, fun U hU hW => ⟨rfl, congrArg Array.size hU⟩⟩ rfl rfl hl.1 rfl (lv_room (Nat.le_of_ble_eq_true rfl)) dX12_go_191 ⟨Nat.le_of_ble_eq_true rfl, Nat.le_of_ble_eq_true rfl⟩) hS (fun q _ h9 => nM_up hS q h9) (nM_up hS) (fun r_236 u t H1 locs ht _ hw hB _ hk1 hS => ?_)
                    obtain ⟨p_237, p_238, -⟩ := hw
                    have hP := my_keepM hP hk1
                    generalize H1 = H at hP hS ⊢
                    rcases p_238 with ⟨rfl, p_238⟩ | ⟨rfl, p_238⟩
                    · skip
                      refine lv_if_ne (tgt := 211) hx hb dX12_go_194 (by decide) (fun c_239 => ?_) (fun c_239 => ?_)
                      · skip
                        exact absurd c_239 (by decide)
                      · skip
                        refine lv_aload_n hx hb dX12_go_197 rfl (lv_at hl 0 rfl) ?_
                        refine lv_aload_n hx hb dX12_go_198 rfl (lv_at hl 0 rfl) ?_
                        refine gM_38 hx hb htg hown hK hP dX12_go_199 ?_
                        refine my_ti (y := fv_218 38) ((fr_234 38 rfl)) ?_
                        refine va_calli (va_runV (As := [.int (fv_218 38)]) (rest := []) ⟨hx, hb, hml, hown, hts⟩ (m_byteAt l dC dI H.size h ad cA hd fv_231 wd_232 ar_233 hF_fv_231 hA_ar_233 (fv_218 38) i_227) (cwV 1 hts (gV kw_8_73 kw_8_75 kw_p_65 kw_1_15 kw_8_76) rfl rfl rfl (by decide +kernel) ⟨Nat.le_of_ble_eq_true rfl, Nat.le_of_ble_eq_true rfl⟩) ⟨fun a U g mk q => ⟨q.1, q.2.1, q.2.2.1, va_K.moved (u := U) (U := U.calling g mk a) (Vm.Alike.refl U.vm) q.2.2.2⟩, va_recv hK hP (ci := 12) (q0 := 0) rfl rfl, fun U hU hW => ⟨rfl, by rw [hU], by rw [hU]; exact hP, va_K.moved hW.alike hK⟩⟩ rfl rfl hl.1 rfl (lv_room (Nat.le_of_ble_eq_true rfl)) dX12_go_202 ⟨Nat.le_of_ble_eq_true rfl, Nat.le_of_ble_eq_true rfl⟩) hS (fun q _ h9 => aM_up hS q h9) (aM_up hS) (fun r_281 u t H1 locs ht _ hw hB _ hk1 hS => ?_)
                        obtain ⟨fv_284, wd_285, ar_286⟩ := u
                        obtain ⟨hF_fv_284, hA_ar_286, fr_287, fa_288, p_282, p_283, -⟩ := hw
                        have hP : va_P (dC, dI) vwCl (wsM h ad cA fv_284 wd_285 ar_286) H1 := by have h9 := hB.1; rw [ht] at h9; exact h9
                        have fr_287 : fM [] fv_231 fv_284 := fr_287
                        have fa_288 : fA [] ar_233 ar_286 := fa_288
                        have p_283 : r_281.toInt = 0 ∨ (fv_218 38).toInt ≤ 339 := p_283
                        generalize H1 = H at hP hS ⊢
                        refine va_calli (va_runS (As := [.int r_281]) (rest := []) ⟨hx, hb, hml, hown, hts⟩ (m_isDigit l H.size r_281) (va_cwS 1 hts (gS kw_8_67 kw_8_68 kw_1_15 kw_8_69) rfl rfl rfl (by decide +kernel) ⟨Nat.le_of_ble_eq_true rfl, Nat.le_of_ble_eq_true rfl⟩) ⟨fun a U g mk q => ⟨q.1, q.2⟩, fun U hU hW => ⟨rfl, congrArg Array.size hU⟩⟩ rfl rfl hl.1 rfl (lv_room (Nat.le_of_ble_eq_true rfl)) dX12_go_205 ⟨Nat.le_of_ble_eq_true rfl, Nat.le_of_ble_eq_true rfl⟩) hS (fun q _ h9 => nM_up hS q h9) (nM_up hS) (fun r_289 u t H1 locs ht _ hw hB _ hk1 hS => ?_)
                        obtain ⟨p_290, p_291, -⟩ := hw
                        have hP := my_keepM hP hk1
                        generalize H1 = H at hP hS ⊢
                        rcases p_291 with ⟨rfl, p_291⟩ | ⟨rfl, p_291⟩
                        · skip
                          refine lv_if_eq (tgt := 318) hx hb dX12_go_208 (by decide) (fun c_292 => ?_) (fun c_292 => ?_)
                          · skip
                            refine lv_aload_n hx hb dX12_go_318 rfl (lv_at hl 0 rfl) ?_
                            refine lv_iload_n hx hb dX12_go_319 rfl (lv_at hl 2 rfl) ?_
                            refine lv_if_eq (tgt := 345) hx hb dX12_go_320 (by decide) (fun c_334 => ?_) (fun c_334 => ?_)
                            · skip
                              have i_335 : 0 ≤ x_217.toInt ∧ x_217.toInt ≤ 0 := iv_eq1 (⟨by decide, by decide⟩ : (0 : Int) ≤ (0 : Int32).toInt ∧ (0 : Int32).toInt ≤ 0) c_334
                              refine lv_iconst (v := 1) hx hb dX12_go_345 (by decide) ?_
                              refine lv_goto (tgt := 358) hx hb dX12_go_346 (by decide) ?_
                              refine pM_40 hx hb htg hown hK hP hS hd dX12_go_358 (fun H locs fv_336 efv_336 hP hS => ?_)
                              have hF_fv_336 : rF fv_336 := rF_put hF_fv_284 efv_336 (iv_any _)
                              exact W.vret hx hb hr (fun t ht hW => ⟨⟨(fv_336, wd_285, ar_286), rfl, ⟨hF_fv_336, hA_ar_286, (fM_put (fM_call (fM_call (fM_call (fM_put (fM_put (fM_call (fM_rf [38, 39, 40, 41, 42] _) fr_2 (by decide)) efv_28 (by decide)) efv_216 (by decide)) fr_219 (by decide)) fr_234 (by decide)) fr_287 (by decide)) efv_336 (by decide)), (fA_call (fA_call (fA_call (fA_rf [] _) fa_221 (by decide)) fa_235 (by decide)) fa_288 (by decide)), trivial⟩, ⟨by rw [ht]; exact hP, va_K.moved hW.alike hK⟩⟩, hS.F ht⟩) hS.2.2 dX12_go_361
                            · skip
                              have i_337 : 1 ≤ x_217.toInt ∧ x_217.toInt ≤ 1 := iv_nel i_x_217 (by decide) c_334
                              refine lv_aload_n hx hb dX12_go_323 rfl (lv_at hl 0 rfl) ?_
                              refine gM_38 hx hb htg hown hK hP dX12_go_324 ?_
                              refine my_ti (y := fv_218 38) ((fr_287 38 rfl).trans ((fr_234 38 rfl))) ?_
                              refine lv_aload_n hx hb dX12_go_327 rfl (lv_at hl 0 rfl) ?_
                              refine gM_39 hx hb htg hown hK hP dX12_go_328 ?_
                              refine my_ti (y := fv_1 38) ((fr_287 39 rfl).trans ((fr_234 39 rfl).trans ((fr_219 39 rfl).trans ((congrFun efv_216 39).trans ((congrFun efv_28 39)))))) ?_
                              refine lv_isub hx hb dX12_go_331 ?_
                              refine lv_topi (fun v_338 ev_338 => ?_)
                              have t_339 : v_338.toInt = (fv_218 38 : Int32).toInt - (fv_1 38).toInt ∧ (-299) ≤ v_338.toInt ∧ v_338.toInt ≤ 340 := iv_sub ev_338 i_227 i_32 (by decide) (by decide)
                              refine lv_iload_n hx hb dX12_go_332 rfl (lv_at hl 1 rfl) ?_
                              refine my_cut (P := fun R9 a9 Q9 => ∀ (x_344 : Int32) (H : Heap) (locs : List Loc) (ls : Array Slot), (4 ≤ x_344.toInt ∧ x_344.toInt ≤ 8) → va_P (dC, dI) vwCl (wsM h ad cA fv_284 wd_285 ar_286) H → va_S (aM h ad s.heap.size) s.heap H locs → lv_has ls 5 [(2, .int r_213)] → W p l e R9 s m a9 below meth c H locs 0 0 Q9 (F0 m 342 ls [.int x_344, .int v_338, .ref h])) ?_ (fun hj_345 => ?_)
                              · intro x_344 H locs ls i_x_344 hP hS hl
                                refine lv_icmp_le (tgt := 349) hx hb dX12_go_342 (by decide) (fun c_346 => ?_) (fun c_346 => ?_)
                                · skip
                                  have i_347 : (-299) ≤ v_338.toInt ∧ v_338.toInt ≤ 8 := iv_le1 t_339.2 i_x_344 c_346
                                  refine lv_iload_n hx hb dX12_go_349 rfl (lv_at hl 0 rfl) ?_
                                  refine lv_if_eq (tgt := 357) hx hb dX12_go_350 (by decide) (fun c_348 => ?_) (fun c_348 => ?_)
                                  · skip
                                    have i_349 : 0 ≤ r_213.toInt ∧ r_213.toInt ≤ 0 := iv_eq1 (⟨by decide, by decide⟩ : (0 : Int) ≤ (0 : Int32).toInt ∧ (0 : Int32).toInt ≤ 0) c_348
                                    refine lv_iconst (v := 3) hx hb dX12_go_357 (by decide) ?_
                                    refine pM_40 hx hb htg hown hK hP hS hd dX12_go_358 (fun H locs fv_350 efv_350 hP hS => ?_)
                                    have hF_fv_350 : rF fv_350 := rF_put hF_fv_284 efv_350 (iv_any _)
                                    exact W.vret hx hb hr (fun t ht hW => ⟨⟨(fv_350, wd_285, ar_286), rfl, ⟨hF_fv_350, hA_ar_286, (fM_put (fM_call (fM_call (fM_call (fM_put (fM_put (fM_call (fM_rf [38, 39, 40, 41, 42] _) fr_2 (by decide)) efv_28 (by decide)) efv_216 (by decide)) fr_219 (by decide)) fr_234 (by decide)) fr_287 (by decide)) efv_350 (by decide)), (fA_call (fA_call (fA_call (fA_rf [] _) fa_221 (by decide)) fa_235 (by decide)) fa_288 (by decide)), trivial⟩, ⟨by rw [ht]; exact hP, va_K.moved hW.alike hK⟩⟩, hS.F ht⟩) hS.2.2 dX12_go_361
                                  · skip
                                    have i_351 : 1 ≤ r_213.toInt ∧ r_213.toInt ≤ 1 := iv_nel p_214 (by decide) c_348
                                    refine lv_iconst (v := 2) hx hb dX12_go_353 (by decide) ?_
                                    refine lv_goto (tgt := 358) hx hb dX12_go_354 (by decide) ?_
                                    refine pM_40 hx hb htg hown hK hP hS hd dX12_go_358 (fun H locs fv_352 efv_352 hP hS => ?_)
                                    have hF_fv_352 : rF fv_352 := rF_put hF_fv_284 efv_352 (iv_any _)
                                    exact W.vret hx hb hr (fun t ht hW => ⟨⟨(fv_352, wd_285, ar_286), rfl, ⟨hF_fv_352, hA_ar_286, (fM_put (fM_call (fM_call (fM_call (fM_put (fM_put (fM_call (fM_rf [38, 39, 40, 41, 42] _) fr_2 (by decide)) efv_28 (by decide)) efv_216 (by decide)) fr_219 (by decide)) fr_234 (by decide)) fr_287 (by decide)) efv_352 (by decide)), (fA_call (fA_call (fA_call (fA_rf [] _) fa_221 (by decide)) fa_235 (by decide)) fa_288 (by decide)), trivial⟩, ⟨by rw [ht]; exact hP, va_K.moved hW.alike hK⟩⟩, hS.F ht⟩) hS.2.2 dX12_go_361
                                · skip
                                  have i_353 : 5 ≤ v_338.toInt ∧ v_338.toInt ≤ 340 := iv_lt2 i_x_344 t_339.2 (Int32.not_le.mp c_346)
                                  refine lv_iconst (v := 1) hx hb dX12_go_345 (by decide) ?_
                                  refine lv_goto (tgt := 358) hx hb dX12_go_346 (by decide) ?_
                                  refine pM_40 hx hb htg hown hK hP hS hd dX12_go_358 (fun H locs fv_354 efv_354 hP hS => ?_)
                                  have hF_fv_354 : rF fv_354 := rF_put hF_fv_284 efv_354 (iv_any _)
                                  exact W.vret hx hb hr (fun t ht hW => ⟨⟨(fv_354, wd_285, ar_286), rfl, ⟨hF_fv_354, hA_ar_286, (fM_put (fM_call (fM_call (fM_call (fM_put (fM_put (fM_call (fM_rf [38, 39, 40, 41, 42] _) fr_2 (by decide)) efv_28 (by decide)) efv_216 (by decide)) fr_219 (by decide)) fr_234 (by decide)) fr_287 (by decide)) efv_354 (by decide)), (fA_call (fA_call (fA_call (fA_rf [] _) fa_221 (by decide)) fa_235 (by decide)) fa_288 (by decide)), trivial⟩, ⟨by rw [ht]; exact hP, va_K.moved hW.alike hK⟩⟩, hS.F ht⟩) hS.2.2 dX12_go_361
                              · skip
                                refine lv_if_eq (tgt := 341) hx hb dX12_go_333 (by decide) (fun c_341 => ?_) (fun c_341 => ?_)
                                · skip
                                  have i_342 : 0 ≤ r_213.toInt ∧ r_213.toInt ≤ 0 := iv_eq1 (⟨by decide, by decide⟩ : (0 : Int) ≤ (0 : Int32).toInt ∧ (0 : Int32).toInt ≤ 0) c_341
                                  refine lv_iconst (v := 4) hx hb dX12_go_341 (by decide) ?_
                                  exact hj_345 4 _ _ ls (iv_w (⟨by decide, by decide⟩ : (4 : Int) ≤ (4 : Int32).toInt ∧ (4 : Int32).toInt ≤ 4) (by decide) (by decide)) hP hS (lv_sub hl [1] rfl)
                                · skip
                                  have i_343 : 1 ≤ r_213.toInt ∧ r_213.toInt ≤ 1 := iv_nel p_214 (by decide) c_341
                                  refine lv_bipush (v := 8) hx hb dX12_go_336 (by decide) ?_
                                  refine lv_goto (tgt := 342) hx hb dX12_go_338 (by decide) ?_
                                  exact hj_345 8 _ _ ls (iv_w (⟨by decide, by decide⟩ : (8 : Int) ≤ (8 : Int32).toInt ∧ (8 : Int32).toInt ≤ 8) (by decide) (by decide)) hP hS (lv_sub hl [1] rfl)
                          · skip
                            exact absurd c_292 (by decide)
                        · skip
                          have i_293 : 48 ≤ r_281.toInt ∧ r_281.toInt ≤ 255 := ⟨p_291.1, p_282.2⟩
                          have i_294 : 48 ≤ r_281.toInt ∧ r_281.toInt ≤ 57 := ⟨i_293.1, p_291.2⟩
                          refine lv_if_eq (tgt := 318) hx hb dX12_go_208 (by decide) (fun c_295 => ?_) (fun c_295 => ?_)
                          · skip
                            exact absurd c_295 (by decide)
                          · skip
                            have i_296 : 0 ≤ (fv_218 38).toInt ∧ (fv_218 38).toInt ≤ 339 := (by omega)
                            refine lv_aload_n hx hb dX12_go_211 rfl (lv_at hl 0 rfl) ?_
                            refine gM_1 hx hb htg hown hK hP dX12_go_212 ?_
                            refine lv_aload_n hx hb dX12_go_215 rfl (lv_at hl 0 rfl) ?_
                            refine gM_38 hx hb htg hown hK hP dX12_go_216 ?_
                            refine my_ti (y := fv_218 38) ((fr_287 38 rfl).trans ((fr_234 38 rfl))) ?_
                            refine lM_1 hx hb hK hP (iv_in i_296 (by decide) (by decide)) dX12_go_219 (fun v_297 ev_297 => ?_)
                            have i_298 : 0 ≤ v_297.toInt ∧ v_297.toInt ≤ 255 := ev_297 ▸ hA_ar_286 1 _
                            refine lv_istore (lv' := [(4, .int v_297), (0, .ref h), (2, .int r_213), (3, .int x_217)]) hx hb dX12_go_220 hl (by decide) rfl (fun ls hl => ?_)
                            refine lv_iload_n hx hb dX12_go_222 rfl (lv_at hl 3 rfl) ?_
                            refine my_cut (P := fun R9 a9 Q9 => ∀ (x_306 : Int32) (H : Heap) (locs : List Loc) (ls : Array Slot), (0 ≤ x_306.toInt ∧ x_306.toInt ≤ 1) → va_P (dC, dI) vwCl (wsM h ad cA fv_284 wd_285 ar_286) H → va_S (aM h ad s.heap.size) s.heap H locs → lv_has ls 5 [(0, .ref h), (2, .int r_213), (4, .int v_297)] → W p l e R9 s m a9 below meth c H locs 0 0 Q9 (F0 m 240 ls [.int x_306])) ?_ (fun hj_307 => ?_)
                            · intro x_306 H locs ls i_x_306 hP hS hl
                              refine lv_istore_n (lv' := [(3, .int x_306), (0, .ref h), (2, .int r_213), (4, .int v_297)]) hx hb dX12_go_240 rfl hl (by decide) rfl (fun ls hl => ?_)
                              refine lv_aload_n hx hb dX12_go_241 rfl (lv_at hl 1 rfl) ?_
                              refine gM_38 hx hb htg hown hK hP dX12_go_242 ?_
                              refine my_ti (y := fv_218 38) ((fr_287 38 rfl).trans ((fr_234 38 rfl))) ?_
                              refine lv_aload_n hx hb dX12_go_245 rfl (lv_at hl 1 rfl) ?_
                              refine gM_39 hx hb htg hown hK hP dX12_go_246 ?_
                              refine my_ti (y := fv_1 38) ((fr_287 39 rfl).trans ((fr_234 39 rfl).trans ((fr_219 39 rfl).trans ((congrFun efv_216 39).trans ((congrFun efv_28 39)))))) ?_
                              refine lv_isub hx hb dX12_go_249 ?_
                              refine lv_topi (fun v_308 ev_308 => ?_)
                              have t_309 : v_308.toInt = (fv_218 38 : Int32).toInt - (fv_1 38).toInt ∧ (-299) ≤ v_308.toInt ∧ v_308.toInt ≤ 339 := iv_sub ev_308 i_296 i_32 (by decide) (by decide)
                              refine lv_bipush (v := 8) hx hb dX12_go_250 (by decide) ?_
                              refine my_cut (P := fun R9 a9 Q9 => ∀ (wd_318 : Int64) (H : Heap) (locs : List Loc) (ls : Array Slot), va_P (dC, dI) vwCl (wsM h ad cA fv_284 wd_318 ar_286) H → va_S (aM h ad s.heap.size) s.heap H locs → lv_has ls 5 [(0, .ref h), (2, .int r_213), (3, .int x_306), (4, .int v_297)] → W p l e R9 s m a9 below meth c H locs 0 0 Q9 (F0 m 275 ls [])) ?_ (fun hj_319 => ?_)
                              · intro wd_318 H locs ls  hP hS hl
                                refine lv_aload_n hx hb dX12_go_275 rfl (lv_at hl 0 rfl) ?_
                                refine gM_38 hx hb htg hown hK hP dX12_go_276 ?_
                                refine my_ti (y := fv_218 38) ((fr_287 38 rfl).trans ((fr_234 38 rfl))) ?_
                                refine lv_aload_n hx hb dX12_go_279 rfl (lv_at hl 0 rfl) ?_
                                refine gM_39 hx hb htg hown hK hP dX12_go_280 ?_
                                refine my_ti (y := fv_1 38) ((fr_287 39 rfl).trans ((fr_234 39 rfl).trans ((fr_219 39 rfl).trans ((congrFun efv_216 39).trans ((congrFun efv_28 39)))))) ?_
                                refine lv_isub hx hb dX12_go_283 ?_
                                refine my_ti (y := v_308) ev_308.symm ?_
                                refine lv_iconst (v := 4) hx hb dX12_go_284 (by decide) ?_
                                refine my_cut (P := fun R9 a9 Q9 => ∀ (fv_327 : Nat → Int32) (H : Heap) (locs : List Loc) (ls : Array Slot), rF fv_327 → fM [41] fv_284 fv_327 → va_P (dC, dI) vwCl (wsM h ad cA fv_327 wd_318 ar_286) H → va_S (aM h ad s.heap.size) s.heap H locs → lv_has ls 5 [(0, .ref h), (2, .int r_213), (3, .int x_306)] → W p l e R9 s m a9 below meth c H locs 0 0 Q9 (F0 m 305 ls [])) ?_ (fun hj_329 => ?_)
                                · intro fv_327 H locs ls hF_fv_327 fr_328 hP hS hl
                                  refine lv_aload_n hx hb dX12_go_305 rfl (lv_at hl 0 rfl) ?_
                                  refine lv_dup hx hb dX12_go_306 rfl ?_
                                  refine gM_38 hx hb htg hown hK hP dX12_go_307 ?_
                                  refine my_ti (y := fv_218 38) ((fr_328 38 rfl).trans ((fr_287 38 rfl).trans ((fr_234 38 rfl)))) ?_
                                  refine lv_iconst (v := 1) hx hb dX12_go_310 (by decide) ?_
                                  refine lv_iadd hx hb dX12_go_311 ?_
                                  refine lv_topi (fun v_330 ev_330 => ?_)
                                  have t_331 : v_330.toInt = (fv_218 38).toInt + 1 ∧ 1 ≤ v_330.toInt ∧ v_330.toInt ≤ 340 := iv_addc ev_330 i_296 (by decide) (by decide) (by decide)
                                  refine pM_38 hx hb htg hown hK hP hS hd dX12_go_312 (fun H locs fv_333 efv_333 hP hS => ?_)
                                  have hF_fv_333 : rF fv_333 := rF_put hF_fv_327 efv_333 (iv_w t_331.2 (by decide) (by decide))
                                  refine lv_goto (tgt := 183) hx hb dX12_go_315 (by decide) ?_
                                  have z_357 : (fv_333 38).toInt = v_330.toInt := congrArg Int32.toInt ((congrFun efv_333 38))
                                  have z_358 : 0 ≤ (fv_333 38).toInt ∧ (fv_333 38).toInt ≤ 340 := hF_fv_333 38
                                  exact ih_224 x_306 fv_333 ar_286 wd_318 _ _ ls (by omega) i_x_306 hF_fv_333 (fM_put (fM_call (fM_call (fM_call (fM_call (fM_rf [38, 41] _) fr_219 (by decide)) fr_234 (by decide)) fr_287 (by decide)) fr_328 (by decide)) efv_333 (by decide)) hA_ar_286 (fA_call (fA_call (fA_call (fA_rf [] _) fa_221 (by decide)) fa_235 (by decide)) fa_288 (by decide)) (by omega) hP hS (lv_sub hl [0, 1, 2] rfl)
                                · skip
                                  refine lv_icmp_ge (tgt := 305) hx hb dX12_go_285 (by decide) (fun c_320 => ?_) (fun c_320 => ?_)
                                  · skip
                                    have i_321 : 4 ≤ v_308.toInt ∧ v_308.toInt ≤ 339 := iv_le2 (⟨by decide, by decide⟩ : (4 : Int) ≤ (4 : Int32).toInt ∧ (4 : Int32).toInt ≤ 4) t_309.2 c_320
                                    exact hj_329 fv_284 _ _ ls hF_fv_284 (fM_rf [41] _) hP hS (lv_sub hl [0, 1, 2] rfl)
                                  · skip
                                    have i_322 : (-299) ≤ v_308.toInt ∧ v_308.toInt ≤ 3 := iv_lt1 t_309.2 (⟨by decide, by decide⟩ : (4 : Int) ≤ (4 : Int32).toInt ∧ (4 : Int32).toInt ≤ 4) (Int32.not_le.mp c_320)
                                    refine lv_aload_n hx hb dX12_go_288 rfl (lv_at hl 0 rfl) ?_
                                    refine lv_bipush (v := 10) hx hb dX12_go_289 (by decide) ?_
                                    refine lv_aload_n hx hb dX12_go_291 rfl (lv_at hl 0 rfl) ?_
                                    refine gM_41 hx hb htg hown hK hP dX12_go_292 ?_
                                    refine my_ti (y := fv_218 41) ((fr_287 41 rfl).trans ((fr_234 41 rfl))) ?_
                                    refine lv_imul hx hb dX12_go_295 ?_
                                    refine lv_topi (fun v_323 ev_323 => ?_)
                                    refine lv_iload hx hb dX12_go_296 (lv_at hl 3 rfl) ?_
                                    refine lv_iadd hx hb dX12_go_298 ?_
                                    refine lv_topi (fun v_324 ev_324 => ?_)
                                    refine lv_bipush (v := 48) hx hb dX12_go_299 (by decide) ?_
                                    refine lv_isub hx hb dX12_go_301 ?_
                                    refine lv_topi (fun v_325 ev_325 => ?_)
                                    refine pM_41 hx hb htg hown hK hP hS hd dX12_go_302 (fun H locs fv_326 efv_326 hP hS => ?_)
                                    have hF_fv_326 : rF fv_326 := rF_put hF_fv_284 efv_326 (iv_any v_325)
                                    exact hj_329 fv_326 _ _ ls hF_fv_326 (fM_put (fM_rf [41] _) efv_326 (by decide)) hP hS (lv_sub hl [0, 1, 2] rfl)
                              · skip
                                refine lv_icmp_ge (tgt := 275) hx hb dX12_go_252 (by decide) (fun c_311 => ?_) (fun c_311 => ?_)
                                · skip
                                  have i_312 : 8 ≤ v_308.toInt ∧ v_308.toInt ≤ 339 := iv_le2 (⟨by decide, by decide⟩ : (8 : Int) ≤ (8 : Int32).toInt ∧ (8 : Int32).toInt ≤ 8) t_309.2 c_311
                                  exact hj_319 wd_285 _ _ ls  hP hS (lv_sub hl [1, 2, 0, 3] rfl)
                                · skip
                                  have i_313 : (-299) ≤ v_308.toInt ∧ v_308.toInt ≤ 7 := iv_lt1 t_309.2 (⟨by decide, by decide⟩ : (8 : Int) ≤ (8 : Int32).toInt ∧ (8 : Int32).toInt ≤ 8) (Int32.not_le.mp c_311)
                                  refine lv_aload_n hx hb dX12_go_255 rfl (lv_at hl 1 rfl) ?_
                                  refine lv_ldc2 (v := 27) hx hb hown (htg (.constantLong RX12 313 27) kw_8_77) dX12_go_256 ?_
                                  refine lv_aload_n hx hb dX12_go_259 rfl (lv_at hl 1 rfl) ?_
                                  refine gM_46 hx hb htg hown hK hP dX12_go_260 ?_
                                  refine lv_lmul hx hb dX12_go_263 ?_
                                  refine lv_topl (fun w_314 _ => ?_)
                                  refine lv_iload hx hb dX12_go_264 (lv_at hl 3 rfl) ?_
                                  refine lv_i2l hx hb dX12_go_266 rfl ?_
                                  refine lv_topl (fun w_315 _ => ?_)
                                  refine lv_ladd hx hb dX12_go_267 ?_
                                  refine lv_topl (fun w_316 _ => ?_)
                                  refine lv_ldc2 (v := 96) hx hb hown (htg (.constantLong RX12 315 96) kw_8_78) dX12_go_268 ?_
                                  refine lv_lsub hx hb dX12_go_271 ?_
                                  refine lv_topl (fun w_317 _ => ?_)
                                  refine pM_46 hx hb htg hown hK hP hS hd dX12_go_272 (fun H locs hP hS => ?_)
                                  exact hj_319 w_317 _ _ ls  hP hS (lv_sub hl [1, 2, 0, 3] rfl)
                            · skip
                              refine lv_if_eq (tgt := 239) hx hb dX12_go_223 (by decide) (fun c_299 => ?_) (fun c_299 => ?_)
                              · skip
                                have i_300 : 0 ≤ x_217.toInt ∧ x_217.toInt ≤ 0 := iv_eq1 (⟨by decide, by decide⟩ : (0 : Int) ≤ (0 : Int32).toInt ∧ (0 : Int32).toInt ≤ 0) c_299
                                refine lv_iconst (v := 0) hx hb dX12_go_239 (by decide) ?_
                                exact hj_307 0 _ _ ls (iv_w (⟨by decide, by decide⟩ : (0 : Int) ≤ (0 : Int32).toInt ∧ (0 : Int32).toInt ≤ 0) (by decide) (by decide)) hP hS (lv_sub hl [1, 2, 0] rfl)
                              · skip
                                have i_301 : 1 ≤ x_217.toInt ∧ x_217.toInt ≤ 1 := iv_nel i_x_217 (by decide) c_299
                                refine lv_iload hx hb dX12_go_226 (lv_at hl 0 rfl) ?_
                                refine va_calli (va_runS (As := [.int v_297]) (rest := []) ⟨hx, hb, hml, hown, hts⟩ (m_isLetter l H.size v_297) (va_cwS 1 hts (gS kw_8_64 kw_8_65 kw_1_15 kw_8_66) rfl rfl rfl (by decide +kernel) ⟨Nat.le_of_ble_eq_true rfl, Nat.le_of_ble_eq_true rfl⟩) ⟨fun a U g mk q => ⟨q.1, q.2⟩, fun U hU hW => ⟨rfl, congrArg Array.size hU⟩⟩ rfl rfl hl.1 rfl (lv_room (Nat.le_of_ble_eq_true rfl)) dX12_go_228 ⟨Nat.le_of_ble_eq_true rfl, Nat.le_of_ble_eq_true rfl⟩) hS (fun q _ h9 => nM_up hS q h9) (nM_up hS) (fun r_302 u t H1 locs ht _ hw hB _ hk1 hS => ?_)
                                obtain ⟨p_303, p_304, -⟩ := hw
                                have hP := my_keepM hP hk1
                                generalize H1 = H at hP hS ⊢
                                refine lv_iload_n hx hb dX12_go_231 rfl (lv_at hl 2 rfl) ?_
                                refine lv_icmp_ne (tgt := 239) hx hb dX12_go_232 (by decide) (fun c_305 => ?_) (fun c_305 => ?_)
                                · skip
                                  refine lv_iconst (v := 0) hx hb dX12_go_239 (by decide) ?_
                                  exact hj_307 0 _ _ ls (iv_w (⟨by decide, by decide⟩ : (0 : Int) ≤ (0 : Int32).toInt ∧ (0 : Int32).toInt ≤ 0) (by decide) (by decide)) hP hS (lv_sub hl [1, 2, 0] rfl)
                                · skip
                                  refine lv_iconst (v := 1) hx hb dX12_go_235 (by decide) ?_
                                  refine lv_goto (tgt := 240) hx hb dX12_go_236 (by decide) ?_
                                  exact hj_307 1 _ _ ls (iv_w (⟨by decide, by decide⟩ : (1 : Int) ≤ (1 : Int32).toInt ∧ (1 : Int32).toInt ≤ 1) (by decide) (by decide)) hP hS (lv_sub hl [1, 2, 0] rfl)
                    · skip
                      have i_240 : 97 ≤ r_228.toInt ∧ r_228.toInt ≤ 255 := ⟨p_238.1, p_229.2⟩
                      have i_241 : 97 ≤ r_228.toInt ∧ r_228.toInt ≤ 122 := ⟨i_240.1, p_238.2⟩
                      refine lv_if_ne (tgt := 211) hx hb dX12_go_194 (by decide) (fun c_242 => ?_) (fun c_242 => ?_)
                      · skip
                        have i_243 : 0 ≤ (fv_218 38).toInt ∧ (fv_218 38).toInt ≤ 339 := (by omega)
                        refine lv_aload_n hx hb dX12_go_211 rfl (lv_at hl 0 rfl) ?_
                        refine gM_1 hx hb htg hown hK hP dX12_go_212 ?_
                        refine lv_aload_n hx hb dX12_go_215 rfl (lv_at hl 0 rfl) ?_
                        refine gM_38 hx hb htg hown hK hP dX12_go_216 ?_
                        refine my_ti (y := fv_218 38) ((fr_234 38 rfl)) ?_
                        refine lM_1 hx hb hK hP (iv_in i_243 (by decide) (by decide)) dX12_go_219 (fun v_244 ev_244 => ?_)
                        have i_245 : 0 ≤ v_244.toInt ∧ v_244.toInt ≤ 255 := ev_244 ▸ hA_ar_233 1 _
                        refine lv_istore (lv' := [(4, .int v_244), (0, .ref h), (2, .int r_213), (3, .int x_217)]) hx hb dX12_go_220 hl (by decide) rfl (fun ls hl => ?_)
                        refine lv_iload_n hx hb dX12_go_222 rfl (lv_at hl 3 rfl) ?_
                        refine my_cut (P := fun R9 a9 Q9 => ∀ (x_253 : Int32) (H : Heap) (locs : List Loc) (ls : Array Slot), (0 ≤ x_253.toInt ∧ x_253.toInt ≤ 1) → va_P (dC, dI) vwCl (wsM h ad cA fv_231 wd_232 ar_233) H → va_S (aM h ad s.heap.size) s.heap H locs → lv_has ls 5 [(0, .ref h), (2, .int r_213), (4, .int v_244)] → W p l e R9 s m a9 below meth c H locs 0 0 Q9 (F0 m 240 ls [.int x_253])) ?_ (fun hj_254 => ?_)
                        · intro x_253 H locs ls i_x_253 hP hS hl
                          refine lv_istore_n (lv' := [(3, .int x_253), (0, .ref h), (2, .int r_213), (4, .int v_244)]) hx hb dX12_go_240 rfl hl (by decide) rfl (fun ls hl => ?_)
                          refine lv_aload_n hx hb dX12_go_241 rfl (lv_at hl 1 rfl) ?_
                          refine gM_38 hx hb htg hown hK hP dX12_go_242 ?_
                          refine my_ti (y := fv_218 38) ((fr_234 38 rfl)) ?_
                          refine lv_aload_n hx hb dX12_go_245 rfl (lv_at hl 1 rfl) ?_
                          refine gM_39 hx hb htg hown hK hP dX12_go_246 ?_
                          refine my_ti (y := fv_1 38) ((fr_234 39 rfl).trans ((fr_219 39 rfl).trans ((congrFun efv_216 39).trans ((congrFun efv_28 39))))) ?_
                          refine lv_isub hx hb dX12_go_249 ?_
                          refine lv_topi (fun v_255 ev_255 => ?_)
                          have t_256 : v_255.toInt = (fv_218 38 : Int32).toInt - (fv_1 38).toInt ∧ (-299) ≤ v_255.toInt ∧ v_255.toInt ≤ 339 := iv_sub ev_255 i_243 i_32 (by decide) (by decide)
                          refine lv_bipush (v := 8) hx hb dX12_go_250 (by decide) ?_
                          refine my_cut (P := fun R9 a9 Q9 => ∀ (wd_265 : Int64) (H : Heap) (locs : List Loc) (ls : Array Slot), va_P (dC, dI) vwCl (wsM h ad cA fv_231 wd_265 ar_233) H → va_S (aM h ad s.heap.size) s.heap H locs → lv_has ls 5 [(0, .ref h), (2, .int r_213), (3, .int x_253), (4, .int v_244)] → W p l e R9 s m a9 below meth c H locs 0 0 Q9 (F0 m 275 ls [])) ?_ (fun hj_266 => ?_)
                          · intro wd_265 H locs ls  hP hS hl
                            refine lv_aload_n hx hb dX12_go_275 rfl (lv_at hl 0 rfl) ?_
                            refine gM_38 hx hb htg hown hK hP dX12_go_276 ?_
                            refine my_ti (y := fv_218 38) ((fr_234 38 rfl)) ?_
                            refine lv_aload_n hx hb dX12_go_279 rfl (lv_at hl 0 rfl) ?_
                            refine gM_39 hx hb htg hown hK hP dX12_go_280 ?_
                            refine my_ti (y := fv_1 38) ((fr_234 39 rfl).trans ((fr_219 39 rfl).trans ((congrFun efv_216 39).trans ((congrFun efv_28 39))))) ?_
                            refine lv_isub hx hb dX12_go_283 ?_
                            refine my_ti (y := v_255) ev_255.symm ?_
                            refine lv_iconst (v := 4) hx hb dX12_go_284 (by decide) ?_
                            refine my_cut (P := fun R9 a9 Q9 => ∀ (fv_274 : Nat → Int32) (H : Heap) (locs : List Loc) (ls : Array Slot), rF fv_274 → fM [41] fv_231 fv_274 → va_P (dC, dI) vwCl (wsM h ad cA fv_274 wd_265 ar_233) H → va_S (aM h ad s.heap.size) s.heap H locs → lv_has ls 5 [(0, .ref h), (2, .int r_213), (3, .int x_253)] → W p l e R9 s m a9 below meth c H locs 0 0 Q9 (F0 m 305 ls [])) ?_ (fun hj_276 => ?_)
                            · intro fv_274 H locs ls hF_fv_274 fr_275 hP hS hl
                              refine lv_aload_n hx hb dX12_go_305 rfl (lv_at hl 0 rfl) ?_
                              refine lv_dup hx hb dX12_go_306 rfl ?_
                              refine gM_38 hx hb htg hown hK hP dX12_go_307 ?_
                              refine my_ti (y := fv_218 38) ((fr_275 38 rfl).trans ((fr_234 38 rfl))) ?_
                              refine lv_iconst (v := 1) hx hb dX12_go_310 (by decide) ?_
                              refine lv_iadd hx hb dX12_go_311 ?_
                              refine lv_topi (fun v_277 ev_277 => ?_)
                              have t_278 : v_277.toInt = (fv_218 38).toInt + 1 ∧ 1 ≤ v_277.toInt ∧ v_277.toInt ≤ 340 := iv_addc ev_277 i_243 (by decide) (by decide) (by decide)
                              refine pM_38 hx hb htg hown hK hP hS hd dX12_go_312 (fun H locs fv_280 efv_280 hP hS => ?_)
                              have hF_fv_280 : rF fv_280 := rF_put hF_fv_274 efv_280 (iv_w t_278.2 (by decide) (by decide))
                              refine lv_goto (tgt := 183) hx hb dX12_go_315 (by decide) ?_
                              have z_355 : (fv_280 38).toInt = v_277.toInt := congrArg Int32.toInt ((congrFun efv_280 38))
                              have z_356 : 0 ≤ (fv_280 38).toInt ∧ (fv_280 38).toInt ≤ 340 := hF_fv_280 38
                              exact ih_224 x_253 fv_280 ar_233 wd_265 _ _ ls (by omega) i_x_253 hF_fv_280 (fM_put (fM_call (fM_call (fM_call (fM_rf [38, 41] _) fr_219 (by decide)) fr_234 (by decide)) fr_275 (by decide)) efv_280 (by decide)) hA_ar_233 (fA_call (fA_call (fA_rf [] _) fa_221 (by decide)) fa_235 (by decide)) (by omega) hP hS (lv_sub hl [0, 1, 2] rfl)
                            · skip
                              refine lv_icmp_ge (tgt := 305) hx hb dX12_go_285 (by decide) (fun c_267 => ?_) (fun c_267 => ?_)
                              · skip
                                have i_268 : 4 ≤ v_255.toInt ∧ v_255.toInt ≤ 339 := iv_le2 (⟨by decide, by decide⟩ : (4 : Int) ≤ (4 : Int32).toInt ∧ (4 : Int32).toInt ≤ 4) t_256.2 c_267
                                exact hj_276 fv_231 _ _ ls hF_fv_231 (fM_rf [41] _) hP hS (lv_sub hl [0, 1, 2] rfl)
                              · skip
                                have i_269 : (-299) ≤ v_255.toInt ∧ v_255.toInt ≤ 3 := iv_lt1 t_256.2 (⟨by decide, by decide⟩ : (4 : Int) ≤ (4 : Int32).toInt ∧ (4 : Int32).toInt ≤ 4) (Int32.not_le.mp c_267)
                                refine lv_aload_n hx hb dX12_go_288 rfl (lv_at hl 0 rfl) ?_
                                refine lv_bipush (v := 10) hx hb dX12_go_289 (by decide) ?_
                                refine lv_aload_n hx hb dX12_go_291 rfl (lv_at hl 0 rfl) ?_
                                refine gM_41 hx hb htg hown hK hP dX12_go_292 ?_
                                refine my_ti (y := fv_218 41) ((fr_234 41 rfl)) ?_
                                refine lv_imul hx hb dX12_go_295 ?_
                                refine lv_topi (fun v_270 ev_270 => ?_)
                                refine lv_iload hx hb dX12_go_296 (lv_at hl 3 rfl) ?_
                                refine lv_iadd hx hb dX12_go_298 ?_
                                refine lv_topi (fun v_271 ev_271 => ?_)
                                refine lv_bipush (v := 48) hx hb dX12_go_299 (by decide) ?_
                                refine lv_isub hx hb dX12_go_301 ?_
                                refine lv_topi (fun v_272 ev_272 => ?_)
                                refine pM_41 hx hb htg hown hK hP hS hd dX12_go_302 (fun H locs fv_273 efv_273 hP hS => ?_)
                                have hF_fv_273 : rF fv_273 := rF_put hF_fv_231 efv_273 (iv_any v_272)
                                exact hj_276 fv_273 _ _ ls hF_fv_273 (fM_put (fM_rf [41] _) efv_273 (by decide)) hP hS (lv_sub hl [0, 1, 2] rfl)
                          · skip
                            refine lv_icmp_ge (tgt := 275) hx hb dX12_go_252 (by decide) (fun c_258 => ?_) (fun c_258 => ?_)
                            · skip
                              have i_259 : 8 ≤ v_255.toInt ∧ v_255.toInt ≤ 339 := iv_le2 (⟨by decide, by decide⟩ : (8 : Int) ≤ (8 : Int32).toInt ∧ (8 : Int32).toInt ≤ 8) t_256.2 c_258
                              exact hj_266 wd_232 _ _ ls  hP hS (lv_sub hl [1, 2, 0, 3] rfl)
                            · skip
                              have i_260 : (-299) ≤ v_255.toInt ∧ v_255.toInt ≤ 7 := iv_lt1 t_256.2 (⟨by decide, by decide⟩ : (8 : Int) ≤ (8 : Int32).toInt ∧ (8 : Int32).toInt ≤ 8) (Int32.not_le.mp c_258)
                              refine lv_aload_n hx hb dX12_go_255 rfl (lv_at hl 1 rfl) ?_
                              refine lv_ldc2 (v := 27) hx hb hown (htg (.constantLong RX12 313 27) kw_8_77) dX12_go_256 ?_
                              refine lv_aload_n hx hb dX12_go_259 rfl (lv_at hl 1 rfl) ?_
                              refine gM_46 hx hb htg hown hK hP dX12_go_260 ?_
                              refine lv_lmul hx hb dX12_go_263 ?_
                              refine lv_topl (fun w_261 _ => ?_)
                              refine lv_iload hx hb dX12_go_264 (lv_at hl 3 rfl) ?_
                              refine lv_i2l hx hb dX12_go_266 rfl ?_
                              refine lv_topl (fun w_262 _ => ?_)
                              refine lv_ladd hx hb dX12_go_267 ?_
                              refine lv_topl (fun w_263 _ => ?_)
                              refine lv_ldc2 (v := 96) hx hb hown (htg (.constantLong RX12 315 96) kw_8_78) dX12_go_268 ?_
                              refine lv_lsub hx hb dX12_go_271 ?_
                              refine lv_topl (fun w_264 _ => ?_)
                              refine pM_46 hx hb htg hown hK hP hS hd dX12_go_272 (fun H locs hP hS => ?_)
                              exact hj_266 w_264 _ _ ls  hP hS (lv_sub hl [1, 2, 0, 3] rfl)
                        · skip
                          refine lv_if_eq (tgt := 239) hx hb dX12_go_223 (by decide) (fun c_246 => ?_) (fun c_246 => ?_)
                          · skip
                            have i_247 : 0 ≤ x_217.toInt ∧ x_217.toInt ≤ 0 := iv_eq1 (⟨by decide, by decide⟩ : (0 : Int) ≤ (0 : Int32).toInt ∧ (0 : Int32).toInt ≤ 0) c_246
                            refine lv_iconst (v := 0) hx hb dX12_go_239 (by decide) ?_
                            exact hj_254 0 _ _ ls (iv_w (⟨by decide, by decide⟩ : (0 : Int) ≤ (0 : Int32).toInt ∧ (0 : Int32).toInt ≤ 0) (by decide) (by decide)) hP hS (lv_sub hl [1, 2, 0] rfl)
                          · skip
                            have i_248 : 1 ≤ x_217.toInt ∧ x_217.toInt ≤ 1 := iv_nel i_x_217 (by decide) c_246
                            refine lv_iload hx hb dX12_go_226 (lv_at hl 0 rfl) ?_
                            refine va_calli (va_runS (As := [.int v_244]) (rest := []) ⟨hx, hb, hml, hown, hts⟩ (m_isLetter l H.size v_244) (va_cwS 1 hts (gS kw_8_64 kw_8_65 kw_1_15 kw_8_66) rfl rfl rfl (by decide +kernel) ⟨Nat.le_of_ble_eq_true rfl, Nat.le_of_ble_eq_true rfl⟩) ⟨fun a U g mk q => ⟨q.1, q.2⟩, fun U hU hW => ⟨rfl, congrArg Array.size hU⟩⟩ rfl rfl hl.1 rfl (lv_room (Nat.le_of_ble_eq_true rfl)) dX12_go_228 ⟨Nat.le_of_ble_eq_true rfl, Nat.le_of_ble_eq_true rfl⟩) hS (fun q _ h9 => nM_up hS q h9) (nM_up hS) (fun r_249 u t H1 locs ht _ hw hB _ hk1 hS => ?_)
                            obtain ⟨p_250, p_251, -⟩ := hw
                            have hP := my_keepM hP hk1
                            generalize H1 = H at hP hS ⊢
                            refine lv_iload_n hx hb dX12_go_231 rfl (lv_at hl 2 rfl) ?_
                            refine lv_icmp_ne (tgt := 239) hx hb dX12_go_232 (by decide) (fun c_252 => ?_) (fun c_252 => ?_)
                            · skip
                              refine lv_iconst (v := 0) hx hb dX12_go_239 (by decide) ?_
                              exact hj_254 0 _ _ ls (iv_w (⟨by decide, by decide⟩ : (0 : Int) ≤ (0 : Int32).toInt ∧ (0 : Int32).toInt ≤ 0) (by decide) (by decide)) hP hS (lv_sub hl [1, 2, 0] rfl)
                            · skip
                              refine lv_iconst (v := 1) hx hb dX12_go_235 (by decide) ?_
                              refine lv_goto (tgt := 240) hx hb dX12_go_236 (by decide) ?_
                              exact hj_254 1 _ _ ls (iv_w (⟨by decide, by decide⟩ : (1 : Int) ≤ (1 : Int32).toInt ∧ (1 : Int32).toInt ≤ 1) (by decide) (by decide)) hP hS (lv_sub hl [1, 2, 0] rfl)
                      · skip
                        exact absurd c_242 (by decide)
                · skip
                  have z_359 : (0 : Int32).toInt = 0 := by decide
                  have z_360 : (1 : Int32).toInt = 1 := by decide
                  have z_361 : (fv_216 38).toInt = (fv_1 38).toInt := congrArg Int32.toInt ((congrFun efv_216 38).trans ((congrFun efv_28 38)))
                  have z_362 : 0 ≤ (fv_216 38).toInt ∧ (fv_216 38).toInt ≤ 340 := hF_fv_216 38
                  exact hj_226 341 1 fv_216 ar 0 _ _ ls (by first | decide | omega) (iv_w (⟨by decide, by decide⟩ : (1 : Int) ≤ (1 : Int32).toInt ∧ (1 : Int32).toInt ≤ 1) (by decide) (by decide)) hF_fv_216 (fM_rf [38, 41] _) hA_ar (fA_rf [] _) (by omega) hP hS (lv_sub hl [3, 1, 0] rfl)
              · skip
                exact absurd c_212 (by decide)
          · skip
            refine lv_aload_n hx hb dX12_go_104 rfl (lv_at hl 0 rfl) ?_
            refine lv_iconst (v := 0) hx hb dX12_go_105 (by decide) ?_
            refine pM_40 hx hb htg hown hK hP hS hd dX12_go_106 (fun H locs fv_363 efv_363 hP hS => ?_)
            have hF_fv_363 : rF fv_363 := rF_put hF_fv_28 efv_363 (iv_any _)
            exact W.vret hx hb hr (fun t ht hW => ⟨⟨(fv_363, wd, ar), rfl, ⟨hF_fv_363, hA_ar, (fM_put (fM_put (fM_call (fM_rf [38, 39, 40, 41, 42] _) fr_2 (by decide)) efv_28 (by decide)) efv_363 (by decide)), (fA_rf [] _), trivial⟩, ⟨by rw [ht]; exact hP, va_K.moved hW.alike hK⟩⟩, hS.F ht⟩) hS.2.2 dX12_go_109
        · skip
          have i_364 : 301 ≤ (fv 37).toInt ∧ (fv 37).toInt ≤ 340 := iv_lt2 (⟨by decide, by decide⟩ : (300 : Int) ≤ (300 : Int32).toInt ∧ (300 : Int32).toInt ≤ 300) i_8 (Int32.not_le.mp c_29)
          refine lv_aload_n hx hb dX12_go_70 rfl (lv_at hl 0 rfl) ?_
          refine gM_39 hx hb htg hown hK hP dX12_go_71 ?_
          refine my_ti (y := fv_1 38) ((congrFun efv_28 39)) ?_
          refine lv_sipush (v := 300) hx hb dX12_go_74 (by decide) ?_
          refine lv_icmp_lt (tgt := 93) hx hb dX12_go_77 (by decide) (fun c_365 => ?_) (fun c_365 => ?_)
          · skip
            have i_366 : 0 ≤ (fv_1 38).toInt ∧ (fv_1 38).toInt ≤ 299 := iv_lt1 i_7 (⟨by decide, by decide⟩ : (300 : Int) ≤ (300 : Int32).toInt ∧ (300 : Int32).toInt ≤ 300) c_365
            refine lv_aload_n hx hb dX12_go_93 rfl (lv_at hl 0 rfl) ?_
            refine gM_38 hx hb htg hown hK hP dX12_go_94 ?_
            refine my_ti (y := fv_1 38) ((congrFun efv_28 38)) ?_
            refine lv_aload_n hx hb dX12_go_97 rfl (lv_at hl 0 rfl) ?_
            refine gM_37 hx hb htg hown hK hP dX12_go_98 ?_
            refine my_ti (y := fv 37) ((congrFun efv_28 37).trans ((fr_2 37 rfl))) ?_
            refine lv_icmp_lt (tgt := 110) hx hb dX12_go_101 (by decide) (fun c_367 => ?_) (fun c_367 => ?_)
            · skip
              refine lv_aload_n hx hb dX12_go_110 rfl (lv_at hl 0 rfl) ?_
              refine gM_1 hx hb htg hown hK hP dX12_go_111 ?_
              refine lv_aload_n hx hb dX12_go_114 rfl (lv_at hl 0 rfl) ?_
              refine gM_38 hx hb htg hown hK hP dX12_go_115 ?_
              refine my_ti (y := fv_1 38) ((congrFun efv_28 38)) ?_
              refine lM_1 hx hb hK hP (iv_in i_366 (by decide) (by decide)) dX12_go_118 (fun v_368 ev_368 => ?_)
              have i_369 : 0 ≤ v_368.toInt ∧ v_368.toInt ≤ 255 := ev_368 ▸ hA_ar 1 _
              refine lv_istore_n (lv' := [(1, .int v_368), (0, .ref h)]) hx hb dX12_go_119 rfl hl (by decide) rfl (fun ls hl => ?_)
              refine lv_iload_n hx hb dX12_go_120 rfl (lv_at hl 0 rfl) ?_
              refine va_calli (va_runS (As := [.int v_368]) (rest := []) ⟨hx, hb, hml, hown, hts⟩ (m_isLetter l H.size v_368) (va_cwS 1 hts (gS kw_8_64 kw_8_65 kw_1_15 kw_8_66) rfl rfl rfl (by decide +kernel) ⟨Nat.le_of_ble_eq_true rfl, Nat.le_of_ble_eq_true rfl⟩) ⟨fun a U g mk q => ⟨q.1, q.2⟩, fun U hU hW => ⟨rfl, congrArg Array.size hU⟩⟩ rfl rfl hl.1 rfl (lv_room (Nat.le_of_ble_eq_true rfl)) dX12_go_121 ⟨Nat.le_of_ble_eq_true rfl, Nat.le_of_ble_eq_true rfl⟩) hS (fun q _ h9 => nM_up hS q h9) (nM_up hS) (fun r_370 u t H1 locs ht _ hw hB _ hk1 hS => ?_)
              obtain ⟨p_371, p_372, -⟩ := hw
              have hP := my_keepM hP hk1
              generalize H1 = H at hP hS ⊢
              rcases p_372 with ⟨rfl, p_372⟩ | ⟨rfl, p_372⟩
              · skip
                refine lv_if_ne (tgt := 166) hx hb dX12_go_124 (by decide) (fun c_373 => ?_) (fun c_373 => ?_)
                · skip
                  exact absurd c_373 (by decide)
                · skip
                  refine lv_iload_n hx hb dX12_go_127 rfl (lv_at hl 0 rfl) ?_
                  refine va_calli (va_runS (As := [.int v_368]) (rest := []) ⟨hx, hb, hml, hown, hts⟩ (m_isDigit l H.size v_368) (va_cwS 1 hts (gS kw_8_67 kw_8_68 kw_1_15 kw_8_69) rfl rfl rfl (by decide +kernel) ⟨Nat.le_of_ble_eq_true rfl, Nat.le_of_ble_eq_true rfl⟩) ⟨fun a U g mk q => ⟨q.1, q.2⟩, fun U hU hW => ⟨rfl, congrArg Array.size hU⟩⟩ rfl rfl hl.1 rfl (lv_room (Nat.le_of_ble_eq_true rfl)) dX12_go_128 ⟨Nat.le_of_ble_eq_true rfl, Nat.le_of_ble_eq_true rfl⟩) hS (fun q _ h9 => nM_up hS q h9) (nM_up hS) (fun r_374 u t H1 locs ht _ hw hB _ hk1 hS => ?_)
                  obtain ⟨p_375, p_376, -⟩ := hw
                  have hP := my_keepM hP hk1
                  generalize H1 = H at hP hS ⊢
                  rcases p_376 with ⟨rfl, p_376⟩ | ⟨rfl, p_376⟩
                  · skip
                    refine lv_if_ne (tgt := 166) hx hb dX12_go_131 (by decide) (fun c_377 => ?_) (fun c_377 => ?_)
                    · skip
                      exact absurd c_377 (by decide)
                    · skip
                      refine lv_aload_n hx hb dX12_go_134 rfl (lv_at hl 1 rfl) ?_
                      refine lv_iload_n hx hb dX12_go_135 rfl (lv_at hl 0 rfl) ?_
                      refine va_calli (va_runS (As := [.int v_368]) (rest := [.ref h]) ⟨hx, hb, hml, hown, hts⟩ (m_isMark l H.size v_368) (va_cwS 1 hts (gS kw_8_70 kw_8_71 kw_1_15 kw_8_72) rfl rfl rfl (by decide +kernel) ⟨Nat.le_of_ble_eq_true rfl, Nat.le_of_ble_eq_true rfl⟩) ⟨fun a U g mk q => ⟨q.1, q.2⟩, fun U hU hW => ⟨rfl, congrArg Array.size hU⟩⟩ rfl rfl hl.1 rfl (lv_room (Nat.le_of_ble_eq_true rfl)) dX12_go_136 ⟨Nat.le_of_ble_eq_true rfl, Nat.le_of_ble_eq_true rfl⟩) hS (fun q _ h9 => nM_up hS q h9) (nM_up hS) (fun r_378 u t H1 locs ht _ hw hB _ hk1 hS => ?_)
                      obtain ⟨p_379, -⟩ := hw
                      have hP := my_keepM hP hk1
                      generalize H1 = H at hP hS ⊢
                      refine my_cut (P := fun R9 a9 Q9 => ∀ (x_383 : Int32) (H : Heap) (locs : List Loc) (ls : Array Slot), (1 ≤ x_383.toInt ∧ x_383.toInt ≤ 4) → va_P (dC, dI) vwCl (wsM h ad cA fv_28 wd ar) H → va_S (aM h ad s.heap.size) s.heap H locs → lv_has ls 5 [(0, .ref h), (1, .int v_368)] → W p l e R9 s m a9 below meth c H locs 0 0 Q9 (F0 m 147 ls [.int x_383, .ref h])) ?_ (fun hj_384 => ?_)
                      · intro x_383 H locs ls i_x_383 hP hS hl
                        refine pM_40 hx hb htg hown hK hP hS hd dX12_go_147 (fun H locs fv_385 efv_385 hP hS => ?_)
                        have hF_fv_385 : rF fv_385 := rF_put hF_fv_28 efv_385 (iv_any _)
                        refine lv_aload_n hx hb dX12_go_150 rfl (lv_at hl 0 rfl) ?_
                        refine lv_iload_n hx hb dX12_go_151 rfl (lv_at hl 1 rfl) ?_
                        refine pM_42 hx hb htg hown hK hP hS hd dX12_go_152 (fun H locs fv_386 efv_386 hP hS => ?_)
                        have hF_fv_386 : rF fv_386 := rF_put hF_fv_385 efv_386 (iv_any _)
                        refine lv_aload_n hx hb dX12_go_155 rfl (lv_at hl 0 rfl) ?_
                        refine lv_dup hx hb dX12_go_156 rfl ?_
                        refine gM_38 hx hb htg hown hK hP dX12_go_157 ?_
                        refine my_ti (y := fv_1 38) ((congrFun efv_386 38).trans ((congrFun efv_385 38).trans ((congrFun efv_28 38)))) ?_
                        refine lv_iconst (v := 1) hx hb dX12_go_160 (by decide) ?_
                        refine lv_iadd hx hb dX12_go_161 ?_
                        refine lv_topi (fun v_387 ev_387 => ?_)
                        have t_388 : v_387.toInt = (fv_1 38).toInt + 1 ∧ 1 ≤ v_387.toInt ∧ v_387.toInt ≤ 300 := iv_addc ev_387 i_366 (by decide) (by decide) (by decide)
                        refine pM_38 hx hb htg hown hK hP hS hd dX12_go_162 (fun H locs fv_390 efv_390 hP hS => ?_)
                        have hF_fv_390 : rF fv_390 := rF_put hF_fv_386 efv_390 (iv_w t_388.2 (by decide) (by decide))
                        exact W.vret hx hb hr (fun t ht hW => ⟨⟨(fv_390, wd, ar), rfl, ⟨hF_fv_390, hA_ar, (fM_put (fM_put (fM_put (fM_put (fM_call (fM_rf [38, 39, 40, 41, 42] _) fr_2 (by decide)) efv_28 (by decide)) efv_385 (by decide)) efv_386 (by decide)) efv_390 (by decide)), (fA_rf [] _), trivial⟩, ⟨by rw [ht]; exact hP, va_K.moved hW.alike hK⟩⟩, hS.F ht⟩) hS.2.2 dX12_go_165
                      · skip
                        refine lv_if_eq (tgt := 146) hx hb dX12_go_139 (by decide) (fun c_380 => ?_) (fun c_380 => ?_)
                        · skip
                          have i_381 : 0 ≤ r_378.toInt ∧ r_378.toInt ≤ 0 := iv_eq1 (⟨by decide, by decide⟩ : (0 : Int) ≤ (0 : Int32).toInt ∧ (0 : Int32).toInt ≤ 0) c_380
                          refine lv_iconst (v := 1) hx hb dX12_go_146 (by decide) ?_
                          exact hj_384 1 _ _ ls (iv_w (⟨by decide, by decide⟩ : (1 : Int) ≤ (1 : Int32).toInt ∧ (1 : Int32).toInt ≤ 1) (by decide) (by decide)) hP hS (lv_sub hl [1, 0] rfl)
                        · skip
                          have i_382 : 1 ≤ r_378.toInt ∧ r_378.toInt ≤ 1 := iv_nel p_379 (by decide) c_380
                          refine lv_iconst (v := 4) hx hb dX12_go_142 (by decide) ?_
                          refine lv_goto (tgt := 147) hx hb dX12_go_143 (by decide) ?_
                          exact hj_384 4 _ _ ls (iv_w (⟨by decide, by decide⟩ : (4 : Int) ≤ (4 : Int32).toInt ∧ (4 : Int32).toInt ≤ 4) (by decide) (by decide)) hP hS (lv_sub hl [1, 0] rfl)
                  · skip
                    have i_391 : 48 ≤ v_368.toInt ∧ v_368.toInt ≤ 255 := ⟨p_376.1, i_369.2⟩
                    have i_392 : 48 ≤ v_368.toInt ∧ v_368.toInt ≤ 57 := ⟨i_391.1, p_376.2⟩
                    refine lv_if_ne (tgt := 166) hx hb dX12_go_131 (by decide) (fun c_393 => ?_) (fun c_393 => ?_)
                    · skip
                      refine lv_iload_n hx hb dX12_go_166 rfl (lv_at hl 0 rfl) ?_
                      refine va_calli (va_runS (As := [.int v_368]) (rest := []) ⟨hx, hb, hml, hown, hts⟩ (m_isLetter l H.size v_368) (va_cwS 1 hts (gS kw_8_64 kw_8_65 kw_1_15 kw_8_66) rfl rfl rfl (by decide +kernel) ⟨Nat.le_of_ble_eq_true rfl, Nat.le_of_ble_eq_true rfl⟩) ⟨fun a U g mk q => ⟨q.1, q.2⟩, fun U hU hW => ⟨rfl, congrArg Array.size hU⟩⟩ rfl rfl hl.1 rfl (lv_room (Nat.le_of_ble_eq_true rfl)) dX12_go_167 ⟨Nat.le_of_ble_eq_true rfl, Nat.le_of_ble_eq_true rfl⟩) hS (fun q _ h9 => nM_up hS q h9) (nM_up hS) (fun r_394 u t H1 locs ht _ hw hB _ hk1 hS => ?_)
                      obtain ⟨p_395, p_396, -⟩ := hw
                      have hP := my_keepM hP hk1
                      generalize H1 = H at hP hS ⊢
                      refine lv_istore_n (lv' := [(2, .int r_394), (1, .int v_368), (0, .ref h)]) hx hb dX12_go_170 rfl hl (by decide) rfl (fun ls hl => ?_)
                      refine lv_iconst (v := 1) hx hb dX12_go_171 (by decide) ?_
                      refine lv_istore_n (lv' := [(3, .int 1), (2, .int r_394), (1, .int v_368), (0, .ref h)]) hx hb dX12_go_172 rfl hl (by decide) rfl (fun ls hl => ?_)
                      refine lv_aload_n hx hb dX12_go_173 rfl (lv_at hl 3 rfl) ?_
                      refine lv_lconst (v := 0) hx hb dX12_go_174 (by decide) ?_
                      refine pM_46 hx hb htg hown hK hP hS hd dX12_go_175 (fun H locs hP hS => ?_)
                      refine lv_aload_n hx hb dX12_go_178 rfl (lv_at hl 3 rfl) ?_
                      refine lv_iconst (v := 0) hx hb dX12_go_179 (by decide) ?_
                      refine pM_41 hx hb htg hown hK hP hS hd dX12_go_180 (fun H locs fv_397 efv_397 hP hS => ?_)
                      have hF_fv_397 : rF fv_397 := rF_put hF_fv_28 efv_397 (iv_any _)
                      refine my_cut (P := fun R9 a9 Q9 => ∀ (n_405 : Nat) (x_398 : Int32) (fv_399 : Nat → Int32) (ar_401 : Nat → Nat → Int32) (wd_403 : Int64) (H : Heap) (locs : List Loc) (ls : Array Slot), 340 - (fv_399 38).toInt < (n_405 : Int) → (0 ≤ x_398.toInt ∧ x_398.toInt ≤ 1) → rF fv_399 → fM [38, 41] fv_397 fv_399 → rA ar_401 → fA [] ar ar_401 → (0 ≤ (fv_399 38).toInt ∧ (fv_399 38).toInt ≤ 340) → va_P (dC, dI) vwCl (wsM h ad cA fv_399 wd_403 ar_401) H → va_S (aM h ad s.heap.size) s.heap H locs → lv_has ls 5 [(0, .ref h), (2, .int r_394), (3, .int x_398)] → W p l e R9 s m a9 below meth c H locs 0 0 Q9 (F0 m 183 ls [])) ?_ (fun hj_407 => ?_)
                      · intro n_405
                        induction n_405 with
                        | zero => intro x_398 fv_399 ar_401 wd_403 H locs ls fu_406 i_x_398 hF_fv_399 fr_400 hA_ar_401 fa_402 q_404; exfalso; omega
                        | succ n_405 ih_405 =>
                          intro x_398 fv_399 ar_401 wd_403 H locs ls fu_406 i_x_398 hF_fv_399 fr_400 hA_ar_401 fa_402 q_404 hP hS hl
                          refine lv_aload_n hx hb dX12_go_183 rfl (lv_at hl 0 rfl) ?_
                          refine lv_aload_n hx hb dX12_go_184 rfl (lv_at hl 0 rfl) ?_
                          refine gM_38 hx hb htg hown hK hP dX12_go_185 ?_
                          have i_408 : 0 ≤ (fv_399 38).toInt ∧ (fv_399 38).toInt ≤ 340 := hF_fv_399 38
                          refine va_calli (va_runV (As := [.int (fv_399 38)]) (rest := []) ⟨hx, hb, hml, hown, hts⟩ (m_byteAt l dC dI H.size h ad cA hd fv_399 wd_403 ar_401 hF_fv_399 hA_ar_401 (fv_399 38) i_408) (cwV 1 hts (gV kw_8_73 kw_8_75 kw_p_65 kw_1_15 kw_8_76) rfl rfl rfl (by decide +kernel) ⟨Nat.le_of_ble_eq_true rfl, Nat.le_of_ble_eq_true rfl⟩) ⟨fun a U g mk q => ⟨q.1, q.2.1, q.2.2.1, va_K.moved (u := U) (U := U.calling g mk a) (Vm.Alike.refl U.vm) q.2.2.2⟩, va_recv hK hP (ci := 12) (q0 := 0) rfl rfl, fun U hU hW => ⟨rfl, by rw [hU], by rw [hU]; exact hP, va_K.moved hW.alike hK⟩⟩ rfl rfl hl.1 rfl (lv_room (Nat.le_of_ble_eq_true rfl)) dX12_go_188 ⟨Nat.le_of_ble_eq_true rfl, Nat.le_of_ble_eq_true rfl⟩) hS (fun q _ h9 => aM_up hS q h9) (aM_up hS) (fun r_409 u t H1 locs ht _ hw hB _ hk1 hS => ?_)
                          obtain ⟨fv_412, wd_413, ar_414⟩ := u
                          obtain ⟨hF_fv_412, hA_ar_414, fr_415, fa_416, p_410, p_411, -⟩ := hw
                          have hP : va_P (dC, dI) vwCl (wsM h ad cA fv_412 wd_413 ar_414) H1 := by have h9 := hB.1; rw [ht] at h9; exact h9
                          have fr_415 : fM [] fv_399 fv_412 := fr_415
                          have fa_416 : fA [] ar_401 ar_414 := fa_416
                          have p_411 : r_409.toInt = 0 ∨ (fv_399 38).toInt ≤ 339 := p_411
                          generalize H1 = H at hP hS ⊢
                          refine va_calli (va_runS (As := [.int r_409]) (rest := []) ⟨hx, hb, hml, hown, hts⟩ (m_isLetter l H.size r_409) (va_cwS 1 hts (gS kw_8_64 kw_8_65 kw_1_15 kw_8_66) rfl rfl rfl (by decide +kernel) ⟨Nat.le_of_ble_eq_true rfl, Nat.le_of_ble_eq_true rfl⟩) ⟨fun a U g mk q => ⟨q.1, q.2⟩, fun U hU hW => ⟨rfl, congrArg Array.size hU⟩⟩ rfl rfl hl.1 rfl (lv_room (Nat.le_of_ble_eq_true rfl)) dX12_go_191 ⟨Nat.le_of_ble_eq_true rfl, Nat.le_of_ble_eq_true rfl⟩) hS (fun q _ h9 => nM_up hS q h9) (nM_up hS) (fun r_417 u t H1 locs ht _ hw hB _ hk1 hS => ?_)
                          obtain ⟨p_418, p_419, -⟩ := hw
                          have hP := my_keepM hP hk1
                          generalize H1 = H at hP hS ⊢
                          rcases p_419 with ⟨rfl, p_419⟩ | ⟨rfl, p_419⟩
                          · skip
                            refine lv_if_ne (tgt := 211) hx hb dX12_go_194 (by decide) (fun c_420 => ?_) (fun c_420 => ?_)
                            · skip
                              exact absurd c_420 (by decide)
                            · skip
                              refine lv_aload_n hx hb dX12_go_197 rfl (lv_at hl 0 rfl) ?_
                              refine lv_aload_n hx hb dX12_go_198 rfl (lv_at hl 0 rfl) ?_
                              refine gM_38 hx hb htg hown hK hP dX12_go_199 ?_
                              refine my_ti (y := fv_399 38) ((fr_415 38 rfl)) ?_
                              refine va_calli (va_runV (As := [.int (fv_399 38)]) (rest := []) ⟨hx, hb, hml, hown, hts⟩ (m_byteAt l dC dI H.size h ad cA hd fv_412 wd_413 ar_414 hF_fv_412 hA_ar_414 (fv_399 38) i_408) (cwV 1 hts (gV kw_8_73 kw_8_75 kw_p_65 kw_1_15 kw_8_76) rfl rfl rfl (by decide +kernel) ⟨Nat.le_of_ble_eq_true rfl, Nat.le_of_ble_eq_true rfl⟩) ⟨fun a U g mk q => ⟨q.1, q.2.1, q.2.2.1, va_K.moved (u := U) (U := U.calling g mk a) (Vm.Alike.refl U.vm) q.2.2.2⟩, va_recv hK hP (ci := 12) (q0 := 0) rfl rfl, fun U hU hW => ⟨rfl, by rw [hU], by rw [hU]; exact hP, va_K.moved hW.alike hK⟩⟩ rfl rfl hl.1 rfl (lv_room (Nat.le_of_ble_eq_true rfl)) dX12_go_202 ⟨Nat.le_of_ble_eq_true rfl, Nat.le_of_ble_eq_true rfl⟩) hS (fun q _ h9 => aM_up hS q h9) (aM_up hS) (fun r_462 u t H1 locs ht _ hw hB _ hk1 hS => ?_)
                              obtain ⟨fv_465, wd_466, ar_467⟩ := u
                              obtain ⟨hF_fv_465, hA_ar_467, fr_468, fa_469, p_463, p_464, -⟩ := hw
                              have hP : va_P (dC, dI) vwCl (wsM h ad cA fv_465 wd_466 ar_467) H1 := by have h9 := hB.1; rw [ht] at h9; exact h9
                              have fr_468 : fM [] fv_412 fv_465 := fr_468
                              have fa_469 : fA [] ar_414 ar_467 := fa_469
                              have p_464 : r_462.toInt = 0 ∨ (fv_399 38).toInt ≤ 339 := p_464
                              generalize H1 = H at hP hS ⊢
                              refine va_calli (va_runS (As := [.int r_462]) (rest := []) ⟨hx, hb, hml, hown, hts⟩ (m_isDigit l H.size r_462) (va_cwS 1 hts (gS kw_8_67 kw_8_68 kw_1_15 kw_8_69) rfl rfl rfl (by decide +kernel) ⟨Nat.le_of_ble_eq_true rfl, Nat.le_of_ble_eq_true rfl⟩) ⟨fun a U g mk q => ⟨q.1, q.2⟩, fun U hU hW => ⟨rfl, congrArg Array.size hU⟩⟩ rfl rfl hl.1 rfl (lv_room (Nat.le_of_ble_eq_true rfl)) dX12_go_205 ⟨Nat.le_of_ble_eq_true rfl, Nat.le_of_ble_eq_true rfl⟩) hS (fun q _ h9 => nM_up hS q h9) (nM_up hS) (fun r_470 u t H1 locs ht _ hw hB _ hk1 hS => ?_)
                              obtain ⟨p_471, p_472, -⟩ := hw
                              have hP := my_keepM hP hk1
                              generalize H1 = H at hP hS ⊢
                              rcases p_472 with ⟨rfl, p_472⟩ | ⟨rfl, p_472⟩
                              · skip
                                refine lv_if_eq (tgt := 318) hx hb dX12_go_208 (by decide) (fun c_473 => ?_) (fun c_473 => ?_)
                                · skip
                                  refine lv_aload_n hx hb dX12_go_318 rfl (lv_at hl 0 rfl) ?_
                                  refine lv_iload_n hx hb dX12_go_319 rfl (lv_at hl 2 rfl) ?_
                                  refine lv_if_eq (tgt := 345) hx hb dX12_go_320 (by decide) (fun c_515 => ?_) (fun c_515 => ?_)
                                  · skip
                                    have i_516 : 0 ≤ x_398.toInt ∧ x_398.toInt ≤ 0 := iv_eq1 (⟨by decide, by decide⟩ : (0 : Int) ≤ (0 : Int32).toInt ∧ (0 : Int32).toInt ≤ 0) c_515
                                    refine lv_iconst (v := 1) hx hb dX12_go_345 (by decide) ?_
                                    refine lv_goto (tgt := 358) hx hb dX12_go_346 (by decide) ?_
                                    refine pM_40 hx hb htg hown hK hP hS hd dX12_go_358 (fun H locs fv_517 efv_517 hP hS => ?_)
                                    have hF_fv_517 : rF fv_517 := rF_put hF_fv_465 efv_517 (iv_any _)
                                    exact W.vret hx hb hr (fun t ht hW => ⟨⟨(fv_517, wd_466, ar_467), rfl, ⟨hF_fv_517, hA_ar_467, (fM_put (fM_call (fM_call (fM_call (fM_put (fM_put (fM_call (fM_rf [38, 39, 40, 41, 42] _) fr_2 (by decide)) efv_28 (by decide)) efv_397 (by decide)) fr_400 (by decide)) fr_415 (by decide)) fr_468 (by decide)) efv_517 (by decide)), (fA_call (fA_call (fA_call (fA_rf [] _) fa_402 (by decide)) fa_416 (by decide)) fa_469 (by decide)), trivial⟩, ⟨by rw [ht]; exact hP, va_K.moved hW.alike hK⟩⟩, hS.F ht⟩) hS.2.2 dX12_go_361
                                  · skip
                                    have i_518 : 1 ≤ x_398.toInt ∧ x_398.toInt ≤ 1 := iv_nel i_x_398 (by decide) c_515
                                    refine lv_aload_n hx hb dX12_go_323 rfl (lv_at hl 0 rfl) ?_
                                    refine gM_38 hx hb htg hown hK hP dX12_go_324 ?_
                                    refine my_ti (y := fv_399 38) ((fr_468 38 rfl).trans ((fr_415 38 rfl))) ?_
                                    refine lv_aload_n hx hb dX12_go_327 rfl (lv_at hl 0 rfl) ?_
                                    refine gM_39 hx hb htg hown hK hP dX12_go_328 ?_
                                    refine my_ti (y := fv_1 38) ((fr_468 39 rfl).trans ((fr_415 39 rfl).trans ((fr_400 39 rfl).trans ((congrFun efv_397 39).trans ((congrFun efv_28 39)))))) ?_
                                    refine lv_isub hx hb dX12_go_331 ?_
                                    refine lv_topi (fun v_519 ev_519 => ?_)
                                    have t_520 : v_519.toInt = (fv_399 38 : Int32).toInt - (fv_1 38).toInt ∧ (-299) ≤ v_519.toInt ∧ v_519.toInt ≤ 340 := iv_sub ev_519 i_408 i_366 (by decide) (by decide)
                                    refine lv_iload_n hx hb dX12_go_332 rfl (lv_at hl 1 rfl) ?_
                                    refine my_cut (P := fun R9 a9 Q9 => ∀ (x_525 : Int32) (H : Heap) (locs : List Loc) (ls : Array Slot), (4 ≤ x_525.toInt ∧ x_525.toInt ≤ 8) → va_P (dC, dI) vwCl (wsM h ad cA fv_465 wd_466 ar_467) H → va_S (aM h ad s.heap.size) s.heap H locs → lv_has ls 5 [(2, .int r_394)] → W p l e R9 s m a9 below meth c H locs 0 0 Q9 (F0 m 342 ls [.int x_525, .int v_519, .ref h])) ?_ (fun hj_526 => ?_)
                                    · intro x_525 H locs ls i_x_525 hP hS hl
                                      refine lv_icmp_le (tgt := 349) hx hb dX12_go_342 (by decide) (fun c_527 => ?_) (fun c_527 => ?_)
                                      · skip
                                        have i_528 : (-299) ≤ v_519.toInt ∧ v_519.toInt ≤ 8 := iv_le1 t_520.2 i_x_525 c_527
                                        refine lv_iload_n hx hb dX12_go_349 rfl (lv_at hl 0 rfl) ?_
                                        refine lv_if_eq (tgt := 357) hx hb dX12_go_350 (by decide) (fun c_529 => ?_) (fun c_529 => ?_)
                                        · skip
                                          have i_530 : 0 ≤ r_394.toInt ∧ r_394.toInt ≤ 0 := iv_eq1 (⟨by decide, by decide⟩ : (0 : Int) ≤ (0 : Int32).toInt ∧ (0 : Int32).toInt ≤ 0) c_529
                                          refine lv_iconst (v := 3) hx hb dX12_go_357 (by decide) ?_
                                          refine pM_40 hx hb htg hown hK hP hS hd dX12_go_358 (fun H locs fv_531 efv_531 hP hS => ?_)
                                          have hF_fv_531 : rF fv_531 := rF_put hF_fv_465 efv_531 (iv_any _)
                                          exact W.vret hx hb hr (fun t ht hW => ⟨⟨(fv_531, wd_466, ar_467), rfl, ⟨hF_fv_531, hA_ar_467, (fM_put (fM_call (fM_call (fM_call (fM_put (fM_put (fM_call (fM_rf [38, 39, 40, 41, 42] _) fr_2 (by decide)) efv_28 (by decide)) efv_397 (by decide)) fr_400 (by decide)) fr_415 (by decide)) fr_468 (by decide)) efv_531 (by decide)), (fA_call (fA_call (fA_call (fA_rf [] _) fa_402 (by decide)) fa_416 (by decide)) fa_469 (by decide)), trivial⟩, ⟨by rw [ht]; exact hP, va_K.moved hW.alike hK⟩⟩, hS.F ht⟩) hS.2.2 dX12_go_361
                                        · skip
                                          have i_532 : 1 ≤ r_394.toInt ∧ r_394.toInt ≤ 1 := iv_nel p_395 (by decide) c_529
                                          refine lv_iconst (v := 2) hx hb dX12_go_353 (by decide) ?_
                                          refine lv_goto (tgt := 358) hx hb dX12_go_354 (by decide) ?_
                                          refine pM_40 hx hb htg hown hK hP hS hd dX12_go_358 (fun H locs fv_533 efv_533 hP hS => ?_)
                                          have hF_fv_533 : rF fv_533 := rF_put hF_fv_465 efv_533 (iv_any _)
                                          exact W.vret hx hb hr (fun t ht hW => ⟨⟨(fv_533, wd_466, ar_467), rfl, ⟨hF_fv_533, hA_ar_467, (fM_put (fM_call (fM_call (fM_call (fM_put (fM_put (fM_call (fM_rf [38, 39, 40, 41, 42] _) fr_2 (by decide)) efv_28 (by decide)) efv_397 (by decide)) fr_400 (by decide)) fr_415 (by decide)) fr_468 (by decide)) efv_533 (by decide)), (fA_call (fA_call (fA_call (fA_rf [] _) fa_402 (by decide)) fa_416 (by decide)) fa_469 (by decide)), trivial⟩, ⟨by rw [ht]; exact hP, va_K.moved hW.alike hK⟩⟩, hS.F ht⟩) hS.2.2 dX12_go_361
                                      · skip
                                        have i_534 : 5 ≤ v_519.toInt ∧ v_519.toInt ≤ 340 := iv_lt2 i_x_525 t_520.2 (Int32.not_le.mp c_527)
                                        refine lv_iconst (v := 1) hx hb dX12_go_345 (by decide) ?_
                                        refine lv_goto (tgt := 358) hx hb dX12_go_346 (by decide) ?_
                                        refine pM_40 hx hb htg hown hK hP hS hd dX12_go_358 (fun H locs fv_535 efv_535 hP hS => ?_)
                                        have hF_fv_535 : rF fv_535 := rF_put hF_fv_465 efv_535 (iv_any _)
                                        exact W.vret hx hb hr (fun t ht hW => ⟨⟨(fv_535, wd_466, ar_467), rfl, ⟨hF_fv_535, hA_ar_467, (fM_put (fM_call (fM_call (fM_call (fM_put (fM_put (fM_call (fM_rf [38, 39, 40, 41, 42] _) fr_2 (by decide)) efv_28 (by decide)) efv_397 (by decide)) fr_400 (by decide)) fr_415 (by decide)) fr_468 (by decide)) efv_535 (by decide)), (fA_call (fA_call (fA_call (fA_rf [] _) fa_402 (by decide)) fa_416 (by decide)) fa_469 (by decide)), trivial⟩, ⟨by rw [ht]; exact hP, va_K.moved hW.alike hK⟩⟩, hS.F ht⟩) hS.2.2 dX12_go_361
                                    · skip
                                      refine lv_if_eq (tgt := 341) hx hb dX12_go_333 (by decide) (fun c_522 => ?_) (fun c_522 => ?_)
                                      · skip
                                        have i_523 : 0 ≤ r_394.toInt ∧ r_394.toInt ≤ 0 := iv_eq1 (⟨by decide, by decide⟩ : (0 : Int) ≤ (0 : Int32).toInt ∧ (0 : Int32).toInt ≤ 0) c_522
                                        refine lv_iconst (v := 4) hx hb dX12_go_341 (by decide) ?_
                                        exact hj_526 4 _ _ ls (iv_w (⟨by decide, by decide⟩ : (4 : Int) ≤ (4 : Int32).toInt ∧ (4 : Int32).toInt ≤ 4) (by decide) (by decide)) hP hS (lv_sub hl [1] rfl)
                                      · skip
                                        have i_524 : 1 ≤ r_394.toInt ∧ r_394.toInt ≤ 1 := iv_nel p_395 (by decide) c_522
                                        refine lv_bipush (v := 8) hx hb dX12_go_336 (by decide) ?_
                                        refine lv_goto (tgt := 342) hx hb dX12_go_338 (by decide) ?_
                                        exact hj_526 8 _ _ ls (iv_w (⟨by decide, by decide⟩ : (8 : Int) ≤ (8 : Int32).toInt ∧ (8 : Int32).toInt ≤ 8) (by decide) (by decide)) hP hS (lv_sub hl [1] rfl)
                                · skip
                                  exact absurd c_473 (by decide)
                              · skip
                                have i_474 : 48 ≤ r_462.toInt ∧ r_462.toInt ≤ 255 := ⟨p_472.1, p_463.2⟩
                                have i_475 : 48 ≤ r_462.toInt ∧ r_462.toInt ≤ 57 := ⟨i_474.1, p_472.2⟩
                                refine lv_if_eq (tgt := 318) hx hb dX12_go_208 (by decide) (fun c_476 => ?_) (fun c_476 => ?_)
                                · skip
                                  exact absurd c_476 (by decide)
                                · skip
                                  have i_477 : 0 ≤ (fv_399 38).toInt ∧ (fv_399 38).toInt ≤ 339 := (by omega)
                                  refine lv_aload_n hx hb dX12_go_211 rfl (lv_at hl 0 rfl) ?_
                                  refine gM_1 hx hb htg hown hK hP dX12_go_212 ?_
                                  refine lv_aload_n hx hb dX12_go_215 rfl (lv_at hl 0 rfl) ?_
                                  refine gM_38 hx hb htg hown hK hP dX12_go_216 ?_
                                  refine my_ti (y := fv_399 38) ((fr_468 38 rfl).trans ((fr_415 38 rfl))) ?_
                                  refine lM_1 hx hb hK hP (iv_in i_477 (by decide) (by decide)) dX12_go_219 (fun v_478 ev_478 => ?_)
                                  have i_479 : 0 ≤ v_478.toInt ∧ v_478.toInt ≤ 255 := ev_478 ▸ hA_ar_467 1 _
                                  refine lv_istore (lv' := [(4, .int v_478), (0, .ref h), (2, .int r_394), (3, .int x_398)]) hx hb dX12_go_220 hl (by decide) rfl (fun ls hl => ?_)
                                  refine lv_iload_n hx hb dX12_go_222 rfl (lv_at hl 3 rfl) ?_
                                  refine my_cut (P := fun R9 a9 Q9 => ∀ (x_487 : Int32) (H : Heap) (locs : List Loc) (ls : Array Slot), (0 ≤ x_487.toInt ∧ x_487.toInt ≤ 1) → va_P (dC, dI) vwCl (wsM h ad cA fv_465 wd_466 ar_467) H → va_S (aM h ad s.heap.size) s.heap H locs → lv_has ls 5 [(0, .ref h), (2, .int r_394), (4, .int v_478)] → W p l e R9 s m a9 below meth c H locs 0 0 Q9 (F0 m 240 ls [.int x_487])) ?_ (fun hj_488 => ?_)
                                  · intro x_487 H locs ls i_x_487 hP hS hl
                                    refine lv_istore_n (lv' := [(3, .int x_487), (0, .ref h), (2, .int r_394), (4, .int v_478)]) hx hb dX12_go_240 rfl hl (by decide) rfl (fun ls hl => ?_)
                                    refine lv_aload_n hx hb dX12_go_241 rfl (lv_at hl 1 rfl) ?_
                                    refine gM_38 hx hb htg hown hK hP dX12_go_242 ?_
                                    refine my_ti (y := fv_399 38) ((fr_468 38 rfl).trans ((fr_415 38 rfl))) ?_
                                    refine lv_aload_n hx hb dX12_go_245 rfl (lv_at hl 1 rfl) ?_
                                    refine gM_39 hx hb htg hown hK hP dX12_go_246 ?_
                                    refine my_ti (y := fv_1 38) ((fr_468 39 rfl).trans ((fr_415 39 rfl).trans ((fr_400 39 rfl).trans ((congrFun efv_397 39).trans ((congrFun efv_28 39)))))) ?_
                                    refine lv_isub hx hb dX12_go_249 ?_
                                    refine lv_topi (fun v_489 ev_489 => ?_)
                                    have t_490 : v_489.toInt = (fv_399 38 : Int32).toInt - (fv_1 38).toInt ∧ (-299) ≤ v_489.toInt ∧ v_489.toInt ≤ 339 := iv_sub ev_489 i_477 i_366 (by decide) (by decide)
                                    refine lv_bipush (v := 8) hx hb dX12_go_250 (by decide) ?_
                                    refine my_cut (P := fun R9 a9 Q9 => ∀ (wd_499 : Int64) (H : Heap) (locs : List Loc) (ls : Array Slot), va_P (dC, dI) vwCl (wsM h ad cA fv_465 wd_499 ar_467) H → va_S (aM h ad s.heap.size) s.heap H locs → lv_has ls 5 [(0, .ref h), (2, .int r_394), (3, .int x_487), (4, .int v_478)] → W p l e R9 s m a9 below meth c H locs 0 0 Q9 (F0 m 275 ls [])) ?_ (fun hj_500 => ?_)
                                    · intro wd_499 H locs ls  hP hS hl
                                      refine lv_aload_n hx hb dX12_go_275 rfl (lv_at hl 0 rfl) ?_
                                      refine gM_38 hx hb htg hown hK hP dX12_go_276 ?_
                                      refine my_ti (y := fv_399 38) ((fr_468 38 rfl).trans ((fr_415 38 rfl))) ?_
                                      refine lv_aload_n hx hb dX12_go_279 rfl (lv_at hl 0 rfl) ?_
                                      refine gM_39 hx hb htg hown hK hP dX12_go_280 ?_
                                      refine my_ti (y := fv_1 38) ((fr_468 39 rfl).trans ((fr_415 39 rfl).trans ((fr_400 39 rfl).trans ((congrFun efv_397 39).trans ((congrFun efv_28 39)))))) ?_
                                      refine lv_isub hx hb dX12_go_283 ?_
                                      refine my_ti (y := v_489) ev_489.symm ?_
                                      refine lv_iconst (v := 4) hx hb dX12_go_284 (by decide) ?_
                                      refine my_cut (P := fun R9 a9 Q9 => ∀ (fv_508 : Nat → Int32) (H : Heap) (locs : List Loc) (ls : Array Slot), rF fv_508 → fM [41] fv_465 fv_508 → va_P (dC, dI) vwCl (wsM h ad cA fv_508 wd_499 ar_467) H → va_S (aM h ad s.heap.size) s.heap H locs → lv_has ls 5 [(0, .ref h), (2, .int r_394), (3, .int x_487)] → W p l e R9 s m a9 below meth c H locs 0 0 Q9 (F0 m 305 ls [])) ?_ (fun hj_510 => ?_)
                                      · intro fv_508 H locs ls hF_fv_508 fr_509 hP hS hl
                                        refine lv_aload_n hx hb dX12_go_305 rfl (lv_at hl 0 rfl) ?_
                                        refine lv_dup hx hb dX12_go_306 rfl ?_
                                        refine gM_38 hx hb htg hown hK hP dX12_go_307 ?_
                                        refine my_ti (y := fv_399 38) ((fr_509 38 rfl).trans ((fr_468 38 rfl).trans ((fr_415 38 rfl)))) ?_
                                        refine lv_iconst (v := 1) hx hb dX12_go_310 (by decide) ?_
                                        refine lv_iadd hx hb dX12_go_311 ?_
                                        refine lv_topi (fun v_511 ev_511 => ?_)
                                        have t_512 : v_511.toInt = (fv_399 38).toInt + 1 ∧ 1 ≤ v_511.toInt ∧ v_511.toInt ≤ 340 := iv_addc ev_511 i_477 (by decide) (by decide) (by decide)
                                        refine pM_38 hx hb htg hown hK hP hS hd dX12_go_312 (fun H locs fv_514 efv_514 hP hS => ?_)
                                        have hF_fv_514 : rF fv_514 := rF_put hF_fv_508 efv_514 (iv_w t_512.2 (by decide) (by decide))
                                        refine lv_goto (tgt := 183) hx hb dX12_go_315 (by decide) ?_
                                        have z_538 : (fv_514 38).toInt = v_511.toInt := congrArg Int32.toInt ((congrFun efv_514 38))
                                        have z_539 : 0 ≤ (fv_514 38).toInt ∧ (fv_514 38).toInt ≤ 340 := hF_fv_514 38
                                        exact ih_405 x_487 fv_514 ar_467 wd_499 _ _ ls (by omega) i_x_487 hF_fv_514 (fM_put (fM_call (fM_call (fM_call (fM_call (fM_rf [38, 41] _) fr_400 (by decide)) fr_415 (by decide)) fr_468 (by decide)) fr_509 (by decide)) efv_514 (by decide)) hA_ar_467 (fA_call (fA_call (fA_call (fA_rf [] _) fa_402 (by decide)) fa_416 (by decide)) fa_469 (by decide)) (by omega) hP hS (lv_sub hl [0, 1, 2] rfl)
                                      · skip
                                        refine lv_icmp_ge (tgt := 305) hx hb dX12_go_285 (by decide) (fun c_501 => ?_) (fun c_501 => ?_)
                                        · skip
                                          have i_502 : 4 ≤ v_489.toInt ∧ v_489.toInt ≤ 339 := iv_le2 (⟨by decide, by decide⟩ : (4 : Int) ≤ (4 : Int32).toInt ∧ (4 : Int32).toInt ≤ 4) t_490.2 c_501
                                          exact hj_510 fv_465 _ _ ls hF_fv_465 (fM_rf [41] _) hP hS (lv_sub hl [0, 1, 2] rfl)
                                        · skip
                                          have i_503 : (-299) ≤ v_489.toInt ∧ v_489.toInt ≤ 3 := iv_lt1 t_490.2 (⟨by decide, by decide⟩ : (4 : Int) ≤ (4 : Int32).toInt ∧ (4 : Int32).toInt ≤ 4) (Int32.not_le.mp c_501)
                                          refine lv_aload_n hx hb dX12_go_288 rfl (lv_at hl 0 rfl) ?_
                                          refine lv_bipush (v := 10) hx hb dX12_go_289 (by decide) ?_
                                          refine lv_aload_n hx hb dX12_go_291 rfl (lv_at hl 0 rfl) ?_
                                          refine gM_41 hx hb htg hown hK hP dX12_go_292 ?_
                                          refine my_ti (y := fv_399 41) ((fr_468 41 rfl).trans ((fr_415 41 rfl))) ?_
                                          refine lv_imul hx hb dX12_go_295 ?_
                                          refine lv_topi (fun v_504 ev_504 => ?_)
                                          refine lv_iload hx hb dX12_go_296 (lv_at hl 3 rfl) ?_
                                          refine lv_iadd hx hb dX12_go_298 ?_
                                          refine lv_topi (fun v_505 ev_505 => ?_)
                                          refine lv_bipush (v := 48) hx hb dX12_go_299 (by decide) ?_
                                          refine lv_isub hx hb dX12_go_301 ?_
                                          refine lv_topi (fun v_506 ev_506 => ?_)
                                          refine pM_41 hx hb htg hown hK hP hS hd dX12_go_302 (fun H locs fv_507 efv_507 hP hS => ?_)
                                          have hF_fv_507 : rF fv_507 := rF_put hF_fv_465 efv_507 (iv_any v_506)
                                          exact hj_510 fv_507 _ _ ls hF_fv_507 (fM_put (fM_rf [41] _) efv_507 (by decide)) hP hS (lv_sub hl [0, 1, 2] rfl)
                                    · skip
                                      refine lv_icmp_ge (tgt := 275) hx hb dX12_go_252 (by decide) (fun c_492 => ?_) (fun c_492 => ?_)
                                      · skip
                                        have i_493 : 8 ≤ v_489.toInt ∧ v_489.toInt ≤ 339 := iv_le2 (⟨by decide, by decide⟩ : (8 : Int) ≤ (8 : Int32).toInt ∧ (8 : Int32).toInt ≤ 8) t_490.2 c_492
                                        exact hj_500 wd_466 _ _ ls  hP hS (lv_sub hl [1, 2, 0, 3] rfl)
                                      · skip
                                        have i_494 : (-299) ≤ v_489.toInt ∧ v_489.toInt ≤ 7 := iv_lt1 t_490.2 (⟨by decide, by decide⟩ : (8 : Int) ≤ (8 : Int32).toInt ∧ (8 : Int32).toInt ≤ 8) (Int32.not_le.mp c_492)
                                        refine lv_aload_n hx hb dX12_go_255 rfl (lv_at hl 1 rfl) ?_
                                        refine lv_ldc2 (v := 27) hx hb hown (htg (.constantLong RX12 313 27) kw_8_77) dX12_go_256 ?_
                                        refine lv_aload_n hx hb dX12_go_259 rfl (lv_at hl 1 rfl) ?_
                                        refine gM_46 hx hb htg hown hK hP dX12_go_260 ?_
                                        refine lv_lmul hx hb dX12_go_263 ?_
                                        refine lv_topl (fun w_495 _ => ?_)
                                        refine lv_iload hx hb dX12_go_264 (lv_at hl 3 rfl) ?_
                                        refine lv_i2l hx hb dX12_go_266 rfl ?_
                                        refine lv_topl (fun w_496 _ => ?_)
                                        refine lv_ladd hx hb dX12_go_267 ?_
                                        refine lv_topl (fun w_497 _ => ?_)
                                        refine lv_ldc2 (v := 96) hx hb hown (htg (.constantLong RX12 315 96) kw_8_78) dX12_go_268 ?_
                                        refine lv_lsub hx hb dX12_go_271 ?_
                                        refine lv_topl (fun w_498 _ => ?_)
                                        refine pM_46 hx hb htg hown hK hP hS hd dX12_go_272 (fun H locs hP hS => ?_)
                                        exact hj_500 w_498 _ _ ls  hP hS (lv_sub hl [1, 2, 0, 3] rfl)
                                  · skip
                                    refine lv_if_eq (tgt := 239) hx hb dX12_go_223 (by decide) (fun c_480 => ?_) (fun c_480 => ?_)
                                    · skip
                                      have i_481 : 0 ≤ x_398.toInt ∧ x_398.toInt ≤ 0 := iv_eq1 (⟨by decide, by decide⟩ : (0 : Int) ≤ (0 : Int32).toInt ∧ (0 : Int32).toInt ≤ 0) c_480
                                      refine lv_iconst (v := 0) hx hb dX12_go_239 (by decide) ?_
                                      exact hj_488 0 _ _ ls (iv_w (⟨by decide, by decide⟩ : (0 : Int) ≤ (0 : Int32).toInt ∧ (0 : Int32).toInt ≤ 0) (by decide) (by decide)) hP hS (lv_sub hl [1, 2, 0] rfl)
                                    · skip
                                      have i_482 : 1 ≤ x_398.toInt ∧ x_398.toInt ≤ 1 := iv_nel i_x_398 (by decide) c_480
                                      refine lv_iload hx hb dX12_go_226 (lv_at hl 0 rfl) ?_
                                      refine va_calli (va_runS (As := [.int v_478]) (rest := []) ⟨hx, hb, hml, hown, hts⟩ (m_isLetter l H.size v_478) (va_cwS 1 hts (gS kw_8_64 kw_8_65 kw_1_15 kw_8_66) rfl rfl rfl (by decide +kernel) ⟨Nat.le_of_ble_eq_true rfl, Nat.le_of_ble_eq_true rfl⟩) ⟨fun a U g mk q => ⟨q.1, q.2⟩, fun U hU hW => ⟨rfl, congrArg Array.size hU⟩⟩ rfl rfl hl.1 rfl (lv_room (Nat.le_of_ble_eq_true rfl)) dX12_go_228 ⟨Nat.le_of_ble_eq_true rfl, Nat.le_of_ble_eq_true rfl⟩) hS (fun q _ h9 => nM_up hS q h9) (nM_up hS) (fun r_483 u t H1 locs ht _ hw hB _ hk1 hS => ?_)
                                      obtain ⟨p_484, p_485, -⟩ := hw
                                      have hP := my_keepM hP hk1
                                      generalize H1 = H at hP hS ⊢
                                      refine lv_iload_n hx hb dX12_go_231 rfl (lv_at hl 2 rfl) ?_
                                      refine lv_icmp_ne (tgt := 239) hx hb dX12_go_232 (by decide) (fun c_486 => ?_) (fun c_486 => ?_)
                                      · skip
                                        refine lv_iconst (v := 0) hx hb dX12_go_239 (by decide) ?_
                                        exact hj_488 0 _ _ ls (iv_w (⟨by decide, by decide⟩ : (0 : Int) ≤ (0 : Int32).toInt ∧ (0 : Int32).toInt ≤ 0) (by decide) (by decide)) hP hS (lv_sub hl [1, 2, 0] rfl)
                                      · skip
                                        refine lv_iconst (v := 1) hx hb dX12_go_235 (by decide) ?_
                                        refine lv_goto (tgt := 240) hx hb dX12_go_236 (by decide) ?_
                                        exact hj_488 1 _ _ ls (iv_w (⟨by decide, by decide⟩ : (1 : Int) ≤ (1 : Int32).toInt ∧ (1 : Int32).toInt ≤ 1) (by decide) (by decide)) hP hS (lv_sub hl [1, 2, 0] rfl)
                          · skip
                            have i_421 : 97 ≤ r_409.toInt ∧ r_409.toInt ≤ 255 := ⟨p_419.1, p_410.2⟩
                            have i_422 : 97 ≤ r_409.toInt ∧ r_409.toInt ≤ 122 := ⟨i_421.1, p_419.2⟩
                            refine lv_if_ne (tgt := 211) hx hb dX12_go_194 (by decide) (fun c_423 => ?_) (fun c_423 => ?_)
                            · skip
                              have i_424 : 0 ≤ (fv_399 38).toInt ∧ (fv_399 38).toInt ≤ 339 := (by omega)
                              refine lv_aload_n hx hb dX12_go_211 rfl (lv_at hl 0 rfl) ?_
                              refine gM_1 hx hb htg hown hK hP dX12_go_212 ?_
                              refine lv_aload_n hx hb dX12_go_215 rfl (lv_at hl 0 rfl) ?_
                              refine gM_38 hx hb htg hown hK hP dX12_go_216 ?_
                              refine my_ti (y := fv_399 38) ((fr_415 38 rfl)) ?_
                              refine lM_1 hx hb hK hP (iv_in i_424 (by decide) (by decide)) dX12_go_219 (fun v_425 ev_425 => ?_)
                              have i_426 : 0 ≤ v_425.toInt ∧ v_425.toInt ≤ 255 := ev_425 ▸ hA_ar_414 1 _
                              refine lv_istore (lv' := [(4, .int v_425), (0, .ref h), (2, .int r_394), (3, .int x_398)]) hx hb dX12_go_220 hl (by decide) rfl (fun ls hl => ?_)
                              refine lv_iload_n hx hb dX12_go_222 rfl (lv_at hl 3 rfl) ?_
                              refine my_cut (P := fun R9 a9 Q9 => ∀ (x_434 : Int32) (H : Heap) (locs : List Loc) (ls : Array Slot), (0 ≤ x_434.toInt ∧ x_434.toInt ≤ 1) → va_P (dC, dI) vwCl (wsM h ad cA fv_412 wd_413 ar_414) H → va_S (aM h ad s.heap.size) s.heap H locs → lv_has ls 5 [(0, .ref h), (2, .int r_394), (4, .int v_425)] → W p l e R9 s m a9 below meth c H locs 0 0 Q9 (F0 m 240 ls [.int x_434])) ?_ (fun hj_435 => ?_)
                              · intro x_434 H locs ls i_x_434 hP hS hl
                                refine lv_istore_n (lv' := [(3, .int x_434), (0, .ref h), (2, .int r_394), (4, .int v_425)]) hx hb dX12_go_240 rfl hl (by decide) rfl (fun ls hl => ?_)
                                refine lv_aload_n hx hb dX12_go_241 rfl (lv_at hl 1 rfl) ?_
                                refine gM_38 hx hb htg hown hK hP dX12_go_242 ?_
                                refine my_ti (y := fv_399 38) ((fr_415 38 rfl)) ?_
                                refine lv_aload_n hx hb dX12_go_245 rfl (lv_at hl 1 rfl) ?_
                                refine gM_39 hx hb htg hown hK hP dX12_go_246 ?_
                                refine my_ti (y := fv_1 38) ((fr_415 39 rfl).trans ((fr_400 39 rfl).trans ((congrFun efv_397 39).trans ((congrFun efv_28 39))))) ?_
                                refine lv_isub hx hb dX12_go_249 ?_
                                refine lv_topi (fun v_436 ev_436 => ?_)
                                have t_437 : v_436.toInt = (fv_399 38 : Int32).toInt - (fv_1 38).toInt ∧ (-299) ≤ v_436.toInt ∧ v_436.toInt ≤ 339 := iv_sub ev_436 i_424 i_366 (by decide) (by decide)
                                refine lv_bipush (v := 8) hx hb dX12_go_250 (by decide) ?_
                                refine my_cut (P := fun R9 a9 Q9 => ∀ (wd_446 : Int64) (H : Heap) (locs : List Loc) (ls : Array Slot), va_P (dC, dI) vwCl (wsM h ad cA fv_412 wd_446 ar_414) H → va_S (aM h ad s.heap.size) s.heap H locs → lv_has ls 5 [(0, .ref h), (2, .int r_394), (3, .int x_434), (4, .int v_425)] → W p l e R9 s m a9 below meth c H locs 0 0 Q9 (F0 m 275 ls [])) ?_ (fun hj_447 => ?_)
                                · intro wd_446 H locs ls  hP hS hl
                                  refine lv_aload_n hx hb dX12_go_275 rfl (lv_at hl 0 rfl) ?_
                                  refine gM_38 hx hb htg hown hK hP dX12_go_276 ?_
                                  refine my_ti (y := fv_399 38) ((fr_415 38 rfl)) ?_
                                  refine lv_aload_n hx hb dX12_go_279 rfl (lv_at hl 0 rfl) ?_
                                  refine gM_39 hx hb htg hown hK hP dX12_go_280 ?_
                                  refine my_ti (y := fv_1 38) ((fr_415 39 rfl).trans ((fr_400 39 rfl).trans ((congrFun efv_397 39).trans ((congrFun efv_28 39))))) ?_
                                  refine lv_isub hx hb dX12_go_283 ?_
                                  refine my_ti (y := v_436) ev_436.symm ?_
                                  refine lv_iconst (v := 4) hx hb dX12_go_284 (by decide) ?_
                                  refine my_cut (P := fun R9 a9 Q9 => ∀ (fv_455 : Nat → Int32) (H : Heap) (locs : List Loc) (ls : Array Slot), rF fv_455 → fM [41] fv_412 fv_455 → va_P (dC, dI) vwCl (wsM h ad cA fv_455 wd_446 ar_414) H → va_S (aM h ad s.heap.size) s.heap H locs → lv_has ls 5 [(0, .ref h), (2, .int r_394), (3, .int x_434)] → W p l e R9 s m a9 below meth c H locs 0 0 Q9 (F0 m 305 ls [])) ?_ (fun hj_457 => ?_)
                                  · intro fv_455 H locs ls hF_fv_455 fr_456 hP hS hl
                                    refine lv_aload_n hx hb dX12_go_305 rfl (lv_at hl 0 rfl) ?_
                                    refine lv_dup hx hb dX12_go_306 rfl ?_
                                    refine gM_38 hx hb htg hown hK hP dX12_go_307 ?_
                                    refine my_ti (y := fv_399 38) ((fr_456 38 rfl).trans ((fr_415 38 rfl))) ?_
                                    refine lv_iconst (v := 1) hx hb dX12_go_310 (by decide) ?_
                                    refine lv_iadd hx hb dX12_go_311 ?_
                                    refine lv_topi (fun v_458 ev_458 => ?_)
                                    have t_459 : v_458.toInt = (fv_399 38).toInt + 1 ∧ 1 ≤ v_458.toInt ∧ v_458.toInt ≤ 340 := iv_addc ev_458 i_424 (by decide) (by decide) (by decide)
                                    refine pM_38 hx hb htg hown hK hP hS hd dX12_go_312 (fun H locs fv_461 efv_461 hP hS => ?_)
                                    have hF_fv_461 : rF fv_461 := rF_put hF_fv_455 efv_461 (iv_w t_459.2 (by decide) (by decide))
                                    refine lv_goto (tgt := 183) hx hb dX12_go_315 (by decide) ?_
                                    have z_536 : (fv_461 38).toInt = v_458.toInt := congrArg Int32.toInt ((congrFun efv_461 38))
                                    have z_537 : 0 ≤ (fv_461 38).toInt ∧ (fv_461 38).toInt ≤ 340 := hF_fv_461 38
                                    exact ih_405 x_434 fv_461 ar_414 wd_446 _ _ ls (by omega) i_x_434 hF_fv_461 (fM_put (fM_call (fM_call (fM_call (fM_rf [38, 41] _) fr_400 (by decide)) fr_415 (by decide)) fr_456 (by decide)) efv_461 (by decide)) hA_ar_414 (fA_call (fA_call (fA_rf [] _) fa_402 (by decide)) fa_416 (by decide)) (by omega) hP hS (lv_sub hl [0, 1, 2] rfl)
                                  · skip
                                    refine lv_icmp_ge (tgt := 305) hx hb dX12_go_285 (by decide) (fun c_448 => ?_) (fun c_448 => ?_)
                                    · skip
                                      have i_449 : 4 ≤ v_436.toInt ∧ v_436.toInt ≤ 339 := iv_le2 (⟨by decide, by decide⟩ : (4 : Int) ≤ (4 : Int32).toInt ∧ (4 : Int32).toInt ≤ 4) t_437.2 c_448
                                      exact hj_457 fv_412 _ _ ls hF_fv_412 (fM_rf [41] _) hP hS (lv_sub hl [0, 1, 2] rfl)
                                    · skip
                                      have i_450 : (-299) ≤ v_436.toInt ∧ v_436.toInt ≤ 3 := iv_lt1 t_437.2 (⟨by decide, by decide⟩ : (4 : Int) ≤ (4 : Int32).toInt ∧ (4 : Int32).toInt ≤ 4) (Int32.not_le.mp c_448)
                                      refine lv_aload_n hx hb dX12_go_288 rfl (lv_at hl 0 rfl) ?_
                                      refine lv_bipush (v := 10) hx hb dX12_go_289 (by decide) ?_
                                      refine lv_aload_n hx hb dX12_go_291 rfl (lv_at hl 0 rfl) ?_
                                      refine gM_41 hx hb htg hown hK hP dX12_go_292 ?_
                                      refine my_ti (y := fv_399 41) ((fr_415 41 rfl)) ?_
                                      refine lv_imul hx hb dX12_go_295 ?_
                                      refine lv_topi (fun v_451 ev_451 => ?_)
                                      refine lv_iload hx hb dX12_go_296 (lv_at hl 3 rfl) ?_
                                      refine lv_iadd hx hb dX12_go_298 ?_
                                      refine lv_topi (fun v_452 ev_452 => ?_)
                                      refine lv_bipush (v := 48) hx hb dX12_go_299 (by decide) ?_
                                      refine lv_isub hx hb dX12_go_301 ?_
                                      refine lv_topi (fun v_453 ev_453 => ?_)
                                      refine pM_41 hx hb htg hown hK hP hS hd dX12_go_302 (fun H locs fv_454 efv_454 hP hS => ?_)
                                      have hF_fv_454 : rF fv_454 := rF_put hF_fv_412 efv_454 (iv_any v_453)
                                      exact hj_457 fv_454 _ _ ls hF_fv_454 (fM_put (fM_rf [41] _) efv_454 (by decide)) hP hS (lv_sub hl [0, 1, 2] rfl)
                                · skip
                                  refine lv_icmp_ge (tgt := 275) hx hb dX12_go_252 (by decide) (fun c_439 => ?_) (fun c_439 => ?_)
                                  · skip
                                    have i_440 : 8 ≤ v_436.toInt ∧ v_436.toInt ≤ 339 := iv_le2 (⟨by decide, by decide⟩ : (8 : Int) ≤ (8 : Int32).toInt ∧ (8 : Int32).toInt ≤ 8) t_437.2 c_439
                                    exact hj_447 wd_413 _ _ ls  hP hS (lv_sub hl [1, 2, 0, 3] rfl)
                                  · skip
                                    have i_441 : (-299) ≤ v_436.toInt ∧ v_436.toInt ≤ 7 := iv_lt1 t_437.2 (⟨by decide, by decide⟩ : (8 : Int) ≤ (8 : Int32).toInt ∧ (8 : Int32).toInt ≤ 8) (Int32.not_le.mp c_439)
                                    refine lv_aload_n hx hb dX12_go_255 rfl (lv_at hl 1 rfl) ?_
                                    refine lv_ldc2 (v := 27) hx hb hown (htg (.constantLong RX12 313 27) kw_8_77) dX12_go_256 ?_
                                    refine lv_aload_n hx hb dX12_go_259 rfl (lv_at hl 1 rfl) ?_
                                    refine gM_46 hx hb htg hown hK hP dX12_go_260 ?_
                                    refine lv_lmul hx hb dX12_go_263 ?_
                                    refine lv_topl (fun w_442 _ => ?_)
                                    refine lv_iload hx hb dX12_go_264 (lv_at hl 3 rfl) ?_
                                    refine lv_i2l hx hb dX12_go_266 rfl ?_
                                    refine lv_topl (fun w_443 _ => ?_)
                                    refine lv_ladd hx hb dX12_go_267 ?_
                                    refine lv_topl (fun w_444 _ => ?_)
                                    refine lv_ldc2 (v := 96) hx hb hown (htg (.constantLong RX12 315 96) kw_8_78) dX12_go_268 ?_
                                    refine lv_lsub hx hb dX12_go_271 ?_
                                    refine lv_topl (fun w_445 _ => ?_)
                                    refine pM_46 hx hb htg hown hK hP hS hd dX12_go_272 (fun H locs hP hS => ?_)
                                    exact hj_447 w_445 _ _ ls  hP hS (lv_sub hl [1, 2, 0, 3] rfl)
                              · skip
                                refine lv_if_eq (tgt := 239) hx hb dX12_go_223 (by decide) (fun c_427 => ?_) (fun c_427 => ?_)
                                · skip
                                  have i_428 : 0 ≤ x_398.toInt ∧ x_398.toInt ≤ 0 := iv_eq1 (⟨by decide, by decide⟩ : (0 : Int) ≤ (0 : Int32).toInt ∧ (0 : Int32).toInt ≤ 0) c_427
                                  refine lv_iconst (v := 0) hx hb dX12_go_239 (by decide) ?_
                                  exact hj_435 0 _ _ ls (iv_w (⟨by decide, by decide⟩ : (0 : Int) ≤ (0 : Int32).toInt ∧ (0 : Int32).toInt ≤ 0) (by decide) (by decide)) hP hS (lv_sub hl [1, 2, 0] rfl)
                                · skip
                                  have i_429 : 1 ≤ x_398.toInt ∧ x_398.toInt ≤ 1 := iv_nel i_x_398 (by decide) c_427
                                  refine lv_iload hx hb dX12_go_226 (lv_at hl 0 rfl) ?_
                                  refine va_calli (va_runS (As := [.int v_425]) (rest := []) ⟨hx, hb, hml, hown, hts⟩ (m_isLetter l H.size v_425) (va_cwS 1 hts (gS kw_8_64 kw_8_65 kw_1_15 kw_8_66) rfl rfl rfl (by decide +kernel) ⟨Nat.le_of_ble_eq_true rfl, Nat.le_of_ble_eq_true rfl⟩) ⟨fun a U g mk q => ⟨q.1, q.2⟩, fun U hU hW => ⟨rfl, congrArg Array.size hU⟩⟩ rfl rfl hl.1 rfl (lv_room (Nat.le_of_ble_eq_true rfl)) dX12_go_228 ⟨Nat.le_of_ble_eq_true rfl, Nat.le_of_ble_eq_true rfl⟩) hS (fun q _ h9 => nM_up hS q h9) (nM_up hS) (fun r_430 u t H1 locs ht _ hw hB _ hk1 hS => ?_)
                                  obtain ⟨p_431, p_432, -⟩ := hw
                                  have hP := my_keepM hP hk1
                                  generalize H1 = H at hP hS ⊢
                                  refine lv_iload_n hx hb dX12_go_231 rfl (lv_at hl 2 rfl) ?_
                                  refine lv_icmp_ne (tgt := 239) hx hb dX12_go_232 (by decide) (fun c_433 => ?_) (fun c_433 => ?_)
                                  · skip
                                    refine lv_iconst (v := 0) hx hb dX12_go_239 (by decide) ?_
                                    exact hj_435 0 _ _ ls (iv_w (⟨by decide, by decide⟩ : (0 : Int) ≤ (0 : Int32).toInt ∧ (0 : Int32).toInt ≤ 0) (by decide) (by decide)) hP hS (lv_sub hl [1, 2, 0] rfl)
                                  · skip
                                    refine lv_iconst (v := 1) hx hb dX12_go_235 (by decide) ?_
                                    refine lv_goto (tgt := 240) hx hb dX12_go_236 (by decide) ?_
                                    exact hj_435 1 _ _ ls (iv_w (⟨by decide, by decide⟩ : (1 : Int) ≤ (1 : Int32).toInt ∧ (1 : Int32).toInt ≤ 1) (by decide) (by decide)) hP hS (lv_sub hl [1, 2, 0] rfl)
                            · skip
                              exact absurd c_423 (by decide)
                      · skip
                        have z_540 : (0 : Int32).toInt = 0 := by decide
                        have z_541 : (1 : Int32).toInt = 1 := by decide
                        have z_542 : (fv_397 38).toInt = (fv_1 38).toInt := congrArg Int32.toInt ((congrFun efv_397 38).trans ((congrFun efv_28 38)))
                        have z_543 : 0 ≤ (fv_397 38).toInt ∧ (fv_397 38).toInt ≤ 340 := hF_fv_397 38
                        exact hj_407 341 1 fv_397 ar 0 _ _ ls (by first | decide | omega) (iv_w (⟨by decide, by decide⟩ : (1 : Int) ≤ (1 : Int32).toInt ∧ (1 : Int32).toInt ≤ 1) (by decide) (by decide)) hF_fv_397 (fM_rf [38, 41] _) hA_ar (fA_rf [] _) (by omega) hP hS (lv_sub hl [3, 1, 0] rfl)
                    · skip
                      exact absurd c_393 (by decide)
              · skip
                have i_544 : 97 ≤ v_368.toInt ∧ v_368.toInt ≤ 255 := ⟨p_372.1, i_369.2⟩
                have i_545 : 97 ≤ v_368.toInt ∧ v_368.toInt ≤ 122 := ⟨i_544.1, p_372.2⟩
                refine lv_if_ne (tgt := 166) hx hb dX12_go_124 (by decide) (fun c_546 => ?_) (fun c_546 => ?_)
                · skip
                  refine lv_iload_n hx hb dX12_go_166 rfl (lv_at hl 0 rfl) ?_
                  refine va_calli (va_runS (As := [.int v_368]) (rest := []) ⟨hx, hb, hml, hown, hts⟩ (m_isLetter l H.size v_368) (va_cwS 1 hts (gS kw_8_64 kw_8_65 kw_1_15 kw_8_66) rfl rfl rfl (by decide +kernel) ⟨Nat.le_of_ble_eq_true rfl, Nat.le_of_ble_eq_true rfl⟩) ⟨fun a U g mk q => ⟨q.1, q.2⟩, fun U hU hW => ⟨rfl, congrArg Array.size hU⟩⟩ rfl rfl hl.1 rfl (lv_room (Nat.le_of_ble_eq_true rfl)) dX12_go_167 ⟨Nat.le_of_ble_eq_true rfl, Nat.le_of_ble_eq_true rfl⟩) hS (fun q _ h9 => nM_up hS q h9) (nM_up hS) (fun r_547 u t H1 locs ht _ hw hB _ hk1 hS => ?_)
                  obtain ⟨p_548, p_549, -⟩ := hw
                  have hP := my_keepM hP hk1
                  generalize H1 = H at hP hS ⊢
                  refine lv_istore_n (lv' := [(2, .int r_547), (1, .int v_368), (0, .ref h)]) hx hb dX12_go_170 rfl hl (by decide) rfl (fun ls hl => ?_)
                  refine lv_iconst (v := 1) hx hb dX12_go_171 (by decide) ?_
                  refine lv_istore_n (lv' := [(3, .int 1), (2, .int r_547), (1, .int v_368), (0, .ref h)]) hx hb dX12_go_172 rfl hl (by decide) rfl (fun ls hl => ?_)
                  refine lv_aload_n hx hb dX12_go_173 rfl (lv_at hl 3 rfl) ?_
                  refine lv_lconst (v := 0) hx hb dX12_go_174 (by decide) ?_
                  refine pM_46 hx hb htg hown hK hP hS hd dX12_go_175 (fun H locs hP hS => ?_)
                  refine lv_aload_n hx hb dX12_go_178 rfl (lv_at hl 3 rfl) ?_
                  refine lv_iconst (v := 0) hx hb dX12_go_179 (by decide) ?_
                  refine pM_41 hx hb htg hown hK hP hS hd dX12_go_180 (fun H locs fv_550 efv_550 hP hS => ?_)
                  have hF_fv_550 : rF fv_550 := rF_put hF_fv_28 efv_550 (iv_any _)
                  refine my_cut (P := fun R9 a9 Q9 => ∀ (n_558 : Nat) (x_551 : Int32) (fv_552 : Nat → Int32) (ar_554 : Nat → Nat → Int32) (wd_556 : Int64) (H : Heap) (locs : List Loc) (ls : Array Slot), 340 - (fv_552 38).toInt < (n_558 : Int) → (0 ≤ x_551.toInt ∧ x_551.toInt ≤ 1) → rF fv_552 → fM [38, 41] fv_550 fv_552 → rA ar_554 → fA [] ar ar_554 → (0 ≤ (fv_552 38).toInt ∧ (fv_552 38).toInt ≤ 340) → va_P (dC, dI) vwCl (wsM h ad cA fv_552 wd_556 ar_554) H → va_S (aM h ad s.heap.size) s.heap H locs → lv_has ls 5 [(0, .ref h), (2, .int r_547), (3, .int x_551)] → W p l e R9 s m a9 below meth c H locs 0 0 Q9 (F0 m 183 ls [])) ?_ (fun hj_560 => ?_)
                  · intro n_558
                    induction n_558 with
                    | zero => intro x_551 fv_552 ar_554 wd_556 H locs ls fu_559 i_x_551 hF_fv_552 fr_553 hA_ar_554 fa_555 q_557; exfalso; omega
                    | succ n_558 ih_558 =>
                      intro x_551 fv_552 ar_554 wd_556 H locs ls fu_559 i_x_551 hF_fv_552 fr_553 hA_ar_554 fa_555 q_557 hP hS hl
                      refine lv_aload_n hx hb dX12_go_183 rfl (lv_at hl 0 rfl) ?_
                      refine lv_aload_n hx hb dX12_go_184 rfl (lv_at hl 0 rfl) ?_
                      refine gM_38 hx hb htg hown hK hP dX12_go_185 ?_
                      have i_561 : 0 ≤ (fv_552 38).toInt ∧ (fv_552 38).toInt ≤ 340 := hF_fv_552 38
                      refine va_calli (va_runV (As := [.int (fv_552 38)]) (rest := []) ⟨hx, hb, hml, hown, hts⟩ (m_byteAt l dC dI H.size h ad cA hd fv_552 wd_556 ar_554 hF_fv_552 hA_ar_554 (fv_552 38) i_561) (cwV 1 hts (gV kw_8_73 kw_8_75 kw_p_65 kw_1_15 kw_8_76) rfl rfl rfl (by decide +kernel) ⟨Nat.le_of_ble_eq_true rfl, Nat.le_of_ble_eq_true rfl⟩) ⟨fun a U g mk q => ⟨q.1, q.2.1, q.2.2.1, va_K.moved (u := U) (U := U.calling g mk a) (Vm.Alike.refl U.vm) q.2.2.2⟩, va_recv hK hP (ci := 12) (q0 := 0) rfl rfl, fun U hU hW => ⟨rfl, by rw [hU], by rw [hU]; exact hP, va_K.moved hW.alike hK⟩⟩ rfl rfl hl.1 rfl (lv_room (Nat.le_of_ble_eq_true rfl)) dX12_go_188 ⟨Nat.le_of_ble_eq_true rfl, Nat.le_of_ble_eq_true rfl⟩) hS (fun q _ h9 => aM_up hS q h9) (aM_up hS) (fun r_562 u t H1 locs ht _ hw hB _ hk1 hS => ?_)
                      obtain ⟨fv_565, wd_566, ar_567⟩ := u
                      obtain ⟨hF_fv_565, hA_ar_567, fr_568, fa_569, p_563, p_564, -⟩ := hw
                      have hP : va_P (dC, dI) vwCl (wsM h ad cA fv_565 wd_566 ar_567) H1 := by have h9 := hB.1; rw [ht] at h9; exact h9
                      have fr_568 : fM [] fv_552 fv_565 := fr_568
                      have fa_569 : fA [] ar_554 ar_567 := fa_569
                      have p_564 : r_562.toInt = 0 ∨ (fv_552 38).toInt ≤ 339 := p_564
                      generalize H1 = H at hP hS ⊢
                      refine va_calli (va_runS (As := [.int r_562]) (rest := []) ⟨hx, hb, hml, hown, hts⟩ (m_isLetter l H.size r_562) (va_cwS 1 hts (gS kw_8_64 kw_8_65 kw_1_15 kw_8_66) rfl rfl rfl (by decide +kernel) ⟨Nat.le_of_ble_eq_true rfl, Nat.le_of_ble_eq_true rfl⟩) ⟨fun a U g mk q => ⟨q.1, q.2⟩, fun U hU hW => ⟨rfl, congrArg Array.size hU⟩⟩ rfl rfl hl.1 rfl (lv_room (Nat.le_of_ble_eq_true rfl)) dX12_go_191 ⟨Nat.le_of_ble_eq_true rfl, Nat.le_of_ble_eq_true rfl⟩) hS (fun q _ h9 => nM_up hS q h9) (nM_up hS) (fun r_570 u t H1 locs ht _ hw hB _ hk1 hS => ?_)
                      obtain ⟨p_571, p_572, -⟩ := hw
                      have hP := my_keepM hP hk1
                      generalize H1 = H at hP hS ⊢
                      rcases p_572 with ⟨rfl, p_572⟩ | ⟨rfl, p_572⟩
                      · skip
                        refine lv_if_ne (tgt := 211) hx hb dX12_go_194 (by decide) (fun c_573 => ?_) (fun c_573 => ?_)
                        · skip
                          exact absurd c_573 (by decide)
                        · skip
                          refine lv_aload_n hx hb dX12_go_197 rfl (lv_at hl 0 rfl) ?_
                          refine lv_aload_n hx hb dX12_go_198 rfl (lv_at hl 0 rfl) ?_
                          refine gM_38 hx hb htg hown hK hP dX12_go_199 ?_
                          refine my_ti (y := fv_552 38) ((fr_568 38 rfl)) ?_
                          refine va_calli (va_runV (As := [.int (fv_552 38)]) (rest := []) ⟨hx, hb, hml, hown, hts⟩ (m_byteAt l dC dI H.size h ad cA hd fv_565 wd_566 ar_567 hF_fv_565 hA_ar_567 (fv_552 38) i_561) (cwV 1 hts (gV kw_8_73 kw_8_75 kw_p_65 kw_1_15 kw_8_76) rfl rfl rfl (by decide +kernel) ⟨Nat.le_of_ble_eq_true rfl, Nat.le_of_ble_eq_true rfl⟩) ⟨fun a U g mk q => ⟨q.1, q.2.1, q.2.2.1, va_K.moved (u := U) (U := U.calling g mk a) (Vm.Alike.refl U.vm) q.2.2.2⟩, va_recv hK hP (ci := 12) (q0 := 0) rfl rfl, fun U hU hW => ⟨rfl, by rw [hU], by rw [hU]; exact hP, va_K.moved hW.alike hK⟩⟩ rfl rfl hl.1 rfl (lv_room (Nat.le_of_ble_eq_true rfl)) dX12_go_202 ⟨Nat.le_of_ble_eq_true rfl, Nat.le_of_ble_eq_true rfl⟩) hS (fun q _ h9 => aM_up hS q h9) (aM_up hS) (fun r_615 u t H1 locs ht _ hw hB _ hk1 hS => ?_)
                          obtain ⟨fv_618, wd_619, ar_620⟩ := u
                          obtain ⟨hF_fv_618, hA_ar_620, fr_621, fa_622, p_616, p_617, -⟩ := hw
                          have hP : va_P (dC, dI) vwCl (wsM h ad cA fv_618 wd_619 ar_620) H1 := by have h9 := hB.1; rw [ht] at h9; exact h9
                          have fr_621 : fM [] fv_565 fv_618 := fr_621
                          have fa_622 : fA [] ar_567 ar_620 := fa_622
                          have p_617 : r_615.toInt = 0 ∨ (fv_552 38).toInt ≤ 339 := p_617
                          generalize H1 = H at hP hS ⊢
                          refine va_calli (va_runS (As := [.int r_615]) (rest := []) ⟨hx, hb, hml, hown, hts⟩ (m_isDigit l H.size r_615) (va_cwS 1 hts (gS kw_8_67 kw_8_68 kw_1_15 kw_8_69) rfl rfl rfl (by decide +kernel) ⟨Nat.le_of_ble_eq_true rfl, Nat.le_of_ble_eq_true rfl⟩) ⟨fun a U g mk q => ⟨q.1, q.2⟩, fun U hU hW => ⟨rfl, congrArg Array.size hU⟩⟩ rfl rfl hl.1 rfl (lv_room (Nat.le_of_ble_eq_true rfl)) dX12_go_205 ⟨Nat.le_of_ble_eq_true rfl, Nat.le_of_ble_eq_true rfl⟩) hS (fun q _ h9 => nM_up hS q h9) (nM_up hS) (fun r_623 u t H1 locs ht _ hw hB _ hk1 hS => ?_)
                          obtain ⟨p_624, p_625, -⟩ := hw
                          have hP := my_keepM hP hk1
                          generalize H1 = H at hP hS ⊢
                          rcases p_625 with ⟨rfl, p_625⟩ | ⟨rfl, p_625⟩
                          · skip
                            refine lv_if_eq (tgt := 318) hx hb dX12_go_208 (by decide) (fun c_626 => ?_) (fun c_626 => ?_)
                            · skip
                              refine lv_aload_n hx hb dX12_go_318 rfl (lv_at hl 0 rfl) ?_
                              refine lv_iload_n hx hb dX12_go_319 rfl (lv_at hl 2 rfl) ?_
                              refine lv_if_eq (tgt := 345) hx hb dX12_go_320 (by decide) (fun c_668 => ?_) (fun c_668 => ?_)
                              · skip
                                have i_669 : 0 ≤ x_551.toInt ∧ x_551.toInt ≤ 0 := iv_eq1 (⟨by decide, by decide⟩ : (0 : Int) ≤ (0 : Int32).toInt ∧ (0 : Int32).toInt ≤ 0) c_668
                                refine lv_iconst (v := 1) hx hb dX12_go_345 (by decide) ?_
                                refine lv_goto (tgt := 358) hx hb dX12_go_346 (by decide) ?_
                                refine pM_40 hx hb htg hown hK hP hS hd dX12_go_358 (fun H locs fv_670 efv_670 hP hS => ?_)
                                have hF_fv_670 : rF fv_670 := rF_put hF_fv_618 efv_670 (iv_any _)
                                exact W.vret hx hb hr (fun t ht hW => ⟨⟨(fv_670, wd_619, ar_620), rfl, ⟨hF_fv_670, hA_ar_620, (fM_put (fM_call (fM_call (fM_call (fM_put (fM_put (fM_call (fM_rf [38, 39, 40, 41, 42] _) fr_2 (by decide)) efv_28 (by decide)) efv_550 (by decide)) fr_553 (by decide)) fr_568 (by decide)) fr_621 (by decide)) efv_670 (by decide)), (fA_call (fA_call (fA_call (fA_rf [] _) fa_555 (by decide)) fa_569 (by decide)) fa_622 (by decide)), trivial⟩, ⟨by rw [ht]; exact hP, va_K.moved hW.alike hK⟩⟩, hS.F ht⟩) hS.2.2 dX12_go_361
                              · skip
                                have i_671 : 1 ≤ x_551.toInt ∧ x_551.toInt ≤ 1 := iv_nel i_x_551 (by decide) c_668
                                refine lv_aload_n hx hb dX12_go_323 rfl (lv_at hl 0 rfl) ?_
                                refine gM_38 hx hb htg hown hK hP dX12_go_324 ?_
                                refine my_ti (y := fv_552 38) ((fr_621 38 rfl).trans ((fr_568 38 rfl))) ?_
                                refine lv_aload_n hx hb dX12_go_327 rfl (lv_at hl 0 rfl) ?_
                                refine gM_39 hx hb htg hown hK hP dX12_go_328 ?_
                                refine my_ti (y := fv_1 38) ((fr_621 39 rfl).trans ((fr_568 39 rfl).trans ((fr_553 39 rfl).trans ((congrFun efv_550 39).trans ((congrFun efv_28 39)))))) ?_
                                refine lv_isub hx hb dX12_go_331 ?_
                                refine lv_topi (fun v_672 ev_672 => ?_)
                                have t_673 : v_672.toInt = (fv_552 38 : Int32).toInt - (fv_1 38).toInt ∧ (-299) ≤ v_672.toInt ∧ v_672.toInt ≤ 340 := iv_sub ev_672 i_561 i_366 (by decide) (by decide)
                                refine lv_iload_n hx hb dX12_go_332 rfl (lv_at hl 1 rfl) ?_
                                refine my_cut (P := fun R9 a9 Q9 => ∀ (x_678 : Int32) (H : Heap) (locs : List Loc) (ls : Array Slot), (4 ≤ x_678.toInt ∧ x_678.toInt ≤ 8) → va_P (dC, dI) vwCl (wsM h ad cA fv_618 wd_619 ar_620) H → va_S (aM h ad s.heap.size) s.heap H locs → lv_has ls 5 [(2, .int r_547)] → W p l e R9 s m a9 below meth c H locs 0 0 Q9 (F0 m 342 ls [.int x_678, .int v_672, .ref h])) ?_ (fun hj_679 => ?_)
                                · intro x_678 H locs ls i_x_678 hP hS hl
                                  refine lv_icmp_le (tgt := 349) hx hb dX12_go_342 (by decide) (fun c_680 => ?_) (fun c_680 => ?_)
                                  · skip
                                    have i_681 : (-299) ≤ v_672.toInt ∧ v_672.toInt ≤ 8 := iv_le1 t_673.2 i_x_678 c_680
                                    refine lv_iload_n hx hb dX12_go_349 rfl (lv_at hl 0 rfl) ?_
                                    refine lv_if_eq (tgt := 357) hx hb dX12_go_350 (by decide) (fun c_682 => ?_) (fun c_682 => ?_)
                                    · skip
                                      have i_683 : 0 ≤ r_547.toInt ∧ r_547.toInt ≤ 0 := iv_eq1 (⟨by decide, by decide⟩ : (0 : Int) ≤ (0 : Int32).toInt ∧ (0 : Int32).toInt ≤ 0) c_682
                                      refine lv_iconst (v := 3) hx hb dX12_go_357 (by decide) ?_
                                      refine pM_40 hx hb htg hown hK hP hS hd dX12_go_358 (fun H locs fv_684 efv_684 hP hS => ?_)
                                      have hF_fv_684 : rF fv_684 := rF_put hF_fv_618 efv_684 (iv_any _)
                                      exact W.vret hx hb hr (fun t ht hW => ⟨⟨(fv_684, wd_619, ar_620), rfl, ⟨hF_fv_684, hA_ar_620, (fM_put (fM_call (fM_call (fM_call (fM_put (fM_put (fM_call (fM_rf [38, 39, 40, 41, 42] _) fr_2 (by decide)) efv_28 (by decide)) efv_550 (by decide)) fr_553 (by decide)) fr_568 (by decide)) fr_621 (by decide)) efv_684 (by decide)), (fA_call (fA_call (fA_call (fA_rf [] _) fa_555 (by decide)) fa_569 (by decide)) fa_622 (by decide)), trivial⟩, ⟨by rw [ht]; exact hP, va_K.moved hW.alike hK⟩⟩, hS.F ht⟩) hS.2.2 dX12_go_361
                                    · skip
                                      have i_685 : 1 ≤ r_547.toInt ∧ r_547.toInt ≤ 1 := iv_nel p_548 (by decide) c_682
                                      refine lv_iconst (v := 2) hx hb dX12_go_353 (by decide) ?_
                                      refine lv_goto (tgt := 358) hx hb dX12_go_354 (by decide) ?_
                                      refine pM_40 hx hb htg hown hK hP hS hd dX12_go_358 (fun H locs fv_686 efv_686 hP hS => ?_)
                                      have hF_fv_686 : rF fv_686 := rF_put hF_fv_618 efv_686 (iv_any _)
                                      exact W.vret hx hb hr (fun t ht hW => ⟨⟨(fv_686, wd_619, ar_620), rfl, ⟨hF_fv_686, hA_ar_620, (fM_put (fM_call (fM_call (fM_call (fM_put (fM_put (fM_call (fM_rf [38, 39, 40, 41, 42] _) fr_2 (by decide)) efv_28 (by decide)) efv_550 (by decide)) fr_553 (by decide)) fr_568 (by decide)) fr_621 (by decide)) efv_686 (by decide)), (fA_call (fA_call (fA_call (fA_rf [] _) fa_555 (by decide)) fa_569 (by decide)) fa_622 (by decide)), trivial⟩, ⟨by rw [ht]; exact hP, va_K.moved hW.alike hK⟩⟩, hS.F ht⟩) hS.2.2 dX12_go_361
                                  · skip
                                    have i_687 : 5 ≤ v_672.toInt ∧ v_672.toInt ≤ 340 := iv_lt2 i_x_678 t_673.2 (Int32.not_le.mp c_680)
                                    refine lv_iconst (v := 1) hx hb dX12_go_345 (by decide) ?_
                                    refine lv_goto (tgt := 358) hx hb dX12_go_346 (by decide) ?_
                                    refine pM_40 hx hb htg hown hK hP hS hd dX12_go_358 (fun H locs fv_688 efv_688 hP hS => ?_)
                                    have hF_fv_688 : rF fv_688 := rF_put hF_fv_618 efv_688 (iv_any _)
                                    exact W.vret hx hb hr (fun t ht hW => ⟨⟨(fv_688, wd_619, ar_620), rfl, ⟨hF_fv_688, hA_ar_620, (fM_put (fM_call (fM_call (fM_call (fM_put (fM_put (fM_call (fM_rf [38, 39, 40, 41, 42] _) fr_2 (by decide)) efv_28 (by decide)) efv_550 (by decide)) fr_553 (by decide)) fr_568 (by decide)) fr_621 (by decide)) efv_688 (by decide)), (fA_call (fA_call (fA_call (fA_rf [] _) fa_555 (by decide)) fa_569 (by decide)) fa_622 (by decide)), trivial⟩, ⟨by rw [ht]; exact hP, va_K.moved hW.alike hK⟩⟩, hS.F ht⟩) hS.2.2 dX12_go_361
                                · skip
                                  refine lv_if_eq (tgt := 341) hx hb dX12_go_333 (by decide) (fun c_675 => ?_) (fun c_675 => ?_)
                                  · skip
                                    have i_676 : 0 ≤ r_547.toInt ∧ r_547.toInt ≤ 0 := iv_eq1 (⟨by decide, by decide⟩ : (0 : Int) ≤ (0 : Int32).toInt ∧ (0 : Int32).toInt ≤ 0) c_675
                                    refine lv_iconst (v := 4) hx hb dX12_go_341 (by decide) ?_
                                    exact hj_679 4 _ _ ls (iv_w (⟨by decide, by decide⟩ : (4 : Int) ≤ (4 : Int32).toInt ∧ (4 : Int32).toInt ≤ 4) (by decide) (by decide)) hP hS (lv_sub hl [1] rfl)
                                  · skip
                                    have i_677 : 1 ≤ r_547.toInt ∧ r_547.toInt ≤ 1 := iv_nel p_548 (by decide) c_675
                                    refine lv_bipush (v := 8) hx hb dX12_go_336 (by decide) ?_
                                    refine lv_goto (tgt := 342) hx hb dX12_go_338 (by decide) ?_
                                    exact hj_679 8 _ _ ls (iv_w (⟨by decide, by decide⟩ : (8 : Int) ≤ (8 : Int32).toInt ∧ (8 : Int32).toInt ≤ 8) (by decide) (by decide)) hP hS (lv_sub hl [1] rfl)
                            · skip
                              exact absurd c_626 (by decide)
                          · skip
                            have i_627 : 48 ≤ r_615.toInt ∧ r_615.toInt ≤ 255 := ⟨p_625.1, p_616.2⟩
                            have i_628 : 48 ≤ r_615.toInt ∧ r_615.toInt ≤ 57 := ⟨i_627.1, p_625.2⟩
                            refine lv_if_eq (tgt := 318) hx hb dX12_go_208 (by decide) (fun c_629 => ?_) (fun c_629 => ?_)
                            · skip
                              exact absurd c_629 (by decide)
                            · skip
                              have i_630 : 0 ≤ (fv_552 38).toInt ∧ (fv_552 38).toInt ≤ 339 := (by omega)
                              refine lv_aload_n hx hb dX12_go_211 rfl (lv_at hl 0 rfl) ?_
                              refine gM_1 hx hb htg hown hK hP dX12_go_212 ?_
                              refine lv_aload_n hx hb dX12_go_215 rfl (lv_at hl 0 rfl) ?_
                              refine gM_38 hx hb htg hown hK hP dX12_go_216 ?_
                              refine my_ti (y := fv_552 38) ((fr_621 38 rfl).trans ((fr_568 38 rfl))) ?_
                              refine lM_1 hx hb hK hP (iv_in i_630 (by decide) (by decide)) dX12_go_219 (fun v_631 ev_631 => ?_)
                              have i_632 : 0 ≤ v_631.toInt ∧ v_631.toInt ≤ 255 := ev_631 ▸ hA_ar_620 1 _
                              refine lv_istore (lv' := [(4, .int v_631), (0, .ref h), (2, .int r_547), (3, .int x_551)]) hx hb dX12_go_220 hl (by decide) rfl (fun ls hl => ?_)
                              refine lv_iload_n hx hb dX12_go_222 rfl (lv_at hl 3 rfl) ?_
                              refine my_cut (P := fun R9 a9 Q9 => ∀ (x_640 : Int32) (H : Heap) (locs : List Loc) (ls : Array Slot), (0 ≤ x_640.toInt ∧ x_640.toInt ≤ 1) → va_P (dC, dI) vwCl (wsM h ad cA fv_618 wd_619 ar_620) H → va_S (aM h ad s.heap.size) s.heap H locs → lv_has ls 5 [(0, .ref h), (2, .int r_547), (4, .int v_631)] → W p l e R9 s m a9 below meth c H locs 0 0 Q9 (F0 m 240 ls [.int x_640])) ?_ (fun hj_641 => ?_)
                              · intro x_640 H locs ls i_x_640 hP hS hl
                                refine lv_istore_n (lv' := [(3, .int x_640), (0, .ref h), (2, .int r_547), (4, .int v_631)]) hx hb dX12_go_240 rfl hl (by decide) rfl (fun ls hl => ?_)
                                refine lv_aload_n hx hb dX12_go_241 rfl (lv_at hl 1 rfl) ?_
                                refine gM_38 hx hb htg hown hK hP dX12_go_242 ?_
                                refine my_ti (y := fv_552 38) ((fr_621 38 rfl).trans ((fr_568 38 rfl))) ?_
                                refine lv_aload_n hx hb dX12_go_245 rfl (lv_at hl 1 rfl) ?_
                                refine gM_39 hx hb htg hown hK hP dX12_go_246 ?_
                                refine my_ti (y := fv_1 38) ((fr_621 39 rfl).trans ((fr_568 39 rfl).trans ((fr_553 39 rfl).trans ((congrFun efv_550 39).trans ((congrFun efv_28 39)))))) ?_
                                refine lv_isub hx hb dX12_go_249 ?_
                                refine lv_topi (fun v_642 ev_642 => ?_)
                                have t_643 : v_642.toInt = (fv_552 38 : Int32).toInt - (fv_1 38).toInt ∧ (-299) ≤ v_642.toInt ∧ v_642.toInt ≤ 339 := iv_sub ev_642 i_630 i_366 (by decide) (by decide)
                                refine lv_bipush (v := 8) hx hb dX12_go_250 (by decide) ?_
                                refine my_cut (P := fun R9 a9 Q9 => ∀ (wd_652 : Int64) (H : Heap) (locs : List Loc) (ls : Array Slot), va_P (dC, dI) vwCl (wsM h ad cA fv_618 wd_652 ar_620) H → va_S (aM h ad s.heap.size) s.heap H locs → lv_has ls 5 [(0, .ref h), (2, .int r_547), (3, .int x_640), (4, .int v_631)] → W p l e R9 s m a9 below meth c H locs 0 0 Q9 (F0 m 275 ls [])) ?_ (fun hj_653 => ?_)
                                · intro wd_652 H locs ls  hP hS hl
                                  refine lv_aload_n hx hb dX12_go_275 rfl (lv_at hl 0 rfl) ?_
                                  refine gM_38 hx hb htg hown hK hP dX12_go_276 ?_
                                  refine my_ti (y := fv_552 38) ((fr_621 38 rfl).trans ((fr_568 38 rfl))) ?_
                                  refine lv_aload_n hx hb dX12_go_279 rfl (lv_at hl 0 rfl) ?_
                                  refine gM_39 hx hb htg hown hK hP dX12_go_280 ?_
                                  refine my_ti (y := fv_1 38) ((fr_621 39 rfl).trans ((fr_568 39 rfl).trans ((fr_553 39 rfl).trans ((congrFun efv_550 39).trans ((congrFun efv_28 39)))))) ?_
                                  refine lv_isub hx hb dX12_go_283 ?_
                                  refine my_ti (y := v_642) ev_642.symm ?_
                                  refine lv_iconst (v := 4) hx hb dX12_go_284 (by decide) ?_
                                  refine my_cut (P := fun R9 a9 Q9 => ∀ (fv_661 : Nat → Int32) (H : Heap) (locs : List Loc) (ls : Array Slot), rF fv_661 → fM [41] fv_618 fv_661 → va_P (dC, dI) vwCl (wsM h ad cA fv_661 wd_652 ar_620) H → va_S (aM h ad s.heap.size) s.heap H locs → lv_has ls 5 [(0, .ref h), (2, .int r_547), (3, .int x_640)] → W p l e R9 s m a9 below meth c H locs 0 0 Q9 (F0 m 305 ls [])) ?_ (fun hj_663 => ?_)
                                  · intro fv_661 H locs ls hF_fv_661 fr_662 hP hS hl
                                    refine lv_aload_n hx hb dX12_go_305 rfl (lv_at hl 0 rfl) ?_
                                    refine lv_dup hx hb dX12_go_306 rfl ?_
                                    refine gM_38 hx hb htg hown hK hP dX12_go_307 ?_
                                    refine my_ti (y := fv_552 38) ((fr_662 38 rfl).trans ((fr_621 38 rfl).trans ((fr_568 38 rfl)))) ?_
                                    refine lv_iconst (v := 1) hx hb dX12_go_310 (by decide) ?_
                                    refine lv_iadd hx hb dX12_go_311 ?_
                                    refine lv_topi (fun v_664 ev_664 => ?_)
                                    have t_665 : v_664.toInt = (fv_552 38).toInt + 1 ∧ 1 ≤ v_664.toInt ∧ v_664.toInt ≤ 340 := iv_addc ev_664 i_630 (by decide) (by decide) (by decide)
                                    refine pM_38 hx hb htg hown hK hP hS hd dX12_go_312 (fun H locs fv_667 efv_667 hP hS => ?_)
                                    have hF_fv_667 : rF fv_667 := rF_put hF_fv_661 efv_667 (iv_w t_665.2 (by decide) (by decide))
                                    refine lv_goto (tgt := 183) hx hb dX12_go_315 (by decide) ?_
                                    have z_691 : (fv_667 38).toInt = v_664.toInt := congrArg Int32.toInt ((congrFun efv_667 38))
                                    have z_692 : 0 ≤ (fv_667 38).toInt ∧ (fv_667 38).toInt ≤ 340 := hF_fv_667 38
                                    exact ih_558 x_640 fv_667 ar_620 wd_652 _ _ ls (by omega) i_x_640 hF_fv_667 (fM_put (fM_call (fM_call (fM_call (fM_call (fM_rf [38, 41] _) fr_553 (by decide)) fr_568 (by decide)) fr_621 (by decide)) fr_662 (by decide)) efv_667 (by decide)) hA_ar_620 (fA_call (fA_call (fA_call (fA_rf [] _) fa_555 (by decide)) fa_569 (by decide)) fa_622 (by decide)) (by omega) hP hS (lv_sub hl [0, 1, 2] rfl)
                                  · skip
                                    refine lv_icmp_ge (tgt := 305) hx hb dX12_go_285 (by decide) (fun c_654 => ?_) (fun c_654 => ?_)
                                    · skip
                                      have i_655 : 4 ≤ v_642.toInt ∧ v_642.toInt ≤ 339 := iv_le2 (⟨by decide, by decide⟩ : (4 : Int) ≤ (4 : Int32).toInt ∧ (4 : Int32).toInt ≤ 4) t_643.2 c_654
                                      exact hj_663 fv_618 _ _ ls hF_fv_618 (fM_rf [41] _) hP hS (lv_sub hl [0, 1, 2] rfl)
                                    · skip
                                      have i_656 : (-299) ≤ v_642.toInt ∧ v_642.toInt ≤ 3 := iv_lt1 t_643.2 (⟨by decide, by decide⟩ : (4 : Int) ≤ (4 : Int32).toInt ∧ (4 : Int32).toInt ≤ 4) (Int32.not_le.mp c_654)
                                      refine lv_aload_n hx hb dX12_go_288 rfl (lv_at hl 0 rfl) ?_
                                      refine lv_bipush (v := 10) hx hb dX12_go_289 (by decide) ?_
                                      refine lv_aload_n hx hb dX12_go_291 rfl (lv_at hl 0 rfl) ?_
                                      refine gM_41 hx hb htg hown hK hP dX12_go_292 ?_
                                      refine my_ti (y := fv_552 41) ((fr_621 41 rfl).trans ((fr_568 41 rfl))) ?_
                                      refine lv_imul hx hb dX12_go_295 ?_
                                      refine lv_topi (fun v_657 ev_657 => ?_)
                                      refine lv_iload hx hb dX12_go_296 (lv_at hl 3 rfl) ?_
                                      refine lv_iadd hx hb dX12_go_298 ?_
                                      refine lv_topi (fun v_658 ev_658 => ?_)
                                      refine lv_bipush (v := 48) hx hb dX12_go_299 (by decide) ?_
                                      refine lv_isub hx hb dX12_go_301 ?_
                                      refine lv_topi (fun v_659 ev_659 => ?_)
                                      refine pM_41 hx hb htg hown hK hP hS hd dX12_go_302 (fun H locs fv_660 efv_660 hP hS => ?_)
                                      have hF_fv_660 : rF fv_660 := rF_put hF_fv_618 efv_660 (iv_any v_659)
                                      exact hj_663 fv_660 _ _ ls hF_fv_660 (fM_put (fM_rf [41] _) efv_660 (by decide)) hP hS (lv_sub hl [0, 1, 2] rfl)
                                · skip
                                  refine lv_icmp_ge (tgt := 275) hx hb dX12_go_252 (by decide) (fun c_645 => ?_) (fun c_645 => ?_)
                                  · skip
                                    have i_646 : 8 ≤ v_642.toInt ∧ v_642.toInt ≤ 339 := iv_le2 (⟨by decide, by decide⟩ : (8 : Int) ≤ (8 : Int32).toInt ∧ (8 : Int32).toInt ≤ 8) t_643.2 c_645
                                    exact hj_653 wd_619 _ _ ls  hP hS (lv_sub hl [1, 2, 0, 3] rfl)
                                  · skip
                                    have i_647 : (-299) ≤ v_642.toInt ∧ v_642.toInt ≤ 7 := iv_lt1 t_643.2 (⟨by decide, by decide⟩ : (8 : Int) ≤ (8 : Int32).toInt ∧ (8 : Int32).toInt ≤ 8) (Int32.not_le.mp c_645)
                                    refine lv_aload_n hx hb dX12_go_255 rfl (lv_at hl 1 rfl) ?_
                                    refine lv_ldc2 (v := 27) hx hb hown (htg (.constantLong RX12 313 27) kw_8_77) dX12_go_256 ?_
                                    refine lv_aload_n hx hb dX12_go_259 rfl (lv_at hl 1 rfl) ?_
                                    refine gM_46 hx hb htg hown hK hP dX12_go_260 ?_
                                    refine lv_lmul hx hb dX12_go_263 ?_
                                    refine lv_topl (fun w_648 _ => ?_)
                                    refine lv_iload hx hb dX12_go_264 (lv_at hl 3 rfl) ?_
                                    refine lv_i2l hx hb dX12_go_266 rfl ?_
                                    refine lv_topl (fun w_649 _ => ?_)
                                    refine lv_ladd hx hb dX12_go_267 ?_
                                    refine lv_topl (fun w_650 _ => ?_)
                                    refine lv_ldc2 (v := 96) hx hb hown (htg (.constantLong RX12 315 96) kw_8_78) dX12_go_268 ?_
                                    refine lv_lsub hx hb dX12_go_271 ?_
                                    refine lv_topl (fun w_651 _ => ?_)
                                    refine pM_46 hx hb htg hown hK hP hS hd dX12_go_272 (fun H locs hP hS => ?_)
                                    exact hj_653 w_651 _ _ ls  hP hS (lv_sub hl [1, 2, 0, 3] rfl)
                              · skip
                                refine lv_if_eq (tgt := 239) hx hb dX12_go_223 (by decide) (fun c_633 => ?_) (fun c_633 => ?_)
                                · skip
                                  have i_634 : 0 ≤ x_551.toInt ∧ x_551.toInt ≤ 0 := iv_eq1 (⟨by decide, by decide⟩ : (0 : Int) ≤ (0 : Int32).toInt ∧ (0 : Int32).toInt ≤ 0) c_633
                                  refine lv_iconst (v := 0) hx hb dX12_go_239 (by decide) ?_
                                  exact hj_641 0 _ _ ls (iv_w (⟨by decide, by decide⟩ : (0 : Int) ≤ (0 : Int32).toInt ∧ (0 : Int32).toInt ≤ 0) (by decide) (by decide)) hP hS (lv_sub hl [1, 2, 0] rfl)
                                · skip
                                  have i_635 : 1 ≤ x_551.toInt ∧ x_551.toInt ≤ 1 := iv_nel i_x_551 (by decide) c_633
                                  refine lv_iload hx hb dX12_go_226 (lv_at hl 0 rfl) ?_
                                  refine va_calli (va_runS (As := [.int v_631]) (rest := []) ⟨hx, hb, hml, hown, hts⟩ (m_isLetter l H.size v_631) (va_cwS 1 hts (gS kw_8_64 kw_8_65 kw_1_15 kw_8_66) rfl rfl rfl (by decide +kernel) ⟨Nat.le_of_ble_eq_true rfl, Nat.le_of_ble_eq_true rfl⟩) ⟨fun a U g mk q => ⟨q.1, q.2⟩, fun U hU hW => ⟨rfl, congrArg Array.size hU⟩⟩ rfl rfl hl.1 rfl (lv_room (Nat.le_of_ble_eq_true rfl)) dX12_go_228 ⟨Nat.le_of_ble_eq_true rfl, Nat.le_of_ble_eq_true rfl⟩) hS (fun q _ h9 => nM_up hS q h9) (nM_up hS) (fun r_636 u t H1 locs ht _ hw hB _ hk1 hS => ?_)
                                  obtain ⟨p_637, p_638, -⟩ := hw
                                  have hP := my_keepM hP hk1
                                  generalize H1 = H at hP hS ⊢
                                  refine lv_iload_n hx hb dX12_go_231 rfl (lv_at hl 2 rfl) ?_
                                  refine lv_icmp_ne (tgt := 239) hx hb dX12_go_232 (by decide) (fun c_639 => ?_) (fun c_639 => ?_)
                                  · skip
                                    refine lv_iconst (v := 0) hx hb dX12_go_239 (by decide) ?_
                                    exact hj_641 0 _ _ ls (iv_w (⟨by decide, by decide⟩ : (0 : Int) ≤ (0 : Int32).toInt ∧ (0 : Int32).toInt ≤ 0) (by decide) (by decide)) hP hS (lv_sub hl [1, 2, 0] rfl)
                                  · skip
                                    refine lv_iconst (v := 1) hx hb dX12_go_235 (by decide) ?_
                                    refine lv_goto (tgt := 240) hx hb dX12_go_236 (by decide) ?_
                                    exact hj_641 1 _ _ ls (iv_w (⟨by decide, by decide⟩ : (1 : Int) ≤ (1 : Int32).toInt ∧ (1 : Int32).toInt ≤ 1) (by decide) (by decide)) hP hS (lv_sub hl [1, 2, 0] rfl)
                      · skip
                        have i_574 : 97 ≤ r_562.toInt ∧ r_562.toInt ≤ 255 := ⟨p_572.1, p_563.2⟩
                        have i_575 : 97 ≤ r_562.toInt ∧ r_562.toInt ≤ 122 := ⟨i_574.1, p_572.2⟩
                        refine lv_if_ne (tgt := 211) hx hb dX12_go_194 (by decide) (fun c_576 => ?_) (fun c_576 => ?_)
                        · skip
                          have i_577 : 0 ≤ (fv_552 38).toInt ∧ (fv_552 38).toInt ≤ 339 := (by omega)
                          refine lv_aload_n hx hb dX12_go_211 rfl (lv_at hl 0 rfl) ?_
                          refine gM_1 hx hb htg hown hK hP dX12_go_212 ?_
                          refine lv_aload_n hx hb dX12_go_215 rfl (lv_at hl 0 rfl) ?_
                          refine gM_38 hx hb htg hown hK hP dX12_go_216 ?_
                          refine my_ti (y := fv_552 38) ((fr_568 38 rfl)) ?_
                          refine lM_1 hx hb hK hP (iv_in i_577 (by decide) (by decide)) dX12_go_219 (fun v_578 ev_578 => ?_)
                          have i_579 : 0 ≤ v_578.toInt ∧ v_578.toInt ≤ 255 := ev_578 ▸ hA_ar_567 1 _
                          refine lv_istore (lv' := [(4, .int v_578), (0, .ref h), (2, .int r_547), (3, .int x_551)]) hx hb dX12_go_220 hl (by decide) rfl (fun ls hl => ?_)
                          refine lv_iload_n hx hb dX12_go_222 rfl (lv_at hl 3 rfl) ?_
                          refine my_cut (P := fun R9 a9 Q9 => ∀ (x_587 : Int32) (H : Heap) (locs : List Loc) (ls : Array Slot), (0 ≤ x_587.toInt ∧ x_587.toInt ≤ 1) → va_P (dC, dI) vwCl (wsM h ad cA fv_565 wd_566 ar_567) H → va_S (aM h ad s.heap.size) s.heap H locs → lv_has ls 5 [(0, .ref h), (2, .int r_547), (4, .int v_578)] → W p l e R9 s m a9 below meth c H locs 0 0 Q9 (F0 m 240 ls [.int x_587])) ?_ (fun hj_588 => ?_)
                          · intro x_587 H locs ls i_x_587 hP hS hl
                            refine lv_istore_n (lv' := [(3, .int x_587), (0, .ref h), (2, .int r_547), (4, .int v_578)]) hx hb dX12_go_240 rfl hl (by decide) rfl (fun ls hl => ?_)
                            refine lv_aload_n hx hb dX12_go_241 rfl (lv_at hl 1 rfl) ?_
                            refine gM_38 hx hb htg hown hK hP dX12_go_242 ?_
                            refine my_ti (y := fv_552 38) ((fr_568 38 rfl)) ?_
                            refine lv_aload_n hx hb dX12_go_245 rfl (lv_at hl 1 rfl) ?_
                            refine gM_39 hx hb htg hown hK hP dX12_go_246 ?_
                            refine my_ti (y := fv_1 38) ((fr_568 39 rfl).trans ((fr_553 39 rfl).trans ((congrFun efv_550 39).trans ((congrFun efv_28 39))))) ?_
                            refine lv_isub hx hb dX12_go_249 ?_
                            refine lv_topi (fun v_589 ev_589 => ?_)
                            have t_590 : v_589.toInt = (fv_552 38 : Int32).toInt - (fv_1 38).toInt ∧ (-299) ≤ v_589.toInt ∧ v_589.toInt ≤ 339 := iv_sub ev_589 i_577 i_366 (by decide) (by decide)
                            refine lv_bipush (v := 8) hx hb dX12_go_250 (by decide) ?_
                            refine my_cut (P := fun R9 a9 Q9 => ∀ (wd_599 : Int64) (H : Heap) (locs : List Loc) (ls : Array Slot), va_P (dC, dI) vwCl (wsM h ad cA fv_565 wd_599 ar_567) H → va_S (aM h ad s.heap.size) s.heap H locs → lv_has ls 5 [(0, .ref h), (2, .int r_547), (3, .int x_587), (4, .int v_578)] → W p l e R9 s m a9 below meth c H locs 0 0 Q9 (F0 m 275 ls [])) ?_ (fun hj_600 => ?_)
                            · intro wd_599 H locs ls  hP hS hl
                              refine lv_aload_n hx hb dX12_go_275 rfl (lv_at hl 0 rfl) ?_
                              refine gM_38 hx hb htg hown hK hP dX12_go_276 ?_
                              refine my_ti (y := fv_552 38) ((fr_568 38 rfl)) ?_
                              refine lv_aload_n hx hb dX12_go_279 rfl (lv_at hl 0 rfl) ?_
                              refine gM_39 hx hb htg hown hK hP dX12_go_280 ?_
                              refine my_ti (y := fv_1 38) ((fr_568 39 rfl).trans ((fr_553 39 rfl).trans ((congrFun efv_550 39).trans ((congrFun efv_28 39))))) ?_
                              refine lv_isub hx hb dX12_go_283 ?_
                              refine my_ti (y := v_589) ev_589.symm ?_
                              refine lv_iconst (v := 4) hx hb dX12_go_284 (by decide) ?_
                              refine my_cut (P := fun R9 a9 Q9 => ∀ (fv_608 : Nat → Int32) (H : Heap) (locs : List Loc) (ls : Array Slot), rF fv_608 → fM [41] fv_565 fv_608 → va_P (dC, dI) vwCl (wsM h ad cA fv_608 wd_599 ar_567) H → va_S (aM h ad s.heap.size) s.heap H locs → lv_has ls 5 [(0, .ref h), (2, .int r_547), (3, .int x_587)] → W p l e R9 s m a9 below meth c H locs 0 0 Q9 (F0 m 305 ls [])) ?_ (fun hj_610 => ?_)
                              · intro fv_608 H locs ls hF_fv_608 fr_609 hP hS hl
                                refine lv_aload_n hx hb dX12_go_305 rfl (lv_at hl 0 rfl) ?_
                                refine lv_dup hx hb dX12_go_306 rfl ?_
                                refine gM_38 hx hb htg hown hK hP dX12_go_307 ?_
                                refine my_ti (y := fv_552 38) ((fr_609 38 rfl).trans ((fr_568 38 rfl))) ?_
                                refine lv_iconst (v := 1) hx hb dX12_go_310 (by decide) ?_
                                refine lv_iadd hx hb dX12_go_311 ?_
                                refine lv_topi (fun v_611 ev_611 => ?_)
                                have t_612 : v_611.toInt = (fv_552 38).toInt + 1 ∧ 1 ≤ v_611.toInt ∧ v_611.toInt ≤ 340 := iv_addc ev_611 i_577 (by decide) (by decide) (by decide)
                                refine pM_38 hx hb htg hown hK hP hS hd dX12_go_312 (fun H locs fv_614 efv_614 hP hS => ?_)
                                have hF_fv_614 : rF fv_614 := rF_put hF_fv_608 efv_614 (iv_w t_612.2 (by decide) (by decide))
                                refine lv_goto (tgt := 183) hx hb dX12_go_315 (by decide) ?_
                                have z_689 : (fv_614 38).toInt = v_611.toInt := congrArg Int32.toInt ((congrFun efv_614 38))
                                have z_690 : 0 ≤ (fv_614 38).toInt ∧ (fv_614 38).toInt ≤ 340 := hF_fv_614 38
                                exact ih_558 x_587 fv_614 ar_567 wd_599 _ _ ls (by omega) i_x_587 hF_fv_614 (fM_put (fM_call (fM_call (fM_call (fM_rf [38, 41] _) fr_553 (by decide)) fr_568 (by decide)) fr_609 (by decide)) efv_614 (by decide)) hA_ar_567 (fA_call (fA_call (fA_rf [] _) fa_555 (by decide)) fa_569 (by decide)) (by omega) hP hS (lv_sub hl [0, 1, 2] rfl)
                              · skip
                                refine lv_icmp_ge (tgt := 305) hx hb dX12_go_285 (by decide) (fun c_601 => ?_) (fun c_601 => ?_)
                                · skip
                                  have i_602 : 4 ≤ v_589.toInt ∧ v_589.toInt ≤ 339 := iv_le2 (⟨by decide, by decide⟩ : (4 : Int) ≤ (4 : Int32).toInt ∧ (4 : Int32).toInt ≤ 4) t_590.2 c_601
                                  exact hj_610 fv_565 _ _ ls hF_fv_565 (fM_rf [41] _) hP hS (lv_sub hl [0, 1, 2] rfl)
                                · skip
                                  have i_603 : (-299) ≤ v_589.toInt ∧ v_589.toInt ≤ 3 := iv_lt1 t_590.2 (⟨by decide, by decide⟩ : (4 : Int) ≤ (4 : Int32).toInt ∧ (4 : Int32).toInt ≤ 4) (Int32.not_le.mp c_601)
                                  refine lv_aload_n hx hb dX12_go_288 rfl (lv_at hl 0 rfl) ?_
                                  refine lv_bipush (v := 10) hx hb dX12_go_289 (by decide) ?_
                                  refine lv_aload_n hx hb dX12_go_291 rfl (lv_at hl 0 rfl) ?_
                                  refine gM_41 hx hb htg hown hK hP dX12_go_292 ?_
                                  refine my_ti (y := fv_552 41) ((fr_568 41 rfl)) ?_
                                  refine lv_imul hx hb dX12_go_295 ?_
                                  refine lv_topi (fun v_604 ev_604 => ?_)
                                  refine lv_iload hx hb dX12_go_296 (lv_at hl 3 rfl) ?_
                                  refine lv_iadd hx hb dX12_go_298 ?_
                                  refine lv_topi (fun v_605 ev_605 => ?_)
                                  refine lv_bipush (v := 48) hx hb dX12_go_299 (by decide) ?_
                                  refine lv_isub hx hb dX12_go_301 ?_
                                  refine lv_topi (fun v_606 ev_606 => ?_)
                                  refine pM_41 hx hb htg hown hK hP hS hd dX12_go_302 (fun H locs fv_607 efv_607 hP hS => ?_)
                                  have hF_fv_607 : rF fv_607 := rF_put hF_fv_565 efv_607 (iv_any v_606)
                                  exact hj_610 fv_607 _ _ ls hF_fv_607 (fM_put (fM_rf [41] _) efv_607 (by decide)) hP hS (lv_sub hl [0, 1, 2] rfl)
                            · skip
                              refine lv_icmp_ge (tgt := 275) hx hb dX12_go_252 (by decide) (fun c_592 => ?_) (fun c_592 => ?_)
                              · skip
                                have i_593 : 8 ≤ v_589.toInt ∧ v_589.toInt ≤ 339 := iv_le2 (⟨by decide, by decide⟩ : (8 : Int) ≤ (8 : Int32).toInt ∧ (8 : Int32).toInt ≤ 8) t_590.2 c_592
                                exact hj_600 wd_566 _ _ ls  hP hS (lv_sub hl [1, 2, 0, 3] rfl)
                              · skip
                                have i_594 : (-299) ≤ v_589.toInt ∧ v_589.toInt ≤ 7 := iv_lt1 t_590.2 (⟨by decide, by decide⟩ : (8 : Int) ≤ (8 : Int32).toInt ∧ (8 : Int32).toInt ≤ 8) (Int32.not_le.mp c_592)
                                refine lv_aload_n hx hb dX12_go_255 rfl (lv_at hl 1 rfl) ?_
                                refine lv_ldc2 (v := 27) hx hb hown (htg (.constantLong RX12 313 27) kw_8_77) dX12_go_256 ?_
                                refine lv_aload_n hx hb dX12_go_259 rfl (lv_at hl 1 rfl) ?_
                                refine gM_46 hx hb htg hown hK hP dX12_go_260 ?_
                                refine lv_lmul hx hb dX12_go_263 ?_
                                refine lv_topl (fun w_595 _ => ?_)
                                refine lv_iload hx hb dX12_go_264 (lv_at hl 3 rfl) ?_
                                refine lv_i2l hx hb dX12_go_266 rfl ?_
                                refine lv_topl (fun w_596 _ => ?_)
                                refine lv_ladd hx hb dX12_go_267 ?_
                                refine lv_topl (fun w_597 _ => ?_)
                                refine lv_ldc2 (v := 96) hx hb hown (htg (.constantLong RX12 315 96) kw_8_78) dX12_go_268 ?_
                                refine lv_lsub hx hb dX12_go_271 ?_
                                refine lv_topl (fun w_598 _ => ?_)
                                refine pM_46 hx hb htg hown hK hP hS hd dX12_go_272 (fun H locs hP hS => ?_)
                                exact hj_600 w_598 _ _ ls  hP hS (lv_sub hl [1, 2, 0, 3] rfl)
                          · skip
                            refine lv_if_eq (tgt := 239) hx hb dX12_go_223 (by decide) (fun c_580 => ?_) (fun c_580 => ?_)
                            · skip
                              have i_581 : 0 ≤ x_551.toInt ∧ x_551.toInt ≤ 0 := iv_eq1 (⟨by decide, by decide⟩ : (0 : Int) ≤ (0 : Int32).toInt ∧ (0 : Int32).toInt ≤ 0) c_580
                              refine lv_iconst (v := 0) hx hb dX12_go_239 (by decide) ?_
                              exact hj_588 0 _ _ ls (iv_w (⟨by decide, by decide⟩ : (0 : Int) ≤ (0 : Int32).toInt ∧ (0 : Int32).toInt ≤ 0) (by decide) (by decide)) hP hS (lv_sub hl [1, 2, 0] rfl)
                            · skip
                              have i_582 : 1 ≤ x_551.toInt ∧ x_551.toInt ≤ 1 := iv_nel i_x_551 (by decide) c_580
                              refine lv_iload hx hb dX12_go_226 (lv_at hl 0 rfl) ?_
                              refine va_calli (va_runS (As := [.int v_578]) (rest := []) ⟨hx, hb, hml, hown, hts⟩ (m_isLetter l H.size v_578) (va_cwS 1 hts (gS kw_8_64 kw_8_65 kw_1_15 kw_8_66) rfl rfl rfl (by decide +kernel) ⟨Nat.le_of_ble_eq_true rfl, Nat.le_of_ble_eq_true rfl⟩) ⟨fun a U g mk q => ⟨q.1, q.2⟩, fun U hU hW => ⟨rfl, congrArg Array.size hU⟩⟩ rfl rfl hl.1 rfl (lv_room (Nat.le_of_ble_eq_true rfl)) dX12_go_228 ⟨Nat.le_of_ble_eq_true rfl, Nat.le_of_ble_eq_true rfl⟩) hS (fun q _ h9 => nM_up hS q h9) (nM_up hS) (fun r_583 u t H1 locs ht _ hw hB _ hk1 hS => ?_)
                              obtain ⟨p_584, p_585, -⟩ := hw
                              have hP := my_keepM hP hk1
                              generalize H1 = H at hP hS ⊢
                              refine lv_iload_n hx hb dX12_go_231 rfl (lv_at hl 2 rfl) ?_
                              refine lv_icmp_ne (tgt := 239) hx hb dX12_go_232 (by decide) (fun c_586 => ?_) (fun c_586 => ?_)
                              · skip
                                refine lv_iconst (v := 0) hx hb dX12_go_239 (by decide) ?_
                                exact hj_588 0 _ _ ls (iv_w (⟨by decide, by decide⟩ : (0 : Int) ≤ (0 : Int32).toInt ∧ (0 : Int32).toInt ≤ 0) (by decide) (by decide)) hP hS (lv_sub hl [1, 2, 0] rfl)
                              · skip
                                refine lv_iconst (v := 1) hx hb dX12_go_235 (by decide) ?_
                                refine lv_goto (tgt := 240) hx hb dX12_go_236 (by decide) ?_
                                exact hj_588 1 _ _ ls (iv_w (⟨by decide, by decide⟩ : (1 : Int) ≤ (1 : Int32).toInt ∧ (1 : Int32).toInt ≤ 1) (by decide) (by decide)) hP hS (lv_sub hl [1, 2, 0] rfl)
                        · skip
                          exact absurd c_576 (by decide)
                  · skip
                    have z_693 : (0 : Int32).toInt = 0 := by decide
                    have z_694 : (1 : Int32).toInt = 1 := by decide
                    have z_695 : (fv_550 38).toInt = (fv_1 38).toInt := congrArg Int32.toInt ((congrFun efv_550 38).trans ((congrFun efv_28 38)))
                    have z_696 : 0 ≤ (fv_550 38).toInt ∧ (fv_550 38).toInt ≤ 340 := hF_fv_550 38
                    exact hj_560 341 1 fv_550 ar 0 _ _ ls (by first | decide | omega) (iv_w (⟨by decide, by decide⟩ : (1 : Int) ≤ (1 : Int32).toInt ∧ (1 : Int32).toInt ≤ 1) (by decide) (by decide)) hF_fv_550 (fM_rf [38, 41] _) hA_ar (fA_rf [] _) (by omega) hP hS (lv_sub hl [3, 1, 0] rfl)
                · skip
                  exact absurd c_546 (by decide)
            · skip
              exact absurd True.intro (by have h7 := i_364; have h8 := i_366; have h9 := Int32.le_iff_toInt_le.mp (Int32.not_lt.mp c_367); exfalso; omega)
          · skip
            have i_697 : 300 ≤ (fv_1 38).toInt ∧ (fv_1 38).toInt ≤ 340 := iv_le2 (⟨by decide, by decide⟩ : (300 : Int) ≤ (300 : Int32).toInt ∧ (300 : Int32).toInt ≤ 300) i_7 (Int32.not_lt.mp c_365)
            refine lv_aload_n hx hb dX12_go_80 rfl (lv_at hl 0 rfl) ?_
            refine lv_sipush (v := 300) hx hb dX12_go_81 (by decide) ?_
            refine pM_39 hx hb htg hown hK hP hS hd dX12_go_84 (fun H locs fv_698 efv_698 hP hS => ?_)
            have hF_fv_698 : rF fv_698 := rF_put hF_fv_28 efv_698 (iv_w (⟨by decide, by decide⟩ : (300 : Int) ≤ (300 : Int32).toInt ∧ (300 : Int32).toInt ≤ 300) (by decide) (by decide))
            refine lv_aload_n hx hb dX12_go_87 rfl (lv_at hl 0 rfl) ?_
            refine lv_iconst (v := 1) hx hb dX12_go_88 (by decide) ?_
            refine pM_40 hx hb htg hown hK hP hS hd dX12_go_89 (fun H locs fv_699 efv_699 hP hS => ?_)
            have hF_fv_699 : rF fv_699 := rF_put hF_fv_698 efv_699 (iv_any _)
            exact W.vret hx hb hr (fun t ht hW => ⟨⟨(fv_699, wd, ar), rfl, ⟨hF_fv_699, hA_ar, (fM_put (fM_put (fM_put (fM_call (fM_rf [38, 39, 40, 41, 42] _) fr_2 (by decide)) efv_28 (by decide)) efv_698 (by decide)) efv_699 (by decide)), (fA_rf [] _), trivial⟩, ⟨by rw [ht]; exact hP, va_K.moved hW.alike hK⟩⟩, hS.F ht⟩) hS.2.2 dX12_go_92
      · skip
        refine lv_icmp_ge (tgt := 52) hx hb dX12_go_8 (by decide) (fun c_9 => ?_) (fun c_9 => ?_)
        · skip
          exact hj_27  _ _ ls  hP hS (lv_sub hl [0] rfl)
        · skip
          have i_10 : 0 ≤ (fv_1 38).toInt ∧ (fv_1 38).toInt ≤ 339 := iv_lt1 i_7 i_8 (Int32.not_le.mp c_9)
          have i_11 : 1 ≤ (fv 37).toInt ∧ (fv 37).toInt ≤ 340 := iv_lt2 i_7 i_8 (Int32.not_le.mp c_9)
          refine lv_aload_n hx hb dX12_go_11 rfl (lv_at hl 0 rfl) ?_
          refine gM_1 hx hb htg hown hK hP dX12_go_12 ?_
          refine lv_aload_n hx hb dX12_go_15 rfl (lv_at hl 0 rfl) ?_
          refine gM_38 hx hb htg hown hK hP dX12_go_16 ?_
          refine lM_1 hx hb hK hP (iv_in i_10 (by decide) (by decide)) dX12_go_19 (fun v_12 ev_12 => ?_)
          have i_13 : 0 ≤ v_12.toInt ∧ v_12.toInt ≤ 255 := ev_12 ▸ hA_ar 1 _
          refine lv_bipush (v := 32) hx hb dX12_go_20 (by decide) ?_
          refine lv_icmp_eq (tgt := 39) hx hb dX12_go_22 (by decide) (fun c_14 => ?_) (fun c_14 => ?_)
          · skip
            have i_15 : 32 ≤ v_12.toInt ∧ v_12.toInt ≤ 32 := iv_eq1 (⟨by decide, by decide⟩ : (32 : Int) ≤ (32 : Int32).toInt ∧ (32 : Int32).toInt ≤ 32) c_14
            refine lv_aload_n hx hb dX12_go_39 rfl (lv_at hl 0 rfl) ?_
            refine lv_dup hx hb dX12_go_40 rfl ?_
            refine gM_38 hx hb htg hown hK hP dX12_go_41 ?_
            refine lv_iconst (v := 1) hx hb dX12_go_44 (by decide) ?_
            refine lv_iadd hx hb dX12_go_45 ?_
            refine lv_topi (fun v_16 ev_16 => ?_)
            have t_17 : v_16.toInt = (fv_1 38).toInt + 1 ∧ 1 ≤ v_16.toInt ∧ v_16.toInt ≤ 340 := iv_addc ev_16 i_10 (by decide) (by decide) (by decide)
            refine pM_38 hx hb htg hown hK hP hS hd dX12_go_46 (fun H locs fv_19 efv_19 hP hS => ?_)
            have hF_fv_19 : rF fv_19 := rF_put hF_fv_1 efv_19 (iv_w t_17.2 (by decide) (by decide))
            refine lv_goto (tgt := 0) hx hb dX12_go_49 (by decide) ?_
            have z_700 : (fv_19 38).toInt = v_16.toInt := congrArg Int32.toInt ((congrFun efv_19 38))
            have z_701 : 0 ≤ (fv_19 38).toInt ∧ (fv_19 38).toInt ≤ 340 := hF_fv_19 38
            exact ih_4 fv_19 _ _ ls (by omega) hF_fv_19 (fM_put (fM_call (fM_rf [38] _) fr_2 (by decide)) efv_19 (by decide)) (by omega) hP hS (lv_sub hl [0] rfl)
          · skip
            refine lv_aload_n hx hb dX12_go_25 rfl (lv_at hl 0 rfl) ?_
            refine gM_1 hx hb htg hown hK hP dX12_go_26 ?_
            refine lv_aload_n hx hb dX12_go_29 rfl (lv_at hl 0 rfl) ?_
            refine gM_38 hx hb htg hown hK hP dX12_go_30 ?_
            refine lM_1 hx hb hK hP (iv_in i_10 (by decide) (by decide)) dX12_go_33 (fun v_20 ev_20 => ?_)
            obtain rfl : v_12 = v_20 := ev_12.trans ev_20.symm
            refine lv_bipush (v := 10) hx hb dX12_go_34 (by decide) ?_
            refine lv_icmp_ne (tgt := 52) hx hb dX12_go_36 (by decide) (fun c_21 => ?_) (fun c_21 => ?_)
            · skip
              exact hj_27  _ _ ls  hP hS (lv_sub hl [0] rfl)
            · skip
              have i_22 : 10 ≤ v_12.toInt ∧ v_12.toInt ≤ 10 := iv_eq1 (⟨by decide, by decide⟩ : (10 : Int) ≤ (10 : Int32).toInt ∧ (10 : Int32).toInt ≤ 10) c_21
              refine lv_aload_n hx hb dX12_go_39 rfl (lv_at hl 0 rfl) ?_
              refine lv_dup hx hb dX12_go_40 rfl ?_
              refine gM_38 hx hb htg hown hK hP dX12_go_41 ?_
              refine lv_iconst (v := 1) hx hb dX12_go_44 (by decide) ?_
              refine lv_iadd hx hb dX12_go_45 ?_
              refine lv_topi (fun v_23 ev_23 => ?_)
              have t_24 : v_23.toInt = (fv_1 38).toInt + 1 ∧ 1 ≤ v_23.toInt ∧ v_23.toInt ≤ 340 := iv_addc ev_23 i_10 (by decide) (by decide) (by decide)
              refine pM_38 hx hb htg hown hK hP hS hd dX12_go_46 (fun H locs fv_26 efv_26 hP hS => ?_)
              have hF_fv_26 : rF fv_26 := rF_put hF_fv_1 efv_26 (iv_w t_24.2 (by decide) (by decide))
              refine lv_goto (tgt := 0) hx hb dX12_go_49 (by decide) ?_
              have z_702 : (fv_26 38).toInt = v_23.toInt := congrArg Int32.toInt ((congrFun efv_26 38))
              have z_703 : 0 ≤ (fv_26 38).toInt ∧ (fv_26 38).toInt ≤ 340 := hF_fv_26 38
              exact ih_4 fv_26 _ _ ls (by omega) hF_fv_26 (fM_put (fM_call (fM_rf [38] _) fr_2 (by decide)) efv_26 (by decide)) (by omega) hP hS (lv_sub hl [0] rfl)
  · skip
    have z_704 : 0 ≤ (fv 38).toInt ∧ (fv 38).toInt ≤ 340 := hF_fv 38
    exact hj_6 341 fv _ _ ls (by omega) hF_fv (fM_rf [38] _) (by omega) hP hS (lv_sub hl [0] rfl)
set_option maxHeartbeats 4000000 in
set_option maxRecDepth 100000 in
theorem m_isKey (l : Launch) (dC : Nat → ClassId) (dI : Nat → Nat → Nat) (sz h : Nat) (ad : Nat → Nat) (cA : Nat → ClassId) (hd : dM h ad) (fv : Nat → Int32) (wd : Int64) (ar : Nat → Nat → Int32) (hF_fv : rF fv) (hA_ar : rA ar) (w0 : Int64) : Met l yX12_isKey (.code yX12_isKey cX12_isKey 3 (some .boolean) :: lw_good) ({ frames := 2, cells := 0, slots := 0, locals := 40 }) (va_Pc [.ref h, .long w0] (prM dC dI h ad cA fv wd ar sz)) (va_Qi (fun (r : Int32) (u : mS) => rF u.1 ∧ rA u.2.2 ∧ fM [] fv u.1 ∧ fA [] ar u.2.2 ∧ (0 ≤ r.toInt ∧ r.toInt ≤ 1) ∧ True) (enM dC dI h ad cA) (aM h ad sz)) 0 0 (aM h ad sz) := by
  refine Met.ofW (cc := cX12_isKey) (maxL := 3) (ret := (some .boolean)) (by decide) rfl ?_
  intro p e s m args below meth c s₁ B hml hv
  obtain ⟨rfl, hsz, hP, hK⟩ := hv
  have hx := B.exec
  have hb := B.bytes
  have hr := B.returns
  have hts := atoms_spec (ws := (.code yX12_isKey cX12_isKey 3 (some .boolean) :: lw_good)) B.pre
  have htg : ∀ w ∈ lw_good, w.before _ s = true := fun w hw => hts w (List.mem_cons_of_mem _ hw)
  have hown : s.vm.findClass RX12 = some m.cls := findClass_of_methodNamed B.named
  have hlocks := B.notSynchronized
  subst hsz
  have hS : va_S (aM h ad s.heap.size) s.heap s.heap [] := va_S.rf
  have hl := lv_entry ([.ref h, .long w0]) (n := 3) (Nat.le_of_ble_eq_true rfl)
  rw [lg_entry_eq]
  generalize (lg_sl ([.ref h, .long w0]) ++ List.replicate (3 - (lg_sl ([.ref h, .long w0])).length) Slot.unset).toArray = ls at hl ⊢
  have hl : lv_has ls 3 [(0, .ref h), (1, .long w0)] := hl
  refine lv_aload_n hx hb dX12_isKey_0 rfl (lv_at hl 0 rfl) ?_
  refine gM_40 hx hb htg hown hK hP dX12_isKey_1 ?_
  refine lv_iconst (v := 2) hx hb dX12_isKey_4 (by decide) ?_
  refine lv_icmp_ne (tgt := 21) hx hb dX12_isKey_5 (by decide) (fun c_1 => ?_) (fun c_1 => ?_)
  · skip
    refine lv_iconst (v := 0) hx hb dX12_isKey_21 (by decide) ?_
    exact W.zret (v := 0) hx hb hr (by decide) (fun t ht hW => ⟨⟨0, (fv, wd, ar), rfl, ⟨hF_fv, hA_ar, (fM_rf [] _), (fA_rf [] _), (iv_w (⟨by decide, by decide⟩ : (0 : Int) ≤ (0 : Int32).toInt ∧ (0 : Int32).toInt ≤ 0) (by decide) (by decide)), trivial⟩, ⟨by rw [ht]; exact hP, va_K.moved hW.alike hK⟩⟩, hS.F ht⟩) hS.2.2 dX12_isKey_22
  · skip
    have i_2 : 2 ≤ (fv 40).toInt ∧ (fv 40).toInt ≤ 2 := iv_eq1 (⟨by decide, by decide⟩ : (2 : Int) ≤ (2 : Int32).toInt ∧ (2 : Int32).toInt ≤ 2) c_1
    refine lv_aload_n hx hb dX12_isKey_8 rfl (lv_at hl 0 rfl) ?_
    refine gM_46 hx hb htg hown hK hP dX12_isKey_9 ?_
    refine lv_lload_n hx hb dX12_isKey_12 rfl (lv_at hl 1 rfl) ?_
    refine W.lcmp hx hb dX12_isKey_13 ?_
    refine lv_topi (fun v_3 ev_3 => ?_)
    refine lv_if_ne (tgt := 21) hx hb dX12_isKey_14 (by decide) (fun c_4 => ?_) (fun c_4 => ?_)
    · skip
      refine lv_iconst (v := 0) hx hb dX12_isKey_21 (by decide) ?_
      exact W.zret (v := 0) hx hb hr (by decide) (fun t ht hW => ⟨⟨0, (fv, wd, ar), rfl, ⟨hF_fv, hA_ar, (fM_rf [] _), (fA_rf [] _), (iv_w (⟨by decide, by decide⟩ : (0 : Int) ≤ (0 : Int32).toInt ∧ (0 : Int32).toInt ≤ 0) (by decide) (by decide)), trivial⟩, ⟨by rw [ht]; exact hP, va_K.moved hW.alike hK⟩⟩, hS.F ht⟩) hS.2.2 dX12_isKey_22
    · skip
      have i_5 : 0 ≤ v_3.toInt ∧ v_3.toInt ≤ 0 := iv_eq1 (⟨by decide, by decide⟩ : (0 : Int) ≤ (0 : Int32).toInt ∧ (0 : Int32).toInt ≤ 0) c_4
      refine lv_iconst (v := 1) hx hb dX12_isKey_17 (by decide) ?_
      refine lv_goto (tgt := 22) hx hb dX12_isKey_18 (by decide) ?_
      exact W.zret (v := 1) hx hb hr (by decide) (fun t ht hW => ⟨⟨1, (fv, wd, ar), rfl, ⟨hF_fv, hA_ar, (fM_rf [] _), (fA_rf [] _), (iv_w (⟨by decide, by decide⟩ : (1 : Int) ≤ (1 : Int32).toInt ∧ (1 : Int32).toInt ≤ 1) (by decide) (by decide)), trivial⟩, ⟨by rw [ht]; exact hP, va_K.moved hW.alike hK⟩⟩, hS.F ht⟩) hS.2.2 dX12_isKey_22
set_option maxHeartbeats 4000000 in
set_option maxRecDepth 100000 in
theorem m_isSign (l : Launch) (dC : Nat → ClassId) (dI : Nat → Nat → Nat) (sz h : Nat) (ad : Nat → Nat) (cA : Nat → ClassId) (hd : dM h ad) (fv : Nat → Int32) (wd : Int64) (ar : Nat → Nat → Int32) (hF_fv : rF fv) (hA_ar : rA ar) (a : Int32) : Met l yX12_isSign (.code yX12_isSign cX12_isSign 2 (some .boolean) :: lw_good) ({ frames := 2, cells := 0, slots := 0, locals := 40 }) (va_Pc [.ref h, .int a] (prM dC dI h ad cA fv wd ar sz)) (va_Qi (fun (r : Int32) (u : mS) => rF u.1 ∧ rA u.2.2 ∧ fM [] fv u.1 ∧ fA [] ar u.2.2 ∧ (0 ≤ r.toInt ∧ r.toInt ≤ 1) ∧ True) (enM dC dI h ad cA) (aM h ad sz)) 0 0 (aM h ad sz) := by
  refine Met.ofW (cc := cX12_isSign) (maxL := 2) (ret := (some .boolean)) (by decide) rfl ?_
  intro p e s m args below meth c s₁ B hml hv
  obtain ⟨rfl, hsz, hP, hK⟩ := hv
  have hx := B.exec
  have hb := B.bytes
  have hr := B.returns
  have hts := atoms_spec (ws := (.code yX12_isSign cX12_isSign 2 (some .boolean) :: lw_good)) B.pre
  have htg : ∀ w ∈ lw_good, w.before _ s = true := fun w hw => hts w (List.mem_cons_of_mem _ hw)
  have hown : s.vm.findClass RX12 = some m.cls := findClass_of_methodNamed B.named
  have hlocks := B.notSynchronized
  subst hsz
  have hS : va_S (aM h ad s.heap.size) s.heap s.heap [] := va_S.rf
  have hl := lv_entry ([.ref h, .int a]) (n := 2) (Nat.le_of_ble_eq_true rfl)
  rw [lg_entry_eq]
  generalize (lg_sl ([.ref h, .int a]) ++ List.replicate (2 - (lg_sl ([.ref h, .int a])).length) Slot.unset).toArray = ls at hl ⊢
  have hl : lv_has ls 2 [(0, .ref h), (1, .int a)] := hl
  refine lv_aload_n hx hb dX12_isSign_0 rfl (lv_at hl 0 rfl) ?_
  refine gM_40 hx hb htg hown hK hP dX12_isSign_1 ?_
  refine lv_iconst (v := 4) hx hb dX12_isSign_4 (by decide) ?_
  refine lv_icmp_ne (tgt := 20) hx hb dX12_isSign_5 (by decide) (fun c_1 => ?_) (fun c_1 => ?_)
  · skip
    refine lv_iconst (v := 0) hx hb dX12_isSign_20 (by decide) ?_
    exact W.zret (v := 0) hx hb hr (by decide) (fun t ht hW => ⟨⟨0, (fv, wd, ar), rfl, ⟨hF_fv, hA_ar, (fM_rf [] _), (fA_rf [] _), (iv_w (⟨by decide, by decide⟩ : (0 : Int) ≤ (0 : Int32).toInt ∧ (0 : Int32).toInt ≤ 0) (by decide) (by decide)), trivial⟩, ⟨by rw [ht]; exact hP, va_K.moved hW.alike hK⟩⟩, hS.F ht⟩) hS.2.2 dX12_isSign_21
  · skip
    have i_2 : 4 ≤ (fv 40).toInt ∧ (fv 40).toInt ≤ 4 := iv_eq1 (⟨by decide, by decide⟩ : (4 : Int) ≤ (4 : Int32).toInt ∧ (4 : Int32).toInt ≤ 4) c_1
    refine lv_aload_n hx hb dX12_isSign_8 rfl (lv_at hl 0 rfl) ?_
    refine gM_42 hx hb htg hown hK hP dX12_isSign_9 ?_
    refine lv_iload_n hx hb dX12_isSign_12 rfl (lv_at hl 1 rfl) ?_
    refine lv_icmp_ne (tgt := 20) hx hb dX12_isSign_13 (by decide) (fun c_3 => ?_) (fun c_3 => ?_)
    · skip
      refine lv_iconst (v := 0) hx hb dX12_isSign_20 (by decide) ?_
      exact W.zret (v := 0) hx hb hr (by decide) (fun t ht hW => ⟨⟨0, (fv, wd, ar), rfl, ⟨hF_fv, hA_ar, (fM_rf [] _), (fA_rf [] _), (iv_w (⟨by decide, by decide⟩ : (0 : Int) ≤ (0 : Int32).toInt ∧ (0 : Int32).toInt ≤ 0) (by decide) (by decide)), trivial⟩, ⟨by rw [ht]; exact hP, va_K.moved hW.alike hK⟩⟩, hS.F ht⟩) hS.2.2 dX12_isSign_21
    · skip
      refine lv_iconst (v := 1) hx hb dX12_isSign_16 (by decide) ?_
      refine lv_goto (tgt := 21) hx hb dX12_isSign_17 (by decide) ?_
      exact W.zret (v := 1) hx hb hr (by decide) (fun t ht hW => ⟨⟨1, (fv, wd, ar), rfl, ⟨hF_fv, hA_ar, (fM_rf [] _), (fA_rf [] _), (iv_w (⟨by decide, by decide⟩ : (1 : Int) ≤ (1 : Int32).toInt ∧ (1 : Int32).toInt ≤ 1) (by decide) (by decide)), trivial⟩, ⟨by rw [ht]; exact hP, va_K.moved hW.alike hK⟩⟩, hS.F ht⟩) hS.2.2 dX12_isSign_21
set_option maxHeartbeats 4000000 in
set_option maxRecDepth 100000 in
theorem m_bad (l : Launch) (dC : Nat → ClassId) (dI : Nat → Nat → Nat) (sz h : Nat) (ad : Nat → Nat) (cA : Nat → ClassId) (hd : dM h ad) (fv : Nat → Int32) (wd : Int64) (ar : Nat → Nat → Int32) (hF_fv : rF fv) (hA_ar : rA ar) (a : Int32) : Met l yX12_bad (.code yX12_bad cX12_bad 2 (some .boolean) :: lw_good) ({ frames := 2, cells := 0, slots := 0, locals := 40 }) (va_Pc [.ref h, .int a] (prM dC dI h ad cA fv wd ar sz)) (va_Qi (fun (r : Int32) (u : mS) => rF u.1 ∧ rA u.2.2 ∧ fM [43, 44] fv u.1 ∧ fA [] ar u.2.2 ∧ (0 ≤ r.toInt ∧ r.toInt ≤ 1) ∧ ((r = 0 ∧ True)) ∧ True) (enM dC dI h ad cA) (aM h ad sz)) 0 0 (aM h ad sz) := by
  refine Met.ofW (cc := cX12_bad) (maxL := 2) (ret := (some .boolean)) (by decide) rfl ?_
  intro p e s m args below meth c s₁ B hml hv
  obtain ⟨rfl, hsz, hP, hK⟩ := hv
  have hx := B.exec
  have hb := B.bytes
  have hr := B.returns
  have hts := atoms_spec (ws := (.code yX12_bad cX12_bad 2 (some .boolean) :: lw_good)) B.pre
  have htg : ∀ w ∈ lw_good, w.before _ s = true := fun w hw => hts w (List.mem_cons_of_mem _ hw)
  have hown : s.vm.findClass RX12 = some m.cls := findClass_of_methodNamed B.named
  have hlocks := B.notSynchronized
  subst hsz
  have hS : va_S (aM h ad s.heap.size) s.heap s.heap [] := va_S.rf
  have hl := lv_entry ([.ref h, .int a]) (n := 2) (Nat.le_of_ble_eq_true rfl)
  rw [lg_entry_eq]
  generalize (lg_sl ([.ref h, .int a]) ++ List.replicate (2 - (lg_sl ([.ref h, .int a])).length) Slot.unset).toArray = ls at hl ⊢
  have hl : lv_has ls 2 [(0, .ref h), (1, .int a)] := hl
  refine lv_aload_n hx hb dX12_bad_0 rfl (lv_at hl 0 rfl) ?_
  refine lv_aload_n hx hb dX12_bad_1 rfl (lv_at hl 0 rfl) ?_
  refine gM_40 hx hb htg hown hK hP dX12_bad_2 ?_
  refine lv_iconst (v := 1) hx hb dX12_bad_5 (by decide) ?_
  refine my_cut (P := fun R9 a9 Q9 => ∀ (x_3 : Int32) (H : Heap) (locs : List Loc) (ls : Array Slot), va_P (dC, dI) vwCl (wsM h ad cA fv wd ar) H → va_S (aM h ad s.heap.size) s.heap H locs → lv_has ls 2 [(0, .ref h)] → W p l e R9 s m a9 below meth c H locs 0 0 Q9 (F0 m 14 ls [.int x_3, .ref h])) ?_ (fun hj_4 => ?_)
  · intro x_3 H locs ls  hP hS hl
    refine pM_43 hx hb htg hown hK hP hS hd dX12_bad_14 (fun H locs fv_5 efv_5 hP hS => ?_)
    have hF_fv_5 : rF fv_5 := rF_put hF_fv efv_5 (iv_any x_3)
    refine lv_aload_n hx hb dX12_bad_17 rfl (lv_at hl 0 rfl) ?_
    refine lv_aload_n hx hb dX12_bad_18 rfl (lv_at hl 0 rfl) ?_
    refine gM_39 hx hb htg hown hK hP dX12_bad_19 ?_
    refine my_ti (y := fv 39) ((congrFun efv_5 39)) ?_
    have i_6 : 0 ≤ (fv 39).toInt ∧ (fv 39).toInt ≤ 340 := hF_fv 39
    refine pM_44 hx hb htg hown hK hP hS hd dX12_bad_22 (fun H locs fv_7 efv_7 hP hS => ?_)
    have hF_fv_7 : rF fv_7 := rF_put hF_fv_5 efv_7 (iv_any _)
    refine lv_iconst (v := 0) hx hb dX12_bad_25 (by decide) ?_
    exact W.zret (v := 0) hx hb hr (by decide) (fun t ht hW => ⟨⟨0, (fv_7, wd, ar), rfl, ⟨hF_fv_7, hA_ar, (fM_put (fM_put (fM_rf [43, 44] _) efv_5 (by decide)) efv_7 (by decide)), (fA_rf [] _), (iv_w (⟨by decide, by decide⟩ : (0 : Int) ≤ (0 : Int32).toInt ∧ (0 : Int32).toInt ≤ 0) (by decide) (by decide)), (⟨rfl, trivial⟩), trivial⟩, ⟨by rw [ht]; exact hP, va_K.moved hW.alike hK⟩⟩, hS.F ht⟩) hS.2.2 dX12_bad_26
  · skip
    refine lv_icmp_ne (tgt := 13) hx hb dX12_bad_6 (by decide) (fun c_1 => ?_) (fun c_1 => ?_)
    · skip
      refine lv_iload_n hx hb dX12_bad_13 rfl (lv_at hl 1 rfl) ?_
      exact hj_4 a _ _ ls  hP hS (lv_sub hl [0] rfl)
    · skip
      have i_2 : 1 ≤ (fv 40).toInt ∧ (fv 40).toInt ≤ 1 := iv_eq1 (⟨by decide, by decide⟩ : (1 : Int) ≤ (1 : Int32).toInt ∧ (1 : Int32).toInt ≤ 1) c_1
      refine lv_iconst (v := 1) hx hb dX12_bad_9 (by decide) ?_
      refine lv_goto (tgt := 14) hx hb dX12_bad_10 (by decide) ?_
      exact hj_4 1 _ _ ls  hP hS (lv_sub hl [0] rfl)
set_option maxHeartbeats 4000000 in
set_option maxRecDepth 100000 in
theorem m_sortAtHand (l : Launch) (dC : Nat → ClassId) (dI : Nat → Nat → Nat) (sz h : Nat) (ad : Nat → Nat) (cA : Nat → ClassId) (hd : dM h ad) (fv : Nat → Int32) (wd : Int64) (ar : Nat → Nat → Int32) (hF_fv : rF fv) (hA_ar : rA ar) : Met l yX12_sortAtHand (.code yX12_sortAtHand cX12_sortAtHand 1 (some .int) :: lw_good) ({ frames := 3, cells := 0, slots := 0, locals := 66 }) (va_Pc [.ref h] (prM dC dI h ad cA fv wd ar sz)) (va_Qi (fun (r : Int32) (u : mS) => rF u.1 ∧ rA u.2.2 ∧ fM [] fv u.1 ∧ fA [] ar u.2.2 ∧ ((-1) ≤ r.toInt ∧ r.toInt ≤ 6) ∧ True) (enM dC dI h ad cA) (aM h ad sz)) 0 0 (aM h ad sz) := by
  refine Met.ofW (cc := cX12_sortAtHand) (maxL := 1) (ret := (some .int)) (by decide) rfl ?_
  intro p e s m args below meth c s₁ B hml hv
  obtain ⟨rfl, hsz, hP, hK⟩ := hv
  have hx := B.exec
  have hb := B.bytes
  have hr := B.returns
  have hts := atoms_spec (ws := (.code yX12_sortAtHand cX12_sortAtHand 1 (some .int) :: lw_good)) B.pre
  have htg : ∀ w ∈ lw_good, w.before _ s = true := fun w hw => hts w (List.mem_cons_of_mem _ hw)
  have hown : s.vm.findClass RX12 = some m.cls := findClass_of_methodNamed B.named
  have hlocks := B.notSynchronized
  subst hsz
  have hS : va_S (aM h ad s.heap.size) s.heap s.heap [] := va_S.rf
  have hl := lv_entry ([.ref h]) (n := 1) (Nat.le_of_ble_eq_true rfl)
  rw [lg_entry_eq]
  generalize (lg_sl ([.ref h]) ++ List.replicate (1 - (lg_sl ([.ref h])).length) Slot.unset).toArray = ls at hl ⊢
  have hl : lv_has ls 1 [(0, .ref h)] := hl
  refine lv_aload_n hx hb dX12_sortAtHand_0 rfl (lv_at hl 0 rfl) ?_
  refine lv_bipush (v := 99) hx hb dX12_sortAtHand_1 (by decide) ?_
  refine lv_bipush (v := 97) hx hb dX12_sortAtHand_3 (by decide) ?_
  refine lv_bipush (v := 114) hx hb dX12_sortAtHand_5 (by decide) ?_
  refine lv_bipush (v := 114) hx hb dX12_sortAtHand_7 (by decide) ?_
  refine lv_bipush (v := 121) hx hb dX12_sortAtHand_9 (by decide) ?_
  refine va_calll (va_runS (As := [.int 99, .int 97, .int 114, .int 114, .int 121]) (rest := [.ref h]) ⟨hx, hb, hml, hown, hts⟩ (m_spelt l s.heap.size 99 97 114 114 121) (va_cwS 5 hts (gS kw_8_87 kw_8_88 kw_1_15 kw_8_89) rfl rfl rfl (by decide +kernel) ⟨Nat.le_of_ble_eq_true rfl, Nat.le_of_ble_eq_true rfl⟩) ⟨fun a U g mk q => ⟨q.1, q.2⟩, fun U hU hW => ⟨rfl, congrArg Array.size hU⟩⟩ rfl rfl hl.1 rfl (lv_room (Nat.le_of_ble_eq_true rfl)) dX12_sortAtHand_11 ⟨Nat.le_of_ble_eq_true rfl, Nat.le_of_ble_eq_true rfl⟩) hS (fun q _ h9 => nM_up hS q h9) (nM_up hS) (fun r_1 u t H1 locs ht _ hw hB _ hk1 hS => ?_)
  have hP := my_keepM hP hk1
  generalize H1 = H at hP hS ⊢
  refine va_calli (va_runV (As := [.long r_1]) (rest := []) ⟨hx, hb, hml, hown, hts⟩ (m_isKey l dC dI H.size h ad cA hd fv wd ar hF_fv hA_ar r_1) (cwV 1 hts (gV kw_8_90 kw_8_92 kw_p_68 kw_1_15 kw_8_93) rfl rfl rfl (by decide +kernel) ⟨Nat.le_of_ble_eq_true rfl, Nat.le_of_ble_eq_true rfl⟩) ⟨fun a U g mk q => ⟨q.1, q.2.1, q.2.2.1, va_K.moved (u := U) (U := U.calling g mk a) (Vm.Alike.refl U.vm) q.2.2.2⟩, va_recv hK hP (ci := 12) (q0 := 0) rfl rfl, fun U hU hW => ⟨rfl, by rw [hU], by rw [hU]; exact hP, va_K.moved hW.alike hK⟩⟩ rfl rfl hl.1 rfl (lv_room (Nat.le_of_ble_eq_true rfl)) dX12_sortAtHand_14 ⟨Nat.le_of_ble_eq_true rfl, Nat.le_of_ble_eq_true rfl⟩) hS (fun q _ h9 => aM_up hS q h9) (aM_up hS) (fun r_2 u t H1 locs ht _ hw hB _ hk1 hS => ?_)
  obtain ⟨fv_4, wd_5, ar_6⟩ := u
  obtain ⟨hF_fv_4, hA_ar_6, fr_7, fa_8, p_3, -⟩ := hw
  have hP : va_P (dC, dI) vwCl (wsM h ad cA fv_4 wd_5 ar_6) H1 := by have h9 := hB.1; rw [ht] at h9; exact h9
  have fr_7 : fM [] fv fv_4 := fr_7
  have fa_8 : fA [] ar ar_6 := fa_8
  generalize H1 = H at hP hS ⊢
  refine lv_if_eq (tgt := 22) hx hb dX12_sortAtHand_17 (by decide) (fun c_9 => ?_) (fun c_9 => ?_)
  · skip
    have i_10 : 0 ≤ r_2.toInt ∧ r_2.toInt ≤ 0 := iv_eq1 (⟨by decide, by decide⟩ : (0 : Int) ≤ (0 : Int32).toInt ∧ (0 : Int32).toInt ≤ 0) c_9
    refine lv_aload_n hx hb dX12_sortAtHand_22 rfl (lv_at hl 0 rfl) ?_
    refine lv_bipush (v := 115) hx hb dX12_sortAtHand_23 (by decide) ?_
    refine lv_bipush (v := 116) hx hb dX12_sortAtHand_25 (by decide) ?_
    refine lv_bipush (v := 111) hx hb dX12_sortAtHand_27 (by decide) ?_
    refine lv_bipush (v := 112) hx hb dX12_sortAtHand_29 (by decide) ?_
    refine lv_iconst (v := 0) hx hb dX12_sortAtHand_31 (by decide) ?_
    refine va_calll (va_runS (As := [.int 115, .int 116, .int 111, .int 112, .int 0]) (rest := [.ref h]) ⟨hx, hb, hml, hown, hts⟩ (m_spelt l H.size 115 116 111 112 0) (va_cwS 5 hts (gS kw_8_87 kw_8_88 kw_1_15 kw_8_89) rfl rfl rfl (by decide +kernel) ⟨Nat.le_of_ble_eq_true rfl, Nat.le_of_ble_eq_true rfl⟩) ⟨fun a U g mk q => ⟨q.1, q.2⟩, fun U hU hW => ⟨rfl, congrArg Array.size hU⟩⟩ rfl rfl hl.1 rfl (lv_room (Nat.le_of_ble_eq_true rfl)) dX12_sortAtHand_32 ⟨Nat.le_of_ble_eq_true rfl, Nat.le_of_ble_eq_true rfl⟩) hS (fun q _ h9 => nM_up hS q h9) (nM_up hS) (fun r_11 u t H1 locs ht _ hw hB _ hk1 hS => ?_)
    have hP := my_keepM hP hk1
    generalize H1 = H at hP hS ⊢
    refine va_calli (va_runV (As := [.long r_11]) (rest := []) ⟨hx, hb, hml, hown, hts⟩ (m_isKey l dC dI H.size h ad cA hd fv_4 wd_5 ar_6 hF_fv_4 hA_ar_6 r_11) (cwV 1 hts (gV kw_8_90 kw_8_92 kw_p_68 kw_1_15 kw_8_93) rfl rfl rfl (by decide +kernel) ⟨Nat.le_of_ble_eq_true rfl, Nat.le_of_ble_eq_true rfl⟩) ⟨fun a U g mk q => ⟨q.1, q.2.1, q.2.2.1, va_K.moved (u := U) (U := U.calling g mk a) (Vm.Alike.refl U.vm) q.2.2.2⟩, va_recv hK hP (ci := 12) (q0 := 0) rfl rfl, fun U hU hW => ⟨rfl, by rw [hU], by rw [hU]; exact hP, va_K.moved hW.alike hK⟩⟩ rfl rfl hl.1 rfl (lv_room (Nat.le_of_ble_eq_true rfl)) dX12_sortAtHand_35 ⟨Nat.le_of_ble_eq_true rfl, Nat.le_of_ble_eq_true rfl⟩) hS (fun q _ h9 => aM_up hS q h9) (aM_up hS) (fun r_12 u t H1 locs ht _ hw hB _ hk1 hS => ?_)
    obtain ⟨fv_14, wd_15, ar_16⟩ := u
    obtain ⟨hF_fv_14, hA_ar_16, fr_17, fa_18, p_13, -⟩ := hw
    have hP : va_P (dC, dI) vwCl (wsM h ad cA fv_14 wd_15 ar_16) H1 := by have h9 := hB.1; rw [ht] at h9; exact h9
    have fr_17 : fM [] fv_4 fv_14 := fr_17
    have fa_18 : fA [] ar_6 ar_16 := fa_18
    generalize H1 = H at hP hS ⊢
    refine lv_if_eq (tgt := 43) hx hb dX12_sortAtHand_38 (by decide) (fun c_19 => ?_) (fun c_19 => ?_)
    · skip
      have i_20 : 0 ≤ r_12.toInt ∧ r_12.toInt ≤ 0 := iv_eq1 (⟨by decide, by decide⟩ : (0 : Int) ≤ (0 : Int32).toInt ∧ (0 : Int32).toInt ≤ 0) c_19
      refine lv_aload_n hx hb dX12_sortAtHand_43 rfl (lv_at hl 0 rfl) ?_
      refine lv_bipush (v := 102) hx hb dX12_sortAtHand_44 (by decide) ?_
      refine lv_bipush (v := 97) hx hb dX12_sortAtHand_46 (by decide) ?_
      refine lv_bipush (v := 114) hx hb dX12_sortAtHand_48 (by decide) ?_
      refine lv_bipush (v := 101) hx hb dX12_sortAtHand_50 (by decide) ?_
      refine lv_iconst (v := 0) hx hb dX12_sortAtHand_52 (by decide) ?_
      refine va_calll (va_runS (As := [.int 102, .int 97, .int 114, .int 101, .int 0]) (rest := [.ref h]) ⟨hx, hb, hml, hown, hts⟩ (m_spelt l H.size 102 97 114 101 0) (va_cwS 5 hts (gS kw_8_87 kw_8_88 kw_1_15 kw_8_89) rfl rfl rfl (by decide +kernel) ⟨Nat.le_of_ble_eq_true rfl, Nat.le_of_ble_eq_true rfl⟩) ⟨fun a U g mk q => ⟨q.1, q.2⟩, fun U hU hW => ⟨rfl, congrArg Array.size hU⟩⟩ rfl rfl hl.1 rfl (lv_room (Nat.le_of_ble_eq_true rfl)) dX12_sortAtHand_53 ⟨Nat.le_of_ble_eq_true rfl, Nat.le_of_ble_eq_true rfl⟩) hS (fun q _ h9 => nM_up hS q h9) (nM_up hS) (fun r_21 u t H1 locs ht _ hw hB _ hk1 hS => ?_)
      have hP := my_keepM hP hk1
      generalize H1 = H at hP hS ⊢
      refine va_calli (va_runV (As := [.long r_21]) (rest := []) ⟨hx, hb, hml, hown, hts⟩ (m_isKey l dC dI H.size h ad cA hd fv_14 wd_15 ar_16 hF_fv_14 hA_ar_16 r_21) (cwV 1 hts (gV kw_8_90 kw_8_92 kw_p_68 kw_1_15 kw_8_93) rfl rfl rfl (by decide +kernel) ⟨Nat.le_of_ble_eq_true rfl, Nat.le_of_ble_eq_true rfl⟩) ⟨fun a U g mk q => ⟨q.1, q.2.1, q.2.2.1, va_K.moved (u := U) (U := U.calling g mk a) (Vm.Alike.refl U.vm) q.2.2.2⟩, va_recv hK hP (ci := 12) (q0 := 0) rfl rfl, fun U hU hW => ⟨rfl, by rw [hU], by rw [hU]; exact hP, va_K.moved hW.alike hK⟩⟩ rfl rfl hl.1 rfl (lv_room (Nat.le_of_ble_eq_true rfl)) dX12_sortAtHand_56 ⟨Nat.le_of_ble_eq_true rfl, Nat.le_of_ble_eq_true rfl⟩) hS (fun q _ h9 => aM_up hS q h9) (aM_up hS) (fun r_22 u t H1 locs ht _ hw hB _ hk1 hS => ?_)
      obtain ⟨fv_24, wd_25, ar_26⟩ := u
      obtain ⟨hF_fv_24, hA_ar_26, fr_27, fa_28, p_23, -⟩ := hw
      have hP : va_P (dC, dI) vwCl (wsM h ad cA fv_24 wd_25 ar_26) H1 := by have h9 := hB.1; rw [ht] at h9; exact h9
      have fr_27 : fM [] fv_14 fv_24 := fr_27
      have fa_28 : fA [] ar_16 ar_26 := fa_28
      generalize H1 = H at hP hS ⊢
      refine lv_if_eq (tgt := 64) hx hb dX12_sortAtHand_59 (by decide) (fun c_29 => ?_) (fun c_29 => ?_)
      · skip
        have i_30 : 0 ≤ r_22.toInt ∧ r_22.toInt ≤ 0 := iv_eq1 (⟨by decide, by decide⟩ : (0 : Int) ≤ (0 : Int32).toInt ∧ (0 : Int32).toInt ≤ 0) c_29
        refine lv_aload_n hx hb dX12_sortAtHand_64 rfl (lv_at hl 0 rfl) ?_
        refine lv_bipush (v := 104) hx hb dX12_sortAtHand_65 (by decide) ?_
        refine lv_bipush (v := 111) hx hb dX12_sortAtHand_67 (by decide) ?_
        refine lv_bipush (v := 108) hx hb dX12_sortAtHand_69 (by decide) ?_
        refine lv_bipush (v := 100) hx hb dX12_sortAtHand_71 (by decide) ?_
        refine lv_iconst (v := 0) hx hb dX12_sortAtHand_73 (by decide) ?_
        refine va_calll (va_runS (As := [.int 104, .int 111, .int 108, .int 100, .int 0]) (rest := [.ref h]) ⟨hx, hb, hml, hown, hts⟩ (m_spelt l H.size 104 111 108 100 0) (va_cwS 5 hts (gS kw_8_87 kw_8_88 kw_1_15 kw_8_89) rfl rfl rfl (by decide +kernel) ⟨Nat.le_of_ble_eq_true rfl, Nat.le_of_ble_eq_true rfl⟩) ⟨fun a U g mk q => ⟨q.1, q.2⟩, fun U hU hW => ⟨rfl, congrArg Array.size hU⟩⟩ rfl rfl hl.1 rfl (lv_room (Nat.le_of_ble_eq_true rfl)) dX12_sortAtHand_74 ⟨Nat.le_of_ble_eq_true rfl, Nat.le_of_ble_eq_true rfl⟩) hS (fun q _ h9 => nM_up hS q h9) (nM_up hS) (fun r_31 u t H1 locs ht _ hw hB _ hk1 hS => ?_)
        have hP := my_keepM hP hk1
        generalize H1 = H at hP hS ⊢
        refine va_calli (va_runV (As := [.long r_31]) (rest := []) ⟨hx, hb, hml, hown, hts⟩ (m_isKey l dC dI H.size h ad cA hd fv_24 wd_25 ar_26 hF_fv_24 hA_ar_26 r_31) (cwV 1 hts (gV kw_8_90 kw_8_92 kw_p_68 kw_1_15 kw_8_93) rfl rfl rfl (by decide +kernel) ⟨Nat.le_of_ble_eq_true rfl, Nat.le_of_ble_eq_true rfl⟩) ⟨fun a U g mk q => ⟨q.1, q.2.1, q.2.2.1, va_K.moved (u := U) (U := U.calling g mk a) (Vm.Alike.refl U.vm) q.2.2.2⟩, va_recv hK hP (ci := 12) (q0 := 0) rfl rfl, fun U hU hW => ⟨rfl, by rw [hU], by rw [hU]; exact hP, va_K.moved hW.alike hK⟩⟩ rfl rfl hl.1 rfl (lv_room (Nat.le_of_ble_eq_true rfl)) dX12_sortAtHand_77 ⟨Nat.le_of_ble_eq_true rfl, Nat.le_of_ble_eq_true rfl⟩) hS (fun q _ h9 => aM_up hS q h9) (aM_up hS) (fun r_32 u t H1 locs ht _ hw hB _ hk1 hS => ?_)
        obtain ⟨fv_34, wd_35, ar_36⟩ := u
        obtain ⟨hF_fv_34, hA_ar_36, fr_37, fa_38, p_33, -⟩ := hw
        have hP : va_P (dC, dI) vwCl (wsM h ad cA fv_34 wd_35 ar_36) H1 := by have h9 := hB.1; rw [ht] at h9; exact h9
        have fr_37 : fM [] fv_24 fv_34 := fr_37
        have fa_38 : fA [] ar_26 ar_36 := fa_38
        generalize H1 = H at hP hS ⊢
        refine lv_if_eq (tgt := 85) hx hb dX12_sortAtHand_80 (by decide) (fun c_39 => ?_) (fun c_39 => ?_)
        · skip
          have i_40 : 0 ≤ r_32.toInt ∧ r_32.toInt ≤ 0 := iv_eq1 (⟨by decide, by decide⟩ : (0 : Int) ≤ (0 : Int32).toInt ∧ (0 : Int32).toInt ≤ 0) c_39
          refine lv_aload_n hx hb dX12_sortAtHand_85 rfl (lv_at hl 0 rfl) ?_
          refine lv_bipush (v := 102) hx hb dX12_sortAtHand_86 (by decide) ?_
          refine lv_bipush (v := 105) hx hb dX12_sortAtHand_88 (by decide) ?_
          refine lv_bipush (v := 110) hx hb dX12_sortAtHand_90 (by decide) ?_
          refine lv_bipush (v := 101) hx hb dX12_sortAtHand_92 (by decide) ?_
          refine lv_iconst (v := 0) hx hb dX12_sortAtHand_94 (by decide) ?_
          refine va_calll (va_runS (As := [.int 102, .int 105, .int 110, .int 101, .int 0]) (rest := [.ref h]) ⟨hx, hb, hml, hown, hts⟩ (m_spelt l H.size 102 105 110 101 0) (va_cwS 5 hts (gS kw_8_87 kw_8_88 kw_1_15 kw_8_89) rfl rfl rfl (by decide +kernel) ⟨Nat.le_of_ble_eq_true rfl, Nat.le_of_ble_eq_true rfl⟩) ⟨fun a U g mk q => ⟨q.1, q.2⟩, fun U hU hW => ⟨rfl, congrArg Array.size hU⟩⟩ rfl rfl hl.1 rfl (lv_room (Nat.le_of_ble_eq_true rfl)) dX12_sortAtHand_95 ⟨Nat.le_of_ble_eq_true rfl, Nat.le_of_ble_eq_true rfl⟩) hS (fun q _ h9 => nM_up hS q h9) (nM_up hS) (fun r_41 u t H1 locs ht _ hw hB _ hk1 hS => ?_)
          have hP := my_keepM hP hk1
          generalize H1 = H at hP hS ⊢
          refine va_calli (va_runV (As := [.long r_41]) (rest := []) ⟨hx, hb, hml, hown, hts⟩ (m_isKey l dC dI H.size h ad cA hd fv_34 wd_35 ar_36 hF_fv_34 hA_ar_36 r_41) (cwV 1 hts (gV kw_8_90 kw_8_92 kw_p_68 kw_1_15 kw_8_93) rfl rfl rfl (by decide +kernel) ⟨Nat.le_of_ble_eq_true rfl, Nat.le_of_ble_eq_true rfl⟩) ⟨fun a U g mk q => ⟨q.1, q.2.1, q.2.2.1, va_K.moved (u := U) (U := U.calling g mk a) (Vm.Alike.refl U.vm) q.2.2.2⟩, va_recv hK hP (ci := 12) (q0 := 0) rfl rfl, fun U hU hW => ⟨rfl, by rw [hU], by rw [hU]; exact hP, va_K.moved hW.alike hK⟩⟩ rfl rfl hl.1 rfl (lv_room (Nat.le_of_ble_eq_true rfl)) dX12_sortAtHand_98 ⟨Nat.le_of_ble_eq_true rfl, Nat.le_of_ble_eq_true rfl⟩) hS (fun q _ h9 => aM_up hS q h9) (aM_up hS) (fun r_42 u t H1 locs ht _ hw hB _ hk1 hS => ?_)
          obtain ⟨fv_44, wd_45, ar_46⟩ := u
          obtain ⟨hF_fv_44, hA_ar_46, fr_47, fa_48, p_43, -⟩ := hw
          have hP : va_P (dC, dI) vwCl (wsM h ad cA fv_44 wd_45 ar_46) H1 := by have h9 := hB.1; rw [ht] at h9; exact h9
          have fr_47 : fM [] fv_34 fv_44 := fr_47
          have fa_48 : fA [] ar_36 ar_46 := fa_48
          generalize H1 = H at hP hS ⊢
          refine lv_if_eq (tgt := 106) hx hb dX12_sortAtHand_101 (by decide) (fun c_49 => ?_) (fun c_49 => ?_)
          · skip
            have i_50 : 0 ≤ r_42.toInt ∧ r_42.toInt ≤ 0 := iv_eq1 (⟨by decide, by decide⟩ : (0 : Int) ≤ (0 : Int32).toInt ∧ (0 : Int32).toInt ≤ 0) c_49
            refine lv_aload_n hx hb dX12_sortAtHand_106 rfl (lv_at hl 0 rfl) ?_
            refine lv_bipush (v := 103) hx hb dX12_sortAtHand_107 (by decide) ?_
            refine lv_bipush (v := 97) hx hb dX12_sortAtHand_109 (by decide) ?_
            refine lv_bipush (v := 115) hx hb dX12_sortAtHand_111 (by decide) ?_
            refine lv_iconst (v := 0) hx hb dX12_sortAtHand_113 (by decide) ?_
            refine lv_iconst (v := 0) hx hb dX12_sortAtHand_114 (by decide) ?_
            refine va_calll (va_runS (As := [.int 103, .int 97, .int 115, .int 0, .int 0]) (rest := [.ref h]) ⟨hx, hb, hml, hown, hts⟩ (m_spelt l H.size 103 97 115 0 0) (va_cwS 5 hts (gS kw_8_87 kw_8_88 kw_1_15 kw_8_89) rfl rfl rfl (by decide +kernel) ⟨Nat.le_of_ble_eq_true rfl, Nat.le_of_ble_eq_true rfl⟩) ⟨fun a U g mk q => ⟨q.1, q.2⟩, fun U hU hW => ⟨rfl, congrArg Array.size hU⟩⟩ rfl rfl hl.1 rfl (lv_room (Nat.le_of_ble_eq_true rfl)) dX12_sortAtHand_115 ⟨Nat.le_of_ble_eq_true rfl, Nat.le_of_ble_eq_true rfl⟩) hS (fun q _ h9 => nM_up hS q h9) (nM_up hS) (fun r_51 u t H1 locs ht _ hw hB _ hk1 hS => ?_)
            have hP := my_keepM hP hk1
            generalize H1 = H at hP hS ⊢
            refine va_calli (va_runV (As := [.long r_51]) (rest := []) ⟨hx, hb, hml, hown, hts⟩ (m_isKey l dC dI H.size h ad cA hd fv_44 wd_45 ar_46 hF_fv_44 hA_ar_46 r_51) (cwV 1 hts (gV kw_8_90 kw_8_92 kw_p_68 kw_1_15 kw_8_93) rfl rfl rfl (by decide +kernel) ⟨Nat.le_of_ble_eq_true rfl, Nat.le_of_ble_eq_true rfl⟩) ⟨fun a U g mk q => ⟨q.1, q.2.1, q.2.2.1, va_K.moved (u := U) (U := U.calling g mk a) (Vm.Alike.refl U.vm) q.2.2.2⟩, va_recv hK hP (ci := 12) (q0 := 0) rfl rfl, fun U hU hW => ⟨rfl, by rw [hU], by rw [hU]; exact hP, va_K.moved hW.alike hK⟩⟩ rfl rfl hl.1 rfl (lv_room (Nat.le_of_ble_eq_true rfl)) dX12_sortAtHand_118 ⟨Nat.le_of_ble_eq_true rfl, Nat.le_of_ble_eq_true rfl⟩) hS (fun q _ h9 => aM_up hS q h9) (aM_up hS) (fun r_52 u t H1 locs ht _ hw hB _ hk1 hS => ?_)
            obtain ⟨fv_54, wd_55, ar_56⟩ := u
            obtain ⟨hF_fv_54, hA_ar_56, fr_57, fa_58, p_53, -⟩ := hw
            have hP : va_P (dC, dI) vwCl (wsM h ad cA fv_54 wd_55 ar_56) H1 := by have h9 := hB.1; rw [ht] at h9; exact h9
            have fr_57 : fM [] fv_44 fv_54 := fr_57
            have fa_58 : fA [] ar_46 ar_56 := fa_58
            generalize H1 = H at hP hS ⊢
            refine lv_if_eq (tgt := 126) hx hb dX12_sortAtHand_121 (by decide) (fun c_59 => ?_) (fun c_59 => ?_)
            · skip
              have i_60 : 0 ≤ r_52.toInt ∧ r_52.toInt ≤ 0 := iv_eq1 (⟨by decide, by decide⟩ : (0 : Int) ≤ (0 : Int32).toInt ∧ (0 : Int32).toInt ≤ 0) c_59
              refine lv_aload_n hx hb dX12_sortAtHand_126 rfl (lv_at hl 0 rfl) ?_
              refine lv_bipush (v := 100) hx hb dX12_sortAtHand_127 (by decide) ?_
              refine lv_bipush (v := 111) hx hb dX12_sortAtHand_129 (by decide) ?_
              refine lv_bipush (v := 99) hx hb dX12_sortAtHand_131 (by decide) ?_
              refine lv_bipush (v := 107) hx hb dX12_sortAtHand_133 (by decide) ?_
              refine lv_iconst (v := 0) hx hb dX12_sortAtHand_135 (by decide) ?_
              refine va_calll (va_runS (As := [.int 100, .int 111, .int 99, .int 107, .int 0]) (rest := [.ref h]) ⟨hx, hb, hml, hown, hts⟩ (m_spelt l H.size 100 111 99 107 0) (va_cwS 5 hts (gS kw_8_87 kw_8_88 kw_1_15 kw_8_89) rfl rfl rfl (by decide +kernel) ⟨Nat.le_of_ble_eq_true rfl, Nat.le_of_ble_eq_true rfl⟩) ⟨fun a U g mk q => ⟨q.1, q.2⟩, fun U hU hW => ⟨rfl, congrArg Array.size hU⟩⟩ rfl rfl hl.1 rfl (lv_room (Nat.le_of_ble_eq_true rfl)) dX12_sortAtHand_136 ⟨Nat.le_of_ble_eq_true rfl, Nat.le_of_ble_eq_true rfl⟩) hS (fun q _ h9 => nM_up hS q h9) (nM_up hS) (fun r_61 u t H1 locs ht _ hw hB _ hk1 hS => ?_)
              have hP := my_keepM hP hk1
              generalize H1 = H at hP hS ⊢
              refine va_calli (va_runV (As := [.long r_61]) (rest := []) ⟨hx, hb, hml, hown, hts⟩ (m_isKey l dC dI H.size h ad cA hd fv_54 wd_55 ar_56 hF_fv_54 hA_ar_56 r_61) (cwV 1 hts (gV kw_8_90 kw_8_92 kw_p_68 kw_1_15 kw_8_93) rfl rfl rfl (by decide +kernel) ⟨Nat.le_of_ble_eq_true rfl, Nat.le_of_ble_eq_true rfl⟩) ⟨fun a U g mk q => ⟨q.1, q.2.1, q.2.2.1, va_K.moved (u := U) (U := U.calling g mk a) (Vm.Alike.refl U.vm) q.2.2.2⟩, va_recv hK hP (ci := 12) (q0 := 0) rfl rfl, fun U hU hW => ⟨rfl, by rw [hU], by rw [hU]; exact hP, va_K.moved hW.alike hK⟩⟩ rfl rfl hl.1 rfl (lv_room (Nat.le_of_ble_eq_true rfl)) dX12_sortAtHand_139 ⟨Nat.le_of_ble_eq_true rfl, Nat.le_of_ble_eq_true rfl⟩) hS (fun q _ h9 => aM_up hS q h9) (aM_up hS) (fun r_62 u t H1 locs ht _ hw hB _ hk1 hS => ?_)
              obtain ⟨fv_64, wd_65, ar_66⟩ := u
              obtain ⟨hF_fv_64, hA_ar_66, fr_67, fa_68, p_63, -⟩ := hw
              have hP : va_P (dC, dI) vwCl (wsM h ad cA fv_64 wd_65 ar_66) H1 := by have h9 := hB.1; rw [ht] at h9; exact h9
              have fr_67 : fM [] fv_54 fv_64 := fr_67
              have fa_68 : fA [] ar_56 ar_66 := fa_68
              generalize H1 = H at hP hS ⊢
              refine lv_if_eq (tgt := 150) hx hb dX12_sortAtHand_142 (by decide) (fun c_69 => ?_) (fun c_69 => ?_)
              · skip
                have i_70 : 0 ≤ r_62.toInt ∧ r_62.toInt ≤ 0 := iv_eq1 (⟨by decide, by decide⟩ : (0 : Int) ≤ (0 : Int32).toInt ∧ (0 : Int32).toInt ≤ 0) c_69
                refine lv_iconst (v := (-1)) hx hb dX12_sortAtHand_150 (by decide) ?_
                exact W.iret (v := (-1)) hx hb hr (fun t ht hW => ⟨⟨(-1), (fv_64, wd_65, ar_66), rfl, ⟨hF_fv_64, hA_ar_66, (fM_call (fM_call (fM_call (fM_call (fM_call (fM_call (fM_call (fM_rf [] _) fr_7 (by decide)) fr_17 (by decide)) fr_27 (by decide)) fr_37 (by decide)) fr_47 (by decide)) fr_57 (by decide)) fr_67 (by decide)), (fA_call (fA_call (fA_call (fA_call (fA_call (fA_call (fA_call (fA_rf [] _) fa_8 (by decide)) fa_18 (by decide)) fa_28 (by decide)) fa_38 (by decide)) fa_48 (by decide)) fa_58 (by decide)) fa_68 (by decide)), (iv_w (⟨by decide, by decide⟩ : (-1 : Int) ≤ ((-1) : Int32).toInt ∧ ((-1) : Int32).toInt ≤ -1) (by decide) (by decide)), trivial⟩, ⟨by rw [ht]; exact hP, va_K.moved hW.alike hK⟩⟩, hS.F ht⟩) hS.2.2 dX12_sortAtHand_151
              · skip
                have i_71 : 1 ≤ r_62.toInt ∧ r_62.toInt ≤ 1 := iv_nel p_63 (by decide) c_69
                refine lv_bipush (v := 6) hx hb dX12_sortAtHand_145 (by decide) ?_
                refine lv_goto (tgt := 151) hx hb dX12_sortAtHand_147 (by decide) ?_
                exact W.iret (v := 6) hx hb hr (fun t ht hW => ⟨⟨6, (fv_64, wd_65, ar_66), rfl, ⟨hF_fv_64, hA_ar_66, (fM_call (fM_call (fM_call (fM_call (fM_call (fM_call (fM_call (fM_rf [] _) fr_7 (by decide)) fr_17 (by decide)) fr_27 (by decide)) fr_37 (by decide)) fr_47 (by decide)) fr_57 (by decide)) fr_67 (by decide)), (fA_call (fA_call (fA_call (fA_call (fA_call (fA_call (fA_call (fA_rf [] _) fa_8 (by decide)) fa_18 (by decide)) fa_28 (by decide)) fa_38 (by decide)) fa_48 (by decide)) fa_58 (by decide)) fa_68 (by decide)), (iv_w (⟨by decide, by decide⟩ : (6 : Int) ≤ (6 : Int32).toInt ∧ (6 : Int32).toInt ≤ 6) (by decide) (by decide)), trivial⟩, ⟨by rw [ht]; exact hP, va_K.moved hW.alike hK⟩⟩, hS.F ht⟩) hS.2.2 dX12_sortAtHand_151
            · skip
              have i_72 : 1 ≤ r_52.toInt ∧ r_52.toInt ≤ 1 := iv_nel p_53 (by decide) c_59
              refine lv_iconst (v := 5) hx hb dX12_sortAtHand_124 (by decide) ?_
              exact W.iret (v := 5) hx hb hr (fun t ht hW => ⟨⟨5, (fv_54, wd_55, ar_56), rfl, ⟨hF_fv_54, hA_ar_56, (fM_call (fM_call (fM_call (fM_call (fM_call (fM_call (fM_rf [] _) fr_7 (by decide)) fr_17 (by decide)) fr_27 (by decide)) fr_37 (by decide)) fr_47 (by decide)) fr_57 (by decide)), (fA_call (fA_call (fA_call (fA_call (fA_call (fA_call (fA_rf [] _) fa_8 (by decide)) fa_18 (by decide)) fa_28 (by decide)) fa_38 (by decide)) fa_48 (by decide)) fa_58 (by decide)), (iv_w (⟨by decide, by decide⟩ : (5 : Int) ≤ (5 : Int32).toInt ∧ (5 : Int32).toInt ≤ 5) (by decide) (by decide)), trivial⟩, ⟨by rw [ht]; exact hP, va_K.moved hW.alike hK⟩⟩, hS.F ht⟩) hS.2.2 dX12_sortAtHand_125
          · skip
            have i_73 : 1 ≤ r_42.toInt ∧ r_42.toInt ≤ 1 := iv_nel p_43 (by decide) c_49
            refine lv_iconst (v := 4) hx hb dX12_sortAtHand_104 (by decide) ?_
            exact W.iret (v := 4) hx hb hr (fun t ht hW => ⟨⟨4, (fv_44, wd_45, ar_46), rfl, ⟨hF_fv_44, hA_ar_46, (fM_call (fM_call (fM_call (fM_call (fM_call (fM_rf [] _) fr_7 (by decide)) fr_17 (by decide)) fr_27 (by decide)) fr_37 (by decide)) fr_47 (by decide)), (fA_call (fA_call (fA_call (fA_call (fA_call (fA_rf [] _) fa_8 (by decide)) fa_18 (by decide)) fa_28 (by decide)) fa_38 (by decide)) fa_48 (by decide)), (iv_w (⟨by decide, by decide⟩ : (4 : Int) ≤ (4 : Int32).toInt ∧ (4 : Int32).toInt ≤ 4) (by decide) (by decide)), trivial⟩, ⟨by rw [ht]; exact hP, va_K.moved hW.alike hK⟩⟩, hS.F ht⟩) hS.2.2 dX12_sortAtHand_105
        · skip
          have i_74 : 1 ≤ r_32.toInt ∧ r_32.toInt ≤ 1 := iv_nel p_33 (by decide) c_39
          refine lv_iconst (v := 3) hx hb dX12_sortAtHand_83 (by decide) ?_
          exact W.iret (v := 3) hx hb hr (fun t ht hW => ⟨⟨3, (fv_34, wd_35, ar_36), rfl, ⟨hF_fv_34, hA_ar_36, (fM_call (fM_call (fM_call (fM_call (fM_rf [] _) fr_7 (by decide)) fr_17 (by decide)) fr_27 (by decide)) fr_37 (by decide)), (fA_call (fA_call (fA_call (fA_call (fA_rf [] _) fa_8 (by decide)) fa_18 (by decide)) fa_28 (by decide)) fa_38 (by decide)), (iv_w (⟨by decide, by decide⟩ : (3 : Int) ≤ (3 : Int32).toInt ∧ (3 : Int32).toInt ≤ 3) (by decide) (by decide)), trivial⟩, ⟨by rw [ht]; exact hP, va_K.moved hW.alike hK⟩⟩, hS.F ht⟩) hS.2.2 dX12_sortAtHand_84
      · skip
        have i_75 : 1 ≤ r_22.toInt ∧ r_22.toInt ≤ 1 := iv_nel p_23 (by decide) c_29
        refine lv_iconst (v := 2) hx hb dX12_sortAtHand_62 (by decide) ?_
        exact W.iret (v := 2) hx hb hr (fun t ht hW => ⟨⟨2, (fv_24, wd_25, ar_26), rfl, ⟨hF_fv_24, hA_ar_26, (fM_call (fM_call (fM_call (fM_rf [] _) fr_7 (by decide)) fr_17 (by decide)) fr_27 (by decide)), (fA_call (fA_call (fA_call (fA_rf [] _) fa_8 (by decide)) fa_18 (by decide)) fa_28 (by decide)), (iv_w (⟨by decide, by decide⟩ : (2 : Int) ≤ (2 : Int32).toInt ∧ (2 : Int32).toInt ≤ 2) (by decide) (by decide)), trivial⟩, ⟨by rw [ht]; exact hP, va_K.moved hW.alike hK⟩⟩, hS.F ht⟩) hS.2.2 dX12_sortAtHand_63
    · skip
      have i_76 : 1 ≤ r_12.toInt ∧ r_12.toInt ≤ 1 := iv_nel p_13 (by decide) c_19
      refine lv_iconst (v := 1) hx hb dX12_sortAtHand_41 (by decide) ?_
      exact W.iret (v := 1) hx hb hr (fun t ht hW => ⟨⟨1, (fv_14, wd_15, ar_16), rfl, ⟨hF_fv_14, hA_ar_16, (fM_call (fM_call (fM_rf [] _) fr_7 (by decide)) fr_17 (by decide)), (fA_call (fA_call (fA_rf [] _) fa_8 (by decide)) fa_18 (by decide)), (iv_w (⟨by decide, by decide⟩ : (1 : Int) ≤ (1 : Int32).toInt ∧ (1 : Int32).toInt ≤ 1) (by decide) (by decide)), trivial⟩, ⟨by rw [ht]; exact hP, va_K.moved hW.alike hK⟩⟩, hS.F ht⟩) hS.2.2 dX12_sortAtHand_42
  · skip
    have i_77 : 1 ≤ r_2.toInt ∧ r_2.toInt ≤ 1 := iv_nel p_3 (by decide) c_9
    refine lv_iconst (v := 0) hx hb dX12_sortAtHand_20 (by decide) ?_
    exact W.iret (v := 0) hx hb hr (fun t ht hW => ⟨⟨0, (fv_4, wd_5, ar_6), rfl, ⟨hF_fv_4, hA_ar_6, (fM_call (fM_rf [] _) fr_7 (by decide)), (fA_call (fA_rf [] _) fa_8 (by decide)), (iv_w (⟨by decide, by decide⟩ : (0 : Int) ≤ (0 : Int32).toInt ∧ (0 : Int32).toInt ≤ 0) (by decide) (by decide)), trivial⟩, ⟨by rw [ht]; exact hP, va_K.moved hW.alike hK⟩⟩, hS.F ht⟩) hS.2.2 dX12_sortAtHand_21
set_option maxHeartbeats 4000000 in
set_option maxRecDepth 100000 in
theorem m_isNot (l : Launch) (dC : Nat → ClassId) (dI : Nat → Nat → Nat) (sz h : Nat) (ad : Nat → Nat) (cA : Nat → ClassId) (hd : dM h ad) (fv : Nat → Int32) (wd : Int64) (ar : Nat → Nat → Int32) (hF_fv : rF fv) (hA_ar : rA ar) : Met l yX12_isNot (.code yX12_isNot cX12_isNot 1 (some .boolean) :: lw_good) ({ frames := 3, cells := 0, slots := 0, locals := 66 }) (va_Pc [.ref h] (prM dC dI h ad cA fv wd ar sz)) (va_Qi (fun (r : Int32) (u : mS) => rF u.1 ∧ rA u.2.2 ∧ fM [] fv u.1 ∧ fA [] ar u.2.2 ∧ (0 ≤ r.toInt ∧ r.toInt ≤ 1) ∧ True) (enM dC dI h ad cA) (aM h ad sz)) 0 0 (aM h ad sz) := by
  refine Met.ofW (cc := cX12_isNot) (maxL := 1) (ret := (some .boolean)) (by decide) rfl ?_
  intro p e s m args below meth c s₁ B hml hv
  obtain ⟨rfl, hsz, hP, hK⟩ := hv
  have hx := B.exec
  have hb := B.bytes
  have hr := B.returns
  have hts := atoms_spec (ws := (.code yX12_isNot cX12_isNot 1 (some .boolean) :: lw_good)) B.pre
  have htg : ∀ w ∈ lw_good, w.before _ s = true := fun w hw => hts w (List.mem_cons_of_mem _ hw)
  have hown : s.vm.findClass RX12 = some m.cls := findClass_of_methodNamed B.named
  have hlocks := B.notSynchronized
  subst hsz
  have hS : va_S (aM h ad s.heap.size) s.heap s.heap [] := va_S.rf
  have hl := lv_entry ([.ref h]) (n := 1) (Nat.le_of_ble_eq_true rfl)
  rw [lg_entry_eq]
  generalize (lg_sl ([.ref h]) ++ List.replicate (1 - (lg_sl ([.ref h])).length) Slot.unset).toArray = ls at hl ⊢
  have hl : lv_has ls 1 [(0, .ref h)] := hl
  refine lv_aload_n hx hb dX12_isNot_0 rfl (lv_at hl 0 rfl) ?_
  refine lv_bipush (v := 110) hx hb dX12_isNot_1 (by decide) ?_
  refine lv_bipush (v := 111) hx hb dX12_isNot_3 (by decide) ?_
  refine lv_bipush (v := 116) hx hb dX12_isNot_5 (by decide) ?_
  refine lv_iconst (v := 0) hx hb dX12_isNot_7 (by decide) ?_
  refine lv_iconst (v := 0) hx hb dX12_isNot_8 (by decide) ?_
  refine va_calll (va_runS (As := [.int 110, .int 111, .int 116, .int 0, .int 0]) (rest := [.ref h]) ⟨hx, hb, hml, hown, hts⟩ (m_spelt l s.heap.size 110 111 116 0 0) (va_cwS 5 hts (gS kw_8_87 kw_8_88 kw_1_15 kw_8_89) rfl rfl rfl (by decide +kernel) ⟨Nat.le_of_ble_eq_true rfl, Nat.le_of_ble_eq_true rfl⟩) ⟨fun a U g mk q => ⟨q.1, q.2⟩, fun U hU hW => ⟨rfl, congrArg Array.size hU⟩⟩ rfl rfl hl.1 rfl (lv_room (Nat.le_of_ble_eq_true rfl)) dX12_isNot_9 ⟨Nat.le_of_ble_eq_true rfl, Nat.le_of_ble_eq_true rfl⟩) hS (fun q _ h9 => nM_up hS q h9) (nM_up hS) (fun r_1 u t H1 locs ht _ hw hB _ hk1 hS => ?_)
  have hP := my_keepM hP hk1
  generalize H1 = H at hP hS ⊢
  refine va_calli (va_runV (As := [.long r_1]) (rest := []) ⟨hx, hb, hml, hown, hts⟩ (m_isKey l dC dI H.size h ad cA hd fv wd ar hF_fv hA_ar r_1) (cwV 1 hts (gV kw_8_90 kw_8_92 kw_p_68 kw_1_15 kw_8_93) rfl rfl rfl (by decide +kernel) ⟨Nat.le_of_ble_eq_true rfl, Nat.le_of_ble_eq_true rfl⟩) ⟨fun a U g mk q => ⟨q.1, q.2.1, q.2.2.1, va_K.moved (u := U) (U := U.calling g mk a) (Vm.Alike.refl U.vm) q.2.2.2⟩, va_recv hK hP (ci := 12) (q0 := 0) rfl rfl, fun U hU hW => ⟨rfl, by rw [hU], by rw [hU]; exact hP, va_K.moved hW.alike hK⟩⟩ rfl rfl hl.1 rfl (lv_room (Nat.le_of_ble_eq_true rfl)) dX12_isNot_12 ⟨Nat.le_of_ble_eq_true rfl, Nat.le_of_ble_eq_true rfl⟩) hS (fun q _ h9 => aM_up hS q h9) (aM_up hS) (fun r_2 u t H1 locs ht _ hw hB _ hk1 hS => ?_)
  obtain ⟨fv_4, wd_5, ar_6⟩ := u
  obtain ⟨hF_fv_4, hA_ar_6, fr_7, fa_8, p_3, -⟩ := hw
  have hP : va_P (dC, dI) vwCl (wsM h ad cA fv_4 wd_5 ar_6) H1 := by have h9 := hB.1; rw [ht] at h9; exact h9
  have fr_7 : fM [] fv fv_4 := fr_7
  have fa_8 : fA [] ar ar_6 := fa_8
  generalize H1 = H at hP hS ⊢
  exact W.zret (v := r_2) hx hb hr (iv_nar p_3) (fun t ht hW => ⟨⟨r_2, (fv_4, wd_5, ar_6), rfl, ⟨hF_fv_4, hA_ar_6, (fM_call (fM_rf [] _) fr_7 (by decide)), (fA_call (fA_rf [] _) fa_8 (by decide)), p_3, trivial⟩, ⟨by rw [ht]; exact hP, va_K.moved hW.alike hK⟩⟩, hS.F ht⟩) hS.2.2 dX12_isNot_15
set_option maxHeartbeats 4000000 in
set_option maxRecDepth 100000 in
theorem m_atom (l : Launch) (dC : Nat → ClassId) (dI : Nat → Nat → Nat) (sz h : Nat) (ad : Nat → Nat) (cA : Nat → ClassId) (hd : dM h ad) (fv : Nat → Int32) (wd : Int64) (ar : Nat → Nat → Int32) (hF_fv : rF fv) (hA_ar : rA ar) : Met l yX12_atom (.code yX12_atom cX12_atom 1 (some .int) :: lw_good) ({ frames := 3, cells := 0, slots := 0, locals := 66 }) (va_Pc [.ref h] (prM dC dI h ad cA fv wd ar sz)) (va_Qi (fun (r : Int32) (u : mS) => rF u.1 ∧ rA u.2.2 ∧ fM [] fv u.1 ∧ fA [] ar u.2.2 ∧ ((-1) ≤ r.toInt ∧ r.toInt ≤ 11) ∧ True) (enM dC dI h ad cA) (aM h ad sz)) 0 0 (aM h ad sz) := by
  refine Met.ofW (cc := cX12_atom) (maxL := 1) (ret := (some .int)) (by decide) rfl ?_
  intro p e s m args below meth c s₁ B hml hv
  obtain ⟨rfl, hsz, hP, hK⟩ := hv
  have hx := B.exec
  have hb := B.bytes
  have hr := B.returns
  have hts := atoms_spec (ws := (.code yX12_atom cX12_atom 1 (some .int) :: lw_good)) B.pre
  have htg : ∀ w ∈ lw_good, w.before _ s = true := fun w hw => hts w (List.mem_cons_of_mem _ hw)
  have hown : s.vm.findClass RX12 = some m.cls := findClass_of_methodNamed B.named
  have hlocks := B.notSynchronized
  subst hsz
  have hS : va_S (aM h ad s.heap.size) s.heap s.heap [] := va_S.rf
  have hl := lv_entry ([.ref h]) (n := 1) (Nat.le_of_ble_eq_true rfl)
  rw [lg_entry_eq]
  generalize (lg_sl ([.ref h]) ++ List.replicate (1 - (lg_sl ([.ref h])).length) Slot.unset).toArray = ls at hl ⊢
  have hl : lv_has ls 1 [(0, .ref h)] := hl
  refine lv_aload_n hx hb dX12_atom_0 rfl (lv_at hl 0 rfl) ?_
  refine lv_bipush (v := 99) hx hb dX12_atom_1 (by decide) ?_
  refine lv_bipush (v := 97) hx hb dX12_atom_3 (by decide) ?_
  refine lv_bipush (v := 114) hx hb dX12_atom_5 (by decide) ?_
  refine lv_iconst (v := 0) hx hb dX12_atom_7 (by decide) ?_
  refine lv_iconst (v := 0) hx hb dX12_atom_8 (by decide) ?_
  refine va_calll (va_runS (As := [.int 99, .int 97, .int 114, .int 0, .int 0]) (rest := [.ref h]) ⟨hx, hb, hml, hown, hts⟩ (m_spelt l s.heap.size 99 97 114 0 0) (va_cwS 5 hts (gS kw_8_87 kw_8_88 kw_1_15 kw_8_89) rfl rfl rfl (by decide +kernel) ⟨Nat.le_of_ble_eq_true rfl, Nat.le_of_ble_eq_true rfl⟩) ⟨fun a U g mk q => ⟨q.1, q.2⟩, fun U hU hW => ⟨rfl, congrArg Array.size hU⟩⟩ rfl rfl hl.1 rfl (lv_room (Nat.le_of_ble_eq_true rfl)) dX12_atom_9 ⟨Nat.le_of_ble_eq_true rfl, Nat.le_of_ble_eq_true rfl⟩) hS (fun q _ h9 => nM_up hS q h9) (nM_up hS) (fun r_1 u t H1 locs ht _ hw hB _ hk1 hS => ?_)
  have hP := my_keepM hP hk1
  generalize H1 = H at hP hS ⊢
  refine va_calli (va_runV (As := [.long r_1]) (rest := []) ⟨hx, hb, hml, hown, hts⟩ (m_isKey l dC dI H.size h ad cA hd fv wd ar hF_fv hA_ar r_1) (cwV 1 hts (gV kw_8_90 kw_8_92 kw_p_68 kw_1_15 kw_8_93) rfl rfl rfl (by decide +kernel) ⟨Nat.le_of_ble_eq_true rfl, Nat.le_of_ble_eq_true rfl⟩) ⟨fun a U g mk q => ⟨q.1, q.2.1, q.2.2.1, va_K.moved (u := U) (U := U.calling g mk a) (Vm.Alike.refl U.vm) q.2.2.2⟩, va_recv hK hP (ci := 12) (q0 := 0) rfl rfl, fun U hU hW => ⟨rfl, by rw [hU], by rw [hU]; exact hP, va_K.moved hW.alike hK⟩⟩ rfl rfl hl.1 rfl (lv_room (Nat.le_of_ble_eq_true rfl)) dX12_atom_12 ⟨Nat.le_of_ble_eq_true rfl, Nat.le_of_ble_eq_true rfl⟩) hS (fun q _ h9 => aM_up hS q h9) (aM_up hS) (fun r_2 u t H1 locs ht _ hw hB _ hk1 hS => ?_)
  obtain ⟨fv_4, wd_5, ar_6⟩ := u
  obtain ⟨hF_fv_4, hA_ar_6, fr_7, fa_8, p_3, -⟩ := hw
  have hP : va_P (dC, dI) vwCl (wsM h ad cA fv_4 wd_5 ar_6) H1 := by have h9 := hB.1; rw [ht] at h9; exact h9
  have fr_7 : fM [] fv fv_4 := fr_7
  have fa_8 : fA [] ar ar_6 := fa_8
  generalize H1 = H at hP hS ⊢
  refine lv_if_eq (tgt := 20) hx hb dX12_atom_15 (by decide) (fun c_9 => ?_) (fun c_9 => ?_)
  · skip
    have i_10 : 0 ≤ r_2.toInt ∧ r_2.toInt ≤ 0 := iv_eq1 (⟨by decide, by decide⟩ : (0 : Int) ≤ (0 : Int32).toInt ∧ (0 : Int32).toInt ≤ 0) c_9
    refine lv_aload_n hx hb dX12_atom_20 rfl (lv_at hl 0 rfl) ?_
    refine lv_bipush (v := 119) hx hb dX12_atom_21 (by decide) ?_
    refine lv_bipush (v := 97) hx hb dX12_atom_23 (by decide) ?_
    refine lv_bipush (v := 103) hx hb dX12_atom_25 (by decide) ?_
    refine lv_bipush (v := 111) hx hb dX12_atom_27 (by decide) ?_
    refine lv_bipush (v := 110) hx hb dX12_atom_29 (by decide) ?_
    refine va_calll (va_runS (As := [.int 119, .int 97, .int 103, .int 111, .int 110]) (rest := [.ref h]) ⟨hx, hb, hml, hown, hts⟩ (m_spelt l H.size 119 97 103 111 110) (va_cwS 5 hts (gS kw_8_87 kw_8_88 kw_1_15 kw_8_89) rfl rfl rfl (by decide +kernel) ⟨Nat.le_of_ble_eq_true rfl, Nat.le_of_ble_eq_true rfl⟩) ⟨fun a U g mk q => ⟨q.1, q.2⟩, fun U hU hW => ⟨rfl, congrArg Array.size hU⟩⟩ rfl rfl hl.1 rfl (lv_room (Nat.le_of_ble_eq_true rfl)) dX12_atom_31 ⟨Nat.le_of_ble_eq_true rfl, Nat.le_of_ble_eq_true rfl⟩) hS (fun q _ h9 => nM_up hS q h9) (nM_up hS) (fun r_11 u t H1 locs ht _ hw hB _ hk1 hS => ?_)
    have hP := my_keepM hP hk1
    generalize H1 = H at hP hS ⊢
    refine va_calli (va_runV (As := [.long r_11]) (rest := []) ⟨hx, hb, hml, hown, hts⟩ (m_isKey l dC dI H.size h ad cA hd fv_4 wd_5 ar_6 hF_fv_4 hA_ar_6 r_11) (cwV 1 hts (gV kw_8_90 kw_8_92 kw_p_68 kw_1_15 kw_8_93) rfl rfl rfl (by decide +kernel) ⟨Nat.le_of_ble_eq_true rfl, Nat.le_of_ble_eq_true rfl⟩) ⟨fun a U g mk q => ⟨q.1, q.2.1, q.2.2.1, va_K.moved (u := U) (U := U.calling g mk a) (Vm.Alike.refl U.vm) q.2.2.2⟩, va_recv hK hP (ci := 12) (q0 := 0) rfl rfl, fun U hU hW => ⟨rfl, by rw [hU], by rw [hU]; exact hP, va_K.moved hW.alike hK⟩⟩ rfl rfl hl.1 rfl (lv_room (Nat.le_of_ble_eq_true rfl)) dX12_atom_34 ⟨Nat.le_of_ble_eq_true rfl, Nat.le_of_ble_eq_true rfl⟩) hS (fun q _ h9 => aM_up hS q h9) (aM_up hS) (fun r_12 u t H1 locs ht _ hw hB _ hk1 hS => ?_)
    obtain ⟨fv_14, wd_15, ar_16⟩ := u
    obtain ⟨hF_fv_14, hA_ar_16, fr_17, fa_18, p_13, -⟩ := hw
    have hP : va_P (dC, dI) vwCl (wsM h ad cA fv_14 wd_15 ar_16) H1 := by have h9 := hB.1; rw [ht] at h9; exact h9
    have fr_17 : fM [] fv_4 fv_14 := fr_17
    have fa_18 : fA [] ar_6 ar_16 := fa_18
    generalize H1 = H at hP hS ⊢
    refine lv_if_eq (tgt := 42) hx hb dX12_atom_37 (by decide) (fun c_19 => ?_) (fun c_19 => ?_)
    · skip
      have i_20 : 0 ≤ r_12.toInt ∧ r_12.toInt ≤ 0 := iv_eq1 (⟨by decide, by decide⟩ : (0 : Int) ≤ (0 : Int32).toInt ∧ (0 : Int32).toInt ≤ 0) c_19
      refine lv_aload_n hx hb dX12_atom_42 rfl (lv_at hl 0 rfl) ?_
      refine lv_bipush (v := 116) hx hb dX12_atom_43 (by decide) ?_
      refine lv_bipush (v := 97) hx hb dX12_atom_45 (by decide) ?_
      refine lv_bipush (v := 120) hx hb dX12_atom_47 (by decide) ?_
      refine lv_bipush (v := 105) hx hb dX12_atom_49 (by decide) ?_
      refine lv_iconst (v := 0) hx hb dX12_atom_51 (by decide) ?_
      refine va_calll (va_runS (As := [.int 116, .int 97, .int 120, .int 105, .int 0]) (rest := [.ref h]) ⟨hx, hb, hml, hown, hts⟩ (m_spelt l H.size 116 97 120 105 0) (va_cwS 5 hts (gS kw_8_87 kw_8_88 kw_1_15 kw_8_89) rfl rfl rfl (by decide +kernel) ⟨Nat.le_of_ble_eq_true rfl, Nat.le_of_ble_eq_true rfl⟩) ⟨fun a U g mk q => ⟨q.1, q.2⟩, fun U hU hW => ⟨rfl, congrArg Array.size hU⟩⟩ rfl rfl hl.1 rfl (lv_room (Nat.le_of_ble_eq_true rfl)) dX12_atom_52 ⟨Nat.le_of_ble_eq_true rfl, Nat.le_of_ble_eq_true rfl⟩) hS (fun q _ h9 => nM_up hS q h9) (nM_up hS) (fun r_21 u t H1 locs ht _ hw hB _ hk1 hS => ?_)
      have hP := my_keepM hP hk1
      generalize H1 = H at hP hS ⊢
      refine va_calli (va_runV (As := [.long r_21]) (rest := []) ⟨hx, hb, hml, hown, hts⟩ (m_isKey l dC dI H.size h ad cA hd fv_14 wd_15 ar_16 hF_fv_14 hA_ar_16 r_21) (cwV 1 hts (gV kw_8_90 kw_8_92 kw_p_68 kw_1_15 kw_8_93) rfl rfl rfl (by decide +kernel) ⟨Nat.le_of_ble_eq_true rfl, Nat.le_of_ble_eq_true rfl⟩) ⟨fun a U g mk q => ⟨q.1, q.2.1, q.2.2.1, va_K.moved (u := U) (U := U.calling g mk a) (Vm.Alike.refl U.vm) q.2.2.2⟩, va_recv hK hP (ci := 12) (q0 := 0) rfl rfl, fun U hU hW => ⟨rfl, by rw [hU], by rw [hU]; exact hP, va_K.moved hW.alike hK⟩⟩ rfl rfl hl.1 rfl (lv_room (Nat.le_of_ble_eq_true rfl)) dX12_atom_55 ⟨Nat.le_of_ble_eq_true rfl, Nat.le_of_ble_eq_true rfl⟩) hS (fun q _ h9 => aM_up hS q h9) (aM_up hS) (fun r_22 u t H1 locs ht _ hw hB _ hk1 hS => ?_)
      obtain ⟨fv_24, wd_25, ar_26⟩ := u
      obtain ⟨hF_fv_24, hA_ar_26, fr_27, fa_28, p_23, -⟩ := hw
      have hP : va_P (dC, dI) vwCl (wsM h ad cA fv_24 wd_25 ar_26) H1 := by have h9 := hB.1; rw [ht] at h9; exact h9
      have fr_27 : fM [] fv_14 fv_24 := fr_27
      have fa_28 : fA [] ar_16 ar_26 := fa_28
      generalize H1 = H at hP hS ⊢
      refine lv_if_eq (tgt := 63) hx hb dX12_atom_58 (by decide) (fun c_29 => ?_) (fun c_29 => ?_)
      · skip
        have i_30 : 0 ≤ r_22.toInt ∧ r_22.toInt ≤ 0 := iv_eq1 (⟨by decide, by decide⟩ : (0 : Int) ≤ (0 : Int32).toInt ∧ (0 : Int32).toInt ≤ 0) c_29
        refine lv_aload_n hx hb dX12_atom_63 rfl (lv_at hl 0 rfl) ?_
        refine lv_ldc2 (v := 27) hx hb hown (htg (.constantLong RX12 313 27) kw_8_77) dX12_atom_64 ?_
        refine lv_ldc2 (v := 27) hx hb hown (htg (.constantLong RX12 313 27) kw_8_77) dX12_atom_67 ?_
        refine lv_bipush (v := 105) hx hb dX12_atom_70 (by decide) ?_
        refine lv_bipush (v := 110) hx hb dX12_atom_72 (by decide) ?_
        refine lv_bipush (v := 115) hx hb dX12_atom_74 (by decide) ?_
        refine lv_bipush (v := 117) hx hb dX12_atom_76 (by decide) ?_
        refine lv_bipush (v := 114) hx hb dX12_atom_78 (by decide) ?_
        refine va_calll (va_runS (As := [.int 105, .int 110, .int 115, .int 117, .int 114]) (rest := [.long 27, .long 27, .ref h]) ⟨hx, hb, hml, hown, hts⟩ (m_spelt l H.size 105 110 115 117 114) (va_cwS 5 hts (gS kw_8_87 kw_8_88 kw_1_15 kw_8_89) rfl rfl rfl (by decide +kernel) ⟨Nat.le_of_ble_eq_true rfl, Nat.le_of_ble_eq_true rfl⟩) ⟨fun a U g mk q => ⟨q.1, q.2⟩, fun U hU hW => ⟨rfl, congrArg Array.size hU⟩⟩ rfl rfl hl.1 rfl (lv_room (Nat.le_of_ble_eq_true rfl)) dX12_atom_80 ⟨Nat.le_of_ble_eq_true rfl, Nat.le_of_ble_eq_true rfl⟩) hS (fun q _ h9 => nM_up hS q h9) (nM_up hS) (fun r_31 u t H1 locs ht _ hw hB _ hk1 hS => ?_)
        have hP := my_keepM hP hk1
        generalize H1 = H at hP hS ⊢
        refine lv_lmul hx hb dX12_atom_83 ?_
        refine lv_topl (fun w_32 _ => ?_)
        refine lv_ldc2 (v := 5) hx hb hown (htg (.constantLong RX12 331 5) kw_8_114) dX12_atom_84 ?_
        refine lv_ladd hx hb dX12_atom_87 ?_
        refine lv_topl (fun w_33 _ => ?_)
        refine lv_lmul hx hb dX12_atom_88 ?_
        refine lv_topl (fun w_34 _ => ?_)
        refine lv_ldc2 (v := 4) hx hb hown (htg (.constantLong RX12 333 4) kw_8_115) dX12_atom_89 ?_
        refine lv_ladd hx hb dX12_atom_92 ?_
        refine lv_topl (fun w_35 _ => ?_)
        refine va_calli (va_runV (As := [.long w_35]) (rest := []) ⟨hx, hb, hml, hown, hts⟩ (m_isKey l dC dI H.size h ad cA hd fv_24 wd_25 ar_26 hF_fv_24 hA_ar_26 w_35) (cwV 1 hts (gV kw_8_90 kw_8_92 kw_p_68 kw_1_15 kw_8_93) rfl rfl rfl (by decide +kernel) ⟨Nat.le_of_ble_eq_true rfl, Nat.le_of_ble_eq_true rfl⟩) ⟨fun a U g mk q => ⟨q.1, q.2.1, q.2.2.1, va_K.moved (u := U) (U := U.calling g mk a) (Vm.Alike.refl U.vm) q.2.2.2⟩, va_recv hK hP (ci := 12) (q0 := 0) rfl rfl, fun U hU hW => ⟨rfl, by rw [hU], by rw [hU]; exact hP, va_K.moved hW.alike hK⟩⟩ rfl rfl hl.1 rfl (lv_room (Nat.le_of_ble_eq_true rfl)) dX12_atom_93 ⟨Nat.le_of_ble_eq_true rfl, Nat.le_of_ble_eq_true rfl⟩) hS (fun q _ h9 => aM_up hS q h9) (aM_up hS) (fun r_36 u t H1 locs ht _ hw hB _ hk1 hS => ?_)
        obtain ⟨fv_38, wd_39, ar_40⟩ := u
        obtain ⟨hF_fv_38, hA_ar_40, fr_41, fa_42, p_37, -⟩ := hw
        have hP : va_P (dC, dI) vwCl (wsM h ad cA fv_38 wd_39 ar_40) H1 := by have h9 := hB.1; rw [ht] at h9; exact h9
        have fr_41 : fM [] fv_24 fv_38 := fr_41
        have fa_42 : fA [] ar_26 ar_40 := fa_42
        generalize H1 = H at hP hS ⊢
        refine lv_if_eq (tgt := 101) hx hb dX12_atom_96 (by decide) (fun c_43 => ?_) (fun c_43 => ?_)
        · skip
          have i_44 : 0 ≤ r_36.toInt ∧ r_36.toInt ≤ 0 := iv_eq1 (⟨by decide, by decide⟩ : (0 : Int) ≤ (0 : Int32).toInt ∧ (0 : Int32).toInt ≤ 0) c_43
          refine lv_aload_n hx hb dX12_atom_101 rfl (lv_at hl 0 rfl) ?_
          refine lv_ldc2 (v := 27) hx hb hown (htg (.constantLong RX12 313 27) kw_8_77) dX12_atom_102 ?_
          refine lv_bipush (v := 114) hx hb dX12_atom_105 (by decide) ?_
          refine lv_bipush (v := 105) hx hb dX12_atom_107 (by decide) ?_
          refine lv_bipush (v := 100) hx hb dX12_atom_109 (by decide) ?_
          refine lv_bipush (v := 101) hx hb dX12_atom_111 (by decide) ?_
          refine lv_bipush (v := 114) hx hb dX12_atom_113 (by decide) ?_
          refine va_calll (va_runS (As := [.int 114, .int 105, .int 100, .int 101, .int 114]) (rest := [.long 27, .ref h]) ⟨hx, hb, hml, hown, hts⟩ (m_spelt l H.size 114 105 100 101 114) (va_cwS 5 hts (gS kw_8_87 kw_8_88 kw_1_15 kw_8_89) rfl rfl rfl (by decide +kernel) ⟨Nat.le_of_ble_eq_true rfl, Nat.le_of_ble_eq_true rfl⟩) ⟨fun a U g mk q => ⟨q.1, q.2⟩, fun U hU hW => ⟨rfl, congrArg Array.size hU⟩⟩ rfl rfl hl.1 rfl (lv_room (Nat.le_of_ble_eq_true rfl)) dX12_atom_115 ⟨Nat.le_of_ble_eq_true rfl, Nat.le_of_ble_eq_true rfl⟩) hS (fun q _ h9 => nM_up hS q h9) (nM_up hS) (fun r_45 u t H1 locs ht _ hw hB _ hk1 hS => ?_)
          have hP := my_keepM hP hk1
          generalize H1 = H at hP hS ⊢
          refine lv_lmul hx hb dX12_atom_118 ?_
          refine lv_topl (fun w_46 _ => ?_)
          refine lv_ldc2 (v := 19) hx hb hown (htg (.constantLong RX12 335 19) kw_8_116) dX12_atom_119 ?_
          refine lv_ladd hx hb dX12_atom_122 ?_
          refine lv_topl (fun w_47 _ => ?_)
          refine va_calli (va_runV (As := [.long w_47]) (rest := []) ⟨hx, hb, hml, hown, hts⟩ (m_isKey l dC dI H.size h ad cA hd fv_38 wd_39 ar_40 hF_fv_38 hA_ar_40 w_47) (cwV 1 hts (gV kw_8_90 kw_8_92 kw_p_68 kw_1_15 kw_8_93) rfl rfl rfl (by decide +kernel) ⟨Nat.le_of_ble_eq_true rfl, Nat.le_of_ble_eq_true rfl⟩) ⟨fun a U g mk q => ⟨q.1, q.2.1, q.2.2.1, va_K.moved (u := U) (U := U.calling g mk a) (Vm.Alike.refl U.vm) q.2.2.2⟩, va_recv hK hP (ci := 12) (q0 := 0) rfl rfl, fun U hU hW => ⟨rfl, by rw [hU], by rw [hU]; exact hP, va_K.moved hW.alike hK⟩⟩ rfl rfl hl.1 rfl (lv_room (Nat.le_of_ble_eq_true rfl)) dX12_atom_123 ⟨Nat.le_of_ble_eq_true rfl, Nat.le_of_ble_eq_true rfl⟩) hS (fun q _ h9 => aM_up hS q h9) (aM_up hS) (fun r_48 u t H1 locs ht _ hw hB _ hk1 hS => ?_)
          obtain ⟨fv_50, wd_51, ar_52⟩ := u
          obtain ⟨hF_fv_50, hA_ar_52, fr_53, fa_54, p_49, -⟩ := hw
          have hP : va_P (dC, dI) vwCl (wsM h ad cA fv_50 wd_51 ar_52) H1 := by have h9 := hB.1; rw [ht] at h9; exact h9
          have fr_53 : fM [] fv_38 fv_50 := fr_53
          have fa_54 : fA [] ar_40 ar_52 := fa_54
          generalize H1 = H at hP hS ⊢
          refine lv_if_eq (tgt := 131) hx hb dX12_atom_126 (by decide) (fun c_55 => ?_) (fun c_55 => ?_)
          · skip
            have i_56 : 0 ≤ r_48.toInt ∧ r_48.toInt ≤ 0 := iv_eq1 (⟨by decide, by decide⟩ : (0 : Int) ≤ (0 : Int32).toInt ∧ (0 : Int32).toInt ≤ 0) c_55
            refine lv_aload_n hx hb dX12_atom_131 rfl (lv_at hl 0 rfl) ?_
            refine lv_bipush (v := 115) hx hb dX12_atom_132 (by decide) ?_
            refine lv_bipush (v := 101) hx hb dX12_atom_134 (by decide) ?_
            refine lv_bipush (v := 97) hx hb dX12_atom_136 (by decide) ?_
            refine lv_bipush (v := 116) hx hb dX12_atom_138 (by decide) ?_
            refine lv_bipush (v := 115) hx hb dX12_atom_140 (by decide) ?_
            refine va_calll (va_runS (As := [.int 115, .int 101, .int 97, .int 116, .int 115]) (rest := [.ref h]) ⟨hx, hb, hml, hown, hts⟩ (m_spelt l H.size 115 101 97 116 115) (va_cwS 5 hts (gS kw_8_87 kw_8_88 kw_1_15 kw_8_89) rfl rfl rfl (by decide +kernel) ⟨Nat.le_of_ble_eq_true rfl, Nat.le_of_ble_eq_true rfl⟩) ⟨fun a U g mk q => ⟨q.1, q.2⟩, fun U hU hW => ⟨rfl, congrArg Array.size hU⟩⟩ rfl rfl hl.1 rfl (lv_room (Nat.le_of_ble_eq_true rfl)) dX12_atom_142 ⟨Nat.le_of_ble_eq_true rfl, Nat.le_of_ble_eq_true rfl⟩) hS (fun q _ h9 => nM_up hS q h9) (nM_up hS) (fun r_57 u t H1 locs ht _ hw hB _ hk1 hS => ?_)
            have hP := my_keepM hP hk1
            generalize H1 = H at hP hS ⊢
            refine va_calli (va_runV (As := [.long r_57]) (rest := []) ⟨hx, hb, hml, hown, hts⟩ (m_isKey l dC dI H.size h ad cA hd fv_50 wd_51 ar_52 hF_fv_50 hA_ar_52 r_57) (cwV 1 hts (gV kw_8_90 kw_8_92 kw_p_68 kw_1_15 kw_8_93) rfl rfl rfl (by decide +kernel) ⟨Nat.le_of_ble_eq_true rfl, Nat.le_of_ble_eq_true rfl⟩) ⟨fun a U g mk q => ⟨q.1, q.2.1, q.2.2.1, va_K.moved (u := U) (U := U.calling g mk a) (Vm.Alike.refl U.vm) q.2.2.2⟩, va_recv hK hP (ci := 12) (q0 := 0) rfl rfl, fun U hU hW => ⟨rfl, by rw [hU], by rw [hU]; exact hP, va_K.moved hW.alike hK⟩⟩ rfl rfl hl.1 rfl (lv_room (Nat.le_of_ble_eq_true rfl)) dX12_atom_145 ⟨Nat.le_of_ble_eq_true rfl, Nat.le_of_ble_eq_true rfl⟩) hS (fun q _ h9 => aM_up hS q h9) (aM_up hS) (fun r_58 u t H1 locs ht _ hw hB _ hk1 hS => ?_)
            obtain ⟨fv_60, wd_61, ar_62⟩ := u
            obtain ⟨hF_fv_60, hA_ar_62, fr_63, fa_64, p_59, -⟩ := hw
            have hP : va_P (dC, dI) vwCl (wsM h ad cA fv_60 wd_61 ar_62) H1 := by have h9 := hB.1; rw [ht] at h9; exact h9
            have fr_63 : fM [] fv_50 fv_60 := fr_63
            have fa_64 : fA [] ar_52 ar_62 := fa_64
            generalize H1 = H at hP hS ⊢
            refine lv_if_eq (tgt := 153) hx hb dX12_atom_148 (by decide) (fun c_65 => ?_) (fun c_65 => ?_)
            · skip
              have i_66 : 0 ≤ r_58.toInt ∧ r_58.toInt ≤ 0 := iv_eq1 (⟨by decide, by decide⟩ : (0 : Int) ≤ (0 : Int32).toInt ∧ (0 : Int32).toInt ≤ 0) c_65
              refine lv_aload_n hx hb dX12_atom_153 rfl (lv_at hl 0 rfl) ?_
              refine lv_bipush (v := 114) hx hb dX12_atom_154 (by decide) ?_
              refine lv_bipush (v := 97) hx hb dX12_atom_156 (by decide) ?_
              refine lv_bipush (v := 105) hx hb dX12_atom_158 (by decide) ?_
              refine lv_bipush (v := 110) hx hb dX12_atom_160 (by decide) ?_
              refine lv_iconst (v := 0) hx hb dX12_atom_162 (by decide) ?_
              refine va_calll (va_runS (As := [.int 114, .int 97, .int 105, .int 110, .int 0]) (rest := [.ref h]) ⟨hx, hb, hml, hown, hts⟩ (m_spelt l H.size 114 97 105 110 0) (va_cwS 5 hts (gS kw_8_87 kw_8_88 kw_1_15 kw_8_89) rfl rfl rfl (by decide +kernel) ⟨Nat.le_of_ble_eq_true rfl, Nat.le_of_ble_eq_true rfl⟩) ⟨fun a U g mk q => ⟨q.1, q.2⟩, fun U hU hW => ⟨rfl, congrArg Array.size hU⟩⟩ rfl rfl hl.1 rfl (lv_room (Nat.le_of_ble_eq_true rfl)) dX12_atom_163 ⟨Nat.le_of_ble_eq_true rfl, Nat.le_of_ble_eq_true rfl⟩) hS (fun q _ h9 => nM_up hS q h9) (nM_up hS) (fun r_67 u t H1 locs ht _ hw hB _ hk1 hS => ?_)
              have hP := my_keepM hP hk1
              generalize H1 = H at hP hS ⊢
              refine va_calli (va_runV (As := [.long r_67]) (rest := []) ⟨hx, hb, hml, hown, hts⟩ (m_isKey l dC dI H.size h ad cA hd fv_60 wd_61 ar_62 hF_fv_60 hA_ar_62 r_67) (cwV 1 hts (gV kw_8_90 kw_8_92 kw_p_68 kw_1_15 kw_8_93) rfl rfl rfl (by decide +kernel) ⟨Nat.le_of_ble_eq_true rfl, Nat.le_of_ble_eq_true rfl⟩) ⟨fun a U g mk q => ⟨q.1, q.2.1, q.2.2.1, va_K.moved (u := U) (U := U.calling g mk a) (Vm.Alike.refl U.vm) q.2.2.2⟩, va_recv hK hP (ci := 12) (q0 := 0) rfl rfl, fun U hU hW => ⟨rfl, by rw [hU], by rw [hU]; exact hP, va_K.moved hW.alike hK⟩⟩ rfl rfl hl.1 rfl (lv_room (Nat.le_of_ble_eq_true rfl)) dX12_atom_166 ⟨Nat.le_of_ble_eq_true rfl, Nat.le_of_ble_eq_true rfl⟩) hS (fun q _ h9 => aM_up hS q h9) (aM_up hS) (fun r_68 u t H1 locs ht _ hw hB _ hk1 hS => ?_)
              obtain ⟨fv_70, wd_71, ar_72⟩ := u
              obtain ⟨hF_fv_70, hA_ar_72, fr_73, fa_74, p_69, -⟩ := hw
              have hP : va_P (dC, dI) vwCl (wsM h ad cA fv_70 wd_71 ar_72) H1 := by have h9 := hB.1; rw [ht] at h9; exact h9
              have fr_73 : fM [] fv_60 fv_70 := fr_73
              have fa_74 : fA [] ar_62 ar_72 := fa_74
              generalize H1 = H at hP hS ⊢
              refine lv_if_eq (tgt := 175) hx hb dX12_atom_169 (by decide) (fun c_75 => ?_) (fun c_75 => ?_)
              · skip
                have i_76 : 0 ≤ r_68.toInt ∧ r_68.toInt ≤ 0 := iv_eq1 (⟨by decide, by decide⟩ : (0 : Int) ≤ (0 : Int32).toInt ∧ (0 : Int32).toInt ≤ 0) c_75
                refine lv_aload_n hx hb dX12_atom_175 rfl (lv_at hl 0 rfl) ?_
                refine lv_ldc2 (v := 27) hx hb hown (htg (.constantLong RX12 313 27) kw_8_77) dX12_atom_176 ?_
                refine lv_bipush (v := 109) hx hb dX12_atom_179 (by decide) ?_
                refine lv_bipush (v := 105) hx hb dX12_atom_181 (by decide) ?_
                refine lv_bipush (v := 110) hx hb dX12_atom_183 (by decide) ?_
                refine lv_bipush (v := 117) hx hb dX12_atom_185 (by decide) ?_
                refine lv_bipush (v := 116) hx hb dX12_atom_187 (by decide) ?_
                refine va_calll (va_runS (As := [.int 109, .int 105, .int 110, .int 117, .int 116]) (rest := [.long 27, .ref h]) ⟨hx, hb, hml, hown, hts⟩ (m_spelt l H.size 109 105 110 117 116) (va_cwS 5 hts (gS kw_8_87 kw_8_88 kw_1_15 kw_8_89) rfl rfl rfl (by decide +kernel) ⟨Nat.le_of_ble_eq_true rfl, Nat.le_of_ble_eq_true rfl⟩) ⟨fun a U g mk q => ⟨q.1, q.2⟩, fun U hU hW => ⟨rfl, congrArg Array.size hU⟩⟩ rfl rfl hl.1 rfl (lv_room (Nat.le_of_ble_eq_true rfl)) dX12_atom_189 ⟨Nat.le_of_ble_eq_true rfl, Nat.le_of_ble_eq_true rfl⟩) hS (fun q _ h9 => nM_up hS q h9) (nM_up hS) (fun r_77 u t H1 locs ht _ hw hB _ hk1 hS => ?_)
                have hP := my_keepM hP hk1
                generalize H1 = H at hP hS ⊢
                refine lv_lmul hx hb dX12_atom_192 ?_
                refine lv_topl (fun w_78 _ => ?_)
                refine lv_ldc2 (v := 5) hx hb hown (htg (.constantLong RX12 331 5) kw_8_114) dX12_atom_193 ?_
                refine lv_ladd hx hb dX12_atom_196 ?_
                refine lv_topl (fun w_79 _ => ?_)
                refine va_calli (va_runV (As := [.long w_79]) (rest := []) ⟨hx, hb, hml, hown, hts⟩ (m_isKey l dC dI H.size h ad cA hd fv_70 wd_71 ar_72 hF_fv_70 hA_ar_72 w_79) (cwV 1 hts (gV kw_8_90 kw_8_92 kw_p_68 kw_1_15 kw_8_93) rfl rfl rfl (by decide +kernel) ⟨Nat.le_of_ble_eq_true rfl, Nat.le_of_ble_eq_true rfl⟩) ⟨fun a U g mk q => ⟨q.1, q.2.1, q.2.2.1, va_K.moved (u := U) (U := U.calling g mk a) (Vm.Alike.refl U.vm) q.2.2.2⟩, va_recv hK hP (ci := 12) (q0 := 0) rfl rfl, fun U hU hW => ⟨rfl, by rw [hU], by rw [hU]; exact hP, va_K.moved hW.alike hK⟩⟩ rfl rfl hl.1 rfl (lv_room (Nat.le_of_ble_eq_true rfl)) dX12_atom_197 ⟨Nat.le_of_ble_eq_true rfl, Nat.le_of_ble_eq_true rfl⟩) hS (fun q _ h9 => aM_up hS q h9) (aM_up hS) (fun r_80 u t H1 locs ht _ hw hB _ hk1 hS => ?_)
                obtain ⟨fv_82, wd_83, ar_84⟩ := u
                obtain ⟨hF_fv_82, hA_ar_84, fr_85, fa_86, p_81, -⟩ := hw
                have hP : va_P (dC, dI) vwCl (wsM h ad cA fv_82 wd_83 ar_84) H1 := by have h9 := hB.1; rw [ht] at h9; exact h9
                have fr_85 : fM [] fv_70 fv_82 := fr_85
                have fa_86 : fA [] ar_72 ar_84 := fa_86
                generalize H1 = H at hP hS ⊢
                refine lv_if_eq (tgt := 206) hx hb dX12_atom_200 (by decide) (fun c_87 => ?_) (fun c_87 => ?_)
                · skip
                  have i_88 : 0 ≤ r_80.toInt ∧ r_80.toInt ≤ 0 := iv_eq1 (⟨by decide, by decide⟩ : (0 : Int) ≤ (0 : Int32).toInt ∧ (0 : Int32).toInt ≤ 0) c_87
                  refine lv_aload_n hx hb dX12_atom_206 rfl (lv_at hl 0 rfl) ?_
                  refine lv_bipush (v := 100) hx hb dX12_atom_207 (by decide) ?_
                  refine lv_bipush (v := 97) hx hb dX12_atom_209 (by decide) ?_
                  refine lv_bipush (v := 121) hx hb dX12_atom_211 (by decide) ?_
                  refine lv_iconst (v := 0) hx hb dX12_atom_213 (by decide) ?_
                  refine lv_iconst (v := 0) hx hb dX12_atom_214 (by decide) ?_
                  refine va_calll (va_runS (As := [.int 100, .int 97, .int 121, .int 0, .int 0]) (rest := [.ref h]) ⟨hx, hb, hml, hown, hts⟩ (m_spelt l H.size 100 97 121 0 0) (va_cwS 5 hts (gS kw_8_87 kw_8_88 kw_1_15 kw_8_89) rfl rfl rfl (by decide +kernel) ⟨Nat.le_of_ble_eq_true rfl, Nat.le_of_ble_eq_true rfl⟩) ⟨fun a U g mk q => ⟨q.1, q.2⟩, fun U hU hW => ⟨rfl, congrArg Array.size hU⟩⟩ rfl rfl hl.1 rfl (lv_room (Nat.le_of_ble_eq_true rfl)) dX12_atom_215 ⟨Nat.le_of_ble_eq_true rfl, Nat.le_of_ble_eq_true rfl⟩) hS (fun q _ h9 => nM_up hS q h9) (nM_up hS) (fun r_89 u t H1 locs ht _ hw hB _ hk1 hS => ?_)
                  have hP := my_keepM hP hk1
                  generalize H1 = H at hP hS ⊢
                  refine va_calli (va_runV (As := [.long r_89]) (rest := []) ⟨hx, hb, hml, hown, hts⟩ (m_isKey l dC dI H.size h ad cA hd fv_82 wd_83 ar_84 hF_fv_82 hA_ar_84 r_89) (cwV 1 hts (gV kw_8_90 kw_8_92 kw_p_68 kw_1_15 kw_8_93) rfl rfl rfl (by decide +kernel) ⟨Nat.le_of_ble_eq_true rfl, Nat.le_of_ble_eq_true rfl⟩) ⟨fun a U g mk q => ⟨q.1, q.2.1, q.2.2.1, va_K.moved (u := U) (U := U.calling g mk a) (Vm.Alike.refl U.vm) q.2.2.2⟩, va_recv hK hP (ci := 12) (q0 := 0) rfl rfl, fun U hU hW => ⟨rfl, by rw [hU], by rw [hU]; exact hP, va_K.moved hW.alike hK⟩⟩ rfl rfl hl.1 rfl (lv_room (Nat.le_of_ble_eq_true rfl)) dX12_atom_218 ⟨Nat.le_of_ble_eq_true rfl, Nat.le_of_ble_eq_true rfl⟩) hS (fun q _ h9 => aM_up hS q h9) (aM_up hS) (fun r_90 u t H1 locs ht _ hw hB _ hk1 hS => ?_)
                  obtain ⟨fv_92, wd_93, ar_94⟩ := u
                  obtain ⟨hF_fv_92, hA_ar_94, fr_95, fa_96, p_91, -⟩ := hw
                  have hP : va_P (dC, dI) vwCl (wsM h ad cA fv_92 wd_93 ar_94) H1 := by have h9 := hB.1; rw [ht] at h9; exact h9
                  have fr_95 : fM [] fv_82 fv_92 := fr_95
                  have fa_96 : fA [] ar_84 ar_94 := fa_96
                  generalize H1 = H at hP hS ⊢
                  refine lv_if_eq (tgt := 227) hx hb dX12_atom_221 (by decide) (fun c_97 => ?_) (fun c_97 => ?_)
                  · skip
                    have i_98 : 0 ≤ r_90.toInt ∧ r_90.toInt ≤ 0 := iv_eq1 (⟨by decide, by decide⟩ : (0 : Int) ≤ (0 : Int32).toInt ∧ (0 : Int32).toInt ≤ 0) c_97
                    refine lv_aload_n hx hb dX12_atom_227 rfl (lv_at hl 0 rfl) ?_
                    refine lv_bipush (v := 102) hx hb dX12_atom_228 (by decide) ?_
                    refine lv_bipush (v := 114) hx hb dX12_atom_230 (by decide) ?_
                    refine lv_bipush (v := 111) hx hb dX12_atom_232 (by decide) ?_
                    refine lv_bipush (v := 109) hx hb dX12_atom_234 (by decide) ?_
                    refine lv_iconst (v := 0) hx hb dX12_atom_236 (by decide) ?_
                    refine va_calll (va_runS (As := [.int 102, .int 114, .int 111, .int 109, .int 0]) (rest := [.ref h]) ⟨hx, hb, hml, hown, hts⟩ (m_spelt l H.size 102 114 111 109 0) (va_cwS 5 hts (gS kw_8_87 kw_8_88 kw_1_15 kw_8_89) rfl rfl rfl (by decide +kernel) ⟨Nat.le_of_ble_eq_true rfl, Nat.le_of_ble_eq_true rfl⟩) ⟨fun a U g mk q => ⟨q.1, q.2⟩, fun U hU hW => ⟨rfl, congrArg Array.size hU⟩⟩ rfl rfl hl.1 rfl (lv_room (Nat.le_of_ble_eq_true rfl)) dX12_atom_237 ⟨Nat.le_of_ble_eq_true rfl, Nat.le_of_ble_eq_true rfl⟩) hS (fun q _ h9 => nM_up hS q h9) (nM_up hS) (fun r_99 u t H1 locs ht _ hw hB _ hk1 hS => ?_)
                    have hP := my_keepM hP hk1
                    generalize H1 = H at hP hS ⊢
                    refine va_calli (va_runV (As := [.long r_99]) (rest := []) ⟨hx, hb, hml, hown, hts⟩ (m_isKey l dC dI H.size h ad cA hd fv_92 wd_93 ar_94 hF_fv_92 hA_ar_94 r_99) (cwV 1 hts (gV kw_8_90 kw_8_92 kw_p_68 kw_1_15 kw_8_93) rfl rfl rfl (by decide +kernel) ⟨Nat.le_of_ble_eq_true rfl, Nat.le_of_ble_eq_true rfl⟩) ⟨fun a U g mk q => ⟨q.1, q.2.1, q.2.2.1, va_K.moved (u := U) (U := U.calling g mk a) (Vm.Alike.refl U.vm) q.2.2.2⟩, va_recv hK hP (ci := 12) (q0 := 0) rfl rfl, fun U hU hW => ⟨rfl, by rw [hU], by rw [hU]; exact hP, va_K.moved hW.alike hK⟩⟩ rfl rfl hl.1 rfl (lv_room (Nat.le_of_ble_eq_true rfl)) dX12_atom_240 ⟨Nat.le_of_ble_eq_true rfl, Nat.le_of_ble_eq_true rfl⟩) hS (fun q _ h9 => aM_up hS q h9) (aM_up hS) (fun r_100 u t H1 locs ht _ hw hB _ hk1 hS => ?_)
                    obtain ⟨fv_102, wd_103, ar_104⟩ := u
                    obtain ⟨hF_fv_102, hA_ar_104, fr_105, fa_106, p_101, -⟩ := hw
                    have hP : va_P (dC, dI) vwCl (wsM h ad cA fv_102 wd_103 ar_104) H1 := by have h9 := hB.1; rw [ht] at h9; exact h9
                    have fr_105 : fM [] fv_92 fv_102 := fr_105
                    have fa_106 : fA [] ar_94 ar_104 := fa_106
                    generalize H1 = H at hP hS ⊢
                    refine lv_if_eq (tgt := 249) hx hb dX12_atom_243 (by decide) (fun c_107 => ?_) (fun c_107 => ?_)
                    · skip
                      have i_108 : 0 ≤ r_100.toInt ∧ r_100.toInt ≤ 0 := iv_eq1 (⟨by decide, by decide⟩ : (0 : Int) ≤ (0 : Int32).toInt ∧ (0 : Int32).toInt ≤ 0) c_107
                      refine lv_aload_n hx hb dX12_atom_249 rfl (lv_at hl 0 rfl) ?_
                      refine lv_bipush (v := 116) hx hb dX12_atom_250 (by decide) ?_
                      refine lv_bipush (v := 111) hx hb dX12_atom_252 (by decide) ?_
                      refine lv_iconst (v := 0) hx hb dX12_atom_254 (by decide) ?_
                      refine lv_iconst (v := 0) hx hb dX12_atom_255 (by decide) ?_
                      refine lv_iconst (v := 0) hx hb dX12_atom_256 (by decide) ?_
                      refine va_calll (va_runS (As := [.int 116, .int 111, .int 0, .int 0, .int 0]) (rest := [.ref h]) ⟨hx, hb, hml, hown, hts⟩ (m_spelt l H.size 116 111 0 0 0) (va_cwS 5 hts (gS kw_8_87 kw_8_88 kw_1_15 kw_8_89) rfl rfl rfl (by decide +kernel) ⟨Nat.le_of_ble_eq_true rfl, Nat.le_of_ble_eq_true rfl⟩) ⟨fun a U g mk q => ⟨q.1, q.2⟩, fun U hU hW => ⟨rfl, congrArg Array.size hU⟩⟩ rfl rfl hl.1 rfl (lv_room (Nat.le_of_ble_eq_true rfl)) dX12_atom_257 ⟨Nat.le_of_ble_eq_true rfl, Nat.le_of_ble_eq_true rfl⟩) hS (fun q _ h9 => nM_up hS q h9) (nM_up hS) (fun r_109 u t H1 locs ht _ hw hB _ hk1 hS => ?_)
                      have hP := my_keepM hP hk1
                      generalize H1 = H at hP hS ⊢
                      refine va_calli (va_runV (As := [.long r_109]) (rest := []) ⟨hx, hb, hml, hown, hts⟩ (m_isKey l dC dI H.size h ad cA hd fv_102 wd_103 ar_104 hF_fv_102 hA_ar_104 r_109) (cwV 1 hts (gV kw_8_90 kw_8_92 kw_p_68 kw_1_15 kw_8_93) rfl rfl rfl (by decide +kernel) ⟨Nat.le_of_ble_eq_true rfl, Nat.le_of_ble_eq_true rfl⟩) ⟨fun a U g mk q => ⟨q.1, q.2.1, q.2.2.1, va_K.moved (u := U) (U := U.calling g mk a) (Vm.Alike.refl U.vm) q.2.2.2⟩, va_recv hK hP (ci := 12) (q0 := 0) rfl rfl, fun U hU hW => ⟨rfl, by rw [hU], by rw [hU]; exact hP, va_K.moved hW.alike hK⟩⟩ rfl rfl hl.1 rfl (lv_room (Nat.le_of_ble_eq_true rfl)) dX12_atom_260 ⟨Nat.le_of_ble_eq_true rfl, Nat.le_of_ble_eq_true rfl⟩) hS (fun q _ h9 => aM_up hS q h9) (aM_up hS) (fun r_110 u t H1 locs ht _ hw hB _ hk1 hS => ?_)
                      obtain ⟨fv_112, wd_113, ar_114⟩ := u
                      obtain ⟨hF_fv_112, hA_ar_114, fr_115, fa_116, p_111, -⟩ := hw
                      have hP : va_P (dC, dI) vwCl (wsM h ad cA fv_112 wd_113 ar_114) H1 := by have h9 := hB.1; rw [ht] at h9; exact h9
                      have fr_115 : fM [] fv_102 fv_112 := fr_115
                      have fa_116 : fA [] ar_104 ar_114 := fa_116
                      generalize H1 = H at hP hS ⊢
                      refine lv_if_eq (tgt := 269) hx hb dX12_atom_263 (by decide) (fun c_117 => ?_) (fun c_117 => ?_)
                      · skip
                        have i_118 : 0 ≤ r_110.toInt ∧ r_110.toInt ≤ 0 := iv_eq1 (⟨by decide, by decide⟩ : (0 : Int) ≤ (0 : Int32).toInt ∧ (0 : Int32).toInt ≤ 0) c_117
                        refine lv_aload_n hx hb dX12_atom_269 rfl (lv_at hl 0 rfl) ?_
                        refine lv_bipush (v := 116) hx hb dX12_atom_270 (by decide) ?_
                        refine lv_bipush (v := 105) hx hb dX12_atom_272 (by decide) ?_
                        refine lv_bipush (v := 109) hx hb dX12_atom_274 (by decide) ?_
                        refine lv_bipush (v := 101) hx hb dX12_atom_276 (by decide) ?_
                        refine lv_bipush (v := 115) hx hb dX12_atom_278 (by decide) ?_
                        refine va_calll (va_runS (As := [.int 116, .int 105, .int 109, .int 101, .int 115]) (rest := [.ref h]) ⟨hx, hb, hml, hown, hts⟩ (m_spelt l H.size 116 105 109 101 115) (va_cwS 5 hts (gS kw_8_87 kw_8_88 kw_1_15 kw_8_89) rfl rfl rfl (by decide +kernel) ⟨Nat.le_of_ble_eq_true rfl, Nat.le_of_ble_eq_true rfl⟩) ⟨fun a U g mk q => ⟨q.1, q.2⟩, fun U hU hW => ⟨rfl, congrArg Array.size hU⟩⟩ rfl rfl hl.1 rfl (lv_room (Nat.le_of_ble_eq_true rfl)) dX12_atom_280 ⟨Nat.le_of_ble_eq_true rfl, Nat.le_of_ble_eq_true rfl⟩) hS (fun q _ h9 => nM_up hS q h9) (nM_up hS) (fun r_119 u t H1 locs ht _ hw hB _ hk1 hS => ?_)
                        have hP := my_keepM hP hk1
                        generalize H1 = H at hP hS ⊢
                        refine va_calli (va_runV (As := [.long r_119]) (rest := []) ⟨hx, hb, hml, hown, hts⟩ (m_isKey l dC dI H.size h ad cA hd fv_112 wd_113 ar_114 hF_fv_112 hA_ar_114 r_119) (cwV 1 hts (gV kw_8_90 kw_8_92 kw_p_68 kw_1_15 kw_8_93) rfl rfl rfl (by decide +kernel) ⟨Nat.le_of_ble_eq_true rfl, Nat.le_of_ble_eq_true rfl⟩) ⟨fun a U g mk q => ⟨q.1, q.2.1, q.2.2.1, va_K.moved (u := U) (U := U.calling g mk a) (Vm.Alike.refl U.vm) q.2.2.2⟩, va_recv hK hP (ci := 12) (q0 := 0) rfl rfl, fun U hU hW => ⟨rfl, by rw [hU], by rw [hU]; exact hP, va_K.moved hW.alike hK⟩⟩ rfl rfl hl.1 rfl (lv_room (Nat.le_of_ble_eq_true rfl)) dX12_atom_283 ⟨Nat.le_of_ble_eq_true rfl, Nat.le_of_ble_eq_true rfl⟩) hS (fun q _ h9 => aM_up hS q h9) (aM_up hS) (fun r_120 u t H1 locs ht _ hw hB _ hk1 hS => ?_)
                        obtain ⟨fv_122, wd_123, ar_124⟩ := u
                        obtain ⟨hF_fv_122, hA_ar_124, fr_125, fa_126, p_121, -⟩ := hw
                        have hP : va_P (dC, dI) vwCl (wsM h ad cA fv_122 wd_123 ar_124) H1 := by have h9 := hB.1; rw [ht] at h9; exact h9
                        have fr_125 : fM [] fv_112 fv_122 := fr_125
                        have fa_126 : fA [] ar_114 ar_124 := fa_126
                        generalize H1 = H at hP hS ⊢
                        refine lv_if_eq (tgt := 294) hx hb dX12_atom_286 (by decide) (fun c_127 => ?_) (fun c_127 => ?_)
                        · skip
                          have i_128 : 0 ≤ r_120.toInt ∧ r_120.toInt ≤ 0 := iv_eq1 (⟨by decide, by decide⟩ : (0 : Int) ≤ (0 : Int32).toInt ∧ (0 : Int32).toInt ≤ 0) c_127
                          refine lv_iconst (v := (-1)) hx hb dX12_atom_294 (by decide) ?_
                          exact W.iret (v := (-1)) hx hb hr (fun t ht hW => ⟨⟨(-1), (fv_122, wd_123, ar_124), rfl, ⟨hF_fv_122, hA_ar_124, (fM_call (fM_call (fM_call (fM_call (fM_call (fM_call (fM_call (fM_call (fM_call (fM_call (fM_call (fM_call (fM_rf [] _) fr_7 (by decide)) fr_17 (by decide)) fr_27 (by decide)) fr_41 (by decide)) fr_53 (by decide)) fr_63 (by decide)) fr_73 (by decide)) fr_85 (by decide)) fr_95 (by decide)) fr_105 (by decide)) fr_115 (by decide)) fr_125 (by decide)), (fA_call (fA_call (fA_call (fA_call (fA_call (fA_call (fA_call (fA_call (fA_call (fA_call (fA_call (fA_call (fA_rf [] _) fa_8 (by decide)) fa_18 (by decide)) fa_28 (by decide)) fa_42 (by decide)) fa_54 (by decide)) fa_64 (by decide)) fa_74 (by decide)) fa_86 (by decide)) fa_96 (by decide)) fa_106 (by decide)) fa_116 (by decide)) fa_126 (by decide)), (iv_w (⟨by decide, by decide⟩ : (-1 : Int) ≤ ((-1) : Int32).toInt ∧ ((-1) : Int32).toInt ≤ -1) (by decide) (by decide)), trivial⟩, ⟨by rw [ht]; exact hP, va_K.moved hW.alike hK⟩⟩, hS.F ht⟩) hS.2.2 dX12_atom_295
                        · skip
                          have i_129 : 1 ≤ r_120.toInt ∧ r_120.toInt ≤ 1 := iv_nel p_121 (by decide) c_127
                          refine lv_bipush (v := 11) hx hb dX12_atom_289 (by decide) ?_
                          refine lv_goto (tgt := 295) hx hb dX12_atom_291 (by decide) ?_
                          exact W.iret (v := 11) hx hb hr (fun t ht hW => ⟨⟨11, (fv_122, wd_123, ar_124), rfl, ⟨hF_fv_122, hA_ar_124, (fM_call (fM_call (fM_call (fM_call (fM_call (fM_call (fM_call (fM_call (fM_call (fM_call (fM_call (fM_call (fM_rf [] _) fr_7 (by decide)) fr_17 (by decide)) fr_27 (by decide)) fr_41 (by decide)) fr_53 (by decide)) fr_63 (by decide)) fr_73 (by decide)) fr_85 (by decide)) fr_95 (by decide)) fr_105 (by decide)) fr_115 (by decide)) fr_125 (by decide)), (fA_call (fA_call (fA_call (fA_call (fA_call (fA_call (fA_call (fA_call (fA_call (fA_call (fA_call (fA_call (fA_rf [] _) fa_8 (by decide)) fa_18 (by decide)) fa_28 (by decide)) fa_42 (by decide)) fa_54 (by decide)) fa_64 (by decide)) fa_74 (by decide)) fa_86 (by decide)) fa_96 (by decide)) fa_106 (by decide)) fa_116 (by decide)) fa_126 (by decide)), (iv_w (⟨by decide, by decide⟩ : (11 : Int) ≤ (11 : Int32).toInt ∧ (11 : Int32).toInt ≤ 11) (by decide) (by decide)), trivial⟩, ⟨by rw [ht]; exact hP, va_K.moved hW.alike hK⟩⟩, hS.F ht⟩) hS.2.2 dX12_atom_295
                      · skip
                        have i_130 : 1 ≤ r_110.toInt ∧ r_110.toInt ≤ 1 := iv_nel p_111 (by decide) c_117
                        refine lv_bipush (v := 10) hx hb dX12_atom_266 (by decide) ?_
                        exact W.iret (v := 10) hx hb hr (fun t ht hW => ⟨⟨10, (fv_112, wd_113, ar_114), rfl, ⟨hF_fv_112, hA_ar_114, (fM_call (fM_call (fM_call (fM_call (fM_call (fM_call (fM_call (fM_call (fM_call (fM_call (fM_call (fM_rf [] _) fr_7 (by decide)) fr_17 (by decide)) fr_27 (by decide)) fr_41 (by decide)) fr_53 (by decide)) fr_63 (by decide)) fr_73 (by decide)) fr_85 (by decide)) fr_95 (by decide)) fr_105 (by decide)) fr_115 (by decide)), (fA_call (fA_call (fA_call (fA_call (fA_call (fA_call (fA_call (fA_call (fA_call (fA_call (fA_call (fA_rf [] _) fa_8 (by decide)) fa_18 (by decide)) fa_28 (by decide)) fa_42 (by decide)) fa_54 (by decide)) fa_64 (by decide)) fa_74 (by decide)) fa_86 (by decide)) fa_96 (by decide)) fa_106 (by decide)) fa_116 (by decide)), (iv_w (⟨by decide, by decide⟩ : (10 : Int) ≤ (10 : Int32).toInt ∧ (10 : Int32).toInt ≤ 10) (by decide) (by decide)), trivial⟩, ⟨by rw [ht]; exact hP, va_K.moved hW.alike hK⟩⟩, hS.F ht⟩) hS.2.2 dX12_atom_268
                    · skip
                      have i_131 : 1 ≤ r_100.toInt ∧ r_100.toInt ≤ 1 := iv_nel p_101 (by decide) c_107
                      refine lv_bipush (v := 9) hx hb dX12_atom_246 (by decide) ?_
                      exact W.iret (v := 9) hx hb hr (fun t ht hW => ⟨⟨9, (fv_102, wd_103, ar_104), rfl, ⟨hF_fv_102, hA_ar_104, (fM_call (fM_call (fM_call (fM_call (fM_call (fM_call (fM_call (fM_call (fM_call (fM_call (fM_rf [] _) fr_7 (by decide)) fr_17 (by decide)) fr_27 (by decide)) fr_41 (by decide)) fr_53 (by decide)) fr_63 (by decide)) fr_73 (by decide)) fr_85 (by decide)) fr_95 (by decide)) fr_105 (by decide)), (fA_call (fA_call (fA_call (fA_call (fA_call (fA_call (fA_call (fA_call (fA_call (fA_call (fA_rf [] _) fa_8 (by decide)) fa_18 (by decide)) fa_28 (by decide)) fa_42 (by decide)) fa_54 (by decide)) fa_64 (by decide)) fa_74 (by decide)) fa_86 (by decide)) fa_96 (by decide)) fa_106 (by decide)), (iv_w (⟨by decide, by decide⟩ : (9 : Int) ≤ (9 : Int32).toInt ∧ (9 : Int32).toInt ≤ 9) (by decide) (by decide)), trivial⟩, ⟨by rw [ht]; exact hP, va_K.moved hW.alike hK⟩⟩, hS.F ht⟩) hS.2.2 dX12_atom_248
                  · skip
                    have i_132 : 1 ≤ r_90.toInt ∧ r_90.toInt ≤ 1 := iv_nel p_91 (by decide) c_97
                    refine lv_bipush (v := 8) hx hb dX12_atom_224 (by decide) ?_
                    exact W.iret (v := 8) hx hb hr (fun t ht hW => ⟨⟨8, (fv_92, wd_93, ar_94), rfl, ⟨hF_fv_92, hA_ar_94, (fM_call (fM_call (fM_call (fM_call (fM_call (fM_call (fM_call (fM_call (fM_call (fM_rf [] _) fr_7 (by decide)) fr_17 (by decide)) fr_27 (by decide)) fr_41 (by decide)) fr_53 (by decide)) fr_63 (by decide)) fr_73 (by decide)) fr_85 (by decide)) fr_95 (by decide)), (fA_call (fA_call (fA_call (fA_call (fA_call (fA_call (fA_call (fA_call (fA_call (fA_rf [] _) fa_8 (by decide)) fa_18 (by decide)) fa_28 (by decide)) fa_42 (by decide)) fa_54 (by decide)) fa_64 (by decide)) fa_74 (by decide)) fa_86 (by decide)) fa_96 (by decide)), (iv_w (⟨by decide, by decide⟩ : (8 : Int) ≤ (8 : Int32).toInt ∧ (8 : Int32).toInt ≤ 8) (by decide) (by decide)), trivial⟩, ⟨by rw [ht]; exact hP, va_K.moved hW.alike hK⟩⟩, hS.F ht⟩) hS.2.2 dX12_atom_226
                · skip
                  have i_133 : 1 ≤ r_80.toInt ∧ r_80.toInt ≤ 1 := iv_nel p_81 (by decide) c_87
                  refine lv_bipush (v := 7) hx hb dX12_atom_203 (by decide) ?_
                  exact W.iret (v := 7) hx hb hr (fun t ht hW => ⟨⟨7, (fv_82, wd_83, ar_84), rfl, ⟨hF_fv_82, hA_ar_84, (fM_call (fM_call (fM_call (fM_call (fM_call (fM_call (fM_call (fM_call (fM_rf [] _) fr_7 (by decide)) fr_17 (by decide)) fr_27 (by decide)) fr_41 (by decide)) fr_53 (by decide)) fr_63 (by decide)) fr_73 (by decide)) fr_85 (by decide)), (fA_call (fA_call (fA_call (fA_call (fA_call (fA_call (fA_call (fA_call (fA_rf [] _) fa_8 (by decide)) fa_18 (by decide)) fa_28 (by decide)) fa_42 (by decide)) fa_54 (by decide)) fa_64 (by decide)) fa_74 (by decide)) fa_86 (by decide)), (iv_w (⟨by decide, by decide⟩ : (7 : Int) ≤ (7 : Int32).toInt ∧ (7 : Int32).toInt ≤ 7) (by decide) (by decide)), trivial⟩, ⟨by rw [ht]; exact hP, va_K.moved hW.alike hK⟩⟩, hS.F ht⟩) hS.2.2 dX12_atom_205
              · skip
                have i_134 : 1 ≤ r_68.toInt ∧ r_68.toInt ≤ 1 := iv_nel p_69 (by decide) c_75
                refine lv_bipush (v := 6) hx hb dX12_atom_172 (by decide) ?_
                exact W.iret (v := 6) hx hb hr (fun t ht hW => ⟨⟨6, (fv_70, wd_71, ar_72), rfl, ⟨hF_fv_70, hA_ar_72, (fM_call (fM_call (fM_call (fM_call (fM_call (fM_call (fM_call (fM_rf [] _) fr_7 (by decide)) fr_17 (by decide)) fr_27 (by decide)) fr_41 (by decide)) fr_53 (by decide)) fr_63 (by decide)) fr_73 (by decide)), (fA_call (fA_call (fA_call (fA_call (fA_call (fA_call (fA_call (fA_rf [] _) fa_8 (by decide)) fa_18 (by decide)) fa_28 (by decide)) fa_42 (by decide)) fa_54 (by decide)) fa_64 (by decide)) fa_74 (by decide)), (iv_w (⟨by decide, by decide⟩ : (6 : Int) ≤ (6 : Int32).toInt ∧ (6 : Int32).toInt ≤ 6) (by decide) (by decide)), trivial⟩, ⟨by rw [ht]; exact hP, va_K.moved hW.alike hK⟩⟩, hS.F ht⟩) hS.2.2 dX12_atom_174
            · skip
              have i_135 : 1 ≤ r_58.toInt ∧ r_58.toInt ≤ 1 := iv_nel p_59 (by decide) c_65
              refine lv_iconst (v := 5) hx hb dX12_atom_151 (by decide) ?_
              exact W.iret (v := 5) hx hb hr (fun t ht hW => ⟨⟨5, (fv_60, wd_61, ar_62), rfl, ⟨hF_fv_60, hA_ar_62, (fM_call (fM_call (fM_call (fM_call (fM_call (fM_call (fM_rf [] _) fr_7 (by decide)) fr_17 (by decide)) fr_27 (by decide)) fr_41 (by decide)) fr_53 (by decide)) fr_63 (by decide)), (fA_call (fA_call (fA_call (fA_call (fA_call (fA_call (fA_rf [] _) fa_8 (by decide)) fa_18 (by decide)) fa_28 (by decide)) fa_42 (by decide)) fa_54 (by decide)) fa_64 (by decide)), (iv_w (⟨by decide, by decide⟩ : (5 : Int) ≤ (5 : Int32).toInt ∧ (5 : Int32).toInt ≤ 5) (by decide) (by decide)), trivial⟩, ⟨by rw [ht]; exact hP, va_K.moved hW.alike hK⟩⟩, hS.F ht⟩) hS.2.2 dX12_atom_152
          · skip
            have i_136 : 1 ≤ r_48.toInt ∧ r_48.toInt ≤ 1 := iv_nel p_49 (by decide) c_55
            refine lv_iconst (v := 4) hx hb dX12_atom_129 (by decide) ?_
            exact W.iret (v := 4) hx hb hr (fun t ht hW => ⟨⟨4, (fv_50, wd_51, ar_52), rfl, ⟨hF_fv_50, hA_ar_52, (fM_call (fM_call (fM_call (fM_call (fM_call (fM_rf [] _) fr_7 (by decide)) fr_17 (by decide)) fr_27 (by decide)) fr_41 (by decide)) fr_53 (by decide)), (fA_call (fA_call (fA_call (fA_call (fA_call (fA_rf [] _) fa_8 (by decide)) fa_18 (by decide)) fa_28 (by decide)) fa_42 (by decide)) fa_54 (by decide)), (iv_w (⟨by decide, by decide⟩ : (4 : Int) ≤ (4 : Int32).toInt ∧ (4 : Int32).toInt ≤ 4) (by decide) (by decide)), trivial⟩, ⟨by rw [ht]; exact hP, va_K.moved hW.alike hK⟩⟩, hS.F ht⟩) hS.2.2 dX12_atom_130
        · skip
          have i_137 : 1 ≤ r_36.toInt ∧ r_36.toInt ≤ 1 := iv_nel p_37 (by decide) c_43
          refine lv_iconst (v := 3) hx hb dX12_atom_99 (by decide) ?_
          exact W.iret (v := 3) hx hb hr (fun t ht hW => ⟨⟨3, (fv_38, wd_39, ar_40), rfl, ⟨hF_fv_38, hA_ar_40, (fM_call (fM_call (fM_call (fM_call (fM_rf [] _) fr_7 (by decide)) fr_17 (by decide)) fr_27 (by decide)) fr_41 (by decide)), (fA_call (fA_call (fA_call (fA_call (fA_rf [] _) fa_8 (by decide)) fa_18 (by decide)) fa_28 (by decide)) fa_42 (by decide)), (iv_w (⟨by decide, by decide⟩ : (3 : Int) ≤ (3 : Int32).toInt ∧ (3 : Int32).toInt ≤ 3) (by decide) (by decide)), trivial⟩, ⟨by rw [ht]; exact hP, va_K.moved hW.alike hK⟩⟩, hS.F ht⟩) hS.2.2 dX12_atom_100
      · skip
        have i_138 : 1 ≤ r_22.toInt ∧ r_22.toInt ≤ 1 := iv_nel p_23 (by decide) c_29
        refine lv_iconst (v := 2) hx hb dX12_atom_61 (by decide) ?_
        exact W.iret (v := 2) hx hb hr (fun t ht hW => ⟨⟨2, (fv_24, wd_25, ar_26), rfl, ⟨hF_fv_24, hA_ar_26, (fM_call (fM_call (fM_call (fM_rf [] _) fr_7 (by decide)) fr_17 (by decide)) fr_27 (by decide)), (fA_call (fA_call (fA_call (fA_rf [] _) fa_8 (by decide)) fa_18 (by decide)) fa_28 (by decide)), (iv_w (⟨by decide, by decide⟩ : (2 : Int) ≤ (2 : Int32).toInt ∧ (2 : Int32).toInt ≤ 2) (by decide) (by decide)), trivial⟩, ⟨by rw [ht]; exact hP, va_K.moved hW.alike hK⟩⟩, hS.F ht⟩) hS.2.2 dX12_atom_62
    · skip
      have i_139 : 1 ≤ r_12.toInt ∧ r_12.toInt ≤ 1 := iv_nel p_13 (by decide) c_19
      refine lv_iconst (v := 1) hx hb dX12_atom_40 (by decide) ?_
      exact W.iret (v := 1) hx hb hr (fun t ht hW => ⟨⟨1, (fv_14, wd_15, ar_16), rfl, ⟨hF_fv_14, hA_ar_16, (fM_call (fM_call (fM_rf [] _) fr_7 (by decide)) fr_17 (by decide)), (fA_call (fA_call (fA_rf [] _) fa_8 (by decide)) fa_18 (by decide)), (iv_w (⟨by decide, by decide⟩ : (1 : Int) ≤ (1 : Int32).toInt ∧ (1 : Int32).toInt ≤ 1) (by decide) (by decide)), trivial⟩, ⟨by rw [ht]; exact hP, va_K.moved hW.alike hK⟩⟩, hS.F ht⟩) hS.2.2 dX12_atom_41
  · skip
    have i_140 : 1 ≤ r_2.toInt ∧ r_2.toInt ≤ 1 := iv_nel p_3 (by decide) c_9
    refine lv_iconst (v := 0) hx hb dX12_atom_18 (by decide) ?_
    exact W.iret (v := 0) hx hb hr (fun t ht hW => ⟨⟨0, (fv_4, wd_5, ar_6), rfl, ⟨hF_fv_4, hA_ar_6, (fM_call (fM_rf [] _) fr_7 (by decide)), (fA_call (fA_rf [] _) fa_8 (by decide)), (iv_w (⟨by decide, by decide⟩ : (0 : Int) ≤ (0 : Int32).toInt ∧ (0 : Int32).toInt ≤ 0) (by decide) (by decide)), trivial⟩, ⟨by rw [ht]; exact hP, va_K.moved hW.alike hK⟩⟩, hS.F ht⟩) hS.2.2 dX12_atom_19

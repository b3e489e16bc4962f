theorem dX12_atom_0 : decode cX12_atom 0 = .ok (.aload_n 0, 1) := by decide +kernel
theorem dX12_atom_1 : decode cX12_atom 1 = .ok (.bipush 99, 2) := by decide +kernel
theorem dX12_atom_3 : decode cX12_atom 3 = .ok (.bipush 97, 2) := by decide +kernel
theorem dX12_atom_5 : decode cX12_atom 5 = .ok (.bipush 114, 2) := by decide +kernel
theorem dX12_atom_7 : decode cX12_atom 7 = .ok (.iconst 0, 1) := by decide +kernel
theorem dX12_atom_8 : decode cX12_atom 8 = .ok (.iconst 0, 1) := by decide +kernel
theorem dX12_atom_9 : decode cX12_atom 9 = .ok (.invokestatic 323, 3) := by decide +kernel
theorem dX12_atom_12 : decode cX12_atom 12 = .ok (.invokevirtual 327, 3) := by decide +kernel
theorem dX12_atom_15 : decode cX12_atom 15 = .ok (.ifCond .eq 5, 3) := by decide +kernel
theorem dX12_atom_18 : decode cX12_atom 18 = .ok (.iconst 0, 1) := by decide +kernel
theorem dX12_atom_19 : decode cX12_atom 19 = .ok (.ireturn, 1) := by decide +kernel
theorem dX12_atom_20 : decode cX12_atom 20 = .ok (.aload_n 0, 1) := by decide +kernel
theorem dX12_atom_21 : decode cX12_atom 21 = .ok (.bipush 119, 2) := by decide +kernel
theorem dX12_atom_23 : decode cX12_atom 23 = .ok (.bipush 97, 2) := by decide +kernel
theorem dX12_atom_25 : decode cX12_atom 25 = .ok (.bipush 103, 2) := by decide +kernel
theorem dX12_atom_27 : decode cX12_atom 27 = .ok (.bipush 111, 2) := by decide +kernel
theorem dX12_atom_29 : decode cX12_atom 29 = .ok (.bipush 110, 2) := by decide +kernel
theorem dX12_atom_31 : decode cX12_atom 31 = .ok (.invokestatic 323, 3) := by decide +kernel
theorem dX12_atom_34 : decode cX12_atom 34 = .ok (.invokevirtual 327, 3) := by decide +kernel
theorem dX12_atom_37 : decode cX12_atom 37 = .ok (.ifCond .eq 5, 3) := by decide +kernel
theorem dX12_atom_40 : decode cX12_atom 40 = .ok (.iconst 1, 1) := by decide +kernel
theorem dX12_atom_41 : decode cX12_atom 41 = .ok (.ireturn, 1) := by decide +kernel
theorem dX12_atom_42 : decode cX12_atom 42 = .ok (.aload_n 0, 1) := by decide +kernel
theorem dX12_atom_43 : decode cX12_atom 43 = .ok (.bipush 116, 2) := by decide +kernel
theorem dX12_atom_45 : decode cX12_atom 45 = .ok (.bipush 97, 2) := by decide +kernel
theorem dX12_atom_47 : decode cX12_atom 47 = .ok (.bipush 120, 2) := by decide +kernel
theorem dX12_atom_49 : decode cX12_atom 49 = .ok (.bipush 105, 2) := by decide +kernel
theorem dX12_atom_51 : decode cX12_atom 51 = .ok (.iconst 0, 1) := by decide +kernel
theorem dX12_atom_52 : decode cX12_atom 52 = .ok (.invokestatic 323, 3) := by decide +kernel
theorem dX12_atom_55 : decode cX12_atom 55 = .ok (.invokevirtual 327, 3) := by decide +kernel
theorem dX12_atom_58 : decode cX12_atom 58 = .ok (.ifCond .eq 5, 3) := by decide +kernel
theorem dX12_atom_61 : decode cX12_atom 61 = .ok (.iconst 2, 1) := by decide +kernel
theorem dX12_atom_62 : decode cX12_atom 62 = .ok (.ireturn, 1) := by decide +kernel
theorem dX12_atom_63 : decode cX12_atom 63 = .ok (.aload_n 0, 1) := by decide +kernel
theorem dX12_atom_64 : decode cX12_atom 64 = .ok (.ldc2_w 313, 3) := by decide +kernel
theorem dX12_atom_67 : decode cX12_atom 67 = .ok (.ldc2_w 313, 3) := by decide +kernel
theorem dX12_atom_70 : decode cX12_atom 70 = .ok (.bipush 105, 2) := by decide +kernel
theorem dX12_atom_72 : decode cX12_atom 72 = .ok (.bipush 110, 2) := by decide +kernel
theorem dX12_atom_74 : decode cX12_atom 74 = .ok (.bipush 115, 2) := by decide +kernel
theorem dX12_atom_76 : decode cX12_atom 76 = .ok (.bipush 117, 2) := by decide +kernel
theorem dX12_atom_78 : decode cX12_atom 78 = .ok (.bipush 114, 2) := by decide +kernel
theorem dX12_atom_80 : decode cX12_atom 80 = .ok (.invokestatic 323, 3) := by decide +kernel
theorem dX12_atom_83 : decode cX12_atom 83 = .ok (.lmul, 1) := by decide +kernel
theorem dX12_atom_84 : decode cX12_atom 84 = .ok (.ldc2_w 331, 3) := by decide +kernel
theorem dX12_atom_87 : decode cX12_atom 87 = .ok (.ladd, 1) := by decide +kernel
theorem dX12_atom_88 : decode cX12_atom 88 = .ok (.lmul, 1) := by decide +kernel
theorem dX12_atom_89 : decode cX12_atom 89 = .ok (.ldc2_w 333, 3) := by decide +kernel
theorem dX12_atom_92 : decode cX12_atom 92 = .ok (.ladd, 1) := by decide +kernel
theorem dX12_atom_93 : decode cX12_atom 93 = .ok (.invokevirtual 327, 3) := by decide +kernel
theorem dX12_atom_96 : decode cX12_atom 96 = .ok (.ifCond .eq 5, 3) := by decide +kernel
theorem dX12_atom_99 : decode cX12_atom 99 = .ok (.iconst 3, 1) := by decide +kernel
theorem dX12_atom_100 : decode cX12_atom 100 = .ok (.ireturn, 1) := by decide +kernel
theorem dX12_atom_101 : decode cX12_atom 101 = .ok (.aload_n 0, 1) := by decide +kernel
theorem dX12_atom_102 : decode cX12_atom 102 = .ok (.ldc2_w 313, 3) := by decide +kernel
theorem dX12_atom_105 : decode cX12_atom 105 = .ok (.bipush 114, 2) := by decide +kernel
theorem dX12_atom_107 : decode cX12_atom 107 = .ok (.bipush 105, 2) := by decide +kernel
theorem dX12_atom_109 : decode cX12_atom 109 = .ok (.bipush 100, 2) := by decide +kernel
theorem dX12_atom_111 : decode cX12_atom 111 = .ok (.bipush 101, 2) := by decide +kernel
theorem dX12_atom_113 : decode cX12_atom 113 = .ok (.bipush 114, 2) := by decide +kernel
theorem dX12_atom_115 : decode cX12_atom 115 = .ok (.invokestatic 323, 3) := by decide +kernel
theorem dX12_atom_118 : decode cX12_atom 118 = .ok (.lmul, 1) := by decide +kernel
theorem dX12_atom_119 : decode cX12_atom 119 = .ok (.ldc2_w 335, 3) := by decide +kernel
theorem dX12_atom_122 : decode cX12_atom 122 = .ok (.ladd, 1) := by decide +kernel
theorem dX12_atom_123 : decode cX12_atom 123 = .ok (.invokevirtual 327, 3) := by decide +kernel
theorem dX12_atom_126 : decode cX12_atom 126 = .ok (.ifCond .eq 5, 3) := by decide +kernel
theorem dX12_atom_129 : decode cX12_atom 129 = .ok (.iconst 4, 1) := by decide +kernel
theorem dX12_atom_130 : decode cX12_atom 130 = .ok (.ireturn, 1) := by decide +kernel
theorem dX12_atom_131 : decode cX12_atom 131 = .ok (.aload_n 0, 1) := by decide +kernel
theorem dX12_atom_132 : decode cX12_atom 132 = .ok (.bipush 115, 2) := by decide +kernel
theorem dX12_atom_134 : decode cX12_atom 134 = .ok (.bipush 101, 2) := by decide +kernel
theorem dX12_atom_136 : decode cX12_atom 136 = .ok (.bipush 97, 2) := by decide +kernel
theorem dX12_atom_138 : decode cX12_atom 138 = .ok (.bipush 116, 2) := by decide +kernel
theorem dX12_atom_140 : decode cX12_atom 140 = .ok (.bipush 115, 2) := by decide +kernel
theorem dX12_atom_142 : decode cX12_atom 142 = .ok (.invokestatic 323, 3) := by decide +kernel
theorem dX12_atom_145 : decode cX12_atom 145 = .ok (.invokevirtual 327, 3) := by decide +kernel
theorem dX12_atom_148 : decode cX12_atom 148 = .ok (.ifCond .eq 5, 3) := by decide +kernel
theorem dX12_atom_151 : decode cX12_atom 151 = .ok (.iconst 5, 1) := by decide +kernel
theorem dX12_atom_152 : decode cX12_atom 152 = .ok (.ireturn, 1) := by decide +kernel
theorem dX12_atom_153 : decode cX12_atom 153 = .ok (.aload_n 0, 1) := by decide +kernel
theorem dX12_atom_154 : decode cX12_atom 154 = .ok (.bipush 114, 2) := by decide +kernel
theorem dX12_atom_156 : decode cX12_atom 156 = .ok (.bipush 97, 2) := by decide +kernel
theorem dX12_atom_158 : decode cX12_atom 158 = .ok (.bipush 105, 2) := by decide +kernel
theorem dX12_atom_160 : decode cX12_atom 160 = .ok (.bipush 110, 2) := by decide +kernel
theorem dX12_atom_162 : decode cX12_atom 162 = .ok (.iconst 0, 1) := by decide +kernel
theorem dX12_atom_163 : decode cX12_atom 163 = .ok (.invokestatic 323, 3) := by decide +kernel
theorem dX12_atom_166 : decode cX12_atom 166 = .ok (.invokevirtual 327, 3) := by decide +kernel
theorem dX12_atom_169 : decode cX12_atom 169 = .ok (.ifCond .eq 6, 3) := by decide +kernel
theorem dX12_atom_172 : decode cX12_atom 172 = .ok (.bipush 6, 2) := by decide +kernel
theorem dX12_atom_174 : decode cX12_atom 174 = .ok (.ireturn, 1) := by decide +kernel
theorem dX12_atom_175 : decode cX12_atom 175 = .ok (.aload_n 0, 1) := by decide +kernel
theorem dX12_atom_176 : decode cX12_atom 176 = .ok (.ldc2_w 313, 3) := by decide +kernel
theorem dX12_atom_179 : decode cX12_atom 179 = .ok (.bipush 109, 2) := by decide +kernel
theorem dX12_atom_181 : decode cX12_atom 181 = .ok (.bipush 105, 2) := by decide +kernel
theorem dX12_atom_183 : decode cX12_atom 183 = .ok (.bipush 110, 2) := by decide +kernel
theorem dX12_atom_185 : decode cX12_atom 185 = .ok (.bipush 117, 2) := by decide +kernel
theorem dX12_atom_187 : decode cX12_atom 187 = .ok (.bipush 116, 2) := by decide +kernel
theorem dX12_atom_189 : decode cX12_atom 189 = .ok (.invokestatic 323, 3) := by decide +kernel
theorem dX12_atom_192 : decode cX12_atom 192 = .ok (.lmul, 1) := by decide +kernel
theorem dX12_atom_193 : decode cX12_atom 193 = .ok (.ldc2_w 331, 3) := by decide +kernel
theorem dX12_atom_196 : decode cX12_atom 196 = .ok (.ladd, 1) := by decide +kernel
theorem dX12_atom_197 : decode cX12_atom 197 = .ok (.invokevirtual 327, 3) := by decide +kernel
theorem dX12_atom_200 : decode cX12_atom 200 = .ok (.ifCond .eq 6, 3) := by decide +kernel
theorem dX12_atom_203 : decode cX12_atom 203 = .ok (.bipush 7, 2) := by decide +kernel
theorem dX12_atom_205 : decode cX12_atom 205 = .ok (.ireturn, 1) := by decide +kernel
theorem dX12_atom_206 : decode cX12_atom 206 = .ok (.aload_n 0, 1) := by decide +kernel
theorem dX12_atom_207 : decode cX12_atom 207 = .ok (.bipush 100, 2) := by decide +kernel
theorem dX12_atom_209 : decode cX12_atom 209 = .ok (.bipush 97, 2) := by decide +kernel
theorem dX12_atom_211 : decode cX12_atom 211 = .ok (.bipush 121, 2) := by decide +kernel
theorem dX12_atom_213 : decode cX12_atom 213 = .ok (.iconst 0, 1) := by decide +kernel
theorem dX12_atom_214 : decode cX12_atom 214 = .ok (.iconst 0, 1) := by decide +kernel
theorem dX12_atom_215 : decode cX12_atom 215 = .ok (.invokestatic 323, 3) := by decide +kernel
theorem dX12_atom_218 : decode cX12_atom 218 = .ok (.invokevirtual 327, 3) := by decide +kernel
theorem dX12_atom_221 : decode cX12_atom 221 = .ok (.ifCond .eq 6, 3) := by decide +kernel
theorem dX12_atom_224 : decode cX12_atom 224 = .ok (.bipush 8, 2) := by decide +kernel
theorem dX12_atom_226 : decode cX12_atom 226 = .ok (.ireturn, 1) := by decide +kernel
theorem dX12_atom_227 : decode cX12_atom 227 = .ok (.aload_n 0, 1) := by decide +kernel
theorem dX12_atom_228 : decode cX12_atom 228 = .ok (.bipush 102, 2) := by decide +kernel
theorem dX12_atom_230 : decode cX12_atom 230 = .ok (.bipush 114, 2) := by decide +kernel
theorem dX12_atom_232 : decode cX12_atom 232 = .ok (.bipush 111, 2) := by decide +kernel
theorem dX12_atom_234 : decode cX12_atom 234 = .ok (.bipush 109, 2) := by decide +kernel
theorem dX12_atom_236 : decode cX12_atom 236 = .ok (.iconst 0, 1) := by decide +kernel
theorem dX12_atom_237 : decode cX12_atom 237 = .ok (.invokestatic 323, 3) := by decide +kernel
theorem dX12_atom_240 : decode cX12_atom 240 = .ok (.invokevirtual 327, 3) := by decide +kernel
theorem dX12_atom_243 : decode cX12_atom 243 = .ok (.ifCond .eq 6, 3) := by decide +kernel
theorem dX12_atom_246 : decode cX12_atom 246 = .ok (.bipush 9, 2) := by decide +kernel
theorem dX12_atom_248 : decode cX12_atom 248 = .ok (.ireturn, 1) := by decide +kernel
theorem dX12_atom_249 : decode cX12_atom 249 = .ok (.aload_n 0, 1) := by decide +kernel
theorem dX12_atom_250 : decode cX12_atom 250 = .ok (.bipush 116, 2) := by decide +kernel
theorem dX12_atom_252 : decode cX12_atom 252 = .ok (.bipush 111, 2) := by decide +kernel
theorem dX12_atom_254 : decode cX12_atom 254 = .ok (.iconst 0, 1) := by decide +kernel
theorem dX12_atom_255 : decode cX12_atom 255 = .ok (.iconst 0, 1) := by decide +kernel
theorem dX12_atom_256 : decode cX12_atom 256 = .ok (.iconst 0, 1) := by decide +kernel
theorem dX12_atom_257 : decode cX12_atom 257 = .ok (.invokestatic 323, 3) := by decide +kernel
theorem dX12_atom_260 : decode cX12_atom 260 = .ok (.invokevirtual 327, 3) := by decide +kernel
theorem dX12_atom_263 : decode cX12_atom 263 = .ok (.ifCond .eq 6, 3) := by decide +kernel
theorem dX12_atom_266 : decode cX12_atom 266 = .ok (.bipush 10, 2) := by decide +kernel
theorem dX12_atom_268 : decode cX12_atom 268 = .ok (.ireturn, 1) := by decide +kernel
theorem dX12_atom_269 : decode cX12_atom 269 = .ok (.aload_n 0, 1) := by decide +kernel
theorem dX12_atom_270 : decode cX12_atom 270 = .ok (.bipush 116, 2) := by decide +kernel
theorem dX12_atom_272 : decode cX12_atom 272 = .ok (.bipush 105, 2) := by decide +kernel
theorem dX12_atom_274 : decode cX12_atom 274 = .ok (.bipush 109, 2) := by decide +kernel
theorem dX12_atom_276 : decode cX12_atom 276 = .ok (.bipush 101, 2) := by decide +kernel
theorem dX12_atom_278 : decode cX12_atom 278 = .ok (.bipush 115, 2) := by decide +kernel
theorem dX12_atom_280 : decode cX12_atom 280 = .ok (.invokestatic 323, 3) := by decide +kernel
theorem dX12_atom_283 : decode cX12_atom 283 = .ok (.invokevirtual 327, 3) := by decide +kernel
theorem dX12_atom_286 : decode cX12_atom 286 = .ok (.ifCond .eq 8, 3) := by decide +kernel
theorem dX12_atom_289 : decode cX12_atom 289 = .ok (.bipush 11, 2) := by decide +kernel
theorem dX12_atom_291 : decode cX12_atom 291 = .ok (.goto 4, 3) := by decide +kernel
theorem dX12_atom_294 : decode cX12_atom 294 = .ok (.iconst (-1), 1) := by decide +kernel
theorem dX12_atom_295 : decode cX12_atom 295 = .ok (.ireturn, 1) := by decide +kernel
theorem dX12_bad_0 : decode cX12_bad 0 = .ok (.aload_n 0, 1) := by decide +kernel
theorem dX12_bad_1 : decode cX12_bad 1 = .ok (.aload_n 0, 1) := by decide +kernel
theorem dX12_bad_2 : decode cX12_bad 2 = .ok (.getfield 288, 3) := by decide +kernel
theorem dX12_bad_5 : decode cX12_bad 5 = .ok (.iconst 1, 1) := by decide +kernel
theorem dX12_bad_6 : decode cX12_bad 6 = .ok (.if_icmp .ne 7, 3) := by decide +kernel
theorem dX12_bad_9 : decode cX12_bad 9 = .ok (.iconst 1, 1) := by decide +kernel
theorem dX12_bad_10 : decode cX12_bad 10 = .ok (.goto 4, 3) := by decide +kernel
theorem dX12_bad_13 : decode cX12_bad 13 = .ok (.iload_n 1, 1) := by decide +kernel
theorem dX12_bad_14 : decode cX12_bad 14 = .ok (.putfield 317, 3) := by decide +kernel
theorem dX12_bad_17 : decode cX12_bad 17 = .ok (.aload_n 0, 1) := by decide +kernel
theorem dX12_bad_18 : decode cX12_bad 18 = .ok (.aload_n 0, 1) := by decide +kernel
theorem dX12_bad_19 : decode cX12_bad 19 = .ok (.getfield 285, 3) := by decide +kernel
theorem dX12_bad_22 : decode cX12_bad 22 = .ok (.putfield 320, 3) := by decide +kernel
theorem dX12_bad_25 : decode cX12_bad 25 = .ok (.iconst 0, 1) := by decide +kernel
theorem dX12_bad_26 : decode cX12_bad 26 = .ok (.ireturn, 1) := by decide +kernel
theorem dX12_byteAt_0 : decode cX12_byteAt 0 = .ok (.iload_n 1, 1) := by decide +kernel
theorem dX12_byteAt_1 : decode cX12_byteAt 1 = .ok (.aload_n 0, 1) := by decide +kernel
theorem dX12_byteAt_2 : decode cX12_byteAt 2 = .ok (.getfield 279, 3) := by decide +kernel
theorem dX12_byteAt_5 : decode cX12_byteAt 5 = .ok (.if_icmp .ge 12, 3) := by decide +kernel
theorem dX12_byteAt_8 : decode cX12_byteAt 8 = .ok (.aload_n 0, 1) := by decide +kernel
theorem dX12_byteAt_9 : decode cX12_byteAt 9 = .ok (.getfield 7, 3) := by decide +kernel
theorem dX12_byteAt_12 : decode cX12_byteAt 12 = .ok (.iload_n 1, 1) := by decide +kernel
theorem dX12_byteAt_13 : decode cX12_byteAt 13 = .ok (.iaload, 1) := by decide +kernel
theorem dX12_byteAt_14 : decode cX12_byteAt 14 = .ok (.goto 4, 3) := by decide +kernel
theorem dX12_byteAt_17 : decode cX12_byteAt 17 = .ok (.iconst 0, 1) := by decide +kernel
theorem dX12_byteAt_18 : decode cX12_byteAt 18 = .ok (.ireturn, 1) := by decide +kernel
theorem dX12_go_0 : decode cX12_go 0 = .ok (.aload_n 0, 1) := by decide +kernel
theorem dX12_go_1 : decode cX12_go 1 = .ok (.getfield 282, 3) := by decide +kernel
theorem dX12_go_4 : decode cX12_go 4 = .ok (.aload_n 0, 1) := by decide +kernel
theorem dX12_go_5 : decode cX12_go 5 = .ok (.getfield 279, 3) := by decide +kernel
theorem dX12_go_8 : decode cX12_go 8 = .ok (.if_icmp .ge 44, 3) := by decide +kernel
theorem dX12_go_11 : decode cX12_go 11 = .ok (.aload_n 0, 1) := by decide +kernel
theorem dX12_go_12 : decode cX12_go 12 = .ok (.getfield 7, 3) := by decide +kernel
theorem dX12_go_15 : decode cX12_go 15 = .ok (.aload_n 0, 1) := by decide +kernel
theorem dX12_go_16 : decode cX12_go 16 = .ok (.getfield 282, 3) := by decide +kernel
theorem dX12_go_19 : decode cX12_go 19 = .ok (.iaload, 1) := by decide +kernel
theorem dX12_go_20 : decode cX12_go 20 = .ok (.bipush 32, 2) := by decide +kernel
theorem dX12_go_22 : decode cX12_go 22 = .ok (.if_icmp .eq 17, 3) := by decide +kernel
theorem dX12_go_25 : decode cX12_go 25 = .ok (.aload_n 0, 1) := by decide +kernel
theorem dX12_go_26 : decode cX12_go 26 = .ok (.getfield 7, 3) := by decide +kernel
theorem dX12_go_29 : decode cX12_go 29 = .ok (.aload_n 0, 1) := by decide +kernel
theorem dX12_go_30 : decode cX12_go 30 = .ok (.getfield 282, 3) := by decide +kernel
theorem dX12_go_33 : decode cX12_go 33 = .ok (.iaload, 1) := by decide +kernel
theorem dX12_go_34 : decode cX12_go 34 = .ok (.bipush 10, 2) := by decide +kernel
theorem dX12_go_36 : decode cX12_go 36 = .ok (.if_icmp .ne 16, 3) := by decide +kernel
theorem dX12_go_39 : decode cX12_go 39 = .ok (.aload_n 0, 1) := by decide +kernel
theorem dX12_go_40 : decode cX12_go 40 = .ok (.dup, 1) := by decide +kernel
theorem dX12_go_41 : decode cX12_go 41 = .ok (.getfield 282, 3) := by decide +kernel
theorem dX12_go_44 : decode cX12_go 44 = .ok (.iconst 1, 1) := by decide +kernel
theorem dX12_go_45 : decode cX12_go 45 = .ok (.iadd, 1) := by decide +kernel
theorem dX12_go_46 : decode cX12_go 46 = .ok (.putfield 282, 3) := by decide +kernel
theorem dX12_go_49 : decode cX12_go 49 = .ok (.goto (-49), 3) := by decide +kernel
theorem dX12_go_52 : decode cX12_go 52 = .ok (.aload_n 0, 1) := by decide +kernel
theorem dX12_go_53 : decode cX12_go 53 = .ok (.aload_n 0, 1) := by decide +kernel
theorem dX12_go_54 : decode cX12_go 54 = .ok (.getfield 282, 3) := by decide +kernel
theorem dX12_go_57 : decode cX12_go 57 = .ok (.putfield 285, 3) := by decide +kernel
theorem dX12_go_60 : decode cX12_go 60 = .ok (.aload_n 0, 1) := by decide +kernel
theorem dX12_go_61 : decode cX12_go 61 = .ok (.getfield 279, 3) := by decide +kernel
theorem dX12_go_64 : decode cX12_go 64 = .ok (.sipush 300, 3) := by decide +kernel
theorem dX12_go_67 : decode cX12_go 67 = .ok (.if_icmp .le 26, 3) := by decide +kernel
theorem dX12_go_70 : decode cX12_go 70 = .ok (.aload_n 0, 1) := by decide +kernel
theorem dX12_go_71 : decode cX12_go 71 = .ok (.getfield 285, 3) := by decide +kernel
theorem dX12_go_74 : decode cX12_go 74 = .ok (.sipush 300, 3) := by decide +kernel
theorem dX12_go_77 : decode cX12_go 77 = .ok (.if_icmp .lt 16, 3) := by decide +kernel
theorem dX12_go_80 : decode cX12_go 80 = .ok (.aload_n 0, 1) := by decide +kernel
theorem dX12_go_81 : decode cX12_go 81 = .ok (.sipush 300, 3) := by decide +kernel
theorem dX12_go_84 : decode cX12_go 84 = .ok (.putfield 285, 3) := by decide +kernel
theorem dX12_go_87 : decode cX12_go 87 = .ok (.aload_n 0, 1) := by decide +kernel
theorem dX12_go_88 : decode cX12_go 88 = .ok (.iconst 1, 1) := by decide +kernel
theorem dX12_go_89 : decode cX12_go 89 = .ok (.putfield 288, 3) := by decide +kernel
theorem dX12_go_92 : decode cX12_go 92 = .ok (.return_, 1) := by decide +kernel
theorem dX12_go_93 : decode cX12_go 93 = .ok (.aload_n 0, 1) := by decide +kernel
theorem dX12_go_94 : decode cX12_go 94 = .ok (.getfield 282, 3) := by decide +kernel
theorem dX12_go_97 : decode cX12_go 97 = .ok (.aload_n 0, 1) := by decide +kernel
theorem dX12_go_98 : decode cX12_go 98 = .ok (.getfield 279, 3) := by decide +kernel
theorem dX12_go_101 : decode cX12_go 101 = .ok (.if_icmp .lt 9, 3) := by decide +kernel
theorem dX12_go_104 : decode cX12_go 104 = .ok (.aload_n 0, 1) := by decide +kernel
theorem dX12_go_105 : decode cX12_go 105 = .ok (.iconst 0, 1) := by decide +kernel
theorem dX12_go_106 : decode cX12_go 106 = .ok (.putfield 288, 3) := by decide +kernel
theorem dX12_go_109 : decode cX12_go 109 = .ok (.return_, 1) := by decide +kernel
theorem dX12_go_110 : decode cX12_go 110 = .ok (.aload_n 0, 1) := by decide +kernel
theorem dX12_go_111 : decode cX12_go 111 = .ok (.getfield 7, 3) := by decide +kernel
theorem dX12_go_114 : decode cX12_go 114 = .ok (.aload_n 0, 1) := by decide +kernel
theorem dX12_go_115 : decode cX12_go 115 = .ok (.getfield 282, 3) := by decide +kernel
theorem dX12_go_118 : decode cX12_go 118 = .ok (.iaload, 1) := by decide +kernel
theorem dX12_go_119 : decode cX12_go 119 = .ok (.istore_n 1, 1) := by decide +kernel
theorem dX12_go_120 : decode cX12_go 120 = .ok (.iload_n 1, 1) := by decide +kernel
theorem dX12_go_121 : decode cX12_go 121 = .ok (.invokestatic 291, 3) := by decide +kernel
theorem dX12_go_124 : decode cX12_go 124 = .ok (.ifCond .ne 42, 3) := by decide +kernel
theorem dX12_go_127 : decode cX12_go 127 = .ok (.iload_n 1, 1) := by decide +kernel
theorem dX12_go_128 : decode cX12_go 128 = .ok (.invokestatic 294, 3) := by decide +kernel
theorem dX12_go_131 : decode cX12_go 131 = .ok (.ifCond .ne 35, 3) := by decide +kernel
theorem dX12_go_134 : decode cX12_go 134 = .ok (.aload_n 0, 1) := by decide +kernel
theorem dX12_go_135 : decode cX12_go 135 = .ok (.iload_n 1, 1) := by decide +kernel
theorem dX12_go_136 : decode cX12_go 136 = .ok (.invokestatic 297, 3) := by decide +kernel
theorem dX12_go_139 : decode cX12_go 139 = .ok (.ifCond .eq 7, 3) := by decide +kernel
theorem dX12_go_142 : decode cX12_go 142 = .ok (.iconst 4, 1) := by decide +kernel
theorem dX12_go_143 : decode cX12_go 143 = .ok (.goto 4, 3) := by decide +kernel
theorem dX12_go_146 : decode cX12_go 146 = .ok (.iconst 1, 1) := by decide +kernel
theorem dX12_go_147 : decode cX12_go 147 = .ok (.putfield 288, 3) := by decide +kernel
theorem dX12_go_150 : decode cX12_go 150 = .ok (.aload_n 0, 1) := by decide +kernel
theorem dX12_go_151 : decode cX12_go 151 = .ok (.iload_n 1, 1) := by decide +kernel
theorem dX12_go_152 : decode cX12_go 152 = .ok (.putfield 300, 3) := by decide +kernel
theorem dX12_go_155 : decode cX12_go 155 = .ok (.aload_n 0, 1) := by decide +kernel
theorem dX12_go_156 : decode cX12_go 156 = .ok (.dup, 1) := by decide +kernel
theorem dX12_go_157 : decode cX12_go 157 = .ok (.getfield 282, 3) := by decide +kernel
theorem dX12_go_160 : decode cX12_go 160 = .ok (.iconst 1, 1) := by decide +kernel
theorem dX12_go_161 : decode cX12_go 161 = .ok (.iadd, 1) := by decide +kernel
theorem dX12_go_162 : decode cX12_go 162 = .ok (.putfield 282, 3) := by decide +kernel
theorem dX12_go_165 : decode cX12_go 165 = .ok (.return_, 1) := by decide +kernel
theorem dX12_go_166 : decode cX12_go 166 = .ok (.iload_n 1, 1) := by decide +kernel
theorem dX12_go_167 : decode cX12_go 167 = .ok (.invokestatic 291, 3) := by decide +kernel
theorem dX12_go_170 : decode cX12_go 170 = .ok (.istore_n 2, 1) := by decide +kernel
theorem dX12_go_171 : decode cX12_go 171 = .ok (.iconst 1, 1) := by decide +kernel
theorem dX12_go_172 : decode cX12_go 172 = .ok (.istore_n 3, 1) := by decide +kernel
theorem dX12_go_173 : decode cX12_go 173 = .ok (.aload_n 0, 1) := by decide +kernel
theorem dX12_go_174 : decode cX12_go 174 = .ok (.lconst 0, 1) := by decide +kernel
theorem dX12_go_175 : decode cX12_go 175 = .ok (.putfield 303, 3) := by decide +kernel
theorem dX12_go_178 : decode cX12_go 178 = .ok (.aload_n 0, 1) := by decide +kernel
theorem dX12_go_179 : decode cX12_go 179 = .ok (.iconst 0, 1) := by decide +kernel
theorem dX12_go_180 : decode cX12_go 180 = .ok (.putfield 307, 3) := by decide +kernel
theorem dX12_go_183 : decode cX12_go 183 = .ok (.aload_n 0, 1) := by decide +kernel
theorem dX12_go_184 : decode cX12_go 184 = .ok (.aload_n 0, 1) := by decide +kernel
theorem dX12_go_185 : decode cX12_go 185 = .ok (.getfield 282, 3) := by decide +kernel
theorem dX12_go_188 : decode cX12_go 188 = .ok (.invokevirtual 310, 3) := by decide +kernel
theorem dX12_go_191 : decode cX12_go 191 = .ok (.invokestatic 291, 3) := by decide +kernel
theorem dX12_go_194 : decode cX12_go 194 = .ok (.ifCond .ne 17, 3) := by decide +kernel
theorem dX12_go_197 : decode cX12_go 197 = .ok (.aload_n 0, 1) := by decide +kernel
theorem dX12_go_198 : decode cX12_go 198 = .ok (.aload_n 0, 1) := by decide +kernel
theorem dX12_go_199 : decode cX12_go 199 = .ok (.getfield 282, 3) := by decide +kernel
theorem dX12_go_202 : decode cX12_go 202 = .ok (.invokevirtual 310, 3) := by decide +kernel
theorem dX12_go_205 : decode cX12_go 205 = .ok (.invokestatic 294, 3) := by decide +kernel
theorem dX12_go_208 : decode cX12_go 208 = .ok (.ifCond .eq 110, 3) := by decide +kernel
theorem dX12_go_211 : decode cX12_go 211 = .ok (.aload_n 0, 1) := by decide +kernel
theorem dX12_go_212 : decode cX12_go 212 = .ok (.getfield 7, 3) := by decide +kernel
theorem dX12_go_215 : decode cX12_go 215 = .ok (.aload_n 0, 1) := by decide +kernel
theorem dX12_go_216 : decode cX12_go 216 = .ok (.getfield 282, 3) := by decide +kernel
theorem dX12_go_219 : decode cX12_go 219 = .ok (.iaload, 1) := by decide +kernel
theorem dX12_go_220 : decode cX12_go 220 = .ok (.istore 4, 2) := by decide +kernel
theorem dX12_go_222 : decode cX12_go 222 = .ok (.iload_n 3, 1) := by decide +kernel
theorem dX12_go_223 : decode cX12_go 223 = .ok (.ifCond .eq 16, 3) := by decide +kernel
theorem dX12_go_226 : decode cX12_go 226 = .ok (.iload 4, 2) := by decide +kernel
theorem dX12_go_228 : decode cX12_go 228 = .ok (.invokestatic 291, 3) := by decide +kernel
theorem dX12_go_231 : decode cX12_go 231 = .ok (.iload_n 2, 1) := by decide +kernel
theorem dX12_go_232 : decode cX12_go 232 = .ok (.if_icmp .ne 7, 3) := by decide +kernel
theorem dX12_go_235 : decode cX12_go 235 = .ok (.iconst 1, 1) := by decide +kernel
theorem dX12_go_236 : decode cX12_go 236 = .ok (.goto 4, 3) := by decide +kernel
theorem dX12_go_239 : decode cX12_go 239 = .ok (.iconst 0, 1) := by decide +kernel
theorem dX12_go_240 : decode cX12_go 240 = .ok (.istore_n 3, 1) := by decide +kernel
theorem dX12_go_241 : decode cX12_go 241 = .ok (.aload_n 0, 1) := by decide +kernel
theorem dX12_go_242 : decode cX12_go 242 = .ok (.getfield 282, 3) := by decide +kernel
theorem dX12_go_245 : decode cX12_go 245 = .ok (.aload_n 0, 1) := by decide +kernel
theorem dX12_go_246 : decode cX12_go 246 = .ok (.getfield 285, 3) := by decide +kernel
theorem dX12_go_249 : decode cX12_go 249 = .ok (.isub, 1) := by decide +kernel
theorem dX12_go_250 : decode cX12_go 250 = .ok (.bipush 8, 2) := by decide +kernel
theorem dX12_go_252 : decode cX12_go 252 = .ok (.if_icmp .ge 23, 3) := by decide +kernel
theorem dX12_go_255 : decode cX12_go 255 = .ok (.aload_n 0, 1) := by decide +kernel
theorem dX12_go_256 : decode cX12_go 256 = .ok (.ldc2_w 313, 3) := by decide +kernel
theorem dX12_go_259 : decode cX12_go 259 = .ok (.aload_n 0, 1) := by decide +kernel
theorem dX12_go_260 : decode cX12_go 260 = .ok (.getfield 303, 3) := by decide +kernel
theorem dX12_go_263 : decode cX12_go 263 = .ok (.lmul, 1) := by decide +kernel
theorem dX12_go_264 : decode cX12_go 264 = .ok (.iload 4, 2) := by decide +kernel
theorem dX12_go_266 : decode cX12_go 266 = .ok (.i2l, 1) := by decide +kernel
theorem dX12_go_267 : decode cX12_go 267 = .ok (.ladd, 1) := by decide +kernel
theorem dX12_go_268 : decode cX12_go 268 = .ok (.ldc2_w 315, 3) := by decide +kernel
theorem dX12_go_271 : decode cX12_go 271 = .ok (.lsub, 1) := by decide +kernel
theorem dX12_go_272 : decode cX12_go 272 = .ok (.putfield 303, 3) := by decide +kernel
theorem dX12_go_275 : decode cX12_go 275 = .ok (.aload_n 0, 1) := by decide +kernel
theorem dX12_go_276 : decode cX12_go 276 = .ok (.getfield 282, 3) := by decide +kernel
theorem dX12_go_279 : decode cX12_go 279 = .ok (.aload_n 0, 1) := by decide +kernel
theorem dX12_go_280 : decode cX12_go 280 = .ok (.getfield 285, 3) := by decide +kernel
theorem dX12_go_283 : decode cX12_go 283 = .ok (.isub, 1) := by decide +kernel
theorem dX12_go_284 : decode cX12_go 284 = .ok (.iconst 4, 1) := by decide +kernel
theorem dX12_go_285 : decode cX12_go 285 = .ok (.if_icmp .ge 20, 3) := by decide +kernel
theorem dX12_go_288 : decode cX12_go 288 = .ok (.aload_n 0, 1) := by decide +kernel
theorem dX12_go_289 : decode cX12_go 289 = .ok (.bipush 10, 2) := by decide +kernel
theorem dX12_go_291 : decode cX12_go 291 = .ok (.aload_n 0, 1) := by decide +kernel
theorem dX12_go_292 : decode cX12_go 292 = .ok (.getfield 307, 3) := by decide +kernel
theorem dX12_go_295 : decode cX12_go 295 = .ok (.imul, 1) := by decide +kernel
theorem dX12_go_296 : decode cX12_go 296 = .ok (.iload 4, 2) := by decide +kernel
theorem dX12_go_298 : decode cX12_go 298 = .ok (.iadd, 1) := by decide +kernel
theorem dX12_go_299 : decode cX12_go 299 = .ok (.bipush 48, 2) := by decide +kernel
theorem dX12_go_301 : decode cX12_go 301 = .ok (.isub, 1) := by decide +kernel
theorem dX12_go_302 : decode cX12_go 302 = .ok (.putfield 307, 3) := by decide +kernel
theorem dX12_go_305 : decode cX12_go 305 = .ok (.aload_n 0, 1) := by decide +kernel
theorem dX12_go_306 : decode cX12_go 306 = .ok (.dup, 1) := by decide +kernel
theorem dX12_go_307 : decode cX12_go 307 = .ok (.getfield 282, 3) := by decide +kernel
theorem dX12_go_310 : decode cX12_go 310 = .ok (.iconst 1, 1) := by decide +kernel
theorem dX12_go_311 : decode cX12_go 311 = .ok (.iadd, 1) := by decide +kernel
theorem dX12_go_312 : decode cX12_go 312 = .ok (.putfield 282, 3) := by decide +kernel
theorem dX12_go_315 : decode cX12_go 315 = .ok (.goto (-132), 3) := by decide +kernel
theorem dX12_go_318 : decode cX12_go 318 = .ok (.aload_n 0, 1) := by decide +kernel
theorem dX12_go_319 : decode cX12_go 319 = .ok (.iload_n 3, 1) := by decide +kernel
theorem dX12_go_320 : decode cX12_go 320 = .ok (.ifCond .eq 25, 3) := by decide +kernel
theorem dX12_go_323 : decode cX12_go 323 = .ok (.aload_n 0, 1) := by decide +kernel
theorem dX12_go_324 : decode cX12_go 324 = .ok (.getfield 282, 3) := by decide +kernel
theorem dX12_go_327 : decode cX12_go 327 = .ok (.aload_n 0, 1) := by decide +kernel
theorem dX12_go_328 : decode cX12_go 328 = .ok (.getfield 285, 3) := by decide +kernel
theorem dX12_go_331 : decode cX12_go 331 = .ok (.isub, 1) := by decide +kernel
theorem dX12_go_332 : decode cX12_go 332 = .ok (.iload_n 2, 1) := by decide +kernel
theorem dX12_go_333 : decode cX12_go 333 = .ok (.ifCond .eq 8, 3) := by decide +kernel
theorem dX12_go_336 : decode cX12_go 336 = .ok (.bipush 8, 2) := by decide +kernel
theorem dX12_go_338 : decode cX12_go 338 = .ok (.goto 4, 3) := by decide +kernel
theorem dX12_go_341 : decode cX12_go 341 = .ok (.iconst 4, 1) := by decide +kernel
theorem dX12_go_342 : decode cX12_go 342 = .ok (.if_icmp .le 7, 3) := by decide +kernel
theorem dX12_go_345 : decode cX12_go 345 = .ok (.iconst 1, 1) := by decide +kernel
theorem dX12_go_346 : decode cX12_go 346 = .ok (.goto 12, 3) := by decide +kernel
theorem dX12_go_349 : decode cX12_go 349 = .ok (.iload_n 2, 1) := by decide +kernel
theorem dX12_go_350 : decode cX12_go 350 = .ok (.ifCond .eq 7, 3) := by decide +kernel
theorem dX12_go_353 : decode cX12_go 353 = .ok (.iconst 2, 1) := by decide +kernel
theorem dX12_go_354 : decode cX12_go 354 = .ok (.goto 4, 3) := by decide +kernel
theorem dX12_go_357 : decode cX12_go 357 = .ok (.iconst 3, 1) := by decide +kernel
theorem dX12_go_358 : decode cX12_go 358 = .ok (.putfield 288, 3) := by decide +kernel
theorem dX12_go_361 : decode cX12_go 361 = .ok (.return_, 1) := by decide +kernel
theorem dX12_isKey_0 : decode cX12_isKey 0 = .ok (.aload_n 0, 1) := by decide +kernel
theorem dX12_isKey_1 : decode cX12_isKey 1 = .ok (.getfield 288, 3) := by decide +kernel
theorem dX12_isKey_4 : decode cX12_isKey 4 = .ok (.iconst 2, 1) := by decide +kernel
theorem dX12_isKey_5 : decode cX12_isKey 5 = .ok (.if_icmp .ne 16, 3) := by decide +kernel
theorem dX12_isKey_8 : decode cX12_isKey 8 = .ok (.aload_n 0, 1) := by decide +kernel
theorem dX12_isKey_9 : decode cX12_isKey 9 = .ok (.getfield 303, 3) := by decide +kernel
theorem dX12_isKey_12 : decode cX12_isKey 12 = .ok (.lload_n 1, 1) := by decide +kernel
theorem dX12_isKey_13 : decode cX12_isKey 13 = .ok (.lcmp, 1) := by decide +kernel
theorem dX12_isKey_14 : decode cX12_isKey 14 = .ok (.ifCond .ne 7, 3) := by decide +kernel
theorem dX12_isKey_17 : decode cX12_isKey 17 = .ok (.iconst 1, 1) := by decide +kernel
theorem dX12_isKey_18 : decode cX12_isKey 18 = .ok (.goto 4, 3) := by decide +kernel
theorem dX12_isKey_21 : decode cX12_isKey 21 = .ok (.iconst 0, 1) := by decide +kernel
theorem dX12_isKey_22 : decode cX12_isKey 22 = .ok (.ireturn, 1) := by decide +kernel
theorem dX12_isNot_0 : decode cX12_isNot 0 = .ok (.aload_n 0, 1) := by decide +kernel
theorem dX12_isNot_1 : decode cX12_isNot 1 = .ok (.bipush 110, 2) := by decide +kernel
theorem dX12_isNot_3 : decode cX12_isNot 3 = .ok (.bipush 111, 2) := by decide +kernel
theorem dX12_isNot_5 : decode cX12_isNot 5 = .ok (.bipush 116, 2) := by decide +kernel
theorem dX12_isNot_7 : decode cX12_isNot 7 = .ok (.iconst 0, 1) := by decide +kernel
theorem dX12_isNot_8 : decode cX12_isNot 8 = .ok (.iconst 0, 1) := by decide +kernel
theorem dX12_isNot_9 : decode cX12_isNot 9 = .ok (.invokestatic 323, 3) := by decide +kernel
theorem dX12_isNot_12 : decode cX12_isNot 12 = .ok (.invokevirtual 327, 3) := by decide +kernel
theorem dX12_isNot_15 : decode cX12_isNot 15 = .ok (.ireturn, 1) := by decide +kernel
theorem dX12_isSign_0 : decode cX12_isSign 0 = .ok (.aload_n 0, 1) := by decide +kernel
theorem dX12_isSign_1 : decode cX12_isSign 1 = .ok (.getfield 288, 3) := by decide +kernel
theorem dX12_isSign_4 : decode cX12_isSign 4 = .ok (.iconst 4, 1) := by decide +kernel
theorem dX12_isSign_5 : decode cX12_isSign 5 = .ok (.if_icmp .ne 15, 3) := by decide +kernel
theorem dX12_isSign_8 : decode cX12_isSign 8 = .ok (.aload_n 0, 1) := by decide +kernel
theorem dX12_isSign_9 : decode cX12_isSign 9 = .ok (.getfield 300, 3) := by decide +kernel
theorem dX12_isSign_12 : decode cX12_isSign 12 = .ok (.iload_n 1, 1) := by decide +kernel
theorem dX12_isSign_13 : decode cX12_isSign 13 = .ok (.if_icmp .ne 7, 3) := by decide +kernel
theorem dX12_isSign_16 : decode cX12_isSign 16 = .ok (.iconst 1, 1) := by decide +kernel
theorem dX12_isSign_17 : decode cX12_isSign 17 = .ok (.goto 4, 3) := by decide +kernel
theorem dX12_isSign_20 : decode cX12_isSign 20 = .ok (.iconst 0, 1) := by decide +kernel
theorem dX12_isSign_21 : decode cX12_isSign 21 = .ok (.ireturn, 1) := by decide +kernel
theorem dX12_sortAtHand_0 : decode cX12_sortAtHand 0 = .ok (.aload_n 0, 1) := by decide +kernel
theorem dX12_sortAtHand_1 : decode cX12_sortAtHand 1 = .ok (.bipush 99, 2) := by decide +kernel
theorem dX12_sortAtHand_3 : decode cX12_sortAtHand 3 = .ok (.bipush 97, 2) := by decide +kernel
theorem dX12_sortAtHand_5 : decode cX12_sortAtHand 5 = .ok (.bipush 114, 2) := by decide +kernel
theorem dX12_sortAtHand_7 : decode cX12_sortAtHand 7 = .ok (.bipush 114, 2) := by decide +kernel
theorem dX12_sortAtHand_9 : decode cX12_sortAtHand 9 = .ok (.bipush 121, 2) := by decide +kernel
theorem dX12_sortAtHand_11 : decode cX12_sortAtHand 11 = .ok (.invokestatic 323, 3) := by decide +kernel
theorem dX12_sortAtHand_14 : decode cX12_sortAtHand 14 = .ok (.invokevirtual 327, 3) := by decide +kernel
theorem dX12_sortAtHand_17 : decode cX12_sortAtHand 17 = .ok (.ifCond .eq 5, 3) := by decide +kernel
theorem dX12_sortAtHand_20 : decode cX12_sortAtHand 20 = .ok (.iconst 0, 1) := by decide +kernel
theorem dX12_sortAtHand_21 : decode cX12_sortAtHand 21 = .ok (.ireturn, 1) := by decide +kernel
theorem dX12_sortAtHand_22 : decode cX12_sortAtHand 22 = .ok (.aload_n 0, 1) := by decide +kernel
theorem dX12_sortAtHand_23 : decode cX12_sortAtHand 23 = .ok (.bipush 115, 2) := by decide +kernel
theorem dX12_sortAtHand_25 : decode cX12_sortAtHand 25 = .ok (.bipush 116, 2) := by decide +kernel
theorem dX12_sortAtHand_27 : decode cX12_sortAtHand 27 = .ok (.bipush 111, 2) := by decide +kernel
theorem dX12_sortAtHand_29 : decode cX12_sortAtHand 29 = .ok (.bipush 112, 2) := by decide +kernel
theorem dX12_sortAtHand_31 : decode cX12_sortAtHand 31 = .ok (.iconst 0, 1) := by decide +kernel
theorem dX12_sortAtHand_32 : decode cX12_sortAtHand 32 = .ok (.invokestatic 323, 3) := by decide +kernel
theorem dX12_sortAtHand_35 : decode cX12_sortAtHand 35 = .ok (.invokevirtual 327, 3) := by decide +kernel
theorem dX12_sortAtHand_38 : decode cX12_sortAtHand 38 = .ok (.ifCond .eq 5, 3) := by decide +kernel
theorem dX12_sortAtHand_41 : decode cX12_sortAtHand 41 = .ok (.iconst 1, 1) := by decide +kernel
theorem dX12_sortAtHand_42 : decode cX12_sortAtHand 42 = .ok (.ireturn, 1) := by decide +kernel
theorem dX12_sortAtHand_43 : decode cX12_sortAtHand 43 = .ok (.aload_n 0, 1) := by decide +kernel
theorem dX12_sortAtHand_44 : decode cX12_sortAtHand 44 = .ok (.bipush 102, 2) := by decide +kernel
theorem dX12_sortAtHand_46 : decode cX12_sortAtHand 46 = .ok (.bipush 97, 2) := by decide +kernel
theorem dX12_sortAtHand_48 : decode cX12_sortAtHand 48 = .ok (.bipush 114, 2) := by decide +kernel
theorem dX12_sortAtHand_50 : decode cX12_sortAtHand 50 = .ok (.bipush 101, 2) := by decide +kernel
theorem dX12_sortAtHand_52 : decode cX12_sortAtHand 52 = .ok (.iconst 0, 1) := by decide +kernel
theorem dX12_sortAtHand_53 : decode cX12_sortAtHand 53 = .ok (.invokestatic 323, 3) := by decide +kernel
theorem dX12_sortAtHand_56 : decode cX12_sortAtHand 56 = .ok (.invokevirtual 327, 3) := by decide +kernel
theorem dX12_sortAtHand_59 : decode cX12_sortAtHand 59 = .ok (.ifCond .eq 5, 3) := by decide +kernel
theorem dX12_sortAtHand_62 : decode cX12_sortAtHand 62 = .ok (.iconst 2, 1) := by decide +kernel
theorem dX12_sortAtHand_63 : decode cX12_sortAtHand 63 = .ok (.ireturn, 1) := by decide +kernel
theorem dX12_sortAtHand_64 : decode cX12_sortAtHand 64 = .ok (.aload_n 0, 1) := by decide +kernel
theorem dX12_sortAtHand_65 : decode cX12_sortAtHand 65 = .ok (.bipush 104, 2) := by decide +kernel
theorem dX12_sortAtHand_67 : decode cX12_sortAtHand 67 = .ok (.bipush 111, 2) := by decide +kernel
theorem dX12_sortAtHand_69 : decode cX12_sortAtHand 69 = .ok (.bipush 108, 2) := by decide +kernel
theorem dX12_sortAtHand_71 : decode cX12_sortAtHand 71 = .ok (.bipush 100, 2) := by decide +kernel
theorem dX12_sortAtHand_73 : decode cX12_sortAtHand 73 = .ok (.iconst 0, 1) := by decide +kernel
theorem dX12_sortAtHand_74 : decode cX12_sortAtHand 74 = .ok (.invokestatic 323, 3) := by decide +kernel
theorem dX12_sortAtHand_77 : decode cX12_sortAtHand 77 = .ok (.invokevirtual 327, 3) := by decide +kernel
theorem dX12_sortAtHand_80 : decode cX12_sortAtHand 80 = .ok (.ifCond .eq 5, 3) := by decide +kernel
theorem dX12_sortAtHand_83 : decode cX12_sortAtHand 83 = .ok (.iconst 3, 1) := by decide +kernel
theorem dX12_sortAtHand_84 : decode cX12_sortAtHand 84 = .ok (.ireturn, 1) := by decide +kernel
theorem dX12_sortAtHand_85 : decode cX12_sortAtHand 85 = .ok (.aload_n 0, 1) := by decide +kernel
theorem dX12_sortAtHand_86 : decode cX12_sortAtHand 86 = .ok (.bipush 102, 2) := by decide +kernel
theorem dX12_sortAtHand_88 : decode cX12_sortAtHand 88 = .ok (.bipush 105, 2) := by decide +kernel
theorem dX12_sortAtHand_90 : decode cX12_sortAtHand 90 = .ok (.bipush 110, 2) := by decide +kernel
theorem dX12_sortAtHand_92 : decode cX12_sortAtHand 92 = .ok (.bipush 101, 2) := by decide +kernel
theorem dX12_sortAtHand_94 : decode cX12_sortAtHand 94 = .ok (.iconst 0, 1) := by decide +kernel
theorem dX12_sortAtHand_95 : decode cX12_sortAtHand 95 = .ok (.invokestatic 323, 3) := by decide +kernel
theorem dX12_sortAtHand_98 : decode cX12_sortAtHand 98 = .ok (.invokevirtual 327, 3) := by decide +kernel
theorem dX12_sortAtHand_101 : decode cX12_sortAtHand 101 = .ok (.ifCond .eq 5, 3) := by decide +kernel
theorem dX12_sortAtHand_104 : decode cX12_sortAtHand 104 = .ok (.iconst 4, 1) := by decide +kernel
theorem dX12_sortAtHand_105 : decode cX12_sortAtHand 105 = .ok (.ireturn, 1) := by decide +kernel
theorem dX12_sortAtHand_106 : decode cX12_sortAtHand 106 = .ok (.aload_n 0, 1) := by decide +kernel
theorem dX12_sortAtHand_107 : decode cX12_sortAtHand 107 = .ok (.bipush 103, 2) := by decide +kernel
theorem dX12_sortAtHand_109 : decode cX12_sortAtHand 109 = .ok (.bipush 97, 2) := by decide +kernel
theorem dX12_sortAtHand_111 : decode cX12_sortAtHand 111 = .ok (.bipush 115, 2) := by decide +kernel
theorem dX12_sortAtHand_113 : decode cX12_sortAtHand 113 = .ok (.iconst 0, 1) := by decide +kernel
theorem dX12_sortAtHand_114 : decode cX12_sortAtHand 114 = .ok (.iconst 0, 1) := by decide +kernel
theorem dX12_sortAtHand_115 : decode cX12_sortAtHand 115 = .ok (.invokestatic 323, 3) := by decide +kernel
theorem dX12_sortAtHand_118 : decode cX12_sortAtHand 118 = .ok (.invokevirtual 327, 3) := by decide +kernel
theorem dX12_sortAtHand_121 : decode cX12_sortAtHand 121 = .ok (.ifCond .eq 5, 3) := by decide +kernel
theorem dX12_sortAtHand_124 : decode cX12_sortAtHand 124 = .ok (.iconst 5, 1) := by decide +kernel
theorem dX12_sortAtHand_125 : decode cX12_sortAtHand 125 = .ok (.ireturn, 1) := by decide +kernel
theorem dX12_sortAtHand_126 : decode cX12_sortAtHand 126 = .ok (.aload_n 0, 1) := by decide +kernel
theorem dX12_sortAtHand_127 : decode cX12_sortAtHand 127 = .ok (.bipush 100, 2) := by decide +kernel
theorem dX12_sortAtHand_129 : decode cX12_sortAtHand 129 = .ok (.bipush 111, 2) := by decide +kernel
theorem dX12_sortAtHand_131 : decode cX12_sortAtHand 131 = .ok (.bipush 99, 2) := by decide +kernel
theorem dX12_sortAtHand_133 : decode cX12_sortAtHand 133 = .ok (.bipush 107, 2) := by decide +kernel
theorem dX12_sortAtHand_135 : decode cX12_sortAtHand 135 = .ok (.iconst 0, 1) := by decide +kernel
theorem dX12_sortAtHand_136 : decode cX12_sortAtHand 136 = .ok (.invokestatic 323, 3) := by decide +kernel
theorem dX12_sortAtHand_139 : decode cX12_sortAtHand 139 = .ok (.invokevirtual 327, 3) := by decide +kernel
theorem dX12_sortAtHand_142 : decode cX12_sortAtHand 142 = .ok (.ifCond .eq 8, 3) := by decide +kernel
theorem dX12_sortAtHand_145 : decode cX12_sortAtHand 145 = .ok (.bipush 6, 2) := by decide +kernel
theorem dX12_sortAtHand_147 : decode cX12_sortAtHand 147 = .ok (.goto 4, 3) := by decide +kernel
theorem dX12_sortAtHand_150 : decode cX12_sortAtHand 150 = .ok (.iconst (-1), 1) := by decide +kernel
theorem dX12_sortAtHand_151 : decode cX12_sortAtHand 151 = .ok (.ireturn, 1) := by decide +kernel
theorem dQ_K {g g1 : Nat → Int32} {f : Nat} : ∀ n, (∀ i, i < f + n → g1 i = g i) → dQ g1 f n = dQ g f n
  | 0, _ => rfl
  | n + 1, h => by
    show dQ g1 f n + dl (g1 (f + n)) = dQ g f n + dl (g (f + n))
    rw [dQ_K n (fun i hi => h i (by omega)), h (f + n) (by omega)]
theorem up_ne {g : Nat → Int32} {i j : Nat} {x : Int32} (h : i ≠ j) : upd g j x i = g i := if_neg h
theorem up_eq {g : Nat → Int32} {j : Nat} {x : Int32} : upd g j x j = x := if_pos rfl
theorem vP_K {g g1 : Nat → Int32} {f t : Nat} (h : vP g f t) (k : ∀ i, i < t → g1 i = g i) : vP g1 f t := by
  intro n hn
  rw [k (f + n) hn, dQ_K n (fun i hi => k i (by omega))]
  exact h n hn
theorem vP_emit {g : Nat → Int32} {f P : Nat} {x : Int32} (h : vP g f P) (hf : f ≤ P) (hx : okP x (dQ g f (P - f))) : vP (upd g P x) f (P + 1) := by
  intro n hn
  rcases Nat.lt_or_ge (f + n) P with q | q
  · rw [up_ne (by omega), dQ_K (g := g) n (fun i hi => up_ne (by omega))]
    exact h n q
  · have e : f + n = P := by omega
    rw [e, up_eq, dQ_K (g := g) n (fun i hi => up_ne (by omega)), show n = P - f from by omega]
    exact hx
theorem dQ_emit {g : Nat → Int32} {f P : Nat} {x : Int32} (hf : f ≤ P) : dQ (upd g P x) f (P + 1 - f) = dQ g f (P - f) + dl x := by
  rw [show P + 1 - f = (P - f) + 1 from by omega]
  show dQ (upd g P x) f (P - f) + dl (upd g P x (f + (P - f))) = _
  rw [dQ_K (g := g) (P - f) (fun i hi => up_ne (by omega)), show f + (P - f) = P from by omega, up_eq]
def nA (pl : Nat → Int32) : Nat → Int
  | 0 => 0
  | n + 1 => nA pl n + (if (pl n).toInt = 13 ∨ (pl n).toInt = 14 then 1 else 0)
theorem nA_b (pl : Nat → Int32) : ∀ n : Nat, 0 ≤ nA pl n ∧ nA pl n ≤ n
  | 0 => ⟨Int.le_refl _, Int.le_refl _⟩
  | n + 1 => by
    have := nA_b pl n
    show 0 ≤ nA pl n + (if (pl n).toInt = 13 ∨ (pl n).toInt = 14 then 1 else 0) ∧ nA pl n + (if (pl n).toInt = 13 ∨ (pl n).toInt = 14 then 1 else 0) ≤ ((n + 1 : Nat) : Int)
    split <;> omega
theorem nA_K {pl pl1 : Nat → Int32} : ∀ n, (∀ i, i < n → pl1 i = pl i) → nA pl1 n = nA pl n
  | 0, _ => rfl
  | n + 1, h => by
    show nA pl1 n + (if (pl1 n).toInt = 13 ∨ (pl1 n).toInt = 14 then 1 else 0) = nA pl n + (if (pl n).toInt = 13 ∨ (pl n).toInt = 14 then 1 else 0)
    rw [nA_K n (fun i hi => h i (by omega)), h n (by omega)]
theorem nA_1 {pl : Nat → Int32} {n : Nat} (h : (pl n).toInt = 13 ∨ (pl n).toInt = 14) : nA pl (n + 1) = nA pl n + 1 := by
  show nA pl n + (if _ then 1 else 0) = _; rw [if_pos h]
theorem nA_0 {pl : Nat → Int32} {n : Nat} (h : ¬ ((pl n).toInt = 13 ∨ (pl n).toInt = 14)) : nA pl (n + 1) = nA pl n := by
  show nA pl n + (if _ then 1 else 0) = _; rw [if_neg h]; omega
def pK (n : Nat) (g g1 : Nat → Int32) : Prop := ∀ i, i < n → g1 i = g i
def cX (FF : Nat) (g0 : Nat → Int32) (e p t o w : Int) (g pl : Nat → Int32) : Prop := ((0 ≤ p ∧ 0 ≤ t ∧ 0 ≤ e) ∧ p + t + e ≤ 2 * o ∧ t + e ≤ o ∧ t + e ≤ w + o ∧ o ≤ 50) ∧ (FF ≤ 1200 + p.toNat ∧ 1200 ≤ FF) ∧ pK FF g0 g ∧ vP g FF (1200 + p.toNat) ∧ dQ g FF (1200 + p.toNat - FF) = nA pl t.toNat + e
theorem cX_n {FF : Nat} {g0 : Nat → Int32} {e p t o w : Int} {g pl : Nat → Int32} (h : cX FF g0 e p t o w g pl) : (0 ≤ p ∧ 0 ≤ t ∧ 0 ≤ e) ∧ p + t + e ≤ 2 * o ∧ t + e ≤ o ∧ t + e ≤ w + o ∧ o ≤ 50 := h.1
theorem cX_put {FF : Nat} {g0 g g1 : Nat → Int32} {p p1 : Int} {i : Nat} {x : Int32} {d d1 : Int} (h0 : 0 ≤ p) (h2 : FF ≤ 1200 + p.toNat ∧ 1200 ≤ FF) (hk : pK FF g0 g) (hv : vP g FF (1200 + p.toNat)) (hd : dQ g FF (1200 + p.toNat - FF) = d) (hp : p1 = p + 1) (hi : i = 1200 + p.toNat) (hg : g1 = upd g i x) (ho : okP x d) (hd1 : d + dl x = d1) : (FF ≤ 1200 + p1.toNat ∧ 1200 ≤ FF) ∧ pK FF g0 g1 ∧ vP g1 FF (1200 + p1.toNat) ∧ dQ g1 FF (1200 + p1.toNat - FF) = d1 := by
  have e : 1200 + p1.toNat = (1200 + p.toNat) + 1 := by omega
  rw [e, hg, hi]
  refine ⟨by omega, fun j hj => by rw [up_ne (by omega)]; exact hk j hj, vP_emit hv h2.1 (by rw [hd]; exact ho), ?_⟩
  rw [dQ_emit h2.1, hd, hd1]
theorem cX_atom {FF : Nat} {g0 : Nat → Int32} {p t o w p1 t1 o1 w1 : Int} {g pl g1 : Nat → Int32} {i : Nat} {x : Int32} (h : cX FF g0 0 p t o w g pl) (hx : 0 ≤ x.toInt ∧ x.toInt ≤ 11) (hp : p1 = p + 1) (ht : t1 = t) (ho : o1 = o + 1) (ho2 : o1 ≤ 50) (hw : w1 = w) (hi : i = 1200 + p.toNat) (hg : g1 = upd g i x) : cX FF g0 1 p1 t1 o1 w1 g1 pl := by
  obtain ⟨h1, h2, h3, h4, h5⟩ := h
  have hn := nA_b pl t.toNat
  subst ht
  refine ⟨by omega, cX_put h1.1.1 h2 h3 h4 h5 hp hi hg ⟨by omega, by omega, by omega, by omega, by omega⟩ ?_⟩
  rw [dl, if_neg (by omega), if_neg (by omega)]; omega
theorem cX_not {FF : Nat} {g0 : Nat → Int32} {p t o w p1 t1 o1 w1 : Int} {g pl g1 : Nat → Int32} {i : Nat} {x : Int32} (h : cX FF g0 1 p t o w g pl) (h0 : 0 < t) (hpl : (pl (t - 1).toNat).toInt = 12) (hx : x.toInt = 12) (hp : p1 = p + 1) (ht : t1 = t - 1) (ho : o1 = o) (hw : w1 = w - 1) (hi : i = 1200 + p.toNat) (hg : g1 = upd g i x) : cX FF g0 1 p1 t1 o1 w1 g1 pl := by
  obtain ⟨h1, h2, h3, h4, h5⟩ := h
  have hn := nA_b pl t.toNat
  have hz : nA pl t.toNat = nA pl t1.toNat := by rw [show t.toNat = (t - 1).toNat + 1 from by omega, nA_0 (by omega), ht]
  refine ⟨by omega, cX_put h1.1.1 h2 h3 h4 h5 hp hi hg ⟨by omega, by omega, by omega, by omega, by omega⟩ ?_⟩
  rw [dl, if_pos hx]; omega
theorem cX_drop {FF : Nat} {g0 : Nat → Int32} {p t o w p1 t1 o1 w1 : Int} {g pl g1 : Nat → Int32} {i : Nat} {x : Int32} (h : cX FF g0 1 p t o w g pl) (h0 : 0 < t) (hpl : pl (t - 1).toNat = x) (hx : 13 ≤ x.toInt ∧ x.toInt ≤ 14) (hp : p1 = p + 1) (ht : t1 = t - 1) (ho : o1 = o) (hw : w1 = w) (hi : i = 1200 + p.toNat) (hg : g1 = upd g i x) : cX FF g0 1 p1 t1 o1 w1 g1 pl := by
  obtain ⟨h1, h2, h3, h4, h5⟩ := h
  have hz : nA pl t.toNat = nA pl t1.toNat + 1 := by rw [show t.toNat = (t - 1).toNat + 1 from by omega, nA_1 (by rw [hpl]; omega), ht]
  have hn := nA_b pl t1.toNat
  refine ⟨by omega, cX_put h1.1.1 h2 h3 h4 h5 hp hi hg ⟨by omega, by omega, by omega, by omega, by omega⟩ ?_⟩
  rw [dl, if_neg (by omega), if_pos (by omega)]; omega
theorem cX_push {FF : Nat} {g0 : Nat → Int32} {p t o w p1 t1 o1 w1 : Int} {g pl pl1 : Nat → Int32} {i : Nat} {x : Int32} (h : cX FF g0 0 p t o w g pl) (hx : x.toInt = 12 ∨ x.toInt = 15) (hp : p1 = p) (ht : t1 = t + 1) (ho : o1 = o + 1) (ho2 : o1 ≤ 50) (hw : w1 = w + 1) (hi : i = t.toNat) (hg : pl1 = upd pl i x) : cX FF g0 0 p1 t1 o1 w1 g pl1 := by
  obtain ⟨h1, h2, h3, h4, h5⟩ := h
  subst hp
  refine ⟨by omega, h2, h3, h4, ?_⟩
  rw [h5, show t1.toNat = t.toNat + 1 from by omega, nA_0 (by rw [hg, hi, up_eq]; omega), hg, nA_K (pl := pl) t.toNat (fun j hj => up_ne (by omega))]
theorem cX_op {FF : Nat} {g0 : Nat → Int32} {p t o w p1 t1 o1 w1 : Int} {g pl pl1 : Nat → Int32} {i : Nat} {x : Int32} (h : cX FF g0 1 p t o w g pl) (hx : 13 ≤ x.toInt ∧ x.toInt ≤ 14) (hp : p1 = p) (ht : t1 = t + 1) (ho : o1 = o) (hw : w1 = w) (hi : i = t.toNat) (hg : pl1 = upd pl i x) : cX FF g0 0 p1 t1 o1 w1 g pl1 := by
  obtain ⟨h1, h2, h3, h4, h5⟩ := h
  subst hp
  refine ⟨by omega, h2, h3, h4, ?_⟩
  rw [h5, show t1.toNat = t.toNat + 1 from by omega, nA_1 (by rw [hg, hi, up_eq]; omega), hg, nA_K (pl := pl) t.toNat (fun j hj => up_ne (by omega))]; omega
theorem cX_pop {FF : Nat} {g0 : Nat → Int32} {p t o w p1 t1 o1 w1 : Int} {g pl : Nat → Int32} (h : cX FF g0 1 p t o w g pl) (h0 : 0 < t) (hpl : ¬ ((pl (t - 1).toNat).toInt = 13 ∨ (pl (t - 1).toNat).toInt = 14)) (hp : p1 = p) (ht : t1 = t - 1) (ho : o1 = o) (hw : w1 = w - 1) : cX FF g0 1 p1 t1 o1 w1 g pl := by
  obtain ⟨h1, h2, h3, h4, h5⟩ := h
  subst hp
  refine ⟨by omega, h2, h3, h4, ?_⟩
  rw [h5, show t.toNat = (t - 1).toNat + 1 from by omega, nA_0 hpl, ht]
theorem cX_start {FF : Nat} {p t o w : Int} {g pl : Nat → Int32} (h0 : 0 ≤ p) (ht : t = 0) (hF : FF = 1200 + p.toNat) (ho : p ≤ 2 * o) (ho2 : o ≤ 50) (hz : 0 ≤ o) (hw : 0 ≤ w + o) : cX FF g 0 p t o w g pl := by
  subst ht; subst hF
  refine ⟨by omega, by omega, fun _ _ => rfl, fun n hn => by omega, ?_⟩
  rw [show 1200 + p.toNat - (1200 + p.toNat) = 0 from by omega]; rfl
theorem cX_eq {FF : Nat} {g0 : Nat → Int32} {e p t o w p1 t1 o1 w1 : Int} {g pl g1 pl1 : Nat → Int32} (h : cX FF g0 e p t o w g pl) (hp : p1 = p) (ht : t1 = t) (ho : o1 = o) (hw : w1 = w) (hg : g1 = g) (hl : pl1 = pl) : cX FF g0 e p1 t1 o1 w1 g1 pl1 := by
  subst hp; subst ht; subst ho; subst hw; subst hg; subst hl; exact h

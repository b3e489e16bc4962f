theorem dX0_holds_0 : decode cX0_holds 0 = .ok (.iload_n 1, 1) := by decide +kernel
theorem dX0_holds_1 : decode cX0_holds 1 = .ok (.ifCond .ne 7, 3) := by decide +kernel
theorem dX0_holds_4 : decode cX0_holds 4 = .ok (.iconst 0, 1) := by decide +kernel
theorem dX0_holds_5 : decode cX0_holds 5 = .ok (.goto 11, 3) := by decide +kernel
theorem dX0_holds_8 : decode cX0_holds 8 = .ok (.aload_n 0, 1) := by decide +kernel
theorem dX0_holds_9 : decode cX0_holds 9 = .ok (.getfield 22, 3) := by decide +kernel
theorem dX0_holds_12 : decode cX0_holds 12 = .ok (.iload_n 1, 1) := by decide +kernel
theorem dX0_holds_13 : decode cX0_holds 13 = .ok (.iconst 1, 1) := by decide +kernel
theorem dX0_holds_14 : decode cX0_holds 14 = .ok (.isub, 1) := by decide +kernel
theorem dX0_holds_15 : decode cX0_holds 15 = .ok (.iaload, 1) := by decide +kernel
theorem dX0_holds_16 : decode cX0_holds 16 = .ok (.istore_n 3, 1) := by decide +kernel
theorem dX0_holds_17 : decode cX0_holds 17 = .ok (.iconst 1, 1) := by decide +kernel
theorem dX0_holds_18 : decode cX0_holds 18 = .ok (.istore 4, 2) := by decide +kernel
theorem dX0_holds_20 : decode cX0_holds 20 = .ok (.iload_n 3, 1) := by decide +kernel
theorem dX0_holds_21 : decode cX0_holds 21 = .ok (.istore 5, 2) := by decide +kernel
theorem dX0_holds_23 : decode cX0_holds 23 = .ok (.iload 5, 2) := by decide +kernel
theorem dX0_holds_25 : decode cX0_holds 25 = .ok (.aload_n 0, 1) := by decide +kernel
theorem dX0_holds_26 : decode cX0_holds 26 = .ok (.getfield 22, 3) := by decide +kernel
theorem dX0_holds_29 : decode cX0_holds 29 = .ok (.iload_n 1, 1) := by decide +kernel
theorem dX0_holds_30 : decode cX0_holds 30 = .ok (.iaload, 1) := by decide +kernel
theorem dX0_holds_31 : decode cX0_holds 31 = .ok (.if_icmp .ge 206, 3) := by decide +kernel
theorem dX0_holds_34 : decode cX0_holds 34 = .ok (.aload_n 2, 1) := by decide +kernel
theorem dX0_holds_35 : decode cX0_holds 35 = .ok (.aload_n 0, 1) := by decide +kernel
theorem dX0_holds_36 : decode cX0_holds 36 = .ok (.getfield 28, 3) := by decide +kernel
theorem dX0_holds_39 : decode cX0_holds 39 = .ok (.iload 5, 2) := by decide +kernel
theorem dX0_holds_41 : decode cX0_holds 41 = .ok (.iaload, 1) := by decide +kernel
theorem dX0_holds_42 : decode cX0_holds 42 = .ok (.iaload, 1) := by decide +kernel
theorem dX0_holds_43 : decode cX0_holds 43 = .ok (.istore 6, 2) := by decide +kernel
theorem dX0_holds_45 : decode cX0_holds 45 = .ok (.aload_n 0, 1) := by decide +kernel
theorem dX0_holds_46 : decode cX0_holds 46 = .ok (.getfield 25, 3) := by decide +kernel
theorem dX0_holds_49 : decode cX0_holds 49 = .ok (.iload 5, 2) := by decide +kernel
theorem dX0_holds_51 : decode cX0_holds 51 = .ok (.iaload, 1) := by decide +kernel
theorem dX0_holds_52 : decode cX0_holds 52 = .ok (.tableswitch 155 0 5 #[101, 128, 155, 40, 49, 75], 40) := by decide +kernel
theorem dX0_holds_92 : decode cX0_holds 92 = .ok (.iload 4, 2) := by decide +kernel
theorem dX0_holds_94 : decode cX0_holds 94 = .ok (.iconst 1, 1) := by decide +kernel
theorem dX0_holds_95 : decode cX0_holds 95 = .ok (.ixor, 1) := by decide +kernel
theorem dX0_holds_96 : decode cX0_holds 96 = .ok (.istore 4, 2) := by decide +kernel
theorem dX0_holds_98 : decode cX0_holds 98 = .ok (.goto 133, 3) := by decide +kernel
theorem dX0_holds_101 : decode cX0_holds 101 = .ok (.iload 4, 2) := by decide +kernel
theorem dX0_holds_103 : decode cX0_holds 103 = .ok (.iconst 1, 1) := by decide +kernel
theorem dX0_holds_104 : decode cX0_holds 104 = .ok (.iand, 1) := by decide +kernel
theorem dX0_holds_105 : decode cX0_holds 105 = .ok (.iconst 1, 1) := by decide +kernel
theorem dX0_holds_106 : decode cX0_holds 106 = .ok (.if_icmp .ne 10, 3) := by decide +kernel
theorem dX0_holds_109 : decode cX0_holds 109 = .ok (.iload 4, 2) := by decide +kernel
theorem dX0_holds_111 : decode cX0_holds 111 = .ok (.iconst 1, 1) := by decide +kernel
theorem dX0_holds_112 : decode cX0_holds 112 = .ok (.ishr, 1) := by decide +kernel
theorem dX0_holds_113 : decode cX0_holds 113 = .ok (.goto 9, 3) := by decide +kernel
theorem dX0_holds_116 : decode cX0_holds 116 = .ok (.iload 4, 2) := by decide +kernel
theorem dX0_holds_118 : decode cX0_holds 118 = .ok (.iconst 2, 1) := by decide +kernel
theorem dX0_holds_119 : decode cX0_holds 119 = .ok (.ishr, 1) := by decide +kernel
theorem dX0_holds_120 : decode cX0_holds 120 = .ok (.iconst 1, 1) := by decide +kernel
theorem dX0_holds_121 : decode cX0_holds 121 = .ok (.ishl, 1) := by decide +kernel
theorem dX0_holds_122 : decode cX0_holds 122 = .ok (.istore 4, 2) := by decide +kernel
theorem dX0_holds_124 : decode cX0_holds 124 = .ok (.goto 107, 3) := by decide +kernel
theorem dX0_holds_127 : decode cX0_holds 127 = .ok (.iload 4, 2) := by decide +kernel
theorem dX0_holds_129 : decode cX0_holds 129 = .ok (.iconst 1, 1) := by decide +kernel
theorem dX0_holds_130 : decode cX0_holds 130 = .ok (.iand, 1) := by decide +kernel
theorem dX0_holds_131 : decode cX0_holds 131 = .ok (.iconst 1, 1) := by decide +kernel
theorem dX0_holds_132 : decode cX0_holds 132 = .ok (.if_icmp .ne 12, 3) := by decide +kernel
theorem dX0_holds_135 : decode cX0_holds 135 = .ok (.iload 4, 2) := by decide +kernel
theorem dX0_holds_137 : decode cX0_holds 137 = .ok (.iconst 1, 1) := by decide +kernel
theorem dX0_holds_138 : decode cX0_holds 138 = .ok (.ishr, 1) := by decide +kernel
theorem dX0_holds_139 : decode cX0_holds 139 = .ok (.iconst 1, 1) := by decide +kernel
theorem dX0_holds_140 : decode cX0_holds 140 = .ok (.ior, 1) := by decide +kernel
theorem dX0_holds_141 : decode cX0_holds 141 = .ok (.goto 7, 3) := by decide +kernel
theorem dX0_holds_144 : decode cX0_holds 144 = .ok (.iload 4, 2) := by decide +kernel
theorem dX0_holds_146 : decode cX0_holds 146 = .ok (.iconst 1, 1) := by decide +kernel
theorem dX0_holds_147 : decode cX0_holds 147 = .ok (.ishr, 1) := by decide +kernel
theorem dX0_holds_148 : decode cX0_holds 148 = .ok (.istore 4, 2) := by decide +kernel
theorem dX0_holds_150 : decode cX0_holds 150 = .ok (.goto 81, 3) := by decide +kernel
theorem dX0_holds_153 : decode cX0_holds 153 = .ok (.iload 4, 2) := by decide +kernel
theorem dX0_holds_155 : decode cX0_holds 155 = .ok (.iconst 1, 1) := by decide +kernel
theorem dX0_holds_156 : decode cX0_holds 156 = .ok (.ishl, 1) := by decide +kernel
theorem dX0_holds_157 : decode cX0_holds 157 = .ok (.iload 6, 2) := by decide +kernel
theorem dX0_holds_159 : decode cX0_holds 159 = .ok (.aload_n 0, 1) := by decide +kernel
theorem dX0_holds_160 : decode cX0_holds 160 = .ok (.getfield 31, 3) := by decide +kernel
theorem dX0_holds_163 : decode cX0_holds 163 = .ok (.iload 5, 2) := by decide +kernel
theorem dX0_holds_165 : decode cX0_holds 165 = .ok (.iaload, 1) := by decide +kernel
theorem dX0_holds_166 : decode cX0_holds 166 = .ok (.if_icmp .ge 7, 3) := by decide +kernel
theorem dX0_holds_169 : decode cX0_holds 169 = .ok (.iconst 1, 1) := by decide +kernel
theorem dX0_holds_170 : decode cX0_holds 170 = .ok (.goto 4, 3) := by decide +kernel
theorem dX0_holds_173 : decode cX0_holds 173 = .ok (.iconst 0, 1) := by decide +kernel
theorem dX0_holds_174 : decode cX0_holds 174 = .ok (.ior, 1) := by decide +kernel
theorem dX0_holds_175 : decode cX0_holds 175 = .ok (.istore 4, 2) := by decide +kernel
theorem dX0_holds_177 : decode cX0_holds 177 = .ok (.goto 54, 3) := by decide +kernel
theorem dX0_holds_180 : decode cX0_holds 180 = .ok (.iload 4, 2) := by decide +kernel
theorem dX0_holds_182 : decode cX0_holds 182 = .ok (.iconst 1, 1) := by decide +kernel
theorem dX0_holds_183 : decode cX0_holds 183 = .ok (.ishl, 1) := by decide +kernel
theorem dX0_holds_184 : decode cX0_holds 184 = .ok (.iload 6, 2) := by decide +kernel
theorem dX0_holds_186 : decode cX0_holds 186 = .ok (.aload_n 0, 1) := by decide +kernel
theorem dX0_holds_187 : decode cX0_holds 187 = .ok (.getfield 31, 3) := by decide +kernel
theorem dX0_holds_190 : decode cX0_holds 190 = .ok (.iload 5, 2) := by decide +kernel
theorem dX0_holds_192 : decode cX0_holds 192 = .ok (.iaload, 1) := by decide +kernel
theorem dX0_holds_193 : decode cX0_holds 193 = .ok (.if_icmp .ne 7, 3) := by decide +kernel
theorem dX0_holds_196 : decode cX0_holds 196 = .ok (.iconst 1, 1) := by decide +kernel
theorem dX0_holds_197 : decode cX0_holds 197 = .ok (.goto 4, 3) := by decide +kernel
theorem dX0_holds_200 : decode cX0_holds 200 = .ok (.iconst 0, 1) := by decide +kernel
theorem dX0_holds_201 : decode cX0_holds 201 = .ok (.ior, 1) := by decide +kernel
theorem dX0_holds_202 : decode cX0_holds 202 = .ok (.istore 4, 2) := by decide +kernel
theorem dX0_holds_204 : decode cX0_holds 204 = .ok (.goto 27, 3) := by decide +kernel
theorem dX0_holds_207 : decode cX0_holds 207 = .ok (.iload 4, 2) := by decide +kernel
theorem dX0_holds_209 : decode cX0_holds 209 = .ok (.iconst 1, 1) := by decide +kernel
theorem dX0_holds_210 : decode cX0_holds 210 = .ok (.ishl, 1) := by decide +kernel
theorem dX0_holds_211 : decode cX0_holds 211 = .ok (.iload 6, 2) := by decide +kernel
theorem dX0_holds_213 : decode cX0_holds 213 = .ok (.aload_n 0, 1) := by decide +kernel
theorem dX0_holds_214 : decode cX0_holds 214 = .ok (.getfield 31, 3) := by decide +kernel
theorem dX0_holds_217 : decode cX0_holds 217 = .ok (.iload 5, 2) := by decide +kernel
theorem dX0_holds_219 : decode cX0_holds 219 = .ok (.iaload, 1) := by decide +kernel
theorem dX0_holds_220 : decode cX0_holds 220 = .ok (.if_icmp .le 7, 3) := by decide +kernel
theorem dX0_holds_223 : decode cX0_holds 223 = .ok (.iconst 1, 1) := by decide +kernel
theorem dX0_holds_224 : decode cX0_holds 224 = .ok (.goto 4, 3) := by decide +kernel
theorem dX0_holds_227 : decode cX0_holds 227 = .ok (.iconst 0, 1) := by decide +kernel
theorem dX0_holds_228 : decode cX0_holds 228 = .ok (.ior, 1) := by decide +kernel
theorem dX0_holds_229 : decode cX0_holds 229 = .ok (.istore 4, 2) := by decide +kernel
theorem dX0_holds_231 : decode cX0_holds 231 = .ok (.iinc 5 1, 3) := by decide +kernel
theorem dX0_holds_234 : decode cX0_holds 234 = .ok (.goto (-211), 3) := by decide +kernel
theorem dX0_holds_237 : decode cX0_holds 237 = .ok (.iload 4, 2) := by decide +kernel
theorem dX0_holds_239 : decode cX0_holds 239 = .ok (.iconst 1, 1) := by decide +kernel
theorem dX0_holds_240 : decode cX0_holds 240 = .ok (.iand, 1) := by decide +kernel
theorem dX0_holds_241 : decode cX0_holds 241 = .ok (.iconst 1, 1) := by decide +kernel
theorem dX0_holds_242 : decode cX0_holds 242 = .ok (.if_icmp .ne 7, 3) := by decide +kernel
theorem dX0_holds_245 : decode cX0_holds 245 = .ok (.iconst 1, 1) := by decide +kernel
theorem dX0_holds_246 : decode cX0_holds 246 = .ok (.goto 4, 3) := by decide +kernel
theorem dX0_holds_249 : decode cX0_holds 249 = .ok (.iconst 0, 1) := by decide +kernel
theorem dX0_holds_250 : decode cX0_holds 250 = .ok (.ireturn, 1) := by decide +kernel
theorem dX0_lineFor_0 : decode cX0_lineFor 0 = .ok (.iconst 0, 1) := by decide +kernel
theorem dX0_lineFor_1 : decode cX0_lineFor 1 = .ok (.istore_n 3, 1) := by decide +kernel
theorem dX0_lineFor_2 : decode cX0_lineFor 2 = .ok (.iload_n 3, 1) := by decide +kernel
theorem dX0_lineFor_3 : decode cX0_lineFor 3 = .ok (.aload_n 0, 1) := by decide +kernel
theorem dX0_lineFor_4 : decode cX0_lineFor 4 = .ok (.getfield 15, 3) := by decide +kernel
theorem dX0_lineFor_7 : decode cX0_lineFor 7 = .ok (.arraylength, 1) := by decide +kernel
theorem dX0_lineFor_8 : decode cX0_lineFor 8 = .ok (.if_icmp .ge 30, 3) := by decide +kernel
theorem dX0_lineFor_11 : decode cX0_lineFor 11 = .ok (.aload_n 0, 1) := by decide +kernel
theorem dX0_lineFor_12 : decode cX0_lineFor 12 = .ok (.getfield 15, 3) := by decide +kernel
theorem dX0_lineFor_15 : decode cX0_lineFor 15 = .ok (.iload_n 3, 1) := by decide +kernel
theorem dX0_lineFor_16 : decode cX0_lineFor 16 = .ok (.iaload, 1) := by decide +kernel
theorem dX0_lineFor_17 : decode cX0_lineFor 17 = .ok (.iload_n 1, 1) := by decide +kernel
theorem dX0_lineFor_18 : decode cX0_lineFor 18 = .ok (.if_icmp .ne 14, 3) := by decide +kernel
theorem dX0_lineFor_21 : decode cX0_lineFor 21 = .ok (.aload_n 0, 1) := by decide +kernel
theorem dX0_lineFor_22 : decode cX0_lineFor 22 = .ok (.iload_n 3, 1) := by decide +kernel
theorem dX0_lineFor_23 : decode cX0_lineFor 23 = .ok (.aload_n 2, 1) := by decide +kernel
theorem dX0_lineFor_24 : decode cX0_lineFor 24 = .ok (.invokevirtual 34, 3) := by decide +kernel
theorem dX0_lineFor_27 : decode cX0_lineFor 27 = .ok (.ifCond .eq 5, 3) := by decide +kernel
theorem dX0_lineFor_30 : decode cX0_lineFor 30 = .ok (.iload_n 3, 1) := by decide +kernel
theorem dX0_lineFor_31 : decode cX0_lineFor 31 = .ok (.ireturn, 1) := by decide +kernel
theorem dX0_lineFor_32 : decode cX0_lineFor 32 = .ok (.iinc 3 1, 3) := by decide +kernel
theorem dX0_lineFor_35 : decode cX0_lineFor 35 = .ok (.goto (-33), 3) := by decide +kernel
theorem dX0_lineFor_38 : decode cX0_lineFor 38 = .ok (.iconst (-1), 1) := by decide +kernel
theorem dX0_lineFor_39 : decode cX0_lineFor 39 = .ok (.ireturn, 1) := by decide +kernel
theorem dX1_halt_0 : decode cX1_halt 0 = .ok (.aload_n 0, 1) := by decide +kernel
theorem dX1_halt_1 : decode cX1_halt 1 = .ok (.getfield 9, 3) := by decide +kernel
theorem dX1_halt_4 : decode cX1_halt 4 = .ok (.getfield 157, 3) := by decide +kernel
theorem dX1_halt_7 : decode cX1_halt 7 = .ok (.getfield 176, 3) := by decide +kernel
theorem dX1_halt_10 : decode cX1_halt 10 = .ok (.iload_n 1, 1) := by decide +kernel
theorem dX1_halt_11 : decode cX1_halt 11 = .ok (.iaload, 1) := by decide +kernel
theorem dX1_halt_12 : decode cX1_halt 12 = .ok (.istore_n 3, 1) := by decide +kernel
theorem dX1_halt_13 : decode cX1_halt 13 = .ok (.aload_n 0, 1) := by decide +kernel
theorem dX1_halt_14 : decode cX1_halt 14 = .ok (.getfield 9, 3) := by decide +kernel
theorem dX1_halt_17 : decode cX1_halt 17 = .ok (.aload_n 0, 1) := by decide +kernel
theorem dX1_halt_18 : decode cX1_halt 18 = .ok (.getfield 30, 3) := by decide +kernel
theorem dX1_halt_21 : decode cX1_halt 21 = .ok (.iload_n 1, 1) := by decide +kernel
theorem dX1_halt_22 : decode cX1_halt 22 = .ok (.iconst 4, 1) := by decide +kernel
theorem dX1_halt_23 : decode cX1_halt 23 = .ok (.iload_n 2, 1) := by decide +kernel
theorem dX1_halt_24 : decode cX1_halt 24 = .ok (.aload_n 0, 1) := by decide +kernel
theorem dX1_halt_25 : decode cX1_halt 25 = .ok (.getfield 62, 3) := by decide +kernel
theorem dX1_halt_28 : decode cX1_halt 28 = .ok (.iload_n 3, 1) := by decide +kernel
theorem dX1_halt_29 : decode cX1_halt 29 = .ok (.iaload, 1) := by decide +kernel
theorem dX1_halt_30 : decode cX1_halt 30 = .ok (.invokevirtual 230, 3) := by decide +kernel
theorem dX1_halt_33 : decode cX1_halt 33 = .ok (.istore 4, 2) := by decide +kernel
theorem dX1_halt_35 : decode cX1_halt 35 = .ok (.aload_n 0, 1) := by decide +kernel
theorem dX1_halt_36 : decode cX1_halt 36 = .ok (.getfield 9, 3) := by decide +kernel
theorem dX1_halt_39 : decode cX1_halt 39 = .ok (.aload_n 0, 1) := by decide +kernel
theorem dX1_halt_40 : decode cX1_halt 40 = .ok (.getfield 30, 3) := by decide +kernel
theorem dX1_halt_43 : decode cX1_halt 43 = .ok (.iload_n 1, 1) := by decide +kernel
theorem dX1_halt_44 : decode cX1_halt 44 = .ok (.iconst 3, 1) := by decide +kernel
theorem dX1_halt_45 : decode cX1_halt 45 = .ok (.iload_n 2, 1) := by decide +kernel
theorem dX1_halt_46 : decode cX1_halt 46 = .ok (.aload_n 0, 1) := by decide +kernel
theorem dX1_halt_47 : decode cX1_halt 47 = .ok (.getfield 62, 3) := by decide +kernel
theorem dX1_halt_50 : decode cX1_halt 50 = .ok (.iload_n 3, 1) := by decide +kernel
theorem dX1_halt_51 : decode cX1_halt 51 = .ok (.iaload, 1) := by decide +kernel
theorem dX1_halt_52 : decode cX1_halt 52 = .ok (.invokevirtual 230, 3) := by decide +kernel
theorem dX1_halt_55 : decode cX1_halt 55 = .ok (.istore 5, 2) := by decide +kernel
theorem dX1_halt_57 : decode cX1_halt 57 = .ok (.aload_n 0, 1) := by decide +kernel
theorem dX1_halt_58 : decode cX1_halt 58 = .ok (.getfield 62, 3) := by decide +kernel
theorem dX1_halt_61 : decode cX1_halt 61 = .ok (.iload_n 3, 1) := by decide +kernel
theorem dX1_halt_62 : decode cX1_halt 62 = .ok (.dup2, 1) := by decide +kernel
theorem dX1_halt_63 : decode cX1_halt 63 = .ok (.iaload, 1) := by decide +kernel
theorem dX1_halt_64 : decode cX1_halt 64 = .ok (.iconst 1, 1) := by decide +kernel
theorem dX1_halt_65 : decode cX1_halt 65 = .ok (.iadd, 1) := by decide +kernel
theorem dX1_halt_66 : decode cX1_halt 66 = .ok (.iastore, 1) := by decide +kernel
theorem dX1_halt_67 : decode cX1_halt 67 = .ok (.aload_n 0, 1) := by decide +kernel
theorem dX1_halt_68 : decode cX1_halt 68 = .ok (.iload_n 3, 1) := by decide +kernel
theorem dX1_halt_69 : decode cX1_halt 69 = .ok (.iload 4, 2) := by decide +kernel
theorem dX1_halt_71 : decode cX1_halt 71 = .ok (.invokevirtual 269, 3) := by decide +kernel
theorem dX1_halt_74 : decode cX1_halt 74 = .ok (.ifCond .eq 6, 3) := by decide +kernel
theorem dX1_halt_77 : decode cX1_halt 77 = .ok (.iload 5, 2) := by decide +kernel
theorem dX1_halt_79 : decode cX1_halt 79 = .ok (.ireturn, 1) := by decide +kernel
theorem dX1_halt_80 : decode cX1_halt 80 = .ok (.aload_n 0, 1) := by decide +kernel
theorem dX1_halt_81 : decode cX1_halt 81 = .ok (.getfield 65, 3) := by decide +kernel
theorem dX1_halt_84 : decode cX1_halt 84 = .ok (.iload_n 3, 1) := by decide +kernel
theorem dX1_halt_85 : decode cX1_halt 85 = .ok (.iconst 1, 1) := by decide +kernel
theorem dX1_halt_86 : decode cX1_halt 86 = .ok (.iastore, 1) := by decide +kernel
theorem dX1_halt_87 : decode cX1_halt 87 = .ok (.iconst 0, 1) := by decide +kernel
theorem dX1_halt_88 : decode cX1_halt 88 = .ok (.istore 6, 2) := by decide +kernel
theorem dX1_halt_90 : decode cX1_halt 90 = .ok (.iload 6, 2) := by decide +kernel
theorem dX1_halt_92 : decode cX1_halt 92 = .ok (.aload_n 0, 1) := by decide +kernel
theorem dX1_halt_93 : decode cX1_halt 93 = .ok (.getfield 9, 3) := by decide +kernel
theorem dX1_halt_96 : decode cX1_halt 96 = .ok (.getfield 129, 3) := by decide +kernel
theorem dX1_halt_99 : decode cX1_halt 99 = .ok (.getfield 133, 3) := by decide +kernel
theorem dX1_halt_102 : decode cX1_halt 102 = .ok (.if_icmp .ge 36, 3) := by decide +kernel
theorem dX1_halt_105 : decode cX1_halt 105 = .ok (.aload_n 0, 1) := by decide +kernel
theorem dX1_halt_106 : decode cX1_halt 106 = .ok (.getfield 54, 3) := by decide +kernel
theorem dX1_halt_109 : decode cX1_halt 109 = .ok (.iload 6, 2) := by decide +kernel
theorem dX1_halt_111 : decode cX1_halt 111 = .ok (.iaload, 1) := by decide +kernel
theorem dX1_halt_112 : decode cX1_halt 112 = .ok (.iload_n 3, 1) := by decide +kernel
theorem dX1_halt_113 : decode cX1_halt 113 = .ok (.if_icmp .ne 19, 3) := by decide +kernel
theorem dX1_halt_116 : decode cX1_halt 116 = .ok (.aload_n 0, 1) := by decide +kernel
theorem dX1_halt_117 : decode cX1_halt 117 = .ok (.getfield 54, 3) := by decide +kernel
theorem dX1_halt_120 : decode cX1_halt 120 = .ok (.iload 6, 2) := by decide +kernel
theorem dX1_halt_122 : decode cX1_halt 122 = .ok (.iconst (-1), 1) := by decide +kernel
theorem dX1_halt_123 : decode cX1_halt 123 = .ok (.iastore, 1) := by decide +kernel
theorem dX1_halt_124 : decode cX1_halt 124 = .ok (.aload_n 0, 1) := by decide +kernel
theorem dX1_halt_125 : decode cX1_halt 125 = .ok (.getfield 51, 3) := by decide +kernel
theorem dX1_halt_128 : decode cX1_halt 128 = .ok (.iload 6, 2) := by decide +kernel
theorem dX1_halt_130 : decode cX1_halt 130 = .ok (.iload_n 1, 1) := by decide +kernel
theorem dX1_halt_131 : decode cX1_halt 131 = .ok (.iastore, 1) := by decide +kernel
theorem dX1_halt_132 : decode cX1_halt 132 = .ok (.iinc 6 1, 3) := by decide +kernel
theorem dX1_halt_135 : decode cX1_halt 135 = .ok (.goto (-45), 3) := by decide +kernel
theorem dX1_halt_138 : decode cX1_halt 138 = .ok (.iconst (-1), 1) := by decide +kernel
theorem dX1_halt_139 : decode cX1_halt 139 = .ok (.ireturn, 1) := by decide +kernel
theorem dX1_send_0 : decode cX1_send 0 = .ok (.aload_n 0, 1) := by decide +kernel
theorem dX1_send_1 : decode cX1_send 1 = .ok (.getfield 62, 3) := by decide +kernel
theorem dX1_send_4 : decode cX1_send 4 = .ok (.aload_n 0, 1) := by decide +kernel
theorem dX1_send_5 : decode cX1_send 5 = .ok (.getfield 9, 3) := by decide +kernel
theorem dX1_send_8 : decode cX1_send 8 = .ok (.getfield 157, 3) := by decide +kernel
theorem dX1_send_11 : decode cX1_send 11 = .ok (.getfield 176, 3) := by decide +kernel
theorem dX1_send_14 : decode cX1_send 14 = .ok (.iload_n 1, 1) := by decide +kernel
theorem dX1_send_15 : decode cX1_send 15 = .ok (.iaload, 1) := by decide +kernel
theorem dX1_send_16 : decode cX1_send 16 = .ok (.iaload, 1) := by decide +kernel
theorem dX1_send_17 : decode cX1_send 17 = .ok (.istore_n 3, 1) := by decide +kernel
theorem dX1_send_18 : decode cX1_send 18 = .ok (.aload_n 0, 1) := by decide +kernel
theorem dX1_send_19 : decode cX1_send 19 = .ok (.getfield 76, 3) := by decide +kernel
theorem dX1_send_22 : decode cX1_send 22 = .ok (.iload_n 1, 1) := by decide +kernel
theorem dX1_send_23 : decode cX1_send 23 = .ok (.bipush (-2), 2) := by decide +kernel
theorem dX1_send_25 : decode cX1_send 25 = .ok (.iastore, 1) := by decide +kernel
theorem dX1_send_26 : decode cX1_send 26 = .ok (.aload_n 0, 1) := by decide +kernel
theorem dX1_send_27 : decode cX1_send 27 = .ok (.getfield 9, 3) := by decide +kernel
theorem dX1_send_30 : decode cX1_send 30 = .ok (.aload_n 0, 1) := by decide +kernel
theorem dX1_send_31 : decode cX1_send 31 = .ok (.getfield 30, 3) := by decide +kernel
theorem dX1_send_34 : decode cX1_send 34 = .ok (.iload_n 1, 1) := by decide +kernel
theorem dX1_send_35 : decode cX1_send 35 = .ok (.iconst 5, 1) := by decide +kernel
theorem dX1_send_36 : decode cX1_send 36 = .ok (.iconst 0, 1) := by decide +kernel
theorem dX1_send_37 : decode cX1_send 37 = .ok (.iload_n 3, 1) := by decide +kernel
theorem dX1_send_38 : decode cX1_send 38 = .ok (.invokevirtual 230, 3) := by decide +kernel
theorem dX1_send_41 : decode cX1_send 41 = .ok (.istore 4, 2) := by decide +kernel
theorem dX1_send_43 : decode cX1_send 43 = .ok (.aload_n 0, 1) := by decide +kernel
theorem dX1_send_44 : decode cX1_send 44 = .ok (.iload_n 1, 1) := by decide +kernel
theorem dX1_send_45 : decode cX1_send 45 = .ok (.invokevirtual 234, 3) := by decide +kernel
theorem dX1_send_48 : decode cX1_send 48 = .ok (.ifCond .eq 30, 3) := by decide +kernel
theorem dX1_send_51 : decode cX1_send 51 = .ok (.iload 4, 2) := by decide +kernel
theorem dX1_send_53 : decode cX1_send 53 = .ok (.aload_n 0, 1) := by decide +kernel
theorem dX1_send_54 : decode cX1_send 54 = .ok (.getfield 93, 3) := by decide +kernel
theorem dX1_send_57 : decode cX1_send 57 = .ok (.if_icmp .gt 21, 3) := by decide +kernel
theorem dX1_send_60 : decode cX1_send 60 = .ok (.aload_n 0, 1) := by decide +kernel
theorem dX1_send_61 : decode cX1_send 61 = .ok (.getfield 9, 3) := by decide +kernel
theorem dX1_send_64 : decode cX1_send 64 = .ok (.aload_n 0, 1) := by decide +kernel
theorem dX1_send_65 : decode cX1_send 65 = .ok (.getfield 30, 3) := by decide +kernel
theorem dX1_send_68 : decode cX1_send 68 = .ok (.iload_n 1, 1) := by decide +kernel
theorem dX1_send_69 : decode cX1_send 69 = .ok (.iconst 0, 1) := by decide +kernel
theorem dX1_send_70 : decode cX1_send 70 = .ok (.iconst 0, 1) := by decide +kernel
theorem dX1_send_71 : decode cX1_send 71 = .ok (.iload_n 3, 1) := by decide +kernel
theorem dX1_send_72 : decode cX1_send 72 = .ok (.invokevirtual 230, 3) := by decide +kernel
theorem dX1_send_75 : decode cX1_send 75 = .ok (.ifCond .ne 4, 3) := by decide +kernel
theorem dX1_send_78 : decode cX1_send 78 = .ok (.return_, 1) := by decide +kernel
theorem dX1_send_79 : decode cX1_send 79 = .ok (.aload_n 0, 1) := by decide +kernel
theorem dX1_send_80 : decode cX1_send 80 = .ok (.dup, 1) := by decide +kernel
theorem dX1_send_81 : decode cX1_send 81 = .ok (.getfield 93, 3) := by decide +kernel
theorem dX1_send_84 : decode cX1_send 84 = .ok (.iload 4, 2) := by decide +kernel
theorem dX1_send_86 : decode cX1_send 86 = .ok (.isub, 1) := by decide +kernel
theorem dX1_send_87 : decode cX1_send 87 = .ok (.putfield 93, 3) := by decide +kernel
theorem dX1_send_90 : decode cX1_send 90 = .ok (.aload_n 0, 1) := by decide +kernel
theorem dX1_send_91 : decode cX1_send 91 = .ok (.iload_n 1, 1) := by decide +kernel
theorem dX1_send_92 : decode cX1_send 92 = .ok (.aload_n 0, 1) := by decide +kernel
theorem dX1_send_93 : decode cX1_send 93 = .ok (.getfield 9, 3) := by decide +kernel
theorem dX1_send_96 : decode cX1_send 96 = .ok (.aload_n 0, 1) := by decide +kernel
theorem dX1_send_97 : decode cX1_send 97 = .ok (.getfield 30, 3) := by decide +kernel
theorem dX1_send_100 : decode cX1_send 100 = .ok (.iload_n 1, 1) := by decide +kernel
theorem dX1_send_101 : decode cX1_send 101 = .ok (.iconst 2, 1) := by decide +kernel
theorem dX1_send_102 : decode cX1_send 102 = .ok (.iconst 0, 1) := by decide +kernel
theorem dX1_send_103 : decode cX1_send 103 = .ok (.iload_n 3, 1) := by decide +kernel
theorem dX1_send_104 : decode cX1_send 104 = .ok (.invokevirtual 230, 3) := by decide +kernel
theorem dX1_send_107 : decode cX1_send 107 = .ok (.invokevirtual 237, 3) := by decide +kernel
theorem dX1_send_110 : decode cX1_send 110 = .ok (.istore 5, 2) := by decide +kernel
theorem dX1_send_112 : decode cX1_send 112 = .ok (.iconst 0, 1) := by decide +kernel
theorem dX1_send_113 : decode cX1_send 113 = .ok (.istore 6, 2) := by decide +kernel
theorem dX1_send_115 : decode cX1_send 115 = .ok (.aload_n 0, 1) := by decide +kernel
theorem dX1_send_116 : decode cX1_send 116 = .ok (.getfield 9, 3) := by decide +kernel
theorem dX1_send_119 : decode cX1_send 119 = .ok (.aload_n 0, 1) := by decide +kernel
theorem dX1_send_120 : decode cX1_send 120 = .ok (.getfield 30, 3) := by decide +kernel
theorem dX1_send_123 : decode cX1_send 123 = .ok (.iload_n 1, 1) := by decide +kernel
theorem dX1_send_124 : decode cX1_send 124 = .ok (.iconst 1, 1) := by decide +kernel
theorem dX1_send_125 : decode cX1_send 125 = .ok (.iload 5, 2) := by decide +kernel
theorem dX1_send_127 : decode cX1_send 127 = .ok (.iload_n 3, 1) := by decide +kernel
theorem dX1_send_128 : decode cX1_send 128 = .ok (.invokevirtual 230, 3) := by decide +kernel
theorem dX1_send_131 : decode cX1_send 131 = .ok (.ifCond .eq 12, 3) := by decide +kernel
theorem dX1_send_134 : decode cX1_send 134 = .ok (.aload_n 0, 1) := by decide +kernel
theorem dX1_send_135 : decode cX1_send 135 = .ok (.iload_n 1, 1) := by decide +kernel
theorem dX1_send_136 : decode cX1_send 136 = .ok (.iload 5, 2) := by decide +kernel
theorem dX1_send_138 : decode cX1_send 138 = .ok (.invokevirtual 240, 3) := by decide +kernel
theorem dX1_send_141 : decode cX1_send 141 = .ok (.istore 6, 2) := by decide +kernel
theorem dX1_send_143 : decode cX1_send 143 = .ok (.iload 6, 2) := by decide +kernel
theorem dX1_send_145 : decode cX1_send 145 = .ok (.iconst (-1), 1) := by decide +kernel
theorem dX1_send_146 : decode cX1_send 146 = .ok (.if_icmp .eq 20, 3) := by decide +kernel
theorem dX1_send_149 : decode cX1_send 149 = .ok (.aload_n 0, 1) := by decide +kernel
theorem dX1_send_150 : decode cX1_send 150 = .ok (.getfield 76, 3) := by decide +kernel
theorem dX1_send_153 : decode cX1_send 153 = .ok (.iload_n 1, 1) := by decide +kernel
theorem dX1_send_154 : decode cX1_send 154 = .ok (.iload 5, 2) := by decide +kernel
theorem dX1_send_156 : decode cX1_send 156 = .ok (.iastore, 1) := by decide +kernel
theorem dX1_send_157 : decode cX1_send 157 = .ok (.aload_n 0, 1) := by decide +kernel
theorem dX1_send_158 : decode cX1_send 158 = .ok (.iload_n 1, 1) := by decide +kernel
theorem dX1_send_159 : decode cX1_send 159 = .ok (.iload_n 2, 1) := by decide +kernel
theorem dX1_send_160 : decode cX1_send 160 = .ok (.iload 6, 2) := by decide +kernel
theorem dX1_send_162 : decode cX1_send 162 = .ok (.iadd, 1) := by decide +kernel
theorem dX1_send_163 : decode cX1_send 163 = .ok (.invokevirtual 243, 3) := by decide +kernel
theorem dX1_send_166 : decode cX1_send 166 = .ok (.return_, 1) := by decide +kernel
theorem dX1_sendTrips_0 : decode cX1_sendTrips 0 = .ok (.iconst 0, 1) := by decide +kernel
theorem dX1_sendTrips_1 : decode cX1_sendTrips 1 = .ok (.istore_n 2, 1) := by decide +kernel
theorem dX1_sendTrips_2 : decode cX1_sendTrips 2 = .ok (.iload_n 2, 1) := by decide +kernel
theorem dX1_sendTrips_3 : decode cX1_sendTrips 3 = .ok (.aload_n 0, 1) := by decide +kernel
theorem dX1_sendTrips_4 : decode cX1_sendTrips 4 = .ok (.getfield 9, 3) := by decide +kernel
theorem dX1_sendTrips_7 : decode cX1_sendTrips 7 = .ok (.getfield 157, 3) := by decide +kernel
theorem dX1_sendTrips_10 : decode cX1_sendTrips 10 = .ok (.getfield 161, 3) := by decide +kernel
theorem dX1_sendTrips_13 : decode cX1_sendTrips 13 = .ok (.if_icmp .ge 39, 3) := by decide +kernel
theorem dX1_sendTrips_16 : decode cX1_sendTrips 16 = .ok (.aload_n 0, 1) := by decide +kernel
theorem dX1_sendTrips_17 : decode cX1_sendTrips 17 = .ok (.getfield 9, 3) := by decide +kernel
theorem dX1_sendTrips_20 : decode cX1_sendTrips 20 = .ok (.getfield 157, 3) := by decide +kernel
theorem dX1_sendTrips_23 : decode cX1_sendTrips 23 = .ok (.getfield 166, 3) := by decide +kernel
theorem dX1_sendTrips_26 : decode cX1_sendTrips 26 = .ok (.iload_n 2, 1) := by decide +kernel
theorem dX1_sendTrips_27 : decode cX1_sendTrips 27 = .ok (.iaload, 1) := by decide +kernel
theorem dX1_sendTrips_28 : decode cX1_sendTrips 28 = .ok (.iload_n 1, 1) := by decide +kernel
theorem dX1_sendTrips_29 : decode cX1_sendTrips 29 = .ok (.if_icmp .ne 17, 3) := by decide +kernel
theorem dX1_sendTrips_32 : decode cX1_sendTrips 32 = .ok (.aload_n 0, 1) := by decide +kernel
theorem dX1_sendTrips_33 : decode cX1_sendTrips 33 = .ok (.iload_n 2, 1) := by decide +kernel
theorem dX1_sendTrips_34 : decode cX1_sendTrips 34 = .ok (.invokevirtual 162, 3) := by decide +kernel
theorem dX1_sendTrips_37 : decode cX1_sendTrips 37 = .ok (.ifCond .eq 9, 3) := by decide +kernel
theorem dX1_sendTrips_40 : decode cX1_sendTrips 40 = .ok (.aload_n 0, 1) := by decide +kernel
theorem dX1_sendTrips_41 : decode cX1_sendTrips 41 = .ok (.iload_n 2, 1) := by decide +kernel
theorem dX1_sendTrips_42 : decode cX1_sendTrips 42 = .ok (.iload_n 1, 1) := by decide +kernel
theorem dX1_sendTrips_43 : decode cX1_sendTrips 43 = .ok (.invokevirtual 225, 3) := by decide +kernel
theorem dX1_sendTrips_46 : decode cX1_sendTrips 46 = .ok (.iinc 2 1, 3) := by decide +kernel
theorem dX1_sendTrips_49 : decode cX1_sendTrips 49 = .ok (.goto (-47), 3) := by decide +kernel
theorem dX1_sendTrips_52 : decode cX1_sendTrips 52 = .ok (.return_, 1) := by decide +kernel
theorem dX1_settle_0 : decode cX1_settle 0 = .ok (.aload_n 0, 1) := by decide +kernel
theorem dX1_settle_1 : decode cX1_settle 1 = .ok (.getfield 9, 3) := by decide +kernel
theorem dX1_settle_4 : decode cX1_settle 4 = .ok (.aload_n 0, 1) := by decide +kernel
theorem dX1_settle_5 : decode cX1_settle 5 = .ok (.getfield 93, 3) := by decide +kernel
theorem dX1_settle_8 : decode cX1_settle 8 = .ok (.putfield 90, 3) := by decide +kernel
theorem dX1_settle_11 : decode cX1_settle 11 = .ok (.aload_n 0, 1) := by decide +kernel
theorem dX1_settle_12 : decode cX1_settle 12 = .ok (.getfield 30, 3) := by decide +kernel
theorem dX1_settle_15 : decode cX1_settle 15 = .ok (.bipush 6, 2) := by decide +kernel
theorem dX1_settle_17 : decode cX1_settle 17 = .ok (.aload_n 0, 1) := by decide +kernel
theorem dX1_settle_18 : decode cX1_settle 18 = .ok (.getfield 9, 3) := by decide +kernel
theorem dX1_settle_21 : decode cX1_settle 21 = .ok (.getfield 281, 3) := by decide +kernel
theorem dX1_settle_24 : decode cX1_settle 24 = .ok (.invokevirtual 284, 3) := by decide +kernel
theorem dX1_settle_27 : decode cX1_settle 27 = .ok (.istore_n 1, 1) := by decide +kernel
theorem dX1_settle_28 : decode cX1_settle 28 = .ok (.iload_n 1, 1) := by decide +kernel
theorem dX1_settle_29 : decode cX1_settle 29 = .ok (.iconst (-1), 1) := by decide +kernel
theorem dX1_settle_30 : decode cX1_settle 30 = .ok (.if_icmp .ne 7, 3) := by decide +kernel
theorem dX1_settle_33 : decode cX1_settle 33 = .ok (.iconst 0, 1) := by decide +kernel
theorem dX1_settle_34 : decode cX1_settle 34 = .ok (.goto 12, 3) := by decide +kernel
theorem dX1_settle_37 : decode cX1_settle 37 = .ok (.aload_n 0, 1) := by decide +kernel
theorem dX1_settle_38 : decode cX1_settle 38 = .ok (.getfield 30, 3) := by decide +kernel
theorem dX1_settle_41 : decode cX1_settle 41 = .ok (.getfield 288, 3) := by decide +kernel
theorem dX1_settle_44 : decode cX1_settle 44 = .ok (.iload_n 1, 1) := by decide +kernel
theorem dX1_settle_45 : decode cX1_settle 45 = .ok (.iaload, 1) := by decide +kernel
theorem dX1_settle_46 : decode cX1_settle 46 = .ok (.istore_n 2, 1) := by decide +kernel
theorem dX1_settle_47 : decode cX1_settle 47 = .ok (.iconst 0, 1) := by decide +kernel
theorem dX1_settle_48 : decode cX1_settle 48 = .ok (.istore_n 3, 1) := by decide +kernel
theorem dX1_settle_49 : decode cX1_settle 49 = .ok (.iload_n 3, 1) := by decide +kernel
theorem dX1_settle_50 : decode cX1_settle 50 = .ok (.aload_n 0, 1) := by decide +kernel
theorem dX1_settle_51 : decode cX1_settle 51 = .ok (.getfield 9, 3) := by decide +kernel
theorem dX1_settle_54 : decode cX1_settle 54 = .ok (.getfield 129, 3) := by decide +kernel
theorem dX1_settle_57 : decode cX1_settle 57 = .ok (.getfield 133, 3) := by decide +kernel
theorem dX1_settle_60 : decode cX1_settle 60 = .ok (.if_icmp .ge 15, 3) := by decide +kernel
theorem dX1_settle_63 : decode cX1_settle 63 = .ok (.aload_n 0, 1) := by decide +kernel
theorem dX1_settle_64 : decode cX1_settle 64 = .ok (.iload_n 3, 1) := by decide +kernel
theorem dX1_settle_65 : decode cX1_settle 65 = .ok (.iload_n 2, 1) := by decide +kernel
theorem dX1_settle_66 : decode cX1_settle 66 = .ok (.invokevirtual 291, 3) := by decide +kernel
theorem dX1_settle_69 : decode cX1_settle 69 = .ok (.iinc 3 1, 3) := by decide +kernel
theorem dX1_settle_72 : decode cX1_settle 72 = .ok (.goto (-23), 3) := by decide +kernel
theorem dX1_settle_75 : decode cX1_settle 75 = .ok (.iconst 0, 1) := by decide +kernel
theorem dX1_settle_76 : decode cX1_settle 76 = .ok (.istore_n 3, 1) := by decide +kernel
theorem dX1_settle_77 : decode cX1_settle 77 = .ok (.iload_n 3, 1) := by decide +kernel
theorem dX1_settle_78 : decode cX1_settle 78 = .ok (.aload_n 0, 1) := by decide +kernel
theorem dX1_settle_79 : decode cX1_settle 79 = .ok (.getfield 9, 3) := by decide +kernel
theorem dX1_settle_82 : decode cX1_settle 82 = .ok (.getfield 148, 3) := by decide +kernel
theorem dX1_settle_85 : decode cX1_settle 85 = .ok (.getfield 152, 3) := by decide +kernel
theorem dX1_settle_88 : decode cX1_settle 88 = .ok (.if_icmp .ge 81, 3) := by decide +kernel
theorem dX1_settle_91 : decode cX1_settle 91 = .ok (.aload_n 0, 1) := by decide +kernel
theorem dX1_settle_92 : decode cX1_settle 92 = .ok (.getfield 9, 3) := by decide +kernel
theorem dX1_settle_95 : decode cX1_settle 95 = .ok (.getfield 148, 3) := by decide +kernel
theorem dX1_settle_98 : decode cX1_settle 98 = .ok (.getfield 153, 3) := by decide +kernel
theorem dX1_settle_101 : decode cX1_settle 101 = .ok (.iload_n 3, 1) := by decide +kernel
theorem dX1_settle_102 : decode cX1_settle 102 = .ok (.aload_n 0, 1) := by decide +kernel
theorem dX1_settle_103 : decode cX1_settle 103 = .ok (.getfield 59, 3) := by decide +kernel
theorem dX1_settle_106 : decode cX1_settle 106 = .ok (.iload_n 3, 1) := by decide +kernel
theorem dX1_settle_107 : decode cX1_settle 107 = .ok (.iaload, 1) := by decide +kernel
theorem dX1_settle_108 : decode cX1_settle 108 = .ok (.iastore, 1) := by decide +kernel
theorem dX1_settle_109 : decode cX1_settle 109 = .ok (.aload_n 0, 1) := by decide +kernel
theorem dX1_settle_110 : decode cX1_settle 110 = .ok (.getfield 9, 3) := by decide +kernel
theorem dX1_settle_113 : decode cX1_settle 113 = .ok (.getfield 148, 3) := by decide +kernel
theorem dX1_settle_116 : decode cX1_settle 116 = .ok (.getfield 294, 3) := by decide +kernel
theorem dX1_settle_119 : decode cX1_settle 119 = .ok (.iload_n 3, 1) := by decide +kernel
theorem dX1_settle_120 : decode cX1_settle 120 = .ok (.aload_n 0, 1) := by decide +kernel
theorem dX1_settle_121 : decode cX1_settle 121 = .ok (.getfield 62, 3) := by decide +kernel
theorem dX1_settle_124 : decode cX1_settle 124 = .ok (.iload_n 3, 1) := by decide +kernel
theorem dX1_settle_125 : decode cX1_settle 125 = .ok (.iaload, 1) := by decide +kernel
theorem dX1_settle_126 : decode cX1_settle 126 = .ok (.iastore, 1) := by decide +kernel
theorem dX1_settle_127 : decode cX1_settle 127 = .ok (.aload_n 0, 1) := by decide +kernel
theorem dX1_settle_128 : decode cX1_settle 128 = .ok (.getfield 9, 3) := by decide +kernel
theorem dX1_settle_131 : decode cX1_settle 131 = .ok (.getfield 148, 3) := by decide +kernel
theorem dX1_settle_134 : decode cX1_settle 134 = .ok (.getfield 295, 3) := by decide +kernel
theorem dX1_settle_137 : decode cX1_settle 137 = .ok (.iload_n 3, 1) := by decide +kernel
theorem dX1_settle_138 : decode cX1_settle 138 = .ok (.aload_n 0, 1) := by decide +kernel
theorem dX1_settle_139 : decode cX1_settle 139 = .ok (.getfield 65, 3) := by decide +kernel
theorem dX1_settle_142 : decode cX1_settle 142 = .ok (.iload_n 3, 1) := by decide +kernel
theorem dX1_settle_143 : decode cX1_settle 143 = .ok (.iaload, 1) := by decide +kernel
theorem dX1_settle_144 : decode cX1_settle 144 = .ok (.iastore, 1) := by decide +kernel
theorem dX1_settle_145 : decode cX1_settle 145 = .ok (.aload_n 0, 1) := by decide +kernel
theorem dX1_settle_146 : decode cX1_settle 146 = .ok (.getfield 9, 3) := by decide +kernel
theorem dX1_settle_149 : decode cX1_settle 149 = .ok (.getfield 148, 3) := by decide +kernel
theorem dX1_settle_152 : decode cX1_settle 152 = .ok (.getfield 296, 3) := by decide +kernel
theorem dX1_settle_155 : decode cX1_settle 155 = .ok (.iload_n 3, 1) := by decide +kernel
theorem dX1_settle_156 : decode cX1_settle 156 = .ok (.aload_n 0, 1) := by decide +kernel
theorem dX1_settle_157 : decode cX1_settle 157 = .ok (.getfield 68, 3) := by decide +kernel
theorem dX1_settle_160 : decode cX1_settle 160 = .ok (.iload_n 3, 1) := by decide +kernel
theorem dX1_settle_161 : decode cX1_settle 161 = .ok (.iaload, 1) := by decide +kernel
theorem dX1_settle_162 : decode cX1_settle 162 = .ok (.iastore, 1) := by decide +kernel
theorem dX1_settle_163 : decode cX1_settle 163 = .ok (.iinc 3 1, 3) := by decide +kernel
theorem dX1_settle_166 : decode cX1_settle 166 = .ok (.goto (-89), 3) := by decide +kernel
theorem dX1_settle_169 : decode cX1_settle 169 = .ok (.iconst 0, 1) := by decide +kernel
theorem dX1_settle_170 : decode cX1_settle 170 = .ok (.istore_n 3, 1) := by decide +kernel
theorem dX1_settle_171 : decode cX1_settle 171 = .ok (.iload_n 3, 1) := by decide +kernel
theorem dX1_settle_172 : decode cX1_settle 172 = .ok (.aload_n 0, 1) := by decide +kernel
theorem dX1_settle_173 : decode cX1_settle 173 = .ok (.getfield 9, 3) := by decide +kernel
theorem dX1_settle_176 : decode cX1_settle 176 = .ok (.getfield 157, 3) := by decide +kernel
theorem dX1_settle_179 : decode cX1_settle 179 = .ok (.getfield 161, 3) := by decide +kernel
theorem dX1_settle_182 : decode cX1_settle 182 = .ok (.if_icmp .ge 27, 3) := by decide +kernel
theorem dX1_settle_185 : decode cX1_settle 185 = .ok (.aload_n 0, 1) := by decide +kernel
theorem dX1_settle_186 : decode cX1_settle 186 = .ok (.getfield 9, 3) := by decide +kernel
theorem dX1_settle_189 : decode cX1_settle 189 = .ok (.getfield 157, 3) := by decide +kernel
theorem dX1_settle_192 : decode cX1_settle 192 = .ok (.getfield 297, 3) := by decide +kernel
theorem dX1_settle_195 : decode cX1_settle 195 = .ok (.iload_n 3, 1) := by decide +kernel
theorem dX1_settle_196 : decode cX1_settle 196 = .ok (.aload_n 0, 1) := by decide +kernel
theorem dX1_settle_197 : decode cX1_settle 197 = .ok (.getfield 76, 3) := by decide +kernel
theorem dX1_settle_200 : decode cX1_settle 200 = .ok (.iload_n 3, 1) := by decide +kernel
theorem dX1_settle_201 : decode cX1_settle 201 = .ok (.iaload, 1) := by decide +kernel
theorem dX1_settle_202 : decode cX1_settle 202 = .ok (.iastore, 1) := by decide +kernel
theorem dX1_settle_203 : decode cX1_settle 203 = .ok (.iinc 3 1, 3) := by decide +kernel
theorem dX1_settle_206 : decode cX1_settle 206 = .ok (.goto (-35), 3) := by decide +kernel
theorem dX1_settle_209 : decode cX1_settle 209 = .ok (.return_, 1) := by decide +kernel
theorem dX7_ask_0 : decode cX7_ask 0 = .ok (.aload_n 0, 1) := by decide +kernel
theorem dX7_ask_1 : decode cX7_ask 1 = .ok (.getfield 28, 3) := by decide +kernel
theorem dX7_ask_4 : decode cX7_ask 4 = .ok (.getfield 83, 3) := by decide +kernel
theorem dX7_ask_7 : decode cX7_ask 7 = .ok (.aload_n 0, 1) := by decide +kernel
theorem dX7_ask_8 : decode cX7_ask 8 = .ok (.getfield 35, 3) := by decide +kernel
theorem dX7_ask_11 : decode cX7_ask 11 = .ok (.getfield 86, 3) := by decide +kernel
theorem dX7_ask_14 : decode cX7_ask 14 = .ok (.iload_n 2, 1) := by decide +kernel
theorem dX7_ask_15 : decode cX7_ask 15 = .ok (.iaload, 1) := by decide +kernel
theorem dX7_ask_16 : decode cX7_ask 16 = .ok (.iaload, 1) := by decide +kernel
theorem dX7_ask_17 : decode cX7_ask 17 = .ok (.iconst 2, 1) := by decide +kernel
theorem dX7_ask_18 : decode cX7_ask 18 = .ok (.if_icmp .ne 7, 3) := by decide +kernel
theorem dX7_ask_21 : decode cX7_ask 21 = .ok (.iconst 1, 1) := by decide +kernel
theorem dX7_ask_22 : decode cX7_ask 22 = .ok (.goto 4, 3) := by decide +kernel
theorem dX7_ask_25 : decode cX7_ask 25 = .ok (.iconst 0, 1) := by decide +kernel
theorem dX7_ask_26 : decode cX7_ask 26 = .ok (.istore 6, 2) := by decide +kernel
theorem dX7_ask_28 : decode cX7_ask 28 = .ok (.aload_n 0, 1) := by decide +kernel
theorem dX7_ask_29 : decode cX7_ask 29 = .ok (.iload_n 2, 1) := by decide +kernel
theorem dX7_ask_30 : decode cX7_ask 30 = .ok (.iload_n 3, 1) := by decide +kernel
theorem dX7_ask_31 : decode cX7_ask 31 = .ok (.invokestatic 126, 3) := by decide +kernel
theorem dX7_ask_34 : decode cX7_ask 34 = .ok (.ifCond .eq 7, 3) := by decide +kernel
theorem dX7_ask_37 : decode cX7_ask 37 = .ok (.iconst 0, 1) := by decide +kernel
theorem dX7_ask_38 : decode cX7_ask 38 = .ok (.goto 5, 3) := by decide +kernel
theorem dX7_ask_41 : decode cX7_ask 41 = .ok (.iload 4, 2) := by decide +kernel
theorem dX7_ask_43 : decode cX7_ask 43 = .ok (.iload 5, 2) := by decide +kernel
theorem dX7_ask_45 : decode cX7_ask 45 = .ok (.invokevirtual 130, 3) := by decide +kernel
theorem dX7_ask_48 : decode cX7_ask 48 = .ok (.aload_n 0, 1) := by decide +kernel
theorem dX7_ask_49 : decode cX7_ask 49 = .ok (.iload_n 3, 1) := by decide +kernel
theorem dX7_ask_50 : decode cX7_ask 50 = .ok (.iconst 5, 1) := by decide +kernel
theorem dX7_ask_51 : decode cX7_ask 51 = .ok (.if_icmp .ne 12, 3) := by decide +kernel
theorem dX7_ask_54 : decode cX7_ask 54 = .ok (.iload 6, 2) := by decide +kernel
theorem dX7_ask_56 : decode cX7_ask 56 = .ok (.ifCond .eq 7, 3) := by decide +kernel
theorem dX7_ask_59 : decode cX7_ask 59 = .ok (.iconst (-1), 1) := by decide +kernel
theorem dX7_ask_60 : decode cX7_ask 60 = .ok (.goto 12, 3) := by decide +kernel
theorem dX7_ask_63 : decode cX7_ask 63 = .ok (.aload_n 1, 1) := by decide +kernel
theorem dX7_ask_64 : decode cX7_ask 64 = .ok (.iload_n 3, 1) := by decide +kernel
theorem dX7_ask_65 : decode cX7_ask 65 = .ok (.aload_n 0, 1) := by decide +kernel
theorem dX7_ask_66 : decode cX7_ask 66 = .ok (.getfield 62, 3) := by decide +kernel
theorem dX7_ask_69 : decode cX7_ask 69 = .ok (.invokevirtual 133, 3) := by decide +kernel
theorem dX7_ask_72 : decode cX7_ask 72 = .ok (.putfield 137, 3) := by decide +kernel
theorem dX7_ask_75 : decode cX7_ask 75 = .ok (.aload_n 0, 1) := by decide +kernel
theorem dX7_ask_76 : decode cX7_ask 76 = .ok (.getfield 137, 3) := by decide +kernel
theorem dX7_ask_79 : decode cX7_ask 79 = .ok (.iconst (-1), 1) := by decide +kernel
theorem dX7_ask_80 : decode cX7_ask 80 = .ok (.if_icmp .ne 12, 3) := by decide +kernel
theorem dX7_ask_83 : decode cX7_ask 83 = .ok (.iload 6, 2) := by decide +kernel
theorem dX7_ask_85 : decode cX7_ask 85 = .ok (.iload_n 3, 1) := by decide +kernel
theorem dX7_ask_86 : decode cX7_ask 86 = .ok (.invokestatic 140, 3) := by decide +kernel
theorem dX7_ask_89 : decode cX7_ask 89 = .ok (.goto 12, 3) := by decide +kernel
theorem dX7_ask_92 : decode cX7_ask 92 = .ok (.aload_n 1, 1) := by decide +kernel
theorem dX7_ask_93 : decode cX7_ask 93 = .ok (.getfield 144, 3) := by decide +kernel
theorem dX7_ask_96 : decode cX7_ask 96 = .ok (.aload_n 0, 1) := by decide +kernel
theorem dX7_ask_97 : decode cX7_ask 97 = .ok (.getfield 137, 3) := by decide +kernel
theorem dX7_ask_100 : decode cX7_ask 100 = .ok (.iaload, 1) := by decide +kernel
theorem dX7_ask_101 : decode cX7_ask 101 = .ok (.ireturn, 1) := by decide +kernel
theorem dX7_isAskedEmpty_0 : decode cX7_isAskedEmpty 0 = .ok (.iload_n 0, 1) := by decide +kernel
theorem dX7_isAskedEmpty_1 : decode cX7_isAskedEmpty 1 = .ok (.ifCond .eq 13, 3) := by decide +kernel
theorem dX7_isAskedEmpty_4 : decode cX7_isAskedEmpty 4 = .ok (.iload_n 0, 1) := by decide +kernel
theorem dX7_isAskedEmpty_5 : decode cX7_isAskedEmpty 5 = .ok (.iconst 2, 1) := by decide +kernel
theorem dX7_isAskedEmpty_6 : decode cX7_isAskedEmpty 6 = .ok (.if_icmp .eq 8, 3) := by decide +kernel
theorem dX7_isAskedEmpty_9 : decode cX7_isAskedEmpty 9 = .ok (.iload_n 0, 1) := by decide +kernel
theorem dX7_isAskedEmpty_10 : decode cX7_isAskedEmpty 10 = .ok (.iconst 5, 1) := by decide +kernel
theorem dX7_isAskedEmpty_11 : decode cX7_isAskedEmpty 11 = .ok (.if_icmp .ne 7, 3) := by decide +kernel
theorem dX7_isAskedEmpty_14 : decode cX7_isAskedEmpty 14 = .ok (.iconst 1, 1) := by decide +kernel
theorem dX7_isAskedEmpty_15 : decode cX7_isAskedEmpty 15 = .ok (.goto 4, 3) := by decide +kernel
theorem dX7_isAskedEmpty_18 : decode cX7_isAskedEmpty 18 = .ok (.iconst 0, 1) := by decide +kernel
theorem dX7_isAskedEmpty_19 : decode cX7_isAskedEmpty 19 = .ok (.ireturn, 1) := by decide +kernel
set_option maxHeartbeats 4000000 in
set_option maxRecDepth 100000 in
theorem x_holds (l : Launch) (dC : Nat → ClassId) (dI : Nat → Nat → Nat) (sz : Nat) (ob ad : Nat → Nat) (cA : Nat → ClassId) (hd : dX ob ad) (fv : Nat → Int32) (wd : xT) (ar : Nat → Nat → Int32) (hF_fv : rX fv) (hA_ar : rB ar) (la : Nat) (lfr : Int32) (lra : Nat → Nat) (lrc : Nat → ClassId) (lln lcn : Nat) (llr : Nat → Nat → Int32) (hlq : lwQ lln lcn llr) (ln : Int32) (h_ln : 0 ≤ ln.toInt ∧ ln.toInt ≤ 15) (hln : ln.toInt < lln) : Met l yX0_holds (.code yX0_holds cX0_holds 7 (some .boolean) :: lw_good) ({ frames := 2, cells := 0, slots := 0, locals := 40 }) (va_Pc [.ref la, .int ln, .ref (ad 4)] (fun U => prX dC dI ob ad cA fv wd ar sz U ∧ lwA dC dI ob ad la lfr lra lrc lln lcn llr sz U)) (va_Qi (fun (r : Int32) (u : xS) => rX u.1 ∧ rB u.2.2 ∧ fM [] fv u.1 ∧ fA [] ar u.2.2 ∧ u.2.1.2 = wd.2 ∧ (0 ≤ r.toInt ∧ r.toInt ≤ 1) ∧ True) (enX dC dI ob ad cA) (aX ob ad sz)) 0 0 (aX ob ad sz) := by
  refine Met.ofW (cc := cX0_holds) (maxL := 7) (ret := (some .boolean)) (by decide) rfl ?_
  intro p e s m args below meth c s₁ B hml hv
  obtain ⟨rfl, ⟨hsz, hP, hK⟩, hL⟩ := hv
  have hx := B.exec
  have hb := B.bytes
  have hr := B.returns
  have hts := atoms_spec (ws := (.code yX0_holds cX0_holds 7 (some .boolean) :: lw_good)) B.pre
  have htg : ∀ w ∈ lw_good, w.before _ s = true := fun w hw => hts w (List.mem_cons_of_mem _ hw)
  have hown : s.vm.findClass RX0 = some m.cls := findClass_of_methodNamed B.named
  have hlocks := B.notSynchronized
  subst hsz
  have hS : va_S (aX ob ad s.heap.size) s.heap s.heap [] := va_S.rf
  have hl := lv_entry ([.ref la, .int ln, .ref (ad 4)]) (n := 7) (Nat.le_of_ble_eq_true rfl)
  rw [lg_entry_eq]
  generalize (lg_sl ([.ref la, .int ln, .ref (ad 4)]) ++ List.replicate (7 - (lg_sl ([.ref la, .int ln, .ref (ad 4)])).length) Slot.unset).toArray = ls at hl ⊢
  have hl : lv_has ls 7 [(0, .ref la), (1, .int ln), (2, .ref (ad 4))] := hl
  refine lv_iload_n hx hb dX0_holds_0 rfl (lv_at hl 1 rfl) ?_
  refine my_cut (P := fun R9 a9 Q9 => ∀ (x_12 : Int32) (H : Heap) (locs : List Loc) (ls : Array Slot), (0 ≤ x_12.toInt ∧ x_12.toInt ≤ 100) → va_P (dC, dI) vwCl (wsX ob ad cA fv wd ar) H → va_S (aX ob ad s.heap.size) s.heap H locs → lv_has ls 7 [(0, .ref la), (1, .int ln), (2, .ref (ad 4))] → W p l e R9 s m a9 below meth c H locs 0 0 Q9 (F0 m 16 ls [.int x_12])) ?_ (fun hj_13 => ?_)
  · intro x_12 H locs ls i_x_12 hP hS hl
    refine lv_istore_n (lv' := [(3, .int x_12), (0, .ref la), (1, .int ln), (2, .ref (ad 4))]) hx hb dX0_holds_16 rfl hl (by decide) rfl (fun ls hl => ?_)
    refine lv_iconst (v := 1) hx hb dX0_holds_17 (by decide) ?_
    refine lv_istore (lv' := [(4, .int 1), (3, .int x_12), (0, .ref la), (1, .int ln), (2, .ref (ad 4))]) hx hb dX0_holds_18 hl (by decide) rfl (fun ls hl => ?_)
    refine lv_iload_n hx hb dX0_holds_20 rfl (lv_at hl 1 rfl) ?_
    refine lv_istore (lv' := [(5, .int x_12), (4, .int 1), (3, .int x_12), (0, .ref la), (1, .int ln), (2, .ref (ad 4))]) hx hb dX0_holds_21 hl (by decide) rfl (fun ls hl => ?_)
    refine my_cut (P := fun R9 a9 Q9 => ∀ (n_16 : Nat) (x_14 : Int32) (x_15 : Int32) (H : Heap) (locs : List Loc) (ls : Array Slot), 100 - x_15.toInt < (n_16 : Int) → (0 ≤ x_15.toInt ∧ x_15.toInt ≤ 100) → va_P (dC, dI) vwCl (wsX ob ad cA fv wd ar) H → va_S (aX ob ad s.heap.size) s.heap H locs → lv_has ls 7 [(0, .ref la), (1, .int ln), (2, .ref (ad 4)), (4, .int x_14), (5, .int x_15)] → W p l e R9 s m a9 below meth c H locs 0 0 Q9 (F0 m 23 ls [])) ?_ (fun hj_18 => ?_)
    · intro n_16
      induction n_16 with
      | zero => intro x_14 x_15 H locs ls fu_17 i_x_15; exfalso; omega
      | succ n_16 ih_16 =>
        intro x_14 x_15 H locs ls fu_17 i_x_15 hP hS hl
        refine lv_iload hx hb dX0_holds_23 (lv_at hl 4 rfl) ?_
        refine lv_aload_n hx hb dX0_holds_25 rfl (lv_at hl 0 rfl) ?_
        refine gL_X0_22 hx hb htg hown (lw_K hL) (lw_now hL hS) dX0_holds_26 ?_
        refine lv_iload_n hx hb dX0_holds_29 rfl (lv_at hl 1 rfl) ?_
        refine lL_3 hx hb (lw_K hL) (lw_now hL hS) (vp_in_iff.mpr (by omega)) dX0_holds_30 (fun v_19 ev_19 => ?_)
        have i_20 : 0 ≤ v_19.toInt ∧ v_19.toInt ≤ 100 := (by have h9 := (hlq.2.2 ln.toNatClampNeg).1; rw [← ev_19] at h9; have h8 := hlq.2.1; omega)
        have k_21 : v_19.toInt ≤ lcn := (by have h9 := (hlq.2.2 ln.toNatClampNeg).1; rw [← ev_19] at h9; exact h9.2)
        refine lv_icmp_ge (tgt := 237) hx hb dX0_holds_31 (by decide) (fun c_22 => ?_) (fun c_22 => ?_)
        · skip
          have k_23 := Int32.le_iff_toInt_le.mp c_22
          refine lv_iload hx hb dX0_holds_237 (lv_at hl 3 rfl) ?_
          refine lv_iconst (v := 1) hx hb dX0_holds_239 (by decide) ?_
          refine lv_iand hx hb dX0_holds_240 ?_
          refine lv_topi (fun v_109 ev_109 => ?_)
          have i_110 : 0 ≤ v_109.toInt ∧ v_109.toInt ≤ 1 := iv_1 ev_109
          refine lv_iconst (v := 1) hx hb dX0_holds_241 (by decide) ?_
          refine lv_icmp_ne (tgt := 249) hx hb dX0_holds_242 (by decide) (fun c_111 => ?_) (fun c_111 => ?_)
          · skip
            have i_112 : 0 ≤ v_109.toInt ∧ v_109.toInt ≤ 0 := iv_neh i_110 (by decide) c_111
            have k_113 : ¬ v_109.toInt = 1 := fun q => c_111 (Int32.toInt_inj.mp q)
            refine lv_iconst (v := 0) hx hb dX0_holds_249 (by decide) ?_
            exact W.zret (v := 0) hx hb hr (by decide) (fun t ht hW => ⟨⟨0, (fv, wd, ar), rfl, ⟨hF_fv, hA_ar, (fM_rf [] _), (fA_rf [] _), rfl, (iv_w (⟨by decide, by decide⟩ : (0 : Int) ≤ (0 : Int32).toInt ∧ (0 : Int32).toInt ≤ 0) (by decide) (by decide)), trivial⟩, ⟨by rw [ht]; exact hP, va_K.moved hW.alike hK⟩⟩, hS.F ht⟩) hS.2.2 dX0_holds_250
          · skip
            have i_114 : 1 ≤ v_109.toInt ∧ v_109.toInt ≤ 1 := iv_eq1 (⟨by decide, by decide⟩ : (1 : Int) ≤ (1 : Int32).toInt ∧ (1 : Int32).toInt ≤ 1) c_111
            refine lv_iconst (v := 1) hx hb dX0_holds_245 (by decide) ?_
            refine lv_goto (tgt := 250) hx hb dX0_holds_246 (by decide) ?_
            exact W.zret (v := 1) hx hb hr (by decide) (fun t ht hW => ⟨⟨1, (fv, wd, ar), rfl, ⟨hF_fv, hA_ar, (fM_rf [] _), (fA_rf [] _), rfl, (iv_w (⟨by decide, by decide⟩ : (1 : Int) ≤ (1 : Int32).toInt ∧ (1 : Int32).toInt ≤ 1) (by decide) (by decide)), trivial⟩, ⟨by rw [ht]; exact hP, va_K.moved hW.alike hK⟩⟩, hS.F ht⟩) hS.2.2 dX0_holds_250
        · skip
          have i_24 : 0 ≤ x_15.toInt ∧ x_15.toInt ≤ 99 := iv_lt1 i_x_15 i_20 (Int32.not_le.mp c_22)
          have i_25 : 1 ≤ v_19.toInt ∧ v_19.toInt ≤ 100 := iv_lt2 i_x_15 i_20 (Int32.not_le.mp c_22)
          have k_26 := Int32.lt_iff_toInt_lt.mp (Int32.not_le.mp c_22)
          refine lv_aload_n hx hb dX0_holds_34 rfl (lv_at hl 2 rfl) ?_
          refine lv_aload_n hx hb dX0_holds_35 rfl (lv_at hl 0 rfl) ?_
          refine gL_X0_28 hx hb htg hown (lw_K hL) (lw_now hL hS) dX0_holds_36 ?_
          refine lv_iload hx hb dX0_holds_39 (lv_at hl 4 rfl) ?_
          refine lL_5 hx hb (lw_K hL) (lw_now hL hS) (vp_in_iff.mpr (by omega)) dX0_holds_41 (fun v_27 ev_27 => ?_)
          have i_28 : 0 ≤ v_27.toInt ∧ v_27.toInt ≤ 11 := ev_27 ▸ (hlq.2.2 x_15.toNatClampNeg).2
          refine lX_4 hx hb hK hP (iv_in i_28 (by decide) (by decide)) dX0_holds_42 (fun v_29 ev_29 => ?_)
          refine lv_istore (lv' := [(6, .int v_29), (0, .ref la), (1, .int ln), (2, .ref (ad 4)), (4, .int x_14), (5, .int x_15)]) hx hb dX0_holds_43 hl (by decide) rfl (fun ls hl => ?_)
          refine lv_aload_n hx hb dX0_holds_45 rfl (lv_at hl 1 rfl) ?_
          refine gL_X0_25 hx hb htg hown (lw_K hL) (lw_now hL hS) dX0_holds_46 ?_
          refine lv_iload hx hb dX0_holds_49 (lv_at hl 5 rfl) ?_
          refine lL_4 hx hb (lw_K hL) (lw_now hL hS) (vp_in_iff.mpr (by omega)) dX0_holds_51 (fun v_30 ev_30 => ?_)
          refine my_cut (P := fun R9 a9 Q9 => ∀ (x_104 : Int32) (H : Heap) (locs : List Loc) (ls : Array Slot), va_P (dC, dI) vwCl (wsX ob ad cA fv wd ar) H → va_S (aX ob ad s.heap.size) s.heap H locs → lv_has ls 7 [(0, .ref la), (1, .int ln), (2, .ref (ad 4)), (4, .int x_104), (5, .int x_15)] → W p l e R9 s m a9 below meth c H locs 0 0 Q9 (F0 m 231 ls [])) ?_ (fun hj_105 => ?_)
          · intro x_104 H locs ls  hP hS hl
            obtain ⟨v_106, ev_106⟩ : ∃ z : Int32, z = x_15 + 1 := ⟨_, rfl⟩
            refine lv_iinc (v := v_106) (lv' := [(5, .int v_106), (0, .ref la), (1, .int ln), (2, .ref (ad 4)), (4, .int x_104)]) hx hb dX0_holds_231 hl (k := 4) rfl (by rw [ev_106]; rfl) (by decide) rfl (fun ls hl => ?_)
            have t_107 : v_106.toInt = x_15.toInt + 1 ∧ 1 ≤ v_106.toInt ∧ v_106.toInt ≤ 100 := iv_addc ev_106 i_24 (by decide) (by decide) (by decide)
            refine lv_goto (tgt := 23) hx hb dX0_holds_234 (by decide) ?_
            exact ih_16 x_104 v_106 _ _ ls (by omega) (iv_w t_107.2 (by decide) (by decide)) hP hS (lv_sub hl [1, 2, 3, 4, 0] rfl)
          · skip
            rcases ix_sw_0_6 v_30 with w_31 | w_31 | w_31 | w_31 | w_31 | w_31 | w_31 | w_31
            · skip
              refine lv_tableOut (tgt := 207) hx hb dX0_holds_52 (Or.inl w_31) (by decide) ?_
              refine lv_iload hx hb dX0_holds_207 (lv_at hl 4 rfl) ?_
              refine lv_iconst (v := 1) hx hb dX0_holds_209 (by decide) ?_
              refine lv_ishl hx hb dX0_holds_210 ?_
              refine lv_topi (fun v_32 ev_32 => ?_)
              refine lv_iload hx hb dX0_holds_211 (lv_at hl 0 rfl) ?_
              refine lv_aload_n hx hb dX0_holds_213 rfl (lv_at hl 1 rfl) ?_
              refine gL_X0_31 hx hb htg hown (lw_K hL) (lw_now hL hS) dX0_holds_214 ?_
              refine lv_iload hx hb dX0_holds_217 (lv_at hl 5 rfl) ?_
              refine lL_6 hx hb (lw_K hL) (lw_now hL hS) (vp_in_iff.mpr (by omega)) dX0_holds_219 (fun v_33 ev_33 => ?_)
              refine my_cut (P := fun R9 a9 Q9 => ∀ (x_39 : Int32) (H : Heap) (locs : List Loc) (ls : Array Slot), (0 ≤ x_39.toInt ∧ x_39.toInt ≤ 1) → va_P (dC, dI) vwCl (wsX ob ad cA fv wd ar) H → va_S (aX ob ad s.heap.size) s.heap H locs → lv_has ls 7 [(0, .ref la), (1, .int ln), (2, .ref (ad 4)), (5, .int x_15)] → W p l e R9 s m a9 below meth c H locs 0 0 Q9 (F0 m 228 ls [.int x_39, .int v_32])) ?_ (fun hj_40 => ?_)
              · intro x_39 H locs ls i_x_39 hP hS hl
                refine lv_ior hx hb dX0_holds_228 ?_
                refine lv_topi (fun v_41 ev_41 => ?_)
                refine lv_istore (lv' := [(4, .int v_41), (0, .ref la), (1, .int ln), (2, .ref (ad 4)), (5, .int x_15)]) hx hb dX0_holds_229 hl (by decide) rfl (fun ls hl => ?_)
                exact hj_105 v_41 _ _ ls  hP hS (lv_sub hl [1, 2, 3, 0, 4] rfl)
              · skip
                refine lv_icmp_le (tgt := 227) hx hb dX0_holds_220 (by decide) (fun c_34 => ?_) (fun c_34 => ?_)
                · skip
                  have k_35 := Int32.le_iff_toInt_le.mp c_34
                  refine lv_iconst (v := 0) hx hb dX0_holds_227 (by decide) ?_
                  exact hj_40 0 _ _ ls (iv_w (⟨by decide, by decide⟩ : (0 : Int) ≤ (0 : Int32).toInt ∧ (0 : Int32).toInt ≤ 0) (by decide) (by decide)) hP hS (lv_sub hl [1, 2, 3, 5] rfl)
                · skip
                  have i_36 : (-2147483648) ≤ v_33.toInt ∧ v_33.toInt ≤ 2147483646 := iv_lt1 (iv_any v_33) (iv_any v_29) (Int32.not_le.mp c_34)
                  have i_37 : (-2147483647) ≤ v_29.toInt ∧ v_29.toInt ≤ 2147483647 := iv_lt2 (iv_any v_33) (iv_any v_29) (Int32.not_le.mp c_34)
                  have k_38 := Int32.lt_iff_toInt_lt.mp (Int32.not_le.mp c_34)
                  refine lv_iconst (v := 1) hx hb dX0_holds_223 (by decide) ?_
                  refine lv_goto (tgt := 228) hx hb dX0_holds_224 (by decide) ?_
                  exact hj_40 1 _ _ ls (iv_w (⟨by decide, by decide⟩ : (1 : Int) ≤ (1 : Int32).toInt ∧ (1 : Int32).toInt ≤ 1) (by decide) (by decide)) hP hS (lv_sub hl [1, 2, 3, 5] rfl)
            · skip
              refine lv_tableOut (tgt := 207) hx hb dX0_holds_52 (Or.inr w_31) (by decide) ?_
              refine lv_iload hx hb dX0_holds_207 (lv_at hl 4 rfl) ?_
              refine lv_iconst (v := 1) hx hb dX0_holds_209 (by decide) ?_
              refine lv_ishl hx hb dX0_holds_210 ?_
              refine lv_topi (fun v_42 ev_42 => ?_)
              refine lv_iload hx hb dX0_holds_211 (lv_at hl 0 rfl) ?_
              refine lv_aload_n hx hb dX0_holds_213 rfl (lv_at hl 1 rfl) ?_
              refine gL_X0_31 hx hb htg hown (lw_K hL) (lw_now hL hS) dX0_holds_214 ?_
              refine lv_iload hx hb dX0_holds_217 (lv_at hl 5 rfl) ?_
              refine lL_6 hx hb (lw_K hL) (lw_now hL hS) (vp_in_iff.mpr (by omega)) dX0_holds_219 (fun v_43 ev_43 => ?_)
              refine my_cut (P := fun R9 a9 Q9 => ∀ (x_49 : Int32) (H : Heap) (locs : List Loc) (ls : Array Slot), (0 ≤ x_49.toInt ∧ x_49.toInt ≤ 1) → va_P (dC, dI) vwCl (wsX ob ad cA fv wd ar) H → va_S (aX ob ad s.heap.size) s.heap H locs → lv_has ls 7 [(0, .ref la), (1, .int ln), (2, .ref (ad 4)), (5, .int x_15)] → W p l e R9 s m a9 below meth c H locs 0 0 Q9 (F0 m 228 ls [.int x_49, .int v_42])) ?_ (fun hj_50 => ?_)
              · intro x_49 H locs ls i_x_49 hP hS hl
                refine lv_ior hx hb dX0_holds_228 ?_
                refine lv_topi (fun v_51 ev_51 => ?_)
                refine lv_istore (lv' := [(4, .int v_51), (0, .ref la), (1, .int ln), (2, .ref (ad 4)), (5, .int x_15)]) hx hb dX0_holds_229 hl (by decide) rfl (fun ls hl => ?_)
                exact hj_105 v_51 _ _ ls  hP hS (lv_sub hl [1, 2, 3, 0, 4] rfl)
              · skip
                refine lv_icmp_le (tgt := 227) hx hb dX0_holds_220 (by decide) (fun c_44 => ?_) (fun c_44 => ?_)
                · skip
                  have k_45 := Int32.le_iff_toInt_le.mp c_44
                  refine lv_iconst (v := 0) hx hb dX0_holds_227 (by decide) ?_
                  exact hj_50 0 _ _ ls (iv_w (⟨by decide, by decide⟩ : (0 : Int) ≤ (0 : Int32).toInt ∧ (0 : Int32).toInt ≤ 0) (by decide) (by decide)) hP hS (lv_sub hl [1, 2, 3, 5] rfl)
                · skip
                  have i_46 : (-2147483648) ≤ v_43.toInt ∧ v_43.toInt ≤ 2147483646 := iv_lt1 (iv_any v_43) (iv_any v_29) (Int32.not_le.mp c_44)
                  have i_47 : (-2147483647) ≤ v_29.toInt ∧ v_29.toInt ≤ 2147483647 := iv_lt2 (iv_any v_43) (iv_any v_29) (Int32.not_le.mp c_44)
                  have k_48 := Int32.lt_iff_toInt_lt.mp (Int32.not_le.mp c_44)
                  refine lv_iconst (v := 1) hx hb dX0_holds_223 (by decide) ?_
                  refine lv_goto (tgt := 228) hx hb dX0_holds_224 (by decide) ?_
                  exact hj_50 1 _ _ ls (iv_w (⟨by decide, by decide⟩ : (1 : Int) ≤ (1 : Int32).toInt ∧ (1 : Int32).toInt ≤ 1) (by decide) (by decide)) hP hS (lv_sub hl [1, 2, 3, 5] rfl)
            · skip
              refine lv_tableIn (off := 101) (tgt := 153) hx hb dX0_holds_52 (by rw [w_31]; decide) (by rw [w_31]; decide) (by rw [w_31]; rfl) (by decide) ?_
              refine lv_iload hx hb dX0_holds_153 (lv_at hl 4 rfl) ?_
              refine lv_iconst (v := 1) hx hb dX0_holds_155 (by decide) ?_
              refine lv_ishl hx hb dX0_holds_156 ?_
              refine lv_topi (fun v_52 ev_52 => ?_)
              refine lv_iload hx hb dX0_holds_157 (lv_at hl 0 rfl) ?_
              refine lv_aload_n hx hb dX0_holds_159 rfl (lv_at hl 1 rfl) ?_
              refine gL_X0_31 hx hb htg hown (lw_K hL) (lw_now hL hS) dX0_holds_160 ?_
              refine lv_iload hx hb dX0_holds_163 (lv_at hl 5 rfl) ?_
              refine lL_6 hx hb (lw_K hL) (lw_now hL hS) (vp_in_iff.mpr (by omega)) dX0_holds_165 (fun v_53 ev_53 => ?_)
              refine my_cut (P := fun R9 a9 Q9 => ∀ (x_59 : Int32) (H : Heap) (locs : List Loc) (ls : Array Slot), (0 ≤ x_59.toInt ∧ x_59.toInt ≤ 1) → va_P (dC, dI) vwCl (wsX ob ad cA fv wd ar) H → va_S (aX ob ad s.heap.size) s.heap H locs → lv_has ls 7 [(0, .ref la), (1, .int ln), (2, .ref (ad 4)), (5, .int x_15)] → W p l e R9 s m a9 below meth c H locs 0 0 Q9 (F0 m 174 ls [.int x_59, .int v_52])) ?_ (fun hj_60 => ?_)
              · intro x_59 H locs ls i_x_59 hP hS hl
                refine lv_ior hx hb dX0_holds_174 ?_
                refine lv_topi (fun v_61 ev_61 => ?_)
                refine lv_istore (lv' := [(4, .int v_61), (0, .ref la), (1, .int ln), (2, .ref (ad 4)), (5, .int x_15)]) hx hb dX0_holds_175 hl (by decide) rfl (fun ls hl => ?_)
                refine lv_goto (tgt := 231) hx hb dX0_holds_177 (by decide) ?_
                exact hj_105 v_61 _ _ ls  hP hS (lv_sub hl [1, 2, 3, 0, 4] rfl)
              · skip
                refine lv_icmp_ge (tgt := 173) hx hb dX0_holds_166 (by decide) (fun c_54 => ?_) (fun c_54 => ?_)
                · skip
                  have k_55 := Int32.le_iff_toInt_le.mp c_54
                  refine lv_iconst (v := 0) hx hb dX0_holds_173 (by decide) ?_
                  exact hj_60 0 _ _ ls (iv_w (⟨by decide, by decide⟩ : (0 : Int) ≤ (0 : Int32).toInt ∧ (0 : Int32).toInt ≤ 0) (by decide) (by decide)) hP hS (lv_sub hl [1, 2, 3, 5] rfl)
                · skip
                  have i_56 : (-2147483648) ≤ v_29.toInt ∧ v_29.toInt ≤ 2147483646 := iv_lt1 (iv_any v_29) (iv_any v_53) (Int32.not_le.mp c_54)
                  have i_57 : (-2147483647) ≤ v_53.toInt ∧ v_53.toInt ≤ 2147483647 := iv_lt2 (iv_any v_29) (iv_any v_53) (Int32.not_le.mp c_54)
                  have k_58 := Int32.lt_iff_toInt_lt.mp (Int32.not_le.mp c_54)
                  refine lv_iconst (v := 1) hx hb dX0_holds_169 (by decide) ?_
                  refine lv_goto (tgt := 174) hx hb dX0_holds_170 (by decide) ?_
                  exact hj_60 1 _ _ ls (iv_w (⟨by decide, by decide⟩ : (1 : Int) ≤ (1 : Int32).toInt ∧ (1 : Int32).toInt ≤ 1) (by decide) (by decide)) hP hS (lv_sub hl [1, 2, 3, 5] rfl)
            · skip
              refine lv_tableIn (off := 128) (tgt := 180) hx hb dX0_holds_52 (by rw [w_31]; decide) (by rw [w_31]; decide) (by rw [w_31]; rfl) (by decide) ?_
              refine lv_iload hx hb dX0_holds_180 (lv_at hl 4 rfl) ?_
              refine lv_iconst (v := 1) hx hb dX0_holds_182 (by decide) ?_
              refine lv_ishl hx hb dX0_holds_183 ?_
              refine lv_topi (fun v_62 ev_62 => ?_)
              refine lv_iload hx hb dX0_holds_184 (lv_at hl 0 rfl) ?_
              refine lv_aload_n hx hb dX0_holds_186 rfl (lv_at hl 1 rfl) ?_
              refine gL_X0_31 hx hb htg hown (lw_K hL) (lw_now hL hS) dX0_holds_187 ?_
              refine lv_iload hx hb dX0_holds_190 (lv_at hl 5 rfl) ?_
              refine lL_6 hx hb (lw_K hL) (lw_now hL hS) (vp_in_iff.mpr (by omega)) dX0_holds_192 (fun v_63 ev_63 => ?_)
              refine my_cut (P := fun R9 a9 Q9 => ∀ (x_66 : Int32) (H : Heap) (locs : List Loc) (ls : Array Slot), (0 ≤ x_66.toInt ∧ x_66.toInt ≤ 1) → va_P (dC, dI) vwCl (wsX ob ad cA fv wd ar) H → va_S (aX ob ad s.heap.size) s.heap H locs → lv_has ls 7 [(0, .ref la), (1, .int ln), (2, .ref (ad 4)), (5, .int x_15)] → W p l e R9 s m a9 below meth c H locs 0 0 Q9 (F0 m 201 ls [.int x_66, .int v_62])) ?_ (fun hj_67 => ?_)
              · intro x_66 H locs ls i_x_66 hP hS hl
                refine lv_ior hx hb dX0_holds_201 ?_
                refine lv_topi (fun v_68 ev_68 => ?_)
                refine lv_istore (lv' := [(4, .int v_68), (0, .ref la), (1, .int ln), (2, .ref (ad 4)), (5, .int x_15)]) hx hb dX0_holds_202 hl (by decide) rfl (fun ls hl => ?_)
                refine lv_goto (tgt := 231) hx hb dX0_holds_204 (by decide) ?_
                exact hj_105 v_68 _ _ ls  hP hS (lv_sub hl [1, 2, 3, 0, 4] rfl)
              · skip
                refine lv_icmp_ne (tgt := 200) hx hb dX0_holds_193 (by decide) (fun c_64 => ?_) (fun c_64 => ?_)
                · skip
                  refine lv_iconst (v := 0) hx hb dX0_holds_200 (by decide) ?_
                  exact hj_67 0 _ _ ls (iv_w (⟨by decide, by decide⟩ : (0 : Int) ≤ (0 : Int32).toInt ∧ (0 : Int32).toInt ≤ 0) (by decide) (by decide)) hP hS (lv_sub hl [1, 2, 3, 5] rfl)
                · skip
                  have k_65 := congrArg Int32.toInt c_64
                  refine lv_iconst (v := 1) hx hb dX0_holds_196 (by decide) ?_
                  refine lv_goto (tgt := 201) hx hb dX0_holds_197 (by decide) ?_
                  exact hj_67 1 _ _ ls (iv_w (⟨by decide, by decide⟩ : (1 : Int) ≤ (1 : Int32).toInt ∧ (1 : Int32).toInt ≤ 1) (by decide) (by decide)) hP hS (lv_sub hl [1, 2, 3, 5] rfl)
            · skip
              refine lv_tableIn (off := 155) (tgt := 207) hx hb dX0_holds_52 (by rw [w_31]; decide) (by rw [w_31]; decide) (by rw [w_31]; rfl) (by decide) ?_
              refine lv_iload hx hb dX0_holds_207 (lv_at hl 4 rfl) ?_
              refine lv_iconst (v := 1) hx hb dX0_holds_209 (by decide) ?_
              refine lv_ishl hx hb dX0_holds_210 ?_
              refine lv_topi (fun v_69 ev_69 => ?_)
              refine lv_iload hx hb dX0_holds_211 (lv_at hl 0 rfl) ?_
              refine lv_aload_n hx hb dX0_holds_213 rfl (lv_at hl 1 rfl) ?_
              refine gL_X0_31 hx hb htg hown (lw_K hL) (lw_now hL hS) dX0_holds_214 ?_
              refine lv_iload hx hb dX0_holds_217 (lv_at hl 5 rfl) ?_
              refine lL_6 hx hb (lw_K hL) (lw_now hL hS) (vp_in_iff.mpr (by omega)) dX0_holds_219 (fun v_70 ev_70 => ?_)
              refine my_cut (P := fun R9 a9 Q9 => ∀ (x_76 : Int32) (H : Heap) (locs : List Loc) (ls : Array Slot), (0 ≤ x_76.toInt ∧ x_76.toInt ≤ 1) → va_P (dC, dI) vwCl (wsX ob ad cA fv wd ar) H → va_S (aX ob ad s.heap.size) s.heap H locs → lv_has ls 7 [(0, .ref la), (1, .int ln), (2, .ref (ad 4)), (5, .int x_15)] → W p l e R9 s m a9 below meth c H locs 0 0 Q9 (F0 m 228 ls [.int x_76, .int v_69])) ?_ (fun hj_77 => ?_)
              · intro x_76 H locs ls i_x_76 hP hS hl
                refine lv_ior hx hb dX0_holds_228 ?_
                refine lv_topi (fun v_78 ev_78 => ?_)
                refine lv_istore (lv' := [(4, .int v_78), (0, .ref la), (1, .int ln), (2, .ref (ad 4)), (5, .int x_15)]) hx hb dX0_holds_229 hl (by decide) rfl (fun ls hl => ?_)
                exact hj_105 v_78 _ _ ls  hP hS (lv_sub hl [1, 2, 3, 0, 4] rfl)
              · skip
                refine lv_icmp_le (tgt := 227) hx hb dX0_holds_220 (by decide) (fun c_71 => ?_) (fun c_71 => ?_)
                · skip
                  have k_72 := Int32.le_iff_toInt_le.mp c_71
                  refine lv_iconst (v := 0) hx hb dX0_holds_227 (by decide) ?_
                  exact hj_77 0 _ _ ls (iv_w (⟨by decide, by decide⟩ : (0 : Int) ≤ (0 : Int32).toInt ∧ (0 : Int32).toInt ≤ 0) (by decide) (by decide)) hP hS (lv_sub hl [1, 2, 3, 5] rfl)
                · skip
                  have i_73 : (-2147483648) ≤ v_70.toInt ∧ v_70.toInt ≤ 2147483646 := iv_lt1 (iv_any v_70) (iv_any v_29) (Int32.not_le.mp c_71)
                  have i_74 : (-2147483647) ≤ v_29.toInt ∧ v_29.toInt ≤ 2147483647 := iv_lt2 (iv_any v_70) (iv_any v_29) (Int32.not_le.mp c_71)
                  have k_75 := Int32.lt_iff_toInt_lt.mp (Int32.not_le.mp c_71)
                  refine lv_iconst (v := 1) hx hb dX0_holds_223 (by decide) ?_
                  refine lv_goto (tgt := 228) hx hb dX0_holds_224 (by decide) ?_
                  exact hj_77 1 _ _ ls (iv_w (⟨by decide, by decide⟩ : (1 : Int) ≤ (1 : Int32).toInt ∧ (1 : Int32).toInt ≤ 1) (by decide) (by decide)) hP hS (lv_sub hl [1, 2, 3, 5] rfl)
            · skip
              refine lv_tableIn (off := 40) (tgt := 92) hx hb dX0_holds_52 (by rw [w_31]; decide) (by rw [w_31]; decide) (by rw [w_31]; rfl) (by decide) ?_
              refine lv_iload hx hb dX0_holds_92 (lv_at hl 4 rfl) ?_
              refine lv_iconst (v := 1) hx hb dX0_holds_94 (by decide) ?_
              refine lv_ixor hx hb dX0_holds_95 ?_
              refine lv_topi (fun v_79 ev_79 => ?_)
              refine lv_istore (lv' := [(4, .int v_79), (6, .int v_29), (0, .ref la), (1, .int ln), (2, .ref (ad 4)), (5, .int x_15)]) hx hb dX0_holds_96 hl (by decide) rfl (fun ls hl => ?_)
              refine lv_goto (tgt := 231) hx hb dX0_holds_98 (by decide) ?_
              exact hj_105 v_79 _ _ ls  hP hS (lv_sub hl [2, 3, 4, 0, 5] rfl)
            · skip
              refine lv_tableIn (off := 49) (tgt := 101) hx hb dX0_holds_52 (by rw [w_31]; decide) (by rw [w_31]; decide) (by rw [w_31]; rfl) (by decide) ?_
              refine lv_iload hx hb dX0_holds_101 (lv_at hl 4 rfl) ?_
              refine lv_iconst (v := 1) hx hb dX0_holds_103 (by decide) ?_
              refine lv_iand hx hb dX0_holds_104 ?_
              refine lv_topi (fun v_80 ev_80 => ?_)
              have i_81 : 0 ≤ v_80.toInt ∧ v_80.toInt ≤ 1 := iv_1 ev_80
              refine lv_iconst (v := 1) hx hb dX0_holds_105 (by decide) ?_
              refine my_cut (P := fun R9 a9 Q9 => ∀ (x_90 : Int32) (H : Heap) (locs : List Loc) (ls : Array Slot), va_P (dC, dI) vwCl (wsX ob ad cA fv wd ar) H → va_S (aX ob ad s.heap.size) s.heap H locs → lv_has ls 7 [(0, .ref la), (1, .int ln), (2, .ref (ad 4)), (5, .int x_15)] → W p l e R9 s m a9 below meth c H locs 0 0 Q9 (F0 m 122 ls [.int x_90])) ?_ (fun hj_91 => ?_)
              · intro x_90 H locs ls  hP hS hl
                refine lv_istore (lv' := [(4, .int x_90), (0, .ref la), (1, .int ln), (2, .ref (ad 4)), (5, .int x_15)]) hx hb dX0_holds_122 hl (by decide) rfl (fun ls hl => ?_)
                refine lv_goto (tgt := 231) hx hb dX0_holds_124 (by decide) ?_
                exact hj_105 x_90 _ _ ls  hP hS (lv_sub hl [1, 2, 3, 0, 4] rfl)
              · skip
                refine lv_icmp_ne (tgt := 116) hx hb dX0_holds_106 (by decide) (fun c_82 => ?_) (fun c_82 => ?_)
                · skip
                  have i_83 : 0 ≤ v_80.toInt ∧ v_80.toInt ≤ 0 := iv_neh i_81 (by decide) c_82
                  have k_84 : ¬ v_80.toInt = 1 := fun q => c_82 (Int32.toInt_inj.mp q)
                  refine lv_iload hx hb dX0_holds_116 (lv_at hl 4 rfl) ?_
                  refine lv_iconst (v := 2) hx hb dX0_holds_118 (by decide) ?_
                  refine lv_ishr hx hb dX0_holds_119 ?_
                  refine lv_topi (fun v_85 ev_85 => ?_)
                  refine lv_iconst (v := 1) hx hb dX0_holds_120 (by decide) ?_
                  refine lv_ishl hx hb dX0_holds_121 ?_
                  refine lv_topi (fun v_86 ev_86 => ?_)
                  exact hj_91 v_86 _ _ ls  hP hS (lv_sub hl [1, 2, 3, 5] rfl)
                · skip
                  have i_87 : 1 ≤ v_80.toInt ∧ v_80.toInt ≤ 1 := iv_eq1 (⟨by decide, by decide⟩ : (1 : Int) ≤ (1 : Int32).toInt ∧ (1 : Int32).toInt ≤ 1) c_82
                  refine lv_iload hx hb dX0_holds_109 (lv_at hl 4 rfl) ?_
                  refine lv_iconst (v := 1) hx hb dX0_holds_111 (by decide) ?_
                  refine lv_ishr hx hb dX0_holds_112 ?_
                  refine lv_topi (fun v_89 ev_89 => ?_)
                  refine lv_goto (tgt := 122) hx hb dX0_holds_113 (by decide) ?_
                  exact hj_91 v_89 _ _ ls  hP hS (lv_sub hl [1, 2, 3, 5] rfl)
            · skip
              refine lv_tableIn (off := 75) (tgt := 127) hx hb dX0_holds_52 (by rw [w_31]; decide) (by rw [w_31]; decide) (by rw [w_31]; rfl) (by decide) ?_
              refine lv_iload hx hb dX0_holds_127 (lv_at hl 4 rfl) ?_
              refine lv_iconst (v := 1) hx hb dX0_holds_129 (by decide) ?_
              refine lv_iand hx hb dX0_holds_130 ?_
              refine lv_topi (fun v_92 ev_92 => ?_)
              have i_93 : 0 ≤ v_92.toInt ∧ v_92.toInt ≤ 1 := iv_1 ev_92
              refine lv_iconst (v := 1) hx hb dX0_holds_131 (by decide) ?_
              refine my_cut (P := fun R9 a9 Q9 => ∀ (x_102 : Int32) (H : Heap) (locs : List Loc) (ls : Array Slot), va_P (dC, dI) vwCl (wsX ob ad cA fv wd ar) H → va_S (aX ob ad s.heap.size) s.heap H locs → lv_has ls 7 [(0, .ref la), (1, .int ln), (2, .ref (ad 4)), (5, .int x_15)] → W p l e R9 s m a9 below meth c H locs 0 0 Q9 (F0 m 148 ls [.int x_102])) ?_ (fun hj_103 => ?_)
              · intro x_102 H locs ls  hP hS hl
                refine lv_istore (lv' := [(4, .int x_102), (0, .ref la), (1, .int ln), (2, .ref (ad 4)), (5, .int x_15)]) hx hb dX0_holds_148 hl (by decide) rfl (fun ls hl => ?_)
                refine lv_goto (tgt := 231) hx hb dX0_holds_150 (by decide) ?_
                exact hj_105 x_102 _ _ ls  hP hS (lv_sub hl [1, 2, 3, 0, 4] rfl)
              · skip
                refine lv_icmp_ne (tgt := 144) hx hb dX0_holds_132 (by decide) (fun c_94 => ?_) (fun c_94 => ?_)
                · skip
                  have i_95 : 0 ≤ v_92.toInt ∧ v_92.toInt ≤ 0 := iv_neh i_93 (by decide) c_94
                  have k_96 : ¬ v_92.toInt = 1 := fun q => c_94 (Int32.toInt_inj.mp q)
                  refine lv_iload hx hb dX0_holds_144 (lv_at hl 4 rfl) ?_
                  refine lv_iconst (v := 1) hx hb dX0_holds_146 (by decide) ?_
                  refine lv_ishr hx hb dX0_holds_147 ?_
                  refine lv_topi (fun v_97 ev_97 => ?_)
                  exact hj_103 v_97 _ _ ls  hP hS (lv_sub hl [1, 2, 3, 5] rfl)
                · skip
                  have i_98 : 1 ≤ v_92.toInt ∧ v_92.toInt ≤ 1 := iv_eq1 (⟨by decide, by decide⟩ : (1 : Int) ≤ (1 : Int32).toInt ∧ (1 : Int32).toInt ≤ 1) c_94
                  refine lv_iload hx hb dX0_holds_135 (lv_at hl 4 rfl) ?_
                  refine lv_iconst (v := 1) hx hb dX0_holds_137 (by decide) ?_
                  refine lv_ishr hx hb dX0_holds_138 ?_
                  refine lv_topi (fun v_100 ev_100 => ?_)
                  refine lv_iconst (v := 1) hx hb dX0_holds_139 (by decide) ?_
                  refine lv_ior hx hb dX0_holds_140 ?_
                  refine lv_topi (fun v_101 ev_101 => ?_)
                  refine lv_goto (tgt := 148) hx hb dX0_holds_141 (by decide) ?_
                  exact hj_103 v_101 _ _ ls  hP hS (lv_sub hl [1, 2, 3, 5] rfl)
    · skip
      have z_116 : (1 : Int32).toInt = 1 := by decide
      exact hj_18 101 1 x_12 _ _ ls (by first | decide | omega) i_x_12 hP hS (lv_sub hl [3, 4, 5, 1, 0] rfl)
  · skip
    refine lv_if_ne (tgt := 8) hx hb dX0_holds_1 (by decide) (fun c_1 => ?_) (fun c_1 => ?_)
    · skip
      have i_2 : 1 ≤ ln.toInt ∧ ln.toInt ≤ 15 := iv_nel h_ln (by decide) c_1
      have k_3 : ¬ ln.toInt = 0 := fun q => c_1 (Int32.toInt_inj.mp q)
      refine lv_aload_n hx hb dX0_holds_8 rfl (lv_at hl 0 rfl) ?_
      refine gL_X0_22 hx hb htg hown (lw_K hL) (lw_now hL hS) dX0_holds_9 ?_
      refine lv_iload_n hx hb dX0_holds_12 rfl (lv_at hl 1 rfl) ?_
      refine lv_iconst (v := 1) hx hb dX0_holds_13 (by decide) ?_
      refine lv_isub hx hb dX0_holds_14 ?_
      refine lv_topi (fun v_4 ev_4 => ?_)
      have t_5 : v_4.toInt = ln.toInt - 1 ∧ 0 ≤ v_4.toInt ∧ v_4.toInt ≤ 14 := iv_subc ev_4 i_2 (by decide) (by decide) (by decide)
      refine lL_3 hx hb (lw_K hL) (lw_now hL hS) (vp_in_iff.mpr (by omega)) dX0_holds_15 (fun v_7 ev_7 => ?_)
      have i_8 : 0 ≤ v_7.toInt ∧ v_7.toInt ≤ 100 := (by have h9 := (hlq.2.2 v_4.toNatClampNeg).1; rw [← ev_7] at h9; have h8 := hlq.2.1; omega)
      have k_9 : v_7.toInt ≤ lcn := (by have h9 := (hlq.2.2 v_4.toNatClampNeg).1; rw [← ev_7] at h9; exact h9.2)
      exact hj_13 v_7 _ _ ls i_8 hP hS (lv_sub hl [0, 1, 2] rfl)
    · skip
      have i_10 : 0 ≤ ln.toInt ∧ ln.toInt ≤ 0 := iv_eq1 (⟨by decide, by decide⟩ : (0 : Int) ≤ (0 : Int32).toInt ∧ (0 : Int32).toInt ≤ 0) c_1
      refine lv_iconst (v := 0) hx hb dX0_holds_4 (by decide) ?_
      refine lv_goto (tgt := 16) hx hb dX0_holds_5 (by decide) ?_
      exact hj_13 0 _ _ ls (iv_w (⟨by decide, by decide⟩ : (0 : Int) ≤ (0 : Int32).toInt ∧ (0 : Int32).toInt ≤ 0) (by decide) (by decide)) hP hS (lv_sub hl [0, 1, 2] rfl)
set_option maxHeartbeats 4000000 in
set_option maxRecDepth 100000 in
theorem x_lineFor (l : Launch) (dC : Nat → ClassId) (dI : Nat → Nat → Nat) (sz : Nat) (ob ad : Nat → Nat) (cA : Nat → ClassId) (hd : dX ob ad) (fv : Nat → Int32) (wd : xT) (ar : Nat → Nat → Int32) (hF_fv : rX fv) (hA_ar : rB ar) (la : Nat) (lfr : Int32) (lra : Nat → Nat) (lrc : Nat → ClassId) (lln lcn : Nat) (llr : Nat → Nat → Int32) (hlq : lwQ lln lcn llr) (kd : Int32) : Met l yX0_lineFor (.code yX0_lineFor cX0_lineFor 4 (some .int) :: lw_good) ({ frames := 3, cells := 0, slots := 0, locals := 66 }) (va_Pc [.ref la, .int kd, .ref (ad 4)] (fun U => prX dC dI ob ad cA fv wd ar sz U ∧ lwA dC dI ob ad la lfr lra lrc lln lcn llr sz U)) (va_Qi (fun (r : Int32) (u : xS) => rX u.1 ∧ rB u.2.2 ∧ fM [] fv u.1 ∧ fA [] ar u.2.2 ∧ u.2.1.2 = wd.2 ∧ ((-1) ≤ r.toInt ∧ r.toInt ≤ 15) ∧ (r.toInt < lln) ∧ True) (enX dC dI ob ad cA) (aX ob ad sz)) 0 0 (aX ob ad sz) := by
  refine Met.ofW (cc := cX0_lineFor) (maxL := 4) (ret := (some .int)) (by decide) rfl ?_
  intro p e s m args below meth c s₁ B hml hv
  obtain ⟨rfl, ⟨hsz, hP, hK⟩, hL⟩ := hv
  have hx := B.exec
  have hb := B.bytes
  have hr := B.returns
  have hts := atoms_spec (ws := (.code yX0_lineFor cX0_lineFor 4 (some .int) :: lw_good)) B.pre
  have htg : ∀ w ∈ lw_good, w.before _ s = true := fun w hw => hts w (List.mem_cons_of_mem _ hw)
  have hown : s.vm.findClass RX0 = some m.cls := findClass_of_methodNamed B.named
  have hlocks := B.notSynchronized
  subst hsz
  have hS : va_S (aX ob ad s.heap.size) s.heap s.heap [] := va_S.rf
  have hl := lv_entry ([.ref la, .int kd, .ref (ad 4)]) (n := 4) (Nat.le_of_ble_eq_true rfl)
  rw [lg_entry_eq]
  generalize (lg_sl ([.ref la, .int kd, .ref (ad 4)]) ++ List.replicate (4 - (lg_sl ([.ref la, .int kd, .ref (ad 4)])).length) Slot.unset).toArray = ls at hl ⊢
  have hl : lv_has ls 4 [(0, .ref la), (1, .int kd), (2, .ref (ad 4))] := hl
  refine lv_iconst (v := 0) hx hb dX0_lineFor_0 (by decide) ?_
  refine lv_istore_n (lv' := [(3, .int 0), (0, .ref la), (1, .int kd), (2, .ref (ad 4))]) hx hb dX0_lineFor_1 rfl hl (by decide) rfl (fun ls hl => ?_)
  refine my_cut (P := fun R9 a9 Q9 => ∀ (n_8 : Nat) (x_1 : Int32) (fv_2 : Nat → Int32) (ar_4 : Nat → Nat → Int32) (wd_6 : xT) (H : Heap) (locs : List Loc) (ls : Array Slot), 16 - x_1.toInt < (n_8 : Int) → (0 ≤ x_1.toInt ∧ x_1.toInt ≤ 16) → rX fv_2 → fM [] fv fv_2 → rB ar_4 → fA [] ar ar_4 → wd_6.2 = wd.2 → va_P (dC, dI) vwCl (wsX ob ad cA fv_2 wd_6 ar_4) H → va_S (aX ob ad s.heap.size) s.heap H locs → lv_has ls 4 [(0, .ref la), (1, .int kd), (2, .ref (ad 4)), (3, .int x_1)] → W p l e R9 s m a9 below meth c H locs 0 0 Q9 (F0 m 2 ls [])) ?_ (fun hj_10 => ?_)
  · intro n_8
    induction n_8 with
    | zero => intro x_1 fv_2 ar_4 wd_6 H locs ls fu_9 i_x_1 hF_fv_2 fr_3 hA_ar_4 fa_5 wf_7; exfalso; omega
    | succ n_8 ih_8 =>
      intro x_1 fv_2 ar_4 wd_6 H locs ls fu_9 i_x_1 hF_fv_2 fr_3 hA_ar_4 fa_5 wf_7 hP hS hl
      refine lv_iload_n hx hb dX0_lineFor_2 rfl (lv_at hl 3 rfl) ?_
      refine lv_aload_n hx hb dX0_lineFor_3 rfl (lv_at hl 0 rfl) ?_
      refine gL_X0_15 hx hb htg hown (lw_K hL) (lw_now hL hS) dX0_lineFor_4 ?_
      refine nL_1 hx hb (lw_K hL) (lw_now hL hS) dX0_lineFor_7 (fun v_11 ev_11 => ?_)
      have kv_11 : v_11.toInt = lln := by rw [ev_11]; have h8 := hlq.1; have h9 := hlq.2.1; exact nI_toInt (by omega)
      have i_12 : 0 ≤ v_11.toInt ∧ v_11.toInt ≤ 16 := (by have h8 := hlq.1; have h9 := hlq.2.1; omega)
      refine lv_icmp_ge (tgt := 38) hx hb dX0_lineFor_8 (by decide) (fun c_13 => ?_) (fun c_13 => ?_)
      · skip
        have k_14 := Int32.le_iff_toInt_le.mp c_13
        refine lv_iconst (v := (-1)) hx hb dX0_lineFor_38 (by decide) ?_
        have z_15 : ((-1) : Int32).toInt = (-1) := by decide
        exact W.iret (v := (-1)) hx hb hr (fun t ht hW => ⟨⟨(-1), (fv_2, wd_6, ar_4), rfl, ⟨hF_fv_2, hA_ar_4, (fM_call (fM_rf [] _) fr_3 (by decide)), (fA_call (fA_rf [] _) fa_5 (by decide)), wf_7, (iv_w (⟨by decide, by decide⟩ : (-1 : Int) ≤ ((-1) : Int32).toInt ∧ ((-1) : Int32).toInt ≤ -1) (by decide) (by decide)), (show ((-1) : Int32).toInt < lln from by omega), trivial⟩, ⟨by rw [ht]; exact hP, va_K.moved hW.alike hK⟩⟩, hS.F ht⟩) hS.2.2 dX0_lineFor_39
      · skip
        have i_16 : 0 ≤ x_1.toInt ∧ x_1.toInt ≤ 15 := iv_lt1 i_x_1 i_12 (Int32.not_le.mp c_13)
        have i_17 : 1 ≤ v_11.toInt ∧ v_11.toInt ≤ 16 := iv_lt2 i_x_1 i_12 (Int32.not_le.mp c_13)
        have k_18 := Int32.lt_iff_toInt_lt.mp (Int32.not_le.mp c_13)
        refine lv_aload_n hx hb dX0_lineFor_11 rfl (lv_at hl 0 rfl) ?_
        refine gL_X0_15 hx hb htg hown (lw_K hL) (lw_now hL hS) dX0_lineFor_12 ?_
        refine lv_iload_n hx hb dX0_lineFor_15 rfl (lv_at hl 3 rfl) ?_
        refine lL_1 hx hb (lw_K hL) (lw_now hL hS) (vp_in_iff.mpr (by omega)) dX0_lineFor_16 (fun v_19 ev_19 => ?_)
        refine lv_iload_n hx hb dX0_lineFor_17 rfl (lv_at hl 1 rfl) ?_
        refine lv_icmp_ne (tgt := 32) hx hb dX0_lineFor_18 (by decide) (fun c_20 => ?_) (fun c_20 => ?_)
        · skip
          obtain ⟨v_21, ev_21⟩ : ∃ z : Int32, z = x_1 + 1 := ⟨_, rfl⟩
          refine lv_iinc (v := v_21) (lv' := [(3, .int v_21), (0, .ref la), (1, .int kd), (2, .ref (ad 4))]) hx hb dX0_lineFor_32 hl (k := 3) rfl (by rw [ev_21]; rfl) (by decide) rfl (fun ls hl => ?_)
          have t_22 : v_21.toInt = x_1.toInt + 1 ∧ 1 ≤ v_21.toInt ∧ v_21.toInt ≤ 16 := iv_addc ev_21 i_16 (by decide) (by decide) (by decide)
          refine lv_goto (tgt := 2) hx hb dX0_lineFor_35 (by decide) ?_
          exact ih_8 v_21 fv_2 ar_4 wd_6 _ _ ls (by omega) (iv_w t_22.2 (by decide) (by decide)) hF_fv_2 (fM_call (fM_rf [] _) fr_3 (by decide)) hA_ar_4 (fA_call (fA_rf [] _) fa_5 (by decide)) wf_7 hP hS (lv_sub hl [1, 2, 3, 0] rfl)
        · skip
          have k_24 := congrArg Int32.toInt c_20
          refine lv_aload_n hx hb dX0_lineFor_21 rfl (lv_at hl 0 rfl) ?_
          refine lv_iload_n hx hb dX0_lineFor_22 rfl (lv_at hl 3 rfl) ?_
          refine lv_aload_n hx hb dX0_lineFor_23 rfl (lv_at hl 2 rfl) ?_
          refine va_calli (va_runV (As := [.int x_1, .ref (ad 4)]) (rest := []) ⟨hx, hb, hml, hown, hts⟩ (x_holds l dC dI H.size ob ad cA hd fv_2 wd_6 ar_4 hF_fv_2 hA_ar_4 la lfr lra lrc lln lcn llr hlq x_1 i_16 (by omega)) (cwV 2 hts (gV kw_5_34 kw_5_36 kw_p_20 kw_1_10 kw_5_37) rfl rfl rfl (by decide +kernel) ⟨Nat.le_of_ble_eq_true rfl, Nat.le_of_ble_eq_true rfl⟩) ⟨fun a U g mk q => ⟨q.1, ⟨q.2.1.1, q.2.1.2.1, va_K.moved (u := U) (U := U.calling g mk a) (Vm.Alike.refl U.vm) q.2.1.2.2⟩, ⟨q.2.2.1, va_K.moved (u := U) (U := U.calling g mk a) (Vm.Alike.refl U.vm) q.2.2.2.1, q.2.2.2.2⟩⟩, va_recv (lw_K hL) (lw_now hL hS) (ci := 1) (q0 := 0) rfl rfl, fun U hU hW => ⟨rfl, ⟨by rw [hU], by rw [hU]; exact hP, va_K.moved hW.alike hK⟩, lw_pass hL hS hU hW.alike⟩⟩ rfl rfl hl.1 rfl (lv_room (Nat.le_of_ble_eq_true rfl)) dX0_lineFor_24 ⟨Nat.le_of_ble_eq_true rfl, Nat.le_of_ble_eq_true rfl⟩) hS (fun q _ h9 => aX_up hS q h9) (aX_up hS) (fun r_25 u t H1 locs ht _ hw hB _ hk1 hS => ?_)
          obtain ⟨fv_27, wd_28, ar_29⟩ := u
          obtain ⟨hF_fv_27, hA_ar_29, fr_30, fa_31, wf_32, p_26, -⟩ := hw
          have wf_32 : wd_28.2 = wd_6.2 := wf_32
          have hP : va_P (dC, dI) vwCl (wsX ob ad cA fv_27 wd_28 ar_29) H1 := by have h9 := hB.1; rw [ht] at h9; exact h9
          have fr_30 : fM [] fv_2 fv_27 := fr_30
          have fa_31 : fA [] ar_4 ar_29 := fa_31
          generalize H1 = H at hP hS ⊢
          refine lv_if_eq (tgt := 32) hx hb dX0_lineFor_27 (by decide) (fun c_33 => ?_) (fun c_33 => ?_)
          · skip
            have i_34 : 0 ≤ r_25.toInt ∧ r_25.toInt ≤ 0 := iv_eq1 (⟨by decide, by decide⟩ : (0 : Int) ≤ (0 : Int32).toInt ∧ (0 : Int32).toInt ≤ 0) c_33
            obtain ⟨v_36, ev_36⟩ : ∃ z : Int32, z = x_1 + 1 := ⟨_, rfl⟩
            refine lv_iinc (v := v_36) (lv' := [(3, .int v_36), (0, .ref la), (1, .int kd), (2, .ref (ad 4))]) hx hb dX0_lineFor_32 hl (k := 3) rfl (by rw [ev_36]; rfl) (by decide) rfl (fun ls hl => ?_)
            have t_37 : v_36.toInt = x_1.toInt + 1 ∧ 1 ≤ v_36.toInt ∧ v_36.toInt ≤ 16 := iv_addc ev_36 i_16 (by decide) (by decide) (by decide)
            refine lv_goto (tgt := 2) hx hb dX0_lineFor_35 (by decide) ?_
            exact ih_8 v_36 fv_27 ar_29 wd_28 _ _ ls (by omega) (iv_w t_37.2 (by decide) (by decide)) hF_fv_27 (fM_call (fM_call (fM_rf [] _) fr_3 (by decide)) fr_30 (by decide)) hA_ar_29 (fA_call (fA_call (fA_rf [] _) fa_5 (by decide)) fa_31 (by decide)) (wf_32.trans wf_7) hP hS (lv_sub hl [1, 2, 3, 0] rfl)
          · skip
            have i_39 : 1 ≤ r_25.toInt ∧ r_25.toInt ≤ 1 := iv_nel p_26 (by decide) c_33
            have k_40 : ¬ r_25.toInt = 0 := fun q => c_33 (Int32.toInt_inj.mp q)
            refine lv_iload_n hx hb dX0_lineFor_30 rfl (lv_at hl 3 rfl) ?_
            exact W.iret (v := x_1) hx hb hr (fun t ht hW => ⟨⟨x_1, (fv_27, wd_28, ar_29), rfl, ⟨hF_fv_27, hA_ar_29, (fM_call (fM_call (fM_rf [] _) fr_3 (by decide)) fr_30 (by decide)), (fA_call (fA_call (fA_rf [] _) fa_5 (by decide)) fa_31 (by decide)), (wf_32.trans wf_7), (iv_w i_16 (by decide) (by decide)), (show x_1.toInt < lln from by omega), trivial⟩, ⟨by rw [ht]; exact hP, va_K.moved hW.alike hK⟩⟩, hS.F ht⟩) hS.2.2 dX0_lineFor_31
  · skip
    have z_41 : (0 : Int32).toInt = 0 := by decide
    exact hj_10 17 0 fv ar wd _ _ ls (by first | decide | omega) (iv_w (⟨by decide, by decide⟩ : (0 : Int) ≤ (0 : Int32).toInt ∧ (0 : Int32).toInt ≤ 0) (by decide) (by decide)) hF_fv (fM_rf [] _) hA_ar (fA_rf [] _) rfl hP hS (lv_sub hl [1, 2, 3, 0] rfl)
set_option maxHeartbeats 4000000 in
set_option maxRecDepth 100000 in
theorem x_isAskedEmpty (l : Launch) (sz : Nat) (v : Int32) : Met l yX7_isAskedEmpty (.code yX7_isAskedEmpty cX7_isAskedEmpty 1 (some .boolean) :: lw_good) ({ frames := 2, cells := 0, slots := 0, locals := 40 }) (va_Pc [.int v] (fun U => U.heap.size = sz)) (va_Qi (fun (r : Int32) (_ : Unit) => (0 ≤ r.toInt ∧ r.toInt ≤ 1) ∧ True) (fun (_ : Unit) (_ : State) => True) (fun q => sz ≤ q)) 0 0 (fun q => sz ≤ q) := by
  refine Met.ofW (cc := cX7_isAskedEmpty) (maxL := 1) (ret := (some .boolean)) (by decide) rfl ?_
  intro p e s m args below meth c s₁ B hml hv
  obtain ⟨rfl, hsz⟩ := hv
  have hx := B.exec
  have hb := B.bytes
  have hr := B.returns
  have hts := atoms_spec (ws := (.code yX7_isAskedEmpty cX7_isAskedEmpty 1 (some .boolean) :: lw_good)) B.pre
  have htg : ∀ w ∈ lw_good, w.before _ s = true := fun w hw => hts w (List.mem_cons_of_mem _ hw)
  have hown : s.vm.findClass RX7 = some m.cls := findClass_of_methodNamed B.named
  have hlocks := B.notSynchronized
  subst hsz
  have hS : va_S (fun q => s.heap.size ≤ q) s.heap s.heap [] := va_S.rf
  have hl := lv_entry ([.int v]) (n := 1) (Nat.le_of_ble_eq_true rfl)
  rw [lg_entry_eq]
  generalize (lg_sl ([.int v]) ++ List.replicate (1 - (lg_sl ([.int v])).length) Slot.unset).toArray = ls at hl ⊢
  have hl : lv_has ls 1 [(0, .int v)] := hl
  refine lv_iload_n hx hb dX7_isAskedEmpty_0 rfl (lv_at hl 0 rfl) ?_
  refine lv_if_eq (tgt := 14) hx hb dX7_isAskedEmpty_1 (by decide) (fun c_1 => ?_) (fun c_1 => ?_)
  · skip
    have i_2 : 0 ≤ v.toInt ∧ v.toInt ≤ 0 := iv_eq1 (⟨by decide, by decide⟩ : (0 : Int) ≤ (0 : Int32).toInt ∧ (0 : Int32).toInt ≤ 0) c_1
    refine lv_iconst (v := 1) hx hb dX7_isAskedEmpty_14 (by decide) ?_
    refine lv_goto (tgt := 19) hx hb dX7_isAskedEmpty_15 (by decide) ?_
    exact W.zret (v := 1) hx hb hr (by decide) (fun t ht hW => ⟨⟨1, (), rfl, ⟨(iv_w (⟨by decide, by decide⟩ : (1 : Int) ≤ (1 : Int32).toInt ∧ (1 : Int32).toInt ≤ 1) (by decide) (by decide)), trivial⟩, trivial⟩, hS.F ht⟩) hS.2.2 dX7_isAskedEmpty_19
  · skip
    refine lv_iload_n hx hb dX7_isAskedEmpty_4 rfl (lv_at hl 0 rfl) ?_
    refine lv_iconst (v := 2) hx hb dX7_isAskedEmpty_5 (by decide) ?_
    refine lv_icmp_eq (tgt := 14) hx hb dX7_isAskedEmpty_6 (by decide) (fun c_3 => ?_) (fun c_3 => ?_)
    · skip
      have i_4 : 2 ≤ v.toInt ∧ v.toInt ≤ 2 := iv_eq1 (⟨by decide, by decide⟩ : (2 : Int) ≤ (2 : Int32).toInt ∧ (2 : Int32).toInt ≤ 2) c_3
      refine lv_iconst (v := 1) hx hb dX7_isAskedEmpty_14 (by decide) ?_
      refine lv_goto (tgt := 19) hx hb dX7_isAskedEmpty_15 (by decide) ?_
      exact W.zret (v := 1) hx hb hr (by decide) (fun t ht hW => ⟨⟨1, (), rfl, ⟨(iv_w (⟨by decide, by decide⟩ : (1 : Int) ≤ (1 : Int32).toInt ∧ (1 : Int32).toInt ≤ 1) (by decide) (by decide)), trivial⟩, trivial⟩, hS.F ht⟩) hS.2.2 dX7_isAskedEmpty_19
    · skip
      refine lv_iload_n hx hb dX7_isAskedEmpty_9 rfl (lv_at hl 0 rfl) ?_
      refine lv_iconst (v := 5) hx hb dX7_isAskedEmpty_10 (by decide) ?_
      refine lv_icmp_ne (tgt := 18) hx hb dX7_isAskedEmpty_11 (by decide) (fun c_5 => ?_) (fun c_5 => ?_)
      · skip
        refine lv_iconst (v := 0) hx hb dX7_isAskedEmpty_18 (by decide) ?_
        exact W.zret (v := 0) hx hb hr (by decide) (fun t ht hW => ⟨⟨0, (), rfl, ⟨(iv_w (⟨by decide, by decide⟩ : (0 : Int) ≤ (0 : Int32).toInt ∧ (0 : Int32).toInt ≤ 0) (by decide) (by decide)), trivial⟩, trivial⟩, hS.F ht⟩) hS.2.2 dX7_isAskedEmpty_19
      · skip
        have i_6 : 5 ≤ v.toInt ∧ v.toInt ≤ 5 := iv_eq1 (⟨by decide, by decide⟩ : (5 : Int) ≤ (5 : Int32).toInt ∧ (5 : Int32).toInt ≤ 5) c_5
        refine lv_iconst (v := 1) hx hb dX7_isAskedEmpty_14 (by decide) ?_
        refine lv_goto (tgt := 19) hx hb dX7_isAskedEmpty_15 (by decide) ?_
        exact W.zret (v := 1) hx hb hr (by decide) (fun t ht hW => ⟨⟨1, (), rfl, ⟨(iv_w (⟨by decide, by decide⟩ : (1 : Int) ≤ (1 : Int32).toInt ∧ (1 : Int32).toInt ≤ 1) (by decide) (by decide)), trivial⟩, trivial⟩, hS.F ht⟩) hS.2.2 dX7_isAskedEmpty_19
set_option maxHeartbeats 4000000 in
set_option maxRecDepth 100000 in
theorem x_ask (l : Launch) (dC : Nat → ClassId) (dI : Nat → Nat → Nat) (sz : Nat) (ob ad : Nat → Nat) (cA : Nat → ClassId) (hd : dX ob ad) (fv : Nat → Int32) (wd : xT) (ar : Nat → Nat → Int32) (hF_fv : rX fv) (hA_ar : rB ar) (la : Nat) (lfr : Int32) (lra : Nat → Nat) (lrc : Nat → ClassId) (lln lcn : Nat) (llr : Nat → Nat → Int32) (hlq : lwQ lln lcn llr) (kk : Int32) (a : Int32) (b : Int32) (d : Int32) (h_kk : 0 ≤ kk.toInt ∧ kk.toInt ≤ 79) : Met l yX7_ask (.code yX7_ask cX7_ask 7 (some .int) :: lw_good) ({ frames := 4, cells := 0, slots := 0, locals := 89 }) (va_Pc [.ref (ob 1), .ref la, .int kk, .int a, .int b, .int d] (fun U => prX dC dI ob ad cA fv wd ar sz U ∧ lwA dC dI ob ad la lfr lra lrc lln lcn llr sz U)) (va_Qi (fun (r : Int32) (u : xS) => rX u.1 ∧ rB u.2.2 ∧ fM [6] fv u.1 ∧ fA [4] ar u.2.2 ∧ u.2.1.2 = wd.2 ∧ True) (enX dC dI ob ad cA) (aX ob ad sz)) 0 0 (aX ob ad sz) := by
  refine Met.ofW (cc := cX7_ask) (maxL := 7) (ret := (some .int)) (by decide) rfl ?_
  intro p e s m args below meth c s₁ B hml hv
  obtain ⟨rfl, ⟨hsz, hP, hK⟩, hL⟩ := hv
  have hx := B.exec
  have hb := B.bytes
  have hr := B.returns
  have hts := atoms_spec (ws := (.code yX7_ask cX7_ask 7 (some .int) :: lw_good)) B.pre
  have htg : ∀ w ∈ lw_good, w.before _ s = true := fun w hw => hts w (List.mem_cons_of_mem _ hw)
  have hown : s.vm.findClass RX7 = some m.cls := findClass_of_methodNamed B.named
  have hlocks := B.notSynchronized
  subst hsz
  have hS : va_S (aX ob ad s.heap.size) s.heap s.heap [] := va_S.rf
  have hl := lv_entry ([.ref (ob 1), .ref la, .int kk, .int a, .int b, .int d]) (n := 7) (Nat.le_of_ble_eq_true rfl)
  rw [lg_entry_eq]
  generalize (lg_sl ([.ref (ob 1), .ref la, .int kk, .int a, .int b, .int d]) ++ List.replicate (7 - (lg_sl ([.ref (ob 1), .ref la, .int kk, .int a, .int b, .int d])).length) Slot.unset).toArray = ls at hl ⊢
  have hl : lv_has ls 7 [(0, .ref (ob 1)), (1, .ref la), (2, .int kk), (3, .int a), (4, .int b), (5, .int d)] := hl
  refine lv_aload_n hx hb dX7_ask_0 rfl (lv_at hl 0 rfl) ?_
  refine gX_X7_28 hx hb htg hown hK hP dX7_ask_1 ?_
  refine gX_X7_83 hx hb htg hown hK hP dX7_ask_4 ?_
  refine lv_aload_n hx hb dX7_ask_7 rfl (lv_at hl 0 rfl) ?_
  refine gX_X7_35 hx hb htg hown hK hP dX7_ask_8 ?_
  refine gX_X7_86 hx hb htg hown hK hP dX7_ask_11 ?_
  refine lv_iload_n hx hb dX7_ask_14 rfl (lv_at hl 2 rfl) ?_
  refine lX_28 hx hb hK hP (iv_in h_kk (by decide) (by decide)) dX7_ask_15 (fun v_1 ev_1 => ?_)
  have i_2 : 0 ≤ v_1.toInt ∧ v_1.toInt ≤ 19 := ev_1 ▸ hA_ar 28 _
  refine lX_20 hx hb hK hP (iv_in i_2 (by decide) (by decide)) dX7_ask_16 (fun v_3 ev_3 => ?_)
  refine lv_iconst (v := 2) hx hb dX7_ask_17 (by decide) ?_
  refine my_cut (P := fun R9 a9 Q9 => ∀ (x_8 : Int32) (H : Heap) (locs : List Loc) (ls : Array Slot), (0 ≤ x_8.toInt ∧ x_8.toInt ≤ 1) → va_P (dC, dI) vwCl (wsX ob ad cA fv wd ar) H → va_S (aX ob ad s.heap.size) s.heap H locs → lv_has ls 7 [(0, .ref (ob 1)), (1, .ref la), (2, .int kk), (3, .int a), (4, .int b), (5, .int d)] → W p l e R9 s m a9 below meth c H locs 0 0 Q9 (F0 m 26 ls [.int x_8])) ?_ (fun hj_9 => ?_)
  · intro x_8 H locs ls i_x_8 hP hS hl
    refine lv_istore (lv' := [(6, .int x_8), (0, .ref (ob 1)), (1, .ref la), (2, .int kk), (3, .int a), (4, .int b), (5, .int d)]) hx hb dX7_ask_26 hl (by decide) rfl (fun ls hl => ?_)
    refine lv_aload_n hx hb dX7_ask_28 rfl (lv_at hl 1 rfl) ?_
    refine lv_iload_n hx hb dX7_ask_29 rfl (lv_at hl 3 rfl) ?_
    refine lv_iload_n hx hb dX7_ask_30 rfl (lv_at hl 4 rfl) ?_
    refine va_calli (va_runS (As := [.int a]) (rest := [.int kk, .ref (ob 1)]) ⟨hx, hb, hml, hown, hts⟩ (x_isAskedEmpty l H.size a) (va_cwS 1 hts (gS kw_5_22 kw_5_23 kw_1_2 kw_5_24) rfl rfl rfl (by decide +kernel) ⟨Nat.le_of_ble_eq_true rfl, Nat.le_of_ble_eq_true rfl⟩) ⟨fun a U g mk q => ⟨q.1, q.2⟩, fun U hU hW => ⟨rfl, congrArg Array.size hU⟩⟩ rfl rfl hl.1 rfl (lv_room (Nat.le_of_ble_eq_true rfl)) dX7_ask_31 ⟨Nat.le_of_ble_eq_true rfl, Nat.le_of_ble_eq_true rfl⟩) hS (fun q _ h9 => nX_up hS q h9) (nX_up hS) (fun r_10 u t H1 locs ht _ hw hB _ hk1 hS => ?_)
    obtain ⟨p_11, -⟩ := hw
    have hP := my_keepM hP hk1
    generalize H1 = H at hP hS ⊢
    refine my_cut (P := fun R9 a9 Q9 => ∀ (x_17 : Int32) (H : Heap) (locs : List Loc) (ls : Array Slot), va_P (dC, dI) vwCl (wsX ob ad cA fv wd ar) H → va_S (aX ob ad s.heap.size) s.heap H locs → lv_has ls 7 [(0, .ref (ob 1)), (1, .ref la), (3, .int a), (5, .int d), (6, .int x_8)] → W p l e R9 s m a9 below meth c H locs 0 0 Q9 (F0 m 43 ls [.int x_17, .int kk, .ref (ob 1)])) ?_ (fun hj_18 => ?_)
    · intro x_17 H locs ls  hP hS hl
      refine lv_iload hx hb dX7_ask_43 (lv_at hl 3 rfl) ?_
      refine va_callv (va_runV (As := [.int kk, .int x_17, .int d]) (rest := []) ⟨hx, hb, hml, hown, hts⟩ (x_setFacts l dC dI H.size ob ad cA hd fv wd ar hF_fv hA_ar kk x_17 d h_kk) (cwV 3 hts (gV kw_5_25 kw_5_27 kw_p_19 kw_1_2 kw_5_28) rfl rfl rfl (by decide +kernel) ⟨Nat.le_of_ble_eq_true rfl, Nat.le_of_ble_eq_true rfl⟩) ⟨fun a U g mk q => ⟨q.1, q.2.1, q.2.2.1, va_K.moved (u := U) (U := U.calling g mk a) (Vm.Alike.refl U.vm) q.2.2.2⟩, va_recv hK hP (ci := 7) (q0 := 1) rfl rfl, fun U hU hW => ⟨rfl, by rw [hU], by rw [hU]; exact hP, va_K.moved hW.alike hK⟩⟩ rfl rfl hl.1 rfl (lv_room (Nat.le_of_ble_eq_true rfl)) dX7_ask_45 ⟨Nat.le_of_ble_eq_true rfl, Nat.le_of_ble_eq_true rfl⟩) hS (fun q _ h9 => aX_up hS q h9) (aX_up hS) (fun u t H1 locs ht _ hw hB _ hk1 hS => ?_)
      obtain ⟨fv_20, wd_21, ar_22⟩ := u
      obtain ⟨hF_fv_20, hA_ar_22, fr_23, fa_24, wf_25, -⟩ := hw
      have wf_25 : wd_21.2 = wd.2 := wf_25
      have hP : va_P (dC, dI) vwCl (wsX ob ad cA fv_20 wd_21 ar_22) H1 := by have h9 := hB.1; rw [ht] at h9; exact h9
      have fr_23 : fM [] fv fv_20 := fr_23
      have fa_24 : fA [4] ar ar_22 := fa_24
      generalize H1 = H at hP hS ⊢
      refine lv_aload_n hx hb dX7_ask_48 rfl (lv_at hl 0 rfl) ?_
      refine lv_iload_n hx hb dX7_ask_49 rfl (lv_at hl 2 rfl) ?_
      refine lv_iconst (v := 5) hx hb dX7_ask_50 (by decide) ?_
      refine my_cut (P := fun R9 a9 Q9 => ∀ (x_53 : Int32) (fv_54 : Nat → Int32) (ar_56 : Nat → Nat → Int32) (wd_58 : xT) (H : Heap) (locs : List Loc) (ls : Array Slot), ((-1) ≤ x_53.toInt ∧ x_53.toInt ≤ 15) → rX fv_54 → fM [] fv_20 fv_54 → rB ar_56 → fA [] ar_22 ar_56 → wd_58.2 = wd_21.2 → (x_53.toInt < lln) → va_P (dC, dI) vwCl (wsX ob ad cA fv_54 wd_58 ar_56) H → va_S (aX ob ad s.heap.size) s.heap H locs → lv_has ls 7 [(0, .ref (ob 1)), (1, .ref la), (3, .int a), (6, .int x_8)] → W p l e R9 s m a9 below meth c H locs 0 0 Q9 (F0 m 72 ls [.int x_53, .ref (ob 1)])) ?_ (fun hj_61 => ?_)
      · intro x_53 fv_54 ar_56 wd_58 H locs ls i_x_53 hF_fv_54 fr_55 hA_ar_56 fa_57 wf_59 q_60 hP hS hl
        refine pX_X7_137 hx hb htg hown hK hP hS hd dX7_ask_72 (fun H locs fv_62 efv_62 hP hS => ?_)
        have hF_fv_62 : rX fv_62 := rX_put hF_fv_54 efv_62 (iv_any _)
        refine lv_aload_n hx hb dX7_ask_75 rfl (lv_at hl 0 rfl) ?_
        refine gX_X7_137 hx hb htg hown hK hP dX7_ask_76 ?_
        refine my_ti (y := x_53) ((congrFun efv_62 6)) ?_
        refine lv_iconst (v := (-1)) hx hb dX7_ask_79 (by decide) ?_
        refine lv_icmp_ne (tgt := 92) hx hb dX7_ask_80 (by decide) (fun c_63 => ?_) (fun c_63 => ?_)
        · skip
          have i_64 : 0 ≤ x_53.toInt ∧ x_53.toInt ≤ 15 := iv_nel i_x_53 (by decide) c_63
          have k_65 : ¬ x_53.toInt = (-1) := fun q => c_63 (Int32.toInt_inj.mp q)
          refine lv_aload_n hx hb dX7_ask_92 rfl (lv_at hl 1 rfl) ?_
          refine gL_X7_144 hx hb htg hown (lw_K hL) (lw_now hL hS) dX7_ask_93 ?_
          refine lv_aload_n hx hb dX7_ask_96 rfl (lv_at hl 0 rfl) ?_
          refine gX_X7_137 hx hb htg hown hK hP dX7_ask_97 ?_
          refine my_ti (y := x_53) ((congrFun efv_62 6)) ?_
          refine lL_2 hx hb (lw_K hL) (lw_now hL hS) (vp_in_iff.mpr (by omega)) dX7_ask_100 (fun v_66 ev_66 => ?_)
          exact W.iret (v := v_66) hx hb hr (fun t ht hW => ⟨⟨v_66, (fv_62, wd_58, ar_56), rfl, ⟨hF_fv_62, hA_ar_56, (fM_put (fM_call (fM_call (fM_rf [6] _) fr_23 (by decide)) fr_55 (by decide)) efv_62 (by decide)), (fA_call (fA_call (fA_rf [4] _) fa_24 (by decide)) fa_57 (by decide)), (wf_59.trans wf_25), trivial⟩, ⟨by rw [ht]; exact hP, va_K.moved hW.alike hK⟩⟩, hS.F ht⟩) hS.2.2 dX7_ask_101
        · skip
          have i_67 : (-1) ≤ x_53.toInt ∧ x_53.toInt ≤ (-1) := iv_eq1 (⟨by decide, by decide⟩ : (-1 : Int) ≤ ((-1) : Int32).toInt ∧ ((-1) : Int32).toInt ≤ -1) c_63
          refine lv_iload hx hb dX7_ask_83 (lv_at hl 3 rfl) ?_
          refine lv_iload_n hx hb dX7_ask_85 rfl (lv_at hl 2 rfl) ?_
          refine va_calli (va_runS (As := [.int x_8, .int a]) (rest := []) ⟨hx, hb, hml, hown, hts⟩ (x_plainValue l H.size x_8 a i_x_8) (va_cwS 2 hts (gS kw_5_38 kw_5_39 kw_1_2 kw_5_40) rfl rfl rfl (by decide +kernel) ⟨Nat.le_of_ble_eq_true rfl, Nat.le_of_ble_eq_true rfl⟩) ⟨fun a U g mk q => ⟨q.1, q.2⟩, fun U hU hW => ⟨rfl, congrArg Array.size hU⟩⟩ rfl rfl hl.1 rfl (lv_room (Nat.le_of_ble_eq_true rfl)) dX7_ask_86 ⟨Nat.le_of_ble_eq_true rfl, Nat.le_of_ble_eq_true rfl⟩) hS (fun q _ h9 => nX_up hS q h9) (nX_up hS) (fun r_69 u t H1 locs ht _ hw hB _ hk1 hS => ?_)
          have hP := my_keepM hP hk1
          generalize H1 = H at hP hS ⊢
          refine lv_goto (tgt := 101) hx hb dX7_ask_89 (by decide) ?_
          exact W.iret (v := r_69) hx hb hr (fun t ht hW => ⟨⟨r_69, (fv_62, wd_58, ar_56), rfl, ⟨hF_fv_62, hA_ar_56, (fM_put (fM_call (fM_call (fM_rf [6] _) fr_23 (by decide)) fr_55 (by decide)) efv_62 (by decide)), (fA_call (fA_call (fA_rf [4] _) fa_24 (by decide)) fa_57 (by decide)), (wf_59.trans wf_25), trivial⟩, ⟨by rw [ht]; exact hP, va_K.moved hW.alike hK⟩⟩, hS.F ht⟩) hS.2.2 dX7_ask_101
      · skip
        refine lv_icmp_ne (tgt := 63) hx hb dX7_ask_51 (by decide) (fun c_26 => ?_) (fun c_26 => ?_)
        · skip
          have k_27 : ¬ a.toInt = 5 := fun q => c_26 (Int32.toInt_inj.mp q)
          refine lv_aload_n hx hb dX7_ask_63 rfl (lv_at hl 1 rfl) ?_
          refine lv_iload_n hx hb dX7_ask_64 rfl (lv_at hl 2 rfl) ?_
          refine lv_aload_n hx hb dX7_ask_65 rfl (lv_at hl 0 rfl) ?_
          refine gX_X7_62 hx hb htg hown hK hP dX7_ask_66 ?_
          refine va_calli (va_runV (As := [.int a, .ref (ad 4)]) (rest := [.ref (ob 1)]) ⟨hx, hb, hml, hown, hts⟩ (x_lineFor l dC dI H.size ob ad cA hd fv_20 wd_21 ar_22 hF_fv_20 hA_ar_22 la lfr lra lrc lln lcn llr hlq a) (cwV 2 hts (gV kw_5_30 kw_5_31 kw_5_32 kw_1_10 kw_5_33) rfl rfl rfl (by decide +kernel) ⟨Nat.le_of_ble_eq_true rfl, Nat.le_of_ble_eq_true rfl⟩) ⟨fun a U g mk q => ⟨q.1, ⟨q.2.1.1, q.2.1.2.1, va_K.moved (u := U) (U := U.calling g mk a) (Vm.Alike.refl U.vm) q.2.1.2.2⟩, ⟨q.2.2.1, va_K.moved (u := U) (U := U.calling g mk a) (Vm.Alike.refl U.vm) q.2.2.2.1, q.2.2.2.2⟩⟩, va_recv (lw_K hL) (lw_now hL hS) (ci := 1) (q0 := 0) rfl rfl, fun U hU hW => ⟨rfl, ⟨by rw [hU], by rw [hU]; exact hP, va_K.moved hW.alike hK⟩, lw_pass hL hS hU hW.alike⟩⟩ rfl rfl hl.1 rfl (lv_room (Nat.le_of_ble_eq_true rfl)) dX7_ask_69 ⟨Nat.le_of_ble_eq_true rfl, Nat.le_of_ble_eq_true rfl⟩) hS (fun q _ h9 => aX_up hS q h9) (aX_up hS) (fun r_28 u t H1 locs ht _ hw hB _ hk1 hS => ?_)
          obtain ⟨fv_31, wd_32, ar_33⟩ := u
          obtain ⟨hF_fv_31, hA_ar_33, fr_34, fa_35, wf_36, p_29, p_30, -⟩ := hw
          have wf_36 : wd_32.2 = wd_21.2 := wf_36
          have hP : va_P (dC, dI) vwCl (wsX ob ad cA fv_31 wd_32 ar_33) H1 := by have h9 := hB.1; rw [ht] at h9; exact h9
          have fr_34 : fM [] fv_20 fv_31 := fr_34
          have fa_35 : fA [] ar_22 ar_33 := fa_35
          have p_30 : r_28.toInt < lln := p_30
          generalize H1 = H at hP hS ⊢
          exact hj_61 r_28 fv_31 ar_33 wd_32 _ _ ls p_29 hF_fv_31 (fM_call (fM_rf [] _) fr_34 (by decide)) hA_ar_33 (fA_call (fA_rf [] _) fa_35 (by decide)) wf_36 (by omega) hP hS (lv_sub hl [0, 1, 2, 4] rfl)
        · skip
          have i_37 : 5 ≤ a.toInt ∧ a.toInt ≤ 5 := iv_eq1 (⟨by decide, by decide⟩ : (5 : Int) ≤ (5 : Int32).toInt ∧ (5 : Int32).toInt ≤ 5) c_26
          refine lv_iload hx hb dX7_ask_54 (lv_at hl 4 rfl) ?_
          refine lv_if_eq (tgt := 63) hx hb dX7_ask_56 (by decide) (fun c_39 => ?_) (fun c_39 => ?_)
          · skip
            have i_40 : 0 ≤ x_8.toInt ∧ x_8.toInt ≤ 0 := iv_eq1 (⟨by decide, by decide⟩ : (0 : Int) ≤ (0 : Int32).toInt ∧ (0 : Int32).toInt ≤ 0) c_39
            refine lv_aload_n hx hb dX7_ask_63 rfl (lv_at hl 1 rfl) ?_
            refine lv_iload_n hx hb dX7_ask_64 rfl (lv_at hl 2 rfl) ?_
            refine lv_aload_n hx hb dX7_ask_65 rfl (lv_at hl 0 rfl) ?_
            refine gX_X7_62 hx hb htg hown hK hP dX7_ask_66 ?_
            refine va_calli (va_runV (As := [.int a, .ref (ad 4)]) (rest := [.ref (ob 1)]) ⟨hx, hb, hml, hown, hts⟩ (x_lineFor l dC dI H.size ob ad cA hd fv_20 wd_21 ar_22 hF_fv_20 hA_ar_22 la lfr lra lrc lln lcn llr hlq a) (cwV 2 hts (gV kw_5_30 kw_5_31 kw_5_32 kw_1_10 kw_5_33) rfl rfl rfl (by decide +kernel) ⟨Nat.le_of_ble_eq_true rfl, Nat.le_of_ble_eq_true rfl⟩) ⟨fun a U g mk q => ⟨q.1, ⟨q.2.1.1, q.2.1.2.1, va_K.moved (u := U) (U := U.calling g mk a) (Vm.Alike.refl U.vm) q.2.1.2.2⟩, ⟨q.2.2.1, va_K.moved (u := U) (U := U.calling g mk a) (Vm.Alike.refl U.vm) q.2.2.2.1, q.2.2.2.2⟩⟩, va_recv (lw_K hL) (lw_now hL hS) (ci := 1) (q0 := 0) rfl rfl, fun U hU hW => ⟨rfl, ⟨by rw [hU], by rw [hU]; exact hP, va_K.moved hW.alike hK⟩, lw_pass hL hS hU hW.alike⟩⟩ rfl rfl hl.1 rfl (lv_room (Nat.le_of_ble_eq_true rfl)) dX7_ask_69 ⟨Nat.le_of_ble_eq_true rfl, Nat.le_of_ble_eq_true rfl⟩) hS (fun q _ h9 => aX_up hS q h9) (aX_up hS) (fun r_42 u t H1 locs ht _ hw hB _ hk1 hS => ?_)
            obtain ⟨fv_45, wd_46, ar_47⟩ := u
            obtain ⟨hF_fv_45, hA_ar_47, fr_48, fa_49, wf_50, p_43, p_44, -⟩ := hw
            have wf_50 : wd_46.2 = wd_21.2 := wf_50
            have hP : va_P (dC, dI) vwCl (wsX ob ad cA fv_45 wd_46 ar_47) H1 := by have h9 := hB.1; rw [ht] at h9; exact h9
            have fr_48 : fM [] fv_20 fv_45 := fr_48
            have fa_49 : fA [] ar_22 ar_47 := fa_49
            have p_44 : r_42.toInt < lln := p_44
            generalize H1 = H at hP hS ⊢
            exact hj_61 r_42 fv_45 ar_47 wd_46 _ _ ls p_43 hF_fv_45 (fM_call (fM_rf [] _) fr_48 (by decide)) hA_ar_47 (fA_call (fA_rf [] _) fa_49 (by decide)) wf_50 (by omega) hP hS (lv_sub hl [0, 1, 2, 4] rfl)
          · skip
            have i_51 : 1 ≤ x_8.toInt ∧ x_8.toInt ≤ 1 := iv_nel i_x_8 (by decide) c_39
            have k_52 : ¬ x_8.toInt = 0 := fun q => c_39 (Int32.toInt_inj.mp q)
            refine lv_iconst (v := (-1)) hx hb dX7_ask_59 (by decide) ?_
            refine lv_goto (tgt := 72) hx hb dX7_ask_60 (by decide) ?_
            have z_70 : ((-1) : Int32).toInt = (-1) := by decide
            exact hj_61 (-1) fv_20 ar_22 wd_21 _ _ ls (iv_w (⟨by decide, by decide⟩ : (-1 : Int) ≤ ((-1) : Int32).toInt ∧ ((-1) : Int32).toInt ≤ -1) (by decide) (by decide)) hF_fv_20 (fM_rf [] _) hA_ar_22 (fA_rf [] _) rfl (by omega) hP hS (lv_sub hl [0, 1, 2, 4] rfl)
    · skip
      refine lv_if_eq (tgt := 41) hx hb dX7_ask_34 (by decide) (fun c_12 => ?_) (fun c_12 => ?_)
      · skip
        have i_13 : 0 ≤ r_10.toInt ∧ r_10.toInt ≤ 0 := iv_eq1 (⟨by decide, by decide⟩ : (0 : Int) ≤ (0 : Int32).toInt ∧ (0 : Int32).toInt ≤ 0) c_12
        refine lv_iload hx hb dX7_ask_41 (lv_at hl 5 rfl) ?_
        exact hj_18 b _ _ ls  hP hS (lv_sub hl [1, 2, 4, 6, 0] rfl)
      · skip
        have i_15 : 1 ≤ r_10.toInt ∧ r_10.toInt ≤ 1 := iv_nel p_11 (by decide) c_12
        have k_16 : ¬ r_10.toInt = 0 := fun q => c_12 (Int32.toInt_inj.mp q)
        refine lv_iconst (v := 0) hx hb dX7_ask_37 (by decide) ?_
        refine lv_goto (tgt := 43) hx hb dX7_ask_38 (by decide) ?_
        exact hj_18 0 _ _ ls  hP hS (lv_sub hl [1, 2, 4, 6, 0] rfl)
  · skip
    refine lv_icmp_ne (tgt := 25) hx hb dX7_ask_18 (by decide) (fun c_4 => ?_) (fun c_4 => ?_)
    · skip
      have k_5 : ¬ v_3.toInt = 2 := fun q => c_4 (Int32.toInt_inj.mp q)
      refine lv_iconst (v := 0) hx hb dX7_ask_25 (by decide) ?_
      exact hj_9 0 _ _ ls (iv_w (⟨by decide, by decide⟩ : (0 : Int) ≤ (0 : Int32).toInt ∧ (0 : Int32).toInt ≤ 0) (by decide) (by decide)) hP hS (lv_sub hl [0, 1, 2, 3, 4, 5] rfl)
    · skip
      have i_6 : 2 ≤ v_3.toInt ∧ v_3.toInt ≤ 2 := iv_eq1 (⟨by decide, by decide⟩ : (2 : Int) ≤ (2 : Int32).toInt ∧ (2 : Int32).toInt ≤ 2) c_4
      refine lv_iconst (v := 1) hx hb dX7_ask_21 (by decide) ?_
      refine lv_goto (tgt := 26) hx hb dX7_ask_22 (by decide) ?_
      exact hj_9 1 _ _ ls (iv_w (⟨by decide, by decide⟩ : (1 : Int) ≤ (1 : Int32).toInt ∧ (1 : Int32).toInt ≤ 1) (by decide) (by decide)) hP hS (lv_sub hl [0, 1, 2, 3, 4, 5] rfl)
set_option maxHeartbeats 4000000 in
set_option maxRecDepth 100000 in
theorem x_halt (l : Launch) (dC : Nat → ClassId) (dI : Nat → Nat → Nat) (sz : Nat) (ob ad : Nat → Nat) (cA : Nat → ClassId) (hd : dX ob ad) (fv : Nat → Int32) (wd : xT) (ar : Nat → Nat → Int32) (hF_fv : rX fv) (hA_ar : rB ar) (la : Nat) (lfr : Int32) (lra : Nat → Nat) (lrc : Nat → ClassId) (lln lcn : Nat) (llr : Nat → Nat → Int32) (hlq : lwQ lln lcn llr) (kk : Int32) (a : Int32) (h_kk : 0 ≤ kk.toInt ∧ kk.toInt ≤ 79) (hlr : wd.2.2.1 = la) : Met l yX1_halt (.code yX1_halt cX1_halt 7 (some .int) :: lw_good) ({ frames := 5, cells := 0, slots := 0, locals := 115 }) (va_Pc [.ref (ob 8), .int kk, .int a] (fun U => prX dC dI ob ad cA fv wd ar sz U ∧ lwA dC dI ob ad la lfr lra lrc lln lcn llr sz U)) (va_Qi (fun (r : Int32) (u : xS) => rX u.1 ∧ rB u.2.2 ∧ fM [6, 23] fv u.1 ∧ fA [4, 49, 50, 51, 52, 53] ar u.2.2 ∧ u.2.1.2 = wd.2 ∧ True) (enX dC dI ob ad cA) (aX ob ad sz)) 0 0 (aX ob ad sz) := by
  refine Met.ofW (cc := cX1_halt) (maxL := 7) (ret := (some .int)) (by decide) rfl ?_
  intro p e s m args below meth c s₁ B hml hv
  obtain ⟨rfl, ⟨hsz, hP, hK⟩, hL⟩ := hv
  have hx := B.exec
  have hb := B.bytes
  have hr := B.returns
  have hts := atoms_spec (ws := (.code yX1_halt cX1_halt 7 (some .int) :: lw_good)) B.pre
  have htg : ∀ w ∈ lw_good, w.before _ s = true := fun w hw => hts w (List.mem_cons_of_mem _ hw)
  have hown : s.vm.findClass RX1 = some m.cls := findClass_of_methodNamed B.named
  have hlocks := B.notSynchronized
  subst hsz
  have hS : va_S (aX ob ad s.heap.size) s.heap s.heap [] := va_S.rf
  have hl := lv_entry ([.ref (ob 8), .int kk, .int a]) (n := 7) (Nat.le_of_ble_eq_true rfl)
  rw [lg_entry_eq]
  generalize (lg_sl ([.ref (ob 8), .int kk, .int a]) ++ List.replicate (7 - (lg_sl ([.ref (ob 8), .int kk, .int a])).length) Slot.unset).toArray = ls at hl ⊢
  have hl : lv_has ls 7 [(0, .ref (ob 8)), (1, .int kk), (2, .int a)] := hl
  refine lv_aload_n hx hb dX1_halt_0 rfl (lv_at hl 0 rfl) ?_
  refine gX_X1_9 hx hb htg hown hK hP dX1_halt_1 ?_
  refine gX_X1_157 hx hb htg hown hK hP dX1_halt_4 ?_
  refine gX_X1_176 hx hb htg hown hK hP dX1_halt_7 ?_
  refine lv_iload_n hx hb dX1_halt_10 rfl (lv_at hl 1 rfl) ?_
  refine lX_28 hx hb hK hP (iv_in h_kk (by decide) (by decide)) dX1_halt_11 (fun v_1 ev_1 => ?_)
  have i_2 : 0 ≤ v_1.toInt ∧ v_1.toInt ≤ 19 := ev_1 ▸ hA_ar 28 _
  refine lv_istore_n (lv' := [(3, .int v_1), (0, .ref (ob 8)), (1, .int kk), (2, .int a)]) hx hb dX1_halt_12 rfl hl (by decide) rfl (fun ls hl => ?_)
  refine lv_aload_n hx hb dX1_halt_13 rfl (lv_at hl 1 rfl) ?_
  refine gX_X1_9 hx hb htg hown hK hP dX1_halt_14 ?_
  refine lv_aload_n hx hb dX1_halt_17 rfl (lv_at hl 1 rfl) ?_
  refine gX_X1_30 hx hb htg hown hK hP dX1_halt_18 ?_
  refine my_tr (w := la) (hlr) ?_
  refine lv_iload_n hx hb dX1_halt_21 rfl (lv_at hl 2 rfl) ?_
  refine lv_iconst (v := 4) hx hb dX1_halt_22 (by decide) ?_
  refine lv_iload_n hx hb dX1_halt_23 rfl (lv_at hl 3 rfl) ?_
  refine lv_aload_n hx hb dX1_halt_24 rfl (lv_at hl 1 rfl) ?_
  refine gX_X1_62 hx hb htg hown hK hP dX1_halt_25 ?_
  refine lv_iload_n hx hb dX1_halt_28 rfl (lv_at hl 0 rfl) ?_
  refine lX_52 hx hb hK hP (iv_in i_2 (by decide) (by decide)) dX1_halt_29 (fun v_3 ev_3 => ?_)
  refine va_calli (va_runV (As := [.ref la, .int kk, .int 4, .int a, .int v_3]) (rest := []) ⟨hx, hb, hml, hown, hts⟩ (x_ask l dC dI s.heap.size ob ad cA hd fv wd ar hF_fv hA_ar la lfr lra lrc lln lcn llr hlq kk 4 a v_3 h_kk) (cwV 5 hts (gV kw_5_169 kw_5_19 kw_5_20 kw_1_2 kw_5_21) rfl rfl rfl (by decide +kernel) ⟨Nat.le_of_ble_eq_true rfl, Nat.le_of_ble_eq_true rfl⟩) ⟨fun a U g mk q => ⟨q.1, ⟨q.2.1.1, q.2.1.2.1, va_K.moved (u := U) (U := U.calling g mk a) (Vm.Alike.refl U.vm) q.2.1.2.2⟩, ⟨q.2.2.1, va_K.moved (u := U) (U := U.calling g mk a) (Vm.Alike.refl U.vm) q.2.2.2.1, q.2.2.2.2⟩⟩, va_recv hK hP (ci := 7) (q0 := 1) rfl rfl, fun U hU hW => ⟨rfl, ⟨by rw [hU], by rw [hU]; exact hP, va_K.moved hW.alike hK⟩, lw_pass hL hS hU hW.alike⟩⟩ rfl rfl hl.1 rfl (lv_room (Nat.le_of_ble_eq_true rfl)) dX1_halt_30 ⟨Nat.le_of_ble_eq_true rfl, Nat.le_of_ble_eq_true rfl⟩) hS (fun q _ h9 => aX_up hS q h9) (aX_up hS) (fun r_4 u t H1 locs ht _ hw hB _ hk1 hS => ?_)
  obtain ⟨fv_5, wd_6, ar_7⟩ := u
  obtain ⟨hF_fv_5, hA_ar_7, fr_8, fa_9, wf_10, -⟩ := hw
  have wf_10 : wd_6.2 = wd.2 := wf_10
  have hP : va_P (dC, dI) vwCl (wsX ob ad cA fv_5 wd_6 ar_7) H1 := by have h9 := hB.1; rw [ht] at h9; exact h9
  have fr_8 : fM [6] fv fv_5 := fr_8
  have fa_9 : fA [4] ar ar_7 := fa_9
  generalize H1 = H at hP hS ⊢
  refine lv_istore (lv' := [(4, .int r_4), (3, .int v_1), (0, .ref (ob 8)), (1, .int kk), (2, .int a)]) hx hb dX1_halt_33 hl (by decide) rfl (fun ls hl => ?_)
  refine lv_aload_n hx hb dX1_halt_35 rfl (lv_at hl 2 rfl) ?_
  refine gX_X1_9 hx hb htg hown hK hP dX1_halt_36 ?_
  refine lv_aload_n hx hb dX1_halt_39 rfl (lv_at hl 2 rfl) ?_
  refine gX_X1_30 hx hb htg hown hK hP dX1_halt_40 ?_
  refine my_tr (w := la) ((congrArg (fun z => z.2.1) wf_10).trans hlr) ?_
  refine lv_iload_n hx hb dX1_halt_43 rfl (lv_at hl 3 rfl) ?_
  refine lv_iconst (v := 3) hx hb dX1_halt_44 (by decide) ?_
  refine lv_iload_n hx hb dX1_halt_45 rfl (lv_at hl 4 rfl) ?_
  refine lv_aload_n hx hb dX1_halt_46 rfl (lv_at hl 2 rfl) ?_
  refine gX_X1_62 hx hb htg hown hK hP dX1_halt_47 ?_
  refine lv_iload_n hx hb dX1_halt_50 rfl (lv_at hl 1 rfl) ?_
  refine lX_52 hx hb hK hP (iv_in i_2 (by decide) (by decide)) dX1_halt_51 (fun v_11 ev_11 => ?_)
  obtain rfl : v_3 = v_11 := ev_3.trans ((congrFun ((fA_call (fA_rf [4] _) fa_9 (by decide)) 52 rfl) _).symm.trans ev_11.symm)
  refine va_calli (va_runV (As := [.ref la, .int kk, .int 3, .int a, .int v_3]) (rest := []) ⟨hx, hb, hml, hown, hts⟩ (x_ask l dC dI H.size ob ad cA hd fv_5 wd_6 ar_7 hF_fv_5 hA_ar_7 la lfr lra lrc lln lcn llr hlq kk 3 a v_3 h_kk) (cwV 5 hts (gV kw_5_169 kw_5_19 kw_5_20 kw_1_2 kw_5_21) rfl rfl rfl (by decide +kernel) ⟨Nat.le_of_ble_eq_true rfl, Nat.le_of_ble_eq_true rfl⟩) ⟨fun a U g mk q => ⟨q.1, ⟨q.2.1.1, q.2.1.2.1, va_K.moved (u := U) (U := U.calling g mk a) (Vm.Alike.refl U.vm) q.2.1.2.2⟩, ⟨q.2.2.1, va_K.moved (u := U) (U := U.calling g mk a) (Vm.Alike.refl U.vm) q.2.2.2.1, q.2.2.2.2⟩⟩, va_recv hK hP (ci := 7) (q0 := 1) rfl rfl, fun U hU hW => ⟨rfl, ⟨by rw [hU], by rw [hU]; exact hP, va_K.moved hW.alike hK⟩, lw_pass hL hS hU hW.alike⟩⟩ rfl rfl hl.1 rfl (lv_room (Nat.le_of_ble_eq_true rfl)) dX1_halt_52 ⟨Nat.le_of_ble_eq_true rfl, Nat.le_of_ble_eq_true rfl⟩) hS (fun q _ h9 => aX_up hS q h9) (aX_up hS) (fun r_12 u t H1 locs ht _ hw hB _ hk1 hS => ?_)
  obtain ⟨fv_13, wd_14, ar_15⟩ := u
  obtain ⟨hF_fv_13, hA_ar_15, fr_16, fa_17, wf_18, -⟩ := hw
  have wf_18 : wd_14.2 = wd_6.2 := wf_18
  have hP : va_P (dC, dI) vwCl (wsX ob ad cA fv_13 wd_14 ar_15) H1 := by have h9 := hB.1; rw [ht] at h9; exact h9
  have fr_16 : fM [6] fv_5 fv_13 := fr_16
  have fa_17 : fA [4] ar_7 ar_15 := fa_17
  generalize H1 = H at hP hS ⊢
  refine lv_istore (lv' := [(5, .int r_12), (4, .int r_4), (3, .int v_1), (0, .ref (ob 8)), (1, .int kk), (2, .int a)]) hx hb dX1_halt_55 hl (by decide) rfl (fun ls hl => ?_)
  refine lv_aload_n hx hb dX1_halt_57 rfl (lv_at hl 3 rfl) ?_
  refine gX_X1_62 hx hb htg hown hK hP dX1_halt_58 ?_
  refine lv_iload_n hx hb dX1_halt_61 rfl (lv_at hl 2 rfl) ?_
  refine lv_dup2_11 hx hb dX1_halt_62 rfl rfl ?_
  refine lX_52 hx hb hK hP (iv_in i_2 (by decide) (by decide)) dX1_halt_63 (fun v_19 ev_19 => ?_)
  obtain rfl : v_3 = v_19 := ev_3.trans ((congrFun ((fA_call (fA_call (fA_rf [4] _) fa_9 (by decide)) fa_17 (by decide)) 52 rfl) _).symm.trans ev_19.symm)
  refine lv_iconst (v := 1) hx hb dX1_halt_64 (by decide) ?_
  refine lv_iadd hx hb dX1_halt_65 ?_
  refine lv_topi (fun v_20 ev_20 => ?_)
  refine sX_52 hx hb hK hP hS hd (iv_in i_2 (by decide) (by decide)) dX1_halt_66 (fun H locs ar_21 ear_21 hP hS => ?_)
  have hA_ar_21 : rB ar_21 := rB_put hA_ar_15 ear_21 (iv_any _)
  refine lv_aload_n hx hb dX1_halt_67 rfl (lv_at hl 3 rfl) ?_
  refine lv_iload_n hx hb dX1_halt_68 rfl (lv_at hl 2 rfl) ?_
  refine lv_iload hx hb dX1_halt_69 (lv_at hl 1 rfl) ?_
  refine va_calli (va_runV (As := [.int v_1, .int r_4]) (rest := []) ⟨hx, hb, hml, hown, hts⟩ (x_pays l dC dI H.size ob ad cA hd fv_13 wd_14 ar_21 hF_fv_13 hA_ar_21 v_1 r_4 i_2) (cwV 2 hts (gV kw_5_193 kw_5_195 kw_p_42 kw_1_12 kw_5_196) rfl rfl rfl (by decide +kernel) ⟨Nat.le_of_ble_eq_true rfl, Nat.le_of_ble_eq_true rfl⟩) ⟨fun a U g mk q => ⟨q.1, q.2.1, q.2.2.1, va_K.moved (u := U) (U := U.calling g mk a) (Vm.Alike.refl U.vm) q.2.2.2⟩, va_recv hK hP (ci := 2) (q0 := 8) rfl rfl, fun U hU hW => ⟨rfl, by rw [hU], by rw [hU]; exact hP, va_K.moved hW.alike hK⟩⟩ rfl rfl hl.1 rfl (lv_room (Nat.le_of_ble_eq_true rfl)) dX1_halt_71 ⟨Nat.le_of_ble_eq_true rfl, Nat.le_of_ble_eq_true rfl⟩) hS (fun q _ h9 => aX_up hS q h9) (aX_up hS) (fun r_22 u t H1 locs ht _ hw hB _ hk1 hS => ?_)
  obtain ⟨fv_24, wd_25, ar_26⟩ := u
  obtain ⟨hF_fv_24, hA_ar_26, fr_27, fa_28, wf_29, p_23, -⟩ := hw
  have wf_29 : wd_25.2 = wd_14.2 := wf_29
  have hP : va_P (dC, dI) vwCl (wsX ob ad cA fv_24 wd_25 ar_26) H1 := by have h9 := hB.1; rw [ht] at h9; exact h9
  have fr_27 : fM [23] fv_13 fv_24 := fr_27
  have fa_28 : fA [51] ar_21 ar_26 := fa_28
  generalize H1 = H at hP hS ⊢
  refine lv_if_eq (tgt := 80) hx hb dX1_halt_74 (by decide) (fun c_30 => ?_) (fun c_30 => ?_)
  · skip
    have i_31 : 0 ≤ r_22.toInt ∧ r_22.toInt ≤ 0 := iv_eq1 (⟨by decide, by decide⟩ : (0 : Int) ≤ (0 : Int32).toInt ∧ (0 : Int32).toInt ≤ 0) c_30
    refine lv_aload_n hx hb dX1_halt_80 rfl (lv_at hl 3 rfl) ?_
    refine gX_X1_65 hx hb htg hown hK hP dX1_halt_81 ?_
    refine lv_iload_n hx hb dX1_halt_84 rfl (lv_at hl 2 rfl) ?_
    refine lv_iconst (v := 1) hx hb dX1_halt_85 (by decide) ?_
    refine sX_53 hx hb hK hP hS hd (iv_in i_2 (by decide) (by decide)) dX1_halt_86 (fun H locs ar_33 ear_33 hP hS => ?_)
    have hA_ar_33 : rB ar_33 := rB_put hA_ar_26 ear_33 (iv_any _)
    refine lv_iconst (v := 0) hx hb dX1_halt_87 (by decide) ?_
    refine lv_istore (lv' := [(6, .int 0), (5, .int r_12), (4, .int r_4), (3, .int v_1), (0, .ref (ob 8)), (1, .int kk), (2, .int a)]) hx hb dX1_halt_88 hl (by decide) rfl (fun ls hl => ?_)
    refine my_cut (P := fun R9 a9 Q9 => ∀ (n_37 : Nat) (x_34 : Int32) (ar_35 : Nat → Nat → Int32) (H : Heap) (locs : List Loc) (ls : Array Slot), 40 - x_34.toInt < (n_37 : Int) → (0 ≤ x_34.toInt ∧ x_34.toInt ≤ 40) → rB ar_35 → fA [49, 50] ar_33 ar_35 → va_P (dC, dI) vwCl (wsX ob ad cA fv_24 wd_25 ar_35) H → va_S (aX ob ad s.heap.size) s.heap H locs → lv_has ls 7 [(0, .ref (ob 8)), (1, .int kk), (3, .int v_1), (6, .int x_34)] → W p l e R9 s m a9 below meth c H locs 0 0 Q9 (F0 m 90 ls [])) ?_ (fun hj_39 => ?_)
    · intro n_37
      induction n_37 with
      | zero => intro x_34 ar_35 H locs ls fu_38 i_x_34 hA_ar_35 fa_36; exfalso; omega
      | succ n_37 ih_37 =>
        intro x_34 ar_35 H locs ls fu_38 i_x_34 hA_ar_35 fa_36 hP hS hl
        refine lv_iload hx hb dX1_halt_90 (lv_at hl 3 rfl) ?_
        refine lv_aload_n hx hb dX1_halt_92 rfl (lv_at hl 0 rfl) ?_
        refine gX_X1_9 hx hb htg hown hK hP dX1_halt_93 ?_
        refine gX_X1_129 hx hb htg hown hK hP dX1_halt_96 ?_
        refine gX_X1_133 hx hb htg hown hK hP dX1_halt_99 ?_
        refine my_ti (y := fv 10) ((fr_27 10 rfl).trans ((fr_16 10 rfl).trans ((fr_8 10 rfl)))) ?_
        have i_40 : 0 ≤ (fv 10).toInt ∧ (fv 10).toInt ≤ 40 := hF_fv 10
        refine lv_icmp_ge (tgt := 138) hx hb dX1_halt_102 (by decide) (fun c_41 => ?_) (fun c_41 => ?_)
        · skip
          have k_42 := Int32.le_iff_toInt_le.mp c_41
          refine lv_iconst (v := (-1)) hx hb dX1_halt_138 (by decide) ?_
          exact W.iret (v := (-1)) hx hb hr (fun t ht hW => ⟨⟨(-1), (fv_24, wd_25, ar_35), rfl, ⟨hF_fv_24, hA_ar_35, (fM_call (fM_call (fM_call (fM_rf [6, 23] _) fr_8 (by decide)) fr_16 (by decide)) fr_27 (by decide)), (fA_call (fA_put (fA_call (fA_put (fA_call (fA_call (fA_rf [4, 49, 50, 51, 52, 53] _) fa_9 (by decide)) fa_17 (by decide)) ear_21 (by decide)) fa_28 (by decide)) ear_33 (by decide)) fa_36 (by decide)), (wf_29.trans (wf_18.trans wf_10)), trivial⟩, ⟨by rw [ht]; exact hP, va_K.moved hW.alike hK⟩⟩, hS.F ht⟩) hS.2.2 dX1_halt_139
        · skip
          have i_43 : 0 ≤ x_34.toInt ∧ x_34.toInt ≤ 39 := iv_lt1 i_x_34 i_40 (Int32.not_le.mp c_41)
          have i_44 : 1 ≤ (fv 10).toInt ∧ (fv 10).toInt ≤ 40 := iv_lt2 i_x_34 i_40 (Int32.not_le.mp c_41)
          have k_45 := Int32.lt_iff_toInt_lt.mp (Int32.not_le.mp c_41)
          refine lv_aload_n hx hb dX1_halt_105 rfl (lv_at hl 0 rfl) ?_
          refine gX_X1_54 hx hb htg hown hK hP dX1_halt_106 ?_
          refine lv_iload hx hb dX1_halt_109 (lv_at hl 3 rfl) ?_
          refine lX_50 hx hb hK hP (iv_in i_43 (by decide) (by decide)) dX1_halt_111 (fun v_46 ev_46 => ?_)
          have i_47 : (-1) ≤ v_46.toInt ∧ v_46.toInt ≤ 19 := ev_46 ▸ hA_ar_35 50 _
          refine lv_iload_n hx hb dX1_halt_112 rfl (lv_at hl 2 rfl) ?_
          refine my_cut (P := fun R9 a9 Q9 => ∀ (ar_53 : Nat → Nat → Int32) (H : Heap) (locs : List Loc) (ls : Array Slot), rB ar_53 → fA [49, 50] ar_35 ar_53 → va_P (dC, dI) vwCl (wsX ob ad cA fv_24 wd_25 ar_53) H → va_S (aX ob ad s.heap.size) s.heap H locs → lv_has ls 7 [(0, .ref (ob 8)), (1, .int kk), (3, .int v_1), (6, .int x_34)] → W p l e R9 s m a9 below meth c H locs 0 0 Q9 (F0 m 132 ls [])) ?_ (fun hj_55 => ?_)
          · intro ar_53 H locs ls hA_ar_53 fa_54 hP hS hl
            obtain ⟨v_56, ev_56⟩ : ∃ z : Int32, z = x_34 + 1 := ⟨_, rfl⟩
            refine lv_iinc (v := v_56) (lv' := [(6, .int v_56), (0, .ref (ob 8)), (1, .int kk), (3, .int v_1)]) hx hb dX1_halt_132 hl (k := 3) rfl (by rw [ev_56]; rfl) (by decide) rfl (fun ls hl => ?_)
            have t_57 : v_56.toInt = x_34.toInt + 1 ∧ 1 ≤ v_56.toInt ∧ v_56.toInt ≤ 40 := iv_addc ev_56 i_43 (by decide) (by decide) (by decide)
            refine lv_goto (tgt := 90) hx hb dX1_halt_135 (by decide) ?_
            exact ih_37 v_56 ar_53 _ _ ls (by omega) (iv_w t_57.2 (by decide) (by decide)) hA_ar_53 (fA_call (fA_call (fA_rf [49, 50] _) fa_36 (by decide)) fa_54 (by decide)) hP hS (lv_sub hl [1, 2, 3, 0] rfl)
          · skip
            refine lv_icmp_ne (tgt := 132) hx hb dX1_halt_113 (by decide) (fun c_48 => ?_) (fun c_48 => ?_)
            · skip
              exact hj_55 ar_35 _ _ ls hA_ar_35 (fA_rf [49, 50] _) hP hS (lv_sub hl [0, 1, 2, 3] rfl)
            · skip
              have i_49 : 0 ≤ v_46.toInt ∧ v_46.toInt ≤ 19 := iv_eq1 i_2 c_48
              have k_50 := congrArg Int32.toInt c_48
              refine lv_aload_n hx hb dX1_halt_116 rfl (lv_at hl 0 rfl) ?_
              refine gX_X1_54 hx hb htg hown hK hP dX1_halt_117 ?_
              refine lv_iload hx hb dX1_halt_120 (lv_at hl 3 rfl) ?_
              refine lv_iconst (v := (-1)) hx hb dX1_halt_122 (by decide) ?_
              refine sX_50 hx hb hK hP hS hd (iv_in i_43 (by decide) (by decide)) dX1_halt_123 (fun H locs ar_51 ear_51 hP hS => ?_)
              have hA_ar_51 : rB ar_51 := rB_put hA_ar_35 ear_51 (iv_w (⟨by decide, by decide⟩ : (-1 : Int) ≤ ((-1) : Int32).toInt ∧ ((-1) : Int32).toInt ≤ -1) (by decide) (by decide))
              refine lv_aload_n hx hb dX1_halt_124 rfl (lv_at hl 0 rfl) ?_
              refine gX_X1_51 hx hb htg hown hK hP dX1_halt_125 ?_
              refine lv_iload hx hb dX1_halt_128 (lv_at hl 3 rfl) ?_
              refine lv_iload_n hx hb dX1_halt_130 rfl (lv_at hl 1 rfl) ?_
              refine sX_49 hx hb hK hP hS hd (iv_in i_43 (by decide) (by decide)) dX1_halt_131 (fun H locs ar_52 ear_52 hP hS => ?_)
              have hA_ar_52 : rB ar_52 := rB_put hA_ar_51 ear_52 (iv_w h_kk (by decide) (by decide))
              exact hj_55 ar_52 _ _ ls hA_ar_52 (fA_put (fA_put (fA_rf [49, 50] _) ear_51 (by decide)) ear_52 (by decide)) hP hS (lv_sub hl [0, 1, 2, 3] rfl)
    · skip
      have z_59 : (0 : Int32).toInt = 0 := by decide
      exact hj_39 41 0 ar_33 _ _ ls (by first | decide | omega) (iv_w (⟨by decide, by decide⟩ : (0 : Int) ≤ (0 : Int32).toInt ∧ (0 : Int32).toInt ≤ 0) (by decide) (by decide)) hA_ar_33 (fA_rf [49, 50] _) hP hS (lv_sub hl [4, 5, 3, 0] rfl)
  · skip
    have i_60 : 1 ≤ r_22.toInt ∧ r_22.toInt ≤ 1 := iv_nel p_23 (by decide) c_30
    have k_61 : ¬ r_22.toInt = 0 := fun q => c_30 (Int32.toInt_inj.mp q)
    refine lv_iload hx hb dX1_halt_77 (lv_at hl 0 rfl) ?_
    exact W.iret (v := r_12) hx hb hr (fun t ht hW => ⟨⟨r_12, (fv_24, wd_25, ar_26), rfl, ⟨hF_fv_24, hA_ar_26, (fM_call (fM_call (fM_call (fM_rf [6, 23] _) fr_8 (by decide)) fr_16 (by decide)) fr_27 (by decide)), (fA_call (fA_put (fA_call (fA_call (fA_rf [4, 49, 50, 51, 52, 53] _) fa_9 (by decide)) fa_17 (by decide)) ear_21 (by decide)) fa_28 (by decide)), (wf_29.trans (wf_18.trans wf_10)), trivial⟩, ⟨by rw [ht]; exact hP, va_K.moved hW.alike hK⟩⟩, hS.F ht⟩) hS.2.2 dX1_halt_79
set_option maxHeartbeats 4000000 in
set_option maxRecDepth 100000 in
theorem x_send (l : Launch) (dC : Nat → ClassId) (dI : Nat → Nat → Nat) (sz : Nat) (ob ad : Nat → Nat) (cA : Nat → ClassId) (hd : dX ob ad) (fv : Nat → Int32) (wd : xT) (ar : Nat → Nat → Int32) (hF_fv : rX fv) (hA_ar : rB ar) (la : Nat) (lfr : Int32) (lra : Nat → Nat) (lrc : Nat → ClassId) (lln lcn : Nat) (llr : Nat → Nat → Int32) (hlq : lwQ lln lcn llr) (kk : Int32) (a : Int32) (h_kk : 0 ≤ kk.toInt ∧ kk.toInt ≤ 79) (hlr : wd.2.2.1 = la) : Met l yX1_send (.code yX1_send cX1_send 7 none :: lw_good) ({ frames := 6, cells := 0, slots := 0, locals := 141 }) (va_Pc [.ref (ob 8), .int kk, .int a] (fun U => prX dC dI ob ad cA fv wd ar sz U ∧ lwA dC dI ob ad la lfr lra lrc lln lcn llr sz U)) (va_Qv (fun (u : xS) => rX u.1 ∧ rB u.2.2 ∧ fM [6, 23] fv u.1 ∧ fA [4, 44, 48, 49, 50, 51, 52, 53, 54, 55, 56, 57] ar u.2.2 ∧ u.2.1.2 = wd.2 ∧ True) (enX dC dI ob ad cA) (aX ob ad sz)) 0 0 (aX ob ad sz) := by
  refine Met.ofW (cc := cX1_send) (maxL := 7) (ret := none) (by decide) rfl ?_
  intro p e s m args below meth c s₁ B hml hv
  obtain ⟨rfl, ⟨hsz, hP, hK⟩, hL⟩ := hv
  have hx := B.exec
  have hb := B.bytes
  have hr := B.returns
  have hts := atoms_spec (ws := (.code yX1_send cX1_send 7 none :: lw_good)) B.pre
  have htg : ∀ w ∈ lw_good, w.before _ s = true := fun w hw => hts w (List.mem_cons_of_mem _ hw)
  have hown : s.vm.findClass RX1 = some m.cls := findClass_of_methodNamed B.named
  have hlocks := B.notSynchronized
  subst hsz
  have hS : va_S (aX ob ad s.heap.size) s.heap s.heap [] := va_S.rf
  have hl := lv_entry ([.ref (ob 8), .int kk, .int a]) (n := 7) (Nat.le_of_ble_eq_true rfl)
  rw [lg_entry_eq]
  generalize (lg_sl ([.ref (ob 8), .int kk, .int a]) ++ List.replicate (7 - (lg_sl ([.ref (ob 8), .int kk, .int a])).length) Slot.unset).toArray = ls at hl ⊢
  have hl : lv_has ls 7 [(0, .ref (ob 8)), (1, .int kk), (2, .int a)] := hl
  refine lv_aload_n hx hb dX1_send_0 rfl (lv_at hl 0 rfl) ?_
  refine gX_X1_62 hx hb htg hown hK hP dX1_send_1 ?_
  refine lv_aload_n hx hb dX1_send_4 rfl (lv_at hl 0 rfl) ?_
  refine gX_X1_9 hx hb htg hown hK hP dX1_send_5 ?_
  refine gX_X1_157 hx hb htg hown hK hP dX1_send_8 ?_
  refine gX_X1_176 hx hb htg hown hK hP dX1_send_11 ?_
  refine lv_iload_n hx hb dX1_send_14 rfl (lv_at hl 1 rfl) ?_
  refine lX_28 hx hb hK hP (iv_in h_kk (by decide) (by decide)) dX1_send_15 (fun v_1 ev_1 => ?_)
  have i_2 : 0 ≤ v_1.toInt ∧ v_1.toInt ≤ 19 := ev_1 ▸ hA_ar 28 _
  refine lX_52 hx hb hK hP (iv_in i_2 (by decide) (by decide)) dX1_send_16 (fun v_3 ev_3 => ?_)
  refine lv_istore_n (lv' := [(3, .int v_3), (0, .ref (ob 8)), (1, .int kk), (2, .int a)]) hx hb dX1_send_17 rfl hl (by decide) rfl (fun ls hl => ?_)
  refine lv_aload_n hx hb dX1_send_18 rfl (lv_at hl 1 rfl) ?_
  refine gX_X1_76 hx hb htg hown hK hP dX1_send_19 ?_
  refine lv_iload_n hx hb dX1_send_22 rfl (lv_at hl 2 rfl) ?_
  refine lv_bipush (v := (-2)) hx hb dX1_send_23 (by decide) ?_
  refine sX_56 hx hb hK hP hS hd (iv_in h_kk (by decide) (by decide)) dX1_send_25 (fun H locs ar_4 ear_4 hP hS => ?_)
  have hA_ar_4 : rB ar_4 := rB_put hA_ar ear_4 (iv_any _)
  refine lv_aload_n hx hb dX1_send_26 rfl (lv_at hl 1 rfl) ?_
  refine gX_X1_9 hx hb htg hown hK hP dX1_send_27 ?_
  refine lv_aload_n hx hb dX1_send_30 rfl (lv_at hl 1 rfl) ?_
  refine gX_X1_30 hx hb htg hown hK hP dX1_send_31 ?_
  refine my_tr (w := la) (hlr) ?_
  refine lv_iload_n hx hb dX1_send_34 rfl (lv_at hl 2 rfl) ?_
  refine lv_iconst (v := 5) hx hb dX1_send_35 (by decide) ?_
  refine lv_iconst (v := 0) hx hb dX1_send_36 (by decide) ?_
  refine lv_iload_n hx hb dX1_send_37 rfl (lv_at hl 0 rfl) ?_
  refine va_calli (va_runV (As := [.ref la, .int kk, .int 5, .int 0, .int v_3]) (rest := []) ⟨hx, hb, hml, hown, hts⟩ (x_ask l dC dI H.size ob ad cA hd fv wd ar_4 hF_fv hA_ar_4 la lfr lra lrc lln lcn llr hlq kk 5 0 v_3 h_kk) (cwV 5 hts (gV kw_5_169 kw_5_19 kw_5_20 kw_1_2 kw_5_21) rfl rfl rfl (by decide +kernel) ⟨Nat.le_of_ble_eq_true rfl, Nat.le_of_ble_eq_true rfl⟩) ⟨fun a U g mk q => ⟨q.1, ⟨q.2.1.1, q.2.1.2.1, va_K.moved (u := U) (U := U.calling g mk a) (Vm.Alike.refl U.vm) q.2.1.2.2⟩, ⟨q.2.2.1, va_K.moved (u := U) (U := U.calling g mk a) (Vm.Alike.refl U.vm) q.2.2.2.1, q.2.2.2.2⟩⟩, va_recv hK hP (ci := 7) (q0 := 1) rfl rfl, fun U hU hW => ⟨rfl, ⟨by rw [hU], by rw [hU]; exact hP, va_K.moved hW.alike hK⟩, lw_pass hL hS hU hW.alike⟩⟩ rfl rfl hl.1 rfl (lv_room (Nat.le_of_ble_eq_true rfl)) dX1_send_38 ⟨Nat.le_of_ble_eq_true rfl, Nat.le_of_ble_eq_true rfl⟩) hS (fun q _ h9 => aX_up hS q h9) (aX_up hS) (fun r_5 u t H1 locs ht _ hw hB _ hk1 hS => ?_)
  obtain ⟨fv_6, wd_7, ar_8⟩ := u
  obtain ⟨hF_fv_6, hA_ar_8, fr_9, fa_10, wf_11, -⟩ := hw
  have wf_11 : wd_7.2 = wd.2 := wf_11
  have hP : va_P (dC, dI) vwCl (wsX ob ad cA fv_6 wd_7 ar_8) H1 := by have h9 := hB.1; rw [ht] at h9; exact h9
  have fr_9 : fM [6] fv fv_6 := fr_9
  have fa_10 : fA [4] ar_4 ar_8 := fa_10
  generalize H1 = H at hP hS ⊢
  refine lv_istore (lv' := [(4, .int r_5), (3, .int v_3), (0, .ref (ob 8)), (1, .int kk), (2, .int a)]) hx hb dX1_send_41 hl (by decide) rfl (fun ls hl => ?_)
  refine lv_aload_n hx hb dX1_send_43 rfl (lv_at hl 2 rfl) ?_
  refine lv_iload_n hx hb dX1_send_44 rfl (lv_at hl 3 rfl) ?_
  refine va_calli (va_runV (As := [.int kk]) (rest := []) ⟨hx, hb, hml, hown, hts⟩ (x_standsReady l dC dI H.size ob ad cA hd fv_6 wd_7 ar_8 hF_fv_6 hA_ar_8 kk h_kk) (cwV 1 hts (gV kw_5_170 kw_5_172 kw_p_37 kw_1_12 kw_5_173) rfl rfl rfl (by decide +kernel) ⟨Nat.le_of_ble_eq_true rfl, Nat.le_of_ble_eq_true rfl⟩) ⟨fun a U g mk q => ⟨q.1, q.2.1, q.2.2.1, va_K.moved (u := U) (U := U.calling g mk a) (Vm.Alike.refl U.vm) q.2.2.2⟩, va_recv hK hP (ci := 2) (q0 := 8) rfl rfl, fun U hU hW => ⟨rfl, by rw [hU], by rw [hU]; exact hP, va_K.moved hW.alike hK⟩⟩ rfl rfl hl.1 rfl (lv_room (Nat.le_of_ble_eq_true rfl)) dX1_send_45 ⟨Nat.le_of_ble_eq_true rfl, Nat.le_of_ble_eq_true rfl⟩) hS (fun q _ h9 => aX_up hS q h9) (aX_up hS) (fun r_12 u t H1 locs ht _ hw hB _ hk1 hS => ?_)
  obtain ⟨fv_14, wd_15, ar_16⟩ := u
  obtain ⟨hF_fv_14, hA_ar_16, fr_17, fa_18, wf_19, p_13, -⟩ := hw
  have wf_19 : wd_15.2 = wd_7.2 := wf_19
  have hP : va_P (dC, dI) vwCl (wsX ob ad cA fv_14 wd_15 ar_16) H1 := by have h9 := hB.1; rw [ht] at h9; exact h9
  have fr_17 : fM [] fv_6 fv_14 := fr_17
  have fa_18 : fA [] ar_8 ar_16 := fa_18
  generalize H1 = H at hP hS ⊢
  refine lv_if_eq (tgt := 78) hx hb dX1_send_48 (by decide) (fun c_20 => ?_) (fun c_20 => ?_)
  · skip
    have i_21 : 0 ≤ r_12.toInt ∧ r_12.toInt ≤ 0 := iv_eq1 (⟨by decide, by decide⟩ : (0 : Int) ≤ (0 : Int32).toInt ∧ (0 : Int32).toInt ≤ 0) c_20
    exact W.vret hx hb hr (fun t ht hW => ⟨⟨(fv_14, wd_15, ar_16), rfl, ⟨hF_fv_14, hA_ar_16, (fM_call (fM_call (fM_rf [6, 23] _) fr_9 (by decide)) fr_17 (by decide)), (fA_call (fA_call (fA_put (fA_rf [4, 44, 48, 49, 50, 51, 52, 53, 54, 55, 56, 57] _) ear_4 (by decide)) fa_10 (by decide)) fa_18 (by decide)), (wf_19.trans wf_11), trivial⟩, ⟨by rw [ht]; exact hP, va_K.moved hW.alike hK⟩⟩, hS.F ht⟩) hS.2.2 dX1_send_78
  · skip
    have i_23 : 1 ≤ r_12.toInt ∧ r_12.toInt ≤ 1 := iv_nel p_13 (by decide) c_20
    have k_24 : ¬ r_12.toInt = 0 := fun q => c_20 (Int32.toInt_inj.mp q)
    refine lv_iload hx hb dX1_send_51 (lv_at hl 0 rfl) ?_
    refine lv_aload_n hx hb dX1_send_53 rfl (lv_at hl 2 rfl) ?_
    refine gX_X1_93 hx hb htg hown hK hP dX1_send_54 ?_
    refine my_ti (y := fv 23) ((fr_17 23 rfl).trans ((fr_9 23 rfl))) ?_
    refine lv_icmp_gt (tgt := 78) hx hb dX1_send_57 (by decide) (fun c_25 => ?_) (fun c_25 => ?_)
    · skip
      have i_26 : (-2147483648) ≤ (fv 23).toInt ∧ (fv 23).toInt ≤ 2147483646 := iv_lt1 (iv_any (fv 23)) (iv_any r_5) c_25
      have i_27 : (-2147483647) ≤ r_5.toInt ∧ r_5.toInt ≤ 2147483647 := iv_lt2 (iv_any (fv 23)) (iv_any r_5) c_25
      have k_28 := Int32.lt_iff_toInt_lt.mp c_25
      exact W.vret hx hb hr (fun t ht hW => ⟨⟨(fv_14, wd_15, ar_16), rfl, ⟨hF_fv_14, hA_ar_16, (fM_call (fM_call (fM_rf [6, 23] _) fr_9 (by decide)) fr_17 (by decide)), (fA_call (fA_call (fA_put (fA_rf [4, 44, 48, 49, 50, 51, 52, 53, 54, 55, 56, 57] _) ear_4 (by decide)) fa_10 (by decide)) fa_18 (by decide)), (wf_19.trans wf_11), trivial⟩, ⟨by rw [ht]; exact hP, va_K.moved hW.alike hK⟩⟩, hS.F ht⟩) hS.2.2 dX1_send_78
    · skip
      have k_29 := Int32.le_iff_toInt_le.mp (Int32.not_lt.mp c_25)
      refine lv_aload_n hx hb dX1_send_60 rfl (lv_at hl 2 rfl) ?_
      refine gX_X1_9 hx hb htg hown hK hP dX1_send_61 ?_
      refine lv_aload_n hx hb dX1_send_64 rfl (lv_at hl 2 rfl) ?_
      refine gX_X1_30 hx hb htg hown hK hP dX1_send_65 ?_
      refine my_tr (w := la) ((congrArg (fun z => z.2.1) (wf_19.trans wf_11)).trans hlr) ?_
      refine lv_iload_n hx hb dX1_send_68 rfl (lv_at hl 3 rfl) ?_
      refine lv_iconst (v := 0) hx hb dX1_send_69 (by decide) ?_
      refine lv_iconst (v := 0) hx hb dX1_send_70 (by decide) ?_
      refine lv_iload_n hx hb dX1_send_71 rfl (lv_at hl 1 rfl) ?_
      refine va_calli (va_runV (As := [.ref la, .int kk, .int 0, .int 0, .int v_3]) (rest := []) ⟨hx, hb, hml, hown, hts⟩ (x_ask l dC dI H.size ob ad cA hd fv_14 wd_15 ar_16 hF_fv_14 hA_ar_16 la lfr lra lrc lln lcn llr hlq kk 0 0 v_3 h_kk) (cwV 5 hts (gV kw_5_169 kw_5_19 kw_5_20 kw_1_2 kw_5_21) rfl rfl rfl (by decide +kernel) ⟨Nat.le_of_ble_eq_true rfl, Nat.le_of_ble_eq_true rfl⟩) ⟨fun a U g mk q => ⟨q.1, ⟨q.2.1.1, q.2.1.2.1, va_K.moved (u := U) (U := U.calling g mk a) (Vm.Alike.refl U.vm) q.2.1.2.2⟩, ⟨q.2.2.1, va_K.moved (u := U) (U := U.calling g mk a) (Vm.Alike.refl U.vm) q.2.2.2.1, q.2.2.2.2⟩⟩, va_recv hK hP (ci := 7) (q0 := 1) rfl rfl, fun U hU hW => ⟨rfl, ⟨by rw [hU], by rw [hU]; exact hP, va_K.moved hW.alike hK⟩, lw_pass hL hS hU hW.alike⟩⟩ rfl rfl hl.1 rfl (lv_room (Nat.le_of_ble_eq_true rfl)) dX1_send_72 ⟨Nat.le_of_ble_eq_true rfl, Nat.le_of_ble_eq_true rfl⟩) hS (fun q _ h9 => aX_up hS q h9) (aX_up hS) (fun r_30 u t H1 locs ht _ hw hB _ hk1 hS => ?_)
      obtain ⟨fv_31, wd_32, ar_33⟩ := u
      obtain ⟨hF_fv_31, hA_ar_33, fr_34, fa_35, wf_36, -⟩ := hw
      have wf_36 : wd_32.2 = wd_15.2 := wf_36
      have hP : va_P (dC, dI) vwCl (wsX ob ad cA fv_31 wd_32 ar_33) H1 := by have h9 := hB.1; rw [ht] at h9; exact h9
      have fr_34 : fM [6] fv_14 fv_31 := fr_34
      have fa_35 : fA [4] ar_16 ar_33 := fa_35
      generalize H1 = H at hP hS ⊢
      refine lv_if_ne (tgt := 79) hx hb dX1_send_75 (by decide) (fun c_37 => ?_) (fun c_37 => ?_)
      · skip
        have k_38 : ¬ r_30.toInt = 0 := fun q => c_37 (Int32.toInt_inj.mp q)
        refine lv_aload_n hx hb dX1_send_79 rfl (lv_at hl 2 rfl) ?_
        refine lv_dup hx hb dX1_send_80 rfl ?_
        refine gX_X1_93 hx hb htg hown hK hP dX1_send_81 ?_
        refine my_ti (y := fv 23) ((fr_34 23 rfl).trans ((fr_17 23 rfl).trans ((fr_9 23 rfl)))) ?_
        refine lv_iload hx hb dX1_send_84 (lv_at hl 0 rfl) ?_
        refine lv_isub hx hb dX1_send_86 ?_
        refine lv_topi (fun v_39 ev_39 => ?_)
        refine pX_X1_93 hx hb htg hown hK hP hS hd dX1_send_87 (fun H locs fv_40 efv_40 hP hS => ?_)
        have hF_fv_40 : rX fv_40 := rX_put hF_fv_31 efv_40 (iv_any v_39)
        refine lv_aload_n hx hb dX1_send_90 rfl (lv_at hl 2 rfl) ?_
        refine lv_iload_n hx hb dX1_send_91 rfl (lv_at hl 3 rfl) ?_
        refine lv_aload_n hx hb dX1_send_92 rfl (lv_at hl 2 rfl) ?_
        refine gX_X1_9 hx hb htg hown hK hP dX1_send_93 ?_
        refine lv_aload_n hx hb dX1_send_96 rfl (lv_at hl 2 rfl) ?_
        refine gX_X1_30 hx hb htg hown hK hP dX1_send_97 ?_
        refine my_tr (w := la) ((congrArg (fun z => z.2.1) (wf_36.trans (wf_19.trans wf_11))).trans hlr) ?_
        refine lv_iload_n hx hb dX1_send_100 rfl (lv_at hl 3 rfl) ?_
        refine lv_iconst (v := 2) hx hb dX1_send_101 (by decide) ?_
        refine lv_iconst (v := 0) hx hb dX1_send_102 (by decide) ?_
        refine lv_iload_n hx hb dX1_send_103 rfl (lv_at hl 1 rfl) ?_
        refine va_calli (va_runV (As := [.ref la, .int kk, .int 2, .int 0, .int v_3]) (rest := [.int kk, .ref (ob 8)]) ⟨hx, hb, hml, hown, hts⟩ (x_ask l dC dI H.size ob ad cA hd fv_40 wd_32 ar_33 hF_fv_40 hA_ar_33 la lfr lra lrc lln lcn llr hlq kk 2 0 v_3 h_kk) (cwV 5 hts (gV kw_5_169 kw_5_19 kw_5_20 kw_1_2 kw_5_21) rfl rfl rfl (by decide +kernel) ⟨Nat.le_of_ble_eq_true rfl, Nat.le_of_ble_eq_true rfl⟩) ⟨fun a U g mk q => ⟨q.1, ⟨q.2.1.1, q.2.1.2.1, va_K.moved (u := U) (U := U.calling g mk a) (Vm.Alike.refl U.vm) q.2.1.2.2⟩, ⟨q.2.2.1, va_K.moved (u := U) (U := U.calling g mk a) (Vm.Alike.refl U.vm) q.2.2.2.1, q.2.2.2.2⟩⟩, va_recv hK hP (ci := 7) (q0 := 1) rfl rfl, fun U hU hW => ⟨rfl, ⟨by rw [hU], by rw [hU]; exact hP, va_K.moved hW.alike hK⟩, lw_pass hL hS hU hW.alike⟩⟩ rfl rfl hl.1 rfl (lv_room (Nat.le_of_ble_eq_true rfl)) dX1_send_104 ⟨Nat.le_of_ble_eq_true rfl, Nat.le_of_ble_eq_true rfl⟩) hS (fun q _ h9 => aX_up hS q h9) (aX_up hS) (fun r_41 u t H1 locs ht _ hw hB _ hk1 hS => ?_)
        obtain ⟨fv_42, wd_43, ar_44⟩ := u
        obtain ⟨hF_fv_42, hA_ar_44, fr_45, fa_46, wf_47, -⟩ := hw
        have wf_47 : wd_43.2 = wd_32.2 := wf_47
        have hP : va_P (dC, dI) vwCl (wsX ob ad cA fv_42 wd_43 ar_44) H1 := by have h9 := hB.1; rw [ht] at h9; exact h9
        have fr_45 : fM [6] fv_40 fv_42 := fr_45
        have fa_46 : fA [4] ar_33 ar_44 := fa_46
        generalize H1 = H at hP hS ⊢
        refine va_calli (va_runV (As := [.int kk, .int r_41]) (rest := []) ⟨hx, hb, hml, hown, hts⟩ (x_board l dC dI H.size ob ad cA hd fv_42 wd_43 ar_44 hF_fv_42 hA_ar_44 kk r_41 h_kk) (cwV 2 hts (gV kw_5_175 kw_5_177 kw_p_38 kw_1_12 kw_5_178) rfl rfl rfl (by decide +kernel) ⟨Nat.le_of_ble_eq_true rfl, Nat.le_of_ble_eq_true rfl⟩) ⟨fun a U g mk q => ⟨q.1, q.2.1, q.2.2.1, va_K.moved (u := U) (U := U.calling g mk a) (Vm.Alike.refl U.vm) q.2.2.2⟩, va_recv hK hP (ci := 2) (q0 := 8) rfl rfl, fun U hU hW => ⟨rfl, by rw [hU], by rw [hU]; exact hP, va_K.moved hW.alike hK⟩⟩ rfl rfl hl.1 rfl (lv_room (Nat.le_of_ble_eq_true rfl)) dX1_send_107 ⟨Nat.le_of_ble_eq_true rfl, Nat.le_of_ble_eq_true rfl⟩) hS (fun q _ h9 => aX_up hS q h9) (aX_up hS) (fun r_48 u t H1 locs ht _ hw hB _ hk1 hS => ?_)
        obtain ⟨fv_49, wd_50, ar_51⟩ := u
        obtain ⟨hF_fv_49, hA_ar_51, fr_52, fa_53, wf_54, -⟩ := hw
        have wf_54 : wd_50.2 = wd_43.2 := wf_54
        have hP : va_P (dC, dI) vwCl (wsX ob ad cA fv_49 wd_50 ar_51) H1 := by have h9 := hB.1; rw [ht] at h9; exact h9
        have fr_52 : fM [23] fv_42 fv_49 := fr_52
        have fa_53 : fA [44, 49, 50, 51] ar_44 ar_51 := fa_53
        generalize H1 = H at hP hS ⊢
        refine lv_istore (lv' := [(5, .int r_48), (4, .int r_5), (3, .int v_3), (0, .ref (ob 8)), (1, .int kk), (2, .int a)]) hx hb dX1_send_110 hl (by decide) rfl (fun ls hl => ?_)
        refine lv_iconst (v := 0) hx hb dX1_send_112 (by decide) ?_
        refine lv_istore (lv' := [(6, .int 0), (5, .int r_48), (4, .int r_5), (3, .int v_3), (0, .ref (ob 8)), (1, .int kk), (2, .int a)]) hx hb dX1_send_113 hl (by decide) rfl (fun ls hl => ?_)
        refine lv_aload_n hx hb dX1_send_115 rfl (lv_at hl 4 rfl) ?_
        refine gX_X1_9 hx hb htg hown hK hP dX1_send_116 ?_
        refine lv_aload_n hx hb dX1_send_119 rfl (lv_at hl 4 rfl) ?_
        refine gX_X1_30 hx hb htg hown hK hP dX1_send_120 ?_
        refine my_tr (w := la) ((congrArg (fun z => z.2.1) (wf_54.trans (wf_47.trans (wf_36.trans (wf_19.trans wf_11))))).trans hlr) ?_
        refine lv_iload_n hx hb dX1_send_123 rfl (lv_at hl 5 rfl) ?_
        refine lv_iconst (v := 1) hx hb dX1_send_124 (by decide) ?_
        refine lv_iload hx hb dX1_send_125 (lv_at hl 1 rfl) ?_
        refine lv_iload_n hx hb dX1_send_127 rfl (lv_at hl 3 rfl) ?_
        refine va_calli (va_runV (As := [.ref la, .int kk, .int 1, .int r_48, .int v_3]) (rest := []) ⟨hx, hb, hml, hown, hts⟩ (x_ask l dC dI H.size ob ad cA hd fv_49 wd_50 ar_51 hF_fv_49 hA_ar_51 la lfr lra lrc lln lcn llr hlq kk 1 r_48 v_3 h_kk) (cwV 5 hts (gV kw_5_169 kw_5_19 kw_5_20 kw_1_2 kw_5_21) rfl rfl rfl (by decide +kernel) ⟨Nat.le_of_ble_eq_true rfl, Nat.le_of_ble_eq_true rfl⟩) ⟨fun a U g mk q => ⟨q.1, ⟨q.2.1.1, q.2.1.2.1, va_K.moved (u := U) (U := U.calling g mk a) (Vm.Alike.refl U.vm) q.2.1.2.2⟩, ⟨q.2.2.1, va_K.moved (u := U) (U := U.calling g mk a) (Vm.Alike.refl U.vm) q.2.2.2.1, q.2.2.2.2⟩⟩, va_recv hK hP (ci := 7) (q0 := 1) rfl rfl, fun U hU hW => ⟨rfl, ⟨by rw [hU], by rw [hU]; exact hP, va_K.moved hW.alike hK⟩, lw_pass hL hS hU hW.alike⟩⟩ rfl rfl hl.1 rfl (lv_room (Nat.le_of_ble_eq_true rfl)) dX1_send_128 ⟨Nat.le_of_ble_eq_true rfl, Nat.le_of_ble_eq_true rfl⟩) hS (fun q _ h9 => aX_up hS q h9) (aX_up hS) (fun r_55 u t H1 locs ht _ hw hB _ hk1 hS => ?_)
        obtain ⟨fv_56, wd_57, ar_58⟩ := u
        obtain ⟨hF_fv_56, hA_ar_58, fr_59, fa_60, wf_61, -⟩ := hw
        have wf_61 : wd_57.2 = wd_50.2 := wf_61
        have hP : va_P (dC, dI) vwCl (wsX ob ad cA fv_56 wd_57 ar_58) H1 := by have h9 := hB.1; rw [ht] at h9; exact h9
        have fr_59 : fM [6] fv_49 fv_56 := fr_59
        have fa_60 : fA [4] ar_51 ar_58 := fa_60
        generalize H1 = H at hP hS ⊢
        refine my_cut (P := fun R9 a9 Q9 => ∀ (x_73 : Int32) (fv_74 : Nat → Int32) (ar_76 : Nat → Nat → Int32) (wd_78 : xT) (H : Heap) (locs : List Loc) (ls : Array Slot), rX fv_74 → fM [6, 23] fv_56 fv_74 → rB ar_76 → fA [4, 49, 50, 51, 52, 53] ar_58 ar_76 → wd_78.2 = wd_57.2 → va_P (dC, dI) vwCl (wsX ob ad cA fv_74 wd_78 ar_76) H → va_S (aX ob ad s.heap.size) s.heap H locs → lv_has ls 7 [(0, .ref (ob 8)), (1, .int kk), (2, .int a), (5, .int r_48), (6, .int x_73)] → W p l e R9 s m a9 below meth c H locs 0 0 Q9 (F0 m 143 ls [])) ?_ (fun hj_80 => ?_)
        · intro x_73 fv_74 ar_76 wd_78 H locs ls hF_fv_74 fr_75 hA_ar_76 fa_77 wf_79 hP hS hl
          refine lv_iload hx hb dX1_send_143 (lv_at hl 4 rfl) ?_
          refine lv_iconst (v := (-1)) hx hb dX1_send_145 (by decide) ?_
          refine lv_icmp_eq (tgt := 166) hx hb dX1_send_146 (by decide) (fun c_81 => ?_) (fun c_81 => ?_)
          · skip
            have i_82 : (-1) ≤ x_73.toInt ∧ x_73.toInt ≤ (-1) := iv_eq1 (⟨by decide, by decide⟩ : (-1 : Int) ≤ ((-1) : Int32).toInt ∧ ((-1) : Int32).toInt ≤ -1) c_81
            exact W.vret hx hb hr (fun t ht hW => ⟨⟨(fv_74, wd_78, ar_76), rfl, ⟨hF_fv_74, hA_ar_76, (fM_call (fM_call (fM_call (fM_call (fM_put (fM_call (fM_call (fM_call (fM_rf [6, 23] _) fr_9 (by decide)) fr_17 (by decide)) fr_34 (by decide)) efv_40 (by decide)) fr_45 (by decide)) fr_52 (by decide)) fr_59 (by decide)) fr_75 (by decide)), (fA_call (fA_call (fA_call (fA_call (fA_call (fA_call (fA_call (fA_put (fA_rf [4, 44, 48, 49, 50, 51, 52, 53, 54, 55, 56, 57] _) ear_4 (by decide)) fa_10 (by decide)) fa_18 (by decide)) fa_35 (by decide)) fa_46 (by decide)) fa_53 (by decide)) fa_60 (by decide)) fa_77 (by decide)), (wf_79.trans (wf_61.trans (wf_54.trans (wf_47.trans (wf_36.trans (wf_19.trans wf_11)))))), trivial⟩, ⟨by rw [ht]; exact hP, va_K.moved hW.alike hK⟩⟩, hS.F ht⟩) hS.2.2 dX1_send_166
          · skip
            have k_84 : ¬ x_73.toInt = (-1) := fun q => c_81 (Int32.toInt_inj.mp q)
            refine lv_aload_n hx hb dX1_send_149 rfl (lv_at hl 0 rfl) ?_
            refine gX_X1_76 hx hb htg hown hK hP dX1_send_150 ?_
            refine lv_iload_n hx hb dX1_send_153 rfl (lv_at hl 1 rfl) ?_
            refine lv_iload hx hb dX1_send_154 (lv_at hl 3 rfl) ?_
            refine sX_56 hx hb hK hP hS hd (iv_in h_kk (by decide) (by decide)) dX1_send_156 (fun H locs ar_85 ear_85 hP hS => ?_)
            have hA_ar_85 : rB ar_85 := rB_put hA_ar_76 ear_85 (iv_any _)
            refine lv_aload_n hx hb dX1_send_157 rfl (lv_at hl 0 rfl) ?_
            refine lv_iload_n hx hb dX1_send_158 rfl (lv_at hl 1 rfl) ?_
            refine lv_iload_n hx hb dX1_send_159 rfl (lv_at hl 2 rfl) ?_
            refine lv_iload hx hb dX1_send_160 (lv_at hl 4 rfl) ?_
            refine lv_iadd hx hb dX1_send_162 ?_
            refine lv_topi (fun v_86 ev_86 => ?_)
            refine va_callv (va_runV (As := [.int kk, .int v_86]) (rest := []) ⟨hx, hb, hml, hown, hts⟩ (x_setOut l dC dI H.size ob ad cA hd fv_74 wd_78 ar_85 hF_fv_74 hA_ar_85 kk v_86 h_kk) (cwV 2 hts (gV kw_5_197 kw_5_199 kw_p_43 kw_1_12 kw_5_200) rfl rfl rfl (by decide +kernel) ⟨Nat.le_of_ble_eq_true rfl, Nat.le_of_ble_eq_true rfl⟩) ⟨fun a U g mk q => ⟨q.1, q.2.1, q.2.2.1, va_K.moved (u := U) (U := U.calling g mk a) (Vm.Alike.refl U.vm) q.2.2.2⟩, va_recv hK hP (ci := 2) (q0 := 8) rfl rfl, fun U hU hW => ⟨rfl, by rw [hU], by rw [hU]; exact hP, va_K.moved hW.alike hK⟩⟩ rfl rfl hl.1 rfl (lv_room (Nat.le_of_ble_eq_true rfl)) dX1_send_163 ⟨Nat.le_of_ble_eq_true rfl, Nat.le_of_ble_eq_true rfl⟩) hS (fun q _ h9 => aX_up hS q h9) (aX_up hS) (fun u t H1 locs ht _ hw hB _ hk1 hS => ?_)
            obtain ⟨fv_88, wd_89, ar_90⟩ := u
            obtain ⟨hF_fv_88, hA_ar_90, fr_91, fa_92, wf_93, -⟩ := hw
            have wf_93 : wd_89.2 = wd_78.2 := wf_93
            have hP : va_P (dC, dI) vwCl (wsX ob ad cA fv_88 wd_89 ar_90) H1 := by have h9 := hB.1; rw [ht] at h9; exact h9
            have fr_91 : fM [] fv_74 fv_88 := fr_91
            have fa_92 : fA [48, 54, 55, 57] ar_85 ar_90 := fa_92
            generalize H1 = H at hP hS ⊢
            exact W.vret hx hb hr (fun t ht hW => ⟨⟨(fv_88, wd_89, ar_90), rfl, ⟨hF_fv_88, hA_ar_90, (fM_call (fM_call (fM_call (fM_call (fM_call (fM_put (fM_call (fM_call (fM_call (fM_rf [6, 23] _) fr_9 (by decide)) fr_17 (by decide)) fr_34 (by decide)) efv_40 (by decide)) fr_45 (by decide)) fr_52 (by decide)) fr_59 (by decide)) fr_75 (by decide)) fr_91 (by decide)), (fA_call (fA_put (fA_call (fA_call (fA_call (fA_call (fA_call (fA_call (fA_call (fA_put (fA_rf [4, 44, 48, 49, 50, 51, 52, 53, 54, 55, 56, 57] _) ear_4 (by decide)) fa_10 (by decide)) fa_18 (by decide)) fa_35 (by decide)) fa_46 (by decide)) fa_53 (by decide)) fa_60 (by decide)) fa_77 (by decide)) ear_85 (by decide)) fa_92 (by decide)), (wf_93.trans (wf_79.trans (wf_61.trans (wf_54.trans (wf_47.trans (wf_36.trans (wf_19.trans wf_11))))))), trivial⟩, ⟨by rw [ht]; exact hP, va_K.moved hW.alike hK⟩⟩, hS.F ht⟩) hS.2.2 dX1_send_166
        · skip
          refine lv_if_eq (tgt := 143) hx hb dX1_send_131 (by decide) (fun c_62 => ?_) (fun c_62 => ?_)
          · skip
            have i_63 : 0 ≤ r_55.toInt ∧ r_55.toInt ≤ 0 := iv_eq1 (⟨by decide, by decide⟩ : (0 : Int) ≤ (0 : Int32).toInt ∧ (0 : Int32).toInt ≤ 0) c_62
            exact hj_80 0 fv_56 ar_58 wd_57 _ _ ls hF_fv_56 (fM_rf [6, 23] _) hA_ar_58 (fA_rf [4, 49, 50, 51, 52, 53] _) rfl hP hS (lv_sub hl [4, 5, 6, 1, 0] rfl)
          · skip
            have k_65 : ¬ r_55.toInt = 0 := fun q => c_62 (Int32.toInt_inj.mp q)
            refine lv_aload_n hx hb dX1_send_134 rfl (lv_at hl 4 rfl) ?_
            refine lv_iload_n hx hb dX1_send_135 rfl (lv_at hl 5 rfl) ?_
            refine lv_iload hx hb dX1_send_136 (lv_at hl 1 rfl) ?_
            refine va_calli (va_runV (As := [.int kk, .int r_48]) (rest := []) ⟨hx, hb, hml, hown, hts⟩ (x_halt l dC dI H.size ob ad cA hd fv_56 wd_57 ar_58 hF_fv_56 hA_ar_58 la lfr lra lrc lln lcn llr hlq kk r_48 h_kk ((congrArg (fun z => z.2.1) (wf_61.trans (wf_54.trans (wf_47.trans (wf_36.trans (wf_19.trans wf_11)))))).trans hlr)) (cwV 2 hts (gV kw_5_189 kw_5_191 kw_p_41 kw_1_12 kw_5_192) rfl rfl rfl (by decide +kernel) ⟨Nat.le_of_ble_eq_true rfl, Nat.le_of_ble_eq_true rfl⟩) ⟨fun a U g mk q => ⟨q.1, ⟨q.2.1.1, q.2.1.2.1, va_K.moved (u := U) (U := U.calling g mk a) (Vm.Alike.refl U.vm) q.2.1.2.2⟩, ⟨q.2.2.1, va_K.moved (u := U) (U := U.calling g mk a) (Vm.Alike.refl U.vm) q.2.2.2.1, q.2.2.2.2⟩⟩, va_recv hK hP (ci := 2) (q0 := 8) rfl rfl, fun U hU hW => ⟨rfl, ⟨by rw [hU], by rw [hU]; exact hP, va_K.moved hW.alike hK⟩, lw_pass hL hS hU hW.alike⟩⟩ rfl rfl hl.1 rfl (lv_room (Nat.le_of_ble_eq_true rfl)) dX1_send_138 ⟨Nat.le_of_ble_eq_true rfl, Nat.le_of_ble_eq_true rfl⟩) hS (fun q _ h9 => aX_up hS q h9) (aX_up hS) (fun r_66 u t H1 locs ht _ hw hB _ hk1 hS => ?_)
            obtain ⟨fv_67, wd_68, ar_69⟩ := u
            obtain ⟨hF_fv_67, hA_ar_69, fr_70, fa_71, wf_72, -⟩ := hw
            have wf_72 : wd_68.2 = wd_57.2 := wf_72
            have hP : va_P (dC, dI) vwCl (wsX ob ad cA fv_67 wd_68 ar_69) H1 := by have h9 := hB.1; rw [ht] at h9; exact h9
            have fr_70 : fM [6, 23] fv_56 fv_67 := fr_70
            have fa_71 : fA [4, 49, 50, 51, 52, 53] ar_58 ar_69 := fa_71
            generalize H1 = H at hP hS ⊢
            refine lv_istore (lv' := [(6, .int r_66), (5, .int r_48), (4, .int r_5), (3, .int v_3), (0, .ref (ob 8)), (1, .int kk), (2, .int a)]) hx hb dX1_send_141 hl (by decide) rfl (fun ls hl => ?_)
            exact hj_80 r_66 fv_67 ar_69 wd_68 _ _ ls hF_fv_67 (fM_call (fM_rf [6, 23] _) fr_70 (by decide)) hA_ar_69 (fA_call (fA_rf [4, 49, 50, 51, 52, 53] _) fa_71 (by decide)) wf_72 hP hS (lv_sub hl [4, 5, 6, 1, 0] rfl)
      · skip
        have i_94 : 0 ≤ r_30.toInt ∧ r_30.toInt ≤ 0 := iv_eq1 (⟨by decide, by decide⟩ : (0 : Int) ≤ (0 : Int32).toInt ∧ (0 : Int32).toInt ≤ 0) c_37
        exact W.vret hx hb hr (fun t ht hW => ⟨⟨(fv_31, wd_32, ar_33), rfl, ⟨hF_fv_31, hA_ar_33, (fM_call (fM_call (fM_call (fM_rf [6, 23] _) fr_9 (by decide)) fr_17 (by decide)) fr_34 (by decide)), (fA_call (fA_call (fA_call (fA_put (fA_rf [4, 44, 48, 49, 50, 51, 52, 53, 54, 55, 56, 57] _) ear_4 (by decide)) fa_10 (by decide)) fa_18 (by decide)) fa_35 (by decide)), (wf_36.trans (wf_19.trans wf_11)), trivial⟩, ⟨by rw [ht]; exact hP, va_K.moved hW.alike hK⟩⟩, hS.F ht⟩) hS.2.2 dX1_send_78
set_option maxHeartbeats 4000000 in
set_option maxRecDepth 100000 in
theorem x_sendTrips (l : Launch) (dC : Nat → ClassId) (dI : Nat → Nat → Nat) (sz : Nat) (ob ad : Nat → Nat) (cA : Nat → ClassId) (hd : dX ob ad) (fv : Nat → Int32) (wd : xT) (ar : Nat → Nat → Int32) (hF_fv : rX fv) (hA_ar : rB ar) (la : Nat) (lfr : Int32) (lra : Nat → Nat) (lrc : Nat → ClassId) (lln lcn : Nat) (llr : Nat → Nat → Int32) (hlq : lwQ lln lcn llr) (a : Int32) (hlr : wd.2.2.1 = la) : Met l yX1_sendTrips (.code yX1_sendTrips cX1_sendTrips 3 none :: lw_good) ({ frames := 7, cells := 0, slots := 0, locals := 167 }) (va_Pc [.ref (ob 8), .int a] (fun U => prX dC dI ob ad cA fv wd ar sz U ∧ lwA dC dI ob ad la lfr lra lrc lln lcn llr sz U)) (va_Qv (fun (u : xS) => rX u.1 ∧ rB u.2.2 ∧ fM [6, 23] fv u.1 ∧ fA [4, 44, 48, 49, 50, 51, 52, 53, 54, 55, 56, 57] ar u.2.2 ∧ u.2.1.2 = wd.2 ∧ True) (enX dC dI ob ad cA) (aX ob ad sz)) 0 0 (aX ob ad sz) := by
  refine Met.ofW (cc := cX1_sendTrips) (maxL := 3) (ret := none) (by decide) rfl ?_
  intro p e s m args below meth c s₁ B hml hv
  obtain ⟨rfl, ⟨hsz, hP, hK⟩, hL⟩ := hv
  have hx := B.exec
  have hb := B.bytes
  have hr := B.returns
  have hts := atoms_spec (ws := (.code yX1_sendTrips cX1_sendTrips 3 none :: lw_good)) B.pre
  have htg : ∀ w ∈ lw_good, w.before _ s = true := fun w hw => hts w (List.mem_cons_of_mem _ hw)
  have hown : s.vm.findClass RX1 = some m.cls := findClass_of_methodNamed B.named
  have hlocks := B.notSynchronized
  subst hsz
  have hS : va_S (aX ob ad s.heap.size) s.heap s.heap [] := va_S.rf
  have hl := lv_entry ([.ref (ob 8), .int a]) (n := 3) (Nat.le_of_ble_eq_true rfl)
  rw [lg_entry_eq]
  generalize (lg_sl ([.ref (ob 8), .int a]) ++ List.replicate (3 - (lg_sl ([.ref (ob 8), .int a])).length) Slot.unset).toArray = ls at hl ⊢
  have hl : lv_has ls 3 [(0, .ref (ob 8)), (1, .int a)] := hl
  refine lv_iconst (v := 0) hx hb dX1_sendTrips_0 (by decide) ?_
  refine lv_istore_n (lv' := [(2, .int 0), (0, .ref (ob 8)), (1, .int a)]) hx hb dX1_sendTrips_1 rfl hl (by decide) rfl (fun ls hl => ?_)
  refine my_cut (P := fun R9 a9 Q9 => ∀ (n_8 : Nat) (x_1 : Int32) (fv_2 : Nat → Int32) (ar_4 : Nat → Nat → Int32) (wd_6 : xT) (H : Heap) (locs : List Loc) (ls : Array Slot), 80 - x_1.toInt < (n_8 : Int) → (0 ≤ x_1.toInt ∧ x_1.toInt ≤ 80) → rX fv_2 → fM [6, 23] fv fv_2 → rB ar_4 → fA [4, 44, 48, 49, 50, 51, 52, 53, 54, 55, 56, 57] ar ar_4 → wd_6.2 = wd.2 → va_P (dC, dI) vwCl (wsX ob ad cA fv_2 wd_6 ar_4) H → va_S (aX ob ad s.heap.size) s.heap H locs → lv_has ls 3 [(0, .ref (ob 8)), (1, .int a), (2, .int x_1)] → W p l e R9 s m a9 below meth c H locs 0 0 Q9 (F0 m 2 ls [])) ?_ (fun hj_10 => ?_)
  · intro n_8
    induction n_8 with
    | zero => intro x_1 fv_2 ar_4 wd_6 H locs ls fu_9 i_x_1 hF_fv_2 fr_3 hA_ar_4 fa_5 wf_7; exfalso; omega
    | succ n_8 ih_8 =>
      intro x_1 fv_2 ar_4 wd_6 H locs ls fu_9 i_x_1 hF_fv_2 fr_3 hA_ar_4 fa_5 wf_7 hP hS hl
      refine lv_iload_n hx hb dX1_sendTrips_2 rfl (lv_at hl 2 rfl) ?_
      refine lv_aload_n hx hb dX1_sendTrips_3 rfl (lv_at hl 0 rfl) ?_
      refine gX_X1_9 hx hb htg hown hK hP dX1_sendTrips_4 ?_
      refine gX_X1_157 hx hb htg hown hK hP dX1_sendTrips_7 ?_
      refine gX_X1_161 hx hb htg hown hK hP dX1_sendTrips_10 ?_
      refine my_ti (y := fv 12) ((fr_3 12 rfl)) ?_
      have i_11 : 0 ≤ (fv 12).toInt ∧ (fv 12).toInt ≤ 80 := hF_fv 12
      refine lv_icmp_ge (tgt := 52) hx hb dX1_sendTrips_13 (by decide) (fun c_12 => ?_) (fun c_12 => ?_)
      · skip
        have k_13 := Int32.le_iff_toInt_le.mp c_12
        exact W.vret hx hb hr (fun t ht hW => ⟨⟨(fv_2, wd_6, ar_4), rfl, ⟨hF_fv_2, hA_ar_4, (fM_call (fM_rf [6, 23] _) fr_3 (by decide)), (fA_call (fA_rf [4, 44, 48, 49, 50, 51, 52, 53, 54, 55, 56, 57] _) fa_5 (by decide)), wf_7, trivial⟩, ⟨by rw [ht]; exact hP, va_K.moved hW.alike hK⟩⟩, hS.F ht⟩) hS.2.2 dX1_sendTrips_52
      · skip
        have i_14 : 0 ≤ x_1.toInt ∧ x_1.toInt ≤ 79 := iv_lt1 i_x_1 i_11 (Int32.not_le.mp c_12)
        have i_15 : 1 ≤ (fv 12).toInt ∧ (fv 12).toInt ≤ 80 := iv_lt2 i_x_1 i_11 (Int32.not_le.mp c_12)
        have k_16 := Int32.lt_iff_toInt_lt.mp (Int32.not_le.mp c_12)
        refine lv_aload_n hx hb dX1_sendTrips_16 rfl (lv_at hl 0 rfl) ?_
        refine gX_X1_9 hx hb htg hown hK hP dX1_sendTrips_17 ?_
        refine gX_X1_157 hx hb htg hown hK hP dX1_sendTrips_20 ?_
        refine gX_X1_166 hx hb htg hown hK hP dX1_sendTrips_23 ?_
        refine lv_iload_n hx hb dX1_sendTrips_26 rfl (lv_at hl 2 rfl) ?_
        refine lX_31 hx hb hK hP (iv_in i_14 (by decide) (by decide)) dX1_sendTrips_27 (fun v_17 ev_17 => ?_)
        refine lv_iload_n hx hb dX1_sendTrips_28 rfl (lv_at hl 1 rfl) ?_
        refine my_cut (P := fun R9 a9 Q9 => ∀ (fv_40 : Nat → Int32) (ar_42 : Nat → Nat → Int32) (wd_44 : xT) (H : Heap) (locs : List Loc) (ls : Array Slot), rX fv_40 → fM [6, 23] fv_2 fv_40 → rB ar_42 → fA [4, 44, 48, 49, 50, 51, 52, 53, 54, 55, 56, 57] ar_4 ar_42 → wd_44.2 = wd_6.2 → va_P (dC, dI) vwCl (wsX ob ad cA fv_40 wd_44 ar_42) H → va_S (aX ob ad s.heap.size) s.heap H locs → lv_has ls 3 [(0, .ref (ob 8)), (1, .int a), (2, .int x_1)] → W p l e R9 s m a9 below meth c H locs 0 0 Q9 (F0 m 46 ls [])) ?_ (fun hj_46 => ?_)
        · intro fv_40 ar_42 wd_44 H locs ls hF_fv_40 fr_41 hA_ar_42 fa_43 wf_45 hP hS hl
          obtain ⟨v_47, ev_47⟩ : ∃ z : Int32, z = x_1 + 1 := ⟨_, rfl⟩
          refine lv_iinc (v := v_47) (lv' := [(2, .int v_47), (0, .ref (ob 8)), (1, .int a)]) hx hb dX1_sendTrips_46 hl (k := 2) rfl (by rw [ev_47]; rfl) (by decide) rfl (fun ls hl => ?_)
          have t_48 : v_47.toInt = x_1.toInt + 1 ∧ 1 ≤ v_47.toInt ∧ v_47.toInt ≤ 80 := iv_addc ev_47 i_14 (by decide) (by decide) (by decide)
          refine lv_goto (tgt := 2) hx hb dX1_sendTrips_49 (by decide) ?_
          exact ih_8 v_47 fv_40 ar_42 wd_44 _ _ ls (by omega) (iv_w t_48.2 (by decide) (by decide)) hF_fv_40 (fM_call (fM_call (fM_rf [6, 23] _) fr_3 (by decide)) fr_41 (by decide)) hA_ar_42 (fA_call (fA_call (fA_rf [4, 44, 48, 49, 50, 51, 52, 53, 54, 55, 56, 57] _) fa_5 (by decide)) fa_43 (by decide)) (wf_45.trans wf_7) hP hS (lv_sub hl [1, 2, 0] rfl)
        · skip
          refine lv_icmp_ne (tgt := 46) hx hb dX1_sendTrips_29 (by decide) (fun c_18 => ?_) (fun c_18 => ?_)
          · skip
            exact hj_46 fv_2 ar_4 wd_6 _ _ ls hF_fv_2 (fM_rf [6, 23] _) hA_ar_4 (fA_rf [4, 44, 48, 49, 50, 51, 52, 53, 54, 55, 56, 57] _) rfl hP hS (lv_sub hl [0, 1, 2] rfl)
          · skip
            have k_19 := congrArg Int32.toInt c_18
            refine lv_aload_n hx hb dX1_sendTrips_32 rfl (lv_at hl 0 rfl) ?_
            refine lv_iload_n hx hb dX1_sendTrips_33 rfl (lv_at hl 2 rfl) ?_
            refine va_calli (va_runV (As := [.int x_1]) (rest := []) ⟨hx, hb, hml, hown, hts⟩ (x_goesToday l dC dI H.size ob ad cA hd fv_2 wd_6 ar_4 hF_fv_2 hA_ar_4 x_1 i_14) (cwV 1 hts (gV kw_5_81 kw_5_83 kw_p_25 kw_1_12 kw_5_84) rfl rfl rfl (by decide +kernel) ⟨Nat.le_of_ble_eq_true rfl, Nat.le_of_ble_eq_true rfl⟩) ⟨fun a U g mk q => ⟨q.1, q.2.1, q.2.2.1, va_K.moved (u := U) (U := U.calling g mk a) (Vm.Alike.refl U.vm) q.2.2.2⟩, va_recv hK hP (ci := 2) (q0 := 8) rfl rfl, fun U hU hW => ⟨rfl, by rw [hU], by rw [hU]; exact hP, va_K.moved hW.alike hK⟩⟩ rfl rfl hl.1 rfl (lv_room (Nat.le_of_ble_eq_true rfl)) dX1_sendTrips_34 ⟨Nat.le_of_ble_eq_true rfl, Nat.le_of_ble_eq_true rfl⟩) hS (fun q _ h9 => aX_up hS q h9) (aX_up hS) (fun r_20 u t H1 locs ht _ hw hB _ hk1 hS => ?_)
            obtain ⟨fv_22, wd_23, ar_24⟩ := u
            obtain ⟨hF_fv_22, hA_ar_24, fr_25, fa_26, wf_27, p_21, -⟩ := hw
            have wf_27 : wd_23.2 = wd_6.2 := wf_27
            have hP : va_P (dC, dI) vwCl (wsX ob ad cA fv_22 wd_23 ar_24) H1 := by have h9 := hB.1; rw [ht] at h9; exact h9
            have fr_25 : fM [] fv_2 fv_22 := fr_25
            have fa_26 : fA [] ar_4 ar_24 := fa_26
            generalize H1 = H at hP hS ⊢
            refine lv_if_eq (tgt := 46) hx hb dX1_sendTrips_37 (by decide) (fun c_28 => ?_) (fun c_28 => ?_)
            · skip
              have i_29 : 0 ≤ r_20.toInt ∧ r_20.toInt ≤ 0 := iv_eq1 (⟨by decide, by decide⟩ : (0 : Int) ≤ (0 : Int32).toInt ∧ (0 : Int32).toInt ≤ 0) c_28
              exact hj_46 fv_22 ar_24 wd_23 _ _ ls hF_fv_22 (fM_call (fM_rf [6, 23] _) fr_25 (by decide)) hA_ar_24 (fA_call (fA_rf [4, 44, 48, 49, 50, 51, 52, 53, 54, 55, 56, 57] _) fa_26 (by decide)) wf_27 hP hS (lv_sub hl [0, 1, 2] rfl)
            · skip
              have i_31 : 1 ≤ r_20.toInt ∧ r_20.toInt ≤ 1 := iv_nel p_21 (by decide) c_28
              have k_32 : ¬ r_20.toInt = 0 := fun q => c_28 (Int32.toInt_inj.mp q)
              refine lv_aload_n hx hb dX1_sendTrips_40 rfl (lv_at hl 0 rfl) ?_
              refine lv_iload_n hx hb dX1_sendTrips_41 rfl (lv_at hl 2 rfl) ?_
              refine lv_iload_n hx hb dX1_sendTrips_42 rfl (lv_at hl 1 rfl) ?_
              refine va_callv (va_runV (As := [.int x_1, .int a]) (rest := []) ⟨hx, hb, hml, hown, hts⟩ (x_send l dC dI H.size ob ad cA hd fv_22 wd_23 ar_24 hF_fv_22 hA_ar_24 la lfr lra lrc lln lcn llr hlq x_1 a i_14 ((congrArg (fun z => z.2.1) (wf_27.trans wf_7)).trans hlr)) (cwV 2 hts (gV kw_5_165 kw_5_167 kw_p_36 kw_1_12 kw_5_168) rfl rfl rfl (by decide +kernel) ⟨Nat.le_of_ble_eq_true rfl, Nat.le_of_ble_eq_true rfl⟩) ⟨fun a U g mk q => ⟨q.1, ⟨q.2.1.1, q.2.1.2.1, va_K.moved (u := U) (U := U.calling g mk a) (Vm.Alike.refl U.vm) q.2.1.2.2⟩, ⟨q.2.2.1, va_K.moved (u := U) (U := U.calling g mk a) (Vm.Alike.refl U.vm) q.2.2.2.1, q.2.2.2.2⟩⟩, va_recv hK hP (ci := 2) (q0 := 8) rfl rfl, fun U hU hW => ⟨rfl, ⟨by rw [hU], by rw [hU]; exact hP, va_K.moved hW.alike hK⟩, lw_pass hL hS hU hW.alike⟩⟩ rfl rfl hl.1 rfl (lv_room (Nat.le_of_ble_eq_true rfl)) dX1_sendTrips_43 ⟨Nat.le_of_ble_eq_true rfl, Nat.le_of_ble_eq_true rfl⟩) hS (fun q _ h9 => aX_up hS q h9) (aX_up hS) (fun u t H1 locs ht _ hw hB _ hk1 hS => ?_)
              obtain ⟨fv_34, wd_35, ar_36⟩ := u
              obtain ⟨hF_fv_34, hA_ar_36, fr_37, fa_38, wf_39, -⟩ := hw
              have wf_39 : wd_35.2 = wd_23.2 := wf_39
              have hP : va_P (dC, dI) vwCl (wsX ob ad cA fv_34 wd_35 ar_36) H1 := by have h9 := hB.1; rw [ht] at h9; exact h9
              have fr_37 : fM [6, 23] fv_22 fv_34 := fr_37
              have fa_38 : fA [4, 44, 48, 49, 50, 51, 52, 53, 54, 55, 56, 57] ar_24 ar_36 := fa_38
              generalize H1 = H at hP hS ⊢
              exact hj_46 fv_34 ar_36 wd_35 _ _ ls hF_fv_34 (fM_call (fM_call (fM_rf [6, 23] _) fr_25 (by decide)) fr_37 (by decide)) hA_ar_36 (fA_call (fA_call (fA_rf [4, 44, 48, 49, 50, 51, 52, 53, 54, 55, 56, 57] _) fa_26 (by decide)) fa_38 (by decide)) (wf_39.trans wf_27) hP hS (lv_sub hl [0, 1, 2] rfl)
  · skip
    have z_50 : (0 : Int32).toInt = 0 := by decide
    exact hj_10 81 0 fv ar wd _ _ ls (by first | decide | omega) (iv_w (⟨by decide, by decide⟩ : (0 : Int) ≤ (0 : Int32).toInt ∧ (0 : Int32).toInt ≤ 0) (by decide) (by decide)) hF_fv (fM_rf [6, 23] _) hA_ar (fA_rf [4, 44, 48, 49, 50, 51, 52, 53, 54, 55, 56, 57] _) rfl hP hS (lv_sub hl [1, 2, 0] rfl)
set_option maxHeartbeats 4000000 in
set_option maxRecDepth 100000 in
theorem x_settle (l : Launch) (dC : Nat → ClassId) (dI : Nat → Nat → Nat) (sz : Nat) (ob ad : Nat → Nat) (cA : Nat → ClassId) (hd : dX ob ad) (fv : Nat → Int32) (wd : xT) (ar : Nat → Nat → Int32) (hF_fv : rX fv) (hA_ar : rB ar) (la : Nat) (lfr : Int32) (lra : Nat → Nat) (lrc : Nat → ClassId) (lln lcn : Nat) (llr : Nat → Nat → Int32) (hlq : lwQ lln lcn llr) (hlr : wd.2.2.1 = la) : Met l yX1_settle (.code yX1_settle cX1_settle 4 none :: lw_good) ({ frames := 4, cells := 0, slots := 0, locals := 89 }) (va_Pc [.ref (ob 8)] (fun U => prX dC dI ob ad cA fv wd ar sz U ∧ lwA dC dI ob ad la lfr lra lrc lln lcn llr sz U)) (va_Qv (fun (u : xS) => rX u.1 ∧ rB u.2.2 ∧ fM [8] fv u.1 ∧ fA [12, 13, 15, 16, 17, 18, 19, 24, 25, 26, 27, 35] ar u.2.2 ∧ u.2.1.2 = wd.2 ∧ True) (enX dC dI ob ad cA) (aX ob ad sz)) 0 0 (aX ob ad sz) := by
  refine Met.ofW (cc := cX1_settle) (maxL := 4) (ret := none) (by decide) rfl ?_
  intro p e s m args below meth c s₁ B hml hv
  obtain ⟨rfl, ⟨hsz, hP, hK⟩, hL⟩ := hv
  have hx := B.exec
  have hb := B.bytes
  have hr := B.returns
  have hts := atoms_spec (ws := (.code yX1_settle cX1_settle 4 none :: lw_good)) B.pre
  have htg : ∀ w ∈ lw_good, w.before _ s = true := fun w hw => hts w (List.mem_cons_of_mem _ hw)
  have hown : s.vm.findClass RX1 = some m.cls := findClass_of_methodNamed B.named
  have hlocks := B.notSynchronized
  subst hsz
  have hS : va_S (aX ob ad s.heap.size) s.heap s.heap [] := va_S.rf
  have hl := lv_entry ([.ref (ob 8)]) (n := 4) (Nat.le_of_ble_eq_true rfl)
  rw [lg_entry_eq]
  generalize (lg_sl ([.ref (ob 8)]) ++ List.replicate (4 - (lg_sl ([.ref (ob 8)])).length) Slot.unset).toArray = ls at hl ⊢
  have hl : lv_has ls 4 [(0, .ref (ob 8))] := hl
  refine lv_aload_n hx hb dX1_settle_0 rfl (lv_at hl 0 rfl) ?_
  refine gX_X1_9 hx hb htg hown hK hP dX1_settle_1 ?_
  refine lv_aload_n hx hb dX1_settle_4 rfl (lv_at hl 0 rfl) ?_
  refine gX_X1_93 hx hb htg hown hK hP dX1_settle_5 ?_
  refine pX_X1_90 hx hb htg hown hK hP hS hd dX1_settle_8 (fun H locs fv_1 efv_1 hP hS => ?_)
  have hF_fv_1 : rX fv_1 := rX_put hF_fv efv_1 (iv_any (fv 23))
  refine lv_aload_n hx hb dX1_settle_11 rfl (lv_at hl 0 rfl) ?_
  refine gX_X1_30 hx hb htg hown hK hP dX1_settle_12 ?_
  refine my_tr (w := la) (hlr) ?_
  refine lv_bipush (v := 6) hx hb dX1_settle_15 (by decide) ?_
  refine lv_aload_n hx hb dX1_settle_17 rfl (lv_at hl 0 rfl) ?_
  refine gX_X1_9 hx hb htg hown hK hP dX1_settle_18 ?_
  refine gX_X1_281 hx hb htg hown hK hP dX1_settle_21 ?_
  refine va_calli (va_runV (As := [.int 6, .ref (ad 4)]) (rest := []) ⟨hx, hb, hml, hown, hts⟩ (x_lineFor l dC dI H.size ob ad cA hd fv_1 wd ar hF_fv_1 hA_ar la lfr lra lrc lln lcn llr hlq 6) (cwV 2 hts (gV kw_5_215 kw_5_31 kw_5_32 kw_1_10 kw_5_33) rfl rfl rfl (by decide +kernel) ⟨Nat.le_of_ble_eq_true rfl, Nat.le_of_ble_eq_true rfl⟩) ⟨fun a U g mk q => ⟨q.1, ⟨q.2.1.1, q.2.1.2.1, va_K.moved (u := U) (U := U.calling g mk a) (Vm.Alike.refl U.vm) q.2.1.2.2⟩, ⟨q.2.2.1, va_K.moved (u := U) (U := U.calling g mk a) (Vm.Alike.refl U.vm) q.2.2.2.1, q.2.2.2.2⟩⟩, va_recv (lw_K hL) (lw_now hL hS) (ci := 1) (q0 := 0) rfl rfl, fun U hU hW => ⟨rfl, ⟨by rw [hU], by rw [hU]; exact hP, va_K.moved hW.alike hK⟩, lw_pass hL hS hU hW.alike⟩⟩ rfl rfl hl.1 rfl (lv_room (Nat.le_of_ble_eq_true rfl)) dX1_settle_24 ⟨Nat.le_of_ble_eq_true rfl, Nat.le_of_ble_eq_true rfl⟩) hS (fun q _ h9 => aX_up hS q h9) (aX_up hS) (fun r_2 u t H1 locs ht _ hw hB _ hk1 hS => ?_)
  obtain ⟨fv_5, wd_6, ar_7⟩ := u
  obtain ⟨hF_fv_5, hA_ar_7, fr_8, fa_9, wf_10, p_3, p_4, -⟩ := hw
  have wf_10 : wd_6.2 = wd.2 := wf_10
  have hP : va_P (dC, dI) vwCl (wsX ob ad cA fv_5 wd_6 ar_7) H1 := by have h9 := hB.1; rw [ht] at h9; exact h9
  have fr_8 : fM [] fv_1 fv_5 := fr_8
  have fa_9 : fA [] ar ar_7 := fa_9
  have p_4 : r_2.toInt < lln := p_4
  generalize H1 = H at hP hS ⊢
  refine lv_istore_n (lv' := [(1, .int r_2), (0, .ref (ob 8))]) hx hb dX1_settle_27 rfl hl (by decide) rfl (fun ls hl => ?_)
  refine lv_iload_n hx hb dX1_settle_28 rfl (lv_at hl 0 rfl) ?_
  refine lv_iconst (v := (-1)) hx hb dX1_settle_29 (by decide) ?_
  refine my_cut (P := fun R9 a9 Q9 => ∀ (x_17 : Int32) (H : Heap) (locs : List Loc) (ls : Array Slot), va_P (dC, dI) vwCl (wsX ob ad cA fv_5 wd_6 ar_7) H → va_S (aX ob ad s.heap.size) s.heap H locs → lv_has ls 4 [(0, .ref (ob 8))] → W p l e R9 s m a9 below meth c H locs 0 0 Q9 (F0 m 46 ls [.int x_17])) ?_ (fun hj_18 => ?_)
  · intro x_17 H locs ls  hP hS hl
    refine lv_istore_n (lv' := [(2, .int x_17), (0, .ref (ob 8))]) hx hb dX1_settle_46 rfl hl (by decide) rfl (fun ls hl => ?_)
    refine lv_iconst (v := 0) hx hb dX1_settle_47 (by decide) ?_
    refine lv_istore_n (lv' := [(3, .int 0), (2, .int x_17), (0, .ref (ob 8))]) hx hb dX1_settle_48 rfl hl (by decide) rfl (fun ls hl => ?_)
    refine my_cut (P := fun R9 a9 Q9 => ∀ (n_26 : Nat) (x_19 : Int32) (fv_20 : Nat → Int32) (ar_22 : Nat → Nat → Int32) (wd_24 : xT) (H : Heap) (locs : List Loc) (ls : Array Slot), 40 - x_19.toInt < (n_26 : Int) → (0 ≤ x_19.toInt ∧ x_19.toInt ≤ 40) → rX fv_20 → fM [] fv_5 fv_20 → rB ar_22 → fA [12, 13, 15, 16, 17, 18, 19] ar_7 ar_22 → wd_24.2 = wd_6.2 → va_P (dC, dI) vwCl (wsX ob ad cA fv_20 wd_24 ar_22) H → va_S (aX ob ad s.heap.size) s.heap H locs → lv_has ls 4 [(0, .ref (ob 8)), (2, .int x_17), (3, .int x_19)] → W p l e R9 s m a9 below meth c H locs 0 0 Q9 (F0 m 49 ls [])) ?_ (fun hj_28 => ?_)
    · intro n_26
      induction n_26 with
      | zero => intro x_19 fv_20 ar_22 wd_24 H locs ls fu_27 i_x_19 hF_fv_20 fr_21 hA_ar_22 fa_23 wf_25; exfalso; omega
      | succ n_26 ih_26 =>
        intro x_19 fv_20 ar_22 wd_24 H locs ls fu_27 i_x_19 hF_fv_20 fr_21 hA_ar_22 fa_23 wf_25 hP hS hl
        refine lv_iload_n hx hb dX1_settle_49 rfl (lv_at hl 2 rfl) ?_
        refine lv_aload_n hx hb dX1_settle_50 rfl (lv_at hl 0 rfl) ?_
        refine gX_X1_9 hx hb htg hown hK hP dX1_settle_51 ?_
        refine gX_X1_129 hx hb htg hown hK hP dX1_settle_54 ?_
        refine gX_X1_133 hx hb htg hown hK hP dX1_settle_57 ?_
        refine my_ti (y := fv 10) ((fr_21 10 rfl).trans ((fr_8 10 rfl).trans ((congrFun efv_1 10)))) ?_
        have i_29 : 0 ≤ (fv 10).toInt ∧ (fv 10).toInt ≤ 40 := hF_fv 10
        refine lv_icmp_ge (tgt := 75) hx hb dX1_settle_60 (by decide) (fun c_30 => ?_) (fun c_30 => ?_)
        · skip
          have k_31 := Int32.le_iff_toInt_le.mp c_30
          refine lv_iconst (v := 0) hx hb dX1_settle_75 (by decide) ?_
          refine lv_istore_n (lv' := [(3, .int 0), (0, .ref (ob 8)), (2, .int x_17)]) hx hb dX1_settle_76 rfl hl (by decide) rfl (fun ls hl => ?_)
          refine my_cut (P := fun R9 a9 Q9 => ∀ (n_48 : Nat) (x_45 : Int32) (ar_46 : Nat → Nat → Int32) (H : Heap) (locs : List Loc) (ls : Array Slot), 20 - x_45.toInt < (n_48 : Int) → (0 ≤ x_45.toInt ∧ x_45.toInt ≤ 20) → rB ar_46 → fA [24, 25, 26, 27] ar_22 ar_46 → va_P (dC, dI) vwCl (wsX ob ad cA fv_20 wd_24 ar_46) H → va_S (aX ob ad s.heap.size) s.heap H locs → lv_has ls 4 [(0, .ref (ob 8)), (3, .int x_45)] → W p l e R9 s m a9 below meth c H locs 0 0 Q9 (F0 m 77 ls [])) ?_ (fun hj_50 => ?_)
          · intro n_48
            induction n_48 with
            | zero => intro x_45 ar_46 H locs ls fu_49 i_x_45 hA_ar_46 fa_47; exfalso; omega
            | succ n_48 ih_48 =>
              intro x_45 ar_46 H locs ls fu_49 i_x_45 hA_ar_46 fa_47 hP hS hl
              refine lv_iload_n hx hb dX1_settle_77 rfl (lv_at hl 1 rfl) ?_
              refine lv_aload_n hx hb dX1_settle_78 rfl (lv_at hl 0 rfl) ?_
              refine gX_X1_9 hx hb htg hown hK hP dX1_settle_79 ?_
              refine gX_X1_148 hx hb htg hown hK hP dX1_settle_82 ?_
              refine gX_X1_152 hx hb htg hown hK hP dX1_settle_85 ?_
              refine my_ti (y := fv 11) ((fr_21 11 rfl).trans ((fr_8 11 rfl).trans ((congrFun efv_1 11)))) ?_
              have i_51 : 0 ≤ (fv 11).toInt ∧ (fv 11).toInt ≤ 20 := hF_fv 11
              refine lv_icmp_ge (tgt := 169) hx hb dX1_settle_88 (by decide) (fun c_52 => ?_) (fun c_52 => ?_)
              · skip
                have k_53 := Int32.le_iff_toInt_le.mp c_52
                refine lv_iconst (v := 0) hx hb dX1_settle_169 (by decide) ?_
                refine lv_istore_n (lv' := [(3, .int 0), (0, .ref (ob 8))]) hx hb dX1_settle_170 rfl hl (by decide) rfl (fun ls hl => ?_)
                refine my_cut (P := fun R9 a9 Q9 => ∀ (n_72 : Nat) (x_69 : Int32) (ar_70 : Nat → Nat → Int32) (H : Heap) (locs : List Loc) (ls : Array Slot), 80 - x_69.toInt < (n_72 : Int) → (0 ≤ x_69.toInt ∧ x_69.toInt ≤ 80) → rB ar_70 → fA [35] ar_46 ar_70 → va_P (dC, dI) vwCl (wsX ob ad cA fv_20 wd_24 ar_70) H → va_S (aX ob ad s.heap.size) s.heap H locs → lv_has ls 4 [(0, .ref (ob 8)), (3, .int x_69)] → W p l e R9 s m a9 below meth c H locs 0 0 Q9 (F0 m 171 ls [])) ?_ (fun hj_74 => ?_)
                · intro n_72
                  induction n_72 with
                  | zero => intro x_69 ar_70 H locs ls fu_73 i_x_69 hA_ar_70 fa_71; exfalso; omega
                  | succ n_72 ih_72 =>
                    intro x_69 ar_70 H locs ls fu_73 i_x_69 hA_ar_70 fa_71 hP hS hl
                    refine lv_iload_n hx hb dX1_settle_171 rfl (lv_at hl 1 rfl) ?_
                    refine lv_aload_n hx hb dX1_settle_172 rfl (lv_at hl 0 rfl) ?_
                    refine gX_X1_9 hx hb htg hown hK hP dX1_settle_173 ?_
                    refine gX_X1_157 hx hb htg hown hK hP dX1_settle_176 ?_
                    refine gX_X1_161 hx hb htg hown hK hP dX1_settle_179 ?_
                    refine my_ti (y := fv 12) ((fr_21 12 rfl).trans ((fr_8 12 rfl).trans ((congrFun efv_1 12)))) ?_
                    have i_75 : 0 ≤ (fv 12).toInt ∧ (fv 12).toInt ≤ 80 := hF_fv 12
                    refine lv_icmp_ge (tgt := 209) hx hb dX1_settle_182 (by decide) (fun c_76 => ?_) (fun c_76 => ?_)
                    · skip
                      have k_77 := Int32.le_iff_toInt_le.mp c_76
                      exact W.vret hx hb hr (fun t ht hW => ⟨⟨(fv_20, wd_24, ar_70), rfl, ⟨hF_fv_20, hA_ar_70, (fM_call (fM_call (fM_put (fM_rf [8] _) efv_1 (by decide)) fr_8 (by decide)) fr_21 (by decide)), (fA_call (fA_call (fA_call (fA_call (fA_rf [12, 13, 15, 16, 17, 18, 19, 24, 25, 26, 27, 35] _) fa_9 (by decide)) fa_23 (by decide)) fa_47 (by decide)) fa_71 (by decide)), (wf_25.trans wf_10), trivial⟩, ⟨by rw [ht]; exact hP, va_K.moved hW.alike hK⟩⟩, hS.F ht⟩) hS.2.2 dX1_settle_209
                    · skip
                      have i_78 : 0 ≤ x_69.toInt ∧ x_69.toInt ≤ 79 := iv_lt1 i_x_69 i_75 (Int32.not_le.mp c_76)
                      have i_79 : 1 ≤ (fv 12).toInt ∧ (fv 12).toInt ≤ 80 := iv_lt2 i_x_69 i_75 (Int32.not_le.mp c_76)
                      have k_80 := Int32.lt_iff_toInt_lt.mp (Int32.not_le.mp c_76)
                      refine lv_aload_n hx hb dX1_settle_185 rfl (lv_at hl 0 rfl) ?_
                      refine gX_X1_9 hx hb htg hown hK hP dX1_settle_186 ?_
                      refine gX_X1_157 hx hb htg hown hK hP dX1_settle_189 ?_
                      refine gX_X1_297 hx hb htg hown hK hP dX1_settle_192 ?_
                      refine lv_iload_n hx hb dX1_settle_195 rfl (lv_at hl 1 rfl) ?_
                      refine lv_aload_n hx hb dX1_settle_196 rfl (lv_at hl 0 rfl) ?_
                      refine gX_X1_76 hx hb htg hown hK hP dX1_settle_197 ?_
                      refine lv_iload_n hx hb dX1_settle_200 rfl (lv_at hl 1 rfl) ?_
                      refine lX_56 hx hb hK hP (iv_in i_78 (by decide) (by decide)) dX1_settle_201 (fun v_81 ev_81 => ?_)
                      refine sX_35 hx hb hK hP hS hd (iv_in i_78 (by decide) (by decide)) dX1_settle_202 (fun H locs ar_82 ear_82 hP hS => ?_)
                      have hA_ar_82 : rB ar_82 := rB_put hA_ar_70 ear_82 (iv_any _)
                      obtain ⟨v_83, ev_83⟩ : ∃ z : Int32, z = x_69 + 1 := ⟨_, rfl⟩
                      refine lv_iinc (v := v_83) (lv' := [(3, .int v_83), (0, .ref (ob 8))]) hx hb dX1_settle_203 hl (k := 1) rfl (by rw [ev_83]; rfl) (by decide) rfl (fun ls hl => ?_)
                      have t_84 : v_83.toInt = x_69.toInt + 1 ∧ 1 ≤ v_83.toInt ∧ v_83.toInt ≤ 80 := iv_addc ev_83 i_78 (by decide) (by decide) (by decide)
                      refine lv_goto (tgt := 171) hx hb dX1_settle_206 (by decide) ?_
                      exact ih_72 v_83 ar_82 _ _ ls (by omega) (iv_w t_84.2 (by decide) (by decide)) hA_ar_82 (fA_put (fA_call (fA_rf [35] _) fa_71 (by decide)) ear_82 (by decide)) hP hS (lv_sub hl [1, 0] rfl)
                · skip
                  have z_86 : (0 : Int32).toInt = 0 := by decide
                  exact hj_74 81 0 ar_46 _ _ ls (by first | decide | omega) (iv_w (⟨by decide, by decide⟩ : (0 : Int) ≤ (0 : Int32).toInt ∧ (0 : Int32).toInt ≤ 0) (by decide) (by decide)) hA_ar_46 (fA_rf [35] _) hP hS (lv_sub hl [1, 0] rfl)
              · skip
                have i_54 : 0 ≤ x_45.toInt ∧ x_45.toInt ≤ 19 := iv_lt1 i_x_45 i_51 (Int32.not_le.mp c_52)
                have i_55 : 1 ≤ (fv 11).toInt ∧ (fv 11).toInt ≤ 20 := iv_lt2 i_x_45 i_51 (Int32.not_le.mp c_52)
                have k_56 := Int32.lt_iff_toInt_lt.mp (Int32.not_le.mp c_52)
                refine lv_aload_n hx hb dX1_settle_91 rfl (lv_at hl 0 rfl) ?_
                refine gX_X1_9 hx hb htg hown hK hP dX1_settle_92 ?_
                refine gX_X1_148 hx hb htg hown hK hP dX1_settle_95 ?_
                refine gX_X1_153 hx hb htg hown hK hP dX1_settle_98 ?_
                refine lv_iload_n hx hb dX1_settle_101 rfl (lv_at hl 1 rfl) ?_
                refine lv_aload_n hx hb dX1_settle_102 rfl (lv_at hl 0 rfl) ?_
                refine gX_X1_59 hx hb htg hown hK hP dX1_settle_103 ?_
                refine lv_iload_n hx hb dX1_settle_106 rfl (lv_at hl 1 rfl) ?_
                refine lX_51 hx hb hK hP (iv_in i_54 (by decide) (by decide)) dX1_settle_107 (fun v_57 ev_57 => ?_)
                refine sX_24 hx hb hK hP hS hd (iv_in i_54 (by decide) (by decide)) dX1_settle_108 (fun H locs ar_58 ear_58 hP hS => ?_)
                have hA_ar_58 : rB ar_58 := rB_put hA_ar_46 ear_58 (iv_any _)
                refine lv_aload_n hx hb dX1_settle_109 rfl (lv_at hl 0 rfl) ?_
                refine gX_X1_9 hx hb htg hown hK hP dX1_settle_110 ?_
                refine gX_X1_148 hx hb htg hown hK hP dX1_settle_113 ?_
                refine gX_X1_294 hx hb htg hown hK hP dX1_settle_116 ?_
                refine lv_iload_n hx hb dX1_settle_119 rfl (lv_at hl 1 rfl) ?_
                refine lv_aload_n hx hb dX1_settle_120 rfl (lv_at hl 0 rfl) ?_
                refine gX_X1_62 hx hb htg hown hK hP dX1_settle_121 ?_
                refine lv_iload_n hx hb dX1_settle_124 rfl (lv_at hl 1 rfl) ?_
                refine lX_52 hx hb hK hP (iv_in i_54 (by decide) (by decide)) dX1_settle_125 (fun v_59 ev_59 => ?_)
                refine sX_25 hx hb hK hP hS hd (iv_in i_54 (by decide) (by decide)) dX1_settle_126 (fun H locs ar_60 ear_60 hP hS => ?_)
                have hA_ar_60 : rB ar_60 := rB_put hA_ar_58 ear_60 (iv_any _)
                refine lv_aload_n hx hb dX1_settle_127 rfl (lv_at hl 0 rfl) ?_
                refine gX_X1_9 hx hb htg hown hK hP dX1_settle_128 ?_
                refine gX_X1_148 hx hb htg hown hK hP dX1_settle_131 ?_
                refine gX_X1_295 hx hb htg hown hK hP dX1_settle_134 ?_
                refine lv_iload_n hx hb dX1_settle_137 rfl (lv_at hl 1 rfl) ?_
                refine lv_aload_n hx hb dX1_settle_138 rfl (lv_at hl 0 rfl) ?_
                refine gX_X1_65 hx hb htg hown hK hP dX1_settle_139 ?_
                refine lv_iload_n hx hb dX1_settle_142 rfl (lv_at hl 1 rfl) ?_
                refine lX_53 hx hb hK hP (iv_in i_54 (by decide) (by decide)) dX1_settle_143 (fun v_61 ev_61 => ?_)
                refine sX_26 hx hb hK hP hS hd (iv_in i_54 (by decide) (by decide)) dX1_settle_144 (fun H locs ar_62 ear_62 hP hS => ?_)
                have hA_ar_62 : rB ar_62 := rB_put hA_ar_60 ear_62 (iv_any _)
                refine lv_aload_n hx hb dX1_settle_145 rfl (lv_at hl 0 rfl) ?_
                refine gX_X1_9 hx hb htg hown hK hP dX1_settle_146 ?_
                refine gX_X1_148 hx hb htg hown hK hP dX1_settle_149 ?_
                refine gX_X1_296 hx hb htg hown hK hP dX1_settle_152 ?_
                refine lv_iload_n hx hb dX1_settle_155 rfl (lv_at hl 1 rfl) ?_
                refine lv_aload_n hx hb dX1_settle_156 rfl (lv_at hl 0 rfl) ?_
                refine gX_X1_68 hx hb htg hown hK hP dX1_settle_157 ?_
                refine lv_iload_n hx hb dX1_settle_160 rfl (lv_at hl 1 rfl) ?_
                refine lX_54 hx hb hK hP (iv_in i_54 (by decide) (by decide)) dX1_settle_161 (fun v_63 ev_63 => ?_)
                have i_64 : 0 ≤ v_63.toInt ∧ v_63.toInt ≤ 7 := ev_63 ▸ hA_ar_62 54 _
                refine sX_27 hx hb hK hP hS hd (iv_in i_54 (by decide) (by decide)) dX1_settle_162 (fun H locs ar_65 ear_65 hP hS => ?_)
                have hA_ar_65 : rB ar_65 := rB_put hA_ar_62 ear_65 (iv_any _)
                obtain ⟨v_66, ev_66⟩ : ∃ z : Int32, z = x_45 + 1 := ⟨_, rfl⟩
                refine lv_iinc (v := v_66) (lv' := [(3, .int v_66), (0, .ref (ob 8))]) hx hb dX1_settle_163 hl (k := 1) rfl (by rw [ev_66]; rfl) (by decide) rfl (fun ls hl => ?_)
                have t_67 : v_66.toInt = x_45.toInt + 1 ∧ 1 ≤ v_66.toInt ∧ v_66.toInt ≤ 20 := iv_addc ev_66 i_54 (by decide) (by decide) (by decide)
                refine lv_goto (tgt := 77) hx hb dX1_settle_166 (by decide) ?_
                exact ih_48 v_66 ar_65 _ _ ls (by omega) (iv_w t_67.2 (by decide) (by decide)) hA_ar_65 (fA_put (fA_put (fA_put (fA_put (fA_call (fA_rf [24, 25, 26, 27] _) fa_47 (by decide)) ear_58 (by decide)) ear_60 (by decide)) ear_62 (by decide)) ear_65 (by decide)) hP hS (lv_sub hl [1, 0] rfl)
          · skip
            have z_87 : (0 : Int32).toInt = 0 := by decide
            exact hj_50 21 0 ar_22 _ _ ls (by first | decide | omega) (iv_w (⟨by decide, by decide⟩ : (0 : Int) ≤ (0 : Int32).toInt ∧ (0 : Int32).toInt ≤ 0) (by decide) (by decide)) hA_ar_22 (fA_rf [24, 25, 26, 27] _) hP hS (lv_sub hl [1, 0] rfl)
        · skip
          have i_32 : 0 ≤ x_19.toInt ∧ x_19.toInt ≤ 39 := iv_lt1 i_x_19 i_29 (Int32.not_le.mp c_30)
          have i_33 : 1 ≤ (fv 10).toInt ∧ (fv 10).toInt ≤ 40 := iv_lt2 i_x_19 i_29 (Int32.not_le.mp c_30)
          have k_34 := Int32.lt_iff_toInt_lt.mp (Int32.not_le.mp c_30)
          refine lv_aload_n hx hb dX1_settle_63 rfl (lv_at hl 0 rfl) ?_
          refine lv_iload_n hx hb dX1_settle_64 rfl (lv_at hl 2 rfl) ?_
          refine lv_iload_n hx hb dX1_settle_65 rfl (lv_at hl 1 rfl) ?_
          refine va_callv (va_runV (As := [.int x_19, .int x_17]) (rest := []) ⟨hx, hb, hml, hown, hts⟩ (x_settlePerson l dC dI H.size ob ad cA hd fv_20 wd_24 ar_22 hF_fv_20 hA_ar_22 x_19 x_17 i_32) (cwV 2 hts (gV kw_5_216 kw_5_218 kw_p_46 kw_1_12 kw_5_219) rfl rfl rfl (by decide +kernel) ⟨Nat.le_of_ble_eq_true rfl, Nat.le_of_ble_eq_true rfl⟩) ⟨fun a U g mk q => ⟨q.1, q.2.1, q.2.2.1, va_K.moved (u := U) (U := U.calling g mk a) (Vm.Alike.refl U.vm) q.2.2.2⟩, va_recv hK hP (ci := 2) (q0 := 8) rfl rfl, fun U hU hW => ⟨rfl, by rw [hU], by rw [hU]; exact hP, va_K.moved hW.alike hK⟩⟩ rfl rfl hl.1 rfl (lv_room (Nat.le_of_ble_eq_true rfl)) dX1_settle_66 ⟨Nat.le_of_ble_eq_true rfl, Nat.le_of_ble_eq_true rfl⟩) hS (fun q _ h9 => aX_up hS q h9) (aX_up hS) (fun u t H1 locs ht _ hw hB _ hk1 hS => ?_)
          obtain ⟨fv_36, wd_37, ar_38⟩ := u
          obtain ⟨hF_fv_36, hA_ar_38, fr_39, fa_40, wf_41, -⟩ := hw
          have wf_41 : wd_37.2 = wd_24.2 := wf_41
          have hP : va_P (dC, dI) vwCl (wsX ob ad cA fv_36 wd_37 ar_38) H1 := by have h9 := hB.1; rw [ht] at h9; exact h9
          have fr_39 : fM [] fv_20 fv_36 := fr_39
          have fa_40 : fA [12, 13, 15, 16, 17, 18, 19] ar_22 ar_38 := fa_40
          generalize H1 = H at hP hS ⊢
          obtain ⟨v_42, ev_42⟩ : ∃ z : Int32, z = x_19 + 1 := ⟨_, rfl⟩
          refine lv_iinc (v := v_42) (lv' := [(3, .int v_42), (0, .ref (ob 8)), (2, .int x_17)]) hx hb dX1_settle_69 hl (k := 2) rfl (by rw [ev_42]; rfl) (by decide) rfl (fun ls hl => ?_)
          have t_43 : v_42.toInt = x_19.toInt + 1 ∧ 1 ≤ v_42.toInt ∧ v_42.toInt ≤ 40 := iv_addc ev_42 i_32 (by decide) (by decide) (by decide)
          refine lv_goto (tgt := 49) hx hb dX1_settle_72 (by decide) ?_
          exact ih_26 v_42 fv_36 ar_38 wd_37 _ _ ls (by omega) (iv_w t_43.2 (by decide) (by decide)) hF_fv_36 (fM_call (fM_call (fM_rf [] _) fr_21 (by decide)) fr_39 (by decide)) hA_ar_38 (fA_call (fA_call (fA_rf [12, 13, 15, 16, 17, 18, 19] _) fa_23 (by decide)) fa_40 (by decide)) (wf_41.trans wf_25) hP hS (lv_sub hl [1, 2, 0] rfl)
    · skip
      have z_88 : (0 : Int32).toInt = 0 := by decide
      exact hj_28 41 0 fv_5 ar_7 wd_6 _ _ ls (by first | decide | omega) (iv_w (⟨by decide, by decide⟩ : (0 : Int) ≤ (0 : Int32).toInt ∧ (0 : Int32).toInt ≤ 0) (by decide) (by decide)) hF_fv_5 (fM_rf [] _) hA_ar_7 (fA_rf [12, 13, 15, 16, 17, 18, 19] _) rfl hP hS (lv_sub hl [2, 1, 0] rfl)
  · skip
    refine lv_icmp_ne (tgt := 37) hx hb dX1_settle_30 (by decide) (fun c_11 => ?_) (fun c_11 => ?_)
    · skip
      have i_12 : 0 ≤ r_2.toInt ∧ r_2.toInt ≤ 15 := iv_nel p_3 (by decide) c_11
      have k_13 : ¬ r_2.toInt = (-1) := fun q => c_11 (Int32.toInt_inj.mp q)
      refine lv_aload_n hx hb dX1_settle_37 rfl (lv_at hl 1 rfl) ?_
      refine gX_X1_30 hx hb htg hown hK hP dX1_settle_38 ?_
      refine my_tr (w := la) ((congrArg (fun z => z.2.1) wf_10).trans hlr) ?_
      refine gL_X1_288 hx hb htg hown (lw_K hL) (lw_now hL hS) dX1_settle_41 ?_
      refine lv_iload_n hx hb dX1_settle_44 rfl (lv_at hl 0 rfl) ?_
      refine lL_2 hx hb (lw_K hL) (lw_now hL hS) (vp_in_iff.mpr (by omega)) dX1_settle_45 (fun v_14 ev_14 => ?_)
      exact hj_18 v_14 _ _ ls  hP hS (lv_sub hl [1] rfl)
    · skip
      have i_15 : (-1) ≤ r_2.toInt ∧ r_2.toInt ≤ (-1) := iv_eq1 (⟨by decide, by decide⟩ : (-1 : Int) ≤ ((-1) : Int32).toInt ∧ ((-1) : Int32).toInt ≤ -1) c_11
      refine lv_iconst (v := 0) hx hb dX1_settle_33 (by decide) ?_
      refine lv_goto (tgt := 46) hx hb dX1_settle_34 (by decide) ?_
      exact hj_18 0 _ _ ls  hP hS (lv_sub hl [1] rfl)

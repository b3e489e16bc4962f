theorem dX0_holds_0 : decode cX0_holds 0 = .ok (.iload_n 1, 1) := by decide +kernel
theorem dX0_holds_1 : decode cX0_holds 1 = .ok (.ifCond .ne 7, 3) := by decide +kernel
theorem dX0_holds_4 : decode cX0_holds 4 = .ok (.iconst 0, 1) := by decide +kernel
theorem dX0_holds_5 : decode cX0_holds 5 = .ok (.goto 11, 3) := by decide +kernel
theorem dX0_holds_8 : decode cX0_holds 8 = .ok (.aload_n 0, 1) := by decide +kernel
theorem dX0_holds_9 : decode cX0_holds 9 = .ok (.getfield 22, 3) := by decide +kernel
theorem dX0_holds_12 : decode cX0_holds 12 = .ok (.iload_n 1, 1) := by decide +kernel
theorem dX0_holds_13 : decode cX0_holds 13 = .ok (.iconst 1, 1) := by decide +kernel
theorem dX0_holds_14 : decode cX0_holds 14 = .ok (.isub, 1) := by decide +kernel
theorem dX0_holds_15 : decode cX0_holds 15 = .ok (.iaload, 1) := by decide +kernel
theorem dX0_holds_16 : decode cX0_holds 16 = .ok (.istore_n 3, 1) := by decide +kernel
theorem dX0_holds_17 : decode cX0_holds 17 = .ok (.iconst 1, 1) := by decide +kernel
theorem dX0_holds_18 : decode cX0_holds 18 = .ok (.istore 4, 2) := by decide +kernel
theorem dX0_holds_20 : decode cX0_holds 20 = .ok (.iload_n 3, 1) := by decide +kernel
theorem dX0_holds_21 : decode cX0_holds 21 = .ok (.istore 5, 2) := by decide +kernel
theorem dX0_holds_23 : decode cX0_holds 23 = .ok (.iload 5, 2) := by decide +kernel
theorem dX0_holds_25 : decode cX0_holds 25 = .ok (.aload_n 0, 1) := by decide +kernel
theorem dX0_holds_26 : decode cX0_holds 26 = .ok (.getfield 22, 3) := by decide +kernel
theorem dX0_holds_29 : decode cX0_holds 29 = .ok (.iload_n 1, 1) := by decide +kernel
theorem dX0_holds_30 : decode cX0_holds 30 = .ok (.iaload, 1) := by decide +kernel
theorem dX0_holds_31 : decode cX0_holds 31 = .ok (.if_icmp .ge 206, 3) := by decide +kernel
theorem dX0_holds_34 : decode cX0_holds 34 = .ok (.aload_n 2, 1) := by decide +kernel
theorem dX0_holds_35 : decode cX0_holds 35 = .ok (.aload_n 0, 1) := by decide +kernel
theorem dX0_holds_36 : decode cX0_holds 36 = .ok (.getfield 28, 3) := by decide +kernel
theorem dX0_holds_39 : decode cX0_holds 39 = .ok (.iload 5, 2) := by decide +kernel
theorem dX0_holds_41 : decode cX0_holds 41 = .ok (.iaload, 1) := by decide +kernel
theorem dX0_holds_42 : decode cX0_holds 42 = .ok (.iaload, 1) := by decide +kernel
theorem dX0_holds_43 : decode cX0_holds 43 = .ok (.istore 6, 2) := by decide +kernel
theorem dX0_holds_45 : decode cX0_holds 45 = .ok (.aload_n 0, 1) := by decide +kernel
theorem dX0_holds_46 : decode cX0_holds 46 = .ok (.getfield 25, 3) := by decide +kernel
theorem dX0_holds_49 : decode cX0_holds 49 = .ok (.iload 5, 2) := by decide +kernel
theorem dX0_holds_51 : decode cX0_holds 51 = .ok (.iaload, 1) := by decide +kernel
theorem dX0_holds_52 : decode cX0_holds 52 = .ok (.tableswitch 155 0 5 #[101, 128, 155, 40, 49, 75], 40) := by decide +kernel
theorem dX0_holds_92 : decode cX0_holds 92 = .ok (.iload 4, 2) := by decide +kernel
theorem dX0_holds_94 : decode cX0_holds 94 = .ok (.iconst 1, 1) := by decide +kernel
theorem dX0_holds_95 : decode cX0_holds 95 = .ok (.ixor, 1) := by decide +kernel
theorem dX0_holds_96 : decode cX0_holds 96 = .ok (.istore 4, 2) := by decide +kernel
theorem dX0_holds_98 : decode cX0_holds 98 = .ok (.goto 133, 3) := by decide +kernel
theorem dX0_holds_101 : decode cX0_holds 101 = .ok (.iload 4, 2) := by decide +kernel
theorem dX0_holds_103 : decode cX0_holds 103 = .ok (.iconst 1, 1) := by decide +kernel
theorem dX0_holds_104 : decode cX0_holds 104 = .ok (.iand, 1) := by decide +kernel
theorem dX0_holds_105 : decode cX0_holds 105 = .ok (.iconst 1, 1) := by decide +kernel
theorem dX0_holds_106 : decode cX0_holds 106 = .ok (.if_icmp .ne 10, 3) := by decide +kernel
theorem dX0_holds_109 : decode cX0_holds 109 = .ok (.iload 4, 2) := by decide +kernel
theorem dX0_holds_111 : decode cX0_holds 111 = .ok (.iconst 1, 1) := by decide +kernel
theorem dX0_holds_112 : decode cX0_holds 112 = .ok (.ishr, 1) := by decide +kernel
theorem dX0_holds_113 : decode cX0_holds 113 = .ok (.goto 9, 3) := by decide +kernel
theorem dX0_holds_116 : decode cX0_holds 116 = .ok (.iload 4, 2) := by decide +kernel
theorem dX0_holds_118 : decode cX0_holds 118 = .ok (.iconst 2, 1) := by decide +kernel
theorem dX0_holds_119 : decode cX0_holds 119 = .ok (.ishr, 1) := by decide +kernel
theorem dX0_holds_120 : decode cX0_holds 120 = .ok (.iconst 1, 1) := by decide +kernel
theorem dX0_holds_121 : decode cX0_holds 121 = .ok (.ishl, 1) := by decide +kernel
theorem dX0_holds_122 : decode cX0_holds 122 = .ok (.istore 4, 2) := by decide +kernel
theorem dX0_holds_124 : decode cX0_holds 124 = .ok (.goto 107, 3) := by decide +kernel
theorem dX0_holds_127 : decode cX0_holds 127 = .ok (.iload 4, 2) := by decide +kernel
theorem dX0_holds_129 : decode cX0_holds 129 = .ok (.iconst 1, 1) := by decide +kernel
theorem dX0_holds_130 : decode cX0_holds 130 = .ok (.iand, 1) := by decide +kernel
theorem dX0_holds_131 : decode cX0_holds 131 = .ok (.iconst 1, 1) := by decide +kernel
theorem dX0_holds_132 : decode cX0_holds 132 = .ok (.if_icmp .ne 12, 3) := by decide +kernel
theorem dX0_holds_135 : decode cX0_holds 135 = .ok (.iload 4, 2) := by decide +kernel
theorem dX0_holds_137 : decode cX0_holds 137 = .ok (.iconst 1, 1) := by decide +kernel
theorem dX0_holds_138 : decode cX0_holds 138 = .ok (.ishr, 1) := by decide +kernel
theorem dX0_holds_139 : decode cX0_holds 139 = .ok (.iconst 1, 1) := by decide +kernel
theorem dX0_holds_140 : decode cX0_holds 140 = .ok (.ior, 1) := by decide +kernel
theorem dX0_holds_141 : decode cX0_holds 141 = .ok (.goto 7, 3) := by decide +kernel
theorem dX0_holds_144 : decode cX0_holds 144 = .ok (.iload 4, 2) := by decide +kernel
theorem dX0_holds_146 : decode cX0_holds 146 = .ok (.iconst 1, 1) := by decide +kernel
theorem dX0_holds_147 : decode cX0_holds 147 = .ok (.ishr, 1) := by decide +kernel
theorem dX0_holds_148 : decode cX0_holds 148 = .ok (.istore 4, 2) := by decide +kernel
theorem dX0_holds_150 : decode cX0_holds 150 = .ok (.goto 81, 3) := by decide +kernel
theorem dX0_holds_153 : decode cX0_holds 153 = .ok (.iload 4, 2) := by decide +kernel
theorem dX0_holds_155 : decode cX0_holds 155 = .ok (.iconst 1, 1) := by decide +kernel
theorem dX0_holds_156 : decode cX0_holds 156 = .ok (.ishl, 1) := by decide +kernel
theorem dX0_holds_157 : decode cX0_holds 157 = .ok (.iload 6, 2) := by decide +kernel
theorem dX0_holds_159 : decode cX0_holds 159 = .ok (.aload_n 0, 1) := by decide +kernel
theorem dX0_holds_160 : decode cX0_holds 160 = .ok (.getfield 31, 3) := by decide +kernel
theorem dX0_holds_163 : decode cX0_holds 163 = .ok (.iload 5, 2) := by decide +kernel
theorem dX0_holds_165 : decode cX0_holds 165 = .ok (.iaload, 1) := by decide +kernel
theorem dX0_holds_166 : decode cX0_holds 166 = .ok (.if_icmp .ge 7, 3) := by decide +kernel
theorem dX0_holds_169 : decode cX0_holds 169 = .ok (.iconst 1, 1) := by decide +kernel
theorem dX0_holds_170 : decode cX0_holds 170 = .ok (.goto 4, 3) := by decide +kernel
theorem dX0_holds_173 : decode cX0_holds 173 = .ok (.iconst 0, 1) := by decide +kernel
theorem dX0_holds_174 : decode cX0_holds 174 = .ok (.ior, 1) := by decide +kernel
theorem dX0_holds_175 : decode cX0_holds 175 = .ok (.istore 4, 2) := by decide +kernel
theorem dX0_holds_177 : decode cX0_holds 177 = .ok (.goto 54, 3) := by decide +kernel
theorem dX0_holds_180 : decode cX0_holds 180 = .ok (.iload 4, 2) := by decide +kernel
theorem dX0_holds_182 : decode cX0_holds 182 = .ok (.iconst 1, 1) := by decide +kernel
theorem dX0_holds_183 : decode cX0_holds 183 = .ok (.ishl, 1) := by decide +kernel
theorem dX0_holds_184 : decode cX0_holds 184 = .ok (.iload 6, 2) := by decide +kernel
theorem dX0_holds_186 : decode cX0_holds 186 = .ok (.aload_n 0, 1) := by decide +kernel
theorem dX0_holds_187 : decode cX0_holds 187 = .ok (.getfield 31, 3) := by decide +kernel
theorem dX0_holds_190 : decode cX0_holds 190 = .ok (.iload 5, 2) := by decide +kernel
theorem dX0_holds_192 : decode cX0_holds 192 = .ok (.iaload, 1) := by decide +kernel
theorem dX0_holds_193 : decode cX0_holds 193 = .ok (.if_icmp .ne 7, 3) := by decide +kernel
theorem dX0_holds_196 : decode cX0_holds 196 = .ok (.iconst 1, 1) := by decide +kernel
theorem dX0_holds_197 : decode cX0_holds 197 = .ok (.goto 4, 3) := by decide +kernel
theorem dX0_holds_200 : decode cX0_holds 200 = .ok (.iconst 0, 1) := by decide +kernel
theorem dX0_holds_201 : decode cX0_holds 201 = .ok (.ior, 1) := by decide +kernel
theorem dX0_holds_202 : decode cX0_holds 202 = .ok (.istore 4, 2) := by decide +kernel
theorem dX0_holds_204 : decode cX0_holds 204 = .ok (.goto 27, 3) := by decide +kernel
theorem dX0_holds_207 : decode cX0_holds 207 = .ok (.iload 4, 2) := by decide +kernel
theorem dX0_holds_209 : decode cX0_holds 209 = .ok (.iconst 1, 1) := by decide +kernel
theorem dX0_holds_210 : decode cX0_holds 210 = .ok (.ishl, 1) := by decide +kernel
theorem dX0_holds_211 : decode cX0_holds 211 = .ok (.iload 6, 2) := by decide +kernel
theorem dX0_holds_213 : decode cX0_holds 213 = .ok (.aload_n 0, 1) := by decide +kernel
theorem dX0_holds_214 : decode cX0_holds 214 = .ok (.getfield 31, 3) := by decide +kernel
theorem dX0_holds_217 : decode cX0_holds 217 = .ok (.iload 5, 2) := by decide +kernel
theorem dX0_holds_219 : decode cX0_holds 219 = .ok (.iaload, 1) := by decide +kernel
theorem dX0_holds_220 : decode cX0_holds 220 = .ok (.if_icmp .le 7, 3) := by decide +kernel
theorem dX0_holds_223 : decode cX0_holds 223 = .ok (.iconst 1, 1) := by decide +kernel
theorem dX0_holds_224 : decode cX0_holds 224 = .ok (.goto 4, 3) := by decide +kernel
theorem dX0_holds_227 : decode cX0_holds 227 = .ok (.iconst 0, 1) := by decide +kernel
theorem dX0_holds_228 : decode cX0_holds 228 = .ok (.ior, 1) := by decide +kernel
theorem dX0_holds_229 : decode cX0_holds 229 = .ok (.istore 4, 2) := by decide +kernel
theorem dX0_holds_231 : decode cX0_holds 231 = .ok (.iinc 5 1, 3) := by decide +kernel
theorem dX0_holds_234 : decode cX0_holds 234 = .ok (.goto (-211), 3) := by decide +kernel
theorem dX0_holds_237 : decode cX0_holds 237 = .ok (.iload 4, 2) := by decide +kernel
theorem dX0_holds_239 : decode cX0_holds 239 = .ok (.iconst 1, 1) := by decide +kernel
theorem dX0_holds_240 : decode cX0_holds 240 = .ok (.iand, 1) := by decide +kernel
theorem dX0_holds_241 : decode cX0_holds 241 = .ok (.iconst 1, 1) := by decide +kernel
theorem dX0_holds_242 : decode cX0_holds 242 = .ok (.if_icmp .ne 7, 3) := by decide +kernel
theorem dX0_holds_245 : decode cX0_holds 245 = .ok (.iconst 1, 1) := by decide +kernel
theorem dX0_holds_246 : decode cX0_holds 246 = .ok (.goto 4, 3) := by decide +kernel
theorem dX0_holds_249 : decode cX0_holds 249 = .ok (.iconst 0, 1) := by decide +kernel
theorem dX0_holds_250 : decode cX0_holds 250 = .ok (.ireturn, 1) := by decide +kernel
theorem dX0_lineFor_0 : decode cX0_lineFor 0 = .ok (.iconst 0, 1) := by decide +kernel
theorem dX0_lineFor_1 : decode cX0_lineFor 1 = .ok (.istore_n 3, 1) := by decide +kernel
theorem dX0_lineFor_2 : decode cX0_lineFor 2 = .ok (.iload_n 3, 1) := by decide +kernel
theorem dX0_lineFor_3 : decode cX0_lineFor 3 = .ok (.aload_n 0, 1) := by decide +kernel
theorem dX0_lineFor_4 : decode cX0_lineFor 4 = .ok (.getfield 15, 3) := by decide +kernel
theorem dX0_lineFor_7 : decode cX0_lineFor 7 = .ok (.arraylength, 1) := by decide +kernel
theorem dX0_lineFor_8 : decode cX0_lineFor 8 = .ok (.if_icmp .ge 30, 3) := by decide +kernel
theorem dX0_lineFor_11 : decode cX0_lineFor 11 = .ok (.aload_n 0, 1) := by decide +kernel
theorem dX0_lineFor_12 : decode cX0_lineFor 12 = .ok (.getfield 15, 3) := by decide +kernel
theorem dX0_lineFor_15 : decode cX0_lineFor 15 = .ok (.iload_n 3, 1) := by decide +kernel
theorem dX0_lineFor_16 : decode cX0_lineFor 16 = .ok (.iaload, 1) := by decide +kernel
theorem dX0_lineFor_17 : decode cX0_lineFor 17 = .ok (.iload_n 1, 1) := by decide +kernel
theorem dX0_lineFor_18 : decode cX0_lineFor 18 = .ok (.if_icmp .ne 14, 3) := by decide +kernel
theorem dX0_lineFor_21 : decode cX0_lineFor 21 = .ok (.aload_n 0, 1) := by decide +kernel
theorem dX0_lineFor_22 : decode cX0_lineFor 22 = .ok (.iload_n 3, 1) := by decide +kernel
theorem dX0_lineFor_23 : decode cX0_lineFor 23 = .ok (.aload_n 2, 1) := by decide +kernel
theorem dX0_lineFor_24 : decode cX0_lineFor 24 = .ok (.invokevirtual 34, 3) := by decide +kernel
theorem dX0_lineFor_27 : decode cX0_lineFor 27 = .ok (.ifCond .eq 5, 3) := by decide +kernel
theorem dX0_lineFor_30 : decode cX0_lineFor 30 = .ok (.iload_n 3, 1) := by decide +kernel
theorem dX0_lineFor_31 : decode cX0_lineFor 31 = .ok (.ireturn, 1) := by decide +kernel
theorem dX0_lineFor_32 : decode cX0_lineFor 32 = .ok (.iinc 3 1, 3) := by decide +kernel
theorem dX0_lineFor_35 : decode cX0_lineFor 35 = .ok (.goto (-33), 3) := by decide +kernel
theorem dX0_lineFor_38 : decode cX0_lineFor 38 = .ok (.iconst (-1), 1) := by decide +kernel
theorem dX0_lineFor_39 : decode cX0_lineFor 39 = .ok (.ireturn, 1) := by decide +kernel
theorem dX1_halt_0 : decode cX1_halt 0 = .ok (.aload_n 0, 1) := by decide +kernel
theorem dX1_halt_1 : decode cX1_halt 1 = .ok (.getfield 9, 3) := by decide +kernel
theorem dX1_halt_4 : decode cX1_halt 4 = .ok (.getfield 157, 3) := by decide +kernel
theorem dX1_halt_7 : decode cX1_halt 7 = .ok (.getfield 176, 3) := by decide +kernel
theorem dX1_halt_10 : decode cX1_halt 10 = .ok (.iload_n 1, 1) := by decide +kernel
theorem dX1_halt_11 : decode cX1_halt 11 = .ok (.iaload, 1) := by decide +kernel
theorem dX1_halt_12 : decode cX1_halt 12 = .ok (.istore_n 3, 1) := by decide +kernel
theorem dX1_halt_13 : decode cX1_halt 13 = .ok (.aload_n 0, 1) := by decide +kernel
theorem dX1_halt_14 : decode cX1_halt 14 = .ok (.getfield 9, 3) := by decide +kernel
theorem dX1_halt_17 : decode cX1_halt 17 = .ok (.aload_n 0, 1) := by decide +kernel
theorem dX1_halt_18 : decode cX1_halt 18 = .ok (.getfield 30, 3) := by decide +kernel
theorem dX1_halt_21 : decode cX1_halt 21 = .ok (.iload_n 1, 1) := by decide +kernel
theorem dX1_halt_22 : decode cX1_halt 22 = .ok (.iconst 4, 1) := by decide +kernel
theorem dX1_halt_23 : decode cX1_halt 23 = .ok (.iload_n 2, 1) := by decide +kernel
theorem dX1_halt_24 : decode cX1_halt 24 = .ok (.aload_n 0, 1) := by decide +kernel
theorem dX1_halt_25 : decode cX1_halt 25 = .ok (.getfield 62, 3) := by decide +kernel
theorem dX1_halt_28 : decode cX1_halt 28 = .ok (.iload_n 3, 1) := by decide +kernel
theorem dX1_halt_29 : decode cX1_halt 29 = .ok (.iaload, 1) := by decide +kernel
theorem dX1_halt_30 : decode cX1_halt 30 = .ok (.invokevirtual 230, 3) := by decide +kernel
theorem dX1_halt_33 : decode cX1_halt 33 = .ok (.istore 4, 2) := by decide +kernel
theorem dX1_halt_35 : decode cX1_halt 35 = .ok (.aload_n 0, 1) := by decide +kernel
theorem dX1_halt_36 : decode cX1_halt 36 = .ok (.getfield 9, 3) := by decide +kernel
theorem dX1_halt_39 : decode cX1_halt 39 = .ok (.aload_n 0, 1) := by decide +kernel
theorem dX1_halt_40 : decode cX1_halt 40 = .ok (.getfield 30, 3) := by decide +kernel
theorem dX1_halt_43 : decode cX1_halt 43 = .ok (.iload_n 1, 1) := by decide +kernel
theorem dX1_halt_44 : decode cX1_halt 44 = .ok (.iconst 3, 1) := by decide +kernel
theorem dX1_halt_45 : decode cX1_halt 45 = .ok (.iload_n 2, 1) := by decide +kernel
theorem dX1_halt_46 : decode cX1_halt 46 = .ok (.aload_n 0, 1) := by decide +kernel
theorem dX1_halt_47 : decode cX1_halt 47 = .ok (.getfield 62, 3) := by decide +kernel
theorem dX1_halt_50 : decode cX1_halt 50 = .ok (.iload_n 3, 1) := by decide +kernel
theorem dX1_halt_51 : decode cX1_halt 51 = .ok (.iaload, 1) := by decide +kernel
theorem dX1_halt_52 : decode cX1_halt 52 = .ok (.invokevirtual 230, 3) := by decide +kernel
theorem dX1_halt_55 : decode cX1_halt 55 = .ok (.istore 5, 2) := by decide +kernel
theorem dX1_halt_57 : decode cX1_halt 57 = .ok (.aload_n 0, 1) := by decide +kernel
theorem dX1_halt_58 : decode cX1_halt 58 = .ok (.getfield 62, 3) := by decide +kernel
theorem dX1_halt_61 : decode cX1_halt 61 = .ok (.iload_n 3, 1) := by decide +kernel
theorem dX1_halt_62 : decode cX1_halt 62 = .ok (.dup2, 1) := by decide +kernel
theorem dX1_halt_63 : decode cX1_halt 63 = .ok (.iaload, 1) := by decide +kernel
theorem dX1_halt_64 : decode cX1_halt 64 = .ok (.iconst 1, 1) := by decide +kernel
theorem dX1_halt_65 : decode cX1_halt 65 = .ok (.iadd, 1) := by decide +kernel
theorem dX1_halt_66 : decode cX1_halt 66 = .ok (.iastore, 1) := by decide +kernel
theorem dX1_halt_67 : decode cX1_halt 67 = .ok (.aload_n 0, 1) := by decide +kernel
theorem dX1_halt_68 : decode cX1_halt 68 = .ok (.iload_n 3, 1) := by decide +kernel
theorem dX1_halt_69 : decode cX1_halt 69 = .ok (.iload 4, 2) := by decide +kernel
theorem dX1_halt_71 : decode cX1_halt 71 = .ok (.invokevirtual 269, 3) := by decide +kernel
theorem dX1_halt_74 : decode cX1_halt 74 = .ok (.ifCond .eq 6, 3) := by decide +kernel
theorem dX1_halt_77 : decode cX1_halt 77 = .ok (.iload 5, 2) := by decide +kernel
theorem dX1_halt_79 : decode cX1_halt 79 = .ok (.ireturn, 1) := by decide +kernel
theorem dX1_halt_80 : decode cX1_halt 80 = .ok (.aload_n 0, 1) := by decide +kernel
theorem dX1_halt_81 : decode cX1_halt 81 = .ok (.getfield 65, 3) := by decide +kernel
theorem dX1_halt_84 : decode cX1_halt 84 = .ok (.iload_n 3, 1) := by decide +kernel
theorem dX1_halt_85 : decode cX1_halt 85 = .ok (.iconst 1, 1) := by decide +kernel
theorem dX1_halt_86 : decode cX1_halt 86 = .ok (.iastore, 1) := by decide +kernel
theorem dX1_halt_87 : decode cX1_halt 87 = .ok (.iconst 0, 1) := by decide +kernel
theorem dX1_halt_88 : decode cX1_halt 88 = .ok (.istore 6, 2) := by decide +kernel
theorem dX1_halt_90 : decode cX1_halt 90 = .ok (.iload 6, 2) := by decide +kernel
theorem dX1_halt_92 : decode cX1_halt 92 = .ok (.aload_n 0, 1) := by decide +kernel
theorem dX1_halt_93 : decode cX1_halt 93 = .ok (.getfield 9, 3) := by decide +kernel
theorem dX1_halt_96 : decode cX1_halt 96 = .ok (.getfield 129, 3) := by decide +kernel
theorem dX1_halt_99 : decode cX1_halt 99 = .ok (.getfield 133, 3) := by decide +kernel
theorem dX1_halt_102 : decode cX1_halt 102 = .ok (.if_icmp .ge 36, 3) := by decide +kernel
theorem dX1_halt_105 : decode cX1_halt 105 = .ok (.aload_n 0, 1) := by decide +kernel
theorem dX1_halt_106 : decode cX1_halt 106 = .ok (.getfield 54, 3) := by decide +kernel
theorem dX1_halt_109 : decode cX1_halt 109 = .ok (.iload 6, 2) := by decide +kernel
theorem dX1_halt_111 : decode cX1_halt 111 = .ok (.iaload, 1) := by decide +kernel
theorem dX1_halt_112 : decode cX1_halt 112 = .ok (.iload_n 3, 1) := by decide +kernel
theorem dX1_halt_113 : decode cX1_halt 113 = .ok (.if_icmp .ne 19, 3) := by decide +kernel
theorem dX1_halt_116 : decode cX1_halt 116 = .ok (.aload_n 0, 1) := by decide +kernel
theorem dX1_halt_117 : decode cX1_halt 117 = .ok (.getfield 54, 3) := by decide +kernel
theorem dX1_halt_120 : decode cX1_halt 120 = .ok (.iload 6, 2) := by decide +kernel
theorem dX1_halt_122 : decode cX1_halt 122 = .ok (.iconst (-1), 1) := by decide +kernel
theorem dX1_halt_123 : decode cX1_halt 123 = .ok (.iastore, 1) := by decide +kernel
theorem dX1_halt_124 : decode cX1_halt 124 = .ok (.aload_n 0, 1) := by decide +kernel
theorem dX1_halt_125 : decode cX1_halt 125 = .ok (.getfield 51, 3) := by decide +kernel
theorem dX1_halt_128 : decode cX1_halt 128 = .ok (.iload 6, 2) := by decide +kernel
theorem dX1_halt_130 : decode cX1_halt 130 = .ok (.iload_n 1, 1) := by decide +kernel
theorem dX1_halt_131 : decode cX1_halt 131 = .ok (.iastore, 1) := by decide +kernel
theorem dX1_halt_132 : decode cX1_halt 132 = .ok (.iinc 6 1, 3) := by decide +kernel
theorem dX1_halt_135 : decode cX1_halt 135 = .ok (.goto (-45), 3) := by decide +kernel
theorem dX1_halt_138 : decode cX1_halt 138 = .ok (.iconst (-1), 1) := by decide +kernel
theorem dX1_halt_139 : decode cX1_halt 139 = .ok (.ireturn, 1) := by decide +kernel
theorem dX1_send_0 : decode cX1_send 0 = .ok (.aload_n 0, 1) := by decide +kernel
theorem dX1_send_1 : decode cX1_send 1 = .ok (.getfield 62, 3) := by decide +kernel
theorem dX1_send_4 : decode cX1_send 4 = .ok (.aload_n 0, 1) := by decide +kernel
theorem dX1_send_5 : decode cX1_send 5 = .ok (.getfield 9, 3) := by decide +kernel
theorem dX1_send_8 : decode cX1_send 8 = .ok (.getfield 157, 3) := by decide +kernel
theorem dX1_send_11 : decode cX1_send 11 = .ok (.getfield 176, 3) := by decide +kernel
theorem dX1_send_14 : decode cX1_send 14 = .ok (.iload_n 1, 1) := by decide +kernel
theorem dX1_send_15 : decode cX1_send 15 = .ok (.iaload, 1) := by decide +kernel
theorem dX1_send_16 : decode cX1_send 16 = .ok (.iaload, 1) := by decide +kernel
theorem dX1_send_17 : decode cX1_send 17 = .ok (.istore_n 3, 1) := by decide +kernel
theorem dX1_send_18 : decode cX1_send 18 = .ok (.aload_n 0, 1) := by decide +kernel
theorem dX1_send_19 : decode cX1_send 19 = .ok (.getfield 76, 3) := by decide +kernel
theorem dX1_send_22 : decode cX1_send 22 = .ok (.iload_n 1, 1) := by decide +kernel
theorem dX1_send_23 : decode cX1_send 23 = .ok (.bipush (-2), 2) := by decide +kernel
theorem dX1_send_25 : decode cX1_send 25 = .ok (.iastore, 1) := by decide +kernel
theorem dX1_send_26 : decode cX1_send 26 = .ok (.aload_n 0, 1) := by decide +kernel
theorem dX1_send_27 : decode cX1_send 27 = .ok (.getfield 9, 3) := by decide +kernel
theorem dX1_send_30 : decode cX1_send 30 = .ok (.aload_n 0, 1) := by decide +kernel
theorem dX1_send_31 : decode cX1_send 31 = .ok (.getfield 30, 3) := by decide +kernel
theorem dX1_send_34 : decode cX1_send 34 = .ok (.iload_n 1, 1) := by decide +kernel
theorem dX1_send_35 : decode cX1_send 35 = .ok (.iconst 5, 1) := by decide +kernel
theorem dX1_send_36 : decode cX1_send 36 = .ok (.iconst 0, 1) := by decide +kernel
theorem dX1_send_37 : decode cX1_send 37 = .ok (.iload_n 3, 1) := by decide +kernel
theorem dX1_send_38 : decode cX1_send 38 = .ok (.invokevirtual 230, 3) := by decide +kernel
theorem dX1_send_41 : decode cX1_send 41 = .ok (.istore 4, 2) := by decide +kernel
theorem dX1_send_43 : decode cX1_send 43 = .ok (.aload_n 0, 1) := by decide +kernel
theorem dX1_send_44 : decode cX1_send 44 = .ok (.iload_n 1, 1) := by decide +kernel
theorem dX1_send_45 : decode cX1_send 45 = .ok (.invokevirtual 234, 3) := by decide +kernel
theorem dX1_send_48 : decode cX1_send 48 = .ok (.ifCond .eq 30, 3) := by decide +kernel
theorem dX1_send_51 : decode cX1_send 51 = .ok (.iload 4, 2) := by decide +kernel
theorem dX1_send_53 : decode cX1_send 53 = .ok (.aload_n 0, 1) := by decide +kernel
theorem dX1_send_54 : decode cX1_send 54 = .ok (.getfield 93, 3) := by decide +kernel
theorem dX1_send_57 : decode cX1_send 57 = .ok (.if_icmp .gt 21, 3) := by decide +kernel
theorem dX1_send_60 : decode cX1_send 60 = .ok (.aload_n 0, 1) := by decide +kernel
theorem dX1_send_61 : decode cX1_send 61 = .ok (.getfield 9, 3) := by decide +kernel
theorem dX1_send_64 : decode cX1_send 64 = .ok (.aload_n 0, 1) := by decide +kernel
theorem dX1_send_65 : decode cX1_send 65 = .ok (.getfield 30, 3) := by decide +kernel
theorem dX1_send_68 : decode cX1_send 68 = .ok (.iload_n 1, 1) := by decide +kernel
theorem dX1_send_69 : decode cX1_send 69 = .ok (.iconst 0, 1) := by decide +kernel
theorem dX1_send_70 : decode cX1_send 70 = .ok (.iconst 0, 1) := by decide +kernel
theorem dX1_send_71 : decode cX1_send 71 = .ok (.iload_n 3, 1) := by decide +kernel
theorem dX1_send_72 : decode cX1_send 72 = .ok (.invokevirtual 230, 3) := by decide +kernel
theorem dX1_send_75 : decode cX1_send 75 = .ok (.ifCond .ne 4, 3) := by decide +kernel
theorem dX1_send_78 : decode cX1_send 78 = .ok (.return_, 1) := by decide +kernel
theorem dX1_send_79 : decode cX1_send 79 = .ok (.aload_n 0, 1) := by decide +kernel
theorem dX1_send_80 : decode cX1_send 80 = .ok (.dup, 1) := by decide +kernel
theorem dX1_send_81 : decode cX1_send 81 = .ok (.getfield 93, 3) := by decide +kernel
theorem dX1_send_84 : decode cX1_send 84 = .ok (.iload 4, 2) := by decide +kernel
theorem dX1_send_86 : decode cX1_send 86 = .ok (.isub, 1) := by decide +kernel
theorem dX1_send_87 : decode cX1_send 87 = .ok (.putfield 93, 3) := by decide +kernel
theorem dX1_send_90 : decode cX1_send 90 = .ok (.aload_n 0, 1) := by decide +kernel
theorem dX1_send_91 : decode cX1_send 91 = .ok (.iload_n 1, 1) := by decide +kernel
theorem dX1_send_92 : decode cX1_send 92 = .ok (.aload_n 0, 1) := by decide +kernel
theorem dX1_send_93 : decode cX1_send 93 = .ok (.getfield 9, 3) := by decide +kernel
theorem dX1_send_96 : decode cX1_send 96 = .ok (.aload_n 0, 1) := by decide +kernel
theorem dX1_send_97 : decode cX1_send 97 = .ok (.getfield 30, 3) := by decide +kernel
theorem dX1_send_100 : decode cX1_send 100 = .ok (.iload_n 1, 1) := by decide +kernel
theorem dX1_send_101 : decode cX1_send 101 = .ok (.iconst 2, 1) := by decide +kernel
theorem dX1_send_102 : decode cX1_send 102 = .ok (.iconst 0, 1) := by decide +kernel
theorem dX1_send_103 : decode cX1_send 103 = .ok (.iload_n 3, 1) := by decide +kernel
theorem dX1_send_104 : decode cX1_send 104 = .ok (.invokevirtual 230, 3) := by decide +kernel
theorem dX1_send_107 : decode cX1_send 107 = .ok (.invokevirtual 237, 3) := by decide +kernel
theorem dX1_send_110 : decode cX1_send 110 = .ok (.istore 5, 2) := by decide +kernel
theorem dX1_send_112 : decode cX1_send 112 = .ok (.iconst 0, 1) := by decide +kernel
theorem dX1_send_113 : decode cX1_send 113 = .ok (.istore 6, 2) := by decide +kernel
theorem dX1_send_115 : decode cX1_send 115 = .ok (.aload_n 0, 1) := by decide +kernel
theorem dX1_send_116 : decode cX1_send 116 = .ok (.getfield 9, 3) := by decide +kernel
theorem dX1_send_119 : decode cX1_send 119 = .ok (.aload_n 0, 1) := by decide +kernel
theorem dX1_send_120 : decode cX1_send 120 = .ok (.getfield 30, 3) := by decide +kernel
theorem dX1_send_123 : decode cX1_send 123 = .ok (.iload_n 1, 1) := by decide +kernel
theorem dX1_send_124 : decode cX1_send 124 = .ok (.iconst 1, 1) := by decide +kernel
theorem dX1_send_125 : decode cX1_send 125 = .ok (.iload 5, 2) := by decide +kernel
theorem dX1_send_127 : decode cX1_send 127 = .ok (.iload_n 3, 1) := by decide +kernel
theorem dX1_send_128 : decode cX1_send 128 = .ok (.invokevirtual 230, 3) := by decide +kernel
theorem dX1_send_131 : decode cX1_send 131 = .ok (.ifCond .eq 12, 3) := by decide +kernel
theorem dX1_send_134 : decode cX1_send 134 = .ok (.aload_n 0, 1) := by decide +kernel
theorem dX1_send_135 : decode cX1_send 135 = .ok (.iload_n 1, 1) := by decide +kernel
theorem dX1_send_136 : decode cX1_send 136 = .ok (.iload 5, 2) := by decide +kernel
theorem dX1_send_138 : decode cX1_send 138 = .ok (.invokevirtual 240, 3) := by decide +kernel
theorem dX1_send_141 : decode cX1_send 141 = .ok (.istore 6, 2) := by decide +kernel
theorem dX1_send_143 : decode cX1_send 143 = .ok (.iload 6, 2) := by decide +kernel
theorem dX1_send_145 : decode cX1_send 145 = .ok (.iconst (-1), 1) := by decide +kernel
theorem dX1_send_146 : decode cX1_send 146 = .ok (.if_icmp .eq 20, 3) := by decide +kernel
theorem dX1_send_149 : decode cX1_send 149 = .ok (.aload_n 0, 1) := by decide +kernel
theorem dX1_send_150 : decode cX1_send 150 = .ok (.getfield 76, 3) := by decide +kernel
theorem dX1_send_153 : decode cX1_send 153 = .ok (.iload_n 1, 1) := by decide +kernel
theorem dX1_send_154 : decode cX1_send 154 = .ok (.iload 5, 2) := by decide +kernel
theorem dX1_send_156 : decode cX1_send 156 = .ok (.iastore, 1) := by decide +kernel
theorem dX1_send_157 : decode cX1_send 157 = .ok (.aload_n 0, 1) := by decide +kernel
theorem dX1_send_158 : decode cX1_send 158 = .ok (.iload_n 1, 1) := by decide +kernel
theorem dX1_send_159 : decode cX1_send 159 = .ok (.iload_n 2, 1) := by decide +kernel
theorem dX1_send_160 : decode cX1_send 160 = .ok (.iload 6, 2) := by decide +kernel
theorem dX1_send_162 : decode cX1_send 162 = .ok (.iadd, 1) := by decide +kernel
theorem dX1_send_163 : decode cX1_send 163 = .ok (.invokevirtual 243, 3) := by decide +kernel
theorem dX1_send_166 : decode cX1_send 166 = .ok (.return_, 1) := by decide +kernel
theorem dX1_sendTrips_0 : decode cX1_sendTrips 0 = .ok (.iconst 0, 1) := by decide +kernel
theorem dX1_sendTrips_1 : decode cX1_sendTrips 1 = .ok (.istore_n 2, 1) := by decide +kernel
theorem dX1_sendTrips_2 : decode cX1_sendTrips 2 = .ok (.iload_n 2, 1) := by decide +kernel
theorem dX1_sendTrips_3 : decode cX1_sendTrips 3 = .ok (.aload_n 0, 1) := by decide +kernel
theorem dX1_sendTrips_4 : decode cX1_sendTrips 4 = .ok (.getfield 9, 3) := by decide +kernel
theorem dX1_sendTrips_7 : decode cX1_sendTrips 7 = .ok (.getfield 157, 3) := by decide +kernel
theorem dX1_sendTrips_10 : decode cX1_sendTrips 10 = .ok (.getfield 161, 3) := by decide +kernel
theorem dX1_sendTrips_13 : decode cX1_sendTrips 13 = .ok (.if_icmp .ge 39, 3) := by decide +kernel
theorem dX1_sendTrips_16 : decode cX1_sendTrips 16 = .ok (.aload_n 0, 1) := by decide +kernel
theorem dX1_sendTrips_17 : decode cX1_sendTrips 17 = .ok (.getfield 9, 3) := by decide +kernel
theorem dX1_sendTrips_20 : decode cX1_sendTrips 20 = .ok (.getfield 157, 3) := by decide +kernel
theorem dX1_sendTrips_23 : decode cX1_sendTrips 23 = .ok (.getfield 166, 3) := by decide +kernel
theorem dX1_sendTrips_26 : decode cX1_sendTrips 26 = .ok (.iload_n 2, 1) := by decide +kernel
theorem dX1_sendTrips_27 : decode cX1_sendTrips 27 = .ok (.iaload, 1) := by decide +kernel
theorem dX1_sendTrips_28 : decode cX1_sendTrips 28 = .ok (.iload_n 1, 1) := by decide +kernel
theorem dX1_sendTrips_29 : decode cX1_sendTrips 29 = .ok (.if_icmp .ne 17, 3) := by decide +kernel
theorem dX1_sendTrips_32 : decode cX1_sendTrips 32 = .ok (.aload_n 0, 1) := by decide +kernel
theorem dX1_sendTrips_33 : decode cX1_sendTrips 33 = .ok (.iload_n 2, 1) := by decide +kernel
theorem dX1_sendTrips_34 : decode cX1_sendTrips 34 = .ok (.invokevirtual 162, 3) := by decide +kernel
theorem dX1_sendTrips_37 : decode cX1_sendTrips 37 = .ok (.ifCond .eq 9, 3) := by decide +kernel
theorem dX1_sendTrips_40 : decode cX1_sendTrips 40 = .ok (.aload_n 0, 1) := by decide +kernel
theorem dX1_sendTrips_41 : decode cX1_sendTrips 41 = .ok (.iload_n 2, 1) := by decide +kernel
theorem dX1_sendTrips_42 : decode cX1_sendTrips 42 = .ok (.iload_n 1, 1) := by decide +kernel
theorem dX1_sendTrips_43 : decode cX1_sendTrips 43 = .ok (.invokevirtual 225, 3) := by decide +kernel
theorem dX1_sendTrips_46 : decode cX1_sendTrips 46 = .ok (.iinc 2 1, 3) := by decide +kernel
theorem dX1_sendTrips_49 : decode cX1_sendTrips 49 = .ok (.goto (-47), 3) := by decide +kernel
theorem dX1_sendTrips_52 : decode cX1_sendTrips 52 = .ok (.return_, 1) := by decide +kernel
theorem dX1_settle_0 : decode cX1_settle 0 = .ok (.aload_n 0, 1) := by decide +kernel
theorem dX1_settle_1 : decode cX1_settle 1 = .ok (.getfield 9, 3) := by decide +kernel
theorem dX1_settle_4 : decode cX1_settle 4 = .ok (.aload_n 0, 1) := by decide +kernel
theorem dX1_settle_5 : decode cX1_settle 5 = .ok (.getfield 93, 3) := by decide +kernel
theorem dX1_settle_8 : decode cX1_settle 8 = .ok (.putfield 90, 3) := by decide +kernel
theorem dX1_settle_11 : decode cX1_settle 11 = .ok (.aload_n 0, 1) := by decide +kernel
theorem dX1_settle_12 : decode cX1_settle 12 = .ok (.getfield 30, 3) := by decide +kernel
theorem dX1_settle_15 : decode cX1_settle 15 = .ok (.bipush 6, 2) := by decide +kernel
theorem dX1_settle_17 : decode cX1_settle 17 = .ok (.aload_n 0, 1) := by decide +kernel
theorem dX1_settle_18 : decode cX1_settle 18 = .ok (.getfield 9, 3) := by decide +kernel
theorem dX1_settle_21 : decode cX1_settle 21 = .ok (.getfield 281, 3) := by decide +kernel
theorem dX1_settle_24 : decode cX1_settle 24 = .ok (.invokevirtual 284, 3) := by decide +kernel
theorem dX1_settle_27 : decode cX1_settle 27 = .ok (.istore_n 1, 1) := by decide +kernel
theorem dX1_settle_28 : decode cX1_settle 28 = .ok (.iload_n 1, 1) := by decide +kernel
theorem dX1_settle_29 : decode cX1_settle 29 = .ok (.iconst (-1), 1) := by decide +kernel
theorem dX1_settle_30 : decode cX1_settle 30 = .ok (.if_icmp .ne 7, 3) := by decide +kernel
theorem dX1_settle_33 : decode cX1_settle 33 = .ok (.iconst 0, 1) := by decide +kernel
theorem dX1_settle_34 : decode cX1_settle 34 = .ok (.goto 12, 3) := by decide +kernel
theorem dX1_settle_37 : decode cX1_settle 37 = .ok (.aload_n 0, 1) := by decide +kernel
theorem dX1_settle_38 : decode cX1_settle 38 = .ok (.getfield 30, 3) := by decide +kernel
theorem dX1_settle_41 : decode cX1_settle 41 = .ok (.getfield 288, 3) := by decide +kernel
theorem dX1_settle_44 : decode cX1_settle 44 = .ok (.iload_n 1, 1) := by decide +kernel
theorem dX1_settle_45 : decode cX1_settle 45 = .ok (.iaload, 1) := by decide +kernel
theorem dX1_settle_46 : decode cX1_settle 46 = .ok (.istore_n 2, 1) := by decide +kernel
theorem dX1_settle_47 : decode cX1_settle 47 = .ok (.iconst 0, 1) := by decide +kernel
theorem dX1_settle_48 : decode cX1_settle 48 = .ok (.istore_n 3, 1) := by decide +kernel
theorem dX1_settle_49 : decode cX1_settle 49 = .ok (.iload_n 3, 1) := by decide +kernel
theorem dX1_settle_50 : decode cX1_settle 50 = .ok (.aload_n 0, 1) := by decide +kernel
theorem dX1_settle_51 : decode cX1_settle 51 = .ok (.getfield 9, 3) := by decide +kernel
theorem dX1_settle_54 : decode cX1_settle 54 = .ok (.getfield 129, 3) := by decide +kernel
theorem dX1_settle_57 : decode cX1_settle 57 = .ok (.getfield 133, 3) := by decide +kernel
theorem dX1_settle_60 : decode cX1_settle 60 = .ok (.if_icmp .ge 15, 3) := by decide +kernel
theorem dX1_settle_63 : decode cX1_settle 63 = .ok (.aload_n 0, 1) := by decide +kernel
theorem dX1_settle_64 : decode cX1_settle 64 = .ok (.iload_n 3, 1) := by decide +kernel
theorem dX1_settle_65 : decode cX1_settle 65 = .ok (.iload_n 2, 1) := by decide +kernel
theorem dX1_settle_66 : decode cX1_settle 66 = .ok (.invokevirtual 291, 3) := by decide +kernel
theorem dX1_settle_69 : decode cX1_settle 69 = .ok (.iinc 3 1, 3) := by decide +kernel
theorem dX1_settle_72 : decode cX1_settle 72 = .ok (.goto (-23), 3) := by decide +kernel
theorem dX1_settle_75 : decode cX1_settle 75 = .ok (.iconst 0, 1) := by decide +kernel
theorem dX1_settle_76 : decode cX1_settle 76 = .ok (.istore_n 3, 1) := by decide +kernel
theorem dX1_settle_77 : decode cX1_settle 77 = .ok (.iload_n 3, 1) := by decide +kernel
theorem dX1_settle_78 : decode cX1_settle 78 = .ok (.aload_n 0, 1) := by decide +kernel
theorem dX1_settle_79 : decode cX1_settle 79 = .ok (.getfield 9, 3) := by decide +kernel
theorem dX1_settle_82 : decode cX1_settle 82 = .ok (.getfield 148, 3) := by decide +kernel
theorem dX1_settle_85 : decode cX1_settle 85 = .ok (.getfield 152, 3) := by decide +kernel
theorem dX1_settle_88 : decode cX1_settle 88 = .ok (.if_icmp .ge 81, 3) := by decide +kernel
theorem dX1_settle_91 : decode cX1_settle 91 = .ok (.aload_n 0, 1) := by decide +kernel
theorem dX1_settle_92 : decode cX1_settle 92 = .ok (.getfield 9, 3) := by decide +kernel
theorem dX1_settle_95 : decode cX1_settle 95 = .ok (.getfield 148, 3) := by decide +kernel
theorem dX1_settle_98 : decode cX1_settle 98 = .ok (.getfield 153, 3) := by decide +kernel
theorem dX1_settle_101 : decode cX1_settle 101 = .ok (.iload_n 3, 1) := by decide +kernel
theorem dX1_settle_102 : decode cX1_settle 102 = .ok (.aload_n 0, 1) := by decide +kernel
theorem dX1_settle_103 : decode cX1_settle 103 = .ok (.getfield 59, 3) := by decide +kernel
theorem dX1_settle_106 : decode cX1_settle 106 = .ok (.iload_n 3, 1) := by decide +kernel
theorem dX1_settle_107 : decode cX1_settle 107 = .ok (.iaload, 1) := by decide +kernel
theorem dX1_settle_108 : decode cX1_settle 108 = .ok (.iastore, 1) := by decide +kernel
theorem dX1_settle_109 : decode cX1_settle 109 = .ok (.aload_n 0, 1) := by decide +kernel
theorem dX1_settle_110 : decode cX1_settle 110 = .ok (.getfield 9, 3) := by decide +kernel
theorem dX1_settle_113 : decode cX1_settle 113 = .ok (.getfield 148, 3) := by decide +kernel
theorem dX1_settle_116 : decode cX1_settle 116 = .ok (.getfield 294, 3) := by decide +kernel
theorem dX1_settle_119 : decode cX1_settle 119 = .ok (.iload_n 3, 1) := by decide +kernel
theorem dX1_settle_120 : decode cX1_settle 120 = .ok (.aload_n 0, 1) := by decide +kernel
theorem dX1_settle_121 : decode cX1_settle 121 = .ok (.getfield 62, 3) := by decide +kernel
theorem dX1_settle_124 : decode cX1_settle 124 = .ok (.iload_n 3, 1) := by decide +kernel
theorem dX1_settle_125 : decode cX1_settle 125 = .ok (.iaload, 1) := by decide +kernel
theorem dX1_settle_126 : decode cX1_settle 126 = .ok (.iastore, 1) := by decide +kernel
theorem dX1_settle_127 : decode cX1_settle 127 = .ok (.aload_n 0, 1) := by decide +kernel
theorem dX1_settle_128 : decode cX1_settle 128 = .ok (.getfield 9, 3) := by decide +kernel
theorem dX1_settle_131 : decode cX1_settle 131 = .ok (.getfield 148, 3) := by decide +kernel
theorem dX1_settle_134 : decode cX1_settle 134 = .ok (.getfield 295, 3) := by decide +kernel
theorem dX1_settle_137 : decode cX1_settle 137 = .ok (.iload_n 3, 1) := by decide +kernel
theorem dX1_settle_138 : decode cX1_settle 138 = .ok (.aload_n 0, 1) := by decide +kernel
theorem dX1_settle_139 : decode cX1_settle 139 = .ok (.getfield 65, 3) := by decide +kernel
theorem dX1_settle_142 : decode cX1_settle 142 = .ok (.iload_n 3, 1) := by decide +kernel
theorem dX1_settle_143 : decode cX1_settle 143 = .ok (.iaload, 1) := by decide +kernel
theorem dX1_settle_144 : decode cX1_settle 144 = .ok (.iastore, 1) := by decide +kernel
theorem dX1_settle_145 : decode cX1_settle 145 = .ok (.aload_n 0, 1) := by decide +kernel
theorem dX1_settle_146 : decode cX1_settle 146 = .ok (.getfield 9, 3) := by decide +kernel
theorem dX1_settle_149 : decode cX1_settle 149 = .ok (.getfield 148, 3) := by decide +kernel
theorem dX1_settle_152 : decode cX1_settle 152 = .ok (.getfield 296, 3) := by decide +kernel
theorem dX1_settle_155 : decode cX1_settle 155 = .ok (.iload_n 3, 1) := by decide +kernel
theorem dX1_settle_156 : decode cX1_settle 156 = .ok (.aload_n 0, 1) := by decide +kernel
theorem dX1_settle_157 : decode cX1_settle 157 = .ok (.getfield 68, 3) := by decide +kernel
theorem dX1_settle_160 : decode cX1_settle 160 = .ok (.iload_n 3, 1) := by decide +kernel
theorem dX1_settle_161 : decode cX1_settle 161 = .ok (.iaload, 1) := by decide +kernel
theorem dX1_settle_162 : decode cX1_settle 162 = .ok (.iastore, 1) := by decide +kernel
theorem dX1_settle_163 : decode cX1_settle 163 = .ok (.iinc 3 1, 3) := by decide +kernel
theorem dX1_settle_166 : decode cX1_settle 166 = .ok (.goto (-89), 3) := by decide +kernel
theorem dX1_settle_169 : decode cX1_settle 169 = .ok (.iconst 0, 1) := by decide +kernel
theorem dX1_settle_170 : decode cX1_settle 170 = .ok (.istore_n 3, 1) := by decide +kernel
theorem dX1_settle_171 : decode cX1_settle 171 = .ok (.iload_n 3, 1) := by decide +kernel
theorem dX1_settle_172 : decode cX1_settle 172 = .ok (.aload_n 0, 1) := by decide +kernel
theorem dX1_settle_173 : decode cX1_settle 173 = .ok (.getfield 9, 3) := by decide +kernel
theorem dX1_settle_176 : decode cX1_settle 176 = .ok (.getfield 157, 3) := by decide +kernel
theorem dX1_settle_179 : decode cX1_settle 179 = .ok (.getfield 161, 3) := by decide +kernel
theorem dX1_settle_182 : decode cX1_settle 182 = .ok (.if_icmp .ge 27, 3) := by decide +kernel
theorem dX1_settle_185 : decode cX1_settle 185 = .ok (.aload_n 0, 1) := by decide +kernel
theorem dX1_settle_186 : decode cX1_settle 186 = .ok (.getfield 9, 3) := by decide +kernel
theorem dX1_settle_189 : decode cX1_settle 189 = .ok (.getfield 157, 3) := by decide +kernel
theorem dX1_settle_192 : decode cX1_settle 192 = .ok (.getfield 297, 3) := by decide +kernel
theorem dX1_settle_195 : decode cX1_settle 195 = .ok (.iload_n 3, 1) := by decide +kernel
theorem dX1_settle_196 : decode cX1_settle 196 = .ok (.aload_n 0, 1) := by decide +kernel
theorem dX1_settle_197 : decode cX1_settle 197 = .ok (.getfield 76, 3) := by decide +kernel
theorem dX1_settle_200 : decode cX1_settle 200 = .ok (.iload_n 3, 1) := by decide +kernel
theorem dX1_settle_201 : decode cX1_settle 201 = .ok (.iaload, 1) := by decide +kernel
theorem dX1_settle_202 : decode cX1_settle 202 = .ok (.iastore, 1) := by decide +kernel
theorem dX1_settle_203 : decode cX1_settle 203 = .ok (.iinc 3 1, 3) := by decide +kernel
theorem dX1_settle_206 : decode cX1_settle 206 = .ok (.goto (-35), 3) := by decide +kernel
theorem dX1_settle_209 : decode cX1_settle 209 = .ok (.return_, 1) := by decide +kernel
theorem dX7_ask_0 : decode cX7_ask 0 = .ok (.aload_n 0, 1) := by decide +kernel
theorem dX7_ask_1 : decode cX7_ask 1 = .ok (.getfield 28, 3) := by decide +kernel
theorem dX7_ask_4 : decode cX7_ask 4 = .ok (.getfield 83, 3) := by decide +kernel
theorem dX7_ask_7 : decode cX7_ask 7 = .ok (.aload_n 0, 1) := by decide +kernel
theorem dX7_ask_8 : decode cX7_ask 8 = .ok (.getfield 35, 3) := by decide +kernel
theorem dX7_ask_11 : decode cX7_ask 11 = .ok (.getfield 86, 3) := by decide +kernel
theorem dX7_ask_14 : decode cX7_ask 14 = .ok (.iload_n 2, 1) := by decide +kernel
theorem dX7_ask_15 : decode cX7_ask 15 = .ok (.iaload, 1) := by decide +kernel
theorem dX7_ask_16 : decode cX7_ask 16 = .ok (.iaload, 1) := by decide +kernel
theorem dX7_ask_17 : decode cX7_ask 17 = .ok (.iconst 2, 1) := by decide +kernel
theorem dX7_ask_18 : decode cX7_ask 18 = .ok (.if_icmp .ne 7, 3) := by decide +kernel
theorem dX7_ask_21 : decode cX7_ask 21 = .ok (.iconst 1, 1) := by decide +kernel
theorem dX7_ask_22 : decode cX7_ask 22 = .ok (.goto 4, 3) := by decide +kernel
theorem dX7_ask_25 : decode cX7_ask 25 = .ok (.iconst 0, 1) := by decide +kernel
theorem dX7_ask_26 : decode cX7_ask 26 = .ok (.istore 6, 2) := by decide +kernel
theorem dX7_ask_28 : decode cX7_ask 28 = .ok (.aload_n 0, 1) := by decide +kernel
theorem dX7_ask_29 : decode cX7_ask 29 = .ok (.iload_n 2, 1) := by decide +kernel
theorem dX7_ask_30 : decode cX7_ask 30 = .ok (.iload_n 3, 1) := by decide +kernel
theorem dX7_ask_31 : decode cX7_ask 31 = .ok (.invokestatic 126, 3) := by decide +kernel
theorem dX7_ask_34 : decode cX7_ask 34 = .ok (.ifCond .eq 7, 3) := by decide +kernel
theorem dX7_ask_37 : decode cX7_ask 37 = .ok (.iconst 0, 1) := by decide +kernel
theorem dX7_ask_38 : decode cX7_ask 38 = .ok (.goto 5, 3) := by decide +kernel
theorem dX7_ask_41 : decode cX7_ask 41 = .ok (.iload 4, 2) := by decide +kernel
theorem dX7_ask_43 : decode cX7_ask 43 = .ok (.iload 5, 2) := by decide +kernel
theorem dX7_ask_45 : decode cX7_ask 45 = .ok (.invokevirtual 130, 3) := by decide +kernel
theorem dX7_ask_48 : decode cX7_ask 48 = .ok (.aload_n 0, 1) := by decide +kernel
theorem dX7_ask_49 : decode cX7_ask 49 = .ok (.iload_n 3, 1) := by decide +kernel
theorem dX7_ask_50 : decode cX7_ask 50 = .ok (.iconst 5, 1) := by decide +kernel
theorem dX7_ask_51 : decode cX7_ask 51 = .ok (.if_icmp .ne 12, 3) := by decide +kernel
theorem dX7_ask_54 : decode cX7_ask 54 = .ok (.iload 6, 2) := by decide +kernel
theorem dX7_ask_56 : decode cX7_ask 56 = .ok (.ifCond .eq 7, 3) := by decide +kernel
theorem dX7_ask_59 : decode cX7_ask 59 = .ok (.iconst (-1), 1) := by decide +kernel
theorem dX7_ask_60 : decode cX7_ask 60 = .ok (.goto 12, 3) := by decide +kernel
theorem dX7_ask_63 : decode cX7_ask 63 = .ok (.aload_n 1, 1) := by decide +kernel
theorem dX7_ask_64 : decode cX7_ask 64 = .ok (.iload_n 3, 1) := by decide +kernel
theorem dX7_ask_65 : decode cX7_ask 65 = .ok (.aload_n 0, 1) := by decide +kernel
theorem dX7_ask_66 : decode cX7_ask 66 = .ok (.getfield 62, 3) := by decide +kernel
theorem dX7_ask_69 : decode cX7_ask 69 = .ok (.invokevirtual 133, 3) := by decide +kernel
theorem dX7_ask_72 : decode cX7_ask 72 = .ok (.putfield 137, 3) := by decide +kernel
theorem dX7_ask_75 : decode cX7_ask 75 = .ok (.aload_n 0, 1) := by decide +kernel
theorem dX7_ask_76 : decode cX7_ask 76 = .ok (.getfield 137, 3) := by decide +kernel
theorem dX7_ask_79 : decode cX7_ask 79 = .ok (.iconst (-1), 1) := by decide +kernel
theorem dX7_ask_80 : decode cX7_ask 80 = .ok (.if_icmp .ne 12, 3) := by decide +kernel
theorem dX7_ask_83 : decode cX7_ask 83 = .ok (.iload 6, 2) := by decide +kernel
theorem dX7_ask_85 : decode cX7_ask 85 = .ok (.iload_n 3, 1) := by decide +kernel
theorem dX7_ask_86 : decode cX7_ask 86 = .ok (.invokestatic 140, 3) := by decide +kernel
theorem dX7_ask_89 : decode cX7_ask 89 = .ok (.goto 12, 3) := by decide +kernel
theorem dX7_ask_92 : decode cX7_ask 92 = .ok (.aload_n 1, 1) := by decide +kernel
theorem dX7_ask_93 : decode cX7_ask 93 = .ok (.getfield 144, 3) := by decide +kernel
theorem dX7_ask_96 : decode cX7_ask 96 = .ok (.aload_n 0, 1) := by decide +kernel
theorem dX7_ask_97 : decode cX7_ask 97 = .ok (.getfield 137, 3) := by decide +kernel
theorem dX7_ask_100 : decode cX7_ask 100 = .ok (.iaload, 1) := by decide +kernel
theorem dX7_ask_101 : decode cX7_ask 101 = .ok (.ireturn, 1) := by decide +kernel
theorem dX7_isAskedEmpty_0 : decode cX7_isAskedEmpty 0 = .ok (.iload_n 0, 1) := by decide +kernel
theorem dX7_isAskedEmpty_1 : decode cX7_isAskedEmpty 1 = .ok (.ifCond .eq 13, 3) := by decide +kernel
theorem dX7_isAskedEmpty_4 : decode cX7_isAskedEmpty 4 = .ok (.iload_n 0, 1) := by decide +kernel
theorem dX7_isAskedEmpty_5 : decode cX7_isAskedEmpty 5 = .ok (.iconst 2, 1) := by decide +kernel
theorem dX7_isAskedEmpty_6 : decode cX7_isAskedEmpty 6 = .ok (.if_icmp .eq 8, 3) := by decide +kernel
theorem dX7_isAskedEmpty_9 : decode cX7_isAskedEmpty 9 = .ok (.iload_n 0, 1) := by decide +kernel
theorem dX7_isAskedEmpty_10 : decode cX7_isAskedEmpty 10 = .ok (.iconst 5, 1) := by decide +kernel
theorem dX7_isAskedEmpty_11 : decode cX7_isAskedEmpty 11 = .ok (.if_icmp .ne 7, 3) := by decide +kernel
theorem dX7_isAskedEmpty_14 : decode cX7_isAskedEmpty 14 = .ok (.iconst 1, 1) := by decide +kernel
theorem dX7_isAskedEmpty_15 : decode cX7_isAskedEmpty 15 = .ok (.goto 4, 3) := by decide +kernel
theorem dX7_isAskedEmpty_18 : decode cX7_isAskedEmpty 18 = .ok (.iconst 0, 1) := by decide +kernel
theorem dX7_isAskedEmpty_19 : decode cX7_isAskedEmpty 19 = .ok (.ireturn, 1) := by decide +kernel

theorem dX0_holds_0 : decode cX0_holds 0 = .ok (.iload_n 1, 1) := by decide +kernel
theorem dX0_holds_1 : decode cX0_holds 1 = .ok (.ifCond .ne 7, 3) := by decide +kernel
theorem dX0_holds_4 : decode cX0_holds 4 = .ok (.iconst 0, 1) := by decide +kernel
theorem dX0_holds_5 : decode cX0_holds 5 = .ok (.goto 11, 3) := by decide +kernel
theorem dX0_holds_8 : decode cX0_holds 8 = .ok (.aload_n 0, 1) := by decide +kernel
theorem dX0_holds_9 : decode cX0_holds 9 = .ok (.getfield 22, 3) := by decide +kernel
theorem dX0_holds_12 : decode cX0_holds 12 = .ok (.iload_n 1, 1) := by decide +kernel
theorem dX0_holds_13 : decode cX0_holds 13 = .ok (.iconst 1, 1) := by decide +kernel
theorem dX0_holds_14 : decode cX0_holds 14 = .ok (.isub, 1) := by decide +kernel
theorem dX0_holds_15 : decode cX0_holds 15 = .ok (.iaload, 1) := by decide +kernel
theorem dX0_holds_16 : decode cX0_holds 16 = .ok (.istore_n 3, 1) := by decide +kernel
theorem dX0_holds_17 : decode cX0_holds 17 = .ok (.iconst 1, 1) := by decide +kernel
theorem dX0_holds_18 : decode cX0_holds 18 = .ok (.istore 4, 2) := by decide +kernel
theorem dX0_holds_20 : decode cX0_holds 20 = .ok (.iload_n 3, 1) := by decide +kernel
theorem dX0_holds_21 : decode cX0_holds 21 = .ok (.istore 5, 2) := by decide +kernel
theorem dX0_holds_23 : decode cX0_holds 23 = .ok (.iload 5, 2) := by decide +kernel
theorem dX0_holds_25 : decode cX0_holds 25 = .ok (.aload_n 0, 1) := by decide +kernel
theorem dX0_holds_26 : decode cX0_holds 26 = .ok (.getfield 22, 3) := by decide +kernel
theorem dX0_holds_29 : decode cX0_holds 29 = .ok (.iload_n 1, 1) := by decide +kernel
theorem dX0_holds_30 : decode cX0_holds 30 = .ok (.iaload, 1) := by decide +kernel
theorem dX0_holds_31 : decode cX0_holds 31 = .ok (.if_icmp .ge 206, 3) := by decide +kernel
theorem dX0_holds_34 : decode cX0_holds 34 = .ok (.aload_n 2, 1) := by decide +kernel
theorem dX0_holds_35 : decode cX0_holds 35 = .ok (.aload_n 0, 1) := by decide +kernel
theorem dX0_holds_36 : decode cX0_holds 36 = .ok (.getfield 28, 3) := by decide +kernel
theorem dX0_holds_39 : decode cX0_holds 39 = .ok (.iload 5, 2) := by decide +kernel
theorem dX0_holds_41 : decode cX0_holds 41 = .ok (.iaload, 1) := by decide +kernel
theorem dX0_holds_42 : decode cX0_holds 42 = .ok (.iaload, 1) := by decide +kernel
theorem dX0_holds_43 : decode cX0_holds 43 = .ok (.istore 6, 2) := by decide +kernel
theorem dX0_holds_45 : decode cX0_holds 45 = .ok (.aload_n 0, 1) := by decide +kernel
theorem dX0_holds_46 : decode cX0_holds 46 = .ok (.getfield 25, 3) := by decide +kernel
theorem dX0_holds_49 : decode cX0_holds 49 = .ok (.iload 5, 2) := by decide +kernel
theorem dX0_holds_51 : decode cX0_holds 51 = .ok (.iaload, 1) := by decide +kernel
theorem dX0_holds_52 : decode cX0_holds 52 = .ok (.tableswitch 155 0 5 #[101, 128, 155, 40, 49, 75], 40) := by decide +kernel
theorem dX0_holds_92 : decode cX0_holds 92 = .ok (.iload 4, 2) := by decide +kernel
theorem dX0_holds_94 : decode cX0_holds 94 = .ok (.iconst 1, 1) := by decide +kernel
theorem dX0_holds_95 : decode cX0_holds 95 = .ok (.ixor, 1) := by decide +kernel
theorem dX0_holds_96 : decode cX0_holds 96 = .ok (.istore 4, 2) := by decide +kernel
theorem dX0_holds_98 : decode cX0_holds 98 = .ok (.goto 133, 3) := by decide +kernel
theorem dX0_holds_101 : decode cX0_holds 101 = .ok (.iload 4, 2) := by decide +kernel
theorem dX0_holds_103 : decode cX0_holds 103 = .ok (.iconst 1, 1) := by decide +kernel
theorem dX0_holds_104 : decode cX0_holds 104 = .ok (.iand, 1) := by decide +kernel
theorem dX0_holds_105 : decode cX0_holds 105 = .ok (.iconst 1, 1) := by decide +kernel
theorem dX0_holds_106 : decode cX0_holds 106 = .ok (.if_icmp .ne 10, 3) := by decide +kernel
theorem dX0_holds_109 : decode cX0_holds 109 = .ok (.iload 4, 2) := by decide +kernel
theorem dX0_holds_111 : decode cX0_holds 111 = .ok (.iconst 1, 1) := by decide +kernel
theorem dX0_holds_112 : decode cX0_holds 112 = .ok (.ishr, 1) := by decide +kernel
theorem dX0_holds_113 : decode cX0_holds 113 = .ok (.goto 9, 3) := by decide +kernel
theorem dX0_holds_116 : decode cX0_holds 116 = .ok (.iload 4, 2) := by decide +kernel
theorem dX0_holds_118 : decode cX0_holds 118 = .ok (.iconst 2, 1) := by decide +kernel
theorem dX0_holds_119 : decode cX0_holds 119 = .ok (.ishr, 1) := by decide +kernel
theorem dX0_holds_120 : decode cX0_holds 120 = .ok (.iconst 1, 1) := by decide +kernel
theorem dX0_holds_121 : decode cX0_holds 121 = .ok (.ishl, 1) := by decide +kernel
theorem dX0_holds_122 : decode cX0_holds 122 = .ok (.istore 4, 2) := by decide +kernel
theorem dX0_holds_124 : decode cX0_holds 124 = .ok (.goto 107, 3) := by decide +kernel
theorem dX0_holds_127 : decode cX0_holds 127 = .ok (.iload 4, 2) := by decide +kernel
theorem dX0_holds_129 : decode cX0_holds 129 = .ok (.iconst 1, 1) := by decide +kernel
theorem dX0_holds_130 : decode cX0_holds 130 = .ok (.iand, 1) := by decide +kernel
theorem dX0_holds_131 : decode cX0_holds 131 = .ok (.iconst 1, 1) := by decide +kernel
theorem dX0_holds_132 : decode cX0_holds 132 = .ok (.if_icmp .ne 12, 3) := by decide +kernel
theorem dX0_holds_135 : decode cX0_holds 135 = .ok (.iload 4, 2) := by decide +kernel
theorem dX0_holds_137 : decode cX0_holds 137 = .ok (.iconst 1, 1) := by decide +kernel
theorem dX0_holds_138 : decode cX0_holds 138 = .ok (.ishr, 1) := by decide +kernel
theorem dX0_holds_139 : decode cX0_holds 139 = .ok (.iconst 1, 1) := by decide +kernel
theorem dX0_holds_140 : decode cX0_holds 140 = .ok (.ior, 1) := by decide +kernel
theorem dX0_holds_141 : decode cX0_holds 141 = .ok (.goto 7, 3) := by decide +kernel
theorem dX0_holds_144 : decode cX0_holds 144 = .ok (.iload 4, 2) := by decide +kernel
theorem dX0_holds_146 : decode cX0_holds 146 = .ok (.iconst 1, 1) := by decide +kernel
theorem dX0_holds_147 : decode cX0_holds 147 = .ok (.ishr, 1) := by decide +kernel
theorem dX0_holds_148 : decode cX0_holds 148 = .ok (.istore 4, 2) := by decide +kernel
theorem dX0_holds_150 : decode cX0_holds 150 = .ok (.goto 81, 3) := by decide +kernel
theorem dX0_holds_153 : decode cX0_holds 153 = .ok (.iload 4, 2) := by decide +kernel
theorem dX0_holds_155 : decode cX0_holds 155 = .ok (.iconst 1, 1) := by decide +kernel
theorem dX0_holds_156 : decode cX0_holds 156 = .ok (.ishl, 1) := by decide +kernel
theorem dX0_holds_157 : decode cX0_holds 157 = .ok (.iload 6, 2) := by decide +kernel
theorem dX0_holds_159 : decode cX0_holds 159 = .ok (.aload_n 0, 1) := by decide +kernel
theorem dX0_holds_160 : decode cX0_holds 160 = .ok (.getfield 31, 3) := by decide +kernel
theorem dX0_holds_163 : decode cX0_holds 163 = .ok (.iload 5, 2) := by decide +kernel
theorem dX0_holds_165 : decode cX0_holds 165 = .ok (.iaload, 1) := by decide +kernel
theorem dX0_holds_166 : decode cX0_holds 166 = .ok (.if_icmp .ge 7, 3) := by decide +kernel
theorem dX0_holds_169 : decode cX0_holds 169 = .ok (.iconst 1, 1) := by decide +kernel
theorem dX0_holds_170 : decode cX0_holds 170 = .ok (.goto 4, 3) := by decide +kernel
theorem dX0_holds_173 : decode cX0_holds 173 = .ok (.iconst 0, 1) := by decide +kernel
theorem dX0_holds_174 : decode cX0_holds 174 = .ok (.ior, 1) := by decide +kernel
theorem dX0_holds_175 : decode cX0_holds 175 = .ok (.istore 4, 2) := by decide +kernel
theorem dX0_holds_177 : decode cX0_holds 177 = .ok (.goto 54, 3) := by decide +kernel
theorem dX0_holds_180 : decode cX0_holds 180 = .ok (.iload 4, 2) := by decide +kernel
theorem dX0_holds_182 : decode cX0_holds 182 = .ok (.iconst 1, 1) := by decide +kernel
theorem dX0_holds_183 : decode cX0_holds 183 = .ok (.ishl, 1) := by decide +kernel
theorem dX0_holds_184 : decode cX0_holds 184 = .ok (.iload 6, 2) := by decide +kernel
theorem dX0_holds_186 : decode cX0_holds 186 = .ok (.aload_n 0, 1) := by decide +kernel
theorem dX0_holds_187 : decode cX0_holds 187 = .ok (.getfield 31, 3) := by decide +kernel
theorem dX0_holds_190 : decode cX0_holds 190 = .ok (.iload 5, 2) := by decide +kernel
theorem dX0_holds_192 : decode cX0_holds 192 = .ok (.iaload, 1) := by decide +kernel
theorem dX0_holds_193 : decode cX0_holds 193 = .ok (.if_icmp .ne 7, 3) := by decide +kernel
theorem dX0_holds_196 : decode cX0_holds 196 = .ok (.iconst 1, 1) := by decide +kernel
theorem dX0_holds_197 : decode cX0_holds 197 = .ok (.goto 4, 3) := by decide +kernel
theorem dX0_holds_200 : decode cX0_holds 200 = .ok (.iconst 0, 1) := by decide +kernel
theorem dX0_holds_201 : decode cX0_holds 201 = .ok (.ior, 1) := by decide +kernel
theorem dX0_holds_202 : decode cX0_holds 202 = .ok (.istore 4, 2) := by decide +kernel
theorem dX0_holds_204 : decode cX0_holds 204 = .ok (.goto 27, 3) := by decide +kernel
theorem dX0_holds_207 : decode cX0_holds 207 = .ok (.iload 4, 2) := by decide +kernel
theorem dX0_holds_209 : decode cX0_holds 209 = .ok (.iconst 1, 1) := by decide +kernel
theorem dX0_holds_210 : decode cX0_holds 210 = .ok (.ishl, 1) := by decide +kernel
theorem dX0_holds_211 : decode cX0_holds 211 = .ok (.iload 6, 2) := by decide +kernel
theorem dX0_holds_213 : decode cX0_holds 213 = .ok (.aload_n 0, 1) := by decide +kernel
theorem dX0_holds_214 : decode cX0_holds 214 = .ok (.getfield 31, 3) := by decide +kernel
theorem dX0_holds_217 : decode cX0_holds 217 = .ok (.iload 5, 2) := by decide +kernel
theorem dX0_holds_219 : decode cX0_holds 219 = .ok (.iaload, 1) := by decide +kernel
theorem dX0_holds_220 : decode cX0_holds 220 = .ok (.if_icmp .le 7, 3) := by decide +kernel
theorem dX0_holds_223 : decode cX0_holds 223 = .ok (.iconst 1, 1) := by decide +kernel
theorem dX0_holds_224 : decode cX0_holds 224 = .ok (.goto 4, 3) := by decide +kernel
theorem dX0_holds_227 : decode cX0_holds 227 = .ok (.iconst 0, 1) := by decide +kernel
theorem dX0_holds_228 : decode cX0_holds 228 = .ok (.ior, 1) := by decide +kernel
theorem dX0_holds_229 : decode cX0_holds 229 = .ok (.istore 4, 2) := by decide +kernel
theorem dX0_holds_231 : decode cX0_holds 231 = .ok (.iinc 5 1, 3) := by decide +kernel
theorem dX0_holds_234 : decode cX0_holds 234 = .ok (.goto (-211), 3) := by decide +kernel
theorem dX0_holds_237 : decode cX0_holds 237 = .ok (.iload 4, 2) := by decide +kernel
theorem dX0_holds_239 : decode cX0_holds 239 = .ok (.iconst 1, 1) := by decide +kernel
theorem dX0_holds_240 : decode cX0_holds 240 = .ok (.iand, 1) := by decide +kernel
theorem dX0_holds_241 : decode cX0_holds 241 = .ok (.iconst 1, 1) := by decide +kernel
theorem dX0_holds_242 : decode cX0_holds 242 = .ok (.if_icmp .ne 7, 3) := by decide +kernel
theorem dX0_holds_245 : decode cX0_holds 245 = .ok (.iconst 1, 1) := by decide +kernel
theorem dX0_holds_246 : decode cX0_holds 246 = .ok (.goto 4, 3) := by decide +kernel
theorem dX0_holds_249 : decode cX0_holds 249 = .ok (.iconst 0, 1) := by decide +kernel
theorem dX0_holds_250 : decode cX0_holds 250 = .ok (.ireturn, 1) := by decide +kernel
theorem dX0_lineFor_0 : decode cX0_lineFor 0 = .ok (.iconst 0, 1) := by decide +kernel
theorem dX0_lineFor_1 : decode cX0_lineFor 1 = .ok (.istore_n 3, 1) := by decide +kernel
theorem dX0_lineFor_2 : decode cX0_lineFor 2 = .ok (.iload_n 3, 1) := by decide +kernel
theorem dX0_lineFor_3 : decode cX0_lineFor 3 = .ok (.aload_n 0, 1) := by decide +kernel
theorem dX0_lineFor_4 : decode cX0_lineFor 4 = .ok (.getfield 15, 3) := by decide +kernel
theorem dX0_lineFor_7 : decode cX0_lineFor 7 = .ok (.arraylength, 1) := by decide +kernel
theorem dX0_lineFor_8 : decode cX0_lineFor 8 = .ok (.if_icmp .ge 30, 3) := by decide +kernel
theorem dX0_lineFor_11 : decode cX0_lineFor 11 = .ok (.aload_n 0, 1) := by decide +kernel
theorem dX0_lineFor_12 : decode cX0_lineFor 12 = .ok (.getfield 15, 3) := by decide +kernel
theorem dX0_lineFor_15 : decode cX0_lineFor 15 = .ok (.iload_n 3, 1) := by decide +kernel
theorem dX0_lineFor_16 : decode cX0_lineFor 16 = .ok (.iaload, 1) := by decide +kernel
theorem dX0_lineFor_17 : decode cX0_lineFor 17 = .ok (.iload_n 1, 1) := by decide +kernel
theorem dX0_lineFor_18 : decode cX0_lineFor 18 = .ok (.if_icmp .ne 14, 3) := by decide +kernel
theorem dX0_lineFor_21 : decode cX0_lineFor 21 = .ok (.aload_n 0, 1) := by decide +kernel
theorem dX0_lineFor_22 : decode cX0_lineFor 22 = .ok (.iload_n 3, 1) := by decide +kernel
theorem dX0_lineFor_23 : decode cX0_lineFor 23 = .ok (.aload_n 2, 1) := by decide +kernel
theorem dX0_lineFor_24 : decode cX0_lineFor 24 = .ok (.invokevirtual 34, 3) := by decide +kernel
theorem dX0_lineFor_27 : decode cX0_lineFor 27 = .ok (.ifCond .eq 5, 3) := by decide +kernel
theorem dX0_lineFor_30 : decode cX0_lineFor 30 = .ok (.iload_n 3, 1) := by decide +kernel
theorem dX0_lineFor_31 : decode cX0_lineFor 31 = .ok (.ireturn, 1) := by decide +kernel
theorem dX0_lineFor_32 : decode cX0_lineFor 32 = .ok (.iinc 3 1, 3) := by decide +kernel
theorem dX0_lineFor_35 : decode cX0_lineFor 35 = .ok (.goto (-33), 3) := by decide +kernel
theorem dX0_lineFor_38 : decode cX0_lineFor 38 = .ok (.iconst (-1), 1) := by decide +kernel
theorem dX0_lineFor_39 : decode cX0_lineFor 39 = .ok (.ireturn, 1) := by decide +kernel
theorem dX1_settle_0 : decode cX1_settle 0 = .ok (.aload_n 0, 1) := by decide +kernel
theorem dX1_settle_1 : decode cX1_settle 1 = .ok (.getfield 9, 3) := by decide +kernel
theorem dX1_settle_4 : decode cX1_settle 4 = .ok (.aload_n 0, 1) := by decide +kernel
theorem dX1_settle_5 : decode cX1_settle 5 = .ok (.getfield 93, 3) := by decide +kernel
theorem dX1_settle_8 : decode cX1_settle 8 = .ok (.putfield 90, 3) := by decide +kernel
theorem dX1_settle_11 : decode cX1_settle 11 = .ok (.aload_n 0, 1) := by decide +kernel
theorem dX1_settle_12 : decode cX1_settle 12 = .ok (.getfield 30, 3) := by decide +kernel
theorem dX1_settle_15 : decode cX1_settle 15 = .ok (.bipush 6, 2) := by decide +kernel
theorem dX1_settle_17 : decode cX1_settle 17 = .ok (.aload_n 0, 1) := by decide +kernel
theorem dX1_settle_18 : decode cX1_settle 18 = .ok (.getfield 9, 3) := by decide +kernel
theorem dX1_settle_21 : decode cX1_settle 21 = .ok (.getfield 281, 3) := by decide +kernel
theorem dX1_settle_24 : decode cX1_settle 24 = .ok (.invokevirtual 284, 3) := by decide +kernel
theorem dX1_settle_27 : decode cX1_settle 27 = .ok (.istore_n 1, 1) := by decide +kernel
theorem dX1_settle_28 : decode cX1_settle 28 = .ok (.iload_n 1, 1) := by decide +kernel
theorem dX1_settle_29 : decode cX1_settle 29 = .ok (.iconst (-1), 1) := by decide +kernel
theorem dX1_settle_30 : decode cX1_settle 30 = .ok (.if_icmp .ne 7, 3) := by decide +kernel
theorem dX1_settle_33 : decode cX1_settle 33 = .ok (.iconst 0, 1) := by decide +kernel
theorem dX1_settle_34 : decode cX1_settle 34 = .ok (.goto 12, 3) := by decide +kernel
theorem dX1_settle_37 : decode cX1_settle 37 = .ok (.aload_n 0, 1) := by decide +kernel
theorem dX1_settle_38 : decode cX1_settle 38 = .ok (.getfield 30, 3) := by decide +kernel
theorem dX1_settle_41 : decode cX1_settle 41 = .ok (.getfield 288, 3) := by decide +kernel
theorem dX1_settle_44 : decode cX1_settle 44 = .ok (.iload_n 1, 1) := by decide +kernel
theorem dX1_settle_45 : decode cX1_settle 45 = .ok (.iaload, 1) := by decide +kernel
theorem dX1_settle_46 : decode cX1_settle 46 = .ok (.istore_n 2, 1) := by decide +kernel
theorem dX1_settle_47 : decode cX1_settle 47 = .ok (.iconst 0, 1) := by decide +kernel
theorem dX1_settle_48 : decode cX1_settle 48 = .ok (.istore_n 3, 1) := by decide +kernel
theorem dX1_settle_49 : decode cX1_settle 49 = .ok (.iload_n 3, 1) := by decide +kernel
theorem dX1_settle_50 : decode cX1_settle 50 = .ok (.aload_n 0, 1) := by decide +kernel
theorem dX1_settle_51 : decode cX1_settle 51 = .ok (.getfield 9, 3) := by decide +kernel
theorem dX1_settle_54 : decode cX1_settle 54 = .ok (.getfield 129, 3) := by decide +kernel
theorem dX1_settle_57 : decode cX1_settle 57 = .ok (.getfield 133, 3) := by decide +kernel
theorem dX1_settle_60 : decode cX1_settle 60 = .ok (.if_icmp .ge 15, 3) := by decide +kernel
theorem dX1_settle_63 : decode cX1_settle 63 = .ok (.aload_n 0, 1) := by decide +kernel
theorem dX1_settle_64 : decode cX1_settle 64 = .ok (.iload_n 3, 1) := by decide +kernel
theorem dX1_settle_65 : decode cX1_settle 65 = .ok (.iload_n 2, 1) := by decide +kernel
theorem dX1_settle_66 : decode cX1_settle 66 = .ok (.invokevirtual 291, 3) := by decide +kernel
theorem dX1_settle_69 : decode cX1_settle 69 = .ok (.iinc 3 1, 3) := by decide +kernel
theorem dX1_settle_72 : decode cX1_settle 72 = .ok (.goto (-23), 3) := by decide +kernel
theorem dX1_settle_75 : decode cX1_settle 75 = .ok (.iconst 0, 1) := by decide +kernel
theorem dX1_settle_76 : decode cX1_settle 76 = .ok (.istore_n 3, 1) := by decide +kernel
theorem dX1_settle_77 : decode cX1_settle 77 = .ok (.iload_n 3, 1) := by decide +kernel
theorem dX1_settle_78 : decode cX1_settle 78 = .ok (.aload_n 0, 1) := by decide +kernel
theorem dX1_settle_79 : decode cX1_settle 79 = .ok (.getfield 9, 3) := by decide +kernel
theorem dX1_settle_82 : decode cX1_settle 82 = .ok (.getfield 148, 3) := by decide +kernel
theorem dX1_settle_85 : decode cX1_settle 85 = .ok (.getfield 152, 3) := by decide +kernel
theorem dX1_settle_88 : decode cX1_settle 88 = .ok (.if_icmp .ge 81, 3) := by decide +kernel
theorem dX1_settle_91 : decode cX1_settle 91 = .ok (.aload_n 0, 1) := by decide +kernel
theorem dX1_settle_92 : decode cX1_settle 92 = .ok (.getfield 9, 3) := by decide +kernel
theorem dX1_settle_95 : decode cX1_settle 95 = .ok (.getfield 148, 3) := by decide +kernel
theorem dX1_settle_98 : decode cX1_settle 98 = .ok (.getfield 153, 3) := by decide +kernel
theorem dX1_settle_101 : decode cX1_settle 101 = .ok (.iload_n 3, 1) := by decide +kernel
theorem dX1_settle_102 : decode cX1_settle 102 = .ok (.aload_n 0, 1) := by decide +kernel
theorem dX1_settle_103 : decode cX1_settle 103 = .ok (.getfield 59, 3) := by decide +kernel
theorem dX1_settle_106 : decode cX1_settle 106 = .ok (.iload_n 3, 1) := by decide +kernel
theorem dX1_settle_107 : decode cX1_settle 107 = .ok (.iaload, 1) := by decide +kernel
theorem dX1_settle_108 : decode cX1_settle 108 = .ok (.iastore, 1) := by decide +kernel
theorem dX1_settle_109 : decode cX1_settle 109 = .ok (.aload_n 0, 1) := by decide +kernel
theorem dX1_settle_110 : decode cX1_settle 110 = .ok (.getfield 9, 3) := by decide +kernel
theorem dX1_settle_113 : decode cX1_settle 113 = .ok (.getfield 148, 3) := by decide +kernel
theorem dX1_settle_116 : decode cX1_settle 116 = .ok (.getfield 294, 3) := by decide +kernel
theorem dX1_settle_119 : decode cX1_settle 119 = .ok (.iload_n 3, 1) := by decide +kernel
theorem dX1_settle_120 : decode cX1_settle 120 = .ok (.aload_n 0, 1) := by decide +kernel
theorem dX1_settle_121 : decode cX1_settle 121 = .ok (.getfield 62, 3) := by decide +kernel
theorem dX1_settle_124 : decode cX1_settle 124 = .ok (.iload_n 3, 1) := by decide +kernel
theorem dX1_settle_125 : decode cX1_settle 125 = .ok (.iaload, 1) := by decide +kernel
theorem dX1_settle_126 : decode cX1_settle 126 = .ok (.iastore, 1) := by decide +kernel
theorem dX1_settle_127 : decode cX1_settle 127 = .ok (.aload_n 0, 1) := by decide +kernel
theorem dX1_settle_128 : decode cX1_settle 128 = .ok (.getfield 9, 3) := by decide +kernel
theorem dX1_settle_131 : decode cX1_settle 131 = .ok (.getfield 148, 3) := by decide +kernel
theorem dX1_settle_134 : decode cX1_settle 134 = .ok (.getfield 295, 3) := by decide +kernel
theorem dX1_settle_137 : decode cX1_settle 137 = .ok (.iload_n 3, 1) := by decide +kernel
theorem dX1_settle_138 : decode cX1_settle 138 = .ok (.aload_n 0, 1) := by decide +kernel
theorem dX1_settle_139 : decode cX1_settle 139 = .ok (.getfield 65, 3) := by decide +kernel
theorem dX1_settle_142 : decode cX1_settle 142 = .ok (.iload_n 3, 1) := by decide +kernel
theorem dX1_settle_143 : decode cX1_settle 143 = .ok (.iaload, 1) := by decide +kernel
theorem dX1_settle_144 : decode cX1_settle 144 = .ok (.iastore, 1) := by decide +kernel
theorem dX1_settle_145 : decode cX1_settle 145 = .ok (.aload_n 0, 1) := by decide +kernel
theorem dX1_settle_146 : decode cX1_settle 146 = .ok (.getfield 9, 3) := by decide +kernel
theorem dX1_settle_149 : decode cX1_settle 149 = .ok (.getfield 148, 3) := by decide +kernel
theorem dX1_settle_152 : decode cX1_settle 152 = .ok (.getfield 296, 3) := by decide +kernel
theorem dX1_settle_155 : decode cX1_settle 155 = .ok (.iload_n 3, 1) := by decide +kernel
theorem dX1_settle_156 : decode cX1_settle 156 = .ok (.aload_n 0, 1) := by decide +kernel
theorem dX1_settle_157 : decode cX1_settle 157 = .ok (.getfield 68, 3) := by decide +kernel
theorem dX1_settle_160 : decode cX1_settle 160 = .ok (.iload_n 3, 1) := by decide +kernel
theorem dX1_settle_161 : decode cX1_settle 161 = .ok (.iaload, 1) := by decide +kernel
theorem dX1_settle_162 : decode cX1_settle 162 = .ok (.iastore, 1) := by decide +kernel
theorem dX1_settle_163 : decode cX1_settle 163 = .ok (.iinc 3 1, 3) := by decide +kernel
theorem dX1_settle_166 : decode cX1_settle 166 = .ok (.goto (-89), 3) := by decide +kernel
theorem dX1_settle_169 : decode cX1_settle 169 = .ok (.iconst 0, 1) := by decide +kernel
theorem dX1_settle_170 : decode cX1_settle 170 = .ok (.istore_n 3, 1) := by decide +kernel
theorem dX1_settle_171 : decode cX1_settle 171 = .ok (.iload_n 3, 1) := by decide +kernel
theorem dX1_settle_172 : decode cX1_settle 172 = .ok (.aload_n 0, 1) := by decide +kernel
theorem dX1_settle_173 : decode cX1_settle 173 = .ok (.getfield 9, 3) := by decide +kernel
theorem dX1_settle_176 : decode cX1_settle 176 = .ok (.getfield 157, 3) := by decide +kernel
theorem dX1_settle_179 : decode cX1_settle 179 = .ok (.getfield 161, 3) := by decide +kernel
theorem dX1_settle_182 : decode cX1_settle 182 = .ok (.if_icmp .ge 27, 3) := by decide +kernel
theorem dX1_settle_185 : decode cX1_settle 185 = .ok (.aload_n 0, 1) := by decide +kernel
theorem dX1_settle_186 : decode cX1_settle 186 = .ok (.getfield 9, 3) := by decide +kernel
theorem dX1_settle_189 : decode cX1_settle 189 = .ok (.getfield 157, 3) := by decide +kernel
theorem dX1_settle_192 : decode cX1_settle 192 = .ok (.getfield 297, 3) := by decide +kernel
theorem dX1_settle_195 : decode cX1_settle 195 = .ok (.iload_n 3, 1) := by decide +kernel
theorem dX1_settle_196 : decode cX1_settle 196 = .ok (.aload_n 0, 1) := by decide +kernel
theorem dX1_settle_197 : decode cX1_settle 197 = .ok (.getfield 76, 3) := by decide +kernel
theorem dX1_settle_200 : decode cX1_settle 200 = .ok (.iload_n 3, 1) := by decide +kernel
theorem dX1_settle_201 : decode cX1_settle 201 = .ok (.iaload, 1) := by decide +kernel
theorem dX1_settle_202 : decode cX1_settle 202 = .ok (.iastore, 1) := by decide +kernel
theorem dX1_settle_203 : decode cX1_settle 203 = .ok (.iinc 3 1, 3) := by decide +kernel
theorem dX1_settle_206 : decode cX1_settle 206 = .ok (.goto (-35), 3) := by decide +kernel
theorem dX1_settle_209 : decode cX1_settle 209 = .ok (.return_, 1) := by decide +kernel
set_option maxHeartbeats 4000000 in
set_option maxRecDepth 100000 in
theorem x_holds (l : Launch) (dC : Nat → ClassId) (dI : Nat → Nat → Nat) (sz : Nat) (ob ad : Nat → Nat) (cA : Nat → ClassId) (hd : dX ob ad) (fv : Nat → Int32) (wd : xT) (ar : Nat → Nat → Int32) (hF_fv : rX fv) (hA_ar : rB ar) (la : Nat) (lfr : Int32) (lra : Nat → Nat) (lrc : Nat → ClassId) (lln lcn : Nat) (llr : Nat → Nat → Int32) (hlq : lwQ lln lcn llr) (ln : Int32) (h_ln : 0 ≤ ln.toInt ∧ ln.toInt ≤ 15) (hln : ln.toInt < lln) : Met l yX0_holds (.code yX0_holds cX0_holds 7 (some .boolean) :: lw_good) ({ frames := 2, cells := 0, slots := 0, locals := 40 }) (va_Pc [.ref la, .int ln, .ref (ad 4)] (fun U => prX dC dI ob ad cA fv wd ar sz U ∧ lwA dC dI ob ad la lfr lra lrc lln lcn llr sz U)) (va_Qi (fun (r : Int32) (u : xS) => rX u.1 ∧ rB u.2.2 ∧ fM [] fv u.1 ∧ fA [] ar u.2.2 ∧ u.2.1.2 = wd.2 ∧ (0 ≤ r.toInt ∧ r.toInt ≤ 1) ∧ True) (enX dC dI ob ad cA) (aX ob ad sz)) 0 0 (aX ob ad sz) := by
  refine Met.ofW (cc := cX0_holds) (maxL := 7) (ret := (some .boolean)) (by decide) rfl ?_
  intro p e s m args below meth c s₁ B hml hv
  obtain ⟨rfl, ⟨hsz, hP, hK⟩, hL⟩ := hv
  have hx := B.exec
  have hb := B.bytes
  have hr := B.returns
  have hts := atoms_spec (ws := (.code yX0_holds cX0_holds 7 (some .boolean) :: lw_good)) B.pre
  have htg : ∀ w ∈ lw_good, w.before _ s = true := fun w hw => hts w (List.mem_cons_of_mem _ hw)
  have hown : s.vm.findClass RX0 = some m.cls := findClass_of_methodNamed B.named
  have hlocks := B.notSynchronized
  subst hsz
  have hS : va_S (aX ob ad s.heap.size) s.heap s.heap [] := va_S.rf
  have hl := lv_entry ([.ref la, .int ln, .ref (ad 4)]) (n := 7) (Nat.le_of_ble_eq_true rfl)
  rw [lg_entry_eq]
  generalize (lg_sl ([.ref la, .int ln, .ref (ad 4)]) ++ List.replicate (7 - (lg_sl ([.ref la, .int ln, .ref (ad 4)])).length) Slot.unset).toArray = ls at hl ⊢
  have hl : lv_has ls 7 [(0, .ref la), (1, .int ln), (2, .ref (ad 4))] := hl
  refine lv_iload_n hx hb dX0_holds_0 rfl (lv_at hl 1 rfl) ?_
  refine my_cut (P := fun R9 a9 Q9 => ∀ (x_12 : Int32) (H : Heap) (locs : List Loc) (ls : Array Slot), (0 ≤ x_12.toInt ∧ x_12.toInt ≤ 100) → va_P (dC, dI) vwCl (wsX ob ad cA fv wd ar) H → va_S (aX ob ad s.heap.size) s.heap H locs → lv_has ls 7 [(0, .ref la), (1, .int ln), (2, .ref (ad 4))] → W p l e R9 s m a9 below meth c H locs 0 0 Q9 (F0 m 16 ls [.int x_12])) ?_ (fun hj_13 => ?_)
  · intro x_12 H locs ls i_x_12 hP hS hl
    refine lv_istore_n (lv' := [(3, .int x_12), (0, .ref la), (1, .int ln), (2, .ref (ad 4))]) hx hb dX0_holds_16 rfl hl (by decide) rfl (fun ls hl => ?_)
    refine lv_iconst (v := 1) hx hb dX0_holds_17 (by decide) ?_
    refine lv_istore (lv' := [(4, .int 1), (3, .int x_12), (0, .ref la), (1, .int ln), (2, .ref (ad 4))]) hx hb dX0_holds_18 hl (by decide) rfl (fun ls hl => ?_)
    refine lv_iload_n hx hb dX0_holds_20 rfl (lv_at hl 1 rfl) ?_
    refine lv_istore (lv' := [(5, .int x_12), (4, .int 1), (3, .int x_12), (0, .ref la), (1, .int ln), (2, .ref (ad 4))]) hx hb dX0_holds_21 hl (by decide) rfl (fun ls hl => ?_)
    refine my_cut (P := fun R9 a9 Q9 => ∀ (n_16 : Nat) (x_14 : Int32) (x_15 : Int32) (H : Heap) (locs : List Loc) (ls : Array Slot), 100 - x_15.toInt < (n_16 : Int) → (0 ≤ x_15.toInt ∧ x_15.toInt ≤ 100) → va_P (dC, dI) vwCl (wsX ob ad cA fv wd ar) H → va_S (aX ob ad s.heap.size) s.heap H locs → lv_has ls 7 [(0, .ref la), (1, .int ln), (2, .ref (ad 4)), (4, .int x_14), (5, .int x_15)] → W p l e R9 s m a9 below meth c H locs 0 0 Q9 (F0 m 23 ls [])) ?_ (fun hj_18 => ?_)
    · intro n_16
      induction n_16 with
      | zero => intro x_14 x_15 H locs ls fu_17 i_x_15; exfalso; omega
      | succ n_16 ih_16 =>
        intro x_14 x_15 H locs ls fu_17 i_x_15 hP hS hl
        refine lv_iload hx hb dX0_holds_23 (lv_at hl 4 rfl) ?_
        refine lv_aload_n hx hb dX0_holds_25 rfl (lv_at hl 0 rfl) ?_
        refine gL_X0_22 hx hb htg hown (lw_K hL) (lw_now hL hS) dX0_holds_26 ?_
        refine lv_iload_n hx hb dX0_holds_29 rfl (lv_at hl 1 rfl) ?_
        refine lL_3 hx hb (lw_K hL) (lw_now hL hS) (vp_in_iff.mpr (by omega)) dX0_holds_30 (fun v_19 ev_19 => ?_)
        have i_20 : 0 ≤ v_19.toInt ∧ v_19.toInt ≤ 100 := (by have h9 := (hlq.2.2 ln.toNatClampNeg).1; rw [← ev_19] at h9; have h8 := hlq.2.1; omega)
        have k_21 : v_19.toInt ≤ lcn := (by have h9 := (hlq.2.2 ln.toNatClampNeg).1; rw [← ev_19] at h9; exact h9.2)
        refine lv_icmp_ge (tgt := 237) hx hb dX0_holds_31 (by decide) (fun c_22 => ?_) (fun c_22 => ?_)
        · skip
          have k_23 := Int32.le_iff_toInt_le.mp c_22
          refine lv_iload hx hb dX0_holds_237 (lv_at hl 3 rfl) ?_
          refine lv_iconst (v := 1) hx hb dX0_holds_239 (by decide) ?_
          refine lv_iand hx hb dX0_holds_240 ?_
          refine lv_topi (fun v_109 ev_109 => ?_)
          have i_110 : 0 ≤ v_109.toInt ∧ v_109.toInt ≤ 1 := iv_1 ev_109
          refine lv_iconst (v := 1) hx hb dX0_holds_241 (by decide) ?_
          refine lv_icmp_ne (tgt := 249) hx hb dX0_holds_242 (by decide) (fun c_111 => ?_) (fun c_111 => ?_)
          · skip
            have i_112 : 0 ≤ v_109.toInt ∧ v_109.toInt ≤ 0 := iv_neh i_110 (by decide) c_111
            have k_113 : ¬ v_109.toInt = 1 := fun q => c_111 (Int32.toInt_inj.mp q)
            refine lv_iconst (v := 0) hx hb dX0_holds_249 (by decide) ?_
            exact W.zret (v := 0) hx hb hr (by decide) (fun t ht hW => ⟨⟨0, (fv, wd, ar), rfl, ⟨hF_fv, hA_ar, (fM_rf [] _), (fA_rf [] _), rfl, (iv_w (⟨by decide, by decide⟩ : (0 : Int) ≤ (0 : Int32).toInt ∧ (0 : Int32).toInt ≤ 0) (by decide) (by decide)), trivial⟩, ⟨by rw [ht]; exact hP, va_K.moved hW.alike hK⟩⟩, hS.F ht⟩) hS.2.2 dX0_holds_250
          · skip
            have i_114 : 1 ≤ v_109.toInt ∧ v_109.toInt ≤ 1 := iv_eq1 (⟨by decide, by decide⟩ : (1 : Int) ≤ (1 : Int32).toInt ∧ (1 : Int32).toInt ≤ 1) c_111
            refine lv_iconst (v := 1) hx hb dX0_holds_245 (by decide) ?_
            refine lv_goto (tgt := 250) hx hb dX0_holds_246 (by decide) ?_
            exact W.zret (v := 1) hx hb hr (by decide) (fun t ht hW => ⟨⟨1, (fv, wd, ar), rfl, ⟨hF_fv, hA_ar, (fM_rf [] _), (fA_rf [] _), rfl, (iv_w (⟨by decide, by decide⟩ : (1 : Int) ≤ (1 : Int32).toInt ∧ (1 : Int32).toInt ≤ 1) (by decide) (by decide)), trivial⟩, ⟨by rw [ht]; exact hP, va_K.moved hW.alike hK⟩⟩, hS.F ht⟩) hS.2.2 dX0_holds_250
        · skip
          have i_24 : 0 ≤ x_15.toInt ∧ x_15.toInt ≤ 99 := iv_lt1 i_x_15 i_20 (Int32.not_le.mp c_22)
          have i_25 : 1 ≤ v_19.toInt ∧ v_19.toInt ≤ 100 := iv_lt2 i_x_15 i_20 (Int32.not_le.mp c_22)
          have k_26 := Int32.lt_iff_toInt_lt.mp (Int32.not_le.mp c_22)
          refine lv_aload_n hx hb dX0_holds_34 rfl (lv_at hl 2 rfl) ?_
          refine lv_aload_n hx hb dX0_holds_35 rfl (lv_at hl 0 rfl) ?_
          refine gL_X0_28 hx hb htg hown (lw_K hL) (lw_now hL hS) dX0_holds_36 ?_
          refine lv_iload hx hb dX0_holds_39 (lv_at hl 4 rfl) ?_
          refine lL_5 hx hb (lw_K hL) (lw_now hL hS) (vp_in_iff.mpr (by omega)) dX0_holds_41 (fun v_27 ev_27 => ?_)
          have i_28 : 0 ≤ v_27.toInt ∧ v_27.toInt ≤ 11 := ev_27 ▸ (hlq.2.2 x_15.toNatClampNeg).2
          refine lX_4 hx hb hK hP (iv_in i_28 (by decide) (by decide)) dX0_holds_42 (fun v_29 ev_29 => ?_)
          refine lv_istore (lv' := [(6, .int v_29), (0, .ref la), (1, .int ln), (2, .ref (ad 4)), (4, .int x_14), (5, .int x_15)]) hx hb dX0_holds_43 hl (by decide) rfl (fun ls hl => ?_)
          refine lv_aload_n hx hb dX0_holds_45 rfl (lv_at hl 1 rfl) ?_
          refine gL_X0_25 hx hb htg hown (lw_K hL) (lw_now hL hS) dX0_holds_46 ?_
          refine lv_iload hx hb dX0_holds_49 (lv_at hl 5 rfl) ?_
          refine lL_4 hx hb (lw_K hL) (lw_now hL hS) (vp_in_iff.mpr (by omega)) dX0_holds_51 (fun v_30 ev_30 => ?_)
          refine my_cut (P := fun R9 a9 Q9 => ∀ (x_104 : Int32) (H : Heap) (locs : List Loc) (ls : Array Slot), va_P (dC, dI) vwCl (wsX ob ad cA fv wd ar) H → va_S (aX ob ad s.heap.size) s.heap H locs → lv_has ls 7 [(0, .ref la), (1, .int ln), (2, .ref (ad 4)), (4, .int x_104), (5, .int x_15)] → W p l e R9 s m a9 below meth c H locs 0 0 Q9 (F0 m 231 ls [])) ?_ (fun hj_105 => ?_)
          · intro x_104 H locs ls  hP hS hl
            obtain ⟨v_106, ev_106⟩ : ∃ z : Int32, z = x_15 + 1 := ⟨_, rfl⟩
            refine lv_iinc (v := v_106) (lv' := [(5, .int v_106), (0, .ref la), (1, .int ln), (2, .ref (ad 4)), (4, .int x_104)]) hx hb dX0_holds_231 hl (k := 4) rfl (by rw [ev_106]; rfl) (by decide) rfl (fun ls hl => ?_)
            have t_107 : v_106.toInt = x_15.toInt + 1 ∧ 1 ≤ v_106.toInt ∧ v_106.toInt ≤ 100 := iv_addc ev_106 i_24 (by decide) (by decide) (by decide)
            refine lv_goto (tgt := 23) hx hb dX0_holds_234 (by decide) ?_
            exact ih_16 x_104 v_106 _ _ ls (by omega) (iv_w t_107.2 (by decide) (by decide)) hP hS (lv_sub hl [1, 2, 3, 4, 0] rfl)
          · skip
            rcases ix_sw_0_6 v_30 with w_31 | w_31 | w_31 | w_31 | w_31 | w_31 | w_31 | w_31
            · skip
              refine lv_tableOut (tgt := 207) hx hb dX0_holds_52 (Or.inl w_31) (by decide) ?_
              refine lv_iload hx hb dX0_holds_207 (lv_at hl 4 rfl) ?_
              refine lv_iconst (v := 1) hx hb dX0_holds_209 (by decide) ?_
              refine lv_ishl hx hb dX0_holds_210 ?_
              refine lv_topi (fun v_32 ev_32 => ?_)
              refine lv_iload hx hb dX0_holds_211 (lv_at hl 0 rfl) ?_
              refine lv_aload_n hx hb dX0_holds_213 rfl (lv_at hl 1 rfl) ?_
              refine gL_X0_31 hx hb htg hown (lw_K hL) (lw_now hL hS) dX0_holds_214 ?_
              refine lv_iload hx hb dX0_holds_217 (lv_at hl 5 rfl) ?_
              refine lL_6 hx hb (lw_K hL) (lw_now hL hS) (vp_in_iff.mpr (by omega)) dX0_holds_219 (fun v_33 ev_33 => ?_)
              refine my_cut (P := fun R9 a9 Q9 => ∀ (x_39 : Int32) (H : Heap) (locs : List Loc) (ls : Array Slot), (0 ≤ x_39.toInt ∧ x_39.toInt ≤ 1) → va_P (dC, dI) vwCl (wsX ob ad cA fv wd ar) H → va_S (aX ob ad s.heap.size) s.heap H locs → lv_has ls 7 [(0, .ref la), (1, .int ln), (2, .ref (ad 4)), (5, .int x_15)] → W p l e R9 s m a9 below meth c H locs 0 0 Q9 (F0 m 228 ls [.int x_39, .int v_32])) ?_ (fun hj_40 => ?_)
              · intro x_39 H locs ls i_x_39 hP hS hl
                refine lv_ior hx hb dX0_holds_228 ?_
                refine lv_topi (fun v_41 ev_41 => ?_)
                refine lv_istore (lv' := [(4, .int v_41), (0, .ref la), (1, .int ln), (2, .ref (ad 4)), (5, .int x_15)]) hx hb dX0_holds_229 hl (by decide) rfl (fun ls hl => ?_)
                exact hj_105 v_41 _ _ ls  hP hS (lv_sub hl [1, 2, 3, 0, 4] rfl)
              · skip
                refine lv_icmp_le (tgt := 227) hx hb dX0_holds_220 (by decide) (fun c_34 => ?_) (fun c_34 => ?_)
                · skip
                  have k_35 := Int32.le_iff_toInt_le.mp c_34
                  refine lv_iconst (v := 0) hx hb dX0_holds_227 (by decide) ?_
                  exact hj_40 0 _ _ ls (iv_w (⟨by decide, by decide⟩ : (0 : Int) ≤ (0 : Int32).toInt ∧ (0 : Int32).toInt ≤ 0) (by decide) (by decide)) hP hS (lv_sub hl [1, 2, 3, 5] rfl)
                · skip
                  have i_36 : (-2147483648) ≤ v_33.toInt ∧ v_33.toInt ≤ 2147483646 := iv_lt1 (iv_any v_33) (iv_any v_29) (Int32.not_le.mp c_34)
                  have i_37 : (-2147483647) ≤ v_29.toInt ∧ v_29.toInt ≤ 2147483647 := iv_lt2 (iv_any v_33) (iv_any v_29) (Int32.not_le.mp c_34)
                  have k_38 := Int32.lt_iff_toInt_lt.mp (Int32.not_le.mp c_34)
                  refine lv_iconst (v := 1) hx hb dX0_holds_223 (by decide) ?_
                  refine lv_goto (tgt := 228) hx hb dX0_holds_224 (by decide) ?_
                  exact hj_40 1 _ _ ls (iv_w (⟨by decide, by decide⟩ : (1 : Int) ≤ (1 : Int32).toInt ∧ (1 : Int32).toInt ≤ 1) (by decide) (by decide)) hP hS (lv_sub hl [1, 2, 3, 5] rfl)
            · skip
              refine lv_tableOut (tgt := 207) hx hb dX0_holds_52 (Or.inr w_31) (by decide) ?_
              refine lv_iload hx hb dX0_holds_207 (lv_at hl 4 rfl) ?_
              refine lv_iconst (v := 1) hx hb dX0_holds_209 (by decide) ?_
              refine lv_ishl hx hb dX0_holds_210 ?_
              refine lv_topi (fun v_42 ev_42 => ?_)
              refine lv_iload hx hb dX0_holds_211 (lv_at hl 0 rfl) ?_
              refine lv_aload_n hx hb dX0_holds_213 rfl (lv_at hl 1 rfl) ?_
              refine gL_X0_31 hx hb htg hown (lw_K hL) (lw_now hL hS) dX0_holds_214 ?_
              refine lv_iload hx hb dX0_holds_217 (lv_at hl 5 rfl) ?_
              refine lL_6 hx hb (lw_K hL) (lw_now hL hS) (vp_in_iff.mpr (by omega)) dX0_holds_219 (fun v_43 ev_43 => ?_)
              refine my_cut (P := fun R9 a9 Q9 => ∀ (x_49 : Int32) (H : Heap) (locs : List Loc) (ls : Array Slot), (0 ≤ x_49.toInt ∧ x_49.toInt ≤ 1) → va_P (dC, dI) vwCl (wsX ob ad cA fv wd ar) H → va_S (aX ob ad s.heap.size) s.heap H locs → lv_has ls 7 [(0, .ref la), (1, .int ln), (2, .ref (ad 4)), (5, .int x_15)] → W p l e R9 s m a9 below meth c H locs 0 0 Q9 (F0 m 228 ls [.int x_49, .int v_42])) ?_ (fun hj_50 => ?_)
              · intro x_49 H locs ls i_x_49 hP hS hl
                refine lv_ior hx hb dX0_holds_228 ?_
                refine lv_topi (fun v_51 ev_51 => ?_)
                refine lv_istore (lv' := [(4, .int v_51), (0, .ref la), (1, .int ln), (2, .ref (ad 4)), (5, .int x_15)]) hx hb dX0_holds_229 hl (by decide) rfl (fun ls hl => ?_)
                exact hj_105 v_51 _ _ ls  hP hS (lv_sub hl [1, 2, 3, 0, 4] rfl)
              · skip
                refine lv_icmp_le (tgt := 227) hx hb dX0_holds_220 (by decide) (fun c_44 => ?_) (fun c_44 => ?_)
                · skip
                  have k_45 := Int32.le_iff_toInt_le.mp c_44
                  refine lv_iconst (v := 0) hx hb dX0_holds_227 (by decide) ?_
                  exact hj_50 0 _ _ ls (iv_w (⟨by decide, by decide⟩ : (0 : Int) ≤ (0 : Int32).toInt ∧ (0 : Int32).toInt ≤ 0) (by decide) (by decide)) hP hS (lv_sub hl [1, 2, 3, 5] rfl)
                · skip
                  have i_46 : (-2147483648) ≤ v_43.toInt ∧ v_43.toInt ≤ 2147483646 := iv_lt1 (iv_any v_43) (iv_any v_29) (Int32.not_le.mp c_44)
                  have i_47 : (-2147483647) ≤ v_29.toInt ∧ v_29.toInt ≤ 2147483647 := iv_lt2 (iv_any v_43) (iv_any v_29) (Int32.not_le.mp c_44)
                  have k_48 := Int32.lt_iff_toInt_lt.mp (Int32.not_le.mp c_44)
                  refine lv_iconst (v := 1) hx hb dX0_holds_223 (by decide) ?_
                  refine lv_goto (tgt := 228) hx hb dX0_holds_224 (by decide) ?_
                  exact hj_50 1 _ _ ls (iv_w (⟨by decide, by decide⟩ : (1 : Int) ≤ (1 : Int32).toInt ∧ (1 : Int32).toInt ≤ 1) (by decide) (by decide)) hP hS (lv_sub hl [1, 2, 3, 5] rfl)
            · skip
              refine lv_tableIn (off := 101) (tgt := 153) hx hb dX0_holds_52 (by rw [w_31]; decide) (by rw [w_31]; decide) (by rw [w_31]; rfl) (by decide) ?_
              refine lv_iload hx hb dX0_holds_153 (lv_at hl 4 rfl) ?_
              refine lv_iconst (v := 1) hx hb dX0_holds_155 (by decide) ?_
              refine lv_ishl hx hb dX0_holds_156 ?_
              refine lv_topi (fun v_52 ev_52 => ?_)
              refine lv_iload hx hb dX0_holds_157 (lv_at hl 0 rfl) ?_
              refine lv_aload_n hx hb dX0_holds_159 rfl (lv_at hl 1 rfl) ?_
              refine gL_X0_31 hx hb htg hown (lw_K hL) (lw_now hL hS) dX0_holds_160 ?_
              refine lv_iload hx hb dX0_holds_163 (lv_at hl 5 rfl) ?_
              refine lL_6 hx hb (lw_K hL) (lw_now hL hS) (vp_in_iff.mpr (by omega)) dX0_holds_165 (fun v_53 ev_53 => ?_)
              refine my_cut (P := fun R9 a9 Q9 => ∀ (x_59 : Int32) (H : Heap) (locs : List Loc) (ls : Array Slot), (0 ≤ x_59.toInt ∧ x_59.toInt ≤ 1) → va_P (dC, dI) vwCl (wsX ob ad cA fv wd ar) H → va_S (aX ob ad s.heap.size) s.heap H locs → lv_has ls 7 [(0, .ref la), (1, .int ln), (2, .ref (ad 4)), (5, .int x_15)] → W p l e R9 s m a9 below meth c H locs 0 0 Q9 (F0 m 174 ls [.int x_59, .int v_52])) ?_ (fun hj_60 => ?_)
              · intro x_59 H locs ls i_x_59 hP hS hl
                refine lv_ior hx hb dX0_holds_174 ?_
                refine lv_topi (fun v_61 ev_61 => ?_)
                refine lv_istore (lv' := [(4, .int v_61), (0, .ref la), (1, .int ln), (2, .ref (ad 4)), (5, .int x_15)]) hx hb dX0_holds_175 hl (by decide) rfl (fun ls hl => ?_)
                refine lv_goto (tgt := 231) hx hb dX0_holds_177 (by decide) ?_
                exact hj_105 v_61 _ _ ls  hP hS (lv_sub hl [1, 2, 3, 0, 4] rfl)
              · skip
                refine lv_icmp_ge (tgt := 173) hx hb dX0_holds_166 (by decide) (fun c_54 => ?_) (fun c_54 => ?_)
                · skip
                  have k_55 := Int32.le_iff_toInt_le.mp c_54
                  refine lv_iconst (v := 0) hx hb dX0_holds_173 (by decide) ?_
                  exact hj_60 0 _ _ ls (iv_w (⟨by decide, by decide⟩ : (0 : Int) ≤ (0 : Int32).toInt ∧ (0 : Int32).toInt ≤ 0) (by decide) (by decide)) hP hS (lv_sub hl [1, 2, 3, 5] rfl)
                · skip
                  have i_56 : (-2147483648) ≤ v_29.toInt ∧ v_29.toInt ≤ 2147483646 := iv_lt1 (iv_any v_29) (iv_any v_53) (Int32.not_le.mp c_54)
                  have i_57 : (-2147483647) ≤ v_53.toInt ∧ v_53.toInt ≤ 2147483647 := iv_lt2 (iv_any v_29) (iv_any v_53) (Int32.not_le.mp c_54)
                  have k_58 := Int32.lt_iff_toInt_lt.mp (Int32.not_le.mp c_54)
                  refine lv_iconst (v := 1) hx hb dX0_holds_169 (by decide) ?_
                  refine lv_goto (tgt := 174) hx hb dX0_holds_170 (by decide) ?_
                  exact hj_60 1 _ _ ls (iv_w (⟨by decide, by decide⟩ : (1 : Int) ≤ (1 : Int32).toInt ∧ (1 : Int32).toInt ≤ 1) (by decide) (by decide)) hP hS (lv_sub hl [1, 2, 3, 5] rfl)
            · skip
              refine lv_tableIn (off := 128) (tgt := 180) hx hb dX0_holds_52 (by rw [w_31]; decide) (by rw [w_31]; decide) (by rw [w_31]; rfl) (by decide) ?_
              refine lv_iload hx hb dX0_holds_180 (lv_at hl 4 rfl) ?_
              refine lv_iconst (v := 1) hx hb dX0_holds_182 (by decide) ?_
              refine lv_ishl hx hb dX0_holds_183 ?_
              refine lv_topi (fun v_62 ev_62 => ?_)
              refine lv_iload hx hb dX0_holds_184 (lv_at hl 0 rfl) ?_
              refine lv_aload_n hx hb dX0_holds_186 rfl (lv_at hl 1 rfl) ?_
              refine gL_X0_31 hx hb htg hown (lw_K hL) (lw_now hL hS) dX0_holds_187 ?_
              refine lv_iload hx hb dX0_holds_190 (lv_at hl 5 rfl) ?_
              refine lL_6 hx hb (lw_K hL) (lw_now hL hS) (vp_in_iff.mpr (by omega)) dX0_holds_192 (fun v_63 ev_63 => ?_)
              refine my_cut (P := fun R9 a9 Q9 => ∀ (x_66 : Int32) (H : Heap) (locs : List Loc) (ls : Array Slot), (0 ≤ x_66.toInt ∧ x_66.toInt ≤ 1) → va_P (dC, dI) vwCl (wsX ob ad cA fv wd ar) H → va_S (aX ob ad s.heap.size) s.heap H locs → lv_has ls 7 [(0, .ref la), (1, .int ln), (2, .ref (ad 4)), (5, .int x_15)] → W p l e R9 s m a9 below meth c H locs 0 0 Q9 (F0 m 201 ls [.int x_66, .int v_62])) ?_ (fun hj_67 => ?_)
              · intro x_66 H locs ls i_x_66 hP hS hl
                refine lv_ior hx hb dX0_holds_201 ?_
                refine lv_topi (fun v_68 ev_68 => ?_)
                refine lv_istore (lv' := [(4, .int v_68), (0, .ref la), (1, .int ln), (2, .ref (ad 4)), (5, .int x_15)]) hx hb dX0_holds_202 hl (by decide) rfl (fun ls hl => ?_)
                refine lv_goto (tgt := 231) hx hb dX0_holds_204 (by decide) ?_
                exact hj_105 v_68 _ _ ls  hP hS (lv_sub hl [1, 2, 3, 0, 4] rfl)
              · skip
                refine lv_icmp_ne (tgt := 200) hx hb dX0_holds_193 (by decide) (fun c_64 => ?_) (fun c_64 => ?_)
                · skip
                  refine lv_iconst (v := 0) hx hb dX0_holds_200 (by decide) ?_
                  exact hj_67 0 _ _ ls (iv_w (⟨by decide, by decide⟩ : (0 : Int) ≤ (0 : Int32).toInt ∧ (0 : Int32).toInt ≤ 0) (by decide) (by decide)) hP hS (lv_sub hl [1, 2, 3, 5] rfl)
                · skip
                  have k_65 := congrArg Int32.toInt c_64
                  refine lv_iconst (v := 1) hx hb dX0_holds_196 (by decide) ?_
                  refine lv_goto (tgt := 201) hx hb dX0_holds_197 (by decide) ?_
                  exact hj_67 1 _ _ ls (iv_w (⟨by decide, by decide⟩ : (1 : Int) ≤ (1 : Int32).toInt ∧ (1 : Int32).toInt ≤ 1) (by decide) (by decide)) hP hS (lv_sub hl [1, 2, 3, 5] rfl)
            · skip
              refine lv_tableIn (off := 155) (tgt := 207) hx hb dX0_holds_52 (by rw [w_31]; decide) (by rw [w_31]; decide) (by rw [w_31]; rfl) (by decide) ?_
              refine lv_iload hx hb dX0_holds_207 (lv_at hl 4 rfl) ?_
              refine lv_iconst (v := 1) hx hb dX0_holds_209 (by decide) ?_
              refine lv_ishl hx hb dX0_holds_210 ?_
              refine lv_topi (fun v_69 ev_69 => ?_)
              refine lv_iload hx hb dX0_holds_211 (lv_at hl 0 rfl) ?_
              refine lv_aload_n hx hb dX0_holds_213 rfl (lv_at hl 1 rfl) ?_
              refine gL_X0_31 hx hb htg hown (lw_K hL) (lw_now hL hS) dX0_holds_214 ?_
              refine lv_iload hx hb dX0_holds_217 (lv_at hl 5 rfl) ?_
              refine lL_6 hx hb (lw_K hL) (lw_now hL hS) (vp_in_iff.mpr (by omega)) dX0_holds_219 (fun v_70 ev_70 => ?_)
              refine my_cut (P := fun R9 a9 Q9 => ∀ (x_76 : Int32) (H : Heap) (locs : List Loc) (ls : Array Slot), (0 ≤ x_76.toInt ∧ x_76.toInt ≤ 1) → va_P (dC, dI) vwCl (wsX ob ad cA fv wd ar) H → va_S (aX ob ad s.heap.size) s.heap H locs → lv_has ls 7 [(0, .ref la), (1, .int ln), (2, .ref (ad 4)), (5, .int x_15)] → W p l e R9 s m a9 below meth c H locs 0 0 Q9 (F0 m 228 ls [.int x_76, .int v_69])) ?_ (fun hj_77 => ?_)
              · intro x_76 H locs ls i_x_76 hP hS hl
                refine lv_ior hx hb dX0_holds_228 ?_
                refine lv_topi (fun v_78 ev_78 => ?_)
                refine lv_istore (lv' := [(4, .int v_78), (0, .ref la), (1, .int ln), (2, .ref (ad 4)), (5, .int x_15)]) hx hb dX0_holds_229 hl (by decide) rfl (fun ls hl => ?_)
                exact hj_105 v_78 _ _ ls  hP hS (lv_sub hl [1, 2, 3, 0, 4] rfl)
              · skip
                refine lv_icmp_le (tgt := 227) hx hb dX0_holds_220 (by decide) (fun c_71 => ?_) (fun c_71 => ?_)
                · skip
                  have k_72 := Int32.le_iff_toInt_le.mp c_71
                  refine lv_iconst (v := 0) hx hb dX0_holds_227 (by decide) ?_
                  exact hj_77 0 _ _ ls (iv_w (⟨by decide, by decide⟩ : (0 : Int) ≤ (0 : Int32).toInt ∧ (0 : Int32).toInt ≤ 0) (by decide) (by decide)) hP hS (lv_sub hl [1, 2, 3, 5] rfl)
                · skip
                  have i_73 : (-2147483648) ≤ v_70.toInt ∧ v_70.toInt ≤ 2147483646 := iv_lt1 (iv_any v_70) (iv_any v_29) (Int32.not_le.mp c_71)
                  have i_74 : (-2147483647) ≤ v_29.toInt ∧ v_29.toInt ≤ 2147483647 := iv_lt2 (iv_any v_70) (iv_any v_29) (Int32.not_le.mp c_71)
                  have k_75 := Int32.lt_iff_toInt_lt.mp (Int32.not_le.mp c_71)
                  refine lv_iconst (v := 1) hx hb dX0_holds_223 (by decide) ?_
                  refine lv_goto (tgt := 228) hx hb dX0_holds_224 (by decide) ?_
                  exact hj_77 1 _ _ ls (iv_w (⟨by decide, by decide⟩ : (1 : Int) ≤ (1 : Int32).toInt ∧ (1 : Int32).toInt ≤ 1) (by decide) (by decide)) hP hS (lv_sub hl [1, 2, 3, 5] rfl)
            · skip
              refine lv_tableIn (off := 40) (tgt := 92) hx hb dX0_holds_52 (by rw [w_31]; decide) (by rw [w_31]; decide) (by rw [w_31]; rfl) (by decide) ?_
              refine lv_iload hx hb dX0_holds_92 (lv_at hl 4 rfl) ?_
              refine lv_iconst (v := 1) hx hb dX0_holds_94 (by decide) ?_
              refine lv_ixor hx hb dX0_holds_95 ?_
              refine lv_topi (fun v_79 ev_79 => ?_)
              refine lv_istore (lv' := [(4, .int v_79), (6, .int v_29), (0, .ref la), (1, .int ln), (2, .ref (ad 4)), (5, .int x_15)]) hx hb dX0_holds_96 hl (by decide) rfl (fun ls hl => ?_)
              refine lv_goto (tgt := 231) hx hb dX0_holds_98 (by decide) ?_
              exact hj_105 v_79 _ _ ls  hP hS (lv_sub hl [2, 3, 4, 0, 5] rfl)
            · skip
              refine lv_tableIn (off := 49) (tgt := 101) hx hb dX0_holds_52 (by rw [w_31]; decide) (by rw [w_31]; decide) (by rw [w_31]; rfl) (by decide) ?_
              refine lv_iload hx hb dX0_holds_101 (lv_at hl 4 rfl) ?_
              refine lv_iconst (v := 1) hx hb dX0_holds_103 (by decide) ?_
              refine lv_iand hx hb dX0_holds_104 ?_
              refine lv_topi (fun v_80 ev_80 => ?_)
              have i_81 : 0 ≤ v_80.toInt ∧ v_80.toInt ≤ 1 := iv_1 ev_80
              refine lv_iconst (v := 1) hx hb dX0_holds_105 (by decide) ?_
              refine my_cut (P := fun R9 a9 Q9 => ∀ (x_90 : Int32) (H : Heap) (locs : List Loc) (ls : Array Slot), va_P (dC, dI) vwCl (wsX ob ad cA fv wd ar) H → va_S (aX ob ad s.heap.size) s.heap H locs → lv_has ls 7 [(0, .ref la), (1, .int ln), (2, .ref (ad 4)), (5, .int x_15)] → W p l e R9 s m a9 below meth c H locs 0 0 Q9 (F0 m 122 ls [.int x_90])) ?_ (fun hj_91 => ?_)
              · intro x_90 H locs ls  hP hS hl
                refine lv_istore (lv' := [(4, .int x_90), (0, .ref la), (1, .int ln), (2, .ref (ad 4)), (5, .int x_15)]) hx hb dX0_holds_122 hl (by decide) rfl (fun ls hl => ?_)
                refine lv_goto (tgt := 231) hx hb dX0_holds_124 (by decide) ?_
                exact hj_105 x_90 _ _ ls  hP hS (lv_sub hl [1, 2, 3, 0, 4] rfl)
              · skip
                refine lv_icmp_ne (tgt := 116) hx hb dX0_holds_106 (by decide) (fun c_82 => ?_) (fun c_82 => ?_)
                · skip
                  have i_83 : 0 ≤ v_80.toInt ∧ v_80.toInt ≤ 0 := iv_neh i_81 (by decide) c_82
                  have k_84 : ¬ v_80.toInt = 1 := fun q => c_82 (Int32.toInt_inj.mp q)
                  refine lv_iload hx hb dX0_holds_116 (lv_at hl 4 rfl) ?_
                  refine lv_iconst (v := 2) hx hb dX0_holds_118 (by decide) ?_
                  refine lv_ishr hx hb dX0_holds_119 ?_
                  refine lv_topi (fun v_85 ev_85 => ?_)
                  refine lv_iconst (v := 1) hx hb dX0_holds_120 (by decide) ?_
                  refine lv_ishl hx hb dX0_holds_121 ?_
                  refine lv_topi (fun v_86 ev_86 => ?_)
                  exact hj_91 v_86 _ _ ls  hP hS (lv_sub hl [1, 2, 3, 5] rfl)
                · skip
                  have i_87 : 1 ≤ v_80.toInt ∧ v_80.toInt ≤ 1 := iv_eq1 (⟨by decide, by decide⟩ : (1 : Int) ≤ (1 : Int32).toInt ∧ (1 : Int32).toInt ≤ 1) c_82
                  refine lv_iload hx hb dX0_holds_109 (lv_at hl 4 rfl) ?_
                  refine lv_iconst (v := 1) hx hb dX0_holds_111 (by decide) ?_
                  refine lv_ishr hx hb dX0_holds_112 ?_
                  refine lv_topi (fun v_89 ev_89 => ?_)
                  refine lv_goto (tgt := 122) hx hb dX0_holds_113 (by decide) ?_
                  exact hj_91 v_89 _ _ ls  hP hS (lv_sub hl [1, 2, 3, 5] rfl)
            · skip
              refine lv_tableIn (off := 75) (tgt := 127) hx hb dX0_holds_52 (by rw [w_31]; decide) (by rw [w_31]; decide) (by rw [w_31]; rfl) (by decide) ?_
              refine lv_iload hx hb dX0_holds_127 (lv_at hl 4 rfl) ?_
              refine lv_iconst (v := 1) hx hb dX0_holds_129 (by decide) ?_
              refine lv_iand hx hb dX0_holds_130 ?_
              refine lv_topi (fun v_92 ev_92 => ?_)
              have i_93 : 0 ≤ v_92.toInt ∧ v_92.toInt ≤ 1 := iv_1 ev_92
              refine lv_iconst (v := 1) hx hb dX0_holds_131 (by decide) ?_
              refine my_cut (P := fun R9 a9 Q9 => ∀ (x_102 : Int32) (H : Heap) (locs : List Loc) (ls : Array Slot), va_P (dC, dI) vwCl (wsX ob ad cA fv wd ar) H → va_S (aX ob ad s.heap.size) s.heap H locs → lv_has ls 7 [(0, .ref la), (1, .int ln), (2, .ref (ad 4)), (5, .int x_15)] → W p l e R9 s m a9 below meth c H locs 0 0 Q9 (F0 m 148 ls [.int x_102])) ?_ (fun hj_103 => ?_)
              · intro x_102 H locs ls  hP hS hl
                refine lv_istore (lv' := [(4, .int x_102), (0, .ref la), (1, .int ln), (2, .ref (ad 4)), (5, .int x_15)]) hx hb dX0_holds_148 hl (by decide) rfl (fun ls hl => ?_)
                refine lv_goto (tgt := 231) hx hb dX0_holds_150 (by decide) ?_
                exact hj_105 x_102 _ _ ls  hP hS (lv_sub hl [1, 2, 3, 0, 4] rfl)
              · skip
                refine lv_icmp_ne (tgt := 144) hx hb dX0_holds_132 (by decide) (fun c_94 => ?_) (fun c_94 => ?_)
                · skip
                  have i_95 : 0 ≤ v_92.toInt ∧ v_92.toInt ≤ 0 := iv_neh i_93 (by decide) c_94
                  have k_96 : ¬ v_92.toInt = 1 := fun q => c_94 (Int32.toInt_inj.mp q)
                  refine lv_iload hx hb dX0_holds_144 (lv_at hl 4 rfl) ?_
                  refine lv_iconst (v := 1) hx hb dX0_holds_146 (by decide) ?_
                  refine lv_ishr hx hb dX0_holds_147 ?_
                  refine lv_topi (fun v_97 ev_97 => ?_)
                  exact hj_103 v_97 _ _ ls  hP hS (lv_sub hl [1, 2, 3, 5] rfl)
                · skip
                  have i_98 : 1 ≤ v_92.toInt ∧ v_92.toInt ≤ 1 := iv_eq1 (⟨by decide, by decide⟩ : (1 : Int) ≤ (1 : Int32).toInt ∧ (1 : Int32).toInt ≤ 1) c_94
                  refine lv_iload hx hb dX0_holds_135 (lv_at hl 4 rfl) ?_
                  refine lv_iconst (v := 1) hx hb dX0_holds_137 (by decide) ?_
                  refine lv_ishr hx hb dX0_holds_138 ?_
                  refine lv_topi (fun v_100 ev_100 => ?_)
                  refine lv_iconst (v := 1) hx hb dX0_holds_139 (by decide) ?_
                  refine lv_ior hx hb dX0_holds_140 ?_
                  refine lv_topi (fun v_101 ev_101 => ?_)
                  refine lv_goto (tgt := 148) hx hb dX0_holds_141 (by decide) ?_
                  exact hj_103 v_101 _ _ ls  hP hS (lv_sub hl [1, 2, 3, 5] rfl)
    · skip
      have z_116 : (1 : Int32).toInt = 1 := by decide
      exact hj_18 101 1 x_12 _ _ ls (by first | decide | omega) i_x_12 hP hS (lv_sub hl [3, 4, 5, 1, 0] rfl)
  · skip
    refine lv_if_ne (tgt := 8) hx hb dX0_holds_1 (by decide) (fun c_1 => ?_) (fun c_1 => ?_)
    · skip
      have i_2 : 1 ≤ ln.toInt ∧ ln.toInt ≤ 15 := iv_nel h_ln (by decide) c_1
      have k_3 : ¬ ln.toInt = 0 := fun q => c_1 (Int32.toInt_inj.mp q)
      refine lv_aload_n hx hb dX0_holds_8 rfl (lv_at hl 0 rfl) ?_
      refine gL_X0_22 hx hb htg hown (lw_K hL) (lw_now hL hS) dX0_holds_9 ?_
      refine lv_iload_n hx hb dX0_holds_12 rfl (lv_at hl 1 rfl) ?_
      refine lv_iconst (v := 1) hx hb dX0_holds_13 (by decide) ?_
      refine lv_isub hx hb dX0_holds_14 ?_
      refine lv_topi (fun v_4 ev_4 => ?_)
      have t_5 : v_4.toInt = ln.toInt - 1 ∧ 0 ≤ v_4.toInt ∧ v_4.toInt ≤ 14 := iv_subc ev_4 i_2 (by decide) (by decide) (by decide)
      refine lL_3 hx hb (lw_K hL) (lw_now hL hS) (vp_in_iff.mpr (by omega)) dX0_holds_15 (fun v_7 ev_7 => ?_)
      have i_8 : 0 ≤ v_7.toInt ∧ v_7.toInt ≤ 100 := (by have h9 := (hlq.2.2 v_4.toNatClampNeg).1; rw [← ev_7] at h9; have h8 := hlq.2.1; omega)
      have k_9 : v_7.toInt ≤ lcn := (by have h9 := (hlq.2.2 v_4.toNatClampNeg).1; rw [← ev_7] at h9; exact h9.2)
      exact hj_13 v_7 _ _ ls i_8 hP hS (lv_sub hl [0, 1, 2] rfl)
    · skip
      have i_10 : 0 ≤ ln.toInt ∧ ln.toInt ≤ 0 := iv_eq1 (⟨by decide, by decide⟩ : (0 : Int) ≤ (0 : Int32).toInt ∧ (0 : Int32).toInt ≤ 0) c_1
      refine lv_iconst (v := 0) hx hb dX0_holds_4 (by decide) ?_
      refine lv_goto (tgt := 16) hx hb dX0_holds_5 (by decide) ?_
      exact hj_13 0 _ _ ls (iv_w (⟨by decide, by decide⟩ : (0 : Int) ≤ (0 : Int32).toInt ∧ (0 : Int32).toInt ≤ 0) (by decide) (by decide)) hP hS (lv_sub hl [0, 1, 2] rfl)
set_option maxHeartbeats 4000000 in
set_option maxRecDepth 100000 in
theorem x_lineFor (l : Launch) (dC : Nat → ClassId) (dI : Nat → Nat → Nat) (sz : Nat) (ob ad : Nat → Nat) (cA : Nat → ClassId) (hd : dX ob ad) (fv : Nat → Int32) (wd : xT) (ar : Nat → Nat → Int32) (hF_fv : rX fv) (hA_ar : rB ar) (la : Nat) (lfr : Int32) (lra : Nat → Nat) (lrc : Nat → ClassId) (lln lcn : Nat) (llr : Nat → Nat → Int32) (hlq : lwQ lln lcn llr) (kd : Int32) : Met l yX0_lineFor (.code yX0_lineFor cX0_lineFor 4 (some .int) :: lw_good) ({ frames := 3, cells := 0, slots := 0, locals := 66 }) (va_Pc [.ref la, .int kd, .ref (ad 4)] (fun U => prX dC dI ob ad cA fv wd ar sz U ∧ lwA dC dI ob ad la lfr lra lrc lln lcn llr sz U)) (va_Qi (fun (r : Int32) (u : xS) => rX u.1 ∧ rB u.2.2 ∧ fM [] fv u.1 ∧ fA [] ar u.2.2 ∧ u.2.1.2 = wd.2 ∧ ((-1) ≤ r.toInt ∧ r.toInt ≤ 15) ∧ (r.toInt < lln) ∧ True) (enX dC dI ob ad cA) (aX ob ad sz)) 0 0 (aX ob ad sz) := by
  refine Met.ofW (cc := cX0_lineFor) (maxL := 4) (ret := (some .int)) (by decide) rfl ?_
  intro p e s m args below meth c s₁ B hml hv
  obtain ⟨rfl, ⟨hsz, hP, hK⟩, hL⟩ := hv
  have hx := B.exec
  have hb := B.bytes
  have hr := B.returns
  have hts := atoms_spec (ws := (.code yX0_lineFor cX0_lineFor 4 (some .int) :: lw_good)) B.pre
  have htg : ∀ w ∈ lw_good, w.before _ s = true := fun w hw => hts w (List.mem_cons_of_mem _ hw)
  have hown : s.vm.findClass RX0 = some m.cls := findClass_of_methodNamed B.named
  have hlocks := B.notSynchronized
  subst hsz
  have hS : va_S (aX ob ad s.heap.size) s.heap s.heap [] := va_S.rf
  have hl := lv_entry ([.ref la, .int kd, .ref (ad 4)]) (n := 4) (Nat.le_of_ble_eq_true rfl)
  rw [lg_entry_eq]
  generalize (lg_sl ([.ref la, .int kd, .ref (ad 4)]) ++ List.replicate (4 - (lg_sl ([.ref la, .int kd, .ref (ad 4)])).length) Slot.unset).toArray = ls at hl ⊢
  have hl : lv_has ls 4 [(0, .ref la), (1, .int kd), (2, .ref (ad 4))] := hl
  refine lv_iconst (v := 0) hx hb dX0_lineFor_0 (by decide) ?_
  refine lv_istore_n (lv' := [(3, .int 0), (0, .ref la), (1, .int kd), (2, .ref (ad 4))]) hx hb dX0_lineFor_1 rfl hl (by decide) rfl (fun ls hl => ?_)
  refine my_cut (P := fun R9 a9 Q9 => ∀ (n_8 : Nat) (x_1 : Int32) (fv_2 : Nat → Int32) (ar_4 : Nat → Nat → Int32) (wd_6 : xT) (H : Heap) (locs : List Loc) (ls : Array Slot), 16 - x_1.toInt < (n_8 : Int) → (0 ≤ x_1.toInt ∧ x_1.toInt ≤ 16) → rX fv_2 → fM [] fv fv_2 → rB ar_4 → fA [] ar ar_4 → wd_6.2 = wd.2 → va_P (dC, dI) vwCl (wsX ob ad cA fv_2 wd_6 ar_4) H → va_S (aX ob ad s.heap.size) s.heap H locs → lv_has ls 4 [(0, .ref la), (1, .int kd), (2, .ref (ad 4)), (3, .int x_1)] → W p l e R9 s m a9 below meth c H locs 0 0 Q9 (F0 m 2 ls [])) ?_ (fun hj_10 => ?_)
  · intro n_8
    induction n_8 with
    | zero => intro x_1 fv_2 ar_4 wd_6 H locs ls fu_9 i_x_1 hF_fv_2 fr_3 hA_ar_4 fa_5 wf_7; exfalso; omega
    | succ n_8 ih_8 =>
      intro x_1 fv_2 ar_4 wd_6 H locs ls fu_9 i_x_1 hF_fv_2 fr_3 hA_ar_4 fa_5 wf_7 hP hS hl
      refine lv_iload_n hx hb dX0_lineFor_2 rfl (lv_at hl 3 rfl) ?_
      refine lv_aload_n hx hb dX0_lineFor_3 rfl (lv_at hl 0 rfl) ?_
      refine gL_X0_15 hx hb htg hown (lw_K hL) (lw_now hL hS) dX0_lineFor_4 ?_
      refine nL_1 hx hb (lw_K hL) (lw_now hL hS) dX0_lineFor_7 (fun v_11 ev_11 => ?_)
      have kv_11 : v_11.toInt = lln := by rw [ev_11]; have h8 := hlq.1; have h9 := hlq.2.1; exact nI_toInt (by omega)
      have i_12 : 0 ≤ v_11.toInt ∧ v_11.toInt ≤ 16 := (by have h8 := hlq.1; have h9 := hlq.2.1; omega)
      refine lv_icmp_ge (tgt := 38) hx hb dX0_lineFor_8 (by decide) (fun c_13 => ?_) (fun c_13 => ?_)
      · skip
        have k_14 := Int32.le_iff_toInt_le.mp c_13
        refine lv_iconst (v := (-1)) hx hb dX0_lineFor_38 (by decide) ?_
        have z_15 : ((-1) : Int32).toInt = (-1) := by decide
        exact W.iret (v := (-1)) hx hb hr (fun t ht hW => ⟨⟨(-1), (fv_2, wd_6, ar_4), rfl, ⟨hF_fv_2, hA_ar_4, (fM_call (fM_rf [] _) fr_3 (by decide)), (fA_call (fA_rf [] _) fa_5 (by decide)), wf_7, (iv_w (⟨by decide, by decide⟩ : (-1 : Int) ≤ ((-1) : Int32).toInt ∧ ((-1) : Int32).toInt ≤ -1) (by decide) (by decide)), (show ((-1) : Int32).toInt < lln from by omega), trivial⟩, ⟨by rw [ht]; exact hP, va_K.moved hW.alike hK⟩⟩, hS.F ht⟩) hS.2.2 dX0_lineFor_39
      · skip
        have i_16 : 0 ≤ x_1.toInt ∧ x_1.toInt ≤ 15 := iv_lt1 i_x_1 i_12 (Int32.not_le.mp c_13)
        have i_17 : 1 ≤ v_11.toInt ∧ v_11.toInt ≤ 16 := iv_lt2 i_x_1 i_12 (Int32.not_le.mp c_13)
        have k_18 := Int32.lt_iff_toInt_lt.mp (Int32.not_le.mp c_13)
        refine lv_aload_n hx hb dX0_lineFor_11 rfl (lv_at hl 0 rfl) ?_
        refine gL_X0_15 hx hb htg hown (lw_K hL) (lw_now hL hS) dX0_lineFor_12 ?_
        refine lv_iload_n hx hb dX0_lineFor_15 rfl (lv_at hl 3 rfl) ?_
        refine lL_1 hx hb (lw_K hL) (lw_now hL hS) (vp_in_iff.mpr (by omega)) dX0_lineFor_16 (fun v_19 ev_19 => ?_)
        refine lv_iload_n hx hb dX0_lineFor_17 rfl (lv_at hl 1 rfl) ?_
        refine lv_icmp_ne (tgt := 32) hx hb dX0_lineFor_18 (by decide) (fun c_20 => ?_) (fun c_20 => ?_)
        · skip
          obtain ⟨v_21, ev_21⟩ : ∃ z : Int32, z = x_1 + 1 := ⟨_, rfl⟩
          refine lv_iinc (v := v_21) (lv' := [(3, .int v_21), (0, .ref la), (1, .int kd), (2, .ref (ad 4))]) hx hb dX0_lineFor_32 hl (k := 3) rfl (by rw [ev_21]; rfl) (by decide) rfl (fun ls hl => ?_)
          have t_22 : v_21.toInt = x_1.toInt + 1 ∧ 1 ≤ v_21.toInt ∧ v_21.toInt ≤ 16 := iv_addc ev_21 i_16 (by decide) (by decide) (by decide)
          refine lv_goto (tgt := 2) hx hb dX0_lineFor_35 (by decide) ?_
          exact ih_8 v_21 fv_2 ar_4 wd_6 _ _ ls (by omega) (iv_w t_22.2 (by decide) (by decide)) hF_fv_2 (fM_call (fM_rf [] _) fr_3 (by decide)) hA_ar_4 (fA_call (fA_rf [] _) fa_5 (by decide)) wf_7 hP hS (lv_sub hl [1, 2, 3, 0] rfl)
        · skip
          have k_24 := congrArg Int32.toInt c_20
          refine lv_aload_n hx hb dX0_lineFor_21 rfl (lv_at hl 0 rfl) ?_
          refine lv_iload_n hx hb dX0_lineFor_22 rfl (lv_at hl 3 rfl) ?_
          refine lv_aload_n hx hb dX0_lineFor_23 rfl (lv_at hl 2 rfl) ?_
          refine va_calli (va_runV (As := [.int x_1, .ref (ad 4)]) (rest := []) ⟨hx, hb, hml, hown, hts⟩ (x_holds l dC dI H.size ob ad cA hd fv_2 wd_6 ar_4 hF_fv_2 hA_ar_4 la lfr lra lrc lln lcn llr hlq x_1 i_16 (by omega)) (cwV 2 hts (gV kw_5_34 kw_5_36 kw_p_20 kw_1_10 kw_5_37) rfl rfl rfl (by decide +kernel) ⟨Nat.le_of_ble_eq_true rfl, Nat.le_of_ble_eq_true rfl⟩) ⟨fun a U g mk q => ⟨q.1, ⟨q.2.1.1, q.2.1.2.1, va_K.moved (u := U) (U := U.calling g mk a) (Vm.Alike.refl U.vm) q.2.1.2.2⟩, ⟨q.2.2.1, va_K.moved (u := U) (U := U.calling g mk a) (Vm.Alike.refl U.vm) q.2.2.2.1, q.2.2.2.2⟩⟩, va_recv (lw_K hL) (lw_now hL hS) (ci := 1) (q0 := 0) rfl rfl, fun U hU hW => ⟨rfl, ⟨by rw [hU], by rw [hU]; exact hP, va_K.moved hW.alike hK⟩, lw_pass hL hS hU hW.alike⟩⟩ rfl rfl hl.1 rfl (lv_room (Nat.le_of_ble_eq_true rfl)) dX0_lineFor_24 ⟨Nat.le_of_ble_eq_true rfl, Nat.le_of_ble_eq_true rfl⟩) hS (fun q _ h9 => aX_up hS q h9) (aX_up hS) (fun r_25 u t H1 locs ht _ hw hB _ hk1 hS => ?_)
          obtain ⟨fv_27, wd_28, ar_29⟩ := u
          obtain ⟨hF_fv_27, hA_ar_29, fr_30, fa_31, wf_32, p_26, -⟩ := hw
          have wf_32 : wd_28.2 = wd_6.2 := wf_32
          have hP : va_P (dC, dI) vwCl (wsX ob ad cA fv_27 wd_28 ar_29) H1 := by have h9 := hB.1; rw [ht] at h9; exact h9
          have fr_30 : fM [] fv_2 fv_27 := fr_30
          have fa_31 : fA [] ar_4 ar_29 := fa_31
          generalize H1 = H at hP hS ⊢
          refine lv_if_eq (tgt := 32) hx hb dX0_lineFor_27 (by decide) (fun c_33 => ?_) (fun c_33 => ?_)
          · skip
            have i_34 : 0 ≤ r_25.toInt ∧ r_25.toInt ≤ 0 := iv_eq1 (⟨by decide, by decide⟩ : (0 : Int) ≤ (0 : Int32).toInt ∧ (0 : Int32).toInt ≤ 0) c_33
            obtain ⟨v_36, ev_36⟩ : ∃ z : Int32, z = x_1 + 1 := ⟨_, rfl⟩
            refine lv_iinc (v := v_36) (lv' := [(3, .int v_36), (0, .ref la), (1, .int kd), (2, .ref (ad 4))]) hx hb dX0_lineFor_32 hl (k := 3) rfl (by rw [ev_36]; rfl) (by decide) rfl (fun ls hl => ?_)
            have t_37 : v_36.toInt = x_1.toInt + 1 ∧ 1 ≤ v_36.toInt ∧ v_36.toInt ≤ 16 := iv_addc ev_36 i_16 (by decide) (by decide) (by decide)
            refine lv_goto (tgt := 2) hx hb dX0_lineFor_35 (by decide) ?_
            exact ih_8 v_36 fv_27 ar_29 wd_28 _ _ ls (by omega) (iv_w t_37.2 (by decide) (by decide)) hF_fv_27 (fM_call (fM_call (fM_rf [] _) fr_3 (by decide)) fr_30 (by decide)) hA_ar_29 (fA_call (fA_call (fA_rf [] _) fa_5 (by decide)) fa_31 (by decide)) (wf_32.trans wf_7) hP hS (lv_sub hl [1, 2, 3, 0] rfl)
          · skip
            have i_39 : 1 ≤ r_25.toInt ∧ r_25.toInt ≤ 1 := iv_nel p_26 (by decide) c_33
            have k_40 : ¬ r_25.toInt = 0 := fun q => c_33 (Int32.toInt_inj.mp q)
            refine lv_iload_n hx hb dX0_lineFor_30 rfl (lv_at hl 3 rfl) ?_
            exact W.iret (v := x_1) hx hb hr (fun t ht hW => ⟨⟨x_1, (fv_27, wd_28, ar_29), rfl, ⟨hF_fv_27, hA_ar_29, (fM_call (fM_call (fM_rf [] _) fr_3 (by decide)) fr_30 (by decide)), (fA_call (fA_call (fA_rf [] _) fa_5 (by decide)) fa_31 (by decide)), (wf_32.trans wf_7), (iv_w i_16 (by decide) (by decide)), (show x_1.toInt < lln from by omega), trivial⟩, ⟨by rw [ht]; exact hP, va_K.moved hW.alike hK⟩⟩, hS.F ht⟩) hS.2.2 dX0_lineFor_31
  · skip
    have z_41 : (0 : Int32).toInt = 0 := by decide
    exact hj_10 17 0 fv ar wd _ _ ls (by first | decide | omega) (iv_w (⟨by decide, by decide⟩ : (0 : Int) ≤ (0 : Int32).toInt ∧ (0 : Int32).toInt ≤ 0) (by decide) (by decide)) hF_fv (fM_rf [] _) hA_ar (fA_rf [] _) rfl hP hS (lv_sub hl [1, 2, 3, 0] rfl)
set_option maxHeartbeats 4000000 in
set_option maxRecDepth 100000 in
theorem x_settle (l : Launch) (dC : Nat → ClassId) (dI : Nat → Nat → Nat) (sz : Nat) (ob ad : Nat → Nat) (cA : Nat → ClassId) (hd : dX ob ad) (fv : Nat → Int32) (wd : xT) (ar : Nat → Nat → Int32) (hF_fv : rX fv) (hA_ar : rB ar) (la : Nat) (lfr : Int32) (lra : Nat → Nat) (lrc : Nat → ClassId) (lln lcn : Nat) (llr : Nat → Nat → Int32) (hlq : lwQ lln lcn llr) (hlr : wd.2.2.1 = la) : Met l yX1_settle (.code yX1_settle cX1_settle 4 none :: lw_good) ({ frames := 4, cells := 0, slots := 0, locals := 89 }) (va_Pc [.ref (ob 8)] (fun U => prX dC dI ob ad cA fv wd ar sz U ∧ lwA dC dI ob ad la lfr lra lrc lln lcn llr sz U)) (va_Qv (fun (u : xS) => rX u.1 ∧ rB u.2.2 ∧ fM [8] fv u.1 ∧ fA [12, 13, 15, 16, 17, 18, 19, 24, 25, 26, 27, 35] ar u.2.2 ∧ u.2.1.2 = wd.2 ∧ True) (enX dC dI ob ad cA) (aX ob ad sz)) 0 0 (aX ob ad sz) := by
  refine Met.ofW (cc := cX1_settle) (maxL := 4) (ret := none) (by decide) rfl ?_
  intro p e s m args below meth c s₁ B hml hv
  obtain ⟨rfl, ⟨hsz, hP, hK⟩, hL⟩ := hv
  have hx := B.exec
  have hb := B.bytes
  have hr := B.returns
  have hts := atoms_spec (ws := (.code yX1_settle cX1_settle 4 none :: lw_good)) B.pre
  have htg : ∀ w ∈ lw_good, w.before _ s = true := fun w hw => hts w (List.mem_cons_of_mem _ hw)
  have hown : s.vm.findClass RX1 = some m.cls := findClass_of_methodNamed B.named
  have hlocks := B.notSynchronized
  subst hsz
  have hS : va_S (aX ob ad s.heap.size) s.heap s.heap [] := va_S.rf
  have hl := lv_entry ([.ref (ob 8)]) (n := 4) (Nat.le_of_ble_eq_true rfl)
  rw [lg_entry_eq]
  generalize (lg_sl ([.ref (ob 8)]) ++ List.replicate (4 - (lg_sl ([.ref (ob 8)])).length) Slot.unset).toArray = ls at hl ⊢
  have hl : lv_has ls 4 [(0, .ref (ob 8))] := hl
  refine lv_aload_n hx hb dX1_settle_0 rfl (lv_at hl 0 rfl) ?_
  refine gX_X1_9 hx hb htg hown hK hP dX1_settle_1 ?_
  refine lv_aload_n hx hb dX1_settle_4 rfl (lv_at hl 0 rfl) ?_
  refine gX_X1_93 hx hb htg hown hK hP dX1_settle_5 ?_
  refine pX_X1_90 hx hb htg hown hK hP hS hd dX1_settle_8 (fun H locs fv_1 efv_1 hP hS => ?_)
  have hF_fv_1 : rX fv_1 := rX_put hF_fv efv_1 (iv_any (fv 23))
  refine lv_aload_n hx hb dX1_settle_11 rfl (lv_at hl 0 rfl) ?_
  refine gX_X1_30 hx hb htg hown hK hP dX1_settle_12 ?_
  refine my_tr (w := la) (hlr) ?_
  refine lv_bipush (v := 6) hx hb dX1_settle_15 (by decide) ?_
  refine lv_aload_n hx hb dX1_settle_17 rfl (lv_at hl 0 rfl) ?_
  refine gX_X1_9 hx hb htg hown hK hP dX1_settle_18 ?_
  refine gX_X1_281 hx hb htg hown hK hP dX1_settle_21 ?_
  refine va_calli (va_runV (As := [.int 6, .ref (ad 4)]) (rest := []) ⟨hx, hb, hml, hown, hts⟩ (x_lineFor l dC dI H.size ob ad cA hd fv_1 wd ar hF_fv_1 hA_ar la lfr lra lrc lln lcn llr hlq 6) (cwV 2 hts (gV kw_5_215 kw_5_31 kw_5_32 kw_1_10 kw_5_33) rfl rfl rfl (by decide +kernel) ⟨Nat.le_of_ble_eq_true rfl, Nat.le_of_ble_eq_true rfl⟩) ⟨fun a U g mk q => ⟨q.1, ⟨q.2.1.1, q.2.1.2.1, va_K.moved (u := U) (U := U.calling g mk a) (Vm.Alike.refl U.vm) q.2.1.2.2⟩, ⟨q.2.2.1, va_K.moved (u := U) (U := U.calling g mk a) (Vm.Alike.refl U.vm) q.2.2.2.1, q.2.2.2.2⟩⟩, va_recv (lw_K hL) (lw_now hL hS) (ci := 1) (q0 := 0) rfl rfl, fun U hU hW => ⟨rfl, ⟨by rw [hU], by rw [hU]; exact hP, va_K.moved hW.alike hK⟩, lw_pass hL hS hU hW.alike⟩⟩ rfl rfl hl.1 rfl (lv_room (Nat.le_of_ble_eq_true rfl)) dX1_settle_24 ⟨Nat.le_of_ble_eq_true rfl, Nat.le_of_ble_eq_true rfl⟩) hS (fun q _ h9 => aX_up hS q h9) (aX_up hS) (fun r_2 u t H1 locs ht _ hw hB _ hk1 hS => ?_)
  obtain ⟨fv_5, wd_6, ar_7⟩ := u
  obtain ⟨hF_fv_5, hA_ar_7, fr_8, fa_9, wf_10, p_3, p_4, -⟩ := hw
  have wf_10 : wd_6.2 = wd.2 := wf_10
  have hP : va_P (dC, dI) vwCl (wsX ob ad cA fv_5 wd_6 ar_7) H1 := by have h9 := hB.1; rw [ht] at h9; exact h9
  have fr_8 : fM [] fv_1 fv_5 := fr_8
  have fa_9 : fA [] ar ar_7 := fa_9
  have p_4 : r_2.toInt < lln := p_4
  generalize H1 = H at hP hS ⊢
  refine lv_istore_n (lv' := [(1, .int r_2), (0, .ref (ob 8))]) hx hb dX1_settle_27 rfl hl (by decide) rfl (fun ls hl => ?_)
  refine lv_iload_n hx hb dX1_settle_28 rfl (lv_at hl 0 rfl) ?_
  refine lv_iconst (v := (-1)) hx hb dX1_settle_29 (by decide) ?_
  refine my_cut (P := fun R9 a9 Q9 => ∀ (x_17 : Int32) (H : Heap) (locs : List Loc) (ls : Array Slot), va_P (dC, dI) vwCl (wsX ob ad cA fv_5 wd_6 ar_7) H → va_S (aX ob ad s.heap.size) s.heap H locs → lv_has ls 4 [(0, .ref (ob 8))] → W p l e R9 s m a9 below meth c H locs 0 0 Q9 (F0 m 46 ls [.int x_17])) ?_ (fun hj_18 => ?_)
  · intro x_17 H locs ls  hP hS hl
    refine lv_istore_n (lv' := [(2, .int x_17), (0, .ref (ob 8))]) hx hb dX1_settle_46 rfl hl (by decide) rfl (fun ls hl => ?_)
    refine lv_iconst (v := 0) hx hb dX1_settle_47 (by decide) ?_
    refine lv_istore_n (lv' := [(3, .int 0), (2, .int x_17), (0, .ref (ob 8))]) hx hb dX1_settle_48 rfl hl (by decide) rfl (fun ls hl => ?_)
    refine my_cut (P := fun R9 a9 Q9 => ∀ (n_26 : Nat) (x_19 : Int32) (fv_20 : Nat → Int32) (ar_22 : Nat → Nat → Int32) (wd_24 : xT) (H : Heap) (locs : List Loc) (ls : Array Slot), 40 - x_19.toInt < (n_26 : Int) → (0 ≤ x_19.toInt ∧ x_19.toInt ≤ 40) → rX fv_20 → fM [] fv_5 fv_20 → rB ar_22 → fA [12, 13, 15, 16, 17, 18, 19] ar_7 ar_22 → wd_24.2 = wd_6.2 → va_P (dC, dI) vwCl (wsX ob ad cA fv_20 wd_24 ar_22) H → va_S (aX ob ad s.heap.size) s.heap H locs → lv_has ls 4 [(0, .ref (ob 8)), (2, .int x_17), (3, .int x_19)] → W p l e R9 s m a9 below meth c H locs 0 0 Q9 (F0 m 49 ls [])) ?_ (fun hj_28 => ?_)
    · intro n_26
      induction n_26 with
      | zero => intro x_19 fv_20 ar_22 wd_24 H locs ls fu_27 i_x_19 hF_fv_20 fr_21 hA_ar_22 fa_23 wf_25; exfalso; omega
      | succ n_26 ih_26 =>
        intro x_19 fv_20 ar_22 wd_24 H locs ls fu_27 i_x_19 hF_fv_20 fr_21 hA_ar_22 fa_23 wf_25 hP hS hl
        refine lv_iload_n hx hb dX1_settle_49 rfl (lv_at hl 2 rfl) ?_
        refine lv_aload_n hx hb dX1_settle_50 rfl (lv_at hl 0 rfl) ?_
        refine gX_X1_9 hx hb htg hown hK hP dX1_settle_51 ?_
        refine gX_X1_129 hx hb htg hown hK hP dX1_settle_54 ?_
        refine gX_X1_133 hx hb htg hown hK hP dX1_settle_57 ?_
        refine my_ti (y := fv 10) ((fr_21 10 rfl).trans ((fr_8 10 rfl).trans ((congrFun efv_1 10)))) ?_
        have i_29 : 0 ≤ (fv 10).toInt ∧ (fv 10).toInt ≤ 40 := hF_fv 10
        refine lv_icmp_ge (tgt := 75) hx hb dX1_settle_60 (by decide) (fun c_30 => ?_) (fun c_30 => ?_)
        · skip
          have k_31 := Int32.le_iff_toInt_le.mp c_30
          refine lv_iconst (v := 0) hx hb dX1_settle_75 (by decide) ?_
          refine lv_istore_n (lv' := [(3, .int 0), (0, .ref (ob 8)), (2, .int x_17)]) hx hb dX1_settle_76 rfl hl (by decide) rfl (fun ls hl => ?_)
          refine my_cut (P := fun R9 a9 Q9 => ∀ (n_48 : Nat) (x_45 : Int32) (ar_46 : Nat → Nat → Int32) (H : Heap) (locs : List Loc) (ls : Array Slot), 20 - x_45.toInt < (n_48 : Int) → (0 ≤ x_45.toInt ∧ x_45.toInt ≤ 20) → rB ar_46 → fA [24, 25, 26, 27] ar_22 ar_46 → va_P (dC, dI) vwCl (wsX ob ad cA fv_20 wd_24 ar_46) H → va_S (aX ob ad s.heap.size) s.heap H locs → lv_has ls 4 [(0, .ref (ob 8)), (3, .int x_45)] → W p l e R9 s m a9 below meth c H locs 0 0 Q9 (F0 m 77 ls [])) ?_ (fun hj_50 => ?_)
          · intro n_48
            induction n_48 with
            | zero => intro x_45 ar_46 H locs ls fu_49 i_x_45 hA_ar_46 fa_47; exfalso; omega
            | succ n_48 ih_48 =>
              intro x_45 ar_46 H locs ls fu_49 i_x_45 hA_ar_46 fa_47 hP hS hl
              refine lv_iload_n hx hb dX1_settle_77 rfl (lv_at hl 1 rfl) ?_
              refine lv_aload_n hx hb dX1_settle_78 rfl (lv_at hl 0 rfl) ?_
              refine gX_X1_9 hx hb htg hown hK hP dX1_settle_79 ?_
              refine gX_X1_148 hx hb htg hown hK hP dX1_settle_82 ?_
              refine gX_X1_152 hx hb htg hown hK hP dX1_settle_85 ?_
              refine my_ti (y := fv 11) ((fr_21 11 rfl).trans ((fr_8 11 rfl).trans ((congrFun efv_1 11)))) ?_
              have i_51 : 0 ≤ (fv 11).toInt ∧ (fv 11).toInt ≤ 20 := hF_fv 11
              refine lv_icmp_ge (tgt := 169) hx hb dX1_settle_88 (by decide) (fun c_52 => ?_) (fun c_52 => ?_)
              · skip
                have k_53 := Int32.le_iff_toInt_le.mp c_52
                refine lv_iconst (v := 0) hx hb dX1_settle_169 (by decide) ?_
                refine lv_istore_n (lv' := [(3, .int 0), (0, .ref (ob 8))]) hx hb dX1_settle_170 rfl hl (by decide) rfl (fun ls hl => ?_)
                refine my_cut (P := fun R9 a9 Q9 => ∀ (n_72 : Nat) (x_69 : Int32) (ar_70 : Nat → Nat → Int32) (H : Heap) (locs : List Loc) (ls : Array Slot), 80 - x_69.toInt < (n_72 : Int) → (0 ≤ x_69.toInt ∧ x_69.toInt ≤ 80) → rB ar_70 → fA [35] ar_46 ar_70 → va_P (dC, dI) vwCl (wsX ob ad cA fv_20 wd_24 ar_70) H → va_S (aX ob ad s.heap.size) s.heap H locs → lv_has ls 4 [(0, .ref (ob 8)), (3, .int x_69)] → W p l e R9 s m a9 below meth c H locs 0 0 Q9 (F0 m 171 ls [])) ?_ (fun hj_74 => ?_)
                · intro n_72
                  induction n_72 with
                  | zero => intro x_69 ar_70 H locs ls fu_73 i_x_69 hA_ar_70 fa_71; exfalso; omega
                  | succ n_72 ih_72 =>
                    intro x_69 ar_70 H locs ls fu_73 i_x_69 hA_ar_70 fa_71 hP hS hl
                    refine lv_iload_n hx hb dX1_settle_171 rfl (lv_at hl 1 rfl) ?_
                    refine lv_aload_n hx hb dX1_settle_172 rfl (lv_at hl 0 rfl) ?_
                    refine gX_X1_9 hx hb htg hown hK hP dX1_settle_173 ?_
                    refine gX_X1_157 hx hb htg hown hK hP dX1_settle_176 ?_
                    refine gX_X1_161 hx hb htg hown hK hP dX1_settle_179 ?_
                    refine my_ti (y := fv 12) ((fr_21 12 rfl).trans ((fr_8 12 rfl).trans ((congrFun efv_1 12)))) ?_
                    have i_75 : 0 ≤ (fv 12).toInt ∧ (fv 12).toInt ≤ 80 := hF_fv 12
                    refine lv_icmp_ge (tgt := 209) hx hb dX1_settle_182 (by decide) (fun c_76 => ?_) (fun c_76 => ?_)
                    · skip
                      have k_77 := Int32.le_iff_toInt_le.mp c_76
                      exact W.vret hx hb hr (fun t ht hW => ⟨⟨(fv_20, wd_24, ar_70), rfl, ⟨hF_fv_20, hA_ar_70, (fM_call (fM_call (fM_put (fM_rf [8] _) efv_1 (by decide)) fr_8 (by decide)) fr_21 (by decide)), (fA_call (fA_call (fA_call (fA_call (fA_rf [12, 13, 15, 16, 17, 18, 19, 24, 25, 26, 27, 35] _) fa_9 (by decide)) fa_23 (by decide)) fa_47 (by decide)) fa_71 (by decide)), (wf_25.trans wf_10), trivial⟩, ⟨by rw [ht]; exact hP, va_K.moved hW.alike hK⟩⟩, hS.F ht⟩) hS.2.2 dX1_settle_209
                    · skip
                      have i_78 : 0 ≤ x_69.toInt ∧ x_69.toInt ≤ 79 := iv_lt1 i_x_69 i_75 (Int32.not_le.mp c_76)
                      have i_79 : 1 ≤ (fv 12).toInt ∧ (fv 12).toInt ≤ 80 := iv_lt2 i_x_69 i_75 (Int32.not_le.mp c_76)
                      have k_80 := Int32.lt_iff_toInt_lt.mp (Int32.not_le.mp c_76)
                      refine lv_aload_n hx hb dX1_settle_185 rfl (lv_at hl 0 rfl) ?_
                      refine gX_X1_9 hx hb htg hown hK hP dX1_settle_186 ?_
                      refine gX_X1_157 hx hb htg hown hK hP dX1_settle_189 ?_
                      refine gX_X1_297 hx hb htg hown hK hP dX1_settle_192 ?_
                      refine lv_iload_n hx hb dX1_settle_195 rfl (lv_at hl 1 rfl) ?_
                      refine lv_aload_n hx hb dX1_settle_196 rfl (lv_at hl 0 rfl) ?_
                      refine gX_X1_76 hx hb htg hown hK hP dX1_settle_197 ?_
                      refine lv_iload_n hx hb dX1_settle_200 rfl (lv_at hl 1 rfl) ?_
                      refine lX_56 hx hb hK hP (iv_in i_78 (by decide) (by decide)) dX1_settle_201 (fun v_81 ev_81 => ?_)
                      refine sX_35 hx hb hK hP hS hd (iv_in i_78 (by decide) (by decide)) dX1_settle_202 (fun H locs ar_82 ear_82 hP hS => ?_)
                      have hA_ar_82 : rB ar_82 := rB_put hA_ar_70 ear_82 (iv_any _)
                      obtain ⟨v_83, ev_83⟩ : ∃ z : Int32, z = x_69 + 1 := ⟨_, rfl⟩
                      refine lv_iinc (v := v_83) (lv' := [(3, .int v_83), (0, .ref (ob 8))]) hx hb dX1_settle_203 hl (k := 1) rfl (by rw [ev_83]; rfl) (by decide) rfl (fun ls hl => ?_)
                      have t_84 : v_83.toInt = x_69.toInt + 1 ∧ 1 ≤ v_83.toInt ∧ v_83.toInt ≤ 80 := iv_addc ev_83 i_78 (by decide) (by decide) (by decide)
                      refine lv_goto (tgt := 171) hx hb dX1_settle_206 (by decide) ?_
                      exact ih_72 v_83 ar_82 _ _ ls (by omega) (iv_w t_84.2 (by decide) (by decide)) hA_ar_82 (fA_put (fA_call (fA_rf [35] _) fa_71 (by decide)) ear_82 (by decide)) hP hS (lv_sub hl [1, 0] rfl)
                · skip
                  have z_86 : (0 : Int32).toInt = 0 := by decide
                  exact hj_74 81 0 ar_46 _ _ ls (by first | decide | omega) (iv_w (⟨by decide, by decide⟩ : (0 : Int) ≤ (0 : Int32).toInt ∧ (0 : Int32).toInt ≤ 0) (by decide) (by decide)) hA_ar_46 (fA_rf [35] _) hP hS (lv_sub hl [1, 0] rfl)
              · skip
                have i_54 : 0 ≤ x_45.toInt ∧ x_45.toInt ≤ 19 := iv_lt1 i_x_45 i_51 (Int32.not_le.mp c_52)
                have i_55 : 1 ≤ (fv 11).toInt ∧ (fv 11).toInt ≤ 20 := iv_lt2 i_x_45 i_51 (Int32.not_le.mp c_52)
                have k_56 := Int32.lt_iff_toInt_lt.mp (Int32.not_le.mp c_52)
                refine lv_aload_n hx hb dX1_settle_91 rfl (lv_at hl 0 rfl) ?_
                refine gX_X1_9 hx hb htg hown hK hP dX1_settle_92 ?_
                refine gX_X1_148 hx hb htg hown hK hP dX1_settle_95 ?_
                refine gX_X1_153 hx hb htg hown hK hP dX1_settle_98 ?_
                refine lv_iload_n hx hb dX1_settle_101 rfl (lv_at hl 1 rfl) ?_
                refine lv_aload_n hx hb dX1_settle_102 rfl (lv_at hl 0 rfl) ?_
                refine gX_X1_59 hx hb htg hown hK hP dX1_settle_103 ?_
                refine lv_iload_n hx hb dX1_settle_106 rfl (lv_at hl 1 rfl) ?_
                refine lX_51 hx hb hK hP (iv_in i_54 (by decide) (by decide)) dX1_settle_107 (fun v_57 ev_57 => ?_)
                refine sX_24 hx hb hK hP hS hd (iv_in i_54 (by decide) (by decide)) dX1_settle_108 (fun H locs ar_58 ear_58 hP hS => ?_)
                have hA_ar_58 : rB ar_58 := rB_put hA_ar_46 ear_58 (iv_any _)
                refine lv_aload_n hx hb dX1_settle_109 rfl (lv_at hl 0 rfl) ?_
                refine gX_X1_9 hx hb htg hown hK hP dX1_settle_110 ?_
                refine gX_X1_148 hx hb htg hown hK hP dX1_settle_113 ?_
                refine gX_X1_294 hx hb htg hown hK hP dX1_settle_116 ?_
                refine lv_iload_n hx hb dX1_settle_119 rfl (lv_at hl 1 rfl) ?_
                refine lv_aload_n hx hb dX1_settle_120 rfl (lv_at hl 0 rfl) ?_
                refine gX_X1_62 hx hb htg hown hK hP dX1_settle_121 ?_
                refine lv_iload_n hx hb dX1_settle_124 rfl (lv_at hl 1 rfl) ?_
                refine lX_52 hx hb hK hP (iv_in i_54 (by decide) (by decide)) dX1_settle_125 (fun v_59 ev_59 => ?_)
                refine sX_25 hx hb hK hP hS hd (iv_in i_54 (by decide) (by decide)) dX1_settle_126 (fun H locs ar_60 ear_60 hP hS => ?_)
                have hA_ar_60 : rB ar_60 := rB_put hA_ar_58 ear_60 (iv_any _)
                refine lv_aload_n hx hb dX1_settle_127 rfl (lv_at hl 0 rfl) ?_
                refine gX_X1_9 hx hb htg hown hK hP dX1_settle_128 ?_
                refine gX_X1_148 hx hb htg hown hK hP dX1_settle_131 ?_
                refine gX_X1_295 hx hb htg hown hK hP dX1_settle_134 ?_
                refine lv_iload_n hx hb dX1_settle_137 rfl (lv_at hl 1 rfl) ?_
                refine lv_aload_n hx hb dX1_settle_138 rfl (lv_at hl 0 rfl) ?_
                refine gX_X1_65 hx hb htg hown hK hP dX1_settle_139 ?_
                refine lv_iload_n hx hb dX1_settle_142 rfl (lv_at hl 1 rfl) ?_
                refine lX_53 hx hb hK hP (iv_in i_54 (by decide) (by decide)) dX1_settle_143 (fun v_61 ev_61 => ?_)
                refine sX_26 hx hb hK hP hS hd (iv_in i_54 (by decide) (by decide)) dX1_settle_144 (fun H locs ar_62 ear_62 hP hS => ?_)
                have hA_ar_62 : rB ar_62 := rB_put hA_ar_60 ear_62 (iv_any _)
                refine lv_aload_n hx hb dX1_settle_145 rfl (lv_at hl 0 rfl) ?_
                refine gX_X1_9 hx hb htg hown hK hP dX1_settle_146 ?_
                refine gX_X1_148 hx hb htg hown hK hP dX1_settle_149 ?_
                refine gX_X1_296 hx hb htg hown hK hP dX1_settle_152 ?_
                refine lv_iload_n hx hb dX1_settle_155 rfl (lv_at hl 1 rfl) ?_
                refine lv_aload_n hx hb dX1_settle_156 rfl (lv_at hl 0 rfl) ?_
                refine gX_X1_68 hx hb htg hown hK hP dX1_settle_157 ?_
                refine lv_iload_n hx hb dX1_settle_160 rfl (lv_at hl 1 rfl) ?_
                refine lX_54 hx hb hK hP (iv_in i_54 (by decide) (by decide)) dX1_settle_161 (fun v_63 ev_63 => ?_)
                have i_64 : 0 ≤ v_63.toInt ∧ v_63.toInt ≤ 7 := ev_63 ▸ hA_ar_62 54 _
                refine sX_27 hx hb hK hP hS hd (iv_in i_54 (by decide) (by decide)) dX1_settle_162 (fun H locs ar_65 ear_65 hP hS => ?_)
                have hA_ar_65 : rB ar_65 := rB_put hA_ar_62 ear_65 (iv_any _)
                obtain ⟨v_66, ev_66⟩ : ∃ z : Int32, z = x_45 + 1 := ⟨_, rfl⟩
                refine lv_iinc (v := v_66) (lv' := [(3, .int v_66), (0, .ref (ob 8))]) hx hb dX1_settle_163 hl (k := 1) rfl (by rw [ev_66]; rfl) (by decide) rfl (fun ls hl => ?_)
                have t_67 : v_66.toInt = x_45.toInt + 1 ∧ 1 ≤ v_66.toInt ∧ v_66.toInt ≤ 20 := iv_addc ev_66 i_54 (by decide) (by decide) (by decide)
                refine lv_goto (tgt := 77) hx hb dX1_settle_166 (by decide) ?_
                exact ih_48 v_66 ar_65 _ _ ls (by omega) (iv_w t_67.2 (by decide) (by decide)) hA_ar_65 (fA_put (fA_put (fA_put (fA_put (fA_call (fA_rf [24, 25, 26, 27] _) fa_47 (by decide)) ear_58 (by decide)) ear_60 (by decide)) ear_62 (by decide)) ear_65 (by decide)) hP hS (lv_sub hl [1, 0] rfl)
          · skip
            have z_87 : (0 : Int32).toInt = 0 := by decide
            exact hj_50 21 0 ar_22 _ _ ls (by first | decide | omega) (iv_w (⟨by decide, by decide⟩ : (0 : Int) ≤ (0 : Int32).toInt ∧ (0 : Int32).toInt ≤ 0) (by decide) (by decide)) hA_ar_22 (fA_rf [24, 25, 26, 27] _) hP hS (lv_sub hl [1, 0] rfl)
        · skip
          have i_32 : 0 ≤ x_19.toInt ∧ x_19.toInt ≤ 39 := iv_lt1 i_x_19 i_29 (Int32.not_le.mp c_30)
          have i_33 : 1 ≤ (fv 10).toInt ∧ (fv 10).toInt ≤ 40 := iv_lt2 i_x_19 i_29 (Int32.not_le.mp c_30)
          have k_34 := Int32.lt_iff_toInt_lt.mp (Int32.not_le.mp c_30)
          refine lv_aload_n hx hb dX1_settle_63 rfl (lv_at hl 0 rfl) ?_
          refine lv_iload_n hx hb dX1_settle_64 rfl (lv_at hl 2 rfl) ?_
          refine lv_iload_n hx hb dX1_settle_65 rfl (lv_at hl 1 rfl) ?_
          refine va_callv (va_runV (As := [.int x_19, .int x_17]) (rest := []) ⟨hx, hb, hml, hown, hts⟩ (x_settlePerson l dC dI H.size ob ad cA hd fv_20 wd_24 ar_22 hF_fv_20 hA_ar_22 x_19 x_17 i_32) (cwV 2 hts (gV kw_5_216 kw_5_218 kw_p_46 kw_1_12 kw_5_219) rfl rfl rfl (by decide +kernel) ⟨Nat.le_of_ble_eq_true rfl, Nat.le_of_ble_eq_true rfl⟩) ⟨fun a U g mk q => ⟨q.1, q.2.1, q.2.2.1, va_K.moved (u := U) (U := U.calling g mk a) (Vm.Alike.refl U.vm) q.2.2.2⟩, va_recv hK hP (ci := 2) (q0 := 8) rfl rfl, fun U hU hW => ⟨rfl, by rw [hU], by rw [hU]; exact hP, va_K.moved hW.alike hK⟩⟩ rfl rfl hl.1 rfl (lv_room (Nat.le_of_ble_eq_true rfl)) dX1_settle_66 ⟨Nat.le_of_ble_eq_true rfl, Nat.le_of_ble_eq_true rfl⟩) hS (fun q _ h9 => aX_up hS q h9) (aX_up hS) (fun u t H1 locs ht _ hw hB _ hk1 hS => ?_)
          obtain ⟨fv_36, wd_37, ar_38⟩ := u
          obtain ⟨hF_fv_36, hA_ar_38, fr_39, fa_40, wf_41, -⟩ := hw
          have wf_41 : wd_37.2 = wd_24.2 := wf_41
          have hP : va_P (dC, dI) vwCl (wsX ob ad cA fv_36 wd_37 ar_38) H1 := by have h9 := hB.1; rw [ht] at h9; exact h9
          have fr_39 : fM [] fv_20 fv_36 := fr_39
          have fa_40 : fA [12, 13, 15, 16, 17, 18, 19] ar_22 ar_38 := fa_40
          generalize H1 = H at hP hS ⊢
          obtain ⟨v_42, ev_42⟩ : ∃ z : Int32, z = x_19 + 1 := ⟨_, rfl⟩
          refine lv_iinc (v := v_42) (lv' := [(3, .int v_42), (0, .ref (ob 8)), (2, .int x_17)]) hx hb dX1_settle_69 hl (k := 2) rfl (by rw [ev_42]; rfl) (by decide) rfl (fun ls hl => ?_)
          have t_43 : v_42.toInt = x_19.toInt + 1 ∧ 1 ≤ v_42.toInt ∧ v_42.toInt ≤ 40 := iv_addc ev_42 i_32 (by decide) (by decide) (by decide)
          refine lv_goto (tgt := 49) hx hb dX1_settle_72 (by decide) ?_
          exact ih_26 v_42 fv_36 ar_38 wd_37 _ _ ls (by omega) (iv_w t_43.2 (by decide) (by decide)) hF_fv_36 (fM_call (fM_call (fM_rf [] _) fr_21 (by decide)) fr_39 (by decide)) hA_ar_38 (fA_call (fA_call (fA_rf [12, 13, 15, 16, 17, 18, 19] _) fa_23 (by decide)) fa_40 (by decide)) (wf_41.trans wf_25) hP hS (lv_sub hl [1, 2, 0] rfl)
    · skip
      have z_88 : (0 : Int32).toInt = 0 := by decide
      exact hj_28 41 0 fv_5 ar_7 wd_6 _ _ ls (by first | decide | omega) (iv_w (⟨by decide, by decide⟩ : (0 : Int) ≤ (0 : Int32).toInt ∧ (0 : Int32).toInt ≤ 0) (by decide) (by decide)) hF_fv_5 (fM_rf [] _) hA_ar_7 (fA_rf [12, 13, 15, 16, 17, 18, 19] _) rfl hP hS (lv_sub hl [2, 1, 0] rfl)
  · skip
    refine lv_icmp_ne (tgt := 37) hx hb dX1_settle_30 (by decide) (fun c_11 => ?_) (fun c_11 => ?_)
    · skip
      have i_12 : 0 ≤ r_2.toInt ∧ r_2.toInt ≤ 15 := iv_nel p_3 (by decide) c_11
      have k_13 : ¬ r_2.toInt = (-1) := fun q => c_11 (Int32.toInt_inj.mp q)
      refine lv_aload_n hx hb dX1_settle_37 rfl (lv_at hl 1 rfl) ?_
      refine gX_X1_30 hx hb htg hown hK hP dX1_settle_38 ?_
      refine my_tr (w := la) ((congrArg (fun z => z.2.1) wf_10).trans hlr) ?_
      refine gL_X1_288 hx hb htg hown (lw_K hL) (lw_now hL hS) dX1_settle_41 ?_
      refine lv_iload_n hx hb dX1_settle_44 rfl (lv_at hl 0 rfl) ?_
      refine lL_2 hx hb (lw_K hL) (lw_now hL hS) (vp_in_iff.mpr (by omega)) dX1_settle_45 (fun v_14 ev_14 => ?_)
      exact hj_18 v_14 _ _ ls  hP hS (lv_sub hl [1] rfl)
    · skip
      have i_15 : (-1) ≤ r_2.toInt ∧ r_2.toInt ≤ (-1) := iv_eq1 (⟨by decide, by decide⟩ : (-1 : Int) ≤ ((-1) : Int32).toInt ∧ ((-1) : Int32).toInt ≤ -1) c_11
      refine lv_iconst (v := 0) hx hb dX1_settle_33 (by decide) ?_
      refine lv_goto (tgt := 46) hx hb dX1_settle_34 (by decide) ?_
      exact hj_18 0 _ _ ls  hP hS (lv_sub hl [1] rfl)

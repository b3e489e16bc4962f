theorem dX12_readCond_0 : decode cX12_readCond 0 = .ok (.aload_n 0, 1) := by decide +kernel
theorem dX12_readCond_1 : decode cX12_readCond 1 = .ok (.iconst 0, 1) := by decide +kernel
theorem dX12_readCond_2 : decode cX12_readCond 2 = .ok (.putfield 340, 3) := by decide +kernel
theorem dX12_readCond_5 : decode cX12_readCond 5 = .ok (.aload_n 0, 1) := by decide +kernel
theorem dX12_readCond_6 : decode cX12_readCond 6 = .ok (.invokevirtual 372, 3) := by decide +kernel
theorem dX12_readCond_9 : decode cX12_readCond 9 = .ok (.ifCond .ne 5, 3) := by decide +kernel
theorem dX12_readCond_12 : decode cX12_readCond 12 = .ok (.iconst 0, 1) := by decide +kernel
theorem dX12_readCond_13 : decode cX12_readCond 13 = .ok (.ireturn, 1) := by decide +kernel
theorem dX12_readCond_14 : decode cX12_readCond 14 = .ok (.aload_n 0, 1) := by decide +kernel
theorem dX12_readCond_15 : decode cX12_readCond 15 = .ok (.bipush 41, 2) := by decide +kernel
theorem dX12_readCond_17 : decode cX12_readCond 17 = .ok (.invokevirtual 354, 3) := by decide +kernel
theorem dX12_readCond_20 : decode cX12_readCond 20 = .ok (.ifCond .eq 49, 3) := by decide +kernel
theorem dX12_readCond_23 : decode cX12_readCond 23 = .ok (.aload_n 0, 1) := by decide +kernel
theorem dX12_readCond_24 : decode cX12_readCond 24 = .ok (.invokevirtual 375, 3) := by decide +kernel
theorem dX12_readCond_27 : decode cX12_readCond 27 = .ok (.ifCond .eq 42, 3) := by decide +kernel
theorem dX12_readCond_30 : decode cX12_readCond 30 = .ok (.aload_n 0, 1) := by decide +kernel
theorem dX12_readCond_31 : decode cX12_readCond 31 = .ok (.bipush 13, 2) := by decide +kernel
theorem dX12_readCond_33 : decode cX12_readCond 33 = .ok (.bipush 14, 2) := by decide +kernel
theorem dX12_readCond_35 : decode cX12_readCond 35 = .ok (.invokevirtual 378, 3) := by decide +kernel
theorem dX12_readCond_38 : decode cX12_readCond 38 = .ok (.aload_n 0, 1) := by decide +kernel
theorem dX12_readCond_39 : decode cX12_readCond 39 = .ok (.dup, 1) := by decide +kernel
theorem dX12_readCond_40 : decode cX12_readCond 40 = .ok (.getfield 340, 3) := by decide +kernel
theorem dX12_readCond_43 : decode cX12_readCond 43 = .ok (.iconst 1, 1) := by decide +kernel
theorem dX12_readCond_44 : decode cX12_readCond 44 = .ok (.isub, 1) := by decide +kernel
theorem dX12_readCond_45 : decode cX12_readCond 45 = .ok (.putfield 340, 3) := by decide +kernel
theorem dX12_readCond_48 : decode cX12_readCond 48 = .ok (.aload_n 0, 1) := by decide +kernel
theorem dX12_readCond_49 : decode cX12_readCond 49 = .ok (.dup, 1) := by decide +kernel
theorem dX12_readCond_50 : decode cX12_readCond 50 = .ok (.getfield 363, 3) := by decide +kernel
theorem dX12_readCond_53 : decode cX12_readCond 53 = .ok (.iconst 1, 1) := by decide +kernel
theorem dX12_readCond_54 : decode cX12_readCond 54 = .ok (.isub, 1) := by decide +kernel
theorem dX12_readCond_55 : decode cX12_readCond 55 = .ok (.putfield 363, 3) := by decide +kernel
theorem dX12_readCond_58 : decode cX12_readCond 58 = .ok (.aload_n 0, 1) := by decide +kernel
theorem dX12_readCond_59 : decode cX12_readCond 59 = .ok (.invokevirtual 366, 3) := by decide +kernel
theorem dX12_readCond_62 : decode cX12_readCond 62 = .ok (.aload_n 0, 1) := by decide +kernel
theorem dX12_readCond_63 : decode cX12_readCond 63 = .ok (.invokevirtual 369, 3) := by decide +kernel
theorem dX12_readCond_66 : decode cX12_readCond 66 = .ok (.goto (-52), 3) := by decide +kernel
theorem dX12_readCond_69 : decode cX12_readCond 69 = .ok (.aload_n 0, 1) := by decide +kernel
theorem dX12_readCond_70 : decode cX12_readCond 70 = .ok (.bipush 97, 2) := by decide +kernel
theorem dX12_readCond_72 : decode cX12_readCond 72 = .ok (.bipush 110, 2) := by decide +kernel
theorem dX12_readCond_74 : decode cX12_readCond 74 = .ok (.bipush 100, 2) := by decide +kernel
theorem dX12_readCond_76 : decode cX12_readCond 76 = .ok (.iconst 0, 1) := by decide +kernel
theorem dX12_readCond_77 : decode cX12_readCond 77 = .ok (.iconst 0, 1) := by decide +kernel
theorem dX12_readCond_78 : decode cX12_readCond 78 = .ok (.invokestatic 323, 3) := by decide +kernel
theorem dX12_readCond_81 : decode cX12_readCond 81 = .ok (.invokevirtual 327, 3) := by decide +kernel
theorem dX12_readCond_84 : decode cX12_readCond 84 = .ok (.istore_n 1, 1) := by decide +kernel
theorem dX12_readCond_85 : decode cX12_readCond 85 = .ok (.iload_n 1, 1) := by decide +kernel
theorem dX12_readCond_86 : decode cX12_readCond 86 = .ok (.ifCond .ne 43, 3) := by decide +kernel
theorem dX12_readCond_89 : decode cX12_readCond 89 = .ok (.aload_n 0, 1) := by decide +kernel
theorem dX12_readCond_90 : decode cX12_readCond 90 = .ok (.bipush 111, 2) := by decide +kernel
theorem dX12_readCond_92 : decode cX12_readCond 92 = .ok (.bipush 114, 2) := by decide +kernel
theorem dX12_readCond_94 : decode cX12_readCond 94 = .ok (.iconst 0, 1) := by decide +kernel
theorem dX12_readCond_95 : decode cX12_readCond 95 = .ok (.iconst 0, 1) := by decide +kernel
theorem dX12_readCond_96 : decode cX12_readCond 96 = .ok (.iconst 0, 1) := by decide +kernel
theorem dX12_readCond_97 : decode cX12_readCond 97 = .ok (.invokestatic 323, 3) := by decide +kernel
theorem dX12_readCond_100 : decode cX12_readCond 100 = .ok (.invokevirtual 327, 3) := by decide +kernel
theorem dX12_readCond_103 : decode cX12_readCond 103 = .ok (.ifCond .ne 26, 3) := by decide +kernel
theorem dX12_readCond_106 : decode cX12_readCond 106 = .ok (.aload_n 0, 1) := by decide +kernel
theorem dX12_readCond_107 : decode cX12_readCond 107 = .ok (.invokevirtual 375, 3) := by decide +kernel
theorem dX12_readCond_110 : decode cX12_readCond 110 = .ok (.ifCond .eq 9, 3) := by decide +kernel
theorem dX12_readCond_113 : decode cX12_readCond 113 = .ok (.aload_n 0, 1) := by decide +kernel
theorem dX12_readCond_114 : decode cX12_readCond 114 = .ok (.iconst 1, 1) := by decide +kernel
theorem dX12_readCond_115 : decode cX12_readCond 115 = .ok (.invokevirtual 357, 3) := by decide +kernel
theorem dX12_readCond_118 : decode cX12_readCond 118 = .ok (.ireturn, 1) := by decide +kernel
theorem dX12_readCond_119 : decode cX12_readCond 119 = .ok (.aload_n 0, 1) := by decide +kernel
theorem dX12_readCond_120 : decode cX12_readCond 120 = .ok (.bipush 13, 2) := by decide +kernel
theorem dX12_readCond_122 : decode cX12_readCond 122 = .ok (.bipush 14, 2) := by decide +kernel
theorem dX12_readCond_124 : decode cX12_readCond 124 = .ok (.invokevirtual 378, 3) := by decide +kernel
theorem dX12_readCond_127 : decode cX12_readCond 127 = .ok (.iconst 1, 1) := by decide +kernel
theorem dX12_readCond_128 : decode cX12_readCond 128 = .ok (.ireturn, 1) := by decide +kernel
theorem dX12_readCond_129 : decode cX12_readCond 129 = .ok (.aload_n 0, 1) := by decide +kernel
theorem dX12_readCond_130 : decode cX12_readCond 130 = .ok (.bipush 13, 2) := by decide +kernel
theorem dX12_readCond_132 : decode cX12_readCond 132 = .ok (.iload_n 1, 1) := by decide +kernel
theorem dX12_readCond_133 : decode cX12_readCond 133 = .ok (.ifCond .eq 8, 3) := by decide +kernel
theorem dX12_readCond_136 : decode cX12_readCond 136 = .ok (.bipush 13, 2) := by decide +kernel
theorem dX12_readCond_138 : decode cX12_readCond 138 = .ok (.goto 5, 3) := by decide +kernel
theorem dX12_readCond_141 : decode cX12_readCond 141 = .ok (.bipush 14, 2) := by decide +kernel
theorem dX12_readCond_143 : decode cX12_readCond 143 = .ok (.invokevirtual 378, 3) := by decide +kernel
theorem dX12_readCond_146 : decode cX12_readCond 146 = .ok (.aload_n 0, 1) := by decide +kernel
theorem dX12_readCond_147 : decode cX12_readCond 147 = .ok (.getfield 118, 3) := by decide +kernel
theorem dX12_readCond_150 : decode cX12_readCond 150 = .ok (.aload_n 0, 1) := by decide +kernel
theorem dX12_readCond_151 : decode cX12_readCond 151 = .ok (.getfield 340, 3) := by decide +kernel
theorem dX12_readCond_154 : decode cX12_readCond 154 = .ok (.iload_n 1, 1) := by decide +kernel
theorem dX12_readCond_155 : decode cX12_readCond 155 = .ok (.ifCond .eq 8, 3) := by decide +kernel
theorem dX12_readCond_158 : decode cX12_readCond 158 = .ok (.bipush 13, 2) := by decide +kernel
theorem dX12_readCond_160 : decode cX12_readCond 160 = .ok (.goto 5, 3) := by decide +kernel
theorem dX12_readCond_163 : decode cX12_readCond 163 = .ok (.bipush 14, 2) := by decide +kernel
theorem dX12_readCond_165 : decode cX12_readCond 165 = .ok (.iastore, 1) := by decide +kernel
theorem dX12_readCond_166 : decode cX12_readCond 166 = .ok (.aload_n 0, 1) := by decide +kernel
theorem dX12_readCond_167 : decode cX12_readCond 167 = .ok (.dup, 1) := by decide +kernel
theorem dX12_readCond_168 : decode cX12_readCond 168 = .ok (.getfield 340, 3) := by decide +kernel
theorem dX12_readCond_171 : decode cX12_readCond 171 = .ok (.iconst 1, 1) := by decide +kernel
theorem dX12_readCond_172 : decode cX12_readCond 172 = .ok (.iadd, 1) := by decide +kernel
theorem dX12_readCond_173 : decode cX12_readCond 173 = .ok (.putfield 340, 3) := by decide +kernel
theorem dX12_readCond_176 : decode cX12_readCond 176 = .ok (.aload_n 0, 1) := by decide +kernel
theorem dX12_readCond_177 : decode cX12_readCond 177 = .ok (.invokevirtual 366, 3) := by decide +kernel
theorem dX12_readCond_180 : decode cX12_readCond 180 = .ok (.goto (-175), 3) := by decide +kernel

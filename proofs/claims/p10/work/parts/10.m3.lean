theorem dX12_ask_0 : decode cX12_ask 0 = .ok (.aload_n 0, 1) := by decide +kernel
theorem dX12_ask_1 : decode cX12_ask 1 = .ok (.getfield 67, 3) := by decide +kernel
theorem dX12_ask_4 : decode cX12_ask 4 = .ok (.iload_n 1, 1) := by decide +kernel
theorem dX12_ask_5 : decode cX12_ask 5 = .ok (.iaload, 1) := by decide +kernel
theorem dX12_ask_6 : decode cX12_ask 6 = .ok (.istore 4, 2) := by decide +kernel
theorem dX12_ask_8 : decode cX12_ask 8 = .ok (.aload_n 0, 1) := by decide +kernel
theorem dX12_ask_9 : decode cX12_ask 9 = .ok (.getfield 121, 3) := by decide +kernel
theorem dX12_ask_12 : decode cX12_ask 12 = .ok (.iconst 4, 1) := by decide +kernel
theorem dX12_ask_13 : decode cX12_ask 13 = .ok (.iload_n 2, 1) := by decide +kernel
theorem dX12_ask_14 : decode cX12_ask 14 = .ok (.iastore, 1) := by decide +kernel
theorem dX12_ask_15 : decode cX12_ask 15 = .ok (.aload_n 0, 1) := by decide +kernel
theorem dX12_ask_16 : decode cX12_ask 16 = .ok (.getfield 121, 3) := by decide +kernel
theorem dX12_ask_19 : decode cX12_ask 19 = .ok (.iconst 5, 1) := by decide +kernel
theorem dX12_ask_20 : decode cX12_ask 20 = .ok (.aload_n 0, 1) := by decide +kernel
theorem dX12_ask_21 : decode cX12_ask 21 = .ok (.getfield 58, 3) := by decide +kernel
theorem dX12_ask_24 : decode cX12_ask 24 = .ok (.iload 4, 2) := by decide +kernel
theorem dX12_ask_26 : decode cX12_ask 26 = .ok (.iaload, 1) := by decide +kernel
theorem dX12_ask_27 : decode cX12_ask 27 = .ok (.iastore, 1) := by decide +kernel
theorem dX12_ask_28 : decode cX12_ask 28 = .ok (.aload_n 0, 1) := by decide +kernel
theorem dX12_ask_29 : decode cX12_ask 29 = .ok (.getfield 121, 3) := by decide +kernel
theorem dX12_ask_32 : decode cX12_ask 32 = .ok (.bipush 6, 2) := by decide +kernel
theorem dX12_ask_34 : decode cX12_ask 34 = .ok (.aload_n 0, 1) := by decide +kernel
theorem dX12_ask_35 : decode cX12_ask 35 = .ok (.aload_n 0, 1) := by decide +kernel
theorem dX12_ask_36 : decode cX12_ask 36 = .ok (.getfield 218, 3) := by decide +kernel
theorem dX12_ask_39 : decode cX12_ask 39 = .ok (.invokevirtual 250, 3) := by decide +kernel
theorem dX12_ask_42 : decode cX12_ask 42 = .ok (.iastore, 1) := by decide +kernel
theorem dX12_ask_43 : decode cX12_ask 43 = .ok (.aload_n 0, 1) := by decide +kernel
theorem dX12_ask_44 : decode cX12_ask 44 = .ok (.getfield 121, 3) := by decide +kernel
theorem dX12_ask_47 : decode cX12_ask 47 = .ok (.bipush 7, 2) := by decide +kernel
theorem dX12_ask_49 : decode cX12_ask 49 = .ok (.aload_n 0, 1) := by decide +kernel
theorem dX12_ask_50 : decode cX12_ask 50 = .ok (.getfield 76, 3) := by decide +kernel
theorem dX12_ask_53 : decode cX12_ask 53 = .ok (.iload_n 1, 1) := by decide +kernel
theorem dX12_ask_54 : decode cX12_ask 54 = .ok (.iaload, 1) := by decide +kernel
theorem dX12_ask_55 : decode cX12_ask 55 = .ok (.iastore, 1) := by decide +kernel
theorem dX12_ask_56 : decode cX12_ask 56 = .ok (.aload_n 0, 1) := by decide +kernel
theorem dX12_ask_57 : decode cX12_ask 57 = .ok (.getfield 121, 3) := by decide +kernel
theorem dX12_ask_60 : decode cX12_ask 60 = .ok (.bipush 8, 2) := by decide +kernel
theorem dX12_ask_62 : decode cX12_ask 62 = .ok (.aload_n 0, 1) := by decide +kernel
theorem dX12_ask_63 : decode cX12_ask 63 = .ok (.getfield 218, 3) := by decide +kernel
theorem dX12_ask_66 : decode cX12_ask 66 = .ok (.iastore, 1) := by decide +kernel
theorem dX12_ask_67 : decode cX12_ask 67 = .ok (.aload_n 0, 1) := by decide +kernel
theorem dX12_ask_68 : decode cX12_ask 68 = .ok (.getfield 121, 3) := by decide +kernel
theorem dX12_ask_71 : decode cX12_ask 71 = .ok (.bipush 9, 2) := by decide +kernel
theorem dX12_ask_73 : decode cX12_ask 73 = .ok (.aload_n 0, 1) := by decide +kernel
theorem dX12_ask_74 : decode cX12_ask 74 = .ok (.getfield 70, 3) := by decide +kernel
theorem dX12_ask_77 : decode cX12_ask 77 = .ok (.iload_n 1, 1) := by decide +kernel
theorem dX12_ask_78 : decode cX12_ask 78 = .ok (.iaload, 1) := by decide +kernel
theorem dX12_ask_79 : decode cX12_ask 79 = .ok (.iastore, 1) := by decide +kernel
theorem dX12_ask_80 : decode cX12_ask 80 = .ok (.aload_n 0, 1) := by decide +kernel
theorem dX12_ask_81 : decode cX12_ask 81 = .ok (.getfield 121, 3) := by decide +kernel
theorem dX12_ask_84 : decode cX12_ask 84 = .ok (.bipush 10, 2) := by decide +kernel
theorem dX12_ask_86 : decode cX12_ask 86 = .ok (.aload_n 0, 1) := by decide +kernel
theorem dX12_ask_87 : decode cX12_ask 87 = .ok (.getfield 73, 3) := by decide +kernel
theorem dX12_ask_90 : decode cX12_ask 90 = .ok (.iload_n 1, 1) := by decide +kernel
theorem dX12_ask_91 : decode cX12_ask 91 = .ok (.iaload, 1) := by decide +kernel
theorem dX12_ask_92 : decode cX12_ask 92 = .ok (.iastore, 1) := by decide +kernel
theorem dX12_ask_93 : decode cX12_ask 93 = .ok (.aload_n 0, 1) := by decide +kernel
theorem dX12_ask_94 : decode cX12_ask 94 = .ok (.getfield 121, 3) := by decide +kernel
theorem dX12_ask_97 : decode cX12_ask 97 = .ok (.bipush 11, 2) := by decide +kernel
theorem dX12_ask_99 : decode cX12_ask 99 = .ok (.iload_n 3, 1) := by decide +kernel
theorem dX12_ask_100 : decode cX12_ask 100 = .ok (.iastore, 1) := by decide +kernel
theorem dX12_ask_101 : decode cX12_ask 101 = .ok (.aload_n 0, 1) := by decide +kernel
theorem dX12_ask_102 : decode cX12_ask 102 = .ok (.getfield 121, 3) := by decide +kernel
theorem dX12_ask_105 : decode cX12_ask 105 = .ok (.iconst 3, 1) := by decide +kernel
theorem dX12_ask_106 : decode cX12_ask 106 = .ok (.aload_n 0, 1) := by decide +kernel
theorem dX12_ask_107 : decode cX12_ask 107 = .ok (.getfield 218, 3) := by decide +kernel
theorem dX12_ask_110 : decode cX12_ask 110 = .ok (.aload_n 0, 1) := by decide +kernel
theorem dX12_ask_111 : decode cX12_ask 111 = .ok (.getfield 61, 3) := by decide +kernel
theorem dX12_ask_114 : decode cX12_ask 114 = .ok (.iload 4, 2) := by decide +kernel
theorem dX12_ask_116 : decode cX12_ask 116 = .ok (.iaload, 1) := by decide +kernel
theorem dX12_ask_117 : decode cX12_ask 117 = .ok (.if_icmp .gt 7, 3) := by decide +kernel
theorem dX12_ask_120 : decode cX12_ask 120 = .ok (.iconst 1, 1) := by decide +kernel
theorem dX12_ask_121 : decode cX12_ask 121 = .ok (.goto 4, 3) := by decide +kernel
theorem dX12_ask_124 : decode cX12_ask 124 = .ok (.iconst 0, 1) := by decide +kernel
theorem dX12_ask_125 : decode cX12_ask 125 = .ok (.iastore, 1) := by decide +kernel
theorem dX12_ask_126 : decode cX12_ask 126 = .ok (.iconst 0, 1) := by decide +kernel
theorem dX12_ask_127 : decode cX12_ask 127 = .ok (.istore 5, 2) := by decide +kernel
theorem dX12_ask_129 : decode cX12_ask 129 = .ok (.iload 5, 2) := by decide +kernel
theorem dX12_ask_131 : decode cX12_ask 131 = .ok (.iconst 2, 1) := by decide +kernel
theorem dX12_ask_132 : decode cX12_ask 132 = .ok (.if_icmp .gt 33, 3) := by decide +kernel
theorem dX12_ask_135 : decode cX12_ask 135 = .ok (.aload_n 0, 1) := by decide +kernel
theorem dX12_ask_136 : decode cX12_ask 136 = .ok (.getfield 121, 3) := by decide +kernel
theorem dX12_ask_139 : decode cX12_ask 139 = .ok (.iload 5, 2) := by decide +kernel
theorem dX12_ask_141 : decode cX12_ask 141 = .ok (.aload_n 0, 1) := by decide +kernel
theorem dX12_ask_142 : decode cX12_ask 142 = .ok (.getfield 52, 3) := by decide +kernel
theorem dX12_ask_145 : decode cX12_ask 145 = .ok (.iload 4, 2) := by decide +kernel
theorem dX12_ask_147 : decode cX12_ask 147 = .ok (.iaload, 1) := by decide +kernel
theorem dX12_ask_148 : decode cX12_ask 148 = .ok (.iload 5, 2) := by decide +kernel
theorem dX12_ask_150 : decode cX12_ask 150 = .ok (.if_icmp .ne 7, 3) := by decide +kernel
theorem dX12_ask_153 : decode cX12_ask 153 = .ok (.iconst 1, 1) := by decide +kernel
theorem dX12_ask_154 : decode cX12_ask 154 = .ok (.goto 4, 3) := by decide +kernel
theorem dX12_ask_157 : decode cX12_ask 157 = .ok (.iconst 0, 1) := by decide +kernel
theorem dX12_ask_158 : decode cX12_ask 158 = .ok (.iastore, 1) := by decide +kernel
theorem dX12_ask_159 : decode cX12_ask 159 = .ok (.iinc 5 1, 3) := by decide +kernel
theorem dX12_ask_162 : decode cX12_ask 162 = .ok (.goto (-33), 3) := by decide +kernel
theorem dX12_ask_165 : decode cX12_ask 165 = .ok (.return_, 1) := by decide +kernel
theorem dX12_bylawNow_0 : decode cX12_bylawNow 0 = .ok (.iconst (-1), 1) := by decide +kernel
theorem dX12_bylawNow_1 : decode cX12_bylawNow 1 = .ok (.istore_n 1, 1) := by decide +kernel
theorem dX12_bylawNow_2 : decode cX12_bylawNow 2 = .ok (.iconst 0, 1) := by decide +kernel
theorem dX12_bylawNow_3 : decode cX12_bylawNow 3 = .ok (.istore_n 2, 1) := by decide +kernel
theorem dX12_bylawNow_4 : decode cX12_bylawNow 4 = .ok (.iload_n 2, 1) := by decide +kernel
theorem dX12_bylawNow_5 : decode cX12_bylawNow 5 = .ok (.aload_n 0, 1) := by decide +kernel
theorem dX12_bylawNow_6 : decode cX12_bylawNow 6 = .ok (.getfield 394, 3) := by decide +kernel
theorem dX12_bylawNow_9 : decode cX12_bylawNow 9 = .ok (.if_icmp .ge 44, 3) := by decide +kernel
theorem dX12_bylawNow_12 : decode cX12_bylawNow 12 = .ok (.aload_n 0, 1) := by decide +kernel
theorem dX12_bylawNow_13 : decode cX12_bylawNow 13 = .ok (.getfield 94, 3) := by decide +kernel
theorem dX12_bylawNow_16 : decode cX12_bylawNow 16 = .ok (.iload_n 2, 1) := by decide +kernel
theorem dX12_bylawNow_17 : decode cX12_bylawNow 17 = .ok (.iaload, 1) := by decide +kernel
theorem dX12_bylawNow_18 : decode cX12_bylawNow 18 = .ok (.aload_n 0, 1) := by decide +kernel
theorem dX12_bylawNow_19 : decode cX12_bylawNow 19 = .ok (.getfield 218, 3) := by decide +kernel
theorem dX12_bylawNow_22 : decode cX12_bylawNow 22 = .ok (.if_icmp .gt 25, 3) := by decide +kernel
theorem dX12_bylawNow_25 : decode cX12_bylawNow 25 = .ok (.iload_n 1, 1) := by decide +kernel
theorem dX12_bylawNow_26 : decode cX12_bylawNow 26 = .ok (.iconst (-1), 1) := by decide +kernel
theorem dX12_bylawNow_27 : decode cX12_bylawNow 27 = .ok (.if_icmp .eq 18, 3) := by decide +kernel
theorem dX12_bylawNow_30 : decode cX12_bylawNow 30 = .ok (.aload_n 0, 1) := by decide +kernel
theorem dX12_bylawNow_31 : decode cX12_bylawNow 31 = .ok (.getfield 94, 3) := by decide +kernel
theorem dX12_bylawNow_34 : decode cX12_bylawNow 34 = .ok (.iload_n 2, 1) := by decide +kernel
theorem dX12_bylawNow_35 : decode cX12_bylawNow 35 = .ok (.iaload, 1) := by decide +kernel
theorem dX12_bylawNow_36 : decode cX12_bylawNow 36 = .ok (.aload_n 0, 1) := by decide +kernel
theorem dX12_bylawNow_37 : decode cX12_bylawNow 37 = .ok (.getfield 94, 3) := by decide +kernel
theorem dX12_bylawNow_40 : decode cX12_bylawNow 40 = .ok (.iload_n 1, 1) := by decide +kernel
theorem dX12_bylawNow_41 : decode cX12_bylawNow 41 = .ok (.iaload, 1) := by decide +kernel
theorem dX12_bylawNow_42 : decode cX12_bylawNow 42 = .ok (.if_icmp .lt 5, 3) := by decide +kernel
theorem dX12_bylawNow_45 : decode cX12_bylawNow 45 = .ok (.iload_n 2, 1) := by decide +kernel
theorem dX12_bylawNow_46 : decode cX12_bylawNow 46 = .ok (.istore_n 1, 1) := by decide +kernel
theorem dX12_bylawNow_47 : decode cX12_bylawNow 47 = .ok (.iinc 2 1, 3) := by decide +kernel
theorem dX12_bylawNow_50 : decode cX12_bylawNow 50 = .ok (.goto (-46), 3) := by decide +kernel
theorem dX12_bylawNow_53 : decode cX12_bylawNow 53 = .ok (.iload_n 1, 1) := by decide +kernel
theorem dX12_bylawNow_54 : decode cX12_bylawNow 54 = .ok (.ireturn, 1) := by decide +kernel
theorem dX12_drive_0 : decode cX12_drive 0 = .ok (.aload_n 0, 1) := by decide +kernel
theorem dX12_drive_1 : decode cX12_drive 1 = .ok (.getfield 67, 3) := by decide +kernel
theorem dX12_drive_4 : decode cX12_drive 4 = .ok (.iload_n 1, 1) := by decide +kernel
theorem dX12_drive_5 : decode cX12_drive 5 = .ok (.iaload, 1) := by decide +kernel
theorem dX12_drive_6 : decode cX12_drive 6 = .ok (.istore_n 2, 1) := by decide +kernel
theorem dX12_drive_7 : decode cX12_drive 7 = .ok (.aload_n 0, 1) := by decide +kernel
theorem dX12_drive_8 : decode cX12_drive 8 = .ok (.getfield 52, 3) := by decide +kernel
theorem dX12_drive_11 : decode cX12_drive 11 = .ok (.iload_n 2, 1) := by decide +kernel
theorem dX12_drive_12 : decode cX12_drive 12 = .ok (.iaload, 1) := by decide +kernel
theorem dX12_drive_13 : decode cX12_drive 13 = .ok (.iconst 1, 1) := by decide +kernel
theorem dX12_drive_14 : decode cX12_drive 14 = .ok (.if_icmp .ne 7, 3) := by decide +kernel
theorem dX12_drive_17 : decode cX12_drive 17 = .ok (.iconst 4, 1) := by decide +kernel
theorem dX12_drive_18 : decode cX12_drive 18 = .ok (.goto 4, 3) := by decide +kernel
theorem dX12_drive_21 : decode cX12_drive 21 = .ok (.iconst 3, 1) := by decide +kernel
theorem dX12_drive_22 : decode cX12_drive 22 = .ok (.istore_n 3, 1) := by decide +kernel
theorem dX12_drive_23 : decode cX12_drive 23 = .ok (.aload_n 0, 1) := by decide +kernel
theorem dX12_drive_24 : decode cX12_drive 24 = .ok (.getfield 52, 3) := by decide +kernel
theorem dX12_drive_27 : decode cX12_drive 27 = .ok (.iload_n 2, 1) := by decide +kernel
theorem dX12_drive_28 : decode cX12_drive 28 = .ok (.iaload, 1) := by decide +kernel
theorem dX12_drive_29 : decode cX12_drive 29 = .ok (.iconst 2, 1) := by decide +kernel
theorem dX12_drive_30 : decode cX12_drive 30 = .ok (.if_icmp .eq 18, 3) := by decide +kernel
theorem dX12_drive_33 : decode cX12_drive 33 = .ok (.aload_n 0, 1) := by decide +kernel
theorem dX12_drive_34 : decode cX12_drive 34 = .ok (.aload_n 0, 1) := by decide +kernel
theorem dX12_drive_35 : decode cX12_drive 35 = .ok (.getfield 218, 3) := by decide +kernel
theorem dX12_drive_38 : decode cX12_drive 38 = .ok (.invokevirtual 250, 3) := by decide +kernel
theorem dX12_drive_41 : decode cX12_drive 41 = .ok (.iconst 4, 1) := by decide +kernel
theorem dX12_drive_42 : decode cX12_drive 42 = .ok (.if_icmp .le 6, 3) := by decide +kernel
theorem dX12_drive_45 : decode cX12_drive 45 = .ok (.iinc 3 1, 3) := by decide +kernel
theorem dX12_drive_48 : decode cX12_drive 48 = .ok (.aload_n 0, 1) := by decide +kernel
theorem dX12_drive_49 : decode cX12_drive 49 = .ok (.iload_n 1, 1) := by decide +kernel
theorem dX12_drive_50 : decode cX12_drive 50 = .ok (.invokevirtual 420, 3) := by decide +kernel
theorem dX12_drive_53 : decode cX12_drive 53 = .ok (.iload_n 3, 1) := by decide +kernel
theorem dX12_drive_54 : decode cX12_drive 54 = .ok (.imul, 1) := by decide +kernel
theorem dX12_drive_55 : decode cX12_drive 55 = .ok (.bipush 9, 2) := by decide +kernel
theorem dX12_drive_57 : decode cX12_drive 57 = .ok (.iadd, 1) := by decide +kernel
theorem dX12_drive_58 : decode cX12_drive 58 = .ok (.bipush 10, 2) := by decide +kernel
theorem dX12_drive_60 : decode cX12_drive 60 = .ok (.idiv, 1) := by decide +kernel
theorem dX12_drive_61 : decode cX12_drive 61 = .ok (.istore 4, 2) := by decide +kernel
theorem dX12_drive_63 : decode cX12_drive 63 = .ok (.iload 4, 2) := by decide +kernel
theorem dX12_drive_65 : decode cX12_drive 65 = .ok (.iconst 1, 1) := by decide +kernel
theorem dX12_drive_66 : decode cX12_drive 66 = .ok (.if_icmp .ge 7, 3) := by decide +kernel
theorem dX12_drive_69 : decode cX12_drive 69 = .ok (.iconst 1, 1) := by decide +kernel
theorem dX12_drive_70 : decode cX12_drive 70 = .ok (.goto 5, 3) := by decide +kernel
theorem dX12_drive_73 : decode cX12_drive 73 = .ok (.iload 4, 2) := by decide +kernel
theorem dX12_drive_75 : decode cX12_drive 75 = .ok (.ireturn, 1) := by decide +kernel
theorem dX12_inTime_0 : decode cX12_inTime 0 = .ok (.iconst 0, 1) := by decide +kernel
theorem dX12_inTime_1 : decode cX12_inTime 1 = .ok (.istore_n 1, 1) := by decide +kernel
theorem dX12_inTime_2 : decode cX12_inTime 2 = .ok (.iconst 0, 1) := by decide +kernel
theorem dX12_inTime_3 : decode cX12_inTime 3 = .ok (.istore_n 2, 1) := by decide +kernel
theorem dX12_inTime_4 : decode cX12_inTime 4 = .ok (.iload_n 2, 1) := by decide +kernel
theorem dX12_inTime_5 : decode cX12_inTime 5 = .ok (.aload_n 0, 1) := by decide +kernel
theorem dX12_inTime_6 : decode cX12_inTime 6 = .ok (.getfield 254, 3) := by decide +kernel
theorem dX12_inTime_9 : decode cX12_inTime 9 = .ok (.if_icmp .ge 37, 3) := by decide +kernel
theorem dX12_inTime_12 : decode cX12_inTime 12 = .ok (.aload_n 0, 1) := by decide +kernel
theorem dX12_inTime_13 : decode cX12_inTime 13 = .ok (.getfield 147, 3) := by decide +kernel
theorem dX12_inTime_16 : decode cX12_inTime 16 = .ok (.iload_n 2, 1) := by decide +kernel
theorem dX12_inTime_17 : decode cX12_inTime 17 = .ok (.iaload, 1) := by decide +kernel
theorem dX12_inTime_18 : decode cX12_inTime 18 = .ok (.iconst (-1), 1) := by decide +kernel
theorem dX12_inTime_19 : decode cX12_inTime 19 = .ok (.if_icmp .eq 21, 3) := by decide +kernel
theorem dX12_inTime_22 : decode cX12_inTime 22 = .ok (.aload_n 0, 1) := by decide +kernel
theorem dX12_inTime_23 : decode cX12_inTime 23 = .ok (.getfield 147, 3) := by decide +kernel
theorem dX12_inTime_26 : decode cX12_inTime 26 = .ok (.iload_n 2, 1) := by decide +kernel
theorem dX12_inTime_27 : decode cX12_inTime 27 = .ok (.iaload, 1) := by decide +kernel
theorem dX12_inTime_28 : decode cX12_inTime 28 = .ok (.aload_n 0, 1) := by decide +kernel
theorem dX12_inTime_29 : decode cX12_inTime 29 = .ok (.getfield 31, 3) := by decide +kernel
theorem dX12_inTime_32 : decode cX12_inTime 32 = .ok (.iload_n 2, 1) := by decide +kernel
theorem dX12_inTime_33 : decode cX12_inTime 33 = .ok (.iaload, 1) := by decide +kernel
theorem dX12_inTime_34 : decode cX12_inTime 34 = .ok (.if_icmp .gt 6, 3) := by decide +kernel
theorem dX12_inTime_37 : decode cX12_inTime 37 = .ok (.iinc 1 1, 3) := by decide +kernel
theorem dX12_inTime_40 : decode cX12_inTime 40 = .ok (.iinc 2 1, 3) := by decide +kernel
theorem dX12_inTime_43 : decode cX12_inTime 43 = .ok (.goto (-39), 3) := by decide +kernel
theorem dX12_inTime_46 : decode cX12_inTime 46 = .ok (.iload_n 1, 1) := by decide +kernel
theorem dX12_inTime_47 : decode cX12_inTime 47 = .ok (.ireturn, 1) := by decide +kernel
theorem dX12_isHeard_0 : decode cX12_isHeard 0 = .ok (.aload_n 0, 1) := by decide +kernel
theorem dX12_isHeard_1 : decode cX12_isHeard 1 = .ok (.iload_n 2, 1) := by decide +kernel
theorem dX12_isHeard_2 : decode cX12_isHeard 2 = .ok (.invokevirtual 426, 3) := by decide +kernel
theorem dX12_isHeard_5 : decode cX12_isHeard 5 = .ok (.ifCond .eq 37, 3) := by decide +kernel
theorem dX12_isHeard_8 : decode cX12_isHeard 8 = .ok (.aload_n 0, 1) := by decide +kernel
theorem dX12_isHeard_9 : decode cX12_isHeard 9 = .ok (.getfield 85, 3) := by decide +kernel
theorem dX12_isHeard_12 : decode cX12_isHeard 12 = .ok (.iload_n 2, 1) := by decide +kernel
theorem dX12_isHeard_13 : decode cX12_isHeard 13 = .ok (.iaload, 1) := by decide +kernel
theorem dX12_isHeard_14 : decode cX12_isHeard 14 = .ok (.aload_n 0, 1) := by decide +kernel
theorem dX12_isHeard_15 : decode cX12_isHeard 15 = .ok (.getfield 218, 3) := by decide +kernel
theorem dX12_isHeard_18 : decode cX12_isHeard 18 = .ok (.aload_n 0, 1) := by decide +kernel
theorem dX12_isHeard_19 : decode cX12_isHeard 19 = .ok (.getfield 43, 3) := by decide +kernel
theorem dX12_isHeard_22 : decode cX12_isHeard 22 = .ok (.iload_n 1, 1) := by decide +kernel
theorem dX12_isHeard_23 : decode cX12_isHeard 23 = .ok (.iaload, 1) := by decide +kernel
theorem dX12_isHeard_24 : decode cX12_isHeard 24 = .ok (.isub, 1) := by decide +kernel
theorem dX12_isHeard_25 : decode cX12_isHeard 25 = .ok (.if_icmp .gt 17, 3) := by decide +kernel
theorem dX12_isHeard_28 : decode cX12_isHeard 28 = .ok (.aload_n 0, 1) := by decide +kernel
theorem dX12_isHeard_29 : decode cX12_isHeard 29 = .ok (.iload_n 2, 1) := by decide +kernel
theorem dX12_isHeard_30 : decode cX12_isHeard 30 = .ok (.invokevirtual 420, 3) := by decide +kernel
theorem dX12_isHeard_33 : decode cX12_isHeard 33 = .ok (.ldc 225, 2) := by decide +kernel
theorem dX12_isHeard_35 : decode cX12_isHeard 35 = .ok (.if_icmp .ge 7, 3) := by decide +kernel
theorem dX12_isHeard_38 : decode cX12_isHeard 38 = .ok (.iconst 1, 1) := by decide +kernel
theorem dX12_isHeard_39 : decode cX12_isHeard 39 = .ok (.goto 4, 3) := by decide +kernel
theorem dX12_isHeard_42 : decode cX12_isHeard 42 = .ok (.iconst 0, 1) := by decide +kernel
theorem dX12_isHeard_43 : decode cX12_isHeard 43 = .ok (.ireturn, 1) := by decide +kernel
theorem dX12_mostSeated_0 : decode cX12_mostSeated 0 = .ok (.bipush 40, 2) := by decide +kernel
theorem dX12_mostSeated_2 : decode cX12_mostSeated 2 = .ok (.istore_n 1, 1) := by decide +kernel
theorem dX12_mostSeated_3 : decode cX12_mostSeated 3 = .ok (.iconst 0, 1) := by decide +kernel
theorem dX12_mostSeated_4 : decode cX12_mostSeated 4 = .ok (.istore_n 2, 1) := by decide +kernel
theorem dX12_mostSeated_5 : decode cX12_mostSeated 5 = .ok (.iload_n 2, 1) := by decide +kernel
theorem dX12_mostSeated_6 : decode cX12_mostSeated 6 = .ok (.iconst 1, 1) := by decide +kernel
theorem dX12_mostSeated_7 : decode cX12_mostSeated 7 = .ok (.aload_n 0, 1) := by decide +kernel
theorem dX12_mostSeated_8 : decode cX12_mostSeated 8 = .ok (.getfield 260, 3) := by decide +kernel
theorem dX12_mostSeated_11 : decode cX12_mostSeated 11 = .ok (.ishl, 1) := by decide +kernel
theorem dX12_mostSeated_12 : decode cX12_mostSeated 12 = .ok (.if_icmp .ge 61, 3) := by decide +kernel
theorem dX12_mostSeated_15 : decode cX12_mostSeated 15 = .ok (.aload_n 0, 1) := by decide +kernel
theorem dX12_mostSeated_16 : decode cX12_mostSeated 16 = .ok (.getfield 201, 3) := by decide +kernel
theorem dX12_mostSeated_19 : decode cX12_mostSeated 19 = .ok (.iload_n 2, 1) := by decide +kernel
theorem dX12_mostSeated_20 : decode cX12_mostSeated 20 = .ok (.iaload, 1) := by decide +kernel
theorem dX12_mostSeated_21 : decode cX12_mostSeated 21 = .ok (.istore_n 3, 1) := by decide +kernel
theorem dX12_mostSeated_22 : decode cX12_mostSeated 22 = .ok (.iconst 0, 1) := by decide +kernel
theorem dX12_mostSeated_23 : decode cX12_mostSeated 23 = .ok (.istore 4, 2) := by decide +kernel
theorem dX12_mostSeated_25 : decode cX12_mostSeated 25 = .ok (.iload 4, 2) := by decide +kernel
theorem dX12_mostSeated_27 : decode cX12_mostSeated 27 = .ok (.aload_n 0, 1) := by decide +kernel
theorem dX12_mostSeated_28 : decode cX12_mostSeated 28 = .ok (.getfield 260, 3) := by decide +kernel
theorem dX12_mostSeated_31 : decode cX12_mostSeated 31 = .ok (.if_icmp .ge 29, 3) := by decide +kernel
theorem dX12_mostSeated_34 : decode cX12_mostSeated 34 = .ok (.iload_n 2, 1) := by decide +kernel
theorem dX12_mostSeated_35 : decode cX12_mostSeated 35 = .ok (.iload 4, 2) := by decide +kernel
theorem dX12_mostSeated_37 : decode cX12_mostSeated 37 = .ok (.ishr, 1) := by decide +kernel
theorem dX12_mostSeated_38 : decode cX12_mostSeated 38 = .ok (.iconst 1, 1) := by decide +kernel
theorem dX12_mostSeated_39 : decode cX12_mostSeated 39 = .ok (.iand, 1) := by decide +kernel
theorem dX12_mostSeated_40 : decode cX12_mostSeated 40 = .ok (.iconst 1, 1) := by decide +kernel
theorem dX12_mostSeated_41 : decode cX12_mostSeated 41 = .ok (.if_icmp .ne 13, 3) := by decide +kernel
theorem dX12_mostSeated_44 : decode cX12_mostSeated 44 = .ok (.iload_n 3, 1) := by decide +kernel
theorem dX12_mostSeated_45 : decode cX12_mostSeated 45 = .ok (.aload_n 0, 1) := by decide +kernel
theorem dX12_mostSeated_46 : decode cX12_mostSeated 46 = .ok (.getfield 198, 3) := by decide +kernel
theorem dX12_mostSeated_49 : decode cX12_mostSeated 49 = .ok (.iload 4, 2) := by decide +kernel
theorem dX12_mostSeated_51 : decode cX12_mostSeated 51 = .ok (.iaload, 1) := by decide +kernel
theorem dX12_mostSeated_52 : decode cX12_mostSeated 52 = .ok (.iadd, 1) := by decide +kernel
theorem dX12_mostSeated_53 : decode cX12_mostSeated 53 = .ok (.istore_n 3, 1) := by decide +kernel
theorem dX12_mostSeated_54 : decode cX12_mostSeated 54 = .ok (.iinc 4 1, 3) := by decide +kernel
theorem dX12_mostSeated_57 : decode cX12_mostSeated 57 = .ok (.goto (-32), 3) := by decide +kernel
theorem dX12_mostSeated_60 : decode cX12_mostSeated 60 = .ok (.iload_n 3, 1) := by decide +kernel
theorem dX12_mostSeated_61 : decode cX12_mostSeated 61 = .ok (.iload_n 1, 1) := by decide +kernel
theorem dX12_mostSeated_62 : decode cX12_mostSeated 62 = .ok (.if_icmp .ge 5, 3) := by decide +kernel
theorem dX12_mostSeated_65 : decode cX12_mostSeated 65 = .ok (.iload_n 3, 1) := by decide +kernel
theorem dX12_mostSeated_66 : decode cX12_mostSeated 66 = .ok (.istore_n 1, 1) := by decide +kernel
theorem dX12_mostSeated_67 : decode cX12_mostSeated 67 = .ok (.iinc 2 1, 3) := by decide +kernel
theorem dX12_mostSeated_70 : decode cX12_mostSeated 70 = .ok (.goto (-65), 3) := by decide +kernel
theorem dX12_mostSeated_73 : decode cX12_mostSeated 73 = .ok (.iload_n 1, 1) := by decide +kernel
theorem dX12_mostSeated_74 : decode cX12_mostSeated 74 = .ok (.ireturn, 1) := by decide +kernel
theorem dX12_pace_0 : decode cX12_pace 0 = .ok (.bipush 18, 2) := by decide +kernel
theorem dX12_pace_2 : decode cX12_pace 2 = .ok (.aload_n 0, 1) := by decide +kernel
theorem dX12_pace_3 : decode cX12_pace 3 = .ok (.aload_n 0, 1) := by decide +kernel
theorem dX12_pace_4 : decode cX12_pace 4 = .ok (.getfield 218, 3) := by decide +kernel
theorem dX12_pace_7 : decode cX12_pace 7 = .ok (.invokevirtual 250, 3) := by decide +kernel
theorem dX12_pace_10 : decode cX12_pace 10 = .ok (.iadd, 1) := by decide +kernel
theorem dX12_pace_11 : decode cX12_pace 11 = .ok (.aload_n 0, 1) := by decide +kernel
theorem dX12_pace_12 : decode cX12_pace 12 = .ok (.getfield 37, 3) := by decide +kernel
theorem dX12_pace_15 : decode cX12_pace 15 = .ok (.iload_n 1, 1) := by decide +kernel
theorem dX12_pace_16 : decode cX12_pace 16 = .ok (.iaload, 1) := by decide +kernel
theorem dX12_pace_17 : decode cX12_pace 17 = .ok (.ifCond .ne 8, 3) := by decide +kernel
theorem dX12_pace_20 : decode cX12_pace 20 = .ok (.bipush 9, 2) := by decide +kernel
theorem dX12_pace_22 : decode cX12_pace 22 = .ok (.goto 18, 3) := by decide +kernel
theorem dX12_pace_25 : decode cX12_pace 25 = .ok (.aload_n 0, 1) := by decide +kernel
theorem dX12_pace_26 : decode cX12_pace 26 = .ok (.getfield 37, 3) := by decide +kernel
theorem dX12_pace_29 : decode cX12_pace 29 = .ok (.iload_n 1, 1) := by decide +kernel
theorem dX12_pace_30 : decode cX12_pace 30 = .ok (.iaload, 1) := by decide +kernel
theorem dX12_pace_31 : decode cX12_pace 31 = .ok (.iconst 1, 1) := by decide +kernel
theorem dX12_pace_32 : decode cX12_pace 32 = .ok (.if_icmp .ne 7, 3) := by decide +kernel
theorem dX12_pace_35 : decode cX12_pace 35 = .ok (.iconst 4, 1) := by decide +kernel
theorem dX12_pace_36 : decode cX12_pace 36 = .ok (.goto 4, 3) := by decide +kernel
theorem dX12_pace_39 : decode cX12_pace 39 = .ok (.iconst 0, 1) := by decide +kernel
theorem dX12_pace_40 : decode cX12_pace 40 = .ok (.iadd, 1) := by decide +kernel
theorem dX12_pace_41 : decode cX12_pace 41 = .ok (.istore_n 2, 1) := by decide +kernel
theorem dX12_pace_42 : decode cX12_pace 42 = .ok (.aload_n 0, 1) := by decide +kernel
theorem dX12_pace_43 : decode cX12_pace 43 = .ok (.getfield 34, 3) := by decide +kernel
theorem dX12_pace_46 : decode cX12_pace 46 = .ok (.iload_n 1, 1) := by decide +kernel
theorem dX12_pace_47 : decode cX12_pace 47 = .ok (.iaload, 1) := by decide +kernel
theorem dX12_pace_48 : decode cX12_pace 48 = .ok (.bipush 40, 2) := by decide +kernel
theorem dX12_pace_50 : decode cX12_pace 50 = .ok (.if_icmp .le 20, 3) := by decide +kernel
theorem dX12_pace_53 : decode cX12_pace 53 = .ok (.iload_n 2, 1) := by decide +kernel
theorem dX12_pace_54 : decode cX12_pace 54 = .ok (.aload_n 0, 1) := by decide +kernel
theorem dX12_pace_55 : decode cX12_pace 55 = .ok (.getfield 34, 3) := by decide +kernel
theorem dX12_pace_58 : decode cX12_pace 58 = .ok (.iload_n 1, 1) := by decide +kernel
theorem dX12_pace_59 : decode cX12_pace 59 = .ok (.iaload, 1) := by decide +kernel
theorem dX12_pace_60 : decode cX12_pace 60 = .ok (.bipush 40, 2) := by decide +kernel
theorem dX12_pace_62 : decode cX12_pace 62 = .ok (.isub, 1) := by decide +kernel
theorem dX12_pace_63 : decode cX12_pace 63 = .ok (.bipush 10, 2) := by decide +kernel
theorem dX12_pace_65 : decode cX12_pace 65 = .ok (.idiv, 1) := by decide +kernel
theorem dX12_pace_66 : decode cX12_pace 66 = .ok (.iadd, 1) := by decide +kernel
theorem dX12_pace_67 : decode cX12_pace 67 = .ok (.goto 4, 3) := by decide +kernel
theorem dX12_pace_70 : decode cX12_pace 70 = .ok (.iload_n 2, 1) := by decide +kernel
theorem dX12_pace_71 : decode cX12_pace 71 = .ok (.ireturn, 1) := by decide +kernel
theorem dX12_reckonWays_0 : decode cX12_reckonWays 0 = .ok (.iconst 0, 1) := by decide +kernel
theorem dX12_reckonWays_1 : decode cX12_reckonWays 1 = .ok (.istore_n 2, 1) := by decide +kernel
theorem dX12_reckonWays_2 : decode cX12_reckonWays 2 = .ok (.iload_n 2, 1) := by decide +kernel
theorem dX12_reckonWays_3 : decode cX12_reckonWays 3 = .ok (.aload_n 0, 1) := by decide +kernel
theorem dX12_reckonWays_4 : decode cX12_reckonWays 4 = .ok (.getfield 429, 3) := by decide +kernel
theorem dX12_reckonWays_7 : decode cX12_reckonWays 7 = .ok (.if_icmp .ge 183, 3) := by decide +kernel
theorem dX12_reckonWays_10 : decode cX12_reckonWays 10 = .ok (.aload_n 0, 1) := by decide +kernel
theorem dX12_reckonWays_11 : decode cX12_reckonWays 11 = .ok (.getfield 180, 3) := by decide +kernel
theorem dX12_reckonWays_14 : decode cX12_reckonWays 14 = .ok (.iload_n 2, 1) := by decide +kernel
theorem dX12_reckonWays_15 : decode cX12_reckonWays 15 = .ok (.iaload, 1) := by decide +kernel
theorem dX12_reckonWays_16 : decode cX12_reckonWays 16 = .ok (.istore_n 3, 1) := by decide +kernel
theorem dX12_reckonWays_17 : decode cX12_reckonWays 17 = .ok (.aload_n 0, 1) := by decide +kernel
theorem dX12_reckonWays_18 : decode cX12_reckonWays 18 = .ok (.getfield 177, 3) := by decide +kernel
theorem dX12_reckonWays_21 : decode cX12_reckonWays 21 = .ok (.iload_n 3, 1) := by decide +kernel
theorem dX12_reckonWays_22 : decode cX12_reckonWays 22 = .ok (.ldc 225, 2) := by decide +kernel
theorem dX12_reckonWays_24 : decode cX12_reckonWays 24 = .ok (.iastore, 1) := by decide +kernel
theorem dX12_reckonWays_25 : decode cX12_reckonWays 25 = .ok (.aload_n 0, 1) := by decide +kernel
theorem dX12_reckonWays_26 : decode cX12_reckonWays 26 = .ok (.iload_n 1, 1) := by decide +kernel
theorem dX12_reckonWays_27 : decode cX12_reckonWays 27 = .ok (.iload_n 3, 1) := by decide +kernel
theorem dX12_reckonWays_28 : decode cX12_reckonWays 28 = .ok (.invokevirtual 432, 3) := by decide +kernel
theorem dX12_reckonWays_31 : decode cX12_reckonWays 31 = .ok (.ifCond .ne 6, 3) := by decide +kernel
theorem dX12_reckonWays_34 : decode cX12_reckonWays 34 = .ok (.goto 150, 3) := by decide +kernel
theorem dX12_reckonWays_37 : decode cX12_reckonWays 37 = .ok (.aload_n 0, 1) := by decide +kernel
theorem dX12_reckonWays_38 : decode cX12_reckonWays 38 = .ok (.getfield 76, 3) := by decide +kernel
theorem dX12_reckonWays_41 : decode cX12_reckonWays 41 = .ok (.iload_n 3, 1) := by decide +kernel
theorem dX12_reckonWays_42 : decode cX12_reckonWays 42 = .ok (.iaload, 1) := by decide +kernel
theorem dX12_reckonWays_43 : decode cX12_reckonWays 43 = .ok (.aload_n 0, 1) := by decide +kernel
theorem dX12_reckonWays_44 : decode cX12_reckonWays 44 = .ok (.iload_n 3, 1) := by decide +kernel
theorem dX12_reckonWays_45 : decode cX12_reckonWays 45 = .ok (.invokevirtual 436, 3) := by decide +kernel
theorem dX12_reckonWays_48 : decode cX12_reckonWays 48 = .ok (.iadd, 1) := by decide +kernel
theorem dX12_reckonWays_49 : decode cX12_reckonWays 49 = .ok (.istore 4, 2) := by decide +kernel
theorem dX12_reckonWays_51 : decode cX12_reckonWays 51 = .ok (.aload_n 0, 1) := by decide +kernel
theorem dX12_reckonWays_52 : decode cX12_reckonWays 52 = .ok (.getfield 49, 3) := by decide +kernel
theorem dX12_reckonWays_55 : decode cX12_reckonWays 55 = .ok (.aload_n 0, 1) := by decide +kernel
theorem dX12_reckonWays_56 : decode cX12_reckonWays 56 = .ok (.getfield 73, 3) := by decide +kernel
theorem dX12_reckonWays_59 : decode cX12_reckonWays 59 = .ok (.iload_n 3, 1) := by decide +kernel
theorem dX12_reckonWays_60 : decode cX12_reckonWays 60 = .ok (.iaload, 1) := by decide +kernel
theorem dX12_reckonWays_61 : decode cX12_reckonWays 61 = .ok (.iaload, 1) := by decide +kernel
theorem dX12_reckonWays_62 : decode cX12_reckonWays 62 = .ok (.istore 5, 2) := by decide +kernel
theorem dX12_reckonWays_64 : decode cX12_reckonWays 64 = .ok (.aload_n 0, 1) := by decide +kernel
theorem dX12_reckonWays_65 : decode cX12_reckonWays 65 = .ok (.iload 5, 2) := by decide +kernel
theorem dX12_reckonWays_67 : decode cX12_reckonWays 67 = .ok (.aload_n 0, 1) := by decide +kernel
theorem dX12_reckonWays_68 : decode cX12_reckonWays 68 = .ok (.getfield 22, 3) := by decide +kernel
theorem dX12_reckonWays_71 : decode cX12_reckonWays 71 = .ok (.iload_n 1, 1) := by decide +kernel
theorem dX12_reckonWays_72 : decode cX12_reckonWays 72 = .ok (.iaload, 1) := by decide +kernel
theorem dX12_reckonWays_73 : decode cX12_reckonWays 73 = .ok (.invokevirtual 236, 3) := by decide +kernel
theorem dX12_reckonWays_76 : decode cX12_reckonWays 76 = .ok (.ldc 225, 2) := by decide +kernel
theorem dX12_reckonWays_78 : decode cX12_reckonWays 78 = .ok (.if_icmp .ge 25, 3) := by decide +kernel
theorem dX12_reckonWays_81 : decode cX12_reckonWays 81 = .ok (.aload_n 0, 1) := by decide +kernel
theorem dX12_reckonWays_82 : decode cX12_reckonWays 82 = .ok (.getfield 177, 3) := by decide +kernel
theorem dX12_reckonWays_85 : decode cX12_reckonWays 85 = .ok (.iload_n 3, 1) := by decide +kernel
theorem dX12_reckonWays_86 : decode cX12_reckonWays 86 = .ok (.iload 4, 2) := by decide +kernel
theorem dX12_reckonWays_88 : decode cX12_reckonWays 88 = .ok (.aload_n 0, 1) := by decide +kernel
theorem dX12_reckonWays_89 : decode cX12_reckonWays 89 = .ok (.iload_n 1, 1) := by decide +kernel
theorem dX12_reckonWays_90 : decode cX12_reckonWays 90 = .ok (.iload 5, 2) := by decide +kernel
theorem dX12_reckonWays_92 : decode cX12_reckonWays 92 = .ok (.aload_n 0, 1) := by decide +kernel
theorem dX12_reckonWays_93 : decode cX12_reckonWays 93 = .ok (.getfield 22, 3) := by decide +kernel
theorem dX12_reckonWays_96 : decode cX12_reckonWays 96 = .ok (.iload_n 1, 1) := by decide +kernel
theorem dX12_reckonWays_97 : decode cX12_reckonWays 97 = .ok (.iaload, 1) := by decide +kernel
theorem dX12_reckonWays_98 : decode cX12_reckonWays 98 = .ok (.invokevirtual 439, 3) := by decide +kernel
theorem dX12_reckonWays_101 : decode cX12_reckonWays 101 = .ok (.iadd, 1) := by decide +kernel
theorem dX12_reckonWays_102 : decode cX12_reckonWays 102 = .ok (.iastore, 1) := by decide +kernel
theorem dX12_reckonWays_103 : decode cX12_reckonWays 103 = .ok (.iconst 0, 1) := by decide +kernel
theorem dX12_reckonWays_104 : decode cX12_reckonWays 104 = .ok (.istore 6, 2) := by decide +kernel
theorem dX12_reckonWays_106 : decode cX12_reckonWays 106 = .ok (.iload 6, 2) := by decide +kernel
theorem dX12_reckonWays_108 : decode cX12_reckonWays 108 = .ok (.iload_n 2, 1) := by decide +kernel
theorem dX12_reckonWays_109 : decode cX12_reckonWays 109 = .ok (.if_icmp .ge 75, 3) := by decide +kernel
theorem dX12_reckonWays_112 : decode cX12_reckonWays 112 = .ok (.aload_n 0, 1) := by decide +kernel
theorem dX12_reckonWays_113 : decode cX12_reckonWays 113 = .ok (.getfield 180, 3) := by decide +kernel
theorem dX12_reckonWays_116 : decode cX12_reckonWays 116 = .ok (.iload 6, 2) := by decide +kernel
theorem dX12_reckonWays_118 : decode cX12_reckonWays 118 = .ok (.iaload, 1) := by decide +kernel
theorem dX12_reckonWays_119 : decode cX12_reckonWays 119 = .ok (.istore 7, 2) := by decide +kernel
theorem dX12_reckonWays_121 : decode cX12_reckonWays 121 = .ok (.aload_n 0, 1) := by decide +kernel
theorem dX12_reckonWays_122 : decode cX12_reckonWays 122 = .ok (.getfield 70, 3) := by decide +kernel
theorem dX12_reckonWays_125 : decode cX12_reckonWays 125 = .ok (.iload 7, 2) := by decide +kernel
theorem dX12_reckonWays_127 : decode cX12_reckonWays 127 = .ok (.iaload, 1) := by decide +kernel
theorem dX12_reckonWays_128 : decode cX12_reckonWays 128 = .ok (.aload_n 0, 1) := by decide +kernel
theorem dX12_reckonWays_129 : decode cX12_reckonWays 129 = .ok (.getfield 73, 3) := by decide +kernel
theorem dX12_reckonWays_132 : decode cX12_reckonWays 132 = .ok (.iload_n 3, 1) := by decide +kernel
theorem dX12_reckonWays_133 : decode cX12_reckonWays 133 = .ok (.iaload, 1) := by decide +kernel
theorem dX12_reckonWays_134 : decode cX12_reckonWays 134 = .ok (.if_icmp .ne 44, 3) := by decide +kernel
theorem dX12_reckonWays_137 : decode cX12_reckonWays 137 = .ok (.aload_n 0, 1) := by decide +kernel
theorem dX12_reckonWays_138 : decode cX12_reckonWays 138 = .ok (.getfield 76, 3) := by decide +kernel
theorem dX12_reckonWays_141 : decode cX12_reckonWays 141 = .ok (.iload 7, 2) := by decide +kernel
theorem dX12_reckonWays_143 : decode cX12_reckonWays 143 = .ok (.iaload, 1) := by decide +kernel
theorem dX12_reckonWays_144 : decode cX12_reckonWays 144 = .ok (.iload 4, 2) := by decide +kernel
theorem dX12_reckonWays_146 : decode cX12_reckonWays 146 = .ok (.if_icmp .lt 32, 3) := by decide +kernel
theorem dX12_reckonWays_149 : decode cX12_reckonWays 149 = .ok (.aload_n 0, 1) := by decide +kernel
theorem dX12_reckonWays_150 : decode cX12_reckonWays 150 = .ok (.getfield 177, 3) := by decide +kernel
theorem dX12_reckonWays_153 : decode cX12_reckonWays 153 = .ok (.iload 7, 2) := by decide +kernel
theorem dX12_reckonWays_155 : decode cX12_reckonWays 155 = .ok (.iaload, 1) := by decide +kernel
theorem dX12_reckonWays_156 : decode cX12_reckonWays 156 = .ok (.aload_n 0, 1) := by decide +kernel
theorem dX12_reckonWays_157 : decode cX12_reckonWays 157 = .ok (.getfield 177, 3) := by decide +kernel
theorem dX12_reckonWays_160 : decode cX12_reckonWays 160 = .ok (.iload_n 3, 1) := by decide +kernel
theorem dX12_reckonWays_161 : decode cX12_reckonWays 161 = .ok (.iaload, 1) := by decide +kernel
theorem dX12_reckonWays_162 : decode cX12_reckonWays 162 = .ok (.if_icmp .ge 16, 3) := by decide +kernel
theorem dX12_reckonWays_165 : decode cX12_reckonWays 165 = .ok (.aload_n 0, 1) := by decide +kernel
theorem dX12_reckonWays_166 : decode cX12_reckonWays 166 = .ok (.getfield 177, 3) := by decide +kernel
theorem dX12_reckonWays_169 : decode cX12_reckonWays 169 = .ok (.iload_n 3, 1) := by decide +kernel
theorem dX12_reckonWays_170 : decode cX12_reckonWays 170 = .ok (.aload_n 0, 1) := by decide +kernel
theorem dX12_reckonWays_171 : decode cX12_reckonWays 171 = .ok (.getfield 177, 3) := by decide +kernel
theorem dX12_reckonWays_174 : decode cX12_reckonWays 174 = .ok (.iload 7, 2) := by decide +kernel
theorem dX12_reckonWays_176 : decode cX12_reckonWays 176 = .ok (.iaload, 1) := by decide +kernel
theorem dX12_reckonWays_177 : decode cX12_reckonWays 177 = .ok (.iastore, 1) := by decide +kernel
theorem dX12_reckonWays_178 : decode cX12_reckonWays 178 = .ok (.iinc 6 1, 3) := by decide +kernel
theorem dX12_reckonWays_181 : decode cX12_reckonWays 181 = .ok (.goto (-75), 3) := by decide +kernel
theorem dX12_reckonWays_184 : decode cX12_reckonWays 184 = .ok (.iinc 2 1, 3) := by decide +kernel
theorem dX12_reckonWays_187 : decode cX12_reckonWays 187 = .ok (.goto (-185), 3) := by decide +kernel
theorem dX12_reckonWays_190 : decode cX12_reckonWays 190 = .ok (.return_, 1) := by decide +kernel
theorem dX12_runsToday_0 : decode cX12_runsToday 0 = .ok (.aload_n 0, 1) := by decide +kernel
theorem dX12_runsToday_1 : decode cX12_runsToday 1 = .ok (.getfield 67, 3) := by decide +kernel
theorem dX12_runsToday_4 : decode cX12_runsToday 4 = .ok (.iload_n 1, 1) := by decide +kernel
theorem dX12_runsToday_5 : decode cX12_runsToday 5 = .ok (.iaload, 1) := by decide +kernel
theorem dX12_runsToday_6 : decode cX12_runsToday 6 = .ok (.aload_n 0, 1) := by decide +kernel
theorem dX12_runsToday_7 : decode cX12_runsToday 7 = .ok (.getfield 423, 3) := by decide +kernel
theorem dX12_runsToday_10 : decode cX12_runsToday 10 = .ok (.if_icmp .eq 33, 3) := by decide +kernel
theorem dX12_runsToday_13 : decode cX12_runsToday 13 = .ok (.aload_n 0, 1) := by decide +kernel
theorem dX12_runsToday_14 : decode cX12_runsToday 14 = .ok (.getfield 79, 3) := by decide +kernel
theorem dX12_runsToday_17 : decode cX12_runsToday 17 = .ok (.iload_n 1, 1) := by decide +kernel
theorem dX12_runsToday_18 : decode cX12_runsToday 18 = .ok (.iaload, 1) := by decide +kernel
theorem dX12_runsToday_19 : decode cX12_runsToday 19 = .ok (.aload_n 0, 1) := by decide +kernel
theorem dX12_runsToday_20 : decode cX12_runsToday 20 = .ok (.getfield 218, 3) := by decide +kernel
theorem dX12_runsToday_23 : decode cX12_runsToday 23 = .ok (.if_icmp .gt 20, 3) := by decide +kernel
theorem dX12_runsToday_26 : decode cX12_runsToday 26 = .ok (.aload_n 0, 1) := by decide +kernel
theorem dX12_runsToday_27 : decode cX12_runsToday 27 = .ok (.getfield 218, 3) := by decide +kernel
theorem dX12_runsToday_30 : decode cX12_runsToday 30 = .ok (.aload_n 0, 1) := by decide +kernel
theorem dX12_runsToday_31 : decode cX12_runsToday 31 = .ok (.getfield 82, 3) := by decide +kernel
theorem dX12_runsToday_34 : decode cX12_runsToday 34 = .ok (.iload_n 1, 1) := by decide +kernel
theorem dX12_runsToday_35 : decode cX12_runsToday 35 = .ok (.iaload, 1) := by decide +kernel
theorem dX12_runsToday_36 : decode cX12_runsToday 36 = .ok (.if_icmp .gt 7, 3) := by decide +kernel
theorem dX12_runsToday_39 : decode cX12_runsToday 39 = .ok (.iconst 1, 1) := by decide +kernel
theorem dX12_runsToday_40 : decode cX12_runsToday 40 = .ok (.goto 4, 3) := by decide +kernel
theorem dX12_runsToday_43 : decode cX12_runsToday 43 = .ok (.iconst 0, 1) := by decide +kernel
theorem dX12_runsToday_44 : decode cX12_runsToday 44 = .ok (.ireturn, 1) := by decide +kernel
theorem dX12_tripFar_0 : decode cX12_tripFar 0 = .ok (.aload_n 0, 1) := by decide +kernel
theorem dX12_tripFar_1 : decode cX12_tripFar 1 = .ok (.aload_n 0, 1) := by decide +kernel
theorem dX12_tripFar_2 : decode cX12_tripFar 2 = .ok (.getfield 49, 3) := by decide +kernel
theorem dX12_tripFar_5 : decode cX12_tripFar 5 = .ok (.aload_n 0, 1) := by decide +kernel
theorem dX12_tripFar_6 : decode cX12_tripFar 6 = .ok (.getfield 70, 3) := by decide +kernel
theorem dX12_tripFar_9 : decode cX12_tripFar 9 = .ok (.iload_n 1, 1) := by decide +kernel
theorem dX12_tripFar_10 : decode cX12_tripFar 10 = .ok (.iaload, 1) := by decide +kernel
theorem dX12_tripFar_11 : decode cX12_tripFar 11 = .ok (.iaload, 1) := by decide +kernel
theorem dX12_tripFar_12 : decode cX12_tripFar 12 = .ok (.aload_n 0, 1) := by decide +kernel
theorem dX12_tripFar_13 : decode cX12_tripFar 13 = .ok (.getfield 49, 3) := by decide +kernel
theorem dX12_tripFar_16 : decode cX12_tripFar 16 = .ok (.aload_n 0, 1) := by decide +kernel
theorem dX12_tripFar_17 : decode cX12_tripFar 17 = .ok (.getfield 73, 3) := by decide +kernel
theorem dX12_tripFar_20 : decode cX12_tripFar 20 = .ok (.iload_n 1, 1) := by decide +kernel
theorem dX12_tripFar_21 : decode cX12_tripFar 21 = .ok (.iaload, 1) := by decide +kernel
theorem dX12_tripFar_22 : decode cX12_tripFar 22 = .ok (.iaload, 1) := by decide +kernel
theorem dX12_tripFar_23 : decode cX12_tripFar 23 = .ok (.invokevirtual 236, 3) := by decide +kernel
theorem dX12_tripFar_26 : decode cX12_tripFar 26 = .ok (.ireturn, 1) := by decide +kernel
theorem dX12_walk_0 : decode cX12_walk 0 = .ok (.aload_n 0, 1) := by decide +kernel
theorem dX12_walk_1 : decode cX12_walk 1 = .ok (.iload_n 2, 1) := by decide +kernel
theorem dX12_walk_2 : decode cX12_walk 2 = .ok (.iload_n 3, 1) := by decide +kernel
theorem dX12_walk_3 : decode cX12_walk 3 = .ok (.invokevirtual 236, 3) := by decide +kernel
theorem dX12_walk_6 : decode cX12_walk 6 = .ok (.aload_n 0, 1) := by decide +kernel
theorem dX12_walk_7 : decode cX12_walk 7 = .ok (.iload_n 1, 1) := by decide +kernel
theorem dX12_walk_8 : decode cX12_walk 8 = .ok (.invokevirtual 417, 3) := by decide +kernel
theorem dX12_walk_11 : decode cX12_walk 11 = .ok (.imul, 1) := by decide +kernel
theorem dX12_walk_12 : decode cX12_walk 12 = .ok (.bipush 9, 2) := by decide +kernel
theorem dX12_walk_14 : decode cX12_walk 14 = .ok (.iadd, 1) := by decide +kernel
theorem dX12_walk_15 : decode cX12_walk 15 = .ok (.bipush 10, 2) := by decide +kernel
theorem dX12_walk_17 : decode cX12_walk 17 = .ok (.idiv, 1) := by decide +kernel
theorem dX12_walk_18 : decode cX12_walk 18 = .ok (.ireturn, 1) := by decide +kernel
def sW (ar : Nat → Nat → Int32) : Prop := ∀ i : Nat, 1 ≤ (ar 68 i).toInt → (ar 68 i).toInt ≤ 3 → 0 ≤ (ar 71 i).toInt
theorem sW_fr {M : List Nat} {ar ar1 : Nat → Nat → Int32} (h : sW ar) (f : fA M ar ar1) (h1 : M.contains 68 = false) (h2 : M.contains 71 = false) : sW ar1 := by intro i; rw [f 68 h1, f 71 h2]; exact h i
theorem sW_68 {ar ar1 : Nat → Nat → Int32} {n : Nat} {x : Int32} (h : sW ar) (e : ar1 = upM ar 68 (upd (ar 68) n x)) (hx : x.toInt < 1 ∨ 3 < x.toInt ∨ 0 ≤ (ar 71 n).toInt) : sW ar1 := by
  subst e
  intro i
  show 1 ≤ (if i = n then x else ar 68 i).toInt → (if i = n then x else ar 68 i).toInt ≤ 3 → 0 ≤ (ar 71 i).toInt
  by_cases q : i = n
  · rw [if_pos q, q]; omega
  · rw [if_neg q]; exact h i
theorem sW_both {ar ar1 ar2 : Nat → Nat → Int32} {n : Nat} {x y : Int32} (h : sW ar) (e1 : ar1 = upM ar 71 (upd (ar 71) n y)) (e2 : ar2 = upM ar1 68 (upd (ar1 68) n x)) (hx : x.toInt < 1 ∨ 3 < x.toInt ∨ 0 ≤ y.toInt) : sW ar2 := by
  subst e2; subst e1
  intro i
  show 1 ≤ (if i = n then x else ar 68 i).toInt → (if i = n then x else ar 68 i).toInt ≤ 3 → 0 ≤ (if i = n then y else ar 71 i).toInt
  by_cases q : i = n
  · rw [if_pos q, if_pos q]; omega
  · rw [if_neg q, if_neg q]; exact h i
def cO (g : Nat → Int32) (m : Int) (k : Nat) : Nat → Nat
  | 0 => 0
  | T + 1 => cO g m k T + (if m < (g T).toInt ∨ ((g T).toInt = m ∧ T < k) then 1 else 0)
theorem cO_le (g : Nat → Int32) (m : Int) (k : Nat) : ∀ T, cO g m k T ≤ T
  | 0 => Nat.le_refl _
  | T + 1 => by
    have := cO_le g m k T
    show cO g m k T + (if m < (g T).toInt ∨ ((g T).toInt = m ∧ T < k) then 1 else 0) ≤ T + 1
    split <;> omega
theorem cO_mono (g : Nat → Int32) (m : Int) (k : Nat) : ∀ T, cO g m k T ≤ cO g m (k + 1) T
  | 0 => Nat.le_refl _
  | T + 1 => by
    have := cO_mono g m k T
    show cO g m k T + (if m < (g T).toInt ∨ ((g T).toInt = m ∧ T < k) then 1 else 0) ≤ cO g m (k + 1) T + (if m < (g T).toInt ∨ ((g T).toInt = m ∧ T < k + 1) then 1 else 0)
    split <;> split <;> omega
theorem cO_step (g : Nat → Int32) (m : Int) (k : Nat) (hk : (g k).toInt = m) : ∀ T, k < T → cO g m (k + 1) T = cO g m k T + 1
  | 0, h => absurd h (Nat.not_lt_zero _)
  | T + 1, h => by
    show cO g m (k + 1) T + (if m < (g T).toInt ∨ ((g T).toInt = m ∧ T < k + 1) then 1 else 0) = cO g m k T + (if m < (g T).toInt ∨ ((g T).toInt = m ∧ T < k) then 1 else 0) + 1
    rcases Nat.lt_or_ge k T with q | q
    · rw [cO_step g m k hk T q]
      have : (m < (g T).toInt ∨ ((g T).toInt = m ∧ T < k + 1)) ↔ (m < (g T).toInt ∨ ((g T).toInt = m ∧ T < k)) := by omega
      simp only [this]; omega
    · have e : T = k := by omega
      subst e
      have z : cO g m (T + 1) T = cO g m T T := by
        have key : ∀ n, n ≤ T → cO g m (T + 1) n = cO g m T n := by
          intro n
          induction n with
          | zero => intro _; rfl
          | succ n ih =>
            intro hn
            show cO g m (T + 1) n + (if m < (g n).toInt ∨ ((g n).toInt = m ∧ n < T + 1) then 1 else 0) = cO g m T n + (if m < (g n).toInt ∨ ((g n).toInt = m ∧ n < T) then 1 else 0)
            rw [ih (by omega)]
            have : (m < (g n).toInt ∨ ((g n).toInt = m ∧ n < T + 1)) ↔ (m < (g n).toInt ∨ ((g n).toInt = m ∧ n < T)) := by omega
            simp only [this]
        exact key T (Nat.le_refl _)
      rw [z, if_pos (by omega), if_neg (by omega)]
theorem cO_next (g : Nat → Int32) (m : Int) (K : Nat) : ∀ T, T ≤ K → cO g m K T ≤ cO g (m - 1) 0 T
  | 0, _ => Nat.le_refl _
  | T + 1, h => by
    have := cO_next g m K T (by omega)
    show cO g m K T + (if m < (g T).toInt ∨ ((g T).toInt = m ∧ T < K) then 1 else 0) ≤ cO g (m - 1) 0 T + (if m - 1 < (g T).toInt ∨ ((g T).toInt = m - 1 ∧ T < 0) then 1 else 0)
    split <;> split <;> omega
def dl (x : Int32) : Int := if x.toInt = 12 then 0 else if x.toInt = 13 ∨ x.toInt = 14 then -1 else 1
def dQ (g : Nat → Int32) (f : Nat) : Nat → Int
  | 0 => 0
  | n + 1 => dQ g f n + dl (g (f + n))
def okP (x : Int32) (d : Int) : Prop := x.toInt ≤ 14 ∧ 0 ≤ d ∧ (x.toInt = 12 → 1 ≤ d) ∧ (x.toInt = 13 ∨ x.toInt = 14 → 2 ≤ d) ∧ (x.toInt < 12 → d ≤ 60)
def vP (g : Nat → Int32) (f t : Nat) : Prop := ∀ n : Nat, f + n < t → okP (g (f + n)) (dQ g f n)
def vM (fv : Nat → Int32) (ar : Nat → Nat → Int32) : Prop := ∀ b k : Nat, (b : Int) < (fv 58).toInt → (k : Int) < (ar 47 b).toInt → vP (ar 54) (120 * b + (ar 52 (16 * b + k)).toInt.toNat) (120 * b + (ar 53 (16 * b + k)).toInt.toNat)
theorem vM_fr {M N : List Nat} {fv fv1 : Nat → Int32} {ar ar1 : Nat → Nat → Int32} (h : vM fv ar) (f : fM M fv fv1) (a : fA N ar ar1) (h0 : M.contains 58 = false) (h1 : N.contains 47 = false) (h2 : N.contains 52 = false) (h3 : N.contains 53 = false) (h4 : N.contains 54 = false) : vM fv1 ar1 := by
  intro b k; rw [f 58 h0, a 47 h1, a 52 h2, a 53 h3, a 54 h4]; exact h b k
theorem okP_st {g : Nat → Int32} {f t : Nat} {n : Nat} {x : Int32} {d : Int} (h : vP g f t) (hn : f + n < t) (hx : x = g (f + n)) (hd : d = dQ g f n) : (x.toInt ≤ 14 ∧ 0 ≤ d ∧ (x.toInt = 12 → 1 ≤ d) ∧ (x.toInt = 13 → 2 ≤ d) ∧ (x.toInt = 14 → 2 ≤ d) ∧ (x.toInt < 12 → d ≤ 60)) ∧ (x.toInt = 12 → dQ g f (n + 1) = d) ∧ (x.toInt = 13 → dQ g f (n + 1) = d - 1) ∧ (x.toInt = 14 → dQ g f (n + 1) = d - 1) ∧ (x.toInt < 12 → dQ g f (n + 1) = d + 1) := by
  have q := h n hn
  rw [← hx, ← hd] at q
  have e : dQ g f (n + 1) = d + dl x := by rw [hd, hx]; rfl
  refine ⟨⟨q.1, q.2.1, q.2.2.1, fun z => q.2.2.2.1 (Or.inl z), fun z => q.2.2.2.1 (Or.inr z), q.2.2.2.2⟩, fun z => ?_, fun z => ?_, fun z => ?_, fun z => ?_⟩
  · rw [e, dl, if_pos z]; omega
  · rw [e, dl, if_neg (by omega), if_pos (Or.inl z)]; omega
  · rw [e, dl, if_neg (by omega), if_pos (Or.inr z)]; omega
  · rw [e, dl, if_neg (by omega), if_neg (by omega)]
set_option maxHeartbeats 4000000 in
set_option maxRecDepth 100000 in
theorem m_pace (l : Launch) (dC : Nat → ClassId) (dI : Nat → Nat → Nat) (sz h : Nat) (ad : Nat → Nat) (cA : Nat → ClassId) (hd : dM h ad) (fv : Nat → Int32) (wd : Int64) (ar : Nat → Nat → Int32) (hF_fv : rF fv) (hA_ar : rA ar) (pp : Int32) (h_pp : 0 ≤ pp.toInt ∧ pp.toInt ≤ 39) : Met l yX12_pace (.code yX12_pace cX12_pace 3 (some .int) :: lw_good) ({ frames := 3, cells := 0, slots := 0, locals := 61 }) (va_Pc [.ref h, .int pp] (prM dC dI h ad cA fv wd ar sz)) (va_Qi (fun (r : Int32) (u : mS) => rF u.1 ∧ rA u.2.2 ∧ fM [] fv u.1 ∧ fA [] ar u.2.2 ∧ True) (enM dC dI h ad cA) (aM h ad sz)) 0 0 (aM h ad sz) := by
  refine Met.ofW (cc := cX12_pace) (maxL := 3) (ret := (some .int)) (by decide) rfl ?_
  intro p e s m args below meth c s₁ B hml hv
  obtain ⟨rfl, hsz, hP, hK⟩ := hv
  have hx := B.exec
  have hb := B.bytes
  have hr := B.returns
  have hts := atoms_spec (ws := (.code yX12_pace cX12_pace 3 (some .int) :: lw_good)) B.pre
  have htg : ∀ w ∈ lw_good, w.before _ s = true := fun w hw => hts w (List.mem_cons_of_mem _ hw)
  have hown : s.vm.findClass RX12 = some m.cls := findClass_of_methodNamed B.named
  have hlocks := B.notSynchronized
  subst hsz
  have hS : va_S (aM h ad s.heap.size) s.heap s.heap [] := va_S.rf
  have hl := lv_entry ([.ref h, .int pp]) (n := 3) (Nat.le_of_ble_eq_true rfl)
  rw [lg_entry_eq]
  generalize (lg_sl ([.ref h, .int pp]) ++ List.replicate (3 - (lg_sl ([.ref h, .int pp])).length) Slot.unset).toArray = ls at hl ⊢
  have hl : lv_has ls 3 [(0, .ref h), (1, .int pp)] := hl
  refine lv_bipush (v := 18) hx hb dX12_pace_0 (by decide) ?_
  refine lv_aload_n hx hb dX12_pace_2 rfl (lv_at hl 0 rfl) ?_
  refine lv_aload_n hx hb dX12_pace_3 rfl (lv_at hl 0 rfl) ?_
  refine gM_3 hx hb htg hown hK hP dX12_pace_4 ?_
  have i_1 : 0 ≤ (fv 3).toInt ∧ (fv 3).toInt ≤ 199 := hF_fv 3
  refine va_calli (va_runV (As := [.int (fv 3)]) (rest := [.int 18]) ⟨hx, hb, hml, hown, hts⟩ (m_rainOf l dC dI s.heap.size h ad cA hd fv wd ar hF_fv hA_ar (fv 3) i_1) (cwV 1 hts (gV kw_8_16 kw_8_18 kw_p_61 kw_1_15 kw_8_19) rfl rfl rfl (by decide +kernel) ⟨Nat.le_of_ble_eq_true rfl, Nat.le_of_ble_eq_true rfl⟩) ⟨fun a U g mk q => ⟨q.1, q.2.1, q.2.2.1, va_K.moved (u := U) (U := U.calling g mk a) (Vm.Alike.refl U.vm) q.2.2.2⟩, va_recv hK hP (ci := 12) (q0 := 0) rfl rfl, fun U hU hW => ⟨rfl, by rw [hU], by rw [hU]; exact hP, va_K.moved hW.alike hK⟩⟩ rfl rfl hl.1 rfl (lv_room (Nat.le_of_ble_eq_true rfl)) dX12_pace_7 ⟨Nat.le_of_ble_eq_true rfl, Nat.le_of_ble_eq_true rfl⟩) hS (fun q _ h9 => aM_up hS q h9) (aM_up hS) (fun r_2 u t H1 locs ht _ hw hB _ hk1 hS => ?_)
  obtain ⟨fv_3, wd_4, ar_5⟩ := u
  obtain ⟨hF_fv_3, hA_ar_5, fr_6, fa_7, -⟩ := hw
  have hP : va_P (dC, dI) vwCl (wsM h ad cA fv_3 wd_4 ar_5) H1 := by have h9 := hB.1; rw [ht] at h9; exact h9
  have fr_6 : fM [] fv fv_3 := fr_6
  have fa_7 : fA [] ar ar_5 := fa_7
  generalize H1 = H at hP hS ⊢
  refine lv_iadd hx hb dX12_pace_10 ?_
  refine lv_topi (fun v_8 ev_8 => ?_)
  refine lv_aload_n hx hb dX12_pace_11 rfl (lv_at hl 0 rfl) ?_
  refine gM_15 hx hb htg hown hK hP dX12_pace_12 ?_
  refine lv_iload_n hx hb dX12_pace_15 rfl (lv_at hl 1 rfl) ?_
  refine lM_15 hx hb hK hP (iv_in h_pp (by decide) (by decide)) dX12_pace_16 (fun v_9 ev_9 => ?_)
  refine my_cut (P := fun R9 a9 Q9 => ∀ (x_15 : Int32) (H : Heap) (locs : List Loc) (ls : Array Slot), (0 ≤ x_15.toInt ∧ x_15.toInt ≤ 9) → va_P (dC, dI) vwCl (wsM h ad cA fv_3 wd_4 ar_5) H → va_S (aM h ad s.heap.size) s.heap H locs → lv_has ls 3 [(0, .ref h), (1, .int pp)] → W p l e R9 s m a9 below meth c H locs 0 0 Q9 (F0 m 40 ls [.int x_15, .int v_8])) ?_ (fun hj_16 => ?_)
  · intro x_15 H locs ls i_x_15 hP hS hl
    refine lv_iadd hx hb dX12_pace_40 ?_
    refine lv_topi (fun v_17 ev_17 => ?_)
    refine lv_istore_n (lv' := [(2, .int v_17), (0, .ref h), (1, .int pp)]) hx hb dX12_pace_41 rfl hl (by decide) rfl (fun ls hl => ?_)
    refine lv_aload_n hx hb dX12_pace_42 rfl (lv_at hl 1 rfl) ?_
    refine gM_14 hx hb htg hown hK hP dX12_pace_43 ?_
    refine lv_iload_n hx hb dX12_pace_46 rfl (lv_at hl 2 rfl) ?_
    refine lM_14 hx hb hK hP (iv_in h_pp (by decide) (by decide)) dX12_pace_47 (fun v_18 ev_18 => ?_)
    refine lv_bipush (v := 40) hx hb dX12_pace_48 (by decide) ?_
    refine lv_icmp_le (tgt := 70) hx hb dX12_pace_50 (by decide) (fun c_19 => ?_) (fun c_19 => ?_)
    · skip
      have i_20 : (-2147483648) ≤ v_18.toInt ∧ v_18.toInt ≤ 40 := iv_le1 (iv_any v_18) (⟨by decide, by decide⟩ : (40 : Int) ≤ (40 : Int32).toInt ∧ (40 : Int32).toInt ≤ 40) c_19
      refine lv_iload_n hx hb dX12_pace_70 rfl (lv_at hl 0 rfl) ?_
      exact W.iret (v := v_17) hx hb hr (fun t ht hW => ⟨⟨v_17, (fv_3, wd_4, ar_5), rfl, ⟨hF_fv_3, hA_ar_5, (fM_call (fM_rf [] _) fr_6 (by decide)), (fA_call (fA_rf [] _) fa_7 (by decide)), trivial⟩, ⟨by rw [ht]; exact hP, va_K.moved hW.alike hK⟩⟩, hS.F ht⟩) hS.2.2 dX12_pace_71
    · skip
      have i_21 : 41 ≤ v_18.toInt ∧ v_18.toInt ≤ 2147483647 := iv_lt2 (⟨by decide, by decide⟩ : (40 : Int) ≤ (40 : Int32).toInt ∧ (40 : Int32).toInt ≤ 40) (iv_any v_18) (Int32.not_le.mp c_19)
      refine lv_iload_n hx hb dX12_pace_53 rfl (lv_at hl 0 rfl) ?_
      refine lv_aload_n hx hb dX12_pace_54 rfl (lv_at hl 1 rfl) ?_
      refine gM_14 hx hb htg hown hK hP dX12_pace_55 ?_
      refine lv_iload_n hx hb dX12_pace_58 rfl (lv_at hl 2 rfl) ?_
      refine lM_14 hx hb hK hP (iv_in h_pp (by decide) (by decide)) dX12_pace_59 (fun v_22 ev_22 => ?_)
      obtain rfl : v_18 = v_22 := ev_18.trans ev_22.symm
      refine lv_bipush (v := 40) hx hb dX12_pace_60 (by decide) ?_
      refine lv_isub hx hb dX12_pace_62 ?_
      refine lv_topi (fun v_23 ev_23 => ?_)
      have t_24 : v_23.toInt = v_18.toInt - 40 ∧ 1 ≤ v_23.toInt ∧ v_23.toInt ≤ 2147483607 := iv_subc ev_23 i_21 (by decide) (by decide) (by decide)
      refine lv_bipush (v := 10) hx hb dX12_pace_63 (by decide) ?_
      refine lv_idiv hx hb dX12_pace_65 (by decide) ?_
      refine lv_topi (fun v_26 ev_26 => ?_)
      refine lv_iadd hx hb dX12_pace_66 ?_
      refine lv_topi (fun v_27 ev_27 => ?_)
      refine lv_goto (tgt := 71) hx hb dX12_pace_67 (by decide) ?_
      exact W.iret (v := v_27) hx hb hr (fun t ht hW => ⟨⟨v_27, (fv_3, wd_4, ar_5), rfl, ⟨hF_fv_3, hA_ar_5, (fM_call (fM_rf [] _) fr_6 (by decide)), (fA_call (fA_rf [] _) fa_7 (by decide)), trivial⟩, ⟨by rw [ht]; exact hP, va_K.moved hW.alike hK⟩⟩, hS.F ht⟩) hS.2.2 dX12_pace_71
  · skip
    refine lv_if_ne (tgt := 25) hx hb dX12_pace_17 (by decide) (fun c_10 => ?_) (fun c_10 => ?_)
    · skip
      refine lv_aload_n hx hb dX12_pace_25 rfl (lv_at hl 0 rfl) ?_
      refine gM_15 hx hb htg hown hK hP dX12_pace_26 ?_
      refine lv_iload_n hx hb dX12_pace_29 rfl (lv_at hl 1 rfl) ?_
      refine lM_15 hx hb hK hP (iv_in h_pp (by decide) (by decide)) dX12_pace_30 (fun v_11 ev_11 => ?_)
      obtain rfl : v_9 = v_11 := ev_9.trans ev_11.symm
      refine lv_iconst (v := 1) hx hb dX12_pace_31 (by decide) ?_
      refine lv_icmp_ne (tgt := 39) hx hb dX12_pace_32 (by decide) (fun c_12 => ?_) (fun c_12 => ?_)
      · skip
        refine lv_iconst (v := 0) hx hb dX12_pace_39 (by decide) ?_
        exact hj_16 0 _ _ ls (iv_w (⟨by decide, by decide⟩ : (0 : Int) ≤ (0 : Int32).toInt ∧ (0 : Int32).toInt ≤ 0) (by decide) (by decide)) hP hS (lv_sub hl [0, 1] rfl)
      · skip
        have i_13 : 1 ≤ v_9.toInt ∧ v_9.toInt ≤ 1 := iv_eq1 (⟨by decide, by decide⟩ : (1 : Int) ≤ (1 : Int32).toInt ∧ (1 : Int32).toInt ≤ 1) c_12
        refine lv_iconst (v := 4) hx hb dX12_pace_35 (by decide) ?_
        refine lv_goto (tgt := 40) hx hb dX12_pace_36 (by decide) ?_
        exact hj_16 4 _ _ ls (iv_w (⟨by decide, by decide⟩ : (4 : Int) ≤ (4 : Int32).toInt ∧ (4 : Int32).toInt ≤ 4) (by decide) (by decide)) hP hS (lv_sub hl [0, 1] rfl)
    · skip
      have i_14 : 0 ≤ v_9.toInt ∧ v_9.toInt ≤ 0 := iv_eq1 (⟨by decide, by decide⟩ : (0 : Int) ≤ (0 : Int32).toInt ∧ (0 : Int32).toInt ≤ 0) c_10
      refine lv_bipush (v := 9) hx hb dX12_pace_20 (by decide) ?_
      refine lv_goto (tgt := 40) hx hb dX12_pace_22 (by decide) ?_
      exact hj_16 9 _ _ ls (iv_w (⟨by decide, by decide⟩ : (9 : Int) ≤ (9 : Int32).toInt ∧ (9 : Int32).toInt ≤ 9) (by decide) (by decide)) hP hS (lv_sub hl [0, 1] rfl)
set_option maxHeartbeats 4000000 in
set_option maxRecDepth 100000 in
theorem m_walk (l : Launch) (dC : Nat → ClassId) (dI : Nat → Nat → Nat) (sz h : Nat) (ad : Nat → Nat) (cA : Nat → ClassId) (hd : dM h ad) (fv : Nat → Int32) (wd : Int64) (ar : Nat → Nat → Int32) (hF_fv : rF fv) (hA_ar : rA ar) (pp : Int32) (a : Int32) (b : Int32) (h_pp : 0 ≤ pp.toInt ∧ pp.toInt ≤ 39) (h_a : 0 ≤ a.toInt ∧ a.toInt ≤ 11) (h_b : 0 ≤ b.toInt ∧ b.toInt ≤ 11) : Met l yX12_walk (.code yX12_walk cX12_walk 4 (some .int) :: lw_good) ({ frames := 4, cells := 0, slots := 0, locals := 83 }) (va_Pc [.ref h, .int pp, .int a, .int b] (prM dC dI h ad cA fv wd ar sz)) (va_Qi (fun (r : Int32) (u : mS) => rF u.1 ∧ rA u.2.2 ∧ fM [8] fv u.1 ∧ fA [4] ar u.2.2 ∧ True) (enM dC dI h ad cA) (aM h ad sz)) 0 0 (aM h ad sz) := by
  refine Met.ofW (cc := cX12_walk) (maxL := 4) (ret := (some .int)) (by decide) rfl ?_
  intro p e s m args below meth c s₁ B hml hv
  obtain ⟨rfl, hsz, hP, hK⟩ := hv
  have hx := B.exec
  have hb := B.bytes
  have hr := B.returns
  have hts := atoms_spec (ws := (.code yX12_walk cX12_walk 4 (some .int) :: lw_good)) B.pre
  have htg : ∀ w ∈ lw_good, w.before _ s = true := fun w hw => hts w (List.mem_cons_of_mem _ hw)
  have hown : s.vm.findClass RX12 = some m.cls := findClass_of_methodNamed B.named
  have hlocks := B.notSynchronized
  subst hsz
  have hS : va_S (aM h ad s.heap.size) s.heap s.heap [] := va_S.rf
  have hl := lv_entry ([.ref h, .int pp, .int a, .int b]) (n := 4) (Nat.le_of_ble_eq_true rfl)
  rw [lg_entry_eq]
  generalize (lg_sl ([.ref h, .int pp, .int a, .int b]) ++ List.replicate (4 - (lg_sl ([.ref h, .int pp, .int a, .int b])).length) Slot.unset).toArray = ls at hl ⊢
  have hl : lv_has ls 4 [(0, .ref h), (1, .int pp), (2, .int a), (3, .int b)] := hl
  refine lv_aload_n hx hb dX12_walk_0 rfl (lv_at hl 0 rfl) ?_
  refine lv_iload_n hx hb dX12_walk_1 rfl (lv_at hl 2 rfl) ?_
  refine lv_iload_n hx hb dX12_walk_2 rfl (lv_at hl 3 rfl) ?_
  refine va_calli (va_runV (As := [.int a, .int b]) (rest := []) ⟨hx, hb, hml, hown, hts⟩ (m_farOf l dC dI s.heap.size h ad cA hd fv wd ar hF_fv hA_ar a b h_a h_b) (cwV 2 hts (gV kw_7_237 kw_7_239 kw_p_59 kw_1_15 kw_8_0) rfl rfl rfl (by decide +kernel) ⟨Nat.le_of_ble_eq_true rfl, Nat.le_of_ble_eq_true rfl⟩) ⟨fun a U g mk q => ⟨q.1, q.2.1, q.2.2.1, va_K.moved (u := U) (U := U.calling g mk a) (Vm.Alike.refl U.vm) q.2.2.2⟩, va_recv hK hP (ci := 12) (q0 := 0) rfl rfl, fun U hU hW => ⟨rfl, by rw [hU], by rw [hU]; exact hP, va_K.moved hW.alike hK⟩⟩ rfl rfl hl.1 rfl (lv_room (Nat.le_of_ble_eq_true rfl)) dX12_walk_3 ⟨Nat.le_of_ble_eq_true rfl, Nat.le_of_ble_eq_true rfl⟩) hS (fun q _ h9 => aM_up hS q h9) (aM_up hS) (fun r_1 u t H1 locs ht _ hw hB _ hk1 hS => ?_)
  obtain ⟨fv_2, wd_3, ar_4⟩ := u
  obtain ⟨hF_fv_2, hA_ar_4, fr_5, fa_6, -⟩ := hw
  have hP : va_P (dC, dI) vwCl (wsM h ad cA fv_2 wd_3 ar_4) H1 := by have h9 := hB.1; rw [ht] at h9; exact h9
  have fr_5 : fM [8] fv fv_2 := fr_5
  have fa_6 : fA [4] ar ar_4 := fa_6
  generalize H1 = H at hP hS ⊢
  refine lv_aload_n hx hb dX12_walk_6 rfl (lv_at hl 0 rfl) ?_
  refine lv_iload_n hx hb dX12_walk_7 rfl (lv_at hl 1 rfl) ?_
  refine va_calli (va_runV (As := [.int pp]) (rest := [.int r_1]) ⟨hx, hb, hml, hown, hts⟩ (m_pace l dC dI H.size h ad cA hd fv_2 wd_3 ar_4 hF_fv_2 hA_ar_4 pp h_pp) (cwV 1 hts (gV kw_8_212 kw_8_214 kw_p_93 kw_1_15 kw_8_215) rfl rfl rfl (by decide +kernel) ⟨Nat.le_of_ble_eq_true rfl, Nat.le_of_ble_eq_true rfl⟩) ⟨fun a U g mk q => ⟨q.1, q.2.1, q.2.2.1, va_K.moved (u := U) (U := U.calling g mk a) (Vm.Alike.refl U.vm) q.2.2.2⟩, va_recv hK hP (ci := 12) (q0 := 0) rfl rfl, fun U hU hW => ⟨rfl, by rw [hU], by rw [hU]; exact hP, va_K.moved hW.alike hK⟩⟩ rfl rfl hl.1 rfl (lv_room (Nat.le_of_ble_eq_true rfl)) dX12_walk_8 ⟨Nat.le_of_ble_eq_true rfl, Nat.le_of_ble_eq_true rfl⟩) hS (fun q _ h9 => aM_up hS q h9) (aM_up hS) (fun r_7 u t H1 locs ht _ hw hB _ hk1 hS => ?_)
  obtain ⟨fv_8, wd_9, ar_10⟩ := u
  obtain ⟨hF_fv_8, hA_ar_10, fr_11, fa_12, -⟩ := hw
  have hP : va_P (dC, dI) vwCl (wsM h ad cA fv_8 wd_9 ar_10) H1 := by have h9 := hB.1; rw [ht] at h9; exact h9
  have fr_11 : fM [] fv_2 fv_8 := fr_11
  have fa_12 : fA [] ar_4 ar_10 := fa_12
  generalize H1 = H at hP hS ⊢
  refine lv_imul hx hb dX12_walk_11 ?_
  refine lv_topi (fun v_13 ev_13 => ?_)
  refine lv_bipush (v := 9) hx hb dX12_walk_12 (by decide) ?_
  refine lv_iadd hx hb dX12_walk_14 ?_
  refine lv_topi (fun v_14 ev_14 => ?_)
  refine lv_bipush (v := 10) hx hb dX12_walk_15 (by decide) ?_
  refine lv_idiv hx hb dX12_walk_17 (by decide) ?_
  refine lv_topi (fun v_15 ev_15 => ?_)
  exact W.iret (v := v_15) hx hb hr (fun t ht hW => ⟨⟨v_15, (fv_8, wd_9, ar_10), rfl, ⟨hF_fv_8, hA_ar_10, (fM_call (fM_call (fM_rf [8] _) fr_5 (by decide)) fr_11 (by decide)), (fA_call (fA_call (fA_rf [4] _) fa_6 (by decide)) fa_12 (by decide)), trivial⟩, ⟨by rw [ht]; exact hP, va_K.moved hW.alike hK⟩⟩, hS.F ht⟩) hS.2.2 dX12_walk_18
set_option maxHeartbeats 4000000 in
set_option maxRecDepth 100000 in
theorem m_tripFar (l : Launch) (dC : Nat → ClassId) (dI : Nat → Nat → Nat) (sz h : Nat) (ad : Nat → Nat) (cA : Nat → ClassId) (hd : dM h ad) (fv : Nat → Int32) (wd : Int64) (ar : Nat → Nat → Int32) (hF_fv : rF fv) (hA_ar : rA ar) (kk : Int32) (h_kk : 0 ≤ kk.toInt ∧ kk.toInt ≤ 79) : Met l yX12_tripFar (.code yX12_tripFar cX12_tripFar 2 (some .int) :: lw_good) ({ frames := 4, cells := 0, slots := 0, locals := 83 }) (va_Pc [.ref h, .int kk] (prM dC dI h ad cA fv wd ar sz)) (va_Qi (fun (r : Int32) (u : mS) => rF u.1 ∧ rA u.2.2 ∧ fM [8] fv u.1 ∧ fA [4] ar u.2.2 ∧ True) (enM dC dI h ad cA) (aM h ad sz)) 0 0 (aM h ad sz) := by
  refine Met.ofW (cc := cX12_tripFar) (maxL := 2) (ret := (some .int)) (by decide) rfl ?_
  intro p e s m args below meth c s₁ B hml hv
  obtain ⟨rfl, hsz, hP, hK⟩ := hv
  have hx := B.exec
  have hb := B.bytes
  have hr := B.returns
  have hts := atoms_spec (ws := (.code yX12_tripFar cX12_tripFar 2 (some .int) :: lw_good)) B.pre
  have htg : ∀ w ∈ lw_good, w.before _ s = true := fun w hw => hts w (List.mem_cons_of_mem _ hw)
  have hown : s.vm.findClass RX12 = some m.cls := findClass_of_methodNamed B.named
  have hlocks := B.notSynchronized
  subst hsz
  have hS : va_S (aM h ad s.heap.size) s.heap s.heap [] := va_S.rf
  have hl := lv_entry ([.ref h, .int kk]) (n := 2) (Nat.le_of_ble_eq_true rfl)
  rw [lg_entry_eq]
  generalize (lg_sl ([.ref h, .int kk]) ++ List.replicate (2 - (lg_sl ([.ref h, .int kk])).length) Slot.unset).toArray = ls at hl ⊢
  have hl : lv_has ls 2 [(0, .ref h), (1, .int kk)] := hl
  refine lv_aload_n hx hb dX12_tripFar_0 rfl (lv_at hl 0 rfl) ?_
  refine lv_aload_n hx hb dX12_tripFar_1 rfl (lv_at hl 0 rfl) ?_
  refine gM_19 hx hb htg hown hK hP dX12_tripFar_2 ?_
  refine lv_aload_n hx hb dX12_tripFar_5 rfl (lv_at hl 0 rfl) ?_
  refine gM_26 hx hb htg hown hK hP dX12_tripFar_6 ?_
  refine lv_iload_n hx hb dX12_tripFar_9 rfl (lv_at hl 1 rfl) ?_
  refine lM_26 hx hb hK hP (iv_in h_kk (by decide) (by decide)) dX12_tripFar_10 (fun v_1 ev_1 => ?_)
  have i_2 : 0 ≤ v_1.toInt ∧ v_1.toInt ≤ 7 := ev_1 ▸ hA_ar 26 _
  refine lM_19 hx hb hK hP (iv_in i_2 (by decide) (by decide)) dX12_tripFar_11 (fun v_3 ev_3 => ?_)
  have i_4 : 0 ≤ v_3.toInt ∧ v_3.toInt ≤ 11 := ev_3 ▸ hA_ar 19 _
  refine lv_aload_n hx hb dX12_tripFar_12 rfl (lv_at hl 0 rfl) ?_
  refine gM_19 hx hb htg hown hK hP dX12_tripFar_13 ?_
  refine lv_aload_n hx hb dX12_tripFar_16 rfl (lv_at hl 0 rfl) ?_
  refine gM_27 hx hb htg hown hK hP dX12_tripFar_17 ?_
  refine lv_iload_n hx hb dX12_tripFar_20 rfl (lv_at hl 1 rfl) ?_
  refine lM_27 hx hb hK hP (iv_in h_kk (by decide) (by decide)) dX12_tripFar_21 (fun v_5 ev_5 => ?_)
  have i_6 : 0 ≤ v_5.toInt ∧ v_5.toInt ≤ 7 := ev_5 ▸ hA_ar 27 _
  refine lM_19 hx hb hK hP (iv_in i_6 (by decide) (by decide)) dX12_tripFar_22 (fun v_7 ev_7 => ?_)
  have i_8 : 0 ≤ v_7.toInt ∧ v_7.toInt ≤ 11 := ev_7 ▸ hA_ar 19 _
  refine va_calli (va_runV (As := [.int v_3, .int v_7]) (rest := []) ⟨hx, hb, hml, hown, hts⟩ (m_farOf l dC dI s.heap.size h ad cA hd fv wd ar hF_fv hA_ar v_3 v_7 i_4 i_8) (cwV 2 hts (gV kw_7_237 kw_7_239 kw_p_59 kw_1_15 kw_8_0) rfl rfl rfl (by decide +kernel) ⟨Nat.le_of_ble_eq_true rfl, Nat.le_of_ble_eq_true rfl⟩) ⟨fun a U g mk q => ⟨q.1, q.2.1, q.2.2.1, va_K.moved (u := U) (U := U.calling g mk a) (Vm.Alike.refl U.vm) q.2.2.2⟩, va_recv hK hP (ci := 12) (q0 := 0) rfl rfl, fun U hU hW => ⟨rfl, by rw [hU], by rw [hU]; exact hP, va_K.moved hW.alike hK⟩⟩ rfl rfl hl.1 rfl (lv_room (Nat.le_of_ble_eq_true rfl)) dX12_tripFar_23 ⟨Nat.le_of_ble_eq_true rfl, Nat.le_of_ble_eq_true rfl⟩) hS (fun q _ h9 => aM_up hS q h9) (aM_up hS) (fun r_9 u t H1 locs ht _ hw hB _ hk1 hS => ?_)
  obtain ⟨fv_10, wd_11, ar_12⟩ := u
  obtain ⟨hF_fv_10, hA_ar_12, fr_13, fa_14, -⟩ := hw
  have hP : va_P (dC, dI) vwCl (wsM h ad cA fv_10 wd_11 ar_12) H1 := by have h9 := hB.1; rw [ht] at h9; exact h9
  have fr_13 : fM [8] fv fv_10 := fr_13
  have fa_14 : fA [4] ar ar_12 := fa_14
  generalize H1 = H at hP hS ⊢
  exact W.iret (v := r_9) hx hb hr (fun t ht hW => ⟨⟨r_9, (fv_10, wd_11, ar_12), rfl, ⟨hF_fv_10, hA_ar_12, (fM_call (fM_rf [8] _) fr_13 (by decide)), (fA_call (fA_rf [4] _) fa_14 (by decide)), trivial⟩, ⟨by rw [ht]; exact hP, va_K.moved hW.alike hK⟩⟩, hS.F ht⟩) hS.2.2 dX12_tripFar_26
set_option maxHeartbeats 4000000 in
set_option maxRecDepth 100000 in
theorem m_drive (l : Launch) (dC : Nat → ClassId) (dI : Nat → Nat → Nat) (sz h : Nat) (ad : Nat → Nat) (cA : Nat → ClassId) (hd : dM h ad) (fv : Nat → Int32) (wd : Int64) (ar : Nat → Nat → Int32) (hF_fv : rF fv) (hA_ar : rA ar) (kk : Int32) (h_kk : 0 ≤ kk.toInt ∧ kk.toInt ≤ 79) : Met l yX12_drive (.code yX12_drive cX12_drive 5 (some .int) :: lw_good) ({ frames := 5, cells := 0, slots := 0, locals := 104 }) (va_Pc [.ref h, .int kk] (prM dC dI h ad cA fv wd ar sz)) (va_Qi (fun (r : Int32) (u : mS) => rF u.1 ∧ rA u.2.2 ∧ fM [8] fv u.1 ∧ fA [4] ar u.2.2 ∧ True) (enM dC dI h ad cA) (aM h ad sz)) 0 0 (aM h ad sz) := by
  refine Met.ofW (cc := cX12_drive) (maxL := 5) (ret := (some .int)) (by decide) rfl ?_
  intro p e s m args below meth c s₁ B hml hv
  obtain ⟨rfl, hsz, hP, hK⟩ := hv
  have hx := B.exec
  have hb := B.bytes
  have hr := B.returns
  have hts := atoms_spec (ws := (.code yX12_drive cX12_drive 5 (some .int) :: lw_good)) B.pre
  have htg : ∀ w ∈ lw_good, w.before _ s = true := fun w hw => hts w (List.mem_cons_of_mem _ hw)
  have hown : s.vm.findClass RX12 = some m.cls := findClass_of_methodNamed B.named
  have hlocks := B.notSynchronized
  subst hsz
  have hS : va_S (aM h ad s.heap.size) s.heap s.heap [] := va_S.rf
  have hl := lv_entry ([.ref h, .int kk]) (n := 5) (Nat.le_of_ble_eq_true rfl)
  rw [lg_entry_eq]
  generalize (lg_sl ([.ref h, .int kk]) ++ List.replicate (5 - (lg_sl ([.ref h, .int kk])).length) Slot.unset).toArray = ls at hl ⊢
  have hl : lv_has ls 5 [(0, .ref h), (1, .int kk)] := hl
  refine lv_aload_n hx hb dX12_drive_0 rfl (lv_at hl 0 rfl) ?_
  refine gM_25 hx hb htg hown hK hP dX12_drive_1 ?_
  refine lv_iload_n hx hb dX12_drive_4 rfl (lv_at hl 1 rfl) ?_
  refine lM_25 hx hb hK hP (iv_in h_kk (by decide) (by decide)) dX12_drive_5 (fun v_1 ev_1 => ?_)
  have i_2 : 0 ≤ v_1.toInt ∧ v_1.toInt ≤ 19 := ev_1 ▸ hA_ar 25 _
  refine lv_istore_n (lv' := [(2, .int v_1), (0, .ref h), (1, .int kk)]) hx hb dX12_drive_6 rfl hl (by decide) rfl (fun ls hl => ?_)
  refine lv_aload_n hx hb dX12_drive_7 rfl (lv_at hl 1 rfl) ?_
  refine gM_20 hx hb htg hown hK hP dX12_drive_8 ?_
  refine lv_iload_n hx hb dX12_drive_11 rfl (lv_at hl 0 rfl) ?_
  refine lM_20 hx hb hK hP (iv_in i_2 (by decide) (by decide)) dX12_drive_12 (fun v_3 ev_3 => ?_)
  refine lv_iconst (v := 1) hx hb dX12_drive_13 (by decide) ?_
  refine my_cut (P := fun R9 a9 Q9 => ∀ (x_6 : Int32) (H : Heap) (locs : List Loc) (ls : Array Slot), (3 ≤ x_6.toInt ∧ x_6.toInt ≤ 4) → va_P (dC, dI) vwCl (wsM h ad cA fv wd ar) H → va_S (aM h ad s.heap.size) s.heap H locs → lv_has ls 5 [(0, .ref h), (1, .int kk), (2, .int v_1)] → W p l e R9 s m a9 below meth c H locs 0 0 Q9 (F0 m 22 ls [.int x_6])) ?_ (fun hj_7 => ?_)
  · intro x_6 H locs ls i_x_6 hP hS hl
    refine lv_istore_n (lv' := [(3, .int x_6), (0, .ref h), (1, .int kk), (2, .int v_1)]) hx hb dX12_drive_22 rfl hl (by decide) rfl (fun ls hl => ?_)
    refine lv_aload_n hx hb dX12_drive_23 rfl (lv_at hl 1 rfl) ?_
    refine gM_20 hx hb htg hown hK hP dX12_drive_24 ?_
    refine lv_iload_n hx hb dX12_drive_27 rfl (lv_at hl 3 rfl) ?_
    refine lM_20 hx hb hK hP (iv_in i_2 (by decide) (by decide)) dX12_drive_28 (fun v_8 ev_8 => ?_)
    obtain rfl : v_3 = v_8 := ev_3.trans ev_8.symm
    refine lv_iconst (v := 2) hx hb dX12_drive_29 (by decide) ?_
    refine my_cut (P := fun R9 a9 Q9 => ∀ (x_24 : Int32) (fv_25 : Nat → Int32) (ar_27 : Nat → Nat → Int32) (wd_29 : Int64) (H : Heap) (locs : List Loc) (ls : Array Slot), (3 ≤ x_24.toInt ∧ x_24.toInt ≤ 5) → rF fv_25 → fM [] fv fv_25 → rA ar_27 → fA [] ar ar_27 → va_P (dC, dI) vwCl (wsM h ad cA fv_25 wd_29 ar_27) H → va_S (aM h ad s.heap.size) s.heap H locs → lv_has ls 5 [(0, .ref h), (1, .int kk), (3, .int x_24)] → W p l e R9 s m a9 below meth c H locs 0 0 Q9 (F0 m 48 ls [])) ?_ (fun hj_30 => ?_)
    · intro x_24 fv_25 ar_27 wd_29 H locs ls i_x_24 hF_fv_25 fr_26 hA_ar_27 fa_28 hP hS hl
      refine lv_aload_n hx hb dX12_drive_48 rfl (lv_at hl 0 rfl) ?_
      refine lv_iload_n hx hb dX12_drive_49 rfl (lv_at hl 1 rfl) ?_
      refine va_calli (va_runV (As := [.int kk]) (rest := []) ⟨hx, hb, hml, hown, hts⟩ (m_tripFar l dC dI H.size h ad cA hd fv_25 wd_29 ar_27 hF_fv_25 hA_ar_27 kk h_kk) (cwV 1 hts (gV kw_8_200 kw_8_202 kw_p_90 kw_1_15 kw_8_203) rfl rfl rfl (by decide +kernel) ⟨Nat.le_of_ble_eq_true rfl, Nat.le_of_ble_eq_true rfl⟩) ⟨fun a U g mk q => ⟨q.1, q.2.1, q.2.2.1, va_K.moved (u := U) (U := U.calling g mk a) (Vm.Alike.refl U.vm) q.2.2.2⟩, va_recv hK hP (ci := 12) (q0 := 0) rfl rfl, fun U hU hW => ⟨rfl, by rw [hU], by rw [hU]; exact hP, va_K.moved hW.alike hK⟩⟩ rfl rfl hl.1 rfl (lv_room (Nat.le_of_ble_eq_true rfl)) dX12_drive_50 ⟨Nat.le_of_ble_eq_true rfl, Nat.le_of_ble_eq_true rfl⟩) hS (fun q _ h9 => aM_up hS q h9) (aM_up hS) (fun r_31 u t H1 locs ht _ hw hB _ hk1 hS => ?_)
      obtain ⟨fv_32, wd_33, ar_34⟩ := u
      obtain ⟨hF_fv_32, hA_ar_34, fr_35, fa_36, -⟩ := hw
      have hP : va_P (dC, dI) vwCl (wsM h ad cA fv_32 wd_33 ar_34) H1 := by have h9 := hB.1; rw [ht] at h9; exact h9
      have fr_35 : fM [8] fv_25 fv_32 := fr_35
      have fa_36 : fA [4] ar_27 ar_34 := fa_36
      generalize H1 = H at hP hS ⊢
      refine lv_iload_n hx hb dX12_drive_53 rfl (lv_at hl 2 rfl) ?_
      refine lv_imul hx hb dX12_drive_54 ?_
      refine lv_topi (fun v_37 ev_37 => ?_)
      refine lv_bipush (v := 9) hx hb dX12_drive_55 (by decide) ?_
      refine lv_iadd hx hb dX12_drive_57 ?_
      refine lv_topi (fun v_38 ev_38 => ?_)
      refine lv_bipush (v := 10) hx hb dX12_drive_58 (by decide) ?_
      refine lv_idiv hx hb dX12_drive_60 (by decide) ?_
      refine lv_topi (fun v_39 ev_39 => ?_)
      refine lv_istore (lv' := [(4, .int v_39), (0, .ref h), (1, .int kk), (3, .int x_24)]) hx hb dX12_drive_61 hl (by decide) rfl (fun ls hl => ?_)
      refine lv_iload hx hb dX12_drive_63 (lv_at hl 0 rfl) ?_
      refine lv_iconst (v := 1) hx hb dX12_drive_65 (by decide) ?_
      refine lv_icmp_ge (tgt := 73) hx hb dX12_drive_66 (by decide) (fun c_40 => ?_) (fun c_40 => ?_)
      · skip
        have i_41 : 1 ≤ v_39.toInt ∧ v_39.toInt ≤ 2147483647 := iv_le2 (⟨by decide, by decide⟩ : (1 : Int) ≤ (1 : Int32).toInt ∧ (1 : Int32).toInt ≤ 1) (iv_any v_39) c_40
        refine lv_iload hx hb dX12_drive_73 (lv_at hl 0 rfl) ?_
        exact W.iret (v := v_39) hx hb hr (fun t ht hW => ⟨⟨v_39, (fv_32, wd_33, ar_34), rfl, ⟨hF_fv_32, hA_ar_34, (fM_call (fM_call (fM_rf [8] _) fr_26 (by decide)) fr_35 (by decide)), (fA_call (fA_call (fA_rf [4] _) fa_28 (by decide)) fa_36 (by decide)), trivial⟩, ⟨by rw [ht]; exact hP, va_K.moved hW.alike hK⟩⟩, hS.F ht⟩) hS.2.2 dX12_drive_75
      · skip
        have i_42 : (-2147483648) ≤ v_39.toInt ∧ v_39.toInt ≤ 0 := iv_lt1 (iv_any v_39) (⟨by decide, by decide⟩ : (1 : Int) ≤ (1 : Int32).toInt ∧ (1 : Int32).toInt ≤ 1) (Int32.not_le.mp c_40)
        refine lv_iconst (v := 1) hx hb dX12_drive_69 (by decide) ?_
        refine lv_goto (tgt := 75) hx hb dX12_drive_70 (by decide) ?_
        exact W.iret (v := 1) hx hb hr (fun t ht hW => ⟨⟨1, (fv_32, wd_33, ar_34), rfl, ⟨hF_fv_32, hA_ar_34, (fM_call (fM_call (fM_rf [8] _) fr_26 (by decide)) fr_35 (by decide)), (fA_call (fA_call (fA_rf [4] _) fa_28 (by decide)) fa_36 (by decide)), trivial⟩, ⟨by rw [ht]; exact hP, va_K.moved hW.alike hK⟩⟩, hS.F ht⟩) hS.2.2 dX12_drive_75
    · skip
      refine lv_icmp_eq (tgt := 48) hx hb dX12_drive_30 (by decide) (fun c_9 => ?_) (fun c_9 => ?_)
      · skip
        have i_10 : 2 ≤ v_3.toInt ∧ v_3.toInt ≤ 2 := iv_eq1 (⟨by decide, by decide⟩ : (2 : Int) ≤ (2 : Int32).toInt ∧ (2 : Int32).toInt ≤ 2) c_9
        exact hj_30 x_6 fv ar wd _ _ ls (iv_w i_x_6 (by decide) (by decide)) hF_fv (fM_rf [] _) hA_ar (fA_rf [] _) hP hS (lv_sub hl [1, 2, 0] rfl)
      · skip
        refine lv_aload_n hx hb dX12_drive_33 rfl (lv_at hl 1 rfl) ?_
        refine lv_aload_n hx hb dX12_drive_34 rfl (lv_at hl 1 rfl) ?_
        refine gM_3 hx hb htg hown hK hP dX12_drive_35 ?_
        have i_11 : 0 ≤ (fv 3).toInt ∧ (fv 3).toInt ≤ 199 := hF_fv 3
        refine va_calli (va_runV (As := [.int (fv 3)]) (rest := []) ⟨hx, hb, hml, hown, hts⟩ (m_rainOf l dC dI H.size h ad cA hd fv wd ar hF_fv hA_ar (fv 3) i_11) (cwV 1 hts (gV kw_8_16 kw_8_18 kw_p_61 kw_1_15 kw_8_19) rfl rfl rfl (by decide +kernel) ⟨Nat.le_of_ble_eq_true rfl, Nat.le_of_ble_eq_true rfl⟩) ⟨fun a U g mk q => ⟨q.1, q.2.1, q.2.2.1, va_K.moved (u := U) (U := U.calling g mk a) (Vm.Alike.refl U.vm) q.2.2.2⟩, va_recv hK hP (ci := 12) (q0 := 0) rfl rfl, fun U hU hW => ⟨rfl, by rw [hU], by rw [hU]; exact hP, va_K.moved hW.alike hK⟩⟩ rfl rfl hl.1 rfl (lv_room (Nat.le_of_ble_eq_true rfl)) dX12_drive_38 ⟨Nat.le_of_ble_eq_true rfl, Nat.le_of_ble_eq_true rfl⟩) hS (fun q _ h9 => aM_up hS q h9) (aM_up hS) (fun r_12 u t H1 locs ht _ hw hB _ hk1 hS => ?_)
        obtain ⟨fv_13, wd_14, ar_15⟩ := u
        obtain ⟨hF_fv_13, hA_ar_15, fr_16, fa_17, -⟩ := hw
        have hP : va_P (dC, dI) vwCl (wsM h ad cA fv_13 wd_14 ar_15) H1 := by have h9 := hB.1; rw [ht] at h9; exact h9
        have fr_16 : fM [] fv fv_13 := fr_16
        have fa_17 : fA [] ar ar_15 := fa_17
        generalize H1 = H at hP hS ⊢
        refine lv_iconst (v := 4) hx hb dX12_drive_41 (by decide) ?_
        refine lv_icmp_le (tgt := 48) hx hb dX12_drive_42 (by decide) (fun c_18 => ?_) (fun c_18 => ?_)
        · skip
          have i_19 : (-2147483648) ≤ r_12.toInt ∧ r_12.toInt ≤ 4 := iv_le1 (iv_any r_12) (⟨by decide, by decide⟩ : (4 : Int) ≤ (4 : Int32).toInt ∧ (4 : Int32).toInt ≤ 4) c_18
          exact hj_30 x_6 fv_13 ar_15 wd_14 _ _ ls (iv_w i_x_6 (by decide) (by decide)) hF_fv_13 (fM_call (fM_rf [] _) fr_16 (by decide)) hA_ar_15 (fA_call (fA_rf [] _) fa_17 (by decide)) hP hS (lv_sub hl [1, 2, 0] rfl)
        · skip
          have i_20 : 5 ≤ r_12.toInt ∧ r_12.toInt ≤ 2147483647 := iv_lt2 (⟨by decide, by decide⟩ : (4 : Int) ≤ (4 : Int32).toInt ∧ (4 : Int32).toInt ≤ 4) (iv_any r_12) (Int32.not_le.mp c_18)
          obtain ⟨v_21, ev_21⟩ : ∃ z : Int32, z = x_6 + 1 := ⟨_, rfl⟩
          refine lv_iinc (v := v_21) (lv' := [(3, .int v_21), (0, .ref h), (1, .int kk), (2, .int v_1)]) hx hb dX12_drive_45 hl (k := 0) rfl (by rw [ev_21]; rfl) (by decide) rfl (fun ls hl => ?_)
          have t_22 : v_21.toInt = x_6.toInt + 1 ∧ 4 ≤ v_21.toInt ∧ v_21.toInt ≤ 5 := iv_addc ev_21 i_x_6 (by decide) (by decide) (by decide)
          exact hj_30 v_21 fv_13 ar_15 wd_14 _ _ ls (iv_w t_22.2 (by decide) (by decide)) hF_fv_13 (fM_call (fM_rf [] _) fr_16 (by decide)) hA_ar_15 (fA_call (fA_rf [] _) fa_17 (by decide)) hP hS (lv_sub hl [1, 2, 0] rfl)
  · skip
    refine lv_icmp_ne (tgt := 21) hx hb dX12_drive_14 (by decide) (fun c_4 => ?_) (fun c_4 => ?_)
    · skip
      refine lv_iconst (v := 3) hx hb dX12_drive_21 (by decide) ?_
      exact hj_7 3 _ _ ls (iv_w (⟨by decide, by decide⟩ : (3 : Int) ≤ (3 : Int32).toInt ∧ (3 : Int32).toInt ≤ 3) (by decide) (by decide)) hP hS (lv_sub hl [1, 2, 0] rfl)
    · skip
      have i_5 : 1 ≤ v_3.toInt ∧ v_3.toInt ≤ 1 := iv_eq1 (⟨by decide, by decide⟩ : (1 : Int) ≤ (1 : Int32).toInt ∧ (1 : Int32).toInt ≤ 1) c_4
      refine lv_iconst (v := 4) hx hb dX12_drive_17 (by decide) ?_
      refine lv_goto (tgt := 22) hx hb dX12_drive_18 (by decide) ?_
      exact hj_7 4 _ _ ls (iv_w (⟨by decide, by decide⟩ : (4 : Int) ≤ (4 : Int32).toInt ∧ (4 : Int32).toInt ≤ 4) (by decide) (by decide)) hP hS (lv_sub hl [1, 2, 0] rfl)
set_option maxHeartbeats 4000000 in
set_option maxRecDepth 100000 in
theorem m_runsToday (l : Launch) (dC : Nat → ClassId) (dI : Nat → Nat → Nat) (sz h : Nat) (ad : Nat → Nat) (cA : Nat → ClassId) (hd : dM h ad) (fv : Nat → Int32) (wd : Int64) (ar : Nat → Nat → Int32) (hF_fv : rF fv) (hA_ar : rA ar) (kk : Int32) (h_kk : 0 ≤ kk.toInt ∧ kk.toInt ≤ 79) : Met l yX12_runsToday (.code yX12_runsToday cX12_runsToday 2 (some .boolean) :: lw_good) ({ frames := 2, cells := 0, slots := 0, locals := 40 }) (va_Pc [.ref h, .int kk] (prM dC dI h ad cA fv wd ar sz)) (va_Qi (fun (r : Int32) (u : mS) => rF u.1 ∧ rA u.2.2 ∧ fM [] fv u.1 ∧ fA [] ar u.2.2 ∧ (0 ≤ r.toInt ∧ r.toInt ≤ 1) ∧ True) (enM dC dI h ad cA) (aM h ad sz)) 0 0 (aM h ad sz) := by
  refine Met.ofW (cc := cX12_runsToday) (maxL := 2) (ret := (some .boolean)) (by decide) rfl ?_
  intro p e s m args below meth c s₁ B hml hv
  obtain ⟨rfl, hsz, hP, hK⟩ := hv
  have hx := B.exec
  have hb := B.bytes
  have hr := B.returns
  have hts := atoms_spec (ws := (.code yX12_runsToday cX12_runsToday 2 (some .boolean) :: lw_good)) B.pre
  have htg : ∀ w ∈ lw_good, w.before _ s = true := fun w hw => hts w (List.mem_cons_of_mem _ hw)
  have hown : s.vm.findClass RX12 = some m.cls := findClass_of_methodNamed B.named
  have hlocks := B.notSynchronized
  subst hsz
  have hS : va_S (aM h ad s.heap.size) s.heap s.heap [] := va_S.rf
  have hl := lv_entry ([.ref h, .int kk]) (n := 2) (Nat.le_of_ble_eq_true rfl)
  rw [lg_entry_eq]
  generalize (lg_sl ([.ref h, .int kk]) ++ List.replicate (2 - (lg_sl ([.ref h, .int kk])).length) Slot.unset).toArray = ls at hl ⊢
  have hl : lv_has ls 2 [(0, .ref h), (1, .int kk)] := hl
  refine lv_aload_n hx hb dX12_runsToday_0 rfl (lv_at hl 0 rfl) ?_
  refine gM_25 hx hb htg hown hK hP dX12_runsToday_1 ?_
  refine lv_iload_n hx hb dX12_runsToday_4 rfl (lv_at hl 1 rfl) ?_
  refine lM_25 hx hb hK hP (iv_in h_kk (by decide) (by decide)) dX12_runsToday_5 (fun v_1 ev_1 => ?_)
  have i_2 : 0 ≤ v_1.toInt ∧ v_1.toInt ≤ 19 := ev_1 ▸ hA_ar 25 _
  refine lv_aload_n hx hb dX12_runsToday_6 rfl (lv_at hl 0 rfl) ?_
  refine gM_84 hx hb htg hown hK hP dX12_runsToday_7 ?_
  refine lv_icmp_eq (tgt := 43) hx hb dX12_runsToday_10 (by decide) (fun c_3 => ?_) (fun c_3 => ?_)
  · skip
    have i_4 : 0 ≤ (fv 84).toInt ∧ (fv 84).toInt ≤ 19 := iv_eq1 i_2 c_3.symm
    refine lv_iconst (v := 0) hx hb dX12_runsToday_43 (by decide) ?_
    exact W.zret (v := 0) hx hb hr (by decide) (fun t ht hW => ⟨⟨0, (fv, wd, ar), rfl, ⟨hF_fv, hA_ar, (fM_rf [] _), (fA_rf [] _), (iv_w (⟨by decide, by decide⟩ : (0 : Int) ≤ (0 : Int32).toInt ∧ (0 : Int32).toInt ≤ 0) (by decide) (by decide)), trivial⟩, ⟨by rw [ht]; exact hP, va_K.moved hW.alike hK⟩⟩, hS.F ht⟩) hS.2.2 dX12_runsToday_44
  · skip
    refine lv_aload_n hx hb dX12_runsToday_13 rfl (lv_at hl 0 rfl) ?_
    refine gM_29 hx hb htg hown hK hP dX12_runsToday_14 ?_
    refine lv_iload_n hx hb dX12_runsToday_17 rfl (lv_at hl 1 rfl) ?_
    refine lM_29 hx hb hK hP (iv_in h_kk (by decide) (by decide)) dX12_runsToday_18 (fun v_5 ev_5 => ?_)
    refine lv_aload_n hx hb dX12_runsToday_19 rfl (lv_at hl 0 rfl) ?_
    refine gM_3 hx hb htg hown hK hP dX12_runsToday_20 ?_
    have i_6 : 0 ≤ (fv 3).toInt ∧ (fv 3).toInt ≤ 199 := hF_fv 3
    refine lv_icmp_gt (tgt := 43) hx hb dX12_runsToday_23 (by decide) (fun c_7 => ?_) (fun c_7 => ?_)
    · skip
      have i_8 : 1 ≤ v_5.toInt ∧ v_5.toInt ≤ 2147483647 := iv_lt2 i_6 (iv_any v_5) c_7
      refine lv_iconst (v := 0) hx hb dX12_runsToday_43 (by decide) ?_
      exact W.zret (v := 0) hx hb hr (by decide) (fun t ht hW => ⟨⟨0, (fv, wd, ar), rfl, ⟨hF_fv, hA_ar, (fM_rf [] _), (fA_rf [] _), (iv_w (⟨by decide, by decide⟩ : (0 : Int) ≤ (0 : Int32).toInt ∧ (0 : Int32).toInt ≤ 0) (by decide) (by decide)), trivial⟩, ⟨by rw [ht]; exact hP, va_K.moved hW.alike hK⟩⟩, hS.F ht⟩) hS.2.2 dX12_runsToday_44
    · skip
      have i_9 : (-2147483648) ≤ v_5.toInt ∧ v_5.toInt ≤ 199 := iv_le1 (iv_any v_5) i_6 (Int32.not_lt.mp c_7)
      refine lv_aload_n hx hb dX12_runsToday_26 rfl (lv_at hl 0 rfl) ?_
      refine gM_3 hx hb htg hown hK hP dX12_runsToday_27 ?_
      refine lv_aload_n hx hb dX12_runsToday_30 rfl (lv_at hl 0 rfl) ?_
      refine gM_30 hx hb htg hown hK hP dX12_runsToday_31 ?_
      refine lv_iload_n hx hb dX12_runsToday_34 rfl (lv_at hl 1 rfl) ?_
      refine lM_30 hx hb hK hP (iv_in h_kk (by decide) (by decide)) dX12_runsToday_35 (fun v_10 ev_10 => ?_)
      refine lv_icmp_gt (tgt := 43) hx hb dX12_runsToday_36 (by decide) (fun c_11 => ?_) (fun c_11 => ?_)
      · skip
        have i_12 : (-2147483648) ≤ v_10.toInt ∧ v_10.toInt ≤ 198 := iv_lt1 (iv_any v_10) i_6 c_11
        refine lv_iconst (v := 0) hx hb dX12_runsToday_43 (by decide) ?_
        exact W.zret (v := 0) hx hb hr (by decide) (fun t ht hW => ⟨⟨0, (fv, wd, ar), rfl, ⟨hF_fv, hA_ar, (fM_rf [] _), (fA_rf [] _), (iv_w (⟨by decide, by decide⟩ : (0 : Int) ≤ (0 : Int32).toInt ∧ (0 : Int32).toInt ≤ 0) (by decide) (by decide)), trivial⟩, ⟨by rw [ht]; exact hP, va_K.moved hW.alike hK⟩⟩, hS.F ht⟩) hS.2.2 dX12_runsToday_44
      · skip
        have i_13 : 0 ≤ v_10.toInt ∧ v_10.toInt ≤ 2147483647 := iv_le2 i_6 (iv_any v_10) (Int32.not_lt.mp c_11)
        refine lv_iconst (v := 1) hx hb dX12_runsToday_39 (by decide) ?_
        refine lv_goto (tgt := 44) hx hb dX12_runsToday_40 (by decide) ?_
        exact W.zret (v := 1) hx hb hr (by decide) (fun t ht hW => ⟨⟨1, (fv, wd, ar), rfl, ⟨hF_fv, hA_ar, (fM_rf [] _), (fA_rf [] _), (iv_w (⟨by decide, by decide⟩ : (1 : Int) ≤ (1 : Int32).toInt ∧ (1 : Int32).toInt ≤ 1) (by decide) (by decide)), trivial⟩, ⟨by rw [ht]; exact hP, va_K.moved hW.alike hK⟩⟩, hS.F ht⟩) hS.2.2 dX12_runsToday_44
set_option maxHeartbeats 4000000 in
set_option maxRecDepth 100000 in
theorem m_isHeard (l : Launch) (dC : Nat → ClassId) (dI : Nat → Nat → Nat) (sz h : Nat) (ad : Nat → Nat) (cA : Nat → ClassId) (hd : dM h ad) (fv : Nat → Int32) (wd : Int64) (ar : Nat → Nat → Int32) (hF_fv : rF fv) (hA_ar : rA ar) (pp : Int32) (kk : Int32) (h_pp : 0 ≤ pp.toInt ∧ pp.toInt ≤ 39) (h_kk : 0 ≤ kk.toInt ∧ kk.toInt ≤ 79) : Met l yX12_isHeard (.code yX12_isHeard cX12_isHeard 3 (some .boolean) :: lw_good) ({ frames := 5, cells := 0, slots := 0, locals := 104 }) (va_Pc [.ref h, .int pp, .int kk] (prM dC dI h ad cA fv wd ar sz)) (va_Qi (fun (r : Int32) (u : mS) => rF u.1 ∧ rA u.2.2 ∧ fM [8] fv u.1 ∧ fA [4] ar u.2.2 ∧ (0 ≤ r.toInt ∧ r.toInt ≤ 1) ∧ True) (enM dC dI h ad cA) (aM h ad sz)) 0 0 (aM h ad sz) := by
  refine Met.ofW (cc := cX12_isHeard) (maxL := 3) (ret := (some .boolean)) (by decide) rfl ?_
  intro p e s m args below meth c s₁ B hml hv
  obtain ⟨rfl, hsz, hP, hK⟩ := hv
  have hx := B.exec
  have hb := B.bytes
  have hr := B.returns
  have hts := atoms_spec (ws := (.code yX12_isHeard cX12_isHeard 3 (some .boolean) :: lw_good)) B.pre
  have htg : ∀ w ∈ lw_good, w.before _ s = true := fun w hw => hts w (List.mem_cons_of_mem _ hw)
  have hown : s.vm.findClass RX12 = some m.cls := findClass_of_methodNamed B.named
  have hlocks := B.notSynchronized
  subst hsz
  have hS : va_S (aM h ad s.heap.size) s.heap s.heap [] := va_S.rf
  have hl := lv_entry ([.ref h, .int pp, .int kk]) (n := 3) (Nat.le_of_ble_eq_true rfl)
  rw [lg_entry_eq]
  generalize (lg_sl ([.ref h, .int pp, .int kk]) ++ List.replicate (3 - (lg_sl ([.ref h, .int pp, .int kk])).length) Slot.unset).toArray = ls at hl ⊢
  have hl : lv_has ls 3 [(0, .ref h), (1, .int pp), (2, .int kk)] := hl
  refine lv_aload_n hx hb dX12_isHeard_0 rfl (lv_at hl 0 rfl) ?_
  refine lv_iload_n hx hb dX12_isHeard_1 rfl (lv_at hl 2 rfl) ?_
  refine va_calli (va_runV (As := [.int kk]) (rest := []) ⟨hx, hb, hml, hown, hts⟩ (m_runsToday l dC dI s.heap.size h ad cA hd fv wd ar hF_fv hA_ar kk h_kk) (cwV 1 hts (gV kw_8_180 kw_8_182 kw_p_85 kw_1_15 kw_8_183) rfl rfl rfl (by decide +kernel) ⟨Nat.le_of_ble_eq_true rfl, Nat.le_of_ble_eq_true rfl⟩) ⟨fun a U g mk q => ⟨q.1, q.2.1, q.2.2.1, va_K.moved (u := U) (U := U.calling g mk a) (Vm.Alike.refl U.vm) q.2.2.2⟩, va_recv hK hP (ci := 12) (q0 := 0) rfl rfl, fun U hU hW => ⟨rfl, by rw [hU], by rw [hU]; exact hP, va_K.moved hW.alike hK⟩⟩ rfl rfl hl.1 rfl (lv_room (Nat.le_of_ble_eq_true rfl)) dX12_isHeard_2 ⟨Nat.le_of_ble_eq_true rfl, Nat.le_of_ble_eq_true rfl⟩) hS (fun q _ h9 => aM_up hS q h9) (aM_up hS) (fun r_1 u t H1 locs ht _ hw hB _ hk1 hS => ?_)
  obtain ⟨fv_3, wd_4, ar_5⟩ := u
  obtain ⟨hF_fv_3, hA_ar_5, fr_6, fa_7, p_2, -⟩ := hw
  have hP : va_P (dC, dI) vwCl (wsM h ad cA fv_3 wd_4 ar_5) H1 := by have h9 := hB.1; rw [ht] at h9; exact h9
  have fr_6 : fM [] fv fv_3 := fr_6
  have fa_7 : fA [] ar ar_5 := fa_7
  generalize H1 = H at hP hS ⊢
  refine lv_if_eq (tgt := 42) hx hb dX12_isHeard_5 (by decide) (fun c_8 => ?_) (fun c_8 => ?_)
  · skip
    have i_9 : 0 ≤ r_1.toInt ∧ r_1.toInt ≤ 0 := iv_eq1 (⟨by decide, by decide⟩ : (0 : Int) ≤ (0 : Int32).toInt ∧ (0 : Int32).toInt ≤ 0) c_8
    refine lv_iconst (v := 0) hx hb dX12_isHeard_42 (by decide) ?_
    exact W.zret (v := 0) hx hb hr (by decide) (fun t ht hW => ⟨⟨0, (fv_3, wd_4, ar_5), rfl, ⟨hF_fv_3, hA_ar_5, (fM_call (fM_rf [8] _) fr_6 (by decide)), (fA_call (fA_rf [4] _) fa_7 (by decide)), (iv_w (⟨by decide, by decide⟩ : (0 : Int) ≤ (0 : Int32).toInt ∧ (0 : Int32).toInt ≤ 0) (by decide) (by decide)), trivial⟩, ⟨by rw [ht]; exact hP, va_K.moved hW.alike hK⟩⟩, hS.F ht⟩) hS.2.2 dX12_isHeard_43
  · skip
    have i_10 : 1 ≤ r_1.toInt ∧ r_1.toInt ≤ 1 := iv_nel p_2 (by decide) c_8
    refine lv_aload_n hx hb dX12_isHeard_8 rfl (lv_at hl 0 rfl) ?_
    refine gM_31 hx hb htg hown hK hP dX12_isHeard_9 ?_
    refine lv_iload_n hx hb dX12_isHeard_12 rfl (lv_at hl 2 rfl) ?_
    refine lM_31 hx hb hK hP (iv_in h_kk (by decide) (by decide)) dX12_isHeard_13 (fun v_11 ev_11 => ?_)
    refine lv_aload_n hx hb dX12_isHeard_14 rfl (lv_at hl 0 rfl) ?_
    refine gM_3 hx hb htg hown hK hP dX12_isHeard_15 ?_
    refine my_ti (y := fv 3) ((fr_6 3 rfl)) ?_
    have i_12 : 0 ≤ (fv 3).toInt ∧ (fv 3).toInt ≤ 199 := hF_fv 3
    refine lv_aload_n hx hb dX12_isHeard_18 rfl (lv_at hl 0 rfl) ?_
    refine gM_17 hx hb htg hown hK hP dX12_isHeard_19 ?_
    refine lv_iload_n hx hb dX12_isHeard_22 rfl (lv_at hl 1 rfl) ?_
    refine lM_17 hx hb hK hP (iv_in h_pp (by decide) (by decide)) dX12_isHeard_23 (fun v_13 ev_13 => ?_)
    refine lv_isub hx hb dX12_isHeard_24 ?_
    refine lv_topi (fun v_14 ev_14 => ?_)
    refine lv_icmp_gt (tgt := 42) hx hb dX12_isHeard_25 (by decide) (fun c_15 => ?_) (fun c_15 => ?_)
    · skip
      have i_16 : (-2147483648) ≤ v_14.toInt ∧ v_14.toInt ≤ 2147483646 := iv_lt1 (iv_any v_14) (iv_any v_11) c_15
      have i_17 : (-2147483647) ≤ v_11.toInt ∧ v_11.toInt ≤ 2147483647 := iv_lt2 (iv_any v_14) (iv_any v_11) c_15
      refine lv_iconst (v := 0) hx hb dX12_isHeard_42 (by decide) ?_
      exact W.zret (v := 0) hx hb hr (by decide) (fun t ht hW => ⟨⟨0, (fv_3, wd_4, ar_5), rfl, ⟨hF_fv_3, hA_ar_5, (fM_call (fM_rf [8] _) fr_6 (by decide)), (fA_call (fA_rf [4] _) fa_7 (by decide)), (iv_w (⟨by decide, by decide⟩ : (0 : Int) ≤ (0 : Int32).toInt ∧ (0 : Int32).toInt ≤ 0) (by decide) (by decide)), trivial⟩, ⟨by rw [ht]; exact hP, va_K.moved hW.alike hK⟩⟩, hS.F ht⟩) hS.2.2 dX12_isHeard_43
    · skip
      refine lv_aload_n hx hb dX12_isHeard_28 rfl (lv_at hl 0 rfl) ?_
      refine lv_iload_n hx hb dX12_isHeard_29 rfl (lv_at hl 2 rfl) ?_
      refine va_calli (va_runV (As := [.int kk]) (rest := []) ⟨hx, hb, hml, hown, hts⟩ (m_tripFar l dC dI H.size h ad cA hd fv_3 wd_4 ar_5 hF_fv_3 hA_ar_5 kk h_kk) (cwV 1 hts (gV kw_8_200 kw_8_202 kw_p_90 kw_1_15 kw_8_203) rfl rfl rfl (by decide +kernel) ⟨Nat.le_of_ble_eq_true rfl, Nat.le_of_ble_eq_true rfl⟩) ⟨fun a U g mk q => ⟨q.1, q.2.1, q.2.2.1, va_K.moved (u := U) (U := U.calling g mk a) (Vm.Alike.refl U.vm) q.2.2.2⟩, va_recv hK hP (ci := 12) (q0 := 0) rfl rfl, fun U hU hW => ⟨rfl, by rw [hU], by rw [hU]; exact hP, va_K.moved hW.alike hK⟩⟩ rfl rfl hl.1 rfl (lv_room (Nat.le_of_ble_eq_true rfl)) dX12_isHeard_30 ⟨Nat.le_of_ble_eq_true rfl, Nat.le_of_ble_eq_true rfl⟩) hS (fun q _ h9 => aM_up hS q h9) (aM_up hS) (fun r_18 u t H1 locs ht _ hw hB _ hk1 hS => ?_)
      obtain ⟨fv_19, wd_20, ar_21⟩ := u
      obtain ⟨hF_fv_19, hA_ar_21, fr_22, fa_23, -⟩ := hw
      have hP : va_P (dC, dI) vwCl (wsM h ad cA fv_19 wd_20 ar_21) H1 := by have h9 := hB.1; rw [ht] at h9; exact h9
      have fr_22 : fM [8] fv_3 fv_19 := fr_22
      have fa_23 : fA [4] ar_5 ar_21 := fa_23
      generalize H1 = H at hP hS ⊢
      refine lv_ldc hx hb hown (htg (.constant RX12 225 100000) kw_7_232) dX12_isHeard_33 ?_
      refine lv_icmp_ge (tgt := 42) hx hb dX12_isHeard_35 (by decide) (fun c_24 => ?_) (fun c_24 => ?_)
      · skip
        have i_25 : 100000 ≤ r_18.toInt ∧ r_18.toInt ≤ 2147483647 := iv_le2 (⟨by decide, by decide⟩ : (100000 : Int) ≤ (100000 : Int32).toInt ∧ (100000 : Int32).toInt ≤ 100000) (iv_any r_18) c_24
        refine lv_iconst (v := 0) hx hb dX12_isHeard_42 (by decide) ?_
        exact W.zret (v := 0) hx hb hr (by decide) (fun t ht hW => ⟨⟨0, (fv_19, wd_20, ar_21), rfl, ⟨hF_fv_19, hA_ar_21, (fM_call (fM_call (fM_rf [8] _) fr_6 (by decide)) fr_22 (by decide)), (fA_call (fA_call (fA_rf [4] _) fa_7 (by decide)) fa_23 (by decide)), (iv_w (⟨by decide, by decide⟩ : (0 : Int) ≤ (0 : Int32).toInt ∧ (0 : Int32).toInt ≤ 0) (by decide) (by decide)), trivial⟩, ⟨by rw [ht]; exact hP, va_K.moved hW.alike hK⟩⟩, hS.F ht⟩) hS.2.2 dX12_isHeard_43
      · skip
        have i_26 : (-2147483648) ≤ r_18.toInt ∧ r_18.toInt ≤ 99999 := iv_lt1 (iv_any r_18) (⟨by decide, by decide⟩ : (100000 : Int) ≤ (100000 : Int32).toInt ∧ (100000 : Int32).toInt ≤ 100000) (Int32.not_le.mp c_24)
        refine lv_iconst (v := 1) hx hb dX12_isHeard_38 (by decide) ?_
        refine lv_goto (tgt := 43) hx hb dX12_isHeard_39 (by decide) ?_
        exact W.zret (v := 1) hx hb hr (by decide) (fun t ht hW => ⟨⟨1, (fv_19, wd_20, ar_21), rfl, ⟨hF_fv_19, hA_ar_21, (fM_call (fM_call (fM_rf [8] _) fr_6 (by decide)) fr_22 (by decide)), (fA_call (fA_call (fA_rf [4] _) fa_7 (by decide)) fa_23 (by decide)), (iv_w (⟨by decide, by decide⟩ : (1 : Int) ≤ (1 : Int32).toInt ∧ (1 : Int32).toInt ≤ 1) (by decide) (by decide)), trivial⟩, ⟨by rw [ht]; exact hP, va_K.moved hW.alike hK⟩⟩, hS.F ht⟩) hS.2.2 dX12_isHeard_43
set_option maxHeartbeats 4000000 in
set_option maxRecDepth 100000 in
theorem m_bylawNow (l : Launch) (dC : Nat → ClassId) (dI : Nat → Nat → Nat) (sz h : Nat) (ad : Nat → Nat) (cA : Nat → ClassId) (hd : dM h ad) (fv : Nat → Int32) (wd : Int64) (ar : Nat → Nat → Int32) (hF_fv : rF fv) (hA_ar : rA ar) : Met l yX12_bylawNow (.code yX12_bylawNow cX12_bylawNow 3 (some .int) :: lw_good) ({ frames := 2, cells := 0, slots := 0, locals := 40 }) (va_Pc [.ref h] (prM dC dI h ad cA fv wd ar sz)) (va_Qi (fun (r : Int32) (u : mS) => rF u.1 ∧ rA u.2.2 ∧ fM [] fv u.1 ∧ fA [] ar u.2.2 ∧ ((-1) ≤ r.toInt ∧ r.toInt ≤ 9) ∧ (r.toInt < (fv 58).toInt) ∧ True) (enM dC dI h ad cA) (aM h ad sz)) 0 0 (aM h ad sz) := by
  refine Met.ofW (cc := cX12_bylawNow) (maxL := 3) (ret := (some .int)) (by decide) rfl ?_
  intro p e s m args below meth c s₁ B hml hv
  obtain ⟨rfl, hsz, hP, hK⟩ := hv
  have hx := B.exec
  have hb := B.bytes
  have hr := B.returns
  have hts := atoms_spec (ws := (.code yX12_bylawNow cX12_bylawNow 3 (some .int) :: lw_good)) B.pre
  have htg : ∀ w ∈ lw_good, w.before _ s = true := fun w hw => hts w (List.mem_cons_of_mem _ hw)
  have hown : s.vm.findClass RX12 = some m.cls := findClass_of_methodNamed B.named
  have hlocks := B.notSynchronized
  subst hsz
  have hS : va_S (aM h ad s.heap.size) s.heap s.heap [] := va_S.rf
  have hl := lv_entry ([.ref h]) (n := 3) (Nat.le_of_ble_eq_true rfl)
  rw [lg_entry_eq]
  generalize (lg_sl ([.ref h]) ++ List.replicate (3 - (lg_sl ([.ref h])).length) Slot.unset).toArray = ls at hl ⊢
  have hl : lv_has ls 3 [(0, .ref h)] := hl
  have n58 : (0 : Int) ≤ (fv 58).toInt ∧ (fv 58).toInt ≤ 10 := hF_fv 58
  refine lv_iconst (v := (-1)) hx hb dX12_bylawNow_0 (by decide) ?_
  refine lv_istore_n (lv' := [(1, .int (-1)), (0, .ref h)]) hx hb dX12_bylawNow_1 rfl hl (by decide) rfl (fun ls hl => ?_)
  refine lv_iconst (v := 0) hx hb dX12_bylawNow_2 (by decide) ?_
  refine lv_istore_n (lv' := [(2, .int 0), (1, .int (-1)), (0, .ref h)]) hx hb dX12_bylawNow_3 rfl hl (by decide) rfl (fun ls hl => ?_)
  refine my_cut (P := fun R9 a9 Q9 => ∀ (n_4 : Nat) (x_1 : Int32) (x_2 : Int32) (H : Heap) (locs : List Loc) (ls : Array Slot), 10 - x_2.toInt < (n_4 : Int) → ((-1) ≤ x_1.toInt ∧ x_1.toInt ≤ 9) → (0 ≤ x_2.toInt ∧ x_2.toInt ≤ 10) → (x_1.toInt < (fv 58).toInt) → va_P (dC, dI) vwCl (wsM h ad cA fv wd ar) H → va_S (aM h ad s.heap.size) s.heap H locs → lv_has ls 3 [(0, .ref h), (1, .int x_1), (2, .int x_2)] → W p l e R9 s m a9 below meth c H locs 0 0 Q9 (F0 m 4 ls [])) ?_ (fun hj_6 => ?_)
  · intro n_4
    induction n_4 with
    | zero => intro x_1 x_2 H locs ls fu_5 i_x_1 i_x_2 q_3; exfalso; omega
    | succ n_4 ih_4 =>
      intro x_1 x_2 H locs ls fu_5 i_x_1 i_x_2 q_3 hP hS hl
      refine lv_iload_n hx hb dX12_bylawNow_4 rfl (lv_at hl 2 rfl) ?_
      refine lv_aload_n hx hb dX12_bylawNow_5 rfl (lv_at hl 0 rfl) ?_
      refine gM_58 hx hb htg hown hK hP dX12_bylawNow_6 ?_
      have i_7 : 0 ≤ (fv 58).toInt ∧ (fv 58).toInt ≤ 10 := hF_fv 58
      refine lv_icmp_ge (tgt := 53) hx hb dX12_bylawNow_9 (by decide) (fun c_8 => ?_) (fun c_8 => ?_)
      · skip
        have k_9 := Int32.le_iff_toInt_le.mp c_8
        refine lv_iload_n hx hb dX12_bylawNow_53 rfl (lv_at hl 1 rfl) ?_
        exact W.iret (v := x_1) hx hb hr (fun t ht hW => ⟨⟨x_1, (fv, wd, ar), rfl, ⟨hF_fv, hA_ar, (fM_rf [] _), (fA_rf [] _), i_x_1, (show x_1.toInt < (fv 58).toInt from by omega), trivial⟩, ⟨by rw [ht]; exact hP, va_K.moved hW.alike hK⟩⟩, hS.F ht⟩) hS.2.2 dX12_bylawNow_54
      · skip
        have i_10 : 0 ≤ x_2.toInt ∧ x_2.toInt ≤ 9 := iv_lt1 i_x_2 i_7 (Int32.not_le.mp c_8)
        have i_11 : 1 ≤ (fv 58).toInt ∧ (fv 58).toInt ≤ 10 := iv_lt2 i_x_2 i_7 (Int32.not_le.mp c_8)
        have k_12 := Int32.lt_iff_toInt_lt.mp (Int32.not_le.mp c_8)
        refine lv_aload_n hx hb dX12_bylawNow_12 rfl (lv_at hl 0 rfl) ?_
        refine gM_49 hx hb htg hown hK hP dX12_bylawNow_13 ?_
        refine lv_iload_n hx hb dX12_bylawNow_16 rfl (lv_at hl 2 rfl) ?_
        refine lM_49 hx hb hK hP (iv_in i_10 (by decide) (by decide)) dX12_bylawNow_17 (fun v_13 ev_13 => ?_)
        refine lv_aload_n hx hb dX12_bylawNow_18 rfl (lv_at hl 0 rfl) ?_
        refine gM_3 hx hb htg hown hK hP dX12_bylawNow_19 ?_
        have i_14 : 0 ≤ (fv 3).toInt ∧ (fv 3).toInt ≤ 199 := hF_fv 3
        refine my_cut (P := fun R9 a9 Q9 => ∀ (x_32 : Int32) (H : Heap) (locs : List Loc) (ls : Array Slot), ((-1) ≤ x_32.toInt ∧ x_32.toInt ≤ 9) → (x_32.toInt < (fv 58).toInt) → va_P (dC, dI) vwCl (wsM h ad cA fv wd ar) H → va_S (aM h ad s.heap.size) s.heap H locs → lv_has ls 3 [(0, .ref h), (1, .int x_32), (2, .int x_2)] → W p l e R9 s m a9 below meth c H locs 0 0 Q9 (F0 m 47 ls [])) ?_ (fun hj_34 => ?_)
        · intro x_32 H locs ls i_x_32 q_33 hP hS hl
          obtain ⟨v_35, ev_35⟩ : ∃ z : Int32, z = x_2 + 1 := ⟨_, rfl⟩
          refine lv_iinc (v := v_35) (lv' := [(2, .int v_35), (0, .ref h), (1, .int x_32)]) hx hb dX12_bylawNow_47 hl (k := 2) rfl (by rw [ev_35]; rfl) (by decide) rfl (fun ls hl => ?_)
          have t_36 : v_35.toInt = x_2.toInt + 1 ∧ 1 ≤ v_35.toInt ∧ v_35.toInt ≤ 10 := iv_addc ev_35 i_10 (by decide) (by decide) (by decide)
          refine lv_goto (tgt := 4) hx hb dX12_bylawNow_50 (by decide) ?_
          exact ih_4 x_32 v_35 _ _ ls (by omega) i_x_32 (iv_w t_36.2 (by decide) (by decide)) (by omega) hP hS (lv_sub hl [1, 2, 0] rfl)
        · skip
          refine lv_icmp_gt (tgt := 47) hx hb dX12_bylawNow_22 (by decide) (fun c_15 => ?_) (fun c_15 => ?_)
          · skip
            have i_16 : 1 ≤ v_13.toInt ∧ v_13.toInt ≤ 2147483647 := iv_lt2 i_14 (iv_any v_13) c_15
            have k_17 := Int32.lt_iff_toInt_lt.mp c_15
            exact hj_34 x_1 _ _ ls i_x_1 (by omega) hP hS (lv_sub hl [0, 1, 2] rfl)
          · skip
            have i_18 : (-2147483648) ≤ v_13.toInt ∧ v_13.toInt ≤ 199 := iv_le1 (iv_any v_13) i_14 (Int32.not_lt.mp c_15)
            have k_19 := Int32.le_iff_toInt_le.mp (Int32.not_lt.mp c_15)
            refine lv_iload_n hx hb dX12_bylawNow_25 rfl (lv_at hl 1 rfl) ?_
            refine lv_iconst (v := (-1)) hx hb dX12_bylawNow_26 (by decide) ?_
            refine lv_icmp_eq (tgt := 45) hx hb dX12_bylawNow_27 (by decide) (fun c_20 => ?_) (fun c_20 => ?_)
            · skip
              have i_21 : (-1) ≤ x_1.toInt ∧ x_1.toInt ≤ (-1) := iv_eq1 (⟨by decide, by decide⟩ : (-1 : Int) ≤ ((-1) : Int32).toInt ∧ ((-1) : Int32).toInt ≤ -1) c_20
              refine lv_iload_n hx hb dX12_bylawNow_45 rfl (lv_at hl 2 rfl) ?_
              refine lv_istore_n (lv' := [(1, .int x_2), (0, .ref h), (2, .int x_2)]) hx hb dX12_bylawNow_46 rfl hl (by decide) rfl (fun ls hl => ?_)
              exact hj_34 x_2 _ _ ls (iv_w i_10 (by decide) (by decide)) (by omega) hP hS (lv_sub hl [1, 0, 2] rfl)
            · skip
              have i_23 : 0 ≤ x_1.toInt ∧ x_1.toInt ≤ 9 := iv_nel i_x_1 (by decide) c_20
              have k_24 : ¬ x_1.toInt = (-1) := fun q => c_20 (Int32.toInt_inj.mp q)
              refine lv_aload_n hx hb dX12_bylawNow_30 rfl (lv_at hl 0 rfl) ?_
              refine gM_49 hx hb htg hown hK hP dX12_bylawNow_31 ?_
              refine lv_iload_n hx hb dX12_bylawNow_34 rfl (lv_at hl 2 rfl) ?_
              refine lM_49 hx hb hK hP (iv_in i_10 (by decide) (by decide)) dX12_bylawNow_35 (fun v_25 ev_25 => ?_)
              obtain rfl : v_13 = v_25 := ev_13.trans ev_25.symm
              refine lv_aload_n hx hb dX12_bylawNow_36 rfl (lv_at hl 0 rfl) ?_
              refine gM_49 hx hb htg hown hK hP dX12_bylawNow_37 ?_
              refine lv_iload_n hx hb dX12_bylawNow_40 rfl (lv_at hl 1 rfl) ?_
              refine lM_49 hx hb hK hP (iv_in i_23 (by decide) (by decide)) dX12_bylawNow_41 (fun v_26 ev_26 => ?_)
              refine lv_icmp_lt (tgt := 47) hx hb dX12_bylawNow_42 (by decide) (fun c_27 => ?_) (fun c_27 => ?_)
              · skip
                have i_28 : (-2147483647) ≤ v_26.toInt ∧ v_26.toInt ≤ 2147483647 := iv_lt2 i_18 (iv_any v_26) c_27
                have k_29 := Int32.lt_iff_toInt_lt.mp c_27
                exact hj_34 x_1 _ _ ls (iv_w i_23 (by decide) (by decide)) (by omega) hP hS (lv_sub hl [0, 1, 2] rfl)
              · skip
                have i_30 : (-2147483648) ≤ v_26.toInt ∧ v_26.toInt ≤ 199 := iv_le1 (iv_any v_26) i_18 (Int32.not_lt.mp c_27)
                have k_31 := Int32.le_iff_toInt_le.mp (Int32.not_lt.mp c_27)
                refine lv_iload_n hx hb dX12_bylawNow_45 rfl (lv_at hl 2 rfl) ?_
                refine lv_istore_n (lv' := [(1, .int x_2), (0, .ref h), (2, .int x_2)]) hx hb dX12_bylawNow_46 rfl hl (by decide) rfl (fun ls hl => ?_)
                exact hj_34 x_2 _ _ ls (iv_w i_10 (by decide) (by decide)) (by omega) hP hS (lv_sub hl [1, 0, 2] rfl)
  · skip
    have z_38 : ((-1) : Int32).toInt = (-1) := by decide
    have z_39 : (0 : Int32).toInt = 0 := by decide
    exact hj_6 11 (-1) 0 _ _ ls (by first | decide | omega) (iv_w (⟨by decide, by decide⟩ : (-1 : Int) ≤ ((-1) : Int32).toInt ∧ ((-1) : Int32).toInt ≤ -1) (by decide) (by decide)) (iv_w (⟨by decide, by decide⟩ : (0 : Int) ≤ (0 : Int32).toInt ∧ (0 : Int32).toInt ≤ 0) (by decide) (by decide)) (by omega) hP hS (lv_sub hl [2, 1, 0] rfl)
set_option maxHeartbeats 4000000 in
set_option maxRecDepth 100000 in
theorem m_ask (l : Launch) (dC : Nat → ClassId) (dI : Nat → Nat → Nat) (sz h : Nat) (ad : Nat → Nat) (cA : Nat → ClassId) (hd : dM h ad) (fv : Nat → Int32) (wd : Int64) (ar : Nat → Nat → Int32) (hF_fv : rF fv) (hA_ar : rA ar) (kk : Int32) (a : Int32) (b : Int32) (h_kk : 0 ≤ kk.toInt ∧ kk.toInt ≤ 79) : Met l yX12_ask (.code yX12_ask cX12_ask 6 none :: lw_good) ({ frames := 3, cells := 0, slots := 0, locals := 61 }) (va_Pc [.ref h, .int kk, .int a, .int b] (prM dC dI h ad cA fv wd ar sz)) (va_Qv (fun (u : mS) => rF u.1 ∧ rA u.2.2 ∧ fM [] fv u.1 ∧ fA [64] ar u.2.2 ∧ True) (enM dC dI h ad cA) (aM h ad sz)) 0 0 (aM h ad sz) := by
  refine Met.ofW (cc := cX12_ask) (maxL := 6) (ret := none) (by decide) rfl ?_
  intro p e s m args below meth c s₁ B hml hv
  obtain ⟨rfl, hsz, hP, hK⟩ := hv
  have hx := B.exec
  have hb := B.bytes
  have hr := B.returns
  have hts := atoms_spec (ws := (.code yX12_ask cX12_ask 6 none :: lw_good)) B.pre
  have htg : ∀ w ∈ lw_good, w.before _ s = true := fun w hw => hts w (List.mem_cons_of_mem _ hw)
  have hown : s.vm.findClass RX12 = some m.cls := findClass_of_methodNamed B.named
  have hlocks := B.notSynchronized
  subst hsz
  have hS : va_S (aM h ad s.heap.size) s.heap s.heap [] := va_S.rf
  have hl := lv_entry ([.ref h, .int kk, .int a, .int b]) (n := 6) (Nat.le_of_ble_eq_true rfl)
  rw [lg_entry_eq]
  generalize (lg_sl ([.ref h, .int kk, .int a, .int b]) ++ List.replicate (6 - (lg_sl ([.ref h, .int kk, .int a, .int b])).length) Slot.unset).toArray = ls at hl ⊢
  have hl : lv_has ls 6 [(0, .ref h), (1, .int kk), (2, .int a), (3, .int b)] := hl
  refine lv_aload_n hx hb dX12_ask_0 rfl (lv_at hl 0 rfl) ?_
  refine gM_25 hx hb htg hown hK hP dX12_ask_1 ?_
  refine lv_iload_n hx hb dX12_ask_4 rfl (lv_at hl 1 rfl) ?_
  refine lM_25 hx hb hK hP (iv_in h_kk (by decide) (by decide)) dX12_ask_5 (fun v_1 ev_1 => ?_)
  have i_2 : 0 ≤ v_1.toInt ∧ v_1.toInt ≤ 19 := ev_1 ▸ hA_ar 25 _
  refine lv_istore (lv' := [(4, .int v_1), (0, .ref h), (1, .int kk), (2, .int a), (3, .int b)]) hx hb dX12_ask_6 hl (by decide) rfl (fun ls hl => ?_)
  refine lv_aload_n hx hb dX12_ask_8 rfl (lv_at hl 1 rfl) ?_
  refine gM_64 hx hb htg hown hK hP dX12_ask_9 ?_
  refine lv_iconst (v := 4) hx hb dX12_ask_12 (by decide) ?_
  refine lv_iload_n hx hb dX12_ask_13 rfl (lv_at hl 3 rfl) ?_
  refine sM_64 hx hb hK hP hS hd (iv_in (⟨by decide, by decide⟩ : (4 : Int) ≤ (4 : Int32).toInt ∧ (4 : Int32).toInt ≤ 4) (by decide) (by decide)) dX12_ask_14 (fun H locs ar_3 ear_3 hP hS => ?_)
  have hA_ar_3 : rA ar_3 := rA_put hA_ar ear_3 (iv_any _)
  refine lv_aload_n hx hb dX12_ask_15 rfl (lv_at hl 1 rfl) ?_
  refine gM_64 hx hb htg hown hK hP dX12_ask_16 ?_
  refine lv_iconst (v := 5) hx hb dX12_ask_19 (by decide) ?_
  refine lv_aload_n hx hb dX12_ask_20 rfl (lv_at hl 1 rfl) ?_
  refine gM_22 hx hb htg hown hK hP dX12_ask_21 ?_
  refine lv_iload hx hb dX12_ask_24 (lv_at hl 0 rfl) ?_
  refine lM_22 hx hb hK hP (iv_in i_2 (by decide) (by decide)) dX12_ask_26 (fun v_4 ev_4 => ?_)
  refine sM_64 hx hb hK hP hS hd (iv_in (⟨by decide, by decide⟩ : (5 : Int) ≤ (5 : Int32).toInt ∧ (5 : Int32).toInt ≤ 5) (by decide) (by decide)) dX12_ask_27 (fun H locs ar_5 ear_5 hP hS => ?_)
  have hA_ar_5 : rA ar_5 := rA_put hA_ar_3 ear_5 (iv_any _)
  refine lv_aload_n hx hb dX12_ask_28 rfl (lv_at hl 1 rfl) ?_
  refine gM_64 hx hb htg hown hK hP dX12_ask_29 ?_
  refine lv_bipush (v := 6) hx hb dX12_ask_32 (by decide) ?_
  refine lv_aload_n hx hb dX12_ask_34 rfl (lv_at hl 1 rfl) ?_
  refine lv_aload_n hx hb dX12_ask_35 rfl (lv_at hl 1 rfl) ?_
  refine gM_3 hx hb htg hown hK hP dX12_ask_36 ?_
  have i_6 : 0 ≤ (fv 3).toInt ∧ (fv 3).toInt ≤ 199 := hF_fv 3
  refine va_calli (va_runV (As := [.int (fv 3)]) (rest := [.int 6, .ref (ad 64)]) ⟨hx, hb, hml, hown, hts⟩ (m_rainOf l dC dI H.size h ad cA hd fv wd ar_5 hF_fv hA_ar_5 (fv 3) i_6) (cwV 1 hts (gV kw_8_16 kw_8_18 kw_p_61 kw_1_15 kw_8_19) rfl rfl rfl (by decide +kernel) ⟨Nat.le_of_ble_eq_true rfl, Nat.le_of_ble_eq_true rfl⟩) ⟨fun a U g mk q => ⟨q.1, q.2.1, q.2.2.1, va_K.moved (u := U) (U := U.calling g mk a) (Vm.Alike.refl U.vm) q.2.2.2⟩, va_recv hK hP (ci := 12) (q0 := 0) rfl rfl, fun U hU hW => ⟨rfl, by rw [hU], by rw [hU]; exact hP, va_K.moved hW.alike hK⟩⟩ rfl rfl hl.1 rfl (lv_room (Nat.le_of_ble_eq_true rfl)) dX12_ask_39 ⟨Nat.le_of_ble_eq_true rfl, Nat.le_of_ble_eq_true rfl⟩) hS (fun q _ h9 => aM_up hS q h9) (aM_up hS) (fun r_7 u t H1 locs ht _ hw hB _ hk1 hS => ?_)
  obtain ⟨fv_8, wd_9, ar_10⟩ := u
  obtain ⟨hF_fv_8, hA_ar_10, fr_11, fa_12, -⟩ := hw
  have hP : va_P (dC, dI) vwCl (wsM h ad cA fv_8 wd_9 ar_10) H1 := by have h9 := hB.1; rw [ht] at h9; exact h9
  have fr_11 : fM [] fv fv_8 := fr_11
  have fa_12 : fA [] ar_5 ar_10 := fa_12
  generalize H1 = H at hP hS ⊢
  refine sM_64 hx hb hK hP hS hd (iv_in (⟨by decide, by decide⟩ : (6 : Int) ≤ (6 : Int32).toInt ∧ (6 : Int32).toInt ≤ 6) (by decide) (by decide)) dX12_ask_42 (fun H locs ar_13 ear_13 hP hS => ?_)
  have hA_ar_13 : rA ar_13 := rA_put hA_ar_10 ear_13 (iv_any _)
  refine lv_aload_n hx hb dX12_ask_43 rfl (lv_at hl 1 rfl) ?_
  refine gM_64 hx hb htg hown hK hP dX12_ask_44 ?_
  refine lv_bipush (v := 7) hx hb dX12_ask_47 (by decide) ?_
  refine lv_aload_n hx hb dX12_ask_49 rfl (lv_at hl 1 rfl) ?_
  refine gM_28 hx hb htg hown hK hP dX12_ask_50 ?_
  refine lv_iload_n hx hb dX12_ask_53 rfl (lv_at hl 2 rfl) ?_
  refine lM_28 hx hb hK hP (iv_in h_kk (by decide) (by decide)) dX12_ask_54 (fun v_14 ev_14 => ?_)
  refine sM_64 hx hb hK hP hS hd (iv_in (⟨by decide, by decide⟩ : (7 : Int) ≤ (7 : Int32).toInt ∧ (7 : Int32).toInt ≤ 7) (by decide) (by decide)) dX12_ask_55 (fun H locs ar_15 ear_15 hP hS => ?_)
  have hA_ar_15 : rA ar_15 := rA_put hA_ar_13 ear_15 (iv_any _)
  refine lv_aload_n hx hb dX12_ask_56 rfl (lv_at hl 1 rfl) ?_
  refine gM_64 hx hb htg hown hK hP dX12_ask_57 ?_
  refine lv_bipush (v := 8) hx hb dX12_ask_60 (by decide) ?_
  refine lv_aload_n hx hb dX12_ask_62 rfl (lv_at hl 1 rfl) ?_
  refine gM_3 hx hb htg hown hK hP dX12_ask_63 ?_
  refine my_ti (y := fv 3) ((fr_11 3 rfl)) ?_
  refine sM_64 hx hb hK hP hS hd (iv_in (⟨by decide, by decide⟩ : (8 : Int) ≤ (8 : Int32).toInt ∧ (8 : Int32).toInt ≤ 8) (by decide) (by decide)) dX12_ask_66 (fun H locs ar_16 ear_16 hP hS => ?_)
  have hA_ar_16 : rA ar_16 := rA_put hA_ar_15 ear_16 (iv_any _)
  refine lv_aload_n hx hb dX12_ask_67 rfl (lv_at hl 1 rfl) ?_
  refine gM_64 hx hb htg hown hK hP dX12_ask_68 ?_
  refine lv_bipush (v := 9) hx hb dX12_ask_71 (by decide) ?_
  refine lv_aload_n hx hb dX12_ask_73 rfl (lv_at hl 1 rfl) ?_
  refine gM_26 hx hb htg hown hK hP dX12_ask_74 ?_
  refine lv_iload_n hx hb dX12_ask_77 rfl (lv_at hl 2 rfl) ?_
  refine lM_26 hx hb hK hP (iv_in h_kk (by decide) (by decide)) dX12_ask_78 (fun v_17 ev_17 => ?_)
  have i_18 : 0 ≤ v_17.toInt ∧ v_17.toInt ≤ 7 := ev_17 ▸ hA_ar_16 26 _
  refine sM_64 hx hb hK hP hS hd (iv_in (⟨by decide, by decide⟩ : (9 : Int) ≤ (9 : Int32).toInt ∧ (9 : Int32).toInt ≤ 9) (by decide) (by decide)) dX12_ask_79 (fun H locs ar_19 ear_19 hP hS => ?_)
  have hA_ar_19 : rA ar_19 := rA_put hA_ar_16 ear_19 (iv_any _)
  refine lv_aload_n hx hb dX12_ask_80 rfl (lv_at hl 1 rfl) ?_
  refine gM_64 hx hb htg hown hK hP dX12_ask_81 ?_
  refine lv_bipush (v := 10) hx hb dX12_ask_84 (by decide) ?_
  refine lv_aload_n hx hb dX12_ask_86 rfl (lv_at hl 1 rfl) ?_
  refine gM_27 hx hb htg hown hK hP dX12_ask_87 ?_
  refine lv_iload_n hx hb dX12_ask_90 rfl (lv_at hl 2 rfl) ?_
  refine lM_27 hx hb hK hP (iv_in h_kk (by decide) (by decide)) dX12_ask_91 (fun v_20 ev_20 => ?_)
  have i_21 : 0 ≤ v_20.toInt ∧ v_20.toInt ≤ 7 := ev_20 ▸ hA_ar_19 27 _
  refine sM_64 hx hb hK hP hS hd (iv_in (⟨by decide, by decide⟩ : (10 : Int) ≤ (10 : Int32).toInt ∧ (10 : Int32).toInt ≤ 10) (by decide) (by decide)) dX12_ask_92 (fun H locs ar_22 ear_22 hP hS => ?_)
  have hA_ar_22 : rA ar_22 := rA_put hA_ar_19 ear_22 (iv_any _)
  refine lv_aload_n hx hb dX12_ask_93 rfl (lv_at hl 1 rfl) ?_
  refine gM_64 hx hb htg hown hK hP dX12_ask_94 ?_
  refine lv_bipush (v := 11) hx hb dX12_ask_97 (by decide) ?_
  refine lv_iload_n hx hb dX12_ask_99 rfl (lv_at hl 4 rfl) ?_
  refine sM_64 hx hb hK hP hS hd (iv_in (⟨by decide, by decide⟩ : (11 : Int) ≤ (11 : Int32).toInt ∧ (11 : Int32).toInt ≤ 11) (by decide) (by decide)) dX12_ask_100 (fun H locs ar_23 ear_23 hP hS => ?_)
  have hA_ar_23 : rA ar_23 := rA_put hA_ar_22 ear_23 (iv_any _)
  refine lv_aload_n hx hb dX12_ask_101 rfl (lv_at hl 1 rfl) ?_
  refine gM_64 hx hb htg hown hK hP dX12_ask_102 ?_
  refine lv_iconst (v := 3) hx hb dX12_ask_105 (by decide) ?_
  refine lv_aload_n hx hb dX12_ask_106 rfl (lv_at hl 1 rfl) ?_
  refine gM_3 hx hb htg hown hK hP dX12_ask_107 ?_
  refine my_ti (y := fv 3) ((fr_11 3 rfl)) ?_
  refine lv_aload_n hx hb dX12_ask_110 rfl (lv_at hl 1 rfl) ?_
  refine gM_23 hx hb htg hown hK hP dX12_ask_111 ?_
  refine lv_iload hx hb dX12_ask_114 (lv_at hl 0 rfl) ?_
  refine lM_23 hx hb hK hP (iv_in i_2 (by decide) (by decide)) dX12_ask_116 (fun v_24 ev_24 => ?_)
  refine my_cut (P := fun R9 a9 Q9 => ∀ (x_28 : Int32) (H : Heap) (locs : List Loc) (ls : Array Slot), (0 ≤ x_28.toInt ∧ x_28.toInt ≤ 1) → va_P (dC, dI) vwCl (wsM h ad cA fv_8 wd_9 ar_23) H → va_S (aM h ad s.heap.size) s.heap H locs → lv_has ls 6 [(0, .ref h), (4, .int v_1)] → W p l e R9 s m a9 below meth c H locs 0 0 Q9 (F0 m 125 ls [.int x_28, .int 3, .ref (ad 64)])) ?_ (fun hj_29 => ?_)
  · intro x_28 H locs ls i_x_28 hP hS hl
    refine sM_64 hx hb hK hP hS hd (iv_in (⟨by decide, by decide⟩ : (3 : Int) ≤ (3 : Int32).toInt ∧ (3 : Int32).toInt ≤ 3) (by decide) (by decide)) dX12_ask_125 (fun H locs ar_30 ear_30 hP hS => ?_)
    have hA_ar_30 : rA ar_30 := rA_put hA_ar_23 ear_30 (iv_any _)
    refine lv_iconst (v := 0) hx hb dX12_ask_126 (by decide) ?_
    refine lv_istore (lv' := [(5, .int 0), (0, .ref h), (4, .int v_1)]) hx hb dX12_ask_127 hl (by decide) rfl (fun ls hl => ?_)
    refine my_cut (P := fun R9 a9 Q9 => ∀ (n_34 : Nat) (x_31 : Int32) (ar_32 : Nat → Nat → Int32) (H : Heap) (locs : List Loc) (ls : Array Slot), 3 - x_31.toInt < (n_34 : Int) → (0 ≤ x_31.toInt ∧ x_31.toInt ≤ 3) → rA ar_32 → fA [64] ar_30 ar_32 → va_P (dC, dI) vwCl (wsM h ad cA fv_8 wd_9 ar_32) H → va_S (aM h ad s.heap.size) s.heap H locs → lv_has ls 6 [(0, .ref h), (4, .int v_1), (5, .int x_31)] → W p l e R9 s m a9 below meth c H locs 0 0 Q9 (F0 m 129 ls [])) ?_ (fun hj_36 => ?_)
    · intro n_34
      induction n_34 with
      | zero => intro x_31 ar_32 H locs ls fu_35 i_x_31 hA_ar_32 fa_33; exfalso; omega
      | succ n_34 ih_34 =>
        intro x_31 ar_32 H locs ls fu_35 i_x_31 hA_ar_32 fa_33 hP hS hl
        refine lv_iload hx hb dX12_ask_129 (lv_at hl 2 rfl) ?_
        refine lv_iconst (v := 2) hx hb dX12_ask_131 (by decide) ?_
        refine lv_icmp_gt (tgt := 165) hx hb dX12_ask_132 (by decide) (fun c_37 => ?_) (fun c_37 => ?_)
        · skip
          have i_38 : 3 ≤ x_31.toInt ∧ x_31.toInt ≤ 3 := iv_lt2 (⟨by decide, by decide⟩ : (2 : Int) ≤ (2 : Int32).toInt ∧ (2 : Int32).toInt ≤ 2) i_x_31 c_37
          exact W.vret hx hb hr (fun t ht hW => ⟨⟨(fv_8, wd_9, ar_32), rfl, ⟨hF_fv_8, hA_ar_32, (fM_call (fM_rf [] _) fr_11 (by decide)), (fA_call (fA_put (fA_put (fA_put (fA_put (fA_put (fA_put (fA_put (fA_call (fA_put (fA_put (fA_rf [64] _) ear_3 (by decide)) ear_5 (by decide)) fa_12 (by decide)) ear_13 (by decide)) ear_15 (by decide)) ear_16 (by decide)) ear_19 (by decide)) ear_22 (by decide)) ear_23 (by decide)) ear_30 (by decide)) fa_33 (by decide)), trivial⟩, ⟨by rw [ht]; exact hP, va_K.moved hW.alike hK⟩⟩, hS.F ht⟩) hS.2.2 dX12_ask_165
        · skip
          have i_39 : 0 ≤ x_31.toInt ∧ x_31.toInt ≤ 2 := iv_le1 i_x_31 (⟨by decide, by decide⟩ : (2 : Int) ≤ (2 : Int32).toInt ∧ (2 : Int32).toInt ≤ 2) (Int32.not_lt.mp c_37)
          refine lv_aload_n hx hb dX12_ask_135 rfl (lv_at hl 0 rfl) ?_
          refine gM_64 hx hb htg hown hK hP dX12_ask_136 ?_
          refine lv_iload hx hb dX12_ask_139 (lv_at hl 2 rfl) ?_
          refine lv_aload_n hx hb dX12_ask_141 rfl (lv_at hl 0 rfl) ?_
          refine gM_20 hx hb htg hown hK hP dX12_ask_142 ?_
          refine lv_iload hx hb dX12_ask_145 (lv_at hl 1 rfl) ?_
          refine lM_20 hx hb hK hP (iv_in i_2 (by decide) (by decide)) dX12_ask_147 (fun v_40 ev_40 => ?_)
          refine lv_iload hx hb dX12_ask_148 (lv_at hl 2 rfl) ?_
          refine my_cut (P := fun R9 a9 Q9 => ∀ (x_43 : Int32) (H : Heap) (locs : List Loc) (ls : Array Slot), (0 ≤ x_43.toInt ∧ x_43.toInt ≤ 1) → va_P (dC, dI) vwCl (wsM h ad cA fv_8 wd_9 ar_32) H → va_S (aM h ad s.heap.size) s.heap H locs → lv_has ls 6 [(0, .ref h), (4, .int v_1), (5, .int x_31)] → W p l e R9 s m a9 below meth c H locs 0 0 Q9 (F0 m 158 ls [.int x_43, .int x_31, .ref (ad 64)])) ?_ (fun hj_44 => ?_)
          · intro x_43 H locs ls i_x_43 hP hS hl
            refine sM_64 hx hb hK hP hS hd (iv_in i_39 (by decide) (by decide)) dX12_ask_158 (fun H locs ar_45 ear_45 hP hS => ?_)
            have hA_ar_45 : rA ar_45 := rA_put hA_ar_32 ear_45 (iv_any _)
            obtain ⟨v_46, ev_46⟩ : ∃ z : Int32, z = x_31 + 1 := ⟨_, rfl⟩
            refine lv_iinc (v := v_46) (lv' := [(5, .int v_46), (0, .ref h), (4, .int v_1)]) hx hb dX12_ask_159 hl (k := 2) rfl (by rw [ev_46]; rfl) (by decide) rfl (fun ls hl => ?_)
            have t_47 : v_46.toInt = x_31.toInt + 1 ∧ 1 ≤ v_46.toInt ∧ v_46.toInt ≤ 3 := iv_addc ev_46 i_39 (by decide) (by decide) (by decide)
            refine lv_goto (tgt := 129) hx hb dX12_ask_162 (by decide) ?_
            exact ih_34 v_46 ar_45 _ _ ls (by omega) (iv_w t_47.2 (by decide) (by decide)) hA_ar_45 (fA_put (fA_call (fA_rf [64] _) fa_33 (by decide)) ear_45 (by decide)) hP hS (lv_sub hl [1, 2, 0] rfl)
          · skip
            refine lv_icmp_ne (tgt := 157) hx hb dX12_ask_150 (by decide) (fun c_41 => ?_) (fun c_41 => ?_)
            · skip
              refine lv_iconst (v := 0) hx hb dX12_ask_157 (by decide) ?_
              exact hj_44 0 _ _ ls (iv_w (⟨by decide, by decide⟩ : (0 : Int) ≤ (0 : Int32).toInt ∧ (0 : Int32).toInt ≤ 0) (by decide) (by decide)) hP hS (lv_sub hl [0, 1, 2] rfl)
            · skip
              have i_42 : 0 ≤ v_40.toInt ∧ v_40.toInt ≤ 2 := iv_eq1 i_39 c_41
              refine lv_iconst (v := 1) hx hb dX12_ask_153 (by decide) ?_
              refine lv_goto (tgt := 158) hx hb dX12_ask_154 (by decide) ?_
              exact hj_44 1 _ _ ls (iv_w (⟨by decide, by decide⟩ : (1 : Int) ≤ (1 : Int32).toInt ∧ (1 : Int32).toInt ≤ 1) (by decide) (by decide)) hP hS (lv_sub hl [0, 1, 2] rfl)
    · skip
      have z_49 : (0 : Int32).toInt = 0 := by decide
      exact hj_36 4 0 ar_30 _ _ ls (by first | decide | omega) (iv_w (⟨by decide, by decide⟩ : (0 : Int) ≤ (0 : Int32).toInt ∧ (0 : Int32).toInt ≤ 0) (by decide) (by decide)) hA_ar_30 (fA_rf [64] _) hP hS (lv_sub hl [1, 2, 0] rfl)
  · skip
    refine lv_icmp_gt (tgt := 124) hx hb dX12_ask_117 (by decide) (fun c_25 => ?_) (fun c_25 => ?_)
    · skip
      have i_26 : (-2147483648) ≤ v_24.toInt ∧ v_24.toInt ≤ 198 := iv_lt1 (iv_any v_24) i_6 c_25
      refine lv_iconst (v := 0) hx hb dX12_ask_124 (by decide) ?_
      exact hj_29 0 _ _ ls (iv_w (⟨by decide, by decide⟩ : (0 : Int) ≤ (0 : Int32).toInt ∧ (0 : Int32).toInt ≤ 0) (by decide) (by decide)) hP hS (lv_sub hl [1, 0] rfl)
    · skip
      have i_27 : 0 ≤ v_24.toInt ∧ v_24.toInt ≤ 2147483647 := iv_le2 i_6 (iv_any v_24) (Int32.not_lt.mp c_25)
      refine lv_iconst (v := 1) hx hb dX12_ask_120 (by decide) ?_
      refine lv_goto (tgt := 125) hx hb dX12_ask_121 (by decide) ?_
      exact hj_29 1 _ _ ls (iv_w (⟨by decide, by decide⟩ : (1 : Int) ≤ (1 : Int32).toInt ∧ (1 : Int32).toInt ≤ 1) (by decide) (by decide)) hP hS (lv_sub hl [1, 0] rfl)
set_option maxHeartbeats 4000000 in
set_option maxRecDepth 100000 in
theorem m_inTime (l : Launch) (dC : Nat → ClassId) (dI : Nat → Nat → Nat) (sz h : Nat) (ad : Nat → Nat) (cA : Nat → ClassId) (hd : dM h ad) (fv : Nat → Int32) (wd : Int64) (ar : Nat → Nat → Int32) (hF_fv : rF fv) (hA_ar : rA ar) : Met l yX12_inTime (.code yX12_inTime cX12_inTime 3 (some .int) :: lw_good) ({ frames := 2, cells := 0, slots := 0, locals := 40 }) (va_Pc [.ref h] (prM dC dI h ad cA fv wd ar sz)) (va_Qi (fun (r : Int32) (u : mS) => rF u.1 ∧ rA u.2.2 ∧ fM [] fv u.1 ∧ fA [] ar u.2.2 ∧ True) (enM dC dI h ad cA) (aM h ad sz)) 0 0 (aM h ad sz) := by
  refine Met.ofW (cc := cX12_inTime) (maxL := 3) (ret := (some .int)) (by decide) rfl ?_
  intro p e s m args below meth c s₁ B hml hv
  obtain ⟨rfl, hsz, hP, hK⟩ := hv
  have hx := B.exec
  have hb := B.bytes
  have hr := B.returns
  have hts := atoms_spec (ws := (.code yX12_inTime cX12_inTime 3 (some .int) :: lw_good)) B.pre
  have htg : ∀ w ∈ lw_good, w.before _ s = true := fun w hw => hts w (List.mem_cons_of_mem _ hw)
  have hown : s.vm.findClass RX12 = some m.cls := findClass_of_methodNamed B.named
  have hlocks := B.notSynchronized
  subst hsz
  have hS : va_S (aM h ad s.heap.size) s.heap s.heap [] := va_S.rf
  have hl := lv_entry ([.ref h]) (n := 3) (Nat.le_of_ble_eq_true rfl)
  rw [lg_entry_eq]
  generalize (lg_sl ([.ref h]) ++ List.replicate (3 - (lg_sl ([.ref h])).length) Slot.unset).toArray = ls at hl ⊢
  have hl : lv_has ls 3 [(0, .ref h)] := hl
  refine lv_iconst (v := 0) hx hb dX12_inTime_0 (by decide) ?_
  refine lv_istore_n (lv' := [(1, .int 0), (0, .ref h)]) hx hb dX12_inTime_1 rfl hl (by decide) rfl (fun ls hl => ?_)
  refine lv_iconst (v := 0) hx hb dX12_inTime_2 (by decide) ?_
  refine lv_istore_n (lv' := [(2, .int 0), (1, .int 0), (0, .ref h)]) hx hb dX12_inTime_3 rfl hl (by decide) rfl (fun ls hl => ?_)
  refine my_cut (P := fun R9 a9 Q9 => ∀ (n_3 : Nat) (x_1 : Int32) (x_2 : Int32) (H : Heap) (locs : List Loc) (ls : Array Slot), 40 - x_2.toInt < (n_3 : Int) → (0 ≤ x_2.toInt ∧ x_2.toInt ≤ 40) → va_P (dC, dI) vwCl (wsM h ad cA fv wd ar) H → va_S (aM h ad s.heap.size) s.heap H locs → lv_has ls 3 [(0, .ref h), (1, .int x_1), (2, .int x_2)] → W p l e R9 s m a9 below meth c H locs 0 0 Q9 (F0 m 4 ls [])) ?_ (fun hj_5 => ?_)
  · intro n_3
    induction n_3 with
    | zero => intro x_1 x_2 H locs ls fu_4 i_x_2; exfalso; omega
    | succ n_3 ih_3 =>
      intro x_1 x_2 H locs ls fu_4 i_x_2 hP hS hl
      refine lv_iload_n hx hb dX12_inTime_4 rfl (lv_at hl 2 rfl) ?_
      refine lv_aload_n hx hb dX12_inTime_5 rfl (lv_at hl 0 rfl) ?_
      refine gM_32 hx hb htg hown hK hP dX12_inTime_6 ?_
      have i_6 : 0 ≤ (fv 32).toInt ∧ (fv 32).toInt ≤ 40 := hF_fv 32
      refine lv_icmp_ge (tgt := 46) hx hb dX12_inTime_9 (by decide) (fun c_7 => ?_) (fun c_7 => ?_)
      · skip
        refine lv_iload_n hx hb dX12_inTime_46 rfl (lv_at hl 1 rfl) ?_
        exact W.iret (v := x_1) hx hb hr (fun t ht hW => ⟨⟨x_1, (fv, wd, ar), rfl, ⟨hF_fv, hA_ar, (fM_rf [] _), (fA_rf [] _), trivial⟩, ⟨by rw [ht]; exact hP, va_K.moved hW.alike hK⟩⟩, hS.F ht⟩) hS.2.2 dX12_inTime_47
      · skip
        have i_8 : 0 ≤ x_2.toInt ∧ x_2.toInt ≤ 39 := iv_lt1 i_x_2 i_6 (Int32.not_le.mp c_7)
        have i_9 : 1 ≤ (fv 32).toInt ∧ (fv 32).toInt ≤ 40 := iv_lt2 i_x_2 i_6 (Int32.not_le.mp c_7)
        refine lv_aload_n hx hb dX12_inTime_12 rfl (lv_at hl 0 rfl) ?_
        refine gM_72 hx hb htg hown hK hP dX12_inTime_13 ?_
        refine lv_iload_n hx hb dX12_inTime_16 rfl (lv_at hl 2 rfl) ?_
        refine lM_72 hx hb hK hP (iv_in i_8 (by decide) (by decide)) dX12_inTime_17 (fun v_10 ev_10 => ?_)
        refine lv_iconst (v := (-1)) hx hb dX12_inTime_18 (by decide) ?_
        refine my_cut (P := fun R9 a9 Q9 => ∀ (x_19 : Int32) (H : Heap) (locs : List Loc) (ls : Array Slot), va_P (dC, dI) vwCl (wsM h ad cA fv wd ar) H → va_S (aM h ad s.heap.size) s.heap H locs → lv_has ls 3 [(0, .ref h), (1, .int x_19), (2, .int x_2)] → W p l e R9 s m a9 below meth c H locs 0 0 Q9 (F0 m 40 ls [])) ?_ (fun hj_20 => ?_)
        · intro x_19 H locs ls  hP hS hl
          obtain ⟨v_21, ev_21⟩ : ∃ z : Int32, z = x_2 + 1 := ⟨_, rfl⟩
          refine lv_iinc (v := v_21) (lv' := [(2, .int v_21), (0, .ref h), (1, .int x_19)]) hx hb dX12_inTime_40 hl (k := 2) rfl (by rw [ev_21]; rfl) (by decide) rfl (fun ls hl => ?_)
          have t_22 : v_21.toInt = x_2.toInt + 1 ∧ 1 ≤ v_21.toInt ∧ v_21.toInt ≤ 40 := iv_addc ev_21 i_8 (by decide) (by decide) (by decide)
          refine lv_goto (tgt := 4) hx hb dX12_inTime_43 (by decide) ?_
          exact ih_3 x_19 v_21 _ _ ls (by omega) (iv_w t_22.2 (by decide) (by decide)) hP hS (lv_sub hl [1, 2, 0] rfl)
        · skip
          refine lv_icmp_eq (tgt := 40) hx hb dX12_inTime_19 (by decide) (fun c_11 => ?_) (fun c_11 => ?_)
          · skip
            have i_12 : (-1) ≤ v_10.toInt ∧ v_10.toInt ≤ (-1) := iv_eq1 (⟨by decide, by decide⟩ : (-1 : Int) ≤ ((-1) : Int32).toInt ∧ ((-1) : Int32).toInt ≤ -1) c_11
            exact hj_20 x_1 _ _ ls  hP hS (lv_sub hl [0, 1, 2] rfl)
          · skip
            refine lv_aload_n hx hb dX12_inTime_22 rfl (lv_at hl 0 rfl) ?_
            refine gM_72 hx hb htg hown hK hP dX12_inTime_23 ?_
            refine lv_iload_n hx hb dX12_inTime_26 rfl (lv_at hl 2 rfl) ?_
            refine lM_72 hx hb hK hP (iv_in i_8 (by decide) (by decide)) dX12_inTime_27 (fun v_13 ev_13 => ?_)
            obtain rfl : v_10 = v_13 := ev_10.trans ev_13.symm
            refine lv_aload_n hx hb dX12_inTime_28 rfl (lv_at hl 0 rfl) ?_
            refine gM_13 hx hb htg hown hK hP dX12_inTime_29 ?_
            refine lv_iload_n hx hb dX12_inTime_32 rfl (lv_at hl 2 rfl) ?_
            refine lM_13 hx hb hK hP (iv_in i_8 (by decide) (by decide)) dX12_inTime_33 (fun v_14 ev_14 => ?_)
            refine lv_icmp_gt (tgt := 40) hx hb dX12_inTime_34 (by decide) (fun c_15 => ?_) (fun c_15 => ?_)
            · skip
              have i_16 : (-2147483648) ≤ v_14.toInt ∧ v_14.toInt ≤ 2147483646 := iv_lt1 (iv_any v_14) (iv_any v_10) c_15
              have i_17 : (-2147483647) ≤ v_10.toInt ∧ v_10.toInt ≤ 2147483647 := iv_lt2 (iv_any v_14) (iv_any v_10) c_15
              exact hj_20 x_1 _ _ ls  hP hS (lv_sub hl [0, 1, 2] rfl)
            · skip
              obtain ⟨v_18, ev_18⟩ : ∃ z : Int32, z = x_1 + 1 := ⟨_, rfl⟩
              refine lv_iinc (v := v_18) (lv' := [(1, .int v_18), (0, .ref h), (2, .int x_2)]) hx hb dX12_inTime_37 hl (k := 1) rfl (by rw [ev_18]; rfl) (by decide) rfl (fun ls hl => ?_)
              exact hj_20 v_18 _ _ ls  hP hS (lv_sub hl [1, 0, 2] rfl)
  · skip
    have z_24 : (0 : Int32).toInt = 0 := by decide
    exact hj_5 41 0 0 _ _ ls (by first | decide | omega) (iv_w (⟨by decide, by decide⟩ : (0 : Int) ≤ (0 : Int32).toInt ∧ (0 : Int32).toInt ≤ 0) (by decide) (by decide)) hP hS (lv_sub hl [2, 1, 0] rfl)
set_option maxHeartbeats 4000000 in
set_option maxRecDepth 100000 in
theorem m_reckonWays (l : Launch) (dC : Nat → ClassId) (dI : Nat → Nat → Nat) (sz h : Nat) (ad : Nat → Nat) (cA : Nat → ClassId) (hd : dM h ad) (fv : Nat → Int32) (wd : Int64) (ar : Nat → Nat → Int32) (hF_fv : rF fv) (hA_ar : rA ar) (pp : Int32) (h_pp : 0 ≤ pp.toInt ∧ pp.toInt ≤ 39) : Met l yX12_reckonWays (.code yX12_reckonWays cX12_reckonWays 8 none :: lw_good) ({ frames := 6, cells := 0, slots := 0, locals := 128 }) (va_Pc [.ref h, .int pp] (prM dC dI h ad cA fv wd ar sz)) (va_Qv (fun (u : mS) => rF u.1 ∧ rA u.2.2 ∧ fM [8] fv u.1 ∧ fA [4, 82] ar u.2.2 ∧ True) (enM dC dI h ad cA) (aM h ad sz)) 0 0 (aM h ad sz) := by
  refine Met.ofW (cc := cX12_reckonWays) (maxL := 8) (ret := none) (by decide) rfl ?_
  intro p e s m args below meth c s₁ B hml hv
  obtain ⟨rfl, hsz, hP, hK⟩ := hv
  have hx := B.exec
  have hb := B.bytes
  have hr := B.returns
  have hts := atoms_spec (ws := (.code yX12_reckonWays cX12_reckonWays 8 none :: lw_good)) B.pre
  have htg : ∀ w ∈ lw_good, w.before _ s = true := fun w hw => hts w (List.mem_cons_of_mem _ hw)
  have hown : s.vm.findClass RX12 = some m.cls := findClass_of_methodNamed B.named
  have hlocks := B.notSynchronized
  subst hsz
  have hS : va_S (aM h ad s.heap.size) s.heap s.heap [] := va_S.rf
  have hl := lv_entry ([.ref h, .int pp]) (n := 8) (Nat.le_of_ble_eq_true rfl)
  rw [lg_entry_eq]
  generalize (lg_sl ([.ref h, .int pp]) ++ List.replicate (8 - (lg_sl ([.ref h, .int pp])).length) Slot.unset).toArray = ls at hl ⊢
  have hl : lv_has ls 8 [(0, .ref h), (1, .int pp)] := hl
  refine lv_iconst (v := 0) hx hb dX12_reckonWays_0 (by decide) ?_
  refine lv_istore_n (lv' := [(2, .int 0), (0, .ref h), (1, .int pp)]) hx hb dX12_reckonWays_1 rfl hl (by decide) rfl (fun ls hl => ?_)
  refine my_cut (P := fun R9 a9 Q9 => ∀ (n_7 : Nat) (x_1 : Int32) (fv_2 : Nat → Int32) (ar_4 : Nat → Nat → Int32) (wd_6 : Int64) (H : Heap) (locs : List Loc) (ls : Array Slot), 80 - x_1.toInt < (n_7 : Int) → (0 ≤ x_1.toInt ∧ x_1.toInt ≤ 80) → rF fv_2 → fM [8] fv fv_2 → rA ar_4 → fA [4, 82] ar ar_4 → va_P (dC, dI) vwCl (wsM h ad cA fv_2 wd_6 ar_4) H → va_S (aM h ad s.heap.size) s.heap H locs → lv_has ls 8 [(0, .ref h), (1, .int pp), (2, .int x_1)] → W p l e R9 s m a9 below meth c H locs 0 0 Q9 (F0 m 2 ls [])) ?_ (fun hj_9 => ?_)
  · intro n_7
    induction n_7 with
    | zero => intro x_1 fv_2 ar_4 wd_6 H locs ls fu_8 i_x_1 hF_fv_2 fr_3 hA_ar_4 fa_5; exfalso; omega
    | succ n_7 ih_7 =>
      intro x_1 fv_2 ar_4 wd_6 H locs ls fu_8 i_x_1 hF_fv_2 fr_3 hA_ar_4 fa_5 hP hS hl
      refine lv_iload_n hx hb dX12_reckonWays_2 rfl (lv_at hl 2 rfl) ?_
      refine lv_aload_n hx hb dX12_reckonWays_3 rfl (lv_at hl 0 rfl) ?_
      refine gM_87 hx hb htg hown hK hP dX12_reckonWays_4 ?_
      refine my_ti (y := fv 87) ((fr_3 87 rfl)) ?_
      have i_10 : 0 ≤ (fv 87).toInt ∧ (fv 87).toInt ≤ 80 := hF_fv 87
      refine lv_icmp_ge (tgt := 190) hx hb dX12_reckonWays_7 (by decide) (fun c_11 => ?_) (fun c_11 => ?_)
      · skip
        exact W.vret hx hb hr (fun t ht hW => ⟨⟨(fv_2, wd_6, ar_4), rfl, ⟨hF_fv_2, hA_ar_4, (fM_call (fM_rf [8] _) fr_3 (by decide)), (fA_call (fA_rf [4, 82] _) fa_5 (by decide)), trivial⟩, ⟨by rw [ht]; exact hP, va_K.moved hW.alike hK⟩⟩, hS.F ht⟩) hS.2.2 dX12_reckonWays_190
      · skip
        have i_12 : 0 ≤ x_1.toInt ∧ x_1.toInt ≤ 79 := iv_lt1 i_x_1 i_10 (Int32.not_le.mp c_11)
        have i_13 : 1 ≤ (fv 87).toInt ∧ (fv 87).toInt ≤ 80 := iv_lt2 i_x_1 i_10 (Int32.not_le.mp c_11)
        refine lv_aload_n hx hb dX12_reckonWays_10 rfl (lv_at hl 0 rfl) ?_
        refine gM_83 hx hb htg hown hK hP dX12_reckonWays_11 ?_
        refine lv_iload_n hx hb dX12_reckonWays_14 rfl (lv_at hl 2 rfl) ?_
        refine lM_83 hx hb hK hP (iv_in i_12 (by decide) (by decide)) dX12_reckonWays_15 (fun v_14 ev_14 => ?_)
        have i_15 : 0 ≤ v_14.toInt ∧ v_14.toInt ≤ 79 := ev_14 ▸ hA_ar_4 83 _
        refine lv_istore_n (lv' := [(3, .int v_14), (0, .ref h), (1, .int pp), (2, .int x_1)]) hx hb dX12_reckonWays_16 rfl hl (by decide) rfl (fun ls hl => ?_)
        refine lv_aload_n hx hb dX12_reckonWays_17 rfl (lv_at hl 1 rfl) ?_
        refine gM_82 hx hb htg hown hK hP dX12_reckonWays_18 ?_
        refine lv_iload_n hx hb dX12_reckonWays_21 rfl (lv_at hl 0 rfl) ?_
        refine lv_ldc hx hb hown (htg (.constant RX12 225 100000) kw_7_232) dX12_reckonWays_22 ?_
        refine sM_82 hx hb hK hP hS hd (iv_in i_15 (by decide) (by decide)) dX12_reckonWays_24 (fun H locs ar_16 ear_16 hP hS => ?_)
        have hA_ar_16 : rA ar_16 := rA_put hA_ar_4 ear_16 (iv_any _)
        refine lv_aload_n hx hb dX12_reckonWays_25 rfl (lv_at hl 1 rfl) ?_
        refine lv_iload_n hx hb dX12_reckonWays_26 rfl (lv_at hl 2 rfl) ?_
        refine lv_iload_n hx hb dX12_reckonWays_27 rfl (lv_at hl 0 rfl) ?_
        refine va_calli (va_runV (As := [.int pp, .int v_14]) (rest := []) ⟨hx, hb, hml, hown, hts⟩ (m_isHeard l dC dI H.size h ad cA hd fv_2 wd_6 ar_16 hF_fv_2 hA_ar_16 pp v_14 h_pp i_15) (cwV 2 hts (gV kw_8_196 kw_8_198 kw_p_89 kw_1_15 kw_8_199) rfl rfl rfl (by decide +kernel) ⟨Nat.le_of_ble_eq_true rfl, Nat.le_of_ble_eq_true rfl⟩) ⟨fun a U g mk q => ⟨q.1, q.2.1, q.2.2.1, va_K.moved (u := U) (U := U.calling g mk a) (Vm.Alike.refl U.vm) q.2.2.2⟩, va_recv hK hP (ci := 12) (q0 := 0) rfl rfl, fun U hU hW => ⟨rfl, by rw [hU], by rw [hU]; exact hP, va_K.moved hW.alike hK⟩⟩ rfl rfl hl.1 rfl (lv_room (Nat.le_of_ble_eq_true rfl)) dX12_reckonWays_28 ⟨Nat.le_of_ble_eq_true rfl, Nat.le_of_ble_eq_true rfl⟩) hS (fun q _ h9 => aM_up hS q h9) (aM_up hS) (fun r_17 u t H1 locs ht _ hw hB _ hk1 hS => ?_)
        obtain ⟨fv_19, wd_20, ar_21⟩ := u
        obtain ⟨hF_fv_19, hA_ar_21, fr_22, fa_23, p_18, -⟩ := hw
        have hP : va_P (dC, dI) vwCl (wsM h ad cA fv_19 wd_20 ar_21) H1 := by have h9 := hB.1; rw [ht] at h9; exact h9
        have fr_22 : fM [8] fv_2 fv_19 := fr_22
        have fa_23 : fA [4] ar_16 ar_21 := fa_23
        generalize H1 = H at hP hS ⊢
        refine my_cut (P := fun R9 a9 Q9 => ∀ (fv_98 : Nat → Int32) (ar_100 : Nat → Nat → Int32) (wd_102 : Int64) (H : Heap) (locs : List Loc) (ls : Array Slot), rF fv_98 → fM [8] fv_19 fv_98 → rA ar_100 → fA [4, 82] ar_21 ar_100 → va_P (dC, dI) vwCl (wsM h ad cA fv_98 wd_102 ar_100) H → va_S (aM h ad s.heap.size) s.heap H locs → lv_has ls 8 [(0, .ref h), (1, .int pp), (2, .int x_1)] → W p l e R9 s m a9 below meth c H locs 0 0 Q9 (F0 m 184 ls [])) ?_ (fun hj_103 => ?_)
        · intro fv_98 ar_100 wd_102 H locs ls hF_fv_98 fr_99 hA_ar_100 fa_101 hP hS hl
          obtain ⟨v_104, ev_104⟩ : ∃ z : Int32, z = x_1 + 1 := ⟨_, rfl⟩
          refine lv_iinc (v := v_104) (lv' := [(2, .int v_104), (0, .ref h), (1, .int pp)]) hx hb dX12_reckonWays_184 hl (k := 2) rfl (by rw [ev_104]; rfl) (by decide) rfl (fun ls hl => ?_)
          have t_105 : v_104.toInt = x_1.toInt + 1 ∧ 1 ≤ v_104.toInt ∧ v_104.toInt ≤ 80 := iv_addc ev_104 i_12 (by decide) (by decide) (by decide)
          refine lv_goto (tgt := 2) hx hb dX12_reckonWays_187 (by decide) ?_
          exact ih_7 v_104 fv_98 ar_100 wd_102 _ _ ls (by omega) (iv_w t_105.2 (by decide) (by decide)) hF_fv_98 (fM_call (fM_call (fM_call (fM_rf [8] _) fr_3 (by decide)) fr_22 (by decide)) fr_99 (by decide)) hA_ar_100 (fA_call (fA_call (fA_put (fA_call (fA_rf [4, 82] _) fa_5 (by decide)) ear_16 (by decide)) fa_23 (by decide)) fa_101 (by decide)) hP hS (lv_sub hl [1, 2, 0] rfl)
        · skip
          refine lv_if_ne (tgt := 37) hx hb dX12_reckonWays_31 (by decide) (fun c_24 => ?_) (fun c_24 => ?_)
          · skip
            have i_25 : 1 ≤ r_17.toInt ∧ r_17.toInt ≤ 1 := iv_nel p_18 (by decide) c_24
            refine lv_aload_n hx hb dX12_reckonWays_37 rfl (lv_at hl 1 rfl) ?_
            refine gM_28 hx hb htg hown hK hP dX12_reckonWays_38 ?_
            refine lv_iload_n hx hb dX12_reckonWays_41 rfl (lv_at hl 0 rfl) ?_
            refine lM_28 hx hb hK hP (iv_in i_15 (by decide) (by decide)) dX12_reckonWays_42 (fun v_26 ev_26 => ?_)
            refine lv_aload_n hx hb dX12_reckonWays_43 rfl (lv_at hl 1 rfl) ?_
            refine lv_iload_n hx hb dX12_reckonWays_44 rfl (lv_at hl 0 rfl) ?_
            refine va_calli (va_runV (As := [.int v_14]) (rest := [.int v_26]) ⟨hx, hb, hml, hown, hts⟩ (m_drive l dC dI H.size h ad cA hd fv_19 wd_20 ar_21 hF_fv_19 hA_ar_21 v_14 i_15) (cwV 1 hts (gV kw_8_204 kw_8_206 kw_p_91 kw_1_15 kw_8_207) rfl rfl rfl (by decide +kernel) ⟨Nat.le_of_ble_eq_true rfl, Nat.le_of_ble_eq_true rfl⟩) ⟨fun a U g mk q => ⟨q.1, q.2.1, q.2.2.1, va_K.moved (u := U) (U := U.calling g mk a) (Vm.Alike.refl U.vm) q.2.2.2⟩, va_recv hK hP (ci := 12) (q0 := 0) rfl rfl, fun U hU hW => ⟨rfl, by rw [hU], by rw [hU]; exact hP, va_K.moved hW.alike hK⟩⟩ rfl rfl hl.1 rfl (lv_room (Nat.le_of_ble_eq_true rfl)) dX12_reckonWays_45 ⟨Nat.le_of_ble_eq_true rfl, Nat.le_of_ble_eq_true rfl⟩) hS (fun q _ h9 => aM_up hS q h9) (aM_up hS) (fun r_27 u t H1 locs ht _ hw hB _ hk1 hS => ?_)
            obtain ⟨fv_28, wd_29, ar_30⟩ := u
            obtain ⟨hF_fv_28, hA_ar_30, fr_31, fa_32, -⟩ := hw
            have hP : va_P (dC, dI) vwCl (wsM h ad cA fv_28 wd_29 ar_30) H1 := by have h9 := hB.1; rw [ht] at h9; exact h9
            have fr_31 : fM [8] fv_19 fv_28 := fr_31
            have fa_32 : fA [4] ar_21 ar_30 := fa_32
            generalize H1 = H at hP hS ⊢
            refine lv_iadd hx hb dX12_reckonWays_48 ?_
            refine lv_topi (fun v_33 ev_33 => ?_)
            refine lv_istore (lv' := [(4, .int v_33), (3, .int v_14), (0, .ref h), (1, .int pp), (2, .int x_1)]) hx hb dX12_reckonWays_49 hl (by decide) rfl (fun ls hl => ?_)
            refine lv_aload_n hx hb dX12_reckonWays_51 rfl (lv_at hl 2 rfl) ?_
            refine gM_19 hx hb htg hown hK hP dX12_reckonWays_52 ?_
            refine lv_aload_n hx hb dX12_reckonWays_55 rfl (lv_at hl 2 rfl) ?_
            refine gM_27 hx hb htg hown hK hP dX12_reckonWays_56 ?_
            refine lv_iload_n hx hb dX12_reckonWays_59 rfl (lv_at hl 1 rfl) ?_
            refine lM_27 hx hb hK hP (iv_in i_15 (by decide) (by decide)) dX12_reckonWays_60 (fun v_34 ev_34 => ?_)
            have i_35 : 0 ≤ v_34.toInt ∧ v_34.toInt ≤ 7 := ev_34 ▸ hA_ar_30 27 _
            refine lM_19 hx hb hK hP (iv_in i_35 (by decide) (by decide)) dX12_reckonWays_61 (fun v_36 ev_36 => ?_)
            have i_37 : 0 ≤ v_36.toInt ∧ v_36.toInt ≤ 11 := ev_36 ▸ hA_ar_30 19 _
            refine lv_istore (lv' := [(5, .int v_36), (4, .int v_33), (3, .int v_14), (0, .ref h), (1, .int pp), (2, .int x_1)]) hx hb dX12_reckonWays_62 hl (by decide) rfl (fun ls hl => ?_)
            refine lv_aload_n hx hb dX12_reckonWays_64 rfl (lv_at hl 3 rfl) ?_
            refine lv_iload hx hb dX12_reckonWays_65 (lv_at hl 0 rfl) ?_
            refine lv_aload_n hx hb dX12_reckonWays_67 rfl (lv_at hl 3 rfl) ?_
            refine gM_10 hx hb htg hown hK hP dX12_reckonWays_68 ?_
            refine lv_iload_n hx hb dX12_reckonWays_71 rfl (lv_at hl 4 rfl) ?_
            refine lM_10 hx hb hK hP (iv_in h_pp (by decide) (by decide)) dX12_reckonWays_72 (fun v_38 ev_38 => ?_)
            have i_39 : 0 ≤ v_38.toInt ∧ v_38.toInt ≤ 11 := ev_38 ▸ hA_ar_30 10 _
            refine va_calli (va_runV (As := [.int v_36, .int v_38]) (rest := []) ⟨hx, hb, hml, hown, hts⟩ (m_farOf l dC dI H.size h ad cA hd fv_28 wd_29 ar_30 hF_fv_28 hA_ar_30 v_36 v_38 i_37 i_39) (cwV 2 hts (gV kw_7_237 kw_7_239 kw_p_59 kw_1_15 kw_8_0) rfl rfl rfl (by decide +kernel) ⟨Nat.le_of_ble_eq_true rfl, Nat.le_of_ble_eq_true rfl⟩) ⟨fun a U g mk q => ⟨q.1, q.2.1, q.2.2.1, va_K.moved (u := U) (U := U.calling g mk a) (Vm.Alike.refl U.vm) q.2.2.2⟩, va_recv hK hP (ci := 12) (q0 := 0) rfl rfl, fun U hU hW => ⟨rfl, by rw [hU], by rw [hU]; exact hP, va_K.moved hW.alike hK⟩⟩ rfl rfl hl.1 rfl (lv_room (Nat.le_of_ble_eq_true rfl)) dX12_reckonWays_73 ⟨Nat.le_of_ble_eq_true rfl, Nat.le_of_ble_eq_true rfl⟩) hS (fun q _ h9 => aM_up hS q h9) (aM_up hS) (fun r_40 u t H1 locs ht _ hw hB _ hk1 hS => ?_)
            obtain ⟨fv_41, wd_42, ar_43⟩ := u
            obtain ⟨hF_fv_41, hA_ar_43, fr_44, fa_45, -⟩ := hw
            have hP : va_P (dC, dI) vwCl (wsM h ad cA fv_41 wd_42 ar_43) H1 := by have h9 := hB.1; rw [ht] at h9; exact h9
            have fr_44 : fM [8] fv_28 fv_41 := fr_44
            have fa_45 : fA [4] ar_30 ar_43 := fa_45
            generalize H1 = H at hP hS ⊢
            refine lv_ldc hx hb hown (htg (.constant RX12 225 100000) kw_7_232) dX12_reckonWays_76 ?_
            refine my_cut (P := fun R9 a9 Q9 => ∀ (fv_58 : Nat → Int32) (ar_60 : Nat → Nat → Int32) (wd_62 : Int64) (H : Heap) (locs : List Loc) (ls : Array Slot), rF fv_58 → fM [8] fv_41 fv_58 → rA ar_60 → fA [4, 82] ar_43 ar_60 → va_P (dC, dI) vwCl (wsM h ad cA fv_58 wd_62 ar_60) H → va_S (aM h ad s.heap.size) s.heap H locs → lv_has ls 8 [(0, .ref h), (1, .int pp), (2, .int x_1), (3, .int v_14), (4, .int v_33)] → W p l e R9 s m a9 below meth c H locs 0 0 Q9 (F0 m 103 ls [])) ?_ (fun hj_63 => ?_)
            · intro fv_58 ar_60 wd_62 H locs ls hF_fv_58 fr_59 hA_ar_60 fa_61 hP hS hl
              refine lv_iconst (v := 0) hx hb dX12_reckonWays_103 (by decide) ?_
              refine lv_istore (lv' := [(6, .int 0), (0, .ref h), (1, .int pp), (2, .int x_1), (3, .int v_14), (4, .int v_33)]) hx hb dX12_reckonWays_104 hl (by decide) rfl (fun ls hl => ?_)
              refine my_cut (P := fun R9 a9 Q9 => ∀ (n_67 : Nat) (x_64 : Int32) (ar_65 : Nat → Nat → Int32) (H : Heap) (locs : List Loc) (ls : Array Slot), 79 - x_64.toInt < (n_67 : Int) → (0 ≤ x_64.toInt ∧ x_64.toInt ≤ 79) → rA ar_65 → fA [82] ar_60 ar_65 → va_P (dC, dI) vwCl (wsM h ad cA fv_58 wd_62 ar_65) H → va_S (aM h ad s.heap.size) s.heap H locs → lv_has ls 8 [(0, .ref h), (1, .int pp), (2, .int x_1), (3, .int v_14), (4, .int v_33), (6, .int x_64)] → W p l e R9 s m a9 below meth c H locs 0 0 Q9 (F0 m 106 ls [])) ?_ (fun hj_69 => ?_)
              · intro n_67
                induction n_67 with
                | zero => intro x_64 ar_65 H locs ls fu_68 i_x_64 hA_ar_65 fa_66; exfalso; omega
                | succ n_67 ih_67 =>
                  intro x_64 ar_65 H locs ls fu_68 i_x_64 hA_ar_65 fa_66 hP hS hl
                  refine lv_iload hx hb dX12_reckonWays_106 (lv_at hl 5 rfl) ?_
                  refine lv_iload_n hx hb dX12_reckonWays_108 rfl (lv_at hl 2 rfl) ?_
                  refine lv_icmp_ge (tgt := 184) hx hb dX12_reckonWays_109 (by decide) (fun c_70 => ?_) (fun c_70 => ?_)
                  · skip
                    exact hj_103 fv_58 ar_65 wd_62 _ _ ls hF_fv_58 (fM_call (fM_call (fM_call (fM_rf [8] _) fr_31 (by decide)) fr_44 (by decide)) fr_59 (by decide)) hA_ar_65 (fA_call (fA_call (fA_call (fA_call (fA_rf [4, 82] _) fa_32 (by decide)) fa_45 (by decide)) fa_61 (by decide)) fa_66 (by decide)) hP hS (lv_sub hl [0, 1, 2] rfl)
                  · skip
                    have i_71 : 0 ≤ x_64.toInt ∧ x_64.toInt ≤ 78 := iv_lt1 i_x_64 i_12 (Int32.not_le.mp c_70)
                    have i_72 : 1 ≤ x_1.toInt ∧ x_1.toInt ≤ 79 := iv_lt2 i_x_64 i_12 (Int32.not_le.mp c_70)
                    refine lv_aload_n hx hb dX12_reckonWays_112 rfl (lv_at hl 0 rfl) ?_
                    refine gM_83 hx hb htg hown hK hP dX12_reckonWays_113 ?_
                    refine lv_iload hx hb dX12_reckonWays_116 (lv_at hl 5 rfl) ?_
                    refine lM_83 hx hb hK hP (iv_in i_71 (by decide) (by decide)) dX12_reckonWays_118 (fun v_73 ev_73 => ?_)
                    have i_74 : 0 ≤ v_73.toInt ∧ v_73.toInt ≤ 79 := ev_73 ▸ hA_ar_65 83 _
                    refine lv_istore (lv' := [(7, .int v_73), (0, .ref h), (1, .int pp), (2, .int x_1), (3, .int v_14), (4, .int v_33), (6, .int x_64)]) hx hb dX12_reckonWays_119 hl (by decide) rfl (fun ls hl => ?_)
                    refine lv_aload_n hx hb dX12_reckonWays_121 rfl (lv_at hl 1 rfl) ?_
                    refine gM_26 hx hb htg hown hK hP dX12_reckonWays_122 ?_
                    refine lv_iload hx hb dX12_reckonWays_125 (lv_at hl 0 rfl) ?_
                    refine lM_26 hx hb hK hP (iv_in i_74 (by decide) (by decide)) dX12_reckonWays_127 (fun v_75 ev_75 => ?_)
                    have i_76 : 0 ≤ v_75.toInt ∧ v_75.toInt ≤ 7 := ev_75 ▸ hA_ar_65 26 _
                    refine lv_aload_n hx hb dX12_reckonWays_128 rfl (lv_at hl 1 rfl) ?_
                    refine gM_27 hx hb htg hown hK hP dX12_reckonWays_129 ?_
                    refine lv_iload_n hx hb dX12_reckonWays_132 rfl (lv_at hl 4 rfl) ?_
                    refine lM_27 hx hb hK hP (iv_in i_15 (by decide) (by decide)) dX12_reckonWays_133 (fun v_77 ev_77 => ?_)
                    obtain rfl : v_34 = v_77 := ev_34.trans ((congrFun ((fA_call (fA_call (fA_call (fA_rf [4, 82] _) fa_45 (by decide)) fa_61 (by decide)) fa_66 (by decide)) 27 rfl) _).symm.trans ev_77.symm)
                    refine my_cut (P := fun R9 a9 Q9 => ∀ (ar_90 : Nat → Nat → Int32) (H : Heap) (locs : List Loc) (ls : Array Slot), rA ar_90 → fA [82] ar_65 ar_90 → va_P (dC, dI) vwCl (wsM h ad cA fv_58 wd_62 ar_90) H → va_S (aM h ad s.heap.size) s.heap H locs → lv_has ls 8 [(0, .ref h), (1, .int pp), (2, .int x_1), (3, .int v_14), (4, .int v_33), (6, .int x_64)] → W p l e R9 s m a9 below meth c H locs 0 0 Q9 (F0 m 178 ls [])) ?_ (fun hj_92 => ?_)
                    · intro ar_90 H locs ls hA_ar_90 fa_91 hP hS hl
                      obtain ⟨v_93, ev_93⟩ : ∃ z : Int32, z = x_64 + 1 := ⟨_, rfl⟩
                      refine lv_iinc (v := v_93) (lv' := [(6, .int v_93), (0, .ref h), (1, .int pp), (2, .int x_1), (3, .int v_14), (4, .int v_33)]) hx hb dX12_reckonWays_178 hl (k := 5) rfl (by rw [ev_93]; rfl) (by decide) rfl (fun ls hl => ?_)
                      have t_94 : v_93.toInt = x_64.toInt + 1 ∧ 1 ≤ v_93.toInt ∧ v_93.toInt ≤ 79 := iv_addc ev_93 i_71 (by decide) (by decide) (by decide)
                      refine lv_goto (tgt := 106) hx hb dX12_reckonWays_181 (by decide) ?_
                      exact ih_67 v_93 ar_90 _ _ ls (by omega) (iv_w t_94.2 (by decide) (by decide)) hA_ar_90 (fA_call (fA_call (fA_rf [82] _) fa_66 (by decide)) fa_91 (by decide)) hP hS (lv_sub hl [1, 2, 3, 4, 5, 0] rfl)
                    · skip
                      refine lv_icmp_ne (tgt := 178) hx hb dX12_reckonWays_134 (by decide) (fun c_78 => ?_) (fun c_78 => ?_)
                      · skip
                        exact hj_92 ar_65 _ _ ls hA_ar_65 (fA_rf [82] _) hP hS (lv_sub hl [1, 2, 3, 4, 5, 6] rfl)
                      · skip
                        refine lv_aload_n hx hb dX12_reckonWays_137 rfl (lv_at hl 1 rfl) ?_
                        refine gM_28 hx hb htg hown hK hP dX12_reckonWays_138 ?_
                        refine lv_iload hx hb dX12_reckonWays_141 (lv_at hl 0 rfl) ?_
                        refine lM_28 hx hb hK hP (iv_in i_74 (by decide) (by decide)) dX12_reckonWays_143 (fun v_79 ev_79 => ?_)
                        refine lv_iload hx hb dX12_reckonWays_144 (lv_at hl 5 rfl) ?_
                        refine lv_icmp_lt (tgt := 178) hx hb dX12_reckonWays_146 (by decide) (fun c_80 => ?_) (fun c_80 => ?_)
                        · skip
                          have i_81 : (-2147483648) ≤ v_79.toInt ∧ v_79.toInt ≤ 2147483646 := iv_lt1 (iv_any v_79) (iv_any v_33) c_80
                          have i_82 : (-2147483647) ≤ v_33.toInt ∧ v_33.toInt ≤ 2147483647 := iv_lt2 (iv_any v_79) (iv_any v_33) c_80
                          exact hj_92 ar_65 _ _ ls hA_ar_65 (fA_rf [82] _) hP hS (lv_sub hl [1, 2, 3, 4, 5, 6] rfl)
                        · skip
                          refine lv_aload_n hx hb dX12_reckonWays_149 rfl (lv_at hl 1 rfl) ?_
                          refine gM_82 hx hb htg hown hK hP dX12_reckonWays_150 ?_
                          refine lv_iload hx hb dX12_reckonWays_153 (lv_at hl 0 rfl) ?_
                          refine lM_82 hx hb hK hP (iv_in i_74 (by decide) (by decide)) dX12_reckonWays_155 (fun v_83 ev_83 => ?_)
                          refine lv_aload_n hx hb dX12_reckonWays_156 rfl (lv_at hl 1 rfl) ?_
                          refine gM_82 hx hb htg hown hK hP dX12_reckonWays_157 ?_
                          refine lv_iload_n hx hb dX12_reckonWays_160 rfl (lv_at hl 4 rfl) ?_
                          refine lM_82 hx hb hK hP (iv_in i_15 (by decide) (by decide)) dX12_reckonWays_161 (fun v_84 ev_84 => ?_)
                          refine lv_icmp_ge (tgt := 178) hx hb dX12_reckonWays_162 (by decide) (fun c_85 => ?_) (fun c_85 => ?_)
                          · skip
                            exact hj_92 ar_65 _ _ ls hA_ar_65 (fA_rf [82] _) hP hS (lv_sub hl [1, 2, 3, 4, 5, 6] rfl)
                          · skip
                            have i_86 : (-2147483648) ≤ v_83.toInt ∧ v_83.toInt ≤ 2147483646 := iv_lt1 (iv_any v_83) (iv_any v_84) (Int32.not_le.mp c_85)
                            have i_87 : (-2147483647) ≤ v_84.toInt ∧ v_84.toInt ≤ 2147483647 := iv_lt2 (iv_any v_83) (iv_any v_84) (Int32.not_le.mp c_85)
                            refine lv_aload_n hx hb dX12_reckonWays_165 rfl (lv_at hl 1 rfl) ?_
                            refine gM_82 hx hb htg hown hK hP dX12_reckonWays_166 ?_
                            refine lv_iload_n hx hb dX12_reckonWays_169 rfl (lv_at hl 4 rfl) ?_
                            refine lv_aload_n hx hb dX12_reckonWays_170 rfl (lv_at hl 1 rfl) ?_
                            refine gM_82 hx hb htg hown hK hP dX12_reckonWays_171 ?_
                            refine lv_iload hx hb dX12_reckonWays_174 (lv_at hl 0 rfl) ?_
                            refine lM_82 hx hb hK hP (iv_in i_74 (by decide) (by decide)) dX12_reckonWays_176 (fun v_88 ev_88 => ?_)
                            obtain rfl : v_83 = v_88 := ev_83.trans ev_88.symm
                            refine sM_82 hx hb hK hP hS hd (iv_in i_15 (by decide) (by decide)) dX12_reckonWays_177 (fun H locs ar_89 ear_89 hP hS => ?_)
                            have hA_ar_89 : rA ar_89 := rA_put hA_ar_65 ear_89 (iv_any _)
                            exact hj_92 ar_89 _ _ ls hA_ar_89 (fA_put (fA_rf [82] _) ear_89 (by decide)) hP hS (lv_sub hl [1, 2, 3, 4, 5, 6] rfl)
              · skip
                have z_96 : (0 : Int32).toInt = 0 := by decide
                exact hj_69 80 0 ar_60 _ _ ls (by first | decide | omega) (iv_w (⟨by decide, by decide⟩ : (0 : Int) ≤ (0 : Int32).toInt ∧ (0 : Int32).toInt ≤ 0) (by decide) (by decide)) hA_ar_60 (fA_rf [82] _) hP hS (lv_sub hl [1, 2, 3, 4, 5, 0] rfl)
            · skip
              refine lv_icmp_ge (tgt := 103) hx hb dX12_reckonWays_78 (by decide) (fun c_46 => ?_) (fun c_46 => ?_)
              · skip
                have i_47 : 100000 ≤ r_40.toInt ∧ r_40.toInt ≤ 2147483647 := iv_le2 (⟨by decide, by decide⟩ : (100000 : Int) ≤ (100000 : Int32).toInt ∧ (100000 : Int32).toInt ≤ 100000) (iv_any r_40) c_46
                exact hj_63 fv_41 ar_43 wd_42 _ _ ls hF_fv_41 (fM_rf [8] _) hA_ar_43 (fA_rf [4, 82] _) hP hS (lv_sub hl [3, 4, 5, 2, 1] rfl)
              · skip
                have i_48 : (-2147483648) ≤ r_40.toInt ∧ r_40.toInt ≤ 99999 := iv_lt1 (iv_any r_40) (⟨by decide, by decide⟩ : (100000 : Int) ≤ (100000 : Int32).toInt ∧ (100000 : Int32).toInt ≤ 100000) (Int32.not_le.mp c_46)
                refine lv_aload_n hx hb dX12_reckonWays_81 rfl (lv_at hl 3 rfl) ?_
                refine gM_82 hx hb htg hown hK hP dX12_reckonWays_82 ?_
                refine lv_iload_n hx hb dX12_reckonWays_85 rfl (lv_at hl 2 rfl) ?_
                refine lv_iload hx hb dX12_reckonWays_86 (lv_at hl 1 rfl) ?_
                refine lv_aload_n hx hb dX12_reckonWays_88 rfl (lv_at hl 3 rfl) ?_
                refine lv_iload_n hx hb dX12_reckonWays_89 rfl (lv_at hl 4 rfl) ?_
                refine lv_iload hx hb dX12_reckonWays_90 (lv_at hl 0 rfl) ?_
                refine lv_aload_n hx hb dX12_reckonWays_92 rfl (lv_at hl 3 rfl) ?_
                refine gM_10 hx hb htg hown hK hP dX12_reckonWays_93 ?_
                refine lv_iload_n hx hb dX12_reckonWays_96 rfl (lv_at hl 4 rfl) ?_
                refine lM_10 hx hb hK hP (iv_in h_pp (by decide) (by decide)) dX12_reckonWays_97 (fun v_49 ev_49 => ?_)
                obtain rfl : v_38 = v_49 := ev_38.trans ((congrFun ((fA_call (fA_rf [4] _) fa_45 (by decide)) 10 rfl) _).symm.trans ev_49.symm)
                refine va_calli (va_runV (As := [.int pp, .int v_36, .int v_38]) (rest := [.int v_33, .int v_14, .ref (ad 82)]) ⟨hx, hb, hml, hown, hts⟩ (m_walk l dC dI H.size h ad cA hd fv_41 wd_42 ar_43 hF_fv_41 hA_ar_43 pp v_36 v_38 h_pp i_37 i_39) (cwV 3 hts (gV kw_8_208 kw_8_210 kw_p_92 kw_1_15 kw_8_211) rfl rfl rfl (by decide +kernel) ⟨Nat.le_of_ble_eq_true rfl, Nat.le_of_ble_eq_true rfl⟩) ⟨fun a U g mk q => ⟨q.1, q.2.1, q.2.2.1, va_K.moved (u := U) (U := U.calling g mk a) (Vm.Alike.refl U.vm) q.2.2.2⟩, va_recv hK hP (ci := 12) (q0 := 0) rfl rfl, fun U hU hW => ⟨rfl, by rw [hU], by rw [hU]; exact hP, va_K.moved hW.alike hK⟩⟩ rfl rfl hl.1 rfl (lv_room (Nat.le_of_ble_eq_true rfl)) dX12_reckonWays_98 ⟨Nat.le_of_ble_eq_true rfl, Nat.le_of_ble_eq_true rfl⟩) hS (fun q _ h9 => aM_up hS q h9) (aM_up hS) (fun r_50 u t H1 locs ht _ hw hB _ hk1 hS => ?_)
                obtain ⟨fv_51, wd_52, ar_53⟩ := u
                obtain ⟨hF_fv_51, hA_ar_53, fr_54, fa_55, -⟩ := hw
                have hP : va_P (dC, dI) vwCl (wsM h ad cA fv_51 wd_52 ar_53) H1 := by have h9 := hB.1; rw [ht] at h9; exact h9
                have fr_54 : fM [8] fv_41 fv_51 := fr_54
                have fa_55 : fA [4] ar_43 ar_53 := fa_55
                generalize H1 = H at hP hS ⊢
                refine lv_iadd hx hb dX12_reckonWays_101 ?_
                refine lv_topi (fun v_56 ev_56 => ?_)
                refine sM_82 hx hb hK hP hS hd (iv_in i_15 (by decide) (by decide)) dX12_reckonWays_102 (fun H locs ar_57 ear_57 hP hS => ?_)
                have hA_ar_57 : rA ar_57 := rA_put hA_ar_53 ear_57 (iv_any _)
                exact hj_63 fv_51 ar_57 wd_52 _ _ ls hF_fv_51 (fM_call (fM_rf [8] _) fr_54 (by decide)) hA_ar_57 (fA_put (fA_call (fA_rf [4, 82] _) fa_55 (by decide)) ear_57 (by decide)) hP hS (lv_sub hl [3, 4, 5, 2, 1] rfl)
          · skip
            have i_97 : 0 ≤ r_17.toInt ∧ r_17.toInt ≤ 0 := iv_eq1 (⟨by decide, by decide⟩ : (0 : Int) ≤ (0 : Int32).toInt ∧ (0 : Int32).toInt ≤ 0) c_24
            refine lv_goto (tgt := 184) hx hb dX12_reckonWays_34 (by decide) ?_
            exact hj_103 fv_19 ar_21 wd_20 _ _ ls hF_fv_19 (fM_rf [8] _) hA_ar_21 (fA_rf [4, 82] _) hP hS (lv_sub hl [1, 2, 3] rfl)
  · skip
    have z_107 : (0 : Int32).toInt = 0 := by decide
    exact hj_9 81 0 fv ar wd _ _ ls (by first | decide | omega) (iv_w (⟨by decide, by decide⟩ : (0 : Int) ≤ (0 : Int32).toInt ∧ (0 : Int32).toInt ≤ 0) (by decide) (by decide)) hF_fv (fM_rf [8] _) hA_ar (fA_rf [4, 82] _) hP hS (lv_sub hl [1, 2, 0] rfl)
set_option maxHeartbeats 4000000 in
set_option maxRecDepth 100000 in
theorem m_mostSeated (l : Launch) (dC : Nat → ClassId) (dI : Nat → Nat → Nat) (sz h : Nat) (ad : Nat → Nat) (cA : Nat → ClassId) (hd : dM h ad) (fv : Nat → Int32) (wd : Int64) (ar : Nat → Nat → Int32) (hF_fv : rF fv) (hA_ar : rA ar) : Met l yX12_mostSeated (.code yX12_mostSeated cX12_mostSeated 5 (some .int) :: lw_good) ({ frames := 2, cells := 0, slots := 0, locals := 40 }) (va_Pc [.ref h] (prM dC dI h ad cA fv wd ar sz)) (va_Qi (fun (r : Int32) (u : mS) => rF u.1 ∧ rA u.2.2 ∧ fM [] fv u.1 ∧ fA [] ar u.2.2 ∧ True) (enM dC dI h ad cA) (aM h ad sz)) 0 0 (aM h ad sz) := by
  refine Met.ofW (cc := cX12_mostSeated) (maxL := 5) (ret := (some .int)) (by decide) rfl ?_
  intro p e s m args below meth c s₁ B hml hv
  obtain ⟨rfl, hsz, hP, hK⟩ := hv
  have hx := B.exec
  have hb := B.bytes
  have hr := B.returns
  have hts := atoms_spec (ws := (.code yX12_mostSeated cX12_mostSeated 5 (some .int) :: lw_good)) B.pre
  have htg : ∀ w ∈ lw_good, w.before _ s = true := fun w hw => hts w (List.mem_cons_of_mem _ hw)
  have hown : s.vm.findClass RX12 = some m.cls := findClass_of_methodNamed B.named
  have hlocks := B.notSynchronized
  subst hsz
  have hS : va_S (aM h ad s.heap.size) s.heap s.heap [] := va_S.rf
  have hl := lv_entry ([.ref h]) (n := 5) (Nat.le_of_ble_eq_true rfl)
  rw [lg_entry_eq]
  generalize (lg_sl ([.ref h]) ++ List.replicate (5 - (lg_sl ([.ref h])).length) Slot.unset).toArray = ls at hl ⊢
  have hl : lv_has ls 5 [(0, .ref h)] := hl
  refine lv_bipush (v := 40) hx hb dX12_mostSeated_0 (by decide) ?_
  refine lv_istore_n (lv' := [(1, .int 40), (0, .ref h)]) hx hb dX12_mostSeated_2 rfl hl (by decide) rfl (fun ls hl => ?_)
  refine lv_iconst (v := 0) hx hb dX12_mostSeated_3 (by decide) ?_
  refine lv_istore_n (lv' := [(2, .int 0), (1, .int 40), (0, .ref h)]) hx hb dX12_mostSeated_4 rfl hl (by decide) rfl (fun ls hl => ?_)
  refine my_cut (P := fun R9 a9 Q9 => ∀ (n_3 : Nat) (x_1 : Int32) (x_2 : Int32) (H : Heap) (locs : List Loc) (ls : Array Slot), 256 - x_2.toInt < (n_3 : Int) → ((-2147483648) ≤ x_1.toInt ∧ x_1.toInt ≤ 40) → (0 ≤ x_2.toInt ∧ x_2.toInt ≤ 256) → va_P (dC, dI) vwCl (wsM h ad cA fv wd ar) H → va_S (aM h ad s.heap.size) s.heap H locs → lv_has ls 5 [(0, .ref h), (1, .int x_1), (2, .int x_2)] → W p l e R9 s m a9 below meth c H locs 0 0 Q9 (F0 m 5 ls [])) ?_ (fun hj_5 => ?_)
  · intro n_3
    induction n_3 with
    | zero => intro x_1 x_2 H locs ls fu_4 i_x_1 i_x_2; exfalso; omega
    | succ n_3 ih_3 =>
      intro x_1 x_2 H locs ls fu_4 i_x_1 i_x_2 hP hS hl
      refine lv_iload_n hx hb dX12_mostSeated_5 rfl (lv_at hl 2 rfl) ?_
      refine lv_iconst (v := 1) hx hb dX12_mostSeated_6 (by decide) ?_
      refine lv_aload_n hx hb dX12_mostSeated_7 rfl (lv_at hl 0 rfl) ?_
      refine gM_33 hx hb htg hown hK hP dX12_mostSeated_8 ?_
      have i_6 : 0 ≤ (fv 33).toInt ∧ (fv 33).toInt ≤ 8 := hF_fv 33
      refine lv_ishl hx hb dX12_mostSeated_11 ?_
      refine lv_topi (fun v_7 ev_7 => ?_)
      have i_8 : 1 ≤ v_7.toInt ∧ v_7.toInt ≤ 256 := iv_shl (k := 8) ev_7 (iv_w i_6 (by decide) (by decide)) rfl (by decide)
      refine lv_icmp_ge (tgt := 73) hx hb dX12_mostSeated_12 (by decide) (fun c_9 => ?_) (fun c_9 => ?_)
      · skip
        have i_10 : 1 ≤ x_2.toInt ∧ x_2.toInt ≤ 256 := iv_le2 i_8 i_x_2 c_9
        refine lv_iload_n hx hb dX12_mostSeated_73 rfl (lv_at hl 1 rfl) ?_
        exact W.iret (v := x_1) hx hb hr (fun t ht hW => ⟨⟨x_1, (fv, wd, ar), rfl, ⟨hF_fv, hA_ar, (fM_rf [] _), (fA_rf [] _), trivial⟩, ⟨by rw [ht]; exact hP, va_K.moved hW.alike hK⟩⟩, hS.F ht⟩) hS.2.2 dX12_mostSeated_74
      · skip
        have i_11 : 0 ≤ x_2.toInt ∧ x_2.toInt ≤ 255 := iv_lt1 i_x_2 i_8 (Int32.not_le.mp c_9)
        refine lv_aload_n hx hb dX12_mostSeated_15 rfl (lv_at hl 0 rfl) ?_
        refine gM_94 hx hb htg hown hK hP dX12_mostSeated_16 ?_
        refine lv_iload_n hx hb dX12_mostSeated_19 rfl (lv_at hl 2 rfl) ?_
        refine lM_94 hx hb hK hP (iv_in i_11 (by decide) (by decide)) dX12_mostSeated_20 (fun v_12 ev_12 => ?_)
        refine lv_istore_n (lv' := [(3, .int v_12), (0, .ref h), (1, .int x_1), (2, .int x_2)]) hx hb dX12_mostSeated_21 rfl hl (by decide) rfl (fun ls hl => ?_)
        refine lv_iconst (v := 0) hx hb dX12_mostSeated_22 (by decide) ?_
        refine lv_istore (lv' := [(4, .int 0), (3, .int v_12), (0, .ref h), (1, .int x_1), (2, .int x_2)]) hx hb dX12_mostSeated_23 hl (by decide) rfl (fun ls hl => ?_)
        refine my_cut (P := fun R9 a9 Q9 => ∀ (n_15 : Nat) (x_13 : Int32) (x_14 : Int32) (H : Heap) (locs : List Loc) (ls : Array Slot), 8 - x_14.toInt < (n_15 : Int) → (0 ≤ x_14.toInt ∧ x_14.toInt ≤ 8) → va_P (dC, dI) vwCl (wsM h ad cA fv wd ar) H → va_S (aM h ad s.heap.size) s.heap H locs → lv_has ls 5 [(0, .ref h), (1, .int x_1), (2, .int x_2), (3, .int x_13), (4, .int x_14)] → W p l e R9 s m a9 below meth c H locs 0 0 Q9 (F0 m 25 ls [])) ?_ (fun hj_17 => ?_)
        · intro n_15
          induction n_15 with
          | zero => intro x_13 x_14 H locs ls fu_16 i_x_14; exfalso; omega
          | succ n_15 ih_15 =>
            intro x_13 x_14 H locs ls fu_16 i_x_14 hP hS hl
            refine lv_iload hx hb dX12_mostSeated_25 (lv_at hl 4 rfl) ?_
            refine lv_aload_n hx hb dX12_mostSeated_27 rfl (lv_at hl 0 rfl) ?_
            refine gM_33 hx hb htg hown hK hP dX12_mostSeated_28 ?_
            refine lv_icmp_ge (tgt := 60) hx hb dX12_mostSeated_31 (by decide) (fun c_18 => ?_) (fun c_18 => ?_)
            · skip
              refine lv_iload_n hx hb dX12_mostSeated_60 rfl (lv_at hl 3 rfl) ?_
              refine lv_iload_n hx hb dX12_mostSeated_61 rfl (lv_at hl 1 rfl) ?_
              refine my_cut (P := fun R9 a9 Q9 => ∀ (x_37 : Int32) (H : Heap) (locs : List Loc) (ls : Array Slot), ((-2147483648) ≤ x_37.toInt ∧ x_37.toInt ≤ 40) → va_P (dC, dI) vwCl (wsM h ad cA fv wd ar) H → va_S (aM h ad s.heap.size) s.heap H locs → lv_has ls 5 [(0, .ref h), (1, .int x_37), (2, .int x_2)] → W p l e R9 s m a9 below meth c H locs 0 0 Q9 (F0 m 67 ls [])) ?_ (fun hj_38 => ?_)
              · intro x_37 H locs ls i_x_37 hP hS hl
                obtain ⟨v_39, ev_39⟩ : ∃ z : Int32, z = x_2 + 1 := ⟨_, rfl⟩
                refine lv_iinc (v := v_39) (lv' := [(2, .int v_39), (0, .ref h), (1, .int x_37)]) hx hb dX12_mostSeated_67 hl (k := 2) rfl (by rw [ev_39]; rfl) (by decide) rfl (fun ls hl => ?_)
                have t_40 : v_39.toInt = x_2.toInt + 1 ∧ 1 ≤ v_39.toInt ∧ v_39.toInt ≤ 256 := iv_addc ev_39 i_11 (by decide) (by decide) (by decide)
                refine lv_goto (tgt := 5) hx hb dX12_mostSeated_70 (by decide) ?_
                exact ih_3 x_37 v_39 _ _ ls (by omega) i_x_37 (iv_w t_40.2 (by decide) (by decide)) hP hS (lv_sub hl [1, 2, 0] rfl)
              · skip
                refine lv_icmp_ge (tgt := 67) hx hb dX12_mostSeated_62 (by decide) (fun c_34 => ?_) (fun c_34 => ?_)
                · skip
                  exact hj_38 x_1 _ _ ls i_x_1 hP hS (lv_sub hl [0, 1, 2] rfl)
                · skip
                  have i_35 : (-2147483648) ≤ x_13.toInt ∧ x_13.toInt ≤ 39 := iv_lt1 (iv_any x_13) i_x_1 (Int32.not_le.mp c_34)
                  have i_36 : (-2147483647) ≤ x_1.toInt ∧ x_1.toInt ≤ 40 := iv_lt2 (iv_any x_13) i_x_1 (Int32.not_le.mp c_34)
                  refine lv_iload_n hx hb dX12_mostSeated_65 rfl (lv_at hl 3 rfl) ?_
                  refine lv_istore_n (lv' := [(1, .int x_13), (0, .ref h), (2, .int x_2), (3, .int x_13), (4, .int x_14)]) hx hb dX12_mostSeated_66 rfl hl (by decide) rfl (fun ls hl => ?_)
                  exact hj_38 x_13 _ _ ls (iv_w i_35 (by decide) (by decide)) hP hS (lv_sub hl [1, 0, 2] rfl)
            · skip
              have i_19 : 0 ≤ x_14.toInt ∧ x_14.toInt ≤ 7 := iv_lt1 i_x_14 i_6 (Int32.not_le.mp c_18)
              have i_20 : 1 ≤ (fv 33).toInt ∧ (fv 33).toInt ≤ 8 := iv_lt2 i_x_14 i_6 (Int32.not_le.mp c_18)
              refine lv_iload_n hx hb dX12_mostSeated_34 rfl (lv_at hl 2 rfl) ?_
              refine lv_iload hx hb dX12_mostSeated_35 (lv_at hl 4 rfl) ?_
              refine lv_ishr hx hb dX12_mostSeated_37 ?_
              refine lv_topi (fun v_21 ev_21 => ?_)
              refine lv_iconst (v := 1) hx hb dX12_mostSeated_38 (by decide) ?_
              refine lv_iand hx hb dX12_mostSeated_39 ?_
              refine lv_topi (fun v_22 ev_22 => ?_)
              have i_23 : 0 ≤ v_22.toInt ∧ v_22.toInt ≤ 1 := iv_1 ev_22
              refine lv_iconst (v := 1) hx hb dX12_mostSeated_40 (by decide) ?_
              refine my_cut (P := fun R9 a9 Q9 => ∀ (x_29 : Int32) (H : Heap) (locs : List Loc) (ls : Array Slot), va_P (dC, dI) vwCl (wsM h ad cA fv wd ar) H → va_S (aM h ad s.heap.size) s.heap H locs → lv_has ls 5 [(0, .ref h), (1, .int x_1), (2, .int x_2), (3, .int x_29), (4, .int x_14)] → W p l e R9 s m a9 below meth c H locs 0 0 Q9 (F0 m 54 ls [])) ?_ (fun hj_30 => ?_)
              · intro x_29 H locs ls  hP hS hl
                obtain ⟨v_31, ev_31⟩ : ∃ z : Int32, z = x_14 + 1 := ⟨_, rfl⟩
                refine lv_iinc (v := v_31) (lv' := [(4, .int v_31), (0, .ref h), (1, .int x_1), (2, .int x_2), (3, .int x_29)]) hx hb dX12_mostSeated_54 hl (k := 4) rfl (by rw [ev_31]; rfl) (by decide) rfl (fun ls hl => ?_)
                have t_32 : v_31.toInt = x_14.toInt + 1 ∧ 1 ≤ v_31.toInt ∧ v_31.toInt ≤ 8 := iv_addc ev_31 i_19 (by decide) (by decide) (by decide)
                refine lv_goto (tgt := 25) hx hb dX12_mostSeated_57 (by decide) ?_
                exact ih_15 x_29 v_31 _ _ ls (by omega) (iv_w t_32.2 (by decide) (by decide)) hP hS (lv_sub hl [1, 2, 3, 4, 0] rfl)
              · skip
                refine lv_icmp_ne (tgt := 54) hx hb dX12_mostSeated_41 (by decide) (fun c_24 => ?_) (fun c_24 => ?_)
                · skip
                  have i_25 : 0 ≤ v_22.toInt ∧ v_22.toInt ≤ 0 := iv_neh i_23 (by decide) c_24
                  exact hj_30 x_13 _ _ ls  hP hS (lv_sub hl [0, 1, 2, 3, 4] rfl)
                · skip
                  have i_26 : 1 ≤ v_22.toInt ∧ v_22.toInt ≤ 1 := iv_eq1 (⟨by decide, by decide⟩ : (1 : Int) ≤ (1 : Int32).toInt ∧ (1 : Int32).toInt ≤ 1) c_24
                  refine lv_iload_n hx hb dX12_mostSeated_44 rfl (lv_at hl 3 rfl) ?_
                  refine lv_aload_n hx hb dX12_mostSeated_45 rfl (lv_at hl 0 rfl) ?_
                  refine gM_93 hx hb htg hown hK hP dX12_mostSeated_46 ?_
                  refine lv_iload hx hb dX12_mostSeated_49 (lv_at hl 4 rfl) ?_
                  refine lM_93 hx hb hK hP (iv_in i_19 (by decide) (by decide)) dX12_mostSeated_51 (fun v_27 ev_27 => ?_)
                  refine lv_iadd hx hb dX12_mostSeated_52 ?_
                  refine lv_topi (fun v_28 ev_28 => ?_)
                  refine lv_istore_n (lv' := [(3, .int v_28), (0, .ref h), (1, .int x_1), (2, .int x_2), (4, .int x_14)]) hx hb dX12_mostSeated_53 rfl hl (by decide) rfl (fun ls hl => ?_)
                  exact hj_30 v_28 _ _ ls  hP hS (lv_sub hl [1, 2, 3, 0, 4] rfl)
        · skip
          have z_42 : (0 : Int32).toInt = 0 := by decide
          exact hj_17 9 v_12 0 _ _ ls (by first | decide | omega) (iv_w (⟨by decide, by decide⟩ : (0 : Int) ≤ (0 : Int32).toInt ∧ (0 : Int32).toInt ≤ 0) (by decide) (by decide)) hP hS (lv_sub hl [2, 3, 4, 1, 0] rfl)
  · skip
    have z_43 : (0 : Int32).toInt = 0 := by decide
    have z_44 : (40 : Int32).toInt = 40 := by decide
    exact hj_5 257 40 0 _ _ ls (by first | decide | omega) (iv_w (⟨by decide, by decide⟩ : (40 : Int) ≤ (40 : Int32).toInt ∧ (40 : Int32).toInt ≤ 40) (by decide) (by decide)) (iv_w (⟨by decide, by decide⟩ : (0 : Int) ≤ (0 : Int32).toInt ∧ (0 : Int32).toInt ≤ 0) (by decide) (by decide)) hP hS (lv_sub hl [2, 1, 0] rfl)

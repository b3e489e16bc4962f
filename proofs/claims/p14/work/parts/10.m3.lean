theorem dX12_ask_0 : decode cX12_ask 0 = .ok (.aload_n 0, 1) := by decide +kernel
theorem dX12_ask_1 : decode cX12_ask 1 = .ok (.getfield 67, 3) := by decide +kernel
theorem dX12_ask_4 : decode cX12_ask 4 = .ok (.iload_n 1, 1) := by decide +kernel
theorem dX12_ask_5 : decode cX12_ask 5 = .ok (.iaload, 1) := by decide +kernel
theorem dX12_ask_6 : decode cX12_ask 6 = .ok (.istore 4, 2) := by decide +kernel
theorem dX12_ask_8 : decode cX12_ask 8 = .ok (.aload_n 0, 1) := by decide +kernel
theorem dX12_ask_9 : decode cX12_ask 9 = .ok (.getfield 121, 3) := by decide +kernel
theorem dX12_ask_12 : decode cX12_ask 12 = .ok (.iconst 4, 1) := by decide +kernel
theorem dX12_ask_13 : decode cX12_ask 13 = .ok (.iload_n 2, 1) := by decide +kernel
theorem dX12_ask_14 : decode cX12_ask 14 = .ok (.iastore, 1) := by decide +kernel
theorem dX12_ask_15 : decode cX12_ask 15 = .ok (.aload_n 0, 1) := by decide +kernel
theorem dX12_ask_16 : decode cX12_ask 16 = .ok (.getfield 121, 3) := by decide +kernel
theorem dX12_ask_19 : decode cX12_ask 19 = .ok (.iconst 5, 1) := by decide +kernel
theorem dX12_ask_20 : decode cX12_ask 20 = .ok (.aload_n 0, 1) := by decide +kernel
theorem dX12_ask_21 : decode cX12_ask 21 = .ok (.getfield 58, 3) := by decide +kernel
theorem dX12_ask_24 : decode cX12_ask 24 = .ok (.iload 4, 2) := by decide +kernel
theorem dX12_ask_26 : decode cX12_ask 26 = .ok (.iaload, 1) := by decide +kernel
theorem dX12_ask_27 : decode cX12_ask 27 = .ok (.iastore, 1) := by decide +kernel
theorem dX12_ask_28 : decode cX12_ask 28 = .ok (.aload_n 0, 1) := by decide +kernel
theorem dX12_ask_29 : decode cX12_ask 29 = .ok (.getfield 121, 3) := by decide +kernel
theorem dX12_ask_32 : decode cX12_ask 32 = .ok (.bipush 6, 2) := by decide +kernel
theorem dX12_ask_34 : decode cX12_ask 34 = .ok (.aload_n 0, 1) := by decide +kernel
theorem dX12_ask_35 : decode cX12_ask 35 = .ok (.aload_n 0, 1) := by decide +kernel
theorem dX12_ask_36 : decode cX12_ask 36 = .ok (.getfield 218, 3) := by decide +kernel
theorem dX12_ask_39 : decode cX12_ask 39 = .ok (.invokevirtual 250, 3) := by decide +kernel
theorem dX12_ask_42 : decode cX12_ask 42 = .ok (.iastore, 1) := by decide +kernel
theorem dX12_ask_43 : decode cX12_ask 43 = .ok (.aload_n 0, 1) := by decide +kernel
theorem dX12_ask_44 : decode cX12_ask 44 = .ok (.getfield 121, 3) := by decide +kernel
theorem dX12_ask_47 : decode cX12_ask 47 = .ok (.bipush 7, 2) := by decide +kernel
theorem dX12_ask_49 : decode cX12_ask 49 = .ok (.aload_n 0, 1) := by decide +kernel
theorem dX12_ask_50 : decode cX12_ask 50 = .ok (.getfield 76, 3) := by decide +kernel
theorem dX12_ask_53 : decode cX12_ask 53 = .ok (.iload_n 1, 1) := by decide +kernel
theorem dX12_ask_54 : decode cX12_ask 54 = .ok (.iaload, 1) := by decide +kernel
theorem dX12_ask_55 : decode cX12_ask 55 = .ok (.iastore, 1) := by decide +kernel
theorem dX12_ask_56 : decode cX12_ask 56 = .ok (.aload_n 0, 1) := by decide +kernel
theorem dX12_ask_57 : decode cX12_ask 57 = .ok (.getfield 121, 3) := by decide +kernel
theorem dX12_ask_60 : decode cX12_ask 60 = .ok (.bipush 8, 2) := by decide +kernel
theorem dX12_ask_62 : decode cX12_ask 62 = .ok (.aload_n 0, 1) := by decide +kernel
theorem dX12_ask_63 : decode cX12_ask 63 = .ok (.getfield 218, 3) := by decide +kernel
theorem dX12_ask_66 : decode cX12_ask 66 = .ok (.iastore, 1) := by decide +kernel
theorem dX12_ask_67 : decode cX12_ask 67 = .ok (.aload_n 0, 1) := by decide +kernel
theorem dX12_ask_68 : decode cX12_ask 68 = .ok (.getfield 121, 3) := by decide +kernel
theorem dX12_ask_71 : decode cX12_ask 71 = .ok (.bipush 9, 2) := by decide +kernel
theorem dX12_ask_73 : decode cX12_ask 73 = .ok (.aload_n 0, 1) := by decide +kernel
theorem dX12_ask_74 : decode cX12_ask 74 = .ok (.getfield 70, 3) := by decide +kernel
theorem dX12_ask_77 : decode cX12_ask 77 = .ok (.iload_n 1, 1) := by decide +kernel
theorem dX12_ask_78 : decode cX12_ask 78 = .ok (.iaload, 1) := by decide +kernel
theorem dX12_ask_79 : decode cX12_ask 79 = .ok (.iastore, 1) := by decide +kernel
theorem dX12_ask_80 : decode cX12_ask 80 = .ok (.aload_n 0, 1) := by decide +kernel
theorem dX12_ask_81 : decode cX12_ask 81 = .ok (.getfield 121, 3) := by decide +kernel
theorem dX12_ask_84 : decode cX12_ask 84 = .ok (.bipush 10, 2) := by decide +kernel
theorem dX12_ask_86 : decode cX12_ask 86 = .ok (.aload_n 0, 1) := by decide +kernel
theorem dX12_ask_87 : decode cX12_ask 87 = .ok (.getfield 73, 3) := by decide +kernel
theorem dX12_ask_90 : decode cX12_ask 90 = .ok (.iload_n 1, 1) := by decide +kernel
theorem dX12_ask_91 : decode cX12_ask 91 = .ok (.iaload, 1) := by decide +kernel
theorem dX12_ask_92 : decode cX12_ask 92 = .ok (.iastore, 1) := by decide +kernel
theorem dX12_ask_93 : decode cX12_ask 93 = .ok (.aload_n 0, 1) := by decide +kernel
theorem dX12_ask_94 : decode cX12_ask 94 = .ok (.getfield 121, 3) := by decide +kernel
theorem dX12_ask_97 : decode cX12_ask 97 = .ok (.bipush 11, 2) := by decide +kernel
theorem dX12_ask_99 : decode cX12_ask 99 = .ok (.iload_n 3, 1) := by decide +kernel
theorem dX12_ask_100 : decode cX12_ask 100 = .ok (.iastore, 1) := by decide +kernel
theorem dX12_ask_101 : decode cX12_ask 101 = .ok (.aload_n 0, 1) := by decide +kernel
theorem dX12_ask_102 : decode cX12_ask 102 = .ok (.getfield 121, 3) := by decide +kernel
theorem dX12_ask_105 : decode cX12_ask 105 = .ok (.iconst 3, 1) := by decide +kernel
theorem dX12_ask_106 : decode cX12_ask 106 = .ok (.aload_n 0, 1) := by decide +kernel
theorem dX12_ask_107 : decode cX12_ask 107 = .ok (.getfield 218, 3) := by decide +kernel
theorem dX12_ask_110 : decode cX12_ask 110 = .ok (.aload_n 0, 1) := by decide +kernel
theorem dX12_ask_111 : decode cX12_ask 111 = .ok (.getfield 61, 3) := by decide +kernel
theorem dX12_ask_114 : decode cX12_ask 114 = .ok (.iload 4, 2) := by decide +kernel
theorem dX12_ask_116 : decode cX12_ask 116 = .ok (.iaload, 1) := by decide +kernel
theorem dX12_ask_117 : decode cX12_ask 117 = .ok (.if_icmp .gt 7, 3) := by decide +kernel
theorem dX12_ask_120 : decode cX12_ask 120 = .ok (.iconst 1, 1) := by decide +kernel
theorem dX12_ask_121 : decode cX12_ask 121 = .ok (.goto 4, 3) := by decide +kernel
theorem dX12_ask_124 : decode cX12_ask 124 = .ok (.iconst 0, 1) := by decide +kernel
theorem dX12_ask_125 : decode cX12_ask 125 = .ok (.iastore, 1) := by decide +kernel
theorem dX12_ask_126 : decode cX12_ask 126 = .ok (.iconst 0, 1) := by decide +kernel
theorem dX12_ask_127 : decode cX12_ask 127 = .ok (.istore 5, 2) := by decide +kernel
theorem dX12_ask_129 : decode cX12_ask 129 = .ok (.iload 5, 2) := by decide +kernel
theorem dX12_ask_131 : decode cX12_ask 131 = .ok (.iconst 2, 1) := by decide +kernel
theorem dX12_ask_132 : decode cX12_ask 132 = .ok (.if_icmp .gt 33, 3) := by decide +kernel
theorem dX12_ask_135 : decode cX12_ask 135 = .ok (.aload_n 0, 1) := by decide +kernel
theorem dX12_ask_136 : decode cX12_ask 136 = .ok (.getfield 121, 3) := by decide +kernel
theorem dX12_ask_139 : decode cX12_ask 139 = .ok (.iload 5, 2) := by decide +kernel
theorem dX12_ask_141 : decode cX12_ask 141 = .ok (.aload_n 0, 1) := by decide +kernel
theorem dX12_ask_142 : decode cX12_ask 142 = .ok (.getfield 52, 3) := by decide +kernel
theorem dX12_ask_145 : decode cX12_ask 145 = .ok (.iload 4, 2) := by decide +kernel
theorem dX12_ask_147 : decode cX12_ask 147 = .ok (.iaload, 1) := by decide +kernel
theorem dX12_ask_148 : decode cX12_ask 148 = .ok (.iload 5, 2) := by decide +kernel
theorem dX12_ask_150 : decode cX12_ask 150 = .ok (.if_icmp .ne 7, 3) := by decide +kernel
theorem dX12_ask_153 : decode cX12_ask 153 = .ok (.iconst 1, 1) := by decide +kernel
theorem dX12_ask_154 : decode cX12_ask 154 = .ok (.goto 4, 3) := by decide +kernel
theorem dX12_ask_157 : decode cX12_ask 157 = .ok (.iconst 0, 1) := by decide +kernel
theorem dX12_ask_158 : decode cX12_ask 158 = .ok (.iastore, 1) := by decide +kernel
theorem dX12_ask_159 : decode cX12_ask 159 = .ok (.iinc 5 1, 3) := by decide +kernel
theorem dX12_ask_162 : decode cX12_ask 162 = .ok (.goto (-33), 3) := by decide +kernel
theorem dX12_ask_165 : decode cX12_ask 165 = .ok (.return_, 1) := by decide +kernel
theorem dX12_bylawNow_0 : decode cX12_bylawNow 0 = .ok (.iconst (-1), 1) := by decide +kernel
theorem dX12_bylawNow_1 : decode cX12_bylawNow 1 = .ok (.istore_n 1, 1) := by decide +kernel
theorem dX12_bylawNow_2 : decode cX12_bylawNow 2 = .ok (.iconst 0, 1) := by decide +kernel
theorem dX12_bylawNow_3 : decode cX12_bylawNow 3 = .ok (.istore_n 2, 1) := by decide +kernel
theorem dX12_bylawNow_4 : decode cX12_bylawNow 4 = .ok (.iload_n 2, 1) := by decide +kernel
theorem dX12_bylawNow_5 : decode cX12_bylawNow 5 = .ok (.aload_n 0, 1) := by decide +kernel
theorem dX12_bylawNow_6 : decode cX12_bylawNow 6 = .ok (.getfield 394, 3) := by decide +kernel
theorem dX12_bylawNow_9 : decode cX12_bylawNow 9 = .ok (.if_icmp .ge 44, 3) := by decide +kernel
theorem dX12_bylawNow_12 : decode cX12_bylawNow 12 = .ok (.aload_n 0, 1) := by decide +kernel
theorem dX12_bylawNow_13 : decode cX12_bylawNow 13 = .ok (.getfield 94, 3) := by decide +kernel
theorem dX12_bylawNow_16 : decode cX12_bylawNow 16 = .ok (.iload_n 2, 1) := by decide +kernel
theorem dX12_bylawNow_17 : decode cX12_bylawNow 17 = .ok (.iaload, 1) := by decide +kernel
theorem dX12_bylawNow_18 : decode cX12_bylawNow 18 = .ok (.aload_n 0, 1) := by decide +kernel
theorem dX12_bylawNow_19 : decode cX12_bylawNow 19 = .ok (.getfield 218, 3) := by decide +kernel
theorem dX12_bylawNow_22 : decode cX12_bylawNow 22 = .ok (.if_icmp .gt 25, 3) := by decide +kernel
theorem dX12_bylawNow_25 : decode cX12_bylawNow 25 = .ok (.iload_n 1, 1) := by decide +kernel
theorem dX12_bylawNow_26 : decode cX12_bylawNow 26 = .ok (.iconst (-1), 1) := by decide +kernel
theorem dX12_bylawNow_27 : decode cX12_bylawNow 27 = .ok (.if_icmp .eq 18, 3) := by decide +kernel
theorem dX12_bylawNow_30 : decode cX12_bylawNow 30 = .ok (.aload_n 0, 1) := by decide +kernel
theorem dX12_bylawNow_31 : decode cX12_bylawNow 31 = .ok (.getfield 94, 3) := by decide +kernel
theorem dX12_bylawNow_34 : decode cX12_bylawNow 34 = .ok (.iload_n 2, 1) := by decide +kernel
theorem dX12_bylawNow_35 : decode cX12_bylawNow 35 = .ok (.iaload, 1) := by decide +kernel
theorem dX12_bylawNow_36 : decode cX12_bylawNow 36 = .ok (.aload_n 0, 1) := by decide +kernel
theorem dX12_bylawNow_37 : decode cX12_bylawNow 37 = .ok (.getfield 94, 3) := by decide +kernel
theorem dX12_bylawNow_40 : decode cX12_bylawNow 40 = .ok (.iload_n 1, 1) := by decide +kernel
theorem dX12_bylawNow_41 : decode cX12_bylawNow 41 = .ok (.iaload, 1) := by decide +kernel
theorem dX12_bylawNow_42 : decode cX12_bylawNow 42 = .ok (.if_icmp .lt 5, 3) := by decide +kernel
theorem dX12_bylawNow_45 : decode cX12_bylawNow 45 = .ok (.iload_n 2, 1) := by decide +kernel
theorem dX12_bylawNow_46 : decode cX12_bylawNow 46 = .ok (.istore_n 1, 1) := by decide +kernel
theorem dX12_bylawNow_47 : decode cX12_bylawNow 47 = .ok (.iinc 2 1, 3) := by decide +kernel
theorem dX12_bylawNow_50 : decode cX12_bylawNow 50 = .ok (.goto (-46), 3) := by decide +kernel
theorem dX12_bylawNow_53 : decode cX12_bylawNow 53 = .ok (.iload_n 1, 1) := by decide +kernel
theorem dX12_bylawNow_54 : decode cX12_bylawNow 54 = .ok (.ireturn, 1) := by decide +kernel
theorem dX12_drive_0 : decode cX12_drive 0 = .ok (.aload_n 0, 1) := by decide +kernel
theorem dX12_drive_1 : decode cX12_drive 1 = .ok (.getfield 67, 3) := by decide +kernel
theorem dX12_drive_4 : decode cX12_drive 4 = .ok (.iload_n 1, 1) := by decide +kernel
theorem dX12_drive_5 : decode cX12_drive 5 = .ok (.iaload, 1) := by decide +kernel
theorem dX12_drive_6 : decode cX12_drive 6 = .ok (.istore_n 2, 1) := by decide +kernel
theorem dX12_drive_7 : decode cX12_drive 7 = .ok (.aload_n 0, 1) := by decide +kernel
theorem dX12_drive_8 : decode cX12_drive 8 = .ok (.getfield 52, 3) := by decide +kernel
theorem dX12_drive_11 : decode cX12_drive 11 = .ok (.iload_n 2, 1) := by decide +kernel
theorem dX12_drive_12 : decode cX12_drive 12 = .ok (.iaload, 1) := by decide +kernel
theorem dX12_drive_13 : decode cX12_drive 13 = .ok (.iconst 1, 1) := by decide +kernel
theorem dX12_drive_14 : decode cX12_drive 14 = .ok (.if_icmp .ne 7, 3) := by decide +kernel
theorem dX12_drive_17 : decode cX12_drive 17 = .ok (.iconst 4, 1) := by decide +kernel
theorem dX12_drive_18 : decode cX12_drive 18 = .ok (.goto 4, 3) := by decide +kernel
theorem dX12_drive_21 : decode cX12_drive 21 = .ok (.iconst 3, 1) := by decide +kernel
theorem dX12_drive_22 : decode cX12_drive 22 = .ok (.istore_n 3, 1) := by decide +kernel
theorem dX12_drive_23 : decode cX12_drive 23 = .ok (.aload_n 0, 1) := by decide +kernel
theorem dX12_drive_24 : decode cX12_drive 24 = .ok (.getfield 52, 3) := by decide +kernel
theorem dX12_drive_27 : decode cX12_drive 27 = .ok (.iload_n 2, 1) := by decide +kernel
theorem dX12_drive_28 : decode cX12_drive 28 = .ok (.iaload, 1) := by decide +kernel
theorem dX12_drive_29 : decode cX12_drive 29 = .ok (.iconst 2, 1) := by decide +kernel
theorem dX12_drive_30 : decode cX12_drive 30 = .ok (.if_icmp .eq 18, 3) := by decide +kernel
theorem dX12_drive_33 : decode cX12_drive 33 = .ok (.aload_n 0, 1) := by decide +kernel
theorem dX12_drive_34 : decode cX12_drive 34 = .ok (.aload_n 0, 1) := by decide +kernel
theorem dX12_drive_35 : decode cX12_drive 35 = .ok (.getfield 218, 3) := by decide +kernel
theorem dX12_drive_38 : decode cX12_drive 38 = .ok (.invokevirtual 250, 3) := by decide +kernel
theorem dX12_drive_41 : decode cX12_drive 41 = .ok (.iconst 4, 1) := by decide +kernel
theorem dX12_drive_42 : decode cX12_drive 42 = .ok (.if_icmp .le 6, 3) := by decide +kernel
theorem dX12_drive_45 : decode cX12_drive 45 = .ok (.iinc 3 1, 3) := by decide +kernel
theorem dX12_drive_48 : decode cX12_drive 48 = .ok (.aload_n 0, 1) := by decide +kernel
theorem dX12_drive_49 : decode cX12_drive 49 = .ok (.iload_n 1, 1) := by decide +kernel
theorem dX12_drive_50 : decode cX12_drive 50 = .ok (.invokevirtual 420, 3) := by decide +kernel
theorem dX12_drive_53 : decode cX12_drive 53 = .ok (.iload_n 3, 1) := by decide +kernel
theorem dX12_drive_54 : decode cX12_drive 54 = .ok (.imul, 1) := by decide +kernel
theorem dX12_drive_55 : decode cX12_drive 55 = .ok (.bipush 9, 2) := by decide +kernel
theorem dX12_drive_57 : decode cX12_drive 57 = .ok (.iadd, 1) := by decide +kernel
theorem dX12_drive_58 : decode cX12_drive 58 = .ok (.bipush 10, 2) := by decide +kernel
theorem dX12_drive_60 : decode cX12_drive 60 = .ok (.idiv, 1) := by decide +kernel
theorem dX12_drive_61 : decode cX12_drive 61 = .ok (.istore 4, 2) := by decide +kernel
theorem dX12_drive_63 : decode cX12_drive 63 = .ok (.iload 4, 2) := by decide +kernel
theorem dX12_drive_65 : decode cX12_drive 65 = .ok (.iconst 1, 1) := by decide +kernel
theorem dX12_drive_66 : decode cX12_drive 66 = .ok (.if_icmp .ge 7, 3) := by decide +kernel
theorem dX12_drive_69 : decode cX12_drive 69 = .ok (.iconst 1, 1) := by decide +kernel
theorem dX12_drive_70 : decode cX12_drive 70 = .ok (.goto 5, 3) := by decide +kernel
theorem dX12_drive_73 : decode cX12_drive 73 = .ok (.iload 4, 2) := by decide +kernel
theorem dX12_drive_75 : decode cX12_drive 75 = .ok (.ireturn, 1) := by decide +kernel
theorem dX12_inTime_0 : decode cX12_inTime 0 = .ok (.iconst 0, 1) := by decide +kernel
theorem dX12_inTime_1 : decode cX12_inTime 1 = .ok (.istore_n 1, 1) := by decide +kernel
theorem dX12_inTime_2 : decode cX12_inTime 2 = .ok (.iconst 0, 1) := by decide +kernel
theorem dX12_inTime_3 : decode cX12_inTime 3 = .ok (.istore_n 2, 1) := by decide +kernel
theorem dX12_inTime_4 : decode cX12_inTime 4 = .ok (.iload_n 2, 1) := by decide +kernel
theorem dX12_inTime_5 : decode cX12_inTime 5 = .ok (.aload_n 0, 1) := by decide +kernel
theorem dX12_inTime_6 : decode cX12_inTime 6 = .ok (.getfield 254, 3) := by decide +kernel
theorem dX12_inTime_9 : decode cX12_inTime 9 = .ok (.if_icmp .ge 37, 3) := by decide +kernel
theorem dX12_inTime_12 : decode cX12_inTime 12 = .ok (.aload_n 0, 1) := by decide +kernel
theorem dX12_inTime_13 : decode cX12_inTime 13 = .ok (.getfield 147, 3) := by decide +kernel
theorem dX12_inTime_16 : decode cX12_inTime 16 = .ok (.iload_n 2, 1) := by decide +kernel
theorem dX12_inTime_17 : decode cX12_inTime 17 = .ok (.iaload, 1) := by decide +kernel
theorem dX12_inTime_18 : decode cX12_inTime 18 = .ok (.iconst (-1), 1) := by decide +kernel
theorem dX12_inTime_19 : decode cX12_inTime 19 = .ok (.if_icmp .eq 21, 3) := by decide +kernel
theorem dX12_inTime_22 : decode cX12_inTime 22 = .ok (.aload_n 0, 1) := by decide +kernel
theorem dX12_inTime_23 : decode cX12_inTime 23 = .ok (.getfield 147, 3) := by decide +kernel
theorem dX12_inTime_26 : decode cX12_inTime 26 = .ok (.iload_n 2, 1) := by decide +kernel
theorem dX12_inTime_27 : decode cX12_inTime 27 = .ok (.iaload, 1) := by decide +kernel
theorem dX12_inTime_28 : decode cX12_inTime 28 = .ok (.aload_n 0, 1) := by decide +kernel
theorem dX12_inTime_29 : decode cX12_inTime 29 = .ok (.getfield 31, 3) := by decide +kernel
theorem dX12_inTime_32 : decode cX12_inTime 32 = .ok (.iload_n 2, 1) := by decide +kernel
theorem dX12_inTime_33 : decode cX12_inTime 33 = .ok (.iaload, 1) := by decide +kernel
theorem dX12_inTime_34 : decode cX12_inTime 34 = .ok (.if_icmp .gt 6, 3) := by decide +kernel
theorem dX12_inTime_37 : decode cX12_inTime 37 = .ok (.iinc 1 1, 3) := by decide +kernel
theorem dX12_inTime_40 : decode cX12_inTime 40 = .ok (.iinc 2 1, 3) := by decide +kernel
theorem dX12_inTime_43 : decode cX12_inTime 43 = .ok (.goto (-39), 3) := by decide +kernel
theorem dX12_inTime_46 : decode cX12_inTime 46 = .ok (.iload_n 1, 1) := by decide +kernel
theorem dX12_inTime_47 : decode cX12_inTime 47 = .ok (.ireturn, 1) := by decide +kernel
theorem dX12_isHeard_0 : decode cX12_isHeard 0 = .ok (.aload_n 0, 1) := by decide +kernel
theorem dX12_isHeard_1 : decode cX12_isHeard 1 = .ok (.iload_n 2, 1) := by decide +kernel
theorem dX12_isHeard_2 : decode cX12_isHeard 2 = .ok (.invokevirtual 426, 3) := by decide +kernel
theorem dX12_isHeard_5 : decode cX12_isHeard 5 = .ok (.ifCond .eq 37, 3) := by decide +kernel
theorem dX12_isHeard_8 : decode cX12_isHeard 8 = .ok (.aload_n 0, 1) := by decide +kernel
theorem dX12_isHeard_9 : decode cX12_isHeard 9 = .ok (.getfield 85, 3) := by decide +kernel
theorem dX12_isHeard_12 : decode cX12_isHeard 12 = .ok (.iload_n 2, 1) := by decide +kernel
theorem dX12_isHeard_13 : decode cX12_isHeard 13 = .ok (.iaload, 1) := by decide +kernel
theorem dX12_isHeard_14 : decode cX12_isHeard 14 = .ok (.aload_n 0, 1) := by decide +kernel
theorem dX12_isHeard_15 : decode cX12_isHeard 15 = .ok (.getfield 218, 3) := by decide +kernel
theorem dX12_isHeard_18 : decode cX12_isHeard 18 = .ok (.aload_n 0, 1) := by decide +kernel
theorem dX12_isHeard_19 : decode cX12_isHeard 19 = .ok (.getfield 43, 3) := by decide +kernel
theorem dX12_isHeard_22 : decode cX12_isHeard 22 = .ok (.iload_n 1, 1) := by decide +kernel
theorem dX12_isHeard_23 : decode cX12_isHeard 23 = .ok (.iaload, 1) := by decide +kernel
theorem dX12_isHeard_24 : decode cX12_isHeard 24 = .ok (.isub, 1) := by decide +kernel
theorem dX12_isHeard_25 : decode cX12_isHeard 25 = .ok (.if_icmp .gt 17, 3) := by decide +kernel
theorem dX12_isHeard_28 : decode cX12_isHeard 28 = .ok (.aload_n 0, 1) := by decide +kernel
theorem dX12_isHeard_29 : decode cX12_isHeard 29 = .ok (.iload_n 2, 1) := by decide +kernel
theorem dX12_isHeard_30 : decode cX12_isHeard 30 = .ok (.invokevirtual 420, 3) := by decide +kernel
theorem dX12_isHeard_33 : decode cX12_isHeard 33 = .ok (.ldc 225, 2) := by decide +kernel
theorem dX12_isHeard_35 : decode cX12_isHeard 35 = .ok (.if_icmp .ge 7, 3) := by decide +kernel
theorem dX12_isHeard_38 : decode cX12_isHeard 38 = .ok (.iconst 1, 1) := by decide +kernel
theorem dX12_isHeard_39 : decode cX12_isHeard 39 = .ok (.goto 4, 3) := by decide +kernel
theorem dX12_isHeard_42 : decode cX12_isHeard 42 = .ok (.iconst 0, 1) := by decide +kernel
theorem dX12_isHeard_43 : decode cX12_isHeard 43 = .ok (.ireturn, 1) := by decide +kernel
theorem dX12_mostSeated_0 : decode cX12_mostSeated 0 = .ok (.bipush 40, 2) := by decide +kernel
theorem dX12_mostSeated_2 : decode cX12_mostSeated 2 = .ok (.istore_n 1, 1) := by decide +kernel
theorem dX12_mostSeated_3 : decode cX12_mostSeated 3 = .ok (.iconst 0, 1) := by decide +kernel
theorem dX12_mostSeated_4 : decode cX12_mostSeated 4 = .ok (.istore_n 2, 1) := by decide +kernel
theorem dX12_mostSeated_5 : decode cX12_mostSeated 5 = .ok (.iload_n 2, 1) := by decide +kernel
theorem dX12_mostSeated_6 : decode cX12_mostSeated 6 = .ok (.iconst 1, 1) := by decide +kernel
theorem dX12_mostSeated_7 : decode cX12_mostSeated 7 = .ok (.aload_n 0, 1) := by decide +kernel
theorem dX12_mostSeated_8 : decode cX12_mostSeated 8 = .ok (.getfield 260, 3) := by decide +kernel
theorem dX12_mostSeated_11 : decode cX12_mostSeated 11 = .ok (.ishl, 1) := by decide +kernel
theorem dX12_mostSeated_12 : decode cX12_mostSeated 12 = .ok (.if_icmp .ge 61, 3) := by decide +kernel
theorem dX12_mostSeated_15 : decode cX12_mostSeated 15 = .ok (.aload_n 0, 1) := by decide +kernel
theorem dX12_mostSeated_16 : decode cX12_mostSeated 16 = .ok (.getfield 201, 3) := by decide +kernel
theorem dX12_mostSeated_19 : decode cX12_mostSeated 19 = .ok (.iload_n 2, 1) := by decide +kernel
theorem dX12_mostSeated_20 : decode cX12_mostSeated 20 = .ok (.iaload, 1) := by decide +kernel
theorem dX12_mostSeated_21 : decode cX12_mostSeated 21 = .ok (.istore_n 3, 1) := by decide +kernel
theorem dX12_mostSeated_22 : decode cX12_mostSeated 22 = .ok (.iconst 0, 1) := by decide +kernel
theorem dX12_mostSeated_23 : decode cX12_mostSeated 23 = .ok (.istore 4, 2) := by decide +kernel
theorem dX12_mostSeated_25 : decode cX12_mostSeated 25 = .ok (.iload 4, 2) := by decide +kernel
theorem dX12_mostSeated_27 : decode cX12_mostSeated 27 = .ok (.aload_n 0, 1) := by decide +kernel
theorem dX12_mostSeated_28 : decode cX12_mostSeated 28 = .ok (.getfield 260, 3) := by decide +kernel
theorem dX12_mostSeated_31 : decode cX12_mostSeated 31 = .ok (.if_icmp .ge 29, 3) := by decide +kernel
theorem dX12_mostSeated_34 : decode cX12_mostSeated 34 = .ok (.iload_n 2, 1) := by decide +kernel
theorem dX12_mostSeated_35 : decode cX12_mostSeated 35 = .ok (.iload 4, 2) := by decide +kernel
theorem dX12_mostSeated_37 : decode cX12_mostSeated 37 = .ok (.ishr, 1) := by decide +kernel
theorem dX12_mostSeated_38 : decode cX12_mostSeated 38 = .ok (.iconst 1, 1) := by decide +kernel
theorem dX12_mostSeated_39 : decode cX12_mostSeated 39 = .ok (.iand, 1) := by decide +kernel
theorem dX12_mostSeated_40 : decode cX12_mostSeated 40 = .ok (.iconst 1, 1) := by decide +kernel
theorem dX12_mostSeated_41 : decode cX12_mostSeated 41 = .ok (.if_icmp .ne 13, 3) := by decide +kernel
theorem dX12_mostSeated_44 : decode cX12_mostSeated 44 = .ok (.iload_n 3, 1) := by decide +kernel
theorem dX12_mostSeated_45 : decode cX12_mostSeated 45 = .ok (.aload_n 0, 1) := by decide +kernel
theorem dX12_mostSeated_46 : decode cX12_mostSeated 46 = .ok (.getfield 198, 3) := by decide +kernel
theorem dX12_mostSeated_49 : decode cX12_mostSeated 49 = .ok (.iload 4, 2) := by decide +kernel
theorem dX12_mostSeated_51 : decode cX12_mostSeated 51 = .ok (.iaload, 1) := by decide +kernel
theorem dX12_mostSeated_52 : decode cX12_mostSeated 52 = .ok (.iadd, 1) := by decide +kernel
theorem dX12_mostSeated_53 : decode cX12_mostSeated 53 = .ok (.istore_n 3, 1) := by decide +kernel
theorem dX12_mostSeated_54 : decode cX12_mostSeated 54 = .ok (.iinc 4 1, 3) := by decide +kernel
theorem dX12_mostSeated_57 : decode cX12_mostSeated 57 = .ok (.goto (-32), 3) := by decide +kernel
theorem dX12_mostSeated_60 : decode cX12_mostSeated 60 = .ok (.iload_n 3, 1) := by decide +kernel
theorem dX12_mostSeated_61 : decode cX12_mostSeated 61 = .ok (.iload_n 1, 1) := by decide +kernel
theorem dX12_mostSeated_62 : decode cX12_mostSeated 62 = .ok (.if_icmp .ge 5, 3) := by decide +kernel
theorem dX12_mostSeated_65 : decode cX12_mostSeated 65 = .ok (.iload_n 3, 1) := by decide +kernel
theorem dX12_mostSeated_66 : decode cX12_mostSeated 66 = .ok (.istore_n 1, 1) := by decide +kernel
theorem dX12_mostSeated_67 : decode cX12_mostSeated 67 = .ok (.iinc 2 1, 3) := by decide +kernel
theorem dX12_mostSeated_70 : decode cX12_mostSeated 70 = .ok (.goto (-65), 3) := by decide +kernel
theorem dX12_mostSeated_73 : decode cX12_mostSeated 73 = .ok (.iload_n 1, 1) := by decide +kernel
theorem dX12_mostSeated_74 : decode cX12_mostSeated 74 = .ok (.ireturn, 1) := by decide +kernel
theorem dX12_pace_0 : decode cX12_pace 0 = .ok (.bipush 18, 2) := by decide +kernel
theorem dX12_pace_2 : decode cX12_pace 2 = .ok (.aload_n 0, 1) := by decide +kernel
theorem dX12_pace_3 : decode cX12_pace 3 = .ok (.aload_n 0, 1) := by decide +kernel
theorem dX12_pace_4 : decode cX12_pace 4 = .ok (.getfield 218, 3) := by decide +kernel
theorem dX12_pace_7 : decode cX12_pace 7 = .ok (.invokevirtual 250, 3) := by decide +kernel
theorem dX12_pace_10 : decode cX12_pace 10 = .ok (.iadd, 1) := by decide +kernel
theorem dX12_pace_11 : decode cX12_pace 11 = .ok (.aload_n 0, 1) := by decide +kernel
theorem dX12_pace_12 : decode cX12_pace 12 = .ok (.getfield 37, 3) := by decide +kernel
theorem dX12_pace_15 : decode cX12_pace 15 = .ok (.iload_n 1, 1) := by decide +kernel
theorem dX12_pace_16 : decode cX12_pace 16 = .ok (.iaload, 1) := by decide +kernel
theorem dX12_pace_17 : decode cX12_pace 17 = .ok (.ifCond .ne 8, 3) := by decide +kernel
theorem dX12_pace_20 : decode cX12_pace 20 = .ok (.bipush 9, 2) := by decide +kernel
theorem dX12_pace_22 : decode cX12_pace 22 = .ok (.goto 18, 3) := by decide +kernel
theorem dX12_pace_25 : decode cX12_pace 25 = .ok (.aload_n 0, 1) := by decide +kernel
theorem dX12_pace_26 : decode cX12_pace 26 = .ok (.getfield 37, 3) := by decide +kernel
theorem dX12_pace_29 : decode cX12_pace 29 = .ok (.iload_n 1, 1) := by decide +kernel
theorem dX12_pace_30 : decode cX12_pace 30 = .ok (.iaload, 1) := by decide +kernel
theorem dX12_pace_31 : decode cX12_pace 31 = .ok (.iconst 1, 1) := by decide +kernel
theorem dX12_pace_32 : decode cX12_pace 32 = .ok (.if_icmp .ne 7, 3) := by decide +kernel
theorem dX12_pace_35 : decode cX12_pace 35 = .ok (.iconst 4, 1) := by decide +kernel
theorem dX12_pace_36 : decode cX12_pace 36 = .ok (.goto 4, 3) := by decide +kernel
theorem dX12_pace_39 : decode cX12_pace 39 = .ok (.iconst 0, 1) := by decide +kernel
theorem dX12_pace_40 : decode cX12_pace 40 = .ok (.iadd, 1) := by decide +kernel
theorem dX12_pace_41 : decode cX12_pace 41 = .ok (.istore_n 2, 1) := by decide +kernel
theorem dX12_pace_42 : decode cX12_pace 42 = .ok (.aload_n 0, 1) := by decide +kernel
theorem dX12_pace_43 : decode cX12_pace 43 = .ok (.getfield 34, 3) := by decide +kernel
theorem dX12_pace_46 : decode cX12_pace 46 = .ok (.iload_n 1, 1) := by decide +kernel
theorem dX12_pace_47 : decode cX12_pace 47 = .ok (.iaload, 1) := by decide +kernel
theorem dX12_pace_48 : decode cX12_pace 48 = .ok (.bipush 40, 2) := by decide +kernel
theorem dX12_pace_50 : decode cX12_pace 50 = .ok (.if_icmp .le 20, 3) := by decide +kernel
theorem dX12_pace_53 : decode cX12_pace 53 = .ok (.iload_n 2, 1) := by decide +kernel
theorem dX12_pace_54 : decode cX12_pace 54 = .ok (.aload_n 0, 1) := by decide +kernel
theorem dX12_pace_55 : decode cX12_pace 55 = .ok (.getfield 34, 3) := by decide +kernel
theorem dX12_pace_58 : decode cX12_pace 58 = .ok (.iload_n 1, 1) := by decide +kernel
theorem dX12_pace_59 : decode cX12_pace 59 = .ok (.iaload, 1) := by decide +kernel
theorem dX12_pace_60 : decode cX12_pace 60 = .ok (.bipush 40, 2) := by decide +kernel
theorem dX12_pace_62 : decode cX12_pace 62 = .ok (.isub, 1) := by decide +kernel
theorem dX12_pace_63 : decode cX12_pace 63 = .ok (.bipush 10, 2) := by decide +kernel
theorem dX12_pace_65 : decode cX12_pace 65 = .ok (.idiv, 1) := by decide +kernel
theorem dX12_pace_66 : decode cX12_pace 66 = .ok (.iadd, 1) := by decide +kernel
theorem dX12_pace_67 : decode cX12_pace 67 = .ok (.goto 4, 3) := by decide +kernel
theorem dX12_pace_70 : decode cX12_pace 70 = .ok (.iload_n 2, 1) := by decide +kernel
theorem dX12_pace_71 : decode cX12_pace 71 = .ok (.ireturn, 1) := by decide +kernel
theorem dX12_reckonWays_0 : decode cX12_reckonWays 0 = .ok (.iconst 0, 1) := by decide +kernel
theorem dX12_reckonWays_1 : decode cX12_reckonWays 1 = .ok (.istore_n 2, 1) := by decide +kernel
theorem dX12_reckonWays_2 : decode cX12_reckonWays 2 = .ok (.iload_n 2, 1) := by decide +kernel
theorem dX12_reckonWays_3 : decode cX12_reckonWays 3 = .ok (.aload_n 0, 1) := by decide +kernel
theorem dX12_reckonWays_4 : decode cX12_reckonWays 4 = .ok (.getfield 429, 3) := by decide +kernel
theorem dX12_reckonWays_7 : decode cX12_reckonWays 7 = .ok (.if_icmp .ge 183, 3) := by decide +kernel
theorem dX12_reckonWays_10 : decode cX12_reckonWays 10 = .ok (.aload_n 0, 1) := by decide +kernel
theorem dX12_reckonWays_11 : decode cX12_reckonWays 11 = .ok (.getfield 180, 3) := by decide +kernel
theorem dX12_reckonWays_14 : decode cX12_reckonWays 14 = .ok (.iload_n 2, 1) := by decide +kernel
theorem dX12_reckonWays_15 : decode cX12_reckonWays 15 = .ok (.iaload, 1) := by decide +kernel
theorem dX12_reckonWays_16 : decode cX12_reckonWays 16 = .ok (.istore_n 3, 1) := by decide +kernel
theorem dX12_reckonWays_17 : decode cX12_reckonWays 17 = .ok (.aload_n 0, 1) := by decide +kernel
theorem dX12_reckonWays_18 : decode cX12_reckonWays 18 = .ok (.getfield 177, 3) := by decide +kernel
theorem dX12_reckonWays_21 : decode cX12_reckonWays 21 = .ok (.iload_n 3, 1) := by decide +kernel
theorem dX12_reckonWays_22 : decode cX12_reckonWays 22 = .ok (.ldc 225, 2) := by decide +kernel
theorem dX12_reckonWays_24 : decode cX12_reckonWays 24 = .ok (.iastore, 1) := by decide +kernel
theorem dX12_reckonWays_25 : decode cX12_reckonWays 25 = .ok (.aload_n 0, 1) := by decide +kernel
theorem dX12_reckonWays_26 : decode cX12_reckonWays 26 = .ok (.iload_n 1, 1) := by decide +kernel
theorem dX12_reckonWays_27 : decode cX12_reckonWays 27 = .ok (.iload_n 3, 1) := by decide +kernel
theorem dX12_reckonWays_28 : decode cX12_reckonWays 28 = .ok (.invokevirtual 432, 3) := by decide +kernel
theorem dX12_reckonWays_31 : decode cX12_reckonWays 31 = .ok (.ifCond .ne 6, 3) := by decide +kernel
theorem dX12_reckonWays_34 : decode cX12_reckonWays 34 = .ok (.goto 150, 3) := by decide +kernel
theorem dX12_reckonWays_37 : decode cX12_reckonWays 37 = .ok (.aload_n 0, 1) := by decide +kernel
theorem dX12_reckonWays_38 : decode cX12_reckonWays 38 = .ok (.getfield 76, 3) := by decide +kernel
theorem dX12_reckonWays_41 : decode cX12_reckonWays 41 = .ok (.iload_n 3, 1) := by decide +kernel
theorem dX12_reckonWays_42 : decode cX12_reckonWays 42 = .ok (.iaload, 1) := by decide +kernel
theorem dX12_reckonWays_43 : decode cX12_reckonWays 43 = .ok (.aload_n 0, 1) := by decide +kernel
theorem dX12_reckonWays_44 : decode cX12_reckonWays 44 = .ok (.iload_n 3, 1) := by decide +kernel
theorem dX12_reckonWays_45 : decode cX12_reckonWays 45 = .ok (.invokevirtual 436, 3) := by decide +kernel
theorem dX12_reckonWays_48 : decode cX12_reckonWays 48 = .ok (.iadd, 1) := by decide +kernel
theorem dX12_reckonWays_49 : decode cX12_reckonWays 49 = .ok (.istore 4, 2) := by decide +kernel
theorem dX12_reckonWays_51 : decode cX12_reckonWays 51 = .ok (.aload_n 0, 1) := by decide +kernel
theorem dX12_reckonWays_52 : decode cX12_reckonWays 52 = .ok (.getfield 49, 3) := by decide +kernel
theorem dX12_reckonWays_55 : decode cX12_reckonWays 55 = .ok (.aload_n 0, 1) := by decide +kernel
theorem dX12_reckonWays_56 : decode cX12_reckonWays 56 = .ok (.getfield 73, 3) := by decide +kernel
theorem dX12_reckonWays_59 : decode cX12_reckonWays 59 = .ok (.iload_n 3, 1) := by decide +kernel
theorem dX12_reckonWays_60 : decode cX12_reckonWays 60 = .ok (.iaload, 1) := by decide +kernel
theorem dX12_reckonWays_61 : decode cX12_reckonWays 61 = .ok (.iaload, 1) := by decide +kernel
theorem dX12_reckonWays_62 : decode cX12_reckonWays 62 = .ok (.istore 5, 2) := by decide +kernel
theorem dX12_reckonWays_64 : decode cX12_reckonWays 64 = .ok (.aload_n 0, 1) := by decide +kernel
theorem dX12_reckonWays_65 : decode cX12_reckonWays 65 = .ok (.iload 5, 2) := by decide +kernel
theorem dX12_reckonWays_67 : decode cX12_reckonWays 67 = .ok (.aload_n 0, 1) := by decide +kernel
theorem dX12_reckonWays_68 : decode cX12_reckonWays 68 = .ok (.getfield 22, 3) := by decide +kernel
theorem dX12_reckonWays_71 : decode cX12_reckonWays 71 = .ok (.iload_n 1, 1) := by decide +kernel
theorem dX12_reckonWays_72 : decode cX12_reckonWays 72 = .ok (.iaload, 1) := by decide +kernel
theorem dX12_reckonWays_73 : decode cX12_reckonWays 73 = .ok (.invokevirtual 236, 3) := by decide +kernel
theorem dX12_reckonWays_76 : decode cX12_reckonWays 76 = .ok (.ldc 225, 2) := by decide +kernel
theorem dX12_reckonWays_78 : decode cX12_reckonWays 78 = .ok (.if_icmp .ge 25, 3) := by decide +kernel
theorem dX12_reckonWays_81 : decode cX12_reckonWays 81 = .ok (.aload_n 0, 1) := by decide +kernel
theorem dX12_reckonWays_82 : decode cX12_reckonWays 82 = .ok (.getfield 177, 3) := by decide +kernel
theorem dX12_reckonWays_85 : decode cX12_reckonWays 85 = .ok (.iload_n 3, 1) := by decide +kernel
theorem dX12_reckonWays_86 : decode cX12_reckonWays 86 = .ok (.iload 4, 2) := by decide +kernel
theorem dX12_reckonWays_88 : decode cX12_reckonWays 88 = .ok (.aload_n 0, 1) := by decide +kernel
theorem dX12_reckonWays_89 : decode cX12_reckonWays 89 = .ok (.iload_n 1, 1) := by decide +kernel
theorem dX12_reckonWays_90 : decode cX12_reckonWays 90 = .ok (.iload 5, 2) := by decide +kernel
theorem dX12_reckonWays_92 : decode cX12_reckonWays 92 = .ok (.aload_n 0, 1) := by decide +kernel
theorem dX12_reckonWays_93 : decode cX12_reckonWays 93 = .ok (.getfield 22, 3) := by decide +kernel
theorem dX12_reckonWays_96 : decode cX12_reckonWays 96 = .ok (.iload_n 1, 1) := by decide +kernel
theorem dX12_reckonWays_97 : decode cX12_reckonWays 97 = .ok (.iaload, 1) := by decide +kernel
theorem dX12_reckonWays_98 : decode cX12_reckonWays 98 = .ok (.invokevirtual 439, 3) := by decide +kernel
theorem dX12_reckonWays_101 : decode cX12_reckonWays 101 = .ok (.iadd, 1) := by decide +kernel
theorem dX12_reckonWays_102 : decode cX12_reckonWays 102 = .ok (.iastore, 1) := by decide +kernel
theorem dX12_reckonWays_103 : decode cX12_reckonWays 103 = .ok (.iconst 0, 1) := by decide +kernel
theorem dX12_reckonWays_104 : decode cX12_reckonWays 104 = .ok (.istore 6, 2) := by decide +kernel
theorem dX12_reckonWays_106 : decode cX12_reckonWays 106 = .ok (.iload 6, 2) := by decide +kernel
theorem dX12_reckonWays_108 : decode cX12_reckonWays 108 = .ok (.iload_n 2, 1) := by decide +kernel
theorem dX12_reckonWays_109 : decode cX12_reckonWays 109 = .ok (.if_icmp .ge 75, 3) := by decide +kernel
theorem dX12_reckonWays_112 : decode cX12_reckonWays 112 = .ok (.aload_n 0, 1) := by decide +kernel
theorem dX12_reckonWays_113 : decode cX12_reckonWays 113 = .ok (.getfield 180, 3) := by decide +kernel
theorem dX12_reckonWays_116 : decode cX12_reckonWays 116 = .ok (.iload 6, 2) := by decide +kernel
theorem dX12_reckonWays_118 : decode cX12_reckonWays 118 = .ok (.iaload, 1) := by decide +kernel
theorem dX12_reckonWays_119 : decode cX12_reckonWays 119 = .ok (.istore 7, 2) := by decide +kernel
theorem dX12_reckonWays_121 : decode cX12_reckonWays 121 = .ok (.aload_n 0, 1) := by decide +kernel
theorem dX12_reckonWays_122 : decode cX12_reckonWays 122 = .ok (.getfield 70, 3) := by decide +kernel
theorem dX12_reckonWays_125 : decode cX12_reckonWays 125 = .ok (.iload 7, 2) := by decide +kernel
theorem dX12_reckonWays_127 : decode cX12_reckonWays 127 = .ok (.iaload, 1) := by decide +kernel
theorem dX12_reckonWays_128 : decode cX12_reckonWays 128 = .ok (.aload_n 0, 1) := by decide +kernel
theorem dX12_reckonWays_129 : decode cX12_reckonWays 129 = .ok (.getfield 73, 3) := by decide +kernel
theorem dX12_reckonWays_132 : decode cX12_reckonWays 132 = .ok (.iload_n 3, 1) := by decide +kernel
theorem dX12_reckonWays_133 : decode cX12_reckonWays 133 = .ok (.iaload, 1) := by decide +kernel
theorem dX12_reckonWays_134 : decode cX12_reckonWays 134 = .ok (.if_icmp .ne 44, 3) := by decide +kernel
theorem dX12_reckonWays_137 : decode cX12_reckonWays 137 = .ok (.aload_n 0, 1) := by decide +kernel
theorem dX12_reckonWays_138 : decode cX12_reckonWays 138 = .ok (.getfield 76, 3) := by decide +kernel
theorem dX12_reckonWays_141 : decode cX12_reckonWays 141 = .ok (.iload 7, 2) := by decide +kernel
theorem dX12_reckonWays_143 : decode cX12_reckonWays 143 = .ok (.iaload, 1) := by decide +kernel
theorem dX12_reckonWays_144 : decode cX12_reckonWays 144 = .ok (.iload 4, 2) := by decide +kernel
theorem dX12_reckonWays_146 : decode cX12_reckonWays 146 = .ok (.if_icmp .lt 32, 3) := by decide +kernel
theorem dX12_reckonWays_149 : decode cX12_reckonWays 149 = .ok (.aload_n 0, 1) := by decide +kernel
theorem dX12_reckonWays_150 : decode cX12_reckonWays 150 = .ok (.getfield 177, 3) := by decide +kernel
theorem dX12_reckonWays_153 : decode cX12_reckonWays 153 = .ok (.iload 7, 2) := by decide +kernel
theorem dX12_reckonWays_155 : decode cX12_reckonWays 155 = .ok (.iaload, 1) := by decide +kernel
theorem dX12_reckonWays_156 : decode cX12_reckonWays 156 = .ok (.aload_n 0, 1) := by decide +kernel
theorem dX12_reckonWays_157 : decode cX12_reckonWays 157 = .ok (.getfield 177, 3) := by decide +kernel
theorem dX12_reckonWays_160 : decode cX12_reckonWays 160 = .ok (.iload_n 3, 1) := by decide +kernel
theorem dX12_reckonWays_161 : decode cX12_reckonWays 161 = .ok (.iaload, 1) := by decide +kernel
theorem dX12_reckonWays_162 : decode cX12_reckonWays 162 = .ok (.if_icmp .ge 16, 3) := by decide +kernel
theorem dX12_reckonWays_165 : decode cX12_reckonWays 165 = .ok (.aload_n 0, 1) := by decide +kernel
theorem dX12_reckonWays_166 : decode cX12_reckonWays 166 = .ok (.getfield 177, 3) := by decide +kernel
theorem dX12_reckonWays_169 : decode cX12_reckonWays 169 = .ok (.iload_n 3, 1) := by decide +kernel
theorem dX12_reckonWays_170 : decode cX12_reckonWays 170 = .ok (.aload_n 0, 1) := by decide +kernel
theorem dX12_reckonWays_171 : decode cX12_reckonWays 171 = .ok (.getfield 177, 3) := by decide +kernel
theorem dX12_reckonWays_174 : decode cX12_reckonWays 174 = .ok (.iload 7, 2) := by decide +kernel
theorem dX12_reckonWays_176 : decode cX12_reckonWays 176 = .ok (.iaload, 1) := by decide +kernel
theorem dX12_reckonWays_177 : decode cX12_reckonWays 177 = .ok (.iastore, 1) := by decide +kernel
theorem dX12_reckonWays_178 : decode cX12_reckonWays 178 = .ok (.iinc 6 1, 3) := by decide +kernel
theorem dX12_reckonWays_181 : decode cX12_reckonWays 181 = .ok (.goto (-75), 3) := by decide +kernel
theorem dX12_reckonWays_184 : decode cX12_reckonWays 184 = .ok (.iinc 2 1, 3) := by decide +kernel
theorem dX12_reckonWays_187 : decode cX12_reckonWays 187 = .ok (.goto (-185), 3) := by decide +kernel
theorem dX12_reckonWays_190 : decode cX12_reckonWays 190 = .ok (.return_, 1) := by decide +kernel
theorem dX12_runsToday_0 : decode cX12_runsToday 0 = .ok (.aload_n 0, 1) := by decide +kernel
theorem dX12_runsToday_1 : decode cX12_runsToday 1 = .ok (.getfield 67, 3) := by decide +kernel
theorem dX12_runsToday_4 : decode cX12_runsToday 4 = .ok (.iload_n 1, 1) := by decide +kernel
theorem dX12_runsToday_5 : decode cX12_runsToday 5 = .ok (.iaload, 1) := by decide +kernel
theorem dX12_runsToday_6 : decode cX12_runsToday 6 = .ok (.aload_n 0, 1) := by decide +kernel
theorem dX12_runsToday_7 : decode cX12_runsToday 7 = .ok (.getfield 423, 3) := by decide +kernel
theorem dX12_runsToday_10 : decode cX12_runsToday 10 = .ok (.if_icmp .eq 33, 3) := by decide +kernel
theorem dX12_runsToday_13 : decode cX12_runsToday 13 = .ok (.aload_n 0, 1) := by decide +kernel
theorem dX12_runsToday_14 : decode cX12_runsToday 14 = .ok (.getfield 79, 3) := by decide +kernel
theorem dX12_runsToday_17 : decode cX12_runsToday 17 = .ok (.iload_n 1, 1) := by decide +kernel
theorem dX12_runsToday_18 : decode cX12_runsToday 18 = .ok (.iaload, 1) := by decide +kernel
theorem dX12_runsToday_19 : decode cX12_runsToday 19 = .ok (.aload_n 0, 1) := by decide +kernel
theorem dX12_runsToday_20 : decode cX12_runsToday 20 = .ok (.getfield 218, 3) := by decide +kernel
theorem dX12_runsToday_23 : decode cX12_runsToday 23 = .ok (.if_icmp .gt 20, 3) := by decide +kernel
theorem dX12_runsToday_26 : decode cX12_runsToday 26 = .ok (.aload_n 0, 1) := by decide +kernel
theorem dX12_runsToday_27 : decode cX12_runsToday 27 = .ok (.getfield 218, 3) := by decide +kernel
theorem dX12_runsToday_30 : decode cX12_runsToday 30 = .ok (.aload_n 0, 1) := by decide +kernel
theorem dX12_runsToday_31 : decode cX12_runsToday 31 = .ok (.getfield 82, 3) := by decide +kernel
theorem dX12_runsToday_34 : decode cX12_runsToday 34 = .ok (.iload_n 1, 1) := by decide +kernel
theorem dX12_runsToday_35 : decode cX12_runsToday 35 = .ok (.iaload, 1) := by decide +kernel
theorem dX12_runsToday_36 : decode cX12_runsToday 36 = .ok (.if_icmp .gt 7, 3) := by decide +kernel
theorem dX12_runsToday_39 : decode cX12_runsToday 39 = .ok (.iconst 1, 1) := by decide +kernel
theorem dX12_runsToday_40 : decode cX12_runsToday 40 = .ok (.goto 4, 3) := by decide +kernel
theorem dX12_runsToday_43 : decode cX12_runsToday 43 = .ok (.iconst 0, 1) := by decide +kernel
theorem dX12_runsToday_44 : decode cX12_runsToday 44 = .ok (.ireturn, 1) := by decide +kernel
theorem dX12_tripFar_0 : decode cX12_tripFar 0 = .ok (.aload_n 0, 1) := by decide +kernel
theorem dX12_tripFar_1 : decode cX12_tripFar 1 = .ok (.aload_n 0, 1) := by decide +kernel
theorem dX12_tripFar_2 : decode cX12_tripFar 2 = .ok (.getfield 49, 3) := by decide +kernel
theorem dX12_tripFar_5 : decode cX12_tripFar 5 = .ok (.aload_n 0, 1) := by decide +kernel
theorem dX12_tripFar_6 : decode cX12_tripFar 6 = .ok (.getfield 70, 3) := by decide +kernel
theorem dX12_tripFar_9 : decode cX12_tripFar 9 = .ok (.iload_n 1, 1) := by decide +kernel
theorem dX12_tripFar_10 : decode cX12_tripFar 10 = .ok (.iaload, 1) := by decide +kernel
theorem dX12_tripFar_11 : decode cX12_tripFar 11 = .ok (.iaload, 1) := by decide +kernel
theorem dX12_tripFar_12 : decode cX12_tripFar 12 = .ok (.aload_n 0, 1) := by decide +kernel
theorem dX12_tripFar_13 : decode cX12_tripFar 13 = .ok (.getfield 49, 3) := by decide +kernel
theorem dX12_tripFar_16 : decode cX12_tripFar 16 = .ok (.aload_n 0, 1) := by decide +kernel
theorem dX12_tripFar_17 : decode cX12_tripFar 17 = .ok (.getfield 73, 3) := by decide +kernel
theorem dX12_tripFar_20 : decode cX12_tripFar 20 = .ok (.iload_n 1, 1) := by decide +kernel
theorem dX12_tripFar_21 : decode cX12_tripFar 21 = .ok (.iaload, 1) := by decide +kernel
theorem dX12_tripFar_22 : decode cX12_tripFar 22 = .ok (.iaload, 1) := by decide +kernel
theorem dX12_tripFar_23 : decode cX12_tripFar 23 = .ok (.invokevirtual 236, 3) := by decide +kernel
theorem dX12_tripFar_26 : decode cX12_tripFar 26 = .ok (.ireturn, 1) := by decide +kernel
theorem dX12_walk_0 : decode cX12_walk 0 = .ok (.aload_n 0, 1) := by decide +kernel
theorem dX12_walk_1 : decode cX12_walk 1 = .ok (.iload_n 2, 1) := by decide +kernel
theorem dX12_walk_2 : decode cX12_walk 2 = .ok (.iload_n 3, 1) := by decide +kernel
theorem dX12_walk_3 : decode cX12_walk 3 = .ok (.invokevirtual 236, 3) := by decide +kernel
theorem dX12_walk_6 : decode cX12_walk 6 = .ok (.aload_n 0, 1) := by decide +kernel
theorem dX12_walk_7 : decode cX12_walk 7 = .ok (.iload_n 1, 1) := by decide +kernel
theorem dX12_walk_8 : decode cX12_walk 8 = .ok (.invokevirtual 417, 3) := by decide +kernel
theorem dX12_walk_11 : decode cX12_walk 11 = .ok (.imul, 1) := by decide +kernel
theorem dX12_walk_12 : decode cX12_walk 12 = .ok (.bipush 9, 2) := by decide +kernel
theorem dX12_walk_14 : decode cX12_walk 14 = .ok (.iadd, 1) := by decide +kernel
theorem dX12_walk_15 : decode cX12_walk 15 = .ok (.bipush 10, 2) := by decide +kernel
theorem dX12_walk_17 : decode cX12_walk 17 = .ok (.idiv, 1) := by decide +kernel
theorem dX12_walk_18 : decode cX12_walk 18 = .ok (.ireturn, 1) := by decide +kernel
def sW (ar : Nat → Nat → Int32) : Prop := ∀ i : Nat, 1 ≤ (ar 68 i).toInt → (ar 68 i).toInt ≤ 3 → 0 ≤ (ar 71 i).toInt
theorem sW_fr {M : List Nat} {ar ar1 : Nat → Nat → Int32} (h : sW ar) (f : fA M ar ar1) (h1 : M.contains 68 = false) (h2 : M.contains 71 = false) : sW ar1 := by intro i; rw [f 68 h1, f 71 h2]; exact h i
theorem sW_68 {ar ar1 : Nat → Nat → Int32} {n : Nat} {x : Int32} (h : sW ar) (e : ar1 = upM ar 68 (upd (ar 68) n x)) (hx : x.toInt < 1 ∨ 3 < x.toInt ∨ 0 ≤ (ar 71 n).toInt) : sW ar1 := by
  subst e
  intro i
  show 1 ≤ (if i = n then x else ar 68 i).toInt → (if i = n then x else ar 68 i).toInt ≤ 3 → 0 ≤ (ar 71 i).toInt
  by_cases q : i = n
  · rw [if_pos q, q]; omega
  · rw [if_neg q]; exact h i
theorem sW_both {ar ar1 ar2 : Nat → Nat → Int32} {n : Nat} {x y : Int32} (h : sW ar) (e1 : ar1 = upM ar 71 (upd (ar 71) n y)) (e2 : ar2 = upM ar1 68 (upd (ar1 68) n x)) (hx : x.toInt < 1 ∨ 3 < x.toInt ∨ 0 ≤ y.toInt) : sW ar2 := by
  subst e2; subst e1
  intro i
  show 1 ≤ (if i = n then x else ar 68 i).toInt → (if i = n then x else ar 68 i).toInt ≤ 3 → 0 ≤ (if i = n then y else ar 71 i).toInt
  by_cases q : i = n
  · rw [if_pos q, if_pos q]; omega
  · rw [if_neg q, if_neg q]; exact h i
def cO (g : Nat → Int32) (m : Int) (k : Nat) : Nat → Nat
  | 0 => 0
  | T + 1 => cO g m k T + (if m < (g T).toInt ∨ ((g T).toInt = m ∧ T < k) then 1 else 0)
theorem cO_le (g : Nat → Int32) (m : Int) (k : Nat) : ∀ T, cO g m k T ≤ T
  | 0 => Nat.le_refl _
  | T + 1 => by
    have := cO_le g m k T
    show cO g m k T + (if m < (g T).toInt ∨ ((g T).toInt = m ∧ T < k) then 1 else 0) ≤ T + 1
    split <;> omega
theorem cO_mono (g : Nat → Int32) (m : Int) (k : Nat) : ∀ T, cO g m k T ≤ cO g m (k + 1) T
  | 0 => Nat.le_refl _
  | T + 1 => by
    have := cO_mono g m k T
    show cO g m k T + (if m < (g T).toInt ∨ ((g T).toInt = m ∧ T < k) then 1 else 0) ≤ cO g m (k + 1) T + (if m < (g T).toInt ∨ ((g T).toInt = m ∧ T < k + 1) then 1 else 0)
    split <;> split <;> omega
theorem cO_step (g : Nat → Int32) (m : Int) (k : Nat) (hk : (g k).toInt = m) : ∀ T, k < T → cO g m (k + 1) T = cO g m k T + 1
  | 0, h => absurd h (Nat.not_lt_zero _)
  | T + 1, h => by
    show cO g m (k + 1) T + (if m < (g T).toInt ∨ ((g T).toInt = m ∧ T < k + 1) then 1 else 0) = cO g m k T + (if m < (g T).toInt ∨ ((g T).toInt = m ∧ T < k) then 1 else 0) + 1
    rcases Nat.lt_or_ge k T with q | q
    · rw [cO_step g m k hk T q]
      have : (m < (g T).toInt ∨ ((g T).toInt = m ∧ T < k + 1)) ↔ (m < (g T).toInt ∨ ((g T).toInt = m ∧ T < k)) := by omega
      simp only [this]; omega
    · have e : T = k := by omega
      subst e
      have z : cO g m (T + 1) T = cO g m T T := by
        have key : ∀ n, n ≤ T → cO g m (T + 1) n = cO g m T n := by
          intro n
          induction n with
          | zero => intro _; rfl
          | succ n ih =>
            intro hn
            show cO g m (T + 1) n + (if m < (g n).toInt ∨ ((g n).toInt = m ∧ n < T + 1) then 1 else 0) = cO g m T n + (if m < (g n).toInt ∨ ((g n).toInt = m ∧ n < T) then 1 else 0)
            rw [ih (by omega)]
            have : (m < (g n).toInt ∨ ((g n).toInt = m ∧ n < T + 1)) ↔ (m < (g n).toInt ∨ ((g n).toInt = m ∧ n < T)) := by omega
            simp only [this]
        exact key T (Nat.le_refl _)
      rw [z, if_pos (by omega), if_neg (by omega)]
theorem cO_next (g : Nat → Int32) (m : Int) (K : Nat) : ∀ T, T ≤ K → cO g m K T ≤ cO g (m - 1) 0 T
  | 0, _ => Nat.le_refl _
  | T + 1, h => by
    have := cO_next g m K T (by omega)
    show cO g m K T + (if m < (g T).toInt ∨ ((g T).toInt = m ∧ T < K) then 1 else 0) ≤ cO g (m - 1) 0 T + (if m - 1 < (g T).toInt ∨ ((g T).toInt = m - 1 ∧ T < 0) then 1 else 0)
    split <;> split <;> omega
def dl (x : Int32) : Int := if x.toInt = 12 then 0 else if x.toInt = 13 ∨ x.toInt = 14 then -1 else 1
def dQ (g : Nat → Int32) (f : Nat) : Nat → Int
  | 0 => 0
  | n + 1 => dQ g f n + dl (g (f + n))
def okP (x : Int32) (d : Int) : Prop := x.toInt ≤ 14 ∧ 0 ≤ d ∧ (x.toInt = 12 → 1 ≤ d) ∧ (x.toInt = 13 ∨ x.toInt = 14 → 2 ≤ d) ∧ (x.toInt < 12 → d ≤ 60)
def vP (g : Nat → Int32) (f t : Nat) : Prop := ∀ n : Nat, f + n < t → okP (g (f + n)) (dQ g f n)
def vM (fv : Nat → Int32) (ar : Nat → Nat → Int32) : Prop := ∀ b k : Nat, (b : Int) < (fv 58).toInt → (k : Int) < (ar 47 b).toInt → vP (ar 54) (120 * b + (ar 52 (16 * b + k)).toInt.toNat) (120 * b + (ar 53 (16 * b + k)).toInt.toNat)
theorem vM_fr {M N : List Nat} {fv fv1 : Nat → Int32} {ar ar1 : Nat → Nat → Int32} (h : vM fv ar) (f : fM M fv fv1) (a : fA N ar ar1) (h0 : M.contains 58 = false) (h1 : N.contains 47 = false) (h2 : N.contains 52 = false) (h3 : N.contains 53 = false) (h4 : N.contains 54 = false) : vM fv1 ar1 := by
  intro b k; rw [f 58 h0, a 47 h1, a 52 h2, a 53 h3, a 54 h4]; exact h b k
theorem okP_st {g : Nat → Int32} {f t : Nat} {n : Nat} {x : Int32} {d : Int} (h : vP g f t) (hn : f + n < t) (hx : x = g (f + n)) (hd : d = dQ g f n) : (x.toInt ≤ 14 ∧ 0 ≤ d ∧ (x.toInt = 12 → 1 ≤ d) ∧ (x.toInt = 13 → 2 ≤ d) ∧ (x.toInt = 14 → 2 ≤ d) ∧ (x.toInt < 12 → d ≤ 60)) ∧ (x.toInt = 12 → dQ g f (n + 1) = d) ∧ (x.toInt = 13 → dQ g f (n + 1) = d - 1) ∧ (x.toInt = 14 → dQ g f (n + 1) = d - 1) ∧ (x.toInt < 12 → dQ g f (n + 1) = d + 1) := by
  have q := h n hn
  rw [← hx, ← hd] at q
  have e : dQ g f (n + 1) = d + dl x := by rw [hd, hx]; rfl
  refine ⟨⟨q.1, q.2.1, q.2.2.1, fun z => q.2.2.2.1 (Or.inl z), fun z => q.2.2.2.1 (Or.inr z), q.2.2.2.2⟩, fun z => ?_, fun z => ?_, fun z => ?_, fun z => ?_⟩
  · rw [e, dl, if_pos z]; omega
  · rw [e, dl, if_neg (by omega), if_pos (Or.inl z)]; omega
  · rw [e, dl, if_neg (by omega), if_pos (Or.inr z)]; omega
  · rw [e, dl, if_neg (by omega), if_neg (by omega)]
set_option maxHeartbeats 4000000 in
set_option maxRecDepth 100000 in
theorem m_pace (l : Launch) (dC : Nat → ClassId) (dI : Nat → Nat → Nat) (sz h : Nat) (ad : Nat → Nat) (cA : Nat → ClassId) (hd : dM h ad) (fv : Nat → Int32) (wd : Int64) (ar : Nat → Nat → Int32) (hF_fv : rF fv) (hA_ar : rA ar) (pp : Int32) (h_pp : 0 ≤ pp.toInt ∧ pp.toInt ≤ 39) : Met l yX12_pace (.code yX12_pace cX12_pace 3 (some .int) :: lw_good) ({ frames := 3, cells := 0, slots := 0, locals := 61 }) (va_Pc [.ref h, .int pp] (prM dC dI h ad cA fv wd ar sz)) (va_Qi (fun (r : Int32) (u : mS) => rF u.1 ∧ rA u.2.2 ∧ fM [] fv u.1 ∧ fA [] ar u.2.2 ∧ True) (enM dC dI h ad cA) (aM h ad sz)) 0 0 (aM h ad sz) := by
  refine Met.ofW (cc := cX12_pace) (maxL := 3) (ret := (some .int)) (by decide) rfl ?_
  intro p e s m args below meth c s₁ B hml hv
  obtain ⟨rfl, hsz, hP, hK⟩ := hv
  have hx := B.exec
  have hb := B.bytes
  have hr := B.returns
  have hts := atoms_spec (ws := (.code yX12_pace cX12_pace 3 (some .int) :: lw_good)) B.pre
  have htg : ∀ w ∈ lw_good, w.before _ s = true := fun w hw => hts w (List.mem_cons_of_mem _ hw)
  have hown : s.vm.findClass RX12 = some m.cls := findClass_of_methodNamed B.named
  have hlocks := B.notSynchronized
  subst hsz
  have hS : va_S (aM h ad s.heap.size) s.heap s.heap [] := va_S.rf
  have hl := lv_entry ([.ref h, .int pp]) (n := 3) (Nat.le_of_ble_eq_true rfl)
  rw [lg_entry_eq]
  generalize (lg_sl ([.ref h, .int pp]) ++ List.replicate (3 - (lg_sl ([.ref h, .int pp])).length) Slot.unset).toArray = ls at hl ⊢
  have hl : lv_has ls 3 [(0, .ref h), (1, .int pp)] := hl
  refine lv_bipush (v := 18) hx hb dX12_pace_0 (by decide) ?_
  refine lv_aload_n hx hb dX12_pace_2 rfl (lv_at hl 0 rfl) ?_
  refine lv_aload_n hx hb dX12_pace_3 rfl (lv_at hl 0 rfl) ?_
  refine gM_3 hx hb htg hown hK hP dX12_pace_4 ?_
  have i_1 : 0 ≤ (fv 3).toInt ∧ (fv 3).toInt ≤ 199 := hF_fv 3
  refine va_calli (va_runV (As := [.int (fv 3)]) (rest := [.int 18]) ⟨hx, hb, hml, hown, hts⟩ (m_rainOf l dC dI s.heap.size h ad cA hd fv wd ar hF_fv hA_ar (fv 3) i_1) (cwV 1 hts (gV kw_8_16 kw_8_18 kw_p_61 kw_1_15 kw_8_19) rfl rfl rfl (by decide +kernel) ⟨Nat.le_of_ble_eq_true rfl, Nat.le_of_ble_eq_true rfl⟩) ⟨fun a U g mk q => ⟨q.1, q.2.1, q.2.2.1, va_K.moved (u := U) (U := U.calling g mk a) (Vm.Alike.refl U.vm) q.2.2.2⟩, va_recv hK hP (ci := 12) (q0 := 0) rfl rfl, fun U hU hW => ⟨rfl, by rw [hU], by rw [hU]; exact hP, va_K.moved hW.alike hK⟩⟩ rfl rfl hl.1 rfl (lv_room (Nat.le_of_ble_eq_true rfl)) dX12_pace_7 ⟨Nat.le_of_ble_eq_true rfl, Nat.le_of_ble_eq_true rfl⟩) hS (fun q _ h9 => aM_up hS q h9) (aM_up hS) (fun r_2 u t H1 locs ht _ hw hB _ hk1 hS => ?_)
  obtain ⟨fv_3, wd_4, ar_5⟩ := u
  obtain ⟨hF_fv_3, hA_ar_5, fr_6, fa_7, -⟩ := hw
  have hP : va_P (dC, dI) vwCl (wsM h ad cA fv_3 wd_4 ar_5) H1 := by have h9 := hB.1; rw [ht] at h9; exact h9
  have fr_6 : fM [] fv fv_3 := fr_6
  have fa_7 : fA [] ar ar_5 := fa_7
  generalize H1 = H at hP hS ⊢
  refine lv_iadd hx hb dX12_pace_10 ?_
  refine lv_topi (fun v_8 ev_8 => ?_)
  refine lv_aload_n hx hb dX12_pace_11 rfl (lv_at hl 0 rfl) ?_
  refine gM_15 hx hb htg hown hK hP dX12_pace_12 ?_
  refine lv_iload_n hx hb dX12_pace_15 rfl (lv_at hl 1 rfl) ?_
  refine lM_15 hx hb hK hP (iv_in h_pp (by decide) (by decide)) dX12_pace_16 (fun v_9 ev_9 => ?_)
  refine my_cut (P := fun R9 a9 Q9 => ∀ (x_15 : Int32) (H : Heap) (locs : List Loc) (ls : Array Slot), (0 ≤ x_15.toInt ∧ x_15.toInt ≤ 9) → va_P (dC, dI) vwCl (wsM h ad cA fv_3 wd_4 ar_5) H → va_S (aM h ad s.heap.size) s.heap H locs → lv_has ls 3 [(0, .ref h), (1, .int pp)] → W p l e R9 s m a9 below meth c H locs 0 0 Q9 (F0 m 40 ls [.int x_15, .int v_8])) ?_ (fun hj_16 => ?_)
  · intro x_15 H locs ls i_x_15 hP hS hl
    refine lv_iadd hx hb dX12_pace_40 ?_
    refine lv_topi (fun v_17 ev_17 => ?_)
    refine lv_istore_n (lv' := [(2, .int v_17), (0, .ref h), (1, .int pp)]) hx hb dX12_pace_41 rfl hl (by decide) rfl (fun ls hl => ?_)
    refine lv_aload_n hx hb dX12_pace_42 rfl (lv_at hl 1 rfl) ?_
    refine gM_14 hx hb htg hown hK hP dX12_pace_43 ?_
    refine lv_iload_n hx hb dX12_pace_46 rfl (lv_at hl 2 rfl) ?_
    refine lM_14 hx hb hK hP (iv_in h_pp (by decide) (by decide)) dX12_pace_47 (fun v_18 ev_18 => ?_)
    refine lv_bipush (v := 40) hx hb dX12_pace_48 (by decide) ?_
    refine lv_icmp_le (tgt := 70) hx hb dX12_pace_50 (by decide) (fun c_19 => ?_) (fun c_19 => ?_)
    · skip
      have i_20 : (-2147483648) ≤ v_18.toInt ∧ v_18.toInt ≤ 40 := iv_le1 (iv_any v_18) (⟨by decide, by decide⟩ : (40 : Int) ≤ (40 : Int32).toInt ∧ (40 : Int32).toInt ≤ 40) c_19
      refine lv_iload_n hx hb dX12_pace_70 rfl (lv_at hl 0 rfl) ?_
      exact W.iret (v := v_17) hx hb hr (fun t ht hW => ⟨⟨v_17, (fv_3, wd_4, ar_5), rfl, ⟨hF_fv_3, hA_ar_5, (fM_call (fM_rf [] _) fr_6 (by decide)), (fA_call (fA_rf [] _) fa_7 (by decide)), trivial⟩, ⟨by rw [ht]; exact hP, va_K.moved hW.alike hK⟩⟩, hS.F ht⟩) hS.2.2 dX12_pace_71
    · skip
      have i_21 : 41 ≤ v_18.toInt ∧ v_18.toInt ≤ 2147483647 := iv_lt2 (⟨by decide, by decide⟩ : (40 : Int) ≤ (40 : Int32).toInt ∧ (40 : Int32).toInt ≤ 40) (iv_any v_18) (Int32.not_le.mp c_19)
      refine lv_iload_n hx hb dX12_pace_53 rfl (lv_at hl 0 rfl) ?_
      refine lv_aload_n hx hb dX12_pace_54 rfl (lv_at hl 1 rfl) ?_
      refine gM_14 hx hb htg hown hK hP dX12_pace_55 ?_
      refine lv_iload_n hx hb dX12_pace_58 rfl (lv_at hl 2 rfl) ?_
      refine lM_14 hx hb hK hP (iv_in h_pp (by decide) (by decide)) dX12_pace_59 (fun v_22 ev_22 => ?_)
      obtain rfl : v_18 = v_22 := ev_18.trans ev_22.symm
      refine lv_bipush (v := 40) hx hb dX12_pace_60 (by decide) ?_
      refine lv_isub hx hb dX12_pace_62 ?_
      refine lv_topi (fun v_23 ev_23 => ?_)
      have t_24 : v_23.toInt = v_18.toInt - 40 ∧ 1 ≤ v_23.toInt ∧ v_23.toInt ≤ 2147483607 := iv_subc ev_23 i_21 (by decide) (by decide) (by decide)
      refine lv_bipush (v := 10) hx hb dX12_pace_63 (by decide) ?_
      refine lv_idiv hx hb dX12_pace_65 (by decide) ?_
      refine lv_topi (fun v_26 ev_26 => ?_)
      refine lv_iadd hx hb dX12_pace_66 ?_
      refine lv_topi (fun v_27 ev_27 => ?_)
      refine lv_goto (tgt := 71) hx hb dX12_pace_67 (by decide) ?_
      exact W.iret (v := v_27) hx hb hr (fun t ht hW => ⟨⟨v_27, (fv_3, wd_4, ar_5), rfl, ⟨hF_fv_3, hA_ar_5, (fM_call (fM_rf [] _) fr_6 (by decide)), (fA_call (fA_rf [] _) fa_7 (by decide)), trivial⟩, ⟨by rw [ht]; exact hP, va_K.moved hW.alike hK⟩⟩, hS.F ht⟩) hS.2.2 dX12_pace_71
  · skip
    refine lv_if_ne (tgt := 25) hx hb dX12_pace_17 (by decide) (fun c_10 => ?_) (fun c_10 => ?_)
    · skip
      refine lv_aload_n hx hb dX12_pace_25 rfl (lv_at hl 0 rfl) ?_
      refine gM_15 hx hb htg hown hK hP dX12_pace_26 ?_
      refine lv_iload_n hx hb dX12_pace_29 rfl (lv_at hl 1 rfl) ?_
      refine lM_15 hx hb hK hP (iv_in h_pp (by decide) (by decide)) dX12_pace_30 (fun v_11 ev_11 => ?_)
      obtain rfl : v_9 = v_11 := ev_9.trans ev_11.symm
      refine lv_iconst (v := 1) hx hb dX12_pace_31 (by decide) ?_
      refine lv_icmp_ne (tgt := 39) hx hb dX12_pace_32 (by decide) (fun c_12 => ?_) (fun c_12 => ?_)
      · skip
        refine lv_iconst (v := 0) hx hb dX12_pace_39 (by decide) ?_
        exact hj_16 0 _ _ ls (iv_w (⟨by decide, by decide⟩ : (0 : Int) ≤ (0 : Int32).toInt ∧ (0 : Int32).toInt ≤ 0) (by decide) (by decide)) hP hS (lv_sub hl [0, 1] rfl)
      · skip
        have i_13 : 1 ≤ v_9.toInt ∧ v_9.toInt ≤ 1 := iv_eq1 (⟨by decide, by decide⟩ : (1 : Int) ≤ (1 : Int32).toInt ∧ (1 : Int32).toInt ≤ 1) c_12
        refine lv_iconst (v := 4) hx hb dX12_pace_35 (by decide) ?_
        refine lv_goto (tgt := 40) hx hb dX12_pace_36 (by decide) ?_
        exact hj_16 4 _ _ ls (iv_w (⟨by decide, by decide⟩ : (4 : Int) ≤ (4 : Int32).toInt ∧ (4 : Int32).toInt ≤ 4) (by decide) (by decide)) hP hS (lv_sub hl [0, 1] rfl)
    · skip
      have i_14 : 0 ≤ v_9.toInt ∧ v_9.toInt ≤ 0 := iv_eq1 (⟨by decide, by decide⟩ : (0 : Int) ≤ (0 : Int32).toInt ∧ (0 : Int32).toInt ≤ 0) c_10
      refine lv_bipush (v := 9) hx hb dX12_pace_20 (by decide) ?_
      refine lv_goto (tgt := 40) hx hb dX12_pace_22 (by decide) ?_
      exact hj_16 9 _ _ ls (iv_w (⟨by decide, by decide⟩ : (9 : Int) ≤ (9 : Int32).toInt ∧ (9 : Int32).toInt ≤ 9) (by decide) (by decide)) hP hS (lv_sub hl [0, 1] rfl)
set_option maxHeartbeats 4000000 in
set_option maxRecDepth 100000 in
theorem m_walk (l : Launch) (dC : Nat → ClassId) (dI : Nat → Nat → Nat) (sz h : Nat) (ad : Nat → Nat) (cA : Nat → ClassId) (hd : dM h ad) (fv : Nat → Int32) (wd : Int64) (ar : Nat → Nat → Int32) (hF_fv : rF fv) (hA_ar : rA ar) (G9 : Nat → Int) (pp : Int32) (a : Int32) (b : Int32) (h_pp : 0 ≤ pp.toInt ∧ pp.toInt ≤ 39) (h_a : 0 ≤ a.toInt ∧ a.toInt ≤ 11) (h_b : 0 ≤ b.toInt ∧ b.toInt ≤ 11) (hp_mF : wt_fm G9 (fv 8) (ar 4)) : Met l yX12_walk (.code yX12_walk cX12_walk 4 (some .int) :: lw_good) ({ frames := 4, cells := 0, slots := 0, locals := 83 }) (va_Pc [.ref h, .int pp, .int a, .int b] (prM dC dI h ad cA fv wd ar sz)) (va_Qi (fun (r : Int32) (u : mS) => rF u.1 ∧ rA u.2.2 ∧ fM [8] fv u.1 ∧ fA [4] ar u.2.2 ∧ (wt_fm G9 (u.1 8) (u.2.2 4)) ∧ True) (enM dC dI h ad cA) (aM h ad sz)) 0 0 (aM h ad sz) := by
  refine Met.ofW (cc := cX12_walk) (maxL := 4) (ret := (some .int)) (by decide) rfl ?_
  intro p e s m args below meth c s₁ B hml hv
  obtain ⟨rfl, hsz, hP, hK⟩ := hv
  have hx := B.exec
  have hb := B.bytes
  have hr := B.returns
  have hts := atoms_spec (ws := (.code yX12_walk cX12_walk 4 (some .int) :: lw_good)) B.pre
  have htg : ∀ w ∈ lw_good, w.before _ s = true := fun w hw => hts w (List.mem_cons_of_mem _ hw)
  have hown : s.vm.findClass RX12 = some m.cls := findClass_of_methodNamed B.named
  have hlocks := B.notSynchronized
  subst hsz
  have hS : va_S (aM h ad s.heap.size) s.heap s.heap [] := va_S.rf
  have hl := lv_entry ([.ref h, .int pp, .int a, .int b]) (n := 4) (Nat.le_of_ble_eq_true rfl)
  rw [lg_entry_eq]
  generalize (lg_sl ([.ref h, .int pp, .int a, .int b]) ++ List.replicate (4 - (lg_sl ([.ref h, .int pp, .int a, .int b])).length) Slot.unset).toArray = ls at hl ⊢
  have hl : lv_has ls 4 [(0, .ref h), (1, .int pp), (2, .int a), (3, .int b)] := hl
  refine lv_aload_n hx hb dX12_walk_0 rfl (lv_at hl 0 rfl) ?_
  refine lv_iload_n hx hb dX12_walk_1 rfl (lv_at hl 2 rfl) ?_
  refine lv_iload_n hx hb dX12_walk_2 rfl (lv_at hl 3 rfl) ?_
  refine va_calli (va_runV (As := [.int a, .int b]) (rest := []) ⟨hx, hb, hml, hown, hts⟩ (m_farOf l dC dI s.heap.size h ad cA hd fv wd ar hF_fv hA_ar G9 a b h_a h_b hp_mF) (cwV 2 hts (gV kw_7_237 kw_7_239 kw_p_59 kw_1_15 kw_8_0) rfl rfl rfl (by decide +kernel) ⟨Nat.le_of_ble_eq_true rfl, Nat.le_of_ble_eq_true rfl⟩) ⟨fun a U g mk q => ⟨q.1, q.2.1, q.2.2.1, va_K.moved (u := U) (U := U.calling g mk a) (Vm.Alike.refl U.vm) q.2.2.2⟩, va_recv hK hP (ci := 12) (q0 := 0) rfl rfl, fun U hU hW => ⟨rfl, by rw [hU], by rw [hU]; exact hP, va_K.moved hW.alike hK⟩⟩ rfl rfl hl.1 rfl (lv_room (Nat.le_of_ble_eq_true rfl)) dX12_walk_3 ⟨Nat.le_of_ble_eq_true rfl, Nat.le_of_ble_eq_true rfl⟩) hS (fun q _ h9 => aM_up hS q h9) (aM_up hS) (fun r_1 u t H1 locs ht _ hw hB _ hk1 hS => ?_)
  obtain ⟨fv_5, wd_6, ar_7⟩ := u
  obtain ⟨hF_fv_5, hA_ar_7, fr_8, fa_9, p_2, p_3, p_4, -⟩ := hw
  have hP : va_P (dC, dI) vwCl (wsM h ad cA fv_5 wd_6 ar_7) H1 := by have h9 := hB.1; rw [ht] at h9; exact h9
  have fr_8 : fM [8] fv fv_5 := fr_8
  have fa_9 : fA [4] ar ar_7 := fa_9
  have p_4 : wt_fm G9 (fv_5 8) (ar_7 4) := p_4
  have p_3 : wt_rl (G9 (12 * a.toInt.toNat + b.toInt.toNat)) r_1.toInt := p_3
  generalize H1 = H at hP hS ⊢
  refine lv_aload_n hx hb dX12_walk_6 rfl (lv_at hl 0 rfl) ?_
  refine lv_iload_n hx hb dX12_walk_7 rfl (lv_at hl 1 rfl) ?_
  refine va_calli (va_runV (As := [.int pp]) (rest := [.int r_1]) ⟨hx, hb, hml, hown, hts⟩ (m_pace l dC dI H.size h ad cA hd fv_5 wd_6 ar_7 hF_fv_5 hA_ar_7 pp h_pp) (cwV 1 hts (gV kw_8_212 kw_8_214 kw_p_93 kw_1_15 kw_8_215) rfl rfl rfl (by decide +kernel) ⟨Nat.le_of_ble_eq_true rfl, Nat.le_of_ble_eq_true rfl⟩) ⟨fun a U g mk q => ⟨q.1, q.2.1, q.2.2.1, va_K.moved (u := U) (U := U.calling g mk a) (Vm.Alike.refl U.vm) q.2.2.2⟩, va_recv hK hP (ci := 12) (q0 := 0) rfl rfl, fun U hU hW => ⟨rfl, by rw [hU], by rw [hU]; exact hP, va_K.moved hW.alike hK⟩⟩ rfl rfl hl.1 rfl (lv_room (Nat.le_of_ble_eq_true rfl)) dX12_walk_8 ⟨Nat.le_of_ble_eq_true rfl, Nat.le_of_ble_eq_true rfl⟩) hS (fun q _ h9 => aM_up hS q h9) (aM_up hS) (fun r_10 u t H1 locs ht _ hw hB _ hk1 hS => ?_)
  obtain ⟨fv_11, wd_12, ar_13⟩ := u
  obtain ⟨hF_fv_11, hA_ar_13, fr_14, fa_15, -⟩ := hw
  have hP : va_P (dC, dI) vwCl (wsM h ad cA fv_11 wd_12 ar_13) H1 := by have h9 := hB.1; rw [ht] at h9; exact h9
  have fr_14 : fM [] fv_5 fv_11 := fr_14
  have fa_15 : fA [] ar_7 ar_13 := fa_15
  generalize H1 = H at hP hS ⊢
  refine lv_imul hx hb dX12_walk_11 ?_
  refine lv_topi (fun v_16 ev_16 => ?_)
  refine lv_bipush (v := 9) hx hb dX12_walk_12 (by decide) ?_
  refine lv_iadd hx hb dX12_walk_14 ?_
  refine lv_topi (fun v_17 ev_17 => ?_)
  refine lv_bipush (v := 10) hx hb dX12_walk_15 (by decide) ?_
  refine lv_idiv hx hb dX12_walk_17 (by decide) ?_
  refine lv_topi (fun v_18 ev_18 => ?_)
  exact W.iret (v := v_18) hx hb hr (fun t ht hW => ⟨⟨v_18, (fv_11, wd_12, ar_13), rfl, ⟨hF_fv_11, hA_ar_13, (fM_call (fM_call (fM_rf [8] _) fr_8 (by decide)) fr_14 (by decide)), (fA_call (fA_call (fA_rf [4] _) fa_9 (by decide)) fa_15 (by decide)), (mF_fr p_4 (fM_call (fM_rf [] _) fr_14 (by decide)) (fA_call (fA_rf [] _) fa_15 (by decide)) rfl rfl), trivial⟩, ⟨by rw [ht]; exact hP, va_K.moved hW.alike hK⟩⟩, hS.F ht⟩) hS.2.2 dX12_walk_18
set_option maxHeartbeats 4000000 in
set_option maxRecDepth 100000 in
theorem m_mostSeated (l : Launch) (dC : Nat → ClassId) (dI : Nat → Nat → Nat) (sz h : Nat) (ad : Nat → Nat) (cA : Nat → ClassId) (hd : dM h ad) (fv : Nat → Int32) (wd : Int64) (ar : Nat → Nat → Int32) (hF_fv : rF fv) (hA_ar : rA ar) : Met l yX12_mostSeated (.code yX12_mostSeated cX12_mostSeated 5 (some .int) :: lw_good) ({ frames := 2, cells := 0, slots := 0, locals := 40 }) (va_Pc [.ref h] (prM dC dI h ad cA fv wd ar sz)) (va_Qi (fun (r : Int32) (u : mS) => rF u.1 ∧ rA u.2.2 ∧ fM [] fv u.1 ∧ fA [] ar u.2.2 ∧ True) (enM dC dI h ad cA) (aM h ad sz)) 0 0 (aM h ad sz) := by
  refine Met.ofW (cc := cX12_mostSeated) (maxL := 5) (ret := (some .int)) (by decide) rfl ?_
  intro p e s m args below meth c s₁ B hml hv
  obtain ⟨rfl, hsz, hP, hK⟩ := hv
  have hx := B.exec
  have hb := B.bytes
  have hr := B.returns
  have hts := atoms_spec (ws := (.code yX12_mostSeated cX12_mostSeated 5 (some .int) :: lw_good)) B.pre
  have htg : ∀ w ∈ lw_good, w.before _ s = true := fun w hw => hts w (List.mem_cons_of_mem _ hw)
  have hown : s.vm.findClass RX12 = some m.cls := findClass_of_methodNamed B.named
  have hlocks := B.notSynchronized
  subst hsz
  have hS : va_S (aM h ad s.heap.size) s.heap s.heap [] := va_S.rf
  have hl := lv_entry ([.ref h]) (n := 5) (Nat.le_of_ble_eq_true rfl)
  rw [lg_entry_eq]
  generalize (lg_sl ([.ref h]) ++ List.replicate (5 - (lg_sl ([.ref h])).length) Slot.unset).toArray = ls at hl ⊢
  have hl : lv_has ls 5 [(0, .ref h)] := hl
  refine lv_bipush (v := 40) hx hb dX12_mostSeated_0 (by decide) ?_
  refine lv_istore_n (lv' := [(1, .int 40), (0, .ref h)]) hx hb dX12_mostSeated_2 rfl hl (by decide) rfl (fun ls hl => ?_)
  refine lv_iconst (v := 0) hx hb dX12_mostSeated_3 (by decide) ?_
  refine lv_istore_n (lv' := [(2, .int 0), (1, .int 40), (0, .ref h)]) hx hb dX12_mostSeated_4 rfl hl (by decide) rfl (fun ls hl => ?_)
  refine my_cut (P := fun R9 a9 Q9 => ∀ (n_3 : Nat) (x_1 : Int32) (x_2 : Int32) (H : Heap) (locs : List Loc) (ls : Array Slot), 256 - x_2.toInt < (n_3 : Int) → ((-2147483648) ≤ x_1.toInt ∧ x_1.toInt ≤ 40) → (0 ≤ x_2.toInt ∧ x_2.toInt ≤ 256) → va_P (dC, dI) vwCl (wsM h ad cA fv wd ar) H → va_S (aM h ad s.heap.size) s.heap H locs → lv_has ls 5 [(0, .ref h), (1, .int x_1), (2, .int x_2)] → W p l e R9 s m a9 below meth c H locs 0 0 Q9 (F0 m 5 ls [])) ?_ (fun hj_5 => ?_)
  · intro n_3
    induction n_3 with
    | zero => intro x_1 x_2 H locs ls fu_4 i_x_1 i_x_2; exfalso; omega
    | succ n_3 ih_3 =>
      intro x_1 x_2 H locs ls fu_4 i_x_1 i_x_2 hP hS hl
      refine lv_iload_n hx hb dX12_mostSeated_5 rfl (lv_at hl 2 rfl) ?_
      refine lv_iconst (v := 1) hx hb dX12_mostSeated_6 (by decide) ?_
      refine lv_aload_n hx hb dX12_mostSeated_7 rfl (lv_at hl 0 rfl) ?_
      refine gM_33 hx hb htg hown hK hP dX12_mostSeated_8 ?_
      have i_6 : 0 ≤ (fv 33).toInt ∧ (fv 33).toInt ≤ 8 := hF_fv 33
      refine lv_ishl hx hb dX12_mostSeated_11 ?_
      refine lv_topi (fun v_7 ev_7 => ?_)
      have i_8 : 1 ≤ v_7.toInt ∧ v_7.toInt ≤ 256 := iv_shl (k := 8) ev_7 (iv_w i_6 (by decide) (by decide)) rfl (by decide)
      refine lv_icmp_ge (tgt := 73) hx hb dX12_mostSeated_12 (by decide) (fun c_9 => ?_) (fun c_9 => ?_)
      · skip
        have i_10 : 1 ≤ x_2.toInt ∧ x_2.toInt ≤ 256 := iv_le2 i_8 i_x_2 c_9
        refine lv_iload_n hx hb dX12_mostSeated_73 rfl (lv_at hl 1 rfl) ?_
        exact W.iret (v := x_1) hx hb hr (fun t ht hW => ⟨⟨x_1, (fv, wd, ar), rfl, ⟨hF_fv, hA_ar, (fM_rf [] _), (fA_rf [] _), trivial⟩, ⟨by rw [ht]; exact hP, va_K.moved hW.alike hK⟩⟩, hS.F ht⟩) hS.2.2 dX12_mostSeated_74
      · skip
        have i_11 : 0 ≤ x_2.toInt ∧ x_2.toInt ≤ 255 := iv_lt1 i_x_2 i_8 (Int32.not_le.mp c_9)
        refine lv_aload_n hx hb dX12_mostSeated_15 rfl (lv_at hl 0 rfl) ?_
        refine gM_94 hx hb htg hown hK hP dX12_mostSeated_16 ?_
        refine lv_iload_n hx hb dX12_mostSeated_19 rfl (lv_at hl 2 rfl) ?_
        refine lM_94 hx hb hK hP (iv_in i_11 (by decide) (by decide)) dX12_mostSeated_20 (fun v_12 ev_12 => ?_)
        refine lv_istore_n (lv' := [(3, .int v_12), (0, .ref h), (1, .int x_1), (2, .int x_2)]) hx hb dX12_mostSeated_21 rfl hl (by decide) rfl (fun ls hl => ?_)
        refine lv_iconst (v := 0) hx hb dX12_mostSeated_22 (by decide) ?_
        refine lv_istore (lv' := [(4, .int 0), (3, .int v_12), (0, .ref h), (1, .int x_1), (2, .int x_2)]) hx hb dX12_mostSeated_23 hl (by decide) rfl (fun ls hl => ?_)
        refine my_cut (P := fun R9 a9 Q9 => ∀ (n_15 : Nat) (x_13 : Int32) (x_14 : Int32) (H : Heap) (locs : List Loc) (ls : Array Slot), 8 - x_14.toInt < (n_15 : Int) → (0 ≤ x_14.toInt ∧ x_14.toInt ≤ 8) → va_P (dC, dI) vwCl (wsM h ad cA fv wd ar) H → va_S (aM h ad s.heap.size) s.heap H locs → lv_has ls 5 [(0, .ref h), (1, .int x_1), (2, .int x_2), (3, .int x_13), (4, .int x_14)] → W p l e R9 s m a9 below meth c H locs 0 0 Q9 (F0 m 25 ls [])) ?_ (fun hj_17 => ?_)
        · intro n_15
          induction n_15 with
          | zero => intro x_13 x_14 H locs ls fu_16 i_x_14; exfalso; omega
          | succ n_15 ih_15 =>
            intro x_13 x_14 H locs ls fu_16 i_x_14 hP hS hl
            refine lv_iload hx hb dX12_mostSeated_25 (lv_at hl 4 rfl) ?_
            refine lv_aload_n hx hb dX12_mostSeated_27 rfl (lv_at hl 0 rfl) ?_
            refine gM_33 hx hb htg hown hK hP dX12_mostSeated_28 ?_
            refine lv_icmp_ge (tgt := 60) hx hb dX12_mostSeated_31 (by decide) (fun c_18 => ?_) (fun c_18 => ?_)
            · skip
              refine lv_iload_n hx hb dX12_mostSeated_60 rfl (lv_at hl 3 rfl) ?_
              refine lv_iload_n hx hb dX12_mostSeated_61 rfl (lv_at hl 1 rfl) ?_
              refine my_cut (P := fun R9 a9 Q9 => ∀ (x_37 : Int32) (H : Heap) (locs : List Loc) (ls : Array Slot), ((-2147483648) ≤ x_37.toInt ∧ x_37.toInt ≤ 40) → va_P (dC, dI) vwCl (wsM h ad cA fv wd ar) H → va_S (aM h ad s.heap.size) s.heap H locs → lv_has ls 5 [(0, .ref h), (1, .int x_37), (2, .int x_2)] → W p l e R9 s m a9 below meth c H locs 0 0 Q9 (F0 m 67 ls [])) ?_ (fun hj_38 => ?_)
              · intro x_37 H locs ls i_x_37 hP hS hl
                obtain ⟨v_39, ev_39⟩ : ∃ z : Int32, z = x_2 + 1 := ⟨_, rfl⟩
                refine lv_iinc (v := v_39) (lv' := [(2, .int v_39), (0, .ref h), (1, .int x_37)]) hx hb dX12_mostSeated_67 hl (k := 2) rfl (by rw [ev_39]; rfl) (by decide) rfl (fun ls hl => ?_)
                have t_40 : v_39.toInt = x_2.toInt + 1 ∧ 1 ≤ v_39.toInt ∧ v_39.toInt ≤ 256 := iv_addc ev_39 i_11 (by decide) (by decide) (by decide)
                refine lv_goto (tgt := 5) hx hb dX12_mostSeated_70 (by decide) ?_
                exact ih_3 x_37 v_39 _ _ ls (by omega) i_x_37 (iv_w t_40.2 (by decide) (by decide)) hP hS (lv_sub hl [1, 2, 0] rfl)
              · skip
                refine lv_icmp_ge (tgt := 67) hx hb dX12_mostSeated_62 (by decide) (fun c_34 => ?_) (fun c_34 => ?_)
                · skip
                  exact hj_38 x_1 _ _ ls i_x_1 hP hS (lv_sub hl [0, 1, 2] rfl)
                · skip
                  have i_35 : (-2147483648) ≤ x_13.toInt ∧ x_13.toInt ≤ 39 := iv_lt1 (iv_any x_13) i_x_1 (Int32.not_le.mp c_34)
                  have i_36 : (-2147483647) ≤ x_1.toInt ∧ x_1.toInt ≤ 40 := iv_lt2 (iv_any x_13) i_x_1 (Int32.not_le.mp c_34)
                  refine lv_iload_n hx hb dX12_mostSeated_65 rfl (lv_at hl 3 rfl) ?_
                  refine lv_istore_n (lv' := [(1, .int x_13), (0, .ref h), (2, .int x_2), (3, .int x_13), (4, .int x_14)]) hx hb dX12_mostSeated_66 rfl hl (by decide) rfl (fun ls hl => ?_)
                  exact hj_38 x_13 _ _ ls (iv_w i_35 (by decide) (by decide)) hP hS (lv_sub hl [1, 0, 2] rfl)
            · skip
              have i_19 : 0 ≤ x_14.toInt ∧ x_14.toInt ≤ 7 := iv_lt1 i_x_14 i_6 (Int32.not_le.mp c_18)
              have i_20 : 1 ≤ (fv 33).toInt ∧ (fv 33).toInt ≤ 8 := iv_lt2 i_x_14 i_6 (Int32.not_le.mp c_18)
              refine lv_iload_n hx hb dX12_mostSeated_34 rfl (lv_at hl 2 rfl) ?_
              refine lv_iload hx hb dX12_mostSeated_35 (lv_at hl 4 rfl) ?_
              refine lv_ishr hx hb dX12_mostSeated_37 ?_
              refine lv_topi (fun v_21 ev_21 => ?_)
              refine lv_iconst (v := 1) hx hb dX12_mostSeated_38 (by decide) ?_
              refine lv_iand hx hb dX12_mostSeated_39 ?_
              refine lv_topi (fun v_22 ev_22 => ?_)
              have i_23 : 0 ≤ v_22.toInt ∧ v_22.toInt ≤ 1 := iv_1 ev_22
              refine lv_iconst (v := 1) hx hb dX12_mostSeated_40 (by decide) ?_
              refine my_cut (P := fun R9 a9 Q9 => ∀ (x_29 : Int32) (H : Heap) (locs : List Loc) (ls : Array Slot), va_P (dC, dI) vwCl (wsM h ad cA fv wd ar) H → va_S (aM h ad s.heap.size) s.heap H locs → lv_has ls 5 [(0, .ref h), (1, .int x_1), (2, .int x_2), (3, .int x_29), (4, .int x_14)] → W p l e R9 s m a9 below meth c H locs 0 0 Q9 (F0 m 54 ls [])) ?_ (fun hj_30 => ?_)
              · intro x_29 H locs ls  hP hS hl
                obtain ⟨v_31, ev_31⟩ : ∃ z : Int32, z = x_14 + 1 := ⟨_, rfl⟩
                refine lv_iinc (v := v_31) (lv' := [(4, .int v_31), (0, .ref h), (1, .int x_1), (2, .int x_2), (3, .int x_29)]) hx hb dX12_mostSeated_54 hl (k := 4) rfl (by rw [ev_31]; rfl) (by decide) rfl (fun ls hl => ?_)
                have t_32 : v_31.toInt = x_14.toInt + 1 ∧ 1 ≤ v_31.toInt ∧ v_31.toInt ≤ 8 := iv_addc ev_31 i_19 (by decide) (by decide) (by decide)
                refine lv_goto (tgt := 25) hx hb dX12_mostSeated_57 (by decide) ?_
                exact ih_15 x_29 v_31 _ _ ls (by omega) (iv_w t_32.2 (by decide) (by decide)) hP hS (lv_sub hl [1, 2, 3, 4, 0] rfl)
              · skip
                refine lv_icmp_ne (tgt := 54) hx hb dX12_mostSeated_41 (by decide) (fun c_24 => ?_) (fun c_24 => ?_)
                · skip
                  have i_25 : 0 ≤ v_22.toInt ∧ v_22.toInt ≤ 0 := iv_neh i_23 (by decide) c_24
                  exact hj_30 x_13 _ _ ls  hP hS (lv_sub hl [0, 1, 2, 3, 4] rfl)
                · skip
                  have i_26 : 1 ≤ v_22.toInt ∧ v_22.toInt ≤ 1 := iv_eq1 (⟨by decide, by decide⟩ : (1 : Int) ≤ (1 : Int32).toInt ∧ (1 : Int32).toInt ≤ 1) c_24
                  refine lv_iload_n hx hb dX12_mostSeated_44 rfl (lv_at hl 3 rfl) ?_
                  refine lv_aload_n hx hb dX12_mostSeated_45 rfl (lv_at hl 0 rfl) ?_
                  refine gM_93 hx hb htg hown hK hP dX12_mostSeated_46 ?_
                  refine lv_iload hx hb dX12_mostSeated_49 (lv_at hl 4 rfl) ?_
                  refine lM_93 hx hb hK hP (iv_in i_19 (by decide) (by decide)) dX12_mostSeated_51 (fun v_27 ev_27 => ?_)
                  refine lv_iadd hx hb dX12_mostSeated_52 ?_
                  refine lv_topi (fun v_28 ev_28 => ?_)
                  refine lv_istore_n (lv' := [(3, .int v_28), (0, .ref h), (1, .int x_1), (2, .int x_2), (4, .int x_14)]) hx hb dX12_mostSeated_53 rfl hl (by decide) rfl (fun ls hl => ?_)
                  exact hj_30 v_28 _ _ ls  hP hS (lv_sub hl [1, 2, 3, 0, 4] rfl)
        · skip
          have z_42 : (0 : Int32).toInt = 0 := by decide
          exact hj_17 9 v_12 0 _ _ ls (by first | decide | omega) (iv_w (⟨by decide, by decide⟩ : (0 : Int) ≤ (0 : Int32).toInt ∧ (0 : Int32).toInt ≤ 0) (by decide) (by decide)) hP hS (lv_sub hl [2, 3, 4, 1, 0] rfl)
  · skip
    have z_43 : (0 : Int32).toInt = 0 := by decide
    have z_44 : (40 : Int32).toInt = 40 := by decide
    exact hj_5 257 40 0 _ _ ls (by first | decide | omega) (iv_w (⟨by decide, by decide⟩ : (40 : Int) ≤ (40 : Int32).toInt ∧ (40 : Int32).toInt ≤ 40) (by decide) (by decide)) (iv_w (⟨by decide, by decide⟩ : (0 : Int) ≤ (0 : Int32).toInt ∧ (0 : Int32).toInt ≤ 0) (by decide) (by decide)) hP hS (lv_sub hl [2, 1, 0] rfl)

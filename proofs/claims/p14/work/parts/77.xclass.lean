theorem dX3_classify_0 : decode cX3_classify 0 = .ok (.iconst 0, 1) := by decide +kernel
theorem dX3_classify_1 : decode cX3_classify 1 = .ok (.istore_n 3, 1) := by decide +kernel
theorem dX3_classify_2 : decode cX3_classify 2 = .ok (.iload_n 1, 1) := by decide +kernel
theorem dX3_classify_3 : decode cX3_classify 3 = .ok (.istore 4, 2) := by decide +kernel
theorem dX3_classify_5 : decode cX3_classify 5 = .ok (.iload 4, 2) := by decide +kernel
theorem dX3_classify_7 : decode cX3_classify 7 = .ok (.iload_n 2, 1) := by decide +kernel
theorem dX3_classify_8 : decode cX3_classify 8 = .ok (.if_icmp .ge 22, 3) := by decide +kernel
theorem dX3_classify_11 : decode cX3_classify 11 = .ok (.aload_n 0, 1) := by decide +kernel
theorem dX3_classify_12 : decode cX3_classify 12 = .ok (.iload 4, 2) := by decide +kernel
theorem dX3_classify_14 : decode cX3_classify 14 = .ok (.iaload, 1) := by decide +kernel
theorem dX3_classify_15 : decode cX3_classify 15 = .ok (.invokestatic 126, 3) := by decide +kernel
theorem dX3_classify_18 : decode cX3_classify 18 = .ok (.ifCond .eq 6, 3) := by decide +kernel
theorem dX3_classify_21 : decode cX3_classify 21 = .ok (.iinc 3 1, 3) := by decide +kernel
theorem dX3_classify_24 : decode cX3_classify 24 = .ok (.iinc 4 1, 3) := by decide +kernel
theorem dX3_classify_27 : decode cX3_classify 27 = .ok (.goto (-22), 3) := by decide +kernel
theorem dX3_classify_30 : decode cX3_classify 30 = .ok (.iload_n 2, 1) := by decide +kernel
theorem dX3_classify_31 : decode cX3_classify 31 = .ok (.iload_n 1, 1) := by decide +kernel
theorem dX3_classify_32 : decode cX3_classify 32 = .ok (.isub, 1) := by decide +kernel
theorem dX3_classify_33 : decode cX3_classify 33 = .ok (.istore 4, 2) := by decide +kernel
theorem dX3_classify_35 : decode cX3_classify 35 = .ok (.iload_n 3, 1) := by decide +kernel
theorem dX3_classify_36 : decode cX3_classify 36 = .ok (.iload 4, 2) := by decide +kernel
theorem dX3_classify_38 : decode cX3_classify 38 = .ok (.if_icmp .ne 19, 3) := by decide +kernel
theorem dX3_classify_41 : decode cX3_classify 41 = .ok (.iload 4, 2) := by decide +kernel
theorem dX3_classify_43 : decode cX3_classify 43 = .ok (.iconst 4, 1) := by decide +kernel
theorem dX3_classify_44 : decode cX3_classify 44 = .ok (.if_icmp .gt 9, 3) := by decide +kernel
theorem dX3_classify_47 : decode cX3_classify 47 = .ok (.getstatic 129, 3) := by decide +kernel
theorem dX3_classify_50 : decode cX3_classify 50 = .ok (.goto 6, 3) := by decide +kernel
theorem dX3_classify_53 : decode cX3_classify 53 = .ok (.getstatic 119, 3) := by decide +kernel
theorem dX3_classify_56 : decode cX3_classify 56 = .ok (.areturn, 1) := by decide +kernel
theorem dX3_classify_57 : decode cX3_classify 57 = .ok (.iload_n 3, 1) := by decide +kernel
theorem dX3_classify_58 : decode cX3_classify 58 = .ok (.ifCond .gt 10, 3) := by decide +kernel
theorem dX3_classify_61 : decode cX3_classify 61 = .ok (.iload 4, 2) := by decide +kernel
theorem dX3_classify_63 : decode cX3_classify 63 = .ok (.bipush 8, 2) := by decide +kernel
theorem dX3_classify_65 : decode cX3_classify 65 = .ok (.if_icmp .le 9, 3) := by decide +kernel
theorem dX3_classify_68 : decode cX3_classify 68 = .ok (.getstatic 119, 3) := by decide +kernel
theorem dX3_classify_71 : decode cX3_classify 71 = .ok (.goto 10, 3) := by decide +kernel
theorem dX3_classify_74 : decode cX3_classify 74 = .ok (.aload_n 0, 1) := by decide +kernel
theorem dX3_classify_75 : decode cX3_classify 75 = .ok (.iload_n 1, 1) := by decide +kernel
theorem dX3_classify_76 : decode cX3_classify 76 = .ok (.iload 4, 2) := by decide +kernel
theorem dX3_classify_78 : decode cX3_classify 78 = .ok (.invokestatic 132, 3) := by decide +kernel
theorem dX3_classify_81 : decode cX3_classify 81 = .ok (.areturn, 1) := by decide +kernel

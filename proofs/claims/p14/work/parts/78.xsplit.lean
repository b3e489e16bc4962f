theorem dX3_split_0 : decode cX3_split 0 = .ok (.iload_n 2, 1) := by decide +kernel
theorem dX3_split_1 : decode cX3_split 1 = .ok (.sipush 300, 3) := by decide +kernel
theorem dX3_split_4 : decode cX3_split 4 = .ok (.invokestatic 92, 3) := by decide +kernel
theorem dX3_split_7 : decode cX3_split 7 = .ok (.istore_n 3, 1) := by decide +kernel
theorem dX3_split_8 : decode cX3_split 8 = .ok (.iconst 0, 1) := by decide +kernel
theorem dX3_split_9 : decode cX3_split 9 = .ok (.istore 4, 2) := by decide +kernel
theorem dX3_split_11 : decode cX3_split 11 = .ok (.aload_n 0, 1) := by decide +kernel
theorem dX3_split_12 : decode cX3_split 12 = .ok (.iconst 0, 1) := by decide +kernel
theorem dX3_split_13 : decode cX3_split 13 = .ok (.putfield 98, 3) := by decide +kernel
theorem dX3_split_16 : decode cX3_split 16 = .ok (.iload 4, 2) := by decide +kernel
theorem dX3_split_18 : decode cX3_split 18 = .ok (.iload_n 3, 1) := by decide +kernel
theorem dX3_split_19 : decode cX3_split 19 = .ok (.if_icmp .ge 72, 3) := by decide +kernel
theorem dX3_split_22 : decode cX3_split 22 = .ok (.aload_n 1, 1) := by decide +kernel
theorem dX3_split_23 : decode cX3_split 23 = .ok (.iload 4, 2) := by decide +kernel
theorem dX3_split_25 : decode cX3_split 25 = .ok (.iaload, 1) := by decide +kernel
theorem dX3_split_26 : decode cX3_split 26 = .ok (.bipush 32, 2) := by decide +kernel
theorem dX3_split_28 : decode cX3_split 28 = .ok (.if_icmp .eq 12, 3) := by decide +kernel
theorem dX3_split_31 : decode cX3_split 31 = .ok (.aload_n 1, 1) := by decide +kernel
theorem dX3_split_32 : decode cX3_split 32 = .ok (.iload 4, 2) := by decide +kernel
theorem dX3_split_34 : decode cX3_split 34 = .ok (.iaload, 1) := by decide +kernel
theorem dX3_split_35 : decode cX3_split 35 = .ok (.bipush 10, 2) := by decide +kernel
theorem dX3_split_37 : decode cX3_split 37 = .ok (.if_icmp .ne 9, 3) := by decide +kernel
theorem dX3_split_40 : decode cX3_split 40 = .ok (.iinc 4 1, 3) := by decide +kernel
theorem dX3_split_43 : decode cX3_split 43 = .ok (.goto (-27), 3) := by decide +kernel
theorem dX3_split_46 : decode cX3_split 46 = .ok (.iload 4, 2) := by decide +kernel
theorem dX3_split_48 : decode cX3_split 48 = .ok (.iconst 1, 1) := by decide +kernel
theorem dX3_split_49 : decode cX3_split 49 = .ok (.iadd, 1) := by decide +kernel
theorem dX3_split_50 : decode cX3_split 50 = .ok (.aload_n 1, 1) := by decide +kernel
theorem dX3_split_51 : decode cX3_split 51 = .ok (.iload 4, 2) := by decide +kernel
theorem dX3_split_53 : decode cX3_split 53 = .ok (.iload_n 2, 1) := by decide +kernel
theorem dX3_split_54 : decode cX3_split 54 = .ok (.invokestatic 101, 3) := by decide +kernel
theorem dX3_split_57 : decode cX3_split 57 = .ok (.invokestatic 105, 3) := by decide +kernel
theorem dX3_split_60 : decode cX3_split 60 = .ok (.istore 5, 2) := by decide +kernel
theorem dX3_split_62 : decode cX3_split 62 = .ok (.aload_n 0, 1) := by decide +kernel
theorem dX3_split_63 : decode cX3_split 63 = .ok (.aload_n 1, 1) := by decide +kernel
theorem dX3_split_64 : decode cX3_split 64 = .ok (.iload 4, 2) := by decide +kernel
theorem dX3_split_66 : decode cX3_split 66 = .ok (.iload 5, 2) := by decide +kernel
theorem dX3_split_68 : decode cX3_split 68 = .ok (.invokestatic 108, 3) := by decide +kernel
theorem dX3_split_71 : decode cX3_split 71 = .ok (.iload 4, 2) := by decide +kernel
theorem dX3_split_73 : decode cX3_split 73 = .ok (.aload_n 1, 1) := by decide +kernel
theorem dX3_split_74 : decode cX3_split 74 = .ok (.iload 4, 2) := by decide +kernel
theorem dX3_split_76 : decode cX3_split 76 = .ok (.iload 5, 2) := by decide +kernel
theorem dX3_split_78 : decode cX3_split 78 = .ok (.invokestatic 112, 3) := by decide +kernel
theorem dX3_split_81 : decode cX3_split 81 = .ok (.invokevirtual 115, 3) := by decide +kernel
theorem dX3_split_84 : decode cX3_split 84 = .ok (.iload 5, 2) := by decide +kernel
theorem dX3_split_86 : decode cX3_split 86 = .ok (.istore 4, 2) := by decide +kernel
theorem dX3_split_88 : decode cX3_split 88 = .ok (.goto (-72), 3) := by decide +kernel
theorem dX3_split_91 : decode cX3_split 91 = .ok (.aload_n 0, 1) := by decide +kernel
theorem dX3_split_92 : decode cX3_split 92 = .ok (.iload_n 2, 1) := by decide +kernel
theorem dX3_split_93 : decode cX3_split 93 = .ok (.sipush 300, 3) := by decide +kernel
theorem dX3_split_96 : decode cX3_split 96 = .ok (.if_icmp .le 9, 3) := by decide +kernel
theorem dX3_split_99 : decode cX3_split 99 = .ok (.getstatic 119, 3) := by decide +kernel
theorem dX3_split_102 : decode cX3_split 102 = .ok (.goto 6, 3) := by decide +kernel
theorem dX3_split_105 : decode cX3_split 105 = .ok (.getstatic 62, 3) := by decide +kernel
theorem dX3_split_108 : decode cX3_split 108 = .ok (.iload_n 3, 1) := by decide +kernel
theorem dX3_split_109 : decode cX3_split 109 = .ok (.iconst 0, 1) := by decide +kernel
theorem dX3_split_110 : decode cX3_split 110 = .ok (.invokevirtual 115, 3) := by decide +kernel
theorem dX3_split_113 : decode cX3_split 113 = .ok (.return_, 1) := by decide +kernel
theorem ix_maxl {v x y : Int32} (e : v = if x < y then y else x) : x.toInt ≤ v.toInt := by
  subst e
  by_cases q : x < y
  · rw [if_pos q]; have := Int32.lt_iff_toInt_lt.mp q; omega
  · rw [if_neg q]; exact Int.le_refl _

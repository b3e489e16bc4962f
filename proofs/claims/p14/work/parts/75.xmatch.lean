theorem dX3_matches_0 : decode cX3_matches 0 = .ok (.iconst 0, 1) := by decide +kernel
theorem dX3_matches_1 : decode cX3_matches 1 = .ok (.istore_n 3, 1) := by decide +kernel
theorem dX3_matches_2 : decode cX3_matches 2 = .ok (.iload_n 3, 1) := by decide +kernel
theorem dX3_matches_3 : decode cX3_matches 3 = .ok (.aload_n 0, 1) := by decide +kernel
theorem dX3_matches_4 : decode cX3_matches 4 = .ok (.invokevirtual 142, 3) := by decide +kernel
theorem dX3_matches_7 : decode cX3_matches 7 = .ok (.if_icmp .ge 24, 3) := by decide +kernel
theorem dX3_matches_10 : decode cX3_matches 10 = .ok (.aload_n 0, 1) := by decide +kernel
theorem dX3_matches_11 : decode cX3_matches 11 = .ok (.iload_n 3, 1) := by decide +kernel
theorem dX3_matches_12 : decode cX3_matches 12 = .ok (.invokevirtual 152, 3) := by decide +kernel
theorem dX3_matches_15 : decode cX3_matches 15 = .ok (.aload_n 1, 1) := by decide +kernel
theorem dX3_matches_16 : decode cX3_matches 16 = .ok (.iload_n 2, 1) := by decide +kernel
theorem dX3_matches_17 : decode cX3_matches 17 = .ok (.iload_n 3, 1) := by decide +kernel
theorem dX3_matches_18 : decode cX3_matches 18 = .ok (.iadd, 1) := by decide +kernel
theorem dX3_matches_19 : decode cX3_matches 19 = .ok (.iaload, 1) := by decide +kernel
theorem dX3_matches_20 : decode cX3_matches 20 = .ok (.if_icmp .eq 5, 3) := by decide +kernel
theorem dX3_matches_23 : decode cX3_matches 23 = .ok (.iconst 0, 1) := by decide +kernel
theorem dX3_matches_24 : decode cX3_matches 24 = .ok (.ireturn, 1) := by decide +kernel
theorem dX3_matches_25 : decode cX3_matches 25 = .ok (.iinc 3 1, 3) := by decide +kernel
theorem dX3_matches_28 : decode cX3_matches 28 = .ok (.goto (-26), 3) := by decide +kernel
theorem dX3_matches_31 : decode cX3_matches 31 = .ok (.iconst 1, 1) := by decide +kernel
theorem dX3_matches_32 : decode cX3_matches 32 = .ok (.ireturn, 1) := by decide +kernel

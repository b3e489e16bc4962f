theorem dX12_begin_0 : decode cX12_begin 0 = .ok (.aload_n 0, 1) := by decide +kernel
theorem dX12_begin_1 : decode cX12_begin 1 = .ok (.getfield 221, 3) := by decide +kernel
theorem dX12_begin_4 : decode cX12_begin 4 = .ok (.ifCond .eq 4, 3) := by decide +kernel
theorem dX12_begin_7 : decode cX12_begin 7 = .ok (.return_, 1) := by decide +kernel
theorem dX12_begin_8 : decode cX12_begin 8 = .ok (.aload_n 0, 1) := by decide +kernel
theorem dX12_begin_9 : decode cX12_begin 9 = .ok (.iconst 1, 1) := by decide +kernel
theorem dX12_begin_10 : decode cX12_begin 10 = .ok (.putfield 221, 3) := by decide +kernel
theorem dX12_begin_13 : decode cX12_begin 13 = .ok (.iconst 0, 1) := by decide +kernel
theorem dX12_begin_14 : decode cX12_begin 14 = .ok (.istore_n 1, 1) := by decide +kernel
theorem dX12_begin_15 : decode cX12_begin 15 = .ok (.iload_n 1, 1) := by decide +kernel
theorem dX12_begin_16 : decode cX12_begin 16 = .ok (.sipush 144, 3) := by decide +kernel
theorem dX12_begin_19 : decode cX12_begin 19 = .ok (.if_icmp .ge 28, 3) := by decide +kernel
theorem dX12_begin_22 : decode cX12_begin 22 = .ok (.aload_n 0, 1) := by decide +kernel
theorem dX12_begin_23 : decode cX12_begin 23 = .ok (.getfield 13, 3) := by decide +kernel
theorem dX12_begin_26 : decode cX12_begin 26 = .ok (.iload_n 1, 1) := by decide +kernel
theorem dX12_begin_27 : decode cX12_begin 27 = .ok (.iload_n 1, 1) := by decide +kernel
theorem dX12_begin_28 : decode cX12_begin 28 = .ok (.bipush 13, 2) := by decide +kernel
theorem dX12_begin_30 : decode cX12_begin 30 = .ok (.irem, 1) := by decide +kernel
theorem dX12_begin_31 : decode cX12_begin 31 = .ok (.ifCond .ne 7, 3) := by decide +kernel
theorem dX12_begin_34 : decode cX12_begin 34 = .ok (.iconst 0, 1) := by decide +kernel
theorem dX12_begin_35 : decode cX12_begin 35 = .ok (.goto 5, 3) := by decide +kernel
theorem dX12_begin_38 : decode cX12_begin 38 = .ok (.ldc 225, 2) := by decide +kernel
theorem dX12_begin_40 : decode cX12_begin 40 = .ok (.iastore, 1) := by decide +kernel
theorem dX12_begin_41 : decode cX12_begin 41 = .ok (.iinc 1 1, 3) := by decide +kernel
theorem dX12_begin_44 : decode cX12_begin 44 = .ok (.goto (-29), 3) := by decide +kernel
theorem dX12_begin_47 : decode cX12_begin 47 = .ok (.return_, 1) := by decide +kernel
theorem dX12_come_0 : decode cX12_come 0 = .ok (.bipush 24, 2) := by decide +kernel
theorem dX12_come_2 : decode cX12_come 2 = .ok (.istore_n 2, 1) := by decide +kernel
theorem dX12_come_3 : decode cX12_come 3 = .ok (.iload_n 2, 1) := by decide +kernel
theorem dX12_come_4 : decode cX12_come 4 = .ok (.ifCond .lt 35, 3) := by decide +kernel
theorem dX12_come_7 : decode cX12_come 7 = .ok (.aload_n 0, 1) := by decide +kernel
theorem dX12_come_8 : decode cX12_come 8 = .ok (.getfield 7, 3) := by decide +kernel
theorem dX12_come_11 : decode cX12_come 11 = .ok (.aload_n 0, 1) := by decide +kernel
theorem dX12_come_12 : decode cX12_come 12 = .ok (.getfield 207, 3) := by decide +kernel
theorem dX12_come_15 : decode cX12_come 15 = .ok (.iload_n 1, 1) := by decide +kernel
theorem dX12_come_16 : decode cX12_come 16 = .ok (.iload_n 2, 1) := by decide +kernel
theorem dX12_come_17 : decode cX12_come 17 = .ok (.iushr, 1) := by decide +kernel
theorem dX12_come_18 : decode cX12_come 18 = .ok (.sipush 255, 3) := by decide +kernel
theorem dX12_come_21 : decode cX12_come 21 = .ok (.iand, 1) := by decide +kernel
theorem dX12_come_22 : decode cX12_come 22 = .ok (.iastore, 1) := by decide +kernel
theorem dX12_come_23 : decode cX12_come 23 = .ok (.aload_n 0, 1) := by decide +kernel
theorem dX12_come_24 : decode cX12_come 24 = .ok (.dup, 1) := by decide +kernel
theorem dX12_come_25 : decode cX12_come 25 = .ok (.getfield 207, 3) := by decide +kernel
theorem dX12_come_28 : decode cX12_come 28 = .ok (.iconst 1, 1) := by decide +kernel
theorem dX12_come_29 : decode cX12_come 29 = .ok (.iadd, 1) := by decide +kernel
theorem dX12_come_30 : decode cX12_come 30 = .ok (.putfield 207, 3) := by decide +kernel
theorem dX12_come_33 : decode cX12_come 33 = .ok (.iinc 2 (-8), 3) := by decide +kernel
theorem dX12_come_36 : decode cX12_come 36 = .ok (.goto (-33), 3) := by decide +kernel
theorem dX12_come_39 : decode cX12_come 39 = .ok (.return_, 1) := by decide +kernel
theorem dX12_count_0 : decode cX12_count 0 = .ok (.aload_n 0, 1) := by decide +kernel
theorem dX12_count_1 : decode cX12_count 1 = .ok (.iconst 0, 1) := by decide +kernel
theorem dX12_count_2 : decode cX12_count 2 = .ok (.putfield 204, 3) := by decide +kernel
theorem dX12_count_5 : decode cX12_count 5 = .ok (.iload_n 1, 1) := by decide +kernel
theorem dX12_count_6 : decode cX12_count 6 = .ok (.tableswitch 86 0 7 #[46, 51, 56, 61, 66, 71, 76, 81], 46) := by decide +kernel
theorem dX12_count_52 : decode cX12_count 52 = .ok (.aload_n 0, 1) := by decide +kernel
theorem dX12_count_53 : decode cX12_count 53 = .ok (.getfield 218, 3) := by decide +kernel
theorem dX12_count_56 : decode cX12_count 56 = .ok (.ireturn, 1) := by decide +kernel
theorem dX12_count_57 : decode cX12_count 57 = .ok (.aload_n 0, 1) := by decide +kernel
theorem dX12_count_58 : decode cX12_count 58 = .ok (.getfield 254, 3) := by decide +kernel
theorem dX12_count_61 : decode cX12_count 61 = .ok (.ireturn, 1) := by decide +kernel
theorem dX12_count_62 : decode cX12_count 62 = .ok (.aload_n 0, 1) := by decide +kernel
theorem dX12_count_63 : decode cX12_count 63 = .ok (.getfield 260, 3) := by decide +kernel
theorem dX12_count_66 : decode cX12_count 66 = .ok (.ireturn, 1) := by decide +kernel
theorem dX12_count_67 : decode cX12_count 67 = .ok (.aload_n 0, 1) := by decide +kernel
theorem dX12_count_68 : decode cX12_count 68 = .ok (.getfield 263, 3) := by decide +kernel
theorem dX12_count_71 : decode cX12_count 71 = .ok (.ireturn, 1) := by decide +kernel
theorem dX12_count_72 : decode cX12_count 72 = .ok (.aload_n 0, 1) := by decide +kernel
theorem dX12_count_73 : decode cX12_count 73 = .ok (.getfield 269, 3) := by decide +kernel
theorem dX12_count_76 : decode cX12_count 76 = .ok (.ireturn, 1) := by decide +kernel
theorem dX12_count_77 : decode cX12_count 77 = .ok (.aload_n 0, 1) := by decide +kernel
theorem dX12_count_78 : decode cX12_count 78 = .ok (.getfield 394, 3) := by decide +kernel
theorem dX12_count_81 : decode cX12_count 81 = .ok (.ireturn, 1) := by decide +kernel
theorem dX12_count_82 : decode cX12_count 82 = .ok (.aload_n 0, 1) := by decide +kernel
theorem dX12_count_83 : decode cX12_count 83 = .ok (.getfield 272, 3) := by decide +kernel
theorem dX12_count_86 : decode cX12_count 86 = .ok (.ireturn, 1) := by decide +kernel
theorem dX12_count_87 : decode cX12_count 87 = .ok (.aload_n 0, 1) := by decide +kernel
theorem dX12_count_88 : decode cX12_count 88 = .ok (.getfield 207, 3) := by decide +kernel
theorem dX12_count_91 : decode cX12_count 91 = .ok (.ireturn, 1) := by decide +kernel
theorem dX12_count_92 : decode cX12_count 92 = .ok (.iconst (-1), 1) := by decide +kernel
theorem dX12_count_93 : decode cX12_count 93 = .ok (.ireturn, 1) := by decide +kernel
theorem dX12_end_0 : decode cX12_end 0 = .ok (.aload_n 0, 1) := by decide +kernel
theorem dX12_end_1 : decode cX12_end 1 = .ok (.iconst 0, 1) := by decide +kernel
theorem dX12_end_2 : decode cX12_end 2 = .ok (.putfield 204, 3) := by decide +kernel
theorem dX12_end_5 : decode cX12_end 5 = .ok (.iload_n 1, 1) := by decide +kernel
theorem dX12_end_6 : decode cX12_end 6 = .ok (.ifCond .lt 11, 3) := by decide +kernel
theorem dX12_end_9 : decode cX12_end 9 = .ok (.iload_n 1, 1) := by decide +kernel
theorem dX12_end_10 : decode cX12_end 10 = .ok (.aload_n 0, 1) := by decide +kernel
theorem dX12_end_11 : decode cX12_end 11 = .ok (.getfield 207, 3) := by decide +kernel
theorem dX12_end_14 : decode cX12_end 14 = .ok (.if_icmp .le 5, 3) := by decide +kernel
theorem dX12_end_17 : decode cX12_end 17 = .ok (.iconst 0, 1) := by decide +kernel
theorem dX12_end_18 : decode cX12_end 18 = .ok (.ireturn, 1) := by decide +kernel
theorem dX12_end_19 : decode cX12_end 19 = .ok (.aload_n 0, 1) := by decide +kernel
theorem dX12_end_20 : decode cX12_end 20 = .ok (.iload_n 1, 1) := by decide +kernel
theorem dX12_end_21 : decode cX12_end 21 = .ok (.putfield 207, 3) := by decide +kernel
theorem dX12_end_24 : decode cX12_end 24 = .ok (.iconst 1, 1) := by decide +kernel
theorem dX12_end_25 : decode cX12_end 25 = .ok (.ireturn, 1) := by decide +kernel
theorem dX12_far_0 : decode cX12_far 0 = .ok (.aload_n 0, 1) := by decide +kernel
theorem dX12_far_1 : decode cX12_far 1 = .ok (.iconst 0, 1) := by decide +kernel
theorem dX12_far_2 : decode cX12_far 2 = .ok (.putfield 204, 3) := by decide +kernel
theorem dX12_far_5 : decode cX12_far 5 = .ok (.iload_n 1, 1) := by decide +kernel
theorem dX12_far_6 : decode cX12_far 6 = .ok (.invokestatic 229, 3) := by decide +kernel
theorem dX12_far_9 : decode cX12_far 9 = .ok (.ifCond .eq 10, 3) := by decide +kernel
theorem dX12_far_12 : decode cX12_far 12 = .ok (.iload_n 2, 1) := by decide +kernel
theorem dX12_far_13 : decode cX12_far 13 = .ok (.invokestatic 229, 3) := by decide +kernel
theorem dX12_far_16 : decode cX12_far 16 = .ok (.ifCond .ne 5, 3) := by decide +kernel
theorem dX12_far_19 : decode cX12_far 19 = .ok (.iconst (-1), 1) := by decide +kernel
theorem dX12_far_20 : decode cX12_far 20 = .ok (.ireturn, 1) := by decide +kernel
theorem dX12_far_21 : decode cX12_far 21 = .ok (.aload_n 0, 1) := by decide +kernel
theorem dX12_far_22 : decode cX12_far 22 = .ok (.iload_n 1, 1) := by decide +kernel
theorem dX12_far_23 : decode cX12_far 23 = .ok (.iload_n 2, 1) := by decide +kernel
theorem dX12_far_24 : decode cX12_far 24 = .ok (.invokevirtual 236, 3) := by decide +kernel
theorem dX12_far_27 : decode cX12_far 27 = .ok (.istore_n 3, 1) := by decide +kernel
theorem dX12_far_28 : decode cX12_far 28 = .ok (.iload_n 3, 1) := by decide +kernel
theorem dX12_far_29 : decode cX12_far 29 = .ok (.ldc 225, 2) := by decide +kernel
theorem dX12_far_31 : decode cX12_far 31 = .ok (.if_icmp .lt 8, 3) := by decide +kernel
theorem dX12_far_34 : decode cX12_far 34 = .ok (.bipush (-2), 2) := by decide +kernel
theorem dX12_far_36 : decode cX12_far 36 = .ok (.goto 4, 3) := by decide +kernel
theorem dX12_far_39 : decode cX12_far 39 = .ok (.iload_n 3, 1) := by decide +kernel
theorem dX12_far_40 : decode cX12_far 40 = .ok (.ireturn, 1) := by decide +kernel
theorem dX12_farOf_0 : decode cX12_farOf 0 = .ok (.aload_n 0, 1) := by decide +kernel
theorem dX12_farOf_1 : decode cX12_farOf 1 = .ok (.invokevirtual 233, 3) := by decide +kernel
theorem dX12_farOf_4 : decode cX12_farOf 4 = .ok (.aload_n 0, 1) := by decide +kernel
theorem dX12_farOf_5 : decode cX12_farOf 5 = .ok (.getfield 13, 3) := by decide +kernel
theorem dX12_farOf_8 : decode cX12_farOf 8 = .ok (.bipush 12, 2) := by decide +kernel
theorem dX12_farOf_10 : decode cX12_farOf 10 = .ok (.iload_n 1, 1) := by decide +kernel
theorem dX12_farOf_11 : decode cX12_farOf 11 = .ok (.imul, 1) := by decide +kernel
theorem dX12_farOf_12 : decode cX12_farOf 12 = .ok (.iload_n 2, 1) := by decide +kernel
theorem dX12_farOf_13 : decode cX12_farOf 13 = .ok (.iadd, 1) := by decide +kernel
theorem dX12_farOf_14 : decode cX12_farOf 14 = .ok (.iaload, 1) := by decide +kernel
theorem dX12_farOf_15 : decode cX12_farOf 15 = .ok (.ireturn, 1) := by decide +kernel
theorem dX12_fault_0 : decode cX12_fault 0 = .ok (.aload_n 0, 1) := by decide +kernel
theorem dX12_fault_1 : decode cX12_fault 1 = .ok (.iconst 0, 1) := by decide +kernel
theorem dX12_fault_2 : decode cX12_fault 2 = .ok (.putfield 204, 3) := by decide +kernel
theorem dX12_fault_5 : decode cX12_fault 5 = .ok (.aload_n 0, 1) := by decide +kernel
theorem dX12_fault_6 : decode cX12_fault 6 = .ok (.getfield 317, 3) := by decide +kernel
theorem dX12_fault_9 : decode cX12_fault 9 = .ok (.ireturn, 1) := by decide +kernel
theorem dX12_feed_0 : decode cX12_feed 0 = .ok (.aload_n 0, 1) := by decide +kernel
theorem dX12_feed_1 : decode cX12_feed 1 = .ok (.iconst 0, 1) := by decide +kernel
theorem dX12_feed_2 : decode cX12_feed 2 = .ok (.putfield 204, 3) := by decide +kernel
theorem dX12_feed_5 : decode cX12_feed 5 = .ok (.aload_n 0, 1) := by decide +kernel
theorem dX12_feed_6 : decode cX12_feed 6 = .ok (.getfield 207, 3) := by decide +kernel
theorem dX12_feed_9 : decode cX12_feed 9 = .ok (.bipush 20, 2) := by decide +kernel
theorem dX12_feed_11 : decode cX12_feed 11 = .ok (.iadd, 1) := by decide +kernel
theorem dX12_feed_12 : decode cX12_feed 12 = .ok (.sipush 340, 3) := by decide +kernel
theorem dX12_feed_15 : decode cX12_feed 15 = .ok (.if_icmp .le 5, 3) := by decide +kernel
theorem dX12_feed_18 : decode cX12_feed 18 = .ok (.iconst (-1), 1) := by decide +kernel
theorem dX12_feed_19 : decode cX12_feed 19 = .ok (.ireturn, 1) := by decide +kernel
theorem dX12_feed_20 : decode cX12_feed 20 = .ok (.aload_n 0, 1) := by decide +kernel
theorem dX12_feed_21 : decode cX12_feed 21 = .ok (.iload_n 1, 1) := by decide +kernel
theorem dX12_feed_22 : decode cX12_feed 22 = .ok (.invokevirtual 210, 3) := by decide +kernel
theorem dX12_feed_25 : decode cX12_feed 25 = .ok (.aload_n 0, 1) := by decide +kernel
theorem dX12_feed_26 : decode cX12_feed 26 = .ok (.iload_n 2, 1) := by decide +kernel
theorem dX12_feed_27 : decode cX12_feed 27 = .ok (.invokevirtual 210, 3) := by decide +kernel
theorem dX12_feed_30 : decode cX12_feed 30 = .ok (.aload_n 0, 1) := by decide +kernel
theorem dX12_feed_31 : decode cX12_feed 31 = .ok (.iload_n 3, 1) := by decide +kernel
theorem dX12_feed_32 : decode cX12_feed 32 = .ok (.invokevirtual 210, 3) := by decide +kernel
theorem dX12_feed_35 : decode cX12_feed 35 = .ok (.aload_n 0, 1) := by decide +kernel
theorem dX12_feed_36 : decode cX12_feed 36 = .ok (.iload 4, 2) := by decide +kernel
theorem dX12_feed_38 : decode cX12_feed 38 = .ok (.invokevirtual 210, 3) := by decide +kernel
theorem dX12_feed_41 : decode cX12_feed 41 = .ok (.aload_n 0, 1) := by decide +kernel
theorem dX12_feed_42 : decode cX12_feed 42 = .ok (.iload 5, 2) := by decide +kernel
theorem dX12_feed_44 : decode cX12_feed 44 = .ok (.invokevirtual 210, 3) := by decide +kernel
theorem dX12_feed_47 : decode cX12_feed 47 = .ok (.aload_n 0, 1) := by decide +kernel
theorem dX12_feed_48 : decode cX12_feed 48 = .ok (.getfield 207, 3) := by decide +kernel
theorem dX12_feed_51 : decode cX12_feed 51 = .ok (.ireturn, 1) := by decide +kernel
theorem dX12_give_0 : decode cX12_give 0 = .ok (.aload_n 0, 1) := by decide +kernel
theorem dX12_give_1 : decode cX12_give 1 = .ok (.iconst 0, 1) := by decide +kernel
theorem dX12_give_2 : decode cX12_give 2 = .ok (.putfield 204, 3) := by decide +kernel
theorem dX12_give_5 : decode cX12_give 5 = .ok (.iload_n 1, 1) := by decide +kernel
theorem dX12_give_6 : decode cX12_give 6 = .ok (.iconst 1, 1) := by decide +kernel
theorem dX12_give_7 : decode cX12_give 7 = .ok (.ldc 225, 2) := by decide +kernel
theorem dX12_give_9 : decode cX12_give 9 = .ok (.invokestatic 214, 3) := by decide +kernel
theorem dX12_give_12 : decode cX12_give 12 = .ok (.ifCond .ne 5, 3) := by decide +kernel
theorem dX12_give_15 : decode cX12_give 15 = .ok (.iconst (-1), 1) := by decide +kernel
theorem dX12_give_16 : decode cX12_give 16 = .ok (.ireturn, 1) := by decide +kernel
theorem dX12_give_17 : decode cX12_give 17 = .ok (.aload_n 0, 1) := by decide +kernel
theorem dX12_give_18 : decode cX12_give 18 = .ok (.aload_n 0, 1) := by decide +kernel
theorem dX12_give_19 : decode cX12_give 19 = .ok (.getfield 272, 3) := by decide +kernel
theorem dX12_give_22 : decode cX12_give 22 = .ok (.iload_n 1, 1) := by decide +kernel
theorem dX12_give_23 : decode cX12_give 23 = .ok (.iadd, 1) := by decide +kernel
theorem dX12_give_24 : decode cX12_give 24 = .ok (.invokestatic 275, 3) := by decide +kernel
theorem dX12_give_27 : decode cX12_give 27 = .ok (.putfield 272, 3) := by decide +kernel
theorem dX12_give_30 : decode cX12_give 30 = .ok (.aload_n 0, 1) := by decide +kernel
theorem dX12_give_31 : decode cX12_give 31 = .ok (.getfield 272, 3) := by decide +kernel
theorem dX12_give_34 : decode cX12_give 34 = .ok (.ireturn, 1) := by decide +kernel
theorem dX12_insure_0 : decode cX12_insure 0 = .ok (.aload_n 0, 1) := by decide +kernel
theorem dX12_insure_1 : decode cX12_insure 1 = .ok (.iconst 0, 1) := by decide +kernel
theorem dX12_insure_2 : decode cX12_insure 2 = .ok (.putfield 204, 3) := by decide +kernel
theorem dX12_insure_5 : decode cX12_insure 5 = .ok (.aload_n 0, 1) := by decide +kernel
theorem dX12_insure_6 : decode cX12_insure 6 = .ok (.iload_n 1, 1) := by decide +kernel
theorem dX12_insure_7 : decode cX12_insure 7 = .ok (.invokevirtual 266, 3) := by decide +kernel
theorem dX12_insure_10 : decode cX12_insure 10 = .ok (.ifCond .eq 14, 3) := by decide +kernel
theorem dX12_insure_13 : decode cX12_insure 13 = .ok (.iload_n 2, 1) := by decide +kernel
theorem dX12_insure_14 : decode cX12_insure 14 = .ok (.iconst (-1), 1) := by decide +kernel
theorem dX12_insure_15 : decode cX12_insure 15 = .ok (.sipush 199, 3) := by decide +kernel
theorem dX12_insure_18 : decode cX12_insure 18 = .ok (.invokestatic 214, 3) := by decide +kernel
theorem dX12_insure_21 : decode cX12_insure 21 = .ok (.ifCond .ne 5, 3) := by decide +kernel
theorem dX12_insure_24 : decode cX12_insure 24 = .ok (.iconst 0, 1) := by decide +kernel
theorem dX12_insure_25 : decode cX12_insure 25 = .ok (.ireturn, 1) := by decide +kernel
theorem dX12_insure_26 : decode cX12_insure 26 = .ok (.aload_n 0, 1) := by decide +kernel
theorem dX12_insure_27 : decode cX12_insure 27 = .ok (.getfield 61, 3) := by decide +kernel
theorem dX12_insure_30 : decode cX12_insure 30 = .ok (.iload_n 1, 1) := by decide +kernel
theorem dX12_insure_31 : decode cX12_insure 31 = .ok (.iload_n 2, 1) := by decide +kernel
theorem dX12_insure_32 : decode cX12_insure 32 = .ok (.iastore, 1) := by decide +kernel
theorem dX12_insure_33 : decode cX12_insure 33 = .ok (.iconst 1, 1) := by decide +kernel
theorem dX12_insure_34 : decode cX12_insure 34 = .ok (.ireturn, 1) := by decide +kernel
theorem dX12_isWheel_0 : decode cX12_isWheel 0 = .ok (.iload_n 1, 1) := by decide +kernel
theorem dX12_isWheel_1 : decode cX12_isWheel 1 = .ok (.ifCond .lt 15, 3) := by decide +kernel
theorem dX12_isWheel_4 : decode cX12_isWheel 4 = .ok (.iload_n 1, 1) := by decide +kernel
theorem dX12_isWheel_5 : decode cX12_isWheel 5 = .ok (.aload_n 0, 1) := by decide +kernel
theorem dX12_isWheel_6 : decode cX12_isWheel 6 = .ok (.getfield 263, 3) := by decide +kernel
theorem dX12_isWheel_9 : decode cX12_isWheel 9 = .ok (.if_icmp .ge 7, 3) := by decide +kernel
theorem dX12_isWheel_12 : decode cX12_isWheel 12 = .ok (.iconst 1, 1) := by decide +kernel
theorem dX12_isWheel_13 : decode cX12_isWheel 13 = .ok (.goto 4, 3) := by decide +kernel
theorem dX12_isWheel_16 : decode cX12_isWheel 16 = .ok (.iconst 0, 1) := by decide +kernel
theorem dX12_isWheel_17 : decode cX12_isWheel 17 = .ok (.ireturn, 1) := by decide +kernel
theorem dX12_next_0 : decode cX12_next 0 = .ok (.aload_n 0, 1) := by decide +kernel
theorem dX12_next_1 : decode cX12_next 1 = .ok (.iconst 0, 1) := by decide +kernel
theorem dX12_next_2 : decode cX12_next 2 = .ok (.putfield 204, 3) := by decide +kernel
theorem dX12_next_5 : decode cX12_next 5 = .ok (.iload_n 1, 1) := by decide +kernel
theorem dX12_next_6 : decode cX12_next 6 = .ok (.iconst 0, 1) := by decide +kernel
theorem dX12_next_7 : decode cX12_next 7 = .ok (.sipush 199, 3) := by decide +kernel
theorem dX12_next_10 : decode cX12_next 10 = .ok (.invokestatic 214, 3) := by decide +kernel
theorem dX12_next_13 : decode cX12_next 13 = .ok (.ifCond .eq 15, 3) := by decide +kernel
theorem dX12_next_16 : decode cX12_next 16 = .ok (.aload_n 0, 1) := by decide +kernel
theorem dX12_next_17 : decode cX12_next 17 = .ok (.getfield 218, 3) := by decide +kernel
theorem dX12_next_20 : decode cX12_next 20 = .ok (.iload_n 1, 1) := by decide +kernel
theorem dX12_next_21 : decode cX12_next 21 = .ok (.iadd, 1) := by decide +kernel
theorem dX12_next_22 : decode cX12_next 22 = .ok (.sipush 200, 3) := by decide +kernel
theorem dX12_next_25 : decode cX12_next 25 = .ok (.if_icmp .lt 5, 3) := by decide +kernel
theorem dX12_next_28 : decode cX12_next 28 = .ok (.iconst (-1), 1) := by decide +kernel
theorem dX12_next_29 : decode cX12_next 29 = .ok (.ireturn, 1) := by decide +kernel
theorem dX12_next_30 : decode cX12_next 30 = .ok (.aload_n 0, 1) := by decide +kernel
theorem dX12_next_31 : decode cX12_next 31 = .ok (.dup, 1) := by decide +kernel
theorem dX12_next_32 : decode cX12_next 32 = .ok (.getfield 218, 3) := by decide +kernel
theorem dX12_next_35 : decode cX12_next 35 = .ok (.iload_n 1, 1) := by decide +kernel
theorem dX12_next_36 : decode cX12_next 36 = .ok (.iadd, 1) := by decide +kernel
theorem dX12_next_37 : decode cX12_next 37 = .ok (.putfield 218, 3) := by decide +kernel
theorem dX12_next_40 : decode cX12_next 40 = .ok (.aload_n 0, 1) := by decide +kernel
theorem dX12_next_41 : decode cX12_next 41 = .ok (.getfield 218, 3) := by decide +kernel
theorem dX12_next_44 : decode cX12_next 44 = .ok (.ireturn, 1) := by decide +kernel
theorem dX12_of_0 : decode cX12_of 0 = .ok (.iload_n 1, 1) := by decide +kernel
theorem dX12_of_1 : decode cX12_of 1 = .ok (.iconst 0, 1) := by decide +kernel
theorem dX12_of_2 : decode cX12_of 2 = .ok (.aload_n 0, 1) := by decide +kernel
theorem dX12_of_3 : decode cX12_of 3 = .ok (.getfield 254, 3) := by decide +kernel
theorem dX12_of_6 : decode cX12_of 6 = .ok (.iconst 1, 1) := by decide +kernel
theorem dX12_of_7 : decode cX12_of 7 = .ok (.isub, 1) := by decide +kernel
theorem dX12_of_8 : decode cX12_of 8 = .ok (.invokestatic 214, 3) := by decide +kernel
theorem dX12_of_11 : decode cX12_of 11 = .ok (.ifCond .eq 13, 3) := by decide +kernel
theorem dX12_of_14 : decode cX12_of 14 = .ok (.iload_n 2, 1) := by decide +kernel
theorem dX12_of_15 : decode cX12_of 15 = .ok (.iconst 0, 1) := by decide +kernel
theorem dX12_of_16 : decode cX12_of 16 = .ok (.bipush 6, 2) := by decide +kernel
theorem dX12_of_18 : decode cX12_of 18 = .ok (.invokestatic 214, 3) := by decide +kernel
theorem dX12_of_21 : decode cX12_of 21 = .ok (.ifCond .ne 8, 3) := by decide +kernel
theorem dX12_of_24 : decode cX12_of 24 = .ok (.aload_n 0, 1) := by decide +kernel
theorem dX12_of_25 : decode cX12_of 25 = .ok (.invokevirtual 484, 3) := by decide +kernel
theorem dX12_of_28 : decode cX12_of 28 = .ok (.ireturn, 1) := by decide +kernel
theorem dX12_of_29 : decode cX12_of 29 = .ok (.aload_n 0, 1) := by decide +kernel
theorem dX12_of_30 : decode cX12_of 30 = .ok (.iconst 0, 1) := by decide +kernel
theorem dX12_of_31 : decode cX12_of 31 = .ok (.putfield 204, 3) := by decide +kernel
theorem dX12_of_34 : decode cX12_of 34 = .ok (.iload_n 2, 1) := by decide +kernel
theorem dX12_of_35 : decode cX12_of 35 = .ok (.tableswitch 79 0 5 #[37, 44, 51, 58, 65, 72], 37) := by decide +kernel
theorem dX12_of_72 : decode cX12_of 72 = .ok (.aload_n 0, 1) := by decide +kernel
theorem dX12_of_73 : decode cX12_of 73 = .ok (.getfield 147, 3) := by decide +kernel
theorem dX12_of_76 : decode cX12_of 76 = .ok (.iload_n 1, 1) := by decide +kernel
theorem dX12_of_77 : decode cX12_of 77 = .ok (.iaload, 1) := by decide +kernel
theorem dX12_of_78 : decode cX12_of 78 = .ok (.ireturn, 1) := by decide +kernel
theorem dX12_of_79 : decode cX12_of 79 = .ok (.aload_n 0, 1) := by decide +kernel
theorem dX12_of_80 : decode cX12_of 80 = .ok (.getfield 150, 3) := by decide +kernel
theorem dX12_of_83 : decode cX12_of 83 = .ok (.iload_n 1, 1) := by decide +kernel
theorem dX12_of_84 : decode cX12_of 84 = .ok (.iaload, 1) := by decide +kernel
theorem dX12_of_85 : decode cX12_of 85 = .ok (.ireturn, 1) := by decide +kernel
theorem dX12_of_86 : decode cX12_of 86 = .ok (.aload_n 0, 1) := by decide +kernel
theorem dX12_of_87 : decode cX12_of 87 = .ok (.getfield 153, 3) := by decide +kernel
theorem dX12_of_90 : decode cX12_of 90 = .ok (.iload_n 1, 1) := by decide +kernel
theorem dX12_of_91 : decode cX12_of 91 = .ok (.iaload, 1) := by decide +kernel
theorem dX12_of_92 : decode cX12_of 92 = .ok (.ireturn, 1) := by decide +kernel
theorem dX12_of_93 : decode cX12_of 93 = .ok (.aload_n 0, 1) := by decide +kernel
theorem dX12_of_94 : decode cX12_of 94 = .ok (.getfield 156, 3) := by decide +kernel
theorem dX12_of_97 : decode cX12_of 97 = .ok (.iload_n 1, 1) := by decide +kernel
theorem dX12_of_98 : decode cX12_of 98 = .ok (.iaload, 1) := by decide +kernel
theorem dX12_of_99 : decode cX12_of 99 = .ok (.ireturn, 1) := by decide +kernel
theorem dX12_of_100 : decode cX12_of 100 = .ok (.aload_n 0, 1) := by decide +kernel
theorem dX12_of_101 : decode cX12_of 101 = .ok (.getfield 40, 3) := by decide +kernel
theorem dX12_of_104 : decode cX12_of 104 = .ok (.iload_n 1, 1) := by decide +kernel
theorem dX12_of_105 : decode cX12_of 105 = .ok (.iaload, 1) := by decide +kernel
theorem dX12_of_106 : decode cX12_of 106 = .ok (.ireturn, 1) := by decide +kernel
theorem dX12_of_107 : decode cX12_of 107 = .ok (.aload_n 0, 1) := by decide +kernel
theorem dX12_of_108 : decode cX12_of 108 = .ok (.getfield 37, 3) := by decide +kernel
theorem dX12_of_111 : decode cX12_of 111 = .ok (.iload_n 1, 1) := by decide +kernel
theorem dX12_of_112 : decode cX12_of 112 = .ok (.iaload, 1) := by decide +kernel
theorem dX12_of_113 : decode cX12_of 113 = .ok (.ireturn, 1) := by decide +kernel
theorem dX12_of_114 : decode cX12_of 114 = .ok (.aload_n 0, 1) := by decide +kernel
theorem dX12_of_115 : decode cX12_of 115 = .ok (.getfield 46, 3) := by decide +kernel
theorem dX12_of_118 : decode cX12_of 118 = .ok (.iload_n 1, 1) := by decide +kernel
theorem dX12_of_119 : decode cX12_of 119 = .ok (.iaload, 1) := by decide +kernel
theorem dX12_of_120 : decode cX12_of 120 = .ok (.ireturn, 1) := by decide +kernel
theorem dX12_person_0 : decode cX12_person 0 = .ok (.aload_n 0, 1) := by decide +kernel
theorem dX12_person_1 : decode cX12_person 1 = .ok (.iconst 0, 1) := by decide +kernel
theorem dX12_person_2 : decode cX12_person 2 = .ok (.putfield 204, 3) := by decide +kernel
theorem dX12_person_5 : decode cX12_person 5 = .ok (.aload_n 0, 1) := by decide +kernel
theorem dX12_person_6 : decode cX12_person 6 = .ok (.invokevirtual 240, 3) := by decide +kernel
theorem dX12_person_9 : decode cX12_person 9 = .ok (.istore 4, 2) := by decide +kernel
theorem dX12_person_11 : decode cX12_person 11 = .ok (.aload_n 0, 1) := by decide +kernel
theorem dX12_person_12 : decode cX12_person 12 = .ok (.getfield 254, 3) := by decide +kernel
theorem dX12_person_15 : decode cX12_person 15 = .ok (.bipush 40, 2) := by decide +kernel
theorem dX12_person_17 : decode cX12_person 17 = .ok (.if_icmp .eq 35, 3) := by decide +kernel
theorem dX12_person_20 : decode cX12_person 20 = .ok (.iload_n 1, 1) := by decide +kernel
theorem dX12_person_21 : decode cX12_person 21 = .ok (.invokestatic 229, 3) := by decide +kernel
theorem dX12_person_24 : decode cX12_person 24 = .ok (.ifCond .eq 28, 3) := by decide +kernel
theorem dX12_person_27 : decode cX12_person 27 = .ok (.iload_n 2, 1) := by decide +kernel
theorem dX12_person_28 : decode cX12_person 28 = .ok (.invokestatic 229, 3) := by decide +kernel
theorem dX12_person_31 : decode cX12_person 31 = .ok (.ifCond .eq 21, 3) := by decide +kernel
theorem dX12_person_34 : decode cX12_person 34 = .ok (.iload_n 3, 1) := by decide +kernel
theorem dX12_person_35 : decode cX12_person 35 = .ok (.iconst 0, 1) := by decide +kernel
theorem dX12_person_36 : decode cX12_person 36 = .ok (.sipush 9999, 3) := by decide +kernel
theorem dX12_person_39 : decode cX12_person 39 = .ok (.invokestatic 214, 3) := by decide +kernel
theorem dX12_person_42 : decode cX12_person 42 = .ok (.ifCond .eq 10, 3) := by decide +kernel
theorem dX12_person_45 : decode cX12_person 45 = .ok (.iload 4, 2) := by decide +kernel
theorem dX12_person_47 : decode cX12_person 47 = .ok (.bipush 12, 2) := by decide +kernel
theorem dX12_person_49 : decode cX12_person 49 = .ok (.if_icmp .eq 5, 3) := by decide +kernel
theorem dX12_person_52 : decode cX12_person 52 = .ok (.iconst (-1), 1) := by decide +kernel
theorem dX12_person_53 : decode cX12_person 53 = .ok (.ireturn, 1) := by decide +kernel
theorem dX12_person_54 : decode cX12_person 54 = .ok (.aload_n 0, 1) := by decide +kernel
theorem dX12_person_55 : decode cX12_person 55 = .ok (.iconst 0, 1) := by decide +kernel
theorem dX12_person_56 : decode cX12_person 56 = .ok (.invokevirtual 257, 3) := by decide +kernel
theorem dX12_person_59 : decode cX12_person 59 = .ok (.sipush 600, 3) := by decide +kernel
theorem dX12_person_62 : decode cX12_person 62 = .ok (.if_icmp .gt 60, 3) := by decide +kernel
theorem dX12_person_65 : decode cX12_person 65 = .ok (.aload_n 0, 1) := by decide +kernel
theorem dX12_person_66 : decode cX12_person 66 = .ok (.iconst 1, 1) := by decide +kernel
theorem dX12_person_67 : decode cX12_person 67 = .ok (.invokevirtual 257, 3) := by decide +kernel
theorem dX12_person_70 : decode cX12_person 70 = .ok (.sipush 719, 3) := by decide +kernel
theorem dX12_person_73 : decode cX12_person 73 = .ok (.if_icmp .gt 49, 3) := by decide +kernel
theorem dX12_person_76 : decode cX12_person 76 = .ok (.aload_n 0, 1) := by decide +kernel
theorem dX12_person_77 : decode cX12_person 77 = .ok (.iconst 2, 1) := by decide +kernel
theorem dX12_person_78 : decode cX12_person 78 = .ok (.invokevirtual 257, 3) := by decide +kernel
theorem dX12_person_81 : decode cX12_person 81 = .ok (.bipush 10, 2) := by decide +kernel
theorem dX12_person_83 : decode cX12_person 83 = .ok (.bipush 99, 2) := by decide +kernel
theorem dX12_person_85 : decode cX12_person 85 = .ok (.invokestatic 214, 3) := by decide +kernel
theorem dX12_person_88 : decode cX12_person 88 = .ok (.ifCond .eq 34, 3) := by decide +kernel
theorem dX12_person_91 : decode cX12_person 91 = .ok (.aload_n 0, 1) := by decide +kernel
theorem dX12_person_92 : decode cX12_person 92 = .ok (.iconst 3, 1) := by decide +kernel
theorem dX12_person_93 : decode cX12_person 93 = .ok (.invokevirtual 257, 3) := by decide +kernel
theorem dX12_person_96 : decode cX12_person 96 = .ok (.bipush 9, 2) := by decide +kernel
theorem dX12_person_98 : decode cX12_person 98 = .ok (.if_icmp .gt 24, 3) := by decide +kernel
theorem dX12_person_101 : decode cX12_person 101 = .ok (.aload_n 0, 1) := by decide +kernel
theorem dX12_person_102 : decode cX12_person 102 = .ok (.iconst 4, 1) := by decide +kernel
theorem dX12_person_103 : decode cX12_person 103 = .ok (.invokevirtual 257, 3) := by decide +kernel
theorem dX12_person_106 : decode cX12_person 106 = .ok (.sipush 10000, 3) := by decide +kernel
theorem dX12_person_109 : decode cX12_person 109 = .ok (.if_icmp .gt 13, 3) := by decide +kernel
theorem dX12_person_112 : decode cX12_person 112 = .ok (.aload_n 0, 1) := by decide +kernel
theorem dX12_person_113 : decode cX12_person 113 = .ok (.iconst 5, 1) := by decide +kernel
theorem dX12_person_114 : decode cX12_person 114 = .ok (.invokevirtual 257, 3) := by decide +kernel
theorem dX12_person_117 : decode cX12_person 117 = .ok (.bipush 9, 2) := by decide +kernel
theorem dX12_person_119 : decode cX12_person 119 = .ok (.if_icmp .le 5, 3) := by decide +kernel
theorem dX12_person_122 : decode cX12_person 122 = .ok (.iconst (-1), 1) := by decide +kernel
theorem dX12_person_123 : decode cX12_person 123 = .ok (.ireturn, 1) := by decide +kernel
theorem dX12_person_124 : decode cX12_person 124 = .ok (.aload_n 0, 1) := by decide +kernel
theorem dX12_person_125 : decode cX12_person 125 = .ok (.getfield 19, 3) := by decide +kernel
theorem dX12_person_128 : decode cX12_person 128 = .ok (.aload_n 0, 1) := by decide +kernel
theorem dX12_person_129 : decode cX12_person 129 = .ok (.getfield 254, 3) := by decide +kernel
theorem dX12_person_132 : decode cX12_person 132 = .ok (.iload_n 1, 1) := by decide +kernel
theorem dX12_person_133 : decode cX12_person 133 = .ok (.iastore, 1) := by decide +kernel
theorem dX12_person_134 : decode cX12_person 134 = .ok (.aload_n 0, 1) := by decide +kernel
theorem dX12_person_135 : decode cX12_person 135 = .ok (.getfield 22, 3) := by decide +kernel
theorem dX12_person_138 : decode cX12_person 138 = .ok (.aload_n 0, 1) := by decide +kernel
theorem dX12_person_139 : decode cX12_person 139 = .ok (.getfield 254, 3) := by decide +kernel
theorem dX12_person_142 : decode cX12_person 142 = .ok (.iload_n 2, 1) := by decide +kernel
theorem dX12_person_143 : decode cX12_person 143 = .ok (.iastore, 1) := by decide +kernel
theorem dX12_person_144 : decode cX12_person 144 = .ok (.aload_n 0, 1) := by decide +kernel
theorem dX12_person_145 : decode cX12_person 145 = .ok (.getfield 25, 3) := by decide +kernel
theorem dX12_person_148 : decode cX12_person 148 = .ok (.aload_n 0, 1) := by decide +kernel
theorem dX12_person_149 : decode cX12_person 149 = .ok (.getfield 254, 3) := by decide +kernel
theorem dX12_person_152 : decode cX12_person 152 = .ok (.iload_n 3, 1) := by decide +kernel
theorem dX12_person_153 : decode cX12_person 153 = .ok (.iastore, 1) := by decide +kernel
theorem dX12_person_154 : decode cX12_person 154 = .ok (.aload_n 0, 1) := by decide +kernel
theorem dX12_person_155 : decode cX12_person 155 = .ok (.getfield 28, 3) := by decide +kernel
theorem dX12_person_158 : decode cX12_person 158 = .ok (.aload_n 0, 1) := by decide +kernel
theorem dX12_person_159 : decode cX12_person 159 = .ok (.getfield 254, 3) := by decide +kernel
theorem dX12_person_162 : decode cX12_person 162 = .ok (.aload_n 0, 1) := by decide +kernel
theorem dX12_person_163 : decode cX12_person 163 = .ok (.iconst 0, 1) := by decide +kernel
theorem dX12_person_164 : decode cX12_person 164 = .ok (.invokevirtual 257, 3) := by decide +kernel
theorem dX12_person_167 : decode cX12_person 167 = .ok (.iastore, 1) := by decide +kernel
theorem dX12_person_168 : decode cX12_person 168 = .ok (.aload_n 0, 1) := by decide +kernel
theorem dX12_person_169 : decode cX12_person 169 = .ok (.getfield 31, 3) := by decide +kernel
theorem dX12_person_172 : decode cX12_person 172 = .ok (.aload_n 0, 1) := by decide +kernel
theorem dX12_person_173 : decode cX12_person 173 = .ok (.getfield 254, 3) := by decide +kernel
theorem dX12_person_176 : decode cX12_person 176 = .ok (.aload_n 0, 1) := by decide +kernel
theorem dX12_person_177 : decode cX12_person 177 = .ok (.iconst 1, 1) := by decide +kernel
theorem dX12_person_178 : decode cX12_person 178 = .ok (.invokevirtual 257, 3) := by decide +kernel
theorem dX12_person_181 : decode cX12_person 181 = .ok (.iastore, 1) := by decide +kernel
theorem dX12_person_182 : decode cX12_person 182 = .ok (.aload_n 0, 1) := by decide +kernel
theorem dX12_person_183 : decode cX12_person 183 = .ok (.getfield 34, 3) := by decide +kernel
theorem dX12_person_186 : decode cX12_person 186 = .ok (.aload_n 0, 1) := by decide +kernel
theorem dX12_person_187 : decode cX12_person 187 = .ok (.getfield 254, 3) := by decide +kernel
theorem dX12_person_190 : decode cX12_person 190 = .ok (.aload_n 0, 1) := by decide +kernel
theorem dX12_person_191 : decode cX12_person 191 = .ok (.iconst 2, 1) := by decide +kernel
theorem dX12_person_192 : decode cX12_person 192 = .ok (.invokevirtual 257, 3) := by decide +kernel
theorem dX12_person_195 : decode cX12_person 195 = .ok (.iastore, 1) := by decide +kernel
theorem dX12_person_196 : decode cX12_person 196 = .ok (.aload_n 0, 1) := by decide +kernel
theorem dX12_person_197 : decode cX12_person 197 = .ok (.getfield 37, 3) := by decide +kernel
theorem dX12_person_200 : decode cX12_person 200 = .ok (.aload_n 0, 1) := by decide +kernel
theorem dX12_person_201 : decode cX12_person 201 = .ok (.getfield 254, 3) := by decide +kernel
theorem dX12_person_204 : decode cX12_person 204 = .ok (.aload_n 0, 1) := by decide +kernel
theorem dX12_person_205 : decode cX12_person 205 = .ok (.iconst 3, 1) := by decide +kernel
theorem dX12_person_206 : decode cX12_person 206 = .ok (.invokevirtual 257, 3) := by decide +kernel
theorem dX12_person_209 : decode cX12_person 209 = .ok (.iastore, 1) := by decide +kernel
theorem dX12_person_210 : decode cX12_person 210 = .ok (.aload_n 0, 1) := by decide +kernel
theorem dX12_person_211 : decode cX12_person 211 = .ok (.getfield 40, 3) := by decide +kernel
theorem dX12_person_214 : decode cX12_person 214 = .ok (.aload_n 0, 1) := by decide +kernel
theorem dX12_person_215 : decode cX12_person 215 = .ok (.getfield 254, 3) := by decide +kernel
theorem dX12_person_218 : decode cX12_person 218 = .ok (.bipush 10, 2) := by decide +kernel
theorem dX12_person_220 : decode cX12_person 220 = .ok (.aload_n 0, 1) := by decide +kernel
theorem dX12_person_221 : decode cX12_person 221 = .ok (.iconst 4, 1) := by decide +kernel
theorem dX12_person_222 : decode cX12_person 222 = .ok (.invokevirtual 257, 3) := by decide +kernel
theorem dX12_person_225 : decode cX12_person 225 = .ok (.imul, 1) := by decide +kernel
theorem dX12_person_226 : decode cX12_person 226 = .ok (.iastore, 1) := by decide +kernel
theorem dX12_person_227 : decode cX12_person 227 = .ok (.aload_n 0, 1) := by decide +kernel
theorem dX12_person_228 : decode cX12_person 228 = .ok (.getfield 43, 3) := by decide +kernel
theorem dX12_person_231 : decode cX12_person 231 = .ok (.aload_n 0, 1) := by decide +kernel
theorem dX12_person_232 : decode cX12_person 232 = .ok (.getfield 254, 3) := by decide +kernel
theorem dX12_person_235 : decode cX12_person 235 = .ok (.aload_n 0, 1) := by decide +kernel
theorem dX12_person_236 : decode cX12_person 236 = .ok (.iconst 5, 1) := by decide +kernel
theorem dX12_person_237 : decode cX12_person 237 = .ok (.invokevirtual 257, 3) := by decide +kernel
theorem dX12_person_240 : decode cX12_person 240 = .ok (.iastore, 1) := by decide +kernel
theorem dX12_person_241 : decode cX12_person 241 = .ok (.aload_n 0, 1) := by decide +kernel
theorem dX12_person_242 : decode cX12_person 242 = .ok (.getfield 147, 3) := by decide +kernel
theorem dX12_person_245 : decode cX12_person 245 = .ok (.aload_n 0, 1) := by decide +kernel
theorem dX12_person_246 : decode cX12_person 246 = .ok (.getfield 254, 3) := by decide +kernel
theorem dX12_person_249 : decode cX12_person 249 = .ok (.iconst (-1), 1) := by decide +kernel
theorem dX12_person_250 : decode cX12_person 250 = .ok (.iastore, 1) := by decide +kernel
theorem dX12_person_251 : decode cX12_person 251 = .ok (.aload_n 0, 1) := by decide +kernel
theorem dX12_person_252 : decode cX12_person 252 = .ok (.dup, 1) := by decide +kernel
theorem dX12_person_253 : decode cX12_person 253 = .ok (.getfield 254, 3) := by decide +kernel
theorem dX12_person_256 : decode cX12_person 256 = .ok (.iconst 1, 1) := by decide +kernel
theorem dX12_person_257 : decode cX12_person 257 = .ok (.iadd, 1) := by decide +kernel
theorem dX12_person_258 : decode cX12_person 258 = .ok (.putfield 254, 3) := by decide +kernel
theorem dX12_person_261 : decode cX12_person 261 = .ok (.aload_n 0, 1) := by decide +kernel
theorem dX12_person_262 : decode cX12_person 262 = .ok (.getfield 254, 3) := by decide +kernel
theorem dX12_person_265 : decode cX12_person 265 = .ok (.iconst 1, 1) := by decide +kernel
theorem dX12_person_266 : decode cX12_person 266 = .ok (.isub, 1) := by decide +kernel
theorem dX12_person_267 : decode cX12_person 267 = .ok (.ireturn, 1) := by decide +kernel
theorem dX12_rain_0 : decode cX12_rain 0 = .ok (.aload_n 0, 1) := by decide +kernel
theorem dX12_rain_1 : decode cX12_rain 1 = .ok (.iconst 0, 1) := by decide +kernel
theorem dX12_rain_2 : decode cX12_rain 2 = .ok (.putfield 204, 3) := by decide +kernel
theorem dX12_rain_5 : decode cX12_rain 5 = .ok (.aload_n 0, 1) := by decide +kernel
theorem dX12_rain_6 : decode cX12_rain 6 = .ok (.invokevirtual 240, 3) := by decide +kernel
theorem dX12_rain_9 : decode cX12_rain 9 = .ok (.istore_n 1, 1) := by decide +kernel
theorem dX12_rain_10 : decode cX12_rain 10 = .ok (.iload_n 1, 1) := by decide +kernel
theorem dX12_rain_11 : decode cX12_rain 11 = .ok (.iconst 1, 1) := by decide +kernel
theorem dX12_rain_12 : decode cX12_rain 12 = .ok (.sipush 200, 3) := by decide +kernel
theorem dX12_rain_15 : decode cX12_rain 15 = .ok (.invokestatic 214, 3) := by decide +kernel
theorem dX12_rain_18 : decode cX12_rain 18 = .ok (.ifCond .ne 5, 3) := by decide +kernel
theorem dX12_rain_21 : decode cX12_rain 21 = .ok (.iconst 0, 1) := by decide +kernel
theorem dX12_rain_22 : decode cX12_rain 22 = .ok (.ireturn, 1) := by decide +kernel
theorem dX12_rain_23 : decode cX12_rain 23 = .ok (.iconst 0, 1) := by decide +kernel
theorem dX12_rain_24 : decode cX12_rain 24 = .ok (.istore_n 2, 1) := by decide +kernel
theorem dX12_rain_25 : decode cX12_rain 25 = .ok (.iload_n 2, 1) := by decide +kernel
theorem dX12_rain_26 : decode cX12_rain 26 = .ok (.iload_n 1, 1) := by decide +kernel
theorem dX12_rain_27 : decode cX12_rain 27 = .ok (.if_icmp .ge 34, 3) := by decide +kernel
theorem dX12_rain_30 : decode cX12_rain 30 = .ok (.aload_n 0, 1) := by decide +kernel
theorem dX12_rain_31 : decode cX12_rain 31 = .ok (.getfield 7, 3) := by decide +kernel
theorem dX12_rain_34 : decode cX12_rain 34 = .ok (.iload_n 2, 1) := by decide +kernel
theorem dX12_rain_35 : decode cX12_rain 35 = .ok (.iaload, 1) := by decide +kernel
theorem dX12_rain_36 : decode cX12_rain 36 = .ok (.bipush 9, 2) := by decide +kernel
theorem dX12_rain_38 : decode cX12_rain 38 = .ok (.if_icmp .le 17, 3) := by decide +kernel
theorem dX12_rain_41 : decode cX12_rain 41 = .ok (.aload_n 0, 1) := by decide +kernel
theorem dX12_rain_42 : decode cX12_rain 42 = .ok (.getfield 7, 3) := by decide +kernel
theorem dX12_rain_45 : decode cX12_rain 45 = .ok (.iload_n 2, 1) := by decide +kernel
theorem dX12_rain_46 : decode cX12_rain 46 = .ok (.iaload, 1) := by decide +kernel
theorem dX12_rain_47 : decode cX12_rain 47 = .ok (.sipush 255, 3) := by decide +kernel
theorem dX12_rain_50 : decode cX12_rain 50 = .ok (.if_icmp .eq 5, 3) := by decide +kernel
theorem dX12_rain_53 : decode cX12_rain 53 = .ok (.iconst 0, 1) := by decide +kernel
theorem dX12_rain_54 : decode cX12_rain 54 = .ok (.ireturn, 1) := by decide +kernel
theorem dX12_rain_55 : decode cX12_rain 55 = .ok (.iinc 2 1, 3) := by decide +kernel
theorem dX12_rain_58 : decode cX12_rain 58 = .ok (.goto (-33), 3) := by decide +kernel
theorem dX12_rain_61 : decode cX12_rain 61 = .ok (.iconst 0, 1) := by decide +kernel
theorem dX12_rain_62 : decode cX12_rain 62 = .ok (.istore_n 2, 1) := by decide +kernel
theorem dX12_rain_63 : decode cX12_rain 63 = .ok (.iload_n 2, 1) := by decide +kernel
theorem dX12_rain_64 : decode cX12_rain 64 = .ok (.iload_n 1, 1) := by decide +kernel
theorem dX12_rain_65 : decode cX12_rain 65 = .ok (.if_icmp .ge 51, 3) := by decide +kernel
theorem dX12_rain_68 : decode cX12_rain 68 = .ok (.aload_n 0, 1) := by decide +kernel
theorem dX12_rain_69 : decode cX12_rain 69 = .ok (.getfield 16, 3) := by decide +kernel
theorem dX12_rain_72 : decode cX12_rain 72 = .ok (.iload_n 2, 1) := by decide +kernel
theorem dX12_rain_73 : decode cX12_rain 73 = .ok (.aload_n 0, 1) := by decide +kernel
theorem dX12_rain_74 : decode cX12_rain 74 = .ok (.getfield 7, 3) := by decide +kernel
theorem dX12_rain_77 : decode cX12_rain 77 = .ok (.iload_n 2, 1) := by decide +kernel
theorem dX12_rain_78 : decode cX12_rain 78 = .ok (.iaload, 1) := by decide +kernel
theorem dX12_rain_79 : decode cX12_rain 79 = .ok (.bipush 10, 2) := by decide +kernel
theorem dX12_rain_81 : decode cX12_rain 81 = .ok (.if_icmp .ge 12, 3) := by decide +kernel
theorem dX12_rain_84 : decode cX12_rain 84 = .ok (.aload_n 0, 1) := by decide +kernel
theorem dX12_rain_85 : decode cX12_rain 85 = .ok (.getfield 7, 3) := by decide +kernel
theorem dX12_rain_88 : decode cX12_rain 88 = .ok (.iload_n 2, 1) := by decide +kernel
theorem dX12_rain_89 : decode cX12_rain 89 = .ok (.iaload, 1) := by decide +kernel
theorem dX12_rain_90 : decode cX12_rain 90 = .ok (.goto 19, 3) := by decide +kernel
theorem dX12_rain_93 : decode cX12_rain 93 = .ok (.iload_n 2, 1) := by decide +kernel
theorem dX12_rain_94 : decode cX12_rain 94 = .ok (.ifCond .ne 7, 3) := by decide +kernel
theorem dX12_rain_97 : decode cX12_rain 97 = .ok (.iconst 0, 1) := by decide +kernel
theorem dX12_rain_98 : decode cX12_rain 98 = .ok (.goto 11, 3) := by decide +kernel
theorem dX12_rain_101 : decode cX12_rain 101 = .ok (.aload_n 0, 1) := by decide +kernel
theorem dX12_rain_102 : decode cX12_rain 102 = .ok (.getfield 16, 3) := by decide +kernel
theorem dX12_rain_105 : decode cX12_rain 105 = .ok (.iload_n 2, 1) := by decide +kernel
theorem dX12_rain_106 : decode cX12_rain 106 = .ok (.iconst 1, 1) := by decide +kernel
theorem dX12_rain_107 : decode cX12_rain 107 = .ok (.isub, 1) := by decide +kernel
theorem dX12_rain_108 : decode cX12_rain 108 = .ok (.iaload, 1) := by decide +kernel
theorem dX12_rain_109 : decode cX12_rain 109 = .ok (.iastore, 1) := by decide +kernel
theorem dX12_rain_110 : decode cX12_rain 110 = .ok (.iinc 2 1, 3) := by decide +kernel
theorem dX12_rain_113 : decode cX12_rain 113 = .ok (.goto (-50), 3) := by decide +kernel
theorem dX12_rain_116 : decode cX12_rain 116 = .ok (.aload_n 0, 1) := by decide +kernel
theorem dX12_rain_117 : decode cX12_rain 117 = .ok (.iload_n 1, 1) := by decide +kernel
theorem dX12_rain_118 : decode cX12_rain 118 = .ok (.putfield 244, 3) := by decide +kernel
theorem dX12_rain_121 : decode cX12_rain 121 = .ok (.iconst 1, 1) := by decide +kernel
theorem dX12_rain_122 : decode cX12_rain 122 = .ok (.ireturn, 1) := by decide +kernel
theorem dX12_rainOf_0 : decode cX12_rainOf 0 = .ok (.aload_n 0, 1) := by decide +kernel
theorem dX12_rainOf_1 : decode cX12_rainOf 1 = .ok (.getfield 244, 3) := by decide +kernel
theorem dX12_rainOf_4 : decode cX12_rainOf 4 = .ok (.ifCond .ne 7, 3) := by decide +kernel
theorem dX12_rainOf_7 : decode cX12_rainOf 7 = .ok (.iconst 0, 1) := by decide +kernel
theorem dX12_rainOf_8 : decode cX12_rainOf 8 = .ok (.goto 22, 3) := by decide +kernel
theorem dX12_rainOf_11 : decode cX12_rainOf 11 = .ok (.iload_n 1, 1) := by decide +kernel
theorem dX12_rainOf_12 : decode cX12_rainOf 12 = .ok (.aload_n 0, 1) := by decide +kernel
theorem dX12_rainOf_13 : decode cX12_rainOf 13 = .ok (.getfield 244, 3) := by decide +kernel
theorem dX12_rainOf_16 : decode cX12_rainOf 16 = .ok (.if_icmp .lt 8, 3) := by decide +kernel
theorem dX12_rainOf_19 : decode cX12_rainOf 19 = .ok (.bipush 9, 2) := by decide +kernel
theorem dX12_rainOf_21 : decode cX12_rainOf 21 = .ok (.goto 9, 3) := by decide +kernel
theorem dX12_rainOf_24 : decode cX12_rainOf 24 = .ok (.aload_n 0, 1) := by decide +kernel
theorem dX12_rainOf_25 : decode cX12_rainOf 25 = .ok (.getfield 16, 3) := by decide +kernel
theorem dX12_rainOf_28 : decode cX12_rainOf 28 = .ok (.iload_n 1, 1) := by decide +kernel
theorem dX12_rainOf_29 : decode cX12_rainOf 29 = .ok (.iaload, 1) := by decide +kernel
theorem dX12_rainOf_30 : decode cX12_rainOf 30 = .ok (.ireturn, 1) := by decide +kernel
theorem dX12_refuse_0 : decode cX12_refuse 0 = .ok (.aload_n 0, 1) := by decide +kernel
theorem dX12_refuse_1 : decode cX12_refuse 1 = .ok (.iconst 1, 1) := by decide +kernel
theorem dX12_refuse_2 : decode cX12_refuse 2 = .ok (.putfield 204, 3) := by decide +kernel
theorem dX12_refuse_5 : decode cX12_refuse 5 = .ok (.iconst 0, 1) := by decide +kernel
theorem dX12_refuse_6 : decode cX12_refuse 6 = .ok (.ireturn, 1) := by decide +kernel
theorem dX12_rode_0 : decode cX12_rode 0 = .ok (.aload_n 0, 1) := by decide +kernel
theorem dX12_rode_1 : decode cX12_rode 1 = .ok (.iconst 0, 1) := by decide +kernel
theorem dX12_rode_2 : decode cX12_rode 2 = .ok (.putfield 204, 3) := by decide +kernel
theorem dX12_rode_5 : decode cX12_rode 5 = .ok (.iload_n 1, 1) := by decide +kernel
theorem dX12_rode_6 : decode cX12_rode 6 = .ok (.iconst 0, 1) := by decide +kernel
theorem dX12_rode_7 : decode cX12_rode 7 = .ok (.aload_n 0, 1) := by decide +kernel
theorem dX12_rode_8 : decode cX12_rode 8 = .ok (.getfield 269, 3) := by decide +kernel
theorem dX12_rode_11 : decode cX12_rode 11 = .ok (.iconst 1, 1) := by decide +kernel
theorem dX12_rode_12 : decode cX12_rode 12 = .ok (.isub, 1) := by decide +kernel
theorem dX12_rode_13 : decode cX12_rode 13 = .ok (.invokestatic 214, 3) := by decide +kernel
theorem dX12_rode_16 : decode cX12_rode 16 = .ok (.ifCond .eq 12, 3) := by decide +kernel
theorem dX12_rode_19 : decode cX12_rode 19 = .ok (.aload_n 0, 1) := by decide +kernel
theorem dX12_rode_20 : decode cX12_rode 20 = .ok (.getfield 174, 3) := by decide +kernel
theorem dX12_rode_23 : decode cX12_rode 23 = .ok (.iload_n 1, 1) := by decide +kernel
theorem dX12_rode_24 : decode cX12_rode 24 = .ok (.iaload, 1) := by decide +kernel
theorem dX12_rode_25 : decode cX12_rode 25 = .ok (.goto 4, 3) := by decide +kernel
theorem dX12_rode_28 : decode cX12_rode 28 = .ok (.iconst (-1), 1) := by decide +kernel
theorem dX12_rode_29 : decode cX12_rode 29 = .ok (.ireturn, 1) := by decide +kernel
theorem dX12_seatedAt_0 : decode cX12_seatedAt 0 = .ok (.aload_n 0, 1) := by decide +kernel
theorem dX12_seatedAt_1 : decode cX12_seatedAt 1 = .ok (.iconst 0, 1) := by decide +kernel
theorem dX12_seatedAt_2 : decode cX12_seatedAt 2 = .ok (.putfield 204, 3) := by decide +kernel
theorem dX12_seatedAt_5 : decode cX12_seatedAt 5 = .ok (.iload_n 1, 1) := by decide +kernel
theorem dX12_seatedAt_6 : decode cX12_seatedAt 6 = .ok (.ifCond .lt 20, 3) := by decide +kernel
theorem dX12_seatedAt_9 : decode cX12_seatedAt 9 = .ok (.iload_n 1, 1) := by decide +kernel
theorem dX12_seatedAt_10 : decode cX12_seatedAt 10 = .ok (.aload_n 0, 1) := by decide +kernel
theorem dX12_seatedAt_11 : decode cX12_seatedAt 11 = .ok (.getfield 490, 3) := by decide +kernel
theorem dX12_seatedAt_14 : decode cX12_seatedAt 14 = .ok (.if_icmp .ge 12, 3) := by decide +kernel
theorem dX12_seatedAt_17 : decode cX12_seatedAt 17 = .ok (.aload_n 0, 1) := by decide +kernel
theorem dX12_seatedAt_18 : decode cX12_seatedAt 18 = .ok (.getfield 195, 3) := by decide +kernel
theorem dX12_seatedAt_21 : decode cX12_seatedAt 21 = .ok (.iload_n 1, 1) := by decide +kernel
theorem dX12_seatedAt_22 : decode cX12_seatedAt 22 = .ok (.iaload, 1) := by decide +kernel
theorem dX12_seatedAt_23 : decode cX12_seatedAt 23 = .ok (.goto 4, 3) := by decide +kernel
theorem dX12_seatedAt_26 : decode cX12_seatedAt 26 = .ok (.iconst (-1), 1) := by decide +kernel
theorem dX12_seatedAt_27 : decode cX12_seatedAt 27 = .ok (.ireturn, 1) := by decide +kernel
theorem dX12_stop_0 : decode cX12_stop 0 = .ok (.aload_n 0, 1) := by decide +kernel
theorem dX12_stop_1 : decode cX12_stop 1 = .ok (.iconst 0, 1) := by decide +kernel
theorem dX12_stop_2 : decode cX12_stop 2 = .ok (.putfield 204, 3) := by decide +kernel
theorem dX12_stop_5 : decode cX12_stop 5 = .ok (.aload_n 0, 1) := by decide +kernel
theorem dX12_stop_6 : decode cX12_stop 6 = .ok (.getfield 260, 3) := by decide +kernel
theorem dX12_stop_9 : decode cX12_stop 9 = .ok (.bipush 8, 2) := by decide +kernel
theorem dX12_stop_11 : decode cX12_stop 11 = .ok (.if_icmp .eq 10, 3) := by decide +kernel
theorem dX12_stop_14 : decode cX12_stop 14 = .ok (.iload_n 1, 1) := by decide +kernel
theorem dX12_stop_15 : decode cX12_stop 15 = .ok (.invokestatic 229, 3) := by decide +kernel
theorem dX12_stop_18 : decode cX12_stop 18 = .ok (.ifCond .ne 5, 3) := by decide +kernel
theorem dX12_stop_21 : decode cX12_stop 21 = .ok (.iconst (-1), 1) := by decide +kernel
theorem dX12_stop_22 : decode cX12_stop 22 = .ok (.ireturn, 1) := by decide +kernel
theorem dX12_stop_23 : decode cX12_stop 23 = .ok (.aload_n 0, 1) := by decide +kernel
theorem dX12_stop_24 : decode cX12_stop 24 = .ok (.getfield 49, 3) := by decide +kernel
theorem dX12_stop_27 : decode cX12_stop 27 = .ok (.aload_n 0, 1) := by decide +kernel
theorem dX12_stop_28 : decode cX12_stop 28 = .ok (.getfield 260, 3) := by decide +kernel
theorem dX12_stop_31 : decode cX12_stop 31 = .ok (.iload_n 1, 1) := by decide +kernel
theorem dX12_stop_32 : decode cX12_stop 32 = .ok (.iastore, 1) := by decide +kernel
theorem dX12_stop_33 : decode cX12_stop 33 = .ok (.aload_n 0, 1) := by decide +kernel
theorem dX12_stop_34 : decode cX12_stop 34 = .ok (.dup, 1) := by decide +kernel
theorem dX12_stop_35 : decode cX12_stop 35 = .ok (.getfield 260, 3) := by decide +kernel
theorem dX12_stop_38 : decode cX12_stop 38 = .ok (.iconst 1, 1) := by decide +kernel
theorem dX12_stop_39 : decode cX12_stop 39 = .ok (.iadd, 1) := by decide +kernel
theorem dX12_stop_40 : decode cX12_stop 40 = .ok (.putfield 260, 3) := by decide +kernel
theorem dX12_stop_43 : decode cX12_stop 43 = .ok (.aload_n 0, 1) := by decide +kernel
theorem dX12_stop_44 : decode cX12_stop 44 = .ok (.getfield 260, 3) := by decide +kernel
theorem dX12_stop_47 : decode cX12_stop 47 = .ok (.iconst 1, 1) := by decide +kernel
theorem dX12_stop_48 : decode cX12_stop 48 = .ok (.isub, 1) := by decide +kernel
theorem dX12_stop_49 : decode cX12_stop 49 = .ok (.ireturn, 1) := by decide +kernel
theorem dX12_street_0 : decode cX12_street 0 = .ok (.aload_n 0, 1) := by decide +kernel
theorem dX12_street_1 : decode cX12_street 1 = .ok (.iconst 0, 1) := by decide +kernel
theorem dX12_street_2 : decode cX12_street 2 = .ok (.putfield 204, 3) := by decide +kernel
theorem dX12_street_5 : decode cX12_street 5 = .ok (.aload_n 0, 1) := by decide +kernel
theorem dX12_street_6 : decode cX12_street 6 = .ok (.getfield 226, 3) := by decide +kernel
theorem dX12_street_9 : decode cX12_street 9 = .ok (.bipush 30, 2) := by decide +kernel
theorem dX12_street_11 : decode cX12_street 11 = .ok (.if_icmp .eq 32, 3) := by decide +kernel
theorem dX12_street_14 : decode cX12_street 14 = .ok (.iload_n 1, 1) := by decide +kernel
theorem dX12_street_15 : decode cX12_street 15 = .ok (.invokestatic 229, 3) := by decide +kernel
theorem dX12_street_18 : decode cX12_street 18 = .ok (.ifCond .eq 25, 3) := by decide +kernel
theorem dX12_street_21 : decode cX12_street 21 = .ok (.iload_n 2, 1) := by decide +kernel
theorem dX12_street_22 : decode cX12_street 22 = .ok (.invokestatic 229, 3) := by decide +kernel
theorem dX12_street_25 : decode cX12_street 25 = .ok (.ifCond .eq 18, 3) := by decide +kernel
theorem dX12_street_28 : decode cX12_street 28 = .ok (.iload_n 1, 1) := by decide +kernel
theorem dX12_street_29 : decode cX12_street 29 = .ok (.iload_n 2, 1) := by decide +kernel
theorem dX12_street_30 : decode cX12_street 30 = .ok (.if_icmp .eq 13, 3) := by decide +kernel
theorem dX12_street_33 : decode cX12_street 33 = .ok (.iload_n 3, 1) := by decide +kernel
theorem dX12_street_34 : decode cX12_street 34 = .ok (.iconst 1, 1) := by decide +kernel
theorem dX12_street_35 : decode cX12_street 35 = .ok (.bipush 99, 2) := by decide +kernel
theorem dX12_street_37 : decode cX12_street 37 = .ok (.invokestatic 214, 3) := by decide +kernel
theorem dX12_street_40 : decode cX12_street 40 = .ok (.ifCond .ne 5, 3) := by decide +kernel
theorem dX12_street_43 : decode cX12_street 43 = .ok (.iconst 0, 1) := by decide +kernel
theorem dX12_street_44 : decode cX12_street 44 = .ok (.ireturn, 1) := by decide +kernel
theorem dX12_street_45 : decode cX12_street 45 = .ok (.aload_n 0, 1) := by decide +kernel
theorem dX12_street_46 : decode cX12_street 46 = .ok (.invokevirtual 233, 3) := by decide +kernel
theorem dX12_street_49 : decode cX12_street 49 = .ok (.aload_n 0, 1) := by decide +kernel
theorem dX12_street_50 : decode cX12_street 50 = .ok (.dup, 1) := by decide +kernel
theorem dX12_street_51 : decode cX12_street 51 = .ok (.getfield 226, 3) := by decide +kernel
theorem dX12_street_54 : decode cX12_street 54 = .ok (.iconst 1, 1) := by decide +kernel
theorem dX12_street_55 : decode cX12_street 55 = .ok (.iadd, 1) := by decide +kernel
theorem dX12_street_56 : decode cX12_street 56 = .ok (.putfield 226, 3) := by decide +kernel
theorem dX12_street_59 : decode cX12_street 59 = .ok (.iconst 0, 1) := by decide +kernel
theorem dX12_street_60 : decode cX12_street 60 = .ok (.istore 4, 2) := by decide +kernel
theorem dX12_street_62 : decode cX12_street 62 = .ok (.iload 4, 2) := by decide +kernel
theorem dX12_street_64 : decode cX12_street 64 = .ok (.bipush 12, 2) := by decide +kernel
theorem dX12_street_66 : decode cX12_street 66 = .ok (.if_icmp .ge 132, 3) := by decide +kernel
theorem dX12_street_69 : decode cX12_street 69 = .ok (.iconst 0, 1) := by decide +kernel
theorem dX12_street_70 : decode cX12_street 70 = .ok (.istore 5, 2) := by decide +kernel
theorem dX12_street_72 : decode cX12_street 72 = .ok (.iload 5, 2) := by decide +kernel
theorem dX12_street_74 : decode cX12_street 74 = .ok (.bipush 12, 2) := by decide +kernel
theorem dX12_street_76 : decode cX12_street 76 = .ok (.if_icmp .ge 116, 3) := by decide +kernel
theorem dX12_street_79 : decode cX12_street 79 = .ok (.aload_n 0, 1) := by decide +kernel
theorem dX12_street_80 : decode cX12_street 80 = .ok (.getfield 13, 3) := by decide +kernel
theorem dX12_street_83 : decode cX12_street 83 = .ok (.bipush 12, 2) := by decide +kernel
theorem dX12_street_85 : decode cX12_street 85 = .ok (.iload 4, 2) := by decide +kernel
theorem dX12_street_87 : decode cX12_street 87 = .ok (.imul, 1) := by decide +kernel
theorem dX12_street_88 : decode cX12_street 88 = .ok (.iload_n 1, 1) := by decide +kernel
theorem dX12_street_89 : decode cX12_street 89 = .ok (.iadd, 1) := by decide +kernel
theorem dX12_street_90 : decode cX12_street 90 = .ok (.iaload, 1) := by decide +kernel
theorem dX12_street_91 : decode cX12_street 91 = .ok (.iload_n 3, 1) := by decide +kernel
theorem dX12_street_92 : decode cX12_street 92 = .ok (.iadd, 1) := by decide +kernel
theorem dX12_street_93 : decode cX12_street 93 = .ok (.aload_n 0, 1) := by decide +kernel
theorem dX12_street_94 : decode cX12_street 94 = .ok (.getfield 13, 3) := by decide +kernel
theorem dX12_street_97 : decode cX12_street 97 = .ok (.bipush 12, 2) := by decide +kernel
theorem dX12_street_99 : decode cX12_street 99 = .ok (.iload_n 2, 1) := by decide +kernel
theorem dX12_street_100 : decode cX12_street 100 = .ok (.imul, 1) := by decide +kernel
theorem dX12_street_101 : decode cX12_street 101 = .ok (.iload 5, 2) := by decide +kernel
theorem dX12_street_103 : decode cX12_street 103 = .ok (.iadd, 1) := by decide +kernel
theorem dX12_street_104 : decode cX12_street 104 = .ok (.iaload, 1) := by decide +kernel
theorem dX12_street_105 : decode cX12_street 105 = .ok (.iadd, 1) := by decide +kernel
theorem dX12_street_106 : decode cX12_street 106 = .ok (.istore 6, 2) := by decide +kernel
theorem dX12_street_108 : decode cX12_street 108 = .ok (.aload_n 0, 1) := by decide +kernel
theorem dX12_street_109 : decode cX12_street 109 = .ok (.getfield 13, 3) := by decide +kernel
theorem dX12_street_112 : decode cX12_street 112 = .ok (.bipush 12, 2) := by decide +kernel
theorem dX12_street_114 : decode cX12_street 114 = .ok (.iload 4, 2) := by decide +kernel
theorem dX12_street_116 : decode cX12_street 116 = .ok (.imul, 1) := by decide +kernel
theorem dX12_street_117 : decode cX12_street 117 = .ok (.iload_n 2, 1) := by decide +kernel
theorem dX12_street_118 : decode cX12_street 118 = .ok (.iadd, 1) := by decide +kernel
theorem dX12_street_119 : decode cX12_street 119 = .ok (.iaload, 1) := by decide +kernel
theorem dX12_street_120 : decode cX12_street 120 = .ok (.iload_n 3, 1) := by decide +kernel
theorem dX12_street_121 : decode cX12_street 121 = .ok (.iadd, 1) := by decide +kernel
theorem dX12_street_122 : decode cX12_street 122 = .ok (.aload_n 0, 1) := by decide +kernel
theorem dX12_street_123 : decode cX12_street 123 = .ok (.getfield 13, 3) := by decide +kernel
theorem dX12_street_126 : decode cX12_street 126 = .ok (.bipush 12, 2) := by decide +kernel
theorem dX12_street_128 : decode cX12_street 128 = .ok (.iload_n 1, 1) := by decide +kernel
theorem dX12_street_129 : decode cX12_street 129 = .ok (.imul, 1) := by decide +kernel
theorem dX12_street_130 : decode cX12_street 130 = .ok (.iload 5, 2) := by decide +kernel
theorem dX12_street_132 : decode cX12_street 132 = .ok (.iadd, 1) := by decide +kernel
theorem dX12_street_133 : decode cX12_street 133 = .ok (.iaload, 1) := by decide +kernel
theorem dX12_street_134 : decode cX12_street 134 = .ok (.iadd, 1) := by decide +kernel
theorem dX12_street_135 : decode cX12_street 135 = .ok (.istore 7, 2) := by decide +kernel
theorem dX12_street_137 : decode cX12_street 137 = .ok (.iload 6, 2) := by decide +kernel
theorem dX12_street_139 : decode cX12_street 139 = .ok (.iload 7, 2) := by decide +kernel
theorem dX12_street_141 : decode cX12_street 141 = .ok (.if_icmp .ge 8, 3) := by decide +kernel
theorem dX12_street_144 : decode cX12_street 144 = .ok (.iload 6, 2) := by decide +kernel
theorem dX12_street_146 : decode cX12_street 146 = .ok (.goto 5, 3) := by decide +kernel
theorem dX12_street_149 : decode cX12_street 149 = .ok (.iload 7, 2) := by decide +kernel
theorem dX12_street_151 : decode cX12_street 151 = .ok (.istore 8, 2) := by decide +kernel
theorem dX12_street_153 : decode cX12_street 153 = .ok (.iload 8, 2) := by decide +kernel
theorem dX12_street_155 : decode cX12_street 155 = .ok (.aload_n 0, 1) := by decide +kernel
theorem dX12_street_156 : decode cX12_street 156 = .ok (.getfield 13, 3) := by decide +kernel
theorem dX12_street_159 : decode cX12_street 159 = .ok (.bipush 12, 2) := by decide +kernel
theorem dX12_street_161 : decode cX12_street 161 = .ok (.iload 4, 2) := by decide +kernel
theorem dX12_street_163 : decode cX12_street 163 = .ok (.imul, 1) := by decide +kernel
theorem dX12_street_164 : decode cX12_street 164 = .ok (.iload 5, 2) := by decide +kernel
theorem dX12_street_166 : decode cX12_street 166 = .ok (.iadd, 1) := by decide +kernel
theorem dX12_street_167 : decode cX12_street 167 = .ok (.iaload, 1) := by decide +kernel
theorem dX12_street_168 : decode cX12_street 168 = .ok (.if_icmp .ge 18, 3) := by decide +kernel
theorem dX12_street_171 : decode cX12_street 171 = .ok (.aload_n 0, 1) := by decide +kernel
theorem dX12_street_172 : decode cX12_street 172 = .ok (.getfield 13, 3) := by decide +kernel
theorem dX12_street_175 : decode cX12_street 175 = .ok (.bipush 12, 2) := by decide +kernel
theorem dX12_street_177 : decode cX12_street 177 = .ok (.iload 4, 2) := by decide +kernel
theorem dX12_street_179 : decode cX12_street 179 = .ok (.imul, 1) := by decide +kernel
theorem dX12_street_180 : decode cX12_street 180 = .ok (.iload 5, 2) := by decide +kernel
theorem dX12_street_182 : decode cX12_street 182 = .ok (.iadd, 1) := by decide +kernel
theorem dX12_street_183 : decode cX12_street 183 = .ok (.iload 8, 2) := by decide +kernel
theorem dX12_street_185 : decode cX12_street 185 = .ok (.iastore, 1) := by decide +kernel
theorem dX12_street_186 : decode cX12_street 186 = .ok (.iinc 5 1, 3) := by decide +kernel
theorem dX12_street_189 : decode cX12_street 189 = .ok (.goto (-117), 3) := by decide +kernel
theorem dX12_street_192 : decode cX12_street 192 = .ok (.iinc 4 1, 3) := by decide +kernel
theorem dX12_street_195 : decode cX12_street 195 = .ok (.goto (-133), 3) := by decide +kernel
theorem dX12_street_198 : decode cX12_street 198 = .ok (.iconst 1, 1) := by decide +kernel
theorem dX12_street_199 : decode cX12_street 199 = .ok (.ireturn, 1) := by decide +kernel
theorem dX12_take_0 : decode cX12_take 0 = .ok (.aload_n 0, 1) := by decide +kernel
theorem dX12_take_1 : decode cX12_take 1 = .ok (.getfield 207, 3) := by decide +kernel
theorem dX12_take_4 : decode cX12_take 4 = .ok (.istore_n 1, 1) := by decide +kernel
theorem dX12_take_5 : decode cX12_take 5 = .ok (.aload_n 0, 1) := by decide +kernel
theorem dX12_take_6 : decode cX12_take 6 = .ok (.iconst 0, 1) := by decide +kernel
theorem dX12_take_7 : decode cX12_take 7 = .ok (.putfield 207, 3) := by decide +kernel
theorem dX12_take_10 : decode cX12_take 10 = .ok (.iload_n 1, 1) := by decide +kernel
theorem dX12_take_11 : decode cX12_take 11 = .ok (.ireturn, 1) := by decide +kernel
theorem dX12_trip_0 : decode cX12_trip 0 = .ok (.aload_n 0, 1) := by decide +kernel
theorem dX12_trip_1 : decode cX12_trip 1 = .ok (.iconst 0, 1) := by decide +kernel
theorem dX12_trip_2 : decode cX12_trip 2 = .ok (.putfield 204, 3) := by decide +kernel
theorem dX12_trip_5 : decode cX12_trip 5 = .ok (.aload_n 0, 1) := by decide +kernel
theorem dX12_trip_6 : decode cX12_trip 6 = .ok (.getfield 269, 3) := by decide +kernel
theorem dX12_trip_9 : decode cX12_trip 9 = .ok (.bipush 80, 2) := by decide +kernel
theorem dX12_trip_11 : decode cX12_trip 11 = .ok (.if_icmp .eq 84, 3) := by decide +kernel
theorem dX12_trip_14 : decode cX12_trip 14 = .ok (.aload_n 0, 1) := by decide +kernel
theorem dX12_trip_15 : decode cX12_trip 15 = .ok (.iload_n 1, 1) := by decide +kernel
theorem dX12_trip_16 : decode cX12_trip 16 = .ok (.invokevirtual 266, 3) := by decide +kernel
theorem dX12_trip_19 : decode cX12_trip 19 = .ok (.ifCond .eq 76, 3) := by decide +kernel
theorem dX12_trip_22 : decode cX12_trip 22 = .ok (.iload_n 2, 1) := by decide +kernel
theorem dX12_trip_23 : decode cX12_trip 23 = .ok (.iconst 0, 1) := by decide +kernel
theorem dX12_trip_24 : decode cX12_trip 24 = .ok (.aload_n 0, 1) := by decide +kernel
theorem dX12_trip_25 : decode cX12_trip 25 = .ok (.getfield 260, 3) := by decide +kernel
theorem dX12_trip_28 : decode cX12_trip 28 = .ok (.iconst 1, 1) := by decide +kernel
theorem dX12_trip_29 : decode cX12_trip 29 = .ok (.isub, 1) := by decide +kernel
theorem dX12_trip_30 : decode cX12_trip 30 = .ok (.invokestatic 214, 3) := by decide +kernel
theorem dX12_trip_33 : decode cX12_trip 33 = .ok (.ifCond .eq 62, 3) := by decide +kernel
theorem dX12_trip_36 : decode cX12_trip 36 = .ok (.iload_n 3, 1) := by decide +kernel
theorem dX12_trip_37 : decode cX12_trip 37 = .ok (.iconst 0, 1) := by decide +kernel
theorem dX12_trip_38 : decode cX12_trip 38 = .ok (.aload_n 0, 1) := by decide +kernel
theorem dX12_trip_39 : decode cX12_trip 39 = .ok (.getfield 260, 3) := by decide +kernel
theorem dX12_trip_42 : decode cX12_trip 42 = .ok (.iconst 1, 1) := by decide +kernel
theorem dX12_trip_43 : decode cX12_trip 43 = .ok (.isub, 1) := by decide +kernel
theorem dX12_trip_44 : decode cX12_trip 44 = .ok (.invokestatic 214, 3) := by decide +kernel
theorem dX12_trip_47 : decode cX12_trip 47 = .ok (.ifCond .eq 48, 3) := by decide +kernel
theorem dX12_trip_50 : decode cX12_trip 50 = .ok (.iload_n 2, 1) := by decide +kernel
theorem dX12_trip_51 : decode cX12_trip 51 = .ok (.iload_n 3, 1) := by decide +kernel
theorem dX12_trip_52 : decode cX12_trip 52 = .ok (.if_icmp .eq 43, 3) := by decide +kernel
theorem dX12_trip_55 : decode cX12_trip 55 = .ok (.iload 4, 2) := by decide +kernel
theorem dX12_trip_57 : decode cX12_trip 57 = .ok (.iconst 0, 1) := by decide +kernel
theorem dX12_trip_58 : decode cX12_trip 58 = .ok (.sipush 719, 3) := by decide +kernel
theorem dX12_trip_61 : decode cX12_trip 61 = .ok (.invokestatic 214, 3) := by decide +kernel
theorem dX12_trip_64 : decode cX12_trip 64 = .ok (.ifCond .eq 31, 3) := by decide +kernel
theorem dX12_trip_67 : decode cX12_trip 67 = .ok (.iload 5, 2) := by decide +kernel
theorem dX12_trip_69 : decode cX12_trip 69 = .ok (.aload_n 0, 1) := by decide +kernel
theorem dX12_trip_70 : decode cX12_trip 70 = .ok (.getfield 218, 3) := by decide +kernel
theorem dX12_trip_73 : decode cX12_trip 73 = .ok (.sipush 199, 3) := by decide +kernel
theorem dX12_trip_76 : decode cX12_trip 76 = .ok (.invokestatic 214, 3) := by decide +kernel
theorem dX12_trip_79 : decode cX12_trip 79 = .ok (.ifCond .eq 16, 3) := by decide +kernel
theorem dX12_trip_82 : decode cX12_trip 82 = .ok (.iload 6, 2) := by decide +kernel
theorem dX12_trip_84 : decode cX12_trip 84 = .ok (.iload 5, 2) := by decide +kernel
theorem dX12_trip_86 : decode cX12_trip 86 = .ok (.sipush 199, 3) := by decide +kernel
theorem dX12_trip_89 : decode cX12_trip 89 = .ok (.invokestatic 214, 3) := by decide +kernel
theorem dX12_trip_92 : decode cX12_trip 92 = .ok (.ifCond .ne 5, 3) := by decide +kernel
theorem dX12_trip_95 : decode cX12_trip 95 = .ok (.iconst (-1), 1) := by decide +kernel
theorem dX12_trip_96 : decode cX12_trip 96 = .ok (.ireturn, 1) := by decide +kernel
theorem dX12_trip_97 : decode cX12_trip 97 = .ok (.aload_n 0, 1) := by decide +kernel
theorem dX12_trip_98 : decode cX12_trip 98 = .ok (.getfield 67, 3) := by decide +kernel
theorem dX12_trip_101 : decode cX12_trip 101 = .ok (.aload_n 0, 1) := by decide +kernel
theorem dX12_trip_102 : decode cX12_trip 102 = .ok (.getfield 269, 3) := by decide +kernel
theorem dX12_trip_105 : decode cX12_trip 105 = .ok (.iload_n 1, 1) := by decide +kernel
theorem dX12_trip_106 : decode cX12_trip 106 = .ok (.iastore, 1) := by decide +kernel
theorem dX12_trip_107 : decode cX12_trip 107 = .ok (.aload_n 0, 1) := by decide +kernel
theorem dX12_trip_108 : decode cX12_trip 108 = .ok (.getfield 70, 3) := by decide +kernel
theorem dX12_trip_111 : decode cX12_trip 111 = .ok (.aload_n 0, 1) := by decide +kernel
theorem dX12_trip_112 : decode cX12_trip 112 = .ok (.getfield 269, 3) := by decide +kernel
theorem dX12_trip_115 : decode cX12_trip 115 = .ok (.iload_n 2, 1) := by decide +kernel
theorem dX12_trip_116 : decode cX12_trip 116 = .ok (.iastore, 1) := by decide +kernel
theorem dX12_trip_117 : decode cX12_trip 117 = .ok (.aload_n 0, 1) := by decide +kernel
theorem dX12_trip_118 : decode cX12_trip 118 = .ok (.getfield 73, 3) := by decide +kernel
theorem dX12_trip_121 : decode cX12_trip 121 = .ok (.aload_n 0, 1) := by decide +kernel
theorem dX12_trip_122 : decode cX12_trip 122 = .ok (.getfield 269, 3) := by decide +kernel
theorem dX12_trip_125 : decode cX12_trip 125 = .ok (.iload_n 3, 1) := by decide +kernel
theorem dX12_trip_126 : decode cX12_trip 126 = .ok (.iastore, 1) := by decide +kernel
theorem dX12_trip_127 : decode cX12_trip 127 = .ok (.aload_n 0, 1) := by decide +kernel
theorem dX12_trip_128 : decode cX12_trip 128 = .ok (.getfield 76, 3) := by decide +kernel
theorem dX12_trip_131 : decode cX12_trip 131 = .ok (.aload_n 0, 1) := by decide +kernel
theorem dX12_trip_132 : decode cX12_trip 132 = .ok (.getfield 269, 3) := by decide +kernel
theorem dX12_trip_135 : decode cX12_trip 135 = .ok (.iload 4, 2) := by decide +kernel
theorem dX12_trip_137 : decode cX12_trip 137 = .ok (.iastore, 1) := by decide +kernel
theorem dX12_trip_138 : decode cX12_trip 138 = .ok (.aload_n 0, 1) := by decide +kernel
theorem dX12_trip_139 : decode cX12_trip 139 = .ok (.getfield 79, 3) := by decide +kernel
theorem dX12_trip_142 : decode cX12_trip 142 = .ok (.aload_n 0, 1) := by decide +kernel
theorem dX12_trip_143 : decode cX12_trip 143 = .ok (.getfield 269, 3) := by decide +kernel
theorem dX12_trip_146 : decode cX12_trip 146 = .ok (.iload 5, 2) := by decide +kernel
theorem dX12_trip_148 : decode cX12_trip 148 = .ok (.iastore, 1) := by decide +kernel
theorem dX12_trip_149 : decode cX12_trip 149 = .ok (.aload_n 0, 1) := by decide +kernel
theorem dX12_trip_150 : decode cX12_trip 150 = .ok (.getfield 82, 3) := by decide +kernel
theorem dX12_trip_153 : decode cX12_trip 153 = .ok (.aload_n 0, 1) := by decide +kernel
theorem dX12_trip_154 : decode cX12_trip 154 = .ok (.getfield 269, 3) := by decide +kernel
theorem dX12_trip_157 : decode cX12_trip 157 = .ok (.iload 6, 2) := by decide +kernel
theorem dX12_trip_159 : decode cX12_trip 159 = .ok (.iastore, 1) := by decide +kernel
theorem dX12_trip_160 : decode cX12_trip 160 = .ok (.aload_n 0, 1) := by decide +kernel
theorem dX12_trip_161 : decode cX12_trip 161 = .ok (.getfield 85, 3) := by decide +kernel
theorem dX12_trip_164 : decode cX12_trip 164 = .ok (.aload_n 0, 1) := by decide +kernel
theorem dX12_trip_165 : decode cX12_trip 165 = .ok (.getfield 269, 3) := by decide +kernel
theorem dX12_trip_168 : decode cX12_trip 168 = .ok (.aload_n 0, 1) := by decide +kernel
theorem dX12_trip_169 : decode cX12_trip 169 = .ok (.getfield 218, 3) := by decide +kernel
theorem dX12_trip_172 : decode cX12_trip 172 = .ok (.iastore, 1) := by decide +kernel
theorem dX12_trip_173 : decode cX12_trip 173 = .ok (.aload_n 0, 1) := by decide +kernel
theorem dX12_trip_174 : decode cX12_trip 174 = .ok (.getfield 174, 3) := by decide +kernel
theorem dX12_trip_177 : decode cX12_trip 177 = .ok (.aload_n 0, 1) := by decide +kernel
theorem dX12_trip_178 : decode cX12_trip 178 = .ok (.getfield 269, 3) := by decide +kernel
theorem dX12_trip_181 : decode cX12_trip 181 = .ok (.iconst (-1), 1) := by decide +kernel
theorem dX12_trip_182 : decode cX12_trip 182 = .ok (.iastore, 1) := by decide +kernel
theorem dX12_trip_183 : decode cX12_trip 183 = .ok (.aload_n 0, 1) := by decide +kernel
theorem dX12_trip_184 : decode cX12_trip 184 = .ok (.dup, 1) := by decide +kernel
theorem dX12_trip_185 : decode cX12_trip 185 = .ok (.getfield 269, 3) := by decide +kernel
theorem dX12_trip_188 : decode cX12_trip 188 = .ok (.iconst 1, 1) := by decide +kernel
theorem dX12_trip_189 : decode cX12_trip 189 = .ok (.iadd, 1) := by decide +kernel
theorem dX12_trip_190 : decode cX12_trip 190 = .ok (.putfield 269, 3) := by decide +kernel
theorem dX12_trip_193 : decode cX12_trip 193 = .ok (.aload_n 0, 1) := by decide +kernel
theorem dX12_trip_194 : decode cX12_trip 194 = .ok (.getfield 269, 3) := by decide +kernel
theorem dX12_trip_197 : decode cX12_trip 197 = .ok (.iconst 1, 1) := by decide +kernel
theorem dX12_trip_198 : decode cX12_trip 198 = .ok (.isub, 1) := by decide +kernel
theorem dX12_trip_199 : decode cX12_trip 199 = .ok (.ireturn, 1) := by decide +kernel
theorem dX12_two_0 : decode cX12_two 0 = .ok (.sipush 256, 3) := by decide +kernel
theorem dX12_two_3 : decode cX12_two 3 = .ok (.aload_n 0, 1) := by decide +kernel
theorem dX12_two_4 : decode cX12_two 4 = .ok (.getfield 7, 3) := by decide +kernel
theorem dX12_two_7 : decode cX12_two 7 = .ok (.iconst 2, 1) := by decide +kernel
theorem dX12_two_8 : decode cX12_two 8 = .ok (.iload_n 1, 1) := by decide +kernel
theorem dX12_two_9 : decode cX12_two 9 = .ok (.imul, 1) := by decide +kernel
theorem dX12_two_10 : decode cX12_two 10 = .ok (.iaload, 1) := by decide +kernel
theorem dX12_two_11 : decode cX12_two 11 = .ok (.imul, 1) := by decide +kernel
theorem dX12_two_12 : decode cX12_two 12 = .ok (.aload_n 0, 1) := by decide +kernel
theorem dX12_two_13 : decode cX12_two 13 = .ok (.getfield 7, 3) := by decide +kernel
theorem dX12_two_16 : decode cX12_two 16 = .ok (.iconst 2, 1) := by decide +kernel
theorem dX12_two_17 : decode cX12_two 17 = .ok (.iload_n 1, 1) := by decide +kernel
theorem dX12_two_18 : decode cX12_two 18 = .ok (.imul, 1) := by decide +kernel
theorem dX12_two_19 : decode cX12_two 19 = .ok (.iconst 1, 1) := by decide +kernel
theorem dX12_two_20 : decode cX12_two 20 = .ok (.iadd, 1) := by decide +kernel
theorem dX12_two_21 : decode cX12_two 21 = .ok (.iaload, 1) := by decide +kernel
theorem dX12_two_22 : decode cX12_two 22 = .ok (.iadd, 1) := by decide +kernel
theorem dX12_two_23 : decode cX12_two 23 = .ok (.ireturn, 1) := by decide +kernel
theorem dX12_wet_0 : decode cX12_wet 0 = .ok (.aload_n 0, 1) := by decide +kernel
theorem dX12_wet_1 : decode cX12_wet 1 = .ok (.iconst 0, 1) := by decide +kernel
theorem dX12_wet_2 : decode cX12_wet 2 = .ok (.putfield 204, 3) := by decide +kernel
theorem dX12_wet_5 : decode cX12_wet 5 = .ok (.iload_n 1, 1) := by decide +kernel
theorem dX12_wet_6 : decode cX12_wet 6 = .ok (.invokestatic 247, 3) := by decide +kernel
theorem dX12_wet_9 : decode cX12_wet 9 = .ok (.ifCond .eq 11, 3) := by decide +kernel
theorem dX12_wet_12 : decode cX12_wet 12 = .ok (.aload_n 0, 1) := by decide +kernel
theorem dX12_wet_13 : decode cX12_wet 13 = .ok (.iload_n 1, 1) := by decide +kernel
theorem dX12_wet_14 : decode cX12_wet 14 = .ok (.invokevirtual 250, 3) := by decide +kernel
theorem dX12_wet_17 : decode cX12_wet 17 = .ok (.goto 4, 3) := by decide +kernel
theorem dX12_wet_20 : decode cX12_wet 20 = .ok (.iconst (-1), 1) := by decide +kernel
theorem dX12_wet_21 : decode cX12_wet 21 = .ok (.ireturn, 1) := by decide +kernel
theorem dX12_wheel_0 : decode cX12_wheel 0 = .ok (.aload_n 0, 1) := by decide +kernel
theorem dX12_wheel_1 : decode cX12_wheel 1 = .ok (.iconst 0, 1) := by decide +kernel
theorem dX12_wheel_2 : decode cX12_wheel 2 = .ok (.putfield 204, 3) := by decide +kernel
theorem dX12_wheel_5 : decode cX12_wheel 5 = .ok (.aload_n 0, 1) := by decide +kernel
theorem dX12_wheel_6 : decode cX12_wheel 6 = .ok (.getfield 263, 3) := by decide +kernel
theorem dX12_wheel_9 : decode cX12_wheel 9 = .ok (.bipush 20, 2) := by decide +kernel
theorem dX12_wheel_11 : decode cX12_wheel 11 = .ok (.if_icmp .eq 48, 3) := by decide +kernel
theorem dX12_wheel_14 : decode cX12_wheel 14 = .ok (.iload_n 1, 1) := by decide +kernel
theorem dX12_wheel_15 : decode cX12_wheel 15 = .ok (.iconst 0, 1) := by decide +kernel
theorem dX12_wheel_16 : decode cX12_wheel 16 = .ok (.iconst 2, 1) := by decide +kernel
theorem dX12_wheel_17 : decode cX12_wheel 17 = .ok (.invokestatic 214, 3) := by decide +kernel
theorem dX12_wheel_20 : decode cX12_wheel 20 = .ok (.ifCond .eq 39, 3) := by decide +kernel
theorem dX12_wheel_23 : decode cX12_wheel 23 = .ok (.iload_n 2, 1) := by decide +kernel
theorem dX12_wheel_24 : decode cX12_wheel 24 = .ok (.iconst 0, 1) := by decide +kernel
theorem dX12_wheel_25 : decode cX12_wheel 25 = .ok (.aload_n 0, 1) := by decide +kernel
theorem dX12_wheel_26 : decode cX12_wheel 26 = .ok (.getfield 260, 3) := by decide +kernel
theorem dX12_wheel_29 : decode cX12_wheel 29 = .ok (.iconst 1, 1) := by decide +kernel
theorem dX12_wheel_30 : decode cX12_wheel 30 = .ok (.isub, 1) := by decide +kernel
theorem dX12_wheel_31 : decode cX12_wheel 31 = .ok (.invokestatic 214, 3) := by decide +kernel
theorem dX12_wheel_34 : decode cX12_wheel 34 = .ok (.ifCond .eq 25, 3) := by decide +kernel
theorem dX12_wheel_37 : decode cX12_wheel 37 = .ok (.iload_n 3, 1) := by decide +kernel
theorem dX12_wheel_38 : decode cX12_wheel 38 = .ok (.iconst 1, 1) := by decide +kernel
theorem dX12_wheel_39 : decode cX12_wheel 39 = .ok (.bipush 9, 2) := by decide +kernel
theorem dX12_wheel_41 : decode cX12_wheel 41 = .ok (.invokestatic 214, 3) := by decide +kernel
theorem dX12_wheel_44 : decode cX12_wheel 44 = .ok (.ifCond .eq 15, 3) := by decide +kernel
theorem dX12_wheel_47 : decode cX12_wheel 47 = .ok (.iload 4, 2) := by decide +kernel
theorem dX12_wheel_49 : decode cX12_wheel 49 = .ok (.iconst (-1), 1) := by decide +kernel
theorem dX12_wheel_50 : decode cX12_wheel 50 = .ok (.sipush 199, 3) := by decide +kernel
theorem dX12_wheel_53 : decode cX12_wheel 53 = .ok (.invokestatic 214, 3) := by decide +kernel
theorem dX12_wheel_56 : decode cX12_wheel 56 = .ok (.ifCond .ne 5, 3) := by decide +kernel
theorem dX12_wheel_59 : decode cX12_wheel 59 = .ok (.iconst (-1), 1) := by decide +kernel
theorem dX12_wheel_60 : decode cX12_wheel 60 = .ok (.ireturn, 1) := by decide +kernel
theorem dX12_wheel_61 : decode cX12_wheel 61 = .ok (.aload_n 0, 1) := by decide +kernel
theorem dX12_wheel_62 : decode cX12_wheel 62 = .ok (.getfield 52, 3) := by decide +kernel
theorem dX12_wheel_65 : decode cX12_wheel 65 = .ok (.aload_n 0, 1) := by decide +kernel
theorem dX12_wheel_66 : decode cX12_wheel 66 = .ok (.getfield 263, 3) := by decide +kernel
theorem dX12_wheel_69 : decode cX12_wheel 69 = .ok (.iload_n 1, 1) := by decide +kernel
theorem dX12_wheel_70 : decode cX12_wheel 70 = .ok (.iastore, 1) := by decide +kernel
theorem dX12_wheel_71 : decode cX12_wheel 71 = .ok (.aload_n 0, 1) := by decide +kernel
theorem dX12_wheel_72 : decode cX12_wheel 72 = .ok (.getfield 55, 3) := by decide +kernel
theorem dX12_wheel_75 : decode cX12_wheel 75 = .ok (.aload_n 0, 1) := by decide +kernel
theorem dX12_wheel_76 : decode cX12_wheel 76 = .ok (.getfield 263, 3) := by decide +kernel
theorem dX12_wheel_79 : decode cX12_wheel 79 = .ok (.iload_n 2, 1) := by decide +kernel
theorem dX12_wheel_80 : decode cX12_wheel 80 = .ok (.iastore, 1) := by decide +kernel
theorem dX12_wheel_81 : decode cX12_wheel 81 = .ok (.aload_n 0, 1) := by decide +kernel
theorem dX12_wheel_82 : decode cX12_wheel 82 = .ok (.getfield 58, 3) := by decide +kernel
theorem dX12_wheel_85 : decode cX12_wheel 85 = .ok (.aload_n 0, 1) := by decide +kernel
theorem dX12_wheel_86 : decode cX12_wheel 86 = .ok (.getfield 263, 3) := by decide +kernel
theorem dX12_wheel_89 : decode cX12_wheel 89 = .ok (.iload_n 3, 1) := by decide +kernel
theorem dX12_wheel_90 : decode cX12_wheel 90 = .ok (.iastore, 1) := by decide +kernel
theorem dX12_wheel_91 : decode cX12_wheel 91 = .ok (.aload_n 0, 1) := by decide +kernel
theorem dX12_wheel_92 : decode cX12_wheel 92 = .ok (.getfield 61, 3) := by decide +kernel
theorem dX12_wheel_95 : decode cX12_wheel 95 = .ok (.aload_n 0, 1) := by decide +kernel
theorem dX12_wheel_96 : decode cX12_wheel 96 = .ok (.getfield 263, 3) := by decide +kernel
theorem dX12_wheel_99 : decode cX12_wheel 99 = .ok (.iload 4, 2) := by decide +kernel
theorem dX12_wheel_101 : decode cX12_wheel 101 = .ok (.iastore, 1) := by decide +kernel
theorem dX12_wheel_102 : decode cX12_wheel 102 = .ok (.aload_n 0, 1) := by decide +kernel
theorem dX12_wheel_103 : decode cX12_wheel 103 = .ok (.getfield 159, 3) := by decide +kernel
theorem dX12_wheel_106 : decode cX12_wheel 106 = .ok (.aload_n 0, 1) := by decide +kernel
theorem dX12_wheel_107 : decode cX12_wheel 107 = .ok (.getfield 263, 3) := by decide +kernel
theorem dX12_wheel_110 : decode cX12_wheel 110 = .ok (.iload_n 2, 1) := by decide +kernel
theorem dX12_wheel_111 : decode cX12_wheel 111 = .ok (.iastore, 1) := by decide +kernel
theorem dX12_wheel_112 : decode cX12_wheel 112 = .ok (.aload_n 0, 1) := by decide +kernel
theorem dX12_wheel_113 : decode cX12_wheel 113 = .ok (.dup, 1) := by decide +kernel
theorem dX12_wheel_114 : decode cX12_wheel 114 = .ok (.getfield 263, 3) := by decide +kernel
theorem dX12_wheel_117 : decode cX12_wheel 117 = .ok (.iconst 1, 1) := by decide +kernel
theorem dX12_wheel_118 : decode cX12_wheel 118 = .ok (.iadd, 1) := by decide +kernel
theorem dX12_wheel_119 : decode cX12_wheel 119 = .ok (.putfield 263, 3) := by decide +kernel
theorem dX12_wheel_122 : decode cX12_wheel 122 = .ok (.aload_n 0, 1) := by decide +kernel
theorem dX12_wheel_123 : decode cX12_wheel 123 = .ok (.getfield 263, 3) := by decide +kernel
theorem dX12_wheel_126 : decode cX12_wheel 126 = .ok (.iconst 1, 1) := by decide +kernel
theorem dX12_wheel_127 : decode cX12_wheel 127 = .ok (.isub, 1) := by decide +kernel
theorem dX12_wheel_128 : decode cX12_wheel 128 = .ok (.ireturn, 1) := by decide +kernel
theorem dX12_wheeled_0 : decode cX12_wheeled 0 = .ok (.aload_n 0, 1) := by decide +kernel
theorem dX12_wheeled_1 : decode cX12_wheeled 1 = .ok (.iconst 0, 1) := by decide +kernel
theorem dX12_wheeled_2 : decode cX12_wheeled 2 = .ok (.putfield 204, 3) := by decide +kernel
theorem dX12_wheeled_5 : decode cX12_wheeled 5 = .ok (.aload_n 0, 1) := by decide +kernel
theorem dX12_wheeled_6 : decode cX12_wheeled 6 = .ok (.iload_n 1, 1) := by decide +kernel
theorem dX12_wheeled_7 : decode cX12_wheeled 7 = .ok (.invokevirtual 266, 3) := by decide +kernel
theorem dX12_wheeled_10 : decode cX12_wheeled 10 = .ok (.ifCond .ne 5, 3) := by decide +kernel
theorem dX12_wheeled_13 : decode cX12_wheeled 13 = .ok (.iconst (-1), 1) := by decide +kernel
theorem dX12_wheeled_14 : decode cX12_wheeled 14 = .ok (.ireturn, 1) := by decide +kernel
theorem dX12_wheeled_15 : decode cX12_wheeled 15 = .ok (.iload_n 2, 1) := by decide +kernel
theorem dX12_wheeled_16 : decode cX12_wheeled 16 = .ok (.tableswitch 60 0 3 #[32, 39, 46, 53], 32) := by decide +kernel
theorem dX12_wheeled_48 : decode cX12_wheeled 48 = .ok (.aload_n 0, 1) := by decide +kernel
theorem dX12_wheeled_49 : decode cX12_wheeled 49 = .ok (.getfield 165, 3) := by decide +kernel
theorem dX12_wheeled_52 : decode cX12_wheeled 52 = .ok (.iload_n 1, 1) := by decide +kernel
theorem dX12_wheeled_53 : decode cX12_wheeled 53 = .ok (.iaload, 1) := by decide +kernel
theorem dX12_wheeled_54 : decode cX12_wheeled 54 = .ok (.ireturn, 1) := by decide +kernel
theorem dX12_wheeled_55 : decode cX12_wheeled 55 = .ok (.aload_n 0, 1) := by decide +kernel
theorem dX12_wheeled_56 : decode cX12_wheeled 56 = .ok (.getfield 168, 3) := by decide +kernel
theorem dX12_wheeled_59 : decode cX12_wheeled 59 = .ok (.iload_n 1, 1) := by decide +kernel
theorem dX12_wheeled_60 : decode cX12_wheeled 60 = .ok (.iaload, 1) := by decide +kernel
theorem dX12_wheeled_61 : decode cX12_wheeled 61 = .ok (.ireturn, 1) := by decide +kernel
theorem dX12_wheeled_62 : decode cX12_wheeled 62 = .ok (.aload_n 0, 1) := by decide +kernel
theorem dX12_wheeled_63 : decode cX12_wheeled 63 = .ok (.getfield 64, 3) := by decide +kernel
theorem dX12_wheeled_66 : decode cX12_wheeled 66 = .ok (.iload_n 1, 1) := by decide +kernel
theorem dX12_wheeled_67 : decode cX12_wheeled 67 = .ok (.iaload, 1) := by decide +kernel
theorem dX12_wheeled_68 : decode cX12_wheeled 68 = .ok (.ireturn, 1) := by decide +kernel
theorem dX12_wheeled_69 : decode cX12_wheeled 69 = .ok (.aload_n 0, 1) := by decide +kernel
theorem dX12_wheeled_70 : decode cX12_wheeled 70 = .ok (.getfield 159, 3) := by decide +kernel
theorem dX12_wheeled_73 : decode cX12_wheeled 73 = .ok (.iload_n 1, 1) := by decide +kernel
theorem dX12_wheeled_74 : decode cX12_wheeled 74 = .ok (.iaload, 1) := by decide +kernel
theorem dX12_wheeled_75 : decode cX12_wheeled 75 = .ok (.ireturn, 1) := by decide +kernel
theorem dX12_wheeled_76 : decode cX12_wheeled 76 = .ok (.iconst (-1), 1) := by decide +kernel
theorem dX12_wheeled_77 : decode cX12_wheeled 77 = .ok (.ireturn, 1) := by decide +kernel
theorem dX12_why_0 : decode cX12_why 0 = .ok (.aload_n 0, 1) := by decide +kernel
theorem dX12_why_1 : decode cX12_why 1 = .ok (.iconst 0, 1) := by decide +kernel
theorem dX12_why_2 : decode cX12_why 2 = .ok (.putfield 204, 3) := by decide +kernel
theorem dX12_why_5 : decode cX12_why 5 = .ok (.aload_n 0, 1) := by decide +kernel
theorem dX12_why_6 : decode cX12_why 6 = .ok (.getfield 132, 3) := by decide +kernel
theorem dX12_why_9 : decode cX12_why 9 = .ok (.ireturn, 1) := by decide +kernel
theorem iv_sw_0_4 (x : Int32) : x.toInt < 0 ∨ 3 < x.toInt ∨ x = 0 ∨ x = 1 ∨ x = 2 ∨ x = 3 := by
  have e : ∀ n : Int32, x = n ↔ x.toInt = n.toInt := fun n => ⟨fun q => by rw [q], fun q => Int32.toInt_inj.mp q⟩
  simp only [e]
  have z : (0 : Int32).toInt = 0 ∧ (1 : Int32).toInt = 1 ∧ (2 : Int32).toInt = 2 ∧ (3 : Int32).toInt = 3 := by decide
  omega
theorem iv_sw_0_6 (x : Int32) : x.toInt < 0 ∨ 5 < x.toInt ∨ x = 0 ∨ x = 1 ∨ x = 2 ∨ x = 3 ∨ x = 4 ∨ x = 5 := by
  have e : ∀ n : Int32, x = n ↔ x.toInt = n.toInt := fun n => ⟨fun q => by rw [q], fun q => Int32.toInt_inj.mp q⟩
  simp only [e]
  have z : (0 : Int32).toInt = 0 ∧ (1 : Int32).toInt = 1 ∧ (2 : Int32).toInt = 2 ∧ (3 : Int32).toInt = 3 ∧ (4 : Int32).toInt = 4 ∧ (5 : Int32).toInt = 5 := by decide
  omega
theorem iv_sw_0_8 (x : Int32) : x.toInt < 0 ∨ 7 < x.toInt ∨ x = 0 ∨ x = 1 ∨ x = 2 ∨ x = 3 ∨ x = 4 ∨ x = 5 ∨ x = 6 ∨ x = 7 := by
  have e : ∀ n : Int32, x = n ↔ x.toInt = n.toInt := fun n => ⟨fun q => by rw [q], fun q => Int32.toInt_inj.mp q⟩
  simp only [e]
  have z : (0 : Int32).toInt = 0 ∧ (1 : Int32).toInt = 1 ∧ (2 : Int32).toInt = 2 ∧ (3 : Int32).toInt = 3 ∧ (4 : Int32).toInt = 4 ∧ (5 : Int32).toInt = 5 ∧ (6 : Int32).toInt = 6 ∧ (7 : Int32).toInt = 7 := by decide
  omega
set_option maxHeartbeats 4000000 in
set_option maxRecDepth 100000 in
theorem m_refuse (l : Launch) (dC : Nat → ClassId) (dI : Nat → Nat → Nat) (sz h : Nat) (ad : Nat → Nat) (cA : Nat → ClassId) (hd : dM h ad) (fv : Nat → Int32) (wd : Int64) (ar : Nat → Nat → Int32) (hF_fv : rF fv) (hA_ar : rA ar) : Met l yX12_refuse (.code yX12_refuse cX12_refuse 1 (some .int) :: lw_good) ({ frames := 2, cells := 0, slots := 0, locals := 40 }) (va_Pc [.ref h] (prM dC dI h ad cA fv wd ar sz)) (va_Qi (fun (r : Int32) (u : mS) => rF u.1 ∧ rA u.2.2 ∧ fM [0] fv u.1 ∧ fA [] ar u.2.2 ∧ True) (enM dC dI h ad cA) (aM h ad sz)) 0 0 (aM h ad sz) := by
  refine Met.ofW (cc := cX12_refuse) (maxL := 1) (ret := (some .int)) (by decide) rfl ?_
  intro p e s m args below meth c s₁ B hml hv
  obtain ⟨rfl, hsz, hP, hK⟩ := hv
  have hx := B.exec
  have hb := B.bytes
  have hr := B.returns
  have hts := atoms_spec (ws := (.code yX12_refuse cX12_refuse 1 (some .int) :: lw_good)) B.pre
  have htg : ∀ w ∈ lw_good, w.before _ s = true := fun w hw => hts w (List.mem_cons_of_mem _ hw)
  have hown : s.vm.findClass RX12 = some m.cls := findClass_of_methodNamed B.named
  have hlocks := B.notSynchronized
  subst hsz
  have hS : va_S (aM h ad s.heap.size) s.heap s.heap [] := va_S.rf
  have hl := lv_entry ([.ref h]) (n := 1) (Nat.le_of_ble_eq_true rfl)
  rw [lg_entry_eq]
  generalize (lg_sl ([.ref h]) ++ List.replicate (1 - (lg_sl ([.ref h])).length) Slot.unset).toArray = ls at hl ⊢
  have hl : lv_has ls 1 [(0, .ref h)] := hl
  refine lv_aload_n hx hb dX12_refuse_0 rfl (lv_at hl 0 rfl) ?_
  refine lv_iconst (v := 1) hx hb dX12_refuse_1 (by decide) ?_
  refine pM_0 hx hb htg hown hK hP hS hd dX12_refuse_2 (fun H locs fv_1 efv_1 hP hS => ?_)
  have hF_fv_1 : rF fv_1 := rF_put hF_fv efv_1 (iv_any _)
  refine lv_iconst (v := 0) hx hb dX12_refuse_5 (by decide) ?_
  exact W.iret (v := 0) hx hb hr (fun t ht hW => ⟨⟨0, (fv_1, wd, ar), rfl, ⟨hF_fv_1, hA_ar, (fM_put (fM_rf [0] _) efv_1 (by decide)), (fA_rf [] _), trivial⟩, ⟨by rw [ht]; exact hP, va_K.moved hW.alike hK⟩⟩, hS.F ht⟩) hS.2.2 dX12_refuse_6
set_option maxHeartbeats 4000000 in
set_option maxRecDepth 100000 in
theorem m_come (l : Launch) (dC : Nat → ClassId) (dI : Nat → Nat → Nat) (sz h : Nat) (ad : Nat → Nat) (cA : Nat → ClassId) (hd : dM h ad) (fv : Nat → Int32) (wd : Int64) (ar : Nat → Nat → Int32) (hF_fv : rF fv) (hA_ar : rA ar) (a : Int32) (ht : (fv 2).toInt ≤ 336) : Met l yX12_come (.code yX12_come cX12_come 3 none :: lw_good) ({ frames := 2, cells := 0, slots := 0, locals := 40 }) (va_Pc [.ref h, .int a] (prM dC dI h ad cA fv wd ar sz)) (va_Qv (fun (u : mS) => rF u.1 ∧ rA u.2.2 ∧ fM [2] fv u.1 ∧ fA [1] ar u.2.2 ∧ ((u.1 2).toInt = (fv 2).toInt + 4) ∧ True) (enM dC dI h ad cA) (aM h ad sz)) 0 0 (aM h ad sz) := by
  refine Met.ofW (cc := cX12_come) (maxL := 3) (ret := none) (by decide) rfl ?_
  intro p e s m args below meth c s₁ B hml hv
  obtain ⟨rfl, hsz, hP, hK⟩ := hv
  have hx := B.exec
  have hb := B.bytes
  have hr := B.returns
  have hts := atoms_spec (ws := (.code yX12_come cX12_come 3 none :: lw_good)) B.pre
  have htg : ∀ w ∈ lw_good, w.before _ s = true := fun w hw => hts w (List.mem_cons_of_mem _ hw)
  have hown : s.vm.findClass RX12 = some m.cls := findClass_of_methodNamed B.named
  have hlocks := B.notSynchronized
  subst hsz
  have hS : va_S (aM h ad s.heap.size) s.heap s.heap [] := va_S.rf
  have hl := lv_entry ([.ref h, .int a]) (n := 3) (Nat.le_of_ble_eq_true rfl)
  rw [lg_entry_eq]
  generalize (lg_sl ([.ref h, .int a]) ++ List.replicate (3 - (lg_sl ([.ref h, .int a])).length) Slot.unset).toArray = ls at hl ⊢
  have hl : lv_has ls 3 [(0, .ref h), (1, .int a)] := hl
  refine lv_bipush (v := 24) hx hb dX12_come_0 (by decide) ?_
  refine lv_istore_n (lv' := [(2, .int 24), (0, .ref h), (1, .int a)]) hx hb dX12_come_2 rfl hl (by decide) rfl (fun ls hl => ?_)
  refine my_cut (P := fun R9 a9 Q9 => ∀ (n_7 : Nat) (x_1 : Int32) (fv_2 : Nat → Int32) (ar_4 : Nat → Nat → Int32) (H : Heap) (locs : List Loc) (ls : Array Slot), x_1.toInt - (-8) < (n_7 : Int) → ((-8) ≤ x_1.toInt ∧ x_1.toInt ≤ 24) → rF fv_2 → fM [2] fv fv_2 → rA ar_4 → fA [1] ar ar_4 → (8 * (fv_2 2).toInt + x_1.toInt = 8 * (fv 2).toInt + 24) → va_P (dC, dI) vwCl (wsM h ad cA fv_2 wd ar_4) H → va_S (aM h ad s.heap.size) s.heap H locs → lv_has ls 3 [(0, .ref h), (1, .int a), (2, .int x_1)] → W p l e R9 s m a9 below meth c H locs 0 0 Q9 (F0 m 3 ls [])) ?_ (fun hj_9 => ?_)
  · intro n_7
    induction n_7 with
    | zero => intro x_1 fv_2 ar_4 H locs ls fu_8 i_x_1 hF_fv_2 fr_3 hA_ar_4 fa_5 q_6; exfalso; omega
    | succ n_7 ih_7 =>
      intro x_1 fv_2 ar_4 H locs ls fu_8 i_x_1 hF_fv_2 fr_3 hA_ar_4 fa_5 q_6 hP hS hl
      refine lv_iload_n hx hb dX12_come_3 rfl (lv_at hl 2 rfl) ?_
      refine lv_if_lt (tgt := 39) hx hb dX12_come_4 (by decide) (fun c_10 => ?_) (fun c_10 => ?_)
      · skip
        have i_11 : (-8) ≤ x_1.toInt ∧ x_1.toInt ≤ (-1) := iv_lt1 i_x_1 (⟨by decide, by decide⟩ : (0 : Int) ≤ (0 : Int32).toInt ∧ (0 : Int32).toInt ≤ 0) c_10
        have z_12 : 0 ≤ (fv_2 2).toInt ∧ (fv_2 2).toInt ≤ 340 := hF_fv_2 2
        exact W.vret hx hb hr (fun t ht hW => ⟨⟨(fv_2, wd, ar_4), rfl, ⟨hF_fv_2, hA_ar_4, (fM_call (fM_rf [2] _) fr_3 (by decide)), (fA_call (fA_rf [1] _) fa_5 (by decide)), (show (fv_2 2).toInt = (fv 2).toInt + 4 from by omega), trivial⟩, ⟨by rw [ht]; exact hP, va_K.moved hW.alike hK⟩⟩, hS.F ht⟩) hS.2.2 dX12_come_39
      · skip
        have i_13 : 0 ≤ x_1.toInt ∧ x_1.toInt ≤ 24 := iv_le2 (⟨by decide, by decide⟩ : (0 : Int) ≤ (0 : Int32).toInt ∧ (0 : Int32).toInt ≤ 0) i_x_1 (Int32.not_lt.mp c_10)
        refine lv_aload_n hx hb dX12_come_7 rfl (lv_at hl 0 rfl) ?_
        refine gM_1 hx hb htg hown hK hP dX12_come_8 ?_
        refine lv_aload_n hx hb dX12_come_11 rfl (lv_at hl 0 rfl) ?_
        refine gM_2 hx hb htg hown hK hP dX12_come_12 ?_
        have i_14 : 0 ≤ (fv_2 2).toInt ∧ (fv_2 2).toInt ≤ 340 := hF_fv_2 2
        refine lv_iload_n hx hb dX12_come_15 rfl (lv_at hl 1 rfl) ?_
        refine lv_iload_n hx hb dX12_come_16 rfl (lv_at hl 2 rfl) ?_
        refine lv_iushr hx hb dX12_come_17 rfl ?_
        refine lv_topi (fun v_15 ev_15 => ?_)
        refine lv_sipush (v := 255) hx hb dX12_come_18 (by decide) ?_
        refine lv_iand hx hb dX12_come_21 ?_
        refine lv_topi (fun v_16 ev_16 => ?_)
        have i_17 : 0 ≤ v_16.toInt ∧ v_16.toInt ≤ 255 := iv_and ev_16
        refine sM_1 hx hb hK hP hS hd (vp_in_iff.mpr (by omega)) dX12_come_22 (fun H locs ar_18 ear_18 hP hS => ?_)
        have hA_ar_18 : rA ar_18 := rA_put hA_ar_4 ear_18 i_17
        refine lv_aload_n hx hb dX12_come_23 rfl (lv_at hl 0 rfl) ?_
        refine lv_dup hx hb dX12_come_24 rfl ?_
        refine gM_2 hx hb htg hown hK hP dX12_come_25 ?_
        refine lv_iconst (v := 1) hx hb dX12_come_28 (by decide) ?_
        refine lv_iadd hx hb dX12_come_29 ?_
        refine lv_topi (fun v_19 ev_19 => ?_)
        have t_20 : v_19.toInt = (fv_2 2).toInt + 1 ∧ 1 ≤ v_19.toInt ∧ v_19.toInt ≤ 341 := iv_addc ev_19 i_14 (by decide) (by decide) (by decide)
        have i_22 : 0 ≤ v_19.toInt ∧ v_19.toInt ≤ 340 := (by omega)
        refine pM_2 hx hb htg hown hK hP hS hd dX12_come_30 (fun H locs fv_23 efv_23 hP hS => ?_)
        have hF_fv_23 : rF fv_23 := rF_put hF_fv_2 efv_23 i_22
        obtain ⟨v_24, ev_24⟩ : ∃ z : Int32, z = x_1 + (-8) := ⟨_, rfl⟩
        refine lv_iinc (v := v_24) (lv' := [(2, .int v_24), (0, .ref h), (1, .int a)]) hx hb dX12_come_33 hl (k := 2) rfl (by rw [ev_24]; rfl) (by decide) rfl (fun ls hl => ?_)
        have t_25 : v_24.toInt = x_1.toInt + (-8) ∧ (-8) ≤ v_24.toInt ∧ v_24.toInt ≤ 16 := iv_addc ev_24 i_13 (by decide) (by decide) (by decide)
        refine lv_goto (tgt := 3) hx hb dX12_come_36 (by decide) ?_
        have z_27 : (fv_23 2).toInt = v_19.toInt := congrArg Int32.toInt ((congrFun efv_23 2))
        have z_28 : 0 ≤ (fv_23 2).toInt ∧ (fv_23 2).toInt ≤ 340 := hF_fv_23 2
        exact ih_7 v_24 fv_23 ar_18 _ _ ls (by omega) (iv_w t_25.2 (by decide) (by decide)) hF_fv_23 (fM_put (fM_call (fM_rf [2] _) fr_3 (by decide)) efv_23 (by decide)) hA_ar_18 (fA_put (fA_call (fA_rf [1] _) fa_5 (by decide)) ear_18 (by decide)) (by omega) hP hS (lv_sub hl [1, 2, 0] rfl)
  · skip
    have z_29 : (24 : Int32).toInt = 24 := by decide
    have z_30 : 0 ≤ (fv 2).toInt ∧ (fv 2).toInt ≤ 340 := hF_fv 2
    exact hj_9 33 24 fv ar _ _ ls (by first | decide | omega) (iv_w (⟨by decide, by decide⟩ : (24 : Int) ≤ (24 : Int32).toInt ∧ (24 : Int32).toInt ≤ 24) (by decide) (by decide)) hF_fv (fM_rf [2] _) hA_ar (fA_rf [1] _) (by omega) hP hS (lv_sub hl [1, 2, 0] rfl)
set_option maxHeartbeats 4000000 in
set_option maxRecDepth 100000 in
theorem m_begin (l : Launch) (dC : Nat → ClassId) (dI : Nat → Nat → Nat) (sz h : Nat) (ad : Nat → Nat) (cA : Nat → ClassId) (hd : dM h ad) (fv : Nat → Int32) (wd : Int64) (ar : Nat → Nat → Int32) (hF_fv : rF fv) (hA_ar : rA ar) : Met l yX12_begin (.code yX12_begin cX12_begin 2 none :: lw_good) ({ frames := 2, cells := 0, slots := 0, locals := 40 }) (va_Pc [.ref h] (prM dC dI h ad cA fv wd ar sz)) (va_Qv (fun (u : mS) => rF u.1 ∧ rA u.2.2 ∧ fM [8] fv u.1 ∧ fA [4] ar u.2.2 ∧ True) (enM dC dI h ad cA) (aM h ad sz)) 0 0 (aM h ad sz) := by
  refine Met.ofW (cc := cX12_begin) (maxL := 2) (ret := none) (by decide) rfl ?_
  intro p e s m args below meth c s₁ B hml hv
  obtain ⟨rfl, hsz, hP, hK⟩ := hv
  have hx := B.exec
  have hb := B.bytes
  have hr := B.returns
  have hts := atoms_spec (ws := (.code yX12_begin cX12_begin 2 none :: lw_good)) B.pre
  have htg : ∀ w ∈ lw_good, w.before _ s = true := fun w hw => hts w (List.mem_cons_of_mem _ hw)
  have hown : s.vm.findClass RX12 = some m.cls := findClass_of_methodNamed B.named
  have hlocks := B.notSynchronized
  subst hsz
  have hS : va_S (aM h ad s.heap.size) s.heap s.heap [] := va_S.rf
  have hl := lv_entry ([.ref h]) (n := 2) (Nat.le_of_ble_eq_true rfl)
  rw [lg_entry_eq]
  generalize (lg_sl ([.ref h]) ++ List.replicate (2 - (lg_sl ([.ref h])).length) Slot.unset).toArray = ls at hl ⊢
  have hl : lv_has ls 2 [(0, .ref h)] := hl
  refine lv_aload_n hx hb dX12_begin_0 rfl (lv_at hl 0 rfl) ?_
  refine gM_8 hx hb htg hown hK hP dX12_begin_1 ?_
  have i_1 : 0 ≤ (fv 8).toInt ∧ (fv 8).toInt ≤ 1 := hF_fv 8
  refine lv_if_eq (tgt := 8) hx hb dX12_begin_4 (by decide) (fun c_2 => ?_) (fun c_2 => ?_)
  · skip
    have i_3 : 0 ≤ (fv 8).toInt ∧ (fv 8).toInt ≤ 0 := iv_eq1 (⟨by decide, by decide⟩ : (0 : Int) ≤ (0 : Int32).toInt ∧ (0 : Int32).toInt ≤ 0) c_2
    refine lv_aload_n hx hb dX12_begin_8 rfl (lv_at hl 0 rfl) ?_
    refine lv_iconst (v := 1) hx hb dX12_begin_9 (by decide) ?_
    refine pM_8 hx hb htg hown hK hP hS hd (by decide) (by decide) dX12_begin_10 (fun H locs fv_4 efv_4 hP hS => ?_)
    have hF_fv_4 : rF fv_4 := rF_put hF_fv efv_4 (iv_w (⟨by decide, by decide⟩ : (1 : Int) ≤ (1 : Int32).toInt ∧ (1 : Int32).toInt ≤ 1) (by decide) (by decide))
    refine lv_iconst (v := 0) hx hb dX12_begin_13 (by decide) ?_
    refine lv_istore_n (lv' := [(1, .int 0), (0, .ref h)]) hx hb dX12_begin_14 rfl hl (by decide) rfl (fun ls hl => ?_)
    refine my_cut (P := fun R9 a9 Q9 => ∀ (n_8 : Nat) (x_5 : Int32) (ar_6 : Nat → Nat → Int32) (H : Heap) (locs : List Loc) (ls : Array Slot), 144 - x_5.toInt < (n_8 : Int) → (0 ≤ x_5.toInt ∧ x_5.toInt ≤ 144) → rA ar_6 → fA [4] ar ar_6 → va_P (dC, dI) vwCl (wsM h ad cA fv_4 wd ar_6) H → va_S (aM h ad s.heap.size) s.heap H locs → lv_has ls 2 [(0, .ref h), (1, .int x_5)] → W p l e R9 s m a9 below meth c H locs 0 0 Q9 (F0 m 15 ls [])) ?_ (fun hj_10 => ?_)
    · intro n_8
      induction n_8 with
      | zero => intro x_5 ar_6 H locs ls fu_9 i_x_5 hA_ar_6 fa_7; exfalso; omega
      | succ n_8 ih_8 =>
        intro x_5 ar_6 H locs ls fu_9 i_x_5 hA_ar_6 fa_7 hP hS hl
        refine lv_iload_n hx hb dX12_begin_15 rfl (lv_at hl 1 rfl) ?_
        refine lv_sipush (v := 144) hx hb dX12_begin_16 (by decide) ?_
        refine lv_icmp_ge (tgt := 47) hx hb dX12_begin_19 (by decide) (fun c_11 => ?_) (fun c_11 => ?_)
        · skip
          have i_12 : 144 ≤ x_5.toInt ∧ x_5.toInt ≤ 144 := iv_le2 (⟨by decide, by decide⟩ : (144 : Int) ≤ (144 : Int32).toInt ∧ (144 : Int32).toInt ≤ 144) i_x_5 c_11
          exact W.vret hx hb hr (fun t ht hW => ⟨⟨(fv_4, wd, ar_6), rfl, ⟨hF_fv_4, hA_ar_6, (fM_put (fM_rf [8] _) efv_4 (by decide)), (fA_call (fA_rf [4] _) fa_7 (by decide)), trivial⟩, ⟨by rw [ht]; exact hP, va_K.moved hW.alike hK⟩⟩, hS.F ht⟩) hS.2.2 dX12_begin_47
        · skip
          have i_13 : 0 ≤ x_5.toInt ∧ x_5.toInt ≤ 143 := iv_lt1 i_x_5 (⟨by decide, by decide⟩ : (144 : Int) ≤ (144 : Int32).toInt ∧ (144 : Int32).toInt ≤ 144) (Int32.not_le.mp c_11)
          refine lv_aload_n hx hb dX12_begin_22 rfl (lv_at hl 0 rfl) ?_
          refine gM_4 hx hb htg hown hK hP dX12_begin_23 ?_
          refine lv_iload_n hx hb dX12_begin_26 rfl (lv_at hl 1 rfl) ?_
          refine lv_iload_n hx hb dX12_begin_27 rfl (lv_at hl 1 rfl) ?_
          refine lv_bipush (v := 13) hx hb dX12_begin_28 (by decide) ?_
          refine lv_irem hx hb dX12_begin_30 (by decide) ?_
          refine lv_topi (fun v_14 ev_14 => ?_)
          refine my_cut (P := fun R9 a9 Q9 => ∀ (x_17 : Int32) (H : Heap) (locs : List Loc) (ls : Array Slot), (0 ≤ x_17.toInt ∧ x_17.toInt ≤ 100000) → va_P (dC, dI) vwCl (wsM h ad cA fv_4 wd ar_6) H → va_S (aM h ad s.heap.size) s.heap H locs → lv_has ls 2 [(0, .ref h), (1, .int x_5)] → W p l e R9 s m a9 below meth c H locs 0 0 Q9 (F0 m 40 ls [.int x_17, .int x_5, .ref (ad 4)])) ?_ (fun hj_18 => ?_)
          · intro x_17 H locs ls i_x_17 hP hS hl
            refine sM_4 hx hb hK hP hS hd (iv_in i_13 (by decide) (by decide)) dX12_begin_40 (fun H locs ar_19 ear_19 hP hS => ?_)
            have hA_ar_19 : rA ar_19 := rA_put hA_ar_6 ear_19 (iv_any _)
            obtain ⟨v_20, ev_20⟩ : ∃ z : Int32, z = x_5 + 1 := ⟨_, rfl⟩
            refine lv_iinc (v := v_20) (lv' := [(1, .int v_20), (0, .ref h)]) hx hb dX12_begin_41 hl (k := 1) rfl (by rw [ev_20]; rfl) (by decide) rfl (fun ls hl => ?_)
            have t_21 : v_20.toInt = x_5.toInt + 1 ∧ 1 ≤ v_20.toInt ∧ v_20.toInt ≤ 144 := iv_addc ev_20 i_13 (by decide) (by decide) (by decide)
            refine lv_goto (tgt := 15) hx hb dX12_begin_44 (by decide) ?_
            exact ih_8 v_20 ar_19 _ _ ls (by omega) (iv_w t_21.2 (by decide) (by decide)) hA_ar_19 (fA_put (fA_call (fA_rf [4] _) fa_7 (by decide)) ear_19 (by decide)) hP hS (lv_sub hl [1, 0] rfl)
          · skip
            refine lv_if_ne (tgt := 38) hx hb dX12_begin_31 (by decide) (fun c_15 => ?_) (fun c_15 => ?_)
            · skip
              refine lv_ldc hx hb hown (htg (.constant RX12 225 100000) kw_7_232) dX12_begin_38 ?_
              exact hj_18 100000 _ _ ls (iv_w (⟨by decide, by decide⟩ : (100000 : Int) ≤ (100000 : Int32).toInt ∧ (100000 : Int32).toInt ≤ 100000) (by decide) (by decide)) hP hS (lv_sub hl [0, 1] rfl)
            · skip
              have i_16 : 0 ≤ v_14.toInt ∧ v_14.toInt ≤ 0 := iv_eq1 (⟨by decide, by decide⟩ : (0 : Int) ≤ (0 : Int32).toInt ∧ (0 : Int32).toInt ≤ 0) c_15
              refine lv_iconst (v := 0) hx hb dX12_begin_34 (by decide) ?_
              refine lv_goto (tgt := 40) hx hb dX12_begin_35 (by decide) ?_
              exact hj_18 0 _ _ ls (iv_w (⟨by decide, by decide⟩ : (0 : Int) ≤ (0 : Int32).toInt ∧ (0 : Int32).toInt ≤ 0) (by decide) (by decide)) hP hS (lv_sub hl [0, 1] rfl)
    · skip
      have z_23 : (0 : Int32).toInt = 0 := by decide
      exact hj_10 145 0 ar _ _ ls (by first | decide | omega) (iv_w (⟨by decide, by decide⟩ : (0 : Int) ≤ (0 : Int32).toInt ∧ (0 : Int32).toInt ≤ 0) (by decide) (by decide)) hA_ar (fA_rf [4] _) hP hS (lv_sub hl [1, 0] rfl)
  · skip
    have i_24 : 1 ≤ (fv 8).toInt ∧ (fv 8).toInt ≤ 1 := iv_nel i_1 (by decide) c_2
    exact W.vret hx hb hr (fun t ht hW => ⟨⟨(fv, wd, ar), rfl, ⟨hF_fv, hA_ar, (fM_rf [8] _), (fA_rf [4] _), trivial⟩, ⟨by rw [ht]; exact hP, va_K.moved hW.alike hK⟩⟩, hS.F ht⟩) hS.2.2 dX12_begin_7
set_option maxHeartbeats 4000000 in
set_option maxRecDepth 100000 in
theorem m_farOf (l : Launch) (dC : Nat → ClassId) (dI : Nat → Nat → Nat) (sz h : Nat) (ad : Nat → Nat) (cA : Nat → ClassId) (hd : dM h ad) (fv : Nat → Int32) (wd : Int64) (ar : Nat → Nat → Int32) (hF_fv : rF fv) (hA_ar : rA ar) (a : Int32) (b : Int32) (h_a : 0 ≤ a.toInt ∧ a.toInt ≤ 11) (h_b : 0 ≤ b.toInt ∧ b.toInt ≤ 11) : Met l yX12_farOf (.code yX12_farOf cX12_farOf 3 (some .int) :: lw_good) ({ frames := 3, cells := 0, slots := 0, locals := 61 }) (va_Pc [.ref h, .int a, .int b] (prM dC dI h ad cA fv wd ar sz)) (va_Qi (fun (r : Int32) (u : mS) => rF u.1 ∧ rA u.2.2 ∧ fM [8] fv u.1 ∧ fA [4] ar u.2.2 ∧ True) (enM dC dI h ad cA) (aM h ad sz)) 0 0 (aM h ad sz) := by
  refine Met.ofW (cc := cX12_farOf) (maxL := 3) (ret := (some .int)) (by decide) rfl ?_
  intro p e s m args below meth c s₁ B hml hv
  obtain ⟨rfl, hsz, hP, hK⟩ := hv
  have hx := B.exec
  have hb := B.bytes
  have hr := B.returns
  have hts := atoms_spec (ws := (.code yX12_farOf cX12_farOf 3 (some .int) :: lw_good)) B.pre
  have htg : ∀ w ∈ lw_good, w.before _ s = true := fun w hw => hts w (List.mem_cons_of_mem _ hw)
  have hown : s.vm.findClass RX12 = some m.cls := findClass_of_methodNamed B.named
  have hlocks := B.notSynchronized
  subst hsz
  have hS : va_S (aM h ad s.heap.size) s.heap s.heap [] := va_S.rf
  have hl := lv_entry ([.ref h, .int a, .int b]) (n := 3) (Nat.le_of_ble_eq_true rfl)
  rw [lg_entry_eq]
  generalize (lg_sl ([.ref h, .int a, .int b]) ++ List.replicate (3 - (lg_sl ([.ref h, .int a, .int b])).length) Slot.unset).toArray = ls at hl ⊢
  have hl : lv_has ls 3 [(0, .ref h), (1, .int a), (2, .int b)] := hl
  refine lv_aload_n hx hb dX12_farOf_0 rfl (lv_at hl 0 rfl) ?_
  refine va_callv (va_runV (As := []) (rest := []) ⟨hx, hb, hml, hown, hts⟩ (m_begin l dC dI s.heap.size h ad cA hd fv wd ar hF_fv hA_ar) (cwV 0 hts (gV kw_7_228 kw_7_230 kw_p_58 kw_1_15 kw_7_231) rfl rfl rfl (by decide +kernel) ⟨Nat.le_of_ble_eq_true rfl, Nat.le_of_ble_eq_true rfl⟩) ⟨fun a U g mk q => ⟨q.1, q.2.1, q.2.2.1, va_K.moved (u := U) (U := U.calling g mk a) (Vm.Alike.refl U.vm) q.2.2.2⟩, va_recv hK hP (ci := 12) (q0 := 0) rfl rfl, fun U hU hW => ⟨rfl, by rw [hU], by rw [hU]; exact hP, va_K.moved hW.alike hK⟩⟩ rfl rfl hl.1 rfl (lv_room (Nat.le_of_ble_eq_true rfl)) dX12_farOf_1 ⟨Nat.le_of_ble_eq_true rfl, Nat.le_of_ble_eq_true rfl⟩) hS (fun q _ h9 => aM_up hS q h9) (aM_up hS) (fun u t H1 locs ht _ hw hB _ hk1 hS => ?_)
  obtain ⟨fv_2, wd_3, ar_4⟩ := u
  obtain ⟨hF_fv_2, hA_ar_4, fr_5, fa_6, -⟩ := hw
  have hP : va_P (dC, dI) vwCl (wsM h ad cA fv_2 wd_3 ar_4) H1 := by have h9 := hB.1; rw [ht] at h9; exact h9
  have fr_5 : fM [8] fv fv_2 := fr_5
  have fa_6 : fA [4] ar ar_4 := fa_6
  generalize H1 = H at hP hS ⊢
  refine lv_aload_n hx hb dX12_farOf_4 rfl (lv_at hl 0 rfl) ?_
  refine gM_4 hx hb htg hown hK hP dX12_farOf_5 ?_
  refine lv_bipush (v := 12) hx hb dX12_farOf_8 (by decide) ?_
  refine lv_iload_n hx hb dX12_farOf_10 rfl (lv_at hl 1 rfl) ?_
  refine lv_imul hx hb dX12_farOf_11 ?_
  refine lv_topi (fun v_7 ev_7 => ?_)
  have t_8 : v_7.toInt = 12 * a.toInt ∧ 0 ≤ v_7.toInt ∧ v_7.toInt ≤ 132 := iv_mulc ev_7 h_a (by decide) (by decide) (by decide) (by decide)
  refine lv_iload_n hx hb dX12_farOf_12 rfl (lv_at hl 2 rfl) ?_
  refine lv_iadd hx hb dX12_farOf_13 ?_
  refine lv_topi (fun v_10 ev_10 => ?_)
  have t_11 : v_10.toInt = v_7.toInt + b.toInt ∧ 0 ≤ v_10.toInt ∧ v_10.toInt ≤ 143 := iv_add ev_10 t_8.2 h_b (by decide) (by decide)
  refine lM_4 hx hb hK hP (iv_in t_11.2 (by decide) (by decide)) dX12_farOf_14 (fun v_13 ev_13 => ?_)
  exact W.iret (v := v_13) hx hb hr (fun t ht hW => ⟨⟨v_13, (fv_2, wd_3, ar_4), rfl, ⟨hF_fv_2, hA_ar_4, (fM_call (fM_rf [8] _) fr_5 (by decide)), (fA_call (fA_rf [4] _) fa_6 (by decide)), trivial⟩, ⟨by rw [ht]; exact hP, va_K.moved hW.alike hK⟩⟩, hS.F ht⟩) hS.2.2 dX12_farOf_15
set_option maxHeartbeats 4000000 in
set_option maxRecDepth 100000 in
theorem m_far (l : Launch) (dC : Nat → ClassId) (dI : Nat → Nat → Nat) (sz h : Nat) (ad : Nat → Nat) (cA : Nat → ClassId) (hd : dM h ad) (fv : Nat → Int32) (wd : Int64) (ar : Nat → Nat → Int32) (hF_fv : rF fv) (hA_ar : rA ar) (a : Int32) (b : Int32) : Met l yX12_far (.code yX12_far cX12_far 4 (some .int) :: lw_good) ({ frames := 4, cells := 0, slots := 0, locals := 83 }) (va_Pc [.ref h, .int a, .int b] (prM dC dI h ad cA fv wd ar sz)) (va_Qi (fun (r : Int32) (u : mS) => rF u.1 ∧ rA u.2.2 ∧ fM [0, 8] fv u.1 ∧ fA [4] ar u.2.2 ∧ True) (enM dC dI h ad cA) (aM h ad sz)) 0 0 (aM h ad sz) := by
  refine Met.ofW (cc := cX12_far) (maxL := 4) (ret := (some .int)) (by decide) rfl ?_
  intro p e s m args below meth c s₁ B hml hv
  obtain ⟨rfl, hsz, hP, hK⟩ := hv
  have hx := B.exec
  have hb := B.bytes
  have hr := B.returns
  have hts := atoms_spec (ws := (.code yX12_far cX12_far 4 (some .int) :: lw_good)) B.pre
  have htg : ∀ w ∈ lw_good, w.before _ s = true := fun w hw => hts w (List.mem_cons_of_mem _ hw)
  have hown : s.vm.findClass RX12 = some m.cls := findClass_of_methodNamed B.named
  have hlocks := B.notSynchronized
  subst hsz
  have hS : va_S (aM h ad s.heap.size) s.heap s.heap [] := va_S.rf
  have hl := lv_entry ([.ref h, .int a, .int b]) (n := 4) (Nat.le_of_ble_eq_true rfl)
  rw [lg_entry_eq]
  generalize (lg_sl ([.ref h, .int a, .int b]) ++ List.replicate (4 - (lg_sl ([.ref h, .int a, .int b])).length) Slot.unset).toArray = ls at hl ⊢
  have hl : lv_has ls 4 [(0, .ref h), (1, .int a), (2, .int b)] := hl
  refine lv_aload_n hx hb dX12_far_0 rfl (lv_at hl 0 rfl) ?_
  refine lv_iconst (v := 0) hx hb dX12_far_1 (by decide) ?_
  refine pM_0 hx hb htg hown hK hP hS hd dX12_far_2 (fun H locs fv_1 efv_1 hP hS => ?_)
  have hF_fv_1 : rF fv_1 := rF_put hF_fv efv_1 (iv_any _)
  refine lv_iload_n hx hb dX12_far_5 rfl (lv_at hl 1 rfl) ?_
  refine va_calli (va_runS (As := [.int a]) (rest := []) ⟨hx, hb, hml, hown, hts⟩ (m_isCorner l H.size a) (va_cwS 1 hts (gS kw_7_225 kw_7_226 kw_1_15 kw_7_227) rfl rfl rfl (by decide +kernel) ⟨Nat.le_of_ble_eq_true rfl, Nat.le_of_ble_eq_true rfl⟩) ⟨fun a U g mk q => ⟨q.1, q.2⟩, fun U hU hW => ⟨rfl, congrArg Array.size hU⟩⟩ rfl rfl hl.1 rfl (lv_room (Nat.le_of_ble_eq_true rfl)) dX12_far_6 ⟨Nat.le_of_ble_eq_true rfl, Nat.le_of_ble_eq_true rfl⟩) hS (fun q _ h9 => nM_up hS q h9) (nM_up hS) (fun r_2 u t H1 locs ht _ hw hB _ hk1 hS => ?_)
  obtain ⟨p_3, p_4, -⟩ := hw
  have hP := my_keepM hP hk1
  generalize H1 = H at hP hS ⊢
  rcases p_4 with ⟨rfl, p_4⟩ | ⟨rfl, p_4⟩
  · skip
    refine lv_if_eq (tgt := 19) hx hb dX12_far_9 (by decide) (fun c_5 => ?_) (fun c_5 => ?_)
    · skip
      refine lv_iconst (v := (-1)) hx hb dX12_far_19 (by decide) ?_
      exact W.iret (v := (-1)) hx hb hr (fun t ht hW => ⟨⟨(-1), (fv_1, wd, ar), rfl, ⟨hF_fv_1, hA_ar, (fM_put (fM_rf [0, 8] _) efv_1 (by decide)), (fA_rf [4] _), trivial⟩, ⟨by rw [ht]; exact hP, va_K.moved hW.alike hK⟩⟩, hS.F ht⟩) hS.2.2 dX12_far_20
    · skip
      exact absurd c_5 (by decide)
  · skip
    have i_6 : 0 ≤ a.toInt ∧ a.toInt ≤ 2147483647 := ⟨p_4.1, (iv_any a).2⟩
    have i_7 : 0 ≤ a.toInt ∧ a.toInt ≤ 11 := ⟨i_6.1, p_4.2⟩
    refine lv_if_eq (tgt := 19) hx hb dX12_far_9 (by decide) (fun c_8 => ?_) (fun c_8 => ?_)
    · skip
      exact absurd c_8 (by decide)
    · skip
      refine lv_iload_n hx hb dX12_far_12 rfl (lv_at hl 2 rfl) ?_
      refine va_calli (va_runS (As := [.int b]) (rest := []) ⟨hx, hb, hml, hown, hts⟩ (m_isCorner l H.size b) (va_cwS 1 hts (gS kw_7_225 kw_7_226 kw_1_15 kw_7_227) rfl rfl rfl (by decide +kernel) ⟨Nat.le_of_ble_eq_true rfl, Nat.le_of_ble_eq_true rfl⟩) ⟨fun a U g mk q => ⟨q.1, q.2⟩, fun U hU hW => ⟨rfl, congrArg Array.size hU⟩⟩ rfl rfl hl.1 rfl (lv_room (Nat.le_of_ble_eq_true rfl)) dX12_far_13 ⟨Nat.le_of_ble_eq_true rfl, Nat.le_of_ble_eq_true rfl⟩) hS (fun q _ h9 => nM_up hS q h9) (nM_up hS) (fun r_9 u t H1 locs ht _ hw hB _ hk1 hS => ?_)
      obtain ⟨p_10, p_11, -⟩ := hw
      have hP := my_keepM hP hk1
      generalize H1 = H at hP hS ⊢
      rcases p_11 with ⟨rfl, p_11⟩ | ⟨rfl, p_11⟩
      · skip
        refine lv_if_ne (tgt := 21) hx hb dX12_far_16 (by decide) (fun c_12 => ?_) (fun c_12 => ?_)
        · skip
          exact absurd c_12 (by decide)
        · skip
          refine lv_iconst (v := (-1)) hx hb dX12_far_19 (by decide) ?_
          exact W.iret (v := (-1)) hx hb hr (fun t ht hW => ⟨⟨(-1), (fv_1, wd, ar), rfl, ⟨hF_fv_1, hA_ar, (fM_put (fM_rf [0, 8] _) efv_1 (by decide)), (fA_rf [4] _), trivial⟩, ⟨by rw [ht]; exact hP, va_K.moved hW.alike hK⟩⟩, hS.F ht⟩) hS.2.2 dX12_far_20
      · skip
        have i_13 : 0 ≤ b.toInt ∧ b.toInt ≤ 2147483647 := ⟨p_11.1, (iv_any b).2⟩
        have i_14 : 0 ≤ b.toInt ∧ b.toInt ≤ 11 := ⟨i_13.1, p_11.2⟩
        refine lv_if_ne (tgt := 21) hx hb dX12_far_16 (by decide) (fun c_15 => ?_) (fun c_15 => ?_)
        · skip
          refine lv_aload_n hx hb dX12_far_21 rfl (lv_at hl 0 rfl) ?_
          refine lv_iload_n hx hb dX12_far_22 rfl (lv_at hl 1 rfl) ?_
          refine lv_iload_n hx hb dX12_far_23 rfl (lv_at hl 2 rfl) ?_
          refine va_calli (va_runV (As := [.int a, .int b]) (rest := []) ⟨hx, hb, hml, hown, hts⟩ (m_farOf l dC dI H.size h ad cA hd fv_1 wd ar hF_fv_1 hA_ar a b i_7 i_14) (cwV 2 hts (gV kw_7_237 kw_7_239 kw_p_59 kw_1_15 kw_8_0) rfl rfl rfl (by decide +kernel) ⟨Nat.le_of_ble_eq_true rfl, Nat.le_of_ble_eq_true rfl⟩) ⟨fun a U g mk q => ⟨q.1, q.2.1, q.2.2.1, va_K.moved (u := U) (U := U.calling g mk a) (Vm.Alike.refl U.vm) q.2.2.2⟩, va_recv hK hP (ci := 12) (q0 := 0) rfl rfl, fun U hU hW => ⟨rfl, by rw [hU], by rw [hU]; exact hP, va_K.moved hW.alike hK⟩⟩ rfl rfl hl.1 rfl (lv_room (Nat.le_of_ble_eq_true rfl)) dX12_far_24 ⟨Nat.le_of_ble_eq_true rfl, Nat.le_of_ble_eq_true rfl⟩) hS (fun q _ h9 => aM_up hS q h9) (aM_up hS) (fun r_16 u t H1 locs ht _ hw hB _ hk1 hS => ?_)
          obtain ⟨fv_17, wd_18, ar_19⟩ := u
          obtain ⟨hF_fv_17, hA_ar_19, fr_20, fa_21, -⟩ := hw
          have hP : va_P (dC, dI) vwCl (wsM h ad cA fv_17 wd_18 ar_19) H1 := by have h9 := hB.1; rw [ht] at h9; exact h9
          have fr_20 : fM [8] fv_1 fv_17 := fr_20
          have fa_21 : fA [4] ar ar_19 := fa_21
          generalize H1 = H at hP hS ⊢
          refine lv_istore_n (lv' := [(3, .int r_16), (0, .ref h), (1, .int a), (2, .int b)]) hx hb dX12_far_27 rfl hl (by decide) rfl (fun ls hl => ?_)
          refine lv_iload_n hx hb dX12_far_28 rfl (lv_at hl 0 rfl) ?_
          refine lv_ldc hx hb hown (htg (.constant RX12 225 100000) kw_7_232) dX12_far_29 ?_
          refine lv_icmp_lt (tgt := 39) hx hb dX12_far_31 (by decide) (fun c_22 => ?_) (fun c_22 => ?_)
          · skip
            have i_23 : (-2147483648) ≤ r_16.toInt ∧ r_16.toInt ≤ 99999 := iv_lt1 (iv_any r_16) (⟨by decide, by decide⟩ : (100000 : Int) ≤ (100000 : Int32).toInt ∧ (100000 : Int32).toInt ≤ 100000) c_22
            refine lv_iload_n hx hb dX12_far_39 rfl (lv_at hl 0 rfl) ?_
            exact W.iret (v := r_16) hx hb hr (fun t ht hW => ⟨⟨r_16, (fv_17, wd_18, ar_19), rfl, ⟨hF_fv_17, hA_ar_19, (fM_call (fM_put (fM_rf [0, 8] _) efv_1 (by decide)) fr_20 (by decide)), (fA_call (fA_rf [4] _) fa_21 (by decide)), trivial⟩, ⟨by rw [ht]; exact hP, va_K.moved hW.alike hK⟩⟩, hS.F ht⟩) hS.2.2 dX12_far_40
          · skip
            have i_24 : 100000 ≤ r_16.toInt ∧ r_16.toInt ≤ 2147483647 := iv_le2 (⟨by decide, by decide⟩ : (100000 : Int) ≤ (100000 : Int32).toInt ∧ (100000 : Int32).toInt ≤ 100000) (iv_any r_16) (Int32.not_lt.mp c_22)
            refine lv_bipush (v := (-2)) hx hb dX12_far_34 (by decide) ?_
            refine lv_goto (tgt := 40) hx hb dX12_far_36 (by decide) ?_
            exact W.iret (v := (-2)) hx hb hr (fun t ht hW => ⟨⟨(-2), (fv_17, wd_18, ar_19), rfl, ⟨hF_fv_17, hA_ar_19, (fM_call (fM_put (fM_rf [0, 8] _) efv_1 (by decide)) fr_20 (by decide)), (fA_call (fA_rf [4] _) fa_21 (by decide)), trivial⟩, ⟨by rw [ht]; exact hP, va_K.moved hW.alike hK⟩⟩, hS.F ht⟩) hS.2.2 dX12_far_40
        · skip
          exact absurd c_15 (by decide)
set_option maxHeartbeats 4000000 in
set_option maxRecDepth 100000 in
theorem m_rainOf (l : Launch) (dC : Nat → ClassId) (dI : Nat → Nat → Nat) (sz h : Nat) (ad : Nat → Nat) (cA : Nat → ClassId) (hd : dM h ad) (fv : Nat → Int32) (wd : Int64) (ar : Nat → Nat → Int32) (hF_fv : rF fv) (hA_ar : rA ar) (a : Int32) (h_a : 0 ≤ a.toInt ∧ a.toInt ≤ 199) : Met l yX12_rainOf (.code yX12_rainOf cX12_rainOf 2 (some .int) :: lw_good) ({ frames := 2, cells := 0, slots := 0, locals := 40 }) (va_Pc [.ref h, .int a] (prM dC dI h ad cA fv wd ar sz)) (va_Qi (fun (r : Int32) (u : mS) => rF u.1 ∧ rA u.2.2 ∧ fM [] fv u.1 ∧ fA [] ar u.2.2 ∧ True) (enM dC dI h ad cA) (aM h ad sz)) 0 0 (aM h ad sz) := by
  refine Met.ofW (cc := cX12_rainOf) (maxL := 2) (ret := (some .int)) (by decide) rfl ?_
  intro p e s m args below meth c s₁ B hml hv
  obtain ⟨rfl, hsz, hP, hK⟩ := hv
  have hx := B.exec
  have hb := B.bytes
  have hr := B.returns
  have hts := atoms_spec (ws := (.code yX12_rainOf cX12_rainOf 2 (some .int) :: lw_good)) B.pre
  have htg : ∀ w ∈ lw_good, w.before _ s = true := fun w hw => hts w (List.mem_cons_of_mem _ hw)
  have hown : s.vm.findClass RX12 = some m.cls := findClass_of_methodNamed B.named
  have hlocks := B.notSynchronized
  subst hsz
  have hS : va_S (aM h ad s.heap.size) s.heap s.heap [] := va_S.rf
  have hl := lv_entry ([.ref h, .int a]) (n := 2) (Nat.le_of_ble_eq_true rfl)
  rw [lg_entry_eq]
  generalize (lg_sl ([.ref h, .int a]) ++ List.replicate (2 - (lg_sl ([.ref h, .int a])).length) Slot.unset).toArray = ls at hl ⊢
  have hl : lv_has ls 2 [(0, .ref h), (1, .int a)] := hl
  refine lv_aload_n hx hb dX12_rainOf_0 rfl (lv_at hl 0 rfl) ?_
  refine gM_7 hx hb htg hown hK hP dX12_rainOf_1 ?_
  have i_1 : 0 ≤ (fv 7).toInt ∧ (fv 7).toInt ≤ 200 := hF_fv 7
  refine lv_if_ne (tgt := 11) hx hb dX12_rainOf_4 (by decide) (fun c_2 => ?_) (fun c_2 => ?_)
  · skip
    have i_3 : 1 ≤ (fv 7).toInt ∧ (fv 7).toInt ≤ 200 := iv_nel i_1 (by decide) c_2
    refine lv_iload_n hx hb dX12_rainOf_11 rfl (lv_at hl 1 rfl) ?_
    refine lv_aload_n hx hb dX12_rainOf_12 rfl (lv_at hl 0 rfl) ?_
    refine gM_7 hx hb htg hown hK hP dX12_rainOf_13 ?_
    refine lv_icmp_lt (tgt := 24) hx hb dX12_rainOf_16 (by decide) (fun c_4 => ?_) (fun c_4 => ?_)
    · skip
      refine lv_aload_n hx hb dX12_rainOf_24 rfl (lv_at hl 0 rfl) ?_
      refine gM_5 hx hb htg hown hK hP dX12_rainOf_25 ?_
      refine lv_iload_n hx hb dX12_rainOf_28 rfl (lv_at hl 1 rfl) ?_
      refine lM_5 hx hb hK hP (iv_in h_a (by decide) (by decide)) dX12_rainOf_29 (fun v_5 ev_5 => ?_)
      exact W.iret (v := v_5) hx hb hr (fun t ht hW => ⟨⟨v_5, (fv, wd, ar), rfl, ⟨hF_fv, hA_ar, (fM_rf [] _), (fA_rf [] _), trivial⟩, ⟨by rw [ht]; exact hP, va_K.moved hW.alike hK⟩⟩, hS.F ht⟩) hS.2.2 dX12_rainOf_30
    · skip
      have i_6 : 1 ≤ (fv 7).toInt ∧ (fv 7).toInt ≤ 199 := iv_le1 i_3 h_a (Int32.not_lt.mp c_4)
      have i_7 : 1 ≤ a.toInt ∧ a.toInt ≤ 199 := iv_le2 i_3 h_a (Int32.not_lt.mp c_4)
      refine lv_bipush (v := 9) hx hb dX12_rainOf_19 (by decide) ?_
      refine lv_goto (tgt := 30) hx hb dX12_rainOf_21 (by decide) ?_
      exact W.iret (v := 9) hx hb hr (fun t ht hW => ⟨⟨9, (fv, wd, ar), rfl, ⟨hF_fv, hA_ar, (fM_rf [] _), (fA_rf [] _), trivial⟩, ⟨by rw [ht]; exact hP, va_K.moved hW.alike hK⟩⟩, hS.F ht⟩) hS.2.2 dX12_rainOf_30
  · skip
    have i_8 : 0 ≤ (fv 7).toInt ∧ (fv 7).toInt ≤ 0 := iv_eq1 (⟨by decide, by decide⟩ : (0 : Int) ≤ (0 : Int32).toInt ∧ (0 : Int32).toInt ≤ 0) c_2
    refine lv_iconst (v := 0) hx hb dX12_rainOf_7 (by decide) ?_
    refine lv_goto (tgt := 30) hx hb dX12_rainOf_8 (by decide) ?_
    exact W.iret (v := 0) hx hb hr (fun t ht hW => ⟨⟨0, (fv, wd, ar), rfl, ⟨hF_fv, hA_ar, (fM_rf [] _), (fA_rf [] _), trivial⟩, ⟨by rw [ht]; exact hP, va_K.moved hW.alike hK⟩⟩, hS.F ht⟩) hS.2.2 dX12_rainOf_30
set_option maxHeartbeats 4000000 in
set_option maxRecDepth 100000 in
theorem m_wet (l : Launch) (dC : Nat → ClassId) (dI : Nat → Nat → Nat) (sz h : Nat) (ad : Nat → Nat) (cA : Nat → ClassId) (hd : dM h ad) (fv : Nat → Int32) (wd : Int64) (ar : Nat → Nat → Int32) (hF_fv : rF fv) (hA_ar : rA ar) (a : Int32) : Met l yX12_wet (.code yX12_wet cX12_wet 2 (some .int) :: lw_good) ({ frames := 3, cells := 0, slots := 0, locals := 61 }) (va_Pc [.ref h, .int a] (prM dC dI h ad cA fv wd ar sz)) (va_Qi (fun (r : Int32) (u : mS) => rF u.1 ∧ rA u.2.2 ∧ fM [0] fv u.1 ∧ fA [] ar u.2.2 ∧ True) (enM dC dI h ad cA) (aM h ad sz)) 0 0 (aM h ad sz) := by
  refine Met.ofW (cc := cX12_wet) (maxL := 2) (ret := (some .int)) (by decide) rfl ?_
  intro p e s m args below meth c s₁ B hml hv
  obtain ⟨rfl, hsz, hP, hK⟩ := hv
  have hx := B.exec
  have hb := B.bytes
  have hr := B.returns
  have hts := atoms_spec (ws := (.code yX12_wet cX12_wet 2 (some .int) :: lw_good)) B.pre
  have htg : ∀ w ∈ lw_good, w.before _ s = true := fun w hw => hts w (List.mem_cons_of_mem _ hw)
  have hown : s.vm.findClass RX12 = some m.cls := findClass_of_methodNamed B.named
  have hlocks := B.notSynchronized
  subst hsz
  have hS : va_S (aM h ad s.heap.size) s.heap s.heap [] := va_S.rf
  have hl := lv_entry ([.ref h, .int a]) (n := 2) (Nat.le_of_ble_eq_true rfl)
  rw [lg_entry_eq]
  generalize (lg_sl ([.ref h, .int a]) ++ List.replicate (2 - (lg_sl ([.ref h, .int a])).length) Slot.unset).toArray = ls at hl ⊢
  have hl : lv_has ls 2 [(0, .ref h), (1, .int a)] := hl
  refine lv_aload_n hx hb dX12_wet_0 rfl (lv_at hl 0 rfl) ?_
  refine lv_iconst (v := 0) hx hb dX12_wet_1 (by decide) ?_
  refine pM_0 hx hb htg hown hK hP hS hd dX12_wet_2 (fun H locs fv_1 efv_1 hP hS => ?_)
  have hF_fv_1 : rF fv_1 := rF_put hF_fv efv_1 (iv_any _)
  refine lv_iload_n hx hb dX12_wet_5 rfl (lv_at hl 1 rfl) ?_
  refine va_calli (va_runS (As := [.int a]) (rest := []) ⟨hx, hb, hml, hown, hts⟩ (m_isDay l H.size a) (va_cwS 1 hts (gS kw_8_13 kw_8_14 kw_1_15 kw_8_15) rfl rfl rfl (by decide +kernel) ⟨Nat.le_of_ble_eq_true rfl, Nat.le_of_ble_eq_true rfl⟩) ⟨fun a U g mk q => ⟨q.1, q.2⟩, fun U hU hW => ⟨rfl, congrArg Array.size hU⟩⟩ rfl rfl hl.1 rfl (lv_room (Nat.le_of_ble_eq_true rfl)) dX12_wet_6 ⟨Nat.le_of_ble_eq_true rfl, Nat.le_of_ble_eq_true rfl⟩) hS (fun q _ h9 => nM_up hS q h9) (nM_up hS) (fun r_2 u t H1 locs ht _ hw hB _ hk1 hS => ?_)
  obtain ⟨p_3, p_4, -⟩ := hw
  have hP := my_keepM hP hk1
  generalize H1 = H at hP hS ⊢
  rcases p_4 with ⟨rfl, p_4⟩ | ⟨rfl, p_4⟩
  · skip
    refine lv_if_eq (tgt := 20) hx hb dX12_wet_9 (by decide) (fun c_5 => ?_) (fun c_5 => ?_)
    · skip
      refine lv_iconst (v := (-1)) hx hb dX12_wet_20 (by decide) ?_
      exact W.iret (v := (-1)) hx hb hr (fun t ht hW => ⟨⟨(-1), (fv_1, wd, ar), rfl, ⟨hF_fv_1, hA_ar, (fM_put (fM_rf [0] _) efv_1 (by decide)), (fA_rf [] _), trivial⟩, ⟨by rw [ht]; exact hP, va_K.moved hW.alike hK⟩⟩, hS.F ht⟩) hS.2.2 dX12_wet_21
    · skip
      exact absurd c_5 (by decide)
  · skip
    have i_6 : 0 ≤ a.toInt ∧ a.toInt ≤ 2147483647 := ⟨p_4.1, (iv_any a).2⟩
    have i_7 : 0 ≤ a.toInt ∧ a.toInt ≤ 199 := ⟨i_6.1, p_4.2⟩
    refine lv_if_eq (tgt := 20) hx hb dX12_wet_9 (by decide) (fun c_8 => ?_) (fun c_8 => ?_)
    · skip
      exact absurd c_8 (by decide)
    · skip
      refine lv_aload_n hx hb dX12_wet_12 rfl (lv_at hl 0 rfl) ?_
      refine lv_iload_n hx hb dX12_wet_13 rfl (lv_at hl 1 rfl) ?_
      refine va_calli (va_runV (As := [.int a]) (rest := []) ⟨hx, hb, hml, hown, hts⟩ (m_rainOf l dC dI H.size h ad cA hd fv_1 wd ar hF_fv_1 hA_ar a i_7) (cwV 1 hts (gV kw_8_16 kw_8_18 kw_p_61 kw_1_15 kw_8_19) rfl rfl rfl (by decide +kernel) ⟨Nat.le_of_ble_eq_true rfl, Nat.le_of_ble_eq_true rfl⟩) ⟨fun a U g mk q => ⟨q.1, q.2.1, q.2.2.1, va_K.moved (u := U) (U := U.calling g mk a) (Vm.Alike.refl U.vm) q.2.2.2⟩, va_recv hK hP (ci := 12) (q0 := 0) rfl rfl, fun U hU hW => ⟨rfl, by rw [hU], by rw [hU]; exact hP, va_K.moved hW.alike hK⟩⟩ rfl rfl hl.1 rfl (lv_room (Nat.le_of_ble_eq_true rfl)) dX12_wet_14 ⟨Nat.le_of_ble_eq_true rfl, Nat.le_of_ble_eq_true rfl⟩) hS (fun q _ h9 => aM_up hS q h9) (aM_up hS) (fun r_9 u t H1 locs ht _ hw hB _ hk1 hS => ?_)
      obtain ⟨fv_10, wd_11, ar_12⟩ := u
      obtain ⟨hF_fv_10, hA_ar_12, fr_13, fa_14, -⟩ := hw
      have hP : va_P (dC, dI) vwCl (wsM h ad cA fv_10 wd_11 ar_12) H1 := by have h9 := hB.1; rw [ht] at h9; exact h9
      have fr_13 : fM [] fv_1 fv_10 := fr_13
      have fa_14 : fA [] ar ar_12 := fa_14
      generalize H1 = H at hP hS ⊢
      refine lv_goto (tgt := 21) hx hb dX12_wet_17 (by decide) ?_
      exact W.iret (v := r_9) hx hb hr (fun t ht hW => ⟨⟨r_9, (fv_10, wd_11, ar_12), rfl, ⟨hF_fv_10, hA_ar_12, (fM_call (fM_put (fM_rf [0] _) efv_1 (by decide)) fr_13 (by decide)), (fA_call (fA_rf [] _) fa_14 (by decide)), trivial⟩, ⟨by rw [ht]; exact hP, va_K.moved hW.alike hK⟩⟩, hS.F ht⟩) hS.2.2 dX12_wet_21
set_option maxHeartbeats 4000000 in
set_option maxRecDepth 100000 in
theorem m_two (l : Launch) (dC : Nat → ClassId) (dI : Nat → Nat → Nat) (sz h : Nat) (ad : Nat → Nat) (cA : Nat → ClassId) (hd : dM h ad) (fv : Nat → Int32) (wd : Int64) (ar : Nat → Nat → Int32) (hF_fv : rF fv) (hA_ar : rA ar) (a : Int32) (h_a : 0 ≤ a.toInt ∧ a.toInt ≤ 5) : Met l yX12_two (.code yX12_two cX12_two 2 (some .int) :: lw_good) ({ frames := 2, cells := 0, slots := 0, locals := 40 }) (va_Pc [.ref h, .int a] (prM dC dI h ad cA fv wd ar sz)) (va_Qi (fun (r : Int32) (u : mS) => rF u.1 ∧ rA u.2.2 ∧ fM [] fv u.1 ∧ fA [] ar u.2.2 ∧ True) (enM dC dI h ad cA) (aM h ad sz)) 0 0 (aM h ad sz) := by
  refine Met.ofW (cc := cX12_two) (maxL := 2) (ret := (some .int)) (by decide) rfl ?_
  intro p e s m args below meth c s₁ B hml hv
  obtain ⟨rfl, hsz, hP, hK⟩ := hv
  have hx := B.exec
  have hb := B.bytes
  have hr := B.returns
  have hts := atoms_spec (ws := (.code yX12_two cX12_two 2 (some .int) :: lw_good)) B.pre
  have htg : ∀ w ∈ lw_good, w.before _ s = true := fun w hw => hts w (List.mem_cons_of_mem _ hw)
  have hown : s.vm.findClass RX12 = some m.cls := findClass_of_methodNamed B.named
  have hlocks := B.notSynchronized
  subst hsz
  have hS : va_S (aM h ad s.heap.size) s.heap s.heap [] := va_S.rf
  have hl := lv_entry ([.ref h, .int a]) (n := 2) (Nat.le_of_ble_eq_true rfl)
  rw [lg_entry_eq]
  generalize (lg_sl ([.ref h, .int a]) ++ List.replicate (2 - (lg_sl ([.ref h, .int a])).length) Slot.unset).toArray = ls at hl ⊢
  have hl : lv_has ls 2 [(0, .ref h), (1, .int a)] := hl
  refine lv_sipush (v := 256) hx hb dX12_two_0 (by decide) ?_
  refine lv_aload_n hx hb dX12_two_3 rfl (lv_at hl 0 rfl) ?_
  refine gM_1 hx hb htg hown hK hP dX12_two_4 ?_
  refine lv_iconst (v := 2) hx hb dX12_two_7 (by decide) ?_
  refine lv_iload_n hx hb dX12_two_8 rfl (lv_at hl 1 rfl) ?_
  refine lv_imul hx hb dX12_two_9 ?_
  refine lv_topi (fun v_1 ev_1 => ?_)
  have t_2 : v_1.toInt = 2 * a.toInt ∧ 0 ≤ v_1.toInt ∧ v_1.toInt ≤ 10 := iv_mulc ev_1 h_a (by decide) (by decide) (by decide) (by decide)
  refine lM_1 hx hb hK hP (iv_in t_2.2 (by decide) (by decide)) dX12_two_10 (fun v_4 ev_4 => ?_)
  have i_5 : 0 ≤ v_4.toInt ∧ v_4.toInt ≤ 255 := ev_4 ▸ hA_ar 1 _
  refine lv_imul hx hb dX12_two_11 ?_
  refine lv_topi (fun v_6 ev_6 => ?_)
  have t_7 : v_6.toInt = 256 * v_4.toInt ∧ 0 ≤ v_6.toInt ∧ v_6.toInt ≤ 65280 := iv_mulc ev_6 i_5 (by decide) (by decide) (by decide) (by decide)
  refine lv_aload_n hx hb dX12_two_12 rfl (lv_at hl 0 rfl) ?_
  refine gM_1 hx hb htg hown hK hP dX12_two_13 ?_
  refine lv_iconst (v := 2) hx hb dX12_two_16 (by decide) ?_
  refine lv_iload_n hx hb dX12_two_17 rfl (lv_at hl 1 rfl) ?_
  refine lv_imul hx hb dX12_two_18 ?_
  refine my_ti (y := v_1) ev_1.symm ?_
  refine lv_iconst (v := 1) hx hb dX12_two_19 (by decide) ?_
  refine lv_iadd hx hb dX12_two_20 ?_
  refine lv_topi (fun v_9 ev_9 => ?_)
  have t_10 : v_9.toInt = v_1.toInt + 1 ∧ 1 ≤ v_9.toInt ∧ v_9.toInt ≤ 11 := iv_addc ev_9 t_2.2 (by decide) (by decide) (by decide)
  refine lM_1 hx hb hK hP (iv_in t_10.2 (by decide) (by decide)) dX12_two_21 (fun v_12 ev_12 => ?_)
  have i_13 : 0 ≤ v_12.toInt ∧ v_12.toInt ≤ 255 := ev_12 ▸ hA_ar 1 _
  refine lv_iadd hx hb dX12_two_22 ?_
  refine lv_topi (fun v_14 ev_14 => ?_)
  have t_15 : v_14.toInt = v_6.toInt + v_12.toInt ∧ 0 ≤ v_14.toInt ∧ v_14.toInt ≤ 65535 := iv_add ev_14 t_7.2 i_13 (by decide) (by decide)
  exact W.iret (v := v_14) hx hb hr (fun t ht hW => ⟨⟨v_14, (fv, wd, ar), rfl, ⟨hF_fv, hA_ar, (fM_rf [] _), (fA_rf [] _), trivial⟩, ⟨by rw [ht]; exact hP, va_K.moved hW.alike hK⟩⟩, hS.F ht⟩) hS.2.2 dX12_two_23
set_option maxHeartbeats 4000000 in
set_option maxRecDepth 100000 in
theorem m_isWheel (l : Launch) (dC : Nat → ClassId) (dI : Nat → Nat → Nat) (sz h : Nat) (ad : Nat → Nat) (cA : Nat → ClassId) (hd : dM h ad) (fv : Nat → Int32) (wd : Int64) (ar : Nat → Nat → Int32) (hF_fv : rF fv) (hA_ar : rA ar) (v : Int32) : Met l yX12_isWheel (.code yX12_isWheel cX12_isWheel 2 (some .boolean) :: lw_good) ({ frames := 2, cells := 0, slots := 0, locals := 40 }) (va_Pc [.ref h, .int v] (prM dC dI h ad cA fv wd ar sz)) (va_Qi (fun (r : Int32) (u : mS) => rF u.1 ∧ rA u.2.2 ∧ fM [] fv u.1 ∧ fA [] ar u.2.2 ∧ (0 ≤ r.toInt ∧ r.toInt ≤ 1) ∧ ((r = 0 ∧ True) ∨ (r = 1 ∧ (0 ≤ v.toInt) ∧ (v.toInt ≤ 19))) ∧ True) (enM dC dI h ad cA) (aM h ad sz)) 0 0 (aM h ad sz) := by
  refine Met.ofW (cc := cX12_isWheel) (maxL := 2) (ret := (some .boolean)) (by decide) rfl ?_
  intro p e s m args below meth c s₁ B hml hv
  obtain ⟨rfl, hsz, hP, hK⟩ := hv
  have hx := B.exec
  have hb := B.bytes
  have hr := B.returns
  have hts := atoms_spec (ws := (.code yX12_isWheel cX12_isWheel 2 (some .boolean) :: lw_good)) B.pre
  have htg : ∀ w ∈ lw_good, w.before _ s = true := fun w hw => hts w (List.mem_cons_of_mem _ hw)
  have hown : s.vm.findClass RX12 = some m.cls := findClass_of_methodNamed B.named
  have hlocks := B.notSynchronized
  subst hsz
  have hS : va_S (aM h ad s.heap.size) s.heap s.heap [] := va_S.rf
  have hl := lv_entry ([.ref h, .int v]) (n := 2) (Nat.le_of_ble_eq_true rfl)
  rw [lg_entry_eq]
  generalize (lg_sl ([.ref h, .int v]) ++ List.replicate (2 - (lg_sl ([.ref h, .int v])).length) Slot.unset).toArray = ls at hl ⊢
  have hl : lv_has ls 2 [(0, .ref h), (1, .int v)] := hl
  refine lv_iload_n hx hb dX12_isWheel_0 rfl (lv_at hl 1 rfl) ?_
  refine lv_if_lt (tgt := 16) hx hb dX12_isWheel_1 (by decide) (fun c_1 => ?_) (fun c_1 => ?_)
  · skip
    have i_2 : (-2147483648) ≤ v.toInt ∧ v.toInt ≤ (-1) := iv_lt1 (iv_any v) (⟨by decide, by decide⟩ : (0 : Int) ≤ (0 : Int32).toInt ∧ (0 : Int32).toInt ≤ 0) c_1
    refine lv_iconst (v := 0) hx hb dX12_isWheel_16 (by decide) ?_
    exact W.zret (v := 0) hx hb hr (by decide) (fun t ht hW => ⟨⟨0, (fv, wd, ar), rfl, ⟨hF_fv, hA_ar, (fM_rf [] _), (fA_rf [] _), (iv_w (⟨by decide, by decide⟩ : (0 : Int) ≤ (0 : Int32).toInt ∧ (0 : Int32).toInt ≤ 0) (by decide) (by decide)), (Or.inl ⟨rfl, trivial⟩), trivial⟩, ⟨by rw [ht]; exact hP, va_K.moved hW.alike hK⟩⟩, hS.F ht⟩) hS.2.2 dX12_isWheel_17
  · skip
    have i_3 : 0 ≤ v.toInt ∧ v.toInt ≤ 2147483647 := iv_le2 (⟨by decide, by decide⟩ : (0 : Int) ≤ (0 : Int32).toInt ∧ (0 : Int32).toInt ≤ 0) (iv_any v) (Int32.not_lt.mp c_1)
    refine lv_iload_n hx hb dX12_isWheel_4 rfl (lv_at hl 1 rfl) ?_
    refine lv_aload_n hx hb dX12_isWheel_5 rfl (lv_at hl 0 rfl) ?_
    refine gM_34 hx hb htg hown hK hP dX12_isWheel_6 ?_
    have i_4 : 0 ≤ (fv 34).toInt ∧ (fv 34).toInt ≤ 20 := hF_fv 34
    refine lv_icmp_ge (tgt := 16) hx hb dX12_isWheel_9 (by decide) (fun c_5 => ?_) (fun c_5 => ?_)
    · skip
      refine lv_iconst (v := 0) hx hb dX12_isWheel_16 (by decide) ?_
      exact W.zret (v := 0) hx hb hr (by decide) (fun t ht hW => ⟨⟨0, (fv, wd, ar), rfl, ⟨hF_fv, hA_ar, (fM_rf [] _), (fA_rf [] _), (iv_w (⟨by decide, by decide⟩ : (0 : Int) ≤ (0 : Int32).toInt ∧ (0 : Int32).toInt ≤ 0) (by decide) (by decide)), (Or.inl ⟨rfl, trivial⟩), trivial⟩, ⟨by rw [ht]; exact hP, va_K.moved hW.alike hK⟩⟩, hS.F ht⟩) hS.2.2 dX12_isWheel_17
    · skip
      have i_6 : 0 ≤ v.toInt ∧ v.toInt ≤ 19 := iv_lt1 i_3 i_4 (Int32.not_le.mp c_5)
      have i_7 : 1 ≤ (fv 34).toInt ∧ (fv 34).toInt ≤ 20 := iv_lt2 i_3 i_4 (Int32.not_le.mp c_5)
      refine lv_iconst (v := 1) hx hb dX12_isWheel_12 (by decide) ?_
      refine lv_goto (tgt := 17) hx hb dX12_isWheel_13 (by decide) ?_
      exact W.zret (v := 1) hx hb hr (by decide) (fun t ht hW => ⟨⟨1, (fv, wd, ar), rfl, ⟨hF_fv, hA_ar, (fM_rf [] _), (fA_rf [] _), (iv_w (⟨by decide, by decide⟩ : (1 : Int) ≤ (1 : Int32).toInt ∧ (1 : Int32).toInt ≤ 1) (by decide) (by decide)), (Or.inr (⟨rfl, by omega⟩)), trivial⟩, ⟨by rw [ht]; exact hP, va_K.moved hW.alike hK⟩⟩, hS.F ht⟩) hS.2.2 dX12_isWheel_17
set_option maxHeartbeats 4000000 in
set_option maxRecDepth 100000 in
theorem m_give (l : Launch) (dC : Nat → ClassId) (dI : Nat → Nat → Nat) (sz h : Nat) (ad : Nat → Nat) (cA : Nat → ClassId) (hd : dM h ad) (fv : Nat → Int32) (wd : Int64) (ar : Nat → Nat → Int32) (hF_fv : rF fv) (hA_ar : rA ar) (a : Int32) : Met l yX12_give (.code yX12_give cX12_give 2 (some .int) :: lw_good) ({ frames := 3, cells := 0, slots := 0, locals := 62 }) (va_Pc [.ref h, .int a] (prM dC dI h ad cA fv wd ar sz)) (va_Qi (fun (r : Int32) (u : mS) => rF u.1 ∧ rA u.2.2 ∧ fM [0, 36] fv u.1 ∧ fA [] ar u.2.2 ∧ True) (enM dC dI h ad cA) (aM h ad sz)) 0 0 (aM h ad sz) := by
  refine Met.ofW (cc := cX12_give) (maxL := 2) (ret := (some .int)) (by decide) rfl ?_
  intro p e s m args below meth c s₁ B hml hv
  obtain ⟨rfl, hsz, hP, hK⟩ := hv
  have hx := B.exec
  have hb := B.bytes
  have hr := B.returns
  have hts := atoms_spec (ws := (.code yX12_give cX12_give 2 (some .int) :: lw_good)) B.pre
  have htg : ∀ w ∈ lw_good, w.before _ s = true := fun w hw => hts w (List.mem_cons_of_mem _ hw)
  have hown : s.vm.findClass RX12 = some m.cls := findClass_of_methodNamed B.named
  have hlocks := B.notSynchronized
  subst hsz
  have hS : va_S (aM h ad s.heap.size) s.heap s.heap [] := va_S.rf
  have hl := lv_entry ([.ref h, .int a]) (n := 2) (Nat.le_of_ble_eq_true rfl)
  rw [lg_entry_eq]
  generalize (lg_sl ([.ref h, .int a]) ++ List.replicate (2 - (lg_sl ([.ref h, .int a])).length) Slot.unset).toArray = ls at hl ⊢
  have hl : lv_has ls 2 [(0, .ref h), (1, .int a)] := hl
  refine lv_aload_n hx hb dX12_give_0 rfl (lv_at hl 0 rfl) ?_
  refine lv_iconst (v := 0) hx hb dX12_give_1 (by decide) ?_
  refine pM_0 hx hb htg hown hK hP hS hd dX12_give_2 (fun H locs fv_1 efv_1 hP hS => ?_)
  have hF_fv_1 : rF fv_1 := rF_put hF_fv efv_1 (iv_any _)
  refine lv_iload_n hx hb dX12_give_5 rfl (lv_at hl 1 rfl) ?_
  refine lv_iconst (v := 1) hx hb dX12_give_6 (by decide) ?_
  refine lv_ldc hx hb hown (htg (.constant RX12 225 100000) kw_7_232) dX12_give_7 ?_
  refine va_calli (va_runS (As := [.int a, .int 1, .int 100000]) (rest := []) ⟨hx, hb, hml, hown, hts⟩ (m_isIn l H.size a 1 100000) (va_cwS 3 hts (gS kw_7_218 kw_7_219 kw_1_15 kw_7_220) rfl rfl rfl (by decide +kernel) ⟨Nat.le_of_ble_eq_true rfl, Nat.le_of_ble_eq_true rfl⟩) ⟨fun a U g mk q => ⟨q.1, q.2⟩, fun U hU hW => ⟨rfl, congrArg Array.size hU⟩⟩ rfl rfl hl.1 rfl (lv_room (Nat.le_of_ble_eq_true rfl)) dX12_give_9 ⟨Nat.le_of_ble_eq_true rfl, Nat.le_of_ble_eq_true rfl⟩) hS (fun q _ h9 => nM_up hS q h9) (nM_up hS) (fun r_2 u t H1 locs ht _ hw hB _ hk1 hS => ?_)
  obtain ⟨p_3, p_4, -⟩ := hw
  have hP := my_keepM hP hk1
  generalize H1 = H at hP hS ⊢
  rcases p_4 with ⟨rfl, p_4⟩ | ⟨rfl, p_4⟩
  · skip
    refine lv_if_ne (tgt := 17) hx hb dX12_give_12 (by decide) (fun c_5 => ?_) (fun c_5 => ?_)
    · skip
      exact absurd c_5 (by decide)
    · skip
      refine lv_iconst (v := (-1)) hx hb dX12_give_15 (by decide) ?_
      exact W.iret (v := (-1)) hx hb hr (fun t ht hW => ⟨⟨(-1), (fv_1, wd, ar), rfl, ⟨hF_fv_1, hA_ar, (fM_put (fM_rf [0, 36] _) efv_1 (by decide)), (fA_rf [] _), trivial⟩, ⟨by rw [ht]; exact hP, va_K.moved hW.alike hK⟩⟩, hS.F ht⟩) hS.2.2 dX12_give_16
  · skip
    have i_6 : 1 ≤ a.toInt ∧ a.toInt ≤ 2147483647 := iv_le2 (⟨by decide, by decide⟩ : (1 : Int) ≤ (1 : Int32).toInt ∧ (1 : Int32).toInt ≤ 1) (iv_any a) (Int32.le_iff_toInt_le.mpr p_4.1)
    have i_7 : 1 ≤ a.toInt ∧ a.toInt ≤ 100000 := iv_le1 i_6 (⟨by decide, by decide⟩ : (100000 : Int) ≤ (100000 : Int32).toInt ∧ (100000 : Int32).toInt ≤ 100000) (Int32.le_iff_toInt_le.mpr p_4.2)
    refine lv_if_ne (tgt := 17) hx hb dX12_give_12 (by decide) (fun c_8 => ?_) (fun c_8 => ?_)
    · skip
      refine lv_aload_n hx hb dX12_give_17 rfl (lv_at hl 0 rfl) ?_
      refine lv_aload_n hx hb dX12_give_18 rfl (lv_at hl 0 rfl) ?_
      refine gM_36 hx hb htg hown hK hP dX12_give_19 ?_
      refine my_ti (y := fv 36) ((congrFun efv_1 36)) ?_
      refine lv_iload_n hx hb dX12_give_22 rfl (lv_at hl 1 rfl) ?_
      refine lv_iadd hx hb dX12_give_23 ?_
      refine lv_topi (fun v_9 ev_9 => ?_)
      refine va_calli (va_runS (As := [.int v_9]) (rest := [.ref h]) ⟨hx, hb, hml, hown, hts⟩ (m_cut l H.size v_9) (va_cwS 1 hts (gS kw_8_52 kw_8_53 kw_1_15 kw_8_54) rfl rfl rfl (by decide +kernel) ⟨Nat.le_of_ble_eq_true rfl, Nat.le_of_ble_eq_true rfl⟩) ⟨fun a U g mk q => ⟨q.1, q.2⟩, fun U hU hW => ⟨rfl, congrArg Array.size hU⟩⟩ rfl rfl hl.1 rfl (lv_room (Nat.le_of_ble_eq_true rfl)) dX12_give_24 ⟨Nat.le_of_ble_eq_true rfl, Nat.le_of_ble_eq_true rfl⟩) hS (fun q _ h9 => nM_up hS q h9) (nM_up hS) (fun r_10 u t H1 locs ht _ hw hB _ hk1 hS => ?_)
      have hP := my_keepM hP hk1
      generalize H1 = H at hP hS ⊢
      refine pM_36 hx hb htg hown hK hP hS hd dX12_give_27 (fun H locs fv_11 efv_11 hP hS => ?_)
      have hF_fv_11 : rF fv_11 := rF_put hF_fv_1 efv_11 (iv_any r_10)
      refine lv_aload_n hx hb dX12_give_30 rfl (lv_at hl 0 rfl) ?_
      refine gM_36 hx hb htg hown hK hP dX12_give_31 ?_
      refine my_ti (y := r_10) ((congrFun efv_11 36)) ?_
      exact W.iret (v := r_10) hx hb hr (fun t ht hW => ⟨⟨r_10, (fv_11, wd, ar), rfl, ⟨hF_fv_11, hA_ar, (fM_put (fM_put (fM_rf [0, 36] _) efv_1 (by decide)) efv_11 (by decide)), (fA_rf [] _), trivial⟩, ⟨by rw [ht]; exact hP, va_K.moved hW.alike hK⟩⟩, hS.F ht⟩) hS.2.2 dX12_give_34
    · skip
      exact absurd c_8 (by decide)
set_option maxHeartbeats 4000000 in
set_option maxRecDepth 100000 in
theorem m_fault (l : Launch) (dC : Nat → ClassId) (dI : Nat → Nat → Nat) (sz h : Nat) (ad : Nat → Nat) (cA : Nat → ClassId) (hd : dM h ad) (fv : Nat → Int32) (wd : Int64) (ar : Nat → Nat → Int32) (hF_fv : rF fv) (hA_ar : rA ar) : Met l yX12_fault (.code yX12_fault cX12_fault 1 (some .int) :: lw_good) ({ frames := 2, cells := 0, slots := 0, locals := 40 }) (va_Pc [.ref h] (prM dC dI h ad cA fv wd ar sz)) (va_Qi (fun (r : Int32) (u : mS) => rF u.1 ∧ rA u.2.2 ∧ fM [0] fv u.1 ∧ fA [] ar u.2.2 ∧ True) (enM dC dI h ad cA) (aM h ad sz)) 0 0 (aM h ad sz) := by
  refine Met.ofW (cc := cX12_fault) (maxL := 1) (ret := (some .int)) (by decide) rfl ?_
  intro p e s m args below meth c s₁ B hml hv
  obtain ⟨rfl, hsz, hP, hK⟩ := hv
  have hx := B.exec
  have hb := B.bytes
  have hr := B.returns
  have hts := atoms_spec (ws := (.code yX12_fault cX12_fault 1 (some .int) :: lw_good)) B.pre
  have htg : ∀ w ∈ lw_good, w.before _ s = true := fun w hw => hts w (List.mem_cons_of_mem _ hw)
  have hown : s.vm.findClass RX12 = some m.cls := findClass_of_methodNamed B.named
  have hlocks := B.notSynchronized
  subst hsz
  have hS : va_S (aM h ad s.heap.size) s.heap s.heap [] := va_S.rf
  have hl := lv_entry ([.ref h]) (n := 1) (Nat.le_of_ble_eq_true rfl)
  rw [lg_entry_eq]
  generalize (lg_sl ([.ref h]) ++ List.replicate (1 - (lg_sl ([.ref h])).length) Slot.unset).toArray = ls at hl ⊢
  have hl : lv_has ls 1 [(0, .ref h)] := hl
  refine lv_aload_n hx hb dX12_fault_0 rfl (lv_at hl 0 rfl) ?_
  refine lv_iconst (v := 0) hx hb dX12_fault_1 (by decide) ?_
  refine pM_0 hx hb htg hown hK hP hS hd dX12_fault_2 (fun H locs fv_1 efv_1 hP hS => ?_)
  have hF_fv_1 : rF fv_1 := rF_put hF_fv efv_1 (iv_any _)
  refine lv_aload_n hx hb dX12_fault_5 rfl (lv_at hl 0 rfl) ?_
  refine gM_43 hx hb htg hown hK hP dX12_fault_6 ?_
  refine my_ti (y := fv 43) ((congrFun efv_1 43)) ?_
  exact W.iret (v := fv 43) hx hb hr (fun t ht hW => ⟨⟨fv 43, (fv_1, wd, ar), rfl, ⟨hF_fv_1, hA_ar, (fM_put (fM_rf [0] _) efv_1 (by decide)), (fA_rf [] _), trivial⟩, ⟨by rw [ht]; exact hP, va_K.moved hW.alike hK⟩⟩, hS.F ht⟩) hS.2.2 dX12_fault_9
set_option maxHeartbeats 4000000 in
set_option maxRecDepth 100000 in
theorem m_why (l : Launch) (dC : Nat → ClassId) (dI : Nat → Nat → Nat) (sz h : Nat) (ad : Nat → Nat) (cA : Nat → ClassId) (hd : dM h ad) (fv : Nat → Int32) (wd : Int64) (ar : Nat → Nat → Int32) (hF_fv : rF fv) (hA_ar : rA ar) : Met l yX12_why (.code yX12_why cX12_why 1 (some .int) :: lw_good) ({ frames := 2, cells := 0, slots := 0, locals := 40 }) (va_Pc [.ref h] (prM dC dI h ad cA fv wd ar sz)) (va_Qi (fun (r : Int32) (u : mS) => rF u.1 ∧ rA u.2.2 ∧ fM [0] fv u.1 ∧ fA [] ar u.2.2 ∧ True) (enM dC dI h ad cA) (aM h ad sz)) 0 0 (aM h ad sz) := by
  refine Met.ofW (cc := cX12_why) (maxL := 1) (ret := (some .int)) (by decide) rfl ?_
  intro p e s m args below meth c s₁ B hml hv
  obtain ⟨rfl, hsz, hP, hK⟩ := hv
  have hx := B.exec
  have hb := B.bytes
  have hr := B.returns
  have hts := atoms_spec (ws := (.code yX12_why cX12_why 1 (some .int) :: lw_good)) B.pre
  have htg : ∀ w ∈ lw_good, w.before _ s = true := fun w hw => hts w (List.mem_cons_of_mem _ hw)
  have hown : s.vm.findClass RX12 = some m.cls := findClass_of_methodNamed B.named
  have hlocks := B.notSynchronized
  subst hsz
  have hS : va_S (aM h ad s.heap.size) s.heap s.heap [] := va_S.rf
  have hl := lv_entry ([.ref h]) (n := 1) (Nat.le_of_ble_eq_true rfl)
  rw [lg_entry_eq]
  generalize (lg_sl ([.ref h]) ++ List.replicate (1 - (lg_sl ([.ref h])).length) Slot.unset).toArray = ls at hl ⊢
  have hl : lv_has ls 1 [(0, .ref h)] := hl
  refine lv_aload_n hx hb dX12_why_0 rfl (lv_at hl 0 rfl) ?_
  refine lv_iconst (v := 0) hx hb dX12_why_1 (by decide) ?_
  refine pM_0 hx hb htg hown hK hP hS hd dX12_why_2 (fun H locs fv_1 efv_1 hP hS => ?_)
  have hF_fv_1 : rF fv_1 := rF_put hF_fv efv_1 (iv_any _)
  refine lv_aload_n hx hb dX12_why_5 rfl (lv_at hl 0 rfl) ?_
  refine gM_67 hx hb htg hown hK hP dX12_why_6 ?_
  refine my_ti (y := fv 67) ((congrFun efv_1 67)) ?_
  exact W.iret (v := fv 67) hx hb hr (fun t ht hW => ⟨⟨fv 67, (fv_1, wd, ar), rfl, ⟨hF_fv_1, hA_ar, (fM_put (fM_rf [0] _) efv_1 (by decide)), (fA_rf [] _), trivial⟩, ⟨by rw [ht]; exact hP, va_K.moved hW.alike hK⟩⟩, hS.F ht⟩) hS.2.2 dX12_why_9
set_option maxHeartbeats 4000000 in
set_option maxRecDepth 100000 in
theorem m_rode (l : Launch) (dC : Nat → ClassId) (dI : Nat → Nat → Nat) (sz h : Nat) (ad : Nat → Nat) (cA : Nat → ClassId) (hd : dM h ad) (fv : Nat → Int32) (wd : Int64) (ar : Nat → Nat → Int32) (hF_fv : rF fv) (hA_ar : rA ar) (a : Int32) : Met l yX12_rode (.code yX12_rode cX12_rode 2 (some .int) :: lw_good) ({ frames := 3, cells := 0, slots := 0, locals := 62 }) (va_Pc [.ref h, .int a] (prM dC dI h ad cA fv wd ar sz)) (va_Qi (fun (r : Int32) (u : mS) => rF u.1 ∧ rA u.2.2 ∧ fM [0] fv u.1 ∧ fA [] ar u.2.2 ∧ True) (enM dC dI h ad cA) (aM h ad sz)) 0 0 (aM h ad sz) := by
  refine Met.ofW (cc := cX12_rode) (maxL := 2) (ret := (some .int)) (by decide) rfl ?_
  intro p e s m args below meth c s₁ B hml hv
  obtain ⟨rfl, hsz, hP, hK⟩ := hv
  have hx := B.exec
  have hb := B.bytes
  have hr := B.returns
  have hts := atoms_spec (ws := (.code yX12_rode cX12_rode 2 (some .int) :: lw_good)) B.pre
  have htg : ∀ w ∈ lw_good, w.before _ s = true := fun w hw => hts w (List.mem_cons_of_mem _ hw)
  have hown : s.vm.findClass RX12 = some m.cls := findClass_of_methodNamed B.named
  have hlocks := B.notSynchronized
  subst hsz
  have hS : va_S (aM h ad s.heap.size) s.heap s.heap [] := va_S.rf
  have hl := lv_entry ([.ref h, .int a]) (n := 2) (Nat.le_of_ble_eq_true rfl)
  rw [lg_entry_eq]
  generalize (lg_sl ([.ref h, .int a]) ++ List.replicate (2 - (lg_sl ([.ref h, .int a])).length) Slot.unset).toArray = ls at hl ⊢
  have hl : lv_has ls 2 [(0, .ref h), (1, .int a)] := hl
  refine lv_aload_n hx hb dX12_rode_0 rfl (lv_at hl 0 rfl) ?_
  refine lv_iconst (v := 0) hx hb dX12_rode_1 (by decide) ?_
  refine pM_0 hx hb htg hown hK hP hS hd dX12_rode_2 (fun H locs fv_1 efv_1 hP hS => ?_)
  have hF_fv_1 : rF fv_1 := rF_put hF_fv efv_1 (iv_any _)
  refine lv_iload_n hx hb dX12_rode_5 rfl (lv_at hl 1 rfl) ?_
  refine lv_iconst (v := 0) hx hb dX12_rode_6 (by decide) ?_
  refine lv_aload_n hx hb dX12_rode_7 rfl (lv_at hl 0 rfl) ?_
  refine gM_35 hx hb htg hown hK hP dX12_rode_8 ?_
  refine my_ti (y := fv 35) ((congrFun efv_1 35)) ?_
  have i_2 : 0 ≤ (fv 35).toInt ∧ (fv 35).toInt ≤ 80 := hF_fv 35
  refine lv_iconst (v := 1) hx hb dX12_rode_11 (by decide) ?_
  refine lv_isub hx hb dX12_rode_12 ?_
  refine lv_topi (fun v_3 ev_3 => ?_)
  have t_4 : v_3.toInt = (fv 35).toInt - 1 ∧ (-1) ≤ v_3.toInt ∧ v_3.toInt ≤ 79 := iv_subc ev_3 i_2 (by decide) (by decide) (by decide)
  refine va_calli (va_runS (As := [.int a, .int 0, .int v_3]) (rest := []) ⟨hx, hb, hml, hown, hts⟩ (m_isIn l H.size a 0 v_3) (va_cwS 3 hts (gS kw_7_218 kw_7_219 kw_1_15 kw_7_220) rfl rfl rfl (by decide +kernel) ⟨Nat.le_of_ble_eq_true rfl, Nat.le_of_ble_eq_true rfl⟩) ⟨fun a U g mk q => ⟨q.1, q.2⟩, fun U hU hW => ⟨rfl, congrArg Array.size hU⟩⟩ rfl rfl hl.1 rfl (lv_room (Nat.le_of_ble_eq_true rfl)) dX12_rode_13 ⟨Nat.le_of_ble_eq_true rfl, Nat.le_of_ble_eq_true rfl⟩) hS (fun q _ h9 => nM_up hS q h9) (nM_up hS) (fun r_6 u t H1 locs ht _ hw hB _ hk1 hS => ?_)
  obtain ⟨p_7, p_8, -⟩ := hw
  have hP := my_keepM hP hk1
  generalize H1 = H at hP hS ⊢
  rcases p_8 with ⟨rfl, p_8⟩ | ⟨rfl, p_8⟩
  · skip
    refine lv_if_eq (tgt := 28) hx hb dX12_rode_16 (by decide) (fun c_9 => ?_) (fun c_9 => ?_)
    · skip
      refine lv_iconst (v := (-1)) hx hb dX12_rode_28 (by decide) ?_
      exact W.iret (v := (-1)) hx hb hr (fun t ht hW => ⟨⟨(-1), (fv_1, wd, ar), rfl, ⟨hF_fv_1, hA_ar, (fM_put (fM_rf [0] _) efv_1 (by decide)), (fA_rf [] _), trivial⟩, ⟨by rw [ht]; exact hP, va_K.moved hW.alike hK⟩⟩, hS.F ht⟩) hS.2.2 dX12_rode_29
    · skip
      exact absurd c_9 (by decide)
  · skip
    have i_10 : 0 ≤ a.toInt ∧ a.toInt ≤ 2147483647 := iv_le2 (⟨by decide, by decide⟩ : (0 : Int) ≤ (0 : Int32).toInt ∧ (0 : Int32).toInt ≤ 0) (iv_any a) (Int32.le_iff_toInt_le.mpr p_8.1)
    have i_11 : 0 ≤ a.toInt ∧ a.toInt ≤ 79 := iv_le1 i_10 t_4.2 (Int32.le_iff_toInt_le.mpr p_8.2)
    have i_12 : 0 ≤ v_3.toInt ∧ v_3.toInt ≤ 79 := iv_le2 i_10 t_4.2 (Int32.le_iff_toInt_le.mpr p_8.2)
    refine lv_if_eq (tgt := 28) hx hb dX12_rode_16 (by decide) (fun c_13 => ?_) (fun c_13 => ?_)
    · skip
      exact absurd c_13 (by decide)
    · skip
      refine lv_aload_n hx hb dX12_rode_19 rfl (lv_at hl 0 rfl) ?_
      refine gM_81 hx hb htg hown hK hP dX12_rode_20 ?_
      refine lv_iload_n hx hb dX12_rode_23 rfl (lv_at hl 1 rfl) ?_
      refine lM_81 hx hb hK hP (iv_in i_11 (by decide) (by decide)) dX12_rode_24 (fun v_14 ev_14 => ?_)
      refine lv_goto (tgt := 29) hx hb dX12_rode_25 (by decide) ?_
      exact W.iret (v := v_14) hx hb hr (fun t ht hW => ⟨⟨v_14, (fv_1, wd, ar), rfl, ⟨hF_fv_1, hA_ar, (fM_put (fM_rf [0] _) efv_1 (by decide)), (fA_rf [] _), trivial⟩, ⟨by rw [ht]; exact hP, va_K.moved hW.alike hK⟩⟩, hS.F ht⟩) hS.2.2 dX12_rode_29
set_option maxHeartbeats 4000000 in
set_option maxRecDepth 100000 in
theorem m_wheeled (l : Launch) (dC : Nat → ClassId) (dI : Nat → Nat → Nat) (sz h : Nat) (ad : Nat → Nat) (cA : Nat → ClassId) (hd : dM h ad) (fv : Nat → Int32) (wd : Int64) (ar : Nat → Nat → Int32) (hF_fv : rF fv) (hA_ar : rA ar) (a : Int32) (b : Int32) : Met l yX12_wheeled (.code yX12_wheeled cX12_wheeled 3 (some .int) :: lw_good) ({ frames := 3, cells := 0, slots := 0, locals := 61 }) (va_Pc [.ref h, .int a, .int b] (prM dC dI h ad cA fv wd ar sz)) (va_Qi (fun (r : Int32) (u : mS) => rF u.1 ∧ rA u.2.2 ∧ fM [0] fv u.1 ∧ fA [] ar u.2.2 ∧ True) (enM dC dI h ad cA) (aM h ad sz)) 0 0 (aM h ad sz) := by
  refine Met.ofW (cc := cX12_wheeled) (maxL := 3) (ret := (some .int)) (by decide) rfl ?_
  intro p e s m args below meth c s₁ B hml hv
  obtain ⟨rfl, hsz, hP, hK⟩ := hv
  have hx := B.exec
  have hb := B.bytes
  have hr := B.returns
  have hts := atoms_spec (ws := (.code yX12_wheeled cX12_wheeled 3 (some .int) :: lw_good)) B.pre
  have htg : ∀ w ∈ lw_good, w.before _ s = true := fun w hw => hts w (List.mem_cons_of_mem _ hw)
  have hown : s.vm.findClass RX12 = some m.cls := findClass_of_methodNamed B.named
  have hlocks := B.notSynchronized
  subst hsz
  have hS : va_S (aM h ad s.heap.size) s.heap s.heap [] := va_S.rf
  have hl := lv_entry ([.ref h, .int a, .int b]) (n := 3) (Nat.le_of_ble_eq_true rfl)
  rw [lg_entry_eq]
  generalize (lg_sl ([.ref h, .int a, .int b]) ++ List.replicate (3 - (lg_sl ([.ref h, .int a, .int b])).length) Slot.unset).toArray = ls at hl ⊢
  have hl : lv_has ls 3 [(0, .ref h), (1, .int a), (2, .int b)] := hl
  refine lv_aload_n hx hb dX12_wheeled_0 rfl (lv_at hl 0 rfl) ?_
  refine lv_iconst (v := 0) hx hb dX12_wheeled_1 (by decide) ?_
  refine pM_0 hx hb htg hown hK hP hS hd dX12_wheeled_2 (fun H locs fv_1 efv_1 hP hS => ?_)
  have hF_fv_1 : rF fv_1 := rF_put hF_fv efv_1 (iv_any _)
  refine lv_aload_n hx hb dX12_wheeled_5 rfl (lv_at hl 0 rfl) ?_
  refine lv_iload_n hx hb dX12_wheeled_6 rfl (lv_at hl 1 rfl) ?_
  refine va_calli (va_runV (As := [.int a]) (rest := []) ⟨hx, hb, hml, hown, hts⟩ (m_isWheel l dC dI H.size h ad cA hd fv_1 wd ar hF_fv_1 hA_ar a) (cwV 1 hts (gV kw_8_40 kw_8_42 kw_p_63 kw_1_15 kw_8_43) rfl rfl rfl (by decide +kernel) ⟨Nat.le_of_ble_eq_true rfl, Nat.le_of_ble_eq_true rfl⟩) ⟨fun a U g mk q => ⟨q.1, q.2.1, q.2.2.1, va_K.moved (u := U) (U := U.calling g mk a) (Vm.Alike.refl U.vm) q.2.2.2⟩, va_recv hK hP (ci := 12) (q0 := 0) rfl rfl, fun U hU hW => ⟨rfl, by rw [hU], by rw [hU]; exact hP, va_K.moved hW.alike hK⟩⟩ rfl rfl hl.1 rfl (lv_room (Nat.le_of_ble_eq_true rfl)) dX12_wheeled_7 ⟨Nat.le_of_ble_eq_true rfl, Nat.le_of_ble_eq_true rfl⟩) hS (fun q _ h9 => aM_up hS q h9) (aM_up hS) (fun r_2 u t H1 locs ht _ hw hB _ hk1 hS => ?_)
  obtain ⟨fv_5, wd_6, ar_7⟩ := u
  obtain ⟨hF_fv_5, hA_ar_7, fr_8, fa_9, p_3, p_4, -⟩ := hw
  have hP : va_P (dC, dI) vwCl (wsM h ad cA fv_5 wd_6 ar_7) H1 := by have h9 := hB.1; rw [ht] at h9; exact h9
  have fr_8 : fM [] fv_1 fv_5 := fr_8
  have fa_9 : fA [] ar ar_7 := fa_9
  generalize H1 = H at hP hS ⊢
  rcases p_4 with ⟨rfl, p_4⟩ | ⟨rfl, p_4⟩
  · skip
    refine lv_if_ne (tgt := 15) hx hb dX12_wheeled_10 (by decide) (fun c_10 => ?_) (fun c_10 => ?_)
    · skip
      exact absurd c_10 (by decide)
    · skip
      refine lv_iconst (v := (-1)) hx hb dX12_wheeled_13 (by decide) ?_
      exact W.iret (v := (-1)) hx hb hr (fun t ht hW => ⟨⟨(-1), (fv_5, wd_6, ar_7), rfl, ⟨hF_fv_5, hA_ar_7, (fM_call (fM_put (fM_rf [0] _) efv_1 (by decide)) fr_8 (by decide)), (fA_call (fA_rf [] _) fa_9 (by decide)), trivial⟩, ⟨by rw [ht]; exact hP, va_K.moved hW.alike hK⟩⟩, hS.F ht⟩) hS.2.2 dX12_wheeled_14
  · skip
    have i_11 : 0 ≤ a.toInt ∧ a.toInt ≤ 2147483647 := ⟨p_4.1, (iv_any a).2⟩
    have i_12 : 0 ≤ a.toInt ∧ a.toInt ≤ 19 := ⟨i_11.1, p_4.2⟩
    refine lv_if_ne (tgt := 15) hx hb dX12_wheeled_10 (by decide) (fun c_13 => ?_) (fun c_13 => ?_)
    · skip
      refine lv_iload_n hx hb dX12_wheeled_15 rfl (lv_at hl 2 rfl) ?_
      rcases iv_sw_0_4 b with w_14 | w_14 | w_14 | w_14 | w_14 | w_14
      · skip
        refine lv_tableOut (tgt := 76) hx hb dX12_wheeled_16 (Or.inl w_14) (by decide) ?_
        refine lv_iconst (v := (-1)) hx hb dX12_wheeled_76 (by decide) ?_
        exact W.iret (v := (-1)) hx hb hr (fun t ht hW => ⟨⟨(-1), (fv_5, wd_6, ar_7), rfl, ⟨hF_fv_5, hA_ar_7, (fM_call (fM_put (fM_rf [0] _) efv_1 (by decide)) fr_8 (by decide)), (fA_call (fA_rf [] _) fa_9 (by decide)), trivial⟩, ⟨by rw [ht]; exact hP, va_K.moved hW.alike hK⟩⟩, hS.F ht⟩) hS.2.2 dX12_wheeled_77
      · skip
        refine lv_tableOut (tgt := 76) hx hb dX12_wheeled_16 (Or.inr w_14) (by decide) ?_
        refine lv_iconst (v := (-1)) hx hb dX12_wheeled_76 (by decide) ?_
        exact W.iret (v := (-1)) hx hb hr (fun t ht hW => ⟨⟨(-1), (fv_5, wd_6, ar_7), rfl, ⟨hF_fv_5, hA_ar_7, (fM_call (fM_put (fM_rf [0] _) efv_1 (by decide)) fr_8 (by decide)), (fA_call (fA_rf [] _) fa_9 (by decide)), trivial⟩, ⟨by rw [ht]; exact hP, va_K.moved hW.alike hK⟩⟩, hS.F ht⟩) hS.2.2 dX12_wheeled_77
      · skip
        refine lv_tableIn (off := 32) (tgt := 48) hx hb dX12_wheeled_16 (by rw [w_14]; decide) (by rw [w_14]; decide) (by rw [w_14]; rfl) (by decide) ?_
        refine lv_aload_n hx hb dX12_wheeled_48 rfl (lv_at hl 0 rfl) ?_
        refine gM_78 hx hb htg hown hK hP dX12_wheeled_49 ?_
        refine lv_iload_n hx hb dX12_wheeled_52 rfl (lv_at hl 1 rfl) ?_
        refine lM_78 hx hb hK hP (iv_in i_12 (by decide) (by decide)) dX12_wheeled_53 (fun v_15 ev_15 => ?_)
        exact W.iret (v := v_15) hx hb hr (fun t ht hW => ⟨⟨v_15, (fv_5, wd_6, ar_7), rfl, ⟨hF_fv_5, hA_ar_7, (fM_call (fM_put (fM_rf [0] _) efv_1 (by decide)) fr_8 (by decide)), (fA_call (fA_rf [] _) fa_9 (by decide)), trivial⟩, ⟨by rw [ht]; exact hP, va_K.moved hW.alike hK⟩⟩, hS.F ht⟩) hS.2.2 dX12_wheeled_54
      · skip
        refine lv_tableIn (off := 39) (tgt := 55) hx hb dX12_wheeled_16 (by rw [w_14]; decide) (by rw [w_14]; decide) (by rw [w_14]; rfl) (by decide) ?_
        refine lv_aload_n hx hb dX12_wheeled_55 rfl (lv_at hl 0 rfl) ?_
        refine gM_79 hx hb htg hown hK hP dX12_wheeled_56 ?_
        refine lv_iload_n hx hb dX12_wheeled_59 rfl (lv_at hl 1 rfl) ?_
        refine lM_79 hx hb hK hP (iv_in i_12 (by decide) (by decide)) dX12_wheeled_60 (fun v_16 ev_16 => ?_)
        exact W.iret (v := v_16) hx hb hr (fun t ht hW => ⟨⟨v_16, (fv_5, wd_6, ar_7), rfl, ⟨hF_fv_5, hA_ar_7, (fM_call (fM_put (fM_rf [0] _) efv_1 (by decide)) fr_8 (by decide)), (fA_call (fA_rf [] _) fa_9 (by decide)), trivial⟩, ⟨by rw [ht]; exact hP, va_K.moved hW.alike hK⟩⟩, hS.F ht⟩) hS.2.2 dX12_wheeled_61
      · skip
        refine lv_tableIn (off := 46) (tgt := 62) hx hb dX12_wheeled_16 (by rw [w_14]; decide) (by rw [w_14]; decide) (by rw [w_14]; rfl) (by decide) ?_
        refine lv_aload_n hx hb dX12_wheeled_62 rfl (lv_at hl 0 rfl) ?_
        refine gM_24 hx hb htg hown hK hP dX12_wheeled_63 ?_
        refine lv_iload_n hx hb dX12_wheeled_66 rfl (lv_at hl 1 rfl) ?_
        refine lM_24 hx hb hK hP (iv_in i_12 (by decide) (by decide)) dX12_wheeled_67 (fun v_17 ev_17 => ?_)
        exact W.iret (v := v_17) hx hb hr (fun t ht hW => ⟨⟨v_17, (fv_5, wd_6, ar_7), rfl, ⟨hF_fv_5, hA_ar_7, (fM_call (fM_put (fM_rf [0] _) efv_1 (by decide)) fr_8 (by decide)), (fA_call (fA_rf [] _) fa_9 (by decide)), trivial⟩, ⟨by rw [ht]; exact hP, va_K.moved hW.alike hK⟩⟩, hS.F ht⟩) hS.2.2 dX12_wheeled_68
      · skip
        refine lv_tableIn (off := 53) (tgt := 69) hx hb dX12_wheeled_16 (by rw [w_14]; decide) (by rw [w_14]; decide) (by rw [w_14]; rfl) (by decide) ?_
        refine lv_aload_n hx hb dX12_wheeled_69 rfl (lv_at hl 0 rfl) ?_
        refine gM_76 hx hb htg hown hK hP dX12_wheeled_70 ?_
        refine lv_iload_n hx hb dX12_wheeled_73 rfl (lv_at hl 1 rfl) ?_
        refine lM_76 hx hb hK hP (iv_in i_12 (by decide) (by decide)) dX12_wheeled_74 (fun v_18 ev_18 => ?_)
        exact W.iret (v := v_18) hx hb hr (fun t ht hW => ⟨⟨v_18, (fv_5, wd_6, ar_7), rfl, ⟨hF_fv_5, hA_ar_7, (fM_call (fM_put (fM_rf [0] _) efv_1 (by decide)) fr_8 (by decide)), (fA_call (fA_rf [] _) fa_9 (by decide)), trivial⟩, ⟨by rw [ht]; exact hP, va_K.moved hW.alike hK⟩⟩, hS.F ht⟩) hS.2.2 dX12_wheeled_75
    · skip
      exact absurd c_13 (by decide)
set_option maxHeartbeats 4000000 in
set_option maxRecDepth 100000 in
theorem m_of (l : Launch) (dC : Nat → ClassId) (dI : Nat → Nat → Nat) (sz h : Nat) (ad : Nat → Nat) (cA : Nat → ClassId) (hd : dM h ad) (fv : Nat → Int32) (wd : Int64) (ar : Nat → Nat → Int32) (hF_fv : rF fv) (hA_ar : rA ar) (a : Int32) (b : Int32) : Met l yX12_of (.code yX12_of cX12_of 3 (some .int) :: lw_good) ({ frames := 3, cells := 0, slots := 0, locals := 62 }) (va_Pc [.ref h, .int a, .int b] (prM dC dI h ad cA fv wd ar sz)) (va_Qi (fun (r : Int32) (u : mS) => rF u.1 ∧ rA u.2.2 ∧ fM [0] fv u.1 ∧ fA [] ar u.2.2 ∧ True) (enM dC dI h ad cA) (aM h ad sz)) 0 0 (aM h ad sz) := by
  refine Met.ofW (cc := cX12_of) (maxL := 3) (ret := (some .int)) (by decide) rfl ?_
  intro p e s m args below meth c s₁ B hml hv
  obtain ⟨rfl, hsz, hP, hK⟩ := hv
  have hx := B.exec
  have hb := B.bytes
  have hr := B.returns
  have hts := atoms_spec (ws := (.code yX12_of cX12_of 3 (some .int) :: lw_good)) B.pre
  have htg : ∀ w ∈ lw_good, w.before _ s = true := fun w hw => hts w (List.mem_cons_of_mem _ hw)
  have hown : s.vm.findClass RX12 = some m.cls := findClass_of_methodNamed B.named
  have hlocks := B.notSynchronized
  subst hsz
  have hS : va_S (aM h ad s.heap.size) s.heap s.heap [] := va_S.rf
  have hl := lv_entry ([.ref h, .int a, .int b]) (n := 3) (Nat.le_of_ble_eq_true rfl)
  rw [lg_entry_eq]
  generalize (lg_sl ([.ref h, .int a, .int b]) ++ List.replicate (3 - (lg_sl ([.ref h, .int a, .int b])).length) Slot.unset).toArray = ls at hl ⊢
  have hl : lv_has ls 3 [(0, .ref h), (1, .int a), (2, .int b)] := hl
  refine lv_iload_n hx hb dX12_of_0 rfl (lv_at hl 1 rfl) ?_
  refine lv_iconst (v := 0) hx hb dX12_of_1 (by decide) ?_
  refine lv_aload_n hx hb dX12_of_2 rfl (lv_at hl 0 rfl) ?_
  refine gM_32 hx hb htg hown hK hP dX12_of_3 ?_
  have i_1 : 0 ≤ (fv 32).toInt ∧ (fv 32).toInt ≤ 40 := hF_fv 32
  refine lv_iconst (v := 1) hx hb dX12_of_6 (by decide) ?_
  refine lv_isub hx hb dX12_of_7 ?_
  refine lv_topi (fun v_2 ev_2 => ?_)
  have t_3 : v_2.toInt = (fv 32).toInt - 1 ∧ (-1) ≤ v_2.toInt ∧ v_2.toInt ≤ 39 := iv_subc ev_2 i_1 (by decide) (by decide) (by decide)
  refine va_calli (va_runS (As := [.int a, .int 0, .int v_2]) (rest := []) ⟨hx, hb, hml, hown, hts⟩ (m_isIn l s.heap.size a 0 v_2) (va_cwS 3 hts (gS kw_7_218 kw_7_219 kw_1_15 kw_7_220) rfl rfl rfl (by decide +kernel) ⟨Nat.le_of_ble_eq_true rfl, Nat.le_of_ble_eq_true rfl⟩) ⟨fun a U g mk q => ⟨q.1, q.2⟩, fun U hU hW => ⟨rfl, congrArg Array.size hU⟩⟩ rfl rfl hl.1 rfl (lv_room (Nat.le_of_ble_eq_true rfl)) dX12_of_8 ⟨Nat.le_of_ble_eq_true rfl, Nat.le_of_ble_eq_true rfl⟩) hS (fun q _ h9 => nM_up hS q h9) (nM_up hS) (fun r_5 u t H1 locs ht _ hw hB _ hk1 hS => ?_)
  obtain ⟨p_6, p_7, -⟩ := hw
  have hP := my_keepM hP hk1
  generalize H1 = H at hP hS ⊢
  rcases p_7 with ⟨rfl, p_7⟩ | ⟨rfl, p_7⟩
  · skip
    refine lv_if_eq (tgt := 24) hx hb dX12_of_11 (by decide) (fun c_8 => ?_) (fun c_8 => ?_)
    · skip
      refine lv_aload_n hx hb dX12_of_24 rfl (lv_at hl 0 rfl) ?_
      refine va_calli (va_runV (As := []) (rest := []) ⟨hx, hb, hml, hown, hts⟩ (m_refuse l dC dI H.size h ad cA hd fv wd ar hF_fv hA_ar) (cwV 0 hts (gV kw_9_8 kw_9_10 kw_p_100 kw_1_15 kw_9_11) rfl rfl rfl (by decide +kernel) ⟨Nat.le_of_ble_eq_true rfl, Nat.le_of_ble_eq_true rfl⟩) ⟨fun a U g mk q => ⟨q.1, q.2.1, q.2.2.1, va_K.moved (u := U) (U := U.calling g mk a) (Vm.Alike.refl U.vm) q.2.2.2⟩, va_recv hK hP (ci := 12) (q0 := 0) rfl rfl, fun U hU hW => ⟨rfl, by rw [hU], by rw [hU]; exact hP, va_K.moved hW.alike hK⟩⟩ rfl rfl hl.1 rfl (lv_room (Nat.le_of_ble_eq_true rfl)) dX12_of_25 ⟨Nat.le_of_ble_eq_true rfl, Nat.le_of_ble_eq_true rfl⟩) hS (fun q _ h9 => aM_up hS q h9) (aM_up hS) (fun r_9 u t H1 locs ht _ hw hB _ hk1 hS => ?_)
      obtain ⟨fv_10, wd_11, ar_12⟩ := u
      obtain ⟨hF_fv_10, hA_ar_12, fr_13, fa_14, -⟩ := hw
      have hP : va_P (dC, dI) vwCl (wsM h ad cA fv_10 wd_11 ar_12) H1 := by have h9 := hB.1; rw [ht] at h9; exact h9
      have fr_13 : fM [0] fv fv_10 := fr_13
      have fa_14 : fA [] ar ar_12 := fa_14
      generalize H1 = H at hP hS ⊢
      exact W.iret (v := r_9) hx hb hr (fun t ht hW => ⟨⟨r_9, (fv_10, wd_11, ar_12), rfl, ⟨hF_fv_10, hA_ar_12, (fM_call (fM_rf [0] _) fr_13 (by decide)), (fA_call (fA_rf [] _) fa_14 (by decide)), trivial⟩, ⟨by rw [ht]; exact hP, va_K.moved hW.alike hK⟩⟩, hS.F ht⟩) hS.2.2 dX12_of_28
    · skip
      exact absurd c_8 (by decide)
  · skip
    have i_15 : 0 ≤ a.toInt ∧ a.toInt ≤ 2147483647 := iv_le2 (⟨by decide, by decide⟩ : (0 : Int) ≤ (0 : Int32).toInt ∧ (0 : Int32).toInt ≤ 0) (iv_any a) (Int32.le_iff_toInt_le.mpr p_7.1)
    have i_16 : 0 ≤ a.toInt ∧ a.toInt ≤ 39 := iv_le1 i_15 t_3.2 (Int32.le_iff_toInt_le.mpr p_7.2)
    have i_17 : 0 ≤ v_2.toInt ∧ v_2.toInt ≤ 39 := iv_le2 i_15 t_3.2 (Int32.le_iff_toInt_le.mpr p_7.2)
    refine lv_if_eq (tgt := 24) hx hb dX12_of_11 (by decide) (fun c_18 => ?_) (fun c_18 => ?_)
    · skip
      exact absurd c_18 (by decide)
    · skip
      refine lv_iload_n hx hb dX12_of_14 rfl (lv_at hl 2 rfl) ?_
      refine lv_iconst (v := 0) hx hb dX12_of_15 (by decide) ?_
      refine lv_bipush (v := 6) hx hb dX12_of_16 (by decide) ?_
      refine va_calli (va_runS (As := [.int b, .int 0, .int 6]) (rest := []) ⟨hx, hb, hml, hown, hts⟩ (m_isIn l H.size b 0 6) (va_cwS 3 hts (gS kw_7_218 kw_7_219 kw_1_15 kw_7_220) rfl rfl rfl (by decide +kernel) ⟨Nat.le_of_ble_eq_true rfl, Nat.le_of_ble_eq_true rfl⟩) ⟨fun a U g mk q => ⟨q.1, q.2⟩, fun U hU hW => ⟨rfl, congrArg Array.size hU⟩⟩ rfl rfl hl.1 rfl (lv_room (Nat.le_of_ble_eq_true rfl)) dX12_of_18 ⟨Nat.le_of_ble_eq_true rfl, Nat.le_of_ble_eq_true rfl⟩) hS (fun q _ h9 => nM_up hS q h9) (nM_up hS) (fun r_19 u t H1 locs ht _ hw hB _ hk1 hS => ?_)
      obtain ⟨p_20, p_21, -⟩ := hw
      have hP := my_keepM hP hk1
      generalize H1 = H at hP hS ⊢
      rcases p_21 with ⟨rfl, p_21⟩ | ⟨rfl, p_21⟩
      · skip
        refine lv_if_ne (tgt := 29) hx hb dX12_of_21 (by decide) (fun c_22 => ?_) (fun c_22 => ?_)
        · skip
          exact absurd c_22 (by decide)
        · skip
          refine lv_aload_n hx hb dX12_of_24 rfl (lv_at hl 0 rfl) ?_
          refine va_calli (va_runV (As := []) (rest := []) ⟨hx, hb, hml, hown, hts⟩ (m_refuse l dC dI H.size h ad cA hd fv wd ar hF_fv hA_ar) (cwV 0 hts (gV kw_9_8 kw_9_10 kw_p_100 kw_1_15 kw_9_11) rfl rfl rfl (by decide +kernel) ⟨Nat.le_of_ble_eq_true rfl, Nat.le_of_ble_eq_true rfl⟩) ⟨fun a U g mk q => ⟨q.1, q.2.1, q.2.2.1, va_K.moved (u := U) (U := U.calling g mk a) (Vm.Alike.refl U.vm) q.2.2.2⟩, va_recv hK hP (ci := 12) (q0 := 0) rfl rfl, fun U hU hW => ⟨rfl, by rw [hU], by rw [hU]; exact hP, va_K.moved hW.alike hK⟩⟩ rfl rfl hl.1 rfl (lv_room (Nat.le_of_ble_eq_true rfl)) dX12_of_25 ⟨Nat.le_of_ble_eq_true rfl, Nat.le_of_ble_eq_true rfl⟩) hS (fun q _ h9 => aM_up hS q h9) (aM_up hS) (fun r_23 u t H1 locs ht _ hw hB _ hk1 hS => ?_)
          obtain ⟨fv_24, wd_25, ar_26⟩ := u
          obtain ⟨hF_fv_24, hA_ar_26, fr_27, fa_28, -⟩ := hw
          have hP : va_P (dC, dI) vwCl (wsM h ad cA fv_24 wd_25 ar_26) H1 := by have h9 := hB.1; rw [ht] at h9; exact h9
          have fr_27 : fM [0] fv fv_24 := fr_27
          have fa_28 : fA [] ar ar_26 := fa_28
          generalize H1 = H at hP hS ⊢
          exact W.iret (v := r_23) hx hb hr (fun t ht hW => ⟨⟨r_23, (fv_24, wd_25, ar_26), rfl, ⟨hF_fv_24, hA_ar_26, (fM_call (fM_rf [0] _) fr_27 (by decide)), (fA_call (fA_rf [] _) fa_28 (by decide)), trivial⟩, ⟨by rw [ht]; exact hP, va_K.moved hW.alike hK⟩⟩, hS.F ht⟩) hS.2.2 dX12_of_28
      · skip
        have i_29 : 0 ≤ b.toInt ∧ b.toInt ≤ 2147483647 := iv_le2 (⟨by decide, by decide⟩ : (0 : Int) ≤ (0 : Int32).toInt ∧ (0 : Int32).toInt ≤ 0) (iv_any b) (Int32.le_iff_toInt_le.mpr p_21.1)
        have i_30 : 0 ≤ b.toInt ∧ b.toInt ≤ 6 := iv_le1 i_29 (⟨by decide, by decide⟩ : (6 : Int) ≤ (6 : Int32).toInt ∧ (6 : Int32).toInt ≤ 6) (Int32.le_iff_toInt_le.mpr p_21.2)
        refine lv_if_ne (tgt := 29) hx hb dX12_of_21 (by decide) (fun c_31 => ?_) (fun c_31 => ?_)
        · skip
          refine lv_aload_n hx hb dX12_of_29 rfl (lv_at hl 0 rfl) ?_
          refine lv_iconst (v := 0) hx hb dX12_of_30 (by decide) ?_
          refine pM_0 hx hb htg hown hK hP hS hd dX12_of_31 (fun H locs fv_32 efv_32 hP hS => ?_)
          have hF_fv_32 : rF fv_32 := rF_put hF_fv efv_32 (iv_any _)
          refine lv_iload_n hx hb dX12_of_34 rfl (lv_at hl 2 rfl) ?_
          rcases iv_sw_0_6 b with w_33 | w_33 | w_33 | w_33 | w_33 | w_33 | w_33 | w_33
          · skip
            refine lv_tableOut (tgt := 114) hx hb dX12_of_35 (Or.inl w_33) (by decide) ?_
            refine lv_aload_n hx hb dX12_of_114 rfl (lv_at hl 0 rfl) ?_
            refine gM_18 hx hb htg hown hK hP dX12_of_115 ?_
            refine lv_iload_n hx hb dX12_of_118 rfl (lv_at hl 1 rfl) ?_
            refine lM_18 hx hb hK hP (iv_in i_16 (by decide) (by decide)) dX12_of_119 (fun v_34 ev_34 => ?_)
            exact W.iret (v := v_34) hx hb hr (fun t ht hW => ⟨⟨v_34, (fv_32, wd, ar), rfl, ⟨hF_fv_32, hA_ar, (fM_put (fM_rf [0] _) efv_32 (by decide)), (fA_rf [] _), trivial⟩, ⟨by rw [ht]; exact hP, va_K.moved hW.alike hK⟩⟩, hS.F ht⟩) hS.2.2 dX12_of_120
          · skip
            refine lv_tableOut (tgt := 114) hx hb dX12_of_35 (Or.inr w_33) (by decide) ?_
            refine lv_aload_n hx hb dX12_of_114 rfl (lv_at hl 0 rfl) ?_
            refine gM_18 hx hb htg hown hK hP dX12_of_115 ?_
            refine lv_iload_n hx hb dX12_of_118 rfl (lv_at hl 1 rfl) ?_
            refine lM_18 hx hb hK hP (iv_in i_16 (by decide) (by decide)) dX12_of_119 (fun v_35 ev_35 => ?_)
            exact W.iret (v := v_35) hx hb hr (fun t ht hW => ⟨⟨v_35, (fv_32, wd, ar), rfl, ⟨hF_fv_32, hA_ar, (fM_put (fM_rf [0] _) efv_32 (by decide)), (fA_rf [] _), trivial⟩, ⟨by rw [ht]; exact hP, va_K.moved hW.alike hK⟩⟩, hS.F ht⟩) hS.2.2 dX12_of_120
          · skip
            refine lv_tableIn (off := 37) (tgt := 72) hx hb dX12_of_35 (by rw [w_33]; decide) (by rw [w_33]; decide) (by rw [w_33]; rfl) (by decide) ?_
            refine lv_aload_n hx hb dX12_of_72 rfl (lv_at hl 0 rfl) ?_
            refine gM_72 hx hb htg hown hK hP dX12_of_73 ?_
            refine lv_iload_n hx hb dX12_of_76 rfl (lv_at hl 1 rfl) ?_
            refine lM_72 hx hb hK hP (iv_in i_16 (by decide) (by decide)) dX12_of_77 (fun v_36 ev_36 => ?_)
            exact W.iret (v := v_36) hx hb hr (fun t ht hW => ⟨⟨v_36, (fv_32, wd, ar), rfl, ⟨hF_fv_32, hA_ar, (fM_put (fM_rf [0] _) efv_32 (by decide)), (fA_rf [] _), trivial⟩, ⟨by rw [ht]; exact hP, va_K.moved hW.alike hK⟩⟩, hS.F ht⟩) hS.2.2 dX12_of_78
          · skip
            refine lv_tableIn (off := 44) (tgt := 79) hx hb dX12_of_35 (by rw [w_33]; decide) (by rw [w_33]; decide) (by rw [w_33]; rfl) (by decide) ?_
            refine lv_aload_n hx hb dX12_of_79 rfl (lv_at hl 0 rfl) ?_
            refine gM_73 hx hb htg hown hK hP dX12_of_80 ?_
            refine lv_iload_n hx hb dX12_of_83 rfl (lv_at hl 1 rfl) ?_
            refine lM_73 hx hb hK hP (iv_in i_16 (by decide) (by decide)) dX12_of_84 (fun v_37 ev_37 => ?_)
            exact W.iret (v := v_37) hx hb hr (fun t ht hW => ⟨⟨v_37, (fv_32, wd, ar), rfl, ⟨hF_fv_32, hA_ar, (fM_put (fM_rf [0] _) efv_32 (by decide)), (fA_rf [] _), trivial⟩, ⟨by rw [ht]; exact hP, va_K.moved hW.alike hK⟩⟩, hS.F ht⟩) hS.2.2 dX12_of_85
          · skip
            refine lv_tableIn (off := 51) (tgt := 86) hx hb dX12_of_35 (by rw [w_33]; decide) (by rw [w_33]; decide) (by rw [w_33]; rfl) (by decide) ?_
            refine lv_aload_n hx hb dX12_of_86 rfl (lv_at hl 0 rfl) ?_
            refine gM_74 hx hb htg hown hK hP dX12_of_87 ?_
            refine lv_iload_n hx hb dX12_of_90 rfl (lv_at hl 1 rfl) ?_
            refine lM_74 hx hb hK hP (iv_in i_16 (by decide) (by decide)) dX12_of_91 (fun v_38 ev_38 => ?_)
            exact W.iret (v := v_38) hx hb hr (fun t ht hW => ⟨⟨v_38, (fv_32, wd, ar), rfl, ⟨hF_fv_32, hA_ar, (fM_put (fM_rf [0] _) efv_32 (by decide)), (fA_rf [] _), trivial⟩, ⟨by rw [ht]; exact hP, va_K.moved hW.alike hK⟩⟩, hS.F ht⟩) hS.2.2 dX12_of_92
          · skip
            refine lv_tableIn (off := 58) (tgt := 93) hx hb dX12_of_35 (by rw [w_33]; decide) (by rw [w_33]; decide) (by rw [w_33]; rfl) (by decide) ?_
            refine lv_aload_n hx hb dX12_of_93 rfl (lv_at hl 0 rfl) ?_
            refine gM_75 hx hb htg hown hK hP dX12_of_94 ?_
            refine lv_iload_n hx hb dX12_of_97 rfl (lv_at hl 1 rfl) ?_
            refine lM_75 hx hb hK hP (iv_in i_16 (by decide) (by decide)) dX12_of_98 (fun v_39 ev_39 => ?_)
            exact W.iret (v := v_39) hx hb hr (fun t ht hW => ⟨⟨v_39, (fv_32, wd, ar), rfl, ⟨hF_fv_32, hA_ar, (fM_put (fM_rf [0] _) efv_32 (by decide)), (fA_rf [] _), trivial⟩, ⟨by rw [ht]; exact hP, va_K.moved hW.alike hK⟩⟩, hS.F ht⟩) hS.2.2 dX12_of_99
          · skip
            refine lv_tableIn (off := 65) (tgt := 100) hx hb dX12_of_35 (by rw [w_33]; decide) (by rw [w_33]; decide) (by rw [w_33]; rfl) (by decide) ?_
            refine lv_aload_n hx hb dX12_of_100 rfl (lv_at hl 0 rfl) ?_
            refine gM_16 hx hb htg hown hK hP dX12_of_101 ?_
            refine lv_iload_n hx hb dX12_of_104 rfl (lv_at hl 1 rfl) ?_
            refine lM_16 hx hb hK hP (iv_in i_16 (by decide) (by decide)) dX12_of_105 (fun v_40 ev_40 => ?_)
            exact W.iret (v := v_40) hx hb hr (fun t ht hW => ⟨⟨v_40, (fv_32, wd, ar), rfl, ⟨hF_fv_32, hA_ar, (fM_put (fM_rf [0] _) efv_32 (by decide)), (fA_rf [] _), trivial⟩, ⟨by rw [ht]; exact hP, va_K.moved hW.alike hK⟩⟩, hS.F ht⟩) hS.2.2 dX12_of_106
          · skip
            refine lv_tableIn (off := 72) (tgt := 107) hx hb dX12_of_35 (by rw [w_33]; decide) (by rw [w_33]; decide) (by rw [w_33]; rfl) (by decide) ?_
            refine lv_aload_n hx hb dX12_of_107 rfl (lv_at hl 0 rfl) ?_
            refine gM_15 hx hb htg hown hK hP dX12_of_108 ?_
            refine lv_iload_n hx hb dX12_of_111 rfl (lv_at hl 1 rfl) ?_
            refine lM_15 hx hb hK hP (iv_in i_16 (by decide) (by decide)) dX12_of_112 (fun v_41 ev_41 => ?_)
            exact W.iret (v := v_41) hx hb hr (fun t ht hW => ⟨⟨v_41, (fv_32, wd, ar), rfl, ⟨hF_fv_32, hA_ar, (fM_put (fM_rf [0] _) efv_32 (by decide)), (fA_rf [] _), trivial⟩, ⟨by rw [ht]; exact hP, va_K.moved hW.alike hK⟩⟩, hS.F ht⟩) hS.2.2 dX12_of_113
        · skip
          exact absurd c_31 (by decide)
set_option maxHeartbeats 4000000 in
set_option maxRecDepth 100000 in
theorem m_seatedAt (l : Launch) (dC : Nat → ClassId) (dI : Nat → Nat → Nat) (sz h : Nat) (ad : Nat → Nat) (cA : Nat → ClassId) (hd : dM h ad) (fv : Nat → Int32) (wd : Int64) (ar : Nat → Nat → Int32) (hF_fv : rF fv) (hA_ar : rA ar) (a : Int32) : Met l yX12_seatedAt (.code yX12_seatedAt cX12_seatedAt 2 (some .int) :: lw_good) ({ frames := 2, cells := 0, slots := 0, locals := 40 }) (va_Pc [.ref h, .int a] (prM dC dI h ad cA fv wd ar sz)) (va_Qi (fun (r : Int32) (u : mS) => rF u.1 ∧ rA u.2.2 ∧ fM [0] fv u.1 ∧ fA [] ar u.2.2 ∧ True) (enM dC dI h ad cA) (aM h ad sz)) 0 0 (aM h ad sz) := by
  refine Met.ofW (cc := cX12_seatedAt) (maxL := 2) (ret := (some .int)) (by decide) rfl ?_
  intro p e s m args below meth c s₁ B hml hv
  obtain ⟨rfl, hsz, hP, hK⟩ := hv
  have hx := B.exec
  have hb := B.bytes
  have hr := B.returns
  have hts := atoms_spec (ws := (.code yX12_seatedAt cX12_seatedAt 2 (some .int) :: lw_good)) B.pre
  have htg : ∀ w ∈ lw_good, w.before _ s = true := fun w hw => hts w (List.mem_cons_of_mem _ hw)
  have hown : s.vm.findClass RX12 = some m.cls := findClass_of_methodNamed B.named
  have hlocks := B.notSynchronized
  subst hsz
  have hS : va_S (aM h ad s.heap.size) s.heap s.heap [] := va_S.rf
  have hl := lv_entry ([.ref h, .int a]) (n := 2) (Nat.le_of_ble_eq_true rfl)
  rw [lg_entry_eq]
  generalize (lg_sl ([.ref h, .int a]) ++ List.replicate (2 - (lg_sl ([.ref h, .int a])).length) Slot.unset).toArray = ls at hl ⊢
  have hl : lv_has ls 2 [(0, .ref h), (1, .int a)] := hl
  refine lv_aload_n hx hb dX12_seatedAt_0 rfl (lv_at hl 0 rfl) ?_
  refine lv_iconst (v := 0) hx hb dX12_seatedAt_1 (by decide) ?_
  refine pM_0 hx hb htg hown hK hP hS hd dX12_seatedAt_2 (fun H locs fv_1 efv_1 hP hS => ?_)
  have hF_fv_1 : rF fv_1 := rF_put hF_fv efv_1 (iv_any _)
  refine lv_iload_n hx hb dX12_seatedAt_5 rfl (lv_at hl 1 rfl) ?_
  refine lv_if_lt (tgt := 26) hx hb dX12_seatedAt_6 (by decide) (fun c_2 => ?_) (fun c_2 => ?_)
  · skip
    have i_3 : (-2147483648) ≤ a.toInt ∧ a.toInt ≤ (-1) := iv_lt1 (iv_any a) (⟨by decide, by decide⟩ : (0 : Int) ≤ (0 : Int32).toInt ∧ (0 : Int32).toInt ≤ 0) c_2
    refine lv_iconst (v := (-1)) hx hb dX12_seatedAt_26 (by decide) ?_
    exact W.iret (v := (-1)) hx hb hr (fun t ht hW => ⟨⟨(-1), (fv_1, wd, ar), rfl, ⟨hF_fv_1, hA_ar, (fM_put (fM_rf [0] _) efv_1 (by decide)), (fA_rf [] _), trivial⟩, ⟨by rw [ht]; exact hP, va_K.moved hW.alike hK⟩⟩, hS.F ht⟩) hS.2.2 dX12_seatedAt_27
  · skip
    have i_4 : 0 ≤ a.toInt ∧ a.toInt ≤ 2147483647 := iv_le2 (⟨by decide, by decide⟩ : (0 : Int) ≤ (0 : Int32).toInt ∧ (0 : Int32).toInt ≤ 0) (iv_any a) (Int32.not_lt.mp c_2)
    refine lv_iload_n hx hb dX12_seatedAt_9 rfl (lv_at hl 1 rfl) ?_
    refine lv_aload_n hx hb dX12_seatedAt_10 rfl (lv_at hl 0 rfl) ?_
    refine gM_95 hx hb htg hown hK hP dX12_seatedAt_11 ?_
    refine my_ti (y := fv 95) ((congrFun efv_1 95)) ?_
    have i_5 : 0 ≤ (fv 95).toInt ∧ (fv 95).toInt ≤ 5 := hF_fv 95
    refine lv_icmp_ge (tgt := 26) hx hb dX12_seatedAt_14 (by decide) (fun c_6 => ?_) (fun c_6 => ?_)
    · skip
      refine lv_iconst (v := (-1)) hx hb dX12_seatedAt_26 (by decide) ?_
      exact W.iret (v := (-1)) hx hb hr (fun t ht hW => ⟨⟨(-1), (fv_1, wd, ar), rfl, ⟨hF_fv_1, hA_ar, (fM_put (fM_rf [0] _) efv_1 (by decide)), (fA_rf [] _), trivial⟩, ⟨by rw [ht]; exact hP, va_K.moved hW.alike hK⟩⟩, hS.F ht⟩) hS.2.2 dX12_seatedAt_27
    · skip
      have i_7 : 0 ≤ a.toInt ∧ a.toInt ≤ 4 := iv_lt1 i_4 i_5 (Int32.not_le.mp c_6)
      have i_8 : 1 ≤ (fv 95).toInt ∧ (fv 95).toInt ≤ 5 := iv_lt2 i_4 i_5 (Int32.not_le.mp c_6)
      refine lv_aload_n hx hb dX12_seatedAt_17 rfl (lv_at hl 0 rfl) ?_
      refine gM_92 hx hb htg hown hK hP dX12_seatedAt_18 ?_
      refine lv_iload_n hx hb dX12_seatedAt_21 rfl (lv_at hl 1 rfl) ?_
      refine lM_92 hx hb hK hP (iv_in i_7 (by decide) (by decide)) dX12_seatedAt_22 (fun v_9 ev_9 => ?_)
      refine lv_goto (tgt := 27) hx hb dX12_seatedAt_23 (by decide) ?_
      exact W.iret (v := v_9) hx hb hr (fun t ht hW => ⟨⟨v_9, (fv_1, wd, ar), rfl, ⟨hF_fv_1, hA_ar, (fM_put (fM_rf [0] _) efv_1 (by decide)), (fA_rf [] _), trivial⟩, ⟨by rw [ht]; exact hP, va_K.moved hW.alike hK⟩⟩, hS.F ht⟩) hS.2.2 dX12_seatedAt_27
set_option maxHeartbeats 4000000 in
set_option maxRecDepth 100000 in
theorem m_count (l : Launch) (dC : Nat → ClassId) (dI : Nat → Nat → Nat) (sz h : Nat) (ad : Nat → Nat) (cA : Nat → ClassId) (hd : dM h ad) (fv : Nat → Int32) (wd : Int64) (ar : Nat → Nat → Int32) (hF_fv : rF fv) (hA_ar : rA ar) (a : Int32) : Met l yX12_count (.code yX12_count cX12_count 2 (some .int) :: lw_good) ({ frames := 2, cells := 0, slots := 0, locals := 40 }) (va_Pc [.ref h, .int a] (prM dC dI h ad cA fv wd ar sz)) (va_Qi (fun (r : Int32) (u : mS) => rF u.1 ∧ rA u.2.2 ∧ fM [0] fv u.1 ∧ fA [] ar u.2.2 ∧ True) (enM dC dI h ad cA) (aM h ad sz)) 0 0 (aM h ad sz) := by
  refine Met.ofW (cc := cX12_count) (maxL := 2) (ret := (some .int)) (by decide) rfl ?_
  intro p e s m args below meth c s₁ B hml hv
  obtain ⟨rfl, hsz, hP, hK⟩ := hv
  have hx := B.exec
  have hb := B.bytes
  have hr := B.returns
  have hts := atoms_spec (ws := (.code yX12_count cX12_count 2 (some .int) :: lw_good)) B.pre
  have htg : ∀ w ∈ lw_good, w.before _ s = true := fun w hw => hts w (List.mem_cons_of_mem _ hw)
  have hown : s.vm.findClass RX12 = some m.cls := findClass_of_methodNamed B.named
  have hlocks := B.notSynchronized
  subst hsz
  have hS : va_S (aM h ad s.heap.size) s.heap s.heap [] := va_S.rf
  have hl := lv_entry ([.ref h, .int a]) (n := 2) (Nat.le_of_ble_eq_true rfl)
  rw [lg_entry_eq]
  generalize (lg_sl ([.ref h, .int a]) ++ List.replicate (2 - (lg_sl ([.ref h, .int a])).length) Slot.unset).toArray = ls at hl ⊢
  have hl : lv_has ls 2 [(0, .ref h), (1, .int a)] := hl
  refine lv_aload_n hx hb dX12_count_0 rfl (lv_at hl 0 rfl) ?_
  refine lv_iconst (v := 0) hx hb dX12_count_1 (by decide) ?_
  refine pM_0 hx hb htg hown hK hP hS hd dX12_count_2 (fun H locs fv_1 efv_1 hP hS => ?_)
  have hF_fv_1 : rF fv_1 := rF_put hF_fv efv_1 (iv_any _)
  refine lv_iload_n hx hb dX12_count_5 rfl (lv_at hl 1 rfl) ?_
  rcases iv_sw_0_8 a with w_2 | w_2 | w_2 | w_2 | w_2 | w_2 | w_2 | w_2 | w_2 | w_2
  · skip
    refine lv_tableOut (tgt := 92) hx hb dX12_count_6 (Or.inl w_2) (by decide) ?_
    refine lv_iconst (v := (-1)) hx hb dX12_count_92 (by decide) ?_
    exact W.iret (v := (-1)) hx hb hr (fun t ht hW => ⟨⟨(-1), (fv_1, wd, ar), rfl, ⟨hF_fv_1, hA_ar, (fM_put (fM_rf [0] _) efv_1 (by decide)), (fA_rf [] _), trivial⟩, ⟨by rw [ht]; exact hP, va_K.moved hW.alike hK⟩⟩, hS.F ht⟩) hS.2.2 dX12_count_93
  · skip
    refine lv_tableOut (tgt := 92) hx hb dX12_count_6 (Or.inr w_2) (by decide) ?_
    refine lv_iconst (v := (-1)) hx hb dX12_count_92 (by decide) ?_
    exact W.iret (v := (-1)) hx hb hr (fun t ht hW => ⟨⟨(-1), (fv_1, wd, ar), rfl, ⟨hF_fv_1, hA_ar, (fM_put (fM_rf [0] _) efv_1 (by decide)), (fA_rf [] _), trivial⟩, ⟨by rw [ht]; exact hP, va_K.moved hW.alike hK⟩⟩, hS.F ht⟩) hS.2.2 dX12_count_93
  · skip
    refine lv_tableIn (off := 46) (tgt := 52) hx hb dX12_count_6 (by rw [w_2]; decide) (by rw [w_2]; decide) (by rw [w_2]; rfl) (by decide) ?_
    refine lv_aload_n hx hb dX12_count_52 rfl (lv_at hl 0 rfl) ?_
    refine gM_3 hx hb htg hown hK hP dX12_count_53 ?_
    refine my_ti (y := fv 3) ((congrFun efv_1 3)) ?_
    have i_3 : 0 ≤ (fv 3).toInt ∧ (fv 3).toInt ≤ 199 := hF_fv 3
    exact W.iret (v := fv 3) hx hb hr (fun t ht hW => ⟨⟨fv 3, (fv_1, wd, ar), rfl, ⟨hF_fv_1, hA_ar, (fM_put (fM_rf [0] _) efv_1 (by decide)), (fA_rf [] _), trivial⟩, ⟨by rw [ht]; exact hP, va_K.moved hW.alike hK⟩⟩, hS.F ht⟩) hS.2.2 dX12_count_56
  · skip
    refine lv_tableIn (off := 51) (tgt := 57) hx hb dX12_count_6 (by rw [w_2]; decide) (by rw [w_2]; decide) (by rw [w_2]; rfl) (by decide) ?_
    refine lv_aload_n hx hb dX12_count_57 rfl (lv_at hl 0 rfl) ?_
    refine gM_32 hx hb htg hown hK hP dX12_count_58 ?_
    refine my_ti (y := fv 32) ((congrFun efv_1 32)) ?_
    have i_4 : 0 ≤ (fv 32).toInt ∧ (fv 32).toInt ≤ 40 := hF_fv 32
    exact W.iret (v := fv 32) hx hb hr (fun t ht hW => ⟨⟨fv 32, (fv_1, wd, ar), rfl, ⟨hF_fv_1, hA_ar, (fM_put (fM_rf [0] _) efv_1 (by decide)), (fA_rf [] _), trivial⟩, ⟨by rw [ht]; exact hP, va_K.moved hW.alike hK⟩⟩, hS.F ht⟩) hS.2.2 dX12_count_61
  · skip
    refine lv_tableIn (off := 56) (tgt := 62) hx hb dX12_count_6 (by rw [w_2]; decide) (by rw [w_2]; decide) (by rw [w_2]; rfl) (by decide) ?_
    refine lv_aload_n hx hb dX12_count_62 rfl (lv_at hl 0 rfl) ?_
    refine gM_33 hx hb htg hown hK hP dX12_count_63 ?_
    refine my_ti (y := fv 33) ((congrFun efv_1 33)) ?_
    have i_5 : 0 ≤ (fv 33).toInt ∧ (fv 33).toInt ≤ 8 := hF_fv 33
    exact W.iret (v := fv 33) hx hb hr (fun t ht hW => ⟨⟨fv 33, (fv_1, wd, ar), rfl, ⟨hF_fv_1, hA_ar, (fM_put (fM_rf [0] _) efv_1 (by decide)), (fA_rf [] _), trivial⟩, ⟨by rw [ht]; exact hP, va_K.moved hW.alike hK⟩⟩, hS.F ht⟩) hS.2.2 dX12_count_66
  · skip
    refine lv_tableIn (off := 61) (tgt := 67) hx hb dX12_count_6 (by rw [w_2]; decide) (by rw [w_2]; decide) (by rw [w_2]; rfl) (by decide) ?_
    refine lv_aload_n hx hb dX12_count_67 rfl (lv_at hl 0 rfl) ?_
    refine gM_34 hx hb htg hown hK hP dX12_count_68 ?_
    refine my_ti (y := fv 34) ((congrFun efv_1 34)) ?_
    have i_6 : 0 ≤ (fv 34).toInt ∧ (fv 34).toInt ≤ 20 := hF_fv 34
    exact W.iret (v := fv 34) hx hb hr (fun t ht hW => ⟨⟨fv 34, (fv_1, wd, ar), rfl, ⟨hF_fv_1, hA_ar, (fM_put (fM_rf [0] _) efv_1 (by decide)), (fA_rf [] _), trivial⟩, ⟨by rw [ht]; exact hP, va_K.moved hW.alike hK⟩⟩, hS.F ht⟩) hS.2.2 dX12_count_71
  · skip
    refine lv_tableIn (off := 66) (tgt := 72) hx hb dX12_count_6 (by rw [w_2]; decide) (by rw [w_2]; decide) (by rw [w_2]; rfl) (by decide) ?_
    refine lv_aload_n hx hb dX12_count_72 rfl (lv_at hl 0 rfl) ?_
    refine gM_35 hx hb htg hown hK hP dX12_count_73 ?_
    refine my_ti (y := fv 35) ((congrFun efv_1 35)) ?_
    have i_7 : 0 ≤ (fv 35).toInt ∧ (fv 35).toInt ≤ 80 := hF_fv 35
    exact W.iret (v := fv 35) hx hb hr (fun t ht hW => ⟨⟨fv 35, (fv_1, wd, ar), rfl, ⟨hF_fv_1, hA_ar, (fM_put (fM_rf [0] _) efv_1 (by decide)), (fA_rf [] _), trivial⟩, ⟨by rw [ht]; exact hP, va_K.moved hW.alike hK⟩⟩, hS.F ht⟩) hS.2.2 dX12_count_76
  · skip
    refine lv_tableIn (off := 71) (tgt := 77) hx hb dX12_count_6 (by rw [w_2]; decide) (by rw [w_2]; decide) (by rw [w_2]; rfl) (by decide) ?_
    refine lv_aload_n hx hb dX12_count_77 rfl (lv_at hl 0 rfl) ?_
    refine gM_58 hx hb htg hown hK hP dX12_count_78 ?_
    refine my_ti (y := fv 58) ((congrFun efv_1 58)) ?_
    have i_8 : 0 ≤ (fv 58).toInt ∧ (fv 58).toInt ≤ 10 := hF_fv 58
    exact W.iret (v := fv 58) hx hb hr (fun t ht hW => ⟨⟨fv 58, (fv_1, wd, ar), rfl, ⟨hF_fv_1, hA_ar, (fM_put (fM_rf [0] _) efv_1 (by decide)), (fA_rf [] _), trivial⟩, ⟨by rw [ht]; exact hP, va_K.moved hW.alike hK⟩⟩, hS.F ht⟩) hS.2.2 dX12_count_81
  · skip
    refine lv_tableIn (off := 76) (tgt := 82) hx hb dX12_count_6 (by rw [w_2]; decide) (by rw [w_2]; decide) (by rw [w_2]; rfl) (by decide) ?_
    refine lv_aload_n hx hb dX12_count_82 rfl (lv_at hl 0 rfl) ?_
    refine gM_36 hx hb htg hown hK hP dX12_count_83 ?_
    refine my_ti (y := fv 36) ((congrFun efv_1 36)) ?_
    exact W.iret (v := fv 36) hx hb hr (fun t ht hW => ⟨⟨fv 36, (fv_1, wd, ar), rfl, ⟨hF_fv_1, hA_ar, (fM_put (fM_rf [0] _) efv_1 (by decide)), (fA_rf [] _), trivial⟩, ⟨by rw [ht]; exact hP, va_K.moved hW.alike hK⟩⟩, hS.F ht⟩) hS.2.2 dX12_count_86
  · skip
    refine lv_tableIn (off := 81) (tgt := 87) hx hb dX12_count_6 (by rw [w_2]; decide) (by rw [w_2]; decide) (by rw [w_2]; rfl) (by decide) ?_
    refine lv_aload_n hx hb dX12_count_87 rfl (lv_at hl 0 rfl) ?_
    refine gM_2 hx hb htg hown hK hP dX12_count_88 ?_
    refine my_ti (y := fv 2) ((congrFun efv_1 2)) ?_
    have i_9 : 0 ≤ (fv 2).toInt ∧ (fv 2).toInt ≤ 340 := hF_fv 2
    exact W.iret (v := fv 2) hx hb hr (fun t ht hW => ⟨⟨fv 2, (fv_1, wd, ar), rfl, ⟨hF_fv_1, hA_ar, (fM_put (fM_rf [0] _) efv_1 (by decide)), (fA_rf [] _), trivial⟩, ⟨by rw [ht]; exact hP, va_K.moved hW.alike hK⟩⟩, hS.F ht⟩) hS.2.2 dX12_count_91

theorem dJx4a65c_size_8abf5_0 : decode cJx4a65c_size_8abf5 0 = .ok (.aload_n 0, 1) := by decide +kernel
theorem dJx4a65c_size_8abf5_1 : decode cJx4a65c_size_8abf5 1 = .ok (.getfield 48, 3) := by decide +kernel
theorem dJx4a65c_size_8abf5_4 : decode cJx4a65c_size_8abf5 4 = .ok (.ireturn, 1) := by decide +kernel
theorem dX11_count_0 : decode cX11_count 0 = .ok (.iload_n 1, 1) := by decide +kernel
theorem dX11_count_1 : decode cX11_count 1 = .ok (.tableswitch 120 0 7 #[47, 55, 66, 74, 85, 96, 107, 115], 47) := by decide +kernel
theorem dX11_count_48 : decode cX11_count 48 = .ok (.aload_n 0, 1) := by decide +kernel
theorem dX11_count_49 : decode cX11_count 49 = .ok (.getfield 16, 3) := by decide +kernel
theorem dX11_count_52 : decode cX11_count 52 = .ok (.getfield 57, 3) := by decide +kernel
theorem dX11_count_55 : decode cX11_count 55 = .ok (.ireturn, 1) := by decide +kernel
theorem dX11_count_56 : decode cX11_count 56 = .ok (.aload_n 0, 1) := by decide +kernel
theorem dX11_count_57 : decode cX11_count 57 = .ok (.getfield 16, 3) := by decide +kernel
theorem dX11_count_60 : decode cX11_count 60 = .ok (.getfield 79, 3) := by decide +kernel
theorem dX11_count_63 : decode cX11_count 63 = .ok (.getfield 236, 3) := by decide +kernel
theorem dX11_count_66 : decode cX11_count 66 = .ok (.ireturn, 1) := by decide +kernel
theorem dX11_count_67 : decode cX11_count 67 = .ok (.aload_n 0, 1) := by decide +kernel
theorem dX11_count_68 : decode cX11_count 68 = .ok (.getfield 16, 3) := by decide +kernel
theorem dX11_count_71 : decode cX11_count 71 = .ok (.getfield 89, 3) := by decide +kernel
theorem dX11_count_74 : decode cX11_count 74 = .ok (.ireturn, 1) := by decide +kernel
theorem dX11_count_75 : decode cX11_count 75 = .ok (.aload_n 0, 1) := by decide +kernel
theorem dX11_count_76 : decode cX11_count 76 = .ok (.getfield 16, 3) := by decide +kernel
theorem dX11_count_79 : decode cX11_count 79 = .ok (.getfield 101, 3) := by decide +kernel
theorem dX11_count_82 : decode cX11_count 82 = .ok (.getfield 237, 3) := by decide +kernel
theorem dX11_count_85 : decode cX11_count 85 = .ok (.ireturn, 1) := by decide +kernel
theorem dX11_count_86 : decode cX11_count 86 = .ok (.aload_n 0, 1) := by decide +kernel
theorem dX11_count_87 : decode cX11_count 87 = .ok (.getfield 16, 3) := by decide +kernel
theorem dX11_count_90 : decode cX11_count 90 = .ok (.getfield 116, 3) := by decide +kernel
theorem dX11_count_93 : decode cX11_count 93 = .ok (.getfield 238, 3) := by decide +kernel
theorem dX11_count_96 : decode cX11_count 96 = .ok (.ireturn, 1) := by decide +kernel
theorem dX11_count_97 : decode cX11_count 97 = .ok (.aload_n 0, 1) := by decide +kernel
theorem dX11_count_98 : decode cX11_count 98 = .ok (.getfield 16, 3) := by decide +kernel
theorem dX11_count_101 : decode cX11_count 101 = .ok (.getfield 154, 3) := by decide +kernel
theorem dX11_count_104 : decode cX11_count 104 = .ok (.invokevirtual 158, 3) := by decide +kernel
theorem dX11_count_107 : decode cX11_count 107 = .ok (.ireturn, 1) := by decide +kernel
theorem dX11_count_108 : decode cX11_count 108 = .ok (.aload_n 0, 1) := by decide +kernel
theorem dX11_count_109 : decode cX11_count 109 = .ok (.getfield 16, 3) := by decide +kernel
theorem dX11_count_112 : decode cX11_count 112 = .ok (.getfield 145, 3) := by decide +kernel
theorem dX11_count_115 : decode cX11_count 115 = .ok (.ireturn, 1) := by decide +kernel
theorem dX11_count_116 : decode cX11_count 116 = .ok (.aload_n 0, 1) := by decide +kernel
theorem dX11_count_117 : decode cX11_count 117 = .ok (.getfield 50, 3) := by decide +kernel
theorem dX11_count_120 : decode cX11_count 120 = .ok (.ireturn, 1) := by decide +kernel
theorem dX11_count_121 : decode cX11_count 121 = .ok (.iconst (-1), 1) := by decide +kernel
theorem dX11_count_122 : decode cX11_count 122 = .ok (.ireturn, 1) := by decide +kernel
theorem dX11_far_0 : decode cX11_far 0 = .ok (.iload_n 1, 1) := by decide +kernel
theorem dX11_far_1 : decode cX11_far 1 = .ok (.invokestatic 70, 3) := by decide +kernel
theorem dX11_far_4 : decode cX11_far 4 = .ok (.ifCond .eq 10, 3) := by decide +kernel
theorem dX11_far_7 : decode cX11_far 7 = .ok (.iload_n 2, 1) := by decide +kernel
theorem dX11_far_8 : decode cX11_far 8 = .ok (.invokestatic 70, 3) := by decide +kernel
theorem dX11_far_11 : decode cX11_far 11 = .ok (.ifCond .ne 5, 3) := by decide +kernel
theorem dX11_far_14 : decode cX11_far 14 = .ok (.iconst (-1), 1) := by decide +kernel
theorem dX11_far_15 : decode cX11_far 15 = .ok (.ireturn, 1) := by decide +kernel
theorem dX11_far_16 : decode cX11_far 16 = .ok (.aload_n 0, 1) := by decide +kernel
theorem dX11_far_17 : decode cX11_far 17 = .ok (.getfield 16, 3) := by decide +kernel
theorem dX11_far_20 : decode cX11_far 20 = .ok (.getfield 60, 3) := by decide +kernel
theorem dX11_far_23 : decode cX11_far 23 = .ok (.iload_n 1, 1) := by decide +kernel
theorem dX11_far_24 : decode cX11_far 24 = .ok (.iload_n 2, 1) := by decide +kernel
theorem dX11_far_25 : decode cX11_far 25 = .ok (.invokevirtual 74, 3) := by decide +kernel
theorem dX11_far_28 : decode cX11_far 28 = .ok (.istore_n 3, 1) := by decide +kernel
theorem dX11_far_29 : decode cX11_far 29 = .ok (.iload_n 3, 1) := by decide +kernel
theorem dX11_far_30 : decode cX11_far 30 = .ok (.ldc 78, 2) := by decide +kernel
theorem dX11_far_32 : decode cX11_far 32 = .ok (.if_icmp .lt 8, 3) := by decide +kernel
theorem dX11_far_35 : decode cX11_far 35 = .ok (.bipush (-2), 2) := by decide +kernel
theorem dX11_far_37 : decode cX11_far 37 = .ok (.goto 4, 3) := by decide +kernel
theorem dX11_far_40 : decode cX11_far 40 = .ok (.iload_n 3, 1) := by decide +kernel
theorem dX11_far_41 : decode cX11_far 41 = .ok (.ireturn, 1) := by decide +kernel
theorem dX11_give_0 : decode cX11_give 0 = .ok (.iload_n 1, 1) := by decide +kernel
theorem dX11_give_1 : decode cX11_give 1 = .ok (.iconst 1, 1) := by decide +kernel
theorem dX11_give_2 : decode cX11_give 2 = .ok (.if_icmp .lt 9, 3) := by decide +kernel
theorem dX11_give_5 : decode cX11_give 5 = .ok (.iload_n 1, 1) := by decide +kernel
theorem dX11_give_6 : decode cX11_give 6 = .ok (.ldc 144, 2) := by decide +kernel
theorem dX11_give_8 : decode cX11_give 8 = .ok (.if_icmp .le 5, 3) := by decide +kernel
theorem dX11_give_11 : decode cX11_give 11 = .ok (.iconst (-1), 1) := by decide +kernel
theorem dX11_give_12 : decode cX11_give 12 = .ok (.ireturn, 1) := by decide +kernel
theorem dX11_give_13 : decode cX11_give 13 = .ok (.aload_n 0, 1) := by decide +kernel
theorem dX11_give_14 : decode cX11_give 14 = .ok (.getfield 16, 3) := by decide +kernel
theorem dX11_give_17 : decode cX11_give 17 = .ok (.aload_n 0, 1) := by decide +kernel
theorem dX11_give_18 : decode cX11_give 18 = .ok (.getfield 16, 3) := by decide +kernel
theorem dX11_give_21 : decode cX11_give 21 = .ok (.getfield 145, 3) := by decide +kernel
theorem dX11_give_24 : decode cX11_give 24 = .ok (.iload_n 1, 1) := by decide +kernel
theorem dX11_give_25 : decode cX11_give 25 = .ok (.iadd, 1) := by decide +kernel
theorem dX11_give_26 : decode cX11_give 26 = .ok (.ldc 148, 2) := by decide +kernel
theorem dX11_give_28 : decode cX11_give 28 = .ok (.invokestatic 149, 3) := by decide +kernel
theorem dX11_give_31 : decode cX11_give 31 = .ok (.putfield 145, 3) := by decide +kernel
theorem dX11_give_34 : decode cX11_give 34 = .ok (.aload_n 0, 1) := by decide +kernel
theorem dX11_give_35 : decode cX11_give 35 = .ok (.getfield 16, 3) := by decide +kernel
theorem dX11_give_38 : decode cX11_give 38 = .ok (.getfield 145, 3) := by decide +kernel
theorem dX11_give_41 : decode cX11_give 41 = .ok (.ireturn, 1) := by decide +kernel
theorem dX11_next_0 : decode cX11_next 0 = .ok (.iload_n 1, 1) := by decide +kernel
theorem dX11_next_1 : decode cX11_next 1 = .ok (.ifCond .lt 25, 3) := by decide +kernel
theorem dX11_next_4 : decode cX11_next 4 = .ok (.iload_n 1, 1) := by decide +kernel
theorem dX11_next_5 : decode cX11_next 5 = .ok (.sipush 199, 3) := by decide +kernel
theorem dX11_next_8 : decode cX11_next 8 = .ok (.if_icmp .gt 18, 3) := by decide +kernel
theorem dX11_next_11 : decode cX11_next 11 = .ok (.aload_n 0, 1) := by decide +kernel
theorem dX11_next_12 : decode cX11_next 12 = .ok (.getfield 16, 3) := by decide +kernel
theorem dX11_next_15 : decode cX11_next 15 = .ok (.getfield 57, 3) := by decide +kernel
theorem dX11_next_18 : decode cX11_next 18 = .ok (.iload_n 1, 1) := by decide +kernel
theorem dX11_next_19 : decode cX11_next 19 = .ok (.iadd, 1) := by decide +kernel
theorem dX11_next_20 : decode cX11_next 20 = .ok (.sipush 199, 3) := by decide +kernel
theorem dX11_next_23 : decode cX11_next 23 = .ok (.if_icmp .le 5, 3) := by decide +kernel
theorem dX11_next_26 : decode cX11_next 26 = .ok (.iconst (-1), 1) := by decide +kernel
theorem dX11_next_27 : decode cX11_next 27 = .ok (.ireturn, 1) := by decide +kernel
theorem dX11_next_28 : decode cX11_next 28 = .ok (.aload_n 0, 1) := by decide +kernel
theorem dX11_next_29 : decode cX11_next 29 = .ok (.getfield 16, 3) := by decide +kernel
theorem dX11_next_32 : decode cX11_next 32 = .ok (.dup, 1) := by decide +kernel
theorem dX11_next_33 : decode cX11_next 33 = .ok (.getfield 57, 3) := by decide +kernel
theorem dX11_next_36 : decode cX11_next 36 = .ok (.iload_n 1, 1) := by decide +kernel
theorem dX11_next_37 : decode cX11_next 37 = .ok (.iadd, 1) := by decide +kernel
theorem dX11_next_38 : decode cX11_next 38 = .ok (.putfield 57, 3) := by decide +kernel
theorem dX11_next_41 : decode cX11_next 41 = .ok (.aload_n 0, 1) := by decide +kernel
theorem dX11_next_42 : decode cX11_next 42 = .ok (.getfield 16, 3) := by decide +kernel
theorem dX11_next_45 : decode cX11_next 45 = .ok (.getfield 57, 3) := by decide +kernel
theorem dX11_next_48 : decode cX11_next 48 = .ok (.ireturn, 1) := by decide +kernel
theorem dX11_street_0 : decode cX11_street 0 = .ok (.aload_n 0, 1) := by decide +kernel
theorem dX11_street_1 : decode cX11_street 1 = .ok (.getfield 16, 3) := by decide +kernel
theorem dX11_street_4 : decode cX11_street 4 = .ok (.getfield 60, 3) := by decide +kernel
theorem dX11_street_7 : decode cX11_street 7 = .ok (.iload_n 1, 1) := by decide +kernel
theorem dX11_street_8 : decode cX11_street 8 = .ok (.iload_n 2, 1) := by decide +kernel
theorem dX11_street_9 : decode cX11_street 9 = .ok (.iload_n 3, 1) := by decide +kernel
theorem dX11_street_10 : decode cX11_street 10 = .ok (.invokevirtual 64, 3) := by decide +kernel
theorem dX11_street_13 : decode cX11_street 13 = .ok (.ireturn, 1) := by decide +kernel
theorem dX4_between_0 : decode cX4_between 0 = .ok (.iload_n 1, 1) := by decide +kernel
theorem dX4_between_1 : decode cX4_between 1 = .ok (.ifCond .lt 19, 3) := by decide +kernel
theorem dX4_between_4 : decode cX4_between 4 = .ok (.iload_n 1, 1) := by decide +kernel
theorem dX4_between_5 : decode cX4_between 5 = .ok (.bipush 12, 2) := by decide +kernel
theorem dX4_between_7 : decode cX4_between 7 = .ok (.if_icmp .ge 13, 3) := by decide +kernel
theorem dX4_between_10 : decode cX4_between 10 = .ok (.iload_n 2, 1) := by decide +kernel
theorem dX4_between_11 : decode cX4_between 11 = .ok (.ifCond .lt 9, 3) := by decide +kernel
theorem dX4_between_14 : decode cX4_between 14 = .ok (.iload_n 2, 1) := by decide +kernel
theorem dX4_between_15 : decode cX4_between 15 = .ok (.bipush 12, 2) := by decide +kernel
theorem dX4_between_17 : decode cX4_between 17 = .ok (.if_icmp .lt 6, 3) := by decide +kernel
theorem dX4_between_20 : decode cX4_between 20 = .ok (.ldc 15, 2) := by decide +kernel
theorem dX4_between_22 : decode cX4_between 22 = .ok (.ireturn, 1) := by decide +kernel
theorem dX4_between_23 : decode cX4_between 23 = .ok (.aload_n 0, 1) := by decide +kernel
theorem dX4_between_24 : decode cX4_between 24 = .ok (.getfield 9, 3) := by decide +kernel
theorem dX4_between_27 : decode cX4_between 27 = .ok (.iload_n 1, 1) := by decide +kernel
theorem dX4_between_28 : decode cX4_between 28 = .ok (.bipush 12, 2) := by decide +kernel
theorem dX4_between_30 : decode cX4_between 30 = .ok (.imul, 1) := by decide +kernel
theorem dX4_between_31 : decode cX4_between 31 = .ok (.iload_n 2, 1) := by decide +kernel
theorem dX4_between_32 : decode cX4_between 32 = .ok (.iadd, 1) := by decide +kernel
theorem dX4_between_33 : decode cX4_between 33 = .ok (.iaload, 1) := by decide +kernel
theorem dX4_between_34 : decode cX4_between 34 = .ok (.ireturn, 1) := by decide +kernel
theorem dX4_lay_0 : decode cX4_lay 0 = .ok (.aload_n 0, 1) := by decide +kernel
theorem dX4_lay_1 : decode cX4_lay 1 = .ok (.getfield 16, 3) := by decide +kernel
theorem dX4_lay_4 : decode cX4_lay 4 = .ok (.bipush 30, 2) := by decide +kernel
theorem dX4_lay_6 : decode cX4_lay 6 = .ok (.if_icmp .ge 22, 3) := by decide +kernel
theorem dX4_lay_9 : decode cX4_lay 9 = .ok (.iload_n 1, 1) := by decide +kernel
theorem dX4_lay_10 : decode cX4_lay 10 = .ok (.invokestatic 20, 3) := by decide +kernel
theorem dX4_lay_13 : decode cX4_lay 13 = .ok (.ifCond .eq 15, 3) := by decide +kernel
theorem dX4_lay_16 : decode cX4_lay 16 = .ok (.iload_n 2, 1) := by decide +kernel
theorem dX4_lay_17 : decode cX4_lay 17 = .ok (.invokestatic 20, 3) := by decide +kernel
theorem dX4_lay_20 : decode cX4_lay 20 = .ok (.ifCond .eq 8, 3) := by decide +kernel
theorem dX4_lay_23 : decode cX4_lay 23 = .ok (.iload_n 1, 1) := by decide +kernel
theorem dX4_lay_24 : decode cX4_lay 24 = .ok (.iload_n 2, 1) := by decide +kernel
theorem dX4_lay_25 : decode cX4_lay 25 = .ok (.if_icmp .ne 5, 3) := by decide +kernel
theorem dX4_lay_28 : decode cX4_lay 28 = .ok (.iconst 0, 1) := by decide +kernel
theorem dX4_lay_29 : decode cX4_lay 29 = .ok (.ireturn, 1) := by decide +kernel
theorem dX4_lay_30 : decode cX4_lay 30 = .ok (.iload_n 3, 1) := by decide +kernel
theorem dX4_lay_31 : decode cX4_lay 31 = .ok (.iconst 1, 1) := by decide +kernel
theorem dX4_lay_32 : decode cX4_lay 32 = .ok (.if_icmp .lt 9, 3) := by decide +kernel
theorem dX4_lay_35 : decode cX4_lay 35 = .ok (.iload_n 3, 1) := by decide +kernel
theorem dX4_lay_36 : decode cX4_lay 36 = .ok (.bipush 99, 2) := by decide +kernel
theorem dX4_lay_38 : decode cX4_lay 38 = .ok (.if_icmp .le 5, 3) := by decide +kernel
theorem dX4_lay_41 : decode cX4_lay 41 = .ok (.iconst 0, 1) := by decide +kernel
theorem dX4_lay_42 : decode cX4_lay 42 = .ok (.ireturn, 1) := by decide +kernel
theorem dX4_lay_43 : decode cX4_lay 43 = .ok (.aload_n 0, 1) := by decide +kernel
theorem dX4_lay_44 : decode cX4_lay 44 = .ok (.dup, 1) := by decide +kernel
theorem dX4_lay_45 : decode cX4_lay 45 = .ok (.getfield 16, 3) := by decide +kernel
theorem dX4_lay_48 : decode cX4_lay 48 = .ok (.iconst 1, 1) := by decide +kernel
theorem dX4_lay_49 : decode cX4_lay 49 = .ok (.iadd, 1) := by decide +kernel
theorem dX4_lay_50 : decode cX4_lay 50 = .ok (.putfield 16, 3) := by decide +kernel
theorem dX4_lay_53 : decode cX4_lay 53 = .ok (.iconst 0, 1) := by decide +kernel
theorem dX4_lay_54 : decode cX4_lay 54 = .ok (.istore 4, 2) := by decide +kernel
theorem dX4_lay_56 : decode cX4_lay 56 = .ok (.iload 4, 2) := by decide +kernel
theorem dX4_lay_58 : decode cX4_lay 58 = .ok (.aload_n 0, 1) := by decide +kernel
theorem dX4_lay_59 : decode cX4_lay 59 = .ok (.getfield 9, 3) := by decide +kernel
theorem dX4_lay_62 : decode cX4_lay 62 = .ok (.arraylength, 1) := by decide +kernel
theorem dX4_lay_63 : decode cX4_lay 63 = .ok (.if_icmp .ge 85, 3) := by decide +kernel
theorem dX4_lay_66 : decode cX4_lay 66 = .ok (.iload 4, 2) := by decide +kernel
theorem dX4_lay_68 : decode cX4_lay 68 = .ok (.bipush 12, 2) := by decide +kernel
theorem dX4_lay_70 : decode cX4_lay 70 = .ok (.idiv, 1) := by decide +kernel
theorem dX4_lay_71 : decode cX4_lay 71 = .ok (.istore 5, 2) := by decide +kernel
theorem dX4_lay_73 : decode cX4_lay 73 = .ok (.iload 4, 2) := by decide +kernel
theorem dX4_lay_75 : decode cX4_lay 75 = .ok (.bipush 12, 2) := by decide +kernel
theorem dX4_lay_77 : decode cX4_lay 77 = .ok (.irem, 1) := by decide +kernel
theorem dX4_lay_78 : decode cX4_lay 78 = .ok (.istore 6, 2) := by decide +kernel
theorem dX4_lay_80 : decode cX4_lay 80 = .ok (.aload_n 0, 1) := by decide +kernel
theorem dX4_lay_81 : decode cX4_lay 81 = .ok (.iload 5, 2) := by decide +kernel
theorem dX4_lay_83 : decode cX4_lay 83 = .ok (.iload_n 1, 1) := by decide +kernel
theorem dX4_lay_84 : decode cX4_lay 84 = .ok (.invokevirtual 24, 3) := by decide +kernel
theorem dX4_lay_87 : decode cX4_lay 87 = .ok (.iload_n 3, 1) := by decide +kernel
theorem dX4_lay_88 : decode cX4_lay 88 = .ok (.iadd, 1) := by decide +kernel
theorem dX4_lay_89 : decode cX4_lay 89 = .ok (.aload_n 0, 1) := by decide +kernel
theorem dX4_lay_90 : decode cX4_lay 90 = .ok (.iload_n 2, 1) := by decide +kernel
theorem dX4_lay_91 : decode cX4_lay 91 = .ok (.iload 6, 2) := by decide +kernel
theorem dX4_lay_93 : decode cX4_lay 93 = .ok (.invokevirtual 24, 3) := by decide +kernel
theorem dX4_lay_96 : decode cX4_lay 96 = .ok (.iadd, 1) := by decide +kernel
theorem dX4_lay_97 : decode cX4_lay 97 = .ok (.istore 7, 2) := by decide +kernel
theorem dX4_lay_99 : decode cX4_lay 99 = .ok (.aload_n 0, 1) := by decide +kernel
theorem dX4_lay_100 : decode cX4_lay 100 = .ok (.iload 5, 2) := by decide +kernel
theorem dX4_lay_102 : decode cX4_lay 102 = .ok (.iload_n 2, 1) := by decide +kernel
theorem dX4_lay_103 : decode cX4_lay 103 = .ok (.invokevirtual 24, 3) := by decide +kernel
theorem dX4_lay_106 : decode cX4_lay 106 = .ok (.iload_n 3, 1) := by decide +kernel
theorem dX4_lay_107 : decode cX4_lay 107 = .ok (.iadd, 1) := by decide +kernel
theorem dX4_lay_108 : decode cX4_lay 108 = .ok (.aload_n 0, 1) := by decide +kernel
theorem dX4_lay_109 : decode cX4_lay 109 = .ok (.iload_n 1, 1) := by decide +kernel
theorem dX4_lay_110 : decode cX4_lay 110 = .ok (.iload 6, 2) := by decide +kernel
theorem dX4_lay_112 : decode cX4_lay 112 = .ok (.invokevirtual 24, 3) := by decide +kernel
theorem dX4_lay_115 : decode cX4_lay 115 = .ok (.iadd, 1) := by decide +kernel
theorem dX4_lay_116 : decode cX4_lay 116 = .ok (.istore 8, 2) := by decide +kernel
theorem dX4_lay_118 : decode cX4_lay 118 = .ok (.aload_n 0, 1) := by decide +kernel
theorem dX4_lay_119 : decode cX4_lay 119 = .ok (.getfield 9, 3) := by decide +kernel
theorem dX4_lay_122 : decode cX4_lay 122 = .ok (.iload 4, 2) := by decide +kernel
theorem dX4_lay_124 : decode cX4_lay 124 = .ok (.aload_n 0, 1) := by decide +kernel
theorem dX4_lay_125 : decode cX4_lay 125 = .ok (.getfield 9, 3) := by decide +kernel
theorem dX4_lay_128 : decode cX4_lay 128 = .ok (.iload 4, 2) := by decide +kernel
theorem dX4_lay_130 : decode cX4_lay 130 = .ok (.iaload, 1) := by decide +kernel
theorem dX4_lay_131 : decode cX4_lay 131 = .ok (.iload 7, 2) := by decide +kernel
theorem dX4_lay_133 : decode cX4_lay 133 = .ok (.iload 8, 2) := by decide +kernel
theorem dX4_lay_135 : decode cX4_lay 135 = .ok (.invokestatic 28, 3) := by decide +kernel
theorem dX4_lay_138 : decode cX4_lay 138 = .ok (.invokestatic 28, 3) := by decide +kernel
theorem dX4_lay_141 : decode cX4_lay 141 = .ok (.iastore, 1) := by decide +kernel
theorem dX4_lay_142 : decode cX4_lay 142 = .ok (.iinc 4 1, 3) := by decide +kernel
theorem dX4_lay_145 : decode cX4_lay 145 = .ok (.goto (-89), 3) := by decide +kernel
theorem dX4_lay_148 : decode cX4_lay 148 = .ok (.iconst 1, 1) := by decide +kernel
theorem dX4_lay_149 : decode cX4_lay 149 = .ok (.ireturn, 1) := by decide +kernel
theorem my_nz {r : Int32} (h : r = 0 ∨ r = 1) : narrow .boolean (.int r) = .int r := by rcases h with rfl | rfl <;> decide
def sp_far (a b : Int32) : Int32 := if (a < 0 ∨ 12 ≤ a) then -1 else if (b < 0 ∨ 12 ≤ b) then -1 else if a = b then 0 else -2
def sp_street (a b c : Int32) : Int32 := if (a < 0 ∨ 12 ≤ a) then 0 else if (b < 0 ∨ 12 ≤ b) then 0 else if a = b then 0 else if c < 1 then 0 else if 99 < c then 0 else 1
theorem sp_street01 (a b c : Int32) : sp_street a b c = 0 ∨ sp_street a b c = 1 := by unfold sp_street; (repeat' split) <;> simp
theorem my_c12 {a : Int32} (h1 : ¬ a < 0) (h2 : ¬ 12 ≤ a) : ∃ i : Nat, i < 12 ∧ a = nI i := by
  obtain ⟨j, hj, rfl⟩ := nI_of h1
  refine ⟨j, ?_, rfl⟩
  rcases Nat.lt_or_ge j 12 with h | h
  · exact h
  · exact absurd (nI_le (a := 12) (b := j) h hj) h2
theorem my_ix {a b v w : Int32} (h1 : ¬ a < 0) (h2 : ¬ 12 ≤ a) (h3 : ¬ b < 0) (h4 : ¬ 12 ≤ b) (ev : v = a * 12) (ew : w = v + b) : ∃ k : Nat, k < 144 ∧ w = nI k ∧ roadsG k = if a = b then 0 else 10000000 := by
  obtain ⟨i, hi, rfl⟩ := my_c12 h1 h2
  obtain ⟨j, hj, rfl⟩ := my_c12 h3 h4
  refine ⟨i * 12 + j, by omega, ?_, ?_⟩
  · rw [ew, ev, show (12 : Int32) = nI 12 from rfl, pk_mul, nI_add]
  · have e1 : (i * 12 + j) / 12 = i := by omega
    have e2 : (i * 12 + j) % 12 = j := by omega
    rw [roadsG, e1, e2]
    by_cases h : i = j
    · rw [if_pos h, if_pos (by rw [h])]
    · rw [if_neg h, if_neg (fun q => h ((nI_eq (by omega) (by omega)).mp q))]
theorem my_ixin {a b v w : Int32} (h1 : ¬ a < 0) (h2 : ¬ 12 ≤ a) (h3 : ¬ b < 0) (h4 : ¬ 12 ≤ b) (ev : v = a * 12) (ew : w = v + b) : vp_in w 144 := by
  obtain ⟨k, hk, e, -⟩ := my_ix h1 h2 h3 h4 ev ew
  rw [e]; exact vp_in_nI hk (by decide)
theorem my_far {a b v w x : Int32} {f : Nat → Int32} (hf : ∀ k, k < 144 → f k = roadsG k) (h1 : ¬ a < 0) (h2 : ¬ 12 ≤ a) (h3 : ¬ b < 0) (h4 : ¬ 12 ≤ b) (ev : v = a * 12) (ew : w = v + b) (ex : x = f w.toNatClampNeg) : x = if a = b then 0 else 10000000 := by
  obtain ⟨k, hk, e, g⟩ := my_ix h1 h2 h3 h4 ev ew
  rw [ex, my_cl e (by omega), hf k hk, g]
theorem my_give {a v : Int32} (h1 : ¬ a < 1) (h2 : a ≤ 100000) (ev : v = if (1000000 : Int32) < a then 1000000 else a) : v = sp_give a := by
  have q1 := h1; have q2 := h2
  have z : ¬ (1000000 : Int32) < a := by
    intro h
    rw [Int32.lt_iff_toInt_lt] at h
    rw [Int32.le_iff_toInt_le] at q2
    have e1 : (1000000 : Int32).toInt = 1000000 := by decide
    have e2 : (100000 : Int32).toInt = 100000 := by decide
    omega
  rw [ev, if_neg z, sp_give, if_neg h1, if_neg (Int32.not_lt.mpr h2)]
theorem my_sw8 (x : Int32) : x.toInt < 0 ∨ 7 < x.toInt ∨ x = 0 ∨ x = 1 ∨ x = 2 ∨ x = 3 ∨ x = 4 ∨ x = 5 ∨ x = 6 ∨ x = 7 := by
  by_cases h : x.toInt < 0
  · exact Or.inl h
  · by_cases h2 : 7 < x.toInt
    · exact Or.inr (Or.inl h2)
    · refine Or.inr (Or.inr ?_)
      have e : ∀ n : Int32, x = n ↔ x.toInt = n.toInt := fun n => ⟨fun q => by rw [q], fun q => Int32.toInt_inj.mp q⟩
      simp only [e]
      have z : (0 : Int32).toInt = 0 ∧ (1 : Int32).toInt = 1 ∧ (2 : Int32).toInt = 2 ∧ (3 : Int32).toInt = 3 ∧ (4 : Int32).toInt = 4 ∧ (5 : Int32).toInt = 5 ∧ (6 : Int32).toInt = 6 ∧ (7 : Int32).toInt = 7 := by decide
      omega
theorem sp_count_lo {a : Int32} (h : a.toInt < 0) : (-1 : Int32) = sp_count a := by rw [sp_count, if_pos (Int32.lt_iff_toInt_lt.mpr (by rw [my_n0]; exact h))]
theorem sp_count_hi {a : Int32} (h : 7 < a.toInt) : (-1 : Int32) = sp_count a := by rw [sp_count]; split; rfl; rw [if_pos (Int32.lt_iff_toInt_lt.mpr (by rw [my_n7]; exact h))]
theorem upd_0 (k : Nat) : upd (fun _ => 0) k 0 = (fun _ => 0) := by
  funext j
  by_cases h : j = k
  · subst h; rw [pk_us]
  · rw [pk_un h]
theorem my_farleaf0 {a b r : Int32} (h1 : ¬ a < 0 ∧ ¬ 12 ≤ a) (h2 : ¬ b < 0 ∧ ¬ 12 ≤ b) (hr : r = if a = b then 0 else 10000000) (c : r < 10000000) : r = sp_far a b := by
  by_cases h : a = b
  · rw [if_pos h] at hr
    rw [sp_far, if_neg (fun q => q.elim h1.1 h1.2), if_neg (fun q => q.elim h2.1 h2.2), if_pos h, hr]
  · rw [if_neg h] at hr
    rw [hr] at c
    exact absurd c (by decide)
theorem my_farleaf1 {a b r : Int32} (h1 : ¬ a < 0 ∧ ¬ 12 ≤ a) (h2 : ¬ b < 0 ∧ ¬ 12 ≤ b) (hr : r = if a = b then 0 else 10000000) (c : ¬ r < 10000000) : (-2 : Int32) = sp_far a b := by
  by_cases h : a = b
  · rw [if_pos h] at hr
    rw [hr] at c
    exact absurd (by decide) c
  · rw [sp_far, if_neg (fun q => q.elim h1.1 h1.2), if_neg (fun q => q.elim h2.1 h2.2), if_neg h]
set_option maxHeartbeats 4000000 in
set_option maxRecDepth 100000 in
theorem c_size (l : Launch) (dC : Nat → ClassId) (dI : Nat → Nat → Nat) (sz : Nat) (h0 : Nat) (m1 : Value) (m2 : Value) : Met l yJx4a65c_size_8abf5 (.code yJx4a65c_size_8abf5 cJx4a65c_size_8abf5 1 (some .int) :: lw_good) ({ frames := 2, cells := 0, slots := 0, locals := 60 }) (va_Pc [.ref h0] (fun U => U.heap.size = sz ∧ va_P (dC, dI) vwCl [(h0, .inr (0, [m1, m2, .int 0]))] U.heap ∧ va_K (dC, dI) vwCl [] U ∧ va_D (fun _ => True) [(h0, .inr (0, [m1, m2, .int 0]))])) (va_Qi (fun (r : Int32) (_ : Unit) => r = 0) (fun (_ : Unit) (t : State) => va_P (dC, dI) vwCl [(h0, .inr (0, [m1, m2, .int 0]))] t.heap ∧ va_K (dC, dI) vwCl [] t ∧ va_D (va_A [(h0, .inr (0, [m1, m2, .int 0]))] sz) [(h0, .inr (0, [m1, m2, .int 0]))]) (va_A [(h0, .inr (0, [m1, m2, .int 0]))] sz)) 0 0 (va_A [(h0, .inr (0, [m1, m2, .int 0]))] sz) := by
  refine Met.ofW (cc := cJx4a65c_size_8abf5) (maxL := 1) (ret := (some .int)) (by decide) rfl ?_
  intro p e s m args below meth c s₁ B hml hv
  obtain ⟨rfl, hsz, hP, hK, hD0⟩ := hv
  have hx := B.exec
  have hb := B.bytes
  have hr := B.returns
  have hts := atoms_spec (ws := (.code yJx4a65c_size_8abf5 cJx4a65c_size_8abf5 1 (some .int) :: lw_good)) B.pre
  have hown : s.vm.findClass RJx4a65c = some m.cls := findClass_of_methodNamed B.named
  have hlocks := B.notSynchronized
  subst hsz
  have hD := hD0.self (sz := s.heap.size)
  generalize hAe : va_A [(h0, .inr (0, [m1, m2, .int 0]))] s.heap.size = A at hD ⊢
  have hA : ∀ q : Nat, s.heap.size ≤ q → A q := fun q h => by rw [← hAe]; exact Or.inr h
  have hS : va_S A s.heap s.heap [] := va_S.rf
  have hP : va_P (dC, dI) vwCl [(h0, .inr (0, [m1, m2, .int 0]))] s.heap := hP
  have hl := lv_entry ([.ref h0]) (n := 1) (Nat.le_of_ble_eq_true rfl)
  rw [lg_entry_eq]
  generalize (lg_sl ([.ref h0]) ++ List.replicate (1 - (lg_sl ([.ref h0])).length) Slot.unset).toArray = ls at hl ⊢
  have hl : lv_has ls 1 [(0, .ref h0)] := hl
  refine lv_aload_n hx hb dJx4a65c_size_8abf5_0 rfl (lv_at hl 0 rfl) ?_
  refine va_get (D := (dC, dI)) (ci := 0) (v := .int 0) (C := RJx4a65c) (T := TJx4a65c) (N := 3) hx hb hts iCJx4a65c hown hK hP 0 rfl rfl 2 (by decide) (hts (.fieldLink RJx4a65c 48 "java/util/ArrayList" "size" "I") (List.mem_cons_of_mem _ kw_2_9)) (fun _ h9 => h9) rfl dJx4a65c_size_8abf5_1 ?_
  have hP9 := hP.sub (ws' := [(h0, .inr (0, [m1, m2, .int 0]))]) [0] rfl
  have hD9 := hD.sub (ws' := [(h0, .inr (0, [m1, m2, .int 0]))]) [0] (by decide) rfl
  have hK9 := hK.sub (tys' := []) [] rfl
  refine W.widen (k := 0) (n := 0) (Nat.le_of_ble_eq_true rfl) (Nat.le_of_ble_eq_true rfl) ?_
  exact W.iret (v := 0) hx hb hr (fun t ht hW => ⟨⟨0, (), rfl, rfl, ⟨by rw [ht]; exact hP9, va_K.moved hW.alike hK9, hD9⟩⟩, hS.F ht⟩) hS.2.2 dJx4a65c_size_8abf5_4
set_option maxHeartbeats 4000000 in
set_option maxRecDepth 100000 in
theorem x_next (l : Launch) (dC : Nat → ClassId) (dI : Nat → Nat → Nat) (sz : Nat) (a : Int32) (xX : Nat) (xT : Nat) (xW : Nat) (xR : Nat) (xM : Nat) (xS : Nat) (xRo : Nat) (xPe : Nat) (xWh : Nat) (xTr : Nat) (xCo : Nat) (xAl : Nat) (xNl : Nat) (xDr : Nat) (xFa : Nat) : Met l yX11_next (.code yX11_next cX11_next 2 (some .int) :: lw_good) ({ frames := 14, cells := 0, slots := 0, locals := 500 }) (va_Pc [.ref xX, .int a] (fun U => U.heap.size = sz ∧ va_P (dC, dI) vwCl [(xX, .inr (11, [.ref xT, .int 0, .ref xW, .ref xR, .ref xM, .ref xS, .int (-1), .int 0, .int (-1)])), (xW, .inr (7, [.ref xRo, .ref xPe, .ref xWh, .ref xTr, .ref xCo, .int 0, .ref xAl, .ref xNl, .ref xDr, .int 0, .ref xFa, .int 0, .int 0, .int 0]))] U.heap ∧ va_K (dC, dI) vwCl [] U ∧ va_D (fun _ => True) [(xX, .inr (11, [.ref xT, .int 0, .ref xW, .ref xR, .ref xM, .ref xS, .int (-1), .int 0, .int (-1)])), (xW, .inr (7, [.ref xRo, .ref xPe, .ref xWh, .ref xTr, .ref xCo, .int 0, .ref xAl, .ref xNl, .ref xDr, .int 0, .ref xFa, .int 0, .int 0, .int 0]))])) (va_Qi (fun (r : Int32) (_ : Unit) => r = sp_next a) (fun (_ : Unit) (_ : State) => True) (va_A [(xX, .inr (11, [.ref xT, .int 0, .ref xW, .ref xR, .ref xM, .ref xS, .int (-1), .int 0, .int (-1)])), (xW, .inr (7, [.ref xRo, .ref xPe, .ref xWh, .ref xTr, .ref xCo, .int 0, .ref xAl, .ref xNl, .ref xDr, .int 0, .ref xFa, .int 0, .int 0, .int 0]))] sz)) 0 0 (va_A [(xX, .inr (11, [.ref xT, .int 0, .ref xW, .ref xR, .ref xM, .ref xS, .int (-1), .int 0, .int (-1)])), (xW, .inr (7, [.ref xRo, .ref xPe, .ref xWh, .ref xTr, .ref xCo, .int 0, .ref xAl, .ref xNl, .ref xDr, .int 0, .ref xFa, .int 0, .int 0, .int 0]))] sz) := by
  refine Met.ofW (cc := cX11_next) (maxL := 2) (ret := (some .int)) (by decide) rfl ?_
  intro p e s m args below meth c s₁ B hml hv
  obtain ⟨rfl, hsz, hP, hK, hD0⟩ := hv
  have hx := B.exec
  have hb := B.bytes
  have hr := B.returns
  have hts := atoms_spec (ws := (.code yX11_next cX11_next 2 (some .int) :: lw_good)) B.pre
  have hown : s.vm.findClass RX11 = some m.cls := findClass_of_methodNamed B.named
  have hlocks := B.notSynchronized
  subst hsz
  have hD := hD0.self (sz := s.heap.size)
  generalize hAe : va_A [(xX, .inr (11, [.ref xT, .int 0, .ref xW, .ref xR, .ref xM, .ref xS, .int (-1), .int 0, .int (-1)])), (xW, .inr (7, [.ref xRo, .ref xPe, .ref xWh, .ref xTr, .ref xCo, .int 0, .ref xAl, .ref xNl, .ref xDr, .int 0, .ref xFa, .int 0, .int 0, .int 0]))] s.heap.size = A at hD ⊢
  have hA : ∀ q : Nat, s.heap.size ≤ q → A q := fun q h => by rw [← hAe]; exact Or.inr h
  have hS : va_S A s.heap s.heap [] := va_S.rf
  have hP : va_P (dC, dI) vwCl [(xX, .inr (11, [.ref xT, .int 0, .ref xW, .ref xR, .ref xM, .ref xS, .int (-1), .int 0, .int (-1)])), (xW, .inr (7, [.ref xRo, .ref xPe, .ref xWh, .ref xTr, .ref xCo, .int 0, .ref xAl, .ref xNl, .ref xDr, .int 0, .ref xFa, .int 0, .int 0, .int 0]))] s.heap := hP
  have hl := lv_entry ([.ref xX, .int a]) (n := 2) (Nat.le_of_ble_eq_true rfl)
  rw [lg_entry_eq]
  generalize (lg_sl ([.ref xX, .int a]) ++ List.replicate (2 - (lg_sl ([.ref xX, .int a])).length) Slot.unset).toArray = ls at hl ⊢
  have hl : lv_has ls 2 [(0, .ref xX), (1, .int a)] := hl
  refine lv_iload_n hx hb dX11_next_0 rfl (lv_at hl 1 rfl) ?_
  refine lv_if_lt (tgt := 26) hx hb dX11_next_1 (by decide) (fun c_1 => ?_) (fun c_1 => ?_)
  · skip
    refine lv_iconst (v := (-1)) hx hb dX11_next_26 (by decide) ?_
    refine W.widen (k := 0) (n := 0) (Nat.le_of_ble_eq_true rfl) (Nat.le_of_ble_eq_true rfl) ?_
    exact W.iret (v := (-1)) hx hb hr (fun t ht hW => ⟨⟨(-1), (), rfl, (by first | (simp [sp_next, c_1]; done) | (have q0 := c_1; try simp only [Int32.lt_iff_toInt_lt, Int32.le_iff_toInt_le, my_n0, my_n1, my_n12, my_n99, my_n199, my_n200, my_n100000, my_nm1, my_n7] at q0; simp only [sp_next, Int32.lt_iff_toInt_lt, Int32.le_iff_toInt_le, my_n0, my_n1, my_n12, my_n99, my_n199, my_n200, my_n100000, my_nm1, my_n7]; (repeat' split) <;> first | rfl | omega)), trivial⟩, hS.F ht⟩) hS.2.2 dX11_next_27
  · skip
    refine lv_iload_n hx hb dX11_next_4 rfl (lv_at hl 1 rfl) ?_
    refine lv_sipush (v := 199) hx hb dX11_next_5 (by decide) ?_
    refine lv_icmp_gt (tgt := 26) hx hb dX11_next_8 (by decide) (fun c_2 => ?_) (fun c_2 => ?_)
    · skip
      refine lv_iconst (v := (-1)) hx hb dX11_next_26 (by decide) ?_
      refine W.widen (k := 0) (n := 0) (Nat.le_of_ble_eq_true rfl) (Nat.le_of_ble_eq_true rfl) ?_
      exact W.iret (v := (-1)) hx hb hr (fun t ht hW => ⟨⟨(-1), (), rfl, (by first | (simp [sp_next, c_1, c_2]; done) | (have q0 := c_1; have q1 := c_2; try simp only [Int32.lt_iff_toInt_lt, Int32.le_iff_toInt_le, my_n0, my_n1, my_n12, my_n99, my_n199, my_n200, my_n100000, my_nm1, my_n7] at q0 q1; simp only [sp_next, Int32.lt_iff_toInt_lt, Int32.le_iff_toInt_le, my_n0, my_n1, my_n12, my_n99, my_n199, my_n200, my_n100000, my_nm1, my_n7]; (repeat' split) <;> first | rfl | omega)), trivial⟩, hS.F ht⟩) hS.2.2 dX11_next_27
    · skip
      refine lv_aload_n hx hb dX11_next_11 rfl (lv_at hl 0 rfl) ?_
      refine va_get (D := (dC, dI)) (ci := 11) (v := .ref xW) (C := RX11) (T := TX11) (N := 9) hx hb hts iCX11 hown hK hP 0 rfl rfl 2 (by decide) (hts (.fieldLink RX11 16 "WalkingTown" "town" "LWalkingTown$Town;") (List.mem_cons_of_mem _ kw_3_93)) (fun _ h9 => h9) rfl dX11_next_12 ?_
      refine va_get (D := (dC, dI)) (ci := 7) (v := .int 0) (C := RX7) (T := TX7) (N := 14) hx hb hts iCX7 hown hK hP 1 rfl rfl 12 (by decide) (hts (.fieldLink RX11 57 "WalkingTown$Town" "today" "I") (List.mem_cons_of_mem _ kw_2_97)) (fun _ h9 => h9) rfl dX11_next_15 ?_
      refine lv_iload_n hx hb dX11_next_18 rfl (lv_at hl 1 rfl) ?_
      refine lv_iadd hx hb dX11_next_19 ?_
      refine my_ti (y := a) (Int32.zero_add _) ?_
      refine lv_sipush (v := 199) hx hb dX11_next_20 (by decide) ?_
      refine lv_icmp_le (tgt := 28) hx hb dX11_next_23 (by decide) (fun c_3 => ?_) (fun c_3 => ?_)
      rotate_left
      · exact (c_3 (Int32.not_lt.mp c_2)).elim
      refine lv_aload_n hx hb dX11_next_28 rfl (lv_at hl 0 rfl) ?_
      refine va_get (D := (dC, dI)) (ci := 11) (v := .ref xW) (C := RX11) (T := TX11) (N := 9) hx hb hts iCX11 hown hK hP 0 rfl rfl 2 (by decide) (hts (.fieldLink RX11 16 "WalkingTown" "town" "LWalkingTown$Town;") (List.mem_cons_of_mem _ kw_3_93)) (fun _ h9 => h9) rfl dX11_next_29 ?_
      refine lv_dup hx hb dX11_next_32 rfl ?_
      refine va_get (D := (dC, dI)) (ci := 7) (v := .int 0) (C := RX7) (T := TX7) (N := 14) hx hb hts iCX7 hown hK hP 1 rfl rfl 12 (by decide) (hts (.fieldLink RX11 57 "WalkingTown$Town" "today" "I") (List.mem_cons_of_mem _ kw_2_97)) (fun _ h9 => h9) rfl dX11_next_33 ?_
      refine lv_iload_n hx hb dX11_next_36 rfl (lv_at hl 1 rfl) ?_
      refine lv_iadd hx hb dX11_next_37 ?_
      refine my_ti (y := a) (Int32.zero_add _) ?_
      refine va_put (D := (dC, dI)) (ci := 7) (v := .int a) (ty := .int) (C := RX7) (T := TX7) (N := 14) hx hb hts iCX7 tyX7 tyX7_ok nmX7 hown hK hP hD hS 1 rfl rfl 12 (by decide) (hts (.fieldLink RX11 57 "WalkingTown$Town" "today" "I") (List.mem_cons_of_mem _ kw_2_97)) (fun _ h9 => h9) rfl (by decide +kernel) rfl rfl (Nat.le_of_ble_eq_true rfl) dX11_next_38 (fun H locs hP hD hS => ?_)
      have hP : va_P (dC, dI) vwCl [(xX, .inr (11, [.ref xT, .int 0, .ref xW, .ref xR, .ref xM, .ref xS, .int (-1), .int 0, .int (-1)])), (xW, .inr (7, [.ref xRo, .ref xPe, .ref xWh, .ref xTr, .ref xCo, .int 0, .ref xAl, .ref xNl, .ref xDr, .int 0, .ref xFa, .int 0, .int a, .int 0]))] H := hP
      have hD : va_D A [(xX, .inr (11, [.ref xT, .int 0, .ref xW, .ref xR, .ref xM, .ref xS, .int (-1), .int 0, .int (-1)])), (xW, .inr (7, [.ref xRo, .ref xPe, .ref xWh, .ref xTr, .ref xCo, .int 0, .ref xAl, .ref xNl, .ref xDr, .int 0, .ref xFa, .int 0, .int a, .int 0]))] := hD
      refine lv_aload_n hx hb dX11_next_41 rfl (lv_at hl 0 rfl) ?_
      refine va_get (D := (dC, dI)) (ci := 11) (v := .ref xW) (C := RX11) (T := TX11) (N := 9) hx hb hts iCX11 hown hK hP 0 rfl rfl 2 (by decide) (hts (.fieldLink RX11 16 "WalkingTown" "town" "LWalkingTown$Town;") (List.mem_cons_of_mem _ kw_3_93)) (fun _ h9 => h9) rfl dX11_next_42 ?_
      refine va_get (D := (dC, dI)) (ci := 7) (v := .int a) (C := RX7) (T := TX7) (N := 14) hx hb hts iCX7 hown hK hP 1 rfl rfl 12 (by decide) (hts (.fieldLink RX11 57 "WalkingTown$Town" "today" "I") (List.mem_cons_of_mem _ kw_2_97)) (fun _ h9 => h9) rfl dX11_next_45 ?_
      refine W.widen (k := 0) (n := 0) (Nat.le_of_ble_eq_true rfl) (Nat.le_of_ble_eq_true rfl) ?_
      exact W.iret (v := a) hx hb hr (fun t ht hW => ⟨⟨a, (), rfl, (by first | (simp [sp_next, c_1, c_2, c_3]; done) | (have q0 := c_1; have q1 := c_2; have q2 := c_3; try simp only [Int32.lt_iff_toInt_lt, Int32.le_iff_toInt_le, my_n0, my_n1, my_n12, my_n99, my_n199, my_n200, my_n100000, my_nm1, my_n7] at q0 q1 q2; simp only [sp_next, Int32.lt_iff_toInt_lt, Int32.le_iff_toInt_le, my_n0, my_n1, my_n12, my_n99, my_n199, my_n200, my_n100000, my_nm1, my_n7]; (repeat' split) <;> first | rfl | omega)), trivial⟩, hS.F ht⟩) hS.2.2 dX11_next_48
set_option maxHeartbeats 4000000 in
set_option maxRecDepth 100000 in
theorem x_give (l : Launch) (dC : Nat → ClassId) (dI : Nat → Nat → Nat) (sz : Nat) (a : Int32) (xX : Nat) (xT : Nat) (xW : Nat) (xR : Nat) (xM : Nat) (xS : Nat) (xRo : Nat) (xPe : Nat) (xWh : Nat) (xTr : Nat) (xCo : Nat) (xAl : Nat) (xNl : Nat) (xDr : Nat) (xFa : Nat) : Met l yX11_give (.code yX11_give cX11_give 2 (some .int) :: lw_good) ({ frames := 14, cells := 0, slots := 0, locals := 500 }) (va_Pc [.ref xX, .int a] (fun U => U.heap.size = sz ∧ va_P (dC, dI) vwCl [(xX, .inr (11, [.ref xT, .int 0, .ref xW, .ref xR, .ref xM, .ref xS, .int (-1), .int 0, .int (-1)])), (xW, .inr (7, [.ref xRo, .ref xPe, .ref xWh, .ref xTr, .ref xCo, .int 0, .ref xAl, .ref xNl, .ref xDr, .int 0, .ref xFa, .int 0, .int 0, .int 0]))] U.heap ∧ va_K (dC, dI) vwCl [] U ∧ va_D (fun _ => True) [(xX, .inr (11, [.ref xT, .int 0, .ref xW, .ref xR, .ref xM, .ref xS, .int (-1), .int 0, .int (-1)])), (xW, .inr (7, [.ref xRo, .ref xPe, .ref xWh, .ref xTr, .ref xCo, .int 0, .ref xAl, .ref xNl, .ref xDr, .int 0, .ref xFa, .int 0, .int 0, .int 0]))])) (va_Qi (fun (r : Int32) (_ : Unit) => r = sp_give a) (fun (_ : Unit) (_ : State) => True) (va_A [(xX, .inr (11, [.ref xT, .int 0, .ref xW, .ref xR, .ref xM, .ref xS, .int (-1), .int 0, .int (-1)])), (xW, .inr (7, [.ref xRo, .ref xPe, .ref xWh, .ref xTr, .ref xCo, .int 0, .ref xAl, .ref xNl, .ref xDr, .int 0, .ref xFa, .int 0, .int 0, .int 0]))] sz)) 0 0 (va_A [(xX, .inr (11, [.ref xT, .int 0, .ref xW, .ref xR, .ref xM, .ref xS, .int (-1), .int 0, .int (-1)])), (xW, .inr (7, [.ref xRo, .ref xPe, .ref xWh, .ref xTr, .ref xCo, .int 0, .ref xAl, .ref xNl, .ref xDr, .int 0, .ref xFa, .int 0, .int 0, .int 0]))] sz) := by
  refine Met.ofW (cc := cX11_give) (maxL := 2) (ret := (some .int)) (by decide) rfl ?_
  intro p e s m args below meth c s₁ B hml hv
  obtain ⟨rfl, hsz, hP, hK, hD0⟩ := hv
  have hx := B.exec
  have hb := B.bytes
  have hr := B.returns
  have hts := atoms_spec (ws := (.code yX11_give cX11_give 2 (some .int) :: lw_good)) B.pre
  have hown : s.vm.findClass RX11 = some m.cls := findClass_of_methodNamed B.named
  have hlocks := B.notSynchronized
  subst hsz
  have hD := hD0.self (sz := s.heap.size)
  generalize hAe : va_A [(xX, .inr (11, [.ref xT, .int 0, .ref xW, .ref xR, .ref xM, .ref xS, .int (-1), .int 0, .int (-1)])), (xW, .inr (7, [.ref xRo, .ref xPe, .ref xWh, .ref xTr, .ref xCo, .int 0, .ref xAl, .ref xNl, .ref xDr, .int 0, .ref xFa, .int 0, .int 0, .int 0]))] s.heap.size = A at hD ⊢
  have hA : ∀ q : Nat, s.heap.size ≤ q → A q := fun q h => by rw [← hAe]; exact Or.inr h
  have hS : va_S A s.heap s.heap [] := va_S.rf
  have hP : va_P (dC, dI) vwCl [(xX, .inr (11, [.ref xT, .int 0, .ref xW, .ref xR, .ref xM, .ref xS, .int (-1), .int 0, .int (-1)])), (xW, .inr (7, [.ref xRo, .ref xPe, .ref xWh, .ref xTr, .ref xCo, .int 0, .ref xAl, .ref xNl, .ref xDr, .int 0, .ref xFa, .int 0, .int 0, .int 0]))] s.heap := hP
  have hl := lv_entry ([.ref xX, .int a]) (n := 2) (Nat.le_of_ble_eq_true rfl)
  rw [lg_entry_eq]
  generalize (lg_sl ([.ref xX, .int a]) ++ List.replicate (2 - (lg_sl ([.ref xX, .int a])).length) Slot.unset).toArray = ls at hl ⊢
  have hl : lv_has ls 2 [(0, .ref xX), (1, .int a)] := hl
  refine lv_iload_n hx hb dX11_give_0 rfl (lv_at hl 1 rfl) ?_
  refine lv_iconst (v := 1) hx hb dX11_give_1 (by decide) ?_
  refine lv_icmp_lt (tgt := 11) hx hb dX11_give_2 (by decide) (fun c_1 => ?_) (fun c_1 => ?_)
  · skip
    refine lv_iconst (v := (-1)) hx hb dX11_give_11 (by decide) ?_
    refine W.widen (k := 0) (n := 0) (Nat.le_of_ble_eq_true rfl) (Nat.le_of_ble_eq_true rfl) ?_
    exact W.iret (v := (-1)) hx hb hr (fun t ht hW => ⟨⟨(-1), (), rfl, (by first | (simp [sp_give, c_1]; done) | (rw [sp_give, if_neg c_1, if_pos (Int32.not_le.mp c_1)])), trivial⟩, hS.F ht⟩) hS.2.2 dX11_give_12
  · skip
    refine lv_iload_n hx hb dX11_give_5 rfl (lv_at hl 1 rfl) ?_
    refine lv_ldc hx hb hown (hts (.constant RX11 144 100000) (List.mem_cons_of_mem _ kw_3_238)) dX11_give_6 ?_
    refine lv_icmp_le (tgt := 13) hx hb dX11_give_8 (by decide) (fun c_2 => ?_) (fun c_2 => ?_)
    · skip
      refine lv_aload_n hx hb dX11_give_13 rfl (lv_at hl 0 rfl) ?_
      refine va_get (D := (dC, dI)) (ci := 11) (v := .ref xW) (C := RX11) (T := TX11) (N := 9) hx hb hts iCX11 hown hK hP 0 rfl rfl 2 (by decide) (hts (.fieldLink RX11 16 "WalkingTown" "town" "LWalkingTown$Town;") (List.mem_cons_of_mem _ kw_3_93)) (fun _ h9 => h9) rfl dX11_give_14 ?_
      refine lv_aload_n hx hb dX11_give_17 rfl (lv_at hl 0 rfl) ?_
      refine va_get (D := (dC, dI)) (ci := 11) (v := .ref xW) (C := RX11) (T := TX11) (N := 9) hx hb hts iCX11 hown hK hP 0 rfl rfl 2 (by decide) (hts (.fieldLink RX11 16 "WalkingTown" "town" "LWalkingTown$Town;") (List.mem_cons_of_mem _ kw_3_93)) (fun _ h9 => h9) rfl dX11_give_18 ?_
      refine va_get (D := (dC, dI)) (ci := 7) (v := .int 0) (C := RX7) (T := TX7) (N := 14) hx hb hts iCX7 hown hK hP 1 rfl rfl 13 (by decide) (hts (.fieldLink RX11 145 "WalkingTown$Town" "fund" "I") (List.mem_cons_of_mem _ kw_2_101)) (fun _ h9 => h9) rfl dX11_give_21 ?_
      refine lv_iload_n hx hb dX11_give_24 rfl (lv_at hl 1 rfl) ?_
      refine lv_iadd hx hb dX11_give_25 ?_
      refine my_ti (y := a) (Int32.zero_add _) ?_
      refine lv_ldc hx hb hown (hts (.constant RX11 148 1000000) (List.mem_cons_of_mem _ kw_3_239)) dX11_give_26 ?_
      refine va_mmin hx hb (hml.trans hl.1.symm) hown (hts (.methodLink RX11 149 Lib.Math.min.name) (List.mem_cons_of_mem _ kw_4_0)) (hts (.static Lib.Math.min.name) (List.mem_cons_of_mem _ kw_3_151)) (hts (.initialized RJ9) (List.mem_cons_of_mem _ kw_1_16)) (hts (.code Lib.Math.min.name Lib.Math.min.code 2 (some .int)) (List.mem_cons_of_mem _ kw_3_152)) (Nat.le_of_ble_eq_true rfl) (Nat.le_of_ble_eq_true rfl) (Nat.le_of_ble_eq_true rfl) (Nat.le_of_ble_eq_true rfl) dX11_give_28 ?_
      refine lv_topi (fun v_3 ev_3 => ?_)
      refine va_put (D := (dC, dI)) (ci := 7) (v := .int v_3) (ty := .int) (C := RX7) (T := TX7) (N := 14) hx hb hts iCX7 tyX7 tyX7_ok nmX7 hown hK hP hD hS 1 rfl rfl 13 (by decide) (hts (.fieldLink RX11 145 "WalkingTown$Town" "fund" "I") (List.mem_cons_of_mem _ kw_2_101)) (fun _ h9 => h9) rfl (by decide +kernel) rfl rfl (Nat.le_of_ble_eq_true rfl) dX11_give_31 (fun H locs hP hD hS => ?_)
      have hP : va_P (dC, dI) vwCl [(xX, .inr (11, [.ref xT, .int 0, .ref xW, .ref xR, .ref xM, .ref xS, .int (-1), .int 0, .int (-1)])), (xW, .inr (7, [.ref xRo, .ref xPe, .ref xWh, .ref xTr, .ref xCo, .int 0, .ref xAl, .ref xNl, .ref xDr, .int 0, .ref xFa, .int 0, .int 0, .int v_3]))] H := hP
      have hD : va_D A [(xX, .inr (11, [.ref xT, .int 0, .ref xW, .ref xR, .ref xM, .ref xS, .int (-1), .int 0, .int (-1)])), (xW, .inr (7, [.ref xRo, .ref xPe, .ref xWh, .ref xTr, .ref xCo, .int 0, .ref xAl, .ref xNl, .ref xDr, .int 0, .ref xFa, .int 0, .int 0, .int v_3]))] := hD
      refine lv_aload_n hx hb dX11_give_34 rfl (lv_at hl 0 rfl) ?_
      refine va_get (D := (dC, dI)) (ci := 11) (v := .ref xW) (C := RX11) (T := TX11) (N := 9) hx hb hts iCX11 hown hK hP 0 rfl rfl 2 (by decide) (hts (.fieldLink RX11 16 "WalkingTown" "town" "LWalkingTown$Town;") (List.mem_cons_of_mem _ kw_3_93)) (fun _ h9 => h9) rfl dX11_give_35 ?_
      refine va_get (D := (dC, dI)) (ci := 7) (v := .int v_3) (C := RX7) (T := TX7) (N := 14) hx hb hts iCX7 hown hK hP 1 rfl rfl 13 (by decide) (hts (.fieldLink RX11 145 "WalkingTown$Town" "fund" "I") (List.mem_cons_of_mem _ kw_2_101)) (fun _ h9 => h9) rfl dX11_give_38 ?_
      refine W.widen (k := 0) (n := 0) (Nat.le_of_ble_eq_true rfl) (Nat.le_of_ble_eq_true rfl) ?_
      exact W.iret (v := v_3) hx hb hr (fun t ht hW => ⟨⟨v_3, (), rfl, (my_give c_1 c_2 ev_3), trivial⟩, hS.F ht⟩) hS.2.2 dX11_give_41
    · skip
      refine lv_iconst (v := (-1)) hx hb dX11_give_11 (by decide) ?_
      refine W.widen (k := 0) (n := 0) (Nat.le_of_ble_eq_true rfl) (Nat.le_of_ble_eq_true rfl) ?_
      exact W.iret (v := (-1)) hx hb hr (fun t ht hW => ⟨⟨(-1), (), rfl, (by first | (simp [sp_give, c_1, c_2]; done) | (rw [sp_give, if_neg c_1, if_pos (Int32.not_le.mp c_2)])), trivial⟩, hS.F ht⟩) hS.2.2 dX11_give_12
set_option maxHeartbeats 4000000 in
set_option maxRecDepth 100000 in
theorem x_count (l : Launch) (dC : Nat → ClassId) (dI : Nat → Nat → Nat) (sz : Nat) (a : Int32) (xX : Nat) (xT : Nat) (xW : Nat) (xR : Nat) (xM : Nat) (xS : Nat) (xRo : Nat) (xPe : Nat) (xWh : Nat) (xTr : Nat) (xCo : Nat) (xAl : Nat) (xNl : Nat) (xDr : Nat) (xFa : Nat) (vp1 : Value) (vp2 : Value) (vp3 : Value) (vp4 : Value) (vp5 : Value) (vp6 : Value) (vp7 : Value) (vp8 : Value) (vp9 : Value) (vp10 : Value) (vp11 : Value) (vp12 : Value) (vp13 : Value) (vp14 : Value) (vh1 : Value) (vh2 : Value) (vh3 : Value) (vh4 : Value) (vh5 : Value) (vh6 : Value) (vh7 : Value) (vh8 : Value) (vt1 : Value) (vt2 : Value) (vt3 : Value) (vt4 : Value) (vt5 : Value) (vt6 : Value) (vt7 : Value) (vt8 : Value) (tD : Nat) : Met l yX11_count (.code yX11_count cX11_count 2 (some .int) :: lw_good) ({ frames := 14, cells := 0, slots := 0, locals := 500 }) (va_Pc [.ref xX, .int a] (fun U => U.heap.size = sz ∧ va_P (dC, dI) vwCl [(xX, .inr (11, [.ref xT, .int 0, .ref xW, .ref xR, .ref xM, .ref xS, .int (-1), .int 0, .int (-1)])), (xW, .inr (7, [.ref xRo, .ref xPe, .ref xWh, .ref xTr, .ref xCo, .int 0, .ref xAl, .ref xNl, .ref xDr, .int 0, .ref xFa, .int 0, .int 0, .int 0])), (xPe, .inr (3, [.int 0, vp1, vp2, vp3, vp4, vp5, vp6, vp7, vp8, vp9, vp10, vp11, vp12, vp13, vp14])), (xWh, .inr (10, [.int 0, vh1, vh2, vh3, vh4, vh5, vh6, vh7, vh8])), (xTr, .inr (8, [.int 0, vt1, vt2, vt3, vt4, vt5, vt6, vt7, vt8])), (xAl, .inr (0, [.int 0, .ref tD, .int 0]))] U.heap ∧ va_K (dC, dI) vwCl [] U ∧ va_D (fun _ => True) [(xX, .inr (11, [.ref xT, .int 0, .ref xW, .ref xR, .ref xM, .ref xS, .int (-1), .int 0, .int (-1)])), (xW, .inr (7, [.ref xRo, .ref xPe, .ref xWh, .ref xTr, .ref xCo, .int 0, .ref xAl, .ref xNl, .ref xDr, .int 0, .ref xFa, .int 0, .int 0, .int 0])), (xPe, .inr (3, [.int 0, vp1, vp2, vp3, vp4, vp5, vp6, vp7, vp8, vp9, vp10, vp11, vp12, vp13, vp14])), (xWh, .inr (10, [.int 0, vh1, vh2, vh3, vh4, vh5, vh6, vh7, vh8])), (xTr, .inr (8, [.int 0, vt1, vt2, vt3, vt4, vt5, vt6, vt7, vt8])), (xAl, .inr (0, [.int 0, .ref tD, .int 0]))])) (va_Qi (fun (r : Int32) (_ : Unit) => r = sp_count a) (fun (_ : Unit) (_ : State) => True) (va_A [(xX, .inr (11, [.ref xT, .int 0, .ref xW, .ref xR, .ref xM, .ref xS, .int (-1), .int 0, .int (-1)])), (xW, .inr (7, [.ref xRo, .ref xPe, .ref xWh, .ref xTr, .ref xCo, .int 0, .ref xAl, .ref xNl, .ref xDr, .int 0, .ref xFa, .int 0, .int 0, .int 0])), (xPe, .inr (3, [.int 0, vp1, vp2, vp3, vp4, vp5, vp6, vp7, vp8, vp9, vp10, vp11, vp12, vp13, vp14])), (xWh, .inr (10, [.int 0, vh1, vh2, vh3, vh4, vh5, vh6, vh7, vh8])), (xTr, .inr (8, [.int 0, vt1, vt2, vt3, vt4, vt5, vt6, vt7, vt8])), (xAl, .inr (0, [.int 0, .ref tD, .int 0]))] sz)) 0 0 (va_A [(xX, .inr (11, [.ref xT, .int 0, .ref xW, .ref xR, .ref xM, .ref xS, .int (-1), .int 0, .int (-1)])), (xW, .inr (7, [.ref xRo, .ref xPe, .ref xWh, .ref xTr, .ref xCo, .int 0, .ref xAl, .ref xNl, .ref xDr, .int 0, .ref xFa, .int 0, .int 0, .int 0])), (xPe, .inr (3, [.int 0, vp1, vp2, vp3, vp4, vp5, vp6, vp7, vp8, vp9, vp10, vp11, vp12, vp13, vp14])), (xWh, .inr (10, [.int 0, vh1, vh2, vh3, vh4, vh5, vh6, vh7, vh8])), (xTr, .inr (8, [.int 0, vt1, vt2, vt3, vt4, vt5, vt6, vt7, vt8])), (xAl, .inr (0, [.int 0, .ref tD, .int 0]))] sz) := by
  refine Met.ofW (cc := cX11_count) (maxL := 2) (ret := (some .int)) (by decide) rfl ?_
  intro p e s m args below meth c s₁ B hml hv
  obtain ⟨rfl, hsz, hP, hK, hD0⟩ := hv
  have hx := B.exec
  have hb := B.bytes
  have hr := B.returns
  have hts := atoms_spec (ws := (.code yX11_count cX11_count 2 (some .int) :: lw_good)) B.pre
  have hown : s.vm.findClass RX11 = some m.cls := findClass_of_methodNamed B.named
  have hlocks := B.notSynchronized
  subst hsz
  have hD := hD0.self (sz := s.heap.size)
  generalize hAe : va_A [(xX, .inr (11, [.ref xT, .int 0, .ref xW, .ref xR, .ref xM, .ref xS, .int (-1), .int 0, .int (-1)])), (xW, .inr (7, [.ref xRo, .ref xPe, .ref xWh, .ref xTr, .ref xCo, .int 0, .ref xAl, .ref xNl, .ref xDr, .int 0, .ref xFa, .int 0, .int 0, .int 0])), (xPe, .inr (3, [.int 0, vp1, vp2, vp3, vp4, vp5, vp6, vp7, vp8, vp9, vp10, vp11, vp12, vp13, vp14])), (xWh, .inr (10, [.int 0, vh1, vh2, vh3, vh4, vh5, vh6, vh7, vh8])), (xTr, .inr (8, [.int 0, vt1, vt2, vt3, vt4, vt5, vt6, vt7, vt8])), (xAl, .inr (0, [.int 0, .ref tD, .int 0]))] s.heap.size = A at hD ⊢
  have hA : ∀ q : Nat, s.heap.size ≤ q → A q := fun q h => by rw [← hAe]; exact Or.inr h
  have hS : va_S A s.heap s.heap [] := va_S.rf
  have hP : va_P (dC, dI) vwCl [(xX, .inr (11, [.ref xT, .int 0, .ref xW, .ref xR, .ref xM, .ref xS, .int (-1), .int 0, .int (-1)])), (xW, .inr (7, [.ref xRo, .ref xPe, .ref xWh, .ref xTr, .ref xCo, .int 0, .ref xAl, .ref xNl, .ref xDr, .int 0, .ref xFa, .int 0, .int 0, .int 0])), (xPe, .inr (3, [.int 0, vp1, vp2, vp3, vp4, vp5, vp6, vp7, vp8, vp9, vp10, vp11, vp12, vp13, vp14])), (xWh, .inr (10, [.int 0, vh1, vh2, vh3, vh4, vh5, vh6, vh7, vh8])), (xTr, .inr (8, [.int 0, vt1, vt2, vt3, vt4, vt5, vt6, vt7, vt8])), (xAl, .inr (0, [.int 0, .ref tD, .int 0]))] s.heap := hP
  have hl := lv_entry ([.ref xX, .int a]) (n := 2) (Nat.le_of_ble_eq_true rfl)
  rw [lg_entry_eq]
  generalize (lg_sl ([.ref xX, .int a]) ++ List.replicate (2 - (lg_sl ([.ref xX, .int a])).length) Slot.unset).toArray = ls at hl ⊢
  have hl : lv_has ls 2 [(0, .ref xX), (1, .int a)] := hl
  refine lv_iload_n hx hb dX11_count_0 rfl (lv_at hl 1 rfl) ?_
  rcases my_sw8 a with w_1 | w_1 | w_1 | w_1 | w_1 | w_1 | w_1 | w_1 | w_1 | w_1
  · refine lv_tableOut (tgt := 121) hx hb dX11_count_1 (Or.inl w_1) (by decide) ?_
    refine lv_iconst (v := (-1)) hx hb dX11_count_121 (by decide) ?_
    refine W.widen (k := 0) (n := 0) (Nat.le_of_ble_eq_true rfl) (Nat.le_of_ble_eq_true rfl) ?_
    exact W.iret (v := (-1)) hx hb hr (fun t ht hW => ⟨⟨(-1), (), rfl, (sp_count_lo w_1), trivial⟩, hS.F ht⟩) hS.2.2 dX11_count_122
  · refine lv_tableOut (tgt := 121) hx hb dX11_count_1 (Or.inr w_1) (by decide) ?_
    refine lv_iconst (v := (-1)) hx hb dX11_count_121 (by decide) ?_
    refine W.widen (k := 0) (n := 0) (Nat.le_of_ble_eq_true rfl) (Nat.le_of_ble_eq_true rfl) ?_
    exact W.iret (v := (-1)) hx hb hr (fun t ht hW => ⟨⟨(-1), (), rfl, (sp_count_hi w_1), trivial⟩, hS.F ht⟩) hS.2.2 dX11_count_122
  · refine lv_tableIn (off := 47) (tgt := 48) hx hb dX11_count_1 (by rw [w_1]; decide) (by rw [w_1]; decide) (by rw [w_1]; rfl) (by decide) ?_
    refine lv_aload_n hx hb dX11_count_48 rfl (lv_at hl 0 rfl) ?_
    refine va_get (D := (dC, dI)) (ci := 11) (v := .ref xW) (C := RX11) (T := TX11) (N := 9) hx hb hts iCX11 hown hK hP 0 rfl rfl 2 (by decide) (hts (.fieldLink RX11 16 "WalkingTown" "town" "LWalkingTown$Town;") (List.mem_cons_of_mem _ kw_3_93)) (fun _ h9 => h9) rfl dX11_count_49 ?_
    refine va_get (D := (dC, dI)) (ci := 7) (v := .int 0) (C := RX7) (T := TX7) (N := 14) hx hb hts iCX7 hown hK hP 1 rfl rfl 12 (by decide) (hts (.fieldLink RX11 57 "WalkingTown$Town" "today" "I") (List.mem_cons_of_mem _ kw_2_97)) (fun _ h9 => h9) rfl dX11_count_52 ?_
    refine W.widen (k := 0) (n := 0) (Nat.le_of_ble_eq_true rfl) (Nat.le_of_ble_eq_true rfl) ?_
    exact W.iret (v := 0) hx hb hr (fun t ht hW => ⟨⟨0, (), rfl, (by rw [w_1]; decide), trivial⟩, hS.F ht⟩) hS.2.2 dX11_count_55
  · refine lv_tableIn (off := 55) (tgt := 56) hx hb dX11_count_1 (by rw [w_1]; decide) (by rw [w_1]; decide) (by rw [w_1]; rfl) (by decide) ?_
    refine lv_aload_n hx hb dX11_count_56 rfl (lv_at hl 0 rfl) ?_
    refine va_get (D := (dC, dI)) (ci := 11) (v := .ref xW) (C := RX11) (T := TX11) (N := 9) hx hb hts iCX11 hown hK hP 0 rfl rfl 2 (by decide) (hts (.fieldLink RX11 16 "WalkingTown" "town" "LWalkingTown$Town;") (List.mem_cons_of_mem _ kw_3_93)) (fun _ h9 => h9) rfl dX11_count_57 ?_
    refine va_get (D := (dC, dI)) (ci := 7) (v := .ref xPe) (C := RX7) (T := TX7) (N := 14) hx hb hts iCX7 hown hK hP 1 rfl rfl 1 (by decide) (hts (.fieldLink RX11 79 "WalkingTown$Town" "people" "LWalkingTown$People;") (List.mem_cons_of_mem _ kw_2_66)) (fun _ h9 => h9) rfl dX11_count_60 ?_
    refine va_get (D := (dC, dI)) (ci := 3) (v := .int 0) (C := RX2) (T := TX2) (N := 15) hx hb hts iCX2 hown hK hP 2 rfl rfl 0 (by decide) (hts (.fieldLink RX11 236 "WalkingTown$People" "size" "I") (List.mem_cons_of_mem _ kw_1_70)) (fun _ h9 => h9) rfl dX11_count_63 ?_
    refine W.widen (k := 0) (n := 0) (Nat.le_of_ble_eq_true rfl) (Nat.le_of_ble_eq_true rfl) ?_
    exact W.iret (v := 0) hx hb hr (fun t ht hW => ⟨⟨0, (), rfl, (by rw [w_1]; decide), trivial⟩, hS.F ht⟩) hS.2.2 dX11_count_66
  · refine lv_tableIn (off := 66) (tgt := 67) hx hb dX11_count_1 (by rw [w_1]; decide) (by rw [w_1]; decide) (by rw [w_1]; rfl) (by decide) ?_
    refine lv_aload_n hx hb dX11_count_67 rfl (lv_at hl 0 rfl) ?_
    refine va_get (D := (dC, dI)) (ci := 11) (v := .ref xW) (C := RX11) (T := TX11) (N := 9) hx hb hts iCX11 hown hK hP 0 rfl rfl 2 (by decide) (hts (.fieldLink RX11 16 "WalkingTown" "town" "LWalkingTown$Town;") (List.mem_cons_of_mem _ kw_3_93)) (fun _ h9 => h9) rfl dX11_count_68 ?_
    refine va_get (D := (dC, dI)) (ci := 7) (v := .int 0) (C := RX7) (T := TX7) (N := 14) hx hb hts iCX7 hown hK hP 1 rfl rfl 5 (by decide) (hts (.fieldLink RX11 89 "WalkingTown$Town" "stops" "I") (List.mem_cons_of_mem _ kw_2_82)) (fun _ h9 => h9) rfl dX11_count_71 ?_
    refine W.widen (k := 0) (n := 0) (Nat.le_of_ble_eq_true rfl) (Nat.le_of_ble_eq_true rfl) ?_
    exact W.iret (v := 0) hx hb hr (fun t ht hW => ⟨⟨0, (), rfl, (by rw [w_1]; decide), trivial⟩, hS.F ht⟩) hS.2.2 dX11_count_74
  · refine lv_tableIn (off := 74) (tgt := 75) hx hb dX11_count_1 (by rw [w_1]; decide) (by rw [w_1]; decide) (by rw [w_1]; rfl) (by decide) ?_
    refine lv_aload_n hx hb dX11_count_75 rfl (lv_at hl 0 rfl) ?_
    refine va_get (D := (dC, dI)) (ci := 11) (v := .ref xW) (C := RX11) (T := TX11) (N := 9) hx hb hts iCX11 hown hK hP 0 rfl rfl 2 (by decide) (hts (.fieldLink RX11 16 "WalkingTown" "town" "LWalkingTown$Town;") (List.mem_cons_of_mem _ kw_3_93)) (fun _ h9 => h9) rfl dX11_count_76 ?_
    refine va_get (D := (dC, dI)) (ci := 7) (v := .ref xWh) (C := RX7) (T := TX7) (N := 14) hx hb hts iCX7 hown hK hP 1 rfl rfl 2 (by decide) (hts (.fieldLink RX11 101 "WalkingTown$Town" "wheels" "LWalkingTown$Wheels;") (List.mem_cons_of_mem _ kw_2_70)) (fun _ h9 => h9) rfl dX11_count_79 ?_
    refine va_get (D := (dC, dI)) (ci := 10) (v := .int 0) (C := RX10) (T := TX10) (N := 9) hx hb hts iCX10 hown hK hP 3 rfl rfl 0 (by decide) (hts (.fieldLink RX11 237 "WalkingTown$Wheels" "size" "I") (List.mem_cons_of_mem _ kw_1_142)) (fun _ h9 => h9) rfl dX11_count_82 ?_
    refine W.widen (k := 0) (n := 0) (Nat.le_of_ble_eq_true rfl) (Nat.le_of_ble_eq_true rfl) ?_
    exact W.iret (v := 0) hx hb hr (fun t ht hW => ⟨⟨0, (), rfl, (by rw [w_1]; decide), trivial⟩, hS.F ht⟩) hS.2.2 dX11_count_85
  · refine lv_tableIn (off := 85) (tgt := 86) hx hb dX11_count_1 (by rw [w_1]; decide) (by rw [w_1]; decide) (by rw [w_1]; rfl) (by decide) ?_
    refine lv_aload_n hx hb dX11_count_86 rfl (lv_at hl 0 rfl) ?_
    refine va_get (D := (dC, dI)) (ci := 11) (v := .ref xW) (C := RX11) (T := TX11) (N := 9) hx hb hts iCX11 hown hK hP 0 rfl rfl 2 (by decide) (hts (.fieldLink RX11 16 "WalkingTown" "town" "LWalkingTown$Town;") (List.mem_cons_of_mem _ kw_3_93)) (fun _ h9 => h9) rfl dX11_count_87 ?_
    refine va_get (D := (dC, dI)) (ci := 7) (v := .ref xTr) (C := RX7) (T := TX7) (N := 14) hx hb hts iCX7 hown hK hP 1 rfl rfl 3 (by decide) (hts (.fieldLink RX11 116 "WalkingTown$Town" "trips" "LWalkingTown$Trips;") (List.mem_cons_of_mem _ kw_2_74)) (fun _ h9 => h9) rfl dX11_count_90 ?_
    refine va_get (D := (dC, dI)) (ci := 8) (v := .int 0) (C := RX8) (T := TX8) (N := 9) hx hb hts iCX8 hown hK hP 4 rfl rfl 0 (by decide) (hts (.fieldLink RX11 238 "WalkingTown$Trips" "size" "I") (List.mem_cons_of_mem _ kw_1_191)) (fun _ h9 => h9) rfl dX11_count_93 ?_
    refine W.widen (k := 0) (n := 0) (Nat.le_of_ble_eq_true rfl) (Nat.le_of_ble_eq_true rfl) ?_
    exact W.iret (v := 0) hx hb hr (fun t ht hW => ⟨⟨0, (), rfl, (by rw [w_1]; decide), trivial⟩, hS.F ht⟩) hS.2.2 dX11_count_96
  · refine lv_tableIn (off := 96) (tgt := 97) hx hb dX11_count_1 (by rw [w_1]; decide) (by rw [w_1]; decide) (by rw [w_1]; rfl) (by decide) ?_
    refine lv_aload_n hx hb dX11_count_97 rfl (lv_at hl 0 rfl) ?_
    refine va_get (D := (dC, dI)) (ci := 11) (v := .ref xW) (C := RX11) (T := TX11) (N := 9) hx hb hts iCX11 hown hK hP 0 rfl rfl 2 (by decide) (hts (.fieldLink RX11 16 "WalkingTown" "town" "LWalkingTown$Town;") (List.mem_cons_of_mem _ kw_3_93)) (fun _ h9 => h9) rfl dX11_count_98 ?_
    refine va_get (D := (dC, dI)) (ci := 7) (v := .ref xAl) (C := RX7) (T := TX7) (N := 14) hx hb hts iCX7 hown hK hP 1 rfl rfl 6 (by decide) (hts (.fieldLink RX11 154 "WalkingTown$Town" "laws" "Ljava/util/ArrayList;") (List.mem_cons_of_mem _ kw_2_84)) (fun _ h9 => h9) rfl dX11_count_101 ?_
    have hPc := hP.sub (ws' := [(xAl, .inr (0, [.int 0, .ref tD, .int 0]))]) [5] rfl
    have hDc := hD.sub (ws' := [(xAl, .inr (0, [.int 0, .ref tD, .int 0]))]) [5] (by decide) rfl
    have hKc := hK.sub (tys' := []) [] rfl
    have hFc := va_free (wc := [(xAl, .inr (0, [.int 0, .ref tD, .int 0]))]) hD hS hA [5] rfl
    refine va_calli (va_runV (As := []) (rest := []) ⟨hx, hb, hml, hown, hts⟩ (c_size l dC dI s.heap.size xAl (.int 0 : Value) (.ref tD : Value)) (cwV 0 hts (gV kw_4_5 kw_4_6 kw_4_7 kw_1_9 kw_4_8) rfl rfl rfl (by decide +kernel) ⟨Nat.le_of_ble_eq_true rfl, Nat.le_of_ble_eq_true rfl⟩) ⟨fun a U g mk q => by obtain ⟨q0, q1, qP, qK, qD⟩ := q; exact ⟨q0, q1, qP, va_K.moved (u := U) (U := U.calling g mk a) (Vm.Alike.refl U.vm) qK, qD⟩, va_recv hKc hPc (ci := 0) (q0 := 0) rfl rfl, fun U hU hW => ⟨rfl, by rw [hU], by rw [hU]; exact hPc, va_K.moved hW.alike hKc, hDc.weaken (fun _ _ _ _ => trivial)⟩⟩ rfl rfl hl.1 rfl (lv_room (Nat.le_of_ble_eq_true rfl)) dX11_count_104 ⟨Nat.le_of_ble_eq_true rfl, Nat.le_of_ble_eq_true rfl⟩) hS (fun q _ h => hFc q h) hFc (fun r_2 u t H1 locs ht hvm hw hB hz1 hk1 hS => ?_)
    obtain ⟨hP1, hK1, hD1⟩ := hB
    rw [ht] at hP1
    have hK1 := va_K.moved hvm.symm hK1
    obtain ⟨hP, hD⟩ := va_join (wr := [(xX, .inr (11, [.ref xT, .int 0, .ref xW, .ref xR, .ref xM, .ref xS, .int (-1), .int 0, .int (-1)])), (xW, .inr (7, [.ref xRo, .ref xPe, .ref xWh, .ref xTr, .ref xCo, .int 0, .ref xAl, .ref xNl, .ref xDr, .int 0, .ref xFa, .int 0, .int 0, .int 0])), (xPe, .inr (3, [.int 0, vp1, vp2, vp3, vp4, vp5, vp6, vp7, vp8, vp9, vp10, vp11, vp12, vp13, vp14])), (xWh, .inr (10, [.int 0, vh1, vh2, vh3, vh4, vh5, vh6, vh7, vh8])), (xTr, .inr (8, [.int 0, vt1, vt2, vt3, vt4, vt5, vt6, vt7, vt8]))]) (w1 := [(xAl, .inr (0, [.int 0, .ref tD, .int 0]))]) hP hD [5] [0, 1, 2, 3, 4] rfl rfl (by decide) (by decide) hk1 hFc hP1 hD1
    have hK := (hK.sub (tys' := []) [] rfl).app hK1
    generalize H1 = H at hP hS ⊢
    have hP : va_P (dC, dI) vwCl [(xX, .inr (11, [.ref xT, .int 0, .ref xW, .ref xR, .ref xM, .ref xS, .int (-1), .int 0, .int (-1)])), (xW, .inr (7, [.ref xRo, .ref xPe, .ref xWh, .ref xTr, .ref xCo, .int 0, .ref xAl, .ref xNl, .ref xDr, .int 0, .ref xFa, .int 0, .int 0, .int 0])), (xPe, .inr (3, [.int 0, vp1, vp2, vp3, vp4, vp5, vp6, vp7, vp8, vp9, vp10, vp11, vp12, vp13, vp14])), (xWh, .inr (10, [.int 0, vh1, vh2, vh3, vh4, vh5, vh6, vh7, vh8])), (xTr, .inr (8, [.int 0, vt1, vt2, vt3, vt4, vt5, vt6, vt7, vt8])), (xAl, .inr (0, [.int 0, .ref tD, .int 0]))] H := hP
    have hD : va_D A [(xX, .inr (11, [.ref xT, .int 0, .ref xW, .ref xR, .ref xM, .ref xS, .int (-1), .int 0, .int (-1)])), (xW, .inr (7, [.ref xRo, .ref xPe, .ref xWh, .ref xTr, .ref xCo, .int 0, .ref xAl, .ref xNl, .ref xDr, .int 0, .ref xFa, .int 0, .int 0, .int 0])), (xPe, .inr (3, [.int 0, vp1, vp2, vp3, vp4, vp5, vp6, vp7, vp8, vp9, vp10, vp11, vp12, vp13, vp14])), (xWh, .inr (10, [.int 0, vh1, vh2, vh3, vh4, vh5, vh6, vh7, vh8])), (xTr, .inr (8, [.int 0, vt1, vt2, vt3, vt4, vt5, vt6, vt7, vt8])), (xAl, .inr (0, [.int 0, .ref tD, .int 0]))] := hD
    have hK : va_K (dC, dI) vwCl [] s := hK
    subst hw
    refine W.widen (k := 0) (n := 0) (Nat.le_of_ble_eq_true rfl) (Nat.le_of_ble_eq_true rfl) ?_
    exact W.iret (v := 0) hx hb hr (fun t ht hW => ⟨⟨0, (), rfl, (by rw [w_1]; decide), trivial⟩, hS.F ht⟩) hS.2.2 dX11_count_107
  · refine lv_tableIn (off := 107) (tgt := 108) hx hb dX11_count_1 (by rw [w_1]; decide) (by rw [w_1]; decide) (by rw [w_1]; rfl) (by decide) ?_
    refine lv_aload_n hx hb dX11_count_108 rfl (lv_at hl 0 rfl) ?_
    refine va_get (D := (dC, dI)) (ci := 11) (v := .ref xW) (C := RX11) (T := TX11) (N := 9) hx hb hts iCX11 hown hK hP 0 rfl rfl 2 (by decide) (hts (.fieldLink RX11 16 "WalkingTown" "town" "LWalkingTown$Town;") (List.mem_cons_of_mem _ kw_3_93)) (fun _ h9 => h9) rfl dX11_count_109 ?_
    refine va_get (D := (dC, dI)) (ci := 7) (v := .int 0) (C := RX7) (T := TX7) (N := 14) hx hb hts iCX7 hown hK hP 1 rfl rfl 13 (by decide) (hts (.fieldLink RX11 145 "WalkingTown$Town" "fund" "I") (List.mem_cons_of_mem _ kw_2_101)) (fun _ h9 => h9) rfl dX11_count_112 ?_
    refine W.widen (k := 0) (n := 0) (Nat.le_of_ble_eq_true rfl) (Nat.le_of_ble_eq_true rfl) ?_
    exact W.iret (v := 0) hx hb hr (fun t ht hW => ⟨⟨0, (), rfl, (by rw [w_1]; decide), trivial⟩, hS.F ht⟩) hS.2.2 dX11_count_115
  · refine lv_tableIn (off := 115) (tgt := 116) hx hb dX11_count_1 (by rw [w_1]; decide) (by rw [w_1]; decide) (by rw [w_1]; rfl) (by decide) ?_
    refine lv_aload_n hx hb dX11_count_116 rfl (lv_at hl 0 rfl) ?_
    refine va_get (D := (dC, dI)) (ci := 11) (v := .int 0) (C := RX11) (T := TX11) (N := 9) hx hb hts iCX11 hown hK hP 0 rfl rfl 1 (by decide) (hts (.fieldLink RX11 50 "WalkingTown" "tapeSize" "I") (List.mem_cons_of_mem _ kw_3_92)) (fun _ h9 => h9) rfl dX11_count_117 ?_
    refine W.widen (k := 0) (n := 0) (Nat.le_of_ble_eq_true rfl) (Nat.le_of_ble_eq_true rfl) ?_
    exact W.iret (v := 0) hx hb hr (fun t ht hW => ⟨⟨0, (), rfl, (by rw [w_1]; decide), trivial⟩, hS.F ht⟩) hS.2.2 dX11_count_120
set_option maxHeartbeats 4000000 in
set_option maxRecDepth 100000 in
theorem c_betw_far (l : Launch) (dC : Nat → ClassId) (dI : Nat → Nat → Nat) (sz : Nat) (a : Int32) (b : Int32) (xRo : Nat) (xLe : Nat) (cLe : ClassId) (fL : Nat → Int32) (hf : ∀ k, k < 144 → fL k = roadsG k) (ha : ¬ a < 0 ∧ ¬ 12 ≤ a) (hb2 : ¬ b < 0 ∧ ¬ 12 ≤ b) : Met l yX4_between (.code yX4_between cX4_between 3 (some .int) :: lw_good) ({ frames := 2, cells := 0, slots := 0, locals := 60 }) (va_Pc [.ref xRo, .int a, .int b] (fun U => U.heap.size = sz ∧ va_P (dC, dI) vwCl [(xRo, .inr (5, [.ref xLe, .int 0])), (xLe, .inl (cLe, 144, .inl fL))] U.heap ∧ va_K (dC, dI) vwCl [(cLe, .int)] U ∧ va_D (fun _ => True) [(xRo, .inr (5, [.ref xLe, .int 0])), (xLe, .inl (cLe, 144, .inl fL))])) (va_Qi (fun (r : Int32) (_ : Unit) => r = if a = b then 0 else 10000000) (fun (_ : Unit) (_ : State) => True) (va_A [(xRo, .inr (5, [.ref xLe, .int 0])), (xLe, .inl (cLe, 144, .inl fL))] sz)) 0 0 (va_A [(xRo, .inr (5, [.ref xLe, .int 0])), (xLe, .inl (cLe, 144, .inl fL))] sz) := by
  refine Met.ofW (cc := cX4_between) (maxL := 3) (ret := (some .int)) (by decide) rfl ?_
  intro p e s m args below meth c s₁ B hml hv
  obtain ⟨rfl, hsz, hP, hK, hD0⟩ := hv
  have hx := B.exec
  have hb := B.bytes
  have hr := B.returns
  have hts := atoms_spec (ws := (.code yX4_between cX4_between 3 (some .int) :: lw_good)) B.pre
  have hown : s.vm.findClass RX4 = some m.cls := findClass_of_methodNamed B.named
  have hlocks := B.notSynchronized
  subst hsz
  have hD := hD0.self (sz := s.heap.size)
  generalize hAe : va_A [(xRo, .inr (5, [.ref xLe, .int 0])), (xLe, .inl (cLe, 144, .inl fL))] s.heap.size = A at hD ⊢
  have hA : ∀ q : Nat, s.heap.size ≤ q → A q := fun q h => by rw [← hAe]; exact Or.inr h
  have hS : va_S A s.heap s.heap [] := va_S.rf
  have hP : va_P (dC, dI) vwCl [(xRo, .inr (5, [.ref xLe, .int 0])), (xLe, .inl (cLe, 144, .inl fL))] s.heap := hP
  have hl := lv_entry ([.ref xRo, .int a, .int b]) (n := 3) (Nat.le_of_ble_eq_true rfl)
  rw [lg_entry_eq]
  generalize (lg_sl ([.ref xRo, .int a, .int b]) ++ List.replicate (3 - (lg_sl ([.ref xRo, .int a, .int b])).length) Slot.unset).toArray = ls at hl ⊢
  have hl : lv_has ls 3 [(0, .ref xRo), (1, .int a), (2, .int b)] := hl
  refine lv_iload_n hx hb dX4_between_0 rfl (lv_at hl 1 rfl) ?_
  refine lv_if_lt (tgt := 20) hx hb dX4_between_1 (by decide) (fun c_1 => ?_) (fun c_1 => ?_)
  · exact absurd c_1 (ha.1)
  refine lv_iload_n hx hb dX4_between_4 rfl (lv_at hl 1 rfl) ?_
  refine lv_bipush (v := 12) hx hb dX4_between_5 (by decide) ?_
  refine lv_icmp_ge (tgt := 20) hx hb dX4_between_7 (by decide) (fun c_2 => ?_) (fun c_2 => ?_)
  · exact absurd c_2 (ha.2)
  refine lv_iload_n hx hb dX4_between_10 rfl (lv_at hl 2 rfl) ?_
  refine lv_if_lt (tgt := 20) hx hb dX4_between_11 (by decide) (fun c_3 => ?_) (fun c_3 => ?_)
  · exact absurd c_3 (hb2.1)
  refine lv_iload_n hx hb dX4_between_14 rfl (lv_at hl 2 rfl) ?_
  refine lv_bipush (v := 12) hx hb dX4_between_15 (by decide) ?_
  refine lv_icmp_lt (tgt := 23) hx hb dX4_between_17 (by decide) (fun c_4 => ?_) (fun c_4 => ?_)
  rotate_left
  · exact (c_4 (Int32.not_le.mp hb2.2)).elim
  refine lv_aload_n hx hb dX4_between_23 rfl (lv_at hl 0 rfl) ?_
  refine va_get (D := (dC, dI)) (ci := 5) (v := .ref xLe) (C := RX4) (T := TX4) (N := 2) hx hb hts iCX4 hown hK hP 0 rfl rfl 0 (by decide) (hts (.fieldLink RX4 9 "WalkingTown$Roads" "least" "[I") (List.mem_cons_of_mem _ kw_1_53)) (fun _ h9 => h9) rfl dX4_between_24 ?_
  refine lv_iload_n hx hb dX4_between_27 rfl (lv_at hl 1 rfl) ?_
  refine lv_bipush (v := 12) hx hb dX4_between_28 (by decide) ?_
  refine lv_imul hx hb dX4_between_30 ?_
  refine lv_topi (fun v_5 ev_5 => ?_)
  refine lv_iload_n hx hb dX4_between_31 rfl (lv_at hl 2 rfl) ?_
  refine lv_iadd hx hb dX4_between_32 ?_
  refine lv_topi (fun v_6 ev_6 => ?_)
  refine va_iald hx hb hK hP 1 0 rfl rfl (my_ixin ha.1 ha.2 hb2.1 hb2.2 ev_5 ev_6) dX4_between_33 ?_
  refine lv_topi (fun v_7 ev_7 => ?_)
  refine W.widen (k := 0) (n := 0) (Nat.le_of_ble_eq_true rfl) (Nat.le_of_ble_eq_true rfl) ?_
  exact W.iret (v := v_7) hx hb hr (fun t ht hW => ⟨⟨v_7, (), rfl, (my_far hf ha.1 ha.2 hb2.1 hb2.2 ev_5 ev_6 ev_7), trivial⟩, hS.F ht⟩) hS.2.2 dX4_between_34
set_option maxHeartbeats 4000000 in
set_option maxRecDepth 100000 in
theorem c_betw (l : Launch) (dC : Nat → ClassId) (dI : Nat → Nat → Nat) (sz : Nat) (a : Int32) (b : Int32) (la : Int32) (xRo : Nat) (xLe : Nat) (cLe : ClassId) (fL : Nat → Int32) : Met l yX4_between (.code yX4_between cX4_between 3 (some .int) :: lw_good) ({ frames := 2, cells := 0, slots := 0, locals := 60 }) (va_Pc [.ref xRo, .int a, .int b] (fun U => U.heap.size = sz ∧ va_P (dC, dI) vwCl [(xRo, .inr (5, [.ref xLe, .int la])), (xLe, .inl (cLe, 144, .inl fL))] U.heap ∧ va_K (dC, dI) vwCl [(cLe, .int)] U ∧ va_D (fun _ => True) [(xRo, .inr (5, [.ref xLe, .int la])), (xLe, .inl (cLe, 144, .inl fL))])) (va_Qi (fun (r : Int32) (_ : Unit) => True) (fun (_ : Unit) (t : State) => va_P (dC, dI) vwCl [(xRo, .inr (5, [.ref xLe, .int la])), (xLe, .inl (cLe, 144, .inl fL))] t.heap ∧ va_K (dC, dI) vwCl [(cLe, .int)] t ∧ va_D (va_A [(xRo, .inr (5, [.ref xLe, .int la])), (xLe, .inl (cLe, 144, .inl fL))] sz) [(xRo, .inr (5, [.ref xLe, .int la])), (xLe, .inl (cLe, 144, .inl fL))]) (va_A [(xRo, .inr (5, [.ref xLe, .int la])), (xLe, .inl (cLe, 144, .inl fL))] sz)) 0 0 (va_A [(xRo, .inr (5, [.ref xLe, .int la])), (xLe, .inl (cLe, 144, .inl fL))] sz) := by
  refine Met.ofW (cc := cX4_between) (maxL := 3) (ret := (some .int)) (by decide) rfl ?_
  intro p e s m args below meth c s₁ B hml hv
  obtain ⟨rfl, hsz, hP, hK, hD0⟩ := hv
  have hx := B.exec
  have hb := B.bytes
  have hr := B.returns
  have hts := atoms_spec (ws := (.code yX4_between cX4_between 3 (some .int) :: lw_good)) B.pre
  have hown : s.vm.findClass RX4 = some m.cls := findClass_of_methodNamed B.named
  have hlocks := B.notSynchronized
  subst hsz
  have hD := hD0.self (sz := s.heap.size)
  generalize hAe : va_A [(xRo, .inr (5, [.ref xLe, .int la])), (xLe, .inl (cLe, 144, .inl fL))] s.heap.size = A at hD ⊢
  have hA : ∀ q : Nat, s.heap.size ≤ q → A q := fun q h => by rw [← hAe]; exact Or.inr h
  have hS : va_S A s.heap s.heap [] := va_S.rf
  have hP : va_P (dC, dI) vwCl [(xRo, .inr (5, [.ref xLe, .int la])), (xLe, .inl (cLe, 144, .inl fL))] s.heap := hP
  have hl := lv_entry ([.ref xRo, .int a, .int b]) (n := 3) (Nat.le_of_ble_eq_true rfl)
  rw [lg_entry_eq]
  generalize (lg_sl ([.ref xRo, .int a, .int b]) ++ List.replicate (3 - (lg_sl ([.ref xRo, .int a, .int b])).length) Slot.unset).toArray = ls at hl ⊢
  have hl : lv_has ls 3 [(0, .ref xRo), (1, .int a), (2, .int b)] := hl
  refine lv_iload_n hx hb dX4_between_0 rfl (lv_at hl 1 rfl) ?_
  refine lv_if_lt (tgt := 20) hx hb dX4_between_1 (by decide) (fun c_1 => ?_) (fun c_1 => ?_)
  · skip
    refine lv_ldc hx hb hown (hts (.constant RX4 15 10000000) (List.mem_cons_of_mem _ kw_1_52)) dX4_between_20 ?_
    have hP9 := hP.sub (ws' := [(xRo, .inr (5, [.ref xLe, .int la])), (xLe, .inl (cLe, 144, .inl fL))]) [0, 1] rfl
    have hD9 := hD.sub (ws' := [(xRo, .inr (5, [.ref xLe, .int la])), (xLe, .inl (cLe, 144, .inl fL))]) [0, 1] (by decide) rfl
    have hK9 := hK.sub (tys' := [(cLe, .int)]) [0] rfl
    refine W.widen (k := 0) (n := 0) (Nat.le_of_ble_eq_true rfl) (Nat.le_of_ble_eq_true rfl) ?_
    exact W.iret (v := 10000000) hx hb hr (fun t ht hW => ⟨⟨10000000, (), rfl, trivial, ⟨by rw [ht]; exact hP9, va_K.moved hW.alike hK9, hD9⟩⟩, hS.F ht⟩) hS.2.2 dX4_between_22
  · skip
    refine lv_iload_n hx hb dX4_between_4 rfl (lv_at hl 1 rfl) ?_
    refine lv_bipush (v := 12) hx hb dX4_between_5 (by decide) ?_
    refine lv_icmp_ge (tgt := 20) hx hb dX4_between_7 (by decide) (fun c_2 => ?_) (fun c_2 => ?_)
    · skip
      refine lv_ldc hx hb hown (hts (.constant RX4 15 10000000) (List.mem_cons_of_mem _ kw_1_52)) dX4_between_20 ?_
      have hP9 := hP.sub (ws' := [(xRo, .inr (5, [.ref xLe, .int la])), (xLe, .inl (cLe, 144, .inl fL))]) [0, 1] rfl
      have hD9 := hD.sub (ws' := [(xRo, .inr (5, [.ref xLe, .int la])), (xLe, .inl (cLe, 144, .inl fL))]) [0, 1] (by decide) rfl
      have hK9 := hK.sub (tys' := [(cLe, .int)]) [0] rfl
      refine W.widen (k := 0) (n := 0) (Nat.le_of_ble_eq_true rfl) (Nat.le_of_ble_eq_true rfl) ?_
      exact W.iret (v := 10000000) hx hb hr (fun t ht hW => ⟨⟨10000000, (), rfl, trivial, ⟨by rw [ht]; exact hP9, va_K.moved hW.alike hK9, hD9⟩⟩, hS.F ht⟩) hS.2.2 dX4_between_22
    · skip
      refine lv_iload_n hx hb dX4_between_10 rfl (lv_at hl 2 rfl) ?_
      refine lv_if_lt (tgt := 20) hx hb dX4_between_11 (by decide) (fun c_3 => ?_) (fun c_3 => ?_)
      · skip
        refine lv_ldc hx hb hown (hts (.constant RX4 15 10000000) (List.mem_cons_of_mem _ kw_1_52)) dX4_between_20 ?_
        have hP9 := hP.sub (ws' := [(xRo, .inr (5, [.ref xLe, .int la])), (xLe, .inl (cLe, 144, .inl fL))]) [0, 1] rfl
        have hD9 := hD.sub (ws' := [(xRo, .inr (5, [.ref xLe, .int la])), (xLe, .inl (cLe, 144, .inl fL))]) [0, 1] (by decide) rfl
        have hK9 := hK.sub (tys' := [(cLe, .int)]) [0] rfl
        refine W.widen (k := 0) (n := 0) (Nat.le_of_ble_eq_true rfl) (Nat.le_of_ble_eq_true rfl) ?_
        exact W.iret (v := 10000000) hx hb hr (fun t ht hW => ⟨⟨10000000, (), rfl, trivial, ⟨by rw [ht]; exact hP9, va_K.moved hW.alike hK9, hD9⟩⟩, hS.F ht⟩) hS.2.2 dX4_between_22
      · skip
        refine lv_iload_n hx hb dX4_between_14 rfl (lv_at hl 2 rfl) ?_
        refine lv_bipush (v := 12) hx hb dX4_between_15 (by decide) ?_
        refine lv_icmp_lt (tgt := 23) hx hb dX4_between_17 (by decide) (fun c_4 => ?_) (fun c_4 => ?_)
        · skip
          refine lv_aload_n hx hb dX4_between_23 rfl (lv_at hl 0 rfl) ?_
          refine va_get (D := (dC, dI)) (ci := 5) (v := .ref xLe) (C := RX4) (T := TX4) (N := 2) hx hb hts iCX4 hown hK hP 0 rfl rfl 0 (by decide) (hts (.fieldLink RX4 9 "WalkingTown$Roads" "least" "[I") (List.mem_cons_of_mem _ kw_1_53)) (fun _ h9 => h9) rfl dX4_between_24 ?_
          refine lv_iload_n hx hb dX4_between_27 rfl (lv_at hl 1 rfl) ?_
          refine lv_bipush (v := 12) hx hb dX4_between_28 (by decide) ?_
          refine lv_imul hx hb dX4_between_30 ?_
          refine lv_topi (fun v_5 ev_5 => ?_)
          refine lv_iload_n hx hb dX4_between_31 rfl (lv_at hl 2 rfl) ?_
          refine lv_iadd hx hb dX4_between_32 ?_
          refine lv_topi (fun v_6 ev_6 => ?_)
          refine va_iald hx hb hK hP 1 0 rfl rfl (my_ixin c_1 c_2 c_3 (Int32.not_le.mpr c_4) ev_5 ev_6) dX4_between_33 ?_
          refine lv_topi (fun v_7 ev_7 => ?_)
          have hP9 := hP.sub (ws' := [(xRo, .inr (5, [.ref xLe, .int la])), (xLe, .inl (cLe, 144, .inl fL))]) [0, 1] rfl
          have hD9 := hD.sub (ws' := [(xRo, .inr (5, [.ref xLe, .int la])), (xLe, .inl (cLe, 144, .inl fL))]) [0, 1] (by decide) rfl
          have hK9 := hK.sub (tys' := [(cLe, .int)]) [0] rfl
          refine W.widen (k := 0) (n := 0) (Nat.le_of_ble_eq_true rfl) (Nat.le_of_ble_eq_true rfl) ?_
          exact W.iret (v := v_7) hx hb hr (fun t ht hW => ⟨⟨v_7, (), rfl, trivial, ⟨by rw [ht]; exact hP9, va_K.moved hW.alike hK9, hD9⟩⟩, hS.F ht⟩) hS.2.2 dX4_between_34
        · skip
          refine lv_ldc hx hb hown (hts (.constant RX4 15 10000000) (List.mem_cons_of_mem _ kw_1_52)) dX4_between_20 ?_
          have hP9 := hP.sub (ws' := [(xRo, .inr (5, [.ref xLe, .int la])), (xLe, .inl (cLe, 144, .inl fL))]) [0, 1] rfl
          have hD9 := hD.sub (ws' := [(xRo, .inr (5, [.ref xLe, .int la])), (xLe, .inl (cLe, 144, .inl fL))]) [0, 1] (by decide) rfl
          have hK9 := hK.sub (tys' := [(cLe, .int)]) [0] rfl
          refine W.widen (k := 0) (n := 0) (Nat.le_of_ble_eq_true rfl) (Nat.le_of_ble_eq_true rfl) ?_
          exact W.iret (v := 10000000) hx hb hr (fun t ht hW => ⟨⟨10000000, (), rfl, trivial, ⟨by rw [ht]; exact hP9, va_K.moved hW.alike hK9, hD9⟩⟩, hS.F ht⟩) hS.2.2 dX4_between_22
set_option maxHeartbeats 4000000 in
set_option maxRecDepth 100000 in
theorem x_far (l : Launch) (dC : Nat → ClassId) (dI : Nat → Nat → Nat) (sz : Nat) (a : Int32) (b : Int32) (xX : Nat) (xT : Nat) (xW : Nat) (xR : Nat) (xM : Nat) (xS : Nat) (xRo : Nat) (xPe : Nat) (xWh : Nat) (xTr : Nat) (xCo : Nat) (xAl : Nat) (xNl : Nat) (xDr : Nat) (xFa : Nat) (xLe : Nat) (cLe : ClassId) (fL : Nat → Int32) (hf : ∀ k, k < 144 → fL k = roadsG k) : Met l yX11_far (.code yX11_far cX11_far 4 (some .int) :: lw_good) ({ frames := 14, cells := 0, slots := 0, locals := 500 }) (va_Pc [.ref xX, .int a, .int b] (fun U => U.heap.size = sz ∧ va_P (dC, dI) vwCl [(xX, .inr (11, [.ref xT, .int 0, .ref xW, .ref xR, .ref xM, .ref xS, .int (-1), .int 0, .int (-1)])), (xW, .inr (7, [.ref xRo, .ref xPe, .ref xWh, .ref xTr, .ref xCo, .int 0, .ref xAl, .ref xNl, .ref xDr, .int 0, .ref xFa, .int 0, .int 0, .int 0])), (xRo, .inr (5, [.ref xLe, .int 0])), (xLe, .inl (cLe, 144, .inl fL))] U.heap ∧ va_K (dC, dI) vwCl [(cLe, .int)] U ∧ va_D (fun _ => True) [(xX, .inr (11, [.ref xT, .int 0, .ref xW, .ref xR, .ref xM, .ref xS, .int (-1), .int 0, .int (-1)])), (xW, .inr (7, [.ref xRo, .ref xPe, .ref xWh, .ref xTr, .ref xCo, .int 0, .ref xAl, .ref xNl, .ref xDr, .int 0, .ref xFa, .int 0, .int 0, .int 0])), (xRo, .inr (5, [.ref xLe, .int 0])), (xLe, .inl (cLe, 144, .inl fL))])) (va_Qi (fun (r : Int32) (_ : Unit) => r = sp_far a b) (fun (_ : Unit) (_ : State) => True) (va_A [(xX, .inr (11, [.ref xT, .int 0, .ref xW, .ref xR, .ref xM, .ref xS, .int (-1), .int 0, .int (-1)])), (xW, .inr (7, [.ref xRo, .ref xPe, .ref xWh, .ref xTr, .ref xCo, .int 0, .ref xAl, .ref xNl, .ref xDr, .int 0, .ref xFa, .int 0, .int 0, .int 0])), (xRo, .inr (5, [.ref xLe, .int 0])), (xLe, .inl (cLe, 144, .inl fL))] sz)) 0 0 (va_A [(xX, .inr (11, [.ref xT, .int 0, .ref xW, .ref xR, .ref xM, .ref xS, .int (-1), .int 0, .int (-1)])), (xW, .inr (7, [.ref xRo, .ref xPe, .ref xWh, .ref xTr, .ref xCo, .int 0, .ref xAl, .ref xNl, .ref xDr, .int 0, .ref xFa, .int 0, .int 0, .int 0])), (xRo, .inr (5, [.ref xLe, .int 0])), (xLe, .inl (cLe, 144, .inl fL))] sz) := by
  refine Met.ofW (cc := cX11_far) (maxL := 4) (ret := (some .int)) (by decide) rfl ?_
  intro p e s m args below meth c s₁ B hml hv
  obtain ⟨rfl, hsz, hP, hK, hD0⟩ := hv
  have hx := B.exec
  have hb := B.bytes
  have hr := B.returns
  have hts := atoms_spec (ws := (.code yX11_far cX11_far 4 (some .int) :: lw_good)) B.pre
  have hown : s.vm.findClass RX11 = some m.cls := findClass_of_methodNamed B.named
  have hlocks := B.notSynchronized
  subst hsz
  have hD := hD0.self (sz := s.heap.size)
  generalize hAe : va_A [(xX, .inr (11, [.ref xT, .int 0, .ref xW, .ref xR, .ref xM, .ref xS, .int (-1), .int 0, .int (-1)])), (xW, .inr (7, [.ref xRo, .ref xPe, .ref xWh, .ref xTr, .ref xCo, .int 0, .ref xAl, .ref xNl, .ref xDr, .int 0, .ref xFa, .int 0, .int 0, .int 0])), (xRo, .inr (5, [.ref xLe, .int 0])), (xLe, .inl (cLe, 144, .inl fL))] s.heap.size = A at hD ⊢
  have hA : ∀ q : Nat, s.heap.size ≤ q → A q := fun q h => by rw [← hAe]; exact Or.inr h
  have hS : va_S A s.heap s.heap [] := va_S.rf
  have hP : va_P (dC, dI) vwCl [(xX, .inr (11, [.ref xT, .int 0, .ref xW, .ref xR, .ref xM, .ref xS, .int (-1), .int 0, .int (-1)])), (xW, .inr (7, [.ref xRo, .ref xPe, .ref xWh, .ref xTr, .ref xCo, .int 0, .ref xAl, .ref xNl, .ref xDr, .int 0, .ref xFa, .int 0, .int 0, .int 0])), (xRo, .inr (5, [.ref xLe, .int 0])), (xLe, .inl (cLe, 144, .inl fL))] s.heap := hP
  have hl := lv_entry ([.ref xX, .int a, .int b]) (n := 4) (Nat.le_of_ble_eq_true rfl)
  rw [lg_entry_eq]
  generalize (lg_sl ([.ref xX, .int a, .int b]) ++ List.replicate (4 - (lg_sl ([.ref xX, .int a, .int b])).length) Slot.unset).toArray = ls at hl ⊢
  have hl : lv_has ls 4 [(0, .ref xX), (1, .int a), (2, .int b)] := hl
  refine lv_iload_n hx hb dX11_far_0 rfl (lv_at hl 1 rfl) ?_
  have hPc := hP.sub (ws' := []) [] rfl
  have hDc := hD.sub (ws' := []) [] (by decide) rfl
  have hKc := hK.sub (tys' := []) [] rfl
  have hFc := va_free (wc := []) hD hS hA [] rfl
  refine va_calli (va_runS (As := [.int a]) (rest := []) ⟨hx, hb, hml, hown, hts⟩ (c_isCorner l dC dI s.heap.size a) (va_cwS 1 hts (gS kw_3_157 kw_3_144 kw_1_3 kw_3_145) rfl rfl rfl (by decide +kernel) ⟨Nat.le_of_ble_eq_true rfl, Nat.le_of_ble_eq_true rfl⟩) ⟨fun a U g mk q => by obtain ⟨q0, q1, qP, qK, qD⟩ := q; exact ⟨q0, q1, qP, va_K.moved (u := U) (U := U.calling g mk a) (Vm.Alike.refl U.vm) qK, qD⟩, fun U hU hW => ⟨rfl, by rw [hU], by rw [hU]; exact hPc, va_K.moved hW.alike hKc, hDc.weaken (fun _ _ _ _ => trivial)⟩⟩ rfl rfl hl.1 rfl (lv_room (Nat.le_of_ble_eq_true rfl)) dX11_far_1 ⟨Nat.le_of_ble_eq_true rfl, Nat.le_of_ble_eq_true rfl⟩) hS (fun q _ h => hFc q h) hFc (fun r_1 u t H1 locs ht hvm hw hB hz1 hk1 hS => ?_)
  obtain ⟨hP, hD⟩ := va_join (wr := [(xX, .inr (11, [.ref xT, .int 0, .ref xW, .ref xR, .ref xM, .ref xS, .int (-1), .int 0, .int (-1)])), (xW, .inr (7, [.ref xRo, .ref xPe, .ref xWh, .ref xTr, .ref xCo, .int 0, .ref xAl, .ref xNl, .ref xDr, .int 0, .ref xFa, .int 0, .int 0, .int 0])), (xRo, .inr (5, [.ref xLe, .int 0])), (xLe, .inl (cLe, 144, .inl fL))]) (w1 := []) hP hD [] [0, 1, 2, 3] rfl rfl (by decide) (by decide) hk1 hFc (fun k q h => by simp at h) ⟨fun i j p q h => by simp at h, fun k q h => by simp at h⟩
  have hK := hK.sub (tys' := [(cLe, .int)]) [0] rfl
  generalize H1 = H at hP hS ⊢
  have hP : va_P (dC, dI) vwCl [(xX, .inr (11, [.ref xT, .int 0, .ref xW, .ref xR, .ref xM, .ref xS, .int (-1), .int 0, .int (-1)])), (xW, .inr (7, [.ref xRo, .ref xPe, .ref xWh, .ref xTr, .ref xCo, .int 0, .ref xAl, .ref xNl, .ref xDr, .int 0, .ref xFa, .int 0, .int 0, .int 0])), (xRo, .inr (5, [.ref xLe, .int 0])), (xLe, .inl (cLe, 144, .inl fL))] H := hP
  have hD : va_D A [(xX, .inr (11, [.ref xT, .int 0, .ref xW, .ref xR, .ref xM, .ref xS, .int (-1), .int 0, .int (-1)])), (xW, .inr (7, [.ref xRo, .ref xPe, .ref xWh, .ref xTr, .ref xCo, .int 0, .ref xAl, .ref xNl, .ref xDr, .int 0, .ref xFa, .int 0, .int 0, .int 0])), (xRo, .inr (5, [.ref xLe, .int 0])), (xLe, .inl (cLe, 144, .inl fL))] := hD
  have hK : va_K (dC, dI) vwCl [(cLe, .int)] s := hK
  rcases hw with ⟨rfl, h_2⟩ | ⟨rfl, h_2⟩
  · skip
    refine lv_if_eq (tgt := 14) hx hb dX11_far_4 (by decide) (fun c_3 => ?_) (fun c_3 => ?_)
    rotate_left
    · exact (c_3 (by decide)).elim
    refine lv_iconst (v := (-1)) hx hb dX11_far_14 (by decide) ?_
    refine W.widen (k := 0) (n := 0) (Nat.le_of_ble_eq_true rfl) (Nat.le_of_ble_eq_true rfl) ?_
    exact W.iret (v := (-1)) hx hb hr (fun t ht hW => ⟨⟨(-1), (), rfl, (by simp [sp_far, h_2, c_3]), trivial⟩, hS.F ht⟩) hS.2.2 dX11_far_15
  · skip
    refine lv_if_eq (tgt := 14) hx hb dX11_far_4 (by decide) (fun c_4 => ?_) (fun c_4 => ?_)
    · exact absurd c_4 (by decide)
    refine lv_iload_n hx hb dX11_far_7 rfl (lv_at hl 2 rfl) ?_
    have hPc := hP.sub (ws' := []) [] rfl
    have hDc := hD.sub (ws' := []) [] (by decide) rfl
    have hKc := hK.sub (tys' := []) [] rfl
    have hFc := va_free (wc := []) hD hS hA [] rfl
    refine va_calli (va_runS (As := [.int b]) (rest := []) ⟨hx, hb, hml, hown, hts⟩ (c_isCorner l dC dI H.size b) (va_cwS 1 hts (gS kw_3_157 kw_3_144 kw_1_3 kw_3_145) rfl rfl rfl (by decide +kernel) ⟨Nat.le_of_ble_eq_true rfl, Nat.le_of_ble_eq_true rfl⟩) ⟨fun a U g mk q => by obtain ⟨q0, q1, qP, qK, qD⟩ := q; exact ⟨q0, q1, qP, va_K.moved (u := U) (U := U.calling g mk a) (Vm.Alike.refl U.vm) qK, qD⟩, fun U hU hW => ⟨rfl, by rw [hU], by rw [hU]; exact hPc, va_K.moved hW.alike hKc, hDc.weaken (fun _ _ _ _ => trivial)⟩⟩ rfl rfl hl.1 rfl (lv_room (Nat.le_of_ble_eq_true rfl)) dX11_far_8 ⟨Nat.le_of_ble_eq_true rfl, Nat.le_of_ble_eq_true rfl⟩) hS (fun q _ h => hFc q h) hFc (fun r_5 u t H1 locs ht hvm hw hB hz1 hk1 hS => ?_)
    obtain ⟨hP, hD⟩ := va_join (wr := [(xX, .inr (11, [.ref xT, .int 0, .ref xW, .ref xR, .ref xM, .ref xS, .int (-1), .int 0, .int (-1)])), (xW, .inr (7, [.ref xRo, .ref xPe, .ref xWh, .ref xTr, .ref xCo, .int 0, .ref xAl, .ref xNl, .ref xDr, .int 0, .ref xFa, .int 0, .int 0, .int 0])), (xRo, .inr (5, [.ref xLe, .int 0])), (xLe, .inl (cLe, 144, .inl fL))]) (w1 := []) hP hD [] [0, 1, 2, 3] rfl rfl (by decide) (by decide) hk1 hFc (fun k q h => by simp at h) ⟨fun i j p q h => by simp at h, fun k q h => by simp at h⟩
    have hK := hK.sub (tys' := [(cLe, .int)]) [0] rfl
    generalize H1 = H at hP hS ⊢
    have hP : va_P (dC, dI) vwCl [(xX, .inr (11, [.ref xT, .int 0, .ref xW, .ref xR, .ref xM, .ref xS, .int (-1), .int 0, .int (-1)])), (xW, .inr (7, [.ref xRo, .ref xPe, .ref xWh, .ref xTr, .ref xCo, .int 0, .ref xAl, .ref xNl, .ref xDr, .int 0, .ref xFa, .int 0, .int 0, .int 0])), (xRo, .inr (5, [.ref xLe, .int 0])), (xLe, .inl (cLe, 144, .inl fL))] H := hP
    have hD : va_D A [(xX, .inr (11, [.ref xT, .int 0, .ref xW, .ref xR, .ref xM, .ref xS, .int (-1), .int 0, .int (-1)])), (xW, .inr (7, [.ref xRo, .ref xPe, .ref xWh, .ref xTr, .ref xCo, .int 0, .ref xAl, .ref xNl, .ref xDr, .int 0, .ref xFa, .int 0, .int 0, .int 0])), (xRo, .inr (5, [.ref xLe, .int 0])), (xLe, .inl (cLe, 144, .inl fL))] := hD
    have hK : va_K (dC, dI) vwCl [(cLe, .int)] s := hK
    rcases hw with ⟨rfl, h_6⟩ | ⟨rfl, h_6⟩
    · skip
      refine lv_if_ne (tgt := 16) hx hb dX11_far_11 (by decide) (fun c_7 => ?_) (fun c_7 => ?_)
      · exact (c_7 (by decide)).elim
      refine lv_iconst (v := (-1)) hx hb dX11_far_14 (by decide) ?_
      refine W.widen (k := 0) (n := 0) (Nat.le_of_ble_eq_true rfl) (Nat.le_of_ble_eq_true rfl) ?_
      exact W.iret (v := (-1)) hx hb hr (fun t ht hW => ⟨⟨(-1), (), rfl, (by simp [sp_far, h_2, c_4, h_6, c_7]), trivial⟩, hS.F ht⟩) hS.2.2 dX11_far_15
    · skip
      refine lv_if_ne (tgt := 16) hx hb dX11_far_11 (by decide) (fun c_8 => ?_) (fun c_8 => ?_)
      rotate_left
      · exact absurd c_8 (by decide)
      refine lv_aload_n hx hb dX11_far_16 rfl (lv_at hl 0 rfl) ?_
      refine va_get (D := (dC, dI)) (ci := 11) (v := .ref xW) (C := RX11) (T := TX11) (N := 9) hx hb hts iCX11 hown hK hP 0 rfl rfl 2 (by decide) (hts (.fieldLink RX11 16 "WalkingTown" "town" "LWalkingTown$Town;") (List.mem_cons_of_mem _ kw_3_93)) (fun _ h9 => h9) rfl dX11_far_17 ?_
      refine va_get (D := (dC, dI)) (ci := 7) (v := .ref xRo) (C := RX7) (T := TX7) (N := 14) hx hb hts iCX7 hown hK hP 1 rfl rfl 0 (by decide) (hts (.fieldLink RX11 60 "WalkingTown$Town" "roads" "LWalkingTown$Roads;") (List.mem_cons_of_mem _ kw_2_59)) (fun _ h9 => h9) rfl dX11_far_20 ?_
      refine lv_iload_n hx hb dX11_far_23 rfl (lv_at hl 1 rfl) ?_
      refine lv_iload_n hx hb dX11_far_24 rfl (lv_at hl 2 rfl) ?_
      have hPc := hP.sub (ws' := [(xRo, .inr (5, [.ref xLe, .int 0])), (xLe, .inl (cLe, 144, .inl fL))]) [2, 3] rfl
      have hDc := hD.sub (ws' := [(xRo, .inr (5, [.ref xLe, .int 0])), (xLe, .inl (cLe, 144, .inl fL))]) [2, 3] (by decide) rfl
      have hKc := hK.sub (tys' := [(cLe, .int)]) [0] rfl
      have hFc := va_free (wc := [(xRo, .inr (5, [.ref xLe, .int 0])), (xLe, .inl (cLe, 144, .inl fL))]) hD hS hA [2, 3] rfl
      refine va_calli (va_runV (As := [.int a, .int b]) (rest := []) ⟨hx, hb, hml, hown, hts⟩ (c_betw_far l dC dI H.size a b xRo xLe cLe fL hf h_2 h_6) (cwV 2 hts (gV kw_3_158 kw_3_147 kw_3_148 kw_1_3 kw_3_149) rfl rfl rfl (by decide +kernel) ⟨Nat.le_of_ble_eq_true rfl, Nat.le_of_ble_eq_true rfl⟩) ⟨fun a U g mk q => by obtain ⟨q0, q1, qP, qK, qD⟩ := q; exact ⟨q0, q1, qP, va_K.moved (u := U) (U := U.calling g mk a) (Vm.Alike.refl U.vm) qK, qD⟩, va_recv hKc hPc (ci := 5) (q0 := 0) rfl rfl, fun U hU hW => ⟨rfl, by rw [hU], by rw [hU]; exact hPc, va_K.moved hW.alike hKc, hDc.weaken (fun _ _ _ _ => trivial)⟩⟩ rfl rfl hl.1 rfl (lv_room (Nat.le_of_ble_eq_true rfl)) dX11_far_25 ⟨Nat.le_of_ble_eq_true rfl, Nat.le_of_ble_eq_true rfl⟩) hS (fun q _ h => hFc q h) hFc (fun r_9 u t H1 locs ht hvm hw hB hz1 hk1 hS => ?_)
      obtain ⟨hP, hD⟩ := va_join (wr := [(xX, .inr (11, [.ref xT, .int 0, .ref xW, .ref xR, .ref xM, .ref xS, .int (-1), .int 0, .int (-1)])), (xW, .inr (7, [.ref xRo, .ref xPe, .ref xWh, .ref xTr, .ref xCo, .int 0, .ref xAl, .ref xNl, .ref xDr, .int 0, .ref xFa, .int 0, .int 0, .int 0]))]) (w1 := []) hP hD [2, 3] [0, 1] rfl rfl (by decide) (by decide) hk1 hFc (fun k q h => by simp at h) ⟨fun i j p q h => by simp at h, fun k q h => by simp at h⟩
      have hK := hK.sub (tys' := []) [] rfl
      generalize H1 = H at hP hS ⊢
      have hP : va_P (dC, dI) vwCl [(xX, .inr (11, [.ref xT, .int 0, .ref xW, .ref xR, .ref xM, .ref xS, .int (-1), .int 0, .int (-1)])), (xW, .inr (7, [.ref xRo, .ref xPe, .ref xWh, .ref xTr, .ref xCo, .int 0, .ref xAl, .ref xNl, .ref xDr, .int 0, .ref xFa, .int 0, .int 0, .int 0]))] H := hP
      have hD : va_D A [(xX, .inr (11, [.ref xT, .int 0, .ref xW, .ref xR, .ref xM, .ref xS, .int (-1), .int 0, .int (-1)])), (xW, .inr (7, [.ref xRo, .ref xPe, .ref xWh, .ref xTr, .ref xCo, .int 0, .ref xAl, .ref xNl, .ref xDr, .int 0, .ref xFa, .int 0, .int 0, .int 0]))] := hD
      have hK : va_K (dC, dI) vwCl [] s := hK
      have h_10 := hw
      refine lv_istore_n (lv' := [(3, .int r_9), (0, .ref xX), (1, .int a), (2, .int b)]) hx hb dX11_far_28 rfl hl (by decide) rfl (fun ls hl => ?_)
      refine lv_iload_n hx hb dX11_far_29 rfl (lv_at hl 0 rfl) ?_
      refine lv_ldc hx hb hown (hts (.constant RX11 78 10000000) (List.mem_cons_of_mem _ kw_3_159)) dX11_far_30 ?_
      refine lv_icmp_lt (tgt := 40) hx hb dX11_far_32 (by decide) (fun c_11 => ?_) (fun c_11 => ?_)
      · skip
        refine lv_iload_n hx hb dX11_far_40 rfl (lv_at hl 0 rfl) ?_
        refine W.widen (k := 0) (n := 0) (Nat.le_of_ble_eq_true rfl) (Nat.le_of_ble_eq_true rfl) ?_
        exact W.iret (v := r_9) hx hb hr (fun t ht hW => ⟨⟨r_9, (), rfl, (my_farleaf0 h_2 h_6 h_10 c_11), trivial⟩, hS.F ht⟩) hS.2.2 dX11_far_41
      · skip
        refine lv_bipush (v := (-2)) hx hb dX11_far_35 (by decide) ?_
        refine lv_goto (tgt := 41) hx hb dX11_far_37 (by decide) ?_
        refine W.widen (k := 0) (n := 0) (Nat.le_of_ble_eq_true rfl) (Nat.le_of_ble_eq_true rfl) ?_
        exact W.iret (v := (-2)) hx hb hr (fun t ht hW => ⟨⟨(-2), (), rfl, (my_farleaf1 h_2 h_6 h_10 c_11), trivial⟩, hS.F ht⟩) hS.2.2 dX11_far_41
set_option maxHeartbeats 4000000 in
set_option maxRecDepth 100000 in
theorem c_lay (l : Launch) (dC : Nat → ClassId) (dI : Nat → Nat → Nat) (sz : Nat) (a : Int32) (b : Int32) (c3 : Int32) (xRo : Nat) (xLe : Nat) (cLe : ClassId) (fL : Nat → Int32) : Met l yX4_lay (.code yX4_lay cX4_lay 9 (some .boolean) :: lw_good) ({ frames := 6, cells := 0, slots := 0, locals := 200 }) (va_Pc [.ref xRo, .int a, .int b, .int c3] (fun U => U.heap.size = sz ∧ va_P (dC, dI) vwCl [(xRo, .inr (5, [.ref xLe, .int 0])), (xLe, .inl (cLe, 144, .inl fL))] U.heap ∧ va_K (dC, dI) vwCl [(cLe, .int)] U ∧ va_D (fun _ => True) [(xRo, .inr (5, [.ref xLe, .int 0])), (xLe, .inl (cLe, 144, .inl fL))])) (va_Qi (fun (r : Int32) (_ : Unit) => r = sp_street a b c3) (fun (_ : Unit) (_ : State) => True) (va_A [(xRo, .inr (5, [.ref xLe, .int 0])), (xLe, .inl (cLe, 144, .inl fL))] sz)) 0 0 (va_A [(xRo, .inr (5, [.ref xLe, .int 0])), (xLe, .inl (cLe, 144, .inl fL))] sz) := by
  refine Met.ofW (cc := cX4_lay) (maxL := 9) (ret := (some .boolean)) (by decide) rfl ?_
  intro p e s m args below meth c s₁ B hml hv
  obtain ⟨rfl, hsz, hP, hK, hD0⟩ := hv
  have hx := B.exec
  have hb := B.bytes
  have hr := B.returns
  have hts := atoms_spec (ws := (.code yX4_lay cX4_lay 9 (some .boolean) :: lw_good)) B.pre
  have hown : s.vm.findClass RX4 = some m.cls := findClass_of_methodNamed B.named
  have hlocks := B.notSynchronized
  subst hsz
  have hD := hD0.self (sz := s.heap.size)
  generalize hAe : va_A [(xRo, .inr (5, [.ref xLe, .int 0])), (xLe, .inl (cLe, 144, .inl fL))] s.heap.size = A at hD ⊢
  have hA : ∀ q : Nat, s.heap.size ≤ q → A q := fun q h => by rw [← hAe]; exact Or.inr h
  have hS : va_S A s.heap s.heap [] := va_S.rf
  have hP : va_P (dC, dI) vwCl [(xRo, .inr (5, [.ref xLe, .int 0])), (xLe, .inl (cLe, 144, .inl fL))] s.heap := hP
  have hl := lv_entry ([.ref xRo, .int a, .int b, .int c3]) (n := 9) (Nat.le_of_ble_eq_true rfl)
  rw [lg_entry_eq]
  generalize (lg_sl ([.ref xRo, .int a, .int b, .int c3]) ++ List.replicate (9 - (lg_sl ([.ref xRo, .int a, .int b, .int c3])).length) Slot.unset).toArray = ls at hl ⊢
  have hl : lv_has ls 9 [(0, .ref xRo), (1, .int a), (2, .int b), (3, .int c3)] := hl
  refine lv_aload_n hx hb dX4_lay_0 rfl (lv_at hl 0 rfl) ?_
  refine va_get (D := (dC, dI)) (ci := 5) (v := .int 0) (C := RX4) (T := TX4) (N := 2) hx hb hts iCX4 hown hK hP 0 rfl rfl 1 (by decide) (hts (.fieldLink RX4 16 "WalkingTown$Roads" "laid" "I") (List.mem_cons_of_mem _ kw_1_54)) (fun _ h9 => h9) rfl dX4_lay_1 ?_
  refine lv_bipush (v := 30) hx hb dX4_lay_4 (by decide) ?_
  refine lv_icmp_ge (tgt := 28) hx hb dX4_lay_6 (by decide) (fun c_1 => ?_) (fun c_1 => ?_)
  · exact absurd c_1 (by decide)
  refine lv_iload_n hx hb dX4_lay_9 rfl (lv_at hl 1 rfl) ?_
  have hPc := hP.sub (ws' := []) [] rfl
  have hDc := hD.sub (ws' := []) [] (by decide) rfl
  have hKc := hK.sub (tys' := []) [] rfl
  have hFc := va_free (wc := []) hD hS hA [] rfl
  refine va_calli (va_runS (As := [.int a]) (rest := []) ⟨hx, hb, hml, hown, hts⟩ (c_isCorner l dC dI s.heap.size a) (va_cwS 1 hts (gS kw_3_143 kw_3_144 kw_1_3 kw_3_145) rfl rfl rfl (by decide +kernel) ⟨Nat.le_of_ble_eq_true rfl, Nat.le_of_ble_eq_true rfl⟩) ⟨fun a U g mk q => by obtain ⟨q0, q1, qP, qK, qD⟩ := q; exact ⟨q0, q1, qP, va_K.moved (u := U) (U := U.calling g mk a) (Vm.Alike.refl U.vm) qK, qD⟩, fun U hU hW => ⟨rfl, by rw [hU], by rw [hU]; exact hPc, va_K.moved hW.alike hKc, hDc.weaken (fun _ _ _ _ => trivial)⟩⟩ rfl rfl hl.1 rfl (lv_room (Nat.le_of_ble_eq_true rfl)) dX4_lay_10 ⟨Nat.le_of_ble_eq_true rfl, Nat.le_of_ble_eq_true rfl⟩) hS (fun q _ h => hFc q h) hFc (fun r_2 u t H1 locs ht hvm hw hB hz1 hk1 hS => ?_)
  obtain ⟨hP, hD⟩ := va_join (wr := [(xRo, .inr (5, [.ref xLe, .int 0])), (xLe, .inl (cLe, 144, .inl fL))]) (w1 := []) hP hD [] [0, 1] rfl rfl (by decide) (by decide) hk1 hFc (fun k q h => by simp at h) ⟨fun i j p q h => by simp at h, fun k q h => by simp at h⟩
  have hK := hK.sub (tys' := [(cLe, .int)]) [0] rfl
  generalize H1 = H at hP hS ⊢
  have hP : va_P (dC, dI) vwCl [(xRo, .inr (5, [.ref xLe, .int 0])), (xLe, .inl (cLe, 144, .inl fL))] H := hP
  have hD : va_D A [(xRo, .inr (5, [.ref xLe, .int 0])), (xLe, .inl (cLe, 144, .inl fL))] := hD
  have hK : va_K (dC, dI) vwCl [(cLe, .int)] s := hK
  rcases hw with ⟨rfl, h_3⟩ | ⟨rfl, h_3⟩
  · skip
    refine lv_if_eq (tgt := 28) hx hb dX4_lay_13 (by decide) (fun c_4 => ?_) (fun c_4 => ?_)
    rotate_left
    · exact (c_4 (by decide)).elim
    refine lv_iconst (v := 0) hx hb dX4_lay_28 (by decide) ?_
    refine W.widen (k := 0) (n := 0) (Nat.le_of_ble_eq_true rfl) (Nat.le_of_ble_eq_true rfl) ?_
    exact W.zret (v := 0) hx hb hr (by decide) (fun t ht hW => ⟨⟨0, (), rfl, (by first | (simp [sp_street, h_3, c_4]; done) | (have q := c_4; simp [sp_street, h_3, c_4, Int32.not_lt.mpr, Int32.not_le.mp] )), trivial⟩, hS.F ht⟩) hS.2.2 dX4_lay_29
  · skip
    refine lv_if_eq (tgt := 28) hx hb dX4_lay_13 (by decide) (fun c_5 => ?_) (fun c_5 => ?_)
    · exact absurd c_5 (by decide)
    refine lv_iload_n hx hb dX4_lay_16 rfl (lv_at hl 2 rfl) ?_
    have hPc := hP.sub (ws' := []) [] rfl
    have hDc := hD.sub (ws' := []) [] (by decide) rfl
    have hKc := hK.sub (tys' := []) [] rfl
    have hFc := va_free (wc := []) hD hS hA [] rfl
    refine va_calli (va_runS (As := [.int b]) (rest := []) ⟨hx, hb, hml, hown, hts⟩ (c_isCorner l dC dI H.size b) (va_cwS 1 hts (gS kw_3_143 kw_3_144 kw_1_3 kw_3_145) rfl rfl rfl (by decide +kernel) ⟨Nat.le_of_ble_eq_true rfl, Nat.le_of_ble_eq_true rfl⟩) ⟨fun a U g mk q => by obtain ⟨q0, q1, qP, qK, qD⟩ := q; exact ⟨q0, q1, qP, va_K.moved (u := U) (U := U.calling g mk a) (Vm.Alike.refl U.vm) qK, qD⟩, fun U hU hW => ⟨rfl, by rw [hU], by rw [hU]; exact hPc, va_K.moved hW.alike hKc, hDc.weaken (fun _ _ _ _ => trivial)⟩⟩ rfl rfl hl.1 rfl (lv_room (Nat.le_of_ble_eq_true rfl)) dX4_lay_17 ⟨Nat.le_of_ble_eq_true rfl, Nat.le_of_ble_eq_true rfl⟩) hS (fun q _ h => hFc q h) hFc (fun r_6 u t H1 locs ht hvm hw hB hz1 hk1 hS => ?_)
    obtain ⟨hP, hD⟩ := va_join (wr := [(xRo, .inr (5, [.ref xLe, .int 0])), (xLe, .inl (cLe, 144, .inl fL))]) (w1 := []) hP hD [] [0, 1] rfl rfl (by decide) (by decide) hk1 hFc (fun k q h => by simp at h) ⟨fun i j p q h => by simp at h, fun k q h => by simp at h⟩
    have hK := hK.sub (tys' := [(cLe, .int)]) [0] rfl
    generalize H1 = H at hP hS ⊢
    have hP : va_P (dC, dI) vwCl [(xRo, .inr (5, [.ref xLe, .int 0])), (xLe, .inl (cLe, 144, .inl fL))] H := hP
    have hD : va_D A [(xRo, .inr (5, [.ref xLe, .int 0])), (xLe, .inl (cLe, 144, .inl fL))] := hD
    have hK : va_K (dC, dI) vwCl [(cLe, .int)] s := hK
    rcases hw with ⟨rfl, h_7⟩ | ⟨rfl, h_7⟩
    · skip
      refine lv_if_eq (tgt := 28) hx hb dX4_lay_20 (by decide) (fun c_8 => ?_) (fun c_8 => ?_)
      rotate_left
      · exact (c_8 (by decide)).elim
      refine lv_iconst (v := 0) hx hb dX4_lay_28 (by decide) ?_
      refine W.widen (k := 0) (n := 0) (Nat.le_of_ble_eq_true rfl) (Nat.le_of_ble_eq_true rfl) ?_
      exact W.zret (v := 0) hx hb hr (by decide) (fun t ht hW => ⟨⟨0, (), rfl, (by first | (simp [sp_street, h_3, c_5, h_7, c_8]; done) | (have q := c_8; simp [sp_street, h_3, c_5, h_7, c_8, Int32.not_lt.mpr, Int32.not_le.mp] )), trivial⟩, hS.F ht⟩) hS.2.2 dX4_lay_29
    · skip
      refine lv_if_eq (tgt := 28) hx hb dX4_lay_20 (by decide) (fun c_9 => ?_) (fun c_9 => ?_)
      · exact absurd c_9 (by decide)
      refine lv_iload_n hx hb dX4_lay_23 rfl (lv_at hl 1 rfl) ?_
      refine lv_iload_n hx hb dX4_lay_24 rfl (lv_at hl 2 rfl) ?_
      refine lv_icmp_ne (tgt := 30) hx hb dX4_lay_25 (by decide) (fun c_10 => ?_) (fun c_10 => ?_)
      · skip
        refine lv_iload_n hx hb dX4_lay_30 rfl (lv_at hl 3 rfl) ?_
        refine lv_iconst (v := 1) hx hb dX4_lay_31 (by decide) ?_
        refine lv_icmp_lt (tgt := 41) hx hb dX4_lay_32 (by decide) (fun c_11 => ?_) (fun c_11 => ?_)
        · skip
          refine lv_iconst (v := 0) hx hb dX4_lay_41 (by decide) ?_
          refine W.widen (k := 0) (n := 0) (Nat.le_of_ble_eq_true rfl) (Nat.le_of_ble_eq_true rfl) ?_
          exact W.zret (v := 0) hx hb hr (by decide) (fun t ht hW => ⟨⟨0, (), rfl, (by first | (simp [sp_street, h_3, c_5, h_7, c_9, c_10, c_11]; done) | (have q := c_11; simp [sp_street, h_3, c_5, h_7, c_9, c_10, c_11, Int32.not_lt.mpr, Int32.not_le.mp] )), trivial⟩, hS.F ht⟩) hS.2.2 dX4_lay_42
        · skip
          refine lv_iload_n hx hb dX4_lay_35 rfl (lv_at hl 3 rfl) ?_
          refine lv_bipush (v := 99) hx hb dX4_lay_36 (by decide) ?_
          refine lv_icmp_le (tgt := 43) hx hb dX4_lay_38 (by decide) (fun c_12 => ?_) (fun c_12 => ?_)
          · skip
            refine lv_aload_n hx hb dX4_lay_43 rfl (lv_at hl 0 rfl) ?_
            refine lv_dup hx hb dX4_lay_44 rfl ?_
            refine va_get (D := (dC, dI)) (ci := 5) (v := .int 0) (C := RX4) (T := TX4) (N := 2) hx hb hts iCX4 hown hK hP 0 rfl rfl 1 (by decide) (hts (.fieldLink RX4 16 "WalkingTown$Roads" "laid" "I") (List.mem_cons_of_mem _ kw_1_54)) (fun _ h9 => h9) rfl dX4_lay_45 ?_
            refine lv_iconst (v := 1) hx hb dX4_lay_48 (by decide) ?_
            refine lv_iadd hx hb dX4_lay_49 ?_
            refine my_ti (y := 1) (by decide) ?_
            refine va_put (D := (dC, dI)) (ci := 5) (v := .int 1) (ty := .int) (C := RX4) (T := TX4) (N := 2) hx hb hts iCX4 tyX4 tyX4_ok nmX4 hown hK hP hD hS 0 rfl rfl 1 (by decide) (hts (.fieldLink RX4 16 "WalkingTown$Roads" "laid" "I") (List.mem_cons_of_mem _ kw_1_54)) (fun _ h9 => h9) rfl (by decide +kernel) rfl rfl (Nat.le_of_ble_eq_true rfl) dX4_lay_50 (fun H locs hP hD hS => ?_)
            have hP : va_P (dC, dI) vwCl [(xRo, .inr (5, [.ref xLe, .int 1])), (xLe, .inl (cLe, 144, .inl fL))] H := hP
            have hD : va_D A [(xRo, .inr (5, [.ref xLe, .int 1])), (xLe, .inl (cLe, 144, .inl fL))] := hD
            refine lv_iconst (v := 0) hx hb dX4_lay_53 (by decide) ?_
            refine lv_istore (lv' := [(4, .int 0), (0, .ref xRo), (1, .int a), (2, .int b), (3, .int c3)]) hx hb dX4_lay_54 hl (by decide) rfl (fun ls hl => ?_)
            refine (show ∀ (n : Nat) (i : Nat) (x : Int32) (f : Nat → Int32) (H : Heap) (locs : List Loc) (ls : Array Slot), 144 < i + n → i ≤ 144 → x = nI i → va_K (dC, dI) vwCl [(cLe, .int)] s → va_P (dC, dI) vwCl [(xRo, .inr (5, [.ref xLe, .int 1])), (xLe, .inl (cLe, 144, .inl f))] H → va_D A [(xRo, .inr (5, [.ref xLe, .int 1])), (xLe, .inl (cLe, 144, .inl f))] → va_S A s.heap H locs → lv_has ls 9 [(0, .ref xRo), (1, .int a), (2, .int b), (3, .int c3), (4, .int x)] → W p l e _ s m _ below meth c H locs 0 0 _ (F0 m 56 ls []) from ?_) 145 0 0 fL H _ ls (by omega) (by omega) rfl hK hP hD hS (lv_sub hl [1, 2, 3, 4, 0] rfl)
            intro n
            induction n with
            | zero => intro i x f H locs ls hfu hi hxi; exfalso; omega
            | succ n ih =>
              intro i x f H locs ls hfu hi hxi hK hP hD hS hl
              refine lv_iload hx hb dX4_lay_56 (lv_at hl 4 rfl) ?_
              refine lv_aload_n hx hb dX4_lay_58 rfl (lv_at hl 0 rfl) ?_
              refine va_get (D := (dC, dI)) (ci := 5) (v := .ref xLe) (C := RX4) (T := TX4) (N := 2) hx hb hts iCX4 hown hK hP 0 rfl rfl 0 (by decide) (hts (.fieldLink RX4 9 "WalkingTown$Roads" "least" "[I") (List.mem_cons_of_mem _ kw_1_53)) (fun _ h9 => h9) rfl dX4_lay_59 ?_
              refine va_alen hx hb hK hP 1 0 rfl rfl (v := 144) rfl dX4_lay_62 ?_
              refine lv_icmp_ge (tgt := 148) hx hb dX4_lay_63 (by decide) (fun c_13 => ?_) (fun c_13 => ?_)
              · skip
                refine lv_iconst (v := 1) hx hb dX4_lay_148 (by decide) ?_
                refine W.widen (k := 0) (n := 0) (Nat.le_of_ble_eq_true rfl) (Nat.le_of_ble_eq_true rfl) ?_
                exact W.zret (v := 1) hx hb hr (by decide) (fun t ht hW => ⟨⟨1, (), rfl, (by first | (simp [sp_street, h_3, c_5, h_7, c_9, c_10, c_11, c_12]; done) | (have q := c_12; simp [sp_street, h_3, c_5, h_7, c_9, c_10, c_11, c_12, Int32.not_lt.mpr, Int32.not_le.mp] )), trivial⟩, hS.F ht⟩) hS.2.2 dX4_lay_149
              · skip
                refine lv_iload hx hb dX4_lay_66 (lv_at hl 4 rfl) ?_
                refine lv_bipush (v := 12) hx hb dX4_lay_68 (by decide) ?_
                refine lv_idiv hx hb dX4_lay_70 (by decide) ?_
                refine lv_topi (fun v_14 ev_14 => ?_)
                refine lv_istore (lv' := [(5, .int v_14), (0, .ref xRo), (1, .int a), (2, .int b), (3, .int c3), (4, .int x)]) hx hb dX4_lay_71 hl (by decide) rfl (fun ls hl => ?_)
                refine lv_iload hx hb dX4_lay_73 (lv_at hl 5 rfl) ?_
                refine lv_bipush (v := 12) hx hb dX4_lay_75 (by decide) ?_
                refine lv_irem hx hb dX4_lay_77 (by decide) ?_
                refine lv_topi (fun v_15 ev_15 => ?_)
                refine lv_istore (lv' := [(6, .int v_15), (5, .int v_14), (0, .ref xRo), (1, .int a), (2, .int b), (3, .int c3), (4, .int x)]) hx hb dX4_lay_78 hl (by decide) rfl (fun ls hl => ?_)
                refine lv_aload_n hx hb dX4_lay_80 rfl (lv_at hl 2 rfl) ?_
                refine lv_iload hx hb dX4_lay_81 (lv_at hl 1 rfl) ?_
                refine lv_iload_n hx hb dX4_lay_83 rfl (lv_at hl 3 rfl) ?_
                have hPc := hP.sub (ws' := [(xRo, .inr (5, [.ref xLe, .int 1])), (xLe, .inl (cLe, 144, .inl f))]) [0, 1] rfl
                have hDc := hD.sub (ws' := [(xRo, .inr (5, [.ref xLe, .int 1])), (xLe, .inl (cLe, 144, .inl f))]) [0, 1] (by decide) rfl
                have hKc := hK.sub (tys' := [(cLe, .int)]) [0] rfl
                have hFc := va_free (wc := [(xRo, .inr (5, [.ref xLe, .int 1])), (xLe, .inl (cLe, 144, .inl f))]) hD hS hA [0, 1] rfl
                refine va_calli (va_runV (As := [.int v_14, .int a]) (rest := []) ⟨hx, hb, hml, hown, hts⟩ (c_betw l dC dI H.size v_14 a 1 xRo xLe cLe f) (cwV 2 hts (gV kw_3_146 kw_3_147 kw_3_148 kw_1_3 kw_3_149) rfl rfl rfl (by decide +kernel) ⟨Nat.le_of_ble_eq_true rfl, Nat.le_of_ble_eq_true rfl⟩) ⟨fun a U g mk q => by obtain ⟨q0, q1, qP, qK, qD⟩ := q; exact ⟨q0, q1, qP, va_K.moved (u := U) (U := U.calling g mk a) (Vm.Alike.refl U.vm) qK, qD⟩, va_recv hKc hPc (ci := 5) (q0 := 0) rfl rfl, fun U hU hW => ⟨rfl, by rw [hU], by rw [hU]; exact hPc, va_K.moved hW.alike hKc, hDc.weaken (fun _ _ _ _ => trivial)⟩⟩ rfl rfl hl.1 rfl (lv_room (Nat.le_of_ble_eq_true rfl)) dX4_lay_84 ⟨Nat.le_of_ble_eq_true rfl, Nat.le_of_ble_eq_true rfl⟩) hS (fun q _ h => hFc q h) hFc (fun r_16 u t H1 locs ht hvm hw hB hz1 hk1 hS => ?_)
                obtain ⟨hP1, hK1, hD1⟩ := hB
                rw [ht] at hP1
                have hK1 := va_K.moved hvm.symm hK1
                obtain ⟨hP, hD⟩ := va_join (wr := []) (w1 := [(xRo, .inr (5, [.ref xLe, .int 1])), (xLe, .inl (cLe, 144, .inl f))]) hP hD [0, 1] [] rfl rfl (by decide) (by decide) hk1 hFc hP1 hD1
                have hK := (hK.sub (tys' := []) [] rfl).app hK1
                generalize H1 = H at hP hS ⊢
                have hP : va_P (dC, dI) vwCl [(xRo, .inr (5, [.ref xLe, .int 1])), (xLe, .inl (cLe, 144, .inl f))] H := hP
                have hD : va_D A [(xRo, .inr (5, [.ref xLe, .int 1])), (xLe, .inl (cLe, 144, .inl f))] := hD
                have hK : va_K (dC, dI) vwCl [(cLe, .int)] s := hK
                have h_17 := hw
                refine lv_iload_n hx hb dX4_lay_87 rfl (lv_at hl 5 rfl) ?_
                refine lv_iadd hx hb dX4_lay_88 ?_
                refine lv_topi (fun v_18 ev_18 => ?_)
                refine lv_aload_n hx hb dX4_lay_89 rfl (lv_at hl 2 rfl) ?_
                refine lv_iload_n hx hb dX4_lay_90 rfl (lv_at hl 4 rfl) ?_
                refine lv_iload hx hb dX4_lay_91 (lv_at hl 0 rfl) ?_
                have hPc := hP.sub (ws' := [(xRo, .inr (5, [.ref xLe, .int 1])), (xLe, .inl (cLe, 144, .inl f))]) [0, 1] rfl
                have hDc := hD.sub (ws' := [(xRo, .inr (5, [.ref xLe, .int 1])), (xLe, .inl (cLe, 144, .inl f))]) [0, 1] (by decide) rfl
                have hKc := hK.sub (tys' := [(cLe, .int)]) [0] rfl
                have hFc := va_free (wc := [(xRo, .inr (5, [.ref xLe, .int 1])), (xLe, .inl (cLe, 144, .inl f))]) hD hS hA [0, 1] rfl
                refine va_calli (va_runV (As := [.int b, .int v_15]) (rest := [.int v_18]) ⟨hx, hb, hml, hown, hts⟩ (c_betw l dC dI H.size b v_15 1 xRo xLe cLe f) (cwV 2 hts (gV kw_3_146 kw_3_147 kw_3_148 kw_1_3 kw_3_149) rfl rfl rfl (by decide +kernel) ⟨Nat.le_of_ble_eq_true rfl, Nat.le_of_ble_eq_true rfl⟩) ⟨fun a U g mk q => by obtain ⟨q0, q1, qP, qK, qD⟩ := q; exact ⟨q0, q1, qP, va_K.moved (u := U) (U := U.calling g mk a) (Vm.Alike.refl U.vm) qK, qD⟩, va_recv hKc hPc (ci := 5) (q0 := 0) rfl rfl, fun U hU hW => ⟨rfl, by rw [hU], by rw [hU]; exact hPc, va_K.moved hW.alike hKc, hDc.weaken (fun _ _ _ _ => trivial)⟩⟩ rfl rfl hl.1 rfl (lv_room (Nat.le_of_ble_eq_true rfl)) dX4_lay_93 ⟨Nat.le_of_ble_eq_true rfl, Nat.le_of_ble_eq_true rfl⟩) hS (fun q _ h => hFc q h) hFc (fun r_19 u t H1 locs ht hvm hw hB hz1 hk1 hS => ?_)
                obtain ⟨hP1, hK1, hD1⟩ := hB
                rw [ht] at hP1
                have hK1 := va_K.moved hvm.symm hK1
                obtain ⟨hP, hD⟩ := va_join (wr := []) (w1 := [(xRo, .inr (5, [.ref xLe, .int 1])), (xLe, .inl (cLe, 144, .inl f))]) hP hD [0, 1] [] rfl rfl (by decide) (by decide) hk1 hFc hP1 hD1
                have hK := (hK.sub (tys' := []) [] rfl).app hK1
                generalize H1 = H at hP hS ⊢
                have hP : va_P (dC, dI) vwCl [(xRo, .inr (5, [.ref xLe, .int 1])), (xLe, .inl (cLe, 144, .inl f))] H := hP
                have hD : va_D A [(xRo, .inr (5, [.ref xLe, .int 1])), (xLe, .inl (cLe, 144, .inl f))] := hD
                have hK : va_K (dC, dI) vwCl [(cLe, .int)] s := hK
                have h_20 := hw
                refine lv_iadd hx hb dX4_lay_96 ?_
                refine lv_topi (fun v_21 ev_21 => ?_)
                refine lv_istore (lv' := [(7, .int v_21), (6, .int v_15), (5, .int v_14), (0, .ref xRo), (1, .int a), (2, .int b), (3, .int c3), (4, .int x)]) hx hb dX4_lay_97 hl (by decide) rfl (fun ls hl => ?_)
                refine lv_aload_n hx hb dX4_lay_99 rfl (lv_at hl 3 rfl) ?_
                refine lv_iload hx hb dX4_lay_100 (lv_at hl 2 rfl) ?_
                refine lv_iload_n hx hb dX4_lay_102 rfl (lv_at hl 5 rfl) ?_
                have hPc := hP.sub (ws' := [(xRo, .inr (5, [.ref xLe, .int 1])), (xLe, .inl (cLe, 144, .inl f))]) [0, 1] rfl
                have hDc := hD.sub (ws' := [(xRo, .inr (5, [.ref xLe, .int 1])), (xLe, .inl (cLe, 144, .inl f))]) [0, 1] (by decide) rfl
                have hKc := hK.sub (tys' := [(cLe, .int)]) [0] rfl
                have hFc := va_free (wc := [(xRo, .inr (5, [.ref xLe, .int 1])), (xLe, .inl (cLe, 144, .inl f))]) hD hS hA [0, 1] rfl
                refine va_calli (va_runV (As := [.int v_14, .int b]) (rest := []) ⟨hx, hb, hml, hown, hts⟩ (c_betw l dC dI H.size v_14 b 1 xRo xLe cLe f) (cwV 2 hts (gV kw_3_146 kw_3_147 kw_3_148 kw_1_3 kw_3_149) rfl rfl rfl (by decide +kernel) ⟨Nat.le_of_ble_eq_true rfl, Nat.le_of_ble_eq_true rfl⟩) ⟨fun a U g mk q => by obtain ⟨q0, q1, qP, qK, qD⟩ := q; exact ⟨q0, q1, qP, va_K.moved (u := U) (U := U.calling g mk a) (Vm.Alike.refl U.vm) qK, qD⟩, va_recv hKc hPc (ci := 5) (q0 := 0) rfl rfl, fun U hU hW => ⟨rfl, by rw [hU], by rw [hU]; exact hPc, va_K.moved hW.alike hKc, hDc.weaken (fun _ _ _ _ => trivial)⟩⟩ rfl rfl hl.1 rfl (lv_room (Nat.le_of_ble_eq_true rfl)) dX4_lay_103 ⟨Nat.le_of_ble_eq_true rfl, Nat.le_of_ble_eq_true rfl⟩) hS (fun q _ h => hFc q h) hFc (fun r_22 u t H1 locs ht hvm hw hB hz1 hk1 hS => ?_)
                obtain ⟨hP1, hK1, hD1⟩ := hB
                rw [ht] at hP1
                have hK1 := va_K.moved hvm.symm hK1
                obtain ⟨hP, hD⟩ := va_join (wr := []) (w1 := [(xRo, .inr (5, [.ref xLe, .int 1])), (xLe, .inl (cLe, 144, .inl f))]) hP hD [0, 1] [] rfl rfl (by decide) (by decide) hk1 hFc hP1 hD1
                have hK := (hK.sub (tys' := []) [] rfl).app hK1
                generalize H1 = H at hP hS ⊢
                have hP : va_P (dC, dI) vwCl [(xRo, .inr (5, [.ref xLe, .int 1])), (xLe, .inl (cLe, 144, .inl f))] H := hP
                have hD : va_D A [(xRo, .inr (5, [.ref xLe, .int 1])), (xLe, .inl (cLe, 144, .inl f))] := hD
                have hK : va_K (dC, dI) vwCl [(cLe, .int)] s := hK
                have h_23 := hw
                refine lv_iload_n hx hb dX4_lay_106 rfl (lv_at hl 6 rfl) ?_
                refine lv_iadd hx hb dX4_lay_107 ?_
                refine lv_topi (fun v_24 ev_24 => ?_)
                refine lv_aload_n hx hb dX4_lay_108 rfl (lv_at hl 3 rfl) ?_
                refine lv_iload_n hx hb dX4_lay_109 rfl (lv_at hl 4 rfl) ?_
                refine lv_iload hx hb dX4_lay_110 (lv_at hl 1 rfl) ?_
                have hPc := hP.sub (ws' := [(xRo, .inr (5, [.ref xLe, .int 1])), (xLe, .inl (cLe, 144, .inl f))]) [0, 1] rfl
                have hDc := hD.sub (ws' := [(xRo, .inr (5, [.ref xLe, .int 1])), (xLe, .inl (cLe, 144, .inl f))]) [0, 1] (by decide) rfl
                have hKc := hK.sub (tys' := [(cLe, .int)]) [0] rfl
                have hFc := va_free (wc := [(xRo, .inr (5, [.ref xLe, .int 1])), (xLe, .inl (cLe, 144, .inl f))]) hD hS hA [0, 1] rfl
                refine va_calli (va_runV (As := [.int a, .int v_15]) (rest := [.int v_24]) ⟨hx, hb, hml, hown, hts⟩ (c_betw l dC dI H.size a v_15 1 xRo xLe cLe f) (cwV 2 hts (gV kw_3_146 kw_3_147 kw_3_148 kw_1_3 kw_3_149) rfl rfl rfl (by decide +kernel) ⟨Nat.le_of_ble_eq_true rfl, Nat.le_of_ble_eq_true rfl⟩) ⟨fun a U g mk q => by obtain ⟨q0, q1, qP, qK, qD⟩ := q; exact ⟨q0, q1, qP, va_K.moved (u := U) (U := U.calling g mk a) (Vm.Alike.refl U.vm) qK, qD⟩, va_recv hKc hPc (ci := 5) (q0 := 0) rfl rfl, fun U hU hW => ⟨rfl, by rw [hU], by rw [hU]; exact hPc, va_K.moved hW.alike hKc, hDc.weaken (fun _ _ _ _ => trivial)⟩⟩ rfl rfl hl.1 rfl (lv_room (Nat.le_of_ble_eq_true rfl)) dX4_lay_112 ⟨Nat.le_of_ble_eq_true rfl, Nat.le_of_ble_eq_true rfl⟩) hS (fun q _ h => hFc q h) hFc (fun r_25 u t H1 locs ht hvm hw hB hz1 hk1 hS => ?_)
                obtain ⟨hP1, hK1, hD1⟩ := hB
                rw [ht] at hP1
                have hK1 := va_K.moved hvm.symm hK1
                obtain ⟨hP, hD⟩ := va_join (wr := []) (w1 := [(xRo, .inr (5, [.ref xLe, .int 1])), (xLe, .inl (cLe, 144, .inl f))]) hP hD [0, 1] [] rfl rfl (by decide) (by decide) hk1 hFc hP1 hD1
                have hK := (hK.sub (tys' := []) [] rfl).app hK1
                generalize H1 = H at hP hS ⊢
                have hP : va_P (dC, dI) vwCl [(xRo, .inr (5, [.ref xLe, .int 1])), (xLe, .inl (cLe, 144, .inl f))] H := hP
                have hD : va_D A [(xRo, .inr (5, [.ref xLe, .int 1])), (xLe, .inl (cLe, 144, .inl f))] := hD
                have hK : va_K (dC, dI) vwCl [(cLe, .int)] s := hK
                have h_26 := hw
                refine lv_iadd hx hb dX4_lay_115 ?_
                refine lv_topi (fun v_27 ev_27 => ?_)
                refine lv_istore (lv' := [(8, .int v_27), (7, .int v_21), (6, .int v_15), (5, .int v_14), (0, .ref xRo), (1, .int a), (2, .int b), (3, .int c3), (4, .int x)]) hx hb dX4_lay_116 hl (by decide) rfl (fun ls hl => ?_)
                refine lv_aload_n hx hb dX4_lay_118 rfl (lv_at hl 4 rfl) ?_
                refine va_get (D := (dC, dI)) (ci := 5) (v := .ref xLe) (C := RX4) (T := TX4) (N := 2) hx hb hts iCX4 hown hK hP 0 rfl rfl 0 (by decide) (hts (.fieldLink RX4 9 "WalkingTown$Roads" "least" "[I") (List.mem_cons_of_mem _ kw_1_53)) (fun _ h9 => h9) rfl dX4_lay_119 ?_
                refine lv_iload hx hb dX4_lay_122 (lv_at hl 8 rfl) ?_
                refine lv_aload_n hx hb dX4_lay_124 rfl (lv_at hl 4 rfl) ?_
                refine va_get (D := (dC, dI)) (ci := 5) (v := .ref xLe) (C := RX4) (T := TX4) (N := 2) hx hb hts iCX4 hown hK hP 0 rfl rfl 0 (by decide) (hts (.fieldLink RX4 9 "WalkingTown$Roads" "least" "[I") (List.mem_cons_of_mem _ kw_1_53)) (fun _ h9 => h9) rfl dX4_lay_125 ?_
                refine lv_iload hx hb dX4_lay_128 (lv_at hl 8 rfl) ?_
                refine va_iald hx hb hK hP 1 0 rfl rfl (my_in hxi (my_lt hxi rfl hi c_13) (by decide)) dX4_lay_130 ?_
                refine lv_topi (fun v_28 ev_28 => ?_)
                refine lv_iload hx hb dX4_lay_131 (lv_at hl 1 rfl) ?_
                refine lv_iload hx hb dX4_lay_133 (lv_at hl 0 rfl) ?_
                refine va_mmin hx hb (hml.trans hl.1.symm) hown (hts (.methodLink RX4 28 Lib.Math.min.name) (List.mem_cons_of_mem _ kw_3_150)) (hts (.static Lib.Math.min.name) (List.mem_cons_of_mem _ kw_3_151)) (hts (.initialized RJ9) (List.mem_cons_of_mem _ kw_1_16)) (hts (.code Lib.Math.min.name Lib.Math.min.code 2 (some .int)) (List.mem_cons_of_mem _ kw_3_152)) (Nat.le_of_ble_eq_true rfl) (Nat.le_of_ble_eq_true rfl) (Nat.le_of_ble_eq_true rfl) (Nat.le_of_ble_eq_true rfl) dX4_lay_135 ?_
                refine lv_topi (fun v_29 ev_29 => ?_)
                refine va_mmin hx hb (hml.trans hl.1.symm) hown (hts (.methodLink RX4 28 Lib.Math.min.name) (List.mem_cons_of_mem _ kw_3_150)) (hts (.static Lib.Math.min.name) (List.mem_cons_of_mem _ kw_3_151)) (hts (.initialized RJ9) (List.mem_cons_of_mem _ kw_1_16)) (hts (.code Lib.Math.min.name Lib.Math.min.code 2 (some .int)) (List.mem_cons_of_mem _ kw_3_152)) (Nat.le_of_ble_eq_true rfl) (Nat.le_of_ble_eq_true rfl) (Nat.le_of_ble_eq_true rfl) (Nat.le_of_ble_eq_true rfl) dX4_lay_138 ?_
                refine lv_topi (fun v_30 ev_30 => ?_)
                refine va_iast hx hb hK hP hD hS 1 0 rfl rfl (my_in hxi (my_lt hxi rfl hi c_13) (by decide)) dX4_lay_141 (fun H locs hP hD hS => ?_)
                have hP : va_P (dC, dI) vwCl [(xRo, .inr (5, [.ref xLe, .int 1])), (xLe, .inl (cLe, 144, .inl (upd f x.toNatClampNeg v_30)))] H := hP
                have hD : va_D A [(xRo, .inr (5, [.ref xLe, .int 1])), (xLe, .inl (cLe, 144, .inl (upd f x.toNatClampNeg v_30)))] := hD
                obtain ⟨f_31, ef_31⟩ : ∃ z : Nat → Int32, z = (upd f x.toNatClampNeg v_30) := ⟨_, rfl⟩
                rw [← ef_31] at hP hD
                obtain ⟨v_32, ev_32⟩ : ∃ z : Int32, z = x + 1 := ⟨_, rfl⟩
                refine lv_iinc (v := v_32) (lv' := [(4, .int v_32), (8, .int v_27), (7, .int v_21), (6, .int v_15), (5, .int v_14), (0, .ref xRo), (1, .int a), (2, .int b), (3, .int c3)]) hx hb dX4_lay_142 hl (k := 8) rfl (by rw [ev_32]; rfl) (by decide) rfl (fun ls hl => ?_)
                refine lv_goto (tgt := 56) hx hb dX4_lay_145 (by decide) ?_
                exact ih (i + 1) v_32 f_31 _ _ _ (by omega) (by have := my_lt hxi rfl hi c_13; omega) (by rw [ev_32, hxi]; exact nI_1 i) (hK.sub [0] rfl) (hP.sub [0, 1] rfl) (hD.sub [0, 1] (by decide) rfl) hS (lv_sub hl [5, 6, 7, 8, 0] rfl)
          · skip
            refine lv_iconst (v := 0) hx hb dX4_lay_41 (by decide) ?_
            refine W.widen (k := 0) (n := 0) (Nat.le_of_ble_eq_true rfl) (Nat.le_of_ble_eq_true rfl) ?_
            exact W.zret (v := 0) hx hb hr (by decide) (fun t ht hW => ⟨⟨0, (), rfl, (by first | (simp [sp_street, h_3, c_5, h_7, c_9, c_10, c_11, c_12]; done) | (have q := c_12; simp [sp_street, h_3, c_5, h_7, c_9, c_10, c_11, c_12, Int32.not_lt.mpr, Int32.not_le.mp] )), trivial⟩, hS.F ht⟩) hS.2.2 dX4_lay_42
      · skip
        refine lv_iconst (v := 0) hx hb dX4_lay_28 (by decide) ?_
        refine W.widen (k := 0) (n := 0) (Nat.le_of_ble_eq_true rfl) (Nat.le_of_ble_eq_true rfl) ?_
        exact W.zret (v := 0) hx hb hr (by decide) (fun t ht hW => ⟨⟨0, (), rfl, (by first | (simp [sp_street, h_3, c_5, h_7, c_9, c_10]; done) | (have q := c_10; simp [sp_street, h_3, c_5, h_7, c_9, c_10, Int32.not_lt.mpr, Int32.not_le.mp] )), trivial⟩, hS.F ht⟩) hS.2.2 dX4_lay_29
set_option maxHeartbeats 4000000 in
set_option maxRecDepth 100000 in
theorem x_street (l : Launch) (dC : Nat → ClassId) (dI : Nat → Nat → Nat) (sz : Nat) (a : Int32) (b : Int32) (c3 : Int32) (xX : Nat) (xT : Nat) (xW : Nat) (xR : Nat) (xM : Nat) (xS : Nat) (xRo : Nat) (xPe : Nat) (xWh : Nat) (xTr : Nat) (xCo : Nat) (xAl : Nat) (xNl : Nat) (xDr : Nat) (xFa : Nat) (xLe : Nat) (cLe : ClassId) (fL : Nat → Int32) : Met l yX11_street (.code yX11_street cX11_street 4 (some .boolean) :: lw_good) ({ frames := 14, cells := 0, slots := 0, locals := 500 }) (va_Pc [.ref xX, .int a, .int b, .int c3] (fun U => U.heap.size = sz ∧ va_P (dC, dI) vwCl [(xX, .inr (11, [.ref xT, .int 0, .ref xW, .ref xR, .ref xM, .ref xS, .int (-1), .int 0, .int (-1)])), (xW, .inr (7, [.ref xRo, .ref xPe, .ref xWh, .ref xTr, .ref xCo, .int 0, .ref xAl, .ref xNl, .ref xDr, .int 0, .ref xFa, .int 0, .int 0, .int 0])), (xRo, .inr (5, [.ref xLe, .int 0])), (xLe, .inl (cLe, 144, .inl fL))] U.heap ∧ va_K (dC, dI) vwCl [(cLe, .int)] U ∧ va_D (fun _ => True) [(xX, .inr (11, [.ref xT, .int 0, .ref xW, .ref xR, .ref xM, .ref xS, .int (-1), .int 0, .int (-1)])), (xW, .inr (7, [.ref xRo, .ref xPe, .ref xWh, .ref xTr, .ref xCo, .int 0, .ref xAl, .ref xNl, .ref xDr, .int 0, .ref xFa, .int 0, .int 0, .int 0])), (xRo, .inr (5, [.ref xLe, .int 0])), (xLe, .inl (cLe, 144, .inl fL))])) (va_Qi (fun (r : Int32) (_ : Unit) => r = sp_street a b c3) (fun (_ : Unit) (_ : State) => True) (va_A [(xX, .inr (11, [.ref xT, .int 0, .ref xW, .ref xR, .ref xM, .ref xS, .int (-1), .int 0, .int (-1)])), (xW, .inr (7, [.ref xRo, .ref xPe, .ref xWh, .ref xTr, .ref xCo, .int 0, .ref xAl, .ref xNl, .ref xDr, .int 0, .ref xFa, .int 0, .int 0, .int 0])), (xRo, .inr (5, [.ref xLe, .int 0])), (xLe, .inl (cLe, 144, .inl fL))] sz)) 0 0 (va_A [(xX, .inr (11, [.ref xT, .int 0, .ref xW, .ref xR, .ref xM, .ref xS, .int (-1), .int 0, .int (-1)])), (xW, .inr (7, [.ref xRo, .ref xPe, .ref xWh, .ref xTr, .ref xCo, .int 0, .ref xAl, .ref xNl, .ref xDr, .int 0, .ref xFa, .int 0, .int 0, .int 0])), (xRo, .inr (5, [.ref xLe, .int 0])), (xLe, .inl (cLe, 144, .inl fL))] sz) := by
  refine Met.ofW (cc := cX11_street) (maxL := 4) (ret := (some .boolean)) (by decide) rfl ?_
  intro p e s m args below meth c s₁ B hml hv
  obtain ⟨rfl, hsz, hP, hK, hD0⟩ := hv
  have hx := B.exec
  have hb := B.bytes
  have hr := B.returns
  have hts := atoms_spec (ws := (.code yX11_street cX11_street 4 (some .boolean) :: lw_good)) B.pre
  have hown : s.vm.findClass RX11 = some m.cls := findClass_of_methodNamed B.named
  have hlocks := B.notSynchronized
  subst hsz
  have hD := hD0.self (sz := s.heap.size)
  generalize hAe : va_A [(xX, .inr (11, [.ref xT, .int 0, .ref xW, .ref xR, .ref xM, .ref xS, .int (-1), .int 0, .int (-1)])), (xW, .inr (7, [.ref xRo, .ref xPe, .ref xWh, .ref xTr, .ref xCo, .int 0, .ref xAl, .ref xNl, .ref xDr, .int 0, .ref xFa, .int 0, .int 0, .int 0])), (xRo, .inr (5, [.ref xLe, .int 0])), (xLe, .inl (cLe, 144, .inl fL))] s.heap.size = A at hD ⊢
  have hA : ∀ q : Nat, s.heap.size ≤ q → A q := fun q h => by rw [← hAe]; exact Or.inr h
  have hS : va_S A s.heap s.heap [] := va_S.rf
  have hP : va_P (dC, dI) vwCl [(xX, .inr (11, [.ref xT, .int 0, .ref xW, .ref xR, .ref xM, .ref xS, .int (-1), .int 0, .int (-1)])), (xW, .inr (7, [.ref xRo, .ref xPe, .ref xWh, .ref xTr, .ref xCo, .int 0, .ref xAl, .ref xNl, .ref xDr, .int 0, .ref xFa, .int 0, .int 0, .int 0])), (xRo, .inr (5, [.ref xLe, .int 0])), (xLe, .inl (cLe, 144, .inl fL))] s.heap := hP
  have hl := lv_entry ([.ref xX, .int a, .int b, .int c3]) (n := 4) (Nat.le_of_ble_eq_true rfl)
  rw [lg_entry_eq]
  generalize (lg_sl ([.ref xX, .int a, .int b, .int c3]) ++ List.replicate (4 - (lg_sl ([.ref xX, .int a, .int b, .int c3])).length) Slot.unset).toArray = ls at hl ⊢
  have hl : lv_has ls 4 [(0, .ref xX), (1, .int a), (2, .int b), (3, .int c3)] := hl
  refine lv_aload_n hx hb dX11_street_0 rfl (lv_at hl 0 rfl) ?_
  refine va_get (D := (dC, dI)) (ci := 11) (v := .ref xW) (C := RX11) (T := TX11) (N := 9) hx hb hts iCX11 hown hK hP 0 rfl rfl 2 (by decide) (hts (.fieldLink RX11 16 "WalkingTown" "town" "LWalkingTown$Town;") (List.mem_cons_of_mem _ kw_3_93)) (fun _ h9 => h9) rfl dX11_street_1 ?_
  refine va_get (D := (dC, dI)) (ci := 7) (v := .ref xRo) (C := RX7) (T := TX7) (N := 14) hx hb hts iCX7 hown hK hP 1 rfl rfl 0 (by decide) (hts (.fieldLink RX11 60 "WalkingTown$Town" "roads" "LWalkingTown$Roads;") (List.mem_cons_of_mem _ kw_2_59)) (fun _ h9 => h9) rfl dX11_street_4 ?_
  refine lv_iload_n hx hb dX11_street_7 rfl (lv_at hl 1 rfl) ?_
  refine lv_iload_n hx hb dX11_street_8 rfl (lv_at hl 2 rfl) ?_
  refine lv_iload_n hx hb dX11_street_9 rfl (lv_at hl 3 rfl) ?_
  have hPc := hP.sub (ws' := [(xRo, .inr (5, [.ref xLe, .int 0])), (xLe, .inl (cLe, 144, .inl fL))]) [2, 3] rfl
  have hDc := hD.sub (ws' := [(xRo, .inr (5, [.ref xLe, .int 0])), (xLe, .inl (cLe, 144, .inl fL))]) [2, 3] (by decide) rfl
  have hKc := hK.sub (tys' := [(cLe, .int)]) [0] rfl
  have hFc := va_free (wc := [(xRo, .inr (5, [.ref xLe, .int 0])), (xLe, .inl (cLe, 144, .inl fL))]) hD hS hA [2, 3] rfl
  refine va_calli (va_runV (As := [.int a, .int b, .int c3]) (rest := []) ⟨hx, hb, hml, hown, hts⟩ (c_lay l dC dI s.heap.size a b c3 xRo xLe cLe fL) (cwV 3 hts (gV kw_3_139 kw_3_140 kw_3_141 kw_1_3 kw_3_142) rfl rfl rfl (by decide +kernel) ⟨Nat.le_of_ble_eq_true rfl, Nat.le_of_ble_eq_true rfl⟩) ⟨fun a U g mk q => by obtain ⟨q0, q1, qP, qK, qD⟩ := q; exact ⟨q0, q1, qP, va_K.moved (u := U) (U := U.calling g mk a) (Vm.Alike.refl U.vm) qK, qD⟩, va_recv hKc hPc (ci := 5) (q0 := 0) rfl rfl, fun U hU hW => ⟨rfl, by rw [hU], by rw [hU]; exact hPc, va_K.moved hW.alike hKc, hDc.weaken (fun _ _ _ _ => trivial)⟩⟩ rfl rfl hl.1 rfl (lv_room (Nat.le_of_ble_eq_true rfl)) dX11_street_10 ⟨Nat.le_of_ble_eq_true rfl, Nat.le_of_ble_eq_true rfl⟩) hS (fun q _ h => hFc q h) hFc (fun r_1 u t H1 locs ht hvm hw hB hz1 hk1 hS => ?_)
  obtain ⟨hP, hD⟩ := va_join (wr := [(xX, .inr (11, [.ref xT, .int 0, .ref xW, .ref xR, .ref xM, .ref xS, .int (-1), .int 0, .int (-1)])), (xW, .inr (7, [.ref xRo, .ref xPe, .ref xWh, .ref xTr, .ref xCo, .int 0, .ref xAl, .ref xNl, .ref xDr, .int 0, .ref xFa, .int 0, .int 0, .int 0]))]) (w1 := []) hP hD [2, 3] [0, 1] rfl rfl (by decide) (by decide) hk1 hFc (fun k q h => by simp at h) ⟨fun i j p q h => by simp at h, fun k q h => by simp at h⟩
  have hK := hK.sub (tys' := []) [] rfl
  generalize H1 = H at hP hS ⊢
  have hP : va_P (dC, dI) vwCl [(xX, .inr (11, [.ref xT, .int 0, .ref xW, .ref xR, .ref xM, .ref xS, .int (-1), .int 0, .int (-1)])), (xW, .inr (7, [.ref xRo, .ref xPe, .ref xWh, .ref xTr, .ref xCo, .int 0, .ref xAl, .ref xNl, .ref xDr, .int 0, .ref xFa, .int 0, .int 0, .int 0]))] H := hP
  have hD : va_D A [(xX, .inr (11, [.ref xT, .int 0, .ref xW, .ref xR, .ref xM, .ref xS, .int (-1), .int 0, .int (-1)])), (xW, .inr (7, [.ref xRo, .ref xPe, .ref xWh, .ref xTr, .ref xCo, .int 0, .ref xAl, .ref xNl, .ref xDr, .int 0, .ref xFa, .int 0, .int 0, .int 0]))] := hD
  have hK : va_K (dC, dI) vwCl [] s := hK
  have h_2 := hw
  refine W.widen (k := 0) (n := 0) (Nat.le_of_ble_eq_true rfl) (Nat.le_of_ble_eq_true rfl) ?_
  exact W.zret (v := r_1) hx hb hr (my_nz (by rw [h_2]; exact sp_street01 a b c3)) (fun t ht hW => ⟨⟨r_1, (), rfl, h_2, trivial⟩, hS.F ht⟩) hS.2.2 dX11_street_13

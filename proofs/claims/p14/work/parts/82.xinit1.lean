theorem dJx4a65c_init_da8c8_0 : decode cJx4a65c_init_da8c8 0 = .ok (.aload_n 0, 1) := by decide +kernel
theorem dJx4a65c_init_da8c8_1 : decode cJx4a65c_init_da8c8 1 = .ok (.invokespecial 1, 3) := by decide +kernel
theorem dJx4a65c_init_da8c8_4 : decode cJx4a65c_init_da8c8 4 = .ok (.aload_n 0, 1) := by decide +kernel
theorem dJx4a65c_init_da8c8_5 : decode cJx4a65c_init_da8c8 5 = .ok (.getstatic 39, 3) := by decide +kernel
theorem dJx4a65c_init_da8c8_8 : decode cJx4a65c_init_da8c8 8 = .ok (.putfield 9, 3) := by decide +kernel
theorem dJx4a65c_init_da8c8_11 : decode cJx4a65c_init_da8c8 11 = .ok (.return_, 1) := by decide +kernel
theorem dJxa1e45_init_da8c8_0 : decode cJxa1e45_init_da8c8 0 = .ok (.aload_n 0, 1) := by decide +kernel
theorem dJxa1e45_init_da8c8_1 : decode cJxa1e45_init_da8c8 1 = .ok (.invokespecial 1, 3) := by decide +kernel
theorem dJxa1e45_init_da8c8_4 : decode cJxa1e45_init_da8c8 4 = .ok (.return_, 1) := by decide +kernel
theorem dJxc12de_init_da8c8_0 : decode cJxc12de_init_da8c8 0 = .ok (.aload_n 0, 1) := by decide +kernel
theorem dJxc12de_init_da8c8_1 : decode cJxc12de_init_da8c8 1 = .ok (.invokespecial 1, 3) := by decide +kernel
theorem dJxc12de_init_da8c8_4 : decode cJxc12de_init_da8c8 4 = .ok (.aload_n 0, 1) := by decide +kernel
theorem dJxc12de_init_da8c8_5 : decode cJxc12de_init_da8c8 5 = .ok (.iconst 0, 1) := by decide +kernel
theorem dJxc12de_init_da8c8_6 : decode cJxc12de_init_da8c8 6 = .ok (.putfield 7, 3) := by decide +kernel
theorem dJxc12de_init_da8c8_9 : decode cJxc12de_init_da8c8 9 = .ok (.return_, 1) := by decide +kernel
theorem dX10_init_0 : decode cX10_init 0 = .ok (.aload_n 0, 1) := by decide +kernel
theorem dX10_init_1 : decode cX10_init 1 = .ok (.invokespecial 3, 3) := by decide +kernel
theorem dX10_init_4 : decode cX10_init 4 = .ok (.aload_n 0, 1) := by decide +kernel
theorem dX10_init_5 : decode cX10_init 5 = .ok (.bipush 20, 2) := by decide +kernel
theorem dX10_init_7 : decode cX10_init 7 = .ok (.newarray .int, 2) := by decide +kernel
theorem dX10_init_9 : decode cX10_init 9 = .ok (.putfield 11, 3) := by decide +kernel
theorem dX10_init_12 : decode cX10_init 12 = .ok (.aload_n 0, 1) := by decide +kernel
theorem dX10_init_13 : decode cX10_init 13 = .ok (.bipush 20, 2) := by decide +kernel
theorem dX10_init_15 : decode cX10_init 15 = .ok (.newarray .int, 2) := by decide +kernel
theorem dX10_init_17 : decode cX10_init 17 = .ok (.putfield 15, 3) := by decide +kernel
theorem dX10_init_20 : decode cX10_init 20 = .ok (.aload_n 0, 1) := by decide +kernel
theorem dX10_init_21 : decode cX10_init 21 = .ok (.bipush 20, 2) := by decide +kernel
theorem dX10_init_23 : decode cX10_init 23 = .ok (.newarray .int, 2) := by decide +kernel
theorem dX10_init_25 : decode cX10_init 25 = .ok (.putfield 18, 3) := by decide +kernel
theorem dX10_init_28 : decode cX10_init 28 = .ok (.aload_n 0, 1) := by decide +kernel
theorem dX10_init_29 : decode cX10_init 29 = .ok (.bipush 20, 2) := by decide +kernel
theorem dX10_init_31 : decode cX10_init 31 = .ok (.newarray .int, 2) := by decide +kernel
theorem dX10_init_33 : decode cX10_init 33 = .ok (.putfield 21, 3) := by decide +kernel
theorem dX10_init_36 : decode cX10_init 36 = .ok (.aload_n 0, 1) := by decide +kernel
theorem dX10_init_37 : decode cX10_init 37 = .ok (.bipush 20, 2) := by decide +kernel
theorem dX10_init_39 : decode cX10_init 39 = .ok (.newarray .int, 2) := by decide +kernel
theorem dX10_init_41 : decode cX10_init 41 = .ok (.putfield 24, 3) := by decide +kernel
theorem dX10_init_44 : decode cX10_init 44 = .ok (.aload_n 0, 1) := by decide +kernel
theorem dX10_init_45 : decode cX10_init 45 = .ok (.bipush 20, 2) := by decide +kernel
theorem dX10_init_47 : decode cX10_init 47 = .ok (.newarray .int, 2) := by decide +kernel
theorem dX10_init_49 : decode cX10_init 49 = .ok (.putfield 27, 3) := by decide +kernel
theorem dX10_init_52 : decode cX10_init 52 = .ok (.aload_n 0, 1) := by decide +kernel
theorem dX10_init_53 : decode cX10_init 53 = .ok (.bipush 20, 2) := by decide +kernel
theorem dX10_init_55 : decode cX10_init 55 = .ok (.newarray .int, 2) := by decide +kernel
theorem dX10_init_57 : decode cX10_init 57 = .ok (.putfield 30, 3) := by decide +kernel
theorem dX10_init_60 : decode cX10_init 60 = .ok (.aload_n 0, 1) := by decide +kernel
theorem dX10_init_61 : decode cX10_init 61 = .ok (.bipush 20, 2) := by decide +kernel
theorem dX10_init_63 : decode cX10_init 63 = .ok (.newarray .int, 2) := by decide +kernel
theorem dX10_init_65 : decode cX10_init 65 = .ok (.putfield 33, 3) := by decide +kernel
theorem dX10_init_68 : decode cX10_init 68 = .ok (.return_, 1) := by decide +kernel
theorem dX2_init_0 : decode cX2_init 0 = .ok (.aload_n 0, 1) := by decide +kernel
theorem dX2_init_1 : decode cX2_init 1 = .ok (.invokespecial 3, 3) := by decide +kernel
theorem dX2_init_4 : decode cX2_init 4 = .ok (.aload_n 0, 1) := by decide +kernel
theorem dX2_init_5 : decode cX2_init 5 = .ok (.bipush 40, 2) := by decide +kernel
theorem dX2_init_7 : decode cX2_init 7 = .ok (.newarray .int, 2) := by decide +kernel
theorem dX2_init_9 : decode cX2_init 9 = .ok (.putfield 11, 3) := by decide +kernel
theorem dX2_init_12 : decode cX2_init 12 = .ok (.aload_n 0, 1) := by decide +kernel
theorem dX2_init_13 : decode cX2_init 13 = .ok (.bipush 40, 2) := by decide +kernel
theorem dX2_init_15 : decode cX2_init 15 = .ok (.newarray .int, 2) := by decide +kernel
theorem dX2_init_17 : decode cX2_init 17 = .ok (.putfield 15, 3) := by decide +kernel
theorem dX2_init_20 : decode cX2_init 20 = .ok (.aload_n 0, 1) := by decide +kernel
theorem dX2_init_21 : decode cX2_init 21 = .ok (.bipush 40, 2) := by decide +kernel
theorem dX2_init_23 : decode cX2_init 23 = .ok (.newarray .int, 2) := by decide +kernel
theorem dX2_init_25 : decode cX2_init 25 = .ok (.putfield 18, 3) := by decide +kernel
theorem dX2_init_28 : decode cX2_init 28 = .ok (.aload_n 0, 1) := by decide +kernel
theorem dX2_init_29 : decode cX2_init 29 = .ok (.bipush 40, 2) := by decide +kernel
theorem dX2_init_31 : decode cX2_init 31 = .ok (.newarray .int, 2) := by decide +kernel
theorem dX2_init_33 : decode cX2_init 33 = .ok (.putfield 21, 3) := by decide +kernel
theorem dX2_init_36 : decode cX2_init 36 = .ok (.aload_n 0, 1) := by decide +kernel
theorem dX2_init_37 : decode cX2_init 37 = .ok (.bipush 40, 2) := by decide +kernel
theorem dX2_init_39 : decode cX2_init 39 = .ok (.newarray .int, 2) := by decide +kernel
theorem dX2_init_41 : decode cX2_init 41 = .ok (.putfield 24, 3) := by decide +kernel
theorem dX2_init_44 : decode cX2_init 44 = .ok (.aload_n 0, 1) := by decide +kernel
theorem dX2_init_45 : decode cX2_init 45 = .ok (.bipush 40, 2) := by decide +kernel
theorem dX2_init_47 : decode cX2_init 47 = .ok (.newarray .int, 2) := by decide +kernel
theorem dX2_init_49 : decode cX2_init 49 = .ok (.putfield 27, 3) := by decide +kernel
theorem dX2_init_52 : decode cX2_init 52 = .ok (.aload_n 0, 1) := by decide +kernel
theorem dX2_init_53 : decode cX2_init 53 = .ok (.bipush 40, 2) := by decide +kernel
theorem dX2_init_55 : decode cX2_init 55 = .ok (.newarray .int, 2) := by decide +kernel
theorem dX2_init_57 : decode cX2_init 57 = .ok (.putfield 30, 3) := by decide +kernel
theorem dX2_init_60 : decode cX2_init 60 = .ok (.aload_n 0, 1) := by decide +kernel
theorem dX2_init_61 : decode cX2_init 61 = .ok (.bipush 40, 2) := by decide +kernel
theorem dX2_init_63 : decode cX2_init 63 = .ok (.newarray .int, 2) := by decide +kernel
theorem dX2_init_65 : decode cX2_init 65 = .ok (.putfield 33, 3) := by decide +kernel
theorem dX2_init_68 : decode cX2_init 68 = .ok (.aload_n 0, 1) := by decide +kernel
theorem dX2_init_69 : decode cX2_init 69 = .ok (.bipush 40, 2) := by decide +kernel
theorem dX2_init_71 : decode cX2_init 71 = .ok (.newarray .int, 2) := by decide +kernel
theorem dX2_init_73 : decode cX2_init 73 = .ok (.putfield 36, 3) := by decide +kernel
theorem dX2_init_76 : decode cX2_init 76 = .ok (.aload_n 0, 1) := by decide +kernel
theorem dX2_init_77 : decode cX2_init 77 = .ok (.bipush 40, 2) := by decide +kernel
theorem dX2_init_79 : decode cX2_init 79 = .ok (.newarray .int, 2) := by decide +kernel
theorem dX2_init_81 : decode cX2_init 81 = .ok (.putfield 39, 3) := by decide +kernel
theorem dX2_init_84 : decode cX2_init 84 = .ok (.aload_n 0, 1) := by decide +kernel
theorem dX2_init_85 : decode cX2_init 85 = .ok (.bipush 40, 2) := by decide +kernel
theorem dX2_init_87 : decode cX2_init 87 = .ok (.newarray .int, 2) := by decide +kernel
theorem dX2_init_89 : decode cX2_init 89 = .ok (.putfield 42, 3) := by decide +kernel
theorem dX2_init_92 : decode cX2_init 92 = .ok (.aload_n 0, 1) := by decide +kernel
theorem dX2_init_93 : decode cX2_init 93 = .ok (.bipush 40, 2) := by decide +kernel
theorem dX2_init_95 : decode cX2_init 95 = .ok (.newarray .int, 2) := by decide +kernel
theorem dX2_init_97 : decode cX2_init 97 = .ok (.putfield 45, 3) := by decide +kernel
theorem dX2_init_100 : decode cX2_init 100 = .ok (.aload_n 0, 1) := by decide +kernel
theorem dX2_init_101 : decode cX2_init 101 = .ok (.bipush 40, 2) := by decide +kernel
theorem dX2_init_103 : decode cX2_init 103 = .ok (.newarray .int, 2) := by decide +kernel
theorem dX2_init_105 : decode cX2_init 105 = .ok (.putfield 48, 3) := by decide +kernel
theorem dX2_init_108 : decode cX2_init 108 = .ok (.aload_n 0, 1) := by decide +kernel
theorem dX2_init_109 : decode cX2_init 109 = .ok (.bipush 40, 2) := by decide +kernel
theorem dX2_init_111 : decode cX2_init 111 = .ok (.newarray .int, 2) := by decide +kernel
theorem dX2_init_113 : decode cX2_init 113 = .ok (.putfield 51, 3) := by decide +kernel
theorem dX2_init_116 : decode cX2_init 116 = .ok (.return_, 1) := by decide +kernel
theorem dX3_init_0 : decode cX3_init 0 = .ok (.aload_n 0, 1) := by decide +kernel
theorem dX3_init_1 : decode cX3_init 1 = .ok (.invokespecial 3, 3) := by decide +kernel
theorem dX3_init_4 : decode cX3_init 4 = .ok (.aload_n 0, 1) := by decide +kernel
theorem dX3_init_5 : decode cX3_init 5 = .ok (.sipush 301, 3) := by decide +kernel
theorem dX3_init_8 : decode cX3_init 8 = .ok (.anewarray 9, 3) := by decide +kernel
theorem dX3_init_11 : decode cX3_init 11 = .ok (.putfield 11, 3) := by decide +kernel
theorem dX3_init_14 : decode cX3_init 14 = .ok (.aload_n 0, 1) := by decide +kernel
theorem dX3_init_15 : decode cX3_init 15 = .ok (.sipush 301, 3) := by decide +kernel
theorem dX3_init_18 : decode cX3_init 18 = .ok (.newarray .int, 2) := by decide +kernel
theorem dX3_init_20 : decode cX3_init 20 = .ok (.putfield 15, 3) := by decide +kernel
theorem dX3_init_23 : decode cX3_init 23 = .ok (.aload_n 0, 1) := by decide +kernel
theorem dX3_init_24 : decode cX3_init 24 = .ok (.sipush 301, 3) := by decide +kernel
theorem dX3_init_27 : decode cX3_init 27 = .ok (.newarray .int, 2) := by decide +kernel
theorem dX3_init_29 : decode cX3_init 29 = .ok (.putfield 19, 3) := by decide +kernel
theorem dX3_init_32 : decode cX3_init 32 = .ok (.aload_n 0, 1) := by decide +kernel
theorem dX3_init_33 : decode cX3_init 33 = .ok (.new 22, 3) := by decide +kernel
theorem dX3_init_36 : decode cX3_init 36 = .ok (.dup, 1) := by decide +kernel
theorem dX3_init_37 : decode cX3_init 37 = .ok (.iconst 0, 1) := by decide +kernel
theorem dX3_init_38 : decode cX3_init 38 = .ok (.bipush 16, 2) := by decide +kernel
theorem dX3_init_40 : decode cX3_init 40 = .ok (.bipush 100, 2) := by decide +kernel
theorem dX3_init_42 : decode cX3_init 42 = .ok (.invokespecial 24, 3) := by decide +kernel
theorem dX3_init_45 : decode cX3_init 45 = .ok (.putfield 27, 3) := by decide +kernel
theorem dX3_init_48 : decode cX3_init 48 = .ok (.return_, 1) := by decide +kernel
theorem dX4_init_0 : decode cX4_init 0 = .ok (.aload_n 0, 1) := by decide +kernel
theorem dX4_init_1 : decode cX4_init 1 = .ok (.invokespecial 1, 3) := by decide +kernel
theorem dX4_init_4 : decode cX4_init 4 = .ok (.aload_n 0, 1) := by decide +kernel
theorem dX4_init_5 : decode cX4_init 5 = .ok (.sipush 144, 3) := by decide +kernel
theorem dX4_init_8 : decode cX4_init 8 = .ok (.newarray .int, 2) := by decide +kernel
theorem dX4_init_10 : decode cX4_init 10 = .ok (.putfield 9, 3) := by decide +kernel
theorem dX4_init_13 : decode cX4_init 13 = .ok (.iconst 0, 1) := by decide +kernel
theorem dX4_init_14 : decode cX4_init 14 = .ok (.istore_n 1, 1) := by decide +kernel
theorem dX4_init_15 : decode cX4_init 15 = .ok (.iload_n 1, 1) := by decide +kernel
theorem dX4_init_16 : decode cX4_init 16 = .ok (.aload_n 0, 1) := by decide +kernel
theorem dX4_init_17 : decode cX4_init 17 = .ok (.getfield 9, 3) := by decide +kernel
theorem dX4_init_20 : decode cX4_init 20 = .ok (.arraylength, 1) := by decide +kernel
theorem dX4_init_21 : decode cX4_init 21 = .ok (.if_icmp .ge 32, 3) := by decide +kernel
theorem dX4_init_24 : decode cX4_init 24 = .ok (.aload_n 0, 1) := by decide +kernel
theorem dX4_init_25 : decode cX4_init 25 = .ok (.getfield 9, 3) := by decide +kernel
theorem dX4_init_28 : decode cX4_init 28 = .ok (.iload_n 1, 1) := by decide +kernel
theorem dX4_init_29 : decode cX4_init 29 = .ok (.iload_n 1, 1) := by decide +kernel
theorem dX4_init_30 : decode cX4_init 30 = .ok (.bipush 12, 2) := by decide +kernel
theorem dX4_init_32 : decode cX4_init 32 = .ok (.idiv, 1) := by decide +kernel
theorem dX4_init_33 : decode cX4_init 33 = .ok (.iload_n 1, 1) := by decide +kernel
theorem dX4_init_34 : decode cX4_init 34 = .ok (.bipush 12, 2) := by decide +kernel
theorem dX4_init_36 : decode cX4_init 36 = .ok (.irem, 1) := by decide +kernel
theorem dX4_init_37 : decode cX4_init 37 = .ok (.if_icmp .ne 7, 3) := by decide +kernel
theorem dX4_init_40 : decode cX4_init 40 = .ok (.iconst 0, 1) := by decide +kernel
theorem dX4_init_41 : decode cX4_init 41 = .ok (.goto 5, 3) := by decide +kernel
theorem dX4_init_44 : decode cX4_init 44 = .ok (.ldc 15, 2) := by decide +kernel
theorem dX4_init_46 : decode cX4_init 46 = .ok (.iastore, 1) := by decide +kernel
theorem dX4_init_47 : decode cX4_init 47 = .ok (.iinc 1 1, 3) := by decide +kernel
theorem dX4_init_50 : decode cX4_init 50 = .ok (.goto (-35), 3) := by decide +kernel
theorem dX4_init_53 : decode cX4_init 53 = .ok (.return_, 1) := by decide +kernel
theorem dX5_init_0 : decode cX5_init 0 = .ok (.aload_n 0, 1) := by decide +kernel
theorem dX5_init_1 : decode cX5_init 1 = .ok (.invokespecial 3, 3) := by decide +kernel
theorem dX5_init_4 : decode cX5_init 4 = .ok (.aload_n 0, 1) := by decide +kernel
theorem dX5_init_5 : decode cX5_init 5 = .ok (.aload_n 1, 1) := by decide +kernel
theorem dX5_init_6 : decode cX5_init 6 = .ok (.putfield 9, 3) := by decide +kernel
theorem dX5_init_9 : decode cX5_init 9 = .ok (.aload_n 0, 1) := by decide +kernel
theorem dX5_init_10 : decode cX5_init 10 = .ok (.bipush 8, 2) := by decide +kernel
theorem dX5_init_12 : decode cX5_init 12 = .ok (.newarray .long, 2) := by decide +kernel
theorem dX5_init_14 : decode cX5_init 14 = .ok (.putfield 17, 3) := by decide +kernel
theorem dX5_init_17 : decode cX5_init 17 = .ok (.aload_n 0, 1) := by decide +kernel
theorem dX5_init_18 : decode cX5_init 18 = .ok (.bipush 8, 2) := by decide +kernel
theorem dX5_init_20 : decode cX5_init 20 = .ok (.newarray .int, 2) := by decide +kernel
theorem dX5_init_22 : decode cX5_init 22 = .ok (.putfield 21, 3) := by decide +kernel
theorem dX5_init_25 : decode cX5_init 25 = .ok (.aload_n 0, 1) := by decide +kernel
theorem dX5_init_26 : decode cX5_init 26 = .ok (.sipush 256, 3) := by decide +kernel
theorem dX5_init_29 : decode cX5_init 29 = .ok (.newarray .int, 2) := by decide +kernel
theorem dX5_init_31 : decode cX5_init 31 = .ok (.putfield 25, 3) := by decide +kernel
theorem dX5_init_34 : decode cX5_init 34 = .ok (.aload_n 0, 1) := by decide +kernel
theorem dX5_init_35 : decode cX5_init 35 = .ok (.iconst 5, 1) := by decide +kernel
theorem dX5_init_36 : decode cX5_init 36 = .ok (.newarray .int, 2) := by decide +kernel
theorem dX5_init_38 : decode cX5_init 38 = .ok (.putfield 28, 3) := by decide +kernel
theorem dX5_init_41 : decode cX5_init 41 = .ok (.aload_n 0, 1) := by decide +kernel
theorem dX5_init_42 : decode cX5_init 42 = .ok (.bipush 6, 2) := by decide +kernel
theorem dX5_init_44 : decode cX5_init 44 = .ok (.newarray .int, 2) := by decide +kernel
theorem dX5_init_46 : decode cX5_init 46 = .ok (.putfield 31, 3) := by decide +kernel
theorem dX5_init_49 : decode cX5_init 49 = .ok (.aload_n 0, 1) := by decide +kernel
theorem dX5_init_50 : decode cX5_init 50 = .ok (.bipush 64, 2) := by decide +kernel
theorem dX5_init_52 : decode cX5_init 52 = .ok (.newarray .int, 2) := by decide +kernel
theorem dX5_init_54 : decode cX5_init 54 = .ok (.putfield 34, 3) := by decide +kernel
theorem dX5_init_57 : decode cX5_init 57 = .ok (.aload_n 0, 1) := by decide +kernel
theorem dX5_init_58 : decode cX5_init 58 = .ok (.bipush 64, 2) := by decide +kernel
theorem dX5_init_60 : decode cX5_init 60 = .ok (.newarray .int, 2) := by decide +kernel
theorem dX5_init_62 : decode cX5_init 62 = .ok (.putfield 37, 3) := by decide +kernel
theorem dX5_init_65 : decode cX5_init 65 = .ok (.aload_n 0, 1) := by decide +kernel
theorem dX5_init_66 : decode cX5_init 66 = .ok (.iconst 5, 1) := by decide +kernel
theorem dX5_init_67 : decode cX5_init 67 = .ok (.newarray .int, 2) := by decide +kernel
theorem dX5_init_69 : decode cX5_init 69 = .ok (.putfield 40, 3) := by decide +kernel
theorem dX5_init_72 : decode cX5_init 72 = .ok (.aload_n 0, 1) := by decide +kernel
theorem dX5_init_73 : decode cX5_init 73 = .ok (.iconst 5, 1) := by decide +kernel
theorem dX5_init_74 : decode cX5_init 74 = .ok (.newarray .int, 2) := by decide +kernel
theorem dX5_init_76 : decode cX5_init 76 = .ok (.putfield 43, 3) := by decide +kernel
theorem dX5_init_79 : decode cX5_init 79 = .ok (.return_, 1) := by decide +kernel
theorem dX8_init_0 : decode cX8_init 0 = .ok (.aload_n 0, 1) := by decide +kernel
theorem dX8_init_1 : decode cX8_init 1 = .ok (.invokespecial 3, 3) := by decide +kernel
theorem dX8_init_4 : decode cX8_init 4 = .ok (.aload_n 0, 1) := by decide +kernel
theorem dX8_init_5 : decode cX8_init 5 = .ok (.bipush 80, 2) := by decide +kernel
theorem dX8_init_7 : decode cX8_init 7 = .ok (.newarray .int, 2) := by decide +kernel
theorem dX8_init_9 : decode cX8_init 9 = .ok (.putfield 11, 3) := by decide +kernel
theorem dX8_init_12 : decode cX8_init 12 = .ok (.aload_n 0, 1) := by decide +kernel
theorem dX8_init_13 : decode cX8_init 13 = .ok (.bipush 80, 2) := by decide +kernel
theorem dX8_init_15 : decode cX8_init 15 = .ok (.newarray .int, 2) := by decide +kernel
theorem dX8_init_17 : decode cX8_init 17 = .ok (.putfield 15, 3) := by decide +kernel
theorem dX8_init_20 : decode cX8_init 20 = .ok (.aload_n 0, 1) := by decide +kernel
theorem dX8_init_21 : decode cX8_init 21 = .ok (.bipush 80, 2) := by decide +kernel
theorem dX8_init_23 : decode cX8_init 23 = .ok (.newarray .int, 2) := by decide +kernel
theorem dX8_init_25 : decode cX8_init 25 = .ok (.putfield 18, 3) := by decide +kernel
theorem dX8_init_28 : decode cX8_init 28 = .ok (.aload_n 0, 1) := by decide +kernel
theorem dX8_init_29 : decode cX8_init 29 = .ok (.bipush 80, 2) := by decide +kernel
theorem dX8_init_31 : decode cX8_init 31 = .ok (.newarray .int, 2) := by decide +kernel
theorem dX8_init_33 : decode cX8_init 33 = .ok (.putfield 21, 3) := by decide +kernel
theorem dX8_init_36 : decode cX8_init 36 = .ok (.aload_n 0, 1) := by decide +kernel
theorem dX8_init_37 : decode cX8_init 37 = .ok (.bipush 80, 2) := by decide +kernel
theorem dX8_init_39 : decode cX8_init 39 = .ok (.newarray .int, 2) := by decide +kernel
theorem dX8_init_41 : decode cX8_init 41 = .ok (.putfield 24, 3) := by decide +kernel
theorem dX8_init_44 : decode cX8_init 44 = .ok (.aload_n 0, 1) := by decide +kernel
theorem dX8_init_45 : decode cX8_init 45 = .ok (.bipush 80, 2) := by decide +kernel
theorem dX8_init_47 : decode cX8_init 47 = .ok (.newarray .int, 2) := by decide +kernel
theorem dX8_init_49 : decode cX8_init 49 = .ok (.putfield 27, 3) := by decide +kernel
theorem dX8_init_52 : decode cX8_init 52 = .ok (.aload_n 0, 1) := by decide +kernel
theorem dX8_init_53 : decode cX8_init 53 = .ok (.bipush 80, 2) := by decide +kernel
theorem dX8_init_55 : decode cX8_init 55 = .ok (.newarray .int, 2) := by decide +kernel
theorem dX8_init_57 : decode cX8_init 57 = .ok (.putfield 30, 3) := by decide +kernel
theorem dX8_init_60 : decode cX8_init 60 = .ok (.aload_n 0, 1) := by decide +kernel
theorem dX8_init_61 : decode cX8_init 61 = .ok (.bipush 80, 2) := by decide +kernel
theorem dX8_init_63 : decode cX8_init 63 = .ok (.newarray .int, 2) := by decide +kernel
theorem dX8_init_65 : decode cX8_init 65 = .ok (.putfield 33, 3) := by decide +kernel
theorem dX8_init_68 : decode cX8_init 68 = .ok (.return_, 1) := by decide +kernel
theorem dX9_init_0 : decode cX9_init 0 = .ok (.aload_n 0, 1) := by decide +kernel
theorem dX9_init_1 : decode cX9_init 1 = .ok (.invokespecial 3, 3) := by decide +kernel
theorem dX9_init_4 : decode cX9_init 4 = .ok (.aload_n 0, 1) := by decide +kernel
theorem dX9_init_5 : decode cX9_init 5 = .ok (.aload_n 1, 1) := by decide +kernel
theorem dX9_init_6 : decode cX9_init 6 = .ok (.putfield 9, 3) := by decide +kernel
theorem dX9_init_9 : decode cX9_init 9 = .ok (.aload_n 0, 1) := by decide +kernel
theorem dX9_init_10 : decode cX9_init 10 = .ok (.bipush 80, 2) := by decide +kernel
theorem dX9_init_12 : decode cX9_init 12 = .ok (.newarray .int, 2) := by decide +kernel
theorem dX9_init_14 : decode cX9_init 14 = .ok (.putfield 17, 3) := by decide +kernel
theorem dX9_init_17 : decode cX9_init 17 = .ok (.aload_n 0, 1) := by decide +kernel
theorem dX9_init_18 : decode cX9_init 18 = .ok (.bipush 80, 2) := by decide +kernel
theorem dX9_init_20 : decode cX9_init 20 = .ok (.newarray .int, 2) := by decide +kernel
theorem dX9_init_22 : decode cX9_init 22 = .ok (.putfield 21, 3) := by decide +kernel
theorem dX9_init_25 : decode cX9_init 25 = .ok (.aload_n 0, 1) := by decide +kernel
theorem dX9_init_26 : decode cX9_init 26 = .ok (.bipush 80, 2) := by decide +kernel
theorem dX9_init_28 : decode cX9_init 28 = .ok (.newarray .int, 2) := by decide +kernel
theorem dX9_init_30 : decode cX9_init 30 = .ok (.putfield 24, 3) := by decide +kernel
theorem dX9_init_33 : decode cX9_init 33 = .ok (.aload_n 0, 1) := by decide +kernel
theorem dX9_init_34 : decode cX9_init 34 = .ok (.bipush 80, 2) := by decide +kernel
theorem dX9_init_36 : decode cX9_init 36 = .ok (.newarray .int, 2) := by decide +kernel
theorem dX9_init_38 : decode cX9_init 38 = .ok (.putfield 27, 3) := by decide +kernel
theorem dX9_init_41 : decode cX9_init 41 = .ok (.aload_n 0, 1) := by decide +kernel
theorem dX9_init_42 : decode cX9_init 42 = .ok (.bipush 80, 2) := by decide +kernel
theorem dX9_init_44 : decode cX9_init 44 = .ok (.newarray .int, 2) := by decide +kernel
theorem dX9_init_46 : decode cX9_init 46 = .ok (.putfield 30, 3) := by decide +kernel
theorem dX9_init_49 : decode cX9_init 49 = .ok (.aload_n 0, 1) := by decide +kernel
theorem dX9_init_50 : decode cX9_init 50 = .ok (.bipush 80, 2) := by decide +kernel
theorem dX9_init_52 : decode cX9_init 52 = .ok (.newarray .int, 2) := by decide +kernel
theorem dX9_init_54 : decode cX9_init 54 = .ok (.putfield 33, 3) := by decide +kernel
theorem dX9_init_57 : decode cX9_init 57 = .ok (.aload_n 0, 1) := by decide +kernel
theorem dX9_init_58 : decode cX9_init 58 = .ok (.bipush 40, 2) := by decide +kernel
theorem dX9_init_60 : decode cX9_init 60 = .ok (.newarray .int, 2) := by decide +kernel
theorem dX9_init_62 : decode cX9_init 62 = .ok (.putfield 38, 3) := by decide +kernel
theorem dX9_init_65 : decode cX9_init 65 = .ok (.return_, 1) := by decide +kernel
def ntH {α : Type} (d : α) : List α → Nat → α
  | [], _ => d
  | a :: _, 0 => a
  | _ :: t, k + 1 => ntH d t k
theorem my_lt {i N : Nat} {x y : Int32} (hx : x = nI i) (hy : y = nI N) (hi : i ≤ N) (c : ¬ y ≤ x) : i < N := by
  rcases Nat.lt_or_ge i N with h | h
  · exact h
  · exact absurd (by rw [hx, hy, Nat.le_antisymm h hi]; exact Int32.le_refl _) c
theorem my_in {i N : Nat} {x : Int32} (hx : x = nI i) (h : i < N) (hN : N < 2 ^ 31) : vp_in x N := by rw [hx]; exact vp_in_nI h hN
set_option maxHeartbeats 4000000 in
set_option maxRecDepth 100000 in
theorem x_Roads_init (l : Launch) (dC : Nat → ClassId) (dI : Nat → Nat → Nat) (sz : Nat) (h0 : Nat) : Met l yX4_init (.code yX4_init cX4_init 2 none :: lw_good) ({ frames := 2, cells := 1, slots := 144, locals := 60 }) (va_Pc [.ref h0] (fun U => U.heap.size = sz ∧ va_P (dC, dI) vwCl [(h0, .inr (5, [.null, .int 0]))] U.heap ∧ va_K (dC, dI) vwCl [] U ∧ va_D (fun _ => True) [(h0, .inr (5, [.null, .int 0]))])) (va_Qv (fun (_ : Unit) => True) (fun (_ : Unit) (t : State) => ∃ (a_least : Nat), ∃ (k_least : ClassId), ∃ (fL : Nat → Int32), wt_cI 144 fL ∧ va_P (dC, dI) vwCl [(h0, .inr (5, [.ref a_least, .int 0])), (a_least, .inl (k_least, 144, .inl fL))] t.heap ∧ va_K (dC, dI) vwCl [(k_least, .int)] t ∧ va_D (va_A [(h0, .inr (5, [.null, .int 0]))] sz) [(h0, .inr (5, [.ref a_least, .int 0])), (a_least, .inl (k_least, 144, .inl fL))]) (va_A [(h0, .inr (5, [.null, .int 0]))] sz)) 1 144 (va_A [(h0, .inr (5, [.null, .int 0]))] sz) := by
  refine Met.ofW (cc := cX4_init) (maxL := 2) (ret := none) (by decide) rfl ?_
  intro p e s m args below meth c s₁ B hml hv
  obtain ⟨rfl, hsz, hP, hK, hD0⟩ := hv
  have hx := B.exec
  have hb := B.bytes
  have hr := B.returns
  have hts := atoms_spec (ws := (.code yX4_init cX4_init 2 none :: lw_good)) B.pre
  have hown : s.vm.findClass RX4 = some m.cls := findClass_of_methodNamed B.named
  have hlocks := B.notSynchronized
  have hin : meth.name = "<init>" := (name_of_methodNamed B.named B.method).1
  subst hsz
  have hD := hD0.self (sz := s.heap.size)
  generalize hAe : va_A [(h0, .inr (5, [.null, .int 0]))] s.heap.size = A at hD ⊢
  have hA : ∀ q : Nat, s.heap.size ≤ q → A q := fun q h => by rw [← hAe]; exact Or.inr h
  have hS : va_S A s.heap s.heap [] := va_S.rf
  have hP : va_P (dC, dI) vwCl [(h0, .inr (5, [.null, .int 0]))] s.heap := hP
  have hl := lv_entry ([.ref h0]) (n := 2) (Nat.le_of_ble_eq_true rfl)
  rw [lg_entry_eq]
  generalize (lg_sl ([.ref h0]) ++ List.replicate (2 - (lg_sl ([.ref h0])).length) Slot.unset).toArray = ls at hl ⊢
  have hl : lv_has ls 2 [(0, .ref h0)] := hl
  refine lv_aload_n hx hb dX4_init_0 rfl (lv_at hl 0 rfl) ?_
  refine W.objInit hx hb hown (hts (.methodLink RX4 1 objectInit) (List.mem_cons_of_mem _ kw_1_51)) (hts (.instanceMethod objectInit) (List.mem_cons_of_mem _ kw_1_38)) (hts (.code objectInit ⟨#[0xb1]⟩ 1 none) (List.mem_cons_of_mem _ kw_1_39)) rfl (by rw [hml]; exact hl.1) rfl dX4_init_1 (Nat.le_of_ble_eq_true rfl) (Nat.le_of_ble_eq_true rfl) ?_
  refine W.eq (g2 := F0 m 4 ls []) rfl ?_
  refine lv_aload_n hx hb dX4_init_4 rfl (lv_at hl 0 rfl) ?_
  refine lv_sipush (v := 144) hx hb dX4_init_5 (by decide) ?_
  refine va_newa (atype := .int) (N' := 144) (a0 := (144, .inl (fun _ => 0))) hx hb (hts (.arrayClass .int) (List.mem_cons_of_mem _ kw_1_60)) (ty := .int) rfl hK hP hD hS hA (fun _ => rfl) (by decide) (by decide) (by decide) (Nat.le_of_ble_eq_true rfl) (Nat.le_of_ble_eq_true rfl) dX4_init_8 (fun q_1 cA_1 H hK hP hD hS => ?_)
  have hP : va_P (dC, dI) vwCl [(h0, .inr (5, [.null, .int 0])), (q_1, .inl (cA_1, 144, .inl (fun _ => 0)))] H := hP
  have hD : va_D A [(h0, .inr (5, [.null, .int 0])), (q_1, .inl (cA_1, 144, .inl (fun _ => 0)))] := hD
  have hK : va_K (dC, dI) vwCl [(cA_1, .int)] s := hK
  refine W.widen (k := 1) (n := 144) (Nat.le_of_ble_eq_true rfl) (Nat.le_of_ble_eq_true rfl) ?_
  refine va_putF (D := (dC, dI)) (ci := 5) (v := .ref q_1) (ty := .array .int) (C := RX4) (T := TX4) (N := 2) hx hb hts iCX4 tyX4 tyX4_ok nmX4 hown hK hP hD hS 0 rfl rfl 0 (by decide) (hts (.fieldLink RX4 9 "WalkingTown$Roads" "least" "[I") (List.mem_cons_of_mem _ kw_1_53)) (fun _ h9 => h9) rfl hin rfl (by decide +kernel) rfl rfl (Nat.le_of_ble_eq_true rfl) dX4_init_10 (fun H locs hP hD hS => ?_)
  have hP : va_P (dC, dI) vwCl [(h0, .inr (5, [.ref q_1, .int 0])), (q_1, .inl (cA_1, 144, .inl (fun _ => 0)))] H := hP
  have hD : va_D A [(h0, .inr (5, [.ref q_1, .int 0])), (q_1, .inl (cA_1, 144, .inl (fun _ => 0)))] := hD
  refine lv_iconst (v := 0) hx hb dX4_init_13 (by decide) ?_
  refine lv_istore_n (lv' := [(1, .int 0), (0, .ref h0)]) hx hb dX4_init_14 rfl hl (by decide) rfl (fun ls hl => ?_)
  refine (show ∀ (n_2 : Nat) (i : Nat) (x : Int32) (f : Nat → Int32) (H : Heap) (locs : List Loc) (ls : Array Slot), 144 < i + n_2 → i ≤ 144 → x = nI i → wt_cI i f → va_K (dC, dI) vwCl [(cA_1, .int)] s → va_P (dC, dI) vwCl [(h0, .inr (5, [.ref q_1, .int 0])), (q_1, .inl (cA_1, 144, .inl f))] H → va_D A [(h0, .inr (5, [.ref q_1, .int 0])), (q_1, .inl (cA_1, 144, .inl f))] → va_S A s.heap H locs → lv_has ls 2 [(0, .ref h0), (1, .int x)] → W p l e _ s m _ below meth c H locs 1 144 _ (F0 m 15 ls []) from ?_) 145 0 0 (fun _ => 0) H _ ls (by omega) (by omega) rfl wt_cI0 hK hP hD hS (lv_sub hl [1, 0] rfl)
  intro n_2
  induction n_2 with
  | zero => intro i x f H locs ls hfu hi hxi hfc; exfalso; omega
  | succ n_2 ih_2 =>
    intro i x f H locs ls hfu hi hxi hfc hK hP hD hS hl
    refine lv_iload_n hx hb dX4_init_15 rfl (lv_at hl 1 rfl) ?_
    refine lv_aload_n hx hb dX4_init_16 rfl (lv_at hl 0 rfl) ?_
    refine va_get (D := (dC, dI)) (ci := 5) (v := .ref q_1) (C := RX4) (T := TX4) (N := 2) hx hb hts iCX4 hown hK hP 0 rfl rfl 0 (by decide) (hts (.fieldLink RX4 9 "WalkingTown$Roads" "least" "[I") (List.mem_cons_of_mem _ kw_1_53)) (fun _ h9 => h9) rfl dX4_init_17 ?_
    refine va_alen hx hb hK hP 1 0 rfl rfl (v := 144) rfl dX4_init_20 ?_
    refine lv_icmp_ge (tgt := 53) hx hb dX4_init_21 (by decide) (fun c_3 => ?_) (fun c_3 => ?_)
    · skip
      have hP9 := hP.sub (ws' := [(h0, .inr (5, [.ref q_1, .int 0])), (q_1, .inl (cA_1, 144, .inl f))]) [0, 1] rfl
      have hD9 := hD.sub (ws' := [(h0, .inr (5, [.ref q_1, .int 0])), (q_1, .inl (cA_1, 144, .inl f))]) [0, 1] (by decide) rfl
      have hK9 := hK.sub (tys' := [(cA_1, .int)]) [0] rfl
      refine W.widen (k := 1) (n := 144) (Nat.le_of_ble_eq_true rfl) (Nat.le_of_ble_eq_true rfl) ?_
      exact W.vret hx hb hr (fun t ht hW => ⟨⟨(), rfl, trivial, ⟨q_1, cA_1, f, (by have h9 := wt_cIe hxi hi c_3; rw [h9] at hfc; exact hfc), by rw [ht]; exact hP9, va_K.moved hW.alike hK9, hD9⟩⟩, hS.F ht⟩) hS.2.2 dX4_init_53
    · skip
      refine lv_aload_n hx hb dX4_init_24 rfl (lv_at hl 0 rfl) ?_
      refine va_get (D := (dC, dI)) (ci := 5) (v := .ref q_1) (C := RX4) (T := TX4) (N := 2) hx hb hts iCX4 hown hK hP 0 rfl rfl 0 (by decide) (hts (.fieldLink RX4 9 "WalkingTown$Roads" "least" "[I") (List.mem_cons_of_mem _ kw_1_53)) (fun _ h9 => h9) rfl dX4_init_25 ?_
      refine lv_iload_n hx hb dX4_init_28 rfl (lv_at hl 1 rfl) ?_
      refine lv_iload_n hx hb dX4_init_29 rfl (lv_at hl 1 rfl) ?_
      refine lv_bipush (v := 12) hx hb dX4_init_30 (by decide) ?_
      refine lv_idiv hx hb dX4_init_32 (by decide) ?_
      refine lv_topi (fun v_4 ev_4 => ?_)
      refine lv_iload_n hx hb dX4_init_33 rfl (lv_at hl 1 rfl) ?_
      refine lv_bipush (v := 12) hx hb dX4_init_34 (by decide) ?_
      refine lv_irem hx hb dX4_init_36 (by decide) ?_
      refine lv_topi (fun v_5 ev_5 => ?_)
      refine lv_icmp_ne (tgt := 44) hx hb dX4_init_37 (by decide) (fun c_6 => ?_) (fun c_6 => ?_)
      · skip
        refine lv_ldc hx hb hown (hts (.constant RX4 15 10000000) (List.mem_cons_of_mem _ kw_1_52)) dX4_init_44 ?_
        refine va_iast hx hb hK hP hD hS 1 0 rfl rfl (my_in hxi (my_lt hxi rfl hi c_3) (by decide)) dX4_init_46 (fun H locs hP hD hS => ?_)
        have hP : va_P (dC, dI) vwCl [(h0, .inr (5, [.ref q_1, .int 0])), (q_1, .inl (cA_1, 144, .inl (upd f x.toNatClampNeg 10000000)))] H := hP
        have hD : va_D A [(h0, .inr (5, [.ref q_1, .int 0])), (q_1, .inl (cA_1, 144, .inl (upd f x.toNatClampNeg 10000000)))] := hD
        obtain ⟨f_7, ef_7⟩ : ∃ z : Nat → Int32, z = (upd f x.toNatClampNeg 10000000) := ⟨_, rfl⟩
        rw [← ef_7] at hP hD
        obtain ⟨v_8, ev_8⟩ : ∃ z : Int32, z = x + 1 := ⟨_, rfl⟩
        refine lv_iinc (v := v_8) (lv' := [(1, .int v_8), (0, .ref h0)]) hx hb dX4_init_47 hl (k := 1) rfl (by rw [ev_8]; rfl) (by decide) rfl (fun ls hl => ?_)
        refine lv_goto (tgt := 15) hx hb dX4_init_50 (by decide) ?_
        exact ih_2 (i + 1) v_8 f_7 _ _ _ (by omega) (by have := my_lt hxi rfl hi c_3; omega) (by rw [ev_8, hxi]; exact nI_1 i) (wt_cIq hxi (my_lt hxi rfl hi c_3) hfc ev_4 ev_5 c_6 ef_7) (hK.sub [0] rfl) (hP.sub [0, 1] rfl) (hD.sub [0, 1] (by decide) rfl) hS (lv_sub hl [1, 0] rfl)
      · skip
        refine lv_iconst (v := 0) hx hb dX4_init_40 (by decide) ?_
        refine lv_goto (tgt := 46) hx hb dX4_init_41 (by decide) ?_
        refine va_iast hx hb hK hP hD hS 1 0 rfl rfl (my_in hxi (my_lt hxi rfl hi c_3) (by decide)) dX4_init_46 (fun H locs hP hD hS => ?_)
        have hP : va_P (dC, dI) vwCl [(h0, .inr (5, [.ref q_1, .int 0])), (q_1, .inl (cA_1, 144, .inl (upd f x.toNatClampNeg 0)))] H := hP
        have hD : va_D A [(h0, .inr (5, [.ref q_1, .int 0])), (q_1, .inl (cA_1, 144, .inl (upd f x.toNatClampNeg 0)))] := hD
        obtain ⟨f_9, ef_9⟩ : ∃ z : Nat → Int32, z = (upd f x.toNatClampNeg 0) := ⟨_, rfl⟩
        rw [← ef_9] at hP hD
        obtain ⟨v_10, ev_10⟩ : ∃ z : Int32, z = x + 1 := ⟨_, rfl⟩
        refine lv_iinc (v := v_10) (lv' := [(1, .int v_10), (0, .ref h0)]) hx hb dX4_init_47 hl (k := 1) rfl (by rw [ev_10]; rfl) (by decide) rfl (fun ls hl => ?_)
        refine lv_goto (tgt := 15) hx hb dX4_init_50 (by decide) ?_
        exact ih_2 (i + 1) v_10 f_9 _ _ _ (by omega) (by have := my_lt hxi rfl hi c_3; omega) (by rw [ev_10, hxi]; exact nI_1 i) (wt_cIp hxi (my_lt hxi rfl hi c_3) hfc ev_4 ev_5 c_6 ef_9) (hK.sub [0] rfl) (hP.sub [0, 1] rfl) (hD.sub [0, 1] (by decide) rfl) hS (lv_sub hl [1, 0] rfl)
set_option maxHeartbeats 4000000 in
set_option maxRecDepth 100000 in
theorem x_People_init (l : Launch) (dC : Nat → ClassId) (dI : Nat → Nat → Nat) (sz : Nat) (h0 : Nat) : Met l yX2_init (.code yX2_init cX2_init 1 none :: lw_good) ({ frames := 2, cells := 14, slots := 560, locals := 60 }) (va_Pc [.ref h0] (fun U => U.heap.size = sz ∧ va_P (dC, dI) vwCl [(h0, .inr (3, [.int 0, .null, .null, .null, .null, .null, .null, .null, .null, .null, .null, .null, .null, .null, .null]))] U.heap ∧ va_K (dC, dI) vwCl [] U ∧ va_D (fun _ => True) [(h0, .inr (3, [.int 0, .null, .null, .null, .null, .null, .null, .null, .null, .null, .null, .null, .null, .null, .null]))])) (va_Qv (fun (_ : Unit) => True) (fun (_ : Unit) (t : State) => ∃ (b1 : Nat), ∃ (k1 : ClassId), ∃ (b2 : Nat), ∃ (k2 : ClassId), ∃ (b3 : Nat), ∃ (k3 : ClassId), ∃ (b4 : Nat), ∃ (k4 : ClassId), ∃ (b5 : Nat), ∃ (k5 : ClassId), ∃ (b6 : Nat), ∃ (k6 : ClassId), ∃ (b7 : Nat), ∃ (k7 : ClassId), ∃ (b8 : Nat), ∃ (k8 : ClassId), ∃ (b9 : Nat), ∃ (k9 : ClassId), ∃ (b10 : Nat), ∃ (k10 : ClassId), ∃ (b11 : Nat), ∃ (k11 : ClassId), ∃ (b12 : Nat), ∃ (k12 : ClassId), ∃ (b13 : Nat), ∃ (k13 : ClassId), ∃ (b14 : Nat), ∃ (k14 : ClassId), va_P (dC, dI) vwCl [(h0, .inr (3, [.int 0, .ref b1, .ref b2, .ref b3, .ref b4, .ref b5, .ref b6, .ref b7, .ref b8, .ref b9, .ref b10, .ref b11, .ref b12, .ref b13, .ref b14])), (b1, .inl (k1, 40, .inl (fun _ => 0))), (b2, .inl (k2, 40, .inl (fun _ => 0))), (b3, .inl (k3, 40, .inl (fun _ => 0))), (b4, .inl (k4, 40, .inl (fun _ => 0))), (b5, .inl (k5, 40, .inl (fun _ => 0))), (b6, .inl (k6, 40, .inl (fun _ => 0))), (b7, .inl (k7, 40, .inl (fun _ => 0))), (b8, .inl (k8, 40, .inl (fun _ => 0))), (b9, .inl (k9, 40, .inl (fun _ => 0))), (b10, .inl (k10, 40, .inl (fun _ => 0))), (b11, .inl (k11, 40, .inl (fun _ => 0))), (b12, .inl (k12, 40, .inl (fun _ => 0))), (b13, .inl (k13, 40, .inl (fun _ => 0))), (b14, .inl (k14, 40, .inl (fun _ => 0)))] t.heap ∧ va_K (dC, dI) vwCl [(k1, .int), (k2, .int), (k3, .int), (k4, .int), (k5, .int), (k6, .int), (k7, .int), (k8, .int), (k9, .int), (k10, .int), (k11, .int), (k12, .int), (k13, .int), (k14, .int)] t ∧ va_D (va_A [(h0, .inr (3, [.int 0, .null, .null, .null, .null, .null, .null, .null, .null, .null, .null, .null, .null, .null, .null]))] sz) [(h0, .inr (3, [.int 0, .ref b1, .ref b2, .ref b3, .ref b4, .ref b5, .ref b6, .ref b7, .ref b8, .ref b9, .ref b10, .ref b11, .ref b12, .ref b13, .ref b14])), (b1, .inl (k1, 40, .inl (fun _ => 0))), (b2, .inl (k2, 40, .inl (fun _ => 0))), (b3, .inl (k3, 40, .inl (fun _ => 0))), (b4, .inl (k4, 40, .inl (fun _ => 0))), (b5, .inl (k5, 40, .inl (fun _ => 0))), (b6, .inl (k6, 40, .inl (fun _ => 0))), (b7, .inl (k7, 40, .inl (fun _ => 0))), (b8, .inl (k8, 40, .inl (fun _ => 0))), (b9, .inl (k9, 40, .inl (fun _ => 0))), (b10, .inl (k10, 40, .inl (fun _ => 0))), (b11, .inl (k11, 40, .inl (fun _ => 0))), (b12, .inl (k12, 40, .inl (fun _ => 0))), (b13, .inl (k13, 40, .inl (fun _ => 0))), (b14, .inl (k14, 40, .inl (fun _ => 0)))]) (va_A [(h0, .inr (3, [.int 0, .null, .null, .null, .null, .null, .null, .null, .null, .null, .null, .null, .null, .null, .null]))] sz)) 14 560 (va_A [(h0, .inr (3, [.int 0, .null, .null, .null, .null, .null, .null, .null, .null, .null, .null, .null, .null, .null, .null]))] sz) := by
  refine Met.ofW (cc := cX2_init) (maxL := 1) (ret := none) (by decide) rfl ?_
  intro p e s m args below meth c s₁ B hml hv
  obtain ⟨rfl, hsz, hP, hK, hD0⟩ := hv
  have hx := B.exec
  have hb := B.bytes
  have hr := B.returns
  have hts := atoms_spec (ws := (.code yX2_init cX2_init 1 none :: lw_good)) B.pre
  have hown : s.vm.findClass RX2 = some m.cls := findClass_of_methodNamed B.named
  have hlocks := B.notSynchronized
  have hin : meth.name = "<init>" := (name_of_methodNamed B.named B.method).1
  subst hsz
  have hD := hD0.self (sz := s.heap.size)
  generalize hAe : va_A [(h0, .inr (3, [.int 0, .null, .null, .null, .null, .null, .null, .null, .null, .null, .null, .null, .null, .null, .null]))] s.heap.size = A at hD ⊢
  have hA : ∀ q : Nat, s.heap.size ≤ q → A q := fun q h => by rw [← hAe]; exact Or.inr h
  have hS : va_S A s.heap s.heap [] := va_S.rf
  have hP : va_P (dC, dI) vwCl [(h0, .inr (3, [.int 0, .null, .null, .null, .null, .null, .null, .null, .null, .null, .null, .null, .null, .null, .null]))] s.heap := hP
  have hl := lv_entry ([.ref h0]) (n := 1) (Nat.le_of_ble_eq_true rfl)
  rw [lg_entry_eq]
  generalize (lg_sl ([.ref h0]) ++ List.replicate (1 - (lg_sl ([.ref h0])).length) Slot.unset).toArray = ls at hl ⊢
  have hl : lv_has ls 1 [(0, .ref h0)] := hl
  refine lv_aload_n hx hb dX2_init_0 rfl (lv_at hl 0 rfl) ?_
  refine W.objInit hx hb hown (hts (.methodLink RX2 3 objectInit) (List.mem_cons_of_mem _ kw_1_66)) (hts (.instanceMethod objectInit) (List.mem_cons_of_mem _ kw_1_38)) (hts (.code objectInit ⟨#[0xb1]⟩ 1 none) (List.mem_cons_of_mem _ kw_1_39)) rfl (by rw [hml]; exact hl.1) rfl dX2_init_1 (Nat.le_of_ble_eq_true rfl) (Nat.le_of_ble_eq_true rfl) ?_
  refine W.eq (g2 := F0 m 4 ls []) rfl ?_
  refine lv_aload_n hx hb dX2_init_4 rfl (lv_at hl 0 rfl) ?_
  refine lv_bipush (v := 40) hx hb dX2_init_5 (by decide) ?_
  refine va_newa (atype := .int) (N' := 40) (a0 := (40, .inl (fun _ => 0))) hx hb (hts (.arrayClass .int) (List.mem_cons_of_mem _ kw_1_60)) (ty := .int) rfl hK hP hD hS hA (fun _ => rfl) (by decide) (by decide) (by decide) (Nat.le_of_ble_eq_true rfl) (Nat.le_of_ble_eq_true rfl) dX2_init_7 (fun q_1 cA_1 H hK hP hD hS => ?_)
  have hP : va_P (dC, dI) vwCl [(h0, .inr (3, [.int 0, .null, .null, .null, .null, .null, .null, .null, .null, .null, .null, .null, .null, .null, .null])), (q_1, .inl (cA_1, 40, .inl (fun _ => 0)))] H := hP
  have hD : va_D A [(h0, .inr (3, [.int 0, .null, .null, .null, .null, .null, .null, .null, .null, .null, .null, .null, .null, .null, .null])), (q_1, .inl (cA_1, 40, .inl (fun _ => 0)))] := hD
  have hK : va_K (dC, dI) vwCl [(cA_1, .int)] s := hK
  refine W.widen (k := 1) (n := 40) (Nat.le_of_ble_eq_true rfl) (Nat.le_of_ble_eq_true rfl) ?_
  refine va_putF (D := (dC, dI)) (ci := 3) (v := .ref q_1) (ty := .array .int) (C := RX2) (T := TX2) (N := 15) hx hb hts iCX2 tyX2 tyX2_ok nmX2 hown hK hP hD hS 0 rfl rfl 1 (by decide) (hts (.fieldLink RX2 11 "WalkingTown$People" "home" "[I") (List.mem_cons_of_mem _ kw_1_71)) (fun _ h9 => h9) rfl hin rfl (by decide +kernel) rfl rfl (Nat.le_of_ble_eq_true rfl) dX2_init_9 (fun H locs hP hD hS => ?_)
  have hP : va_P (dC, dI) vwCl [(h0, .inr (3, [.int 0, .ref q_1, .null, .null, .null, .null, .null, .null, .null, .null, .null, .null, .null, .null, .null])), (q_1, .inl (cA_1, 40, .inl (fun _ => 0)))] H := hP
  have hD : va_D A [(h0, .inr (3, [.int 0, .ref q_1, .null, .null, .null, .null, .null, .null, .null, .null, .null, .null, .null, .null, .null])), (q_1, .inl (cA_1, 40, .inl (fun _ => 0)))] := hD
  refine lv_aload_n hx hb dX2_init_12 rfl (lv_at hl 0 rfl) ?_
  refine lv_bipush (v := 40) hx hb dX2_init_13 (by decide) ?_
  refine va_newa (atype := .int) (N' := 40) (a0 := (40, .inl (fun _ => 0))) hx hb (hts (.arrayClass .int) (List.mem_cons_of_mem _ kw_1_60)) (ty := .int) rfl hK hP hD hS hA (fun _ => rfl) (by decide) (by decide) (by decide) (Nat.le_of_ble_eq_true rfl) (Nat.le_of_ble_eq_true rfl) dX2_init_15 (fun q_2 cA_2 H hK hP hD hS => ?_)
  have hP : va_P (dC, dI) vwCl [(h0, .inr (3, [.int 0, .ref q_1, .null, .null, .null, .null, .null, .null, .null, .null, .null, .null, .null, .null, .null])), (q_1, .inl (cA_1, 40, .inl (fun _ => 0))), (q_2, .inl (cA_2, 40, .inl (fun _ => 0)))] H := hP
  have hD : va_D A [(h0, .inr (3, [.int 0, .ref q_1, .null, .null, .null, .null, .null, .null, .null, .null, .null, .null, .null, .null, .null])), (q_1, .inl (cA_1, 40, .inl (fun _ => 0))), (q_2, .inl (cA_2, 40, .inl (fun _ => 0)))] := hD
  have hK : va_K (dC, dI) vwCl [(cA_1, .int), (cA_2, .int)] s := hK
  refine W.widen (k := 2) (n := 80) (Nat.le_of_ble_eq_true rfl) (Nat.le_of_ble_eq_true rfl) ?_
  refine va_putF (D := (dC, dI)) (ci := 3) (v := .ref q_2) (ty := .array .int) (C := RX2) (T := TX2) (N := 15) hx hb hts iCX2 tyX2 tyX2_ok nmX2 hown hK hP hD hS 0 rfl rfl 2 (by decide) (hts (.fieldLink RX2 15 "WalkingTown$People" "work" "[I") (List.mem_cons_of_mem _ kw_1_74)) (fun _ h9 => h9) rfl hin rfl (by decide +kernel) rfl rfl (Nat.le_of_ble_eq_true rfl) dX2_init_17 (fun H locs hP hD hS => ?_)
  have hP : va_P (dC, dI) vwCl [(h0, .inr (3, [.int 0, .ref q_1, .ref q_2, .null, .null, .null, .null, .null, .null, .null, .null, .null, .null, .null, .null])), (q_1, .inl (cA_1, 40, .inl (fun _ => 0))), (q_2, .inl (cA_2, 40, .inl (fun _ => 0)))] H := hP
  have hD : va_D A [(h0, .inr (3, [.int 0, .ref q_1, .ref q_2, .null, .null, .null, .null, .null, .null, .null, .null, .null, .null, .null, .null])), (q_1, .inl (cA_1, 40, .inl (fun _ => 0))), (q_2, .inl (cA_2, 40, .inl (fun _ => 0)))] := hD
  refine lv_aload_n hx hb dX2_init_20 rfl (lv_at hl 0 rfl) ?_
  refine lv_bipush (v := 40) hx hb dX2_init_21 (by decide) ?_
  refine va_newa (atype := .int) (N' := 40) (a0 := (40, .inl (fun _ => 0))) hx hb (hts (.arrayClass .int) (List.mem_cons_of_mem _ kw_1_60)) (ty := .int) rfl hK hP hD hS hA (fun _ => rfl) (by decide) (by decide) (by decide) (Nat.le_of_ble_eq_true rfl) (Nat.le_of_ble_eq_true rfl) dX2_init_23 (fun q_3 cA_3 H hK hP hD hS => ?_)
  have hP : va_P (dC, dI) vwCl [(h0, .inr (3, [.int 0, .ref q_1, .ref q_2, .null, .null, .null, .null, .null, .null, .null, .null, .null, .null, .null, .null])), (q_1, .inl (cA_1, 40, .inl (fun _ => 0))), (q_2, .inl (cA_2, 40, .inl (fun _ => 0))), (q_3, .inl (cA_3, 40, .inl (fun _ => 0)))] H := hP
  have hD : va_D A [(h0, .inr (3, [.int 0, .ref q_1, .ref q_2, .null, .null, .null, .null, .null, .null, .null, .null, .null, .null, .null, .null])), (q_1, .inl (cA_1, 40, .inl (fun _ => 0))), (q_2, .inl (cA_2, 40, .inl (fun _ => 0))), (q_3, .inl (cA_3, 40, .inl (fun _ => 0)))] := hD
  have hK : va_K (dC, dI) vwCl [(cA_1, .int), (cA_2, .int), (cA_3, .int)] s := hK
  refine W.widen (k := 3) (n := 120) (Nat.le_of_ble_eq_true rfl) (Nat.le_of_ble_eq_true rfl) ?_
  refine va_putF (D := (dC, dI)) (ci := 3) (v := .ref q_3) (ty := .array .int) (C := RX2) (T := TX2) (N := 15) hx hb hts iCX2 tyX2 tyX2_ok nmX2 hown hK hP hD hS 0 rfl rfl 3 (by decide) (hts (.fieldLink RX2 18 "WalkingTown$People" "wage" "[I") (List.mem_cons_of_mem _ kw_1_77)) (fun _ h9 => h9) rfl hin rfl (by decide +kernel) rfl rfl (Nat.le_of_ble_eq_true rfl) dX2_init_25 (fun H locs hP hD hS => ?_)
  have hP : va_P (dC, dI) vwCl [(h0, .inr (3, [.int 0, .ref q_1, .ref q_2, .ref q_3, .null, .null, .null, .null, .null, .null, .null, .null, .null, .null, .null])), (q_1, .inl (cA_1, 40, .inl (fun _ => 0))), (q_2, .inl (cA_2, 40, .inl (fun _ => 0))), (q_3, .inl (cA_3, 40, .inl (fun _ => 0)))] H := hP
  have hD : va_D A [(h0, .inr (3, [.int 0, .ref q_1, .ref q_2, .ref q_3, .null, .null, .null, .null, .null, .null, .null, .null, .null, .null, .null])), (q_1, .inl (cA_1, 40, .inl (fun _ => 0))), (q_2, .inl (cA_2, 40, .inl (fun _ => 0))), (q_3, .inl (cA_3, 40, .inl (fun _ => 0)))] := hD
  refine lv_aload_n hx hb dX2_init_28 rfl (lv_at hl 0 rfl) ?_
  refine lv_bipush (v := 40) hx hb dX2_init_29 (by decide) ?_
  refine va_newa (atype := .int) (N' := 40) (a0 := (40, .inl (fun _ => 0))) hx hb (hts (.arrayClass .int) (List.mem_cons_of_mem _ kw_1_60)) (ty := .int) rfl hK hP hD hS hA (fun _ => rfl) (by decide) (by decide) (by decide) (Nat.le_of_ble_eq_true rfl) (Nat.le_of_ble_eq_true rfl) dX2_init_31 (fun q_4 cA_4 H hK hP hD hS => ?_)
  have hP : va_P (dC, dI) vwCl [(h0, .inr (3, [.int 0, .ref q_1, .ref q_2, .ref q_3, .null, .null, .null, .null, .null, .null, .null, .null, .null, .null, .null])), (q_1, .inl (cA_1, 40, .inl (fun _ => 0))), (q_2, .inl (cA_2, 40, .inl (fun _ => 0))), (q_3, .inl (cA_3, 40, .inl (fun _ => 0))), (q_4, .inl (cA_4, 40, .inl (fun _ => 0)))] H := hP
  have hD : va_D A [(h0, .inr (3, [.int 0, .ref q_1, .ref q_2, .ref q_3, .null, .null, .null, .null, .null, .null, .null, .null, .null, .null, .null])), (q_1, .inl (cA_1, 40, .inl (fun _ => 0))), (q_2, .inl (cA_2, 40, .inl (fun _ => 0))), (q_3, .inl (cA_3, 40, .inl (fun _ => 0))), (q_4, .inl (cA_4, 40, .inl (fun _ => 0)))] := hD
  have hK : va_K (dC, dI) vwCl [(cA_1, .int), (cA_2, .int), (cA_3, .int), (cA_4, .int)] s := hK
  refine W.widen (k := 4) (n := 160) (Nat.le_of_ble_eq_true rfl) (Nat.le_of_ble_eq_true rfl) ?_
  refine va_putF (D := (dC, dI)) (ci := 3) (v := .ref q_4) (ty := .array .int) (C := RX2) (T := TX2) (N := 15) hx hb hts iCX2 tyX2 tyX2_ok nmX2 hown hK hP hD hS 0 rfl rfl 4 (by decide) (hts (.fieldLink RX2 21 "WalkingTown$People" "leaves" "[I") (List.mem_cons_of_mem _ kw_1_79)) (fun _ h9 => h9) rfl hin rfl (by decide +kernel) rfl rfl (Nat.le_of_ble_eq_true rfl) dX2_init_33 (fun H locs hP hD hS => ?_)
  have hP : va_P (dC, dI) vwCl [(h0, .inr (3, [.int 0, .ref q_1, .ref q_2, .ref q_3, .ref q_4, .null, .null, .null, .null, .null, .null, .null, .null, .null, .null])), (q_1, .inl (cA_1, 40, .inl (fun _ => 0))), (q_2, .inl (cA_2, 40, .inl (fun _ => 0))), (q_3, .inl (cA_3, 40, .inl (fun _ => 0))), (q_4, .inl (cA_4, 40, .inl (fun _ => 0)))] H := hP
  have hD : va_D A [(h0, .inr (3, [.int 0, .ref q_1, .ref q_2, .ref q_3, .ref q_4, .null, .null, .null, .null, .null, .null, .null, .null, .null, .null])), (q_1, .inl (cA_1, 40, .inl (fun _ => 0))), (q_2, .inl (cA_2, 40, .inl (fun _ => 0))), (q_3, .inl (cA_3, 40, .inl (fun _ => 0))), (q_4, .inl (cA_4, 40, .inl (fun _ => 0)))] := hD
  refine lv_aload_n hx hb dX2_init_36 rfl (lv_at hl 0 rfl) ?_
  refine lv_bipush (v := 40) hx hb dX2_init_37 (by decide) ?_
  refine va_newa (atype := .int) (N' := 40) (a0 := (40, .inl (fun _ => 0))) hx hb (hts (.arrayClass .int) (List.mem_cons_of_mem _ kw_1_60)) (ty := .int) rfl hK hP hD hS hA (fun _ => rfl) (by decide) (by decide) (by decide) (Nat.le_of_ble_eq_true rfl) (Nat.le_of_ble_eq_true rfl) dX2_init_39 (fun q_5 cA_5 H hK hP hD hS => ?_)
  have hP : va_P (dC, dI) vwCl [(h0, .inr (3, [.int 0, .ref q_1, .ref q_2, .ref q_3, .ref q_4, .null, .null, .null, .null, .null, .null, .null, .null, .null, .null])), (q_1, .inl (cA_1, 40, .inl (fun _ => 0))), (q_2, .inl (cA_2, 40, .inl (fun _ => 0))), (q_3, .inl (cA_3, 40, .inl (fun _ => 0))), (q_4, .inl (cA_4, 40, .inl (fun _ => 0))), (q_5, .inl (cA_5, 40, .inl (fun _ => 0)))] H := hP
  have hD : va_D A [(h0, .inr (3, [.int 0, .ref q_1, .ref q_2, .ref q_3, .ref q_4, .null, .null, .null, .null, .null, .null, .null, .null, .null, .null])), (q_1, .inl (cA_1, 40, .inl (fun _ => 0))), (q_2, .inl (cA_2, 40, .inl (fun _ => 0))), (q_3, .inl (cA_3, 40, .inl (fun _ => 0))), (q_4, .inl (cA_4, 40, .inl (fun _ => 0))), (q_5, .inl (cA_5, 40, .inl (fun _ => 0)))] := hD
  have hK : va_K (dC, dI) vwCl [(cA_1, .int), (cA_2, .int), (cA_3, .int), (cA_4, .int), (cA_5, .int)] s := hK
  refine W.widen (k := 5) (n := 200) (Nat.le_of_ble_eq_true rfl) (Nat.le_of_ble_eq_true rfl) ?_
  refine va_putF (D := (dC, dI)) (ci := 3) (v := .ref q_5) (ty := .array .int) (C := RX2) (T := TX2) (N := 15) hx hb hts iCX2 tyX2 tyX2_ok nmX2 hown hK hP hD hS 0 rfl rfl 5 (by decide) (hts (.fieldLink RX2 24 "WalkingTown$People" "begins" "[I") (List.mem_cons_of_mem _ kw_1_81)) (fun _ h9 => h9) rfl hin rfl (by decide +kernel) rfl rfl (Nat.le_of_ble_eq_true rfl) dX2_init_41 (fun H locs hP hD hS => ?_)
  have hP : va_P (dC, dI) vwCl [(h0, .inr (3, [.int 0, .ref q_1, .ref q_2, .ref q_3, .ref q_4, .ref q_5, .null, .null, .null, .null, .null, .null, .null, .null, .null])), (q_1, .inl (cA_1, 40, .inl (fun _ => 0))), (q_2, .inl (cA_2, 40, .inl (fun _ => 0))), (q_3, .inl (cA_3, 40, .inl (fun _ => 0))), (q_4, .inl (cA_4, 40, .inl (fun _ => 0))), (q_5, .inl (cA_5, 40, .inl (fun _ => 0)))] H := hP
  have hD : va_D A [(h0, .inr (3, [.int 0, .ref q_1, .ref q_2, .ref q_3, .ref q_4, .ref q_5, .null, .null, .null, .null, .null, .null, .null, .null, .null])), (q_1, .inl (cA_1, 40, .inl (fun _ => 0))), (q_2, .inl (cA_2, 40, .inl (fun _ => 0))), (q_3, .inl (cA_3, 40, .inl (fun _ => 0))), (q_4, .inl (cA_4, 40, .inl (fun _ => 0))), (q_5, .inl (cA_5, 40, .inl (fun _ => 0)))] := hD
  refine lv_aload_n hx hb dX2_init_44 rfl (lv_at hl 0 rfl) ?_
  refine lv_bipush (v := 40) hx hb dX2_init_45 (by decide) ?_
  refine va_newa (atype := .int) (N' := 40) (a0 := (40, .inl (fun _ => 0))) hx hb (hts (.arrayClass .int) (List.mem_cons_of_mem _ kw_1_60)) (ty := .int) rfl hK hP hD hS hA (fun _ => rfl) (by decide) (by decide) (by decide) (Nat.le_of_ble_eq_true rfl) (Nat.le_of_ble_eq_true rfl) dX2_init_47 (fun q_6 cA_6 H hK hP hD hS => ?_)
  have hP : va_P (dC, dI) vwCl [(h0, .inr (3, [.int 0, .ref q_1, .ref q_2, .ref q_3, .ref q_4, .ref q_5, .null, .null, .null, .null, .null, .null, .null, .null, .null])), (q_1, .inl (cA_1, 40, .inl (fun _ => 0))), (q_2, .inl (cA_2, 40, .inl (fun _ => 0))), (q_3, .inl (cA_3, 40, .inl (fun _ => 0))), (q_4, .inl (cA_4, 40, .inl (fun _ => 0))), (q_5, .inl (cA_5, 40, .inl (fun _ => 0))), (q_6, .inl (cA_6, 40, .inl (fun _ => 0)))] H := hP
  have hD : va_D A [(h0, .inr (3, [.int 0, .ref q_1, .ref q_2, .ref q_3, .ref q_4, .ref q_5, .null, .null, .null, .null, .null, .null, .null, .null, .null])), (q_1, .inl (cA_1, 40, .inl (fun _ => 0))), (q_2, .inl (cA_2, 40, .inl (fun _ => 0))), (q_3, .inl (cA_3, 40, .inl (fun _ => 0))), (q_4, .inl (cA_4, 40, .inl (fun _ => 0))), (q_5, .inl (cA_5, 40, .inl (fun _ => 0))), (q_6, .inl (cA_6, 40, .inl (fun _ => 0)))] := hD
  have hK : va_K (dC, dI) vwCl [(cA_1, .int), (cA_2, .int), (cA_3, .int), (cA_4, .int), (cA_5, .int), (cA_6, .int)] s := hK
  refine W.widen (k := 6) (n := 240) (Nat.le_of_ble_eq_true rfl) (Nat.le_of_ble_eq_true rfl) ?_
  refine va_putF (D := (dC, dI)) (ci := 3) (v := .ref q_6) (ty := .array .int) (C := RX2) (T := TX2) (N := 15) hx hb hts iCX2 tyX2 tyX2_ok nmX2 hown hK hP hD hS 0 rfl rfl 6 (by decide) (hts (.fieldLink RX2 27 "WalkingTown$People" "age" "[I") (List.mem_cons_of_mem _ kw_1_83)) (fun _ h9 => h9) rfl hin rfl (by decide +kernel) rfl rfl (Nat.le_of_ble_eq_true rfl) dX2_init_49 (fun H locs hP hD hS => ?_)
  have hP : va_P (dC, dI) vwCl [(h0, .inr (3, [.int 0, .ref q_1, .ref q_2, .ref q_3, .ref q_4, .ref q_5, .ref q_6, .null, .null, .null, .null, .null, .null, .null, .null])), (q_1, .inl (cA_1, 40, .inl (fun _ => 0))), (q_2, .inl (cA_2, 40, .inl (fun _ => 0))), (q_3, .inl (cA_3, 40, .inl (fun _ => 0))), (q_4, .inl (cA_4, 40, .inl (fun _ => 0))), (q_5, .inl (cA_5, 40, .inl (fun _ => 0))), (q_6, .inl (cA_6, 40, .inl (fun _ => 0)))] H := hP
  have hD : va_D A [(h0, .inr (3, [.int 0, .ref q_1, .ref q_2, .ref q_3, .ref q_4, .ref q_5, .ref q_6, .null, .null, .null, .null, .null, .null, .null, .null])), (q_1, .inl (cA_1, 40, .inl (fun _ => 0))), (q_2, .inl (cA_2, 40, .inl (fun _ => 0))), (q_3, .inl (cA_3, 40, .inl (fun _ => 0))), (q_4, .inl (cA_4, 40, .inl (fun _ => 0))), (q_5, .inl (cA_5, 40, .inl (fun _ => 0))), (q_6, .inl (cA_6, 40, .inl (fun _ => 0)))] := hD
  refine lv_aload_n hx hb dX2_init_52 rfl (lv_at hl 0 rfl) ?_
  refine lv_bipush (v := 40) hx hb dX2_init_53 (by decide) ?_
  refine va_newa (atype := .int) (N' := 40) (a0 := (40, .inl (fun _ => 0))) hx hb (hts (.arrayClass .int) (List.mem_cons_of_mem _ kw_1_60)) (ty := .int) rfl hK hP hD hS hA (fun _ => rfl) (by decide) (by decide) (by decide) (Nat.le_of_ble_eq_true rfl) (Nat.le_of_ble_eq_true rfl) dX2_init_55 (fun q_7 cA_7 H hK hP hD hS => ?_)
  have hP : va_P (dC, dI) vwCl [(h0, .inr (3, [.int 0, .ref q_1, .ref q_2, .ref q_3, .ref q_4, .ref q_5, .ref q_6, .null, .null, .null, .null, .null, .null, .null, .null])), (q_1, .inl (cA_1, 40, .inl (fun _ => 0))), (q_2, .inl (cA_2, 40, .inl (fun _ => 0))), (q_3, .inl (cA_3, 40, .inl (fun _ => 0))), (q_4, .inl (cA_4, 40, .inl (fun _ => 0))), (q_5, .inl (cA_5, 40, .inl (fun _ => 0))), (q_6, .inl (cA_6, 40, .inl (fun _ => 0))), (q_7, .inl (cA_7, 40, .inl (fun _ => 0)))] H := hP
  have hD : va_D A [(h0, .inr (3, [.int 0, .ref q_1, .ref q_2, .ref q_3, .ref q_4, .ref q_5, .ref q_6, .null, .null, .null, .null, .null, .null, .null, .null])), (q_1, .inl (cA_1, 40, .inl (fun _ => 0))), (q_2, .inl (cA_2, 40, .inl (fun _ => 0))), (q_3, .inl (cA_3, 40, .inl (fun _ => 0))), (q_4, .inl (cA_4, 40, .inl (fun _ => 0))), (q_5, .inl (cA_5, 40, .inl (fun _ => 0))), (q_6, .inl (cA_6, 40, .inl (fun _ => 0))), (q_7, .inl (cA_7, 40, .inl (fun _ => 0)))] := hD
  have hK : va_K (dC, dI) vwCl [(cA_1, .int), (cA_2, .int), (cA_3, .int), (cA_4, .int), (cA_5, .int), (cA_6, .int), (cA_7, .int)] s := hK
  refine W.widen (k := 7) (n := 280) (Nat.le_of_ble_eq_true rfl) (Nat.le_of_ble_eq_true rfl) ?_
  refine va_putF (D := (dC, dI)) (ci := 3) (v := .ref q_7) (ty := .array .int) (C := RX2) (T := TX2) (N := 15) hx hb hts iCX2 tyX2 tyX2_ok nmX2 hown hK hP hD hS 0 rfl rfl 7 (by decide) (hts (.fieldLink RX2 30 "WalkingTown$People" "shoes" "[I") (List.mem_cons_of_mem _ kw_1_86)) (fun _ h9 => h9) rfl hin rfl (by decide +kernel) rfl rfl (Nat.le_of_ble_eq_true rfl) dX2_init_57 (fun H locs hP hD hS => ?_)
  have hP : va_P (dC, dI) vwCl [(h0, .inr (3, [.int 0, .ref q_1, .ref q_2, .ref q_3, .ref q_4, .ref q_5, .ref q_6, .ref q_7, .null, .null, .null, .null, .null, .null, .null])), (q_1, .inl (cA_1, 40, .inl (fun _ => 0))), (q_2, .inl (cA_2, 40, .inl (fun _ => 0))), (q_3, .inl (cA_3, 40, .inl (fun _ => 0))), (q_4, .inl (cA_4, 40, .inl (fun _ => 0))), (q_5, .inl (cA_5, 40, .inl (fun _ => 0))), (q_6, .inl (cA_6, 40, .inl (fun _ => 0))), (q_7, .inl (cA_7, 40, .inl (fun _ => 0)))] H := hP
  have hD : va_D A [(h0, .inr (3, [.int 0, .ref q_1, .ref q_2, .ref q_3, .ref q_4, .ref q_5, .ref q_6, .ref q_7, .null, .null, .null, .null, .null, .null, .null])), (q_1, .inl (cA_1, 40, .inl (fun _ => 0))), (q_2, .inl (cA_2, 40, .inl (fun _ => 0))), (q_3, .inl (cA_3, 40, .inl (fun _ => 0))), (q_4, .inl (cA_4, 40, .inl (fun _ => 0))), (q_5, .inl (cA_5, 40, .inl (fun _ => 0))), (q_6, .inl (cA_6, 40, .inl (fun _ => 0))), (q_7, .inl (cA_7, 40, .inl (fun _ => 0)))] := hD
  refine lv_aload_n hx hb dX2_init_60 rfl (lv_at hl 0 rfl) ?_
  refine lv_bipush (v := 40) hx hb dX2_init_61 (by decide) ?_
  refine va_newa (atype := .int) (N' := 40) (a0 := (40, .inl (fun _ => 0))) hx hb (hts (.arrayClass .int) (List.mem_cons_of_mem _ kw_1_60)) (ty := .int) rfl hK hP hD hS hA (fun _ => rfl) (by decide) (by decide) (by decide) (Nat.le_of_ble_eq_true rfl) (Nat.le_of_ble_eq_true rfl) dX2_init_63 (fun q_8 cA_8 H hK hP hD hS => ?_)
  have hP : va_P (dC, dI) vwCl [(h0, .inr (3, [.int 0, .ref q_1, .ref q_2, .ref q_3, .ref q_4, .ref q_5, .ref q_6, .ref q_7, .null, .null, .null, .null, .null, .null, .null])), (q_1, .inl (cA_1, 40, .inl (fun _ => 0))), (q_2, .inl (cA_2, 40, .inl (fun _ => 0))), (q_3, .inl (cA_3, 40, .inl (fun _ => 0))), (q_4, .inl (cA_4, 40, .inl (fun _ => 0))), (q_5, .inl (cA_5, 40, .inl (fun _ => 0))), (q_6, .inl (cA_6, 40, .inl (fun _ => 0))), (q_7, .inl (cA_7, 40, .inl (fun _ => 0))), (q_8, .inl (cA_8, 40, .inl (fun _ => 0)))] H := hP
  have hD : va_D A [(h0, .inr (3, [.int 0, .ref q_1, .ref q_2, .ref q_3, .ref q_4, .ref q_5, .ref q_6, .ref q_7, .null, .null, .null, .null, .null, .null, .null])), (q_1, .inl (cA_1, 40, .inl (fun _ => 0))), (q_2, .inl (cA_2, 40, .inl (fun _ => 0))), (q_3, .inl (cA_3, 40, .inl (fun _ => 0))), (q_4, .inl (cA_4, 40, .inl (fun _ => 0))), (q_5, .inl (cA_5, 40, .inl (fun _ => 0))), (q_6, .inl (cA_6, 40, .inl (fun _ => 0))), (q_7, .inl (cA_7, 40, .inl (fun _ => 0))), (q_8, .inl (cA_8, 40, .inl (fun _ => 0)))] := hD
  have hK : va_K (dC, dI) vwCl [(cA_1, .int), (cA_2, .int), (cA_3, .int), (cA_4, .int), (cA_5, .int), (cA_6, .int), (cA_7, .int), (cA_8, .int)] s := hK
  refine W.widen (k := 8) (n := 320) (Nat.le_of_ble_eq_true rfl) (Nat.le_of_ble_eq_true rfl) ?_
  refine va_putF (D := (dC, dI)) (ci := 3) (v := .ref q_8) (ty := .array .int) (C := RX2) (T := TX2) (N := 15) hx hb hts iCX2 tyX2 tyX2_ok nmX2 hown hK hP hD hS 0 rfl rfl 8 (by decide) (hts (.fieldLink RX2 33 "WalkingTown$People" "purse" "[I") (List.mem_cons_of_mem _ kw_1_89)) (fun _ h9 => h9) rfl hin rfl (by decide +kernel) rfl rfl (Nat.le_of_ble_eq_true rfl) dX2_init_65 (fun H locs hP hD hS => ?_)
  have hP : va_P (dC, dI) vwCl [(h0, .inr (3, [.int 0, .ref q_1, .ref q_2, .ref q_3, .ref q_4, .ref q_5, .ref q_6, .ref q_7, .ref q_8, .null, .null, .null, .null, .null, .null])), (q_1, .inl (cA_1, 40, .inl (fun _ => 0))), (q_2, .inl (cA_2, 40, .inl (fun _ => 0))), (q_3, .inl (cA_3, 40, .inl (fun _ => 0))), (q_4, .inl (cA_4, 40, .inl (fun _ => 0))), (q_5, .inl (cA_5, 40, .inl (fun _ => 0))), (q_6, .inl (cA_6, 40, .inl (fun _ => 0))), (q_7, .inl (cA_7, 40, .inl (fun _ => 0))), (q_8, .inl (cA_8, 40, .inl (fun _ => 0)))] H := hP
  have hD : va_D A [(h0, .inr (3, [.int 0, .ref q_1, .ref q_2, .ref q_3, .ref q_4, .ref q_5, .ref q_6, .ref q_7, .ref q_8, .null, .null, .null, .null, .null, .null])), (q_1, .inl (cA_1, 40, .inl (fun _ => 0))), (q_2, .inl (cA_2, 40, .inl (fun _ => 0))), (q_3, .inl (cA_3, 40, .inl (fun _ => 0))), (q_4, .inl (cA_4, 40, .inl (fun _ => 0))), (q_5, .inl (cA_5, 40, .inl (fun _ => 0))), (q_6, .inl (cA_6, 40, .inl (fun _ => 0))), (q_7, .inl (cA_7, 40, .inl (fun _ => 0))), (q_8, .inl (cA_8, 40, .inl (fun _ => 0)))] := hD
  refine lv_aload_n hx hb dX2_init_68 rfl (lv_at hl 0 rfl) ?_
  refine lv_bipush (v := 40) hx hb dX2_init_69 (by decide) ?_
  refine va_newa (atype := .int) (N' := 40) (a0 := (40, .inl (fun _ => 0))) hx hb (hts (.arrayClass .int) (List.mem_cons_of_mem _ kw_1_60)) (ty := .int) rfl hK hP hD hS hA (fun _ => rfl) (by decide) (by decide) (by decide) (Nat.le_of_ble_eq_true rfl) (Nat.le_of_ble_eq_true rfl) dX2_init_71 (fun q_9 cA_9 H hK hP hD hS => ?_)
  have hP : va_P (dC, dI) vwCl [(h0, .inr (3, [.int 0, .ref q_1, .ref q_2, .ref q_3, .ref q_4, .ref q_5, .ref q_6, .ref q_7, .ref q_8, .null, .null, .null, .null, .null, .null])), (q_1, .inl (cA_1, 40, .inl (fun _ => 0))), (q_2, .inl (cA_2, 40, .inl (fun _ => 0))), (q_3, .inl (cA_3, 40, .inl (fun _ => 0))), (q_4, .inl (cA_4, 40, .inl (fun _ => 0))), (q_5, .inl (cA_5, 40, .inl (fun _ => 0))), (q_6, .inl (cA_6, 40, .inl (fun _ => 0))), (q_7, .inl (cA_7, 40, .inl (fun _ => 0))), (q_8, .inl (cA_8, 40, .inl (fun _ => 0))), (q_9, .inl (cA_9, 40, .inl (fun _ => 0)))] H := hP
  have hD : va_D A [(h0, .inr (3, [.int 0, .ref q_1, .ref q_2, .ref q_3, .ref q_4, .ref q_5, .ref q_6, .ref q_7, .ref q_8, .null, .null, .null, .null, .null, .null])), (q_1, .inl (cA_1, 40, .inl (fun _ => 0))), (q_2, .inl (cA_2, 40, .inl (fun _ => 0))), (q_3, .inl (cA_3, 40, .inl (fun _ => 0))), (q_4, .inl (cA_4, 40, .inl (fun _ => 0))), (q_5, .inl (cA_5, 40, .inl (fun _ => 0))), (q_6, .inl (cA_6, 40, .inl (fun _ => 0))), (q_7, .inl (cA_7, 40, .inl (fun _ => 0))), (q_8, .inl (cA_8, 40, .inl (fun _ => 0))), (q_9, .inl (cA_9, 40, .inl (fun _ => 0)))] := hD
  have hK : va_K (dC, dI) vwCl [(cA_1, .int), (cA_2, .int), (cA_3, .int), (cA_4, .int), (cA_5, .int), (cA_6, .int), (cA_7, .int), (cA_8, .int), (cA_9, .int)] s := hK
  refine W.widen (k := 9) (n := 360) (Nat.le_of_ble_eq_true rfl) (Nat.le_of_ble_eq_true rfl) ?_
  refine va_putF (D := (dC, dI)) (ci := 3) (v := .ref q_9) (ty := .array .int) (C := RX2) (T := TX2) (N := 15) hx hb hts iCX2 tyX2 tyX2_ok nmX2 hown hK hP hD hS 0 rfl rfl 9 (by decide) (hts (.fieldLink RX2 36 "WalkingTown$People" "lag" "[I") (List.mem_cons_of_mem _ kw_1_91)) (fun _ h9 => h9) rfl hin rfl (by decide +kernel) rfl rfl (Nat.le_of_ble_eq_true rfl) dX2_init_73 (fun H locs hP hD hS => ?_)
  have hP : va_P (dC, dI) vwCl [(h0, .inr (3, [.int 0, .ref q_1, .ref q_2, .ref q_3, .ref q_4, .ref q_5, .ref q_6, .ref q_7, .ref q_8, .ref q_9, .null, .null, .null, .null, .null])), (q_1, .inl (cA_1, 40, .inl (fun _ => 0))), (q_2, .inl (cA_2, 40, .inl (fun _ => 0))), (q_3, .inl (cA_3, 40, .inl (fun _ => 0))), (q_4, .inl (cA_4, 40, .inl (fun _ => 0))), (q_5, .inl (cA_5, 40, .inl (fun _ => 0))), (q_6, .inl (cA_6, 40, .inl (fun _ => 0))), (q_7, .inl (cA_7, 40, .inl (fun _ => 0))), (q_8, .inl (cA_8, 40, .inl (fun _ => 0))), (q_9, .inl (cA_9, 40, .inl (fun _ => 0)))] H := hP
  have hD : va_D A [(h0, .inr (3, [.int 0, .ref q_1, .ref q_2, .ref q_3, .ref q_4, .ref q_5, .ref q_6, .ref q_7, .ref q_8, .ref q_9, .null, .null, .null, .null, .null])), (q_1, .inl (cA_1, 40, .inl (fun _ => 0))), (q_2, .inl (cA_2, 40, .inl (fun _ => 0))), (q_3, .inl (cA_3, 40, .inl (fun _ => 0))), (q_4, .inl (cA_4, 40, .inl (fun _ => 0))), (q_5, .inl (cA_5, 40, .inl (fun _ => 0))), (q_6, .inl (cA_6, 40, .inl (fun _ => 0))), (q_7, .inl (cA_7, 40, .inl (fun _ => 0))), (q_8, .inl (cA_8, 40, .inl (fun _ => 0))), (q_9, .inl (cA_9, 40, .inl (fun _ => 0)))] := hD
  refine lv_aload_n hx hb dX2_init_76 rfl (lv_at hl 0 rfl) ?_
  refine lv_bipush (v := 40) hx hb dX2_init_77 (by decide) ?_
  refine va_newa (atype := .int) (N' := 40) (a0 := (40, .inl (fun _ => 0))) hx hb (hts (.arrayClass .int) (List.mem_cons_of_mem _ kw_1_60)) (ty := .int) rfl hK hP hD hS hA (fun _ => rfl) (by decide) (by decide) (by decide) (Nat.le_of_ble_eq_true rfl) (Nat.le_of_ble_eq_true rfl) dX2_init_79 (fun q_10 cA_10 H hK hP hD hS => ?_)
  have hP : va_P (dC, dI) vwCl [(h0, .inr (3, [.int 0, .ref q_1, .ref q_2, .ref q_3, .ref q_4, .ref q_5, .ref q_6, .ref q_7, .ref q_8, .ref q_9, .null, .null, .null, .null, .null])), (q_1, .inl (cA_1, 40, .inl (fun _ => 0))), (q_2, .inl (cA_2, 40, .inl (fun _ => 0))), (q_3, .inl (cA_3, 40, .inl (fun _ => 0))), (q_4, .inl (cA_4, 40, .inl (fun _ => 0))), (q_5, .inl (cA_5, 40, .inl (fun _ => 0))), (q_6, .inl (cA_6, 40, .inl (fun _ => 0))), (q_7, .inl (cA_7, 40, .inl (fun _ => 0))), (q_8, .inl (cA_8, 40, .inl (fun _ => 0))), (q_9, .inl (cA_9, 40, .inl (fun _ => 0))), (q_10, .inl (cA_10, 40, .inl (fun _ => 0)))] H := hP
  have hD : va_D A [(h0, .inr (3, [.int 0, .ref q_1, .ref q_2, .ref q_3, .ref q_4, .ref q_5, .ref q_6, .ref q_7, .ref q_8, .ref q_9, .null, .null, .null, .null, .null])), (q_1, .inl (cA_1, 40, .inl (fun _ => 0))), (q_2, .inl (cA_2, 40, .inl (fun _ => 0))), (q_3, .inl (cA_3, 40, .inl (fun _ => 0))), (q_4, .inl (cA_4, 40, .inl (fun _ => 0))), (q_5, .inl (cA_5, 40, .inl (fun _ => 0))), (q_6, .inl (cA_6, 40, .inl (fun _ => 0))), (q_7, .inl (cA_7, 40, .inl (fun _ => 0))), (q_8, .inl (cA_8, 40, .inl (fun _ => 0))), (q_9, .inl (cA_9, 40, .inl (fun _ => 0))), (q_10, .inl (cA_10, 40, .inl (fun _ => 0)))] := hD
  have hK : va_K (dC, dI) vwCl [(cA_1, .int), (cA_2, .int), (cA_3, .int), (cA_4, .int), (cA_5, .int), (cA_6, .int), (cA_7, .int), (cA_8, .int), (cA_9, .int), (cA_10, .int)] s := hK
  refine W.widen (k := 10) (n := 400) (Nat.le_of_ble_eq_true rfl) (Nat.le_of_ble_eq_true rfl) ?_
  refine va_putF (D := (dC, dI)) (ci := 3) (v := .ref q_10) (ty := .array .int) (C := RX2) (T := TX2) (N := 15) hx hb hts iCX2 tyX2 tyX2_ok nmX2 hown hK hP hD hS 0 rfl rfl 10 (by decide) (hts (.fieldLink RX2 39 "WalkingTown$People" "came" "[I") (List.mem_cons_of_mem _ kw_1_93)) (fun _ h9 => h9) rfl hin rfl (by decide +kernel) rfl rfl (Nat.le_of_ble_eq_true rfl) dX2_init_81 (fun H locs hP hD hS => ?_)
  have hP : va_P (dC, dI) vwCl [(h0, .inr (3, [.int 0, .ref q_1, .ref q_2, .ref q_3, .ref q_4, .ref q_5, .ref q_6, .ref q_7, .ref q_8, .ref q_9, .ref q_10, .null, .null, .null, .null])), (q_1, .inl (cA_1, 40, .inl (fun _ => 0))), (q_2, .inl (cA_2, 40, .inl (fun _ => 0))), (q_3, .inl (cA_3, 40, .inl (fun _ => 0))), (q_4, .inl (cA_4, 40, .inl (fun _ => 0))), (q_5, .inl (cA_5, 40, .inl (fun _ => 0))), (q_6, .inl (cA_6, 40, .inl (fun _ => 0))), (q_7, .inl (cA_7, 40, .inl (fun _ => 0))), (q_8, .inl (cA_8, 40, .inl (fun _ => 0))), (q_9, .inl (cA_9, 40, .inl (fun _ => 0))), (q_10, .inl (cA_10, 40, .inl (fun _ => 0)))] H := hP
  have hD : va_D A [(h0, .inr (3, [.int 0, .ref q_1, .ref q_2, .ref q_3, .ref q_4, .ref q_5, .ref q_6, .ref q_7, .ref q_8, .ref q_9, .ref q_10, .null, .null, .null, .null])), (q_1, .inl (cA_1, 40, .inl (fun _ => 0))), (q_2, .inl (cA_2, 40, .inl (fun _ => 0))), (q_3, .inl (cA_3, 40, .inl (fun _ => 0))), (q_4, .inl (cA_4, 40, .inl (fun _ => 0))), (q_5, .inl (cA_5, 40, .inl (fun _ => 0))), (q_6, .inl (cA_6, 40, .inl (fun _ => 0))), (q_7, .inl (cA_7, 40, .inl (fun _ => 0))), (q_8, .inl (cA_8, 40, .inl (fun _ => 0))), (q_9, .inl (cA_9, 40, .inl (fun _ => 0))), (q_10, .inl (cA_10, 40, .inl (fun _ => 0)))] := hD
  refine lv_aload_n hx hb dX2_init_84 rfl (lv_at hl 0 rfl) ?_
  refine lv_bipush (v := 40) hx hb dX2_init_85 (by decide) ?_
  refine va_newa (atype := .int) (N' := 40) (a0 := (40, .inl (fun _ => 0))) hx hb (hts (.arrayClass .int) (List.mem_cons_of_mem _ kw_1_60)) (ty := .int) rfl hK hP hD hS hA (fun _ => rfl) (by decide) (by decide) (by decide) (Nat.le_of_ble_eq_true rfl) (Nat.le_of_ble_eq_true rfl) dX2_init_87 (fun q_11 cA_11 H hK hP hD hS => ?_)
  have hP : va_P (dC, dI) vwCl [(h0, .inr (3, [.int 0, .ref q_1, .ref q_2, .ref q_3, .ref q_4, .ref q_5, .ref q_6, .ref q_7, .ref q_8, .ref q_9, .ref q_10, .null, .null, .null, .null])), (q_1, .inl (cA_1, 40, .inl (fun _ => 0))), (q_2, .inl (cA_2, 40, .inl (fun _ => 0))), (q_3, .inl (cA_3, 40, .inl (fun _ => 0))), (q_4, .inl (cA_4, 40, .inl (fun _ => 0))), (q_5, .inl (cA_5, 40, .inl (fun _ => 0))), (q_6, .inl (cA_6, 40, .inl (fun _ => 0))), (q_7, .inl (cA_7, 40, .inl (fun _ => 0))), (q_8, .inl (cA_8, 40, .inl (fun _ => 0))), (q_9, .inl (cA_9, 40, .inl (fun _ => 0))), (q_10, .inl (cA_10, 40, .inl (fun _ => 0))), (q_11, .inl (cA_11, 40, .inl (fun _ => 0)))] H := hP
  have hD : va_D A [(h0, .inr (3, [.int 0, .ref q_1, .ref q_2, .ref q_3, .ref q_4, .ref q_5, .ref q_6, .ref q_7, .ref q_8, .ref q_9, .ref q_10, .null, .null, .null, .null])), (q_1, .inl (cA_1, 40, .inl (fun _ => 0))), (q_2, .inl (cA_2, 40, .inl (fun _ => 0))), (q_3, .inl (cA_3, 40, .inl (fun _ => 0))), (q_4, .inl (cA_4, 40, .inl (fun _ => 0))), (q_5, .inl (cA_5, 40, .inl (fun _ => 0))), (q_6, .inl (cA_6, 40, .inl (fun _ => 0))), (q_7, .inl (cA_7, 40, .inl (fun _ => 0))), (q_8, .inl (cA_8, 40, .inl (fun _ => 0))), (q_9, .inl (cA_9, 40, .inl (fun _ => 0))), (q_10, .inl (cA_10, 40, .inl (fun _ => 0))), (q_11, .inl (cA_11, 40, .inl (fun _ => 0)))] := hD
  have hK : va_K (dC, dI) vwCl [(cA_1, .int), (cA_2, .int), (cA_3, .int), (cA_4, .int), (cA_5, .int), (cA_6, .int), (cA_7, .int), (cA_8, .int), (cA_9, .int), (cA_10, .int), (cA_11, .int)] s := hK
  refine W.widen (k := 11) (n := 440) (Nat.le_of_ble_eq_true rfl) (Nat.le_of_ble_eq_true rfl) ?_
  refine va_putF (D := (dC, dI)) (ci := 3) (v := .ref q_11) (ty := .array .int) (C := RX2) (T := TX2) (N := 15) hx hb hts iCX2 tyX2 tyX2_ok nmX2 hown hK hP hD hS 0 rfl rfl 11 (by decide) (hts (.fieldLink RX2 42 "WalkingTown$People" "late" "[I") (List.mem_cons_of_mem _ kw_1_95)) (fun _ h9 => h9) rfl hin rfl (by decide +kernel) rfl rfl (Nat.le_of_ble_eq_true rfl) dX2_init_89 (fun H locs hP hD hS => ?_)
  have hP : va_P (dC, dI) vwCl [(h0, .inr (3, [.int 0, .ref q_1, .ref q_2, .ref q_3, .ref q_4, .ref q_5, .ref q_6, .ref q_7, .ref q_8, .ref q_9, .ref q_10, .ref q_11, .null, .null, .null])), (q_1, .inl (cA_1, 40, .inl (fun _ => 0))), (q_2, .inl (cA_2, 40, .inl (fun _ => 0))), (q_3, .inl (cA_3, 40, .inl (fun _ => 0))), (q_4, .inl (cA_4, 40, .inl (fun _ => 0))), (q_5, .inl (cA_5, 40, .inl (fun _ => 0))), (q_6, .inl (cA_6, 40, .inl (fun _ => 0))), (q_7, .inl (cA_7, 40, .inl (fun _ => 0))), (q_8, .inl (cA_8, 40, .inl (fun _ => 0))), (q_9, .inl (cA_9, 40, .inl (fun _ => 0))), (q_10, .inl (cA_10, 40, .inl (fun _ => 0))), (q_11, .inl (cA_11, 40, .inl (fun _ => 0)))] H := hP
  have hD : va_D A [(h0, .inr (3, [.int 0, .ref q_1, .ref q_2, .ref q_3, .ref q_4, .ref q_5, .ref q_6, .ref q_7, .ref q_8, .ref q_9, .ref q_10, .ref q_11, .null, .null, .null])), (q_1, .inl (cA_1, 40, .inl (fun _ => 0))), (q_2, .inl (cA_2, 40, .inl (fun _ => 0))), (q_3, .inl (cA_3, 40, .inl (fun _ => 0))), (q_4, .inl (cA_4, 40, .inl (fun _ => 0))), (q_5, .inl (cA_5, 40, .inl (fun _ => 0))), (q_6, .inl (cA_6, 40, .inl (fun _ => 0))), (q_7, .inl (cA_7, 40, .inl (fun _ => 0))), (q_8, .inl (cA_8, 40, .inl (fun _ => 0))), (q_9, .inl (cA_9, 40, .inl (fun _ => 0))), (q_10, .inl (cA_10, 40, .inl (fun _ => 0))), (q_11, .inl (cA_11, 40, .inl (fun _ => 0)))] := hD
  refine lv_aload_n hx hb dX2_init_92 rfl (lv_at hl 0 rfl) ?_
  refine lv_bipush (v := 40) hx hb dX2_init_93 (by decide) ?_
  refine va_newa (atype := .int) (N' := 40) (a0 := (40, .inl (fun _ => 0))) hx hb (hts (.arrayClass .int) (List.mem_cons_of_mem _ kw_1_60)) (ty := .int) rfl hK hP hD hS hA (fun _ => rfl) (by decide) (by decide) (by decide) (Nat.le_of_ble_eq_true rfl) (Nat.le_of_ble_eq_true rfl) dX2_init_95 (fun q_12 cA_12 H hK hP hD hS => ?_)
  have hP : va_P (dC, dI) vwCl [(h0, .inr (3, [.int 0, .ref q_1, .ref q_2, .ref q_3, .ref q_4, .ref q_5, .ref q_6, .ref q_7, .ref q_8, .ref q_9, .ref q_10, .ref q_11, .null, .null, .null])), (q_1, .inl (cA_1, 40, .inl (fun _ => 0))), (q_2, .inl (cA_2, 40, .inl (fun _ => 0))), (q_3, .inl (cA_3, 40, .inl (fun _ => 0))), (q_4, .inl (cA_4, 40, .inl (fun _ => 0))), (q_5, .inl (cA_5, 40, .inl (fun _ => 0))), (q_6, .inl (cA_6, 40, .inl (fun _ => 0))), (q_7, .inl (cA_7, 40, .inl (fun _ => 0))), (q_8, .inl (cA_8, 40, .inl (fun _ => 0))), (q_9, .inl (cA_9, 40, .inl (fun _ => 0))), (q_10, .inl (cA_10, 40, .inl (fun _ => 0))), (q_11, .inl (cA_11, 40, .inl (fun _ => 0))), (q_12, .inl (cA_12, 40, .inl (fun _ => 0)))] H := hP
  have hD : va_D A [(h0, .inr (3, [.int 0, .ref q_1, .ref q_2, .ref q_3, .ref q_4, .ref q_5, .ref q_6, .ref q_7, .ref q_8, .ref q_9, .ref q_10, .ref q_11, .null, .null, .null])), (q_1, .inl (cA_1, 40, .inl (fun _ => 0))), (q_2, .inl (cA_2, 40, .inl (fun _ => 0))), (q_3, .inl (cA_3, 40, .inl (fun _ => 0))), (q_4, .inl (cA_4, 40, .inl (fun _ => 0))), (q_5, .inl (cA_5, 40, .inl (fun _ => 0))), (q_6, .inl (cA_6, 40, .inl (fun _ => 0))), (q_7, .inl (cA_7, 40, .inl (fun _ => 0))), (q_8, .inl (cA_8, 40, .inl (fun _ => 0))), (q_9, .inl (cA_9, 40, .inl (fun _ => 0))), (q_10, .inl (cA_10, 40, .inl (fun _ => 0))), (q_11, .inl (cA_11, 40, .inl (fun _ => 0))), (q_12, .inl (cA_12, 40, .inl (fun _ => 0)))] := hD
  have hK : va_K (dC, dI) vwCl [(cA_1, .int), (cA_2, .int), (cA_3, .int), (cA_4, .int), (cA_5, .int), (cA_6, .int), (cA_7, .int), (cA_8, .int), (cA_9, .int), (cA_10, .int), (cA_11, .int), (cA_12, .int)] s := hK
  refine W.widen (k := 12) (n := 480) (Nat.le_of_ble_eq_true rfl) (Nat.le_of_ble_eq_true rfl) ?_
  refine va_putF (D := (dC, dI)) (ci := 3) (v := .ref q_12) (ty := .array .int) (C := RX2) (T := TX2) (N := 15) hx hb hts iCX2 tyX2 tyX2_ok nmX2 hown hK hP hD hS 0 rfl rfl 12 (by decide) (hts (.fieldLink RX2 45 "WalkingTown$People" "walked" "[I") (List.mem_cons_of_mem _ kw_1_97)) (fun _ h9 => h9) rfl hin rfl (by decide +kernel) rfl rfl (Nat.le_of_ble_eq_true rfl) dX2_init_97 (fun H locs hP hD hS => ?_)
  have hP : va_P (dC, dI) vwCl [(h0, .inr (3, [.int 0, .ref q_1, .ref q_2, .ref q_3, .ref q_4, .ref q_5, .ref q_6, .ref q_7, .ref q_8, .ref q_9, .ref q_10, .ref q_11, .ref q_12, .null, .null])), (q_1, .inl (cA_1, 40, .inl (fun _ => 0))), (q_2, .inl (cA_2, 40, .inl (fun _ => 0))), (q_3, .inl (cA_3, 40, .inl (fun _ => 0))), (q_4, .inl (cA_4, 40, .inl (fun _ => 0))), (q_5, .inl (cA_5, 40, .inl (fun _ => 0))), (q_6, .inl (cA_6, 40, .inl (fun _ => 0))), (q_7, .inl (cA_7, 40, .inl (fun _ => 0))), (q_8, .inl (cA_8, 40, .inl (fun _ => 0))), (q_9, .inl (cA_9, 40, .inl (fun _ => 0))), (q_10, .inl (cA_10, 40, .inl (fun _ => 0))), (q_11, .inl (cA_11, 40, .inl (fun _ => 0))), (q_12, .inl (cA_12, 40, .inl (fun _ => 0)))] H := hP
  have hD : va_D A [(h0, .inr (3, [.int 0, .ref q_1, .ref q_2, .ref q_3, .ref q_4, .ref q_5, .ref q_6, .ref q_7, .ref q_8, .ref q_9, .ref q_10, .ref q_11, .ref q_12, .null, .null])), (q_1, .inl (cA_1, 40, .inl (fun _ => 0))), (q_2, .inl (cA_2, 40, .inl (fun _ => 0))), (q_3, .inl (cA_3, 40, .inl (fun _ => 0))), (q_4, .inl (cA_4, 40, .inl (fun _ => 0))), (q_5, .inl (cA_5, 40, .inl (fun _ => 0))), (q_6, .inl (cA_6, 40, .inl (fun _ => 0))), (q_7, .inl (cA_7, 40, .inl (fun _ => 0))), (q_8, .inl (cA_8, 40, .inl (fun _ => 0))), (q_9, .inl (cA_9, 40, .inl (fun _ => 0))), (q_10, .inl (cA_10, 40, .inl (fun _ => 0))), (q_11, .inl (cA_11, 40, .inl (fun _ => 0))), (q_12, .inl (cA_12, 40, .inl (fun _ => 0)))] := hD
  refine lv_aload_n hx hb dX2_init_100 rfl (lv_at hl 0 rfl) ?_
  refine lv_bipush (v := 40) hx hb dX2_init_101 (by decide) ?_
  refine va_newa (atype := .int) (N' := 40) (a0 := (40, .inl (fun _ => 0))) hx hb (hts (.arrayClass .int) (List.mem_cons_of_mem _ kw_1_60)) (ty := .int) rfl hK hP hD hS hA (fun _ => rfl) (by decide) (by decide) (by decide) (Nat.le_of_ble_eq_true rfl) (Nat.le_of_ble_eq_true rfl) dX2_init_103 (fun q_13 cA_13 H hK hP hD hS => ?_)
  have hP : va_P (dC, dI) vwCl [(h0, .inr (3, [.int 0, .ref q_1, .ref q_2, .ref q_3, .ref q_4, .ref q_5, .ref q_6, .ref q_7, .ref q_8, .ref q_9, .ref q_10, .ref q_11, .ref q_12, .null, .null])), (q_1, .inl (cA_1, 40, .inl (fun _ => 0))), (q_2, .inl (cA_2, 40, .inl (fun _ => 0))), (q_3, .inl (cA_3, 40, .inl (fun _ => 0))), (q_4, .inl (cA_4, 40, .inl (fun _ => 0))), (q_5, .inl (cA_5, 40, .inl (fun _ => 0))), (q_6, .inl (cA_6, 40, .inl (fun _ => 0))), (q_7, .inl (cA_7, 40, .inl (fun _ => 0))), (q_8, .inl (cA_8, 40, .inl (fun _ => 0))), (q_9, .inl (cA_9, 40, .inl (fun _ => 0))), (q_10, .inl (cA_10, 40, .inl (fun _ => 0))), (q_11, .inl (cA_11, 40, .inl (fun _ => 0))), (q_12, .inl (cA_12, 40, .inl (fun _ => 0))), (q_13, .inl (cA_13, 40, .inl (fun _ => 0)))] H := hP
  have hD : va_D A [(h0, .inr (3, [.int 0, .ref q_1, .ref q_2, .ref q_3, .ref q_4, .ref q_5, .ref q_6, .ref q_7, .ref q_8, .ref q_9, .ref q_10, .ref q_11, .ref q_12, .null, .null])), (q_1, .inl (cA_1, 40, .inl (fun _ => 0))), (q_2, .inl (cA_2, 40, .inl (fun _ => 0))), (q_3, .inl (cA_3, 40, .inl (fun _ => 0))), (q_4, .inl (cA_4, 40, .inl (fun _ => 0))), (q_5, .inl (cA_5, 40, .inl (fun _ => 0))), (q_6, .inl (cA_6, 40, .inl (fun _ => 0))), (q_7, .inl (cA_7, 40, .inl (fun _ => 0))), (q_8, .inl (cA_8, 40, .inl (fun _ => 0))), (q_9, .inl (cA_9, 40, .inl (fun _ => 0))), (q_10, .inl (cA_10, 40, .inl (fun _ => 0))), (q_11, .inl (cA_11, 40, .inl (fun _ => 0))), (q_12, .inl (cA_12, 40, .inl (fun _ => 0))), (q_13, .inl (cA_13, 40, .inl (fun _ => 0)))] := hD
  have hK : va_K (dC, dI) vwCl [(cA_1, .int), (cA_2, .int), (cA_3, .int), (cA_4, .int), (cA_5, .int), (cA_6, .int), (cA_7, .int), (cA_8, .int), (cA_9, .int), (cA_10, .int), (cA_11, .int), (cA_12, .int), (cA_13, .int)] s := hK
  refine W.widen (k := 13) (n := 520) (Nat.le_of_ble_eq_true rfl) (Nat.le_of_ble_eq_true rfl) ?_
  refine va_putF (D := (dC, dI)) (ci := 3) (v := .ref q_13) (ty := .array .int) (C := RX2) (T := TX2) (N := 15) hx hb hts iCX2 tyX2 tyX2_ok nmX2 hown hK hP hD hS 0 rfl rfl 13 (by decide) (hts (.fieldLink RX2 48 "WalkingTown$People" "rides" "[I") (List.mem_cons_of_mem _ kw_1_99)) (fun _ h9 => h9) rfl hin rfl (by decide +kernel) rfl rfl (Nat.le_of_ble_eq_true rfl) dX2_init_105 (fun H locs hP hD hS => ?_)
  have hP : va_P (dC, dI) vwCl [(h0, .inr (3, [.int 0, .ref q_1, .ref q_2, .ref q_3, .ref q_4, .ref q_5, .ref q_6, .ref q_7, .ref q_8, .ref q_9, .ref q_10, .ref q_11, .ref q_12, .ref q_13, .null])), (q_1, .inl (cA_1, 40, .inl (fun _ => 0))), (q_2, .inl (cA_2, 40, .inl (fun _ => 0))), (q_3, .inl (cA_3, 40, .inl (fun _ => 0))), (q_4, .inl (cA_4, 40, .inl (fun _ => 0))), (q_5, .inl (cA_5, 40, .inl (fun _ => 0))), (q_6, .inl (cA_6, 40, .inl (fun _ => 0))), (q_7, .inl (cA_7, 40, .inl (fun _ => 0))), (q_8, .inl (cA_8, 40, .inl (fun _ => 0))), (q_9, .inl (cA_9, 40, .inl (fun _ => 0))), (q_10, .inl (cA_10, 40, .inl (fun _ => 0))), (q_11, .inl (cA_11, 40, .inl (fun _ => 0))), (q_12, .inl (cA_12, 40, .inl (fun _ => 0))), (q_13, .inl (cA_13, 40, .inl (fun _ => 0)))] H := hP
  have hD : va_D A [(h0, .inr (3, [.int 0, .ref q_1, .ref q_2, .ref q_3, .ref q_4, .ref q_5, .ref q_6, .ref q_7, .ref q_8, .ref q_9, .ref q_10, .ref q_11, .ref q_12, .ref q_13, .null])), (q_1, .inl (cA_1, 40, .inl (fun _ => 0))), (q_2, .inl (cA_2, 40, .inl (fun _ => 0))), (q_3, .inl (cA_3, 40, .inl (fun _ => 0))), (q_4, .inl (cA_4, 40, .inl (fun _ => 0))), (q_5, .inl (cA_5, 40, .inl (fun _ => 0))), (q_6, .inl (cA_6, 40, .inl (fun _ => 0))), (q_7, .inl (cA_7, 40, .inl (fun _ => 0))), (q_8, .inl (cA_8, 40, .inl (fun _ => 0))), (q_9, .inl (cA_9, 40, .inl (fun _ => 0))), (q_10, .inl (cA_10, 40, .inl (fun _ => 0))), (q_11, .inl (cA_11, 40, .inl (fun _ => 0))), (q_12, .inl (cA_12, 40, .inl (fun _ => 0))), (q_13, .inl (cA_13, 40, .inl (fun _ => 0)))] := hD
  refine lv_aload_n hx hb dX2_init_108 rfl (lv_at hl 0 rfl) ?_
  refine lv_bipush (v := 40) hx hb dX2_init_109 (by decide) ?_
  refine va_newa (atype := .int) (N' := 40) (a0 := (40, .inl (fun _ => 0))) hx hb (hts (.arrayClass .int) (List.mem_cons_of_mem _ kw_1_60)) (ty := .int) rfl hK hP hD hS hA (fun _ => rfl) (by decide) (by decide) (by decide) (Nat.le_of_ble_eq_true rfl) (Nat.le_of_ble_eq_true rfl) dX2_init_111 (fun q_14 cA_14 H hK hP hD hS => ?_)
  have hP : va_P (dC, dI) vwCl [(h0, .inr (3, [.int 0, .ref q_1, .ref q_2, .ref q_3, .ref q_4, .ref q_5, .ref q_6, .ref q_7, .ref q_8, .ref q_9, .ref q_10, .ref q_11, .ref q_12, .ref q_13, .null])), (q_1, .inl (cA_1, 40, .inl (fun _ => 0))), (q_2, .inl (cA_2, 40, .inl (fun _ => 0))), (q_3, .inl (cA_3, 40, .inl (fun _ => 0))), (q_4, .inl (cA_4, 40, .inl (fun _ => 0))), (q_5, .inl (cA_5, 40, .inl (fun _ => 0))), (q_6, .inl (cA_6, 40, .inl (fun _ => 0))), (q_7, .inl (cA_7, 40, .inl (fun _ => 0))), (q_8, .inl (cA_8, 40, .inl (fun _ => 0))), (q_9, .inl (cA_9, 40, .inl (fun _ => 0))), (q_10, .inl (cA_10, 40, .inl (fun _ => 0))), (q_11, .inl (cA_11, 40, .inl (fun _ => 0))), (q_12, .inl (cA_12, 40, .inl (fun _ => 0))), (q_13, .inl (cA_13, 40, .inl (fun _ => 0))), (q_14, .inl (cA_14, 40, .inl (fun _ => 0)))] H := hP
  have hD : va_D A [(h0, .inr (3, [.int 0, .ref q_1, .ref q_2, .ref q_3, .ref q_4, .ref q_5, .ref q_6, .ref q_7, .ref q_8, .ref q_9, .ref q_10, .ref q_11, .ref q_12, .ref q_13, .null])), (q_1, .inl (cA_1, 40, .inl (fun _ => 0))), (q_2, .inl (cA_2, 40, .inl (fun _ => 0))), (q_3, .inl (cA_3, 40, .inl (fun _ => 0))), (q_4, .inl (cA_4, 40, .inl (fun _ => 0))), (q_5, .inl (cA_5, 40, .inl (fun _ => 0))), (q_6, .inl (cA_6, 40, .inl (fun _ => 0))), (q_7, .inl (cA_7, 40, .inl (fun _ => 0))), (q_8, .inl (cA_8, 40, .inl (fun _ => 0))), (q_9, .inl (cA_9, 40, .inl (fun _ => 0))), (q_10, .inl (cA_10, 40, .inl (fun _ => 0))), (q_11, .inl (cA_11, 40, .inl (fun _ => 0))), (q_12, .inl (cA_12, 40, .inl (fun _ => 0))), (q_13, .inl (cA_13, 40, .inl (fun _ => 0))), (q_14, .inl (cA_14, 40, .inl (fun _ => 0)))] := hD
  have hK : va_K (dC, dI) vwCl [(cA_1, .int), (cA_2, .int), (cA_3, .int), (cA_4, .int), (cA_5, .int), (cA_6, .int), (cA_7, .int), (cA_8, .int), (cA_9, .int), (cA_10, .int), (cA_11, .int), (cA_12, .int), (cA_13, .int), (cA_14, .int)] s := hK
  refine W.widen (k := 14) (n := 560) (Nat.le_of_ble_eq_true rfl) (Nat.le_of_ble_eq_true rfl) ?_
  refine va_putF (D := (dC, dI)) (ci := 3) (v := .ref q_14) (ty := .array .int) (C := RX2) (T := TX2) (N := 15) hx hb hts iCX2 tyX2 tyX2_ok nmX2 hown hK hP hD hS 0 rfl rfl 14 (by decide) (hts (.fieldLink RX2 51 "WalkingTown$People" "walkedEver" "[I") (List.mem_cons_of_mem _ kw_1_101)) (fun _ h9 => h9) rfl hin rfl (by decide +kernel) rfl rfl (Nat.le_of_ble_eq_true rfl) dX2_init_113 (fun H locs hP hD hS => ?_)
  have hP : va_P (dC, dI) vwCl [(h0, .inr (3, [.int 0, .ref q_1, .ref q_2, .ref q_3, .ref q_4, .ref q_5, .ref q_6, .ref q_7, .ref q_8, .ref q_9, .ref q_10, .ref q_11, .ref q_12, .ref q_13, .ref q_14])), (q_1, .inl (cA_1, 40, .inl (fun _ => 0))), (q_2, .inl (cA_2, 40, .inl (fun _ => 0))), (q_3, .inl (cA_3, 40, .inl (fun _ => 0))), (q_4, .inl (cA_4, 40, .inl (fun _ => 0))), (q_5, .inl (cA_5, 40, .inl (fun _ => 0))), (q_6, .inl (cA_6, 40, .inl (fun _ => 0))), (q_7, .inl (cA_7, 40, .inl (fun _ => 0))), (q_8, .inl (cA_8, 40, .inl (fun _ => 0))), (q_9, .inl (cA_9, 40, .inl (fun _ => 0))), (q_10, .inl (cA_10, 40, .inl (fun _ => 0))), (q_11, .inl (cA_11, 40, .inl (fun _ => 0))), (q_12, .inl (cA_12, 40, .inl (fun _ => 0))), (q_13, .inl (cA_13, 40, .inl (fun _ => 0))), (q_14, .inl (cA_14, 40, .inl (fun _ => 0)))] H := hP
  have hD : va_D A [(h0, .inr (3, [.int 0, .ref q_1, .ref q_2, .ref q_3, .ref q_4, .ref q_5, .ref q_6, .ref q_7, .ref q_8, .ref q_9, .ref q_10, .ref q_11, .ref q_12, .ref q_13, .ref q_14])), (q_1, .inl (cA_1, 40, .inl (fun _ => 0))), (q_2, .inl (cA_2, 40, .inl (fun _ => 0))), (q_3, .inl (cA_3, 40, .inl (fun _ => 0))), (q_4, .inl (cA_4, 40, .inl (fun _ => 0))), (q_5, .inl (cA_5, 40, .inl (fun _ => 0))), (q_6, .inl (cA_6, 40, .inl (fun _ => 0))), (q_7, .inl (cA_7, 40, .inl (fun _ => 0))), (q_8, .inl (cA_8, 40, .inl (fun _ => 0))), (q_9, .inl (cA_9, 40, .inl (fun _ => 0))), (q_10, .inl (cA_10, 40, .inl (fun _ => 0))), (q_11, .inl (cA_11, 40, .inl (fun _ => 0))), (q_12, .inl (cA_12, 40, .inl (fun _ => 0))), (q_13, .inl (cA_13, 40, .inl (fun _ => 0))), (q_14, .inl (cA_14, 40, .inl (fun _ => 0)))] := hD
  have hP9 := hP.sub (ws' := [(h0, .inr (3, [.int 0, .ref q_1, .ref q_2, .ref q_3, .ref q_4, .ref q_5, .ref q_6, .ref q_7, .ref q_8, .ref q_9, .ref q_10, .ref q_11, .ref q_12, .ref q_13, .ref q_14])), (q_1, .inl (cA_1, 40, .inl (fun _ => 0))), (q_2, .inl (cA_2, 40, .inl (fun _ => 0))), (q_3, .inl (cA_3, 40, .inl (fun _ => 0))), (q_4, .inl (cA_4, 40, .inl (fun _ => 0))), (q_5, .inl (cA_5, 40, .inl (fun _ => 0))), (q_6, .inl (cA_6, 40, .inl (fun _ => 0))), (q_7, .inl (cA_7, 40, .inl (fun _ => 0))), (q_8, .inl (cA_8, 40, .inl (fun _ => 0))), (q_9, .inl (cA_9, 40, .inl (fun _ => 0))), (q_10, .inl (cA_10, 40, .inl (fun _ => 0))), (q_11, .inl (cA_11, 40, .inl (fun _ => 0))), (q_12, .inl (cA_12, 40, .inl (fun _ => 0))), (q_13, .inl (cA_13, 40, .inl (fun _ => 0))), (q_14, .inl (cA_14, 40, .inl (fun _ => 0)))]) [0, 1, 2, 3, 4, 5, 6, 7, 8, 9, 10, 11, 12, 13, 14] rfl
  have hD9 := hD.sub (ws' := [(h0, .inr (3, [.int 0, .ref q_1, .ref q_2, .ref q_3, .ref q_4, .ref q_5, .ref q_6, .ref q_7, .ref q_8, .ref q_9, .ref q_10, .ref q_11, .ref q_12, .ref q_13, .ref q_14])), (q_1, .inl (cA_1, 40, .inl (fun _ => 0))), (q_2, .inl (cA_2, 40, .inl (fun _ => 0))), (q_3, .inl (cA_3, 40, .inl (fun _ => 0))), (q_4, .inl (cA_4, 40, .inl (fun _ => 0))), (q_5, .inl (cA_5, 40, .inl (fun _ => 0))), (q_6, .inl (cA_6, 40, .inl (fun _ => 0))), (q_7, .inl (cA_7, 40, .inl (fun _ => 0))), (q_8, .inl (cA_8, 40, .inl (fun _ => 0))), (q_9, .inl (cA_9, 40, .inl (fun _ => 0))), (q_10, .inl (cA_10, 40, .inl (fun _ => 0))), (q_11, .inl (cA_11, 40, .inl (fun _ => 0))), (q_12, .inl (cA_12, 40, .inl (fun _ => 0))), (q_13, .inl (cA_13, 40, .inl (fun _ => 0))), (q_14, .inl (cA_14, 40, .inl (fun _ => 0)))]) [0, 1, 2, 3, 4, 5, 6, 7, 8, 9, 10, 11, 12, 13, 14] (by decide) rfl
  have hK9 := hK.sub (tys' := [(cA_1, .int), (cA_2, .int), (cA_3, .int), (cA_4, .int), (cA_5, .int), (cA_6, .int), (cA_7, .int), (cA_8, .int), (cA_9, .int), (cA_10, .int), (cA_11, .int), (cA_12, .int), (cA_13, .int), (cA_14, .int)]) [0, 1, 2, 3, 4, 5, 6, 7, 8, 9, 10, 11, 12, 13] rfl
  refine W.widen (k := 14) (n := 560) (Nat.le_of_ble_eq_true rfl) (Nat.le_of_ble_eq_true rfl) ?_
  exact W.vret hx hb hr (fun t ht hW => ⟨⟨(), rfl, trivial, ⟨q_1, cA_1, q_2, cA_2, q_3, cA_3, q_4, cA_4, q_5, cA_5, q_6, cA_6, q_7, cA_7, q_8, cA_8, q_9, cA_9, q_10, cA_10, q_11, cA_11, q_12, cA_12, q_13, cA_13, q_14, cA_14, by rw [ht]; exact hP9, va_K.moved hW.alike hK9, hD9⟩⟩, hS.F ht⟩) hS.2.2 dX2_init_116
set_option maxHeartbeats 4000000 in
set_option maxRecDepth 100000 in
theorem x_Trips_init (l : Launch) (dC : Nat → ClassId) (dI : Nat → Nat → Nat) (sz : Nat) (h0 : Nat) : Met l yX8_init (.code yX8_init cX8_init 1 none :: lw_good) ({ frames := 2, cells := 8, slots := 640, locals := 60 }) (va_Pc [.ref h0] (fun U => U.heap.size = sz ∧ va_P (dC, dI) vwCl [(h0, .inr (8, [.int 0, .null, .null, .null, .null, .null, .null, .null, .null]))] U.heap ∧ va_K (dC, dI) vwCl [] U ∧ va_D (fun _ => True) [(h0, .inr (8, [.int 0, .null, .null, .null, .null, .null, .null, .null, .null]))])) (va_Qv (fun (_ : Unit) => True) (fun (_ : Unit) (t : State) => ∃ (b1 : Nat), ∃ (k1 : ClassId), ∃ (b2 : Nat), ∃ (k2 : ClassId), ∃ (b3 : Nat), ∃ (k3 : ClassId), ∃ (b4 : Nat), ∃ (k4 : ClassId), ∃ (b5 : Nat), ∃ (k5 : ClassId), ∃ (b6 : Nat), ∃ (k6 : ClassId), ∃ (b7 : Nat), ∃ (k7 : ClassId), ∃ (b8 : Nat), ∃ (k8 : ClassId), va_P (dC, dI) vwCl [(h0, .inr (8, [.int 0, .ref b1, .ref b2, .ref b3, .ref b4, .ref b5, .ref b6, .ref b7, .ref b8])), (b1, .inl (k1, 80, .inl (fun _ => 0))), (b2, .inl (k2, 80, .inl (fun _ => 0))), (b3, .inl (k3, 80, .inl (fun _ => 0))), (b4, .inl (k4, 80, .inl (fun _ => 0))), (b5, .inl (k5, 80, .inl (fun _ => 0))), (b6, .inl (k6, 80, .inl (fun _ => 0))), (b7, .inl (k7, 80, .inl (fun _ => 0))), (b8, .inl (k8, 80, .inl (fun _ => 0)))] t.heap ∧ va_K (dC, dI) vwCl [(k1, .int), (k2, .int), (k3, .int), (k4, .int), (k5, .int), (k6, .int), (k7, .int), (k8, .int)] t ∧ va_D (va_A [(h0, .inr (8, [.int 0, .null, .null, .null, .null, .null, .null, .null, .null]))] sz) [(h0, .inr (8, [.int 0, .ref b1, .ref b2, .ref b3, .ref b4, .ref b5, .ref b6, .ref b7, .ref b8])), (b1, .inl (k1, 80, .inl (fun _ => 0))), (b2, .inl (k2, 80, .inl (fun _ => 0))), (b3, .inl (k3, 80, .inl (fun _ => 0))), (b4, .inl (k4, 80, .inl (fun _ => 0))), (b5, .inl (k5, 80, .inl (fun _ => 0))), (b6, .inl (k6, 80, .inl (fun _ => 0))), (b7, .inl (k7, 80, .inl (fun _ => 0))), (b8, .inl (k8, 80, .inl (fun _ => 0)))]) (va_A [(h0, .inr (8, [.int 0, .null, .null, .null, .null, .null, .null, .null, .null]))] sz)) 8 640 (va_A [(h0, .inr (8, [.int 0, .null, .null, .null, .null, .null, .null, .null, .null]))] sz) := by
  refine Met.ofW (cc := cX8_init) (maxL := 1) (ret := none) (by decide) rfl ?_
  intro p e s m args below meth c s₁ B hml hv
  obtain ⟨rfl, hsz, hP, hK, hD0⟩ := hv
  have hx := B.exec
  have hb := B.bytes
  have hr := B.returns
  have hts := atoms_spec (ws := (.code yX8_init cX8_init 1 none :: lw_good)) B.pre
  have hown : s.vm.findClass RX8 = some m.cls := findClass_of_methodNamed B.named
  have hlocks := B.notSynchronized
  have hin : meth.name = "<init>" := (name_of_methodNamed B.named B.method).1
  subst hsz
  have hD := hD0.self (sz := s.heap.size)
  generalize hAe : va_A [(h0, .inr (8, [.int 0, .null, .null, .null, .null, .null, .null, .null, .null]))] s.heap.size = A at hD ⊢
  have hA : ∀ q : Nat, s.heap.size ≤ q → A q := fun q h => by rw [← hAe]; exact Or.inr h
  have hS : va_S A s.heap s.heap [] := va_S.rf
  have hP : va_P (dC, dI) vwCl [(h0, .inr (8, [.int 0, .null, .null, .null, .null, .null, .null, .null, .null]))] s.heap := hP
  have hl := lv_entry ([.ref h0]) (n := 1) (Nat.le_of_ble_eq_true rfl)
  rw [lg_entry_eq]
  generalize (lg_sl ([.ref h0]) ++ List.replicate (1 - (lg_sl ([.ref h0])).length) Slot.unset).toArray = ls at hl ⊢
  have hl : lv_has ls 1 [(0, .ref h0)] := hl
  refine lv_aload_n hx hb dX8_init_0 rfl (lv_at hl 0 rfl) ?_
  refine W.objInit hx hb hown (hts (.methodLink RX8 3 objectInit) (List.mem_cons_of_mem _ kw_1_187)) (hts (.instanceMethod objectInit) (List.mem_cons_of_mem _ kw_1_38)) (hts (.code objectInit ⟨#[0xb1]⟩ 1 none) (List.mem_cons_of_mem _ kw_1_39)) rfl (by rw [hml]; exact hl.1) rfl dX8_init_1 (Nat.le_of_ble_eq_true rfl) (Nat.le_of_ble_eq_true rfl) ?_
  refine W.eq (g2 := F0 m 4 ls []) rfl ?_
  refine lv_aload_n hx hb dX8_init_4 rfl (lv_at hl 0 rfl) ?_
  refine lv_bipush (v := 80) hx hb dX8_init_5 (by decide) ?_
  refine va_newa (atype := .int) (N' := 80) (a0 := (80, .inl (fun _ => 0))) hx hb (hts (.arrayClass .int) (List.mem_cons_of_mem _ kw_1_60)) (ty := .int) rfl hK hP hD hS hA (fun _ => rfl) (by decide) (by decide) (by decide) (Nat.le_of_ble_eq_true rfl) (Nat.le_of_ble_eq_true rfl) dX8_init_7 (fun q_1 cA_1 H hK hP hD hS => ?_)
  have hP : va_P (dC, dI) vwCl [(h0, .inr (8, [.int 0, .null, .null, .null, .null, .null, .null, .null, .null])), (q_1, .inl (cA_1, 80, .inl (fun _ => 0)))] H := hP
  have hD : va_D A [(h0, .inr (8, [.int 0, .null, .null, .null, .null, .null, .null, .null, .null])), (q_1, .inl (cA_1, 80, .inl (fun _ => 0)))] := hD
  have hK : va_K (dC, dI) vwCl [(cA_1, .int)] s := hK
  refine W.widen (k := 1) (n := 80) (Nat.le_of_ble_eq_true rfl) (Nat.le_of_ble_eq_true rfl) ?_
  refine va_putF (D := (dC, dI)) (ci := 8) (v := .ref q_1) (ty := .array .int) (C := RX8) (T := TX8) (N := 9) hx hb hts iCX8 tyX8 tyX8_ok nmX8 hown hK hP hD hS 0 rfl rfl 1 (by decide) (hts (.fieldLink RX8 11 "WalkingTown$Trips" "wheel" "[I") (List.mem_cons_of_mem _ kw_1_192)) (fun _ h9 => h9) rfl hin rfl (by decide +kernel) rfl rfl (Nat.le_of_ble_eq_true rfl) dX8_init_9 (fun H locs hP hD hS => ?_)
  have hP : va_P (dC, dI) vwCl [(h0, .inr (8, [.int 0, .ref q_1, .null, .null, .null, .null, .null, .null, .null])), (q_1, .inl (cA_1, 80, .inl (fun _ => 0)))] H := hP
  have hD : va_D A [(h0, .inr (8, [.int 0, .ref q_1, .null, .null, .null, .null, .null, .null, .null])), (q_1, .inl (cA_1, 80, .inl (fun _ => 0)))] := hD
  refine lv_aload_n hx hb dX8_init_12 rfl (lv_at hl 0 rfl) ?_
  refine lv_bipush (v := 80) hx hb dX8_init_13 (by decide) ?_
  refine va_newa (atype := .int) (N' := 80) (a0 := (80, .inl (fun _ => 0))) hx hb (hts (.arrayClass .int) (List.mem_cons_of_mem _ kw_1_60)) (ty := .int) rfl hK hP hD hS hA (fun _ => rfl) (by decide) (by decide) (by decide) (Nat.le_of_ble_eq_true rfl) (Nat.le_of_ble_eq_true rfl) dX8_init_15 (fun q_2 cA_2 H hK hP hD hS => ?_)
  have hP : va_P (dC, dI) vwCl [(h0, .inr (8, [.int 0, .ref q_1, .null, .null, .null, .null, .null, .null, .null])), (q_1, .inl (cA_1, 80, .inl (fun _ => 0))), (q_2, .inl (cA_2, 80, .inl (fun _ => 0)))] H := hP
  have hD : va_D A [(h0, .inr (8, [.int 0, .ref q_1, .null, .null, .null, .null, .null, .null, .null])), (q_1, .inl (cA_1, 80, .inl (fun _ => 0))), (q_2, .inl (cA_2, 80, .inl (fun _ => 0)))] := hD
  have hK : va_K (dC, dI) vwCl [(cA_1, .int), (cA_2, .int)] s := hK
  refine W.widen (k := 2) (n := 160) (Nat.le_of_ble_eq_true rfl) (Nat.le_of_ble_eq_true rfl) ?_
  refine va_putF (D := (dC, dI)) (ci := 8) (v := .ref q_2) (ty := .array .int) (C := RX8) (T := TX8) (N := 9) hx hb hts iCX8 tyX8 tyX8_ok nmX8 hown hK hP hD hS 0 rfl rfl 2 (by decide) (hts (.fieldLink RX8 15 "WalkingTown$Trips" "from" "[I") (List.mem_cons_of_mem _ kw_1_196)) (fun _ h9 => h9) rfl hin rfl (by decide +kernel) rfl rfl (Nat.le_of_ble_eq_true rfl) dX8_init_17 (fun H locs hP hD hS => ?_)
  have hP : va_P (dC, dI) vwCl [(h0, .inr (8, [.int 0, .ref q_1, .ref q_2, .null, .null, .null, .null, .null, .null])), (q_1, .inl (cA_1, 80, .inl (fun _ => 0))), (q_2, .inl (cA_2, 80, .inl (fun _ => 0)))] H := hP
  have hD : va_D A [(h0, .inr (8, [.int 0, .ref q_1, .ref q_2, .null, .null, .null, .null, .null, .null])), (q_1, .inl (cA_1, 80, .inl (fun _ => 0))), (q_2, .inl (cA_2, 80, .inl (fun _ => 0)))] := hD
  refine lv_aload_n hx hb dX8_init_20 rfl (lv_at hl 0 rfl) ?_
  refine lv_bipush (v := 80) hx hb dX8_init_21 (by decide) ?_
  refine va_newa (atype := .int) (N' := 80) (a0 := (80, .inl (fun _ => 0))) hx hb (hts (.arrayClass .int) (List.mem_cons_of_mem _ kw_1_60)) (ty := .int) rfl hK hP hD hS hA (fun _ => rfl) (by decide) (by decide) (by decide) (Nat.le_of_ble_eq_true rfl) (Nat.le_of_ble_eq_true rfl) dX8_init_23 (fun q_3 cA_3 H hK hP hD hS => ?_)
  have hP : va_P (dC, dI) vwCl [(h0, .inr (8, [.int 0, .ref q_1, .ref q_2, .null, .null, .null, .null, .null, .null])), (q_1, .inl (cA_1, 80, .inl (fun _ => 0))), (q_2, .inl (cA_2, 80, .inl (fun _ => 0))), (q_3, .inl (cA_3, 80, .inl (fun _ => 0)))] H := hP
  have hD : va_D A [(h0, .inr (8, [.int 0, .ref q_1, .ref q_2, .null, .null, .null, .null, .null, .null])), (q_1, .inl (cA_1, 80, .inl (fun _ => 0))), (q_2, .inl (cA_2, 80, .inl (fun _ => 0))), (q_3, .inl (cA_3, 80, .inl (fun _ => 0)))] := hD
  have hK : va_K (dC, dI) vwCl [(cA_1, .int), (cA_2, .int), (cA_3, .int)] s := hK
  refine W.widen (k := 3) (n := 240) (Nat.le_of_ble_eq_true rfl) (Nat.le_of_ble_eq_true rfl) ?_
  refine va_putF (D := (dC, dI)) (ci := 8) (v := .ref q_3) (ty := .array .int) (C := RX8) (T := TX8) (N := 9) hx hb hts iCX8 tyX8 tyX8_ok nmX8 hown hK hP hD hS 0 rfl rfl 3 (by decide) (hts (.fieldLink RX8 18 "WalkingTown$Trips" "to" "[I") (List.mem_cons_of_mem _ kw_1_200)) (fun _ h9 => h9) rfl hin rfl (by decide +kernel) rfl rfl (Nat.le_of_ble_eq_true rfl) dX8_init_25 (fun H locs hP hD hS => ?_)
  have hP : va_P (dC, dI) vwCl [(h0, .inr (8, [.int 0, .ref q_1, .ref q_2, .ref q_3, .null, .null, .null, .null, .null])), (q_1, .inl (cA_1, 80, .inl (fun _ => 0))), (q_2, .inl (cA_2, 80, .inl (fun _ => 0))), (q_3, .inl (cA_3, 80, .inl (fun _ => 0)))] H := hP
  have hD : va_D A [(h0, .inr (8, [.int 0, .ref q_1, .ref q_2, .ref q_3, .null, .null, .null, .null, .null])), (q_1, .inl (cA_1, 80, .inl (fun _ => 0))), (q_2, .inl (cA_2, 80, .inl (fun _ => 0))), (q_3, .inl (cA_3, 80, .inl (fun _ => 0)))] := hD
  refine lv_aload_n hx hb dX8_init_28 rfl (lv_at hl 0 rfl) ?_
  refine lv_bipush (v := 80) hx hb dX8_init_29 (by decide) ?_
  refine va_newa (atype := .int) (N' := 80) (a0 := (80, .inl (fun _ => 0))) hx hb (hts (.arrayClass .int) (List.mem_cons_of_mem _ kw_1_60)) (ty := .int) rfl hK hP hD hS hA (fun _ => rfl) (by decide) (by decide) (by decide) (Nat.le_of_ble_eq_true rfl) (Nat.le_of_ble_eq_true rfl) dX8_init_31 (fun q_4 cA_4 H hK hP hD hS => ?_)
  have hP : va_P (dC, dI) vwCl [(h0, .inr (8, [.int 0, .ref q_1, .ref q_2, .ref q_3, .null, .null, .null, .null, .null])), (q_1, .inl (cA_1, 80, .inl (fun _ => 0))), (q_2, .inl (cA_2, 80, .inl (fun _ => 0))), (q_3, .inl (cA_3, 80, .inl (fun _ => 0))), (q_4, .inl (cA_4, 80, .inl (fun _ => 0)))] H := hP
  have hD : va_D A [(h0, .inr (8, [.int 0, .ref q_1, .ref q_2, .ref q_3, .null, .null, .null, .null, .null])), (q_1, .inl (cA_1, 80, .inl (fun _ => 0))), (q_2, .inl (cA_2, 80, .inl (fun _ => 0))), (q_3, .inl (cA_3, 80, .inl (fun _ => 0))), (q_4, .inl (cA_4, 80, .inl (fun _ => 0)))] := hD
  have hK : va_K (dC, dI) vwCl [(cA_1, .int), (cA_2, .int), (cA_3, .int), (cA_4, .int)] s := hK
  refine W.widen (k := 4) (n := 320) (Nat.le_of_ble_eq_true rfl) (Nat.le_of_ble_eq_true rfl) ?_
  refine va_putF (D := (dC, dI)) (ci := 8) (v := .ref q_4) (ty := .array .int) (C := RX8) (T := TX8) (N := 9) hx hb hts iCX8 tyX8 tyX8_ok nmX8 hown hK hP hD hS 0 rfl rfl 4 (by decide) (hts (.fieldLink RX8 21 "WalkingTown$Trips" "minute" "[I") (List.mem_cons_of_mem _ kw_1_204)) (fun _ h9 => h9) rfl hin rfl (by decide +kernel) rfl rfl (Nat.le_of_ble_eq_true rfl) dX8_init_33 (fun H locs hP hD hS => ?_)
  have hP : va_P (dC, dI) vwCl [(h0, .inr (8, [.int 0, .ref q_1, .ref q_2, .ref q_3, .ref q_4, .null, .null, .null, .null])), (q_1, .inl (cA_1, 80, .inl (fun _ => 0))), (q_2, .inl (cA_2, 80, .inl (fun _ => 0))), (q_3, .inl (cA_3, 80, .inl (fun _ => 0))), (q_4, .inl (cA_4, 80, .inl (fun _ => 0)))] H := hP
  have hD : va_D A [(h0, .inr (8, [.int 0, .ref q_1, .ref q_2, .ref q_3, .ref q_4, .null, .null, .null, .null])), (q_1, .inl (cA_1, 80, .inl (fun _ => 0))), (q_2, .inl (cA_2, 80, .inl (fun _ => 0))), (q_3, .inl (cA_3, 80, .inl (fun _ => 0))), (q_4, .inl (cA_4, 80, .inl (fun _ => 0)))] := hD
  refine lv_aload_n hx hb dX8_init_36 rfl (lv_at hl 0 rfl) ?_
  refine lv_bipush (v := 80) hx hb dX8_init_37 (by decide) ?_
  refine va_newa (atype := .int) (N' := 80) (a0 := (80, .inl (fun _ => 0))) hx hb (hts (.arrayClass .int) (List.mem_cons_of_mem _ kw_1_60)) (ty := .int) rfl hK hP hD hS hA (fun _ => rfl) (by decide) (by decide) (by decide) (Nat.le_of_ble_eq_true rfl) (Nat.le_of_ble_eq_true rfl) dX8_init_39 (fun q_5 cA_5 H hK hP hD hS => ?_)
  have hP : va_P (dC, dI) vwCl [(h0, .inr (8, [.int 0, .ref q_1, .ref q_2, .ref q_3, .ref q_4, .null, .null, .null, .null])), (q_1, .inl (cA_1, 80, .inl (fun _ => 0))), (q_2, .inl (cA_2, 80, .inl (fun _ => 0))), (q_3, .inl (cA_3, 80, .inl (fun _ => 0))), (q_4, .inl (cA_4, 80, .inl (fun _ => 0))), (q_5, .inl (cA_5, 80, .inl (fun _ => 0)))] H := hP
  have hD : va_D A [(h0, .inr (8, [.int 0, .ref q_1, .ref q_2, .ref q_3, .ref q_4, .null, .null, .null, .null])), (q_1, .inl (cA_1, 80, .inl (fun _ => 0))), (q_2, .inl (cA_2, 80, .inl (fun _ => 0))), (q_3, .inl (cA_3, 80, .inl (fun _ => 0))), (q_4, .inl (cA_4, 80, .inl (fun _ => 0))), (q_5, .inl (cA_5, 80, .inl (fun _ => 0)))] := hD
  have hK : va_K (dC, dI) vwCl [(cA_1, .int), (cA_2, .int), (cA_3, .int), (cA_4, .int), (cA_5, .int)] s := hK
  refine W.widen (k := 5) (n := 400) (Nat.le_of_ble_eq_true rfl) (Nat.le_of_ble_eq_true rfl) ?_
  refine va_putF (D := (dC, dI)) (ci := 8) (v := .ref q_5) (ty := .array .int) (C := RX8) (T := TX8) (N := 9) hx hb hts iCX8 tyX8 tyX8_ok nmX8 hown hK hP hD hS 0 rfl rfl 5 (by decide) (hts (.fieldLink RX8 24 "WalkingTown$Trips" "first" "[I") (List.mem_cons_of_mem _ kw_1_208)) (fun _ h9 => h9) rfl hin rfl (by decide +kernel) rfl rfl (Nat.le_of_ble_eq_true rfl) dX8_init_41 (fun H locs hP hD hS => ?_)
  have hP : va_P (dC, dI) vwCl [(h0, .inr (8, [.int 0, .ref q_1, .ref q_2, .ref q_3, .ref q_4, .ref q_5, .null, .null, .null])), (q_1, .inl (cA_1, 80, .inl (fun _ => 0))), (q_2, .inl (cA_2, 80, .inl (fun _ => 0))), (q_3, .inl (cA_3, 80, .inl (fun _ => 0))), (q_4, .inl (cA_4, 80, .inl (fun _ => 0))), (q_5, .inl (cA_5, 80, .inl (fun _ => 0)))] H := hP
  have hD : va_D A [(h0, .inr (8, [.int 0, .ref q_1, .ref q_2, .ref q_3, .ref q_4, .ref q_5, .null, .null, .null])), (q_1, .inl (cA_1, 80, .inl (fun _ => 0))), (q_2, .inl (cA_2, 80, .inl (fun _ => 0))), (q_3, .inl (cA_3, 80, .inl (fun _ => 0))), (q_4, .inl (cA_4, 80, .inl (fun _ => 0))), (q_5, .inl (cA_5, 80, .inl (fun _ => 0)))] := hD
  refine lv_aload_n hx hb dX8_init_44 rfl (lv_at hl 0 rfl) ?_
  refine lv_bipush (v := 80) hx hb dX8_init_45 (by decide) ?_
  refine va_newa (atype := .int) (N' := 80) (a0 := (80, .inl (fun _ => 0))) hx hb (hts (.arrayClass .int) (List.mem_cons_of_mem _ kw_1_60)) (ty := .int) rfl hK hP hD hS hA (fun _ => rfl) (by decide) (by decide) (by decide) (Nat.le_of_ble_eq_true rfl) (Nat.le_of_ble_eq_true rfl) dX8_init_47 (fun q_6 cA_6 H hK hP hD hS => ?_)
  have hP : va_P (dC, dI) vwCl [(h0, .inr (8, [.int 0, .ref q_1, .ref q_2, .ref q_3, .ref q_4, .ref q_5, .null, .null, .null])), (q_1, .inl (cA_1, 80, .inl (fun _ => 0))), (q_2, .inl (cA_2, 80, .inl (fun _ => 0))), (q_3, .inl (cA_3, 80, .inl (fun _ => 0))), (q_4, .inl (cA_4, 80, .inl (fun _ => 0))), (q_5, .inl (cA_5, 80, .inl (fun _ => 0))), (q_6, .inl (cA_6, 80, .inl (fun _ => 0)))] H := hP
  have hD : va_D A [(h0, .inr (8, [.int 0, .ref q_1, .ref q_2, .ref q_3, .ref q_4, .ref q_5, .null, .null, .null])), (q_1, .inl (cA_1, 80, .inl (fun _ => 0))), (q_2, .inl (cA_2, 80, .inl (fun _ => 0))), (q_3, .inl (cA_3, 80, .inl (fun _ => 0))), (q_4, .inl (cA_4, 80, .inl (fun _ => 0))), (q_5, .inl (cA_5, 80, .inl (fun _ => 0))), (q_6, .inl (cA_6, 80, .inl (fun _ => 0)))] := hD
  have hK : va_K (dC, dI) vwCl [(cA_1, .int), (cA_2, .int), (cA_3, .int), (cA_4, .int), (cA_5, .int), (cA_6, .int)] s := hK
  refine W.widen (k := 6) (n := 480) (Nat.le_of_ble_eq_true rfl) (Nat.le_of_ble_eq_true rfl) ?_
  refine va_putF (D := (dC, dI)) (ci := 8) (v := .ref q_6) (ty := .array .int) (C := RX8) (T := TX8) (N := 9) hx hb hts iCX8 tyX8 tyX8_ok nmX8 hown hK hP hD hS 0 rfl rfl 6 (by decide) (hts (.fieldLink RX8 27 "WalkingTown$Trips" "last" "[I") (List.mem_cons_of_mem _ kw_1_209)) (fun _ h9 => h9) rfl hin rfl (by decide +kernel) rfl rfl (Nat.le_of_ble_eq_true rfl) dX8_init_49 (fun H locs hP hD hS => ?_)
  have hP : va_P (dC, dI) vwCl [(h0, .inr (8, [.int 0, .ref q_1, .ref q_2, .ref q_3, .ref q_4, .ref q_5, .ref q_6, .null, .null])), (q_1, .inl (cA_1, 80, .inl (fun _ => 0))), (q_2, .inl (cA_2, 80, .inl (fun _ => 0))), (q_3, .inl (cA_3, 80, .inl (fun _ => 0))), (q_4, .inl (cA_4, 80, .inl (fun _ => 0))), (q_5, .inl (cA_5, 80, .inl (fun _ => 0))), (q_6, .inl (cA_6, 80, .inl (fun _ => 0)))] H := hP
  have hD : va_D A [(h0, .inr (8, [.int 0, .ref q_1, .ref q_2, .ref q_3, .ref q_4, .ref q_5, .ref q_6, .null, .null])), (q_1, .inl (cA_1, 80, .inl (fun _ => 0))), (q_2, .inl (cA_2, 80, .inl (fun _ => 0))), (q_3, .inl (cA_3, 80, .inl (fun _ => 0))), (q_4, .inl (cA_4, 80, .inl (fun _ => 0))), (q_5, .inl (cA_5, 80, .inl (fun _ => 0))), (q_6, .inl (cA_6, 80, .inl (fun _ => 0)))] := hD
  refine lv_aload_n hx hb dX8_init_52 rfl (lv_at hl 0 rfl) ?_
  refine lv_bipush (v := 80) hx hb dX8_init_53 (by decide) ?_
  refine va_newa (atype := .int) (N' := 80) (a0 := (80, .inl (fun _ => 0))) hx hb (hts (.arrayClass .int) (List.mem_cons_of_mem _ kw_1_60)) (ty := .int) rfl hK hP hD hS hA (fun _ => rfl) (by decide) (by decide) (by decide) (Nat.le_of_ble_eq_true rfl) (Nat.le_of_ble_eq_true rfl) dX8_init_55 (fun q_7 cA_7 H hK hP hD hS => ?_)
  have hP : va_P (dC, dI) vwCl [(h0, .inr (8, [.int 0, .ref q_1, .ref q_2, .ref q_3, .ref q_4, .ref q_5, .ref q_6, .null, .null])), (q_1, .inl (cA_1, 80, .inl (fun _ => 0))), (q_2, .inl (cA_2, 80, .inl (fun _ => 0))), (q_3, .inl (cA_3, 80, .inl (fun _ => 0))), (q_4, .inl (cA_4, 80, .inl (fun _ => 0))), (q_5, .inl (cA_5, 80, .inl (fun _ => 0))), (q_6, .inl (cA_6, 80, .inl (fun _ => 0))), (q_7, .inl (cA_7, 80, .inl (fun _ => 0)))] H := hP
  have hD : va_D A [(h0, .inr (8, [.int 0, .ref q_1, .ref q_2, .ref q_3, .ref q_4, .ref q_5, .ref q_6, .null, .null])), (q_1, .inl (cA_1, 80, .inl (fun _ => 0))), (q_2, .inl (cA_2, 80, .inl (fun _ => 0))), (q_3, .inl (cA_3, 80, .inl (fun _ => 0))), (q_4, .inl (cA_4, 80, .inl (fun _ => 0))), (q_5, .inl (cA_5, 80, .inl (fun _ => 0))), (q_6, .inl (cA_6, 80, .inl (fun _ => 0))), (q_7, .inl (cA_7, 80, .inl (fun _ => 0)))] := hD
  have hK : va_K (dC, dI) vwCl [(cA_1, .int), (cA_2, .int), (cA_3, .int), (cA_4, .int), (cA_5, .int), (cA_6, .int), (cA_7, .int)] s := hK
  refine W.widen (k := 7) (n := 560) (Nat.le_of_ble_eq_true rfl) (Nat.le_of_ble_eq_true rfl) ?_
  refine va_putF (D := (dC, dI)) (ci := 8) (v := .ref q_7) (ty := .array .int) (C := RX8) (T := TX8) (N := 9) hx hb hts iCX8 tyX8 tyX8_ok nmX8 hown hK hP hD hS 0 rfl rfl 7 (by decide) (hts (.fieldLink RX8 30 "WalkingTown$Trips" "toldOn" "[I") (List.mem_cons_of_mem _ kw_1_210)) (fun _ h9 => h9) rfl hin rfl (by decide +kernel) rfl rfl (Nat.le_of_ble_eq_true rfl) dX8_init_57 (fun H locs hP hD hS => ?_)
  have hP : va_P (dC, dI) vwCl [(h0, .inr (8, [.int 0, .ref q_1, .ref q_2, .ref q_3, .ref q_4, .ref q_5, .ref q_6, .ref q_7, .null])), (q_1, .inl (cA_1, 80, .inl (fun _ => 0))), (q_2, .inl (cA_2, 80, .inl (fun _ => 0))), (q_3, .inl (cA_3, 80, .inl (fun _ => 0))), (q_4, .inl (cA_4, 80, .inl (fun _ => 0))), (q_5, .inl (cA_5, 80, .inl (fun _ => 0))), (q_6, .inl (cA_6, 80, .inl (fun _ => 0))), (q_7, .inl (cA_7, 80, .inl (fun _ => 0)))] H := hP
  have hD : va_D A [(h0, .inr (8, [.int 0, .ref q_1, .ref q_2, .ref q_3, .ref q_4, .ref q_5, .ref q_6, .ref q_7, .null])), (q_1, .inl (cA_1, 80, .inl (fun _ => 0))), (q_2, .inl (cA_2, 80, .inl (fun _ => 0))), (q_3, .inl (cA_3, 80, .inl (fun _ => 0))), (q_4, .inl (cA_4, 80, .inl (fun _ => 0))), (q_5, .inl (cA_5, 80, .inl (fun _ => 0))), (q_6, .inl (cA_6, 80, .inl (fun _ => 0))), (q_7, .inl (cA_7, 80, .inl (fun _ => 0)))] := hD
  refine lv_aload_n hx hb dX8_init_60 rfl (lv_at hl 0 rfl) ?_
  refine lv_bipush (v := 80) hx hb dX8_init_61 (by decide) ?_
  refine va_newa (atype := .int) (N' := 80) (a0 := (80, .inl (fun _ => 0))) hx hb (hts (.arrayClass .int) (List.mem_cons_of_mem _ kw_1_60)) (ty := .int) rfl hK hP hD hS hA (fun _ => rfl) (by decide) (by decide) (by decide) (Nat.le_of_ble_eq_true rfl) (Nat.le_of_ble_eq_true rfl) dX8_init_63 (fun q_8 cA_8 H hK hP hD hS => ?_)
  have hP : va_P (dC, dI) vwCl [(h0, .inr (8, [.int 0, .ref q_1, .ref q_2, .ref q_3, .ref q_4, .ref q_5, .ref q_6, .ref q_7, .null])), (q_1, .inl (cA_1, 80, .inl (fun _ => 0))), (q_2, .inl (cA_2, 80, .inl (fun _ => 0))), (q_3, .inl (cA_3, 80, .inl (fun _ => 0))), (q_4, .inl (cA_4, 80, .inl (fun _ => 0))), (q_5, .inl (cA_5, 80, .inl (fun _ => 0))), (q_6, .inl (cA_6, 80, .inl (fun _ => 0))), (q_7, .inl (cA_7, 80, .inl (fun _ => 0))), (q_8, .inl (cA_8, 80, .inl (fun _ => 0)))] H := hP
  have hD : va_D A [(h0, .inr (8, [.int 0, .ref q_1, .ref q_2, .ref q_3, .ref q_4, .ref q_5, .ref q_6, .ref q_7, .null])), (q_1, .inl (cA_1, 80, .inl (fun _ => 0))), (q_2, .inl (cA_2, 80, .inl (fun _ => 0))), (q_3, .inl (cA_3, 80, .inl (fun _ => 0))), (q_4, .inl (cA_4, 80, .inl (fun _ => 0))), (q_5, .inl (cA_5, 80, .inl (fun _ => 0))), (q_6, .inl (cA_6, 80, .inl (fun _ => 0))), (q_7, .inl (cA_7, 80, .inl (fun _ => 0))), (q_8, .inl (cA_8, 80, .inl (fun _ => 0)))] := hD
  have hK : va_K (dC, dI) vwCl [(cA_1, .int), (cA_2, .int), (cA_3, .int), (cA_4, .int), (cA_5, .int), (cA_6, .int), (cA_7, .int), (cA_8, .int)] s := hK
  refine W.widen (k := 8) (n := 640) (Nat.le_of_ble_eq_true rfl) (Nat.le_of_ble_eq_true rfl) ?_
  refine va_putF (D := (dC, dI)) (ci := 8) (v := .ref q_8) (ty := .array .int) (C := RX8) (T := TX8) (N := 9) hx hb hts iCX8 tyX8 tyX8_ok nmX8 hown hK hP hD hS 0 rfl rfl 8 (by decide) (hts (.fieldLink RX8 33 "WalkingTown$Trips" "left" "[I") (List.mem_cons_of_mem _ kw_1_212)) (fun _ h9 => h9) rfl hin rfl (by decide +kernel) rfl rfl (Nat.le_of_ble_eq_true rfl) dX8_init_65 (fun H locs hP hD hS => ?_)
  have hP : va_P (dC, dI) vwCl [(h0, .inr (8, [.int 0, .ref q_1, .ref q_2, .ref q_3, .ref q_4, .ref q_5, .ref q_6, .ref q_7, .ref q_8])), (q_1, .inl (cA_1, 80, .inl (fun _ => 0))), (q_2, .inl (cA_2, 80, .inl (fun _ => 0))), (q_3, .inl (cA_3, 80, .inl (fun _ => 0))), (q_4, .inl (cA_4, 80, .inl (fun _ => 0))), (q_5, .inl (cA_5, 80, .inl (fun _ => 0))), (q_6, .inl (cA_6, 80, .inl (fun _ => 0))), (q_7, .inl (cA_7, 80, .inl (fun _ => 0))), (q_8, .inl (cA_8, 80, .inl (fun _ => 0)))] H := hP
  have hD : va_D A [(h0, .inr (8, [.int 0, .ref q_1, .ref q_2, .ref q_3, .ref q_4, .ref q_5, .ref q_6, .ref q_7, .ref q_8])), (q_1, .inl (cA_1, 80, .inl (fun _ => 0))), (q_2, .inl (cA_2, 80, .inl (fun _ => 0))), (q_3, .inl (cA_3, 80, .inl (fun _ => 0))), (q_4, .inl (cA_4, 80, .inl (fun _ => 0))), (q_5, .inl (cA_5, 80, .inl (fun _ => 0))), (q_6, .inl (cA_6, 80, .inl (fun _ => 0))), (q_7, .inl (cA_7, 80, .inl (fun _ => 0))), (q_8, .inl (cA_8, 80, .inl (fun _ => 0)))] := hD
  have hP9 := hP.sub (ws' := [(h0, .inr (8, [.int 0, .ref q_1, .ref q_2, .ref q_3, .ref q_4, .ref q_5, .ref q_6, .ref q_7, .ref q_8])), (q_1, .inl (cA_1, 80, .inl (fun _ => 0))), (q_2, .inl (cA_2, 80, .inl (fun _ => 0))), (q_3, .inl (cA_3, 80, .inl (fun _ => 0))), (q_4, .inl (cA_4, 80, .inl (fun _ => 0))), (q_5, .inl (cA_5, 80, .inl (fun _ => 0))), (q_6, .inl (cA_6, 80, .inl (fun _ => 0))), (q_7, .inl (cA_7, 80, .inl (fun _ => 0))), (q_8, .inl (cA_8, 80, .inl (fun _ => 0)))]) [0, 1, 2, 3, 4, 5, 6, 7, 8] rfl
  have hD9 := hD.sub (ws' := [(h0, .inr (8, [.int 0, .ref q_1, .ref q_2, .ref q_3, .ref q_4, .ref q_5, .ref q_6, .ref q_7, .ref q_8])), (q_1, .inl (cA_1, 80, .inl (fun _ => 0))), (q_2, .inl (cA_2, 80, .inl (fun _ => 0))), (q_3, .inl (cA_3, 80, .inl (fun _ => 0))), (q_4, .inl (cA_4, 80, .inl (fun _ => 0))), (q_5, .inl (cA_5, 80, .inl (fun _ => 0))), (q_6, .inl (cA_6, 80, .inl (fun _ => 0))), (q_7, .inl (cA_7, 80, .inl (fun _ => 0))), (q_8, .inl (cA_8, 80, .inl (fun _ => 0)))]) [0, 1, 2, 3, 4, 5, 6, 7, 8] (by decide) rfl
  have hK9 := hK.sub (tys' := [(cA_1, .int), (cA_2, .int), (cA_3, .int), (cA_4, .int), (cA_5, .int), (cA_6, .int), (cA_7, .int), (cA_8, .int)]) [0, 1, 2, 3, 4, 5, 6, 7] rfl
  refine W.widen (k := 8) (n := 640) (Nat.le_of_ble_eq_true rfl) (Nat.le_of_ble_eq_true rfl) ?_
  exact W.vret hx hb hr (fun t ht hW => ⟨⟨(), rfl, trivial, ⟨q_1, cA_1, q_2, cA_2, q_3, cA_3, q_4, cA_4, q_5, cA_5, q_6, cA_6, q_7, cA_7, q_8, cA_8, by rw [ht]; exact hP9, va_K.moved hW.alike hK9, hD9⟩⟩, hS.F ht⟩) hS.2.2 dX8_init_68
set_option maxHeartbeats 4000000 in
set_option maxRecDepth 100000 in
theorem x_Wheels_init (l : Launch) (dC : Nat → ClassId) (dI : Nat → Nat → Nat) (sz : Nat) (h0 : Nat) : Met l yX10_init (.code yX10_init cX10_init 1 none :: lw_good) ({ frames := 2, cells := 8, slots := 160, locals := 60 }) (va_Pc [.ref h0] (fun U => U.heap.size = sz ∧ va_P (dC, dI) vwCl [(h0, .inr (10, [.int 0, .null, .null, .null, .null, .null, .null, .null, .null]))] U.heap ∧ va_K (dC, dI) vwCl [] U ∧ va_D (fun _ => True) [(h0, .inr (10, [.int 0, .null, .null, .null, .null, .null, .null, .null, .null]))])) (va_Qv (fun (_ : Unit) => True) (fun (_ : Unit) (t : State) => ∃ (b1 : Nat), ∃ (k1 : ClassId), ∃ (b2 : Nat), ∃ (k2 : ClassId), ∃ (b3 : Nat), ∃ (k3 : ClassId), ∃ (b4 : Nat), ∃ (k4 : ClassId), ∃ (b5 : Nat), ∃ (k5 : ClassId), ∃ (b6 : Nat), ∃ (k6 : ClassId), ∃ (b7 : Nat), ∃ (k7 : ClassId), ∃ (b8 : Nat), ∃ (k8 : ClassId), va_P (dC, dI) vwCl [(h0, .inr (10, [.int 0, .ref b1, .ref b2, .ref b3, .ref b4, .ref b5, .ref b6, .ref b7, .ref b8])), (b1, .inl (k1, 20, .inl (fun _ => 0))), (b2, .inl (k2, 20, .inl (fun _ => 0))), (b3, .inl (k3, 20, .inl (fun _ => 0))), (b4, .inl (k4, 20, .inl (fun _ => 0))), (b5, .inl (k5, 20, .inl (fun _ => 0))), (b6, .inl (k6, 20, .inl (fun _ => 0))), (b7, .inl (k7, 20, .inl (fun _ => 0))), (b8, .inl (k8, 20, .inl (fun _ => 0)))] t.heap ∧ va_K (dC, dI) vwCl [(k1, .int), (k2, .int), (k3, .int), (k4, .int), (k5, .int), (k6, .int), (k7, .int), (k8, .int)] t ∧ va_D (va_A [(h0, .inr (10, [.int 0, .null, .null, .null, .null, .null, .null, .null, .null]))] sz) [(h0, .inr (10, [.int 0, .ref b1, .ref b2, .ref b3, .ref b4, .ref b5, .ref b6, .ref b7, .ref b8])), (b1, .inl (k1, 20, .inl (fun _ => 0))), (b2, .inl (k2, 20, .inl (fun _ => 0))), (b3, .inl (k3, 20, .inl (fun _ => 0))), (b4, .inl (k4, 20, .inl (fun _ => 0))), (b5, .inl (k5, 20, .inl (fun _ => 0))), (b6, .inl (k6, 20, .inl (fun _ => 0))), (b7, .inl (k7, 20, .inl (fun _ => 0))), (b8, .inl (k8, 20, .inl (fun _ => 0)))]) (va_A [(h0, .inr (10, [.int 0, .null, .null, .null, .null, .null, .null, .null, .null]))] sz)) 8 160 (va_A [(h0, .inr (10, [.int 0, .null, .null, .null, .null, .null, .null, .null, .null]))] sz) := by
  refine Met.ofW (cc := cX10_init) (maxL := 1) (ret := none) (by decide) rfl ?_
  intro p e s m args below meth c s₁ B hml hv
  obtain ⟨rfl, hsz, hP, hK, hD0⟩ := hv
  have hx := B.exec
  have hb := B.bytes
  have hr := B.returns
  have hts := atoms_spec (ws := (.code yX10_init cX10_init 1 none :: lw_good)) B.pre
  have hown : s.vm.findClass RX10 = some m.cls := findClass_of_methodNamed B.named
  have hlocks := B.notSynchronized
  have hin : meth.name = "<init>" := (name_of_methodNamed B.named B.method).1
  subst hsz
  have hD := hD0.self (sz := s.heap.size)
  generalize hAe : va_A [(h0, .inr (10, [.int 0, .null, .null, .null, .null, .null, .null, .null, .null]))] s.heap.size = A at hD ⊢
  have hA : ∀ q : Nat, s.heap.size ≤ q → A q := fun q h => by rw [← hAe]; exact Or.inr h
  have hS : va_S A s.heap s.heap [] := va_S.rf
  have hP : va_P (dC, dI) vwCl [(h0, .inr (10, [.int 0, .null, .null, .null, .null, .null, .null, .null, .null]))] s.heap := hP
  have hl := lv_entry ([.ref h0]) (n := 1) (Nat.le_of_ble_eq_true rfl)
  rw [lg_entry_eq]
  generalize (lg_sl ([.ref h0]) ++ List.replicate (1 - (lg_sl ([.ref h0])).length) Slot.unset).toArray = ls at hl ⊢
  have hl : lv_has ls 1 [(0, .ref h0)] := hl
  refine lv_aload_n hx hb dX10_init_0 rfl (lv_at hl 0 rfl) ?_
  refine W.objInit hx hb hown (hts (.methodLink RX10 3 objectInit) (List.mem_cons_of_mem _ kw_1_139)) (hts (.instanceMethod objectInit) (List.mem_cons_of_mem _ kw_1_38)) (hts (.code objectInit ⟨#[0xb1]⟩ 1 none) (List.mem_cons_of_mem _ kw_1_39)) rfl (by rw [hml]; exact hl.1) rfl dX10_init_1 (Nat.le_of_ble_eq_true rfl) (Nat.le_of_ble_eq_true rfl) ?_
  refine W.eq (g2 := F0 m 4 ls []) rfl ?_
  refine lv_aload_n hx hb dX10_init_4 rfl (lv_at hl 0 rfl) ?_
  refine lv_bipush (v := 20) hx hb dX10_init_5 (by decide) ?_
  refine va_newa (atype := .int) (N' := 20) (a0 := (20, .inl (fun _ => 0))) hx hb (hts (.arrayClass .int) (List.mem_cons_of_mem _ kw_1_60)) (ty := .int) rfl hK hP hD hS hA (fun _ => rfl) (by decide) (by decide) (by decide) (Nat.le_of_ble_eq_true rfl) (Nat.le_of_ble_eq_true rfl) dX10_init_7 (fun q_1 cA_1 H hK hP hD hS => ?_)
  have hP : va_P (dC, dI) vwCl [(h0, .inr (10, [.int 0, .null, .null, .null, .null, .null, .null, .null, .null])), (q_1, .inl (cA_1, 20, .inl (fun _ => 0)))] H := hP
  have hD : va_D A [(h0, .inr (10, [.int 0, .null, .null, .null, .null, .null, .null, .null, .null])), (q_1, .inl (cA_1, 20, .inl (fun _ => 0)))] := hD
  have hK : va_K (dC, dI) vwCl [(cA_1, .int)] s := hK
  refine W.widen (k := 1) (n := 20) (Nat.le_of_ble_eq_true rfl) (Nat.le_of_ble_eq_true rfl) ?_
  refine va_putF (D := (dC, dI)) (ci := 10) (v := .ref q_1) (ty := .array .int) (C := RX10) (T := TX10) (N := 9) hx hb hts iCX10 tyX10 tyX10_ok nmX10 hown hK hP hD hS 0 rfl rfl 1 (by decide) (hts (.fieldLink RX10 11 "WalkingTown$Wheels" "kind" "[I") (List.mem_cons_of_mem _ kw_1_143)) (fun _ h9 => h9) rfl hin rfl (by decide +kernel) rfl rfl (Nat.le_of_ble_eq_true rfl) dX10_init_9 (fun H locs hP hD hS => ?_)
  have hP : va_P (dC, dI) vwCl [(h0, .inr (10, [.int 0, .ref q_1, .null, .null, .null, .null, .null, .null, .null])), (q_1, .inl (cA_1, 20, .inl (fun _ => 0)))] H := hP
  have hD : va_D A [(h0, .inr (10, [.int 0, .ref q_1, .null, .null, .null, .null, .null, .null, .null])), (q_1, .inl (cA_1, 20, .inl (fun _ => 0)))] := hD
  refine lv_aload_n hx hb dX10_init_12 rfl (lv_at hl 0 rfl) ?_
  refine lv_bipush (v := 20) hx hb dX10_init_13 (by decide) ?_
  refine va_newa (atype := .int) (N' := 20) (a0 := (20, .inl (fun _ => 0))) hx hb (hts (.arrayClass .int) (List.mem_cons_of_mem _ kw_1_60)) (ty := .int) rfl hK hP hD hS hA (fun _ => rfl) (by decide) (by decide) (by decide) (Nat.le_of_ble_eq_true rfl) (Nat.le_of_ble_eq_true rfl) dX10_init_15 (fun q_2 cA_2 H hK hP hD hS => ?_)
  have hP : va_P (dC, dI) vwCl [(h0, .inr (10, [.int 0, .ref q_1, .null, .null, .null, .null, .null, .null, .null])), (q_1, .inl (cA_1, 20, .inl (fun _ => 0))), (q_2, .inl (cA_2, 20, .inl (fun _ => 0)))] H := hP
  have hD : va_D A [(h0, .inr (10, [.int 0, .ref q_1, .null, .null, .null, .null, .null, .null, .null])), (q_1, .inl (cA_1, 20, .inl (fun _ => 0))), (q_2, .inl (cA_2, 20, .inl (fun _ => 0)))] := hD
  have hK : va_K (dC, dI) vwCl [(cA_1, .int), (cA_2, .int)] s := hK
  refine W.widen (k := 2) (n := 40) (Nat.le_of_ble_eq_true rfl) (Nat.le_of_ble_eq_true rfl) ?_
  refine va_putF (D := (dC, dI)) (ci := 10) (v := .ref q_2) (ty := .array .int) (C := RX10) (T := TX10) (N := 9) hx hb hts iCX10 tyX10 tyX10_ok nmX10 hown hK hP hD hS 0 rfl rfl 2 (by decide) (hts (.fieldLink RX10 15 "WalkingTown$Wheels" "base" "[I") (List.mem_cons_of_mem _ kw_1_146)) (fun _ h9 => h9) rfl hin rfl (by decide +kernel) rfl rfl (Nat.le_of_ble_eq_true rfl) dX10_init_17 (fun H locs hP hD hS => ?_)
  have hP : va_P (dC, dI) vwCl [(h0, .inr (10, [.int 0, .ref q_1, .ref q_2, .null, .null, .null, .null, .null, .null])), (q_1, .inl (cA_1, 20, .inl (fun _ => 0))), (q_2, .inl (cA_2, 20, .inl (fun _ => 0)))] H := hP
  have hD : va_D A [(h0, .inr (10, [.int 0, .ref q_1, .ref q_2, .null, .null, .null, .null, .null, .null])), (q_1, .inl (cA_1, 20, .inl (fun _ => 0))), (q_2, .inl (cA_2, 20, .inl (fun _ => 0)))] := hD
  refine lv_aload_n hx hb dX10_init_20 rfl (lv_at hl 0 rfl) ?_
  refine lv_bipush (v := 20) hx hb dX10_init_21 (by decide) ?_
  refine va_newa (atype := .int) (N' := 20) (a0 := (20, .inl (fun _ => 0))) hx hb (hts (.arrayClass .int) (List.mem_cons_of_mem _ kw_1_60)) (ty := .int) rfl hK hP hD hS hA (fun _ => rfl) (by decide) (by decide) (by decide) (Nat.le_of_ble_eq_true rfl) (Nat.le_of_ble_eq_true rfl) dX10_init_23 (fun q_3 cA_3 H hK hP hD hS => ?_)
  have hP : va_P (dC, dI) vwCl [(h0, .inr (10, [.int 0, .ref q_1, .ref q_2, .null, .null, .null, .null, .null, .null])), (q_1, .inl (cA_1, 20, .inl (fun _ => 0))), (q_2, .inl (cA_2, 20, .inl (fun _ => 0))), (q_3, .inl (cA_3, 20, .inl (fun _ => 0)))] H := hP
  have hD : va_D A [(h0, .inr (10, [.int 0, .ref q_1, .ref q_2, .null, .null, .null, .null, .null, .null])), (q_1, .inl (cA_1, 20, .inl (fun _ => 0))), (q_2, .inl (cA_2, 20, .inl (fun _ => 0))), (q_3, .inl (cA_3, 20, .inl (fun _ => 0)))] := hD
  have hK : va_K (dC, dI) vwCl [(cA_1, .int), (cA_2, .int), (cA_3, .int)] s := hK
  refine W.widen (k := 3) (n := 60) (Nat.le_of_ble_eq_true rfl) (Nat.le_of_ble_eq_true rfl) ?_
  refine va_putF (D := (dC, dI)) (ci := 10) (v := .ref q_3) (ty := .array .int) (C := RX10) (T := TX10) (N := 9) hx hb hts iCX10 tyX10 tyX10_ok nmX10 hown hK hP hD hS 0 rfl rfl 3 (by decide) (hts (.fieldLink RX10 18 "WalkingTown$Wheels" "seats" "[I") (List.mem_cons_of_mem _ kw_1_148)) (fun _ h9 => h9) rfl hin rfl (by decide +kernel) rfl rfl (Nat.le_of_ble_eq_true rfl) dX10_init_25 (fun H locs hP hD hS => ?_)
  have hP : va_P (dC, dI) vwCl [(h0, .inr (10, [.int 0, .ref q_1, .ref q_2, .ref q_3, .null, .null, .null, .null, .null])), (q_1, .inl (cA_1, 20, .inl (fun _ => 0))), (q_2, .inl (cA_2, 20, .inl (fun _ => 0))), (q_3, .inl (cA_3, 20, .inl (fun _ => 0)))] H := hP
  have hD : va_D A [(h0, .inr (10, [.int 0, .ref q_1, .ref q_2, .ref q_3, .null, .null, .null, .null, .null])), (q_1, .inl (cA_1, 20, .inl (fun _ => 0))), (q_2, .inl (cA_2, 20, .inl (fun _ => 0))), (q_3, .inl (cA_3, 20, .inl (fun _ => 0)))] := hD
  refine lv_aload_n hx hb dX10_init_28 rfl (lv_at hl 0 rfl) ?_
  refine lv_bipush (v := 20) hx hb dX10_init_29 (by decide) ?_
  refine va_newa (atype := .int) (N' := 20) (a0 := (20, .inl (fun _ => 0))) hx hb (hts (.arrayClass .int) (List.mem_cons_of_mem _ kw_1_60)) (ty := .int) rfl hK hP hD hS hA (fun _ => rfl) (by decide) (by decide) (by decide) (Nat.le_of_ble_eq_true rfl) (Nat.le_of_ble_eq_true rfl) dX10_init_31 (fun q_4 cA_4 H hK hP hD hS => ?_)
  have hP : va_P (dC, dI) vwCl [(h0, .inr (10, [.int 0, .ref q_1, .ref q_2, .ref q_3, .null, .null, .null, .null, .null])), (q_1, .inl (cA_1, 20, .inl (fun _ => 0))), (q_2, .inl (cA_2, 20, .inl (fun _ => 0))), (q_3, .inl (cA_3, 20, .inl (fun _ => 0))), (q_4, .inl (cA_4, 20, .inl (fun _ => 0)))] H := hP
  have hD : va_D A [(h0, .inr (10, [.int 0, .ref q_1, .ref q_2, .ref q_3, .null, .null, .null, .null, .null])), (q_1, .inl (cA_1, 20, .inl (fun _ => 0))), (q_2, .inl (cA_2, 20, .inl (fun _ => 0))), (q_3, .inl (cA_3, 20, .inl (fun _ => 0))), (q_4, .inl (cA_4, 20, .inl (fun _ => 0)))] := hD
  have hK : va_K (dC, dI) vwCl [(cA_1, .int), (cA_2, .int), (cA_3, .int), (cA_4, .int)] s := hK
  refine W.widen (k := 4) (n := 80) (Nat.le_of_ble_eq_true rfl) (Nat.le_of_ble_eq_true rfl) ?_
  refine va_putF (D := (dC, dI)) (ci := 10) (v := .ref q_4) (ty := .array .int) (C := RX10) (T := TX10) (N := 9) hx hb hts iCX10 tyX10 tyX10_ok nmX10 hown hK hP hD hS 0 rfl rfl 4 (by decide) (hts (.fieldLink RX10 21 "WalkingTown$Wheels" "insured" "[I") (List.mem_cons_of_mem _ kw_1_152)) (fun _ h9 => h9) rfl hin rfl (by decide +kernel) rfl rfl (Nat.le_of_ble_eq_true rfl) dX10_init_33 (fun H locs hP hD hS => ?_)
  have hP : va_P (dC, dI) vwCl [(h0, .inr (10, [.int 0, .ref q_1, .ref q_2, .ref q_3, .ref q_4, .null, .null, .null, .null])), (q_1, .inl (cA_1, 20, .inl (fun _ => 0))), (q_2, .inl (cA_2, 20, .inl (fun _ => 0))), (q_3, .inl (cA_3, 20, .inl (fun _ => 0))), (q_4, .inl (cA_4, 20, .inl (fun _ => 0)))] H := hP
  have hD : va_D A [(h0, .inr (10, [.int 0, .ref q_1, .ref q_2, .ref q_3, .ref q_4, .null, .null, .null, .null])), (q_1, .inl (cA_1, 20, .inl (fun _ => 0))), (q_2, .inl (cA_2, 20, .inl (fun _ => 0))), (q_3, .inl (cA_3, 20, .inl (fun _ => 0))), (q_4, .inl (cA_4, 20, .inl (fun _ => 0)))] := hD
  refine lv_aload_n hx hb dX10_init_36 rfl (lv_at hl 0 rfl) ?_
  refine lv_bipush (v := 20) hx hb dX10_init_37 (by decide) ?_
  refine va_newa (atype := .int) (N' := 20) (a0 := (20, .inl (fun _ => 0))) hx hb (hts (.arrayClass .int) (List.mem_cons_of_mem _ kw_1_60)) (ty := .int) rfl hK hP hD hS hA (fun _ => rfl) (by decide) (by decide) (by decide) (Nat.le_of_ble_eq_true rfl) (Nat.le_of_ble_eq_true rfl) dX10_init_39 (fun q_5 cA_5 H hK hP hD hS => ?_)
  have hP : va_P (dC, dI) vwCl [(h0, .inr (10, [.int 0, .ref q_1, .ref q_2, .ref q_3, .ref q_4, .null, .null, .null, .null])), (q_1, .inl (cA_1, 20, .inl (fun _ => 0))), (q_2, .inl (cA_2, 20, .inl (fun _ => 0))), (q_3, .inl (cA_3, 20, .inl (fun _ => 0))), (q_4, .inl (cA_4, 20, .inl (fun _ => 0))), (q_5, .inl (cA_5, 20, .inl (fun _ => 0)))] H := hP
  have hD : va_D A [(h0, .inr (10, [.int 0, .ref q_1, .ref q_2, .ref q_3, .ref q_4, .null, .null, .null, .null])), (q_1, .inl (cA_1, 20, .inl (fun _ => 0))), (q_2, .inl (cA_2, 20, .inl (fun _ => 0))), (q_3, .inl (cA_3, 20, .inl (fun _ => 0))), (q_4, .inl (cA_4, 20, .inl (fun _ => 0))), (q_5, .inl (cA_5, 20, .inl (fun _ => 0)))] := hD
  have hK : va_K (dC, dI) vwCl [(cA_1, .int), (cA_2, .int), (cA_3, .int), (cA_4, .int), (cA_5, .int)] s := hK
  refine W.widen (k := 5) (n := 100) (Nat.le_of_ble_eq_true rfl) (Nat.le_of_ble_eq_true rfl) ?_
  refine va_putF (D := (dC, dI)) (ci := 10) (v := .ref q_5) (ty := .array .int) (C := RX10) (T := TX10) (N := 9) hx hb hts iCX10 tyX10 tyX10_ok nmX10 hown hK hP hD hS 0 rfl rfl 5 (by decide) (hts (.fieldLink RX10 24 "WalkingTown$Wheels" "coin" "[I") (List.mem_cons_of_mem _ kw_1_155)) (fun _ h9 => h9) rfl hin rfl (by decide +kernel) rfl rfl (Nat.le_of_ble_eq_true rfl) dX10_init_41 (fun H locs hP hD hS => ?_)
  have hP : va_P (dC, dI) vwCl [(h0, .inr (10, [.int 0, .ref q_1, .ref q_2, .ref q_3, .ref q_4, .ref q_5, .null, .null, .null])), (q_1, .inl (cA_1, 20, .inl (fun _ => 0))), (q_2, .inl (cA_2, 20, .inl (fun _ => 0))), (q_3, .inl (cA_3, 20, .inl (fun _ => 0))), (q_4, .inl (cA_4, 20, .inl (fun _ => 0))), (q_5, .inl (cA_5, 20, .inl (fun _ => 0)))] H := hP
  have hD : va_D A [(h0, .inr (10, [.int 0, .ref q_1, .ref q_2, .ref q_3, .ref q_4, .ref q_5, .null, .null, .null])), (q_1, .inl (cA_1, 20, .inl (fun _ => 0))), (q_2, .inl (cA_2, 20, .inl (fun _ => 0))), (q_3, .inl (cA_3, 20, .inl (fun _ => 0))), (q_4, .inl (cA_4, 20, .inl (fun _ => 0))), (q_5, .inl (cA_5, 20, .inl (fun _ => 0)))] := hD
  refine lv_aload_n hx hb dX10_init_44 rfl (lv_at hl 0 rfl) ?_
  refine lv_bipush (v := 20) hx hb dX10_init_45 (by decide) ?_
  refine va_newa (atype := .int) (N' := 20) (a0 := (20, .inl (fun _ => 0))) hx hb (hts (.arrayClass .int) (List.mem_cons_of_mem _ kw_1_60)) (ty := .int) rfl hK hP hD hS hA (fun _ => rfl) (by decide) (by decide) (by decide) (Nat.le_of_ble_eq_true rfl) (Nat.le_of_ble_eq_true rfl) dX10_init_47 (fun q_6 cA_6 H hK hP hD hS => ?_)
  have hP : va_P (dC, dI) vwCl [(h0, .inr (10, [.int 0, .ref q_1, .ref q_2, .ref q_3, .ref q_4, .ref q_5, .null, .null, .null])), (q_1, .inl (cA_1, 20, .inl (fun _ => 0))), (q_2, .inl (cA_2, 20, .inl (fun _ => 0))), (q_3, .inl (cA_3, 20, .inl (fun _ => 0))), (q_4, .inl (cA_4, 20, .inl (fun _ => 0))), (q_5, .inl (cA_5, 20, .inl (fun _ => 0))), (q_6, .inl (cA_6, 20, .inl (fun _ => 0)))] H := hP
  have hD : va_D A [(h0, .inr (10, [.int 0, .ref q_1, .ref q_2, .ref q_3, .ref q_4, .ref q_5, .null, .null, .null])), (q_1, .inl (cA_1, 20, .inl (fun _ => 0))), (q_2, .inl (cA_2, 20, .inl (fun _ => 0))), (q_3, .inl (cA_3, 20, .inl (fun _ => 0))), (q_4, .inl (cA_4, 20, .inl (fun _ => 0))), (q_5, .inl (cA_5, 20, .inl (fun _ => 0))), (q_6, .inl (cA_6, 20, .inl (fun _ => 0)))] := hD
  have hK : va_K (dC, dI) vwCl [(cA_1, .int), (cA_2, .int), (cA_3, .int), (cA_4, .int), (cA_5, .int), (cA_6, .int)] s := hK
  refine W.widen (k := 6) (n := 120) (Nat.le_of_ble_eq_true rfl) (Nat.le_of_ble_eq_true rfl) ?_
  refine va_putF (D := (dC, dI)) (ci := 10) (v := .ref q_6) (ty := .array .int) (C := RX10) (T := TX10) (N := 9) hx hb hts iCX10 tyX10 tyX10_ok nmX10 hown hK hP hD hS 0 rfl rfl 6 (by decide) (hts (.fieldLink RX10 27 "WalkingTown$Wheels" "stopped" "[I") (List.mem_cons_of_mem _ kw_1_157)) (fun _ h9 => h9) rfl hin rfl (by decide +kernel) rfl rfl (Nat.le_of_ble_eq_true rfl) dX10_init_49 (fun H locs hP hD hS => ?_)
  have hP : va_P (dC, dI) vwCl [(h0, .inr (10, [.int 0, .ref q_1, .ref q_2, .ref q_3, .ref q_4, .ref q_5, .ref q_6, .null, .null])), (q_1, .inl (cA_1, 20, .inl (fun _ => 0))), (q_2, .inl (cA_2, 20, .inl (fun _ => 0))), (q_3, .inl (cA_3, 20, .inl (fun _ => 0))), (q_4, .inl (cA_4, 20, .inl (fun _ => 0))), (q_5, .inl (cA_5, 20, .inl (fun _ => 0))), (q_6, .inl (cA_6, 20, .inl (fun _ => 0)))] H := hP
  have hD : va_D A [(h0, .inr (10, [.int 0, .ref q_1, .ref q_2, .ref q_3, .ref q_4, .ref q_5, .ref q_6, .null, .null])), (q_1, .inl (cA_1, 20, .inl (fun _ => 0))), (q_2, .inl (cA_2, 20, .inl (fun _ => 0))), (q_3, .inl (cA_3, 20, .inl (fun _ => 0))), (q_4, .inl (cA_4, 20, .inl (fun _ => 0))), (q_5, .inl (cA_5, 20, .inl (fun _ => 0))), (q_6, .inl (cA_6, 20, .inl (fun _ => 0)))] := hD
  refine lv_aload_n hx hb dX10_init_52 rfl (lv_at hl 0 rfl) ?_
  refine lv_bipush (v := 20) hx hb dX10_init_53 (by decide) ?_
  refine va_newa (atype := .int) (N' := 20) (a0 := (20, .inl (fun _ => 0))) hx hb (hts (.arrayClass .int) (List.mem_cons_of_mem _ kw_1_60)) (ty := .int) rfl hK hP hD hS hA (fun _ => rfl) (by decide) (by decide) (by decide) (Nat.le_of_ble_eq_true rfl) (Nat.le_of_ble_eq_true rfl) dX10_init_55 (fun q_7 cA_7 H hK hP hD hS => ?_)
  have hP : va_P (dC, dI) vwCl [(h0, .inr (10, [.int 0, .ref q_1, .ref q_2, .ref q_3, .ref q_4, .ref q_5, .ref q_6, .null, .null])), (q_1, .inl (cA_1, 20, .inl (fun _ => 0))), (q_2, .inl (cA_2, 20, .inl (fun _ => 0))), (q_3, .inl (cA_3, 20, .inl (fun _ => 0))), (q_4, .inl (cA_4, 20, .inl (fun _ => 0))), (q_5, .inl (cA_5, 20, .inl (fun _ => 0))), (q_6, .inl (cA_6, 20, .inl (fun _ => 0))), (q_7, .inl (cA_7, 20, .inl (fun _ => 0)))] H := hP
  have hD : va_D A [(h0, .inr (10, [.int 0, .ref q_1, .ref q_2, .ref q_3, .ref q_4, .ref q_5, .ref q_6, .null, .null])), (q_1, .inl (cA_1, 20, .inl (fun _ => 0))), (q_2, .inl (cA_2, 20, .inl (fun _ => 0))), (q_3, .inl (cA_3, 20, .inl (fun _ => 0))), (q_4, .inl (cA_4, 20, .inl (fun _ => 0))), (q_5, .inl (cA_5, 20, .inl (fun _ => 0))), (q_6, .inl (cA_6, 20, .inl (fun _ => 0))), (q_7, .inl (cA_7, 20, .inl (fun _ => 0)))] := hD
  have hK : va_K (dC, dI) vwCl [(cA_1, .int), (cA_2, .int), (cA_3, .int), (cA_4, .int), (cA_5, .int), (cA_6, .int), (cA_7, .int)] s := hK
  refine W.widen (k := 7) (n := 140) (Nat.le_of_ble_eq_true rfl) (Nat.le_of_ble_eq_true rfl) ?_
  refine va_putF (D := (dC, dI)) (ci := 10) (v := .ref q_7) (ty := .array .int) (C := RX10) (T := TX10) (N := 9) hx hb hts iCX10 tyX10 tyX10_ok nmX10 hown hK hP hD hS 0 rfl rfl 7 (by decide) (hts (.fieldLink RX10 30 "WalkingTown$Wheels" "gone" "[I") (List.mem_cons_of_mem _ kw_1_159)) (fun _ h9 => h9) rfl hin rfl (by decide +kernel) rfl rfl (Nat.le_of_ble_eq_true rfl) dX10_init_57 (fun H locs hP hD hS => ?_)
  have hP : va_P (dC, dI) vwCl [(h0, .inr (10, [.int 0, .ref q_1, .ref q_2, .ref q_3, .ref q_4, .ref q_5, .ref q_6, .ref q_7, .null])), (q_1, .inl (cA_1, 20, .inl (fun _ => 0))), (q_2, .inl (cA_2, 20, .inl (fun _ => 0))), (q_3, .inl (cA_3, 20, .inl (fun _ => 0))), (q_4, .inl (cA_4, 20, .inl (fun _ => 0))), (q_5, .inl (cA_5, 20, .inl (fun _ => 0))), (q_6, .inl (cA_6, 20, .inl (fun _ => 0))), (q_7, .inl (cA_7, 20, .inl (fun _ => 0)))] H := hP
  have hD : va_D A [(h0, .inr (10, [.int 0, .ref q_1, .ref q_2, .ref q_3, .ref q_4, .ref q_5, .ref q_6, .ref q_7, .null])), (q_1, .inl (cA_1, 20, .inl (fun _ => 0))), (q_2, .inl (cA_2, 20, .inl (fun _ => 0))), (q_3, .inl (cA_3, 20, .inl (fun _ => 0))), (q_4, .inl (cA_4, 20, .inl (fun _ => 0))), (q_5, .inl (cA_5, 20, .inl (fun _ => 0))), (q_6, .inl (cA_6, 20, .inl (fun _ => 0))), (q_7, .inl (cA_7, 20, .inl (fun _ => 0)))] := hD
  refine lv_aload_n hx hb dX10_init_60 rfl (lv_at hl 0 rfl) ?_
  refine lv_bipush (v := 20) hx hb dX10_init_61 (by decide) ?_
  refine va_newa (atype := .int) (N' := 20) (a0 := (20, .inl (fun _ => 0))) hx hb (hts (.arrayClass .int) (List.mem_cons_of_mem _ kw_1_60)) (ty := .int) rfl hK hP hD hS hA (fun _ => rfl) (by decide) (by decide) (by decide) (Nat.le_of_ble_eq_true rfl) (Nat.le_of_ble_eq_true rfl) dX10_init_63 (fun q_8 cA_8 H hK hP hD hS => ?_)
  have hP : va_P (dC, dI) vwCl [(h0, .inr (10, [.int 0, .ref q_1, .ref q_2, .ref q_3, .ref q_4, .ref q_5, .ref q_6, .ref q_7, .null])), (q_1, .inl (cA_1, 20, .inl (fun _ => 0))), (q_2, .inl (cA_2, 20, .inl (fun _ => 0))), (q_3, .inl (cA_3, 20, .inl (fun _ => 0))), (q_4, .inl (cA_4, 20, .inl (fun _ => 0))), (q_5, .inl (cA_5, 20, .inl (fun _ => 0))), (q_6, .inl (cA_6, 20, .inl (fun _ => 0))), (q_7, .inl (cA_7, 20, .inl (fun _ => 0))), (q_8, .inl (cA_8, 20, .inl (fun _ => 0)))] H := hP
  have hD : va_D A [(h0, .inr (10, [.int 0, .ref q_1, .ref q_2, .ref q_3, .ref q_4, .ref q_5, .ref q_6, .ref q_7, .null])), (q_1, .inl (cA_1, 20, .inl (fun _ => 0))), (q_2, .inl (cA_2, 20, .inl (fun _ => 0))), (q_3, .inl (cA_3, 20, .inl (fun _ => 0))), (q_4, .inl (cA_4, 20, .inl (fun _ => 0))), (q_5, .inl (cA_5, 20, .inl (fun _ => 0))), (q_6, .inl (cA_6, 20, .inl (fun _ => 0))), (q_7, .inl (cA_7, 20, .inl (fun _ => 0))), (q_8, .inl (cA_8, 20, .inl (fun _ => 0)))] := hD
  have hK : va_K (dC, dI) vwCl [(cA_1, .int), (cA_2, .int), (cA_3, .int), (cA_4, .int), (cA_5, .int), (cA_6, .int), (cA_7, .int), (cA_8, .int)] s := hK
  refine W.widen (k := 8) (n := 160) (Nat.le_of_ble_eq_true rfl) (Nat.le_of_ble_eq_true rfl) ?_
  refine va_putF (D := (dC, dI)) (ci := 10) (v := .ref q_8) (ty := .array .int) (C := RX10) (T := TX10) (N := 9) hx hb hts iCX10 tyX10 tyX10_ok nmX10 hown hK hP hD hS 0 rfl rfl 8 (by decide) (hts (.fieldLink RX10 33 "WalkingTown$Wheels" "at" "[I") (List.mem_cons_of_mem _ kw_1_161)) (fun _ h9 => h9) rfl hin rfl (by decide +kernel) rfl rfl (Nat.le_of_ble_eq_true rfl) dX10_init_65 (fun H locs hP hD hS => ?_)
  have hP : va_P (dC, dI) vwCl [(h0, .inr (10, [.int 0, .ref q_1, .ref q_2, .ref q_3, .ref q_4, .ref q_5, .ref q_6, .ref q_7, .ref q_8])), (q_1, .inl (cA_1, 20, .inl (fun _ => 0))), (q_2, .inl (cA_2, 20, .inl (fun _ => 0))), (q_3, .inl (cA_3, 20, .inl (fun _ => 0))), (q_4, .inl (cA_4, 20, .inl (fun _ => 0))), (q_5, .inl (cA_5, 20, .inl (fun _ => 0))), (q_6, .inl (cA_6, 20, .inl (fun _ => 0))), (q_7, .inl (cA_7, 20, .inl (fun _ => 0))), (q_8, .inl (cA_8, 20, .inl (fun _ => 0)))] H := hP
  have hD : va_D A [(h0, .inr (10, [.int 0, .ref q_1, .ref q_2, .ref q_3, .ref q_4, .ref q_5, .ref q_6, .ref q_7, .ref q_8])), (q_1, .inl (cA_1, 20, .inl (fun _ => 0))), (q_2, .inl (cA_2, 20, .inl (fun _ => 0))), (q_3, .inl (cA_3, 20, .inl (fun _ => 0))), (q_4, .inl (cA_4, 20, .inl (fun _ => 0))), (q_5, .inl (cA_5, 20, .inl (fun _ => 0))), (q_6, .inl (cA_6, 20, .inl (fun _ => 0))), (q_7, .inl (cA_7, 20, .inl (fun _ => 0))), (q_8, .inl (cA_8, 20, .inl (fun _ => 0)))] := hD
  have hP9 := hP.sub (ws' := [(h0, .inr (10, [.int 0, .ref q_1, .ref q_2, .ref q_3, .ref q_4, .ref q_5, .ref q_6, .ref q_7, .ref q_8])), (q_1, .inl (cA_1, 20, .inl (fun _ => 0))), (q_2, .inl (cA_2, 20, .inl (fun _ => 0))), (q_3, .inl (cA_3, 20, .inl (fun _ => 0))), (q_4, .inl (cA_4, 20, .inl (fun _ => 0))), (q_5, .inl (cA_5, 20, .inl (fun _ => 0))), (q_6, .inl (cA_6, 20, .inl (fun _ => 0))), (q_7, .inl (cA_7, 20, .inl (fun _ => 0))), (q_8, .inl (cA_8, 20, .inl (fun _ => 0)))]) [0, 1, 2, 3, 4, 5, 6, 7, 8] rfl
  have hD9 := hD.sub (ws' := [(h0, .inr (10, [.int 0, .ref q_1, .ref q_2, .ref q_3, .ref q_4, .ref q_5, .ref q_6, .ref q_7, .ref q_8])), (q_1, .inl (cA_1, 20, .inl (fun _ => 0))), (q_2, .inl (cA_2, 20, .inl (fun _ => 0))), (q_3, .inl (cA_3, 20, .inl (fun _ => 0))), (q_4, .inl (cA_4, 20, .inl (fun _ => 0))), (q_5, .inl (cA_5, 20, .inl (fun _ => 0))), (q_6, .inl (cA_6, 20, .inl (fun _ => 0))), (q_7, .inl (cA_7, 20, .inl (fun _ => 0))), (q_8, .inl (cA_8, 20, .inl (fun _ => 0)))]) [0, 1, 2, 3, 4, 5, 6, 7, 8] (by decide) rfl
  have hK9 := hK.sub (tys' := [(cA_1, .int), (cA_2, .int), (cA_3, .int), (cA_4, .int), (cA_5, .int), (cA_6, .int), (cA_7, .int), (cA_8, .int)]) [0, 1, 2, 3, 4, 5, 6, 7] rfl
  refine W.widen (k := 8) (n := 160) (Nat.le_of_ble_eq_true rfl) (Nat.le_of_ble_eq_true rfl) ?_
  exact W.vret hx hb hr (fun t ht hW => ⟨⟨(), rfl, trivial, ⟨q_1, cA_1, q_2, cA_2, q_3, cA_3, q_4, cA_4, q_5, cA_5, q_6, cA_6, q_7, cA_7, q_8, cA_8, by rw [ht]; exact hP9, va_K.moved hW.alike hK9, hD9⟩⟩, hS.F ht⟩) hS.2.2 dX10_init_68
set_option maxHeartbeats 4000000 in
set_option maxRecDepth 100000 in
theorem x_Ways_init (l : Launch) (dC : Nat → ClassId) (dI : Nat → Nat → Nat) (sz : Nat) (h0 : Nat) (t0 : Nat) : Met l yX9_init (.code yX9_init cX9_init 2 none :: lw_good) ({ frames := 2, cells := 7, slots := 520, locals := 60 }) (va_Pc [.ref h0, .ref t0] (fun U => U.heap.size = sz ∧ va_P (dC, dI) vwCl [(h0, .inr (9, [.null, .int 0, .null, .null, .null, .null, .null, .null, .null]))] U.heap ∧ va_K (dC, dI) vwCl [] U ∧ va_D (fun _ => True) [(h0, .inr (9, [.null, .int 0, .null, .null, .null, .null, .null, .null, .null]))])) (va_Qv (fun (_ : Unit) => True) (fun (_ : Unit) (t : State) => ∃ (b2 : Nat), ∃ (k2 : ClassId), ∃ (b3 : Nat), ∃ (k3 : ClassId), ∃ (b4 : Nat), ∃ (k4 : ClassId), ∃ (b5 : Nat), ∃ (k5 : ClassId), ∃ (b6 : Nat), ∃ (k6 : ClassId), ∃ (b7 : Nat), ∃ (k7 : ClassId), ∃ (b8 : Nat), ∃ (k8 : ClassId), va_P (dC, dI) vwCl [(h0, .inr (9, [.ref t0, .int 0, .ref b2, .ref b3, .ref b4, .ref b5, .ref b6, .ref b7, .ref b8])), (b2, .inl (k2, 80, .inl (fun _ => 0))), (b3, .inl (k3, 80, .inl (fun _ => 0))), (b4, .inl (k4, 80, .inl (fun _ => 0))), (b5, .inl (k5, 80, .inl (fun _ => 0))), (b6, .inl (k6, 80, .inl (fun _ => 0))), (b7, .inl (k7, 80, .inl (fun _ => 0))), (b8, .inl (k8, 40, .inl (fun _ => 0)))] t.heap ∧ va_K (dC, dI) vwCl [(k2, .int), (k3, .int), (k4, .int), (k5, .int), (k6, .int), (k7, .int), (k8, .int)] t ∧ va_D (va_A [(h0, .inr (9, [.null, .int 0, .null, .null, .null, .null, .null, .null, .null]))] sz) [(h0, .inr (9, [.ref t0, .int 0, .ref b2, .ref b3, .ref b4, .ref b5, .ref b6, .ref b7, .ref b8])), (b2, .inl (k2, 80, .inl (fun _ => 0))), (b3, .inl (k3, 80, .inl (fun _ => 0))), (b4, .inl (k4, 80, .inl (fun _ => 0))), (b5, .inl (k5, 80, .inl (fun _ => 0))), (b6, .inl (k6, 80, .inl (fun _ => 0))), (b7, .inl (k7, 80, .inl (fun _ => 0))), (b8, .inl (k8, 40, .inl (fun _ => 0)))]) (va_A [(h0, .inr (9, [.null, .int 0, .null, .null, .null, .null, .null, .null, .null]))] sz)) 7 520 (va_A [(h0, .inr (9, [.null, .int 0, .null, .null, .null, .null, .null, .null, .null]))] sz) := by
  refine Met.ofW (cc := cX9_init) (maxL := 2) (ret := none) (by decide) rfl ?_
  intro p e s m args below meth c s₁ B hml hv
  obtain ⟨rfl, hsz, hP, hK, hD0⟩ := hv
  have hx := B.exec
  have hb := B.bytes
  have hr := B.returns
  have hts := atoms_spec (ws := (.code yX9_init cX9_init 2 none :: lw_good)) B.pre
  have hown : s.vm.findClass RX9 = some m.cls := findClass_of_methodNamed B.named
  have hlocks := B.notSynchronized
  have hin : meth.name = "<init>" := (name_of_methodNamed B.named B.method).1
  subst hsz
  have hD := hD0.self (sz := s.heap.size)
  generalize hAe : va_A [(h0, .inr (9, [.null, .int 0, .null, .null, .null, .null, .null, .null, .null]))] s.heap.size = A at hD ⊢
  have hA : ∀ q : Nat, s.heap.size ≤ q → A q := fun q h => by rw [← hAe]; exact Or.inr h
  have hS : va_S A s.heap s.heap [] := va_S.rf
  have hP : va_P (dC, dI) vwCl [(h0, .inr (9, [.null, .int 0, .null, .null, .null, .null, .null, .null, .null]))] s.heap := hP
  have hl := lv_entry ([.ref h0, .ref t0]) (n := 2) (Nat.le_of_ble_eq_true rfl)
  rw [lg_entry_eq]
  generalize (lg_sl ([.ref h0, .ref t0]) ++ List.replicate (2 - (lg_sl ([.ref h0, .ref t0])).length) Slot.unset).toArray = ls at hl ⊢
  have hl : lv_has ls 2 [(0, .ref h0), (1, .ref t0)] := hl
  refine lv_aload_n hx hb dX9_init_0 rfl (lv_at hl 0 rfl) ?_
  refine W.objInit hx hb hown (hts (.methodLink RX9 3 objectInit) (List.mem_cons_of_mem _ kw_2_192)) (hts (.instanceMethod objectInit) (List.mem_cons_of_mem _ kw_1_38)) (hts (.code objectInit ⟨#[0xb1]⟩ 1 none) (List.mem_cons_of_mem _ kw_1_39)) rfl (by rw [hml]; exact hl.1) rfl dX9_init_1 (Nat.le_of_ble_eq_true rfl) (Nat.le_of_ble_eq_true rfl) ?_
  refine W.eq (g2 := F0 m 4 ls []) rfl ?_
  refine lv_aload_n hx hb dX9_init_4 rfl (lv_at hl 0 rfl) ?_
  refine lv_aload_n hx hb dX9_init_5 rfl (lv_at hl 1 rfl) ?_
  refine va_putF (D := (dC, dI)) (ci := 9) (v := .ref t0) (ty := .object "WalkingTown$Town") (C := RX9) (T := TX9) (N := 9) hx hb hts iCX9 tyX9 tyX9_ok nmX9 hown hK hP hD hS 0 rfl rfl 0 (by decide) (hts (.fieldLink RX9 9 "WalkingTown$Ways" "town" "LWalkingTown$Town;") (List.mem_cons_of_mem _ kw_2_193)) (fun _ h9 => h9) rfl hin rfl (by decide +kernel) rfl rfl (Nat.le_of_ble_eq_true rfl) dX9_init_6 (fun H locs hP hD hS => ?_)
  have hP : va_P (dC, dI) vwCl [(h0, .inr (9, [.ref t0, .int 0, .null, .null, .null, .null, .null, .null, .null]))] H := hP
  have hD : va_D A [(h0, .inr (9, [.ref t0, .int 0, .null, .null, .null, .null, .null, .null, .null]))] := hD
  refine lv_aload_n hx hb dX9_init_9 rfl (lv_at hl 0 rfl) ?_
  refine lv_bipush (v := 80) hx hb dX9_init_10 (by decide) ?_
  refine va_newa (atype := .int) (N' := 80) (a0 := (80, .inl (fun _ => 0))) hx hb (hts (.arrayClass .int) (List.mem_cons_of_mem _ kw_1_60)) (ty := .int) rfl hK hP hD hS hA (fun _ => rfl) (by decide) (by decide) (by decide) (Nat.le_of_ble_eq_true rfl) (Nat.le_of_ble_eq_true rfl) dX9_init_12 (fun q_1 cA_1 H hK hP hD hS => ?_)
  have hP : va_P (dC, dI) vwCl [(h0, .inr (9, [.ref t0, .int 0, .null, .null, .null, .null, .null, .null, .null])), (q_1, .inl (cA_1, 80, .inl (fun _ => 0)))] H := hP
  have hD : va_D A [(h0, .inr (9, [.ref t0, .int 0, .null, .null, .null, .null, .null, .null, .null])), (q_1, .inl (cA_1, 80, .inl (fun _ => 0)))] := hD
  have hK : va_K (dC, dI) vwCl [(cA_1, .int)] s := hK
  refine W.widen (k := 1) (n := 80) (Nat.le_of_ble_eq_true rfl) (Nat.le_of_ble_eq_true rfl) ?_
  refine va_putF (D := (dC, dI)) (ci := 9) (v := .ref q_1) (ty := .array .int) (C := RX9) (T := TX9) (N := 9) hx hb hts iCX9 tyX9 tyX9_ok nmX9 hown hK hP hD hS 0 rfl rfl 2 (by decide) (hts (.fieldLink RX9 17 "WalkingTown$Ways" "trip" "[I") (List.mem_cons_of_mem _ kw_2_195)) (fun _ h9 => h9) rfl hin rfl (by decide +kernel) rfl rfl (Nat.le_of_ble_eq_true rfl) dX9_init_14 (fun H locs hP hD hS => ?_)
  have hP : va_P (dC, dI) vwCl [(h0, .inr (9, [.ref t0, .int 0, .ref q_1, .null, .null, .null, .null, .null, .null])), (q_1, .inl (cA_1, 80, .inl (fun _ => 0)))] H := hP
  have hD : va_D A [(h0, .inr (9, [.ref t0, .int 0, .ref q_1, .null, .null, .null, .null, .null, .null])), (q_1, .inl (cA_1, 80, .inl (fun _ => 0)))] := hD
  refine lv_aload_n hx hb dX9_init_17 rfl (lv_at hl 0 rfl) ?_
  refine lv_bipush (v := 80) hx hb dX9_init_18 (by decide) ?_
  refine va_newa (atype := .int) (N' := 80) (a0 := (80, .inl (fun _ => 0))) hx hb (hts (.arrayClass .int) (List.mem_cons_of_mem _ kw_1_60)) (ty := .int) rfl hK hP hD hS hA (fun _ => rfl) (by decide) (by decide) (by decide) (Nat.le_of_ble_eq_true rfl) (Nat.le_of_ble_eq_true rfl) dX9_init_20 (fun q_2 cA_2 H hK hP hD hS => ?_)
  have hP : va_P (dC, dI) vwCl [(h0, .inr (9, [.ref t0, .int 0, .ref q_1, .null, .null, .null, .null, .null, .null])), (q_1, .inl (cA_1, 80, .inl (fun _ => 0))), (q_2, .inl (cA_2, 80, .inl (fun _ => 0)))] H := hP
  have hD : va_D A [(h0, .inr (9, [.ref t0, .int 0, .ref q_1, .null, .null, .null, .null, .null, .null])), (q_1, .inl (cA_1, 80, .inl (fun _ => 0))), (q_2, .inl (cA_2, 80, .inl (fun _ => 0)))] := hD
  have hK : va_K (dC, dI) vwCl [(cA_1, .int), (cA_2, .int)] s := hK
  refine W.widen (k := 2) (n := 160) (Nat.le_of_ble_eq_true rfl) (Nat.le_of_ble_eq_true rfl) ?_
  refine va_putF (D := (dC, dI)) (ci := 9) (v := .ref q_2) (ty := .array .int) (C := RX9) (T := TX9) (N := 9) hx hb hts iCX9 tyX9 tyX9_ok nmX9 hown hK hP hD hS 0 rfl rfl 3 (by decide) (hts (.fieldLink RX9 21 "WalkingTown$Ways" "comes" "[I") (List.mem_cons_of_mem _ kw_2_196)) (fun _ h9 => h9) rfl hin rfl (by decide +kernel) rfl rfl (Nat.le_of_ble_eq_true rfl) dX9_init_22 (fun H locs hP hD hS => ?_)
  have hP : va_P (dC, dI) vwCl [(h0, .inr (9, [.ref t0, .int 0, .ref q_1, .ref q_2, .null, .null, .null, .null, .null])), (q_1, .inl (cA_1, 80, .inl (fun _ => 0))), (q_2, .inl (cA_2, 80, .inl (fun _ => 0)))] H := hP
  have hD : va_D A [(h0, .inr (9, [.ref t0, .int 0, .ref q_1, .ref q_2, .null, .null, .null, .null, .null])), (q_1, .inl (cA_1, 80, .inl (fun _ => 0))), (q_2, .inl (cA_2, 80, .inl (fun _ => 0)))] := hD
  refine lv_aload_n hx hb dX9_init_25 rfl (lv_at hl 0 rfl) ?_
  refine lv_bipush (v := 80) hx hb dX9_init_26 (by decide) ?_
  refine va_newa (atype := .int) (N' := 80) (a0 := (80, .inl (fun _ => 0))) hx hb (hts (.arrayClass .int) (List.mem_cons_of_mem _ kw_1_60)) (ty := .int) rfl hK hP hD hS hA (fun _ => rfl) (by decide) (by decide) (by decide) (Nat.le_of_ble_eq_true rfl) (Nat.le_of_ble_eq_true rfl) dX9_init_28 (fun q_3 cA_3 H hK hP hD hS => ?_)
  have hP : va_P (dC, dI) vwCl [(h0, .inr (9, [.ref t0, .int 0, .ref q_1, .ref q_2, .null, .null, .null, .null, .null])), (q_1, .inl (cA_1, 80, .inl (fun _ => 0))), (q_2, .inl (cA_2, 80, .inl (fun _ => 0))), (q_3, .inl (cA_3, 80, .inl (fun _ => 0)))] H := hP
  have hD : va_D A [(h0, .inr (9, [.ref t0, .int 0, .ref q_1, .ref q_2, .null, .null, .null, .null, .null])), (q_1, .inl (cA_1, 80, .inl (fun _ => 0))), (q_2, .inl (cA_2, 80, .inl (fun _ => 0))), (q_3, .inl (cA_3, 80, .inl (fun _ => 0)))] := hD
  have hK : va_K (dC, dI) vwCl [(cA_1, .int), (cA_2, .int), (cA_3, .int)] s := hK
  refine W.widen (k := 3) (n := 240) (Nat.le_of_ble_eq_true rfl) (Nat.le_of_ble_eq_true rfl) ?_
  refine va_putF (D := (dC, dI)) (ci := 9) (v := .ref q_3) (ty := .array .int) (C := RX9) (T := TX9) (N := 9) hx hb hts iCX9 tyX9 tyX9_ok nmX9 hown hK hP hD hS 0 rfl rfl 4 (by decide) (hts (.fieldLink RX9 24 "WalkingTown$Ways" "laterHere" "[I") (List.mem_cons_of_mem _ kw_2_197)) (fun _ h9 => h9) rfl hin rfl (by decide +kernel) rfl rfl (Nat.le_of_ble_eq_true rfl) dX9_init_30 (fun H locs hP hD hS => ?_)
  have hP : va_P (dC, dI) vwCl [(h0, .inr (9, [.ref t0, .int 0, .ref q_1, .ref q_2, .ref q_3, .null, .null, .null, .null])), (q_1, .inl (cA_1, 80, .inl (fun _ => 0))), (q_2, .inl (cA_2, 80, .inl (fun _ => 0))), (q_3, .inl (cA_3, 80, .inl (fun _ => 0)))] H := hP
  have hD : va_D A [(h0, .inr (9, [.ref t0, .int 0, .ref q_1, .ref q_2, .ref q_3, .null, .null, .null, .null])), (q_1, .inl (cA_1, 80, .inl (fun _ => 0))), (q_2, .inl (cA_2, 80, .inl (fun _ => 0))), (q_3, .inl (cA_3, 80, .inl (fun _ => 0)))] := hD
  refine lv_aload_n hx hb dX9_init_33 rfl (lv_at hl 0 rfl) ?_
  refine lv_bipush (v := 80) hx hb dX9_init_34 (by decide) ?_
  refine va_newa (atype := .int) (N' := 80) (a0 := (80, .inl (fun _ => 0))) hx hb (hts (.arrayClass .int) (List.mem_cons_of_mem _ kw_1_60)) (ty := .int) rfl hK hP hD hS hA (fun _ => rfl) (by decide) (by decide) (by decide) (Nat.le_of_ble_eq_true rfl) (Nat.le_of_ble_eq_true rfl) dX9_init_36 (fun q_4 cA_4 H hK hP hD hS => ?_)
  have hP : va_P (dC, dI) vwCl [(h0, .inr (9, [.ref t0, .int 0, .ref q_1, .ref q_2, .ref q_3, .null, .null, .null, .null])), (q_1, .inl (cA_1, 80, .inl (fun _ => 0))), (q_2, .inl (cA_2, 80, .inl (fun _ => 0))), (q_3, .inl (cA_3, 80, .inl (fun _ => 0))), (q_4, .inl (cA_4, 80, .inl (fun _ => 0)))] H := hP
  have hD : va_D A [(h0, .inr (9, [.ref t0, .int 0, .ref q_1, .ref q_2, .ref q_3, .null, .null, .null, .null])), (q_1, .inl (cA_1, 80, .inl (fun _ => 0))), (q_2, .inl (cA_2, 80, .inl (fun _ => 0))), (q_3, .inl (cA_3, 80, .inl (fun _ => 0))), (q_4, .inl (cA_4, 80, .inl (fun _ => 0)))] := hD
  have hK : va_K (dC, dI) vwCl [(cA_1, .int), (cA_2, .int), (cA_3, .int), (cA_4, .int)] s := hK
  refine W.widen (k := 4) (n := 320) (Nat.le_of_ble_eq_true rfl) (Nat.le_of_ble_eq_true rfl) ?_
  refine va_putF (D := (dC, dI)) (ci := 9) (v := .ref q_4) (ty := .array .int) (C := RX9) (T := TX9) (N := 9) hx hb hts iCX9 tyX9 tyX9_ok nmX9 hown hK hP hD hS 0 rfl rfl 5 (by decide) (hts (.fieldLink RX9 27 "WalkingTown$Ways" "onward" "[I") (List.mem_cons_of_mem _ kw_2_198)) (fun _ h9 => h9) rfl hin rfl (by decide +kernel) rfl rfl (Nat.le_of_ble_eq_true rfl) dX9_init_38 (fun H locs hP hD hS => ?_)
  have hP : va_P (dC, dI) vwCl [(h0, .inr (9, [.ref t0, .int 0, .ref q_1, .ref q_2, .ref q_3, .ref q_4, .null, .null, .null])), (q_1, .inl (cA_1, 80, .inl (fun _ => 0))), (q_2, .inl (cA_2, 80, .inl (fun _ => 0))), (q_3, .inl (cA_3, 80, .inl (fun _ => 0))), (q_4, .inl (cA_4, 80, .inl (fun _ => 0)))] H := hP
  have hD : va_D A [(h0, .inr (9, [.ref t0, .int 0, .ref q_1, .ref q_2, .ref q_3, .ref q_4, .null, .null, .null])), (q_1, .inl (cA_1, 80, .inl (fun _ => 0))), (q_2, .inl (cA_2, 80, .inl (fun _ => 0))), (q_3, .inl (cA_3, 80, .inl (fun _ => 0))), (q_4, .inl (cA_4, 80, .inl (fun _ => 0)))] := hD
  refine lv_aload_n hx hb dX9_init_41 rfl (lv_at hl 0 rfl) ?_
  refine lv_bipush (v := 80) hx hb dX9_init_42 (by decide) ?_
  refine va_newa (atype := .int) (N' := 80) (a0 := (80, .inl (fun _ => 0))) hx hb (hts (.arrayClass .int) (List.mem_cons_of_mem _ kw_1_60)) (ty := .int) rfl hK hP hD hS hA (fun _ => rfl) (by decide) (by decide) (by decide) (Nat.le_of_ble_eq_true rfl) (Nat.le_of_ble_eq_true rfl) dX9_init_44 (fun q_5 cA_5 H hK hP hD hS => ?_)
  have hP : va_P (dC, dI) vwCl [(h0, .inr (9, [.ref t0, .int 0, .ref q_1, .ref q_2, .ref q_3, .ref q_4, .null, .null, .null])), (q_1, .inl (cA_1, 80, .inl (fun _ => 0))), (q_2, .inl (cA_2, 80, .inl (fun _ => 0))), (q_3, .inl (cA_3, 80, .inl (fun _ => 0))), (q_4, .inl (cA_4, 80, .inl (fun _ => 0))), (q_5, .inl (cA_5, 80, .inl (fun _ => 0)))] H := hP
  have hD : va_D A [(h0, .inr (9, [.ref t0, .int 0, .ref q_1, .ref q_2, .ref q_3, .ref q_4, .null, .null, .null])), (q_1, .inl (cA_1, 80, .inl (fun _ => 0))), (q_2, .inl (cA_2, 80, .inl (fun _ => 0))), (q_3, .inl (cA_3, 80, .inl (fun _ => 0))), (q_4, .inl (cA_4, 80, .inl (fun _ => 0))), (q_5, .inl (cA_5, 80, .inl (fun _ => 0)))] := hD
  have hK : va_K (dC, dI) vwCl [(cA_1, .int), (cA_2, .int), (cA_3, .int), (cA_4, .int), (cA_5, .int)] s := hK
  refine W.widen (k := 5) (n := 400) (Nat.le_of_ble_eq_true rfl) (Nat.le_of_ble_eq_true rfl) ?_
  refine va_putF (D := (dC, dI)) (ci := 9) (v := .ref q_5) (ty := .array .int) (C := RX9) (T := TX9) (N := 9) hx hb hts iCX9 tyX9 tyX9_ok nmX9 hown hK hP hD hS 0 rfl rfl 6 (by decide) (hts (.fieldLink RX9 30 "WalkingTown$Ways" "atWork" "[I") (List.mem_cons_of_mem _ kw_2_199)) (fun _ h9 => h9) rfl hin rfl (by decide +kernel) rfl rfl (Nat.le_of_ble_eq_true rfl) dX9_init_46 (fun H locs hP hD hS => ?_)
  have hP : va_P (dC, dI) vwCl [(h0, .inr (9, [.ref t0, .int 0, .ref q_1, .ref q_2, .ref q_3, .ref q_4, .ref q_5, .null, .null])), (q_1, .inl (cA_1, 80, .inl (fun _ => 0))), (q_2, .inl (cA_2, 80, .inl (fun _ => 0))), (q_3, .inl (cA_3, 80, .inl (fun _ => 0))), (q_4, .inl (cA_4, 80, .inl (fun _ => 0))), (q_5, .inl (cA_5, 80, .inl (fun _ => 0)))] H := hP
  have hD : va_D A [(h0, .inr (9, [.ref t0, .int 0, .ref q_1, .ref q_2, .ref q_3, .ref q_4, .ref q_5, .null, .null])), (q_1, .inl (cA_1, 80, .inl (fun _ => 0))), (q_2, .inl (cA_2, 80, .inl (fun _ => 0))), (q_3, .inl (cA_3, 80, .inl (fun _ => 0))), (q_4, .inl (cA_4, 80, .inl (fun _ => 0))), (q_5, .inl (cA_5, 80, .inl (fun _ => 0)))] := hD
  refine lv_aload_n hx hb dX9_init_49 rfl (lv_at hl 0 rfl) ?_
  refine lv_bipush (v := 80) hx hb dX9_init_50 (by decide) ?_
  refine va_newa (atype := .int) (N' := 80) (a0 := (80, .inl (fun _ => 0))) hx hb (hts (.arrayClass .int) (List.mem_cons_of_mem _ kw_1_60)) (ty := .int) rfl hK hP hD hS hA (fun _ => rfl) (by decide) (by decide) (by decide) (Nat.le_of_ble_eq_true rfl) (Nat.le_of_ble_eq_true rfl) dX9_init_52 (fun q_6 cA_6 H hK hP hD hS => ?_)
  have hP : va_P (dC, dI) vwCl [(h0, .inr (9, [.ref t0, .int 0, .ref q_1, .ref q_2, .ref q_3, .ref q_4, .ref q_5, .null, .null])), (q_1, .inl (cA_1, 80, .inl (fun _ => 0))), (q_2, .inl (cA_2, 80, .inl (fun _ => 0))), (q_3, .inl (cA_3, 80, .inl (fun _ => 0))), (q_4, .inl (cA_4, 80, .inl (fun _ => 0))), (q_5, .inl (cA_5, 80, .inl (fun _ => 0))), (q_6, .inl (cA_6, 80, .inl (fun _ => 0)))] H := hP
  have hD : va_D A [(h0, .inr (9, [.ref t0, .int 0, .ref q_1, .ref q_2, .ref q_3, .ref q_4, .ref q_5, .null, .null])), (q_1, .inl (cA_1, 80, .inl (fun _ => 0))), (q_2, .inl (cA_2, 80, .inl (fun _ => 0))), (q_3, .inl (cA_3, 80, .inl (fun _ => 0))), (q_4, .inl (cA_4, 80, .inl (fun _ => 0))), (q_5, .inl (cA_5, 80, .inl (fun _ => 0))), (q_6, .inl (cA_6, 80, .inl (fun _ => 0)))] := hD
  have hK : va_K (dC, dI) vwCl [(cA_1, .int), (cA_2, .int), (cA_3, .int), (cA_4, .int), (cA_5, .int), (cA_6, .int)] s := hK
  refine W.widen (k := 6) (n := 480) (Nat.le_of_ble_eq_true rfl) (Nat.le_of_ble_eq_true rfl) ?_
  refine va_putF (D := (dC, dI)) (ci := 9) (v := .ref q_6) (ty := .array .int) (C := RX9) (T := TX9) (N := 9) hx hb hts iCX9 tyX9 tyX9_ok nmX9 hown hK hP hD hS 0 rfl rfl 7 (by decide) (hts (.fieldLink RX9 33 "WalkingTown$Ways" "best" "[I") (List.mem_cons_of_mem _ kw_2_200)) (fun _ h9 => h9) rfl hin rfl (by decide +kernel) rfl rfl (Nat.le_of_ble_eq_true rfl) dX9_init_54 (fun H locs hP hD hS => ?_)
  have hP : va_P (dC, dI) vwCl [(h0, .inr (9, [.ref t0, .int 0, .ref q_1, .ref q_2, .ref q_3, .ref q_4, .ref q_5, .ref q_6, .null])), (q_1, .inl (cA_1, 80, .inl (fun _ => 0))), (q_2, .inl (cA_2, 80, .inl (fun _ => 0))), (q_3, .inl (cA_3, 80, .inl (fun _ => 0))), (q_4, .inl (cA_4, 80, .inl (fun _ => 0))), (q_5, .inl (cA_5, 80, .inl (fun _ => 0))), (q_6, .inl (cA_6, 80, .inl (fun _ => 0)))] H := hP
  have hD : va_D A [(h0, .inr (9, [.ref t0, .int 0, .ref q_1, .ref q_2, .ref q_3, .ref q_4, .ref q_5, .ref q_6, .null])), (q_1, .inl (cA_1, 80, .inl (fun _ => 0))), (q_2, .inl (cA_2, 80, .inl (fun _ => 0))), (q_3, .inl (cA_3, 80, .inl (fun _ => 0))), (q_4, .inl (cA_4, 80, .inl (fun _ => 0))), (q_5, .inl (cA_5, 80, .inl (fun _ => 0))), (q_6, .inl (cA_6, 80, .inl (fun _ => 0)))] := hD
  refine lv_aload_n hx hb dX9_init_57 rfl (lv_at hl 0 rfl) ?_
  refine lv_bipush (v := 40) hx hb dX9_init_58 (by decide) ?_
  refine va_newa (atype := .int) (N' := 40) (a0 := (40, .inl (fun _ => 0))) hx hb (hts (.arrayClass .int) (List.mem_cons_of_mem _ kw_1_60)) (ty := .int) rfl hK hP hD hS hA (fun _ => rfl) (by decide) (by decide) (by decide) (Nat.le_of_ble_eq_true rfl) (Nat.le_of_ble_eq_true rfl) dX9_init_60 (fun q_7 cA_7 H hK hP hD hS => ?_)
  have hP : va_P (dC, dI) vwCl [(h0, .inr (9, [.ref t0, .int 0, .ref q_1, .ref q_2, .ref q_3, .ref q_4, .ref q_5, .ref q_6, .null])), (q_1, .inl (cA_1, 80, .inl (fun _ => 0))), (q_2, .inl (cA_2, 80, .inl (fun _ => 0))), (q_3, .inl (cA_3, 80, .inl (fun _ => 0))), (q_4, .inl (cA_4, 80, .inl (fun _ => 0))), (q_5, .inl (cA_5, 80, .inl (fun _ => 0))), (q_6, .inl (cA_6, 80, .inl (fun _ => 0))), (q_7, .inl (cA_7, 40, .inl (fun _ => 0)))] H := hP
  have hD : va_D A [(h0, .inr (9, [.ref t0, .int 0, .ref q_1, .ref q_2, .ref q_3, .ref q_4, .ref q_5, .ref q_6, .null])), (q_1, .inl (cA_1, 80, .inl (fun _ => 0))), (q_2, .inl (cA_2, 80, .inl (fun _ => 0))), (q_3, .inl (cA_3, 80, .inl (fun _ => 0))), (q_4, .inl (cA_4, 80, .inl (fun _ => 0))), (q_5, .inl (cA_5, 80, .inl (fun _ => 0))), (q_6, .inl (cA_6, 80, .inl (fun _ => 0))), (q_7, .inl (cA_7, 40, .inl (fun _ => 0)))] := hD
  have hK : va_K (dC, dI) vwCl [(cA_1, .int), (cA_2, .int), (cA_3, .int), (cA_4, .int), (cA_5, .int), (cA_6, .int), (cA_7, .int)] s := hK
  refine W.widen (k := 7) (n := 520) (Nat.le_of_ble_eq_true rfl) (Nat.le_of_ble_eq_true rfl) ?_
  refine va_putF (D := (dC, dI)) (ci := 9) (v := .ref q_7) (ty := .array .int) (C := RX9) (T := TX9) (N := 9) hx hb hts iCX9 tyX9 tyX9_ok nmX9 hown hK hP hD hS 0 rfl rfl 8 (by decide) (hts (.fieldLink RX9 38 "WalkingTown$Ways" "pace" "[I") (List.mem_cons_of_mem _ kw_2_201)) (fun _ h9 => h9) rfl hin rfl (by decide +kernel) rfl rfl (Nat.le_of_ble_eq_true rfl) dX9_init_62 (fun H locs hP hD hS => ?_)
  have hP : va_P (dC, dI) vwCl [(h0, .inr (9, [.ref t0, .int 0, .ref q_1, .ref q_2, .ref q_3, .ref q_4, .ref q_5, .ref q_6, .ref q_7])), (q_1, .inl (cA_1, 80, .inl (fun _ => 0))), (q_2, .inl (cA_2, 80, .inl (fun _ => 0))), (q_3, .inl (cA_3, 80, .inl (fun _ => 0))), (q_4, .inl (cA_4, 80, .inl (fun _ => 0))), (q_5, .inl (cA_5, 80, .inl (fun _ => 0))), (q_6, .inl (cA_6, 80, .inl (fun _ => 0))), (q_7, .inl (cA_7, 40, .inl (fun _ => 0)))] H := hP
  have hD : va_D A [(h0, .inr (9, [.ref t0, .int 0, .ref q_1, .ref q_2, .ref q_3, .ref q_4, .ref q_5, .ref q_6, .ref q_7])), (q_1, .inl (cA_1, 80, .inl (fun _ => 0))), (q_2, .inl (cA_2, 80, .inl (fun _ => 0))), (q_3, .inl (cA_3, 80, .inl (fun _ => 0))), (q_4, .inl (cA_4, 80, .inl (fun _ => 0))), (q_5, .inl (cA_5, 80, .inl (fun _ => 0))), (q_6, .inl (cA_6, 80, .inl (fun _ => 0))), (q_7, .inl (cA_7, 40, .inl (fun _ => 0)))] := hD
  have hP9 := hP.sub (ws' := [(h0, .inr (9, [.ref t0, .int 0, .ref q_1, .ref q_2, .ref q_3, .ref q_4, .ref q_5, .ref q_6, .ref q_7])), (q_1, .inl (cA_1, 80, .inl (fun _ => 0))), (q_2, .inl (cA_2, 80, .inl (fun _ => 0))), (q_3, .inl (cA_3, 80, .inl (fun _ => 0))), (q_4, .inl (cA_4, 80, .inl (fun _ => 0))), (q_5, .inl (cA_5, 80, .inl (fun _ => 0))), (q_6, .inl (cA_6, 80, .inl (fun _ => 0))), (q_7, .inl (cA_7, 40, .inl (fun _ => 0)))]) [0, 1, 2, 3, 4, 5, 6, 7] rfl
  have hD9 := hD.sub (ws' := [(h0, .inr (9, [.ref t0, .int 0, .ref q_1, .ref q_2, .ref q_3, .ref q_4, .ref q_5, .ref q_6, .ref q_7])), (q_1, .inl (cA_1, 80, .inl (fun _ => 0))), (q_2, .inl (cA_2, 80, .inl (fun _ => 0))), (q_3, .inl (cA_3, 80, .inl (fun _ => 0))), (q_4, .inl (cA_4, 80, .inl (fun _ => 0))), (q_5, .inl (cA_5, 80, .inl (fun _ => 0))), (q_6, .inl (cA_6, 80, .inl (fun _ => 0))), (q_7, .inl (cA_7, 40, .inl (fun _ => 0)))]) [0, 1, 2, 3, 4, 5, 6, 7] (by decide) rfl
  have hK9 := hK.sub (tys' := [(cA_1, .int), (cA_2, .int), (cA_3, .int), (cA_4, .int), (cA_5, .int), (cA_6, .int), (cA_7, .int)]) [0, 1, 2, 3, 4, 5, 6] rfl
  refine W.widen (k := 7) (n := 520) (Nat.le_of_ble_eq_true rfl) (Nat.le_of_ble_eq_true rfl) ?_
  exact W.vret hx hb hr (fun t ht hW => ⟨⟨(), rfl, trivial, ⟨q_1, cA_1, q_2, cA_2, q_3, cA_3, q_4, cA_4, q_5, cA_5, q_6, cA_6, q_7, cA_7, by rw [ht]; exact hP9, va_K.moved hW.alike hK9, hD9⟩⟩, hS.F ht⟩) hS.2.2 dX9_init_65
set_option maxHeartbeats 4000000 in
set_option maxRecDepth 100000 in
theorem x_Seating_init (l : Launch) (dC : Nat → ClassId) (dI : Nat → Nat → Nat) (sz : Nat) (h0 : Nat) (t0 : Nat) : Met l yX5_init (.code yX5_init cX5_init 2 none :: lw_good) ({ frames := 2, cells := 9, slots := 421, locals := 60 }) (va_Pc [.ref h0, .ref t0] (fun U => U.heap.size = sz ∧ va_P (dC, dI) vwCl [(h0, .inr (6, [.null, .null, .null, .int 0, .null, .null, .null, .null, .null, .null, .null, .int 0, .int 0, .int 0]))] U.heap ∧ va_K (dC, dI) vwCl [] U ∧ va_D (fun _ => True) [(h0, .inr (6, [.null, .null, .null, .int 0, .null, .null, .null, .null, .null, .null, .null, .int 0, .int 0, .int 0]))])) (va_Qv (fun (_ : Unit) => True) (fun (_ : Unit) (t : State) => ∃ (b1 : Nat), ∃ (k1 : ClassId), ∃ (b2 : Nat), ∃ (k2 : ClassId), ∃ (b4 : Nat), ∃ (k4 : ClassId), ∃ (b5 : Nat), ∃ (k5 : ClassId), ∃ (b6 : Nat), ∃ (k6 : ClassId), ∃ (b7 : Nat), ∃ (k7 : ClassId), ∃ (b8 : Nat), ∃ (k8 : ClassId), ∃ (b9 : Nat), ∃ (k9 : ClassId), ∃ (b10 : Nat), ∃ (k10 : ClassId), va_P (dC, dI) vwCl [(h0, .inr (6, [.ref t0, .ref b1, .ref b2, .int 0, .ref b4, .ref b5, .ref b6, .ref b7, .ref b8, .ref b9, .ref b10, .int 0, .int 0, .int 0])), (b1, .inl (k1, 8, .inr (.inl (fun _ => 0)))), (b2, .inl (k2, 8, .inl (fun _ => 0))), (b4, .inl (k4, 256, .inl (fun _ => 0))), (b5, .inl (k5, 5, .inl (fun _ => 0))), (b6, .inl (k6, 6, .inl (fun _ => 0))), (b7, .inl (k7, 64, .inl (fun _ => 0))), (b8, .inl (k8, 64, .inl (fun _ => 0))), (b9, .inl (k9, 5, .inl (fun _ => 0))), (b10, .inl (k10, 5, .inl (fun _ => 0)))] t.heap ∧ va_K (dC, dI) vwCl [(k1, .long), (k2, .int), (k4, .int), (k5, .int), (k6, .int), (k7, .int), (k8, .int), (k9, .int), (k10, .int)] t ∧ va_D (va_A [(h0, .inr (6, [.null, .null, .null, .int 0, .null, .null, .null, .null, .null, .null, .null, .int 0, .int 0, .int 0]))] sz) [(h0, .inr (6, [.ref t0, .ref b1, .ref b2, .int 0, .ref b4, .ref b5, .ref b6, .ref b7, .ref b8, .ref b9, .ref b10, .int 0, .int 0, .int 0])), (b1, .inl (k1, 8, .inr (.inl (fun _ => 0)))), (b2, .inl (k2, 8, .inl (fun _ => 0))), (b4, .inl (k4, 256, .inl (fun _ => 0))), (b5, .inl (k5, 5, .inl (fun _ => 0))), (b6, .inl (k6, 6, .inl (fun _ => 0))), (b7, .inl (k7, 64, .inl (fun _ => 0))), (b8, .inl (k8, 64, .inl (fun _ => 0))), (b9, .inl (k9, 5, .inl (fun _ => 0))), (b10, .inl (k10, 5, .inl (fun _ => 0)))]) (va_A [(h0, .inr (6, [.null, .null, .null, .int 0, .null, .null, .null, .null, .null, .null, .null, .int 0, .int 0, .int 0]))] sz)) 9 421 (va_A [(h0, .inr (6, [.null, .null, .null, .int 0, .null, .null, .null, .null, .null, .null, .null, .int 0, .int 0, .int 0]))] sz) := by
  refine Met.ofW (cc := cX5_init) (maxL := 2) (ret := none) (by decide) rfl ?_
  intro p e s m args below meth c s₁ B hml hv
  obtain ⟨rfl, hsz, hP, hK, hD0⟩ := hv
  have hx := B.exec
  have hb := B.bytes
  have hr := B.returns
  have hts := atoms_spec (ws := (.code yX5_init cX5_init 2 none :: lw_good)) B.pre
  have hown : s.vm.findClass RX5 = some m.cls := findClass_of_methodNamed B.named
  have hlocks := B.notSynchronized
  have hin : meth.name = "<init>" := (name_of_methodNamed B.named B.method).1
  subst hsz
  have hD := hD0.self (sz := s.heap.size)
  generalize hAe : va_A [(h0, .inr (6, [.null, .null, .null, .int 0, .null, .null, .null, .null, .null, .null, .null, .int 0, .int 0, .int 0]))] s.heap.size = A at hD ⊢
  have hA : ∀ q : Nat, s.heap.size ≤ q → A q := fun q h => by rw [← hAe]; exact Or.inr h
  have hS : va_S A s.heap s.heap [] := va_S.rf
  have hP : va_P (dC, dI) vwCl [(h0, .inr (6, [.null, .null, .null, .int 0, .null, .null, .null, .null, .null, .null, .null, .int 0, .int 0, .int 0]))] s.heap := hP
  have hl := lv_entry ([.ref h0, .ref t0]) (n := 2) (Nat.le_of_ble_eq_true rfl)
  rw [lg_entry_eq]
  generalize (lg_sl ([.ref h0, .ref t0]) ++ List.replicate (2 - (lg_sl ([.ref h0, .ref t0])).length) Slot.unset).toArray = ls at hl ⊢
  have hl : lv_has ls 2 [(0, .ref h0), (1, .ref t0)] := hl
  refine lv_aload_n hx hb dX5_init_0 rfl (lv_at hl 0 rfl) ?_
  refine W.objInit hx hb hown (hts (.methodLink RX5 3 objectInit) (List.mem_cons_of_mem _ kw_3_44)) (hts (.instanceMethod objectInit) (List.mem_cons_of_mem _ kw_1_38)) (hts (.code objectInit ⟨#[0xb1]⟩ 1 none) (List.mem_cons_of_mem _ kw_1_39)) rfl (by rw [hml]; exact hl.1) rfl dX5_init_1 (Nat.le_of_ble_eq_true rfl) (Nat.le_of_ble_eq_true rfl) ?_
  refine W.eq (g2 := F0 m 4 ls []) rfl ?_
  refine lv_aload_n hx hb dX5_init_4 rfl (lv_at hl 0 rfl) ?_
  refine lv_aload_n hx hb dX5_init_5 rfl (lv_at hl 1 rfl) ?_
  refine va_putF (D := (dC, dI)) (ci := 6) (v := .ref t0) (ty := .object "WalkingTown$Town") (C := RX5) (T := TX5) (N := 14) hx hb hts iCX5 tyX5 tyX5_ok nmX5 hown hK hP hD hS 0 rfl rfl 0 (by decide) (hts (.fieldLink RX5 9 "WalkingTown$Seating" "town" "LWalkingTown$Town;") (List.mem_cons_of_mem _ kw_3_45)) (fun _ h9 => h9) rfl hin rfl (by decide +kernel) rfl rfl (Nat.le_of_ble_eq_true rfl) dX5_init_6 (fun H locs hP hD hS => ?_)
  have hP : va_P (dC, dI) vwCl [(h0, .inr (6, [.ref t0, .null, .null, .int 0, .null, .null, .null, .null, .null, .null, .null, .int 0, .int 0, .int 0]))] H := hP
  have hD : va_D A [(h0, .inr (6, [.ref t0, .null, .null, .int 0, .null, .null, .null, .null, .null, .null, .null, .int 0, .int 0, .int 0]))] := hD
  refine lv_aload_n hx hb dX5_init_9 rfl (lv_at hl 0 rfl) ?_
  refine lv_bipush (v := 8) hx hb dX5_init_10 (by decide) ?_
  refine va_newa (atype := .long) (N' := 8) (a0 := (8, .inr (.inl (fun _ => 0)))) hx hb (hts (.arrayClass .long) (List.mem_cons_of_mem _ kw_3_90)) (ty := .long) rfl hK hP hD hS hA (fun _ => rfl) (by decide) (by decide) (by decide) (Nat.le_of_ble_eq_true rfl) (Nat.le_of_ble_eq_true rfl) dX5_init_12 (fun q_1 cA_1 H hK hP hD hS => ?_)
  have hP : va_P (dC, dI) vwCl [(h0, .inr (6, [.ref t0, .null, .null, .int 0, .null, .null, .null, .null, .null, .null, .null, .int 0, .int 0, .int 0])), (q_1, .inl (cA_1, 8, .inr (.inl (fun _ => 0))))] H := hP
  have hD : va_D A [(h0, .inr (6, [.ref t0, .null, .null, .int 0, .null, .null, .null, .null, .null, .null, .null, .int 0, .int 0, .int 0])), (q_1, .inl (cA_1, 8, .inr (.inl (fun _ => 0))))] := hD
  have hK : va_K (dC, dI) vwCl [(cA_1, .long)] s := hK
  refine W.widen (k := 1) (n := 8) (Nat.le_of_ble_eq_true rfl) (Nat.le_of_ble_eq_true rfl) ?_
  refine va_putF (D := (dC, dI)) (ci := 6) (v := .ref q_1) (ty := .array .long) (C := RX5) (T := TX5) (N := 14) hx hb hts iCX5 tyX5 tyX5_ok nmX5 hown hK hP hD hS 0 rfl rfl 1 (by decide) (hts (.fieldLink RX5 17 "WalkingTown$Seating" "reach" "[J") (List.mem_cons_of_mem _ kw_3_46)) (fun _ h9 => h9) rfl hin rfl (by decide +kernel) rfl rfl (Nat.le_of_ble_eq_true rfl) dX5_init_14 (fun H locs hP hD hS => ?_)
  have hP : va_P (dC, dI) vwCl [(h0, .inr (6, [.ref t0, .ref q_1, .null, .int 0, .null, .null, .null, .null, .null, .null, .null, .int 0, .int 0, .int 0])), (q_1, .inl (cA_1, 8, .inr (.inl (fun _ => 0))))] H := hP
  have hD : va_D A [(h0, .inr (6, [.ref t0, .ref q_1, .null, .int 0, .null, .null, .null, .null, .null, .null, .null, .int 0, .int 0, .int 0])), (q_1, .inl (cA_1, 8, .inr (.inl (fun _ => 0))))] := hD
  refine lv_aload_n hx hb dX5_init_17 rfl (lv_at hl 0 rfl) ?_
  refine lv_bipush (v := 8) hx hb dX5_init_18 (by decide) ?_
  refine va_newa (atype := .int) (N' := 8) (a0 := (8, .inl (fun _ => 0))) hx hb (hts (.arrayClass .int) (List.mem_cons_of_mem _ kw_1_60)) (ty := .int) rfl hK hP hD hS hA (fun _ => rfl) (by decide) (by decide) (by decide) (Nat.le_of_ble_eq_true rfl) (Nat.le_of_ble_eq_true rfl) dX5_init_20 (fun q_2 cA_2 H hK hP hD hS => ?_)
  have hP : va_P (dC, dI) vwCl [(h0, .inr (6, [.ref t0, .ref q_1, .null, .int 0, .null, .null, .null, .null, .null, .null, .null, .int 0, .int 0, .int 0])), (q_1, .inl (cA_1, 8, .inr (.inl (fun _ => 0)))), (q_2, .inl (cA_2, 8, .inl (fun _ => 0)))] H := hP
  have hD : va_D A [(h0, .inr (6, [.ref t0, .ref q_1, .null, .int 0, .null, .null, .null, .null, .null, .null, .null, .int 0, .int 0, .int 0])), (q_1, .inl (cA_1, 8, .inr (.inl (fun _ => 0)))), (q_2, .inl (cA_2, 8, .inl (fun _ => 0)))] := hD
  have hK : va_K (dC, dI) vwCl [(cA_1, .long), (cA_2, .int)] s := hK
  refine W.widen (k := 2) (n := 16) (Nat.le_of_ble_eq_true rfl) (Nat.le_of_ble_eq_true rfl) ?_
  refine va_putF (D := (dC, dI)) (ci := 6) (v := .ref q_2) (ty := .array .int) (C := RX5) (T := TX5) (N := 14) hx hb hts iCX5 tyX5 tyX5_ok nmX5 hown hK hP hD hS 0 rfl rfl 2 (by decide) (hts (.fieldLink RX5 21 "WalkingTown$Seating" "kept" "[I") (List.mem_cons_of_mem _ kw_3_47)) (fun _ h9 => h9) rfl hin rfl (by decide +kernel) rfl rfl (Nat.le_of_ble_eq_true rfl) dX5_init_22 (fun H locs hP hD hS => ?_)
  have hP : va_P (dC, dI) vwCl [(h0, .inr (6, [.ref t0, .ref q_1, .ref q_2, .int 0, .null, .null, .null, .null, .null, .null, .null, .int 0, .int 0, .int 0])), (q_1, .inl (cA_1, 8, .inr (.inl (fun _ => 0)))), (q_2, .inl (cA_2, 8, .inl (fun _ => 0)))] H := hP
  have hD : va_D A [(h0, .inr (6, [.ref t0, .ref q_1, .ref q_2, .int 0, .null, .null, .null, .null, .null, .null, .null, .int 0, .int 0, .int 0])), (q_1, .inl (cA_1, 8, .inr (.inl (fun _ => 0)))), (q_2, .inl (cA_2, 8, .inl (fun _ => 0)))] := hD
  refine lv_aload_n hx hb dX5_init_25 rfl (lv_at hl 0 rfl) ?_
  refine lv_sipush (v := 256) hx hb dX5_init_26 (by decide) ?_
  refine va_newa (atype := .int) (N' := 256) (a0 := (256, .inl (fun _ => 0))) hx hb (hts (.arrayClass .int) (List.mem_cons_of_mem _ kw_1_60)) (ty := .int) rfl hK hP hD hS hA (fun _ => rfl) (by decide) (by decide) (by decide) (Nat.le_of_ble_eq_true rfl) (Nat.le_of_ble_eq_true rfl) dX5_init_29 (fun q_3 cA_3 H hK hP hD hS => ?_)
  have hP : va_P (dC, dI) vwCl [(h0, .inr (6, [.ref t0, .ref q_1, .ref q_2, .int 0, .null, .null, .null, .null, .null, .null, .null, .int 0, .int 0, .int 0])), (q_1, .inl (cA_1, 8, .inr (.inl (fun _ => 0)))), (q_2, .inl (cA_2, 8, .inl (fun _ => 0))), (q_3, .inl (cA_3, 256, .inl (fun _ => 0)))] H := hP
  have hD : va_D A [(h0, .inr (6, [.ref t0, .ref q_1, .ref q_2, .int 0, .null, .null, .null, .null, .null, .null, .null, .int 0, .int 0, .int 0])), (q_1, .inl (cA_1, 8, .inr (.inl (fun _ => 0)))), (q_2, .inl (cA_2, 8, .inl (fun _ => 0))), (q_3, .inl (cA_3, 256, .inl (fun _ => 0)))] := hD
  have hK : va_K (dC, dI) vwCl [(cA_1, .long), (cA_2, .int), (cA_3, .int)] s := hK
  refine W.widen (k := 3) (n := 272) (Nat.le_of_ble_eq_true rfl) (Nat.le_of_ble_eq_true rfl) ?_
  refine va_putF (D := (dC, dI)) (ci := 6) (v := .ref q_3) (ty := .array .int) (C := RX5) (T := TX5) (N := 14) hx hb hts iCX5 tyX5 tyX5_ok nmX5 hown hK hP hD hS 0 rfl rfl 4 (by decide) (hts (.fieldLink RX5 25 "WalkingTown$Seating" "near" "[I") (List.mem_cons_of_mem _ kw_3_49)) (fun _ h9 => h9) rfl hin rfl (by decide +kernel) rfl rfl (Nat.le_of_ble_eq_true rfl) dX5_init_31 (fun H locs hP hD hS => ?_)
  have hP : va_P (dC, dI) vwCl [(h0, .inr (6, [.ref t0, .ref q_1, .ref q_2, .int 0, .ref q_3, .null, .null, .null, .null, .null, .null, .int 0, .int 0, .int 0])), (q_1, .inl (cA_1, 8, .inr (.inl (fun _ => 0)))), (q_2, .inl (cA_2, 8, .inl (fun _ => 0))), (q_3, .inl (cA_3, 256, .inl (fun _ => 0)))] H := hP
  have hD : va_D A [(h0, .inr (6, [.ref t0, .ref q_1, .ref q_2, .int 0, .ref q_3, .null, .null, .null, .null, .null, .null, .int 0, .int 0, .int 0])), (q_1, .inl (cA_1, 8, .inr (.inl (fun _ => 0)))), (q_2, .inl (cA_2, 8, .inl (fun _ => 0))), (q_3, .inl (cA_3, 256, .inl (fun _ => 0)))] := hD
  refine lv_aload_n hx hb dX5_init_34 rfl (lv_at hl 0 rfl) ?_
  refine lv_iconst (v := 5) hx hb dX5_init_35 (by decide) ?_
  refine va_newa (atype := .int) (N' := 5) (a0 := (5, .inl (fun _ => 0))) hx hb (hts (.arrayClass .int) (List.mem_cons_of_mem _ kw_1_60)) (ty := .int) rfl hK hP hD hS hA (fun _ => rfl) (by decide) (by decide) (by decide) (Nat.le_of_ble_eq_true rfl) (Nat.le_of_ble_eq_true rfl) dX5_init_36 (fun q_4 cA_4 H hK hP hD hS => ?_)
  have hP : va_P (dC, dI) vwCl [(h0, .inr (6, [.ref t0, .ref q_1, .ref q_2, .int 0, .ref q_3, .null, .null, .null, .null, .null, .null, .int 0, .int 0, .int 0])), (q_1, .inl (cA_1, 8, .inr (.inl (fun _ => 0)))), (q_2, .inl (cA_2, 8, .inl (fun _ => 0))), (q_3, .inl (cA_3, 256, .inl (fun _ => 0))), (q_4, .inl (cA_4, 5, .inl (fun _ => 0)))] H := hP
  have hD : va_D A [(h0, .inr (6, [.ref t0, .ref q_1, .ref q_2, .int 0, .ref q_3, .null, .null, .null, .null, .null, .null, .int 0, .int 0, .int 0])), (q_1, .inl (cA_1, 8, .inr (.inl (fun _ => 0)))), (q_2, .inl (cA_2, 8, .inl (fun _ => 0))), (q_3, .inl (cA_3, 256, .inl (fun _ => 0))), (q_4, .inl (cA_4, 5, .inl (fun _ => 0)))] := hD
  have hK : va_K (dC, dI) vwCl [(cA_1, .long), (cA_2, .int), (cA_3, .int), (cA_4, .int)] s := hK
  refine W.widen (k := 4) (n := 277) (Nat.le_of_ble_eq_true rfl) (Nat.le_of_ble_eq_true rfl) ?_
  refine va_putF (D := (dC, dI)) (ci := 6) (v := .ref q_4) (ty := .array .int) (C := RX5) (T := TX5) (N := 14) hx hb hts iCX5 tyX5 tyX5_ok nmX5 hown hK hP hD hS 0 rfl rfl 5 (by decide) (hts (.fieldLink RX5 28 "WalkingTown$Seating" "seats" "[I") (List.mem_cons_of_mem _ kw_3_50)) (fun _ h9 => h9) rfl hin rfl (by decide +kernel) rfl rfl (Nat.le_of_ble_eq_true rfl) dX5_init_38 (fun H locs hP hD hS => ?_)
  have hP : va_P (dC, dI) vwCl [(h0, .inr (6, [.ref t0, .ref q_1, .ref q_2, .int 0, .ref q_3, .ref q_4, .null, .null, .null, .null, .null, .int 0, .int 0, .int 0])), (q_1, .inl (cA_1, 8, .inr (.inl (fun _ => 0)))), (q_2, .inl (cA_2, 8, .inl (fun _ => 0))), (q_3, .inl (cA_3, 256, .inl (fun _ => 0))), (q_4, .inl (cA_4, 5, .inl (fun _ => 0)))] H := hP
  have hD : va_D A [(h0, .inr (6, [.ref t0, .ref q_1, .ref q_2, .int 0, .ref q_3, .ref q_4, .null, .null, .null, .null, .null, .int 0, .int 0, .int 0])), (q_1, .inl (cA_1, 8, .inr (.inl (fun _ => 0)))), (q_2, .inl (cA_2, 8, .inl (fun _ => 0))), (q_3, .inl (cA_3, 256, .inl (fun _ => 0))), (q_4, .inl (cA_4, 5, .inl (fun _ => 0)))] := hD
  refine lv_aload_n hx hb dX5_init_41 rfl (lv_at hl 0 rfl) ?_
  refine lv_bipush (v := 6) hx hb dX5_init_42 (by decide) ?_
  refine va_newa (atype := .int) (N' := 6) (a0 := (6, .inl (fun _ => 0))) hx hb (hts (.arrayClass .int) (List.mem_cons_of_mem _ kw_1_60)) (ty := .int) rfl hK hP hD hS hA (fun _ => rfl) (by decide) (by decide) (by decide) (Nat.le_of_ble_eq_true rfl) (Nat.le_of_ble_eq_true rfl) dX5_init_44 (fun q_5 cA_5 H hK hP hD hS => ?_)
  have hP : va_P (dC, dI) vwCl [(h0, .inr (6, [.ref t0, .ref q_1, .ref q_2, .int 0, .ref q_3, .ref q_4, .null, .null, .null, .null, .null, .int 0, .int 0, .int 0])), (q_1, .inl (cA_1, 8, .inr (.inl (fun _ => 0)))), (q_2, .inl (cA_2, 8, .inl (fun _ => 0))), (q_3, .inl (cA_3, 256, .inl (fun _ => 0))), (q_4, .inl (cA_4, 5, .inl (fun _ => 0))), (q_5, .inl (cA_5, 6, .inl (fun _ => 0)))] H := hP
  have hD : va_D A [(h0, .inr (6, [.ref t0, .ref q_1, .ref q_2, .int 0, .ref q_3, .ref q_4, .null, .null, .null, .null, .null, .int 0, .int 0, .int 0])), (q_1, .inl (cA_1, 8, .inr (.inl (fun _ => 0)))), (q_2, .inl (cA_2, 8, .inl (fun _ => 0))), (q_3, .inl (cA_3, 256, .inl (fun _ => 0))), (q_4, .inl (cA_4, 5, .inl (fun _ => 0))), (q_5, .inl (cA_5, 6, .inl (fun _ => 0)))] := hD
  have hK : va_K (dC, dI) vwCl [(cA_1, .long), (cA_2, .int), (cA_3, .int), (cA_4, .int), (cA_5, .int)] s := hK
  refine W.widen (k := 5) (n := 283) (Nat.le_of_ble_eq_true rfl) (Nat.le_of_ble_eq_true rfl) ?_
  refine va_putF (D := (dC, dI)) (ci := 6) (v := .ref q_5) (ty := .array .int) (C := RX5) (T := TX5) (N := 14) hx hb hts iCX5 tyX5 tyX5_ok nmX5 hown hK hP hD hS 0 rfl rfl 6 (by decide) (hts (.fieldLink RX5 31 "WalkingTown$Seating" "seatsLeft" "[I") (List.mem_cons_of_mem _ kw_3_51)) (fun _ h9 => h9) rfl hin rfl (by decide +kernel) rfl rfl (Nat.le_of_ble_eq_true rfl) dX5_init_46 (fun H locs hP hD hS => ?_)
  have hP : va_P (dC, dI) vwCl [(h0, .inr (6, [.ref t0, .ref q_1, .ref q_2, .int 0, .ref q_3, .ref q_4, .ref q_5, .null, .null, .null, .null, .int 0, .int 0, .int 0])), (q_1, .inl (cA_1, 8, .inr (.inl (fun _ => 0)))), (q_2, .inl (cA_2, 8, .inl (fun _ => 0))), (q_3, .inl (cA_3, 256, .inl (fun _ => 0))), (q_4, .inl (cA_4, 5, .inl (fun _ => 0))), (q_5, .inl (cA_5, 6, .inl (fun _ => 0)))] H := hP
  have hD : va_D A [(h0, .inr (6, [.ref t0, .ref q_1, .ref q_2, .int 0, .ref q_3, .ref q_4, .ref q_5, .null, .null, .null, .null, .int 0, .int 0, .int 0])), (q_1, .inl (cA_1, 8, .inr (.inl (fun _ => 0)))), (q_2, .inl (cA_2, 8, .inl (fun _ => 0))), (q_3, .inl (cA_3, 256, .inl (fun _ => 0))), (q_4, .inl (cA_4, 5, .inl (fun _ => 0))), (q_5, .inl (cA_5, 6, .inl (fun _ => 0)))] := hD
  refine lv_aload_n hx hb dX5_init_49 rfl (lv_at hl 0 rfl) ?_
  refine lv_bipush (v := 64) hx hb dX5_init_50 (by decide) ?_
  refine va_newa (atype := .int) (N' := 64) (a0 := (64, .inl (fun _ => 0))) hx hb (hts (.arrayClass .int) (List.mem_cons_of_mem _ kw_1_60)) (ty := .int) rfl hK hP hD hS hA (fun _ => rfl) (by decide) (by decide) (by decide) (Nat.le_of_ble_eq_true rfl) (Nat.le_of_ble_eq_true rfl) dX5_init_52 (fun q_6 cA_6 H hK hP hD hS => ?_)
  have hP : va_P (dC, dI) vwCl [(h0, .inr (6, [.ref t0, .ref q_1, .ref q_2, .int 0, .ref q_3, .ref q_4, .ref q_5, .null, .null, .null, .null, .int 0, .int 0, .int 0])), (q_1, .inl (cA_1, 8, .inr (.inl (fun _ => 0)))), (q_2, .inl (cA_2, 8, .inl (fun _ => 0))), (q_3, .inl (cA_3, 256, .inl (fun _ => 0))), (q_4, .inl (cA_4, 5, .inl (fun _ => 0))), (q_5, .inl (cA_5, 6, .inl (fun _ => 0))), (q_6, .inl (cA_6, 64, .inl (fun _ => 0)))] H := hP
  have hD : va_D A [(h0, .inr (6, [.ref t0, .ref q_1, .ref q_2, .int 0, .ref q_3, .ref q_4, .ref q_5, .null, .null, .null, .null, .int 0, .int 0, .int 0])), (q_1, .inl (cA_1, 8, .inr (.inl (fun _ => 0)))), (q_2, .inl (cA_2, 8, .inl (fun _ => 0))), (q_3, .inl (cA_3, 256, .inl (fun _ => 0))), (q_4, .inl (cA_4, 5, .inl (fun _ => 0))), (q_5, .inl (cA_5, 6, .inl (fun _ => 0))), (q_6, .inl (cA_6, 64, .inl (fun _ => 0)))] := hD
  have hK : va_K (dC, dI) vwCl [(cA_1, .long), (cA_2, .int), (cA_3, .int), (cA_4, .int), (cA_5, .int), (cA_6, .int)] s := hK
  refine W.widen (k := 6) (n := 347) (Nat.le_of_ble_eq_true rfl) (Nat.le_of_ble_eq_true rfl) ?_
  refine va_putF (D := (dC, dI)) (ci := 6) (v := .ref q_6) (ty := .array .int) (C := RX5) (T := TX5) (N := 14) hx hb hts iCX5 tyX5 tyX5_ok nmX5 hown hK hP hD hS 0 rfl rfl 7 (by decide) (hts (.fieldLink RX5 34 "WalkingTown$Seating" "stopsOf" "[I") (List.mem_cons_of_mem _ kw_3_52)) (fun _ h9 => h9) rfl hin rfl (by decide +kernel) rfl rfl (Nat.le_of_ble_eq_true rfl) dX5_init_54 (fun H locs hP hD hS => ?_)
  have hP : va_P (dC, dI) vwCl [(h0, .inr (6, [.ref t0, .ref q_1, .ref q_2, .int 0, .ref q_3, .ref q_4, .ref q_5, .ref q_6, .null, .null, .null, .int 0, .int 0, .int 0])), (q_1, .inl (cA_1, 8, .inr (.inl (fun _ => 0)))), (q_2, .inl (cA_2, 8, .inl (fun _ => 0))), (q_3, .inl (cA_3, 256, .inl (fun _ => 0))), (q_4, .inl (cA_4, 5, .inl (fun _ => 0))), (q_5, .inl (cA_5, 6, .inl (fun _ => 0))), (q_6, .inl (cA_6, 64, .inl (fun _ => 0)))] H := hP
  have hD : va_D A [(h0, .inr (6, [.ref t0, .ref q_1, .ref q_2, .int 0, .ref q_3, .ref q_4, .ref q_5, .ref q_6, .null, .null, .null, .int 0, .int 0, .int 0])), (q_1, .inl (cA_1, 8, .inr (.inl (fun _ => 0)))), (q_2, .inl (cA_2, 8, .inl (fun _ => 0))), (q_3, .inl (cA_3, 256, .inl (fun _ => 0))), (q_4, .inl (cA_4, 5, .inl (fun _ => 0))), (q_5, .inl (cA_5, 6, .inl (fun _ => 0))), (q_6, .inl (cA_6, 64, .inl (fun _ => 0)))] := hD
  refine lv_aload_n hx hb dX5_init_57 rfl (lv_at hl 0 rfl) ?_
  refine lv_bipush (v := 64) hx hb dX5_init_58 (by decide) ?_
  refine va_newa (atype := .int) (N' := 64) (a0 := (64, .inl (fun _ => 0))) hx hb (hts (.arrayClass .int) (List.mem_cons_of_mem _ kw_1_60)) (ty := .int) rfl hK hP hD hS hA (fun _ => rfl) (by decide) (by decide) (by decide) (Nat.le_of_ble_eq_true rfl) (Nat.le_of_ble_eq_true rfl) dX5_init_60 (fun q_7 cA_7 H hK hP hD hS => ?_)
  have hP : va_P (dC, dI) vwCl [(h0, .inr (6, [.ref t0, .ref q_1, .ref q_2, .int 0, .ref q_3, .ref q_4, .ref q_5, .ref q_6, .null, .null, .null, .int 0, .int 0, .int 0])), (q_1, .inl (cA_1, 8, .inr (.inl (fun _ => 0)))), (q_2, .inl (cA_2, 8, .inl (fun _ => 0))), (q_3, .inl (cA_3, 256, .inl (fun _ => 0))), (q_4, .inl (cA_4, 5, .inl (fun _ => 0))), (q_5, .inl (cA_5, 6, .inl (fun _ => 0))), (q_6, .inl (cA_6, 64, .inl (fun _ => 0))), (q_7, .inl (cA_7, 64, .inl (fun _ => 0)))] H := hP
  have hD : va_D A [(h0, .inr (6, [.ref t0, .ref q_1, .ref q_2, .int 0, .ref q_3, .ref q_4, .ref q_5, .ref q_6, .null, .null, .null, .int 0, .int 0, .int 0])), (q_1, .inl (cA_1, 8, .inr (.inl (fun _ => 0)))), (q_2, .inl (cA_2, 8, .inl (fun _ => 0))), (q_3, .inl (cA_3, 256, .inl (fun _ => 0))), (q_4, .inl (cA_4, 5, .inl (fun _ => 0))), (q_5, .inl (cA_5, 6, .inl (fun _ => 0))), (q_6, .inl (cA_6, 64, .inl (fun _ => 0))), (q_7, .inl (cA_7, 64, .inl (fun _ => 0)))] := hD
  have hK : va_K (dC, dI) vwCl [(cA_1, .long), (cA_2, .int), (cA_3, .int), (cA_4, .int), (cA_5, .int), (cA_6, .int), (cA_7, .int)] s := hK
  refine W.widen (k := 7) (n := 411) (Nat.le_of_ble_eq_true rfl) (Nat.le_of_ble_eq_true rfl) ?_
  refine va_putF (D := (dC, dI)) (ci := 6) (v := .ref q_7) (ty := .array .int) (C := RX5) (T := TX5) (N := 14) hx hb hts iCX5 tyX5 tyX5_ok nmX5 hown hK hP hD hS 0 rfl rfl 8 (by decide) (hts (.fieldLink RX5 37 "WalkingTown$Seating" "outside" "[I") (List.mem_cons_of_mem _ kw_3_53)) (fun _ h9 => h9) rfl hin rfl (by decide +kernel) rfl rfl (Nat.le_of_ble_eq_true rfl) dX5_init_62 (fun H locs hP hD hS => ?_)
  have hP : va_P (dC, dI) vwCl [(h0, .inr (6, [.ref t0, .ref q_1, .ref q_2, .int 0, .ref q_3, .ref q_4, .ref q_5, .ref q_6, .ref q_7, .null, .null, .int 0, .int 0, .int 0])), (q_1, .inl (cA_1, 8, .inr (.inl (fun _ => 0)))), (q_2, .inl (cA_2, 8, .inl (fun _ => 0))), (q_3, .inl (cA_3, 256, .inl (fun _ => 0))), (q_4, .inl (cA_4, 5, .inl (fun _ => 0))), (q_5, .inl (cA_5, 6, .inl (fun _ => 0))), (q_6, .inl (cA_6, 64, .inl (fun _ => 0))), (q_7, .inl (cA_7, 64, .inl (fun _ => 0)))] H := hP
  have hD : va_D A [(h0, .inr (6, [.ref t0, .ref q_1, .ref q_2, .int 0, .ref q_3, .ref q_4, .ref q_5, .ref q_6, .ref q_7, .null, .null, .int 0, .int 0, .int 0])), (q_1, .inl (cA_1, 8, .inr (.inl (fun _ => 0)))), (q_2, .inl (cA_2, 8, .inl (fun _ => 0))), (q_3, .inl (cA_3, 256, .inl (fun _ => 0))), (q_4, .inl (cA_4, 5, .inl (fun _ => 0))), (q_5, .inl (cA_5, 6, .inl (fun _ => 0))), (q_6, .inl (cA_6, 64, .inl (fun _ => 0))), (q_7, .inl (cA_7, 64, .inl (fun _ => 0)))] := hD
  refine lv_aload_n hx hb dX5_init_65 rfl (lv_at hl 0 rfl) ?_
  refine lv_iconst (v := 5) hx hb dX5_init_66 (by decide) ?_
  refine va_newa (atype := .int) (N' := 5) (a0 := (5, .inl (fun _ => 0))) hx hb (hts (.arrayClass .int) (List.mem_cons_of_mem _ kw_1_60)) (ty := .int) rfl hK hP hD hS hA (fun _ => rfl) (by decide) (by decide) (by decide) (Nat.le_of_ble_eq_true rfl) (Nat.le_of_ble_eq_true rfl) dX5_init_67 (fun q_8 cA_8 H hK hP hD hS => ?_)
  have hP : va_P (dC, dI) vwCl [(h0, .inr (6, [.ref t0, .ref q_1, .ref q_2, .int 0, .ref q_3, .ref q_4, .ref q_5, .ref q_6, .ref q_7, .null, .null, .int 0, .int 0, .int 0])), (q_1, .inl (cA_1, 8, .inr (.inl (fun _ => 0)))), (q_2, .inl (cA_2, 8, .inl (fun _ => 0))), (q_3, .inl (cA_3, 256, .inl (fun _ => 0))), (q_4, .inl (cA_4, 5, .inl (fun _ => 0))), (q_5, .inl (cA_5, 6, .inl (fun _ => 0))), (q_6, .inl (cA_6, 64, .inl (fun _ => 0))), (q_7, .inl (cA_7, 64, .inl (fun _ => 0))), (q_8, .inl (cA_8, 5, .inl (fun _ => 0)))] H := hP
  have hD : va_D A [(h0, .inr (6, [.ref t0, .ref q_1, .ref q_2, .int 0, .ref q_3, .ref q_4, .ref q_5, .ref q_6, .ref q_7, .null, .null, .int 0, .int 0, .int 0])), (q_1, .inl (cA_1, 8, .inr (.inl (fun _ => 0)))), (q_2, .inl (cA_2, 8, .inl (fun _ => 0))), (q_3, .inl (cA_3, 256, .inl (fun _ => 0))), (q_4, .inl (cA_4, 5, .inl (fun _ => 0))), (q_5, .inl (cA_5, 6, .inl (fun _ => 0))), (q_6, .inl (cA_6, 64, .inl (fun _ => 0))), (q_7, .inl (cA_7, 64, .inl (fun _ => 0))), (q_8, .inl (cA_8, 5, .inl (fun _ => 0)))] := hD
  have hK : va_K (dC, dI) vwCl [(cA_1, .long), (cA_2, .int), (cA_3, .int), (cA_4, .int), (cA_5, .int), (cA_6, .int), (cA_7, .int), (cA_8, .int)] s := hK
  refine W.widen (k := 8) (n := 416) (Nat.le_of_ble_eq_true rfl) (Nat.le_of_ble_eq_true rfl) ?_
  refine va_putF (D := (dC, dI)) (ci := 6) (v := .ref q_8) (ty := .array .int) (C := RX5) (T := TX5) (N := 14) hx hb hts iCX5 tyX5 tyX5_ok nmX5 hown hK hP hD hS 0 rfl rfl 9 (by decide) (hts (.fieldLink RX5 40 "WalkingTown$Seating" "place" "[I") (List.mem_cons_of_mem _ kw_3_54)) (fun _ h9 => h9) rfl hin rfl (by decide +kernel) rfl rfl (Nat.le_of_ble_eq_true rfl) dX5_init_69 (fun H locs hP hD hS => ?_)
  have hP : va_P (dC, dI) vwCl [(h0, .inr (6, [.ref t0, .ref q_1, .ref q_2, .int 0, .ref q_3, .ref q_4, .ref q_5, .ref q_6, .ref q_7, .ref q_8, .null, .int 0, .int 0, .int 0])), (q_1, .inl (cA_1, 8, .inr (.inl (fun _ => 0)))), (q_2, .inl (cA_2, 8, .inl (fun _ => 0))), (q_3, .inl (cA_3, 256, .inl (fun _ => 0))), (q_4, .inl (cA_4, 5, .inl (fun _ => 0))), (q_5, .inl (cA_5, 6, .inl (fun _ => 0))), (q_6, .inl (cA_6, 64, .inl (fun _ => 0))), (q_7, .inl (cA_7, 64, .inl (fun _ => 0))), (q_8, .inl (cA_8, 5, .inl (fun _ => 0)))] H := hP
  have hD : va_D A [(h0, .inr (6, [.ref t0, .ref q_1, .ref q_2, .int 0, .ref q_3, .ref q_4, .ref q_5, .ref q_6, .ref q_7, .ref q_8, .null, .int 0, .int 0, .int 0])), (q_1, .inl (cA_1, 8, .inr (.inl (fun _ => 0)))), (q_2, .inl (cA_2, 8, .inl (fun _ => 0))), (q_3, .inl (cA_3, 256, .inl (fun _ => 0))), (q_4, .inl (cA_4, 5, .inl (fun _ => 0))), (q_5, .inl (cA_5, 6, .inl (fun _ => 0))), (q_6, .inl (cA_6, 64, .inl (fun _ => 0))), (q_7, .inl (cA_7, 64, .inl (fun _ => 0))), (q_8, .inl (cA_8, 5, .inl (fun _ => 0)))] := hD
  refine lv_aload_n hx hb dX5_init_72 rfl (lv_at hl 0 rfl) ?_
  refine lv_iconst (v := 5) hx hb dX5_init_73 (by decide) ?_
  refine va_newa (atype := .int) (N' := 5) (a0 := (5, .inl (fun _ => 0))) hx hb (hts (.arrayClass .int) (List.mem_cons_of_mem _ kw_1_60)) (ty := .int) rfl hK hP hD hS hA (fun _ => rfl) (by decide) (by decide) (by decide) (Nat.le_of_ble_eq_true rfl) (Nat.le_of_ble_eq_true rfl) dX5_init_74 (fun q_9 cA_9 H hK hP hD hS => ?_)
  have hP : va_P (dC, dI) vwCl [(h0, .inr (6, [.ref t0, .ref q_1, .ref q_2, .int 0, .ref q_3, .ref q_4, .ref q_5, .ref q_6, .ref q_7, .ref q_8, .null, .int 0, .int 0, .int 0])), (q_1, .inl (cA_1, 8, .inr (.inl (fun _ => 0)))), (q_2, .inl (cA_2, 8, .inl (fun _ => 0))), (q_3, .inl (cA_3, 256, .inl (fun _ => 0))), (q_4, .inl (cA_4, 5, .inl (fun _ => 0))), (q_5, .inl (cA_5, 6, .inl (fun _ => 0))), (q_6, .inl (cA_6, 64, .inl (fun _ => 0))), (q_7, .inl (cA_7, 64, .inl (fun _ => 0))), (q_8, .inl (cA_8, 5, .inl (fun _ => 0))), (q_9, .inl (cA_9, 5, .inl (fun _ => 0)))] H := hP
  have hD : va_D A [(h0, .inr (6, [.ref t0, .ref q_1, .ref q_2, .int 0, .ref q_3, .ref q_4, .ref q_5, .ref q_6, .ref q_7, .ref q_8, .null, .int 0, .int 0, .int 0])), (q_1, .inl (cA_1, 8, .inr (.inl (fun _ => 0)))), (q_2, .inl (cA_2, 8, .inl (fun _ => 0))), (q_3, .inl (cA_3, 256, .inl (fun _ => 0))), (q_4, .inl (cA_4, 5, .inl (fun _ => 0))), (q_5, .inl (cA_5, 6, .inl (fun _ => 0))), (q_6, .inl (cA_6, 64, .inl (fun _ => 0))), (q_7, .inl (cA_7, 64, .inl (fun _ => 0))), (q_8, .inl (cA_8, 5, .inl (fun _ => 0))), (q_9, .inl (cA_9, 5, .inl (fun _ => 0)))] := hD
  have hK : va_K (dC, dI) vwCl [(cA_1, .long), (cA_2, .int), (cA_3, .int), (cA_4, .int), (cA_5, .int), (cA_6, .int), (cA_7, .int), (cA_8, .int), (cA_9, .int)] s := hK
  refine W.widen (k := 9) (n := 421) (Nat.le_of_ble_eq_true rfl) (Nat.le_of_ble_eq_true rfl) ?_
  refine va_putF (D := (dC, dI)) (ci := 6) (v := .ref q_9) (ty := .array .int) (C := RX5) (T := TX5) (N := 14) hx hb hts iCX5 tyX5 tyX5_ok nmX5 hown hK hP hD hS 0 rfl rfl 10 (by decide) (hts (.fieldLink RX5 43 "WalkingTown$Seating" "found" "[I") (List.mem_cons_of_mem _ kw_3_55)) (fun _ h9 => h9) rfl hin rfl (by decide +kernel) rfl rfl (Nat.le_of_ble_eq_true rfl) dX5_init_76 (fun H locs hP hD hS => ?_)
  have hP : va_P (dC, dI) vwCl [(h0, .inr (6, [.ref t0, .ref q_1, .ref q_2, .int 0, .ref q_3, .ref q_4, .ref q_5, .ref q_6, .ref q_7, .ref q_8, .ref q_9, .int 0, .int 0, .int 0])), (q_1, .inl (cA_1, 8, .inr (.inl (fun _ => 0)))), (q_2, .inl (cA_2, 8, .inl (fun _ => 0))), (q_3, .inl (cA_3, 256, .inl (fun _ => 0))), (q_4, .inl (cA_4, 5, .inl (fun _ => 0))), (q_5, .inl (cA_5, 6, .inl (fun _ => 0))), (q_6, .inl (cA_6, 64, .inl (fun _ => 0))), (q_7, .inl (cA_7, 64, .inl (fun _ => 0))), (q_8, .inl (cA_8, 5, .inl (fun _ => 0))), (q_9, .inl (cA_9, 5, .inl (fun _ => 0)))] H := hP
  have hD : va_D A [(h0, .inr (6, [.ref t0, .ref q_1, .ref q_2, .int 0, .ref q_3, .ref q_4, .ref q_5, .ref q_6, .ref q_7, .ref q_8, .ref q_9, .int 0, .int 0, .int 0])), (q_1, .inl (cA_1, 8, .inr (.inl (fun _ => 0)))), (q_2, .inl (cA_2, 8, .inl (fun _ => 0))), (q_3, .inl (cA_3, 256, .inl (fun _ => 0))), (q_4, .inl (cA_4, 5, .inl (fun _ => 0))), (q_5, .inl (cA_5, 6, .inl (fun _ => 0))), (q_6, .inl (cA_6, 64, .inl (fun _ => 0))), (q_7, .inl (cA_7, 64, .inl (fun _ => 0))), (q_8, .inl (cA_8, 5, .inl (fun _ => 0))), (q_9, .inl (cA_9, 5, .inl (fun _ => 0)))] := hD
  have hP9 := hP.sub (ws' := [(h0, .inr (6, [.ref t0, .ref q_1, .ref q_2, .int 0, .ref q_3, .ref q_4, .ref q_5, .ref q_6, .ref q_7, .ref q_8, .ref q_9, .int 0, .int 0, .int 0])), (q_1, .inl (cA_1, 8, .inr (.inl (fun _ => 0)))), (q_2, .inl (cA_2, 8, .inl (fun _ => 0))), (q_3, .inl (cA_3, 256, .inl (fun _ => 0))), (q_4, .inl (cA_4, 5, .inl (fun _ => 0))), (q_5, .inl (cA_5, 6, .inl (fun _ => 0))), (q_6, .inl (cA_6, 64, .inl (fun _ => 0))), (q_7, .inl (cA_7, 64, .inl (fun _ => 0))), (q_8, .inl (cA_8, 5, .inl (fun _ => 0))), (q_9, .inl (cA_9, 5, .inl (fun _ => 0)))]) [0, 1, 2, 3, 4, 5, 6, 7, 8, 9] rfl
  have hD9 := hD.sub (ws' := [(h0, .inr (6, [.ref t0, .ref q_1, .ref q_2, .int 0, .ref q_3, .ref q_4, .ref q_5, .ref q_6, .ref q_7, .ref q_8, .ref q_9, .int 0, .int 0, .int 0])), (q_1, .inl (cA_1, 8, .inr (.inl (fun _ => 0)))), (q_2, .inl (cA_2, 8, .inl (fun _ => 0))), (q_3, .inl (cA_3, 256, .inl (fun _ => 0))), (q_4, .inl (cA_4, 5, .inl (fun _ => 0))), (q_5, .inl (cA_5, 6, .inl (fun _ => 0))), (q_6, .inl (cA_6, 64, .inl (fun _ => 0))), (q_7, .inl (cA_7, 64, .inl (fun _ => 0))), (q_8, .inl (cA_8, 5, .inl (fun _ => 0))), (q_9, .inl (cA_9, 5, .inl (fun _ => 0)))]) [0, 1, 2, 3, 4, 5, 6, 7, 8, 9] (by decide) rfl
  have hK9 := hK.sub (tys' := [(cA_1, .long), (cA_2, .int), (cA_3, .int), (cA_4, .int), (cA_5, .int), (cA_6, .int), (cA_7, .int), (cA_8, .int), (cA_9, .int)]) [0, 1, 2, 3, 4, 5, 6, 7, 8] rfl
  refine W.widen (k := 9) (n := 421) (Nat.le_of_ble_eq_true rfl) (Nat.le_of_ble_eq_true rfl) ?_
  exact W.vret hx hb hr (fun t ht hW => ⟨⟨(), rfl, trivial, ⟨q_1, cA_1, q_2, cA_2, q_3, cA_3, q_4, cA_4, q_5, cA_5, q_6, cA_6, q_7, cA_7, q_8, cA_8, q_9, cA_9, by rw [ht]; exact hP9, va_K.moved hW.alike hK9, hD9⟩⟩, hS.F ht⟩) hS.2.2 dX5_init_79
set_option maxHeartbeats 4000000 in
set_option maxRecDepth 100000 in
theorem x_AC_init (l : Launch) (dC : Nat → ClassId) (dI : Nat → Nat → Nat) (sz : Nat) (h0 : Nat) : Met l yJxa1e45_init_da8c8 (.code yJxa1e45_init_da8c8 cJxa1e45_init_da8c8 1 none :: lw_good) ({ frames := 2, cells := 0, slots := 0, locals := 60 }) (va_Pc [.ref h0] (fun U => U.heap.size = sz ∧ va_P (dC, dI) vwCl [] U.heap ∧ va_K (dC, dI) vwCl [] U ∧ va_D (fun _ => True) [])) (va_Qv (fun (_ : Unit) => True) (fun (_ : Unit) (_ : State) => True) (va_A [] sz)) 0 0 (va_A [] sz) := by
  refine Met.ofW (cc := cJxa1e45_init_da8c8) (maxL := 1) (ret := none) (by decide) rfl ?_
  intro p e s m args below meth c s₁ B hml hv
  obtain ⟨rfl, hsz, hP, hK, hD0⟩ := hv
  have hx := B.exec
  have hb := B.bytes
  have hr := B.returns
  have hts := atoms_spec (ws := (.code yJxa1e45_init_da8c8 cJxa1e45_init_da8c8 1 none :: lw_good)) B.pre
  have hown : s.vm.findClass RJxa1e45 = some m.cls := findClass_of_methodNamed B.named
  have hlocks := B.notSynchronized
  have hin : meth.name = "<init>" := (name_of_methodNamed B.named B.method).1
  subst hsz
  have hD := hD0.self (sz := s.heap.size)
  generalize hAe : va_A [] s.heap.size = A at hD ⊢
  have hA : ∀ q : Nat, s.heap.size ≤ q → A q := fun q h => by rw [← hAe]; exact Or.inr h
  have hS : va_S A s.heap s.heap [] := va_S.rf
  have hP : va_P (dC, dI) vwCl [] s.heap := hP
  have hl := lv_entry ([.ref h0]) (n := 1) (Nat.le_of_ble_eq_true rfl)
  rw [lg_entry_eq]
  generalize (lg_sl ([.ref h0]) ++ List.replicate (1 - (lg_sl ([.ref h0])).length) Slot.unset).toArray = ls at hl ⊢
  have hl : lv_has ls 1 [(0, .ref h0)] := hl
  refine lv_aload_n hx hb dJxa1e45_init_da8c8_0 rfl (lv_at hl 0 rfl) ?_
  refine W.objInit hx hb hown (hts (.methodLink RJxa1e45 1 objectInit) (List.mem_cons_of_mem _ kw_2_5)) (hts (.instanceMethod objectInit) (List.mem_cons_of_mem _ kw_1_38)) (hts (.code objectInit ⟨#[0xb1]⟩ 1 none) (List.mem_cons_of_mem _ kw_1_39)) rfl (by rw [hml]; exact hl.1) rfl dJxa1e45_init_da8c8_1 (Nat.le_of_ble_eq_true rfl) (Nat.le_of_ble_eq_true rfl) ?_
  refine W.eq (g2 := F0 m 4 ls []) rfl ?_
  refine W.widen (k := 0) (n := 0) (Nat.le_of_ble_eq_true rfl) (Nat.le_of_ble_eq_true rfl) ?_
  exact W.vret hx hb hr (fun t ht hW => ⟨⟨(), rfl, trivial, trivial⟩, hS.F ht⟩) hS.2.2 dJxa1e45_init_da8c8_4
set_option maxHeartbeats 4000000 in
set_option maxRecDepth 100000 in
theorem x_AL_init (l : Launch) (dC : Nat → ClassId) (dI : Nat → Nat → Nat) (sz : Nat) (h0 : Nat) : Met l yJxc12de_init_da8c8 (.code yJxc12de_init_da8c8 cJxc12de_init_da8c8 1 none :: lw_good) ({ frames := 4, cells := 0, slots := 0, locals := 120 }) (va_Pc [.ref h0] (fun U => U.heap.size = sz ∧ va_P (dC, dI) vwCl [(h0, .inr (0, [.int 0, .null, .int 0]))] U.heap ∧ va_K (dC, dI) vwCl [] U ∧ va_D (fun _ => True) [(h0, .inr (0, [.int 0, .null, .int 0]))])) (va_Qv (fun (_ : Unit) => True) (fun (_ : Unit) (t : State) => va_P (dC, dI) vwCl [(h0, .inr (0, [.int 0, .null, .int 0]))] t.heap ∧ va_K (dC, dI) vwCl [] t ∧ va_D (va_A [(h0, .inr (0, [.int 0, .null, .int 0]))] sz) [(h0, .inr (0, [.int 0, .null, .int 0]))]) (va_A [(h0, .inr (0, [.int 0, .null, .int 0]))] sz)) 0 0 (va_A [(h0, .inr (0, [.int 0, .null, .int 0]))] sz) := by
  refine Met.ofW (cc := cJxc12de_init_da8c8) (maxL := 1) (ret := none) (by decide) rfl ?_
  intro p e s m args below meth c s₁ B hml hv
  obtain ⟨rfl, hsz, hP, hK, hD0⟩ := hv
  have hx := B.exec
  have hb := B.bytes
  have hr := B.returns
  have hts := atoms_spec (ws := (.code yJxc12de_init_da8c8 cJxc12de_init_da8c8 1 none :: lw_good)) B.pre
  have hown : s.vm.findClass RJxc12de = some m.cls := findClass_of_methodNamed B.named
  have hlocks := B.notSynchronized
  have hin : meth.name = "<init>" := (name_of_methodNamed B.named B.method).1
  subst hsz
  have hD := hD0.self (sz := s.heap.size)
  generalize hAe : va_A [(h0, .inr (0, [.int 0, .null, .int 0]))] s.heap.size = A at hD ⊢
  have hA : ∀ q : Nat, s.heap.size ≤ q → A q := fun q h => by rw [← hAe]; exact Or.inr h
  have hS : va_S A s.heap s.heap [] := va_S.rf
  have hP : va_P (dC, dI) vwCl [(h0, .inr (0, [.int 0, .null, .int 0]))] s.heap := hP
  have hl := lv_entry ([.ref h0]) (n := 1) (Nat.le_of_ble_eq_true rfl)
  rw [lg_entry_eq]
  generalize (lg_sl ([.ref h0]) ++ List.replicate (1 - (lg_sl ([.ref h0])).length) Slot.unset).toArray = ls at hl ⊢
  have hl : lv_has ls 1 [(0, .ref h0)] := hl
  refine lv_aload_n hx hb dJxc12de_init_da8c8_0 rfl (lv_at hl 0 rfl) ?_
  have hPc := hP.sub (ws' := []) [] rfl
  have hDc := hD.sub (ws' := []) [] (by decide) rfl
  have hKc := hK.sub (tys' := []) [] rfl
  have hFc := va_free (wc := []) hD hS hA [] rfl
  refine va_callv (va_runI (As := []) (rest := []) ⟨hx, hb, hml, hown, hts⟩ (x_AC_init l dC dI s.heap.size h0) (cwI 0 hts (gG kw_2_4) rfl rfl rfl (hts (.initialized RJxa1e45) (List.mem_cons_of_mem _ kw_1_7)) (hts (.methodLink RJxc12de 1 yJxa1e45_init_da8c8) (List.mem_cons_of_mem _ kw_2_2)) (hts (.instanceMethod yJxa1e45_init_da8c8) (List.mem_cons_of_mem _ kw_2_3)) rfl (by decide +kernel) ⟨Nat.le_of_ble_eq_true rfl, Nat.le_of_ble_eq_true rfl⟩) ⟨fun a U g mk q => by obtain ⟨q0, q1, qP, qK, qD⟩ := q; exact ⟨q0, q1, qP, va_K.moved (u := U) (U := U.calling g mk a) (Vm.Alike.refl U.vm) qK, qD⟩, fun U hU hW => ⟨rfl, by rw [hU], by rw [hU]; exact hPc, va_K.moved hW.alike hKc, hDc.weaken (fun _ _ _ _ => trivial)⟩⟩ rfl rfl hl.1 rfl (lv_room (Nat.le_of_ble_eq_true rfl)) dJxc12de_init_da8c8_1 ⟨Nat.le_of_ble_eq_true rfl, Nat.le_of_ble_eq_true rfl⟩) hS (fun q _ h => hFc q h) hFc (fun u t H1 locs ht hvm hw hB hz1 hk1 hS => ?_)
  obtain ⟨hP, hD⟩ := va_join (wr := [(h0, .inr (0, [.int 0, .null, .int 0]))]) (w1 := []) hP hD [] [0] rfl rfl (by decide) (by decide) hk1 hFc (fun k q h => by simp at h) ⟨fun i j p q h => by simp at h, fun k q h => by simp at h⟩
  have hK := hK.sub (tys' := []) [] rfl
  generalize H1 = H at hP hS ⊢
  have hP : va_P (dC, dI) vwCl [(h0, .inr (0, [.int 0, .null, .int 0]))] H := hP
  have hD : va_D A [(h0, .inr (0, [.int 0, .null, .int 0]))] := hD
  have hK : va_K (dC, dI) vwCl [] s := hK
  refine lv_aload_n hx hb dJxc12de_init_da8c8_4 rfl (lv_at hl 0 rfl) ?_
  refine lv_iconst (v := 0) hx hb dJxc12de_init_da8c8_5 (by decide) ?_
  refine va_put (D := (dC, dI)) (ci := 0) (v := .int 0) (ty := .int) (C := RJx4a65c) (T := TJx4a65c) (N := 3) hx hb hts iCJx4a65c tyJx4a65c tyJx4a65c_ok nmJx4a65c hown hK hP hD hS 0 rfl rfl 0 (by decide) (hts (.fieldLink RJxc12de 7 "java/util/AbstractList" "modCount" "I") (List.mem_cons_of_mem _ kw_2_10)) (fun _ h9 => h9) rfl (by decide +kernel) rfl rfl (Nat.le_of_ble_eq_true rfl) dJxc12de_init_da8c8_6 (fun H locs hP hD hS => ?_)
  have hP : va_P (dC, dI) vwCl [(h0, .inr (0, [.int 0, .null, .int 0]))] H := hP
  have hD : va_D A [(h0, .inr (0, [.int 0, .null, .int 0]))] := hD
  have hP9 := hP.sub (ws' := [(h0, .inr (0, [.int 0, .null, .int 0]))]) [0] rfl
  have hD9 := hD.sub (ws' := [(h0, .inr (0, [.int 0, .null, .int 0]))]) [0] (by decide) rfl
  have hK9 := hK.sub (tys' := []) [] rfl
  refine W.widen (k := 0) (n := 0) (Nat.le_of_ble_eq_true rfl) (Nat.le_of_ble_eq_true rfl) ?_
  exact W.vret hx hb hr (fun t ht hW => ⟨⟨(), rfl, trivial, ⟨by rw [ht]; exact hP9, va_K.moved hW.alike hK9, hD9⟩⟩, hS.F ht⟩) hS.2.2 dJxc12de_init_da8c8_9
set_option maxHeartbeats 4000000 in
set_option maxRecDepth 100000 in
theorem x_ArrayList_init (l : Launch) (dC : Nat → ClassId) (dI : Nat → Nat → Nat) (sz : Nat) (tD : Nat) (h0 : Nat) : Met l yJx4a65c_init_da8c8 (.code yJx4a65c_init_da8c8 cJx4a65c_init_da8c8 1 none :: lw_good) ({ frames := 6, cells := 0, slots := 0, locals := 180 }) (va_Pc [.ref h0] (fun U => U.heap.size = sz ∧ va_P (dC, dI) vwCl [(h0, .inr (0, [.int 0, .null, .int 0]))] U.heap ∧ va_K (dC, dI) vwCl [] U ∧ va_D (fun _ => True) [(h0, .inr (0, [.int 0, .null, .int 0]))] ∧ va_Z "java/util/ArrayList" "DEFAULTCAPACITY_EMPTY_ELEMENTDATA" "[Ljava/lang/Object;" (.ref tD) (va_A [(h0, .inr (0, [.int 0, .null, .int 0]))] sz) U U.heap)) (va_Qv (fun (_ : Unit) => True) (fun (_ : Unit) (t : State) => va_P (dC, dI) vwCl [(h0, .inr (0, [.int 0, .ref tD, .int 0]))] t.heap ∧ va_K (dC, dI) vwCl [] t ∧ va_D (va_A [(h0, .inr (0, [.int 0, .null, .int 0]))] sz) [(h0, .inr (0, [.int 0, .ref tD, .int 0]))]) (va_A [(h0, .inr (0, [.int 0, .null, .int 0]))] sz)) 0 0 (va_A [(h0, .inr (0, [.int 0, .null, .int 0]))] sz) := by
  refine Met.ofW (cc := cJx4a65c_init_da8c8) (maxL := 1) (ret := none) (by decide) rfl ?_
  intro p e s m args below meth c s₁ B hml hv
  obtain ⟨rfl, hsz, hP, hK, hD0, hZ_dce⟩ := hv
  have hx := B.exec
  have hb := B.bytes
  have hr := B.returns
  have hts := atoms_spec (ws := (.code yJx4a65c_init_da8c8 cJx4a65c_init_da8c8 1 none :: lw_good)) B.pre
  have hown : s.vm.findClass RJx4a65c = some m.cls := findClass_of_methodNamed B.named
  have hlocks := B.notSynchronized
  have hin : meth.name = "<init>" := (name_of_methodNamed B.named B.method).1
  subst hsz
  have hD := hD0.self (sz := s.heap.size)
  generalize hAe : va_A [(h0, .inr (0, [.int 0, .null, .int 0]))] s.heap.size = A at hD ⊢ hZ_dce
  have hA : ∀ q : Nat, s.heap.size ≤ q → A q := fun q h => by rw [← hAe]; exact Or.inr h
  have hS : va_S A s.heap s.heap [] := va_S.rf
  have hP : va_P (dC, dI) vwCl [(h0, .inr (0, [.int 0, .null, .int 0]))] s.heap := hP
  have hl := lv_entry ([.ref h0]) (n := 1) (Nat.le_of_ble_eq_true rfl)
  rw [lg_entry_eq]
  generalize (lg_sl ([.ref h0]) ++ List.replicate (1 - (lg_sl ([.ref h0])).length) Slot.unset).toArray = ls at hl ⊢
  have hl : lv_has ls 1 [(0, .ref h0)] := hl
  refine lv_aload_n hx hb dJx4a65c_init_da8c8_0 rfl (lv_at hl 0 rfl) ?_
  have hPc := hP.sub (ws' := [(h0, .inr (0, [.int 0, .null, .int 0]))]) [0] rfl
  have hDc := hD.sub (ws' := [(h0, .inr (0, [.int 0, .null, .int 0]))]) [0] (by decide) rfl
  have hKc := hK.sub (tys' := []) [] rfl
  have hFc := va_free (wc := [(h0, .inr (0, [.int 0, .null, .int 0]))]) hD hS hA [0] rfl
  refine va_callv (va_runI (As := []) (rest := []) ⟨hx, hb, hml, hown, hts⟩ (x_AL_init l dC dI s.heap.size h0) (cwI 0 hts (gG kw_2_1) rfl rfl rfl (hts (.initialized RJxc12de) (List.mem_cons_of_mem _ kw_1_8)) (hts (.methodLink RJx4a65c 1 yJxc12de_init_da8c8) (List.mem_cons_of_mem _ kw_1_239)) (hts (.instanceMethod yJxc12de_init_da8c8) (List.mem_cons_of_mem _ kw_2_0)) rfl (by decide +kernel) ⟨Nat.le_of_ble_eq_true rfl, Nat.le_of_ble_eq_true rfl⟩) ⟨fun a U g mk q => by obtain ⟨q0, q1, qP, qK, qD⟩ := q; exact ⟨q0, q1, qP, va_K.moved (u := U) (U := U.calling g mk a) (Vm.Alike.refl U.vm) qK, qD⟩, fun U hU hW => ⟨rfl, by rw [hU], by rw [hU]; exact hPc, va_K.moved hW.alike hKc, hDc.weaken (fun _ _ _ _ => trivial)⟩⟩ rfl rfl hl.1 rfl (lv_room (Nat.le_of_ble_eq_true rfl)) dJx4a65c_init_da8c8_1 ⟨Nat.le_of_ble_eq_true rfl, Nat.le_of_ble_eq_true rfl⟩) hS (fun q _ h => hFc q h) hFc (fun u t H1 locs ht hvm hw hB hz1 hk1 hS => ?_)
  obtain ⟨hP1, hK1, hD1⟩ := hB
  rw [ht] at hP1
  have hK1 := va_K.moved hvm.symm hK1
  obtain ⟨hP, hD⟩ := va_join (wr := []) (w1 := [(h0, .inr (0, [.int 0, .null, .int 0]))]) hP hD [0] [] rfl rfl (by decide) (by decide) hk1 hFc hP1 hD1
  have hK := (hK.sub (tys' := []) [] rfl).app hK1
  generalize H1 = H at hP hS ⊢
  have hP : va_P (dC, dI) vwCl [(h0, .inr (0, [.int 0, .null, .int 0]))] H := hP
  have hD : va_D A [(h0, .inr (0, [.int 0, .null, .int 0]))] := hD
  have hK : va_K (dC, dI) vwCl [] s := hK
  refine lv_aload_n hx hb dJx4a65c_init_da8c8_4 rfl (lv_at hl 0 rfl) ?_
  refine va_gets hx hb hZ_dce hS hown (hts (.fieldLink RJx4a65c 39 "java/util/ArrayList" "DEFAULTCAPACITY_EMPTY_ELEMENTDATA" "[Ljava/lang/Object;") (List.mem_cons_of_mem _ kw_2_6)) (fun _ h9 => h9) dJx4a65c_init_da8c8_5 ?_
  refine va_put (D := (dC, dI)) (ci := 0) (v := .ref tD) (ty := .array (.object "java/lang/Object")) (C := RJx4a65c) (T := TJx4a65c) (N := 3) hx hb hts iCJx4a65c tyJx4a65c tyJx4a65c_ok nmJx4a65c hown hK hP hD hS 0 rfl rfl 1 (by decide) (hts (.fieldLink RJx4a65c 9 "java/util/ArrayList" "elementData" "[Ljava/lang/Object;") (List.mem_cons_of_mem _ kw_2_8)) (fun _ h9 => h9) rfl (by decide +kernel) rfl rfl (Nat.le_of_ble_eq_true rfl) dJx4a65c_init_da8c8_8 (fun H locs hP hD hS => ?_)
  have hP : va_P (dC, dI) vwCl [(h0, .inr (0, [.int 0, .ref tD, .int 0]))] H := hP
  have hD : va_D A [(h0, .inr (0, [.int 0, .ref tD, .int 0]))] := hD
  have hP9 := hP.sub (ws' := [(h0, .inr (0, [.int 0, .ref tD, .int 0]))]) [0] rfl
  have hD9 := hD.sub (ws' := [(h0, .inr (0, [.int 0, .ref tD, .int 0]))]) [0] (by decide) rfl
  have hK9 := hK.sub (tys' := []) [] rfl
  refine W.widen (k := 0) (n := 0) (Nat.le_of_ble_eq_true rfl) (Nat.le_of_ble_eq_true rfl) ?_
  exact W.vret hx hb hr (fun t ht hW => ⟨⟨(), rfl, trivial, ⟨by rw [ht]; exact hP9, va_K.moved hW.alike hK9, hD9⟩⟩, hS.F ht⟩) hS.2.2 dJx4a65c_init_da8c8_11
set_option maxHeartbeats 4000000 in
set_option maxRecDepth 100000 in
theorem x_Reader_init (l : Launch) (dC : Nat → ClassId) (dI : Nat → Nat → Nat) (sz : Nat) (h0 : Nat) : Met l yX3_init (.code yX3_init cX3_init 1 none :: lw_good) ({ frames := 5, cells := 10, slots := 1258, locals := 120 }) (va_Pc [.ref h0] (fun U => U.heap.size = sz ∧ va_P (dC, dI) vwCl [(h0, .inr (4, [.null, .null, .null, .int 0, .int 0, .null, .int 0, .int 0, .int 0, .int 0, .int 0, .int 0]))] U.heap ∧ va_K (dC, dI) vwCl [] U ∧ va_D (fun _ => True) [(h0, .inr (4, [.null, .null, .null, .int 0, .int 0, .null, .int 0, .int 0, .int 0, .int 0, .int 0, .int 0]))] ∧ va_AO RX6 U)) (va_Qv (fun (_ : Unit) => True) (fun (_ : Unit) (t : State) => ∃ (a_tok : Nat), ∃ (k_tok : ClassId), ∃ (a_sta : Nat), ∃ (k_sta : ClassId), ∃ (a_num : Nat), ∃ (k_num : ClassId), ∃ (a_dr : Nat), ∃ (a_kinds : Nat), ∃ (k_kinds : ClassId), ∃ (a_values : Nat), ∃ (k_values : ClassId), ∃ (a_ends : Nat), ∃ (k_ends : ClassId), ∃ (a_acts : Nat), ∃ (k_acts : ClassId), ∃ (a_asked : Nat), ∃ (k_asked : ClassId), ∃ (a_numbers : Nat), ∃ (k_numbers : ClassId), va_P (dC, dI) vwCl [(h0, .inr (4, [.ref a_tok, .ref a_sta, .ref a_num, .int 0, .int 0, .ref a_dr, .int 0, .int 0, .int 0, .int 0, .int 0, .int 0])), (a_tok, .inl (k_tok, 301, .inr (.inr (.inr (.inr (fun _ => none)))))), (a_sta, .inl (k_sta, 301, .inl (fun _ => 0))), (a_num, .inl (k_num, 301, .inl (fun _ => 0))), (a_dr, .inr (1, [.int 0, .ref a_kinds, .ref a_values, .ref a_ends, .ref a_acts, .ref a_asked, .ref a_numbers])), (a_kinds, .inl (k_kinds, 16, .inl (fun _ => 0))), (a_values, .inl (k_values, 16, .inl (fun _ => 0))), (a_ends, .inl (k_ends, 16, .inl (fun _ => 0))), (a_acts, .inl (k_acts, 100, .inl (fun _ => 0))), (a_asked, .inl (k_asked, 100, .inl (fun _ => 0))), (a_numbers, .inl (k_numbers, 100, .inl (fun _ => 0)))] t.heap ∧ va_K (dC, dI) vwCl [(k_tok, .object RX6), (k_sta, .int), (k_num, .int), (k_kinds, .int), (k_values, .int), (k_ends, .int), (k_acts, .int), (k_asked, .int), (k_numbers, .int)] t ∧ va_D (va_A [(h0, .inr (4, [.null, .null, .null, .int 0, .int 0, .null, .int 0, .int 0, .int 0, .int 0, .int 0, .int 0]))] sz) [(h0, .inr (4, [.ref a_tok, .ref a_sta, .ref a_num, .int 0, .int 0, .ref a_dr, .int 0, .int 0, .int 0, .int 0, .int 0, .int 0])), (a_tok, .inl (k_tok, 301, .inr (.inr (.inr (.inr (fun _ => none)))))), (a_sta, .inl (k_sta, 301, .inl (fun _ => 0))), (a_num, .inl (k_num, 301, .inl (fun _ => 0))), (a_dr, .inr (1, [.int 0, .ref a_kinds, .ref a_values, .ref a_ends, .ref a_acts, .ref a_asked, .ref a_numbers])), (a_kinds, .inl (k_kinds, 16, .inl (fun _ => 0))), (a_values, .inl (k_values, 16, .inl (fun _ => 0))), (a_ends, .inl (k_ends, 16, .inl (fun _ => 0))), (a_acts, .inl (k_acts, 100, .inl (fun _ => 0))), (a_asked, .inl (k_asked, 100, .inl (fun _ => 0))), (a_numbers, .inl (k_numbers, 100, .inl (fun _ => 0)))]) (va_A [(h0, .inr (4, [.null, .null, .null, .int 0, .int 0, .null, .int 0, .int 0, .int 0, .int 0, .int 0, .int 0]))] sz)) 10 1258 (va_A [(h0, .inr (4, [.null, .null, .null, .int 0, .int 0, .null, .int 0, .int 0, .int 0, .int 0, .int 0, .int 0]))] sz) := by
  refine Met.ofW (cc := cX3_init) (maxL := 1) (ret := none) (by decide) rfl ?_
  intro p e s m args below meth c s₁ B hml hv
  obtain ⟨rfl, hsz, hP, hK, hD0, hAO_T⟩ := hv
  have hx := B.exec
  have hb := B.bytes
  have hr := B.returns
  have hts := atoms_spec (ws := (.code yX3_init cX3_init 1 none :: lw_good)) B.pre
  have hown : s.vm.findClass RX3 = some m.cls := findClass_of_methodNamed B.named
  have hlocks := B.notSynchronized
  have hin : meth.name = "<init>" := (name_of_methodNamed B.named B.method).1
  subst hsz
  have hD := hD0.self (sz := s.heap.size)
  generalize hAe : va_A [(h0, .inr (4, [.null, .null, .null, .int 0, .int 0, .null, .int 0, .int 0, .int 0, .int 0, .int 0, .int 0]))] s.heap.size = A at hD ⊢
  have hA : ∀ q : Nat, s.heap.size ≤ q → A q := fun q h => by rw [← hAe]; exact Or.inr h
  have hS : va_S A s.heap s.heap [] := va_S.rf
  have hP : va_P (dC, dI) vwCl [(h0, .inr (4, [.null, .null, .null, .int 0, .int 0, .null, .int 0, .int 0, .int 0, .int 0, .int 0, .int 0]))] s.heap := hP
  have hl := lv_entry ([.ref h0]) (n := 1) (Nat.le_of_ble_eq_true rfl)
  rw [lg_entry_eq]
  generalize (lg_sl ([.ref h0]) ++ List.replicate (1 - (lg_sl ([.ref h0])).length) Slot.unset).toArray = ls at hl ⊢
  have hl : lv_has ls 1 [(0, .ref h0)] := hl
  refine lv_aload_n hx hb dX3_init_0 rfl (lv_at hl 0 rfl) ?_
  refine W.objInit hx hb hown (hts (.methodLink RX3 3 objectInit) (List.mem_cons_of_mem _ kw_2_136)) (hts (.instanceMethod objectInit) (List.mem_cons_of_mem _ kw_1_38)) (hts (.code objectInit ⟨#[0xb1]⟩ 1 none) (List.mem_cons_of_mem _ kw_1_39)) rfl (by rw [hml]; exact hl.1) rfl dX3_init_1 (Nat.le_of_ble_eq_true rfl) (Nat.le_of_ble_eq_true rfl) ?_
  refine W.eq (g2 := F0 m 4 ls []) rfl ?_
  refine lv_aload_n hx hb dX3_init_4 rfl (lv_at hl 0 rfl) ?_
  refine lv_sipush (v := 301) hx hb dX3_init_5 (by decide) ?_
  refine va_newq (N' := 301) hx hb hown (hts (.classLink RX3 9 RX6) (List.mem_cons_of_mem _ kw_2_137)) hAO_T hK hP hD hS hA (by decide) (by decide) (by decide) (Nat.le_of_ble_eq_true rfl) (Nat.le_of_ble_eq_true rfl) dX3_init_8 (fun q_1 cA_1 H hK hP hD hS => ?_)
  have hP : va_P (dC, dI) vwCl [(h0, .inr (4, [.null, .null, .null, .int 0, .int 0, .null, .int 0, .int 0, .int 0, .int 0, .int 0, .int 0])), (q_1, .inl (cA_1, 301, .inr (.inr (.inr (.inr (fun _ => none))))))] H := hP
  have hD : va_D A [(h0, .inr (4, [.null, .null, .null, .int 0, .int 0, .null, .int 0, .int 0, .int 0, .int 0, .int 0, .int 0])), (q_1, .inl (cA_1, 301, .inr (.inr (.inr (.inr (fun _ => none))))))] := hD
  have hK : va_K (dC, dI) vwCl [(cA_1, .object RX6)] s := hK
  refine W.widen (k := 1) (n := 301) (Nat.le_of_ble_eq_true rfl) (Nat.le_of_ble_eq_true rfl) ?_
  refine va_putF (D := (dC, dI)) (ci := 4) (v := .ref q_1) (ty := .array (.object "WalkingTown$Token")) (C := RX3) (T := TX3) (N := 12) hx hb hts iCX3 tyX3 tyX3_ok nmX3 hown hK hP hD hS 0 rfl rfl 0 (by decide) (hts (.fieldLink RX3 11 "WalkingTown$Reader" "tokens" "[LWalkingTown$Token;") (List.mem_cons_of_mem _ kw_2_141)) (fun _ h9 => h9) rfl hin rfl (by decide +kernel) rfl rfl (Nat.le_of_ble_eq_true rfl) dX3_init_11 (fun H locs hP hD hS => ?_)
  have hP : va_P (dC, dI) vwCl [(h0, .inr (4, [.ref q_1, .null, .null, .int 0, .int 0, .null, .int 0, .int 0, .int 0, .int 0, .int 0, .int 0])), (q_1, .inl (cA_1, 301, .inr (.inr (.inr (.inr (fun _ => none))))))] H := hP
  have hD : va_D A [(h0, .inr (4, [.ref q_1, .null, .null, .int 0, .int 0, .null, .int 0, .int 0, .int 0, .int 0, .int 0, .int 0])), (q_1, .inl (cA_1, 301, .inr (.inr (.inr (.inr (fun _ => none))))))] := hD
  refine lv_aload_n hx hb dX3_init_14 rfl (lv_at hl 0 rfl) ?_
  refine lv_sipush (v := 301) hx hb dX3_init_15 (by decide) ?_
  refine va_newa (atype := .int) (N' := 301) (a0 := (301, .inl (fun _ => 0))) hx hb (hts (.arrayClass .int) (List.mem_cons_of_mem _ kw_1_60)) (ty := .int) rfl hK hP hD hS hA (fun _ => rfl) (by decide) (by decide) (by decide) (Nat.le_of_ble_eq_true rfl) (Nat.le_of_ble_eq_true rfl) dX3_init_18 (fun q_2 cA_2 H hK hP hD hS => ?_)
  have hP : va_P (dC, dI) vwCl [(h0, .inr (4, [.ref q_1, .null, .null, .int 0, .int 0, .null, .int 0, .int 0, .int 0, .int 0, .int 0, .int 0])), (q_1, .inl (cA_1, 301, .inr (.inr (.inr (.inr (fun _ => none)))))), (q_2, .inl (cA_2, 301, .inl (fun _ => 0)))] H := hP
  have hD : va_D A [(h0, .inr (4, [.ref q_1, .null, .null, .int 0, .int 0, .null, .int 0, .int 0, .int 0, .int 0, .int 0, .int 0])), (q_1, .inl (cA_1, 301, .inr (.inr (.inr (.inr (fun _ => none)))))), (q_2, .inl (cA_2, 301, .inl (fun _ => 0)))] := hD
  have hK : va_K (dC, dI) vwCl [(cA_1, .object RX6), (cA_2, .int)] s := hK
  refine W.widen (k := 2) (n := 602) (Nat.le_of_ble_eq_true rfl) (Nat.le_of_ble_eq_true rfl) ?_
  refine va_putF (D := (dC, dI)) (ci := 4) (v := .ref q_2) (ty := .array .int) (C := RX3) (T := TX3) (N := 12) hx hb hts iCX3 tyX3 tyX3_ok nmX3 hown hK hP hD hS 0 rfl rfl 1 (by decide) (hts (.fieldLink RX3 15 "WalkingTown$Reader" "starts" "[I") (List.mem_cons_of_mem _ kw_2_142)) (fun _ h9 => h9) rfl hin rfl (by decide +kernel) rfl rfl (Nat.le_of_ble_eq_true rfl) dX3_init_20 (fun H locs hP hD hS => ?_)
  have hP : va_P (dC, dI) vwCl [(h0, .inr (4, [.ref q_1, .ref q_2, .null, .int 0, .int 0, .null, .int 0, .int 0, .int 0, .int 0, .int 0, .int 0])), (q_1, .inl (cA_1, 301, .inr (.inr (.inr (.inr (fun _ => none)))))), (q_2, .inl (cA_2, 301, .inl (fun _ => 0)))] H := hP
  have hD : va_D A [(h0, .inr (4, [.ref q_1, .ref q_2, .null, .int 0, .int 0, .null, .int 0, .int 0, .int 0, .int 0, .int 0, .int 0])), (q_1, .inl (cA_1, 301, .inr (.inr (.inr (.inr (fun _ => none)))))), (q_2, .inl (cA_2, 301, .inl (fun _ => 0)))] := hD
  refine lv_aload_n hx hb dX3_init_23 rfl (lv_at hl 0 rfl) ?_
  refine lv_sipush (v := 301) hx hb dX3_init_24 (by decide) ?_
  refine va_newa (atype := .int) (N' := 301) (a0 := (301, .inl (fun _ => 0))) hx hb (hts (.arrayClass .int) (List.mem_cons_of_mem _ kw_1_60)) (ty := .int) rfl hK hP hD hS hA (fun _ => rfl) (by decide) (by decide) (by decide) (Nat.le_of_ble_eq_true rfl) (Nat.le_of_ble_eq_true rfl) dX3_init_27 (fun q_3 cA_3 H hK hP hD hS => ?_)
  have hP : va_P (dC, dI) vwCl [(h0, .inr (4, [.ref q_1, .ref q_2, .null, .int 0, .int 0, .null, .int 0, .int 0, .int 0, .int 0, .int 0, .int 0])), (q_1, .inl (cA_1, 301, .inr (.inr (.inr (.inr (fun _ => none)))))), (q_2, .inl (cA_2, 301, .inl (fun _ => 0))), (q_3, .inl (cA_3, 301, .inl (fun _ => 0)))] H := hP
  have hD : va_D A [(h0, .inr (4, [.ref q_1, .ref q_2, .null, .int 0, .int 0, .null, .int 0, .int 0, .int 0, .int 0, .int 0, .int 0])), (q_1, .inl (cA_1, 301, .inr (.inr (.inr (.inr (fun _ => none)))))), (q_2, .inl (cA_2, 301, .inl (fun _ => 0))), (q_3, .inl (cA_3, 301, .inl (fun _ => 0)))] := hD
  have hK : va_K (dC, dI) vwCl [(cA_1, .object RX6), (cA_2, .int), (cA_3, .int)] s := hK
  refine W.widen (k := 3) (n := 903) (Nat.le_of_ble_eq_true rfl) (Nat.le_of_ble_eq_true rfl) ?_
  refine va_putF (D := (dC, dI)) (ci := 4) (v := .ref q_3) (ty := .array .int) (C := RX3) (T := TX3) (N := 12) hx hb hts iCX3 tyX3 tyX3_ok nmX3 hown hK hP hD hS 0 rfl rfl 2 (by decide) (hts (.fieldLink RX3 19 "WalkingTown$Reader" "numbers" "[I") (List.mem_cons_of_mem _ kw_2_143)) (fun _ h9 => h9) rfl hin rfl (by decide +kernel) rfl rfl (Nat.le_of_ble_eq_true rfl) dX3_init_29 (fun H locs hP hD hS => ?_)
  have hP : va_P (dC, dI) vwCl [(h0, .inr (4, [.ref q_1, .ref q_2, .ref q_3, .int 0, .int 0, .null, .int 0, .int 0, .int 0, .int 0, .int 0, .int 0])), (q_1, .inl (cA_1, 301, .inr (.inr (.inr (.inr (fun _ => none)))))), (q_2, .inl (cA_2, 301, .inl (fun _ => 0))), (q_3, .inl (cA_3, 301, .inl (fun _ => 0)))] H := hP
  have hD : va_D A [(h0, .inr (4, [.ref q_1, .ref q_2, .ref q_3, .int 0, .int 0, .null, .int 0, .int 0, .int 0, .int 0, .int 0, .int 0])), (q_1, .inl (cA_1, 301, .inr (.inr (.inr (.inr (fun _ => none)))))), (q_2, .inl (cA_2, 301, .inl (fun _ => 0))), (q_3, .inl (cA_3, 301, .inl (fun _ => 0)))] := hD
  refine lv_aload_n hx hb dX3_init_32 rfl (lv_at hl 0 rfl) ?_
  refine va_new (ci := 1) (fs := [.int 0, .null, .null, .null, .null, .null, .null]) (C := RX0) (T := TX0) (N := 7) hx hb hts iCX0 tyX0 tyX0_ok hown (hts (.classLink RX3 22 RX0) (List.mem_cons_of_mem _ kw_2_139)) (hts (.instantiable RX0 7) (List.mem_cons_of_mem _ kw_2_21)) (hts (.initialized RX0) (List.mem_cons_of_mem _ kw_1_10)) hK hP hD hS hA rfl (my_dfX0) (Nat.le_of_ble_eq_true rfl) (Nat.le_of_ble_eq_true rfl) dX3_init_33 (fun q_4 H hP hD hS => ?_)
  have hP : va_P (dC, dI) vwCl [(h0, .inr (4, [.ref q_1, .ref q_2, .ref q_3, .int 0, .int 0, .null, .int 0, .int 0, .int 0, .int 0, .int 0, .int 0])), (q_1, .inl (cA_1, 301, .inr (.inr (.inr (.inr (fun _ => none)))))), (q_2, .inl (cA_2, 301, .inl (fun _ => 0))), (q_3, .inl (cA_3, 301, .inl (fun _ => 0))), (q_4, .inr (1, [.int 0, .null, .null, .null, .null, .null, .null]))] H := hP
  have hD : va_D A [(h0, .inr (4, [.ref q_1, .ref q_2, .ref q_3, .int 0, .int 0, .null, .int 0, .int 0, .int 0, .int 0, .int 0, .int 0])), (q_1, .inl (cA_1, 301, .inr (.inr (.inr (.inr (fun _ => none)))))), (q_2, .inl (cA_2, 301, .inl (fun _ => 0))), (q_3, .inl (cA_3, 301, .inl (fun _ => 0))), (q_4, .inr (1, [.int 0, .null, .null, .null, .null, .null, .null]))] := hD
  refine W.widen (k := 4) (n := 910) (Nat.le_of_ble_eq_true rfl) (Nat.le_of_ble_eq_true rfl) ?_
  refine lv_dup hx hb dX3_init_36 rfl ?_
  refine lv_iconst (v := 0) hx hb dX3_init_37 (by decide) ?_
  refine lv_bipush (v := 16) hx hb dX3_init_38 (by decide) ?_
  refine lv_bipush (v := 100) hx hb dX3_init_40 (by decide) ?_
  have hPc := hP.sub (ws' := [(q_4, .inr (1, [.int 0, .null, .null, .null, .null, .null, .null]))]) [4] rfl
  have hDc := hD.sub (ws' := [(q_4, .inr (1, [.int 0, .null, .null, .null, .null, .null, .null]))]) [4] (by decide) rfl
  have hKc := hK.sub (tys' := []) [] rfl
  have hFc := va_free (wc := [(q_4, .inr (1, [.int 0, .null, .null, .null, .null, .null, .null]))]) hD hS hA [4] rfl
  refine va_callv (va_runI (As := [.int 0, .int 16, .int 100]) (rest := [.ref q_4, .ref h0]) ⟨hx, hb, hml, hown, hts⟩ (x_Law_init l dC dI H.size q_4 0 16 100 16 100 (by decide) (by decide) (by decide) (by decide) (by decide) (by decide)) (cwI 3 hts (gG kw_2_24) rfl rfl rfl (hts (.initialized RX0) (List.mem_cons_of_mem _ kw_1_10)) (hts (.methodLink RX3 24 yX0_init) (List.mem_cons_of_mem _ kw_2_140)) (hts (.instanceMethod yX0_init) (List.mem_cons_of_mem _ kw_2_23)) rfl (by decide +kernel) ⟨Nat.le_of_ble_eq_true rfl, Nat.le_of_ble_eq_true rfl⟩) ⟨fun a U g mk q => by obtain ⟨q0, q1, qP, qK, qD⟩ := q; exact ⟨q0, q1, qP, va_K.moved (u := U) (U := U.calling g mk a) (Vm.Alike.refl U.vm) qK, qD⟩, fun U hU hW => ⟨rfl, by rw [hU], by rw [hU]; exact hPc, va_K.moved hW.alike hKc, hDc.weaken (fun _ _ _ _ => trivial)⟩⟩ rfl rfl hl.1 rfl (lv_room (Nat.le_of_ble_eq_true rfl)) dX3_init_42 ⟨Nat.le_of_ble_eq_true rfl, Nat.le_of_ble_eq_true rfl⟩) hS (fun q _ h => hFc q h) hFc (fun u t H1 locs ht hvm hw hB hz1 hk1 hS => ?_)
  obtain ⟨a_kinds_6, k_kinds_7, a_values_8, k_values_9, a_ends_10, k_ends_11, a_acts_12, k_acts_13, a_asked_14, k_asked_15, a_numbers_16, k_numbers_17, hP1, hK1, hD1⟩ := hB
  rw [ht] at hP1
  have hK1 := va_K.moved hvm.symm hK1
  obtain ⟨hP, hD⟩ := va_join (wr := [(h0, .inr (4, [.ref q_1, .ref q_2, .ref q_3, .int 0, .int 0, .null, .int 0, .int 0, .int 0, .int 0, .int 0, .int 0])), (q_1, .inl (cA_1, 301, .inr (.inr (.inr (.inr (fun _ => none)))))), (q_2, .inl (cA_2, 301, .inl (fun _ => 0))), (q_3, .inl (cA_3, 301, .inl (fun _ => 0)))]) (w1 := [(q_4, .inr (1, [.int 0, .ref a_kinds_6, .ref a_values_8, .ref a_ends_10, .ref a_acts_12, .ref a_asked_14, .ref a_numbers_16])), (a_kinds_6, .inl (k_kinds_7, 16, .inl (fun _ => 0))), (a_values_8, .inl (k_values_9, 16, .inl (fun _ => 0))), (a_ends_10, .inl (k_ends_11, 16, .inl (fun _ => 0))), (a_acts_12, .inl (k_acts_13, 100, .inl (fun _ => 0))), (a_asked_14, .inl (k_asked_15, 100, .inl (fun _ => 0))), (a_numbers_16, .inl (k_numbers_17, 100, .inl (fun _ => 0)))]) hP hD [4] [0, 1, 2, 3] rfl rfl (by decide) (by decide) hk1 hFc hP1 hD1
  have hK := (hK.sub (tys' := [(cA_1, .object RX6), (cA_2, .int), (cA_3, .int)]) [0, 1, 2] rfl).app hK1
  generalize H1 = H at hP hS ⊢
  have hP : va_P (dC, dI) vwCl [(h0, .inr (4, [.ref q_1, .ref q_2, .ref q_3, .int 0, .int 0, .null, .int 0, .int 0, .int 0, .int 0, .int 0, .int 0])), (q_1, .inl (cA_1, 301, .inr (.inr (.inr (.inr (fun _ => none)))))), (q_2, .inl (cA_2, 301, .inl (fun _ => 0))), (q_3, .inl (cA_3, 301, .inl (fun _ => 0))), (q_4, .inr (1, [.int 0, .ref a_kinds_6, .ref a_values_8, .ref a_ends_10, .ref a_acts_12, .ref a_asked_14, .ref a_numbers_16])), (a_kinds_6, .inl (k_kinds_7, 16, .inl (fun _ => 0))), (a_values_8, .inl (k_values_9, 16, .inl (fun _ => 0))), (a_ends_10, .inl (k_ends_11, 16, .inl (fun _ => 0))), (a_acts_12, .inl (k_acts_13, 100, .inl (fun _ => 0))), (a_asked_14, .inl (k_asked_15, 100, .inl (fun _ => 0))), (a_numbers_16, .inl (k_numbers_17, 100, .inl (fun _ => 0)))] H := hP
  have hD : va_D A [(h0, .inr (4, [.ref q_1, .ref q_2, .ref q_3, .int 0, .int 0, .null, .int 0, .int 0, .int 0, .int 0, .int 0, .int 0])), (q_1, .inl (cA_1, 301, .inr (.inr (.inr (.inr (fun _ => none)))))), (q_2, .inl (cA_2, 301, .inl (fun _ => 0))), (q_3, .inl (cA_3, 301, .inl (fun _ => 0))), (q_4, .inr (1, [.int 0, .ref a_kinds_6, .ref a_values_8, .ref a_ends_10, .ref a_acts_12, .ref a_asked_14, .ref a_numbers_16])), (a_kinds_6, .inl (k_kinds_7, 16, .inl (fun _ => 0))), (a_values_8, .inl (k_values_9, 16, .inl (fun _ => 0))), (a_ends_10, .inl (k_ends_11, 16, .inl (fun _ => 0))), (a_acts_12, .inl (k_acts_13, 100, .inl (fun _ => 0))), (a_asked_14, .inl (k_asked_15, 100, .inl (fun _ => 0))), (a_numbers_16, .inl (k_numbers_17, 100, .inl (fun _ => 0)))] := hD
  have hK : va_K (dC, dI) vwCl [(cA_1, .object RX6), (cA_2, .int), (cA_3, .int), (k_kinds_7, .int), (k_values_9, .int), (k_ends_11, .int), (k_acts_13, .int), (k_asked_15, .int), (k_numbers_17, .int)] s := hK
  refine W.widen (k := 10) (n := 1258) (Nat.le_of_ble_eq_true rfl) (Nat.le_of_ble_eq_true rfl) ?_
  refine va_putF (D := (dC, dI)) (ci := 4) (v := .ref q_4) (ty := .object "WalkingTown$Law") (C := RX3) (T := TX3) (N := 12) hx hb hts iCX3 tyX3 tyX3_ok nmX3 hown hK hP hD hS 0 rfl rfl 5 (by decide) (hts (.fieldLink RX3 27 "WalkingTown$Reader" "draft" "LWalkingTown$Law;") (List.mem_cons_of_mem _ kw_2_146)) (fun _ h9 => h9) rfl hin rfl (by decide +kernel) rfl rfl (Nat.le_of_ble_eq_true rfl) dX3_init_45 (fun H locs hP hD hS => ?_)
  have hP : va_P (dC, dI) vwCl [(h0, .inr (4, [.ref q_1, .ref q_2, .ref q_3, .int 0, .int 0, .ref q_4, .int 0, .int 0, .int 0, .int 0, .int 0, .int 0])), (q_1, .inl (cA_1, 301, .inr (.inr (.inr (.inr (fun _ => none)))))), (q_2, .inl (cA_2, 301, .inl (fun _ => 0))), (q_3, .inl (cA_3, 301, .inl (fun _ => 0))), (q_4, .inr (1, [.int 0, .ref a_kinds_6, .ref a_values_8, .ref a_ends_10, .ref a_acts_12, .ref a_asked_14, .ref a_numbers_16])), (a_kinds_6, .inl (k_kinds_7, 16, .inl (fun _ => 0))), (a_values_8, .inl (k_values_9, 16, .inl (fun _ => 0))), (a_ends_10, .inl (k_ends_11, 16, .inl (fun _ => 0))), (a_acts_12, .inl (k_acts_13, 100, .inl (fun _ => 0))), (a_asked_14, .inl (k_asked_15, 100, .inl (fun _ => 0))), (a_numbers_16, .inl (k_numbers_17, 100, .inl (fun _ => 0)))] H := hP
  have hD : va_D A [(h0, .inr (4, [.ref q_1, .ref q_2, .ref q_3, .int 0, .int 0, .ref q_4, .int 0, .int 0, .int 0, .int 0, .int 0, .int 0])), (q_1, .inl (cA_1, 301, .inr (.inr (.inr (.inr (fun _ => none)))))), (q_2, .inl (cA_2, 301, .inl (fun _ => 0))), (q_3, .inl (cA_3, 301, .inl (fun _ => 0))), (q_4, .inr (1, [.int 0, .ref a_kinds_6, .ref a_values_8, .ref a_ends_10, .ref a_acts_12, .ref a_asked_14, .ref a_numbers_16])), (a_kinds_6, .inl (k_kinds_7, 16, .inl (fun _ => 0))), (a_values_8, .inl (k_values_9, 16, .inl (fun _ => 0))), (a_ends_10, .inl (k_ends_11, 16, .inl (fun _ => 0))), (a_acts_12, .inl (k_acts_13, 100, .inl (fun _ => 0))), (a_asked_14, .inl (k_asked_15, 100, .inl (fun _ => 0))), (a_numbers_16, .inl (k_numbers_17, 100, .inl (fun _ => 0)))] := hD
  have hP9 := hP.sub (ws' := [(h0, .inr (4, [.ref q_1, .ref q_2, .ref q_3, .int 0, .int 0, .ref q_4, .int 0, .int 0, .int 0, .int 0, .int 0, .int 0])), (q_1, .inl (cA_1, 301, .inr (.inr (.inr (.inr (fun _ => none)))))), (q_2, .inl (cA_2, 301, .inl (fun _ => 0))), (q_3, .inl (cA_3, 301, .inl (fun _ => 0))), (q_4, .inr (1, [.int 0, .ref a_kinds_6, .ref a_values_8, .ref a_ends_10, .ref a_acts_12, .ref a_asked_14, .ref a_numbers_16])), (a_kinds_6, .inl (k_kinds_7, 16, .inl (fun _ => 0))), (a_values_8, .inl (k_values_9, 16, .inl (fun _ => 0))), (a_ends_10, .inl (k_ends_11, 16, .inl (fun _ => 0))), (a_acts_12, .inl (k_acts_13, 100, .inl (fun _ => 0))), (a_asked_14, .inl (k_asked_15, 100, .inl (fun _ => 0))), (a_numbers_16, .inl (k_numbers_17, 100, .inl (fun _ => 0)))]) [0, 1, 2, 3, 4, 5, 6, 7, 8, 9, 10] rfl
  have hD9 := hD.sub (ws' := [(h0, .inr (4, [.ref q_1, .ref q_2, .ref q_3, .int 0, .int 0, .ref q_4, .int 0, .int 0, .int 0, .int 0, .int 0, .int 0])), (q_1, .inl (cA_1, 301, .inr (.inr (.inr (.inr (fun _ => none)))))), (q_2, .inl (cA_2, 301, .inl (fun _ => 0))), (q_3, .inl (cA_3, 301, .inl (fun _ => 0))), (q_4, .inr (1, [.int 0, .ref a_kinds_6, .ref a_values_8, .ref a_ends_10, .ref a_acts_12, .ref a_asked_14, .ref a_numbers_16])), (a_kinds_6, .inl (k_kinds_7, 16, .inl (fun _ => 0))), (a_values_8, .inl (k_values_9, 16, .inl (fun _ => 0))), (a_ends_10, .inl (k_ends_11, 16, .inl (fun _ => 0))), (a_acts_12, .inl (k_acts_13, 100, .inl (fun _ => 0))), (a_asked_14, .inl (k_asked_15, 100, .inl (fun _ => 0))), (a_numbers_16, .inl (k_numbers_17, 100, .inl (fun _ => 0)))]) [0, 1, 2, 3, 4, 5, 6, 7, 8, 9, 10] (by decide) rfl
  have hK9 := hK.sub (tys' := [(cA_1, .object RX6), (cA_2, .int), (cA_3, .int), (k_kinds_7, .int), (k_values_9, .int), (k_ends_11, .int), (k_acts_13, .int), (k_asked_15, .int), (k_numbers_17, .int)]) [0, 1, 2, 3, 4, 5, 6, 7, 8] rfl
  refine W.widen (k := 10) (n := 1258) (Nat.le_of_ble_eq_true rfl) (Nat.le_of_ble_eq_true rfl) ?_
  exact W.vret hx hb hr (fun t ht hW => ⟨⟨(), rfl, trivial, ⟨q_1, cA_1, q_2, cA_2, q_3, cA_3, q_4, a_kinds_6, k_kinds_7, a_values_8, k_values_9, a_ends_10, k_ends_11, a_acts_12, k_acts_13, a_asked_14, k_asked_15, a_numbers_16, k_numbers_17, by rw [ht]; exact hP9, va_K.moved hW.alike hK9, hD9⟩⟩, hS.F ht⟩) hS.2.2 dX3_init_48

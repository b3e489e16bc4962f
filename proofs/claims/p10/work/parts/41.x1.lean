theorem dJ13_bitCount_95d88_0 : decode cJ13_bitCount_95d88 0 = .ok (.lload_n 0, 1) := by decide +kernel
theorem dJ13_bitCount_95d88_1 : decode cJ13_bitCount_95d88 1 = .ok (.lload_n 0, 1) := by decide +kernel
theorem dJ13_bitCount_95d88_2 : decode cJ13_bitCount_95d88 2 = .ok (.iconst 1, 1) := by decide +kernel
theorem dJ13_bitCount_95d88_3 : decode cJ13_bitCount_95d88 3 = .ok (.lushr, 1) := by decide +kernel
theorem dJ13_bitCount_95d88_4 : decode cJ13_bitCount_95d88 4 = .ok (.ldc2_w 314, 3) := by decide +kernel
theorem dJ13_bitCount_95d88_7 : decode cJ13_bitCount_95d88 7 = .ok (.land, 1) := by decide +kernel
theorem dJ13_bitCount_95d88_8 : decode cJ13_bitCount_95d88 8 = .ok (.lsub, 1) := by decide +kernel
theorem dJ13_bitCount_95d88_9 : decode cJ13_bitCount_95d88 9 = .ok (.lstore_n 0, 1) := by decide +kernel
theorem dJ13_bitCount_95d88_10 : decode cJ13_bitCount_95d88 10 = .ok (.lload_n 0, 1) := by decide +kernel
theorem dJ13_bitCount_95d88_11 : decode cJ13_bitCount_95d88 11 = .ok (.ldc2_w 316, 3) := by decide +kernel
theorem dJ13_bitCount_95d88_14 : decode cJ13_bitCount_95d88 14 = .ok (.land, 1) := by decide +kernel
theorem dJ13_bitCount_95d88_15 : decode cJ13_bitCount_95d88 15 = .ok (.lload_n 0, 1) := by decide +kernel
theorem dJ13_bitCount_95d88_16 : decode cJ13_bitCount_95d88 16 = .ok (.iconst 2, 1) := by decide +kernel
theorem dJ13_bitCount_95d88_17 : decode cJ13_bitCount_95d88 17 = .ok (.lushr, 1) := by decide +kernel
theorem dJ13_bitCount_95d88_18 : decode cJ13_bitCount_95d88 18 = .ok (.ldc2_w 316, 3) := by decide +kernel
theorem dJ13_bitCount_95d88_21 : decode cJ13_bitCount_95d88 21 = .ok (.land, 1) := by decide +kernel
theorem dJ13_bitCount_95d88_22 : decode cJ13_bitCount_95d88 22 = .ok (.ladd, 1) := by decide +kernel
theorem dJ13_bitCount_95d88_23 : decode cJ13_bitCount_95d88 23 = .ok (.lstore_n 0, 1) := by decide +kernel
theorem dJ13_bitCount_95d88_24 : decode cJ13_bitCount_95d88 24 = .ok (.lload_n 0, 1) := by decide +kernel
theorem dJ13_bitCount_95d88_25 : decode cJ13_bitCount_95d88 25 = .ok (.lload_n 0, 1) := by decide +kernel
theorem dJ13_bitCount_95d88_26 : decode cJ13_bitCount_95d88 26 = .ok (.iconst 4, 1) := by decide +kernel
theorem dJ13_bitCount_95d88_27 : decode cJ13_bitCount_95d88 27 = .ok (.lushr, 1) := by decide +kernel
theorem dJ13_bitCount_95d88_28 : decode cJ13_bitCount_95d88 28 = .ok (.ladd, 1) := by decide +kernel
theorem dJ13_bitCount_95d88_29 : decode cJ13_bitCount_95d88 29 = .ok (.ldc2_w 318, 3) := by decide +kernel
theorem dJ13_bitCount_95d88_32 : decode cJ13_bitCount_95d88 32 = .ok (.land, 1) := by decide +kernel
theorem dJ13_bitCount_95d88_33 : decode cJ13_bitCount_95d88 33 = .ok (.lstore_n 0, 1) := by decide +kernel
theorem dJ13_bitCount_95d88_34 : decode cJ13_bitCount_95d88 34 = .ok (.lload_n 0, 1) := by decide +kernel
theorem dJ13_bitCount_95d88_35 : decode cJ13_bitCount_95d88 35 = .ok (.lload_n 0, 1) := by decide +kernel
theorem dJ13_bitCount_95d88_36 : decode cJ13_bitCount_95d88 36 = .ok (.bipush 8, 2) := by decide +kernel
theorem dJ13_bitCount_95d88_38 : decode cJ13_bitCount_95d88 38 = .ok (.lushr, 1) := by decide +kernel
theorem dJ13_bitCount_95d88_39 : decode cJ13_bitCount_95d88 39 = .ok (.ladd, 1) := by decide +kernel
theorem dJ13_bitCount_95d88_40 : decode cJ13_bitCount_95d88 40 = .ok (.lstore_n 0, 1) := by decide +kernel
theorem dJ13_bitCount_95d88_41 : decode cJ13_bitCount_95d88 41 = .ok (.lload_n 0, 1) := by decide +kernel
theorem dJ13_bitCount_95d88_42 : decode cJ13_bitCount_95d88 42 = .ok (.lload_n 0, 1) := by decide +kernel
theorem dJ13_bitCount_95d88_43 : decode cJ13_bitCount_95d88 43 = .ok (.bipush 16, 2) := by decide +kernel
theorem dJ13_bitCount_95d88_45 : decode cJ13_bitCount_95d88 45 = .ok (.lushr, 1) := by decide +kernel
theorem dJ13_bitCount_95d88_46 : decode cJ13_bitCount_95d88 46 = .ok (.ladd, 1) := by decide +kernel
theorem dJ13_bitCount_95d88_47 : decode cJ13_bitCount_95d88 47 = .ok (.lstore_n 0, 1) := by decide +kernel
theorem dJ13_bitCount_95d88_48 : decode cJ13_bitCount_95d88 48 = .ok (.lload_n 0, 1) := by decide +kernel
theorem dJ13_bitCount_95d88_49 : decode cJ13_bitCount_95d88 49 = .ok (.lload_n 0, 1) := by decide +kernel
theorem dJ13_bitCount_95d88_50 : decode cJ13_bitCount_95d88 50 = .ok (.bipush 32, 2) := by decide +kernel
theorem dJ13_bitCount_95d88_52 : decode cJ13_bitCount_95d88 52 = .ok (.lushr, 1) := by decide +kernel
theorem dJ13_bitCount_95d88_53 : decode cJ13_bitCount_95d88 53 = .ok (.ladd, 1) := by decide +kernel
theorem dJ13_bitCount_95d88_54 : decode cJ13_bitCount_95d88 54 = .ok (.lstore_n 0, 1) := by decide +kernel
theorem dJ13_bitCount_95d88_55 : decode cJ13_bitCount_95d88 55 = .ok (.lload_n 0, 1) := by decide +kernel
theorem dJ13_bitCount_95d88_56 : decode cJ13_bitCount_95d88 56 = .ok (.l2i, 1) := by decide +kernel
theorem dJ13_bitCount_95d88_57 : decode cJ13_bitCount_95d88 57 = .ok (.bipush 127, 2) := by decide +kernel
theorem dJ13_bitCount_95d88_59 : decode cJ13_bitCount_95d88 59 = .ok (.iand, 1) := by decide +kernel
theorem dJ13_bitCount_95d88_60 : decode cJ13_bitCount_95d88 60 = .ok (.ireturn, 1) := by decide +kernel
theorem dX10_has_0 : decode cX10_has 0 = .ok (.iload_n 1, 1) := by decide +kernel
theorem dX10_has_1 : decode cX10_has 1 = .ok (.ifCond .lt 15, 3) := by decide +kernel
theorem dX10_has_4 : decode cX10_has 4 = .ok (.iload_n 1, 1) := by decide +kernel
theorem dX10_has_5 : decode cX10_has 5 = .ok (.aload_n 0, 1) := by decide +kernel
theorem dX10_has_6 : decode cX10_has 6 = .ok (.getfield 36, 3) := by decide +kernel
theorem dX10_has_9 : decode cX10_has 9 = .ok (.if_icmp .ge 7, 3) := by decide +kernel
theorem dX10_has_12 : decode cX10_has 12 = .ok (.iconst 1, 1) := by decide +kernel
theorem dX10_has_13 : decode cX10_has 13 = .ok (.goto 4, 3) := by decide +kernel
theorem dX10_has_16 : decode cX10_has 16 = .ok (.iconst 0, 1) := by decide +kernel
theorem dX10_has_17 : decode cX10_has 17 = .ok (.ireturn, 1) := by decide +kernel
theorem dX10_join_0 : decode cX10_join 0 = .ok (.aload_n 0, 1) := by decide +kernel
theorem dX10_join_1 : decode cX10_join 1 = .ok (.getfield 36, 3) := by decide +kernel
theorem dX10_join_4 : decode cX10_join 4 = .ok (.bipush 20, 2) := by decide +kernel
theorem dX10_join_6 : decode cX10_join 6 = .ok (.if_icmp .ge 23, 3) := by decide +kernel
theorem dX10_join_9 : decode cX10_join 9 = .ok (.iload_n 1, 1) := by decide +kernel
theorem dX10_join_10 : decode cX10_join 10 = .ok (.ifCond .lt 19, 3) := by decide +kernel
theorem dX10_join_13 : decode cX10_join 13 = .ok (.iload_n 1, 1) := by decide +kernel
theorem dX10_join_14 : decode cX10_join 14 = .ok (.iconst 2, 1) := by decide +kernel
theorem dX10_join_15 : decode cX10_join 15 = .ok (.if_icmp .gt 14, 3) := by decide +kernel
theorem dX10_join_18 : decode cX10_join 18 = .ok (.iload_n 3, 1) := by decide +kernel
theorem dX10_join_19 : decode cX10_join 19 = .ok (.iconst 1, 1) := by decide +kernel
theorem dX10_join_20 : decode cX10_join 20 = .ok (.if_icmp .lt 9, 3) := by decide +kernel
theorem dX10_join_23 : decode cX10_join 23 = .ok (.iload_n 3, 1) := by decide +kernel
theorem dX10_join_24 : decode cX10_join 24 = .ok (.bipush 9, 2) := by decide +kernel
theorem dX10_join_26 : decode cX10_join 26 = .ok (.if_icmp .le 5, 3) := by decide +kernel
theorem dX10_join_29 : decode cX10_join 29 = .ok (.iconst (-1), 1) := by decide +kernel
theorem dX10_join_30 : decode cX10_join 30 = .ok (.ireturn, 1) := by decide +kernel
theorem dX10_join_31 : decode cX10_join 31 = .ok (.aload_n 0, 1) := by decide +kernel
theorem dX10_join_32 : decode cX10_join 32 = .ok (.getfield 11, 3) := by decide +kernel
theorem dX10_join_35 : decode cX10_join 35 = .ok (.aload_n 0, 1) := by decide +kernel
theorem dX10_join_36 : decode cX10_join 36 = .ok (.getfield 36, 3) := by decide +kernel
theorem dX10_join_39 : decode cX10_join 39 = .ok (.iload_n 1, 1) := by decide +kernel
theorem dX10_join_40 : decode cX10_join 40 = .ok (.iastore, 1) := by decide +kernel
theorem dX10_join_41 : decode cX10_join 41 = .ok (.aload_n 0, 1) := by decide +kernel
theorem dX10_join_42 : decode cX10_join 42 = .ok (.getfield 15, 3) := by decide +kernel
theorem dX10_join_45 : decode cX10_join 45 = .ok (.aload_n 0, 1) := by decide +kernel
theorem dX10_join_46 : decode cX10_join 46 = .ok (.getfield 36, 3) := by decide +kernel
theorem dX10_join_49 : decode cX10_join 49 = .ok (.iload_n 2, 1) := by decide +kernel
theorem dX10_join_50 : decode cX10_join 50 = .ok (.iastore, 1) := by decide +kernel
theorem dX10_join_51 : decode cX10_join 51 = .ok (.aload_n 0, 1) := by decide +kernel
theorem dX10_join_52 : decode cX10_join 52 = .ok (.getfield 18, 3) := by decide +kernel
theorem dX10_join_55 : decode cX10_join 55 = .ok (.aload_n 0, 1) := by decide +kernel
theorem dX10_join_56 : decode cX10_join 56 = .ok (.getfield 36, 3) := by decide +kernel
theorem dX10_join_59 : decode cX10_join 59 = .ok (.iload_n 3, 1) := by decide +kernel
theorem dX10_join_60 : decode cX10_join 60 = .ok (.iastore, 1) := by decide +kernel
theorem dX10_join_61 : decode cX10_join 61 = .ok (.aload_n 0, 1) := by decide +kernel
theorem dX10_join_62 : decode cX10_join 62 = .ok (.getfield 21, 3) := by decide +kernel
theorem dX10_join_65 : decode cX10_join 65 = .ok (.aload_n 0, 1) := by decide +kernel
theorem dX10_join_66 : decode cX10_join 66 = .ok (.getfield 36, 3) := by decide +kernel
theorem dX10_join_69 : decode cX10_join 69 = .ok (.iload 4, 2) := by decide +kernel
theorem dX10_join_71 : decode cX10_join 71 = .ok (.iastore, 1) := by decide +kernel
theorem dX10_join_72 : decode cX10_join 72 = .ok (.aload_n 0, 1) := by decide +kernel
theorem dX10_join_73 : decode cX10_join 73 = .ok (.getfield 33, 3) := by decide +kernel
theorem dX10_join_76 : decode cX10_join 76 = .ok (.aload_n 0, 1) := by decide +kernel
theorem dX10_join_77 : decode cX10_join 77 = .ok (.getfield 36, 3) := by decide +kernel
theorem dX10_join_80 : decode cX10_join 80 = .ok (.iload_n 2, 1) := by decide +kernel
theorem dX10_join_81 : decode cX10_join 81 = .ok (.iastore, 1) := by decide +kernel
theorem dX10_join_82 : decode cX10_join 82 = .ok (.aload_n 0, 1) := by decide +kernel
theorem dX10_join_83 : decode cX10_join 83 = .ok (.dup, 1) := by decide +kernel
theorem dX10_join_84 : decode cX10_join 84 = .ok (.getfield 36, 3) := by decide +kernel
theorem dX10_join_87 : decode cX10_join 87 = .ok (.iconst 1, 1) := by decide +kernel
theorem dX10_join_88 : decode cX10_join 88 = .ok (.iadd, 1) := by decide +kernel
theorem dX10_join_89 : decode cX10_join 89 = .ok (.putfield 36, 3) := by decide +kernel
theorem dX10_join_92 : decode cX10_join 92 = .ok (.aload_n 0, 1) := by decide +kernel
theorem dX10_join_93 : decode cX10_join 93 = .ok (.getfield 36, 3) := by decide +kernel
theorem dX10_join_96 : decode cX10_join 96 = .ok (.iconst 1, 1) := by decide +kernel
theorem dX10_join_97 : decode cX10_join 97 = .ok (.isub, 1) := by decide +kernel
theorem dX10_join_98 : decode cX10_join 98 = .ok (.ireturn, 1) := by decide +kernel
theorem dX10_tellOf_0 : decode cX10_tellOf 0 = .ok (.iload_n 2, 1) := by decide +kernel
theorem dX10_tellOf_1 : decode cX10_tellOf 1 = .ok (.tableswitch 59 0 3 #[31, 38, 45, 52], 31) := by decide +kernel
theorem dX10_tellOf_32 : decode cX10_tellOf 32 = .ok (.aload_n 0, 1) := by decide +kernel
theorem dX10_tellOf_33 : decode cX10_tellOf 33 = .ok (.getfield 27, 3) := by decide +kernel
theorem dX10_tellOf_36 : decode cX10_tellOf 36 = .ok (.iload_n 1, 1) := by decide +kernel
theorem dX10_tellOf_37 : decode cX10_tellOf 37 = .ok (.iaload, 1) := by decide +kernel
theorem dX10_tellOf_38 : decode cX10_tellOf 38 = .ok (.ireturn, 1) := by decide +kernel
theorem dX10_tellOf_39 : decode cX10_tellOf 39 = .ok (.aload_n 0, 1) := by decide +kernel
theorem dX10_tellOf_40 : decode cX10_tellOf 40 = .ok (.getfield 30, 3) := by decide +kernel
theorem dX10_tellOf_43 : decode cX10_tellOf 43 = .ok (.iload_n 1, 1) := by decide +kernel
theorem dX10_tellOf_44 : decode cX10_tellOf 44 = .ok (.iaload, 1) := by decide +kernel
theorem dX10_tellOf_45 : decode cX10_tellOf 45 = .ok (.ireturn, 1) := by decide +kernel
theorem dX10_tellOf_46 : decode cX10_tellOf 46 = .ok (.aload_n 0, 1) := by decide +kernel
theorem dX10_tellOf_47 : decode cX10_tellOf 47 = .ok (.getfield 24, 3) := by decide +kernel
theorem dX10_tellOf_50 : decode cX10_tellOf 50 = .ok (.iload_n 1, 1) := by decide +kernel
theorem dX10_tellOf_51 : decode cX10_tellOf 51 = .ok (.iaload, 1) := by decide +kernel
theorem dX10_tellOf_52 : decode cX10_tellOf 52 = .ok (.ireturn, 1) := by decide +kernel
theorem dX10_tellOf_53 : decode cX10_tellOf 53 = .ok (.aload_n 0, 1) := by decide +kernel
theorem dX10_tellOf_54 : decode cX10_tellOf 54 = .ok (.getfield 33, 3) := by decide +kernel
theorem dX10_tellOf_57 : decode cX10_tellOf 57 = .ok (.iload_n 1, 1) := by decide +kernel
theorem dX10_tellOf_58 : decode cX10_tellOf 58 = .ok (.iaload, 1) := by decide +kernel
theorem dX10_tellOf_59 : decode cX10_tellOf 59 = .ok (.ireturn, 1) := by decide +kernel
theorem dX10_tellOf_60 : decode cX10_tellOf 60 = .ok (.iconst (-1), 1) := by decide +kernel
theorem dX10_tellOf_61 : decode cX10_tellOf 61 = .ok (.ireturn, 1) := by decide +kernel
theorem dX11_isDayOrNever_0 : decode cX11_isDayOrNever 0 = .ok (.iload_n 0, 1) := by decide +kernel
theorem dX11_isDayOrNever_1 : decode cX11_isDayOrNever 1 = .ok (.iconst (-1), 1) := by decide +kernel
theorem dX11_isDayOrNever_2 : decode cX11_isDayOrNever 2 = .ok (.if_icmp .lt 14, 3) := by decide +kernel
theorem dX11_isDayOrNever_5 : decode cX11_isDayOrNever 5 = .ok (.iload_n 0, 1) := by decide +kernel
theorem dX11_isDayOrNever_6 : decode cX11_isDayOrNever 6 = .ok (.sipush 199, 3) := by decide +kernel
theorem dX11_isDayOrNever_9 : decode cX11_isDayOrNever 9 = .ok (.if_icmp .gt 7, 3) := by decide +kernel
theorem dX11_isDayOrNever_12 : decode cX11_isDayOrNever 12 = .ok (.iconst 1, 1) := by decide +kernel
theorem dX11_isDayOrNever_13 : decode cX11_isDayOrNever 13 = .ok (.goto 4, 3) := by decide +kernel
theorem dX11_isDayOrNever_16 : decode cX11_isDayOrNever 16 = .ok (.iconst 0, 1) := by decide +kernel
theorem dX11_isDayOrNever_17 : decode cX11_isDayOrNever 17 = .ok (.ireturn, 1) := by decide +kernel
theorem dX2_fits_0 : decode cX2_fits 0 = .ok (.aload_n 0, 1) := by decide +kernel
theorem dX2_fits_1 : decode cX2_fits 1 = .ok (.iconst 0, 1) := by decide +kernel
theorem dX2_fits_2 : decode cX2_fits 2 = .ok (.invokestatic 62, 3) := by decide +kernel
theorem dX2_fits_5 : decode cX2_fits 5 = .ok (.sipush 600, 3) := by decide +kernel
theorem dX2_fits_8 : decode cX2_fits 8 = .ok (.if_icmp .gt 71, 3) := by decide +kernel
theorem dX2_fits_11 : decode cX2_fits 11 = .ok (.aload_n 0, 1) := by decide +kernel
theorem dX2_fits_12 : decode cX2_fits 12 = .ok (.iconst 1, 1) := by decide +kernel
theorem dX2_fits_13 : decode cX2_fits 13 = .ok (.invokestatic 62, 3) := by decide +kernel
theorem dX2_fits_16 : decode cX2_fits 16 = .ok (.sipush 719, 3) := by decide +kernel
theorem dX2_fits_19 : decode cX2_fits 19 = .ok (.if_icmp .gt 60, 3) := by decide +kernel
theorem dX2_fits_22 : decode cX2_fits 22 = .ok (.aload_n 0, 1) := by decide +kernel
theorem dX2_fits_23 : decode cX2_fits 23 = .ok (.iconst 2, 1) := by decide +kernel
theorem dX2_fits_24 : decode cX2_fits 24 = .ok (.invokestatic 62, 3) := by decide +kernel
theorem dX2_fits_27 : decode cX2_fits 27 = .ok (.bipush 10, 2) := by decide +kernel
theorem dX2_fits_29 : decode cX2_fits 29 = .ok (.if_icmp .lt 50, 3) := by decide +kernel
theorem dX2_fits_32 : decode cX2_fits 32 = .ok (.aload_n 0, 1) := by decide +kernel
theorem dX2_fits_33 : decode cX2_fits 33 = .ok (.iconst 2, 1) := by decide +kernel
theorem dX2_fits_34 : decode cX2_fits 34 = .ok (.invokestatic 62, 3) := by decide +kernel
theorem dX2_fits_37 : decode cX2_fits 37 = .ok (.bipush 99, 2) := by decide +kernel
theorem dX2_fits_39 : decode cX2_fits 39 = .ok (.if_icmp .gt 40, 3) := by decide +kernel
theorem dX2_fits_42 : decode cX2_fits 42 = .ok (.aload_n 0, 1) := by decide +kernel
theorem dX2_fits_43 : decode cX2_fits 43 = .ok (.iconst 3, 1) := by decide +kernel
theorem dX2_fits_44 : decode cX2_fits 44 = .ok (.invokestatic 62, 3) := by decide +kernel
theorem dX2_fits_47 : decode cX2_fits 47 = .ok (.bipush 9, 2) := by decide +kernel
theorem dX2_fits_49 : decode cX2_fits 49 = .ok (.if_icmp .gt 30, 3) := by decide +kernel
theorem dX2_fits_52 : decode cX2_fits 52 = .ok (.aload_n 0, 1) := by decide +kernel
theorem dX2_fits_53 : decode cX2_fits 53 = .ok (.iconst 4, 1) := by decide +kernel
theorem dX2_fits_54 : decode cX2_fits 54 = .ok (.invokestatic 62, 3) := by decide +kernel
theorem dX2_fits_57 : decode cX2_fits 57 = .ok (.bipush 10, 2) := by decide +kernel
theorem dX2_fits_59 : decode cX2_fits 59 = .ok (.imul, 1) := by decide +kernel
theorem dX2_fits_60 : decode cX2_fits 60 = .ok (.ldc 66, 2) := by decide +kernel
theorem dX2_fits_62 : decode cX2_fits 62 = .ok (.if_icmp .gt 17, 3) := by decide +kernel
theorem dX2_fits_65 : decode cX2_fits 65 = .ok (.aload_n 0, 1) := by decide +kernel
theorem dX2_fits_66 : decode cX2_fits 66 = .ok (.iconst 5, 1) := by decide +kernel
theorem dX2_fits_67 : decode cX2_fits 67 = .ok (.invokestatic 62, 3) := by decide +kernel
theorem dX2_fits_70 : decode cX2_fits 70 = .ok (.bipush 9, 2) := by decide +kernel
theorem dX2_fits_72 : decode cX2_fits 72 = .ok (.if_icmp .gt 7, 3) := by decide +kernel
theorem dX2_fits_75 : decode cX2_fits 75 = .ok (.iconst 1, 1) := by decide +kernel
theorem dX2_fits_76 : decode cX2_fits 76 = .ok (.goto 4, 3) := by decide +kernel
theorem dX2_fits_79 : decode cX2_fits 79 = .ok (.iconst 0, 1) := by decide +kernel
theorem dX2_fits_80 : decode cX2_fits 80 = .ok (.ireturn, 1) := by decide +kernel
theorem dX2_has_0 : decode cX2_has 0 = .ok (.iload_n 1, 1) := by decide +kernel
theorem dX2_has_1 : decode cX2_has 1 = .ok (.ifCond .lt 15, 3) := by decide +kernel
theorem dX2_has_4 : decode cX2_has 4 = .ok (.iload_n 1, 1) := by decide +kernel
theorem dX2_has_5 : decode cX2_has 5 = .ok (.aload_n 0, 1) := by decide +kernel
theorem dX2_has_6 : decode cX2_has 6 = .ok (.getfield 54, 3) := by decide +kernel
theorem dX2_has_9 : decode cX2_has 9 = .ok (.if_icmp .ge 7, 3) := by decide +kernel
theorem dX2_has_12 : decode cX2_has 12 = .ok (.iconst 1, 1) := by decide +kernel
theorem dX2_has_13 : decode cX2_has 13 = .ok (.goto 4, 3) := by decide +kernel
theorem dX2_has_16 : decode cX2_has 16 = .ok (.iconst 0, 1) := by decide +kernel
theorem dX2_has_17 : decode cX2_has 17 = .ok (.ireturn, 1) := by decide +kernel
theorem dX2_join_0 : decode cX2_join 0 = .ok (.aload_n 0, 1) := by decide +kernel
theorem dX2_join_1 : decode cX2_join 1 = .ok (.getfield 54, 3) := by decide +kernel
theorem dX2_join_4 : decode cX2_join 4 = .ok (.bipush 40, 2) := by decide +kernel
theorem dX2_join_6 : decode cX2_join 6 = .ok (.if_icmp .ge 22, 3) := by decide +kernel
theorem dX2_join_9 : decode cX2_join 9 = .ok (.iload_n 3, 1) := by decide +kernel
theorem dX2_join_10 : decode cX2_join 10 = .ok (.ifCond .lt 18, 3) := by decide +kernel
theorem dX2_join_13 : decode cX2_join 13 = .ok (.iload_n 3, 1) := by decide +kernel
theorem dX2_join_14 : decode cX2_join 14 = .ok (.sipush 9999, 3) := by decide +kernel
theorem dX2_join_17 : decode cX2_join 17 = .ok (.if_icmp .gt 11, 3) := by decide +kernel
theorem dX2_join_20 : decode cX2_join 20 = .ok (.aload 4, 2) := by decide +kernel
theorem dX2_join_22 : decode cX2_join 22 = .ok (.invokestatic 58, 3) := by decide +kernel
theorem dX2_join_25 : decode cX2_join 25 = .ok (.ifCond .ne 5, 3) := by decide +kernel
theorem dX2_join_28 : decode cX2_join 28 = .ok (.iconst (-1), 1) := by decide +kernel
theorem dX2_join_29 : decode cX2_join 29 = .ok (.ireturn, 1) := by decide +kernel
theorem dX2_join_30 : decode cX2_join 30 = .ok (.aload_n 0, 1) := by decide +kernel
theorem dX2_join_31 : decode cX2_join 31 = .ok (.getfield 11, 3) := by decide +kernel
theorem dX2_join_34 : decode cX2_join 34 = .ok (.aload_n 0, 1) := by decide +kernel
theorem dX2_join_35 : decode cX2_join 35 = .ok (.getfield 54, 3) := by decide +kernel
theorem dX2_join_38 : decode cX2_join 38 = .ok (.iload_n 1, 1) := by decide +kernel
theorem dX2_join_39 : decode cX2_join 39 = .ok (.iastore, 1) := by decide +kernel
theorem dX2_join_40 : decode cX2_join 40 = .ok (.aload_n 0, 1) := by decide +kernel
theorem dX2_join_41 : decode cX2_join 41 = .ok (.getfield 15, 3) := by decide +kernel
theorem dX2_join_44 : decode cX2_join 44 = .ok (.aload_n 0, 1) := by decide +kernel
theorem dX2_join_45 : decode cX2_join 45 = .ok (.getfield 54, 3) := by decide +kernel
theorem dX2_join_48 : decode cX2_join 48 = .ok (.iload_n 2, 1) := by decide +kernel
theorem dX2_join_49 : decode cX2_join 49 = .ok (.iastore, 1) := by decide +kernel
theorem dX2_join_50 : decode cX2_join 50 = .ok (.aload_n 0, 1) := by decide +kernel
theorem dX2_join_51 : decode cX2_join 51 = .ok (.getfield 18, 3) := by decide +kernel
theorem dX2_join_54 : decode cX2_join 54 = .ok (.aload_n 0, 1) := by decide +kernel
theorem dX2_join_55 : decode cX2_join 55 = .ok (.getfield 54, 3) := by decide +kernel
theorem dX2_join_58 : decode cX2_join 58 = .ok (.iload_n 3, 1) := by decide +kernel
theorem dX2_join_59 : decode cX2_join 59 = .ok (.iastore, 1) := by decide +kernel
theorem dX2_join_60 : decode cX2_join 60 = .ok (.aload_n 0, 1) := by decide +kernel
theorem dX2_join_61 : decode cX2_join 61 = .ok (.getfield 21, 3) := by decide +kernel
theorem dX2_join_64 : decode cX2_join 64 = .ok (.aload_n 0, 1) := by decide +kernel
theorem dX2_join_65 : decode cX2_join 65 = .ok (.getfield 54, 3) := by decide +kernel
theorem dX2_join_68 : decode cX2_join 68 = .ok (.aload 4, 2) := by decide +kernel
theorem dX2_join_70 : decode cX2_join 70 = .ok (.iconst 0, 1) := by decide +kernel
theorem dX2_join_71 : decode cX2_join 71 = .ok (.invokestatic 62, 3) := by decide +kernel
theorem dX2_join_74 : decode cX2_join 74 = .ok (.iastore, 1) := by decide +kernel
theorem dX2_join_75 : decode cX2_join 75 = .ok (.aload_n 0, 1) := by decide +kernel
theorem dX2_join_76 : decode cX2_join 76 = .ok (.getfield 24, 3) := by decide +kernel
theorem dX2_join_79 : decode cX2_join 79 = .ok (.aload_n 0, 1) := by decide +kernel
theorem dX2_join_80 : decode cX2_join 80 = .ok (.getfield 54, 3) := by decide +kernel
theorem dX2_join_83 : decode cX2_join 83 = .ok (.aload 4, 2) := by decide +kernel
theorem dX2_join_85 : decode cX2_join 85 = .ok (.iconst 1, 1) := by decide +kernel
theorem dX2_join_86 : decode cX2_join 86 = .ok (.invokestatic 62, 3) := by decide +kernel
theorem dX2_join_89 : decode cX2_join 89 = .ok (.iastore, 1) := by decide +kernel
theorem dX2_join_90 : decode cX2_join 90 = .ok (.aload_n 0, 1) := by decide +kernel
theorem dX2_join_91 : decode cX2_join 91 = .ok (.getfield 27, 3) := by decide +kernel
theorem dX2_join_94 : decode cX2_join 94 = .ok (.aload_n 0, 1) := by decide +kernel
theorem dX2_join_95 : decode cX2_join 95 = .ok (.getfield 54, 3) := by decide +kernel
theorem dX2_join_98 : decode cX2_join 98 = .ok (.aload 4, 2) := by decide +kernel
theorem dX2_join_100 : decode cX2_join 100 = .ok (.iconst 2, 1) := by decide +kernel
theorem dX2_join_101 : decode cX2_join 101 = .ok (.invokestatic 62, 3) := by decide +kernel
theorem dX2_join_104 : decode cX2_join 104 = .ok (.iastore, 1) := by decide +kernel
theorem dX2_join_105 : decode cX2_join 105 = .ok (.aload_n 0, 1) := by decide +kernel
theorem dX2_join_106 : decode cX2_join 106 = .ok (.getfield 30, 3) := by decide +kernel
theorem dX2_join_109 : decode cX2_join 109 = .ok (.aload_n 0, 1) := by decide +kernel
theorem dX2_join_110 : decode cX2_join 110 = .ok (.getfield 54, 3) := by decide +kernel
theorem dX2_join_113 : decode cX2_join 113 = .ok (.aload 4, 2) := by decide +kernel
theorem dX2_join_115 : decode cX2_join 115 = .ok (.iconst 3, 1) := by decide +kernel
theorem dX2_join_116 : decode cX2_join 116 = .ok (.invokestatic 62, 3) := by decide +kernel
theorem dX2_join_119 : decode cX2_join 119 = .ok (.iastore, 1) := by decide +kernel
theorem dX2_join_120 : decode cX2_join 120 = .ok (.aload_n 0, 1) := by decide +kernel
theorem dX2_join_121 : decode cX2_join 121 = .ok (.getfield 33, 3) := by decide +kernel
theorem dX2_join_124 : decode cX2_join 124 = .ok (.aload_n 0, 1) := by decide +kernel
theorem dX2_join_125 : decode cX2_join 125 = .ok (.getfield 54, 3) := by decide +kernel
theorem dX2_join_128 : decode cX2_join 128 = .ok (.aload 4, 2) := by decide +kernel
theorem dX2_join_130 : decode cX2_join 130 = .ok (.iconst 4, 1) := by decide +kernel
theorem dX2_join_131 : decode cX2_join 131 = .ok (.invokestatic 62, 3) := by decide +kernel
theorem dX2_join_134 : decode cX2_join 134 = .ok (.bipush 10, 2) := by decide +kernel
theorem dX2_join_136 : decode cX2_join 136 = .ok (.imul, 1) := by decide +kernel
theorem dX2_join_137 : decode cX2_join 137 = .ok (.iastore, 1) := by decide +kernel
theorem dX2_join_138 : decode cX2_join 138 = .ok (.aload_n 0, 1) := by decide +kernel
theorem dX2_join_139 : decode cX2_join 139 = .ok (.getfield 36, 3) := by decide +kernel
theorem dX2_join_142 : decode cX2_join 142 = .ok (.aload_n 0, 1) := by decide +kernel
theorem dX2_join_143 : decode cX2_join 143 = .ok (.getfield 54, 3) := by decide +kernel
theorem dX2_join_146 : decode cX2_join 146 = .ok (.aload 4, 2) := by decide +kernel
theorem dX2_join_148 : decode cX2_join 148 = .ok (.iconst 5, 1) := by decide +kernel
theorem dX2_join_149 : decode cX2_join 149 = .ok (.invokestatic 62, 3) := by decide +kernel
theorem dX2_join_152 : decode cX2_join 152 = .ok (.iastore, 1) := by decide +kernel
theorem dX2_join_153 : decode cX2_join 153 = .ok (.aload_n 0, 1) := by decide +kernel
theorem dX2_join_154 : decode cX2_join 154 = .ok (.getfield 39, 3) := by decide +kernel
theorem dX2_join_157 : decode cX2_join 157 = .ok (.aload_n 0, 1) := by decide +kernel
theorem dX2_join_158 : decode cX2_join 158 = .ok (.getfield 54, 3) := by decide +kernel
theorem dX2_join_161 : decode cX2_join 161 = .ok (.iconst (-1), 1) := by decide +kernel
theorem dX2_join_162 : decode cX2_join 162 = .ok (.iastore, 1) := by decide +kernel
theorem dX2_join_163 : decode cX2_join 163 = .ok (.aload_n 0, 1) := by decide +kernel
theorem dX2_join_164 : decode cX2_join 164 = .ok (.dup, 1) := by decide +kernel
theorem dX2_join_165 : decode cX2_join 165 = .ok (.getfield 54, 3) := by decide +kernel
theorem dX2_join_168 : decode cX2_join 168 = .ok (.iconst 1, 1) := by decide +kernel
theorem dX2_join_169 : decode cX2_join 169 = .ok (.iadd, 1) := by decide +kernel
theorem dX2_join_170 : decode cX2_join 170 = .ok (.putfield 54, 3) := by decide +kernel
theorem dX2_join_173 : decode cX2_join 173 = .ok (.aload_n 0, 1) := by decide +kernel
theorem dX2_join_174 : decode cX2_join 174 = .ok (.getfield 54, 3) := by decide +kernel
theorem dX2_join_177 : decode cX2_join 177 = .ok (.iconst 1, 1) := by decide +kernel
theorem dX2_join_178 : decode cX2_join 178 = .ok (.isub, 1) := by decide +kernel
theorem dX2_join_179 : decode cX2_join 179 = .ok (.ireturn, 1) := by decide +kernel
theorem dX2_pair_0 : decode cX2_pair 0 = .ok (.aload_n 0, 1) := by decide +kernel
theorem dX2_pair_1 : decode cX2_pair 1 = .ok (.iconst 2, 1) := by decide +kernel
theorem dX2_pair_2 : decode cX2_pair 2 = .ok (.iload_n 1, 1) := by decide +kernel
theorem dX2_pair_3 : decode cX2_pair 3 = .ok (.imul, 1) := by decide +kernel
theorem dX2_pair_4 : decode cX2_pair 4 = .ok (.iaload, 1) := by decide +kernel
theorem dX2_pair_5 : decode cX2_pair 5 = .ok (.sipush 256, 3) := by decide +kernel
theorem dX2_pair_8 : decode cX2_pair 8 = .ok (.imul, 1) := by decide +kernel
theorem dX2_pair_9 : decode cX2_pair 9 = .ok (.aload_n 0, 1) := by decide +kernel
theorem dX2_pair_10 : decode cX2_pair 10 = .ok (.iconst 2, 1) := by decide +kernel
theorem dX2_pair_11 : decode cX2_pair 11 = .ok (.iload_n 1, 1) := by decide +kernel
theorem dX2_pair_12 : decode cX2_pair 12 = .ok (.imul, 1) := by decide +kernel
theorem dX2_pair_13 : decode cX2_pair 13 = .ok (.iconst 1, 1) := by decide +kernel
theorem dX2_pair_14 : decode cX2_pair 14 = .ok (.iadd, 1) := by decide +kernel
theorem dX2_pair_15 : decode cX2_pair 15 = .ok (.iaload, 1) := by decide +kernel
theorem dX2_pair_16 : decode cX2_pair 16 = .ok (.iadd, 1) := by decide +kernel
theorem dX2_pair_17 : decode cX2_pair 17 = .ok (.ireturn, 1) := by decide +kernel
theorem dX2_tellOf_0 : decode cX2_tellOf 0 = .ok (.iload_n 2, 1) := by decide +kernel
theorem dX2_tellOf_1 : decode cX2_tellOf 1 = .ok (.tableswitch 81 0 5 #[39, 46, 53, 60, 67, 74], 39) := by decide +kernel
theorem dX2_tellOf_40 : decode cX2_tellOf 40 = .ok (.aload_n 0, 1) := by decide +kernel
theorem dX2_tellOf_41 : decode cX2_tellOf 41 = .ok (.getfield 39, 3) := by decide +kernel
theorem dX2_tellOf_44 : decode cX2_tellOf 44 = .ok (.iload_n 1, 1) := by decide +kernel
theorem dX2_tellOf_45 : decode cX2_tellOf 45 = .ok (.iaload, 1) := by decide +kernel
theorem dX2_tellOf_46 : decode cX2_tellOf 46 = .ok (.ireturn, 1) := by decide +kernel
theorem dX2_tellOf_47 : decode cX2_tellOf 47 = .ok (.aload_n 0, 1) := by decide +kernel
theorem dX2_tellOf_48 : decode cX2_tellOf 48 = .ok (.getfield 42, 3) := by decide +kernel
theorem dX2_tellOf_51 : decode cX2_tellOf 51 = .ok (.iload_n 1, 1) := by decide +kernel
theorem dX2_tellOf_52 : decode cX2_tellOf 52 = .ok (.iaload, 1) := by decide +kernel
theorem dX2_tellOf_53 : decode cX2_tellOf 53 = .ok (.ireturn, 1) := by decide +kernel
theorem dX2_tellOf_54 : decode cX2_tellOf 54 = .ok (.aload_n 0, 1) := by decide +kernel
theorem dX2_tellOf_55 : decode cX2_tellOf 55 = .ok (.getfield 45, 3) := by decide +kernel
theorem dX2_tellOf_58 : decode cX2_tellOf 58 = .ok (.iload_n 1, 1) := by decide +kernel
theorem dX2_tellOf_59 : decode cX2_tellOf 59 = .ok (.iaload, 1) := by decide +kernel
theorem dX2_tellOf_60 : decode cX2_tellOf 60 = .ok (.ireturn, 1) := by decide +kernel
theorem dX2_tellOf_61 : decode cX2_tellOf 61 = .ok (.aload_n 0, 1) := by decide +kernel
theorem dX2_tellOf_62 : decode cX2_tellOf 62 = .ok (.getfield 48, 3) := by decide +kernel
theorem dX2_tellOf_65 : decode cX2_tellOf 65 = .ok (.iload_n 1, 1) := by decide +kernel
theorem dX2_tellOf_66 : decode cX2_tellOf 66 = .ok (.iaload, 1) := by decide +kernel
theorem dX2_tellOf_67 : decode cX2_tellOf 67 = .ok (.ireturn, 1) := by decide +kernel
theorem dX2_tellOf_68 : decode cX2_tellOf 68 = .ok (.aload_n 0, 1) := by decide +kernel
theorem dX2_tellOf_69 : decode cX2_tellOf 69 = .ok (.getfield 33, 3) := by decide +kernel
theorem dX2_tellOf_72 : decode cX2_tellOf 72 = .ok (.iload_n 1, 1) := by decide +kernel
theorem dX2_tellOf_73 : decode cX2_tellOf 73 = .ok (.iaload, 1) := by decide +kernel
theorem dX2_tellOf_74 : decode cX2_tellOf 74 = .ok (.ireturn, 1) := by decide +kernel
theorem dX2_tellOf_75 : decode cX2_tellOf 75 = .ok (.aload_n 0, 1) := by decide +kernel
theorem dX2_tellOf_76 : decode cX2_tellOf 76 = .ok (.getfield 30, 3) := by decide +kernel
theorem dX2_tellOf_79 : decode cX2_tellOf 79 = .ok (.iload_n 1, 1) := by decide +kernel
theorem dX2_tellOf_80 : decode cX2_tellOf 80 = .ok (.iaload, 1) := by decide +kernel
theorem dX2_tellOf_81 : decode cX2_tellOf 81 = .ok (.ireturn, 1) := by decide +kernel
theorem dX2_tellOf_82 : decode cX2_tellOf 82 = .ok (.aload_n 0, 1) := by decide +kernel
theorem dX2_tellOf_83 : decode cX2_tellOf 83 = .ok (.getfield 51, 3) := by decide +kernel
theorem dX2_tellOf_86 : decode cX2_tellOf 86 = .ok (.iload_n 1, 1) := by decide +kernel
theorem dX2_tellOf_87 : decode cX2_tellOf 87 = .ok (.iaload, 1) := by decide +kernel
theorem dX2_tellOf_88 : decode cX2_tellOf 88 = .ok (.ireturn, 1) := by decide +kernel
theorem dX4_between_0 : decode cX4_between 0 = .ok (.iload_n 1, 1) := by decide +kernel
theorem dX4_between_1 : decode cX4_between 1 = .ok (.ifCond .lt 19, 3) := by decide +kernel
theorem dX4_between_4 : decode cX4_between 4 = .ok (.iload_n 1, 1) := by decide +kernel
theorem dX4_between_5 : decode cX4_between 5 = .ok (.bipush 12, 2) := by decide +kernel
theorem dX4_between_7 : decode cX4_between 7 = .ok (.if_icmp .ge 13, 3) := by decide +kernel
theorem dX4_between_10 : decode cX4_between 10 = .ok (.iload_n 2, 1) := by decide +kernel
theorem dX4_between_11 : decode cX4_between 11 = .ok (.ifCond .lt 9, 3) := by decide +kernel
theorem dX4_between_14 : decode cX4_between 14 = .ok (.iload_n 2, 1) := by decide +kernel
theorem dX4_between_15 : decode cX4_between 15 = .ok (.bipush 12, 2) := by decide +kernel
theorem dX4_between_17 : decode cX4_between 17 = .ok (.if_icmp .lt 6, 3) := by decide +kernel
theorem dX4_between_20 : decode cX4_between 20 = .ok (.ldc 15, 2) := by decide +kernel
theorem dX4_between_22 : decode cX4_between 22 = .ok (.ireturn, 1) := by decide +kernel
theorem dX4_between_23 : decode cX4_between 23 = .ok (.aload_n 0, 1) := by decide +kernel
theorem dX4_between_24 : decode cX4_between 24 = .ok (.getfield 9, 3) := by decide +kernel
theorem dX4_between_27 : decode cX4_between 27 = .ok (.iload_n 1, 1) := by decide +kernel
theorem dX4_between_28 : decode cX4_between 28 = .ok (.bipush 12, 2) := by decide +kernel
theorem dX4_between_30 : decode cX4_between 30 = .ok (.imul, 1) := by decide +kernel
theorem dX4_between_31 : decode cX4_between 31 = .ok (.iload_n 2, 1) := by decide +kernel
theorem dX4_between_32 : decode cX4_between 32 = .ok (.iadd, 1) := by decide +kernel
theorem dX4_between_33 : decode cX4_between 33 = .ok (.iaload, 1) := by decide +kernel
theorem dX4_between_34 : decode cX4_between 34 = .ok (.ireturn, 1) := by decide +kernel
theorem dX4_isCorner_0 : decode cX4_isCorner 0 = .ok (.iload_n 0, 1) := by decide +kernel
theorem dX4_isCorner_1 : decode cX4_isCorner 1 = .ok (.ifCond .lt 13, 3) := by decide +kernel
theorem dX4_isCorner_4 : decode cX4_isCorner 4 = .ok (.iload_n 0, 1) := by decide +kernel
theorem dX4_isCorner_5 : decode cX4_isCorner 5 = .ok (.bipush 12, 2) := by decide +kernel
theorem dX4_isCorner_7 : decode cX4_isCorner 7 = .ok (.if_icmp .ge 7, 3) := by decide +kernel
theorem dX4_isCorner_10 : decode cX4_isCorner 10 = .ok (.iconst 1, 1) := by decide +kernel
theorem dX4_isCorner_11 : decode cX4_isCorner 11 = .ok (.goto 4, 3) := by decide +kernel
theorem dX4_isCorner_14 : decode cX4_isCorner 14 = .ok (.iconst 0, 1) := by decide +kernel
theorem dX4_isCorner_15 : decode cX4_isCorner 15 = .ok (.ireturn, 1) := by decide +kernel
theorem dX4_lay_0 : decode cX4_lay 0 = .ok (.aload_n 0, 1) := by decide +kernel
theorem dX4_lay_1 : decode cX4_lay 1 = .ok (.getfield 16, 3) := by decide +kernel
theorem dX4_lay_4 : decode cX4_lay 4 = .ok (.bipush 30, 2) := by decide +kernel
theorem dX4_lay_6 : decode cX4_lay 6 = .ok (.if_icmp .ge 22, 3) := by decide +kernel
theorem dX4_lay_9 : decode cX4_lay 9 = .ok (.iload_n 1, 1) := by decide +kernel
theorem dX4_lay_10 : decode cX4_lay 10 = .ok (.invokestatic 20, 3) := by decide +kernel
theorem dX4_lay_13 : decode cX4_lay 13 = .ok (.ifCond .eq 15, 3) := by decide +kernel
theorem dX4_lay_16 : decode cX4_lay 16 = .ok (.iload_n 2, 1) := by decide +kernel
theorem dX4_lay_17 : decode cX4_lay 17 = .ok (.invokestatic 20, 3) := by decide +kernel
theorem dX4_lay_20 : decode cX4_lay 20 = .ok (.ifCond .eq 8, 3) := by decide +kernel
theorem dX4_lay_23 : decode cX4_lay 23 = .ok (.iload_n 1, 1) := by decide +kernel
theorem dX4_lay_24 : decode cX4_lay 24 = .ok (.iload_n 2, 1) := by decide +kernel
theorem dX4_lay_25 : decode cX4_lay 25 = .ok (.if_icmp .ne 5, 3) := by decide +kernel
theorem dX4_lay_28 : decode cX4_lay 28 = .ok (.iconst 0, 1) := by decide +kernel
theorem dX4_lay_29 : decode cX4_lay 29 = .ok (.ireturn, 1) := by decide +kernel
theorem dX4_lay_30 : decode cX4_lay 30 = .ok (.iload_n 3, 1) := by decide +kernel
theorem dX4_lay_31 : decode cX4_lay 31 = .ok (.iconst 1, 1) := by decide +kernel
theorem dX4_lay_32 : decode cX4_lay 32 = .ok (.if_icmp .lt 9, 3) := by decide +kernel
theorem dX4_lay_35 : decode cX4_lay 35 = .ok (.iload_n 3, 1) := by decide +kernel
theorem dX4_lay_36 : decode cX4_lay 36 = .ok (.bipush 99, 2) := by decide +kernel
theorem dX4_lay_38 : decode cX4_lay 38 = .ok (.if_icmp .le 5, 3) := by decide +kernel
theorem dX4_lay_41 : decode cX4_lay 41 = .ok (.iconst 0, 1) := by decide +kernel
theorem dX4_lay_42 : decode cX4_lay 42 = .ok (.ireturn, 1) := by decide +kernel
theorem dX4_lay_43 : decode cX4_lay 43 = .ok (.aload_n 0, 1) := by decide +kernel
theorem dX4_lay_44 : decode cX4_lay 44 = .ok (.dup, 1) := by decide +kernel
theorem dX4_lay_45 : decode cX4_lay 45 = .ok (.getfield 16, 3) := by decide +kernel
theorem dX4_lay_48 : decode cX4_lay 48 = .ok (.iconst 1, 1) := by decide +kernel
theorem dX4_lay_49 : decode cX4_lay 49 = .ok (.iadd, 1) := by decide +kernel
theorem dX4_lay_50 : decode cX4_lay 50 = .ok (.putfield 16, 3) := by decide +kernel
theorem dX4_lay_53 : decode cX4_lay 53 = .ok (.iconst 0, 1) := by decide +kernel
theorem dX4_lay_54 : decode cX4_lay 54 = .ok (.istore 4, 2) := by decide +kernel
theorem dX4_lay_56 : decode cX4_lay 56 = .ok (.iload 4, 2) := by decide +kernel
theorem dX4_lay_58 : decode cX4_lay 58 = .ok (.aload_n 0, 1) := by decide +kernel
theorem dX4_lay_59 : decode cX4_lay 59 = .ok (.getfield 9, 3) := by decide +kernel
theorem dX4_lay_62 : decode cX4_lay 62 = .ok (.arraylength, 1) := by decide +kernel
theorem dX4_lay_63 : decode cX4_lay 63 = .ok (.if_icmp .ge 85, 3) := by decide +kernel
theorem dX4_lay_66 : decode cX4_lay 66 = .ok (.iload 4, 2) := by decide +kernel
theorem dX4_lay_68 : decode cX4_lay 68 = .ok (.bipush 12, 2) := by decide +kernel
theorem dX4_lay_70 : decode cX4_lay 70 = .ok (.idiv, 1) := by decide +kernel
theorem dX4_lay_71 : decode cX4_lay 71 = .ok (.istore 5, 2) := by decide +kernel
theorem dX4_lay_73 : decode cX4_lay 73 = .ok (.iload 4, 2) := by decide +kernel
theorem dX4_lay_75 : decode cX4_lay 75 = .ok (.bipush 12, 2) := by decide +kernel
theorem dX4_lay_77 : decode cX4_lay 77 = .ok (.irem, 1) := by decide +kernel
theorem dX4_lay_78 : decode cX4_lay 78 = .ok (.istore 6, 2) := by decide +kernel
theorem dX4_lay_80 : decode cX4_lay 80 = .ok (.aload_n 0, 1) := by decide +kernel
theorem dX4_lay_81 : decode cX4_lay 81 = .ok (.iload 5, 2) := by decide +kernel
theorem dX4_lay_83 : decode cX4_lay 83 = .ok (.iload_n 1, 1) := by decide +kernel
theorem dX4_lay_84 : decode cX4_lay 84 = .ok (.invokevirtual 24, 3) := by decide +kernel
theorem dX4_lay_87 : decode cX4_lay 87 = .ok (.iload_n 3, 1) := by decide +kernel
theorem dX4_lay_88 : decode cX4_lay 88 = .ok (.iadd, 1) := by decide +kernel
theorem dX4_lay_89 : decode cX4_lay 89 = .ok (.aload_n 0, 1) := by decide +kernel
theorem dX4_lay_90 : decode cX4_lay 90 = .ok (.iload_n 2, 1) := by decide +kernel
theorem dX4_lay_91 : decode cX4_lay 91 = .ok (.iload 6, 2) := by decide +kernel
theorem dX4_lay_93 : decode cX4_lay 93 = .ok (.invokevirtual 24, 3) := by decide +kernel
theorem dX4_lay_96 : decode cX4_lay 96 = .ok (.iadd, 1) := by decide +kernel
theorem dX4_lay_97 : decode cX4_lay 97 = .ok (.istore 7, 2) := by decide +kernel
theorem dX4_lay_99 : decode cX4_lay 99 = .ok (.aload_n 0, 1) := by decide +kernel
theorem dX4_lay_100 : decode cX4_lay 100 = .ok (.iload 5, 2) := by decide +kernel
theorem dX4_lay_102 : decode cX4_lay 102 = .ok (.iload_n 2, 1) := by decide +kernel
theorem dX4_lay_103 : decode cX4_lay 103 = .ok (.invokevirtual 24, 3) := by decide +kernel
theorem dX4_lay_106 : decode cX4_lay 106 = .ok (.iload_n 3, 1) := by decide +kernel
theorem dX4_lay_107 : decode cX4_lay 107 = .ok (.iadd, 1) := by decide +kernel
theorem dX4_lay_108 : decode cX4_lay 108 = .ok (.aload_n 0, 1) := by decide +kernel
theorem dX4_lay_109 : decode cX4_lay 109 = .ok (.iload_n 1, 1) := by decide +kernel
theorem dX4_lay_110 : decode cX4_lay 110 = .ok (.iload 6, 2) := by decide +kernel
theorem dX4_lay_112 : decode cX4_lay 112 = .ok (.invokevirtual 24, 3) := by decide +kernel
theorem dX4_lay_115 : decode cX4_lay 115 = .ok (.iadd, 1) := by decide +kernel
theorem dX4_lay_116 : decode cX4_lay 116 = .ok (.istore 8, 2) := by decide +kernel
theorem dX4_lay_118 : decode cX4_lay 118 = .ok (.aload_n 0, 1) := by decide +kernel
theorem dX4_lay_119 : decode cX4_lay 119 = .ok (.getfield 9, 3) := by decide +kernel
theorem dX4_lay_122 : decode cX4_lay 122 = .ok (.iload 4, 2) := by decide +kernel
theorem dX4_lay_124 : decode cX4_lay 124 = .ok (.aload_n 0, 1) := by decide +kernel
theorem dX4_lay_125 : decode cX4_lay 125 = .ok (.getfield 9, 3) := by decide +kernel
theorem dX4_lay_128 : decode cX4_lay 128 = .ok (.iload 4, 2) := by decide +kernel
theorem dX4_lay_130 : decode cX4_lay 130 = .ok (.iaload, 1) := by decide +kernel
theorem dX4_lay_131 : decode cX4_lay 131 = .ok (.iload 7, 2) := by decide +kernel
theorem dX4_lay_133 : decode cX4_lay 133 = .ok (.iload 8, 2) := by decide +kernel
theorem dX4_lay_135 : decode cX4_lay 135 = .ok (.invokestatic 28, 3) := by decide +kernel
theorem dX4_lay_138 : decode cX4_lay 138 = .ok (.invokestatic 28, 3) := by decide +kernel
theorem dX4_lay_141 : decode cX4_lay 141 = .ok (.iastore, 1) := by decide +kernel
theorem dX4_lay_142 : decode cX4_lay 142 = .ok (.iinc 4 1, 3) := by decide +kernel
theorem dX4_lay_145 : decode cX4_lay 145 = .ok (.goto (-89), 3) := by decide +kernel
theorem dX4_lay_148 : decode cX4_lay 148 = .ok (.iconst 1, 1) := by decide +kernel
theorem dX4_lay_149 : decode cX4_lay 149 = .ok (.ireturn, 1) := by decide +kernel
theorem dX7_driveMinutes_0 : decode cX7_driveMinutes 0 = .ok (.aload_n 0, 1) := by decide +kernel
theorem dX7_driveMinutes_1 : decode cX7_driveMinutes 1 = .ok (.getfield 28, 3) := by decide +kernel
theorem dX7_driveMinutes_4 : decode cX7_driveMinutes 4 = .ok (.getfield 83, 3) := by decide +kernel
theorem dX7_driveMinutes_7 : decode cX7_driveMinutes 7 = .ok (.aload_n 0, 1) := by decide +kernel
theorem dX7_driveMinutes_8 : decode cX7_driveMinutes 8 = .ok (.getfield 35, 3) := by decide +kernel
theorem dX7_driveMinutes_11 : decode cX7_driveMinutes 11 = .ok (.getfield 86, 3) := by decide +kernel
theorem dX7_driveMinutes_14 : decode cX7_driveMinutes 14 = .ok (.iload_n 1, 1) := by decide +kernel
theorem dX7_driveMinutes_15 : decode cX7_driveMinutes 15 = .ok (.iaload, 1) := by decide +kernel
theorem dX7_driveMinutes_16 : decode cX7_driveMinutes 16 = .ok (.iaload, 1) := by decide +kernel
theorem dX7_driveMinutes_17 : decode cX7_driveMinutes 17 = .ok (.istore_n 3, 1) := by decide +kernel
theorem dX7_driveMinutes_18 : decode cX7_driveMinutes 18 = .ok (.iload_n 3, 1) := by decide +kernel
theorem dX7_driveMinutes_19 : decode cX7_driveMinutes 19 = .ok (.iconst 1, 1) := by decide +kernel
theorem dX7_driveMinutes_20 : decode cX7_driveMinutes 20 = .ok (.if_icmp .ne 7, 3) := by decide +kernel
theorem dX7_driveMinutes_23 : decode cX7_driveMinutes 23 = .ok (.iconst 4, 1) := by decide +kernel
theorem dX7_driveMinutes_24 : decode cX7_driveMinutes 24 = .ok (.goto 4, 3) := by decide +kernel
theorem dX7_driveMinutes_27 : decode cX7_driveMinutes 27 = .ok (.iconst 3, 1) := by decide +kernel
theorem dX7_driveMinutes_28 : decode cX7_driveMinutes 28 = .ok (.istore 4, 2) := by decide +kernel
theorem dX7_driveMinutes_30 : decode cX7_driveMinutes 30 = .ok (.iload_n 2, 1) := by decide +kernel
theorem dX7_driveMinutes_31 : decode cX7_driveMinutes 31 = .ok (.iconst 4, 1) := by decide +kernel
theorem dX7_driveMinutes_32 : decode cX7_driveMinutes 32 = .ok (.if_icmp .le 11, 3) := by decide +kernel
theorem dX7_driveMinutes_35 : decode cX7_driveMinutes 35 = .ok (.iload_n 3, 1) := by decide +kernel
theorem dX7_driveMinutes_36 : decode cX7_driveMinutes 36 = .ok (.iconst 2, 1) := by decide +kernel
theorem dX7_driveMinutes_37 : decode cX7_driveMinutes 37 = .ok (.if_icmp .eq 6, 3) := by decide +kernel
theorem dX7_driveMinutes_40 : decode cX7_driveMinutes 40 = .ok (.iinc 4 1, 3) := by decide +kernel
theorem dX7_driveMinutes_43 : decode cX7_driveMinutes 43 = .ok (.iconst 1, 1) := by decide +kernel
theorem dX7_driveMinutes_44 : decode cX7_driveMinutes 44 = .ok (.aload_n 0, 1) := by decide +kernel
theorem dX7_driveMinutes_45 : decode cX7_driveMinutes 45 = .ok (.iload_n 1, 1) := by decide +kernel
theorem dX7_driveMinutes_46 : decode cX7_driveMinutes 46 = .ok (.invokevirtual 89, 3) := by decide +kernel
theorem dX7_driveMinutes_49 : decode cX7_driveMinutes 49 = .ok (.iload 4, 2) := by decide +kernel
theorem dX7_driveMinutes_51 : decode cX7_driveMinutes 51 = .ok (.invokestatic 93, 3) := by decide +kernel
theorem dX7_driveMinutes_54 : decode cX7_driveMinutes 54 = .ok (.invokestatic 96, 3) := by decide +kernel
theorem dX7_driveMinutes_57 : decode cX7_driveMinutes 57 = .ok (.ireturn, 1) := by decide +kernel
theorem dX7_isStop_0 : decode cX7_isStop 0 = .ok (.iload_n 1, 1) := by decide +kernel
theorem dX7_isStop_1 : decode cX7_isStop 1 = .ok (.ifCond .lt 15, 3) := by decide +kernel
theorem dX7_isStop_4 : decode cX7_isStop 4 = .ok (.iload_n 1, 1) := by decide +kernel
theorem dX7_isStop_5 : decode cX7_isStop 5 = .ok (.aload_n 0, 1) := by decide +kernel
theorem dX7_isStop_6 : decode cX7_isStop 6 = .ok (.getfield 65, 3) := by decide +kernel
theorem dX7_isStop_9 : decode cX7_isStop 9 = .ok (.if_icmp .ge 7, 3) := by decide +kernel
theorem dX7_isStop_12 : decode cX7_isStop 12 = .ok (.iconst 1, 1) := by decide +kernel
theorem dX7_isStop_13 : decode cX7_isStop 13 = .ok (.goto 4, 3) := by decide +kernel
theorem dX7_isStop_16 : decode cX7_isStop 16 = .ok (.iconst 0, 1) := by decide +kernel
theorem dX7_isStop_17 : decode cX7_isStop 17 = .ok (.ireturn, 1) := by decide +kernel
theorem dX7_lengthOf_0 : decode cX7_lengthOf 0 = .ok (.aload_n 0, 1) := by decide +kernel
theorem dX7_lengthOf_1 : decode cX7_lengthOf 1 = .ok (.getfield 12, 3) := by decide +kernel
theorem dX7_lengthOf_4 : decode cX7_lengthOf 4 = .ok (.aload_n 0, 1) := by decide +kernel
theorem dX7_lengthOf_5 : decode cX7_lengthOf 5 = .ok (.getfield 39, 3) := by decide +kernel
theorem dX7_lengthOf_8 : decode cX7_lengthOf 8 = .ok (.aload_n 0, 1) := by decide +kernel
theorem dX7_lengthOf_9 : decode cX7_lengthOf 9 = .ok (.getfield 35, 3) := by decide +kernel
theorem dX7_lengthOf_12 : decode cX7_lengthOf 12 = .ok (.getfield 73, 3) := by decide +kernel
theorem dX7_lengthOf_15 : decode cX7_lengthOf 15 = .ok (.iload_n 1, 1) := by decide +kernel
theorem dX7_lengthOf_16 : decode cX7_lengthOf 16 = .ok (.iaload, 1) := by decide +kernel
theorem dX7_lengthOf_17 : decode cX7_lengthOf 17 = .ok (.iaload, 1) := by decide +kernel
theorem dX7_lengthOf_18 : decode cX7_lengthOf 18 = .ok (.aload_n 0, 1) := by decide +kernel
theorem dX7_lengthOf_19 : decode cX7_lengthOf 19 = .ok (.getfield 39, 3) := by decide +kernel
theorem dX7_lengthOf_22 : decode cX7_lengthOf 22 = .ok (.aload_n 0, 1) := by decide +kernel
theorem dX7_lengthOf_23 : decode cX7_lengthOf 23 = .ok (.getfield 35, 3) := by decide +kernel
theorem dX7_lengthOf_26 : decode cX7_lengthOf 26 = .ok (.getfield 76, 3) := by decide +kernel
theorem dX7_lengthOf_29 : decode cX7_lengthOf 29 = .ok (.iload_n 1, 1) := by decide +kernel
theorem dX7_lengthOf_30 : decode cX7_lengthOf 30 = .ok (.iaload, 1) := by decide +kernel
theorem dX7_lengthOf_31 : decode cX7_lengthOf 31 = .ok (.iaload, 1) := by decide +kernel
theorem dX7_lengthOf_32 : decode cX7_lengthOf 32 = .ok (.invokevirtual 79, 3) := by decide +kernel
theorem dX7_lengthOf_35 : decode cX7_lengthOf 35 = .ok (.ireturn, 1) := by decide +kernel
theorem dX7_minutesFor_0 : decode cX7_minutesFor 0 = .ok (.iload_n 0, 1) := by decide +kernel
theorem dX7_minutesFor_1 : decode cX7_minutesFor 1 = .ok (.ldc 72, 2) := by decide +kernel
theorem dX7_minutesFor_3 : decode cX7_minutesFor 3 = .ok (.if_icmp .lt 8, 3) := by decide +kernel
theorem dX7_minutesFor_6 : decode cX7_minutesFor 6 = .ok (.ldc 72, 2) := by decide +kernel
theorem dX7_minutesFor_8 : decode cX7_minutesFor 8 = .ok (.goto 12, 3) := by decide +kernel
theorem dX7_minutesFor_11 : decode cX7_minutesFor 11 = .ok (.iload_n 0, 1) := by decide +kernel
theorem dX7_minutesFor_12 : decode cX7_minutesFor 12 = .ok (.iload_n 1, 1) := by decide +kernel
theorem dX7_minutesFor_13 : decode cX7_minutesFor 13 = .ok (.imul, 1) := by decide +kernel
theorem dX7_minutesFor_14 : decode cX7_minutesFor 14 = .ok (.bipush 9, 2) := by decide +kernel
theorem dX7_minutesFor_16 : decode cX7_minutesFor 16 = .ok (.iadd, 1) := by decide +kernel
theorem dX7_minutesFor_17 : decode cX7_minutesFor 17 = .ok (.bipush 10, 2) := by decide +kernel
theorem dX7_minutesFor_19 : decode cX7_minutesFor 19 = .ok (.idiv, 1) := by decide +kernel
theorem dX7_minutesFor_20 : decode cX7_minutesFor 20 = .ok (.ireturn, 1) := by decide +kernel
theorem dX7_paceFor_0 : decode cX7_paceFor 0 = .ok (.bipush 18, 2) := by decide +kernel
theorem dX7_paceFor_2 : decode cX7_paceFor 2 = .ok (.iload_n 2, 1) := by decide +kernel
theorem dX7_paceFor_3 : decode cX7_paceFor 3 = .ok (.iadd, 1) := by decide +kernel
theorem dX7_paceFor_4 : decode cX7_paceFor 4 = .ok (.istore_n 3, 1) := by decide +kernel
theorem dX7_paceFor_5 : decode cX7_paceFor 5 = .ok (.iload_n 0, 1) := by decide +kernel
theorem dX7_paceFor_6 : decode cX7_paceFor 6 = .ok (.bipush 40, 2) := by decide +kernel
theorem dX7_paceFor_8 : decode cX7_paceFor 8 = .ok (.if_icmp .le 13, 3) := by decide +kernel
theorem dX7_paceFor_11 : decode cX7_paceFor 11 = .ok (.iload_n 3, 1) := by decide +kernel
theorem dX7_paceFor_12 : decode cX7_paceFor 12 = .ok (.iload_n 0, 1) := by decide +kernel
theorem dX7_paceFor_13 : decode cX7_paceFor 13 = .ok (.bipush 40, 2) := by decide +kernel
theorem dX7_paceFor_15 : decode cX7_paceFor 15 = .ok (.isub, 1) := by decide +kernel
theorem dX7_paceFor_16 : decode cX7_paceFor 16 = .ok (.bipush 10, 2) := by decide +kernel
theorem dX7_paceFor_18 : decode cX7_paceFor 18 = .ok (.idiv, 1) := by decide +kernel
theorem dX7_paceFor_19 : decode cX7_paceFor 19 = .ok (.iadd, 1) := by decide +kernel
theorem dX7_paceFor_20 : decode cX7_paceFor 20 = .ok (.istore_n 3, 1) := by decide +kernel
theorem dX7_paceFor_21 : decode cX7_paceFor 21 = .ok (.iload_n 1, 1) := by decide +kernel
theorem dX7_paceFor_22 : decode cX7_paceFor 22 = .ok (.iconst 1, 1) := by decide +kernel
theorem dX7_paceFor_23 : decode cX7_paceFor 23 = .ok (.if_icmp .ne 6, 3) := by decide +kernel
theorem dX7_paceFor_26 : decode cX7_paceFor 26 = .ok (.iinc 3 4, 3) := by decide +kernel
theorem dX7_paceFor_29 : decode cX7_paceFor 29 = .ok (.iload_n 1, 1) := by decide +kernel
theorem dX7_paceFor_30 : decode cX7_paceFor 30 = .ok (.ifCond .ne 6, 3) := by decide +kernel
theorem dX7_paceFor_33 : decode cX7_paceFor 33 = .ok (.iinc 3 9, 3) := by decide +kernel
theorem dX7_paceFor_36 : decode cX7_paceFor 36 = .ok (.iload_n 3, 1) := by decide +kernel
theorem dX7_paceFor_37 : decode cX7_paceFor 37 = .ok (.ireturn, 1) := by decide +kernel
theorem dX7_plainValue_0 : decode cX7_plainValue 0 = .ok (.iload_n 1, 1) := by decide +kernel
theorem dX7_plainValue_1 : decode cX7_plainValue 1 = .ok (.tableswitch 70 0 5 #[39, 70, 41, 52, 55, 59], 39) := by decide +kernel
theorem dX7_plainValue_40 : decode cX7_plainValue 40 = .ok (.iconst 1, 1) := by decide +kernel
theorem dX7_plainValue_41 : decode cX7_plainValue 41 = .ok (.ireturn, 1) := by decide +kernel
theorem dX7_plainValue_42 : decode cX7_plainValue 42 = .ok (.iload_n 0, 1) := by decide +kernel
theorem dX7_plainValue_43 : decode cX7_plainValue 43 = .ok (.ifCond .eq 8, 3) := by decide +kernel
theorem dX7_plainValue_46 : decode cX7_plainValue 46 = .ok (.bipush 10, 2) := by decide +kernel
theorem dX7_plainValue_48 : decode cX7_plainValue 48 = .ok (.goto 4, 3) := by decide +kernel
theorem dX7_plainValue_51 : decode cX7_plainValue 51 = .ok (.iconst 0, 1) := by decide +kernel
theorem dX7_plainValue_52 : decode cX7_plainValue 52 = .ok (.ireturn, 1) := by decide +kernel
theorem dX7_plainValue_53 : decode cX7_plainValue 53 = .ok (.bipush 15, 2) := by decide +kernel
theorem dX7_plainValue_55 : decode cX7_plainValue 55 = .ok (.ireturn, 1) := by decide +kernel
theorem dX7_plainValue_56 : decode cX7_plainValue 56 = .ok (.sipush 500, 3) := by decide +kernel
theorem dX7_plainValue_59 : decode cX7_plainValue 59 = .ok (.ireturn, 1) := by decide +kernel
theorem dX7_plainValue_60 : decode cX7_plainValue 60 = .ok (.iload_n 0, 1) := by decide +kernel
theorem dX7_plainValue_61 : decode cX7_plainValue 61 = .ok (.ifCond .eq 7, 3) := by decide +kernel
theorem dX7_plainValue_64 : decode cX7_plainValue 64 = .ok (.iconst 0, 1) := by decide +kernel
theorem dX7_plainValue_65 : decode cX7_plainValue 65 = .ok (.goto 5, 3) := by decide +kernel
theorem dX7_plainValue_68 : decode cX7_plainValue 68 = .ok (.bipush 20, 2) := by decide +kernel
theorem dX7_plainValue_70 : decode cX7_plainValue 70 = .ok (.ireturn, 1) := by decide +kernel
theorem dX7_plainValue_71 : decode cX7_plainValue 71 = .ok (.iconst 0, 1) := by decide +kernel
theorem dX7_plainValue_72 : decode cX7_plainValue 72 = .ok (.ireturn, 1) := by decide +kernel
theorem dX7_rainOn_0 : decode cX7_rainOn 0 = .ok (.aload_n 0, 1) := by decide +kernel
theorem dX7_rainOn_1 : decode cX7_rainOn 1 = .ok (.getfield 69, 3) := by decide +kernel
theorem dX7_rainOn_4 : decode cX7_rainOn 4 = .ok (.ifCond .ne 5, 3) := by decide +kernel
theorem dX7_rainOn_7 : decode cX7_rainOn 7 = .ok (.iconst 0, 1) := by decide +kernel
theorem dX7_rainOn_8 : decode cX7_rainOn 8 = .ok (.ireturn, 1) := by decide +kernel
theorem dX7_rainOn_9 : decode cX7_rainOn 9 = .ok (.iload_n 1, 1) := by decide +kernel
theorem dX7_rainOn_10 : decode cX7_rainOn 10 = .ok (.aload_n 0, 1) := by decide +kernel
theorem dX7_rainOn_11 : decode cX7_rainOn 11 = .ok (.getfield 69, 3) := by decide +kernel
theorem dX7_rainOn_14 : decode cX7_rainOn 14 = .ok (.if_icmp .ge 12, 3) := by decide +kernel
theorem dX7_rainOn_17 : decode cX7_rainOn 17 = .ok (.aload_n 0, 1) := by decide +kernel
theorem dX7_rainOn_18 : decode cX7_rainOn 18 = .ok (.getfield 59, 3) := by decide +kernel
theorem dX7_rainOn_21 : decode cX7_rainOn 21 = .ok (.iload_n 1, 1) := by decide +kernel
theorem dX7_rainOn_22 : decode cX7_rainOn 22 = .ok (.iaload, 1) := by decide +kernel
theorem dX7_rainOn_23 : decode cX7_rainOn 23 = .ok (.goto 5, 3) := by decide +kernel
theorem dX7_rainOn_26 : decode cX7_rainOn 26 = .ok (.bipush 9, 2) := by decide +kernel
theorem dX7_rainOn_28 : decode cX7_rainOn 28 = .ok (.ireturn, 1) := by decide +kernel
theorem dX7_setFacts_0 : decode cX7_setFacts 0 = .ok (.aload_n 0, 1) := by decide +kernel
theorem dX7_setFacts_1 : decode cX7_setFacts 1 = .ok (.getfield 35, 3) := by decide +kernel
theorem dX7_setFacts_4 : decode cX7_setFacts 4 = .ok (.getfield 86, 3) := by decide +kernel
theorem dX7_setFacts_7 : decode cX7_setFacts 7 = .ok (.iload_n 1, 1) := by decide +kernel
theorem dX7_setFacts_8 : decode cX7_setFacts 8 = .ok (.iaload, 1) := by decide +kernel
theorem dX7_setFacts_9 : decode cX7_setFacts 9 = .ok (.istore 4, 2) := by decide +kernel
theorem dX7_setFacts_11 : decode cX7_setFacts 11 = .ok (.aload_n 0, 1) := by decide +kernel
theorem dX7_setFacts_12 : decode cX7_setFacts 12 = .ok (.getfield 62, 3) := by decide +kernel
theorem dX7_setFacts_15 : decode cX7_setFacts 15 = .ok (.iconst 0, 1) := by decide +kernel
theorem dX7_setFacts_16 : decode cX7_setFacts 16 = .ok (.aload_n 0, 1) := by decide +kernel
theorem dX7_setFacts_17 : decode cX7_setFacts 17 = .ok (.getfield 28, 3) := by decide +kernel
theorem dX7_setFacts_20 : decode cX7_setFacts 20 = .ok (.getfield 83, 3) := by decide +kernel
theorem dX7_setFacts_23 : decode cX7_setFacts 23 = .ok (.iload 4, 2) := by decide +kernel
theorem dX7_setFacts_25 : decode cX7_setFacts 25 = .ok (.iaload, 1) := by decide +kernel
theorem dX7_setFacts_26 : decode cX7_setFacts 26 = .ok (.ifCond .ne 7, 3) := by decide +kernel
theorem dX7_setFacts_29 : decode cX7_setFacts 29 = .ok (.iconst 1, 1) := by decide +kernel
theorem dX7_setFacts_30 : decode cX7_setFacts 30 = .ok (.goto 4, 3) := by decide +kernel
theorem dX7_setFacts_33 : decode cX7_setFacts 33 = .ok (.iconst 0, 1) := by decide +kernel
theorem dX7_setFacts_34 : decode cX7_setFacts 34 = .ok (.iastore, 1) := by decide +kernel
theorem dX7_setFacts_35 : decode cX7_setFacts 35 = .ok (.aload_n 0, 1) := by decide +kernel
theorem dX7_setFacts_36 : decode cX7_setFacts 36 = .ok (.getfield 62, 3) := by decide +kernel
theorem dX7_setFacts_39 : decode cX7_setFacts 39 = .ok (.iconst 1, 1) := by decide +kernel
theorem dX7_setFacts_40 : decode cX7_setFacts 40 = .ok (.aload_n 0, 1) := by decide +kernel
theorem dX7_setFacts_41 : decode cX7_setFacts 41 = .ok (.getfield 28, 3) := by decide +kernel
theorem dX7_setFacts_44 : decode cX7_setFacts 44 = .ok (.getfield 83, 3) := by decide +kernel
theorem dX7_setFacts_47 : decode cX7_setFacts 47 = .ok (.iload 4, 2) := by decide +kernel
theorem dX7_setFacts_49 : decode cX7_setFacts 49 = .ok (.iaload, 1) := by decide +kernel
theorem dX7_setFacts_50 : decode cX7_setFacts 50 = .ok (.iconst 1, 1) := by decide +kernel
theorem dX7_setFacts_51 : decode cX7_setFacts 51 = .ok (.if_icmp .ne 7, 3) := by decide +kernel
theorem dX7_setFacts_54 : decode cX7_setFacts 54 = .ok (.iconst 1, 1) := by decide +kernel
theorem dX7_setFacts_55 : decode cX7_setFacts 55 = .ok (.goto 4, 3) := by decide +kernel
theorem dX7_setFacts_58 : decode cX7_setFacts 58 = .ok (.iconst 0, 1) := by decide +kernel
theorem dX7_setFacts_59 : decode cX7_setFacts 59 = .ok (.iastore, 1) := by decide +kernel
theorem dX7_setFacts_60 : decode cX7_setFacts 60 = .ok (.aload_n 0, 1) := by decide +kernel
theorem dX7_setFacts_61 : decode cX7_setFacts 61 = .ok (.getfield 62, 3) := by decide +kernel
theorem dX7_setFacts_64 : decode cX7_setFacts 64 = .ok (.iconst 2, 1) := by decide +kernel
theorem dX7_setFacts_65 : decode cX7_setFacts 65 = .ok (.aload_n 0, 1) := by decide +kernel
theorem dX7_setFacts_66 : decode cX7_setFacts 66 = .ok (.getfield 28, 3) := by decide +kernel
theorem dX7_setFacts_69 : decode cX7_setFacts 69 = .ok (.getfield 83, 3) := by decide +kernel
theorem dX7_setFacts_72 : decode cX7_setFacts 72 = .ok (.iload 4, 2) := by decide +kernel
theorem dX7_setFacts_74 : decode cX7_setFacts 74 = .ok (.iaload, 1) := by decide +kernel
theorem dX7_setFacts_75 : decode cX7_setFacts 75 = .ok (.iconst 2, 1) := by decide +kernel
theorem dX7_setFacts_76 : decode cX7_setFacts 76 = .ok (.if_icmp .ne 7, 3) := by decide +kernel
theorem dX7_setFacts_79 : decode cX7_setFacts 79 = .ok (.iconst 1, 1) := by decide +kernel
theorem dX7_setFacts_80 : decode cX7_setFacts 80 = .ok (.goto 4, 3) := by decide +kernel
theorem dX7_setFacts_83 : decode cX7_setFacts 83 = .ok (.iconst 0, 1) := by decide +kernel
theorem dX7_setFacts_84 : decode cX7_setFacts 84 = .ok (.iastore, 1) := by decide +kernel
theorem dX7_setFacts_85 : decode cX7_setFacts 85 = .ok (.aload_n 0, 1) := by decide +kernel
theorem dX7_setFacts_86 : decode cX7_setFacts 86 = .ok (.getfield 62, 3) := by decide +kernel
theorem dX7_setFacts_89 : decode cX7_setFacts 89 = .ok (.iconst 3, 1) := by decide +kernel
theorem dX7_setFacts_90 : decode cX7_setFacts 90 = .ok (.aload_n 0, 1) := by decide +kernel
theorem dX7_setFacts_91 : decode cX7_setFacts 91 = .ok (.getfield 28, 3) := by decide +kernel
theorem dX7_setFacts_94 : decode cX7_setFacts 94 = .ok (.getfield 114, 3) := by decide +kernel
theorem dX7_setFacts_97 : decode cX7_setFacts 97 = .ok (.iload 4, 2) := by decide +kernel
theorem dX7_setFacts_99 : decode cX7_setFacts 99 = .ok (.iaload, 1) := by decide +kernel
theorem dX7_setFacts_100 : decode cX7_setFacts 100 = .ok (.aload_n 0, 1) := by decide +kernel
theorem dX7_setFacts_101 : decode cX7_setFacts 101 = .ok (.getfield 111, 3) := by decide +kernel
theorem dX7_setFacts_104 : decode cX7_setFacts 104 = .ok (.if_icmp .lt 7, 3) := by decide +kernel
theorem dX7_setFacts_107 : decode cX7_setFacts 107 = .ok (.iconst 1, 1) := by decide +kernel
theorem dX7_setFacts_108 : decode cX7_setFacts 108 = .ok (.goto 4, 3) := by decide +kernel
theorem dX7_setFacts_111 : decode cX7_setFacts 111 = .ok (.iconst 0, 1) := by decide +kernel
theorem dX7_setFacts_112 : decode cX7_setFacts 112 = .ok (.iastore, 1) := by decide +kernel
theorem dX7_setFacts_113 : decode cX7_setFacts 113 = .ok (.aload_n 0, 1) := by decide +kernel
theorem dX7_setFacts_114 : decode cX7_setFacts 114 = .ok (.getfield 62, 3) := by decide +kernel
theorem dX7_setFacts_117 : decode cX7_setFacts 117 = .ok (.iconst 4, 1) := by decide +kernel
theorem dX7_setFacts_118 : decode cX7_setFacts 118 = .ok (.iload_n 2, 1) := by decide +kernel
theorem dX7_setFacts_119 : decode cX7_setFacts 119 = .ok (.iastore, 1) := by decide +kernel
theorem dX7_setFacts_120 : decode cX7_setFacts 120 = .ok (.aload_n 0, 1) := by decide +kernel
theorem dX7_setFacts_121 : decode cX7_setFacts 121 = .ok (.getfield 62, 3) := by decide +kernel
theorem dX7_setFacts_124 : decode cX7_setFacts 124 = .ok (.iconst 5, 1) := by decide +kernel
theorem dX7_setFacts_125 : decode cX7_setFacts 125 = .ok (.aload_n 0, 1) := by decide +kernel
theorem dX7_setFacts_126 : decode cX7_setFacts 126 = .ok (.getfield 28, 3) := by decide +kernel
theorem dX7_setFacts_129 : decode cX7_setFacts 129 = .ok (.getfield 117, 3) := by decide +kernel
theorem dX7_setFacts_132 : decode cX7_setFacts 132 = .ok (.iload 4, 2) := by decide +kernel
theorem dX7_setFacts_134 : decode cX7_setFacts 134 = .ok (.iaload, 1) := by decide +kernel
theorem dX7_setFacts_135 : decode cX7_setFacts 135 = .ok (.iastore, 1) := by decide +kernel
theorem dX7_setFacts_136 : decode cX7_setFacts 136 = .ok (.aload_n 0, 1) := by decide +kernel
theorem dX7_setFacts_137 : decode cX7_setFacts 137 = .ok (.getfield 62, 3) := by decide +kernel
theorem dX7_setFacts_140 : decode cX7_setFacts 140 = .ok (.bipush 6, 2) := by decide +kernel
theorem dX7_setFacts_142 : decode cX7_setFacts 142 = .ok (.aload_n 0, 1) := by decide +kernel
theorem dX7_setFacts_143 : decode cX7_setFacts 143 = .ok (.aload_n 0, 1) := by decide +kernel
theorem dX7_setFacts_144 : decode cX7_setFacts 144 = .ok (.getfield 111, 3) := by decide +kernel
theorem dX7_setFacts_147 : decode cX7_setFacts 147 = .ok (.invokevirtual 120, 3) := by decide +kernel
theorem dX7_setFacts_150 : decode cX7_setFacts 150 = .ok (.iastore, 1) := by decide +kernel
theorem dX7_setFacts_151 : decode cX7_setFacts 151 = .ok (.aload_n 0, 1) := by decide +kernel
theorem dX7_setFacts_152 : decode cX7_setFacts 152 = .ok (.getfield 62, 3) := by decide +kernel
theorem dX7_setFacts_155 : decode cX7_setFacts 155 = .ok (.bipush 7, 2) := by decide +kernel
theorem dX7_setFacts_157 : decode cX7_setFacts 157 = .ok (.aload_n 0, 1) := by decide +kernel
theorem dX7_setFacts_158 : decode cX7_setFacts 158 = .ok (.getfield 35, 3) := by decide +kernel
theorem dX7_setFacts_161 : decode cX7_setFacts 161 = .ok (.getfield 123, 3) := by decide +kernel
theorem dX7_setFacts_164 : decode cX7_setFacts 164 = .ok (.iload_n 1, 1) := by decide +kernel
theorem dX7_setFacts_165 : decode cX7_setFacts 165 = .ok (.iaload, 1) := by decide +kernel
theorem dX7_setFacts_166 : decode cX7_setFacts 166 = .ok (.iastore, 1) := by decide +kernel
theorem dX7_setFacts_167 : decode cX7_setFacts 167 = .ok (.aload_n 0, 1) := by decide +kernel
theorem dX7_setFacts_168 : decode cX7_setFacts 168 = .ok (.getfield 62, 3) := by decide +kernel
theorem dX7_setFacts_171 : decode cX7_setFacts 171 = .ok (.bipush 8, 2) := by decide +kernel
theorem dX7_setFacts_173 : decode cX7_setFacts 173 = .ok (.aload_n 0, 1) := by decide +kernel
theorem dX7_setFacts_174 : decode cX7_setFacts 174 = .ok (.getfield 111, 3) := by decide +kernel
theorem dX7_setFacts_177 : decode cX7_setFacts 177 = .ok (.iastore, 1) := by decide +kernel
theorem dX7_setFacts_178 : decode cX7_setFacts 178 = .ok (.aload_n 0, 1) := by decide +kernel
theorem dX7_setFacts_179 : decode cX7_setFacts 179 = .ok (.getfield 62, 3) := by decide +kernel
theorem dX7_setFacts_182 : decode cX7_setFacts 182 = .ok (.bipush 9, 2) := by decide +kernel
theorem dX7_setFacts_184 : decode cX7_setFacts 184 = .ok (.aload_n 0, 1) := by decide +kernel
theorem dX7_setFacts_185 : decode cX7_setFacts 185 = .ok (.getfield 35, 3) := by decide +kernel
theorem dX7_setFacts_188 : decode cX7_setFacts 188 = .ok (.getfield 73, 3) := by decide +kernel
theorem dX7_setFacts_191 : decode cX7_setFacts 191 = .ok (.iload_n 1, 1) := by decide +kernel
theorem dX7_setFacts_192 : decode cX7_setFacts 192 = .ok (.iaload, 1) := by decide +kernel
theorem dX7_setFacts_193 : decode cX7_setFacts 193 = .ok (.iastore, 1) := by decide +kernel
theorem dX7_setFacts_194 : decode cX7_setFacts 194 = .ok (.aload_n 0, 1) := by decide +kernel
theorem dX7_setFacts_195 : decode cX7_setFacts 195 = .ok (.getfield 62, 3) := by decide +kernel
theorem dX7_setFacts_198 : decode cX7_setFacts 198 = .ok (.bipush 10, 2) := by decide +kernel
theorem dX7_setFacts_200 : decode cX7_setFacts 200 = .ok (.aload_n 0, 1) := by decide +kernel
theorem dX7_setFacts_201 : decode cX7_setFacts 201 = .ok (.getfield 35, 3) := by decide +kernel
theorem dX7_setFacts_204 : decode cX7_setFacts 204 = .ok (.getfield 76, 3) := by decide +kernel
theorem dX7_setFacts_207 : decode cX7_setFacts 207 = .ok (.iload_n 1, 1) := by decide +kernel
theorem dX7_setFacts_208 : decode cX7_setFacts 208 = .ok (.iaload, 1) := by decide +kernel
theorem dX7_setFacts_209 : decode cX7_setFacts 209 = .ok (.iastore, 1) := by decide +kernel
theorem dX7_setFacts_210 : decode cX7_setFacts 210 = .ok (.aload_n 0, 1) := by decide +kernel
theorem dX7_setFacts_211 : decode cX7_setFacts 211 = .ok (.getfield 62, 3) := by decide +kernel
theorem dX7_setFacts_214 : decode cX7_setFacts 214 = .ok (.bipush 11, 2) := by decide +kernel
theorem dX7_setFacts_216 : decode cX7_setFacts 216 = .ok (.iload_n 3, 1) := by decide +kernel
theorem dX7_setFacts_217 : decode cX7_setFacts 217 = .ok (.iastore, 1) := by decide +kernel
theorem dX7_setFacts_218 : decode cX7_setFacts 218 = .ok (.return_, 1) := by decide +kernel
theorem dX8_has_0 : decode cX8_has 0 = .ok (.iload_n 1, 1) := by decide +kernel
theorem dX8_has_1 : decode cX8_has 1 = .ok (.ifCond .lt 15, 3) := by decide +kernel
theorem dX8_has_4 : decode cX8_has 4 = .ok (.iload_n 1, 1) := by decide +kernel
theorem dX8_has_5 : decode cX8_has 5 = .ok (.aload_n 0, 1) := by decide +kernel
theorem dX8_has_6 : decode cX8_has 6 = .ok (.getfield 36, 3) := by decide +kernel
theorem dX8_has_9 : decode cX8_has 9 = .ok (.if_icmp .ge 7, 3) := by decide +kernel
theorem dX8_has_12 : decode cX8_has 12 = .ok (.iconst 1, 1) := by decide +kernel
theorem dX8_has_13 : decode cX8_has 13 = .ok (.goto 4, 3) := by decide +kernel
theorem dX8_has_16 : decode cX8_has 16 = .ok (.iconst 0, 1) := by decide +kernel
theorem dX8_has_17 : decode cX8_has 17 = .ok (.ireturn, 1) := by decide +kernel
theorem dX8_isFull_0 : decode cX8_isFull 0 = .ok (.aload_n 0, 1) := by decide +kernel
theorem dX8_isFull_1 : decode cX8_isFull 1 = .ok (.getfield 36, 3) := by decide +kernel
theorem dX8_isFull_4 : decode cX8_isFull 4 = .ok (.bipush 80, 2) := by decide +kernel
theorem dX8_isFull_6 : decode cX8_isFull 6 = .ok (.if_icmp .lt 7, 3) := by decide +kernel
theorem dX8_isFull_9 : decode cX8_isFull 9 = .ok (.iconst 1, 1) := by decide +kernel
theorem dX8_isFull_10 : decode cX8_isFull 10 = .ok (.goto 4, 3) := by decide +kernel
theorem dX8_isFull_13 : decode cX8_isFull 13 = .ok (.iconst 0, 1) := by decide +kernel
theorem dX8_isFull_14 : decode cX8_isFull 14 = .ok (.ireturn, 1) := by decide +kernel
theorem dX8_join_0 : decode cX8_join 0 = .ok (.aload_n 0, 1) := by decide +kernel
theorem dX8_join_1 : decode cX8_join 1 = .ok (.getfield 11, 3) := by decide +kernel
theorem dX8_join_4 : decode cX8_join 4 = .ok (.aload_n 0, 1) := by decide +kernel
theorem dX8_join_5 : decode cX8_join 5 = .ok (.getfield 36, 3) := by decide +kernel
theorem dX8_join_8 : decode cX8_join 8 = .ok (.iload_n 1, 1) := by decide +kernel
theorem dX8_join_9 : decode cX8_join 9 = .ok (.iastore, 1) := by decide +kernel
theorem dX8_join_10 : decode cX8_join 10 = .ok (.aload_n 0, 1) := by decide +kernel
theorem dX8_join_11 : decode cX8_join 11 = .ok (.getfield 15, 3) := by decide +kernel
theorem dX8_join_14 : decode cX8_join 14 = .ok (.aload_n 0, 1) := by decide +kernel
theorem dX8_join_15 : decode cX8_join 15 = .ok (.getfield 36, 3) := by decide +kernel
theorem dX8_join_18 : decode cX8_join 18 = .ok (.iload_n 2, 1) := by decide +kernel
theorem dX8_join_19 : decode cX8_join 19 = .ok (.iastore, 1) := by decide +kernel
theorem dX8_join_20 : decode cX8_join 20 = .ok (.aload_n 0, 1) := by decide +kernel
theorem dX8_join_21 : decode cX8_join 21 = .ok (.getfield 18, 3) := by decide +kernel
theorem dX8_join_24 : decode cX8_join 24 = .ok (.aload_n 0, 1) := by decide +kernel
theorem dX8_join_25 : decode cX8_join 25 = .ok (.getfield 36, 3) := by decide +kernel
theorem dX8_join_28 : decode cX8_join 28 = .ok (.iload_n 3, 1) := by decide +kernel
theorem dX8_join_29 : decode cX8_join 29 = .ok (.iastore, 1) := by decide +kernel
theorem dX8_join_30 : decode cX8_join 30 = .ok (.aload_n 0, 1) := by decide +kernel
theorem dX8_join_31 : decode cX8_join 31 = .ok (.getfield 21, 3) := by decide +kernel
theorem dX8_join_34 : decode cX8_join 34 = .ok (.aload_n 0, 1) := by decide +kernel
theorem dX8_join_35 : decode cX8_join 35 = .ok (.getfield 36, 3) := by decide +kernel
theorem dX8_join_38 : decode cX8_join 38 = .ok (.iload 4, 2) := by decide +kernel
theorem dX8_join_40 : decode cX8_join 40 = .ok (.iastore, 1) := by decide +kernel
theorem dX8_join_41 : decode cX8_join 41 = .ok (.aload_n 0, 1) := by decide +kernel
theorem dX8_join_42 : decode cX8_join 42 = .ok (.getfield 33, 3) := by decide +kernel
theorem dX8_join_45 : decode cX8_join 45 = .ok (.aload_n 0, 1) := by decide +kernel
theorem dX8_join_46 : decode cX8_join 46 = .ok (.getfield 36, 3) := by decide +kernel
theorem dX8_join_49 : decode cX8_join 49 = .ok (.iconst (-1), 1) := by decide +kernel
theorem dX8_join_50 : decode cX8_join 50 = .ok (.iastore, 1) := by decide +kernel
theorem dX8_join_51 : decode cX8_join 51 = .ok (.aload_n 0, 1) := by decide +kernel
theorem dX8_join_52 : decode cX8_join 52 = .ok (.dup, 1) := by decide +kernel
theorem dX8_join_53 : decode cX8_join 53 = .ok (.getfield 36, 3) := by decide +kernel
theorem dX8_join_56 : decode cX8_join 56 = .ok (.iconst 1, 1) := by decide +kernel
theorem dX8_join_57 : decode cX8_join 57 = .ok (.iadd, 1) := by decide +kernel
theorem dX8_join_58 : decode cX8_join 58 = .ok (.putfield 36, 3) := by decide +kernel
theorem dX8_join_61 : decode cX8_join 61 = .ok (.aload_n 0, 1) := by decide +kernel
theorem dX8_join_62 : decode cX8_join 62 = .ok (.getfield 36, 3) := by decide +kernel
theorem dX8_join_65 : decode cX8_join 65 = .ok (.iconst 1, 1) := by decide +kernel
theorem dX8_join_66 : decode cX8_join 66 = .ok (.isub, 1) := by decide +kernel
theorem dX8_join_67 : decode cX8_join 67 = .ok (.ireturn, 1) := by decide +kernel
theorem dX8_runs_0 : decode cX8_runs 0 = .ok (.aload_n 0, 1) := by decide +kernel
theorem dX8_runs_1 : decode cX8_runs 1 = .ok (.getfield 24, 3) := by decide +kernel
theorem dX8_runs_4 : decode cX8_runs 4 = .ok (.iload_n 1, 1) := by decide +kernel
theorem dX8_runs_5 : decode cX8_runs 5 = .ok (.iaload, 1) := by decide +kernel
theorem dX8_runs_6 : decode cX8_runs 6 = .ok (.iload_n 2, 1) := by decide +kernel
theorem dX8_runs_7 : decode cX8_runs 7 = .ok (.if_icmp .gt 17, 3) := by decide +kernel
theorem dX8_runs_10 : decode cX8_runs 10 = .ok (.iload_n 2, 1) := by decide +kernel
theorem dX8_runs_11 : decode cX8_runs 11 = .ok (.aload_n 0, 1) := by decide +kernel
theorem dX8_runs_12 : decode cX8_runs 12 = .ok (.getfield 27, 3) := by decide +kernel
theorem dX8_runs_15 : decode cX8_runs 15 = .ok (.iload_n 1, 1) := by decide +kernel
theorem dX8_runs_16 : decode cX8_runs 16 = .ok (.iaload, 1) := by decide +kernel
theorem dX8_runs_17 : decode cX8_runs 17 = .ok (.if_icmp .gt 7, 3) := by decide +kernel
theorem dX8_runs_20 : decode cX8_runs 20 = .ok (.iconst 1, 1) := by decide +kernel
theorem dX8_runs_21 : decode cX8_runs 21 = .ok (.goto 4, 3) := by decide +kernel
theorem dX8_runs_24 : decode cX8_runs 24 = .ok (.iconst 0, 1) := by decide +kernel
theorem dX8_runs_25 : decode cX8_runs 25 = .ok (.ireturn, 1) := by decide +kernel
theorem dX8_setDays_0 : decode cX8_setDays 0 = .ok (.aload_n 0, 1) := by decide +kernel
theorem dX8_setDays_1 : decode cX8_setDays 1 = .ok (.getfield 24, 3) := by decide +kernel
theorem dX8_setDays_4 : decode cX8_setDays 4 = .ok (.iload_n 1, 1) := by decide +kernel
theorem dX8_setDays_5 : decode cX8_setDays 5 = .ok (.iload_n 2, 1) := by decide +kernel
theorem dX8_setDays_6 : decode cX8_setDays 6 = .ok (.iastore, 1) := by decide +kernel
theorem dX8_setDays_7 : decode cX8_setDays 7 = .ok (.aload_n 0, 1) := by decide +kernel
theorem dX8_setDays_8 : decode cX8_setDays 8 = .ok (.getfield 27, 3) := by decide +kernel
theorem dX8_setDays_11 : decode cX8_setDays 11 = .ok (.iload_n 1, 1) := by decide +kernel
theorem dX8_setDays_12 : decode cX8_setDays 12 = .ok (.iload_n 3, 1) := by decide +kernel
theorem dX8_setDays_13 : decode cX8_setDays 13 = .ok (.iastore, 1) := by decide +kernel
theorem dX8_setDays_14 : decode cX8_setDays 14 = .ok (.aload_n 0, 1) := by decide +kernel
theorem dX8_setDays_15 : decode cX8_setDays 15 = .ok (.getfield 30, 3) := by decide +kernel
theorem dX8_setDays_18 : decode cX8_setDays 18 = .ok (.iload_n 1, 1) := by decide +kernel
theorem dX8_setDays_19 : decode cX8_setDays 19 = .ok (.iload 4, 2) := by decide +kernel
theorem dX8_setDays_21 : decode cX8_setDays 21 = .ok (.iastore, 1) := by decide +kernel
theorem dX8_setDays_22 : decode cX8_setDays 22 = .ok (.return_, 1) := by decide +kernel
theorem ix_sw_0_4 (x : Int32) : x.toInt < 0 ∨ 3 < x.toInt ∨ x = 0 ∨ x = 1 ∨ x = 2 ∨ x = 3 := by
  have e : ∀ n : Int32, x = n ↔ x.toInt = n.toInt := fun n => ⟨fun q => by rw [q], fun q => Int32.toInt_inj.mp q⟩
  simp only [e]
  have z : (0 : Int32).toInt = 0 ∧ (1 : Int32).toInt = 1 ∧ (2 : Int32).toInt = 2 ∧ (3 : Int32).toInt = 3 := by decide
  omega
theorem ix_sw_0_6 (x : Int32) : x.toInt < 0 ∨ 5 < x.toInt ∨ x = 0 ∨ x = 1 ∨ x = 2 ∨ x = 3 ∨ x = 4 ∨ x = 5 := by
  have e : ∀ n : Int32, x = n ↔ x.toInt = n.toInt := fun n => ⟨fun q => by rw [q], fun q => Int32.toInt_inj.mp q⟩
  simp only [e]
  have z : (0 : Int32).toInt = 0 ∧ (1 : Int32).toInt = 1 ∧ (2 : Int32).toInt = 2 ∧ (3 : Int32).toInt = 3 ∧ (4 : Int32).toInt = 4 ∧ (5 : Int32).toInt = 5 := by decide
  omega
set_option maxHeartbeats 4000000 in
set_option maxRecDepth 100000 in
theorem x_isCorner (l : Launch) (sz : Nat) (v : Int32) : Met l yX4_isCorner (.code yX4_isCorner cX4_isCorner 1 (some .boolean) :: lw_good) ({ frames := 2, cells := 0, slots := 0, locals := 40 }) (va_Pc [.int v] (fun U => U.heap.size = sz)) (va_Qi (fun (r : Int32) (_ : Unit) => (0 ≤ r.toInt ∧ r.toInt ≤ 1) ∧ ((r = 0 ∧ (v.toInt < 0 ∨ 11 < v.toInt)) ∨ (r = 1 ∧ (0 ≤ v.toInt) ∧ (v.toInt ≤ 11))) ∧ True) (fun (_ : Unit) (_ : State) => True) (fun q => sz ≤ q)) 0 0 (fun q => sz ≤ q) := by
  refine Met.ofW (cc := cX4_isCorner) (maxL := 1) (ret := (some .boolean)) (by decide) rfl ?_
  intro p e s m args below meth c s₁ B hml hv
  obtain ⟨rfl, hsz⟩ := hv
  have hx := B.exec
  have hb := B.bytes
  have hr := B.returns
  have hts := atoms_spec (ws := (.code yX4_isCorner cX4_isCorner 1 (some .boolean) :: lw_good)) B.pre
  have htg : ∀ w ∈ lw_good, w.before _ s = true := fun w hw => hts w (List.mem_cons_of_mem _ hw)
  have hown : s.vm.findClass RX4 = some m.cls := findClass_of_methodNamed B.named
  have hlocks := B.notSynchronized
  subst hsz
  have hS : va_S (fun q => s.heap.size ≤ q) s.heap s.heap [] := va_S.rf
  have hl := lv_entry ([.int v]) (n := 1) (Nat.le_of_ble_eq_true rfl)
  rw [lg_entry_eq]
  generalize (lg_sl ([.int v]) ++ List.replicate (1 - (lg_sl ([.int v])).length) Slot.unset).toArray = ls at hl ⊢
  have hl : lv_has ls 1 [(0, .int v)] := hl
  refine lv_iload_n hx hb dX4_isCorner_0 rfl (lv_at hl 0 rfl) ?_
  refine lv_if_lt (tgt := 14) hx hb dX4_isCorner_1 (by decide) (fun c_1 => ?_) (fun c_1 => ?_)
  · skip
    have i_2 : (-2147483648) ≤ v.toInt ∧ v.toInt ≤ (-1) := iv_lt1 (iv_any v) (⟨by decide, by decide⟩ : (0 : Int) ≤ (0 : Int32).toInt ∧ (0 : Int32).toInt ≤ 0) c_1
    refine lv_iconst (v := 0) hx hb dX4_isCorner_14 (by decide) ?_
    exact W.zret (v := 0) hx hb hr (by decide) (fun t ht hW => ⟨⟨0, (), rfl, ⟨(iv_w (⟨by decide, by decide⟩ : (0 : Int) ≤ (0 : Int32).toInt ∧ (0 : Int32).toInt ≤ 0) (by decide) (by decide)), (Or.inl ⟨rfl, by omega⟩), trivial⟩, trivial⟩, hS.F ht⟩) hS.2.2 dX4_isCorner_15
  · skip
    have i_3 : 0 ≤ v.toInt ∧ v.toInt ≤ 2147483647 := iv_le2 (⟨by decide, by decide⟩ : (0 : Int) ≤ (0 : Int32).toInt ∧ (0 : Int32).toInt ≤ 0) (iv_any v) (Int32.not_lt.mp c_1)
    refine lv_iload_n hx hb dX4_isCorner_4 rfl (lv_at hl 0 rfl) ?_
    refine lv_bipush (v := 12) hx hb dX4_isCorner_5 (by decide) ?_
    refine lv_icmp_ge (tgt := 14) hx hb dX4_isCorner_7 (by decide) (fun c_4 => ?_) (fun c_4 => ?_)
    · skip
      have i_5 : 12 ≤ v.toInt ∧ v.toInt ≤ 2147483647 := iv_le2 (⟨by decide, by decide⟩ : (12 : Int) ≤ (12 : Int32).toInt ∧ (12 : Int32).toInt ≤ 12) i_3 c_4
      refine lv_iconst (v := 0) hx hb dX4_isCorner_14 (by decide) ?_
      exact W.zret (v := 0) hx hb hr (by decide) (fun t ht hW => ⟨⟨0, (), rfl, ⟨(iv_w (⟨by decide, by decide⟩ : (0 : Int) ≤ (0 : Int32).toInt ∧ (0 : Int32).toInt ≤ 0) (by decide) (by decide)), (Or.inl ⟨rfl, by omega⟩), trivial⟩, trivial⟩, hS.F ht⟩) hS.2.2 dX4_isCorner_15
    · skip
      have i_6 : 0 ≤ v.toInt ∧ v.toInt ≤ 11 := iv_lt1 i_3 (⟨by decide, by decide⟩ : (12 : Int) ≤ (12 : Int32).toInt ∧ (12 : Int32).toInt ≤ 12) (Int32.not_le.mp c_4)
      refine lv_iconst (v := 1) hx hb dX4_isCorner_10 (by decide) ?_
      refine lv_goto (tgt := 15) hx hb dX4_isCorner_11 (by decide) ?_
      exact W.zret (v := 1) hx hb hr (by decide) (fun t ht hW => ⟨⟨1, (), rfl, ⟨(iv_w (⟨by decide, by decide⟩ : (1 : Int) ≤ (1 : Int32).toInt ∧ (1 : Int32).toInt ≤ 1) (by decide) (by decide)), (Or.inr (⟨rfl, by omega⟩)), trivial⟩, trivial⟩, hS.F ht⟩) hS.2.2 dX4_isCorner_15
set_option maxHeartbeats 4000000 in
set_option maxRecDepth 100000 in
theorem x_isDayOrNever (l : Launch) (sz : Nat) (v : Int32) : Met l yX11_isDayOrNever (.code yX11_isDayOrNever cX11_isDayOrNever 1 (some .boolean) :: lw_good) ({ frames := 2, cells := 0, slots := 0, locals := 40 }) (va_Pc [.int v] (fun U => U.heap.size = sz)) (va_Qi (fun (r : Int32) (_ : Unit) => (0 ≤ r.toInt ∧ r.toInt ≤ 1) ∧ ((r = 0 ∧ (v.toInt < -1 ∨ 199 < v.toInt)) ∨ (r = 1 ∧ (-1 ≤ v.toInt) ∧ (v.toInt ≤ 199))) ∧ True) (fun (_ : Unit) (_ : State) => True) (fun q => sz ≤ q)) 0 0 (fun q => sz ≤ q) := by
  refine Met.ofW (cc := cX11_isDayOrNever) (maxL := 1) (ret := (some .boolean)) (by decide) rfl ?_
  intro p e s m args below meth c s₁ B hml hv
  obtain ⟨rfl, hsz⟩ := hv
  have hx := B.exec
  have hb := B.bytes
  have hr := B.returns
  have hts := atoms_spec (ws := (.code yX11_isDayOrNever cX11_isDayOrNever 1 (some .boolean) :: lw_good)) B.pre
  have htg : ∀ w ∈ lw_good, w.before _ s = true := fun w hw => hts w (List.mem_cons_of_mem _ hw)
  have hown : s.vm.findClass RX11 = some m.cls := findClass_of_methodNamed B.named
  have hlocks := B.notSynchronized
  subst hsz
  have hS : va_S (fun q => s.heap.size ≤ q) s.heap s.heap [] := va_S.rf
  have hl := lv_entry ([.int v]) (n := 1) (Nat.le_of_ble_eq_true rfl)
  rw [lg_entry_eq]
  generalize (lg_sl ([.int v]) ++ List.replicate (1 - (lg_sl ([.int v])).length) Slot.unset).toArray = ls at hl ⊢
  have hl : lv_has ls 1 [(0, .int v)] := hl
  refine lv_iload_n hx hb dX11_isDayOrNever_0 rfl (lv_at hl 0 rfl) ?_
  refine lv_iconst (v := (-1)) hx hb dX11_isDayOrNever_1 (by decide) ?_
  refine lv_icmp_lt (tgt := 16) hx hb dX11_isDayOrNever_2 (by decide) (fun c_1 => ?_) (fun c_1 => ?_)
  · skip
    have i_2 : (-2147483648) ≤ v.toInt ∧ v.toInt ≤ (-2) := iv_lt1 (iv_any v) (⟨by decide, by decide⟩ : (-1 : Int) ≤ ((-1) : Int32).toInt ∧ ((-1) : Int32).toInt ≤ -1) c_1
    refine lv_iconst (v := 0) hx hb dX11_isDayOrNever_16 (by decide) ?_
    exact W.zret (v := 0) hx hb hr (by decide) (fun t ht hW => ⟨⟨0, (), rfl, ⟨(iv_w (⟨by decide, by decide⟩ : (0 : Int) ≤ (0 : Int32).toInt ∧ (0 : Int32).toInt ≤ 0) (by decide) (by decide)), (Or.inl ⟨rfl, by omega⟩), trivial⟩, trivial⟩, hS.F ht⟩) hS.2.2 dX11_isDayOrNever_17
  · skip
    have i_3 : (-1) ≤ v.toInt ∧ v.toInt ≤ 2147483647 := iv_le2 (⟨by decide, by decide⟩ : (-1 : Int) ≤ ((-1) : Int32).toInt ∧ ((-1) : Int32).toInt ≤ -1) (iv_any v) (Int32.not_lt.mp c_1)
    refine lv_iload_n hx hb dX11_isDayOrNever_5 rfl (lv_at hl 0 rfl) ?_
    refine lv_sipush (v := 199) hx hb dX11_isDayOrNever_6 (by decide) ?_
    refine lv_icmp_gt (tgt := 16) hx hb dX11_isDayOrNever_9 (by decide) (fun c_4 => ?_) (fun c_4 => ?_)
    · skip
      have i_5 : 200 ≤ v.toInt ∧ v.toInt ≤ 2147483647 := iv_lt2 (⟨by decide, by decide⟩ : (199 : Int) ≤ (199 : Int32).toInt ∧ (199 : Int32).toInt ≤ 199) i_3 c_4
      refine lv_iconst (v := 0) hx hb dX11_isDayOrNever_16 (by decide) ?_
      exact W.zret (v := 0) hx hb hr (by decide) (fun t ht hW => ⟨⟨0, (), rfl, ⟨(iv_w (⟨by decide, by decide⟩ : (0 : Int) ≤ (0 : Int32).toInt ∧ (0 : Int32).toInt ≤ 0) (by decide) (by decide)), (Or.inl ⟨rfl, by omega⟩), trivial⟩, trivial⟩, hS.F ht⟩) hS.2.2 dX11_isDayOrNever_17
    · skip
      have i_6 : (-1) ≤ v.toInt ∧ v.toInt ≤ 199 := iv_le1 i_3 (⟨by decide, by decide⟩ : (199 : Int) ≤ (199 : Int32).toInt ∧ (199 : Int32).toInt ≤ 199) (Int32.not_lt.mp c_4)
      refine lv_iconst (v := 1) hx hb dX11_isDayOrNever_12 (by decide) ?_
      refine lv_goto (tgt := 17) hx hb dX11_isDayOrNever_13 (by decide) ?_
      exact W.zret (v := 1) hx hb hr (by decide) (fun t ht hW => ⟨⟨1, (), rfl, ⟨(iv_w (⟨by decide, by decide⟩ : (1 : Int) ≤ (1 : Int32).toInt ∧ (1 : Int32).toInt ≤ 1) (by decide) (by decide)), (Or.inr (⟨rfl, by omega⟩)), trivial⟩, trivial⟩, hS.F ht⟩) hS.2.2 dX11_isDayOrNever_17
set_option maxHeartbeats 4000000 in
set_option maxRecDepth 100000 in
theorem x_paceFor (l : Launch) (sz : Nat) (a : Int32) (b : Int32) (v : Int32) : Met l yX7_paceFor (.code yX7_paceFor cX7_paceFor 4 (some .int) :: lw_good) ({ frames := 2, cells := 0, slots := 0, locals := 40 }) (va_Pc [.int a, .int b, .int v] (fun U => U.heap.size = sz)) (va_Qi (fun (r : Int32) (_ : Unit) => True) (fun (_ : Unit) (_ : State) => True) (fun q => sz ≤ q)) 0 0 (fun q => sz ≤ q) := by
  refine Met.ofW (cc := cX7_paceFor) (maxL := 4) (ret := (some .int)) (by decide) rfl ?_
  intro p e s m args below meth c s₁ B hml hv
  obtain ⟨rfl, hsz⟩ := hv
  have hx := B.exec
  have hb := B.bytes
  have hr := B.returns
  have hts := atoms_spec (ws := (.code yX7_paceFor cX7_paceFor 4 (some .int) :: lw_good)) B.pre
  have htg : ∀ w ∈ lw_good, w.before _ s = true := fun w hw => hts w (List.mem_cons_of_mem _ hw)
  have hown : s.vm.findClass RX7 = some m.cls := findClass_of_methodNamed B.named
  have hlocks := B.notSynchronized
  subst hsz
  have hS : va_S (fun q => s.heap.size ≤ q) s.heap s.heap [] := va_S.rf
  have hl := lv_entry ([.int a, .int b, .int v]) (n := 4) (Nat.le_of_ble_eq_true rfl)
  rw [lg_entry_eq]
  generalize (lg_sl ([.int a, .int b, .int v]) ++ List.replicate (4 - (lg_sl ([.int a, .int b, .int v])).length) Slot.unset).toArray = ls at hl ⊢
  have hl : lv_has ls 4 [(0, .int a), (1, .int b), (2, .int v)] := hl
  refine lv_bipush (v := 18) hx hb dX7_paceFor_0 (by decide) ?_
  refine lv_iload_n hx hb dX7_paceFor_2 rfl (lv_at hl 2 rfl) ?_
  refine lv_iadd hx hb dX7_paceFor_3 ?_
  refine lv_topi (fun v_1 ev_1 => ?_)
  refine lv_istore_n (lv' := [(3, .int v_1), (0, .int a), (1, .int b), (2, .int v)]) hx hb dX7_paceFor_4 rfl hl (by decide) rfl (fun ls hl => ?_)
  refine lv_iload_n hx hb dX7_paceFor_5 rfl (lv_at hl 1 rfl) ?_
  refine lv_bipush (v := 40) hx hb dX7_paceFor_6 (by decide) ?_
  refine my_cut (P := fun R9 a9 Q9 => ∀ (x_10 : Int32) (ls : Array Slot), lv_has ls 4 [(1, .int b), (3, .int x_10)] → W p l e R9 s m a9 below meth c s.heap [] 0 0 Q9 (F0 m 21 ls [])) ?_ (fun hj_11 => ?_)
  · intro x_10 ls  hl
    refine lv_iload_n hx hb dX7_paceFor_21 rfl (lv_at hl 0 rfl) ?_
    refine lv_iconst (v := 1) hx hb dX7_paceFor_22 (by decide) ?_
    refine my_cut (P := fun R9 a9 Q9 => ∀ (x_15 : Int32) (ls : Array Slot), lv_has ls 4 [(1, .int b), (3, .int x_15)] → W p l e R9 s m a9 below meth c s.heap [] 0 0 Q9 (F0 m 29 ls [])) ?_ (fun hj_16 => ?_)
    · intro x_15 ls  hl
      refine lv_iload_n hx hb dX7_paceFor_29 rfl (lv_at hl 0 rfl) ?_
      refine lv_if_ne (tgt := 36) hx hb dX7_paceFor_30 (by decide) (fun c_17 => ?_) (fun c_17 => ?_)
      · skip
        refine lv_iload_n hx hb dX7_paceFor_36 rfl (lv_at hl 1 rfl) ?_
        exact W.iret (v := x_15) hx hb hr (fun t ht hW => ⟨⟨x_15, (), rfl, trivial, trivial⟩, hS.F ht⟩) hS.2.2 dX7_paceFor_37
      · skip
        have i_18 : 0 ≤ b.toInt ∧ b.toInt ≤ 0 := iv_eq1 (⟨by decide, by decide⟩ : (0 : Int) ≤ (0 : Int32).toInt ∧ (0 : Int32).toInt ≤ 0) c_17
        obtain ⟨v_19, ev_19⟩ : ∃ z : Int32, z = x_15 + 9 := ⟨_, rfl⟩
        refine lv_iinc (v := v_19) (lv' := [(3, .int v_19), (1, .int b)]) hx hb dX7_paceFor_33 hl (k := 1) rfl (by rw [ev_19]; rfl) (by decide) rfl (fun ls hl => ?_)
        refine lv_iload_n hx hb dX7_paceFor_36 rfl (lv_at hl 0 rfl) ?_
        exact W.iret (v := v_19) hx hb hr (fun t ht hW => ⟨⟨v_19, (), rfl, trivial, trivial⟩, hS.F ht⟩) hS.2.2 dX7_paceFor_37
    · skip
      refine lv_icmp_ne (tgt := 29) hx hb dX7_paceFor_23 (by decide) (fun c_12 => ?_) (fun c_12 => ?_)
      · skip
        exact hj_16 x_10 ls  (lv_sub hl [0, 1] rfl)
      · skip
        have i_13 : 1 ≤ b.toInt ∧ b.toInt ≤ 1 := iv_eq1 (⟨by decide, by decide⟩ : (1 : Int) ≤ (1 : Int32).toInt ∧ (1 : Int32).toInt ≤ 1) c_12
        obtain ⟨v_14, ev_14⟩ : ∃ z : Int32, z = x_10 + 4 := ⟨_, rfl⟩
        refine lv_iinc (v := v_14) (lv' := [(3, .int v_14), (1, .int b)]) hx hb dX7_paceFor_26 hl (k := 1) rfl (by rw [ev_14]; rfl) (by decide) rfl (fun ls hl => ?_)
        exact hj_16 v_14 ls  (lv_sub hl [1, 0] rfl)
  · skip
    refine lv_icmp_le (tgt := 21) hx hb dX7_paceFor_8 (by decide) (fun c_2 => ?_) (fun c_2 => ?_)
    · skip
      have i_3 : (-2147483648) ≤ a.toInt ∧ a.toInt ≤ 40 := iv_le1 (iv_any a) (⟨by decide, by decide⟩ : (40 : Int) ≤ (40 : Int32).toInt ∧ (40 : Int32).toInt ≤ 40) c_2
      exact hj_11 v_1 ls  (lv_sub hl [2, 0] rfl)
    · skip
      have i_4 : 41 ≤ a.toInt ∧ a.toInt ≤ 2147483647 := iv_lt2 (⟨by decide, by decide⟩ : (40 : Int) ≤ (40 : Int32).toInt ∧ (40 : Int32).toInt ≤ 40) (iv_any a) (Int32.not_le.mp c_2)
      refine lv_iload_n hx hb dX7_paceFor_11 rfl (lv_at hl 0 rfl) ?_
      refine lv_iload_n hx hb dX7_paceFor_12 rfl (lv_at hl 1 rfl) ?_
      refine lv_bipush (v := 40) hx hb dX7_paceFor_13 (by decide) ?_
      refine lv_isub hx hb dX7_paceFor_15 ?_
      refine lv_topi (fun v_5 ev_5 => ?_)
      have t_6 : v_5.toInt = a.toInt - 40 ∧ 1 ≤ v_5.toInt ∧ v_5.toInt ≤ 2147483607 := iv_subc ev_5 i_4 (by decide) (by decide) (by decide)
      refine lv_bipush (v := 10) hx hb dX7_paceFor_16 (by decide) ?_
      refine lv_idiv hx hb dX7_paceFor_18 (by decide) ?_
      refine lv_topi (fun v_8 ev_8 => ?_)
      refine lv_iadd hx hb dX7_paceFor_19 ?_
      refine lv_topi (fun v_9 ev_9 => ?_)
      refine lv_istore_n (lv' := [(3, .int v_9), (0, .int a), (1, .int b), (2, .int v)]) hx hb dX7_paceFor_20 rfl hl (by decide) rfl (fun ls hl => ?_)
      exact hj_11 v_9 ls  (lv_sub hl [2, 0] rfl)
set_option maxHeartbeats 4000000 in
set_option maxRecDepth 100000 in
theorem x_minutesFor (l : Launch) (sz : Nat) (a : Int32) (b : Int32) : Met l yX7_minutesFor (.code yX7_minutesFor cX7_minutesFor 2 (some .int) :: lw_good) ({ frames := 2, cells := 0, slots := 0, locals := 40 }) (va_Pc [.int a, .int b] (fun U => U.heap.size = sz)) (va_Qi (fun (r : Int32) (_ : Unit) => True) (fun (_ : Unit) (_ : State) => True) (fun q => sz ≤ q)) 0 0 (fun q => sz ≤ q) := by
  refine Met.ofW (cc := cX7_minutesFor) (maxL := 2) (ret := (some .int)) (by decide) rfl ?_
  intro p e s m args below meth c s₁ B hml hv
  obtain ⟨rfl, hsz⟩ := hv
  have hx := B.exec
  have hb := B.bytes
  have hr := B.returns
  have hts := atoms_spec (ws := (.code yX7_minutesFor cX7_minutesFor 2 (some .int) :: lw_good)) B.pre
  have htg : ∀ w ∈ lw_good, w.before _ s = true := fun w hw => hts w (List.mem_cons_of_mem _ hw)
  have hown : s.vm.findClass RX7 = some m.cls := findClass_of_methodNamed B.named
  have hlocks := B.notSynchronized
  subst hsz
  have hS : va_S (fun q => s.heap.size ≤ q) s.heap s.heap [] := va_S.rf
  have hl := lv_entry ([.int a, .int b]) (n := 2) (Nat.le_of_ble_eq_true rfl)
  rw [lg_entry_eq]
  generalize (lg_sl ([.int a, .int b]) ++ List.replicate (2 - (lg_sl ([.int a, .int b])).length) Slot.unset).toArray = ls at hl ⊢
  have hl : lv_has ls 2 [(0, .int a), (1, .int b)] := hl
  refine lv_iload_n hx hb dX7_minutesFor_0 rfl (lv_at hl 0 rfl) ?_
  refine lv_ldc hx hb hown (htg (.constant RX7 72 10000000) kw_5_112) dX7_minutesFor_1 ?_
  refine lv_icmp_lt (tgt := 11) hx hb dX7_minutesFor_3 (by decide) (fun c_1 => ?_) (fun c_1 => ?_)
  · skip
    have i_2 : (-2147483648) ≤ a.toInt ∧ a.toInt ≤ 9999999 := iv_lt1 (iv_any a) (⟨by decide, by decide⟩ : (10000000 : Int) ≤ (10000000 : Int32).toInt ∧ (10000000 : Int32).toInt ≤ 10000000) c_1
    refine lv_iload_n hx hb dX7_minutesFor_11 rfl (lv_at hl 0 rfl) ?_
    refine lv_iload_n hx hb dX7_minutesFor_12 rfl (lv_at hl 1 rfl) ?_
    refine lv_imul hx hb dX7_minutesFor_13 ?_
    refine lv_topi (fun v_3 ev_3 => ?_)
    refine lv_bipush (v := 9) hx hb dX7_minutesFor_14 (by decide) ?_
    refine lv_iadd hx hb dX7_minutesFor_16 ?_
    refine lv_topi (fun v_4 ev_4 => ?_)
    refine lv_bipush (v := 10) hx hb dX7_minutesFor_17 (by decide) ?_
    refine lv_idiv hx hb dX7_minutesFor_19 (by decide) ?_
    refine lv_topi (fun v_5 ev_5 => ?_)
    exact W.iret (v := v_5) hx hb hr (fun t ht hW => ⟨⟨v_5, (), rfl, trivial, trivial⟩, hS.F ht⟩) hS.2.2 dX7_minutesFor_20
  · skip
    have i_6 : 10000000 ≤ a.toInt ∧ a.toInt ≤ 2147483647 := iv_le2 (⟨by decide, by decide⟩ : (10000000 : Int) ≤ (10000000 : Int32).toInt ∧ (10000000 : Int32).toInt ≤ 10000000) (iv_any a) (Int32.not_lt.mp c_1)
    refine lv_ldc hx hb hown (htg (.constant RX7 72 10000000) kw_5_112) dX7_minutesFor_6 ?_
    refine lv_goto (tgt := 20) hx hb dX7_minutesFor_8 (by decide) ?_
    exact W.iret (v := 10000000) hx hb hr (fun t ht hW => ⟨⟨10000000, (), rfl, trivial, trivial⟩, hS.F ht⟩) hS.2.2 dX7_minutesFor_20
set_option maxHeartbeats 4000000 in
set_option maxRecDepth 100000 in
theorem x_plainValue (l : Launch) (sz : Nat) (z : Int32) (b : Int32) (h_z : 0 ≤ z.toInt ∧ z.toInt ≤ 1) : Met l yX7_plainValue (.code yX7_plainValue cX7_plainValue 2 (some .int) :: lw_good) ({ frames := 2, cells := 0, slots := 0, locals := 40 }) (va_Pc [.int z, .int b] (fun U => U.heap.size = sz)) (va_Qi (fun (r : Int32) (_ : Unit) => True) (fun (_ : Unit) (_ : State) => True) (fun q => sz ≤ q)) 0 0 (fun q => sz ≤ q) := by
  refine Met.ofW (cc := cX7_plainValue) (maxL := 2) (ret := (some .int)) (by decide) rfl ?_
  intro p e s m args below meth c s₁ B hml hv
  obtain ⟨rfl, hsz⟩ := hv
  have hx := B.exec
  have hb := B.bytes
  have hr := B.returns
  have hts := atoms_spec (ws := (.code yX7_plainValue cX7_plainValue 2 (some .int) :: lw_good)) B.pre
  have htg : ∀ w ∈ lw_good, w.before _ s = true := fun w hw => hts w (List.mem_cons_of_mem _ hw)
  have hown : s.vm.findClass RX7 = some m.cls := findClass_of_methodNamed B.named
  have hlocks := B.notSynchronized
  subst hsz
  have hS : va_S (fun q => s.heap.size ≤ q) s.heap s.heap [] := va_S.rf
  have hl := lv_entry ([.int z, .int b]) (n := 2) (Nat.le_of_ble_eq_true rfl)
  rw [lg_entry_eq]
  generalize (lg_sl ([.int z, .int b]) ++ List.replicate (2 - (lg_sl ([.int z, .int b])).length) Slot.unset).toArray = ls at hl ⊢
  have hl : lv_has ls 2 [(0, .int z), (1, .int b)] := hl
  refine lv_iload_n hx hb dX7_plainValue_0 rfl (lv_at hl 1 rfl) ?_
  rcases ix_sw_0_6 b with w_1 | w_1 | w_1 | w_1 | w_1 | w_1 | w_1 | w_1
  · skip
    refine lv_tableOut (tgt := 71) hx hb dX7_plainValue_1 (Or.inl w_1) (by decide) ?_
    refine lv_iconst (v := 0) hx hb dX7_plainValue_71 (by decide) ?_
    exact W.iret (v := 0) hx hb hr (fun t ht hW => ⟨⟨0, (), rfl, trivial, trivial⟩, hS.F ht⟩) hS.2.2 dX7_plainValue_72
  · skip
    refine lv_tableOut (tgt := 71) hx hb dX7_plainValue_1 (Or.inr w_1) (by decide) ?_
    refine lv_iconst (v := 0) hx hb dX7_plainValue_71 (by decide) ?_
    exact W.iret (v := 0) hx hb hr (fun t ht hW => ⟨⟨0, (), rfl, trivial, trivial⟩, hS.F ht⟩) hS.2.2 dX7_plainValue_72
  · skip
    refine lv_tableIn (off := 39) (tgt := 40) hx hb dX7_plainValue_1 (by rw [w_1]; decide) (by rw [w_1]; decide) (by rw [w_1]; rfl) (by decide) ?_
    refine lv_iconst (v := 1) hx hb dX7_plainValue_40 (by decide) ?_
    exact W.iret (v := 1) hx hb hr (fun t ht hW => ⟨⟨1, (), rfl, trivial, trivial⟩, hS.F ht⟩) hS.2.2 dX7_plainValue_41
  · skip
    refine lv_tableIn (off := 70) (tgt := 71) hx hb dX7_plainValue_1 (by rw [w_1]; decide) (by rw [w_1]; decide) (by rw [w_1]; rfl) (by decide) ?_
    refine lv_iconst (v := 0) hx hb dX7_plainValue_71 (by decide) ?_
    exact W.iret (v := 0) hx hb hr (fun t ht hW => ⟨⟨0, (), rfl, trivial, trivial⟩, hS.F ht⟩) hS.2.2 dX7_plainValue_72
  · skip
    refine lv_tableIn (off := 41) (tgt := 42) hx hb dX7_plainValue_1 (by rw [w_1]; decide) (by rw [w_1]; decide) (by rw [w_1]; rfl) (by decide) ?_
    refine lv_iload_n hx hb dX7_plainValue_42 rfl (lv_at hl 0 rfl) ?_
    refine lv_if_eq (tgt := 51) hx hb dX7_plainValue_43 (by decide) (fun c_2 => ?_) (fun c_2 => ?_)
    · skip
      have i_3 : 0 ≤ z.toInt ∧ z.toInt ≤ 0 := iv_eq1 (⟨by decide, by decide⟩ : (0 : Int) ≤ (0 : Int32).toInt ∧ (0 : Int32).toInt ≤ 0) c_2
      refine lv_iconst (v := 0) hx hb dX7_plainValue_51 (by decide) ?_
      exact W.iret (v := 0) hx hb hr (fun t ht hW => ⟨⟨0, (), rfl, trivial, trivial⟩, hS.F ht⟩) hS.2.2 dX7_plainValue_52
    · skip
      have i_4 : 1 ≤ z.toInt ∧ z.toInt ≤ 1 := iv_nel h_z (by decide) c_2
      refine lv_bipush (v := 10) hx hb dX7_plainValue_46 (by decide) ?_
      refine lv_goto (tgt := 52) hx hb dX7_plainValue_48 (by decide) ?_
      exact W.iret (v := 10) hx hb hr (fun t ht hW => ⟨⟨10, (), rfl, trivial, trivial⟩, hS.F ht⟩) hS.2.2 dX7_plainValue_52
  · skip
    refine lv_tableIn (off := 52) (tgt := 53) hx hb dX7_plainValue_1 (by rw [w_1]; decide) (by rw [w_1]; decide) (by rw [w_1]; rfl) (by decide) ?_
    refine lv_bipush (v := 15) hx hb dX7_plainValue_53 (by decide) ?_
    exact W.iret (v := 15) hx hb hr (fun t ht hW => ⟨⟨15, (), rfl, trivial, trivial⟩, hS.F ht⟩) hS.2.2 dX7_plainValue_55
  · skip
    refine lv_tableIn (off := 55) (tgt := 56) hx hb dX7_plainValue_1 (by rw [w_1]; decide) (by rw [w_1]; decide) (by rw [w_1]; rfl) (by decide) ?_
    refine lv_sipush (v := 500) hx hb dX7_plainValue_56 (by decide) ?_
    exact W.iret (v := 500) hx hb hr (fun t ht hW => ⟨⟨500, (), rfl, trivial, trivial⟩, hS.F ht⟩) hS.2.2 dX7_plainValue_59
  · skip
    refine lv_tableIn (off := 59) (tgt := 60) hx hb dX7_plainValue_1 (by rw [w_1]; decide) (by rw [w_1]; decide) (by rw [w_1]; rfl) (by decide) ?_
    refine lv_iload_n hx hb dX7_plainValue_60 rfl (lv_at hl 0 rfl) ?_
    refine lv_if_eq (tgt := 68) hx hb dX7_plainValue_61 (by decide) (fun c_5 => ?_) (fun c_5 => ?_)
    · skip
      have i_6 : 0 ≤ z.toInt ∧ z.toInt ≤ 0 := iv_eq1 (⟨by decide, by decide⟩ : (0 : Int) ≤ (0 : Int32).toInt ∧ (0 : Int32).toInt ≤ 0) c_5
      refine lv_bipush (v := 20) hx hb dX7_plainValue_68 (by decide) ?_
      exact W.iret (v := 20) hx hb hr (fun t ht hW => ⟨⟨20, (), rfl, trivial, trivial⟩, hS.F ht⟩) hS.2.2 dX7_plainValue_70
    · skip
      have i_7 : 1 ≤ z.toInt ∧ z.toInt ≤ 1 := iv_nel h_z (by decide) c_5
      refine lv_iconst (v := 0) hx hb dX7_plainValue_64 (by decide) ?_
      refine lv_goto (tgt := 70) hx hb dX7_plainValue_65 (by decide) ?_
      exact W.iret (v := 0) hx hb hr (fun t ht hW => ⟨⟨0, (), rfl, trivial, trivial⟩, hS.F ht⟩) hS.2.2 dX7_plainValue_70
set_option maxHeartbeats 4000000 in
set_option maxRecDepth 100000 in
theorem x_bitCount (l : Launch) (sz : Nat) (w0 : Int64) : Met l yJ13_bitCount_95d88 (.code yJ13_bitCount_95d88 cJ13_bitCount_95d88 2 (some .int) :: lw_good) ({ frames := 2, cells := 0, slots := 0, locals := 40 }) (va_Pc [.long w0] (fun U => U.heap.size = sz)) (va_Qi (fun (r : Int32) (_ : Unit) => True) (fun (_ : Unit) (_ : State) => True) (fun q => sz ≤ q)) 0 0 (fun q => sz ≤ q) := by
  refine Met.ofW (cc := cJ13_bitCount_95d88) (maxL := 2) (ret := (some .int)) (by decide) rfl ?_
  intro p e s m args below meth c s₁ B hml hv
  obtain ⟨rfl, hsz⟩ := hv
  have hx := B.exec
  have hb := B.bytes
  have hr := B.returns
  have hts := atoms_spec (ws := (.code yJ13_bitCount_95d88 cJ13_bitCount_95d88 2 (some .int) :: lw_good)) B.pre
  have htg : ∀ w ∈ lw_good, w.before _ s = true := fun w hw => hts w (List.mem_cons_of_mem _ hw)
  have hown : s.vm.findClass RJ13 = some m.cls := findClass_of_methodNamed B.named
  have hlocks := B.notSynchronized
  subst hsz
  have hS : va_S (fun q => s.heap.size ≤ q) s.heap s.heap [] := va_S.rf
  have hl := lv_entry ([.long w0]) (n := 2) (Nat.le_of_ble_eq_true rfl)
  rw [lg_entry_eq]
  generalize (lg_sl ([.long w0]) ++ List.replicate (2 - (lg_sl ([.long w0])).length) Slot.unset).toArray = ls at hl ⊢
  have hl : lv_has ls 2 [(0, .long w0)] := hl
  refine lv_lload_n hx hb dJ13_bitCount_95d88_0 rfl (lv_at hl 0 rfl) ?_
  refine lv_lload_n hx hb dJ13_bitCount_95d88_1 rfl (lv_at hl 0 rfl) ?_
  refine lv_iconst (v := 1) hx hb dJ13_bitCount_95d88_2 (by decide) ?_
  refine lv_lushr hx hb dJ13_bitCount_95d88_3 rfl ?_
  refine lv_topl (fun w_1 _ => ?_)
  refine lv_ldc2 (v := 6148914691236517205) hx hb hown (htg (.constantLong RJ13 314 6148914691236517205) kw_6_40) dJ13_bitCount_95d88_4 ?_
  refine lv_land hx hb dJ13_bitCount_95d88_7 ?_
  refine lv_topl (fun w_2 _ => ?_)
  refine lv_lsub hx hb dJ13_bitCount_95d88_8 ?_
  refine lv_topl (fun w_3 _ => ?_)
  refine lv_lstore_n (lv' := [(0, .long w_3)]) hx hb dJ13_bitCount_95d88_9 rfl hl (by decide) rfl (fun ls hl => ?_)
  refine lv_lload_n hx hb dJ13_bitCount_95d88_10 rfl (lv_at hl 0 rfl) ?_
  refine lv_ldc2 (v := 3689348814741910323) hx hb hown (htg (.constantLong RJ13 316 3689348814741910323) kw_6_41) dJ13_bitCount_95d88_11 ?_
  refine lv_land hx hb dJ13_bitCount_95d88_14 ?_
  refine lv_topl (fun w_4 _ => ?_)
  refine lv_lload_n hx hb dJ13_bitCount_95d88_15 rfl (lv_at hl 0 rfl) ?_
  refine lv_iconst (v := 2) hx hb dJ13_bitCount_95d88_16 (by decide) ?_
  refine lv_lushr hx hb dJ13_bitCount_95d88_17 rfl ?_
  refine lv_topl (fun w_5 _ => ?_)
  refine lv_ldc2 (v := 3689348814741910323) hx hb hown (htg (.constantLong RJ13 316 3689348814741910323) kw_6_41) dJ13_bitCount_95d88_18 ?_
  refine lv_land hx hb dJ13_bitCount_95d88_21 ?_
  refine lv_topl (fun w_6 _ => ?_)
  refine lv_ladd hx hb dJ13_bitCount_95d88_22 ?_
  refine lv_topl (fun w_7 _ => ?_)
  refine lv_lstore_n (lv' := [(0, .long w_7)]) hx hb dJ13_bitCount_95d88_23 rfl hl (by decide) rfl (fun ls hl => ?_)
  refine lv_lload_n hx hb dJ13_bitCount_95d88_24 rfl (lv_at hl 0 rfl) ?_
  refine lv_lload_n hx hb dJ13_bitCount_95d88_25 rfl (lv_at hl 0 rfl) ?_
  refine lv_iconst (v := 4) hx hb dJ13_bitCount_95d88_26 (by decide) ?_
  refine lv_lushr hx hb dJ13_bitCount_95d88_27 rfl ?_
  refine lv_topl (fun w_8 _ => ?_)
  refine lv_ladd hx hb dJ13_bitCount_95d88_28 ?_
  refine lv_topl (fun w_9 _ => ?_)
  refine lv_ldc2 (v := 1085102592571150095) hx hb hown (htg (.constantLong RJ13 318 1085102592571150095) kw_6_42) dJ13_bitCount_95d88_29 ?_
  refine lv_land hx hb dJ13_bitCount_95d88_32 ?_
  refine lv_topl (fun w_10 _ => ?_)
  refine lv_lstore_n (lv' := [(0, .long w_10)]) hx hb dJ13_bitCount_95d88_33 rfl hl (by decide) rfl (fun ls hl => ?_)
  refine lv_lload_n hx hb dJ13_bitCount_95d88_34 rfl (lv_at hl 0 rfl) ?_
  refine lv_lload_n hx hb dJ13_bitCount_95d88_35 rfl (lv_at hl 0 rfl) ?_
  refine lv_bipush (v := 8) hx hb dJ13_bitCount_95d88_36 (by decide) ?_
  refine lv_lushr hx hb dJ13_bitCount_95d88_38 rfl ?_
  refine lv_topl (fun w_11 _ => ?_)
  refine lv_ladd hx hb dJ13_bitCount_95d88_39 ?_
  refine lv_topl (fun w_12 _ => ?_)
  refine lv_lstore_n (lv' := [(0, .long w_12)]) hx hb dJ13_bitCount_95d88_40 rfl hl (by decide) rfl (fun ls hl => ?_)
  refine lv_lload_n hx hb dJ13_bitCount_95d88_41 rfl (lv_at hl 0 rfl) ?_
  refine lv_lload_n hx hb dJ13_bitCount_95d88_42 rfl (lv_at hl 0 rfl) ?_
  refine lv_bipush (v := 16) hx hb dJ13_bitCount_95d88_43 (by decide) ?_
  refine lv_lushr hx hb dJ13_bitCount_95d88_45 rfl ?_
  refine lv_topl (fun w_13 _ => ?_)
  refine lv_ladd hx hb dJ13_bitCount_95d88_46 ?_
  refine lv_topl (fun w_14 _ => ?_)
  refine lv_lstore_n (lv' := [(0, .long w_14)]) hx hb dJ13_bitCount_95d88_47 rfl hl (by decide) rfl (fun ls hl => ?_)
  refine lv_lload_n hx hb dJ13_bitCount_95d88_48 rfl (lv_at hl 0 rfl) ?_
  refine lv_lload_n hx hb dJ13_bitCount_95d88_49 rfl (lv_at hl 0 rfl) ?_
  refine lv_bipush (v := 32) hx hb dJ13_bitCount_95d88_50 (by decide) ?_
  refine lv_lushr hx hb dJ13_bitCount_95d88_52 rfl ?_
  refine lv_topl (fun w_15 _ => ?_)
  refine lv_ladd hx hb dJ13_bitCount_95d88_53 ?_
  refine lv_topl (fun w_16 _ => ?_)
  refine lv_lstore_n (lv' := [(0, .long w_16)]) hx hb dJ13_bitCount_95d88_54 rfl hl (by decide) rfl (fun ls hl => ?_)
  refine lv_lload_n hx hb dJ13_bitCount_95d88_55 rfl (lv_at hl 0 rfl) ?_
  refine lv_l2i hx hb dJ13_bitCount_95d88_56 rfl ?_
  refine lv_topi (fun v_17 ev_17 => ?_)
  refine lv_bipush (v := 127) hx hb dJ13_bitCount_95d88_57 (by decide) ?_
  refine lv_iand hx hb dJ13_bitCount_95d88_59 ?_
  refine lv_topi (fun v_18 ev_18 => ?_)
  exact W.iret (v := v_18) hx hb hr (fun t ht hW => ⟨⟨v_18, (), rfl, trivial, trivial⟩, hS.F ht⟩) hS.2.2 dJ13_bitCount_95d88_60
set_option maxHeartbeats 4000000 in
set_option maxRecDepth 100000 in
theorem x_people_has (l : Launch) (dC : Nat → ClassId) (dI : Nat → Nat → Nat) (sz : Nat) (ob ad : Nat → Nat) (cA : Nat → ClassId) (hd : dX ob ad) (fv : Nat → Int32) (wd : xT) (ar : Nat → Nat → Int32) (hF_fv : rX fv) (hA_ar : rB ar) (v : Int32) : Met l yX2_has (.code yX2_has cX2_has 2 (some .boolean) :: lw_good) ({ frames := 2, cells := 0, slots := 0, locals := 40 }) (va_Pc [.ref (ob 3), .int v] (prX dC dI ob ad cA fv wd ar sz)) (va_Qi (fun (r : Int32) (u : xS) => rX u.1 ∧ rB u.2.2 ∧ fM [] fv u.1 ∧ fA [] ar u.2.2 ∧ u.2.1.2 = wd.2 ∧ (0 ≤ r.toInt ∧ r.toInt ≤ 1) ∧ ((r = 0 ∧ True) ∨ (r = 1 ∧ (0 ≤ v.toInt) ∧ (v.toInt ≤ 39))) ∧ True) (enX dC dI ob ad cA) (aX ob ad sz)) 0 0 (aX ob ad sz) := by
  refine Met.ofW (cc := cX2_has) (maxL := 2) (ret := (some .boolean)) (by decide) rfl ?_
  intro p e s m args below meth c s₁ B hml hv
  obtain ⟨rfl, hsz, hP, hK⟩ := hv
  have hx := B.exec
  have hb := B.bytes
  have hr := B.returns
  have hts := atoms_spec (ws := (.code yX2_has cX2_has 2 (some .boolean) :: lw_good)) B.pre
  have htg : ∀ w ∈ lw_good, w.before _ s = true := fun w hw => hts w (List.mem_cons_of_mem _ hw)
  have hown : s.vm.findClass RX2 = some m.cls := findClass_of_methodNamed B.named
  have hlocks := B.notSynchronized
  subst hsz
  have hS : va_S (aX ob ad s.heap.size) s.heap s.heap [] := va_S.rf
  have hl := lv_entry ([.ref (ob 3), .int v]) (n := 2) (Nat.le_of_ble_eq_true rfl)
  rw [lg_entry_eq]
  generalize (lg_sl ([.ref (ob 3), .int v]) ++ List.replicate (2 - (lg_sl ([.ref (ob 3), .int v])).length) Slot.unset).toArray = ls at hl ⊢
  have hl : lv_has ls 2 [(0, .ref (ob 3)), (1, .int v)] := hl
  refine lv_iload_n hx hb dX2_has_0 rfl (lv_at hl 1 rfl) ?_
  refine lv_if_lt (tgt := 16) hx hb dX2_has_1 (by decide) (fun c_1 => ?_) (fun c_1 => ?_)
  · skip
    have i_2 : (-2147483648) ≤ v.toInt ∧ v.toInt ≤ (-1) := iv_lt1 (iv_any v) (⟨by decide, by decide⟩ : (0 : Int) ≤ (0 : Int32).toInt ∧ (0 : Int32).toInt ≤ 0) c_1
    refine lv_iconst (v := 0) hx hb dX2_has_16 (by decide) ?_
    exact W.zret (v := 0) hx hb hr (by decide) (fun t ht hW => ⟨⟨0, (fv, wd, ar), rfl, ⟨hF_fv, hA_ar, (fM_rf [] _), (fA_rf [] _), rfl, (iv_w (⟨by decide, by decide⟩ : (0 : Int) ≤ (0 : Int32).toInt ∧ (0 : Int32).toInt ≤ 0) (by decide) (by decide)), (Or.inl ⟨rfl, trivial⟩), trivial⟩, ⟨by rw [ht]; exact hP, va_K.moved hW.alike hK⟩⟩, hS.F ht⟩) hS.2.2 dX2_has_17
  · skip
    have i_3 : 0 ≤ v.toInt ∧ v.toInt ≤ 2147483647 := iv_le2 (⟨by decide, by decide⟩ : (0 : Int) ≤ (0 : Int32).toInt ∧ (0 : Int32).toInt ≤ 0) (iv_any v) (Int32.not_lt.mp c_1)
    refine lv_iload_n hx hb dX2_has_4 rfl (lv_at hl 1 rfl) ?_
    refine lv_aload_n hx hb dX2_has_5 rfl (lv_at hl 0 rfl) ?_
    refine gX_X2_54 hx hb htg hown hK hP dX2_has_6 ?_
    have i_4 : 0 ≤ (fv 10).toInt ∧ (fv 10).toInt ≤ 40 := hF_fv 10
    refine lv_icmp_ge (tgt := 16) hx hb dX2_has_9 (by decide) (fun c_5 => ?_) (fun c_5 => ?_)
    · skip
      refine lv_iconst (v := 0) hx hb dX2_has_16 (by decide) ?_
      exact W.zret (v := 0) hx hb hr (by decide) (fun t ht hW => ⟨⟨0, (fv, wd, ar), rfl, ⟨hF_fv, hA_ar, (fM_rf [] _), (fA_rf [] _), rfl, (iv_w (⟨by decide, by decide⟩ : (0 : Int) ≤ (0 : Int32).toInt ∧ (0 : Int32).toInt ≤ 0) (by decide) (by decide)), (Or.inl ⟨rfl, trivial⟩), trivial⟩, ⟨by rw [ht]; exact hP, va_K.moved hW.alike hK⟩⟩, hS.F ht⟩) hS.2.2 dX2_has_17
    · skip
      have i_6 : 0 ≤ v.toInt ∧ v.toInt ≤ 39 := iv_lt1 i_3 i_4 (Int32.not_le.mp c_5)
      have i_7 : 1 ≤ (fv 10).toInt ∧ (fv 10).toInt ≤ 40 := iv_lt2 i_3 i_4 (Int32.not_le.mp c_5)
      refine lv_iconst (v := 1) hx hb dX2_has_12 (by decide) ?_
      refine lv_goto (tgt := 17) hx hb dX2_has_13 (by decide) ?_
      exact W.zret (v := 1) hx hb hr (by decide) (fun t ht hW => ⟨⟨1, (fv, wd, ar), rfl, ⟨hF_fv, hA_ar, (fM_rf [] _), (fA_rf [] _), rfl, (iv_w (⟨by decide, by decide⟩ : (1 : Int) ≤ (1 : Int32).toInt ∧ (1 : Int32).toInt ≤ 1) (by decide) (by decide)), (Or.inr (⟨rfl, by omega⟩)), trivial⟩, ⟨by rw [ht]; exact hP, va_K.moved hW.alike hK⟩⟩, hS.F ht⟩) hS.2.2 dX2_has_17
set_option maxHeartbeats 4000000 in
set_option maxRecDepth 100000 in
theorem x_wheels_has (l : Launch) (dC : Nat → ClassId) (dI : Nat → Nat → Nat) (sz : Nat) (ob ad : Nat → Nat) (cA : Nat → ClassId) (hd : dX ob ad) (fv : Nat → Int32) (wd : xT) (ar : Nat → Nat → Int32) (hF_fv : rX fv) (hA_ar : rB ar) (v : Int32) : Met l yX10_has (.code yX10_has cX10_has 2 (some .boolean) :: lw_good) ({ frames := 2, cells := 0, slots := 0, locals := 40 }) (va_Pc [.ref (ob 4), .int v] (prX dC dI ob ad cA fv wd ar sz)) (va_Qi (fun (r : Int32) (u : xS) => rX u.1 ∧ rB u.2.2 ∧ fM [] fv u.1 ∧ fA [] ar u.2.2 ∧ u.2.1.2 = wd.2 ∧ (0 ≤ r.toInt ∧ r.toInt ≤ 1) ∧ ((r = 0 ∧ True) ∨ (r = 1 ∧ (0 ≤ v.toInt) ∧ (v.toInt ≤ 19))) ∧ True) (enX dC dI ob ad cA) (aX ob ad sz)) 0 0 (aX ob ad sz) := by
  refine Met.ofW (cc := cX10_has) (maxL := 2) (ret := (some .boolean)) (by decide) rfl ?_
  intro p e s m args below meth c s₁ B hml hv
  obtain ⟨rfl, hsz, hP, hK⟩ := hv
  have hx := B.exec
  have hb := B.bytes
  have hr := B.returns
  have hts := atoms_spec (ws := (.code yX10_has cX10_has 2 (some .boolean) :: lw_good)) B.pre
  have htg : ∀ w ∈ lw_good, w.before _ s = true := fun w hw => hts w (List.mem_cons_of_mem _ hw)
  have hown : s.vm.findClass RX10 = some m.cls := findClass_of_methodNamed B.named
  have hlocks := B.notSynchronized
  subst hsz
  have hS : va_S (aX ob ad s.heap.size) s.heap s.heap [] := va_S.rf
  have hl := lv_entry ([.ref (ob 4), .int v]) (n := 2) (Nat.le_of_ble_eq_true rfl)
  rw [lg_entry_eq]
  generalize (lg_sl ([.ref (ob 4), .int v]) ++ List.replicate (2 - (lg_sl ([.ref (ob 4), .int v])).length) Slot.unset).toArray = ls at hl ⊢
  have hl : lv_has ls 2 [(0, .ref (ob 4)), (1, .int v)] := hl
  refine lv_iload_n hx hb dX10_has_0 rfl (lv_at hl 1 rfl) ?_
  refine lv_if_lt (tgt := 16) hx hb dX10_has_1 (by decide) (fun c_1 => ?_) (fun c_1 => ?_)
  · skip
    have i_2 : (-2147483648) ≤ v.toInt ∧ v.toInt ≤ (-1) := iv_lt1 (iv_any v) (⟨by decide, by decide⟩ : (0 : Int) ≤ (0 : Int32).toInt ∧ (0 : Int32).toInt ≤ 0) c_1
    refine lv_iconst (v := 0) hx hb dX10_has_16 (by decide) ?_
    exact W.zret (v := 0) hx hb hr (by decide) (fun t ht hW => ⟨⟨0, (fv, wd, ar), rfl, ⟨hF_fv, hA_ar, (fM_rf [] _), (fA_rf [] _), rfl, (iv_w (⟨by decide, by decide⟩ : (0 : Int) ≤ (0 : Int32).toInt ∧ (0 : Int32).toInt ≤ 0) (by decide) (by decide)), (Or.inl ⟨rfl, trivial⟩), trivial⟩, ⟨by rw [ht]; exact hP, va_K.moved hW.alike hK⟩⟩, hS.F ht⟩) hS.2.2 dX10_has_17
  · skip
    have i_3 : 0 ≤ v.toInt ∧ v.toInt ≤ 2147483647 := iv_le2 (⟨by decide, by decide⟩ : (0 : Int) ≤ (0 : Int32).toInt ∧ (0 : Int32).toInt ≤ 0) (iv_any v) (Int32.not_lt.mp c_1)
    refine lv_iload_n hx hb dX10_has_4 rfl (lv_at hl 1 rfl) ?_
    refine lv_aload_n hx hb dX10_has_5 rfl (lv_at hl 0 rfl) ?_
    refine gX_X10_36 hx hb htg hown hK hP dX10_has_6 ?_
    have i_4 : 0 ≤ (fv 11).toInt ∧ (fv 11).toInt ≤ 20 := hF_fv 11
    refine lv_icmp_ge (tgt := 16) hx hb dX10_has_9 (by decide) (fun c_5 => ?_) (fun c_5 => ?_)
    · skip
      refine lv_iconst (v := 0) hx hb dX10_has_16 (by decide) ?_
      exact W.zret (v := 0) hx hb hr (by decide) (fun t ht hW => ⟨⟨0, (fv, wd, ar), rfl, ⟨hF_fv, hA_ar, (fM_rf [] _), (fA_rf [] _), rfl, (iv_w (⟨by decide, by decide⟩ : (0 : Int) ≤ (0 : Int32).toInt ∧ (0 : Int32).toInt ≤ 0) (by decide) (by decide)), (Or.inl ⟨rfl, trivial⟩), trivial⟩, ⟨by rw [ht]; exact hP, va_K.moved hW.alike hK⟩⟩, hS.F ht⟩) hS.2.2 dX10_has_17
    · skip
      have i_6 : 0 ≤ v.toInt ∧ v.toInt ≤ 19 := iv_lt1 i_3 i_4 (Int32.not_le.mp c_5)
      have i_7 : 1 ≤ (fv 11).toInt ∧ (fv 11).toInt ≤ 20 := iv_lt2 i_3 i_4 (Int32.not_le.mp c_5)
      refine lv_iconst (v := 1) hx hb dX10_has_12 (by decide) ?_
      refine lv_goto (tgt := 17) hx hb dX10_has_13 (by decide) ?_
      exact W.zret (v := 1) hx hb hr (by decide) (fun t ht hW => ⟨⟨1, (fv, wd, ar), rfl, ⟨hF_fv, hA_ar, (fM_rf [] _), (fA_rf [] _), rfl, (iv_w (⟨by decide, by decide⟩ : (1 : Int) ≤ (1 : Int32).toInt ∧ (1 : Int32).toInt ≤ 1) (by decide) (by decide)), (Or.inr (⟨rfl, by omega⟩)), trivial⟩, ⟨by rw [ht]; exact hP, va_K.moved hW.alike hK⟩⟩, hS.F ht⟩) hS.2.2 dX10_has_17
set_option maxHeartbeats 4000000 in
set_option maxRecDepth 100000 in
theorem x_trips_has (l : Launch) (dC : Nat → ClassId) (dI : Nat → Nat → Nat) (sz : Nat) (ob ad : Nat → Nat) (cA : Nat → ClassId) (hd : dX ob ad) (fv : Nat → Int32) (wd : xT) (ar : Nat → Nat → Int32) (hF_fv : rX fv) (hA_ar : rB ar) (v : Int32) : Met l yX8_has (.code yX8_has cX8_has 2 (some .boolean) :: lw_good) ({ frames := 2, cells := 0, slots := 0, locals := 40 }) (va_Pc [.ref (ob 5), .int v] (prX dC dI ob ad cA fv wd ar sz)) (va_Qi (fun (r : Int32) (u : xS) => rX u.1 ∧ rB u.2.2 ∧ fM [] fv u.1 ∧ fA [] ar u.2.2 ∧ u.2.1.2 = wd.2 ∧ (0 ≤ r.toInt ∧ r.toInt ≤ 1) ∧ ((r = 0 ∧ True) ∨ (r = 1 ∧ (0 ≤ v.toInt) ∧ (v.toInt ≤ 79))) ∧ True) (enX dC dI ob ad cA) (aX ob ad sz)) 0 0 (aX ob ad sz) := by
  refine Met.ofW (cc := cX8_has) (maxL := 2) (ret := (some .boolean)) (by decide) rfl ?_
  intro p e s m args below meth c s₁ B hml hv
  obtain ⟨rfl, hsz, hP, hK⟩ := hv
  have hx := B.exec
  have hb := B.bytes
  have hr := B.returns
  have hts := atoms_spec (ws := (.code yX8_has cX8_has 2 (some .boolean) :: lw_good)) B.pre
  have htg : ∀ w ∈ lw_good, w.before _ s = true := fun w hw => hts w (List.mem_cons_of_mem _ hw)
  have hown : s.vm.findClass RX8 = some m.cls := findClass_of_methodNamed B.named
  have hlocks := B.notSynchronized
  subst hsz
  have hS : va_S (aX ob ad s.heap.size) s.heap s.heap [] := va_S.rf
  have hl := lv_entry ([.ref (ob 5), .int v]) (n := 2) (Nat.le_of_ble_eq_true rfl)
  rw [lg_entry_eq]
  generalize (lg_sl ([.ref (ob 5), .int v]) ++ List.replicate (2 - (lg_sl ([.ref (ob 5), .int v])).length) Slot.unset).toArray = ls at hl ⊢
  have hl : lv_has ls 2 [(0, .ref (ob 5)), (1, .int v)] := hl
  refine lv_iload_n hx hb dX8_has_0 rfl (lv_at hl 1 rfl) ?_
  refine lv_if_lt (tgt := 16) hx hb dX8_has_1 (by decide) (fun c_1 => ?_) (fun c_1 => ?_)
  · skip
    have i_2 : (-2147483648) ≤ v.toInt ∧ v.toInt ≤ (-1) := iv_lt1 (iv_any v) (⟨by decide, by decide⟩ : (0 : Int) ≤ (0 : Int32).toInt ∧ (0 : Int32).toInt ≤ 0) c_1
    refine lv_iconst (v := 0) hx hb dX8_has_16 (by decide) ?_
    exact W.zret (v := 0) hx hb hr (by decide) (fun t ht hW => ⟨⟨0, (fv, wd, ar), rfl, ⟨hF_fv, hA_ar, (fM_rf [] _), (fA_rf [] _), rfl, (iv_w (⟨by decide, by decide⟩ : (0 : Int) ≤ (0 : Int32).toInt ∧ (0 : Int32).toInt ≤ 0) (by decide) (by decide)), (Or.inl ⟨rfl, trivial⟩), trivial⟩, ⟨by rw [ht]; exact hP, va_K.moved hW.alike hK⟩⟩, hS.F ht⟩) hS.2.2 dX8_has_17
  · skip
    have i_3 : 0 ≤ v.toInt ∧ v.toInt ≤ 2147483647 := iv_le2 (⟨by decide, by decide⟩ : (0 : Int) ≤ (0 : Int32).toInt ∧ (0 : Int32).toInt ≤ 0) (iv_any v) (Int32.not_lt.mp c_1)
    refine lv_iload_n hx hb dX8_has_4 rfl (lv_at hl 1 rfl) ?_
    refine lv_aload_n hx hb dX8_has_5 rfl (lv_at hl 0 rfl) ?_
    refine gX_X8_36 hx hb htg hown hK hP dX8_has_6 ?_
    have i_4 : 0 ≤ (fv 12).toInt ∧ (fv 12).toInt ≤ 80 := hF_fv 12
    refine lv_icmp_ge (tgt := 16) hx hb dX8_has_9 (by decide) (fun c_5 => ?_) (fun c_5 => ?_)
    · skip
      refine lv_iconst (v := 0) hx hb dX8_has_16 (by decide) ?_
      exact W.zret (v := 0) hx hb hr (by decide) (fun t ht hW => ⟨⟨0, (fv, wd, ar), rfl, ⟨hF_fv, hA_ar, (fM_rf [] _), (fA_rf [] _), rfl, (iv_w (⟨by decide, by decide⟩ : (0 : Int) ≤ (0 : Int32).toInt ∧ (0 : Int32).toInt ≤ 0) (by decide) (by decide)), (Or.inl ⟨rfl, trivial⟩), trivial⟩, ⟨by rw [ht]; exact hP, va_K.moved hW.alike hK⟩⟩, hS.F ht⟩) hS.2.2 dX8_has_17
    · skip
      have i_6 : 0 ≤ v.toInt ∧ v.toInt ≤ 79 := iv_lt1 i_3 i_4 (Int32.not_le.mp c_5)
      have i_7 : 1 ≤ (fv 12).toInt ∧ (fv 12).toInt ≤ 80 := iv_lt2 i_3 i_4 (Int32.not_le.mp c_5)
      refine lv_iconst (v := 1) hx hb dX8_has_12 (by decide) ?_
      refine lv_goto (tgt := 17) hx hb dX8_has_13 (by decide) ?_
      exact W.zret (v := 1) hx hb hr (by decide) (fun t ht hW => ⟨⟨1, (fv, wd, ar), rfl, ⟨hF_fv, hA_ar, (fM_rf [] _), (fA_rf [] _), rfl, (iv_w (⟨by decide, by decide⟩ : (1 : Int) ≤ (1 : Int32).toInt ∧ (1 : Int32).toInt ≤ 1) (by decide) (by decide)), (Or.inr (⟨rfl, by omega⟩)), trivial⟩, ⟨by rw [ht]; exact hP, va_K.moved hW.alike hK⟩⟩, hS.F ht⟩) hS.2.2 dX8_has_17
set_option maxHeartbeats 4000000 in
set_option maxRecDepth 100000 in
theorem x_rainOn (l : Launch) (dC : Nat → ClassId) (dI : Nat → Nat → Nat) (sz : Nat) (ob ad : Nat → Nat) (cA : Nat → ClassId) (hd : dX ob ad) (fv : Nat → Int32) (wd : xT) (ar : Nat → Nat → Int32) (hF_fv : rX fv) (hA_ar : rB ar) (dd : Int32) (h_dd : 0 ≤ dd.toInt ∧ dd.toInt ≤ 199) : Met l yX7_rainOn (.code yX7_rainOn cX7_rainOn 2 (some .int) :: lw_good) ({ frames := 2, cells := 0, slots := 0, locals := 40 }) (va_Pc [.ref (ob 1), .int dd] (prX dC dI ob ad cA fv wd ar sz)) (va_Qi (fun (r : Int32) (u : xS) => rX u.1 ∧ rB u.2.2 ∧ fM [] fv u.1 ∧ fA [] ar u.2.2 ∧ u.2.1.2 = wd.2 ∧ True) (enX dC dI ob ad cA) (aX ob ad sz)) 0 0 (aX ob ad sz) := by
  refine Met.ofW (cc := cX7_rainOn) (maxL := 2) (ret := (some .int)) (by decide) rfl ?_
  intro p e s m args below meth c s₁ B hml hv
  obtain ⟨rfl, hsz, hP, hK⟩ := hv
  have hx := B.exec
  have hb := B.bytes
  have hr := B.returns
  have hts := atoms_spec (ws := (.code yX7_rainOn cX7_rainOn 2 (some .int) :: lw_good)) B.pre
  have htg : ∀ w ∈ lw_good, w.before _ s = true := fun w hw => hts w (List.mem_cons_of_mem _ hw)
  have hown : s.vm.findClass RX7 = some m.cls := findClass_of_methodNamed B.named
  have hlocks := B.notSynchronized
  subst hsz
  have hS : va_S (aX ob ad s.heap.size) s.heap s.heap [] := va_S.rf
  have hl := lv_entry ([.ref (ob 1), .int dd]) (n := 2) (Nat.le_of_ble_eq_true rfl)
  rw [lg_entry_eq]
  generalize (lg_sl ([.ref (ob 1), .int dd]) ++ List.replicate (2 - (lg_sl ([.ref (ob 1), .int dd])).length) Slot.unset).toArray = ls at hl ⊢
  have hl : lv_has ls 2 [(0, .ref (ob 1)), (1, .int dd)] := hl
  refine lv_aload_n hx hb dX7_rainOn_0 rfl (lv_at hl 0 rfl) ?_
  refine gX_X7_69 hx hb htg hown hK hP dX7_rainOn_1 ?_
  have i_1 : 0 ≤ (fv 5).toInt ∧ (fv 5).toInt ≤ 200 := hF_fv 5
  refine lv_if_ne (tgt := 9) hx hb dX7_rainOn_4 (by decide) (fun c_2 => ?_) (fun c_2 => ?_)
  · skip
    have i_3 : 1 ≤ (fv 5).toInt ∧ (fv 5).toInt ≤ 200 := iv_nel i_1 (by decide) c_2
    refine lv_iload_n hx hb dX7_rainOn_9 rfl (lv_at hl 1 rfl) ?_
    refine lv_aload_n hx hb dX7_rainOn_10 rfl (lv_at hl 0 rfl) ?_
    refine gX_X7_69 hx hb htg hown hK hP dX7_rainOn_11 ?_
    refine lv_icmp_ge (tgt := 26) hx hb dX7_rainOn_14 (by decide) (fun c_4 => ?_) (fun c_4 => ?_)
    · skip
      have i_5 : 1 ≤ (fv 5).toInt ∧ (fv 5).toInt ≤ 199 := iv_le1 i_3 h_dd c_4
      have i_6 : 1 ≤ dd.toInt ∧ dd.toInt ≤ 199 := iv_le2 i_3 h_dd c_4
      refine lv_bipush (v := 9) hx hb dX7_rainOn_26 (by decide) ?_
      exact W.iret (v := 9) hx hb hr (fun t ht hW => ⟨⟨9, (fv, wd, ar), rfl, ⟨hF_fv, hA_ar, (fM_rf [] _), (fA_rf [] _), rfl, trivial⟩, ⟨by rw [ht]; exact hP, va_K.moved hW.alike hK⟩⟩, hS.F ht⟩) hS.2.2 dX7_rainOn_28
    · skip
      refine lv_aload_n hx hb dX7_rainOn_17 rfl (lv_at hl 0 rfl) ?_
      refine gX_X7_59 hx hb htg hown hK hP dX7_rainOn_18 ?_
      refine lv_iload_n hx hb dX7_rainOn_21 rfl (lv_at hl 1 rfl) ?_
      refine lX_3 hx hb hK hP (iv_in h_dd (by decide) (by decide)) dX7_rainOn_22 (fun v_7 ev_7 => ?_)
      refine lv_goto (tgt := 28) hx hb dX7_rainOn_23 (by decide) ?_
      exact W.iret (v := v_7) hx hb hr (fun t ht hW => ⟨⟨v_7, (fv, wd, ar), rfl, ⟨hF_fv, hA_ar, (fM_rf [] _), (fA_rf [] _), rfl, trivial⟩, ⟨by rw [ht]; exact hP, va_K.moved hW.alike hK⟩⟩, hS.F ht⟩) hS.2.2 dX7_rainOn_28
  · skip
    have i_8 : 0 ≤ (fv 5).toInt ∧ (fv 5).toInt ≤ 0 := iv_eq1 (⟨by decide, by decide⟩ : (0 : Int) ≤ (0 : Int32).toInt ∧ (0 : Int32).toInt ≤ 0) c_2
    refine lv_iconst (v := 0) hx hb dX7_rainOn_7 (by decide) ?_
    exact W.iret (v := 0) hx hb hr (fun t ht hW => ⟨⟨0, (fv, wd, ar), rfl, ⟨hF_fv, hA_ar, (fM_rf [] _), (fA_rf [] _), rfl, trivial⟩, ⟨by rw [ht]; exact hP, va_K.moved hW.alike hK⟩⟩, hS.F ht⟩) hS.2.2 dX7_rainOn_8
set_option maxHeartbeats 4000000 in
set_option maxRecDepth 100000 in
theorem x_between (l : Launch) (dC : Nat → ClassId) (dI : Nat → Nat → Nat) (sz : Nat) (ob ad : Nat → Nat) (cA : Nat → ClassId) (hd : dX ob ad) (fv : Nat → Int32) (wd : xT) (ar : Nat → Nat → Int32) (hF_fv : rX fv) (hA_ar : rB ar) (a : Int32) (b : Int32) : Met l yX4_between (.code yX4_between cX4_between 3 (some .int) :: lw_good) ({ frames := 2, cells := 0, slots := 0, locals := 40 }) (va_Pc [.ref (ob 2), .int a, .int b] (prX dC dI ob ad cA fv wd ar sz)) (va_Qi (fun (r : Int32) (u : xS) => rX u.1 ∧ rB u.2.2 ∧ fM [] fv u.1 ∧ fA [] ar u.2.2 ∧ u.2.1.2 = wd.2 ∧ True) (enX dC dI ob ad cA) (aX ob ad sz)) 0 0 (aX ob ad sz) := by
  refine Met.ofW (cc := cX4_between) (maxL := 3) (ret := (some .int)) (by decide) rfl ?_
  intro p e s m args below meth c s₁ B hml hv
  obtain ⟨rfl, hsz, hP, hK⟩ := hv
  have hx := B.exec
  have hb := B.bytes
  have hr := B.returns
  have hts := atoms_spec (ws := (.code yX4_between cX4_between 3 (some .int) :: lw_good)) B.pre
  have htg : ∀ w ∈ lw_good, w.before _ s = true := fun w hw => hts w (List.mem_cons_of_mem _ hw)
  have hown : s.vm.findClass RX4 = some m.cls := findClass_of_methodNamed B.named
  have hlocks := B.notSynchronized
  subst hsz
  have hS : va_S (aX ob ad s.heap.size) s.heap s.heap [] := va_S.rf
  have hl := lv_entry ([.ref (ob 2), .int a, .int b]) (n := 3) (Nat.le_of_ble_eq_true rfl)
  rw [lg_entry_eq]
  generalize (lg_sl ([.ref (ob 2), .int a, .int b]) ++ List.replicate (3 - (lg_sl ([.ref (ob 2), .int a, .int b])).length) Slot.unset).toArray = ls at hl ⊢
  have hl : lv_has ls 3 [(0, .ref (ob 2)), (1, .int a), (2, .int b)] := hl
  refine lv_iload_n hx hb dX4_between_0 rfl (lv_at hl 1 rfl) ?_
  refine lv_if_lt (tgt := 20) hx hb dX4_between_1 (by decide) (fun c_1 => ?_) (fun c_1 => ?_)
  · skip
    have i_2 : (-2147483648) ≤ a.toInt ∧ a.toInt ≤ (-1) := iv_lt1 (iv_any a) (⟨by decide, by decide⟩ : (0 : Int) ≤ (0 : Int32).toInt ∧ (0 : Int32).toInt ≤ 0) c_1
    refine lv_ldc hx hb hown (htg (.constant RX4 15 10000000) kw_1_52) dX4_between_20 ?_
    exact W.iret (v := 10000000) hx hb hr (fun t ht hW => ⟨⟨10000000, (fv, wd, ar), rfl, ⟨hF_fv, hA_ar, (fM_rf [] _), (fA_rf [] _), rfl, trivial⟩, ⟨by rw [ht]; exact hP, va_K.moved hW.alike hK⟩⟩, hS.F ht⟩) hS.2.2 dX4_between_22
  · skip
    have i_3 : 0 ≤ a.toInt ∧ a.toInt ≤ 2147483647 := iv_le2 (⟨by decide, by decide⟩ : (0 : Int) ≤ (0 : Int32).toInt ∧ (0 : Int32).toInt ≤ 0) (iv_any a) (Int32.not_lt.mp c_1)
    refine lv_iload_n hx hb dX4_between_4 rfl (lv_at hl 1 rfl) ?_
    refine lv_bipush (v := 12) hx hb dX4_between_5 (by decide) ?_
    refine lv_icmp_ge (tgt := 20) hx hb dX4_between_7 (by decide) (fun c_4 => ?_) (fun c_4 => ?_)
    · skip
      have i_5 : 12 ≤ a.toInt ∧ a.toInt ≤ 2147483647 := iv_le2 (⟨by decide, by decide⟩ : (12 : Int) ≤ (12 : Int32).toInt ∧ (12 : Int32).toInt ≤ 12) i_3 c_4
      refine lv_ldc hx hb hown (htg (.constant RX4 15 10000000) kw_1_52) dX4_between_20 ?_
      exact W.iret (v := 10000000) hx hb hr (fun t ht hW => ⟨⟨10000000, (fv, wd, ar), rfl, ⟨hF_fv, hA_ar, (fM_rf [] _), (fA_rf [] _), rfl, trivial⟩, ⟨by rw [ht]; exact hP, va_K.moved hW.alike hK⟩⟩, hS.F ht⟩) hS.2.2 dX4_between_22
    · skip
      have i_6 : 0 ≤ a.toInt ∧ a.toInt ≤ 11 := iv_lt1 i_3 (⟨by decide, by decide⟩ : (12 : Int) ≤ (12 : Int32).toInt ∧ (12 : Int32).toInt ≤ 12) (Int32.not_le.mp c_4)
      refine lv_iload_n hx hb dX4_between_10 rfl (lv_at hl 2 rfl) ?_
      refine lv_if_lt (tgt := 20) hx hb dX4_between_11 (by decide) (fun c_7 => ?_) (fun c_7 => ?_)
      · skip
        have i_8 : (-2147483648) ≤ b.toInt ∧ b.toInt ≤ (-1) := iv_lt1 (iv_any b) (⟨by decide, by decide⟩ : (0 : Int) ≤ (0 : Int32).toInt ∧ (0 : Int32).toInt ≤ 0) c_7
        refine lv_ldc hx hb hown (htg (.constant RX4 15 10000000) kw_1_52) dX4_between_20 ?_
        exact W.iret (v := 10000000) hx hb hr (fun t ht hW => ⟨⟨10000000, (fv, wd, ar), rfl, ⟨hF_fv, hA_ar, (fM_rf [] _), (fA_rf [] _), rfl, trivial⟩, ⟨by rw [ht]; exact hP, va_K.moved hW.alike hK⟩⟩, hS.F ht⟩) hS.2.2 dX4_between_22
      · skip
        have i_9 : 0 ≤ b.toInt ∧ b.toInt ≤ 2147483647 := iv_le2 (⟨by decide, by decide⟩ : (0 : Int) ≤ (0 : Int32).toInt ∧ (0 : Int32).toInt ≤ 0) (iv_any b) (Int32.not_lt.mp c_7)
        refine lv_iload_n hx hb dX4_between_14 rfl (lv_at hl 2 rfl) ?_
        refine lv_bipush (v := 12) hx hb dX4_between_15 (by decide) ?_
        refine lv_icmp_lt (tgt := 23) hx hb dX4_between_17 (by decide) (fun c_10 => ?_) (fun c_10 => ?_)
        · skip
          have i_11 : 0 ≤ b.toInt ∧ b.toInt ≤ 11 := iv_lt1 i_9 (⟨by decide, by decide⟩ : (12 : Int) ≤ (12 : Int32).toInt ∧ (12 : Int32).toInt ≤ 12) c_10
          refine lv_aload_n hx hb dX4_between_23 rfl (lv_at hl 0 rfl) ?_
          refine gX_X4_9 hx hb htg hown hK hP dX4_between_24 ?_
          refine lv_iload_n hx hb dX4_between_27 rfl (lv_at hl 1 rfl) ?_
          refine lv_bipush (v := 12) hx hb dX4_between_28 (by decide) ?_
          refine lv_imul hx hb dX4_between_30 ?_
          refine lv_topi (fun v_12 ev_12 => ?_)
          have t_13 : v_12.toInt = 12 * a.toInt ∧ 0 ≤ v_12.toInt ∧ v_12.toInt ≤ 132 := iv_mulr ev_12 i_6 (by decide) (by decide) (by decide) (by decide)
          refine lv_iload_n hx hb dX4_between_31 rfl (lv_at hl 2 rfl) ?_
          refine lv_iadd hx hb dX4_between_32 ?_
          refine lv_topi (fun v_15 ev_15 => ?_)
          have t_16 : v_15.toInt = v_12.toInt + b.toInt ∧ 0 ≤ v_15.toInt ∧ v_15.toInt ≤ 143 := iv_add ev_15 t_13.2 i_11 (by decide) (by decide)
          refine lX_5 hx hb hK hP (iv_in t_16.2 (by decide) (by decide)) dX4_between_33 (fun v_18 ev_18 => ?_)
          exact W.iret (v := v_18) hx hb hr (fun t ht hW => ⟨⟨v_18, (fv, wd, ar), rfl, ⟨hF_fv, hA_ar, (fM_rf [] _), (fA_rf [] _), rfl, trivial⟩, ⟨by rw [ht]; exact hP, va_K.moved hW.alike hK⟩⟩, hS.F ht⟩) hS.2.2 dX4_between_34
        · skip
          have i_19 : 12 ≤ b.toInt ∧ b.toInt ≤ 2147483647 := iv_le2 (⟨by decide, by decide⟩ : (12 : Int) ≤ (12 : Int32).toInt ∧ (12 : Int32).toInt ≤ 12) i_9 (Int32.not_lt.mp c_10)
          refine lv_ldc hx hb hown (htg (.constant RX4 15 10000000) kw_1_52) dX4_between_20 ?_
          exact W.iret (v := 10000000) hx hb hr (fun t ht hW => ⟨⟨10000000, (fv, wd, ar), rfl, ⟨hF_fv, hA_ar, (fM_rf [] _), (fA_rf [] _), rfl, trivial⟩, ⟨by rw [ht]; exact hP, va_K.moved hW.alike hK⟩⟩, hS.F ht⟩) hS.2.2 dX4_between_22
set_option maxHeartbeats 4000000 in
set_option maxRecDepth 100000 in
theorem x_pair (l : Launch) (dC : Nat → ClassId) (dI : Nat → Nat → Nat) (sz : Nat) (ob ad : Nat → Nat) (cA : Nat → ClassId) (hd : dX ob ad) (fv : Nat → Int32) (wd : xT) (ar : Nat → Nat → Int32) (hF_fv : rX fv) (hA_ar : rB ar) (kk : Int32) (h_kk : 0 ≤ kk.toInt ∧ kk.toInt ≤ 5) : Met l yX2_pair (.code yX2_pair cX2_pair 2 (some .int) :: lw_good) ({ frames := 2, cells := 0, slots := 0, locals := 40 }) (va_Pc [.ref (ad 1), .int kk] (prX dC dI ob ad cA fv wd ar sz)) (va_Qi (fun (r : Int32) (u : xS) => rX u.1 ∧ rB u.2.2 ∧ fM [] fv u.1 ∧ fA [] ar u.2.2 ∧ u.2.1.2 = wd.2 ∧ True) (enX dC dI ob ad cA) (aX ob ad sz)) 0 0 (aX ob ad sz) := by
  refine Met.ofW (cc := cX2_pair) (maxL := 2) (ret := (some .int)) (by decide) rfl ?_
  intro p e s m args below meth c s₁ B hml hv
  obtain ⟨rfl, hsz, hP, hK⟩ := hv
  have hx := B.exec
  have hb := B.bytes
  have hr := B.returns
  have hts := atoms_spec (ws := (.code yX2_pair cX2_pair 2 (some .int) :: lw_good)) B.pre
  have htg : ∀ w ∈ lw_good, w.before _ s = true := fun w hw => hts w (List.mem_cons_of_mem _ hw)
  have hown : s.vm.findClass RX2 = some m.cls := findClass_of_methodNamed B.named
  have hlocks := B.notSynchronized
  subst hsz
  have hS : va_S (aX ob ad s.heap.size) s.heap s.heap [] := va_S.rf
  have hl := lv_entry ([.ref (ad 1), .int kk]) (n := 2) (Nat.le_of_ble_eq_true rfl)
  rw [lg_entry_eq]
  generalize (lg_sl ([.ref (ad 1), .int kk]) ++ List.replicate (2 - (lg_sl ([.ref (ad 1), .int kk])).length) Slot.unset).toArray = ls at hl ⊢
  have hl : lv_has ls 2 [(0, .ref (ad 1)), (1, .int kk)] := hl
  refine lv_aload_n hx hb dX2_pair_0 rfl (lv_at hl 0 rfl) ?_
  refine lv_iconst (v := 2) hx hb dX2_pair_1 (by decide) ?_
  refine lv_iload_n hx hb dX2_pair_2 rfl (lv_at hl 1 rfl) ?_
  refine lv_imul hx hb dX2_pair_3 ?_
  refine lv_topi (fun v_1 ev_1 => ?_)
  have t_2 : v_1.toInt = 2 * kk.toInt ∧ 0 ≤ v_1.toInt ∧ v_1.toInt ≤ 10 := iv_mulc ev_1 h_kk (by decide) (by decide) (by decide) (by decide)
  refine lX_1 hx hb hK hP (iv_in t_2.2 (by decide) (by decide)) dX2_pair_4 (fun v_4 ev_4 => ?_)
  have i_5 : 0 ≤ v_4.toInt ∧ v_4.toInt ≤ 255 := ev_4 ▸ hA_ar 1 _
  refine lv_sipush (v := 256) hx hb dX2_pair_5 (by decide) ?_
  refine lv_imul hx hb dX2_pair_8 ?_
  refine lv_topi (fun v_6 ev_6 => ?_)
  have t_7 : v_6.toInt = 256 * v_4.toInt ∧ 0 ≤ v_6.toInt ∧ v_6.toInt ≤ 65280 := iv_mulr ev_6 i_5 (by decide) (by decide) (by decide) (by decide)
  refine lv_aload_n hx hb dX2_pair_9 rfl (lv_at hl 0 rfl) ?_
  refine lv_iconst (v := 2) hx hb dX2_pair_10 (by decide) ?_
  refine lv_iload_n hx hb dX2_pair_11 rfl (lv_at hl 1 rfl) ?_
  refine lv_imul hx hb dX2_pair_12 ?_
  refine my_ti (y := v_1) ev_1.symm ?_
  refine lv_iconst (v := 1) hx hb dX2_pair_13 (by decide) ?_
  refine lv_iadd hx hb dX2_pair_14 ?_
  refine lv_topi (fun v_9 ev_9 => ?_)
  have t_10 : v_9.toInt = v_1.toInt + 1 ∧ 1 ≤ v_9.toInt ∧ v_9.toInt ≤ 11 := iv_addc ev_9 t_2.2 (by decide) (by decide) (by decide)
  refine lX_1 hx hb hK hP (iv_in t_10.2 (by decide) (by decide)) dX2_pair_15 (fun v_12 ev_12 => ?_)
  have i_13 : 0 ≤ v_12.toInt ∧ v_12.toInt ≤ 255 := ev_12 ▸ hA_ar 1 _
  refine lv_iadd hx hb dX2_pair_16 ?_
  refine lv_topi (fun v_14 ev_14 => ?_)
  have t_15 : v_14.toInt = v_6.toInt + v_12.toInt ∧ 0 ≤ v_14.toInt ∧ v_14.toInt ≤ 65535 := iv_add ev_14 t_7.2 i_13 (by decide) (by decide)
  exact W.iret (v := v_14) hx hb hr (fun t ht hW => ⟨⟨v_14, (fv, wd, ar), rfl, ⟨hF_fv, hA_ar, (fM_rf [] _), (fA_rf [] _), rfl, trivial⟩, ⟨by rw [ht]; exact hP, va_K.moved hW.alike hK⟩⟩, hS.F ht⟩) hS.2.2 dX2_pair_17
set_option maxHeartbeats 4000000 in
set_option maxRecDepth 100000 in
theorem x_fits (l : Launch) (dC : Nat → ClassId) (dI : Nat → Nat → Nat) (sz : Nat) (ob ad : Nat → Nat) (cA : Nat → ClassId) (hd : dX ob ad) (fv : Nat → Int32) (wd : xT) (ar : Nat → Nat → Int32) (hF_fv : rX fv) (hA_ar : rB ar) : Met l yX2_fits (.code yX2_fits cX2_fits 1 (some .boolean) :: lw_good) ({ frames := 3, cells := 0, slots := 0, locals := 61 }) (va_Pc [.ref (ad 1)] (prX dC dI ob ad cA fv wd ar sz)) (va_Qi (fun (r : Int32) (u : xS) => rX u.1 ∧ rB u.2.2 ∧ fM [] fv u.1 ∧ fA [] ar u.2.2 ∧ u.2.1.2 = wd.2 ∧ (0 ≤ r.toInt ∧ r.toInt ≤ 1) ∧ True) (enX dC dI ob ad cA) (aX ob ad sz)) 0 0 (aX ob ad sz) := by
  refine Met.ofW (cc := cX2_fits) (maxL := 1) (ret := (some .boolean)) (by decide) rfl ?_
  intro p e s m args below meth c s₁ B hml hv
  obtain ⟨rfl, hsz, hP, hK⟩ := hv
  have hx := B.exec
  have hb := B.bytes
  have hr := B.returns
  have hts := atoms_spec (ws := (.code yX2_fits cX2_fits 1 (some .boolean) :: lw_good)) B.pre
  have htg : ∀ w ∈ lw_good, w.before _ s = true := fun w hw => hts w (List.mem_cons_of_mem _ hw)
  have hown : s.vm.findClass RX2 = some m.cls := findClass_of_methodNamed B.named
  have hlocks := B.notSynchronized
  subst hsz
  have hS : va_S (aX ob ad s.heap.size) s.heap s.heap [] := va_S.rf
  have hl := lv_entry ([.ref (ad 1)]) (n := 1) (Nat.le_of_ble_eq_true rfl)
  rw [lg_entry_eq]
  generalize (lg_sl ([.ref (ad 1)]) ++ List.replicate (1 - (lg_sl ([.ref (ad 1)])).length) Slot.unset).toArray = ls at hl ⊢
  have hl : lv_has ls 1 [(0, .ref (ad 1))] := hl
  refine lv_aload_n hx hb dX2_fits_0 rfl (lv_at hl 0 rfl) ?_
  refine lv_iconst (v := 0) hx hb dX2_fits_1 (by decide) ?_
  refine va_calli (va_runS (As := [.ref (ad 1), .int 0]) (rest := []) ⟨hx, hb, hml, hown, hts⟩ (x_pair l dC dI s.heap.size ob ad cA hd fv wd ar hF_fv hA_ar 0 (iv_w (⟨by decide, by decide⟩ : (0 : Int) ≤ (0 : Int32).toInt ∧ (0 : Int32).toInt ≤ 0) (by decide) (by decide))) (va_cwS 2 hts (gS kw_3_171 kw_3_172 kw_1_4 kw_3_173) rfl rfl rfl (by decide +kernel) ⟨Nat.le_of_ble_eq_true rfl, Nat.le_of_ble_eq_true rfl⟩) ⟨fun a U g mk q => ⟨q.1, q.2.1, q.2.2.1, va_K.moved (u := U) (U := U.calling g mk a) (Vm.Alike.refl U.vm) q.2.2.2⟩, fun U hU hW => ⟨rfl, by rw [hU], by rw [hU]; exact hP, va_K.moved hW.alike hK⟩⟩ rfl rfl hl.1 rfl (lv_room (Nat.le_of_ble_eq_true rfl)) dX2_fits_2 ⟨Nat.le_of_ble_eq_true rfl, Nat.le_of_ble_eq_true rfl⟩) hS (fun q _ h9 => aX_up hS q h9) (aX_up hS) (fun r_1 u t H1 locs ht _ hw hB _ hk1 hS => ?_)
  obtain ⟨fv_2, wd_3, ar_4⟩ := u
  obtain ⟨hF_fv_2, hA_ar_4, fr_5, fa_6, wf_7, -⟩ := hw
  have wf_7 : wd_3.2 = wd.2 := wf_7
  have hP : va_P (dC, dI) vwCl (wsX ob ad cA fv_2 wd_3 ar_4) H1 := by have h9 := hB.1; rw [ht] at h9; exact h9
  have fr_5 : fM [] fv fv_2 := fr_5
  have fa_6 : fA [] ar ar_4 := fa_6
  generalize H1 = H at hP hS ⊢
  refine lv_sipush (v := 600) hx hb dX2_fits_5 (by decide) ?_
  refine lv_icmp_gt (tgt := 79) hx hb dX2_fits_8 (by decide) (fun c_8 => ?_) (fun c_8 => ?_)
  · skip
    have i_9 : 601 ≤ r_1.toInt ∧ r_1.toInt ≤ 2147483647 := iv_lt2 (⟨by decide, by decide⟩ : (600 : Int) ≤ (600 : Int32).toInt ∧ (600 : Int32).toInt ≤ 600) (iv_any r_1) c_8
    refine lv_iconst (v := 0) hx hb dX2_fits_79 (by decide) ?_
    exact W.zret (v := 0) hx hb hr (by decide) (fun t ht hW => ⟨⟨0, (fv_2, wd_3, ar_4), rfl, ⟨hF_fv_2, hA_ar_4, (fM_call (fM_rf [] _) fr_5 (by decide)), (fA_call (fA_rf [] _) fa_6 (by decide)), wf_7, (iv_w (⟨by decide, by decide⟩ : (0 : Int) ≤ (0 : Int32).toInt ∧ (0 : Int32).toInt ≤ 0) (by decide) (by decide)), trivial⟩, ⟨by rw [ht]; exact hP, va_K.moved hW.alike hK⟩⟩, hS.F ht⟩) hS.2.2 dX2_fits_80
  · skip
    have i_10 : (-2147483648) ≤ r_1.toInt ∧ r_1.toInt ≤ 600 := iv_le1 (iv_any r_1) (⟨by decide, by decide⟩ : (600 : Int) ≤ (600 : Int32).toInt ∧ (600 : Int32).toInt ≤ 600) (Int32.not_lt.mp c_8)
    refine lv_aload_n hx hb dX2_fits_11 rfl (lv_at hl 0 rfl) ?_
    refine lv_iconst (v := 1) hx hb dX2_fits_12 (by decide) ?_
    refine va_calli (va_runS (As := [.ref (ad 1), .int 1]) (rest := []) ⟨hx, hb, hml, hown, hts⟩ (x_pair l dC dI H.size ob ad cA hd fv_2 wd_3 ar_4 hF_fv_2 hA_ar_4 1 (iv_w (⟨by decide, by decide⟩ : (1 : Int) ≤ (1 : Int32).toInt ∧ (1 : Int32).toInt ≤ 1) (by decide) (by decide))) (va_cwS 2 hts (gS kw_3_171 kw_3_172 kw_1_4 kw_3_173) rfl rfl rfl (by decide +kernel) ⟨Nat.le_of_ble_eq_true rfl, Nat.le_of_ble_eq_true rfl⟩) ⟨fun a U g mk q => ⟨q.1, q.2.1, q.2.2.1, va_K.moved (u := U) (U := U.calling g mk a) (Vm.Alike.refl U.vm) q.2.2.2⟩, fun U hU hW => ⟨rfl, by rw [hU], by rw [hU]; exact hP, va_K.moved hW.alike hK⟩⟩ rfl rfl hl.1 rfl (lv_room (Nat.le_of_ble_eq_true rfl)) dX2_fits_13 ⟨Nat.le_of_ble_eq_true rfl, Nat.le_of_ble_eq_true rfl⟩) hS (fun q _ h9 => aX_up hS q h9) (aX_up hS) (fun r_11 u t H1 locs ht _ hw hB _ hk1 hS => ?_)
    obtain ⟨fv_12, wd_13, ar_14⟩ := u
    obtain ⟨hF_fv_12, hA_ar_14, fr_15, fa_16, wf_17, -⟩ := hw
    have wf_17 : wd_13.2 = wd_3.2 := wf_17
    have hP : va_P (dC, dI) vwCl (wsX ob ad cA fv_12 wd_13 ar_14) H1 := by have h9 := hB.1; rw [ht] at h9; exact h9
    have fr_15 : fM [] fv_2 fv_12 := fr_15
    have fa_16 : fA [] ar_4 ar_14 := fa_16
    generalize H1 = H at hP hS ⊢
    refine lv_sipush (v := 719) hx hb dX2_fits_16 (by decide) ?_
    refine lv_icmp_gt (tgt := 79) hx hb dX2_fits_19 (by decide) (fun c_18 => ?_) (fun c_18 => ?_)
    · skip
      have i_19 : 720 ≤ r_11.toInt ∧ r_11.toInt ≤ 2147483647 := iv_lt2 (⟨by decide, by decide⟩ : (719 : Int) ≤ (719 : Int32).toInt ∧ (719 : Int32).toInt ≤ 719) (iv_any r_11) c_18
      refine lv_iconst (v := 0) hx hb dX2_fits_79 (by decide) ?_
      exact W.zret (v := 0) hx hb hr (by decide) (fun t ht hW => ⟨⟨0, (fv_12, wd_13, ar_14), rfl, ⟨hF_fv_12, hA_ar_14, (fM_call (fM_call (fM_rf [] _) fr_5 (by decide)) fr_15 (by decide)), (fA_call (fA_call (fA_rf [] _) fa_6 (by decide)) fa_16 (by decide)), (wf_17.trans wf_7), (iv_w (⟨by decide, by decide⟩ : (0 : Int) ≤ (0 : Int32).toInt ∧ (0 : Int32).toInt ≤ 0) (by decide) (by decide)), trivial⟩, ⟨by rw [ht]; exact hP, va_K.moved hW.alike hK⟩⟩, hS.F ht⟩) hS.2.2 dX2_fits_80
    · skip
      have i_20 : (-2147483648) ≤ r_11.toInt ∧ r_11.toInt ≤ 719 := iv_le1 (iv_any r_11) (⟨by decide, by decide⟩ : (719 : Int) ≤ (719 : Int32).toInt ∧ (719 : Int32).toInt ≤ 719) (Int32.not_lt.mp c_18)
      refine lv_aload_n hx hb dX2_fits_22 rfl (lv_at hl 0 rfl) ?_
      refine lv_iconst (v := 2) hx hb dX2_fits_23 (by decide) ?_
      refine va_calli (va_runS (As := [.ref (ad 1), .int 2]) (rest := []) ⟨hx, hb, hml, hown, hts⟩ (x_pair l dC dI H.size ob ad cA hd fv_12 wd_13 ar_14 hF_fv_12 hA_ar_14 2 (iv_w (⟨by decide, by decide⟩ : (2 : Int) ≤ (2 : Int32).toInt ∧ (2 : Int32).toInt ≤ 2) (by decide) (by decide))) (va_cwS 2 hts (gS kw_3_171 kw_3_172 kw_1_4 kw_3_173) rfl rfl rfl (by decide +kernel) ⟨Nat.le_of_ble_eq_true rfl, Nat.le_of_ble_eq_true rfl⟩) ⟨fun a U g mk q => ⟨q.1, q.2.1, q.2.2.1, va_K.moved (u := U) (U := U.calling g mk a) (Vm.Alike.refl U.vm) q.2.2.2⟩, fun U hU hW => ⟨rfl, by rw [hU], by rw [hU]; exact hP, va_K.moved hW.alike hK⟩⟩ rfl rfl hl.1 rfl (lv_room (Nat.le_of_ble_eq_true rfl)) dX2_fits_24 ⟨Nat.le_of_ble_eq_true rfl, Nat.le_of_ble_eq_true rfl⟩) hS (fun q _ h9 => aX_up hS q h9) (aX_up hS) (fun r_21 u t H1 locs ht _ hw hB _ hk1 hS => ?_)
      obtain ⟨fv_22, wd_23, ar_24⟩ := u
      obtain ⟨hF_fv_22, hA_ar_24, fr_25, fa_26, wf_27, -⟩ := hw
      have wf_27 : wd_23.2 = wd_13.2 := wf_27
      have hP : va_P (dC, dI) vwCl (wsX ob ad cA fv_22 wd_23 ar_24) H1 := by have h9 := hB.1; rw [ht] at h9; exact h9
      have fr_25 : fM [] fv_12 fv_22 := fr_25
      have fa_26 : fA [] ar_14 ar_24 := fa_26
      generalize H1 = H at hP hS ⊢
      refine lv_bipush (v := 10) hx hb dX2_fits_27 (by decide) ?_
      refine lv_icmp_lt (tgt := 79) hx hb dX2_fits_29 (by decide) (fun c_28 => ?_) (fun c_28 => ?_)
      · skip
        have i_29 : (-2147483648) ≤ r_21.toInt ∧ r_21.toInt ≤ 9 := iv_lt1 (iv_any r_21) (⟨by decide, by decide⟩ : (10 : Int) ≤ (10 : Int32).toInt ∧ (10 : Int32).toInt ≤ 10) c_28
        refine lv_iconst (v := 0) hx hb dX2_fits_79 (by decide) ?_
        exact W.zret (v := 0) hx hb hr (by decide) (fun t ht hW => ⟨⟨0, (fv_22, wd_23, ar_24), rfl, ⟨hF_fv_22, hA_ar_24, (fM_call (fM_call (fM_call (fM_rf [] _) fr_5 (by decide)) fr_15 (by decide)) fr_25 (by decide)), (fA_call (fA_call (fA_call (fA_rf [] _) fa_6 (by decide)) fa_16 (by decide)) fa_26 (by decide)), (wf_27.trans (wf_17.trans wf_7)), (iv_w (⟨by decide, by decide⟩ : (0 : Int) ≤ (0 : Int32).toInt ∧ (0 : Int32).toInt ≤ 0) (by decide) (by decide)), trivial⟩, ⟨by rw [ht]; exact hP, va_K.moved hW.alike hK⟩⟩, hS.F ht⟩) hS.2.2 dX2_fits_80
      · skip
        have i_30 : 10 ≤ r_21.toInt ∧ r_21.toInt ≤ 2147483647 := iv_le2 (⟨by decide, by decide⟩ : (10 : Int) ≤ (10 : Int32).toInt ∧ (10 : Int32).toInt ≤ 10) (iv_any r_21) (Int32.not_lt.mp c_28)
        refine lv_aload_n hx hb dX2_fits_32 rfl (lv_at hl 0 rfl) ?_
        refine lv_iconst (v := 2) hx hb dX2_fits_33 (by decide) ?_
        refine va_calli (va_runS (As := [.ref (ad 1), .int 2]) (rest := []) ⟨hx, hb, hml, hown, hts⟩ (x_pair l dC dI H.size ob ad cA hd fv_22 wd_23 ar_24 hF_fv_22 hA_ar_24 2 (iv_w (⟨by decide, by decide⟩ : (2 : Int) ≤ (2 : Int32).toInt ∧ (2 : Int32).toInt ≤ 2) (by decide) (by decide))) (va_cwS 2 hts (gS kw_3_171 kw_3_172 kw_1_4 kw_3_173) rfl rfl rfl (by decide +kernel) ⟨Nat.le_of_ble_eq_true rfl, Nat.le_of_ble_eq_true rfl⟩) ⟨fun a U g mk q => ⟨q.1, q.2.1, q.2.2.1, va_K.moved (u := U) (U := U.calling g mk a) (Vm.Alike.refl U.vm) q.2.2.2⟩, fun U hU hW => ⟨rfl, by rw [hU], by rw [hU]; exact hP, va_K.moved hW.alike hK⟩⟩ rfl rfl hl.1 rfl (lv_room (Nat.le_of_ble_eq_true rfl)) dX2_fits_34 ⟨Nat.le_of_ble_eq_true rfl, Nat.le_of_ble_eq_true rfl⟩) hS (fun q _ h9 => aX_up hS q h9) (aX_up hS) (fun r_31 u t H1 locs ht _ hw hB _ hk1 hS => ?_)
        obtain ⟨fv_32, wd_33, ar_34⟩ := u
        obtain ⟨hF_fv_32, hA_ar_34, fr_35, fa_36, wf_37, -⟩ := hw
        have wf_37 : wd_33.2 = wd_23.2 := wf_37
        have hP : va_P (dC, dI) vwCl (wsX ob ad cA fv_32 wd_33 ar_34) H1 := by have h9 := hB.1; rw [ht] at h9; exact h9
        have fr_35 : fM [] fv_22 fv_32 := fr_35
        have fa_36 : fA [] ar_24 ar_34 := fa_36
        generalize H1 = H at hP hS ⊢
        refine lv_bipush (v := 99) hx hb dX2_fits_37 (by decide) ?_
        refine lv_icmp_gt (tgt := 79) hx hb dX2_fits_39 (by decide) (fun c_38 => ?_) (fun c_38 => ?_)
        · skip
          have i_39 : 100 ≤ r_31.toInt ∧ r_31.toInt ≤ 2147483647 := iv_lt2 (⟨by decide, by decide⟩ : (99 : Int) ≤ (99 : Int32).toInt ∧ (99 : Int32).toInt ≤ 99) (iv_any r_31) c_38
          refine lv_iconst (v := 0) hx hb dX2_fits_79 (by decide) ?_
          exact W.zret (v := 0) hx hb hr (by decide) (fun t ht hW => ⟨⟨0, (fv_32, wd_33, ar_34), rfl, ⟨hF_fv_32, hA_ar_34, (fM_call (fM_call (fM_call (fM_call (fM_rf [] _) fr_5 (by decide)) fr_15 (by decide)) fr_25 (by decide)) fr_35 (by decide)), (fA_call (fA_call (fA_call (fA_call (fA_rf [] _) fa_6 (by decide)) fa_16 (by decide)) fa_26 (by decide)) fa_36 (by decide)), (wf_37.trans (wf_27.trans (wf_17.trans wf_7))), (iv_w (⟨by decide, by decide⟩ : (0 : Int) ≤ (0 : Int32).toInt ∧ (0 : Int32).toInt ≤ 0) (by decide) (by decide)), trivial⟩, ⟨by rw [ht]; exact hP, va_K.moved hW.alike hK⟩⟩, hS.F ht⟩) hS.2.2 dX2_fits_80
        · skip
          have i_40 : (-2147483648) ≤ r_31.toInt ∧ r_31.toInt ≤ 99 := iv_le1 (iv_any r_31) (⟨by decide, by decide⟩ : (99 : Int) ≤ (99 : Int32).toInt ∧ (99 : Int32).toInt ≤ 99) (Int32.not_lt.mp c_38)
          refine lv_aload_n hx hb dX2_fits_42 rfl (lv_at hl 0 rfl) ?_
          refine lv_iconst (v := 3) hx hb dX2_fits_43 (by decide) ?_
          refine va_calli (va_runS (As := [.ref (ad 1), .int 3]) (rest := []) ⟨hx, hb, hml, hown, hts⟩ (x_pair l dC dI H.size ob ad cA hd fv_32 wd_33 ar_34 hF_fv_32 hA_ar_34 3 (iv_w (⟨by decide, by decide⟩ : (3 : Int) ≤ (3 : Int32).toInt ∧ (3 : Int32).toInt ≤ 3) (by decide) (by decide))) (va_cwS 2 hts (gS kw_3_171 kw_3_172 kw_1_4 kw_3_173) rfl rfl rfl (by decide +kernel) ⟨Nat.le_of_ble_eq_true rfl, Nat.le_of_ble_eq_true rfl⟩) ⟨fun a U g mk q => ⟨q.1, q.2.1, q.2.2.1, va_K.moved (u := U) (U := U.calling g mk a) (Vm.Alike.refl U.vm) q.2.2.2⟩, fun U hU hW => ⟨rfl, by rw [hU], by rw [hU]; exact hP, va_K.moved hW.alike hK⟩⟩ rfl rfl hl.1 rfl (lv_room (Nat.le_of_ble_eq_true rfl)) dX2_fits_44 ⟨Nat.le_of_ble_eq_true rfl, Nat.le_of_ble_eq_true rfl⟩) hS (fun q _ h9 => aX_up hS q h9) (aX_up hS) (fun r_41 u t H1 locs ht _ hw hB _ hk1 hS => ?_)
          obtain ⟨fv_42, wd_43, ar_44⟩ := u
          obtain ⟨hF_fv_42, hA_ar_44, fr_45, fa_46, wf_47, -⟩ := hw
          have wf_47 : wd_43.2 = wd_33.2 := wf_47
          have hP : va_P (dC, dI) vwCl (wsX ob ad cA fv_42 wd_43 ar_44) H1 := by have h9 := hB.1; rw [ht] at h9; exact h9
          have fr_45 : fM [] fv_32 fv_42 := fr_45
          have fa_46 : fA [] ar_34 ar_44 := fa_46
          generalize H1 = H at hP hS ⊢
          refine lv_bipush (v := 9) hx hb dX2_fits_47 (by decide) ?_
          refine lv_icmp_gt (tgt := 79) hx hb dX2_fits_49 (by decide) (fun c_48 => ?_) (fun c_48 => ?_)
          · skip
            have i_49 : 10 ≤ r_41.toInt ∧ r_41.toInt ≤ 2147483647 := iv_lt2 (⟨by decide, by decide⟩ : (9 : Int) ≤ (9 : Int32).toInt ∧ (9 : Int32).toInt ≤ 9) (iv_any r_41) c_48
            refine lv_iconst (v := 0) hx hb dX2_fits_79 (by decide) ?_
            exact W.zret (v := 0) hx hb hr (by decide) (fun t ht hW => ⟨⟨0, (fv_42, wd_43, ar_44), rfl, ⟨hF_fv_42, hA_ar_44, (fM_call (fM_call (fM_call (fM_call (fM_call (fM_rf [] _) fr_5 (by decide)) fr_15 (by decide)) fr_25 (by decide)) fr_35 (by decide)) fr_45 (by decide)), (fA_call (fA_call (fA_call (fA_call (fA_call (fA_rf [] _) fa_6 (by decide)) fa_16 (by decide)) fa_26 (by decide)) fa_36 (by decide)) fa_46 (by decide)), (wf_47.trans (wf_37.trans (wf_27.trans (wf_17.trans wf_7)))), (iv_w (⟨by decide, by decide⟩ : (0 : Int) ≤ (0 : Int32).toInt ∧ (0 : Int32).toInt ≤ 0) (by decide) (by decide)), trivial⟩, ⟨by rw [ht]; exact hP, va_K.moved hW.alike hK⟩⟩, hS.F ht⟩) hS.2.2 dX2_fits_80
          · skip
            have i_50 : (-2147483648) ≤ r_41.toInt ∧ r_41.toInt ≤ 9 := iv_le1 (iv_any r_41) (⟨by decide, by decide⟩ : (9 : Int) ≤ (9 : Int32).toInt ∧ (9 : Int32).toInt ≤ 9) (Int32.not_lt.mp c_48)
            refine lv_aload_n hx hb dX2_fits_52 rfl (lv_at hl 0 rfl) ?_
            refine lv_iconst (v := 4) hx hb dX2_fits_53 (by decide) ?_
            refine va_calli (va_runS (As := [.ref (ad 1), .int 4]) (rest := []) ⟨hx, hb, hml, hown, hts⟩ (x_pair l dC dI H.size ob ad cA hd fv_42 wd_43 ar_44 hF_fv_42 hA_ar_44 4 (iv_w (⟨by decide, by decide⟩ : (4 : Int) ≤ (4 : Int32).toInt ∧ (4 : Int32).toInt ≤ 4) (by decide) (by decide))) (va_cwS 2 hts (gS kw_3_171 kw_3_172 kw_1_4 kw_3_173) rfl rfl rfl (by decide +kernel) ⟨Nat.le_of_ble_eq_true rfl, Nat.le_of_ble_eq_true rfl⟩) ⟨fun a U g mk q => ⟨q.1, q.2.1, q.2.2.1, va_K.moved (u := U) (U := U.calling g mk a) (Vm.Alike.refl U.vm) q.2.2.2⟩, fun U hU hW => ⟨rfl, by rw [hU], by rw [hU]; exact hP, va_K.moved hW.alike hK⟩⟩ rfl rfl hl.1 rfl (lv_room (Nat.le_of_ble_eq_true rfl)) dX2_fits_54 ⟨Nat.le_of_ble_eq_true rfl, Nat.le_of_ble_eq_true rfl⟩) hS (fun q _ h9 => aX_up hS q h9) (aX_up hS) (fun r_51 u t H1 locs ht _ hw hB _ hk1 hS => ?_)
            obtain ⟨fv_52, wd_53, ar_54⟩ := u
            obtain ⟨hF_fv_52, hA_ar_54, fr_55, fa_56, wf_57, -⟩ := hw
            have wf_57 : wd_53.2 = wd_43.2 := wf_57
            have hP : va_P (dC, dI) vwCl (wsX ob ad cA fv_52 wd_53 ar_54) H1 := by have h9 := hB.1; rw [ht] at h9; exact h9
            have fr_55 : fM [] fv_42 fv_52 := fr_55
            have fa_56 : fA [] ar_44 ar_54 := fa_56
            generalize H1 = H at hP hS ⊢
            refine lv_bipush (v := 10) hx hb dX2_fits_57 (by decide) ?_
            refine lv_imul hx hb dX2_fits_59 ?_
            refine lv_topi (fun v_58 ev_58 => ?_)
            refine lv_ldc hx hb hown (htg (.constant RX2 66 100000) kw_3_174) dX2_fits_60 ?_
            refine lv_icmp_gt (tgt := 79) hx hb dX2_fits_62 (by decide) (fun c_59 => ?_) (fun c_59 => ?_)
            · skip
              have i_60 : 100001 ≤ v_58.toInt ∧ v_58.toInt ≤ 2147483647 := iv_lt2 (⟨by decide, by decide⟩ : (100000 : Int) ≤ (100000 : Int32).toInt ∧ (100000 : Int32).toInt ≤ 100000) (iv_any v_58) c_59
              refine lv_iconst (v := 0) hx hb dX2_fits_79 (by decide) ?_
              exact W.zret (v := 0) hx hb hr (by decide) (fun t ht hW => ⟨⟨0, (fv_52, wd_53, ar_54), rfl, ⟨hF_fv_52, hA_ar_54, (fM_call (fM_call (fM_call (fM_call (fM_call (fM_call (fM_rf [] _) fr_5 (by decide)) fr_15 (by decide)) fr_25 (by decide)) fr_35 (by decide)) fr_45 (by decide)) fr_55 (by decide)), (fA_call (fA_call (fA_call (fA_call (fA_call (fA_call (fA_rf [] _) fa_6 (by decide)) fa_16 (by decide)) fa_26 (by decide)) fa_36 (by decide)) fa_46 (by decide)) fa_56 (by decide)), (wf_57.trans (wf_47.trans (wf_37.trans (wf_27.trans (wf_17.trans wf_7))))), (iv_w (⟨by decide, by decide⟩ : (0 : Int) ≤ (0 : Int32).toInt ∧ (0 : Int32).toInt ≤ 0) (by decide) (by decide)), trivial⟩, ⟨by rw [ht]; exact hP, va_K.moved hW.alike hK⟩⟩, hS.F ht⟩) hS.2.2 dX2_fits_80
            · skip
              have i_61 : (-2147483648) ≤ v_58.toInt ∧ v_58.toInt ≤ 100000 := iv_le1 (iv_any v_58) (⟨by decide, by decide⟩ : (100000 : Int) ≤ (100000 : Int32).toInt ∧ (100000 : Int32).toInt ≤ 100000) (Int32.not_lt.mp c_59)
              refine lv_aload_n hx hb dX2_fits_65 rfl (lv_at hl 0 rfl) ?_
              refine lv_iconst (v := 5) hx hb dX2_fits_66 (by decide) ?_
              refine va_calli (va_runS (As := [.ref (ad 1), .int 5]) (rest := []) ⟨hx, hb, hml, hown, hts⟩ (x_pair l dC dI H.size ob ad cA hd fv_52 wd_53 ar_54 hF_fv_52 hA_ar_54 5 (iv_w (⟨by decide, by decide⟩ : (5 : Int) ≤ (5 : Int32).toInt ∧ (5 : Int32).toInt ≤ 5) (by decide) (by decide))) (va_cwS 2 hts (gS kw_3_171 kw_3_172 kw_1_4 kw_3_173) rfl rfl rfl (by decide +kernel) ⟨Nat.le_of_ble_eq_true rfl, Nat.le_of_ble_eq_true rfl⟩) ⟨fun a U g mk q => ⟨q.1, q.2.1, q.2.2.1, va_K.moved (u := U) (U := U.calling g mk a) (Vm.Alike.refl U.vm) q.2.2.2⟩, fun U hU hW => ⟨rfl, by rw [hU], by rw [hU]; exact hP, va_K.moved hW.alike hK⟩⟩ rfl rfl hl.1 rfl (lv_room (Nat.le_of_ble_eq_true rfl)) dX2_fits_67 ⟨Nat.le_of_ble_eq_true rfl, Nat.le_of_ble_eq_true rfl⟩) hS (fun q _ h9 => aX_up hS q h9) (aX_up hS) (fun r_62 u t H1 locs ht _ hw hB _ hk1 hS => ?_)
              obtain ⟨fv_63, wd_64, ar_65⟩ := u
              obtain ⟨hF_fv_63, hA_ar_65, fr_66, fa_67, wf_68, -⟩ := hw
              have wf_68 : wd_64.2 = wd_53.2 := wf_68
              have hP : va_P (dC, dI) vwCl (wsX ob ad cA fv_63 wd_64 ar_65) H1 := by have h9 := hB.1; rw [ht] at h9; exact h9
              have fr_66 : fM [] fv_52 fv_63 := fr_66
              have fa_67 : fA [] ar_54 ar_65 := fa_67
              generalize H1 = H at hP hS ⊢
              refine lv_bipush (v := 9) hx hb dX2_fits_70 (by decide) ?_
              refine lv_icmp_gt (tgt := 79) hx hb dX2_fits_72 (by decide) (fun c_69 => ?_) (fun c_69 => ?_)
              · skip
                have i_70 : 10 ≤ r_62.toInt ∧ r_62.toInt ≤ 2147483647 := iv_lt2 (⟨by decide, by decide⟩ : (9 : Int) ≤ (9 : Int32).toInt ∧ (9 : Int32).toInt ≤ 9) (iv_any r_62) c_69
                refine lv_iconst (v := 0) hx hb dX2_fits_79 (by decide) ?_
                exact W.zret (v := 0) hx hb hr (by decide) (fun t ht hW => ⟨⟨0, (fv_63, wd_64, ar_65), rfl, ⟨hF_fv_63, hA_ar_65, (fM_call (fM_call (fM_call (fM_call (fM_call (fM_call (fM_call (fM_rf [] _) fr_5 (by decide)) fr_15 (by decide)) fr_25 (by decide)) fr_35 (by decide)) fr_45 (by decide)) fr_55 (by decide)) fr_66 (by decide)), (fA_call (fA_call (fA_call (fA_call (fA_call (fA_call (fA_call (fA_rf [] _) fa_6 (by decide)) fa_16 (by decide)) fa_26 (by decide)) fa_36 (by decide)) fa_46 (by decide)) fa_56 (by decide)) fa_67 (by decide)), (wf_68.trans (wf_57.trans (wf_47.trans (wf_37.trans (wf_27.trans (wf_17.trans wf_7)))))), (iv_w (⟨by decide, by decide⟩ : (0 : Int) ≤ (0 : Int32).toInt ∧ (0 : Int32).toInt ≤ 0) (by decide) (by decide)), trivial⟩, ⟨by rw [ht]; exact hP, va_K.moved hW.alike hK⟩⟩, hS.F ht⟩) hS.2.2 dX2_fits_80
              · skip
                have i_71 : (-2147483648) ≤ r_62.toInt ∧ r_62.toInt ≤ 9 := iv_le1 (iv_any r_62) (⟨by decide, by decide⟩ : (9 : Int) ≤ (9 : Int32).toInt ∧ (9 : Int32).toInt ≤ 9) (Int32.not_lt.mp c_69)
                refine lv_iconst (v := 1) hx hb dX2_fits_75 (by decide) ?_
                refine lv_goto (tgt := 80) hx hb dX2_fits_76 (by decide) ?_
                exact W.zret (v := 1) hx hb hr (by decide) (fun t ht hW => ⟨⟨1, (fv_63, wd_64, ar_65), rfl, ⟨hF_fv_63, hA_ar_65, (fM_call (fM_call (fM_call (fM_call (fM_call (fM_call (fM_call (fM_rf [] _) fr_5 (by decide)) fr_15 (by decide)) fr_25 (by decide)) fr_35 (by decide)) fr_45 (by decide)) fr_55 (by decide)) fr_66 (by decide)), (fA_call (fA_call (fA_call (fA_call (fA_call (fA_call (fA_call (fA_rf [] _) fa_6 (by decide)) fa_16 (by decide)) fa_26 (by decide)) fa_36 (by decide)) fa_46 (by decide)) fa_56 (by decide)) fa_67 (by decide)), (wf_68.trans (wf_57.trans (wf_47.trans (wf_37.trans (wf_27.trans (wf_17.trans wf_7)))))), (iv_w (⟨by decide, by decide⟩ : (1 : Int) ≤ (1 : Int32).toInt ∧ (1 : Int32).toInt ≤ 1) (by decide) (by decide)), trivial⟩, ⟨by rw [ht]; exact hP, va_K.moved hW.alike hK⟩⟩, hS.F ht⟩) hS.2.2 dX2_fits_80
set_option maxHeartbeats 4000000 in
set_option maxRecDepth 100000 in
theorem x_pjoin (l : Launch) (dC : Nat → ClassId) (dI : Nat → Nat → Nat) (sz : Nat) (ob ad : Nat → Nat) (cA : Nat → ClassId) (hd : dX ob ad) (fv : Nat → Int32) (wd : xT) (ar : Nat → Nat → Int32) (hF_fv : rX fv) (hA_ar : rB ar) (hh : Int32) (wk : Int32) (b : Int32) (h_hh : 0 ≤ hh.toInt ∧ hh.toInt ≤ 11) (h_wk : 0 ≤ wk.toInt ∧ wk.toInt ≤ 11) : Met l yX2_join (.code yX2_join cX2_join 5 (some .int) :: lw_good) ({ frames := 4, cells := 0, slots := 0, locals := 81 }) (va_Pc [.ref (ob 3), .int hh, .int wk, .int b, .ref (ad 1)] (prX dC dI ob ad cA fv wd ar sz)) (va_Qi (fun (r : Int32) (u : xS) => rX u.1 ∧ rB u.2.2 ∧ fM [10] fv u.1 ∧ fA [6, 7, 8, 9, 10, 11, 12, 13, 14, 15] ar u.2.2 ∧ u.2.1.2 = wd.2 ∧ True) (enX dC dI ob ad cA) (aX ob ad sz)) 0 0 (aX ob ad sz) := by
  refine Met.ofW (cc := cX2_join) (maxL := 5) (ret := (some .int)) (by decide) rfl ?_
  intro p e s m args below meth c s₁ B hml hv
  obtain ⟨rfl, hsz, hP, hK⟩ := hv
  have hx := B.exec
  have hb := B.bytes
  have hr := B.returns
  have hts := atoms_spec (ws := (.code yX2_join cX2_join 5 (some .int) :: lw_good)) B.pre
  have htg : ∀ w ∈ lw_good, w.before _ s = true := fun w hw => hts w (List.mem_cons_of_mem _ hw)
  have hown : s.vm.findClass RX2 = some m.cls := findClass_of_methodNamed B.named
  have hlocks := B.notSynchronized
  subst hsz
  have hS : va_S (aX ob ad s.heap.size) s.heap s.heap [] := va_S.rf
  have hl := lv_entry ([.ref (ob 3), .int hh, .int wk, .int b, .ref (ad 1)]) (n := 5) (Nat.le_of_ble_eq_true rfl)
  rw [lg_entry_eq]
  generalize (lg_sl ([.ref (ob 3), .int hh, .int wk, .int b, .ref (ad 1)]) ++ List.replicate (5 - (lg_sl ([.ref (ob 3), .int hh, .int wk, .int b, .ref (ad 1)])).length) Slot.unset).toArray = ls at hl ⊢
  have hl : lv_has ls 5 [(0, .ref (ob 3)), (1, .int hh), (2, .int wk), (3, .int b), (4, .ref (ad 1))] := hl
  refine lv_aload_n hx hb dX2_join_0 rfl (lv_at hl 0 rfl) ?_
  refine gX_X2_54 hx hb htg hown hK hP dX2_join_1 ?_
  have i_1 : 0 ≤ (fv 10).toInt ∧ (fv 10).toInt ≤ 40 := hF_fv 10
  refine lv_bipush (v := 40) hx hb dX2_join_4 (by decide) ?_
  refine lv_icmp_ge (tgt := 28) hx hb dX2_join_6 (by decide) (fun c_2 => ?_) (fun c_2 => ?_)
  · skip
    have i_3 : 40 ≤ (fv 10).toInt ∧ (fv 10).toInt ≤ 40 := iv_le2 (⟨by decide, by decide⟩ : (40 : Int) ≤ (40 : Int32).toInt ∧ (40 : Int32).toInt ≤ 40) i_1 c_2
    refine lv_iconst (v := (-1)) hx hb dX2_join_28 (by decide) ?_
    exact W.iret (v := (-1)) hx hb hr (fun t ht hW => ⟨⟨(-1), (fv, wd, ar), rfl, ⟨hF_fv, hA_ar, (fM_rf [10] _), (fA_rf [6, 7, 8, 9, 10, 11, 12, 13, 14, 15] _), rfl, trivial⟩, ⟨by rw [ht]; exact hP, va_K.moved hW.alike hK⟩⟩, hS.F ht⟩) hS.2.2 dX2_join_29
  · skip
    have i_4 : 0 ≤ (fv 10).toInt ∧ (fv 10).toInt ≤ 39 := iv_lt1 i_1 (⟨by decide, by decide⟩ : (40 : Int) ≤ (40 : Int32).toInt ∧ (40 : Int32).toInt ≤ 40) (Int32.not_le.mp c_2)
    refine lv_iload_n hx hb dX2_join_9 rfl (lv_at hl 3 rfl) ?_
    refine lv_if_lt (tgt := 28) hx hb dX2_join_10 (by decide) (fun c_5 => ?_) (fun c_5 => ?_)
    · skip
      have i_6 : (-2147483648) ≤ b.toInt ∧ b.toInt ≤ (-1) := iv_lt1 (iv_any b) (⟨by decide, by decide⟩ : (0 : Int) ≤ (0 : Int32).toInt ∧ (0 : Int32).toInt ≤ 0) c_5
      refine lv_iconst (v := (-1)) hx hb dX2_join_28 (by decide) ?_
      exact W.iret (v := (-1)) hx hb hr (fun t ht hW => ⟨⟨(-1), (fv, wd, ar), rfl, ⟨hF_fv, hA_ar, (fM_rf [10] _), (fA_rf [6, 7, 8, 9, 10, 11, 12, 13, 14, 15] _), rfl, trivial⟩, ⟨by rw [ht]; exact hP, va_K.moved hW.alike hK⟩⟩, hS.F ht⟩) hS.2.2 dX2_join_29
    · skip
      have i_7 : 0 ≤ b.toInt ∧ b.toInt ≤ 2147483647 := iv_le2 (⟨by decide, by decide⟩ : (0 : Int) ≤ (0 : Int32).toInt ∧ (0 : Int32).toInt ≤ 0) (iv_any b) (Int32.not_lt.mp c_5)
      refine lv_iload_n hx hb dX2_join_13 rfl (lv_at hl 3 rfl) ?_
      refine lv_sipush (v := 9999) hx hb dX2_join_14 (by decide) ?_
      refine lv_icmp_gt (tgt := 28) hx hb dX2_join_17 (by decide) (fun c_8 => ?_) (fun c_8 => ?_)
      · skip
        have i_9 : 10000 ≤ b.toInt ∧ b.toInt ≤ 2147483647 := iv_lt2 (⟨by decide, by decide⟩ : (9999 : Int) ≤ (9999 : Int32).toInt ∧ (9999 : Int32).toInt ≤ 9999) i_7 c_8
        refine lv_iconst (v := (-1)) hx hb dX2_join_28 (by decide) ?_
        exact W.iret (v := (-1)) hx hb hr (fun t ht hW => ⟨⟨(-1), (fv, wd, ar), rfl, ⟨hF_fv, hA_ar, (fM_rf [10] _), (fA_rf [6, 7, 8, 9, 10, 11, 12, 13, 14, 15] _), rfl, trivial⟩, ⟨by rw [ht]; exact hP, va_K.moved hW.alike hK⟩⟩, hS.F ht⟩) hS.2.2 dX2_join_29
      · skip
        have i_10 : 0 ≤ b.toInt ∧ b.toInt ≤ 9999 := iv_le1 i_7 (⟨by decide, by decide⟩ : (9999 : Int) ≤ (9999 : Int32).toInt ∧ (9999 : Int32).toInt ≤ 9999) (Int32.not_lt.mp c_8)
        refine lv_aload hx hb dX2_join_20 (lv_at hl 4 rfl) ?_
        refine va_calli (va_runS (As := [.ref (ad 1)]) (rest := []) ⟨hx, hb, hml, hown, hts⟩ (x_fits l dC dI s.heap.size ob ad cA hd fv wd ar hF_fv hA_ar) (va_cwS 1 hts (gS kw_3_168 kw_3_169 kw_1_4 kw_3_170) rfl rfl rfl (by decide +kernel) ⟨Nat.le_of_ble_eq_true rfl, Nat.le_of_ble_eq_true rfl⟩) ⟨fun a U g mk q => ⟨q.1, q.2.1, q.2.2.1, va_K.moved (u := U) (U := U.calling g mk a) (Vm.Alike.refl U.vm) q.2.2.2⟩, fun U hU hW => ⟨rfl, by rw [hU], by rw [hU]; exact hP, va_K.moved hW.alike hK⟩⟩ rfl rfl hl.1 rfl (lv_room (Nat.le_of_ble_eq_true rfl)) dX2_join_22 ⟨Nat.le_of_ble_eq_true rfl, Nat.le_of_ble_eq_true rfl⟩) hS (fun q _ h9 => aX_up hS q h9) (aX_up hS) (fun r_11 u t H1 locs ht _ hw hB _ hk1 hS => ?_)
        obtain ⟨fv_13, wd_14, ar_15⟩ := u
        obtain ⟨hF_fv_13, hA_ar_15, fr_16, fa_17, wf_18, p_12, -⟩ := hw
        have wf_18 : wd_14.2 = wd.2 := wf_18
        have hP : va_P (dC, dI) vwCl (wsX ob ad cA fv_13 wd_14 ar_15) H1 := by have h9 := hB.1; rw [ht] at h9; exact h9
        have fr_16 : fM [] fv fv_13 := fr_16
        have fa_17 : fA [] ar ar_15 := fa_17
        generalize H1 = H at hP hS ⊢
        refine lv_if_ne (tgt := 30) hx hb dX2_join_25 (by decide) (fun c_19 => ?_) (fun c_19 => ?_)
        · skip
          have i_20 : 1 ≤ r_11.toInt ∧ r_11.toInt ≤ 1 := iv_nel p_12 (by decide) c_19
          refine lv_aload_n hx hb dX2_join_30 rfl (lv_at hl 0 rfl) ?_
          refine gX_X2_11 hx hb htg hown hK hP dX2_join_31 ?_
          refine lv_aload_n hx hb dX2_join_34 rfl (lv_at hl 0 rfl) ?_
          refine gX_X2_54 hx hb htg hown hK hP dX2_join_35 ?_
          refine my_ti (y := fv 10) ((fr_16 10 rfl)) ?_
          refine lv_iload_n hx hb dX2_join_38 rfl (lv_at hl 1 rfl) ?_
          refine sX_6 hx hb hK hP hS hd (iv_in i_4 (by decide) (by decide)) dX2_join_39 (fun H locs ar_21 ear_21 hP hS => ?_)
          have hA_ar_21 : rB ar_21 := rB_put hA_ar_15 ear_21 h_hh
          refine lv_aload_n hx hb dX2_join_40 rfl (lv_at hl 0 rfl) ?_
          refine gX_X2_15 hx hb htg hown hK hP dX2_join_41 ?_
          refine lv_aload_n hx hb dX2_join_44 rfl (lv_at hl 0 rfl) ?_
          refine gX_X2_54 hx hb htg hown hK hP dX2_join_45 ?_
          refine my_ti (y := fv 10) ((fr_16 10 rfl)) ?_
          refine lv_iload_n hx hb dX2_join_48 rfl (lv_at hl 2 rfl) ?_
          refine sX_7 hx hb hK hP hS hd (iv_in i_4 (by decide) (by decide)) dX2_join_49 (fun H locs ar_22 ear_22 hP hS => ?_)
          have hA_ar_22 : rB ar_22 := rB_put hA_ar_21 ear_22 h_wk
          refine lv_aload_n hx hb dX2_join_50 rfl (lv_at hl 0 rfl) ?_
          refine gX_X2_18 hx hb htg hown hK hP dX2_join_51 ?_
          refine lv_aload_n hx hb dX2_join_54 rfl (lv_at hl 0 rfl) ?_
          refine gX_X2_54 hx hb htg hown hK hP dX2_join_55 ?_
          refine my_ti (y := fv 10) ((fr_16 10 rfl)) ?_
          refine lv_iload_n hx hb dX2_join_58 rfl (lv_at hl 3 rfl) ?_
          refine sX_8 hx hb hK hP hS hd (iv_in i_4 (by decide) (by decide)) dX2_join_59 (fun H locs ar_23 ear_23 hP hS => ?_)
          have hA_ar_23 : rB ar_23 := rB_put hA_ar_22 ear_23 (iv_any _)
          refine lv_aload_n hx hb dX2_join_60 rfl (lv_at hl 0 rfl) ?_
          refine gX_X2_21 hx hb htg hown hK hP dX2_join_61 ?_
          refine lv_aload_n hx hb dX2_join_64 rfl (lv_at hl 0 rfl) ?_
          refine gX_X2_54 hx hb htg hown hK hP dX2_join_65 ?_
          refine my_ti (y := fv 10) ((fr_16 10 rfl)) ?_
          refine lv_aload hx hb dX2_join_68 (lv_at hl 4 rfl) ?_
          refine lv_iconst (v := 0) hx hb dX2_join_70 (by decide) ?_
          refine va_calli (va_runS (As := [.ref (ad 1), .int 0]) (rest := [.int (fv 10), .ref (ad 9)]) ⟨hx, hb, hml, hown, hts⟩ (x_pair l dC dI H.size ob ad cA hd fv_13 wd_14 ar_23 hF_fv_13 hA_ar_23 0 (iv_w (⟨by decide, by decide⟩ : (0 : Int) ≤ (0 : Int32).toInt ∧ (0 : Int32).toInt ≤ 0) (by decide) (by decide))) (va_cwS 2 hts (gS kw_3_171 kw_3_172 kw_1_4 kw_3_173) rfl rfl rfl (by decide +kernel) ⟨Nat.le_of_ble_eq_true rfl, Nat.le_of_ble_eq_true rfl⟩) ⟨fun a U g mk q => ⟨q.1, q.2.1, q.2.2.1, va_K.moved (u := U) (U := U.calling g mk a) (Vm.Alike.refl U.vm) q.2.2.2⟩, fun U hU hW => ⟨rfl, by rw [hU], by rw [hU]; exact hP, va_K.moved hW.alike hK⟩⟩ rfl rfl hl.1 rfl (lv_room (Nat.le_of_ble_eq_true rfl)) dX2_join_71 ⟨Nat.le_of_ble_eq_true rfl, Nat.le_of_ble_eq_true rfl⟩) hS (fun q _ h9 => aX_up hS q h9) (aX_up hS) (fun r_24 u t H1 locs ht _ hw hB _ hk1 hS => ?_)
          obtain ⟨fv_25, wd_26, ar_27⟩ := u
          obtain ⟨hF_fv_25, hA_ar_27, fr_28, fa_29, wf_30, -⟩ := hw
          have wf_30 : wd_26.2 = wd_14.2 := wf_30
          have hP : va_P (dC, dI) vwCl (wsX ob ad cA fv_25 wd_26 ar_27) H1 := by have h9 := hB.1; rw [ht] at h9; exact h9
          have fr_28 : fM [] fv_13 fv_25 := fr_28
          have fa_29 : fA [] ar_23 ar_27 := fa_29
          generalize H1 = H at hP hS ⊢
          refine sX_9 hx hb hK hP hS hd (iv_in i_4 (by decide) (by decide)) dX2_join_74 (fun H locs ar_31 ear_31 hP hS => ?_)
          have hA_ar_31 : rB ar_31 := rB_put hA_ar_27 ear_31 (iv_any _)
          refine lv_aload_n hx hb dX2_join_75 rfl (lv_at hl 0 rfl) ?_
          refine gX_X2_24 hx hb htg hown hK hP dX2_join_76 ?_
          refine lv_aload_n hx hb dX2_join_79 rfl (lv_at hl 0 rfl) ?_
          refine gX_X2_54 hx hb htg hown hK hP dX2_join_80 ?_
          refine my_ti (y := fv 10) ((fr_28 10 rfl).trans ((fr_16 10 rfl))) ?_
          refine lv_aload hx hb dX2_join_83 (lv_at hl 4 rfl) ?_
          refine lv_iconst (v := 1) hx hb dX2_join_85 (by decide) ?_
          refine va_calli (va_runS (As := [.ref (ad 1), .int 1]) (rest := [.int (fv 10), .ref (ad 10)]) ⟨hx, hb, hml, hown, hts⟩ (x_pair l dC dI H.size ob ad cA hd fv_25 wd_26 ar_31 hF_fv_25 hA_ar_31 1 (iv_w (⟨by decide, by decide⟩ : (1 : Int) ≤ (1 : Int32).toInt ∧ (1 : Int32).toInt ≤ 1) (by decide) (by decide))) (va_cwS 2 hts (gS kw_3_171 kw_3_172 kw_1_4 kw_3_173) rfl rfl rfl (by decide +kernel) ⟨Nat.le_of_ble_eq_true rfl, Nat.le_of_ble_eq_true rfl⟩) ⟨fun a U g mk q => ⟨q.1, q.2.1, q.2.2.1, va_K.moved (u := U) (U := U.calling g mk a) (Vm.Alike.refl U.vm) q.2.2.2⟩, fun U hU hW => ⟨rfl, by rw [hU], by rw [hU]; exact hP, va_K.moved hW.alike hK⟩⟩ rfl rfl hl.1 rfl (lv_room (Nat.le_of_ble_eq_true rfl)) dX2_join_86 ⟨Nat.le_of_ble_eq_true rfl, Nat.le_of_ble_eq_true rfl⟩) hS (fun q _ h9 => aX_up hS q h9) (aX_up hS) (fun r_32 u t H1 locs ht _ hw hB _ hk1 hS => ?_)
          obtain ⟨fv_33, wd_34, ar_35⟩ := u
          obtain ⟨hF_fv_33, hA_ar_35, fr_36, fa_37, wf_38, -⟩ := hw
          have wf_38 : wd_34.2 = wd_26.2 := wf_38
          have hP : va_P (dC, dI) vwCl (wsX ob ad cA fv_33 wd_34 ar_35) H1 := by have h9 := hB.1; rw [ht] at h9; exact h9
          have fr_36 : fM [] fv_25 fv_33 := fr_36
          have fa_37 : fA [] ar_31 ar_35 := fa_37
          generalize H1 = H at hP hS ⊢
          refine sX_10 hx hb hK hP hS hd (iv_in i_4 (by decide) (by decide)) dX2_join_89 (fun H locs ar_39 ear_39 hP hS => ?_)
          have hA_ar_39 : rB ar_39 := rB_put hA_ar_35 ear_39 (iv_any _)
          refine lv_aload_n hx hb dX2_join_90 rfl (lv_at hl 0 rfl) ?_
          refine gX_X2_27 hx hb htg hown hK hP dX2_join_91 ?_
          refine lv_aload_n hx hb dX2_join_94 rfl (lv_at hl 0 rfl) ?_
          refine gX_X2_54 hx hb htg hown hK hP dX2_join_95 ?_
          refine my_ti (y := fv 10) ((fr_36 10 rfl).trans ((fr_28 10 rfl).trans ((fr_16 10 rfl)))) ?_
          refine lv_aload hx hb dX2_join_98 (lv_at hl 4 rfl) ?_
          refine lv_iconst (v := 2) hx hb dX2_join_100 (by decide) ?_
          refine va_calli (va_runS (As := [.ref (ad 1), .int 2]) (rest := [.int (fv 10), .ref (ad 11)]) ⟨hx, hb, hml, hown, hts⟩ (x_pair l dC dI H.size ob ad cA hd fv_33 wd_34 ar_39 hF_fv_33 hA_ar_39 2 (iv_w (⟨by decide, by decide⟩ : (2 : Int) ≤ (2 : Int32).toInt ∧ (2 : Int32).toInt ≤ 2) (by decide) (by decide))) (va_cwS 2 hts (gS kw_3_171 kw_3_172 kw_1_4 kw_3_173) rfl rfl rfl (by decide +kernel) ⟨Nat.le_of_ble_eq_true rfl, Nat.le_of_ble_eq_true rfl⟩) ⟨fun a U g mk q => ⟨q.1, q.2.1, q.2.2.1, va_K.moved (u := U) (U := U.calling g mk a) (Vm.Alike.refl U.vm) q.2.2.2⟩, fun U hU hW => ⟨rfl, by rw [hU], by rw [hU]; exact hP, va_K.moved hW.alike hK⟩⟩ rfl rfl hl.1 rfl (lv_room (Nat.le_of_ble_eq_true rfl)) dX2_join_101 ⟨Nat.le_of_ble_eq_true rfl, Nat.le_of_ble_eq_true rfl⟩) hS (fun q _ h9 => aX_up hS q h9) (aX_up hS) (fun r_40 u t H1 locs ht _ hw hB _ hk1 hS => ?_)
          obtain ⟨fv_41, wd_42, ar_43⟩ := u
          obtain ⟨hF_fv_41, hA_ar_43, fr_44, fa_45, wf_46, -⟩ := hw
          have wf_46 : wd_42.2 = wd_34.2 := wf_46
          have hP : va_P (dC, dI) vwCl (wsX ob ad cA fv_41 wd_42 ar_43) H1 := by have h9 := hB.1; rw [ht] at h9; exact h9
          have fr_44 : fM [] fv_33 fv_41 := fr_44
          have fa_45 : fA [] ar_39 ar_43 := fa_45
          generalize H1 = H at hP hS ⊢
          refine sX_11 hx hb hK hP hS hd (iv_in i_4 (by decide) (by decide)) dX2_join_104 (fun H locs ar_47 ear_47 hP hS => ?_)
          have hA_ar_47 : rB ar_47 := rB_put hA_ar_43 ear_47 (iv_any _)
          refine lv_aload_n hx hb dX2_join_105 rfl (lv_at hl 0 rfl) ?_
          refine gX_X2_30 hx hb htg hown hK hP dX2_join_106 ?_
          refine lv_aload_n hx hb dX2_join_109 rfl (lv_at hl 0 rfl) ?_
          refine gX_X2_54 hx hb htg hown hK hP dX2_join_110 ?_
          refine my_ti (y := fv 10) ((fr_44 10 rfl).trans ((fr_36 10 rfl).trans ((fr_28 10 rfl).trans ((fr_16 10 rfl))))) ?_
          refine lv_aload hx hb dX2_join_113 (lv_at hl 4 rfl) ?_
          refine lv_iconst (v := 3) hx hb dX2_join_115 (by decide) ?_
          refine va_calli (va_runS (As := [.ref (ad 1), .int 3]) (rest := [.int (fv 10), .ref (ad 12)]) ⟨hx, hb, hml, hown, hts⟩ (x_pair l dC dI H.size ob ad cA hd fv_41 wd_42 ar_47 hF_fv_41 hA_ar_47 3 (iv_w (⟨by decide, by decide⟩ : (3 : Int) ≤ (3 : Int32).toInt ∧ (3 : Int32).toInt ≤ 3) (by decide) (by decide))) (va_cwS 2 hts (gS kw_3_171 kw_3_172 kw_1_4 kw_3_173) rfl rfl rfl (by decide +kernel) ⟨Nat.le_of_ble_eq_true rfl, Nat.le_of_ble_eq_true rfl⟩) ⟨fun a U g mk q => ⟨q.1, q.2.1, q.2.2.1, va_K.moved (u := U) (U := U.calling g mk a) (Vm.Alike.refl U.vm) q.2.2.2⟩, fun U hU hW => ⟨rfl, by rw [hU], by rw [hU]; exact hP, va_K.moved hW.alike hK⟩⟩ rfl rfl hl.1 rfl (lv_room (Nat.le_of_ble_eq_true rfl)) dX2_join_116 ⟨Nat.le_of_ble_eq_true rfl, Nat.le_of_ble_eq_true rfl⟩) hS (fun q _ h9 => aX_up hS q h9) (aX_up hS) (fun r_48 u t H1 locs ht _ hw hB _ hk1 hS => ?_)
          obtain ⟨fv_49, wd_50, ar_51⟩ := u
          obtain ⟨hF_fv_49, hA_ar_51, fr_52, fa_53, wf_54, -⟩ := hw
          have wf_54 : wd_50.2 = wd_42.2 := wf_54
          have hP : va_P (dC, dI) vwCl (wsX ob ad cA fv_49 wd_50 ar_51) H1 := by have h9 := hB.1; rw [ht] at h9; exact h9
          have fr_52 : fM [] fv_41 fv_49 := fr_52
          have fa_53 : fA [] ar_47 ar_51 := fa_53
          generalize H1 = H at hP hS ⊢
          refine sX_12 hx hb hK hP hS hd (iv_in i_4 (by decide) (by decide)) dX2_join_119 (fun H locs ar_55 ear_55 hP hS => ?_)
          have hA_ar_55 : rB ar_55 := rB_put hA_ar_51 ear_55 (iv_any _)
          refine lv_aload_n hx hb dX2_join_120 rfl (lv_at hl 0 rfl) ?_
          refine gX_X2_33 hx hb htg hown hK hP dX2_join_121 ?_
          refine lv_aload_n hx hb dX2_join_124 rfl (lv_at hl 0 rfl) ?_
          refine gX_X2_54 hx hb htg hown hK hP dX2_join_125 ?_
          refine my_ti (y := fv 10) ((fr_52 10 rfl).trans ((fr_44 10 rfl).trans ((fr_36 10 rfl).trans ((fr_28 10 rfl).trans ((fr_16 10 rfl)))))) ?_
          refine lv_aload hx hb dX2_join_128 (lv_at hl 4 rfl) ?_
          refine lv_iconst (v := 4) hx hb dX2_join_130 (by decide) ?_
          refine va_calli (va_runS (As := [.ref (ad 1), .int 4]) (rest := [.int (fv 10), .ref (ad 13)]) ⟨hx, hb, hml, hown, hts⟩ (x_pair l dC dI H.size ob ad cA hd fv_49 wd_50 ar_55 hF_fv_49 hA_ar_55 4 (iv_w (⟨by decide, by decide⟩ : (4 : Int) ≤ (4 : Int32).toInt ∧ (4 : Int32).toInt ≤ 4) (by decide) (by decide))) (va_cwS 2 hts (gS kw_3_171 kw_3_172 kw_1_4 kw_3_173) rfl rfl rfl (by decide +kernel) ⟨Nat.le_of_ble_eq_true rfl, Nat.le_of_ble_eq_true rfl⟩) ⟨fun a U g mk q => ⟨q.1, q.2.1, q.2.2.1, va_K.moved (u := U) (U := U.calling g mk a) (Vm.Alike.refl U.vm) q.2.2.2⟩, fun U hU hW => ⟨rfl, by rw [hU], by rw [hU]; exact hP, va_K.moved hW.alike hK⟩⟩ rfl rfl hl.1 rfl (lv_room (Nat.le_of_ble_eq_true rfl)) dX2_join_131 ⟨Nat.le_of_ble_eq_true rfl, Nat.le_of_ble_eq_true rfl⟩) hS (fun q _ h9 => aX_up hS q h9) (aX_up hS) (fun r_56 u t H1 locs ht _ hw hB _ hk1 hS => ?_)
          obtain ⟨fv_57, wd_58, ar_59⟩ := u
          obtain ⟨hF_fv_57, hA_ar_59, fr_60, fa_61, wf_62, -⟩ := hw
          have wf_62 : wd_58.2 = wd_50.2 := wf_62
          have hP : va_P (dC, dI) vwCl (wsX ob ad cA fv_57 wd_58 ar_59) H1 := by have h9 := hB.1; rw [ht] at h9; exact h9
          have fr_60 : fM [] fv_49 fv_57 := fr_60
          have fa_61 : fA [] ar_55 ar_59 := fa_61
          generalize H1 = H at hP hS ⊢
          refine lv_bipush (v := 10) hx hb dX2_join_134 (by decide) ?_
          refine lv_imul hx hb dX2_join_136 ?_
          refine lv_topi (fun v_63 ev_63 => ?_)
          refine sX_13 hx hb hK hP hS hd (iv_in i_4 (by decide) (by decide)) dX2_join_137 (fun H locs ar_64 ear_64 hP hS => ?_)
          have hA_ar_64 : rB ar_64 := rB_put hA_ar_59 ear_64 (iv_any _)
          refine lv_aload_n hx hb dX2_join_138 rfl (lv_at hl 0 rfl) ?_
          refine gX_X2_36 hx hb htg hown hK hP dX2_join_139 ?_
          refine lv_aload_n hx hb dX2_join_142 rfl (lv_at hl 0 rfl) ?_
          refine gX_X2_54 hx hb htg hown hK hP dX2_join_143 ?_
          refine my_ti (y := fv 10) ((fr_60 10 rfl).trans ((fr_52 10 rfl).trans ((fr_44 10 rfl).trans ((fr_36 10 rfl).trans ((fr_28 10 rfl).trans ((fr_16 10 rfl))))))) ?_
          refine lv_aload hx hb dX2_join_146 (lv_at hl 4 rfl) ?_
          refine lv_iconst (v := 5) hx hb dX2_join_148 (by decide) ?_
          refine va_calli (va_runS (As := [.ref (ad 1), .int 5]) (rest := [.int (fv 10), .ref (ad 14)]) ⟨hx, hb, hml, hown, hts⟩ (x_pair l dC dI H.size ob ad cA hd fv_57 wd_58 ar_64 hF_fv_57 hA_ar_64 5 (iv_w (⟨by decide, by decide⟩ : (5 : Int) ≤ (5 : Int32).toInt ∧ (5 : Int32).toInt ≤ 5) (by decide) (by decide))) (va_cwS 2 hts (gS kw_3_171 kw_3_172 kw_1_4 kw_3_173) rfl rfl rfl (by decide +kernel) ⟨Nat.le_of_ble_eq_true rfl, Nat.le_of_ble_eq_true rfl⟩) ⟨fun a U g mk q => ⟨q.1, q.2.1, q.2.2.1, va_K.moved (u := U) (U := U.calling g mk a) (Vm.Alike.refl U.vm) q.2.2.2⟩, fun U hU hW => ⟨rfl, by rw [hU], by rw [hU]; exact hP, va_K.moved hW.alike hK⟩⟩ rfl rfl hl.1 rfl (lv_room (Nat.le_of_ble_eq_true rfl)) dX2_join_149 ⟨Nat.le_of_ble_eq_true rfl, Nat.le_of_ble_eq_true rfl⟩) hS (fun q _ h9 => aX_up hS q h9) (aX_up hS) (fun r_65 u t H1 locs ht _ hw hB _ hk1 hS => ?_)
          obtain ⟨fv_66, wd_67, ar_68⟩ := u
          obtain ⟨hF_fv_66, hA_ar_68, fr_69, fa_70, wf_71, -⟩ := hw
          have wf_71 : wd_67.2 = wd_58.2 := wf_71
          have hP : va_P (dC, dI) vwCl (wsX ob ad cA fv_66 wd_67 ar_68) H1 := by have h9 := hB.1; rw [ht] at h9; exact h9
          have fr_69 : fM [] fv_57 fv_66 := fr_69
          have fa_70 : fA [] ar_64 ar_68 := fa_70
          generalize H1 = H at hP hS ⊢
          refine sX_14 hx hb hK hP hS hd (iv_in i_4 (by decide) (by decide)) dX2_join_152 (fun H locs ar_72 ear_72 hP hS => ?_)
          have hA_ar_72 : rB ar_72 := rB_put hA_ar_68 ear_72 (iv_any _)
          refine lv_aload_n hx hb dX2_join_153 rfl (lv_at hl 0 rfl) ?_
          refine gX_X2_39 hx hb htg hown hK hP dX2_join_154 ?_
          refine lv_aload_n hx hb dX2_join_157 rfl (lv_at hl 0 rfl) ?_
          refine gX_X2_54 hx hb htg hown hK hP dX2_join_158 ?_
          refine my_ti (y := fv 10) ((fr_69 10 rfl).trans ((fr_60 10 rfl).trans ((fr_52 10 rfl).trans ((fr_44 10 rfl).trans ((fr_36 10 rfl).trans ((fr_28 10 rfl).trans ((fr_16 10 rfl)))))))) ?_
          refine lv_iconst (v := (-1)) hx hb dX2_join_161 (by decide) ?_
          refine sX_15 hx hb hK hP hS hd (iv_in i_4 (by decide) (by decide)) dX2_join_162 (fun H locs ar_73 ear_73 hP hS => ?_)
          have hA_ar_73 : rB ar_73 := rB_put hA_ar_72 ear_73 (iv_any _)
          refine lv_aload_n hx hb dX2_join_163 rfl (lv_at hl 0 rfl) ?_
          refine lv_dup hx hb dX2_join_164 rfl ?_
          refine gX_X2_54 hx hb htg hown hK hP dX2_join_165 ?_
          refine my_ti (y := fv 10) ((fr_69 10 rfl).trans ((fr_60 10 rfl).trans ((fr_52 10 rfl).trans ((fr_44 10 rfl).trans ((fr_36 10 rfl).trans ((fr_28 10 rfl).trans ((fr_16 10 rfl)))))))) ?_
          refine lv_iconst (v := 1) hx hb dX2_join_168 (by decide) ?_
          refine lv_iadd hx hb dX2_join_169 ?_
          refine lv_topi (fun v_74 ev_74 => ?_)
          have t_75 : v_74.toInt = (fv 10).toInt + 1 ∧ 1 ≤ v_74.toInt ∧ v_74.toInt ≤ 40 := iv_addc ev_74 i_4 (by decide) (by decide) (by decide)
          refine pX_X2_54 hx hb htg hown hK hP hS hd dX2_join_170 (fun H locs fv_77 efv_77 hP hS => ?_)
          have hF_fv_77 : rX fv_77 := rX_put hF_fv_66 efv_77 (iv_w t_75.2 (by decide) (by decide))
          refine lv_aload_n hx hb dX2_join_173 rfl (lv_at hl 0 rfl) ?_
          refine gX_X2_54 hx hb htg hown hK hP dX2_join_174 ?_
          refine my_ti (y := v_74) ((congrFun efv_77 10)) ?_
          refine lv_iconst (v := 1) hx hb dX2_join_177 (by decide) ?_
          refine lv_isub hx hb dX2_join_178 ?_
          refine lv_topi (fun v_78 ev_78 => ?_)
          have t_79 : v_78.toInt = v_74.toInt - 1 ∧ 0 ≤ v_78.toInt ∧ v_78.toInt ≤ 39 := iv_subc ev_78 t_75.2 (by decide) (by decide) (by decide)
          exact W.iret (v := v_78) hx hb hr (fun t ht hW => ⟨⟨v_78, (fv_77, wd_67, ar_73), rfl, ⟨hF_fv_77, hA_ar_73, (fM_put (fM_call (fM_call (fM_call (fM_call (fM_call (fM_call (fM_call (fM_rf [10] _) fr_16 (by decide)) fr_28 (by decide)) fr_36 (by decide)) fr_44 (by decide)) fr_52 (by decide)) fr_60 (by decide)) fr_69 (by decide)) efv_77 (by decide)), (fA_put (fA_put (fA_call (fA_put (fA_call (fA_put (fA_call (fA_put (fA_call (fA_put (fA_call (fA_put (fA_call (fA_put (fA_put (fA_put (fA_call (fA_rf [6, 7, 8, 9, 10, 11, 12, 13, 14, 15] _) fa_17 (by decide)) ear_21 (by decide)) ear_22 (by decide)) ear_23 (by decide)) fa_29 (by decide)) ear_31 (by decide)) fa_37 (by decide)) ear_39 (by decide)) fa_45 (by decide)) ear_47 (by decide)) fa_53 (by decide)) ear_55 (by decide)) fa_61 (by decide)) ear_64 (by decide)) fa_70 (by decide)) ear_72 (by decide)) ear_73 (by decide)), (wf_71.trans (wf_62.trans (wf_54.trans (wf_46.trans (wf_38.trans (wf_30.trans wf_18)))))), trivial⟩, ⟨by rw [ht]; exact hP, va_K.moved hW.alike hK⟩⟩, hS.F ht⟩) hS.2.2 dX2_join_179
        · skip
          have i_81 : 0 ≤ r_11.toInt ∧ r_11.toInt ≤ 0 := iv_eq1 (⟨by decide, by decide⟩ : (0 : Int) ≤ (0 : Int32).toInt ∧ (0 : Int32).toInt ≤ 0) c_19
          refine lv_iconst (v := (-1)) hx hb dX2_join_28 (by decide) ?_
          exact W.iret (v := (-1)) hx hb hr (fun t ht hW => ⟨⟨(-1), (fv_13, wd_14, ar_15), rfl, ⟨hF_fv_13, hA_ar_15, (fM_call (fM_rf [10] _) fr_16 (by decide)), (fA_call (fA_rf [6, 7, 8, 9, 10, 11, 12, 13, 14, 15] _) fa_17 (by decide)), wf_18, trivial⟩, ⟨by rw [ht]; exact hP, va_K.moved hW.alike hK⟩⟩, hS.F ht⟩) hS.2.2 dX2_join_29
set_option maxHeartbeats 4000000 in
set_option maxRecDepth 100000 in
theorem x_ptell (l : Launch) (dC : Nat → ClassId) (dI : Nat → Nat → Nat) (sz : Nat) (ob ad : Nat → Nat) (cA : Nat → ClassId) (hd : dX ob ad) (fv : Nat → Int32) (wd : xT) (ar : Nat → Nat → Int32) (hF_fv : rX fv) (hA_ar : rB ar) (pp : Int32) (b : Int32) (h_pp : 0 ≤ pp.toInt ∧ pp.toInt ≤ 39) : Met l yX2_tellOf (.code yX2_tellOf cX2_tellOf 3 (some .int) :: lw_good) ({ frames := 2, cells := 0, slots := 0, locals := 40 }) (va_Pc [.ref (ob 3), .int pp, .int b] (prX dC dI ob ad cA fv wd ar sz)) (va_Qi (fun (r : Int32) (u : xS) => rX u.1 ∧ rB u.2.2 ∧ fM [] fv u.1 ∧ fA [] ar u.2.2 ∧ u.2.1.2 = wd.2 ∧ True) (enX dC dI ob ad cA) (aX ob ad sz)) 0 0 (aX ob ad sz) := by
  refine Met.ofW (cc := cX2_tellOf) (maxL := 3) (ret := (some .int)) (by decide) rfl ?_
  intro p e s m args below meth c s₁ B hml hv
  obtain ⟨rfl, hsz, hP, hK⟩ := hv
  have hx := B.exec
  have hb := B.bytes
  have hr := B.returns
  have hts := atoms_spec (ws := (.code yX2_tellOf cX2_tellOf 3 (some .int) :: lw_good)) B.pre
  have htg : ∀ w ∈ lw_good, w.before _ s = true := fun w hw => hts w (List.mem_cons_of_mem _ hw)
  have hown : s.vm.findClass RX2 = some m.cls := findClass_of_methodNamed B.named
  have hlocks := B.notSynchronized
  subst hsz
  have hS : va_S (aX ob ad s.heap.size) s.heap s.heap [] := va_S.rf
  have hl := lv_entry ([.ref (ob 3), .int pp, .int b]) (n := 3) (Nat.le_of_ble_eq_true rfl)
  rw [lg_entry_eq]
  generalize (lg_sl ([.ref (ob 3), .int pp, .int b]) ++ List.replicate (3 - (lg_sl ([.ref (ob 3), .int pp, .int b])).length) Slot.unset).toArray = ls at hl ⊢
  have hl : lv_has ls 3 [(0, .ref (ob 3)), (1, .int pp), (2, .int b)] := hl
  refine lv_iload_n hx hb dX2_tellOf_0 rfl (lv_at hl 2 rfl) ?_
  rcases ix_sw_0_6 b with w_1 | w_1 | w_1 | w_1 | w_1 | w_1 | w_1 | w_1
  · skip
    refine lv_tableOut (tgt := 82) hx hb dX2_tellOf_1 (Or.inl w_1) (by decide) ?_
    refine lv_aload_n hx hb dX2_tellOf_82 rfl (lv_at hl 0 rfl) ?_
    refine gX_X2_51 hx hb htg hown hK hP dX2_tellOf_83 ?_
    refine lv_iload_n hx hb dX2_tellOf_86 rfl (lv_at hl 1 rfl) ?_
    refine lX_19 hx hb hK hP (iv_in h_pp (by decide) (by decide)) dX2_tellOf_87 (fun v_2 ev_2 => ?_)
    exact W.iret (v := v_2) hx hb hr (fun t ht hW => ⟨⟨v_2, (fv, wd, ar), rfl, ⟨hF_fv, hA_ar, (fM_rf [] _), (fA_rf [] _), rfl, trivial⟩, ⟨by rw [ht]; exact hP, va_K.moved hW.alike hK⟩⟩, hS.F ht⟩) hS.2.2 dX2_tellOf_88
  · skip
    refine lv_tableOut (tgt := 82) hx hb dX2_tellOf_1 (Or.inr w_1) (by decide) ?_
    refine lv_aload_n hx hb dX2_tellOf_82 rfl (lv_at hl 0 rfl) ?_
    refine gX_X2_51 hx hb htg hown hK hP dX2_tellOf_83 ?_
    refine lv_iload_n hx hb dX2_tellOf_86 rfl (lv_at hl 1 rfl) ?_
    refine lX_19 hx hb hK hP (iv_in h_pp (by decide) (by decide)) dX2_tellOf_87 (fun v_3 ev_3 => ?_)
    exact W.iret (v := v_3) hx hb hr (fun t ht hW => ⟨⟨v_3, (fv, wd, ar), rfl, ⟨hF_fv, hA_ar, (fM_rf [] _), (fA_rf [] _), rfl, trivial⟩, ⟨by rw [ht]; exact hP, va_K.moved hW.alike hK⟩⟩, hS.F ht⟩) hS.2.2 dX2_tellOf_88
  · skip
    refine lv_tableIn (off := 39) (tgt := 40) hx hb dX2_tellOf_1 (by rw [w_1]; decide) (by rw [w_1]; decide) (by rw [w_1]; rfl) (by decide) ?_
    refine lv_aload_n hx hb dX2_tellOf_40 rfl (lv_at hl 0 rfl) ?_
    refine gX_X2_39 hx hb htg hown hK hP dX2_tellOf_41 ?_
    refine lv_iload_n hx hb dX2_tellOf_44 rfl (lv_at hl 1 rfl) ?_
    refine lX_15 hx hb hK hP (iv_in h_pp (by decide) (by decide)) dX2_tellOf_45 (fun v_4 ev_4 => ?_)
    exact W.iret (v := v_4) hx hb hr (fun t ht hW => ⟨⟨v_4, (fv, wd, ar), rfl, ⟨hF_fv, hA_ar, (fM_rf [] _), (fA_rf [] _), rfl, trivial⟩, ⟨by rw [ht]; exact hP, va_K.moved hW.alike hK⟩⟩, hS.F ht⟩) hS.2.2 dX2_tellOf_46
  · skip
    refine lv_tableIn (off := 46) (tgt := 47) hx hb dX2_tellOf_1 (by rw [w_1]; decide) (by rw [w_1]; decide) (by rw [w_1]; rfl) (by decide) ?_
    refine lv_aload_n hx hb dX2_tellOf_47 rfl (lv_at hl 0 rfl) ?_
    refine gX_X2_42 hx hb htg hown hK hP dX2_tellOf_48 ?_
    refine lv_iload_n hx hb dX2_tellOf_51 rfl (lv_at hl 1 rfl) ?_
    refine lX_16 hx hb hK hP (iv_in h_pp (by decide) (by decide)) dX2_tellOf_52 (fun v_5 ev_5 => ?_)
    exact W.iret (v := v_5) hx hb hr (fun t ht hW => ⟨⟨v_5, (fv, wd, ar), rfl, ⟨hF_fv, hA_ar, (fM_rf [] _), (fA_rf [] _), rfl, trivial⟩, ⟨by rw [ht]; exact hP, va_K.moved hW.alike hK⟩⟩, hS.F ht⟩) hS.2.2 dX2_tellOf_53
  · skip
    refine lv_tableIn (off := 53) (tgt := 54) hx hb dX2_tellOf_1 (by rw [w_1]; decide) (by rw [w_1]; decide) (by rw [w_1]; rfl) (by decide) ?_
    refine lv_aload_n hx hb dX2_tellOf_54 rfl (lv_at hl 0 rfl) ?_
    refine gX_X2_45 hx hb htg hown hK hP dX2_tellOf_55 ?_
    refine lv_iload_n hx hb dX2_tellOf_58 rfl (lv_at hl 1 rfl) ?_
    refine lX_17 hx hb hK hP (iv_in h_pp (by decide) (by decide)) dX2_tellOf_59 (fun v_6 ev_6 => ?_)
    exact W.iret (v := v_6) hx hb hr (fun t ht hW => ⟨⟨v_6, (fv, wd, ar), rfl, ⟨hF_fv, hA_ar, (fM_rf [] _), (fA_rf [] _), rfl, trivial⟩, ⟨by rw [ht]; exact hP, va_K.moved hW.alike hK⟩⟩, hS.F ht⟩) hS.2.2 dX2_tellOf_60
  · skip
    refine lv_tableIn (off := 60) (tgt := 61) hx hb dX2_tellOf_1 (by rw [w_1]; decide) (by rw [w_1]; decide) (by rw [w_1]; rfl) (by decide) ?_
    refine lv_aload_n hx hb dX2_tellOf_61 rfl (lv_at hl 0 rfl) ?_
    refine gX_X2_48 hx hb htg hown hK hP dX2_tellOf_62 ?_
    refine lv_iload_n hx hb dX2_tellOf_65 rfl (lv_at hl 1 rfl) ?_
    refine lX_18 hx hb hK hP (iv_in h_pp (by decide) (by decide)) dX2_tellOf_66 (fun v_7 ev_7 => ?_)
    exact W.iret (v := v_7) hx hb hr (fun t ht hW => ⟨⟨v_7, (fv, wd, ar), rfl, ⟨hF_fv, hA_ar, (fM_rf [] _), (fA_rf [] _), rfl, trivial⟩, ⟨by rw [ht]; exact hP, va_K.moved hW.alike hK⟩⟩, hS.F ht⟩) hS.2.2 dX2_tellOf_67
  · skip
    refine lv_tableIn (off := 67) (tgt := 68) hx hb dX2_tellOf_1 (by rw [w_1]; decide) (by rw [w_1]; decide) (by rw [w_1]; rfl) (by decide) ?_
    refine lv_aload_n hx hb dX2_tellOf_68 rfl (lv_at hl 0 rfl) ?_
    refine gX_X2_33 hx hb htg hown hK hP dX2_tellOf_69 ?_
    refine lv_iload_n hx hb dX2_tellOf_72 rfl (lv_at hl 1 rfl) ?_
    refine lX_13 hx hb hK hP (iv_in h_pp (by decide) (by decide)) dX2_tellOf_73 (fun v_8 ev_8 => ?_)
    exact W.iret (v := v_8) hx hb hr (fun t ht hW => ⟨⟨v_8, (fv, wd, ar), rfl, ⟨hF_fv, hA_ar, (fM_rf [] _), (fA_rf [] _), rfl, trivial⟩, ⟨by rw [ht]; exact hP, va_K.moved hW.alike hK⟩⟩, hS.F ht⟩) hS.2.2 dX2_tellOf_74
  · skip
    refine lv_tableIn (off := 74) (tgt := 75) hx hb dX2_tellOf_1 (by rw [w_1]; decide) (by rw [w_1]; decide) (by rw [w_1]; rfl) (by decide) ?_
    refine lv_aload_n hx hb dX2_tellOf_75 rfl (lv_at hl 0 rfl) ?_
    refine gX_X2_30 hx hb htg hown hK hP dX2_tellOf_76 ?_
    refine lv_iload_n hx hb dX2_tellOf_79 rfl (lv_at hl 1 rfl) ?_
    refine lX_12 hx hb hK hP (iv_in h_pp (by decide) (by decide)) dX2_tellOf_80 (fun v_9 ev_9 => ?_)
    exact W.iret (v := v_9) hx hb hr (fun t ht hW => ⟨⟨v_9, (fv, wd, ar), rfl, ⟨hF_fv, hA_ar, (fM_rf [] _), (fA_rf [] _), rfl, trivial⟩, ⟨by rw [ht]; exact hP, va_K.moved hW.alike hK⟩⟩, hS.F ht⟩) hS.2.2 dX2_tellOf_81
set_option maxHeartbeats 4000000 in
set_option maxRecDepth 100000 in
theorem x_wtell (l : Launch) (dC : Nat → ClassId) (dI : Nat → Nat → Nat) (sz : Nat) (ob ad : Nat → Nat) (cA : Nat → ClassId) (hd : dX ob ad) (fv : Nat → Int32) (wd : xT) (ar : Nat → Nat → Int32) (hF_fv : rX fv) (hA_ar : rB ar) (ww : Int32) (b : Int32) (h_ww : 0 ≤ ww.toInt ∧ ww.toInt ≤ 19) : Met l yX10_tellOf (.code yX10_tellOf cX10_tellOf 3 (some .int) :: lw_good) ({ frames := 2, cells := 0, slots := 0, locals := 40 }) (va_Pc [.ref (ob 4), .int ww, .int b] (prX dC dI ob ad cA fv wd ar sz)) (va_Qi (fun (r : Int32) (u : xS) => rX u.1 ∧ rB u.2.2 ∧ fM [] fv u.1 ∧ fA [] ar u.2.2 ∧ u.2.1.2 = wd.2 ∧ True) (enX dC dI ob ad cA) (aX ob ad sz)) 0 0 (aX ob ad sz) := by
  refine Met.ofW (cc := cX10_tellOf) (maxL := 3) (ret := (some .int)) (by decide) rfl ?_
  intro p e s m args below meth c s₁ B hml hv
  obtain ⟨rfl, hsz, hP, hK⟩ := hv
  have hx := B.exec
  have hb := B.bytes
  have hr := B.returns
  have hts := atoms_spec (ws := (.code yX10_tellOf cX10_tellOf 3 (some .int) :: lw_good)) B.pre
  have htg : ∀ w ∈ lw_good, w.before _ s = true := fun w hw => hts w (List.mem_cons_of_mem _ hw)
  have hown : s.vm.findClass RX10 = some m.cls := findClass_of_methodNamed B.named
  have hlocks := B.notSynchronized
  subst hsz
  have hS : va_S (aX ob ad s.heap.size) s.heap s.heap [] := va_S.rf
  have hl := lv_entry ([.ref (ob 4), .int ww, .int b]) (n := 3) (Nat.le_of_ble_eq_true rfl)
  rw [lg_entry_eq]
  generalize (lg_sl ([.ref (ob 4), .int ww, .int b]) ++ List.replicate (3 - (lg_sl ([.ref (ob 4), .int ww, .int b])).length) Slot.unset).toArray = ls at hl ⊢
  have hl : lv_has ls 3 [(0, .ref (ob 4)), (1, .int ww), (2, .int b)] := hl
  refine lv_iload_n hx hb dX10_tellOf_0 rfl (lv_at hl 2 rfl) ?_
  rcases ix_sw_0_4 b with w_1 | w_1 | w_1 | w_1 | w_1 | w_1
  · skip
    refine lv_tableOut (tgt := 60) hx hb dX10_tellOf_1 (Or.inl w_1) (by decide) ?_
    refine lv_iconst (v := (-1)) hx hb dX10_tellOf_60 (by decide) ?_
    exact W.iret (v := (-1)) hx hb hr (fun t ht hW => ⟨⟨(-1), (fv, wd, ar), rfl, ⟨hF_fv, hA_ar, (fM_rf [] _), (fA_rf [] _), rfl, trivial⟩, ⟨by rw [ht]; exact hP, va_K.moved hW.alike hK⟩⟩, hS.F ht⟩) hS.2.2 dX10_tellOf_61
  · skip
    refine lv_tableOut (tgt := 60) hx hb dX10_tellOf_1 (Or.inr w_1) (by decide) ?_
    refine lv_iconst (v := (-1)) hx hb dX10_tellOf_60 (by decide) ?_
    exact W.iret (v := (-1)) hx hb hr (fun t ht hW => ⟨⟨(-1), (fv, wd, ar), rfl, ⟨hF_fv, hA_ar, (fM_rf [] _), (fA_rf [] _), rfl, trivial⟩, ⟨by rw [ht]; exact hP, va_K.moved hW.alike hK⟩⟩, hS.F ht⟩) hS.2.2 dX10_tellOf_61
  · skip
    refine lv_tableIn (off := 31) (tgt := 32) hx hb dX10_tellOf_1 (by rw [w_1]; decide) (by rw [w_1]; decide) (by rw [w_1]; rfl) (by decide) ?_
    refine lv_aload_n hx hb dX10_tellOf_32 rfl (lv_at hl 0 rfl) ?_
    refine gX_X10_27 hx hb htg hown hK hP dX10_tellOf_33 ?_
    refine lv_iload_n hx hb dX10_tellOf_36 rfl (lv_at hl 1 rfl) ?_
    refine lX_25 hx hb hK hP (iv_in h_ww (by decide) (by decide)) dX10_tellOf_37 (fun v_2 ev_2 => ?_)
    exact W.iret (v := v_2) hx hb hr (fun t ht hW => ⟨⟨v_2, (fv, wd, ar), rfl, ⟨hF_fv, hA_ar, (fM_rf [] _), (fA_rf [] _), rfl, trivial⟩, ⟨by rw [ht]; exact hP, va_K.moved hW.alike hK⟩⟩, hS.F ht⟩) hS.2.2 dX10_tellOf_38
  · skip
    refine lv_tableIn (off := 38) (tgt := 39) hx hb dX10_tellOf_1 (by rw [w_1]; decide) (by rw [w_1]; decide) (by rw [w_1]; rfl) (by decide) ?_
    refine lv_aload_n hx hb dX10_tellOf_39 rfl (lv_at hl 0 rfl) ?_
    refine gX_X10_30 hx hb htg hown hK hP dX10_tellOf_40 ?_
    refine lv_iload_n hx hb dX10_tellOf_43 rfl (lv_at hl 1 rfl) ?_
    refine lX_26 hx hb hK hP (iv_in h_ww (by decide) (by decide)) dX10_tellOf_44 (fun v_3 ev_3 => ?_)
    exact W.iret (v := v_3) hx hb hr (fun t ht hW => ⟨⟨v_3, (fv, wd, ar), rfl, ⟨hF_fv, hA_ar, (fM_rf [] _), (fA_rf [] _), rfl, trivial⟩, ⟨by rw [ht]; exact hP, va_K.moved hW.alike hK⟩⟩, hS.F ht⟩) hS.2.2 dX10_tellOf_45
  · skip
    refine lv_tableIn (off := 45) (tgt := 46) hx hb dX10_tellOf_1 (by rw [w_1]; decide) (by rw [w_1]; decide) (by rw [w_1]; rfl) (by decide) ?_
    refine lv_aload_n hx hb dX10_tellOf_46 rfl (lv_at hl 0 rfl) ?_
    refine gX_X10_24 hx hb htg hown hK hP dX10_tellOf_47 ?_
    refine lv_iload_n hx hb dX10_tellOf_50 rfl (lv_at hl 1 rfl) ?_
    refine lX_24 hx hb hK hP (iv_in h_ww (by decide) (by decide)) dX10_tellOf_51 (fun v_4 ev_4 => ?_)
    exact W.iret (v := v_4) hx hb hr (fun t ht hW => ⟨⟨v_4, (fv, wd, ar), rfl, ⟨hF_fv, hA_ar, (fM_rf [] _), (fA_rf [] _), rfl, trivial⟩, ⟨by rw [ht]; exact hP, va_K.moved hW.alike hK⟩⟩, hS.F ht⟩) hS.2.2 dX10_tellOf_52
  · skip
    refine lv_tableIn (off := 52) (tgt := 53) hx hb dX10_tellOf_1 (by rw [w_1]; decide) (by rw [w_1]; decide) (by rw [w_1]; rfl) (by decide) ?_
    refine lv_aload_n hx hb dX10_tellOf_53 rfl (lv_at hl 0 rfl) ?_
    refine gX_X10_33 hx hb htg hown hK hP dX10_tellOf_54 ?_
    refine lv_iload_n hx hb dX10_tellOf_57 rfl (lv_at hl 1 rfl) ?_
    refine lX_27 hx hb hK hP (iv_in h_ww (by decide) (by decide)) dX10_tellOf_58 (fun v_5 ev_5 => ?_)
    exact W.iret (v := v_5) hx hb hr (fun t ht hW => ⟨⟨v_5, (fv, wd, ar), rfl, ⟨hF_fv, hA_ar, (fM_rf [] _), (fA_rf [] _), rfl, trivial⟩, ⟨by rw [ht]; exact hP, va_K.moved hW.alike hK⟩⟩, hS.F ht⟩) hS.2.2 dX10_tellOf_59
set_option maxHeartbeats 4000000 in
set_option maxRecDepth 100000 in
theorem x_setDays (l : Launch) (dC : Nat → ClassId) (dI : Nat → Nat → Nat) (sz : Nat) (ob ad : Nat → Nat) (cA : Nat → ClassId) (hd : dX ob ad) (fv : Nat → Int32) (wd : xT) (ar : Nat → Nat → Int32) (hF_fv : rX fv) (hA_ar : rB ar) (kk : Int32) (b : Int32) (d : Int32) (f : Int32) (h_kk : 0 ≤ kk.toInt ∧ kk.toInt ≤ 79) : Met l yX8_setDays (.code yX8_setDays cX8_setDays 5 none :: lw_good) ({ frames := 2, cells := 0, slots := 0, locals := 40 }) (va_Pc [.ref (ob 5), .int kk, .int b, .int d, .int f] (prX dC dI ob ad cA fv wd ar sz)) (va_Qv (fun (u : xS) => rX u.1 ∧ rB u.2.2 ∧ fM [] fv u.1 ∧ fA [32, 33, 34] ar u.2.2 ∧ u.2.1.2 = wd.2 ∧ True) (enX dC dI ob ad cA) (aX ob ad sz)) 0 0 (aX ob ad sz) := by
  refine Met.ofW (cc := cX8_setDays) (maxL := 5) (ret := none) (by decide) rfl ?_
  intro p e s m args below meth c s₁ B hml hv
  obtain ⟨rfl, hsz, hP, hK⟩ := hv
  have hx := B.exec
  have hb := B.bytes
  have hr := B.returns
  have hts := atoms_spec (ws := (.code yX8_setDays cX8_setDays 5 none :: lw_good)) B.pre
  have htg : ∀ w ∈ lw_good, w.before _ s = true := fun w hw => hts w (List.mem_cons_of_mem _ hw)
  have hown : s.vm.findClass RX8 = some m.cls := findClass_of_methodNamed B.named
  have hlocks := B.notSynchronized
  subst hsz
  have hS : va_S (aX ob ad s.heap.size) s.heap s.heap [] := va_S.rf
  have hl := lv_entry ([.ref (ob 5), .int kk, .int b, .int d, .int f]) (n := 5) (Nat.le_of_ble_eq_true rfl)
  rw [lg_entry_eq]
  generalize (lg_sl ([.ref (ob 5), .int kk, .int b, .int d, .int f]) ++ List.replicate (5 - (lg_sl ([.ref (ob 5), .int kk, .int b, .int d, .int f])).length) Slot.unset).toArray = ls at hl ⊢
  have hl : lv_has ls 5 [(0, .ref (ob 5)), (1, .int kk), (2, .int b), (3, .int d), (4, .int f)] := hl
  refine lv_aload_n hx hb dX8_setDays_0 rfl (lv_at hl 0 rfl) ?_
  refine gX_X8_24 hx hb htg hown hK hP dX8_setDays_1 ?_
  refine lv_iload_n hx hb dX8_setDays_4 rfl (lv_at hl 1 rfl) ?_
  refine lv_iload_n hx hb dX8_setDays_5 rfl (lv_at hl 2 rfl) ?_
  refine sX_32 hx hb hK hP hS hd (iv_in h_kk (by decide) (by decide)) dX8_setDays_6 (fun H locs ar_1 ear_1 hP hS => ?_)
  have hA_ar_1 : rB ar_1 := rB_put hA_ar ear_1 (iv_any _)
  refine lv_aload_n hx hb dX8_setDays_7 rfl (lv_at hl 0 rfl) ?_
  refine gX_X8_27 hx hb htg hown hK hP dX8_setDays_8 ?_
  refine lv_iload_n hx hb dX8_setDays_11 rfl (lv_at hl 1 rfl) ?_
  refine lv_iload_n hx hb dX8_setDays_12 rfl (lv_at hl 3 rfl) ?_
  refine sX_33 hx hb hK hP hS hd (iv_in h_kk (by decide) (by decide)) dX8_setDays_13 (fun H locs ar_2 ear_2 hP hS => ?_)
  have hA_ar_2 : rB ar_2 := rB_put hA_ar_1 ear_2 (iv_any _)
  refine lv_aload_n hx hb dX8_setDays_14 rfl (lv_at hl 0 rfl) ?_
  refine gX_X8_30 hx hb htg hown hK hP dX8_setDays_15 ?_
  refine lv_iload_n hx hb dX8_setDays_18 rfl (lv_at hl 1 rfl) ?_
  refine lv_iload hx hb dX8_setDays_19 (lv_at hl 4 rfl) ?_
  refine sX_34 hx hb hK hP hS hd (iv_in h_kk (by decide) (by decide)) dX8_setDays_21 (fun H locs ar_3 ear_3 hP hS => ?_)
  have hA_ar_3 : rB ar_3 := rB_put hA_ar_2 ear_3 (iv_any _)
  exact W.vret hx hb hr (fun t ht hW => ⟨⟨(fv, wd, ar_3), rfl, ⟨hF_fv, hA_ar_3, (fM_rf [] _), (fA_put (fA_put (fA_put (fA_rf [32, 33, 34] _) ear_1 (by decide)) ear_2 (by decide)) ear_3 (by decide)), rfl, trivial⟩, ⟨by rw [ht]; exact hP, va_K.moved hW.alike hK⟩⟩, hS.F ht⟩) hS.2.2 dX8_setDays_22
set_option maxHeartbeats 4000000 in
set_option maxRecDepth 100000 in
theorem x_runs (l : Launch) (dC : Nat → ClassId) (dI : Nat → Nat → Nat) (sz : Nat) (ob ad : Nat → Nat) (cA : Nat → ClassId) (hd : dX ob ad) (fv : Nat → Int32) (wd : xT) (ar : Nat → Nat → Int32) (hF_fv : rX fv) (hA_ar : rB ar) (kk : Int32) (b : Int32) (h_kk : 0 ≤ kk.toInt ∧ kk.toInt ≤ 79) : Met l yX8_runs (.code yX8_runs cX8_runs 3 (some .boolean) :: lw_good) ({ frames := 2, cells := 0, slots := 0, locals := 40 }) (va_Pc [.ref (ob 5), .int kk, .int b] (prX dC dI ob ad cA fv wd ar sz)) (va_Qi (fun (r : Int32) (u : xS) => rX u.1 ∧ rB u.2.2 ∧ fM [] fv u.1 ∧ fA [] ar u.2.2 ∧ u.2.1.2 = wd.2 ∧ (0 ≤ r.toInt ∧ r.toInt ≤ 1) ∧ True) (enX dC dI ob ad cA) (aX ob ad sz)) 0 0 (aX ob ad sz) := by
  refine Met.ofW (cc := cX8_runs) (maxL := 3) (ret := (some .boolean)) (by decide) rfl ?_
  intro p e s m args below meth c s₁ B hml hv
  obtain ⟨rfl, hsz, hP, hK⟩ := hv
  have hx := B.exec
  have hb := B.bytes
  have hr := B.returns
  have hts := atoms_spec (ws := (.code yX8_runs cX8_runs 3 (some .boolean) :: lw_good)) B.pre
  have htg : ∀ w ∈ lw_good, w.before _ s = true := fun w hw => hts w (List.mem_cons_of_mem _ hw)
  have hown : s.vm.findClass RX8 = some m.cls := findClass_of_methodNamed B.named
  have hlocks := B.notSynchronized
  subst hsz
  have hS : va_S (aX ob ad s.heap.size) s.heap s.heap [] := va_S.rf
  have hl := lv_entry ([.ref (ob 5), .int kk, .int b]) (n := 3) (Nat.le_of_ble_eq_true rfl)
  rw [lg_entry_eq]
  generalize (lg_sl ([.ref (ob 5), .int kk, .int b]) ++ List.replicate (3 - (lg_sl ([.ref (ob 5), .int kk, .int b])).length) Slot.unset).toArray = ls at hl ⊢
  have hl : lv_has ls 3 [(0, .ref (ob 5)), (1, .int kk), (2, .int b)] := hl
  refine lv_aload_n hx hb dX8_runs_0 rfl (lv_at hl 0 rfl) ?_
  refine gX_X8_24 hx hb htg hown hK hP dX8_runs_1 ?_
  refine lv_iload_n hx hb dX8_runs_4 rfl (lv_at hl 1 rfl) ?_
  refine lX_32 hx hb hK hP (iv_in h_kk (by decide) (by decide)) dX8_runs_5 (fun v_1 ev_1 => ?_)
  refine lv_iload_n hx hb dX8_runs_6 rfl (lv_at hl 2 rfl) ?_
  refine lv_icmp_gt (tgt := 24) hx hb dX8_runs_7 (by decide) (fun c_2 => ?_) (fun c_2 => ?_)
  · skip
    have i_3 : (-2147483648) ≤ b.toInt ∧ b.toInt ≤ 2147483646 := iv_lt1 (iv_any b) (iv_any v_1) c_2
    have i_4 : (-2147483647) ≤ v_1.toInt ∧ v_1.toInt ≤ 2147483647 := iv_lt2 (iv_any b) (iv_any v_1) c_2
    refine lv_iconst (v := 0) hx hb dX8_runs_24 (by decide) ?_
    exact W.zret (v := 0) hx hb hr (by decide) (fun t ht hW => ⟨⟨0, (fv, wd, ar), rfl, ⟨hF_fv, hA_ar, (fM_rf [] _), (fA_rf [] _), rfl, (iv_w (⟨by decide, by decide⟩ : (0 : Int) ≤ (0 : Int32).toInt ∧ (0 : Int32).toInt ≤ 0) (by decide) (by decide)), trivial⟩, ⟨by rw [ht]; exact hP, va_K.moved hW.alike hK⟩⟩, hS.F ht⟩) hS.2.2 dX8_runs_25
  · skip
    refine lv_iload_n hx hb dX8_runs_10 rfl (lv_at hl 2 rfl) ?_
    refine lv_aload_n hx hb dX8_runs_11 rfl (lv_at hl 0 rfl) ?_
    refine gX_X8_27 hx hb htg hown hK hP dX8_runs_12 ?_
    refine lv_iload_n hx hb dX8_runs_15 rfl (lv_at hl 1 rfl) ?_
    refine lX_33 hx hb hK hP (iv_in h_kk (by decide) (by decide)) dX8_runs_16 (fun v_5 ev_5 => ?_)
    refine lv_icmp_gt (tgt := 24) hx hb dX8_runs_17 (by decide) (fun c_6 => ?_) (fun c_6 => ?_)
    · skip
      have i_7 : (-2147483648) ≤ v_5.toInt ∧ v_5.toInt ≤ 2147483646 := iv_lt1 (iv_any v_5) (iv_any b) c_6
      have i_8 : (-2147483647) ≤ b.toInt ∧ b.toInt ≤ 2147483647 := iv_lt2 (iv_any v_5) (iv_any b) c_6
      refine lv_iconst (v := 0) hx hb dX8_runs_24 (by decide) ?_
      exact W.zret (v := 0) hx hb hr (by decide) (fun t ht hW => ⟨⟨0, (fv, wd, ar), rfl, ⟨hF_fv, hA_ar, (fM_rf [] _), (fA_rf [] _), rfl, (iv_w (⟨by decide, by decide⟩ : (0 : Int) ≤ (0 : Int32).toInt ∧ (0 : Int32).toInt ≤ 0) (by decide) (by decide)), trivial⟩, ⟨by rw [ht]; exact hP, va_K.moved hW.alike hK⟩⟩, hS.F ht⟩) hS.2.2 dX8_runs_25
    · skip
      refine lv_iconst (v := 1) hx hb dX8_runs_20 (by decide) ?_
      refine lv_goto (tgt := 25) hx hb dX8_runs_21 (by decide) ?_
      exact W.zret (v := 1) hx hb hr (by decide) (fun t ht hW => ⟨⟨1, (fv, wd, ar), rfl, ⟨hF_fv, hA_ar, (fM_rf [] _), (fA_rf [] _), rfl, (iv_w (⟨by decide, by decide⟩ : (1 : Int) ≤ (1 : Int32).toInt ∧ (1 : Int32).toInt ≤ 1) (by decide) (by decide)), trivial⟩, ⟨by rw [ht]; exact hP, va_K.moved hW.alike hK⟩⟩, hS.F ht⟩) hS.2.2 dX8_runs_25
set_option maxHeartbeats 4000000 in
set_option maxRecDepth 100000 in
theorem x_lengthOf (l : Launch) (dC : Nat → ClassId) (dI : Nat → Nat → Nat) (sz : Nat) (ob ad : Nat → Nat) (cA : Nat → ClassId) (hd : dX ob ad) (fv : Nat → Int32) (wd : xT) (ar : Nat → Nat → Int32) (hF_fv : rX fv) (hA_ar : rB ar) (kk : Int32) (h_kk : 0 ≤ kk.toInt ∧ kk.toInt ≤ 79) : Met l yX7_lengthOf (.code yX7_lengthOf cX7_lengthOf 2 (some .int) :: lw_good) ({ frames := 3, cells := 0, slots := 0, locals := 62 }) (va_Pc [.ref (ob 1), .int kk] (prX dC dI ob ad cA fv wd ar sz)) (va_Qi (fun (r : Int32) (u : xS) => rX u.1 ∧ rB u.2.2 ∧ fM [] fv u.1 ∧ fA [] ar u.2.2 ∧ u.2.1.2 = wd.2 ∧ True) (enX dC dI ob ad cA) (aX ob ad sz)) 0 0 (aX ob ad sz) := by
  refine Met.ofW (cc := cX7_lengthOf) (maxL := 2) (ret := (some .int)) (by decide) rfl ?_
  intro p e s m args below meth c s₁ B hml hv
  obtain ⟨rfl, hsz, hP, hK⟩ := hv
  have hx := B.exec
  have hb := B.bytes
  have hr := B.returns
  have hts := atoms_spec (ws := (.code yX7_lengthOf cX7_lengthOf 2 (some .int) :: lw_good)) B.pre
  have htg : ∀ w ∈ lw_good, w.before _ s = true := fun w hw => hts w (List.mem_cons_of_mem _ hw)
  have hown : s.vm.findClass RX7 = some m.cls := findClass_of_methodNamed B.named
  have hlocks := B.notSynchronized
  subst hsz
  have hS : va_S (aX ob ad s.heap.size) s.heap s.heap [] := va_S.rf
  have hl := lv_entry ([.ref (ob 1), .int kk]) (n := 2) (Nat.le_of_ble_eq_true rfl)
  rw [lg_entry_eq]
  generalize (lg_sl ([.ref (ob 1), .int kk]) ++ List.replicate (2 - (lg_sl ([.ref (ob 1), .int kk])).length) Slot.unset).toArray = ls at hl ⊢
  have hl : lv_has ls 2 [(0, .ref (ob 1)), (1, .int kk)] := hl
  refine lv_aload_n hx hb dX7_lengthOf_0 rfl (lv_at hl 0 rfl) ?_
  refine gX_X7_12 hx hb htg hown hK hP dX7_lengthOf_1 ?_
  refine lv_aload_n hx hb dX7_lengthOf_4 rfl (lv_at hl 0 rfl) ?_
  refine gX_X7_39 hx hb htg hown hK hP dX7_lengthOf_5 ?_
  refine lv_aload_n hx hb dX7_lengthOf_8 rfl (lv_at hl 0 rfl) ?_
  refine gX_X7_35 hx hb htg hown hK hP dX7_lengthOf_9 ?_
  refine gX_X7_73 hx hb htg hown hK hP dX7_lengthOf_12 ?_
  refine lv_iload_n hx hb dX7_lengthOf_15 rfl (lv_at hl 1 rfl) ?_
  refine lX_29 hx hb hK hP (iv_in h_kk (by decide) (by decide)) dX7_lengthOf_16 (fun v_1 ev_1 => ?_)
  have i_2 : 0 ≤ v_1.toInt ∧ v_1.toInt ≤ 7 := ev_1 ▸ hA_ar 29 _
  refine lX_2 hx hb hK hP (iv_in i_2 (by decide) (by decide)) dX7_lengthOf_17 (fun v_3 ev_3 => ?_)
  have i_4 : 0 ≤ v_3.toInt ∧ v_3.toInt ≤ 11 := ev_3 ▸ hA_ar 2 _
  refine lv_aload_n hx hb dX7_lengthOf_18 rfl (lv_at hl 0 rfl) ?_
  refine gX_X7_39 hx hb htg hown hK hP dX7_lengthOf_19 ?_
  refine lv_aload_n hx hb dX7_lengthOf_22 rfl (lv_at hl 0 rfl) ?_
  refine gX_X7_35 hx hb htg hown hK hP dX7_lengthOf_23 ?_
  refine gX_X7_76 hx hb htg hown hK hP dX7_lengthOf_26 ?_
  refine lv_iload_n hx hb dX7_lengthOf_29 rfl (lv_at hl 1 rfl) ?_
  refine lX_30 hx hb hK hP (iv_in h_kk (by decide) (by decide)) dX7_lengthOf_30 (fun v_5 ev_5 => ?_)
  have i_6 : 0 ≤ v_5.toInt ∧ v_5.toInt ≤ 7 := ev_5 ▸ hA_ar 30 _
  refine lX_2 hx hb hK hP (iv_in i_6 (by decide) (by decide)) dX7_lengthOf_31 (fun v_7 ev_7 => ?_)
  have i_8 : 0 ≤ v_7.toInt ∧ v_7.toInt ≤ 11 := ev_7 ▸ hA_ar 2 _
  refine va_calli (va_runV (As := [.int v_3, .int v_7]) (rest := []) ⟨hx, hb, hml, hown, hts⟩ (x_between l dC dI s.heap.size ob ad cA hd fv wd ar hF_fv hA_ar v_3 v_7) (cwV 2 hts (gV kw_5_98 kw_3_147 kw_3_148 kw_1_3 kw_3_149) rfl rfl rfl (by decide +kernel) ⟨Nat.le_of_ble_eq_true rfl, Nat.le_of_ble_eq_true rfl⟩) ⟨fun a U g mk q => ⟨q.1, q.2.1, q.2.2.1, va_K.moved (u := U) (U := U.calling g mk a) (Vm.Alike.refl U.vm) q.2.2.2⟩, va_recv hK hP (ci := 5) (q0 := 2) rfl rfl, fun U hU hW => ⟨rfl, by rw [hU], by rw [hU]; exact hP, va_K.moved hW.alike hK⟩⟩ rfl rfl hl.1 rfl (lv_room (Nat.le_of_ble_eq_true rfl)) dX7_lengthOf_32 ⟨Nat.le_of_ble_eq_true rfl, Nat.le_of_ble_eq_true rfl⟩) hS (fun q _ h9 => aX_up hS q h9) (aX_up hS) (fun r_9 u t H1 locs ht _ hw hB _ hk1 hS => ?_)
  obtain ⟨fv_10, wd_11, ar_12⟩ := u
  obtain ⟨hF_fv_10, hA_ar_12, fr_13, fa_14, wf_15, -⟩ := hw
  have wf_15 : wd_11.2 = wd.2 := wf_15
  have hP : va_P (dC, dI) vwCl (wsX ob ad cA fv_10 wd_11 ar_12) H1 := by have h9 := hB.1; rw [ht] at h9; exact h9
  have fr_13 : fM [] fv fv_10 := fr_13
  have fa_14 : fA [] ar ar_12 := fa_14
  generalize H1 = H at hP hS ⊢
  exact W.iret (v := r_9) hx hb hr (fun t ht hW => ⟨⟨r_9, (fv_10, wd_11, ar_12), rfl, ⟨hF_fv_10, hA_ar_12, (fM_call (fM_rf [] _) fr_13 (by decide)), (fA_call (fA_rf [] _) fa_14 (by decide)), wf_15, trivial⟩, ⟨by rw [ht]; exact hP, va_K.moved hW.alike hK⟩⟩, hS.F ht⟩) hS.2.2 dX7_lengthOf_35
set_option maxHeartbeats 4000000 in
set_option maxRecDepth 100000 in
theorem x_driveMinutes (l : Launch) (dC : Nat → ClassId) (dI : Nat → Nat → Nat) (sz : Nat) (ob ad : Nat → Nat) (cA : Nat → ClassId) (hd : dX ob ad) (fv : Nat → Int32) (wd : xT) (ar : Nat → Nat → Int32) (hF_fv : rX fv) (hA_ar : rB ar) (kk : Int32) (b : Int32) (h_kk : 0 ≤ kk.toInt ∧ kk.toInt ≤ 79) : Met l yX7_driveMinutes (.code yX7_driveMinutes cX7_driveMinutes 5 (some .int) :: lw_good) ({ frames := 4, cells := 0, slots := 0, locals := 83 }) (va_Pc [.ref (ob 1), .int kk, .int b] (prX dC dI ob ad cA fv wd ar sz)) (va_Qi (fun (r : Int32) (u : xS) => rX u.1 ∧ rB u.2.2 ∧ fM [] fv u.1 ∧ fA [] ar u.2.2 ∧ u.2.1.2 = wd.2 ∧ True) (enX dC dI ob ad cA) (aX ob ad sz)) 0 0 (aX ob ad sz) := by
  refine Met.ofW (cc := cX7_driveMinutes) (maxL := 5) (ret := (some .int)) (by decide) rfl ?_
  intro p e s m args below meth c s₁ B hml hv
  obtain ⟨rfl, hsz, hP, hK⟩ := hv
  have hx := B.exec
  have hb := B.bytes
  have hr := B.returns
  have hts := atoms_spec (ws := (.code yX7_driveMinutes cX7_driveMinutes 5 (some .int) :: lw_good)) B.pre
  have htg : ∀ w ∈ lw_good, w.before _ s = true := fun w hw => hts w (List.mem_cons_of_mem _ hw)
  have hown : s.vm.findClass RX7 = some m.cls := findClass_of_methodNamed B.named
  have hlocks := B.notSynchronized
  subst hsz
  have hS : va_S (aX ob ad s.heap.size) s.heap s.heap [] := va_S.rf
  have hl := lv_entry ([.ref (ob 1), .int kk, .int b]) (n := 5) (Nat.le_of_ble_eq_true rfl)
  rw [lg_entry_eq]
  generalize (lg_sl ([.ref (ob 1), .int kk, .int b]) ++ List.replicate (5 - (lg_sl ([.ref (ob 1), .int kk, .int b])).length) Slot.unset).toArray = ls at hl ⊢
  have hl : lv_has ls 5 [(0, .ref (ob 1)), (1, .int kk), (2, .int b)] := hl
  refine lv_aload_n hx hb dX7_driveMinutes_0 rfl (lv_at hl 0 rfl) ?_
  refine gX_X7_28 hx hb htg hown hK hP dX7_driveMinutes_1 ?_
  refine gX_X7_83 hx hb htg hown hK hP dX7_driveMinutes_4 ?_
  refine lv_aload_n hx hb dX7_driveMinutes_7 rfl (lv_at hl 0 rfl) ?_
  refine gX_X7_35 hx hb htg hown hK hP dX7_driveMinutes_8 ?_
  refine gX_X7_86 hx hb htg hown hK hP dX7_driveMinutes_11 ?_
  refine lv_iload_n hx hb dX7_driveMinutes_14 rfl (lv_at hl 1 rfl) ?_
  refine lX_28 hx hb hK hP (iv_in h_kk (by decide) (by decide)) dX7_driveMinutes_15 (fun v_1 ev_1 => ?_)
  have i_2 : 0 ≤ v_1.toInt ∧ v_1.toInt ≤ 19 := ev_1 ▸ hA_ar 28 _
  refine lX_20 hx hb hK hP (iv_in i_2 (by decide) (by decide)) dX7_driveMinutes_16 (fun v_3 ev_3 => ?_)
  refine lv_istore_n (lv' := [(3, .int v_3), (0, .ref (ob 1)), (1, .int kk), (2, .int b)]) hx hb dX7_driveMinutes_17 rfl hl (by decide) rfl (fun ls hl => ?_)
  refine lv_iload_n hx hb dX7_driveMinutes_18 rfl (lv_at hl 0 rfl) ?_
  refine lv_iconst (v := 1) hx hb dX7_driveMinutes_19 (by decide) ?_
  refine my_cut (P := fun R9 a9 Q9 => ∀ (x_6 : Int32) (H : Heap) (locs : List Loc) (ls : Array Slot), (3 ≤ x_6.toInt ∧ x_6.toInt ≤ 4) → va_P (dC, dI) vwCl (wsX ob ad cA fv wd ar) H → va_S (aX ob ad s.heap.size) s.heap H locs → lv_has ls 5 [(0, .ref (ob 1)), (1, .int kk), (2, .int b), (3, .int v_3)] → W p l e R9 s m a9 below meth c H locs 0 0 Q9 (F0 m 28 ls [.int x_6])) ?_ (fun hj_7 => ?_)
  · intro x_6 H locs ls i_x_6 hP hS hl
    refine lv_istore (lv' := [(4, .int x_6), (0, .ref (ob 1)), (1, .int kk), (2, .int b), (3, .int v_3)]) hx hb dX7_driveMinutes_28 hl (by decide) rfl (fun ls hl => ?_)
    refine lv_iload_n hx hb dX7_driveMinutes_30 rfl (lv_at hl 3 rfl) ?_
    refine lv_iconst (v := 4) hx hb dX7_driveMinutes_31 (by decide) ?_
    refine my_cut (P := fun R9 a9 Q9 => ∀ (x_16 : Int32) (H : Heap) (locs : List Loc) (ls : Array Slot), (3 ≤ x_16.toInt ∧ x_16.toInt ≤ 5) → va_P (dC, dI) vwCl (wsX ob ad cA fv wd ar) H → va_S (aX ob ad s.heap.size) s.heap H locs → lv_has ls 5 [(0, .ref (ob 1)), (1, .int kk), (4, .int x_16)] → W p l e R9 s m a9 below meth c H locs 0 0 Q9 (F0 m 43 ls [])) ?_ (fun hj_17 => ?_)
    · intro x_16 H locs ls i_x_16 hP hS hl
      refine lv_iconst (v := 1) hx hb dX7_driveMinutes_43 (by decide) ?_
      refine lv_aload_n hx hb dX7_driveMinutes_44 rfl (lv_at hl 0 rfl) ?_
      refine lv_iload_n hx hb dX7_driveMinutes_45 rfl (lv_at hl 1 rfl) ?_
      refine va_calli (va_runV (As := [.int kk]) (rest := [.int 1]) ⟨hx, hb, hml, hown, hts⟩ (x_lengthOf l dC dI H.size ob ad cA hd fv wd ar hF_fv hA_ar kk h_kk) (cwV 1 hts (gV kw_5_108 kw_5_95 kw_5_96 kw_1_2 kw_5_97) rfl rfl rfl (by decide +kernel) ⟨Nat.le_of_ble_eq_true rfl, Nat.le_of_ble_eq_true rfl⟩) ⟨fun a U g mk q => ⟨q.1, q.2.1, q.2.2.1, va_K.moved (u := U) (U := U.calling g mk a) (Vm.Alike.refl U.vm) q.2.2.2⟩, va_recv hK hP (ci := 7) (q0 := 1) rfl rfl, fun U hU hW => ⟨rfl, by rw [hU], by rw [hU]; exact hP, va_K.moved hW.alike hK⟩⟩ rfl rfl hl.1 rfl (lv_room (Nat.le_of_ble_eq_true rfl)) dX7_driveMinutes_46 ⟨Nat.le_of_ble_eq_true rfl, Nat.le_of_ble_eq_true rfl⟩) hS (fun q _ h9 => aX_up hS q h9) (aX_up hS) (fun r_18 u t H1 locs ht _ hw hB _ hk1 hS => ?_)
      obtain ⟨fv_19, wd_20, ar_21⟩ := u
      obtain ⟨hF_fv_19, hA_ar_21, fr_22, fa_23, wf_24, -⟩ := hw
      have wf_24 : wd_20.2 = wd.2 := wf_24
      have hP : va_P (dC, dI) vwCl (wsX ob ad cA fv_19 wd_20 ar_21) H1 := by have h9 := hB.1; rw [ht] at h9; exact h9
      have fr_22 : fM [] fv fv_19 := fr_22
      have fa_23 : fA [] ar ar_21 := fa_23
      generalize H1 = H at hP hS ⊢
      refine lv_iload hx hb dX7_driveMinutes_49 (lv_at hl 2 rfl) ?_
      refine va_calli (va_runS (As := [.int r_18, .int x_16]) (rest := [.int 1]) ⟨hx, hb, hml, hown, hts⟩ (x_minutesFor l H.size r_18 x_16) (va_cwS 2 hts (gS kw_5_109 kw_5_110 kw_1_2 kw_5_111) rfl rfl rfl (by decide +kernel) ⟨Nat.le_of_ble_eq_true rfl, Nat.le_of_ble_eq_true rfl⟩) ⟨fun a U g mk q => ⟨q.1, q.2⟩, fun U hU hW => ⟨rfl, congrArg Array.size hU⟩⟩ rfl rfl hl.1 rfl (lv_room (Nat.le_of_ble_eq_true rfl)) dX7_driveMinutes_51 ⟨Nat.le_of_ble_eq_true rfl, Nat.le_of_ble_eq_true rfl⟩) hS (fun q _ h9 => nX_up hS q h9) (nX_up hS) (fun r_25 u t H1 locs ht _ hw hB _ hk1 hS => ?_)
      have hP := my_keepM hP hk1
      generalize H1 = H at hP hS ⊢
      refine va_mmax hx hb (hml.trans hl.1.symm) hown (htg (.methodLink RX7 96 Lib.Math.max.name) kw_5_113) (htg (.static Lib.Math.max.name) kw_4_28) (htg (.initialized RJ9) kw_1_16) (htg (.code Lib.Math.max.name Lib.Math.max.code 2 (some .int)) kw_4_29) (Nat.le_of_ble_eq_true rfl) (Nat.le_of_ble_eq_true rfl) (Nat.le_of_ble_eq_true rfl) (Nat.le_of_ble_eq_true rfl) dX7_driveMinutes_54 ?_
      refine lv_topi (fun v_26 ev_26 => ?_)
      have i_27 : 1 ≤ v_26.toInt ∧ v_26.toInt ≤ 2147483647 := ix_max ev_26 (⟨by decide, by decide⟩ : (1 : Int) ≤ (1 : Int32).toInt ∧ (1 : Int32).toInt ≤ 1) (iv_any r_25) (by decide) (by decide)
      exact W.iret (v := v_26) hx hb hr (fun t ht hW => ⟨⟨v_26, (fv_19, wd_20, ar_21), rfl, ⟨hF_fv_19, hA_ar_21, (fM_call (fM_rf [] _) fr_22 (by decide)), (fA_call (fA_rf [] _) fa_23 (by decide)), wf_24, trivial⟩, ⟨by rw [ht]; exact hP, va_K.moved hW.alike hK⟩⟩, hS.F ht⟩) hS.2.2 dX7_driveMinutes_57
    · skip
      refine lv_icmp_le (tgt := 43) hx hb dX7_driveMinutes_32 (by decide) (fun c_8 => ?_) (fun c_8 => ?_)
      · skip
        have i_9 : (-2147483648) ≤ b.toInt ∧ b.toInt ≤ 4 := iv_le1 (iv_any b) (⟨by decide, by decide⟩ : (4 : Int) ≤ (4 : Int32).toInt ∧ (4 : Int32).toInt ≤ 4) c_8
        exact hj_17 x_6 _ _ ls (iv_w i_x_6 (by decide) (by decide)) hP hS (lv_sub hl [1, 2, 0] rfl)
      · skip
        have i_10 : 5 ≤ b.toInt ∧ b.toInt ≤ 2147483647 := iv_lt2 (⟨by decide, by decide⟩ : (4 : Int) ≤ (4 : Int32).toInt ∧ (4 : Int32).toInt ≤ 4) (iv_any b) (Int32.not_le.mp c_8)
        refine lv_iload_n hx hb dX7_driveMinutes_35 rfl (lv_at hl 4 rfl) ?_
        refine lv_iconst (v := 2) hx hb dX7_driveMinutes_36 (by decide) ?_
        refine lv_icmp_eq (tgt := 43) hx hb dX7_driveMinutes_37 (by decide) (fun c_11 => ?_) (fun c_11 => ?_)
        · skip
          have i_12 : 2 ≤ v_3.toInt ∧ v_3.toInt ≤ 2 := iv_eq1 (⟨by decide, by decide⟩ : (2 : Int) ≤ (2 : Int32).toInt ∧ (2 : Int32).toInt ≤ 2) c_11
          exact hj_17 x_6 _ _ ls (iv_w i_x_6 (by decide) (by decide)) hP hS (lv_sub hl [1, 2, 0] rfl)
        · skip
          obtain ⟨v_13, ev_13⟩ : ∃ z : Int32, z = x_6 + 1 := ⟨_, rfl⟩
          refine lv_iinc (v := v_13) (lv' := [(4, .int v_13), (0, .ref (ob 1)), (1, .int kk), (2, .int b), (3, .int v_3)]) hx hb dX7_driveMinutes_40 hl (k := 0) rfl (by rw [ev_13]; rfl) (by decide) rfl (fun ls hl => ?_)
          have t_14 : v_13.toInt = x_6.toInt + 1 ∧ 4 ≤ v_13.toInt ∧ v_13.toInt ≤ 5 := iv_addc ev_13 i_x_6 (by decide) (by decide) (by decide)
          exact hj_17 v_13 _ _ ls (iv_w t_14.2 (by decide) (by decide)) hP hS (lv_sub hl [1, 2, 0] rfl)
  · skip
    refine lv_icmp_ne (tgt := 27) hx hb dX7_driveMinutes_20 (by decide) (fun c_4 => ?_) (fun c_4 => ?_)
    · skip
      refine lv_iconst (v := 3) hx hb dX7_driveMinutes_27 (by decide) ?_
      exact hj_7 3 _ _ ls (iv_w (⟨by decide, by decide⟩ : (3 : Int) ≤ (3 : Int32).toInt ∧ (3 : Int32).toInt ≤ 3) (by decide) (by decide)) hP hS (lv_sub hl [1, 2, 3, 0] rfl)
    · skip
      have i_5 : 1 ≤ v_3.toInt ∧ v_3.toInt ≤ 1 := iv_eq1 (⟨by decide, by decide⟩ : (1 : Int) ≤ (1 : Int32).toInt ∧ (1 : Int32).toInt ≤ 1) c_4
      refine lv_iconst (v := 4) hx hb dX7_driveMinutes_23 (by decide) ?_
      refine lv_goto (tgt := 28) hx hb dX7_driveMinutes_24 (by decide) ?_
      exact hj_7 4 _ _ ls (iv_w (⟨by decide, by decide⟩ : (4 : Int) ≤ (4 : Int32).toInt ∧ (4 : Int32).toInt ≤ 4) (by decide) (by decide)) hP hS (lv_sub hl [1, 2, 3, 0] rfl)
set_option maxHeartbeats 4000000 in
set_option maxRecDepth 100000 in
theorem x_setFacts (l : Launch) (dC : Nat → ClassId) (dI : Nat → Nat → Nat) (sz : Nat) (ob ad : Nat → Nat) (cA : Nat → ClassId) (hd : dX ob ad) (fv : Nat → Int32) (wd : xT) (ar : Nat → Nat → Int32) (hF_fv : rX fv) (hA_ar : rB ar) (kk : Int32) (b : Int32) (d : Int32) (h_kk : 0 ≤ kk.toInt ∧ kk.toInt ≤ 79) : Met l yX7_setFacts (.code yX7_setFacts cX7_setFacts 5 none :: lw_good) ({ frames := 3, cells := 0, slots := 0, locals := 61 }) (va_Pc [.ref (ob 1), .int kk, .int b, .int d] (prX dC dI ob ad cA fv wd ar sz)) (va_Qv (fun (u : xS) => rX u.1 ∧ rB u.2.2 ∧ fM [] fv u.1 ∧ fA [4] ar u.2.2 ∧ u.2.1.2 = wd.2 ∧ True) (enX dC dI ob ad cA) (aX ob ad sz)) 0 0 (aX ob ad sz) := by
  refine Met.ofW (cc := cX7_setFacts) (maxL := 5) (ret := none) (by decide) rfl ?_
  intro p e s m args below meth c s₁ B hml hv
  obtain ⟨rfl, hsz, hP, hK⟩ := hv
  have hx := B.exec
  have hb := B.bytes
  have hr := B.returns
  have hts := atoms_spec (ws := (.code yX7_setFacts cX7_setFacts 5 none :: lw_good)) B.pre
  have htg : ∀ w ∈ lw_good, w.before _ s = true := fun w hw => hts w (List.mem_cons_of_mem _ hw)
  have hown : s.vm.findClass RX7 = some m.cls := findClass_of_methodNamed B.named
  have hlocks := B.notSynchronized
  subst hsz
  have hS : va_S (aX ob ad s.heap.size) s.heap s.heap [] := va_S.rf
  have hl := lv_entry ([.ref (ob 1), .int kk, .int b, .int d]) (n := 5) (Nat.le_of_ble_eq_true rfl)
  rw [lg_entry_eq]
  generalize (lg_sl ([.ref (ob 1), .int kk, .int b, .int d]) ++ List.replicate (5 - (lg_sl ([.ref (ob 1), .int kk, .int b, .int d])).length) Slot.unset).toArray = ls at hl ⊢
  have hl : lv_has ls 5 [(0, .ref (ob 1)), (1, .int kk), (2, .int b), (3, .int d)] := hl
  refine lv_aload_n hx hb dX7_setFacts_0 rfl (lv_at hl 0 rfl) ?_
  refine gX_X7_35 hx hb htg hown hK hP dX7_setFacts_1 ?_
  refine gX_X7_86 hx hb htg hown hK hP dX7_setFacts_4 ?_
  refine lv_iload_n hx hb dX7_setFacts_7 rfl (lv_at hl 1 rfl) ?_
  refine lX_28 hx hb hK hP (iv_in h_kk (by decide) (by decide)) dX7_setFacts_8 (fun v_1 ev_1 => ?_)
  have i_2 : 0 ≤ v_1.toInt ∧ v_1.toInt ≤ 19 := ev_1 ▸ hA_ar 28 _
  refine lv_istore (lv' := [(4, .int v_1), (0, .ref (ob 1)), (1, .int kk), (2, .int b), (3, .int d)]) hx hb dX7_setFacts_9 hl (by decide) rfl (fun ls hl => ?_)
  refine lv_aload_n hx hb dX7_setFacts_11 rfl (lv_at hl 1 rfl) ?_
  refine gX_X7_62 hx hb htg hown hK hP dX7_setFacts_12 ?_
  refine lv_iconst (v := 0) hx hb dX7_setFacts_15 (by decide) ?_
  refine lv_aload_n hx hb dX7_setFacts_16 rfl (lv_at hl 1 rfl) ?_
  refine gX_X7_28 hx hb htg hown hK hP dX7_setFacts_17 ?_
  refine gX_X7_83 hx hb htg hown hK hP dX7_setFacts_20 ?_
  refine lv_iload hx hb dX7_setFacts_23 (lv_at hl 0 rfl) ?_
  refine lX_20 hx hb hK hP (iv_in i_2 (by decide) (by decide)) dX7_setFacts_25 (fun v_3 ev_3 => ?_)
  refine my_cut (P := fun R9 a9 Q9 => ∀ (x_6 : Int32) (H : Heap) (locs : List Loc) (ls : Array Slot), (0 ≤ x_6.toInt ∧ x_6.toInt ≤ 1) → va_P (dC, dI) vwCl (wsX ob ad cA fv wd ar) H → va_S (aX ob ad s.heap.size) s.heap H locs → lv_has ls 5 [(0, .ref (ob 1)), (1, .int kk), (2, .int b), (3, .int d), (4, .int v_1)] → W p l e R9 s m a9 below meth c H locs 0 0 Q9 (F0 m 34 ls [.int x_6, .int 0, .ref (ad 4)])) ?_ (fun hj_7 => ?_)
  · intro x_6 H locs ls i_x_6 hP hS hl
    refine sX_4 hx hb hK hP hS hd (iv_in (⟨by decide, by decide⟩ : (0 : Int) ≤ (0 : Int32).toInt ∧ (0 : Int32).toInt ≤ 0) (by decide) (by decide)) dX7_setFacts_34 (fun H locs ar_8 ear_8 hP hS => ?_)
    have hA_ar_8 : rB ar_8 := rB_put hA_ar ear_8 (iv_any _)
    refine lv_aload_n hx hb dX7_setFacts_35 rfl (lv_at hl 0 rfl) ?_
    refine gX_X7_62 hx hb htg hown hK hP dX7_setFacts_36 ?_
    refine lv_iconst (v := 1) hx hb dX7_setFacts_39 (by decide) ?_
    refine lv_aload_n hx hb dX7_setFacts_40 rfl (lv_at hl 0 rfl) ?_
    refine gX_X7_28 hx hb htg hown hK hP dX7_setFacts_41 ?_
    refine gX_X7_83 hx hb htg hown hK hP dX7_setFacts_44 ?_
    refine lv_iload hx hb dX7_setFacts_47 (lv_at hl 4 rfl) ?_
    refine lX_20 hx hb hK hP (iv_in i_2 (by decide) (by decide)) dX7_setFacts_49 (fun v_9 ev_9 => ?_)
    obtain rfl : v_3 = v_9 := ev_3.trans ((congrFun ((fA_put (fA_rf [4] _) ear_8 (by decide)) 20 rfl) _).symm.trans ev_9.symm)
    refine lv_iconst (v := 1) hx hb dX7_setFacts_50 (by decide) ?_
    refine my_cut (P := fun R9 a9 Q9 => ∀ (x_12 : Int32) (H : Heap) (locs : List Loc) (ls : Array Slot), (0 ≤ x_12.toInt ∧ x_12.toInt ≤ 1) → va_P (dC, dI) vwCl (wsX ob ad cA fv wd ar_8) H → va_S (aX ob ad s.heap.size) s.heap H locs → lv_has ls 5 [(0, .ref (ob 1)), (1, .int kk), (2, .int b), (3, .int d), (4, .int v_1)] → W p l e R9 s m a9 below meth c H locs 0 0 Q9 (F0 m 59 ls [.int x_12, .int 1, .ref (ad 4)])) ?_ (fun hj_13 => ?_)
    · intro x_12 H locs ls i_x_12 hP hS hl
      refine sX_4 hx hb hK hP hS hd (iv_in (⟨by decide, by decide⟩ : (1 : Int) ≤ (1 : Int32).toInt ∧ (1 : Int32).toInt ≤ 1) (by decide) (by decide)) dX7_setFacts_59 (fun H locs ar_14 ear_14 hP hS => ?_)
      have hA_ar_14 : rB ar_14 := rB_put hA_ar_8 ear_14 (iv_any _)
      refine lv_aload_n hx hb dX7_setFacts_60 rfl (lv_at hl 0 rfl) ?_
      refine gX_X7_62 hx hb htg hown hK hP dX7_setFacts_61 ?_
      refine lv_iconst (v := 2) hx hb dX7_setFacts_64 (by decide) ?_
      refine lv_aload_n hx hb dX7_setFacts_65 rfl (lv_at hl 0 rfl) ?_
      refine gX_X7_28 hx hb htg hown hK hP dX7_setFacts_66 ?_
      refine gX_X7_83 hx hb htg hown hK hP dX7_setFacts_69 ?_
      refine lv_iload hx hb dX7_setFacts_72 (lv_at hl 4 rfl) ?_
      refine lX_20 hx hb hK hP (iv_in i_2 (by decide) (by decide)) dX7_setFacts_74 (fun v_15 ev_15 => ?_)
      obtain rfl : v_3 = v_15 := ev_3.trans ((congrFun ((fA_put (fA_put (fA_rf [4] _) ear_8 (by decide)) ear_14 (by decide)) 20 rfl) _).symm.trans ev_15.symm)
      refine lv_iconst (v := 2) hx hb dX7_setFacts_75 (by decide) ?_
      refine my_cut (P := fun R9 a9 Q9 => ∀ (x_18 : Int32) (H : Heap) (locs : List Loc) (ls : Array Slot), (0 ≤ x_18.toInt ∧ x_18.toInt ≤ 1) → va_P (dC, dI) vwCl (wsX ob ad cA fv wd ar_14) H → va_S (aX ob ad s.heap.size) s.heap H locs → lv_has ls 5 [(0, .ref (ob 1)), (1, .int kk), (2, .int b), (3, .int d), (4, .int v_1)] → W p l e R9 s m a9 below meth c H locs 0 0 Q9 (F0 m 84 ls [.int x_18, .int 2, .ref (ad 4)])) ?_ (fun hj_19 => ?_)
      · intro x_18 H locs ls i_x_18 hP hS hl
        refine sX_4 hx hb hK hP hS hd (iv_in (⟨by decide, by decide⟩ : (2 : Int) ≤ (2 : Int32).toInt ∧ (2 : Int32).toInt ≤ 2) (by decide) (by decide)) dX7_setFacts_84 (fun H locs ar_20 ear_20 hP hS => ?_)
        have hA_ar_20 : rB ar_20 := rB_put hA_ar_14 ear_20 (iv_any _)
        refine lv_aload_n hx hb dX7_setFacts_85 rfl (lv_at hl 0 rfl) ?_
        refine gX_X7_62 hx hb htg hown hK hP dX7_setFacts_86 ?_
        refine lv_iconst (v := 3) hx hb dX7_setFacts_89 (by decide) ?_
        refine lv_aload_n hx hb dX7_setFacts_90 rfl (lv_at hl 0 rfl) ?_
        refine gX_X7_28 hx hb htg hown hK hP dX7_setFacts_91 ?_
        refine gX_X7_114 hx hb htg hown hK hP dX7_setFacts_94 ?_
        refine lv_iload hx hb dX7_setFacts_97 (lv_at hl 4 rfl) ?_
        refine lX_23 hx hb hK hP (iv_in i_2 (by decide) (by decide)) dX7_setFacts_99 (fun v_21 ev_21 => ?_)
        refine lv_aload_n hx hb dX7_setFacts_100 rfl (lv_at hl 0 rfl) ?_
        refine gX_X7_111 hx hb htg hown hK hP dX7_setFacts_101 ?_
        have i_22 : 0 ≤ (fv 7).toInt ∧ (fv 7).toInt ≤ 199 := hF_fv 7
        refine my_cut (P := fun R9 a9 Q9 => ∀ (x_26 : Int32) (H : Heap) (locs : List Loc) (ls : Array Slot), (0 ≤ x_26.toInt ∧ x_26.toInt ≤ 1) → va_P (dC, dI) vwCl (wsX ob ad cA fv wd ar_20) H → va_S (aX ob ad s.heap.size) s.heap H locs → lv_has ls 5 [(0, .ref (ob 1)), (1, .int kk), (2, .int b), (3, .int d), (4, .int v_1)] → W p l e R9 s m a9 below meth c H locs 0 0 Q9 (F0 m 112 ls [.int x_26, .int 3, .ref (ad 4)])) ?_ (fun hj_27 => ?_)
        · intro x_26 H locs ls i_x_26 hP hS hl
          refine sX_4 hx hb hK hP hS hd (iv_in (⟨by decide, by decide⟩ : (3 : Int) ≤ (3 : Int32).toInt ∧ (3 : Int32).toInt ≤ 3) (by decide) (by decide)) dX7_setFacts_112 (fun H locs ar_28 ear_28 hP hS => ?_)
          have hA_ar_28 : rB ar_28 := rB_put hA_ar_20 ear_28 (iv_any _)
          refine lv_aload_n hx hb dX7_setFacts_113 rfl (lv_at hl 0 rfl) ?_
          refine gX_X7_62 hx hb htg hown hK hP dX7_setFacts_114 ?_
          refine lv_iconst (v := 4) hx hb dX7_setFacts_117 (by decide) ?_
          refine lv_iload_n hx hb dX7_setFacts_118 rfl (lv_at hl 2 rfl) ?_
          refine sX_4 hx hb hK hP hS hd (iv_in (⟨by decide, by decide⟩ : (4 : Int) ≤ (4 : Int32).toInt ∧ (4 : Int32).toInt ≤ 4) (by decide) (by decide)) dX7_setFacts_119 (fun H locs ar_29 ear_29 hP hS => ?_)
          have hA_ar_29 : rB ar_29 := rB_put hA_ar_28 ear_29 (iv_any _)
          refine lv_aload_n hx hb dX7_setFacts_120 rfl (lv_at hl 0 rfl) ?_
          refine gX_X7_62 hx hb htg hown hK hP dX7_setFacts_121 ?_
          refine lv_iconst (v := 5) hx hb dX7_setFacts_124 (by decide) ?_
          refine lv_aload_n hx hb dX7_setFacts_125 rfl (lv_at hl 0 rfl) ?_
          refine gX_X7_28 hx hb htg hown hK hP dX7_setFacts_126 ?_
          refine gX_X7_117 hx hb htg hown hK hP dX7_setFacts_129 ?_
          refine lv_iload hx hb dX7_setFacts_132 (lv_at hl 4 rfl) ?_
          refine lX_22 hx hb hK hP (iv_in i_2 (by decide) (by decide)) dX7_setFacts_134 (fun v_30 ev_30 => ?_)
          have i_31 : 0 ≤ v_30.toInt ∧ v_30.toInt ≤ 9 := ev_30 ▸ hA_ar_29 22 _
          refine sX_4 hx hb hK hP hS hd (iv_in (⟨by decide, by decide⟩ : (5 : Int) ≤ (5 : Int32).toInt ∧ (5 : Int32).toInt ≤ 5) (by decide) (by decide)) dX7_setFacts_135 (fun H locs ar_32 ear_32 hP hS => ?_)
          have hA_ar_32 : rB ar_32 := rB_put hA_ar_29 ear_32 (iv_any _)
          refine lv_aload_n hx hb dX7_setFacts_136 rfl (lv_at hl 0 rfl) ?_
          refine gX_X7_62 hx hb htg hown hK hP dX7_setFacts_137 ?_
          refine lv_bipush (v := 6) hx hb dX7_setFacts_140 (by decide) ?_
          refine lv_aload_n hx hb dX7_setFacts_142 rfl (lv_at hl 0 rfl) ?_
          refine lv_aload_n hx hb dX7_setFacts_143 rfl (lv_at hl 0 rfl) ?_
          refine gX_X7_111 hx hb htg hown hK hP dX7_setFacts_144 ?_
          refine va_calli (va_runV (As := [.int (fv 7)]) (rest := [.int 6, .ref (ad 4)]) ⟨hx, hb, hml, hown, hts⟩ (x_rainOn l dC dI H.size ob ad cA hd fv wd ar_32 hF_fv hA_ar_32 (fv 7) i_22) (cwV 1 hts (gV kw_5_29 kw_3_231 kw_3_232 kw_1_2 kw_3_233) rfl rfl rfl (by decide +kernel) ⟨Nat.le_of_ble_eq_true rfl, Nat.le_of_ble_eq_true rfl⟩) ⟨fun a U g mk q => ⟨q.1, q.2.1, q.2.2.1, va_K.moved (u := U) (U := U.calling g mk a) (Vm.Alike.refl U.vm) q.2.2.2⟩, va_recv hK hP (ci := 7) (q0 := 1) rfl rfl, fun U hU hW => ⟨rfl, by rw [hU], by rw [hU]; exact hP, va_K.moved hW.alike hK⟩⟩ rfl rfl hl.1 rfl (lv_room (Nat.le_of_ble_eq_true rfl)) dX7_setFacts_147 ⟨Nat.le_of_ble_eq_true rfl, Nat.le_of_ble_eq_true rfl⟩) hS (fun q _ h9 => aX_up hS q h9) (aX_up hS) (fun r_33 u t H1 locs ht _ hw hB _ hk1 hS => ?_)
          obtain ⟨fv_34, wd_35, ar_36⟩ := u
          obtain ⟨hF_fv_34, hA_ar_36, fr_37, fa_38, wf_39, -⟩ := hw
          have wf_39 : wd_35.2 = wd.2 := wf_39
          have hP : va_P (dC, dI) vwCl (wsX ob ad cA fv_34 wd_35 ar_36) H1 := by have h9 := hB.1; rw [ht] at h9; exact h9
          have fr_37 : fM [] fv fv_34 := fr_37
          have fa_38 : fA [] ar_32 ar_36 := fa_38
          generalize H1 = H at hP hS ⊢
          refine sX_4 hx hb hK hP hS hd (iv_in (⟨by decide, by decide⟩ : (6 : Int) ≤ (6 : Int32).toInt ∧ (6 : Int32).toInt ≤ 6) (by decide) (by decide)) dX7_setFacts_150 (fun H locs ar_40 ear_40 hP hS => ?_)
          have hA_ar_40 : rB ar_40 := rB_put hA_ar_36 ear_40 (iv_any _)
          refine lv_aload_n hx hb dX7_setFacts_151 rfl (lv_at hl 0 rfl) ?_
          refine gX_X7_62 hx hb htg hown hK hP dX7_setFacts_152 ?_
          refine lv_bipush (v := 7) hx hb dX7_setFacts_155 (by decide) ?_
          refine lv_aload_n hx hb dX7_setFacts_157 rfl (lv_at hl 0 rfl) ?_
          refine gX_X7_35 hx hb htg hown hK hP dX7_setFacts_158 ?_
          refine gX_X7_123 hx hb htg hown hK hP dX7_setFacts_161 ?_
          refine lv_iload_n hx hb dX7_setFacts_164 rfl (lv_at hl 1 rfl) ?_
          refine lX_31 hx hb hK hP (iv_in h_kk (by decide) (by decide)) dX7_setFacts_165 (fun v_41 ev_41 => ?_)
          refine sX_4 hx hb hK hP hS hd (iv_in (⟨by decide, by decide⟩ : (7 : Int) ≤ (7 : Int32).toInt ∧ (7 : Int32).toInt ≤ 7) (by decide) (by decide)) dX7_setFacts_166 (fun H locs ar_42 ear_42 hP hS => ?_)
          have hA_ar_42 : rB ar_42 := rB_put hA_ar_40 ear_42 (iv_any _)
          refine lv_aload_n hx hb dX7_setFacts_167 rfl (lv_at hl 0 rfl) ?_
          refine gX_X7_62 hx hb htg hown hK hP dX7_setFacts_168 ?_
          refine lv_bipush (v := 8) hx hb dX7_setFacts_171 (by decide) ?_
          refine lv_aload_n hx hb dX7_setFacts_173 rfl (lv_at hl 0 rfl) ?_
          refine gX_X7_111 hx hb htg hown hK hP dX7_setFacts_174 ?_
          refine my_ti (y := fv 7) ((fr_37 7 rfl)) ?_
          refine sX_4 hx hb hK hP hS hd (iv_in (⟨by decide, by decide⟩ : (8 : Int) ≤ (8 : Int32).toInt ∧ (8 : Int32).toInt ≤ 8) (by decide) (by decide)) dX7_setFacts_177 (fun H locs ar_43 ear_43 hP hS => ?_)
          have hA_ar_43 : rB ar_43 := rB_put hA_ar_42 ear_43 (iv_any _)
          refine lv_aload_n hx hb dX7_setFacts_178 rfl (lv_at hl 0 rfl) ?_
          refine gX_X7_62 hx hb htg hown hK hP dX7_setFacts_179 ?_
          refine lv_bipush (v := 9) hx hb dX7_setFacts_182 (by decide) ?_
          refine lv_aload_n hx hb dX7_setFacts_184 rfl (lv_at hl 0 rfl) ?_
          refine gX_X7_35 hx hb htg hown hK hP dX7_setFacts_185 ?_
          refine gX_X7_73 hx hb htg hown hK hP dX7_setFacts_188 ?_
          refine lv_iload_n hx hb dX7_setFacts_191 rfl (lv_at hl 1 rfl) ?_
          refine lX_29 hx hb hK hP (iv_in h_kk (by decide) (by decide)) dX7_setFacts_192 (fun v_44 ev_44 => ?_)
          have i_45 : 0 ≤ v_44.toInt ∧ v_44.toInt ≤ 7 := ev_44 ▸ hA_ar_43 29 _
          refine sX_4 hx hb hK hP hS hd (iv_in (⟨by decide, by decide⟩ : (9 : Int) ≤ (9 : Int32).toInt ∧ (9 : Int32).toInt ≤ 9) (by decide) (by decide)) dX7_setFacts_193 (fun H locs ar_46 ear_46 hP hS => ?_)
          have hA_ar_46 : rB ar_46 := rB_put hA_ar_43 ear_46 (iv_any _)
          refine lv_aload_n hx hb dX7_setFacts_194 rfl (lv_at hl 0 rfl) ?_
          refine gX_X7_62 hx hb htg hown hK hP dX7_setFacts_195 ?_
          refine lv_bipush (v := 10) hx hb dX7_setFacts_198 (by decide) ?_
          refine lv_aload_n hx hb dX7_setFacts_200 rfl (lv_at hl 0 rfl) ?_
          refine gX_X7_35 hx hb htg hown hK hP dX7_setFacts_201 ?_
          refine gX_X7_76 hx hb htg hown hK hP dX7_setFacts_204 ?_
          refine lv_iload_n hx hb dX7_setFacts_207 rfl (lv_at hl 1 rfl) ?_
          refine lX_30 hx hb hK hP (iv_in h_kk (by decide) (by decide)) dX7_setFacts_208 (fun v_47 ev_47 => ?_)
          have i_48 : 0 ≤ v_47.toInt ∧ v_47.toInt ≤ 7 := ev_47 ▸ hA_ar_46 30 _
          refine sX_4 hx hb hK hP hS hd (iv_in (⟨by decide, by decide⟩ : (10 : Int) ≤ (10 : Int32).toInt ∧ (10 : Int32).toInt ≤ 10) (by decide) (by decide)) dX7_setFacts_209 (fun H locs ar_49 ear_49 hP hS => ?_)
          have hA_ar_49 : rB ar_49 := rB_put hA_ar_46 ear_49 (iv_any _)
          refine lv_aload_n hx hb dX7_setFacts_210 rfl (lv_at hl 0 rfl) ?_
          refine gX_X7_62 hx hb htg hown hK hP dX7_setFacts_211 ?_
          refine lv_bipush (v := 11) hx hb dX7_setFacts_214 (by decide) ?_
          refine lv_iload_n hx hb dX7_setFacts_216 rfl (lv_at hl 3 rfl) ?_
          refine sX_4 hx hb hK hP hS hd (iv_in (⟨by decide, by decide⟩ : (11 : Int) ≤ (11 : Int32).toInt ∧ (11 : Int32).toInt ≤ 11) (by decide) (by decide)) dX7_setFacts_217 (fun H locs ar_50 ear_50 hP hS => ?_)
          have hA_ar_50 : rB ar_50 := rB_put hA_ar_49 ear_50 (iv_any _)
          exact W.vret hx hb hr (fun t ht hW => ⟨⟨(fv_34, wd_35, ar_50), rfl, ⟨hF_fv_34, hA_ar_50, (fM_call (fM_rf [] _) fr_37 (by decide)), (fA_put (fA_put (fA_put (fA_put (fA_put (fA_put (fA_call (fA_put (fA_put (fA_put (fA_put (fA_put (fA_put (fA_rf [4] _) ear_8 (by decide)) ear_14 (by decide)) ear_20 (by decide)) ear_28 (by decide)) ear_29 (by decide)) ear_32 (by decide)) fa_38 (by decide)) ear_40 (by decide)) ear_42 (by decide)) ear_43 (by decide)) ear_46 (by decide)) ear_49 (by decide)) ear_50 (by decide)), wf_39, trivial⟩, ⟨by rw [ht]; exact hP, va_K.moved hW.alike hK⟩⟩, hS.F ht⟩) hS.2.2 dX7_setFacts_218
        · skip
          refine lv_icmp_lt (tgt := 111) hx hb dX7_setFacts_104 (by decide) (fun c_23 => ?_) (fun c_23 => ?_)
          · skip
            have i_24 : (-2147483648) ≤ v_21.toInt ∧ v_21.toInt ≤ 198 := iv_lt1 (iv_any v_21) i_22 c_23
            refine lv_iconst (v := 0) hx hb dX7_setFacts_111 (by decide) ?_
            exact hj_27 0 _ _ ls (iv_w (⟨by decide, by decide⟩ : (0 : Int) ≤ (0 : Int32).toInt ∧ (0 : Int32).toInt ≤ 0) (by decide) (by decide)) hP hS (lv_sub hl [0, 1, 2, 3, 4] rfl)
          · skip
            have i_25 : 0 ≤ v_21.toInt ∧ v_21.toInt ≤ 2147483647 := iv_le2 i_22 (iv_any v_21) (Int32.not_lt.mp c_23)
            refine lv_iconst (v := 1) hx hb dX7_setFacts_107 (by decide) ?_
            refine lv_goto (tgt := 112) hx hb dX7_setFacts_108 (by decide) ?_
            exact hj_27 1 _ _ ls (iv_w (⟨by decide, by decide⟩ : (1 : Int) ≤ (1 : Int32).toInt ∧ (1 : Int32).toInt ≤ 1) (by decide) (by decide)) hP hS (lv_sub hl [0, 1, 2, 3, 4] rfl)
      · skip
        refine lv_icmp_ne (tgt := 83) hx hb dX7_setFacts_76 (by decide) (fun c_16 => ?_) (fun c_16 => ?_)
        · skip
          refine lv_iconst (v := 0) hx hb dX7_setFacts_83 (by decide) ?_
          exact hj_19 0 _ _ ls (iv_w (⟨by decide, by decide⟩ : (0 : Int) ≤ (0 : Int32).toInt ∧ (0 : Int32).toInt ≤ 0) (by decide) (by decide)) hP hS (lv_sub hl [0, 1, 2, 3, 4] rfl)
        · skip
          have i_17 : 2 ≤ v_3.toInt ∧ v_3.toInt ≤ 2 := iv_eq1 (⟨by decide, by decide⟩ : (2 : Int) ≤ (2 : Int32).toInt ∧ (2 : Int32).toInt ≤ 2) c_16
          refine lv_iconst (v := 1) hx hb dX7_setFacts_79 (by decide) ?_
          refine lv_goto (tgt := 84) hx hb dX7_setFacts_80 (by decide) ?_
          exact hj_19 1 _ _ ls (iv_w (⟨by decide, by decide⟩ : (1 : Int) ≤ (1 : Int32).toInt ∧ (1 : Int32).toInt ≤ 1) (by decide) (by decide)) hP hS (lv_sub hl [0, 1, 2, 3, 4] rfl)
    · skip
      refine lv_icmp_ne (tgt := 58) hx hb dX7_setFacts_51 (by decide) (fun c_10 => ?_) (fun c_10 => ?_)
      · skip
        refine lv_iconst (v := 0) hx hb dX7_setFacts_58 (by decide) ?_
        exact hj_13 0 _ _ ls (iv_w (⟨by decide, by decide⟩ : (0 : Int) ≤ (0 : Int32).toInt ∧ (0 : Int32).toInt ≤ 0) (by decide) (by decide)) hP hS (lv_sub hl [0, 1, 2, 3, 4] rfl)
      · skip
        have i_11 : 1 ≤ v_3.toInt ∧ v_3.toInt ≤ 1 := iv_eq1 (⟨by decide, by decide⟩ : (1 : Int) ≤ (1 : Int32).toInt ∧ (1 : Int32).toInt ≤ 1) c_10
        refine lv_iconst (v := 1) hx hb dX7_setFacts_54 (by decide) ?_
        refine lv_goto (tgt := 59) hx hb dX7_setFacts_55 (by decide) ?_
        exact hj_13 1 _ _ ls (iv_w (⟨by decide, by decide⟩ : (1 : Int) ≤ (1 : Int32).toInt ∧ (1 : Int32).toInt ≤ 1) (by decide) (by decide)) hP hS (lv_sub hl [0, 1, 2, 3, 4] rfl)
  · skip
    refine lv_if_ne (tgt := 33) hx hb dX7_setFacts_26 (by decide) (fun c_4 => ?_) (fun c_4 => ?_)
    · skip
      refine lv_iconst (v := 0) hx hb dX7_setFacts_33 (by decide) ?_
      exact hj_7 0 _ _ ls (iv_w (⟨by decide, by decide⟩ : (0 : Int) ≤ (0 : Int32).toInt ∧ (0 : Int32).toInt ≤ 0) (by decide) (by decide)) hP hS (lv_sub hl [1, 2, 3, 4, 0] rfl)
    · skip
      have i_5 : 0 ≤ v_3.toInt ∧ v_3.toInt ≤ 0 := iv_eq1 (⟨by decide, by decide⟩ : (0 : Int) ≤ (0 : Int32).toInt ∧ (0 : Int32).toInt ≤ 0) c_4
      refine lv_iconst (v := 1) hx hb dX7_setFacts_29 (by decide) ?_
      refine lv_goto (tgt := 34) hx hb dX7_setFacts_30 (by decide) ?_
      exact hj_7 1 _ _ ls (iv_w (⟨by decide, by decide⟩ : (1 : Int) ≤ (1 : Int32).toInt ∧ (1 : Int32).toInt ≤ 1) (by decide) (by decide)) hP hS (lv_sub hl [1, 2, 3, 4, 0] rfl)

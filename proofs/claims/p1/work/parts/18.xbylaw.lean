theorem dJx4a65c_add_72be8_0 : decode cJx4a65c_add_72be8 0 = .ok (.iload_n 3, 1) := by decide +kernel
theorem dJx4a65c_add_72be8_1 : decode cJx4a65c_add_72be8 1 = .ok (.aload_n 2, 1) := by decide +kernel
theorem dJx4a65c_add_72be8_2 : decode cJx4a65c_add_72be8 2 = .ok (.arraylength, 1) := by decide +kernel
theorem dJx4a65c_add_72be8_3 : decode cJx4a65c_add_72be8 3 = .ok (.if_icmp .ne 8, 3) := by decide +kernel
theorem dJx4a65c_add_72be8_6 : decode cJx4a65c_add_72be8 6 = .ok (.aload_n 0, 1) := by decide +kernel
theorem dJx4a65c_add_72be8_7 : decode cJx4a65c_add_72be8 7 = .ok (.invokevirtual 129, 3) := by decide +kernel
theorem dJx4a65c_add_72be8_10 : decode cJx4a65c_add_72be8 10 = .ok (.astore_n 2, 1) := by decide +kernel
theorem dJx4a65c_add_72be8_11 : decode cJx4a65c_add_72be8 11 = .ok (.aload_n 2, 1) := by decide +kernel
theorem dJx4a65c_add_72be8_12 : decode cJx4a65c_add_72be8 12 = .ok (.iload_n 3, 1) := by decide +kernel
theorem dJx4a65c_add_72be8_13 : decode cJx4a65c_add_72be8 13 = .ok (.aload_n 1, 1) := by decide +kernel
theorem dJx4a65c_add_72be8_14 : decode cJx4a65c_add_72be8 14 = .ok (.aastore, 1) := by decide +kernel
theorem dJx4a65c_add_72be8_15 : decode cJx4a65c_add_72be8 15 = .ok (.aload_n 0, 1) := by decide +kernel
theorem dJx4a65c_add_72be8_16 : decode cJx4a65c_add_72be8 16 = .ok (.iload_n 3, 1) := by decide +kernel
theorem dJx4a65c_add_72be8_17 : decode cJx4a65c_add_72be8 17 = .ok (.iconst 1, 1) := by decide +kernel
theorem dJx4a65c_add_72be8_18 : decode cJx4a65c_add_72be8 18 = .ok (.iadd, 1) := by decide +kernel
theorem dJx4a65c_add_72be8_19 : decode cJx4a65c_add_72be8 19 = .ok (.putfield 48, 3) := by decide +kernel
theorem dJx4a65c_add_72be8_22 : decode cJx4a65c_add_72be8 22 = .ok (.return_, 1) := by decide +kernel
theorem dJx4a65c_add_9ea2d_0 : decode cJx4a65c_add_9ea2d 0 = .ok (.aload_n 0, 1) := by decide +kernel
theorem dJx4a65c_add_9ea2d_1 : decode cJx4a65c_add_9ea2d 1 = .ok (.dup, 1) := by decide +kernel
theorem dJx4a65c_add_9ea2d_2 : decode cJx4a65c_add_9ea2d 2 = .ok (.getfield 63, 3) := by decide +kernel
theorem dJx4a65c_add_9ea2d_5 : decode cJx4a65c_add_9ea2d 5 = .ok (.iconst 1, 1) := by decide +kernel
theorem dJx4a65c_add_9ea2d_6 : decode cJx4a65c_add_9ea2d 6 = .ok (.iadd, 1) := by decide +kernel
theorem dJx4a65c_add_9ea2d_7 : decode cJx4a65c_add_9ea2d 7 = .ok (.putfield 63, 3) := by decide +kernel
theorem dJx4a65c_add_9ea2d_10 : decode cJx4a65c_add_9ea2d 10 = .ok (.aload_n 0, 1) := by decide +kernel
theorem dJx4a65c_add_9ea2d_11 : decode cJx4a65c_add_9ea2d 11 = .ok (.aload_n 1, 1) := by decide +kernel
theorem dJx4a65c_add_9ea2d_12 : decode cJx4a65c_add_9ea2d 12 = .ok (.aload_n 0, 1) := by decide +kernel
theorem dJx4a65c_add_9ea2d_13 : decode cJx4a65c_add_9ea2d 13 = .ok (.getfield 9, 3) := by decide +kernel
theorem dJx4a65c_add_9ea2d_16 : decode cJx4a65c_add_9ea2d 16 = .ok (.aload_n 0, 1) := by decide +kernel
theorem dJx4a65c_add_9ea2d_17 : decode cJx4a65c_add_9ea2d 17 = .ok (.getfield 48, 3) := by decide +kernel
theorem dJx4a65c_add_9ea2d_20 : decode cJx4a65c_add_9ea2d 20 = .ok (.invokevirtual 131, 3) := by decide +kernel
theorem dJx4a65c_add_9ea2d_23 : decode cJx4a65c_add_9ea2d 23 = .ok (.iconst 1, 1) := by decide +kernel
theorem dJx4a65c_add_9ea2d_24 : decode cJx4a65c_add_9ea2d 24 = .ok (.ireturn, 1) := by decide +kernel
theorem dJx4a65c_grow_92f84_0 : decode cJx4a65c_grow_92f84 0 = .ok (.aload_n 0, 1) := by decide +kernel
theorem dJx4a65c_grow_92f84_1 : decode cJx4a65c_grow_92f84 1 = .ok (.getfield 9, 3) := by decide +kernel
theorem dJx4a65c_grow_92f84_4 : decode cJx4a65c_grow_92f84 4 = .ok (.arraylength, 1) := by decide +kernel
theorem dJx4a65c_grow_92f84_5 : decode cJx4a65c_grow_92f84 5 = .ok (.istore_n 2, 1) := by decide +kernel
theorem dJx4a65c_grow_92f84_6 : decode cJx4a65c_grow_92f84 6 = .ok (.iload_n 2, 1) := by decide +kernel
theorem dJx4a65c_grow_92f84_7 : decode cJx4a65c_grow_92f84 7 = .ok (.ifCond .gt 13, 3) := by decide +kernel
theorem dJx4a65c_grow_92f84_10 : decode cJx4a65c_grow_92f84 10 = .ok (.aload_n 0, 1) := by decide +kernel
theorem dJx4a65c_grow_92f84_11 : decode cJx4a65c_grow_92f84 11 = .ok (.getfield 9, 3) := by decide +kernel
theorem dJx4a65c_grow_92f84_14 : decode cJx4a65c_grow_92f84 14 = .ok (.getstatic 39, 3) := by decide +kernel
theorem dJx4a65c_grow_92f84_17 : decode cJx4a65c_grow_92f84 17 = .ok (.if_acmp .eq 28, 3) := by decide +kernel
theorem dJx4a65c_grow_92f84_45 : decode cJx4a65c_grow_92f84 45 = .ok (.aload_n 0, 1) := by decide +kernel
theorem dJx4a65c_grow_92f84_46 : decode cJx4a65c_grow_92f84 46 = .ok (.bipush 10, 2) := by decide +kernel
theorem dJx4a65c_grow_92f84_48 : decode cJx4a65c_grow_92f84 48 = .ok (.iload_n 1, 1) := by decide +kernel
theorem dJx4a65c_grow_92f84_49 : decode cJx4a65c_grow_92f84 49 = .ok (.invokestatic 79, 3) := by decide +kernel
theorem dJx4a65c_grow_92f84_52 : decode cJx4a65c_grow_92f84 52 = .ok (.anewarray 7, 3) := by decide +kernel
theorem dJx4a65c_grow_92f84_55 : decode cJx4a65c_grow_92f84 55 = .ok (.dup_x1, 1) := by decide +kernel
theorem dJx4a65c_grow_92f84_56 : decode cJx4a65c_grow_92f84 56 = .ok (.putfield 9, 3) := by decide +kernel
theorem dJx4a65c_grow_92f84_59 : decode cJx4a65c_grow_92f84 59 = .ok (.areturn, 1) := by decide +kernel
theorem dJx4a65c_grow_d5877_0 : decode cJx4a65c_grow_d5877 0 = .ok (.aload_n 0, 1) := by decide +kernel
theorem dJx4a65c_grow_d5877_1 : decode cJx4a65c_grow_d5877 1 = .ok (.aload_n 0, 1) := by decide +kernel
theorem dJx4a65c_grow_d5877_2 : decode cJx4a65c_grow_d5877 2 = .ok (.getfield 48, 3) := by decide +kernel
theorem dJx4a65c_grow_d5877_5 : decode cJx4a65c_grow_d5877 5 = .ok (.iconst 1, 1) := by decide +kernel
theorem dJx4a65c_grow_d5877_6 : decode cJx4a65c_grow_d5877 6 = .ok (.iadd, 1) := by decide +kernel
theorem dJx4a65c_grow_d5877_7 : decode cJx4a65c_grow_d5877 7 = .ok (.invokevirtual 69, 3) := by decide +kernel
theorem dJx4a65c_grow_d5877_10 : decode cJx4a65c_grow_d5877 10 = .ok (.areturn, 1) := by decide +kernel
theorem dX11_bylaw_0 : decode cX11_bylaw 0 = .ok (.sipush (-1000), 3) := by decide +kernel
theorem dX11_bylaw_3 : decode cX11_bylaw 3 = .ok (.istore_n 2, 1) := by decide +kernel
theorem dX11_bylaw_4 : decode cX11_bylaw 4 = .ok (.aload_n 0, 1) := by decide +kernel
theorem dX11_bylaw_5 : decode cX11_bylaw 5 = .ok (.getfield 16, 3) := by decide +kernel
theorem dX11_bylaw_8 : decode cX11_bylaw 8 = .ok (.getfield 154, 3) := by decide +kernel
theorem dX11_bylaw_11 : decode cX11_bylaw 11 = .ok (.invokevirtual 158, 3) := by decide +kernel
theorem dX11_bylaw_14 : decode cX11_bylaw 14 = .ok (.bipush 10, 2) := by decide +kernel
theorem dX11_bylaw_16 : decode cX11_bylaw 16 = .ok (.if_icmp .ge 100, 3) := by decide +kernel
theorem dX11_bylaw_19 : decode cX11_bylaw 19 = .ok (.iload_n 1, 1) := by decide +kernel
theorem dX11_bylaw_20 : decode cX11_bylaw 20 = .ok (.aload_n 0, 1) := by decide +kernel
theorem dX11_bylaw_21 : decode cX11_bylaw 21 = .ok (.getfield 16, 3) := by decide +kernel
theorem dX11_bylaw_24 : decode cX11_bylaw 24 = .ok (.getfield 57, 3) := by decide +kernel
theorem dX11_bylaw_27 : decode cX11_bylaw 27 = .ok (.if_icmp .lt 89, 3) := by decide +kernel
theorem dX11_bylaw_30 : decode cX11_bylaw 30 = .ok (.iload_n 1, 1) := by decide +kernel
theorem dX11_bylaw_31 : decode cX11_bylaw 31 = .ok (.sipush 199, 3) := by decide +kernel
theorem dX11_bylaw_34 : decode cX11_bylaw 34 = .ok (.if_icmp .gt 82, 3) := by decide +kernel
theorem dX11_bylaw_37 : decode cX11_bylaw 37 = .ok (.aload_n 0, 1) := by decide +kernel
theorem dX11_bylaw_38 : decode cX11_bylaw 38 = .ok (.getfield 23, 3) := by decide +kernel
theorem dX11_bylaw_41 : decode cX11_bylaw 41 = .ok (.aload_n 0, 1) := by decide +kernel
theorem dX11_bylaw_42 : decode cX11_bylaw 42 = .ok (.getfield 9, 3) := by decide +kernel
theorem dX11_bylaw_45 : decode cX11_bylaw 45 = .ok (.aload_n 0, 1) := by decide +kernel
theorem dX11_bylaw_46 : decode cX11_bylaw 46 = .ok (.getfield 50, 3) := by decide +kernel
theorem dX11_bylaw_49 : decode cX11_bylaw 49 = .ok (.invokevirtual 164, 3) := by decide +kernel
theorem dX11_bylaw_52 : decode cX11_bylaw 52 = .ok (.aload_n 0, 1) := by decide +kernel
theorem dX11_bylaw_53 : decode cX11_bylaw 53 = .ok (.aload_n 0, 1) := by decide +kernel
theorem dX11_bylaw_54 : decode cX11_bylaw 54 = .ok (.getfield 23, 3) := by decide +kernel
theorem dX11_bylaw_57 : decode cX11_bylaw 57 = .ok (.getfield 168, 3) := by decide +kernel
theorem dX11_bylaw_60 : decode cX11_bylaw 60 = .ok (.putfield 171, 3) := by decide +kernel
theorem dX11_bylaw_63 : decode cX11_bylaw 63 = .ok (.aload_n 0, 1) := by decide +kernel
theorem dX11_bylaw_64 : decode cX11_bylaw 64 = .ok (.getfield 171, 3) := by decide +kernel
theorem dX11_bylaw_67 : decode cX11_bylaw 67 = .ok (.ifCond .ne 13, 3) := by decide +kernel
theorem dX11_bylaw_70 : decode cX11_bylaw 70 = .ok (.aload_n 0, 1) := by decide +kernel
theorem dX11_bylaw_71 : decode cX11_bylaw 71 = .ok (.getfield 23, 3) := by decide +kernel
theorem dX11_bylaw_74 : decode cX11_bylaw 74 = .ok (.getfield 172, 3) := by decide +kernel
theorem dX11_bylaw_77 : decode cX11_bylaw 77 = .ok (.goto 12, 3) := by decide +kernel
theorem dX11_bylaw_89 : decode cX11_bylaw 89 = .ok (.istore_n 2, 1) := by decide +kernel
theorem dX11_bylaw_90 : decode cX11_bylaw 90 = .ok (.aload_n 0, 1) := by decide +kernel
theorem dX11_bylaw_91 : decode cX11_bylaw 91 = .ok (.getfield 171, 3) := by decide +kernel
theorem dX11_bylaw_94 : decode cX11_bylaw 94 = .ok (.ifCond .ne 22, 3) := by decide +kernel
theorem dX11_bylaw_97 : decode cX11_bylaw 97 = .ok (.aload_n 0, 1) := by decide +kernel
theorem dX11_bylaw_98 : decode cX11_bylaw 98 = .ok (.getfield 16, 3) := by decide +kernel
theorem dX11_bylaw_101 : decode cX11_bylaw 101 = .ok (.getfield 154, 3) := by decide +kernel
theorem dX11_bylaw_104 : decode cX11_bylaw 104 = .ok (.aload_n 0, 1) := by decide +kernel
theorem dX11_bylaw_105 : decode cX11_bylaw 105 = .ok (.getfield 23, 3) := by decide +kernel
theorem dX11_bylaw_108 : decode cX11_bylaw 108 = .ok (.iload_n 1, 1) := by decide +kernel
theorem dX11_bylaw_109 : decode cX11_bylaw 109 = .ok (.invokevirtual 178, 3) := by decide +kernel
theorem dX11_bylaw_112 : decode cX11_bylaw 112 = .ok (.invokevirtual 182, 3) := by decide +kernel
theorem dX11_bylaw_115 : decode cX11_bylaw 115 = .ok (.pop, 1) := by decide +kernel
theorem dX11_bylaw_116 : decode cX11_bylaw 116 = .ok (.aload_n 0, 1) := by decide +kernel
theorem dX11_bylaw_117 : decode cX11_bylaw 117 = .ok (.iconst 0, 1) := by decide +kernel
theorem dX11_bylaw_118 : decode cX11_bylaw 118 = .ok (.putfield 50, 3) := by decide +kernel
theorem dX11_bylaw_121 : decode cX11_bylaw 121 = .ok (.iload_n 2, 1) := by decide +kernel
theorem dX11_bylaw_122 : decode cX11_bylaw 122 = .ok (.ireturn, 1) := by decide +kernel
theorem dX3_addToken_0 : decode cX3_addToken 0 = .ok (.aload_n 0, 1) := by decide +kernel
theorem dX3_addToken_1 : decode cX3_addToken 1 = .ok (.getfield 98, 3) := by decide +kernel
theorem dX3_addToken_4 : decode cX3_addToken 4 = .ok (.aload_n 0, 1) := by decide +kernel
theorem dX3_addToken_5 : decode cX3_addToken 5 = .ok (.getfield 11, 3) := by decide +kernel
theorem dX3_addToken_8 : decode cX3_addToken 8 = .ok (.arraylength, 1) := by decide +kernel
theorem dX3_addToken_9 : decode cX3_addToken 9 = .ok (.if_icmp .ge 43, 3) := by decide +kernel
theorem dX3_addToken_12 : decode cX3_addToken 12 = .ok (.aload_n 0, 1) := by decide +kernel
theorem dX3_addToken_13 : decode cX3_addToken 13 = .ok (.getfield 11, 3) := by decide +kernel
theorem dX3_addToken_16 : decode cX3_addToken 16 = .ok (.aload_n 0, 1) := by decide +kernel
theorem dX3_addToken_17 : decode cX3_addToken 17 = .ok (.getfield 98, 3) := by decide +kernel
theorem dX3_addToken_20 : decode cX3_addToken 20 = .ok (.aload_n 1, 1) := by decide +kernel
theorem dX3_addToken_21 : decode cX3_addToken 21 = .ok (.aastore, 1) := by decide +kernel
theorem dX3_addToken_22 : decode cX3_addToken 22 = .ok (.aload_n 0, 1) := by decide +kernel
theorem dX3_addToken_23 : decode cX3_addToken 23 = .ok (.getfield 15, 3) := by decide +kernel
theorem dX3_addToken_26 : decode cX3_addToken 26 = .ok (.aload_n 0, 1) := by decide +kernel
theorem dX3_addToken_27 : decode cX3_addToken 27 = .ok (.getfield 98, 3) := by decide +kernel
theorem dX3_addToken_30 : decode cX3_addToken 30 = .ok (.iload_n 2, 1) := by decide +kernel
theorem dX3_addToken_31 : decode cX3_addToken 31 = .ok (.iastore, 1) := by decide +kernel
theorem dX3_addToken_32 : decode cX3_addToken 32 = .ok (.aload_n 0, 1) := by decide +kernel
theorem dX3_addToken_33 : decode cX3_addToken 33 = .ok (.getfield 19, 3) := by decide +kernel
theorem dX3_addToken_36 : decode cX3_addToken 36 = .ok (.aload_n 0, 1) := by decide +kernel
theorem dX3_addToken_37 : decode cX3_addToken 37 = .ok (.getfield 98, 3) := by decide +kernel
theorem dX3_addToken_40 : decode cX3_addToken 40 = .ok (.iload_n 3, 1) := by decide +kernel
theorem dX3_addToken_41 : decode cX3_addToken 41 = .ok (.iastore, 1) := by decide +kernel
theorem dX3_addToken_42 : decode cX3_addToken 42 = .ok (.aload_n 0, 1) := by decide +kernel
theorem dX3_addToken_43 : decode cX3_addToken 43 = .ok (.dup, 1) := by decide +kernel
theorem dX3_addToken_44 : decode cX3_addToken 44 = .ok (.getfield 98, 3) := by decide +kernel
theorem dX3_addToken_47 : decode cX3_addToken 47 = .ok (.iconst 1, 1) := by decide +kernel
theorem dX3_addToken_48 : decode cX3_addToken 48 = .ok (.iadd, 1) := by decide +kernel
theorem dX3_addToken_49 : decode cX3_addToken 49 = .ok (.putfield 98, 3) := by decide +kernel
theorem dX3_addToken_52 : decode cX3_addToken 52 = .ok (.return_, 1) := by decide +kernel
theorem dX3_cutOut_0 : decode cX3_cutOut 0 = .ok (.new 22, 3) := by decide +kernel
theorem dX3_cutOut_3 : decode cX3_cutOut 3 = .ok (.dup, 1) := by decide +kernel
theorem dX3_cutOut_4 : decode cX3_cutOut 4 = .ok (.iload_n 1, 1) := by decide +kernel
theorem dX3_cutOut_5 : decode cX3_cutOut 5 = .ok (.aload_n 0, 1) := by decide +kernel
theorem dX3_cutOut_6 : decode cX3_cutOut 6 = .ok (.getfield 31, 3) := by decide +kernel
theorem dX3_cutOut_9 : decode cX3_cutOut 9 = .ok (.aload_n 0, 1) := by decide +kernel
theorem dX3_cutOut_10 : decode cX3_cutOut 10 = .ok (.getfield 35, 3) := by decide +kernel
theorem dX3_cutOut_13 : decode cX3_cutOut 13 = .ok (.invokespecial 24, 3) := by decide +kernel
theorem dX3_cutOut_16 : decode cX3_cutOut 16 = .ok (.astore_n 2, 1) := by decide +kernel
theorem dX3_cutOut_17 : decode cX3_cutOut 17 = .ok (.aload_n 0, 1) := by decide +kernel
theorem dX3_cutOut_18 : decode cX3_cutOut 18 = .ok (.getfield 27, 3) := by decide +kernel
theorem dX3_cutOut_21 : decode cX3_cutOut 21 = .ok (.getfield 70, 3) := by decide +kernel
theorem dX3_cutOut_24 : decode cX3_cutOut 24 = .ok (.iconst 0, 1) := by decide +kernel
theorem dX3_cutOut_25 : decode cX3_cutOut 25 = .ok (.aload_n 2, 1) := by decide +kernel
theorem dX3_cutOut_26 : decode cX3_cutOut 26 = .ok (.getfield 70, 3) := by decide +kernel
theorem dX3_cutOut_29 : decode cX3_cutOut 29 = .ok (.iconst 0, 1) := by decide +kernel
theorem dX3_cutOut_30 : decode cX3_cutOut 30 = .ok (.aload_n 0, 1) := by decide +kernel
theorem dX3_cutOut_31 : decode cX3_cutOut 31 = .ok (.getfield 31, 3) := by decide +kernel
theorem dX3_cutOut_34 : decode cX3_cutOut 34 = .ok (.invokestatic 73, 3) := by decide +kernel
theorem dX3_cutOut_37 : decode cX3_cutOut 37 = .ok (.aload_n 0, 1) := by decide +kernel
theorem dX3_cutOut_38 : decode cX3_cutOut 38 = .ok (.getfield 27, 3) := by decide +kernel
theorem dX3_cutOut_41 : decode cX3_cutOut 41 = .ok (.getfield 79, 3) := by decide +kernel
theorem dX3_cutOut_44 : decode cX3_cutOut 44 = .ok (.iconst 0, 1) := by decide +kernel
theorem dX3_cutOut_45 : decode cX3_cutOut 45 = .ok (.aload_n 2, 1) := by decide +kernel
theorem dX3_cutOut_46 : decode cX3_cutOut 46 = .ok (.getfield 79, 3) := by decide +kernel
theorem dX3_cutOut_49 : decode cX3_cutOut 49 = .ok (.iconst 0, 1) := by decide +kernel
theorem dX3_cutOut_50 : decode cX3_cutOut 50 = .ok (.aload_n 0, 1) := by decide +kernel
theorem dX3_cutOut_51 : decode cX3_cutOut 51 = .ok (.getfield 31, 3) := by decide +kernel
theorem dX3_cutOut_54 : decode cX3_cutOut 54 = .ok (.invokestatic 73, 3) := by decide +kernel
theorem dX3_cutOut_57 : decode cX3_cutOut 57 = .ok (.aload_n 0, 1) := by decide +kernel
theorem dX3_cutOut_58 : decode cX3_cutOut 58 = .ok (.getfield 27, 3) := by decide +kernel
theorem dX3_cutOut_61 : decode cX3_cutOut 61 = .ok (.getfield 82, 3) := by decide +kernel
theorem dX3_cutOut_64 : decode cX3_cutOut 64 = .ok (.iconst 0, 1) := by decide +kernel
theorem dX3_cutOut_65 : decode cX3_cutOut 65 = .ok (.aload_n 2, 1) := by decide +kernel
theorem dX3_cutOut_66 : decode cX3_cutOut 66 = .ok (.getfield 82, 3) := by decide +kernel
theorem dX3_cutOut_69 : decode cX3_cutOut 69 = .ok (.iconst 0, 1) := by decide +kernel
theorem dX3_cutOut_70 : decode cX3_cutOut 70 = .ok (.aload_n 0, 1) := by decide +kernel
theorem dX3_cutOut_71 : decode cX3_cutOut 71 = .ok (.getfield 31, 3) := by decide +kernel
theorem dX3_cutOut_74 : decode cX3_cutOut 74 = .ok (.invokestatic 73, 3) := by decide +kernel
theorem dX3_cutOut_77 : decode cX3_cutOut 77 = .ok (.aload_n 0, 1) := by decide +kernel
theorem dX3_cutOut_78 : decode cX3_cutOut 78 = .ok (.getfield 27, 3) := by decide +kernel
theorem dX3_cutOut_81 : decode cX3_cutOut 81 = .ok (.getfield 85, 3) := by decide +kernel
theorem dX3_cutOut_84 : decode cX3_cutOut 84 = .ok (.iconst 0, 1) := by decide +kernel
theorem dX3_cutOut_85 : decode cX3_cutOut 85 = .ok (.aload_n 2, 1) := by decide +kernel
theorem dX3_cutOut_86 : decode cX3_cutOut 86 = .ok (.getfield 85, 3) := by decide +kernel
theorem dX3_cutOut_89 : decode cX3_cutOut 89 = .ok (.iconst 0, 1) := by decide +kernel
theorem dX3_cutOut_90 : decode cX3_cutOut 90 = .ok (.aload_n 0, 1) := by decide +kernel
theorem dX3_cutOut_91 : decode cX3_cutOut 91 = .ok (.getfield 35, 3) := by decide +kernel
theorem dX3_cutOut_94 : decode cX3_cutOut 94 = .ok (.invokestatic 73, 3) := by decide +kernel
theorem dX3_cutOut_97 : decode cX3_cutOut 97 = .ok (.aload_n 0, 1) := by decide +kernel
theorem dX3_cutOut_98 : decode cX3_cutOut 98 = .ok (.getfield 27, 3) := by decide +kernel
theorem dX3_cutOut_101 : decode cX3_cutOut 101 = .ok (.getfield 88, 3) := by decide +kernel
theorem dX3_cutOut_104 : decode cX3_cutOut 104 = .ok (.iconst 0, 1) := by decide +kernel
theorem dX3_cutOut_105 : decode cX3_cutOut 105 = .ok (.aload_n 2, 1) := by decide +kernel
theorem dX3_cutOut_106 : decode cX3_cutOut 106 = .ok (.getfield 88, 3) := by decide +kernel
theorem dX3_cutOut_109 : decode cX3_cutOut 109 = .ok (.iconst 0, 1) := by decide +kernel
theorem dX3_cutOut_110 : decode cX3_cutOut 110 = .ok (.aload_n 0, 1) := by decide +kernel
theorem dX3_cutOut_111 : decode cX3_cutOut 111 = .ok (.getfield 35, 3) := by decide +kernel
theorem dX3_cutOut_114 : decode cX3_cutOut 114 = .ok (.invokestatic 73, 3) := by decide +kernel
theorem dX3_cutOut_117 : decode cX3_cutOut 117 = .ok (.aload_n 0, 1) := by decide +kernel
theorem dX3_cutOut_118 : decode cX3_cutOut 118 = .ok (.getfield 27, 3) := by decide +kernel
theorem dX3_cutOut_121 : decode cX3_cutOut 121 = .ok (.getfield 91, 3) := by decide +kernel
theorem dX3_cutOut_124 : decode cX3_cutOut 124 = .ok (.iconst 0, 1) := by decide +kernel
theorem dX3_cutOut_125 : decode cX3_cutOut 125 = .ok (.aload_n 2, 1) := by decide +kernel
theorem dX3_cutOut_126 : decode cX3_cutOut 126 = .ok (.getfield 91, 3) := by decide +kernel
theorem dX3_cutOut_129 : decode cX3_cutOut 129 = .ok (.iconst 0, 1) := by decide +kernel
theorem dX3_cutOut_130 : decode cX3_cutOut 130 = .ok (.aload_n 0, 1) := by decide +kernel
theorem dX3_cutOut_131 : decode cX3_cutOut 131 = .ok (.getfield 35, 3) := by decide +kernel
theorem dX3_cutOut_134 : decode cX3_cutOut 134 = .ok (.invokestatic 73, 3) := by decide +kernel
theorem dX3_cutOut_137 : decode cX3_cutOut 137 = .ok (.aload_n 2, 1) := by decide +kernel
theorem dX3_cutOut_138 : decode cX3_cutOut 138 = .ok (.areturn, 1) := by decide +kernel
theorem dX3_read_0 : decode cX3_read 0 = .ok (.aload_n 0, 1) := by decide +kernel
theorem dX3_read_1 : decode cX3_read 1 = .ok (.iconst 0, 1) := by decide +kernel
theorem dX3_read_2 : decode cX3_read 2 = .ok (.putfield 31, 3) := by decide +kernel
theorem dX3_read_5 : decode cX3_read 5 = .ok (.aload_n 0, 1) := by decide +kernel
theorem dX3_read_6 : decode cX3_read 6 = .ok (.iconst 0, 1) := by decide +kernel
theorem dX3_read_7 : decode cX3_read 7 = .ok (.putfield 35, 3) := by decide +kernel
theorem dX3_read_10 : decode cX3_read 10 = .ok (.aload_n 0, 1) := by decide +kernel
theorem dX3_read_11 : decode cX3_read 11 = .ok (.iconst 0, 1) := by decide +kernel
theorem dX3_read_12 : decode cX3_read 12 = .ok (.putfield 38, 3) := by decide +kernel
theorem dX3_read_15 : decode cX3_read 15 = .ok (.aload_n 0, 1) := by decide +kernel
theorem dX3_read_16 : decode cX3_read 16 = .ok (.iconst 0, 1) := by decide +kernel
theorem dX3_read_17 : decode cX3_read 17 = .ok (.putfield 41, 3) := by decide +kernel
theorem dX3_read_20 : decode cX3_read 20 = .ok (.aload_n 0, 1) := by decide +kernel
theorem dX3_read_21 : decode cX3_read 21 = .ok (.iconst 0, 1) := by decide +kernel
theorem dX3_read_22 : decode cX3_read 22 = .ok (.putfield 44, 3) := by decide +kernel
theorem dX3_read_25 : decode cX3_read 25 = .ok (.aload_n 0, 1) := by decide +kernel
theorem dX3_read_26 : decode cX3_read 26 = .ok (.iconst 0, 1) := by decide +kernel
theorem dX3_read_27 : decode cX3_read 27 = .ok (.putfield 48, 3) := by decide +kernel
theorem dX3_read_30 : decode cX3_read 30 = .ok (.aload_n 0, 1) := by decide +kernel
theorem dX3_read_31 : decode cX3_read 31 = .ok (.iconst 0, 1) := by decide +kernel
theorem dX3_read_32 : decode cX3_read 32 = .ok (.putfield 51, 3) := by decide +kernel
theorem dX3_read_35 : decode cX3_read 35 = .ok (.aload_n 0, 1) := by decide +kernel
theorem dX3_read_36 : decode cX3_read 36 = .ok (.aload_n 1, 1) := by decide +kernel
theorem dX3_read_37 : decode cX3_read 37 = .ok (.iload_n 2, 1) := by decide +kernel
theorem dX3_read_38 : decode cX3_read 38 = .ok (.invokevirtual 54, 3) := by decide +kernel
theorem dX3_read_41 : decode cX3_read 41 = .ok (.iconst 0, 1) := by decide +kernel
theorem dX3_read_42 : decode cX3_read 42 = .ok (.istore_n 3, 1) := by decide +kernel
theorem dX3_read_43 : decode cX3_read 43 = .ok (.iload_n 3, 1) := by decide +kernel
theorem dX3_read_44 : decode cX3_read 44 = .ok (.bipush 16, 2) := by decide +kernel
theorem dX3_read_46 : decode cX3_read 46 = .ok (.if_icmp .gt 31, 3) := by decide +kernel
theorem dX3_read_49 : decode cX3_read 49 = .ok (.aload_n 0, 1) := by decide +kernel
theorem dX3_read_50 : decode cX3_read 50 = .ok (.getfield 48, 3) := by decide +kernel
theorem dX3_read_53 : decode cX3_read 53 = .ok (.ifCond .ne 24, 3) := by decide +kernel
theorem dX3_read_56 : decode cX3_read 56 = .ok (.aload_n 0, 1) := by decide +kernel
theorem dX3_read_57 : decode cX3_read 57 = .ok (.invokevirtual 58, 3) := by decide +kernel
theorem dX3_read_60 : decode cX3_read 60 = .ok (.getstatic 62, 3) := by decide +kernel
theorem dX3_read_63 : decode cX3_read 63 = .ok (.if_acmp .eq 14, 3) := by decide +kernel
theorem dX3_read_77 : decode cX3_read 77 = .ok (.return_, 1) := by decide +kernel
theorem dX3_split_0 : decode cX3_split 0 = .ok (.iload_n 2, 1) := by decide +kernel
theorem dX3_split_1 : decode cX3_split 1 = .ok (.sipush 300, 3) := by decide +kernel
theorem dX3_split_4 : decode cX3_split 4 = .ok (.invokestatic 92, 3) := by decide +kernel
theorem dX3_split_7 : decode cX3_split 7 = .ok (.istore_n 3, 1) := by decide +kernel
theorem dX3_split_8 : decode cX3_split 8 = .ok (.iconst 0, 1) := by decide +kernel
theorem dX3_split_9 : decode cX3_split 9 = .ok (.istore 4, 2) := by decide +kernel
theorem dX3_split_11 : decode cX3_split 11 = .ok (.aload_n 0, 1) := by decide +kernel
theorem dX3_split_12 : decode cX3_split 12 = .ok (.iconst 0, 1) := by decide +kernel
theorem dX3_split_13 : decode cX3_split 13 = .ok (.putfield 98, 3) := by decide +kernel
theorem dX3_split_16 : decode cX3_split 16 = .ok (.iload 4, 2) := by decide +kernel
theorem dX3_split_18 : decode cX3_split 18 = .ok (.iload_n 3, 1) := by decide +kernel
theorem dX3_split_19 : decode cX3_split 19 = .ok (.if_icmp .ge 72, 3) := by decide +kernel
theorem dX3_split_91 : decode cX3_split 91 = .ok (.aload_n 0, 1) := by decide +kernel
theorem dX3_split_92 : decode cX3_split 92 = .ok (.iload_n 2, 1) := by decide +kernel
theorem dX3_split_93 : decode cX3_split 93 = .ok (.sipush 300, 3) := by decide +kernel
theorem dX3_split_96 : decode cX3_split 96 = .ok (.if_icmp .le 9, 3) := by decide +kernel
theorem dX3_split_105 : decode cX3_split 105 = .ok (.getstatic 62, 3) := by decide +kernel
theorem dX3_split_108 : decode cX3_split 108 = .ok (.iload_n 3, 1) := by decide +kernel
theorem dX3_split_109 : decode cX3_split 109 = .ok (.iconst 0, 1) := by decide +kernel
theorem dX3_split_110 : decode cX3_split 110 = .ok (.invokevirtual 115, 3) := by decide +kernel
theorem dX3_split_113 : decode cX3_split 113 = .ok (.return_, 1) := by decide +kernel
theorem dX3_token_0 : decode cX3_token 0 = .ok (.aload_n 0, 1) := by decide +kernel
theorem dX3_token_1 : decode cX3_token 1 = .ok (.getfield 11, 3) := by decide +kernel
theorem dX3_token_4 : decode cX3_token 4 = .ok (.aload_n 0, 1) := by decide +kernel
theorem dX3_token_5 : decode cX3_token 5 = .ok (.getfield 41, 3) := by decide +kernel
theorem dX3_token_8 : decode cX3_token 8 = .ok (.aaload, 1) := by decide +kernel
theorem dX3_token_9 : decode cX3_token 9 = .ok (.astore_n 1, 1) := by decide +kernel
theorem dX3_token_10 : decode cX3_token 10 = .ok (.aload_n 1, 1) := by decide +kernel
theorem dX3_token_11 : decode cX3_token 11 = .ok (.ifnonnull 9, 3) := by decide +kernel
theorem dX3_token_20 : decode cX3_token 20 = .ok (.aload_n 1, 1) := by decide +kernel
theorem dX3_token_21 : decode cX3_token 21 = .ok (.areturn, 1) := by decide +kernel
theorem my_tv {p : Program} {l : Launch} {e : Env} {R : Room} {s : State} {m : MethodId} {args : Array Value} {below : List Frame} {meth : Method} {c : Code} {H : Heap} {locs : List Loc} {cells slots : Nat} {Q : State → Prop} {pc : Nat} {ls : Array Slot} {rest : List Value} {v w : Value} (h : v = w) (k : W p l e R s m args below meth c H locs cells slots Q (F0 m pc ls (w :: rest))) : W p l e R s m args below meth c H locs cells slots Q (F0 m pc ls (v :: rest)) := by subst h; exact k
theorem my_any {E : String} {t : Nat} {A : Nat → Prop} {s : State} {H : Heap} {locs : List Loc} (hO : va_O E t A s s.heap) (hS : va_S A s.heap H locs) : va_Any E s H t := by
  obtain ⟨cell, h1, h2, h3⟩ := va_Orecv hO hS
  refine ⟨cell, h1, h2, ?_, fun comp hc => ?_⟩
  · obtain ⟨k9, h9, -⟩ := Vm.findClass_spec h3; exact ⟨k9, h9⟩
  · cases Option.some.inj (h3.symm.trans hc); exact va_asg _ _
set_option maxHeartbeats 4000000 in
set_option maxRecDepth 100000 in
theorem c_addToken (l : Launch) (dC : Nat → ClassId) (dI : Nat → Nat → Nat) (sz : Nat) (tE : Nat) (xR : Nat) (xRt : Nat) (xRs : Nat) (xRn : Nat) (xRd : Nat) (cRt : ClassId) (cRs : ClassId) (cRn : ClassId) : Met l yX3_addToken (.code yX3_addToken cX3_addToken 4 none :: lw_good) ({ frames := 2, cells := 0, slots := 0, locals := 60 }) (va_Pc [.ref xR, .ref tE, .int 0, .int 0] (fun U => U.heap.size = sz ∧ va_P (dC, dI) vwCl [(xR, .inr (4, [.ref xRt, .ref xRs, .ref xRn, .int 0, .int 0, .ref xRd, .int 0, .int 0, .int 0, .int 0, .int 0, .int 0])), (xRt, .inl (cRt, 301, .inr (.inr (.inr (.inr (fun _ => none)))))), (xRs, .inl (cRs, 301, .inl (fun _ => 0))), (xRn, .inl (cRn, 301, .inl (fun _ => 0)))] U.heap ∧ va_K (dC, dI) vwCl [(cRt, .object RX6), (cRs, .int), (cRn, .int)] U ∧ va_D (fun _ => True) [(xR, .inr (4, [.ref xRt, .ref xRs, .ref xRn, .int 0, .int 0, .ref xRd, .int 0, .int 0, .int 0, .int 0, .int 0, .int 0])), (xRt, .inl (cRt, 301, .inr (.inr (.inr (.inr (fun _ => none)))))), (xRs, .inl (cRs, 301, .inl (fun _ => 0))), (xRn, .inl (cRn, 301, .inl (fun _ => 0)))] ∧ va_O RX6 tE (va_A [(xR, .inr (4, [.ref xRt, .ref xRs, .ref xRn, .int 0, .int 0, .ref xRd, .int 0, .int 0, .int 0, .int 0, .int 0, .int 0])), (xRt, .inl (cRt, 301, .inr (.inr (.inr (.inr (fun _ => none)))))), (xRs, .inl (cRs, 301, .inl (fun _ => 0))), (xRn, .inl (cRn, 301, .inl (fun _ => 0)))] sz) U U.heap)) (va_Qv (fun (_ : Unit) => True) (fun (_ : Unit) (t : State) => ∃ (gS : Nat → Int32), ∃ (gN : Nat → Int32), va_P (dC, dI) vwCl [(xR, .inr (4, [.ref xRt, .ref xRs, .ref xRn, .int 1, .int 0, .ref xRd, .int 0, .int 0, .int 0, .int 0, .int 0, .int 0])), (xRt, .inl (cRt, 301, .inr (.inr (.inr (.inr (va_up (fun _ => none) (0 : Int32).toNatClampNeg (some tE))))))), (xRs, .inl (cRs, 301, .inl gS)), (xRn, .inl (cRn, 301, .inl gN))] t.heap ∧ va_K (dC, dI) vwCl [(cRt, .object RX6), (cRs, .int), (cRn, .int)] t ∧ va_D (va_A [(xR, .inr (4, [.ref xRt, .ref xRs, .ref xRn, .int 0, .int 0, .ref xRd, .int 0, .int 0, .int 0, .int 0, .int 0, .int 0])), (xRt, .inl (cRt, 301, .inr (.inr (.inr (.inr (fun _ => none)))))), (xRs, .inl (cRs, 301, .inl (fun _ => 0))), (xRn, .inl (cRn, 301, .inl (fun _ => 0)))] sz) [(xR, .inr (4, [.ref xRt, .ref xRs, .ref xRn, .int 1, .int 0, .ref xRd, .int 0, .int 0, .int 0, .int 0, .int 0, .int 0])), (xRt, .inl (cRt, 301, .inr (.inr (.inr (.inr (va_up (fun _ => none) (0 : Int32).toNatClampNeg (some tE))))))), (xRs, .inl (cRs, 301, .inl gS)), (xRn, .inl (cRn, 301, .inl gN))]) (va_A [(xR, .inr (4, [.ref xRt, .ref xRs, .ref xRn, .int 0, .int 0, .ref xRd, .int 0, .int 0, .int 0, .int 0, .int 0, .int 0])), (xRt, .inl (cRt, 301, .inr (.inr (.inr (.inr (fun _ => none)))))), (xRs, .inl (cRs, 301, .inl (fun _ => 0))), (xRn, .inl (cRn, 301, .inl (fun _ => 0)))] sz)) 0 0 (va_A [(xR, .inr (4, [.ref xRt, .ref xRs, .ref xRn, .int 0, .int 0, .ref xRd, .int 0, .int 0, .int 0, .int 0, .int 0, .int 0])), (xRt, .inl (cRt, 301, .inr (.inr (.inr (.inr (fun _ => none)))))), (xRs, .inl (cRs, 301, .inl (fun _ => 0))), (xRn, .inl (cRn, 301, .inl (fun _ => 0)))] sz) := by
  refine Met.ofW (cc := cX3_addToken) (maxL := 4) (ret := none) (by decide) rfl ?_
  intro p e s m args below meth c s₁ B hml hv
  obtain ⟨rfl, hsz, hP, hK, hD0, hO_E⟩ := hv
  have hx := B.exec
  have hb := B.bytes
  have hr := B.returns
  have hts := atoms_spec (ws := (.code yX3_addToken cX3_addToken 4 none :: lw_good)) B.pre
  have hown : s.vm.findClass RX3 = some m.cls := findClass_of_methodNamed B.named
  have hlocks := B.notSynchronized
  subst hsz
  have hD := hD0.self (sz := s.heap.size)
  generalize hAe : va_A [(xR, .inr (4, [.ref xRt, .ref xRs, .ref xRn, .int 0, .int 0, .ref xRd, .int 0, .int 0, .int 0, .int 0, .int 0, .int 0])), (xRt, .inl (cRt, 301, .inr (.inr (.inr (.inr (fun _ => none)))))), (xRs, .inl (cRs, 301, .inl (fun _ => 0))), (xRn, .inl (cRn, 301, .inl (fun _ => 0)))] s.heap.size = A at hD ⊢ hO_E
  have hA : ∀ q : Nat, s.heap.size ≤ q → A q := fun q h => by rw [← hAe]; exact Or.inr h
  have hS : va_S A s.heap s.heap [] := va_S.rf
  have hP : va_P (dC, dI) vwCl [(xR, .inr (4, [.ref xRt, .ref xRs, .ref xRn, .int 0, .int 0, .ref xRd, .int 0, .int 0, .int 0, .int 0, .int 0, .int 0])), (xRt, .inl (cRt, 301, .inr (.inr (.inr (.inr (fun _ => none)))))), (xRs, .inl (cRs, 301, .inl (fun _ => 0))), (xRn, .inl (cRn, 301, .inl (fun _ => 0)))] s.heap := hP
  have hl := lv_entry ([.ref xR, .ref tE, .int 0, .int 0]) (n := 4) (Nat.le_of_ble_eq_true rfl)
  rw [lg_entry_eq]
  generalize (lg_sl ([.ref xR, .ref tE, .int 0, .int 0]) ++ List.replicate (4 - (lg_sl ([.ref xR, .ref tE, .int 0, .int 0])).length) Slot.unset).toArray = ls at hl ⊢
  have hl : lv_has ls 4 [(0, .ref xR), (1, .ref tE), (2, .int 0), (3, .int 0)] := hl
  refine lv_aload_n hx hb dX3_addToken_0 rfl (lv_at hl 0 rfl) ?_
  refine va_get (D := (dC, dI)) (ci := 4) (v := .int 0) (C := RX3) (T := TX3) (N := 12) hx hb hts iCX3 hown hK hP 0 rfl rfl 3 (by decide) (hts (.fieldLink RX3 98 "WalkingTown$Reader" "tokenCount" "I") (List.mem_cons_of_mem _ kw_2_144)) (fun _ h9 => h9) rfl dX3_addToken_1 ?_
  refine lv_aload_n hx hb dX3_addToken_4 rfl (lv_at hl 0 rfl) ?_
  refine va_get (D := (dC, dI)) (ci := 4) (v := .ref xRt) (C := RX3) (T := TX3) (N := 12) hx hb hts iCX3 hown hK hP 0 rfl rfl 0 (by decide) (hts (.fieldLink RX3 11 "WalkingTown$Reader" "tokens" "[LWalkingTown$Token;") (List.mem_cons_of_mem _ kw_2_141)) (fun _ h9 => h9) rfl dX3_addToken_5 ?_
  refine va_alen hx hb hK hP 1 0 rfl rfl (v := 301) rfl dX3_addToken_8 ?_
  refine lv_icmp_ge (tgt := 52) hx hb dX3_addToken_9 (by decide) (fun c_1 => ?_) (fun c_1 => ?_)
  · exact absurd c_1 (by decide)
  refine lv_aload_n hx hb dX3_addToken_12 rfl (lv_at hl 0 rfl) ?_
  refine va_get (D := (dC, dI)) (ci := 4) (v := .ref xRt) (C := RX3) (T := TX3) (N := 12) hx hb hts iCX3 hown hK hP 0 rfl rfl 0 (by decide) (hts (.fieldLink RX3 11 "WalkingTown$Reader" "tokens" "[LWalkingTown$Token;") (List.mem_cons_of_mem _ kw_2_141)) (fun _ h9 => h9) rfl dX3_addToken_13 ?_
  refine lv_aload_n hx hb dX3_addToken_16 rfl (lv_at hl 0 rfl) ?_
  refine va_get (D := (dC, dI)) (ci := 4) (v := .int 0) (C := RX3) (T := TX3) (N := 12) hx hb hts iCX3 hown hK hP 0 rfl rfl 3 (by decide) (hts (.fieldLink RX3 98 "WalkingTown$Reader" "tokenCount" "I") (List.mem_cons_of_mem _ kw_2_144)) (fun _ h9 => h9) rfl dX3_addToken_17 ?_
  refine lv_aload_n hx hb dX3_addToken_20 rfl (lv_at hl 1 rfl) ?_
  refine va_astqM hx hb hK hP hD hS 1 0 rfl rfl (my_any hO_E hS) (by unfold vp_in; decide) dX3_addToken_21 (fun H locs hP hD hS => ?_)
  have hP : va_P (dC, dI) vwCl [(xR, .inr (4, [.ref xRt, .ref xRs, .ref xRn, .int 0, .int 0, .ref xRd, .int 0, .int 0, .int 0, .int 0, .int 0, .int 0])), (xRt, .inl (cRt, 301, .inr (.inr (.inr (.inr (va_up (fun _ => none) (0 : Int32).toNatClampNeg (some tE))))))), (xRs, .inl (cRs, 301, .inl (fun _ => 0))), (xRn, .inl (cRn, 301, .inl (fun _ => 0)))] H := hP
  have hD : va_D A [(xR, .inr (4, [.ref xRt, .ref xRs, .ref xRn, .int 0, .int 0, .ref xRd, .int 0, .int 0, .int 0, .int 0, .int 0, .int 0])), (xRt, .inl (cRt, 301, .inr (.inr (.inr (.inr (va_up (fun _ => none) (0 : Int32).toNatClampNeg (some tE))))))), (xRs, .inl (cRs, 301, .inl (fun _ => 0))), (xRn, .inl (cRn, 301, .inl (fun _ => 0)))] := hD
  refine lv_aload_n hx hb dX3_addToken_22 rfl (lv_at hl 0 rfl) ?_
  refine va_get (D := (dC, dI)) (ci := 4) (v := .ref xRs) (C := RX3) (T := TX3) (N := 12) hx hb hts iCX3 hown hK hP 0 rfl rfl 1 (by decide) (hts (.fieldLink RX3 15 "WalkingTown$Reader" "starts" "[I") (List.mem_cons_of_mem _ kw_2_142)) (fun _ h9 => h9) rfl dX3_addToken_23 ?_
  refine lv_aload_n hx hb dX3_addToken_26 rfl (lv_at hl 0 rfl) ?_
  refine va_get (D := (dC, dI)) (ci := 4) (v := .int 0) (C := RX3) (T := TX3) (N := 12) hx hb hts iCX3 hown hK hP 0 rfl rfl 3 (by decide) (hts (.fieldLink RX3 98 "WalkingTown$Reader" "tokenCount" "I") (List.mem_cons_of_mem _ kw_2_144)) (fun _ h9 => h9) rfl dX3_addToken_27 ?_
  refine lv_iload_n hx hb dX3_addToken_30 rfl (lv_at hl 2 rfl) ?_
  refine va_iast hx hb hK hP hD hS 2 1 rfl rfl (by unfold vp_in; decide) dX3_addToken_31 (fun H locs hP hD hS => ?_)
  have hP : va_P (dC, dI) vwCl [(xR, .inr (4, [.ref xRt, .ref xRs, .ref xRn, .int 0, .int 0, .ref xRd, .int 0, .int 0, .int 0, .int 0, .int 0, .int 0])), (xRt, .inl (cRt, 301, .inr (.inr (.inr (.inr (va_up (fun _ => none) (0 : Int32).toNatClampNeg (some tE))))))), (xRs, .inl (cRs, 301, .inl (upd (fun _ => 0) (0 : Int32).toNatClampNeg 0))), (xRn, .inl (cRn, 301, .inl (fun _ => 0)))] H := hP
  have hD : va_D A [(xR, .inr (4, [.ref xRt, .ref xRs, .ref xRn, .int 0, .int 0, .ref xRd, .int 0, .int 0, .int 0, .int 0, .int 0, .int 0])), (xRt, .inl (cRt, 301, .inr (.inr (.inr (.inr (va_up (fun _ => none) (0 : Int32).toNatClampNeg (some tE))))))), (xRs, .inl (cRs, 301, .inl (upd (fun _ => 0) (0 : Int32).toNatClampNeg 0))), (xRn, .inl (cRn, 301, .inl (fun _ => 0)))] := hD
  obtain ⟨f_2, ef_2⟩ : ∃ z : Nat → Int32, z = (upd (fun _ => 0) (0 : Int32).toNatClampNeg 0) := ⟨_, rfl⟩
  rw [← ef_2] at hP hD
  refine lv_aload_n hx hb dX3_addToken_32 rfl (lv_at hl 0 rfl) ?_
  refine va_get (D := (dC, dI)) (ci := 4) (v := .ref xRn) (C := RX3) (T := TX3) (N := 12) hx hb hts iCX3 hown hK hP 0 rfl rfl 2 (by decide) (hts (.fieldLink RX3 19 "WalkingTown$Reader" "numbers" "[I") (List.mem_cons_of_mem _ kw_2_143)) (fun _ h9 => h9) rfl dX3_addToken_33 ?_
  refine lv_aload_n hx hb dX3_addToken_36 rfl (lv_at hl 0 rfl) ?_
  refine va_get (D := (dC, dI)) (ci := 4) (v := .int 0) (C := RX3) (T := TX3) (N := 12) hx hb hts iCX3 hown hK hP 0 rfl rfl 3 (by decide) (hts (.fieldLink RX3 98 "WalkingTown$Reader" "tokenCount" "I") (List.mem_cons_of_mem _ kw_2_144)) (fun _ h9 => h9) rfl dX3_addToken_37 ?_
  refine lv_iload_n hx hb dX3_addToken_40 rfl (lv_at hl 3 rfl) ?_
  refine va_iast hx hb hK hP hD hS 3 2 rfl rfl (by unfold vp_in; decide) dX3_addToken_41 (fun H locs hP hD hS => ?_)
  have hP : va_P (dC, dI) vwCl [(xR, .inr (4, [.ref xRt, .ref xRs, .ref xRn, .int 0, .int 0, .ref xRd, .int 0, .int 0, .int 0, .int 0, .int 0, .int 0])), (xRt, .inl (cRt, 301, .inr (.inr (.inr (.inr (va_up (fun _ => none) (0 : Int32).toNatClampNeg (some tE))))))), (xRs, .inl (cRs, 301, .inl f_2)), (xRn, .inl (cRn, 301, .inl (upd (fun _ => 0) (0 : Int32).toNatClampNeg 0)))] H := hP
  have hD : va_D A [(xR, .inr (4, [.ref xRt, .ref xRs, .ref xRn, .int 0, .int 0, .ref xRd, .int 0, .int 0, .int 0, .int 0, .int 0, .int 0])), (xRt, .inl (cRt, 301, .inr (.inr (.inr (.inr (va_up (fun _ => none) (0 : Int32).toNatClampNeg (some tE))))))), (xRs, .inl (cRs, 301, .inl f_2)), (xRn, .inl (cRn, 301, .inl (upd (fun _ => 0) (0 : Int32).toNatClampNeg 0)))] := hD
  obtain ⟨f_3, ef_3⟩ : ∃ z : Nat → Int32, z = (upd (fun _ => 0) (0 : Int32).toNatClampNeg 0) := ⟨_, rfl⟩
  rw [← ef_3] at hP hD
  refine lv_aload_n hx hb dX3_addToken_42 rfl (lv_at hl 0 rfl) ?_
  refine lv_dup hx hb dX3_addToken_43 rfl ?_
  refine va_get (D := (dC, dI)) (ci := 4) (v := .int 0) (C := RX3) (T := TX3) (N := 12) hx hb hts iCX3 hown hK hP 0 rfl rfl 3 (by decide) (hts (.fieldLink RX3 98 "WalkingTown$Reader" "tokenCount" "I") (List.mem_cons_of_mem _ kw_2_144)) (fun _ h9 => h9) rfl dX3_addToken_44 ?_
  refine lv_iconst (v := 1) hx hb dX3_addToken_47 (by decide) ?_
  refine lv_iadd hx hb dX3_addToken_48 ?_
  refine my_ti (y := 1) (by decide) ?_
  refine va_put (D := (dC, dI)) (ci := 4) (v := .int 1) (ty := .int) (C := RX3) (T := TX3) (N := 12) hx hb hts iCX3 tyX3 tyX3_ok nmX3 hown hK hP hD hS 0 rfl rfl 3 (by decide) (hts (.fieldLink RX3 98 "WalkingTown$Reader" "tokenCount" "I") (List.mem_cons_of_mem _ kw_2_144)) (fun _ h9 => h9) rfl (by decide +kernel) rfl rfl (Nat.le_of_ble_eq_true rfl) dX3_addToken_49 (fun H locs hP hD hS => ?_)
  have hP : va_P (dC, dI) vwCl [(xR, .inr (4, [.ref xRt, .ref xRs, .ref xRn, .int 1, .int 0, .ref xRd, .int 0, .int 0, .int 0, .int 0, .int 0, .int 0])), (xRt, .inl (cRt, 301, .inr (.inr (.inr (.inr (va_up (fun _ => none) (0 : Int32).toNatClampNeg (some tE))))))), (xRs, .inl (cRs, 301, .inl f_2)), (xRn, .inl (cRn, 301, .inl f_3))] H := hP
  have hD : va_D A [(xR, .inr (4, [.ref xRt, .ref xRs, .ref xRn, .int 1, .int 0, .ref xRd, .int 0, .int 0, .int 0, .int 0, .int 0, .int 0])), (xRt, .inl (cRt, 301, .inr (.inr (.inr (.inr (va_up (fun _ => none) (0 : Int32).toNatClampNeg (some tE))))))), (xRs, .inl (cRs, 301, .inl f_2)), (xRn, .inl (cRn, 301, .inl f_3))] := hD
  have hP9 := hP.sub (ws' := [(xR, .inr (4, [.ref xRt, .ref xRs, .ref xRn, .int 1, .int 0, .ref xRd, .int 0, .int 0, .int 0, .int 0, .int 0, .int 0])), (xRt, .inl (cRt, 301, .inr (.inr (.inr (.inr (va_up (fun _ => none) (0 : Int32).toNatClampNeg (some tE))))))), (xRs, .inl (cRs, 301, .inl f_2)), (xRn, .inl (cRn, 301, .inl f_3))]) [0, 1, 2, 3] rfl
  have hD9 := hD.sub (ws' := [(xR, .inr (4, [.ref xRt, .ref xRs, .ref xRn, .int 1, .int 0, .ref xRd, .int 0, .int 0, .int 0, .int 0, .int 0, .int 0])), (xRt, .inl (cRt, 301, .inr (.inr (.inr (.inr (va_up (fun _ => none) (0 : Int32).toNatClampNeg (some tE))))))), (xRs, .inl (cRs, 301, .inl f_2)), (xRn, .inl (cRn, 301, .inl f_3))]) [0, 1, 2, 3] (by decide) rfl
  have hK9 := hK.sub (tys' := [(cRt, .object RX6), (cRs, .int), (cRn, .int)]) [0, 1, 2] rfl
  refine W.widen (k := 0) (n := 0) (Nat.le_of_ble_eq_true rfl) (Nat.le_of_ble_eq_true rfl) ?_
  exact W.vret hx hb hr (fun t ht hW => ⟨⟨(), rfl, trivial, ⟨f_2, f_3, by rw [ht]; exact hP9, va_K.moved hW.alike hK9, hD9⟩⟩, hS.F ht⟩) hS.2.2 dX3_addToken_52
set_option maxHeartbeats 4000000 in
set_option maxRecDepth 100000 in
theorem c_split (l : Launch) (dC : Nat → ClassId) (dI : Nat → Nat → Nat) (sz : Nat) (tE : Nat) (xT : Nat) (xR : Nat) (xRt : Nat) (xRs : Nat) (xRn : Nat) (xRd : Nat) (cRt : ClassId) (cRs : ClassId) (cRn : ClassId) : Met l yX3_split (.code yX3_split cX3_split 6 none :: lw_good) ({ frames := 4, cells := 0, slots := 0, locals := 150 }) (va_Pc [.ref xR, .ref xT, .int 0] (fun U => U.heap.size = sz ∧ va_P (dC, dI) vwCl [(xR, .inr (4, [.ref xRt, .ref xRs, .ref xRn, .int 0, .int 0, .ref xRd, .int 0, .int 0, .int 0, .int 0, .int 0, .int 0])), (xRt, .inl (cRt, 301, .inr (.inr (.inr (.inr (fun _ => none)))))), (xRs, .inl (cRs, 301, .inl (fun _ => 0))), (xRn, .inl (cRn, 301, .inl (fun _ => 0)))] U.heap ∧ va_K (dC, dI) vwCl [(cRt, .object RX6), (cRs, .int), (cRn, .int)] U ∧ va_D (fun _ => True) [(xR, .inr (4, [.ref xRt, .ref xRs, .ref xRn, .int 0, .int 0, .ref xRd, .int 0, .int 0, .int 0, .int 0, .int 0, .int 0])), (xRt, .inl (cRt, 301, .inr (.inr (.inr (.inr (fun _ => none)))))), (xRs, .inl (cRs, 301, .inl (fun _ => 0))), (xRn, .inl (cRn, 301, .inl (fun _ => 0)))] ∧ va_O RX6 tE (va_A [(xR, .inr (4, [.ref xRt, .ref xRs, .ref xRn, .int 0, .int 0, .ref xRd, .int 0, .int 0, .int 0, .int 0, .int 0, .int 0])), (xRt, .inl (cRt, 301, .inr (.inr (.inr (.inr (fun _ => none)))))), (xRs, .inl (cRs, 301, .inl (fun _ => 0))), (xRn, .inl (cRn, 301, .inl (fun _ => 0)))] sz) U U.heap ∧ va_Z "WalkingTown$Token" "END" "LWalkingTown$Token;" (.ref tE) (va_A [(xR, .inr (4, [.ref xRt, .ref xRs, .ref xRn, .int 0, .int 0, .ref xRd, .int 0, .int 0, .int 0, .int 0, .int 0, .int 0])), (xRt, .inl (cRt, 301, .inr (.inr (.inr (.inr (fun _ => none)))))), (xRs, .inl (cRs, 301, .inl (fun _ => 0))), (xRn, .inl (cRn, 301, .inl (fun _ => 0)))] sz) U U.heap)) (va_Qv (fun (_ : Unit) => True) (fun (_ : Unit) (t : State) => va_P (dC, dI) vwCl [(xR, .inr (4, [.ref xRt, .ref xRs, .ref xRn, .int 1, .int 0, .ref xRd, .int 0, .int 0, .int 0, .int 0, .int 0, .int 0])), (xRt, .inl (cRt, 301, .inr (.inr (.inr (.inr (va_up (fun _ => none) (0 : Int32).toNatClampNeg (some tE)))))))] t.heap ∧ va_K (dC, dI) vwCl [(cRt, .object RX6)] t ∧ va_D (va_A [(xR, .inr (4, [.ref xRt, .ref xRs, .ref xRn, .int 0, .int 0, .ref xRd, .int 0, .int 0, .int 0, .int 0, .int 0, .int 0])), (xRt, .inl (cRt, 301, .inr (.inr (.inr (.inr (fun _ => none)))))), (xRs, .inl (cRs, 301, .inl (fun _ => 0))), (xRn, .inl (cRn, 301, .inl (fun _ => 0)))] sz) [(xR, .inr (4, [.ref xRt, .ref xRs, .ref xRn, .int 1, .int 0, .ref xRd, .int 0, .int 0, .int 0, .int 0, .int 0, .int 0])), (xRt, .inl (cRt, 301, .inr (.inr (.inr (.inr (va_up (fun _ => none) (0 : Int32).toNatClampNeg (some tE)))))))]) (va_A [(xR, .inr (4, [.ref xRt, .ref xRs, .ref xRn, .int 0, .int 0, .ref xRd, .int 0, .int 0, .int 0, .int 0, .int 0, .int 0])), (xRt, .inl (cRt, 301, .inr (.inr (.inr (.inr (fun _ => none)))))), (xRs, .inl (cRs, 301, .inl (fun _ => 0))), (xRn, .inl (cRn, 301, .inl (fun _ => 0)))] sz)) 0 0 (va_A [(xR, .inr (4, [.ref xRt, .ref xRs, .ref xRn, .int 0, .int 0, .ref xRd, .int 0, .int 0, .int 0, .int 0, .int 0, .int 0])), (xRt, .inl (cRt, 301, .inr (.inr (.inr (.inr (fun _ => none)))))), (xRs, .inl (cRs, 301, .inl (fun _ => 0))), (xRn, .inl (cRn, 301, .inl (fun _ => 0)))] sz) := by
  refine Met.ofW (cc := cX3_split) (maxL := 6) (ret := none) (by decide) rfl ?_
  intro p e s m args below meth c s₁ B hml hv
  obtain ⟨rfl, hsz, hP, hK, hD0, hO_E, hZ_E⟩ := hv
  have hx := B.exec
  have hb := B.bytes
  have hr := B.returns
  have hts := atoms_spec (ws := (.code yX3_split cX3_split 6 none :: lw_good)) B.pre
  have hown : s.vm.findClass RX3 = some m.cls := findClass_of_methodNamed B.named
  have hlocks := B.notSynchronized
  subst hsz
  have hD := hD0.self (sz := s.heap.size)
  generalize hAe : va_A [(xR, .inr (4, [.ref xRt, .ref xRs, .ref xRn, .int 0, .int 0, .ref xRd, .int 0, .int 0, .int 0, .int 0, .int 0, .int 0])), (xRt, .inl (cRt, 301, .inr (.inr (.inr (.inr (fun _ => none)))))), (xRs, .inl (cRs, 301, .inl (fun _ => 0))), (xRn, .inl (cRn, 301, .inl (fun _ => 0)))] s.heap.size = A at hD ⊢ hO_E hZ_E
  have hA : ∀ q : Nat, s.heap.size ≤ q → A q := fun q h => by rw [← hAe]; exact Or.inr h
  have hS : va_S A s.heap s.heap [] := va_S.rf
  have hP : va_P (dC, dI) vwCl [(xR, .inr (4, [.ref xRt, .ref xRs, .ref xRn, .int 0, .int 0, .ref xRd, .int 0, .int 0, .int 0, .int 0, .int 0, .int 0])), (xRt, .inl (cRt, 301, .inr (.inr (.inr (.inr (fun _ => none)))))), (xRs, .inl (cRs, 301, .inl (fun _ => 0))), (xRn, .inl (cRn, 301, .inl (fun _ => 0)))] s.heap := hP
  have hl := lv_entry ([.ref xR, .ref xT, .int 0]) (n := 6) (Nat.le_of_ble_eq_true rfl)
  rw [lg_entry_eq]
  generalize (lg_sl ([.ref xR, .ref xT, .int 0]) ++ List.replicate (6 - (lg_sl ([.ref xR, .ref xT, .int 0])).length) Slot.unset).toArray = ls at hl ⊢
  have hl : lv_has ls 6 [(0, .ref xR), (1, .ref xT), (2, .int 0)] := hl
  refine lv_iload_n hx hb dX3_split_0 rfl (lv_at hl 2 rfl) ?_
  refine lv_sipush (v := 300) hx hb dX3_split_1 (by decide) ?_
  refine va_mmin hx hb (hml.trans hl.1.symm) hown (hts (.methodLink RX3 92 Lib.Math.min.name) (List.mem_cons_of_mem _ kw_4_17)) (hts (.static Lib.Math.min.name) (List.mem_cons_of_mem _ kw_3_151)) (hts (.initialized RJ9) (List.mem_cons_of_mem _ kw_1_16)) (hts (.code Lib.Math.min.name Lib.Math.min.code 2 (some .int)) (List.mem_cons_of_mem _ kw_3_152)) (Nat.le_of_ble_eq_true rfl) (Nat.le_of_ble_eq_true rfl) (Nat.le_of_ble_eq_true rfl) (Nat.le_of_ble_eq_true rfl) dX3_split_4 ?_
  refine my_ti (y := 0) (by decide) ?_
  refine lv_istore_n (lv' := [(3, .int 0), (0, .ref xR), (1, .ref xT), (2, .int 0)]) hx hb dX3_split_7 rfl hl (by decide) rfl (fun ls hl => ?_)
  refine lv_iconst (v := 0) hx hb dX3_split_8 (by decide) ?_
  refine lv_istore (lv' := [(4, .int 0), (3, .int 0), (0, .ref xR), (1, .ref xT), (2, .int 0)]) hx hb dX3_split_9 hl (by decide) rfl (fun ls hl => ?_)
  refine lv_aload_n hx hb dX3_split_11 rfl (lv_at hl 2 rfl) ?_
  refine lv_iconst (v := 0) hx hb dX3_split_12 (by decide) ?_
  refine va_put (D := (dC, dI)) (ci := 4) (v := .int 0) (ty := .int) (C := RX3) (T := TX3) (N := 12) hx hb hts iCX3 tyX3 tyX3_ok nmX3 hown hK hP hD hS 0 rfl rfl 3 (by decide) (hts (.fieldLink RX3 98 "WalkingTown$Reader" "tokenCount" "I") (List.mem_cons_of_mem _ kw_2_144)) (fun _ h9 => h9) rfl (by decide +kernel) rfl rfl (Nat.le_of_ble_eq_true rfl) dX3_split_13 (fun H locs hP hD hS => ?_)
  have hP : va_P (dC, dI) vwCl [(xR, .inr (4, [.ref xRt, .ref xRs, .ref xRn, .int 0, .int 0, .ref xRd, .int 0, .int 0, .int 0, .int 0, .int 0, .int 0])), (xRt, .inl (cRt, 301, .inr (.inr (.inr (.inr (fun _ => none)))))), (xRs, .inl (cRs, 301, .inl (fun _ => 0))), (xRn, .inl (cRn, 301, .inl (fun _ => 0)))] H := hP
  have hD : va_D A [(xR, .inr (4, [.ref xRt, .ref xRs, .ref xRn, .int 0, .int 0, .ref xRd, .int 0, .int 0, .int 0, .int 0, .int 0, .int 0])), (xRt, .inl (cRt, 301, .inr (.inr (.inr (.inr (fun _ => none)))))), (xRs, .inl (cRs, 301, .inl (fun _ => 0))), (xRn, .inl (cRn, 301, .inl (fun _ => 0)))] := hD
  refine lv_iload hx hb dX3_split_16 (lv_at hl 0 rfl) ?_
  refine lv_iload_n hx hb dX3_split_18 rfl (lv_at hl 1 rfl) ?_
  refine lv_icmp_ge (tgt := 91) hx hb dX3_split_19 (by decide) (fun c_1 => ?_) (fun c_1 => ?_)
  rotate_left
  · exact (c_1 (by decide)).elim
  refine lv_aload_n hx hb dX3_split_91 rfl (lv_at hl 2 rfl) ?_
  refine lv_iload_n hx hb dX3_split_92 rfl (lv_at hl 4 rfl) ?_
  refine lv_sipush (v := 300) hx hb dX3_split_93 (by decide) ?_
  refine lv_icmp_le (tgt := 105) hx hb dX3_split_96 (by decide) (fun c_2 => ?_) (fun c_2 => ?_)
  rotate_left
  · exact (c_2 (by decide)).elim
  refine va_gets hx hb hZ_E hS hown (hts (.fieldLink RX3 62 "WalkingTown$Token" "END" "LWalkingTown$Token;") (List.mem_cons_of_mem _ kw_4_100)) (fun _ h9 => h9) dX3_split_105 ?_
  refine lv_iload_n hx hb dX3_split_108 rfl (lv_at hl 1 rfl) ?_
  refine lv_iconst (v := 0) hx hb dX3_split_109 (by decide) ?_
  have hPc := hP.sub (ws' := [(xR, .inr (4, [.ref xRt, .ref xRs, .ref xRn, .int 0, .int 0, .ref xRd, .int 0, .int 0, .int 0, .int 0, .int 0, .int 0])), (xRt, .inl (cRt, 301, .inr (.inr (.inr (.inr (fun _ => none)))))), (xRs, .inl (cRs, 301, .inl (fun _ => 0))), (xRn, .inl (cRn, 301, .inl (fun _ => 0)))]) [0, 1, 2, 3] rfl
  have hDc := hD.sub (ws' := [(xR, .inr (4, [.ref xRt, .ref xRs, .ref xRn, .int 0, .int 0, .ref xRd, .int 0, .int 0, .int 0, .int 0, .int 0, .int 0])), (xRt, .inl (cRt, 301, .inr (.inr (.inr (.inr (fun _ => none)))))), (xRs, .inl (cRs, 301, .inl (fun _ => 0))), (xRn, .inl (cRn, 301, .inl (fun _ => 0)))]) [0, 1, 2, 3] (by decide) rfl
  have hKc := hK.sub (tys' := [(cRt, .object RX6), (cRs, .int), (cRn, .int)]) [0, 1, 2] rfl
  have hFc := va_free (wc := [(xR, .inr (4, [.ref xRt, .ref xRs, .ref xRn, .int 0, .int 0, .ref xRd, .int 0, .int 0, .int 0, .int 0, .int 0, .int 0])), (xRt, .inl (cRt, 301, .inr (.inr (.inr (.inr (fun _ => none)))))), (xRs, .inl (cRs, 301, .inl (fun _ => 0))), (xRn, .inl (cRn, 301, .inl (fun _ => 0)))]) hD hS hA [0, 1, 2, 3] rfl
  refine va_callv (va_runV (As := [.ref tE, .int 0, .int 0]) (rest := []) ⟨hx, hb, hml, hown, hts⟩ (c_addToken l dC dI H.size tE xR xRt xRs xRn xRd cRt cRs cRn) (cwV 3 hts (gV kw_4_96 kw_4_98 kw_p_3 kw_1_11 kw_4_99) rfl rfl rfl (by decide +kernel) ⟨Nat.le_of_ble_eq_true rfl, Nat.le_of_ble_eq_true rfl⟩) ⟨fun a U g mk q => by obtain ⟨q0, q1, qP, qK, qD, qZ0⟩ := q; exact ⟨q0, q1, qP, va_K.moved (u := U) (U := U.calling g mk a) (Vm.Alike.refl U.vm) qK, qD, qZ0.moved (u := U) (U := U.calling g mk a) (Vm.Alike.refl U.vm)⟩, va_recv hKc hPc (ci := 4) (q0 := 0) rfl rfl, fun U hU hW => ⟨rfl, by rw [hU], by rw [hU]; exact hPc, va_K.moved hW.alike hKc, hDc.weaken (fun _ _ _ _ => trivial), by rw [hU]; exact ((hO_E.kept hS.2.1).narrow hFc).moved hW.alike⟩⟩ rfl rfl hl.1 rfl (lv_room (Nat.le_of_ble_eq_true rfl)) dX3_split_110 ⟨Nat.le_of_ble_eq_true rfl, Nat.le_of_ble_eq_true rfl⟩) hS (fun q _ h => hFc q h) hFc (fun u t H1 locs ht hvm hw hB hz1 hk1 hS => ?_)
  obtain ⟨gS_4, gN_5, hP1, hK1, hD1⟩ := hB
  rw [ht] at hP1
  have hK1 := va_K.moved hvm.symm hK1
  obtain ⟨hP, hD⟩ := va_join (wr := []) (w1 := [(xR, .inr (4, [.ref xRt, .ref xRs, .ref xRn, .int 1, .int 0, .ref xRd, .int 0, .int 0, .int 0, .int 0, .int 0, .int 0])), (xRt, .inl (cRt, 301, .inr (.inr (.inr (.inr (va_up (fun _ => none) (0 : Int32).toNatClampNeg (some tE))))))), (xRs, .inl (cRs, 301, .inl gS_4)), (xRn, .inl (cRn, 301, .inl gN_5))]) hP hD [0, 1, 2, 3] [] rfl rfl (by decide) (by decide) hk1 hFc hP1 hD1
  have hK := (hK.sub (tys' := []) [] rfl).app hK1
  generalize H1 = H at hP hS ⊢
  have hP : va_P (dC, dI) vwCl [(xR, .inr (4, [.ref xRt, .ref xRs, .ref xRn, .int 1, .int 0, .ref xRd, .int 0, .int 0, .int 0, .int 0, .int 0, .int 0])), (xRt, .inl (cRt, 301, .inr (.inr (.inr (.inr (va_up (fun _ => none) (0 : Int32).toNatClampNeg (some tE))))))), (xRs, .inl (cRs, 301, .inl gS_4)), (xRn, .inl (cRn, 301, .inl gN_5))] H := hP
  have hD : va_D A [(xR, .inr (4, [.ref xRt, .ref xRs, .ref xRn, .int 1, .int 0, .ref xRd, .int 0, .int 0, .int 0, .int 0, .int 0, .int 0])), (xRt, .inl (cRt, 301, .inr (.inr (.inr (.inr (va_up (fun _ => none) (0 : Int32).toNatClampNeg (some tE))))))), (xRs, .inl (cRs, 301, .inl gS_4)), (xRn, .inl (cRn, 301, .inl gN_5))] := hD
  have hK : va_K (dC, dI) vwCl [(cRt, .object RX6), (cRs, .int), (cRn, .int)] s := hK
  have hP9 := hP.sub (ws' := [(xR, .inr (4, [.ref xRt, .ref xRs, .ref xRn, .int 1, .int 0, .ref xRd, .int 0, .int 0, .int 0, .int 0, .int 0, .int 0])), (xRt, .inl (cRt, 301, .inr (.inr (.inr (.inr (va_up (fun _ => none) (0 : Int32).toNatClampNeg (some tE)))))))]) [0, 1] rfl
  have hD9 := hD.sub (ws' := [(xR, .inr (4, [.ref xRt, .ref xRs, .ref xRn, .int 1, .int 0, .ref xRd, .int 0, .int 0, .int 0, .int 0, .int 0, .int 0])), (xRt, .inl (cRt, 301, .inr (.inr (.inr (.inr (va_up (fun _ => none) (0 : Int32).toNatClampNeg (some tE)))))))]) [0, 1] (by decide) rfl
  have hK9 := hK.sub (tys' := [(cRt, .object RX6)]) [0] rfl
  refine W.widen (k := 0) (n := 0) (Nat.le_of_ble_eq_true rfl) (Nat.le_of_ble_eq_true rfl) ?_
  exact W.vret hx hb hr (fun t ht hW => ⟨⟨(), rfl, trivial, ⟨by rw [ht]; exact hP9, va_K.moved hW.alike hK9, hD9⟩⟩, hS.F ht⟩) hS.2.2 dX3_split_113
set_option maxHeartbeats 4000000 in
set_option maxRecDepth 100000 in
theorem c_token (l : Launch) (dC : Nat → ClassId) (dI : Nat → Nat → Nat) (sz : Nat) (tE : Nat) (xR : Nat) (xRt : Nat) (xRs : Nat) (xRn : Nat) (xRd : Nat) (cRt : ClassId) : Met l yX3_token (.code yX3_token cX3_token 2 (some (.object "WalkingTown$Token")) :: lw_good) ({ frames := 2, cells := 0, slots := 0, locals := 60 }) (va_Pc [.ref xR] (fun U => U.heap.size = sz ∧ va_P (dC, dI) vwCl [(xR, .inr (4, [.ref xRt, .ref xRs, .ref xRn, .int 1, .int 0, .ref xRd, .int 0, .int 0, .int 0, .int 0, .int 0, .int 0])), (xRt, .inl (cRt, 301, .inr (.inr (.inr (.inr (va_up (fun _ => none) (0 : Int32).toNatClampNeg (some tE)))))))] U.heap ∧ va_K (dC, dI) vwCl [(cRt, .object RX6)] U ∧ va_D (fun _ => True) [(xR, .inr (4, [.ref xRt, .ref xRs, .ref xRn, .int 1, .int 0, .ref xRd, .int 0, .int 0, .int 0, .int 0, .int 0, .int 0])), (xRt, .inl (cRt, 301, .inr (.inr (.inr (.inr (va_up (fun _ => none) (0 : Int32).toNatClampNeg (some tE)))))))])) (va_Qr (fun (_ : Unit) => True) (fun (_ : Unit) (ra : Nat) (t : State) => ra = tE ∧ va_P (dC, dI) vwCl [(xR, .inr (4, [.ref xRt, .ref xRs, .ref xRn, .int 1, .int 0, .ref xRd, .int 0, .int 0, .int 0, .int 0, .int 0, .int 0])), (xRt, .inl (cRt, 301, .inr (.inr (.inr (.inr (va_up (fun _ => none) (0 : Int32).toNatClampNeg (some tE)))))))] t.heap ∧ va_K (dC, dI) vwCl [(cRt, .object RX6)] t ∧ va_D (va_A [(xR, .inr (4, [.ref xRt, .ref xRs, .ref xRn, .int 1, .int 0, .ref xRd, .int 0, .int 0, .int 0, .int 0, .int 0, .int 0])), (xRt, .inl (cRt, 301, .inr (.inr (.inr (.inr (va_up (fun _ => none) (0 : Int32).toNatClampNeg (some tE)))))))] sz) [(xR, .inr (4, [.ref xRt, .ref xRs, .ref xRn, .int 1, .int 0, .ref xRd, .int 0, .int 0, .int 0, .int 0, .int 0, .int 0])), (xRt, .inl (cRt, 301, .inr (.inr (.inr (.inr (va_up (fun _ => none) (0 : Int32).toNatClampNeg (some tE)))))))]) (va_A [(xR, .inr (4, [.ref xRt, .ref xRs, .ref xRn, .int 1, .int 0, .ref xRd, .int 0, .int 0, .int 0, .int 0, .int 0, .int 0])), (xRt, .inl (cRt, 301, .inr (.inr (.inr (.inr (va_up (fun _ => none) (0 : Int32).toNatClampNeg (some tE)))))))] sz)) 0 0 (va_A [(xR, .inr (4, [.ref xRt, .ref xRs, .ref xRn, .int 1, .int 0, .ref xRd, .int 0, .int 0, .int 0, .int 0, .int 0, .int 0])), (xRt, .inl (cRt, 301, .inr (.inr (.inr (.inr (va_up (fun _ => none) (0 : Int32).toNatClampNeg (some tE)))))))] sz) := by
  refine Met.ofW (cc := cX3_token) (maxL := 2) (ret := (some (.object "WalkingTown$Token"))) (by decide) rfl ?_
  intro p e s m args below meth c s₁ B hml hv
  obtain ⟨rfl, hsz, hP, hK, hD0⟩ := hv
  have hx := B.exec
  have hb := B.bytes
  have hr := B.returns
  have hts := atoms_spec (ws := (.code yX3_token cX3_token 2 (some (.object "WalkingTown$Token")) :: lw_good)) B.pre
  have hown : s.vm.findClass RX3 = some m.cls := findClass_of_methodNamed B.named
  have hlocks := B.notSynchronized
  subst hsz
  have hD := hD0.self (sz := s.heap.size)
  generalize hAe : va_A [(xR, .inr (4, [.ref xRt, .ref xRs, .ref xRn, .int 1, .int 0, .ref xRd, .int 0, .int 0, .int 0, .int 0, .int 0, .int 0])), (xRt, .inl (cRt, 301, .inr (.inr (.inr (.inr (va_up (fun _ => none) (0 : Int32).toNatClampNeg (some tE)))))))] s.heap.size = A at hD ⊢
  have hA : ∀ q : Nat, s.heap.size ≤ q → A q := fun q h => by rw [← hAe]; exact Or.inr h
  have hS : va_S A s.heap s.heap [] := va_S.rf
  have hP : va_P (dC, dI) vwCl [(xR, .inr (4, [.ref xRt, .ref xRs, .ref xRn, .int 1, .int 0, .ref xRd, .int 0, .int 0, .int 0, .int 0, .int 0, .int 0])), (xRt, .inl (cRt, 301, .inr (.inr (.inr (.inr (va_up (fun _ => none) (0 : Int32).toNatClampNeg (some tE)))))))] s.heap := hP
  have hl := lv_entry ([.ref xR]) (n := 2) (Nat.le_of_ble_eq_true rfl)
  rw [lg_entry_eq]
  generalize (lg_sl ([.ref xR]) ++ List.replicate (2 - (lg_sl ([.ref xR])).length) Slot.unset).toArray = ls at hl ⊢
  have hl : lv_has ls 2 [(0, .ref xR)] := hl
  refine lv_aload_n hx hb dX3_token_0 rfl (lv_at hl 0 rfl) ?_
  refine va_get (D := (dC, dI)) (ci := 4) (v := .ref xRt) (C := RX3) (T := TX3) (N := 12) hx hb hts iCX3 hown hK hP 0 rfl rfl 0 (by decide) (hts (.fieldLink RX3 11 "WalkingTown$Reader" "tokens" "[LWalkingTown$Token;") (List.mem_cons_of_mem _ kw_2_141)) (fun _ h9 => h9) rfl dX3_token_1 ?_
  refine lv_aload_n hx hb dX3_token_4 rfl (lv_at hl 0 rfl) ?_
  refine va_get (D := (dC, dI)) (ci := 4) (v := .int 0) (C := RX3) (T := TX3) (N := 12) hx hb hts iCX3 hown hK hP 0 rfl rfl 4 (by decide) (hts (.fieldLink RX3 41 "WalkingTown$Reader" "place" "I") (List.mem_cons_of_mem _ kw_2_145)) (fun _ h9 => h9) rfl dX3_token_5 ?_
  refine va_aldq hx hb hK hP 1 0 rfl rfl (by unfold vp_in; decide) dX3_token_8 ?_
  refine my_tv (w := .ref tE) (by simp [va_up, va_rf]) ?_
  refine lv_astore_n (lv' := [(1, .ref tE), (0, .ref xR)]) hx hb dX3_token_9 rfl hl (by decide) rfl (fun ls hl => ?_)
  refine lv_aload_n hx hb dX3_token_10 rfl (lv_at hl 0 rfl) ?_
  refine lv_ifnonnull (tgt := 20) hx hb dX3_token_11 (by decide) ?_
  refine lv_aload_n hx hb dX3_token_20 rfl (lv_at hl 0 rfl) ?_
  have hP9 := hP.sub (ws' := [(xR, .inr (4, [.ref xRt, .ref xRs, .ref xRn, .int 1, .int 0, .ref xRd, .int 0, .int 0, .int 0, .int 0, .int 0, .int 0])), (xRt, .inl (cRt, 301, .inr (.inr (.inr (.inr (va_up (fun _ => none) (0 : Int32).toNatClampNeg (some tE)))))))]) [0, 1] rfl
  have hD9 := hD.sub (ws' := [(xR, .inr (4, [.ref xRt, .ref xRs, .ref xRn, .int 1, .int 0, .ref xRd, .int 0, .int 0, .int 0, .int 0, .int 0, .int 0])), (xRt, .inl (cRt, 301, .inr (.inr (.inr (.inr (va_up (fun _ => none) (0 : Int32).toNatClampNeg (some tE)))))))]) [0, 1] (by decide) rfl
  have hK9 := hK.sub (tys' := [(cRt, .object RX6)]) [0] rfl
  refine W.widen (k := 0) (n := 0) (Nat.le_of_ble_eq_true rfl) (Nat.le_of_ble_eq_true rfl) ?_
  exact W.aret (v := .ref tE) hx hb hr (Or.inl ⟨_, rfl⟩) (Or.inr ⟨_, rfl⟩) (fun t ht hW => ⟨⟨(), tE, rfl, trivial, ⟨(by rfl), by rw [ht]; exact hP9, va_K.moved hW.alike hK9, hD9⟩⟩, hS.F ht⟩) hS.2.2 dX3_token_21
set_option maxHeartbeats 4000000 in
set_option maxRecDepth 100000 in
theorem c_read (l : Launch) (dC : Nat → ClassId) (dI : Nat → Nat → Nat) (sz : Nat) (tE : Nat) (xT : Nat) (xR : Nat) (xRt : Nat) (xRs : Nat) (xRn : Nat) (xRd : Nat) (cRt : ClassId) (cRs : ClassId) (cRn : ClassId) : Met l yX3_read (.code yX3_read cX3_read 4 none :: lw_good) ({ frames := 6, cells := 0, slots := 0, locals := 250 }) (va_Pc [.ref xR, .ref xT, .int 0] (fun U => U.heap.size = sz ∧ va_P (dC, dI) vwCl [(xR, .inr (4, [.ref xRt, .ref xRs, .ref xRn, .int 0, .int 0, .ref xRd, .int 0, .int 0, .int 0, .int 0, .int 0, .int 0])), (xRt, .inl (cRt, 301, .inr (.inr (.inr (.inr (fun _ => none)))))), (xRs, .inl (cRs, 301, .inl (fun _ => 0))), (xRn, .inl (cRn, 301, .inl (fun _ => 0)))] U.heap ∧ va_K (dC, dI) vwCl [(cRt, .object RX6), (cRs, .int), (cRn, .int)] U ∧ va_D (fun _ => True) [(xR, .inr (4, [.ref xRt, .ref xRs, .ref xRn, .int 0, .int 0, .ref xRd, .int 0, .int 0, .int 0, .int 0, .int 0, .int 0])), (xRt, .inl (cRt, 301, .inr (.inr (.inr (.inr (fun _ => none)))))), (xRs, .inl (cRs, 301, .inl (fun _ => 0))), (xRn, .inl (cRn, 301, .inl (fun _ => 0)))] ∧ va_O RX6 tE (va_A [(xR, .inr (4, [.ref xRt, .ref xRs, .ref xRn, .int 0, .int 0, .ref xRd, .int 0, .int 0, .int 0, .int 0, .int 0, .int 0])), (xRt, .inl (cRt, 301, .inr (.inr (.inr (.inr (fun _ => none)))))), (xRs, .inl (cRs, 301, .inl (fun _ => 0))), (xRn, .inl (cRn, 301, .inl (fun _ => 0)))] sz) U U.heap ∧ va_Z "WalkingTown$Token" "END" "LWalkingTown$Token;" (.ref tE) (va_A [(xR, .inr (4, [.ref xRt, .ref xRs, .ref xRn, .int 0, .int 0, .ref xRd, .int 0, .int 0, .int 0, .int 0, .int 0, .int 0])), (xRt, .inl (cRt, 301, .inr (.inr (.inr (.inr (fun _ => none)))))), (xRs, .inl (cRs, 301, .inl (fun _ => 0))), (xRn, .inl (cRn, 301, .inl (fun _ => 0)))] sz) U U.heap)) (va_Qv (fun (_ : Unit) => True) (fun (_ : Unit) (t : State) => va_P (dC, dI) vwCl [(xR, .inr (4, [.ref xRt, .ref xRs, .ref xRn, .int 1, .int 0, .ref xRd, .int 0, .int 0, .int 0, .int 0, .int 0, .int 0]))] t.heap ∧ va_K (dC, dI) vwCl [] t ∧ va_D (va_A [(xR, .inr (4, [.ref xRt, .ref xRs, .ref xRn, .int 0, .int 0, .ref xRd, .int 0, .int 0, .int 0, .int 0, .int 0, .int 0])), (xRt, .inl (cRt, 301, .inr (.inr (.inr (.inr (fun _ => none)))))), (xRs, .inl (cRs, 301, .inl (fun _ => 0))), (xRn, .inl (cRn, 301, .inl (fun _ => 0)))] sz) [(xR, .inr (4, [.ref xRt, .ref xRs, .ref xRn, .int 1, .int 0, .ref xRd, .int 0, .int 0, .int 0, .int 0, .int 0, .int 0]))]) (va_A [(xR, .inr (4, [.ref xRt, .ref xRs, .ref xRn, .int 0, .int 0, .ref xRd, .int 0, .int 0, .int 0, .int 0, .int 0, .int 0])), (xRt, .inl (cRt, 301, .inr (.inr (.inr (.inr (fun _ => none)))))), (xRs, .inl (cRs, 301, .inl (fun _ => 0))), (xRn, .inl (cRn, 301, .inl (fun _ => 0)))] sz)) 0 0 (va_A [(xR, .inr (4, [.ref xRt, .ref xRs, .ref xRn, .int 0, .int 0, .ref xRd, .int 0, .int 0, .int 0, .int 0, .int 0, .int 0])), (xRt, .inl (cRt, 301, .inr (.inr (.inr (.inr (fun _ => none)))))), (xRs, .inl (cRs, 301, .inl (fun _ => 0))), (xRn, .inl (cRn, 301, .inl (fun _ => 0)))] sz) := by
  refine Met.ofW (cc := cX3_read) (maxL := 4) (ret := none) (by decide) rfl ?_
  intro p e s m args below meth c s₁ B hml hv
  obtain ⟨rfl, hsz, hP, hK, hD0, hO_E, hZ_E⟩ := hv
  have hx := B.exec
  have hb := B.bytes
  have hr := B.returns
  have hts := atoms_spec (ws := (.code yX3_read cX3_read 4 none :: lw_good)) B.pre
  have hown : s.vm.findClass RX3 = some m.cls := findClass_of_methodNamed B.named
  have hlocks := B.notSynchronized
  subst hsz
  have hD := hD0.self (sz := s.heap.size)
  generalize hAe : va_A [(xR, .inr (4, [.ref xRt, .ref xRs, .ref xRn, .int 0, .int 0, .ref xRd, .int 0, .int 0, .int 0, .int 0, .int 0, .int 0])), (xRt, .inl (cRt, 301, .inr (.inr (.inr (.inr (fun _ => none)))))), (xRs, .inl (cRs, 301, .inl (fun _ => 0))), (xRn, .inl (cRn, 301, .inl (fun _ => 0)))] s.heap.size = A at hD ⊢ hO_E hZ_E
  have hA : ∀ q : Nat, s.heap.size ≤ q → A q := fun q h => by rw [← hAe]; exact Or.inr h
  have hS : va_S A s.heap s.heap [] := va_S.rf
  have hP : va_P (dC, dI) vwCl [(xR, .inr (4, [.ref xRt, .ref xRs, .ref xRn, .int 0, .int 0, .ref xRd, .int 0, .int 0, .int 0, .int 0, .int 0, .int 0])), (xRt, .inl (cRt, 301, .inr (.inr (.inr (.inr (fun _ => none)))))), (xRs, .inl (cRs, 301, .inl (fun _ => 0))), (xRn, .inl (cRn, 301, .inl (fun _ => 0)))] s.heap := hP
  have hl := lv_entry ([.ref xR, .ref xT, .int 0]) (n := 4) (Nat.le_of_ble_eq_true rfl)
  rw [lg_entry_eq]
  generalize (lg_sl ([.ref xR, .ref xT, .int 0]) ++ List.replicate (4 - (lg_sl ([.ref xR, .ref xT, .int 0])).length) Slot.unset).toArray = ls at hl ⊢
  have hl : lv_has ls 4 [(0, .ref xR), (1, .ref xT), (2, .int 0)] := hl
  refine lv_aload_n hx hb dX3_read_0 rfl (lv_at hl 0 rfl) ?_
  refine lv_iconst (v := 0) hx hb dX3_read_1 (by decide) ?_
  refine va_put (D := (dC, dI)) (ci := 4) (v := .int 0) (ty := .int) (C := RX3) (T := TX3) (N := 12) hx hb hts iCX3 tyX3 tyX3_ok nmX3 hown hK hP hD hS 0 rfl rfl 6 (by decide) (hts (.fieldLink RX3 31 "WalkingTown$Reader" "lines" "I") (List.mem_cons_of_mem _ kw_2_147)) (fun _ h9 => h9) rfl (by decide +kernel) rfl rfl (Nat.le_of_ble_eq_true rfl) dX3_read_2 (fun H locs hP hD hS => ?_)
  have hP : va_P (dC, dI) vwCl [(xR, .inr (4, [.ref xRt, .ref xRs, .ref xRn, .int 0, .int 0, .ref xRd, .int 0, .int 0, .int 0, .int 0, .int 0, .int 0])), (xRt, .inl (cRt, 301, .inr (.inr (.inr (.inr (fun _ => none)))))), (xRs, .inl (cRs, 301, .inl (fun _ => 0))), (xRn, .inl (cRn, 301, .inl (fun _ => 0)))] H := hP
  have hD : va_D A [(xR, .inr (4, [.ref xRt, .ref xRs, .ref xRn, .int 0, .int 0, .ref xRd, .int 0, .int 0, .int 0, .int 0, .int 0, .int 0])), (xRt, .inl (cRt, 301, .inr (.inr (.inr (.inr (fun _ => none)))))), (xRs, .inl (cRs, 301, .inl (fun _ => 0))), (xRn, .inl (cRn, 301, .inl (fun _ => 0)))] := hD
  refine lv_aload_n hx hb dX3_read_5 rfl (lv_at hl 0 rfl) ?_
  refine lv_iconst (v := 0) hx hb dX3_read_6 (by decide) ?_
  refine va_put (D := (dC, dI)) (ci := 4) (v := .int 0) (ty := .int) (C := RX3) (T := TX3) (N := 12) hx hb hts iCX3 tyX3 tyX3_ok nmX3 hown hK hP hD hS 0 rfl rfl 7 (by decide) (hts (.fieldLink RX3 35 "WalkingTown$Reader" "codes" "I") (List.mem_cons_of_mem _ kw_2_149)) (fun _ h9 => h9) rfl (by decide +kernel) rfl rfl (Nat.le_of_ble_eq_true rfl) dX3_read_7 (fun H locs hP hD hS => ?_)
  have hP : va_P (dC, dI) vwCl [(xR, .inr (4, [.ref xRt, .ref xRs, .ref xRn, .int 0, .int 0, .ref xRd, .int 0, .int 0, .int 0, .int 0, .int 0, .int 0])), (xRt, .inl (cRt, 301, .inr (.inr (.inr (.inr (fun _ => none)))))), (xRs, .inl (cRs, 301, .inl (fun _ => 0))), (xRn, .inl (cRn, 301, .inl (fun _ => 0)))] H := hP
  have hD : va_D A [(xR, .inr (4, [.ref xRt, .ref xRs, .ref xRn, .int 0, .int 0, .ref xRd, .int 0, .int 0, .int 0, .int 0, .int 0, .int 0])), (xRt, .inl (cRt, 301, .inr (.inr (.inr (.inr (fun _ => none)))))), (xRs, .inl (cRs, 301, .inl (fun _ => 0))), (xRn, .inl (cRn, 301, .inl (fun _ => 0)))] := hD
  refine lv_aload_n hx hb dX3_read_10 rfl (lv_at hl 0 rfl) ?_
  refine lv_iconst (v := 0) hx hb dX3_read_11 (by decide) ?_
  refine va_put (D := (dC, dI)) (ci := 4) (v := .int 0) (ty := .int) (C := RX3) (T := TX3) (N := 12) hx hb hts iCX3 tyX3 tyX3_ok nmX3 hown hK hP hD hS 0 rfl rfl 8 (by decide) (hts (.fieldLink RX3 38 "WalkingTown$Reader" "ones" "I") (List.mem_cons_of_mem _ kw_2_150)) (fun _ h9 => h9) rfl (by decide +kernel) rfl rfl (Nat.le_of_ble_eq_true rfl) dX3_read_12 (fun H locs hP hD hS => ?_)
  have hP : va_P (dC, dI) vwCl [(xR, .inr (4, [.ref xRt, .ref xRs, .ref xRn, .int 0, .int 0, .ref xRd, .int 0, .int 0, .int 0, .int 0, .int 0, .int 0])), (xRt, .inl (cRt, 301, .inr (.inr (.inr (.inr (fun _ => none)))))), (xRs, .inl (cRs, 301, .inl (fun _ => 0))), (xRn, .inl (cRn, 301, .inl (fun _ => 0)))] H := hP
  have hD : va_D A [(xR, .inr (4, [.ref xRt, .ref xRs, .ref xRn, .int 0, .int 0, .ref xRd, .int 0, .int 0, .int 0, .int 0, .int 0, .int 0])), (xRt, .inl (cRt, 301, .inr (.inr (.inr (.inr (fun _ => none)))))), (xRs, .inl (cRs, 301, .inl (fun _ => 0))), (xRn, .inl (cRn, 301, .inl (fun _ => 0)))] := hD
  refine lv_aload_n hx hb dX3_read_15 rfl (lv_at hl 0 rfl) ?_
  refine lv_iconst (v := 0) hx hb dX3_read_16 (by decide) ?_
  refine va_put (D := (dC, dI)) (ci := 4) (v := .int 0) (ty := .int) (C := RX3) (T := TX3) (N := 12) hx hb hts iCX3 tyX3 tyX3_ok nmX3 hown hK hP hD hS 0 rfl rfl 4 (by decide) (hts (.fieldLink RX3 41 "WalkingTown$Reader" "place" "I") (List.mem_cons_of_mem _ kw_2_145)) (fun _ h9 => h9) rfl (by decide +kernel) rfl rfl (Nat.le_of_ble_eq_true rfl) dX3_read_17 (fun H locs hP hD hS => ?_)
  have hP : va_P (dC, dI) vwCl [(xR, .inr (4, [.ref xRt, .ref xRs, .ref xRn, .int 0, .int 0, .ref xRd, .int 0, .int 0, .int 0, .int 0, .int 0, .int 0])), (xRt, .inl (cRt, 301, .inr (.inr (.inr (.inr (fun _ => none)))))), (xRs, .inl (cRs, 301, .inl (fun _ => 0))), (xRn, .inl (cRn, 301, .inl (fun _ => 0)))] H := hP
  have hD : va_D A [(xR, .inr (4, [.ref xRt, .ref xRs, .ref xRn, .int 0, .int 0, .ref xRd, .int 0, .int 0, .int 0, .int 0, .int 0, .int 0])), (xRt, .inl (cRt, 301, .inr (.inr (.inr (.inr (fun _ => none)))))), (xRs, .inl (cRs, 301, .inl (fun _ => 0))), (xRn, .inl (cRn, 301, .inl (fun _ => 0)))] := hD
  refine lv_aload_n hx hb dX3_read_20 rfl (lv_at hl 0 rfl) ?_
  refine lv_iconst (v := 0) hx hb dX3_read_21 (by decide) ?_
  refine va_put (D := (dC, dI)) (ci := 4) (v := .int 0) (ty := .boolean) (C := RX3) (T := TX3) (N := 12) hx hb hts iCX3 tyX3 tyX3_ok nmX3 hown hK hP hD hS 0 rfl rfl 9 (by decide) (hts (.fieldLink RX3 44 "WalkingTown$Reader" "dockTold" "Z") (List.mem_cons_of_mem _ kw_2_151)) (fun _ h9 => h9) rfl (by decide +kernel) (by decide) rfl (Nat.le_of_ble_eq_true rfl) dX3_read_22 (fun H locs hP hD hS => ?_)
  have hP : va_P (dC, dI) vwCl [(xR, .inr (4, [.ref xRt, .ref xRs, .ref xRn, .int 0, .int 0, .ref xRd, .int 0, .int 0, .int 0, .int 0, .int 0, .int 0])), (xRt, .inl (cRt, 301, .inr (.inr (.inr (.inr (fun _ => none)))))), (xRs, .inl (cRs, 301, .inl (fun _ => 0))), (xRn, .inl (cRn, 301, .inl (fun _ => 0)))] H := hP
  have hD : va_D A [(xR, .inr (4, [.ref xRt, .ref xRs, .ref xRn, .int 0, .int 0, .ref xRd, .int 0, .int 0, .int 0, .int 0, .int 0, .int 0])), (xRt, .inl (cRt, 301, .inr (.inr (.inr (.inr (fun _ => none)))))), (xRs, .inl (cRs, 301, .inl (fun _ => 0))), (xRn, .inl (cRn, 301, .inl (fun _ => 0)))] := hD
  refine lv_aload_n hx hb dX3_read_25 rfl (lv_at hl 0 rfl) ?_
  refine lv_iconst (v := 0) hx hb dX3_read_26 (by decide) ?_
  refine va_put (D := (dC, dI)) (ci := 4) (v := .int 0) (ty := .int) (C := RX3) (T := TX3) (N := 12) hx hb hts iCX3 tyX3 tyX3_ok nmX3 hown hK hP hD hS 0 rfl rfl 10 (by decide) (hts (.fieldLink RX3 48 "WalkingTown$Reader" "faultKind" "I") (List.mem_cons_of_mem _ kw_2_152)) (fun _ h9 => h9) rfl (by decide +kernel) rfl rfl (Nat.le_of_ble_eq_true rfl) dX3_read_27 (fun H locs hP hD hS => ?_)
  have hP : va_P (dC, dI) vwCl [(xR, .inr (4, [.ref xRt, .ref xRs, .ref xRn, .int 0, .int 0, .ref xRd, .int 0, .int 0, .int 0, .int 0, .int 0, .int 0])), (xRt, .inl (cRt, 301, .inr (.inr (.inr (.inr (fun _ => none)))))), (xRs, .inl (cRs, 301, .inl (fun _ => 0))), (xRn, .inl (cRn, 301, .inl (fun _ => 0)))] H := hP
  have hD : va_D A [(xR, .inr (4, [.ref xRt, .ref xRs, .ref xRn, .int 0, .int 0, .ref xRd, .int 0, .int 0, .int 0, .int 0, .int 0, .int 0])), (xRt, .inl (cRt, 301, .inr (.inr (.inr (.inr (fun _ => none)))))), (xRs, .inl (cRs, 301, .inl (fun _ => 0))), (xRn, .inl (cRn, 301, .inl (fun _ => 0)))] := hD
  refine lv_aload_n hx hb dX3_read_30 rfl (lv_at hl 0 rfl) ?_
  refine lv_iconst (v := 0) hx hb dX3_read_31 (by decide) ?_
  refine va_put (D := (dC, dI)) (ci := 4) (v := .int 0) (ty := .int) (C := RX3) (T := TX3) (N := 12) hx hb hts iCX3 tyX3 tyX3_ok nmX3 hown hK hP hD hS 0 rfl rfl 11 (by decide) (hts (.fieldLink RX3 51 "WalkingTown$Reader" "faultPlace" "I") (List.mem_cons_of_mem _ kw_2_154)) (fun _ h9 => h9) rfl (by decide +kernel) rfl rfl (Nat.le_of_ble_eq_true rfl) dX3_read_32 (fun H locs hP hD hS => ?_)
  have hP : va_P (dC, dI) vwCl [(xR, .inr (4, [.ref xRt, .ref xRs, .ref xRn, .int 0, .int 0, .ref xRd, .int 0, .int 0, .int 0, .int 0, .int 0, .int 0])), (xRt, .inl (cRt, 301, .inr (.inr (.inr (.inr (fun _ => none)))))), (xRs, .inl (cRs, 301, .inl (fun _ => 0))), (xRn, .inl (cRn, 301, .inl (fun _ => 0)))] H := hP
  have hD : va_D A [(xR, .inr (4, [.ref xRt, .ref xRs, .ref xRn, .int 0, .int 0, .ref xRd, .int 0, .int 0, .int 0, .int 0, .int 0, .int 0])), (xRt, .inl (cRt, 301, .inr (.inr (.inr (.inr (fun _ => none)))))), (xRs, .inl (cRs, 301, .inl (fun _ => 0))), (xRn, .inl (cRn, 301, .inl (fun _ => 0)))] := hD
  refine lv_aload_n hx hb dX3_read_35 rfl (lv_at hl 0 rfl) ?_
  refine lv_aload_n hx hb dX3_read_36 rfl (lv_at hl 1 rfl) ?_
  refine lv_iload_n hx hb dX3_read_37 rfl (lv_at hl 2 rfl) ?_
  have hPc := hP.sub (ws' := [(xR, .inr (4, [.ref xRt, .ref xRs, .ref xRn, .int 0, .int 0, .ref xRd, .int 0, .int 0, .int 0, .int 0, .int 0, .int 0])), (xRt, .inl (cRt, 301, .inr (.inr (.inr (.inr (fun _ => none)))))), (xRs, .inl (cRs, 301, .inl (fun _ => 0))), (xRn, .inl (cRn, 301, .inl (fun _ => 0)))]) [0, 1, 2, 3] rfl
  have hDc := hD.sub (ws' := [(xR, .inr (4, [.ref xRt, .ref xRs, .ref xRn, .int 0, .int 0, .ref xRd, .int 0, .int 0, .int 0, .int 0, .int 0, .int 0])), (xRt, .inl (cRt, 301, .inr (.inr (.inr (.inr (fun _ => none)))))), (xRs, .inl (cRs, 301, .inl (fun _ => 0))), (xRn, .inl (cRn, 301, .inl (fun _ => 0)))]) [0, 1, 2, 3] (by decide) rfl
  have hKc := hK.sub (tys' := [(cRt, .object RX6), (cRs, .int), (cRn, .int)]) [0, 1, 2] rfl
  have hFc := va_free (wc := [(xR, .inr (4, [.ref xRt, .ref xRs, .ref xRn, .int 0, .int 0, .ref xRd, .int 0, .int 0, .int 0, .int 0, .int 0, .int 0])), (xRt, .inl (cRt, 301, .inr (.inr (.inr (.inr (fun _ => none)))))), (xRs, .inl (cRs, 301, .inl (fun _ => 0))), (xRn, .inl (cRn, 301, .inl (fun _ => 0)))]) hD hS hA [0, 1, 2, 3] rfl
  refine va_callv (va_runV (As := [.ref xT, .int 0]) (rest := []) ⟨hx, hb, hml, hown, hts⟩ (c_split l dC dI H.size tE xT xR xRt xRs xRn xRd cRt cRs cRn) (cwV 2 hts (gV kw_4_13 kw_4_15 kw_p_2 kw_1_11 kw_4_16) rfl rfl rfl (by decide +kernel) ⟨Nat.le_of_ble_eq_true rfl, Nat.le_of_ble_eq_true rfl⟩) ⟨fun a U g mk q => by obtain ⟨q0, q1, qP, qK, qD, qZ0, qZ1⟩ := q; exact ⟨q0, q1, qP, va_K.moved (u := U) (U := U.calling g mk a) (Vm.Alike.refl U.vm) qK, qD, qZ0.moved (u := U) (U := U.calling g mk a) (Vm.Alike.refl U.vm), qZ1.moved (u := U) (U := U.calling g mk a) (Vm.Alike.refl U.vm)⟩, va_recv hKc hPc (ci := 4) (q0 := 0) rfl rfl, fun U hU hW => ⟨rfl, by rw [hU], by rw [hU]; exact hPc, va_K.moved hW.alike hKc, hDc.weaken (fun _ _ _ _ => trivial), by rw [hU]; exact ((hO_E.kept hS.2.1).narrow hFc).moved hW.alike, by rw [hU]; exact ((hZ_E.kept hS.2.1).narrow hFc).moved hW.alike⟩⟩ rfl rfl hl.1 rfl (lv_room (Nat.le_of_ble_eq_true rfl)) dX3_read_38 ⟨Nat.le_of_ble_eq_true rfl, Nat.le_of_ble_eq_true rfl⟩) hS (fun q _ h => hFc q h) hFc (fun u t H1 locs ht hvm hw hB hz1 hk1 hS => ?_)
  obtain ⟨hP1, hK1, hD1⟩ := hB
  rw [ht] at hP1
  have hK1 := va_K.moved hvm.symm hK1
  obtain ⟨hP, hD⟩ := va_join (wr := []) (w1 := [(xR, .inr (4, [.ref xRt, .ref xRs, .ref xRn, .int 1, .int 0, .ref xRd, .int 0, .int 0, .int 0, .int 0, .int 0, .int 0])), (xRt, .inl (cRt, 301, .inr (.inr (.inr (.inr (va_up (fun _ => none) (0 : Int32).toNatClampNeg (some tE)))))))]) hP hD [0, 1, 2, 3] [] rfl rfl (by decide) (by decide) hk1 hFc hP1 hD1
  have hK := (hK.sub (tys' := []) [] rfl).app hK1
  generalize H1 = H at hP hS ⊢
  have hP : va_P (dC, dI) vwCl [(xR, .inr (4, [.ref xRt, .ref xRs, .ref xRn, .int 1, .int 0, .ref xRd, .int 0, .int 0, .int 0, .int 0, .int 0, .int 0])), (xRt, .inl (cRt, 301, .inr (.inr (.inr (.inr (va_up (fun _ => none) (0 : Int32).toNatClampNeg (some tE)))))))] H := hP
  have hD : va_D A [(xR, .inr (4, [.ref xRt, .ref xRs, .ref xRn, .int 1, .int 0, .ref xRd, .int 0, .int 0, .int 0, .int 0, .int 0, .int 0])), (xRt, .inl (cRt, 301, .inr (.inr (.inr (.inr (va_up (fun _ => none) (0 : Int32).toNatClampNeg (some tE)))))))] := hD
  have hK : va_K (dC, dI) vwCl [(cRt, .object RX6)] s := hK
  refine lv_iconst (v := 0) hx hb dX3_read_41 (by decide) ?_
  refine lv_istore_n (lv' := [(3, .int 0), (0, .ref xR), (1, .ref xT), (2, .int 0)]) hx hb dX3_read_42 rfl hl (by decide) rfl (fun ls hl => ?_)
  refine lv_iload_n hx hb dX3_read_43 rfl (lv_at hl 0 rfl) ?_
  refine lv_bipush (v := 16) hx hb dX3_read_44 (by decide) ?_
  refine lv_icmp_gt (tgt := 77) hx hb dX3_read_46 (by decide) (fun c_2 => ?_) (fun c_2 => ?_)
  · exact absurd c_2 (by decide)
  refine lv_aload_n hx hb dX3_read_49 rfl (lv_at hl 1 rfl) ?_
  refine va_get (D := (dC, dI)) (ci := 4) (v := .int 0) (C := RX3) (T := TX3) (N := 12) hx hb hts iCX3 hown hK hP 0 rfl rfl 10 (by decide) (hts (.fieldLink RX3 48 "WalkingTown$Reader" "faultKind" "I") (List.mem_cons_of_mem _ kw_2_152)) (fun _ h9 => h9) rfl dX3_read_50 ?_
  refine lv_if_ne (tgt := 77) hx hb dX3_read_53 (by decide) (fun c_3 => ?_) (fun c_3 => ?_)
  · exact (c_3 (by decide)).elim
  refine lv_aload_n hx hb dX3_read_56 rfl (lv_at hl 1 rfl) ?_
  have hPc := hP.sub (ws' := [(xR, .inr (4, [.ref xRt, .ref xRs, .ref xRn, .int 1, .int 0, .ref xRd, .int 0, .int 0, .int 0, .int 0, .int 0, .int 0])), (xRt, .inl (cRt, 301, .inr (.inr (.inr (.inr (va_up (fun _ => none) (0 : Int32).toNatClampNeg (some tE)))))))]) [0, 1] rfl
  have hDc := hD.sub (ws' := [(xR, .inr (4, [.ref xRt, .ref xRs, .ref xRn, .int 1, .int 0, .ref xRd, .int 0, .int 0, .int 0, .int 0, .int 0, .int 0])), (xRt, .inl (cRt, 301, .inr (.inr (.inr (.inr (va_up (fun _ => none) (0 : Int32).toNatClampNeg (some tE)))))))]) [0, 1] (by decide) rfl
  have hKc := hK.sub (tys' := [(cRt, .object RX6)]) [0] rfl
  have hFc := va_free (wc := [(xR, .inr (4, [.ref xRt, .ref xRs, .ref xRn, .int 1, .int 0, .ref xRd, .int 0, .int 0, .int 0, .int 0, .int 0, .int 0])), (xRt, .inl (cRt, 301, .inr (.inr (.inr (.inr (va_up (fun _ => none) (0 : Int32).toNatClampNeg (some tE)))))))]) hD hS hA [0, 1] rfl
  refine va_callr (va_runV (As := []) (rest := []) ⟨hx, hb, hml, hown, hts⟩ (c_token l dC dI H.size tE xR xRt xRs xRn xRd cRt) (cwV 0 hts (gV kw_4_102 kw_4_104 kw_p_4 kw_1_11 kw_4_105) rfl rfl rfl (by decide +kernel) ⟨Nat.le_of_ble_eq_true rfl, Nat.le_of_ble_eq_true rfl⟩) ⟨fun a U g mk q => by obtain ⟨q0, q1, qP, qK, qD⟩ := q; exact ⟨q0, q1, qP, va_K.moved (u := U) (U := U.calling g mk a) (Vm.Alike.refl U.vm) qK, qD⟩, va_recv hKc hPc (ci := 4) (q0 := 0) rfl rfl, fun U hU hW => ⟨rfl, by rw [hU], by rw [hU]; exact hPc, va_K.moved hW.alike hKc, hDc.weaken (fun _ _ _ _ => trivial)⟩⟩ rfl rfl hl.1 rfl (lv_room (Nat.le_of_ble_eq_true rfl)) dX3_read_57 ⟨Nat.le_of_ble_eq_true rfl, Nat.le_of_ble_eq_true rfl⟩) hS (fun q _ h => hFc q h) hFc (fun u r_4 t H1 locs ht hvm hw hB hz1 hk1 hS => ?_)
  obtain ⟨g_5, hP1, hK1, hD1⟩ := hB
  rw [ht] at hP1
  have hK1 := va_K.moved hvm.symm hK1
  obtain ⟨hP, hD⟩ := va_join (wr := []) (w1 := [(xR, .inr (4, [.ref xRt, .ref xRs, .ref xRn, .int 1, .int 0, .ref xRd, .int 0, .int 0, .int 0, .int 0, .int 0, .int 0])), (xRt, .inl (cRt, 301, .inr (.inr (.inr (.inr (va_up (fun _ => none) (0 : Int32).toNatClampNeg (some tE)))))))]) hP hD [0, 1] [] rfl rfl (by decide) (by decide) hk1 hFc hP1 hD1
  have hK := (hK.sub (tys' := []) [] rfl).app hK1
  generalize H1 = H at hP hS ⊢
  have hP : va_P (dC, dI) vwCl [(xR, .inr (4, [.ref xRt, .ref xRs, .ref xRn, .int 1, .int 0, .ref xRd, .int 0, .int 0, .int 0, .int 0, .int 0, .int 0])), (xRt, .inl (cRt, 301, .inr (.inr (.inr (.inr (va_up (fun _ => none) (0 : Int32).toNatClampNeg (some tE)))))))] H := hP
  have hD : va_D A [(xR, .inr (4, [.ref xRt, .ref xRs, .ref xRn, .int 1, .int 0, .ref xRd, .int 0, .int 0, .int 0, .int 0, .int 0, .int 0])), (xRt, .inl (cRt, 301, .inr (.inr (.inr (.inr (va_up (fun _ => none) (0 : Int32).toNatClampNeg (some tE)))))))] := hD
  have hK : va_K (dC, dI) vwCl [(cRt, .object RX6)] s := hK
  rw [g_5]
  refine va_gets hx hb hZ_E hS hown (hts (.fieldLink RX3 62 "WalkingTown$Token" "END" "LWalkingTown$Token;") (List.mem_cons_of_mem _ kw_4_100)) (fun _ h9 => h9) dX3_read_60 ?_
  refine lv_acmp_eq (rx := some tE) (ry := some tE) (tgt := 77) hx hb dX3_read_63 (by decide) (fun _ => ?_) (fun h9 => absurd rfl h9)
  have hP9 := hP.sub (ws' := [(xR, .inr (4, [.ref xRt, .ref xRs, .ref xRn, .int 1, .int 0, .ref xRd, .int 0, .int 0, .int 0, .int 0, .int 0, .int 0]))]) [0] rfl
  have hD9 := hD.sub (ws' := [(xR, .inr (4, [.ref xRt, .ref xRs, .ref xRn, .int 1, .int 0, .ref xRd, .int 0, .int 0, .int 0, .int 0, .int 0, .int 0]))]) [0] (by decide) rfl
  have hK9 := hK.sub (tys' := []) [] rfl
  refine W.widen (k := 0) (n := 0) (Nat.le_of_ble_eq_true rfl) (Nat.le_of_ble_eq_true rfl) ?_
  exact W.vret hx hb hr (fun t ht hW => ⟨⟨(), rfl, trivial, ⟨by rw [ht]; exact hP9, va_K.moved hW.alike hK9, hD9⟩⟩, hS.F ht⟩) hS.2.2 dX3_read_77
set_option maxHeartbeats 4000000 in
set_option maxRecDepth 100000 in
theorem c_cutOut (l : Launch) (dC : Nat → ClassId) (dI : Nat → Nat → Nat) (sz : Nat) (a : Int32) (xR : Nat) (xRt : Nat) (xRs : Nat) (xRn : Nat) (xRd : Nat) (xD1 : Nat) (xD2 : Nat) (xD3 : Nat) (xD4 : Nat) (xD5 : Nat) (xD6 : Nat) (cD1 : ClassId) (cD2 : ClassId) (cD3 : ClassId) (cD4 : ClassId) (cD5 : ClassId) (cD6 : ClassId) : Met l yX3_cutOut (.code yX3_cutOut cX3_cutOut 3 (some (.object "WalkingTown$Law")) :: lw_good) ({ frames := 4, cells := 7, slots := 7, locals := 150 }) (va_Pc [.ref xR, .int a] (fun U => U.heap.size = sz ∧ va_P (dC, dI) vwCl [(xR, .inr (4, [.ref xRt, .ref xRs, .ref xRn, .int 1, .int 0, .ref xRd, .int 0, .int 0, .int 0, .int 0, .int 0, .int 0])), (xRd, .inr (1, [.int 0, .ref xD1, .ref xD2, .ref xD3, .ref xD4, .ref xD5, .ref xD6])), (xD1, .inl (cD1, 16, .inl (fun _ => 0))), (xD2, .inl (cD2, 16, .inl (fun _ => 0))), (xD3, .inl (cD3, 16, .inl (fun _ => 0))), (xD4, .inl (cD4, 100, .inl (fun _ => 0))), (xD5, .inl (cD5, 100, .inl (fun _ => 0))), (xD6, .inl (cD6, 100, .inl (fun _ => 0)))] U.heap ∧ va_K (dC, dI) vwCl [(cD1, .int), (cD2, .int), (cD3, .int), (cD4, .int), (cD5, .int), (cD6, .int)] U ∧ va_D (fun _ => True) [(xR, .inr (4, [.ref xRt, .ref xRs, .ref xRn, .int 1, .int 0, .ref xRd, .int 0, .int 0, .int 0, .int 0, .int 0, .int 0])), (xRd, .inr (1, [.int 0, .ref xD1, .ref xD2, .ref xD3, .ref xD4, .ref xD5, .ref xD6])), (xD1, .inl (cD1, 16, .inl (fun _ => 0))), (xD2, .inl (cD2, 16, .inl (fun _ => 0))), (xD3, .inl (cD3, 16, .inl (fun _ => 0))), (xD4, .inl (cD4, 100, .inl (fun _ => 0))), (xD5, .inl (cD5, 100, .inl (fun _ => 0))), (xD6, .inl (cD6, 100, .inl (fun _ => 0)))])) (va_Qr (fun (_ : Unit) => True) (fun (_ : Unit) (ra : Nat) (t : State) => ∃ (u1 : Value), ∃ (u2 : Value), ∃ (u3 : Value), ∃ (u4 : Value), ∃ (u5 : Value), ∃ (u6 : Value), va_P (dC, dI) vwCl [(ra, .inr (1, [.int a, u1, u2, u3, u4, u5, u6]))] t.heap ∧ va_K (dC, dI) vwCl [] t ∧ va_D (va_A [(xR, .inr (4, [.ref xRt, .ref xRs, .ref xRn, .int 1, .int 0, .ref xRd, .int 0, .int 0, .int 0, .int 0, .int 0, .int 0])), (xRd, .inr (1, [.int 0, .ref xD1, .ref xD2, .ref xD3, .ref xD4, .ref xD5, .ref xD6])), (xD1, .inl (cD1, 16, .inl (fun _ => 0))), (xD2, .inl (cD2, 16, .inl (fun _ => 0))), (xD3, .inl (cD3, 16, .inl (fun _ => 0))), (xD4, .inl (cD4, 100, .inl (fun _ => 0))), (xD5, .inl (cD5, 100, .inl (fun _ => 0))), (xD6, .inl (cD6, 100, .inl (fun _ => 0)))] sz) [(ra, .inr (1, [.int a, u1, u2, u3, u4, u5, u6]))]) (va_A [(xR, .inr (4, [.ref xRt, .ref xRs, .ref xRn, .int 1, .int 0, .ref xRd, .int 0, .int 0, .int 0, .int 0, .int 0, .int 0])), (xRd, .inr (1, [.int 0, .ref xD1, .ref xD2, .ref xD3, .ref xD4, .ref xD5, .ref xD6])), (xD1, .inl (cD1, 16, .inl (fun _ => 0))), (xD2, .inl (cD2, 16, .inl (fun _ => 0))), (xD3, .inl (cD3, 16, .inl (fun _ => 0))), (xD4, .inl (cD4, 100, .inl (fun _ => 0))), (xD5, .inl (cD5, 100, .inl (fun _ => 0))), (xD6, .inl (cD6, 100, .inl (fun _ => 0)))] sz)) 7 7 (va_A [(xR, .inr (4, [.ref xRt, .ref xRs, .ref xRn, .int 1, .int 0, .ref xRd, .int 0, .int 0, .int 0, .int 0, .int 0, .int 0])), (xRd, .inr (1, [.int 0, .ref xD1, .ref xD2, .ref xD3, .ref xD4, .ref xD5, .ref xD6])), (xD1, .inl (cD1, 16, .inl (fun _ => 0))), (xD2, .inl (cD2, 16, .inl (fun _ => 0))), (xD3, .inl (cD3, 16, .inl (fun _ => 0))), (xD4, .inl (cD4, 100, .inl (fun _ => 0))), (xD5, .inl (cD5, 100, .inl (fun _ => 0))), (xD6, .inl (cD6, 100, .inl (fun _ => 0)))] sz) := by
  refine Met.ofW (cc := cX3_cutOut) (maxL := 3) (ret := (some (.object "WalkingTown$Law"))) (by decide) rfl ?_
  intro p e s m args below meth c s₁ B hml hv
  obtain ⟨rfl, hsz, hP, hK, hD0⟩ := hv
  have hx := B.exec
  have hb := B.bytes
  have hr := B.returns
  have hts := atoms_spec (ws := (.code yX3_cutOut cX3_cutOut 3 (some (.object "WalkingTown$Law")) :: lw_good)) B.pre
  have hown : s.vm.findClass RX3 = some m.cls := findClass_of_methodNamed B.named
  have hlocks := B.notSynchronized
  subst hsz
  have hD := hD0.self (sz := s.heap.size)
  generalize hAe : va_A [(xR, .inr (4, [.ref xRt, .ref xRs, .ref xRn, .int 1, .int 0, .ref xRd, .int 0, .int 0, .int 0, .int 0, .int 0, .int 0])), (xRd, .inr (1, [.int 0, .ref xD1, .ref xD2, .ref xD3, .ref xD4, .ref xD5, .ref xD6])), (xD1, .inl (cD1, 16, .inl (fun _ => 0))), (xD2, .inl (cD2, 16, .inl (fun _ => 0))), (xD3, .inl (cD3, 16, .inl (fun _ => 0))), (xD4, .inl (cD4, 100, .inl (fun _ => 0))), (xD5, .inl (cD5, 100, .inl (fun _ => 0))), (xD6, .inl (cD6, 100, .inl (fun _ => 0)))] s.heap.size = A at hD ⊢
  have hA : ∀ q : Nat, s.heap.size ≤ q → A q := fun q h => by rw [← hAe]; exact Or.inr h
  have hS : va_S A s.heap s.heap [] := va_S.rf
  have hP : va_P (dC, dI) vwCl [(xR, .inr (4, [.ref xRt, .ref xRs, .ref xRn, .int 1, .int 0, .ref xRd, .int 0, .int 0, .int 0, .int 0, .int 0, .int 0])), (xRd, .inr (1, [.int 0, .ref xD1, .ref xD2, .ref xD3, .ref xD4, .ref xD5, .ref xD6])), (xD1, .inl (cD1, 16, .inl (fun _ => 0))), (xD2, .inl (cD2, 16, .inl (fun _ => 0))), (xD3, .inl (cD3, 16, .inl (fun _ => 0))), (xD4, .inl (cD4, 100, .inl (fun _ => 0))), (xD5, .inl (cD5, 100, .inl (fun _ => 0))), (xD6, .inl (cD6, 100, .inl (fun _ => 0)))] s.heap := hP
  have hl := lv_entry ([.ref xR, .int a]) (n := 3) (Nat.le_of_ble_eq_true rfl)
  rw [lg_entry_eq]
  generalize (lg_sl ([.ref xR, .int a]) ++ List.replicate (3 - (lg_sl ([.ref xR, .int a])).length) Slot.unset).toArray = ls at hl ⊢
  have hl : lv_has ls 3 [(0, .ref xR), (1, .int a)] := hl
  refine va_new (ci := 1) (fs := [.int 0, .null, .null, .null, .null, .null, .null]) (C := RX0) (T := TX0) (N := 7) hx hb hts iCX0 tyX0 tyX0_ok hown (hts (.classLink RX3 22 RX0) (List.mem_cons_of_mem _ kw_2_139)) (hts (.instantiable RX0 7) (List.mem_cons_of_mem _ kw_2_21)) (hts (.initialized RX0) (List.mem_cons_of_mem _ kw_1_10)) hK hP hD hS hA rfl (my_dfX0) (Nat.le_of_ble_eq_true rfl) (Nat.le_of_ble_eq_true rfl) dX3_cutOut_0 (fun q_1 H hP hD hS => ?_)
  have hP : va_P (dC, dI) vwCl [(xR, .inr (4, [.ref xRt, .ref xRs, .ref xRn, .int 1, .int 0, .ref xRd, .int 0, .int 0, .int 0, .int 0, .int 0, .int 0])), (xRd, .inr (1, [.int 0, .ref xD1, .ref xD2, .ref xD3, .ref xD4, .ref xD5, .ref xD6])), (xD1, .inl (cD1, 16, .inl (fun _ => 0))), (xD2, .inl (cD2, 16, .inl (fun _ => 0))), (xD3, .inl (cD3, 16, .inl (fun _ => 0))), (xD4, .inl (cD4, 100, .inl (fun _ => 0))), (xD5, .inl (cD5, 100, .inl (fun _ => 0))), (xD6, .inl (cD6, 100, .inl (fun _ => 0))), (q_1, .inr (1, [.int 0, .null, .null, .null, .null, .null, .null]))] H := hP
  have hD : va_D A [(xR, .inr (4, [.ref xRt, .ref xRs, .ref xRn, .int 1, .int 0, .ref xRd, .int 0, .int 0, .int 0, .int 0, .int 0, .int 0])), (xRd, .inr (1, [.int 0, .ref xD1, .ref xD2, .ref xD3, .ref xD4, .ref xD5, .ref xD6])), (xD1, .inl (cD1, 16, .inl (fun _ => 0))), (xD2, .inl (cD2, 16, .inl (fun _ => 0))), (xD3, .inl (cD3, 16, .inl (fun _ => 0))), (xD4, .inl (cD4, 100, .inl (fun _ => 0))), (xD5, .inl (cD5, 100, .inl (fun _ => 0))), (xD6, .inl (cD6, 100, .inl (fun _ => 0))), (q_1, .inr (1, [.int 0, .null, .null, .null, .null, .null, .null]))] := hD
  refine W.widen (k := 1) (n := 7) (Nat.le_of_ble_eq_true rfl) (Nat.le_of_ble_eq_true rfl) ?_
  refine lv_dup hx hb dX3_cutOut_3 rfl ?_
  refine lv_iload_n hx hb dX3_cutOut_4 rfl (lv_at hl 1 rfl) ?_
  refine lv_aload_n hx hb dX3_cutOut_5 rfl (lv_at hl 0 rfl) ?_
  refine va_get (D := (dC, dI)) (ci := 4) (v := .int 0) (C := RX3) (T := TX3) (N := 12) hx hb hts iCX3 hown hK hP 0 rfl rfl 6 (by decide) (hts (.fieldLink RX3 31 "WalkingTown$Reader" "lines" "I") (List.mem_cons_of_mem _ kw_2_147)) (fun _ h9 => h9) rfl dX3_cutOut_6 ?_
  refine lv_aload_n hx hb dX3_cutOut_9 rfl (lv_at hl 0 rfl) ?_
  refine va_get (D := (dC, dI)) (ci := 4) (v := .int 0) (C := RX3) (T := TX3) (N := 12) hx hb hts iCX3 hown hK hP 0 rfl rfl 7 (by decide) (hts (.fieldLink RX3 35 "WalkingTown$Reader" "codes" "I") (List.mem_cons_of_mem _ kw_2_149)) (fun _ h9 => h9) rfl dX3_cutOut_10 ?_
  have hPc := hP.sub (ws' := [(q_1, .inr (1, [.int 0, .null, .null, .null, .null, .null, .null]))]) [8] rfl
  have hDc := hD.sub (ws' := [(q_1, .inr (1, [.int 0, .null, .null, .null, .null, .null, .null]))]) [8] (by decide) rfl
  have hKc := hK.sub (tys' := []) [] rfl
  have hFc := va_free (wc := [(q_1, .inr (1, [.int 0, .null, .null, .null, .null, .null, .null]))]) hD hS hA [8] rfl
  refine va_callv (va_runI (As := [.int a, .int 0, .int 0]) (rest := [.ref q_1]) ⟨hx, hb, hml, hown, hts⟩ (c_Law_init_a l dC dI H.size q_1 a) (cwI 3 hts (gG kw_2_24) rfl rfl rfl (hts (.initialized RX0) (List.mem_cons_of_mem _ kw_1_10)) (hts (.methodLink RX3 24 yX0_init) (List.mem_cons_of_mem _ kw_2_140)) (hts (.instanceMethod yX0_init) (List.mem_cons_of_mem _ kw_2_23)) rfl (by decide +kernel) ⟨Nat.le_of_ble_eq_true rfl, Nat.le_of_ble_eq_true rfl⟩) ⟨fun a U g mk q => by obtain ⟨q0, q1, qP, qK, qD⟩ := q; exact ⟨q0, q1, qP, va_K.moved (u := U) (U := U.calling g mk a) (Vm.Alike.refl U.vm) qK, qD⟩, fun U hU hW => ⟨rfl, by rw [hU], by rw [hU]; exact hPc, va_K.moved hW.alike hKc, hDc.weaken (fun _ _ _ _ => trivial)⟩⟩ rfl rfl hl.1 rfl (lv_room (Nat.le_of_ble_eq_true rfl)) dX3_cutOut_13 ⟨Nat.le_of_ble_eq_true rfl, Nat.le_of_ble_eq_true rfl⟩) hS (fun q _ h => hFc q h) hFc (fun u t H1 locs ht hvm hw hB hz1 hk1 hS => ?_)
  obtain ⟨a_kinds_3, k_kinds_4, a_values_5, k_values_6, a_ends_7, k_ends_8, a_acts_9, k_acts_10, a_asked_11, k_asked_12, a_numbers_13, k_numbers_14, hP1, hK1, hD1⟩ := hB
  rw [ht] at hP1
  have hK1 := va_K.moved hvm.symm hK1
  obtain ⟨hP, hD⟩ := va_join (wr := [(xR, .inr (4, [.ref xRt, .ref xRs, .ref xRn, .int 1, .int 0, .ref xRd, .int 0, .int 0, .int 0, .int 0, .int 0, .int 0])), (xRd, .inr (1, [.int 0, .ref xD1, .ref xD2, .ref xD3, .ref xD4, .ref xD5, .ref xD6])), (xD1, .inl (cD1, 16, .inl (fun _ => 0))), (xD2, .inl (cD2, 16, .inl (fun _ => 0))), (xD3, .inl (cD3, 16, .inl (fun _ => 0))), (xD4, .inl (cD4, 100, .inl (fun _ => 0))), (xD5, .inl (cD5, 100, .inl (fun _ => 0))), (xD6, .inl (cD6, 100, .inl (fun _ => 0)))]) (w1 := [(q_1, .inr (1, [.int a, .ref a_kinds_3, .ref a_values_5, .ref a_ends_7, .ref a_acts_9, .ref a_asked_11, .ref a_numbers_13])), (a_kinds_3, .inl (k_kinds_4, 0, .inl (fun _ => 0))), (a_values_5, .inl (k_values_6, 0, .inl (fun _ => 0))), (a_ends_7, .inl (k_ends_8, 0, .inl (fun _ => 0))), (a_acts_9, .inl (k_acts_10, 0, .inl (fun _ => 0))), (a_asked_11, .inl (k_asked_12, 0, .inl (fun _ => 0))), (a_numbers_13, .inl (k_numbers_14, 0, .inl (fun _ => 0)))]) hP hD [8] [0, 1, 2, 3, 4, 5, 6, 7] rfl rfl (by decide) (by decide) hk1 hFc hP1 hD1
  have hK := (hK.sub (tys' := [(cD1, .int), (cD2, .int), (cD3, .int), (cD4, .int), (cD5, .int), (cD6, .int)]) [0, 1, 2, 3, 4, 5] rfl).app hK1
  generalize H1 = H at hP hS ⊢
  have hP : va_P (dC, dI) vwCl [(xR, .inr (4, [.ref xRt, .ref xRs, .ref xRn, .int 1, .int 0, .ref xRd, .int 0, .int 0, .int 0, .int 0, .int 0, .int 0])), (xRd, .inr (1, [.int 0, .ref xD1, .ref xD2, .ref xD3, .ref xD4, .ref xD5, .ref xD6])), (xD1, .inl (cD1, 16, .inl (fun _ => 0))), (xD2, .inl (cD2, 16, .inl (fun _ => 0))), (xD3, .inl (cD3, 16, .inl (fun _ => 0))), (xD4, .inl (cD4, 100, .inl (fun _ => 0))), (xD5, .inl (cD5, 100, .inl (fun _ => 0))), (xD6, .inl (cD6, 100, .inl (fun _ => 0))), (q_1, .inr (1, [.int a, .ref a_kinds_3, .ref a_values_5, .ref a_ends_7, .ref a_acts_9, .ref a_asked_11, .ref a_numbers_13])), (a_kinds_3, .inl (k_kinds_4, 0, .inl (fun _ => 0))), (a_values_5, .inl (k_values_6, 0, .inl (fun _ => 0))), (a_ends_7, .inl (k_ends_8, 0, .inl (fun _ => 0))), (a_acts_9, .inl (k_acts_10, 0, .inl (fun _ => 0))), (a_asked_11, .inl (k_asked_12, 0, .inl (fun _ => 0))), (a_numbers_13, .inl (k_numbers_14, 0, .inl (fun _ => 0)))] H := hP
  have hD : va_D A [(xR, .inr (4, [.ref xRt, .ref xRs, .ref xRn, .int 1, .int 0, .ref xRd, .int 0, .int 0, .int 0, .int 0, .int 0, .int 0])), (xRd, .inr (1, [.int 0, .ref xD1, .ref xD2, .ref xD3, .ref xD4, .ref xD5, .ref xD6])), (xD1, .inl (cD1, 16, .inl (fun _ => 0))), (xD2, .inl (cD2, 16, .inl (fun _ => 0))), (xD3, .inl (cD3, 16, .inl (fun _ => 0))), (xD4, .inl (cD4, 100, .inl (fun _ => 0))), (xD5, .inl (cD5, 100, .inl (fun _ => 0))), (xD6, .inl (cD6, 100, .inl (fun _ => 0))), (q_1, .inr (1, [.int a, .ref a_kinds_3, .ref a_values_5, .ref a_ends_7, .ref a_acts_9, .ref a_asked_11, .ref a_numbers_13])), (a_kinds_3, .inl (k_kinds_4, 0, .inl (fun _ => 0))), (a_values_5, .inl (k_values_6, 0, .inl (fun _ => 0))), (a_ends_7, .inl (k_ends_8, 0, .inl (fun _ => 0))), (a_acts_9, .inl (k_acts_10, 0, .inl (fun _ => 0))), (a_asked_11, .inl (k_asked_12, 0, .inl (fun _ => 0))), (a_numbers_13, .inl (k_numbers_14, 0, .inl (fun _ => 0)))] := hD
  have hK : va_K (dC, dI) vwCl [(cD1, .int), (cD2, .int), (cD3, .int), (cD4, .int), (cD5, .int), (cD6, .int), (k_kinds_4, .int), (k_values_6, .int), (k_ends_8, .int), (k_acts_10, .int), (k_asked_12, .int), (k_numbers_14, .int)] s := hK
  refine W.widen (k := 7) (n := 7) (Nat.le_of_ble_eq_true rfl) (Nat.le_of_ble_eq_true rfl) ?_
  refine lv_astore_n (lv' := [(2, .ref q_1), (0, .ref xR), (1, .int a)]) hx hb dX3_cutOut_16 rfl hl (by decide) rfl (fun ls hl => ?_)
  refine lv_aload_n hx hb dX3_cutOut_17 rfl (lv_at hl 1 rfl) ?_
  refine va_get (D := (dC, dI)) (ci := 4) (v := .ref xRd) (C := RX3) (T := TX3) (N := 12) hx hb hts iCX3 hown hK hP 0 rfl rfl 5 (by decide) (hts (.fieldLink RX3 27 "WalkingTown$Reader" "draft" "LWalkingTown$Law;") (List.mem_cons_of_mem _ kw_2_146)) (fun _ h9 => h9) rfl dX3_cutOut_18 ?_
  refine va_get (D := (dC, dI)) (ci := 1) (v := .ref xD1) (C := RX0) (T := TX0) (N := 7) hx hb hts iCX0 hown hK hP 1 rfl rfl 1 (by decide) (hts (.fieldLink RX3 70 "WalkingTown$Law" "kinds" "[I") (List.mem_cons_of_mem _ kw_2_29)) (fun _ h9 => h9) rfl dX3_cutOut_21 ?_
  refine lv_iconst (v := 0) hx hb dX3_cutOut_24 (by decide) ?_
  refine lv_aload_n hx hb dX3_cutOut_25 rfl (lv_at hl 0 rfl) ?_
  refine va_get (D := (dC, dI)) (ci := 1) (v := .ref a_kinds_3) (C := RX0) (T := TX0) (N := 7) hx hb hts iCX0 hown hK hP 8 rfl rfl 1 (by decide) (hts (.fieldLink RX3 70 "WalkingTown$Law" "kinds" "[I") (List.mem_cons_of_mem _ kw_2_29)) (fun _ h9 => h9) rfl dX3_cutOut_26 ?_
  refine lv_iconst (v := 0) hx hb dX3_cutOut_29 (by decide) ?_
  refine lv_aload_n hx hb dX3_cutOut_30 rfl (lv_at hl 1 rfl) ?_
  refine va_get (D := (dC, dI)) (ci := 4) (v := .int 0) (C := RX3) (T := TX3) (N := 12) hx hb hts iCX3 hown hK hP 0 rfl rfl 6 (by decide) (hts (.fieldLink RX3 31 "WalkingTown$Reader" "lines" "I") (List.mem_cons_of_mem _ kw_2_147)) (fun _ h9 => h9) rfl dX3_cutOut_31 ?_
  refine va_copyi (sp := 0) (dp := 0) (n := 0) hx hb (hml.trans hl.1.symm) hown (hts (.methodLink RX3 73 arraycopyName) (List.mem_cons_of_mem _ kw_4_170)) (hts (.native arraycopyName) (List.mem_cons_of_mem _ kw_4_172)) (hts (.static arraycopyName) (List.mem_cons_of_mem _ kw_4_171)) (hts (.initialized "java/lang/System") (List.mem_cons_of_mem _ kw_1_23)) hK hP hD hS 2 9 0 6 rfl rfl rfl rfl rfl (by decide) (by decide) (by decide) (by decide) (by decide) (fun i hi => absurd hi (Nat.not_lt_zero i)) (Nat.le_of_ble_eq_true rfl) (by decide) dX3_cutOut_34 (fun H locs hP hD hS => ?_)
  have hP : va_P (dC, dI) vwCl [(xR, .inr (4, [.ref xRt, .ref xRs, .ref xRn, .int 1, .int 0, .ref xRd, .int 0, .int 0, .int 0, .int 0, .int 0, .int 0])), (xRd, .inr (1, [.int 0, .ref xD1, .ref xD2, .ref xD3, .ref xD4, .ref xD5, .ref xD6])), (xD1, .inl (cD1, 16, .inl (fun _ => 0))), (xD2, .inl (cD2, 16, .inl (fun _ => 0))), (xD3, .inl (cD3, 16, .inl (fun _ => 0))), (xD4, .inl (cD4, 100, .inl (fun _ => 0))), (xD5, .inl (cD5, 100, .inl (fun _ => 0))), (xD6, .inl (cD6, 100, .inl (fun _ => 0))), (q_1, .inr (1, [.int a, .ref a_kinds_3, .ref a_values_5, .ref a_ends_7, .ref a_acts_9, .ref a_asked_11, .ref a_numbers_13])), (a_kinds_3, .inl (k_kinds_4, 0, .inl (va_cpy (fun _ => 0) (fun _ => 0) (0 : Int32).toNatClampNeg (0 : Int32).toNatClampNeg (0 : Int32).toNatClampNeg))), (a_values_5, .inl (k_values_6, 0, .inl (fun _ => 0))), (a_ends_7, .inl (k_ends_8, 0, .inl (fun _ => 0))), (a_acts_9, .inl (k_acts_10, 0, .inl (fun _ => 0))), (a_asked_11, .inl (k_asked_12, 0, .inl (fun _ => 0))), (a_numbers_13, .inl (k_numbers_14, 0, .inl (fun _ => 0)))] H := hP
  have hD : va_D A [(xR, .inr (4, [.ref xRt, .ref xRs, .ref xRn, .int 1, .int 0, .ref xRd, .int 0, .int 0, .int 0, .int 0, .int 0, .int 0])), (xRd, .inr (1, [.int 0, .ref xD1, .ref xD2, .ref xD3, .ref xD4, .ref xD5, .ref xD6])), (xD1, .inl (cD1, 16, .inl (fun _ => 0))), (xD2, .inl (cD2, 16, .inl (fun _ => 0))), (xD3, .inl (cD3, 16, .inl (fun _ => 0))), (xD4, .inl (cD4, 100, .inl (fun _ => 0))), (xD5, .inl (cD5, 100, .inl (fun _ => 0))), (xD6, .inl (cD6, 100, .inl (fun _ => 0))), (q_1, .inr (1, [.int a, .ref a_kinds_3, .ref a_values_5, .ref a_ends_7, .ref a_acts_9, .ref a_asked_11, .ref a_numbers_13])), (a_kinds_3, .inl (k_kinds_4, 0, .inl (va_cpy (fun _ => 0) (fun _ => 0) (0 : Int32).toNatClampNeg (0 : Int32).toNatClampNeg (0 : Int32).toNatClampNeg))), (a_values_5, .inl (k_values_6, 0, .inl (fun _ => 0))), (a_ends_7, .inl (k_ends_8, 0, .inl (fun _ => 0))), (a_acts_9, .inl (k_acts_10, 0, .inl (fun _ => 0))), (a_asked_11, .inl (k_asked_12, 0, .inl (fun _ => 0))), (a_numbers_13, .inl (k_numbers_14, 0, .inl (fun _ => 0)))] := hD
  refine lv_aload_n hx hb dX3_cutOut_37 rfl (lv_at hl 1 rfl) ?_
  refine va_get (D := (dC, dI)) (ci := 4) (v := .ref xRd) (C := RX3) (T := TX3) (N := 12) hx hb hts iCX3 hown hK hP 0 rfl rfl 5 (by decide) (hts (.fieldLink RX3 27 "WalkingTown$Reader" "draft" "LWalkingTown$Law;") (List.mem_cons_of_mem _ kw_2_146)) (fun _ h9 => h9) rfl dX3_cutOut_38 ?_
  refine va_get (D := (dC, dI)) (ci := 1) (v := .ref xD2) (C := RX0) (T := TX0) (N := 7) hx hb hts iCX0 hown hK hP 1 rfl rfl 2 (by decide) (hts (.fieldLink RX3 79 "WalkingTown$Law" "values" "[I") (List.mem_cons_of_mem _ kw_2_31)) (fun _ h9 => h9) rfl dX3_cutOut_41 ?_
  refine lv_iconst (v := 0) hx hb dX3_cutOut_44 (by decide) ?_
  refine lv_aload_n hx hb dX3_cutOut_45 rfl (lv_at hl 0 rfl) ?_
  refine va_get (D := (dC, dI)) (ci := 1) (v := .ref a_values_5) (C := RX0) (T := TX0) (N := 7) hx hb hts iCX0 hown hK hP 8 rfl rfl 2 (by decide) (hts (.fieldLink RX3 79 "WalkingTown$Law" "values" "[I") (List.mem_cons_of_mem _ kw_2_31)) (fun _ h9 => h9) rfl dX3_cutOut_46 ?_
  refine lv_iconst (v := 0) hx hb dX3_cutOut_49 (by decide) ?_
  refine lv_aload_n hx hb dX3_cutOut_50 rfl (lv_at hl 1 rfl) ?_
  refine va_get (D := (dC, dI)) (ci := 4) (v := .int 0) (C := RX3) (T := TX3) (N := 12) hx hb hts iCX3 hown hK hP 0 rfl rfl 6 (by decide) (hts (.fieldLink RX3 31 "WalkingTown$Reader" "lines" "I") (List.mem_cons_of_mem _ kw_2_147)) (fun _ h9 => h9) rfl dX3_cutOut_51 ?_
  refine va_copyi (sp := 0) (dp := 0) (n := 0) hx hb (hml.trans hl.1.symm) hown (hts (.methodLink RX3 73 arraycopyName) (List.mem_cons_of_mem _ kw_4_170)) (hts (.native arraycopyName) (List.mem_cons_of_mem _ kw_4_172)) (hts (.static arraycopyName) (List.mem_cons_of_mem _ kw_4_171)) (hts (.initialized "java/lang/System") (List.mem_cons_of_mem _ kw_1_23)) hK hP hD hS 3 10 1 7 rfl rfl rfl rfl rfl (by decide) (by decide) (by decide) (by decide) (by decide) (fun i hi => absurd hi (Nat.not_lt_zero i)) (Nat.le_of_ble_eq_true rfl) (by decide) dX3_cutOut_54 (fun H locs hP hD hS => ?_)
  have hP : va_P (dC, dI) vwCl [(xR, .inr (4, [.ref xRt, .ref xRs, .ref xRn, .int 1, .int 0, .ref xRd, .int 0, .int 0, .int 0, .int 0, .int 0, .int 0])), (xRd, .inr (1, [.int 0, .ref xD1, .ref xD2, .ref xD3, .ref xD4, .ref xD5, .ref xD6])), (xD1, .inl (cD1, 16, .inl (fun _ => 0))), (xD2, .inl (cD2, 16, .inl (fun _ => 0))), (xD3, .inl (cD3, 16, .inl (fun _ => 0))), (xD4, .inl (cD4, 100, .inl (fun _ => 0))), (xD5, .inl (cD5, 100, .inl (fun _ => 0))), (xD6, .inl (cD6, 100, .inl (fun _ => 0))), (q_1, .inr (1, [.int a, .ref a_kinds_3, .ref a_values_5, .ref a_ends_7, .ref a_acts_9, .ref a_asked_11, .ref a_numbers_13])), (a_kinds_3, .inl (k_kinds_4, 0, .inl (va_cpy (fun _ => 0) (fun _ => 0) (0 : Int32).toNatClampNeg (0 : Int32).toNatClampNeg (0 : Int32).toNatClampNeg))), (a_values_5, .inl (k_values_6, 0, .inl (va_cpy (fun _ => 0) (fun _ => 0) (0 : Int32).toNatClampNeg (0 : Int32).toNatClampNeg (0 : Int32).toNatClampNeg))), (a_ends_7, .inl (k_ends_8, 0, .inl (fun _ => 0))), (a_acts_9, .inl (k_acts_10, 0, .inl (fun _ => 0))), (a_asked_11, .inl (k_asked_12, 0, .inl (fun _ => 0))), (a_numbers_13, .inl (k_numbers_14, 0, .inl (fun _ => 0)))] H := hP
  have hD : va_D A [(xR, .inr (4, [.ref xRt, .ref xRs, .ref xRn, .int 1, .int 0, .ref xRd, .int 0, .int 0, .int 0, .int 0, .int 0, .int 0])), (xRd, .inr (1, [.int 0, .ref xD1, .ref xD2, .ref xD3, .ref xD4, .ref xD5, .ref xD6])), (xD1, .inl (cD1, 16, .inl (fun _ => 0))), (xD2, .inl (cD2, 16, .inl (fun _ => 0))), (xD3, .inl (cD3, 16, .inl (fun _ => 0))), (xD4, .inl (cD4, 100, .inl (fun _ => 0))), (xD5, .inl (cD5, 100, .inl (fun _ => 0))), (xD6, .inl (cD6, 100, .inl (fun _ => 0))), (q_1, .inr (1, [.int a, .ref a_kinds_3, .ref a_values_5, .ref a_ends_7, .ref a_acts_9, .ref a_asked_11, .ref a_numbers_13])), (a_kinds_3, .inl (k_kinds_4, 0, .inl (va_cpy (fun _ => 0) (fun _ => 0) (0 : Int32).toNatClampNeg (0 : Int32).toNatClampNeg (0 : Int32).toNatClampNeg))), (a_values_5, .inl (k_values_6, 0, .inl (va_cpy (fun _ => 0) (fun _ => 0) (0 : Int32).toNatClampNeg (0 : Int32).toNatClampNeg (0 : Int32).toNatClampNeg))), (a_ends_7, .inl (k_ends_8, 0, .inl (fun _ => 0))), (a_acts_9, .inl (k_acts_10, 0, .inl (fun _ => 0))), (a_asked_11, .inl (k_asked_12, 0, .inl (fun _ => 0))), (a_numbers_13, .inl (k_numbers_14, 0, .inl (fun _ => 0)))] := hD
  refine lv_aload_n hx hb dX3_cutOut_57 rfl (lv_at hl 1 rfl) ?_
  refine va_get (D := (dC, dI)) (ci := 4) (v := .ref xRd) (C := RX3) (T := TX3) (N := 12) hx hb hts iCX3 hown hK hP 0 rfl rfl 5 (by decide) (hts (.fieldLink RX3 27 "WalkingTown$Reader" "draft" "LWalkingTown$Law;") (List.mem_cons_of_mem _ kw_2_146)) (fun _ h9 => h9) rfl dX3_cutOut_58 ?_
  refine va_get (D := (dC, dI)) (ci := 1) (v := .ref xD3) (C := RX0) (T := TX0) (N := 7) hx hb hts iCX0 hown hK hP 1 rfl rfl 3 (by decide) (hts (.fieldLink RX3 82 "WalkingTown$Law" "ends" "[I") (List.mem_cons_of_mem _ kw_2_35)) (fun _ h9 => h9) rfl dX3_cutOut_61 ?_
  refine lv_iconst (v := 0) hx hb dX3_cutOut_64 (by decide) ?_
  refine lv_aload_n hx hb dX3_cutOut_65 rfl (lv_at hl 0 rfl) ?_
  refine va_get (D := (dC, dI)) (ci := 1) (v := .ref a_ends_7) (C := RX0) (T := TX0) (N := 7) hx hb hts iCX0 hown hK hP 8 rfl rfl 3 (by decide) (hts (.fieldLink RX3 82 "WalkingTown$Law" "ends" "[I") (List.mem_cons_of_mem _ kw_2_35)) (fun _ h9 => h9) rfl dX3_cutOut_66 ?_
  refine lv_iconst (v := 0) hx hb dX3_cutOut_69 (by decide) ?_
  refine lv_aload_n hx hb dX3_cutOut_70 rfl (lv_at hl 1 rfl) ?_
  refine va_get (D := (dC, dI)) (ci := 4) (v := .int 0) (C := RX3) (T := TX3) (N := 12) hx hb hts iCX3 hown hK hP 0 rfl rfl 6 (by decide) (hts (.fieldLink RX3 31 "WalkingTown$Reader" "lines" "I") (List.mem_cons_of_mem _ kw_2_147)) (fun _ h9 => h9) rfl dX3_cutOut_71 ?_
  refine va_copyi (sp := 0) (dp := 0) (n := 0) hx hb (hml.trans hl.1.symm) hown (hts (.methodLink RX3 73 arraycopyName) (List.mem_cons_of_mem _ kw_4_170)) (hts (.native arraycopyName) (List.mem_cons_of_mem _ kw_4_172)) (hts (.static arraycopyName) (List.mem_cons_of_mem _ kw_4_171)) (hts (.initialized "java/lang/System") (List.mem_cons_of_mem _ kw_1_23)) hK hP hD hS 4 11 2 8 rfl rfl rfl rfl rfl (by decide) (by decide) (by decide) (by decide) (by decide) (fun i hi => absurd hi (Nat.not_lt_zero i)) (Nat.le_of_ble_eq_true rfl) (by decide) dX3_cutOut_74 (fun H locs hP hD hS => ?_)
  have hP : va_P (dC, dI) vwCl [(xR, .inr (4, [.ref xRt, .ref xRs, .ref xRn, .int 1, .int 0, .ref xRd, .int 0, .int 0, .int 0, .int 0, .int 0, .int 0])), (xRd, .inr (1, [.int 0, .ref xD1, .ref xD2, .ref xD3, .ref xD4, .ref xD5, .ref xD6])), (xD1, .inl (cD1, 16, .inl (fun _ => 0))), (xD2, .inl (cD2, 16, .inl (fun _ => 0))), (xD3, .inl (cD3, 16, .inl (fun _ => 0))), (xD4, .inl (cD4, 100, .inl (fun _ => 0))), (xD5, .inl (cD5, 100, .inl (fun _ => 0))), (xD6, .inl (cD6, 100, .inl (fun _ => 0))), (q_1, .inr (1, [.int a, .ref a_kinds_3, .ref a_values_5, .ref a_ends_7, .ref a_acts_9, .ref a_asked_11, .ref a_numbers_13])), (a_kinds_3, .inl (k_kinds_4, 0, .inl (va_cpy (fun _ => 0) (fun _ => 0) (0 : Int32).toNatClampNeg (0 : Int32).toNatClampNeg (0 : Int32).toNatClampNeg))), (a_values_5, .inl (k_values_6, 0, .inl (va_cpy (fun _ => 0) (fun _ => 0) (0 : Int32).toNatClampNeg (0 : Int32).toNatClampNeg (0 : Int32).toNatClampNeg))), (a_ends_7, .inl (k_ends_8, 0, .inl (va_cpy (fun _ => 0) (fun _ => 0) (0 : Int32).toNatClampNeg (0 : Int32).toNatClampNeg (0 : Int32).toNatClampNeg))), (a_acts_9, .inl (k_acts_10, 0, .inl (fun _ => 0))), (a_asked_11, .inl (k_asked_12, 0, .inl (fun _ => 0))), (a_numbers_13, .inl (k_numbers_14, 0, .inl (fun _ => 0)))] H := hP
  have hD : va_D A [(xR, .inr (4, [.ref xRt, .ref xRs, .ref xRn, .int 1, .int 0, .ref xRd, .int 0, .int 0, .int 0, .int 0, .int 0, .int 0])), (xRd, .inr (1, [.int 0, .ref xD1, .ref xD2, .ref xD3, .ref xD4, .ref xD5, .ref xD6])), (xD1, .inl (cD1, 16, .inl (fun _ => 0))), (xD2, .inl (cD2, 16, .inl (fun _ => 0))), (xD3, .inl (cD3, 16, .inl (fun _ => 0))), (xD4, .inl (cD4, 100, .inl (fun _ => 0))), (xD5, .inl (cD5, 100, .inl (fun _ => 0))), (xD6, .inl (cD6, 100, .inl (fun _ => 0))), (q_1, .inr (1, [.int a, .ref a_kinds_3, .ref a_values_5, .ref a_ends_7, .ref a_acts_9, .ref a_asked_11, .ref a_numbers_13])), (a_kinds_3, .inl (k_kinds_4, 0, .inl (va_cpy (fun _ => 0) (fun _ => 0) (0 : Int32).toNatClampNeg (0 : Int32).toNatClampNeg (0 : Int32).toNatClampNeg))), (a_values_5, .inl (k_values_6, 0, .inl (va_cpy (fun _ => 0) (fun _ => 0) (0 : Int32).toNatClampNeg (0 : Int32).toNatClampNeg (0 : Int32).toNatClampNeg))), (a_ends_7, .inl (k_ends_8, 0, .inl (va_cpy (fun _ => 0) (fun _ => 0) (0 : Int32).toNatClampNeg (0 : Int32).toNatClampNeg (0 : Int32).toNatClampNeg))), (a_acts_9, .inl (k_acts_10, 0, .inl (fun _ => 0))), (a_asked_11, .inl (k_asked_12, 0, .inl (fun _ => 0))), (a_numbers_13, .inl (k_numbers_14, 0, .inl (fun _ => 0)))] := hD
  refine lv_aload_n hx hb dX3_cutOut_77 rfl (lv_at hl 1 rfl) ?_
  refine va_get (D := (dC, dI)) (ci := 4) (v := .ref xRd) (C := RX3) (T := TX3) (N := 12) hx hb hts iCX3 hown hK hP 0 rfl rfl 5 (by decide) (hts (.fieldLink RX3 27 "WalkingTown$Reader" "draft" "LWalkingTown$Law;") (List.mem_cons_of_mem _ kw_2_146)) (fun _ h9 => h9) rfl dX3_cutOut_78 ?_
  refine va_get (D := (dC, dI)) (ci := 1) (v := .ref xD4) (C := RX0) (T := TX0) (N := 7) hx hb hts iCX0 hown hK hP 1 rfl rfl 4 (by decide) (hts (.fieldLink RX3 85 "WalkingTown$Law" "acts" "[I") (List.mem_cons_of_mem _ kw_2_37)) (fun _ h9 => h9) rfl dX3_cutOut_81 ?_
  refine lv_iconst (v := 0) hx hb dX3_cutOut_84 (by decide) ?_
  refine lv_aload_n hx hb dX3_cutOut_85 rfl (lv_at hl 0 rfl) ?_
  refine va_get (D := (dC, dI)) (ci := 1) (v := .ref a_acts_9) (C := RX0) (T := TX0) (N := 7) hx hb hts iCX0 hown hK hP 8 rfl rfl 4 (by decide) (hts (.fieldLink RX3 85 "WalkingTown$Law" "acts" "[I") (List.mem_cons_of_mem _ kw_2_37)) (fun _ h9 => h9) rfl dX3_cutOut_86 ?_
  refine lv_iconst (v := 0) hx hb dX3_cutOut_89 (by decide) ?_
  refine lv_aload_n hx hb dX3_cutOut_90 rfl (lv_at hl 1 rfl) ?_
  refine va_get (D := (dC, dI)) (ci := 4) (v := .int 0) (C := RX3) (T := TX3) (N := 12) hx hb hts iCX3 hown hK hP 0 rfl rfl 7 (by decide) (hts (.fieldLink RX3 35 "WalkingTown$Reader" "codes" "I") (List.mem_cons_of_mem _ kw_2_149)) (fun _ h9 => h9) rfl dX3_cutOut_91 ?_
  refine va_copyi (sp := 0) (dp := 0) (n := 0) hx hb (hml.trans hl.1.symm) hown (hts (.methodLink RX3 73 arraycopyName) (List.mem_cons_of_mem _ kw_4_170)) (hts (.native arraycopyName) (List.mem_cons_of_mem _ kw_4_172)) (hts (.static arraycopyName) (List.mem_cons_of_mem _ kw_4_171)) (hts (.initialized "java/lang/System") (List.mem_cons_of_mem _ kw_1_23)) hK hP hD hS 5 12 3 9 rfl rfl rfl rfl rfl (by decide) (by decide) (by decide) (by decide) (by decide) (fun i hi => absurd hi (Nat.not_lt_zero i)) (Nat.le_of_ble_eq_true rfl) (by decide) dX3_cutOut_94 (fun H locs hP hD hS => ?_)
  have hP : va_P (dC, dI) vwCl [(xR, .inr (4, [.ref xRt, .ref xRs, .ref xRn, .int 1, .int 0, .ref xRd, .int 0, .int 0, .int 0, .int 0, .int 0, .int 0])), (xRd, .inr (1, [.int 0, .ref xD1, .ref xD2, .ref xD3, .ref xD4, .ref xD5, .ref xD6])), (xD1, .inl (cD1, 16, .inl (fun _ => 0))), (xD2, .inl (cD2, 16, .inl (fun _ => 0))), (xD3, .inl (cD3, 16, .inl (fun _ => 0))), (xD4, .inl (cD4, 100, .inl (fun _ => 0))), (xD5, .inl (cD5, 100, .inl (fun _ => 0))), (xD6, .inl (cD6, 100, .inl (fun _ => 0))), (q_1, .inr (1, [.int a, .ref a_kinds_3, .ref a_values_5, .ref a_ends_7, .ref a_acts_9, .ref a_asked_11, .ref a_numbers_13])), (a_kinds_3, .inl (k_kinds_4, 0, .inl (va_cpy (fun _ => 0) (fun _ => 0) (0 : Int32).toNatClampNeg (0 : Int32).toNatClampNeg (0 : Int32).toNatClampNeg))), (a_values_5, .inl (k_values_6, 0, .inl (va_cpy (fun _ => 0) (fun _ => 0) (0 : Int32).toNatClampNeg (0 : Int32).toNatClampNeg (0 : Int32).toNatClampNeg))), (a_ends_7, .inl (k_ends_8, 0, .inl (va_cpy (fun _ => 0) (fun _ => 0) (0 : Int32).toNatClampNeg (0 : Int32).toNatClampNeg (0 : Int32).toNatClampNeg))), (a_acts_9, .inl (k_acts_10, 0, .inl (va_cpy (fun _ => 0) (fun _ => 0) (0 : Int32).toNatClampNeg (0 : Int32).toNatClampNeg (0 : Int32).toNatClampNeg))), (a_asked_11, .inl (k_asked_12, 0, .inl (fun _ => 0))), (a_numbers_13, .inl (k_numbers_14, 0, .inl (fun _ => 0)))] H := hP
  have hD : va_D A [(xR, .inr (4, [.ref xRt, .ref xRs, .ref xRn, .int 1, .int 0, .ref xRd, .int 0, .int 0, .int 0, .int 0, .int 0, .int 0])), (xRd, .inr (1, [.int 0, .ref xD1, .ref xD2, .ref xD3, .ref xD4, .ref xD5, .ref xD6])), (xD1, .inl (cD1, 16, .inl (fun _ => 0))), (xD2, .inl (cD2, 16, .inl (fun _ => 0))), (xD3, .inl (cD3, 16, .inl (fun _ => 0))), (xD4, .inl (cD4, 100, .inl (fun _ => 0))), (xD5, .inl (cD5, 100, .inl (fun _ => 0))), (xD6, .inl (cD6, 100, .inl (fun _ => 0))), (q_1, .inr (1, [.int a, .ref a_kinds_3, .ref a_values_5, .ref a_ends_7, .ref a_acts_9, .ref a_asked_11, .ref a_numbers_13])), (a_kinds_3, .inl (k_kinds_4, 0, .inl (va_cpy (fun _ => 0) (fun _ => 0) (0 : Int32).toNatClampNeg (0 : Int32).toNatClampNeg (0 : Int32).toNatClampNeg))), (a_values_5, .inl (k_values_6, 0, .inl (va_cpy (fun _ => 0) (fun _ => 0) (0 : Int32).toNatClampNeg (0 : Int32).toNatClampNeg (0 : Int32).toNatClampNeg))), (a_ends_7, .inl (k_ends_8, 0, .inl (va_cpy (fun _ => 0) (fun _ => 0) (0 : Int32).toNatClampNeg (0 : Int32).toNatClampNeg (0 : Int32).toNatClampNeg))), (a_acts_9, .inl (k_acts_10, 0, .inl (va_cpy (fun _ => 0) (fun _ => 0) (0 : Int32).toNatClampNeg (0 : Int32).toNatClampNeg (0 : Int32).toNatClampNeg))), (a_asked_11, .inl (k_asked_12, 0, .inl (fun _ => 0))), (a_numbers_13, .inl (k_numbers_14, 0, .inl (fun _ => 0)))] := hD
  refine lv_aload_n hx hb dX3_cutOut_97 rfl (lv_at hl 1 rfl) ?_
  refine va_get (D := (dC, dI)) (ci := 4) (v := .ref xRd) (C := RX3) (T := TX3) (N := 12) hx hb hts iCX3 hown hK hP 0 rfl rfl 5 (by decide) (hts (.fieldLink RX3 27 "WalkingTown$Reader" "draft" "LWalkingTown$Law;") (List.mem_cons_of_mem _ kw_2_146)) (fun _ h9 => h9) rfl dX3_cutOut_98 ?_
  refine va_get (D := (dC, dI)) (ci := 1) (v := .ref xD5) (C := RX0) (T := TX0) (N := 7) hx hb hts iCX0 hown hK hP 1 rfl rfl 5 (by decide) (hts (.fieldLink RX3 88 "WalkingTown$Law" "asked" "[I") (List.mem_cons_of_mem _ kw_2_39)) (fun _ h9 => h9) rfl dX3_cutOut_101 ?_
  refine lv_iconst (v := 0) hx hb dX3_cutOut_104 (by decide) ?_
  refine lv_aload_n hx hb dX3_cutOut_105 rfl (lv_at hl 0 rfl) ?_
  refine va_get (D := (dC, dI)) (ci := 1) (v := .ref a_asked_11) (C := RX0) (T := TX0) (N := 7) hx hb hts iCX0 hown hK hP 8 rfl rfl 5 (by decide) (hts (.fieldLink RX3 88 "WalkingTown$Law" "asked" "[I") (List.mem_cons_of_mem _ kw_2_39)) (fun _ h9 => h9) rfl dX3_cutOut_106 ?_
  refine lv_iconst (v := 0) hx hb dX3_cutOut_109 (by decide) ?_
  refine lv_aload_n hx hb dX3_cutOut_110 rfl (lv_at hl 1 rfl) ?_
  refine va_get (D := (dC, dI)) (ci := 4) (v := .int 0) (C := RX3) (T := TX3) (N := 12) hx hb hts iCX3 hown hK hP 0 rfl rfl 7 (by decide) (hts (.fieldLink RX3 35 "WalkingTown$Reader" "codes" "I") (List.mem_cons_of_mem _ kw_2_149)) (fun _ h9 => h9) rfl dX3_cutOut_111 ?_
  refine va_copyi (sp := 0) (dp := 0) (n := 0) hx hb (hml.trans hl.1.symm) hown (hts (.methodLink RX3 73 arraycopyName) (List.mem_cons_of_mem _ kw_4_170)) (hts (.native arraycopyName) (List.mem_cons_of_mem _ kw_4_172)) (hts (.static arraycopyName) (List.mem_cons_of_mem _ kw_4_171)) (hts (.initialized "java/lang/System") (List.mem_cons_of_mem _ kw_1_23)) hK hP hD hS 6 13 4 10 rfl rfl rfl rfl rfl (by decide) (by decide) (by decide) (by decide) (by decide) (fun i hi => absurd hi (Nat.not_lt_zero i)) (Nat.le_of_ble_eq_true rfl) (by decide) dX3_cutOut_114 (fun H locs hP hD hS => ?_)
  have hP : va_P (dC, dI) vwCl [(xR, .inr (4, [.ref xRt, .ref xRs, .ref xRn, .int 1, .int 0, .ref xRd, .int 0, .int 0, .int 0, .int 0, .int 0, .int 0])), (xRd, .inr (1, [.int 0, .ref xD1, .ref xD2, .ref xD3, .ref xD4, .ref xD5, .ref xD6])), (xD1, .inl (cD1, 16, .inl (fun _ => 0))), (xD2, .inl (cD2, 16, .inl (fun _ => 0))), (xD3, .inl (cD3, 16, .inl (fun _ => 0))), (xD4, .inl (cD4, 100, .inl (fun _ => 0))), (xD5, .inl (cD5, 100, .inl (fun _ => 0))), (xD6, .inl (cD6, 100, .inl (fun _ => 0))), (q_1, .inr (1, [.int a, .ref a_kinds_3, .ref a_values_5, .ref a_ends_7, .ref a_acts_9, .ref a_asked_11, .ref a_numbers_13])), (a_kinds_3, .inl (k_kinds_4, 0, .inl (va_cpy (fun _ => 0) (fun _ => 0) (0 : Int32).toNatClampNeg (0 : Int32).toNatClampNeg (0 : Int32).toNatClampNeg))), (a_values_5, .inl (k_values_6, 0, .inl (va_cpy (fun _ => 0) (fun _ => 0) (0 : Int32).toNatClampNeg (0 : Int32).toNatClampNeg (0 : Int32).toNatClampNeg))), (a_ends_7, .inl (k_ends_8, 0, .inl (va_cpy (fun _ => 0) (fun _ => 0) (0 : Int32).toNatClampNeg (0 : Int32).toNatClampNeg (0 : Int32).toNatClampNeg))), (a_acts_9, .inl (k_acts_10, 0, .inl (va_cpy (fun _ => 0) (fun _ => 0) (0 : Int32).toNatClampNeg (0 : Int32).toNatClampNeg (0 : Int32).toNatClampNeg))), (a_asked_11, .inl (k_asked_12, 0, .inl (va_cpy (fun _ => 0) (fun _ => 0) (0 : Int32).toNatClampNeg (0 : Int32).toNatClampNeg (0 : Int32).toNatClampNeg))), (a_numbers_13, .inl (k_numbers_14, 0, .inl (fun _ => 0)))] H := hP
  have hD : va_D A [(xR, .inr (4, [.ref xRt, .ref xRs, .ref xRn, .int 1, .int 0, .ref xRd, .int 0, .int 0, .int 0, .int 0, .int 0, .int 0])), (xRd, .inr (1, [.int 0, .ref xD1, .ref xD2, .ref xD3, .ref xD4, .ref xD5, .ref xD6])), (xD1, .inl (cD1, 16, .inl (fun _ => 0))), (xD2, .inl (cD2, 16, .inl (fun _ => 0))), (xD3, .inl (cD3, 16, .inl (fun _ => 0))), (xD4, .inl (cD4, 100, .inl (fun _ => 0))), (xD5, .inl (cD5, 100, .inl (fun _ => 0))), (xD6, .inl (cD6, 100, .inl (fun _ => 0))), (q_1, .inr (1, [.int a, .ref a_kinds_3, .ref a_values_5, .ref a_ends_7, .ref a_acts_9, .ref a_asked_11, .ref a_numbers_13])), (a_kinds_3, .inl (k_kinds_4, 0, .inl (va_cpy (fun _ => 0) (fun _ => 0) (0 : Int32).toNatClampNeg (0 : Int32).toNatClampNeg (0 : Int32).toNatClampNeg))), (a_values_5, .inl (k_values_6, 0, .inl (va_cpy (fun _ => 0) (fun _ => 0) (0 : Int32).toNatClampNeg (0 : Int32).toNatClampNeg (0 : Int32).toNatClampNeg))), (a_ends_7, .inl (k_ends_8, 0, .inl (va_cpy (fun _ => 0) (fun _ => 0) (0 : Int32).toNatClampNeg (0 : Int32).toNatClampNeg (0 : Int32).toNatClampNeg))), (a_acts_9, .inl (k_acts_10, 0, .inl (va_cpy (fun _ => 0) (fun _ => 0) (0 : Int32).toNatClampNeg (0 : Int32).toNatClampNeg (0 : Int32).toNatClampNeg))), (a_asked_11, .inl (k_asked_12, 0, .inl (va_cpy (fun _ => 0) (fun _ => 0) (0 : Int32).toNatClampNeg (0 : Int32).toNatClampNeg (0 : Int32).toNatClampNeg))), (a_numbers_13, .inl (k_numbers_14, 0, .inl (fun _ => 0)))] := hD
  refine lv_aload_n hx hb dX3_cutOut_117 rfl (lv_at hl 1 rfl) ?_
  refine va_get (D := (dC, dI)) (ci := 4) (v := .ref xRd) (C := RX3) (T := TX3) (N := 12) hx hb hts iCX3 hown hK hP 0 rfl rfl 5 (by decide) (hts (.fieldLink RX3 27 "WalkingTown$Reader" "draft" "LWalkingTown$Law;") (List.mem_cons_of_mem _ kw_2_146)) (fun _ h9 => h9) rfl dX3_cutOut_118 ?_
  refine va_get (D := (dC, dI)) (ci := 1) (v := .ref xD6) (C := RX0) (T := TX0) (N := 7) hx hb hts iCX0 hown hK hP 1 rfl rfl 6 (by decide) (hts (.fieldLink RX3 91 "WalkingTown$Law" "numbers" "[I") (List.mem_cons_of_mem _ kw_2_41)) (fun _ h9 => h9) rfl dX3_cutOut_121 ?_
  refine lv_iconst (v := 0) hx hb dX3_cutOut_124 (by decide) ?_
  refine lv_aload_n hx hb dX3_cutOut_125 rfl (lv_at hl 0 rfl) ?_
  refine va_get (D := (dC, dI)) (ci := 1) (v := .ref a_numbers_13) (C := RX0) (T := TX0) (N := 7) hx hb hts iCX0 hown hK hP 8 rfl rfl 6 (by decide) (hts (.fieldLink RX3 91 "WalkingTown$Law" "numbers" "[I") (List.mem_cons_of_mem _ kw_2_41)) (fun _ h9 => h9) rfl dX3_cutOut_126 ?_
  refine lv_iconst (v := 0) hx hb dX3_cutOut_129 (by decide) ?_
  refine lv_aload_n hx hb dX3_cutOut_130 rfl (lv_at hl 1 rfl) ?_
  refine va_get (D := (dC, dI)) (ci := 4) (v := .int 0) (C := RX3) (T := TX3) (N := 12) hx hb hts iCX3 hown hK hP 0 rfl rfl 7 (by decide) (hts (.fieldLink RX3 35 "WalkingTown$Reader" "codes" "I") (List.mem_cons_of_mem _ kw_2_149)) (fun _ h9 => h9) rfl dX3_cutOut_131 ?_
  refine va_copyi (sp := 0) (dp := 0) (n := 0) hx hb (hml.trans hl.1.symm) hown (hts (.methodLink RX3 73 arraycopyName) (List.mem_cons_of_mem _ kw_4_170)) (hts (.native arraycopyName) (List.mem_cons_of_mem _ kw_4_172)) (hts (.static arraycopyName) (List.mem_cons_of_mem _ kw_4_171)) (hts (.initialized "java/lang/System") (List.mem_cons_of_mem _ kw_1_23)) hK hP hD hS 7 14 5 11 rfl rfl rfl rfl rfl (by decide) (by decide) (by decide) (by decide) (by decide) (fun i hi => absurd hi (Nat.not_lt_zero i)) (Nat.le_of_ble_eq_true rfl) (by decide) dX3_cutOut_134 (fun H locs hP hD hS => ?_)
  have hP : va_P (dC, dI) vwCl [(xR, .inr (4, [.ref xRt, .ref xRs, .ref xRn, .int 1, .int 0, .ref xRd, .int 0, .int 0, .int 0, .int 0, .int 0, .int 0])), (xRd, .inr (1, [.int 0, .ref xD1, .ref xD2, .ref xD3, .ref xD4, .ref xD5, .ref xD6])), (xD1, .inl (cD1, 16, .inl (fun _ => 0))), (xD2, .inl (cD2, 16, .inl (fun _ => 0))), (xD3, .inl (cD3, 16, .inl (fun _ => 0))), (xD4, .inl (cD4, 100, .inl (fun _ => 0))), (xD5, .inl (cD5, 100, .inl (fun _ => 0))), (xD6, .inl (cD6, 100, .inl (fun _ => 0))), (q_1, .inr (1, [.int a, .ref a_kinds_3, .ref a_values_5, .ref a_ends_7, .ref a_acts_9, .ref a_asked_11, .ref a_numbers_13])), (a_kinds_3, .inl (k_kinds_4, 0, .inl (va_cpy (fun _ => 0) (fun _ => 0) (0 : Int32).toNatClampNeg (0 : Int32).toNatClampNeg (0 : Int32).toNatClampNeg))), (a_values_5, .inl (k_values_6, 0, .inl (va_cpy (fun _ => 0) (fun _ => 0) (0 : Int32).toNatClampNeg (0 : Int32).toNatClampNeg (0 : Int32).toNatClampNeg))), (a_ends_7, .inl (k_ends_8, 0, .inl (va_cpy (fun _ => 0) (fun _ => 0) (0 : Int32).toNatClampNeg (0 : Int32).toNatClampNeg (0 : Int32).toNatClampNeg))), (a_acts_9, .inl (k_acts_10, 0, .inl (va_cpy (fun _ => 0) (fun _ => 0) (0 : Int32).toNatClampNeg (0 : Int32).toNatClampNeg (0 : Int32).toNatClampNeg))), (a_asked_11, .inl (k_asked_12, 0, .inl (va_cpy (fun _ => 0) (fun _ => 0) (0 : Int32).toNatClampNeg (0 : Int32).toNatClampNeg (0 : Int32).toNatClampNeg))), (a_numbers_13, .inl (k_numbers_14, 0, .inl (va_cpy (fun _ => 0) (fun _ => 0) (0 : Int32).toNatClampNeg (0 : Int32).toNatClampNeg (0 : Int32).toNatClampNeg)))] H := hP
  have hD : va_D A [(xR, .inr (4, [.ref xRt, .ref xRs, .ref xRn, .int 1, .int 0, .ref xRd, .int 0, .int 0, .int 0, .int 0, .int 0, .int 0])), (xRd, .inr (1, [.int 0, .ref xD1, .ref xD2, .ref xD3, .ref xD4, .ref xD5, .ref xD6])), (xD1, .inl (cD1, 16, .inl (fun _ => 0))), (xD2, .inl (cD2, 16, .inl (fun _ => 0))), (xD3, .inl (cD3, 16, .inl (fun _ => 0))), (xD4, .inl (cD4, 100, .inl (fun _ => 0))), (xD5, .inl (cD5, 100, .inl (fun _ => 0))), (xD6, .inl (cD6, 100, .inl (fun _ => 0))), (q_1, .inr (1, [.int a, .ref a_kinds_3, .ref a_values_5, .ref a_ends_7, .ref a_acts_9, .ref a_asked_11, .ref a_numbers_13])), (a_kinds_3, .inl (k_kinds_4, 0, .inl (va_cpy (fun _ => 0) (fun _ => 0) (0 : Int32).toNatClampNeg (0 : Int32).toNatClampNeg (0 : Int32).toNatClampNeg))), (a_values_5, .inl (k_values_6, 0, .inl (va_cpy (fun _ => 0) (fun _ => 0) (0 : Int32).toNatClampNeg (0 : Int32).toNatClampNeg (0 : Int32).toNatClampNeg))), (a_ends_7, .inl (k_ends_8, 0, .inl (va_cpy (fun _ => 0) (fun _ => 0) (0 : Int32).toNatClampNeg (0 : Int32).toNatClampNeg (0 : Int32).toNatClampNeg))), (a_acts_9, .inl (k_acts_10, 0, .inl (va_cpy (fun _ => 0) (fun _ => 0) (0 : Int32).toNatClampNeg (0 : Int32).toNatClampNeg (0 : Int32).toNatClampNeg))), (a_asked_11, .inl (k_asked_12, 0, .inl (va_cpy (fun _ => 0) (fun _ => 0) (0 : Int32).toNatClampNeg (0 : Int32).toNatClampNeg (0 : Int32).toNatClampNeg))), (a_numbers_13, .inl (k_numbers_14, 0, .inl (va_cpy (fun _ => 0) (fun _ => 0) (0 : Int32).toNatClampNeg (0 : Int32).toNatClampNeg (0 : Int32).toNatClampNeg)))] := hD
  refine lv_aload_n hx hb dX3_cutOut_137 rfl (lv_at hl 0 rfl) ?_
  have hP9 := hP.sub (ws' := [(q_1, .inr (1, [.int a, .ref a_kinds_3, .ref a_values_5, .ref a_ends_7, .ref a_acts_9, .ref a_asked_11, .ref a_numbers_13]))]) [8] rfl
  have hD9 := hD.sub (ws' := [(q_1, .inr (1, [.int a, .ref a_kinds_3, .ref a_values_5, .ref a_ends_7, .ref a_acts_9, .ref a_asked_11, .ref a_numbers_13]))]) [8] (by decide) rfl
  have hK9 := hK.sub (tys' := []) [] rfl
  refine W.widen (k := 7) (n := 7) (Nat.le_of_ble_eq_true rfl) (Nat.le_of_ble_eq_true rfl) ?_
  exact W.aret (v := .ref q_1) hx hb hr (Or.inl ⟨_, rfl⟩) (Or.inr ⟨_, rfl⟩) (fun t ht hW => ⟨⟨(), q_1, rfl, trivial, ⟨(.ref a_kinds_3 : Value), (.ref a_values_5 : Value), (.ref a_ends_7 : Value), (.ref a_acts_9 : Value), (.ref a_asked_11 : Value), (.ref a_numbers_13 : Value), by rw [ht]; exact hP9, va_K.moved hW.alike hK9, hD9⟩⟩, hS.F ht⟩) hS.2.2 dX3_cutOut_138
set_option maxHeartbeats 4000000 in
set_option maxRecDepth 100000 in
theorem c_grow1 (l : Launch) (dC : Nat → ClassId) (dI : Nat → Nat → Nat) (sz : Nat) (tD : Nat) (h0 : Nat) : Met l yJx4a65c_grow_92f84 (.code yJx4a65c_grow_92f84 cJx4a65c_grow_92f84 4 (some (.array (.object "java/lang/Object"))) :: lw_good) ({ frames := 2, cells := 1, slots := 10, locals := 60 }) (va_Pc [.ref h0, .int 1] (fun U => U.heap.size = sz ∧ va_P (dC, dI) vwCl [(h0, .inr (0, [.int 1, .ref tD, .int 0]))] U.heap ∧ va_K (dC, dI) vwCl [] U ∧ va_D (fun _ => True) [(h0, .inr (0, [.int 1, .ref tD, .int 0]))] ∧ va_Z "java/util/ArrayList" "DEFAULTCAPACITY_EMPTY_ELEMENTDATA" "[Ljava/lang/Object;" (.ref tD) (va_A [(h0, .inr (0, [.int 1, .ref tD, .int 0]))] sz) U U.heap ∧ va_T (.object "java/lang/Object") tD 0 (fun _ => .null) (va_A [(h0, .inr (0, [.int 1, .ref tD, .int 0]))] sz) U U.heap ∧ va_AO "java/lang/Object" U)) (va_Qr (fun (_ : Unit) => True) (fun (_ : Unit) (ra : Nat) (t : State) => ∃ (kg : ClassId), va_P (dC, dI) vwCl [(h0, .inr (0, [.int 1, .ref ra, .int 0])), (ra, .inl (kg, 10, .inr (.inr (.inr (.inr (fun _ => none))))))] t.heap ∧ va_K (dC, dI) vwCl [(kg, .object "java/lang/Object")] t ∧ va_D (va_A [(h0, .inr (0, [.int 1, .ref tD, .int 0]))] sz) [(h0, .inr (0, [.int 1, .ref ra, .int 0])), (ra, .inl (kg, 10, .inr (.inr (.inr (.inr (fun _ => none))))))]) (va_A [(h0, .inr (0, [.int 1, .ref tD, .int 0]))] sz)) 1 10 (va_A [(h0, .inr (0, [.int 1, .ref tD, .int 0]))] sz) := by
  refine Met.ofW (cc := cJx4a65c_grow_92f84) (maxL := 4) (ret := (some (.array (.object "java/lang/Object")))) (by decide) rfl ?_
  intro p e s m args below meth c s₁ B hml hv
  obtain ⟨rfl, hsz, hP, hK, hD0, hZ_dce, hT_D, hAO_O⟩ := hv
  have hx := B.exec
  have hb := B.bytes
  have hr := B.returns
  have hts := atoms_spec (ws := (.code yJx4a65c_grow_92f84 cJx4a65c_grow_92f84 4 (some (.array (.object "java/lang/Object"))) :: lw_good)) B.pre
  have hown : s.vm.findClass RJx4a65c = some m.cls := findClass_of_methodNamed B.named
  have hlocks := B.notSynchronized
  subst hsz
  have hD := hD0.self (sz := s.heap.size)
  generalize hAe : va_A [(h0, .inr (0, [.int 1, .ref tD, .int 0]))] s.heap.size = A at hD ⊢ hZ_dce hT_D
  have hA : ∀ q : Nat, s.heap.size ≤ q → A q := fun q h => by rw [← hAe]; exact Or.inr h
  have hS : va_S A s.heap s.heap [] := va_S.rf
  have hP : va_P (dC, dI) vwCl [(h0, .inr (0, [.int 1, .ref tD, .int 0]))] s.heap := hP
  have hl := lv_entry ([.ref h0, .int 1]) (n := 4) (Nat.le_of_ble_eq_true rfl)
  rw [lg_entry_eq]
  generalize (lg_sl ([.ref h0, .int 1]) ++ List.replicate (4 - (lg_sl ([.ref h0, .int 1])).length) Slot.unset).toArray = ls at hl ⊢
  have hl : lv_has ls 4 [(0, .ref h0), (1, .int 1)] := hl
  refine lv_aload_n hx hb dJx4a65c_grow_92f84_0 rfl (lv_at hl 0 rfl) ?_
  refine va_get (D := (dC, dI)) (ci := 0) (v := .ref tD) (C := RJx4a65c) (T := TJx4a65c) (N := 3) hx hb hts iCJx4a65c hown hK hP 0 rfl rfl 1 (by decide) (hts (.fieldLink RJx4a65c 9 "java/util/ArrayList" "elementData" "[Ljava/lang/Object;") (List.mem_cons_of_mem _ kw_2_8)) (fun _ h9 => h9) rfl dJx4a65c_grow_92f84_1 ?_
  refine va_tlen hx hb hT_D hS (v := 0) rfl dJx4a65c_grow_92f84_4 ?_
  refine lv_istore_n (lv' := [(2, .int 0), (0, .ref h0), (1, .int 1)]) hx hb dJx4a65c_grow_92f84_5 rfl hl (by decide) rfl (fun ls hl => ?_)
  refine lv_iload_n hx hb dJx4a65c_grow_92f84_6 rfl (lv_at hl 0 rfl) ?_
  refine lv_if_gt (tgt := 20) hx hb dJx4a65c_grow_92f84_7 (by decide) (fun c_1 => ?_) (fun c_1 => ?_)
  · exact absurd c_1 (by decide)
  refine lv_aload_n hx hb dJx4a65c_grow_92f84_10 rfl (lv_at hl 1 rfl) ?_
  refine va_get (D := (dC, dI)) (ci := 0) (v := .ref tD) (C := RJx4a65c) (T := TJx4a65c) (N := 3) hx hb hts iCJx4a65c hown hK hP 0 rfl rfl 1 (by decide) (hts (.fieldLink RJx4a65c 9 "java/util/ArrayList" "elementData" "[Ljava/lang/Object;") (List.mem_cons_of_mem _ kw_2_8)) (fun _ h9 => h9) rfl dJx4a65c_grow_92f84_11 ?_
  refine va_gets hx hb hZ_dce hS hown (hts (.fieldLink RJx4a65c 39 "java/util/ArrayList" "DEFAULTCAPACITY_EMPTY_ELEMENTDATA" "[Ljava/lang/Object;") (List.mem_cons_of_mem _ kw_2_6)) (fun _ h9 => h9) dJx4a65c_grow_92f84_14 ?_
  refine lv_acmp_eq (rx := some tD) (ry := some tD) (tgt := 45) hx hb dJx4a65c_grow_92f84_17 (by decide) (fun _ => ?_) (fun h9 => absurd rfl h9)
  refine lv_aload_n hx hb dJx4a65c_grow_92f84_45 rfl (lv_at hl 1 rfl) ?_
  refine lv_bipush (v := 10) hx hb dJx4a65c_grow_92f84_46 (by decide) ?_
  refine lv_iload_n hx hb dJx4a65c_grow_92f84_48 rfl (lv_at hl 2 rfl) ?_
  refine va_mmax hx hb (hml.trans hl.1.symm) hown (hts (.methodLink RJx4a65c 79 Lib.Math.max.name) (List.mem_cons_of_mem _ kw_4_227)) (hts (.static Lib.Math.max.name) (List.mem_cons_of_mem _ kw_4_28)) (hts (.initialized RJ9) (List.mem_cons_of_mem _ kw_1_16)) (hts (.code Lib.Math.max.name Lib.Math.max.code 2 (some .int)) (List.mem_cons_of_mem _ kw_4_29)) (Nat.le_of_ble_eq_true rfl) (Nat.le_of_ble_eq_true rfl) (Nat.le_of_ble_eq_true rfl) (Nat.le_of_ble_eq_true rfl) dJx4a65c_grow_92f84_49 ?_
  refine my_ti (y := 10) (by decide) ?_
  refine va_newq (N' := 10) hx hb hown (hts (.classLink RJx4a65c 7 "java/lang/Object") (List.mem_cons_of_mem _ kw_4_228)) hAO_O hK hP hD hS hA (by decide) (by decide) (by decide) (Nat.le_of_ble_eq_true rfl) (Nat.le_of_ble_eq_true rfl) dJx4a65c_grow_92f84_52 (fun q_2 cA_2 H hK hP hD hS => ?_)
  have hP : va_P (dC, dI) vwCl [(h0, .inr (0, [.int 1, .ref tD, .int 0])), (q_2, .inl (cA_2, 10, .inr (.inr (.inr (.inr (fun _ => none))))))] H := hP
  have hD : va_D A [(h0, .inr (0, [.int 1, .ref tD, .int 0])), (q_2, .inl (cA_2, 10, .inr (.inr (.inr (.inr (fun _ => none))))))] := hD
  have hK : va_K (dC, dI) vwCl [(cA_2, .object "java/lang/Object")] s := hK
  refine W.widen (k := 1) (n := 10) (Nat.le_of_ble_eq_true rfl) (Nat.le_of_ble_eq_true rfl) ?_
  refine lv_dup_x1 hx hb dJx4a65c_grow_92f84_55 rfl rfl ?_
  refine va_put (D := (dC, dI)) (ci := 0) (v := .ref q_2) (ty := .array (.object "java/lang/Object")) (C := RJx4a65c) (T := TJx4a65c) (N := 3) hx hb hts iCJx4a65c tyJx4a65c tyJx4a65c_ok nmJx4a65c hown hK hP hD hS 0 rfl rfl 1 (by decide) (hts (.fieldLink RJx4a65c 9 "java/util/ArrayList" "elementData" "[Ljava/lang/Object;") (List.mem_cons_of_mem _ kw_2_8)) (fun _ h9 => h9) rfl (by decide +kernel) rfl rfl (Nat.le_of_ble_eq_true rfl) dJx4a65c_grow_92f84_56 (fun H locs hP hD hS => ?_)
  have hP : va_P (dC, dI) vwCl [(h0, .inr (0, [.int 1, .ref q_2, .int 0])), (q_2, .inl (cA_2, 10, .inr (.inr (.inr (.inr (fun _ => none))))))] H := hP
  have hD : va_D A [(h0, .inr (0, [.int 1, .ref q_2, .int 0])), (q_2, .inl (cA_2, 10, .inr (.inr (.inr (.inr (fun _ => none))))))] := hD
  have hP9 := hP.sub (ws' := [(h0, .inr (0, [.int 1, .ref q_2, .int 0])), (q_2, .inl (cA_2, 10, .inr (.inr (.inr (.inr (fun _ => none))))))]) [0, 1] rfl
  have hD9 := hD.sub (ws' := [(h0, .inr (0, [.int 1, .ref q_2, .int 0])), (q_2, .inl (cA_2, 10, .inr (.inr (.inr (.inr (fun _ => none))))))]) [0, 1] (by decide) rfl
  have hK9 := hK.sub (tys' := [(cA_2, .object "java/lang/Object")]) [0] rfl
  refine W.widen (k := 1) (n := 10) (Nat.le_of_ble_eq_true rfl) (Nat.le_of_ble_eq_true rfl) ?_
  exact W.aret (v := .ref q_2) hx hb hr (Or.inr ⟨_, rfl⟩) (Or.inr ⟨_, rfl⟩) (fun t ht hW => ⟨⟨(), q_2, rfl, trivial, ⟨cA_2, by rw [ht]; exact hP9, va_K.moved hW.alike hK9, hD9⟩⟩, hS.F ht⟩) hS.2.2 dJx4a65c_grow_92f84_59
set_option maxHeartbeats 4000000 in
set_option maxRecDepth 100000 in
theorem c_grow0 (l : Launch) (dC : Nat → ClassId) (dI : Nat → Nat → Nat) (sz : Nat) (tD : Nat) (h0 : Nat) : Met l yJx4a65c_grow_d5877 (.code yJx4a65c_grow_d5877 cJx4a65c_grow_d5877 1 (some (.array (.object "java/lang/Object"))) :: lw_good) ({ frames := 4, cells := 1, slots := 10, locals := 150 }) (va_Pc [.ref h0] (fun U => U.heap.size = sz ∧ va_P (dC, dI) vwCl [(h0, .inr (0, [.int 1, .ref tD, .int 0]))] U.heap ∧ va_K (dC, dI) vwCl [] U ∧ va_D (fun _ => True) [(h0, .inr (0, [.int 1, .ref tD, .int 0]))] ∧ va_Z "java/util/ArrayList" "DEFAULTCAPACITY_EMPTY_ELEMENTDATA" "[Ljava/lang/Object;" (.ref tD) (va_A [(h0, .inr (0, [.int 1, .ref tD, .int 0]))] sz) U U.heap ∧ va_T (.object "java/lang/Object") tD 0 (fun _ => .null) (va_A [(h0, .inr (0, [.int 1, .ref tD, .int 0]))] sz) U U.heap ∧ va_AO "java/lang/Object" U)) (va_Qr (fun (_ : Unit) => True) (fun (_ : Unit) (ra : Nat) (t : State) => ∃ (kg : ClassId), va_P (dC, dI) vwCl [(h0, .inr (0, [.int 1, .ref ra, .int 0])), (ra, .inl (kg, 10, .inr (.inr (.inr (.inr (fun _ => none))))))] t.heap ∧ va_K (dC, dI) vwCl [(kg, .object "java/lang/Object")] t ∧ va_D (va_A [(h0, .inr (0, [.int 1, .ref tD, .int 0]))] sz) [(h0, .inr (0, [.int 1, .ref ra, .int 0])), (ra, .inl (kg, 10, .inr (.inr (.inr (.inr (fun _ => none))))))]) (va_A [(h0, .inr (0, [.int 1, .ref tD, .int 0]))] sz)) 1 10 (va_A [(h0, .inr (0, [.int 1, .ref tD, .int 0]))] sz) := by
  refine Met.ofW (cc := cJx4a65c_grow_d5877) (maxL := 1) (ret := (some (.array (.object "java/lang/Object")))) (by decide) rfl ?_
  intro p e s m args below meth c s₁ B hml hv
  obtain ⟨rfl, hsz, hP, hK, hD0, hZ_dce, hT_D, hAO_O⟩ := hv
  have hx := B.exec
  have hb := B.bytes
  have hr := B.returns
  have hts := atoms_spec (ws := (.code yJx4a65c_grow_d5877 cJx4a65c_grow_d5877 1 (some (.array (.object "java/lang/Object"))) :: lw_good)) B.pre
  have hown : s.vm.findClass RJx4a65c = some m.cls := findClass_of_methodNamed B.named
  have hlocks := B.notSynchronized
  subst hsz
  have hD := hD0.self (sz := s.heap.size)
  generalize hAe : va_A [(h0, .inr (0, [.int 1, .ref tD, .int 0]))] s.heap.size = A at hD ⊢ hZ_dce hT_D
  have hA : ∀ q : Nat, s.heap.size ≤ q → A q := fun q h => by rw [← hAe]; exact Or.inr h
  have hS : va_S A s.heap s.heap [] := va_S.rf
  have hP : va_P (dC, dI) vwCl [(h0, .inr (0, [.int 1, .ref tD, .int 0]))] s.heap := hP
  have hl := lv_entry ([.ref h0]) (n := 1) (Nat.le_of_ble_eq_true rfl)
  rw [lg_entry_eq]
  generalize (lg_sl ([.ref h0]) ++ List.replicate (1 - (lg_sl ([.ref h0])).length) Slot.unset).toArray = ls at hl ⊢
  have hl : lv_has ls 1 [(0, .ref h0)] := hl
  refine lv_aload_n hx hb dJx4a65c_grow_d5877_0 rfl (lv_at hl 0 rfl) ?_
  refine lv_aload_n hx hb dJx4a65c_grow_d5877_1 rfl (lv_at hl 0 rfl) ?_
  refine va_get (D := (dC, dI)) (ci := 0) (v := .int 0) (C := RJx4a65c) (T := TJx4a65c) (N := 3) hx hb hts iCJx4a65c hown hK hP 0 rfl rfl 2 (by decide) (hts (.fieldLink RJx4a65c 48 "java/util/ArrayList" "size" "I") (List.mem_cons_of_mem _ kw_2_9)) (fun _ h9 => h9) rfl dJx4a65c_grow_d5877_2 ?_
  refine lv_iconst (v := 1) hx hb dJx4a65c_grow_d5877_5 (by decide) ?_
  refine lv_iadd hx hb dJx4a65c_grow_d5877_6 ?_
  refine my_ti (y := 1) (by decide) ?_
  have hPc := hP.sub (ws' := [(h0, .inr (0, [.int 1, .ref tD, .int 0]))]) [0] rfl
  have hDc := hD.sub (ws' := [(h0, .inr (0, [.int 1, .ref tD, .int 0]))]) [0] (by decide) rfl
  have hKc := hK.sub (tys' := []) [] rfl
  have hFc := va_free (wc := [(h0, .inr (0, [.int 1, .ref tD, .int 0]))]) hD hS hA [0] rfl
  refine va_callr (va_runV (As := [.int 1]) (rest := []) ⟨hx, hb, hml, hown, hts⟩ (c_grow1 l dC dI s.heap.size tD h0) (cwV 1 hts (gV kw_4_185 kw_4_187 kw_p_18 kw_1_9 kw_4_188) rfl rfl rfl (by decide +kernel) ⟨Nat.le_of_ble_eq_true rfl, Nat.le_of_ble_eq_true rfl⟩) ⟨fun a U g mk q => by obtain ⟨q0, q1, qP, qK, qD, qZ0, qZ1, qZ2⟩ := q; exact ⟨q0, q1, qP, va_K.moved (u := U) (U := U.calling g mk a) (Vm.Alike.refl U.vm) qK, qD, qZ0.moved (u := U) (U := U.calling g mk a) (Vm.Alike.refl U.vm), qZ1.moved (u := U) (U := U.calling g mk a) (Vm.Alike.refl U.vm), va_AO.moved (u := U) (U := U.calling g mk a) (Vm.Alike.refl U.vm) qZ2⟩, va_recv hKc hPc (ci := 0) (q0 := 0) rfl rfl, fun U hU hW => ⟨rfl, by rw [hU], by rw [hU]; exact hPc, va_K.moved hW.alike hKc, hDc.weaken (fun _ _ _ _ => trivial), by rw [hU]; exact ((hZ_dce.kept hS.2.1).narrow hFc).moved hW.alike, by rw [hU]; exact ((hT_D.kept hS.2.1).narrow hFc).moved hW.alike, va_AO.moved hW.alike hAO_O⟩⟩ rfl rfl hl.1 rfl (lv_room (Nat.le_of_ble_eq_true rfl)) dJx4a65c_grow_d5877_7 ⟨Nat.le_of_ble_eq_true rfl, Nat.le_of_ble_eq_true rfl⟩) hS (fun q _ h => hFc q h) hFc (fun u r_1 t H1 locs ht hvm hw hB hz1 hk1 hS => ?_)
  obtain ⟨kg_2, hP1, hK1, hD1⟩ := hB
  rw [ht] at hP1
  have hK1 := va_K.moved hvm.symm hK1
  obtain ⟨hP, hD⟩ := va_join (wr := []) (w1 := [(h0, .inr (0, [.int 1, .ref r_1, .int 0])), (r_1, .inl (kg_2, 10, .inr (.inr (.inr (.inr (fun _ => none))))))]) hP hD [0] [] rfl rfl (by decide) (by decide) hk1 hFc hP1 hD1
  have hK := (hK.sub (tys' := []) [] rfl).app hK1
  generalize H1 = H at hP hS ⊢
  have hP : va_P (dC, dI) vwCl [(h0, .inr (0, [.int 1, .ref r_1, .int 0])), (r_1, .inl (kg_2, 10, .inr (.inr (.inr (.inr (fun _ => none))))))] H := hP
  have hD : va_D A [(h0, .inr (0, [.int 1, .ref r_1, .int 0])), (r_1, .inl (kg_2, 10, .inr (.inr (.inr (.inr (fun _ => none))))))] := hD
  have hK : va_K (dC, dI) vwCl [(kg_2, .object "java/lang/Object")] s := hK
  refine W.widen (k := 1) (n := 10) (Nat.le_of_ble_eq_true rfl) (Nat.le_of_ble_eq_true rfl) ?_
  have hP9 := hP.sub (ws' := [(h0, .inr (0, [.int 1, .ref r_1, .int 0])), (r_1, .inl (kg_2, 10, .inr (.inr (.inr (.inr (fun _ => none))))))]) [0, 1] rfl
  have hD9 := hD.sub (ws' := [(h0, .inr (0, [.int 1, .ref r_1, .int 0])), (r_1, .inl (kg_2, 10, .inr (.inr (.inr (.inr (fun _ => none))))))]) [0, 1] (by decide) rfl
  have hK9 := hK.sub (tys' := [(kg_2, .object "java/lang/Object")]) [0] rfl
  refine W.widen (k := 1) (n := 10) (Nat.le_of_ble_eq_true rfl) (Nat.le_of_ble_eq_true rfl) ?_
  exact W.aret (v := .ref r_1) hx hb hr (Or.inr ⟨_, rfl⟩) (Or.inr ⟨_, rfl⟩) (fun t ht hW => ⟨⟨(), r_1, rfl, trivial, ⟨kg_2, by rw [ht]; exact hP9, va_K.moved hW.alike hK9, hD9⟩⟩, hS.F ht⟩) hS.2.2 dJx4a65c_grow_d5877_10
set_option maxHeartbeats 4000000 in
set_option maxRecDepth 100000 in
theorem c_add2 (l : Launch) (dC : Nat → ClassId) (dI : Nat → Nat → Nat) (sz : Nat) (tD : Nat) (h0 : Nat) (lo : Nat) (a : Int32) (u1 : Value) (u2 : Value) (u3 : Value) (u4 : Value) (u5 : Value) (u6 : Value) : Met l yJx4a65c_add_72be8 (.code yJx4a65c_add_72be8 cJx4a65c_add_72be8 4 none :: lw_good) ({ frames := 6, cells := 1, slots := 10, locals := 250 }) (va_Pc [.ref h0, .ref lo, .ref tD, .int 0] (fun U => U.heap.size = sz ∧ va_P (dC, dI) vwCl [(h0, .inr (0, [.int 1, .ref tD, .int 0])), (lo, .inr (1, [.int a, u1, u2, u3, u4, u5, u6]))] U.heap ∧ va_K (dC, dI) vwCl [] U ∧ va_D (fun _ => True) [(h0, .inr (0, [.int 1, .ref tD, .int 0])), (lo, .inr (1, [.int a, u1, u2, u3, u4, u5, u6]))] ∧ va_Z "java/util/ArrayList" "DEFAULTCAPACITY_EMPTY_ELEMENTDATA" "[Ljava/lang/Object;" (.ref tD) (va_A [(h0, .inr (0, [.int 1, .ref tD, .int 0])), (lo, .inr (1, [.int a, u1, u2, u3, u4, u5, u6]))] sz) U U.heap ∧ va_T (.object "java/lang/Object") tD 0 (fun _ => .null) (va_A [(h0, .inr (0, [.int 1, .ref tD, .int 0])), (lo, .inr (1, [.int a, u1, u2, u3, u4, u5, u6]))] sz) U U.heap ∧ va_AO "java/lang/Object" U ∧ va_Nw (.castable RX0 "java/lang/Object") U)) (va_Qv (fun (_ : Unit) => True) (fun (_ : Unit) (_ : State) => True) (va_A [(h0, .inr (0, [.int 1, .ref tD, .int 0])), (lo, .inr (1, [.int a, u1, u2, u3, u4, u5, u6]))] sz)) 1 10 (va_A [(h0, .inr (0, [.int 1, .ref tD, .int 0])), (lo, .inr (1, [.int a, u1, u2, u3, u4, u5, u6]))] sz) := by
  refine Met.ofW (cc := cJx4a65c_add_72be8) (maxL := 4) (ret := none) (by decide) rfl ?_
  intro p e s m args below meth c s₁ B hml hv
  obtain ⟨rfl, hsz, hP, hK, hD0, hZ_dce, hT_D, hAO_O, hN_L⟩ := hv
  have hx := B.exec
  have hb := B.bytes
  have hr := B.returns
  have hts := atoms_spec (ws := (.code yJx4a65c_add_72be8 cJx4a65c_add_72be8 4 none :: lw_good)) B.pre
  have hown : s.vm.findClass RJx4a65c = some m.cls := findClass_of_methodNamed B.named
  have hlocks := B.notSynchronized
  subst hsz
  have hD := hD0.self (sz := s.heap.size)
  generalize hAe : va_A [(h0, .inr (0, [.int 1, .ref tD, .int 0])), (lo, .inr (1, [.int a, u1, u2, u3, u4, u5, u6]))] s.heap.size = A at hD ⊢ hZ_dce hT_D
  have hA : ∀ q : Nat, s.heap.size ≤ q → A q := fun q h => by rw [← hAe]; exact Or.inr h
  have hS : va_S A s.heap s.heap [] := va_S.rf
  have hP : va_P (dC, dI) vwCl [(h0, .inr (0, [.int 1, .ref tD, .int 0])), (lo, .inr (1, [.int a, u1, u2, u3, u4, u5, u6]))] s.heap := hP
  have hl := lv_entry ([.ref h0, .ref lo, .ref tD, .int 0]) (n := 4) (Nat.le_of_ble_eq_true rfl)
  rw [lg_entry_eq]
  generalize (lg_sl ([.ref h0, .ref lo, .ref tD, .int 0]) ++ List.replicate (4 - (lg_sl ([.ref h0, .ref lo, .ref tD, .int 0])).length) Slot.unset).toArray = ls at hl ⊢
  have hl : lv_has ls 4 [(0, .ref h0), (1, .ref lo), (2, .ref tD), (3, .int 0)] := hl
  refine lv_iload_n hx hb dJx4a65c_add_72be8_0 rfl (lv_at hl 3 rfl) ?_
  refine lv_aload_n hx hb dJx4a65c_add_72be8_1 rfl (lv_at hl 2 rfl) ?_
  refine va_tlen hx hb hT_D hS (v := 0) rfl dJx4a65c_add_72be8_2 ?_
  refine lv_icmp_ne (tgt := 11) hx hb dJx4a65c_add_72be8_3 (by decide) (fun c_1 => ?_) (fun c_1 => ?_)
  · exact (c_1 (by decide)).elim
  refine lv_aload_n hx hb dJx4a65c_add_72be8_6 rfl (lv_at hl 0 rfl) ?_
  have hPc := hP.sub (ws' := [(h0, .inr (0, [.int 1, .ref tD, .int 0]))]) [0] rfl
  have hDc := hD.sub (ws' := [(h0, .inr (0, [.int 1, .ref tD, .int 0]))]) [0] (by decide) rfl
  have hKc := hK.sub (tys' := []) [] rfl
  have hFc := va_free (wc := [(h0, .inr (0, [.int 1, .ref tD, .int 0]))]) hD hS hA [0] rfl
  refine va_callr (va_runV (As := []) (rest := []) ⟨hx, hb, hml, hown, hts⟩ (c_grow0 l dC dI s.heap.size tD h0) (cwV 0 hts (gV kw_4_181 kw_4_183 kw_p_17 kw_1_9 kw_4_184) rfl rfl rfl (by decide +kernel) ⟨Nat.le_of_ble_eq_true rfl, Nat.le_of_ble_eq_true rfl⟩) ⟨fun a U g mk q => by obtain ⟨q0, q1, qP, qK, qD, qZ0, qZ1, qZ2⟩ := q; exact ⟨q0, q1, qP, va_K.moved (u := U) (U := U.calling g mk a) (Vm.Alike.refl U.vm) qK, qD, qZ0.moved (u := U) (U := U.calling g mk a) (Vm.Alike.refl U.vm), qZ1.moved (u := U) (U := U.calling g mk a) (Vm.Alike.refl U.vm), va_AO.moved (u := U) (U := U.calling g mk a) (Vm.Alike.refl U.vm) qZ2⟩, va_recv hKc hPc (ci := 0) (q0 := 0) rfl rfl, fun U hU hW => ⟨rfl, by rw [hU], by rw [hU]; exact hPc, va_K.moved hW.alike hKc, hDc.weaken (fun _ _ _ _ => trivial), by rw [hU]; exact ((hZ_dce.kept hS.2.1).narrow hFc).moved hW.alike, by rw [hU]; exact ((hT_D.kept hS.2.1).narrow hFc).moved hW.alike, va_AO.moved hW.alike hAO_O⟩⟩ rfl rfl hl.1 rfl (lv_room (Nat.le_of_ble_eq_true rfl)) dJx4a65c_add_72be8_7 ⟨Nat.le_of_ble_eq_true rfl, Nat.le_of_ble_eq_true rfl⟩) hS (fun q _ h => hFc q h) hFc (fun u r_2 t H1 locs ht hvm hw hB hz1 hk1 hS => ?_)
  obtain ⟨kg_3, hP1, hK1, hD1⟩ := hB
  rw [ht] at hP1
  have hK1 := va_K.moved hvm.symm hK1
  obtain ⟨hP, hD⟩ := va_join (wr := [(lo, .inr (1, [.int a, u1, u2, u3, u4, u5, u6]))]) (w1 := [(h0, .inr (0, [.int 1, .ref r_2, .int 0])), (r_2, .inl (kg_3, 10, .inr (.inr (.inr (.inr (fun _ => none))))))]) hP hD [0] [1] rfl rfl (by decide) (by decide) hk1 hFc hP1 hD1
  have hK := (hK.sub (tys' := []) [] rfl).app hK1
  generalize H1 = H at hP hS ⊢
  have hP : va_P (dC, dI) vwCl [(lo, .inr (1, [.int a, u1, u2, u3, u4, u5, u6])), (h0, .inr (0, [.int 1, .ref r_2, .int 0])), (r_2, .inl (kg_3, 10, .inr (.inr (.inr (.inr (fun _ => none))))))] H := hP
  have hD : va_D A [(lo, .inr (1, [.int a, u1, u2, u3, u4, u5, u6])), (h0, .inr (0, [.int 1, .ref r_2, .int 0])), (r_2, .inl (kg_3, 10, .inr (.inr (.inr (.inr (fun _ => none))))))] := hD
  have hK : va_K (dC, dI) vwCl [(kg_3, .object "java/lang/Object")] s := hK
  refine W.widen (k := 1) (n := 10) (Nat.le_of_ble_eq_true rfl) (Nat.le_of_ble_eq_true rfl) ?_
  refine lv_astore_n (lv' := [(2, .ref r_2), (0, .ref h0), (1, .ref lo), (3, .int 0)]) hx hb dJx4a65c_add_72be8_10 rfl hl (by decide) rfl (fun ls hl => ?_)
  refine lv_aload_n hx hb dJx4a65c_add_72be8_11 rfl (lv_at hl 0 rfl) ?_
  refine lv_iload_n hx hb dJx4a65c_add_72be8_12 rfl (lv_at hl 3 rfl) ?_
  refine lv_aload_n hx hb dJx4a65c_add_72be8_13 rfl (lv_at hl 2 rfl) ?_
  refine va_astqO hx hb hK hP hD hS 2 0 0 1 rfl rfl hN_L rfl rfl (by unfold vp_in; decide) dJx4a65c_add_72be8_14 (fun H locs hP hD hS => ?_)
  have hP : va_P (dC, dI) vwCl [(lo, .inr (1, [.int a, u1, u2, u3, u4, u5, u6])), (h0, .inr (0, [.int 1, .ref r_2, .int 0])), (r_2, .inl (kg_3, 10, .inr (.inr (.inr (.inr (va_up (fun _ => none) (0 : Int32).toNatClampNeg (some lo)))))))] H := hP
  have hD : va_D A [(lo, .inr (1, [.int a, u1, u2, u3, u4, u5, u6])), (h0, .inr (0, [.int 1, .ref r_2, .int 0])), (r_2, .inl (kg_3, 10, .inr (.inr (.inr (.inr (va_up (fun _ => none) (0 : Int32).toNatClampNeg (some lo)))))))] := hD
  refine lv_aload_n hx hb dJx4a65c_add_72be8_15 rfl (lv_at hl 1 rfl) ?_
  refine lv_iload_n hx hb dJx4a65c_add_72be8_16 rfl (lv_at hl 3 rfl) ?_
  refine lv_iconst (v := 1) hx hb dJx4a65c_add_72be8_17 (by decide) ?_
  refine lv_iadd hx hb dJx4a65c_add_72be8_18 ?_
  refine my_ti (y := 1) (by decide) ?_
  refine va_put (D := (dC, dI)) (ci := 0) (v := .int 1) (ty := .int) (C := RJx4a65c) (T := TJx4a65c) (N := 3) hx hb hts iCJx4a65c tyJx4a65c tyJx4a65c_ok nmJx4a65c hown hK hP hD hS 1 rfl rfl 2 (by decide) (hts (.fieldLink RJx4a65c 48 "java/util/ArrayList" "size" "I") (List.mem_cons_of_mem _ kw_2_9)) (fun _ h9 => h9) rfl (by decide +kernel) rfl rfl (Nat.le_of_ble_eq_true rfl) dJx4a65c_add_72be8_19 (fun H locs hP hD hS => ?_)
  have hP : va_P (dC, dI) vwCl [(lo, .inr (1, [.int a, u1, u2, u3, u4, u5, u6])), (h0, .inr (0, [.int 1, .ref r_2, .int 1])), (r_2, .inl (kg_3, 10, .inr (.inr (.inr (.inr (va_up (fun _ => none) (0 : Int32).toNatClampNeg (some lo)))))))] H := hP
  have hD : va_D A [(lo, .inr (1, [.int a, u1, u2, u3, u4, u5, u6])), (h0, .inr (0, [.int 1, .ref r_2, .int 1])), (r_2, .inl (kg_3, 10, .inr (.inr (.inr (.inr (va_up (fun _ => none) (0 : Int32).toNatClampNeg (some lo)))))))] := hD
  refine W.widen (k := 1) (n := 10) (Nat.le_of_ble_eq_true rfl) (Nat.le_of_ble_eq_true rfl) ?_
  exact W.vret hx hb hr (fun t ht hW => ⟨⟨(), rfl, trivial, trivial⟩, hS.F ht⟩) hS.2.2 dJx4a65c_add_72be8_22
set_option maxHeartbeats 4000000 in
set_option maxRecDepth 100000 in
theorem c_add (l : Launch) (dC : Nat → ClassId) (dI : Nat → Nat → Nat) (sz : Nat) (tD : Nat) (h0 : Nat) (lo : Nat) (a : Int32) (u1 : Value) (u2 : Value) (u3 : Value) (u4 : Value) (u5 : Value) (u6 : Value) : Met l yJx4a65c_add_9ea2d (.code yJx4a65c_add_9ea2d cJx4a65c_add_9ea2d 2 (some .boolean) :: lw_good) ({ frames := 8, cells := 1, slots := 10, locals := 350 }) (va_Pc [.ref h0, .ref lo] (fun U => U.heap.size = sz ∧ va_P (dC, dI) vwCl [(h0, .inr (0, [.int 0, .ref tD, .int 0])), (lo, .inr (1, [.int a, u1, u2, u3, u4, u5, u6]))] U.heap ∧ va_K (dC, dI) vwCl [] U ∧ va_D (fun _ => True) [(h0, .inr (0, [.int 0, .ref tD, .int 0])), (lo, .inr (1, [.int a, u1, u2, u3, u4, u5, u6]))] ∧ va_Z "java/util/ArrayList" "DEFAULTCAPACITY_EMPTY_ELEMENTDATA" "[Ljava/lang/Object;" (.ref tD) (va_A [(h0, .inr (0, [.int 0, .ref tD, .int 0])), (lo, .inr (1, [.int a, u1, u2, u3, u4, u5, u6]))] sz) U U.heap ∧ va_T (.object "java/lang/Object") tD 0 (fun _ => .null) (va_A [(h0, .inr (0, [.int 0, .ref tD, .int 0])), (lo, .inr (1, [.int a, u1, u2, u3, u4, u5, u6]))] sz) U U.heap ∧ va_AO "java/lang/Object" U ∧ va_Nw (.castable RX0 "java/lang/Object") U)) (va_Qi (fun (r : Int32) (_ : Unit) => r = 1) (fun (_ : Unit) (_ : State) => True) (va_A [(h0, .inr (0, [.int 0, .ref tD, .int 0])), (lo, .inr (1, [.int a, u1, u2, u3, u4, u5, u6]))] sz)) 1 10 (va_A [(h0, .inr (0, [.int 0, .ref tD, .int 0])), (lo, .inr (1, [.int a, u1, u2, u3, u4, u5, u6]))] sz) := by
  refine Met.ofW (cc := cJx4a65c_add_9ea2d) (maxL := 2) (ret := (some .boolean)) (by decide) rfl ?_
  intro p e s m args below meth c s₁ B hml hv
  obtain ⟨rfl, hsz, hP, hK, hD0, hZ_dce, hT_D, hAO_O, hN_L⟩ := hv
  have hx := B.exec
  have hb := B.bytes
  have hr := B.returns
  have hts := atoms_spec (ws := (.code yJx4a65c_add_9ea2d cJx4a65c_add_9ea2d 2 (some .boolean) :: lw_good)) B.pre
  have hown : s.vm.findClass RJx4a65c = some m.cls := findClass_of_methodNamed B.named
  have hlocks := B.notSynchronized
  subst hsz
  have hD := hD0.self (sz := s.heap.size)
  generalize hAe : va_A [(h0, .inr (0, [.int 0, .ref tD, .int 0])), (lo, .inr (1, [.int a, u1, u2, u3, u4, u5, u6]))] s.heap.size = A at hD ⊢ hZ_dce hT_D
  have hA : ∀ q : Nat, s.heap.size ≤ q → A q := fun q h => by rw [← hAe]; exact Or.inr h
  have hS : va_S A s.heap s.heap [] := va_S.rf
  have hP : va_P (dC, dI) vwCl [(h0, .inr (0, [.int 0, .ref tD, .int 0])), (lo, .inr (1, [.int a, u1, u2, u3, u4, u5, u6]))] s.heap := hP
  have hl := lv_entry ([.ref h0, .ref lo]) (n := 2) (Nat.le_of_ble_eq_true rfl)
  rw [lg_entry_eq]
  generalize (lg_sl ([.ref h0, .ref lo]) ++ List.replicate (2 - (lg_sl ([.ref h0, .ref lo])).length) Slot.unset).toArray = ls at hl ⊢
  have hl : lv_has ls 2 [(0, .ref h0), (1, .ref lo)] := hl
  refine lv_aload_n hx hb dJx4a65c_add_9ea2d_0 rfl (lv_at hl 0 rfl) ?_
  refine lv_dup hx hb dJx4a65c_add_9ea2d_1 rfl ?_
  refine va_get (D := (dC, dI)) (ci := 0) (v := .int 0) (C := RJx4a65c) (T := TJx4a65c) (N := 3) hx hb hts iCJx4a65c hown hK hP 0 rfl rfl 0 (by decide) (hts (.fieldLink RJx4a65c 63 "java/util/ArrayList" "modCount" "I") (List.mem_cons_of_mem _ kw_2_11)) (fun x9 h9 => u_same (hts (.sameField "java/util/ArrayList" "java/util/AbstractList" "modCount" "I") (List.mem_cons_of_mem _ kw_2_12)) x9 h9) rfl dJx4a65c_add_9ea2d_2 ?_
  refine lv_iconst (v := 1) hx hb dJx4a65c_add_9ea2d_5 (by decide) ?_
  refine lv_iadd hx hb dJx4a65c_add_9ea2d_6 ?_
  refine my_ti (y := 1) (by decide) ?_
  refine va_put (D := (dC, dI)) (ci := 0) (v := .int 1) (ty := .int) (C := RJx4a65c) (T := TJx4a65c) (N := 3) hx hb hts iCJx4a65c tyJx4a65c tyJx4a65c_ok nmJx4a65c hown hK hP hD hS 0 rfl rfl 0 (by decide) (hts (.fieldLink RJx4a65c 63 "java/util/ArrayList" "modCount" "I") (List.mem_cons_of_mem _ kw_2_11)) (fun x9 h9 => u_same (hts (.sameField "java/util/ArrayList" "java/util/AbstractList" "modCount" "I") (List.mem_cons_of_mem _ kw_2_12)) x9 h9) rfl (by decide +kernel) rfl rfl (Nat.le_of_ble_eq_true rfl) dJx4a65c_add_9ea2d_7 (fun H locs hP hD hS => ?_)
  have hP : va_P (dC, dI) vwCl [(h0, .inr (0, [.int 1, .ref tD, .int 0])), (lo, .inr (1, [.int a, u1, u2, u3, u4, u5, u6]))] H := hP
  have hD : va_D A [(h0, .inr (0, [.int 1, .ref tD, .int 0])), (lo, .inr (1, [.int a, u1, u2, u3, u4, u5, u6]))] := hD
  refine lv_aload_n hx hb dJx4a65c_add_9ea2d_10 rfl (lv_at hl 0 rfl) ?_
  refine lv_aload_n hx hb dJx4a65c_add_9ea2d_11 rfl (lv_at hl 1 rfl) ?_
  refine lv_aload_n hx hb dJx4a65c_add_9ea2d_12 rfl (lv_at hl 0 rfl) ?_
  refine va_get (D := (dC, dI)) (ci := 0) (v := .ref tD) (C := RJx4a65c) (T := TJx4a65c) (N := 3) hx hb hts iCJx4a65c hown hK hP 0 rfl rfl 1 (by decide) (hts (.fieldLink RJx4a65c 9 "java/util/ArrayList" "elementData" "[Ljava/lang/Object;") (List.mem_cons_of_mem _ kw_2_8)) (fun _ h9 => h9) rfl dJx4a65c_add_9ea2d_13 ?_
  refine lv_aload_n hx hb dJx4a65c_add_9ea2d_16 rfl (lv_at hl 0 rfl) ?_
  refine va_get (D := (dC, dI)) (ci := 0) (v := .int 0) (C := RJx4a65c) (T := TJx4a65c) (N := 3) hx hb hts iCJx4a65c hown hK hP 0 rfl rfl 2 (by decide) (hts (.fieldLink RJx4a65c 48 "java/util/ArrayList" "size" "I") (List.mem_cons_of_mem _ kw_2_9)) (fun _ h9 => h9) rfl dJx4a65c_add_9ea2d_17 ?_
  have hPc := hP.sub (ws' := [(h0, .inr (0, [.int 1, .ref tD, .int 0])), (lo, .inr (1, [.int a, u1, u2, u3, u4, u5, u6]))]) [0, 1] rfl
  have hDc := hD.sub (ws' := [(h0, .inr (0, [.int 1, .ref tD, .int 0])), (lo, .inr (1, [.int a, u1, u2, u3, u4, u5, u6]))]) [0, 1] (by decide) rfl
  have hKc := hK.sub (tys' := []) [] rfl
  have hFc := va_free (wc := [(h0, .inr (0, [.int 1, .ref tD, .int 0])), (lo, .inr (1, [.int a, u1, u2, u3, u4, u5, u6]))]) hD hS hA [0, 1] rfl
  refine va_callv (va_runV (As := [.ref lo, .ref tD, .int 0]) (rest := []) ⟨hx, hb, hml, hown, hts⟩ (c_add2 l dC dI H.size tD h0 lo a (u1 : Value) (u2 : Value) (u3 : Value) (u4 : Value) (u5 : Value) (u6 : Value)) (cwV 3 hts (gV kw_4_177 kw_4_179 kw_p_16 kw_1_9 kw_4_180) rfl rfl rfl (by decide +kernel) ⟨Nat.le_of_ble_eq_true rfl, Nat.le_of_ble_eq_true rfl⟩) ⟨fun a U g mk q => by obtain ⟨q0, q1, qP, qK, qD, qZ0, qZ1, qZ2, qZ3⟩ := q; exact ⟨q0, q1, qP, va_K.moved (u := U) (U := U.calling g mk a) (Vm.Alike.refl U.vm) qK, qD, qZ0.moved (u := U) (U := U.calling g mk a) (Vm.Alike.refl U.vm), qZ1.moved (u := U) (U := U.calling g mk a) (Vm.Alike.refl U.vm), va_AO.moved (u := U) (U := U.calling g mk a) (Vm.Alike.refl U.vm) qZ2, va_Nw.same (u := U) (U := U.calling g mk a) rfl rfl qZ3⟩, va_recv hKc hPc (ci := 0) (q0 := 0) rfl rfl, fun U hU hW => ⟨rfl, by rw [hU], by rw [hU]; exact hPc, va_K.moved hW.alike hKc, hDc.weaken (fun _ _ _ _ => trivial), by rw [hU]; exact ((hZ_dce.kept hS.2.1).narrow hFc).moved hW.alike, by rw [hU]; exact ((hT_D.kept hS.2.1).narrow hFc).moved hW.alike, va_AO.moved hW.alike hAO_O, va_Nw.warmC hW hN_L⟩⟩ rfl rfl hl.1 rfl (lv_room (Nat.le_of_ble_eq_true rfl)) dJx4a65c_add_9ea2d_20 ⟨Nat.le_of_ble_eq_true rfl, Nat.le_of_ble_eq_true rfl⟩) hS (fun q _ h => hFc q h) hFc (fun u t H1 locs ht hvm hw hB hz1 hk1 hS => ?_)
  obtain ⟨hP, hD⟩ := va_join (wr := []) (w1 := []) hP hD [0, 1] [] rfl rfl (by decide) (by decide) hk1 hFc (fun k q h => by simp at h) ⟨fun i j p q h => by simp at h, fun k q h => by simp at h⟩
  have hK := hK.sub (tys' := []) [] rfl
  generalize H1 = H at hP hS ⊢
  have hP : va_P (dC, dI) vwCl [] H := hP
  have hD : va_D A [] := hD
  have hK : va_K (dC, dI) vwCl [] s := hK
  refine W.widen (k := 1) (n := 10) (Nat.le_of_ble_eq_true rfl) (Nat.le_of_ble_eq_true rfl) ?_
  refine lv_iconst (v := 1) hx hb dJx4a65c_add_9ea2d_23 (by decide) ?_
  refine W.widen (k := 1) (n := 10) (Nat.le_of_ble_eq_true rfl) (Nat.le_of_ble_eq_true rfl) ?_
  exact W.zret (v := 1) hx hb hr (by decide) (fun t ht hW => ⟨⟨1, (), rfl, rfl, trivial⟩, hS.F ht⟩) hS.2.2 dJx4a65c_add_9ea2d_24
set_option maxHeartbeats 4000000 in
set_option maxRecDepth 100000 in
theorem x_bylaw (l : Launch) (dC : Nat → ClassId) (dI : Nat → Nat → Nat) (sz : Nat) (tE : Nat) (a : Int32) (xX : Nat) (xT : Nat) (xW : Nat) (xR : Nat) (xM : Nat) (xS : Nat) (xRo : Nat) (xPe : Nat) (xWh : Nat) (xTr : Nat) (xCo : Nat) (xAl : Nat) (xNl : Nat) (xDr : Nat) (xFa : Nat) (tD : Nat) (xRt : Nat) (xRs : Nat) (xRn : Nat) (xRd : Nat) (cRt : ClassId) (cRs : ClassId) (cRn : ClassId) (xD1 : Nat) (xD2 : Nat) (xD3 : Nat) (xD4 : Nat) (xD5 : Nat) (xD6 : Nat) (cD1 : ClassId) (cD2 : ClassId) (cD3 : ClassId) (cD4 : ClassId) (cD5 : ClassId) (cD6 : ClassId) : Met l yX11_bylaw (.code yX11_bylaw cX11_bylaw 3 (some .int) :: lw_good) ({ frames := 14, cells := 8, slots := 17, locals := 500 }) (va_Pc [.ref xX, .int a] (fun U => U.heap.size = sz ∧ va_P (dC, dI) vwCl [(xX, .inr (11, [.ref xT, .int 0, .ref xW, .ref xR, .ref xM, .ref xS, .int (-1), .int 0, .int (-1)])), (xW, .inr (7, [.ref xRo, .ref xPe, .ref xWh, .ref xTr, .ref xCo, .int 0, .ref xAl, .ref xNl, .ref xDr, .int 0, .ref xFa, .int 0, .int 0, .int 0])), (xAl, .inr (0, [.int 0, .ref tD, .int 0])), (xR, .inr (4, [.ref xRt, .ref xRs, .ref xRn, .int 0, .int 0, .ref xRd, .int 0, .int 0, .int 0, .int 0, .int 0, .int 0])), (xRt, .inl (cRt, 301, .inr (.inr (.inr (.inr (fun _ => none)))))), (xRs, .inl (cRs, 301, .inl (fun _ => 0))), (xRn, .inl (cRn, 301, .inl (fun _ => 0))), (xRd, .inr (1, [.int 0, .ref xD1, .ref xD2, .ref xD3, .ref xD4, .ref xD5, .ref xD6])), (xD1, .inl (cD1, 16, .inl (fun _ => 0))), (xD2, .inl (cD2, 16, .inl (fun _ => 0))), (xD3, .inl (cD3, 16, .inl (fun _ => 0))), (xD4, .inl (cD4, 100, .inl (fun _ => 0))), (xD5, .inl (cD5, 100, .inl (fun _ => 0))), (xD6, .inl (cD6, 100, .inl (fun _ => 0)))] U.heap ∧ va_K (dC, dI) vwCl [(cRt, .object RX6), (cRs, .int), (cRn, .int), (cD1, .int), (cD2, .int), (cD3, .int), (cD4, .int), (cD5, .int), (cD6, .int)] U ∧ va_D (fun _ => True) [(xX, .inr (11, [.ref xT, .int 0, .ref xW, .ref xR, .ref xM, .ref xS, .int (-1), .int 0, .int (-1)])), (xW, .inr (7, [.ref xRo, .ref xPe, .ref xWh, .ref xTr, .ref xCo, .int 0, .ref xAl, .ref xNl, .ref xDr, .int 0, .ref xFa, .int 0, .int 0, .int 0])), (xAl, .inr (0, [.int 0, .ref tD, .int 0])), (xR, .inr (4, [.ref xRt, .ref xRs, .ref xRn, .int 0, .int 0, .ref xRd, .int 0, .int 0, .int 0, .int 0, .int 0, .int 0])), (xRt, .inl (cRt, 301, .inr (.inr (.inr (.inr (fun _ => none)))))), (xRs, .inl (cRs, 301, .inl (fun _ => 0))), (xRn, .inl (cRn, 301, .inl (fun _ => 0))), (xRd, .inr (1, [.int 0, .ref xD1, .ref xD2, .ref xD3, .ref xD4, .ref xD5, .ref xD6])), (xD1, .inl (cD1, 16, .inl (fun _ => 0))), (xD2, .inl (cD2, 16, .inl (fun _ => 0))), (xD3, .inl (cD3, 16, .inl (fun _ => 0))), (xD4, .inl (cD4, 100, .inl (fun _ => 0))), (xD5, .inl (cD5, 100, .inl (fun _ => 0))), (xD6, .inl (cD6, 100, .inl (fun _ => 0)))] ∧ va_O RX6 tE (va_A [(xX, .inr (11, [.ref xT, .int 0, .ref xW, .ref xR, .ref xM, .ref xS, .int (-1), .int 0, .int (-1)])), (xW, .inr (7, [.ref xRo, .ref xPe, .ref xWh, .ref xTr, .ref xCo, .int 0, .ref xAl, .ref xNl, .ref xDr, .int 0, .ref xFa, .int 0, .int 0, .int 0])), (xAl, .inr (0, [.int 0, .ref tD, .int 0])), (xR, .inr (4, [.ref xRt, .ref xRs, .ref xRn, .int 0, .int 0, .ref xRd, .int 0, .int 0, .int 0, .int 0, .int 0, .int 0])), (xRt, .inl (cRt, 301, .inr (.inr (.inr (.inr (fun _ => none)))))), (xRs, .inl (cRs, 301, .inl (fun _ => 0))), (xRn, .inl (cRn, 301, .inl (fun _ => 0))), (xRd, .inr (1, [.int 0, .ref xD1, .ref xD2, .ref xD3, .ref xD4, .ref xD5, .ref xD6])), (xD1, .inl (cD1, 16, .inl (fun _ => 0))), (xD2, .inl (cD2, 16, .inl (fun _ => 0))), (xD3, .inl (cD3, 16, .inl (fun _ => 0))), (xD4, .inl (cD4, 100, .inl (fun _ => 0))), (xD5, .inl (cD5, 100, .inl (fun _ => 0))), (xD6, .inl (cD6, 100, .inl (fun _ => 0)))] sz) U U.heap ∧ va_Z "WalkingTown$Token" "END" "LWalkingTown$Token;" (.ref tE) (va_A [(xX, .inr (11, [.ref xT, .int 0, .ref xW, .ref xR, .ref xM, .ref xS, .int (-1), .int 0, .int (-1)])), (xW, .inr (7, [.ref xRo, .ref xPe, .ref xWh, .ref xTr, .ref xCo, .int 0, .ref xAl, .ref xNl, .ref xDr, .int 0, .ref xFa, .int 0, .int 0, .int 0])), (xAl, .inr (0, [.int 0, .ref tD, .int 0])), (xR, .inr (4, [.ref xRt, .ref xRs, .ref xRn, .int 0, .int 0, .ref xRd, .int 0, .int 0, .int 0, .int 0, .int 0, .int 0])), (xRt, .inl (cRt, 301, .inr (.inr (.inr (.inr (fun _ => none)))))), (xRs, .inl (cRs, 301, .inl (fun _ => 0))), (xRn, .inl (cRn, 301, .inl (fun _ => 0))), (xRd, .inr (1, [.int 0, .ref xD1, .ref xD2, .ref xD3, .ref xD4, .ref xD5, .ref xD6])), (xD1, .inl (cD1, 16, .inl (fun _ => 0))), (xD2, .inl (cD2, 16, .inl (fun _ => 0))), (xD3, .inl (cD3, 16, .inl (fun _ => 0))), (xD4, .inl (cD4, 100, .inl (fun _ => 0))), (xD5, .inl (cD5, 100, .inl (fun _ => 0))), (xD6, .inl (cD6, 100, .inl (fun _ => 0)))] sz) U U.heap ∧ va_Z "java/util/ArrayList" "DEFAULTCAPACITY_EMPTY_ELEMENTDATA" "[Ljava/lang/Object;" (.ref tD) (va_A [(xX, .inr (11, [.ref xT, .int 0, .ref xW, .ref xR, .ref xM, .ref xS, .int (-1), .int 0, .int (-1)])), (xW, .inr (7, [.ref xRo, .ref xPe, .ref xWh, .ref xTr, .ref xCo, .int 0, .ref xAl, .ref xNl, .ref xDr, .int 0, .ref xFa, .int 0, .int 0, .int 0])), (xAl, .inr (0, [.int 0, .ref tD, .int 0])), (xR, .inr (4, [.ref xRt, .ref xRs, .ref xRn, .int 0, .int 0, .ref xRd, .int 0, .int 0, .int 0, .int 0, .int 0, .int 0])), (xRt, .inl (cRt, 301, .inr (.inr (.inr (.inr (fun _ => none)))))), (xRs, .inl (cRs, 301, .inl (fun _ => 0))), (xRn, .inl (cRn, 301, .inl (fun _ => 0))), (xRd, .inr (1, [.int 0, .ref xD1, .ref xD2, .ref xD3, .ref xD4, .ref xD5, .ref xD6])), (xD1, .inl (cD1, 16, .inl (fun _ => 0))), (xD2, .inl (cD2, 16, .inl (fun _ => 0))), (xD3, .inl (cD3, 16, .inl (fun _ => 0))), (xD4, .inl (cD4, 100, .inl (fun _ => 0))), (xD5, .inl (cD5, 100, .inl (fun _ => 0))), (xD6, .inl (cD6, 100, .inl (fun _ => 0)))] sz) U U.heap ∧ va_T (.object "java/lang/Object") tD 0 (fun _ => .null) (va_A [(xX, .inr (11, [.ref xT, .int 0, .ref xW, .ref xR, .ref xM, .ref xS, .int (-1), .int 0, .int (-1)])), (xW, .inr (7, [.ref xRo, .ref xPe, .ref xWh, .ref xTr, .ref xCo, .int 0, .ref xAl, .ref xNl, .ref xDr, .int 0, .ref xFa, .int 0, .int 0, .int 0])), (xAl, .inr (0, [.int 0, .ref tD, .int 0])), (xR, .inr (4, [.ref xRt, .ref xRs, .ref xRn, .int 0, .int 0, .ref xRd, .int 0, .int 0, .int 0, .int 0, .int 0, .int 0])), (xRt, .inl (cRt, 301, .inr (.inr (.inr (.inr (fun _ => none)))))), (xRs, .inl (cRs, 301, .inl (fun _ => 0))), (xRn, .inl (cRn, 301, .inl (fun _ => 0))), (xRd, .inr (1, [.int 0, .ref xD1, .ref xD2, .ref xD3, .ref xD4, .ref xD5, .ref xD6])), (xD1, .inl (cD1, 16, .inl (fun _ => 0))), (xD2, .inl (cD2, 16, .inl (fun _ => 0))), (xD3, .inl (cD3, 16, .inl (fun _ => 0))), (xD4, .inl (cD4, 100, .inl (fun _ => 0))), (xD5, .inl (cD5, 100, .inl (fun _ => 0))), (xD6, .inl (cD6, 100, .inl (fun _ => 0)))] sz) U U.heap ∧ va_AO "java/lang/Object" U ∧ va_Nw (.castable RX0 "java/lang/Object") U)) (va_Qi (fun (r : Int32) (_ : Unit) => r = sp_bylaw a) (fun (_ : Unit) (_ : State) => True) (va_A [(xX, .inr (11, [.ref xT, .int 0, .ref xW, .ref xR, .ref xM, .ref xS, .int (-1), .int 0, .int (-1)])), (xW, .inr (7, [.ref xRo, .ref xPe, .ref xWh, .ref xTr, .ref xCo, .int 0, .ref xAl, .ref xNl, .ref xDr, .int 0, .ref xFa, .int 0, .int 0, .int 0])), (xAl, .inr (0, [.int 0, .ref tD, .int 0])), (xR, .inr (4, [.ref xRt, .ref xRs, .ref xRn, .int 0, .int 0, .ref xRd, .int 0, .int 0, .int 0, .int 0, .int 0, .int 0])), (xRt, .inl (cRt, 301, .inr (.inr (.inr (.inr (fun _ => none)))))), (xRs, .inl (cRs, 301, .inl (fun _ => 0))), (xRn, .inl (cRn, 301, .inl (fun _ => 0))), (xRd, .inr (1, [.int 0, .ref xD1, .ref xD2, .ref xD3, .ref xD4, .ref xD5, .ref xD6])), (xD1, .inl (cD1, 16, .inl (fun _ => 0))), (xD2, .inl (cD2, 16, .inl (fun _ => 0))), (xD3, .inl (cD3, 16, .inl (fun _ => 0))), (xD4, .inl (cD4, 100, .inl (fun _ => 0))), (xD5, .inl (cD5, 100, .inl (fun _ => 0))), (xD6, .inl (cD6, 100, .inl (fun _ => 0)))] sz)) 8 17 (va_A [(xX, .inr (11, [.ref xT, .int 0, .ref xW, .ref xR, .ref xM, .ref xS, .int (-1), .int 0, .int (-1)])), (xW, .inr (7, [.ref xRo, .ref xPe, .ref xWh, .ref xTr, .ref xCo, .int 0, .ref xAl, .ref xNl, .ref xDr, .int 0, .ref xFa, .int 0, .int 0, .int 0])), (xAl, .inr (0, [.int 0, .ref tD, .int 0])), (xR, .inr (4, [.ref xRt, .ref xRs, .ref xRn, .int 0, .int 0, .ref xRd, .int 0, .int 0, .int 0, .int 0, .int 0, .int 0])), (xRt, .inl (cRt, 301, .inr (.inr (.inr (.inr (fun _ => none)))))), (xRs, .inl (cRs, 301, .inl (fun _ => 0))), (xRn, .inl (cRn, 301, .inl (fun _ => 0))), (xRd, .inr (1, [.int 0, .ref xD1, .ref xD2, .ref xD3, .ref xD4, .ref xD5, .ref xD6])), (xD1, .inl (cD1, 16, .inl (fun _ => 0))), (xD2, .inl (cD2, 16, .inl (fun _ => 0))), (xD3, .inl (cD3, 16, .inl (fun _ => 0))), (xD4, .inl (cD4, 100, .inl (fun _ => 0))), (xD5, .inl (cD5, 100, .inl (fun _ => 0))), (xD6, .inl (cD6, 100, .inl (fun _ => 0)))] sz) := by
  refine Met.ofW (cc := cX11_bylaw) (maxL := 3) (ret := (some .int)) (by decide) rfl ?_
  intro p e s m args below meth c s₁ B hml hv
  obtain ⟨rfl, hsz, hP, hK, hD0, hO_E, hZ_E, hZ_dce, hT_D, hAO_O, hN_L⟩ := hv
  have hx := B.exec
  have hb := B.bytes
  have hr := B.returns
  have hts := atoms_spec (ws := (.code yX11_bylaw cX11_bylaw 3 (some .int) :: lw_good)) B.pre
  have hown : s.vm.findClass RX11 = some m.cls := findClass_of_methodNamed B.named
  have hlocks := B.notSynchronized
  subst hsz
  have hD := hD0.self (sz := s.heap.size)
  generalize hAe : va_A [(xX, .inr (11, [.ref xT, .int 0, .ref xW, .ref xR, .ref xM, .ref xS, .int (-1), .int 0, .int (-1)])), (xW, .inr (7, [.ref xRo, .ref xPe, .ref xWh, .ref xTr, .ref xCo, .int 0, .ref xAl, .ref xNl, .ref xDr, .int 0, .ref xFa, .int 0, .int 0, .int 0])), (xAl, .inr (0, [.int 0, .ref tD, .int 0])), (xR, .inr (4, [.ref xRt, .ref xRs, .ref xRn, .int 0, .int 0, .ref xRd, .int 0, .int 0, .int 0, .int 0, .int 0, .int 0])), (xRt, .inl (cRt, 301, .inr (.inr (.inr (.inr (fun _ => none)))))), (xRs, .inl (cRs, 301, .inl (fun _ => 0))), (xRn, .inl (cRn, 301, .inl (fun _ => 0))), (xRd, .inr (1, [.int 0, .ref xD1, .ref xD2, .ref xD3, .ref xD4, .ref xD5, .ref xD6])), (xD1, .inl (cD1, 16, .inl (fun _ => 0))), (xD2, .inl (cD2, 16, .inl (fun _ => 0))), (xD3, .inl (cD3, 16, .inl (fun _ => 0))), (xD4, .inl (cD4, 100, .inl (fun _ => 0))), (xD5, .inl (cD5, 100, .inl (fun _ => 0))), (xD6, .inl (cD6, 100, .inl (fun _ => 0)))] s.heap.size = A at hD ⊢ hO_E hZ_E hZ_dce hT_D
  have hA : ∀ q : Nat, s.heap.size ≤ q → A q := fun q h => by rw [← hAe]; exact Or.inr h
  have hS : va_S A s.heap s.heap [] := va_S.rf
  have hP : va_P (dC, dI) vwCl [(xX, .inr (11, [.ref xT, .int 0, .ref xW, .ref xR, .ref xM, .ref xS, .int (-1), .int 0, .int (-1)])), (xW, .inr (7, [.ref xRo, .ref xPe, .ref xWh, .ref xTr, .ref xCo, .int 0, .ref xAl, .ref xNl, .ref xDr, .int 0, .ref xFa, .int 0, .int 0, .int 0])), (xAl, .inr (0, [.int 0, .ref tD, .int 0])), (xR, .inr (4, [.ref xRt, .ref xRs, .ref xRn, .int 0, .int 0, .ref xRd, .int 0, .int 0, .int 0, .int 0, .int 0, .int 0])), (xRt, .inl (cRt, 301, .inr (.inr (.inr (.inr (fun _ => none)))))), (xRs, .inl (cRs, 301, .inl (fun _ => 0))), (xRn, .inl (cRn, 301, .inl (fun _ => 0))), (xRd, .inr (1, [.int 0, .ref xD1, .ref xD2, .ref xD3, .ref xD4, .ref xD5, .ref xD6])), (xD1, .inl (cD1, 16, .inl (fun _ => 0))), (xD2, .inl (cD2, 16, .inl (fun _ => 0))), (xD3, .inl (cD3, 16, .inl (fun _ => 0))), (xD4, .inl (cD4, 100, .inl (fun _ => 0))), (xD5, .inl (cD5, 100, .inl (fun _ => 0))), (xD6, .inl (cD6, 100, .inl (fun _ => 0)))] s.heap := hP
  have hl := lv_entry ([.ref xX, .int a]) (n := 3) (Nat.le_of_ble_eq_true rfl)
  rw [lg_entry_eq]
  generalize (lg_sl ([.ref xX, .int a]) ++ List.replicate (3 - (lg_sl ([.ref xX, .int a])).length) Slot.unset).toArray = ls at hl ⊢
  have hl : lv_has ls 3 [(0, .ref xX), (1, .int a)] := hl
  refine lv_sipush (v := (-1000)) hx hb dX11_bylaw_0 (by decide) ?_
  refine lv_istore_n (lv' := [(2, .int (-1000)), (0, .ref xX), (1, .int a)]) hx hb dX11_bylaw_3 rfl hl (by decide) rfl (fun ls hl => ?_)
  refine lv_aload_n hx hb dX11_bylaw_4 rfl (lv_at hl 1 rfl) ?_
  refine va_get (D := (dC, dI)) (ci := 11) (v := .ref xW) (C := RX11) (T := TX11) (N := 9) hx hb hts iCX11 hown hK hP 0 rfl rfl 2 (by decide) (hts (.fieldLink RX11 16 "WalkingTown" "town" "LWalkingTown$Town;") (List.mem_cons_of_mem _ kw_3_93)) (fun _ h9 => h9) rfl dX11_bylaw_5 ?_
  refine va_get (D := (dC, dI)) (ci := 7) (v := .ref xAl) (C := RX7) (T := TX7) (N := 14) hx hb hts iCX7 hown hK hP 1 rfl rfl 6 (by decide) (hts (.fieldLink RX11 154 "WalkingTown$Town" "laws" "Ljava/util/ArrayList;") (List.mem_cons_of_mem _ kw_2_84)) (fun _ h9 => h9) rfl dX11_bylaw_8 ?_
  have hPc := hP.sub (ws' := [(xAl, .inr (0, [.int 0, .ref tD, .int 0]))]) [2] rfl
  have hDc := hD.sub (ws' := [(xAl, .inr (0, [.int 0, .ref tD, .int 0]))]) [2] (by decide) rfl
  have hKc := hK.sub (tys' := []) [] rfl
  have hFc := va_free (wc := [(xAl, .inr (0, [.int 0, .ref tD, .int 0]))]) hD hS hA [2] rfl
  refine va_calli (va_runV (As := []) (rest := []) ⟨hx, hb, hml, hown, hts⟩ (c_size l dC dI s.heap.size xAl (.int 0 : Value) (.ref tD : Value)) (cwV 0 hts (gV kw_4_5 kw_4_6 kw_4_7 kw_1_9 kw_4_8) rfl rfl rfl (by decide +kernel) ⟨Nat.le_of_ble_eq_true rfl, Nat.le_of_ble_eq_true rfl⟩) ⟨fun a U g mk q => by obtain ⟨q0, q1, qP, qK, qD⟩ := q; exact ⟨q0, q1, qP, va_K.moved (u := U) (U := U.calling g mk a) (Vm.Alike.refl U.vm) qK, qD⟩, va_recv hKc hPc (ci := 0) (q0 := 0) rfl rfl, fun U hU hW => ⟨rfl, by rw [hU], by rw [hU]; exact hPc, va_K.moved hW.alike hKc, hDc.weaken (fun _ _ _ _ => trivial)⟩⟩ rfl rfl hl.1 rfl (lv_room (Nat.le_of_ble_eq_true rfl)) dX11_bylaw_11 ⟨Nat.le_of_ble_eq_true rfl, Nat.le_of_ble_eq_true rfl⟩) hS (fun q _ h => hFc q h) hFc (fun r_1 u t H1 locs ht hvm hw hB hz1 hk1 hS => ?_)
  obtain ⟨hP1, hK1, hD1⟩ := hB
  rw [ht] at hP1
  have hK1 := va_K.moved hvm.symm hK1
  obtain ⟨hP, hD⟩ := va_join (wr := [(xX, .inr (11, [.ref xT, .int 0, .ref xW, .ref xR, .ref xM, .ref xS, .int (-1), .int 0, .int (-1)])), (xW, .inr (7, [.ref xRo, .ref xPe, .ref xWh, .ref xTr, .ref xCo, .int 0, .ref xAl, .ref xNl, .ref xDr, .int 0, .ref xFa, .int 0, .int 0, .int 0])), (xR, .inr (4, [.ref xRt, .ref xRs, .ref xRn, .int 0, .int 0, .ref xRd, .int 0, .int 0, .int 0, .int 0, .int 0, .int 0])), (xRt, .inl (cRt, 301, .inr (.inr (.inr (.inr (fun _ => none)))))), (xRs, .inl (cRs, 301, .inl (fun _ => 0))), (xRn, .inl (cRn, 301, .inl (fun _ => 0))), (xRd, .inr (1, [.int 0, .ref xD1, .ref xD2, .ref xD3, .ref xD4, .ref xD5, .ref xD6])), (xD1, .inl (cD1, 16, .inl (fun _ => 0))), (xD2, .inl (cD2, 16, .inl (fun _ => 0))), (xD3, .inl (cD3, 16, .inl (fun _ => 0))), (xD4, .inl (cD4, 100, .inl (fun _ => 0))), (xD5, .inl (cD5, 100, .inl (fun _ => 0))), (xD6, .inl (cD6, 100, .inl (fun _ => 0)))]) (w1 := [(xAl, .inr (0, [.int 0, .ref tD, .int 0]))]) hP hD [2] [0, 1, 3, 4, 5, 6, 7, 8, 9, 10, 11, 12, 13] rfl rfl (by decide) (by decide) hk1 hFc hP1 hD1
  have hK := (hK.sub (tys' := [(cRt, .object RX6), (cRs, .int), (cRn, .int), (cD1, .int), (cD2, .int), (cD3, .int), (cD4, .int), (cD5, .int), (cD6, .int)]) [0, 1, 2, 3, 4, 5, 6, 7, 8] rfl).app hK1
  generalize H1 = H at hP hS ⊢
  have hP : va_P (dC, dI) vwCl [(xX, .inr (11, [.ref xT, .int 0, .ref xW, .ref xR, .ref xM, .ref xS, .int (-1), .int 0, .int (-1)])), (xW, .inr (7, [.ref xRo, .ref xPe, .ref xWh, .ref xTr, .ref xCo, .int 0, .ref xAl, .ref xNl, .ref xDr, .int 0, .ref xFa, .int 0, .int 0, .int 0])), (xR, .inr (4, [.ref xRt, .ref xRs, .ref xRn, .int 0, .int 0, .ref xRd, .int 0, .int 0, .int 0, .int 0, .int 0, .int 0])), (xRt, .inl (cRt, 301, .inr (.inr (.inr (.inr (fun _ => none)))))), (xRs, .inl (cRs, 301, .inl (fun _ => 0))), (xRn, .inl (cRn, 301, .inl (fun _ => 0))), (xRd, .inr (1, [.int 0, .ref xD1, .ref xD2, .ref xD3, .ref xD4, .ref xD5, .ref xD6])), (xD1, .inl (cD1, 16, .inl (fun _ => 0))), (xD2, .inl (cD2, 16, .inl (fun _ => 0))), (xD3, .inl (cD3, 16, .inl (fun _ => 0))), (xD4, .inl (cD4, 100, .inl (fun _ => 0))), (xD5, .inl (cD5, 100, .inl (fun _ => 0))), (xD6, .inl (cD6, 100, .inl (fun _ => 0))), (xAl, .inr (0, [.int 0, .ref tD, .int 0]))] H := hP
  have hD : va_D A [(xX, .inr (11, [.ref xT, .int 0, .ref xW, .ref xR, .ref xM, .ref xS, .int (-1), .int 0, .int (-1)])), (xW, .inr (7, [.ref xRo, .ref xPe, .ref xWh, .ref xTr, .ref xCo, .int 0, .ref xAl, .ref xNl, .ref xDr, .int 0, .ref xFa, .int 0, .int 0, .int 0])), (xR, .inr (4, [.ref xRt, .ref xRs, .ref xRn, .int 0, .int 0, .ref xRd, .int 0, .int 0, .int 0, .int 0, .int 0, .int 0])), (xRt, .inl (cRt, 301, .inr (.inr (.inr (.inr (fun _ => none)))))), (xRs, .inl (cRs, 301, .inl (fun _ => 0))), (xRn, .inl (cRn, 301, .inl (fun _ => 0))), (xRd, .inr (1, [.int 0, .ref xD1, .ref xD2, .ref xD3, .ref xD4, .ref xD5, .ref xD6])), (xD1, .inl (cD1, 16, .inl (fun _ => 0))), (xD2, .inl (cD2, 16, .inl (fun _ => 0))), (xD3, .inl (cD3, 16, .inl (fun _ => 0))), (xD4, .inl (cD4, 100, .inl (fun _ => 0))), (xD5, .inl (cD5, 100, .inl (fun _ => 0))), (xD6, .inl (cD6, 100, .inl (fun _ => 0))), (xAl, .inr (0, [.int 0, .ref tD, .int 0]))] := hD
  have hK : va_K (dC, dI) vwCl [(cRt, .object RX6), (cRs, .int), (cRn, .int), (cD1, .int), (cD2, .int), (cD3, .int), (cD4, .int), (cD5, .int), (cD6, .int)] s := hK
  subst hw
  refine lv_bipush (v := 10) hx hb dX11_bylaw_14 (by decide) ?_
  refine lv_icmp_ge (tgt := 116) hx hb dX11_bylaw_16 (by decide) (fun c_3 => ?_) (fun c_3 => ?_)
  · exact absurd c_3 (by decide)
  refine lv_iload_n hx hb dX11_bylaw_19 rfl (lv_at hl 2 rfl) ?_
  refine lv_aload_n hx hb dX11_bylaw_20 rfl (lv_at hl 1 rfl) ?_
  refine va_get (D := (dC, dI)) (ci := 11) (v := .ref xW) (C := RX11) (T := TX11) (N := 9) hx hb hts iCX11 hown hK hP 0 rfl rfl 2 (by decide) (hts (.fieldLink RX11 16 "WalkingTown" "town" "LWalkingTown$Town;") (List.mem_cons_of_mem _ kw_3_93)) (fun _ h9 => h9) rfl dX11_bylaw_21 ?_
  refine va_get (D := (dC, dI)) (ci := 7) (v := .int 0) (C := RX7) (T := TX7) (N := 14) hx hb hts iCX7 hown hK hP 1 rfl rfl 12 (by decide) (hts (.fieldLink RX11 57 "WalkingTown$Town" "today" "I") (List.mem_cons_of_mem _ kw_2_97)) (fun _ h9 => h9) rfl dX11_bylaw_24 ?_
  refine lv_icmp_lt (tgt := 116) hx hb dX11_bylaw_27 (by decide) (fun c_4 => ?_) (fun c_4 => ?_)
  · skip
    refine lv_aload_n hx hb dX11_bylaw_116 rfl (lv_at hl 1 rfl) ?_
    refine lv_iconst (v := 0) hx hb dX11_bylaw_117 (by decide) ?_
    refine va_put (D := (dC, dI)) (ci := 11) (v := .int 0) (ty := .int) (C := RX11) (T := TX11) (N := 9) hx hb hts iCX11 tyX11 tyX11_ok nmX11 hown hK hP hD hS 0 rfl rfl 1 (by decide) (hts (.fieldLink RX11 50 "WalkingTown" "tapeSize" "I") (List.mem_cons_of_mem _ kw_3_92)) (fun _ h9 => h9) rfl (by decide +kernel) rfl rfl (Nat.le_of_ble_eq_true rfl) dX11_bylaw_118 (fun H locs hP hD hS => ?_)
    have hP : va_P (dC, dI) vwCl [(xX, .inr (11, [.ref xT, .int 0, .ref xW, .ref xR, .ref xM, .ref xS, .int (-1), .int 0, .int (-1)])), (xW, .inr (7, [.ref xRo, .ref xPe, .ref xWh, .ref xTr, .ref xCo, .int 0, .ref xAl, .ref xNl, .ref xDr, .int 0, .ref xFa, .int 0, .int 0, .int 0])), (xR, .inr (4, [.ref xRt, .ref xRs, .ref xRn, .int 0, .int 0, .ref xRd, .int 0, .int 0, .int 0, .int 0, .int 0, .int 0])), (xRt, .inl (cRt, 301, .inr (.inr (.inr (.inr (fun _ => none)))))), (xRs, .inl (cRs, 301, .inl (fun _ => 0))), (xRn, .inl (cRn, 301, .inl (fun _ => 0))), (xRd, .inr (1, [.int 0, .ref xD1, .ref xD2, .ref xD3, .ref xD4, .ref xD5, .ref xD6])), (xD1, .inl (cD1, 16, .inl (fun _ => 0))), (xD2, .inl (cD2, 16, .inl (fun _ => 0))), (xD3, .inl (cD3, 16, .inl (fun _ => 0))), (xD4, .inl (cD4, 100, .inl (fun _ => 0))), (xD5, .inl (cD5, 100, .inl (fun _ => 0))), (xD6, .inl (cD6, 100, .inl (fun _ => 0))), (xAl, .inr (0, [.int 0, .ref tD, .int 0]))] H := hP
    have hD : va_D A [(xX, .inr (11, [.ref xT, .int 0, .ref xW, .ref xR, .ref xM, .ref xS, .int (-1), .int 0, .int (-1)])), (xW, .inr (7, [.ref xRo, .ref xPe, .ref xWh, .ref xTr, .ref xCo, .int 0, .ref xAl, .ref xNl, .ref xDr, .int 0, .ref xFa, .int 0, .int 0, .int 0])), (xR, .inr (4, [.ref xRt, .ref xRs, .ref xRn, .int 0, .int 0, .ref xRd, .int 0, .int 0, .int 0, .int 0, .int 0, .int 0])), (xRt, .inl (cRt, 301, .inr (.inr (.inr (.inr (fun _ => none)))))), (xRs, .inl (cRs, 301, .inl (fun _ => 0))), (xRn, .inl (cRn, 301, .inl (fun _ => 0))), (xRd, .inr (1, [.int 0, .ref xD1, .ref xD2, .ref xD3, .ref xD4, .ref xD5, .ref xD6])), (xD1, .inl (cD1, 16, .inl (fun _ => 0))), (xD2, .inl (cD2, 16, .inl (fun _ => 0))), (xD3, .inl (cD3, 16, .inl (fun _ => 0))), (xD4, .inl (cD4, 100, .inl (fun _ => 0))), (xD5, .inl (cD5, 100, .inl (fun _ => 0))), (xD6, .inl (cD6, 100, .inl (fun _ => 0))), (xAl, .inr (0, [.int 0, .ref tD, .int 0]))] := hD
    refine lv_iload_n hx hb dX11_bylaw_121 rfl (lv_at hl 0 rfl) ?_
    refine W.widen (k := 8) (n := 17) (Nat.le_of_ble_eq_true rfl) (Nat.le_of_ble_eq_true rfl) ?_
    exact W.iret (v := (-1000)) hx hb hr (fun t ht hW => ⟨⟨(-1000), (), rfl, (by first | (simp [sp_bylaw, c_3, c_4]; done) | (have q0 := c_3; have q1 := c_4; try simp only [Int32.lt_iff_toInt_lt, Int32.le_iff_toInt_le, my_n0, my_n1, my_n12, my_n99, my_n199, my_n200, my_n100000, my_nm1, my_n7] at q0 q1; simp only [sp_bylaw, Int32.lt_iff_toInt_lt, Int32.le_iff_toInt_le, my_n0, my_n1, my_n12, my_n99, my_n199, my_n200, my_n100000, my_nm1, my_n7]; (repeat' split) <;> first | rfl | omega)), trivial⟩, hS.F ht⟩) hS.2.2 dX11_bylaw_122
  · skip
    refine lv_iload_n hx hb dX11_bylaw_30 rfl (lv_at hl 2 rfl) ?_
    refine lv_sipush (v := 199) hx hb dX11_bylaw_31 (by decide) ?_
    refine lv_icmp_gt (tgt := 116) hx hb dX11_bylaw_34 (by decide) (fun c_5 => ?_) (fun c_5 => ?_)
    · skip
      refine lv_aload_n hx hb dX11_bylaw_116 rfl (lv_at hl 1 rfl) ?_
      refine lv_iconst (v := 0) hx hb dX11_bylaw_117 (by decide) ?_
      refine va_put (D := (dC, dI)) (ci := 11) (v := .int 0) (ty := .int) (C := RX11) (T := TX11) (N := 9) hx hb hts iCX11 tyX11 tyX11_ok nmX11 hown hK hP hD hS 0 rfl rfl 1 (by decide) (hts (.fieldLink RX11 50 "WalkingTown" "tapeSize" "I") (List.mem_cons_of_mem _ kw_3_92)) (fun _ h9 => h9) rfl (by decide +kernel) rfl rfl (Nat.le_of_ble_eq_true rfl) dX11_bylaw_118 (fun H locs hP hD hS => ?_)
      have hP : va_P (dC, dI) vwCl [(xX, .inr (11, [.ref xT, .int 0, .ref xW, .ref xR, .ref xM, .ref xS, .int (-1), .int 0, .int (-1)])), (xW, .inr (7, [.ref xRo, .ref xPe, .ref xWh, .ref xTr, .ref xCo, .int 0, .ref xAl, .ref xNl, .ref xDr, .int 0, .ref xFa, .int 0, .int 0, .int 0])), (xR, .inr (4, [.ref xRt, .ref xRs, .ref xRn, .int 0, .int 0, .ref xRd, .int 0, .int 0, .int 0, .int 0, .int 0, .int 0])), (xRt, .inl (cRt, 301, .inr (.inr (.inr (.inr (fun _ => none)))))), (xRs, .inl (cRs, 301, .inl (fun _ => 0))), (xRn, .inl (cRn, 301, .inl (fun _ => 0))), (xRd, .inr (1, [.int 0, .ref xD1, .ref xD2, .ref xD3, .ref xD4, .ref xD5, .ref xD6])), (xD1, .inl (cD1, 16, .inl (fun _ => 0))), (xD2, .inl (cD2, 16, .inl (fun _ => 0))), (xD3, .inl (cD3, 16, .inl (fun _ => 0))), (xD4, .inl (cD4, 100, .inl (fun _ => 0))), (xD5, .inl (cD5, 100, .inl (fun _ => 0))), (xD6, .inl (cD6, 100, .inl (fun _ => 0))), (xAl, .inr (0, [.int 0, .ref tD, .int 0]))] H := hP
      have hD : va_D A [(xX, .inr (11, [.ref xT, .int 0, .ref xW, .ref xR, .ref xM, .ref xS, .int (-1), .int 0, .int (-1)])), (xW, .inr (7, [.ref xRo, .ref xPe, .ref xWh, .ref xTr, .ref xCo, .int 0, .ref xAl, .ref xNl, .ref xDr, .int 0, .ref xFa, .int 0, .int 0, .int 0])), (xR, .inr (4, [.ref xRt, .ref xRs, .ref xRn, .int 0, .int 0, .ref xRd, .int 0, .int 0, .int 0, .int 0, .int 0, .int 0])), (xRt, .inl (cRt, 301, .inr (.inr (.inr (.inr (fun _ => none)))))), (xRs, .inl (cRs, 301, .inl (fun _ => 0))), (xRn, .inl (cRn, 301, .inl (fun _ => 0))), (xRd, .inr (1, [.int 0, .ref xD1, .ref xD2, .ref xD3, .ref xD4, .ref xD5, .ref xD6])), (xD1, .inl (cD1, 16, .inl (fun _ => 0))), (xD2, .inl (cD2, 16, .inl (fun _ => 0))), (xD3, .inl (cD3, 16, .inl (fun _ => 0))), (xD4, .inl (cD4, 100, .inl (fun _ => 0))), (xD5, .inl (cD5, 100, .inl (fun _ => 0))), (xD6, .inl (cD6, 100, .inl (fun _ => 0))), (xAl, .inr (0, [.int 0, .ref tD, .int 0]))] := hD
      refine lv_iload_n hx hb dX11_bylaw_121 rfl (lv_at hl 0 rfl) ?_
      refine W.widen (k := 8) (n := 17) (Nat.le_of_ble_eq_true rfl) (Nat.le_of_ble_eq_true rfl) ?_
      exact W.iret (v := (-1000)) hx hb hr (fun t ht hW => ⟨⟨(-1000), (), rfl, (by first | (simp [sp_bylaw, c_3, c_4, c_5]; done) | (have q0 := c_3; have q1 := c_4; have q2 := c_5; try simp only [Int32.lt_iff_toInt_lt, Int32.le_iff_toInt_le, my_n0, my_n1, my_n12, my_n99, my_n199, my_n200, my_n100000, my_nm1, my_n7] at q0 q1 q2; simp only [sp_bylaw, Int32.lt_iff_toInt_lt, Int32.le_iff_toInt_le, my_n0, my_n1, my_n12, my_n99, my_n199, my_n200, my_n100000, my_nm1, my_n7]; (repeat' split) <;> first | rfl | omega)), trivial⟩, hS.F ht⟩) hS.2.2 dX11_bylaw_122
    · skip
      refine lv_aload_n hx hb dX11_bylaw_37 rfl (lv_at hl 1 rfl) ?_
      refine va_get (D := (dC, dI)) (ci := 11) (v := .ref xR) (C := RX11) (T := TX11) (N := 9) hx hb hts iCX11 hown hK hP 0 rfl rfl 3 (by decide) (hts (.fieldLink RX11 23 "WalkingTown" "reader" "LWalkingTown$Reader;") (List.mem_cons_of_mem _ kw_3_94)) (fun _ h9 => h9) rfl dX11_bylaw_38 ?_
      refine lv_aload_n hx hb dX11_bylaw_41 rfl (lv_at hl 1 rfl) ?_
      refine va_get (D := (dC, dI)) (ci := 11) (v := .ref xT) (C := RX11) (T := TX11) (N := 9) hx hb hts iCX11 hown hK hP 0 rfl rfl 0 (by decide) (hts (.fieldLink RX11 9 "WalkingTown" "tape" "[I") (List.mem_cons_of_mem _ kw_3_91)) (fun _ h9 => h9) rfl dX11_bylaw_42 ?_
      refine lv_aload_n hx hb dX11_bylaw_45 rfl (lv_at hl 1 rfl) ?_
      refine va_get (D := (dC, dI)) (ci := 11) (v := .int 0) (C := RX11) (T := TX11) (N := 9) hx hb hts iCX11 hown hK hP 0 rfl rfl 1 (by decide) (hts (.fieldLink RX11 50 "WalkingTown" "tapeSize" "I") (List.mem_cons_of_mem _ kw_3_92)) (fun _ h9 => h9) rfl dX11_bylaw_46 ?_
      have hPc := hP.sub (ws' := [(xR, .inr (4, [.ref xRt, .ref xRs, .ref xRn, .int 0, .int 0, .ref xRd, .int 0, .int 0, .int 0, .int 0, .int 0, .int 0])), (xRt, .inl (cRt, 301, .inr (.inr (.inr (.inr (fun _ => none)))))), (xRs, .inl (cRs, 301, .inl (fun _ => 0))), (xRn, .inl (cRn, 301, .inl (fun _ => 0)))]) [2, 3, 4, 5] rfl
      have hDc := hD.sub (ws' := [(xR, .inr (4, [.ref xRt, .ref xRs, .ref xRn, .int 0, .int 0, .ref xRd, .int 0, .int 0, .int 0, .int 0, .int 0, .int 0])), (xRt, .inl (cRt, 301, .inr (.inr (.inr (.inr (fun _ => none)))))), (xRs, .inl (cRs, 301, .inl (fun _ => 0))), (xRn, .inl (cRn, 301, .inl (fun _ => 0)))]) [2, 3, 4, 5] (by decide) rfl
      have hKc := hK.sub (tys' := [(cRt, .object RX6), (cRs, .int), (cRn, .int)]) [0, 1, 2] rfl
      have hFc := va_free (wc := [(xR, .inr (4, [.ref xRt, .ref xRs, .ref xRn, .int 0, .int 0, .ref xRd, .int 0, .int 0, .int 0, .int 0, .int 0, .int 0])), (xRt, .inl (cRt, 301, .inr (.inr (.inr (.inr (fun _ => none)))))), (xRs, .inl (cRs, 301, .inl (fun _ => 0))), (xRn, .inl (cRn, 301, .inl (fun _ => 0)))]) hD hS hA [2, 3, 4, 5] rfl
      refine va_callv (va_runV (As := [.ref xT, .int 0]) (rest := []) ⟨hx, hb, hml, hown, hts⟩ (c_read l dC dI H.size tE xT xR xRt xRs xRn xRd cRt cRs cRn) (cwV 2 hts (gV kw_4_9 kw_4_10 kw_4_11 kw_1_11 kw_4_12) rfl rfl rfl (by decide +kernel) ⟨Nat.le_of_ble_eq_true rfl, Nat.le_of_ble_eq_true rfl⟩) ⟨fun a U g mk q => by obtain ⟨q0, q1, qP, qK, qD, qZ0, qZ1⟩ := q; exact ⟨q0, q1, qP, va_K.moved (u := U) (U := U.calling g mk a) (Vm.Alike.refl U.vm) qK, qD, qZ0.moved (u := U) (U := U.calling g mk a) (Vm.Alike.refl U.vm), qZ1.moved (u := U) (U := U.calling g mk a) (Vm.Alike.refl U.vm)⟩, va_recv hKc hPc (ci := 4) (q0 := 0) rfl rfl, fun U hU hW => ⟨rfl, by rw [hU], by rw [hU]; exact hPc, va_K.moved hW.alike hKc, hDc.weaken (fun _ _ _ _ => trivial), by rw [hU]; exact ((hO_E.kept hS.2.1).narrow hFc).moved hW.alike, by rw [hU]; exact ((hZ_E.kept hS.2.1).narrow hFc).moved hW.alike⟩⟩ rfl rfl hl.1 rfl (lv_room (Nat.le_of_ble_eq_true rfl)) dX11_bylaw_49 ⟨Nat.le_of_ble_eq_true rfl, Nat.le_of_ble_eq_true rfl⟩) hS (fun q _ h => hFc q h) hFc (fun u t H1 locs ht hvm hw hB hz1 hk1 hS => ?_)
      obtain ⟨hP1, hK1, hD1⟩ := hB
      rw [ht] at hP1
      have hK1 := va_K.moved hvm.symm hK1
      obtain ⟨hP, hD⟩ := va_join (wr := [(xX, .inr (11, [.ref xT, .int 0, .ref xW, .ref xR, .ref xM, .ref xS, .int (-1), .int 0, .int (-1)])), (xW, .inr (7, [.ref xRo, .ref xPe, .ref xWh, .ref xTr, .ref xCo, .int 0, .ref xAl, .ref xNl, .ref xDr, .int 0, .ref xFa, .int 0, .int 0, .int 0])), (xRd, .inr (1, [.int 0, .ref xD1, .ref xD2, .ref xD3, .ref xD4, .ref xD5, .ref xD6])), (xD1, .inl (cD1, 16, .inl (fun _ => 0))), (xD2, .inl (cD2, 16, .inl (fun _ => 0))), (xD3, .inl (cD3, 16, .inl (fun _ => 0))), (xD4, .inl (cD4, 100, .inl (fun _ => 0))), (xD5, .inl (cD5, 100, .inl (fun _ => 0))), (xD6, .inl (cD6, 100, .inl (fun _ => 0))), (xAl, .inr (0, [.int 0, .ref tD, .int 0]))]) (w1 := [(xR, .inr (4, [.ref xRt, .ref xRs, .ref xRn, .int 1, .int 0, .ref xRd, .int 0, .int 0, .int 0, .int 0, .int 0, .int 0]))]) hP hD [2, 3, 4, 5] [0, 1, 6, 7, 8, 9, 10, 11, 12, 13] rfl rfl (by decide) (by decide) hk1 hFc hP1 hD1
      have hK := (hK.sub (tys' := [(cD1, .int), (cD2, .int), (cD3, .int), (cD4, .int), (cD5, .int), (cD6, .int)]) [3, 4, 5, 6, 7, 8] rfl).app hK1
      generalize H1 = H at hP hS ⊢
      have hP : va_P (dC, dI) vwCl [(xX, .inr (11, [.ref xT, .int 0, .ref xW, .ref xR, .ref xM, .ref xS, .int (-1), .int 0, .int (-1)])), (xW, .inr (7, [.ref xRo, .ref xPe, .ref xWh, .ref xTr, .ref xCo, .int 0, .ref xAl, .ref xNl, .ref xDr, .int 0, .ref xFa, .int 0, .int 0, .int 0])), (xRd, .inr (1, [.int 0, .ref xD1, .ref xD2, .ref xD3, .ref xD4, .ref xD5, .ref xD6])), (xD1, .inl (cD1, 16, .inl (fun _ => 0))), (xD2, .inl (cD2, 16, .inl (fun _ => 0))), (xD3, .inl (cD3, 16, .inl (fun _ => 0))), (xD4, .inl (cD4, 100, .inl (fun _ => 0))), (xD5, .inl (cD5, 100, .inl (fun _ => 0))), (xD6, .inl (cD6, 100, .inl (fun _ => 0))), (xAl, .inr (0, [.int 0, .ref tD, .int 0])), (xR, .inr (4, [.ref xRt, .ref xRs, .ref xRn, .int 1, .int 0, .ref xRd, .int 0, .int 0, .int 0, .int 0, .int 0, .int 0]))] H := hP
      have hD : va_D A [(xX, .inr (11, [.ref xT, .int 0, .ref xW, .ref xR, .ref xM, .ref xS, .int (-1), .int 0, .int (-1)])), (xW, .inr (7, [.ref xRo, .ref xPe, .ref xWh, .ref xTr, .ref xCo, .int 0, .ref xAl, .ref xNl, .ref xDr, .int 0, .ref xFa, .int 0, .int 0, .int 0])), (xRd, .inr (1, [.int 0, .ref xD1, .ref xD2, .ref xD3, .ref xD4, .ref xD5, .ref xD6])), (xD1, .inl (cD1, 16, .inl (fun _ => 0))), (xD2, .inl (cD2, 16, .inl (fun _ => 0))), (xD3, .inl (cD3, 16, .inl (fun _ => 0))), (xD4, .inl (cD4, 100, .inl (fun _ => 0))), (xD5, .inl (cD5, 100, .inl (fun _ => 0))), (xD6, .inl (cD6, 100, .inl (fun _ => 0))), (xAl, .inr (0, [.int 0, .ref tD, .int 0])), (xR, .inr (4, [.ref xRt, .ref xRs, .ref xRn, .int 1, .int 0, .ref xRd, .int 0, .int 0, .int 0, .int 0, .int 0, .int 0]))] := hD
      have hK : va_K (dC, dI) vwCl [(cD1, .int), (cD2, .int), (cD3, .int), (cD4, .int), (cD5, .int), (cD6, .int)] s := hK
      refine lv_aload_n hx hb dX11_bylaw_52 rfl (lv_at hl 1 rfl) ?_
      refine lv_aload_n hx hb dX11_bylaw_53 rfl (lv_at hl 1 rfl) ?_
      refine va_get (D := (dC, dI)) (ci := 11) (v := .ref xR) (C := RX11) (T := TX11) (N := 9) hx hb hts iCX11 hown hK hP 0 rfl rfl 3 (by decide) (hts (.fieldLink RX11 23 "WalkingTown" "reader" "LWalkingTown$Reader;") (List.mem_cons_of_mem _ kw_3_94)) (fun _ h9 => h9) rfl dX11_bylaw_54 ?_
      refine va_get (D := (dC, dI)) (ci := 4) (v := .int 0) (C := RX3) (T := TX3) (N := 12) hx hb hts iCX3 hown hK hP 10 rfl rfl 10 (by decide) (hts (.fieldLink RX11 168 "WalkingTown$Reader" "faultKind" "I") (List.mem_cons_of_mem _ kw_2_153)) (fun _ h9 => h9) rfl dX11_bylaw_57 ?_
      refine va_put (D := (dC, dI)) (ci := 11) (v := .int 0) (ty := .int) (C := RX11) (T := TX11) (N := 9) hx hb hts iCX11 tyX11 tyX11_ok nmX11 hown hK hP hD hS 0 rfl rfl 7 (by decide) (hts (.fieldLink RX11 171 "WalkingTown" "faultKind" "I") (List.mem_cons_of_mem _ kw_3_98)) (fun _ h9 => h9) rfl (by decide +kernel) rfl rfl (Nat.le_of_ble_eq_true rfl) dX11_bylaw_60 (fun H locs hP hD hS => ?_)
      have hP : va_P (dC, dI) vwCl [(xX, .inr (11, [.ref xT, .int 0, .ref xW, .ref xR, .ref xM, .ref xS, .int (-1), .int 0, .int (-1)])), (xW, .inr (7, [.ref xRo, .ref xPe, .ref xWh, .ref xTr, .ref xCo, .int 0, .ref xAl, .ref xNl, .ref xDr, .int 0, .ref xFa, .int 0, .int 0, .int 0])), (xRd, .inr (1, [.int 0, .ref xD1, .ref xD2, .ref xD3, .ref xD4, .ref xD5, .ref xD6])), (xD1, .inl (cD1, 16, .inl (fun _ => 0))), (xD2, .inl (cD2, 16, .inl (fun _ => 0))), (xD3, .inl (cD3, 16, .inl (fun _ => 0))), (xD4, .inl (cD4, 100, .inl (fun _ => 0))), (xD5, .inl (cD5, 100, .inl (fun _ => 0))), (xD6, .inl (cD6, 100, .inl (fun _ => 0))), (xAl, .inr (0, [.int 0, .ref tD, .int 0])), (xR, .inr (4, [.ref xRt, .ref xRs, .ref xRn, .int 1, .int 0, .ref xRd, .int 0, .int 0, .int 0, .int 0, .int 0, .int 0]))] H := hP
      have hD : va_D A [(xX, .inr (11, [.ref xT, .int 0, .ref xW, .ref xR, .ref xM, .ref xS, .int (-1), .int 0, .int (-1)])), (xW, .inr (7, [.ref xRo, .ref xPe, .ref xWh, .ref xTr, .ref xCo, .int 0, .ref xAl, .ref xNl, .ref xDr, .int 0, .ref xFa, .int 0, .int 0, .int 0])), (xRd, .inr (1, [.int 0, .ref xD1, .ref xD2, .ref xD3, .ref xD4, .ref xD5, .ref xD6])), (xD1, .inl (cD1, 16, .inl (fun _ => 0))), (xD2, .inl (cD2, 16, .inl (fun _ => 0))), (xD3, .inl (cD3, 16, .inl (fun _ => 0))), (xD4, .inl (cD4, 100, .inl (fun _ => 0))), (xD5, .inl (cD5, 100, .inl (fun _ => 0))), (xD6, .inl (cD6, 100, .inl (fun _ => 0))), (xAl, .inr (0, [.int 0, .ref tD, .int 0])), (xR, .inr (4, [.ref xRt, .ref xRs, .ref xRn, .int 1, .int 0, .ref xRd, .int 0, .int 0, .int 0, .int 0, .int 0, .int 0]))] := hD
      refine lv_aload_n hx hb dX11_bylaw_63 rfl (lv_at hl 1 rfl) ?_
      refine va_get (D := (dC, dI)) (ci := 11) (v := .int 0) (C := RX11) (T := TX11) (N := 9) hx hb hts iCX11 hown hK hP 0 rfl rfl 7 (by decide) (hts (.fieldLink RX11 171 "WalkingTown" "faultKind" "I") (List.mem_cons_of_mem _ kw_3_98)) (fun _ h9 => h9) rfl dX11_bylaw_64 ?_
      refine lv_if_ne (tgt := 80) hx hb dX11_bylaw_67 (by decide) (fun c_7 => ?_) (fun c_7 => ?_)
      · exact (c_7 (by decide)).elim
      refine lv_aload_n hx hb dX11_bylaw_70 rfl (lv_at hl 1 rfl) ?_
      refine va_get (D := (dC, dI)) (ci := 11) (v := .ref xR) (C := RX11) (T := TX11) (N := 9) hx hb hts iCX11 hown hK hP 0 rfl rfl 3 (by decide) (hts (.fieldLink RX11 23 "WalkingTown" "reader" "LWalkingTown$Reader;") (List.mem_cons_of_mem _ kw_3_94)) (fun _ h9 => h9) rfl dX11_bylaw_71 ?_
      refine va_get (D := (dC, dI)) (ci := 4) (v := .int 0) (C := RX3) (T := TX3) (N := 12) hx hb hts iCX3 hown hK hP 10 rfl rfl 6 (by decide) (hts (.fieldLink RX11 172 "WalkingTown$Reader" "lines" "I") (List.mem_cons_of_mem _ kw_2_148)) (fun _ h9 => h9) rfl dX11_bylaw_74 ?_
      refine lv_goto (tgt := 89) hx hb dX11_bylaw_77 (by decide) ?_
      refine lv_istore_n (lv' := [(2, .int 0), (0, .ref xX), (1, .int a)]) hx hb dX11_bylaw_89 rfl hl (by decide) rfl (fun ls hl => ?_)
      refine lv_aload_n hx hb dX11_bylaw_90 rfl (lv_at hl 1 rfl) ?_
      refine va_get (D := (dC, dI)) (ci := 11) (v := .int 0) (C := RX11) (T := TX11) (N := 9) hx hb hts iCX11 hown hK hP 0 rfl rfl 7 (by decide) (hts (.fieldLink RX11 171 "WalkingTown" "faultKind" "I") (List.mem_cons_of_mem _ kw_3_98)) (fun _ h9 => h9) rfl dX11_bylaw_91 ?_
      refine lv_if_ne (tgt := 116) hx hb dX11_bylaw_94 (by decide) (fun c_8 => ?_) (fun c_8 => ?_)
      · exact (c_8 (by decide)).elim
      refine lv_aload_n hx hb dX11_bylaw_97 rfl (lv_at hl 1 rfl) ?_
      refine va_get (D := (dC, dI)) (ci := 11) (v := .ref xW) (C := RX11) (T := TX11) (N := 9) hx hb hts iCX11 hown hK hP 0 rfl rfl 2 (by decide) (hts (.fieldLink RX11 16 "WalkingTown" "town" "LWalkingTown$Town;") (List.mem_cons_of_mem _ kw_3_93)) (fun _ h9 => h9) rfl dX11_bylaw_98 ?_
      refine va_get (D := (dC, dI)) (ci := 7) (v := .ref xAl) (C := RX7) (T := TX7) (N := 14) hx hb hts iCX7 hown hK hP 1 rfl rfl 6 (by decide) (hts (.fieldLink RX11 154 "WalkingTown$Town" "laws" "Ljava/util/ArrayList;") (List.mem_cons_of_mem _ kw_2_84)) (fun _ h9 => h9) rfl dX11_bylaw_101 ?_
      refine lv_aload_n hx hb dX11_bylaw_104 rfl (lv_at hl 1 rfl) ?_
      refine va_get (D := (dC, dI)) (ci := 11) (v := .ref xR) (C := RX11) (T := TX11) (N := 9) hx hb hts iCX11 hown hK hP 0 rfl rfl 3 (by decide) (hts (.fieldLink RX11 23 "WalkingTown" "reader" "LWalkingTown$Reader;") (List.mem_cons_of_mem _ kw_3_94)) (fun _ h9 => h9) rfl dX11_bylaw_105 ?_
      refine lv_iload_n hx hb dX11_bylaw_108 rfl (lv_at hl 2 rfl) ?_
      have hPc := hP.sub (ws' := [(xR, .inr (4, [.ref xRt, .ref xRs, .ref xRn, .int 1, .int 0, .ref xRd, .int 0, .int 0, .int 0, .int 0, .int 0, .int 0])), (xRd, .inr (1, [.int 0, .ref xD1, .ref xD2, .ref xD3, .ref xD4, .ref xD5, .ref xD6])), (xD1, .inl (cD1, 16, .inl (fun _ => 0))), (xD2, .inl (cD2, 16, .inl (fun _ => 0))), (xD3, .inl (cD3, 16, .inl (fun _ => 0))), (xD4, .inl (cD4, 100, .inl (fun _ => 0))), (xD5, .inl (cD5, 100, .inl (fun _ => 0))), (xD6, .inl (cD6, 100, .inl (fun _ => 0)))]) [10, 2, 3, 4, 5, 6, 7, 8] rfl
      have hDc := hD.sub (ws' := [(xR, .inr (4, [.ref xRt, .ref xRs, .ref xRn, .int 1, .int 0, .ref xRd, .int 0, .int 0, .int 0, .int 0, .int 0, .int 0])), (xRd, .inr (1, [.int 0, .ref xD1, .ref xD2, .ref xD3, .ref xD4, .ref xD5, .ref xD6])), (xD1, .inl (cD1, 16, .inl (fun _ => 0))), (xD2, .inl (cD2, 16, .inl (fun _ => 0))), (xD3, .inl (cD3, 16, .inl (fun _ => 0))), (xD4, .inl (cD4, 100, .inl (fun _ => 0))), (xD5, .inl (cD5, 100, .inl (fun _ => 0))), (xD6, .inl (cD6, 100, .inl (fun _ => 0)))]) [10, 2, 3, 4, 5, 6, 7, 8] (by decide) rfl
      have hKc := hK.sub (tys' := [(cD1, .int), (cD2, .int), (cD3, .int), (cD4, .int), (cD5, .int), (cD6, .int)]) [0, 1, 2, 3, 4, 5] rfl
      have hFc := va_free (wc := [(xR, .inr (4, [.ref xRt, .ref xRs, .ref xRn, .int 1, .int 0, .ref xRd, .int 0, .int 0, .int 0, .int 0, .int 0, .int 0])), (xRd, .inr (1, [.int 0, .ref xD1, .ref xD2, .ref xD3, .ref xD4, .ref xD5, .ref xD6])), (xD1, .inl (cD1, 16, .inl (fun _ => 0))), (xD2, .inl (cD2, 16, .inl (fun _ => 0))), (xD3, .inl (cD3, 16, .inl (fun _ => 0))), (xD4, .inl (cD4, 100, .inl (fun _ => 0))), (xD5, .inl (cD5, 100, .inl (fun _ => 0))), (xD6, .inl (cD6, 100, .inl (fun _ => 0)))]) hD hS hA [10, 2, 3, 4, 5, 6, 7, 8] rfl
      refine va_callr (va_runV (As := [.int a]) (rest := [.ref xAl]) ⟨hx, hb, hml, hown, hts⟩ (c_cutOut l dC dI H.size a xR xRt xRs xRn xRd xD1 xD2 xD3 xD4 xD5 xD6 cD1 cD2 cD3 cD4 cD5 cD6) (cwV 1 hts (gV kw_4_166 kw_4_167 kw_4_168 kw_1_11 kw_4_169) rfl rfl rfl (by decide +kernel) ⟨Nat.le_of_ble_eq_true rfl, Nat.le_of_ble_eq_true rfl⟩) ⟨fun a U g mk q => by obtain ⟨q0, q1, qP, qK, qD⟩ := q; exact ⟨q0, q1, qP, va_K.moved (u := U) (U := U.calling g mk a) (Vm.Alike.refl U.vm) qK, qD⟩, va_recv hKc hPc (ci := 4) (q0 := 0) rfl rfl, fun U hU hW => ⟨rfl, by rw [hU], by rw [hU]; exact hPc, va_K.moved hW.alike hKc, hDc.weaken (fun _ _ _ _ => trivial)⟩⟩ rfl rfl hl.1 rfl (lv_room (Nat.le_of_ble_eq_true rfl)) dX11_bylaw_109 ⟨Nat.le_of_ble_eq_true rfl, Nat.le_of_ble_eq_true rfl⟩) hS (fun q _ h => hFc q h) hFc (fun u r_9 t H1 locs ht hvm hw hB hz1 hk1 hS => ?_)
      obtain ⟨u_10, u_11, u_12, u_13, u_14, u_15, hP1, hK1, hD1⟩ := hB
      rw [ht] at hP1
      have hK1 := va_K.moved hvm.symm hK1
      obtain ⟨hP, hD⟩ := va_join (wr := [(xX, .inr (11, [.ref xT, .int 0, .ref xW, .ref xR, .ref xM, .ref xS, .int (-1), .int 0, .int (-1)])), (xW, .inr (7, [.ref xRo, .ref xPe, .ref xWh, .ref xTr, .ref xCo, .int 0, .ref xAl, .ref xNl, .ref xDr, .int 0, .ref xFa, .int 0, .int 0, .int 0])), (xAl, .inr (0, [.int 0, .ref tD, .int 0]))]) (w1 := [(r_9, .inr (1, [.int a, u_10, u_11, u_12, u_13, u_14, u_15]))]) hP hD [10, 2, 3, 4, 5, 6, 7, 8] [0, 1, 9] rfl rfl (by decide) (by decide) hk1 hFc hP1 hD1
      have hK := (hK.sub (tys' := []) [] rfl).app hK1
      generalize H1 = H at hP hS ⊢
      have hP : va_P (dC, dI) vwCl [(xX, .inr (11, [.ref xT, .int 0, .ref xW, .ref xR, .ref xM, .ref xS, .int (-1), .int 0, .int (-1)])), (xW, .inr (7, [.ref xRo, .ref xPe, .ref xWh, .ref xTr, .ref xCo, .int 0, .ref xAl, .ref xNl, .ref xDr, .int 0, .ref xFa, .int 0, .int 0, .int 0])), (xAl, .inr (0, [.int 0, .ref tD, .int 0])), (r_9, .inr (1, [.int a, u_10, u_11, u_12, u_13, u_14, u_15]))] H := hP
      have hD : va_D A [(xX, .inr (11, [.ref xT, .int 0, .ref xW, .ref xR, .ref xM, .ref xS, .int (-1), .int 0, .int (-1)])), (xW, .inr (7, [.ref xRo, .ref xPe, .ref xWh, .ref xTr, .ref xCo, .int 0, .ref xAl, .ref xNl, .ref xDr, .int 0, .ref xFa, .int 0, .int 0, .int 0])), (xAl, .inr (0, [.int 0, .ref tD, .int 0])), (r_9, .inr (1, [.int a, u_10, u_11, u_12, u_13, u_14, u_15]))] := hD
      have hK : va_K (dC, dI) vwCl [] s := hK
      refine W.widen (k := 7) (n := 7) (Nat.le_of_ble_eq_true rfl) (Nat.le_of_ble_eq_true rfl) ?_
      have hPc := hP.sub (ws' := [(xAl, .inr (0, [.int 0, .ref tD, .int 0])), (r_9, .inr (1, [.int a, u_10, u_11, u_12, u_13, u_14, u_15]))]) [2, 3] rfl
      have hDc := hD.sub (ws' := [(xAl, .inr (0, [.int 0, .ref tD, .int 0])), (r_9, .inr (1, [.int a, u_10, u_11, u_12, u_13, u_14, u_15]))]) [2, 3] (by decide) rfl
      have hKc := hK.sub (tys' := []) [] rfl
      have hFc := va_free (wc := [(xAl, .inr (0, [.int 0, .ref tD, .int 0])), (r_9, .inr (1, [.int a, u_10, u_11, u_12, u_13, u_14, u_15]))]) hD hS hA [2, 3] rfl
      refine va_calli (va_runV (As := [.ref r_9]) (rest := []) ⟨hx, hb, hml, hown, hts⟩ (c_add l dC dI H.size tD xAl r_9 a (u_10 : Value) (u_11 : Value) (u_12 : Value) (u_13 : Value) (u_14 : Value) (u_15 : Value)) (cwV 1 hts (gV kw_4_173 kw_4_174 kw_4_175 kw_1_9 kw_4_176) rfl rfl rfl (by decide +kernel) ⟨Nat.le_of_ble_eq_true rfl, Nat.le_of_ble_eq_true rfl⟩) ⟨fun a U g mk q => by obtain ⟨q0, q1, qP, qK, qD, qZ0, qZ1, qZ2, qZ3⟩ := q; exact ⟨q0, q1, qP, va_K.moved (u := U) (U := U.calling g mk a) (Vm.Alike.refl U.vm) qK, qD, qZ0.moved (u := U) (U := U.calling g mk a) (Vm.Alike.refl U.vm), qZ1.moved (u := U) (U := U.calling g mk a) (Vm.Alike.refl U.vm), va_AO.moved (u := U) (U := U.calling g mk a) (Vm.Alike.refl U.vm) qZ2, va_Nw.same (u := U) (U := U.calling g mk a) rfl rfl qZ3⟩, va_recv hKc hPc (ci := 0) (q0 := 0) rfl rfl, fun U hU hW => ⟨rfl, by rw [hU], by rw [hU]; exact hPc, va_K.moved hW.alike hKc, hDc.weaken (fun _ _ _ _ => trivial), by rw [hU]; exact ((hZ_dce.kept hS.2.1).narrow hFc).moved hW.alike, by rw [hU]; exact ((hT_D.kept hS.2.1).narrow hFc).moved hW.alike, va_AO.moved hW.alike hAO_O, va_Nw.warmC hW hN_L⟩⟩ rfl rfl hl.1 rfl (lv_room (Nat.le_of_ble_eq_true rfl)) dX11_bylaw_112 ⟨Nat.le_of_ble_eq_true rfl, Nat.le_of_ble_eq_true rfl⟩) hS (fun q _ h => hFc q h) hFc (fun r_16 u t H1 locs ht hvm hw hB hz1 hk1 hS => ?_)
      obtain ⟨hP, hD⟩ := va_join (wr := [(xX, .inr (11, [.ref xT, .int 0, .ref xW, .ref xR, .ref xM, .ref xS, .int (-1), .int 0, .int (-1)])), (xW, .inr (7, [.ref xRo, .ref xPe, .ref xWh, .ref xTr, .ref xCo, .int 0, .ref xAl, .ref xNl, .ref xDr, .int 0, .ref xFa, .int 0, .int 0, .int 0]))]) (w1 := []) hP hD [2, 3] [0, 1] rfl rfl (by decide) (by decide) hk1 hFc (fun k q h => by simp at h) ⟨fun i j p q h => by simp at h, fun k q h => by simp at h⟩
      have hK := hK.sub (tys' := []) [] rfl
      generalize H1 = H at hP hS ⊢
      have hP : va_P (dC, dI) vwCl [(xX, .inr (11, [.ref xT, .int 0, .ref xW, .ref xR, .ref xM, .ref xS, .int (-1), .int 0, .int (-1)])), (xW, .inr (7, [.ref xRo, .ref xPe, .ref xWh, .ref xTr, .ref xCo, .int 0, .ref xAl, .ref xNl, .ref xDr, .int 0, .ref xFa, .int 0, .int 0, .int 0]))] H := hP
      have hD : va_D A [(xX, .inr (11, [.ref xT, .int 0, .ref xW, .ref xR, .ref xM, .ref xS, .int (-1), .int 0, .int (-1)])), (xW, .inr (7, [.ref xRo, .ref xPe, .ref xWh, .ref xTr, .ref xCo, .int 0, .ref xAl, .ref xNl, .ref xDr, .int 0, .ref xFa, .int 0, .int 0, .int 0]))] := hD
      have hK : va_K (dC, dI) vwCl [] s := hK
      refine W.widen (k := 8) (n := 17) (Nat.le_of_ble_eq_true rfl) (Nat.le_of_ble_eq_true rfl) ?_
      subst hw
      refine lv_pop hx hb dX11_bylaw_115 rfl ?_
      refine lv_aload_n hx hb dX11_bylaw_116 rfl (lv_at hl 1 rfl) ?_
      refine lv_iconst (v := 0) hx hb dX11_bylaw_117 (by decide) ?_
      refine va_put (D := (dC, dI)) (ci := 11) (v := .int 0) (ty := .int) (C := RX11) (T := TX11) (N := 9) hx hb hts iCX11 tyX11 tyX11_ok nmX11 hown hK hP hD hS 0 rfl rfl 1 (by decide) (hts (.fieldLink RX11 50 "WalkingTown" "tapeSize" "I") (List.mem_cons_of_mem _ kw_3_92)) (fun _ h9 => h9) rfl (by decide +kernel) rfl rfl (Nat.le_of_ble_eq_true rfl) dX11_bylaw_118 (fun H locs hP hD hS => ?_)
      have hP : va_P (dC, dI) vwCl [(xX, .inr (11, [.ref xT, .int 0, .ref xW, .ref xR, .ref xM, .ref xS, .int (-1), .int 0, .int (-1)])), (xW, .inr (7, [.ref xRo, .ref xPe, .ref xWh, .ref xTr, .ref xCo, .int 0, .ref xAl, .ref xNl, .ref xDr, .int 0, .ref xFa, .int 0, .int 0, .int 0]))] H := hP
      have hD : va_D A [(xX, .inr (11, [.ref xT, .int 0, .ref xW, .ref xR, .ref xM, .ref xS, .int (-1), .int 0, .int (-1)])), (xW, .inr (7, [.ref xRo, .ref xPe, .ref xWh, .ref xTr, .ref xCo, .int 0, .ref xAl, .ref xNl, .ref xDr, .int 0, .ref xFa, .int 0, .int 0, .int 0]))] := hD
      refine lv_iload_n hx hb dX11_bylaw_121 rfl (lv_at hl 0 rfl) ?_
      refine W.widen (k := 8) (n := 17) (Nat.le_of_ble_eq_true rfl) (Nat.le_of_ble_eq_true rfl) ?_
      exact W.iret (v := 0) hx hb hr (fun t ht hW => ⟨⟨0, (), rfl, (by first | (simp [sp_bylaw, c_3, c_4, c_5, c_7, c_8]; done) | (have q0 := c_3; have q1 := c_4; have q2 := c_5; have q3 := c_7; have q4 := c_8; try simp only [Int32.lt_iff_toInt_lt, Int32.le_iff_toInt_le, my_n0, my_n1, my_n12, my_n99, my_n199, my_n200, my_n100000, my_nm1, my_n7] at q0 q1 q2 q3 q4; simp only [sp_bylaw, Int32.lt_iff_toInt_lt, Int32.le_iff_toInt_le, my_n0, my_n1, my_n12, my_n99, my_n199, my_n200, my_n100000, my_nm1, my_n7]; (repeat' split) <;> first | rfl | omega)), trivial⟩, hS.F ht⟩) hS.2.2 dX11_bylaw_122

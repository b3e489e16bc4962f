theorem dX3_addCode_0 : decode cX3_addCode 0 = .ok (.aload_n 0, 1) := by decide +kernel
theorem dX3_addCode_1 : decode cX3_addCode 1 = .ok (.getfield 35, 3) := by decide +kernel
theorem dX3_addCode_4 : decode cX3_addCode 4 = .ok (.bipush 100, 2) := by decide +kernel
theorem dX3_addCode_6 : decode cX3_addCode 6 = .ok (.if_icmp .ge 52, 3) := by decide +kernel
theorem dX3_addCode_9 : decode cX3_addCode 9 = .ok (.aload_n 0, 1) := by decide +kernel
theorem dX3_addCode_10 : decode cX3_addCode 10 = .ok (.getfield 27, 3) := by decide +kernel
theorem dX3_addCode_13 : decode cX3_addCode 13 = .ok (.getfield 85, 3) := by decide +kernel
theorem dX3_addCode_16 : decode cX3_addCode 16 = .ok (.aload_n 0, 1) := by decide +kernel
theorem dX3_addCode_17 : decode cX3_addCode 17 = .ok (.getfield 35, 3) := by decide +kernel
theorem dX3_addCode_20 : decode cX3_addCode 20 = .ok (.iload_n 1, 1) := by decide +kernel
theorem dX3_addCode_21 : decode cX3_addCode 21 = .ok (.iastore, 1) := by decide +kernel
theorem dX3_addCode_22 : decode cX3_addCode 22 = .ok (.aload_n 0, 1) := by decide +kernel
theorem dX3_addCode_23 : decode cX3_addCode 23 = .ok (.getfield 27, 3) := by decide +kernel
theorem dX3_addCode_26 : decode cX3_addCode 26 = .ok (.getfield 88, 3) := by decide +kernel
theorem dX3_addCode_29 : decode cX3_addCode 29 = .ok (.aload_n 0, 1) := by decide +kernel
theorem dX3_addCode_30 : decode cX3_addCode 30 = .ok (.getfield 35, 3) := by decide +kernel
theorem dX3_addCode_33 : decode cX3_addCode 33 = .ok (.iload_n 2, 1) := by decide +kernel
theorem dX3_addCode_34 : decode cX3_addCode 34 = .ok (.iastore, 1) := by decide +kernel
theorem dX3_addCode_35 : decode cX3_addCode 35 = .ok (.aload_n 0, 1) := by decide +kernel
theorem dX3_addCode_36 : decode cX3_addCode 36 = .ok (.getfield 27, 3) := by decide +kernel
theorem dX3_addCode_39 : decode cX3_addCode 39 = .ok (.getfield 91, 3) := by decide +kernel
theorem dX3_addCode_42 : decode cX3_addCode 42 = .ok (.aload_n 0, 1) := by decide +kernel
theorem dX3_addCode_43 : decode cX3_addCode 43 = .ok (.getfield 35, 3) := by decide +kernel
theorem dX3_addCode_46 : decode cX3_addCode 46 = .ok (.iload_n 3, 1) := by decide +kernel
theorem dX3_addCode_47 : decode cX3_addCode 47 = .ok (.iastore, 1) := by decide +kernel
theorem dX3_addCode_48 : decode cX3_addCode 48 = .ok (.aload_n 0, 1) := by decide +kernel
theorem dX3_addCode_49 : decode cX3_addCode 49 = .ok (.dup, 1) := by decide +kernel
theorem dX3_addCode_50 : decode cX3_addCode 50 = .ok (.getfield 35, 3) := by decide +kernel
theorem dX3_addCode_53 : decode cX3_addCode 53 = .ok (.iconst 1, 1) := by decide +kernel
theorem dX3_addCode_54 : decode cX3_addCode 54 = .ok (.iadd, 1) := by decide +kernel
theorem dX3_addCode_55 : decode cX3_addCode 55 = .ok (.putfield 35, 3) := by decide +kernel
theorem dX3_addCode_58 : decode cX3_addCode 58 = .ok (.iconst 1, 1) := by decide +kernel
theorem dX3_addCode_59 : decode cX3_addCode 59 = .ok (.ireturn, 1) := by decide +kernel
theorem dX3_endOfWord_0 : decode cX3_endOfWord 0 = .ok (.iload_n 1, 1) := by decide +kernel
theorem dX3_endOfWord_1 : decode cX3_endOfWord 1 = .ok (.istore_n 3, 1) := by decide +kernel
theorem dX3_endOfWord_2 : decode cX3_endOfWord 2 = .ok (.iload_n 3, 1) := by decide +kernel
theorem dX3_endOfWord_3 : decode cX3_endOfWord 3 = .ok (.iload_n 2, 1) := by decide +kernel
theorem dX3_endOfWord_4 : decode cX3_endOfWord 4 = .ok (.if_icmp .ge 27, 3) := by decide +kernel
theorem dX3_endOfWord_7 : decode cX3_endOfWord 7 = .ok (.aload_n 0, 1) := by decide +kernel
theorem dX3_endOfWord_8 : decode cX3_endOfWord 8 = .ok (.iload_n 3, 1) := by decide +kernel
theorem dX3_endOfWord_9 : decode cX3_endOfWord 9 = .ok (.iaload, 1) := by decide +kernel
theorem dX3_endOfWord_10 : decode cX3_endOfWord 10 = .ok (.invokestatic 122, 3) := by decide +kernel
theorem dX3_endOfWord_13 : decode cX3_endOfWord 13 = .ok (.ifCond .ne 12, 3) := by decide +kernel
theorem dX3_endOfWord_16 : decode cX3_endOfWord 16 = .ok (.aload_n 0, 1) := by decide +kernel
theorem dX3_endOfWord_17 : decode cX3_endOfWord 17 = .ok (.iload_n 3, 1) := by decide +kernel
theorem dX3_endOfWord_18 : decode cX3_endOfWord 18 = .ok (.iaload, 1) := by decide +kernel
theorem dX3_endOfWord_19 : decode cX3_endOfWord 19 = .ok (.invokestatic 126, 3) := by decide +kernel
theorem dX3_endOfWord_22 : decode cX3_endOfWord 22 = .ok (.ifCond .eq 9, 3) := by decide +kernel
theorem dX3_endOfWord_25 : decode cX3_endOfWord 25 = .ok (.iinc 3 1, 3) := by decide +kernel
theorem dX3_endOfWord_28 : decode cX3_endOfWord 28 = .ok (.goto (-26), 3) := by decide +kernel
theorem dX3_endOfWord_31 : decode cX3_endOfWord 31 = .ok (.iload_n 3, 1) := by decide +kernel
theorem dX3_endOfWord_32 : decode cX3_endOfWord 32 = .ok (.ireturn, 1) := by decide +kernel
theorem dX3_fail_0 : decode cX3_fail 0 = .ok (.aload_n 0, 1) := by decide +kernel
theorem dX3_fail_1 : decode cX3_fail 1 = .ok (.iload_n 1, 1) := by decide +kernel
theorem dX3_fail_2 : decode cX3_fail 2 = .ok (.putfield 48, 3) := by decide +kernel
theorem dX3_fail_5 : decode cX3_fail 5 = .ok (.aload_n 0, 1) := by decide +kernel
theorem dX3_fail_6 : decode cX3_fail 6 = .ok (.aload_n 0, 1) := by decide +kernel
theorem dX3_fail_7 : decode cX3_fail 7 = .ok (.getfield 15, 3) := by decide +kernel
theorem dX3_fail_10 : decode cX3_fail 10 = .ok (.aload_n 0, 1) := by decide +kernel
theorem dX3_fail_11 : decode cX3_fail 11 = .ok (.getfield 41, 3) := by decide +kernel
theorem dX3_fail_14 : decode cX3_fail 14 = .ok (.iaload, 1) := by decide +kernel
theorem dX3_fail_15 : decode cX3_fail 15 = .ok (.putfield 51, 3) := by decide +kernel
theorem dX3_fail_18 : decode cX3_fail 18 = .ok (.iconst 0, 1) := by decide +kernel
theorem dX3_fail_19 : decode cX3_fail 19 = .ok (.ireturn, 1) := by decide +kernel
theorem dX3_isDigit_0 : decode cX3_isDigit 0 = .ok (.iload_n 0, 1) := by decide +kernel
theorem dX3_isDigit_1 : decode cX3_isDigit 1 = .ok (.bipush 48, 2) := by decide +kernel
theorem dX3_isDigit_3 : decode cX3_isDigit 3 = .ok (.if_icmp .lt 13, 3) := by decide +kernel
theorem dX3_isDigit_6 : decode cX3_isDigit 6 = .ok (.iload_n 0, 1) := by decide +kernel
theorem dX3_isDigit_7 : decode cX3_isDigit 7 = .ok (.bipush 57, 2) := by decide +kernel
theorem dX3_isDigit_9 : decode cX3_isDigit 9 = .ok (.if_icmp .gt 7, 3) := by decide +kernel
theorem dX3_isDigit_12 : decode cX3_isDigit 12 = .ok (.iconst 1, 1) := by decide +kernel
theorem dX3_isDigit_13 : decode cX3_isDigit 13 = .ok (.goto 4, 3) := by decide +kernel
theorem dX3_isDigit_16 : decode cX3_isDigit 16 = .ok (.iconst 0, 1) := by decide +kernel
theorem dX3_isDigit_17 : decode cX3_isDigit 17 = .ok (.ireturn, 1) := by decide +kernel
theorem dX3_isLetter_0 : decode cX3_isLetter 0 = .ok (.iload_n 0, 1) := by decide +kernel
theorem dX3_isLetter_1 : decode cX3_isLetter 1 = .ok (.bipush 97, 2) := by decide +kernel
theorem dX3_isLetter_3 : decode cX3_isLetter 3 = .ok (.if_icmp .lt 13, 3) := by decide +kernel
theorem dX3_isLetter_6 : decode cX3_isLetter 6 = .ok (.iload_n 0, 1) := by decide +kernel
theorem dX3_isLetter_7 : decode cX3_isLetter 7 = .ok (.bipush 122, 2) := by decide +kernel
theorem dX3_isLetter_9 : decode cX3_isLetter 9 = .ok (.if_icmp .gt 7, 3) := by decide +kernel
theorem dX3_isLetter_12 : decode cX3_isLetter 12 = .ok (.iconst 1, 1) := by decide +kernel
theorem dX3_isLetter_13 : decode cX3_isLetter 13 = .ok (.goto 4, 3) := by decide +kernel
theorem dX3_isLetter_16 : decode cX3_isLetter 16 = .ok (.iconst 0, 1) := by decide +kernel
theorem dX3_isLetter_17 : decode cX3_isLetter 17 = .ok (.ireturn, 1) := by decide +kernel
theorem dX3_numberAt_0 : decode cX3_numberAt 0 = .ok (.iconst 0, 1) := by decide +kernel
theorem dX3_numberAt_1 : decode cX3_numberAt 1 = .ok (.istore_n 3, 1) := by decide +kernel
theorem dX3_numberAt_2 : decode cX3_numberAt 2 = .ok (.iload_n 1, 1) := by decide +kernel
theorem dX3_numberAt_3 : decode cX3_numberAt 3 = .ok (.istore 4, 2) := by decide +kernel
theorem dX3_numberAt_5 : decode cX3_numberAt 5 = .ok (.iload 4, 2) := by decide +kernel
theorem dX3_numberAt_7 : decode cX3_numberAt 7 = .ok (.iload_n 2, 1) := by decide +kernel
theorem dX3_numberAt_8 : decode cX3_numberAt 8 = .ok (.if_icmp .ge 44, 3) := by decide +kernel
theorem dX3_numberAt_11 : decode cX3_numberAt 11 = .ok (.iload 4, 2) := by decide +kernel
theorem dX3_numberAt_13 : decode cX3_numberAt 13 = .ok (.iload_n 1, 1) := by decide +kernel
theorem dX3_numberAt_14 : decode cX3_numberAt 14 = .ok (.iconst 4, 1) := by decide +kernel
theorem dX3_numberAt_15 : decode cX3_numberAt 15 = .ok (.iadd, 1) := by decide +kernel
theorem dX3_numberAt_16 : decode cX3_numberAt 16 = .ok (.if_icmp .ge 36, 3) := by decide +kernel
theorem dX3_numberAt_19 : decode cX3_numberAt 19 = .ok (.iload_n 3, 1) := by decide +kernel
theorem dX3_numberAt_20 : decode cX3_numberAt 20 = .ok (.bipush 10, 2) := by decide +kernel
theorem dX3_numberAt_22 : decode cX3_numberAt 22 = .ok (.imul, 1) := by decide +kernel
theorem dX3_numberAt_23 : decode cX3_numberAt 23 = .ok (.aload_n 0, 1) := by decide +kernel
theorem dX3_numberAt_24 : decode cX3_numberAt 24 = .ok (.iload 4, 2) := by decide +kernel
theorem dX3_numberAt_26 : decode cX3_numberAt 26 = .ok (.iaload, 1) := by decide +kernel
theorem dX3_numberAt_27 : decode cX3_numberAt 27 = .ok (.invokestatic 126, 3) := by decide +kernel
theorem dX3_numberAt_30 : decode cX3_numberAt 30 = .ok (.ifCond .eq 13, 3) := by decide +kernel
theorem dX3_numberAt_33 : decode cX3_numberAt 33 = .ok (.aload_n 0, 1) := by decide +kernel
theorem dX3_numberAt_34 : decode cX3_numberAt 34 = .ok (.iload 4, 2) := by decide +kernel
theorem dX3_numberAt_36 : decode cX3_numberAt 36 = .ok (.iaload, 1) := by decide +kernel
theorem dX3_numberAt_37 : decode cX3_numberAt 37 = .ok (.bipush 48, 2) := by decide +kernel
theorem dX3_numberAt_39 : decode cX3_numberAt 39 = .ok (.isub, 1) := by decide +kernel
theorem dX3_numberAt_40 : decode cX3_numberAt 40 = .ok (.goto 4, 3) := by decide +kernel
theorem dX3_numberAt_43 : decode cX3_numberAt 43 = .ok (.iconst 0, 1) := by decide +kernel
theorem dX3_numberAt_44 : decode cX3_numberAt 44 = .ok (.iadd, 1) := by decide +kernel
theorem dX3_numberAt_45 : decode cX3_numberAt 45 = .ok (.istore_n 3, 1) := by decide +kernel
theorem dX3_numberAt_46 : decode cX3_numberAt 46 = .ok (.iinc 4 1, 3) := by decide +kernel
theorem dX3_numberAt_49 : decode cX3_numberAt 49 = .ok (.goto (-44), 3) := by decide +kernel
theorem dX3_numberAt_52 : decode cX3_numberAt 52 = .ok (.iload_n 3, 1) := by decide +kernel
theorem dX3_numberAt_53 : decode cX3_numberAt 53 = .ok (.ireturn, 1) := by decide +kernel
theorem dX3_readAll_0 : decode cX3_readAll 0 = .ok (.aload_n 0, 1) := by decide +kernel
theorem dX3_readAll_1 : decode cX3_readAll 1 = .ok (.iload_n 1, 1) := by decide +kernel
theorem dX3_readAll_2 : decode cX3_readAll 2 = .ok (.invokevirtual 203, 3) := by decide +kernel
theorem dX3_readAll_5 : decode cX3_readAll 5 = .ok (.ifCond .ne 5, 3) := by decide +kernel
theorem dX3_readAll_8 : decode cX3_readAll 8 = .ok (.iconst 0, 1) := by decide +kernel
theorem dX3_readAll_9 : decode cX3_readAll 9 = .ok (.ireturn, 1) := by decide +kernel
theorem dX3_readAll_10 : decode cX3_readAll 10 = .ok (.iconst 0, 1) := by decide +kernel
theorem dX3_readAll_11 : decode cX3_readAll 11 = .ok (.istore_n 2, 1) := by decide +kernel
theorem dX3_readAll_12 : decode cX3_readAll 12 = .ok (.iload_n 2, 1) := by decide +kernel
theorem dX3_readAll_13 : decode cX3_readAll 13 = .ok (.bipush 50, 2) := by decide +kernel
theorem dX3_readAll_15 : decode cX3_readAll 15 = .ok (.if_icmp .ge 41, 3) := by decide +kernel
theorem dX3_readAll_18 : decode cX3_readAll 18 = .ok (.aload_n 0, 1) := by decide +kernel
theorem dX3_readAll_19 : decode cX3_readAll 19 = .ok (.invokevirtual 58, 3) := by decide +kernel
theorem dX3_readAll_22 : decode cX3_readAll 22 = .ok (.getstatic 206, 3) := by decide +kernel
theorem dX3_readAll_25 : decode cX3_readAll 25 = .ok (.if_acmp .ne 31, 3) := by decide +kernel
theorem dX3_readAll_28 : decode cX3_readAll 28 = .ok (.aload_n 0, 1) := by decide +kernel
theorem dX3_readAll_29 : decode cX3_readAll 29 = .ok (.invokevirtual 159, 3) := by decide +kernel
theorem dX3_readAll_32 : decode cX3_readAll 32 = .ok (.aload_n 0, 1) := by decide +kernel
theorem dX3_readAll_33 : decode cX3_readAll 33 = .ok (.iload_n 1, 1) := by decide +kernel
theorem dX3_readAll_34 : decode cX3_readAll 34 = .ok (.invokevirtual 203, 3) := by decide +kernel
theorem dX3_readAll_37 : decode cX3_readAll 37 = .ok (.ifCond .ne 5, 3) := by decide +kernel
theorem dX3_readAll_40 : decode cX3_readAll 40 = .ok (.iconst 0, 1) := by decide +kernel
theorem dX3_readAll_41 : decode cX3_readAll 41 = .ok (.ireturn, 1) := by decide +kernel
theorem dX3_readAll_42 : decode cX3_readAll 42 = .ok (.aload_n 0, 1) := by decide +kernel
theorem dX3_readAll_43 : decode cX3_readAll 43 = .ok (.iconst 4, 1) := by decide +kernel
theorem dX3_readAll_44 : decode cX3_readAll 44 = .ok (.iconst 0, 1) := by decide +kernel
theorem dX3_readAll_45 : decode cX3_readAll 45 = .ok (.iconst 0, 1) := by decide +kernel
theorem dX3_readAll_46 : decode cX3_readAll 46 = .ok (.invokevirtual 199, 3) := by decide +kernel
theorem dX3_readAll_49 : decode cX3_readAll 49 = .ok (.pop, 1) := by decide +kernel
theorem dX3_readAll_50 : decode cX3_readAll 50 = .ok (.iinc 2 1, 3) := by decide +kernel
theorem dX3_readAll_53 : decode cX3_readAll 53 = .ok (.goto (-41), 3) := by decide +kernel
theorem dX3_readAll_56 : decode cX3_readAll 56 = .ok (.iconst 1, 1) := by decide +kernel
theorem dX3_readAll_57 : decode cX3_readAll 57 = .ok (.ireturn, 1) := by decide +kernel
theorem dX3_readCond_0 : decode cX3_readCond 0 = .ok (.aload_n 0, 1) := by decide +kernel
theorem dX3_readCond_1 : decode cX3_readCond 1 = .ok (.iload_n 1, 1) := by decide +kernel
theorem dX3_readCond_2 : decode cX3_readCond 2 = .ok (.invokevirtual 193, 3) := by decide +kernel
theorem dX3_readCond_5 : decode cX3_readCond 5 = .ok (.ifCond .ne 5, 3) := by decide +kernel
theorem dX3_readCond_8 : decode cX3_readCond 8 = .ok (.iconst 0, 1) := by decide +kernel
theorem dX3_readCond_9 : decode cX3_readCond 9 = .ok (.ireturn, 1) := by decide +kernel
theorem dX3_readCond_10 : decode cX3_readCond 10 = .ok (.iconst 0, 1) := by decide +kernel
theorem dX3_readCond_11 : decode cX3_readCond 11 = .ok (.istore_n 2, 1) := by decide +kernel
theorem dX3_readCond_12 : decode cX3_readCond 12 = .ok (.iload_n 2, 1) := by decide +kernel
theorem dX3_readCond_13 : decode cX3_readCond 13 = .ok (.bipush 50, 2) := by decide +kernel
theorem dX3_readCond_15 : decode cX3_readCond 15 = .ok (.if_icmp .ge 41, 3) := by decide +kernel
theorem dX3_readCond_18 : decode cX3_readCond 18 = .ok (.aload_n 0, 1) := by decide +kernel
theorem dX3_readCond_19 : decode cX3_readCond 19 = .ok (.invokevirtual 58, 3) := by decide +kernel
theorem dX3_readCond_22 : decode cX3_readCond 22 = .ok (.getstatic 196, 3) := by decide +kernel
theorem dX3_readCond_25 : decode cX3_readCond 25 = .ok (.if_acmp .ne 31, 3) := by decide +kernel
theorem dX3_readCond_28 : decode cX3_readCond 28 = .ok (.aload_n 0, 1) := by decide +kernel
theorem dX3_readCond_29 : decode cX3_readCond 29 = .ok (.invokevirtual 159, 3) := by decide +kernel
theorem dX3_readCond_32 : decode cX3_readCond 32 = .ok (.aload_n 0, 1) := by decide +kernel
theorem dX3_readCond_33 : decode cX3_readCond 33 = .ok (.iload_n 1, 1) := by decide +kernel
theorem dX3_readCond_34 : decode cX3_readCond 34 = .ok (.invokevirtual 193, 3) := by decide +kernel
theorem dX3_readCond_37 : decode cX3_readCond 37 = .ok (.ifCond .ne 5, 3) := by decide +kernel
theorem dX3_readCond_40 : decode cX3_readCond 40 = .ok (.iconst 0, 1) := by decide +kernel
theorem dX3_readCond_41 : decode cX3_readCond 41 = .ok (.ireturn, 1) := by decide +kernel
theorem dX3_readCond_42 : decode cX3_readCond 42 = .ok (.aload_n 0, 1) := by decide +kernel
theorem dX3_readCond_43 : decode cX3_readCond 43 = .ok (.iconst 5, 1) := by decide +kernel
theorem dX3_readCond_44 : decode cX3_readCond 44 = .ok (.iconst 0, 1) := by decide +kernel
theorem dX3_readCond_45 : decode cX3_readCond 45 = .ok (.iconst 0, 1) := by decide +kernel
theorem dX3_readCond_46 : decode cX3_readCond 46 = .ok (.invokevirtual 199, 3) := by decide +kernel
theorem dX3_readCond_49 : decode cX3_readCond 49 = .ok (.pop, 1) := by decide +kernel
theorem dX3_readCond_50 : decode cX3_readCond 50 = .ok (.iinc 2 1, 3) := by decide +kernel
theorem dX3_readCond_53 : decode cX3_readCond 53 = .ok (.goto (-41), 3) := by decide +kernel
theorem dX3_readCond_56 : decode cX3_readCond 56 = .ok (.iconst 1, 1) := by decide +kernel
theorem dX3_readCond_57 : decode cX3_readCond 57 = .ok (.ireturn, 1) := by decide +kernel
theorem dX3_readLine_0 : decode cX3_readLine 0 = .ok (.aload_n 0, 1) := by decide +kernel
theorem dX3_readLine_1 : decode cX3_readLine 1 = .ok (.invokevirtual 58, 3) := by decide +kernel
theorem dX3_readLine_4 : decode cX3_readLine 4 = .ok (.astore_n 1, 1) := by decide +kernel
theorem dX3_readLine_5 : decode cX3_readLine 5 = .ok (.aload_n 1, 1) := by decide +kernel
theorem dX3_readLine_6 : decode cX3_readLine 6 = .ok (.getfield 162, 3) := by decide +kernel
theorem dX3_readLine_9 : decode cX3_readLine 9 = .ok (.ifCond .eq 17, 3) := by decide +kernel
theorem dX3_readLine_12 : decode cX3_readLine 12 = .ok (.aload_n 1, 1) := by decide +kernel
theorem dX3_readLine_13 : decode cX3_readLine 13 = .ok (.getfield 162, 3) := by decide +kernel
theorem dX3_readLine_16 : decode cX3_readLine 16 = .ok (.iconst 1, 1) := by decide +kernel
theorem dX3_readLine_17 : decode cX3_readLine 17 = .ok (.if_icmp .eq 9, 3) := by decide +kernel
theorem dX3_readLine_20 : decode cX3_readLine 20 = .ok (.aload_n 0, 1) := by decide +kernel
theorem dX3_readLine_21 : decode cX3_readLine 21 = .ok (.iconst 1, 1) := by decide +kernel
theorem dX3_readLine_22 : decode cX3_readLine 22 = .ok (.invokevirtual 156, 3) := by decide +kernel
theorem dX3_readLine_25 : decode cX3_readLine 25 = .ok (.ireturn, 1) := by decide +kernel
theorem dX3_readLine_26 : decode cX3_readLine 26 = .ok (.aload_n 0, 1) := by decide +kernel
theorem dX3_readLine_27 : decode cX3_readLine 27 = .ok (.getfield 31, 3) := by decide +kernel
theorem dX3_readLine_30 : decode cX3_readLine 30 = .ok (.bipush 16, 2) := by decide +kernel
theorem dX3_readLine_32 : decode cX3_readLine 32 = .ok (.if_icmp .ge 17, 3) := by decide +kernel
theorem dX3_readLine_35 : decode cX3_readLine 35 = .ok (.aload_n 1, 1) := by decide +kernel
theorem dX3_readLine_36 : decode cX3_readLine 36 = .ok (.getstatic 165, 3) := by decide +kernel
theorem dX3_readLine_39 : decode cX3_readLine 39 = .ok (.if_acmp .ne 16, 3) := by decide +kernel
theorem dX3_readLine_42 : decode cX3_readLine 42 = .ok (.aload_n 0, 1) := by decide +kernel
theorem dX3_readLine_43 : decode cX3_readLine 43 = .ok (.getfield 44, 3) := by decide +kernel
theorem dX3_readLine_46 : decode cX3_readLine 46 = .ok (.ifCond .eq 9, 3) := by decide +kernel
theorem dX3_readLine_49 : decode cX3_readLine 49 = .ok (.aload_n 0, 1) := by decide +kernel
theorem dX3_readLine_50 : decode cX3_readLine 50 = .ok (.iconst 3, 1) := by decide +kernel
theorem dX3_readLine_51 : decode cX3_readLine 51 = .ok (.invokevirtual 156, 3) := by decide +kernel
theorem dX3_readLine_54 : decode cX3_readLine 54 = .ok (.ireturn, 1) := by decide +kernel
theorem dX3_readLine_55 : decode cX3_readLine 55 = .ok (.aload_n 0, 1) := by decide +kernel
theorem dX3_readLine_56 : decode cX3_readLine 56 = .ok (.aload_n 0, 1) := by decide +kernel
theorem dX3_readLine_57 : decode cX3_readLine 57 = .ok (.getfield 44, 3) := by decide +kernel
theorem dX3_readLine_60 : decode cX3_readLine 60 = .ok (.ifCond .ne 10, 3) := by decide +kernel
theorem dX3_readLine_63 : decode cX3_readLine 63 = .ok (.aload_n 1, 1) := by decide +kernel
theorem dX3_readLine_64 : decode cX3_readLine 64 = .ok (.getstatic 165, 3) := by decide +kernel
theorem dX3_readLine_67 : decode cX3_readLine 67 = .ok (.if_acmp .ne 7, 3) := by decide +kernel
theorem dX3_readLine_70 : decode cX3_readLine 70 = .ok (.iconst 1, 1) := by decide +kernel
theorem dX3_readLine_71 : decode cX3_readLine 71 = .ok (.goto 4, 3) := by decide +kernel
theorem dX3_readLine_74 : decode cX3_readLine 74 = .ok (.iconst 0, 1) := by decide +kernel
theorem dX3_readLine_75 : decode cX3_readLine 75 = .ok (.putfield 44, 3) := by decide +kernel
theorem dX3_readLine_78 : decode cX3_readLine 78 = .ok (.aload_n 0, 1) := by decide +kernel
theorem dX3_readLine_79 : decode cX3_readLine 79 = .ok (.invokevirtual 159, 3) := by decide +kernel
theorem dX3_readLine_82 : decode cX3_readLine 82 = .ok (.aload_n 0, 1) := by decide +kernel
theorem dX3_readLine_83 : decode cX3_readLine 83 = .ok (.getfield 27, 3) := by decide +kernel
theorem dX3_readLine_86 : decode cX3_readLine 86 = .ok (.getfield 70, 3) := by decide +kernel
theorem dX3_readLine_89 : decode cX3_readLine 89 = .ok (.aload_n 0, 1) := by decide +kernel
theorem dX3_readLine_90 : decode cX3_readLine 90 = .ok (.getfield 31, 3) := by decide +kernel
theorem dX3_readLine_93 : decode cX3_readLine 93 = .ok (.aload_n 1, 1) := by decide +kernel
theorem dX3_readLine_94 : decode cX3_readLine 94 = .ok (.getfield 168, 3) := by decide +kernel
theorem dX3_readLine_97 : decode cX3_readLine 97 = .ok (.iastore, 1) := by decide +kernel
theorem dX3_readLine_98 : decode cX3_readLine 98 = .ok (.aload_n 1, 1) := by decide +kernel
theorem dX3_readLine_99 : decode cX3_readLine 99 = .ok (.getfield 162, 3) := by decide +kernel
theorem dX3_readLine_102 : decode cX3_readLine 102 = .ok (.ifCond .ne 13, 3) := by decide +kernel
theorem dX3_readLine_105 : decode cX3_readLine 105 = .ok (.aload_n 0, 1) := by decide +kernel
theorem dX3_readLine_106 : decode cX3_readLine 106 = .ok (.invokevirtual 171, 3) := by decide +kernel
theorem dX3_readLine_109 : decode cX3_readLine 109 = .ok (.ifCond .eq 13, 3) := by decide +kernel
theorem dX3_readLine_112 : decode cX3_readLine 112 = .ok (.goto 12, 3) := by decide +kernel
theorem dX3_readLine_115 : decode cX3_readLine 115 = .ok (.aload_n 0, 1) := by decide +kernel
theorem dX3_readLine_116 : decode cX3_readLine 116 = .ok (.invokevirtual 174, 3) := by decide +kernel
theorem dX3_readLine_119 : decode cX3_readLine 119 = .ok (.ifCond .ne 5, 3) := by decide +kernel
theorem dX3_readLine_122 : decode cX3_readLine 122 = .ok (.iconst 0, 1) := by decide +kernel
theorem dX3_readLine_123 : decode cX3_readLine 123 = .ok (.ireturn, 1) := by decide +kernel
theorem dX3_readLine_124 : decode cX3_readLine 124 = .ok (.aload_n 1, 1) := by decide +kernel
theorem dX3_readLine_125 : decode cX3_readLine 125 = .ok (.getstatic 165, 3) := by decide +kernel
theorem dX3_readLine_128 : decode cX3_readLine 128 = .ok (.if_acmp .eq 27, 3) := by decide +kernel
theorem dX3_readLine_131 : decode cX3_readLine 131 = .ok (.aload_n 0, 1) := by decide +kernel
theorem dX3_readLine_132 : decode cX3_readLine 132 = .ok (.invokevirtual 58, 3) := by decide +kernel
theorem dX3_readLine_135 : decode cX3_readLine 135 = .ok (.getstatic 177, 3) := by decide +kernel
theorem dX3_readLine_138 : decode cX3_readLine 138 = .ok (.if_acmp .ne 17, 3) := by decide +kernel
theorem dX3_readLine_141 : decode cX3_readLine 141 = .ok (.aload_n 0, 1) := by decide +kernel
theorem dX3_readLine_142 : decode cX3_readLine 142 = .ok (.invokevirtual 159, 3) := by decide +kernel
theorem dX3_readLine_145 : decode cX3_readLine 145 = .ok (.aload_n 0, 1) := by decide +kernel
theorem dX3_readLine_146 : decode cX3_readLine 146 = .ok (.iconst 0, 1) := by decide +kernel
theorem dX3_readLine_147 : decode cX3_readLine 147 = .ok (.invokevirtual 180, 3) := by decide +kernel
theorem dX3_readLine_150 : decode cX3_readLine 150 = .ok (.ifCond .ne 5, 3) := by decide +kernel
theorem dX3_readLine_153 : decode cX3_readLine 153 = .ok (.iconst 0, 1) := by decide +kernel
theorem dX3_readLine_154 : decode cX3_readLine 154 = .ok (.ireturn, 1) := by decide +kernel
theorem dX3_readLine_155 : decode cX3_readLine 155 = .ok (.aload_n 0, 1) := by decide +kernel
theorem dX3_readLine_156 : decode cX3_readLine 156 = .ok (.getfield 27, 3) := by decide +kernel
theorem dX3_readLine_159 : decode cX3_readLine 159 = .ok (.getfield 82, 3) := by decide +kernel
theorem dX3_readLine_162 : decode cX3_readLine 162 = .ok (.aload_n 0, 1) := by decide +kernel
theorem dX3_readLine_163 : decode cX3_readLine 163 = .ok (.getfield 31, 3) := by decide +kernel
theorem dX3_readLine_166 : decode cX3_readLine 166 = .ok (.aload_n 0, 1) := by decide +kernel
theorem dX3_readLine_167 : decode cX3_readLine 167 = .ok (.getfield 35, 3) := by decide +kernel
theorem dX3_readLine_170 : decode cX3_readLine 170 = .ok (.iastore, 1) := by decide +kernel
theorem dX3_readLine_171 : decode cX3_readLine 171 = .ok (.aload_n 0, 1) := by decide +kernel
theorem dX3_readLine_172 : decode cX3_readLine 172 = .ok (.dup, 1) := by decide +kernel
theorem dX3_readLine_173 : decode cX3_readLine 173 = .ok (.getfield 31, 3) := by decide +kernel
theorem dX3_readLine_176 : decode cX3_readLine 176 = .ok (.iconst 1, 1) := by decide +kernel
theorem dX3_readLine_177 : decode cX3_readLine 177 = .ok (.iadd, 1) := by decide +kernel
theorem dX3_readLine_178 : decode cX3_readLine 178 = .ok (.putfield 31, 3) := by decide +kernel
theorem dX3_readLine_181 : decode cX3_readLine 181 = .ok (.aload_n 0, 1) := by decide +kernel
theorem dX3_readLine_182 : decode cX3_readLine 182 = .ok (.getstatic 183, 3) := by decide +kernel
theorem dX3_readLine_185 : decode cX3_readLine 185 = .ok (.invokevirtual 186, 3) := by decide +kernel
theorem dX3_readLine_188 : decode cX3_readLine 188 = .ok (.ireturn, 1) := by decide +kernel
theorem dX3_readNot_0 : decode cX3_readNot 0 = .ok (.aload_n 0, 1) := by decide +kernel
theorem dX3_readNot_1 : decode cX3_readNot 1 = .ok (.invokevirtual 58, 3) := by decide +kernel
theorem dX3_readNot_4 : decode cX3_readNot 4 = .ok (.getstatic 190, 3) := by decide +kernel
theorem dX3_readNot_7 : decode cX3_readNot 7 = .ok (.if_acmp .ne 7, 3) := by decide +kernel
theorem dX3_readNot_10 : decode cX3_readNot 10 = .ok (.iconst 1, 1) := by decide +kernel
theorem dX3_readNot_11 : decode cX3_readNot 11 = .ok (.goto 4, 3) := by decide +kernel
theorem dX3_readNot_14 : decode cX3_readNot 14 = .ok (.iconst 0, 1) := by decide +kernel
theorem dX3_readNot_15 : decode cX3_readNot 15 = .ok (.istore_n 1, 1) := by decide +kernel
theorem dX3_readNot_16 : decode cX3_readNot 16 = .ok (.aload_n 0, 1) := by decide +kernel
theorem dX3_readNot_17 : decode cX3_readNot 17 = .ok (.getfield 27, 3) := by decide +kernel
theorem dX3_readNot_20 : decode cX3_readNot 20 = .ok (.getfield 79, 3) := by decide +kernel
theorem dX3_readNot_23 : decode cX3_readNot 23 = .ok (.aload_n 0, 1) := by decide +kernel
theorem dX3_readNot_24 : decode cX3_readNot 24 = .ok (.getfield 31, 3) := by decide +kernel
theorem dX3_readNot_27 : decode cX3_readNot 27 = .ok (.iload_n 1, 1) := by decide +kernel
theorem dX3_readNot_28 : decode cX3_readNot 28 = .ok (.ifCond .eq 7, 3) := by decide +kernel
theorem dX3_readNot_31 : decode cX3_readNot 31 = .ok (.iconst 0, 1) := by decide +kernel
theorem dX3_readNot_32 : decode cX3_readNot 32 = .ok (.goto 4, 3) := by decide +kernel
theorem dX3_readNot_35 : decode cX3_readNot 35 = .ok (.iconst 1, 1) := by decide +kernel
theorem dX3_readNot_36 : decode cX3_readNot 36 = .ok (.iastore, 1) := by decide +kernel
theorem dX3_readNot_37 : decode cX3_readNot 37 = .ok (.iload_n 1, 1) := by decide +kernel
theorem dX3_readNot_38 : decode cX3_readNot 38 = .ok (.ifCond .eq 7, 3) := by decide +kernel
theorem dX3_readNot_41 : decode cX3_readNot 41 = .ok (.aload_n 0, 1) := by decide +kernel
theorem dX3_readNot_42 : decode cX3_readNot 42 = .ok (.invokevirtual 159, 3) := by decide +kernel
theorem dX3_readNot_45 : decode cX3_readNot 45 = .ok (.iconst 1, 1) := by decide +kernel
theorem dX3_readNot_46 : decode cX3_readNot 46 = .ok (.ireturn, 1) := by decide +kernel
theorem dX3_readOne_0 : decode cX3_readOne 0 = .ok (.aload_n 0, 1) := by decide +kernel
theorem dX3_readOne_1 : decode cX3_readOne 1 = .ok (.invokevirtual 58, 3) := by decide +kernel
theorem dX3_readOne_4 : decode cX3_readOne 4 = .ok (.astore_n 2, 1) := by decide +kernel
theorem dX3_readOne_5 : decode cX3_readOne 5 = .ok (.aload_n 2, 1) := by decide +kernel
theorem dX3_readOne_6 : decode cX3_readOne 6 = .ok (.getfield 162, 3) := by decide +kernel
theorem dX3_readOne_9 : decode cX3_readOne 9 = .ok (.iconst 2, 1) := by decide +kernel
theorem dX3_readOne_10 : decode cX3_readOne 10 = .ok (.if_icmp .eq 11, 3) := by decide +kernel
theorem dX3_readOne_13 : decode cX3_readOne 13 = .ok (.aload_n 2, 1) := by decide +kernel
theorem dX3_readOne_14 : decode cX3_readOne 14 = .ok (.getfield 162, 3) := by decide +kernel
theorem dX3_readOne_17 : decode cX3_readOne 17 = .ok (.iconst 3, 1) := by decide +kernel
theorem dX3_readOne_18 : decode cX3_readOne 18 = .ok (.if_icmp .ne 7, 3) := by decide +kernel
theorem dX3_readOne_21 : decode cX3_readOne 21 = .ok (.iconst 1, 1) := by decide +kernel
theorem dX3_readOne_22 : decode cX3_readOne 22 = .ok (.goto 4, 3) := by decide +kernel
theorem dX3_readOne_25 : decode cX3_readOne 25 = .ok (.iconst 0, 1) := by decide +kernel
theorem dX3_readOne_26 : decode cX3_readOne 26 = .ok (.istore_n 3, 1) := by decide +kernel
theorem dX3_readOne_27 : decode cX3_readOne 27 = .ok (.iload_n 3, 1) := by decide +kernel
theorem dX3_readOne_28 : decode cX3_readOne 28 = .ok (.ifCond .ne 23, 3) := by decide +kernel
theorem dX3_readOne_31 : decode cX3_readOne 31 = .ok (.aload_n 2, 1) := by decide +kernel
theorem dX3_readOne_32 : decode cX3_readOne 32 = .ok (.getstatic 190, 3) := by decide +kernel
theorem dX3_readOne_35 : decode cX3_readOne 35 = .ok (.if_acmp .eq 16, 3) := by decide +kernel
theorem dX3_readOne_38 : decode cX3_readOne 38 = .ok (.aload_n 2, 1) := by decide +kernel
theorem dX3_readOne_39 : decode cX3_readOne 39 = .ok (.getstatic 209, 3) := by decide +kernel
theorem dX3_readOne_42 : decode cX3_readOne 42 = .ok (.if_acmp .eq 9, 3) := by decide +kernel
theorem dX3_readOne_45 : decode cX3_readOne 45 = .ok (.aload_n 0, 1) := by decide +kernel
theorem dX3_readOne_46 : decode cX3_readOne 46 = .ok (.iconst 1, 1) := by decide +kernel
theorem dX3_readOne_47 : decode cX3_readOne 47 = .ok (.invokevirtual 156, 3) := by decide +kernel
theorem dX3_readOne_50 : decode cX3_readOne 50 = .ok (.ireturn, 1) := by decide +kernel
theorem dX3_readOne_51 : decode cX3_readOne 51 = .ok (.aload_n 0, 1) := by decide +kernel
theorem dX3_readOne_52 : decode cX3_readOne 52 = .ok (.getfield 38, 3) := by decide +kernel
theorem dX3_readOne_55 : decode cX3_readOne 55 = .ok (.bipush 50, 2) := by decide +kernel
theorem dX3_readOne_57 : decode cX3_readOne 57 = .ok (.if_icmp .ge 9, 3) := by decide +kernel
theorem dX3_readOne_60 : decode cX3_readOne 60 = .ok (.iload_n 1, 1) := by decide +kernel
theorem dX3_readOne_61 : decode cX3_readOne 61 = .ok (.bipush 10, 2) := by decide +kernel
theorem dX3_readOne_63 : decode cX3_readOne 63 = .ok (.if_icmp .lt 9, 3) := by decide +kernel
theorem dX3_readOne_66 : decode cX3_readOne 66 = .ok (.aload_n 0, 1) := by decide +kernel
theorem dX3_readOne_67 : decode cX3_readOne 67 = .ok (.iconst 4, 1) := by decide +kernel
theorem dX3_readOne_68 : decode cX3_readOne 68 = .ok (.invokevirtual 156, 3) := by decide +kernel
theorem dX3_readOne_71 : decode cX3_readOne 71 = .ok (.ireturn, 1) := by decide +kernel
theorem dX3_readOne_72 : decode cX3_readOne 72 = .ok (.aload_n 0, 1) := by decide +kernel
theorem dX3_readOne_73 : decode cX3_readOne 73 = .ok (.dup, 1) := by decide +kernel
theorem dX3_readOne_74 : decode cX3_readOne 74 = .ok (.getfield 38, 3) := by decide +kernel
theorem dX3_readOne_77 : decode cX3_readOne 77 = .ok (.iconst 1, 1) := by decide +kernel
theorem dX3_readOne_78 : decode cX3_readOne 78 = .ok (.iadd, 1) := by decide +kernel
theorem dX3_readOne_79 : decode cX3_readOne 79 = .ok (.putfield 38, 3) := by decide +kernel
theorem dX3_readOne_82 : decode cX3_readOne 82 = .ok (.aload_n 0, 1) := by decide +kernel
theorem dX3_readOne_83 : decode cX3_readOne 83 = .ok (.invokevirtual 159, 3) := by decide +kernel
theorem dX3_readOne_86 : decode cX3_readOne 86 = .ok (.aload_n 2, 1) := by decide +kernel
theorem dX3_readOne_87 : decode cX3_readOne 87 = .ok (.getstatic 190, 3) := by decide +kernel
theorem dX3_readOne_90 : decode cX3_readOne 90 = .ok (.if_acmp .ne 23, 3) := by decide +kernel
theorem dX3_readOne_93 : decode cX3_readOne 93 = .ok (.aload_n 0, 1) := by decide +kernel
theorem dX3_readOne_94 : decode cX3_readOne 94 = .ok (.iload_n 1, 1) := by decide +kernel
theorem dX3_readOne_95 : decode cX3_readOne 95 = .ok (.iconst 1, 1) := by decide +kernel
theorem dX3_readOne_96 : decode cX3_readOne 96 = .ok (.iadd, 1) := by decide +kernel
theorem dX3_readOne_97 : decode cX3_readOne 97 = .ok (.invokevirtual 203, 3) := by decide +kernel
theorem dX3_readOne_100 : decode cX3_readOne 100 = .ok (.istore 4, 2) := by decide +kernel
theorem dX3_readOne_102 : decode cX3_readOne 102 = .ok (.aload_n 0, 1) := by decide +kernel
theorem dX3_readOne_103 : decode cX3_readOne 103 = .ok (.iconst 3, 1) := by decide +kernel
theorem dX3_readOne_104 : decode cX3_readOne 104 = .ok (.iconst 0, 1) := by decide +kernel
theorem dX3_readOne_105 : decode cX3_readOne 105 = .ok (.iconst 0, 1) := by decide +kernel
theorem dX3_readOne_106 : decode cX3_readOne 106 = .ok (.invokevirtual 199, 3) := by decide +kernel
theorem dX3_readOne_109 : decode cX3_readOne 109 = .ok (.pop, 1) := by decide +kernel
theorem dX3_readOne_110 : decode cX3_readOne 110 = .ok (.iload 4, 2) := by decide +kernel
theorem dX3_readOne_112 : decode cX3_readOne 112 = .ok (.ireturn, 1) := by decide +kernel
theorem dX3_readOne_113 : decode cX3_readOne 113 = .ok (.aload_n 2, 1) := by decide +kernel
theorem dX3_readOne_114 : decode cX3_readOne 114 = .ok (.getstatic 209, 3) := by decide +kernel
theorem dX3_readOne_117 : decode cX3_readOne 117 = .ok (.if_acmp .ne 29, 3) := by decide +kernel
theorem dX3_readOne_120 : decode cX3_readOne 120 = .ok (.aload_n 0, 1) := by decide +kernel
theorem dX3_readOne_121 : decode cX3_readOne 121 = .ok (.iload_n 1, 1) := by decide +kernel
theorem dX3_readOne_122 : decode cX3_readOne 122 = .ok (.iconst 1, 1) := by decide +kernel
theorem dX3_readOne_123 : decode cX3_readOne 123 = .ok (.iadd, 1) := by decide +kernel
theorem dX3_readOne_124 : decode cX3_readOne 124 = .ok (.invokevirtual 180, 3) := by decide +kernel
theorem dX3_readOne_127 : decode cX3_readOne 127 = .ok (.ifCond .eq 17, 3) := by decide +kernel
theorem dX3_readOne_130 : decode cX3_readOne 130 = .ok (.aload_n 0, 1) := by decide +kernel
theorem dX3_readOne_131 : decode cX3_readOne 131 = .ok (.getstatic 212, 3) := by decide +kernel
theorem dX3_readOne_134 : decode cX3_readOne 134 = .ok (.invokevirtual 186, 3) := by decide +kernel
theorem dX3_readOne_137 : decode cX3_readOne 137 = .ok (.ifCond .eq 7, 3) := by decide +kernel
theorem dX3_readOne_140 : decode cX3_readOne 140 = .ok (.iconst 1, 1) := by decide +kernel
theorem dX3_readOne_141 : decode cX3_readOne 141 = .ok (.goto 4, 3) := by decide +kernel
theorem dX3_readOne_144 : decode cX3_readOne 144 = .ok (.iconst 0, 1) := by decide +kernel
theorem dX3_readOne_145 : decode cX3_readOne 145 = .ok (.ireturn, 1) := by decide +kernel
theorem dX3_readOne_146 : decode cX3_readOne 146 = .ok (.aload_n 2, 1) := by decide +kernel
theorem dX3_readOne_147 : decode cX3_readOne 147 = .ok (.getfield 162, 3) := by decide +kernel
theorem dX3_readOne_150 : decode cX3_readOne 150 = .ok (.iconst 2, 1) := by decide +kernel
theorem dX3_readOne_151 : decode cX3_readOne 151 = .ok (.if_icmp .ne 16, 3) := by decide +kernel
theorem dX3_readOne_154 : decode cX3_readOne 154 = .ok (.aload_n 0, 1) := by decide +kernel
theorem dX3_readOne_155 : decode cX3_readOne 155 = .ok (.iconst 2, 1) := by decide +kernel
theorem dX3_readOne_156 : decode cX3_readOne 156 = .ok (.aload_n 2, 1) := by decide +kernel
theorem dX3_readOne_157 : decode cX3_readOne 157 = .ok (.getfield 168, 3) := by decide +kernel
theorem dX3_readOne_160 : decode cX3_readOne 160 = .ok (.iconst 0, 1) := by decide +kernel
theorem dX3_readOne_161 : decode cX3_readOne 161 = .ok (.invokevirtual 199, 3) := by decide +kernel
theorem dX3_readOne_164 : decode cX3_readOne 164 = .ok (.goto 11, 3) := by decide +kernel
theorem dX3_readOne_167 : decode cX3_readOne 167 = .ok (.aload_n 0, 1) := by decide +kernel
theorem dX3_readOne_168 : decode cX3_readOne 168 = .ok (.aload_n 2, 1) := by decide +kernel
theorem dX3_readOne_169 : decode cX3_readOne 169 = .ok (.getfield 168, 3) := by decide +kernel
theorem dX3_readOne_172 : decode cX3_readOne 172 = .ok (.invokevirtual 215, 3) := by decide +kernel
theorem dX3_readOne_175 : decode cX3_readOne 175 = .ok (.ireturn, 1) := by decide +kernel
theorem dX3_readSign_0 : decode cX3_readSign 0 = .ok (.aload_n 0, 1) := by decide +kernel
theorem dX3_readSign_1 : decode cX3_readSign 1 = .ok (.invokevirtual 58, 3) := by decide +kernel
theorem dX3_readSign_4 : decode cX3_readSign 4 = .ok (.astore_n 2, 1) := by decide +kernel
theorem dX3_readSign_5 : decode cX3_readSign 5 = .ok (.aload_n 2, 1) := by decide +kernel
theorem dX3_readSign_6 : decode cX3_readSign 6 = .ok (.getfield 162, 3) := by decide +kernel
theorem dX3_readSign_9 : decode cX3_readSign 9 = .ok (.iconst 4, 1) := by decide +kernel
theorem dX3_readSign_10 : decode cX3_readSign 10 = .ok (.if_icmp .eq 9, 3) := by decide +kernel
theorem dX3_readSign_13 : decode cX3_readSign 13 = .ok (.aload_n 0, 1) := by decide +kernel
theorem dX3_readSign_14 : decode cX3_readSign 14 = .ok (.iconst 1, 1) := by decide +kernel
theorem dX3_readSign_15 : decode cX3_readSign 15 = .ok (.invokevirtual 156, 3) := by decide +kernel
theorem dX3_readSign_18 : decode cX3_readSign 18 = .ok (.ireturn, 1) := by decide +kernel
theorem dX3_readSign_19 : decode cX3_readSign 19 = .ok (.aload_n 0, 1) := by decide +kernel
theorem dX3_readSign_20 : decode cX3_readSign 20 = .ok (.invokevirtual 159, 3) := by decide +kernel
theorem dX3_readSign_23 : decode cX3_readSign 23 = .ok (.aload_n 0, 1) := by decide +kernel
theorem dX3_readSign_24 : decode cX3_readSign 24 = .ok (.invokevirtual 58, 3) := by decide +kernel
theorem dX3_readSign_27 : decode cX3_readSign 27 = .ok (.getstatic 129, 3) := by decide +kernel
theorem dX3_readSign_30 : decode cX3_readSign 30 = .ok (.if_acmp .eq 9, 3) := by decide +kernel
theorem dX3_readSign_33 : decode cX3_readSign 33 = .ok (.aload_n 0, 1) := by decide +kernel
theorem dX3_readSign_34 : decode cX3_readSign 34 = .ok (.iconst 1, 1) := by decide +kernel
theorem dX3_readSign_35 : decode cX3_readSign 35 = .ok (.invokevirtual 156, 3) := by decide +kernel
theorem dX3_readSign_38 : decode cX3_readSign 38 = .ok (.ireturn, 1) := by decide +kernel
theorem dX3_readSign_39 : decode cX3_readSign 39 = .ok (.aload_n 0, 1) := by decide +kernel
theorem dX3_readSign_40 : decode cX3_readSign 40 = .ok (.aload_n 2, 1) := by decide +kernel
theorem dX3_readSign_41 : decode cX3_readSign 41 = .ok (.getfield 168, 3) := by decide +kernel
theorem dX3_readSign_44 : decode cX3_readSign 44 = .ok (.iload_n 1, 1) := by decide +kernel
theorem dX3_readSign_45 : decode cX3_readSign 45 = .ok (.aload_n 0, 1) := by decide +kernel
theorem dX3_readSign_46 : decode cX3_readSign 46 = .ok (.getfield 19, 3) := by decide +kernel
theorem dX3_readSign_49 : decode cX3_readSign 49 = .ok (.aload_n 0, 1) := by decide +kernel
theorem dX3_readSign_50 : decode cX3_readSign 50 = .ok (.getfield 41, 3) := by decide +kernel
theorem dX3_readSign_53 : decode cX3_readSign 53 = .ok (.iaload, 1) := by decide +kernel
theorem dX3_readSign_54 : decode cX3_readSign 54 = .ok (.invokevirtual 199, 3) := by decide +kernel
theorem dX3_readSign_57 : decode cX3_readSign 57 = .ok (.pop, 1) := by decide +kernel
theorem dX3_readSign_58 : decode cX3_readSign 58 = .ok (.aload_n 0, 1) := by decide +kernel
theorem dX3_readSign_59 : decode cX3_readSign 59 = .ok (.invokevirtual 159, 3) := by decide +kernel
theorem dX3_readSign_62 : decode cX3_readSign 62 = .ok (.iconst 1, 1) := by decide +kernel
theorem dX3_readSign_63 : decode cX3_readSign 63 = .ok (.ireturn, 1) := by decide +kernel
theorem dX3_readValue_0 : decode cX3_readValue 0 = .ok (.aload_n 0, 1) := by decide +kernel
theorem dX3_readValue_1 : decode cX3_readValue 1 = .ok (.invokevirtual 58, 3) := by decide +kernel
theorem dX3_readValue_4 : decode cX3_readValue 4 = .ok (.getstatic 129, 3) := by decide +kernel
theorem dX3_readValue_7 : decode cX3_readValue 7 = .ok (.if_acmp .ne 24, 3) := by decide +kernel
theorem dX3_readValue_10 : decode cX3_readValue 10 = .ok (.aload_n 0, 1) := by decide +kernel
theorem dX3_readValue_11 : decode cX3_readValue 11 = .ok (.getfield 19, 3) := by decide +kernel
theorem dX3_readValue_14 : decode cX3_readValue 14 = .ok (.aload_n 0, 1) := by decide +kernel
theorem dX3_readValue_15 : decode cX3_readValue 15 = .ok (.getfield 41, 3) := by decide +kernel
theorem dX3_readValue_18 : decode cX3_readValue 18 = .ok (.iaload, 1) := by decide +kernel
theorem dX3_readValue_19 : decode cX3_readValue 19 = .ok (.sipush 2000, 3) := by decide +kernel
theorem dX3_readValue_22 : decode cX3_readValue 22 = .ok (.if_icmp .le 9, 3) := by decide +kernel
theorem dX3_readValue_25 : decode cX3_readValue 25 = .ok (.aload_n 0, 1) := by decide +kernel
theorem dX3_readValue_26 : decode cX3_readValue 26 = .ok (.iconst 2, 1) := by decide +kernel
theorem dX3_readValue_27 : decode cX3_readValue 27 = .ok (.invokevirtual 156, 3) := by decide +kernel
theorem dX3_readValue_30 : decode cX3_readValue 30 = .ok (.ireturn, 1) := by decide +kernel
theorem dX3_readValue_31 : decode cX3_readValue 31 = .ok (.aload_n 0, 1) := by decide +kernel
theorem dX3_readValue_32 : decode cX3_readValue 32 = .ok (.getfield 27, 3) := by decide +kernel
theorem dX3_readValue_35 : decode cX3_readValue 35 = .ok (.getfield 79, 3) := by decide +kernel
theorem dX3_readValue_38 : decode cX3_readValue 38 = .ok (.aload_n 0, 1) := by decide +kernel
theorem dX3_readValue_39 : decode cX3_readValue 39 = .ok (.getfield 31, 3) := by decide +kernel
theorem dX3_readValue_42 : decode cX3_readValue 42 = .ok (.aload_n 0, 1) := by decide +kernel
theorem dX3_readValue_43 : decode cX3_readValue 43 = .ok (.getfield 19, 3) := by decide +kernel
theorem dX3_readValue_46 : decode cX3_readValue 46 = .ok (.aload_n 0, 1) := by decide +kernel
theorem dX3_readValue_47 : decode cX3_readValue 47 = .ok (.getfield 41, 3) := by decide +kernel
theorem dX3_readValue_50 : decode cX3_readValue 50 = .ok (.iaload, 1) := by decide +kernel
theorem dX3_readValue_51 : decode cX3_readValue 51 = .ok (.iastore, 1) := by decide +kernel
theorem dX3_readValue_52 : decode cX3_readValue 52 = .ok (.aload_n 0, 1) := by decide +kernel
theorem dX3_readValue_53 : decode cX3_readValue 53 = .ok (.getstatic 129, 3) := by decide +kernel
theorem dX3_readValue_56 : decode cX3_readValue 56 = .ok (.invokevirtual 186, 3) := by decide +kernel
theorem dX3_readValue_59 : decode cX3_readValue 59 = .ok (.ireturn, 1) := by decide +kernel
theorem dX3_step_0 : decode cX3_step 0 = .ok (.aload_n 0, 1) := by decide +kernel
theorem dX3_step_1 : decode cX3_step 1 = .ok (.getfield 41, 3) := by decide +kernel
theorem dX3_step_4 : decode cX3_step 4 = .ok (.aload_n 0, 1) := by decide +kernel
theorem dX3_step_5 : decode cX3_step 5 = .ok (.getfield 98, 3) := by decide +kernel
theorem dX3_step_8 : decode cX3_step 8 = .ok (.iconst 1, 1) := by decide +kernel
theorem dX3_step_9 : decode cX3_step 9 = .ok (.isub, 1) := by decide +kernel
theorem dX3_step_10 : decode cX3_step 10 = .ok (.if_icmp .ge 13, 3) := by decide +kernel
theorem dX3_step_13 : decode cX3_step 13 = .ok (.aload_n 0, 1) := by decide +kernel
theorem dX3_step_14 : decode cX3_step 14 = .ok (.dup, 1) := by decide +kernel
theorem dX3_step_15 : decode cX3_step 15 = .ok (.getfield 41, 3) := by decide +kernel
theorem dX3_step_18 : decode cX3_step 18 = .ok (.iconst 1, 1) := by decide +kernel
theorem dX3_step_19 : decode cX3_step 19 = .ok (.iadd, 1) := by decide +kernel
theorem dX3_step_20 : decode cX3_step 20 = .ok (.putfield 41, 3) := by decide +kernel
theorem dX3_step_23 : decode cX3_step 23 = .ok (.return_, 1) := by decide +kernel
theorem dX3_take_0 : decode cX3_take 0 = .ok (.aload_n 0, 1) := by decide +kernel
theorem dX3_take_1 : decode cX3_take 1 = .ok (.invokevirtual 58, 3) := by decide +kernel
theorem dX3_take_4 : decode cX3_take 4 = .ok (.aload_n 1, 1) := by decide +kernel
theorem dX3_take_5 : decode cX3_take 5 = .ok (.if_acmp .eq 9, 3) := by decide +kernel
theorem dX3_take_8 : decode cX3_take 8 = .ok (.aload_n 0, 1) := by decide +kernel
theorem dX3_take_9 : decode cX3_take 9 = .ok (.iconst 1, 1) := by decide +kernel
theorem dX3_take_10 : decode cX3_take 10 = .ok (.invokevirtual 156, 3) := by decide +kernel
theorem dX3_take_13 : decode cX3_take 13 = .ok (.ireturn, 1) := by decide +kernel
theorem dX3_take_14 : decode cX3_take 14 = .ok (.aload_n 0, 1) := by decide +kernel
theorem dX3_take_15 : decode cX3_take 15 = .ok (.invokevirtual 159, 3) := by decide +kernel
theorem dX3_take_18 : decode cX3_take 18 = .ok (.iconst 1, 1) := by decide +kernel
theorem dX3_take_19 : decode cX3_take 19 = .ok (.ireturn, 1) := by decide +kernel
theorem dX3_token_0 : decode cX3_token 0 = .ok (.aload_n 0, 1) := by decide +kernel
theorem dX3_token_1 : decode cX3_token 1 = .ok (.getfield 11, 3) := by decide +kernel
theorem dX3_token_4 : decode cX3_token 4 = .ok (.aload_n 0, 1) := by decide +kernel
theorem dX3_token_5 : decode cX3_token 5 = .ok (.getfield 41, 3) := by decide +kernel
theorem dX3_token_8 : decode cX3_token 8 = .ok (.aaload, 1) := by decide +kernel
theorem dX3_token_9 : decode cX3_token 9 = .ok (.astore_n 1, 1) := by decide +kernel
theorem dX3_token_10 : decode cX3_token 10 = .ok (.aload_n 1, 1) := by decide +kernel
theorem dX3_token_11 : decode cX3_token 11 = .ok (.ifnonnull 9, 3) := by decide +kernel
theorem dX3_token_20 : decode cX3_token 20 = .ok (.aload_n 1, 1) := by decide +kernel
theorem dX3_token_21 : decode cX3_token 21 = .ok (.areturn, 1) := by decide +kernel
def eC (fv : Nat → Int32) (ar : Nat → Nat → Int32) : Prop := ∀ i : Nat, (i : Int) < (fv 15).toInt → (ar 40 i).toInt ≤ (fv 16).toInt
theorem eC_fr {M N : List Nat} {fv fv1 : Nat → Int32} {ar ar1 : Nat → Nat → Int32} (h : eC fv ar) (f : fM M fv fv1) (a : fA N ar ar1) (h0 : M.contains 15 = false) (h1 : M.contains 16 = false) (h2 : N.contains 40 = false) : eC fv1 ar1 := by
  intro i; rw [f 15 h0, f 16 h1, a 40 h2]; exact h i
theorem eC_code {fv fv1 : Nat → Int32} {ar : Nat → Nat → Int32} {x : Int32} (h : eC fv ar) (e : fv1 = upd fv 16 x) (hx : (fv 16).toInt ≤ x.toInt) : eC fv1 ar := by
  subst e
  intro i hi
  exact Int.le_trans (h i hi) hx
theorem eC_line {fv fv1 : Nat → Int32} {ar ar1 : Nat → Nat → Int32} {i x y : Int32} (h : eC fv ar) (e : ar1 = upM ar 40 (upd (ar 40) i.toNatClampNeg x)) (hi : fv 15 = i) (h0 : 0 ≤ i.toInt) (hx : fv 16 = x) (e2 : fv1 = upd fv 15 y) (hy : y.toInt = i.toInt + 1) : eC fv1 ar1 := by
  subst e; subst e2
  intro j hj
  have hj : (j : Int) < y.toInt := hj
  show (upd (ar 40) i.toNatClampNeg x j).toInt ≤ (fv 16).toInt
  by_cases q : j = i.toNatClampNeg
  · rw [q, up_eq, hx]; exact Int.le_refl _
  · rw [up_ne q]
    refine h j ?_
    rw [hi]
    have e9 : i.toNatClampNeg = i.toInt.toNat := rfl
    omega
theorem eC_zero {fv : Nat → Int32} {ar : Nat → Nat → Int32} (h : fv 15 = 0) : eC fv ar := by
  intro i hi
  rw [h] at hi
  have z : (0 : Int32).toInt = 0 := by decide
  omega

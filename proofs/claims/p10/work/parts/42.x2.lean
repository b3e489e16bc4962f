theorem dX11_end_0 : decode cX11_end 0 = .ok (.iload_n 1, 1) := by decide +kernel
theorem dX11_end_1 : decode cX11_end 1 = .ok (.ifCond .lt 11, 3) := by decide +kernel
theorem dX11_end_4 : decode cX11_end 4 = .ok (.iload_n 1, 1) := by decide +kernel
theorem dX11_end_5 : decode cX11_end 5 = .ok (.aload_n 0, 1) := by decide +kernel
theorem dX11_end_6 : decode cX11_end 6 = .ok (.getfield 50, 3) := by decide +kernel
theorem dX11_end_9 : decode cX11_end 9 = .ok (.if_icmp .le 5, 3) := by decide +kernel
theorem dX11_end_12 : decode cX11_end 12 = .ok (.iconst 0, 1) := by decide +kernel
theorem dX11_end_13 : decode cX11_end 13 = .ok (.ireturn, 1) := by decide +kernel
theorem dX11_end_14 : decode cX11_end 14 = .ok (.aload_n 0, 1) := by decide +kernel
theorem dX11_end_15 : decode cX11_end 15 = .ok (.iload_n 1, 1) := by decide +kernel
theorem dX11_end_16 : decode cX11_end 16 = .ok (.putfield 50, 3) := by decide +kernel
theorem dX11_end_19 : decode cX11_end 19 = .ok (.iconst 1, 1) := by decide +kernel
theorem dX11_end_20 : decode cX11_end 20 = .ok (.ireturn, 1) := by decide +kernel
theorem dX11_far_0 : decode cX11_far 0 = .ok (.iload_n 1, 1) := by decide +kernel
theorem dX11_far_1 : decode cX11_far 1 = .ok (.invokestatic 70, 3) := by decide +kernel
theorem dX11_far_4 : decode cX11_far 4 = .ok (.ifCond .eq 10, 3) := by decide +kernel
theorem dX11_far_7 : decode cX11_far 7 = .ok (.iload_n 2, 1) := by decide +kernel
theorem dX11_far_8 : decode cX11_far 8 = .ok (.invokestatic 70, 3) := by decide +kernel
theorem dX11_far_11 : decode cX11_far 11 = .ok (.ifCond .ne 5, 3) := by decide +kernel
theorem dX11_far_14 : decode cX11_far 14 = .ok (.iconst (-1), 1) := by decide +kernel
theorem dX11_far_15 : decode cX11_far 15 = .ok (.ireturn, 1) := by decide +kernel
theorem dX11_far_16 : decode cX11_far 16 = .ok (.aload_n 0, 1) := by decide +kernel
theorem dX11_far_17 : decode cX11_far 17 = .ok (.getfield 16, 3) := by decide +kernel
theorem dX11_far_20 : decode cX11_far 20 = .ok (.getfield 60, 3) := by decide +kernel
theorem dX11_far_23 : decode cX11_far 23 = .ok (.iload_n 1, 1) := by decide +kernel
theorem dX11_far_24 : decode cX11_far 24 = .ok (.iload_n 2, 1) := by decide +kernel
theorem dX11_far_25 : decode cX11_far 25 = .ok (.invokevirtual 74, 3) := by decide +kernel
theorem dX11_far_28 : decode cX11_far 28 = .ok (.istore_n 3, 1) := by decide +kernel
theorem dX11_far_29 : decode cX11_far 29 = .ok (.iload_n 3, 1) := by decide +kernel
theorem dX11_far_30 : decode cX11_far 30 = .ok (.ldc 78, 2) := by decide +kernel
theorem dX11_far_32 : decode cX11_far 32 = .ok (.if_icmp .lt 8, 3) := by decide +kernel
theorem dX11_far_35 : decode cX11_far 35 = .ok (.bipush (-2), 2) := by decide +kernel
theorem dX11_far_37 : decode cX11_far 37 = .ok (.goto 4, 3) := by decide +kernel
theorem dX11_far_40 : decode cX11_far 40 = .ok (.iload_n 3, 1) := by decide +kernel
theorem dX11_far_41 : decode cX11_far 41 = .ok (.ireturn, 1) := by decide +kernel
theorem dX11_fault_0 : decode cX11_fault 0 = .ok (.aload_n 0, 1) := by decide +kernel
theorem dX11_fault_1 : decode cX11_fault 1 = .ok (.getfield 171, 3) := by decide +kernel
theorem dX11_fault_4 : decode cX11_fault 4 = .ok (.ireturn, 1) := by decide +kernel
theorem dX11_feed_0 : decode cX11_feed 0 = .ok (.aload_n 0, 1) := by decide +kernel
theorem dX11_feed_1 : decode cX11_feed 1 = .ok (.getfield 50, 3) := by decide +kernel
theorem dX11_feed_4 : decode cX11_feed 4 = .ok (.bipush 20, 2) := by decide +kernel
theorem dX11_feed_6 : decode cX11_feed 6 = .ok (.iadd, 1) := by decide +kernel
theorem dX11_feed_7 : decode cX11_feed 7 = .ok (.sipush 340, 3) := by decide +kernel
theorem dX11_feed_10 : decode cX11_feed 10 = .ok (.if_icmp .le 5, 3) := by decide +kernel
theorem dX11_feed_13 : decode cX11_feed 13 = .ok (.iconst (-1), 1) := by decide +kernel
theorem dX11_feed_14 : decode cX11_feed 14 = .ok (.ireturn, 1) := by decide +kernel
theorem dX11_feed_15 : decode cX11_feed 15 = .ok (.aload_n 0, 1) := by decide +kernel
theorem dX11_feed_16 : decode cX11_feed 16 = .ok (.iload_n 1, 1) := by decide +kernel
theorem dX11_feed_17 : decode cX11_feed 17 = .ok (.invokevirtual 53, 3) := by decide +kernel
theorem dX11_feed_20 : decode cX11_feed 20 = .ok (.aload_n 0, 1) := by decide +kernel
theorem dX11_feed_21 : decode cX11_feed 21 = .ok (.iload_n 2, 1) := by decide +kernel
theorem dX11_feed_22 : decode cX11_feed 22 = .ok (.invokevirtual 53, 3) := by decide +kernel
theorem dX11_feed_25 : decode cX11_feed 25 = .ok (.aload_n 0, 1) := by decide +kernel
theorem dX11_feed_26 : decode cX11_feed 26 = .ok (.iload_n 3, 1) := by decide +kernel
theorem dX11_feed_27 : decode cX11_feed 27 = .ok (.invokevirtual 53, 3) := by decide +kernel
theorem dX11_feed_30 : decode cX11_feed 30 = .ok (.aload_n 0, 1) := by decide +kernel
theorem dX11_feed_31 : decode cX11_feed 31 = .ok (.iload 4, 2) := by decide +kernel
theorem dX11_feed_33 : decode cX11_feed 33 = .ok (.invokevirtual 53, 3) := by decide +kernel
theorem dX11_feed_36 : decode cX11_feed 36 = .ok (.aload_n 0, 1) := by decide +kernel
theorem dX11_feed_37 : decode cX11_feed 37 = .ok (.iload 5, 2) := by decide +kernel
theorem dX11_feed_39 : decode cX11_feed 39 = .ok (.invokevirtual 53, 3) := by decide +kernel
theorem dX11_feed_42 : decode cX11_feed 42 = .ok (.aload_n 0, 1) := by decide +kernel
theorem dX11_feed_43 : decode cX11_feed 43 = .ok (.getfield 50, 3) := by decide +kernel
theorem dX11_feed_46 : decode cX11_feed 46 = .ok (.ireturn, 1) := by decide +kernel
theorem dX11_give_0 : decode cX11_give 0 = .ok (.iload_n 1, 1) := by decide +kernel
theorem dX11_give_1 : decode cX11_give 1 = .ok (.iconst 1, 1) := by decide +kernel
theorem dX11_give_2 : decode cX11_give 2 = .ok (.if_icmp .lt 9, 3) := by decide +kernel
theorem dX11_give_5 : decode cX11_give 5 = .ok (.iload_n 1, 1) := by decide +kernel
theorem dX11_give_6 : decode cX11_give 6 = .ok (.ldc 144, 2) := by decide +kernel
theorem dX11_give_8 : decode cX11_give 8 = .ok (.if_icmp .le 5, 3) := by decide +kernel
theorem dX11_give_11 : decode cX11_give 11 = .ok (.iconst (-1), 1) := by decide +kernel
theorem dX11_give_12 : decode cX11_give 12 = .ok (.ireturn, 1) := by decide +kernel
theorem dX11_give_13 : decode cX11_give 13 = .ok (.aload_n 0, 1) := by decide +kernel
theorem dX11_give_14 : decode cX11_give 14 = .ok (.getfield 16, 3) := by decide +kernel
theorem dX11_give_17 : decode cX11_give 17 = .ok (.aload_n 0, 1) := by decide +kernel
theorem dX11_give_18 : decode cX11_give 18 = .ok (.getfield 16, 3) := by decide +kernel
theorem dX11_give_21 : decode cX11_give 21 = .ok (.getfield 145, 3) := by decide +kernel
theorem dX11_give_24 : decode cX11_give 24 = .ok (.iload_n 1, 1) := by decide +kernel
theorem dX11_give_25 : decode cX11_give 25 = .ok (.iadd, 1) := by decide +kernel
theorem dX11_give_26 : decode cX11_give 26 = .ok (.ldc 148, 2) := by decide +kernel
theorem dX11_give_28 : decode cX11_give 28 = .ok (.invokestatic 149, 3) := by decide +kernel
theorem dX11_give_31 : decode cX11_give 31 = .ok (.putfield 145, 3) := by decide +kernel
theorem dX11_give_34 : decode cX11_give 34 = .ok (.aload_n 0, 1) := by decide +kernel
theorem dX11_give_35 : decode cX11_give 35 = .ok (.getfield 16, 3) := by decide +kernel
theorem dX11_give_38 : decode cX11_give 38 = .ok (.getfield 145, 3) := by decide +kernel
theorem dX11_give_41 : decode cX11_give 41 = .ok (.ireturn, 1) := by decide +kernel
theorem dX11_insure_0 : decode cX11_insure 0 = .ok (.aload_n 0, 1) := by decide +kernel
theorem dX11_insure_1 : decode cX11_insure 1 = .ok (.getfield 16, 3) := by decide +kernel
theorem dX11_insure_4 : decode cX11_insure 4 = .ok (.getfield 101, 3) := by decide +kernel
theorem dX11_insure_7 : decode cX11_insure 7 = .ok (.iload_n 1, 1) := by decide +kernel
theorem dX11_insure_8 : decode cX11_insure 8 = .ok (.invokevirtual 110, 3) := by decide +kernel
theorem dX11_insure_11 : decode cX11_insure 11 = .ok (.ifCond .eq 10, 3) := by decide +kernel
theorem dX11_insure_14 : decode cX11_insure 14 = .ok (.iload_n 2, 1) := by decide +kernel
theorem dX11_insure_15 : decode cX11_insure 15 = .ok (.invokestatic 98, 3) := by decide +kernel
theorem dX11_insure_18 : decode cX11_insure 18 = .ok (.ifCond .ne 5, 3) := by decide +kernel
theorem dX11_insure_21 : decode cX11_insure 21 = .ok (.iconst 0, 1) := by decide +kernel
theorem dX11_insure_22 : decode cX11_insure 22 = .ok (.ireturn, 1) := by decide +kernel
theorem dX11_insure_23 : decode cX11_insure 23 = .ok (.aload_n 0, 1) := by decide +kernel
theorem dX11_insure_24 : decode cX11_insure 24 = .ok (.getfield 16, 3) := by decide +kernel
theorem dX11_insure_27 : decode cX11_insure 27 = .ok (.getfield 101, 3) := by decide +kernel
theorem dX11_insure_30 : decode cX11_insure 30 = .ok (.getfield 113, 3) := by decide +kernel
theorem dX11_insure_33 : decode cX11_insure 33 = .ok (.iload_n 1, 1) := by decide +kernel
theorem dX11_insure_34 : decode cX11_insure 34 = .ok (.iload_n 2, 1) := by decide +kernel
theorem dX11_insure_35 : decode cX11_insure 35 = .ok (.iastore, 1) := by decide +kernel
theorem dX11_insure_36 : decode cX11_insure 36 = .ok (.iconst 1, 1) := by decide +kernel
theorem dX11_insure_37 : decode cX11_insure 37 = .ok (.ireturn, 1) := by decide +kernel
theorem dX11_next_0 : decode cX11_next 0 = .ok (.iload_n 1, 1) := by decide +kernel
theorem dX11_next_1 : decode cX11_next 1 = .ok (.ifCond .lt 25, 3) := by decide +kernel
theorem dX11_next_4 : decode cX11_next 4 = .ok (.iload_n 1, 1) := by decide +kernel
theorem dX11_next_5 : decode cX11_next 5 = .ok (.sipush 199, 3) := by decide +kernel
theorem dX11_next_8 : decode cX11_next 8 = .ok (.if_icmp .gt 18, 3) := by decide +kernel
theorem dX11_next_11 : decode cX11_next 11 = .ok (.aload_n 0, 1) := by decide +kernel
theorem dX11_next_12 : decode cX11_next 12 = .ok (.getfield 16, 3) := by decide +kernel
theorem dX11_next_15 : decode cX11_next 15 = .ok (.getfield 57, 3) := by decide +kernel
theorem dX11_next_18 : decode cX11_next 18 = .ok (.iload_n 1, 1) := by decide +kernel
theorem dX11_next_19 : decode cX11_next 19 = .ok (.iadd, 1) := by decide +kernel
theorem dX11_next_20 : decode cX11_next 20 = .ok (.sipush 199, 3) := by decide +kernel
theorem dX11_next_23 : decode cX11_next 23 = .ok (.if_icmp .le 5, 3) := by decide +kernel
theorem dX11_next_26 : decode cX11_next 26 = .ok (.iconst (-1), 1) := by decide +kernel
theorem dX11_next_27 : decode cX11_next 27 = .ok (.ireturn, 1) := by decide +kernel
theorem dX11_next_28 : decode cX11_next 28 = .ok (.aload_n 0, 1) := by decide +kernel
theorem dX11_next_29 : decode cX11_next 29 = .ok (.getfield 16, 3) := by decide +kernel
theorem dX11_next_32 : decode cX11_next 32 = .ok (.dup, 1) := by decide +kernel
theorem dX11_next_33 : decode cX11_next 33 = .ok (.getfield 57, 3) := by decide +kernel
theorem dX11_next_36 : decode cX11_next 36 = .ok (.iload_n 1, 1) := by decide +kernel
theorem dX11_next_37 : decode cX11_next 37 = .ok (.iadd, 1) := by decide +kernel
theorem dX11_next_38 : decode cX11_next 38 = .ok (.putfield 57, 3) := by decide +kernel
theorem dX11_next_41 : decode cX11_next 41 = .ok (.aload_n 0, 1) := by decide +kernel
theorem dX11_next_42 : decode cX11_next 42 = .ok (.getfield 16, 3) := by decide +kernel
theorem dX11_next_45 : decode cX11_next 45 = .ok (.getfield 57, 3) := by decide +kernel
theorem dX11_next_48 : decode cX11_next 48 = .ok (.ireturn, 1) := by decide +kernel
theorem dX11_person_0 : decode cX11_person 0 = .ok (.iconst (-1), 1) := by decide +kernel
theorem dX11_person_1 : decode cX11_person 1 = .ok (.istore 4, 2) := by decide +kernel
theorem dX11_person_3 : decode cX11_person 3 = .ok (.aload_n 0, 1) := by decide +kernel
theorem dX11_person_4 : decode cX11_person 4 = .ok (.getfield 50, 3) := by decide +kernel
theorem dX11_person_7 : decode cX11_person 7 = .ok (.bipush 12, 2) := by decide +kernel
theorem dX11_person_9 : decode cX11_person 9 = .ok (.if_icmp .ne 36, 3) := by decide +kernel
theorem dX11_person_12 : decode cX11_person 12 = .ok (.iload_n 1, 1) := by decide +kernel
theorem dX11_person_13 : decode cX11_person 13 = .ok (.invokestatic 70, 3) := by decide +kernel
theorem dX11_person_16 : decode cX11_person 16 = .ok (.ifCond .eq 29, 3) := by decide +kernel
theorem dX11_person_19 : decode cX11_person 19 = .ok (.iload_n 2, 1) := by decide +kernel
theorem dX11_person_20 : decode cX11_person 20 = .ok (.invokestatic 70, 3) := by decide +kernel
theorem dX11_person_23 : decode cX11_person 23 = .ok (.ifCond .eq 22, 3) := by decide +kernel
theorem dX11_person_26 : decode cX11_person 26 = .ok (.aload_n 0, 1) := by decide +kernel
theorem dX11_person_27 : decode cX11_person 27 = .ok (.getfield 16, 3) := by decide +kernel
theorem dX11_person_30 : decode cX11_person 30 = .ok (.getfield 79, 3) := by decide +kernel
theorem dX11_person_33 : decode cX11_person 33 = .ok (.iload_n 1, 1) := by decide +kernel
theorem dX11_person_34 : decode cX11_person 34 = .ok (.iload_n 2, 1) := by decide +kernel
theorem dX11_person_35 : decode cX11_person 35 = .ok (.iload_n 3, 1) := by decide +kernel
theorem dX11_person_36 : decode cX11_person 36 = .ok (.aload_n 0, 1) := by decide +kernel
theorem dX11_person_37 : decode cX11_person 37 = .ok (.getfield 9, 3) := by decide +kernel
theorem dX11_person_40 : decode cX11_person 40 = .ok (.invokevirtual 83, 3) := by decide +kernel
theorem dX11_person_43 : decode cX11_person 43 = .ok (.istore 4, 2) := by decide +kernel
theorem dX11_person_45 : decode cX11_person 45 = .ok (.aload_n 0, 1) := by decide +kernel
theorem dX11_person_46 : decode cX11_person 46 = .ok (.iconst 0, 1) := by decide +kernel
theorem dX11_person_47 : decode cX11_person 47 = .ok (.putfield 50, 3) := by decide +kernel
theorem dX11_person_50 : decode cX11_person 50 = .ok (.iload 4, 2) := by decide +kernel
theorem dX11_person_52 : decode cX11_person 52 = .ok (.ireturn, 1) := by decide +kernel
theorem dX11_putOnTape_0 : decode cX11_putOnTape 0 = .ok (.bipush 24, 2) := by decide +kernel
theorem dX11_putOnTape_2 : decode cX11_putOnTape 2 = .ok (.istore_n 2, 1) := by decide +kernel
theorem dX11_putOnTape_3 : decode cX11_putOnTape 3 = .ok (.iload_n 2, 1) := by decide +kernel
theorem dX11_putOnTape_4 : decode cX11_putOnTape 4 = .ok (.ifCond .lt 45, 3) := by decide +kernel
theorem dX11_putOnTape_7 : decode cX11_putOnTape 7 = .ok (.aload_n 0, 1) := by decide +kernel
theorem dX11_putOnTape_8 : decode cX11_putOnTape 8 = .ok (.getfield 50, 3) := by decide +kernel
theorem dX11_putOnTape_11 : decode cX11_putOnTape 11 = .ok (.sipush 340, 3) := by decide +kernel
theorem dX11_putOnTape_14 : decode cX11_putOnTape 14 = .ok (.if_icmp .ge 35, 3) := by decide +kernel
theorem dX11_putOnTape_17 : decode cX11_putOnTape 17 = .ok (.aload_n 0, 1) := by decide +kernel
theorem dX11_putOnTape_18 : decode cX11_putOnTape 18 = .ok (.getfield 9, 3) := by decide +kernel
theorem dX11_putOnTape_21 : decode cX11_putOnTape 21 = .ok (.aload_n 0, 1) := by decide +kernel
theorem dX11_putOnTape_22 : decode cX11_putOnTape 22 = .ok (.getfield 50, 3) := by decide +kernel
theorem dX11_putOnTape_25 : decode cX11_putOnTape 25 = .ok (.iload_n 1, 1) := by decide +kernel
theorem dX11_putOnTape_26 : decode cX11_putOnTape 26 = .ok (.iload_n 2, 1) := by decide +kernel
theorem dX11_putOnTape_27 : decode cX11_putOnTape 27 = .ok (.ishr, 1) := by decide +kernel
theorem dX11_putOnTape_28 : decode cX11_putOnTape 28 = .ok (.sipush 255, 3) := by decide +kernel
theorem dX11_putOnTape_31 : decode cX11_putOnTape 31 = .ok (.iand, 1) := by decide +kernel
theorem dX11_putOnTape_32 : decode cX11_putOnTape 32 = .ok (.iastore, 1) := by decide +kernel
theorem dX11_putOnTape_33 : decode cX11_putOnTape 33 = .ok (.aload_n 0, 1) := by decide +kernel
theorem dX11_putOnTape_34 : decode cX11_putOnTape 34 = .ok (.dup, 1) := by decide +kernel
theorem dX11_putOnTape_35 : decode cX11_putOnTape 35 = .ok (.getfield 50, 3) := by decide +kernel
theorem dX11_putOnTape_38 : decode cX11_putOnTape 38 = .ok (.iconst 1, 1) := by decide +kernel
theorem dX11_putOnTape_39 : decode cX11_putOnTape 39 = .ok (.iadd, 1) := by decide +kernel
theorem dX11_putOnTape_40 : decode cX11_putOnTape 40 = .ok (.putfield 50, 3) := by decide +kernel
theorem dX11_putOnTape_43 : decode cX11_putOnTape 43 = .ok (.iinc 2 (-8), 3) := by decide +kernel
theorem dX11_putOnTape_46 : decode cX11_putOnTape 46 = .ok (.goto (-43), 3) := by decide +kernel
theorem dX11_putOnTape_49 : decode cX11_putOnTape 49 = .ok (.return_, 1) := by decide +kernel
theorem dX11_rode_0 : decode cX11_rode 0 = .ok (.aload_n 0, 1) := by decide +kernel
theorem dX11_rode_1 : decode cX11_rode 1 = .ok (.getfield 16, 3) := by decide +kernel
theorem dX11_rode_4 : decode cX11_rode 4 = .ok (.getfield 116, 3) := by decide +kernel
theorem dX11_rode_7 : decode cX11_rode 7 = .ok (.iload_n 1, 1) := by decide +kernel
theorem dX11_rode_8 : decode cX11_rode 8 = .ok (.invokevirtual 186, 3) := by decide +kernel
theorem dX11_rode_11 : decode cX11_rode 11 = .ok (.ifCond .eq 18, 3) := by decide +kernel
theorem dX11_rode_14 : decode cX11_rode 14 = .ok (.aload_n 0, 1) := by decide +kernel
theorem dX11_rode_15 : decode cX11_rode 15 = .ok (.getfield 16, 3) := by decide +kernel
theorem dX11_rode_18 : decode cX11_rode 18 = .ok (.getfield 116, 3) := by decide +kernel
theorem dX11_rode_21 : decode cX11_rode 21 = .ok (.getfield 217, 3) := by decide +kernel
theorem dX11_rode_24 : decode cX11_rode 24 = .ok (.iload_n 1, 1) := by decide +kernel
theorem dX11_rode_25 : decode cX11_rode 25 = .ok (.iaload, 1) := by decide +kernel
theorem dX11_rode_26 : decode cX11_rode 26 = .ok (.goto 4, 3) := by decide +kernel
theorem dX11_rode_29 : decode cX11_rode 29 = .ok (.iconst (-1), 1) := by decide +kernel
theorem dX11_rode_30 : decode cX11_rode 30 = .ok (.ireturn, 1) := by decide +kernel
theorem dX11_seatedAt_0 : decode cX11_seatedAt 0 = .ok (.iload_n 1, 1) := by decide +kernel
theorem dX11_seatedAt_1 : decode cX11_seatedAt 1 = .ok (.ifCond .lt 14, 3) := by decide +kernel
theorem dX11_seatedAt_4 : decode cX11_seatedAt 4 = .ok (.iload_n 1, 1) := by decide +kernel
theorem dX11_seatedAt_5 : decode cX11_seatedAt 5 = .ok (.aload_n 0, 1) := by decide +kernel
theorem dX11_seatedAt_6 : decode cX11_seatedAt 6 = .ok (.getfield 39, 3) := by decide +kernel
theorem dX11_seatedAt_9 : decode cX11_seatedAt 9 = .ok (.getfield 231, 3) := by decide +kernel
theorem dX11_seatedAt_12 : decode cX11_seatedAt 12 = .ok (.if_icmp .lt 7, 3) := by decide +kernel
theorem dX11_seatedAt_15 : decode cX11_seatedAt 15 = .ok (.iconst (-1), 1) := by decide +kernel
theorem dX11_seatedAt_16 : decode cX11_seatedAt 16 = .ok (.goto 12, 3) := by decide +kernel
theorem dX11_seatedAt_19 : decode cX11_seatedAt 19 = .ok (.aload_n 0, 1) := by decide +kernel
theorem dX11_seatedAt_20 : decode cX11_seatedAt 20 = .ok (.getfield 39, 3) := by decide +kernel
theorem dX11_seatedAt_23 : decode cX11_seatedAt 23 = .ok (.getfield 233, 3) := by decide +kernel
theorem dX11_seatedAt_26 : decode cX11_seatedAt 26 = .ok (.iload_n 1, 1) := by decide +kernel
theorem dX11_seatedAt_27 : decode cX11_seatedAt 27 = .ok (.iaload, 1) := by decide +kernel
theorem dX11_seatedAt_28 : decode cX11_seatedAt 28 = .ok (.ireturn, 1) := by decide +kernel
theorem dX11_stop_0 : decode cX11_stop 0 = .ok (.aload_n 0, 1) := by decide +kernel
theorem dX11_stop_1 : decode cX11_stop 1 = .ok (.getfield 16, 3) := by decide +kernel
theorem dX11_stop_4 : decode cX11_stop 4 = .ok (.getfield 89, 3) := by decide +kernel
theorem dX11_stop_7 : decode cX11_stop 7 = .ok (.bipush 8, 2) := by decide +kernel
theorem dX11_stop_9 : decode cX11_stop 9 = .ok (.if_icmp .ge 10, 3) := by decide +kernel
theorem dX11_stop_12 : decode cX11_stop 12 = .ok (.iload_n 1, 1) := by decide +kernel
theorem dX11_stop_13 : decode cX11_stop 13 = .ok (.invokestatic 70, 3) := by decide +kernel
theorem dX11_stop_16 : decode cX11_stop 16 = .ok (.ifCond .ne 5, 3) := by decide +kernel
theorem dX11_stop_19 : decode cX11_stop 19 = .ok (.iconst (-1), 1) := by decide +kernel
theorem dX11_stop_20 : decode cX11_stop 20 = .ok (.ireturn, 1) := by decide +kernel
theorem dX11_stop_21 : decode cX11_stop 21 = .ok (.aload_n 0, 1) := by decide +kernel
theorem dX11_stop_22 : decode cX11_stop 22 = .ok (.getfield 16, 3) := by decide +kernel
theorem dX11_stop_25 : decode cX11_stop 25 = .ok (.getfield 92, 3) := by decide +kernel
theorem dX11_stop_28 : decode cX11_stop 28 = .ok (.aload_n 0, 1) := by decide +kernel
theorem dX11_stop_29 : decode cX11_stop 29 = .ok (.getfield 16, 3) := by decide +kernel
theorem dX11_stop_32 : decode cX11_stop 32 = .ok (.getfield 89, 3) := by decide +kernel
theorem dX11_stop_35 : decode cX11_stop 35 = .ok (.iload_n 1, 1) := by decide +kernel
theorem dX11_stop_36 : decode cX11_stop 36 = .ok (.iastore, 1) := by decide +kernel
theorem dX11_stop_37 : decode cX11_stop 37 = .ok (.aload_n 0, 1) := by decide +kernel
theorem dX11_stop_38 : decode cX11_stop 38 = .ok (.getfield 16, 3) := by decide +kernel
theorem dX11_stop_41 : decode cX11_stop 41 = .ok (.dup, 1) := by decide +kernel
theorem dX11_stop_42 : decode cX11_stop 42 = .ok (.getfield 89, 3) := by decide +kernel
theorem dX11_stop_45 : decode cX11_stop 45 = .ok (.iconst 1, 1) := by decide +kernel
theorem dX11_stop_46 : decode cX11_stop 46 = .ok (.iadd, 1) := by decide +kernel
theorem dX11_stop_47 : decode cX11_stop 47 = .ok (.putfield 89, 3) := by decide +kernel
theorem dX11_stop_50 : decode cX11_stop 50 = .ok (.aload_n 0, 1) := by decide +kernel
theorem dX11_stop_51 : decode cX11_stop 51 = .ok (.getfield 16, 3) := by decide +kernel
theorem dX11_stop_54 : decode cX11_stop 54 = .ok (.getfield 89, 3) := by decide +kernel
theorem dX11_stop_57 : decode cX11_stop 57 = .ok (.iconst 1, 1) := by decide +kernel
theorem dX11_stop_58 : decode cX11_stop 58 = .ok (.isub, 1) := by decide +kernel
theorem dX11_stop_59 : decode cX11_stop 59 = .ok (.ireturn, 1) := by decide +kernel
theorem dX11_street_0 : decode cX11_street 0 = .ok (.aload_n 0, 1) := by decide +kernel
theorem dX11_street_1 : decode cX11_street 1 = .ok (.getfield 16, 3) := by decide +kernel
theorem dX11_street_4 : decode cX11_street 4 = .ok (.getfield 60, 3) := by decide +kernel
theorem dX11_street_7 : decode cX11_street 7 = .ok (.iload_n 1, 1) := by decide +kernel
theorem dX11_street_8 : decode cX11_street 8 = .ok (.iload_n 2, 1) := by decide +kernel
theorem dX11_street_9 : decode cX11_street 9 = .ok (.iload_n 3, 1) := by decide +kernel
theorem dX11_street_10 : decode cX11_street 10 = .ok (.invokevirtual 64, 3) := by decide +kernel
theorem dX11_street_13 : decode cX11_street 13 = .ok (.ireturn, 1) := by decide +kernel
theorem dX11_tapeIsRain_0 : decode cX11_tapeIsRain 0 = .ok (.aload_n 0, 1) := by decide +kernel
theorem dX11_tapeIsRain_1 : decode cX11_tapeIsRain 1 = .ok (.getfield 50, 3) := by decide +kernel
theorem dX11_tapeIsRain_4 : decode cX11_tapeIsRain 4 = .ok (.iconst 1, 1) := by decide +kernel
theorem dX11_tapeIsRain_5 : decode cX11_tapeIsRain 5 = .ok (.if_icmp .lt 13, 3) := by decide +kernel
theorem dX11_tapeIsRain_8 : decode cX11_tapeIsRain 8 = .ok (.aload_n 0, 1) := by decide +kernel
theorem dX11_tapeIsRain_9 : decode cX11_tapeIsRain 9 = .ok (.getfield 50, 3) := by decide +kernel
theorem dX11_tapeIsRain_12 : decode cX11_tapeIsRain 12 = .ok (.sipush 200, 3) := by decide +kernel
theorem dX11_tapeIsRain_15 : decode cX11_tapeIsRain 15 = .ok (.if_icmp .le 5, 3) := by decide +kernel
theorem dX11_tapeIsRain_18 : decode cX11_tapeIsRain 18 = .ok (.iconst 0, 1) := by decide +kernel
theorem dX11_tapeIsRain_19 : decode cX11_tapeIsRain 19 = .ok (.ireturn, 1) := by decide +kernel
theorem dX11_tapeIsRain_20 : decode cX11_tapeIsRain 20 = .ok (.iconst 0, 1) := by decide +kernel
theorem dX11_tapeIsRain_21 : decode cX11_tapeIsRain 21 = .ok (.istore_n 1, 1) := by decide +kernel
theorem dX11_tapeIsRain_22 : decode cX11_tapeIsRain 22 = .ok (.iload_n 1, 1) := by decide +kernel
theorem dX11_tapeIsRain_23 : decode cX11_tapeIsRain 23 = .ok (.aload_n 0, 1) := by decide +kernel
theorem dX11_tapeIsRain_24 : decode cX11_tapeIsRain 24 = .ok (.getfield 50, 3) := by decide +kernel
theorem dX11_tapeIsRain_27 : decode cX11_tapeIsRain 27 = .ok (.if_icmp .ge 34, 3) := by decide +kernel
theorem dX11_tapeIsRain_30 : decode cX11_tapeIsRain 30 = .ok (.aload_n 0, 1) := by decide +kernel
theorem dX11_tapeIsRain_31 : decode cX11_tapeIsRain 31 = .ok (.getfield 9, 3) := by decide +kernel
theorem dX11_tapeIsRain_34 : decode cX11_tapeIsRain 34 = .ok (.iload_n 1, 1) := by decide +kernel
theorem dX11_tapeIsRain_35 : decode cX11_tapeIsRain 35 = .ok (.iaload, 1) := by decide +kernel
theorem dX11_tapeIsRain_36 : decode cX11_tapeIsRain 36 = .ok (.bipush 9, 2) := by decide +kernel
theorem dX11_tapeIsRain_38 : decode cX11_tapeIsRain 38 = .ok (.if_icmp .le 17, 3) := by decide +kernel
theorem dX11_tapeIsRain_41 : decode cX11_tapeIsRain 41 = .ok (.aload_n 0, 1) := by decide +kernel
theorem dX11_tapeIsRain_42 : decode cX11_tapeIsRain 42 = .ok (.getfield 9, 3) := by decide +kernel
theorem dX11_tapeIsRain_45 : decode cX11_tapeIsRain 45 = .ok (.iload_n 1, 1) := by decide +kernel
theorem dX11_tapeIsRain_46 : decode cX11_tapeIsRain 46 = .ok (.iaload, 1) := by decide +kernel
theorem dX11_tapeIsRain_47 : decode cX11_tapeIsRain 47 = .ok (.sipush 255, 3) := by decide +kernel
theorem dX11_tapeIsRain_50 : decode cX11_tapeIsRain 50 = .ok (.if_icmp .eq 5, 3) := by decide +kernel
theorem dX11_tapeIsRain_53 : decode cX11_tapeIsRain 53 = .ok (.iconst 0, 1) := by decide +kernel
theorem dX11_tapeIsRain_54 : decode cX11_tapeIsRain 54 = .ok (.ireturn, 1) := by decide +kernel
theorem dX11_tapeIsRain_55 : decode cX11_tapeIsRain 55 = .ok (.iinc 1 1, 3) := by decide +kernel
theorem dX11_tapeIsRain_58 : decode cX11_tapeIsRain 58 = .ok (.goto (-36), 3) := by decide +kernel
theorem dX11_tapeIsRain_61 : decode cX11_tapeIsRain 61 = .ok (.iconst 1, 1) := by decide +kernel
theorem dX11_tapeIsRain_62 : decode cX11_tapeIsRain 62 = .ok (.ireturn, 1) := by decide +kernel
theorem dX11_trip_0 : decode cX11_trip 0 = .ok (.aload_n 0, 1) := by decide +kernel
theorem dX11_trip_1 : decode cX11_trip 1 = .ok (.getfield 16, 3) := by decide +kernel
theorem dX11_trip_4 : decode cX11_trip 4 = .ok (.getfield 101, 3) := by decide +kernel
theorem dX11_trip_7 : decode cX11_trip 7 = .ok (.iload_n 1, 1) := by decide +kernel
theorem dX11_trip_8 : decode cX11_trip 8 = .ok (.invokevirtual 110, 3) := by decide +kernel
theorem dX11_trip_11 : decode cX11_trip 11 = .ok (.ifCond .eq 30, 3) := by decide +kernel
theorem dX11_trip_14 : decode cX11_trip 14 = .ok (.aload_n 0, 1) := by decide +kernel
theorem dX11_trip_15 : decode cX11_trip 15 = .ok (.getfield 16, 3) := by decide +kernel
theorem dX11_trip_18 : decode cX11_trip 18 = .ok (.iload_n 2, 1) := by decide +kernel
theorem dX11_trip_19 : decode cX11_trip 19 = .ok (.invokevirtual 95, 3) := by decide +kernel
theorem dX11_trip_22 : decode cX11_trip 22 = .ok (.ifCond .eq 19, 3) := by decide +kernel
theorem dX11_trip_25 : decode cX11_trip 25 = .ok (.aload_n 0, 1) := by decide +kernel
theorem dX11_trip_26 : decode cX11_trip 26 = .ok (.getfield 16, 3) := by decide +kernel
theorem dX11_trip_29 : decode cX11_trip 29 = .ok (.iload_n 3, 1) := by decide +kernel
theorem dX11_trip_30 : decode cX11_trip 30 = .ok (.invokevirtual 95, 3) := by decide +kernel
theorem dX11_trip_33 : decode cX11_trip 33 = .ok (.ifCond .eq 8, 3) := by decide +kernel
theorem dX11_trip_36 : decode cX11_trip 36 = .ok (.iload_n 2, 1) := by decide +kernel
theorem dX11_trip_37 : decode cX11_trip 37 = .ok (.iload_n 3, 1) := by decide +kernel
theorem dX11_trip_38 : decode cX11_trip 38 = .ok (.if_icmp .ne 5, 3) := by decide +kernel
theorem dX11_trip_41 : decode cX11_trip 41 = .ok (.iconst (-1), 1) := by decide +kernel
theorem dX11_trip_42 : decode cX11_trip 42 = .ok (.ireturn, 1) := by decide +kernel
theorem dX11_trip_43 : decode cX11_trip 43 = .ok (.iload 4, 2) := by decide +kernel
theorem dX11_trip_45 : decode cX11_trip 45 = .ok (.ifCond .lt 11, 3) := by decide +kernel
theorem dX11_trip_48 : decode cX11_trip 48 = .ok (.iload 4, 2) := by decide +kernel
theorem dX11_trip_50 : decode cX11_trip 50 = .ok (.sipush 719, 3) := by decide +kernel
theorem dX11_trip_53 : decode cX11_trip 53 = .ok (.if_icmp .le 5, 3) := by decide +kernel
theorem dX11_trip_56 : decode cX11_trip 56 = .ok (.iconst (-1), 1) := by decide +kernel
theorem dX11_trip_57 : decode cX11_trip 57 = .ok (.ireturn, 1) := by decide +kernel
theorem dX11_trip_58 : decode cX11_trip 58 = .ok (.iload 5, 2) := by decide +kernel
theorem dX11_trip_60 : decode cX11_trip 60 = .ok (.aload_n 0, 1) := by decide +kernel
theorem dX11_trip_61 : decode cX11_trip 61 = .ok (.getfield 16, 3) := by decide +kernel
theorem dX11_trip_64 : decode cX11_trip 64 = .ok (.getfield 57, 3) := by decide +kernel
theorem dX11_trip_67 : decode cX11_trip 67 = .ok (.if_icmp .lt 31, 3) := by decide +kernel
theorem dX11_trip_70 : decode cX11_trip 70 = .ok (.iload 6, 2) := by decide +kernel
theorem dX11_trip_72 : decode cX11_trip 72 = .ok (.iload 5, 2) := by decide +kernel
theorem dX11_trip_74 : decode cX11_trip 74 = .ok (.if_icmp .lt 24, 3) := by decide +kernel
theorem dX11_trip_77 : decode cX11_trip 77 = .ok (.iload 6, 2) := by decide +kernel
theorem dX11_trip_79 : decode cX11_trip 79 = .ok (.sipush 199, 3) := by decide +kernel
theorem dX11_trip_82 : decode cX11_trip 82 = .ok (.if_icmp .gt 16, 3) := by decide +kernel
theorem dX11_trip_85 : decode cX11_trip 85 = .ok (.aload_n 0, 1) := by decide +kernel
theorem dX11_trip_86 : decode cX11_trip 86 = .ok (.getfield 16, 3) := by decide +kernel
theorem dX11_trip_89 : decode cX11_trip 89 = .ok (.getfield 116, 3) := by decide +kernel
theorem dX11_trip_92 : decode cX11_trip 92 = .ok (.invokevirtual 120, 3) := by decide +kernel
theorem dX11_trip_95 : decode cX11_trip 95 = .ok (.ifCond .eq 5, 3) := by decide +kernel
theorem dX11_trip_98 : decode cX11_trip 98 = .ok (.iconst (-1), 1) := by decide +kernel
theorem dX11_trip_99 : decode cX11_trip 99 = .ok (.ireturn, 1) := by decide +kernel
theorem dX11_trip_100 : decode cX11_trip 100 = .ok (.aload_n 0, 1) := by decide +kernel
theorem dX11_trip_101 : decode cX11_trip 101 = .ok (.getfield 16, 3) := by decide +kernel
theorem dX11_trip_104 : decode cX11_trip 104 = .ok (.getfield 116, 3) := by decide +kernel
theorem dX11_trip_107 : decode cX11_trip 107 = .ok (.iload_n 1, 1) := by decide +kernel
theorem dX11_trip_108 : decode cX11_trip 108 = .ok (.iload_n 2, 1) := by decide +kernel
theorem dX11_trip_109 : decode cX11_trip 109 = .ok (.iload_n 3, 1) := by decide +kernel
theorem dX11_trip_110 : decode cX11_trip 110 = .ok (.iload 4, 2) := by decide +kernel
theorem dX11_trip_112 : decode cX11_trip 112 = .ok (.invokevirtual 126, 3) := by decide +kernel
theorem dX11_trip_115 : decode cX11_trip 115 = .ok (.istore 7, 2) := by decide +kernel
theorem dX11_trip_117 : decode cX11_trip 117 = .ok (.aload_n 0, 1) := by decide +kernel
theorem dX11_trip_118 : decode cX11_trip 118 = .ok (.getfield 16, 3) := by decide +kernel
theorem dX11_trip_121 : decode cX11_trip 121 = .ok (.getfield 116, 3) := by decide +kernel
theorem dX11_trip_124 : decode cX11_trip 124 = .ok (.iload 7, 2) := by decide +kernel
theorem dX11_trip_126 : decode cX11_trip 126 = .ok (.iload 5, 2) := by decide +kernel
theorem dX11_trip_128 : decode cX11_trip 128 = .ok (.iload 6, 2) := by decide +kernel
theorem dX11_trip_130 : decode cX11_trip 130 = .ok (.aload_n 0, 1) := by decide +kernel
theorem dX11_trip_131 : decode cX11_trip 131 = .ok (.getfield 16, 3) := by decide +kernel
theorem dX11_trip_134 : decode cX11_trip 134 = .ok (.getfield 57, 3) := by decide +kernel
theorem dX11_trip_137 : decode cX11_trip 137 = .ok (.invokevirtual 127, 3) := by decide +kernel
theorem dX11_trip_140 : decode cX11_trip 140 = .ok (.iload 7, 2) := by decide +kernel
theorem dX11_trip_142 : decode cX11_trip 142 = .ok (.ireturn, 1) := by decide +kernel
theorem dX11_wet_0 : decode cX11_wet 0 = .ok (.iload_n 1, 1) := by decide +kernel
theorem dX11_wet_1 : decode cX11_wet 1 = .ok (.ifCond .lt 10, 3) := by decide +kernel
theorem dX11_wet_4 : decode cX11_wet 4 = .ok (.iload_n 1, 1) := by decide +kernel
theorem dX11_wet_5 : decode cX11_wet 5 = .ok (.sipush 199, 3) := by decide +kernel
theorem dX11_wet_8 : decode cX11_wet 8 = .ok (.if_icmp .le 7, 3) := by decide +kernel
theorem dX11_wet_11 : decode cX11_wet 11 = .ok (.iconst (-1), 1) := by decide +kernel
theorem dX11_wet_12 : decode cX11_wet 12 = .ok (.goto 11, 3) := by decide +kernel
theorem dX11_wet_15 : decode cX11_wet 15 = .ok (.aload_n 0, 1) := by decide +kernel
theorem dX11_wet_16 : decode cX11_wet 16 = .ok (.getfield 16, 3) := by decide +kernel
theorem dX11_wet_19 : decode cX11_wet 19 = .ok (.iload_n 1, 1) := by decide +kernel
theorem dX11_wet_20 : decode cX11_wet 20 = .ok (.invokevirtual 140, 3) := by decide +kernel
theorem dX11_wet_23 : decode cX11_wet 23 = .ok (.ireturn, 1) := by decide +kernel
theorem dX11_wheel_0 : decode cX11_wheel 0 = .ok (.aload_n 0, 1) := by decide +kernel
theorem dX11_wheel_1 : decode cX11_wheel 1 = .ok (.getfield 16, 3) := by decide +kernel
theorem dX11_wheel_4 : decode cX11_wheel 4 = .ok (.iload_n 2, 1) := by decide +kernel
theorem dX11_wheel_5 : decode cX11_wheel 5 = .ok (.invokevirtual 95, 3) := by decide +kernel
theorem dX11_wheel_8 : decode cX11_wheel 8 = .ok (.ifCond .eq 11, 3) := by decide +kernel
theorem dX11_wheel_11 : decode cX11_wheel 11 = .ok (.iload 4, 2) := by decide +kernel
theorem dX11_wheel_13 : decode cX11_wheel 13 = .ok (.invokestatic 98, 3) := by decide +kernel
theorem dX11_wheel_16 : decode cX11_wheel 16 = .ok (.ifCond .ne 5, 3) := by decide +kernel
theorem dX11_wheel_19 : decode cX11_wheel 19 = .ok (.iconst (-1), 1) := by decide +kernel
theorem dX11_wheel_20 : decode cX11_wheel 20 = .ok (.ireturn, 1) := by decide +kernel
theorem dX11_wheel_21 : decode cX11_wheel 21 = .ok (.aload_n 0, 1) := by decide +kernel
theorem dX11_wheel_22 : decode cX11_wheel 22 = .ok (.getfield 16, 3) := by decide +kernel
theorem dX11_wheel_25 : decode cX11_wheel 25 = .ok (.getfield 101, 3) := by decide +kernel
theorem dX11_wheel_28 : decode cX11_wheel 28 = .ok (.iload_n 1, 1) := by decide +kernel
theorem dX11_wheel_29 : decode cX11_wheel 29 = .ok (.iload_n 2, 1) := by decide +kernel
theorem dX11_wheel_30 : decode cX11_wheel 30 = .ok (.iload_n 3, 1) := by decide +kernel
theorem dX11_wheel_31 : decode cX11_wheel 31 = .ok (.iload 4, 2) := by decide +kernel
theorem dX11_wheel_33 : decode cX11_wheel 33 = .ok (.invokevirtual 105, 3) := by decide +kernel
theorem dX11_wheel_36 : decode cX11_wheel 36 = .ok (.ireturn, 1) := by decide +kernel
theorem dX11_wheeled_0 : decode cX11_wheeled 0 = .ok (.aload_n 0, 1) := by decide +kernel
theorem dX11_wheeled_1 : decode cX11_wheeled 1 = .ok (.getfield 16, 3) := by decide +kernel
theorem dX11_wheeled_4 : decode cX11_wheeled 4 = .ok (.getfield 101, 3) := by decide +kernel
theorem dX11_wheeled_7 : decode cX11_wheeled 7 = .ok (.iload_n 1, 1) := by decide +kernel
theorem dX11_wheeled_8 : decode cX11_wheeled 8 = .ok (.invokevirtual 110, 3) := by decide +kernel
theorem dX11_wheeled_11 : decode cX11_wheeled 11 = .ok (.ifCond .eq 18, 3) := by decide +kernel
theorem dX11_wheeled_14 : decode cX11_wheeled 14 = .ok (.aload_n 0, 1) := by decide +kernel
theorem dX11_wheeled_15 : decode cX11_wheeled 15 = .ok (.getfield 16, 3) := by decide +kernel
theorem dX11_wheeled_18 : decode cX11_wheeled 18 = .ok (.getfield 101, 3) := by decide +kernel
theorem dX11_wheeled_21 : decode cX11_wheeled 21 = .ok (.iload_n 1, 1) := by decide +kernel
theorem dX11_wheeled_22 : decode cX11_wheeled 22 = .ok (.iload_n 2, 1) := by decide +kernel
theorem dX11_wheeled_23 : decode cX11_wheeled 23 = .ok (.invokevirtual 220, 3) := by decide +kernel
theorem dX11_wheeled_26 : decode cX11_wheeled 26 = .ok (.goto 4, 3) := by decide +kernel
theorem dX11_wheeled_29 : decode cX11_wheeled 29 = .ok (.iconst (-1), 1) := by decide +kernel
theorem dX11_wheeled_30 : decode cX11_wheeled 30 = .ok (.ireturn, 1) := by decide +kernel
theorem dX11_why_0 : decode cX11_why 0 = .ok (.aload_n 0, 1) := by decide +kernel
theorem dX11_why_1 : decode cX11_why 1 = .ok (.getfield 43, 3) := by decide +kernel
theorem dX11_why_4 : decode cX11_why 4 = .ok (.ireturn, 1) := by decide +kernel
theorem dX1_board_0 : decode cX1_board 0 = .ok (.aload_n 0, 1) := by decide +kernel
theorem dX1_board_1 : decode cX1_board 1 = .ok (.getfield 9, 3) := by decide +kernel
theorem dX1_board_4 : decode cX1_board 4 = .ok (.getfield 157, 3) := by decide +kernel
theorem dX1_board_7 : decode cX1_board 7 = .ok (.getfield 176, 3) := by decide +kernel
theorem dX1_board_10 : decode cX1_board 10 = .ok (.iload_n 1, 1) := by decide +kernel
theorem dX1_board_11 : decode cX1_board 11 = .ok (.iaload, 1) := by decide +kernel
theorem dX1_board_12 : decode cX1_board 12 = .ok (.istore_n 3, 1) := by decide +kernel
theorem dX1_board_13 : decode cX1_board 13 = .ok (.iconst 0, 1) := by decide +kernel
theorem dX1_board_14 : decode cX1_board 14 = .ok (.istore 4, 2) := by decide +kernel
theorem dX1_board_16 : decode cX1_board 16 = .ok (.iconst 0, 1) := by decide +kernel
theorem dX1_board_17 : decode cX1_board 17 = .ok (.istore 5, 2) := by decide +kernel
theorem dX1_board_19 : decode cX1_board 19 = .ok (.iload 5, 2) := by decide +kernel
theorem dX1_board_21 : decode cX1_board 21 = .ok (.aload_n 0, 1) := by decide +kernel
theorem dX1_board_22 : decode cX1_board 22 = .ok (.getfield 9, 3) := by decide +kernel
theorem dX1_board_25 : decode cX1_board 25 = .ok (.getfield 148, 3) := by decide +kernel
theorem dX1_board_28 : decode cX1_board 28 = .ok (.getfield 250, 3) := by decide +kernel
theorem dX1_board_31 : decode cX1_board 31 = .ok (.iload_n 3, 1) := by decide +kernel
theorem dX1_board_32 : decode cX1_board 32 = .ok (.iaload, 1) := by decide +kernel
theorem dX1_board_33 : decode cX1_board 33 = .ok (.if_icmp .ge 59, 3) := by decide +kernel
theorem dX1_board_36 : decode cX1_board 36 = .ok (.aload_n 0, 1) := by decide +kernel
theorem dX1_board_37 : decode cX1_board 37 = .ok (.iload_n 1, 1) := by decide +kernel
theorem dX1_board_38 : decode cX1_board 38 = .ok (.iload_n 2, 1) := by decide +kernel
theorem dX1_board_39 : decode cX1_board 39 = .ok (.invokevirtual 253, 3) := by decide +kernel
theorem dX1_board_42 : decode cX1_board 42 = .ok (.istore 6, 2) := by decide +kernel
theorem dX1_board_44 : decode cX1_board 44 = .ok (.iload 6, 2) := by decide +kernel
theorem dX1_board_46 : decode cX1_board 46 = .ok (.iconst (-1), 1) := by decide +kernel
theorem dX1_board_47 : decode cX1_board 47 = .ok (.if_icmp .eq 39, 3) := by decide +kernel
theorem dX1_board_50 : decode cX1_board 50 = .ok (.aload_n 0, 1) := by decide +kernel
theorem dX1_board_51 : decode cX1_board 51 = .ok (.getfield 51, 3) := by decide +kernel
theorem dX1_board_54 : decode cX1_board 54 = .ok (.iload 6, 2) := by decide +kernel
theorem dX1_board_56 : decode cX1_board 56 = .ok (.iconst (-1), 1) := by decide +kernel
theorem dX1_board_57 : decode cX1_board 57 = .ok (.iastore, 1) := by decide +kernel
theorem dX1_board_58 : decode cX1_board 58 = .ok (.aload_n 0, 1) := by decide +kernel
theorem dX1_board_59 : decode cX1_board 59 = .ok (.getfield 54, 3) := by decide +kernel
theorem dX1_board_62 : decode cX1_board 62 = .ok (.iload 6, 2) := by decide +kernel
theorem dX1_board_64 : decode cX1_board 64 = .ok (.iload_n 3, 1) := by decide +kernel
theorem dX1_board_65 : decode cX1_board 65 = .ok (.iastore, 1) := by decide +kernel
theorem dX1_board_66 : decode cX1_board 66 = .ok (.aload_n 0, 1) := by decide +kernel
theorem dX1_board_67 : decode cX1_board 67 = .ok (.getfield 35, 3) := by decide +kernel
theorem dX1_board_70 : decode cX1_board 70 = .ok (.iload 6, 2) := by decide +kernel
theorem dX1_board_72 : decode cX1_board 72 = .ok (.dup2, 1) := by decide +kernel
theorem dX1_board_73 : decode cX1_board 73 = .ok (.iaload, 1) := by decide +kernel
theorem dX1_board_74 : decode cX1_board 74 = .ok (.iload_n 2, 1) := by decide +kernel
theorem dX1_board_75 : decode cX1_board 75 = .ok (.isub, 1) := by decide +kernel
theorem dX1_board_76 : decode cX1_board 76 = .ok (.iastore, 1) := by decide +kernel
theorem dX1_board_77 : decode cX1_board 77 = .ok (.aload_n 0, 1) := by decide +kernel
theorem dX1_board_78 : decode cX1_board 78 = .ok (.iload_n 3, 1) := by decide +kernel
theorem dX1_board_79 : decode cX1_board 79 = .ok (.iload_n 2, 1) := by decide +kernel
theorem dX1_board_80 : decode cX1_board 80 = .ok (.invokevirtual 256, 3) := by decide +kernel
theorem dX1_board_83 : decode cX1_board 83 = .ok (.iinc 4 1, 3) := by decide +kernel
theorem dX1_board_86 : decode cX1_board 86 = .ok (.iinc 5 1, 3) := by decide +kernel
theorem dX1_board_89 : decode cX1_board 89 = .ok (.goto (-70), 3) := by decide +kernel
theorem dX1_board_92 : decode cX1_board 92 = .ok (.iload 4, 2) := by decide +kernel
theorem dX1_board_94 : decode cX1_board 94 = .ok (.ireturn, 1) := by decide +kernel
theorem dX1_choose_0 : decode cX1_choose 0 = .ok (.aload_n 0, 1) := by decide +kernel
theorem dX1_choose_1 : decode cX1_choose 1 = .ok (.getfield 20, 3) := by decide +kernel
theorem dX1_choose_4 : decode cX1_choose 4 = .ok (.iload_n 1, 1) := by decide +kernel
theorem dX1_choose_5 : decode cX1_choose 5 = .ok (.iload_n 2, 1) := by decide +kernel
theorem dX1_choose_6 : decode cX1_choose 6 = .ok (.iload_n 3, 1) := by decide +kernel
theorem dX1_choose_7 : decode cX1_choose 7 = .ok (.iload 4, 2) := by decide +kernel
theorem dX1_choose_9 : decode cX1_choose 9 = .ok (.invokevirtual 192, 3) := by decide +kernel
theorem dX1_choose_12 : decode cX1_choose 12 = .ok (.istore 5, 2) := by decide +kernel
theorem dX1_choose_14 : decode cX1_choose 14 = .ok (.aload_n 0, 1) := by decide +kernel
theorem dX1_choose_15 : decode cX1_choose 15 = .ok (.getfield 9, 3) := by decide +kernel
theorem dX1_choose_18 : decode cX1_choose 18 = .ok (.getfield 129, 3) := by decide +kernel
theorem dX1_choose_21 : decode cX1_choose 21 = .ok (.getfield 196, 3) := by decide +kernel
theorem dX1_choose_24 : decode cX1_choose 24 = .ok (.iload_n 1, 1) := by decide +kernel
theorem dX1_choose_25 : decode cX1_choose 25 = .ok (.iaload, 1) := by decide +kernel
theorem dX1_choose_26 : decode cX1_choose 26 = .ok (.istore 6, 2) := by decide +kernel
theorem dX1_choose_28 : decode cX1_choose 28 = .ok (.iload 5, 2) := by decide +kernel
theorem dX1_choose_30 : decode cX1_choose 30 = .ok (.iconst (-1), 1) := by decide +kernel
theorem dX1_choose_31 : decode cX1_choose 31 = .ok (.if_icmp .ne 8, 3) := by decide +kernel
theorem dX1_choose_34 : decode cX1_choose 34 = .ok (.iload 6, 2) := by decide +kernel
theorem dX1_choose_36 : decode cX1_choose 36 = .ok (.goto 24, 3) := by decide +kernel
theorem dX1_choose_39 : decode cX1_choose 39 = .ok (.aload_n 0, 1) := by decide +kernel
theorem dX1_choose_40 : decode cX1_choose 40 = .ok (.getfield 9, 3) := by decide +kernel
theorem dX1_choose_43 : decode cX1_choose 43 = .ok (.getfield 179, 3) := by decide +kernel
theorem dX1_choose_46 : decode cX1_choose 46 = .ok (.aload_n 0, 1) := by decide +kernel
theorem dX1_choose_47 : decode cX1_choose 47 = .ok (.getfield 9, 3) := by decide +kernel
theorem dX1_choose_50 : decode cX1_choose 50 = .ok (.getfield 157, 3) := by decide +kernel
theorem dX1_choose_53 : decode cX1_choose 53 = .ok (.getfield 189, 3) := by decide +kernel
theorem dX1_choose_56 : decode cX1_choose 56 = .ok (.iload 5, 2) := by decide +kernel
theorem dX1_choose_58 : decode cX1_choose 58 = .ok (.iaload, 1) := by decide +kernel
theorem dX1_choose_59 : decode cX1_choose 59 = .ok (.iaload, 1) := by decide +kernel
theorem dX1_choose_60 : decode cX1_choose 60 = .ok (.istore 7, 2) := by decide +kernel
theorem dX1_choose_62 : decode cX1_choose 62 = .ok (.aload_n 0, 1) := by decide +kernel
theorem dX1_choose_63 : decode cX1_choose 63 = .ok (.getfield 51, 3) := by decide +kernel
theorem dX1_choose_66 : decode cX1_choose 66 = .ok (.iload_n 1, 1) := by decide +kernel
theorem dX1_choose_67 : decode cX1_choose 67 = .ok (.iload 5, 2) := by decide +kernel
theorem dX1_choose_69 : decode cX1_choose 69 = .ok (.iastore, 1) := by decide +kernel
theorem dX1_choose_70 : decode cX1_choose 70 = .ok (.aload_n 0, 1) := by decide +kernel
theorem dX1_choose_71 : decode cX1_choose 71 = .ok (.getfield 9, 3) := by decide +kernel
theorem dX1_choose_74 : decode cX1_choose 74 = .ok (.getfield 199, 3) := by decide +kernel
theorem dX1_choose_77 : decode cX1_choose 77 = .ok (.iload_n 2, 1) := by decide +kernel
theorem dX1_choose_78 : decode cX1_choose 78 = .ok (.iload 7, 2) := by decide +kernel
theorem dX1_choose_80 : decode cX1_choose 80 = .ok (.invokevirtual 203, 3) := by decide +kernel
theorem dX1_choose_83 : decode cX1_choose 83 = .ok (.istore 8, 2) := by decide +kernel
theorem dX1_choose_85 : decode cX1_choose 85 = .ok (.iload 8, 2) := by decide +kernel
theorem dX1_choose_87 : decode cX1_choose 87 = .ok (.ldc 209, 2) := by decide +kernel
theorem dX1_choose_89 : decode cX1_choose 89 = .ok (.if_icmp .lt 4, 3) := by decide +kernel
theorem dX1_choose_92 : decode cX1_choose 92 = .ok (.return_, 1) := by decide +kernel
theorem dX1_choose_93 : decode cX1_choose 93 = .ok (.iload_n 3, 1) := by decide +kernel
theorem dX1_choose_94 : decode cX1_choose 94 = .ok (.aload_n 0, 1) := by decide +kernel
theorem dX1_choose_95 : decode cX1_choose 95 = .ok (.getfield 20, 3) := by decide +kernel
theorem dX1_choose_98 : decode cX1_choose 98 = .ok (.iload_n 1, 1) := by decide +kernel
theorem dX1_choose_99 : decode cX1_choose 99 = .ok (.iload_n 2, 1) := by decide +kernel
theorem dX1_choose_100 : decode cX1_choose 100 = .ok (.iload 7, 2) := by decide +kernel
theorem dX1_choose_102 : decode cX1_choose 102 = .ok (.invokevirtual 210, 3) := by decide +kernel
theorem dX1_choose_105 : decode cX1_choose 105 = .ok (.iadd, 1) := by decide +kernel
theorem dX1_choose_106 : decode cX1_choose 106 = .ok (.istore 9, 2) := by decide +kernel
theorem dX1_choose_108 : decode cX1_choose 108 = .ok (.iload 5, 2) := by decide +kernel
theorem dX1_choose_110 : decode cX1_choose 110 = .ok (.iconst (-1), 1) := by decide +kernel
theorem dX1_choose_111 : decode cX1_choose 111 = .ok (.if_icmp .ne 19, 3) := by decide +kernel
theorem dX1_choose_114 : decode cX1_choose 114 = .ok (.iload 9, 2) := by decide +kernel
theorem dX1_choose_116 : decode cX1_choose 116 = .ok (.sipush 840, 3) := by decide +kernel
theorem dX1_choose_119 : decode cX1_choose 119 = .ok (.if_icmp .ge 11, 3) := by decide +kernel
theorem dX1_choose_122 : decode cX1_choose 122 = .ok (.aload_n 0, 1) := by decide +kernel
theorem dX1_choose_123 : decode cX1_choose 123 = .ok (.getfield 42, 3) := by decide +kernel
theorem dX1_choose_126 : decode cX1_choose 126 = .ok (.iload_n 1, 1) := by decide +kernel
theorem dX1_choose_127 : decode cX1_choose 127 = .ok (.iload 9, 2) := by decide +kernel
theorem dX1_choose_129 : decode cX1_choose 129 = .ok (.iastore, 1) := by decide +kernel
theorem dX1_choose_130 : decode cX1_choose 130 = .ok (.aload_n 0, 1) := by decide +kernel
theorem dX1_choose_131 : decode cX1_choose 131 = .ok (.iload_n 1, 1) := by decide +kernel
theorem dX1_choose_132 : decode cX1_choose 132 = .ok (.iload 8, 2) := by decide +kernel
theorem dX1_choose_134 : decode cX1_choose 134 = .ok (.invokevirtual 214, 3) := by decide +kernel
theorem dX1_choose_137 : decode cX1_choose 137 = .ok (.return_, 1) := by decide +kernel
theorem dX1_chooseAgain_0 : decode cX1_chooseAgain 0 = .ok (.iconst 0, 1) := by decide +kernel
theorem dX1_chooseAgain_1 : decode cX1_chooseAgain 1 = .ok (.istore_n 2, 1) := by decide +kernel
theorem dX1_chooseAgain_2 : decode cX1_chooseAgain 2 = .ok (.iload_n 2, 1) := by decide +kernel
theorem dX1_chooseAgain_3 : decode cX1_chooseAgain 3 = .ok (.aload_n 0, 1) := by decide +kernel
theorem dX1_chooseAgain_4 : decode cX1_chooseAgain 4 = .ok (.getfield 9, 3) := by decide +kernel
theorem dX1_chooseAgain_7 : decode cX1_chooseAgain 7 = .ok (.getfield 129, 3) := by decide +kernel
theorem dX1_chooseAgain_10 : decode cX1_chooseAgain 10 = .ok (.getfield 133, 3) := by decide +kernel
theorem dX1_chooseAgain_13 : decode cX1_chooseAgain 13 = .ok (.if_icmp .ge 66, 3) := by decide +kernel
theorem dX1_chooseAgain_16 : decode cX1_chooseAgain 16 = .ok (.aload_n 0, 1) := by decide +kernel
theorem dX1_chooseAgain_17 : decode cX1_chooseAgain 17 = .ok (.getfield 51, 3) := by decide +kernel
theorem dX1_chooseAgain_20 : decode cX1_chooseAgain 20 = .ok (.iload_n 2, 1) := by decide +kernel
theorem dX1_chooseAgain_21 : decode cX1_chooseAgain 21 = .ok (.iaload, 1) := by decide +kernel
theorem dX1_chooseAgain_22 : decode cX1_chooseAgain 22 = .ok (.istore_n 3, 1) := by decide +kernel
theorem dX1_chooseAgain_23 : decode cX1_chooseAgain 23 = .ok (.iload_n 3, 1) := by decide +kernel
theorem dX1_chooseAgain_24 : decode cX1_chooseAgain 24 = .ok (.iconst (-1), 1) := by decide +kernel
theorem dX1_chooseAgain_25 : decode cX1_chooseAgain 25 = .ok (.if_icmp .eq 48, 3) := by decide +kernel
theorem dX1_chooseAgain_28 : decode cX1_chooseAgain 28 = .ok (.aload_n 0, 1) := by decide +kernel
theorem dX1_chooseAgain_29 : decode cX1_chooseAgain 29 = .ok (.getfield 9, 3) := by decide +kernel
theorem dX1_chooseAgain_32 : decode cX1_chooseAgain 32 = .ok (.getfield 157, 3) := by decide +kernel
theorem dX1_chooseAgain_35 : decode cX1_chooseAgain 35 = .ok (.getfield 166, 3) := by decide +kernel
theorem dX1_chooseAgain_38 : decode cX1_chooseAgain 38 = .ok (.iload_n 3, 1) := by decide +kernel
theorem dX1_chooseAgain_39 : decode cX1_chooseAgain 39 = .ok (.iaload, 1) := by decide +kernel
theorem dX1_chooseAgain_40 : decode cX1_chooseAgain 40 = .ok (.iload_n 1, 1) := by decide +kernel
theorem dX1_chooseAgain_41 : decode cX1_chooseAgain 41 = .ok (.if_icmp .ne 32, 3) := by decide +kernel
theorem dX1_chooseAgain_44 : decode cX1_chooseAgain 44 = .ok (.aload_n 0, 1) := by decide +kernel
theorem dX1_chooseAgain_45 : decode cX1_chooseAgain 45 = .ok (.iload_n 2, 1) := by decide +kernel
theorem dX1_chooseAgain_46 : decode cX1_chooseAgain 46 = .ok (.aload_n 0, 1) := by decide +kernel
theorem dX1_chooseAgain_47 : decode cX1_chooseAgain 47 = .ok (.getfield 9, 3) := by decide +kernel
theorem dX1_chooseAgain_50 : decode cX1_chooseAgain 50 = .ok (.getfield 179, 3) := by decide +kernel
theorem dX1_chooseAgain_53 : decode cX1_chooseAgain 53 = .ok (.aload_n 0, 1) := by decide +kernel
theorem dX1_chooseAgain_54 : decode cX1_chooseAgain 54 = .ok (.getfield 9, 3) := by decide +kernel
theorem dX1_chooseAgain_57 : decode cX1_chooseAgain 57 = .ok (.getfield 157, 3) := by decide +kernel
theorem dX1_chooseAgain_60 : decode cX1_chooseAgain 60 = .ok (.getfield 189, 3) := by decide +kernel
theorem dX1_chooseAgain_63 : decode cX1_chooseAgain 63 = .ok (.iload_n 3, 1) := by decide +kernel
theorem dX1_chooseAgain_64 : decode cX1_chooseAgain 64 = .ok (.iaload, 1) := by decide +kernel
theorem dX1_chooseAgain_65 : decode cX1_chooseAgain 65 = .ok (.iaload, 1) := by decide +kernel
theorem dX1_chooseAgain_66 : decode cX1_chooseAgain 66 = .ok (.iload_n 1, 1) := by decide +kernel
theorem dX1_chooseAgain_67 : decode cX1_chooseAgain 67 = .ok (.iload_n 1, 1) := by decide +kernel
theorem dX1_chooseAgain_68 : decode cX1_chooseAgain 68 = .ok (.iconst 1, 1) := by decide +kernel
theorem dX1_chooseAgain_69 : decode cX1_chooseAgain 69 = .ok (.iadd, 1) := by decide +kernel
theorem dX1_chooseAgain_70 : decode cX1_chooseAgain 70 = .ok (.invokevirtual 182, 3) := by decide +kernel
theorem dX1_chooseAgain_73 : decode cX1_chooseAgain 73 = .ok (.iinc 2 1, 3) := by decide +kernel
theorem dX1_chooseAgain_76 : decode cX1_chooseAgain 76 = .ok (.goto (-74), 3) := by decide +kernel
theorem dX1_chooseAgain_79 : decode cX1_chooseAgain 79 = .ok (.return_, 1) := by decide +kernel
theorem dX1_countOnTime_0 : decode cX1_countOnTime 0 = .ok (.iconst 0, 1) := by decide +kernel
theorem dX1_countOnTime_1 : decode cX1_countOnTime 1 = .ok (.istore_n 1, 1) := by decide +kernel
theorem dX1_countOnTime_2 : decode cX1_countOnTime 2 = .ok (.iconst 0, 1) := by decide +kernel
theorem dX1_countOnTime_3 : decode cX1_countOnTime 3 = .ok (.istore_n 2, 1) := by decide +kernel
theorem dX1_countOnTime_4 : decode cX1_countOnTime 4 = .ok (.iload_n 2, 1) := by decide +kernel
theorem dX1_countOnTime_5 : decode cX1_countOnTime 5 = .ok (.aload_n 0, 1) := by decide +kernel
theorem dX1_countOnTime_6 : decode cX1_countOnTime 6 = .ok (.getfield 9, 3) := by decide +kernel
theorem dX1_countOnTime_9 : decode cX1_countOnTime 9 = .ok (.getfield 129, 3) := by decide +kernel
theorem dX1_countOnTime_12 : decode cX1_countOnTime 12 = .ok (.getfield 133, 3) := by decide +kernel
theorem dX1_countOnTime_15 : decode cX1_countOnTime 15 = .ok (.if_icmp .ge 43, 3) := by decide +kernel
theorem dX1_countOnTime_18 : decode cX1_countOnTime 18 = .ok (.aload_n 0, 1) := by decide +kernel
theorem dX1_countOnTime_19 : decode cX1_countOnTime 19 = .ok (.getfield 42, 3) := by decide +kernel
theorem dX1_countOnTime_22 : decode cX1_countOnTime 22 = .ok (.iload_n 2, 1) := by decide +kernel
theorem dX1_countOnTime_23 : decode cX1_countOnTime 23 = .ok (.iaload, 1) := by decide +kernel
theorem dX1_countOnTime_24 : decode cX1_countOnTime 24 = .ok (.iconst (-1), 1) := by decide +kernel
theorem dX1_countOnTime_25 : decode cX1_countOnTime 25 = .ok (.if_icmp .eq 27, 3) := by decide +kernel
theorem dX1_countOnTime_28 : decode cX1_countOnTime 28 = .ok (.aload_n 0, 1) := by decide +kernel
theorem dX1_countOnTime_29 : decode cX1_countOnTime 29 = .ok (.getfield 42, 3) := by decide +kernel
theorem dX1_countOnTime_32 : decode cX1_countOnTime 32 = .ok (.iload_n 2, 1) := by decide +kernel
theorem dX1_countOnTime_33 : decode cX1_countOnTime 33 = .ok (.iaload, 1) := by decide +kernel
theorem dX1_countOnTime_34 : decode cX1_countOnTime 34 = .ok (.aload_n 0, 1) := by decide +kernel
theorem dX1_countOnTime_35 : decode cX1_countOnTime 35 = .ok (.getfield 9, 3) := by decide +kernel
theorem dX1_countOnTime_38 : decode cX1_countOnTime 38 = .ok (.getfield 129, 3) := by decide +kernel
theorem dX1_countOnTime_41 : decode cX1_countOnTime 41 = .ok (.getfield 259, 3) := by decide +kernel
theorem dX1_countOnTime_44 : decode cX1_countOnTime 44 = .ok (.iload_n 2, 1) := by decide +kernel
theorem dX1_countOnTime_45 : decode cX1_countOnTime 45 = .ok (.iaload, 1) := by decide +kernel
theorem dX1_countOnTime_46 : decode cX1_countOnTime 46 = .ok (.if_icmp .gt 6, 3) := by decide +kernel
theorem dX1_countOnTime_49 : decode cX1_countOnTime 49 = .ok (.iinc 1 1, 3) := by decide +kernel
theorem dX1_countOnTime_52 : decode cX1_countOnTime 52 = .ok (.iinc 2 1, 3) := by decide +kernel
theorem dX1_countOnTime_55 : decode cX1_countOnTime 55 = .ok (.goto (-51), 3) := by decide +kernel
theorem dX1_countOnTime_58 : decode cX1_countOnTime 58 = .ok (.iload_n 1, 1) := by decide +kernel
theorem dX1_countOnTime_59 : decode cX1_countOnTime 59 = .ok (.ireturn, 1) := by decide +kernel
theorem dX1_earn_0 : decode cX1_earn 0 = .ok (.aload_n 0, 1) := by decide +kernel
theorem dX1_earn_1 : decode cX1_earn 1 = .ok (.getfield 9, 3) := by decide +kernel
theorem dX1_earn_4 : decode cX1_earn 4 = .ok (.getfield 148, 3) := by decide +kernel
theorem dX1_earn_7 : decode cX1_earn 7 = .ok (.getfield 262, 3) := by decide +kernel
theorem dX1_earn_10 : decode cX1_earn 10 = .ok (.iload_n 1, 1) := by decide +kernel
theorem dX1_earn_11 : decode cX1_earn 11 = .ok (.iaload, 1) := by decide +kernel
theorem dX1_earn_12 : decode cX1_earn 12 = .ok (.iconst 2, 1) := by decide +kernel
theorem dX1_earn_13 : decode cX1_earn 13 = .ok (.if_icmp .ne 26, 3) := by decide +kernel
theorem dX1_earn_16 : decode cX1_earn 16 = .ok (.aload_n 0, 1) := by decide +kernel
theorem dX1_earn_17 : decode cX1_earn 17 = .ok (.getfield 59, 3) := by decide +kernel
theorem dX1_earn_20 : decode cX1_earn 20 = .ok (.iload_n 1, 1) := by decide +kernel
theorem dX1_earn_21 : decode cX1_earn 21 = .ok (.aload_n 0, 1) := by decide +kernel
theorem dX1_earn_22 : decode cX1_earn 22 = .ok (.getfield 59, 3) := by decide +kernel
theorem dX1_earn_25 : decode cX1_earn 25 = .ok (.iload_n 1, 1) := by decide +kernel
theorem dX1_earn_26 : decode cX1_earn 26 = .ok (.iaload, 1) := by decide +kernel
theorem dX1_earn_27 : decode cX1_earn 27 = .ok (.iload_n 2, 1) := by decide +kernel
theorem dX1_earn_28 : decode cX1_earn 28 = .ok (.iadd, 1) := by decide +kernel
theorem dX1_earn_29 : decode cX1_earn 29 = .ok (.ldc_w 265, 3) := by decide +kernel
theorem dX1_earn_32 : decode cX1_earn 32 = .ok (.invokestatic 266, 3) := by decide +kernel
theorem dX1_earn_35 : decode cX1_earn 35 = .ok (.iastore, 1) := by decide +kernel
theorem dX1_earn_36 : decode cX1_earn 36 = .ok (.goto 19, 3) := by decide +kernel
theorem dX1_earn_39 : decode cX1_earn 39 = .ok (.aload_n 0, 1) := by decide +kernel
theorem dX1_earn_40 : decode cX1_earn 40 = .ok (.aload_n 0, 1) := by decide +kernel
theorem dX1_earn_41 : decode cX1_earn 41 = .ok (.getfield 93, 3) := by decide +kernel
theorem dX1_earn_44 : decode cX1_earn 44 = .ok (.iload_n 2, 1) := by decide +kernel
theorem dX1_earn_45 : decode cX1_earn 45 = .ok (.iadd, 1) := by decide +kernel
theorem dX1_earn_46 : decode cX1_earn 46 = .ok (.ldc_w 265, 3) := by decide +kernel
theorem dX1_earn_49 : decode cX1_earn 49 = .ok (.invokestatic 266, 3) := by decide +kernel
theorem dX1_earn_52 : decode cX1_earn 52 = .ok (.putfield 93, 3) := by decide +kernel
theorem dX1_earn_55 : decode cX1_earn 55 = .ok (.return_, 1) := by decide +kernel
theorem dX1_firstInLine_0 : decode cX1_firstInLine 0 = .ok (.iconst (-1), 1) := by decide +kernel
theorem dX1_firstInLine_1 : decode cX1_firstInLine 1 = .ok (.istore_n 3, 1) := by decide +kernel
theorem dX1_firstInLine_2 : decode cX1_firstInLine 2 = .ok (.iconst 0, 1) := by decide +kernel
theorem dX1_firstInLine_3 : decode cX1_firstInLine 3 = .ok (.istore 4, 2) := by decide +kernel
theorem dX1_firstInLine_5 : decode cX1_firstInLine 5 = .ok (.iload 4, 2) := by decide +kernel
theorem dX1_firstInLine_7 : decode cX1_firstInLine 7 = .ok (.aload_n 0, 1) := by decide +kernel
theorem dX1_firstInLine_8 : decode cX1_firstInLine 8 = .ok (.getfield 9, 3) := by decide +kernel
theorem dX1_firstInLine_11 : decode cX1_firstInLine 11 = .ok (.getfield 129, 3) := by decide +kernel
theorem dX1_firstInLine_14 : decode cX1_firstInLine 14 = .ok (.getfield 133, 3) := by decide +kernel
theorem dX1_firstInLine_17 : decode cX1_firstInLine 17 = .ok (.if_icmp .ge 67, 3) := by decide +kernel
theorem dX1_firstInLine_20 : decode cX1_firstInLine 20 = .ok (.aload_n 0, 1) := by decide +kernel
theorem dX1_firstInLine_21 : decode cX1_firstInLine 21 = .ok (.getfield 51, 3) := by decide +kernel
theorem dX1_firstInLine_24 : decode cX1_firstInLine 24 = .ok (.iload 4, 2) := by decide +kernel
theorem dX1_firstInLine_26 : decode cX1_firstInLine 26 = .ok (.iaload, 1) := by decide +kernel
theorem dX1_firstInLine_27 : decode cX1_firstInLine 27 = .ok (.iload_n 1, 1) := by decide +kernel
theorem dX1_firstInLine_28 : decode cX1_firstInLine 28 = .ok (.if_icmp .ne 50, 3) := by decide +kernel
theorem dX1_firstInLine_31 : decode cX1_firstInLine 31 = .ok (.aload_n 0, 1) := by decide +kernel
theorem dX1_firstInLine_32 : decode cX1_firstInLine 32 = .ok (.getfield 35, 3) := by decide +kernel
theorem dX1_firstInLine_35 : decode cX1_firstInLine 35 = .ok (.iload 4, 2) := by decide +kernel
theorem dX1_firstInLine_37 : decode cX1_firstInLine 37 = .ok (.iaload, 1) := by decide +kernel
theorem dX1_firstInLine_38 : decode cX1_firstInLine 38 = .ok (.iload_n 2, 1) := by decide +kernel
theorem dX1_firstInLine_39 : decode cX1_firstInLine 39 = .ok (.if_icmp .lt 39, 3) := by decide +kernel
theorem dX1_firstInLine_42 : decode cX1_firstInLine 42 = .ok (.iload_n 3, 1) := by decide +kernel
theorem dX1_firstInLine_43 : decode cX1_firstInLine 43 = .ok (.iconst (-1), 1) := by decide +kernel
theorem dX1_firstInLine_44 : decode cX1_firstInLine 44 = .ok (.if_icmp .eq 31, 3) := by decide +kernel
theorem dX1_firstInLine_47 : decode cX1_firstInLine 47 = .ok (.aload_n 0, 1) := by decide +kernel
theorem dX1_firstInLine_48 : decode cX1_firstInLine 48 = .ok (.getfield 9, 3) := by decide +kernel
theorem dX1_firstInLine_51 : decode cX1_firstInLine 51 = .ok (.getfield 129, 3) := by decide +kernel
theorem dX1_firstInLine_54 : decode cX1_firstInLine 54 = .ok (.getfield 259, 3) := by decide +kernel
theorem dX1_firstInLine_57 : decode cX1_firstInLine 57 = .ok (.iload 4, 2) := by decide +kernel
theorem dX1_firstInLine_59 : decode cX1_firstInLine 59 = .ok (.iaload, 1) := by decide +kernel
theorem dX1_firstInLine_60 : decode cX1_firstInLine 60 = .ok (.aload_n 0, 1) := by decide +kernel
theorem dX1_firstInLine_61 : decode cX1_firstInLine 61 = .ok (.getfield 9, 3) := by decide +kernel
theorem dX1_firstInLine_64 : decode cX1_firstInLine 64 = .ok (.getfield 129, 3) := by decide +kernel
theorem dX1_firstInLine_67 : decode cX1_firstInLine 67 = .ok (.getfield 259, 3) := by decide +kernel
theorem dX1_firstInLine_70 : decode cX1_firstInLine 70 = .ok (.iload_n 3, 1) := by decide +kernel
theorem dX1_firstInLine_71 : decode cX1_firstInLine 71 = .ok (.iaload, 1) := by decide +kernel
theorem dX1_firstInLine_72 : decode cX1_firstInLine 72 = .ok (.if_icmp .ge 6, 3) := by decide +kernel
theorem dX1_firstInLine_75 : decode cX1_firstInLine 75 = .ok (.iload 4, 2) := by decide +kernel
theorem dX1_firstInLine_77 : decode cX1_firstInLine 77 = .ok (.istore_n 3, 1) := by decide +kernel
theorem dX1_firstInLine_78 : decode cX1_firstInLine 78 = .ok (.iinc 4 1, 3) := by decide +kernel
theorem dX1_firstInLine_81 : decode cX1_firstInLine 81 = .ok (.goto (-76), 3) := by decide +kernel
theorem dX1_firstInLine_84 : decode cX1_firstInLine 84 = .ok (.iload_n 3, 1) := by decide +kernel
theorem dX1_firstInLine_85 : decode cX1_firstInLine 85 = .ok (.ireturn, 1) := by decide +kernel
theorem dX1_goesToday_0 : decode cX1_goesToday 0 = .ok (.aload_n 0, 1) := by decide +kernel
theorem dX1_goesToday_1 : decode cX1_goesToday 1 = .ok (.getfield 9, 3) := by decide +kernel
theorem dX1_goesToday_4 : decode cX1_goesToday 4 = .ok (.getfield 157, 3) := by decide +kernel
theorem dX1_goesToday_7 : decode cX1_goesToday 7 = .ok (.iload_n 1, 1) := by decide +kernel
theorem dX1_goesToday_8 : decode cX1_goesToday 8 = .ok (.aload_n 0, 1) := by decide +kernel
theorem dX1_goesToday_9 : decode cX1_goesToday 9 = .ok (.getfield 9, 3) := by decide +kernel
theorem dX1_goesToday_12 : decode cX1_goesToday 12 = .ok (.getfield 169, 3) := by decide +kernel
theorem dX1_goesToday_15 : decode cX1_goesToday 15 = .ok (.invokevirtual 172, 3) := by decide +kernel
theorem dX1_goesToday_18 : decode cX1_goesToday 18 = .ok (.ifCond .eq 26, 3) := by decide +kernel
theorem dX1_goesToday_21 : decode cX1_goesToday 21 = .ok (.aload_n 0, 1) := by decide +kernel
theorem dX1_goesToday_22 : decode cX1_goesToday 22 = .ok (.getfield 9, 3) := by decide +kernel
theorem dX1_goesToday_25 : decode cX1_goesToday 25 = .ok (.getfield 157, 3) := by decide +kernel
theorem dX1_goesToday_28 : decode cX1_goesToday 28 = .ok (.getfield 176, 3) := by decide +kernel
theorem dX1_goesToday_31 : decode cX1_goesToday 31 = .ok (.iload_n 1, 1) := by decide +kernel
theorem dX1_goesToday_32 : decode cX1_goesToday 32 = .ok (.iaload, 1) := by decide +kernel
theorem dX1_goesToday_33 : decode cX1_goesToday 33 = .ok (.aload_n 0, 1) := by decide +kernel
theorem dX1_goesToday_34 : decode cX1_goesToday 34 = .ok (.getfield 82, 3) := by decide +kernel
theorem dX1_goesToday_37 : decode cX1_goesToday 37 = .ok (.if_icmp .eq 7, 3) := by decide +kernel
theorem dX1_goesToday_40 : decode cX1_goesToday 40 = .ok (.iconst 1, 1) := by decide +kernel
theorem dX1_goesToday_41 : decode cX1_goesToday 41 = .ok (.goto 4, 3) := by decide +kernel
theorem dX1_goesToday_44 : decode cX1_goesToday 44 = .ok (.iconst 0, 1) := by decide +kernel
theorem dX1_goesToday_45 : decode cX1_goesToday 45 = .ok (.ireturn, 1) := by decide +kernel
theorem dX1_landWheels_0 : decode cX1_landWheels 0 = .ok (.iconst 0, 1) := by decide +kernel
theorem dX1_landWheels_1 : decode cX1_landWheels 1 = .ok (.istore_n 2, 1) := by decide +kernel
theorem dX1_landWheels_2 : decode cX1_landWheels 2 = .ok (.iload_n 2, 1) := by decide +kernel
theorem dX1_landWheels_3 : decode cX1_landWheels 3 = .ok (.aload_n 0, 1) := by decide +kernel
theorem dX1_landWheels_4 : decode cX1_landWheels 4 = .ok (.getfield 9, 3) := by decide +kernel
theorem dX1_landWheels_7 : decode cX1_landWheels 7 = .ok (.getfield 129, 3) := by decide +kernel
theorem dX1_landWheels_10 : decode cX1_landWheels 10 = .ok (.getfield 133, 3) := by decide +kernel
theorem dX1_landWheels_13 : decode cX1_landWheels 13 = .ok (.if_icmp .ge 59, 3) := by decide +kernel
theorem dX1_landWheels_16 : decode cX1_landWheels 16 = .ok (.aload_n 0, 1) := by decide +kernel
theorem dX1_landWheels_17 : decode cX1_landWheels 17 = .ok (.getfield 54, 3) := by decide +kernel
theorem dX1_landWheels_20 : decode cX1_landWheels 20 = .ok (.iload_n 2, 1) := by decide +kernel
theorem dX1_landWheels_21 : decode cX1_landWheels 21 = .ok (.iaload, 1) := by decide +kernel
theorem dX1_landWheels_22 : decode cX1_landWheels 22 = .ok (.istore_n 3, 1) := by decide +kernel
theorem dX1_landWheels_23 : decode cX1_landWheels 23 = .ok (.iload_n 3, 1) := by decide +kernel
theorem dX1_landWheels_24 : decode cX1_landWheels 24 = .ok (.iconst (-1), 1) := by decide +kernel
theorem dX1_landWheels_25 : decode cX1_landWheels 25 = .ok (.if_icmp .eq 41, 3) := by decide +kernel
theorem dX1_landWheels_28 : decode cX1_landWheels 28 = .ok (.aload_n 0, 1) := by decide +kernel
theorem dX1_landWheels_29 : decode cX1_landWheels 29 = .ok (.getfield 71, 3) := by decide +kernel
theorem dX1_landWheels_32 : decode cX1_landWheels 32 = .ok (.iload_n 3, 1) := by decide +kernel
theorem dX1_landWheels_33 : decode cX1_landWheels 33 = .ok (.iaload, 1) := by decide +kernel
theorem dX1_landWheels_34 : decode cX1_landWheels 34 = .ok (.iload_n 1, 1) := by decide +kernel
theorem dX1_landWheels_35 : decode cX1_landWheels 35 = .ok (.if_icmp .ne 31, 3) := by decide +kernel
theorem dX1_landWheels_38 : decode cX1_landWheels 38 = .ok (.aload_n 0, 1) := by decide +kernel
theorem dX1_landWheels_39 : decode cX1_landWheels 39 = .ok (.getfield 54, 3) := by decide +kernel
theorem dX1_landWheels_42 : decode cX1_landWheels 42 = .ok (.iload_n 2, 1) := by decide +kernel
theorem dX1_landWheels_43 : decode cX1_landWheels 43 = .ok (.iconst (-1), 1) := by decide +kernel
theorem dX1_landWheels_44 : decode cX1_landWheels 44 = .ok (.iastore, 1) := by decide +kernel
theorem dX1_landWheels_45 : decode cX1_landWheels 45 = .ok (.aload_n 0, 1) := by decide +kernel
theorem dX1_landWheels_46 : decode cX1_landWheels 46 = .ok (.iload_n 2, 1) := by decide +kernel
theorem dX1_landWheels_47 : decode cX1_landWheels 47 = .ok (.aload_n 0, 1) := by decide +kernel
theorem dX1_landWheels_48 : decode cX1_landWheels 48 = .ok (.getfield 9, 3) := by decide +kernel
theorem dX1_landWheels_51 : decode cX1_landWheels 51 = .ok (.getfield 179, 3) := by decide +kernel
theorem dX1_landWheels_54 : decode cX1_landWheels 54 = .ok (.aload_n 0, 1) := by decide +kernel
theorem dX1_landWheels_55 : decode cX1_landWheels 55 = .ok (.getfield 68, 3) := by decide +kernel
theorem dX1_landWheels_58 : decode cX1_landWheels 58 = .ok (.iload_n 3, 1) := by decide +kernel
theorem dX1_landWheels_59 : decode cX1_landWheels 59 = .ok (.iaload, 1) := by decide +kernel
theorem dX1_landWheels_60 : decode cX1_landWheels 60 = .ok (.iaload, 1) := by decide +kernel
theorem dX1_landWheels_61 : decode cX1_landWheels 61 = .ok (.iload_n 1, 1) := by decide +kernel
theorem dX1_landWheels_62 : decode cX1_landWheels 62 = .ok (.iload_n 1, 1) := by decide +kernel
theorem dX1_landWheels_63 : decode cX1_landWheels 63 = .ok (.invokevirtual 182, 3) := by decide +kernel
theorem dX1_landWheels_66 : decode cX1_landWheels 66 = .ok (.iinc 2 1, 3) := by decide +kernel
theorem dX1_landWheels_69 : decode cX1_landWheels 69 = .ok (.goto (-67), 3) := by decide +kernel
theorem dX1_landWheels_72 : decode cX1_landWheels 72 = .ok (.iconst 0, 1) := by decide +kernel
theorem dX1_landWheels_73 : decode cX1_landWheels 73 = .ok (.istore_n 2, 1) := by decide +kernel
theorem dX1_landWheels_74 : decode cX1_landWheels 74 = .ok (.iload_n 2, 1) := by decide +kernel
theorem dX1_landWheels_75 : decode cX1_landWheels 75 = .ok (.aload_n 0, 1) := by decide +kernel
theorem dX1_landWheels_76 : decode cX1_landWheels 76 = .ok (.getfield 9, 3) := by decide +kernel
theorem dX1_landWheels_79 : decode cX1_landWheels 79 = .ok (.getfield 148, 3) := by decide +kernel
theorem dX1_landWheels_82 : decode cX1_landWheels 82 = .ok (.getfield 152, 3) := by decide +kernel
theorem dX1_landWheels_85 : decode cX1_landWheels 85 = .ok (.if_icmp .ge 26, 3) := by decide +kernel
theorem dX1_landWheels_88 : decode cX1_landWheels 88 = .ok (.aload_n 0, 1) := by decide +kernel
theorem dX1_landWheels_89 : decode cX1_landWheels 89 = .ok (.getfield 71, 3) := by decide +kernel
theorem dX1_landWheels_92 : decode cX1_landWheels 92 = .ok (.iload_n 2, 1) := by decide +kernel
theorem dX1_landWheels_93 : decode cX1_landWheels 93 = .ok (.iaload, 1) := by decide +kernel
theorem dX1_landWheels_94 : decode cX1_landWheels 94 = .ok (.iload_n 1, 1) := by decide +kernel
theorem dX1_landWheels_95 : decode cX1_landWheels 95 = .ok (.if_icmp .ne 10, 3) := by decide +kernel
theorem dX1_landWheels_98 : decode cX1_landWheels 98 = .ok (.aload_n 0, 1) := by decide +kernel
theorem dX1_landWheels_99 : decode cX1_landWheels 99 = .ok (.getfield 71, 3) := by decide +kernel
theorem dX1_landWheels_102 : decode cX1_landWheels 102 = .ok (.iload_n 2, 1) := by decide +kernel
theorem dX1_landWheels_103 : decode cX1_landWheels 103 = .ok (.iconst (-1), 1) := by decide +kernel
theorem dX1_landWheels_104 : decode cX1_landWheels 104 = .ok (.iastore, 1) := by decide +kernel
theorem dX1_landWheels_105 : decode cX1_landWheels 105 = .ok (.iinc 2 1, 3) := by decide +kernel
theorem dX1_landWheels_108 : decode cX1_landWheels 108 = .ok (.goto (-34), 3) := by decide +kernel
theorem dX1_landWheels_111 : decode cX1_landWheels 111 = .ok (.return_, 1) := by decide +kernel
theorem dX1_leaveHomes_0 : decode cX1_leaveHomes 0 = .ok (.iconst 0, 1) := by decide +kernel
theorem dX1_leaveHomes_1 : decode cX1_leaveHomes 1 = .ok (.istore_n 2, 1) := by decide +kernel
theorem dX1_leaveHomes_2 : decode cX1_leaveHomes 2 = .ok (.iload_n 2, 1) := by decide +kernel
theorem dX1_leaveHomes_3 : decode cX1_leaveHomes 3 = .ok (.aload_n 0, 1) := by decide +kernel
theorem dX1_leaveHomes_4 : decode cX1_leaveHomes 4 = .ok (.getfield 9, 3) := by decide +kernel
theorem dX1_leaveHomes_7 : decode cX1_leaveHomes 7 = .ok (.getfield 129, 3) := by decide +kernel
theorem dX1_leaveHomes_10 : decode cX1_leaveHomes 10 = .ok (.getfield 133, 3) := by decide +kernel
theorem dX1_leaveHomes_13 : decode cX1_leaveHomes 13 = .ok (.if_icmp .ge 44, 3) := by decide +kernel
theorem dX1_leaveHomes_16 : decode cX1_leaveHomes 16 = .ok (.aload_n 0, 1) := by decide +kernel
theorem dX1_leaveHomes_17 : decode cX1_leaveHomes 17 = .ok (.getfield 9, 3) := by decide +kernel
theorem dX1_leaveHomes_20 : decode cX1_leaveHomes 20 = .ok (.getfield 129, 3) := by decide +kernel
theorem dX1_leaveHomes_23 : decode cX1_leaveHomes 23 = .ok (.getfield 142, 3) := by decide +kernel
theorem dX1_leaveHomes_26 : decode cX1_leaveHomes 26 = .ok (.iload_n 2, 1) := by decide +kernel
theorem dX1_leaveHomes_27 : decode cX1_leaveHomes 27 = .ok (.iaload, 1) := by decide +kernel
theorem dX1_leaveHomes_28 : decode cX1_leaveHomes 28 = .ok (.iload_n 1, 1) := by decide +kernel
theorem dX1_leaveHomes_29 : decode cX1_leaveHomes 29 = .ok (.if_icmp .ne 22, 3) := by decide +kernel
theorem dX1_leaveHomes_32 : decode cX1_leaveHomes 32 = .ok (.aload_n 0, 1) := by decide +kernel
theorem dX1_leaveHomes_33 : decode cX1_leaveHomes 33 = .ok (.iload_n 2, 1) := by decide +kernel
theorem dX1_leaveHomes_34 : decode cX1_leaveHomes 34 = .ok (.aload_n 0, 1) := by decide +kernel
theorem dX1_leaveHomes_35 : decode cX1_leaveHomes 35 = .ok (.getfield 9, 3) := by decide +kernel
theorem dX1_leaveHomes_38 : decode cX1_leaveHomes 38 = .ok (.getfield 129, 3) := by decide +kernel
theorem dX1_leaveHomes_41 : decode cX1_leaveHomes 41 = .ok (.getfield 186, 3) := by decide +kernel
theorem dX1_leaveHomes_44 : decode cX1_leaveHomes 44 = .ok (.iload_n 2, 1) := by decide +kernel
theorem dX1_leaveHomes_45 : decode cX1_leaveHomes 45 = .ok (.iaload, 1) := by decide +kernel
theorem dX1_leaveHomes_46 : decode cX1_leaveHomes 46 = .ok (.iload_n 1, 1) := by decide +kernel
theorem dX1_leaveHomes_47 : decode cX1_leaveHomes 47 = .ok (.iload_n 1, 1) := by decide +kernel
theorem dX1_leaveHomes_48 : decode cX1_leaveHomes 48 = .ok (.invokevirtual 182, 3) := by decide +kernel
theorem dX1_leaveHomes_51 : decode cX1_leaveHomes 51 = .ok (.iinc 2 1, 3) := by decide +kernel
theorem dX1_leaveHomes_54 : decode cX1_leaveHomes 54 = .ok (.goto (-52), 3) := by decide +kernel
theorem dX1_leaveHomes_57 : decode cX1_leaveHomes 57 = .ok (.return_, 1) := by decide +kernel
theorem dX1_markBusy_0 : decode cX1_markBusy 0 = .ok (.iload_n 1, 1) := by decide +kernel
theorem dX1_markBusy_1 : decode cX1_markBusy 1 = .ok (.ifCond .lt 17, 3) := by decide +kernel
theorem dX1_markBusy_4 : decode cX1_markBusy 4 = .ok (.iload_n 1, 1) := by decide +kernel
theorem dX1_markBusy_5 : decode cX1_markBusy 5 = .ok (.sipush 840, 3) := by decide +kernel
theorem dX1_markBusy_8 : decode cX1_markBusy 8 = .ok (.if_icmp .ge 10, 3) := by decide +kernel
theorem dX1_markBusy_11 : decode cX1_markBusy 11 = .ok (.aload_n 0, 1) := by decide +kernel
theorem dX1_markBusy_12 : decode cX1_markBusy 12 = .ok (.getfield 79, 3) := by decide +kernel
theorem dX1_markBusy_15 : decode cX1_markBusy 15 = .ok (.iload_n 1, 1) := by decide +kernel
theorem dX1_markBusy_16 : decode cX1_markBusy 16 = .ok (.iconst 1, 1) := by decide +kernel
theorem dX1_markBusy_17 : decode cX1_markBusy 17 = .ok (.iastore, 1) := by decide +kernel
theorem dX1_markBusy_18 : decode cX1_markBusy 18 = .ok (.return_, 1) := by decide +kernel
theorem dX1_pays_0 : decode cX1_pays 0 = .ok (.aload_n 0, 1) := by decide +kernel
theorem dX1_pays_1 : decode cX1_pays 1 = .ok (.getfield 9, 3) := by decide +kernel
theorem dX1_pays_4 : decode cX1_pays 4 = .ok (.getfield 148, 3) := by decide +kernel
theorem dX1_pays_7 : decode cX1_pays 7 = .ok (.getfield 262, 3) := by decide +kernel
theorem dX1_pays_10 : decode cX1_pays 10 = .ok (.iload_n 1, 1) := by decide +kernel
theorem dX1_pays_11 : decode cX1_pays 11 = .ok (.iaload, 1) := by decide +kernel
theorem dX1_pays_12 : decode cX1_pays 12 = .ok (.iconst 2, 1) := by decide +kernel
theorem dX1_pays_13 : decode cX1_pays 13 = .ok (.if_icmp .ne 7, 3) := by decide +kernel
theorem dX1_pays_16 : decode cX1_pays 16 = .ok (.iconst 1, 1) := by decide +kernel
theorem dX1_pays_17 : decode cX1_pays 17 = .ok (.goto 4, 3) := by decide +kernel
theorem dX1_pays_20 : decode cX1_pays 20 = .ok (.iconst 0, 1) := by decide +kernel
theorem dX1_pays_21 : decode cX1_pays 21 = .ok (.istore_n 3, 1) := by decide +kernel
theorem dX1_pays_22 : decode cX1_pays 22 = .ok (.iload_n 2, 1) := by decide +kernel
theorem dX1_pays_23 : decode cX1_pays 23 = .ok (.iload_n 3, 1) := by decide +kernel
theorem dX1_pays_24 : decode cX1_pays 24 = .ok (.ifCond .eq 12, 3) := by decide +kernel
theorem dX1_pays_27 : decode cX1_pays 27 = .ok (.aload_n 0, 1) := by decide +kernel
theorem dX1_pays_28 : decode cX1_pays 28 = .ok (.getfield 59, 3) := by decide +kernel
theorem dX1_pays_31 : decode cX1_pays 31 = .ok (.iload_n 1, 1) := by decide +kernel
theorem dX1_pays_32 : decode cX1_pays 32 = .ok (.iaload, 1) := by decide +kernel
theorem dX1_pays_33 : decode cX1_pays 33 = .ok (.goto 7, 3) := by decide +kernel
theorem dX1_pays_36 : decode cX1_pays 36 = .ok (.aload_n 0, 1) := by decide +kernel
theorem dX1_pays_37 : decode cX1_pays 37 = .ok (.getfield 93, 3) := by decide +kernel
theorem dX1_pays_40 : decode cX1_pays 40 = .ok (.if_icmp .le 5, 3) := by decide +kernel
theorem dX1_pays_43 : decode cX1_pays 43 = .ok (.iconst 0, 1) := by decide +kernel
theorem dX1_pays_44 : decode cX1_pays 44 = .ok (.ireturn, 1) := by decide +kernel
theorem dX1_pays_45 : decode cX1_pays 45 = .ok (.iload_n 3, 1) := by decide +kernel
theorem dX1_pays_46 : decode cX1_pays 46 = .ok (.ifCond .eq 16, 3) := by decide +kernel
theorem dX1_pays_49 : decode cX1_pays 49 = .ok (.aload_n 0, 1) := by decide +kernel
theorem dX1_pays_50 : decode cX1_pays 50 = .ok (.getfield 59, 3) := by decide +kernel
theorem dX1_pays_53 : decode cX1_pays 53 = .ok (.iload_n 1, 1) := by decide +kernel
theorem dX1_pays_54 : decode cX1_pays 54 = .ok (.dup2, 1) := by decide +kernel
theorem dX1_pays_55 : decode cX1_pays 55 = .ok (.iaload, 1) := by decide +kernel
theorem dX1_pays_56 : decode cX1_pays 56 = .ok (.iload_n 2, 1) := by decide +kernel
theorem dX1_pays_57 : decode cX1_pays 57 = .ok (.isub, 1) := by decide +kernel
theorem dX1_pays_58 : decode cX1_pays 58 = .ok (.iastore, 1) := by decide +kernel
theorem dX1_pays_59 : decode cX1_pays 59 = .ok (.goto 13, 3) := by decide +kernel
theorem dX1_pays_62 : decode cX1_pays 62 = .ok (.aload_n 0, 1) := by decide +kernel
theorem dX1_pays_63 : decode cX1_pays 63 = .ok (.dup, 1) := by decide +kernel
theorem dX1_pays_64 : decode cX1_pays 64 = .ok (.getfield 93, 3) := by decide +kernel
theorem dX1_pays_67 : decode cX1_pays 67 = .ok (.iload_n 2, 1) := by decide +kernel
theorem dX1_pays_68 : decode cX1_pays 68 = .ok (.isub, 1) := by decide +kernel
theorem dX1_pays_69 : decode cX1_pays 69 = .ok (.putfield 93, 3) := by decide +kernel
theorem dX1_pays_72 : decode cX1_pays 72 = .ok (.iconst 1, 1) := by decide +kernel
theorem dX1_pays_73 : decode cX1_pays 73 = .ok (.ireturn, 1) := by decide +kernel
theorem dX1_readyPeople_0 : decode cX1_readyPeople 0 = .ok (.iconst 0, 1) := by decide +kernel
theorem dX1_readyPeople_1 : decode cX1_readyPeople 1 = .ok (.istore_n 1, 1) := by decide +kernel
theorem dX1_readyPeople_2 : decode cX1_readyPeople 2 = .ok (.iload_n 1, 1) := by decide +kernel
theorem dX1_readyPeople_3 : decode cX1_readyPeople 3 = .ok (.aload_n 0, 1) := by decide +kernel
theorem dX1_readyPeople_4 : decode cX1_readyPeople 4 = .ok (.getfield 9, 3) := by decide +kernel
theorem dX1_readyPeople_7 : decode cX1_readyPeople 7 = .ok (.getfield 129, 3) := by decide +kernel
theorem dX1_readyPeople_10 : decode cX1_readyPeople 10 = .ok (.getfield 133, 3) := by decide +kernel
theorem dX1_readyPeople_13 : decode cX1_readyPeople 13 = .ok (.if_icmp .ge 110, 3) := by decide +kernel
theorem dX1_readyPeople_16 : decode cX1_readyPeople 16 = .ok (.aload_n 0, 1) := by decide +kernel
theorem dX1_readyPeople_17 : decode cX1_readyPeople 17 = .ok (.getfield 35, 3) := by decide +kernel
theorem dX1_readyPeople_20 : decode cX1_readyPeople 20 = .ok (.iload_n 1, 1) := by decide +kernel
theorem dX1_readyPeople_21 : decode cX1_readyPeople 21 = .ok (.aload_n 0, 1) := by decide +kernel
theorem dX1_readyPeople_22 : decode cX1_readyPeople 22 = .ok (.getfield 9, 3) := by decide +kernel
theorem dX1_readyPeople_25 : decode cX1_readyPeople 25 = .ok (.getfield 129, 3) := by decide +kernel
theorem dX1_readyPeople_28 : decode cX1_readyPeople 28 = .ok (.getfield 136, 3) := by decide +kernel
theorem dX1_readyPeople_31 : decode cX1_readyPeople 31 = .ok (.iload_n 1, 1) := by decide +kernel
theorem dX1_readyPeople_32 : decode cX1_readyPeople 32 = .ok (.iaload, 1) := by decide +kernel
theorem dX1_readyPeople_33 : decode cX1_readyPeople 33 = .ok (.iastore, 1) := by decide +kernel
theorem dX1_readyPeople_34 : decode cX1_readyPeople 34 = .ok (.aload_n 0, 1) := by decide +kernel
theorem dX1_readyPeople_35 : decode cX1_readyPeople 35 = .ok (.getfield 39, 3) := by decide +kernel
theorem dX1_readyPeople_38 : decode cX1_readyPeople 38 = .ok (.iload_n 1, 1) := by decide +kernel
theorem dX1_readyPeople_39 : decode cX1_readyPeople 39 = .ok (.aload_n 0, 1) := by decide +kernel
theorem dX1_readyPeople_40 : decode cX1_readyPeople 40 = .ok (.getfield 9, 3) := by decide +kernel
theorem dX1_readyPeople_43 : decode cX1_readyPeople 43 = .ok (.getfield 129, 3) := by decide +kernel
theorem dX1_readyPeople_46 : decode cX1_readyPeople 46 = .ok (.getfield 137, 3) := by decide +kernel
theorem dX1_readyPeople_49 : decode cX1_readyPeople 49 = .ok (.iload_n 1, 1) := by decide +kernel
theorem dX1_readyPeople_50 : decode cX1_readyPeople 50 = .ok (.iaload, 1) := by decide +kernel
theorem dX1_readyPeople_51 : decode cX1_readyPeople 51 = .ok (.iastore, 1) := by decide +kernel
theorem dX1_readyPeople_52 : decode cX1_readyPeople 52 = .ok (.aload_n 0, 1) := by decide +kernel
theorem dX1_readyPeople_53 : decode cX1_readyPeople 53 = .ok (.getfield 20, 3) := by decide +kernel
theorem dX1_readyPeople_56 : decode cX1_readyPeople 56 = .ok (.iload_n 1, 1) := by decide +kernel
theorem dX1_readyPeople_57 : decode cX1_readyPeople 57 = .ok (.aload_n 0, 1) := by decide +kernel
theorem dX1_readyPeople_58 : decode cX1_readyPeople 58 = .ok (.getfield 39, 3) := by decide +kernel
theorem dX1_readyPeople_61 : decode cX1_readyPeople 61 = .ok (.iload_n 1, 1) := by decide +kernel
theorem dX1_readyPeople_62 : decode cX1_readyPeople 62 = .ok (.iaload, 1) := by decide +kernel
theorem dX1_readyPeople_63 : decode cX1_readyPeople 63 = .ok (.invokevirtual 138, 3) := by decide +kernel
theorem dX1_readyPeople_66 : decode cX1_readyPeople 66 = .ok (.aload_n 0, 1) := by decide +kernel
theorem dX1_readyPeople_67 : decode cX1_readyPeople 67 = .ok (.getfield 42, 3) := by decide +kernel
theorem dX1_readyPeople_70 : decode cX1_readyPeople 70 = .ok (.iload_n 1, 1) := by decide +kernel
theorem dX1_readyPeople_71 : decode cX1_readyPeople 71 = .ok (.iconst (-1), 1) := by decide +kernel
theorem dX1_readyPeople_72 : decode cX1_readyPeople 72 = .ok (.iastore, 1) := by decide +kernel
theorem dX1_readyPeople_73 : decode cX1_readyPeople 73 = .ok (.aload_n 0, 1) := by decide +kernel
theorem dX1_readyPeople_74 : decode cX1_readyPeople 74 = .ok (.getfield 45, 3) := by decide +kernel
theorem dX1_readyPeople_77 : decode cX1_readyPeople 77 = .ok (.iload_n 1, 1) := by decide +kernel
theorem dX1_readyPeople_78 : decode cX1_readyPeople 78 = .ok (.iconst 0, 1) := by decide +kernel
theorem dX1_readyPeople_79 : decode cX1_readyPeople 79 = .ok (.iastore, 1) := by decide +kernel
theorem dX1_readyPeople_80 : decode cX1_readyPeople 80 = .ok (.aload_n 0, 1) := by decide +kernel
theorem dX1_readyPeople_81 : decode cX1_readyPeople 81 = .ok (.getfield 48, 3) := by decide +kernel
theorem dX1_readyPeople_84 : decode cX1_readyPeople 84 = .ok (.iload_n 1, 1) := by decide +kernel
theorem dX1_readyPeople_85 : decode cX1_readyPeople 85 = .ok (.iconst 0, 1) := by decide +kernel
theorem dX1_readyPeople_86 : decode cX1_readyPeople 86 = .ok (.iastore, 1) := by decide +kernel
theorem dX1_readyPeople_87 : decode cX1_readyPeople 87 = .ok (.aload_n 0, 1) := by decide +kernel
theorem dX1_readyPeople_88 : decode cX1_readyPeople 88 = .ok (.getfield 51, 3) := by decide +kernel
theorem dX1_readyPeople_91 : decode cX1_readyPeople 91 = .ok (.iload_n 1, 1) := by decide +kernel
theorem dX1_readyPeople_92 : decode cX1_readyPeople 92 = .ok (.iconst (-1), 1) := by decide +kernel
theorem dX1_readyPeople_93 : decode cX1_readyPeople 93 = .ok (.iastore, 1) := by decide +kernel
theorem dX1_readyPeople_94 : decode cX1_readyPeople 94 = .ok (.aload_n 0, 1) := by decide +kernel
theorem dX1_readyPeople_95 : decode cX1_readyPeople 95 = .ok (.getfield 54, 3) := by decide +kernel
theorem dX1_readyPeople_98 : decode cX1_readyPeople 98 = .ok (.iload_n 1, 1) := by decide +kernel
theorem dX1_readyPeople_99 : decode cX1_readyPeople 99 = .ok (.iconst (-1), 1) := by decide +kernel
theorem dX1_readyPeople_100 : decode cX1_readyPeople 100 = .ok (.iastore, 1) := by decide +kernel
theorem dX1_readyPeople_101 : decode cX1_readyPeople 101 = .ok (.aload_n 0, 1) := by decide +kernel
theorem dX1_readyPeople_102 : decode cX1_readyPeople 102 = .ok (.aload_n 0, 1) := by decide +kernel
theorem dX1_readyPeople_103 : decode cX1_readyPeople 103 = .ok (.getfield 9, 3) := by decide +kernel
theorem dX1_readyPeople_106 : decode cX1_readyPeople 106 = .ok (.getfield 129, 3) := by decide +kernel
theorem dX1_readyPeople_109 : decode cX1_readyPeople 109 = .ok (.getfield 142, 3) := by decide +kernel
theorem dX1_readyPeople_112 : decode cX1_readyPeople 112 = .ok (.iload_n 1, 1) := by decide +kernel
theorem dX1_readyPeople_113 : decode cX1_readyPeople 113 = .ok (.iaload, 1) := by decide +kernel
theorem dX1_readyPeople_114 : decode cX1_readyPeople 114 = .ok (.invokevirtual 145, 3) := by decide +kernel
theorem dX1_readyPeople_117 : decode cX1_readyPeople 117 = .ok (.iinc 1 1, 3) := by decide +kernel
theorem dX1_readyPeople_120 : decode cX1_readyPeople 120 = .ok (.goto (-118), 3) := by decide +kernel
theorem dX1_readyPeople_123 : decode cX1_readyPeople 123 = .ok (.return_, 1) := by decide +kernel
theorem dX1_readyTrips_0 : decode cX1_readyTrips 0 = .ok (.iconst 0, 1) := by decide +kernel
theorem dX1_readyTrips_1 : decode cX1_readyTrips 1 = .ok (.istore_n 1, 1) := by decide +kernel
theorem dX1_readyTrips_2 : decode cX1_readyTrips 2 = .ok (.iload_n 1, 1) := by decide +kernel
theorem dX1_readyTrips_3 : decode cX1_readyTrips 3 = .ok (.aload_n 0, 1) := by decide +kernel
theorem dX1_readyTrips_4 : decode cX1_readyTrips 4 = .ok (.getfield 9, 3) := by decide +kernel
theorem dX1_readyTrips_7 : decode cX1_readyTrips 7 = .ok (.getfield 157, 3) := by decide +kernel
theorem dX1_readyTrips_10 : decode cX1_readyTrips 10 = .ok (.getfield 161, 3) := by decide +kernel
theorem dX1_readyTrips_13 : decode cX1_readyTrips 13 = .ok (.if_icmp .ge 40, 3) := by decide +kernel
theorem dX1_readyTrips_16 : decode cX1_readyTrips 16 = .ok (.aload_n 0, 1) := by decide +kernel
theorem dX1_readyTrips_17 : decode cX1_readyTrips 17 = .ok (.getfield 76, 3) := by decide +kernel
theorem dX1_readyTrips_20 : decode cX1_readyTrips 20 = .ok (.iload_n 1, 1) := by decide +kernel
theorem dX1_readyTrips_21 : decode cX1_readyTrips 21 = .ok (.iconst (-1), 1) := by decide +kernel
theorem dX1_readyTrips_22 : decode cX1_readyTrips 22 = .ok (.iastore, 1) := by decide +kernel
theorem dX1_readyTrips_23 : decode cX1_readyTrips 23 = .ok (.aload_n 0, 1) := by decide +kernel
theorem dX1_readyTrips_24 : decode cX1_readyTrips 24 = .ok (.iload_n 1, 1) := by decide +kernel
theorem dX1_readyTrips_25 : decode cX1_readyTrips 25 = .ok (.invokevirtual 162, 3) := by decide +kernel
theorem dX1_readyTrips_28 : decode cX1_readyTrips 28 = .ok (.ifCond .eq 19, 3) := by decide +kernel
theorem dX1_readyTrips_31 : decode cX1_readyTrips 31 = .ok (.aload_n 0, 1) := by decide +kernel
theorem dX1_readyTrips_32 : decode cX1_readyTrips 32 = .ok (.aload_n 0, 1) := by decide +kernel
theorem dX1_readyTrips_33 : decode cX1_readyTrips 33 = .ok (.getfield 9, 3) := by decide +kernel
theorem dX1_readyTrips_36 : decode cX1_readyTrips 36 = .ok (.getfield 157, 3) := by decide +kernel
theorem dX1_readyTrips_39 : decode cX1_readyTrips 39 = .ok (.getfield 166, 3) := by decide +kernel
theorem dX1_readyTrips_42 : decode cX1_readyTrips 42 = .ok (.iload_n 1, 1) := by decide +kernel
theorem dX1_readyTrips_43 : decode cX1_readyTrips 43 = .ok (.iaload, 1) := by decide +kernel
theorem dX1_readyTrips_44 : decode cX1_readyTrips 44 = .ok (.invokevirtual 145, 3) := by decide +kernel
theorem dX1_readyTrips_47 : decode cX1_readyTrips 47 = .ok (.iinc 1 1, 3) := by decide +kernel
theorem dX1_readyTrips_50 : decode cX1_readyTrips 50 = .ok (.goto (-48), 3) := by decide +kernel
theorem dX1_readyTrips_53 : decode cX1_readyTrips 53 = .ok (.return_, 1) := by decide +kernel
theorem dX1_readyWheels_0 : decode cX1_readyWheels 0 = .ok (.iconst 0, 1) := by decide +kernel
theorem dX1_readyWheels_1 : decode cX1_readyWheels 1 = .ok (.istore_n 1, 1) := by decide +kernel
theorem dX1_readyWheels_2 : decode cX1_readyWheels 2 = .ok (.iload_n 1, 1) := by decide +kernel
theorem dX1_readyWheels_3 : decode cX1_readyWheels 3 = .ok (.aload_n 0, 1) := by decide +kernel
theorem dX1_readyWheels_4 : decode cX1_readyWheels 4 = .ok (.getfield 9, 3) := by decide +kernel
theorem dX1_readyWheels_7 : decode cX1_readyWheels 7 = .ok (.getfield 148, 3) := by decide +kernel
theorem dX1_readyWheels_10 : decode cX1_readyWheels 10 = .ok (.getfield 152, 3) := by decide +kernel
theorem dX1_readyWheels_13 : decode cX1_readyWheels 13 = .ok (.if_icmp .ge 66, 3) := by decide +kernel
theorem dX1_readyWheels_16 : decode cX1_readyWheels 16 = .ok (.aload_n 0, 1) := by decide +kernel
theorem dX1_readyWheels_17 : decode cX1_readyWheels 17 = .ok (.getfield 59, 3) := by decide +kernel
theorem dX1_readyWheels_20 : decode cX1_readyWheels 20 = .ok (.iload_n 1, 1) := by decide +kernel
theorem dX1_readyWheels_21 : decode cX1_readyWheels 21 = .ok (.aload_n 0, 1) := by decide +kernel
theorem dX1_readyWheels_22 : decode cX1_readyWheels 22 = .ok (.getfield 9, 3) := by decide +kernel
theorem dX1_readyWheels_25 : decode cX1_readyWheels 25 = .ok (.getfield 148, 3) := by decide +kernel
theorem dX1_readyWheels_28 : decode cX1_readyWheels 28 = .ok (.getfield 153, 3) := by decide +kernel
theorem dX1_readyWheels_31 : decode cX1_readyWheels 31 = .ok (.iload_n 1, 1) := by decide +kernel
theorem dX1_readyWheels_32 : decode cX1_readyWheels 32 = .ok (.iaload, 1) := by decide +kernel
theorem dX1_readyWheels_33 : decode cX1_readyWheels 33 = .ok (.iastore, 1) := by decide +kernel
theorem dX1_readyWheels_34 : decode cX1_readyWheels 34 = .ok (.aload_n 0, 1) := by decide +kernel
theorem dX1_readyWheels_35 : decode cX1_readyWheels 35 = .ok (.getfield 62, 3) := by decide +kernel
theorem dX1_readyWheels_38 : decode cX1_readyWheels 38 = .ok (.iload_n 1, 1) := by decide +kernel
theorem dX1_readyWheels_39 : decode cX1_readyWheels 39 = .ok (.iconst 0, 1) := by decide +kernel
theorem dX1_readyWheels_40 : decode cX1_readyWheels 40 = .ok (.iastore, 1) := by decide +kernel
theorem dX1_readyWheels_41 : decode cX1_readyWheels 41 = .ok (.aload_n 0, 1) := by decide +kernel
theorem dX1_readyWheels_42 : decode cX1_readyWheels 42 = .ok (.getfield 65, 3) := by decide +kernel
theorem dX1_readyWheels_45 : decode cX1_readyWheels 45 = .ok (.iload_n 1, 1) := by decide +kernel
theorem dX1_readyWheels_46 : decode cX1_readyWheels 46 = .ok (.iconst 0, 1) := by decide +kernel
theorem dX1_readyWheels_47 : decode cX1_readyWheels 47 = .ok (.iastore, 1) := by decide +kernel
theorem dX1_readyWheels_48 : decode cX1_readyWheels 48 = .ok (.aload_n 0, 1) := by decide +kernel
theorem dX1_readyWheels_49 : decode cX1_readyWheels 49 = .ok (.getfield 68, 3) := by decide +kernel
theorem dX1_readyWheels_52 : decode cX1_readyWheels 52 = .ok (.iload_n 1, 1) := by decide +kernel
theorem dX1_readyWheels_53 : decode cX1_readyWheels 53 = .ok (.aload_n 0, 1) := by decide +kernel
theorem dX1_readyWheels_54 : decode cX1_readyWheels 54 = .ok (.getfield 9, 3) := by decide +kernel
theorem dX1_readyWheels_57 : decode cX1_readyWheels 57 = .ok (.getfield 148, 3) := by decide +kernel
theorem dX1_readyWheels_60 : decode cX1_readyWheels 60 = .ok (.getfield 154, 3) := by decide +kernel
theorem dX1_readyWheels_63 : decode cX1_readyWheels 63 = .ok (.iload_n 1, 1) := by decide +kernel
theorem dX1_readyWheels_64 : decode cX1_readyWheels 64 = .ok (.iaload, 1) := by decide +kernel
theorem dX1_readyWheels_65 : decode cX1_readyWheels 65 = .ok (.iastore, 1) := by decide +kernel
theorem dX1_readyWheels_66 : decode cX1_readyWheels 66 = .ok (.aload_n 0, 1) := by decide +kernel
theorem dX1_readyWheels_67 : decode cX1_readyWheels 67 = .ok (.getfield 71, 3) := by decide +kernel
theorem dX1_readyWheels_70 : decode cX1_readyWheels 70 = .ok (.iload_n 1, 1) := by decide +kernel
theorem dX1_readyWheels_71 : decode cX1_readyWheels 71 = .ok (.iconst (-1), 1) := by decide +kernel
theorem dX1_readyWheels_72 : decode cX1_readyWheels 72 = .ok (.iastore, 1) := by decide +kernel
theorem dX1_readyWheels_73 : decode cX1_readyWheels 73 = .ok (.iinc 1 1, 3) := by decide +kernel
theorem dX1_readyWheels_76 : decode cX1_readyWheels 76 = .ok (.goto (-74), 3) := by decide +kernel
theorem dX1_readyWheels_79 : decode cX1_readyWheels 79 = .ok (.return_, 1) := by decide +kernel
theorem dX1_setOut_0 : decode cX1_setOut 0 = .ok (.aload_n 0, 1) := by decide +kernel
theorem dX1_setOut_1 : decode cX1_setOut 1 = .ok (.getfield 9, 3) := by decide +kernel
theorem dX1_setOut_4 : decode cX1_setOut 4 = .ok (.getfield 157, 3) := by decide +kernel
theorem dX1_setOut_7 : decode cX1_setOut 7 = .ok (.getfield 176, 3) := by decide +kernel
theorem dX1_setOut_10 : decode cX1_setOut 10 = .ok (.iload_n 1, 1) := by decide +kernel
theorem dX1_setOut_11 : decode cX1_setOut 11 = .ok (.iaload, 1) := by decide +kernel
theorem dX1_setOut_12 : decode cX1_setOut 12 = .ok (.istore_n 3, 1) := by decide +kernel
theorem dX1_setOut_13 : decode cX1_setOut 13 = .ok (.aload_n 0, 1) := by decide +kernel
theorem dX1_setOut_14 : decode cX1_setOut 14 = .ok (.getfield 68, 3) := by decide +kernel
theorem dX1_setOut_17 : decode cX1_setOut 17 = .ok (.iload_n 3, 1) := by decide +kernel
theorem dX1_setOut_18 : decode cX1_setOut 18 = .ok (.aload_n 0, 1) := by decide +kernel
theorem dX1_setOut_19 : decode cX1_setOut 19 = .ok (.getfield 9, 3) := by decide +kernel
theorem dX1_setOut_22 : decode cX1_setOut 22 = .ok (.getfield 157, 3) := by decide +kernel
theorem dX1_setOut_25 : decode cX1_setOut 25 = .ok (.getfield 272, 3) := by decide +kernel
theorem dX1_setOut_28 : decode cX1_setOut 28 = .ok (.iload_n 1, 1) := by decide +kernel
theorem dX1_setOut_29 : decode cX1_setOut 29 = .ok (.iaload, 1) := by decide +kernel
theorem dX1_setOut_30 : decode cX1_setOut 30 = .ok (.iastore, 1) := by decide +kernel
theorem dX1_setOut_31 : decode cX1_setOut 31 = .ok (.aload_n 0, 1) := by decide +kernel
theorem dX1_setOut_32 : decode cX1_setOut 32 = .ok (.getfield 71, 3) := by decide +kernel
theorem dX1_setOut_35 : decode cX1_setOut 35 = .ok (.iload_n 3, 1) := by decide +kernel
theorem dX1_setOut_36 : decode cX1_setOut 36 = .ok (.iload_n 2, 1) := by decide +kernel
theorem dX1_setOut_37 : decode cX1_setOut 37 = .ok (.aload_n 0, 1) := by decide +kernel
theorem dX1_setOut_38 : decode cX1_setOut 38 = .ok (.getfield 9, 3) := by decide +kernel
theorem dX1_setOut_41 : decode cX1_setOut 41 = .ok (.iload_n 1, 1) := by decide +kernel
theorem dX1_setOut_42 : decode cX1_setOut 42 = .ok (.aload_n 0, 1) := by decide +kernel
theorem dX1_setOut_43 : decode cX1_setOut 43 = .ok (.getfield 9, 3) := by decide +kernel
theorem dX1_setOut_46 : decode cX1_setOut 46 = .ok (.aload_n 0, 1) := by decide +kernel
theorem dX1_setOut_47 : decode cX1_setOut 47 = .ok (.getfield 9, 3) := by decide +kernel
theorem dX1_setOut_50 : decode cX1_setOut 50 = .ok (.getfield 169, 3) := by decide +kernel
theorem dX1_setOut_53 : decode cX1_setOut 53 = .ok (.invokevirtual 275, 3) := by decide +kernel
theorem dX1_setOut_56 : decode cX1_setOut 56 = .ok (.invokevirtual 278, 3) := by decide +kernel
theorem dX1_setOut_59 : decode cX1_setOut 59 = .ok (.iadd, 1) := by decide +kernel
theorem dX1_setOut_60 : decode cX1_setOut 60 = .ok (.iastore, 1) := by decide +kernel
theorem dX1_setOut_61 : decode cX1_setOut 61 = .ok (.aload_n 0, 1) := by decide +kernel
theorem dX1_setOut_62 : decode cX1_setOut 62 = .ok (.aload_n 0, 1) := by decide +kernel
theorem dX1_setOut_63 : decode cX1_setOut 63 = .ok (.getfield 71, 3) := by decide +kernel
theorem dX1_setOut_66 : decode cX1_setOut 66 = .ok (.iload_n 3, 1) := by decide +kernel
theorem dX1_setOut_67 : decode cX1_setOut 67 = .ok (.iaload, 1) := by decide +kernel
theorem dX1_setOut_68 : decode cX1_setOut 68 = .ok (.invokevirtual 145, 3) := by decide +kernel
theorem dX1_setOut_71 : decode cX1_setOut 71 = .ok (.iconst 0, 1) := by decide +kernel
theorem dX1_setOut_72 : decode cX1_setOut 72 = .ok (.istore 4, 2) := by decide +kernel
theorem dX1_setOut_74 : decode cX1_setOut 74 = .ok (.iload 4, 2) := by decide +kernel
theorem dX1_setOut_76 : decode cX1_setOut 76 = .ok (.aload_n 0, 1) := by decide +kernel
theorem dX1_setOut_77 : decode cX1_setOut 77 = .ok (.getfield 9, 3) := by decide +kernel
theorem dX1_setOut_80 : decode cX1_setOut 80 = .ok (.getfield 129, 3) := by decide +kernel
theorem dX1_setOut_83 : decode cX1_setOut 83 = .ok (.getfield 133, 3) := by decide +kernel
theorem dX1_setOut_86 : decode cX1_setOut 86 = .ok (.if_icmp .ge 31, 3) := by decide +kernel
theorem dX1_setOut_89 : decode cX1_setOut 89 = .ok (.aload_n 0, 1) := by decide +kernel
theorem dX1_setOut_90 : decode cX1_setOut 90 = .ok (.getfield 54, 3) := by decide +kernel
theorem dX1_setOut_93 : decode cX1_setOut 93 = .ok (.iload 4, 2) := by decide +kernel
theorem dX1_setOut_95 : decode cX1_setOut 95 = .ok (.iaload, 1) := by decide +kernel
theorem dX1_setOut_96 : decode cX1_setOut 96 = .ok (.iload_n 3, 1) := by decide +kernel
theorem dX1_setOut_97 : decode cX1_setOut 97 = .ok (.if_icmp .ne 14, 3) := by decide +kernel
theorem dX1_setOut_100 : decode cX1_setOut 100 = .ok (.aload_n 0, 1) := by decide +kernel
theorem dX1_setOut_101 : decode cX1_setOut 101 = .ok (.getfield 48, 3) := by decide +kernel
theorem dX1_setOut_104 : decode cX1_setOut 104 = .ok (.iload 4, 2) := by decide +kernel
theorem dX1_setOut_106 : decode cX1_setOut 106 = .ok (.dup2, 1) := by decide +kernel
theorem dX1_setOut_107 : decode cX1_setOut 107 = .ok (.iaload, 1) := by decide +kernel
theorem dX1_setOut_108 : decode cX1_setOut 108 = .ok (.iconst 1, 1) := by decide +kernel
theorem dX1_setOut_109 : decode cX1_setOut 109 = .ok (.iadd, 1) := by decide +kernel
theorem dX1_setOut_110 : decode cX1_setOut 110 = .ok (.iastore, 1) := by decide +kernel
theorem dX1_setOut_111 : decode cX1_setOut 111 = .ok (.iinc 4 1, 3) := by decide +kernel
theorem dX1_setOut_114 : decode cX1_setOut 114 = .ok (.goto (-40), 3) := by decide +kernel
theorem dX1_setOut_117 : decode cX1_setOut 117 = .ok (.return_, 1) := by decide +kernel
theorem dX1_settlePerson_0 : decode cX1_settlePerson 0 = .ok (.aload_n 0, 1) := by decide +kernel
theorem dX1_settlePerson_1 : decode cX1_settlePerson 1 = .ok (.getfield 9, 3) := by decide +kernel
theorem dX1_settlePerson_4 : decode cX1_settlePerson 4 = .ok (.getfield 129, 3) := by decide +kernel
theorem dX1_settlePerson_7 : decode cX1_settlePerson 7 = .ok (.astore_n 3, 1) := by decide +kernel
theorem dX1_settlePerson_8 : decode cX1_settlePerson 8 = .ok (.aload_n 0, 1) := by decide +kernel
theorem dX1_settlePerson_9 : decode cX1_settlePerson 9 = .ok (.getfield 42, 3) := by decide +kernel
theorem dX1_settlePerson_12 : decode cX1_settlePerson 12 = .ok (.iload_n 1, 1) := by decide +kernel
theorem dX1_settlePerson_13 : decode cX1_settlePerson 13 = .ok (.iaload, 1) := by decide +kernel
theorem dX1_settlePerson_14 : decode cX1_settlePerson 14 = .ok (.iconst (-1), 1) := by decide +kernel
theorem dX1_settlePerson_15 : decode cX1_settlePerson 15 = .ok (.if_icmp .ne 9, 3) := by decide +kernel
theorem dX1_settlePerson_18 : decode cX1_settlePerson 18 = .ok (.sipush 840, 3) := by decide +kernel
theorem dX1_settlePerson_21 : decode cX1_settlePerson 21 = .ok (.goto 9, 3) := by decide +kernel
theorem dX1_settlePerson_24 : decode cX1_settlePerson 24 = .ok (.aload_n 0, 1) := by decide +kernel
theorem dX1_settlePerson_25 : decode cX1_settlePerson 25 = .ok (.getfield 42, 3) := by decide +kernel
theorem dX1_settlePerson_28 : decode cX1_settlePerson 28 = .ok (.iload_n 1, 1) := by decide +kernel
theorem dX1_settlePerson_29 : decode cX1_settlePerson 29 = .ok (.iaload, 1) := by decide +kernel
theorem dX1_settlePerson_30 : decode cX1_settlePerson 30 = .ok (.istore 4, 2) := by decide +kernel
theorem dX1_settlePerson_32 : decode cX1_settlePerson 32 = .ok (.iconst 0, 1) := by decide +kernel
theorem dX1_settlePerson_33 : decode cX1_settlePerson 33 = .ok (.iload 4, 2) := by decide +kernel
theorem dX1_settlePerson_35 : decode cX1_settlePerson 35 = .ok (.aload_n 3, 1) := by decide +kernel
theorem dX1_settlePerson_36 : decode cX1_settlePerson 36 = .ok (.getfield 259, 3) := by decide +kernel
theorem dX1_settlePerson_39 : decode cX1_settlePerson 39 = .ok (.iload_n 1, 1) := by decide +kernel
theorem dX1_settlePerson_40 : decode cX1_settlePerson 40 = .ok (.iaload, 1) := by decide +kernel
theorem dX1_settlePerson_41 : decode cX1_settlePerson 41 = .ok (.isub, 1) := by decide +kernel
theorem dX1_settlePerson_42 : decode cX1_settlePerson 42 = .ok (.invokestatic 220, 3) := by decide +kernel
theorem dX1_settlePerson_45 : decode cX1_settlePerson 45 = .ok (.istore 5, 2) := by decide +kernel
theorem dX1_settlePerson_47 : decode cX1_settlePerson 47 = .ok (.iconst 0, 1) := by decide +kernel
theorem dX1_settlePerson_48 : decode cX1_settlePerson 48 = .ok (.aload_n 3, 1) := by decide +kernel
theorem dX1_settlePerson_49 : decode cX1_settlePerson 49 = .ok (.getfield 298, 3) := by decide +kernel
theorem dX1_settlePerson_52 : decode cX1_settlePerson 52 = .ok (.iload_n 1, 1) := by decide +kernel
theorem dX1_settlePerson_53 : decode cX1_settlePerson 53 = .ok (.iaload, 1) := by decide +kernel
theorem dX1_settlePerson_54 : decode cX1_settlePerson 54 = .ok (.iload_n 2, 1) := by decide +kernel
theorem dX1_settlePerson_55 : decode cX1_settlePerson 55 = .ok (.iload 5, 2) := by decide +kernel
theorem dX1_settlePerson_57 : decode cX1_settlePerson 57 = .ok (.bipush 10, 2) := by decide +kernel
theorem dX1_settlePerson_59 : decode cX1_settlePerson 59 = .ok (.idiv, 1) := by decide +kernel
theorem dX1_settlePerson_60 : decode cX1_settlePerson 60 = .ok (.imul, 1) := by decide +kernel
theorem dX1_settlePerson_61 : decode cX1_settlePerson 61 = .ok (.isub, 1) := by decide +kernel
theorem dX1_settlePerson_62 : decode cX1_settlePerson 62 = .ok (.invokestatic 220, 3) := by decide +kernel
theorem dX1_settlePerson_65 : decode cX1_settlePerson 65 = .ok (.istore 6, 2) := by decide +kernel
theorem dX1_settlePerson_67 : decode cX1_settlePerson 67 = .ok (.aload_n 3, 1) := by decide +kernel
theorem dX1_settlePerson_68 : decode cX1_settlePerson 68 = .ok (.getfield 301, 3) := by decide +kernel
theorem dX1_settlePerson_71 : decode cX1_settlePerson 71 = .ok (.iload_n 1, 1) := by decide +kernel
theorem dX1_settlePerson_72 : decode cX1_settlePerson 72 = .ok (.aload_n 0, 1) := by decide +kernel
theorem dX1_settlePerson_73 : decode cX1_settlePerson 73 = .ok (.getfield 42, 3) := by decide +kernel
theorem dX1_settlePerson_76 : decode cX1_settlePerson 76 = .ok (.iload_n 1, 1) := by decide +kernel
theorem dX1_settlePerson_77 : decode cX1_settlePerson 77 = .ok (.iaload, 1) := by decide +kernel
theorem dX1_settlePerson_78 : decode cX1_settlePerson 78 = .ok (.iastore, 1) := by decide +kernel
theorem dX1_settlePerson_79 : decode cX1_settlePerson 79 = .ok (.aload_n 3, 1) := by decide +kernel
theorem dX1_settlePerson_80 : decode cX1_settlePerson 80 = .ok (.getfield 302, 3) := by decide +kernel
theorem dX1_settlePerson_83 : decode cX1_settlePerson 83 = .ok (.iload_n 1, 1) := by decide +kernel
theorem dX1_settlePerson_84 : decode cX1_settlePerson 84 = .ok (.iload 5, 2) := by decide +kernel
theorem dX1_settlePerson_86 : decode cX1_settlePerson 86 = .ok (.iastore, 1) := by decide +kernel
theorem dX1_settlePerson_87 : decode cX1_settlePerson 87 = .ok (.aload_n 3, 1) := by decide +kernel
theorem dX1_settlePerson_88 : decode cX1_settlePerson 88 = .ok (.getfield 305, 3) := by decide +kernel
theorem dX1_settlePerson_91 : decode cX1_settlePerson 91 = .ok (.iload_n 1, 1) := by decide +kernel
theorem dX1_settlePerson_92 : decode cX1_settlePerson 92 = .ok (.aload_n 0, 1) := by decide +kernel
theorem dX1_settlePerson_93 : decode cX1_settlePerson 93 = .ok (.getfield 45, 3) := by decide +kernel
theorem dX1_settlePerson_96 : decode cX1_settlePerson 96 = .ok (.iload_n 1, 1) := by decide +kernel
theorem dX1_settlePerson_97 : decode cX1_settlePerson 97 = .ok (.iaload, 1) := by decide +kernel
theorem dX1_settlePerson_98 : decode cX1_settlePerson 98 = .ok (.iastore, 1) := by decide +kernel
theorem dX1_settlePerson_99 : decode cX1_settlePerson 99 = .ok (.aload_n 3, 1) := by decide +kernel
theorem dX1_settlePerson_100 : decode cX1_settlePerson 100 = .ok (.getfield 306, 3) := by decide +kernel
theorem dX1_settlePerson_103 : decode cX1_settlePerson 103 = .ok (.iload_n 1, 1) := by decide +kernel
theorem dX1_settlePerson_104 : decode cX1_settlePerson 104 = .ok (.aload_n 0, 1) := by decide +kernel
theorem dX1_settlePerson_105 : decode cX1_settlePerson 105 = .ok (.getfield 48, 3) := by decide +kernel
theorem dX1_settlePerson_108 : decode cX1_settlePerson 108 = .ok (.iload_n 1, 1) := by decide +kernel
theorem dX1_settlePerson_109 : decode cX1_settlePerson 109 = .ok (.iaload, 1) := by decide +kernel
theorem dX1_settlePerson_110 : decode cX1_settlePerson 110 = .ok (.iastore, 1) := by decide +kernel
theorem dX1_settlePerson_111 : decode cX1_settlePerson 111 = .ok (.aload_n 3, 1) := by decide +kernel
theorem dX1_settlePerson_112 : decode cX1_settlePerson 112 = .ok (.getfield 136, 3) := by decide +kernel
theorem dX1_settlePerson_115 : decode cX1_settlePerson 115 = .ok (.iload_n 1, 1) := by decide +kernel
theorem dX1_settlePerson_116 : decode cX1_settlePerson 116 = .ok (.aload_n 0, 1) := by decide +kernel
theorem dX1_settlePerson_117 : decode cX1_settlePerson 117 = .ok (.getfield 35, 3) := by decide +kernel
theorem dX1_settlePerson_120 : decode cX1_settlePerson 120 = .ok (.iload_n 1, 1) := by decide +kernel
theorem dX1_settlePerson_121 : decode cX1_settlePerson 121 = .ok (.iaload, 1) := by decide +kernel
theorem dX1_settlePerson_122 : decode cX1_settlePerson 122 = .ok (.iload 6, 2) := by decide +kernel
theorem dX1_settlePerson_124 : decode cX1_settlePerson 124 = .ok (.iadd, 1) := by decide +kernel
theorem dX1_settlePerson_125 : decode cX1_settlePerson 125 = .ok (.ldc_w 307, 3) := by decide +kernel
theorem dX1_settlePerson_128 : decode cX1_settlePerson 128 = .ok (.invokestatic 266, 3) := by decide +kernel
theorem dX1_settlePerson_131 : decode cX1_settlePerson 131 = .ok (.iastore, 1) := by decide +kernel
theorem dX1_settlePerson_132 : decode cX1_settlePerson 132 = .ok (.aload_n 3, 1) := by decide +kernel
theorem dX1_settlePerson_133 : decode cX1_settlePerson 133 = .ok (.getfield 217, 3) := by decide +kernel
theorem dX1_settlePerson_136 : decode cX1_settlePerson 136 = .ok (.iload_n 1, 1) := by decide +kernel
theorem dX1_settlePerson_137 : decode cX1_settlePerson 137 = .ok (.dup2, 1) := by decide +kernel
theorem dX1_settlePerson_138 : decode cX1_settlePerson 138 = .ok (.iaload, 1) := by decide +kernel
theorem dX1_settlePerson_139 : decode cX1_settlePerson 139 = .ok (.aload_n 0, 1) := by decide +kernel
theorem dX1_settlePerson_140 : decode cX1_settlePerson 140 = .ok (.getfield 45, 3) := by decide +kernel
theorem dX1_settlePerson_143 : decode cX1_settlePerson 143 = .ok (.iload_n 1, 1) := by decide +kernel
theorem dX1_settlePerson_144 : decode cX1_settlePerson 144 = .ok (.iaload, 1) := by decide +kernel
theorem dX1_settlePerson_145 : decode cX1_settlePerson 145 = .ok (.iadd, 1) := by decide +kernel
theorem dX1_settlePerson_146 : decode cX1_settlePerson 146 = .ok (.iastore, 1) := by decide +kernel
theorem dX1_settlePerson_147 : decode cX1_settlePerson 147 = .ok (.aload_n 3, 1) := by decide +kernel
theorem dX1_settlePerson_148 : decode cX1_settlePerson 148 = .ok (.getfield 137, 3) := by decide +kernel
theorem dX1_settlePerson_151 : decode cX1_settlePerson 151 = .ok (.iload_n 1, 1) := by decide +kernel
theorem dX1_settlePerson_152 : decode cX1_settlePerson 152 = .ok (.aload_n 0, 1) := by decide +kernel
theorem dX1_settlePerson_153 : decode cX1_settlePerson 153 = .ok (.getfield 39, 3) := by decide +kernel
theorem dX1_settlePerson_156 : decode cX1_settlePerson 156 = .ok (.iload_n 1, 1) := by decide +kernel
theorem dX1_settlePerson_157 : decode cX1_settlePerson 157 = .ok (.iaload, 1) := by decide +kernel
theorem dX1_settlePerson_158 : decode cX1_settlePerson 158 = .ok (.iastore, 1) := by decide +kernel
theorem dX1_settlePerson_159 : decode cX1_settlePerson 159 = .ok (.return_, 1) := by decide +kernel
theorem dX1_standsReady_0 : decode cX1_standsReady 0 = .ok (.aload_n 0, 1) := by decide +kernel
theorem dX1_standsReady_1 : decode cX1_standsReady 1 = .ok (.getfield 9, 3) := by decide +kernel
theorem dX1_standsReady_4 : decode cX1_standsReady 4 = .ok (.getfield 157, 3) := by decide +kernel
theorem dX1_standsReady_7 : decode cX1_standsReady 7 = .ok (.getfield 176, 3) := by decide +kernel
theorem dX1_standsReady_10 : decode cX1_standsReady 10 = .ok (.iload_n 1, 1) := by decide +kernel
theorem dX1_standsReady_11 : decode cX1_standsReady 11 = .ok (.iaload, 1) := by decide +kernel
theorem dX1_standsReady_12 : decode cX1_standsReady 12 = .ok (.istore_n 2, 1) := by decide +kernel
theorem dX1_standsReady_13 : decode cX1_standsReady 13 = .ok (.aload_n 0, 1) := by decide +kernel
theorem dX1_standsReady_14 : decode cX1_standsReady 14 = .ok (.getfield 71, 3) := by decide +kernel
theorem dX1_standsReady_17 : decode cX1_standsReady 17 = .ok (.iload_n 2, 1) := by decide +kernel
theorem dX1_standsReady_18 : decode cX1_standsReady 18 = .ok (.iaload, 1) := by decide +kernel
theorem dX1_standsReady_19 : decode cX1_standsReady 19 = .ok (.iconst (-1), 1) := by decide +kernel
theorem dX1_standsReady_20 : decode cX1_standsReady 20 = .ok (.if_icmp .ne 50, 3) := by decide +kernel
theorem dX1_standsReady_23 : decode cX1_standsReady 23 = .ok (.aload_n 0, 1) := by decide +kernel
theorem dX1_standsReady_24 : decode cX1_standsReady 24 = .ok (.getfield 68, 3) := by decide +kernel
theorem dX1_standsReady_27 : decode cX1_standsReady 27 = .ok (.iload_n 2, 1) := by decide +kernel
theorem dX1_standsReady_28 : decode cX1_standsReady 28 = .ok (.iaload, 1) := by decide +kernel
theorem dX1_standsReady_29 : decode cX1_standsReady 29 = .ok (.aload_n 0, 1) := by decide +kernel
theorem dX1_standsReady_30 : decode cX1_standsReady 30 = .ok (.getfield 9, 3) := by decide +kernel
theorem dX1_standsReady_33 : decode cX1_standsReady 33 = .ok (.getfield 157, 3) := by decide +kernel
theorem dX1_standsReady_36 : decode cX1_standsReady 36 = .ok (.getfield 189, 3) := by decide +kernel
theorem dX1_standsReady_39 : decode cX1_standsReady 39 = .ok (.iload_n 1, 1) := by decide +kernel
theorem dX1_standsReady_40 : decode cX1_standsReady 40 = .ok (.iaload, 1) := by decide +kernel
theorem dX1_standsReady_41 : decode cX1_standsReady 41 = .ok (.if_icmp .ne 29, 3) := by decide +kernel
theorem dX1_standsReady_44 : decode cX1_standsReady 44 = .ok (.aload_n 0, 1) := by decide +kernel
theorem dX1_standsReady_45 : decode cX1_standsReady 45 = .ok (.getfield 65, 3) := by decide +kernel
theorem dX1_standsReady_48 : decode cX1_standsReady 48 = .ok (.iload_n 2, 1) := by decide +kernel
theorem dX1_standsReady_49 : decode cX1_standsReady 49 = .ok (.iaload, 1) := by decide +kernel
theorem dX1_standsReady_50 : decode cX1_standsReady 50 = .ok (.ifCond .ne 20, 3) := by decide +kernel
theorem dX1_standsReady_53 : decode cX1_standsReady 53 = .ok (.aload_n 0, 1) := by decide +kernel
theorem dX1_standsReady_54 : decode cX1_standsReady 54 = .ok (.getfield 9, 3) := by decide +kernel
theorem dX1_standsReady_57 : decode cX1_standsReady 57 = .ok (.iload_n 1, 1) := by decide +kernel
theorem dX1_standsReady_58 : decode cX1_standsReady 58 = .ok (.invokevirtual 246, 3) := by decide +kernel
theorem dX1_standsReady_61 : decode cX1_standsReady 61 = .ok (.ldc 209, 2) := by decide +kernel
theorem dX1_standsReady_63 : decode cX1_standsReady 63 = .ok (.if_icmp .ge 7, 3) := by decide +kernel
theorem dX1_standsReady_66 : decode cX1_standsReady 66 = .ok (.iconst 1, 1) := by decide +kernel
theorem dX1_standsReady_67 : decode cX1_standsReady 67 = .ok (.goto 4, 3) := by decide +kernel
theorem dX1_standsReady_70 : decode cX1_standsReady 70 = .ok (.iconst 0, 1) := by decide +kernel
theorem dX1_standsReady_71 : decode cX1_standsReady 71 = .ok (.ireturn, 1) := by decide +kernel
theorem dX1_walk_0 : decode cX1_walk 0 = .ok (.aload_n 0, 1) := by decide +kernel
theorem dX1_walk_1 : decode cX1_walk 1 = .ok (.getfield 9, 3) := by decide +kernel
theorem dX1_walk_4 : decode cX1_walk 4 = .ok (.getfield 129, 3) := by decide +kernel
theorem dX1_walk_7 : decode cX1_walk 7 = .ok (.getfield 217, 3) := by decide +kernel
theorem dX1_walk_10 : decode cX1_walk 10 = .ok (.iload_n 1, 1) := by decide +kernel
theorem dX1_walk_11 : decode cX1_walk 11 = .ok (.iaload, 1) := by decide +kernel
theorem dX1_walk_12 : decode cX1_walk 12 = .ok (.aload_n 0, 1) := by decide +kernel
theorem dX1_walk_13 : decode cX1_walk 13 = .ok (.getfield 45, 3) := by decide +kernel
theorem dX1_walk_16 : decode cX1_walk 16 = .ok (.iload_n 1, 1) := by decide +kernel
theorem dX1_walk_17 : decode cX1_walk 17 = .ok (.iaload, 1) := by decide +kernel
theorem dX1_walk_18 : decode cX1_walk 18 = .ok (.iadd, 1) := by decide +kernel
theorem dX1_walk_19 : decode cX1_walk 19 = .ok (.istore_n 3, 1) := by decide +kernel
theorem dX1_walk_20 : decode cX1_walk 20 = .ok (.iload_n 3, 1) := by decide +kernel
theorem dX1_walk_21 : decode cX1_walk 21 = .ok (.iload_n 2, 1) := by decide +kernel
theorem dX1_walk_22 : decode cX1_walk 22 = .ok (.iadd, 1) := by decide +kernel
theorem dX1_walk_23 : decode cX1_walk 23 = .ok (.sipush 300, 3) := by decide +kernel
theorem dX1_walk_26 : decode cX1_walk 26 = .ok (.idiv, 1) := by decide +kernel
theorem dX1_walk_27 : decode cX1_walk 27 = .ok (.iload_n 3, 1) := by decide +kernel
theorem dX1_walk_28 : decode cX1_walk 28 = .ok (.sipush 300, 3) := by decide +kernel
theorem dX1_walk_31 : decode cX1_walk 31 = .ok (.idiv, 1) := by decide +kernel
theorem dX1_walk_32 : decode cX1_walk 32 = .ok (.isub, 1) := by decide +kernel
theorem dX1_walk_33 : decode cX1_walk 33 = .ok (.istore 4, 2) := by decide +kernel
theorem dX1_walk_35 : decode cX1_walk 35 = .ok (.aload_n 0, 1) := by decide +kernel
theorem dX1_walk_36 : decode cX1_walk 36 = .ok (.getfield 45, 3) := by decide +kernel
theorem dX1_walk_39 : decode cX1_walk 39 = .ok (.iload_n 1, 1) := by decide +kernel
theorem dX1_walk_40 : decode cX1_walk 40 = .ok (.dup2, 1) := by decide +kernel
theorem dX1_walk_41 : decode cX1_walk 41 = .ok (.iaload, 1) := by decide +kernel
theorem dX1_walk_42 : decode cX1_walk 42 = .ok (.iload_n 2, 1) := by decide +kernel
theorem dX1_walk_43 : decode cX1_walk 43 = .ok (.iadd, 1) := by decide +kernel
theorem dX1_walk_44 : decode cX1_walk 44 = .ok (.iastore, 1) := by decide +kernel
theorem dX1_walk_45 : decode cX1_walk 45 = .ok (.iload 4, 2) := by decide +kernel
theorem dX1_walk_47 : decode cX1_walk 47 = .ok (.ifCond .le 36, 3) := by decide +kernel
theorem dX1_walk_50 : decode cX1_walk 50 = .ok (.aload_n 0, 1) := by decide +kernel
theorem dX1_walk_51 : decode cX1_walk 51 = .ok (.getfield 39, 3) := by decide +kernel
theorem dX1_walk_54 : decode cX1_walk 54 = .ok (.iload_n 1, 1) := by decide +kernel
theorem dX1_walk_55 : decode cX1_walk 55 = .ok (.iconst 0, 1) := by decide +kernel
theorem dX1_walk_56 : decode cX1_walk 56 = .ok (.aload_n 0, 1) := by decide +kernel
theorem dX1_walk_57 : decode cX1_walk 57 = .ok (.getfield 39, 3) := by decide +kernel
theorem dX1_walk_60 : decode cX1_walk 60 = .ok (.iload_n 1, 1) := by decide +kernel
theorem dX1_walk_61 : decode cX1_walk 61 = .ok (.iaload, 1) := by decide +kernel
theorem dX1_walk_62 : decode cX1_walk 62 = .ok (.iload 4, 2) := by decide +kernel
theorem dX1_walk_64 : decode cX1_walk 64 = .ok (.isub, 1) := by decide +kernel
theorem dX1_walk_65 : decode cX1_walk 65 = .ok (.invokestatic 220, 3) := by decide +kernel
theorem dX1_walk_68 : decode cX1_walk 68 = .ok (.iastore, 1) := by decide +kernel
theorem dX1_walk_69 : decode cX1_walk 69 = .ok (.aload_n 0, 1) := by decide +kernel
theorem dX1_walk_70 : decode cX1_walk 70 = .ok (.getfield 20, 3) := by decide +kernel
theorem dX1_walk_73 : decode cX1_walk 73 = .ok (.iload_n 1, 1) := by decide +kernel
theorem dX1_walk_74 : decode cX1_walk 74 = .ok (.aload_n 0, 1) := by decide +kernel
theorem dX1_walk_75 : decode cX1_walk 75 = .ok (.getfield 39, 3) := by decide +kernel
theorem dX1_walk_78 : decode cX1_walk 78 = .ok (.iload_n 1, 1) := by decide +kernel
theorem dX1_walk_79 : decode cX1_walk 79 = .ok (.iaload, 1) := by decide +kernel
theorem dX1_walk_80 : decode cX1_walk 80 = .ok (.invokevirtual 138, 3) := by decide +kernel
theorem dX1_walk_83 : decode cX1_walk 83 = .ok (.return_, 1) := by decide +kernel
theorem dX5_countNear_0 : decode cX5_countNear 0 = .ok (.iconst 0, 1) := by decide +kernel
theorem dX5_countNear_1 : decode cX5_countNear 1 = .ok (.istore_n 1, 1) := by decide +kernel
theorem dX5_countNear_2 : decode cX5_countNear 2 = .ok (.iload_n 1, 1) := by decide +kernel
theorem dX5_countNear_3 : decode cX5_countNear 3 = .ok (.iconst 1, 1) := by decide +kernel
theorem dX5_countNear_4 : decode cX5_countNear 4 = .ok (.aload_n 0, 1) := by decide +kernel
theorem dX5_countNear_5 : decode cX5_countNear 5 = .ok (.getfield 9, 3) := by decide +kernel
theorem dX5_countNear_8 : decode cX5_countNear 8 = .ok (.getfield 102, 3) := by decide +kernel
theorem dX5_countNear_11 : decode cX5_countNear 11 = .ok (.ishl, 1) := by decide +kernel
theorem dX5_countNear_12 : decode cX5_countNear 12 = .ok (.if_icmp .ge 72, 3) := by decide +kernel
theorem dX5_countNear_15 : decode cX5_countNear 15 = .ok (.lconst 0, 1) := by decide +kernel
theorem dX5_countNear_16 : decode cX5_countNear 16 = .ok (.lstore_n 2, 1) := by decide +kernel
theorem dX5_countNear_17 : decode cX5_countNear 17 = .ok (.iconst 0, 1) := by decide +kernel
theorem dX5_countNear_18 : decode cX5_countNear 18 = .ok (.istore 4, 2) := by decide +kernel
theorem dX5_countNear_20 : decode cX5_countNear 20 = .ok (.iload 4, 2) := by decide +kernel
theorem dX5_countNear_22 : decode cX5_countNear 22 = .ok (.aload_n 0, 1) := by decide +kernel
theorem dX5_countNear_23 : decode cX5_countNear 23 = .ok (.getfield 9, 3) := by decide +kernel
theorem dX5_countNear_26 : decode cX5_countNear 26 = .ok (.getfield 102, 3) := by decide +kernel
theorem dX5_countNear_29 : decode cX5_countNear 29 = .ok (.if_icmp .ge 29, 3) := by decide +kernel
theorem dX5_countNear_32 : decode cX5_countNear 32 = .ok (.iload_n 1, 1) := by decide +kernel
theorem dX5_countNear_33 : decode cX5_countNear 33 = .ok (.iload 4, 2) := by decide +kernel
theorem dX5_countNear_35 : decode cX5_countNear 35 = .ok (.ishr, 1) := by decide +kernel
theorem dX5_countNear_36 : decode cX5_countNear 36 = .ok (.iconst 1, 1) := by decide +kernel
theorem dX5_countNear_37 : decode cX5_countNear 37 = .ok (.iand, 1) := by decide +kernel
theorem dX5_countNear_38 : decode cX5_countNear 38 = .ok (.iconst 1, 1) := by decide +kernel
theorem dX5_countNear_39 : decode cX5_countNear 39 = .ok (.if_icmp .ne 13, 3) := by decide +kernel
theorem dX5_countNear_42 : decode cX5_countNear 42 = .ok (.lload_n 2, 1) := by decide +kernel
theorem dX5_countNear_43 : decode cX5_countNear 43 = .ok (.aload_n 0, 1) := by decide +kernel
theorem dX5_countNear_44 : decode cX5_countNear 44 = .ok (.getfield 17, 3) := by decide +kernel
theorem dX5_countNear_47 : decode cX5_countNear 47 = .ok (.iload 4, 2) := by decide +kernel
theorem dX5_countNear_49 : decode cX5_countNear 49 = .ok (.laload, 1) := by decide +kernel
theorem dX5_countNear_50 : decode cX5_countNear 50 = .ok (.lor, 1) := by decide +kernel
theorem dX5_countNear_51 : decode cX5_countNear 51 = .ok (.lstore_n 2, 1) := by decide +kernel
theorem dX5_countNear_52 : decode cX5_countNear 52 = .ok (.iinc 4 1, 3) := by decide +kernel
theorem dX5_countNear_55 : decode cX5_countNear 55 = .ok (.goto (-35), 3) := by decide +kernel
theorem dX5_countNear_58 : decode cX5_countNear 58 = .ok (.aload_n 0, 1) := by decide +kernel
theorem dX5_countNear_59 : decode cX5_countNear 59 = .ok (.getfield 25, 3) := by decide +kernel
theorem dX5_countNear_62 : decode cX5_countNear 62 = .ok (.iload_n 1, 1) := by decide +kernel
theorem dX5_countNear_63 : decode cX5_countNear 63 = .ok (.lload_n 2, 1) := by decide +kernel
theorem dX5_countNear_64 : decode cX5_countNear 64 = .ok (.invokestatic 136, 3) := by decide +kernel
theorem dX5_countNear_67 : decode cX5_countNear 67 = .ok (.iastore, 1) := by decide +kernel
theorem dX5_countNear_68 : decode cX5_countNear 68 = .ok (.aload_n 0, 1) := by decide +kernel
theorem dX5_countNear_69 : decode cX5_countNear 69 = .ok (.aload_n 0, 1) := by decide +kernel
theorem dX5_countNear_70 : decode cX5_countNear 70 = .ok (.getfield 25, 3) := by decide +kernel
theorem dX5_countNear_73 : decode cX5_countNear 73 = .ok (.iload_n 1, 1) := by decide +kernel
theorem dX5_countNear_74 : decode cX5_countNear 74 = .ok (.iaload, 1) := by decide +kernel
theorem dX5_countNear_75 : decode cX5_countNear 75 = .ok (.putfield 142, 3) := by decide +kernel
theorem dX5_countNear_78 : decode cX5_countNear 78 = .ok (.iinc 1 1, 3) := by decide +kernel
theorem dX5_countNear_81 : decode cX5_countNear 81 = .ok (.goto (-79), 3) := by decide +kernel
theorem dX5_countNear_84 : decode cX5_countNear 84 = .ok (.return_, 1) := by decide +kernel
theorem dX5_firstPlace_0 : decode cX5_firstPlace 0 = .ok (.iload_n 1, 1) := by decide +kernel
theorem dX5_firstPlace_1 : decode cX5_firstPlace 1 = .ok (.iconst 1, 1) := by decide +kernel
theorem dX5_firstPlace_2 : decode cX5_firstPlace 2 = .ok (.isub, 1) := by decide +kernel
theorem dX5_firstPlace_3 : decode cX5_firstPlace 3 = .ok (.istore_n 2, 1) := by decide +kernel
theorem dX5_firstPlace_4 : decode cX5_firstPlace 4 = .ok (.iload_n 2, 1) := by decide +kernel
theorem dX5_firstPlace_5 : decode cX5_firstPlace 5 = .ok (.ifCond .lt 31, 3) := by decide +kernel
theorem dX5_firstPlace_8 : decode cX5_firstPlace 8 = .ok (.aload_n 0, 1) := by decide +kernel
theorem dX5_firstPlace_9 : decode cX5_firstPlace 9 = .ok (.getfield 28, 3) := by decide +kernel
theorem dX5_firstPlace_12 : decode cX5_firstPlace 12 = .ok (.iload_n 2, 1) := by decide +kernel
theorem dX5_firstPlace_13 : decode cX5_firstPlace 13 = .ok (.iaload, 1) := by decide +kernel
theorem dX5_firstPlace_14 : decode cX5_firstPlace 14 = .ok (.aload_n 0, 1) := by decide +kernel
theorem dX5_firstPlace_15 : decode cX5_firstPlace 15 = .ok (.getfield 28, 3) := by decide +kernel
theorem dX5_firstPlace_18 : decode cX5_firstPlace 18 = .ok (.iload_n 1, 1) := by decide +kernel
theorem dX5_firstPlace_19 : decode cX5_firstPlace 19 = .ok (.iaload, 1) := by decide +kernel
theorem dX5_firstPlace_20 : decode cX5_firstPlace 20 = .ok (.if_icmp .ne 10, 3) := by decide +kernel
theorem dX5_firstPlace_23 : decode cX5_firstPlace 23 = .ok (.aload_n 0, 1) := by decide +kernel
theorem dX5_firstPlace_24 : decode cX5_firstPlace 24 = .ok (.getfield 40, 3) := by decide +kernel
theorem dX5_firstPlace_27 : decode cX5_firstPlace 27 = .ok (.iload_n 2, 1) := by decide +kernel
theorem dX5_firstPlace_28 : decode cX5_firstPlace 28 = .ok (.iaload, 1) := by decide +kernel
theorem dX5_firstPlace_29 : decode cX5_firstPlace 29 = .ok (.ireturn, 1) := by decide +kernel
theorem dX5_firstPlace_30 : decode cX5_firstPlace 30 = .ok (.iinc 2 (-1), 3) := by decide +kernel
theorem dX5_firstPlace_33 : decode cX5_firstPlace 33 = .ok (.goto (-29), 3) := by decide +kernel
theorem dX5_firstPlace_36 : decode cX5_firstPlace 36 = .ok (.iconst 0, 1) := by decide +kernel
theorem dX5_firstPlace_37 : decode cX5_firstPlace 37 = .ok (.ireturn, 1) := by decide +kernel
theorem dX5_isCovered_0 : decode cX5_isCovered 0 = .ok (.iconst 0, 1) := by decide +kernel
theorem dX5_isCovered_1 : decode cX5_isCovered 1 = .ok (.istore_n 2, 1) := by decide +kernel
theorem dX5_isCovered_2 : decode cX5_isCovered 2 = .ok (.iload_n 2, 1) := by decide +kernel
theorem dX5_isCovered_3 : decode cX5_isCovered 3 = .ok (.iload_n 1, 1) := by decide +kernel
theorem dX5_isCovered_4 : decode cX5_isCovered 4 = .ok (.if_icmp .ge 33, 3) := by decide +kernel
theorem dX5_isCovered_7 : decode cX5_isCovered 7 = .ok (.aload_n 0, 1) := by decide +kernel
theorem dX5_isCovered_8 : decode cX5_isCovered 8 = .ok (.getfield 17, 3) := by decide +kernel
theorem dX5_isCovered_11 : decode cX5_isCovered 11 = .ok (.iload_n 1, 1) := by decide +kernel
theorem dX5_isCovered_12 : decode cX5_isCovered 12 = .ok (.laload, 1) := by decide +kernel
theorem dX5_isCovered_13 : decode cX5_isCovered 13 = .ok (.aload_n 0, 1) := by decide +kernel
theorem dX5_isCovered_14 : decode cX5_isCovered 14 = .ok (.getfield 17, 3) := by decide +kernel
theorem dX5_isCovered_17 : decode cX5_isCovered 17 = .ok (.iload_n 2, 1) := by decide +kernel
theorem dX5_isCovered_18 : decode cX5_isCovered 18 = .ok (.laload, 1) := by decide +kernel
theorem dX5_isCovered_19 : decode cX5_isCovered 19 = .ok (.ldc2_w 134, 3) := by decide +kernel
theorem dX5_isCovered_22 : decode cX5_isCovered 22 = .ok (.lxor, 1) := by decide +kernel
theorem dX5_isCovered_23 : decode cX5_isCovered 23 = .ok (.land, 1) := by decide +kernel
theorem dX5_isCovered_24 : decode cX5_isCovered 24 = .ok (.lconst 0, 1) := by decide +kernel
theorem dX5_isCovered_25 : decode cX5_isCovered 25 = .ok (.lcmp, 1) := by decide +kernel
theorem dX5_isCovered_26 : decode cX5_isCovered 26 = .ok (.ifCond .ne 5, 3) := by decide +kernel
theorem dX5_isCovered_29 : decode cX5_isCovered 29 = .ok (.iconst 1, 1) := by decide +kernel
theorem dX5_isCovered_30 : decode cX5_isCovered 30 = .ok (.ireturn, 1) := by decide +kernel
theorem dX5_isCovered_31 : decode cX5_isCovered 31 = .ok (.iinc 2 1, 3) := by decide +kernel
theorem dX5_isCovered_34 : decode cX5_isCovered 34 = .ok (.goto (-32), 3) := by decide +kernel
theorem dX5_isCovered_37 : decode cX5_isCovered 37 = .ok (.iconst 0, 1) := by decide +kernel
theorem dX5_isCovered_38 : decode cX5_isCovered 38 = .ok (.ireturn, 1) := by decide +kernel
theorem dX5_mostWith_0 : decode cX5_mostWith 0 = .ok (.iconst 1, 1) := by decide +kernel
theorem dX5_mostWith_1 : decode cX5_mostWith 1 = .ok (.iload_n 1, 1) := by decide +kernel
theorem dX5_mostWith_2 : decode cX5_mostWith 2 = .ok (.ishl, 1) := by decide +kernel
theorem dX5_mostWith_3 : decode cX5_mostWith 3 = .ok (.istore_n 3, 1) := by decide +kernel
theorem dX5_mostWith_4 : decode cX5_mostWith 4 = .ok (.aload_n 0, 1) := by decide +kernel
theorem dX5_mostWith_5 : decode cX5_mostWith 5 = .ok (.getfield 142, 3) := by decide +kernel
theorem dX5_mostWith_8 : decode cX5_mostWith 8 = .ok (.istore 4, 2) := by decide +kernel
theorem dX5_mostWith_10 : decode cX5_mostWith 10 = .ok (.iload_n 3, 1) := by decide +kernel
theorem dX5_mostWith_11 : decode cX5_mostWith 11 = .ok (.istore 5, 2) := by decide +kernel
theorem dX5_mostWith_13 : decode cX5_mostWith 13 = .ok (.iload 5, 2) := by decide +kernel
theorem dX5_mostWith_15 : decode cX5_mostWith 15 = .ok (.iconst 2, 1) := by decide +kernel
theorem dX5_mostWith_16 : decode cX5_mostWith 16 = .ok (.iload_n 3, 1) := by decide +kernel
theorem dX5_mostWith_17 : decode cX5_mostWith 17 = .ok (.imul, 1) := by decide +kernel
theorem dX5_mostWith_18 : decode cX5_mostWith 18 = .ok (.if_icmp .ge 73, 3) := by decide +kernel
theorem dX5_mostWith_21 : decode cX5_mostWith 21 = .ok (.aload_n 0, 1) := by decide +kernel
theorem dX5_mostWith_22 : decode cX5_mostWith 22 = .ok (.getfield 34, 3) := by decide +kernel
theorem dX5_mostWith_25 : decode cX5_mostWith 25 = .ok (.iload 5, 2) := by decide +kernel
theorem dX5_mostWith_27 : decode cX5_mostWith 27 = .ok (.iaload, 1) := by decide +kernel
theorem dX5_mostWith_28 : decode cX5_mostWith 28 = .ok (.iconst 1, 1) := by decide +kernel
theorem dX5_mostWith_29 : decode cX5_mostWith 29 = .ok (.iload_n 2, 1) := by decide +kernel
theorem dX5_mostWith_30 : decode cX5_mostWith 30 = .ok (.ishl, 1) := by decide +kernel
theorem dX5_mostWith_31 : decode cX5_mostWith 31 = .ok (.ior, 1) := by decide +kernel
theorem dX5_mostWith_32 : decode cX5_mostWith 32 = .ok (.istore 6, 2) := by decide +kernel
theorem dX5_mostWith_34 : decode cX5_mostWith 34 = .ok (.aload_n 0, 1) := by decide +kernel
theorem dX5_mostWith_35 : decode cX5_mostWith 35 = .ok (.getfield 34, 3) := by decide +kernel
theorem dX5_mostWith_38 : decode cX5_mostWith 38 = .ok (.iload 5, 2) := by decide +kernel
theorem dX5_mostWith_40 : decode cX5_mostWith 40 = .ok (.iload_n 3, 1) := by decide +kernel
theorem dX5_mostWith_41 : decode cX5_mostWith 41 = .ok (.iadd, 1) := by decide +kernel
theorem dX5_mostWith_42 : decode cX5_mostWith 42 = .ok (.aload_n 0, 1) := by decide +kernel
theorem dX5_mostWith_43 : decode cX5_mostWith 43 = .ok (.getfield 34, 3) := by decide +kernel
theorem dX5_mostWith_46 : decode cX5_mostWith 46 = .ok (.iload 5, 2) := by decide +kernel
theorem dX5_mostWith_48 : decode cX5_mostWith 48 = .ok (.iaload, 1) := by decide +kernel
theorem dX5_mostWith_49 : decode cX5_mostWith 49 = .ok (.iastore, 1) := by decide +kernel
theorem dX5_mostWith_50 : decode cX5_mostWith 50 = .ok (.aload_n 0, 1) := by decide +kernel
theorem dX5_mostWith_51 : decode cX5_mostWith 51 = .ok (.getfield 34, 3) := by decide +kernel
theorem dX5_mostWith_54 : decode cX5_mostWith 54 = .ok (.iload 5, 2) := by decide +kernel
theorem dX5_mostWith_56 : decode cX5_mostWith 56 = .ok (.iconst 2, 1) := by decide +kernel
theorem dX5_mostWith_57 : decode cX5_mostWith 57 = .ok (.iload_n 3, 1) := by decide +kernel
theorem dX5_mostWith_58 : decode cX5_mostWith 58 = .ok (.imul, 1) := by decide +kernel
theorem dX5_mostWith_59 : decode cX5_mostWith 59 = .ok (.iadd, 1) := by decide +kernel
theorem dX5_mostWith_60 : decode cX5_mostWith 60 = .ok (.iload 6, 2) := by decide +kernel
theorem dX5_mostWith_62 : decode cX5_mostWith 62 = .ok (.iastore, 1) := by decide +kernel
theorem dX5_mostWith_63 : decode cX5_mostWith 63 = .ok (.iload 4, 2) := by decide +kernel
theorem dX5_mostWith_65 : decode cX5_mostWith 65 = .ok (.aload_n 0, 1) := by decide +kernel
theorem dX5_mostWith_66 : decode cX5_mostWith 66 = .ok (.getfield 25, 3) := by decide +kernel
theorem dX5_mostWith_69 : decode cX5_mostWith 69 = .ok (.iload 6, 2) := by decide +kernel
theorem dX5_mostWith_71 : decode cX5_mostWith 71 = .ok (.iaload, 1) := by decide +kernel
theorem dX5_mostWith_72 : decode cX5_mostWith 72 = .ok (.aload_n 0, 1) := by decide +kernel
theorem dX5_mostWith_73 : decode cX5_mostWith 73 = .ok (.getfield 37, 3) := by decide +kernel
theorem dX5_mostWith_76 : decode cX5_mostWith 76 = .ok (.iload 5, 2) := by decide +kernel
theorem dX5_mostWith_78 : decode cX5_mostWith 78 = .ok (.iaload, 1) := by decide +kernel
theorem dX5_mostWith_79 : decode cX5_mostWith 79 = .ok (.iadd, 1) := by decide +kernel
theorem dX5_mostWith_80 : decode cX5_mostWith 80 = .ok (.invokestatic 150, 3) := by decide +kernel
theorem dX5_mostWith_83 : decode cX5_mostWith 83 = .ok (.istore 4, 2) := by decide +kernel
theorem dX5_mostWith_85 : decode cX5_mostWith 85 = .ok (.iinc 5 1, 3) := by decide +kernel
theorem dX5_mostWith_88 : decode cX5_mostWith 88 = .ok (.goto (-75), 3) := by decide +kernel
theorem dX5_mostWith_91 : decode cX5_mostWith 91 = .ok (.iload 4, 2) := by decide +kernel
theorem dX5_mostWith_93 : decode cX5_mostWith 93 = .ok (.ireturn, 1) := by decide +kernel
theorem dX9_firstTrip_0 : decode cX9_firstTrip 0 = .ok (.aload_n 0, 1) := by decide +kernel
theorem dX9_firstTrip_1 : decode cX9_firstTrip 1 = .ok (.iload_n 1, 1) := by decide +kernel
theorem dX9_firstTrip_2 : decode cX9_firstTrip 2 = .ok (.invokevirtual 113, 3) := by decide +kernel
theorem dX9_firstTrip_5 : decode cX9_firstTrip 5 = .ok (.ldc 69, 2) := by decide +kernel
theorem dX9_firstTrip_7 : decode cX9_firstTrip 7 = .ok (.iload_n 3, 1) := by decide +kernel
theorem dX9_firstTrip_8 : decode cX9_firstTrip 8 = .ok (.aload_n 0, 1) := by decide +kernel
theorem dX9_firstTrip_9 : decode cX9_firstTrip 9 = .ok (.iload_n 1, 1) := by decide +kernel
theorem dX9_firstTrip_10 : decode cX9_firstTrip 10 = .ok (.iload_n 2, 1) := by decide +kernel
theorem dX9_firstTrip_11 : decode cX9_firstTrip 11 = .ok (.aload_n 0, 1) := by decide +kernel
theorem dX9_firstTrip_12 : decode cX9_firstTrip 12 = .ok (.getfield 9, 3) := by decide +kernel
theorem dX9_firstTrip_15 : decode cX9_firstTrip 15 = .ok (.getfield 91, 3) := by decide +kernel
theorem dX9_firstTrip_18 : decode cX9_firstTrip 18 = .ok (.getfield 116, 3) := by decide +kernel
theorem dX9_firstTrip_21 : decode cX9_firstTrip 21 = .ok (.iload_n 1, 1) := by decide +kernel
theorem dX9_firstTrip_22 : decode cX9_firstTrip 22 = .ok (.iaload, 1) := by decide +kernel
theorem dX9_firstTrip_23 : decode cX9_firstTrip 23 = .ok (.invokevirtual 119, 3) := by decide +kernel
theorem dX9_firstTrip_26 : decode cX9_firstTrip 26 = .ok (.iadd, 1) := by decide +kernel
theorem dX9_firstTrip_27 : decode cX9_firstTrip 27 = .ok (.invokestatic 122, 3) := by decide +kernel
theorem dX9_firstTrip_30 : decode cX9_firstTrip 30 = .ok (.istore 5, 2) := by decide +kernel
theorem dX9_firstTrip_32 : decode cX9_firstTrip 32 = .ok (.iconst (-1), 1) := by decide +kernel
theorem dX9_firstTrip_33 : decode cX9_firstTrip 33 = .ok (.istore 6, 2) := by decide +kernel
theorem dX9_firstTrip_35 : decode cX9_firstTrip 35 = .ok (.iconst 0, 1) := by decide +kernel
theorem dX9_firstTrip_36 : decode cX9_firstTrip 36 = .ok (.istore 7, 2) := by decide +kernel
theorem dX9_firstTrip_38 : decode cX9_firstTrip 38 = .ok (.iload 7, 2) := by decide +kernel
theorem dX9_firstTrip_40 : decode cX9_firstTrip 40 = .ok (.aload_n 0, 1) := by decide +kernel
theorem dX9_firstTrip_41 : decode cX9_firstTrip 41 = .ok (.getfield 51, 3) := by decide +kernel
theorem dX9_firstTrip_44 : decode cX9_firstTrip 44 = .ok (.if_icmp .ge 104, 3) := by decide +kernel
theorem dX9_firstTrip_47 : decode cX9_firstTrip 47 = .ok (.aload_n 0, 1) := by decide +kernel
theorem dX9_firstTrip_48 : decode cX9_firstTrip 48 = .ok (.getfield 17, 3) := by decide +kernel
theorem dX9_firstTrip_51 : decode cX9_firstTrip 51 = .ok (.iload 7, 2) := by decide +kernel
theorem dX9_firstTrip_53 : decode cX9_firstTrip 53 = .ok (.iaload, 1) := by decide +kernel
theorem dX9_firstTrip_54 : decode cX9_firstTrip 54 = .ok (.istore 8, 2) := by decide +kernel
theorem dX9_firstTrip_56 : decode cX9_firstTrip 56 = .ok (.aload_n 0, 1) := by decide +kernel
theorem dX9_firstTrip_57 : decode cX9_firstTrip 57 = .ok (.getfield 30, 3) := by decide +kernel
theorem dX9_firstTrip_60 : decode cX9_firstTrip 60 = .ok (.iload 7, 2) := by decide +kernel
theorem dX9_firstTrip_62 : decode cX9_firstTrip 62 = .ok (.iaload, 1) := by decide +kernel
theorem dX9_firstTrip_63 : decode cX9_firstTrip 63 = .ok (.iload 5, 2) := by decide +kernel
theorem dX9_firstTrip_65 : decode cX9_firstTrip 65 = .ok (.if_icmp .lt 22, 3) := by decide +kernel
theorem dX9_firstTrip_68 : decode cX9_firstTrip 68 = .ok (.aload_n 0, 1) := by decide +kernel
theorem dX9_firstTrip_69 : decode cX9_firstTrip 69 = .ok (.getfield 30, 3) := by decide +kernel
theorem dX9_firstTrip_72 : decode cX9_firstTrip 72 = .ok (.iload 7, 2) := by decide +kernel
theorem dX9_firstTrip_74 : decode cX9_firstTrip 74 = .ok (.iaload, 1) := by decide +kernel
theorem dX9_firstTrip_75 : decode cX9_firstTrip 75 = .ok (.iload 5, 2) := by decide +kernel
theorem dX9_firstTrip_77 : decode cX9_firstTrip 77 = .ok (.if_icmp .ne 14, 3) := by decide +kernel
theorem dX9_firstTrip_80 : decode cX9_firstTrip 80 = .ok (.iload 6, 2) := by decide +kernel
theorem dX9_firstTrip_82 : decode cX9_firstTrip 82 = .ok (.iload 8, 2) := by decide +kernel
theorem dX9_firstTrip_84 : decode cX9_firstTrip 84 = .ok (.if_icmp .le 7, 3) := by decide +kernel
theorem dX9_firstTrip_87 : decode cX9_firstTrip 87 = .ok (.iconst 1, 1) := by decide +kernel
theorem dX9_firstTrip_88 : decode cX9_firstTrip 88 = .ok (.goto 4, 3) := by decide +kernel
theorem dX9_firstTrip_91 : decode cX9_firstTrip 91 = .ok (.iconst 0, 1) := by decide +kernel
theorem dX9_firstTrip_92 : decode cX9_firstTrip 92 = .ok (.istore 9, 2) := by decide +kernel
theorem dX9_firstTrip_94 : decode cX9_firstTrip 94 = .ok (.iload 9, 2) := by decide +kernel
theorem dX9_firstTrip_96 : decode cX9_firstTrip 96 = .ok (.ifCond .eq 46, 3) := by decide +kernel
theorem dX9_firstTrip_99 : decode cX9_firstTrip 99 = .ok (.aload_n 0, 1) := by decide +kernel
theorem dX9_firstTrip_100 : decode cX9_firstTrip 100 = .ok (.iload_n 1, 1) := by decide +kernel
theorem dX9_firstTrip_101 : decode cX9_firstTrip 101 = .ok (.iload_n 2, 1) := by decide +kernel
theorem dX9_firstTrip_102 : decode cX9_firstTrip 102 = .ok (.iload_n 3, 1) := by decide +kernel
theorem dX9_firstTrip_103 : decode cX9_firstTrip 103 = .ok (.iload 8, 2) := by decide +kernel
theorem dX9_firstTrip_105 : decode cX9_firstTrip 105 = .ok (.invokevirtual 127, 3) := by decide +kernel
theorem dX9_firstTrip_108 : decode cX9_firstTrip 108 = .ok (.ifCond .eq 34, 3) := by decide +kernel
theorem dX9_firstTrip_111 : decode cX9_firstTrip 111 = .ok (.aload_n 0, 1) := by decide +kernel
theorem dX9_firstTrip_112 : decode cX9_firstTrip 112 = .ok (.getfield 9, 3) := by decide +kernel
theorem dX9_firstTrip_115 : decode cX9_firstTrip 115 = .ok (.getfield 54, 3) := by decide +kernel
theorem dX9_firstTrip_118 : decode cX9_firstTrip 118 = .ok (.getfield 74, 3) := by decide +kernel
theorem dX9_firstTrip_121 : decode cX9_firstTrip 121 = .ok (.iload 8, 2) := by decide +kernel
theorem dX9_firstTrip_123 : decode cX9_firstTrip 123 = .ok (.iaload, 1) := by decide +kernel
theorem dX9_firstTrip_124 : decode cX9_firstTrip 124 = .ok (.iload 4, 2) := by decide +kernel
theorem dX9_firstTrip_126 : decode cX9_firstTrip 126 = .ok (.if_icmp .lt 16, 3) := by decide +kernel
theorem dX9_firstTrip_129 : decode cX9_firstTrip 129 = .ok (.aload_n 0, 1) := by decide +kernel
theorem dX9_firstTrip_130 : decode cX9_firstTrip 130 = .ok (.getfield 30, 3) := by decide +kernel
theorem dX9_firstTrip_133 : decode cX9_firstTrip 133 = .ok (.iload 7, 2) := by decide +kernel
theorem dX9_firstTrip_135 : decode cX9_firstTrip 135 = .ok (.iaload, 1) := by decide +kernel
theorem dX9_firstTrip_136 : decode cX9_firstTrip 136 = .ok (.istore 5, 2) := by decide +kernel
theorem dX9_firstTrip_138 : decode cX9_firstTrip 138 = .ok (.iload 8, 2) := by decide +kernel
theorem dX9_firstTrip_140 : decode cX9_firstTrip 140 = .ok (.istore 6, 2) := by decide +kernel
theorem dX9_firstTrip_142 : decode cX9_firstTrip 142 = .ok (.iinc 7 1, 3) := by decide +kernel
theorem dX9_firstTrip_145 : decode cX9_firstTrip 145 = .ok (.goto (-107), 3) := by decide +kernel
theorem dX9_firstTrip_148 : decode cX9_firstTrip 148 = .ok (.iload 6, 2) := by decide +kernel
theorem dX9_firstTrip_150 : decode cX9_firstTrip 150 = .ok (.ireturn, 1) := by decide +kernel
theorem dX9_hasHeard_0 : decode cX9_hasHeard 0 = .ok (.aload_n 0, 1) := by decide +kernel
theorem dX9_hasHeard_1 : decode cX9_hasHeard 1 = .ok (.getfield 9, 3) := by decide +kernel
theorem dX9_hasHeard_4 : decode cX9_hasHeard 4 = .ok (.getfield 54, 3) := by decide +kernel
theorem dX9_hasHeard_7 : decode cX9_hasHeard 7 = .ok (.getfield 137, 3) := by decide +kernel
theorem dX9_hasHeard_10 : decode cX9_hasHeard 10 = .ok (.iload_n 2, 1) := by decide +kernel
theorem dX9_hasHeard_11 : decode cX9_hasHeard 11 = .ok (.iaload, 1) := by decide +kernel
theorem dX9_hasHeard_12 : decode cX9_hasHeard 12 = .ok (.aload_n 0, 1) := by decide +kernel
theorem dX9_hasHeard_13 : decode cX9_hasHeard 13 = .ok (.getfield 9, 3) := by decide +kernel
theorem dX9_hasHeard_16 : decode cX9_hasHeard 16 = .ok (.getfield 91, 3) := by decide +kernel
theorem dX9_hasHeard_19 : decode cX9_hasHeard 19 = .ok (.getfield 140, 3) := by decide +kernel
theorem dX9_hasHeard_22 : decode cX9_hasHeard 22 = .ok (.iload_n 1, 1) := by decide +kernel
theorem dX9_hasHeard_23 : decode cX9_hasHeard 23 = .ok (.iaload, 1) := by decide +kernel
theorem dX9_hasHeard_24 : decode cX9_hasHeard 24 = .ok (.iadd, 1) := by decide +kernel
theorem dX9_hasHeard_25 : decode cX9_hasHeard 25 = .ok (.aload_n 0, 1) := by decide +kernel
theorem dX9_hasHeard_26 : decode cX9_hasHeard 26 = .ok (.getfield 9, 3) := by decide +kernel
theorem dX9_hasHeard_29 : decode cX9_hasHeard 29 = .ok (.getfield 41, 3) := by decide +kernel
theorem dX9_hasHeard_32 : decode cX9_hasHeard 32 = .ok (.if_icmp .gt 7, 3) := by decide +kernel
theorem dX9_hasHeard_35 : decode cX9_hasHeard 35 = .ok (.iconst 1, 1) := by decide +kernel
theorem dX9_hasHeard_36 : decode cX9_hasHeard 36 = .ok (.goto 4, 3) := by decide +kernel
theorem dX9_hasHeard_39 : decode cX9_hasHeard 39 = .ok (.iconst 0, 1) := by decide +kernel
theorem dX9_hasHeard_40 : decode cX9_hasHeard 40 = .ok (.ireturn, 1) := by decide +kernel
theorem dX9_lastAhead_0 : decode cX9_lastAhead 0 = .ok (.iload_n 1, 1) := by decide +kernel
theorem dX9_lastAhead_1 : decode cX9_lastAhead 1 = .ok (.iconst 1, 1) := by decide +kernel
theorem dX9_lastAhead_2 : decode cX9_lastAhead 2 = .ok (.isub, 1) := by decide +kernel
theorem dX9_lastAhead_3 : decode cX9_lastAhead 3 = .ok (.istore 4, 2) := by decide +kernel
theorem dX9_lastAhead_5 : decode cX9_lastAhead 5 = .ok (.iload 4, 2) := by decide +kernel
theorem dX9_lastAhead_7 : decode cX9_lastAhead 7 = .ok (.ifCond .lt 56, 3) := by decide +kernel
theorem dX9_lastAhead_10 : decode cX9_lastAhead 10 = .ok (.aload_n 0, 1) := by decide +kernel
theorem dX9_lastAhead_11 : decode cX9_lastAhead 11 = .ok (.getfield 9, 3) := by decide +kernel
theorem dX9_lastAhead_14 : decode cX9_lastAhead 14 = .ok (.getfield 54, 3) := by decide +kernel
theorem dX9_lastAhead_17 : decode cX9_lastAhead 17 = .ok (.getfield 81, 3) := by decide +kernel
theorem dX9_lastAhead_20 : decode cX9_lastAhead 20 = .ok (.aload_n 0, 1) := by decide +kernel
theorem dX9_lastAhead_21 : decode cX9_lastAhead 21 = .ok (.getfield 17, 3) := by decide +kernel
theorem dX9_lastAhead_24 : decode cX9_lastAhead 24 = .ok (.iload 4, 2) := by decide +kernel
theorem dX9_lastAhead_26 : decode cX9_lastAhead 26 = .ok (.iaload, 1) := by decide +kernel
theorem dX9_lastAhead_27 : decode cX9_lastAhead 27 = .ok (.iaload, 1) := by decide +kernel
theorem dX9_lastAhead_28 : decode cX9_lastAhead 28 = .ok (.iload_n 2, 1) := by decide +kernel
theorem dX9_lastAhead_29 : decode cX9_lastAhead 29 = .ok (.if_icmp .ne 28, 3) := by decide +kernel
theorem dX9_lastAhead_32 : decode cX9_lastAhead 32 = .ok (.aload_n 0, 1) := by decide +kernel
theorem dX9_lastAhead_33 : decode cX9_lastAhead 33 = .ok (.getfield 9, 3) := by decide +kernel
theorem dX9_lastAhead_36 : decode cX9_lastAhead 36 = .ok (.getfield 54, 3) := by decide +kernel
theorem dX9_lastAhead_39 : decode cX9_lastAhead 39 = .ok (.getfield 74, 3) := by decide +kernel
theorem dX9_lastAhead_42 : decode cX9_lastAhead 42 = .ok (.aload_n 0, 1) := by decide +kernel
theorem dX9_lastAhead_43 : decode cX9_lastAhead 43 = .ok (.getfield 17, 3) := by decide +kernel
theorem dX9_lastAhead_46 : decode cX9_lastAhead 46 = .ok (.iload 4, 2) := by decide +kernel
theorem dX9_lastAhead_48 : decode cX9_lastAhead 48 = .ok (.iaload, 1) := by decide +kernel
theorem dX9_lastAhead_49 : decode cX9_lastAhead 49 = .ok (.iaload, 1) := by decide +kernel
theorem dX9_lastAhead_50 : decode cX9_lastAhead 50 = .ok (.iload_n 3, 1) := by decide +kernel
theorem dX9_lastAhead_51 : decode cX9_lastAhead 51 = .ok (.if_icmp .lt 6, 3) := by decide +kernel
theorem dX9_lastAhead_54 : decode cX9_lastAhead 54 = .ok (.iload 4, 2) := by decide +kernel
theorem dX9_lastAhead_56 : decode cX9_lastAhead 56 = .ok (.ireturn, 1) := by decide +kernel
theorem dX9_lastAhead_57 : decode cX9_lastAhead 57 = .ok (.iinc 4 (-1), 3) := by decide +kernel
theorem dX9_lastAhead_60 : decode cX9_lastAhead 60 = .ok (.goto (-55), 3) := by decide +kernel
theorem dX9_lastAhead_63 : decode cX9_lastAhead 63 = .ok (.iconst (-1), 1) := by decide +kernel
theorem dX9_lastAhead_64 : decode cX9_lastAhead 64 = .ok (.ireturn, 1) := by decide +kernel
theorem dX9_reaches_0 : decode cX9_reaches 0 = .ok (.aload_n 0, 1) := by decide +kernel
theorem dX9_reaches_1 : decode cX9_reaches 1 = .ok (.iload_n 1, 1) := by decide +kernel
theorem dX9_reaches_2 : decode cX9_reaches 2 = .ok (.iload_n 2, 1) := by decide +kernel
theorem dX9_reaches_3 : decode cX9_reaches 3 = .ok (.aload_n 0, 1) := by decide +kernel
theorem dX9_reaches_4 : decode cX9_reaches 4 = .ok (.getfield 9, 3) := by decide +kernel
theorem dX9_reaches_7 : decode cX9_reaches 7 = .ok (.getfield 131, 3) := by decide +kernel
theorem dX9_reaches_10 : decode cX9_reaches 10 = .ok (.aload_n 0, 1) := by decide +kernel
theorem dX9_reaches_11 : decode cX9_reaches 11 = .ok (.getfield 9, 3) := by decide +kernel
theorem dX9_reaches_14 : decode cX9_reaches 14 = .ok (.getfield 54, 3) := by decide +kernel
theorem dX9_reaches_17 : decode cX9_reaches 17 = .ok (.getfield 81, 3) := by decide +kernel
theorem dX9_reaches_20 : decode cX9_reaches 20 = .ok (.iload 4, 2) := by decide +kernel
theorem dX9_reaches_22 : decode cX9_reaches 22 = .ok (.iaload, 1) := by decide +kernel
theorem dX9_reaches_23 : decode cX9_reaches 23 = .ok (.iaload, 1) := by decide +kernel
theorem dX9_reaches_24 : decode cX9_reaches 24 = .ok (.invokevirtual 119, 3) := by decide +kernel
theorem dX9_reaches_27 : decode cX9_reaches 27 = .ok (.istore 5, 2) := by decide +kernel
theorem dX9_reaches_29 : decode cX9_reaches 29 = .ok (.aload_n 0, 1) := by decide +kernel
theorem dX9_reaches_30 : decode cX9_reaches 30 = .ok (.iload_n 1, 1) := by decide +kernel
theorem dX9_reaches_31 : decode cX9_reaches 31 = .ok (.iload 4, 2) := by decide +kernel
theorem dX9_reaches_33 : decode cX9_reaches 33 = .ok (.invokevirtual 134, 3) := by decide +kernel
theorem dX9_reaches_36 : decode cX9_reaches 36 = .ok (.ifCond .eq 27, 3) := by decide +kernel
theorem dX9_reaches_39 : decode cX9_reaches 39 = .ok (.iload_n 3, 1) := by decide +kernel
theorem dX9_reaches_40 : decode cX9_reaches 40 = .ok (.iload 5, 2) := by decide +kernel
theorem dX9_reaches_42 : decode cX9_reaches 42 = .ok (.iadd, 1) := by decide +kernel
theorem dX9_reaches_43 : decode cX9_reaches 43 = .ok (.aload_n 0, 1) := by decide +kernel
theorem dX9_reaches_44 : decode cX9_reaches 44 = .ok (.getfield 9, 3) := by decide +kernel
theorem dX9_reaches_47 : decode cX9_reaches 47 = .ok (.getfield 54, 3) := by decide +kernel
theorem dX9_reaches_50 : decode cX9_reaches 50 = .ok (.getfield 74, 3) := by decide +kernel
theorem dX9_reaches_53 : decode cX9_reaches 53 = .ok (.iload 4, 2) := by decide +kernel
theorem dX9_reaches_55 : decode cX9_reaches 55 = .ok (.iaload, 1) := by decide +kernel
theorem dX9_reaches_56 : decode cX9_reaches 56 = .ok (.if_icmp .gt 7, 3) := by decide +kernel
theorem dX9_reaches_59 : decode cX9_reaches 59 = .ok (.iconst 1, 1) := by decide +kernel
theorem dX9_reaches_60 : decode cX9_reaches 60 = .ok (.goto 4, 3) := by decide +kernel
theorem dX9_reaches_63 : decode cX9_reaches 63 = .ok (.iconst 0, 1) := by decide +kernel
theorem dX9_reaches_64 : decode cX9_reaches 64 = .ok (.ireturn, 1) := by decide +kernel
theorem dX9_setPace_0 : decode cX9_setPace 0 = .ok (.aload_n 0, 1) := by decide +kernel
theorem dX9_setPace_1 : decode cX9_setPace 1 = .ok (.getfield 38, 3) := by decide +kernel
theorem dX9_setPace_4 : decode cX9_setPace 4 = .ok (.iload_n 1, 1) := by decide +kernel
theorem dX9_setPace_5 : decode cX9_setPace 5 = .ok (.aload_n 0, 1) := by decide +kernel
theorem dX9_setPace_6 : decode cX9_setPace 6 = .ok (.getfield 9, 3) := by decide +kernel
theorem dX9_setPace_9 : decode cX9_setPace 9 = .ok (.getfield 91, 3) := by decide +kernel
theorem dX9_setPace_12 : decode cX9_setPace 12 = .ok (.getfield 95, 3) := by decide +kernel
theorem dX9_setPace_15 : decode cX9_setPace 15 = .ok (.iload_n 1, 1) := by decide +kernel
theorem dX9_setPace_16 : decode cX9_setPace 16 = .ok (.iaload, 1) := by decide +kernel
theorem dX9_setPace_17 : decode cX9_setPace 17 = .ok (.iload_n 2, 1) := by decide +kernel
theorem dX9_setPace_18 : decode cX9_setPace 18 = .ok (.aload_n 0, 1) := by decide +kernel
theorem dX9_setPace_19 : decode cX9_setPace 19 = .ok (.getfield 9, 3) := by decide +kernel
theorem dX9_setPace_22 : decode cX9_setPace 22 = .ok (.aload_n 0, 1) := by decide +kernel
theorem dX9_setPace_23 : decode cX9_setPace 23 = .ok (.getfield 9, 3) := by decide +kernel
theorem dX9_setPace_26 : decode cX9_setPace 26 = .ok (.getfield 41, 3) := by decide +kernel
theorem dX9_setPace_29 : decode cX9_setPace 29 = .ok (.invokevirtual 47, 3) := by decide +kernel
theorem dX9_setPace_32 : decode cX9_setPace 32 = .ok (.invokestatic 98, 3) := by decide +kernel
theorem dX9_setPace_35 : decode cX9_setPace 35 = .ok (.iastore, 1) := by decide +kernel
theorem dX9_setPace_36 : decode cX9_setPace 36 = .ok (.return_, 1) := by decide +kernel
theorem dX9_sortIn_0 : decode cX9_sortIn 0 = .ok (.aload_n 0, 1) := by decide +kernel
theorem dX9_sortIn_1 : decode cX9_sortIn 1 = .ok (.getfield 51, 3) := by decide +kernel
theorem dX9_sortIn_4 : decode cX9_sortIn 4 = .ok (.istore_n 2, 1) := by decide +kernel
theorem dX9_sortIn_5 : decode cX9_sortIn 5 = .ok (.iload_n 2, 1) := by decide +kernel
theorem dX9_sortIn_6 : decode cX9_sortIn 6 = .ok (.ifCond .le 57, 3) := by decide +kernel
theorem dX9_sortIn_9 : decode cX9_sortIn 9 = .ok (.aload_n 0, 1) := by decide +kernel
theorem dX9_sortIn_10 : decode cX9_sortIn 10 = .ok (.getfield 9, 3) := by decide +kernel
theorem dX9_sortIn_13 : decode cX9_sortIn 13 = .ok (.getfield 54, 3) := by decide +kernel
theorem dX9_sortIn_16 : decode cX9_sortIn 16 = .ok (.getfield 74, 3) := by decide +kernel
theorem dX9_sortIn_19 : decode cX9_sortIn 19 = .ok (.aload_n 0, 1) := by decide +kernel
theorem dX9_sortIn_20 : decode cX9_sortIn 20 = .ok (.getfield 17, 3) := by decide +kernel
theorem dX9_sortIn_23 : decode cX9_sortIn 23 = .ok (.iload_n 2, 1) := by decide +kernel
theorem dX9_sortIn_24 : decode cX9_sortIn 24 = .ok (.iconst 1, 1) := by decide +kernel
theorem dX9_sortIn_25 : decode cX9_sortIn 25 = .ok (.isub, 1) := by decide +kernel
theorem dX9_sortIn_26 : decode cX9_sortIn 26 = .ok (.iaload, 1) := by decide +kernel
theorem dX9_sortIn_27 : decode cX9_sortIn 27 = .ok (.iaload, 1) := by decide +kernel
theorem dX9_sortIn_28 : decode cX9_sortIn 28 = .ok (.aload_n 0, 1) := by decide +kernel
theorem dX9_sortIn_29 : decode cX9_sortIn 29 = .ok (.getfield 9, 3) := by decide +kernel
theorem dX9_sortIn_32 : decode cX9_sortIn 32 = .ok (.getfield 54, 3) := by decide +kernel
theorem dX9_sortIn_35 : decode cX9_sortIn 35 = .ok (.getfield 74, 3) := by decide +kernel
theorem dX9_sortIn_38 : decode cX9_sortIn 38 = .ok (.iload_n 1, 1) := by decide +kernel
theorem dX9_sortIn_39 : decode cX9_sortIn 39 = .ok (.iaload, 1) := by decide +kernel
theorem dX9_sortIn_40 : decode cX9_sortIn 40 = .ok (.if_icmp .ge 23, 3) := by decide +kernel
theorem dX9_sortIn_43 : decode cX9_sortIn 43 = .ok (.aload_n 0, 1) := by decide +kernel
theorem dX9_sortIn_44 : decode cX9_sortIn 44 = .ok (.getfield 17, 3) := by decide +kernel
theorem dX9_sortIn_47 : decode cX9_sortIn 47 = .ok (.iload_n 2, 1) := by decide +kernel
theorem dX9_sortIn_48 : decode cX9_sortIn 48 = .ok (.aload_n 0, 1) := by decide +kernel
theorem dX9_sortIn_49 : decode cX9_sortIn 49 = .ok (.getfield 17, 3) := by decide +kernel
theorem dX9_sortIn_52 : decode cX9_sortIn 52 = .ok (.iload_n 2, 1) := by decide +kernel
theorem dX9_sortIn_53 : decode cX9_sortIn 53 = .ok (.iconst 1, 1) := by decide +kernel
theorem dX9_sortIn_54 : decode cX9_sortIn 54 = .ok (.isub, 1) := by decide +kernel
theorem dX9_sortIn_55 : decode cX9_sortIn 55 = .ok (.iaload, 1) := by decide +kernel
theorem dX9_sortIn_56 : decode cX9_sortIn 56 = .ok (.iastore, 1) := by decide +kernel
theorem dX9_sortIn_57 : decode cX9_sortIn 57 = .ok (.iinc 2 (-1), 3) := by decide +kernel
theorem dX9_sortIn_60 : decode cX9_sortIn 60 = .ok (.goto (-55), 3) := by decide +kernel
theorem dX9_sortIn_63 : decode cX9_sortIn 63 = .ok (.aload_n 0, 1) := by decide +kernel
theorem dX9_sortIn_64 : decode cX9_sortIn 64 = .ok (.getfield 17, 3) := by decide +kernel
theorem dX9_sortIn_67 : decode cX9_sortIn 67 = .ok (.iload_n 2, 1) := by decide +kernel
theorem dX9_sortIn_68 : decode cX9_sortIn 68 = .ok (.iload_n 1, 1) := by decide +kernel
theorem dX9_sortIn_69 : decode cX9_sortIn 69 = .ok (.iastore, 1) := by decide +kernel
theorem dX9_sortIn_70 : decode cX9_sortIn 70 = .ok (.aload_n 0, 1) := by decide +kernel
theorem dX9_sortIn_71 : decode cX9_sortIn 71 = .ok (.dup, 1) := by decide +kernel
theorem dX9_sortIn_72 : decode cX9_sortIn 72 = .ok (.getfield 51, 3) := by decide +kernel
theorem dX9_sortIn_75 : decode cX9_sortIn 75 = .ok (.iconst 1, 1) := by decide +kernel
theorem dX9_sortIn_76 : decode cX9_sortIn 76 = .ok (.iadd, 1) := by decide +kernel
theorem dX9_sortIn_77 : decode cX9_sortIn 77 = .ok (.putfield 51, 3) := by decide +kernel
theorem dX9_sortIn_80 : decode cX9_sortIn 80 = .ok (.return_, 1) := by decide +kernel
theorem dX9_walkMinutes_0 : decode cX9_walkMinutes 0 = .ok (.aload_n 0, 1) := by decide +kernel
theorem dX9_walkMinutes_1 : decode cX9_walkMinutes 1 = .ok (.getfield 9, 3) := by decide +kernel
theorem dX9_walkMinutes_4 : decode cX9_walkMinutes 4 = .ok (.getfield 101, 3) := by decide +kernel
theorem dX9_walkMinutes_7 : decode cX9_walkMinutes 7 = .ok (.iload_n 2, 1) := by decide +kernel
theorem dX9_walkMinutes_8 : decode cX9_walkMinutes 8 = .ok (.iload_n 3, 1) := by decide +kernel
theorem dX9_walkMinutes_9 : decode cX9_walkMinutes 9 = .ok (.invokevirtual 105, 3) := by decide +kernel
theorem dX9_walkMinutes_12 : decode cX9_walkMinutes 12 = .ok (.aload_n 0, 1) := by decide +kernel
theorem dX9_walkMinutes_13 : decode cX9_walkMinutes 13 = .ok (.getfield 38, 3) := by decide +kernel
theorem dX9_walkMinutes_16 : decode cX9_walkMinutes 16 = .ok (.iload_n 1, 1) := by decide +kernel
theorem dX9_walkMinutes_17 : decode cX9_walkMinutes 17 = .ok (.iaload, 1) := by decide +kernel
theorem dX9_walkMinutes_18 : decode cX9_walkMinutes 18 = .ok (.invokestatic 110, 3) := by decide +kernel
theorem dX9_walkMinutes_21 : decode cX9_walkMinutes 21 = .ok (.ireturn, 1) := by decide +kernel
theorem dX9_weigh_0 : decode cX9_weigh 0 = .ok (.iconst 0, 1) := by decide +kernel
theorem dX9_weigh_1 : decode cX9_weigh 1 = .ok (.istore_n 2, 1) := by decide +kernel
theorem dX9_weigh_2 : decode cX9_weigh 2 = .ok (.iload_n 2, 1) := by decide +kernel
theorem dX9_weigh_3 : decode cX9_weigh 3 = .ok (.aload_n 0, 1) := by decide +kernel
theorem dX9_weigh_4 : decode cX9_weigh 4 = .ok (.getfield 51, 3) := by decide +kernel
theorem dX9_weigh_7 : decode cX9_weigh 7 = .ok (.if_icmp .ge 170, 3) := by decide +kernel
theorem dX9_weigh_10 : decode cX9_weigh 10 = .ok (.aload_n 0, 1) := by decide +kernel
theorem dX9_weigh_11 : decode cX9_weigh 11 = .ok (.getfield 9, 3) := by decide +kernel
theorem dX9_weigh_14 : decode cX9_weigh 14 = .ok (.getfield 131, 3) := by decide +kernel
theorem dX9_weigh_17 : decode cX9_weigh 17 = .ok (.aload_n 0, 1) := by decide +kernel
theorem dX9_weigh_18 : decode cX9_weigh 18 = .ok (.getfield 9, 3) := by decide +kernel
theorem dX9_weigh_21 : decode cX9_weigh 21 = .ok (.getfield 54, 3) := by decide +kernel
theorem dX9_weigh_24 : decode cX9_weigh 24 = .ok (.getfield 88, 3) := by decide +kernel
theorem dX9_weigh_27 : decode cX9_weigh 27 = .ok (.aload_n 0, 1) := by decide +kernel
theorem dX9_weigh_28 : decode cX9_weigh 28 = .ok (.getfield 17, 3) := by decide +kernel
theorem dX9_weigh_31 : decode cX9_weigh 31 = .ok (.iload_n 2, 1) := by decide +kernel
theorem dX9_weigh_32 : decode cX9_weigh 32 = .ok (.iaload, 1) := by decide +kernel
theorem dX9_weigh_33 : decode cX9_weigh 33 = .ok (.iaload, 1) := by decide +kernel
theorem dX9_weigh_34 : decode cX9_weigh 34 = .ok (.iaload, 1) := by decide +kernel
theorem dX9_weigh_35 : decode cX9_weigh 35 = .ok (.istore_n 3, 1) := by decide +kernel
theorem dX9_weigh_36 : decode cX9_weigh 36 = .ok (.aload_n 0, 1) := by decide +kernel
theorem dX9_weigh_37 : decode cX9_weigh 37 = .ok (.getfield 21, 3) := by decide +kernel
theorem dX9_weigh_40 : decode cX9_weigh 40 = .ok (.iload_n 2, 1) := by decide +kernel
theorem dX9_weigh_41 : decode cX9_weigh 41 = .ok (.iaload, 1) := by decide +kernel
theorem dX9_weigh_42 : decode cX9_weigh 42 = .ok (.aload_n 0, 1) := by decide +kernel
theorem dX9_weigh_43 : decode cX9_weigh 43 = .ok (.iload_n 1, 1) := by decide +kernel
theorem dX9_weigh_44 : decode cX9_weigh 44 = .ok (.iload_n 3, 1) := by decide +kernel
theorem dX9_weigh_45 : decode cX9_weigh 45 = .ok (.aload_n 0, 1) := by decide +kernel
theorem dX9_weigh_46 : decode cX9_weigh 46 = .ok (.getfield 9, 3) := by decide +kernel
theorem dX9_weigh_49 : decode cX9_weigh 49 = .ok (.getfield 91, 3) := by decide +kernel
theorem dX9_weigh_52 : decode cX9_weigh 52 = .ok (.getfield 116, 3) := by decide +kernel
theorem dX9_weigh_55 : decode cX9_weigh 55 = .ok (.iload_n 1, 1) := by decide +kernel
theorem dX9_weigh_56 : decode cX9_weigh 56 = .ok (.iaload, 1) := by decide +kernel
theorem dX9_weigh_57 : decode cX9_weigh 57 = .ok (.invokevirtual 119, 3) := by decide +kernel
theorem dX9_weigh_60 : decode cX9_weigh 60 = .ok (.iadd, 1) := by decide +kernel
theorem dX9_weigh_61 : decode cX9_weigh 61 = .ok (.istore 4, 2) := by decide +kernel
theorem dX9_weigh_63 : decode cX9_weigh 63 = .ok (.aload_n 0, 1) := by decide +kernel
theorem dX9_weigh_64 : decode cX9_weigh 64 = .ok (.getfield 27, 3) := by decide +kernel
theorem dX9_weigh_67 : decode cX9_weigh 67 = .ok (.iload_n 2, 1) := by decide +kernel
theorem dX9_weigh_68 : decode cX9_weigh 68 = .ok (.iaload, 1) := by decide +kernel
theorem dX9_weigh_69 : decode cX9_weigh 69 = .ok (.iconst (-1), 1) := by decide +kernel
theorem dX9_weigh_70 : decode cX9_weigh 70 = .ok (.if_icmp .ne 8, 3) := by decide +kernel
theorem dX9_weigh_73 : decode cX9_weigh 73 = .ok (.ldc 69, 2) := by decide +kernel
theorem dX9_weigh_75 : decode cX9_weigh 75 = .ok (.goto 14, 3) := by decide +kernel
theorem dX9_weigh_78 : decode cX9_weigh 78 = .ok (.aload_n 0, 1) := by decide +kernel
theorem dX9_weigh_79 : decode cX9_weigh 79 = .ok (.getfield 33, 3) := by decide +kernel
theorem dX9_weigh_82 : decode cX9_weigh 82 = .ok (.aload_n 0, 1) := by decide +kernel
theorem dX9_weigh_83 : decode cX9_weigh 83 = .ok (.getfield 27, 3) := by decide +kernel
theorem dX9_weigh_86 : decode cX9_weigh 86 = .ok (.iload_n 2, 1) := by decide +kernel
theorem dX9_weigh_87 : decode cX9_weigh 87 = .ok (.iaload, 1) := by decide +kernel
theorem dX9_weigh_88 : decode cX9_weigh 88 = .ok (.iaload, 1) := by decide +kernel
theorem dX9_weigh_89 : decode cX9_weigh 89 = .ok (.istore 5, 2) := by decide +kernel
theorem dX9_weigh_91 : decode cX9_weigh 91 = .ok (.aload_n 0, 1) := by decide +kernel
theorem dX9_weigh_92 : decode cX9_weigh 92 = .ok (.getfield 30, 3) := by decide +kernel
theorem dX9_weigh_95 : decode cX9_weigh 95 = .ok (.iload_n 2, 1) := by decide +kernel
theorem dX9_weigh_96 : decode cX9_weigh 96 = .ok (.iload 4, 2) := by decide +kernel
theorem dX9_weigh_98 : decode cX9_weigh 98 = .ok (.iload 5, 2) := by decide +kernel
theorem dX9_weigh_100 : decode cX9_weigh 100 = .ok (.invokestatic 122, 3) := by decide +kernel
theorem dX9_weigh_103 : decode cX9_weigh 103 = .ok (.iastore, 1) := by decide +kernel
theorem dX9_weigh_104 : decode cX9_weigh 104 = .ok (.aload_n 0, 1) := by decide +kernel
theorem dX9_weigh_105 : decode cX9_weigh 105 = .ok (.getfield 33, 3) := by decide +kernel
theorem dX9_weigh_108 : decode cX9_weigh 108 = .ok (.iload_n 2, 1) := by decide +kernel
theorem dX9_weigh_109 : decode cX9_weigh 109 = .ok (.aload_n 0, 1) := by decide +kernel
theorem dX9_weigh_110 : decode cX9_weigh 110 = .ok (.getfield 24, 3) := by decide +kernel
theorem dX9_weigh_113 : decode cX9_weigh 113 = .ok (.iload_n 2, 1) := by decide +kernel
theorem dX9_weigh_114 : decode cX9_weigh 114 = .ok (.iaload, 1) := by decide +kernel
theorem dX9_weigh_115 : decode cX9_weigh 115 = .ok (.iconst (-1), 1) := by decide +kernel
theorem dX9_weigh_116 : decode cX9_weigh 116 = .ok (.if_icmp .ne 8, 3) := by decide +kernel
theorem dX9_weigh_119 : decode cX9_weigh 119 = .ok (.ldc 69, 2) := by decide +kernel
theorem dX9_weigh_121 : decode cX9_weigh 121 = .ok (.goto 14, 3) := by decide +kernel
theorem dX9_weigh_124 : decode cX9_weigh 124 = .ok (.aload_n 0, 1) := by decide +kernel
theorem dX9_weigh_125 : decode cX9_weigh 125 = .ok (.getfield 33, 3) := by decide +kernel
theorem dX9_weigh_128 : decode cX9_weigh 128 = .ok (.aload_n 0, 1) := by decide +kernel
theorem dX9_weigh_129 : decode cX9_weigh 129 = .ok (.getfield 24, 3) := by decide +kernel
theorem dX9_weigh_132 : decode cX9_weigh 132 = .ok (.iload_n 2, 1) := by decide +kernel
theorem dX9_weigh_133 : decode cX9_weigh 133 = .ok (.iaload, 1) := by decide +kernel
theorem dX9_weigh_134 : decode cX9_weigh 134 = .ok (.iaload, 1) := by decide +kernel
theorem dX9_weigh_135 : decode cX9_weigh 135 = .ok (.iastore, 1) := by decide +kernel
theorem dX9_weigh_136 : decode cX9_weigh 136 = .ok (.aload_n 0, 1) := by decide +kernel
theorem dX9_weigh_137 : decode cX9_weigh 137 = .ok (.iload_n 1, 1) := by decide +kernel
theorem dX9_weigh_138 : decode cX9_weigh 138 = .ok (.aload_n 0, 1) := by decide +kernel
theorem dX9_weigh_139 : decode cX9_weigh 139 = .ok (.getfield 17, 3) := by decide +kernel
theorem dX9_weigh_142 : decode cX9_weigh 142 = .ok (.iload_n 2, 1) := by decide +kernel
theorem dX9_weigh_143 : decode cX9_weigh 143 = .ok (.iaload, 1) := by decide +kernel
theorem dX9_weigh_144 : decode cX9_weigh 144 = .ok (.invokevirtual 134, 3) := by decide +kernel
theorem dX9_weigh_147 : decode cX9_weigh 147 = .ok (.ifCond .eq 24, 3) := by decide +kernel
theorem dX9_weigh_150 : decode cX9_weigh 150 = .ok (.aload_n 0, 1) := by decide +kernel
theorem dX9_weigh_151 : decode cX9_weigh 151 = .ok (.getfield 33, 3) := by decide +kernel
theorem dX9_weigh_154 : decode cX9_weigh 154 = .ok (.iload_n 2, 1) := by decide +kernel
theorem dX9_weigh_155 : decode cX9_weigh 155 = .ok (.aload_n 0, 1) := by decide +kernel
theorem dX9_weigh_156 : decode cX9_weigh 156 = .ok (.getfield 33, 3) := by decide +kernel
theorem dX9_weigh_159 : decode cX9_weigh 159 = .ok (.iload_n 2, 1) := by decide +kernel
theorem dX9_weigh_160 : decode cX9_weigh 160 = .ok (.iaload, 1) := by decide +kernel
theorem dX9_weigh_161 : decode cX9_weigh 161 = .ok (.aload_n 0, 1) := by decide +kernel
theorem dX9_weigh_162 : decode cX9_weigh 162 = .ok (.getfield 30, 3) := by decide +kernel
theorem dX9_weigh_165 : decode cX9_weigh 165 = .ok (.iload_n 2, 1) := by decide +kernel
theorem dX9_weigh_166 : decode cX9_weigh 166 = .ok (.iaload, 1) := by decide +kernel
theorem dX9_weigh_167 : decode cX9_weigh 167 = .ok (.invokestatic 122, 3) := by decide +kernel
theorem dX9_weigh_170 : decode cX9_weigh 170 = .ok (.iastore, 1) := by decide +kernel
theorem dX9_weigh_171 : decode cX9_weigh 171 = .ok (.iinc 2 1, 3) := by decide +kernel
theorem dX9_weigh_174 : decode cX9_weigh 174 = .ok (.goto (-172), 3) := by decide +kernel
theorem dX9_weigh_177 : decode cX9_weigh 177 = .ok (.return_, 1) := by decide +kernel
set_option maxHeartbeats 4000000 in
set_option maxRecDepth 100000 in
theorem x_far (l : Launch) (dC : Nat → ClassId) (dI : Nat → Nat → Nat) (sz : Nat) (ob ad : Nat → Nat) (cA : Nat → ClassId) (hd : dX ob ad) (fv : Nat → Int32) (wd : xT) (ar : Nat → Nat → Int32) (hF_fv : rX fv) (hA_ar : rB ar) (a : Int32) (b : Int32) : Met l yX11_far (.code yX11_far cX11_far 4 (some .int) :: lw_good) ({ frames := 3, cells := 0, slots := 0, locals := 62 }) (va_Pc [.ref (ob 0), .int a, .int b] (prX dC dI ob ad cA fv wd ar sz)) (va_Qi (fun (r : Int32) (u : xS) => rX u.1 ∧ rB u.2.2 ∧ fM [] fv u.1 ∧ fA [] ar u.2.2 ∧ u.2.1.2 = wd.2 ∧ True) (enX dC dI ob ad cA) (aX ob ad sz)) 0 0 (aX ob ad sz) := by
  refine Met.ofW (cc := cX11_far) (maxL := 4) (ret := (some .int)) (by decide) rfl ?_
  intro p e s m args below meth c s₁ B hml hv
  obtain ⟨rfl, hsz, hP, hK⟩ := hv
  have hx := B.exec
  have hb := B.bytes
  have hr := B.returns
  have hts := atoms_spec (ws := (.code yX11_far cX11_far 4 (some .int) :: lw_good)) B.pre
  have htg : ∀ w ∈ lw_good, w.before _ s = true := fun w hw => hts w (List.mem_cons_of_mem _ hw)
  have hown : s.vm.findClass RX11 = some m.cls := findClass_of_methodNamed B.named
  have hlocks := B.notSynchronized
  subst hsz
  have hS : va_S (aX ob ad s.heap.size) s.heap s.heap [] := va_S.rf
  have hl := lv_entry ([.ref (ob 0), .int a, .int b]) (n := 4) (Nat.le_of_ble_eq_true rfl)
  rw [lg_entry_eq]
  generalize (lg_sl ([.ref (ob 0), .int a, .int b]) ++ List.replicate (4 - (lg_sl ([.ref (ob 0), .int a, .int b])).length) Slot.unset).toArray = ls at hl ⊢
  have hl : lv_has ls 4 [(0, .ref (ob 0)), (1, .int a), (2, .int b)] := hl
  refine lv_iload_n hx hb dX11_far_0 rfl (lv_at hl 1 rfl) ?_
  refine va_calli (va_runS (As := [.int a]) (rest := []) ⟨hx, hb, hml, hown, hts⟩ (x_isCorner l s.heap.size a) (va_cwS 1 hts (gS kw_3_157 kw_3_144 kw_1_3 kw_3_145) rfl rfl rfl (by decide +kernel) ⟨Nat.le_of_ble_eq_true rfl, Nat.le_of_ble_eq_true rfl⟩) ⟨fun a U g mk q => ⟨q.1, q.2⟩, fun U hU hW => ⟨rfl, congrArg Array.size hU⟩⟩ rfl rfl hl.1 rfl (lv_room (Nat.le_of_ble_eq_true rfl)) dX11_far_1 ⟨Nat.le_of_ble_eq_true rfl, Nat.le_of_ble_eq_true rfl⟩) hS (fun q _ h9 => nX_up hS q h9) (nX_up hS) (fun r_1 u t H1 locs ht _ hw hB _ hk1 hS => ?_)
  obtain ⟨p_2, p_3, -⟩ := hw
  have hP := my_keepM hP hk1
  generalize H1 = H at hP hS ⊢
  rcases p_3 with ⟨rfl, p_3⟩ | ⟨rfl, p_3⟩
  · skip
    refine lv_if_eq (tgt := 14) hx hb dX11_far_4 (by decide) (fun c_4 => ?_) (fun c_4 => ?_)
    · skip
      refine lv_iconst (v := (-1)) hx hb dX11_far_14 (by decide) ?_
      exact W.iret (v := (-1)) hx hb hr (fun t ht hW => ⟨⟨(-1), (fv, wd, ar), rfl, ⟨hF_fv, hA_ar, (fM_rf [] _), (fA_rf [] _), rfl, trivial⟩, ⟨by rw [ht]; exact hP, va_K.moved hW.alike hK⟩⟩, hS.F ht⟩) hS.2.2 dX11_far_15
    · skip
      exact absurd c_4 (by decide)
  · skip
    have i_5 : 0 ≤ a.toInt ∧ a.toInt ≤ 2147483647 := ⟨p_3.1, (iv_any a).2⟩
    have i_6 : 0 ≤ a.toInt ∧ a.toInt ≤ 11 := ⟨i_5.1, p_3.2⟩
    refine lv_if_eq (tgt := 14) hx hb dX11_far_4 (by decide) (fun c_7 => ?_) (fun c_7 => ?_)
    · skip
      exact absurd c_7 (by decide)
    · skip
      refine lv_iload_n hx hb dX11_far_7 rfl (lv_at hl 2 rfl) ?_
      refine va_calli (va_runS (As := [.int b]) (rest := []) ⟨hx, hb, hml, hown, hts⟩ (x_isCorner l H.size b) (va_cwS 1 hts (gS kw_3_157 kw_3_144 kw_1_3 kw_3_145) rfl rfl rfl (by decide +kernel) ⟨Nat.le_of_ble_eq_true rfl, Nat.le_of_ble_eq_true rfl⟩) ⟨fun a U g mk q => ⟨q.1, q.2⟩, fun U hU hW => ⟨rfl, congrArg Array.size hU⟩⟩ rfl rfl hl.1 rfl (lv_room (Nat.le_of_ble_eq_true rfl)) dX11_far_8 ⟨Nat.le_of_ble_eq_true rfl, Nat.le_of_ble_eq_true rfl⟩) hS (fun q _ h9 => nX_up hS q h9) (nX_up hS) (fun r_8 u t H1 locs ht _ hw hB _ hk1 hS => ?_)
      obtain ⟨p_9, p_10, -⟩ := hw
      have hP := my_keepM hP hk1
      generalize H1 = H at hP hS ⊢
      rcases p_10 with ⟨rfl, p_10⟩ | ⟨rfl, p_10⟩
      · skip
        refine lv_if_ne (tgt := 16) hx hb dX11_far_11 (by decide) (fun c_11 => ?_) (fun c_11 => ?_)
        · skip
          exact absurd c_11 (by decide)
        · skip
          refine lv_iconst (v := (-1)) hx hb dX11_far_14 (by decide) ?_
          exact W.iret (v := (-1)) hx hb hr (fun t ht hW => ⟨⟨(-1), (fv, wd, ar), rfl, ⟨hF_fv, hA_ar, (fM_rf [] _), (fA_rf [] _), rfl, trivial⟩, ⟨by rw [ht]; exact hP, va_K.moved hW.alike hK⟩⟩, hS.F ht⟩) hS.2.2 dX11_far_15
      · skip
        have i_12 : 0 ≤ b.toInt ∧ b.toInt ≤ 2147483647 := ⟨p_10.1, (iv_any b).2⟩
        have i_13 : 0 ≤ b.toInt ∧ b.toInt ≤ 11 := ⟨i_12.1, p_10.2⟩
        refine lv_if_ne (tgt := 16) hx hb dX11_far_11 (by decide) (fun c_14 => ?_) (fun c_14 => ?_)
        · skip
          refine lv_aload_n hx hb dX11_far_16 rfl (lv_at hl 0 rfl) ?_
          refine gX_X11_16 hx hb htg hown hK hP dX11_far_17 ?_
          refine gX_X11_60 hx hb htg hown hK hP dX11_far_20 ?_
          refine lv_iload_n hx hb dX11_far_23 rfl (lv_at hl 1 rfl) ?_
          refine lv_iload_n hx hb dX11_far_24 rfl (lv_at hl 2 rfl) ?_
          refine va_calli (va_runV (As := [.int a, .int b]) (rest := []) ⟨hx, hb, hml, hown, hts⟩ (x_between l dC dI H.size ob ad cA hd fv wd ar hF_fv hA_ar a b) (cwV 2 hts (gV kw_3_158 kw_3_147 kw_3_148 kw_1_3 kw_3_149) rfl rfl rfl (by decide +kernel) ⟨Nat.le_of_ble_eq_true rfl, Nat.le_of_ble_eq_true rfl⟩) ⟨fun a U g mk q => ⟨q.1, q.2.1, q.2.2.1, va_K.moved (u := U) (U := U.calling g mk a) (Vm.Alike.refl U.vm) q.2.2.2⟩, va_recv hK hP (ci := 5) (q0 := 2) rfl rfl, fun U hU hW => ⟨rfl, by rw [hU], by rw [hU]; exact hP, va_K.moved hW.alike hK⟩⟩ rfl rfl hl.1 rfl (lv_room (Nat.le_of_ble_eq_true rfl)) dX11_far_25 ⟨Nat.le_of_ble_eq_true rfl, Nat.le_of_ble_eq_true rfl⟩) hS (fun q _ h9 => aX_up hS q h9) (aX_up hS) (fun r_15 u t H1 locs ht _ hw hB _ hk1 hS => ?_)
          obtain ⟨fv_16, wd_17, ar_18⟩ := u
          obtain ⟨hF_fv_16, hA_ar_18, fr_19, fa_20, wf_21, -⟩ := hw
          have wf_21 : wd_17.2 = wd.2 := wf_21
          have hP : va_P (dC, dI) vwCl (wsX ob ad cA fv_16 wd_17 ar_18) H1 := by have h9 := hB.1; rw [ht] at h9; exact h9
          have fr_19 : fM [] fv fv_16 := fr_19
          have fa_20 : fA [] ar ar_18 := fa_20
          generalize H1 = H at hP hS ⊢
          refine lv_istore_n (lv' := [(3, .int r_15), (0, .ref (ob 0)), (1, .int a), (2, .int b)]) hx hb dX11_far_28 rfl hl (by decide) rfl (fun ls hl => ?_)
          refine lv_iload_n hx hb dX11_far_29 rfl (lv_at hl 0 rfl) ?_
          refine lv_ldc hx hb hown (htg (.constant RX11 78 10000000) kw_3_159) dX11_far_30 ?_
          refine lv_icmp_lt (tgt := 40) hx hb dX11_far_32 (by decide) (fun c_22 => ?_) (fun c_22 => ?_)
          · skip
            have i_23 : (-2147483648) ≤ r_15.toInt ∧ r_15.toInt ≤ 9999999 := iv_lt1 (iv_any r_15) (⟨by decide, by decide⟩ : (10000000 : Int) ≤ (10000000 : Int32).toInt ∧ (10000000 : Int32).toInt ≤ 10000000) c_22
            refine lv_iload_n hx hb dX11_far_40 rfl (lv_at hl 0 rfl) ?_
            exact W.iret (v := r_15) hx hb hr (fun t ht hW => ⟨⟨r_15, (fv_16, wd_17, ar_18), rfl, ⟨hF_fv_16, hA_ar_18, (fM_call (fM_rf [] _) fr_19 (by decide)), (fA_call (fA_rf [] _) fa_20 (by decide)), wf_21, trivial⟩, ⟨by rw [ht]; exact hP, va_K.moved hW.alike hK⟩⟩, hS.F ht⟩) hS.2.2 dX11_far_41
          · skip
            have i_24 : 10000000 ≤ r_15.toInt ∧ r_15.toInt ≤ 2147483647 := iv_le2 (⟨by decide, by decide⟩ : (10000000 : Int) ≤ (10000000 : Int32).toInt ∧ (10000000 : Int32).toInt ≤ 10000000) (iv_any r_15) (Int32.not_lt.mp c_22)
            refine lv_bipush (v := (-2)) hx hb dX11_far_35 (by decide) ?_
            refine lv_goto (tgt := 41) hx hb dX11_far_37 (by decide) ?_
            exact W.iret (v := (-2)) hx hb hr (fun t ht hW => ⟨⟨(-2), (fv_16, wd_17, ar_18), rfl, ⟨hF_fv_16, hA_ar_18, (fM_call (fM_rf [] _) fr_19 (by decide)), (fA_call (fA_rf [] _) fa_20 (by decide)), wf_21, trivial⟩, ⟨by rw [ht]; exact hP, va_K.moved hW.alike hK⟩⟩, hS.F ht⟩) hS.2.2 dX11_far_41
        · skip
          exact absurd c_14 (by decide)
set_option maxHeartbeats 4000000 in
set_option maxRecDepth 100000 in
theorem x_tapeIsRain (l : Launch) (dC : Nat → ClassId) (dI : Nat → Nat → Nat) (sz : Nat) (ob ad : Nat → Nat) (cA : Nat → ClassId) (hd : dX ob ad) (fv : Nat → Int32) (wd : xT) (ar : Nat → Nat → Int32) (hF_fv : rX fv) (hA_ar : rB ar) : Met l yX11_tapeIsRain (.code yX11_tapeIsRain cX11_tapeIsRain 2 (some .boolean) :: lw_good) ({ frames := 2, cells := 0, slots := 0, locals := 40 }) (va_Pc [.ref (ob 0)] (prX dC dI ob ad cA fv wd ar sz)) (va_Qi (fun (r : Int32) (u : xS) => rX u.1 ∧ rB u.2.2 ∧ fM [] fv u.1 ∧ fA [] ar u.2.2 ∧ u.2.1.2 = wd.2 ∧ (0 ≤ r.toInt ∧ r.toInt ≤ 1) ∧ ((r = 0 ∧ True) ∨ (r = 1 ∧ ((fv 0).toInt ≤ 200))) ∧ True) (enX dC dI ob ad cA) (aX ob ad sz)) 0 0 (aX ob ad sz) := by
  refine Met.ofW (cc := cX11_tapeIsRain) (maxL := 2) (ret := (some .boolean)) (by decide) rfl ?_
  intro p e s m args below meth c s₁ B hml hv
  obtain ⟨rfl, hsz, hP, hK⟩ := hv
  have hx := B.exec
  have hb := B.bytes
  have hr := B.returns
  have hts := atoms_spec (ws := (.code yX11_tapeIsRain cX11_tapeIsRain 2 (some .boolean) :: lw_good)) B.pre
  have htg : ∀ w ∈ lw_good, w.before _ s = true := fun w hw => hts w (List.mem_cons_of_mem _ hw)
  have hown : s.vm.findClass RX11 = some m.cls := findClass_of_methodNamed B.named
  have hlocks := B.notSynchronized
  subst hsz
  have hS : va_S (aX ob ad s.heap.size) s.heap s.heap [] := va_S.rf
  have hl := lv_entry ([.ref (ob 0)]) (n := 2) (Nat.le_of_ble_eq_true rfl)
  rw [lg_entry_eq]
  generalize (lg_sl ([.ref (ob 0)]) ++ List.replicate (2 - (lg_sl ([.ref (ob 0)])).length) Slot.unset).toArray = ls at hl ⊢
  have hl : lv_has ls 2 [(0, .ref (ob 0))] := hl
  refine lv_aload_n hx hb dX11_tapeIsRain_0 rfl (lv_at hl 0 rfl) ?_
  refine gX_X11_50 hx hb htg hown hK hP dX11_tapeIsRain_1 ?_
  have i_1 : 0 ≤ (fv 0).toInt ∧ (fv 0).toInt ≤ 340 := hF_fv 0
  refine lv_iconst (v := 1) hx hb dX11_tapeIsRain_4 (by decide) ?_
  refine lv_icmp_lt (tgt := 18) hx hb dX11_tapeIsRain_5 (by decide) (fun c_2 => ?_) (fun c_2 => ?_)
  · skip
    have i_3 : 0 ≤ (fv 0).toInt ∧ (fv 0).toInt ≤ 0 := iv_lt1 i_1 (⟨by decide, by decide⟩ : (1 : Int) ≤ (1 : Int32).toInt ∧ (1 : Int32).toInt ≤ 1) c_2
    refine lv_iconst (v := 0) hx hb dX11_tapeIsRain_18 (by decide) ?_
    exact W.zret (v := 0) hx hb hr (by decide) (fun t ht hW => ⟨⟨0, (fv, wd, ar), rfl, ⟨hF_fv, hA_ar, (fM_rf [] _), (fA_rf [] _), rfl, (iv_w (⟨by decide, by decide⟩ : (0 : Int) ≤ (0 : Int32).toInt ∧ (0 : Int32).toInt ≤ 0) (by decide) (by decide)), (Or.inl ⟨rfl, trivial⟩), trivial⟩, ⟨by rw [ht]; exact hP, va_K.moved hW.alike hK⟩⟩, hS.F ht⟩) hS.2.2 dX11_tapeIsRain_19
  · skip
    have i_4 : 1 ≤ (fv 0).toInt ∧ (fv 0).toInt ≤ 340 := iv_le2 (⟨by decide, by decide⟩ : (1 : Int) ≤ (1 : Int32).toInt ∧ (1 : Int32).toInt ≤ 1) i_1 (Int32.not_lt.mp c_2)
    refine lv_aload_n hx hb dX11_tapeIsRain_8 rfl (lv_at hl 0 rfl) ?_
    refine gX_X11_50 hx hb htg hown hK hP dX11_tapeIsRain_9 ?_
    refine lv_sipush (v := 200) hx hb dX11_tapeIsRain_12 (by decide) ?_
    refine lv_icmp_le (tgt := 20) hx hb dX11_tapeIsRain_15 (by decide) (fun c_5 => ?_) (fun c_5 => ?_)
    · skip
      have i_6 : 1 ≤ (fv 0).toInt ∧ (fv 0).toInt ≤ 200 := iv_le1 i_4 (⟨by decide, by decide⟩ : (200 : Int) ≤ (200 : Int32).toInt ∧ (200 : Int32).toInt ≤ 200) c_5
      refine lv_iconst (v := 0) hx hb dX11_tapeIsRain_20 (by decide) ?_
      refine lv_istore_n (lv' := [(1, .int 0), (0, .ref (ob 0))]) hx hb dX11_tapeIsRain_21 rfl hl (by decide) rfl (fun ls hl => ?_)
      refine my_cut (P := fun R9 a9 Q9 => ∀ (n_8 : Nat) (x_7 : Int32) (H : Heap) (locs : List Loc) (ls : Array Slot), 200 - x_7.toInt < (n_8 : Int) → (0 ≤ x_7.toInt ∧ x_7.toInt ≤ 200) → va_P (dC, dI) vwCl (wsX ob ad cA fv wd ar) H → va_S (aX ob ad s.heap.size) s.heap H locs → lv_has ls 2 [(0, .ref (ob 0)), (1, .int x_7)] → W p l e R9 s m a9 below meth c H locs 0 0 Q9 (F0 m 22 ls [])) ?_ (fun hj_10 => ?_)
      · intro n_8
        induction n_8 with
        | zero => intro x_7 H locs ls fu_9 i_x_7; exfalso; omega
        | succ n_8 ih_8 =>
          intro x_7 H locs ls fu_9 i_x_7 hP hS hl
          refine lv_iload_n hx hb dX11_tapeIsRain_22 rfl (lv_at hl 1 rfl) ?_
          refine lv_aload_n hx hb dX11_tapeIsRain_23 rfl (lv_at hl 0 rfl) ?_
          refine gX_X11_50 hx hb htg hown hK hP dX11_tapeIsRain_24 ?_
          refine lv_icmp_ge (tgt := 61) hx hb dX11_tapeIsRain_27 (by decide) (fun c_11 => ?_) (fun c_11 => ?_)
          · skip
            have i_12 : 1 ≤ x_7.toInt ∧ x_7.toInt ≤ 200 := iv_le2 i_6 i_x_7 c_11
            refine lv_iconst (v := 1) hx hb dX11_tapeIsRain_61 (by decide) ?_
            exact W.zret (v := 1) hx hb hr (by decide) (fun t ht hW => ⟨⟨1, (fv, wd, ar), rfl, ⟨hF_fv, hA_ar, (fM_rf [] _), (fA_rf [] _), rfl, (iv_w (⟨by decide, by decide⟩ : (1 : Int) ≤ (1 : Int32).toInt ∧ (1 : Int32).toInt ≤ 1) (by decide) (by decide)), (Or.inr (⟨rfl, by omega⟩)), trivial⟩, ⟨by rw [ht]; exact hP, va_K.moved hW.alike hK⟩⟩, hS.F ht⟩) hS.2.2 dX11_tapeIsRain_62
          · skip
            have i_13 : 0 ≤ x_7.toInt ∧ x_7.toInt ≤ 199 := iv_lt1 i_x_7 i_6 (Int32.not_le.mp c_11)
            refine lv_aload_n hx hb dX11_tapeIsRain_30 rfl (lv_at hl 0 rfl) ?_
            refine gX_X11_9 hx hb htg hown hK hP dX11_tapeIsRain_31 ?_
            refine lv_iload_n hx hb dX11_tapeIsRain_34 rfl (lv_at hl 1 rfl) ?_
            refine lX_1 hx hb hK hP (iv_in i_13 (by decide) (by decide)) dX11_tapeIsRain_35 (fun v_14 ev_14 => ?_)
            have i_15 : 0 ≤ v_14.toInt ∧ v_14.toInt ≤ 255 := ev_14 ▸ hA_ar 1 _
            refine lv_bipush (v := 9) hx hb dX11_tapeIsRain_36 (by decide) ?_
            refine lv_icmp_le (tgt := 55) hx hb dX11_tapeIsRain_38 (by decide) (fun c_16 => ?_) (fun c_16 => ?_)
            · skip
              have i_17 : 0 ≤ v_14.toInt ∧ v_14.toInt ≤ 9 := iv_le1 i_15 (⟨by decide, by decide⟩ : (9 : Int) ≤ (9 : Int32).toInt ∧ (9 : Int32).toInt ≤ 9) c_16
              obtain ⟨v_18, ev_18⟩ : ∃ z : Int32, z = x_7 + 1 := ⟨_, rfl⟩
              refine lv_iinc (v := v_18) (lv' := [(1, .int v_18), (0, .ref (ob 0))]) hx hb dX11_tapeIsRain_55 hl (k := 1) rfl (by rw [ev_18]; rfl) (by decide) rfl (fun ls hl => ?_)
              have t_19 : v_18.toInt = x_7.toInt + 1 ∧ 1 ≤ v_18.toInt ∧ v_18.toInt ≤ 200 := iv_addc ev_18 i_13 (by decide) (by decide) (by decide)
              refine lv_goto (tgt := 22) hx hb dX11_tapeIsRain_58 (by decide) ?_
              exact ih_8 v_18 _ _ ls (by omega) (iv_w t_19.2 (by decide) (by decide)) hP hS (lv_sub hl [1, 0] rfl)
            · skip
              have i_21 : 10 ≤ v_14.toInt ∧ v_14.toInt ≤ 255 := iv_lt2 (⟨by decide, by decide⟩ : (9 : Int) ≤ (9 : Int32).toInt ∧ (9 : Int32).toInt ≤ 9) i_15 (Int32.not_le.mp c_16)
              refine lv_aload_n hx hb dX11_tapeIsRain_41 rfl (lv_at hl 0 rfl) ?_
              refine gX_X11_9 hx hb htg hown hK hP dX11_tapeIsRain_42 ?_
              refine lv_iload_n hx hb dX11_tapeIsRain_45 rfl (lv_at hl 1 rfl) ?_
              refine lX_1 hx hb hK hP (iv_in i_13 (by decide) (by decide)) dX11_tapeIsRain_46 (fun v_22 ev_22 => ?_)
              obtain rfl : v_14 = v_22 := ev_14.trans ev_22.symm
              refine lv_sipush (v := 255) hx hb dX11_tapeIsRain_47 (by decide) ?_
              refine lv_icmp_eq (tgt := 55) hx hb dX11_tapeIsRain_50 (by decide) (fun c_23 => ?_) (fun c_23 => ?_)
              · skip
                have i_24 : 255 ≤ v_14.toInt ∧ v_14.toInt ≤ 255 := iv_eq1 (⟨by decide, by decide⟩ : (255 : Int) ≤ (255 : Int32).toInt ∧ (255 : Int32).toInt ≤ 255) c_23
                obtain ⟨v_25, ev_25⟩ : ∃ z : Int32, z = x_7 + 1 := ⟨_, rfl⟩
                refine lv_iinc (v := v_25) (lv' := [(1, .int v_25), (0, .ref (ob 0))]) hx hb dX11_tapeIsRain_55 hl (k := 1) rfl (by rw [ev_25]; rfl) (by decide) rfl (fun ls hl => ?_)
                have t_26 : v_25.toInt = x_7.toInt + 1 ∧ 1 ≤ v_25.toInt ∧ v_25.toInt ≤ 200 := iv_addc ev_25 i_13 (by decide) (by decide) (by decide)
                refine lv_goto (tgt := 22) hx hb dX11_tapeIsRain_58 (by decide) ?_
                exact ih_8 v_25 _ _ ls (by omega) (iv_w t_26.2 (by decide) (by decide)) hP hS (lv_sub hl [1, 0] rfl)
              · skip
                have i_28 : 10 ≤ v_14.toInt ∧ v_14.toInt ≤ 254 := iv_neh i_21 (by decide) c_23
                refine lv_iconst (v := 0) hx hb dX11_tapeIsRain_53 (by decide) ?_
                exact W.zret (v := 0) hx hb hr (by decide) (fun t ht hW => ⟨⟨0, (fv, wd, ar), rfl, ⟨hF_fv, hA_ar, (fM_rf [] _), (fA_rf [] _), rfl, (iv_w (⟨by decide, by decide⟩ : (0 : Int) ≤ (0 : Int32).toInt ∧ (0 : Int32).toInt ≤ 0) (by decide) (by decide)), (Or.inl ⟨rfl, trivial⟩), trivial⟩, ⟨by rw [ht]; exact hP, va_K.moved hW.alike hK⟩⟩, hS.F ht⟩) hS.2.2 dX11_tapeIsRain_54
      · skip
        have z_29 : (0 : Int32).toInt = 0 := by decide
        exact hj_10 201 0 _ _ ls (by first | decide | omega) (iv_w (⟨by decide, by decide⟩ : (0 : Int) ≤ (0 : Int32).toInt ∧ (0 : Int32).toInt ≤ 0) (by decide) (by decide)) hP hS (lv_sub hl [1, 0] rfl)
    · skip
      have i_30 : 201 ≤ (fv 0).toInt ∧ (fv 0).toInt ≤ 340 := iv_lt2 (⟨by decide, by decide⟩ : (200 : Int) ≤ (200 : Int32).toInt ∧ (200 : Int32).toInt ≤ 200) i_4 (Int32.not_le.mp c_5)
      refine lv_iconst (v := 0) hx hb dX11_tapeIsRain_18 (by decide) ?_
      exact W.zret (v := 0) hx hb hr (by decide) (fun t ht hW => ⟨⟨0, (fv, wd, ar), rfl, ⟨hF_fv, hA_ar, (fM_rf [] _), (fA_rf [] _), rfl, (iv_w (⟨by decide, by decide⟩ : (0 : Int) ≤ (0 : Int32).toInt ∧ (0 : Int32).toInt ≤ 0) (by decide) (by decide)), (Or.inl ⟨rfl, trivial⟩), trivial⟩, ⟨by rw [ht]; exact hP, va_K.moved hW.alike hK⟩⟩, hS.F ht⟩) hS.2.2 dX11_tapeIsRain_19
set_option maxHeartbeats 4000000 in
set_option maxRecDepth 100000 in
theorem x_wet (l : Launch) (dC : Nat → ClassId) (dI : Nat → Nat → Nat) (sz : Nat) (ob ad : Nat → Nat) (cA : Nat → ClassId) (hd : dX ob ad) (fv : Nat → Int32) (wd : xT) (ar : Nat → Nat → Int32) (hF_fv : rX fv) (hA_ar : rB ar) (a : Int32) : Met l yX11_wet (.code yX11_wet cX11_wet 2 (some .int) :: lw_good) ({ frames := 3, cells := 0, slots := 0, locals := 61 }) (va_Pc [.ref (ob 0), .int a] (prX dC dI ob ad cA fv wd ar sz)) (va_Qi (fun (r : Int32) (u : xS) => rX u.1 ∧ rB u.2.2 ∧ fM [] fv u.1 ∧ fA [] ar u.2.2 ∧ u.2.1.2 = wd.2 ∧ True) (enX dC dI ob ad cA) (aX ob ad sz)) 0 0 (aX ob ad sz) := by
  refine Met.ofW (cc := cX11_wet) (maxL := 2) (ret := (some .int)) (by decide) rfl ?_
  intro p e s m args below meth c s₁ B hml hv
  obtain ⟨rfl, hsz, hP, hK⟩ := hv
  have hx := B.exec
  have hb := B.bytes
  have hr := B.returns
  have hts := atoms_spec (ws := (.code yX11_wet cX11_wet 2 (some .int) :: lw_good)) B.pre
  have htg : ∀ w ∈ lw_good, w.before _ s = true := fun w hw => hts w (List.mem_cons_of_mem _ hw)
  have hown : s.vm.findClass RX11 = some m.cls := findClass_of_methodNamed B.named
  have hlocks := B.notSynchronized
  subst hsz
  have hS : va_S (aX ob ad s.heap.size) s.heap s.heap [] := va_S.rf
  have hl := lv_entry ([.ref (ob 0), .int a]) (n := 2) (Nat.le_of_ble_eq_true rfl)
  rw [lg_entry_eq]
  generalize (lg_sl ([.ref (ob 0), .int a]) ++ List.replicate (2 - (lg_sl ([.ref (ob 0), .int a])).length) Slot.unset).toArray = ls at hl ⊢
  have hl : lv_has ls 2 [(0, .ref (ob 0)), (1, .int a)] := hl
  refine lv_iload_n hx hb dX11_wet_0 rfl (lv_at hl 1 rfl) ?_
  refine lv_if_lt (tgt := 11) hx hb dX11_wet_1 (by decide) (fun c_1 => ?_) (fun c_1 => ?_)
  · skip
    have i_2 : (-2147483648) ≤ a.toInt ∧ a.toInt ≤ (-1) := iv_lt1 (iv_any a) (⟨by decide, by decide⟩ : (0 : Int) ≤ (0 : Int32).toInt ∧ (0 : Int32).toInt ≤ 0) c_1
    refine lv_iconst (v := (-1)) hx hb dX11_wet_11 (by decide) ?_
    refine lv_goto (tgt := 23) hx hb dX11_wet_12 (by decide) ?_
    exact W.iret (v := (-1)) hx hb hr (fun t ht hW => ⟨⟨(-1), (fv, wd, ar), rfl, ⟨hF_fv, hA_ar, (fM_rf [] _), (fA_rf [] _), rfl, trivial⟩, ⟨by rw [ht]; exact hP, va_K.moved hW.alike hK⟩⟩, hS.F ht⟩) hS.2.2 dX11_wet_23
  · skip
    have i_3 : 0 ≤ a.toInt ∧ a.toInt ≤ 2147483647 := iv_le2 (⟨by decide, by decide⟩ : (0 : Int) ≤ (0 : Int32).toInt ∧ (0 : Int32).toInt ≤ 0) (iv_any a) (Int32.not_lt.mp c_1)
    refine lv_iload_n hx hb dX11_wet_4 rfl (lv_at hl 1 rfl) ?_
    refine lv_sipush (v := 199) hx hb dX11_wet_5 (by decide) ?_
    refine lv_icmp_le (tgt := 15) hx hb dX11_wet_8 (by decide) (fun c_4 => ?_) (fun c_4 => ?_)
    · skip
      have i_5 : 0 ≤ a.toInt ∧ a.toInt ≤ 199 := iv_le1 i_3 (⟨by decide, by decide⟩ : (199 : Int) ≤ (199 : Int32).toInt ∧ (199 : Int32).toInt ≤ 199) c_4
      refine lv_aload_n hx hb dX11_wet_15 rfl (lv_at hl 0 rfl) ?_
      refine gX_X11_16 hx hb htg hown hK hP dX11_wet_16 ?_
      refine lv_iload_n hx hb dX11_wet_19 rfl (lv_at hl 1 rfl) ?_
      refine va_calli (va_runV (As := [.int a]) (rest := []) ⟨hx, hb, hml, hown, hts⟩ (x_rainOn l dC dI s.heap.size ob ad cA hd fv wd ar hF_fv hA_ar a i_5) (cwV 1 hts (gV kw_3_230 kw_3_231 kw_3_232 kw_1_2 kw_3_233) rfl rfl rfl (by decide +kernel) ⟨Nat.le_of_ble_eq_true rfl, Nat.le_of_ble_eq_true rfl⟩) ⟨fun a U g mk q => ⟨q.1, q.2.1, q.2.2.1, va_K.moved (u := U) (U := U.calling g mk a) (Vm.Alike.refl U.vm) q.2.2.2⟩, va_recv hK hP (ci := 7) (q0 := 1) rfl rfl, fun U hU hW => ⟨rfl, by rw [hU], by rw [hU]; exact hP, va_K.moved hW.alike hK⟩⟩ rfl rfl hl.1 rfl (lv_room (Nat.le_of_ble_eq_true rfl)) dX11_wet_20 ⟨Nat.le_of_ble_eq_true rfl, Nat.le_of_ble_eq_true rfl⟩) hS (fun q _ h9 => aX_up hS q h9) (aX_up hS) (fun r_6 u t H1 locs ht _ hw hB _ hk1 hS => ?_)
      obtain ⟨fv_7, wd_8, ar_9⟩ := u
      obtain ⟨hF_fv_7, hA_ar_9, fr_10, fa_11, wf_12, -⟩ := hw
      have wf_12 : wd_8.2 = wd.2 := wf_12
      have hP : va_P (dC, dI) vwCl (wsX ob ad cA fv_7 wd_8 ar_9) H1 := by have h9 := hB.1; rw [ht] at h9; exact h9
      have fr_10 : fM [] fv fv_7 := fr_10
      have fa_11 : fA [] ar ar_9 := fa_11
      generalize H1 = H at hP hS ⊢
      exact W.iret (v := r_6) hx hb hr (fun t ht hW => ⟨⟨r_6, (fv_7, wd_8, ar_9), rfl, ⟨hF_fv_7, hA_ar_9, (fM_call (fM_rf [] _) fr_10 (by decide)), (fA_call (fA_rf [] _) fa_11 (by decide)), wf_12, trivial⟩, ⟨by rw [ht]; exact hP, va_K.moved hW.alike hK⟩⟩, hS.F ht⟩) hS.2.2 dX11_wet_23
    · skip
      have i_13 : 200 ≤ a.toInt ∧ a.toInt ≤ 2147483647 := iv_lt2 (⟨by decide, by decide⟩ : (199 : Int) ≤ (199 : Int32).toInt ∧ (199 : Int32).toInt ≤ 199) i_3 (Int32.not_le.mp c_4)
      refine lv_iconst (v := (-1)) hx hb dX11_wet_11 (by decide) ?_
      refine lv_goto (tgt := 23) hx hb dX11_wet_12 (by decide) ?_
      exact W.iret (v := (-1)) hx hb hr (fun t ht hW => ⟨⟨(-1), (fv, wd, ar), rfl, ⟨hF_fv, hA_ar, (fM_rf [] _), (fA_rf [] _), rfl, trivial⟩, ⟨by rw [ht]; exact hP, va_K.moved hW.alike hK⟩⟩, hS.F ht⟩) hS.2.2 dX11_wet_23
set_option maxHeartbeats 4000000 in
set_option maxRecDepth 100000 in
theorem x_give (l : Launch) (dC : Nat → ClassId) (dI : Nat → Nat → Nat) (sz : Nat) (ob ad : Nat → Nat) (cA : Nat → ClassId) (hd : dX ob ad) (fv : Nat → Int32) (wd : xT) (ar : Nat → Nat → Int32) (hF_fv : rX fv) (hA_ar : rB ar) (a : Int32) : Met l yX11_give (.code yX11_give cX11_give 2 (some .int) :: lw_good) ({ frames := 2, cells := 0, slots := 0, locals := 40 }) (va_Pc [.ref (ob 0), .int a] (prX dC dI ob ad cA fv wd ar sz)) (va_Qi (fun (r : Int32) (u : xS) => rX u.1 ∧ rB u.2.2 ∧ fM [8] fv u.1 ∧ fA [] ar u.2.2 ∧ u.2.1.2 = wd.2 ∧ True) (enX dC dI ob ad cA) (aX ob ad sz)) 0 0 (aX ob ad sz) := by
  refine Met.ofW (cc := cX11_give) (maxL := 2) (ret := (some .int)) (by decide) rfl ?_
  intro p e s m args below meth c s₁ B hml hv
  obtain ⟨rfl, hsz, hP, hK⟩ := hv
  have hx := B.exec
  have hb := B.bytes
  have hr := B.returns
  have hts := atoms_spec (ws := (.code yX11_give cX11_give 2 (some .int) :: lw_good)) B.pre
  have htg : ∀ w ∈ lw_good, w.before _ s = true := fun w hw => hts w (List.mem_cons_of_mem _ hw)
  have hown : s.vm.findClass RX11 = some m.cls := findClass_of_methodNamed B.named
  have hlocks := B.notSynchronized
  subst hsz
  have hS : va_S (aX ob ad s.heap.size) s.heap s.heap [] := va_S.rf
  have hl := lv_entry ([.ref (ob 0), .int a]) (n := 2) (Nat.le_of_ble_eq_true rfl)
  rw [lg_entry_eq]
  generalize (lg_sl ([.ref (ob 0), .int a]) ++ List.replicate (2 - (lg_sl ([.ref (ob 0), .int a])).length) Slot.unset).toArray = ls at hl ⊢
  have hl : lv_has ls 2 [(0, .ref (ob 0)), (1, .int a)] := hl
  refine lv_iload_n hx hb dX11_give_0 rfl (lv_at hl 1 rfl) ?_
  refine lv_iconst (v := 1) hx hb dX11_give_1 (by decide) ?_
  refine lv_icmp_lt (tgt := 11) hx hb dX11_give_2 (by decide) (fun c_1 => ?_) (fun c_1 => ?_)
  · skip
    have i_2 : (-2147483648) ≤ a.toInt ∧ a.toInt ≤ 0 := iv_lt1 (iv_any a) (⟨by decide, by decide⟩ : (1 : Int) ≤ (1 : Int32).toInt ∧ (1 : Int32).toInt ≤ 1) c_1
    refine lv_iconst (v := (-1)) hx hb dX11_give_11 (by decide) ?_
    exact W.iret (v := (-1)) hx hb hr (fun t ht hW => ⟨⟨(-1), (fv, wd, ar), rfl, ⟨hF_fv, hA_ar, (fM_rf [8] _), (fA_rf [] _), rfl, trivial⟩, ⟨by rw [ht]; exact hP, va_K.moved hW.alike hK⟩⟩, hS.F ht⟩) hS.2.2 dX11_give_12
  · skip
    have i_3 : 1 ≤ a.toInt ∧ a.toInt ≤ 2147483647 := iv_le2 (⟨by decide, by decide⟩ : (1 : Int) ≤ (1 : Int32).toInt ∧ (1 : Int32).toInt ≤ 1) (iv_any a) (Int32.not_lt.mp c_1)
    refine lv_iload_n hx hb dX11_give_5 rfl (lv_at hl 1 rfl) ?_
    refine lv_ldc hx hb hown (htg (.constant RX11 144 100000) kw_3_238) dX11_give_6 ?_
    refine lv_icmp_le (tgt := 13) hx hb dX11_give_8 (by decide) (fun c_4 => ?_) (fun c_4 => ?_)
    · skip
      have i_5 : 1 ≤ a.toInt ∧ a.toInt ≤ 100000 := iv_le1 i_3 (⟨by decide, by decide⟩ : (100000 : Int) ≤ (100000 : Int32).toInt ∧ (100000 : Int32).toInt ≤ 100000) c_4
      refine lv_aload_n hx hb dX11_give_13 rfl (lv_at hl 0 rfl) ?_
      refine gX_X11_16 hx hb htg hown hK hP dX11_give_14 ?_
      refine lv_aload_n hx hb dX11_give_17 rfl (lv_at hl 0 rfl) ?_
      refine gX_X11_16 hx hb htg hown hK hP dX11_give_18 ?_
      refine gX_X11_145 hx hb htg hown hK hP dX11_give_21 ?_
      refine lv_iload_n hx hb dX11_give_24 rfl (lv_at hl 1 rfl) ?_
      refine lv_iadd hx hb dX11_give_25 ?_
      refine lv_topi (fun v_6 ev_6 => ?_)
      refine lv_ldc hx hb hown (htg (.constant RX11 148 1000000) kw_3_239) dX11_give_26 ?_
      refine va_mmin hx hb (hml.trans hl.1.symm) hown (htg (.methodLink RX11 149 Lib.Math.min.name) kw_4_0) (htg (.static Lib.Math.min.name) kw_3_151) (htg (.initialized RJ9) kw_1_16) (htg (.code Lib.Math.min.name Lib.Math.min.code 2 (some .int)) kw_3_152) (Nat.le_of_ble_eq_true rfl) (Nat.le_of_ble_eq_true rfl) (Nat.le_of_ble_eq_true rfl) (Nat.le_of_ble_eq_true rfl) dX11_give_28 ?_
      refine lv_topi (fun v_7 ev_7 => ?_)
      have i_8 : (-2147483648) ≤ v_7.toInt ∧ v_7.toInt ≤ 1000000 := ix_min ev_7 (iv_any v_6) (⟨by decide, by decide⟩ : (1000000 : Int) ≤ (1000000 : Int32).toInt ∧ (1000000 : Int32).toInt ≤ 1000000) (by decide) (by decide)
      refine pX_X11_145 hx hb htg hown hK hP hS hd dX11_give_31 (fun H locs fv_9 efv_9 hP hS => ?_)
      have hF_fv_9 : rX fv_9 := rX_put hF_fv efv_9 (iv_any _)
      refine lv_aload_n hx hb dX11_give_34 rfl (lv_at hl 0 rfl) ?_
      refine gX_X11_16 hx hb htg hown hK hP dX11_give_35 ?_
      refine gX_X11_145 hx hb htg hown hK hP dX11_give_38 ?_
      refine my_ti (y := v_7) ((congrFun efv_9 8)) ?_
      exact W.iret (v := v_7) hx hb hr (fun t ht hW => ⟨⟨v_7, (fv_9, wd, ar), rfl, ⟨hF_fv_9, hA_ar, (fM_put (fM_rf [8] _) efv_9 (by decide)), (fA_rf [] _), rfl, trivial⟩, ⟨by rw [ht]; exact hP, va_K.moved hW.alike hK⟩⟩, hS.F ht⟩) hS.2.2 dX11_give_41
    · skip
      have i_10 : 100001 ≤ a.toInt ∧ a.toInt ≤ 2147483647 := iv_lt2 (⟨by decide, by decide⟩ : (100000 : Int) ≤ (100000 : Int32).toInt ∧ (100000 : Int32).toInt ≤ 100000) i_3 (Int32.not_le.mp c_4)
      refine lv_iconst (v := (-1)) hx hb dX11_give_11 (by decide) ?_
      exact W.iret (v := (-1)) hx hb hr (fun t ht hW => ⟨⟨(-1), (fv, wd, ar), rfl, ⟨hF_fv, hA_ar, (fM_rf [8] _), (fA_rf [] _), rfl, trivial⟩, ⟨by rw [ht]; exact hP, va_K.moved hW.alike hK⟩⟩, hS.F ht⟩) hS.2.2 dX11_give_12
set_option maxHeartbeats 4000000 in
set_option maxRecDepth 100000 in
theorem x_fault (l : Launch) (dC : Nat → ClassId) (dI : Nat → Nat → Nat) (sz : Nat) (ob ad : Nat → Nat) (cA : Nat → ClassId) (hd : dX ob ad) (fv : Nat → Int32) (wd : xT) (ar : Nat → Nat → Int32) (hF_fv : rX fv) (hA_ar : rB ar) : Met l yX11_fault (.code yX11_fault cX11_fault 1 (some .int) :: lw_good) ({ frames := 2, cells := 0, slots := 0, locals := 40 }) (va_Pc [.ref (ob 0)] (prX dC dI ob ad cA fv wd ar sz)) (va_Qi (fun (r : Int32) (u : xS) => rX u.1 ∧ rB u.2.2 ∧ fM [] fv u.1 ∧ fA [] ar u.2.2 ∧ u.2.1.2 = wd.2 ∧ True) (enX dC dI ob ad cA) (aX ob ad sz)) 0 0 (aX ob ad sz) := by
  refine Met.ofW (cc := cX11_fault) (maxL := 1) (ret := (some .int)) (by decide) rfl ?_
  intro p e s m args below meth c s₁ B hml hv
  obtain ⟨rfl, hsz, hP, hK⟩ := hv
  have hx := B.exec
  have hb := B.bytes
  have hr := B.returns
  have hts := atoms_spec (ws := (.code yX11_fault cX11_fault 1 (some .int) :: lw_good)) B.pre
  have htg : ∀ w ∈ lw_good, w.before _ s = true := fun w hw => hts w (List.mem_cons_of_mem _ hw)
  have hown : s.vm.findClass RX11 = some m.cls := findClass_of_methodNamed B.named
  have hlocks := B.notSynchronized
  subst hsz
  have hS : va_S (aX ob ad s.heap.size) s.heap s.heap [] := va_S.rf
  have hl := lv_entry ([.ref (ob 0)]) (n := 1) (Nat.le_of_ble_eq_true rfl)
  rw [lg_entry_eq]
  generalize (lg_sl ([.ref (ob 0)]) ++ List.replicate (1 - (lg_sl ([.ref (ob 0)])).length) Slot.unset).toArray = ls at hl ⊢
  have hl : lv_has ls 1 [(0, .ref (ob 0))] := hl
  refine lv_aload_n hx hb dX11_fault_0 rfl (lv_at hl 0 rfl) ?_
  refine gX_X11_171 hx hb htg hown hK hP dX11_fault_1 ?_
  exact W.iret (v := fv 2) hx hb hr (fun t ht hW => ⟨⟨fv 2, (fv, wd, ar), rfl, ⟨hF_fv, hA_ar, (fM_rf [] _), (fA_rf [] _), rfl, trivial⟩, ⟨by rw [ht]; exact hP, va_K.moved hW.alike hK⟩⟩, hS.F ht⟩) hS.2.2 dX11_fault_4
set_option maxHeartbeats 4000000 in
set_option maxRecDepth 100000 in
theorem x_why (l : Launch) (dC : Nat → ClassId) (dI : Nat → Nat → Nat) (sz : Nat) (ob ad : Nat → Nat) (cA : Nat → ClassId) (hd : dX ob ad) (fv : Nat → Int32) (wd : xT) (ar : Nat → Nat → Int32) (hF_fv : rX fv) (hA_ar : rB ar) : Met l yX11_why (.code yX11_why cX11_why 1 (some .int) :: lw_good) ({ frames := 2, cells := 0, slots := 0, locals := 40 }) (va_Pc [.ref (ob 0)] (prX dC dI ob ad cA fv wd ar sz)) (va_Qi (fun (r : Int32) (u : xS) => rX u.1 ∧ rB u.2.2 ∧ fM [] fv u.1 ∧ fA [] ar u.2.2 ∧ u.2.1.2 = wd.2 ∧ True) (enX dC dI ob ad cA) (aX ob ad sz)) 0 0 (aX ob ad sz) := by
  refine Met.ofW (cc := cX11_why) (maxL := 1) (ret := (some .int)) (by decide) rfl ?_
  intro p e s m args below meth c s₁ B hml hv
  obtain ⟨rfl, hsz, hP, hK⟩ := hv
  have hx := B.exec
  have hb := B.bytes
  have hr := B.returns
  have hts := atoms_spec (ws := (.code yX11_why cX11_why 1 (some .int) :: lw_good)) B.pre
  have htg : ∀ w ∈ lw_good, w.before _ s = true := fun w hw => hts w (List.mem_cons_of_mem _ hw)
  have hown : s.vm.findClass RX11 = some m.cls := findClass_of_methodNamed B.named
  have hlocks := B.notSynchronized
  subst hsz
  have hS : va_S (aX ob ad s.heap.size) s.heap s.heap [] := va_S.rf
  have hl := lv_entry ([.ref (ob 0)]) (n := 1) (Nat.le_of_ble_eq_true rfl)
  rw [lg_entry_eq]
  generalize (lg_sl ([.ref (ob 0)]) ++ List.replicate (1 - (lg_sl ([.ref (ob 0)])).length) Slot.unset).toArray = ls at hl ⊢
  have hl : lv_has ls 1 [(0, .ref (ob 0))] := hl
  refine lv_aload_n hx hb dX11_why_0 rfl (lv_at hl 0 rfl) ?_
  refine gX_X11_43 hx hb htg hown hK hP dX11_why_1 ?_
  exact W.iret (v := fv 1) hx hb hr (fun t ht hW => ⟨⟨fv 1, (fv, wd, ar), rfl, ⟨hF_fv, hA_ar, (fM_rf [] _), (fA_rf [] _), rfl, trivial⟩, ⟨by rw [ht]; exact hP, va_K.moved hW.alike hK⟩⟩, hS.F ht⟩) hS.2.2 dX11_why_4
set_option maxHeartbeats 4000000 in
set_option maxRecDepth 100000 in
theorem x_rode (l : Launch) (dC : Nat → ClassId) (dI : Nat → Nat → Nat) (sz : Nat) (ob ad : Nat → Nat) (cA : Nat → ClassId) (hd : dX ob ad) (fv : Nat → Int32) (wd : xT) (ar : Nat → Nat → Int32) (hF_fv : rX fv) (hA_ar : rB ar) (a : Int32) : Met l yX11_rode (.code yX11_rode cX11_rode 2 (some .int) :: lw_good) ({ frames := 3, cells := 0, slots := 0, locals := 61 }) (va_Pc [.ref (ob 0), .int a] (prX dC dI ob ad cA fv wd ar sz)) (va_Qi (fun (r : Int32) (u : xS) => rX u.1 ∧ rB u.2.2 ∧ fM [] fv u.1 ∧ fA [] ar u.2.2 ∧ u.2.1.2 = wd.2 ∧ True) (enX dC dI ob ad cA) (aX ob ad sz)) 0 0 (aX ob ad sz) := by
  refine Met.ofW (cc := cX11_rode) (maxL := 2) (ret := (some .int)) (by decide) rfl ?_
  intro p e s m args below meth c s₁ B hml hv
  obtain ⟨rfl, hsz, hP, hK⟩ := hv
  have hx := B.exec
  have hb := B.bytes
  have hr := B.returns
  have hts := atoms_spec (ws := (.code yX11_rode cX11_rode 2 (some .int) :: lw_good)) B.pre
  have htg : ∀ w ∈ lw_good, w.before _ s = true := fun w hw => hts w (List.mem_cons_of_mem _ hw)
  have hown : s.vm.findClass RX11 = some m.cls := findClass_of_methodNamed B.named
  have hlocks := B.notSynchronized
  subst hsz
  have hS : va_S (aX ob ad s.heap.size) s.heap s.heap [] := va_S.rf
  have hl := lv_entry ([.ref (ob 0), .int a]) (n := 2) (Nat.le_of_ble_eq_true rfl)
  rw [lg_entry_eq]
  generalize (lg_sl ([.ref (ob 0), .int a]) ++ List.replicate (2 - (lg_sl ([.ref (ob 0), .int a])).length) Slot.unset).toArray = ls at hl ⊢
  have hl : lv_has ls 2 [(0, .ref (ob 0)), (1, .int a)] := hl
  refine lv_aload_n hx hb dX11_rode_0 rfl (lv_at hl 0 rfl) ?_
  refine gX_X11_16 hx hb htg hown hK hP dX11_rode_1 ?_
  refine gX_X11_116 hx hb htg hown hK hP dX11_rode_4 ?_
  refine lv_iload_n hx hb dX11_rode_7 rfl (lv_at hl 1 rfl) ?_
  refine va_calli (va_runV (As := [.int a]) (rest := []) ⟨hx, hb, hml, hown, hts⟩ (x_trips_has l dC dI s.heap.size ob ad cA hd fv wd ar hF_fv hA_ar a) (cwV 1 hts (gV kw_4_237 kw_4_238 kw_4_239 kw_1_6 kw_5_0) rfl rfl rfl (by decide +kernel) ⟨Nat.le_of_ble_eq_true rfl, Nat.le_of_ble_eq_true rfl⟩) ⟨fun a U g mk q => ⟨q.1, q.2.1, q.2.2.1, va_K.moved (u := U) (U := U.calling g mk a) (Vm.Alike.refl U.vm) q.2.2.2⟩, va_recv hK hP (ci := 8) (q0 := 5) rfl rfl, fun U hU hW => ⟨rfl, by rw [hU], by rw [hU]; exact hP, va_K.moved hW.alike hK⟩⟩ rfl rfl hl.1 rfl (lv_room (Nat.le_of_ble_eq_true rfl)) dX11_rode_8 ⟨Nat.le_of_ble_eq_true rfl, Nat.le_of_ble_eq_true rfl⟩) hS (fun q _ h9 => aX_up hS q h9) (aX_up hS) (fun r_1 u t H1 locs ht _ hw hB _ hk1 hS => ?_)
  obtain ⟨fv_4, wd_5, ar_6⟩ := u
  obtain ⟨hF_fv_4, hA_ar_6, fr_7, fa_8, wf_9, p_2, p_3, -⟩ := hw
  have wf_9 : wd_5.2 = wd.2 := wf_9
  have hP : va_P (dC, dI) vwCl (wsX ob ad cA fv_4 wd_5 ar_6) H1 := by have h9 := hB.1; rw [ht] at h9; exact h9
  have fr_7 : fM [] fv fv_4 := fr_7
  have fa_8 : fA [] ar ar_6 := fa_8
  generalize H1 = H at hP hS ⊢
  rcases p_3 with ⟨rfl, p_3⟩ | ⟨rfl, p_3⟩
  · skip
    refine lv_if_eq (tgt := 29) hx hb dX11_rode_11 (by decide) (fun c_10 => ?_) (fun c_10 => ?_)
    · skip
      refine lv_iconst (v := (-1)) hx hb dX11_rode_29 (by decide) ?_
      exact W.iret (v := (-1)) hx hb hr (fun t ht hW => ⟨⟨(-1), (fv_4, wd_5, ar_6), rfl, ⟨hF_fv_4, hA_ar_6, (fM_call (fM_rf [] _) fr_7 (by decide)), (fA_call (fA_rf [] _) fa_8 (by decide)), wf_9, trivial⟩, ⟨by rw [ht]; exact hP, va_K.moved hW.alike hK⟩⟩, hS.F ht⟩) hS.2.2 dX11_rode_30
    · skip
      exact absurd c_10 (by decide)
  · skip
    have i_11 : 0 ≤ a.toInt ∧ a.toInt ≤ 2147483647 := ⟨p_3.1, (iv_any a).2⟩
    have i_12 : 0 ≤ a.toInt ∧ a.toInt ≤ 79 := ⟨i_11.1, p_3.2⟩
    refine lv_if_eq (tgt := 29) hx hb dX11_rode_11 (by decide) (fun c_13 => ?_) (fun c_13 => ?_)
    · skip
      exact absurd c_13 (by decide)
    · skip
      refine lv_aload_n hx hb dX11_rode_14 rfl (lv_at hl 0 rfl) ?_
      refine gX_X11_16 hx hb htg hown hK hP dX11_rode_15 ?_
      refine gX_X11_116 hx hb htg hown hK hP dX11_rode_18 ?_
      refine gX_X11_217 hx hb htg hown hK hP dX11_rode_21 ?_
      refine lv_iload_n hx hb dX11_rode_24 rfl (lv_at hl 1 rfl) ?_
      refine lX_35 hx hb hK hP (iv_in i_12 (by decide) (by decide)) dX11_rode_25 (fun v_14 ev_14 => ?_)
      refine lv_goto (tgt := 30) hx hb dX11_rode_26 (by decide) ?_
      exact W.iret (v := v_14) hx hb hr (fun t ht hW => ⟨⟨v_14, (fv_4, wd_5, ar_6), rfl, ⟨hF_fv_4, hA_ar_6, (fM_call (fM_rf [] _) fr_7 (by decide)), (fA_call (fA_rf [] _) fa_8 (by decide)), wf_9, trivial⟩, ⟨by rw [ht]; exact hP, va_K.moved hW.alike hK⟩⟩, hS.F ht⟩) hS.2.2 dX11_rode_30
set_option maxHeartbeats 4000000 in
set_option maxRecDepth 100000 in
theorem x_wheeled (l : Launch) (dC : Nat → ClassId) (dI : Nat → Nat → Nat) (sz : Nat) (ob ad : Nat → Nat) (cA : Nat → ClassId) (hd : dX ob ad) (fv : Nat → Int32) (wd : xT) (ar : Nat → Nat → Int32) (hF_fv : rX fv) (hA_ar : rB ar) (a : Int32) (b : Int32) : Met l yX11_wheeled (.code yX11_wheeled cX11_wheeled 3 (some .int) :: lw_good) ({ frames := 3, cells := 0, slots := 0, locals := 62 }) (va_Pc [.ref (ob 0), .int a, .int b] (prX dC dI ob ad cA fv wd ar sz)) (va_Qi (fun (r : Int32) (u : xS) => rX u.1 ∧ rB u.2.2 ∧ fM [] fv u.1 ∧ fA [] ar u.2.2 ∧ u.2.1.2 = wd.2 ∧ True) (enX dC dI ob ad cA) (aX ob ad sz)) 0 0 (aX ob ad sz) := by
  refine Met.ofW (cc := cX11_wheeled) (maxL := 3) (ret := (some .int)) (by decide) rfl ?_
  intro p e s m args below meth c s₁ B hml hv
  obtain ⟨rfl, hsz, hP, hK⟩ := hv
  have hx := B.exec
  have hb := B.bytes
  have hr := B.returns
  have hts := atoms_spec (ws := (.code yX11_wheeled cX11_wheeled 3 (some .int) :: lw_good)) B.pre
  have htg : ∀ w ∈ lw_good, w.before _ s = true := fun w hw => hts w (List.mem_cons_of_mem _ hw)
  have hown : s.vm.findClass RX11 = some m.cls := findClass_of_methodNamed B.named
  have hlocks := B.notSynchronized
  subst hsz
  have hS : va_S (aX ob ad s.heap.size) s.heap s.heap [] := va_S.rf
  have hl := lv_entry ([.ref (ob 0), .int a, .int b]) (n := 3) (Nat.le_of_ble_eq_true rfl)
  rw [lg_entry_eq]
  generalize (lg_sl ([.ref (ob 0), .int a, .int b]) ++ List.replicate (3 - (lg_sl ([.ref (ob 0), .int a, .int b])).length) Slot.unset).toArray = ls at hl ⊢
  have hl : lv_has ls 3 [(0, .ref (ob 0)), (1, .int a), (2, .int b)] := hl
  refine lv_aload_n hx hb dX11_wheeled_0 rfl (lv_at hl 0 rfl) ?_
  refine gX_X11_16 hx hb htg hown hK hP dX11_wheeled_1 ?_
  refine gX_X11_101 hx hb htg hown hK hP dX11_wheeled_4 ?_
  refine lv_iload_n hx hb dX11_wheeled_7 rfl (lv_at hl 1 rfl) ?_
  refine va_calli (va_runV (As := [.int a]) (rest := []) ⟨hx, hb, hml, hown, hts⟩ (x_wheels_has l dC dI s.heap.size ob ad cA hd fv wd ar hF_fv hA_ar a) (cwV 1 hts (gV kw_3_198 kw_3_199 kw_3_200 kw_1_5 kw_3_201) rfl rfl rfl (by decide +kernel) ⟨Nat.le_of_ble_eq_true rfl, Nat.le_of_ble_eq_true rfl⟩) ⟨fun a U g mk q => ⟨q.1, q.2.1, q.2.2.1, va_K.moved (u := U) (U := U.calling g mk a) (Vm.Alike.refl U.vm) q.2.2.2⟩, va_recv hK hP (ci := 10) (q0 := 4) rfl rfl, fun U hU hW => ⟨rfl, by rw [hU], by rw [hU]; exact hP, va_K.moved hW.alike hK⟩⟩ rfl rfl hl.1 rfl (lv_room (Nat.le_of_ble_eq_true rfl)) dX11_wheeled_8 ⟨Nat.le_of_ble_eq_true rfl, Nat.le_of_ble_eq_true rfl⟩) hS (fun q _ h9 => aX_up hS q h9) (aX_up hS) (fun r_1 u t H1 locs ht _ hw hB _ hk1 hS => ?_)
  obtain ⟨fv_4, wd_5, ar_6⟩ := u
  obtain ⟨hF_fv_4, hA_ar_6, fr_7, fa_8, wf_9, p_2, p_3, -⟩ := hw
  have wf_9 : wd_5.2 = wd.2 := wf_9
  have hP : va_P (dC, dI) vwCl (wsX ob ad cA fv_4 wd_5 ar_6) H1 := by have h9 := hB.1; rw [ht] at h9; exact h9
  have fr_7 : fM [] fv fv_4 := fr_7
  have fa_8 : fA [] ar ar_6 := fa_8
  generalize H1 = H at hP hS ⊢
  rcases p_3 with ⟨rfl, p_3⟩ | ⟨rfl, p_3⟩
  · skip
    refine lv_if_eq (tgt := 29) hx hb dX11_wheeled_11 (by decide) (fun c_10 => ?_) (fun c_10 => ?_)
    · skip
      refine lv_iconst (v := (-1)) hx hb dX11_wheeled_29 (by decide) ?_
      exact W.iret (v := (-1)) hx hb hr (fun t ht hW => ⟨⟨(-1), (fv_4, wd_5, ar_6), rfl, ⟨hF_fv_4, hA_ar_6, (fM_call (fM_rf [] _) fr_7 (by decide)), (fA_call (fA_rf [] _) fa_8 (by decide)), wf_9, trivial⟩, ⟨by rw [ht]; exact hP, va_K.moved hW.alike hK⟩⟩, hS.F ht⟩) hS.2.2 dX11_wheeled_30
    · skip
      exact absurd c_10 (by decide)
  · skip
    have i_11 : 0 ≤ a.toInt ∧ a.toInt ≤ 2147483647 := ⟨p_3.1, (iv_any a).2⟩
    have i_12 : 0 ≤ a.toInt ∧ a.toInt ≤ 19 := ⟨i_11.1, p_3.2⟩
    refine lv_if_eq (tgt := 29) hx hb dX11_wheeled_11 (by decide) (fun c_13 => ?_) (fun c_13 => ?_)
    · skip
      exact absurd c_13 (by decide)
    · skip
      refine lv_aload_n hx hb dX11_wheeled_14 rfl (lv_at hl 0 rfl) ?_
      refine gX_X11_16 hx hb htg hown hK hP dX11_wheeled_15 ?_
      refine gX_X11_101 hx hb htg hown hK hP dX11_wheeled_18 ?_
      refine lv_iload_n hx hb dX11_wheeled_21 rfl (lv_at hl 1 rfl) ?_
      refine lv_iload_n hx hb dX11_wheeled_22 rfl (lv_at hl 2 rfl) ?_
      refine va_calli (va_runV (As := [.int a, .int b]) (rest := []) ⟨hx, hb, hml, hown, hts⟩ (x_wtell l dC dI H.size ob ad cA hd fv_4 wd_5 ar_6 hF_fv_4 hA_ar_6 a b i_12) (cwV 2 hts (gV kw_5_229 kw_5_230 kw_5_231 kw_1_5 kw_5_232) rfl rfl rfl (by decide +kernel) ⟨Nat.le_of_ble_eq_true rfl, Nat.le_of_ble_eq_true rfl⟩) ⟨fun a U g mk q => ⟨q.1, q.2.1, q.2.2.1, va_K.moved (u := U) (U := U.calling g mk a) (Vm.Alike.refl U.vm) q.2.2.2⟩, va_recv hK hP (ci := 10) (q0 := 4) rfl rfl, fun U hU hW => ⟨rfl, by rw [hU], by rw [hU]; exact hP, va_K.moved hW.alike hK⟩⟩ rfl rfl hl.1 rfl (lv_room (Nat.le_of_ble_eq_true rfl)) dX11_wheeled_23 ⟨Nat.le_of_ble_eq_true rfl, Nat.le_of_ble_eq_true rfl⟩) hS (fun q _ h9 => aX_up hS q h9) (aX_up hS) (fun r_14 u t H1 locs ht _ hw hB _ hk1 hS => ?_)
      obtain ⟨fv_15, wd_16, ar_17⟩ := u
      obtain ⟨hF_fv_15, hA_ar_17, fr_18, fa_19, wf_20, -⟩ := hw
      have wf_20 : wd_16.2 = wd_5.2 := wf_20
      have hP : va_P (dC, dI) vwCl (wsX ob ad cA fv_15 wd_16 ar_17) H1 := by have h9 := hB.1; rw [ht] at h9; exact h9
      have fr_18 : fM [] fv_4 fv_15 := fr_18
      have fa_19 : fA [] ar_6 ar_17 := fa_19
      generalize H1 = H at hP hS ⊢
      refine lv_goto (tgt := 30) hx hb dX11_wheeled_26 (by decide) ?_
      exact W.iret (v := r_14) hx hb hr (fun t ht hW => ⟨⟨r_14, (fv_15, wd_16, ar_17), rfl, ⟨hF_fv_15, hA_ar_17, (fM_call (fM_call (fM_rf [] _) fr_7 (by decide)) fr_18 (by decide)), (fA_call (fA_call (fA_rf [] _) fa_8 (by decide)) fa_19 (by decide)), (wf_20.trans wf_9), trivial⟩, ⟨by rw [ht]; exact hP, va_K.moved hW.alike hK⟩⟩, hS.F ht⟩) hS.2.2 dX11_wheeled_30
set_option maxHeartbeats 4000000 in
set_option maxRecDepth 100000 in
theorem x_seatedAt (l : Launch) (dC : Nat → ClassId) (dI : Nat → Nat → Nat) (sz : Nat) (ob ad : Nat → Nat) (cA : Nat → ClassId) (hd : dX ob ad) (fv : Nat → Int32) (wd : xT) (ar : Nat → Nat → Int32) (hF_fv : rX fv) (hA_ar : rB ar) (a : Int32) : Met l yX11_seatedAt (.code yX11_seatedAt cX11_seatedAt 2 (some .int) :: lw_good) ({ frames := 2, cells := 0, slots := 0, locals := 40 }) (va_Pc [.ref (ob 0), .int a] (prX dC dI ob ad cA fv wd ar sz)) (va_Qi (fun (r : Int32) (u : xS) => rX u.1 ∧ rB u.2.2 ∧ fM [] fv u.1 ∧ fA [] ar u.2.2 ∧ u.2.1.2 = wd.2 ∧ True) (enX dC dI ob ad cA) (aX ob ad sz)) 0 0 (aX ob ad sz) := by
  refine Met.ofW (cc := cX11_seatedAt) (maxL := 2) (ret := (some .int)) (by decide) rfl ?_
  intro p e s m args below meth c s₁ B hml hv
  obtain ⟨rfl, hsz, hP, hK⟩ := hv
  have hx := B.exec
  have hb := B.bytes
  have hr := B.returns
  have hts := atoms_spec (ws := (.code yX11_seatedAt cX11_seatedAt 2 (some .int) :: lw_good)) B.pre
  have htg : ∀ w ∈ lw_good, w.before _ s = true := fun w hw => hts w (List.mem_cons_of_mem _ hw)
  have hown : s.vm.findClass RX11 = some m.cls := findClass_of_methodNamed B.named
  have hlocks := B.notSynchronized
  subst hsz
  have hS : va_S (aX ob ad s.heap.size) s.heap s.heap [] := va_S.rf
  have hl := lv_entry ([.ref (ob 0), .int a]) (n := 2) (Nat.le_of_ble_eq_true rfl)
  rw [lg_entry_eq]
  generalize (lg_sl ([.ref (ob 0), .int a]) ++ List.replicate (2 - (lg_sl ([.ref (ob 0), .int a])).length) Slot.unset).toArray = ls at hl ⊢
  have hl : lv_has ls 2 [(0, .ref (ob 0)), (1, .int a)] := hl
  refine lv_iload_n hx hb dX11_seatedAt_0 rfl (lv_at hl 1 rfl) ?_
  refine lv_if_lt (tgt := 15) hx hb dX11_seatedAt_1 (by decide) (fun c_1 => ?_) (fun c_1 => ?_)
  · skip
    have i_2 : (-2147483648) ≤ a.toInt ∧ a.toInt ≤ (-1) := iv_lt1 (iv_any a) (⟨by decide, by decide⟩ : (0 : Int) ≤ (0 : Int32).toInt ∧ (0 : Int32).toInt ≤ 0) c_1
    refine lv_iconst (v := (-1)) hx hb dX11_seatedAt_15 (by decide) ?_
    refine lv_goto (tgt := 28) hx hb dX11_seatedAt_16 (by decide) ?_
    exact W.iret (v := (-1)) hx hb hr (fun t ht hW => ⟨⟨(-1), (fv, wd, ar), rfl, ⟨hF_fv, hA_ar, (fM_rf [] _), (fA_rf [] _), rfl, trivial⟩, ⟨by rw [ht]; exact hP, va_K.moved hW.alike hK⟩⟩, hS.F ht⟩) hS.2.2 dX11_seatedAt_28
  · skip
    have i_3 : 0 ≤ a.toInt ∧ a.toInt ≤ 2147483647 := iv_le2 (⟨by decide, by decide⟩ : (0 : Int) ≤ (0 : Int32).toInt ∧ (0 : Int32).toInt ≤ 0) (iv_any a) (Int32.not_lt.mp c_1)
    refine lv_iload_n hx hb dX11_seatedAt_4 rfl (lv_at hl 1 rfl) ?_
    refine lv_aload_n hx hb dX11_seatedAt_5 rfl (lv_at hl 0 rfl) ?_
    refine gX_X11_39 hx hb htg hown hK hP dX11_seatedAt_6 ?_
    refine gX_X11_231 hx hb htg hown hK hP dX11_seatedAt_9 ?_
    have i_4 : 0 ≤ (fv 26).toInt ∧ (fv 26).toInt ≤ 5 := hF_fv 26
    refine lv_icmp_lt (tgt := 19) hx hb dX11_seatedAt_12 (by decide) (fun c_5 => ?_) (fun c_5 => ?_)
    · skip
      have i_6 : 0 ≤ a.toInt ∧ a.toInt ≤ 4 := iv_lt1 i_3 i_4 c_5
      have i_7 : 1 ≤ (fv 26).toInt ∧ (fv 26).toInt ≤ 5 := iv_lt2 i_3 i_4 c_5
      refine lv_aload_n hx hb dX11_seatedAt_19 rfl (lv_at hl 0 rfl) ?_
      refine gX_X11_39 hx hb htg hown hK hP dX11_seatedAt_20 ?_
      refine gX_X11_233 hx hb htg hown hK hP dX11_seatedAt_23 ?_
      refine lv_iload_n hx hb dX11_seatedAt_26 rfl (lv_at hl 1 rfl) ?_
      refine lX_72 hx hb hK hP (iv_in i_6 (by decide) (by decide)) dX11_seatedAt_27 (fun v_8 ev_8 => ?_)
      exact W.iret (v := v_8) hx hb hr (fun t ht hW => ⟨⟨v_8, (fv, wd, ar), rfl, ⟨hF_fv, hA_ar, (fM_rf [] _), (fA_rf [] _), rfl, trivial⟩, ⟨by rw [ht]; exact hP, va_K.moved hW.alike hK⟩⟩, hS.F ht⟩) hS.2.2 dX11_seatedAt_28
    · skip
      refine lv_iconst (v := (-1)) hx hb dX11_seatedAt_15 (by decide) ?_
      refine lv_goto (tgt := 28) hx hb dX11_seatedAt_16 (by decide) ?_
      exact W.iret (v := (-1)) hx hb hr (fun t ht hW => ⟨⟨(-1), (fv, wd, ar), rfl, ⟨hF_fv, hA_ar, (fM_rf [] _), (fA_rf [] _), rfl, trivial⟩, ⟨by rw [ht]; exact hP, va_K.moved hW.alike hK⟩⟩, hS.F ht⟩) hS.2.2 dX11_seatedAt_28
set_option maxHeartbeats 4000000 in
set_option maxRecDepth 100000 in
theorem x_setPace (l : Launch) (dC : Nat → ClassId) (dI : Nat → Nat → Nat) (sz : Nat) (ob ad : Nat → Nat) (cA : Nat → ClassId) (hd : dX ob ad) (fv : Nat → Int32) (wd : xT) (ar : Nat → Nat → Int32) (hF_fv : rX fv) (hA_ar : rB ar) (pp : Int32) (b : Int32) (h_pp : 0 ≤ pp.toInt ∧ pp.toInt ≤ 39) : Met l yX9_setPace (.code yX9_setPace cX9_setPace 3 none :: lw_good) ({ frames := 3, cells := 0, slots := 0, locals := 63 }) (va_Pc [.ref (ob 9), .int pp, .int b] (prX dC dI ob ad cA fv wd ar sz)) (va_Qv (fun (u : xS) => rX u.1 ∧ rB u.2.2 ∧ fM [] fv u.1 ∧ fA [64] ar u.2.2 ∧ u.2.1.2 = wd.2 ∧ True) (enX dC dI ob ad cA) (aX ob ad sz)) 0 0 (aX ob ad sz) := by
  refine Met.ofW (cc := cX9_setPace) (maxL := 3) (ret := none) (by decide) rfl ?_
  intro p e s m args below meth c s₁ B hml hv
  obtain ⟨rfl, hsz, hP, hK⟩ := hv
  have hx := B.exec
  have hb := B.bytes
  have hr := B.returns
  have hts := atoms_spec (ws := (.code yX9_setPace cX9_setPace 3 none :: lw_good)) B.pre
  have htg : ∀ w ∈ lw_good, w.before _ s = true := fun w hw => hts w (List.mem_cons_of_mem _ hw)
  have hown : s.vm.findClass RX9 = some m.cls := findClass_of_methodNamed B.named
  have hlocks := B.notSynchronized
  subst hsz
  have hS : va_S (aX ob ad s.heap.size) s.heap s.heap [] := va_S.rf
  have hl := lv_entry ([.ref (ob 9), .int pp, .int b]) (n := 3) (Nat.le_of_ble_eq_true rfl)
  rw [lg_entry_eq]
  generalize (lg_sl ([.ref (ob 9), .int pp, .int b]) ++ List.replicate (3 - (lg_sl ([.ref (ob 9), .int pp, .int b])).length) Slot.unset).toArray = ls at hl ⊢
  have hl : lv_has ls 3 [(0, .ref (ob 9)), (1, .int pp), (2, .int b)] := hl
  refine lv_aload_n hx hb dX9_setPace_0 rfl (lv_at hl 0 rfl) ?_
  refine gX_X9_38 hx hb htg hown hK hP dX9_setPace_1 ?_
  refine lv_iload_n hx hb dX9_setPace_4 rfl (lv_at hl 1 rfl) ?_
  refine lv_aload_n hx hb dX9_setPace_5 rfl (lv_at hl 0 rfl) ?_
  refine gX_X9_9 hx hb htg hown hK hP dX9_setPace_6 ?_
  refine gX_X9_91 hx hb htg hown hK hP dX9_setPace_9 ?_
  refine gX_X9_95 hx hb htg hown hK hP dX9_setPace_12 ?_
  refine lv_iload_n hx hb dX9_setPace_15 rfl (lv_at hl 1 rfl) ?_
  refine lX_11 hx hb hK hP (iv_in h_pp (by decide) (by decide)) dX9_setPace_16 (fun v_1 ev_1 => ?_)
  refine lv_iload_n hx hb dX9_setPace_17 rfl (lv_at hl 2 rfl) ?_
  refine lv_aload_n hx hb dX9_setPace_18 rfl (lv_at hl 0 rfl) ?_
  refine gX_X9_9 hx hb htg hown hK hP dX9_setPace_19 ?_
  refine lv_aload_n hx hb dX9_setPace_22 rfl (lv_at hl 0 rfl) ?_
  refine gX_X9_9 hx hb htg hown hK hP dX9_setPace_23 ?_
  refine gX_X9_41 hx hb htg hown hK hP dX9_setPace_26 ?_
  have i_2 : 0 ≤ (fv 7).toInt ∧ (fv 7).toInt ≤ 199 := hF_fv 7
  refine va_calli (va_runV (As := [.int (fv 7)]) (rest := [.int b, .int v_1, .int pp, .ref (ad 64)]) ⟨hx, hb, hml, hown, hts⟩ (x_rainOn l dC dI s.heap.size ob ad cA hd fv wd ar hF_fv hA_ar (fv 7) i_2) (cwV 1 hts (gV kw_5_65 kw_3_231 kw_3_232 kw_1_2 kw_3_233) rfl rfl rfl (by decide +kernel) ⟨Nat.le_of_ble_eq_true rfl, Nat.le_of_ble_eq_true rfl⟩) ⟨fun a U g mk q => ⟨q.1, q.2.1, q.2.2.1, va_K.moved (u := U) (U := U.calling g mk a) (Vm.Alike.refl U.vm) q.2.2.2⟩, va_recv hK hP (ci := 7) (q0 := 1) rfl rfl, fun U hU hW => ⟨rfl, by rw [hU], by rw [hU]; exact hP, va_K.moved hW.alike hK⟩⟩ rfl rfl hl.1 rfl (lv_room (Nat.le_of_ble_eq_true rfl)) dX9_setPace_29 ⟨Nat.le_of_ble_eq_true rfl, Nat.le_of_ble_eq_true rfl⟩) hS (fun q _ h9 => aX_up hS q h9) (aX_up hS) (fun r_3 u t H1 locs ht _ hw hB _ hk1 hS => ?_)
  obtain ⟨fv_4, wd_5, ar_6⟩ := u
  obtain ⟨hF_fv_4, hA_ar_6, fr_7, fa_8, wf_9, -⟩ := hw
  have wf_9 : wd_5.2 = wd.2 := wf_9
  have hP : va_P (dC, dI) vwCl (wsX ob ad cA fv_4 wd_5 ar_6) H1 := by have h9 := hB.1; rw [ht] at h9; exact h9
  have fr_7 : fM [] fv fv_4 := fr_7
  have fa_8 : fA [] ar ar_6 := fa_8
  generalize H1 = H at hP hS ⊢
  refine va_calli (va_runS (As := [.int v_1, .int b, .int r_3]) (rest := [.int pp, .ref (ad 64)]) ⟨hx, hb, hml, hown, hts⟩ (x_paceFor l H.size v_1 b r_3) (va_cwS 3 hts (gS kw_5_66 kw_5_67 kw_1_2 kw_5_68) rfl rfl rfl (by decide +kernel) ⟨Nat.le_of_ble_eq_true rfl, Nat.le_of_ble_eq_true rfl⟩) ⟨fun a U g mk q => ⟨q.1, q.2⟩, fun U hU hW => ⟨rfl, congrArg Array.size hU⟩⟩ rfl rfl hl.1 rfl (lv_room (Nat.le_of_ble_eq_true rfl)) dX9_setPace_32 ⟨Nat.le_of_ble_eq_true rfl, Nat.le_of_ble_eq_true rfl⟩) hS (fun q _ h9 => nX_up hS q h9) (nX_up hS) (fun r_10 u t H1 locs ht _ hw hB _ hk1 hS => ?_)
  have hP := my_keepM hP hk1
  generalize H1 = H at hP hS ⊢
  refine sX_64 hx hb hK hP hS hd (iv_in h_pp (by decide) (by decide)) dX9_setPace_35 (fun H locs ar_11 ear_11 hP hS => ?_)
  have hA_ar_11 : rB ar_11 := rB_put hA_ar_6 ear_11 (iv_any _)
  exact W.vret hx hb hr (fun t ht hW => ⟨⟨(fv_4, wd_5, ar_11), rfl, ⟨hF_fv_4, hA_ar_11, (fM_call (fM_rf [] _) fr_7 (by decide)), (fA_put (fA_call (fA_rf [64] _) fa_8 (by decide)) ear_11 (by decide)), wf_9, trivial⟩, ⟨by rw [ht]; exact hP, va_K.moved hW.alike hK⟩⟩, hS.F ht⟩) hS.2.2 dX9_setPace_36
set_option maxHeartbeats 4000000 in
set_option maxRecDepth 100000 in
theorem x_walkMinutes (l : Launch) (dC : Nat → ClassId) (dI : Nat → Nat → Nat) (sz : Nat) (ob ad : Nat → Nat) (cA : Nat → ClassId) (hd : dX ob ad) (fv : Nat → Int32) (wd : xT) (ar : Nat → Nat → Int32) (hF_fv : rX fv) (hA_ar : rB ar) (pp : Int32) (a : Int32) (b : Int32) (h_pp : 0 ≤ pp.toInt ∧ pp.toInt ≤ 39) : Met l yX9_walkMinutes (.code yX9_walkMinutes cX9_walkMinutes 4 (some .int) :: lw_good) ({ frames := 3, cells := 0, slots := 0, locals := 62 }) (va_Pc [.ref (ob 9), .int pp, .int a, .int b] (prX dC dI ob ad cA fv wd ar sz)) (va_Qi (fun (r : Int32) (u : xS) => rX u.1 ∧ rB u.2.2 ∧ fM [] fv u.1 ∧ fA [] ar u.2.2 ∧ u.2.1.2 = wd.2 ∧ True) (enX dC dI ob ad cA) (aX ob ad sz)) 0 0 (aX ob ad sz) := by
  refine Met.ofW (cc := cX9_walkMinutes) (maxL := 4) (ret := (some .int)) (by decide) rfl ?_
  intro p e s m args below meth c s₁ B hml hv
  obtain ⟨rfl, hsz, hP, hK⟩ := hv
  have hx := B.exec
  have hb := B.bytes
  have hr := B.returns
  have hts := atoms_spec (ws := (.code yX9_walkMinutes cX9_walkMinutes 4 (some .int) :: lw_good)) B.pre
  have htg : ∀ w ∈ lw_good, w.before _ s = true := fun w hw => hts w (List.mem_cons_of_mem _ hw)
  have hown : s.vm.findClass RX9 = some m.cls := findClass_of_methodNamed B.named
  have hlocks := B.notSynchronized
  subst hsz
  have hS : va_S (aX ob ad s.heap.size) s.heap s.heap [] := va_S.rf
  have hl := lv_entry ([.ref (ob 9), .int pp, .int a, .int b]) (n := 4) (Nat.le_of_ble_eq_true rfl)
  rw [lg_entry_eq]
  generalize (lg_sl ([.ref (ob 9), .int pp, .int a, .int b]) ++ List.replicate (4 - (lg_sl ([.ref (ob 9), .int pp, .int a, .int b])).length) Slot.unset).toArray = ls at hl ⊢
  have hl : lv_has ls 4 [(0, .ref (ob 9)), (1, .int pp), (2, .int a), (3, .int b)] := hl
  refine lv_aload_n hx hb dX9_walkMinutes_0 rfl (lv_at hl 0 rfl) ?_
  refine gX_X9_9 hx hb htg hown hK hP dX9_walkMinutes_1 ?_
  refine gX_X9_101 hx hb htg hown hK hP dX9_walkMinutes_4 ?_
  refine lv_iload_n hx hb dX9_walkMinutes_7 rfl (lv_at hl 2 rfl) ?_
  refine lv_iload_n hx hb dX9_walkMinutes_8 rfl (lv_at hl 3 rfl) ?_
  refine va_calli (va_runV (As := [.int a, .int b]) (rest := []) ⟨hx, hb, hml, hown, hts⟩ (x_between l dC dI s.heap.size ob ad cA hd fv wd ar hF_fv hA_ar a b) (cwV 2 hts (gV kw_5_138 kw_3_147 kw_3_148 kw_1_3 kw_3_149) rfl rfl rfl (by decide +kernel) ⟨Nat.le_of_ble_eq_true rfl, Nat.le_of_ble_eq_true rfl⟩) ⟨fun a U g mk q => ⟨q.1, q.2.1, q.2.2.1, va_K.moved (u := U) (U := U.calling g mk a) (Vm.Alike.refl U.vm) q.2.2.2⟩, va_recv hK hP (ci := 5) (q0 := 2) rfl rfl, fun U hU hW => ⟨rfl, by rw [hU], by rw [hU]; exact hP, va_K.moved hW.alike hK⟩⟩ rfl rfl hl.1 rfl (lv_room (Nat.le_of_ble_eq_true rfl)) dX9_walkMinutes_9 ⟨Nat.le_of_ble_eq_true rfl, Nat.le_of_ble_eq_true rfl⟩) hS (fun q _ h9 => aX_up hS q h9) (aX_up hS) (fun r_1 u t H1 locs ht _ hw hB _ hk1 hS => ?_)
  obtain ⟨fv_2, wd_3, ar_4⟩ := u
  obtain ⟨hF_fv_2, hA_ar_4, fr_5, fa_6, wf_7, -⟩ := hw
  have wf_7 : wd_3.2 = wd.2 := wf_7
  have hP : va_P (dC, dI) vwCl (wsX ob ad cA fv_2 wd_3 ar_4) H1 := by have h9 := hB.1; rw [ht] at h9; exact h9
  have fr_5 : fM [] fv fv_2 := fr_5
  have fa_6 : fA [] ar ar_4 := fa_6
  generalize H1 = H at hP hS ⊢
  refine lv_aload_n hx hb dX9_walkMinutes_12 rfl (lv_at hl 0 rfl) ?_
  refine gX_X9_38 hx hb htg hown hK hP dX9_walkMinutes_13 ?_
  refine lv_iload_n hx hb dX9_walkMinutes_16 rfl (lv_at hl 1 rfl) ?_
  refine lX_64 hx hb hK hP (iv_in h_pp (by decide) (by decide)) dX9_walkMinutes_17 (fun v_8 ev_8 => ?_)
  refine va_calli (va_runS (As := [.int r_1, .int v_8]) (rest := []) ⟨hx, hb, hml, hown, hts⟩ (x_minutesFor l H.size r_1 v_8) (va_cwS 2 hts (gS kw_5_139 kw_5_110 kw_1_2 kw_5_111) rfl rfl rfl (by decide +kernel) ⟨Nat.le_of_ble_eq_true rfl, Nat.le_of_ble_eq_true rfl⟩) ⟨fun a U g mk q => ⟨q.1, q.2⟩, fun U hU hW => ⟨rfl, congrArg Array.size hU⟩⟩ rfl rfl hl.1 rfl (lv_room (Nat.le_of_ble_eq_true rfl)) dX9_walkMinutes_18 ⟨Nat.le_of_ble_eq_true rfl, Nat.le_of_ble_eq_true rfl⟩) hS (fun q _ h9 => nX_up hS q h9) (nX_up hS) (fun r_9 u t H1 locs ht _ hw hB _ hk1 hS => ?_)
  have hP := my_keepM hP hk1
  generalize H1 = H at hP hS ⊢
  exact W.iret (v := r_9) hx hb hr (fun t ht hW => ⟨⟨r_9, (fv_2, wd_3, ar_4), rfl, ⟨hF_fv_2, hA_ar_4, (fM_call (fM_rf [] _) fr_5 (by decide)), (fA_call (fA_rf [] _) fa_6 (by decide)), wf_7, trivial⟩, ⟨by rw [ht]; exact hP, va_K.moved hW.alike hK⟩⟩, hS.F ht⟩) hS.2.2 dX9_walkMinutes_21
set_option maxHeartbeats 4000000 in
set_option maxRecDepth 100000 in
theorem x_hasHeard (l : Launch) (dC : Nat → ClassId) (dI : Nat → Nat → Nat) (sz : Nat) (ob ad : Nat → Nat) (cA : Nat → ClassId) (hd : dX ob ad) (fv : Nat → Int32) (wd : xT) (ar : Nat → Nat → Int32) (hF_fv : rX fv) (hA_ar : rB ar) (pp : Int32) (kk : Int32) (h_pp : 0 ≤ pp.toInt ∧ pp.toInt ≤ 39) (h_kk : 0 ≤ kk.toInt ∧ kk.toInt ≤ 79) : Met l yX9_hasHeard (.code yX9_hasHeard cX9_hasHeard 3 (some .boolean) :: lw_good) ({ frames := 2, cells := 0, slots := 0, locals := 40 }) (va_Pc [.ref (ob 9), .int pp, .int kk] (prX dC dI ob ad cA fv wd ar sz)) (va_Qi (fun (r : Int32) (u : xS) => rX u.1 ∧ rB u.2.2 ∧ fM [] fv u.1 ∧ fA [] ar u.2.2 ∧ u.2.1.2 = wd.2 ∧ (0 ≤ r.toInt ∧ r.toInt ≤ 1) ∧ True) (enX dC dI ob ad cA) (aX ob ad sz)) 0 0 (aX ob ad sz) := by
  refine Met.ofW (cc := cX9_hasHeard) (maxL := 3) (ret := (some .boolean)) (by decide) rfl ?_
  intro p e s m args below meth c s₁ B hml hv
  obtain ⟨rfl, hsz, hP, hK⟩ := hv
  have hx := B.exec
  have hb := B.bytes
  have hr := B.returns
  have hts := atoms_spec (ws := (.code yX9_hasHeard cX9_hasHeard 3 (some .boolean) :: lw_good)) B.pre
  have htg : ∀ w ∈ lw_good, w.before _ s = true := fun w hw => hts w (List.mem_cons_of_mem _ hw)
  have hown : s.vm.findClass RX9 = some m.cls := findClass_of_methodNamed B.named
  have hlocks := B.notSynchronized
  subst hsz
  have hS : va_S (aX ob ad s.heap.size) s.heap s.heap [] := va_S.rf
  have hl := lv_entry ([.ref (ob 9), .int pp, .int kk]) (n := 3) (Nat.le_of_ble_eq_true rfl)
  rw [lg_entry_eq]
  generalize (lg_sl ([.ref (ob 9), .int pp, .int kk]) ++ List.replicate (3 - (lg_sl ([.ref (ob 9), .int pp, .int kk])).length) Slot.unset).toArray = ls at hl ⊢
  have hl : lv_has ls 3 [(0, .ref (ob 9)), (1, .int pp), (2, .int kk)] := hl
  refine lv_aload_n hx hb dX9_hasHeard_0 rfl (lv_at hl 0 rfl) ?_
  refine gX_X9_9 hx hb htg hown hK hP dX9_hasHeard_1 ?_
  refine gX_X9_54 hx hb htg hown hK hP dX9_hasHeard_4 ?_
  refine gX_X9_137 hx hb htg hown hK hP dX9_hasHeard_7 ?_
  refine lv_iload_n hx hb dX9_hasHeard_10 rfl (lv_at hl 2 rfl) ?_
  refine lX_34 hx hb hK hP (iv_in h_kk (by decide) (by decide)) dX9_hasHeard_11 (fun v_1 ev_1 => ?_)
  refine lv_aload_n hx hb dX9_hasHeard_12 rfl (lv_at hl 0 rfl) ?_
  refine gX_X9_9 hx hb htg hown hK hP dX9_hasHeard_13 ?_
  refine gX_X9_91 hx hb htg hown hK hP dX9_hasHeard_16 ?_
  refine gX_X9_140 hx hb htg hown hK hP dX9_hasHeard_19 ?_
  refine lv_iload_n hx hb dX9_hasHeard_22 rfl (lv_at hl 1 rfl) ?_
  refine lX_14 hx hb hK hP (iv_in h_pp (by decide) (by decide)) dX9_hasHeard_23 (fun v_2 ev_2 => ?_)
  refine lv_iadd hx hb dX9_hasHeard_24 ?_
  refine lv_topi (fun v_3 ev_3 => ?_)
  refine lv_aload_n hx hb dX9_hasHeard_25 rfl (lv_at hl 0 rfl) ?_
  refine gX_X9_9 hx hb htg hown hK hP dX9_hasHeard_26 ?_
  refine gX_X9_41 hx hb htg hown hK hP dX9_hasHeard_29 ?_
  have i_4 : 0 ≤ (fv 7).toInt ∧ (fv 7).toInt ≤ 199 := hF_fv 7
  refine lv_icmp_gt (tgt := 39) hx hb dX9_hasHeard_32 (by decide) (fun c_5 => ?_) (fun c_5 => ?_)
  · skip
    have i_6 : 1 ≤ v_3.toInt ∧ v_3.toInt ≤ 2147483647 := iv_lt2 i_4 (iv_any v_3) c_5
    refine lv_iconst (v := 0) hx hb dX9_hasHeard_39 (by decide) ?_
    exact W.zret (v := 0) hx hb hr (by decide) (fun t ht hW => ⟨⟨0, (fv, wd, ar), rfl, ⟨hF_fv, hA_ar, (fM_rf [] _), (fA_rf [] _), rfl, (iv_w (⟨by decide, by decide⟩ : (0 : Int) ≤ (0 : Int32).toInt ∧ (0 : Int32).toInt ≤ 0) (by decide) (by decide)), trivial⟩, ⟨by rw [ht]; exact hP, va_K.moved hW.alike hK⟩⟩, hS.F ht⟩) hS.2.2 dX9_hasHeard_40
  · skip
    have i_7 : (-2147483648) ≤ v_3.toInt ∧ v_3.toInt ≤ 199 := iv_le1 (iv_any v_3) i_4 (Int32.not_lt.mp c_5)
    refine lv_iconst (v := 1) hx hb dX9_hasHeard_35 (by decide) ?_
    refine lv_goto (tgt := 40) hx hb dX9_hasHeard_36 (by decide) ?_
    exact W.zret (v := 1) hx hb hr (by decide) (fun t ht hW => ⟨⟨1, (fv, wd, ar), rfl, ⟨hF_fv, hA_ar, (fM_rf [] _), (fA_rf [] _), rfl, (iv_w (⟨by decide, by decide⟩ : (1 : Int) ≤ (1 : Int32).toInt ∧ (1 : Int32).toInt ≤ 1) (by decide) (by decide)), trivial⟩, ⟨by rw [ht]; exact hP, va_K.moved hW.alike hK⟩⟩, hS.F ht⟩) hS.2.2 dX9_hasHeard_40
set_option maxHeartbeats 4000000 in
set_option maxRecDepth 100000 in
theorem x_reaches (l : Launch) (dC : Nat → ClassId) (dI : Nat → Nat → Nat) (sz : Nat) (ob ad : Nat → Nat) (cA : Nat → ClassId) (hd : dX ob ad) (fv : Nat → Int32) (wd : xT) (ar : Nat → Nat → Int32) (hF_fv : rX fv) (hA_ar : rB ar) (pp : Int32) (a : Int32) (b : Int32) (kk : Int32) (h_pp : 0 ≤ pp.toInt ∧ pp.toInt ≤ 39) (h_kk : 0 ≤ kk.toInt ∧ kk.toInt ≤ 79) : Met l yX9_reaches (.code yX9_reaches cX9_reaches 6 (some .boolean) :: lw_good) ({ frames := 4, cells := 0, slots := 0, locals := 85 }) (va_Pc [.ref (ob 9), .int pp, .int a, .int b, .int kk] (prX dC dI ob ad cA fv wd ar sz)) (va_Qi (fun (r : Int32) (u : xS) => rX u.1 ∧ rB u.2.2 ∧ fM [] fv u.1 ∧ fA [] ar u.2.2 ∧ u.2.1.2 = wd.2 ∧ (0 ≤ r.toInt ∧ r.toInt ≤ 1) ∧ True) (enX dC dI ob ad cA) (aX ob ad sz)) 0 0 (aX ob ad sz) := by
  refine Met.ofW (cc := cX9_reaches) (maxL := 6) (ret := (some .boolean)) (by decide) rfl ?_
  intro p e s m args below meth c s₁ B hml hv
  obtain ⟨rfl, hsz, hP, hK⟩ := hv
  have hx := B.exec
  have hb := B.bytes
  have hr := B.returns
  have hts := atoms_spec (ws := (.code yX9_reaches cX9_reaches 6 (some .boolean) :: lw_good)) B.pre
  have htg : ∀ w ∈ lw_good, w.before _ s = true := fun w hw => hts w (List.mem_cons_of_mem _ hw)
  have hown : s.vm.findClass RX9 = some m.cls := findClass_of_methodNamed B.named
  have hlocks := B.notSynchronized
  subst hsz
  have hS : va_S (aX ob ad s.heap.size) s.heap s.heap [] := va_S.rf
  have hl := lv_entry ([.ref (ob 9), .int pp, .int a, .int b, .int kk]) (n := 6) (Nat.le_of_ble_eq_true rfl)
  rw [lg_entry_eq]
  generalize (lg_sl ([.ref (ob 9), .int pp, .int a, .int b, .int kk]) ++ List.replicate (6 - (lg_sl ([.ref (ob 9), .int pp, .int a, .int b, .int kk])).length) Slot.unset).toArray = ls at hl ⊢
  have hl : lv_has ls 6 [(0, .ref (ob 9)), (1, .int pp), (2, .int a), (3, .int b), (4, .int kk)] := hl
  refine lv_aload_n hx hb dX9_reaches_0 rfl (lv_at hl 0 rfl) ?_
  refine lv_iload_n hx hb dX9_reaches_1 rfl (lv_at hl 1 rfl) ?_
  refine lv_iload_n hx hb dX9_reaches_2 rfl (lv_at hl 2 rfl) ?_
  refine lv_aload_n hx hb dX9_reaches_3 rfl (lv_at hl 0 rfl) ?_
  refine gX_X9_9 hx hb htg hown hK hP dX9_reaches_4 ?_
  refine gX_X9_131 hx hb htg hown hK hP dX9_reaches_7 ?_
  refine lv_aload_n hx hb dX9_reaches_10 rfl (lv_at hl 0 rfl) ?_
  refine gX_X9_9 hx hb htg hown hK hP dX9_reaches_11 ?_
  refine gX_X9_54 hx hb htg hown hK hP dX9_reaches_14 ?_
  refine gX_X9_81 hx hb htg hown hK hP dX9_reaches_17 ?_
  refine lv_iload hx hb dX9_reaches_20 (lv_at hl 4 rfl) ?_
  refine lX_29 hx hb hK hP (iv_in h_kk (by decide) (by decide)) dX9_reaches_22 (fun v_1 ev_1 => ?_)
  have i_2 : 0 ≤ v_1.toInt ∧ v_1.toInt ≤ 7 := ev_1 ▸ hA_ar 29 _
  refine lX_2 hx hb hK hP (iv_in i_2 (by decide) (by decide)) dX9_reaches_23 (fun v_3 ev_3 => ?_)
  have i_4 : 0 ≤ v_3.toInt ∧ v_3.toInt ≤ 11 := ev_3 ▸ hA_ar 2 _
  refine va_calli (va_runV (As := [.int pp, .int a, .int v_3]) (rest := []) ⟨hx, hb, hml, hown, hts⟩ (x_walkMinutes l dC dI s.heap.size ob ad cA hd fv wd ar hF_fv hA_ar pp a v_3 h_pp) (cwV 3 hts (gV kw_5_134 kw_5_135 kw_5_136 kw_1_13 kw_5_137) rfl rfl rfl (by decide +kernel) ⟨Nat.le_of_ble_eq_true rfl, Nat.le_of_ble_eq_true rfl⟩) ⟨fun a U g mk q => ⟨q.1, q.2.1, q.2.2.1, va_K.moved (u := U) (U := U.calling g mk a) (Vm.Alike.refl U.vm) q.2.2.2⟩, va_recv hK hP (ci := 9) (q0 := 9) rfl rfl, fun U hU hW => ⟨rfl, by rw [hU], by rw [hU]; exact hP, va_K.moved hW.alike hK⟩⟩ rfl rfl hl.1 rfl (lv_room (Nat.le_of_ble_eq_true rfl)) dX9_reaches_24 ⟨Nat.le_of_ble_eq_true rfl, Nat.le_of_ble_eq_true rfl⟩) hS (fun q _ h9 => aX_up hS q h9) (aX_up hS) (fun r_5 u t H1 locs ht _ hw hB _ hk1 hS => ?_)
  obtain ⟨fv_6, wd_7, ar_8⟩ := u
  obtain ⟨hF_fv_6, hA_ar_8, fr_9, fa_10, wf_11, -⟩ := hw
  have wf_11 : wd_7.2 = wd.2 := wf_11
  have hP : va_P (dC, dI) vwCl (wsX ob ad cA fv_6 wd_7 ar_8) H1 := by have h9 := hB.1; rw [ht] at h9; exact h9
  have fr_9 : fM [] fv fv_6 := fr_9
  have fa_10 : fA [] ar ar_8 := fa_10
  generalize H1 = H at hP hS ⊢
  refine lv_istore (lv' := [(5, .int r_5), (0, .ref (ob 9)), (1, .int pp), (2, .int a), (3, .int b), (4, .int kk)]) hx hb dX9_reaches_27 hl (by decide) rfl (fun ls hl => ?_)
  refine lv_aload_n hx hb dX9_reaches_29 rfl (lv_at hl 1 rfl) ?_
  refine lv_iload_n hx hb dX9_reaches_30 rfl (lv_at hl 2 rfl) ?_
  refine lv_iload hx hb dX9_reaches_31 (lv_at hl 5 rfl) ?_
  refine va_calli (va_runV (As := [.int pp, .int kk]) (rest := []) ⟨hx, hb, hml, hown, hts⟩ (x_hasHeard l dC dI H.size ob ad cA hd fv_6 wd_7 ar_8 hF_fv_6 hA_ar_8 pp kk h_pp h_kk) (cwV 2 hts (gV kw_5_141 kw_5_143 kw_p_31 kw_1_13 kw_5_144) rfl rfl rfl (by decide +kernel) ⟨Nat.le_of_ble_eq_true rfl, Nat.le_of_ble_eq_true rfl⟩) ⟨fun a U g mk q => ⟨q.1, q.2.1, q.2.2.1, va_K.moved (u := U) (U := U.calling g mk a) (Vm.Alike.refl U.vm) q.2.2.2⟩, va_recv hK hP (ci := 9) (q0 := 9) rfl rfl, fun U hU hW => ⟨rfl, by rw [hU], by rw [hU]; exact hP, va_K.moved hW.alike hK⟩⟩ rfl rfl hl.1 rfl (lv_room (Nat.le_of_ble_eq_true rfl)) dX9_reaches_33 ⟨Nat.le_of_ble_eq_true rfl, Nat.le_of_ble_eq_true rfl⟩) hS (fun q _ h9 => aX_up hS q h9) (aX_up hS) (fun r_12 u t H1 locs ht _ hw hB _ hk1 hS => ?_)
  obtain ⟨fv_14, wd_15, ar_16⟩ := u
  obtain ⟨hF_fv_14, hA_ar_16, fr_17, fa_18, wf_19, p_13, -⟩ := hw
  have wf_19 : wd_15.2 = wd_7.2 := wf_19
  have hP : va_P (dC, dI) vwCl (wsX ob ad cA fv_14 wd_15 ar_16) H1 := by have h9 := hB.1; rw [ht] at h9; exact h9
  have fr_17 : fM [] fv_6 fv_14 := fr_17
  have fa_18 : fA [] ar_8 ar_16 := fa_18
  generalize H1 = H at hP hS ⊢
  refine lv_if_eq (tgt := 63) hx hb dX9_reaches_36 (by decide) (fun c_20 => ?_) (fun c_20 => ?_)
  · skip
    have i_21 : 0 ≤ r_12.toInt ∧ r_12.toInt ≤ 0 := iv_eq1 (⟨by decide, by decide⟩ : (0 : Int) ≤ (0 : Int32).toInt ∧ (0 : Int32).toInt ≤ 0) c_20
    refine lv_iconst (v := 0) hx hb dX9_reaches_63 (by decide) ?_
    exact W.zret (v := 0) hx hb hr (by decide) (fun t ht hW => ⟨⟨0, (fv_14, wd_15, ar_16), rfl, ⟨hF_fv_14, hA_ar_16, (fM_call (fM_call (fM_rf [] _) fr_9 (by decide)) fr_17 (by decide)), (fA_call (fA_call (fA_rf [] _) fa_10 (by decide)) fa_18 (by decide)), (wf_19.trans wf_11), (iv_w (⟨by decide, by decide⟩ : (0 : Int) ≤ (0 : Int32).toInt ∧ (0 : Int32).toInt ≤ 0) (by decide) (by decide)), trivial⟩, ⟨by rw [ht]; exact hP, va_K.moved hW.alike hK⟩⟩, hS.F ht⟩) hS.2.2 dX9_reaches_64
  · skip
    have i_22 : 1 ≤ r_12.toInt ∧ r_12.toInt ≤ 1 := iv_nel p_13 (by decide) c_20
    refine lv_iload_n hx hb dX9_reaches_39 rfl (lv_at hl 4 rfl) ?_
    refine lv_iload hx hb dX9_reaches_40 (lv_at hl 0 rfl) ?_
    refine lv_iadd hx hb dX9_reaches_42 ?_
    refine lv_topi (fun v_23 ev_23 => ?_)
    refine lv_aload_n hx hb dX9_reaches_43 rfl (lv_at hl 1 rfl) ?_
    refine gX_X9_9 hx hb htg hown hK hP dX9_reaches_44 ?_
    refine gX_X9_54 hx hb htg hown hK hP dX9_reaches_47 ?_
    refine gX_X9_74 hx hb htg hown hK hP dX9_reaches_50 ?_
    refine lv_iload hx hb dX9_reaches_53 (lv_at hl 5 rfl) ?_
    refine lX_31 hx hb hK hP (iv_in h_kk (by decide) (by decide)) dX9_reaches_55 (fun v_24 ev_24 => ?_)
    refine lv_icmp_gt (tgt := 63) hx hb dX9_reaches_56 (by decide) (fun c_25 => ?_) (fun c_25 => ?_)
    · skip
      have i_26 : (-2147483648) ≤ v_24.toInt ∧ v_24.toInt ≤ 2147483646 := iv_lt1 (iv_any v_24) (iv_any v_23) c_25
      have i_27 : (-2147483647) ≤ v_23.toInt ∧ v_23.toInt ≤ 2147483647 := iv_lt2 (iv_any v_24) (iv_any v_23) c_25
      refine lv_iconst (v := 0) hx hb dX9_reaches_63 (by decide) ?_
      exact W.zret (v := 0) hx hb hr (by decide) (fun t ht hW => ⟨⟨0, (fv_14, wd_15, ar_16), rfl, ⟨hF_fv_14, hA_ar_16, (fM_call (fM_call (fM_rf [] _) fr_9 (by decide)) fr_17 (by decide)), (fA_call (fA_call (fA_rf [] _) fa_10 (by decide)) fa_18 (by decide)), (wf_19.trans wf_11), (iv_w (⟨by decide, by decide⟩ : (0 : Int) ≤ (0 : Int32).toInt ∧ (0 : Int32).toInt ≤ 0) (by decide) (by decide)), trivial⟩, ⟨by rw [ht]; exact hP, va_K.moved hW.alike hK⟩⟩, hS.F ht⟩) hS.2.2 dX9_reaches_64
    · skip
      refine lv_iconst (v := 1) hx hb dX9_reaches_59 (by decide) ?_
      refine lv_goto (tgt := 64) hx hb dX9_reaches_60 (by decide) ?_
      exact W.zret (v := 1) hx hb hr (by decide) (fun t ht hW => ⟨⟨1, (fv_14, wd_15, ar_16), rfl, ⟨hF_fv_14, hA_ar_16, (fM_call (fM_call (fM_rf [] _) fr_9 (by decide)) fr_17 (by decide)), (fA_call (fA_call (fA_rf [] _) fa_10 (by decide)) fa_18 (by decide)), (wf_19.trans wf_11), (iv_w (⟨by decide, by decide⟩ : (1 : Int) ≤ (1 : Int32).toInt ∧ (1 : Int32).toInt ≤ 1) (by decide) (by decide)), trivial⟩, ⟨by rw [ht]; exact hP, va_K.moved hW.alike hK⟩⟩, hS.F ht⟩) hS.2.2 dX9_reaches_64
set_option maxHeartbeats 4000000 in
set_option maxRecDepth 100000 in
theorem x_weigh (l : Launch) (dC : Nat → ClassId) (dI : Nat → Nat → Nat) (sz : Nat) (ob ad : Nat → Nat) (cA : Nat → ClassId) (hd : dX ob ad) (fv : Nat → Int32) (wd : xT) (ar : Nat → Nat → Int32) (hF_fv : rX fv) (hA_ar : rB ar) (pp : Int32) (h_pp : 0 ≤ pp.toInt ∧ pp.toInt ≤ 39) : Met l yX9_weigh (.code yX9_weigh cX9_weigh 6 none :: lw_good) ({ frames := 4, cells := 0, slots := 0, locals := 85 }) (va_Pc [.ref (ob 9), .int pp] (prX dC dI ob ad cA fv wd ar sz)) (va_Qv (fun (u : xS) => rX u.1 ∧ rB u.2.2 ∧ fM [] fv u.1 ∧ fA [62, 63] ar u.2.2 ∧ u.2.1.2 = wd.2 ∧ True) (enX dC dI ob ad cA) (aX ob ad sz)) 0 0 (aX ob ad sz) := by
  refine Met.ofW (cc := cX9_weigh) (maxL := 6) (ret := none) (by decide) rfl ?_
  intro p e s m args below meth c s₁ B hml hv
  obtain ⟨rfl, hsz, hP, hK⟩ := hv
  have hx := B.exec
  have hb := B.bytes
  have hr := B.returns
  have hts := atoms_spec (ws := (.code yX9_weigh cX9_weigh 6 none :: lw_good)) B.pre
  have htg : ∀ w ∈ lw_good, w.before _ s = true := fun w hw => hts w (List.mem_cons_of_mem _ hw)
  have hown : s.vm.findClass RX9 = some m.cls := findClass_of_methodNamed B.named
  have hlocks := B.notSynchronized
  subst hsz
  have hS : va_S (aX ob ad s.heap.size) s.heap s.heap [] := va_S.rf
  have hl := lv_entry ([.ref (ob 9), .int pp]) (n := 6) (Nat.le_of_ble_eq_true rfl)
  rw [lg_entry_eq]
  generalize (lg_sl ([.ref (ob 9), .int pp]) ++ List.replicate (6 - (lg_sl ([.ref (ob 9), .int pp])).length) Slot.unset).toArray = ls at hl ⊢
  have hl : lv_has ls 6 [(0, .ref (ob 9)), (1, .int pp)] := hl
  refine lv_iconst (v := 0) hx hb dX9_weigh_0 (by decide) ?_
  refine lv_istore_n (lv' := [(2, .int 0), (0, .ref (ob 9)), (1, .int pp)]) hx hb dX9_weigh_1 rfl hl (by decide) rfl (fun ls hl => ?_)
  refine my_cut (P := fun R9 a9 Q9 => ∀ (n_8 : Nat) (x_1 : Int32) (fv_2 : Nat → Int32) (ar_4 : Nat → Nat → Int32) (wd_6 : xT) (H : Heap) (locs : List Loc) (ls : Array Slot), 80 - x_1.toInt < (n_8 : Int) → (0 ≤ x_1.toInt ∧ x_1.toInt ≤ 80) → rX fv_2 → fM [] fv fv_2 → rB ar_4 → fA [62, 63] ar ar_4 → wd_6.2 = wd.2 → va_P (dC, dI) vwCl (wsX ob ad cA fv_2 wd_6 ar_4) H → va_S (aX ob ad s.heap.size) s.heap H locs → lv_has ls 6 [(0, .ref (ob 9)), (1, .int pp), (2, .int x_1)] → W p l e R9 s m a9 below meth c H locs 0 0 Q9 (F0 m 2 ls [])) ?_ (fun hj_10 => ?_)
  · intro n_8
    induction n_8 with
    | zero => intro x_1 fv_2 ar_4 wd_6 H locs ls fu_9 i_x_1 hF_fv_2 fr_3 hA_ar_4 fa_5 wf_7; exfalso; omega
    | succ n_8 ih_8 =>
      intro x_1 fv_2 ar_4 wd_6 H locs ls fu_9 i_x_1 hF_fv_2 fr_3 hA_ar_4 fa_5 wf_7 hP hS hl
      refine lv_iload_n hx hb dX9_weigh_2 rfl (lv_at hl 2 rfl) ?_
      refine lv_aload_n hx hb dX9_weigh_3 rfl (lv_at hl 0 rfl) ?_
      refine gX_X9_51 hx hb htg hown hK hP dX9_weigh_4 ?_
      refine my_ti (y := fv 24) ((fr_3 24 rfl)) ?_
      have i_11 : 0 ≤ (fv 24).toInt ∧ (fv 24).toInt ≤ 80 := hF_fv 24
      refine lv_icmp_ge (tgt := 177) hx hb dX9_weigh_7 (by decide) (fun c_12 => ?_) (fun c_12 => ?_)
      · skip
        exact W.vret hx hb hr (fun t ht hW => ⟨⟨(fv_2, wd_6, ar_4), rfl, ⟨hF_fv_2, hA_ar_4, (fM_call (fM_rf [] _) fr_3 (by decide)), (fA_call (fA_rf [62, 63] _) fa_5 (by decide)), wf_7, trivial⟩, ⟨by rw [ht]; exact hP, va_K.moved hW.alike hK⟩⟩, hS.F ht⟩) hS.2.2 dX9_weigh_177
      · skip
        have i_13 : 0 ≤ x_1.toInt ∧ x_1.toInt ≤ 79 := iv_lt1 i_x_1 i_11 (Int32.not_le.mp c_12)
        have i_14 : 1 ≤ (fv 24).toInt ∧ (fv 24).toInt ≤ 80 := iv_lt2 i_x_1 i_11 (Int32.not_le.mp c_12)
        refine lv_aload_n hx hb dX9_weigh_10 rfl (lv_at hl 0 rfl) ?_
        refine gX_X9_9 hx hb htg hown hK hP dX9_weigh_11 ?_
        refine gX_X9_131 hx hb htg hown hK hP dX9_weigh_14 ?_
        refine lv_aload_n hx hb dX9_weigh_17 rfl (lv_at hl 0 rfl) ?_
        refine gX_X9_9 hx hb htg hown hK hP dX9_weigh_18 ?_
        refine gX_X9_54 hx hb htg hown hK hP dX9_weigh_21 ?_
        refine gX_X9_88 hx hb htg hown hK hP dX9_weigh_24 ?_
        refine lv_aload_n hx hb dX9_weigh_27 rfl (lv_at hl 0 rfl) ?_
        refine gX_X9_17 hx hb htg hown hK hP dX9_weigh_28 ?_
        refine lv_iload_n hx hb dX9_weigh_31 rfl (lv_at hl 2 rfl) ?_
        refine lX_58 hx hb hK hP (iv_in i_13 (by decide) (by decide)) dX9_weigh_32 (fun v_15 ev_15 => ?_)
        have i_16 : 0 ≤ v_15.toInt ∧ v_15.toInt ≤ 79 := ev_15 ▸ hA_ar_4 58 _
        refine lX_30 hx hb hK hP (iv_in i_16 (by decide) (by decide)) dX9_weigh_33 (fun v_17 ev_17 => ?_)
        have i_18 : 0 ≤ v_17.toInt ∧ v_17.toInt ≤ 7 := ev_17 ▸ hA_ar_4 30 _
        refine lX_2 hx hb hK hP (iv_in i_18 (by decide) (by decide)) dX9_weigh_34 (fun v_19 ev_19 => ?_)
        have i_20 : 0 ≤ v_19.toInt ∧ v_19.toInt ≤ 11 := ev_19 ▸ hA_ar_4 2 _
        refine lv_istore_n (lv' := [(3, .int v_19), (0, .ref (ob 9)), (1, .int pp), (2, .int x_1)]) hx hb dX9_weigh_35 rfl hl (by decide) rfl (fun ls hl => ?_)
        refine lv_aload_n hx hb dX9_weigh_36 rfl (lv_at hl 1 rfl) ?_
        refine gX_X9_21 hx hb htg hown hK hP dX9_weigh_37 ?_
        refine lv_iload_n hx hb dX9_weigh_40 rfl (lv_at hl 3 rfl) ?_
        refine lX_59 hx hb hK hP (iv_in i_13 (by decide) (by decide)) dX9_weigh_41 (fun v_21 ev_21 => ?_)
        refine lv_aload_n hx hb dX9_weigh_42 rfl (lv_at hl 1 rfl) ?_
        refine lv_iload_n hx hb dX9_weigh_43 rfl (lv_at hl 2 rfl) ?_
        refine lv_iload_n hx hb dX9_weigh_44 rfl (lv_at hl 0 rfl) ?_
        refine lv_aload_n hx hb dX9_weigh_45 rfl (lv_at hl 1 rfl) ?_
        refine gX_X9_9 hx hb htg hown hK hP dX9_weigh_46 ?_
        refine gX_X9_91 hx hb htg hown hK hP dX9_weigh_49 ?_
        refine gX_X9_116 hx hb htg hown hK hP dX9_weigh_52 ?_
        refine lv_iload_n hx hb dX9_weigh_55 rfl (lv_at hl 2 rfl) ?_
        refine lX_7 hx hb hK hP (iv_in h_pp (by decide) (by decide)) dX9_weigh_56 (fun v_22 ev_22 => ?_)
        have i_23 : 0 ≤ v_22.toInt ∧ v_22.toInt ≤ 11 := ev_22 ▸ hA_ar_4 7 _
        refine va_calli (va_runV (As := [.int pp, .int v_19, .int v_22]) (rest := [.int v_21]) ⟨hx, hb, hml, hown, hts⟩ (x_walkMinutes l dC dI H.size ob ad cA hd fv_2 wd_6 ar_4 hF_fv_2 hA_ar_4 pp v_19 v_22 h_pp) (cwV 3 hts (gV kw_5_134 kw_5_135 kw_5_136 kw_1_13 kw_5_137) rfl rfl rfl (by decide +kernel) ⟨Nat.le_of_ble_eq_true rfl, Nat.le_of_ble_eq_true rfl⟩) ⟨fun a U g mk q => ⟨q.1, q.2.1, q.2.2.1, va_K.moved (u := U) (U := U.calling g mk a) (Vm.Alike.refl U.vm) q.2.2.2⟩, va_recv hK hP (ci := 9) (q0 := 9) rfl rfl, fun U hU hW => ⟨rfl, by rw [hU], by rw [hU]; exact hP, va_K.moved hW.alike hK⟩⟩ rfl rfl hl.1 rfl (lv_room (Nat.le_of_ble_eq_true rfl)) dX9_weigh_57 ⟨Nat.le_of_ble_eq_true rfl, Nat.le_of_ble_eq_true rfl⟩) hS (fun q _ h9 => aX_up hS q h9) (aX_up hS) (fun r_24 u t H1 locs ht _ hw hB _ hk1 hS => ?_)
        obtain ⟨fv_25, wd_26, ar_27⟩ := u
        obtain ⟨hF_fv_25, hA_ar_27, fr_28, fa_29, wf_30, -⟩ := hw
        have wf_30 : wd_26.2 = wd_6.2 := wf_30
        have hP : va_P (dC, dI) vwCl (wsX ob ad cA fv_25 wd_26 ar_27) H1 := by have h9 := hB.1; rw [ht] at h9; exact h9
        have fr_28 : fM [] fv_2 fv_25 := fr_28
        have fa_29 : fA [] ar_4 ar_27 := fa_29
        generalize H1 = H at hP hS ⊢
        refine lv_iadd hx hb dX9_weigh_60 ?_
        refine lv_topi (fun v_31 ev_31 => ?_)
        refine lv_istore (lv' := [(4, .int v_31), (3, .int v_19), (0, .ref (ob 9)), (1, .int pp), (2, .int x_1)]) hx hb dX9_weigh_61 hl (by decide) rfl (fun ls hl => ?_)
        refine lv_aload_n hx hb dX9_weigh_63 rfl (lv_at hl 2 rfl) ?_
        refine gX_X9_27 hx hb htg hown hK hP dX9_weigh_64 ?_
        refine lv_iload_n hx hb dX9_weigh_67 rfl (lv_at hl 4 rfl) ?_
        refine lX_61 hx hb hK hP (iv_in i_13 (by decide) (by decide)) dX9_weigh_68 (fun v_32 ev_32 => ?_)
        have i_33 : (-1) ≤ v_32.toInt ∧ v_32.toInt ≤ 79 := ev_32 ▸ hA_ar_27 61 _
        refine lv_iconst (v := (-1)) hx hb dX9_weigh_69 (by decide) ?_
        refine my_cut (P := fun R9 a9 Q9 => ∀ (x_39 : Int32) (H : Heap) (locs : List Loc) (ls : Array Slot), va_P (dC, dI) vwCl (wsX ob ad cA fv_25 wd_26 ar_27) H → va_S (aX ob ad s.heap.size) s.heap H locs → lv_has ls 6 [(0, .ref (ob 9)), (1, .int pp), (2, .int x_1), (4, .int v_31)] → W p l e R9 s m a9 below meth c H locs 0 0 Q9 (F0 m 89 ls [.int x_39])) ?_ (fun hj_40 => ?_)
        · intro x_39 H locs ls  hP hS hl
          refine lv_istore (lv' := [(5, .int x_39), (0, .ref (ob 9)), (1, .int pp), (2, .int x_1), (4, .int v_31)]) hx hb dX9_weigh_89 hl (by decide) rfl (fun ls hl => ?_)
          refine lv_aload_n hx hb dX9_weigh_91 rfl (lv_at hl 1 rfl) ?_
          refine gX_X9_30 hx hb htg hown hK hP dX9_weigh_92 ?_
          refine lv_iload_n hx hb dX9_weigh_95 rfl (lv_at hl 3 rfl) ?_
          refine lv_iload hx hb dX9_weigh_96 (lv_at hl 4 rfl) ?_
          refine lv_iload hx hb dX9_weigh_98 (lv_at hl 0 rfl) ?_
          refine va_mmin hx hb (hml.trans hl.1.symm) hown (htg (.methodLink RX9 122 Lib.Math.min.name) kw_5_140) (htg (.static Lib.Math.min.name) kw_3_151) (htg (.initialized RJ9) kw_1_16) (htg (.code Lib.Math.min.name Lib.Math.min.code 2 (some .int)) kw_3_152) (Nat.le_of_ble_eq_true rfl) (Nat.le_of_ble_eq_true rfl) (Nat.le_of_ble_eq_true rfl) (Nat.le_of_ble_eq_true rfl) dX9_weigh_100 ?_
          refine lv_topi (fun v_41 ev_41 => ?_)
          refine sX_62 hx hb hK hP hS hd (iv_in i_13 (by decide) (by decide)) dX9_weigh_103 (fun H locs ar_42 ear_42 hP hS => ?_)
          have hA_ar_42 : rB ar_42 := rB_put hA_ar_27 ear_42 (iv_any _)
          refine lv_aload_n hx hb dX9_weigh_104 rfl (lv_at hl 1 rfl) ?_
          refine gX_X9_33 hx hb htg hown hK hP dX9_weigh_105 ?_
          refine lv_iload_n hx hb dX9_weigh_108 rfl (lv_at hl 3 rfl) ?_
          refine lv_aload_n hx hb dX9_weigh_109 rfl (lv_at hl 1 rfl) ?_
          refine gX_X9_24 hx hb htg hown hK hP dX9_weigh_110 ?_
          refine lv_iload_n hx hb dX9_weigh_113 rfl (lv_at hl 3 rfl) ?_
          refine lX_60 hx hb hK hP (iv_in i_13 (by decide) (by decide)) dX9_weigh_114 (fun v_43 ev_43 => ?_)
          have i_44 : (-1) ≤ v_43.toInt ∧ v_43.toInt ≤ 79 := ev_43 ▸ hA_ar_42 60 _
          refine lv_iconst (v := (-1)) hx hb dX9_weigh_115 (by decide) ?_
          refine my_cut (P := fun R9 a9 Q9 => ∀ (x_50 : Int32) (H : Heap) (locs : List Loc) (ls : Array Slot), va_P (dC, dI) vwCl (wsX ob ad cA fv_25 wd_26 ar_42) H → va_S (aX ob ad s.heap.size) s.heap H locs → lv_has ls 6 [(0, .ref (ob 9)), (1, .int pp), (2, .int x_1)] → W p l e R9 s m a9 below meth c H locs 0 0 Q9 (F0 m 135 ls [.int x_50, .int x_1, .ref (ad 63)])) ?_ (fun hj_51 => ?_)
          · intro x_50 H locs ls  hP hS hl
            refine sX_63 hx hb hK hP hS hd (iv_in i_13 (by decide) (by decide)) dX9_weigh_135 (fun H locs ar_52 ear_52 hP hS => ?_)
            have hA_ar_52 : rB ar_52 := rB_put hA_ar_42 ear_52 (iv_any _)
            refine lv_aload_n hx hb dX9_weigh_136 rfl (lv_at hl 0 rfl) ?_
            refine lv_iload_n hx hb dX9_weigh_137 rfl (lv_at hl 1 rfl) ?_
            refine lv_aload_n hx hb dX9_weigh_138 rfl (lv_at hl 0 rfl) ?_
            refine gX_X9_17 hx hb htg hown hK hP dX9_weigh_139 ?_
            refine lv_iload_n hx hb dX9_weigh_142 rfl (lv_at hl 2 rfl) ?_
            refine lX_58 hx hb hK hP (iv_in i_13 (by decide) (by decide)) dX9_weigh_143 (fun v_53 ev_53 => ?_)
            obtain rfl : v_15 = v_53 := ev_15.trans ((congrFun ((fA_put (fA_put (fA_call (fA_rf [62, 63] _) fa_29 (by decide)) ear_42 (by decide)) ear_52 (by decide)) 58 rfl) _).symm.trans ev_53.symm)
            refine va_calli (va_runV (As := [.int pp, .int v_15]) (rest := []) ⟨hx, hb, hml, hown, hts⟩ (x_hasHeard l dC dI H.size ob ad cA hd fv_25 wd_26 ar_52 hF_fv_25 hA_ar_52 pp v_15 h_pp i_16) (cwV 2 hts (gV kw_5_141 kw_5_143 kw_p_31 kw_1_13 kw_5_144) rfl rfl rfl (by decide +kernel) ⟨Nat.le_of_ble_eq_true rfl, Nat.le_of_ble_eq_true rfl⟩) ⟨fun a U g mk q => ⟨q.1, q.2.1, q.2.2.1, va_K.moved (u := U) (U := U.calling g mk a) (Vm.Alike.refl U.vm) q.2.2.2⟩, va_recv hK hP (ci := 9) (q0 := 9) rfl rfl, fun U hU hW => ⟨rfl, by rw [hU], by rw [hU]; exact hP, va_K.moved hW.alike hK⟩⟩ rfl rfl hl.1 rfl (lv_room (Nat.le_of_ble_eq_true rfl)) dX9_weigh_144 ⟨Nat.le_of_ble_eq_true rfl, Nat.le_of_ble_eq_true rfl⟩) hS (fun q _ h9 => aX_up hS q h9) (aX_up hS) (fun r_54 u t H1 locs ht _ hw hB _ hk1 hS => ?_)
            obtain ⟨fv_56, wd_57, ar_58⟩ := u
            obtain ⟨hF_fv_56, hA_ar_58, fr_59, fa_60, wf_61, p_55, -⟩ := hw
            have wf_61 : wd_57.2 = wd_26.2 := wf_61
            have hP : va_P (dC, dI) vwCl (wsX ob ad cA fv_56 wd_57 ar_58) H1 := by have h9 := hB.1; rw [ht] at h9; exact h9
            have fr_59 : fM [] fv_25 fv_56 := fr_59
            have fa_60 : fA [] ar_52 ar_58 := fa_60
            generalize H1 = H at hP hS ⊢
            refine my_cut (P := fun R9 a9 Q9 => ∀ (ar_69 : Nat → Nat → Int32) (H : Heap) (locs : List Loc) (ls : Array Slot), rB ar_69 → fA [63] ar_58 ar_69 → va_P (dC, dI) vwCl (wsX ob ad cA fv_56 wd_57 ar_69) H → va_S (aX ob ad s.heap.size) s.heap H locs → lv_has ls 6 [(0, .ref (ob 9)), (1, .int pp), (2, .int x_1)] → W p l e R9 s m a9 below meth c H locs 0 0 Q9 (F0 m 171 ls [])) ?_ (fun hj_71 => ?_)
            · intro ar_69 H locs ls hA_ar_69 fa_70 hP hS hl
              obtain ⟨v_72, ev_72⟩ : ∃ z : Int32, z = x_1 + 1 := ⟨_, rfl⟩
              refine lv_iinc (v := v_72) (lv' := [(2, .int v_72), (0, .ref (ob 9)), (1, .int pp)]) hx hb dX9_weigh_171 hl (k := 2) rfl (by rw [ev_72]; rfl) (by decide) rfl (fun ls hl => ?_)
              have t_73 : v_72.toInt = x_1.toInt + 1 ∧ 1 ≤ v_72.toInt ∧ v_72.toInt ≤ 80 := iv_addc ev_72 i_13 (by decide) (by decide) (by decide)
              refine lv_goto (tgt := 2) hx hb dX9_weigh_174 (by decide) ?_
              exact ih_8 v_72 fv_56 ar_69 wd_57 _ _ ls (by omega) (iv_w t_73.2 (by decide) (by decide)) hF_fv_56 (fM_call (fM_call (fM_call (fM_rf [] _) fr_3 (by decide)) fr_28 (by decide)) fr_59 (by decide)) hA_ar_69 (fA_call (fA_call (fA_put (fA_put (fA_call (fA_call (fA_rf [62, 63] _) fa_5 (by decide)) fa_29 (by decide)) ear_42 (by decide)) ear_52 (by decide)) fa_60 (by decide)) fa_70 (by decide)) (wf_61.trans (wf_30.trans wf_7)) hP hS (lv_sub hl [1, 2, 0] rfl)
            · skip
              refine lv_if_eq (tgt := 171) hx hb dX9_weigh_147 (by decide) (fun c_62 => ?_) (fun c_62 => ?_)
              · skip
                have i_63 : 0 ≤ r_54.toInt ∧ r_54.toInt ≤ 0 := iv_eq1 (⟨by decide, by decide⟩ : (0 : Int) ≤ (0 : Int32).toInt ∧ (0 : Int32).toInt ≤ 0) c_62
                exact hj_71 ar_58 _ _ ls hA_ar_58 (fA_rf [63] _) hP hS (lv_sub hl [0, 1, 2] rfl)
              · skip
                have i_64 : 1 ≤ r_54.toInt ∧ r_54.toInt ≤ 1 := iv_nel p_55 (by decide) c_62
                refine lv_aload_n hx hb dX9_weigh_150 rfl (lv_at hl 0 rfl) ?_
                refine gX_X9_33 hx hb htg hown hK hP dX9_weigh_151 ?_
                refine lv_iload_n hx hb dX9_weigh_154 rfl (lv_at hl 2 rfl) ?_
                refine lv_aload_n hx hb dX9_weigh_155 rfl (lv_at hl 0 rfl) ?_
                refine gX_X9_33 hx hb htg hown hK hP dX9_weigh_156 ?_
                refine lv_iload_n hx hb dX9_weigh_159 rfl (lv_at hl 2 rfl) ?_
                refine lX_63 hx hb hK hP (iv_in i_13 (by decide) (by decide)) dX9_weigh_160 (fun v_65 ev_65 => ?_)
                refine lv_aload_n hx hb dX9_weigh_161 rfl (lv_at hl 0 rfl) ?_
                refine gX_X9_30 hx hb htg hown hK hP dX9_weigh_162 ?_
                refine lv_iload_n hx hb dX9_weigh_165 rfl (lv_at hl 2 rfl) ?_
                refine lX_62 hx hb hK hP (iv_in i_13 (by decide) (by decide)) dX9_weigh_166 (fun v_66 ev_66 => ?_)
                refine va_mmin hx hb (hml.trans hl.1.symm) hown (htg (.methodLink RX9 122 Lib.Math.min.name) kw_5_140) (htg (.static Lib.Math.min.name) kw_3_151) (htg (.initialized RJ9) kw_1_16) (htg (.code Lib.Math.min.name Lib.Math.min.code 2 (some .int)) kw_3_152) (Nat.le_of_ble_eq_true rfl) (Nat.le_of_ble_eq_true rfl) (Nat.le_of_ble_eq_true rfl) (Nat.le_of_ble_eq_true rfl) dX9_weigh_167 ?_
                refine lv_topi (fun v_67 ev_67 => ?_)
                refine sX_63 hx hb hK hP hS hd (iv_in i_13 (by decide) (by decide)) dX9_weigh_170 (fun H locs ar_68 ear_68 hP hS => ?_)
                have hA_ar_68 : rB ar_68 := rB_put hA_ar_58 ear_68 (iv_any _)
                exact hj_71 ar_68 _ _ ls hA_ar_68 (fA_put (fA_rf [63] _) ear_68 (by decide)) hP hS (lv_sub hl [0, 1, 2] rfl)
          · skip
            refine lv_icmp_ne (tgt := 124) hx hb dX9_weigh_116 (by decide) (fun c_45 => ?_) (fun c_45 => ?_)
            · skip
              have i_46 : 0 ≤ v_43.toInt ∧ v_43.toInt ≤ 79 := iv_nel i_44 (by decide) c_45
              refine lv_aload_n hx hb dX9_weigh_124 rfl (lv_at hl 1 rfl) ?_
              refine gX_X9_33 hx hb htg hown hK hP dX9_weigh_125 ?_
              refine lv_aload_n hx hb dX9_weigh_128 rfl (lv_at hl 1 rfl) ?_
              refine gX_X9_24 hx hb htg hown hK hP dX9_weigh_129 ?_
              refine lv_iload_n hx hb dX9_weigh_132 rfl (lv_at hl 3 rfl) ?_
              refine lX_60 hx hb hK hP (iv_in i_13 (by decide) (by decide)) dX9_weigh_133 (fun v_47 ev_47 => ?_)
              obtain rfl : v_43 = v_47 := ev_43.trans ev_47.symm
              refine lX_63 hx hb hK hP (iv_in i_46 (by decide) (by decide)) dX9_weigh_134 (fun v_48 ev_48 => ?_)
              exact hj_51 v_48 _ _ ls  hP hS (lv_sub hl [1, 2, 3] rfl)
            · skip
              have i_49 : (-1) ≤ v_43.toInt ∧ v_43.toInt ≤ (-1) := iv_eq1 (⟨by decide, by decide⟩ : (-1 : Int) ≤ ((-1) : Int32).toInt ∧ ((-1) : Int32).toInt ≤ -1) c_45
              refine lv_ldc hx hb hown (htg (.constant RX9 69 10000000) kw_5_99) dX9_weigh_119 ?_
              refine lv_goto (tgt := 135) hx hb dX9_weigh_121 (by decide) ?_
              exact hj_51 10000000 _ _ ls  hP hS (lv_sub hl [1, 2, 3] rfl)
        · skip
          refine lv_icmp_ne (tgt := 78) hx hb dX9_weigh_70 (by decide) (fun c_34 => ?_) (fun c_34 => ?_)
          · skip
            have i_35 : 0 ≤ v_32.toInt ∧ v_32.toInt ≤ 79 := iv_nel i_33 (by decide) c_34
            refine lv_aload_n hx hb dX9_weigh_78 rfl (lv_at hl 2 rfl) ?_
            refine gX_X9_33 hx hb htg hown hK hP dX9_weigh_79 ?_
            refine lv_aload_n hx hb dX9_weigh_82 rfl (lv_at hl 2 rfl) ?_
            refine gX_X9_27 hx hb htg hown hK hP dX9_weigh_83 ?_
            refine lv_iload_n hx hb dX9_weigh_86 rfl (lv_at hl 4 rfl) ?_
            refine lX_61 hx hb hK hP (iv_in i_13 (by decide) (by decide)) dX9_weigh_87 (fun v_36 ev_36 => ?_)
            obtain rfl : v_32 = v_36 := ev_32.trans ev_36.symm
            refine lX_63 hx hb hK hP (iv_in i_35 (by decide) (by decide)) dX9_weigh_88 (fun v_37 ev_37 => ?_)
            exact hj_40 v_37 _ _ ls  hP hS (lv_sub hl [2, 3, 4, 0] rfl)
          · skip
            have i_38 : (-1) ≤ v_32.toInt ∧ v_32.toInt ≤ (-1) := iv_eq1 (⟨by decide, by decide⟩ : (-1 : Int) ≤ ((-1) : Int32).toInt ∧ ((-1) : Int32).toInt ≤ -1) c_34
            refine lv_ldc hx hb hown (htg (.constant RX9 69 10000000) kw_5_99) dX9_weigh_73 ?_
            refine lv_goto (tgt := 89) hx hb dX9_weigh_75 (by decide) ?_
            exact hj_40 10000000 _ _ ls  hP hS (lv_sub hl [2, 3, 4, 0] rfl)
  · skip
    have z_75 : (0 : Int32).toInt = 0 := by decide
    exact hj_10 81 0 fv ar wd _ _ ls (by first | decide | omega) (iv_w (⟨by decide, by decide⟩ : (0 : Int) ≤ (0 : Int32).toInt ∧ (0 : Int32).toInt ≤ 0) (by decide) (by decide)) hF_fv (fM_rf [] _) hA_ar (fA_rf [62, 63] _) rfl hP hS (lv_sub hl [1, 2, 0] rfl)
set_option maxHeartbeats 4000000 in
set_option maxRecDepth 100000 in
theorem x_firstTrip (l : Launch) (dC : Nat → ClassId) (dI : Nat → Nat → Nat) (sz : Nat) (ob ad : Nat → Nat) (cA : Nat → ClassId) (hd : dX ob ad) (fv : Nat → Int32) (wd : xT) (ar : Nat → Nat → Int32) (hF_fv : rX fv) (hA_ar : rB ar) (pp : Int32) (a : Int32) (b : Int32) (d : Int32) (h_pp : 0 ≤ pp.toInt ∧ pp.toInt ≤ 39) : Met l yX9_firstTrip (.code yX9_firstTrip cX9_firstTrip 10 (some .int) :: lw_good) ({ frames := 5, cells := 0, slots := 0, locals := 110 }) (va_Pc [.ref (ob 9), .int pp, .int a, .int b, .int d] (prX dC dI ob ad cA fv wd ar sz)) (va_Qi (fun (r : Int32) (u : xS) => rX u.1 ∧ rB u.2.2 ∧ fM [] fv u.1 ∧ fA [62, 63] ar u.2.2 ∧ u.2.1.2 = wd.2 ∧ ((-1) ≤ r.toInt ∧ r.toInt ≤ 79) ∧ True) (enX dC dI ob ad cA) (aX ob ad sz)) 0 0 (aX ob ad sz) := by
  refine Met.ofW (cc := cX9_firstTrip) (maxL := 10) (ret := (some .int)) (by decide) rfl ?_
  intro p e s m args below meth c s₁ B hml hv
  obtain ⟨rfl, hsz, hP, hK⟩ := hv
  have hx := B.exec
  have hb := B.bytes
  have hr := B.returns
  have hts := atoms_spec (ws := (.code yX9_firstTrip cX9_firstTrip 10 (some .int) :: lw_good)) B.pre
  have htg : ∀ w ∈ lw_good, w.before _ s = true := fun w hw => hts w (List.mem_cons_of_mem _ hw)
  have hown : s.vm.findClass RX9 = some m.cls := findClass_of_methodNamed B.named
  have hlocks := B.notSynchronized
  subst hsz
  have hS : va_S (aX ob ad s.heap.size) s.heap s.heap [] := va_S.rf
  have hl := lv_entry ([.ref (ob 9), .int pp, .int a, .int b, .int d]) (n := 10) (Nat.le_of_ble_eq_true rfl)
  rw [lg_entry_eq]
  generalize (lg_sl ([.ref (ob 9), .int pp, .int a, .int b, .int d]) ++ List.replicate (10 - (lg_sl ([.ref (ob 9), .int pp, .int a, .int b, .int d])).length) Slot.unset).toArray = ls at hl ⊢
  have hl : lv_has ls 10 [(0, .ref (ob 9)), (1, .int pp), (2, .int a), (3, .int b), (4, .int d)] := hl
  refine lv_aload_n hx hb dX9_firstTrip_0 rfl (lv_at hl 0 rfl) ?_
  refine lv_iload_n hx hb dX9_firstTrip_1 rfl (lv_at hl 1 rfl) ?_
  refine va_callv (va_runV (As := [.int pp]) (rest := []) ⟨hx, hb, hml, hown, hts⟩ (x_weigh l dC dI s.heap.size ob ad cA hd fv wd ar hF_fv hA_ar pp h_pp) (cwV 1 hts (gV kw_5_130 kw_5_132 kw_p_30 kw_1_13 kw_5_133) rfl rfl rfl (by decide +kernel) ⟨Nat.le_of_ble_eq_true rfl, Nat.le_of_ble_eq_true rfl⟩) ⟨fun a U g mk q => ⟨q.1, q.2.1, q.2.2.1, va_K.moved (u := U) (U := U.calling g mk a) (Vm.Alike.refl U.vm) q.2.2.2⟩, va_recv hK hP (ci := 9) (q0 := 9) rfl rfl, fun U hU hW => ⟨rfl, by rw [hU], by rw [hU]; exact hP, va_K.moved hW.alike hK⟩⟩ rfl rfl hl.1 rfl (lv_room (Nat.le_of_ble_eq_true rfl)) dX9_firstTrip_2 ⟨Nat.le_of_ble_eq_true rfl, Nat.le_of_ble_eq_true rfl⟩) hS (fun q _ h9 => aX_up hS q h9) (aX_up hS) (fun u t H1 locs ht _ hw hB _ hk1 hS => ?_)
  obtain ⟨fv_2, wd_3, ar_4⟩ := u
  obtain ⟨hF_fv_2, hA_ar_4, fr_5, fa_6, wf_7, -⟩ := hw
  have wf_7 : wd_3.2 = wd.2 := wf_7
  have hP : va_P (dC, dI) vwCl (wsX ob ad cA fv_2 wd_3 ar_4) H1 := by have h9 := hB.1; rw [ht] at h9; exact h9
  have fr_5 : fM [] fv fv_2 := fr_5
  have fa_6 : fA [62, 63] ar ar_4 := fa_6
  generalize H1 = H at hP hS ⊢
  refine lv_ldc hx hb hown (htg (.constant RX9 69 10000000) kw_5_99) dX9_firstTrip_5 ?_
  refine lv_iload_n hx hb dX9_firstTrip_7 rfl (lv_at hl 3 rfl) ?_
  refine lv_aload_n hx hb dX9_firstTrip_8 rfl (lv_at hl 0 rfl) ?_
  refine lv_iload_n hx hb dX9_firstTrip_9 rfl (lv_at hl 1 rfl) ?_
  refine lv_iload_n hx hb dX9_firstTrip_10 rfl (lv_at hl 2 rfl) ?_
  refine lv_aload_n hx hb dX9_firstTrip_11 rfl (lv_at hl 0 rfl) ?_
  refine gX_X9_9 hx hb htg hown hK hP dX9_firstTrip_12 ?_
  refine gX_X9_91 hx hb htg hown hK hP dX9_firstTrip_15 ?_
  refine gX_X9_116 hx hb htg hown hK hP dX9_firstTrip_18 ?_
  refine lv_iload_n hx hb dX9_firstTrip_21 rfl (lv_at hl 1 rfl) ?_
  refine lX_7 hx hb hK hP (iv_in h_pp (by decide) (by decide)) dX9_firstTrip_22 (fun v_8 ev_8 => ?_)
  have i_9 : 0 ≤ v_8.toInt ∧ v_8.toInt ≤ 11 := ev_8 ▸ hA_ar_4 7 _
  refine va_calli (va_runV (As := [.int pp, .int a, .int v_8]) (rest := [.int b, .int 10000000]) ⟨hx, hb, hml, hown, hts⟩ (x_walkMinutes l dC dI H.size ob ad cA hd fv_2 wd_3 ar_4 hF_fv_2 hA_ar_4 pp a v_8 h_pp) (cwV 3 hts (gV kw_5_134 kw_5_135 kw_5_136 kw_1_13 kw_5_137) rfl rfl rfl (by decide +kernel) ⟨Nat.le_of_ble_eq_true rfl, Nat.le_of_ble_eq_true rfl⟩) ⟨fun a U g mk q => ⟨q.1, q.2.1, q.2.2.1, va_K.moved (u := U) (U := U.calling g mk a) (Vm.Alike.refl U.vm) q.2.2.2⟩, va_recv hK hP (ci := 9) (q0 := 9) rfl rfl, fun U hU hW => ⟨rfl, by rw [hU], by rw [hU]; exact hP, va_K.moved hW.alike hK⟩⟩ rfl rfl hl.1 rfl (lv_room (Nat.le_of_ble_eq_true rfl)) dX9_firstTrip_23 ⟨Nat.le_of_ble_eq_true rfl, Nat.le_of_ble_eq_true rfl⟩) hS (fun q _ h9 => aX_up hS q h9) (aX_up hS) (fun r_10 u t H1 locs ht _ hw hB _ hk1 hS => ?_)
  obtain ⟨fv_11, wd_12, ar_13⟩ := u
  obtain ⟨hF_fv_11, hA_ar_13, fr_14, fa_15, wf_16, -⟩ := hw
  have wf_16 : wd_12.2 = wd_3.2 := wf_16
  have hP : va_P (dC, dI) vwCl (wsX ob ad cA fv_11 wd_12 ar_13) H1 := by have h9 := hB.1; rw [ht] at h9; exact h9
  have fr_14 : fM [] fv_2 fv_11 := fr_14
  have fa_15 : fA [] ar_4 ar_13 := fa_15
  generalize H1 = H at hP hS ⊢
  refine lv_iadd hx hb dX9_firstTrip_26 ?_
  refine lv_topi (fun v_17 ev_17 => ?_)
  refine va_mmin hx hb (hml.trans hl.1.symm) hown (htg (.methodLink RX9 122 Lib.Math.min.name) kw_5_140) (htg (.static Lib.Math.min.name) kw_3_151) (htg (.initialized RJ9) kw_1_16) (htg (.code Lib.Math.min.name Lib.Math.min.code 2 (some .int)) kw_3_152) (Nat.le_of_ble_eq_true rfl) (Nat.le_of_ble_eq_true rfl) (Nat.le_of_ble_eq_true rfl) (Nat.le_of_ble_eq_true rfl) dX9_firstTrip_27 ?_
  refine lv_topi (fun v_18 ev_18 => ?_)
  have i_19 : (-2147483648) ≤ v_18.toInt ∧ v_18.toInt ≤ 10000000 := ix_min ev_18 (⟨by decide, by decide⟩ : (10000000 : Int) ≤ (10000000 : Int32).toInt ∧ (10000000 : Int32).toInt ≤ 10000000) (iv_any v_17) (by decide) (by decide)
  refine lv_istore (lv' := [(5, .int v_18), (0, .ref (ob 9)), (1, .int pp), (2, .int a), (3, .int b), (4, .int d)]) hx hb dX9_firstTrip_30 hl (by decide) rfl (fun ls hl => ?_)
  refine lv_iconst (v := (-1)) hx hb dX9_firstTrip_32 (by decide) ?_
  refine lv_istore (lv' := [(6, .int (-1)), (5, .int v_18), (0, .ref (ob 9)), (1, .int pp), (2, .int a), (3, .int b), (4, .int d)]) hx hb dX9_firstTrip_33 hl (by decide) rfl (fun ls hl => ?_)
  refine lv_iconst (v := 0) hx hb dX9_firstTrip_35 (by decide) ?_
  refine lv_istore (lv' := [(7, .int 0), (6, .int (-1)), (5, .int v_18), (0, .ref (ob 9)), (1, .int pp), (2, .int a), (3, .int b), (4, .int d)]) hx hb dX9_firstTrip_36 hl (by decide) rfl (fun ls hl => ?_)
  refine my_cut (P := fun R9 a9 Q9 => ∀ (n_29 : Nat) (x_20 : Int32) (x_21 : Int32) (x_22 : Int32) (fv_23 : Nat → Int32) (ar_25 : Nat → Nat → Int32) (wd_27 : xT) (H : Heap) (locs : List Loc) (ls : Array Slot), 80 - x_22.toInt < (n_29 : Int) → ((-1) ≤ x_21.toInt ∧ x_21.toInt ≤ 79) → (0 ≤ x_22.toInt ∧ x_22.toInt ≤ 80) → rX fv_23 → fM [] fv_11 fv_23 → rB ar_25 → fA [] ar_13 ar_25 → wd_27.2 = wd_12.2 → va_P (dC, dI) vwCl (wsX ob ad cA fv_23 wd_27 ar_25) H → va_S (aX ob ad s.heap.size) s.heap H locs → lv_has ls 10 [(0, .ref (ob 9)), (1, .int pp), (2, .int a), (3, .int b), (4, .int d), (5, .int x_20), (6, .int x_21), (7, .int x_22)] → W p l e R9 s m a9 below meth c H locs 0 0 Q9 (F0 m 38 ls [])) ?_ (fun hj_31 => ?_)
  · intro n_29
    induction n_29 with
    | zero => intro x_20 x_21 x_22 fv_23 ar_25 wd_27 H locs ls fu_30 i_x_21 i_x_22 hF_fv_23 fr_24 hA_ar_25 fa_26 wf_28; exfalso; omega
    | succ n_29 ih_29 =>
      intro x_20 x_21 x_22 fv_23 ar_25 wd_27 H locs ls fu_30 i_x_21 i_x_22 hF_fv_23 fr_24 hA_ar_25 fa_26 wf_28 hP hS hl
      refine lv_iload hx hb dX9_firstTrip_38 (lv_at hl 7 rfl) ?_
      refine lv_aload_n hx hb dX9_firstTrip_40 rfl (lv_at hl 0 rfl) ?_
      refine gX_X9_51 hx hb htg hown hK hP dX9_firstTrip_41 ?_
      refine my_ti (y := fv 24) ((fr_24 24 rfl).trans ((fr_14 24 rfl).trans ((fr_5 24 rfl)))) ?_
      have i_32 : 0 ≤ (fv 24).toInt ∧ (fv 24).toInt ≤ 80 := hF_fv 24
      refine lv_icmp_ge (tgt := 148) hx hb dX9_firstTrip_44 (by decide) (fun c_33 => ?_) (fun c_33 => ?_)
      · skip
        refine lv_iload hx hb dX9_firstTrip_148 (lv_at hl 6 rfl) ?_
        exact W.iret (v := x_21) hx hb hr (fun t ht hW => ⟨⟨x_21, (fv_23, wd_27, ar_25), rfl, ⟨hF_fv_23, hA_ar_25, (fM_call (fM_call (fM_call (fM_rf [] _) fr_5 (by decide)) fr_14 (by decide)) fr_24 (by decide)), (fA_call (fA_call (fA_call (fA_rf [62, 63] _) fa_6 (by decide)) fa_15 (by decide)) fa_26 (by decide)), (wf_28.trans (wf_16.trans wf_7)), i_x_21, trivial⟩, ⟨by rw [ht]; exact hP, va_K.moved hW.alike hK⟩⟩, hS.F ht⟩) hS.2.2 dX9_firstTrip_150
      · skip
        have i_34 : 0 ≤ x_22.toInt ∧ x_22.toInt ≤ 79 := iv_lt1 i_x_22 i_32 (Int32.not_le.mp c_33)
        have i_35 : 1 ≤ (fv 24).toInt ∧ (fv 24).toInt ≤ 80 := iv_lt2 i_x_22 i_32 (Int32.not_le.mp c_33)
        refine lv_aload_n hx hb dX9_firstTrip_47 rfl (lv_at hl 0 rfl) ?_
        refine gX_X9_17 hx hb htg hown hK hP dX9_firstTrip_48 ?_
        refine lv_iload hx hb dX9_firstTrip_51 (lv_at hl 7 rfl) ?_
        refine lX_58 hx hb hK hP (iv_in i_34 (by decide) (by decide)) dX9_firstTrip_53 (fun v_36 ev_36 => ?_)
        have i_37 : 0 ≤ v_36.toInt ∧ v_36.toInt ≤ 79 := ev_36 ▸ hA_ar_25 58 _
        refine lv_istore (lv' := [(8, .int v_36), (0, .ref (ob 9)), (1, .int pp), (2, .int a), (3, .int b), (4, .int d), (5, .int x_20), (6, .int x_21), (7, .int x_22)]) hx hb dX9_firstTrip_54 hl (by decide) rfl (fun ls hl => ?_)
        refine lv_aload_n hx hb dX9_firstTrip_56 rfl (lv_at hl 1 rfl) ?_
        refine gX_X9_30 hx hb htg hown hK hP dX9_firstTrip_57 ?_
        refine lv_iload hx hb dX9_firstTrip_60 (lv_at hl 8 rfl) ?_
        refine lX_62 hx hb hK hP (iv_in i_34 (by decide) (by decide)) dX9_firstTrip_62 (fun v_38 ev_38 => ?_)
        refine lv_iload hx hb dX9_firstTrip_63 (lv_at hl 6 rfl) ?_
        refine my_cut (P := fun R9 a9 Q9 => ∀ (x_47 : Int32) (H : Heap) (locs : List Loc) (ls : Array Slot), (0 ≤ x_47.toInt ∧ x_47.toInt ≤ 1) → va_P (dC, dI) vwCl (wsX ob ad cA fv_23 wd_27 ar_25) H → va_S (aX ob ad s.heap.size) s.heap H locs → lv_has ls 10 [(0, .ref (ob 9)), (1, .int pp), (2, .int a), (3, .int b), (4, .int d), (5, .int x_20), (6, .int x_21), (7, .int x_22), (8, .int v_36)] → W p l e R9 s m a9 below meth c H locs 0 0 Q9 (F0 m 92 ls [.int x_47])) ?_ (fun hj_48 => ?_)
        · intro x_47 H locs ls i_x_47 hP hS hl
          refine lv_istore (lv' := [(9, .int x_47), (0, .ref (ob 9)), (1, .int pp), (2, .int a), (3, .int b), (4, .int d), (5, .int x_20), (6, .int x_21), (7, .int x_22), (8, .int v_36)]) hx hb dX9_firstTrip_92 hl (by decide) rfl (fun ls hl => ?_)
          refine lv_iload hx hb dX9_firstTrip_94 (lv_at hl 0 rfl) ?_
          refine my_cut (P := fun R9 a9 Q9 => ∀ (x_68 : Int32) (x_69 : Int32) (fv_70 : Nat → Int32) (ar_72 : Nat → Nat → Int32) (wd_74 : xT) (H : Heap) (locs : List Loc) (ls : Array Slot), ((-1) ≤ x_69.toInt ∧ x_69.toInt ≤ 79) → rX fv_70 → fM [] fv_23 fv_70 → rB ar_72 → fA [] ar_25 ar_72 → wd_74.2 = wd_27.2 → va_P (dC, dI) vwCl (wsX ob ad cA fv_70 wd_74 ar_72) H → va_S (aX ob ad s.heap.size) s.heap H locs → lv_has ls 10 [(0, .ref (ob 9)), (1, .int pp), (2, .int a), (3, .int b), (4, .int d), (5, .int x_68), (6, .int x_69), (7, .int x_22)] → W p l e R9 s m a9 below meth c H locs 0 0 Q9 (F0 m 142 ls [])) ?_ (fun hj_76 => ?_)
          · intro x_68 x_69 fv_70 ar_72 wd_74 H locs ls i_x_69 hF_fv_70 fr_71 hA_ar_72 fa_73 wf_75 hP hS hl
            obtain ⟨v_77, ev_77⟩ : ∃ z : Int32, z = x_22 + 1 := ⟨_, rfl⟩
            refine lv_iinc (v := v_77) (lv' := [(7, .int v_77), (0, .ref (ob 9)), (1, .int pp), (2, .int a), (3, .int b), (4, .int d), (5, .int x_68), (6, .int x_69)]) hx hb dX9_firstTrip_142 hl (k := 7) rfl (by rw [ev_77]; rfl) (by decide) rfl (fun ls hl => ?_)
            have t_78 : v_77.toInt = x_22.toInt + 1 ∧ 1 ≤ v_77.toInt ∧ v_77.toInt ≤ 80 := iv_addc ev_77 i_34 (by decide) (by decide) (by decide)
            refine lv_goto (tgt := 38) hx hb dX9_firstTrip_145 (by decide) ?_
            exact ih_29 x_68 x_69 v_77 fv_70 ar_72 wd_74 _ _ ls (by omega) i_x_69 (iv_w t_78.2 (by decide) (by decide)) hF_fv_70 (fM_call (fM_call (fM_rf [] _) fr_24 (by decide)) fr_71 (by decide)) hA_ar_72 (fA_call (fA_call (fA_rf [] _) fa_26 (by decide)) fa_73 (by decide)) (wf_75.trans wf_28) hP hS (lv_sub hl [1, 2, 3, 4, 5, 6, 7, 0] rfl)
          · skip
            refine lv_if_eq (tgt := 142) hx hb dX9_firstTrip_96 (by decide) (fun c_49 => ?_) (fun c_49 => ?_)
            · skip
              have i_50 : 0 ≤ x_47.toInt ∧ x_47.toInt ≤ 0 := iv_eq1 (⟨by decide, by decide⟩ : (0 : Int) ≤ (0 : Int32).toInt ∧ (0 : Int32).toInt ≤ 0) c_49
              exact hj_76 x_20 x_21 fv_23 ar_25 wd_27 _ _ ls i_x_21 hF_fv_23 (fM_rf [] _) hA_ar_25 (fA_rf [] _) rfl hP hS (lv_sub hl [1, 2, 3, 4, 5, 6, 7, 8] rfl)
            · skip
              have i_51 : 1 ≤ x_47.toInt ∧ x_47.toInt ≤ 1 := iv_nel i_x_47 (by decide) c_49
              refine lv_aload_n hx hb dX9_firstTrip_99 rfl (lv_at hl 1 rfl) ?_
              refine lv_iload_n hx hb dX9_firstTrip_100 rfl (lv_at hl 2 rfl) ?_
              refine lv_iload_n hx hb dX9_firstTrip_101 rfl (lv_at hl 3 rfl) ?_
              refine lv_iload_n hx hb dX9_firstTrip_102 rfl (lv_at hl 4 rfl) ?_
              refine lv_iload hx hb dX9_firstTrip_103 (lv_at hl 9 rfl) ?_
              refine va_calli (va_runV (As := [.int pp, .int a, .int b, .int v_36]) (rest := []) ⟨hx, hb, hml, hown, hts⟩ (x_reaches l dC dI H.size ob ad cA hd fv_23 wd_27 ar_25 hF_fv_23 hA_ar_25 pp a b v_36 h_pp i_37) (cwV 4 hts (gV kw_5_145 kw_5_147 kw_p_32 kw_1_13 kw_5_148) rfl rfl rfl (by decide +kernel) ⟨Nat.le_of_ble_eq_true rfl, Nat.le_of_ble_eq_true rfl⟩) ⟨fun a U g mk q => ⟨q.1, q.2.1, q.2.2.1, va_K.moved (u := U) (U := U.calling g mk a) (Vm.Alike.refl U.vm) q.2.2.2⟩, va_recv hK hP (ci := 9) (q0 := 9) rfl rfl, fun U hU hW => ⟨rfl, by rw [hU], by rw [hU]; exact hP, va_K.moved hW.alike hK⟩⟩ rfl rfl hl.1 rfl (lv_room (Nat.le_of_ble_eq_true rfl)) dX9_firstTrip_105 ⟨Nat.le_of_ble_eq_true rfl, Nat.le_of_ble_eq_true rfl⟩) hS (fun q _ h9 => aX_up hS q h9) (aX_up hS) (fun r_52 u t H1 locs ht _ hw hB _ hk1 hS => ?_)
              obtain ⟨fv_54, wd_55, ar_56⟩ := u
              obtain ⟨hF_fv_54, hA_ar_56, fr_57, fa_58, wf_59, p_53, -⟩ := hw
              have wf_59 : wd_55.2 = wd_27.2 := wf_59
              have hP : va_P (dC, dI) vwCl (wsX ob ad cA fv_54 wd_55 ar_56) H1 := by have h9 := hB.1; rw [ht] at h9; exact h9
              have fr_57 : fM [] fv_23 fv_54 := fr_57
              have fa_58 : fA [] ar_25 ar_56 := fa_58
              generalize H1 = H at hP hS ⊢
              refine lv_if_eq (tgt := 142) hx hb dX9_firstTrip_108 (by decide) (fun c_60 => ?_) (fun c_60 => ?_)
              · skip
                have i_61 : 0 ≤ r_52.toInt ∧ r_52.toInt ≤ 0 := iv_eq1 (⟨by decide, by decide⟩ : (0 : Int) ≤ (0 : Int32).toInt ∧ (0 : Int32).toInt ≤ 0) c_60
                exact hj_76 x_20 x_21 fv_54 ar_56 wd_55 _ _ ls i_x_21 hF_fv_54 (fM_call (fM_rf [] _) fr_57 (by decide)) hA_ar_56 (fA_call (fA_rf [] _) fa_58 (by decide)) wf_59 hP hS (lv_sub hl [1, 2, 3, 4, 5, 6, 7, 8] rfl)
              · skip
                have i_62 : 1 ≤ r_52.toInt ∧ r_52.toInt ≤ 1 := iv_nel p_53 (by decide) c_60
                refine lv_aload_n hx hb dX9_firstTrip_111 rfl (lv_at hl 1 rfl) ?_
                refine gX_X9_9 hx hb htg hown hK hP dX9_firstTrip_112 ?_
                refine gX_X9_54 hx hb htg hown hK hP dX9_firstTrip_115 ?_
                refine gX_X9_74 hx hb htg hown hK hP dX9_firstTrip_118 ?_
                refine lv_iload hx hb dX9_firstTrip_121 (lv_at hl 9 rfl) ?_
                refine lX_31 hx hb hK hP (iv_in i_37 (by decide) (by decide)) dX9_firstTrip_123 (fun v_63 ev_63 => ?_)
                refine lv_iload hx hb dX9_firstTrip_124 (lv_at hl 5 rfl) ?_
                refine lv_icmp_lt (tgt := 142) hx hb dX9_firstTrip_126 (by decide) (fun c_64 => ?_) (fun c_64 => ?_)
                · skip
                  have i_65 : (-2147483648) ≤ v_63.toInt ∧ v_63.toInt ≤ 2147483646 := iv_lt1 (iv_any v_63) (iv_any d) c_64
                  have i_66 : (-2147483647) ≤ d.toInt ∧ d.toInt ≤ 2147483647 := iv_lt2 (iv_any v_63) (iv_any d) c_64
                  exact hj_76 x_20 x_21 fv_54 ar_56 wd_55 _ _ ls i_x_21 hF_fv_54 (fM_call (fM_rf [] _) fr_57 (by decide)) hA_ar_56 (fA_call (fA_rf [] _) fa_58 (by decide)) wf_59 hP hS (lv_sub hl [1, 2, 3, 4, 5, 6, 7, 8] rfl)
                · skip
                  refine lv_aload_n hx hb dX9_firstTrip_129 rfl (lv_at hl 1 rfl) ?_
                  refine gX_X9_30 hx hb htg hown hK hP dX9_firstTrip_130 ?_
                  refine lv_iload hx hb dX9_firstTrip_133 (lv_at hl 8 rfl) ?_
                  refine lX_62 hx hb hK hP (iv_in i_34 (by decide) (by decide)) dX9_firstTrip_135 (fun v_67 ev_67 => ?_)
                  obtain rfl : v_38 = v_67 := ev_38.trans ((congrFun ((fA_call (fA_rf [] _) fa_58 (by decide)) 62 rfl) _).symm.trans ev_67.symm)
                  refine lv_istore (lv' := [(5, .int v_38), (9, .int x_47), (0, .ref (ob 9)), (1, .int pp), (2, .int a), (3, .int b), (4, .int d), (6, .int x_21), (7, .int x_22), (8, .int v_36)]) hx hb dX9_firstTrip_136 hl (by decide) rfl (fun ls hl => ?_)
                  refine lv_iload hx hb dX9_firstTrip_138 (lv_at hl 9 rfl) ?_
                  refine lv_istore (lv' := [(6, .int v_36), (5, .int v_38), (9, .int x_47), (0, .ref (ob 9)), (1, .int pp), (2, .int a), (3, .int b), (4, .int d), (7, .int x_22), (8, .int v_36)]) hx hb dX9_firstTrip_140 hl (by decide) rfl (fun ls hl => ?_)
                  exact hj_76 v_38 v_36 fv_54 ar_56 wd_55 _ _ ls (iv_w i_37 (by decide) (by decide)) hF_fv_54 (fM_call (fM_rf [] _) fr_57 (by decide)) hA_ar_56 (fA_call (fA_rf [] _) fa_58 (by decide)) wf_59 hP hS (lv_sub hl [3, 4, 5, 6, 7, 1, 0, 8] rfl)
        · skip
          refine lv_icmp_lt (tgt := 87) hx hb dX9_firstTrip_65 (by decide) (fun c_39 => ?_) (fun c_39 => ?_)
          · skip
            have i_40 : (-2147483648) ≤ v_38.toInt ∧ v_38.toInt ≤ 2147483646 := iv_lt1 (iv_any v_38) (iv_any x_20) c_39
            have i_41 : (-2147483647) ≤ x_20.toInt ∧ x_20.toInt ≤ 2147483647 := iv_lt2 (iv_any v_38) (iv_any x_20) c_39
            refine lv_iconst (v := 1) hx hb dX9_firstTrip_87 (by decide) ?_
            refine lv_goto (tgt := 92) hx hb dX9_firstTrip_88 (by decide) ?_
            exact hj_48 1 _ _ ls (iv_w (⟨by decide, by decide⟩ : (1 : Int) ≤ (1 : Int32).toInt ∧ (1 : Int32).toInt ≤ 1) (by decide) (by decide)) hP hS (lv_sub hl [1, 2, 3, 4, 5, 6, 7, 8, 0] rfl)
          · skip
            refine lv_aload_n hx hb dX9_firstTrip_68 rfl (lv_at hl 1 rfl) ?_
            refine gX_X9_30 hx hb htg hown hK hP dX9_firstTrip_69 ?_
            refine lv_iload hx hb dX9_firstTrip_72 (lv_at hl 8 rfl) ?_
            refine lX_62 hx hb hK hP (iv_in i_34 (by decide) (by decide)) dX9_firstTrip_74 (fun v_42 ev_42 => ?_)
            obtain rfl : v_38 = v_42 := ev_38.trans ev_42.symm
            refine lv_iload hx hb dX9_firstTrip_75 (lv_at hl 6 rfl) ?_
            refine lv_icmp_ne (tgt := 91) hx hb dX9_firstTrip_77 (by decide) (fun c_43 => ?_) (fun c_43 => ?_)
            · skip
              refine lv_iconst (v := 0) hx hb dX9_firstTrip_91 (by decide) ?_
              exact hj_48 0 _ _ ls (iv_w (⟨by decide, by decide⟩ : (0 : Int) ≤ (0 : Int32).toInt ∧ (0 : Int32).toInt ≤ 0) (by decide) (by decide)) hP hS (lv_sub hl [1, 2, 3, 4, 5, 6, 7, 8, 0] rfl)
            · skip
              refine lv_iload hx hb dX9_firstTrip_80 (lv_at hl 7 rfl) ?_
              refine lv_iload hx hb dX9_firstTrip_82 (lv_at hl 0 rfl) ?_
              refine lv_icmp_le (tgt := 91) hx hb dX9_firstTrip_84 (by decide) (fun c_44 => ?_) (fun c_44 => ?_)
              · skip
                refine lv_iconst (v := 0) hx hb dX9_firstTrip_91 (by decide) ?_
                exact hj_48 0 _ _ ls (iv_w (⟨by decide, by decide⟩ : (0 : Int) ≤ (0 : Int32).toInt ∧ (0 : Int32).toInt ≤ 0) (by decide) (by decide)) hP hS (lv_sub hl [1, 2, 3, 4, 5, 6, 7, 8, 0] rfl)
              · skip
                have i_45 : 0 ≤ v_36.toInt ∧ v_36.toInt ≤ 78 := iv_lt1 i_37 i_x_21 (Int32.not_le.mp c_44)
                have i_46 : 1 ≤ x_21.toInt ∧ x_21.toInt ≤ 79 := iv_lt2 i_37 i_x_21 (Int32.not_le.mp c_44)
                refine lv_iconst (v := 1) hx hb dX9_firstTrip_87 (by decide) ?_
                refine lv_goto (tgt := 92) hx hb dX9_firstTrip_88 (by decide) ?_
                exact hj_48 1 _ _ ls (iv_w (⟨by decide, by decide⟩ : (1 : Int) ≤ (1 : Int32).toInt ∧ (1 : Int32).toInt ≤ 1) (by decide) (by decide)) hP hS (lv_sub hl [1, 2, 3, 4, 5, 6, 7, 8, 0] rfl)
  · skip
    have z_80 : ((-1) : Int32).toInt = (-1) := by decide
    have z_81 : (0 : Int32).toInt = 0 := by decide
    exact hj_31 81 v_18 (-1) 0 fv_11 ar_13 wd_12 _ _ ls (by first | decide | omega) (iv_w (⟨by decide, by decide⟩ : (-1 : Int) ≤ ((-1) : Int32).toInt ∧ ((-1) : Int32).toInt ≤ -1) (by decide) (by decide)) (iv_w (⟨by decide, by decide⟩ : (0 : Int) ≤ (0 : Int32).toInt ∧ (0 : Int32).toInt ≤ 0) (by decide) (by decide)) hF_fv_11 (fM_rf [] _) hA_ar_13 (fA_rf [] _) rfl hP hS (lv_sub hl [3, 4, 5, 6, 7, 2, 1, 0] rfl)
set_option maxHeartbeats 4000000 in
set_option maxRecDepth 100000 in
theorem x_lastAhead (l : Launch) (dC : Nat → ClassId) (dI : Nat → Nat → Nat) (sz : Nat) (ob ad : Nat → Nat) (cA : Nat → ClassId) (hd : dX ob ad) (fv : Nat → Int32) (wd : xT) (ar : Nat → Nat → Int32) (hF_fv : rX fv) (hA_ar : rB ar) (pl : Int32) (a : Int32) (b : Int32) (h_pl : 0 ≤ pl.toInt ∧ pl.toInt ≤ 79) : Met l yX9_lastAhead (.code yX9_lastAhead cX9_lastAhead 5 (some .int) :: lw_good) ({ frames := 2, cells := 0, slots := 0, locals := 40 }) (va_Pc [.ref (ob 9), .int pl, .int a, .int b] (prX dC dI ob ad cA fv wd ar sz)) (va_Qi (fun (r : Int32) (u : xS) => rX u.1 ∧ rB u.2.2 ∧ fM [] fv u.1 ∧ fA [] ar u.2.2 ∧ u.2.1.2 = wd.2 ∧ ((-1) ≤ r.toInt ∧ r.toInt ≤ 79) ∧ True) (enX dC dI ob ad cA) (aX ob ad sz)) 0 0 (aX ob ad sz) := by
  refine Met.ofW (cc := cX9_lastAhead) (maxL := 5) (ret := (some .int)) (by decide) rfl ?_
  intro p e s m args below meth c s₁ B hml hv
  obtain ⟨rfl, hsz, hP, hK⟩ := hv
  have hx := B.exec
  have hb := B.bytes
  have hr := B.returns
  have hts := atoms_spec (ws := (.code yX9_lastAhead cX9_lastAhead 5 (some .int) :: lw_good)) B.pre
  have htg : ∀ w ∈ lw_good, w.before _ s = true := fun w hw => hts w (List.mem_cons_of_mem _ hw)
  have hown : s.vm.findClass RX9 = some m.cls := findClass_of_methodNamed B.named
  have hlocks := B.notSynchronized
  subst hsz
  have hS : va_S (aX ob ad s.heap.size) s.heap s.heap [] := va_S.rf
  have hl := lv_entry ([.ref (ob 9), .int pl, .int a, .int b]) (n := 5) (Nat.le_of_ble_eq_true rfl)
  rw [lg_entry_eq]
  generalize (lg_sl ([.ref (ob 9), .int pl, .int a, .int b]) ++ List.replicate (5 - (lg_sl ([.ref (ob 9), .int pl, .int a, .int b])).length) Slot.unset).toArray = ls at hl ⊢
  have hl : lv_has ls 5 [(0, .ref (ob 9)), (1, .int pl), (2, .int a), (3, .int b)] := hl
  refine lv_iload_n hx hb dX9_lastAhead_0 rfl (lv_at hl 1 rfl) ?_
  refine lv_iconst (v := 1) hx hb dX9_lastAhead_1 (by decide) ?_
  refine lv_isub hx hb dX9_lastAhead_2 ?_
  refine lv_topi (fun v_1 ev_1 => ?_)
  have t_2 : v_1.toInt = pl.toInt - 1 ∧ (-1) ≤ v_1.toInt ∧ v_1.toInt ≤ 78 := iv_subc ev_1 h_pl (by decide) (by decide) (by decide)
  refine lv_istore (lv' := [(4, .int v_1), (0, .ref (ob 9)), (1, .int pl), (2, .int a), (3, .int b)]) hx hb dX9_lastAhead_3 hl (by decide) rfl (fun ls hl => ?_)
  refine my_cut (P := fun R9 a9 Q9 => ∀ (n_5 : Nat) (x_4 : Int32) (H : Heap) (locs : List Loc) (ls : Array Slot), x_4.toInt - (-1) < (n_5 : Int) → ((-1) ≤ x_4.toInt ∧ x_4.toInt ≤ 78) → va_P (dC, dI) vwCl (wsX ob ad cA fv wd ar) H → va_S (aX ob ad s.heap.size) s.heap H locs → lv_has ls 5 [(0, .ref (ob 9)), (2, .int a), (3, .int b), (4, .int x_4)] → W p l e R9 s m a9 below meth c H locs 0 0 Q9 (F0 m 5 ls [])) ?_ (fun hj_7 => ?_)
  · intro n_5
    induction n_5 with
    | zero => intro x_4 H locs ls fu_6 i_x_4; exfalso; omega
    | succ n_5 ih_5 =>
      intro x_4 H locs ls fu_6 i_x_4 hP hS hl
      refine lv_iload hx hb dX9_lastAhead_5 (lv_at hl 3 rfl) ?_
      refine lv_if_lt (tgt := 63) hx hb dX9_lastAhead_7 (by decide) (fun c_8 => ?_) (fun c_8 => ?_)
      · skip
        have i_9 : (-1) ≤ x_4.toInt ∧ x_4.toInt ≤ (-1) := iv_lt1 i_x_4 (⟨by decide, by decide⟩ : (0 : Int) ≤ (0 : Int32).toInt ∧ (0 : Int32).toInt ≤ 0) c_8
        refine lv_iconst (v := (-1)) hx hb dX9_lastAhead_63 (by decide) ?_
        exact W.iret (v := (-1)) hx hb hr (fun t ht hW => ⟨⟨(-1), (fv, wd, ar), rfl, ⟨hF_fv, hA_ar, (fM_rf [] _), (fA_rf [] _), rfl, (iv_w (⟨by decide, by decide⟩ : (-1 : Int) ≤ ((-1) : Int32).toInt ∧ ((-1) : Int32).toInt ≤ -1) (by decide) (by decide)), trivial⟩, ⟨by rw [ht]; exact hP, va_K.moved hW.alike hK⟩⟩, hS.F ht⟩) hS.2.2 dX9_lastAhead_64
      · skip
        have i_10 : 0 ≤ x_4.toInt ∧ x_4.toInt ≤ 78 := iv_le2 (⟨by decide, by decide⟩ : (0 : Int) ≤ (0 : Int32).toInt ∧ (0 : Int32).toInt ≤ 0) i_x_4 (Int32.not_lt.mp c_8)
        refine lv_aload_n hx hb dX9_lastAhead_10 rfl (lv_at hl 0 rfl) ?_
        refine gX_X9_9 hx hb htg hown hK hP dX9_lastAhead_11 ?_
        refine gX_X9_54 hx hb htg hown hK hP dX9_lastAhead_14 ?_
        refine gX_X9_81 hx hb htg hown hK hP dX9_lastAhead_17 ?_
        refine lv_aload_n hx hb dX9_lastAhead_20 rfl (lv_at hl 0 rfl) ?_
        refine gX_X9_17 hx hb htg hown hK hP dX9_lastAhead_21 ?_
        refine lv_iload hx hb dX9_lastAhead_24 (lv_at hl 3 rfl) ?_
        refine lX_58 hx hb hK hP (iv_in i_10 (by decide) (by decide)) dX9_lastAhead_26 (fun v_11 ev_11 => ?_)
        have i_12 : 0 ≤ v_11.toInt ∧ v_11.toInt ≤ 79 := ev_11 ▸ hA_ar 58 _
        refine lX_29 hx hb hK hP (iv_in i_12 (by decide) (by decide)) dX9_lastAhead_27 (fun v_13 ev_13 => ?_)
        have i_14 : 0 ≤ v_13.toInt ∧ v_13.toInt ≤ 7 := ev_13 ▸ hA_ar 29 _
        refine lv_iload_n hx hb dX9_lastAhead_28 rfl (lv_at hl 1 rfl) ?_
        refine lv_icmp_ne (tgt := 57) hx hb dX9_lastAhead_29 (by decide) (fun c_15 => ?_) (fun c_15 => ?_)
        · skip
          obtain ⟨v_16, ev_16⟩ : ∃ z : Int32, z = x_4 + (-1) := ⟨_, rfl⟩
          refine lv_iinc (v := v_16) (lv' := [(4, .int v_16), (0, .ref (ob 9)), (2, .int a), (3, .int b)]) hx hb dX9_lastAhead_57 hl (k := 3) rfl (by rw [ev_16]; rfl) (by decide) rfl (fun ls hl => ?_)
          have t_17 : v_16.toInt = x_4.toInt + (-1) ∧ (-1) ≤ v_16.toInt ∧ v_16.toInt ≤ 77 := iv_addc ev_16 i_10 (by decide) (by decide) (by decide)
          refine lv_goto (tgt := 5) hx hb dX9_lastAhead_60 (by decide) ?_
          exact ih_5 v_16 _ _ ls (by omega) (iv_w t_17.2 (by decide) (by decide)) hP hS (lv_sub hl [1, 2, 3, 0] rfl)
        · skip
          have i_19 : 0 ≤ a.toInt ∧ a.toInt ≤ 7 := iv_eq1 i_14 c_15.symm
          refine lv_aload_n hx hb dX9_lastAhead_32 rfl (lv_at hl 0 rfl) ?_
          refine gX_X9_9 hx hb htg hown hK hP dX9_lastAhead_33 ?_
          refine gX_X9_54 hx hb htg hown hK hP dX9_lastAhead_36 ?_
          refine gX_X9_74 hx hb htg hown hK hP dX9_lastAhead_39 ?_
          refine lv_aload_n hx hb dX9_lastAhead_42 rfl (lv_at hl 0 rfl) ?_
          refine gX_X9_17 hx hb htg hown hK hP dX9_lastAhead_43 ?_
          refine lv_iload hx hb dX9_lastAhead_46 (lv_at hl 3 rfl) ?_
          refine lX_58 hx hb hK hP (iv_in i_10 (by decide) (by decide)) dX9_lastAhead_48 (fun v_20 ev_20 => ?_)
          obtain rfl : v_11 = v_20 := ev_11.trans ev_20.symm
          refine lX_31 hx hb hK hP (iv_in i_12 (by decide) (by decide)) dX9_lastAhead_49 (fun v_21 ev_21 => ?_)
          refine lv_iload_n hx hb dX9_lastAhead_50 rfl (lv_at hl 2 rfl) ?_
          refine lv_icmp_lt (tgt := 57) hx hb dX9_lastAhead_51 (by decide) (fun c_22 => ?_) (fun c_22 => ?_)
          · skip
            have i_23 : (-2147483648) ≤ v_21.toInt ∧ v_21.toInt ≤ 2147483646 := iv_lt1 (iv_any v_21) (iv_any b) c_22
            have i_24 : (-2147483647) ≤ b.toInt ∧ b.toInt ≤ 2147483647 := iv_lt2 (iv_any v_21) (iv_any b) c_22
            obtain ⟨v_25, ev_25⟩ : ∃ z : Int32, z = x_4 + (-1) := ⟨_, rfl⟩
            refine lv_iinc (v := v_25) (lv' := [(4, .int v_25), (0, .ref (ob 9)), (2, .int a), (3, .int b)]) hx hb dX9_lastAhead_57 hl (k := 3) rfl (by rw [ev_25]; rfl) (by decide) rfl (fun ls hl => ?_)
            have t_26 : v_25.toInt = x_4.toInt + (-1) ∧ (-1) ≤ v_25.toInt ∧ v_25.toInt ≤ 77 := iv_addc ev_25 i_10 (by decide) (by decide) (by decide)
            refine lv_goto (tgt := 5) hx hb dX9_lastAhead_60 (by decide) ?_
            exact ih_5 v_25 _ _ ls (by omega) (iv_w t_26.2 (by decide) (by decide)) hP hS (lv_sub hl [1, 2, 3, 0] rfl)
          · skip
            refine lv_iload hx hb dX9_lastAhead_54 (lv_at hl 3 rfl) ?_
            exact W.iret (v := x_4) hx hb hr (fun t ht hW => ⟨⟨x_4, (fv, wd, ar), rfl, ⟨hF_fv, hA_ar, (fM_rf [] _), (fA_rf [] _), rfl, (iv_w i_10 (by decide) (by decide)), trivial⟩, ⟨by rw [ht]; exact hP, va_K.moved hW.alike hK⟩⟩, hS.F ht⟩) hS.2.2 dX9_lastAhead_56
  · skip
    exact hj_7 80 v_1 _ _ ls (by omega) t_2.2 hP hS (lv_sub hl [1, 3, 4, 0] rfl)
set_option maxHeartbeats 4000000 in
set_option maxRecDepth 100000 in
theorem x_sortIn (l : Launch) (dC : Nat → ClassId) (dI : Nat → Nat → Nat) (sz : Nat) (ob ad : Nat → Nat) (cA : Nat → ClassId) (hd : dX ob ad) (fv : Nat → Int32) (wd : xT) (ar : Nat → Nat → Int32) (hF_fv : rX fv) (hA_ar : rB ar) (kk : Int32) (h_kk : 0 ≤ kk.toInt ∧ kk.toInt ≤ 79) (hz : (fv 24).toInt ≤ 79) : Met l yX9_sortIn (.code yX9_sortIn cX9_sortIn 3 none :: lw_good) ({ frames := 2, cells := 0, slots := 0, locals := 40 }) (va_Pc [.ref (ob 9), .int kk] (prX dC dI ob ad cA fv wd ar sz)) (va_Qv (fun (u : xS) => rX u.1 ∧ rB u.2.2 ∧ fM [24] fv u.1 ∧ fA [58] ar u.2.2 ∧ u.2.1.2 = wd.2 ∧ ((u.1 24).toInt = (fv 24).toInt + 1) ∧ True) (enX dC dI ob ad cA) (aX ob ad sz)) 0 0 (aX ob ad sz) := by
  refine Met.ofW (cc := cX9_sortIn) (maxL := 3) (ret := none) (by decide) rfl ?_
  intro p e s m args below meth c s₁ B hml hv
  obtain ⟨rfl, hsz, hP, hK⟩ := hv
  have hx := B.exec
  have hb := B.bytes
  have hr := B.returns
  have hts := atoms_spec (ws := (.code yX9_sortIn cX9_sortIn 3 none :: lw_good)) B.pre
  have htg : ∀ w ∈ lw_good, w.before _ s = true := fun w hw => hts w (List.mem_cons_of_mem _ hw)
  have hown : s.vm.findClass RX9 = some m.cls := findClass_of_methodNamed B.named
  have hlocks := B.notSynchronized
  subst hsz
  have hS : va_S (aX ob ad s.heap.size) s.heap s.heap [] := va_S.rf
  have hl := lv_entry ([.ref (ob 9), .int kk]) (n := 3) (Nat.le_of_ble_eq_true rfl)
  rw [lg_entry_eq]
  generalize (lg_sl ([.ref (ob 9), .int kk]) ++ List.replicate (3 - (lg_sl ([.ref (ob 9), .int kk])).length) Slot.unset).toArray = ls at hl ⊢
  have hl : lv_has ls 3 [(0, .ref (ob 9)), (1, .int kk)] := hl
  have i_1 : 0 ≤ (fv 24).toInt ∧ (fv 24).toInt ≤ 79 := ⟨(hF_fv 24).1, hz⟩
  refine lv_aload_n hx hb dX9_sortIn_0 rfl (lv_at hl 0 rfl) ?_
  refine gX_X9_51 hx hb htg hown hK hP dX9_sortIn_1 ?_
  refine lv_istore_n (lv' := [(2, .int (fv 24)), (0, .ref (ob 9)), (1, .int kk)]) hx hb dX9_sortIn_4 rfl hl (by decide) rfl (fun ls hl => ?_)
  refine my_cut (P := fun R9 a9 Q9 => ∀ (n_5 : Nat) (x_2 : Int32) (ar_3 : Nat → Nat → Int32) (H : Heap) (locs : List Loc) (ls : Array Slot), x_2.toInt - 0 < (n_5 : Int) → (0 ≤ x_2.toInt ∧ x_2.toInt ≤ 79) → rB ar_3 → fA [58] ar ar_3 → va_P (dC, dI) vwCl (wsX ob ad cA fv wd ar_3) H → va_S (aX ob ad s.heap.size) s.heap H locs → lv_has ls 3 [(0, .ref (ob 9)), (1, .int kk), (2, .int x_2)] → W p l e R9 s m a9 below meth c H locs 0 0 Q9 (F0 m 5 ls [])) ?_ (fun hj_7 => ?_)
  · intro n_5
    induction n_5 with
    | zero => intro x_2 ar_3 H locs ls fu_6 i_x_2 hA_ar_3 fa_4; exfalso; omega
    | succ n_5 ih_5 =>
      intro x_2 ar_3 H locs ls fu_6 i_x_2 hA_ar_3 fa_4 hP hS hl
      refine lv_iload_n hx hb dX9_sortIn_5 rfl (lv_at hl 2 rfl) ?_
      refine my_cut (P := fun R9 a9 Q9 => ∀  (H : Heap) (locs : List Loc) (ls : Array Slot), va_P (dC, dI) vwCl (wsX ob ad cA fv wd ar_3) H → va_S (aX ob ad s.heap.size) s.heap H locs → lv_has ls 3 [(0, .ref (ob 9)), (1, .int kk), (2, .int x_2)] → W p l e R9 s m a9 below meth c H locs 0 0 Q9 (F0 m 63 ls [])) ?_ (fun hj_26 => ?_)
      · intro  H locs ls  hP hS hl
        refine lv_aload_n hx hb dX9_sortIn_63 rfl (lv_at hl 0 rfl) ?_
        refine gX_X9_17 hx hb htg hown hK hP dX9_sortIn_64 ?_
        refine lv_iload_n hx hb dX9_sortIn_67 rfl (lv_at hl 2 rfl) ?_
        refine lv_iload_n hx hb dX9_sortIn_68 rfl (lv_at hl 1 rfl) ?_
        refine sX_58 hx hb hK hP hS hd (iv_in i_x_2 (by decide) (by decide)) dX9_sortIn_69 (fun H locs ar_27 ear_27 hP hS => ?_)
        have hA_ar_27 : rB ar_27 := rB_put hA_ar_3 ear_27 h_kk
        refine lv_aload_n hx hb dX9_sortIn_70 rfl (lv_at hl 0 rfl) ?_
        refine lv_dup hx hb dX9_sortIn_71 rfl ?_
        refine gX_X9_51 hx hb htg hown hK hP dX9_sortIn_72 ?_
        refine lv_iconst (v := 1) hx hb dX9_sortIn_75 (by decide) ?_
        refine lv_iadd hx hb dX9_sortIn_76 ?_
        refine lv_topi (fun v_28 ev_28 => ?_)
        have t_29 : v_28.toInt = (fv 24).toInt + 1 ∧ 1 ≤ v_28.toInt ∧ v_28.toInt ≤ 80 := iv_addc ev_28 i_1 (by decide) (by decide) (by decide)
        refine pX_X9_51 hx hb htg hown hK hP hS hd dX9_sortIn_77 (fun H locs fv_31 efv_31 hP hS => ?_)
        have hF_fv_31 : rX fv_31 := rX_put hF_fv efv_31 (iv_w t_29.2 (by decide) (by decide))
        have z_32 : (fv_31 24).toInt = v_28.toInt := congrArg Int32.toInt ((congrFun efv_31 24))
        have z_33 : 0 ≤ (fv_31 24).toInt ∧ (fv_31 24).toInt ≤ 80 := hF_fv_31 24
        exact W.vret hx hb hr (fun t ht hW => ⟨⟨(fv_31, wd, ar_27), rfl, ⟨hF_fv_31, hA_ar_27, (fM_put (fM_rf [24] _) efv_31 (by decide)), (fA_put (fA_call (fA_rf [58] _) fa_4 (by decide)) ear_27 (by decide)), rfl, (show (fv_31 24).toInt = (fv 24).toInt + 1 from by omega), trivial⟩, ⟨by rw [ht]; exact hP, va_K.moved hW.alike hK⟩⟩, hS.F ht⟩) hS.2.2 dX9_sortIn_80
      · skip
        refine lv_if_le (tgt := 63) hx hb dX9_sortIn_6 (by decide) (fun c_8 => ?_) (fun c_8 => ?_)
        · skip
          have i_9 : 0 ≤ x_2.toInt ∧ x_2.toInt ≤ 0 := iv_le1 i_x_2 (⟨by decide, by decide⟩ : (0 : Int) ≤ (0 : Int32).toInt ∧ (0 : Int32).toInt ≤ 0) c_8
          exact hj_26  _ _ ls  hP hS (lv_sub hl [0, 1, 2] rfl)
        · skip
          have i_10 : 1 ≤ x_2.toInt ∧ x_2.toInt ≤ 79 := iv_lt2 (⟨by decide, by decide⟩ : (0 : Int) ≤ (0 : Int32).toInt ∧ (0 : Int32).toInt ≤ 0) i_x_2 (Int32.not_le.mp c_8)
          refine lv_aload_n hx hb dX9_sortIn_9 rfl (lv_at hl 0 rfl) ?_
          refine gX_X9_9 hx hb htg hown hK hP dX9_sortIn_10 ?_
          refine gX_X9_54 hx hb htg hown hK hP dX9_sortIn_13 ?_
          refine gX_X9_74 hx hb htg hown hK hP dX9_sortIn_16 ?_
          refine lv_aload_n hx hb dX9_sortIn_19 rfl (lv_at hl 0 rfl) ?_
          refine gX_X9_17 hx hb htg hown hK hP dX9_sortIn_20 ?_
          refine lv_iload_n hx hb dX9_sortIn_23 rfl (lv_at hl 2 rfl) ?_
          refine lv_iconst (v := 1) hx hb dX9_sortIn_24 (by decide) ?_
          refine lv_isub hx hb dX9_sortIn_25 ?_
          refine lv_topi (fun v_11 ev_11 => ?_)
          have t_12 : v_11.toInt = x_2.toInt - 1 ∧ 0 ≤ v_11.toInt ∧ v_11.toInt ≤ 78 := iv_subc ev_11 i_10 (by decide) (by decide) (by decide)
          refine lX_58 hx hb hK hP (iv_in t_12.2 (by decide) (by decide)) dX9_sortIn_26 (fun v_14 ev_14 => ?_)
          have i_15 : 0 ≤ v_14.toInt ∧ v_14.toInt ≤ 79 := ev_14 ▸ hA_ar_3 58 _
          refine lX_31 hx hb hK hP (iv_in i_15 (by decide) (by decide)) dX9_sortIn_27 (fun v_16 ev_16 => ?_)
          refine lv_aload_n hx hb dX9_sortIn_28 rfl (lv_at hl 0 rfl) ?_
          refine gX_X9_9 hx hb htg hown hK hP dX9_sortIn_29 ?_
          refine gX_X9_54 hx hb htg hown hK hP dX9_sortIn_32 ?_
          refine gX_X9_74 hx hb htg hown hK hP dX9_sortIn_35 ?_
          refine lv_iload_n hx hb dX9_sortIn_38 rfl (lv_at hl 1 rfl) ?_
          refine lX_31 hx hb hK hP (iv_in h_kk (by decide) (by decide)) dX9_sortIn_39 (fun v_17 ev_17 => ?_)
          refine lv_icmp_ge (tgt := 63) hx hb dX9_sortIn_40 (by decide) (fun c_18 => ?_) (fun c_18 => ?_)
          · skip
            exact hj_26  _ _ ls  hP hS (lv_sub hl [0, 1, 2] rfl)
          · skip
            have i_19 : (-2147483648) ≤ v_16.toInt ∧ v_16.toInt ≤ 2147483646 := iv_lt1 (iv_any v_16) (iv_any v_17) (Int32.not_le.mp c_18)
            have i_20 : (-2147483647) ≤ v_17.toInt ∧ v_17.toInt ≤ 2147483647 := iv_lt2 (iv_any v_16) (iv_any v_17) (Int32.not_le.mp c_18)
            refine lv_aload_n hx hb dX9_sortIn_43 rfl (lv_at hl 0 rfl) ?_
            refine gX_X9_17 hx hb htg hown hK hP dX9_sortIn_44 ?_
            refine lv_iload_n hx hb dX9_sortIn_47 rfl (lv_at hl 2 rfl) ?_
            refine lv_aload_n hx hb dX9_sortIn_48 rfl (lv_at hl 0 rfl) ?_
            refine gX_X9_17 hx hb htg hown hK hP dX9_sortIn_49 ?_
            refine lv_iload_n hx hb dX9_sortIn_52 rfl (lv_at hl 2 rfl) ?_
            refine lv_iconst (v := 1) hx hb dX9_sortIn_53 (by decide) ?_
            refine lv_isub hx hb dX9_sortIn_54 ?_
            refine my_ti (y := v_11) ev_11.symm ?_
            refine lX_58 hx hb hK hP (iv_in t_12.2 (by decide) (by decide)) dX9_sortIn_55 (fun v_21 ev_21 => ?_)
            obtain rfl : v_14 = v_21 := ev_14.trans ev_21.symm
            refine sX_58 hx hb hK hP hS hd (iv_in i_10 (by decide) (by decide)) dX9_sortIn_56 (fun H locs ar_22 ear_22 hP hS => ?_)
            have hA_ar_22 : rB ar_22 := rB_put hA_ar_3 ear_22 i_15
            obtain ⟨v_23, ev_23⟩ : ∃ z : Int32, z = x_2 + (-1) := ⟨_, rfl⟩
            refine lv_iinc (v := v_23) (lv' := [(2, .int v_23), (0, .ref (ob 9)), (1, .int kk)]) hx hb dX9_sortIn_57 hl (k := 2) rfl (by rw [ev_23]; rfl) (by decide) rfl (fun ls hl => ?_)
            have t_24 : v_23.toInt = x_2.toInt + (-1) ∧ 0 ≤ v_23.toInt ∧ v_23.toInt ≤ 78 := iv_addc ev_23 i_10 (by decide) (by decide) (by decide)
            refine lv_goto (tgt := 5) hx hb dX9_sortIn_60 (by decide) ?_
            exact ih_5 v_23 ar_22 _ _ ls (by omega) (iv_w t_24.2 (by decide) (by decide)) hA_ar_22 (fA_put (fA_call (fA_rf [58] _) fa_4 (by decide)) ear_22 (by decide)) hP hS (lv_sub hl [1, 2, 0] rfl)
  · skip
    exact hj_7 80 (fv 24) ar _ _ ls (by omega) i_1 hA_ar (fA_rf [58] _) hP hS (lv_sub hl [1, 2, 0] rfl)
set_option maxHeartbeats 4000000 in
set_option maxRecDepth 100000 in
theorem x_goesToday (l : Launch) (dC : Nat → ClassId) (dI : Nat → Nat → Nat) (sz : Nat) (ob ad : Nat → Nat) (cA : Nat → ClassId) (hd : dX ob ad) (fv : Nat → Int32) (wd : xT) (ar : Nat → Nat → Int32) (hF_fv : rX fv) (hA_ar : rB ar) (kk : Int32) (h_kk : 0 ≤ kk.toInt ∧ kk.toInt ≤ 79) : Met l yX1_goesToday (.code yX1_goesToday cX1_goesToday 2 (some .boolean) :: lw_good) ({ frames := 3, cells := 0, slots := 0, locals := 62 }) (va_Pc [.ref (ob 8), .int kk] (prX dC dI ob ad cA fv wd ar sz)) (va_Qi (fun (r : Int32) (u : xS) => rX u.1 ∧ rB u.2.2 ∧ fM [] fv u.1 ∧ fA [] ar u.2.2 ∧ u.2.1.2 = wd.2 ∧ (0 ≤ r.toInt ∧ r.toInt ≤ 1) ∧ True) (enX dC dI ob ad cA) (aX ob ad sz)) 0 0 (aX ob ad sz) := by
  refine Met.ofW (cc := cX1_goesToday) (maxL := 2) (ret := (some .boolean)) (by decide) rfl ?_
  intro p e s m args below meth c s₁ B hml hv
  obtain ⟨rfl, hsz, hP, hK⟩ := hv
  have hx := B.exec
  have hb := B.bytes
  have hr := B.returns
  have hts := atoms_spec (ws := (.code yX1_goesToday cX1_goesToday 2 (some .boolean) :: lw_good)) B.pre
  have htg : ∀ w ∈ lw_good, w.before _ s = true := fun w hw => hts w (List.mem_cons_of_mem _ hw)
  have hown : s.vm.findClass RX1 = some m.cls := findClass_of_methodNamed B.named
  have hlocks := B.notSynchronized
  subst hsz
  have hS : va_S (aX ob ad s.heap.size) s.heap s.heap [] := va_S.rf
  have hl := lv_entry ([.ref (ob 8), .int kk]) (n := 2) (Nat.le_of_ble_eq_true rfl)
  rw [lg_entry_eq]
  generalize (lg_sl ([.ref (ob 8), .int kk]) ++ List.replicate (2 - (lg_sl ([.ref (ob 8), .int kk])).length) Slot.unset).toArray = ls at hl ⊢
  have hl : lv_has ls 2 [(0, .ref (ob 8)), (1, .int kk)] := hl
  refine lv_aload_n hx hb dX1_goesToday_0 rfl (lv_at hl 0 rfl) ?_
  refine gX_X1_9 hx hb htg hown hK hP dX1_goesToday_1 ?_
  refine gX_X1_157 hx hb htg hown hK hP dX1_goesToday_4 ?_
  refine lv_iload_n hx hb dX1_goesToday_7 rfl (lv_at hl 1 rfl) ?_
  refine lv_aload_n hx hb dX1_goesToday_8 rfl (lv_at hl 0 rfl) ?_
  refine gX_X1_9 hx hb htg hown hK hP dX1_goesToday_9 ?_
  refine gX_X1_169 hx hb htg hown hK hP dX1_goesToday_12 ?_
  have i_1 : 0 ≤ (fv 7).toInt ∧ (fv 7).toInt ≤ 199 := hF_fv 7
  refine va_calli (va_runV (As := [.int kk, .int (fv 7)]) (rest := []) ⟨hx, hb, hml, hown, hts⟩ (x_runs l dC dI s.heap.size ob ad cA hd fv wd ar hF_fv hA_ar kk (fv 7) h_kk) (cwV 2 hts (gV kw_5_85 kw_5_86 kw_5_87 kw_1_6 kw_5_88) rfl rfl rfl (by decide +kernel) ⟨Nat.le_of_ble_eq_true rfl, Nat.le_of_ble_eq_true rfl⟩) ⟨fun a U g mk q => ⟨q.1, q.2.1, q.2.2.1, va_K.moved (u := U) (U := U.calling g mk a) (Vm.Alike.refl U.vm) q.2.2.2⟩, va_recv hK hP (ci := 8) (q0 := 5) rfl rfl, fun U hU hW => ⟨rfl, by rw [hU], by rw [hU]; exact hP, va_K.moved hW.alike hK⟩⟩ rfl rfl hl.1 rfl (lv_room (Nat.le_of_ble_eq_true rfl)) dX1_goesToday_15 ⟨Nat.le_of_ble_eq_true rfl, Nat.le_of_ble_eq_true rfl⟩) hS (fun q _ h9 => aX_up hS q h9) (aX_up hS) (fun r_2 u t H1 locs ht _ hw hB _ hk1 hS => ?_)
  obtain ⟨fv_4, wd_5, ar_6⟩ := u
  obtain ⟨hF_fv_4, hA_ar_6, fr_7, fa_8, wf_9, p_3, -⟩ := hw
  have wf_9 : wd_5.2 = wd.2 := wf_9
  have hP : va_P (dC, dI) vwCl (wsX ob ad cA fv_4 wd_5 ar_6) H1 := by have h9 := hB.1; rw [ht] at h9; exact h9
  have fr_7 : fM [] fv fv_4 := fr_7
  have fa_8 : fA [] ar ar_6 := fa_8
  generalize H1 = H at hP hS ⊢
  refine lv_if_eq (tgt := 44) hx hb dX1_goesToday_18 (by decide) (fun c_10 => ?_) (fun c_10 => ?_)
  · skip
    have i_11 : 0 ≤ r_2.toInt ∧ r_2.toInt ≤ 0 := iv_eq1 (⟨by decide, by decide⟩ : (0 : Int) ≤ (0 : Int32).toInt ∧ (0 : Int32).toInt ≤ 0) c_10
    refine lv_iconst (v := 0) hx hb dX1_goesToday_44 (by decide) ?_
    exact W.zret (v := 0) hx hb hr (by decide) (fun t ht hW => ⟨⟨0, (fv_4, wd_5, ar_6), rfl, ⟨hF_fv_4, hA_ar_6, (fM_call (fM_rf [] _) fr_7 (by decide)), (fA_call (fA_rf [] _) fa_8 (by decide)), wf_9, (iv_w (⟨by decide, by decide⟩ : (0 : Int) ≤ (0 : Int32).toInt ∧ (0 : Int32).toInt ≤ 0) (by decide) (by decide)), trivial⟩, ⟨by rw [ht]; exact hP, va_K.moved hW.alike hK⟩⟩, hS.F ht⟩) hS.2.2 dX1_goesToday_45
  · skip
    have i_12 : 1 ≤ r_2.toInt ∧ r_2.toInt ≤ 1 := iv_nel p_3 (by decide) c_10
    refine lv_aload_n hx hb dX1_goesToday_21 rfl (lv_at hl 0 rfl) ?_
    refine gX_X1_9 hx hb htg hown hK hP dX1_goesToday_22 ?_
    refine gX_X1_157 hx hb htg hown hK hP dX1_goesToday_25 ?_
    refine gX_X1_176 hx hb htg hown hK hP dX1_goesToday_28 ?_
    refine lv_iload_n hx hb dX1_goesToday_31 rfl (lv_at hl 1 rfl) ?_
    refine lX_28 hx hb hK hP (iv_in h_kk (by decide) (by decide)) dX1_goesToday_32 (fun v_13 ev_13 => ?_)
    have i_14 : 0 ≤ v_13.toInt ∧ v_13.toInt ≤ 19 := ev_13 ▸ hA_ar_6 28 _
    refine lv_aload_n hx hb dX1_goesToday_33 rfl (lv_at hl 0 rfl) ?_
    refine gX_X1_82 hx hb htg hown hK hP dX1_goesToday_34 ?_
    refine my_ti (y := fv 22) ((fr_7 22 rfl)) ?_
    refine lv_icmp_eq (tgt := 44) hx hb dX1_goesToday_37 (by decide) (fun c_15 => ?_) (fun c_15 => ?_)
    · skip
      have i_16 : 0 ≤ (fv 22).toInt ∧ (fv 22).toInt ≤ 19 := iv_eq1 i_14 c_15.symm
      refine lv_iconst (v := 0) hx hb dX1_goesToday_44 (by decide) ?_
      exact W.zret (v := 0) hx hb hr (by decide) (fun t ht hW => ⟨⟨0, (fv_4, wd_5, ar_6), rfl, ⟨hF_fv_4, hA_ar_6, (fM_call (fM_rf [] _) fr_7 (by decide)), (fA_call (fA_rf [] _) fa_8 (by decide)), wf_9, (iv_w (⟨by decide, by decide⟩ : (0 : Int) ≤ (0 : Int32).toInt ∧ (0 : Int32).toInt ≤ 0) (by decide) (by decide)), trivial⟩, ⟨by rw [ht]; exact hP, va_K.moved hW.alike hK⟩⟩, hS.F ht⟩) hS.2.2 dX1_goesToday_45
    · skip
      refine lv_iconst (v := 1) hx hb dX1_goesToday_40 (by decide) ?_
      refine lv_goto (tgt := 45) hx hb dX1_goesToday_41 (by decide) ?_
      exact W.zret (v := 1) hx hb hr (by decide) (fun t ht hW => ⟨⟨1, (fv_4, wd_5, ar_6), rfl, ⟨hF_fv_4, hA_ar_6, (fM_call (fM_rf [] _) fr_7 (by decide)), (fA_call (fA_rf [] _) fa_8 (by decide)), wf_9, (iv_w (⟨by decide, by decide⟩ : (1 : Int) ≤ (1 : Int32).toInt ∧ (1 : Int32).toInt ≤ 1) (by decide) (by decide)), trivial⟩, ⟨by rw [ht]; exact hP, va_K.moved hW.alike hK⟩⟩, hS.F ht⟩) hS.2.2 dX1_goesToday_45
set_option maxHeartbeats 4000000 in
set_option maxRecDepth 100000 in
theorem x_markBusy (l : Launch) (dC : Nat → ClassId) (dI : Nat → Nat → Nat) (sz : Nat) (ob ad : Nat → Nat) (cA : Nat → ClassId) (hd : dX ob ad) (fv : Nat → Int32) (wd : xT) (ar : Nat → Nat → Int32) (hF_fv : rX fv) (hA_ar : rB ar) (a : Int32) : Met l yX1_markBusy (.code yX1_markBusy cX1_markBusy 2 none :: lw_good) ({ frames := 2, cells := 0, slots := 0, locals := 40 }) (va_Pc [.ref (ob 8), .int a] (prX dC dI ob ad cA fv wd ar sz)) (va_Qv (fun (u : xS) => rX u.1 ∧ rB u.2.2 ∧ fM [] fv u.1 ∧ fA [57] ar u.2.2 ∧ u.2.1.2 = wd.2 ∧ True) (enX dC dI ob ad cA) (aX ob ad sz)) 0 0 (aX ob ad sz) := by
  refine Met.ofW (cc := cX1_markBusy) (maxL := 2) (ret := none) (by decide) rfl ?_
  intro p e s m args below meth c s₁ B hml hv
  obtain ⟨rfl, hsz, hP, hK⟩ := hv
  have hx := B.exec
  have hb := B.bytes
  have hr := B.returns
  have hts := atoms_spec (ws := (.code yX1_markBusy cX1_markBusy 2 none :: lw_good)) B.pre
  have htg : ∀ w ∈ lw_good, w.before _ s = true := fun w hw => hts w (List.mem_cons_of_mem _ hw)
  have hown : s.vm.findClass RX1 = some m.cls := findClass_of_methodNamed B.named
  have hlocks := B.notSynchronized
  subst hsz
  have hS : va_S (aX ob ad s.heap.size) s.heap s.heap [] := va_S.rf
  have hl := lv_entry ([.ref (ob 8), .int a]) (n := 2) (Nat.le_of_ble_eq_true rfl)
  rw [lg_entry_eq]
  generalize (lg_sl ([.ref (ob 8), .int a]) ++ List.replicate (2 - (lg_sl ([.ref (ob 8), .int a])).length) Slot.unset).toArray = ls at hl ⊢
  have hl : lv_has ls 2 [(0, .ref (ob 8)), (1, .int a)] := hl
  refine lv_iload_n hx hb dX1_markBusy_0 rfl (lv_at hl 1 rfl) ?_
  refine lv_if_lt (tgt := 18) hx hb dX1_markBusy_1 (by decide) (fun c_1 => ?_) (fun c_1 => ?_)
  · skip
    have i_2 : (-2147483648) ≤ a.toInt ∧ a.toInt ≤ (-1) := iv_lt1 (iv_any a) (⟨by decide, by decide⟩ : (0 : Int) ≤ (0 : Int32).toInt ∧ (0 : Int32).toInt ≤ 0) c_1
    exact W.vret hx hb hr (fun t ht hW => ⟨⟨(fv, wd, ar), rfl, ⟨hF_fv, hA_ar, (fM_rf [] _), (fA_rf [57] _), rfl, trivial⟩, ⟨by rw [ht]; exact hP, va_K.moved hW.alike hK⟩⟩, hS.F ht⟩) hS.2.2 dX1_markBusy_18
  · skip
    have i_3 : 0 ≤ a.toInt ∧ a.toInt ≤ 2147483647 := iv_le2 (⟨by decide, by decide⟩ : (0 : Int) ≤ (0 : Int32).toInt ∧ (0 : Int32).toInt ≤ 0) (iv_any a) (Int32.not_lt.mp c_1)
    refine lv_iload_n hx hb dX1_markBusy_4 rfl (lv_at hl 1 rfl) ?_
    refine lv_sipush (v := 840) hx hb dX1_markBusy_5 (by decide) ?_
    refine lv_icmp_ge (tgt := 18) hx hb dX1_markBusy_8 (by decide) (fun c_4 => ?_) (fun c_4 => ?_)
    · skip
      have i_5 : 840 ≤ a.toInt ∧ a.toInt ≤ 2147483647 := iv_le2 (⟨by decide, by decide⟩ : (840 : Int) ≤ (840 : Int32).toInt ∧ (840 : Int32).toInt ≤ 840) i_3 c_4
      exact W.vret hx hb hr (fun t ht hW => ⟨⟨(fv, wd, ar), rfl, ⟨hF_fv, hA_ar, (fM_rf [] _), (fA_rf [57] _), rfl, trivial⟩, ⟨by rw [ht]; exact hP, va_K.moved hW.alike hK⟩⟩, hS.F ht⟩) hS.2.2 dX1_markBusy_18
    · skip
      have i_6 : 0 ≤ a.toInt ∧ a.toInt ≤ 839 := iv_lt1 i_3 (⟨by decide, by decide⟩ : (840 : Int) ≤ (840 : Int32).toInt ∧ (840 : Int32).toInt ≤ 840) (Int32.not_le.mp c_4)
      refine lv_aload_n hx hb dX1_markBusy_11 rfl (lv_at hl 0 rfl) ?_
      refine gX_X1_79 hx hb htg hown hK hP dX1_markBusy_12 ?_
      refine lv_iload_n hx hb dX1_markBusy_15 rfl (lv_at hl 1 rfl) ?_
      refine lv_iconst (v := 1) hx hb dX1_markBusy_16 (by decide) ?_
      refine sX_57 hx hb hK hP hS hd (iv_in i_6 (by decide) (by decide)) dX1_markBusy_17 (fun H locs ar_7 ear_7 hP hS => ?_)
      have hA_ar_7 : rB ar_7 := rB_put hA_ar ear_7 (iv_any _)
      exact W.vret hx hb hr (fun t ht hW => ⟨⟨(fv, wd, ar_7), rfl, ⟨hF_fv, hA_ar_7, (fM_rf [] _), (fA_put (fA_rf [57] _) ear_7 (by decide)), rfl, trivial⟩, ⟨by rw [ht]; exact hP, va_K.moved hW.alike hK⟩⟩, hS.F ht⟩) hS.2.2 dX1_markBusy_18
set_option maxHeartbeats 4000000 in
set_option maxRecDepth 100000 in
theorem x_readyPeople (l : Launch) (dC : Nat → ClassId) (dI : Nat → Nat → Nat) (sz : Nat) (ob ad : Nat → Nat) (cA : Nat → ClassId) (hd : dX ob ad) (fv : Nat → Int32) (wd : xT) (ar : Nat → Nat → Int32) (hF_fv : rX fv) (hA_ar : rB ar) : Met l yX1_readyPeople (.code yX1_readyPeople cX1_readyPeople 2 none :: lw_good) ({ frames := 4, cells := 0, slots := 0, locals := 85 }) (va_Pc [.ref (ob 8)] (prX dC dI ob ad cA fv wd ar sz)) (va_Qv (fun (u : xS) => rX u.1 ∧ rB u.2.2 ∧ fM [] fv u.1 ∧ fA [44, 45, 46, 47, 48, 49, 50, 57, 64] ar u.2.2 ∧ u.2.1.2 = wd.2 ∧ True) (enX dC dI ob ad cA) (aX ob ad sz)) 0 0 (aX ob ad sz) := by
  refine Met.ofW (cc := cX1_readyPeople) (maxL := 2) (ret := none) (by decide) rfl ?_
  intro p e s m args below meth c s₁ B hml hv
  obtain ⟨rfl, hsz, hP, hK⟩ := hv
  have hx := B.exec
  have hb := B.bytes
  have hr := B.returns
  have hts := atoms_spec (ws := (.code yX1_readyPeople cX1_readyPeople 2 none :: lw_good)) B.pre
  have htg : ∀ w ∈ lw_good, w.before _ s = true := fun w hw => hts w (List.mem_cons_of_mem _ hw)
  have hown : s.vm.findClass RX1 = some m.cls := findClass_of_methodNamed B.named
  have hlocks := B.notSynchronized
  subst hsz
  have hS : va_S (aX ob ad s.heap.size) s.heap s.heap [] := va_S.rf
  have hl := lv_entry ([.ref (ob 8)]) (n := 2) (Nat.le_of_ble_eq_true rfl)
  rw [lg_entry_eq]
  generalize (lg_sl ([.ref (ob 8)]) ++ List.replicate (2 - (lg_sl ([.ref (ob 8)])).length) Slot.unset).toArray = ls at hl ⊢
  have hl : lv_has ls 2 [(0, .ref (ob 8))] := hl
  refine lv_iconst (v := 0) hx hb dX1_readyPeople_0 (by decide) ?_
  refine lv_istore_n (lv' := [(1, .int 0), (0, .ref (ob 8))]) hx hb dX1_readyPeople_1 rfl hl (by decide) rfl (fun ls hl => ?_)
  refine my_cut (P := fun R9 a9 Q9 => ∀ (n_8 : Nat) (x_1 : Int32) (fv_2 : Nat → Int32) (ar_4 : Nat → Nat → Int32) (wd_6 : xT) (H : Heap) (locs : List Loc) (ls : Array Slot), 40 - x_1.toInt < (n_8 : Int) → (0 ≤ x_1.toInt ∧ x_1.toInt ≤ 40) → rX fv_2 → fM [] fv fv_2 → rB ar_4 → fA [44, 45, 46, 47, 48, 49, 50, 57, 64] ar ar_4 → wd_6.2 = wd.2 → va_P (dC, dI) vwCl (wsX ob ad cA fv_2 wd_6 ar_4) H → va_S (aX ob ad s.heap.size) s.heap H locs → lv_has ls 2 [(0, .ref (ob 8)), (1, .int x_1)] → W p l e R9 s m a9 below meth c H locs 0 0 Q9 (F0 m 2 ls [])) ?_ (fun hj_10 => ?_)
  · intro n_8
    induction n_8 with
    | zero => intro x_1 fv_2 ar_4 wd_6 H locs ls fu_9 i_x_1 hF_fv_2 fr_3 hA_ar_4 fa_5 wf_7; exfalso; omega
    | succ n_8 ih_8 =>
      intro x_1 fv_2 ar_4 wd_6 H locs ls fu_9 i_x_1 hF_fv_2 fr_3 hA_ar_4 fa_5 wf_7 hP hS hl
      refine lv_iload_n hx hb dX1_readyPeople_2 rfl (lv_at hl 1 rfl) ?_
      refine lv_aload_n hx hb dX1_readyPeople_3 rfl (lv_at hl 0 rfl) ?_
      refine gX_X1_9 hx hb htg hown hK hP dX1_readyPeople_4 ?_
      refine gX_X1_129 hx hb htg hown hK hP dX1_readyPeople_7 ?_
      refine gX_X1_133 hx hb htg hown hK hP dX1_readyPeople_10 ?_
      refine my_ti (y := fv 10) ((fr_3 10 rfl)) ?_
      have i_11 : 0 ≤ (fv 10).toInt ∧ (fv 10).toInt ≤ 40 := hF_fv 10
      refine lv_icmp_ge (tgt := 123) hx hb dX1_readyPeople_13 (by decide) (fun c_12 => ?_) (fun c_12 => ?_)
      · skip
        exact W.vret hx hb hr (fun t ht hW => ⟨⟨(fv_2, wd_6, ar_4), rfl, ⟨hF_fv_2, hA_ar_4, (fM_call (fM_rf [] _) fr_3 (by decide)), (fA_call (fA_rf [44, 45, 46, 47, 48, 49, 50, 57, 64] _) fa_5 (by decide)), wf_7, trivial⟩, ⟨by rw [ht]; exact hP, va_K.moved hW.alike hK⟩⟩, hS.F ht⟩) hS.2.2 dX1_readyPeople_123
      · skip
        have i_13 : 0 ≤ x_1.toInt ∧ x_1.toInt ≤ 39 := iv_lt1 i_x_1 i_11 (Int32.not_le.mp c_12)
        have i_14 : 1 ≤ (fv 10).toInt ∧ (fv 10).toInt ≤ 40 := iv_lt2 i_x_1 i_11 (Int32.not_le.mp c_12)
        refine lv_aload_n hx hb dX1_readyPeople_16 rfl (lv_at hl 0 rfl) ?_
        refine gX_X1_35 hx hb htg hown hK hP dX1_readyPeople_17 ?_
        refine lv_iload_n hx hb dX1_readyPeople_20 rfl (lv_at hl 1 rfl) ?_
        refine lv_aload_n hx hb dX1_readyPeople_21 rfl (lv_at hl 0 rfl) ?_
        refine gX_X1_9 hx hb htg hown hK hP dX1_readyPeople_22 ?_
        refine gX_X1_129 hx hb htg hown hK hP dX1_readyPeople_25 ?_
        refine gX_X1_136 hx hb htg hown hK hP dX1_readyPeople_28 ?_
        refine lv_iload_n hx hb dX1_readyPeople_31 rfl (lv_at hl 1 rfl) ?_
        refine lX_13 hx hb hK hP (iv_in i_13 (by decide) (by decide)) dX1_readyPeople_32 (fun v_15 ev_15 => ?_)
        refine sX_44 hx hb hK hP hS hd (iv_in i_13 (by decide) (by decide)) dX1_readyPeople_33 (fun H locs ar_16 ear_16 hP hS => ?_)
        have hA_ar_16 : rB ar_16 := rB_put hA_ar_4 ear_16 (iv_any _)
        refine lv_aload_n hx hb dX1_readyPeople_34 rfl (lv_at hl 0 rfl) ?_
        refine gX_X1_39 hx hb htg hown hK hP dX1_readyPeople_35 ?_
        refine lv_iload_n hx hb dX1_readyPeople_38 rfl (lv_at hl 1 rfl) ?_
        refine lv_aload_n hx hb dX1_readyPeople_39 rfl (lv_at hl 0 rfl) ?_
        refine gX_X1_9 hx hb htg hown hK hP dX1_readyPeople_40 ?_
        refine gX_X1_129 hx hb htg hown hK hP dX1_readyPeople_43 ?_
        refine gX_X1_137 hx hb htg hown hK hP dX1_readyPeople_46 ?_
        refine lv_iload_n hx hb dX1_readyPeople_49 rfl (lv_at hl 1 rfl) ?_
        refine lX_12 hx hb hK hP (iv_in i_13 (by decide) (by decide)) dX1_readyPeople_50 (fun v_17 ev_17 => ?_)
        refine sX_45 hx hb hK hP hS hd (iv_in i_13 (by decide) (by decide)) dX1_readyPeople_51 (fun H locs ar_18 ear_18 hP hS => ?_)
        have hA_ar_18 : rB ar_18 := rB_put hA_ar_16 ear_18 (iv_any _)
        refine lv_aload_n hx hb dX1_readyPeople_52 rfl (lv_at hl 0 rfl) ?_
        refine gX_X1_20 hx hb htg hown hK hP dX1_readyPeople_53 ?_
        refine lv_iload_n hx hb dX1_readyPeople_56 rfl (lv_at hl 1 rfl) ?_
        refine lv_aload_n hx hb dX1_readyPeople_57 rfl (lv_at hl 0 rfl) ?_
        refine gX_X1_39 hx hb htg hown hK hP dX1_readyPeople_58 ?_
        refine lv_iload_n hx hb dX1_readyPeople_61 rfl (lv_at hl 1 rfl) ?_
        refine lX_45 hx hb hK hP (iv_in i_13 (by decide) (by decide)) dX1_readyPeople_62 (fun v_19 ev_19 => ?_)
        refine va_callv (va_runV (As := [.int x_1, .int v_19]) (rest := []) ⟨hx, hb, hml, hown, hts⟩ (x_setPace l dC dI H.size ob ad cA hd fv_2 wd_6 ar_18 hF_fv_2 hA_ar_18 x_1 v_19 i_13) (cwV 2 hts (gV kw_5_61 kw_5_62 kw_5_63 kw_1_13 kw_5_64) rfl rfl rfl (by decide +kernel) ⟨Nat.le_of_ble_eq_true rfl, Nat.le_of_ble_eq_true rfl⟩) ⟨fun a U g mk q => ⟨q.1, q.2.1, q.2.2.1, va_K.moved (u := U) (U := U.calling g mk a) (Vm.Alike.refl U.vm) q.2.2.2⟩, va_recv hK hP (ci := 9) (q0 := 9) rfl rfl, fun U hU hW => ⟨rfl, by rw [hU], by rw [hU]; exact hP, va_K.moved hW.alike hK⟩⟩ rfl rfl hl.1 rfl (lv_room (Nat.le_of_ble_eq_true rfl)) dX1_readyPeople_63 ⟨Nat.le_of_ble_eq_true rfl, Nat.le_of_ble_eq_true rfl⟩) hS (fun q _ h9 => aX_up hS q h9) (aX_up hS) (fun u t H1 locs ht _ hw hB _ hk1 hS => ?_)
        obtain ⟨fv_21, wd_22, ar_23⟩ := u
        obtain ⟨hF_fv_21, hA_ar_23, fr_24, fa_25, wf_26, -⟩ := hw
        have wf_26 : wd_22.2 = wd_6.2 := wf_26
        have hP : va_P (dC, dI) vwCl (wsX ob ad cA fv_21 wd_22 ar_23) H1 := by have h9 := hB.1; rw [ht] at h9; exact h9
        have fr_24 : fM [] fv_2 fv_21 := fr_24
        have fa_25 : fA [64] ar_18 ar_23 := fa_25
        generalize H1 = H at hP hS ⊢
        refine lv_aload_n hx hb dX1_readyPeople_66 rfl (lv_at hl 0 rfl) ?_
        refine gX_X1_42 hx hb htg hown hK hP dX1_readyPeople_67 ?_
        refine lv_iload_n hx hb dX1_readyPeople_70 rfl (lv_at hl 1 rfl) ?_
        refine lv_iconst (v := (-1)) hx hb dX1_readyPeople_71 (by decide) ?_
        refine sX_46 hx hb hK hP hS hd (iv_in i_13 (by decide) (by decide)) dX1_readyPeople_72 (fun H locs ar_27 ear_27 hP hS => ?_)
        have hA_ar_27 : rB ar_27 := rB_put hA_ar_23 ear_27 (iv_any _)
        refine lv_aload_n hx hb dX1_readyPeople_73 rfl (lv_at hl 0 rfl) ?_
        refine gX_X1_45 hx hb htg hown hK hP dX1_readyPeople_74 ?_
        refine lv_iload_n hx hb dX1_readyPeople_77 rfl (lv_at hl 1 rfl) ?_
        refine lv_iconst (v := 0) hx hb dX1_readyPeople_78 (by decide) ?_
        refine sX_47 hx hb hK hP hS hd (iv_in i_13 (by decide) (by decide)) dX1_readyPeople_79 (fun H locs ar_28 ear_28 hP hS => ?_)
        have hA_ar_28 : rB ar_28 := rB_put hA_ar_27 ear_28 (iv_any _)
        refine lv_aload_n hx hb dX1_readyPeople_80 rfl (lv_at hl 0 rfl) ?_
        refine gX_X1_48 hx hb htg hown hK hP dX1_readyPeople_81 ?_
        refine lv_iload_n hx hb dX1_readyPeople_84 rfl (lv_at hl 1 rfl) ?_
        refine lv_iconst (v := 0) hx hb dX1_readyPeople_85 (by decide) ?_
        refine sX_48 hx hb hK hP hS hd (iv_in i_13 (by decide) (by decide)) dX1_readyPeople_86 (fun H locs ar_29 ear_29 hP hS => ?_)
        have hA_ar_29 : rB ar_29 := rB_put hA_ar_28 ear_29 (iv_any _)
        refine lv_aload_n hx hb dX1_readyPeople_87 rfl (lv_at hl 0 rfl) ?_
        refine gX_X1_51 hx hb htg hown hK hP dX1_readyPeople_88 ?_
        refine lv_iload_n hx hb dX1_readyPeople_91 rfl (lv_at hl 1 rfl) ?_
        refine lv_iconst (v := (-1)) hx hb dX1_readyPeople_92 (by decide) ?_
        refine sX_49 hx hb hK hP hS hd (iv_in i_13 (by decide) (by decide)) dX1_readyPeople_93 (fun H locs ar_30 ear_30 hP hS => ?_)
        have hA_ar_30 : rB ar_30 := rB_put hA_ar_29 ear_30 (iv_w (⟨by decide, by decide⟩ : (-1 : Int) ≤ ((-1) : Int32).toInt ∧ ((-1) : Int32).toInt ≤ -1) (by decide) (by decide))
        refine lv_aload_n hx hb dX1_readyPeople_94 rfl (lv_at hl 0 rfl) ?_
        refine gX_X1_54 hx hb htg hown hK hP dX1_readyPeople_95 ?_
        refine lv_iload_n hx hb dX1_readyPeople_98 rfl (lv_at hl 1 rfl) ?_
        refine lv_iconst (v := (-1)) hx hb dX1_readyPeople_99 (by decide) ?_
        refine sX_50 hx hb hK hP hS hd (iv_in i_13 (by decide) (by decide)) dX1_readyPeople_100 (fun H locs ar_31 ear_31 hP hS => ?_)
        have hA_ar_31 : rB ar_31 := rB_put hA_ar_30 ear_31 (iv_w (⟨by decide, by decide⟩ : (-1 : Int) ≤ ((-1) : Int32).toInt ∧ ((-1) : Int32).toInt ≤ -1) (by decide) (by decide))
        refine lv_aload_n hx hb dX1_readyPeople_101 rfl (lv_at hl 0 rfl) ?_
        refine lv_aload_n hx hb dX1_readyPeople_102 rfl (lv_at hl 0 rfl) ?_
        refine gX_X1_9 hx hb htg hown hK hP dX1_readyPeople_103 ?_
        refine gX_X1_129 hx hb htg hown hK hP dX1_readyPeople_106 ?_
        refine gX_X1_142 hx hb htg hown hK hP dX1_readyPeople_109 ?_
        refine lv_iload_n hx hb dX1_readyPeople_112 rfl (lv_at hl 1 rfl) ?_
        refine lX_9 hx hb hK hP (iv_in i_13 (by decide) (by decide)) dX1_readyPeople_113 (fun v_32 ev_32 => ?_)
        refine va_callv (va_runV (As := [.int v_32]) (rest := []) ⟨hx, hb, hml, hown, hts⟩ (x_markBusy l dC dI H.size ob ad cA hd fv_21 wd_22 ar_31 hF_fv_21 hA_ar_31 v_32) (cwV 1 hts (gV kw_5_69 kw_5_71 kw_p_22 kw_1_12 kw_5_72) rfl rfl rfl (by decide +kernel) ⟨Nat.le_of_ble_eq_true rfl, Nat.le_of_ble_eq_true rfl⟩) ⟨fun a U g mk q => ⟨q.1, q.2.1, q.2.2.1, va_K.moved (u := U) (U := U.calling g mk a) (Vm.Alike.refl U.vm) q.2.2.2⟩, va_recv hK hP (ci := 2) (q0 := 8) rfl rfl, fun U hU hW => ⟨rfl, by rw [hU], by rw [hU]; exact hP, va_K.moved hW.alike hK⟩⟩ rfl rfl hl.1 rfl (lv_room (Nat.le_of_ble_eq_true rfl)) dX1_readyPeople_114 ⟨Nat.le_of_ble_eq_true rfl, Nat.le_of_ble_eq_true rfl⟩) hS (fun q _ h9 => aX_up hS q h9) (aX_up hS) (fun u t H1 locs ht _ hw hB _ hk1 hS => ?_)
        obtain ⟨fv_34, wd_35, ar_36⟩ := u
        obtain ⟨hF_fv_34, hA_ar_36, fr_37, fa_38, wf_39, -⟩ := hw
        have wf_39 : wd_35.2 = wd_22.2 := wf_39
        have hP : va_P (dC, dI) vwCl (wsX ob ad cA fv_34 wd_35 ar_36) H1 := by have h9 := hB.1; rw [ht] at h9; exact h9
        have fr_37 : fM [] fv_21 fv_34 := fr_37
        have fa_38 : fA [57] ar_31 ar_36 := fa_38
        generalize H1 = H at hP hS ⊢
        obtain ⟨v_40, ev_40⟩ : ∃ z : Int32, z = x_1 + 1 := ⟨_, rfl⟩
        refine lv_iinc (v := v_40) (lv' := [(1, .int v_40), (0, .ref (ob 8))]) hx hb dX1_readyPeople_117 hl (k := 1) rfl (by rw [ev_40]; rfl) (by decide) rfl (fun ls hl => ?_)
        have t_41 : v_40.toInt = x_1.toInt + 1 ∧ 1 ≤ v_40.toInt ∧ v_40.toInt ≤ 40 := iv_addc ev_40 i_13 (by decide) (by decide) (by decide)
        refine lv_goto (tgt := 2) hx hb dX1_readyPeople_120 (by decide) ?_
        exact ih_8 v_40 fv_34 ar_36 wd_35 _ _ ls (by omega) (iv_w t_41.2 (by decide) (by decide)) hF_fv_34 (fM_call (fM_call (fM_call (fM_rf [] _) fr_3 (by decide)) fr_24 (by decide)) fr_37 (by decide)) hA_ar_36 (fA_call (fA_put (fA_put (fA_put (fA_put (fA_put (fA_call (fA_put (fA_put (fA_call (fA_rf [44, 45, 46, 47, 48, 49, 50, 57, 64] _) fa_5 (by decide)) ear_16 (by decide)) ear_18 (by decide)) fa_25 (by decide)) ear_27 (by decide)) ear_28 (by decide)) ear_29 (by decide)) ear_30 (by decide)) ear_31 (by decide)) fa_38 (by decide)) (wf_39.trans (wf_26.trans wf_7)) hP hS (lv_sub hl [1, 0] rfl)
  · skip
    have z_43 : (0 : Int32).toInt = 0 := by decide
    exact hj_10 41 0 fv ar wd _ _ ls (by first | decide | omega) (iv_w (⟨by decide, by decide⟩ : (0 : Int) ≤ (0 : Int32).toInt ∧ (0 : Int32).toInt ≤ 0) (by decide) (by decide)) hF_fv (fM_rf [] _) hA_ar (fA_rf [44, 45, 46, 47, 48, 49, 50, 57, 64] _) rfl hP hS (lv_sub hl [1, 0] rfl)
set_option maxHeartbeats 4000000 in
set_option maxRecDepth 100000 in
theorem x_readyWheels (l : Launch) (dC : Nat → ClassId) (dI : Nat → Nat → Nat) (sz : Nat) (ob ad : Nat → Nat) (cA : Nat → ClassId) (hd : dX ob ad) (fv : Nat → Int32) (wd : xT) (ar : Nat → Nat → Int32) (hF_fv : rX fv) (hA_ar : rB ar) : Met l yX1_readyWheels (.code yX1_readyWheels cX1_readyWheels 2 none :: lw_good) ({ frames := 2, cells := 0, slots := 0, locals := 40 }) (va_Pc [.ref (ob 8)] (prX dC dI ob ad cA fv wd ar sz)) (va_Qv (fun (u : xS) => rX u.1 ∧ rB u.2.2 ∧ fM [] fv u.1 ∧ fA [51, 52, 53, 54, 55] ar u.2.2 ∧ u.2.1.2 = wd.2 ∧ True) (enX dC dI ob ad cA) (aX ob ad sz)) 0 0 (aX ob ad sz) := by
  refine Met.ofW (cc := cX1_readyWheels) (maxL := 2) (ret := none) (by decide) rfl ?_
  intro p e s m args below meth c s₁ B hml hv
  obtain ⟨rfl, hsz, hP, hK⟩ := hv
  have hx := B.exec
  have hb := B.bytes
  have hr := B.returns
  have hts := atoms_spec (ws := (.code yX1_readyWheels cX1_readyWheels 2 none :: lw_good)) B.pre
  have htg : ∀ w ∈ lw_good, w.before _ s = true := fun w hw => hts w (List.mem_cons_of_mem _ hw)
  have hown : s.vm.findClass RX1 = some m.cls := findClass_of_methodNamed B.named
  have hlocks := B.notSynchronized
  subst hsz
  have hS : va_S (aX ob ad s.heap.size) s.heap s.heap [] := va_S.rf
  have hl := lv_entry ([.ref (ob 8)]) (n := 2) (Nat.le_of_ble_eq_true rfl)
  rw [lg_entry_eq]
  generalize (lg_sl ([.ref (ob 8)]) ++ List.replicate (2 - (lg_sl ([.ref (ob 8)])).length) Slot.unset).toArray = ls at hl ⊢
  have hl : lv_has ls 2 [(0, .ref (ob 8))] := hl
  refine lv_iconst (v := 0) hx hb dX1_readyWheels_0 (by decide) ?_
  refine lv_istore_n (lv' := [(1, .int 0), (0, .ref (ob 8))]) hx hb dX1_readyWheels_1 rfl hl (by decide) rfl (fun ls hl => ?_)
  refine my_cut (P := fun R9 a9 Q9 => ∀ (n_4 : Nat) (x_1 : Int32) (ar_2 : Nat → Nat → Int32) (H : Heap) (locs : List Loc) (ls : Array Slot), 20 - x_1.toInt < (n_4 : Int) → (0 ≤ x_1.toInt ∧ x_1.toInt ≤ 20) → rB ar_2 → fA [51, 52, 53, 54, 55] ar ar_2 → va_P (dC, dI) vwCl (wsX ob ad cA fv wd ar_2) H → va_S (aX ob ad s.heap.size) s.heap H locs → lv_has ls 2 [(0, .ref (ob 8)), (1, .int x_1)] → W p l e R9 s m a9 below meth c H locs 0 0 Q9 (F0 m 2 ls [])) ?_ (fun hj_6 => ?_)
  · intro n_4
    induction n_4 with
    | zero => intro x_1 ar_2 H locs ls fu_5 i_x_1 hA_ar_2 fa_3; exfalso; omega
    | succ n_4 ih_4 =>
      intro x_1 ar_2 H locs ls fu_5 i_x_1 hA_ar_2 fa_3 hP hS hl
      refine lv_iload_n hx hb dX1_readyWheels_2 rfl (lv_at hl 1 rfl) ?_
      refine lv_aload_n hx hb dX1_readyWheels_3 rfl (lv_at hl 0 rfl) ?_
      refine gX_X1_9 hx hb htg hown hK hP dX1_readyWheels_4 ?_
      refine gX_X1_148 hx hb htg hown hK hP dX1_readyWheels_7 ?_
      refine gX_X1_152 hx hb htg hown hK hP dX1_readyWheels_10 ?_
      have i_7 : 0 ≤ (fv 11).toInt ∧ (fv 11).toInt ≤ 20 := hF_fv 11
      refine lv_icmp_ge (tgt := 79) hx hb dX1_readyWheels_13 (by decide) (fun c_8 => ?_) (fun c_8 => ?_)
      · skip
        exact W.vret hx hb hr (fun t ht hW => ⟨⟨(fv, wd, ar_2), rfl, ⟨hF_fv, hA_ar_2, (fM_rf [] _), (fA_call (fA_rf [51, 52, 53, 54, 55] _) fa_3 (by decide)), rfl, trivial⟩, ⟨by rw [ht]; exact hP, va_K.moved hW.alike hK⟩⟩, hS.F ht⟩) hS.2.2 dX1_readyWheels_79
      · skip
        have i_9 : 0 ≤ x_1.toInt ∧ x_1.toInt ≤ 19 := iv_lt1 i_x_1 i_7 (Int32.not_le.mp c_8)
        have i_10 : 1 ≤ (fv 11).toInt ∧ (fv 11).toInt ≤ 20 := iv_lt2 i_x_1 i_7 (Int32.not_le.mp c_8)
        refine lv_aload_n hx hb dX1_readyWheels_16 rfl (lv_at hl 0 rfl) ?_
        refine gX_X1_59 hx hb htg hown hK hP dX1_readyWheels_17 ?_
        refine lv_iload_n hx hb dX1_readyWheels_20 rfl (lv_at hl 1 rfl) ?_
        refine lv_aload_n hx hb dX1_readyWheels_21 rfl (lv_at hl 0 rfl) ?_
        refine gX_X1_9 hx hb htg hown hK hP dX1_readyWheels_22 ?_
        refine gX_X1_148 hx hb htg hown hK hP dX1_readyWheels_25 ?_
        refine gX_X1_153 hx hb htg hown hK hP dX1_readyWheels_28 ?_
        refine lv_iload_n hx hb dX1_readyWheels_31 rfl (lv_at hl 1 rfl) ?_
        refine lX_24 hx hb hK hP (iv_in i_9 (by decide) (by decide)) dX1_readyWheels_32 (fun v_11 ev_11 => ?_)
        refine sX_51 hx hb hK hP hS hd (iv_in i_9 (by decide) (by decide)) dX1_readyWheels_33 (fun H locs ar_12 ear_12 hP hS => ?_)
        have hA_ar_12 : rB ar_12 := rB_put hA_ar_2 ear_12 (iv_any _)
        refine lv_aload_n hx hb dX1_readyWheels_34 rfl (lv_at hl 0 rfl) ?_
        refine gX_X1_62 hx hb htg hown hK hP dX1_readyWheels_35 ?_
        refine lv_iload_n hx hb dX1_readyWheels_38 rfl (lv_at hl 1 rfl) ?_
        refine lv_iconst (v := 0) hx hb dX1_readyWheels_39 (by decide) ?_
        refine sX_52 hx hb hK hP hS hd (iv_in i_9 (by decide) (by decide)) dX1_readyWheels_40 (fun H locs ar_13 ear_13 hP hS => ?_)
        have hA_ar_13 : rB ar_13 := rB_put hA_ar_12 ear_13 (iv_any _)
        refine lv_aload_n hx hb dX1_readyWheels_41 rfl (lv_at hl 0 rfl) ?_
        refine gX_X1_65 hx hb htg hown hK hP dX1_readyWheels_42 ?_
        refine lv_iload_n hx hb dX1_readyWheels_45 rfl (lv_at hl 1 rfl) ?_
        refine lv_iconst (v := 0) hx hb dX1_readyWheels_46 (by decide) ?_
        refine sX_53 hx hb hK hP hS hd (iv_in i_9 (by decide) (by decide)) dX1_readyWheels_47 (fun H locs ar_14 ear_14 hP hS => ?_)
        have hA_ar_14 : rB ar_14 := rB_put hA_ar_13 ear_14 (iv_any _)
        refine lv_aload_n hx hb dX1_readyWheels_48 rfl (lv_at hl 0 rfl) ?_
        refine gX_X1_68 hx hb htg hown hK hP dX1_readyWheels_49 ?_
        refine lv_iload_n hx hb dX1_readyWheels_52 rfl (lv_at hl 1 rfl) ?_
        refine lv_aload_n hx hb dX1_readyWheels_53 rfl (lv_at hl 0 rfl) ?_
        refine gX_X1_9 hx hb htg hown hK hP dX1_readyWheels_54 ?_
        refine gX_X1_148 hx hb htg hown hK hP dX1_readyWheels_57 ?_
        refine gX_X1_154 hx hb htg hown hK hP dX1_readyWheels_60 ?_
        refine lv_iload_n hx hb dX1_readyWheels_63 rfl (lv_at hl 1 rfl) ?_
        refine lX_21 hx hb hK hP (iv_in i_9 (by decide) (by decide)) dX1_readyWheels_64 (fun v_15 ev_15 => ?_)
        have i_16 : 0 ≤ v_15.toInt ∧ v_15.toInt ≤ 7 := ev_15 ▸ hA_ar_14 21 _
        refine sX_54 hx hb hK hP hS hd (iv_in i_9 (by decide) (by decide)) dX1_readyWheels_65 (fun H locs ar_17 ear_17 hP hS => ?_)
        have hA_ar_17 : rB ar_17 := rB_put hA_ar_14 ear_17 i_16
        refine lv_aload_n hx hb dX1_readyWheels_66 rfl (lv_at hl 0 rfl) ?_
        refine gX_X1_71 hx hb htg hown hK hP dX1_readyWheels_67 ?_
        refine lv_iload_n hx hb dX1_readyWheels_70 rfl (lv_at hl 1 rfl) ?_
        refine lv_iconst (v := (-1)) hx hb dX1_readyWheels_71 (by decide) ?_
        refine sX_55 hx hb hK hP hS hd (iv_in i_9 (by decide) (by decide)) dX1_readyWheels_72 (fun H locs ar_18 ear_18 hP hS => ?_)
        have hA_ar_18 : rB ar_18 := rB_put hA_ar_17 ear_18 (iv_any _)
        obtain ⟨v_19, ev_19⟩ : ∃ z : Int32, z = x_1 + 1 := ⟨_, rfl⟩
        refine lv_iinc (v := v_19) (lv' := [(1, .int v_19), (0, .ref (ob 8))]) hx hb dX1_readyWheels_73 hl (k := 1) rfl (by rw [ev_19]; rfl) (by decide) rfl (fun ls hl => ?_)
        have t_20 : v_19.toInt = x_1.toInt + 1 ∧ 1 ≤ v_19.toInt ∧ v_19.toInt ≤ 20 := iv_addc ev_19 i_9 (by decide) (by decide) (by decide)
        refine lv_goto (tgt := 2) hx hb dX1_readyWheels_76 (by decide) ?_
        exact ih_4 v_19 ar_18 _ _ ls (by omega) (iv_w t_20.2 (by decide) (by decide)) hA_ar_18 (fA_put (fA_put (fA_put (fA_put (fA_put (fA_call (fA_rf [51, 52, 53, 54, 55] _) fa_3 (by decide)) ear_12 (by decide)) ear_13 (by decide)) ear_14 (by decide)) ear_17 (by decide)) ear_18 (by decide)) hP hS (lv_sub hl [1, 0] rfl)
  · skip
    have z_22 : (0 : Int32).toInt = 0 := by decide
    exact hj_6 21 0 ar _ _ ls (by first | decide | omega) (iv_w (⟨by decide, by decide⟩ : (0 : Int) ≤ (0 : Int32).toInt ∧ (0 : Int32).toInt ≤ 0) (by decide) (by decide)) hA_ar (fA_rf [51, 52, 53, 54, 55] _) hP hS (lv_sub hl [1, 0] rfl)
set_option maxHeartbeats 4000000 in
set_option maxRecDepth 100000 in
theorem x_readyTrips (l : Launch) (dC : Nat → ClassId) (dI : Nat → Nat → Nat) (sz : Nat) (ob ad : Nat → Nat) (cA : Nat → ClassId) (hd : dX ob ad) (fv : Nat → Int32) (wd : xT) (ar : Nat → Nat → Int32) (hF_fv : rX fv) (hA_ar : rB ar) : Met l yX1_readyTrips (.code yX1_readyTrips cX1_readyTrips 2 none :: lw_good) ({ frames := 4, cells := 0, slots := 0, locals := 83 }) (va_Pc [.ref (ob 8)] (prX dC dI ob ad cA fv wd ar sz)) (va_Qv (fun (u : xS) => rX u.1 ∧ rB u.2.2 ∧ fM [] fv u.1 ∧ fA [56, 57] ar u.2.2 ∧ u.2.1.2 = wd.2 ∧ True) (enX dC dI ob ad cA) (aX ob ad sz)) 0 0 (aX ob ad sz) := by
  refine Met.ofW (cc := cX1_readyTrips) (maxL := 2) (ret := none) (by decide) rfl ?_
  intro p e s m args below meth c s₁ B hml hv
  obtain ⟨rfl, hsz, hP, hK⟩ := hv
  have hx := B.exec
  have hb := B.bytes
  have hr := B.returns
  have hts := atoms_spec (ws := (.code yX1_readyTrips cX1_readyTrips 2 none :: lw_good)) B.pre
  have htg : ∀ w ∈ lw_good, w.before _ s = true := fun w hw => hts w (List.mem_cons_of_mem _ hw)
  have hown : s.vm.findClass RX1 = some m.cls := findClass_of_methodNamed B.named
  have hlocks := B.notSynchronized
  subst hsz
  have hS : va_S (aX ob ad s.heap.size) s.heap s.heap [] := va_S.rf
  have hl := lv_entry ([.ref (ob 8)]) (n := 2) (Nat.le_of_ble_eq_true rfl)
  rw [lg_entry_eq]
  generalize (lg_sl ([.ref (ob 8)]) ++ List.replicate (2 - (lg_sl ([.ref (ob 8)])).length) Slot.unset).toArray = ls at hl ⊢
  have hl : lv_has ls 2 [(0, .ref (ob 8))] := hl
  refine lv_iconst (v := 0) hx hb dX1_readyTrips_0 (by decide) ?_
  refine lv_istore_n (lv' := [(1, .int 0), (0, .ref (ob 8))]) hx hb dX1_readyTrips_1 rfl hl (by decide) rfl (fun ls hl => ?_)
  refine my_cut (P := fun R9 a9 Q9 => ∀ (n_8 : Nat) (x_1 : Int32) (fv_2 : Nat → Int32) (ar_4 : Nat → Nat → Int32) (wd_6 : xT) (H : Heap) (locs : List Loc) (ls : Array Slot), 80 - x_1.toInt < (n_8 : Int) → (0 ≤ x_1.toInt ∧ x_1.toInt ≤ 80) → rX fv_2 → fM [] fv fv_2 → rB ar_4 → fA [56, 57] ar ar_4 → wd_6.2 = wd.2 → va_P (dC, dI) vwCl (wsX ob ad cA fv_2 wd_6 ar_4) H → va_S (aX ob ad s.heap.size) s.heap H locs → lv_has ls 2 [(0, .ref (ob 8)), (1, .int x_1)] → W p l e R9 s m a9 below meth c H locs 0 0 Q9 (F0 m 2 ls [])) ?_ (fun hj_10 => ?_)
  · intro n_8
    induction n_8 with
    | zero => intro x_1 fv_2 ar_4 wd_6 H locs ls fu_9 i_x_1 hF_fv_2 fr_3 hA_ar_4 fa_5 wf_7; exfalso; omega
    | succ n_8 ih_8 =>
      intro x_1 fv_2 ar_4 wd_6 H locs ls fu_9 i_x_1 hF_fv_2 fr_3 hA_ar_4 fa_5 wf_7 hP hS hl
      refine lv_iload_n hx hb dX1_readyTrips_2 rfl (lv_at hl 1 rfl) ?_
      refine lv_aload_n hx hb dX1_readyTrips_3 rfl (lv_at hl 0 rfl) ?_
      refine gX_X1_9 hx hb htg hown hK hP dX1_readyTrips_4 ?_
      refine gX_X1_157 hx hb htg hown hK hP dX1_readyTrips_7 ?_
      refine gX_X1_161 hx hb htg hown hK hP dX1_readyTrips_10 ?_
      refine my_ti (y := fv 12) ((fr_3 12 rfl)) ?_
      have i_11 : 0 ≤ (fv 12).toInt ∧ (fv 12).toInt ≤ 80 := hF_fv 12
      refine lv_icmp_ge (tgt := 53) hx hb dX1_readyTrips_13 (by decide) (fun c_12 => ?_) (fun c_12 => ?_)
      · skip
        exact W.vret hx hb hr (fun t ht hW => ⟨⟨(fv_2, wd_6, ar_4), rfl, ⟨hF_fv_2, hA_ar_4, (fM_call (fM_rf [] _) fr_3 (by decide)), (fA_call (fA_rf [56, 57] _) fa_5 (by decide)), wf_7, trivial⟩, ⟨by rw [ht]; exact hP, va_K.moved hW.alike hK⟩⟩, hS.F ht⟩) hS.2.2 dX1_readyTrips_53
      · skip
        have i_13 : 0 ≤ x_1.toInt ∧ x_1.toInt ≤ 79 := iv_lt1 i_x_1 i_11 (Int32.not_le.mp c_12)
        have i_14 : 1 ≤ (fv 12).toInt ∧ (fv 12).toInt ≤ 80 := iv_lt2 i_x_1 i_11 (Int32.not_le.mp c_12)
        refine lv_aload_n hx hb dX1_readyTrips_16 rfl (lv_at hl 0 rfl) ?_
        refine gX_X1_76 hx hb htg hown hK hP dX1_readyTrips_17 ?_
        refine lv_iload_n hx hb dX1_readyTrips_20 rfl (lv_at hl 1 rfl) ?_
        refine lv_iconst (v := (-1)) hx hb dX1_readyTrips_21 (by decide) ?_
        refine sX_56 hx hb hK hP hS hd (iv_in i_13 (by decide) (by decide)) dX1_readyTrips_22 (fun H locs ar_15 ear_15 hP hS => ?_)
        have hA_ar_15 : rB ar_15 := rB_put hA_ar_4 ear_15 (iv_any _)
        refine lv_aload_n hx hb dX1_readyTrips_23 rfl (lv_at hl 0 rfl) ?_
        refine lv_iload_n hx hb dX1_readyTrips_24 rfl (lv_at hl 1 rfl) ?_
        refine va_calli (va_runV (As := [.int x_1]) (rest := []) ⟨hx, hb, hml, hown, hts⟩ (x_goesToday l dC dI H.size ob ad cA hd fv_2 wd_6 ar_15 hF_fv_2 hA_ar_15 x_1 i_13) (cwV 1 hts (gV kw_5_81 kw_5_83 kw_p_25 kw_1_12 kw_5_84) rfl rfl rfl (by decide +kernel) ⟨Nat.le_of_ble_eq_true rfl, Nat.le_of_ble_eq_true rfl⟩) ⟨fun a U g mk q => ⟨q.1, q.2.1, q.2.2.1, va_K.moved (u := U) (U := U.calling g mk a) (Vm.Alike.refl U.vm) q.2.2.2⟩, va_recv hK hP (ci := 2) (q0 := 8) rfl rfl, fun U hU hW => ⟨rfl, by rw [hU], by rw [hU]; exact hP, va_K.moved hW.alike hK⟩⟩ rfl rfl hl.1 rfl (lv_room (Nat.le_of_ble_eq_true rfl)) dX1_readyTrips_25 ⟨Nat.le_of_ble_eq_true rfl, Nat.le_of_ble_eq_true rfl⟩) hS (fun q _ h9 => aX_up hS q h9) (aX_up hS) (fun r_16 u t H1 locs ht _ hw hB _ hk1 hS => ?_)
        obtain ⟨fv_18, wd_19, ar_20⟩ := u
        obtain ⟨hF_fv_18, hA_ar_20, fr_21, fa_22, wf_23, p_17, -⟩ := hw
        have wf_23 : wd_19.2 = wd_6.2 := wf_23
        have hP : va_P (dC, dI) vwCl (wsX ob ad cA fv_18 wd_19 ar_20) H1 := by have h9 := hB.1; rw [ht] at h9; exact h9
        have fr_21 : fM [] fv_2 fv_18 := fr_21
        have fa_22 : fA [] ar_15 ar_20 := fa_22
        generalize H1 = H at hP hS ⊢
        refine my_cut (P := fun R9 a9 Q9 => ∀ (fv_35 : Nat → Int32) (ar_37 : Nat → Nat → Int32) (wd_39 : xT) (H : Heap) (locs : List Loc) (ls : Array Slot), rX fv_35 → fM [] fv_18 fv_35 → rB ar_37 → fA [57] ar_20 ar_37 → wd_39.2 = wd_19.2 → va_P (dC, dI) vwCl (wsX ob ad cA fv_35 wd_39 ar_37) H → va_S (aX ob ad s.heap.size) s.heap H locs → lv_has ls 2 [(0, .ref (ob 8)), (1, .int x_1)] → W p l e R9 s m a9 below meth c H locs 0 0 Q9 (F0 m 47 ls [])) ?_ (fun hj_41 => ?_)
        · intro fv_35 ar_37 wd_39 H locs ls hF_fv_35 fr_36 hA_ar_37 fa_38 wf_40 hP hS hl
          obtain ⟨v_42, ev_42⟩ : ∃ z : Int32, z = x_1 + 1 := ⟨_, rfl⟩
          refine lv_iinc (v := v_42) (lv' := [(1, .int v_42), (0, .ref (ob 8))]) hx hb dX1_readyTrips_47 hl (k := 1) rfl (by rw [ev_42]; rfl) (by decide) rfl (fun ls hl => ?_)
          have t_43 : v_42.toInt = x_1.toInt + 1 ∧ 1 ≤ v_42.toInt ∧ v_42.toInt ≤ 80 := iv_addc ev_42 i_13 (by decide) (by decide) (by decide)
          refine lv_goto (tgt := 2) hx hb dX1_readyTrips_50 (by decide) ?_
          exact ih_8 v_42 fv_35 ar_37 wd_39 _ _ ls (by omega) (iv_w t_43.2 (by decide) (by decide)) hF_fv_35 (fM_call (fM_call (fM_call (fM_rf [] _) fr_3 (by decide)) fr_21 (by decide)) fr_36 (by decide)) hA_ar_37 (fA_call (fA_call (fA_put (fA_call (fA_rf [56, 57] _) fa_5 (by decide)) ear_15 (by decide)) fa_22 (by decide)) fa_38 (by decide)) (wf_40.trans (wf_23.trans wf_7)) hP hS (lv_sub hl [1, 0] rfl)
        · skip
          refine lv_if_eq (tgt := 47) hx hb dX1_readyTrips_28 (by decide) (fun c_24 => ?_) (fun c_24 => ?_)
          · skip
            have i_25 : 0 ≤ r_16.toInt ∧ r_16.toInt ≤ 0 := iv_eq1 (⟨by decide, by decide⟩ : (0 : Int) ≤ (0 : Int32).toInt ∧ (0 : Int32).toInt ≤ 0) c_24
            exact hj_41 fv_18 ar_20 wd_19 _ _ ls hF_fv_18 (fM_rf [] _) hA_ar_20 (fA_rf [57] _) rfl hP hS (lv_sub hl [0, 1] rfl)
          · skip
            have i_26 : 1 ≤ r_16.toInt ∧ r_16.toInt ≤ 1 := iv_nel p_17 (by decide) c_24
            refine lv_aload_n hx hb dX1_readyTrips_31 rfl (lv_at hl 0 rfl) ?_
            refine lv_aload_n hx hb dX1_readyTrips_32 rfl (lv_at hl 0 rfl) ?_
            refine gX_X1_9 hx hb htg hown hK hP dX1_readyTrips_33 ?_
            refine gX_X1_157 hx hb htg hown hK hP dX1_readyTrips_36 ?_
            refine gX_X1_166 hx hb htg hown hK hP dX1_readyTrips_39 ?_
            refine lv_iload_n hx hb dX1_readyTrips_42 rfl (lv_at hl 1 rfl) ?_
            refine lX_31 hx hb hK hP (iv_in i_13 (by decide) (by decide)) dX1_readyTrips_43 (fun v_27 ev_27 => ?_)
            refine va_callv (va_runV (As := [.int v_27]) (rest := []) ⟨hx, hb, hml, hown, hts⟩ (x_markBusy l dC dI H.size ob ad cA hd fv_18 wd_19 ar_20 hF_fv_18 hA_ar_20 v_27) (cwV 1 hts (gV kw_5_69 kw_5_71 kw_p_22 kw_1_12 kw_5_72) rfl rfl rfl (by decide +kernel) ⟨Nat.le_of_ble_eq_true rfl, Nat.le_of_ble_eq_true rfl⟩) ⟨fun a U g mk q => ⟨q.1, q.2.1, q.2.2.1, va_K.moved (u := U) (U := U.calling g mk a) (Vm.Alike.refl U.vm) q.2.2.2⟩, va_recv hK hP (ci := 2) (q0 := 8) rfl rfl, fun U hU hW => ⟨rfl, by rw [hU], by rw [hU]; exact hP, va_K.moved hW.alike hK⟩⟩ rfl rfl hl.1 rfl (lv_room (Nat.le_of_ble_eq_true rfl)) dX1_readyTrips_44 ⟨Nat.le_of_ble_eq_true rfl, Nat.le_of_ble_eq_true rfl⟩) hS (fun q _ h9 => aX_up hS q h9) (aX_up hS) (fun u t H1 locs ht _ hw hB _ hk1 hS => ?_)
            obtain ⟨fv_29, wd_30, ar_31⟩ := u
            obtain ⟨hF_fv_29, hA_ar_31, fr_32, fa_33, wf_34, -⟩ := hw
            have wf_34 : wd_30.2 = wd_19.2 := wf_34
            have hP : va_P (dC, dI) vwCl (wsX ob ad cA fv_29 wd_30 ar_31) H1 := by have h9 := hB.1; rw [ht] at h9; exact h9
            have fr_32 : fM [] fv_18 fv_29 := fr_32
            have fa_33 : fA [57] ar_20 ar_31 := fa_33
            generalize H1 = H at hP hS ⊢
            exact hj_41 fv_29 ar_31 wd_30 _ _ ls hF_fv_29 (fM_call (fM_rf [] _) fr_32 (by decide)) hA_ar_31 (fA_call (fA_rf [57] _) fa_33 (by decide)) wf_34 hP hS (lv_sub hl [0, 1] rfl)
  · skip
    have z_45 : (0 : Int32).toInt = 0 := by decide
    exact hj_10 81 0 fv ar wd _ _ ls (by first | decide | omega) (iv_w (⟨by decide, by decide⟩ : (0 : Int) ≤ (0 : Int32).toInt ∧ (0 : Int32).toInt ≤ 0) (by decide) (by decide)) hF_fv (fM_rf [] _) hA_ar (fA_rf [56, 57] _) rfl hP hS (lv_sub hl [1, 0] rfl)
set_option maxHeartbeats 4000000 in
set_option maxRecDepth 100000 in
theorem x_mwalk (l : Launch) (dC : Nat → ClassId) (dI : Nat → Nat → Nat) (sz : Nat) (ob ad : Nat → Nat) (cA : Nat → ClassId) (hd : dX ob ad) (fv : Nat → Int32) (wd : xT) (ar : Nat → Nat → Int32) (hF_fv : rX fv) (hA_ar : rB ar) (pp : Int32) (a : Int32) (h_pp : 0 ≤ pp.toInt ∧ pp.toInt ≤ 39) : Met l yX1_walk (.code yX1_walk cX1_walk 5 none :: lw_good) ({ frames := 4, cells := 0, slots := 0, locals := 85 }) (va_Pc [.ref (ob 8), .int pp, .int a] (prX dC dI ob ad cA fv wd ar sz)) (va_Qv (fun (u : xS) => rX u.1 ∧ rB u.2.2 ∧ fM [] fv u.1 ∧ fA [45, 47, 64] ar u.2.2 ∧ u.2.1.2 = wd.2 ∧ True) (enX dC dI ob ad cA) (aX ob ad sz)) 0 0 (aX ob ad sz) := by
  refine Met.ofW (cc := cX1_walk) (maxL := 5) (ret := none) (by decide) rfl ?_
  intro p e s m args below meth c s₁ B hml hv
  obtain ⟨rfl, hsz, hP, hK⟩ := hv
  have hx := B.exec
  have hb := B.bytes
  have hr := B.returns
  have hts := atoms_spec (ws := (.code yX1_walk cX1_walk 5 none :: lw_good)) B.pre
  have htg : ∀ w ∈ lw_good, w.before _ s = true := fun w hw => hts w (List.mem_cons_of_mem _ hw)
  have hown : s.vm.findClass RX1 = some m.cls := findClass_of_methodNamed B.named
  have hlocks := B.notSynchronized
  subst hsz
  have hS : va_S (aX ob ad s.heap.size) s.heap s.heap [] := va_S.rf
  have hl := lv_entry ([.ref (ob 8), .int pp, .int a]) (n := 5) (Nat.le_of_ble_eq_true rfl)
  rw [lg_entry_eq]
  generalize (lg_sl ([.ref (ob 8), .int pp, .int a]) ++ List.replicate (5 - (lg_sl ([.ref (ob 8), .int pp, .int a])).length) Slot.unset).toArray = ls at hl ⊢
  have hl : lv_has ls 5 [(0, .ref (ob 8)), (1, .int pp), (2, .int a)] := hl
  refine lv_aload_n hx hb dX1_walk_0 rfl (lv_at hl 0 rfl) ?_
  refine gX_X1_9 hx hb htg hown hK hP dX1_walk_1 ?_
  refine gX_X1_129 hx hb htg hown hK hP dX1_walk_4 ?_
  refine gX_X1_217 hx hb htg hown hK hP dX1_walk_7 ?_
  refine lv_iload_n hx hb dX1_walk_10 rfl (lv_at hl 1 rfl) ?_
  refine lX_19 hx hb hK hP (iv_in h_pp (by decide) (by decide)) dX1_walk_11 (fun v_1 ev_1 => ?_)
  refine lv_aload_n hx hb dX1_walk_12 rfl (lv_at hl 0 rfl) ?_
  refine gX_X1_45 hx hb htg hown hK hP dX1_walk_13 ?_
  refine lv_iload_n hx hb dX1_walk_16 rfl (lv_at hl 1 rfl) ?_
  refine lX_47 hx hb hK hP (iv_in h_pp (by decide) (by decide)) dX1_walk_17 (fun v_2 ev_2 => ?_)
  refine lv_iadd hx hb dX1_walk_18 ?_
  refine lv_topi (fun v_3 ev_3 => ?_)
  refine lv_istore_n (lv' := [(3, .int v_3), (0, .ref (ob 8)), (1, .int pp), (2, .int a)]) hx hb dX1_walk_19 rfl hl (by decide) rfl (fun ls hl => ?_)
  refine lv_iload_n hx hb dX1_walk_20 rfl (lv_at hl 0 rfl) ?_
  refine lv_iload_n hx hb dX1_walk_21 rfl (lv_at hl 3 rfl) ?_
  refine lv_iadd hx hb dX1_walk_22 ?_
  refine lv_topi (fun v_4 ev_4 => ?_)
  refine lv_sipush (v := 300) hx hb dX1_walk_23 (by decide) ?_
  refine lv_idiv hx hb dX1_walk_26 (by decide) ?_
  refine lv_topi (fun v_5 ev_5 => ?_)
  refine lv_iload_n hx hb dX1_walk_27 rfl (lv_at hl 0 rfl) ?_
  refine lv_sipush (v := 300) hx hb dX1_walk_28 (by decide) ?_
  refine lv_idiv hx hb dX1_walk_31 (by decide) ?_
  refine lv_topi (fun v_6 ev_6 => ?_)
  refine lv_isub hx hb dX1_walk_32 ?_
  refine lv_topi (fun v_7 ev_7 => ?_)
  refine lv_istore (lv' := [(4, .int v_7), (3, .int v_3), (0, .ref (ob 8)), (1, .int pp), (2, .int a)]) hx hb dX1_walk_33 hl (by decide) rfl (fun ls hl => ?_)
  refine lv_aload_n hx hb dX1_walk_35 rfl (lv_at hl 2 rfl) ?_
  refine gX_X1_45 hx hb htg hown hK hP dX1_walk_36 ?_
  refine lv_iload_n hx hb dX1_walk_39 rfl (lv_at hl 3 rfl) ?_
  refine lv_dup2_11 hx hb dX1_walk_40 rfl rfl ?_
  refine lX_47 hx hb hK hP (iv_in h_pp (by decide) (by decide)) dX1_walk_41 (fun v_8 ev_8 => ?_)
  obtain rfl : v_2 = v_8 := ev_2.trans ev_8.symm
  refine lv_iload_n hx hb dX1_walk_42 rfl (lv_at hl 4 rfl) ?_
  refine lv_iadd hx hb dX1_walk_43 ?_
  refine lv_topi (fun v_9 ev_9 => ?_)
  refine sX_47 hx hb hK hP hS hd (iv_in h_pp (by decide) (by decide)) dX1_walk_44 (fun H locs ar_10 ear_10 hP hS => ?_)
  have hA_ar_10 : rB ar_10 := rB_put hA_ar ear_10 (iv_any _)
  refine lv_iload hx hb dX1_walk_45 (lv_at hl 0 rfl) ?_
  refine lv_if_le (tgt := 83) hx hb dX1_walk_47 (by decide) (fun c_11 => ?_) (fun c_11 => ?_)
  · skip
    have i_12 : (-2147483648) ≤ v_7.toInt ∧ v_7.toInt ≤ 0 := iv_le1 (iv_any v_7) (⟨by decide, by decide⟩ : (0 : Int) ≤ (0 : Int32).toInt ∧ (0 : Int32).toInt ≤ 0) c_11
    exact W.vret hx hb hr (fun t ht hW => ⟨⟨(fv, wd, ar_10), rfl, ⟨hF_fv, hA_ar_10, (fM_rf [] _), (fA_put (fA_rf [45, 47, 64] _) ear_10 (by decide)), rfl, trivial⟩, ⟨by rw [ht]; exact hP, va_K.moved hW.alike hK⟩⟩, hS.F ht⟩) hS.2.2 dX1_walk_83
  · skip
    have i_13 : 1 ≤ v_7.toInt ∧ v_7.toInt ≤ 2147483647 := iv_lt2 (⟨by decide, by decide⟩ : (0 : Int) ≤ (0 : Int32).toInt ∧ (0 : Int32).toInt ≤ 0) (iv_any v_7) (Int32.not_le.mp c_11)
    refine lv_aload_n hx hb dX1_walk_50 rfl (lv_at hl 2 rfl) ?_
    refine gX_X1_39 hx hb htg hown hK hP dX1_walk_51 ?_
    refine lv_iload_n hx hb dX1_walk_54 rfl (lv_at hl 3 rfl) ?_
    refine lv_iconst (v := 0) hx hb dX1_walk_55 (by decide) ?_
    refine lv_aload_n hx hb dX1_walk_56 rfl (lv_at hl 2 rfl) ?_
    refine gX_X1_39 hx hb htg hown hK hP dX1_walk_57 ?_
    refine lv_iload_n hx hb dX1_walk_60 rfl (lv_at hl 3 rfl) ?_
    refine lX_45 hx hb hK hP (iv_in h_pp (by decide) (by decide)) dX1_walk_61 (fun v_14 ev_14 => ?_)
    refine lv_iload hx hb dX1_walk_62 (lv_at hl 0 rfl) ?_
    refine lv_isub hx hb dX1_walk_64 ?_
    refine lv_topi (fun v_15 ev_15 => ?_)
    refine va_mmax hx hb (hml.trans hl.1.symm) hown (htg (.methodLink RX1 220 Lib.Math.max.name) kw_5_156) (htg (.static Lib.Math.max.name) kw_4_28) (htg (.initialized RJ9) kw_1_16) (htg (.code Lib.Math.max.name Lib.Math.max.code 2 (some .int)) kw_4_29) (Nat.le_of_ble_eq_true rfl) (Nat.le_of_ble_eq_true rfl) (Nat.le_of_ble_eq_true rfl) (Nat.le_of_ble_eq_true rfl) dX1_walk_65 ?_
    refine lv_topi (fun v_16 ev_16 => ?_)
    have i_17 : 0 ≤ v_16.toInt ∧ v_16.toInt ≤ 2147483647 := ix_max ev_16 (⟨by decide, by decide⟩ : (0 : Int) ≤ (0 : Int32).toInt ∧ (0 : Int32).toInt ≤ 0) (iv_any v_15) (by decide) (by decide)
    refine sX_45 hx hb hK hP hS hd (iv_in h_pp (by decide) (by decide)) dX1_walk_68 (fun H locs ar_18 ear_18 hP hS => ?_)
    have hA_ar_18 : rB ar_18 := rB_put hA_ar_10 ear_18 (iv_any _)
    refine lv_aload_n hx hb dX1_walk_69 rfl (lv_at hl 2 rfl) ?_
    refine gX_X1_20 hx hb htg hown hK hP dX1_walk_70 ?_
    refine lv_iload_n hx hb dX1_walk_73 rfl (lv_at hl 3 rfl) ?_
    refine lv_aload_n hx hb dX1_walk_74 rfl (lv_at hl 2 rfl) ?_
    refine gX_X1_39 hx hb htg hown hK hP dX1_walk_75 ?_
    refine lv_iload_n hx hb dX1_walk_78 rfl (lv_at hl 3 rfl) ?_
    refine lX_45 hx hb hK hP (iv_in h_pp (by decide) (by decide)) dX1_walk_79 (fun v_19 ev_19 => ?_)
    refine va_callv (va_runV (As := [.int pp, .int v_19]) (rest := []) ⟨hx, hb, hml, hown, hts⟩ (x_setPace l dC dI H.size ob ad cA hd fv wd ar_18 hF_fv hA_ar_18 pp v_19 h_pp) (cwV 2 hts (gV kw_5_61 kw_5_62 kw_5_63 kw_1_13 kw_5_64) rfl rfl rfl (by decide +kernel) ⟨Nat.le_of_ble_eq_true rfl, Nat.le_of_ble_eq_true rfl⟩) ⟨fun a U g mk q => ⟨q.1, q.2.1, q.2.2.1, va_K.moved (u := U) (U := U.calling g mk a) (Vm.Alike.refl U.vm) q.2.2.2⟩, va_recv hK hP (ci := 9) (q0 := 9) rfl rfl, fun U hU hW => ⟨rfl, by rw [hU], by rw [hU]; exact hP, va_K.moved hW.alike hK⟩⟩ rfl rfl hl.1 rfl (lv_room (Nat.le_of_ble_eq_true rfl)) dX1_walk_80 ⟨Nat.le_of_ble_eq_true rfl, Nat.le_of_ble_eq_true rfl⟩) hS (fun q _ h9 => aX_up hS q h9) (aX_up hS) (fun u t H1 locs ht _ hw hB _ hk1 hS => ?_)
    obtain ⟨fv_21, wd_22, ar_23⟩ := u
    obtain ⟨hF_fv_21, hA_ar_23, fr_24, fa_25, wf_26, -⟩ := hw
    have wf_26 : wd_22.2 = wd.2 := wf_26
    have hP : va_P (dC, dI) vwCl (wsX ob ad cA fv_21 wd_22 ar_23) H1 := by have h9 := hB.1; rw [ht] at h9; exact h9
    have fr_24 : fM [] fv fv_21 := fr_24
    have fa_25 : fA [64] ar_18 ar_23 := fa_25
    generalize H1 = H at hP hS ⊢
    exact W.vret hx hb hr (fun t ht hW => ⟨⟨(fv_21, wd_22, ar_23), rfl, ⟨hF_fv_21, hA_ar_23, (fM_call (fM_rf [] _) fr_24 (by decide)), (fA_call (fA_put (fA_put (fA_rf [45, 47, 64] _) ear_10 (by decide)) ear_18 (by decide)) fa_25 (by decide)), wf_26, trivial⟩, ⟨by rw [ht]; exact hP, va_K.moved hW.alike hK⟩⟩, hS.F ht⟩) hS.2.2 dX1_walk_83
set_option maxHeartbeats 4000000 in
set_option maxRecDepth 100000 in
theorem x_choose (l : Launch) (dC : Nat → ClassId) (dI : Nat → Nat → Nat) (sz : Nat) (ob ad : Nat → Nat) (cA : Nat → ClassId) (hd : dX ob ad) (fv : Nat → Int32) (wd : xT) (ar : Nat → Nat → Int32) (hF_fv : rX fv) (hA_ar : rB ar) (pp : Int32) (a : Int32) (b : Int32) (d : Int32) (h_pp : 0 ≤ pp.toInt ∧ pp.toInt ≤ 39) : Met l yX1_choose (.code yX1_choose cX1_choose 10 none :: lw_good) ({ frames := 6, cells := 0, slots := 0, locals := 139 }) (va_Pc [.ref (ob 8), .int pp, .int a, .int b, .int d] (prX dC dI ob ad cA fv wd ar sz)) (va_Qv (fun (u : xS) => rX u.1 ∧ rB u.2.2 ∧ fM [] fv u.1 ∧ fA [45, 46, 47, 49, 62, 63, 64] ar u.2.2 ∧ u.2.1.2 = wd.2 ∧ True) (enX dC dI ob ad cA) (aX ob ad sz)) 0 0 (aX ob ad sz) := by
  refine Met.ofW (cc := cX1_choose) (maxL := 10) (ret := none) (by decide) rfl ?_
  intro p e s m args below meth c s₁ B hml hv
  obtain ⟨rfl, hsz, hP, hK⟩ := hv
  have hx := B.exec
  have hb := B.bytes
  have hr := B.returns
  have hts := atoms_spec (ws := (.code yX1_choose cX1_choose 10 none :: lw_good)) B.pre
  have htg : ∀ w ∈ lw_good, w.before _ s = true := fun w hw => hts w (List.mem_cons_of_mem _ hw)
  have hown : s.vm.findClass RX1 = some m.cls := findClass_of_methodNamed B.named
  have hlocks := B.notSynchronized
  subst hsz
  have hS : va_S (aX ob ad s.heap.size) s.heap s.heap [] := va_S.rf
  have hl := lv_entry ([.ref (ob 8), .int pp, .int a, .int b, .int d]) (n := 10) (Nat.le_of_ble_eq_true rfl)
  rw [lg_entry_eq]
  generalize (lg_sl ([.ref (ob 8), .int pp, .int a, .int b, .int d]) ++ List.replicate (10 - (lg_sl ([.ref (ob 8), .int pp, .int a, .int b, .int d])).length) Slot.unset).toArray = ls at hl ⊢
  have hl : lv_has ls 10 [(0, .ref (ob 8)), (1, .int pp), (2, .int a), (3, .int b), (4, .int d)] := hl
  refine lv_aload_n hx hb dX1_choose_0 rfl (lv_at hl 0 rfl) ?_
  refine gX_X1_20 hx hb htg hown hK hP dX1_choose_1 ?_
  refine lv_iload_n hx hb dX1_choose_4 rfl (lv_at hl 1 rfl) ?_
  refine lv_iload_n hx hb dX1_choose_5 rfl (lv_at hl 2 rfl) ?_
  refine lv_iload_n hx hb dX1_choose_6 rfl (lv_at hl 3 rfl) ?_
  refine lv_iload hx hb dX1_choose_7 (lv_at hl 4 rfl) ?_
  refine va_calli (va_runV (As := [.int pp, .int a, .int b, .int d]) (rest := []) ⟨hx, hb, hml, hown, hts⟩ (x_firstTrip l dC dI s.heap.size ob ad cA hd fv wd ar hF_fv hA_ar pp a b d h_pp) (cwV 4 hts (gV kw_5_126 kw_5_127 kw_5_128 kw_1_13 kw_5_129) rfl rfl rfl (by decide +kernel) ⟨Nat.le_of_ble_eq_true rfl, Nat.le_of_ble_eq_true rfl⟩) ⟨fun a U g mk q => ⟨q.1, q.2.1, q.2.2.1, va_K.moved (u := U) (U := U.calling g mk a) (Vm.Alike.refl U.vm) q.2.2.2⟩, va_recv hK hP (ci := 9) (q0 := 9) rfl rfl, fun U hU hW => ⟨rfl, by rw [hU], by rw [hU]; exact hP, va_K.moved hW.alike hK⟩⟩ rfl rfl hl.1 rfl (lv_room (Nat.le_of_ble_eq_true rfl)) dX1_choose_9 ⟨Nat.le_of_ble_eq_true rfl, Nat.le_of_ble_eq_true rfl⟩) hS (fun q _ h9 => aX_up hS q h9) (aX_up hS) (fun r_1 u t H1 locs ht _ hw hB _ hk1 hS => ?_)
  obtain ⟨fv_3, wd_4, ar_5⟩ := u
  obtain ⟨hF_fv_3, hA_ar_5, fr_6, fa_7, wf_8, p_2, -⟩ := hw
  have wf_8 : wd_4.2 = wd.2 := wf_8
  have hP : va_P (dC, dI) vwCl (wsX ob ad cA fv_3 wd_4 ar_5) H1 := by have h9 := hB.1; rw [ht] at h9; exact h9
  have fr_6 : fM [] fv fv_3 := fr_6
  have fa_7 : fA [62, 63] ar ar_5 := fa_7
  generalize H1 = H at hP hS ⊢
  refine lv_istore (lv' := [(5, .int r_1), (0, .ref (ob 8)), (1, .int pp), (2, .int a), (3, .int b), (4, .int d)]) hx hb dX1_choose_12 hl (by decide) rfl (fun ls hl => ?_)
  refine lv_aload_n hx hb dX1_choose_14 rfl (lv_at hl 1 rfl) ?_
  refine gX_X1_9 hx hb htg hown hK hP dX1_choose_15 ?_
  refine gX_X1_129 hx hb htg hown hK hP dX1_choose_18 ?_
  refine gX_X1_196 hx hb htg hown hK hP dX1_choose_21 ?_
  refine lv_iload_n hx hb dX1_choose_24 rfl (lv_at hl 2 rfl) ?_
  refine lX_7 hx hb hK hP (iv_in h_pp (by decide) (by decide)) dX1_choose_25 (fun v_9 ev_9 => ?_)
  have i_10 : 0 ≤ v_9.toInt ∧ v_9.toInt ≤ 11 := ev_9 ▸ hA_ar_5 7 _
  refine lv_istore (lv' := [(6, .int v_9), (5, .int r_1), (0, .ref (ob 8)), (1, .int pp), (2, .int a), (3, .int b), (4, .int d)]) hx hb dX1_choose_26 hl (by decide) rfl (fun ls hl => ?_)
  refine lv_iload hx hb dX1_choose_28 (lv_at hl 1 rfl) ?_
  refine lv_iconst (v := (-1)) hx hb dX1_choose_30 (by decide) ?_
  refine my_cut (P := fun R9 a9 Q9 => ∀ (x_18 : Int32) (H : Heap) (locs : List Loc) (ls : Array Slot), (0 ≤ x_18.toInt ∧ x_18.toInt ≤ 11) → va_P (dC, dI) vwCl (wsX ob ad cA fv_3 wd_4 ar_5) H → va_S (aX ob ad s.heap.size) s.heap H locs → lv_has ls 10 [(0, .ref (ob 8)), (1, .int pp), (2, .int a), (3, .int b), (5, .int r_1)] → W p l e R9 s m a9 below meth c H locs 0 0 Q9 (F0 m 60 ls [.int x_18])) ?_ (fun hj_19 => ?_)
  · intro x_18 H locs ls i_x_18 hP hS hl
    refine lv_istore (lv' := [(7, .int x_18), (0, .ref (ob 8)), (1, .int pp), (2, .int a), (3, .int b), (5, .int r_1)]) hx hb dX1_choose_60 hl (by decide) rfl (fun ls hl => ?_)
    refine lv_aload_n hx hb dX1_choose_62 rfl (lv_at hl 1 rfl) ?_
    refine gX_X1_51 hx hb htg hown hK hP dX1_choose_63 ?_
    refine lv_iload_n hx hb dX1_choose_66 rfl (lv_at hl 2 rfl) ?_
    refine lv_iload hx hb dX1_choose_67 (lv_at hl 5 rfl) ?_
    refine sX_49 hx hb hK hP hS hd (iv_in h_pp (by decide) (by decide)) dX1_choose_69 (fun H locs ar_20 ear_20 hP hS => ?_)
    have hA_ar_20 : rB ar_20 := rB_put hA_ar_5 ear_20 p_2
    refine lv_aload_n hx hb dX1_choose_70 rfl (lv_at hl 1 rfl) ?_
    refine gX_X1_9 hx hb htg hown hK hP dX1_choose_71 ?_
    refine gX_X1_199 hx hb htg hown hK hP dX1_choose_74 ?_
    refine lv_iload_n hx hb dX1_choose_77 rfl (lv_at hl 3 rfl) ?_
    refine lv_iload hx hb dX1_choose_78 (lv_at hl 0 rfl) ?_
    refine va_calli (va_runV (As := [.int a, .int x_18]) (rest := []) ⟨hx, hb, hml, hown, hts⟩ (x_between l dC dI H.size ob ad cA hd fv_3 wd_4 ar_20 hF_fv_3 hA_ar_20 a x_18) (cwV 2 hts (gV kw_5_149 kw_3_147 kw_3_148 kw_1_3 kw_3_149) rfl rfl rfl (by decide +kernel) ⟨Nat.le_of_ble_eq_true rfl, Nat.le_of_ble_eq_true rfl⟩) ⟨fun a U g mk q => ⟨q.1, q.2.1, q.2.2.1, va_K.moved (u := U) (U := U.calling g mk a) (Vm.Alike.refl U.vm) q.2.2.2⟩, va_recv hK hP (ci := 5) (q0 := 2) rfl rfl, fun U hU hW => ⟨rfl, by rw [hU], by rw [hU]; exact hP, va_K.moved hW.alike hK⟩⟩ rfl rfl hl.1 rfl (lv_room (Nat.le_of_ble_eq_true rfl)) dX1_choose_80 ⟨Nat.le_of_ble_eq_true rfl, Nat.le_of_ble_eq_true rfl⟩) hS (fun q _ h9 => aX_up hS q h9) (aX_up hS) (fun r_21 u t H1 locs ht _ hw hB _ hk1 hS => ?_)
    obtain ⟨fv_22, wd_23, ar_24⟩ := u
    obtain ⟨hF_fv_22, hA_ar_24, fr_25, fa_26, wf_27, -⟩ := hw
    have wf_27 : wd_23.2 = wd_4.2 := wf_27
    have hP : va_P (dC, dI) vwCl (wsX ob ad cA fv_22 wd_23 ar_24) H1 := by have h9 := hB.1; rw [ht] at h9; exact h9
    have fr_25 : fM [] fv_3 fv_22 := fr_25
    have fa_26 : fA [] ar_20 ar_24 := fa_26
    generalize H1 = H at hP hS ⊢
    refine lv_istore (lv' := [(8, .int r_21), (7, .int x_18), (0, .ref (ob 8)), (1, .int pp), (2, .int a), (3, .int b), (5, .int r_1)]) hx hb dX1_choose_83 hl (by decide) rfl (fun ls hl => ?_)
    refine lv_iload hx hb dX1_choose_85 (lv_at hl 0 rfl) ?_
    refine lv_ldc hx hb hown (htg (.constant RX1 209 10000000) kw_5_150) dX1_choose_87 ?_
    refine lv_icmp_lt (tgt := 93) hx hb dX1_choose_89 (by decide) (fun c_28 => ?_) (fun c_28 => ?_)
    · skip
      have i_29 : (-2147483648) ≤ r_21.toInt ∧ r_21.toInt ≤ 9999999 := iv_lt1 (iv_any r_21) (⟨by decide, by decide⟩ : (10000000 : Int) ≤ (10000000 : Int32).toInt ∧ (10000000 : Int32).toInt ≤ 10000000) c_28
      refine lv_iload_n hx hb dX1_choose_93 rfl (lv_at hl 5 rfl) ?_
      refine lv_aload_n hx hb dX1_choose_94 rfl (lv_at hl 2 rfl) ?_
      refine gX_X1_20 hx hb htg hown hK hP dX1_choose_95 ?_
      refine lv_iload_n hx hb dX1_choose_98 rfl (lv_at hl 3 rfl) ?_
      refine lv_iload_n hx hb dX1_choose_99 rfl (lv_at hl 4 rfl) ?_
      refine lv_iload hx hb dX1_choose_100 (lv_at hl 1 rfl) ?_
      refine va_calli (va_runV (As := [.int pp, .int a, .int x_18]) (rest := [.int b]) ⟨hx, hb, hml, hown, hts⟩ (x_walkMinutes l dC dI H.size ob ad cA hd fv_22 wd_23 ar_24 hF_fv_22 hA_ar_24 pp a x_18 h_pp) (cwV 3 hts (gV kw_5_151 kw_5_135 kw_5_136 kw_1_13 kw_5_137) rfl rfl rfl (by decide +kernel) ⟨Nat.le_of_ble_eq_true rfl, Nat.le_of_ble_eq_true rfl⟩) ⟨fun a U g mk q => ⟨q.1, q.2.1, q.2.2.1, va_K.moved (u := U) (U := U.calling g mk a) (Vm.Alike.refl U.vm) q.2.2.2⟩, va_recv hK hP (ci := 9) (q0 := 9) rfl rfl, fun U hU hW => ⟨rfl, by rw [hU], by rw [hU]; exact hP, va_K.moved hW.alike hK⟩⟩ rfl rfl hl.1 rfl (lv_room (Nat.le_of_ble_eq_true rfl)) dX1_choose_102 ⟨Nat.le_of_ble_eq_true rfl, Nat.le_of_ble_eq_true rfl⟩) hS (fun q _ h9 => aX_up hS q h9) (aX_up hS) (fun r_30 u t H1 locs ht _ hw hB _ hk1 hS => ?_)
      obtain ⟨fv_31, wd_32, ar_33⟩ := u
      obtain ⟨hF_fv_31, hA_ar_33, fr_34, fa_35, wf_36, -⟩ := hw
      have wf_36 : wd_32.2 = wd_23.2 := wf_36
      have hP : va_P (dC, dI) vwCl (wsX ob ad cA fv_31 wd_32 ar_33) H1 := by have h9 := hB.1; rw [ht] at h9; exact h9
      have fr_34 : fM [] fv_22 fv_31 := fr_34
      have fa_35 : fA [] ar_24 ar_33 := fa_35
      generalize H1 = H at hP hS ⊢
      refine lv_iadd hx hb dX1_choose_105 ?_
      refine lv_topi (fun v_37 ev_37 => ?_)
      refine lv_istore (lv' := [(9, .int v_37), (8, .int r_21), (7, .int x_18), (0, .ref (ob 8)), (1, .int pp), (2, .int a), (3, .int b), (5, .int r_1)]) hx hb dX1_choose_106 hl (by decide) rfl (fun ls hl => ?_)
      refine lv_iload hx hb dX1_choose_108 (lv_at hl 7 rfl) ?_
      refine lv_iconst (v := (-1)) hx hb dX1_choose_110 (by decide) ?_
      refine my_cut (P := fun R9 a9 Q9 => ∀ (ar_45 : Nat → Nat → Int32) (H : Heap) (locs : List Loc) (ls : Array Slot), rB ar_45 → fA [46] ar_33 ar_45 → va_P (dC, dI) vwCl (wsX ob ad cA fv_31 wd_32 ar_45) H → va_S (aX ob ad s.heap.size) s.heap H locs → lv_has ls 10 [(0, .ref (ob 8)), (1, .int pp), (8, .int r_21)] → W p l e R9 s m a9 below meth c H locs 0 0 Q9 (F0 m 130 ls [])) ?_ (fun hj_47 => ?_)
      · intro ar_45 H locs ls hA_ar_45 fa_46 hP hS hl
        refine lv_aload_n hx hb dX1_choose_130 rfl (lv_at hl 0 rfl) ?_
        refine lv_iload_n hx hb dX1_choose_131 rfl (lv_at hl 1 rfl) ?_
        refine lv_iload hx hb dX1_choose_132 (lv_at hl 2 rfl) ?_
        refine va_callv (va_runV (As := [.int pp, .int r_21]) (rest := []) ⟨hx, hb, hml, hown, hts⟩ (x_mwalk l dC dI H.size ob ad cA hd fv_31 wd_32 ar_45 hF_fv_31 hA_ar_45 pp r_21 h_pp) (cwV 2 hts (gV kw_5_152 kw_5_154 kw_p_33 kw_1_12 kw_5_155) rfl rfl rfl (by decide +kernel) ⟨Nat.le_of_ble_eq_true rfl, Nat.le_of_ble_eq_true rfl⟩) ⟨fun a U g mk q => ⟨q.1, q.2.1, q.2.2.1, va_K.moved (u := U) (U := U.calling g mk a) (Vm.Alike.refl U.vm) q.2.2.2⟩, va_recv hK hP (ci := 2) (q0 := 8) rfl rfl, fun U hU hW => ⟨rfl, by rw [hU], by rw [hU]; exact hP, va_K.moved hW.alike hK⟩⟩ rfl rfl hl.1 rfl (lv_room (Nat.le_of_ble_eq_true rfl)) dX1_choose_134 ⟨Nat.le_of_ble_eq_true rfl, Nat.le_of_ble_eq_true rfl⟩) hS (fun q _ h9 => aX_up hS q h9) (aX_up hS) (fun u t H1 locs ht _ hw hB _ hk1 hS => ?_)
        obtain ⟨fv_49, wd_50, ar_51⟩ := u
        obtain ⟨hF_fv_49, hA_ar_51, fr_52, fa_53, wf_54, -⟩ := hw
        have wf_54 : wd_50.2 = wd_32.2 := wf_54
        have hP : va_P (dC, dI) vwCl (wsX ob ad cA fv_49 wd_50 ar_51) H1 := by have h9 := hB.1; rw [ht] at h9; exact h9
        have fr_52 : fM [] fv_31 fv_49 := fr_52
        have fa_53 : fA [45, 47, 64] ar_45 ar_51 := fa_53
        generalize H1 = H at hP hS ⊢
        exact W.vret hx hb hr (fun t ht hW => ⟨⟨(fv_49, wd_50, ar_51), rfl, ⟨hF_fv_49, hA_ar_51, (fM_call (fM_call (fM_call (fM_call (fM_rf [] _) fr_6 (by decide)) fr_25 (by decide)) fr_34 (by decide)) fr_52 (by decide)), (fA_call (fA_call (fA_call (fA_call (fA_put (fA_call (fA_rf [45, 46, 47, 49, 62, 63, 64] _) fa_7 (by decide)) ear_20 (by decide)) fa_26 (by decide)) fa_35 (by decide)) fa_46 (by decide)) fa_53 (by decide)), (wf_54.trans (wf_36.trans (wf_27.trans wf_8))), trivial⟩, ⟨by rw [ht]; exact hP, va_K.moved hW.alike hK⟩⟩, hS.F ht⟩) hS.2.2 dX1_choose_137
      · skip
        refine lv_icmp_ne (tgt := 130) hx hb dX1_choose_111 (by decide) (fun c_38 => ?_) (fun c_38 => ?_)
        · skip
          have i_39 : 0 ≤ r_1.toInt ∧ r_1.toInt ≤ 79 := iv_nel p_2 (by decide) c_38
          exact hj_47 ar_33 _ _ ls hA_ar_33 (fA_rf [46] _) hP hS (lv_sub hl [3, 4, 1] rfl)
        · skip
          have i_40 : (-1) ≤ r_1.toInt ∧ r_1.toInt ≤ (-1) := iv_eq1 (⟨by decide, by decide⟩ : (-1 : Int) ≤ ((-1) : Int32).toInt ∧ ((-1) : Int32).toInt ≤ -1) c_38
          refine lv_iload hx hb dX1_choose_114 (lv_at hl 0 rfl) ?_
          refine lv_sipush (v := 840) hx hb dX1_choose_116 (by decide) ?_
          refine lv_icmp_ge (tgt := 130) hx hb dX1_choose_119 (by decide) (fun c_41 => ?_) (fun c_41 => ?_)
          · skip
            have i_42 : 840 ≤ v_37.toInt ∧ v_37.toInt ≤ 2147483647 := iv_le2 (⟨by decide, by decide⟩ : (840 : Int) ≤ (840 : Int32).toInt ∧ (840 : Int32).toInt ≤ 840) (iv_any v_37) c_41
            exact hj_47 ar_33 _ _ ls hA_ar_33 (fA_rf [46] _) hP hS (lv_sub hl [3, 4, 1] rfl)
          · skip
            have i_43 : (-2147483648) ≤ v_37.toInt ∧ v_37.toInt ≤ 839 := iv_lt1 (iv_any v_37) (⟨by decide, by decide⟩ : (840 : Int) ≤ (840 : Int32).toInt ∧ (840 : Int32).toInt ≤ 840) (Int32.not_le.mp c_41)
            refine lv_aload_n hx hb dX1_choose_122 rfl (lv_at hl 3 rfl) ?_
            refine gX_X1_42 hx hb htg hown hK hP dX1_choose_123 ?_
            refine lv_iload_n hx hb dX1_choose_126 rfl (lv_at hl 4 rfl) ?_
            refine lv_iload hx hb dX1_choose_127 (lv_at hl 0 rfl) ?_
            refine sX_46 hx hb hK hP hS hd (iv_in h_pp (by decide) (by decide)) dX1_choose_129 (fun H locs ar_44 ear_44 hP hS => ?_)
            have hA_ar_44 : rB ar_44 := rB_put hA_ar_33 ear_44 (iv_any _)
            exact hj_47 ar_44 _ _ ls hA_ar_44 (fA_put (fA_rf [46] _) ear_44 (by decide)) hP hS (lv_sub hl [3, 4, 1] rfl)
    · skip
      have i_55 : 10000000 ≤ r_21.toInt ∧ r_21.toInt ≤ 2147483647 := iv_le2 (⟨by decide, by decide⟩ : (10000000 : Int) ≤ (10000000 : Int32).toInt ∧ (10000000 : Int32).toInt ≤ 10000000) (iv_any r_21) (Int32.not_lt.mp c_28)
      exact W.vret hx hb hr (fun t ht hW => ⟨⟨(fv_22, wd_23, ar_24), rfl, ⟨hF_fv_22, hA_ar_24, (fM_call (fM_call (fM_rf [] _) fr_6 (by decide)) fr_25 (by decide)), (fA_call (fA_put (fA_call (fA_rf [45, 46, 47, 49, 62, 63, 64] _) fa_7 (by decide)) ear_20 (by decide)) fa_26 (by decide)), (wf_27.trans wf_8), trivial⟩, ⟨by rw [ht]; exact hP, va_K.moved hW.alike hK⟩⟩, hS.F ht⟩) hS.2.2 dX1_choose_92
  · skip
    refine lv_icmp_ne (tgt := 39) hx hb dX1_choose_31 (by decide) (fun c_11 => ?_) (fun c_11 => ?_)
    · skip
      have i_12 : 0 ≤ r_1.toInt ∧ r_1.toInt ≤ 79 := iv_nel p_2 (by decide) c_11
      refine lv_aload_n hx hb dX1_choose_39 rfl (lv_at hl 2 rfl) ?_
      refine gX_X1_9 hx hb htg hown hK hP dX1_choose_40 ?_
      refine gX_X1_179 hx hb htg hown hK hP dX1_choose_43 ?_
      refine lv_aload_n hx hb dX1_choose_46 rfl (lv_at hl 2 rfl) ?_
      refine gX_X1_9 hx hb htg hown hK hP dX1_choose_47 ?_
      refine gX_X1_157 hx hb htg hown hK hP dX1_choose_50 ?_
      refine gX_X1_189 hx hb htg hown hK hP dX1_choose_53 ?_
      refine lv_iload hx hb dX1_choose_56 (lv_at hl 1 rfl) ?_
      refine lX_29 hx hb hK hP (iv_in i_12 (by decide) (by decide)) dX1_choose_58 (fun v_13 ev_13 => ?_)
      have i_14 : 0 ≤ v_13.toInt ∧ v_13.toInt ≤ 7 := ev_13 ▸ hA_ar_5 29 _
      refine lX_2 hx hb hK hP (iv_in i_14 (by decide) (by decide)) dX1_choose_59 (fun v_15 ev_15 => ?_)
      have i_16 : 0 ≤ v_15.toInt ∧ v_15.toInt ≤ 11 := ev_15 ▸ hA_ar_5 2 _
      exact hj_19 v_15 _ _ ls i_16 hP hS (lv_sub hl [2, 3, 4, 5, 1] rfl)
    · skip
      have i_17 : (-1) ≤ r_1.toInt ∧ r_1.toInt ≤ (-1) := iv_eq1 (⟨by decide, by decide⟩ : (-1 : Int) ≤ ((-1) : Int32).toInt ∧ ((-1) : Int32).toInt ≤ -1) c_11
      refine lv_iload hx hb dX1_choose_34 (lv_at hl 0 rfl) ?_
      refine lv_goto (tgt := 60) hx hb dX1_choose_36 (by decide) ?_
      exact hj_19 v_9 _ _ ls i_10 hP hS (lv_sub hl [2, 3, 4, 5, 1] rfl)
set_option maxHeartbeats 4000000 in
set_option maxRecDepth 100000 in
theorem x_landWheels (l : Launch) (dC : Nat → ClassId) (dI : Nat → Nat → Nat) (sz : Nat) (ob ad : Nat → Nat) (cA : Nat → ClassId) (hd : dX ob ad) (fv : Nat → Int32) (wd : xT) (ar : Nat → Nat → Int32) (hF_fv : rX fv) (hA_ar : rB ar) (a : Int32) : Met l yX1_landWheels (.code yX1_landWheels cX1_landWheels 4 none :: lw_good) ({ frames := 7, cells := 0, slots := 0, locals := 168 }) (va_Pc [.ref (ob 8), .int a] (prX dC dI ob ad cA fv wd ar sz)) (va_Qv (fun (u : xS) => rX u.1 ∧ rB u.2.2 ∧ fM [] fv u.1 ∧ fA [45, 46, 47, 49, 50, 55, 62, 63, 64] ar u.2.2 ∧ u.2.1.2 = wd.2 ∧ True) (enX dC dI ob ad cA) (aX ob ad sz)) 0 0 (aX ob ad sz) := by
  refine Met.ofW (cc := cX1_landWheels) (maxL := 4) (ret := none) (by decide) rfl ?_
  intro p e s m args below meth c s₁ B hml hv
  obtain ⟨rfl, hsz, hP, hK⟩ := hv
  have hx := B.exec
  have hb := B.bytes
  have hr := B.returns
  have hts := atoms_spec (ws := (.code yX1_landWheels cX1_landWheels 4 none :: lw_good)) B.pre
  have htg : ∀ w ∈ lw_good, w.before _ s = true := fun w hw => hts w (List.mem_cons_of_mem _ hw)
  have hown : s.vm.findClass RX1 = some m.cls := findClass_of_methodNamed B.named
  have hlocks := B.notSynchronized
  subst hsz
  have hS : va_S (aX ob ad s.heap.size) s.heap s.heap [] := va_S.rf
  have hl := lv_entry ([.ref (ob 8), .int a]) (n := 4) (Nat.le_of_ble_eq_true rfl)
  rw [lg_entry_eq]
  generalize (lg_sl ([.ref (ob 8), .int a]) ++ List.replicate (4 - (lg_sl ([.ref (ob 8), .int a])).length) Slot.unset).toArray = ls at hl ⊢
  have hl : lv_has ls 4 [(0, .ref (ob 8)), (1, .int a)] := hl
  refine lv_iconst (v := 0) hx hb dX1_landWheels_0 (by decide) ?_
  refine lv_istore_n (lv' := [(2, .int 0), (0, .ref (ob 8)), (1, .int a)]) hx hb dX1_landWheels_1 rfl hl (by decide) rfl (fun ls hl => ?_)
  refine my_cut (P := fun R9 a9 Q9 => ∀ (n_8 : Nat) (x_1 : Int32) (fv_2 : Nat → Int32) (ar_4 : Nat → Nat → Int32) (wd_6 : xT) (H : Heap) (locs : List Loc) (ls : Array Slot), 40 - x_1.toInt < (n_8 : Int) → (0 ≤ x_1.toInt ∧ x_1.toInt ≤ 40) → rX fv_2 → fM [] fv fv_2 → rB ar_4 → fA [45, 46, 47, 49, 50, 62, 63, 64] ar ar_4 → wd_6.2 = wd.2 → va_P (dC, dI) vwCl (wsX ob ad cA fv_2 wd_6 ar_4) H → va_S (aX ob ad s.heap.size) s.heap H locs → lv_has ls 4 [(0, .ref (ob 8)), (1, .int a), (2, .int x_1)] → W p l e R9 s m a9 below meth c H locs 0 0 Q9 (F0 m 2 ls [])) ?_ (fun hj_10 => ?_)
  · intro n_8
    induction n_8 with
    | zero => intro x_1 fv_2 ar_4 wd_6 H locs ls fu_9 i_x_1 hF_fv_2 fr_3 hA_ar_4 fa_5 wf_7; exfalso; omega
    | succ n_8 ih_8 =>
      intro x_1 fv_2 ar_4 wd_6 H locs ls fu_9 i_x_1 hF_fv_2 fr_3 hA_ar_4 fa_5 wf_7 hP hS hl
      refine lv_iload_n hx hb dX1_landWheels_2 rfl (lv_at hl 2 rfl) ?_
      refine lv_aload_n hx hb dX1_landWheels_3 rfl (lv_at hl 0 rfl) ?_
      refine gX_X1_9 hx hb htg hown hK hP dX1_landWheels_4 ?_
      refine gX_X1_129 hx hb htg hown hK hP dX1_landWheels_7 ?_
      refine gX_X1_133 hx hb htg hown hK hP dX1_landWheels_10 ?_
      refine my_ti (y := fv 10) ((fr_3 10 rfl)) ?_
      have i_11 : 0 ≤ (fv 10).toInt ∧ (fv 10).toInt ≤ 40 := hF_fv 10
      refine lv_icmp_ge (tgt := 72) hx hb dX1_landWheels_13 (by decide) (fun c_12 => ?_) (fun c_12 => ?_)
      · skip
        refine lv_iconst (v := 0) hx hb dX1_landWheels_72 (by decide) ?_
        refine lv_istore_n (lv' := [(2, .int 0), (0, .ref (ob 8)), (1, .int a)]) hx hb dX1_landWheels_73 rfl hl (by decide) rfl (fun ls hl => ?_)
        refine my_cut (P := fun R9 a9 Q9 => ∀ (n_47 : Nat) (x_44 : Int32) (ar_45 : Nat → Nat → Int32) (H : Heap) (locs : List Loc) (ls : Array Slot), 20 - x_44.toInt < (n_47 : Int) → (0 ≤ x_44.toInt ∧ x_44.toInt ≤ 20) → rB ar_45 → fA [55] ar_4 ar_45 → va_P (dC, dI) vwCl (wsX ob ad cA fv_2 wd_6 ar_45) H → va_S (aX ob ad s.heap.size) s.heap H locs → lv_has ls 4 [(0, .ref (ob 8)), (1, .int a), (2, .int x_44)] → W p l e R9 s m a9 below meth c H locs 0 0 Q9 (F0 m 74 ls [])) ?_ (fun hj_49 => ?_)
        · intro n_47
          induction n_47 with
          | zero => intro x_44 ar_45 H locs ls fu_48 i_x_44 hA_ar_45 fa_46; exfalso; omega
          | succ n_47 ih_47 =>
            intro x_44 ar_45 H locs ls fu_48 i_x_44 hA_ar_45 fa_46 hP hS hl
            refine lv_iload_n hx hb dX1_landWheels_74 rfl (lv_at hl 2 rfl) ?_
            refine lv_aload_n hx hb dX1_landWheels_75 rfl (lv_at hl 0 rfl) ?_
            refine gX_X1_9 hx hb htg hown hK hP dX1_landWheels_76 ?_
            refine gX_X1_148 hx hb htg hown hK hP dX1_landWheels_79 ?_
            refine gX_X1_152 hx hb htg hown hK hP dX1_landWheels_82 ?_
            refine my_ti (y := fv 11) ((fr_3 11 rfl)) ?_
            have i_50 : 0 ≤ (fv 11).toInt ∧ (fv 11).toInt ≤ 20 := hF_fv 11
            refine lv_icmp_ge (tgt := 111) hx hb dX1_landWheels_85 (by decide) (fun c_51 => ?_) (fun c_51 => ?_)
            · skip
              exact W.vret hx hb hr (fun t ht hW => ⟨⟨(fv_2, wd_6, ar_45), rfl, ⟨hF_fv_2, hA_ar_45, (fM_call (fM_rf [] _) fr_3 (by decide)), (fA_call (fA_call (fA_rf [45, 46, 47, 49, 50, 55, 62, 63, 64] _) fa_5 (by decide)) fa_46 (by decide)), wf_7, trivial⟩, ⟨by rw [ht]; exact hP, va_K.moved hW.alike hK⟩⟩, hS.F ht⟩) hS.2.2 dX1_landWheels_111
            · skip
              have i_52 : 0 ≤ x_44.toInt ∧ x_44.toInt ≤ 19 := iv_lt1 i_x_44 i_50 (Int32.not_le.mp c_51)
              have i_53 : 1 ≤ (fv 11).toInt ∧ (fv 11).toInt ≤ 20 := iv_lt2 i_x_44 i_50 (Int32.not_le.mp c_51)
              refine lv_aload_n hx hb dX1_landWheels_88 rfl (lv_at hl 0 rfl) ?_
              refine gX_X1_71 hx hb htg hown hK hP dX1_landWheels_89 ?_
              refine lv_iload_n hx hb dX1_landWheels_92 rfl (lv_at hl 2 rfl) ?_
              refine lX_55 hx hb hK hP (iv_in i_52 (by decide) (by decide)) dX1_landWheels_93 (fun v_54 ev_54 => ?_)
              refine lv_iload_n hx hb dX1_landWheels_94 rfl (lv_at hl 1 rfl) ?_
              refine my_cut (P := fun R9 a9 Q9 => ∀ (ar_57 : Nat → Nat → Int32) (H : Heap) (locs : List Loc) (ls : Array Slot), rB ar_57 → fA [55] ar_45 ar_57 → va_P (dC, dI) vwCl (wsX ob ad cA fv_2 wd_6 ar_57) H → va_S (aX ob ad s.heap.size) s.heap H locs → lv_has ls 4 [(0, .ref (ob 8)), (1, .int a), (2, .int x_44)] → W p l e R9 s m a9 below meth c H locs 0 0 Q9 (F0 m 105 ls [])) ?_ (fun hj_59 => ?_)
              · intro ar_57 H locs ls hA_ar_57 fa_58 hP hS hl
                obtain ⟨v_60, ev_60⟩ : ∃ z : Int32, z = x_44 + 1 := ⟨_, rfl⟩
                refine lv_iinc (v := v_60) (lv' := [(2, .int v_60), (0, .ref (ob 8)), (1, .int a)]) hx hb dX1_landWheels_105 hl (k := 2) rfl (by rw [ev_60]; rfl) (by decide) rfl (fun ls hl => ?_)
                have t_61 : v_60.toInt = x_44.toInt + 1 ∧ 1 ≤ v_60.toInt ∧ v_60.toInt ≤ 20 := iv_addc ev_60 i_52 (by decide) (by decide) (by decide)
                refine lv_goto (tgt := 74) hx hb dX1_landWheels_108 (by decide) ?_
                exact ih_47 v_60 ar_57 _ _ ls (by omega) (iv_w t_61.2 (by decide) (by decide)) hA_ar_57 (fA_call (fA_call (fA_rf [55] _) fa_46 (by decide)) fa_58 (by decide)) hP hS (lv_sub hl [1, 2, 0] rfl)
              · skip
                refine lv_icmp_ne (tgt := 105) hx hb dX1_landWheels_95 (by decide) (fun c_55 => ?_) (fun c_55 => ?_)
                · skip
                  exact hj_59 ar_45 _ _ ls hA_ar_45 (fA_rf [55] _) hP hS (lv_sub hl [0, 1, 2] rfl)
                · skip
                  refine lv_aload_n hx hb dX1_landWheels_98 rfl (lv_at hl 0 rfl) ?_
                  refine gX_X1_71 hx hb htg hown hK hP dX1_landWheels_99 ?_
                  refine lv_iload_n hx hb dX1_landWheels_102 rfl (lv_at hl 2 rfl) ?_
                  refine lv_iconst (v := (-1)) hx hb dX1_landWheels_103 (by decide) ?_
                  refine sX_55 hx hb hK hP hS hd (iv_in i_52 (by decide) (by decide)) dX1_landWheels_104 (fun H locs ar_56 ear_56 hP hS => ?_)
                  have hA_ar_56 : rB ar_56 := rB_put hA_ar_45 ear_56 (iv_any _)
                  exact hj_59 ar_56 _ _ ls hA_ar_56 (fA_put (fA_rf [55] _) ear_56 (by decide)) hP hS (lv_sub hl [0, 1, 2] rfl)
        · skip
          have z_63 : (0 : Int32).toInt = 0 := by decide
          exact hj_49 21 0 ar_4 _ _ ls (by first | decide | omega) (iv_w (⟨by decide, by decide⟩ : (0 : Int) ≤ (0 : Int32).toInt ∧ (0 : Int32).toInt ≤ 0) (by decide) (by decide)) hA_ar_4 (fA_rf [55] _) hP hS (lv_sub hl [1, 2, 0] rfl)
      · skip
        have i_13 : 0 ≤ x_1.toInt ∧ x_1.toInt ≤ 39 := iv_lt1 i_x_1 i_11 (Int32.not_le.mp c_12)
        have i_14 : 1 ≤ (fv 10).toInt ∧ (fv 10).toInt ≤ 40 := iv_lt2 i_x_1 i_11 (Int32.not_le.mp c_12)
        refine lv_aload_n hx hb dX1_landWheels_16 rfl (lv_at hl 0 rfl) ?_
        refine gX_X1_54 hx hb htg hown hK hP dX1_landWheels_17 ?_
        refine lv_iload_n hx hb dX1_landWheels_20 rfl (lv_at hl 2 rfl) ?_
        refine lX_50 hx hb hK hP (iv_in i_13 (by decide) (by decide)) dX1_landWheels_21 (fun v_15 ev_15 => ?_)
        have i_16 : (-1) ≤ v_15.toInt ∧ v_15.toInt ≤ 19 := ev_15 ▸ hA_ar_4 50 _
        refine lv_istore_n (lv' := [(3, .int v_15), (0, .ref (ob 8)), (1, .int a), (2, .int x_1)]) hx hb dX1_landWheels_22 rfl hl (by decide) rfl (fun ls hl => ?_)
        refine lv_iload_n hx hb dX1_landWheels_23 rfl (lv_at hl 0 rfl) ?_
        refine lv_iconst (v := (-1)) hx hb dX1_landWheels_24 (by decide) ?_
        refine my_cut (P := fun R9 a9 Q9 => ∀ (fv_34 : Nat → Int32) (ar_36 : Nat → Nat → Int32) (wd_38 : xT) (H : Heap) (locs : List Loc) (ls : Array Slot), rX fv_34 → fM [] fv_2 fv_34 → rB ar_36 → fA [45, 46, 47, 49, 50, 62, 63, 64] ar_4 ar_36 → wd_38.2 = wd_6.2 → va_P (dC, dI) vwCl (wsX ob ad cA fv_34 wd_38 ar_36) H → va_S (aX ob ad s.heap.size) s.heap H locs → lv_has ls 4 [(0, .ref (ob 8)), (1, .int a), (2, .int x_1)] → W p l e R9 s m a9 below meth c H locs 0 0 Q9 (F0 m 66 ls [])) ?_ (fun hj_40 => ?_)
        · intro fv_34 ar_36 wd_38 H locs ls hF_fv_34 fr_35 hA_ar_36 fa_37 wf_39 hP hS hl
          obtain ⟨v_41, ev_41⟩ : ∃ z : Int32, z = x_1 + 1 := ⟨_, rfl⟩
          refine lv_iinc (v := v_41) (lv' := [(2, .int v_41), (0, .ref (ob 8)), (1, .int a)]) hx hb dX1_landWheels_66 hl (k := 2) rfl (by rw [ev_41]; rfl) (by decide) rfl (fun ls hl => ?_)
          have t_42 : v_41.toInt = x_1.toInt + 1 ∧ 1 ≤ v_41.toInt ∧ v_41.toInt ≤ 40 := iv_addc ev_41 i_13 (by decide) (by decide) (by decide)
          refine lv_goto (tgt := 2) hx hb dX1_landWheels_69 (by decide) ?_
          exact ih_8 v_41 fv_34 ar_36 wd_38 _ _ ls (by omega) (iv_w t_42.2 (by decide) (by decide)) hF_fv_34 (fM_call (fM_call (fM_rf [] _) fr_3 (by decide)) fr_35 (by decide)) hA_ar_36 (fA_call (fA_call (fA_rf [45, 46, 47, 49, 50, 62, 63, 64] _) fa_5 (by decide)) fa_37 (by decide)) (wf_39.trans wf_7) hP hS (lv_sub hl [1, 2, 0] rfl)
        · skip
          refine lv_icmp_eq (tgt := 66) hx hb dX1_landWheels_25 (by decide) (fun c_17 => ?_) (fun c_17 => ?_)
          · skip
            have i_18 : (-1) ≤ v_15.toInt ∧ v_15.toInt ≤ (-1) := iv_eq1 (⟨by decide, by decide⟩ : (-1 : Int) ≤ ((-1) : Int32).toInt ∧ ((-1) : Int32).toInt ≤ -1) c_17
            exact hj_40 fv_2 ar_4 wd_6 _ _ ls hF_fv_2 (fM_rf [] _) hA_ar_4 (fA_rf [45, 46, 47, 49, 50, 62, 63, 64] _) rfl hP hS (lv_sub hl [1, 2, 3] rfl)
          · skip
            have i_19 : 0 ≤ v_15.toInt ∧ v_15.toInt ≤ 19 := iv_nel i_16 (by decide) c_17
            refine lv_aload_n hx hb dX1_landWheels_28 rfl (lv_at hl 1 rfl) ?_
            refine gX_X1_71 hx hb htg hown hK hP dX1_landWheels_29 ?_
            refine lv_iload_n hx hb dX1_landWheels_32 rfl (lv_at hl 0 rfl) ?_
            refine lX_55 hx hb hK hP (iv_in i_19 (by decide) (by decide)) dX1_landWheels_33 (fun v_20 ev_20 => ?_)
            refine lv_iload_n hx hb dX1_landWheels_34 rfl (lv_at hl 2 rfl) ?_
            refine lv_icmp_ne (tgt := 66) hx hb dX1_landWheels_35 (by decide) (fun c_21 => ?_) (fun c_21 => ?_)
            · skip
              exact hj_40 fv_2 ar_4 wd_6 _ _ ls hF_fv_2 (fM_rf [] _) hA_ar_4 (fA_rf [45, 46, 47, 49, 50, 62, 63, 64] _) rfl hP hS (lv_sub hl [1, 2, 3] rfl)
            · skip
              refine lv_aload_n hx hb dX1_landWheels_38 rfl (lv_at hl 1 rfl) ?_
              refine gX_X1_54 hx hb htg hown hK hP dX1_landWheels_39 ?_
              refine lv_iload_n hx hb dX1_landWheels_42 rfl (lv_at hl 3 rfl) ?_
              refine lv_iconst (v := (-1)) hx hb dX1_landWheels_43 (by decide) ?_
              refine sX_50 hx hb hK hP hS hd (iv_in i_13 (by decide) (by decide)) dX1_landWheels_44 (fun H locs ar_22 ear_22 hP hS => ?_)
              have hA_ar_22 : rB ar_22 := rB_put hA_ar_4 ear_22 (iv_w (⟨by decide, by decide⟩ : (-1 : Int) ≤ ((-1) : Int32).toInt ∧ ((-1) : Int32).toInt ≤ -1) (by decide) (by decide))
              refine lv_aload_n hx hb dX1_landWheels_45 rfl (lv_at hl 1 rfl) ?_
              refine lv_iload_n hx hb dX1_landWheels_46 rfl (lv_at hl 3 rfl) ?_
              refine lv_aload_n hx hb dX1_landWheels_47 rfl (lv_at hl 1 rfl) ?_
              refine gX_X1_9 hx hb htg hown hK hP dX1_landWheels_48 ?_
              refine gX_X1_179 hx hb htg hown hK hP dX1_landWheels_51 ?_
              refine lv_aload_n hx hb dX1_landWheels_54 rfl (lv_at hl 1 rfl) ?_
              refine gX_X1_68 hx hb htg hown hK hP dX1_landWheels_55 ?_
              refine lv_iload_n hx hb dX1_landWheels_58 rfl (lv_at hl 0 rfl) ?_
              refine lX_54 hx hb hK hP (iv_in i_19 (by decide) (by decide)) dX1_landWheels_59 (fun v_23 ev_23 => ?_)
              have i_24 : 0 ≤ v_23.toInt ∧ v_23.toInt ≤ 7 := ev_23 ▸ hA_ar_22 54 _
              refine lX_2 hx hb hK hP (iv_in i_24 (by decide) (by decide)) dX1_landWheels_60 (fun v_25 ev_25 => ?_)
              have i_26 : 0 ≤ v_25.toInt ∧ v_25.toInt ≤ 11 := ev_25 ▸ hA_ar_22 2 _
              refine lv_iload_n hx hb dX1_landWheels_61 rfl (lv_at hl 2 rfl) ?_
              refine lv_iload_n hx hb dX1_landWheels_62 rfl (lv_at hl 2 rfl) ?_
              refine va_callv (va_runV (As := [.int x_1, .int v_25, .int a, .int a]) (rest := []) ⟨hx, hb, hml, hown, hts⟩ (x_choose l dC dI H.size ob ad cA hd fv_2 wd_6 ar_22 hF_fv_2 hA_ar_22 x_1 v_25 a a i_13) (cwV 4 hts (gV kw_5_122 kw_5_124 kw_p_29 kw_1_12 kw_5_125) rfl rfl rfl (by decide +kernel) ⟨Nat.le_of_ble_eq_true rfl, Nat.le_of_ble_eq_true rfl⟩) ⟨fun a U g mk q => ⟨q.1, q.2.1, q.2.2.1, va_K.moved (u := U) (U := U.calling g mk a) (Vm.Alike.refl U.vm) q.2.2.2⟩, va_recv hK hP (ci := 2) (q0 := 8) rfl rfl, fun U hU hW => ⟨rfl, by rw [hU], by rw [hU]; exact hP, va_K.moved hW.alike hK⟩⟩ rfl rfl hl.1 rfl (lv_room (Nat.le_of_ble_eq_true rfl)) dX1_landWheels_63 ⟨Nat.le_of_ble_eq_true rfl, Nat.le_of_ble_eq_true rfl⟩) hS (fun q _ h9 => aX_up hS q h9) (aX_up hS) (fun u t H1 locs ht _ hw hB _ hk1 hS => ?_)
              obtain ⟨fv_28, wd_29, ar_30⟩ := u
              obtain ⟨hF_fv_28, hA_ar_30, fr_31, fa_32, wf_33, -⟩ := hw
              have wf_33 : wd_29.2 = wd_6.2 := wf_33
              have hP : va_P (dC, dI) vwCl (wsX ob ad cA fv_28 wd_29 ar_30) H1 := by have h9 := hB.1; rw [ht] at h9; exact h9
              have fr_31 : fM [] fv_2 fv_28 := fr_31
              have fa_32 : fA [45, 46, 47, 49, 62, 63, 64] ar_22 ar_30 := fa_32
              generalize H1 = H at hP hS ⊢
              exact hj_40 fv_28 ar_30 wd_29 _ _ ls hF_fv_28 (fM_call (fM_rf [] _) fr_31 (by decide)) hA_ar_30 (fA_call (fA_put (fA_rf [45, 46, 47, 49, 50, 62, 63, 64] _) ear_22 (by decide)) fa_32 (by decide)) wf_33 hP hS (lv_sub hl [1, 2, 3] rfl)
  · skip
    have z_64 : (0 : Int32).toInt = 0 := by decide
    exact hj_10 41 0 fv ar wd _ _ ls (by first | decide | omega) (iv_w (⟨by decide, by decide⟩ : (0 : Int) ≤ (0 : Int32).toInt ∧ (0 : Int32).toInt ≤ 0) (by decide) (by decide)) hF_fv (fM_rf [] _) hA_ar (fA_rf [45, 46, 47, 49, 50, 62, 63, 64] _) rfl hP hS (lv_sub hl [1, 2, 0] rfl)
set_option maxHeartbeats 4000000 in
set_option maxRecDepth 100000 in
theorem x_leaveHomes (l : Launch) (dC : Nat → ClassId) (dI : Nat → Nat → Nat) (sz : Nat) (ob ad : Nat → Nat) (cA : Nat → ClassId) (hd : dX ob ad) (fv : Nat → Int32) (wd : xT) (ar : Nat → Nat → Int32) (hF_fv : rX fv) (hA_ar : rB ar) (a : Int32) : Met l yX1_leaveHomes (.code yX1_leaveHomes cX1_leaveHomes 3 none :: lw_good) ({ frames := 7, cells := 0, slots := 0, locals := 168 }) (va_Pc [.ref (ob 8), .int a] (prX dC dI ob ad cA fv wd ar sz)) (va_Qv (fun (u : xS) => rX u.1 ∧ rB u.2.2 ∧ fM [] fv u.1 ∧ fA [45, 46, 47, 49, 62, 63, 64] ar u.2.2 ∧ u.2.1.2 = wd.2 ∧ True) (enX dC dI ob ad cA) (aX ob ad sz)) 0 0 (aX ob ad sz) := by
  refine Met.ofW (cc := cX1_leaveHomes) (maxL := 3) (ret := none) (by decide) rfl ?_
  intro p e s m args below meth c s₁ B hml hv
  obtain ⟨rfl, hsz, hP, hK⟩ := hv
  have hx := B.exec
  have hb := B.bytes
  have hr := B.returns
  have hts := atoms_spec (ws := (.code yX1_leaveHomes cX1_leaveHomes 3 none :: lw_good)) B.pre
  have htg : ∀ w ∈ lw_good, w.before _ s = true := fun w hw => hts w (List.mem_cons_of_mem _ hw)
  have hown : s.vm.findClass RX1 = some m.cls := findClass_of_methodNamed B.named
  have hlocks := B.notSynchronized
  subst hsz
  have hS : va_S (aX ob ad s.heap.size) s.heap s.heap [] := va_S.rf
  have hl := lv_entry ([.ref (ob 8), .int a]) (n := 3) (Nat.le_of_ble_eq_true rfl)
  rw [lg_entry_eq]
  generalize (lg_sl ([.ref (ob 8), .int a]) ++ List.replicate (3 - (lg_sl ([.ref (ob 8), .int a])).length) Slot.unset).toArray = ls at hl ⊢
  have hl : lv_has ls 3 [(0, .ref (ob 8)), (1, .int a)] := hl
  refine lv_iconst (v := 0) hx hb dX1_leaveHomes_0 (by decide) ?_
  refine lv_istore_n (lv' := [(2, .int 0), (0, .ref (ob 8)), (1, .int a)]) hx hb dX1_leaveHomes_1 rfl hl (by decide) rfl (fun ls hl => ?_)
  refine my_cut (P := fun R9 a9 Q9 => ∀ (n_8 : Nat) (x_1 : Int32) (fv_2 : Nat → Int32) (ar_4 : Nat → Nat → Int32) (wd_6 : xT) (H : Heap) (locs : List Loc) (ls : Array Slot), 40 - x_1.toInt < (n_8 : Int) → (0 ≤ x_1.toInt ∧ x_1.toInt ≤ 40) → rX fv_2 → fM [] fv fv_2 → rB ar_4 → fA [45, 46, 47, 49, 62, 63, 64] ar ar_4 → wd_6.2 = wd.2 → va_P (dC, dI) vwCl (wsX ob ad cA fv_2 wd_6 ar_4) H → va_S (aX ob ad s.heap.size) s.heap H locs → lv_has ls 3 [(0, .ref (ob 8)), (1, .int a), (2, .int x_1)] → W p l e R9 s m a9 below meth c H locs 0 0 Q9 (F0 m 2 ls [])) ?_ (fun hj_10 => ?_)
  · intro n_8
    induction n_8 with
    | zero => intro x_1 fv_2 ar_4 wd_6 H locs ls fu_9 i_x_1 hF_fv_2 fr_3 hA_ar_4 fa_5 wf_7; exfalso; omega
    | succ n_8 ih_8 =>
      intro x_1 fv_2 ar_4 wd_6 H locs ls fu_9 i_x_1 hF_fv_2 fr_3 hA_ar_4 fa_5 wf_7 hP hS hl
      refine lv_iload_n hx hb dX1_leaveHomes_2 rfl (lv_at hl 2 rfl) ?_
      refine lv_aload_n hx hb dX1_leaveHomes_3 rfl (lv_at hl 0 rfl) ?_
      refine gX_X1_9 hx hb htg hown hK hP dX1_leaveHomes_4 ?_
      refine gX_X1_129 hx hb htg hown hK hP dX1_leaveHomes_7 ?_
      refine gX_X1_133 hx hb htg hown hK hP dX1_leaveHomes_10 ?_
      refine my_ti (y := fv 10) ((fr_3 10 rfl)) ?_
      have i_11 : 0 ≤ (fv 10).toInt ∧ (fv 10).toInt ≤ 40 := hF_fv 10
      refine lv_icmp_ge (tgt := 57) hx hb dX1_leaveHomes_13 (by decide) (fun c_12 => ?_) (fun c_12 => ?_)
      · skip
        exact W.vret hx hb hr (fun t ht hW => ⟨⟨(fv_2, wd_6, ar_4), rfl, ⟨hF_fv_2, hA_ar_4, (fM_call (fM_rf [] _) fr_3 (by decide)), (fA_call (fA_rf [45, 46, 47, 49, 62, 63, 64] _) fa_5 (by decide)), wf_7, trivial⟩, ⟨by rw [ht]; exact hP, va_K.moved hW.alike hK⟩⟩, hS.F ht⟩) hS.2.2 dX1_leaveHomes_57
      · skip
        have i_13 : 0 ≤ x_1.toInt ∧ x_1.toInt ≤ 39 := iv_lt1 i_x_1 i_11 (Int32.not_le.mp c_12)
        have i_14 : 1 ≤ (fv 10).toInt ∧ (fv 10).toInt ≤ 40 := iv_lt2 i_x_1 i_11 (Int32.not_le.mp c_12)
        refine lv_aload_n hx hb dX1_leaveHomes_16 rfl (lv_at hl 0 rfl) ?_
        refine gX_X1_9 hx hb htg hown hK hP dX1_leaveHomes_17 ?_
        refine gX_X1_129 hx hb htg hown hK hP dX1_leaveHomes_20 ?_
        refine gX_X1_142 hx hb htg hown hK hP dX1_leaveHomes_23 ?_
        refine lv_iload_n hx hb dX1_leaveHomes_26 rfl (lv_at hl 2 rfl) ?_
        refine lX_9 hx hb hK hP (iv_in i_13 (by decide) (by decide)) dX1_leaveHomes_27 (fun v_15 ev_15 => ?_)
        refine lv_iload_n hx hb dX1_leaveHomes_28 rfl (lv_at hl 1 rfl) ?_
        refine my_cut (P := fun R9 a9 Q9 => ∀ (fv_26 : Nat → Int32) (ar_28 : Nat → Nat → Int32) (wd_30 : xT) (H : Heap) (locs : List Loc) (ls : Array Slot), rX fv_26 → fM [] fv_2 fv_26 → rB ar_28 → fA [45, 46, 47, 49, 62, 63, 64] ar_4 ar_28 → wd_30.2 = wd_6.2 → va_P (dC, dI) vwCl (wsX ob ad cA fv_26 wd_30 ar_28) H → va_S (aX ob ad s.heap.size) s.heap H locs → lv_has ls 3 [(0, .ref (ob 8)), (1, .int a), (2, .int x_1)] → W p l e R9 s m a9 below meth c H locs 0 0 Q9 (F0 m 51 ls [])) ?_ (fun hj_32 => ?_)
        · intro fv_26 ar_28 wd_30 H locs ls hF_fv_26 fr_27 hA_ar_28 fa_29 wf_31 hP hS hl
          obtain ⟨v_33, ev_33⟩ : ∃ z : Int32, z = x_1 + 1 := ⟨_, rfl⟩
          refine lv_iinc (v := v_33) (lv' := [(2, .int v_33), (0, .ref (ob 8)), (1, .int a)]) hx hb dX1_leaveHomes_51 hl (k := 2) rfl (by rw [ev_33]; rfl) (by decide) rfl (fun ls hl => ?_)
          have t_34 : v_33.toInt = x_1.toInt + 1 ∧ 1 ≤ v_33.toInt ∧ v_33.toInt ≤ 40 := iv_addc ev_33 i_13 (by decide) (by decide) (by decide)
          refine lv_goto (tgt := 2) hx hb dX1_leaveHomes_54 (by decide) ?_
          exact ih_8 v_33 fv_26 ar_28 wd_30 _ _ ls (by omega) (iv_w t_34.2 (by decide) (by decide)) hF_fv_26 (fM_call (fM_call (fM_rf [] _) fr_3 (by decide)) fr_27 (by decide)) hA_ar_28 (fA_call (fA_call (fA_rf [45, 46, 47, 49, 62, 63, 64] _) fa_5 (by decide)) fa_29 (by decide)) (wf_31.trans wf_7) hP hS (lv_sub hl [1, 2, 0] rfl)
        · skip
          refine lv_icmp_ne (tgt := 51) hx hb dX1_leaveHomes_29 (by decide) (fun c_16 => ?_) (fun c_16 => ?_)
          · skip
            exact hj_32 fv_2 ar_4 wd_6 _ _ ls hF_fv_2 (fM_rf [] _) hA_ar_4 (fA_rf [45, 46, 47, 49, 62, 63, 64] _) rfl hP hS (lv_sub hl [0, 1, 2] rfl)
          · skip
            refine lv_aload_n hx hb dX1_leaveHomes_32 rfl (lv_at hl 0 rfl) ?_
            refine lv_iload_n hx hb dX1_leaveHomes_33 rfl (lv_at hl 2 rfl) ?_
            refine lv_aload_n hx hb dX1_leaveHomes_34 rfl (lv_at hl 0 rfl) ?_
            refine gX_X1_9 hx hb htg hown hK hP dX1_leaveHomes_35 ?_
            refine gX_X1_129 hx hb htg hown hK hP dX1_leaveHomes_38 ?_
            refine gX_X1_186 hx hb htg hown hK hP dX1_leaveHomes_41 ?_
            refine lv_iload_n hx hb dX1_leaveHomes_44 rfl (lv_at hl 2 rfl) ?_
            refine lX_6 hx hb hK hP (iv_in i_13 (by decide) (by decide)) dX1_leaveHomes_45 (fun v_17 ev_17 => ?_)
            have i_18 : 0 ≤ v_17.toInt ∧ v_17.toInt ≤ 11 := ev_17 ▸ hA_ar_4 6 _
            refine lv_iload_n hx hb dX1_leaveHomes_46 rfl (lv_at hl 1 rfl) ?_
            refine lv_iload_n hx hb dX1_leaveHomes_47 rfl (lv_at hl 1 rfl) ?_
            refine va_callv (va_runV (As := [.int x_1, .int v_17, .int a, .int a]) (rest := []) ⟨hx, hb, hml, hown, hts⟩ (x_choose l dC dI H.size ob ad cA hd fv_2 wd_6 ar_4 hF_fv_2 hA_ar_4 x_1 v_17 a a i_13) (cwV 4 hts (gV kw_5_122 kw_5_124 kw_p_29 kw_1_12 kw_5_125) rfl rfl rfl (by decide +kernel) ⟨Nat.le_of_ble_eq_true rfl, Nat.le_of_ble_eq_true rfl⟩) ⟨fun a U g mk q => ⟨q.1, q.2.1, q.2.2.1, va_K.moved (u := U) (U := U.calling g mk a) (Vm.Alike.refl U.vm) q.2.2.2⟩, va_recv hK hP (ci := 2) (q0 := 8) rfl rfl, fun U hU hW => ⟨rfl, by rw [hU], by rw [hU]; exact hP, va_K.moved hW.alike hK⟩⟩ rfl rfl hl.1 rfl (lv_room (Nat.le_of_ble_eq_true rfl)) dX1_leaveHomes_48 ⟨Nat.le_of_ble_eq_true rfl, Nat.le_of_ble_eq_true rfl⟩) hS (fun q _ h9 => aX_up hS q h9) (aX_up hS) (fun u t H1 locs ht _ hw hB _ hk1 hS => ?_)
            obtain ⟨fv_20, wd_21, ar_22⟩ := u
            obtain ⟨hF_fv_20, hA_ar_22, fr_23, fa_24, wf_25, -⟩ := hw
            have wf_25 : wd_21.2 = wd_6.2 := wf_25
            have hP : va_P (dC, dI) vwCl (wsX ob ad cA fv_20 wd_21 ar_22) H1 := by have h9 := hB.1; rw [ht] at h9; exact h9
            have fr_23 : fM [] fv_2 fv_20 := fr_23
            have fa_24 : fA [45, 46, 47, 49, 62, 63, 64] ar_4 ar_22 := fa_24
            generalize H1 = H at hP hS ⊢
            exact hj_32 fv_20 ar_22 wd_21 _ _ ls hF_fv_20 (fM_call (fM_rf [] _) fr_23 (by decide)) hA_ar_22 (fA_call (fA_rf [45, 46, 47, 49, 62, 63, 64] _) fa_24 (by decide)) wf_25 hP hS (lv_sub hl [0, 1, 2] rfl)
  · skip
    have z_36 : (0 : Int32).toInt = 0 := by decide
    exact hj_10 41 0 fv ar wd _ _ ls (by first | decide | omega) (iv_w (⟨by decide, by decide⟩ : (0 : Int) ≤ (0 : Int32).toInt ∧ (0 : Int32).toInt ≤ 0) (by decide) (by decide)) hF_fv (fM_rf [] _) hA_ar (fA_rf [45, 46, 47, 49, 62, 63, 64] _) rfl hP hS (lv_sub hl [1, 2, 0] rfl)
set_option maxHeartbeats 4000000 in
set_option maxRecDepth 100000 in
theorem x_chooseAgain (l : Launch) (dC : Nat → ClassId) (dI : Nat → Nat → Nat) (sz : Nat) (ob ad : Nat → Nat) (cA : Nat → ClassId) (hd : dX ob ad) (fv : Nat → Int32) (wd : xT) (ar : Nat → Nat → Int32) (hF_fv : rX fv) (hA_ar : rB ar) (a : Int32) : Met l yX1_chooseAgain (.code yX1_chooseAgain cX1_chooseAgain 4 none :: lw_good) ({ frames := 7, cells := 0, slots := 0, locals := 168 }) (va_Pc [.ref (ob 8), .int a] (prX dC dI ob ad cA fv wd ar sz)) (va_Qv (fun (u : xS) => rX u.1 ∧ rB u.2.2 ∧ fM [] fv u.1 ∧ fA [45, 46, 47, 49, 62, 63, 64] ar u.2.2 ∧ u.2.1.2 = wd.2 ∧ True) (enX dC dI ob ad cA) (aX ob ad sz)) 0 0 (aX ob ad sz) := by
  refine Met.ofW (cc := cX1_chooseAgain) (maxL := 4) (ret := none) (by decide) rfl ?_
  intro p e s m args below meth c s₁ B hml hv
  obtain ⟨rfl, hsz, hP, hK⟩ := hv
  have hx := B.exec
  have hb := B.bytes
  have hr := B.returns
  have hts := atoms_spec (ws := (.code yX1_chooseAgain cX1_chooseAgain 4 none :: lw_good)) B.pre
  have htg : ∀ w ∈ lw_good, w.before _ s = true := fun w hw => hts w (List.mem_cons_of_mem _ hw)
  have hown : s.vm.findClass RX1 = some m.cls := findClass_of_methodNamed B.named
  have hlocks := B.notSynchronized
  subst hsz
  have hS : va_S (aX ob ad s.heap.size) s.heap s.heap [] := va_S.rf
  have hl := lv_entry ([.ref (ob 8), .int a]) (n := 4) (Nat.le_of_ble_eq_true rfl)
  rw [lg_entry_eq]
  generalize (lg_sl ([.ref (ob 8), .int a]) ++ List.replicate (4 - (lg_sl ([.ref (ob 8), .int a])).length) Slot.unset).toArray = ls at hl ⊢
  have hl : lv_has ls 4 [(0, .ref (ob 8)), (1, .int a)] := hl
  refine lv_iconst (v := 0) hx hb dX1_chooseAgain_0 (by decide) ?_
  refine lv_istore_n (lv' := [(2, .int 0), (0, .ref (ob 8)), (1, .int a)]) hx hb dX1_chooseAgain_1 rfl hl (by decide) rfl (fun ls hl => ?_)
  refine my_cut (P := fun R9 a9 Q9 => ∀ (n_8 : Nat) (x_1 : Int32) (fv_2 : Nat → Int32) (ar_4 : Nat → Nat → Int32) (wd_6 : xT) (H : Heap) (locs : List Loc) (ls : Array Slot), 40 - x_1.toInt < (n_8 : Int) → (0 ≤ x_1.toInt ∧ x_1.toInt ≤ 40) → rX fv_2 → fM [] fv fv_2 → rB ar_4 → fA [45, 46, 47, 49, 62, 63, 64] ar ar_4 → wd_6.2 = wd.2 → va_P (dC, dI) vwCl (wsX ob ad cA fv_2 wd_6 ar_4) H → va_S (aX ob ad s.heap.size) s.heap H locs → lv_has ls 4 [(0, .ref (ob 8)), (1, .int a), (2, .int x_1)] → W p l e R9 s m a9 below meth c H locs 0 0 Q9 (F0 m 2 ls [])) ?_ (fun hj_10 => ?_)
  · intro n_8
    induction n_8 with
    | zero => intro x_1 fv_2 ar_4 wd_6 H locs ls fu_9 i_x_1 hF_fv_2 fr_3 hA_ar_4 fa_5 wf_7; exfalso; omega
    | succ n_8 ih_8 =>
      intro x_1 fv_2 ar_4 wd_6 H locs ls fu_9 i_x_1 hF_fv_2 fr_3 hA_ar_4 fa_5 wf_7 hP hS hl
      refine lv_iload_n hx hb dX1_chooseAgain_2 rfl (lv_at hl 2 rfl) ?_
      refine lv_aload_n hx hb dX1_chooseAgain_3 rfl (lv_at hl 0 rfl) ?_
      refine gX_X1_9 hx hb htg hown hK hP dX1_chooseAgain_4 ?_
      refine gX_X1_129 hx hb htg hown hK hP dX1_chooseAgain_7 ?_
      refine gX_X1_133 hx hb htg hown hK hP dX1_chooseAgain_10 ?_
      refine my_ti (y := fv 10) ((fr_3 10 rfl)) ?_
      have i_11 : 0 ≤ (fv 10).toInt ∧ (fv 10).toInt ≤ 40 := hF_fv 10
      refine lv_icmp_ge (tgt := 79) hx hb dX1_chooseAgain_13 (by decide) (fun c_12 => ?_) (fun c_12 => ?_)
      · skip
        exact W.vret hx hb hr (fun t ht hW => ⟨⟨(fv_2, wd_6, ar_4), rfl, ⟨hF_fv_2, hA_ar_4, (fM_call (fM_rf [] _) fr_3 (by decide)), (fA_call (fA_rf [45, 46, 47, 49, 62, 63, 64] _) fa_5 (by decide)), wf_7, trivial⟩, ⟨by rw [ht]; exact hP, va_K.moved hW.alike hK⟩⟩, hS.F ht⟩) hS.2.2 dX1_chooseAgain_79
      · skip
        have i_13 : 0 ≤ x_1.toInt ∧ x_1.toInt ≤ 39 := iv_lt1 i_x_1 i_11 (Int32.not_le.mp c_12)
        have i_14 : 1 ≤ (fv 10).toInt ∧ (fv 10).toInt ≤ 40 := iv_lt2 i_x_1 i_11 (Int32.not_le.mp c_12)
        refine lv_aload_n hx hb dX1_chooseAgain_16 rfl (lv_at hl 0 rfl) ?_
        refine gX_X1_51 hx hb htg hown hK hP dX1_chooseAgain_17 ?_
        refine lv_iload_n hx hb dX1_chooseAgain_20 rfl (lv_at hl 2 rfl) ?_
        refine lX_49 hx hb hK hP (iv_in i_13 (by decide) (by decide)) dX1_chooseAgain_21 (fun v_15 ev_15 => ?_)
        have i_16 : (-1) ≤ v_15.toInt ∧ v_15.toInt ≤ 79 := ev_15 ▸ hA_ar_4 49 _
        refine lv_istore_n (lv' := [(3, .int v_15), (0, .ref (ob 8)), (1, .int a), (2, .int x_1)]) hx hb dX1_chooseAgain_22 rfl hl (by decide) rfl (fun ls hl => ?_)
        refine lv_iload_n hx hb dX1_chooseAgain_23 rfl (lv_at hl 0 rfl) ?_
        refine lv_iconst (v := (-1)) hx hb dX1_chooseAgain_24 (by decide) ?_
        refine my_cut (P := fun R9 a9 Q9 => ∀ (fv_34 : Nat → Int32) (ar_36 : Nat → Nat → Int32) (wd_38 : xT) (H : Heap) (locs : List Loc) (ls : Array Slot), rX fv_34 → fM [] fv_2 fv_34 → rB ar_36 → fA [45, 46, 47, 49, 62, 63, 64] ar_4 ar_36 → wd_38.2 = wd_6.2 → va_P (dC, dI) vwCl (wsX ob ad cA fv_34 wd_38 ar_36) H → va_S (aX ob ad s.heap.size) s.heap H locs → lv_has ls 4 [(0, .ref (ob 8)), (1, .int a), (2, .int x_1)] → W p l e R9 s m a9 below meth c H locs 0 0 Q9 (F0 m 73 ls [])) ?_ (fun hj_40 => ?_)
        · intro fv_34 ar_36 wd_38 H locs ls hF_fv_34 fr_35 hA_ar_36 fa_37 wf_39 hP hS hl
          obtain ⟨v_41, ev_41⟩ : ∃ z : Int32, z = x_1 + 1 := ⟨_, rfl⟩
          refine lv_iinc (v := v_41) (lv' := [(2, .int v_41), (0, .ref (ob 8)), (1, .int a)]) hx hb dX1_chooseAgain_73 hl (k := 2) rfl (by rw [ev_41]; rfl) (by decide) rfl (fun ls hl => ?_)
          have t_42 : v_41.toInt = x_1.toInt + 1 ∧ 1 ≤ v_41.toInt ∧ v_41.toInt ≤ 40 := iv_addc ev_41 i_13 (by decide) (by decide) (by decide)
          refine lv_goto (tgt := 2) hx hb dX1_chooseAgain_76 (by decide) ?_
          exact ih_8 v_41 fv_34 ar_36 wd_38 _ _ ls (by omega) (iv_w t_42.2 (by decide) (by decide)) hF_fv_34 (fM_call (fM_call (fM_rf [] _) fr_3 (by decide)) fr_35 (by decide)) hA_ar_36 (fA_call (fA_call (fA_rf [45, 46, 47, 49, 62, 63, 64] _) fa_5 (by decide)) fa_37 (by decide)) (wf_39.trans wf_7) hP hS (lv_sub hl [1, 2, 0] rfl)
        · skip
          refine lv_icmp_eq (tgt := 73) hx hb dX1_chooseAgain_25 (by decide) (fun c_17 => ?_) (fun c_17 => ?_)
          · skip
            have i_18 : (-1) ≤ v_15.toInt ∧ v_15.toInt ≤ (-1) := iv_eq1 (⟨by decide, by decide⟩ : (-1 : Int) ≤ ((-1) : Int32).toInt ∧ ((-1) : Int32).toInt ≤ -1) c_17
            exact hj_40 fv_2 ar_4 wd_6 _ _ ls hF_fv_2 (fM_rf [] _) hA_ar_4 (fA_rf [45, 46, 47, 49, 62, 63, 64] _) rfl hP hS (lv_sub hl [1, 2, 3] rfl)
          · skip
            have i_19 : 0 ≤ v_15.toInt ∧ v_15.toInt ≤ 79 := iv_nel i_16 (by decide) c_17
            refine lv_aload_n hx hb dX1_chooseAgain_28 rfl (lv_at hl 1 rfl) ?_
            refine gX_X1_9 hx hb htg hown hK hP dX1_chooseAgain_29 ?_
            refine gX_X1_157 hx hb htg hown hK hP dX1_chooseAgain_32 ?_
            refine gX_X1_166 hx hb htg hown hK hP dX1_chooseAgain_35 ?_
            refine lv_iload_n hx hb dX1_chooseAgain_38 rfl (lv_at hl 0 rfl) ?_
            refine lX_31 hx hb hK hP (iv_in i_19 (by decide) (by decide)) dX1_chooseAgain_39 (fun v_20 ev_20 => ?_)
            refine lv_iload_n hx hb dX1_chooseAgain_40 rfl (lv_at hl 2 rfl) ?_
            refine lv_icmp_ne (tgt := 73) hx hb dX1_chooseAgain_41 (by decide) (fun c_21 => ?_) (fun c_21 => ?_)
            · skip
              exact hj_40 fv_2 ar_4 wd_6 _ _ ls hF_fv_2 (fM_rf [] _) hA_ar_4 (fA_rf [45, 46, 47, 49, 62, 63, 64] _) rfl hP hS (lv_sub hl [1, 2, 3] rfl)
            · skip
              refine lv_aload_n hx hb dX1_chooseAgain_44 rfl (lv_at hl 1 rfl) ?_
              refine lv_iload_n hx hb dX1_chooseAgain_45 rfl (lv_at hl 3 rfl) ?_
              refine lv_aload_n hx hb dX1_chooseAgain_46 rfl (lv_at hl 1 rfl) ?_
              refine gX_X1_9 hx hb htg hown hK hP dX1_chooseAgain_47 ?_
              refine gX_X1_179 hx hb htg hown hK hP dX1_chooseAgain_50 ?_
              refine lv_aload_n hx hb dX1_chooseAgain_53 rfl (lv_at hl 1 rfl) ?_
              refine gX_X1_9 hx hb htg hown hK hP dX1_chooseAgain_54 ?_
              refine gX_X1_157 hx hb htg hown hK hP dX1_chooseAgain_57 ?_
              refine gX_X1_189 hx hb htg hown hK hP dX1_chooseAgain_60 ?_
              refine lv_iload_n hx hb dX1_chooseAgain_63 rfl (lv_at hl 0 rfl) ?_
              refine lX_29 hx hb hK hP (iv_in i_19 (by decide) (by decide)) dX1_chooseAgain_64 (fun v_22 ev_22 => ?_)
              have i_23 : 0 ≤ v_22.toInt ∧ v_22.toInt ≤ 7 := ev_22 ▸ hA_ar_4 29 _
              refine lX_2 hx hb hK hP (iv_in i_23 (by decide) (by decide)) dX1_chooseAgain_65 (fun v_24 ev_24 => ?_)
              have i_25 : 0 ≤ v_24.toInt ∧ v_24.toInt ≤ 11 := ev_24 ▸ hA_ar_4 2 _
              refine lv_iload_n hx hb dX1_chooseAgain_66 rfl (lv_at hl 2 rfl) ?_
              refine lv_iload_n hx hb dX1_chooseAgain_67 rfl (lv_at hl 2 rfl) ?_
              refine lv_iconst (v := 1) hx hb dX1_chooseAgain_68 (by decide) ?_
              refine lv_iadd hx hb dX1_chooseAgain_69 ?_
              refine lv_topi (fun v_26 ev_26 => ?_)
              refine va_callv (va_runV (As := [.int x_1, .int v_24, .int a, .int v_26]) (rest := []) ⟨hx, hb, hml, hown, hts⟩ (x_choose l dC dI H.size ob ad cA hd fv_2 wd_6 ar_4 hF_fv_2 hA_ar_4 x_1 v_24 a v_26 i_13) (cwV 4 hts (gV kw_5_122 kw_5_124 kw_p_29 kw_1_12 kw_5_125) rfl rfl rfl (by decide +kernel) ⟨Nat.le_of_ble_eq_true rfl, Nat.le_of_ble_eq_true rfl⟩) ⟨fun a U g mk q => ⟨q.1, q.2.1, q.2.2.1, va_K.moved (u := U) (U := U.calling g mk a) (Vm.Alike.refl U.vm) q.2.2.2⟩, va_recv hK hP (ci := 2) (q0 := 8) rfl rfl, fun U hU hW => ⟨rfl, by rw [hU], by rw [hU]; exact hP, va_K.moved hW.alike hK⟩⟩ rfl rfl hl.1 rfl (lv_room (Nat.le_of_ble_eq_true rfl)) dX1_chooseAgain_70 ⟨Nat.le_of_ble_eq_true rfl, Nat.le_of_ble_eq_true rfl⟩) hS (fun q _ h9 => aX_up hS q h9) (aX_up hS) (fun u t H1 locs ht _ hw hB _ hk1 hS => ?_)
              obtain ⟨fv_28, wd_29, ar_30⟩ := u
              obtain ⟨hF_fv_28, hA_ar_30, fr_31, fa_32, wf_33, -⟩ := hw
              have wf_33 : wd_29.2 = wd_6.2 := wf_33
              have hP : va_P (dC, dI) vwCl (wsX ob ad cA fv_28 wd_29 ar_30) H1 := by have h9 := hB.1; rw [ht] at h9; exact h9
              have fr_31 : fM [] fv_2 fv_28 := fr_31
              have fa_32 : fA [45, 46, 47, 49, 62, 63, 64] ar_4 ar_30 := fa_32
              generalize H1 = H at hP hS ⊢
              exact hj_40 fv_28 ar_30 wd_29 _ _ ls hF_fv_28 (fM_call (fM_rf [] _) fr_31 (by decide)) hA_ar_30 (fA_call (fA_rf [45, 46, 47, 49, 62, 63, 64] _) fa_32 (by decide)) wf_33 hP hS (lv_sub hl [1, 2, 3] rfl)
  · skip
    have z_44 : (0 : Int32).toInt = 0 := by decide
    exact hj_10 41 0 fv ar wd _ _ ls (by first | decide | omega) (iv_w (⟨by decide, by decide⟩ : (0 : Int) ≤ (0 : Int32).toInt ∧ (0 : Int32).toInt ≤ 0) (by decide) (by decide)) hF_fv (fM_rf [] _) hA_ar (fA_rf [45, 46, 47, 49, 62, 63, 64] _) rfl hP hS (lv_sub hl [1, 2, 0] rfl)
set_option maxHeartbeats 4000000 in
set_option maxRecDepth 100000 in
theorem x_standsReady (l : Launch) (dC : Nat → ClassId) (dI : Nat → Nat → Nat) (sz : Nat) (ob ad : Nat → Nat) (cA : Nat → ClassId) (hd : dX ob ad) (fv : Nat → Int32) (wd : xT) (ar : Nat → Nat → Int32) (hF_fv : rX fv) (hA_ar : rB ar) (kk : Int32) (h_kk : 0 ≤ kk.toInt ∧ kk.toInt ≤ 79) : Met l yX1_standsReady (.code yX1_standsReady cX1_standsReady 3 (some .boolean) :: lw_good) ({ frames := 4, cells := 0, slots := 0, locals := 83 }) (va_Pc [.ref (ob 8), .int kk] (prX dC dI ob ad cA fv wd ar sz)) (va_Qi (fun (r : Int32) (u : xS) => rX u.1 ∧ rB u.2.2 ∧ fM [] fv u.1 ∧ fA [] ar u.2.2 ∧ u.2.1.2 = wd.2 ∧ (0 ≤ r.toInt ∧ r.toInt ≤ 1) ∧ True) (enX dC dI ob ad cA) (aX ob ad sz)) 0 0 (aX ob ad sz) := by
  refine Met.ofW (cc := cX1_standsReady) (maxL := 3) (ret := (some .boolean)) (by decide) rfl ?_
  intro p e s m args below meth c s₁ B hml hv
  obtain ⟨rfl, hsz, hP, hK⟩ := hv
  have hx := B.exec
  have hb := B.bytes
  have hr := B.returns
  have hts := atoms_spec (ws := (.code yX1_standsReady cX1_standsReady 3 (some .boolean) :: lw_good)) B.pre
  have htg : ∀ w ∈ lw_good, w.before _ s = true := fun w hw => hts w (List.mem_cons_of_mem _ hw)
  have hown : s.vm.findClass RX1 = some m.cls := findClass_of_methodNamed B.named
  have hlocks := B.notSynchronized
  subst hsz
  have hS : va_S (aX ob ad s.heap.size) s.heap s.heap [] := va_S.rf
  have hl := lv_entry ([.ref (ob 8), .int kk]) (n := 3) (Nat.le_of_ble_eq_true rfl)
  rw [lg_entry_eq]
  generalize (lg_sl ([.ref (ob 8), .int kk]) ++ List.replicate (3 - (lg_sl ([.ref (ob 8), .int kk])).length) Slot.unset).toArray = ls at hl ⊢
  have hl : lv_has ls 3 [(0, .ref (ob 8)), (1, .int kk)] := hl
  refine lv_aload_n hx hb dX1_standsReady_0 rfl (lv_at hl 0 rfl) ?_
  refine gX_X1_9 hx hb htg hown hK hP dX1_standsReady_1 ?_
  refine gX_X1_157 hx hb htg hown hK hP dX1_standsReady_4 ?_
  refine gX_X1_176 hx hb htg hown hK hP dX1_standsReady_7 ?_
  refine lv_iload_n hx hb dX1_standsReady_10 rfl (lv_at hl 1 rfl) ?_
  refine lX_28 hx hb hK hP (iv_in h_kk (by decide) (by decide)) dX1_standsReady_11 (fun v_1 ev_1 => ?_)
  have i_2 : 0 ≤ v_1.toInt ∧ v_1.toInt ≤ 19 := ev_1 ▸ hA_ar 28 _
  refine lv_istore_n (lv' := [(2, .int v_1), (0, .ref (ob 8)), (1, .int kk)]) hx hb dX1_standsReady_12 rfl hl (by decide) rfl (fun ls hl => ?_)
  refine lv_aload_n hx hb dX1_standsReady_13 rfl (lv_at hl 1 rfl) ?_
  refine gX_X1_71 hx hb htg hown hK hP dX1_standsReady_14 ?_
  refine lv_iload_n hx hb dX1_standsReady_17 rfl (lv_at hl 0 rfl) ?_
  refine lX_55 hx hb hK hP (iv_in i_2 (by decide) (by decide)) dX1_standsReady_18 (fun v_3 ev_3 => ?_)
  refine lv_iconst (v := (-1)) hx hb dX1_standsReady_19 (by decide) ?_
  refine lv_icmp_ne (tgt := 70) hx hb dX1_standsReady_20 (by decide) (fun c_4 => ?_) (fun c_4 => ?_)
  · skip
    refine lv_iconst (v := 0) hx hb dX1_standsReady_70 (by decide) ?_
    exact W.zret (v := 0) hx hb hr (by decide) (fun t ht hW => ⟨⟨0, (fv, wd, ar), rfl, ⟨hF_fv, hA_ar, (fM_rf [] _), (fA_rf [] _), rfl, (iv_w (⟨by decide, by decide⟩ : (0 : Int) ≤ (0 : Int32).toInt ∧ (0 : Int32).toInt ≤ 0) (by decide) (by decide)), trivial⟩, ⟨by rw [ht]; exact hP, va_K.moved hW.alike hK⟩⟩, hS.F ht⟩) hS.2.2 dX1_standsReady_71
  · skip
    have i_5 : (-1) ≤ v_3.toInt ∧ v_3.toInt ≤ (-1) := iv_eq1 (⟨by decide, by decide⟩ : (-1 : Int) ≤ ((-1) : Int32).toInt ∧ ((-1) : Int32).toInt ≤ -1) c_4
    refine lv_aload_n hx hb dX1_standsReady_23 rfl (lv_at hl 1 rfl) ?_
    refine gX_X1_68 hx hb htg hown hK hP dX1_standsReady_24 ?_
    refine lv_iload_n hx hb dX1_standsReady_27 rfl (lv_at hl 0 rfl) ?_
    refine lX_54 hx hb hK hP (iv_in i_2 (by decide) (by decide)) dX1_standsReady_28 (fun v_6 ev_6 => ?_)
    have i_7 : 0 ≤ v_6.toInt ∧ v_6.toInt ≤ 7 := ev_6 ▸ hA_ar 54 _
    refine lv_aload_n hx hb dX1_standsReady_29 rfl (lv_at hl 1 rfl) ?_
    refine gX_X1_9 hx hb htg hown hK hP dX1_standsReady_30 ?_
    refine gX_X1_157 hx hb htg hown hK hP dX1_standsReady_33 ?_
    refine gX_X1_189 hx hb htg hown hK hP dX1_standsReady_36 ?_
    refine lv_iload_n hx hb dX1_standsReady_39 rfl (lv_at hl 2 rfl) ?_
    refine lX_29 hx hb hK hP (iv_in h_kk (by decide) (by decide)) dX1_standsReady_40 (fun v_8 ev_8 => ?_)
    have i_9 : 0 ≤ v_8.toInt ∧ v_8.toInt ≤ 7 := ev_8 ▸ hA_ar 29 _
    refine lv_icmp_ne (tgt := 70) hx hb dX1_standsReady_41 (by decide) (fun c_10 => ?_) (fun c_10 => ?_)
    · skip
      refine lv_iconst (v := 0) hx hb dX1_standsReady_70 (by decide) ?_
      exact W.zret (v := 0) hx hb hr (by decide) (fun t ht hW => ⟨⟨0, (fv, wd, ar), rfl, ⟨hF_fv, hA_ar, (fM_rf [] _), (fA_rf [] _), rfl, (iv_w (⟨by decide, by decide⟩ : (0 : Int) ≤ (0 : Int32).toInt ∧ (0 : Int32).toInt ≤ 0) (by decide) (by decide)), trivial⟩, ⟨by rw [ht]; exact hP, va_K.moved hW.alike hK⟩⟩, hS.F ht⟩) hS.2.2 dX1_standsReady_71
    · skip
      refine lv_aload_n hx hb dX1_standsReady_44 rfl (lv_at hl 1 rfl) ?_
      refine gX_X1_65 hx hb htg hown hK hP dX1_standsReady_45 ?_
      refine lv_iload_n hx hb dX1_standsReady_48 rfl (lv_at hl 0 rfl) ?_
      refine lX_53 hx hb hK hP (iv_in i_2 (by decide) (by decide)) dX1_standsReady_49 (fun v_11 ev_11 => ?_)
      refine lv_if_ne (tgt := 70) hx hb dX1_standsReady_50 (by decide) (fun c_12 => ?_) (fun c_12 => ?_)
      · skip
        refine lv_iconst (v := 0) hx hb dX1_standsReady_70 (by decide) ?_
        exact W.zret (v := 0) hx hb hr (by decide) (fun t ht hW => ⟨⟨0, (fv, wd, ar), rfl, ⟨hF_fv, hA_ar, (fM_rf [] _), (fA_rf [] _), rfl, (iv_w (⟨by decide, by decide⟩ : (0 : Int) ≤ (0 : Int32).toInt ∧ (0 : Int32).toInt ≤ 0) (by decide) (by decide)), trivial⟩, ⟨by rw [ht]; exact hP, va_K.moved hW.alike hK⟩⟩, hS.F ht⟩) hS.2.2 dX1_standsReady_71
      · skip
        have i_13 : 0 ≤ v_11.toInt ∧ v_11.toInt ≤ 0 := iv_eq1 (⟨by decide, by decide⟩ : (0 : Int) ≤ (0 : Int32).toInt ∧ (0 : Int32).toInt ≤ 0) c_12
        refine lv_aload_n hx hb dX1_standsReady_53 rfl (lv_at hl 1 rfl) ?_
        refine gX_X1_9 hx hb htg hown hK hP dX1_standsReady_54 ?_
        refine lv_iload_n hx hb dX1_standsReady_57 rfl (lv_at hl 2 rfl) ?_
        refine va_calli (va_runV (As := [.int kk]) (rest := []) ⟨hx, hb, hml, hown, hts⟩ (x_lengthOf l dC dI s.heap.size ob ad cA hd fv wd ar hF_fv hA_ar kk h_kk) (cwV 1 hts (gV kw_5_174 kw_5_95 kw_5_96 kw_1_2 kw_5_97) rfl rfl rfl (by decide +kernel) ⟨Nat.le_of_ble_eq_true rfl, Nat.le_of_ble_eq_true rfl⟩) ⟨fun a U g mk q => ⟨q.1, q.2.1, q.2.2.1, va_K.moved (u := U) (U := U.calling g mk a) (Vm.Alike.refl U.vm) q.2.2.2⟩, va_recv hK hP (ci := 7) (q0 := 1) rfl rfl, fun U hU hW => ⟨rfl, by rw [hU], by rw [hU]; exact hP, va_K.moved hW.alike hK⟩⟩ rfl rfl hl.1 rfl (lv_room (Nat.le_of_ble_eq_true rfl)) dX1_standsReady_58 ⟨Nat.le_of_ble_eq_true rfl, Nat.le_of_ble_eq_true rfl⟩) hS (fun q _ h9 => aX_up hS q h9) (aX_up hS) (fun r_14 u t H1 locs ht _ hw hB _ hk1 hS => ?_)
        obtain ⟨fv_15, wd_16, ar_17⟩ := u
        obtain ⟨hF_fv_15, hA_ar_17, fr_18, fa_19, wf_20, -⟩ := hw
        have wf_20 : wd_16.2 = wd.2 := wf_20
        have hP : va_P (dC, dI) vwCl (wsX ob ad cA fv_15 wd_16 ar_17) H1 := by have h9 := hB.1; rw [ht] at h9; exact h9
        have fr_18 : fM [] fv fv_15 := fr_18
        have fa_19 : fA [] ar ar_17 := fa_19
        generalize H1 = H at hP hS ⊢
        refine lv_ldc hx hb hown (htg (.constant RX1 209 10000000) kw_5_150) dX1_standsReady_61 ?_
        refine lv_icmp_ge (tgt := 70) hx hb dX1_standsReady_63 (by decide) (fun c_21 => ?_) (fun c_21 => ?_)
        · skip
          have i_22 : 10000000 ≤ r_14.toInt ∧ r_14.toInt ≤ 2147483647 := iv_le2 (⟨by decide, by decide⟩ : (10000000 : Int) ≤ (10000000 : Int32).toInt ∧ (10000000 : Int32).toInt ≤ 10000000) (iv_any r_14) c_21
          refine lv_iconst (v := 0) hx hb dX1_standsReady_70 (by decide) ?_
          exact W.zret (v := 0) hx hb hr (by decide) (fun t ht hW => ⟨⟨0, (fv_15, wd_16, ar_17), rfl, ⟨hF_fv_15, hA_ar_17, (fM_call (fM_rf [] _) fr_18 (by decide)), (fA_call (fA_rf [] _) fa_19 (by decide)), wf_20, (iv_w (⟨by decide, by decide⟩ : (0 : Int) ≤ (0 : Int32).toInt ∧ (0 : Int32).toInt ≤ 0) (by decide) (by decide)), trivial⟩, ⟨by rw [ht]; exact hP, va_K.moved hW.alike hK⟩⟩, hS.F ht⟩) hS.2.2 dX1_standsReady_71
        · skip
          have i_23 : (-2147483648) ≤ r_14.toInt ∧ r_14.toInt ≤ 9999999 := iv_lt1 (iv_any r_14) (⟨by decide, by decide⟩ : (10000000 : Int) ≤ (10000000 : Int32).toInt ∧ (10000000 : Int32).toInt ≤ 10000000) (Int32.not_le.mp c_21)
          refine lv_iconst (v := 1) hx hb dX1_standsReady_66 (by decide) ?_
          refine lv_goto (tgt := 71) hx hb dX1_standsReady_67 (by decide) ?_
          exact W.zret (v := 1) hx hb hr (by decide) (fun t ht hW => ⟨⟨1, (fv_15, wd_16, ar_17), rfl, ⟨hF_fv_15, hA_ar_17, (fM_call (fM_rf [] _) fr_18 (by decide)), (fA_call (fA_rf [] _) fa_19 (by decide)), wf_20, (iv_w (⟨by decide, by decide⟩ : (1 : Int) ≤ (1 : Int32).toInt ∧ (1 : Int32).toInt ≤ 1) (by decide) (by decide)), trivial⟩, ⟨by rw [ht]; exact hP, va_K.moved hW.alike hK⟩⟩, hS.F ht⟩) hS.2.2 dX1_standsReady_71
set_option maxHeartbeats 4000000 in
set_option maxRecDepth 100000 in
theorem x_firstInLine (l : Launch) (dC : Nat → ClassId) (dI : Nat → Nat → Nat) (sz : Nat) (ob ad : Nat → Nat) (cA : Nat → ClassId) (hd : dX ob ad) (fv : Nat → Int32) (wd : xT) (ar : Nat → Nat → Int32) (hF_fv : rX fv) (hA_ar : rB ar) (kk : Int32) (b : Int32) (h_kk : 0 ≤ kk.toInt ∧ kk.toInt ≤ 79) : Met l yX1_firstInLine (.code yX1_firstInLine cX1_firstInLine 5 (some .int) :: lw_good) ({ frames := 2, cells := 0, slots := 0, locals := 40 }) (va_Pc [.ref (ob 8), .int kk, .int b] (prX dC dI ob ad cA fv wd ar sz)) (va_Qi (fun (r : Int32) (u : xS) => rX u.1 ∧ rB u.2.2 ∧ fM [] fv u.1 ∧ fA [] ar u.2.2 ∧ u.2.1.2 = wd.2 ∧ ((-1) ≤ r.toInt ∧ r.toInt ≤ 39) ∧ True) (enX dC dI ob ad cA) (aX ob ad sz)) 0 0 (aX ob ad sz) := by
  refine Met.ofW (cc := cX1_firstInLine) (maxL := 5) (ret := (some .int)) (by decide) rfl ?_
  intro p e s m args below meth c s₁ B hml hv
  obtain ⟨rfl, hsz, hP, hK⟩ := hv
  have hx := B.exec
  have hb := B.bytes
  have hr := B.returns
  have hts := atoms_spec (ws := (.code yX1_firstInLine cX1_firstInLine 5 (some .int) :: lw_good)) B.pre
  have htg : ∀ w ∈ lw_good, w.before _ s = true := fun w hw => hts w (List.mem_cons_of_mem _ hw)
  have hown : s.vm.findClass RX1 = some m.cls := findClass_of_methodNamed B.named
  have hlocks := B.notSynchronized
  subst hsz
  have hS : va_S (aX ob ad s.heap.size) s.heap s.heap [] := va_S.rf
  have hl := lv_entry ([.ref (ob 8), .int kk, .int b]) (n := 5) (Nat.le_of_ble_eq_true rfl)
  rw [lg_entry_eq]
  generalize (lg_sl ([.ref (ob 8), .int kk, .int b]) ++ List.replicate (5 - (lg_sl ([.ref (ob 8), .int kk, .int b])).length) Slot.unset).toArray = ls at hl ⊢
  have hl : lv_has ls 5 [(0, .ref (ob 8)), (1, .int kk), (2, .int b)] := hl
  refine lv_iconst (v := (-1)) hx hb dX1_firstInLine_0 (by decide) ?_
  refine lv_istore_n (lv' := [(3, .int (-1)), (0, .ref (ob 8)), (1, .int kk), (2, .int b)]) hx hb dX1_firstInLine_1 rfl hl (by decide) rfl (fun ls hl => ?_)
  refine lv_iconst (v := 0) hx hb dX1_firstInLine_2 (by decide) ?_
  refine lv_istore (lv' := [(4, .int 0), (3, .int (-1)), (0, .ref (ob 8)), (1, .int kk), (2, .int b)]) hx hb dX1_firstInLine_3 hl (by decide) rfl (fun ls hl => ?_)
  refine my_cut (P := fun R9 a9 Q9 => ∀ (n_3 : Nat) (x_1 : Int32) (x_2 : Int32) (H : Heap) (locs : List Loc) (ls : Array Slot), 40 - x_2.toInt < (n_3 : Int) → ((-1) ≤ x_1.toInt ∧ x_1.toInt ≤ 39) → (0 ≤ x_2.toInt ∧ x_2.toInt ≤ 40) → va_P (dC, dI) vwCl (wsX ob ad cA fv wd ar) H → va_S (aX ob ad s.heap.size) s.heap H locs → lv_has ls 5 [(0, .ref (ob 8)), (1, .int kk), (2, .int b), (3, .int x_1), (4, .int x_2)] → W p l e R9 s m a9 below meth c H locs 0 0 Q9 (F0 m 5 ls [])) ?_ (fun hj_5 => ?_)
  · intro n_3
    induction n_3 with
    | zero => intro x_1 x_2 H locs ls fu_4 i_x_1 i_x_2; exfalso; omega
    | succ n_3 ih_3 =>
      intro x_1 x_2 H locs ls fu_4 i_x_1 i_x_2 hP hS hl
      refine lv_iload hx hb dX1_firstInLine_5 (lv_at hl 4 rfl) ?_
      refine lv_aload_n hx hb dX1_firstInLine_7 rfl (lv_at hl 0 rfl) ?_
      refine gX_X1_9 hx hb htg hown hK hP dX1_firstInLine_8 ?_
      refine gX_X1_129 hx hb htg hown hK hP dX1_firstInLine_11 ?_
      refine gX_X1_133 hx hb htg hown hK hP dX1_firstInLine_14 ?_
      have i_6 : 0 ≤ (fv 10).toInt ∧ (fv 10).toInt ≤ 40 := hF_fv 10
      refine lv_icmp_ge (tgt := 84) hx hb dX1_firstInLine_17 (by decide) (fun c_7 => ?_) (fun c_7 => ?_)
      · skip
        refine lv_iload_n hx hb dX1_firstInLine_84 rfl (lv_at hl 3 rfl) ?_
        exact W.iret (v := x_1) hx hb hr (fun t ht hW => ⟨⟨x_1, (fv, wd, ar), rfl, ⟨hF_fv, hA_ar, (fM_rf [] _), (fA_rf [] _), rfl, i_x_1, trivial⟩, ⟨by rw [ht]; exact hP, va_K.moved hW.alike hK⟩⟩, hS.F ht⟩) hS.2.2 dX1_firstInLine_85
      · skip
        have i_8 : 0 ≤ x_2.toInt ∧ x_2.toInt ≤ 39 := iv_lt1 i_x_2 i_6 (Int32.not_le.mp c_7)
        have i_9 : 1 ≤ (fv 10).toInt ∧ (fv 10).toInt ≤ 40 := iv_lt2 i_x_2 i_6 (Int32.not_le.mp c_7)
        refine lv_aload_n hx hb dX1_firstInLine_20 rfl (lv_at hl 0 rfl) ?_
        refine gX_X1_51 hx hb htg hown hK hP dX1_firstInLine_21 ?_
        refine lv_iload hx hb dX1_firstInLine_24 (lv_at hl 4 rfl) ?_
        refine lX_49 hx hb hK hP (iv_in i_8 (by decide) (by decide)) dX1_firstInLine_26 (fun v_10 ev_10 => ?_)
        have i_11 : (-1) ≤ v_10.toInt ∧ v_10.toInt ≤ 79 := ev_10 ▸ hA_ar 49 _
        refine lv_iload_n hx hb dX1_firstInLine_27 rfl (lv_at hl 1 rfl) ?_
        refine my_cut (P := fun R9 a9 Q9 => ∀ (x_26 : Int32) (H : Heap) (locs : List Loc) (ls : Array Slot), ((-1) ≤ x_26.toInt ∧ x_26.toInt ≤ 39) → va_P (dC, dI) vwCl (wsX ob ad cA fv wd ar) H → va_S (aX ob ad s.heap.size) s.heap H locs → lv_has ls 5 [(0, .ref (ob 8)), (1, .int kk), (2, .int b), (3, .int x_26), (4, .int x_2)] → W p l e R9 s m a9 below meth c H locs 0 0 Q9 (F0 m 78 ls [])) ?_ (fun hj_27 => ?_)
        · intro x_26 H locs ls i_x_26 hP hS hl
          obtain ⟨v_28, ev_28⟩ : ∃ z : Int32, z = x_2 + 1 := ⟨_, rfl⟩
          refine lv_iinc (v := v_28) (lv' := [(4, .int v_28), (0, .ref (ob 8)), (1, .int kk), (2, .int b), (3, .int x_26)]) hx hb dX1_firstInLine_78 hl (k := 4) rfl (by rw [ev_28]; rfl) (by decide) rfl (fun ls hl => ?_)
          have t_29 : v_28.toInt = x_2.toInt + 1 ∧ 1 ≤ v_28.toInt ∧ v_28.toInt ≤ 40 := iv_addc ev_28 i_8 (by decide) (by decide) (by decide)
          refine lv_goto (tgt := 5) hx hb dX1_firstInLine_81 (by decide) ?_
          exact ih_3 x_26 v_28 _ _ ls (by omega) i_x_26 (iv_w t_29.2 (by decide) (by decide)) hP hS (lv_sub hl [1, 2, 3, 4, 0] rfl)
        · skip
          refine lv_icmp_ne (tgt := 78) hx hb dX1_firstInLine_28 (by decide) (fun c_12 => ?_) (fun c_12 => ?_)
          · skip
            exact hj_27 x_1 _ _ ls i_x_1 hP hS (lv_sub hl [0, 1, 2, 3, 4] rfl)
          · skip
            have i_13 : 0 ≤ v_10.toInt ∧ v_10.toInt ≤ 79 := iv_eq1 h_kk c_12
            refine lv_aload_n hx hb dX1_firstInLine_31 rfl (lv_at hl 0 rfl) ?_
            refine gX_X1_35 hx hb htg hown hK hP dX1_firstInLine_32 ?_
            refine lv_iload hx hb dX1_firstInLine_35 (lv_at hl 4 rfl) ?_
            refine lX_44 hx hb hK hP (iv_in i_8 (by decide) (by decide)) dX1_firstInLine_37 (fun v_14 ev_14 => ?_)
            refine lv_iload_n hx hb dX1_firstInLine_38 rfl (lv_at hl 2 rfl) ?_
            refine lv_icmp_lt (tgt := 78) hx hb dX1_firstInLine_39 (by decide) (fun c_15 => ?_) (fun c_15 => ?_)
            · skip
              have i_16 : (-2147483648) ≤ v_14.toInt ∧ v_14.toInt ≤ 2147483646 := iv_lt1 (iv_any v_14) (iv_any b) c_15
              have i_17 : (-2147483647) ≤ b.toInt ∧ b.toInt ≤ 2147483647 := iv_lt2 (iv_any v_14) (iv_any b) c_15
              exact hj_27 x_1 _ _ ls i_x_1 hP hS (lv_sub hl [0, 1, 2, 3, 4] rfl)
            · skip
              refine lv_iload_n hx hb dX1_firstInLine_42 rfl (lv_at hl 3 rfl) ?_
              refine lv_iconst (v := (-1)) hx hb dX1_firstInLine_43 (by decide) ?_
              refine lv_icmp_eq (tgt := 75) hx hb dX1_firstInLine_44 (by decide) (fun c_18 => ?_) (fun c_18 => ?_)
              · skip
                have i_19 : (-1) ≤ x_1.toInt ∧ x_1.toInt ≤ (-1) := iv_eq1 (⟨by decide, by decide⟩ : (-1 : Int) ≤ ((-1) : Int32).toInt ∧ ((-1) : Int32).toInt ≤ -1) c_18
                refine lv_iload hx hb dX1_firstInLine_75 (lv_at hl 4 rfl) ?_
                refine lv_istore_n (lv' := [(3, .int x_2), (0, .ref (ob 8)), (1, .int kk), (2, .int b), (4, .int x_2)]) hx hb dX1_firstInLine_77 rfl hl (by decide) rfl (fun ls hl => ?_)
                exact hj_27 x_2 _ _ ls (iv_w i_8 (by decide) (by decide)) hP hS (lv_sub hl [1, 2, 3, 0, 4] rfl)
              · skip
                have i_20 : 0 ≤ x_1.toInt ∧ x_1.toInt ≤ 39 := iv_nel i_x_1 (by decide) c_18
                refine lv_aload_n hx hb dX1_firstInLine_47 rfl (lv_at hl 0 rfl) ?_
                refine gX_X1_9 hx hb htg hown hK hP dX1_firstInLine_48 ?_
                refine gX_X1_129 hx hb htg hown hK hP dX1_firstInLine_51 ?_
                refine gX_X1_259 hx hb htg hown hK hP dX1_firstInLine_54 ?_
                refine lv_iload hx hb dX1_firstInLine_57 (lv_at hl 4 rfl) ?_
                refine lX_10 hx hb hK hP (iv_in i_8 (by decide) (by decide)) dX1_firstInLine_59 (fun v_21 ev_21 => ?_)
                refine lv_aload_n hx hb dX1_firstInLine_60 rfl (lv_at hl 0 rfl) ?_
                refine gX_X1_9 hx hb htg hown hK hP dX1_firstInLine_61 ?_
                refine gX_X1_129 hx hb htg hown hK hP dX1_firstInLine_64 ?_
                refine gX_X1_259 hx hb htg hown hK hP dX1_firstInLine_67 ?_
                refine lv_iload_n hx hb dX1_firstInLine_70 rfl (lv_at hl 3 rfl) ?_
                refine lX_10 hx hb hK hP (iv_in i_20 (by decide) (by decide)) dX1_firstInLine_71 (fun v_22 ev_22 => ?_)
                refine lv_icmp_ge (tgt := 78) hx hb dX1_firstInLine_72 (by decide) (fun c_23 => ?_) (fun c_23 => ?_)
                · skip
                  exact hj_27 x_1 _ _ ls (iv_w i_20 (by decide) (by decide)) hP hS (lv_sub hl [0, 1, 2, 3, 4] rfl)
                · skip
                  have i_24 : (-2147483648) ≤ v_21.toInt ∧ v_21.toInt ≤ 2147483646 := iv_lt1 (iv_any v_21) (iv_any v_22) (Int32.not_le.mp c_23)
                  have i_25 : (-2147483647) ≤ v_22.toInt ∧ v_22.toInt ≤ 2147483647 := iv_lt2 (iv_any v_21) (iv_any v_22) (Int32.not_le.mp c_23)
                  refine lv_iload hx hb dX1_firstInLine_75 (lv_at hl 4 rfl) ?_
                  refine lv_istore_n (lv' := [(3, .int x_2), (0, .ref (ob 8)), (1, .int kk), (2, .int b), (4, .int x_2)]) hx hb dX1_firstInLine_77 rfl hl (by decide) rfl (fun ls hl => ?_)
                  exact hj_27 x_2 _ _ ls (iv_w i_8 (by decide) (by decide)) hP hS (lv_sub hl [1, 2, 3, 0, 4] rfl)
  · skip
    have z_31 : ((-1) : Int32).toInt = (-1) := by decide
    have z_32 : (0 : Int32).toInt = 0 := by decide
    exact hj_5 41 (-1) 0 _ _ ls (by first | decide | omega) (iv_w (⟨by decide, by decide⟩ : (-1 : Int) ≤ ((-1) : Int32).toInt ∧ ((-1) : Int32).toInt ≤ -1) (by decide) (by decide)) (iv_w (⟨by decide, by decide⟩ : (0 : Int) ≤ (0 : Int32).toInt ∧ (0 : Int32).toInt ≤ 0) (by decide) (by decide)) hP hS (lv_sub hl [2, 3, 4, 1, 0] rfl)
set_option maxHeartbeats 4000000 in
set_option maxRecDepth 100000 in
theorem x_earn (l : Launch) (dC : Nat → ClassId) (dI : Nat → Nat → Nat) (sz : Nat) (ob ad : Nat → Nat) (cA : Nat → ClassId) (hd : dX ob ad) (fv : Nat → Int32) (wd : xT) (ar : Nat → Nat → Int32) (hF_fv : rX fv) (hA_ar : rB ar) (ww : Int32) (b : Int32) (h_ww : 0 ≤ ww.toInt ∧ ww.toInt ≤ 19) : Met l yX1_earn (.code yX1_earn cX1_earn 3 none :: lw_good) ({ frames := 2, cells := 0, slots := 0, locals := 40 }) (va_Pc [.ref (ob 8), .int ww, .int b] (prX dC dI ob ad cA fv wd ar sz)) (va_Qv (fun (u : xS) => rX u.1 ∧ rB u.2.2 ∧ fM [23] fv u.1 ∧ fA [51] ar u.2.2 ∧ u.2.1.2 = wd.2 ∧ True) (enX dC dI ob ad cA) (aX ob ad sz)) 0 0 (aX ob ad sz) := by
  refine Met.ofW (cc := cX1_earn) (maxL := 3) (ret := none) (by decide) rfl ?_
  intro p e s m args below meth c s₁ B hml hv
  obtain ⟨rfl, hsz, hP, hK⟩ := hv
  have hx := B.exec
  have hb := B.bytes
  have hr := B.returns
  have hts := atoms_spec (ws := (.code yX1_earn cX1_earn 3 none :: lw_good)) B.pre
  have htg : ∀ w ∈ lw_good, w.before _ s = true := fun w hw => hts w (List.mem_cons_of_mem _ hw)
  have hown : s.vm.findClass RX1 = some m.cls := findClass_of_methodNamed B.named
  have hlocks := B.notSynchronized
  subst hsz
  have hS : va_S (aX ob ad s.heap.size) s.heap s.heap [] := va_S.rf
  have hl := lv_entry ([.ref (ob 8), .int ww, .int b]) (n := 3) (Nat.le_of_ble_eq_true rfl)
  rw [lg_entry_eq]
  generalize (lg_sl ([.ref (ob 8), .int ww, .int b]) ++ List.replicate (3 - (lg_sl ([.ref (ob 8), .int ww, .int b])).length) Slot.unset).toArray = ls at hl ⊢
  have hl : lv_has ls 3 [(0, .ref (ob 8)), (1, .int ww), (2, .int b)] := hl
  refine lv_aload_n hx hb dX1_earn_0 rfl (lv_at hl 0 rfl) ?_
  refine gX_X1_9 hx hb htg hown hK hP dX1_earn_1 ?_
  refine gX_X1_148 hx hb htg hown hK hP dX1_earn_4 ?_
  refine gX_X1_262 hx hb htg hown hK hP dX1_earn_7 ?_
  refine lv_iload_n hx hb dX1_earn_10 rfl (lv_at hl 1 rfl) ?_
  refine lX_20 hx hb hK hP (iv_in h_ww (by decide) (by decide)) dX1_earn_11 (fun v_1 ev_1 => ?_)
  refine lv_iconst (v := 2) hx hb dX1_earn_12 (by decide) ?_
  refine lv_icmp_ne (tgt := 39) hx hb dX1_earn_13 (by decide) (fun c_2 => ?_) (fun c_2 => ?_)
  · skip
    refine lv_aload_n hx hb dX1_earn_39 rfl (lv_at hl 0 rfl) ?_
    refine lv_aload_n hx hb dX1_earn_40 rfl (lv_at hl 0 rfl) ?_
    refine gX_X1_93 hx hb htg hown hK hP dX1_earn_41 ?_
    refine lv_iload_n hx hb dX1_earn_44 rfl (lv_at hl 2 rfl) ?_
    refine lv_iadd hx hb dX1_earn_45 ?_
    refine lv_topi (fun v_3 ev_3 => ?_)
    refine lv_ldcw hx hb hown (htg (.constant RX1 265 1000000) kw_5_187) dX1_earn_46 ?_
    refine va_mmin hx hb (hml.trans hl.1.symm) hown (htg (.methodLink RX1 266 Lib.Math.min.name) kw_5_188) (htg (.static Lib.Math.min.name) kw_3_151) (htg (.initialized RJ9) kw_1_16) (htg (.code Lib.Math.min.name Lib.Math.min.code 2 (some .int)) kw_3_152) (Nat.le_of_ble_eq_true rfl) (Nat.le_of_ble_eq_true rfl) (Nat.le_of_ble_eq_true rfl) (Nat.le_of_ble_eq_true rfl) dX1_earn_49 ?_
    refine lv_topi (fun v_4 ev_4 => ?_)
    have i_5 : (-2147483648) ≤ v_4.toInt ∧ v_4.toInt ≤ 1000000 := ix_min ev_4 (iv_any v_3) (⟨by decide, by decide⟩ : (1000000 : Int) ≤ (1000000 : Int32).toInt ∧ (1000000 : Int32).toInt ≤ 1000000) (by decide) (by decide)
    refine pX_X1_93 hx hb htg hown hK hP hS hd dX1_earn_52 (fun H locs fv_6 efv_6 hP hS => ?_)
    have hF_fv_6 : rX fv_6 := rX_put hF_fv efv_6 (iv_any _)
    exact W.vret hx hb hr (fun t ht hW => ⟨⟨(fv_6, wd, ar), rfl, ⟨hF_fv_6, hA_ar, (fM_put (fM_rf [23] _) efv_6 (by decide)), (fA_rf [51] _), rfl, trivial⟩, ⟨by rw [ht]; exact hP, va_K.moved hW.alike hK⟩⟩, hS.F ht⟩) hS.2.2 dX1_earn_55
  · skip
    have i_7 : 2 ≤ v_1.toInt ∧ v_1.toInt ≤ 2 := iv_eq1 (⟨by decide, by decide⟩ : (2 : Int) ≤ (2 : Int32).toInt ∧ (2 : Int32).toInt ≤ 2) c_2
    refine lv_aload_n hx hb dX1_earn_16 rfl (lv_at hl 0 rfl) ?_
    refine gX_X1_59 hx hb htg hown hK hP dX1_earn_17 ?_
    refine lv_iload_n hx hb dX1_earn_20 rfl (lv_at hl 1 rfl) ?_
    refine lv_aload_n hx hb dX1_earn_21 rfl (lv_at hl 0 rfl) ?_
    refine gX_X1_59 hx hb htg hown hK hP dX1_earn_22 ?_
    refine lv_iload_n hx hb dX1_earn_25 rfl (lv_at hl 1 rfl) ?_
    refine lX_51 hx hb hK hP (iv_in h_ww (by decide) (by decide)) dX1_earn_26 (fun v_8 ev_8 => ?_)
    refine lv_iload_n hx hb dX1_earn_27 rfl (lv_at hl 2 rfl) ?_
    refine lv_iadd hx hb dX1_earn_28 ?_
    refine lv_topi (fun v_9 ev_9 => ?_)
    refine lv_ldcw hx hb hown (htg (.constant RX1 265 1000000) kw_5_187) dX1_earn_29 ?_
    refine va_mmin hx hb (hml.trans hl.1.symm) hown (htg (.methodLink RX1 266 Lib.Math.min.name) kw_5_188) (htg (.static Lib.Math.min.name) kw_3_151) (htg (.initialized RJ9) kw_1_16) (htg (.code Lib.Math.min.name Lib.Math.min.code 2 (some .int)) kw_3_152) (Nat.le_of_ble_eq_true rfl) (Nat.le_of_ble_eq_true rfl) (Nat.le_of_ble_eq_true rfl) (Nat.le_of_ble_eq_true rfl) dX1_earn_32 ?_
    refine lv_topi (fun v_10 ev_10 => ?_)
    have i_11 : (-2147483648) ≤ v_10.toInt ∧ v_10.toInt ≤ 1000000 := ix_min ev_10 (iv_any v_9) (⟨by decide, by decide⟩ : (1000000 : Int) ≤ (1000000 : Int32).toInt ∧ (1000000 : Int32).toInt ≤ 1000000) (by decide) (by decide)
    refine sX_51 hx hb hK hP hS hd (iv_in h_ww (by decide) (by decide)) dX1_earn_35 (fun H locs ar_12 ear_12 hP hS => ?_)
    have hA_ar_12 : rB ar_12 := rB_put hA_ar ear_12 (iv_any _)
    refine lv_goto (tgt := 55) hx hb dX1_earn_36 (by decide) ?_
    exact W.vret hx hb hr (fun t ht hW => ⟨⟨(fv, wd, ar_12), rfl, ⟨hF_fv, hA_ar_12, (fM_rf [23] _), (fA_put (fA_rf [51] _) ear_12 (by decide)), rfl, trivial⟩, ⟨by rw [ht]; exact hP, va_K.moved hW.alike hK⟩⟩, hS.F ht⟩) hS.2.2 dX1_earn_55
set_option maxHeartbeats 4000000 in
set_option maxRecDepth 100000 in
theorem x_board (l : Launch) (dC : Nat → ClassId) (dI : Nat → Nat → Nat) (sz : Nat) (ob ad : Nat → Nat) (cA : Nat → ClassId) (hd : dX ob ad) (fv : Nat → Int32) (wd : xT) (ar : Nat → Nat → Int32) (hF_fv : rX fv) (hA_ar : rB ar) (kk : Int32) (b : Int32) (h_kk : 0 ≤ kk.toInt ∧ kk.toInt ≤ 79) : Met l yX1_board (.code yX1_board cX1_board 7 (some .int) :: lw_good) ({ frames := 3, cells := 0, slots := 0, locals := 64 }) (va_Pc [.ref (ob 8), .int kk, .int b] (prX dC dI ob ad cA fv wd ar sz)) (va_Qi (fun (r : Int32) (u : xS) => rX u.1 ∧ rB u.2.2 ∧ fM [23] fv u.1 ∧ fA [44, 49, 50, 51] ar u.2.2 ∧ u.2.1.2 = wd.2 ∧ True) (enX dC dI ob ad cA) (aX ob ad sz)) 0 0 (aX ob ad sz) := by
  refine Met.ofW (cc := cX1_board) (maxL := 7) (ret := (some .int)) (by decide) rfl ?_
  intro p e s m args below meth c s₁ B hml hv
  obtain ⟨rfl, hsz, hP, hK⟩ := hv
  have hx := B.exec
  have hb := B.bytes
  have hr := B.returns
  have hts := atoms_spec (ws := (.code yX1_board cX1_board 7 (some .int) :: lw_good)) B.pre
  have htg : ∀ w ∈ lw_good, w.before _ s = true := fun w hw => hts w (List.mem_cons_of_mem _ hw)
  have hown : s.vm.findClass RX1 = some m.cls := findClass_of_methodNamed B.named
  have hlocks := B.notSynchronized
  subst hsz
  have hS : va_S (aX ob ad s.heap.size) s.heap s.heap [] := va_S.rf
  have hl := lv_entry ([.ref (ob 8), .int kk, .int b]) (n := 7) (Nat.le_of_ble_eq_true rfl)
  rw [lg_entry_eq]
  generalize (lg_sl ([.ref (ob 8), .int kk, .int b]) ++ List.replicate (7 - (lg_sl ([.ref (ob 8), .int kk, .int b])).length) Slot.unset).toArray = ls at hl ⊢
  have hl : lv_has ls 7 [(0, .ref (ob 8)), (1, .int kk), (2, .int b)] := hl
  refine lv_aload_n hx hb dX1_board_0 rfl (lv_at hl 0 rfl) ?_
  refine gX_X1_9 hx hb htg hown hK hP dX1_board_1 ?_
  refine gX_X1_157 hx hb htg hown hK hP dX1_board_4 ?_
  refine gX_X1_176 hx hb htg hown hK hP dX1_board_7 ?_
  refine lv_iload_n hx hb dX1_board_10 rfl (lv_at hl 1 rfl) ?_
  refine lX_28 hx hb hK hP (iv_in h_kk (by decide) (by decide)) dX1_board_11 (fun v_1 ev_1 => ?_)
  have i_2 : 0 ≤ v_1.toInt ∧ v_1.toInt ≤ 19 := ev_1 ▸ hA_ar 28 _
  refine lv_istore_n (lv' := [(3, .int v_1), (0, .ref (ob 8)), (1, .int kk), (2, .int b)]) hx hb dX1_board_12 rfl hl (by decide) rfl (fun ls hl => ?_)
  refine lv_iconst (v := 0) hx hb dX1_board_13 (by decide) ?_
  refine lv_istore (lv' := [(4, .int 0), (3, .int v_1), (0, .ref (ob 8)), (1, .int kk), (2, .int b)]) hx hb dX1_board_14 hl (by decide) rfl (fun ls hl => ?_)
  refine lv_iconst (v := 0) hx hb dX1_board_16 (by decide) ?_
  refine lv_istore (lv' := [(5, .int 0), (4, .int 0), (3, .int v_1), (0, .ref (ob 8)), (1, .int kk), (2, .int b)]) hx hb dX1_board_17 hl (by decide) rfl (fun ls hl => ?_)
  refine my_cut (P := fun R9 a9 Q9 => ∀ (n_11 : Nat) (x_3 : Int32) (x_4 : Int32) (fv_5 : Nat → Int32) (ar_7 : Nat → Nat → Int32) (wd_9 : xT) (H : Heap) (locs : List Loc) (ls : Array Slot), 9 - x_4.toInt < (n_11 : Int) → (0 ≤ x_4.toInt ∧ x_4.toInt ≤ 9) → rX fv_5 → fM [23] fv fv_5 → rB ar_7 → fA [44, 49, 50, 51] ar ar_7 → wd_9.2 = wd.2 → va_P (dC, dI) vwCl (wsX ob ad cA fv_5 wd_9 ar_7) H → va_S (aX ob ad s.heap.size) s.heap H locs → lv_has ls 7 [(0, .ref (ob 8)), (1, .int kk), (2, .int b), (3, .int v_1), (4, .int x_3), (5, .int x_4)] → W p l e R9 s m a9 below meth c H locs 0 0 Q9 (F0 m 19 ls [])) ?_ (fun hj_13 => ?_)
  · intro n_11
    induction n_11 with
    | zero => intro x_3 x_4 fv_5 ar_7 wd_9 H locs ls fu_12 i_x_4 hF_fv_5 fr_6 hA_ar_7 fa_8 wf_10; exfalso; omega
    | succ n_11 ih_11 =>
      intro x_3 x_4 fv_5 ar_7 wd_9 H locs ls fu_12 i_x_4 hF_fv_5 fr_6 hA_ar_7 fa_8 wf_10 hP hS hl
      refine lv_iload hx hb dX1_board_19 (lv_at hl 5 rfl) ?_
      refine lv_aload_n hx hb dX1_board_21 rfl (lv_at hl 0 rfl) ?_
      refine gX_X1_9 hx hb htg hown hK hP dX1_board_22 ?_
      refine gX_X1_148 hx hb htg hown hK hP dX1_board_25 ?_
      refine gX_X1_250 hx hb htg hown hK hP dX1_board_28 ?_
      refine lv_iload_n hx hb dX1_board_31 rfl (lv_at hl 3 rfl) ?_
      refine lX_22 hx hb hK hP (iv_in i_2 (by decide) (by decide)) dX1_board_32 (fun v_14 ev_14 => ?_)
      have i_15 : 0 ≤ v_14.toInt ∧ v_14.toInt ≤ 9 := ev_14 ▸ hA_ar_7 22 _
      refine lv_icmp_ge (tgt := 92) hx hb dX1_board_33 (by decide) (fun c_16 => ?_) (fun c_16 => ?_)
      · skip
        refine lv_iload hx hb dX1_board_92 (lv_at hl 4 rfl) ?_
        exact W.iret (v := x_3) hx hb hr (fun t ht hW => ⟨⟨x_3, (fv_5, wd_9, ar_7), rfl, ⟨hF_fv_5, hA_ar_7, (fM_call (fM_rf [23] _) fr_6 (by decide)), (fA_call (fA_rf [44, 49, 50, 51] _) fa_8 (by decide)), wf_10, trivial⟩, ⟨by rw [ht]; exact hP, va_K.moved hW.alike hK⟩⟩, hS.F ht⟩) hS.2.2 dX1_board_94
      · skip
        have i_17 : 0 ≤ x_4.toInt ∧ x_4.toInt ≤ 8 := iv_lt1 i_x_4 i_15 (Int32.not_le.mp c_16)
        have i_18 : 1 ≤ v_14.toInt ∧ v_14.toInt ≤ 9 := iv_lt2 i_x_4 i_15 (Int32.not_le.mp c_16)
        refine lv_aload_n hx hb dX1_board_36 rfl (lv_at hl 0 rfl) ?_
        refine lv_iload_n hx hb dX1_board_37 rfl (lv_at hl 1 rfl) ?_
        refine lv_iload_n hx hb dX1_board_38 rfl (lv_at hl 2 rfl) ?_
        refine va_calli (va_runV (As := [.int kk, .int b]) (rest := []) ⟨hx, hb, hml, hown, hts⟩ (x_firstInLine l dC dI H.size ob ad cA hd fv_5 wd_9 ar_7 hF_fv_5 hA_ar_7 kk b h_kk) (cwV 2 hts (gV kw_5_179 kw_5_181 kw_p_39 kw_1_12 kw_5_182) rfl rfl rfl (by decide +kernel) ⟨Nat.le_of_ble_eq_true rfl, Nat.le_of_ble_eq_true rfl⟩) ⟨fun a U g mk q => ⟨q.1, q.2.1, q.2.2.1, va_K.moved (u := U) (U := U.calling g mk a) (Vm.Alike.refl U.vm) q.2.2.2⟩, va_recv hK hP (ci := 2) (q0 := 8) rfl rfl, fun U hU hW => ⟨rfl, by rw [hU], by rw [hU]; exact hP, va_K.moved hW.alike hK⟩⟩ rfl rfl hl.1 rfl (lv_room (Nat.le_of_ble_eq_true rfl)) dX1_board_39 ⟨Nat.le_of_ble_eq_true rfl, Nat.le_of_ble_eq_true rfl⟩) hS (fun q _ h9 => aX_up hS q h9) (aX_up hS) (fun r_19 u t H1 locs ht _ hw hB _ hk1 hS => ?_)
        obtain ⟨fv_21, wd_22, ar_23⟩ := u
        obtain ⟨hF_fv_21, hA_ar_23, fr_24, fa_25, wf_26, p_20, -⟩ := hw
        have wf_26 : wd_22.2 = wd_9.2 := wf_26
        have hP : va_P (dC, dI) vwCl (wsX ob ad cA fv_21 wd_22 ar_23) H1 := by have h9 := hB.1; rw [ht] at h9; exact h9
        have fr_24 : fM [] fv_5 fv_21 := fr_24
        have fa_25 : fA [] ar_7 ar_23 := fa_25
        generalize H1 = H at hP hS ⊢
        refine lv_istore (lv' := [(6, .int r_19), (0, .ref (ob 8)), (1, .int kk), (2, .int b), (3, .int v_1), (4, .int x_3), (5, .int x_4)]) hx hb dX1_board_42 hl (by decide) rfl (fun ls hl => ?_)
        refine lv_iload hx hb dX1_board_44 (lv_at hl 0 rfl) ?_
        refine lv_iconst (v := (-1)) hx hb dX1_board_46 (by decide) ?_
        refine my_cut (P := fun R9 a9 Q9 => ∀ (x_43 : Int32) (fv_44 : Nat → Int32) (ar_46 : Nat → Nat → Int32) (wd_48 : xT) (H : Heap) (locs : List Loc) (ls : Array Slot), rX fv_44 → fM [23] fv_21 fv_44 → rB ar_46 → fA [44, 49, 50, 51] ar_23 ar_46 → wd_48.2 = wd_22.2 → va_P (dC, dI) vwCl (wsX ob ad cA fv_44 wd_48 ar_46) H → va_S (aX ob ad s.heap.size) s.heap H locs → lv_has ls 7 [(0, .ref (ob 8)), (1, .int kk), (2, .int b), (3, .int v_1), (4, .int x_43), (5, .int x_4)] → W p l e R9 s m a9 below meth c H locs 0 0 Q9 (F0 m 86 ls [])) ?_ (fun hj_50 => ?_)
        · intro x_43 fv_44 ar_46 wd_48 H locs ls hF_fv_44 fr_45 hA_ar_46 fa_47 wf_49 hP hS hl
          obtain ⟨v_51, ev_51⟩ : ∃ z : Int32, z = x_4 + 1 := ⟨_, rfl⟩
          refine lv_iinc (v := v_51) (lv' := [(5, .int v_51), (0, .ref (ob 8)), (1, .int kk), (2, .int b), (3, .int v_1), (4, .int x_43)]) hx hb dX1_board_86 hl (k := 5) rfl (by rw [ev_51]; rfl) (by decide) rfl (fun ls hl => ?_)
          have t_52 : v_51.toInt = x_4.toInt + 1 ∧ 1 ≤ v_51.toInt ∧ v_51.toInt ≤ 9 := iv_addc ev_51 i_17 (by decide) (by decide) (by decide)
          refine lv_goto (tgt := 19) hx hb dX1_board_89 (by decide) ?_
          exact ih_11 x_43 v_51 fv_44 ar_46 wd_48 _ _ ls (by omega) (iv_w t_52.2 (by decide) (by decide)) hF_fv_44 (fM_call (fM_call (fM_call (fM_rf [23] _) fr_6 (by decide)) fr_24 (by decide)) fr_45 (by decide)) hA_ar_46 (fA_call (fA_call (fA_call (fA_rf [44, 49, 50, 51] _) fa_8 (by decide)) fa_25 (by decide)) fa_47 (by decide)) (wf_49.trans (wf_26.trans wf_10)) hP hS (lv_sub hl [1, 2, 3, 4, 5, 0] rfl)
        · skip
          refine lv_icmp_eq (tgt := 86) hx hb dX1_board_47 (by decide) (fun c_27 => ?_) (fun c_27 => ?_)
          · skip
            have i_28 : (-1) ≤ r_19.toInt ∧ r_19.toInt ≤ (-1) := iv_eq1 (⟨by decide, by decide⟩ : (-1 : Int) ≤ ((-1) : Int32).toInt ∧ ((-1) : Int32).toInt ≤ -1) c_27
            exact hj_50 x_3 fv_21 ar_23 wd_22 _ _ ls hF_fv_21 (fM_rf [23] _) hA_ar_23 (fA_rf [44, 49, 50, 51] _) rfl hP hS (lv_sub hl [1, 2, 3, 4, 5, 6] rfl)
          · skip
            have i_29 : 0 ≤ r_19.toInt ∧ r_19.toInt ≤ 39 := iv_nel p_20 (by decide) c_27
            refine lv_aload_n hx hb dX1_board_50 rfl (lv_at hl 1 rfl) ?_
            refine gX_X1_51 hx hb htg hown hK hP dX1_board_51 ?_
            refine lv_iload hx hb dX1_board_54 (lv_at hl 0 rfl) ?_
            refine lv_iconst (v := (-1)) hx hb dX1_board_56 (by decide) ?_
            refine sX_49 hx hb hK hP hS hd (iv_in i_29 (by decide) (by decide)) dX1_board_57 (fun H locs ar_30 ear_30 hP hS => ?_)
            have hA_ar_30 : rB ar_30 := rB_put hA_ar_23 ear_30 (iv_w (⟨by decide, by decide⟩ : (-1 : Int) ≤ ((-1) : Int32).toInt ∧ ((-1) : Int32).toInt ≤ -1) (by decide) (by decide))
            refine lv_aload_n hx hb dX1_board_58 rfl (lv_at hl 1 rfl) ?_
            refine gX_X1_54 hx hb htg hown hK hP dX1_board_59 ?_
            refine lv_iload hx hb dX1_board_62 (lv_at hl 0 rfl) ?_
            refine lv_iload_n hx hb dX1_board_64 rfl (lv_at hl 4 rfl) ?_
            refine sX_50 hx hb hK hP hS hd (iv_in i_29 (by decide) (by decide)) dX1_board_65 (fun H locs ar_31 ear_31 hP hS => ?_)
            have hA_ar_31 : rB ar_31 := rB_put hA_ar_30 ear_31 (iv_w i_2 (by decide) (by decide))
            refine lv_aload_n hx hb dX1_board_66 rfl (lv_at hl 1 rfl) ?_
            refine gX_X1_35 hx hb htg hown hK hP dX1_board_67 ?_
            refine lv_iload hx hb dX1_board_70 (lv_at hl 0 rfl) ?_
            refine lv_dup2_11 hx hb dX1_board_72 rfl rfl ?_
            refine lX_44 hx hb hK hP (iv_in i_29 (by decide) (by decide)) dX1_board_73 (fun v_32 ev_32 => ?_)
            refine lv_iload_n hx hb dX1_board_74 rfl (lv_at hl 3 rfl) ?_
            refine lv_isub hx hb dX1_board_75 ?_
            refine lv_topi (fun v_33 ev_33 => ?_)
            refine sX_44 hx hb hK hP hS hd (iv_in i_29 (by decide) (by decide)) dX1_board_76 (fun H locs ar_34 ear_34 hP hS => ?_)
            have hA_ar_34 : rB ar_34 := rB_put hA_ar_31 ear_34 (iv_any _)
            refine lv_aload_n hx hb dX1_board_77 rfl (lv_at hl 1 rfl) ?_
            refine lv_iload_n hx hb dX1_board_78 rfl (lv_at hl 4 rfl) ?_
            refine lv_iload_n hx hb dX1_board_79 rfl (lv_at hl 3 rfl) ?_
            refine va_callv (va_runV (As := [.int v_1, .int b]) (rest := []) ⟨hx, hb, hml, hown, hts⟩ (x_earn l dC dI H.size ob ad cA hd fv_21 wd_22 ar_34 hF_fv_21 hA_ar_34 v_1 b i_2) (cwV 2 hts (gV kw_5_183 kw_5_185 kw_p_40 kw_1_12 kw_5_186) rfl rfl rfl (by decide +kernel) ⟨Nat.le_of_ble_eq_true rfl, Nat.le_of_ble_eq_true rfl⟩) ⟨fun a U g mk q => ⟨q.1, q.2.1, q.2.2.1, va_K.moved (u := U) (U := U.calling g mk a) (Vm.Alike.refl U.vm) q.2.2.2⟩, va_recv hK hP (ci := 2) (q0 := 8) rfl rfl, fun U hU hW => ⟨rfl, by rw [hU], by rw [hU]; exact hP, va_K.moved hW.alike hK⟩⟩ rfl rfl hl.1 rfl (lv_room (Nat.le_of_ble_eq_true rfl)) dX1_board_80 ⟨Nat.le_of_ble_eq_true rfl, Nat.le_of_ble_eq_true rfl⟩) hS (fun q _ h9 => aX_up hS q h9) (aX_up hS) (fun u t H1 locs ht _ hw hB _ hk1 hS => ?_)
            obtain ⟨fv_36, wd_37, ar_38⟩ := u
            obtain ⟨hF_fv_36, hA_ar_38, fr_39, fa_40, wf_41, -⟩ := hw
            have wf_41 : wd_37.2 = wd_22.2 := wf_41
            have hP : va_P (dC, dI) vwCl (wsX ob ad cA fv_36 wd_37 ar_38) H1 := by have h9 := hB.1; rw [ht] at h9; exact h9
            have fr_39 : fM [23] fv_21 fv_36 := fr_39
            have fa_40 : fA [51] ar_34 ar_38 := fa_40
            generalize H1 = H at hP hS ⊢
            obtain ⟨v_42, ev_42⟩ : ∃ z : Int32, z = x_3 + 1 := ⟨_, rfl⟩
            refine lv_iinc (v := v_42) (lv' := [(4, .int v_42), (6, .int r_19), (0, .ref (ob 8)), (1, .int kk), (2, .int b), (3, .int v_1), (5, .int x_4)]) hx hb dX1_board_83 hl (k := 5) rfl (by rw [ev_42]; rfl) (by decide) rfl (fun ls hl => ?_)
            exact hj_50 v_42 fv_36 ar_38 wd_37 _ _ ls hF_fv_36 (fM_call (fM_rf [23] _) fr_39 (by decide)) hA_ar_38 (fA_call (fA_put (fA_put (fA_put (fA_rf [44, 49, 50, 51] _) ear_30 (by decide)) ear_31 (by decide)) ear_34 (by decide)) fa_40 (by decide)) wf_41 hP hS (lv_sub hl [2, 3, 4, 5, 0, 6] rfl)
  · skip
    have z_54 : (0 : Int32).toInt = 0 := by decide
    exact hj_13 10 0 0 fv ar wd _ _ ls (by first | decide | omega) (iv_w (⟨by decide, by decide⟩ : (0 : Int) ≤ (0 : Int32).toInt ∧ (0 : Int32).toInt ≤ 0) (by decide) (by decide)) hF_fv (fM_rf [23] _) hA_ar (fA_rf [44, 49, 50, 51] _) rfl hP hS (lv_sub hl [3, 4, 5, 2, 1, 0] rfl)
set_option maxHeartbeats 4000000 in
set_option maxRecDepth 100000 in
theorem x_pays (l : Launch) (dC : Nat → ClassId) (dI : Nat → Nat → Nat) (sz : Nat) (ob ad : Nat → Nat) (cA : Nat → ClassId) (hd : dX ob ad) (fv : Nat → Int32) (wd : xT) (ar : Nat → Nat → Int32) (hF_fv : rX fv) (hA_ar : rB ar) (ww : Int32) (b : Int32) (h_ww : 0 ≤ ww.toInt ∧ ww.toInt ≤ 19) : Met l yX1_pays (.code yX1_pays cX1_pays 4 (some .boolean) :: lw_good) ({ frames := 2, cells := 0, slots := 0, locals := 40 }) (va_Pc [.ref (ob 8), .int ww, .int b] (prX dC dI ob ad cA fv wd ar sz)) (va_Qi (fun (r : Int32) (u : xS) => rX u.1 ∧ rB u.2.2 ∧ fM [23] fv u.1 ∧ fA [51] ar u.2.2 ∧ u.2.1.2 = wd.2 ∧ (0 ≤ r.toInt ∧ r.toInt ≤ 1) ∧ True) (enX dC dI ob ad cA) (aX ob ad sz)) 0 0 (aX ob ad sz) := by
  refine Met.ofW (cc := cX1_pays) (maxL := 4) (ret := (some .boolean)) (by decide) rfl ?_
  intro p e s m args below meth c s₁ B hml hv
  obtain ⟨rfl, hsz, hP, hK⟩ := hv
  have hx := B.exec
  have hb := B.bytes
  have hr := B.returns
  have hts := atoms_spec (ws := (.code yX1_pays cX1_pays 4 (some .boolean) :: lw_good)) B.pre
  have htg : ∀ w ∈ lw_good, w.before _ s = true := fun w hw => hts w (List.mem_cons_of_mem _ hw)
  have hown : s.vm.findClass RX1 = some m.cls := findClass_of_methodNamed B.named
  have hlocks := B.notSynchronized
  subst hsz
  have hS : va_S (aX ob ad s.heap.size) s.heap s.heap [] := va_S.rf
  have hl := lv_entry ([.ref (ob 8), .int ww, .int b]) (n := 4) (Nat.le_of_ble_eq_true rfl)
  rw [lg_entry_eq]
  generalize (lg_sl ([.ref (ob 8), .int ww, .int b]) ++ List.replicate (4 - (lg_sl ([.ref (ob 8), .int ww, .int b])).length) Slot.unset).toArray = ls at hl ⊢
  have hl : lv_has ls 4 [(0, .ref (ob 8)), (1, .int ww), (2, .int b)] := hl
  refine lv_aload_n hx hb dX1_pays_0 rfl (lv_at hl 0 rfl) ?_
  refine gX_X1_9 hx hb htg hown hK hP dX1_pays_1 ?_
  refine gX_X1_148 hx hb htg hown hK hP dX1_pays_4 ?_
  refine gX_X1_262 hx hb htg hown hK hP dX1_pays_7 ?_
  refine lv_iload_n hx hb dX1_pays_10 rfl (lv_at hl 1 rfl) ?_
  refine lX_20 hx hb hK hP (iv_in h_ww (by decide) (by decide)) dX1_pays_11 (fun v_1 ev_1 => ?_)
  refine lv_iconst (v := 2) hx hb dX1_pays_12 (by decide) ?_
  refine my_cut (P := fun R9 a9 Q9 => ∀ (x_4 : Int32) (H : Heap) (locs : List Loc) (ls : Array Slot), (0 ≤ x_4.toInt ∧ x_4.toInt ≤ 1) → va_P (dC, dI) vwCl (wsX ob ad cA fv wd ar) H → va_S (aX ob ad s.heap.size) s.heap H locs → lv_has ls 4 [(0, .ref (ob 8)), (1, .int ww), (2, .int b)] → W p l e R9 s m a9 below meth c H locs 0 0 Q9 (F0 m 21 ls [.int x_4])) ?_ (fun hj_5 => ?_)
  · intro x_4 H locs ls i_x_4 hP hS hl
    refine lv_istore_n (lv' := [(3, .int x_4), (0, .ref (ob 8)), (1, .int ww), (2, .int b)]) hx hb dX1_pays_21 rfl hl (by decide) rfl (fun ls hl => ?_)
    refine lv_iload_n hx hb dX1_pays_22 rfl (lv_at hl 3 rfl) ?_
    refine lv_iload_n hx hb dX1_pays_23 rfl (lv_at hl 0 rfl) ?_
    refine my_cut (P := fun R9 a9 Q9 => ∀ (x_10 : Int32) (H : Heap) (locs : List Loc) (ls : Array Slot), va_P (dC, dI) vwCl (wsX ob ad cA fv wd ar) H → va_S (aX ob ad s.heap.size) s.heap H locs → lv_has ls 4 [(0, .ref (ob 8)), (1, .int ww), (2, .int b), (3, .int x_4)] → W p l e R9 s m a9 below meth c H locs 0 0 Q9 (F0 m 40 ls [.int x_10, .int b])) ?_ (fun hj_11 => ?_)
    · intro x_10 H locs ls  hP hS hl
      refine lv_icmp_le (tgt := 45) hx hb dX1_pays_40 (by decide) (fun c_12 => ?_) (fun c_12 => ?_)
      · skip
        refine lv_iload_n hx hb dX1_pays_45 rfl (lv_at hl 3 rfl) ?_
        refine lv_if_eq (tgt := 62) hx hb dX1_pays_46 (by decide) (fun c_13 => ?_) (fun c_13 => ?_)
        · skip
          have i_14 : 0 ≤ x_4.toInt ∧ x_4.toInt ≤ 0 := iv_eq1 (⟨by decide, by decide⟩ : (0 : Int) ≤ (0 : Int32).toInt ∧ (0 : Int32).toInt ≤ 0) c_13
          refine lv_aload_n hx hb dX1_pays_62 rfl (lv_at hl 0 rfl) ?_
          refine lv_dup hx hb dX1_pays_63 rfl ?_
          refine gX_X1_93 hx hb htg hown hK hP dX1_pays_64 ?_
          refine lv_iload_n hx hb dX1_pays_67 rfl (lv_at hl 2 rfl) ?_
          refine lv_isub hx hb dX1_pays_68 ?_
          refine lv_topi (fun v_15 ev_15 => ?_)
          refine pX_X1_93 hx hb htg hown hK hP hS hd dX1_pays_69 (fun H locs fv_16 efv_16 hP hS => ?_)
          have hF_fv_16 : rX fv_16 := rX_put hF_fv efv_16 (iv_any v_15)
          refine lv_iconst (v := 1) hx hb dX1_pays_72 (by decide) ?_
          exact W.zret (v := 1) hx hb hr (by decide) (fun t ht hW => ⟨⟨1, (fv_16, wd, ar), rfl, ⟨hF_fv_16, hA_ar, (fM_put (fM_rf [23] _) efv_16 (by decide)), (fA_rf [51] _), rfl, (iv_w (⟨by decide, by decide⟩ : (1 : Int) ≤ (1 : Int32).toInt ∧ (1 : Int32).toInt ≤ 1) (by decide) (by decide)), trivial⟩, ⟨by rw [ht]; exact hP, va_K.moved hW.alike hK⟩⟩, hS.F ht⟩) hS.2.2 dX1_pays_73
        · skip
          have i_17 : 1 ≤ x_4.toInt ∧ x_4.toInt ≤ 1 := iv_nel i_x_4 (by decide) c_13
          refine lv_aload_n hx hb dX1_pays_49 rfl (lv_at hl 0 rfl) ?_
          refine gX_X1_59 hx hb htg hown hK hP dX1_pays_50 ?_
          refine lv_iload_n hx hb dX1_pays_53 rfl (lv_at hl 1 rfl) ?_
          refine lv_dup2_11 hx hb dX1_pays_54 rfl rfl ?_
          refine lX_51 hx hb hK hP (iv_in h_ww (by decide) (by decide)) dX1_pays_55 (fun v_18 ev_18 => ?_)
          refine lv_iload_n hx hb dX1_pays_56 rfl (lv_at hl 2 rfl) ?_
          refine lv_isub hx hb dX1_pays_57 ?_
          refine lv_topi (fun v_19 ev_19 => ?_)
          refine sX_51 hx hb hK hP hS hd (iv_in h_ww (by decide) (by decide)) dX1_pays_58 (fun H locs ar_20 ear_20 hP hS => ?_)
          have hA_ar_20 : rB ar_20 := rB_put hA_ar ear_20 (iv_any _)
          refine lv_goto (tgt := 72) hx hb dX1_pays_59 (by decide) ?_
          refine lv_iconst (v := 1) hx hb dX1_pays_72 (by decide) ?_
          exact W.zret (v := 1) hx hb hr (by decide) (fun t ht hW => ⟨⟨1, (fv, wd, ar_20), rfl, ⟨hF_fv, hA_ar_20, (fM_rf [23] _), (fA_put (fA_rf [51] _) ear_20 (by decide)), rfl, (iv_w (⟨by decide, by decide⟩ : (1 : Int) ≤ (1 : Int32).toInt ∧ (1 : Int32).toInt ≤ 1) (by decide) (by decide)), trivial⟩, ⟨by rw [ht]; exact hP, va_K.moved hW.alike hK⟩⟩, hS.F ht⟩) hS.2.2 dX1_pays_73
      · skip
        have i_21 : (-2147483648) ≤ x_10.toInt ∧ x_10.toInt ≤ 2147483646 := iv_lt1 (iv_any x_10) (iv_any b) (Int32.not_le.mp c_12)
        have i_22 : (-2147483647) ≤ b.toInt ∧ b.toInt ≤ 2147483647 := iv_lt2 (iv_any x_10) (iv_any b) (Int32.not_le.mp c_12)
        refine lv_iconst (v := 0) hx hb dX1_pays_43 (by decide) ?_
        exact W.zret (v := 0) hx hb hr (by decide) (fun t ht hW => ⟨⟨0, (fv, wd, ar), rfl, ⟨hF_fv, hA_ar, (fM_rf [23] _), (fA_rf [51] _), rfl, (iv_w (⟨by decide, by decide⟩ : (0 : Int) ≤ (0 : Int32).toInt ∧ (0 : Int32).toInt ≤ 0) (by decide) (by decide)), trivial⟩, ⟨by rw [ht]; exact hP, va_K.moved hW.alike hK⟩⟩, hS.F ht⟩) hS.2.2 dX1_pays_44
    · skip
      refine lv_if_eq (tgt := 36) hx hb dX1_pays_24 (by decide) (fun c_6 => ?_) (fun c_6 => ?_)
      · skip
        have i_7 : 0 ≤ x_4.toInt ∧ x_4.toInt ≤ 0 := iv_eq1 (⟨by decide, by decide⟩ : (0 : Int) ≤ (0 : Int32).toInt ∧ (0 : Int32).toInt ≤ 0) c_6
        refine lv_aload_n hx hb dX1_pays_36 rfl (lv_at hl 1 rfl) ?_
        refine gX_X1_93 hx hb htg hown hK hP dX1_pays_37 ?_
        exact hj_11 (fv 23) _ _ ls  hP hS (lv_sub hl [1, 2, 3, 0] rfl)
      · skip
        have i_8 : 1 ≤ x_4.toInt ∧ x_4.toInt ≤ 1 := iv_nel i_x_4 (by decide) c_6
        refine lv_aload_n hx hb dX1_pays_27 rfl (lv_at hl 1 rfl) ?_
        refine gX_X1_59 hx hb htg hown hK hP dX1_pays_28 ?_
        refine lv_iload_n hx hb dX1_pays_31 rfl (lv_at hl 2 rfl) ?_
        refine lX_51 hx hb hK hP (iv_in h_ww (by decide) (by decide)) dX1_pays_32 (fun v_9 ev_9 => ?_)
        refine lv_goto (tgt := 40) hx hb dX1_pays_33 (by decide) ?_
        exact hj_11 v_9 _ _ ls  hP hS (lv_sub hl [1, 2, 3, 0] rfl)
  · skip
    refine lv_icmp_ne (tgt := 20) hx hb dX1_pays_13 (by decide) (fun c_2 => ?_) (fun c_2 => ?_)
    · skip
      refine lv_iconst (v := 0) hx hb dX1_pays_20 (by decide) ?_
      exact hj_5 0 _ _ ls (iv_w (⟨by decide, by decide⟩ : (0 : Int) ≤ (0 : Int32).toInt ∧ (0 : Int32).toInt ≤ 0) (by decide) (by decide)) hP hS (lv_sub hl [0, 1, 2] rfl)
    · skip
      have i_3 : 2 ≤ v_1.toInt ∧ v_1.toInt ≤ 2 := iv_eq1 (⟨by decide, by decide⟩ : (2 : Int) ≤ (2 : Int32).toInt ∧ (2 : Int32).toInt ≤ 2) c_2
      refine lv_iconst (v := 1) hx hb dX1_pays_16 (by decide) ?_
      refine lv_goto (tgt := 21) hx hb dX1_pays_17 (by decide) ?_
      exact hj_5 1 _ _ ls (iv_w (⟨by decide, by decide⟩ : (1 : Int) ≤ (1 : Int32).toInt ∧ (1 : Int32).toInt ≤ 1) (by decide) (by decide)) hP hS (lv_sub hl [0, 1, 2] rfl)
set_option maxHeartbeats 4000000 in
set_option maxRecDepth 100000 in
theorem x_setOut (l : Launch) (dC : Nat → ClassId) (dI : Nat → Nat → Nat) (sz : Nat) (ob ad : Nat → Nat) (cA : Nat → ClassId) (hd : dX ob ad) (fv : Nat → Int32) (wd : xT) (ar : Nat → Nat → Int32) (hF_fv : rX fv) (hA_ar : rB ar) (kk : Int32) (b : Int32) (h_kk : 0 ≤ kk.toInt ∧ kk.toInt ≤ 79) : Met l yX1_setOut (.code yX1_setOut cX1_setOut 5 none :: lw_good) ({ frames := 5, cells := 0, slots := 0, locals := 107 }) (va_Pc [.ref (ob 8), .int kk, .int b] (prX dC dI ob ad cA fv wd ar sz)) (va_Qv (fun (u : xS) => rX u.1 ∧ rB u.2.2 ∧ fM [] fv u.1 ∧ fA [48, 54, 55, 57] ar u.2.2 ∧ u.2.1.2 = wd.2 ∧ True) (enX dC dI ob ad cA) (aX ob ad sz)) 0 0 (aX ob ad sz) := by
  refine Met.ofW (cc := cX1_setOut) (maxL := 5) (ret := none) (by decide) rfl ?_
  intro p e s m args below meth c s₁ B hml hv
  obtain ⟨rfl, hsz, hP, hK⟩ := hv
  have hx := B.exec
  have hb := B.bytes
  have hr := B.returns
  have hts := atoms_spec (ws := (.code yX1_setOut cX1_setOut 5 none :: lw_good)) B.pre
  have htg : ∀ w ∈ lw_good, w.before _ s = true := fun w hw => hts w (List.mem_cons_of_mem _ hw)
  have hown : s.vm.findClass RX1 = some m.cls := findClass_of_methodNamed B.named
  have hlocks := B.notSynchronized
  subst hsz
  have hS : va_S (aX ob ad s.heap.size) s.heap s.heap [] := va_S.rf
  have hl := lv_entry ([.ref (ob 8), .int kk, .int b]) (n := 5) (Nat.le_of_ble_eq_true rfl)
  rw [lg_entry_eq]
  generalize (lg_sl ([.ref (ob 8), .int kk, .int b]) ++ List.replicate (5 - (lg_sl ([.ref (ob 8), .int kk, .int b])).length) Slot.unset).toArray = ls at hl ⊢
  have hl : lv_has ls 5 [(0, .ref (ob 8)), (1, .int kk), (2, .int b)] := hl
  refine lv_aload_n hx hb dX1_setOut_0 rfl (lv_at hl 0 rfl) ?_
  refine gX_X1_9 hx hb htg hown hK hP dX1_setOut_1 ?_
  refine gX_X1_157 hx hb htg hown hK hP dX1_setOut_4 ?_
  refine gX_X1_176 hx hb htg hown hK hP dX1_setOut_7 ?_
  refine lv_iload_n hx hb dX1_setOut_10 rfl (lv_at hl 1 rfl) ?_
  refine lX_28 hx hb hK hP (iv_in h_kk (by decide) (by decide)) dX1_setOut_11 (fun v_1 ev_1 => ?_)
  have i_2 : 0 ≤ v_1.toInt ∧ v_1.toInt ≤ 19 := ev_1 ▸ hA_ar 28 _
  refine lv_istore_n (lv' := [(3, .int v_1), (0, .ref (ob 8)), (1, .int kk), (2, .int b)]) hx hb dX1_setOut_12 rfl hl (by decide) rfl (fun ls hl => ?_)
  refine lv_aload_n hx hb dX1_setOut_13 rfl (lv_at hl 1 rfl) ?_
  refine gX_X1_68 hx hb htg hown hK hP dX1_setOut_14 ?_
  refine lv_iload_n hx hb dX1_setOut_17 rfl (lv_at hl 0 rfl) ?_
  refine lv_aload_n hx hb dX1_setOut_18 rfl (lv_at hl 1 rfl) ?_
  refine gX_X1_9 hx hb htg hown hK hP dX1_setOut_19 ?_
  refine gX_X1_157 hx hb htg hown hK hP dX1_setOut_22 ?_
  refine gX_X1_272 hx hb htg hown hK hP dX1_setOut_25 ?_
  refine lv_iload_n hx hb dX1_setOut_28 rfl (lv_at hl 2 rfl) ?_
  refine lX_30 hx hb hK hP (iv_in h_kk (by decide) (by decide)) dX1_setOut_29 (fun v_3 ev_3 => ?_)
  have i_4 : 0 ≤ v_3.toInt ∧ v_3.toInt ≤ 7 := ev_3 ▸ hA_ar 30 _
  refine sX_54 hx hb hK hP hS hd (iv_in i_2 (by decide) (by decide)) dX1_setOut_30 (fun H locs ar_5 ear_5 hP hS => ?_)
  have hA_ar_5 : rB ar_5 := rB_put hA_ar ear_5 i_4
  refine lv_aload_n hx hb dX1_setOut_31 rfl (lv_at hl 1 rfl) ?_
  refine gX_X1_71 hx hb htg hown hK hP dX1_setOut_32 ?_
  refine lv_iload_n hx hb dX1_setOut_35 rfl (lv_at hl 0 rfl) ?_
  refine lv_iload_n hx hb dX1_setOut_36 rfl (lv_at hl 3 rfl) ?_
  refine lv_aload_n hx hb dX1_setOut_37 rfl (lv_at hl 1 rfl) ?_
  refine gX_X1_9 hx hb htg hown hK hP dX1_setOut_38 ?_
  refine lv_iload_n hx hb dX1_setOut_41 rfl (lv_at hl 2 rfl) ?_
  refine lv_aload_n hx hb dX1_setOut_42 rfl (lv_at hl 1 rfl) ?_
  refine gX_X1_9 hx hb htg hown hK hP dX1_setOut_43 ?_
  refine lv_aload_n hx hb dX1_setOut_46 rfl (lv_at hl 1 rfl) ?_
  refine gX_X1_9 hx hb htg hown hK hP dX1_setOut_47 ?_
  refine gX_X1_169 hx hb htg hown hK hP dX1_setOut_50 ?_
  have i_6 : 0 ≤ (fv 7).toInt ∧ (fv 7).toInt ≤ 199 := hF_fv 7
  refine va_calli (va_runV (As := [.int (fv 7)]) (rest := [.int kk, .ref (ob 1), .int b, .int v_1, .ref (ad 55)]) ⟨hx, hb, hml, hown, hts⟩ (x_rainOn l dC dI H.size ob ad cA hd fv wd ar_5 hF_fv hA_ar_5 (fv 7) i_6) (cwV 1 hts (gV kw_5_201 kw_3_231 kw_3_232 kw_1_2 kw_3_233) rfl rfl rfl (by decide +kernel) ⟨Nat.le_of_ble_eq_true rfl, Nat.le_of_ble_eq_true rfl⟩) ⟨fun a U g mk q => ⟨q.1, q.2.1, q.2.2.1, va_K.moved (u := U) (U := U.calling g mk a) (Vm.Alike.refl U.vm) q.2.2.2⟩, va_recv hK hP (ci := 7) (q0 := 1) rfl rfl, fun U hU hW => ⟨rfl, by rw [hU], by rw [hU]; exact hP, va_K.moved hW.alike hK⟩⟩ rfl rfl hl.1 rfl (lv_room (Nat.le_of_ble_eq_true rfl)) dX1_setOut_53 ⟨Nat.le_of_ble_eq_true rfl, Nat.le_of_ble_eq_true rfl⟩) hS (fun q _ h9 => aX_up hS q h9) (aX_up hS) (fun r_7 u t H1 locs ht _ hw hB _ hk1 hS => ?_)
  obtain ⟨fv_8, wd_9, ar_10⟩ := u
  obtain ⟨hF_fv_8, hA_ar_10, fr_11, fa_12, wf_13, -⟩ := hw
  have wf_13 : wd_9.2 = wd.2 := wf_13
  have hP : va_P (dC, dI) vwCl (wsX ob ad cA fv_8 wd_9 ar_10) H1 := by have h9 := hB.1; rw [ht] at h9; exact h9
  have fr_11 : fM [] fv fv_8 := fr_11
  have fa_12 : fA [] ar_5 ar_10 := fa_12
  generalize H1 = H at hP hS ⊢
  refine va_calli (va_runV (As := [.int kk, .int r_7]) (rest := [.int b, .int v_1, .ref (ad 55)]) ⟨hx, hb, hml, hown, hts⟩ (x_driveMinutes l dC dI H.size ob ad cA hd fv_8 wd_9 ar_10 hF_fv_8 hA_ar_10 kk r_7 h_kk) (cwV 2 hts (gV kw_5_202 kw_5_105 kw_5_106 kw_1_2 kw_5_107) rfl rfl rfl (by decide +kernel) ⟨Nat.le_of_ble_eq_true rfl, Nat.le_of_ble_eq_true rfl⟩) ⟨fun a U g mk q => ⟨q.1, q.2.1, q.2.2.1, va_K.moved (u := U) (U := U.calling g mk a) (Vm.Alike.refl U.vm) q.2.2.2⟩, va_recv hK hP (ci := 7) (q0 := 1) rfl rfl, fun U hU hW => ⟨rfl, by rw [hU], by rw [hU]; exact hP, va_K.moved hW.alike hK⟩⟩ rfl rfl hl.1 rfl (lv_room (Nat.le_of_ble_eq_true rfl)) dX1_setOut_56 ⟨Nat.le_of_ble_eq_true rfl, Nat.le_of_ble_eq_true rfl⟩) hS (fun q _ h9 => aX_up hS q h9) (aX_up hS) (fun r_14 u t H1 locs ht _ hw hB _ hk1 hS => ?_)
  obtain ⟨fv_15, wd_16, ar_17⟩ := u
  obtain ⟨hF_fv_15, hA_ar_17, fr_18, fa_19, wf_20, -⟩ := hw
  have wf_20 : wd_16.2 = wd_9.2 := wf_20
  have hP : va_P (dC, dI) vwCl (wsX ob ad cA fv_15 wd_16 ar_17) H1 := by have h9 := hB.1; rw [ht] at h9; exact h9
  have fr_18 : fM [] fv_8 fv_15 := fr_18
  have fa_19 : fA [] ar_10 ar_17 := fa_19
  generalize H1 = H at hP hS ⊢
  refine lv_iadd hx hb dX1_setOut_59 ?_
  refine lv_topi (fun v_21 ev_21 => ?_)
  refine sX_55 hx hb hK hP hS hd (iv_in i_2 (by decide) (by decide)) dX1_setOut_60 (fun H locs ar_22 ear_22 hP hS => ?_)
  have hA_ar_22 : rB ar_22 := rB_put hA_ar_17 ear_22 (iv_any _)
  refine lv_aload_n hx hb dX1_setOut_61 rfl (lv_at hl 1 rfl) ?_
  refine lv_aload_n hx hb dX1_setOut_62 rfl (lv_at hl 1 rfl) ?_
  refine gX_X1_71 hx hb htg hown hK hP dX1_setOut_63 ?_
  refine lv_iload_n hx hb dX1_setOut_66 rfl (lv_at hl 0 rfl) ?_
  refine lX_55 hx hb hK hP (iv_in i_2 (by decide) (by decide)) dX1_setOut_67 (fun v_23 ev_23 => ?_)
  refine va_callv (va_runV (As := [.int v_23]) (rest := []) ⟨hx, hb, hml, hown, hts⟩ (x_markBusy l dC dI H.size ob ad cA hd fv_15 wd_16 ar_22 hF_fv_15 hA_ar_22 v_23) (cwV 1 hts (gV kw_5_69 kw_5_71 kw_p_22 kw_1_12 kw_5_72) rfl rfl rfl (by decide +kernel) ⟨Nat.le_of_ble_eq_true rfl, Nat.le_of_ble_eq_true rfl⟩) ⟨fun a U g mk q => ⟨q.1, q.2.1, q.2.2.1, va_K.moved (u := U) (U := U.calling g mk a) (Vm.Alike.refl U.vm) q.2.2.2⟩, va_recv hK hP (ci := 2) (q0 := 8) rfl rfl, fun U hU hW => ⟨rfl, by rw [hU], by rw [hU]; exact hP, va_K.moved hW.alike hK⟩⟩ rfl rfl hl.1 rfl (lv_room (Nat.le_of_ble_eq_true rfl)) dX1_setOut_68 ⟨Nat.le_of_ble_eq_true rfl, Nat.le_of_ble_eq_true rfl⟩) hS (fun q _ h9 => aX_up hS q h9) (aX_up hS) (fun u t H1 locs ht _ hw hB _ hk1 hS => ?_)
  obtain ⟨fv_25, wd_26, ar_27⟩ := u
  obtain ⟨hF_fv_25, hA_ar_27, fr_28, fa_29, wf_30, -⟩ := hw
  have wf_30 : wd_26.2 = wd_16.2 := wf_30
  have hP : va_P (dC, dI) vwCl (wsX ob ad cA fv_25 wd_26 ar_27) H1 := by have h9 := hB.1; rw [ht] at h9; exact h9
  have fr_28 : fM [] fv_15 fv_25 := fr_28
  have fa_29 : fA [57] ar_22 ar_27 := fa_29
  generalize H1 = H at hP hS ⊢
  refine lv_iconst (v := 0) hx hb dX1_setOut_71 (by decide) ?_
  refine lv_istore (lv' := [(4, .int 0), (3, .int v_1), (0, .ref (ob 8)), (1, .int kk), (2, .int b)]) hx hb dX1_setOut_72 hl (by decide) rfl (fun ls hl => ?_)
  refine my_cut (P := fun R9 a9 Q9 => ∀ (n_34 : Nat) (x_31 : Int32) (ar_32 : Nat → Nat → Int32) (H : Heap) (locs : List Loc) (ls : Array Slot), 40 - x_31.toInt < (n_34 : Int) → (0 ≤ x_31.toInt ∧ x_31.toInt ≤ 40) → rB ar_32 → fA [48] ar_27 ar_32 → va_P (dC, dI) vwCl (wsX ob ad cA fv_25 wd_26 ar_32) H → va_S (aX ob ad s.heap.size) s.heap H locs → lv_has ls 5 [(0, .ref (ob 8)), (3, .int v_1), (4, .int x_31)] → W p l e R9 s m a9 below meth c H locs 0 0 Q9 (F0 m 74 ls [])) ?_ (fun hj_36 => ?_)
  · intro n_34
    induction n_34 with
    | zero => intro x_31 ar_32 H locs ls fu_35 i_x_31 hA_ar_32 fa_33; exfalso; omega
    | succ n_34 ih_34 =>
      intro x_31 ar_32 H locs ls fu_35 i_x_31 hA_ar_32 fa_33 hP hS hl
      refine lv_iload hx hb dX1_setOut_74 (lv_at hl 2 rfl) ?_
      refine lv_aload_n hx hb dX1_setOut_76 rfl (lv_at hl 0 rfl) ?_
      refine gX_X1_9 hx hb htg hown hK hP dX1_setOut_77 ?_
      refine gX_X1_129 hx hb htg hown hK hP dX1_setOut_80 ?_
      refine gX_X1_133 hx hb htg hown hK hP dX1_setOut_83 ?_
      refine my_ti (y := fv 10) ((fr_28 10 rfl).trans ((fr_18 10 rfl).trans ((fr_11 10 rfl)))) ?_
      have i_37 : 0 ≤ (fv 10).toInt ∧ (fv 10).toInt ≤ 40 := hF_fv 10
      refine lv_icmp_ge (tgt := 117) hx hb dX1_setOut_86 (by decide) (fun c_38 => ?_) (fun c_38 => ?_)
      · skip
        exact W.vret hx hb hr (fun t ht hW => ⟨⟨(fv_25, wd_26, ar_32), rfl, ⟨hF_fv_25, hA_ar_32, (fM_call (fM_call (fM_call (fM_rf [] _) fr_11 (by decide)) fr_18 (by decide)) fr_28 (by decide)), (fA_call (fA_call (fA_put (fA_call (fA_call (fA_put (fA_rf [48, 54, 55, 57] _) ear_5 (by decide)) fa_12 (by decide)) fa_19 (by decide)) ear_22 (by decide)) fa_29 (by decide)) fa_33 (by decide)), (wf_30.trans (wf_20.trans wf_13)), trivial⟩, ⟨by rw [ht]; exact hP, va_K.moved hW.alike hK⟩⟩, hS.F ht⟩) hS.2.2 dX1_setOut_117
      · skip
        have i_39 : 0 ≤ x_31.toInt ∧ x_31.toInt ≤ 39 := iv_lt1 i_x_31 i_37 (Int32.not_le.mp c_38)
        have i_40 : 1 ≤ (fv 10).toInt ∧ (fv 10).toInt ≤ 40 := iv_lt2 i_x_31 i_37 (Int32.not_le.mp c_38)
        refine lv_aload_n hx hb dX1_setOut_89 rfl (lv_at hl 0 rfl) ?_
        refine gX_X1_54 hx hb htg hown hK hP dX1_setOut_90 ?_
        refine lv_iload hx hb dX1_setOut_93 (lv_at hl 2 rfl) ?_
        refine lX_50 hx hb hK hP (iv_in i_39 (by decide) (by decide)) dX1_setOut_95 (fun v_41 ev_41 => ?_)
        have i_42 : (-1) ≤ v_41.toInt ∧ v_41.toInt ≤ 19 := ev_41 ▸ hA_ar_32 50 _
        refine lv_iload_n hx hb dX1_setOut_96 rfl (lv_at hl 1 rfl) ?_
        refine my_cut (P := fun R9 a9 Q9 => ∀ (ar_48 : Nat → Nat → Int32) (H : Heap) (locs : List Loc) (ls : Array Slot), rB ar_48 → fA [48] ar_32 ar_48 → va_P (dC, dI) vwCl (wsX ob ad cA fv_25 wd_26 ar_48) H → va_S (aX ob ad s.heap.size) s.heap H locs → lv_has ls 5 [(0, .ref (ob 8)), (3, .int v_1), (4, .int x_31)] → W p l e R9 s m a9 below meth c H locs 0 0 Q9 (F0 m 111 ls [])) ?_ (fun hj_50 => ?_)
        · intro ar_48 H locs ls hA_ar_48 fa_49 hP hS hl
          obtain ⟨v_51, ev_51⟩ : ∃ z : Int32, z = x_31 + 1 := ⟨_, rfl⟩
          refine lv_iinc (v := v_51) (lv' := [(4, .int v_51), (0, .ref (ob 8)), (3, .int v_1)]) hx hb dX1_setOut_111 hl (k := 2) rfl (by rw [ev_51]; rfl) (by decide) rfl (fun ls hl => ?_)
          have t_52 : v_51.toInt = x_31.toInt + 1 ∧ 1 ≤ v_51.toInt ∧ v_51.toInt ≤ 40 := iv_addc ev_51 i_39 (by decide) (by decide) (by decide)
          refine lv_goto (tgt := 74) hx hb dX1_setOut_114 (by decide) ?_
          exact ih_34 v_51 ar_48 _ _ ls (by omega) (iv_w t_52.2 (by decide) (by decide)) hA_ar_48 (fA_call (fA_call (fA_rf [48] _) fa_33 (by decide)) fa_49 (by decide)) hP hS (lv_sub hl [1, 2, 0] rfl)
        · skip
          refine lv_icmp_ne (tgt := 111) hx hb dX1_setOut_97 (by decide) (fun c_43 => ?_) (fun c_43 => ?_)
          · skip
            exact hj_50 ar_32 _ _ ls hA_ar_32 (fA_rf [48] _) hP hS (lv_sub hl [0, 1, 2] rfl)
          · skip
            have i_44 : 0 ≤ v_41.toInt ∧ v_41.toInt ≤ 19 := iv_eq1 i_2 c_43
            refine lv_aload_n hx hb dX1_setOut_100 rfl (lv_at hl 0 rfl) ?_
            refine gX_X1_48 hx hb htg hown hK hP dX1_setOut_101 ?_
            refine lv_iload hx hb dX1_setOut_104 (lv_at hl 2 rfl) ?_
            refine lv_dup2_11 hx hb dX1_setOut_106 rfl rfl ?_
            refine lX_48 hx hb hK hP (iv_in i_39 (by decide) (by decide)) dX1_setOut_107 (fun v_45 ev_45 => ?_)
            refine lv_iconst (v := 1) hx hb dX1_setOut_108 (by decide) ?_
            refine lv_iadd hx hb dX1_setOut_109 ?_
            refine lv_topi (fun v_46 ev_46 => ?_)
            refine sX_48 hx hb hK hP hS hd (iv_in i_39 (by decide) (by decide)) dX1_setOut_110 (fun H locs ar_47 ear_47 hP hS => ?_)
            have hA_ar_47 : rB ar_47 := rB_put hA_ar_32 ear_47 (iv_any _)
            exact hj_50 ar_47 _ _ ls hA_ar_47 (fA_put (fA_rf [48] _) ear_47 (by decide)) hP hS (lv_sub hl [0, 1, 2] rfl)
  · skip
    have z_54 : (0 : Int32).toInt = 0 := by decide
    exact hj_36 41 0 ar_27 _ _ ls (by first | decide | omega) (iv_w (⟨by decide, by decide⟩ : (0 : Int) ≤ (0 : Int32).toInt ∧ (0 : Int32).toInt ≤ 0) (by decide) (by decide)) hA_ar_27 (fA_rf [48] _) hP hS (lv_sub hl [2, 1, 0] rfl)
set_option maxHeartbeats 4000000 in
set_option maxRecDepth 100000 in
theorem x_countOnTime (l : Launch) (dC : Nat → ClassId) (dI : Nat → Nat → Nat) (sz : Nat) (ob ad : Nat → Nat) (cA : Nat → ClassId) (hd : dX ob ad) (fv : Nat → Int32) (wd : xT) (ar : Nat → Nat → Int32) (hF_fv : rX fv) (hA_ar : rB ar) : Met l yX1_countOnTime (.code yX1_countOnTime cX1_countOnTime 3 (some .int) :: lw_good) ({ frames := 2, cells := 0, slots := 0, locals := 40 }) (va_Pc [.ref (ob 8)] (prX dC dI ob ad cA fv wd ar sz)) (va_Qi (fun (r : Int32) (u : xS) => rX u.1 ∧ rB u.2.2 ∧ fM [] fv u.1 ∧ fA [] ar u.2.2 ∧ u.2.1.2 = wd.2 ∧ True) (enX dC dI ob ad cA) (aX ob ad sz)) 0 0 (aX ob ad sz) := by
  refine Met.ofW (cc := cX1_countOnTime) (maxL := 3) (ret := (some .int)) (by decide) rfl ?_
  intro p e s m args below meth c s₁ B hml hv
  obtain ⟨rfl, hsz, hP, hK⟩ := hv
  have hx := B.exec
  have hb := B.bytes
  have hr := B.returns
  have hts := atoms_spec (ws := (.code yX1_countOnTime cX1_countOnTime 3 (some .int) :: lw_good)) B.pre
  have htg : ∀ w ∈ lw_good, w.before _ s = true := fun w hw => hts w (List.mem_cons_of_mem _ hw)
  have hown : s.vm.findClass RX1 = some m.cls := findClass_of_methodNamed B.named
  have hlocks := B.notSynchronized
  subst hsz
  have hS : va_S (aX ob ad s.heap.size) s.heap s.heap [] := va_S.rf
  have hl := lv_entry ([.ref (ob 8)]) (n := 3) (Nat.le_of_ble_eq_true rfl)
  rw [lg_entry_eq]
  generalize (lg_sl ([.ref (ob 8)]) ++ List.replicate (3 - (lg_sl ([.ref (ob 8)])).length) Slot.unset).toArray = ls at hl ⊢
  have hl : lv_has ls 3 [(0, .ref (ob 8))] := hl
  refine lv_iconst (v := 0) hx hb dX1_countOnTime_0 (by decide) ?_
  refine lv_istore_n (lv' := [(1, .int 0), (0, .ref (ob 8))]) hx hb dX1_countOnTime_1 rfl hl (by decide) rfl (fun ls hl => ?_)
  refine lv_iconst (v := 0) hx hb dX1_countOnTime_2 (by decide) ?_
  refine lv_istore_n (lv' := [(2, .int 0), (1, .int 0), (0, .ref (ob 8))]) hx hb dX1_countOnTime_3 rfl hl (by decide) rfl (fun ls hl => ?_)
  refine my_cut (P := fun R9 a9 Q9 => ∀ (n_3 : Nat) (x_1 : Int32) (x_2 : Int32) (H : Heap) (locs : List Loc) (ls : Array Slot), 40 - x_2.toInt < (n_3 : Int) → (0 ≤ x_2.toInt ∧ x_2.toInt ≤ 40) → va_P (dC, dI) vwCl (wsX ob ad cA fv wd ar) H → va_S (aX ob ad s.heap.size) s.heap H locs → lv_has ls 3 [(0, .ref (ob 8)), (1, .int x_1), (2, .int x_2)] → W p l e R9 s m a9 below meth c H locs 0 0 Q9 (F0 m 4 ls [])) ?_ (fun hj_5 => ?_)
  · intro n_3
    induction n_3 with
    | zero => intro x_1 x_2 H locs ls fu_4 i_x_2; exfalso; omega
    | succ n_3 ih_3 =>
      intro x_1 x_2 H locs ls fu_4 i_x_2 hP hS hl
      refine lv_iload_n hx hb dX1_countOnTime_4 rfl (lv_at hl 2 rfl) ?_
      refine lv_aload_n hx hb dX1_countOnTime_5 rfl (lv_at hl 0 rfl) ?_
      refine gX_X1_9 hx hb htg hown hK hP dX1_countOnTime_6 ?_
      refine gX_X1_129 hx hb htg hown hK hP dX1_countOnTime_9 ?_
      refine gX_X1_133 hx hb htg hown hK hP dX1_countOnTime_12 ?_
      have i_6 : 0 ≤ (fv 10).toInt ∧ (fv 10).toInt ≤ 40 := hF_fv 10
      refine lv_icmp_ge (tgt := 58) hx hb dX1_countOnTime_15 (by decide) (fun c_7 => ?_) (fun c_7 => ?_)
      · skip
        refine lv_iload_n hx hb dX1_countOnTime_58 rfl (lv_at hl 1 rfl) ?_
        exact W.iret (v := x_1) hx hb hr (fun t ht hW => ⟨⟨x_1, (fv, wd, ar), rfl, ⟨hF_fv, hA_ar, (fM_rf [] _), (fA_rf [] _), rfl, trivial⟩, ⟨by rw [ht]; exact hP, va_K.moved hW.alike hK⟩⟩, hS.F ht⟩) hS.2.2 dX1_countOnTime_59
      · skip
        have i_8 : 0 ≤ x_2.toInt ∧ x_2.toInt ≤ 39 := iv_lt1 i_x_2 i_6 (Int32.not_le.mp c_7)
        have i_9 : 1 ≤ (fv 10).toInt ∧ (fv 10).toInt ≤ 40 := iv_lt2 i_x_2 i_6 (Int32.not_le.mp c_7)
        refine lv_aload_n hx hb dX1_countOnTime_18 rfl (lv_at hl 0 rfl) ?_
        refine gX_X1_42 hx hb htg hown hK hP dX1_countOnTime_19 ?_
        refine lv_iload_n hx hb dX1_countOnTime_22 rfl (lv_at hl 2 rfl) ?_
        refine lX_46 hx hb hK hP (iv_in i_8 (by decide) (by decide)) dX1_countOnTime_23 (fun v_10 ev_10 => ?_)
        refine lv_iconst (v := (-1)) hx hb dX1_countOnTime_24 (by decide) ?_
        refine my_cut (P := fun R9 a9 Q9 => ∀ (x_19 : Int32) (H : Heap) (locs : List Loc) (ls : Array Slot), va_P (dC, dI) vwCl (wsX ob ad cA fv wd ar) H → va_S (aX ob ad s.heap.size) s.heap H locs → lv_has ls 3 [(0, .ref (ob 8)), (1, .int x_19), (2, .int x_2)] → W p l e R9 s m a9 below meth c H locs 0 0 Q9 (F0 m 52 ls [])) ?_ (fun hj_20 => ?_)
        · intro x_19 H locs ls  hP hS hl
          obtain ⟨v_21, ev_21⟩ : ∃ z : Int32, z = x_2 + 1 := ⟨_, rfl⟩
          refine lv_iinc (v := v_21) (lv' := [(2, .int v_21), (0, .ref (ob 8)), (1, .int x_19)]) hx hb dX1_countOnTime_52 hl (k := 2) rfl (by rw [ev_21]; rfl) (by decide) rfl (fun ls hl => ?_)
          have t_22 : v_21.toInt = x_2.toInt + 1 ∧ 1 ≤ v_21.toInt ∧ v_21.toInt ≤ 40 := iv_addc ev_21 i_8 (by decide) (by decide) (by decide)
          refine lv_goto (tgt := 4) hx hb dX1_countOnTime_55 (by decide) ?_
          exact ih_3 x_19 v_21 _ _ ls (by omega) (iv_w t_22.2 (by decide) (by decide)) hP hS (lv_sub hl [1, 2, 0] rfl)
        · skip
          refine lv_icmp_eq (tgt := 52) hx hb dX1_countOnTime_25 (by decide) (fun c_11 => ?_) (fun c_11 => ?_)
          · skip
            have i_12 : (-1) ≤ v_10.toInt ∧ v_10.toInt ≤ (-1) := iv_eq1 (⟨by decide, by decide⟩ : (-1 : Int) ≤ ((-1) : Int32).toInt ∧ ((-1) : Int32).toInt ≤ -1) c_11
            exact hj_20 x_1 _ _ ls  hP hS (lv_sub hl [0, 1, 2] rfl)
          · skip
            refine lv_aload_n hx hb dX1_countOnTime_28 rfl (lv_at hl 0 rfl) ?_
            refine gX_X1_42 hx hb htg hown hK hP dX1_countOnTime_29 ?_
            refine lv_iload_n hx hb dX1_countOnTime_32 rfl (lv_at hl 2 rfl) ?_
            refine lX_46 hx hb hK hP (iv_in i_8 (by decide) (by decide)) dX1_countOnTime_33 (fun v_13 ev_13 => ?_)
            obtain rfl : v_10 = v_13 := ev_10.trans ev_13.symm
            refine lv_aload_n hx hb dX1_countOnTime_34 rfl (lv_at hl 0 rfl) ?_
            refine gX_X1_9 hx hb htg hown hK hP dX1_countOnTime_35 ?_
            refine gX_X1_129 hx hb htg hown hK hP dX1_countOnTime_38 ?_
            refine gX_X1_259 hx hb htg hown hK hP dX1_countOnTime_41 ?_
            refine lv_iload_n hx hb dX1_countOnTime_44 rfl (lv_at hl 2 rfl) ?_
            refine lX_10 hx hb hK hP (iv_in i_8 (by decide) (by decide)) dX1_countOnTime_45 (fun v_14 ev_14 => ?_)
            refine lv_icmp_gt (tgt := 52) hx hb dX1_countOnTime_46 (by decide) (fun c_15 => ?_) (fun c_15 => ?_)
            · skip
              have i_16 : (-2147483648) ≤ v_14.toInt ∧ v_14.toInt ≤ 2147483646 := iv_lt1 (iv_any v_14) (iv_any v_10) c_15
              have i_17 : (-2147483647) ≤ v_10.toInt ∧ v_10.toInt ≤ 2147483647 := iv_lt2 (iv_any v_14) (iv_any v_10) c_15
              exact hj_20 x_1 _ _ ls  hP hS (lv_sub hl [0, 1, 2] rfl)
            · skip
              obtain ⟨v_18, ev_18⟩ : ∃ z : Int32, z = x_1 + 1 := ⟨_, rfl⟩
              refine lv_iinc (v := v_18) (lv' := [(1, .int v_18), (0, .ref (ob 8)), (2, .int x_2)]) hx hb dX1_countOnTime_49 hl (k := 1) rfl (by rw [ev_18]; rfl) (by decide) rfl (fun ls hl => ?_)
              exact hj_20 v_18 _ _ ls  hP hS (lv_sub hl [1, 0, 2] rfl)
  · skip
    have z_24 : (0 : Int32).toInt = 0 := by decide
    exact hj_5 41 0 0 _ _ ls (by first | decide | omega) (iv_w (⟨by decide, by decide⟩ : (0 : Int) ≤ (0 : Int32).toInt ∧ (0 : Int32).toInt ≤ 0) (by decide) (by decide)) hP hS (lv_sub hl [2, 1, 0] rfl)
set_option maxHeartbeats 4000000 in
set_option maxRecDepth 100000 in
theorem x_settlePerson (l : Launch) (dC : Nat → ClassId) (dI : Nat → Nat → Nat) (sz : Nat) (ob ad : Nat → Nat) (cA : Nat → ClassId) (hd : dX ob ad) (fv : Nat → Int32) (wd : xT) (ar : Nat → Nat → Int32) (hF_fv : rX fv) (hA_ar : rB ar) (pp : Int32) (b : Int32) (h_pp : 0 ≤ pp.toInt ∧ pp.toInt ≤ 39) : Met l yX1_settlePerson (.code yX1_settlePerson cX1_settlePerson 7 none :: lw_good) ({ frames := 2, cells := 0, slots := 0, locals := 40 }) (va_Pc [.ref (ob 8), .int pp, .int b] (prX dC dI ob ad cA fv wd ar sz)) (va_Qv (fun (u : xS) => rX u.1 ∧ rB u.2.2 ∧ fM [] fv u.1 ∧ fA [12, 13, 15, 16, 17, 18, 19] ar u.2.2 ∧ u.2.1.2 = wd.2 ∧ True) (enX dC dI ob ad cA) (aX ob ad sz)) 0 0 (aX ob ad sz) := by
  refine Met.ofW (cc := cX1_settlePerson) (maxL := 7) (ret := none) (by decide) rfl ?_
  intro p e s m args below meth c s₁ B hml hv
  obtain ⟨rfl, hsz, hP, hK⟩ := hv
  have hx := B.exec
  have hb := B.bytes
  have hr := B.returns
  have hts := atoms_spec (ws := (.code yX1_settlePerson cX1_settlePerson 7 none :: lw_good)) B.pre
  have htg : ∀ w ∈ lw_good, w.before _ s = true := fun w hw => hts w (List.mem_cons_of_mem _ hw)
  have hown : s.vm.findClass RX1 = some m.cls := findClass_of_methodNamed B.named
  have hlocks := B.notSynchronized
  subst hsz
  have hS : va_S (aX ob ad s.heap.size) s.heap s.heap [] := va_S.rf
  have hl := lv_entry ([.ref (ob 8), .int pp, .int b]) (n := 7) (Nat.le_of_ble_eq_true rfl)
  rw [lg_entry_eq]
  generalize (lg_sl ([.ref (ob 8), .int pp, .int b]) ++ List.replicate (7 - (lg_sl ([.ref (ob 8), .int pp, .int b])).length) Slot.unset).toArray = ls at hl ⊢
  have hl : lv_has ls 7 [(0, .ref (ob 8)), (1, .int pp), (2, .int b)] := hl
  refine lv_aload_n hx hb dX1_settlePerson_0 rfl (lv_at hl 0 rfl) ?_
  refine gX_X1_9 hx hb htg hown hK hP dX1_settlePerson_1 ?_
  refine gX_X1_129 hx hb htg hown hK hP dX1_settlePerson_4 ?_
  refine lv_astore_n (lv' := [(3, .ref (ob 3)), (0, .ref (ob 8)), (1, .int pp), (2, .int b)]) hx hb dX1_settlePerson_7 rfl hl (by decide) rfl (fun ls hl => ?_)
  refine lv_aload_n hx hb dX1_settlePerson_8 rfl (lv_at hl 1 rfl) ?_
  refine gX_X1_42 hx hb htg hown hK hP dX1_settlePerson_9 ?_
  refine lv_iload_n hx hb dX1_settlePerson_12 rfl (lv_at hl 2 rfl) ?_
  refine lX_46 hx hb hK hP (iv_in h_pp (by decide) (by decide)) dX1_settlePerson_13 (fun v_1 ev_1 => ?_)
  refine lv_iconst (v := (-1)) hx hb dX1_settlePerson_14 (by decide) ?_
  refine my_cut (P := fun R9 a9 Q9 => ∀ (x_5 : Int32) (H : Heap) (locs : List Loc) (ls : Array Slot), va_P (dC, dI) vwCl (wsX ob ad cA fv wd ar) H → va_S (aX ob ad s.heap.size) s.heap H locs → lv_has ls 7 [(0, .ref (ob 8)), (1, .int pp), (2, .int b), (3, .ref (ob 3))] → W p l e R9 s m a9 below meth c H locs 0 0 Q9 (F0 m 30 ls [.int x_5])) ?_ (fun hj_6 => ?_)
  · intro x_5 H locs ls  hP hS hl
    refine lv_istore (lv' := [(4, .int x_5), (0, .ref (ob 8)), (1, .int pp), (2, .int b), (3, .ref (ob 3))]) hx hb dX1_settlePerson_30 hl (by decide) rfl (fun ls hl => ?_)
    refine lv_iconst (v := 0) hx hb dX1_settlePerson_32 (by decide) ?_
    refine lv_iload hx hb dX1_settlePerson_33 (lv_at hl 0 rfl) ?_
    refine lv_aload_n hx hb dX1_settlePerson_35 rfl (lv_at hl 4 rfl) ?_
    refine gX_X1_259 hx hb htg hown hK hP dX1_settlePerson_36 ?_
    refine lv_iload_n hx hb dX1_settlePerson_39 rfl (lv_at hl 2 rfl) ?_
    refine lX_10 hx hb hK hP (iv_in h_pp (by decide) (by decide)) dX1_settlePerson_40 (fun v_7 ev_7 => ?_)
    refine lv_isub hx hb dX1_settlePerson_41 ?_
    refine lv_topi (fun v_8 ev_8 => ?_)
    refine va_mmax hx hb (hml.trans hl.1.symm) hown (htg (.methodLink RX1 220 Lib.Math.max.name) kw_5_156) (htg (.static Lib.Math.max.name) kw_4_28) (htg (.initialized RJ9) kw_1_16) (htg (.code Lib.Math.max.name Lib.Math.max.code 2 (some .int)) kw_4_29) (Nat.le_of_ble_eq_true rfl) (Nat.le_of_ble_eq_true rfl) (Nat.le_of_ble_eq_true rfl) (Nat.le_of_ble_eq_true rfl) dX1_settlePerson_42 ?_
    refine lv_topi (fun v_9 ev_9 => ?_)
    have i_10 : 0 ≤ v_9.toInt ∧ v_9.toInt ≤ 2147483647 := ix_max ev_9 (⟨by decide, by decide⟩ : (0 : Int) ≤ (0 : Int32).toInt ∧ (0 : Int32).toInt ≤ 0) (iv_any v_8) (by decide) (by decide)
    refine lv_istore (lv' := [(5, .int v_9), (4, .int x_5), (0, .ref (ob 8)), (1, .int pp), (2, .int b), (3, .ref (ob 3))]) hx hb dX1_settlePerson_45 hl (by decide) rfl (fun ls hl => ?_)
    refine lv_iconst (v := 0) hx hb dX1_settlePerson_47 (by decide) ?_
    refine lv_aload_n hx hb dX1_settlePerson_48 rfl (lv_at hl 5 rfl) ?_
    refine gX_X1_298 hx hb htg hown hK hP dX1_settlePerson_49 ?_
    refine lv_iload_n hx hb dX1_settlePerson_52 rfl (lv_at hl 3 rfl) ?_
    refine lX_8 hx hb hK hP (iv_in h_pp (by decide) (by decide)) dX1_settlePerson_53 (fun v_11 ev_11 => ?_)
    refine lv_iload_n hx hb dX1_settlePerson_54 rfl (lv_at hl 4 rfl) ?_
    refine lv_iload hx hb dX1_settlePerson_55 (lv_at hl 0 rfl) ?_
    refine lv_bipush (v := 10) hx hb dX1_settlePerson_57 (by decide) ?_
    refine lv_idiv hx hb dX1_settlePerson_59 (by decide) ?_
    refine lv_topi (fun v_12 ev_12 => ?_)
    refine lv_imul hx hb dX1_settlePerson_60 ?_
    refine lv_topi (fun v_13 ev_13 => ?_)
    refine lv_isub hx hb dX1_settlePerson_61 ?_
    refine lv_topi (fun v_14 ev_14 => ?_)
    refine va_mmax hx hb (hml.trans hl.1.symm) hown (htg (.methodLink RX1 220 Lib.Math.max.name) kw_5_156) (htg (.static Lib.Math.max.name) kw_4_28) (htg (.initialized RJ9) kw_1_16) (htg (.code Lib.Math.max.name Lib.Math.max.code 2 (some .int)) kw_4_29) (Nat.le_of_ble_eq_true rfl) (Nat.le_of_ble_eq_true rfl) (Nat.le_of_ble_eq_true rfl) (Nat.le_of_ble_eq_true rfl) dX1_settlePerson_62 ?_
    refine lv_topi (fun v_15 ev_15 => ?_)
    have i_16 : 0 ≤ v_15.toInt ∧ v_15.toInt ≤ 2147483647 := ix_max ev_15 (⟨by decide, by decide⟩ : (0 : Int) ≤ (0 : Int32).toInt ∧ (0 : Int32).toInt ≤ 0) (iv_any v_14) (by decide) (by decide)
    refine lv_istore (lv' := [(6, .int v_15), (5, .int v_9), (4, .int x_5), (0, .ref (ob 8)), (1, .int pp), (2, .int b), (3, .ref (ob 3))]) hx hb dX1_settlePerson_65 hl (by decide) rfl (fun ls hl => ?_)
    refine lv_aload_n hx hb dX1_settlePerson_67 rfl (lv_at hl 6 rfl) ?_
    refine gX_X1_301 hx hb htg hown hK hP dX1_settlePerson_68 ?_
    refine lv_iload_n hx hb dX1_settlePerson_71 rfl (lv_at hl 4 rfl) ?_
    refine lv_aload_n hx hb dX1_settlePerson_72 rfl (lv_at hl 3 rfl) ?_
    refine gX_X1_42 hx hb htg hown hK hP dX1_settlePerson_73 ?_
    refine lv_iload_n hx hb dX1_settlePerson_76 rfl (lv_at hl 4 rfl) ?_
    refine lX_46 hx hb hK hP (iv_in h_pp (by decide) (by decide)) dX1_settlePerson_77 (fun v_17 ev_17 => ?_)
    obtain rfl : v_1 = v_17 := ev_1.trans ev_17.symm
    refine sX_15 hx hb hK hP hS hd (iv_in h_pp (by decide) (by decide)) dX1_settlePerson_78 (fun H locs ar_18 ear_18 hP hS => ?_)
    have hA_ar_18 : rB ar_18 := rB_put hA_ar ear_18 (iv_any _)
    refine lv_aload_n hx hb dX1_settlePerson_79 rfl (lv_at hl 6 rfl) ?_
    refine gX_X1_302 hx hb htg hown hK hP dX1_settlePerson_80 ?_
    refine lv_iload_n hx hb dX1_settlePerson_83 rfl (lv_at hl 4 rfl) ?_
    refine lv_iload hx hb dX1_settlePerson_84 (lv_at hl 1 rfl) ?_
    refine sX_16 hx hb hK hP hS hd (iv_in h_pp (by decide) (by decide)) dX1_settlePerson_86 (fun H locs ar_19 ear_19 hP hS => ?_)
    have hA_ar_19 : rB ar_19 := rB_put hA_ar_18 ear_19 (iv_any _)
    refine lv_aload_n hx hb dX1_settlePerson_87 rfl (lv_at hl 6 rfl) ?_
    refine gX_X1_305 hx hb htg hown hK hP dX1_settlePerson_88 ?_
    refine lv_iload_n hx hb dX1_settlePerson_91 rfl (lv_at hl 4 rfl) ?_
    refine lv_aload_n hx hb dX1_settlePerson_92 rfl (lv_at hl 3 rfl) ?_
    refine gX_X1_45 hx hb htg hown hK hP dX1_settlePerson_93 ?_
    refine lv_iload_n hx hb dX1_settlePerson_96 rfl (lv_at hl 4 rfl) ?_
    refine lX_47 hx hb hK hP (iv_in h_pp (by decide) (by decide)) dX1_settlePerson_97 (fun v_20 ev_20 => ?_)
    refine sX_17 hx hb hK hP hS hd (iv_in h_pp (by decide) (by decide)) dX1_settlePerson_98 (fun H locs ar_21 ear_21 hP hS => ?_)
    have hA_ar_21 : rB ar_21 := rB_put hA_ar_19 ear_21 (iv_any _)
    refine lv_aload_n hx hb dX1_settlePerson_99 rfl (lv_at hl 6 rfl) ?_
    refine gX_X1_306 hx hb htg hown hK hP dX1_settlePerson_100 ?_
    refine lv_iload_n hx hb dX1_settlePerson_103 rfl (lv_at hl 4 rfl) ?_
    refine lv_aload_n hx hb dX1_settlePerson_104 rfl (lv_at hl 3 rfl) ?_
    refine gX_X1_48 hx hb htg hown hK hP dX1_settlePerson_105 ?_
    refine lv_iload_n hx hb dX1_settlePerson_108 rfl (lv_at hl 4 rfl) ?_
    refine lX_48 hx hb hK hP (iv_in h_pp (by decide) (by decide)) dX1_settlePerson_109 (fun v_22 ev_22 => ?_)
    refine sX_18 hx hb hK hP hS hd (iv_in h_pp (by decide) (by decide)) dX1_settlePerson_110 (fun H locs ar_23 ear_23 hP hS => ?_)
    have hA_ar_23 : rB ar_23 := rB_put hA_ar_21 ear_23 (iv_any _)
    refine lv_aload_n hx hb dX1_settlePerson_111 rfl (lv_at hl 6 rfl) ?_
    refine gX_X1_136 hx hb htg hown hK hP dX1_settlePerson_112 ?_
    refine lv_iload_n hx hb dX1_settlePerson_115 rfl (lv_at hl 4 rfl) ?_
    refine lv_aload_n hx hb dX1_settlePerson_116 rfl (lv_at hl 3 rfl) ?_
    refine gX_X1_35 hx hb htg hown hK hP dX1_settlePerson_117 ?_
    refine lv_iload_n hx hb dX1_settlePerson_120 rfl (lv_at hl 4 rfl) ?_
    refine lX_44 hx hb hK hP (iv_in h_pp (by decide) (by decide)) dX1_settlePerson_121 (fun v_24 ev_24 => ?_)
    refine lv_iload hx hb dX1_settlePerson_122 (lv_at hl 0 rfl) ?_
    refine lv_iadd hx hb dX1_settlePerson_124 ?_
    refine lv_topi (fun v_25 ev_25 => ?_)
    refine lv_ldcw hx hb hown (htg (.constant RX1 307 100000) kw_5_220) dX1_settlePerson_125 ?_
    refine va_mmin hx hb (hml.trans hl.1.symm) hown (htg (.methodLink RX1 266 Lib.Math.min.name) kw_5_188) (htg (.static Lib.Math.min.name) kw_3_151) (htg (.initialized RJ9) kw_1_16) (htg (.code Lib.Math.min.name Lib.Math.min.code 2 (some .int)) kw_3_152) (Nat.le_of_ble_eq_true rfl) (Nat.le_of_ble_eq_true rfl) (Nat.le_of_ble_eq_true rfl) (Nat.le_of_ble_eq_true rfl) dX1_settlePerson_128 ?_
    refine lv_topi (fun v_26 ev_26 => ?_)
    have i_27 : (-2147483648) ≤ v_26.toInt ∧ v_26.toInt ≤ 100000 := ix_min ev_26 (iv_any v_25) (⟨by decide, by decide⟩ : (100000 : Int) ≤ (100000 : Int32).toInt ∧ (100000 : Int32).toInt ≤ 100000) (by decide) (by decide)
    refine sX_13 hx hb hK hP hS hd (iv_in h_pp (by decide) (by decide)) dX1_settlePerson_131 (fun H locs ar_28 ear_28 hP hS => ?_)
    have hA_ar_28 : rB ar_28 := rB_put hA_ar_23 ear_28 (iv_any _)
    refine lv_aload_n hx hb dX1_settlePerson_132 rfl (lv_at hl 6 rfl) ?_
    refine gX_X1_217 hx hb htg hown hK hP dX1_settlePerson_133 ?_
    refine lv_iload_n hx hb dX1_settlePerson_136 rfl (lv_at hl 4 rfl) ?_
    refine lv_dup2_11 hx hb dX1_settlePerson_137 rfl rfl ?_
    refine lX_19 hx hb hK hP (iv_in h_pp (by decide) (by decide)) dX1_settlePerson_138 (fun v_29 ev_29 => ?_)
    refine lv_aload_n hx hb dX1_settlePerson_139 rfl (lv_at hl 3 rfl) ?_
    refine gX_X1_45 hx hb htg hown hK hP dX1_settlePerson_140 ?_
    refine lv_iload_n hx hb dX1_settlePerson_143 rfl (lv_at hl 4 rfl) ?_
    refine lX_47 hx hb hK hP (iv_in h_pp (by decide) (by decide)) dX1_settlePerson_144 (fun v_30 ev_30 => ?_)
    obtain rfl : v_20 = v_30 := ev_20.trans ((congrFun ((fA_put (fA_put (fA_put (fA_rf [13, 17, 18] _) ear_21 (by decide)) ear_23 (by decide)) ear_28 (by decide)) 47 rfl) _).symm.trans ev_30.symm)
    refine lv_iadd hx hb dX1_settlePerson_145 ?_
    refine lv_topi (fun v_31 ev_31 => ?_)
    refine sX_19 hx hb hK hP hS hd (iv_in h_pp (by decide) (by decide)) dX1_settlePerson_146 (fun H locs ar_32 ear_32 hP hS => ?_)
    have hA_ar_32 : rB ar_32 := rB_put hA_ar_28 ear_32 (iv_any _)
    refine lv_aload_n hx hb dX1_settlePerson_147 rfl (lv_at hl 6 rfl) ?_
    refine gX_X1_137 hx hb htg hown hK hP dX1_settlePerson_148 ?_
    refine lv_iload_n hx hb dX1_settlePerson_151 rfl (lv_at hl 4 rfl) ?_
    refine lv_aload_n hx hb dX1_settlePerson_152 rfl (lv_at hl 3 rfl) ?_
    refine gX_X1_39 hx hb htg hown hK hP dX1_settlePerson_153 ?_
    refine lv_iload_n hx hb dX1_settlePerson_156 rfl (lv_at hl 4 rfl) ?_
    refine lX_45 hx hb hK hP (iv_in h_pp (by decide) (by decide)) dX1_settlePerson_157 (fun v_33 ev_33 => ?_)
    refine sX_12 hx hb hK hP hS hd (iv_in h_pp (by decide) (by decide)) dX1_settlePerson_158 (fun H locs ar_34 ear_34 hP hS => ?_)
    have hA_ar_34 : rB ar_34 := rB_put hA_ar_32 ear_34 (iv_any _)
    exact W.vret hx hb hr (fun t ht hW => ⟨⟨(fv, wd, ar_34), rfl, ⟨hF_fv, hA_ar_34, (fM_rf [] _), (fA_put (fA_put (fA_put (fA_put (fA_put (fA_put (fA_put (fA_rf [12, 13, 15, 16, 17, 18, 19] _) ear_18 (by decide)) ear_19 (by decide)) ear_21 (by decide)) ear_23 (by decide)) ear_28 (by decide)) ear_32 (by decide)) ear_34 (by decide)), rfl, trivial⟩, ⟨by rw [ht]; exact hP, va_K.moved hW.alike hK⟩⟩, hS.F ht⟩) hS.2.2 dX1_settlePerson_159
  · skip
    refine lv_icmp_ne (tgt := 24) hx hb dX1_settlePerson_15 (by decide) (fun c_2 => ?_) (fun c_2 => ?_)
    · skip
      refine lv_aload_n hx hb dX1_settlePerson_24 rfl (lv_at hl 1 rfl) ?_
      refine gX_X1_42 hx hb htg hown hK hP dX1_settlePerson_25 ?_
      refine lv_iload_n hx hb dX1_settlePerson_28 rfl (lv_at hl 2 rfl) ?_
      refine lX_46 hx hb hK hP (iv_in h_pp (by decide) (by decide)) dX1_settlePerson_29 (fun v_3 ev_3 => ?_)
      obtain rfl : v_1 = v_3 := ev_1.trans ev_3.symm
      exact hj_6 v_1 _ _ ls  hP hS (lv_sub hl [1, 2, 3, 0] rfl)
    · skip
      have i_4 : (-1) ≤ v_1.toInt ∧ v_1.toInt ≤ (-1) := iv_eq1 (⟨by decide, by decide⟩ : (-1 : Int) ≤ ((-1) : Int32).toInt ∧ ((-1) : Int32).toInt ≤ -1) c_2
      refine lv_sipush (v := 840) hx hb dX1_settlePerson_18 (by decide) ?_
      refine lv_goto (tgt := 30) hx hb dX1_settlePerson_21 (by decide) ?_
      exact hj_6 840 _ _ ls  hP hS (lv_sub hl [1, 2, 3, 0] rfl)
set_option maxHeartbeats 4000000 in
set_option maxRecDepth 100000 in
theorem x_isCovered (l : Launch) (dC : Nat → ClassId) (dI : Nat → Nat → Nat) (sz : Nat) (ob ad : Nat → Nat) (cA : Nat → ClassId) (hd : dX ob ad) (fv : Nat → Int32) (wd : xT) (ar : Nat → Nat → Int32) (hF_fv : rX fv) (hA_ar : rB ar) (ss : Int32) (h_ss : 0 ≤ ss.toInt ∧ ss.toInt ≤ 7) : Met l yX5_isCovered (.code yX5_isCovered cX5_isCovered 3 (some .boolean) :: lw_good) ({ frames := 2, cells := 0, slots := 0, locals := 40 }) (va_Pc [.ref (ob 10), .int ss] (prX dC dI ob ad cA fv wd ar sz)) (va_Qi (fun (r : Int32) (u : xS) => rX u.1 ∧ rB u.2.2 ∧ fM [] fv u.1 ∧ fA [] ar u.2.2 ∧ u.2.1.2 = wd.2 ∧ (0 ≤ r.toInt ∧ r.toInt ≤ 1) ∧ True) (enX dC dI ob ad cA) (aX ob ad sz)) 0 0 (aX ob ad sz) := by
  refine Met.ofW (cc := cX5_isCovered) (maxL := 3) (ret := (some .boolean)) (by decide) rfl ?_
  intro p e s m args below meth c s₁ B hml hv
  obtain ⟨rfl, hsz, hP, hK⟩ := hv
  have hx := B.exec
  have hb := B.bytes
  have hr := B.returns
  have hts := atoms_spec (ws := (.code yX5_isCovered cX5_isCovered 3 (some .boolean) :: lw_good)) B.pre
  have htg : ∀ w ∈ lw_good, w.before _ s = true := fun w hw => hts w (List.mem_cons_of_mem _ hw)
  have hown : s.vm.findClass RX5 = some m.cls := findClass_of_methodNamed B.named
  have hlocks := B.notSynchronized
  subst hsz
  have hS : va_S (aX ob ad s.heap.size) s.heap s.heap [] := va_S.rf
  have hl := lv_entry ([.ref (ob 10), .int ss]) (n := 3) (Nat.le_of_ble_eq_true rfl)
  rw [lg_entry_eq]
  generalize (lg_sl ([.ref (ob 10), .int ss]) ++ List.replicate (3 - (lg_sl ([.ref (ob 10), .int ss])).length) Slot.unset).toArray = ls at hl ⊢
  have hl : lv_has ls 3 [(0, .ref (ob 10)), (1, .int ss)] := hl
  refine lv_iconst (v := 0) hx hb dX5_isCovered_0 (by decide) ?_
  refine lv_istore_n (lv' := [(2, .int 0), (0, .ref (ob 10)), (1, .int ss)]) hx hb dX5_isCovered_1 rfl hl (by decide) rfl (fun ls hl => ?_)
  refine my_cut (P := fun R9 a9 Q9 => ∀ (n_2 : Nat) (x_1 : Int32) (H : Heap) (locs : List Loc) (ls : Array Slot), 7 - x_1.toInt < (n_2 : Int) → (0 ≤ x_1.toInt ∧ x_1.toInt ≤ 7) → va_P (dC, dI) vwCl (wsX ob ad cA fv wd ar) H → va_S (aX ob ad s.heap.size) s.heap H locs → lv_has ls 3 [(0, .ref (ob 10)), (1, .int ss), (2, .int x_1)] → W p l e R9 s m a9 below meth c H locs 0 0 Q9 (F0 m 2 ls [])) ?_ (fun hj_4 => ?_)
  · intro n_2
    induction n_2 with
    | zero => intro x_1 H locs ls fu_3 i_x_1; exfalso; omega
    | succ n_2 ih_2 =>
      intro x_1 H locs ls fu_3 i_x_1 hP hS hl
      refine lv_iload_n hx hb dX5_isCovered_2 rfl (lv_at hl 2 rfl) ?_
      refine lv_iload_n hx hb dX5_isCovered_3 rfl (lv_at hl 1 rfl) ?_
      refine lv_icmp_ge (tgt := 37) hx hb dX5_isCovered_4 (by decide) (fun c_5 => ?_) (fun c_5 => ?_)
      · skip
        refine lv_iconst (v := 0) hx hb dX5_isCovered_37 (by decide) ?_
        exact W.zret (v := 0) hx hb hr (by decide) (fun t ht hW => ⟨⟨0, (fv, wd, ar), rfl, ⟨hF_fv, hA_ar, (fM_rf [] _), (fA_rf [] _), rfl, (iv_w (⟨by decide, by decide⟩ : (0 : Int) ≤ (0 : Int32).toInt ∧ (0 : Int32).toInt ≤ 0) (by decide) (by decide)), trivial⟩, ⟨by rw [ht]; exact hP, va_K.moved hW.alike hK⟩⟩, hS.F ht⟩) hS.2.2 dX5_isCovered_38
      · skip
        have i_6 : 0 ≤ x_1.toInt ∧ x_1.toInt ≤ 6 := iv_lt1 i_x_1 h_ss (Int32.not_le.mp c_5)
        have i_7 : 1 ≤ ss.toInt ∧ ss.toInt ≤ 7 := iv_lt2 i_x_1 h_ss (Int32.not_le.mp c_5)
        refine lv_aload_n hx hb dX5_isCovered_7 rfl (lv_at hl 0 rfl) ?_
        refine gX_X5_17 hx hb htg hown hK hP dX5_isCovered_8 ?_
        refine lv_iload_n hx hb dX5_isCovered_11 rfl (lv_at hl 1 rfl) ?_
        refine lXJ hx hb hK hP (iv_in i_7 (by decide) (by decide)) dX5_isCovered_12 (fun w_8 _ => ?_)
        refine lv_aload_n hx hb dX5_isCovered_13 rfl (lv_at hl 0 rfl) ?_
        refine gX_X5_17 hx hb htg hown hK hP dX5_isCovered_14 ?_
        refine lv_iload_n hx hb dX5_isCovered_17 rfl (lv_at hl 2 rfl) ?_
        refine lXJ hx hb hK hP (iv_in i_6 (by decide) (by decide)) dX5_isCovered_18 (fun w_9 _ => ?_)
        refine lv_ldc2 (v := (-1)) hx hb hown (htg (.constantLong RX5 134 (-1)) kw_6_32) dX5_isCovered_19 ?_
        refine lv_lxor hx hb dX5_isCovered_22 ?_
        refine lv_topl (fun w_10 _ => ?_)
        refine lv_land hx hb dX5_isCovered_23 ?_
        refine lv_topl (fun w_11 _ => ?_)
        refine lv_lconst (v := 0) hx hb dX5_isCovered_24 (by decide) ?_
        refine W.lcmp hx hb dX5_isCovered_25 ?_
        refine lv_topi (fun v_12 ev_12 => ?_)
        refine lv_if_ne (tgt := 31) hx hb dX5_isCovered_26 (by decide) (fun c_13 => ?_) (fun c_13 => ?_)
        · skip
          obtain ⟨v_14, ev_14⟩ : ∃ z : Int32, z = x_1 + 1 := ⟨_, rfl⟩
          refine lv_iinc (v := v_14) (lv' := [(2, .int v_14), (0, .ref (ob 10)), (1, .int ss)]) hx hb dX5_isCovered_31 hl (k := 2) rfl (by rw [ev_14]; rfl) (by decide) rfl (fun ls hl => ?_)
          have t_15 : v_14.toInt = x_1.toInt + 1 ∧ 1 ≤ v_14.toInt ∧ v_14.toInt ≤ 7 := iv_addc ev_14 i_6 (by decide) (by decide) (by decide)
          refine lv_goto (tgt := 2) hx hb dX5_isCovered_34 (by decide) ?_
          exact ih_2 v_14 _ _ ls (by omega) (iv_w t_15.2 (by decide) (by decide)) hP hS (lv_sub hl [1, 2, 0] rfl)
        · skip
          have i_17 : 0 ≤ v_12.toInt ∧ v_12.toInt ≤ 0 := iv_eq1 (⟨by decide, by decide⟩ : (0 : Int) ≤ (0 : Int32).toInt ∧ (0 : Int32).toInt ≤ 0) c_13
          refine lv_iconst (v := 1) hx hb dX5_isCovered_29 (by decide) ?_
          exact W.zret (v := 1) hx hb hr (by decide) (fun t ht hW => ⟨⟨1, (fv, wd, ar), rfl, ⟨hF_fv, hA_ar, (fM_rf [] _), (fA_rf [] _), rfl, (iv_w (⟨by decide, by decide⟩ : (1 : Int) ≤ (1 : Int32).toInt ∧ (1 : Int32).toInt ≤ 1) (by decide) (by decide)), trivial⟩, ⟨by rw [ht]; exact hP, va_K.moved hW.alike hK⟩⟩, hS.F ht⟩) hS.2.2 dX5_isCovered_30
  · skip
    have z_18 : (0 : Int32).toInt = 0 := by decide
    exact hj_4 8 0 _ _ ls (by first | decide | omega) (iv_w (⟨by decide, by decide⟩ : (0 : Int) ≤ (0 : Int32).toInt ∧ (0 : Int32).toInt ≤ 0) (by decide) (by decide)) hP hS (lv_sub hl [1, 2, 0] rfl)
set_option maxHeartbeats 4000000 in
set_option maxRecDepth 100000 in
theorem x_firstPlace (l : Launch) (dC : Nat → ClassId) (dI : Nat → Nat → Nat) (sz : Nat) (ob ad : Nat → Nat) (cA : Nat → ClassId) (hd : dX ob ad) (fv : Nat → Int32) (wd : xT) (ar : Nat → Nat → Int32) (hF_fv : rX fv) (hA_ar : rB ar) (kk : Int32) (h_kk : 0 ≤ kk.toInt ∧ kk.toInt ≤ 4) : Met l yX5_firstPlace (.code yX5_firstPlace cX5_firstPlace 3 (some .int) :: lw_good) ({ frames := 2, cells := 0, slots := 0, locals := 40 }) (va_Pc [.ref (ob 10), .int kk] (prX dC dI ob ad cA fv wd ar sz)) (va_Qi (fun (r : Int32) (u : xS) => rX u.1 ∧ rB u.2.2 ∧ fM [] fv u.1 ∧ fA [] ar u.2.2 ∧ u.2.1.2 = wd.2 ∧ (0 ≤ r.toInt ∧ r.toInt ≤ 7) ∧ True) (enX dC dI ob ad cA) (aX ob ad sz)) 0 0 (aX ob ad sz) := by
  refine Met.ofW (cc := cX5_firstPlace) (maxL := 3) (ret := (some .int)) (by decide) rfl ?_
  intro p e s m args below meth c s₁ B hml hv
  obtain ⟨rfl, hsz, hP, hK⟩ := hv
  have hx := B.exec
  have hb := B.bytes
  have hr := B.returns
  have hts := atoms_spec (ws := (.code yX5_firstPlace cX5_firstPlace 3 (some .int) :: lw_good)) B.pre
  have htg : ∀ w ∈ lw_good, w.before _ s = true := fun w hw => hts w (List.mem_cons_of_mem _ hw)
  have hown : s.vm.findClass RX5 = some m.cls := findClass_of_methodNamed B.named
  have hlocks := B.notSynchronized
  subst hsz
  have hS : va_S (aX ob ad s.heap.size) s.heap s.heap [] := va_S.rf
  have hl := lv_entry ([.ref (ob 10), .int kk]) (n := 3) (Nat.le_of_ble_eq_true rfl)
  rw [lg_entry_eq]
  generalize (lg_sl ([.ref (ob 10), .int kk]) ++ List.replicate (3 - (lg_sl ([.ref (ob 10), .int kk])).length) Slot.unset).toArray = ls at hl ⊢
  have hl : lv_has ls 3 [(0, .ref (ob 10)), (1, .int kk)] := hl
  refine lv_iload_n hx hb dX5_firstPlace_0 rfl (lv_at hl 1 rfl) ?_
  refine lv_iconst (v := 1) hx hb dX5_firstPlace_1 (by decide) ?_
  refine lv_isub hx hb dX5_firstPlace_2 ?_
  refine lv_topi (fun v_1 ev_1 => ?_)
  have t_2 : v_1.toInt = kk.toInt - 1 ∧ (-1) ≤ v_1.toInt ∧ v_1.toInt ≤ 3 := iv_subc ev_1 h_kk (by decide) (by decide) (by decide)
  refine lv_istore_n (lv' := [(2, .int v_1), (0, .ref (ob 10)), (1, .int kk)]) hx hb dX5_firstPlace_3 rfl hl (by decide) rfl (fun ls hl => ?_)
  refine my_cut (P := fun R9 a9 Q9 => ∀ (n_5 : Nat) (x_4 : Int32) (H : Heap) (locs : List Loc) (ls : Array Slot), x_4.toInt - (-1) < (n_5 : Int) → ((-1) ≤ x_4.toInt ∧ x_4.toInt ≤ 3) → va_P (dC, dI) vwCl (wsX ob ad cA fv wd ar) H → va_S (aX ob ad s.heap.size) s.heap H locs → lv_has ls 3 [(0, .ref (ob 10)), (1, .int kk), (2, .int x_4)] → W p l e R9 s m a9 below meth c H locs 0 0 Q9 (F0 m 4 ls [])) ?_ (fun hj_7 => ?_)
  · intro n_5
    induction n_5 with
    | zero => intro x_4 H locs ls fu_6 i_x_4; exfalso; omega
    | succ n_5 ih_5 =>
      intro x_4 H locs ls fu_6 i_x_4 hP hS hl
      refine lv_iload_n hx hb dX5_firstPlace_4 rfl (lv_at hl 2 rfl) ?_
      refine lv_if_lt (tgt := 36) hx hb dX5_firstPlace_5 (by decide) (fun c_8 => ?_) (fun c_8 => ?_)
      · skip
        have i_9 : (-1) ≤ x_4.toInt ∧ x_4.toInt ≤ (-1) := iv_lt1 i_x_4 (⟨by decide, by decide⟩ : (0 : Int) ≤ (0 : Int32).toInt ∧ (0 : Int32).toInt ≤ 0) c_8
        refine lv_iconst (v := 0) hx hb dX5_firstPlace_36 (by decide) ?_
        exact W.iret (v := 0) hx hb hr (fun t ht hW => ⟨⟨0, (fv, wd, ar), rfl, ⟨hF_fv, hA_ar, (fM_rf [] _), (fA_rf [] _), rfl, (iv_w (⟨by decide, by decide⟩ : (0 : Int) ≤ (0 : Int32).toInt ∧ (0 : Int32).toInt ≤ 0) (by decide) (by decide)), trivial⟩, ⟨by rw [ht]; exact hP, va_K.moved hW.alike hK⟩⟩, hS.F ht⟩) hS.2.2 dX5_firstPlace_37
      · skip
        have i_10 : 0 ≤ x_4.toInt ∧ x_4.toInt ≤ 3 := iv_le2 (⟨by decide, by decide⟩ : (0 : Int) ≤ (0 : Int32).toInt ∧ (0 : Int32).toInt ≤ 0) i_x_4 (Int32.not_lt.mp c_8)
        refine lv_aload_n hx hb dX5_firstPlace_8 rfl (lv_at hl 0 rfl) ?_
        refine gX_X5_28 hx hb htg hown hK hP dX5_firstPlace_9 ?_
        refine lv_iload_n hx hb dX5_firstPlace_12 rfl (lv_at hl 2 rfl) ?_
        refine lX_67 hx hb hK hP (iv_in i_10 (by decide) (by decide)) dX5_firstPlace_13 (fun v_11 ev_11 => ?_)
        refine lv_aload_n hx hb dX5_firstPlace_14 rfl (lv_at hl 0 rfl) ?_
        refine gX_X5_28 hx hb htg hown hK hP dX5_firstPlace_15 ?_
        refine lv_iload_n hx hb dX5_firstPlace_18 rfl (lv_at hl 1 rfl) ?_
        refine lX_67 hx hb hK hP (iv_in h_kk (by decide) (by decide)) dX5_firstPlace_19 (fun v_12 ev_12 => ?_)
        refine lv_icmp_ne (tgt := 30) hx hb dX5_firstPlace_20 (by decide) (fun c_13 => ?_) (fun c_13 => ?_)
        · skip
          obtain ⟨v_14, ev_14⟩ : ∃ z : Int32, z = x_4 + (-1) := ⟨_, rfl⟩
          refine lv_iinc (v := v_14) (lv' := [(2, .int v_14), (0, .ref (ob 10)), (1, .int kk)]) hx hb dX5_firstPlace_30 hl (k := 2) rfl (by rw [ev_14]; rfl) (by decide) rfl (fun ls hl => ?_)
          have t_15 : v_14.toInt = x_4.toInt + (-1) ∧ (-1) ≤ v_14.toInt ∧ v_14.toInt ≤ 2 := iv_addc ev_14 i_10 (by decide) (by decide) (by decide)
          refine lv_goto (tgt := 4) hx hb dX5_firstPlace_33 (by decide) ?_
          exact ih_5 v_14 _ _ ls (by omega) (iv_w t_15.2 (by decide) (by decide)) hP hS (lv_sub hl [1, 2, 0] rfl)
        · skip
          refine lv_aload_n hx hb dX5_firstPlace_23 rfl (lv_at hl 0 rfl) ?_
          refine gX_X5_40 hx hb htg hown hK hP dX5_firstPlace_24 ?_
          refine lv_iload_n hx hb dX5_firstPlace_27 rfl (lv_at hl 2 rfl) ?_
          refine lX_71 hx hb hK hP (iv_in i_10 (by decide) (by decide)) dX5_firstPlace_28 (fun v_17 ev_17 => ?_)
          have i_18 : 0 ≤ v_17.toInt ∧ v_17.toInt ≤ 7 := ev_17 ▸ hA_ar 71 _
          exact W.iret (v := v_17) hx hb hr (fun t ht hW => ⟨⟨v_17, (fv, wd, ar), rfl, ⟨hF_fv, hA_ar, (fM_rf [] _), (fA_rf [] _), rfl, i_18, trivial⟩, ⟨by rw [ht]; exact hP, va_K.moved hW.alike hK⟩⟩, hS.F ht⟩) hS.2.2 dX5_firstPlace_29
  · skip
    exact hj_7 5 v_1 _ _ ls (by omega) t_2.2 hP hS (lv_sub hl [1, 2, 0] rfl)
set_option maxHeartbeats 4000000 in
set_option maxRecDepth 100000 in
theorem x_mostWith (l : Launch) (dC : Nat → ClassId) (dI : Nat → Nat → Nat) (sz : Nat) (ob ad : Nat → Nat) (cA : Nat → ClassId) (hd : dX ob ad) (fv : Nat → Int32) (wd : xT) (ar : Nat → Nat → Int32) (hF_fv : rX fv) (hA_ar : rB ar) (kk : Int32) (ss : Int32) (h_kk : 0 ≤ kk.toInt ∧ kk.toInt ≤ 4) (h_ss : 0 ≤ ss.toInt ∧ ss.toInt ≤ 7) : Met l yX5_mostWith (.code yX5_mostWith cX5_mostWith 7 (some .int) :: lw_good) ({ frames := 2, cells := 0, slots := 0, locals := 40 }) (va_Pc [.ref (ob 10), .int kk, .int ss] (prX dC dI ob ad cA fv wd ar sz)) (va_Qi (fun (r : Int32) (u : xS) => rX u.1 ∧ rB u.2.2 ∧ fM [] fv u.1 ∧ fA [69] ar u.2.2 ∧ u.2.1.2 = wd.2 ∧ True) (enX dC dI ob ad cA) (aX ob ad sz)) 0 0 (aX ob ad sz) := by
  refine Met.ofW (cc := cX5_mostWith) (maxL := 7) (ret := (some .int)) (by decide) rfl ?_
  intro p e s m args below meth c s₁ B hml hv
  obtain ⟨rfl, hsz, hP, hK⟩ := hv
  have hx := B.exec
  have hb := B.bytes
  have hr := B.returns
  have hts := atoms_spec (ws := (.code yX5_mostWith cX5_mostWith 7 (some .int) :: lw_good)) B.pre
  have htg : ∀ w ∈ lw_good, w.before _ s = true := fun w hw => hts w (List.mem_cons_of_mem _ hw)
  have hown : s.vm.findClass RX5 = some m.cls := findClass_of_methodNamed B.named
  have hlocks := B.notSynchronized
  subst hsz
  have hS : va_S (aX ob ad s.heap.size) s.heap s.heap [] := va_S.rf
  have hl := lv_entry ([.ref (ob 10), .int kk, .int ss]) (n := 7) (Nat.le_of_ble_eq_true rfl)
  rw [lg_entry_eq]
  generalize (lg_sl ([.ref (ob 10), .int kk, .int ss]) ++ List.replicate (7 - (lg_sl ([.ref (ob 10), .int kk, .int ss])).length) Slot.unset).toArray = ls at hl ⊢
  have hl : lv_has ls 7 [(0, .ref (ob 10)), (1, .int kk), (2, .int ss)] := hl
  refine lv_iconst (v := 1) hx hb dX5_mostWith_0 (by decide) ?_
  refine lv_iload_n hx hb dX5_mostWith_1 rfl (lv_at hl 1 rfl) ?_
  refine lv_ishl hx hb dX5_mostWith_2 ?_
  refine lv_topi (fun v_1 ev_1 => ?_)
  have i_2 : 1 ≤ v_1.toInt ∧ v_1.toInt ≤ 16 := iv_shl (k := 4) ev_1 (iv_w h_kk (by decide) (by decide)) rfl (by decide)
  refine lv_istore_n (lv' := [(3, .int v_1), (0, .ref (ob 10)), (1, .int kk), (2, .int ss)]) hx hb dX5_mostWith_3 rfl hl (by decide) rfl (fun ls hl => ?_)
  refine lv_aload_n hx hb dX5_mostWith_4 rfl (lv_at hl 1 rfl) ?_
  refine gX_X5_142 hx hb htg hown hK hP dX5_mostWith_5 ?_
  refine lv_istore (lv' := [(4, .int (fv 27)), (3, .int v_1), (0, .ref (ob 10)), (1, .int kk), (2, .int ss)]) hx hb dX5_mostWith_8 hl (by decide) rfl (fun ls hl => ?_)
  refine lv_iload_n hx hb dX5_mostWith_10 rfl (lv_at hl 1 rfl) ?_
  refine lv_istore (lv' := [(5, .int v_1), (4, .int (fv 27)), (3, .int v_1), (0, .ref (ob 10)), (1, .int kk), (2, .int ss)]) hx hb dX5_mostWith_11 hl (by decide) rfl (fun ls hl => ?_)
  refine my_cut (P := fun R9 a9 Q9 => ∀ (n_7 : Nat) (x_3 : Int32) (x_4 : Int32) (ar_5 : Nat → Nat → Int32) (H : Heap) (locs : List Loc) (ls : Array Slot), 32 - x_4.toInt < (n_7 : Int) → (1 ≤ x_4.toInt ∧ x_4.toInt ≤ 32) → rB ar_5 → fA [69] ar ar_5 → va_P (dC, dI) vwCl (wsX ob ad cA fv wd ar_5) H → va_S (aX ob ad s.heap.size) s.heap H locs → lv_has ls 7 [(0, .ref (ob 10)), (2, .int ss), (3, .int v_1), (4, .int x_3), (5, .int x_4)] → W p l e R9 s m a9 below meth c H locs 0 0 Q9 (F0 m 13 ls [])) ?_ (fun hj_9 => ?_)
  · intro n_7
    induction n_7 with
    | zero => intro x_3 x_4 ar_5 H locs ls fu_8 i_x_4 hA_ar_5 fa_6; exfalso; omega
    | succ n_7 ih_7 =>
      intro x_3 x_4 ar_5 H locs ls fu_8 i_x_4 hA_ar_5 fa_6 hP hS hl
      refine lv_iload hx hb dX5_mostWith_13 (lv_at hl 4 rfl) ?_
      refine lv_iconst (v := 2) hx hb dX5_mostWith_15 (by decide) ?_
      refine lv_iload_n hx hb dX5_mostWith_16 rfl (lv_at hl 2 rfl) ?_
      refine lv_imul hx hb dX5_mostWith_17 ?_
      refine lv_topi (fun v_10 ev_10 => ?_)
      have t_11 : v_10.toInt = 2 * v_1.toInt ∧ 2 ≤ v_10.toInt ∧ v_10.toInt ≤ 32 := iv_mulc ev_10 i_2 (by decide) (by decide) (by decide) (by decide)
      refine lv_icmp_ge (tgt := 91) hx hb dX5_mostWith_18 (by decide) (fun c_13 => ?_) (fun c_13 => ?_)
      · skip
        have i_14 : 2 ≤ x_4.toInt ∧ x_4.toInt ≤ 32 := iv_le2 t_11.2 i_x_4 c_13
        refine lv_iload hx hb dX5_mostWith_91 (lv_at hl 3 rfl) ?_
        exact W.iret (v := x_3) hx hb hr (fun t ht hW => ⟨⟨x_3, (fv, wd, ar_5), rfl, ⟨hF_fv, hA_ar_5, (fM_rf [] _), (fA_call (fA_rf [69] _) fa_6 (by decide)), rfl, trivial⟩, ⟨by rw [ht]; exact hP, va_K.moved hW.alike hK⟩⟩, hS.F ht⟩) hS.2.2 dX5_mostWith_93
      · skip
        have i_15 : 1 ≤ x_4.toInt ∧ x_4.toInt ≤ 31 := iv_lt1 i_x_4 t_11.2 (Int32.not_le.mp c_13)
        refine lv_aload_n hx hb dX5_mostWith_21 rfl (lv_at hl 0 rfl) ?_
        refine gX_X5_34 hx hb htg hown hK hP dX5_mostWith_22 ?_
        refine lv_iload hx hb dX5_mostWith_25 (lv_at hl 4 rfl) ?_
        refine lX_69 hx hb hK hP (iv_in i_15 (by decide) (by decide)) dX5_mostWith_27 (fun v_16 ev_16 => ?_)
        have i_17 : 0 ≤ v_16.toInt ∧ v_16.toInt ≤ 255 := ev_16 ▸ hA_ar_5 69 _
        refine lv_iconst (v := 1) hx hb dX5_mostWith_28 (by decide) ?_
        refine lv_iload_n hx hb dX5_mostWith_29 rfl (lv_at hl 1 rfl) ?_
        refine lv_ishl hx hb dX5_mostWith_30 ?_
        refine lv_topi (fun v_18 ev_18 => ?_)
        have i_19 : 1 ≤ v_18.toInt ∧ v_18.toInt ≤ 128 := iv_shl (k := 7) ev_18 (iv_w h_ss (by decide) (by decide)) rfl (by decide)
        refine lv_ior hx hb dX5_mostWith_31 ?_
        refine lv_topi (fun v_20 ev_20 => ?_)
        have i_21 : 0 ≤ v_20.toInt ∧ v_20.toInt ≤ 255 := ix_or ev_20 i_17 (iv_w i_19 (by decide) (by decide))
        refine lv_istore (lv' := [(6, .int v_20), (0, .ref (ob 10)), (2, .int ss), (3, .int v_1), (4, .int x_3), (5, .int x_4)]) hx hb dX5_mostWith_32 hl (by decide) rfl (fun ls hl => ?_)
        refine lv_aload_n hx hb dX5_mostWith_34 rfl (lv_at hl 1 rfl) ?_
        refine gX_X5_34 hx hb htg hown hK hP dX5_mostWith_35 ?_
        refine lv_iload hx hb dX5_mostWith_38 (lv_at hl 5 rfl) ?_
        refine lv_iload_n hx hb dX5_mostWith_40 rfl (lv_at hl 3 rfl) ?_
        refine lv_iadd hx hb dX5_mostWith_41 ?_
        refine lv_topi (fun v_22 ev_22 => ?_)
        have t_23 : v_22.toInt = x_4.toInt + v_1.toInt ∧ 2 ≤ v_22.toInt ∧ v_22.toInt ≤ 47 := iv_add ev_22 i_15 i_2 (by decide) (by decide)
        refine lv_aload_n hx hb dX5_mostWith_42 rfl (lv_at hl 1 rfl) ?_
        refine gX_X5_34 hx hb htg hown hK hP dX5_mostWith_43 ?_
        refine lv_iload hx hb dX5_mostWith_46 (lv_at hl 5 rfl) ?_
        refine lX_69 hx hb hK hP (iv_in i_15 (by decide) (by decide)) dX5_mostWith_48 (fun v_25 ev_25 => ?_)
        obtain rfl : v_16 = v_25 := ev_16.trans ev_25.symm
        refine sX_69 hx hb hK hP hS hd (iv_in t_23.2 (by decide) (by decide)) dX5_mostWith_49 (fun H locs ar_26 ear_26 hP hS => ?_)
        have hA_ar_26 : rB ar_26 := rB_put hA_ar_5 ear_26 i_17
        refine lv_aload_n hx hb dX5_mostWith_50 rfl (lv_at hl 1 rfl) ?_
        refine gX_X5_34 hx hb htg hown hK hP dX5_mostWith_51 ?_
        refine lv_iload hx hb dX5_mostWith_54 (lv_at hl 5 rfl) ?_
        refine lv_iconst (v := 2) hx hb dX5_mostWith_56 (by decide) ?_
        refine lv_iload_n hx hb dX5_mostWith_57 rfl (lv_at hl 3 rfl) ?_
        refine lv_imul hx hb dX5_mostWith_58 ?_
        refine my_ti (y := v_10) ev_10.symm ?_
        refine lv_iadd hx hb dX5_mostWith_59 ?_
        refine lv_topi (fun v_27 ev_27 => ?_)
        have t_28 : v_27.toInt = x_4.toInt + v_10.toInt ∧ 3 ≤ v_27.toInt ∧ v_27.toInt ≤ 63 := iv_add ev_27 i_15 t_11.2 (by decide) (by decide)
        refine lv_iload hx hb dX5_mostWith_60 (lv_at hl 0 rfl) ?_
        refine sX_69 hx hb hK hP hS hd (iv_in t_28.2 (by decide) (by decide)) dX5_mostWith_62 (fun H locs ar_30 ear_30 hP hS => ?_)
        have hA_ar_30 : rB ar_30 := rB_put hA_ar_26 ear_30 i_21
        refine lv_iload hx hb dX5_mostWith_63 (lv_at hl 4 rfl) ?_
        refine lv_aload_n hx hb dX5_mostWith_65 rfl (lv_at hl 1 rfl) ?_
        refine gX_X5_25 hx hb htg hown hK hP dX5_mostWith_66 ?_
        refine lv_iload hx hb dX5_mostWith_69 (lv_at hl 0 rfl) ?_
        refine lX_66 hx hb hK hP (iv_in i_21 (by decide) (by decide)) dX5_mostWith_71 (fun v_31 ev_31 => ?_)
        refine lv_aload_n hx hb dX5_mostWith_72 rfl (lv_at hl 1 rfl) ?_
        refine gX_X5_37 hx hb htg hown hK hP dX5_mostWith_73 ?_
        refine lv_iload hx hb dX5_mostWith_76 (lv_at hl 5 rfl) ?_
        refine lX_70 hx hb hK hP (iv_in i_15 (by decide) (by decide)) dX5_mostWith_78 (fun v_32 ev_32 => ?_)
        refine lv_iadd hx hb dX5_mostWith_79 ?_
        refine lv_topi (fun v_33 ev_33 => ?_)
        refine va_mmin hx hb (hml.trans hl.1.symm) hown (htg (.methodLink RX5 150 Lib.Math.min.name) kw_6_55) (htg (.static Lib.Math.min.name) kw_3_151) (htg (.initialized RJ9) kw_1_16) (htg (.code Lib.Math.min.name Lib.Math.min.code 2 (some .int)) kw_3_152) (Nat.le_of_ble_eq_true rfl) (Nat.le_of_ble_eq_true rfl) (Nat.le_of_ble_eq_true rfl) (Nat.le_of_ble_eq_true rfl) dX5_mostWith_80 ?_
        refine lv_topi (fun v_34 ev_34 => ?_)
        refine lv_istore (lv' := [(4, .int v_34), (6, .int v_20), (0, .ref (ob 10)), (2, .int ss), (3, .int v_1), (5, .int x_4)]) hx hb dX5_mostWith_83 hl (by decide) rfl (fun ls hl => ?_)
        obtain ⟨v_35, ev_35⟩ : ∃ z : Int32, z = x_4 + 1 := ⟨_, rfl⟩
        refine lv_iinc (v := v_35) (lv' := [(5, .int v_35), (4, .int v_34), (6, .int v_20), (0, .ref (ob 10)), (2, .int ss), (3, .int v_1)]) hx hb dX5_mostWith_85 hl (k := 5) rfl (by rw [ev_35]; rfl) (by decide) rfl (fun ls hl => ?_)
        have t_36 : v_35.toInt = x_4.toInt + 1 ∧ 2 ≤ v_35.toInt ∧ v_35.toInt ≤ 32 := iv_addc ev_35 i_15 (by decide) (by decide) (by decide)
        refine lv_goto (tgt := 13) hx hb dX5_mostWith_88 (by decide) ?_
        exact ih_7 v_34 v_35 ar_30 _ _ ls (by omega) (iv_w t_36.2 (by decide) (by decide)) hA_ar_30 (fA_put (fA_put (fA_call (fA_rf [69] _) fa_6 (by decide)) ear_26 (by decide)) ear_30 (by decide)) hP hS (lv_sub hl [3, 4, 5, 1, 0] rfl)
  · skip
    exact hj_9 32 (fv 27) v_1 ar _ _ ls (by omega) (iv_w i_2 (by decide) (by decide)) hA_ar (fA_rf [69] _) hP hS (lv_sub hl [3, 5, 2, 1, 0] rfl)
set_option maxHeartbeats 4000000 in
set_option maxRecDepth 100000 in
theorem x_countNear (l : Launch) (dC : Nat → ClassId) (dI : Nat → Nat → Nat) (sz : Nat) (ob ad : Nat → Nat) (cA : Nat → ClassId) (hd : dX ob ad) (fv : Nat → Int32) (wd : xT) (ar : Nat → Nat → Int32) (hF_fv : rX fv) (hA_ar : rB ar) : Met l yX5_countNear (.code yX5_countNear cX5_countNear 5 none :: lw_good) ({ frames := 3, cells := 0, slots := 0, locals := 61 }) (va_Pc [.ref (ob 10)] (prX dC dI ob ad cA fv wd ar sz)) (va_Qv (fun (u : xS) => rX u.1 ∧ rB u.2.2 ∧ fM [27] fv u.1 ∧ fA [66] ar u.2.2 ∧ u.2.1.2 = wd.2 ∧ True) (enX dC dI ob ad cA) (aX ob ad sz)) 0 0 (aX ob ad sz) := by
  refine Met.ofW (cc := cX5_countNear) (maxL := 5) (ret := none) (by decide) rfl ?_
  intro p e s m args below meth c s₁ B hml hv
  obtain ⟨rfl, hsz, hP, hK⟩ := hv
  have hx := B.exec
  have hb := B.bytes
  have hr := B.returns
  have hts := atoms_spec (ws := (.code yX5_countNear cX5_countNear 5 none :: lw_good)) B.pre
  have htg : ∀ w ∈ lw_good, w.before _ s = true := fun w hw => hts w (List.mem_cons_of_mem _ hw)
  have hown : s.vm.findClass RX5 = some m.cls := findClass_of_methodNamed B.named
  have hlocks := B.notSynchronized
  subst hsz
  have hS : va_S (aX ob ad s.heap.size) s.heap s.heap [] := va_S.rf
  have hl := lv_entry ([.ref (ob 10)]) (n := 5) (Nat.le_of_ble_eq_true rfl)
  rw [lg_entry_eq]
  generalize (lg_sl ([.ref (ob 10)]) ++ List.replicate (5 - (lg_sl ([.ref (ob 10)])).length) Slot.unset).toArray = ls at hl ⊢
  have hl : lv_has ls 5 [(0, .ref (ob 10))] := hl
  refine lv_iconst (v := 0) hx hb dX5_countNear_0 (by decide) ?_
  refine lv_istore_n (lv' := [(1, .int 0), (0, .ref (ob 10))]) hx hb dX5_countNear_1 rfl hl (by decide) rfl (fun ls hl => ?_)
  refine my_cut (P := fun R9 a9 Q9 => ∀ (n_6 : Nat) (x_1 : Int32) (fv_2 : Nat → Int32) (ar_4 : Nat → Nat → Int32) (H : Heap) (locs : List Loc) (ls : Array Slot), 256 - x_1.toInt < (n_6 : Int) → (0 ≤ x_1.toInt ∧ x_1.toInt ≤ 256) → rX fv_2 → fM [27] fv fv_2 → rB ar_4 → fA [66] ar ar_4 → va_P (dC, dI) vwCl (wsX ob ad cA fv_2 wd ar_4) H → va_S (aX ob ad s.heap.size) s.heap H locs → lv_has ls 5 [(0, .ref (ob 10)), (1, .int x_1)] → W p l e R9 s m a9 below meth c H locs 0 0 Q9 (F0 m 2 ls [])) ?_ (fun hj_8 => ?_)
  · intro n_6
    induction n_6 with
    | zero => intro x_1 fv_2 ar_4 H locs ls fu_7 i_x_1 hF_fv_2 fr_3 hA_ar_4 fa_5; exfalso; omega
    | succ n_6 ih_6 =>
      intro x_1 fv_2 ar_4 H locs ls fu_7 i_x_1 hF_fv_2 fr_3 hA_ar_4 fa_5 hP hS hl
      refine lv_iload_n hx hb dX5_countNear_2 rfl (lv_at hl 1 rfl) ?_
      refine lv_iconst (v := 1) hx hb dX5_countNear_3 (by decide) ?_
      refine lv_aload_n hx hb dX5_countNear_4 rfl (lv_at hl 0 rfl) ?_
      refine gX_X5_9 hx hb htg hown hK hP dX5_countNear_5 ?_
      refine gX_X5_102 hx hb htg hown hK hP dX5_countNear_8 ?_
      refine my_ti (y := fv 4) ((fr_3 4 rfl)) ?_
      have i_9 : 0 ≤ (fv 4).toInt ∧ (fv 4).toInt ≤ 8 := hF_fv 4
      refine lv_ishl hx hb dX5_countNear_11 ?_
      refine lv_topi (fun v_10 ev_10 => ?_)
      have i_11 : 1 ≤ v_10.toInt ∧ v_10.toInt ≤ 256 := iv_shl (k := 8) ev_10 (iv_w i_9 (by decide) (by decide)) rfl (by decide)
      refine lv_icmp_ge (tgt := 84) hx hb dX5_countNear_12 (by decide) (fun c_12 => ?_) (fun c_12 => ?_)
      · skip
        have i_13 : 1 ≤ x_1.toInt ∧ x_1.toInt ≤ 256 := iv_le2 i_11 i_x_1 c_12
        exact W.vret hx hb hr (fun t ht hW => ⟨⟨(fv_2, wd, ar_4), rfl, ⟨hF_fv_2, hA_ar_4, (fM_call (fM_rf [27] _) fr_3 (by decide)), (fA_call (fA_rf [66] _) fa_5 (by decide)), rfl, trivial⟩, ⟨by rw [ht]; exact hP, va_K.moved hW.alike hK⟩⟩, hS.F ht⟩) hS.2.2 dX5_countNear_84
      · skip
        have i_14 : 0 ≤ x_1.toInt ∧ x_1.toInt ≤ 255 := iv_lt1 i_x_1 i_11 (Int32.not_le.mp c_12)
        refine lv_lconst (v := 0) hx hb dX5_countNear_15 (by decide) ?_
        refine lv_lstore_n (lv' := [(2, .long 0), (0, .ref (ob 10)), (1, .int x_1)]) hx hb dX5_countNear_16 rfl hl (by decide) rfl (fun ls hl => ?_)
        refine lv_iconst (v := 0) hx hb dX5_countNear_17 (by decide) ?_
        refine lv_istore (lv' := [(4, .int 0), (2, .long 0), (0, .ref (ob 10)), (1, .int x_1)]) hx hb dX5_countNear_18 hl (by decide) rfl (fun ls hl => ?_)
        refine my_cut (P := fun R9 a9 Q9 => ∀ (n_17 : Nat) (x_15 : Int64) (x_16 : Int32) (H : Heap) (locs : List Loc) (ls : Array Slot), 8 - x_16.toInt < (n_17 : Int) → (0 ≤ x_16.toInt ∧ x_16.toInt ≤ 8) → va_P (dC, dI) vwCl (wsX ob ad cA fv_2 wd ar_4) H → va_S (aX ob ad s.heap.size) s.heap H locs → lv_has ls 5 [(0, .ref (ob 10)), (1, .int x_1), (2, .long x_15), (4, .int x_16)] → W p l e R9 s m a9 below meth c H locs 0 0 Q9 (F0 m 20 ls [])) ?_ (fun hj_19 => ?_)
        · intro n_17
          induction n_17 with
          | zero => intro x_15 x_16 H locs ls fu_18 i_x_16; exfalso; omega
          | succ n_17 ih_17 =>
            intro x_15 x_16 H locs ls fu_18 i_x_16 hP hS hl
            refine lv_iload hx hb dX5_countNear_20 (lv_at hl 3 rfl) ?_
            refine lv_aload_n hx hb dX5_countNear_22 rfl (lv_at hl 0 rfl) ?_
            refine gX_X5_9 hx hb htg hown hK hP dX5_countNear_23 ?_
            refine gX_X5_102 hx hb htg hown hK hP dX5_countNear_26 ?_
            refine my_ti (y := fv 4) ((fr_3 4 rfl)) ?_
            refine lv_icmp_ge (tgt := 58) hx hb dX5_countNear_29 (by decide) (fun c_20 => ?_) (fun c_20 => ?_)
            · skip
              refine lv_aload_n hx hb dX5_countNear_58 rfl (lv_at hl 0 rfl) ?_
              refine gX_X5_25 hx hb htg hown hK hP dX5_countNear_59 ?_
              refine lv_iload_n hx hb dX5_countNear_62 rfl (lv_at hl 1 rfl) ?_
              refine lv_lload_n hx hb dX5_countNear_63 rfl (lv_at hl 2 rfl) ?_
              refine va_calli (va_runS (As := [.long x_15]) (rest := [.int x_1, .ref (ad 66)]) ⟨hx, hb, hml, hown, hts⟩ (x_bitCount l H.size x_15) (va_cwS 1 hts (gS kw_6_37 kw_6_38 kw_1_31 kw_6_39) rfl rfl rfl (by decide +kernel) ⟨Nat.le_of_ble_eq_true rfl, Nat.le_of_ble_eq_true rfl⟩) ⟨fun a U g mk q => ⟨q.1, q.2⟩, fun U hU hW => ⟨rfl, congrArg Array.size hU⟩⟩ rfl rfl hl.1 rfl (lv_room (Nat.le_of_ble_eq_true rfl)) dX5_countNear_64 ⟨Nat.le_of_ble_eq_true rfl, Nat.le_of_ble_eq_true rfl⟩) hS (fun q _ h9 => nX_up hS q h9) (nX_up hS) (fun r_36 u t H1 locs ht _ hw hB _ hk1 hS => ?_)
              have hP := my_keepM hP hk1
              generalize H1 = H at hP hS ⊢
              refine sX_66 hx hb hK hP hS hd (iv_in i_14 (by decide) (by decide)) dX5_countNear_67 (fun H locs ar_37 ear_37 hP hS => ?_)
              have hA_ar_37 : rB ar_37 := rB_put hA_ar_4 ear_37 (iv_any _)
              refine lv_aload_n hx hb dX5_countNear_68 rfl (lv_at hl 0 rfl) ?_
              refine lv_aload_n hx hb dX5_countNear_69 rfl (lv_at hl 0 rfl) ?_
              refine gX_X5_25 hx hb htg hown hK hP dX5_countNear_70 ?_
              refine lv_iload_n hx hb dX5_countNear_73 rfl (lv_at hl 1 rfl) ?_
              refine lX_66 hx hb hK hP (iv_in i_14 (by decide) (by decide)) dX5_countNear_74 (fun v_38 ev_38 => ?_)
              refine pX_X5_142 hx hb htg hown hK hP hS hd dX5_countNear_75 (fun H locs fv_39 efv_39 hP hS => ?_)
              have hF_fv_39 : rX fv_39 := rX_put hF_fv_2 efv_39 (iv_any v_38)
              obtain ⟨v_40, ev_40⟩ : ∃ z : Int32, z = x_1 + 1 := ⟨_, rfl⟩
              refine lv_iinc (v := v_40) (lv' := [(1, .int v_40), (0, .ref (ob 10)), (2, .long x_15), (4, .int x_16)]) hx hb dX5_countNear_78 hl (k := 1) rfl (by rw [ev_40]; rfl) (by decide) rfl (fun ls hl => ?_)
              have t_41 : v_40.toInt = x_1.toInt + 1 ∧ 1 ≤ v_40.toInt ∧ v_40.toInt ≤ 256 := iv_addc ev_40 i_14 (by decide) (by decide) (by decide)
              refine lv_goto (tgt := 2) hx hb dX5_countNear_81 (by decide) ?_
              exact ih_6 v_40 fv_39 ar_37 _ _ ls (by omega) (iv_w t_41.2 (by decide) (by decide)) hF_fv_39 (fM_put (fM_call (fM_rf [27] _) fr_3 (by decide)) efv_39 (by decide)) hA_ar_37 (fA_put (fA_call (fA_rf [66] _) fa_5 (by decide)) ear_37 (by decide)) hP hS (lv_sub hl [1, 0] rfl)
            · skip
              have i_21 : 0 ≤ x_16.toInt ∧ x_16.toInt ≤ 7 := iv_lt1 i_x_16 i_9 (Int32.not_le.mp c_20)
              have i_22 : 1 ≤ (fv 4).toInt ∧ (fv 4).toInt ≤ 8 := iv_lt2 i_x_16 i_9 (Int32.not_le.mp c_20)
              refine lv_iload_n hx hb dX5_countNear_32 rfl (lv_at hl 1 rfl) ?_
              refine lv_iload hx hb dX5_countNear_33 (lv_at hl 3 rfl) ?_
              refine lv_ishr hx hb dX5_countNear_35 ?_
              refine lv_topi (fun v_23 ev_23 => ?_)
              refine lv_iconst (v := 1) hx hb dX5_countNear_36 (by decide) ?_
              refine lv_iand hx hb dX5_countNear_37 ?_
              refine lv_topi (fun v_24 ev_24 => ?_)
              have i_25 : 0 ≤ v_24.toInt ∧ v_24.toInt ≤ 1 := iv_1 ev_24
              refine lv_iconst (v := 1) hx hb dX5_countNear_38 (by decide) ?_
              refine my_cut (P := fun R9 a9 Q9 => ∀ (x_31 : Int64) (H : Heap) (locs : List Loc) (ls : Array Slot), va_P (dC, dI) vwCl (wsX ob ad cA fv_2 wd ar_4) H → va_S (aX ob ad s.heap.size) s.heap H locs → lv_has ls 5 [(0, .ref (ob 10)), (1, .int x_1), (2, .long x_31), (4, .int x_16)] → W p l e R9 s m a9 below meth c H locs 0 0 Q9 (F0 m 52 ls [])) ?_ (fun hj_32 => ?_)
              · intro x_31 H locs ls  hP hS hl
                obtain ⟨v_33, ev_33⟩ : ∃ z : Int32, z = x_16 + 1 := ⟨_, rfl⟩
                refine lv_iinc (v := v_33) (lv' := [(4, .int v_33), (0, .ref (ob 10)), (1, .int x_1), (2, .long x_31)]) hx hb dX5_countNear_52 hl (k := 3) rfl (by rw [ev_33]; rfl) (by decide) rfl (fun ls hl => ?_)
                have t_34 : v_33.toInt = x_16.toInt + 1 ∧ 1 ≤ v_33.toInt ∧ v_33.toInt ≤ 8 := iv_addc ev_33 i_21 (by decide) (by decide) (by decide)
                refine lv_goto (tgt := 20) hx hb dX5_countNear_55 (by decide) ?_
                exact ih_17 x_31 v_33 _ _ ls (by omega) (iv_w t_34.2 (by decide) (by decide)) hP hS (lv_sub hl [1, 2, 3, 0] rfl)
              · skip
                refine lv_icmp_ne (tgt := 52) hx hb dX5_countNear_39 (by decide) (fun c_26 => ?_) (fun c_26 => ?_)
                · skip
                  have i_27 : 0 ≤ v_24.toInt ∧ v_24.toInt ≤ 0 := iv_neh i_25 (by decide) c_26
                  exact hj_32 x_15 _ _ ls  hP hS (lv_sub hl [0, 1, 2, 3] rfl)
                · skip
                  have i_28 : 1 ≤ v_24.toInt ∧ v_24.toInt ≤ 1 := iv_eq1 (⟨by decide, by decide⟩ : (1 : Int) ≤ (1 : Int32).toInt ∧ (1 : Int32).toInt ≤ 1) c_26
                  refine lv_lload_n hx hb dX5_countNear_42 rfl (lv_at hl 2 rfl) ?_
                  refine lv_aload_n hx hb dX5_countNear_43 rfl (lv_at hl 0 rfl) ?_
                  refine gX_X5_17 hx hb htg hown hK hP dX5_countNear_44 ?_
                  refine lv_iload hx hb dX5_countNear_47 (lv_at hl 3 rfl) ?_
                  refine lXJ hx hb hK hP (iv_in i_21 (by decide) (by decide)) dX5_countNear_49 (fun w_29 _ => ?_)
                  refine lv_lor hx hb dX5_countNear_50 ?_
                  refine lv_topl (fun w_30 _ => ?_)
                  refine lv_lstore_n (lv' := [(2, .long w_30), (0, .ref (ob 10)), (1, .int x_1), (4, .int x_16)]) hx hb dX5_countNear_51 rfl hl (by decide) rfl (fun ls hl => ?_)
                  exact hj_32 w_30 _ _ ls  hP hS (lv_sub hl [1, 2, 0, 3] rfl)
        · skip
          have z_43 : (0 : Int32).toInt = 0 := by decide
          exact hj_19 9 0 0 _ _ ls (by first | decide | omega) (iv_w (⟨by decide, by decide⟩ : (0 : Int) ≤ (0 : Int32).toInt ∧ (0 : Int32).toInt ≤ 0) (by decide) (by decide)) hP hS (lv_sub hl [2, 3, 1, 0] rfl)
  · skip
    have z_44 : (0 : Int32).toInt = 0 := by decide
    exact hj_8 257 0 fv ar _ _ ls (by first | decide | omega) (iv_w (⟨by decide, by decide⟩ : (0 : Int) ≤ (0 : Int32).toInt ∧ (0 : Int32).toInt ≤ 0) (by decide) (by decide)) hF_fv (fM_rf [27] _) hA_ar (fA_rf [66] _) hP hS (lv_sub hl [1, 0] rfl)

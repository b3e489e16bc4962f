theorem dJ7_fill_53178_0 : decode cJ7_fill_53178 0 = .ok (.iconst 0, 1) := by decide +kernel
theorem dJ7_fill_53178_1 : decode cJ7_fill_53178 1 = .ok (.istore_n 2, 1) := by decide +kernel
theorem dJ7_fill_53178_2 : decode cJ7_fill_53178 2 = .ok (.aload_n 0, 1) := by decide +kernel
theorem dJ7_fill_53178_3 : decode cJ7_fill_53178 3 = .ok (.arraylength, 1) := by decide +kernel
theorem dJ7_fill_53178_4 : decode cJ7_fill_53178 4 = .ok (.istore_n 3, 1) := by decide +kernel
theorem dJ7_fill_53178_5 : decode cJ7_fill_53178 5 = .ok (.iload_n 2, 1) := by decide +kernel
theorem dJ7_fill_53178_6 : decode cJ7_fill_53178 6 = .ok (.iload_n 3, 1) := by decide +kernel
theorem dJ7_fill_53178_7 : decode cJ7_fill_53178 7 = .ok (.if_icmp .ge 13, 3) := by decide +kernel
theorem dJ7_fill_53178_10 : decode cJ7_fill_53178 10 = .ok (.aload_n 0, 1) := by decide +kernel
theorem dJ7_fill_53178_11 : decode cJ7_fill_53178 11 = .ok (.iload_n 2, 1) := by decide +kernel
theorem dJ7_fill_53178_12 : decode cJ7_fill_53178 12 = .ok (.iload_n 1, 1) := by decide +kernel
theorem dJ7_fill_53178_13 : decode cJ7_fill_53178 13 = .ok (.iastore, 1) := by decide +kernel
theorem dJ7_fill_53178_14 : decode cJ7_fill_53178 14 = .ok (.iinc 2 1, 3) := by decide +kernel
theorem dJ7_fill_53178_17 : decode cJ7_fill_53178 17 = .ok (.goto (-12), 3) := by decide +kernel
theorem dJ7_fill_53178_20 : decode cJ7_fill_53178 20 = .ok (.return_, 1) := by decide +kernel
theorem dX0_lineFor_0 : decode cX0_lineFor 0 = .ok (.iconst 0, 1) := by decide +kernel
theorem dX0_lineFor_1 : decode cX0_lineFor 1 = .ok (.istore_n 3, 1) := by decide +kernel
theorem dX0_lineFor_2 : decode cX0_lineFor 2 = .ok (.iload_n 3, 1) := by decide +kernel
theorem dX0_lineFor_3 : decode cX0_lineFor 3 = .ok (.aload_n 0, 1) := by decide +kernel
theorem dX0_lineFor_4 : decode cX0_lineFor 4 = .ok (.getfield 15, 3) := by decide +kernel
theorem dX0_lineFor_7 : decode cX0_lineFor 7 = .ok (.arraylength, 1) := by decide +kernel
theorem dX0_lineFor_8 : decode cX0_lineFor 8 = .ok (.if_icmp .ge 30, 3) := by decide +kernel
theorem dX0_lineFor_38 : decode cX0_lineFor 38 = .ok (.iconst (-1), 1) := by decide +kernel
theorem dX0_lineFor_39 : decode cX0_lineFor 39 = .ok (.ireturn, 1) := by decide +kernel
theorem dX11_feed_0 : decode cX11_feed 0 = .ok (.aload_n 0, 1) := by decide +kernel
theorem dX11_feed_1 : decode cX11_feed 1 = .ok (.getfield 50, 3) := by decide +kernel
theorem dX11_feed_4 : decode cX11_feed 4 = .ok (.bipush 20, 2) := by decide +kernel
theorem dX11_feed_6 : decode cX11_feed 6 = .ok (.iadd, 1) := by decide +kernel
theorem dX11_feed_7 : decode cX11_feed 7 = .ok (.sipush 340, 3) := by decide +kernel
theorem dX11_feed_10 : decode cX11_feed 10 = .ok (.if_icmp .le 5, 3) := by decide +kernel
theorem dX11_feed_15 : decode cX11_feed 15 = .ok (.aload_n 0, 1) := by decide +kernel
theorem dX11_feed_16 : decode cX11_feed 16 = .ok (.iload_n 1, 1) := by decide +kernel
theorem dX11_feed_17 : decode cX11_feed 17 = .ok (.invokevirtual 53, 3) := by decide +kernel
theorem dX11_feed_20 : decode cX11_feed 20 = .ok (.aload_n 0, 1) := by decide +kernel
theorem dX11_feed_21 : decode cX11_feed 21 = .ok (.iload_n 2, 1) := by decide +kernel
theorem dX11_feed_22 : decode cX11_feed 22 = .ok (.invokevirtual 53, 3) := by decide +kernel
theorem dX11_feed_25 : decode cX11_feed 25 = .ok (.aload_n 0, 1) := by decide +kernel
theorem dX11_feed_26 : decode cX11_feed 26 = .ok (.iload_n 3, 1) := by decide +kernel
theorem dX11_feed_27 : decode cX11_feed 27 = .ok (.invokevirtual 53, 3) := by decide +kernel
theorem dX11_feed_30 : decode cX11_feed 30 = .ok (.aload_n 0, 1) := by decide +kernel
theorem dX11_feed_31 : decode cX11_feed 31 = .ok (.iload 4, 2) := by decide +kernel
theorem dX11_feed_33 : decode cX11_feed 33 = .ok (.invokevirtual 53, 3) := by decide +kernel
theorem dX11_feed_36 : decode cX11_feed 36 = .ok (.aload_n 0, 1) := by decide +kernel
theorem dX11_feed_37 : decode cX11_feed 37 = .ok (.iload 5, 2) := by decide +kernel
theorem dX11_feed_39 : decode cX11_feed 39 = .ok (.invokevirtual 53, 3) := by decide +kernel
theorem dX11_feed_42 : decode cX11_feed 42 = .ok (.aload_n 0, 1) := by decide +kernel
theorem dX11_feed_43 : decode cX11_feed 43 = .ok (.getfield 50, 3) := by decide +kernel
theorem dX11_feed_46 : decode cX11_feed 46 = .ok (.ireturn, 1) := by decide +kernel
theorem dX11_morning_0 : decode cX11_morning 0 = .ok (.aload_n 0, 1) := by decide +kernel
theorem dX11_morning_1 : decode cX11_morning 1 = .ok (.getfield 47, 3) := by decide +kernel
theorem dX11_morning_4 : decode cX11_morning 4 = .ok (.aload_n 0, 1) := by decide +kernel
theorem dX11_morning_5 : decode cX11_morning 5 = .ok (.getfield 16, 3) := by decide +kernel
theorem dX11_morning_8 : decode cX11_morning 8 = .ok (.getfield 57, 3) := by decide +kernel
theorem dX11_morning_11 : decode cX11_morning 11 = .ok (.if_icmp .ne 5, 3) := by decide +kernel
theorem dX11_morning_16 : decode cX11_morning 16 = .ok (.aload_n 0, 1) := by decide +kernel
theorem dX11_morning_17 : decode cX11_morning 17 = .ok (.aload_n 0, 1) := by decide +kernel
theorem dX11_morning_18 : decode cX11_morning 18 = .ok (.getfield 16, 3) := by decide +kernel
theorem dX11_morning_21 : decode cX11_morning 21 = .ok (.getfield 57, 3) := by decide +kernel
theorem dX11_morning_24 : decode cX11_morning 24 = .ok (.putfield 47, 3) := by decide +kernel
theorem dX11_morning_27 : decode cX11_morning 27 = .ok (.aload_n 0, 1) := by decide +kernel
theorem dX11_morning_28 : decode cX11_morning 28 = .ok (.getfield 32, 3) := by decide +kernel
theorem dX11_morning_31 : decode cX11_morning 31 = .ok (.iconst (-1), 1) := by decide +kernel
theorem dX11_morning_32 : decode cX11_morning 32 = .ok (.invokevirtual 200, 3) := by decide +kernel
theorem dX11_morning_35 : decode cX11_morning 35 = .ok (.istore_n 1, 1) := by decide +kernel
theorem dX11_morning_36 : decode cX11_morning 36 = .ok (.aload_n 0, 1) := by decide +kernel
theorem dX11_morning_37 : decode cX11_morning 37 = .ok (.getfield 32, 3) := by decide +kernel
theorem dX11_morning_40 : decode cX11_morning 40 = .ok (.invokevirtual 203, 3) := by decide +kernel
theorem dX11_morning_43 : decode cX11_morning 43 = .ok (.iload_n 1, 1) := by decide +kernel
theorem dX11_morning_44 : decode cX11_morning 44 = .ok (.ireturn, 1) := by decide +kernel
theorem dX11_putOnTape_0 : decode cX11_putOnTape 0 = .ok (.bipush 24, 2) := by decide +kernel
theorem dX11_putOnTape_2 : decode cX11_putOnTape 2 = .ok (.istore_n 2, 1) := by decide +kernel
theorem dX11_putOnTape_3 : decode cX11_putOnTape 3 = .ok (.iload_n 2, 1) := by decide +kernel
theorem dX11_putOnTape_4 : decode cX11_putOnTape 4 = .ok (.ifCond .lt 45, 3) := by decide +kernel
theorem dX11_putOnTape_7 : decode cX11_putOnTape 7 = .ok (.aload_n 0, 1) := by decide +kernel
theorem dX11_putOnTape_8 : decode cX11_putOnTape 8 = .ok (.getfield 50, 3) := by decide +kernel
theorem dX11_putOnTape_11 : decode cX11_putOnTape 11 = .ok (.sipush 340, 3) := by decide +kernel
theorem dX11_putOnTape_14 : decode cX11_putOnTape 14 = .ok (.if_icmp .ge 35, 3) := by decide +kernel
theorem dX11_putOnTape_17 : decode cX11_putOnTape 17 = .ok (.aload_n 0, 1) := by decide +kernel
theorem dX11_putOnTape_18 : decode cX11_putOnTape 18 = .ok (.getfield 9, 3) := by decide +kernel
theorem dX11_putOnTape_21 : decode cX11_putOnTape 21 = .ok (.aload_n 0, 1) := by decide +kernel
theorem dX11_putOnTape_22 : decode cX11_putOnTape 22 = .ok (.getfield 50, 3) := by decide +kernel
theorem dX11_putOnTape_25 : decode cX11_putOnTape 25 = .ok (.iload_n 1, 1) := by decide +kernel
theorem dX11_putOnTape_26 : decode cX11_putOnTape 26 = .ok (.iload_n 2, 1) := by decide +kernel
theorem dX11_putOnTape_27 : decode cX11_putOnTape 27 = .ok (.ishr, 1) := by decide +kernel
theorem dX11_putOnTape_28 : decode cX11_putOnTape 28 = .ok (.sipush 255, 3) := by decide +kernel
theorem dX11_putOnTape_31 : decode cX11_putOnTape 31 = .ok (.iand, 1) := by decide +kernel
theorem dX11_putOnTape_32 : decode cX11_putOnTape 32 = .ok (.iastore, 1) := by decide +kernel
theorem dX11_putOnTape_33 : decode cX11_putOnTape 33 = .ok (.aload_n 0, 1) := by decide +kernel
theorem dX11_putOnTape_34 : decode cX11_putOnTape 34 = .ok (.dup, 1) := by decide +kernel
theorem dX11_putOnTape_35 : decode cX11_putOnTape 35 = .ok (.getfield 50, 3) := by decide +kernel
theorem dX11_putOnTape_38 : decode cX11_putOnTape 38 = .ok (.iconst 1, 1) := by decide +kernel
theorem dX11_putOnTape_39 : decode cX11_putOnTape 39 = .ok (.iadd, 1) := by decide +kernel
theorem dX11_putOnTape_40 : decode cX11_putOnTape 40 = .ok (.putfield 50, 3) := by decide +kernel
theorem dX11_putOnTape_43 : decode cX11_putOnTape 43 = .ok (.iinc 2 (-8), 3) := by decide +kernel
theorem dX11_putOnTape_46 : decode cX11_putOnTape 46 = .ok (.goto (-43), 3) := by decide +kernel
theorem dX11_putOnTape_49 : decode cX11_putOnTape 49 = .ok (.return_, 1) := by decide +kernel
theorem dX1_countOnTime_0 : decode cX1_countOnTime 0 = .ok (.iconst 0, 1) := by decide +kernel
theorem dX1_countOnTime_1 : decode cX1_countOnTime 1 = .ok (.istore_n 1, 1) := by decide +kernel
theorem dX1_countOnTime_2 : decode cX1_countOnTime 2 = .ok (.iconst 0, 1) := by decide +kernel
theorem dX1_countOnTime_3 : decode cX1_countOnTime 3 = .ok (.istore_n 2, 1) := by decide +kernel
theorem dX1_countOnTime_4 : decode cX1_countOnTime 4 = .ok (.iload_n 2, 1) := by decide +kernel
theorem dX1_countOnTime_5 : decode cX1_countOnTime 5 = .ok (.aload_n 0, 1) := by decide +kernel
theorem dX1_countOnTime_6 : decode cX1_countOnTime 6 = .ok (.getfield 9, 3) := by decide +kernel
theorem dX1_countOnTime_9 : decode cX1_countOnTime 9 = .ok (.getfield 129, 3) := by decide +kernel
theorem dX1_countOnTime_12 : decode cX1_countOnTime 12 = .ok (.getfield 133, 3) := by decide +kernel
theorem dX1_countOnTime_15 : decode cX1_countOnTime 15 = .ok (.if_icmp .ge 43, 3) := by decide +kernel
theorem dX1_countOnTime_58 : decode cX1_countOnTime 58 = .ok (.iload_n 1, 1) := by decide +kernel
theorem dX1_countOnTime_59 : decode cX1_countOnTime 59 = .ok (.ireturn, 1) := by decide +kernel
theorem dX1_lead_0 : decode cX1_lead 0 = .ok (.aload_n 0, 1) := by decide +kernel
theorem dX1_lead_1 : decode cX1_lead 1 = .ok (.iload_n 1, 1) := by decide +kernel
theorem dX1_lead_2 : decode cX1_lead 2 = .ok (.putfield 82, 3) := by decide +kernel
theorem dX1_lead_5 : decode cX1_lead 5 = .ok (.aload_n 0, 1) := by decide +kernel
theorem dX1_lead_6 : decode cX1_lead 6 = .ok (.aload_n 0, 1) := by decide +kernel
theorem dX1_lead_7 : decode cX1_lead 7 = .ok (.getfield 9, 3) := by decide +kernel
theorem dX1_lead_10 : decode cX1_lead 10 = .ok (.invokevirtual 86, 3) := by decide +kernel
theorem dX1_lead_13 : decode cX1_lead 13 = .ok (.putfield 30, 3) := by decide +kernel
theorem dX1_lead_16 : decode cX1_lead 16 = .ok (.aload_n 0, 1) := by decide +kernel
theorem dX1_lead_17 : decode cX1_lead 17 = .ok (.aload_n 0, 1) := by decide +kernel
theorem dX1_lead_18 : decode cX1_lead 18 = .ok (.getfield 9, 3) := by decide +kernel
theorem dX1_lead_21 : decode cX1_lead 21 = .ok (.getfield 90, 3) := by decide +kernel
theorem dX1_lead_24 : decode cX1_lead 24 = .ok (.putfield 93, 3) := by decide +kernel
theorem dX1_lead_27 : decode cX1_lead 27 = .ok (.aload_n 0, 1) := by decide +kernel
theorem dX1_lead_28 : decode cX1_lead 28 = .ok (.getfield 79, 3) := by decide +kernel
theorem dX1_lead_31 : decode cX1_lead 31 = .ok (.iconst 0, 1) := by decide +kernel
theorem dX1_lead_32 : decode cX1_lead 32 = .ok (.invokestatic 94, 3) := by decide +kernel
theorem dX1_lead_35 : decode cX1_lead 35 = .ok (.aload_n 0, 1) := by decide +kernel
theorem dX1_lead_36 : decode cX1_lead 36 = .ok (.invokevirtual 100, 3) := by decide +kernel
theorem dX1_lead_39 : decode cX1_lead 39 = .ok (.aload_n 0, 1) := by decide +kernel
theorem dX1_lead_40 : decode cX1_lead 40 = .ok (.invokevirtual 103, 3) := by decide +kernel
theorem dX1_lead_43 : decode cX1_lead 43 = .ok (.aload_n 0, 1) := by decide +kernel
theorem dX1_lead_44 : decode cX1_lead 44 = .ok (.invokevirtual 106, 3) := by decide +kernel
theorem dX1_lead_47 : decode cX1_lead 47 = .ok (.aload_n 0, 1) := by decide +kernel
theorem dX1_lead_48 : decode cX1_lead 48 = .ok (.getfield 20, 3) := by decide +kernel
theorem dX1_lead_51 : decode cX1_lead 51 = .ok (.iload_n 1, 1) := by decide +kernel
theorem dX1_lead_52 : decode cX1_lead 52 = .ok (.invokevirtual 109, 3) := by decide +kernel
theorem dX1_lead_55 : decode cX1_lead 55 = .ok (.iconst 0, 1) := by decide +kernel
theorem dX1_lead_56 : decode cX1_lead 56 = .ok (.istore_n 2, 1) := by decide +kernel
theorem dX1_lead_57 : decode cX1_lead 57 = .ok (.iload_n 2, 1) := by decide +kernel
theorem dX1_lead_58 : decode cX1_lead 58 = .ok (.sipush 840, 3) := by decide +kernel
theorem dX1_lead_61 : decode cX1_lead 61 = .ok (.if_icmp .ge 38, 3) := by decide +kernel
theorem dX1_lead_64 : decode cX1_lead 64 = .ok (.aload_n 0, 1) := by decide +kernel
theorem dX1_lead_65 : decode cX1_lead 65 = .ok (.getfield 79, 3) := by decide +kernel
theorem dX1_lead_68 : decode cX1_lead 68 = .ok (.iload_n 2, 1) := by decide +kernel
theorem dX1_lead_69 : decode cX1_lead 69 = .ok (.iaload, 1) := by decide +kernel
theorem dX1_lead_70 : decode cX1_lead 70 = .ok (.ifCond .eq 23, 3) := by decide +kernel
theorem dX1_lead_93 : decode cX1_lead 93 = .ok (.iinc 2 1, 3) := by decide +kernel
theorem dX1_lead_96 : decode cX1_lead 96 = .ok (.goto (-39), 3) := by decide +kernel
theorem dX1_lead_99 : decode cX1_lead 99 = .ok (.aload_n 0, 1) := by decide +kernel
theorem dX1_lead_100 : decode cX1_lead 100 = .ok (.invokevirtual 125, 3) := by decide +kernel
theorem dX1_lead_103 : decode cX1_lead 103 = .ok (.ireturn, 1) := by decide +kernel
theorem dX1_readyPeople_0 : decode cX1_readyPeople 0 = .ok (.iconst 0, 1) := by decide +kernel
theorem dX1_readyPeople_1 : decode cX1_readyPeople 1 = .ok (.istore_n 1, 1) := by decide +kernel
theorem dX1_readyPeople_2 : decode cX1_readyPeople 2 = .ok (.iload_n 1, 1) := by decide +kernel
theorem dX1_readyPeople_3 : decode cX1_readyPeople 3 = .ok (.aload_n 0, 1) := by decide +kernel
theorem dX1_readyPeople_4 : decode cX1_readyPeople 4 = .ok (.getfield 9, 3) := by decide +kernel
theorem dX1_readyPeople_7 : decode cX1_readyPeople 7 = .ok (.getfield 129, 3) := by decide +kernel
theorem dX1_readyPeople_10 : decode cX1_readyPeople 10 = .ok (.getfield 133, 3) := by decide +kernel
theorem dX1_readyPeople_13 : decode cX1_readyPeople 13 = .ok (.if_icmp .ge 110, 3) := by decide +kernel
theorem dX1_readyPeople_123 : decode cX1_readyPeople 123 = .ok (.return_, 1) := by decide +kernel
theorem dX1_readyTrips_0 : decode cX1_readyTrips 0 = .ok (.iconst 0, 1) := by decide +kernel
theorem dX1_readyTrips_1 : decode cX1_readyTrips 1 = .ok (.istore_n 1, 1) := by decide +kernel
theorem dX1_readyTrips_2 : decode cX1_readyTrips 2 = .ok (.iload_n 1, 1) := by decide +kernel
theorem dX1_readyTrips_3 : decode cX1_readyTrips 3 = .ok (.aload_n 0, 1) := by decide +kernel
theorem dX1_readyTrips_4 : decode cX1_readyTrips 4 = .ok (.getfield 9, 3) := by decide +kernel
theorem dX1_readyTrips_7 : decode cX1_readyTrips 7 = .ok (.getfield 157, 3) := by decide +kernel
theorem dX1_readyTrips_10 : decode cX1_readyTrips 10 = .ok (.getfield 161, 3) := by decide +kernel
theorem dX1_readyTrips_13 : decode cX1_readyTrips 13 = .ok (.if_icmp .ge 40, 3) := by decide +kernel
theorem dX1_readyTrips_53 : decode cX1_readyTrips 53 = .ok (.return_, 1) := by decide +kernel
theorem dX1_readyWheels_0 : decode cX1_readyWheels 0 = .ok (.iconst 0, 1) := by decide +kernel
theorem dX1_readyWheels_1 : decode cX1_readyWheels 1 = .ok (.istore_n 1, 1) := by decide +kernel
theorem dX1_readyWheels_2 : decode cX1_readyWheels 2 = .ok (.iload_n 1, 1) := by decide +kernel
theorem dX1_readyWheels_3 : decode cX1_readyWheels 3 = .ok (.aload_n 0, 1) := by decide +kernel
theorem dX1_readyWheels_4 : decode cX1_readyWheels 4 = .ok (.getfield 9, 3) := by decide +kernel
theorem dX1_readyWheels_7 : decode cX1_readyWheels 7 = .ok (.getfield 148, 3) := by decide +kernel
theorem dX1_readyWheels_10 : decode cX1_readyWheels 10 = .ok (.getfield 152, 3) := by decide +kernel
theorem dX1_readyWheels_13 : decode cX1_readyWheels 13 = .ok (.if_icmp .ge 66, 3) := by decide +kernel
theorem dX1_readyWheels_79 : decode cX1_readyWheels 79 = .ok (.return_, 1) := by decide +kernel
theorem dX1_settle_0 : decode cX1_settle 0 = .ok (.aload_n 0, 1) := by decide +kernel
theorem dX1_settle_1 : decode cX1_settle 1 = .ok (.getfield 9, 3) := by decide +kernel
theorem dX1_settle_4 : decode cX1_settle 4 = .ok (.aload_n 0, 1) := by decide +kernel
theorem dX1_settle_5 : decode cX1_settle 5 = .ok (.getfield 93, 3) := by decide +kernel
theorem dX1_settle_8 : decode cX1_settle 8 = .ok (.putfield 90, 3) := by decide +kernel
theorem dX1_settle_11 : decode cX1_settle 11 = .ok (.aload_n 0, 1) := by decide +kernel
theorem dX1_settle_12 : decode cX1_settle 12 = .ok (.getfield 30, 3) := by decide +kernel
theorem dX1_settle_15 : decode cX1_settle 15 = .ok (.bipush 6, 2) := by decide +kernel
theorem dX1_settle_17 : decode cX1_settle 17 = .ok (.aload_n 0, 1) := by decide +kernel
theorem dX1_settle_18 : decode cX1_settle 18 = .ok (.getfield 9, 3) := by decide +kernel
theorem dX1_settle_21 : decode cX1_settle 21 = .ok (.getfield 281, 3) := by decide +kernel
theorem dX1_settle_24 : decode cX1_settle 24 = .ok (.invokevirtual 284, 3) := by decide +kernel
theorem dX1_settle_27 : decode cX1_settle 27 = .ok (.istore_n 1, 1) := by decide +kernel
theorem dX1_settle_28 : decode cX1_settle 28 = .ok (.iload_n 1, 1) := by decide +kernel
theorem dX1_settle_29 : decode cX1_settle 29 = .ok (.iconst (-1), 1) := by decide +kernel
theorem dX1_settle_30 : decode cX1_settle 30 = .ok (.if_icmp .ne 7, 3) := by decide +kernel
theorem dX1_settle_33 : decode cX1_settle 33 = .ok (.iconst 0, 1) := by decide +kernel
theorem dX1_settle_34 : decode cX1_settle 34 = .ok (.goto 12, 3) := by decide +kernel
theorem dX1_settle_46 : decode cX1_settle 46 = .ok (.istore_n 2, 1) := by decide +kernel
theorem dX1_settle_47 : decode cX1_settle 47 = .ok (.iconst 0, 1) := by decide +kernel
theorem dX1_settle_48 : decode cX1_settle 48 = .ok (.istore_n 3, 1) := by decide +kernel
theorem dX1_settle_49 : decode cX1_settle 49 = .ok (.iload_n 3, 1) := by decide +kernel
theorem dX1_settle_50 : decode cX1_settle 50 = .ok (.aload_n 0, 1) := by decide +kernel
theorem dX1_settle_51 : decode cX1_settle 51 = .ok (.getfield 9, 3) := by decide +kernel
theorem dX1_settle_54 : decode cX1_settle 54 = .ok (.getfield 129, 3) := by decide +kernel
theorem dX1_settle_57 : decode cX1_settle 57 = .ok (.getfield 133, 3) := by decide +kernel
theorem dX1_settle_60 : decode cX1_settle 60 = .ok (.if_icmp .ge 15, 3) := by decide +kernel
theorem dX1_settle_75 : decode cX1_settle 75 = .ok (.iconst 0, 1) := by decide +kernel
theorem dX1_settle_76 : decode cX1_settle 76 = .ok (.istore_n 3, 1) := by decide +kernel
theorem dX1_settle_77 : decode cX1_settle 77 = .ok (.iload_n 3, 1) := by decide +kernel
theorem dX1_settle_78 : decode cX1_settle 78 = .ok (.aload_n 0, 1) := by decide +kernel
theorem dX1_settle_79 : decode cX1_settle 79 = .ok (.getfield 9, 3) := by decide +kernel
theorem dX1_settle_82 : decode cX1_settle 82 = .ok (.getfield 148, 3) := by decide +kernel
theorem dX1_settle_85 : decode cX1_settle 85 = .ok (.getfield 152, 3) := by decide +kernel
theorem dX1_settle_88 : decode cX1_settle 88 = .ok (.if_icmp .ge 81, 3) := by decide +kernel
theorem dX1_settle_169 : decode cX1_settle 169 = .ok (.iconst 0, 1) := by decide +kernel
theorem dX1_settle_170 : decode cX1_settle 170 = .ok (.istore_n 3, 1) := by decide +kernel
theorem dX1_settle_171 : decode cX1_settle 171 = .ok (.iload_n 3, 1) := by decide +kernel
theorem dX1_settle_172 : decode cX1_settle 172 = .ok (.aload_n 0, 1) := by decide +kernel
theorem dX1_settle_173 : decode cX1_settle 173 = .ok (.getfield 9, 3) := by decide +kernel
theorem dX1_settle_176 : decode cX1_settle 176 = .ok (.getfield 157, 3) := by decide +kernel
theorem dX1_settle_179 : decode cX1_settle 179 = .ok (.getfield 161, 3) := by decide +kernel
theorem dX1_settle_182 : decode cX1_settle 182 = .ok (.if_icmp .ge 27, 3) := by decide +kernel
theorem dX1_settle_209 : decode cX1_settle 209 = .ok (.return_, 1) := by decide +kernel
theorem dX7_lawToday_0 : decode cX7_lawToday 0 = .ok (.aload_n 0, 1) := by decide +kernel
theorem dX7_lawToday_1 : decode cX7_lawToday 1 = .ok (.getfield 55, 3) := by decide +kernel
theorem dX7_lawToday_4 : decode cX7_lawToday 4 = .ok (.astore_n 1, 1) := by decide +kernel
theorem dX7_lawToday_5 : decode cX7_lawToday 5 = .ok (.iconst (-1), 1) := by decide +kernel
theorem dX7_lawToday_6 : decode cX7_lawToday 6 = .ok (.istore_n 2, 1) := by decide +kernel
theorem dX7_lawToday_7 : decode cX7_lawToday 7 = .ok (.iconst 0, 1) := by decide +kernel
theorem dX7_lawToday_8 : decode cX7_lawToday 8 = .ok (.istore_n 3, 1) := by decide +kernel
theorem dX7_lawToday_9 : decode cX7_lawToday 9 = .ok (.iload_n 3, 1) := by decide +kernel
theorem dX7_lawToday_10 : decode cX7_lawToday 10 = .ok (.aload_n 0, 1) := by decide +kernel
theorem dX7_lawToday_11 : decode cX7_lawToday 11 = .ok (.getfield 46, 3) := by decide +kernel
theorem dX7_lawToday_14 : decode cX7_lawToday 14 = .ok (.invokevirtual 101, 3) := by decide +kernel
theorem dX7_lawToday_17 : decode cX7_lawToday 17 = .ok (.if_icmp .ge 57, 3) := by decide +kernel
theorem dX7_lawToday_74 : decode cX7_lawToday 74 = .ok (.aload_n 1, 1) := by decide +kernel
theorem dX7_lawToday_75 : decode cX7_lawToday 75 = .ok (.areturn, 1) := by decide +kernel
theorem dX9_layOut_0 : decode cX9_layOut 0 = .ok (.aload_n 0, 1) := by decide +kernel
theorem dX9_layOut_1 : decode cX9_layOut 1 = .ok (.getfield 9, 3) := by decide +kernel
theorem dX9_layOut_4 : decode cX9_layOut 4 = .ok (.aload_n 0, 1) := by decide +kernel
theorem dX9_layOut_5 : decode cX9_layOut 5 = .ok (.getfield 9, 3) := by decide +kernel
theorem dX9_layOut_8 : decode cX9_layOut 8 = .ok (.getfield 41, 3) := by decide +kernel
theorem dX9_layOut_11 : decode cX9_layOut 11 = .ok (.invokevirtual 47, 3) := by decide +kernel
theorem dX9_layOut_14 : decode cX9_layOut 14 = .ok (.istore_n 2, 1) := by decide +kernel
theorem dX9_layOut_15 : decode cX9_layOut 15 = .ok (.aload_n 0, 1) := by decide +kernel
theorem dX9_layOut_16 : decode cX9_layOut 16 = .ok (.iconst 0, 1) := by decide +kernel
theorem dX9_layOut_17 : decode cX9_layOut 17 = .ok (.putfield 51, 3) := by decide +kernel
theorem dX9_layOut_20 : decode cX9_layOut 20 = .ok (.iconst 0, 1) := by decide +kernel
theorem dX9_layOut_21 : decode cX9_layOut 21 = .ok (.istore_n 3, 1) := by decide +kernel
theorem dX9_layOut_22 : decode cX9_layOut 22 = .ok (.iload_n 3, 1) := by decide +kernel
theorem dX9_layOut_23 : decode cX9_layOut 23 = .ok (.aload_n 0, 1) := by decide +kernel
theorem dX9_layOut_24 : decode cX9_layOut 24 = .ok (.getfield 9, 3) := by decide +kernel
theorem dX9_layOut_27 : decode cX9_layOut 27 = .ok (.getfield 54, 3) := by decide +kernel
theorem dX9_layOut_30 : decode cX9_layOut 30 = .ok (.getfield 58, 3) := by decide +kernel
theorem dX9_layOut_33 : decode cX9_layOut 33 = .ok (.if_icmp .ge 76, 3) := by decide +kernel
theorem dX9_layOut_109 : decode cX9_layOut 109 = .ok (.iconst 0, 1) := by decide +kernel
theorem dX9_layOut_110 : decode cX9_layOut 110 = .ok (.istore_n 3, 1) := by decide +kernel
theorem dX9_layOut_111 : decode cX9_layOut 111 = .ok (.iload_n 3, 1) := by decide +kernel
theorem dX9_layOut_112 : decode cX9_layOut 112 = .ok (.aload_n 0, 1) := by decide +kernel
theorem dX9_layOut_113 : decode cX9_layOut 113 = .ok (.getfield 51, 3) := by decide +kernel
theorem dX9_layOut_116 : decode cX9_layOut 116 = .ok (.if_icmp .ge 110, 3) := by decide +kernel
theorem dX9_layOut_226 : decode cX9_layOut 226 = .ok (.return_, 1) := by decide +kernel
set_option maxHeartbeats 4000000 in
set_option maxRecDepth 100000 in
theorem c_put_0 (l : Launch) (dC : Nat → ClassId) (dI : Nat → Nat → Nat) (sz : Nat) (a : Int32) (fT : Nat → Int32) (xX : Nat) (xT : Nat) (xW : Nat) (xR : Nat) (xM : Nat) (xS : Nat) (cT : ClassId) : Met l yX11_putOnTape (.code yX11_putOnTape cX11_putOnTape 3 none :: lw_good) ({ frames := 2, cells := 0, slots := 0, locals := 60 }) (va_Pc [.ref xX, .int a] (fun U => U.heap.size = sz ∧ va_P (dC, dI) vwCl [(xX, .inr (11, [.ref xT, .int 0, .ref xW, .ref xR, .ref xM, .ref xS, .int (-1), .int 0, .int (-1)])), (xT, .inl (cT, 340, .inl fT))] U.heap ∧ va_K (dC, dI) vwCl [(cT, .int)] U ∧ va_D (fun _ => True) [(xX, .inr (11, [.ref xT, .int 0, .ref xW, .ref xR, .ref xM, .ref xS, .int (-1), .int 0, .int (-1)])), (xT, .inl (cT, 340, .inl fT))])) (va_Qv (fun (_ : Unit) => True) (fun (_ : Unit) (t : State) => ∃ (gT : Nat → Int32), va_P (dC, dI) vwCl [(xX, .inr (11, [.ref xT, .int 4, .ref xW, .ref xR, .ref xM, .ref xS, .int (-1), .int 0, .int (-1)])), (xT, .inl (cT, 340, .inl gT))] t.heap ∧ va_K (dC, dI) vwCl [(cT, .int)] t ∧ va_D (va_A [(xX, .inr (11, [.ref xT, .int 0, .ref xW, .ref xR, .ref xM, .ref xS, .int (-1), .int 0, .int (-1)])), (xT, .inl (cT, 340, .inl fT))] sz) [(xX, .inr (11, [.ref xT, .int 4, .ref xW, .ref xR, .ref xM, .ref xS, .int (-1), .int 0, .int (-1)])), (xT, .inl (cT, 340, .inl gT))]) (va_A [(xX, .inr (11, [.ref xT, .int 0, .ref xW, .ref xR, .ref xM, .ref xS, .int (-1), .int 0, .int (-1)])), (xT, .inl (cT, 340, .inl fT))] sz)) 0 0 (va_A [(xX, .inr (11, [.ref xT, .int 0, .ref xW, .ref xR, .ref xM, .ref xS, .int (-1), .int 0, .int (-1)])), (xT, .inl (cT, 340, .inl fT))] sz) := by
  refine Met.ofW (cc := cX11_putOnTape) (maxL := 3) (ret := none) (by decide) rfl ?_
  intro p e s m args below meth c s₁ B hml hv
  obtain ⟨rfl, hsz, hP, hK, hD0⟩ := hv
  have hx := B.exec
  have hb := B.bytes
  have hr := B.returns
  have hts := atoms_spec (ws := (.code yX11_putOnTape cX11_putOnTape 3 none :: lw_good)) B.pre
  have hown : s.vm.findClass RX11 = some m.cls := findClass_of_methodNamed B.named
  have hlocks := B.notSynchronized
  subst hsz
  have hD := hD0.self (sz := s.heap.size)
  generalize hAe : va_A [(xX, .inr (11, [.ref xT, .int 0, .ref xW, .ref xR, .ref xM, .ref xS, .int (-1), .int 0, .int (-1)])), (xT, .inl (cT, 340, .inl fT))] s.heap.size = A at hD ⊢
  have hA : ∀ q : Nat, s.heap.size ≤ q → A q := fun q h => by rw [← hAe]; exact Or.inr h
  have hS : va_S A s.heap s.heap [] := va_S.rf
  have hP : va_P (dC, dI) vwCl [(xX, .inr (11, [.ref xT, .int 0, .ref xW, .ref xR, .ref xM, .ref xS, .int (-1), .int 0, .int (-1)])), (xT, .inl (cT, 340, .inl fT))] s.heap := hP
  have hl := lv_entry ([.ref xX, .int a]) (n := 3) (Nat.le_of_ble_eq_true rfl)
  rw [lg_entry_eq]
  generalize (lg_sl ([.ref xX, .int a]) ++ List.replicate (3 - (lg_sl ([.ref xX, .int a])).length) Slot.unset).toArray = ls at hl ⊢
  have hl : lv_has ls 3 [(0, .ref xX), (1, .int a)] := hl
  refine lv_bipush (v := 24) hx hb dX11_putOnTape_0 (by decide) ?_
  refine lv_istore_n (lv' := [(2, .int 24), (0, .ref xX), (1, .int a)]) hx hb dX11_putOnTape_2 rfl hl (by decide) rfl (fun ls hl => ?_)
  refine lv_iload_n hx hb dX11_putOnTape_3 rfl (lv_at hl 0 rfl) ?_
  refine lv_if_lt (tgt := 49) hx hb dX11_putOnTape_4 (by decide) (fun c_1 => ?_) (fun c_1 => ?_)
  · exact absurd c_1 (by decide)
  refine lv_aload_n hx hb dX11_putOnTape_7 rfl (lv_at hl 1 rfl) ?_
  refine va_get (D := (dC, dI)) (ci := 11) (v := .int 0) (C := RX11) (T := TX11) (N := 9) hx hb hts iCX11 hown hK hP 0 rfl rfl 1 (by decide) (hts (.fieldLink RX11 50 "WalkingTown" "tapeSize" "I") (List.mem_cons_of_mem _ kw_3_92)) (fun _ h9 => h9) rfl dX11_putOnTape_8 ?_
  refine lv_sipush (v := 340) hx hb dX11_putOnTape_11 (by decide) ?_
  refine lv_icmp_ge (tgt := 49) hx hb dX11_putOnTape_14 (by decide) (fun c_2 => ?_) (fun c_2 => ?_)
  · exact absurd c_2 (by decide)
  refine lv_aload_n hx hb dX11_putOnTape_17 rfl (lv_at hl 1 rfl) ?_
  refine va_get (D := (dC, dI)) (ci := 11) (v := .ref xT) (C := RX11) (T := TX11) (N := 9) hx hb hts iCX11 hown hK hP 0 rfl rfl 0 (by decide) (hts (.fieldLink RX11 9 "WalkingTown" "tape" "[I") (List.mem_cons_of_mem _ kw_3_91)) (fun _ h9 => h9) rfl dX11_putOnTape_18 ?_
  refine lv_aload_n hx hb dX11_putOnTape_21 rfl (lv_at hl 1 rfl) ?_
  refine va_get (D := (dC, dI)) (ci := 11) (v := .int 0) (C := RX11) (T := TX11) (N := 9) hx hb hts iCX11 hown hK hP 0 rfl rfl 1 (by decide) (hts (.fieldLink RX11 50 "WalkingTown" "tapeSize" "I") (List.mem_cons_of_mem _ kw_3_92)) (fun _ h9 => h9) rfl dX11_putOnTape_22 ?_
  refine lv_iload_n hx hb dX11_putOnTape_25 rfl (lv_at hl 2 rfl) ?_
  refine lv_iload_n hx hb dX11_putOnTape_26 rfl (lv_at hl 0 rfl) ?_
  refine lv_ishr hx hb dX11_putOnTape_27 ?_
  refine lv_topi (fun v_3 ev_3 => ?_)
  refine lv_sipush (v := 255) hx hb dX11_putOnTape_28 (by decide) ?_
  refine lv_iand hx hb dX11_putOnTape_31 ?_
  refine lv_topi (fun v_4 ev_4 => ?_)
  refine va_iast hx hb hK hP hD hS 1 0 rfl rfl (by unfold vp_in; decide) dX11_putOnTape_32 (fun H locs hP hD hS => ?_)
  have hP : va_P (dC, dI) vwCl [(xX, .inr (11, [.ref xT, .int 0, .ref xW, .ref xR, .ref xM, .ref xS, .int (-1), .int 0, .int (-1)])), (xT, .inl (cT, 340, .inl (upd fT (0 : Int32).toNatClampNeg v_4)))] H := hP
  have hD : va_D A [(xX, .inr (11, [.ref xT, .int 0, .ref xW, .ref xR, .ref xM, .ref xS, .int (-1), .int 0, .int (-1)])), (xT, .inl (cT, 340, .inl (upd fT (0 : Int32).toNatClampNeg v_4)))] := hD
  obtain ⟨f_5, ef_5⟩ : ∃ z : Nat → Int32, z = (upd fT (0 : Int32).toNatClampNeg v_4) := ⟨_, rfl⟩
  rw [← ef_5] at hP hD
  refine lv_aload_n hx hb dX11_putOnTape_33 rfl (lv_at hl 1 rfl) ?_
  refine lv_dup hx hb dX11_putOnTape_34 rfl ?_
  refine va_get (D := (dC, dI)) (ci := 11) (v := .int 0) (C := RX11) (T := TX11) (N := 9) hx hb hts iCX11 hown hK hP 0 rfl rfl 1 (by decide) (hts (.fieldLink RX11 50 "WalkingTown" "tapeSize" "I") (List.mem_cons_of_mem _ kw_3_92)) (fun _ h9 => h9) rfl dX11_putOnTape_35 ?_
  refine lv_iconst (v := 1) hx hb dX11_putOnTape_38 (by decide) ?_
  refine lv_iadd hx hb dX11_putOnTape_39 ?_
  refine my_ti (y := 1) (by decide) ?_
  refine va_put (D := (dC, dI)) (ci := 11) (v := .int 1) (ty := .int) (C := RX11) (T := TX11) (N := 9) hx hb hts iCX11 tyX11 tyX11_ok nmX11 hown hK hP hD hS 0 rfl rfl 1 (by decide) (hts (.fieldLink RX11 50 "WalkingTown" "tapeSize" "I") (List.mem_cons_of_mem _ kw_3_92)) (fun _ h9 => h9) rfl (by decide +kernel) rfl rfl (Nat.le_of_ble_eq_true rfl) dX11_putOnTape_40 (fun H locs hP hD hS => ?_)
  have hP : va_P (dC, dI) vwCl [(xX, .inr (11, [.ref xT, .int 1, .ref xW, .ref xR, .ref xM, .ref xS, .int (-1), .int 0, .int (-1)])), (xT, .inl (cT, 340, .inl f_5))] H := hP
  have hD : va_D A [(xX, .inr (11, [.ref xT, .int 1, .ref xW, .ref xR, .ref xM, .ref xS, .int (-1), .int 0, .int (-1)])), (xT, .inl (cT, 340, .inl f_5))] := hD
  refine lv_iinc (v := 16) (lv' := [(2, .int 16), (0, .ref xX), (1, .int a)]) hx hb dX11_putOnTape_43 hl (k := 0) rfl (by decide) (by decide) rfl (fun ls hl => ?_)
  refine lv_goto (tgt := 3) hx hb dX11_putOnTape_46 (by decide) ?_
  refine lv_iload_n hx hb dX11_putOnTape_3 rfl (lv_at hl 0 rfl) ?_
  refine lv_if_lt (tgt := 49) hx hb dX11_putOnTape_4 (by decide) (fun c_6 => ?_) (fun c_6 => ?_)
  · exact absurd c_6 (by decide)
  refine lv_aload_n hx hb dX11_putOnTape_7 rfl (lv_at hl 1 rfl) ?_
  refine va_get (D := (dC, dI)) (ci := 11) (v := .int 1) (C := RX11) (T := TX11) (N := 9) hx hb hts iCX11 hown hK hP 0 rfl rfl 1 (by decide) (hts (.fieldLink RX11 50 "WalkingTown" "tapeSize" "I") (List.mem_cons_of_mem _ kw_3_92)) (fun _ h9 => h9) rfl dX11_putOnTape_8 ?_
  refine lv_sipush (v := 340) hx hb dX11_putOnTape_11 (by decide) ?_
  refine lv_icmp_ge (tgt := 49) hx hb dX11_putOnTape_14 (by decide) (fun c_7 => ?_) (fun c_7 => ?_)
  · exact absurd c_7 (by decide)
  refine lv_aload_n hx hb dX11_putOnTape_17 rfl (lv_at hl 1 rfl) ?_
  refine va_get (D := (dC, dI)) (ci := 11) (v := .ref xT) (C := RX11) (T := TX11) (N := 9) hx hb hts iCX11 hown hK hP 0 rfl rfl 0 (by decide) (hts (.fieldLink RX11 9 "WalkingTown" "tape" "[I") (List.mem_cons_of_mem _ kw_3_91)) (fun _ h9 => h9) rfl dX11_putOnTape_18 ?_
  refine lv_aload_n hx hb dX11_putOnTape_21 rfl (lv_at hl 1 rfl) ?_
  refine va_get (D := (dC, dI)) (ci := 11) (v := .int 1) (C := RX11) (T := TX11) (N := 9) hx hb hts iCX11 hown hK hP 0 rfl rfl 1 (by decide) (hts (.fieldLink RX11 50 "WalkingTown" "tapeSize" "I") (List.mem_cons_of_mem _ kw_3_92)) (fun _ h9 => h9) rfl dX11_putOnTape_22 ?_
  refine lv_iload_n hx hb dX11_putOnTape_25 rfl (lv_at hl 2 rfl) ?_
  refine lv_iload_n hx hb dX11_putOnTape_26 rfl (lv_at hl 0 rfl) ?_
  refine lv_ishr hx hb dX11_putOnTape_27 ?_
  refine lv_topi (fun v_8 ev_8 => ?_)
  refine lv_sipush (v := 255) hx hb dX11_putOnTape_28 (by decide) ?_
  refine lv_iand hx hb dX11_putOnTape_31 ?_
  refine lv_topi (fun v_9 ev_9 => ?_)
  refine va_iast hx hb hK hP hD hS 1 0 rfl rfl (by unfold vp_in; decide) dX11_putOnTape_32 (fun H locs hP hD hS => ?_)
  have hP : va_P (dC, dI) vwCl [(xX, .inr (11, [.ref xT, .int 1, .ref xW, .ref xR, .ref xM, .ref xS, .int (-1), .int 0, .int (-1)])), (xT, .inl (cT, 340, .inl (upd f_5 (1 : Int32).toNatClampNeg v_9)))] H := hP
  have hD : va_D A [(xX, .inr (11, [.ref xT, .int 1, .ref xW, .ref xR, .ref xM, .ref xS, .int (-1), .int 0, .int (-1)])), (xT, .inl (cT, 340, .inl (upd f_5 (1 : Int32).toNatClampNeg v_9)))] := hD
  obtain ⟨f_10, ef_10⟩ : ∃ z : Nat → Int32, z = (upd f_5 (1 : Int32).toNatClampNeg v_9) := ⟨_, rfl⟩
  rw [← ef_10] at hP hD
  refine lv_aload_n hx hb dX11_putOnTape_33 rfl (lv_at hl 1 rfl) ?_
  refine lv_dup hx hb dX11_putOnTape_34 rfl ?_
  refine va_get (D := (dC, dI)) (ci := 11) (v := .int 1) (C := RX11) (T := TX11) (N := 9) hx hb hts iCX11 hown hK hP 0 rfl rfl 1 (by decide) (hts (.fieldLink RX11 50 "WalkingTown" "tapeSize" "I") (List.mem_cons_of_mem _ kw_3_92)) (fun _ h9 => h9) rfl dX11_putOnTape_35 ?_
  refine lv_iconst (v := 1) hx hb dX11_putOnTape_38 (by decide) ?_
  refine lv_iadd hx hb dX11_putOnTape_39 ?_
  refine my_ti (y := 2) (by decide) ?_
  refine va_put (D := (dC, dI)) (ci := 11) (v := .int 2) (ty := .int) (C := RX11) (T := TX11) (N := 9) hx hb hts iCX11 tyX11 tyX11_ok nmX11 hown hK hP hD hS 0 rfl rfl 1 (by decide) (hts (.fieldLink RX11 50 "WalkingTown" "tapeSize" "I") (List.mem_cons_of_mem _ kw_3_92)) (fun _ h9 => h9) rfl (by decide +kernel) rfl rfl (Nat.le_of_ble_eq_true rfl) dX11_putOnTape_40 (fun H locs hP hD hS => ?_)
  have hP : va_P (dC, dI) vwCl [(xX, .inr (11, [.ref xT, .int 2, .ref xW, .ref xR, .ref xM, .ref xS, .int (-1), .int 0, .int (-1)])), (xT, .inl (cT, 340, .inl f_10))] H := hP
  have hD : va_D A [(xX, .inr (11, [.ref xT, .int 2, .ref xW, .ref xR, .ref xM, .ref xS, .int (-1), .int 0, .int (-1)])), (xT, .inl (cT, 340, .inl f_10))] := hD
  refine lv_iinc (v := 8) (lv' := [(2, .int 8), (0, .ref xX), (1, .int a)]) hx hb dX11_putOnTape_43 hl (k := 0) rfl (by decide) (by decide) rfl (fun ls hl => ?_)
  refine lv_goto (tgt := 3) hx hb dX11_putOnTape_46 (by decide) ?_
  refine lv_iload_n hx hb dX11_putOnTape_3 rfl (lv_at hl 0 rfl) ?_
  refine lv_if_lt (tgt := 49) hx hb dX11_putOnTape_4 (by decide) (fun c_11 => ?_) (fun c_11 => ?_)
  · exact absurd c_11 (by decide)
  refine lv_aload_n hx hb dX11_putOnTape_7 rfl (lv_at hl 1 rfl) ?_
  refine va_get (D := (dC, dI)) (ci := 11) (v := .int 2) (C := RX11) (T := TX11) (N := 9) hx hb hts iCX11 hown hK hP 0 rfl rfl 1 (by decide) (hts (.fieldLink RX11 50 "WalkingTown" "tapeSize" "I") (List.mem_cons_of_mem _ kw_3_92)) (fun _ h9 => h9) rfl dX11_putOnTape_8 ?_
  refine lv_sipush (v := 340) hx hb dX11_putOnTape_11 (by decide) ?_
  refine lv_icmp_ge (tgt := 49) hx hb dX11_putOnTape_14 (by decide) (fun c_12 => ?_) (fun c_12 => ?_)
  · exact absurd c_12 (by decide)
  refine lv_aload_n hx hb dX11_putOnTape_17 rfl (lv_at hl 1 rfl) ?_
  refine va_get (D := (dC, dI)) (ci := 11) (v := .ref xT) (C := RX11) (T := TX11) (N := 9) hx hb hts iCX11 hown hK hP 0 rfl rfl 0 (by decide) (hts (.fieldLink RX11 9 "WalkingTown" "tape" "[I") (List.mem_cons_of_mem _ kw_3_91)) (fun _ h9 => h9) rfl dX11_putOnTape_18 ?_
  refine lv_aload_n hx hb dX11_putOnTape_21 rfl (lv_at hl 1 rfl) ?_
  refine va_get (D := (dC, dI)) (ci := 11) (v := .int 2) (C := RX11) (T := TX11) (N := 9) hx hb hts iCX11 hown hK hP 0 rfl rfl 1 (by decide) (hts (.fieldLink RX11 50 "WalkingTown" "tapeSize" "I") (List.mem_cons_of_mem _ kw_3_92)) (fun _ h9 => h9) rfl dX11_putOnTape_22 ?_
  refine lv_iload_n hx hb dX11_putOnTape_25 rfl (lv_at hl 2 rfl) ?_
  refine lv_iload_n hx hb dX11_putOnTape_26 rfl (lv_at hl 0 rfl) ?_
  refine lv_ishr hx hb dX11_putOnTape_27 ?_
  refine lv_topi (fun v_13 ev_13 => ?_)
  refine lv_sipush (v := 255) hx hb dX11_putOnTape_28 (by decide) ?_
  refine lv_iand hx hb dX11_putOnTape_31 ?_
  refine lv_topi (fun v_14 ev_14 => ?_)
  refine va_iast hx hb hK hP hD hS 1 0 rfl rfl (by unfold vp_in; decide) dX11_putOnTape_32 (fun H locs hP hD hS => ?_)
  have hP : va_P (dC, dI) vwCl [(xX, .inr (11, [.ref xT, .int 2, .ref xW, .ref xR, .ref xM, .ref xS, .int (-1), .int 0, .int (-1)])), (xT, .inl (cT, 340, .inl (upd f_10 (2 : Int32).toNatClampNeg v_14)))] H := hP
  have hD : va_D A [(xX, .inr (11, [.ref xT, .int 2, .ref xW, .ref xR, .ref xM, .ref xS, .int (-1), .int 0, .int (-1)])), (xT, .inl (cT, 340, .inl (upd f_10 (2 : Int32).toNatClampNeg v_14)))] := hD
  obtain ⟨f_15, ef_15⟩ : ∃ z : Nat → Int32, z = (upd f_10 (2 : Int32).toNatClampNeg v_14) := ⟨_, rfl⟩
  rw [← ef_15] at hP hD
  refine lv_aload_n hx hb dX11_putOnTape_33 rfl (lv_at hl 1 rfl) ?_
  refine lv_dup hx hb dX11_putOnTape_34 rfl ?_
  refine va_get (D := (dC, dI)) (ci := 11) (v := .int 2) (C := RX11) (T := TX11) (N := 9) hx hb hts iCX11 hown hK hP 0 rfl rfl 1 (by decide) (hts (.fieldLink RX11 50 "WalkingTown" "tapeSize" "I") (List.mem_cons_of_mem _ kw_3_92)) (fun _ h9 => h9) rfl dX11_putOnTape_35 ?_
  refine lv_iconst (v := 1) hx hb dX11_putOnTape_38 (by decide) ?_
  refine lv_iadd hx hb dX11_putOnTape_39 ?_
  refine my_ti (y := 3) (by decide) ?_
  refine va_put (D := (dC, dI)) (ci := 11) (v := .int 3) (ty := .int) (C := RX11) (T := TX11) (N := 9) hx hb hts iCX11 tyX11 tyX11_ok nmX11 hown hK hP hD hS 0 rfl rfl 1 (by decide) (hts (.fieldLink RX11 50 "WalkingTown" "tapeSize" "I") (List.mem_cons_of_mem _ kw_3_92)) (fun _ h9 => h9) rfl (by decide +kernel) rfl rfl (Nat.le_of_ble_eq_true rfl) dX11_putOnTape_40 (fun H locs hP hD hS => ?_)
  have hP : va_P (dC, dI) vwCl [(xX, .inr (11, [.ref xT, .int 3, .ref xW, .ref xR, .ref xM, .ref xS, .int (-1), .int 0, .int (-1)])), (xT, .inl (cT, 340, .inl f_15))] H := hP
  have hD : va_D A [(xX, .inr (11, [.ref xT, .int 3, .ref xW, .ref xR, .ref xM, .ref xS, .int (-1), .int 0, .int (-1)])), (xT, .inl (cT, 340, .inl f_15))] := hD
  refine lv_iinc (v := 0) (lv' := [(2, .int 0), (0, .ref xX), (1, .int a)]) hx hb dX11_putOnTape_43 hl (k := 0) rfl (by decide) (by decide) rfl (fun ls hl => ?_)
  refine lv_goto (tgt := 3) hx hb dX11_putOnTape_46 (by decide) ?_
  refine lv_iload_n hx hb dX11_putOnTape_3 rfl (lv_at hl 0 rfl) ?_
  refine lv_if_lt (tgt := 49) hx hb dX11_putOnTape_4 (by decide) (fun c_16 => ?_) (fun c_16 => ?_)
  · exact absurd c_16 (by decide)
  refine lv_aload_n hx hb dX11_putOnTape_7 rfl (lv_at hl 1 rfl) ?_
  refine va_get (D := (dC, dI)) (ci := 11) (v := .int 3) (C := RX11) (T := TX11) (N := 9) hx hb hts iCX11 hown hK hP 0 rfl rfl 1 (by decide) (hts (.fieldLink RX11 50 "WalkingTown" "tapeSize" "I") (List.mem_cons_of_mem _ kw_3_92)) (fun _ h9 => h9) rfl dX11_putOnTape_8 ?_
  refine lv_sipush (v := 340) hx hb dX11_putOnTape_11 (by decide) ?_
  refine lv_icmp_ge (tgt := 49) hx hb dX11_putOnTape_14 (by decide) (fun c_17 => ?_) (fun c_17 => ?_)
  · exact absurd c_17 (by decide)
  refine lv_aload_n hx hb dX11_putOnTape_17 rfl (lv_at hl 1 rfl) ?_
  refine va_get (D := (dC, dI)) (ci := 11) (v := .ref xT) (C := RX11) (T := TX11) (N := 9) hx hb hts iCX11 hown hK hP 0 rfl rfl 0 (by decide) (hts (.fieldLink RX11 9 "WalkingTown" "tape" "[I") (List.mem_cons_of_mem _ kw_3_91)) (fun _ h9 => h9) rfl dX11_putOnTape_18 ?_
  refine lv_aload_n hx hb dX11_putOnTape_21 rfl (lv_at hl 1 rfl) ?_
  refine va_get (D := (dC, dI)) (ci := 11) (v := .int 3) (C := RX11) (T := TX11) (N := 9) hx hb hts iCX11 hown hK hP 0 rfl rfl 1 (by decide) (hts (.fieldLink RX11 50 "WalkingTown" "tapeSize" "I") (List.mem_cons_of_mem _ kw_3_92)) (fun _ h9 => h9) rfl dX11_putOnTape_22 ?_
  refine lv_iload_n hx hb dX11_putOnTape_25 rfl (lv_at hl 2 rfl) ?_
  refine lv_iload_n hx hb dX11_putOnTape_26 rfl (lv_at hl 0 rfl) ?_
  refine lv_ishr hx hb dX11_putOnTape_27 ?_
  refine lv_topi (fun v_18 ev_18 => ?_)
  refine lv_sipush (v := 255) hx hb dX11_putOnTape_28 (by decide) ?_
  refine lv_iand hx hb dX11_putOnTape_31 ?_
  refine lv_topi (fun v_19 ev_19 => ?_)
  refine va_iast hx hb hK hP hD hS 1 0 rfl rfl (by unfold vp_in; decide) dX11_putOnTape_32 (fun H locs hP hD hS => ?_)
  have hP : va_P (dC, dI) vwCl [(xX, .inr (11, [.ref xT, .int 3, .ref xW, .ref xR, .ref xM, .ref xS, .int (-1), .int 0, .int (-1)])), (xT, .inl (cT, 340, .inl (upd f_15 (3 : Int32).toNatClampNeg v_19)))] H := hP
  have hD : va_D A [(xX, .inr (11, [.ref xT, .int 3, .ref xW, .ref xR, .ref xM, .ref xS, .int (-1), .int 0, .int (-1)])), (xT, .inl (cT, 340, .inl (upd f_15 (3 : Int32).toNatClampNeg v_19)))] := hD
  obtain ⟨f_20, ef_20⟩ : ∃ z : Nat → Int32, z = (upd f_15 (3 : Int32).toNatClampNeg v_19) := ⟨_, rfl⟩
  rw [← ef_20] at hP hD
  refine lv_aload_n hx hb dX11_putOnTape_33 rfl (lv_at hl 1 rfl) ?_
  refine lv_dup hx hb dX11_putOnTape_34 rfl ?_
  refine va_get (D := (dC, dI)) (ci := 11) (v := .int 3) (C := RX11) (T := TX11) (N := 9) hx hb hts iCX11 hown hK hP 0 rfl rfl 1 (by decide) (hts (.fieldLink RX11 50 "WalkingTown" "tapeSize" "I") (List.mem_cons_of_mem _ kw_3_92)) (fun _ h9 => h9) rfl dX11_putOnTape_35 ?_
  refine lv_iconst (v := 1) hx hb dX11_putOnTape_38 (by decide) ?_
  refine lv_iadd hx hb dX11_putOnTape_39 ?_
  refine my_ti (y := 4) (by decide) ?_
  refine va_put (D := (dC, dI)) (ci := 11) (v := .int 4) (ty := .int) (C := RX11) (T := TX11) (N := 9) hx hb hts iCX11 tyX11 tyX11_ok nmX11 hown hK hP hD hS 0 rfl rfl 1 (by decide) (hts (.fieldLink RX11 50 "WalkingTown" "tapeSize" "I") (List.mem_cons_of_mem _ kw_3_92)) (fun _ h9 => h9) rfl (by decide +kernel) rfl rfl (Nat.le_of_ble_eq_true rfl) dX11_putOnTape_40 (fun H locs hP hD hS => ?_)
  have hP : va_P (dC, dI) vwCl [(xX, .inr (11, [.ref xT, .int 4, .ref xW, .ref xR, .ref xM, .ref xS, .int (-1), .int 0, .int (-1)])), (xT, .inl (cT, 340, .inl f_20))] H := hP
  have hD : va_D A [(xX, .inr (11, [.ref xT, .int 4, .ref xW, .ref xR, .ref xM, .ref xS, .int (-1), .int 0, .int (-1)])), (xT, .inl (cT, 340, .inl f_20))] := hD
  refine lv_iinc (v := (-8)) (lv' := [(2, .int (-8)), (0, .ref xX), (1, .int a)]) hx hb dX11_putOnTape_43 hl (k := 0) rfl (by decide) (by decide) rfl (fun ls hl => ?_)
  refine lv_goto (tgt := 3) hx hb dX11_putOnTape_46 (by decide) ?_
  refine lv_iload_n hx hb dX11_putOnTape_3 rfl (lv_at hl 0 rfl) ?_
  refine lv_if_lt (tgt := 49) hx hb dX11_putOnTape_4 (by decide) (fun c_21 => ?_) (fun c_21 => ?_)
  rotate_left
  · exact (c_21 (by decide)).elim
  have hP9 := hP.sub (ws' := [(xX, .inr (11, [.ref xT, .int 4, .ref xW, .ref xR, .ref xM, .ref xS, .int (-1), .int 0, .int (-1)])), (xT, .inl (cT, 340, .inl f_20))]) [0, 1] rfl
  have hD9 := hD.sub (ws' := [(xX, .inr (11, [.ref xT, .int 4, .ref xW, .ref xR, .ref xM, .ref xS, .int (-1), .int 0, .int (-1)])), (xT, .inl (cT, 340, .inl f_20))]) [0, 1] (by decide) rfl
  have hK9 := hK.sub (tys' := [(cT, .int)]) [0] rfl
  refine W.widen (k := 0) (n := 0) (Nat.le_of_ble_eq_true rfl) (Nat.le_of_ble_eq_true rfl) ?_
  exact W.vret hx hb hr (fun t ht hW => ⟨⟨(), rfl, trivial, ⟨f_20, by rw [ht]; exact hP9, va_K.moved hW.alike hK9, hD9⟩⟩, hS.F ht⟩) hS.2.2 dX11_putOnTape_49
set_option maxHeartbeats 4000000 in
set_option maxRecDepth 100000 in
theorem c_put_4 (l : Launch) (dC : Nat → ClassId) (dI : Nat → Nat → Nat) (sz : Nat) (a : Int32) (fT : Nat → Int32) (xX : Nat) (xT : Nat) (xW : Nat) (xR : Nat) (xM : Nat) (xS : Nat) (cT : ClassId) : Met l yX11_putOnTape (.code yX11_putOnTape cX11_putOnTape 3 none :: lw_good) ({ frames := 2, cells := 0, slots := 0, locals := 60 }) (va_Pc [.ref xX, .int a] (fun U => U.heap.size = sz ∧ va_P (dC, dI) vwCl [(xX, .inr (11, [.ref xT, .int 4, .ref xW, .ref xR, .ref xM, .ref xS, .int (-1), .int 0, .int (-1)])), (xT, .inl (cT, 340, .inl fT))] U.heap ∧ va_K (dC, dI) vwCl [(cT, .int)] U ∧ va_D (fun _ => True) [(xX, .inr (11, [.ref xT, .int 4, .ref xW, .ref xR, .ref xM, .ref xS, .int (-1), .int 0, .int (-1)])), (xT, .inl (cT, 340, .inl fT))])) (va_Qv (fun (_ : Unit) => True) (fun (_ : Unit) (t : State) => ∃ (gT : Nat → Int32), va_P (dC, dI) vwCl [(xX, .inr (11, [.ref xT, .int 8, .ref xW, .ref xR, .ref xM, .ref xS, .int (-1), .int 0, .int (-1)])), (xT, .inl (cT, 340, .inl gT))] t.heap ∧ va_K (dC, dI) vwCl [(cT, .int)] t ∧ va_D (va_A [(xX, .inr (11, [.ref xT, .int 4, .ref xW, .ref xR, .ref xM, .ref xS, .int (-1), .int 0, .int (-1)])), (xT, .inl (cT, 340, .inl fT))] sz) [(xX, .inr (11, [.ref xT, .int 8, .ref xW, .ref xR, .ref xM, .ref xS, .int (-1), .int 0, .int (-1)])), (xT, .inl (cT, 340, .inl gT))]) (va_A [(xX, .inr (11, [.ref xT, .int 4, .ref xW, .ref xR, .ref xM, .ref xS, .int (-1), .int 0, .int (-1)])), (xT, .inl (cT, 340, .inl fT))] sz)) 0 0 (va_A [(xX, .inr (11, [.ref xT, .int 4, .ref xW, .ref xR, .ref xM, .ref xS, .int (-1), .int 0, .int (-1)])), (xT, .inl (cT, 340, .inl fT))] sz) := by
  refine Met.ofW (cc := cX11_putOnTape) (maxL := 3) (ret := none) (by decide) rfl ?_
  intro p e s m args below meth c s₁ B hml hv
  obtain ⟨rfl, hsz, hP, hK, hD0⟩ := hv
  have hx := B.exec
  have hb := B.bytes
  have hr := B.returns
  have hts := atoms_spec (ws := (.code yX11_putOnTape cX11_putOnTape 3 none :: lw_good)) B.pre
  have hown : s.vm.findClass RX11 = some m.cls := findClass_of_methodNamed B.named
  have hlocks := B.notSynchronized
  subst hsz
  have hD := hD0.self (sz := s.heap.size)
  generalize hAe : va_A [(xX, .inr (11, [.ref xT, .int 4, .ref xW, .ref xR, .ref xM, .ref xS, .int (-1), .int 0, .int (-1)])), (xT, .inl (cT, 340, .inl fT))] s.heap.size = A at hD ⊢
  have hA : ∀ q : Nat, s.heap.size ≤ q → A q := fun q h => by rw [← hAe]; exact Or.inr h
  have hS : va_S A s.heap s.heap [] := va_S.rf
  have hP : va_P (dC, dI) vwCl [(xX, .inr (11, [.ref xT, .int 4, .ref xW, .ref xR, .ref xM, .ref xS, .int (-1), .int 0, .int (-1)])), (xT, .inl (cT, 340, .inl fT))] s.heap := hP
  have hl := lv_entry ([.ref xX, .int a]) (n := 3) (Nat.le_of_ble_eq_true rfl)
  rw [lg_entry_eq]
  generalize (lg_sl ([.ref xX, .int a]) ++ List.replicate (3 - (lg_sl ([.ref xX, .int a])).length) Slot.unset).toArray = ls at hl ⊢
  have hl : lv_has ls 3 [(0, .ref xX), (1, .int a)] := hl
  refine lv_bipush (v := 24) hx hb dX11_putOnTape_0 (by decide) ?_
  refine lv_istore_n (lv' := [(2, .int 24), (0, .ref xX), (1, .int a)]) hx hb dX11_putOnTape_2 rfl hl (by decide) rfl (fun ls hl => ?_)
  refine lv_iload_n hx hb dX11_putOnTape_3 rfl (lv_at hl 0 rfl) ?_
  refine lv_if_lt (tgt := 49) hx hb dX11_putOnTape_4 (by decide) (fun c_1 => ?_) (fun c_1 => ?_)
  · exact absurd c_1 (by decide)
  refine lv_aload_n hx hb dX11_putOnTape_7 rfl (lv_at hl 1 rfl) ?_
  refine va_get (D := (dC, dI)) (ci := 11) (v := .int 4) (C := RX11) (T := TX11) (N := 9) hx hb hts iCX11 hown hK hP 0 rfl rfl 1 (by decide) (hts (.fieldLink RX11 50 "WalkingTown" "tapeSize" "I") (List.mem_cons_of_mem _ kw_3_92)) (fun _ h9 => h9) rfl dX11_putOnTape_8 ?_
  refine lv_sipush (v := 340) hx hb dX11_putOnTape_11 (by decide) ?_
  refine lv_icmp_ge (tgt := 49) hx hb dX11_putOnTape_14 (by decide) (fun c_2 => ?_) (fun c_2 => ?_)
  · exact absurd c_2 (by decide)
  refine lv_aload_n hx hb dX11_putOnTape_17 rfl (lv_at hl 1 rfl) ?_
  refine va_get (D := (dC, dI)) (ci := 11) (v := .ref xT) (C := RX11) (T := TX11) (N := 9) hx hb hts iCX11 hown hK hP 0 rfl rfl 0 (by decide) (hts (.fieldLink RX11 9 "WalkingTown" "tape" "[I") (List.mem_cons_of_mem _ kw_3_91)) (fun _ h9 => h9) rfl dX11_putOnTape_18 ?_
  refine lv_aload_n hx hb dX11_putOnTape_21 rfl (lv_at hl 1 rfl) ?_
  refine va_get (D := (dC, dI)) (ci := 11) (v := .int 4) (C := RX11) (T := TX11) (N := 9) hx hb hts iCX11 hown hK hP 0 rfl rfl 1 (by decide) (hts (.fieldLink RX11 50 "WalkingTown" "tapeSize" "I") (List.mem_cons_of_mem _ kw_3_92)) (fun _ h9 => h9) rfl dX11_putOnTape_22 ?_
  refine lv_iload_n hx hb dX11_putOnTape_25 rfl (lv_at hl 2 rfl) ?_
  refine lv_iload_n hx hb dX11_putOnTape_26 rfl (lv_at hl 0 rfl) ?_
  refine lv_ishr hx hb dX11_putOnTape_27 ?_
  refine lv_topi (fun v_3 ev_3 => ?_)
  refine lv_sipush (v := 255) hx hb dX11_putOnTape_28 (by decide) ?_
  refine lv_iand hx hb dX11_putOnTape_31 ?_
  refine lv_topi (fun v_4 ev_4 => ?_)
  refine va_iast hx hb hK hP hD hS 1 0 rfl rfl (by unfold vp_in; decide) dX11_putOnTape_32 (fun H locs hP hD hS => ?_)
  have hP : va_P (dC, dI) vwCl [(xX, .inr (11, [.ref xT, .int 4, .ref xW, .ref xR, .ref xM, .ref xS, .int (-1), .int 0, .int (-1)])), (xT, .inl (cT, 340, .inl (upd fT (4 : Int32).toNatClampNeg v_4)))] H := hP
  have hD : va_D A [(xX, .inr (11, [.ref xT, .int 4, .ref xW, .ref xR, .ref xM, .ref xS, .int (-1), .int 0, .int (-1)])), (xT, .inl (cT, 340, .inl (upd fT (4 : Int32).toNatClampNeg v_4)))] := hD
  obtain ⟨f_5, ef_5⟩ : ∃ z : Nat → Int32, z = (upd fT (4 : Int32).toNatClampNeg v_4) := ⟨_, rfl⟩
  rw [← ef_5] at hP hD
  refine lv_aload_n hx hb dX11_putOnTape_33 rfl (lv_at hl 1 rfl) ?_
  refine lv_dup hx hb dX11_putOnTape_34 rfl ?_
  refine va_get (D := (dC, dI)) (ci := 11) (v := .int 4) (C := RX11) (T := TX11) (N := 9) hx hb hts iCX11 hown hK hP 0 rfl rfl 1 (by decide) (hts (.fieldLink RX11 50 "WalkingTown" "tapeSize" "I") (List.mem_cons_of_mem _ kw_3_92)) (fun _ h9 => h9) rfl dX11_putOnTape_35 ?_
  refine lv_iconst (v := 1) hx hb dX11_putOnTape_38 (by decide) ?_
  refine lv_iadd hx hb dX11_putOnTape_39 ?_
  refine my_ti (y := 5) (by decide) ?_
  refine va_put (D := (dC, dI)) (ci := 11) (v := .int 5) (ty := .int) (C := RX11) (T := TX11) (N := 9) hx hb hts iCX11 tyX11 tyX11_ok nmX11 hown hK hP hD hS 0 rfl rfl 1 (by decide) (hts (.fieldLink RX11 50 "WalkingTown" "tapeSize" "I") (List.mem_cons_of_mem _ kw_3_92)) (fun _ h9 => h9) rfl (by decide +kernel) rfl rfl (Nat.le_of_ble_eq_true rfl) dX11_putOnTape_40 (fun H locs hP hD hS => ?_)
  have hP : va_P (dC, dI) vwCl [(xX, .inr (11, [.ref xT, .int 5, .ref xW, .ref xR, .ref xM, .ref xS, .int (-1), .int 0, .int (-1)])), (xT, .inl (cT, 340, .inl f_5))] H := hP
  have hD : va_D A [(xX, .inr (11, [.ref xT, .int 5, .ref xW, .ref xR, .ref xM, .ref xS, .int (-1), .int 0, .int (-1)])), (xT, .inl (cT, 340, .inl f_5))] := hD
  refine lv_iinc (v := 16) (lv' := [(2, .int 16), (0, .ref xX), (1, .int a)]) hx hb dX11_putOnTape_43 hl (k := 0) rfl (by decide) (by decide) rfl (fun ls hl => ?_)
  refine lv_goto (tgt := 3) hx hb dX11_putOnTape_46 (by decide) ?_
  refine lv_iload_n hx hb dX11_putOnTape_3 rfl (lv_at hl 0 rfl) ?_
  refine lv_if_lt (tgt := 49) hx hb dX11_putOnTape_4 (by decide) (fun c_6 => ?_) (fun c_6 => ?_)
  · exact absurd c_6 (by decide)
  refine lv_aload_n hx hb dX11_putOnTape_7 rfl (lv_at hl 1 rfl) ?_
  refine va_get (D := (dC, dI)) (ci := 11) (v := .int 5) (C := RX11) (T := TX11) (N := 9) hx hb hts iCX11 hown hK hP 0 rfl rfl 1 (by decide) (hts (.fieldLink RX11 50 "WalkingTown" "tapeSize" "I") (List.mem_cons_of_mem _ kw_3_92)) (fun _ h9 => h9) rfl dX11_putOnTape_8 ?_
  refine lv_sipush (v := 340) hx hb dX11_putOnTape_11 (by decide) ?_
  refine lv_icmp_ge (tgt := 49) hx hb dX11_putOnTape_14 (by decide) (fun c_7 => ?_) (fun c_7 => ?_)
  · exact absurd c_7 (by decide)
  refine lv_aload_n hx hb dX11_putOnTape_17 rfl (lv_at hl 1 rfl) ?_
  refine va_get (D := (dC, dI)) (ci := 11) (v := .ref xT) (C := RX11) (T := TX11) (N := 9) hx hb hts iCX11 hown hK hP 0 rfl rfl 0 (by decide) (hts (.fieldLink RX11 9 "WalkingTown" "tape" "[I") (List.mem_cons_of_mem _ kw_3_91)) (fun _ h9 => h9) rfl dX11_putOnTape_18 ?_
  refine lv_aload_n hx hb dX11_putOnTape_21 rfl (lv_at hl 1 rfl) ?_
  refine va_get (D := (dC, dI)) (ci := 11) (v := .int 5) (C := RX11) (T := TX11) (N := 9) hx hb hts iCX11 hown hK hP 0 rfl rfl 1 (by decide) (hts (.fieldLink RX11 50 "WalkingTown" "tapeSize" "I") (List.mem_cons_of_mem _ kw_3_92)) (fun _ h9 => h9) rfl dX11_putOnTape_22 ?_
  refine lv_iload_n hx hb dX11_putOnTape_25 rfl (lv_at hl 2 rfl) ?_
  refine lv_iload_n hx hb dX11_putOnTape_26 rfl (lv_at hl 0 rfl) ?_
  refine lv_ishr hx hb dX11_putOnTape_27 ?_
  refine lv_topi (fun v_8 ev_8 => ?_)
  refine lv_sipush (v := 255) hx hb dX11_putOnTape_28 (by decide) ?_
  refine lv_iand hx hb dX11_putOnTape_31 ?_
  refine lv_topi (fun v_9 ev_9 => ?_)
  refine va_iast hx hb hK hP hD hS 1 0 rfl rfl (by unfold vp_in; decide) dX11_putOnTape_32 (fun H locs hP hD hS => ?_)
  have hP : va_P (dC, dI) vwCl [(xX, .inr (11, [.ref xT, .int 5, .ref xW, .ref xR, .ref xM, .ref xS, .int (-1), .int 0, .int (-1)])), (xT, .inl (cT, 340, .inl (upd f_5 (5 : Int32).toNatClampNeg v_9)))] H := hP
  have hD : va_D A [(xX, .inr (11, [.ref xT, .int 5, .ref xW, .ref xR, .ref xM, .ref xS, .int (-1), .int 0, .int (-1)])), (xT, .inl (cT, 340, .inl (upd f_5 (5 : Int32).toNatClampNeg v_9)))] := hD
  obtain ⟨f_10, ef_10⟩ : ∃ z : Nat → Int32, z = (upd f_5 (5 : Int32).toNatClampNeg v_9) := ⟨_, rfl⟩
  rw [← ef_10] at hP hD
  refine lv_aload_n hx hb dX11_putOnTape_33 rfl (lv_at hl 1 rfl) ?_
  refine lv_dup hx hb dX11_putOnTape_34 rfl ?_
  refine va_get (D := (dC, dI)) (ci := 11) (v := .int 5) (C := RX11) (T := TX11) (N := 9) hx hb hts iCX11 hown hK hP 0 rfl rfl 1 (by decide) (hts (.fieldLink RX11 50 "WalkingTown" "tapeSize" "I") (List.mem_cons_of_mem _ kw_3_92)) (fun _ h9 => h9) rfl dX11_putOnTape_35 ?_
  refine lv_iconst (v := 1) hx hb dX11_putOnTape_38 (by decide) ?_
  refine lv_iadd hx hb dX11_putOnTape_39 ?_
  refine my_ti (y := 6) (by decide) ?_
  refine va_put (D := (dC, dI)) (ci := 11) (v := .int 6) (ty := .int) (C := RX11) (T := TX11) (N := 9) hx hb hts iCX11 tyX11 tyX11_ok nmX11 hown hK hP hD hS 0 rfl rfl 1 (by decide) (hts (.fieldLink RX11 50 "WalkingTown" "tapeSize" "I") (List.mem_cons_of_mem _ kw_3_92)) (fun _ h9 => h9) rfl (by decide +kernel) rfl rfl (Nat.le_of_ble_eq_true rfl) dX11_putOnTape_40 (fun H locs hP hD hS => ?_)
  have hP : va_P (dC, dI) vwCl [(xX, .inr (11, [.ref xT, .int 6, .ref xW, .ref xR, .ref xM, .ref xS, .int (-1), .int 0, .int (-1)])), (xT, .inl (cT, 340, .inl f_10))] H := hP
  have hD : va_D A [(xX, .inr (11, [.ref xT, .int 6, .ref xW, .ref xR, .ref xM, .ref xS, .int (-1), .int 0, .int (-1)])), (xT, .inl (cT, 340, .inl f_10))] := hD
  refine lv_iinc (v := 8) (lv' := [(2, .int 8), (0, .ref xX), (1, .int a)]) hx hb dX11_putOnTape_43 hl (k := 0) rfl (by decide) (by decide) rfl (fun ls hl => ?_)
  refine lv_goto (tgt := 3) hx hb dX11_putOnTape_46 (by decide) ?_
  refine lv_iload_n hx hb dX11_putOnTape_3 rfl (lv_at hl 0 rfl) ?_
  refine lv_if_lt (tgt := 49) hx hb dX11_putOnTape_4 (by decide) (fun c_11 => ?_) (fun c_11 => ?_)
  · exact absurd c_11 (by decide)
  refine lv_aload_n hx hb dX11_putOnTape_7 rfl (lv_at hl 1 rfl) ?_
  refine va_get (D := (dC, dI)) (ci := 11) (v := .int 6) (C := RX11) (T := TX11) (N := 9) hx hb hts iCX11 hown hK hP 0 rfl rfl 1 (by decide) (hts (.fieldLink RX11 50 "WalkingTown" "tapeSize" "I") (List.mem_cons_of_mem _ kw_3_92)) (fun _ h9 => h9) rfl dX11_putOnTape_8 ?_
  refine lv_sipush (v := 340) hx hb dX11_putOnTape_11 (by decide) ?_
  refine lv_icmp_ge (tgt := 49) hx hb dX11_putOnTape_14 (by decide) (fun c_12 => ?_) (fun c_12 => ?_)
  · exact absurd c_12 (by decide)
  refine lv_aload_n hx hb dX11_putOnTape_17 rfl (lv_at hl 1 rfl) ?_
  refine va_get (D := (dC, dI)) (ci := 11) (v := .ref xT) (C := RX11) (T := TX11) (N := 9) hx hb hts iCX11 hown hK hP 0 rfl rfl 0 (by decide) (hts (.fieldLink RX11 9 "WalkingTown" "tape" "[I") (List.mem_cons_of_mem _ kw_3_91)) (fun _ h9 => h9) rfl dX11_putOnTape_18 ?_
  refine lv_aload_n hx hb dX11_putOnTape_21 rfl (lv_at hl 1 rfl) ?_
  refine va_get (D := (dC, dI)) (ci := 11) (v := .int 6) (C := RX11) (T := TX11) (N := 9) hx hb hts iCX11 hown hK hP 0 rfl rfl 1 (by decide) (hts (.fieldLink RX11 50 "WalkingTown" "tapeSize" "I") (List.mem_cons_of_mem _ kw_3_92)) (fun _ h9 => h9) rfl dX11_putOnTape_22 ?_
  refine lv_iload_n hx hb dX11_putOnTape_25 rfl (lv_at hl 2 rfl) ?_
  refine lv_iload_n hx hb dX11_putOnTape_26 rfl (lv_at hl 0 rfl) ?_
  refine lv_ishr hx hb dX11_putOnTape_27 ?_
  refine lv_topi (fun v_13 ev_13 => ?_)
  refine lv_sipush (v := 255) hx hb dX11_putOnTape_28 (by decide) ?_
  refine lv_iand hx hb dX11_putOnTape_31 ?_
  refine lv_topi (fun v_14 ev_14 => ?_)
  refine va_iast hx hb hK hP hD hS 1 0 rfl rfl (by unfold vp_in; decide) dX11_putOnTape_32 (fun H locs hP hD hS => ?_)
  have hP : va_P (dC, dI) vwCl [(xX, .inr (11, [.ref xT, .int 6, .ref xW, .ref xR, .ref xM, .ref xS, .int (-1), .int 0, .int (-1)])), (xT, .inl (cT, 340, .inl (upd f_10 (6 : Int32).toNatClampNeg v_14)))] H := hP
  have hD : va_D A [(xX, .inr (11, [.ref xT, .int 6, .ref xW, .ref xR, .ref xM, .ref xS, .int (-1), .int 0, .int (-1)])), (xT, .inl (cT, 340, .inl (upd f_10 (6 : Int32).toNatClampNeg v_14)))] := hD
  obtain ⟨f_15, ef_15⟩ : ∃ z : Nat → Int32, z = (upd f_10 (6 : Int32).toNatClampNeg v_14) := ⟨_, rfl⟩
  rw [← ef_15] at hP hD
  refine lv_aload_n hx hb dX11_putOnTape_33 rfl (lv_at hl 1 rfl) ?_
  refine lv_dup hx hb dX11_putOnTape_34 rfl ?_
  refine va_get (D := (dC, dI)) (ci := 11) (v := .int 6) (C := RX11) (T := TX11) (N := 9) hx hb hts iCX11 hown hK hP 0 rfl rfl 1 (by decide) (hts (.fieldLink RX11 50 "WalkingTown" "tapeSize" "I") (List.mem_cons_of_mem _ kw_3_92)) (fun _ h9 => h9) rfl dX11_putOnTape_35 ?_
  refine lv_iconst (v := 1) hx hb dX11_putOnTape_38 (by decide) ?_
  refine lv_iadd hx hb dX11_putOnTape_39 ?_
  refine my_ti (y := 7) (by decide) ?_
  refine va_put (D := (dC, dI)) (ci := 11) (v := .int 7) (ty := .int) (C := RX11) (T := TX11) (N := 9) hx hb hts iCX11 tyX11 tyX11_ok nmX11 hown hK hP hD hS 0 rfl rfl 1 (by decide) (hts (.fieldLink RX11 50 "WalkingTown" "tapeSize" "I") (List.mem_cons_of_mem _ kw_3_92)) (fun _ h9 => h9) rfl (by decide +kernel) rfl rfl (Nat.le_of_ble_eq_true rfl) dX11_putOnTape_40 (fun H locs hP hD hS => ?_)
  have hP : va_P (dC, dI) vwCl [(xX, .inr (11, [.ref xT, .int 7, .ref xW, .ref xR, .ref xM, .ref xS, .int (-1), .int 0, .int (-1)])), (xT, .inl (cT, 340, .inl f_15))] H := hP
  have hD : va_D A [(xX, .inr (11, [.ref xT, .int 7, .ref xW, .ref xR, .ref xM, .ref xS, .int (-1), .int 0, .int (-1)])), (xT, .inl (cT, 340, .inl f_15))] := hD
  refine lv_iinc (v := 0) (lv' := [(2, .int 0), (0, .ref xX), (1, .int a)]) hx hb dX11_putOnTape_43 hl (k := 0) rfl (by decide) (by decide) rfl (fun ls hl => ?_)
  refine lv_goto (tgt := 3) hx hb dX11_putOnTape_46 (by decide) ?_
  refine lv_iload_n hx hb dX11_putOnTape_3 rfl (lv_at hl 0 rfl) ?_
  refine lv_if_lt (tgt := 49) hx hb dX11_putOnTape_4 (by decide) (fun c_16 => ?_) (fun c_16 => ?_)
  · exact absurd c_16 (by decide)
  refine lv_aload_n hx hb dX11_putOnTape_7 rfl (lv_at hl 1 rfl) ?_
  refine va_get (D := (dC, dI)) (ci := 11) (v := .int 7) (C := RX11) (T := TX11) (N := 9) hx hb hts iCX11 hown hK hP 0 rfl rfl 1 (by decide) (hts (.fieldLink RX11 50 "WalkingTown" "tapeSize" "I") (List.mem_cons_of_mem _ kw_3_92)) (fun _ h9 => h9) rfl dX11_putOnTape_8 ?_
  refine lv_sipush (v := 340) hx hb dX11_putOnTape_11 (by decide) ?_
  refine lv_icmp_ge (tgt := 49) hx hb dX11_putOnTape_14 (by decide) (fun c_17 => ?_) (fun c_17 => ?_)
  · exact absurd c_17 (by decide)
  refine lv_aload_n hx hb dX11_putOnTape_17 rfl (lv_at hl 1 rfl) ?_
  refine va_get (D := (dC, dI)) (ci := 11) (v := .ref xT) (C := RX11) (T := TX11) (N := 9) hx hb hts iCX11 hown hK hP 0 rfl rfl 0 (by decide) (hts (.fieldLink RX11 9 "WalkingTown" "tape" "[I") (List.mem_cons_of_mem _ kw_3_91)) (fun _ h9 => h9) rfl dX11_putOnTape_18 ?_
  refine lv_aload_n hx hb dX11_putOnTape_21 rfl (lv_at hl 1 rfl) ?_
  refine va_get (D := (dC, dI)) (ci := 11) (v := .int 7) (C := RX11) (T := TX11) (N := 9) hx hb hts iCX11 hown hK hP 0 rfl rfl 1 (by decide) (hts (.fieldLink RX11 50 "WalkingTown" "tapeSize" "I") (List.mem_cons_of_mem _ kw_3_92)) (fun _ h9 => h9) rfl dX11_putOnTape_22 ?_
  refine lv_iload_n hx hb dX11_putOnTape_25 rfl (lv_at hl 2 rfl) ?_
  refine lv_iload_n hx hb dX11_putOnTape_26 rfl (lv_at hl 0 rfl) ?_
  refine lv_ishr hx hb dX11_putOnTape_27 ?_
  refine lv_topi (fun v_18 ev_18 => ?_)
  refine lv_sipush (v := 255) hx hb dX11_putOnTape_28 (by decide) ?_
  refine lv_iand hx hb dX11_putOnTape_31 ?_
  refine lv_topi (fun v_19 ev_19 => ?_)
  refine va_iast hx hb hK hP hD hS 1 0 rfl rfl (by unfold vp_in; decide) dX11_putOnTape_32 (fun H locs hP hD hS => ?_)
  have hP : va_P (dC, dI) vwCl [(xX, .inr (11, [.ref xT, .int 7, .ref xW, .ref xR, .ref xM, .ref xS, .int (-1), .int 0, .int (-1)])), (xT, .inl (cT, 340, .inl (upd f_15 (7 : Int32).toNatClampNeg v_19)))] H := hP
  have hD : va_D A [(xX, .inr (11, [.ref xT, .int 7, .ref xW, .ref xR, .ref xM, .ref xS, .int (-1), .int 0, .int (-1)])), (xT, .inl (cT, 340, .inl (upd f_15 (7 : Int32).toNatClampNeg v_19)))] := hD
  obtain ⟨f_20, ef_20⟩ : ∃ z : Nat → Int32, z = (upd f_15 (7 : Int32).toNatClampNeg v_19) := ⟨_, rfl⟩
  rw [← ef_20] at hP hD
  refine lv_aload_n hx hb dX11_putOnTape_33 rfl (lv_at hl 1 rfl) ?_
  refine lv_dup hx hb dX11_putOnTape_34 rfl ?_
  refine va_get (D := (dC, dI)) (ci := 11) (v := .int 7) (C := RX11) (T := TX11) (N := 9) hx hb hts iCX11 hown hK hP 0 rfl rfl 1 (by decide) (hts (.fieldLink RX11 50 "WalkingTown" "tapeSize" "I") (List.mem_cons_of_mem _ kw_3_92)) (fun _ h9 => h9) rfl dX11_putOnTape_35 ?_
  refine lv_iconst (v := 1) hx hb dX11_putOnTape_38 (by decide) ?_
  refine lv_iadd hx hb dX11_putOnTape_39 ?_
  refine my_ti (y := 8) (by decide) ?_
  refine va_put (D := (dC, dI)) (ci := 11) (v := .int 8) (ty := .int) (C := RX11) (T := TX11) (N := 9) hx hb hts iCX11 tyX11 tyX11_ok nmX11 hown hK hP hD hS 0 rfl rfl 1 (by decide) (hts (.fieldLink RX11 50 "WalkingTown" "tapeSize" "I") (List.mem_cons_of_mem _ kw_3_92)) (fun _ h9 => h9) rfl (by decide +kernel) rfl rfl (Nat.le_of_ble_eq_true rfl) dX11_putOnTape_40 (fun H locs hP hD hS => ?_)
  have hP : va_P (dC, dI) vwCl [(xX, .inr (11, [.ref xT, .int 8, .ref xW, .ref xR, .ref xM, .ref xS, .int (-1), .int 0, .int (-1)])), (xT, .inl (cT, 340, .inl f_20))] H := hP
  have hD : va_D A [(xX, .inr (11, [.ref xT, .int 8, .ref xW, .ref xR, .ref xM, .ref xS, .int (-1), .int 0, .int (-1)])), (xT, .inl (cT, 340, .inl f_20))] := hD
  refine lv_iinc (v := (-8)) (lv' := [(2, .int (-8)), (0, .ref xX), (1, .int a)]) hx hb dX11_putOnTape_43 hl (k := 0) rfl (by decide) (by decide) rfl (fun ls hl => ?_)
  refine lv_goto (tgt := 3) hx hb dX11_putOnTape_46 (by decide) ?_
  refine lv_iload_n hx hb dX11_putOnTape_3 rfl (lv_at hl 0 rfl) ?_
  refine lv_if_lt (tgt := 49) hx hb dX11_putOnTape_4 (by decide) (fun c_21 => ?_) (fun c_21 => ?_)
  rotate_left
  · exact (c_21 (by decide)).elim
  have hP9 := hP.sub (ws' := [(xX, .inr (11, [.ref xT, .int 8, .ref xW, .ref xR, .ref xM, .ref xS, .int (-1), .int 0, .int (-1)])), (xT, .inl (cT, 340, .inl f_20))]) [0, 1] rfl
  have hD9 := hD.sub (ws' := [(xX, .inr (11, [.ref xT, .int 8, .ref xW, .ref xR, .ref xM, .ref xS, .int (-1), .int 0, .int (-1)])), (xT, .inl (cT, 340, .inl f_20))]) [0, 1] (by decide) rfl
  have hK9 := hK.sub (tys' := [(cT, .int)]) [0] rfl
  refine W.widen (k := 0) (n := 0) (Nat.le_of_ble_eq_true rfl) (Nat.le_of_ble_eq_true rfl) ?_
  exact W.vret hx hb hr (fun t ht hW => ⟨⟨(), rfl, trivial, ⟨f_20, by rw [ht]; exact hP9, va_K.moved hW.alike hK9, hD9⟩⟩, hS.F ht⟩) hS.2.2 dX11_putOnTape_49
set_option maxHeartbeats 4000000 in
set_option maxRecDepth 100000 in
theorem c_put_8 (l : Launch) (dC : Nat → ClassId) (dI : Nat → Nat → Nat) (sz : Nat) (a : Int32) (fT : Nat → Int32) (xX : Nat) (xT : Nat) (xW : Nat) (xR : Nat) (xM : Nat) (xS : Nat) (cT : ClassId) : Met l yX11_putOnTape (.code yX11_putOnTape cX11_putOnTape 3 none :: lw_good) ({ frames := 2, cells := 0, slots := 0, locals := 60 }) (va_Pc [.ref xX, .int a] (fun U => U.heap.size = sz ∧ va_P (dC, dI) vwCl [(xX, .inr (11, [.ref xT, .int 8, .ref xW, .ref xR, .ref xM, .ref xS, .int (-1), .int 0, .int (-1)])), (xT, .inl (cT, 340, .inl fT))] U.heap ∧ va_K (dC, dI) vwCl [(cT, .int)] U ∧ va_D (fun _ => True) [(xX, .inr (11, [.ref xT, .int 8, .ref xW, .ref xR, .ref xM, .ref xS, .int (-1), .int 0, .int (-1)])), (xT, .inl (cT, 340, .inl fT))])) (va_Qv (fun (_ : Unit) => True) (fun (_ : Unit) (t : State) => ∃ (gT : Nat → Int32), va_P (dC, dI) vwCl [(xX, .inr (11, [.ref xT, .int 12, .ref xW, .ref xR, .ref xM, .ref xS, .int (-1), .int 0, .int (-1)])), (xT, .inl (cT, 340, .inl gT))] t.heap ∧ va_K (dC, dI) vwCl [(cT, .int)] t ∧ va_D (va_A [(xX, .inr (11, [.ref xT, .int 8, .ref xW, .ref xR, .ref xM, .ref xS, .int (-1), .int 0, .int (-1)])), (xT, .inl (cT, 340, .inl fT))] sz) [(xX, .inr (11, [.ref xT, .int 12, .ref xW, .ref xR, .ref xM, .ref xS, .int (-1), .int 0, .int (-1)])), (xT, .inl (cT, 340, .inl gT))]) (va_A [(xX, .inr (11, [.ref xT, .int 8, .ref xW, .ref xR, .ref xM, .ref xS, .int (-1), .int 0, .int (-1)])), (xT, .inl (cT, 340, .inl fT))] sz)) 0 0 (va_A [(xX, .inr (11, [.ref xT, .int 8, .ref xW, .ref xR, .ref xM, .ref xS, .int (-1), .int 0, .int (-1)])), (xT, .inl (cT, 340, .inl fT))] sz) := by
  refine Met.ofW (cc := cX11_putOnTape) (maxL := 3) (ret := none) (by decide) rfl ?_
  intro p e s m args below meth c s₁ B hml hv
  obtain ⟨rfl, hsz, hP, hK, hD0⟩ := hv
  have hx := B.exec
  have hb := B.bytes
  have hr := B.returns
  have hts := atoms_spec (ws := (.code yX11_putOnTape cX11_putOnTape 3 none :: lw_good)) B.pre
  have hown : s.vm.findClass RX11 = some m.cls := findClass_of_methodNamed B.named
  have hlocks := B.notSynchronized
  subst hsz
  have hD := hD0.self (sz := s.heap.size)
  generalize hAe : va_A [(xX, .inr (11, [.ref xT, .int 8, .ref xW, .ref xR, .ref xM, .ref xS, .int (-1), .int 0, .int (-1)])), (xT, .inl (cT, 340, .inl fT))] s.heap.size = A at hD ⊢
  have hA : ∀ q : Nat, s.heap.size ≤ q → A q := fun q h => by rw [← hAe]; exact Or.inr h
  have hS : va_S A s.heap s.heap [] := va_S.rf
  have hP : va_P (dC, dI) vwCl [(xX, .inr (11, [.ref xT, .int 8, .ref xW, .ref xR, .ref xM, .ref xS, .int (-1), .int 0, .int (-1)])), (xT, .inl (cT, 340, .inl fT))] s.heap := hP
  have hl := lv_entry ([.ref xX, .int a]) (n := 3) (Nat.le_of_ble_eq_true rfl)
  rw [lg_entry_eq]
  generalize (lg_sl ([.ref xX, .int a]) ++ List.replicate (3 - (lg_sl ([.ref xX, .int a])).length) Slot.unset).toArray = ls at hl ⊢
  have hl : lv_has ls 3 [(0, .ref xX), (1, .int a)] := hl
  refine lv_bipush (v := 24) hx hb dX11_putOnTape_0 (by decide) ?_
  refine lv_istore_n (lv' := [(2, .int 24), (0, .ref xX), (1, .int a)]) hx hb dX11_putOnTape_2 rfl hl (by decide) rfl (fun ls hl => ?_)
  refine lv_iload_n hx hb dX11_putOnTape_3 rfl (lv_at hl 0 rfl) ?_
  refine lv_if_lt (tgt := 49) hx hb dX11_putOnTape_4 (by decide) (fun c_1 => ?_) (fun c_1 => ?_)
  · exact absurd c_1 (by decide)
  refine lv_aload_n hx hb dX11_putOnTape_7 rfl (lv_at hl 1 rfl) ?_
  refine va_get (D := (dC, dI)) (ci := 11) (v := .int 8) (C := RX11) (T := TX11) (N := 9) hx hb hts iCX11 hown hK hP 0 rfl rfl 1 (by decide) (hts (.fieldLink RX11 50 "WalkingTown" "tapeSize" "I") (List.mem_cons_of_mem _ kw_3_92)) (fun _ h9 => h9) rfl dX11_putOnTape_8 ?_
  refine lv_sipush (v := 340) hx hb dX11_putOnTape_11 (by decide) ?_
  refine lv_icmp_ge (tgt := 49) hx hb dX11_putOnTape_14 (by decide) (fun c_2 => ?_) (fun c_2 => ?_)
  · exact absurd c_2 (by decide)
  refine lv_aload_n hx hb dX11_putOnTape_17 rfl (lv_at hl 1 rfl) ?_
  refine va_get (D := (dC, dI)) (ci := 11) (v := .ref xT) (C := RX11) (T := TX11) (N := 9) hx hb hts iCX11 hown hK hP 0 rfl rfl 0 (by decide) (hts (.fieldLink RX11 9 "WalkingTown" "tape" "[I") (List.mem_cons_of_mem _ kw_3_91)) (fun _ h9 => h9) rfl dX11_putOnTape_18 ?_
  refine lv_aload_n hx hb dX11_putOnTape_21 rfl (lv_at hl 1 rfl) ?_
  refine va_get (D := (dC, dI)) (ci := 11) (v := .int 8) (C := RX11) (T := TX11) (N := 9) hx hb hts iCX11 hown hK hP 0 rfl rfl 1 (by decide) (hts (.fieldLink RX11 50 "WalkingTown" "tapeSize" "I") (List.mem_cons_of_mem _ kw_3_92)) (fun _ h9 => h9) rfl dX11_putOnTape_22 ?_
  refine lv_iload_n hx hb dX11_putOnTape_25 rfl (lv_at hl 2 rfl) ?_
  refine lv_iload_n hx hb dX11_putOnTape_26 rfl (lv_at hl 0 rfl) ?_
  refine lv_ishr hx hb dX11_putOnTape_27 ?_
  refine lv_topi (fun v_3 ev_3 => ?_)
  refine lv_sipush (v := 255) hx hb dX11_putOnTape_28 (by decide) ?_
  refine lv_iand hx hb dX11_putOnTape_31 ?_
  refine lv_topi (fun v_4 ev_4 => ?_)
  refine va_iast hx hb hK hP hD hS 1 0 rfl rfl (by unfold vp_in; decide) dX11_putOnTape_32 (fun H locs hP hD hS => ?_)
  have hP : va_P (dC, dI) vwCl [(xX, .inr (11, [.ref xT, .int 8, .ref xW, .ref xR, .ref xM, .ref xS, .int (-1), .int 0, .int (-1)])), (xT, .inl (cT, 340, .inl (upd fT (8 : Int32).toNatClampNeg v_4)))] H := hP
  have hD : va_D A [(xX, .inr (11, [.ref xT, .int 8, .ref xW, .ref xR, .ref xM, .ref xS, .int (-1), .int 0, .int (-1)])), (xT, .inl (cT, 340, .inl (upd fT (8 : Int32).toNatClampNeg v_4)))] := hD
  obtain ⟨f_5, ef_5⟩ : ∃ z : Nat → Int32, z = (upd fT (8 : Int32).toNatClampNeg v_4) := ⟨_, rfl⟩
  rw [← ef_5] at hP hD
  refine lv_aload_n hx hb dX11_putOnTape_33 rfl (lv_at hl 1 rfl) ?_
  refine lv_dup hx hb dX11_putOnTape_34 rfl ?_
  refine va_get (D := (dC, dI)) (ci := 11) (v := .int 8) (C := RX11) (T := TX11) (N := 9) hx hb hts iCX11 hown hK hP 0 rfl rfl 1 (by decide) (hts (.fieldLink RX11 50 "WalkingTown" "tapeSize" "I") (List.mem_cons_of_mem _ kw_3_92)) (fun _ h9 => h9) rfl dX11_putOnTape_35 ?_
  refine lv_iconst (v := 1) hx hb dX11_putOnTape_38 (by decide) ?_
  refine lv_iadd hx hb dX11_putOnTape_39 ?_
  refine my_ti (y := 9) (by decide) ?_
  refine va_put (D := (dC, dI)) (ci := 11) (v := .int 9) (ty := .int) (C := RX11) (T := TX11) (N := 9) hx hb hts iCX11 tyX11 tyX11_ok nmX11 hown hK hP hD hS 0 rfl rfl 1 (by decide) (hts (.fieldLink RX11 50 "WalkingTown" "tapeSize" "I") (List.mem_cons_of_mem _ kw_3_92)) (fun _ h9 => h9) rfl (by decide +kernel) rfl rfl (Nat.le_of_ble_eq_true rfl) dX11_putOnTape_40 (fun H locs hP hD hS => ?_)
  have hP : va_P (dC, dI) vwCl [(xX, .inr (11, [.ref xT, .int 9, .ref xW, .ref xR, .ref xM, .ref xS, .int (-1), .int 0, .int (-1)])), (xT, .inl (cT, 340, .inl f_5))] H := hP
  have hD : va_D A [(xX, .inr (11, [.ref xT, .int 9, .ref xW, .ref xR, .ref xM, .ref xS, .int (-1), .int 0, .int (-1)])), (xT, .inl (cT, 340, .inl f_5))] := hD
  refine lv_iinc (v := 16) (lv' := [(2, .int 16), (0, .ref xX), (1, .int a)]) hx hb dX11_putOnTape_43 hl (k := 0) rfl (by decide) (by decide) rfl (fun ls hl => ?_)
  refine lv_goto (tgt := 3) hx hb dX11_putOnTape_46 (by decide) ?_
  refine lv_iload_n hx hb dX11_putOnTape_3 rfl (lv_at hl 0 rfl) ?_
  refine lv_if_lt (tgt := 49) hx hb dX11_putOnTape_4 (by decide) (fun c_6 => ?_) (fun c_6 => ?_)
  · exact absurd c_6 (by decide)
  refine lv_aload_n hx hb dX11_putOnTape_7 rfl (lv_at hl 1 rfl) ?_
  refine va_get (D := (dC, dI)) (ci := 11) (v := .int 9) (C := RX11) (T := TX11) (N := 9) hx hb hts iCX11 hown hK hP 0 rfl rfl 1 (by decide) (hts (.fieldLink RX11 50 "WalkingTown" "tapeSize" "I") (List.mem_cons_of_mem _ kw_3_92)) (fun _ h9 => h9) rfl dX11_putOnTape_8 ?_
  refine lv_sipush (v := 340) hx hb dX11_putOnTape_11 (by decide) ?_
  refine lv_icmp_ge (tgt := 49) hx hb dX11_putOnTape_14 (by decide) (fun c_7 => ?_) (fun c_7 => ?_)
  · exact absurd c_7 (by decide)
  refine lv_aload_n hx hb dX11_putOnTape_17 rfl (lv_at hl 1 rfl) ?_
  refine va_get (D := (dC, dI)) (ci := 11) (v := .ref xT) (C := RX11) (T := TX11) (N := 9) hx hb hts iCX11 hown hK hP 0 rfl rfl 0 (by decide) (hts (.fieldLink RX11 9 "WalkingTown" "tape" "[I") (List.mem_cons_of_mem _ kw_3_91)) (fun _ h9 => h9) rfl dX11_putOnTape_18 ?_
  refine lv_aload_n hx hb dX11_putOnTape_21 rfl (lv_at hl 1 rfl) ?_
  refine va_get (D := (dC, dI)) (ci := 11) (v := .int 9) (C := RX11) (T := TX11) (N := 9) hx hb hts iCX11 hown hK hP 0 rfl rfl 1 (by decide) (hts (.fieldLink RX11 50 "WalkingTown" "tapeSize" "I") (List.mem_cons_of_mem _ kw_3_92)) (fun _ h9 => h9) rfl dX11_putOnTape_22 ?_
  refine lv_iload_n hx hb dX11_putOnTape_25 rfl (lv_at hl 2 rfl) ?_
  refine lv_iload_n hx hb dX11_putOnTape_26 rfl (lv_at hl 0 rfl) ?_
  refine lv_ishr hx hb dX11_putOnTape_27 ?_
  refine lv_topi (fun v_8 ev_8 => ?_)
  refine lv_sipush (v := 255) hx hb dX11_putOnTape_28 (by decide) ?_
  refine lv_iand hx hb dX11_putOnTape_31 ?_
  refine lv_topi (fun v_9 ev_9 => ?_)
  refine va_iast hx hb hK hP hD hS 1 0 rfl rfl (by unfold vp_in; decide) dX11_putOnTape_32 (fun H locs hP hD hS => ?_)
  have hP : va_P (dC, dI) vwCl [(xX, .inr (11, [.ref xT, .int 9, .ref xW, .ref xR, .ref xM, .ref xS, .int (-1), .int 0, .int (-1)])), (xT, .inl (cT, 340, .inl (upd f_5 (9 : Int32).toNatClampNeg v_9)))] H := hP
  have hD : va_D A [(xX, .inr (11, [.ref xT, .int 9, .ref xW, .ref xR, .ref xM, .ref xS, .int (-1), .int 0, .int (-1)])), (xT, .inl (cT, 340, .inl (upd f_5 (9 : Int32).toNatClampNeg v_9)))] := hD
  obtain ⟨f_10, ef_10⟩ : ∃ z : Nat → Int32, z = (upd f_5 (9 : Int32).toNatClampNeg v_9) := ⟨_, rfl⟩
  rw [← ef_10] at hP hD
  refine lv_aload_n hx hb dX11_putOnTape_33 rfl (lv_at hl 1 rfl) ?_
  refine lv_dup hx hb dX11_putOnTape_34 rfl ?_
  refine va_get (D := (dC, dI)) (ci := 11) (v := .int 9) (C := RX11) (T := TX11) (N := 9) hx hb hts iCX11 hown hK hP 0 rfl rfl 1 (by decide) (hts (.fieldLink RX11 50 "WalkingTown" "tapeSize" "I") (List.mem_cons_of_mem _ kw_3_92)) (fun _ h9 => h9) rfl dX11_putOnTape_35 ?_
  refine lv_iconst (v := 1) hx hb dX11_putOnTape_38 (by decide) ?_
  refine lv_iadd hx hb dX11_putOnTape_39 ?_
  refine my_ti (y := 10) (by decide) ?_
  refine va_put (D := (dC, dI)) (ci := 11) (v := .int 10) (ty := .int) (C := RX11) (T := TX11) (N := 9) hx hb hts iCX11 tyX11 tyX11_ok nmX11 hown hK hP hD hS 0 rfl rfl 1 (by decide) (hts (.fieldLink RX11 50 "WalkingTown" "tapeSize" "I") (List.mem_cons_of_mem _ kw_3_92)) (fun _ h9 => h9) rfl (by decide +kernel) rfl rfl (Nat.le_of_ble_eq_true rfl) dX11_putOnTape_40 (fun H locs hP hD hS => ?_)
  have hP : va_P (dC, dI) vwCl [(xX, .inr (11, [.ref xT, .int 10, .ref xW, .ref xR, .ref xM, .ref xS, .int (-1), .int 0, .int (-1)])), (xT, .inl (cT, 340, .inl f_10))] H := hP
  have hD : va_D A [(xX, .inr (11, [.ref xT, .int 10, .ref xW, .ref xR, .ref xM, .ref xS, .int (-1), .int 0, .int (-1)])), (xT, .inl (cT, 340, .inl f_10))] := hD
  refine lv_iinc (v := 8) (lv' := [(2, .int 8), (0, .ref xX), (1, .int a)]) hx hb dX11_putOnTape_43 hl (k := 0) rfl (by decide) (by decide) rfl (fun ls hl => ?_)
  refine lv_goto (tgt := 3) hx hb dX11_putOnTape_46 (by decide) ?_
  refine lv_iload_n hx hb dX11_putOnTape_3 rfl (lv_at hl 0 rfl) ?_
  refine lv_if_lt (tgt := 49) hx hb dX11_putOnTape_4 (by decide) (fun c_11 => ?_) (fun c_11 => ?_)
  · exact absurd c_11 (by decide)
  refine lv_aload_n hx hb dX11_putOnTape_7 rfl (lv_at hl 1 rfl) ?_
  refine va_get (D := (dC, dI)) (ci := 11) (v := .int 10) (C := RX11) (T := TX11) (N := 9) hx hb hts iCX11 hown hK hP 0 rfl rfl 1 (by decide) (hts (.fieldLink RX11 50 "WalkingTown" "tapeSize" "I") (List.mem_cons_of_mem _ kw_3_92)) (fun _ h9 => h9) rfl dX11_putOnTape_8 ?_
  refine lv_sipush (v := 340) hx hb dX11_putOnTape_11 (by decide) ?_
  refine lv_icmp_ge (tgt := 49) hx hb dX11_putOnTape_14 (by decide) (fun c_12 => ?_) (fun c_12 => ?_)
  · exact absurd c_12 (by decide)
  refine lv_aload_n hx hb dX11_putOnTape_17 rfl (lv_at hl 1 rfl) ?_
  refine va_get (D := (dC, dI)) (ci := 11) (v := .ref xT) (C := RX11) (T := TX11) (N := 9) hx hb hts iCX11 hown hK hP 0 rfl rfl 0 (by decide) (hts (.fieldLink RX11 9 "WalkingTown" "tape" "[I") (List.mem_cons_of_mem _ kw_3_91)) (fun _ h9 => h9) rfl dX11_putOnTape_18 ?_
  refine lv_aload_n hx hb dX11_putOnTape_21 rfl (lv_at hl 1 rfl) ?_
  refine va_get (D := (dC, dI)) (ci := 11) (v := .int 10) (C := RX11) (T := TX11) (N := 9) hx hb hts iCX11 hown hK hP 0 rfl rfl 1 (by decide) (hts (.fieldLink RX11 50 "WalkingTown" "tapeSize" "I") (List.mem_cons_of_mem _ kw_3_92)) (fun _ h9 => h9) rfl dX11_putOnTape_22 ?_
  refine lv_iload_n hx hb dX11_putOnTape_25 rfl (lv_at hl 2 rfl) ?_
  refine lv_iload_n hx hb dX11_putOnTape_26 rfl (lv_at hl 0 rfl) ?_
  refine lv_ishr hx hb dX11_putOnTape_27 ?_
  refine lv_topi (fun v_13 ev_13 => ?_)
  refine lv_sipush (v := 255) hx hb dX11_putOnTape_28 (by decide) ?_
  refine lv_iand hx hb dX11_putOnTape_31 ?_
  refine lv_topi (fun v_14 ev_14 => ?_)
  refine va_iast hx hb hK hP hD hS 1 0 rfl rfl (by unfold vp_in; decide) dX11_putOnTape_32 (fun H locs hP hD hS => ?_)
  have hP : va_P (dC, dI) vwCl [(xX, .inr (11, [.ref xT, .int 10, .ref xW, .ref xR, .ref xM, .ref xS, .int (-1), .int 0, .int (-1)])), (xT, .inl (cT, 340, .inl (upd f_10 (10 : Int32).toNatClampNeg v_14)))] H := hP
  have hD : va_D A [(xX, .inr (11, [.ref xT, .int 10, .ref xW, .ref xR, .ref xM, .ref xS, .int (-1), .int 0, .int (-1)])), (xT, .inl (cT, 340, .inl (upd f_10 (10 : Int32).toNatClampNeg v_14)))] := hD
  obtain ⟨f_15, ef_15⟩ : ∃ z : Nat → Int32, z = (upd f_10 (10 : Int32).toNatClampNeg v_14) := ⟨_, rfl⟩
  rw [← ef_15] at hP hD
  refine lv_aload_n hx hb dX11_putOnTape_33 rfl (lv_at hl 1 rfl) ?_
  refine lv_dup hx hb dX11_putOnTape_34 rfl ?_
  refine va_get (D := (dC, dI)) (ci := 11) (v := .int 10) (C := RX11) (T := TX11) (N := 9) hx hb hts iCX11 hown hK hP 0 rfl rfl 1 (by decide) (hts (.fieldLink RX11 50 "WalkingTown" "tapeSize" "I") (List.mem_cons_of_mem _ kw_3_92)) (fun _ h9 => h9) rfl dX11_putOnTape_35 ?_
  refine lv_iconst (v := 1) hx hb dX11_putOnTape_38 (by decide) ?_
  refine lv_iadd hx hb dX11_putOnTape_39 ?_
  refine my_ti (y := 11) (by decide) ?_
  refine va_put (D := (dC, dI)) (ci := 11) (v := .int 11) (ty := .int) (C := RX11) (T := TX11) (N := 9) hx hb hts iCX11 tyX11 tyX11_ok nmX11 hown hK hP hD hS 0 rfl rfl 1 (by decide) (hts (.fieldLink RX11 50 "WalkingTown" "tapeSize" "I") (List.mem_cons_of_mem _ kw_3_92)) (fun _ h9 => h9) rfl (by decide +kernel) rfl rfl (Nat.le_of_ble_eq_true rfl) dX11_putOnTape_40 (fun H locs hP hD hS => ?_)
  have hP : va_P (dC, dI) vwCl [(xX, .inr (11, [.ref xT, .int 11, .ref xW, .ref xR, .ref xM, .ref xS, .int (-1), .int 0, .int (-1)])), (xT, .inl (cT, 340, .inl f_15))] H := hP
  have hD : va_D A [(xX, .inr (11, [.ref xT, .int 11, .ref xW, .ref xR, .ref xM, .ref xS, .int (-1), .int 0, .int (-1)])), (xT, .inl (cT, 340, .inl f_15))] := hD
  refine lv_iinc (v := 0) (lv' := [(2, .int 0), (0, .ref xX), (1, .int a)]) hx hb dX11_putOnTape_43 hl (k := 0) rfl (by decide) (by decide) rfl (fun ls hl => ?_)
  refine lv_goto (tgt := 3) hx hb dX11_putOnTape_46 (by decide) ?_
  refine lv_iload_n hx hb dX11_putOnTape_3 rfl (lv_at hl 0 rfl) ?_
  refine lv_if_lt (tgt := 49) hx hb dX11_putOnTape_4 (by decide) (fun c_16 => ?_) (fun c_16 => ?_)
  · exact absurd c_16 (by decide)
  refine lv_aload_n hx hb dX11_putOnTape_7 rfl (lv_at hl 1 rfl) ?_
  refine va_get (D := (dC, dI)) (ci := 11) (v := .int 11) (C := RX11) (T := TX11) (N := 9) hx hb hts iCX11 hown hK hP 0 rfl rfl 1 (by decide) (hts (.fieldLink RX11 50 "WalkingTown" "tapeSize" "I") (List.mem_cons_of_mem _ kw_3_92)) (fun _ h9 => h9) rfl dX11_putOnTape_8 ?_
  refine lv_sipush (v := 340) hx hb dX11_putOnTape_11 (by decide) ?_
  refine lv_icmp_ge (tgt := 49) hx hb dX11_putOnTape_14 (by decide) (fun c_17 => ?_) (fun c_17 => ?_)
  · exact absurd c_17 (by decide)
  refine lv_aload_n hx hb dX11_putOnTape_17 rfl (lv_at hl 1 rfl) ?_
  refine va_get (D := (dC, dI)) (ci := 11) (v := .ref xT) (C := RX11) (T := TX11) (N := 9) hx hb hts iCX11 hown hK hP 0 rfl rfl 0 (by decide) (hts (.fieldLink RX11 9 "WalkingTown" "tape" "[I") (List.mem_cons_of_mem _ kw_3_91)) (fun _ h9 => h9) rfl dX11_putOnTape_18 ?_
  refine lv_aload_n hx hb dX11_putOnTape_21 rfl (lv_at hl 1 rfl) ?_
  refine va_get (D := (dC, dI)) (ci := 11) (v := .int 11) (C := RX11) (T := TX11) (N := 9) hx hb hts iCX11 hown hK hP 0 rfl rfl 1 (by decide) (hts (.fieldLink RX11 50 "WalkingTown" "tapeSize" "I") (List.mem_cons_of_mem _ kw_3_92)) (fun _ h9 => h9) rfl dX11_putOnTape_22 ?_
  refine lv_iload_n hx hb dX11_putOnTape_25 rfl (lv_at hl 2 rfl) ?_
  refine lv_iload_n hx hb dX11_putOnTape_26 rfl (lv_at hl 0 rfl) ?_
  refine lv_ishr hx hb dX11_putOnTape_27 ?_
  refine lv_topi (fun v_18 ev_18 => ?_)
  refine lv_sipush (v := 255) hx hb dX11_putOnTape_28 (by decide) ?_
  refine lv_iand hx hb dX11_putOnTape_31 ?_
  refine lv_topi (fun v_19 ev_19 => ?_)
  refine va_iast hx hb hK hP hD hS 1 0 rfl rfl (by unfold vp_in; decide) dX11_putOnTape_32 (fun H locs hP hD hS => ?_)
  have hP : va_P (dC, dI) vwCl [(xX, .inr (11, [.ref xT, .int 11, .ref xW, .ref xR, .ref xM, .ref xS, .int (-1), .int 0, .int (-1)])), (xT, .inl (cT, 340, .inl (upd f_15 (11 : Int32).toNatClampNeg v_19)))] H := hP
  have hD : va_D A [(xX, .inr (11, [.ref xT, .int 11, .ref xW, .ref xR, .ref xM, .ref xS, .int (-1), .int 0, .int (-1)])), (xT, .inl (cT, 340, .inl (upd f_15 (11 : Int32).toNatClampNeg v_19)))] := hD
  obtain ⟨f_20, ef_20⟩ : ∃ z : Nat → Int32, z = (upd f_15 (11 : Int32).toNatClampNeg v_19) := ⟨_, rfl⟩
  rw [← ef_20] at hP hD
  refine lv_aload_n hx hb dX11_putOnTape_33 rfl (lv_at hl 1 rfl) ?_
  refine lv_dup hx hb dX11_putOnTape_34 rfl ?_
  refine va_get (D := (dC, dI)) (ci := 11) (v := .int 11) (C := RX11) (T := TX11) (N := 9) hx hb hts iCX11 hown hK hP 0 rfl rfl 1 (by decide) (hts (.fieldLink RX11 50 "WalkingTown" "tapeSize" "I") (List.mem_cons_of_mem _ kw_3_92)) (fun _ h9 => h9) rfl dX11_putOnTape_35 ?_
  refine lv_iconst (v := 1) hx hb dX11_putOnTape_38 (by decide) ?_
  refine lv_iadd hx hb dX11_putOnTape_39 ?_
  refine my_ti (y := 12) (by decide) ?_
  refine va_put (D := (dC, dI)) (ci := 11) (v := .int 12) (ty := .int) (C := RX11) (T := TX11) (N := 9) hx hb hts iCX11 tyX11 tyX11_ok nmX11 hown hK hP hD hS 0 rfl rfl 1 (by decide) (hts (.fieldLink RX11 50 "WalkingTown" "tapeSize" "I") (List.mem_cons_of_mem _ kw_3_92)) (fun _ h9 => h9) rfl (by decide +kernel) rfl rfl (Nat.le_of_ble_eq_true rfl) dX11_putOnTape_40 (fun H locs hP hD hS => ?_)
  have hP : va_P (dC, dI) vwCl [(xX, .inr (11, [.ref xT, .int 12, .ref xW, .ref xR, .ref xM, .ref xS, .int (-1), .int 0, .int (-1)])), (xT, .inl (cT, 340, .inl f_20))] H := hP
  have hD : va_D A [(xX, .inr (11, [.ref xT, .int 12, .ref xW, .ref xR, .ref xM, .ref xS, .int (-1), .int 0, .int (-1)])), (xT, .inl (cT, 340, .inl f_20))] := hD
  refine lv_iinc (v := (-8)) (lv' := [(2, .int (-8)), (0, .ref xX), (1, .int a)]) hx hb dX11_putOnTape_43 hl (k := 0) rfl (by decide) (by decide) rfl (fun ls hl => ?_)
  refine lv_goto (tgt := 3) hx hb dX11_putOnTape_46 (by decide) ?_
  refine lv_iload_n hx hb dX11_putOnTape_3 rfl (lv_at hl 0 rfl) ?_
  refine lv_if_lt (tgt := 49) hx hb dX11_putOnTape_4 (by decide) (fun c_21 => ?_) (fun c_21 => ?_)
  rotate_left
  · exact (c_21 (by decide)).elim
  have hP9 := hP.sub (ws' := [(xX, .inr (11, [.ref xT, .int 12, .ref xW, .ref xR, .ref xM, .ref xS, .int (-1), .int 0, .int (-1)])), (xT, .inl (cT, 340, .inl f_20))]) [0, 1] rfl
  have hD9 := hD.sub (ws' := [(xX, .inr (11, [.ref xT, .int 12, .ref xW, .ref xR, .ref xM, .ref xS, .int (-1), .int 0, .int (-1)])), (xT, .inl (cT, 340, .inl f_20))]) [0, 1] (by decide) rfl
  have hK9 := hK.sub (tys' := [(cT, .int)]) [0] rfl
  refine W.widen (k := 0) (n := 0) (Nat.le_of_ble_eq_true rfl) (Nat.le_of_ble_eq_true rfl) ?_
  exact W.vret hx hb hr (fun t ht hW => ⟨⟨(), rfl, trivial, ⟨f_20, by rw [ht]; exact hP9, va_K.moved hW.alike hK9, hD9⟩⟩, hS.F ht⟩) hS.2.2 dX11_putOnTape_49
set_option maxHeartbeats 4000000 in
set_option maxRecDepth 100000 in
theorem c_put_12 (l : Launch) (dC : Nat → ClassId) (dI : Nat → Nat → Nat) (sz : Nat) (a : Int32) (fT : Nat → Int32) (xX : Nat) (xT : Nat) (xW : Nat) (xR : Nat) (xM : Nat) (xS : Nat) (cT : ClassId) : Met l yX11_putOnTape (.code yX11_putOnTape cX11_putOnTape 3 none :: lw_good) ({ frames := 2, cells := 0, slots := 0, locals := 60 }) (va_Pc [.ref xX, .int a] (fun U => U.heap.size = sz ∧ va_P (dC, dI) vwCl [(xX, .inr (11, [.ref xT, .int 12, .ref xW, .ref xR, .ref xM, .ref xS, .int (-1), .int 0, .int (-1)])), (xT, .inl (cT, 340, .inl fT))] U.heap ∧ va_K (dC, dI) vwCl [(cT, .int)] U ∧ va_D (fun _ => True) [(xX, .inr (11, [.ref xT, .int 12, .ref xW, .ref xR, .ref xM, .ref xS, .int (-1), .int 0, .int (-1)])), (xT, .inl (cT, 340, .inl fT))])) (va_Qv (fun (_ : Unit) => True) (fun (_ : Unit) (t : State) => ∃ (gT : Nat → Int32), va_P (dC, dI) vwCl [(xX, .inr (11, [.ref xT, .int 16, .ref xW, .ref xR, .ref xM, .ref xS, .int (-1), .int 0, .int (-1)])), (xT, .inl (cT, 340, .inl gT))] t.heap ∧ va_K (dC, dI) vwCl [(cT, .int)] t ∧ va_D (va_A [(xX, .inr (11, [.ref xT, .int 12, .ref xW, .ref xR, .ref xM, .ref xS, .int (-1), .int 0, .int (-1)])), (xT, .inl (cT, 340, .inl fT))] sz) [(xX, .inr (11, [.ref xT, .int 16, .ref xW, .ref xR, .ref xM, .ref xS, .int (-1), .int 0, .int (-1)])), (xT, .inl (cT, 340, .inl gT))]) (va_A [(xX, .inr (11, [.ref xT, .int 12, .ref xW, .ref xR, .ref xM, .ref xS, .int (-1), .int 0, .int (-1)])), (xT, .inl (cT, 340, .inl fT))] sz)) 0 0 (va_A [(xX, .inr (11, [.ref xT, .int 12, .ref xW, .ref xR, .ref xM, .ref xS, .int (-1), .int 0, .int (-1)])), (xT, .inl (cT, 340, .inl fT))] sz) := by
  refine Met.ofW (cc := cX11_putOnTape) (maxL := 3) (ret := none) (by decide) rfl ?_
  intro p e s m args below meth c s₁ B hml hv
  obtain ⟨rfl, hsz, hP, hK, hD0⟩ := hv
  have hx := B.exec
  have hb := B.bytes
  have hr := B.returns
  have hts := atoms_spec (ws := (.code yX11_putOnTape cX11_putOnTape 3 none :: lw_good)) B.pre
  have hown : s.vm.findClass RX11 = some m.cls := findClass_of_methodNamed B.named
  have hlocks := B.notSynchronized
  subst hsz
  have hD := hD0.self (sz := s.heap.size)
  generalize hAe : va_A [(xX, .inr (11, [.ref xT, .int 12, .ref xW, .ref xR, .ref xM, .ref xS, .int (-1), .int 0, .int (-1)])), (xT, .inl (cT, 340, .inl fT))] s.heap.size = A at hD ⊢
  have hA : ∀ q : Nat, s.heap.size ≤ q → A q := fun q h => by rw [← hAe]; exact Or.inr h
  have hS : va_S A s.heap s.heap [] := va_S.rf
  have hP : va_P (dC, dI) vwCl [(xX, .inr (11, [.ref xT, .int 12, .ref xW, .ref xR, .ref xM, .ref xS, .int (-1), .int 0, .int (-1)])), (xT, .inl (cT, 340, .inl fT))] s.heap := hP
  have hl := lv_entry ([.ref xX, .int a]) (n := 3) (Nat.le_of_ble_eq_true rfl)
  rw [lg_entry_eq]
  generalize (lg_sl ([.ref xX, .int a]) ++ List.replicate (3 - (lg_sl ([.ref xX, .int a])).length) Slot.unset).toArray = ls at hl ⊢
  have hl : lv_has ls 3 [(0, .ref xX), (1, .int a)] := hl
  refine lv_bipush (v := 24) hx hb dX11_putOnTape_0 (by decide) ?_
  refine lv_istore_n (lv' := [(2, .int 24), (0, .ref xX), (1, .int a)]) hx hb dX11_putOnTape_2 rfl hl (by decide) rfl (fun ls hl => ?_)
  refine lv_iload_n hx hb dX11_putOnTape_3 rfl (lv_at hl 0 rfl) ?_
  refine lv_if_lt (tgt := 49) hx hb dX11_putOnTape_4 (by decide) (fun c_1 => ?_) (fun c_1 => ?_)
  · exact absurd c_1 (by decide)
  refine lv_aload_n hx hb dX11_putOnTape_7 rfl (lv_at hl 1 rfl) ?_
  refine va_get (D := (dC, dI)) (ci := 11) (v := .int 12) (C := RX11) (T := TX11) (N := 9) hx hb hts iCX11 hown hK hP 0 rfl rfl 1 (by decide) (hts (.fieldLink RX11 50 "WalkingTown" "tapeSize" "I") (List.mem_cons_of_mem _ kw_3_92)) (fun _ h9 => h9) rfl dX11_putOnTape_8 ?_
  refine lv_sipush (v := 340) hx hb dX11_putOnTape_11 (by decide) ?_
  refine lv_icmp_ge (tgt := 49) hx hb dX11_putOnTape_14 (by decide) (fun c_2 => ?_) (fun c_2 => ?_)
  · exact absurd c_2 (by decide)
  refine lv_aload_n hx hb dX11_putOnTape_17 rfl (lv_at hl 1 rfl) ?_
  refine va_get (D := (dC, dI)) (ci := 11) (v := .ref xT) (C := RX11) (T := TX11) (N := 9) hx hb hts iCX11 hown hK hP 0 rfl rfl 0 (by decide) (hts (.fieldLink RX11 9 "WalkingTown" "tape" "[I") (List.mem_cons_of_mem _ kw_3_91)) (fun _ h9 => h9) rfl dX11_putOnTape_18 ?_
  refine lv_aload_n hx hb dX11_putOnTape_21 rfl (lv_at hl 1 rfl) ?_
  refine va_get (D := (dC, dI)) (ci := 11) (v := .int 12) (C := RX11) (T := TX11) (N := 9) hx hb hts iCX11 hown hK hP 0 rfl rfl 1 (by decide) (hts (.fieldLink RX11 50 "WalkingTown" "tapeSize" "I") (List.mem_cons_of_mem _ kw_3_92)) (fun _ h9 => h9) rfl dX11_putOnTape_22 ?_
  refine lv_iload_n hx hb dX11_putOnTape_25 rfl (lv_at hl 2 rfl) ?_
  refine lv_iload_n hx hb dX11_putOnTape_26 rfl (lv_at hl 0 rfl) ?_
  refine lv_ishr hx hb dX11_putOnTape_27 ?_
  refine lv_topi (fun v_3 ev_3 => ?_)
  refine lv_sipush (v := 255) hx hb dX11_putOnTape_28 (by decide) ?_
  refine lv_iand hx hb dX11_putOnTape_31 ?_
  refine lv_topi (fun v_4 ev_4 => ?_)
  refine va_iast hx hb hK hP hD hS 1 0 rfl rfl (by unfold vp_in; decide) dX11_putOnTape_32 (fun H locs hP hD hS => ?_)
  have hP : va_P (dC, dI) vwCl [(xX, .inr (11, [.ref xT, .int 12, .ref xW, .ref xR, .ref xM, .ref xS, .int (-1), .int 0, .int (-1)])), (xT, .inl (cT, 340, .inl (upd fT (12 : Int32).toNatClampNeg v_4)))] H := hP
  have hD : va_D A [(xX, .inr (11, [.ref xT, .int 12, .ref xW, .ref xR, .ref xM, .ref xS, .int (-1), .int 0, .int (-1)])), (xT, .inl (cT, 340, .inl (upd fT (12 : Int32).toNatClampNeg v_4)))] := hD
  obtain ⟨f_5, ef_5⟩ : ∃ z : Nat → Int32, z = (upd fT (12 : Int32).toNatClampNeg v_4) := ⟨_, rfl⟩
  rw [← ef_5] at hP hD
  refine lv_aload_n hx hb dX11_putOnTape_33 rfl (lv_at hl 1 rfl) ?_
  refine lv_dup hx hb dX11_putOnTape_34 rfl ?_
  refine va_get (D := (dC, dI)) (ci := 11) (v := .int 12) (C := RX11) (T := TX11) (N := 9) hx hb hts iCX11 hown hK hP 0 rfl rfl 1 (by decide) (hts (.fieldLink RX11 50 "WalkingTown" "tapeSize" "I") (List.mem_cons_of_mem _ kw_3_92)) (fun _ h9 => h9) rfl dX11_putOnTape_35 ?_
  refine lv_iconst (v := 1) hx hb dX11_putOnTape_38 (by decide) ?_
  refine lv_iadd hx hb dX11_putOnTape_39 ?_
  refine my_ti (y := 13) (by decide) ?_
  refine va_put (D := (dC, dI)) (ci := 11) (v := .int 13) (ty := .int) (C := RX11) (T := TX11) (N := 9) hx hb hts iCX11 tyX11 tyX11_ok nmX11 hown hK hP hD hS 0 rfl rfl 1 (by decide) (hts (.fieldLink RX11 50 "WalkingTown" "tapeSize" "I") (List.mem_cons_of_mem _ kw_3_92)) (fun _ h9 => h9) rfl (by decide +kernel) rfl rfl (Nat.le_of_ble_eq_true rfl) dX11_putOnTape_40 (fun H locs hP hD hS => ?_)
  have hP : va_P (dC, dI) vwCl [(xX, .inr (11, [.ref xT, .int 13, .ref xW, .ref xR, .ref xM, .ref xS, .int (-1), .int 0, .int (-1)])), (xT, .inl (cT, 340, .inl f_5))] H := hP
  have hD : va_D A [(xX, .inr (11, [.ref xT, .int 13, .ref xW, .ref xR, .ref xM, .ref xS, .int (-1), .int 0, .int (-1)])), (xT, .inl (cT, 340, .inl f_5))] := hD
  refine lv_iinc (v := 16) (lv' := [(2, .int 16), (0, .ref xX), (1, .int a)]) hx hb dX11_putOnTape_43 hl (k := 0) rfl (by decide) (by decide) rfl (fun ls hl => ?_)
  refine lv_goto (tgt := 3) hx hb dX11_putOnTape_46 (by decide) ?_
  refine lv_iload_n hx hb dX11_putOnTape_3 rfl (lv_at hl 0 rfl) ?_
  refine lv_if_lt (tgt := 49) hx hb dX11_putOnTape_4 (by decide) (fun c_6 => ?_) (fun c_6 => ?_)
  · exact absurd c_6 (by decide)
  refine lv_aload_n hx hb dX11_putOnTape_7 rfl (lv_at hl 1 rfl) ?_
  refine va_get (D := (dC, dI)) (ci := 11) (v := .int 13) (C := RX11) (T := TX11) (N := 9) hx hb hts iCX11 hown hK hP 0 rfl rfl 1 (by decide) (hts (.fieldLink RX11 50 "WalkingTown" "tapeSize" "I") (List.mem_cons_of_mem _ kw_3_92)) (fun _ h9 => h9) rfl dX11_putOnTape_8 ?_
  refine lv_sipush (v := 340) hx hb dX11_putOnTape_11 (by decide) ?_
  refine lv_icmp_ge (tgt := 49) hx hb dX11_putOnTape_14 (by decide) (fun c_7 => ?_) (fun c_7 => ?_)
  · exact absurd c_7 (by decide)
  refine lv_aload_n hx hb dX11_putOnTape_17 rfl (lv_at hl 1 rfl) ?_
  refine va_get (D := (dC, dI)) (ci := 11) (v := .ref xT) (C := RX11) (T := TX11) (N := 9) hx hb hts iCX11 hown hK hP 0 rfl rfl 0 (by decide) (hts (.fieldLink RX11 9 "WalkingTown" "tape" "[I") (List.mem_cons_of_mem _ kw_3_91)) (fun _ h9 => h9) rfl dX11_putOnTape_18 ?_
  refine lv_aload_n hx hb dX11_putOnTape_21 rfl (lv_at hl 1 rfl) ?_
  refine va_get (D := (dC, dI)) (ci := 11) (v := .int 13) (C := RX11) (T := TX11) (N := 9) hx hb hts iCX11 hown hK hP 0 rfl rfl 1 (by decide) (hts (.fieldLink RX11 50 "WalkingTown" "tapeSize" "I") (List.mem_cons_of_mem _ kw_3_92)) (fun _ h9 => h9) rfl dX11_putOnTape_22 ?_
  refine lv_iload_n hx hb dX11_putOnTape_25 rfl (lv_at hl 2 rfl) ?_
  refine lv_iload_n hx hb dX11_putOnTape_26 rfl (lv_at hl 0 rfl) ?_
  refine lv_ishr hx hb dX11_putOnTape_27 ?_
  refine lv_topi (fun v_8 ev_8 => ?_)
  refine lv_sipush (v := 255) hx hb dX11_putOnTape_28 (by decide) ?_
  refine lv_iand hx hb dX11_putOnTape_31 ?_
  refine lv_topi (fun v_9 ev_9 => ?_)
  refine va_iast hx hb hK hP hD hS 1 0 rfl rfl (by unfold vp_in; decide) dX11_putOnTape_32 (fun H locs hP hD hS => ?_)
  have hP : va_P (dC, dI) vwCl [(xX, .inr (11, [.ref xT, .int 13, .ref xW, .ref xR, .ref xM, .ref xS, .int (-1), .int 0, .int (-1)])), (xT, .inl (cT, 340, .inl (upd f_5 (13 : Int32).toNatClampNeg v_9)))] H := hP
  have hD : va_D A [(xX, .inr (11, [.ref xT, .int 13, .ref xW, .ref xR, .ref xM, .ref xS, .int (-1), .int 0, .int (-1)])), (xT, .inl (cT, 340, .inl (upd f_5 (13 : Int32).toNatClampNeg v_9)))] := hD
  obtain ⟨f_10, ef_10⟩ : ∃ z : Nat → Int32, z = (upd f_5 (13 : Int32).toNatClampNeg v_9) := ⟨_, rfl⟩
  rw [← ef_10] at hP hD
  refine lv_aload_n hx hb dX11_putOnTape_33 rfl (lv_at hl 1 rfl) ?_
  refine lv_dup hx hb dX11_putOnTape_34 rfl ?_
  refine va_get (D := (dC, dI)) (ci := 11) (v := .int 13) (C := RX11) (T := TX11) (N := 9) hx hb hts iCX11 hown hK hP 0 rfl rfl 1 (by decide) (hts (.fieldLink RX11 50 "WalkingTown" "tapeSize" "I") (List.mem_cons_of_mem _ kw_3_92)) (fun _ h9 => h9) rfl dX11_putOnTape_35 ?_
  refine lv_iconst (v := 1) hx hb dX11_putOnTape_38 (by decide) ?_
  refine lv_iadd hx hb dX11_putOnTape_39 ?_
  refine my_ti (y := 14) (by decide) ?_
  refine va_put (D := (dC, dI)) (ci := 11) (v := .int 14) (ty := .int) (C := RX11) (T := TX11) (N := 9) hx hb hts iCX11 tyX11 tyX11_ok nmX11 hown hK hP hD hS 0 rfl rfl 1 (by decide) (hts (.fieldLink RX11 50 "WalkingTown" "tapeSize" "I") (List.mem_cons_of_mem _ kw_3_92)) (fun _ h9 => h9) rfl (by decide +kernel) rfl rfl (Nat.le_of_ble_eq_true rfl) dX11_putOnTape_40 (fun H locs hP hD hS => ?_)
  have hP : va_P (dC, dI) vwCl [(xX, .inr (11, [.ref xT, .int 14, .ref xW, .ref xR, .ref xM, .ref xS, .int (-1), .int 0, .int (-1)])), (xT, .inl (cT, 340, .inl f_10))] H := hP
  have hD : va_D A [(xX, .inr (11, [.ref xT, .int 14, .ref xW, .ref xR, .ref xM, .ref xS, .int (-1), .int 0, .int (-1)])), (xT, .inl (cT, 340, .inl f_10))] := hD
  refine lv_iinc (v := 8) (lv' := [(2, .int 8), (0, .ref xX), (1, .int a)]) hx hb dX11_putOnTape_43 hl (k := 0) rfl (by decide) (by decide) rfl (fun ls hl => ?_)
  refine lv_goto (tgt := 3) hx hb dX11_putOnTape_46 (by decide) ?_
  refine lv_iload_n hx hb dX11_putOnTape_3 rfl (lv_at hl 0 rfl) ?_
  refine lv_if_lt (tgt := 49) hx hb dX11_putOnTape_4 (by decide) (fun c_11 => ?_) (fun c_11 => ?_)
  · exact absurd c_11 (by decide)
  refine lv_aload_n hx hb dX11_putOnTape_7 rfl (lv_at hl 1 rfl) ?_
  refine va_get (D := (dC, dI)) (ci := 11) (v := .int 14) (C := RX11) (T := TX11) (N := 9) hx hb hts iCX11 hown hK hP 0 rfl rfl 1 (by decide) (hts (.fieldLink RX11 50 "WalkingTown" "tapeSize" "I") (List.mem_cons_of_mem _ kw_3_92)) (fun _ h9 => h9) rfl dX11_putOnTape_8 ?_
  refine lv_sipush (v := 340) hx hb dX11_putOnTape_11 (by decide) ?_
  refine lv_icmp_ge (tgt := 49) hx hb dX11_putOnTape_14 (by decide) (fun c_12 => ?_) (fun c_12 => ?_)
  · exact absurd c_12 (by decide)
  refine lv_aload_n hx hb dX11_putOnTape_17 rfl (lv_at hl 1 rfl) ?_
  refine va_get (D := (dC, dI)) (ci := 11) (v := .ref xT) (C := RX11) (T := TX11) (N := 9) hx hb hts iCX11 hown hK hP 0 rfl rfl 0 (by decide) (hts (.fieldLink RX11 9 "WalkingTown" "tape" "[I") (List.mem_cons_of_mem _ kw_3_91)) (fun _ h9 => h9) rfl dX11_putOnTape_18 ?_
  refine lv_aload_n hx hb dX11_putOnTape_21 rfl (lv_at hl 1 rfl) ?_
  refine va_get (D := (dC, dI)) (ci := 11) (v := .int 14) (C := RX11) (T := TX11) (N := 9) hx hb hts iCX11 hown hK hP 0 rfl rfl 1 (by decide) (hts (.fieldLink RX11 50 "WalkingTown" "tapeSize" "I") (List.mem_cons_of_mem _ kw_3_92)) (fun _ h9 => h9) rfl dX11_putOnTape_22 ?_
  refine lv_iload_n hx hb dX11_putOnTape_25 rfl (lv_at hl 2 rfl) ?_
  refine lv_iload_n hx hb dX11_putOnTape_26 rfl (lv_at hl 0 rfl) ?_
  refine lv_ishr hx hb dX11_putOnTape_27 ?_
  refine lv_topi (fun v_13 ev_13 => ?_)
  refine lv_sipush (v := 255) hx hb dX11_putOnTape_28 (by decide) ?_
  refine lv_iand hx hb dX11_putOnTape_31 ?_
  refine lv_topi (fun v_14 ev_14 => ?_)
  refine va_iast hx hb hK hP hD hS 1 0 rfl rfl (by unfold vp_in; decide) dX11_putOnTape_32 (fun H locs hP hD hS => ?_)
  have hP : va_P (dC, dI) vwCl [(xX, .inr (11, [.ref xT, .int 14, .ref xW, .ref xR, .ref xM, .ref xS, .int (-1), .int 0, .int (-1)])), (xT, .inl (cT, 340, .inl (upd f_10 (14 : Int32).toNatClampNeg v_14)))] H := hP
  have hD : va_D A [(xX, .inr (11, [.ref xT, .int 14, .ref xW, .ref xR, .ref xM, .ref xS, .int (-1), .int 0, .int (-1)])), (xT, .inl (cT, 340, .inl (upd f_10 (14 : Int32).toNatClampNeg v_14)))] := hD
  obtain ⟨f_15, ef_15⟩ : ∃ z : Nat → Int32, z = (upd f_10 (14 : Int32).toNatClampNeg v_14) := ⟨_, rfl⟩
  rw [← ef_15] at hP hD
  refine lv_aload_n hx hb dX11_putOnTape_33 rfl (lv_at hl 1 rfl) ?_
  refine lv_dup hx hb dX11_putOnTape_34 rfl ?_
  refine va_get (D := (dC, dI)) (ci := 11) (v := .int 14) (C := RX11) (T := TX11) (N := 9) hx hb hts iCX11 hown hK hP 0 rfl rfl 1 (by decide) (hts (.fieldLink RX11 50 "WalkingTown" "tapeSize" "I") (List.mem_cons_of_mem _ kw_3_92)) (fun _ h9 => h9) rfl dX11_putOnTape_35 ?_
  refine lv_iconst (v := 1) hx hb dX11_putOnTape_38 (by decide) ?_
  refine lv_iadd hx hb dX11_putOnTape_39 ?_
  refine my_ti (y := 15) (by decide) ?_
  refine va_put (D := (dC, dI)) (ci := 11) (v := .int 15) (ty := .int) (C := RX11) (T := TX11) (N := 9) hx hb hts iCX11 tyX11 tyX11_ok nmX11 hown hK hP hD hS 0 rfl rfl 1 (by decide) (hts (.fieldLink RX11 50 "WalkingTown" "tapeSize" "I") (List.mem_cons_of_mem _ kw_3_92)) (fun _ h9 => h9) rfl (by decide +kernel) rfl rfl (Nat.le_of_ble_eq_true rfl) dX11_putOnTape_40 (fun H locs hP hD hS => ?_)
  have hP : va_P (dC, dI) vwCl [(xX, .inr (11, [.ref xT, .int 15, .ref xW, .ref xR, .ref xM, .ref xS, .int (-1), .int 0, .int (-1)])), (xT, .inl (cT, 340, .inl f_15))] H := hP
  have hD : va_D A [(xX, .inr (11, [.ref xT, .int 15, .ref xW, .ref xR, .ref xM, .ref xS, .int (-1), .int 0, .int (-1)])), (xT, .inl (cT, 340, .inl f_15))] := hD
  refine lv_iinc (v := 0) (lv' := [(2, .int 0), (0, .ref xX), (1, .int a)]) hx hb dX11_putOnTape_43 hl (k := 0) rfl (by decide) (by decide) rfl (fun ls hl => ?_)
  refine lv_goto (tgt := 3) hx hb dX11_putOnTape_46 (by decide) ?_
  refine lv_iload_n hx hb dX11_putOnTape_3 rfl (lv_at hl 0 rfl) ?_
  refine lv_if_lt (tgt := 49) hx hb dX11_putOnTape_4 (by decide) (fun c_16 => ?_) (fun c_16 => ?_)
  · exact absurd c_16 (by decide)
  refine lv_aload_n hx hb dX11_putOnTape_7 rfl (lv_at hl 1 rfl) ?_
  refine va_get (D := (dC, dI)) (ci := 11) (v := .int 15) (C := RX11) (T := TX11) (N := 9) hx hb hts iCX11 hown hK hP 0 rfl rfl 1 (by decide) (hts (.fieldLink RX11 50 "WalkingTown" "tapeSize" "I") (List.mem_cons_of_mem _ kw_3_92)) (fun _ h9 => h9) rfl dX11_putOnTape_8 ?_
  refine lv_sipush (v := 340) hx hb dX11_putOnTape_11 (by decide) ?_
  refine lv_icmp_ge (tgt := 49) hx hb dX11_putOnTape_14 (by decide) (fun c_17 => ?_) (fun c_17 => ?_)
  · exact absurd c_17 (by decide)
  refine lv_aload_n hx hb dX11_putOnTape_17 rfl (lv_at hl 1 rfl) ?_
  refine va_get (D := (dC, dI)) (ci := 11) (v := .ref xT) (C := RX11) (T := TX11) (N := 9) hx hb hts iCX11 hown hK hP 0 rfl rfl 0 (by decide) (hts (.fieldLink RX11 9 "WalkingTown" "tape" "[I") (List.mem_cons_of_mem _ kw_3_91)) (fun _ h9 => h9) rfl dX11_putOnTape_18 ?_
  refine lv_aload_n hx hb dX11_putOnTape_21 rfl (lv_at hl 1 rfl) ?_
  refine va_get (D := (dC, dI)) (ci := 11) (v := .int 15) (C := RX11) (T := TX11) (N := 9) hx hb hts iCX11 hown hK hP 0 rfl rfl 1 (by decide) (hts (.fieldLink RX11 50 "WalkingTown" "tapeSize" "I") (List.mem_cons_of_mem _ kw_3_92)) (fun _ h9 => h9) rfl dX11_putOnTape_22 ?_
  refine lv_iload_n hx hb dX11_putOnTape_25 rfl (lv_at hl 2 rfl) ?_
  refine lv_iload_n hx hb dX11_putOnTape_26 rfl (lv_at hl 0 rfl) ?_
  refine lv_ishr hx hb dX11_putOnTape_27 ?_
  refine lv_topi (fun v_18 ev_18 => ?_)
  refine lv_sipush (v := 255) hx hb dX11_putOnTape_28 (by decide) ?_
  refine lv_iand hx hb dX11_putOnTape_31 ?_
  refine lv_topi (fun v_19 ev_19 => ?_)
  refine va_iast hx hb hK hP hD hS 1 0 rfl rfl (by unfold vp_in; decide) dX11_putOnTape_32 (fun H locs hP hD hS => ?_)
  have hP : va_P (dC, dI) vwCl [(xX, .inr (11, [.ref xT, .int 15, .ref xW, .ref xR, .ref xM, .ref xS, .int (-1), .int 0, .int (-1)])), (xT, .inl (cT, 340, .inl (upd f_15 (15 : Int32).toNatClampNeg v_19)))] H := hP
  have hD : va_D A [(xX, .inr (11, [.ref xT, .int 15, .ref xW, .ref xR, .ref xM, .ref xS, .int (-1), .int 0, .int (-1)])), (xT, .inl (cT, 340, .inl (upd f_15 (15 : Int32).toNatClampNeg v_19)))] := hD
  obtain ⟨f_20, ef_20⟩ : ∃ z : Nat → Int32, z = (upd f_15 (15 : Int32).toNatClampNeg v_19) := ⟨_, rfl⟩
  rw [← ef_20] at hP hD
  refine lv_aload_n hx hb dX11_putOnTape_33 rfl (lv_at hl 1 rfl) ?_
  refine lv_dup hx hb dX11_putOnTape_34 rfl ?_
  refine va_get (D := (dC, dI)) (ci := 11) (v := .int 15) (C := RX11) (T := TX11) (N := 9) hx hb hts iCX11 hown hK hP 0 rfl rfl 1 (by decide) (hts (.fieldLink RX11 50 "WalkingTown" "tapeSize" "I") (List.mem_cons_of_mem _ kw_3_92)) (fun _ h9 => h9) rfl dX11_putOnTape_35 ?_
  refine lv_iconst (v := 1) hx hb dX11_putOnTape_38 (by decide) ?_
  refine lv_iadd hx hb dX11_putOnTape_39 ?_
  refine my_ti (y := 16) (by decide) ?_
  refine va_put (D := (dC, dI)) (ci := 11) (v := .int 16) (ty := .int) (C := RX11) (T := TX11) (N := 9) hx hb hts iCX11 tyX11 tyX11_ok nmX11 hown hK hP hD hS 0 rfl rfl 1 (by decide) (hts (.fieldLink RX11 50 "WalkingTown" "tapeSize" "I") (List.mem_cons_of_mem _ kw_3_92)) (fun _ h9 => h9) rfl (by decide +kernel) rfl rfl (Nat.le_of_ble_eq_true rfl) dX11_putOnTape_40 (fun H locs hP hD hS => ?_)
  have hP : va_P (dC, dI) vwCl [(xX, .inr (11, [.ref xT, .int 16, .ref xW, .ref xR, .ref xM, .ref xS, .int (-1), .int 0, .int (-1)])), (xT, .inl (cT, 340, .inl f_20))] H := hP
  have hD : va_D A [(xX, .inr (11, [.ref xT, .int 16, .ref xW, .ref xR, .ref xM, .ref xS, .int (-1), .int 0, .int (-1)])), (xT, .inl (cT, 340, .inl f_20))] := hD
  refine lv_iinc (v := (-8)) (lv' := [(2, .int (-8)), (0, .ref xX), (1, .int a)]) hx hb dX11_putOnTape_43 hl (k := 0) rfl (by decide) (by decide) rfl (fun ls hl => ?_)
  refine lv_goto (tgt := 3) hx hb dX11_putOnTape_46 (by decide) ?_
  refine lv_iload_n hx hb dX11_putOnTape_3 rfl (lv_at hl 0 rfl) ?_
  refine lv_if_lt (tgt := 49) hx hb dX11_putOnTape_4 (by decide) (fun c_21 => ?_) (fun c_21 => ?_)
  rotate_left
  · exact (c_21 (by decide)).elim
  have hP9 := hP.sub (ws' := [(xX, .inr (11, [.ref xT, .int 16, .ref xW, .ref xR, .ref xM, .ref xS, .int (-1), .int 0, .int (-1)])), (xT, .inl (cT, 340, .inl f_20))]) [0, 1] rfl
  have hD9 := hD.sub (ws' := [(xX, .inr (11, [.ref xT, .int 16, .ref xW, .ref xR, .ref xM, .ref xS, .int (-1), .int 0, .int (-1)])), (xT, .inl (cT, 340, .inl f_20))]) [0, 1] (by decide) rfl
  have hK9 := hK.sub (tys' := [(cT, .int)]) [0] rfl
  refine W.widen (k := 0) (n := 0) (Nat.le_of_ble_eq_true rfl) (Nat.le_of_ble_eq_true rfl) ?_
  exact W.vret hx hb hr (fun t ht hW => ⟨⟨(), rfl, trivial, ⟨f_20, by rw [ht]; exact hP9, va_K.moved hW.alike hK9, hD9⟩⟩, hS.F ht⟩) hS.2.2 dX11_putOnTape_49
set_option maxHeartbeats 4000000 in
set_option maxRecDepth 100000 in
theorem c_put_16 (l : Launch) (dC : Nat → ClassId) (dI : Nat → Nat → Nat) (sz : Nat) (a : Int32) (fT : Nat → Int32) (xX : Nat) (xT : Nat) (xW : Nat) (xR : Nat) (xM : Nat) (xS : Nat) (cT : ClassId) : Met l yX11_putOnTape (.code yX11_putOnTape cX11_putOnTape 3 none :: lw_good) ({ frames := 2, cells := 0, slots := 0, locals := 60 }) (va_Pc [.ref xX, .int a] (fun U => U.heap.size = sz ∧ va_P (dC, dI) vwCl [(xX, .inr (11, [.ref xT, .int 16, .ref xW, .ref xR, .ref xM, .ref xS, .int (-1), .int 0, .int (-1)])), (xT, .inl (cT, 340, .inl fT))] U.heap ∧ va_K (dC, dI) vwCl [(cT, .int)] U ∧ va_D (fun _ => True) [(xX, .inr (11, [.ref xT, .int 16, .ref xW, .ref xR, .ref xM, .ref xS, .int (-1), .int 0, .int (-1)])), (xT, .inl (cT, 340, .inl fT))])) (va_Qv (fun (_ : Unit) => True) (fun (_ : Unit) (t : State) => ∃ (gT : Nat → Int32), va_P (dC, dI) vwCl [(xX, .inr (11, [.ref xT, .int 20, .ref xW, .ref xR, .ref xM, .ref xS, .int (-1), .int 0, .int (-1)])), (xT, .inl (cT, 340, .inl gT))] t.heap ∧ va_K (dC, dI) vwCl [(cT, .int)] t ∧ va_D (va_A [(xX, .inr (11, [.ref xT, .int 16, .ref xW, .ref xR, .ref xM, .ref xS, .int (-1), .int 0, .int (-1)])), (xT, .inl (cT, 340, .inl fT))] sz) [(xX, .inr (11, [.ref xT, .int 20, .ref xW, .ref xR, .ref xM, .ref xS, .int (-1), .int 0, .int (-1)])), (xT, .inl (cT, 340, .inl gT))]) (va_A [(xX, .inr (11, [.ref xT, .int 16, .ref xW, .ref xR, .ref xM, .ref xS, .int (-1), .int 0, .int (-1)])), (xT, .inl (cT, 340, .inl fT))] sz)) 0 0 (va_A [(xX, .inr (11, [.ref xT, .int 16, .ref xW, .ref xR, .ref xM, .ref xS, .int (-1), .int 0, .int (-1)])), (xT, .inl (cT, 340, .inl fT))] sz) := by
  refine Met.ofW (cc := cX11_putOnTape) (maxL := 3) (ret := none) (by decide) rfl ?_
  intro p e s m args below meth c s₁ B hml hv
  obtain ⟨rfl, hsz, hP, hK, hD0⟩ := hv
  have hx := B.exec
  have hb := B.bytes
  have hr := B.returns
  have hts := atoms_spec (ws := (.code yX11_putOnTape cX11_putOnTape 3 none :: lw_good)) B.pre
  have hown : s.vm.findClass RX11 = some m.cls := findClass_of_methodNamed B.named
  have hlocks := B.notSynchronized
  subst hsz
  have hD := hD0.self (sz := s.heap.size)
  generalize hAe : va_A [(xX, .inr (11, [.ref xT, .int 16, .ref xW, .ref xR, .ref xM, .ref xS, .int (-1), .int 0, .int (-1)])), (xT, .inl (cT, 340, .inl fT))] s.heap.size = A at hD ⊢
  have hA : ∀ q : Nat, s.heap.size ≤ q → A q := fun q h => by rw [← hAe]; exact Or.inr h
  have hS : va_S A s.heap s.heap [] := va_S.rf
  have hP : va_P (dC, dI) vwCl [(xX, .inr (11, [.ref xT, .int 16, .ref xW, .ref xR, .ref xM, .ref xS, .int (-1), .int 0, .int (-1)])), (xT, .inl (cT, 340, .inl fT))] s.heap := hP
  have hl := lv_entry ([.ref xX, .int a]) (n := 3) (Nat.le_of_ble_eq_true rfl)
  rw [lg_entry_eq]
  generalize (lg_sl ([.ref xX, .int a]) ++ List.replicate (3 - (lg_sl ([.ref xX, .int a])).length) Slot.unset).toArray = ls at hl ⊢
  have hl : lv_has ls 3 [(0, .ref xX), (1, .int a)] := hl
  refine lv_bipush (v := 24) hx hb dX11_putOnTape_0 (by decide) ?_
  refine lv_istore_n (lv' := [(2, .int 24), (0, .ref xX), (1, .int a)]) hx hb dX11_putOnTape_2 rfl hl (by decide) rfl (fun ls hl => ?_)
  refine lv_iload_n hx hb dX11_putOnTape_3 rfl (lv_at hl 0 rfl) ?_
  refine lv_if_lt (tgt := 49) hx hb dX11_putOnTape_4 (by decide) (fun c_1 => ?_) (fun c_1 => ?_)
  · exact absurd c_1 (by decide)
  refine lv_aload_n hx hb dX11_putOnTape_7 rfl (lv_at hl 1 rfl) ?_
  refine va_get (D := (dC, dI)) (ci := 11) (v := .int 16) (C := RX11) (T := TX11) (N := 9) hx hb hts iCX11 hown hK hP 0 rfl rfl 1 (by decide) (hts (.fieldLink RX11 50 "WalkingTown" "tapeSize" "I") (List.mem_cons_of_mem _ kw_3_92)) (fun _ h9 => h9) rfl dX11_putOnTape_8 ?_
  refine lv_sipush (v := 340) hx hb dX11_putOnTape_11 (by decide) ?_
  refine lv_icmp_ge (tgt := 49) hx hb dX11_putOnTape_14 (by decide) (fun c_2 => ?_) (fun c_2 => ?_)
  · exact absurd c_2 (by decide)
  refine lv_aload_n hx hb dX11_putOnTape_17 rfl (lv_at hl 1 rfl) ?_
  refine va_get (D := (dC, dI)) (ci := 11) (v := .ref xT) (C := RX11) (T := TX11) (N := 9) hx hb hts iCX11 hown hK hP 0 rfl rfl 0 (by decide) (hts (.fieldLink RX11 9 "WalkingTown" "tape" "[I") (List.mem_cons_of_mem _ kw_3_91)) (fun _ h9 => h9) rfl dX11_putOnTape_18 ?_
  refine lv_aload_n hx hb dX11_putOnTape_21 rfl (lv_at hl 1 rfl) ?_
  refine va_get (D := (dC, dI)) (ci := 11) (v := .int 16) (C := RX11) (T := TX11) (N := 9) hx hb hts iCX11 hown hK hP 0 rfl rfl 1 (by decide) (hts (.fieldLink RX11 50 "WalkingTown" "tapeSize" "I") (List.mem_cons_of_mem _ kw_3_92)) (fun _ h9 => h9) rfl dX11_putOnTape_22 ?_
  refine lv_iload_n hx hb dX11_putOnTape_25 rfl (lv_at hl 2 rfl) ?_
  refine lv_iload_n hx hb dX11_putOnTape_26 rfl (lv_at hl 0 rfl) ?_
  refine lv_ishr hx hb dX11_putOnTape_27 ?_
  refine lv_topi (fun v_3 ev_3 => ?_)
  refine lv_sipush (v := 255) hx hb dX11_putOnTape_28 (by decide) ?_
  refine lv_iand hx hb dX11_putOnTape_31 ?_
  refine lv_topi (fun v_4 ev_4 => ?_)
  refine va_iast hx hb hK hP hD hS 1 0 rfl rfl (by unfold vp_in; decide) dX11_putOnTape_32 (fun H locs hP hD hS => ?_)
  have hP : va_P (dC, dI) vwCl [(xX, .inr (11, [.ref xT, .int 16, .ref xW, .ref xR, .ref xM, .ref xS, .int (-1), .int 0, .int (-1)])), (xT, .inl (cT, 340, .inl (upd fT (16 : Int32).toNatClampNeg v_4)))] H := hP
  have hD : va_D A [(xX, .inr (11, [.ref xT, .int 16, .ref xW, .ref xR, .ref xM, .ref xS, .int (-1), .int 0, .int (-1)])), (xT, .inl (cT, 340, .inl (upd fT (16 : Int32).toNatClampNeg v_4)))] := hD
  obtain ⟨f_5, ef_5⟩ : ∃ z : Nat → Int32, z = (upd fT (16 : Int32).toNatClampNeg v_4) := ⟨_, rfl⟩
  rw [← ef_5] at hP hD
  refine lv_aload_n hx hb dX11_putOnTape_33 rfl (lv_at hl 1 rfl) ?_
  refine lv_dup hx hb dX11_putOnTape_34 rfl ?_
  refine va_get (D := (dC, dI)) (ci := 11) (v := .int 16) (C := RX11) (T := TX11) (N := 9) hx hb hts iCX11 hown hK hP 0 rfl rfl 1 (by decide) (hts (.fieldLink RX11 50 "WalkingTown" "tapeSize" "I") (List.mem_cons_of_mem _ kw_3_92)) (fun _ h9 => h9) rfl dX11_putOnTape_35 ?_
  refine lv_iconst (v := 1) hx hb dX11_putOnTape_38 (by decide) ?_
  refine lv_iadd hx hb dX11_putOnTape_39 ?_
  refine my_ti (y := 17) (by decide) ?_
  refine va_put (D := (dC, dI)) (ci := 11) (v := .int 17) (ty := .int) (C := RX11) (T := TX11) (N := 9) hx hb hts iCX11 tyX11 tyX11_ok nmX11 hown hK hP hD hS 0 rfl rfl 1 (by decide) (hts (.fieldLink RX11 50 "WalkingTown" "tapeSize" "I") (List.mem_cons_of_mem _ kw_3_92)) (fun _ h9 => h9) rfl (by decide +kernel) rfl rfl (Nat.le_of_ble_eq_true rfl) dX11_putOnTape_40 (fun H locs hP hD hS => ?_)
  have hP : va_P (dC, dI) vwCl [(xX, .inr (11, [.ref xT, .int 17, .ref xW, .ref xR, .ref xM, .ref xS, .int (-1), .int 0, .int (-1)])), (xT, .inl (cT, 340, .inl f_5))] H := hP
  have hD : va_D A [(xX, .inr (11, [.ref xT, .int 17, .ref xW, .ref xR, .ref xM, .ref xS, .int (-1), .int 0, .int (-1)])), (xT, .inl (cT, 340, .inl f_5))] := hD
  refine lv_iinc (v := 16) (lv' := [(2, .int 16), (0, .ref xX), (1, .int a)]) hx hb dX11_putOnTape_43 hl (k := 0) rfl (by decide) (by decide) rfl (fun ls hl => ?_)
  refine lv_goto (tgt := 3) hx hb dX11_putOnTape_46 (by decide) ?_
  refine lv_iload_n hx hb dX11_putOnTape_3 rfl (lv_at hl 0 rfl) ?_
  refine lv_if_lt (tgt := 49) hx hb dX11_putOnTape_4 (by decide) (fun c_6 => ?_) (fun c_6 => ?_)
  · exact absurd c_6 (by decide)
  refine lv_aload_n hx hb dX11_putOnTape_7 rfl (lv_at hl 1 rfl) ?_
  refine va_get (D := (dC, dI)) (ci := 11) (v := .int 17) (C := RX11) (T := TX11) (N := 9) hx hb hts iCX11 hown hK hP 0 rfl rfl 1 (by decide) (hts (.fieldLink RX11 50 "WalkingTown" "tapeSize" "I") (List.mem_cons_of_mem _ kw_3_92)) (fun _ h9 => h9) rfl dX11_putOnTape_8 ?_
  refine lv_sipush (v := 340) hx hb dX11_putOnTape_11 (by decide) ?_
  refine lv_icmp_ge (tgt := 49) hx hb dX11_putOnTape_14 (by decide) (fun c_7 => ?_) (fun c_7 => ?_)
  · exact absurd c_7 (by decide)
  refine lv_aload_n hx hb dX11_putOnTape_17 rfl (lv_at hl 1 rfl) ?_
  refine va_get (D := (dC, dI)) (ci := 11) (v := .ref xT) (C := RX11) (T := TX11) (N := 9) hx hb hts iCX11 hown hK hP 0 rfl rfl 0 (by decide) (hts (.fieldLink RX11 9 "WalkingTown" "tape" "[I") (List.mem_cons_of_mem _ kw_3_91)) (fun _ h9 => h9) rfl dX11_putOnTape_18 ?_
  refine lv_aload_n hx hb dX11_putOnTape_21 rfl (lv_at hl 1 rfl) ?_
  refine va_get (D := (dC, dI)) (ci := 11) (v := .int 17) (C := RX11) (T := TX11) (N := 9) hx hb hts iCX11 hown hK hP 0 rfl rfl 1 (by decide) (hts (.fieldLink RX11 50 "WalkingTown" "tapeSize" "I") (List.mem_cons_of_mem _ kw_3_92)) (fun _ h9 => h9) rfl dX11_putOnTape_22 ?_
  refine lv_iload_n hx hb dX11_putOnTape_25 rfl (lv_at hl 2 rfl) ?_
  refine lv_iload_n hx hb dX11_putOnTape_26 rfl (lv_at hl 0 rfl) ?_
  refine lv_ishr hx hb dX11_putOnTape_27 ?_
  refine lv_topi (fun v_8 ev_8 => ?_)
  refine lv_sipush (v := 255) hx hb dX11_putOnTape_28 (by decide) ?_
  refine lv_iand hx hb dX11_putOnTape_31 ?_
  refine lv_topi (fun v_9 ev_9 => ?_)
  refine va_iast hx hb hK hP hD hS 1 0 rfl rfl (by unfold vp_in; decide) dX11_putOnTape_32 (fun H locs hP hD hS => ?_)
  have hP : va_P (dC, dI) vwCl [(xX, .inr (11, [.ref xT, .int 17, .ref xW, .ref xR, .ref xM, .ref xS, .int (-1), .int 0, .int (-1)])), (xT, .inl (cT, 340, .inl (upd f_5 (17 : Int32).toNatClampNeg v_9)))] H := hP
  have hD : va_D A [(xX, .inr (11, [.ref xT, .int 17, .ref xW, .ref xR, .ref xM, .ref xS, .int (-1), .int 0, .int (-1)])), (xT, .inl (cT, 340, .inl (upd f_5 (17 : Int32).toNatClampNeg v_9)))] := hD
  obtain ⟨f_10, ef_10⟩ : ∃ z : Nat → Int32, z = (upd f_5 (17 : Int32).toNatClampNeg v_9) := ⟨_, rfl⟩
  rw [← ef_10] at hP hD
  refine lv_aload_n hx hb dX11_putOnTape_33 rfl (lv_at hl 1 rfl) ?_
  refine lv_dup hx hb dX11_putOnTape_34 rfl ?_
  refine va_get (D := (dC, dI)) (ci := 11) (v := .int 17) (C := RX11) (T := TX11) (N := 9) hx hb hts iCX11 hown hK hP 0 rfl rfl 1 (by decide) (hts (.fieldLink RX11 50 "WalkingTown" "tapeSize" "I") (List.mem_cons_of_mem _ kw_3_92)) (fun _ h9 => h9) rfl dX11_putOnTape_35 ?_
  refine lv_iconst (v := 1) hx hb dX11_putOnTape_38 (by decide) ?_
  refine lv_iadd hx hb dX11_putOnTape_39 ?_
  refine my_ti (y := 18) (by decide) ?_
  refine va_put (D := (dC, dI)) (ci := 11) (v := .int 18) (ty := .int) (C := RX11) (T := TX11) (N := 9) hx hb hts iCX11 tyX11 tyX11_ok nmX11 hown hK hP hD hS 0 rfl rfl 1 (by decide) (hts (.fieldLink RX11 50 "WalkingTown" "tapeSize" "I") (List.mem_cons_of_mem _ kw_3_92)) (fun _ h9 => h9) rfl (by decide +kernel) rfl rfl (Nat.le_of_ble_eq_true rfl) dX11_putOnTape_40 (fun H locs hP hD hS => ?_)
  have hP : va_P (dC, dI) vwCl [(xX, .inr (11, [.ref xT, .int 18, .ref xW, .ref xR, .ref xM, .ref xS, .int (-1), .int 0, .int (-1)])), (xT, .inl (cT, 340, .inl f_10))] H := hP
  have hD : va_D A [(xX, .inr (11, [.ref xT, .int 18, .ref xW, .ref xR, .ref xM, .ref xS, .int (-1), .int 0, .int (-1)])), (xT, .inl (cT, 340, .inl f_10))] := hD
  refine lv_iinc (v := 8) (lv' := [(2, .int 8), (0, .ref xX), (1, .int a)]) hx hb dX11_putOnTape_43 hl (k := 0) rfl (by decide) (by decide) rfl (fun ls hl => ?_)
  refine lv_goto (tgt := 3) hx hb dX11_putOnTape_46 (by decide) ?_
  refine lv_iload_n hx hb dX11_putOnTape_3 rfl (lv_at hl 0 rfl) ?_
  refine lv_if_lt (tgt := 49) hx hb dX11_putOnTape_4 (by decide) (fun c_11 => ?_) (fun c_11 => ?_)
  · exact absurd c_11 (by decide)
  refine lv_aload_n hx hb dX11_putOnTape_7 rfl (lv_at hl 1 rfl) ?_
  refine va_get (D := (dC, dI)) (ci := 11) (v := .int 18) (C := RX11) (T := TX11) (N := 9) hx hb hts iCX11 hown hK hP 0 rfl rfl 1 (by decide) (hts (.fieldLink RX11 50 "WalkingTown" "tapeSize" "I") (List.mem_cons_of_mem _ kw_3_92)) (fun _ h9 => h9) rfl dX11_putOnTape_8 ?_
  refine lv_sipush (v := 340) hx hb dX11_putOnTape_11 (by decide) ?_
  refine lv_icmp_ge (tgt := 49) hx hb dX11_putOnTape_14 (by decide) (fun c_12 => ?_) (fun c_12 => ?_)
  · exact absurd c_12 (by decide)
  refine lv_aload_n hx hb dX11_putOnTape_17 rfl (lv_at hl 1 rfl) ?_
  refine va_get (D := (dC, dI)) (ci := 11) (v := .ref xT) (C := RX11) (T := TX11) (N := 9) hx hb hts iCX11 hown hK hP 0 rfl rfl 0 (by decide) (hts (.fieldLink RX11 9 "WalkingTown" "tape" "[I") (List.mem_cons_of_mem _ kw_3_91)) (fun _ h9 => h9) rfl dX11_putOnTape_18 ?_
  refine lv_aload_n hx hb dX11_putOnTape_21 rfl (lv_at hl 1 rfl) ?_
  refine va_get (D := (dC, dI)) (ci := 11) (v := .int 18) (C := RX11) (T := TX11) (N := 9) hx hb hts iCX11 hown hK hP 0 rfl rfl 1 (by decide) (hts (.fieldLink RX11 50 "WalkingTown" "tapeSize" "I") (List.mem_cons_of_mem _ kw_3_92)) (fun _ h9 => h9) rfl dX11_putOnTape_22 ?_
  refine lv_iload_n hx hb dX11_putOnTape_25 rfl (lv_at hl 2 rfl) ?_
  refine lv_iload_n hx hb dX11_putOnTape_26 rfl (lv_at hl 0 rfl) ?_
  refine lv_ishr hx hb dX11_putOnTape_27 ?_
  refine lv_topi (fun v_13 ev_13 => ?_)
  refine lv_sipush (v := 255) hx hb dX11_putOnTape_28 (by decide) ?_
  refine lv_iand hx hb dX11_putOnTape_31 ?_
  refine lv_topi (fun v_14 ev_14 => ?_)
  refine va_iast hx hb hK hP hD hS 1 0 rfl rfl (by unfold vp_in; decide) dX11_putOnTape_32 (fun H locs hP hD hS => ?_)
  have hP : va_P (dC, dI) vwCl [(xX, .inr (11, [.ref xT, .int 18, .ref xW, .ref xR, .ref xM, .ref xS, .int (-1), .int 0, .int (-1)])), (xT, .inl (cT, 340, .inl (upd f_10 (18 : Int32).toNatClampNeg v_14)))] H := hP
  have hD : va_D A [(xX, .inr (11, [.ref xT, .int 18, .ref xW, .ref xR, .ref xM, .ref xS, .int (-1), .int 0, .int (-1)])), (xT, .inl (cT, 340, .inl (upd f_10 (18 : Int32).toNatClampNeg v_14)))] := hD
  obtain ⟨f_15, ef_15⟩ : ∃ z : Nat → Int32, z = (upd f_10 (18 : Int32).toNatClampNeg v_14) := ⟨_, rfl⟩
  rw [← ef_15] at hP hD
  refine lv_aload_n hx hb dX11_putOnTape_33 rfl (lv_at hl 1 rfl) ?_
  refine lv_dup hx hb dX11_putOnTape_34 rfl ?_
  refine va_get (D := (dC, dI)) (ci := 11) (v := .int 18) (C := RX11) (T := TX11) (N := 9) hx hb hts iCX11 hown hK hP 0 rfl rfl 1 (by decide) (hts (.fieldLink RX11 50 "WalkingTown" "tapeSize" "I") (List.mem_cons_of_mem _ kw_3_92)) (fun _ h9 => h9) rfl dX11_putOnTape_35 ?_
  refine lv_iconst (v := 1) hx hb dX11_putOnTape_38 (by decide) ?_
  refine lv_iadd hx hb dX11_putOnTape_39 ?_
  refine my_ti (y := 19) (by decide) ?_
  refine va_put (D := (dC, dI)) (ci := 11) (v := .int 19) (ty := .int) (C := RX11) (T := TX11) (N := 9) hx hb hts iCX11 tyX11 tyX11_ok nmX11 hown hK hP hD hS 0 rfl rfl 1 (by decide) (hts (.fieldLink RX11 50 "WalkingTown" "tapeSize" "I") (List.mem_cons_of_mem _ kw_3_92)) (fun _ h9 => h9) rfl (by decide +kernel) rfl rfl (Nat.le_of_ble_eq_true rfl) dX11_putOnTape_40 (fun H locs hP hD hS => ?_)
  have hP : va_P (dC, dI) vwCl [(xX, .inr (11, [.ref xT, .int 19, .ref xW, .ref xR, .ref xM, .ref xS, .int (-1), .int 0, .int (-1)])), (xT, .inl (cT, 340, .inl f_15))] H := hP
  have hD : va_D A [(xX, .inr (11, [.ref xT, .int 19, .ref xW, .ref xR, .ref xM, .ref xS, .int (-1), .int 0, .int (-1)])), (xT, .inl (cT, 340, .inl f_15))] := hD
  refine lv_iinc (v := 0) (lv' := [(2, .int 0), (0, .ref xX), (1, .int a)]) hx hb dX11_putOnTape_43 hl (k := 0) rfl (by decide) (by decide) rfl (fun ls hl => ?_)
  refine lv_goto (tgt := 3) hx hb dX11_putOnTape_46 (by decide) ?_
  refine lv_iload_n hx hb dX11_putOnTape_3 rfl (lv_at hl 0 rfl) ?_
  refine lv_if_lt (tgt := 49) hx hb dX11_putOnTape_4 (by decide) (fun c_16 => ?_) (fun c_16 => ?_)
  · exact absurd c_16 (by decide)
  refine lv_aload_n hx hb dX11_putOnTape_7 rfl (lv_at hl 1 rfl) ?_
  refine va_get (D := (dC, dI)) (ci := 11) (v := .int 19) (C := RX11) (T := TX11) (N := 9) hx hb hts iCX11 hown hK hP 0 rfl rfl 1 (by decide) (hts (.fieldLink RX11 50 "WalkingTown" "tapeSize" "I") (List.mem_cons_of_mem _ kw_3_92)) (fun _ h9 => h9) rfl dX11_putOnTape_8 ?_
  refine lv_sipush (v := 340) hx hb dX11_putOnTape_11 (by decide) ?_
  refine lv_icmp_ge (tgt := 49) hx hb dX11_putOnTape_14 (by decide) (fun c_17 => ?_) (fun c_17 => ?_)
  · exact absurd c_17 (by decide)
  refine lv_aload_n hx hb dX11_putOnTape_17 rfl (lv_at hl 1 rfl) ?_
  refine va_get (D := (dC, dI)) (ci := 11) (v := .ref xT) (C := RX11) (T := TX11) (N := 9) hx hb hts iCX11 hown hK hP 0 rfl rfl 0 (by decide) (hts (.fieldLink RX11 9 "WalkingTown" "tape" "[I") (List.mem_cons_of_mem _ kw_3_91)) (fun _ h9 => h9) rfl dX11_putOnTape_18 ?_
  refine lv_aload_n hx hb dX11_putOnTape_21 rfl (lv_at hl 1 rfl) ?_
  refine va_get (D := (dC, dI)) (ci := 11) (v := .int 19) (C := RX11) (T := TX11) (N := 9) hx hb hts iCX11 hown hK hP 0 rfl rfl 1 (by decide) (hts (.fieldLink RX11 50 "WalkingTown" "tapeSize" "I") (List.mem_cons_of_mem _ kw_3_92)) (fun _ h9 => h9) rfl dX11_putOnTape_22 ?_
  refine lv_iload_n hx hb dX11_putOnTape_25 rfl (lv_at hl 2 rfl) ?_
  refine lv_iload_n hx hb dX11_putOnTape_26 rfl (lv_at hl 0 rfl) ?_
  refine lv_ishr hx hb dX11_putOnTape_27 ?_
  refine lv_topi (fun v_18 ev_18 => ?_)
  refine lv_sipush (v := 255) hx hb dX11_putOnTape_28 (by decide) ?_
  refine lv_iand hx hb dX11_putOnTape_31 ?_
  refine lv_topi (fun v_19 ev_19 => ?_)
  refine va_iast hx hb hK hP hD hS 1 0 rfl rfl (by unfold vp_in; decide) dX11_putOnTape_32 (fun H locs hP hD hS => ?_)
  have hP : va_P (dC, dI) vwCl [(xX, .inr (11, [.ref xT, .int 19, .ref xW, .ref xR, .ref xM, .ref xS, .int (-1), .int 0, .int (-1)])), (xT, .inl (cT, 340, .inl (upd f_15 (19 : Int32).toNatClampNeg v_19)))] H := hP
  have hD : va_D A [(xX, .inr (11, [.ref xT, .int 19, .ref xW, .ref xR, .ref xM, .ref xS, .int (-1), .int 0, .int (-1)])), (xT, .inl (cT, 340, .inl (upd f_15 (19 : Int32).toNatClampNeg v_19)))] := hD
  obtain ⟨f_20, ef_20⟩ : ∃ z : Nat → Int32, z = (upd f_15 (19 : Int32).toNatClampNeg v_19) := ⟨_, rfl⟩
  rw [← ef_20] at hP hD
  refine lv_aload_n hx hb dX11_putOnTape_33 rfl (lv_at hl 1 rfl) ?_
  refine lv_dup hx hb dX11_putOnTape_34 rfl ?_
  refine va_get (D := (dC, dI)) (ci := 11) (v := .int 19) (C := RX11) (T := TX11) (N := 9) hx hb hts iCX11 hown hK hP 0 rfl rfl 1 (by decide) (hts (.fieldLink RX11 50 "WalkingTown" "tapeSize" "I") (List.mem_cons_of_mem _ kw_3_92)) (fun _ h9 => h9) rfl dX11_putOnTape_35 ?_
  refine lv_iconst (v := 1) hx hb dX11_putOnTape_38 (by decide) ?_
  refine lv_iadd hx hb dX11_putOnTape_39 ?_
  refine my_ti (y := 20) (by decide) ?_
  refine va_put (D := (dC, dI)) (ci := 11) (v := .int 20) (ty := .int) (C := RX11) (T := TX11) (N := 9) hx hb hts iCX11 tyX11 tyX11_ok nmX11 hown hK hP hD hS 0 rfl rfl 1 (by decide) (hts (.fieldLink RX11 50 "WalkingTown" "tapeSize" "I") (List.mem_cons_of_mem _ kw_3_92)) (fun _ h9 => h9) rfl (by decide +kernel) rfl rfl (Nat.le_of_ble_eq_true rfl) dX11_putOnTape_40 (fun H locs hP hD hS => ?_)
  have hP : va_P (dC, dI) vwCl [(xX, .inr (11, [.ref xT, .int 20, .ref xW, .ref xR, .ref xM, .ref xS, .int (-1), .int 0, .int (-1)])), (xT, .inl (cT, 340, .inl f_20))] H := hP
  have hD : va_D A [(xX, .inr (11, [.ref xT, .int 20, .ref xW, .ref xR, .ref xM, .ref xS, .int (-1), .int 0, .int (-1)])), (xT, .inl (cT, 340, .inl f_20))] := hD
  refine lv_iinc (v := (-8)) (lv' := [(2, .int (-8)), (0, .ref xX), (1, .int a)]) hx hb dX11_putOnTape_43 hl (k := 0) rfl (by decide) (by decide) rfl (fun ls hl => ?_)
  refine lv_goto (tgt := 3) hx hb dX11_putOnTape_46 (by decide) ?_
  refine lv_iload_n hx hb dX11_putOnTape_3 rfl (lv_at hl 0 rfl) ?_
  refine lv_if_lt (tgt := 49) hx hb dX11_putOnTape_4 (by decide) (fun c_21 => ?_) (fun c_21 => ?_)
  rotate_left
  · exact (c_21 (by decide)).elim
  have hP9 := hP.sub (ws' := [(xX, .inr (11, [.ref xT, .int 20, .ref xW, .ref xR, .ref xM, .ref xS, .int (-1), .int 0, .int (-1)])), (xT, .inl (cT, 340, .inl f_20))]) [0, 1] rfl
  have hD9 := hD.sub (ws' := [(xX, .inr (11, [.ref xT, .int 20, .ref xW, .ref xR, .ref xM, .ref xS, .int (-1), .int 0, .int (-1)])), (xT, .inl (cT, 340, .inl f_20))]) [0, 1] (by decide) rfl
  have hK9 := hK.sub (tys' := [(cT, .int)]) [0] rfl
  refine W.widen (k := 0) (n := 0) (Nat.le_of_ble_eq_true rfl) (Nat.le_of_ble_eq_true rfl) ?_
  exact W.vret hx hb hr (fun t ht hW => ⟨⟨(), rfl, trivial, ⟨f_20, by rw [ht]; exact hP9, va_K.moved hW.alike hK9, hD9⟩⟩, hS.F ht⟩) hS.2.2 dX11_putOnTape_49
set_option maxHeartbeats 4000000 in
set_option maxRecDepth 100000 in
theorem x_feed (l : Launch) (dC : Nat → ClassId) (dI : Nat → Nat → Nat) (sz : Nat) (a : Int32) (b : Int32) (c3 : Int32) (d4 : Int32) (e5 : Int32) (xX : Nat) (xT : Nat) (xW : Nat) (xR : Nat) (xM : Nat) (xS : Nat) (cT : ClassId) : Met l yX11_feed (.code yX11_feed cX11_feed 6 (some .int) :: lw_good) ({ frames := 14, cells := 0, slots := 0, locals := 500 }) (va_Pc [.ref xX, .int a, .int b, .int c3, .int d4, .int e5] (fun U => U.heap.size = sz ∧ va_P (dC, dI) vwCl [(xX, .inr (11, [.ref xT, .int 0, .ref xW, .ref xR, .ref xM, .ref xS, .int (-1), .int 0, .int (-1)])), (xT, .inl (cT, 340, .inl (fun _ => 0)))] U.heap ∧ va_K (dC, dI) vwCl [(cT, .int)] U ∧ va_D (fun _ => True) [(xX, .inr (11, [.ref xT, .int 0, .ref xW, .ref xR, .ref xM, .ref xS, .int (-1), .int 0, .int (-1)])), (xT, .inl (cT, 340, .inl (fun _ => 0)))])) (va_Qi (fun (r : Int32) (_ : Unit) => r = 20) (fun (_ : Unit) (_ : State) => True) (va_A [(xX, .inr (11, [.ref xT, .int 0, .ref xW, .ref xR, .ref xM, .ref xS, .int (-1), .int 0, .int (-1)])), (xT, .inl (cT, 340, .inl (fun _ => 0)))] sz)) 0 0 (va_A [(xX, .inr (11, [.ref xT, .int 0, .ref xW, .ref xR, .ref xM, .ref xS, .int (-1), .int 0, .int (-1)])), (xT, .inl (cT, 340, .inl (fun _ => 0)))] sz) := by
  refine Met.ofW (cc := cX11_feed) (maxL := 6) (ret := (some .int)) (by decide) rfl ?_
  intro p e s m args below meth c s₁ B hml hv
  obtain ⟨rfl, hsz, hP, hK, hD0⟩ := hv
  have hx := B.exec
  have hb := B.bytes
  have hr := B.returns
  have hts := atoms_spec (ws := (.code yX11_feed cX11_feed 6 (some .int) :: lw_good)) B.pre
  have hown : s.vm.findClass RX11 = some m.cls := findClass_of_methodNamed B.named
  have hlocks := B.notSynchronized
  subst hsz
  have hD := hD0.self (sz := s.heap.size)
  generalize hAe : va_A [(xX, .inr (11, [.ref xT, .int 0, .ref xW, .ref xR, .ref xM, .ref xS, .int (-1), .int 0, .int (-1)])), (xT, .inl (cT, 340, .inl (fun _ => 0)))] s.heap.size = A at hD ⊢
  have hA : ∀ q : Nat, s.heap.size ≤ q → A q := fun q h => by rw [← hAe]; exact Or.inr h
  have hS : va_S A s.heap s.heap [] := va_S.rf
  have hP : va_P (dC, dI) vwCl [(xX, .inr (11, [.ref xT, .int 0, .ref xW, .ref xR, .ref xM, .ref xS, .int (-1), .int 0, .int (-1)])), (xT, .inl (cT, 340, .inl (fun _ => 0)))] s.heap := hP
  have hl := lv_entry ([.ref xX, .int a, .int b, .int c3, .int d4, .int e5]) (n := 6) (Nat.le_of_ble_eq_true rfl)
  rw [lg_entry_eq]
  generalize (lg_sl ([.ref xX, .int a, .int b, .int c3, .int d4, .int e5]) ++ List.replicate (6 - (lg_sl ([.ref xX, .int a, .int b, .int c3, .int d4, .int e5])).length) Slot.unset).toArray = ls at hl ⊢
  have hl : lv_has ls 6 [(0, .ref xX), (1, .int a), (2, .int b), (3, .int c3), (4, .int d4), (5, .int e5)] := hl
  refine lv_aload_n hx hb dX11_feed_0 rfl (lv_at hl 0 rfl) ?_
  refine va_get (D := (dC, dI)) (ci := 11) (v := .int 0) (C := RX11) (T := TX11) (N := 9) hx hb hts iCX11 hown hK hP 0 rfl rfl 1 (by decide) (hts (.fieldLink RX11 50 "WalkingTown" "tapeSize" "I") (List.mem_cons_of_mem _ kw_3_92)) (fun _ h9 => h9) rfl dX11_feed_1 ?_
  refine lv_bipush (v := 20) hx hb dX11_feed_4 (by decide) ?_
  refine lv_iadd hx hb dX11_feed_6 ?_
  refine my_ti (y := 20) (by decide) ?_
  refine lv_sipush (v := 340) hx hb dX11_feed_7 (by decide) ?_
  refine lv_icmp_le (tgt := 15) hx hb dX11_feed_10 (by decide) (fun c_1 => ?_) (fun c_1 => ?_)
  rotate_left
  · exact (c_1 (by decide)).elim
  refine lv_aload_n hx hb dX11_feed_15 rfl (lv_at hl 0 rfl) ?_
  refine lv_iload_n hx hb dX11_feed_16 rfl (lv_at hl 1 rfl) ?_
  have hPc := hP.sub (ws' := [(xX, .inr (11, [.ref xT, .int 0, .ref xW, .ref xR, .ref xM, .ref xS, .int (-1), .int 0, .int (-1)])), (xT, .inl (cT, 340, .inl (fun _ => 0)))]) [0, 1] rfl
  have hDc := hD.sub (ws' := [(xX, .inr (11, [.ref xT, .int 0, .ref xW, .ref xR, .ref xM, .ref xS, .int (-1), .int 0, .int (-1)])), (xT, .inl (cT, 340, .inl (fun _ => 0)))]) [0, 1] (by decide) rfl
  have hKc := hK.sub (tys' := [(cT, .int)]) [0] rfl
  have hFc := va_free (wc := [(xX, .inr (11, [.ref xT, .int 0, .ref xW, .ref xR, .ref xM, .ref xS, .int (-1), .int 0, .int (-1)])), (xT, .inl (cT, 340, .inl (fun _ => 0)))]) hD hS hA [0, 1] rfl
  refine va_callv (va_runV (As := [.int a]) (rest := []) ⟨hx, hb, hml, hown, hts⟩ (c_put_0 l dC dI s.heap.size a (fun _ => 0) xX xT xW xR xM xS cT) (cwV 1 hts (gV kw_3_123 kw_3_125 kw_p_0 kw_1_1 kw_3_126) rfl rfl rfl (by decide +kernel) ⟨Nat.le_of_ble_eq_true rfl, Nat.le_of_ble_eq_true rfl⟩) ⟨fun a U g mk q => by obtain ⟨q0, q1, qP, qK, qD⟩ := q; exact ⟨q0, q1, qP, va_K.moved (u := U) (U := U.calling g mk a) (Vm.Alike.refl U.vm) qK, qD⟩, va_recv hKc hPc (ci := 11) (q0 := 0) rfl rfl, fun U hU hW => ⟨rfl, by rw [hU], by rw [hU]; exact hPc, va_K.moved hW.alike hKc, hDc.weaken (fun _ _ _ _ => trivial)⟩⟩ rfl rfl hl.1 rfl (lv_room (Nat.le_of_ble_eq_true rfl)) dX11_feed_17 ⟨Nat.le_of_ble_eq_true rfl, Nat.le_of_ble_eq_true rfl⟩) hS (fun q _ h => hFc q h) hFc (fun u t H1 locs ht hvm hw hB hz1 hk1 hS => ?_)
  obtain ⟨gT_3, hP1, hK1, hD1⟩ := hB
  rw [ht] at hP1
  have hK1 := va_K.moved hvm.symm hK1
  obtain ⟨hP, hD⟩ := va_join (wr := []) (w1 := [(xX, .inr (11, [.ref xT, .int 4, .ref xW, .ref xR, .ref xM, .ref xS, .int (-1), .int 0, .int (-1)])), (xT, .inl (cT, 340, .inl gT_3))]) hP hD [0, 1] [] rfl rfl (by decide) (by decide) hk1 hFc hP1 hD1
  have hK := (hK.sub (tys' := []) [] rfl).app hK1
  generalize H1 = H at hP hS ⊢
  have hP : va_P (dC, dI) vwCl [(xX, .inr (11, [.ref xT, .int 4, .ref xW, .ref xR, .ref xM, .ref xS, .int (-1), .int 0, .int (-1)])), (xT, .inl (cT, 340, .inl gT_3))] H := hP
  have hD : va_D A [(xX, .inr (11, [.ref xT, .int 4, .ref xW, .ref xR, .ref xM, .ref xS, .int (-1), .int 0, .int (-1)])), (xT, .inl (cT, 340, .inl gT_3))] := hD
  have hK : va_K (dC, dI) vwCl [(cT, .int)] s := hK
  refine lv_aload_n hx hb dX11_feed_20 rfl (lv_at hl 0 rfl) ?_
  refine lv_iload_n hx hb dX11_feed_21 rfl (lv_at hl 2 rfl) ?_
  have hPc := hP.sub (ws' := [(xX, .inr (11, [.ref xT, .int 4, .ref xW, .ref xR, .ref xM, .ref xS, .int (-1), .int 0, .int (-1)])), (xT, .inl (cT, 340, .inl gT_3))]) [0, 1] rfl
  have hDc := hD.sub (ws' := [(xX, .inr (11, [.ref xT, .int 4, .ref xW, .ref xR, .ref xM, .ref xS, .int (-1), .int 0, .int (-1)])), (xT, .inl (cT, 340, .inl gT_3))]) [0, 1] (by decide) rfl
  have hKc := hK.sub (tys' := [(cT, .int)]) [0] rfl
  have hFc := va_free (wc := [(xX, .inr (11, [.ref xT, .int 4, .ref xW, .ref xR, .ref xM, .ref xS, .int (-1), .int 0, .int (-1)])), (xT, .inl (cT, 340, .inl gT_3))]) hD hS hA [0, 1] rfl
  refine va_callv (va_runV (As := [.int b]) (rest := []) ⟨hx, hb, hml, hown, hts⟩ (c_put_4 l dC dI H.size b gT_3 xX xT xW xR xM xS cT) (cwV 1 hts (gV kw_3_123 kw_3_125 kw_p_0 kw_1_1 kw_3_126) rfl rfl rfl (by decide +kernel) ⟨Nat.le_of_ble_eq_true rfl, Nat.le_of_ble_eq_true rfl⟩) ⟨fun a U g mk q => by obtain ⟨q0, q1, qP, qK, qD⟩ := q; exact ⟨q0, q1, qP, va_K.moved (u := U) (U := U.calling g mk a) (Vm.Alike.refl U.vm) qK, qD⟩, va_recv hKc hPc (ci := 11) (q0 := 0) rfl rfl, fun U hU hW => ⟨rfl, by rw [hU], by rw [hU]; exact hPc, va_K.moved hW.alike hKc, hDc.weaken (fun _ _ _ _ => trivial)⟩⟩ rfl rfl hl.1 rfl (lv_room (Nat.le_of_ble_eq_true rfl)) dX11_feed_22 ⟨Nat.le_of_ble_eq_true rfl, Nat.le_of_ble_eq_true rfl⟩) hS (fun q _ h => hFc q h) hFc (fun u t H1 locs ht hvm hw hB hz1 hk1 hS => ?_)
  obtain ⟨gT_5, hP1, hK1, hD1⟩ := hB
  rw [ht] at hP1
  have hK1 := va_K.moved hvm.symm hK1
  obtain ⟨hP, hD⟩ := va_join (wr := []) (w1 := [(xX, .inr (11, [.ref xT, .int 8, .ref xW, .ref xR, .ref xM, .ref xS, .int (-1), .int 0, .int (-1)])), (xT, .inl (cT, 340, .inl gT_5))]) hP hD [0, 1] [] rfl rfl (by decide) (by decide) hk1 hFc hP1 hD1
  have hK := (hK.sub (tys' := []) [] rfl).app hK1
  generalize H1 = H at hP hS ⊢
  have hP : va_P (dC, dI) vwCl [(xX, .inr (11, [.ref xT, .int 8, .ref xW, .ref xR, .ref xM, .ref xS, .int (-1), .int 0, .int (-1)])), (xT, .inl (cT, 340, .inl gT_5))] H := hP
  have hD : va_D A [(xX, .inr (11, [.ref xT, .int 8, .ref xW, .ref xR, .ref xM, .ref xS, .int (-1), .int 0, .int (-1)])), (xT, .inl (cT, 340, .inl gT_5))] := hD
  have hK : va_K (dC, dI) vwCl [(cT, .int)] s := hK
  refine lv_aload_n hx hb dX11_feed_25 rfl (lv_at hl 0 rfl) ?_
  refine lv_iload_n hx hb dX11_feed_26 rfl (lv_at hl 3 rfl) ?_
  have hPc := hP.sub (ws' := [(xX, .inr (11, [.ref xT, .int 8, .ref xW, .ref xR, .ref xM, .ref xS, .int (-1), .int 0, .int (-1)])), (xT, .inl (cT, 340, .inl gT_5))]) [0, 1] rfl
  have hDc := hD.sub (ws' := [(xX, .inr (11, [.ref xT, .int 8, .ref xW, .ref xR, .ref xM, .ref xS, .int (-1), .int 0, .int (-1)])), (xT, .inl (cT, 340, .inl gT_5))]) [0, 1] (by decide) rfl
  have hKc := hK.sub (tys' := [(cT, .int)]) [0] rfl
  have hFc := va_free (wc := [(xX, .inr (11, [.ref xT, .int 8, .ref xW, .ref xR, .ref xM, .ref xS, .int (-1), .int 0, .int (-1)])), (xT, .inl (cT, 340, .inl gT_5))]) hD hS hA [0, 1] rfl
  refine va_callv (va_runV (As := [.int c3]) (rest := []) ⟨hx, hb, hml, hown, hts⟩ (c_put_8 l dC dI H.size c3 gT_5 xX xT xW xR xM xS cT) (cwV 1 hts (gV kw_3_123 kw_3_125 kw_p_0 kw_1_1 kw_3_126) rfl rfl rfl (by decide +kernel) ⟨Nat.le_of_ble_eq_true rfl, Nat.le_of_ble_eq_true rfl⟩) ⟨fun a U g mk q => by obtain ⟨q0, q1, qP, qK, qD⟩ := q; exact ⟨q0, q1, qP, va_K.moved (u := U) (U := U.calling g mk a) (Vm.Alike.refl U.vm) qK, qD⟩, va_recv hKc hPc (ci := 11) (q0 := 0) rfl rfl, fun U hU hW => ⟨rfl, by rw [hU], by rw [hU]; exact hPc, va_K.moved hW.alike hKc, hDc.weaken (fun _ _ _ _ => trivial)⟩⟩ rfl rfl hl.1 rfl (lv_room (Nat.le_of_ble_eq_true rfl)) dX11_feed_27 ⟨Nat.le_of_ble_eq_true rfl, Nat.le_of_ble_eq_true rfl⟩) hS (fun q _ h => hFc q h) hFc (fun u t H1 locs ht hvm hw hB hz1 hk1 hS => ?_)
  obtain ⟨gT_7, hP1, hK1, hD1⟩ := hB
  rw [ht] at hP1
  have hK1 := va_K.moved hvm.symm hK1
  obtain ⟨hP, hD⟩ := va_join (wr := []) (w1 := [(xX, .inr (11, [.ref xT, .int 12, .ref xW, .ref xR, .ref xM, .ref xS, .int (-1), .int 0, .int (-1)])), (xT, .inl (cT, 340, .inl gT_7))]) hP hD [0, 1] [] rfl rfl (by decide) (by decide) hk1 hFc hP1 hD1
  have hK := (hK.sub (tys' := []) [] rfl).app hK1
  generalize H1 = H at hP hS ⊢
  have hP : va_P (dC, dI) vwCl [(xX, .inr (11, [.ref xT, .int 12, .ref xW, .ref xR, .ref xM, .ref xS, .int (-1), .int 0, .int (-1)])), (xT, .inl (cT, 340, .inl gT_7))] H := hP
  have hD : va_D A [(xX, .inr (11, [.ref xT, .int 12, .ref xW, .ref xR, .ref xM, .ref xS, .int (-1), .int 0, .int (-1)])), (xT, .inl (cT, 340, .inl gT_7))] := hD
  have hK : va_K (dC, dI) vwCl [(cT, .int)] s := hK
  refine lv_aload_n hx hb dX11_feed_30 rfl (lv_at hl 0 rfl) ?_
  refine lv_iload hx hb dX11_feed_31 (lv_at hl 4 rfl) ?_
  have hPc := hP.sub (ws' := [(xX, .inr (11, [.ref xT, .int 12, .ref xW, .ref xR, .ref xM, .ref xS, .int (-1), .int 0, .int (-1)])), (xT, .inl (cT, 340, .inl gT_7))]) [0, 1] rfl
  have hDc := hD.sub (ws' := [(xX, .inr (11, [.ref xT, .int 12, .ref xW, .ref xR, .ref xM, .ref xS, .int (-1), .int 0, .int (-1)])), (xT, .inl (cT, 340, .inl gT_7))]) [0, 1] (by decide) rfl
  have hKc := hK.sub (tys' := [(cT, .int)]) [0] rfl
  have hFc := va_free (wc := [(xX, .inr (11, [.ref xT, .int 12, .ref xW, .ref xR, .ref xM, .ref xS, .int (-1), .int 0, .int (-1)])), (xT, .inl (cT, 340, .inl gT_7))]) hD hS hA [0, 1] rfl
  refine va_callv (va_runV (As := [.int d4]) (rest := []) ⟨hx, hb, hml, hown, hts⟩ (c_put_12 l dC dI H.size d4 gT_7 xX xT xW xR xM xS cT) (cwV 1 hts (gV kw_3_123 kw_3_125 kw_p_0 kw_1_1 kw_3_126) rfl rfl rfl (by decide +kernel) ⟨Nat.le_of_ble_eq_true rfl, Nat.le_of_ble_eq_true rfl⟩) ⟨fun a U g mk q => by obtain ⟨q0, q1, qP, qK, qD⟩ := q; exact ⟨q0, q1, qP, va_K.moved (u := U) (U := U.calling g mk a) (Vm.Alike.refl U.vm) qK, qD⟩, va_recv hKc hPc (ci := 11) (q0 := 0) rfl rfl, fun U hU hW => ⟨rfl, by rw [hU], by rw [hU]; exact hPc, va_K.moved hW.alike hKc, hDc.weaken (fun _ _ _ _ => trivial)⟩⟩ rfl rfl hl.1 rfl (lv_room (Nat.le_of_ble_eq_true rfl)) dX11_feed_33 ⟨Nat.le_of_ble_eq_true rfl, Nat.le_of_ble_eq_true rfl⟩) hS (fun q _ h => hFc q h) hFc (fun u t H1 locs ht hvm hw hB hz1 hk1 hS => ?_)
  obtain ⟨gT_9, hP1, hK1, hD1⟩ := hB
  rw [ht] at hP1
  have hK1 := va_K.moved hvm.symm hK1
  obtain ⟨hP, hD⟩ := va_join (wr := []) (w1 := [(xX, .inr (11, [.ref xT, .int 16, .ref xW, .ref xR, .ref xM, .ref xS, .int (-1), .int 0, .int (-1)])), (xT, .inl (cT, 340, .inl gT_9))]) hP hD [0, 1] [] rfl rfl (by decide) (by decide) hk1 hFc hP1 hD1
  have hK := (hK.sub (tys' := []) [] rfl).app hK1
  generalize H1 = H at hP hS ⊢
  have hP : va_P (dC, dI) vwCl [(xX, .inr (11, [.ref xT, .int 16, .ref xW, .ref xR, .ref xM, .ref xS, .int (-1), .int 0, .int (-1)])), (xT, .inl (cT, 340, .inl gT_9))] H := hP
  have hD : va_D A [(xX, .inr (11, [.ref xT, .int 16, .ref xW, .ref xR, .ref xM, .ref xS, .int (-1), .int 0, .int (-1)])), (xT, .inl (cT, 340, .inl gT_9))] := hD
  have hK : va_K (dC, dI) vwCl [(cT, .int)] s := hK
  refine lv_aload_n hx hb dX11_feed_36 rfl (lv_at hl 0 rfl) ?_
  refine lv_iload hx hb dX11_feed_37 (lv_at hl 5 rfl) ?_
  have hPc := hP.sub (ws' := [(xX, .inr (11, [.ref xT, .int 16, .ref xW, .ref xR, .ref xM, .ref xS, .int (-1), .int 0, .int (-1)])), (xT, .inl (cT, 340, .inl gT_9))]) [0, 1] rfl
  have hDc := hD.sub (ws' := [(xX, .inr (11, [.ref xT, .int 16, .ref xW, .ref xR, .ref xM, .ref xS, .int (-1), .int 0, .int (-1)])), (xT, .inl (cT, 340, .inl gT_9))]) [0, 1] (by decide) rfl
  have hKc := hK.sub (tys' := [(cT, .int)]) [0] rfl
  have hFc := va_free (wc := [(xX, .inr (11, [.ref xT, .int 16, .ref xW, .ref xR, .ref xM, .ref xS, .int (-1), .int 0, .int (-1)])), (xT, .inl (cT, 340, .inl gT_9))]) hD hS hA [0, 1] rfl
  refine va_callv (va_runV (As := [.int e5]) (rest := []) ⟨hx, hb, hml, hown, hts⟩ (c_put_16 l dC dI H.size e5 gT_9 xX xT xW xR xM xS cT) (cwV 1 hts (gV kw_3_123 kw_3_125 kw_p_0 kw_1_1 kw_3_126) rfl rfl rfl (by decide +kernel) ⟨Nat.le_of_ble_eq_true rfl, Nat.le_of_ble_eq_true rfl⟩) ⟨fun a U g mk q => by obtain ⟨q0, q1, qP, qK, qD⟩ := q; exact ⟨q0, q1, qP, va_K.moved (u := U) (U := U.calling g mk a) (Vm.Alike.refl U.vm) qK, qD⟩, va_recv hKc hPc (ci := 11) (q0 := 0) rfl rfl, fun U hU hW => ⟨rfl, by rw [hU], by rw [hU]; exact hPc, va_K.moved hW.alike hKc, hDc.weaken (fun _ _ _ _ => trivial)⟩⟩ rfl rfl hl.1 rfl (lv_room (Nat.le_of_ble_eq_true rfl)) dX11_feed_39 ⟨Nat.le_of_ble_eq_true rfl, Nat.le_of_ble_eq_true rfl⟩) hS (fun q _ h => hFc q h) hFc (fun u t H1 locs ht hvm hw hB hz1 hk1 hS => ?_)
  obtain ⟨gT_11, hP1, hK1, hD1⟩ := hB
  rw [ht] at hP1
  have hK1 := va_K.moved hvm.symm hK1
  obtain ⟨hP, hD⟩ := va_join (wr := []) (w1 := [(xX, .inr (11, [.ref xT, .int 20, .ref xW, .ref xR, .ref xM, .ref xS, .int (-1), .int 0, .int (-1)])), (xT, .inl (cT, 340, .inl gT_11))]) hP hD [0, 1] [] rfl rfl (by decide) (by decide) hk1 hFc hP1 hD1
  have hK := (hK.sub (tys' := []) [] rfl).app hK1
  generalize H1 = H at hP hS ⊢
  have hP : va_P (dC, dI) vwCl [(xX, .inr (11, [.ref xT, .int 20, .ref xW, .ref xR, .ref xM, .ref xS, .int (-1), .int 0, .int (-1)])), (xT, .inl (cT, 340, .inl gT_11))] H := hP
  have hD : va_D A [(xX, .inr (11, [.ref xT, .int 20, .ref xW, .ref xR, .ref xM, .ref xS, .int (-1), .int 0, .int (-1)])), (xT, .inl (cT, 340, .inl gT_11))] := hD
  have hK : va_K (dC, dI) vwCl [(cT, .int)] s := hK
  refine lv_aload_n hx hb dX11_feed_42 rfl (lv_at hl 0 rfl) ?_
  refine va_get (D := (dC, dI)) (ci := 11) (v := .int 20) (C := RX11) (T := TX11) (N := 9) hx hb hts iCX11 hown hK hP 0 rfl rfl 1 (by decide) (hts (.fieldLink RX11 50 "WalkingTown" "tapeSize" "I") (List.mem_cons_of_mem _ kw_3_92)) (fun _ h9 => h9) rfl dX11_feed_43 ?_
  refine W.widen (k := 0) (n := 0) (Nat.le_of_ble_eq_true rfl) (Nat.le_of_ble_eq_true rfl) ?_
  exact W.iret (v := 20) hx hb hr (fun t ht hW => ⟨⟨20, (), rfl, rfl, trivial⟩, hS.F ht⟩) hS.2.2 dX11_feed_46
set_option maxHeartbeats 4000000 in
set_option maxRecDepth 100000 in
theorem c_readyPeople (l : Launch) (dC : Nat → ClassId) (dI : Nat → Nat → Nat) (sz : Nat) (lo : Int32) (fu : Int32) (xM : Nat) (xW : Nat) (xWy : Nat) (xNl : Nat) (vm5 : Value) (vm6 : Value) (vm7 : Value) (vm8 : Value) (vm9 : Value) (vm10 : Value) (vm11 : Value) (vm12 : Value) (vm13 : Value) (vm14 : Value) (vm15 : Value) (vm16 : Value) (vm17 : Value) (xBu : Nat) (xRo : Nat) (xPe : Nat) (xWh : Nat) (xTr : Nat) (xCo : Nat) (xAl : Nat) (xDr : Nat) (xFa : Nat) (vp1 : Value) (vp2 : Value) (vp3 : Value) (vp4 : Value) (vp5 : Value) (vp6 : Value) (vp7 : Value) (vp8 : Value) (vp9 : Value) (vp10 : Value) (vp11 : Value) (vp12 : Value) (vp13 : Value) (vp14 : Value) : Met l yX1_readyPeople (.code yX1_readyPeople cX1_readyPeople 2 none :: lw_good) ({ frames := 3, cells := 0, slots := 0, locals := 120 }) (va_Pc [.ref xM] (fun U => U.heap.size = sz ∧ va_P (dC, dI) vwCl [(xM, .inr (2, [.ref xW, .ref xWy, .ref xNl, .int lo, .int fu, vm5, vm6, vm7, vm8, vm9, vm10, vm11, vm12, vm13, vm14, vm15, vm16, vm17, .ref xBu])), (xW, .inr (7, [.ref xRo, .ref xPe, .ref xWh, .ref xTr, .ref xCo, .int 0, .ref xAl, .ref xNl, .ref xDr, .int 0, .ref xFa, .int 0, .int 0, .int 0])), (xPe, .inr (3, [.int 0, vp1, vp2, vp3, vp4, vp5, vp6, vp7, vp8, vp9, vp10, vp11, vp12, vp13, vp14]))] U.heap ∧ va_K (dC, dI) vwCl [] U ∧ va_D (fun _ => True) [(xM, .inr (2, [.ref xW, .ref xWy, .ref xNl, .int lo, .int fu, vm5, vm6, vm7, vm8, vm9, vm10, vm11, vm12, vm13, vm14, vm15, vm16, vm17, .ref xBu])), (xW, .inr (7, [.ref xRo, .ref xPe, .ref xWh, .ref xTr, .ref xCo, .int 0, .ref xAl, .ref xNl, .ref xDr, .int 0, .ref xFa, .int 0, .int 0, .int 0])), (xPe, .inr (3, [.int 0, vp1, vp2, vp3, vp4, vp5, vp6, vp7, vp8, vp9, vp10, vp11, vp12, vp13, vp14]))])) (va_Qv (fun (_ : Unit) => True) (fun (_ : Unit) (t : State) => va_P (dC, dI) vwCl [(xM, .inr (2, [.ref xW, .ref xWy, .ref xNl, .int lo, .int fu, vm5, vm6, vm7, vm8, vm9, vm10, vm11, vm12, vm13, vm14, vm15, vm16, vm17, .ref xBu])), (xW, .inr (7, [.ref xRo, .ref xPe, .ref xWh, .ref xTr, .ref xCo, .int 0, .ref xAl, .ref xNl, .ref xDr, .int 0, .ref xFa, .int 0, .int 0, .int 0])), (xPe, .inr (3, [.int 0, vp1, vp2, vp3, vp4, vp5, vp6, vp7, vp8, vp9, vp10, vp11, vp12, vp13, vp14]))] t.heap ∧ va_K (dC, dI) vwCl [] t ∧ va_D (va_A [(xM, .inr (2, [.ref xW, .ref xWy, .ref xNl, .int lo, .int fu, vm5, vm6, vm7, vm8, vm9, vm10, vm11, vm12, vm13, vm14, vm15, vm16, vm17, .ref xBu])), (xW, .inr (7, [.ref xRo, .ref xPe, .ref xWh, .ref xTr, .ref xCo, .int 0, .ref xAl, .ref xNl, .ref xDr, .int 0, .ref xFa, .int 0, .int 0, .int 0])), (xPe, .inr (3, [.int 0, vp1, vp2, vp3, vp4, vp5, vp6, vp7, vp8, vp9, vp10, vp11, vp12, vp13, vp14]))] sz) [(xM, .inr (2, [.ref xW, .ref xWy, .ref xNl, .int lo, .int fu, vm5, vm6, vm7, vm8, vm9, vm10, vm11, vm12, vm13, vm14, vm15, vm16, vm17, .ref xBu])), (xW, .inr (7, [.ref xRo, .ref xPe, .ref xWh, .ref xTr, .ref xCo, .int 0, .ref xAl, .ref xNl, .ref xDr, .int 0, .ref xFa, .int 0, .int 0, .int 0])), (xPe, .inr (3, [.int 0, vp1, vp2, vp3, vp4, vp5, vp6, vp7, vp8, vp9, vp10, vp11, vp12, vp13, vp14]))]) (va_A [(xM, .inr (2, [.ref xW, .ref xWy, .ref xNl, .int lo, .int fu, vm5, vm6, vm7, vm8, vm9, vm10, vm11, vm12, vm13, vm14, vm15, vm16, vm17, .ref xBu])), (xW, .inr (7, [.ref xRo, .ref xPe, .ref xWh, .ref xTr, .ref xCo, .int 0, .ref xAl, .ref xNl, .ref xDr, .int 0, .ref xFa, .int 0, .int 0, .int 0])), (xPe, .inr (3, [.int 0, vp1, vp2, vp3, vp4, vp5, vp6, vp7, vp8, vp9, vp10, vp11, vp12, vp13, vp14]))] sz)) 0 0 (va_A [(xM, .inr (2, [.ref xW, .ref xWy, .ref xNl, .int lo, .int fu, vm5, vm6, vm7, vm8, vm9, vm10, vm11, vm12, vm13, vm14, vm15, vm16, vm17, .ref xBu])), (xW, .inr (7, [.ref xRo, .ref xPe, .ref xWh, .ref xTr, .ref xCo, .int 0, .ref xAl, .ref xNl, .ref xDr, .int 0, .ref xFa, .int 0, .int 0, .int 0])), (xPe, .inr (3, [.int 0, vp1, vp2, vp3, vp4, vp5, vp6, vp7, vp8, vp9, vp10, vp11, vp12, vp13, vp14]))] sz) := by
  refine Met.ofW (cc := cX1_readyPeople) (maxL := 2) (ret := none) (by decide) rfl ?_
  intro p e s m args below meth c s₁ B hml hv
  obtain ⟨rfl, hsz, hP, hK, hD0⟩ := hv
  have hx := B.exec
  have hb := B.bytes
  have hr := B.returns
  have hts := atoms_spec (ws := (.code yX1_readyPeople cX1_readyPeople 2 none :: lw_good)) B.pre
  have hown : s.vm.findClass RX1 = some m.cls := findClass_of_methodNamed B.named
  have hlocks := B.notSynchronized
  subst hsz
  have hD := hD0.self (sz := s.heap.size)
  generalize hAe : va_A [(xM, .inr (2, [.ref xW, .ref xWy, .ref xNl, .int lo, .int fu, vm5, vm6, vm7, vm8, vm9, vm10, vm11, vm12, vm13, vm14, vm15, vm16, vm17, .ref xBu])), (xW, .inr (7, [.ref xRo, .ref xPe, .ref xWh, .ref xTr, .ref xCo, .int 0, .ref xAl, .ref xNl, .ref xDr, .int 0, .ref xFa, .int 0, .int 0, .int 0])), (xPe, .inr (3, [.int 0, vp1, vp2, vp3, vp4, vp5, vp6, vp7, vp8, vp9, vp10, vp11, vp12, vp13, vp14]))] s.heap.size = A at hD ⊢
  have hA : ∀ q : Nat, s.heap.size ≤ q → A q := fun q h => by rw [← hAe]; exact Or.inr h
  have hS : va_S A s.heap s.heap [] := va_S.rf
  have hP : va_P (dC, dI) vwCl [(xM, .inr (2, [.ref xW, .ref xWy, .ref xNl, .int lo, .int fu, vm5, vm6, vm7, vm8, vm9, vm10, vm11, vm12, vm13, vm14, vm15, vm16, vm17, .ref xBu])), (xW, .inr (7, [.ref xRo, .ref xPe, .ref xWh, .ref xTr, .ref xCo, .int 0, .ref xAl, .ref xNl, .ref xDr, .int 0, .ref xFa, .int 0, .int 0, .int 0])), (xPe, .inr (3, [.int 0, vp1, vp2, vp3, vp4, vp5, vp6, vp7, vp8, vp9, vp10, vp11, vp12, vp13, vp14]))] s.heap := hP
  have hl := lv_entry ([.ref xM]) (n := 2) (Nat.le_of_ble_eq_true rfl)
  rw [lg_entry_eq]
  generalize (lg_sl ([.ref xM]) ++ List.replicate (2 - (lg_sl ([.ref xM])).length) Slot.unset).toArray = ls at hl ⊢
  have hl : lv_has ls 2 [(0, .ref xM)] := hl
  refine lv_iconst (v := 0) hx hb dX1_readyPeople_0 (by decide) ?_
  refine lv_istore_n (lv' := [(1, .int 0), (0, .ref xM)]) hx hb dX1_readyPeople_1 rfl hl (by decide) rfl (fun ls hl => ?_)
  refine lv_iload_n hx hb dX1_readyPeople_2 rfl (lv_at hl 0 rfl) ?_
  refine lv_aload_n hx hb dX1_readyPeople_3 rfl (lv_at hl 1 rfl) ?_
  refine va_get (D := (dC, dI)) (ci := 2) (v := .ref xW) (C := RX1) (T := TX1) (N := 19) hx hb hts iCX1 hown hK hP 0 rfl rfl 0 (by decide) (hts (.fieldLink RX1 9 "WalkingTown$Morning" "town" "LWalkingTown$Town;") (List.mem_cons_of_mem _ kw_2_221)) (fun _ h9 => h9) rfl dX1_readyPeople_4 ?_
  refine va_get (D := (dC, dI)) (ci := 7) (v := .ref xPe) (C := RX7) (T := TX7) (N := 14) hx hb hts iCX7 hown hK hP 1 rfl rfl 1 (by decide) (hts (.fieldLink RX1 129 "WalkingTown$Town" "people" "LWalkingTown$People;") (List.mem_cons_of_mem _ kw_2_63)) (fun _ h9 => h9) rfl dX1_readyPeople_7 ?_
  refine va_get (D := (dC, dI)) (ci := 3) (v := .int 0) (C := RX2) (T := TX2) (N := 15) hx hb hts iCX2 hown hK hP 2 rfl rfl 0 (by decide) (hts (.fieldLink RX1 133 "WalkingTown$People" "size" "I") (List.mem_cons_of_mem _ kw_1_68)) (fun _ h9 => h9) rfl dX1_readyPeople_10 ?_
  refine lv_icmp_ge (tgt := 123) hx hb dX1_readyPeople_13 (by decide) (fun c_1 => ?_) (fun c_1 => ?_)
  rotate_left
  · exact (c_1 (by decide)).elim
  have hP9 := hP.sub (ws' := [(xM, .inr (2, [.ref xW, .ref xWy, .ref xNl, .int lo, .int fu, vm5, vm6, vm7, vm8, vm9, vm10, vm11, vm12, vm13, vm14, vm15, vm16, vm17, .ref xBu])), (xW, .inr (7, [.ref xRo, .ref xPe, .ref xWh, .ref xTr, .ref xCo, .int 0, .ref xAl, .ref xNl, .ref xDr, .int 0, .ref xFa, .int 0, .int 0, .int 0])), (xPe, .inr (3, [.int 0, vp1, vp2, vp3, vp4, vp5, vp6, vp7, vp8, vp9, vp10, vp11, vp12, vp13, vp14]))]) [0, 1, 2] rfl
  have hD9 := hD.sub (ws' := [(xM, .inr (2, [.ref xW, .ref xWy, .ref xNl, .int lo, .int fu, vm5, vm6, vm7, vm8, vm9, vm10, vm11, vm12, vm13, vm14, vm15, vm16, vm17, .ref xBu])), (xW, .inr (7, [.ref xRo, .ref xPe, .ref xWh, .ref xTr, .ref xCo, .int 0, .ref xAl, .ref xNl, .ref xDr, .int 0, .ref xFa, .int 0, .int 0, .int 0])), (xPe, .inr (3, [.int 0, vp1, vp2, vp3, vp4, vp5, vp6, vp7, vp8, vp9, vp10, vp11, vp12, vp13, vp14]))]) [0, 1, 2] (by decide) rfl
  have hK9 := hK.sub (tys' := []) [] rfl
  refine W.widen (k := 0) (n := 0) (Nat.le_of_ble_eq_true rfl) (Nat.le_of_ble_eq_true rfl) ?_
  exact W.vret hx hb hr (fun t ht hW => ⟨⟨(), rfl, trivial, ⟨by rw [ht]; exact hP9, va_K.moved hW.alike hK9, hD9⟩⟩, hS.F ht⟩) hS.2.2 dX1_readyPeople_123
set_option maxHeartbeats 4000000 in
set_option maxRecDepth 100000 in
theorem c_readyWheels (l : Launch) (dC : Nat → ClassId) (dI : Nat → Nat → Nat) (sz : Nat) (lo : Int32) (fu : Int32) (xM : Nat) (xW : Nat) (xWy : Nat) (xNl : Nat) (vm5 : Value) (vm6 : Value) (vm7 : Value) (vm8 : Value) (vm9 : Value) (vm10 : Value) (vm11 : Value) (vm12 : Value) (vm13 : Value) (vm14 : Value) (vm15 : Value) (vm16 : Value) (vm17 : Value) (xBu : Nat) (xRo : Nat) (xPe : Nat) (xWh : Nat) (xTr : Nat) (xCo : Nat) (xAl : Nat) (xDr : Nat) (xFa : Nat) (vh1 : Value) (vh2 : Value) (vh3 : Value) (vh4 : Value) (vh5 : Value) (vh6 : Value) (vh7 : Value) (vh8 : Value) : Met l yX1_readyWheels (.code yX1_readyWheels cX1_readyWheels 2 none :: lw_good) ({ frames := 3, cells := 0, slots := 0, locals := 120 }) (va_Pc [.ref xM] (fun U => U.heap.size = sz ∧ va_P (dC, dI) vwCl [(xM, .inr (2, [.ref xW, .ref xWy, .ref xNl, .int lo, .int fu, vm5, vm6, vm7, vm8, vm9, vm10, vm11, vm12, vm13, vm14, vm15, vm16, vm17, .ref xBu])), (xW, .inr (7, [.ref xRo, .ref xPe, .ref xWh, .ref xTr, .ref xCo, .int 0, .ref xAl, .ref xNl, .ref xDr, .int 0, .ref xFa, .int 0, .int 0, .int 0])), (xWh, .inr (10, [.int 0, vh1, vh2, vh3, vh4, vh5, vh6, vh7, vh8]))] U.heap ∧ va_K (dC, dI) vwCl [] U ∧ va_D (fun _ => True) [(xM, .inr (2, [.ref xW, .ref xWy, .ref xNl, .int lo, .int fu, vm5, vm6, vm7, vm8, vm9, vm10, vm11, vm12, vm13, vm14, vm15, vm16, vm17, .ref xBu])), (xW, .inr (7, [.ref xRo, .ref xPe, .ref xWh, .ref xTr, .ref xCo, .int 0, .ref xAl, .ref xNl, .ref xDr, .int 0, .ref xFa, .int 0, .int 0, .int 0])), (xWh, .inr (10, [.int 0, vh1, vh2, vh3, vh4, vh5, vh6, vh7, vh8]))])) (va_Qv (fun (_ : Unit) => True) (fun (_ : Unit) (t : State) => va_P (dC, dI) vwCl [(xM, .inr (2, [.ref xW, .ref xWy, .ref xNl, .int lo, .int fu, vm5, vm6, vm7, vm8, vm9, vm10, vm11, vm12, vm13, vm14, vm15, vm16, vm17, .ref xBu])), (xW, .inr (7, [.ref xRo, .ref xPe, .ref xWh, .ref xTr, .ref xCo, .int 0, .ref xAl, .ref xNl, .ref xDr, .int 0, .ref xFa, .int 0, .int 0, .int 0])), (xWh, .inr (10, [.int 0, vh1, vh2, vh3, vh4, vh5, vh6, vh7, vh8]))] t.heap ∧ va_K (dC, dI) vwCl [] t ∧ va_D (va_A [(xM, .inr (2, [.ref xW, .ref xWy, .ref xNl, .int lo, .int fu, vm5, vm6, vm7, vm8, vm9, vm10, vm11, vm12, vm13, vm14, vm15, vm16, vm17, .ref xBu])), (xW, .inr (7, [.ref xRo, .ref xPe, .ref xWh, .ref xTr, .ref xCo, .int 0, .ref xAl, .ref xNl, .ref xDr, .int 0, .ref xFa, .int 0, .int 0, .int 0])), (xWh, .inr (10, [.int 0, vh1, vh2, vh3, vh4, vh5, vh6, vh7, vh8]))] sz) [(xM, .inr (2, [.ref xW, .ref xWy, .ref xNl, .int lo, .int fu, vm5, vm6, vm7, vm8, vm9, vm10, vm11, vm12, vm13, vm14, vm15, vm16, vm17, .ref xBu])), (xW, .inr (7, [.ref xRo, .ref xPe, .ref xWh, .ref xTr, .ref xCo, .int 0, .ref xAl, .ref xNl, .ref xDr, .int 0, .ref xFa, .int 0, .int 0, .int 0])), (xWh, .inr (10, [.int 0, vh1, vh2, vh3, vh4, vh5, vh6, vh7, vh8]))]) (va_A [(xM, .inr (2, [.ref xW, .ref xWy, .ref xNl, .int lo, .int fu, vm5, vm6, vm7, vm8, vm9, vm10, vm11, vm12, vm13, vm14, vm15, vm16, vm17, .ref xBu])), (xW, .inr (7, [.ref xRo, .ref xPe, .ref xWh, .ref xTr, .ref xCo, .int 0, .ref xAl, .ref xNl, .ref xDr, .int 0, .ref xFa, .int 0, .int 0, .int 0])), (xWh, .inr (10, [.int 0, vh1, vh2, vh3, vh4, vh5, vh6, vh7, vh8]))] sz)) 0 0 (va_A [(xM, .inr (2, [.ref xW, .ref xWy, .ref xNl, .int lo, .int fu, vm5, vm6, vm7, vm8, vm9, vm10, vm11, vm12, vm13, vm14, vm15, vm16, vm17, .ref xBu])), (xW, .inr (7, [.ref xRo, .ref xPe, .ref xWh, .ref xTr, .ref xCo, .int 0, .ref xAl, .ref xNl, .ref xDr, .int 0, .ref xFa, .int 0, .int 0, .int 0])), (xWh, .inr (10, [.int 0, vh1, vh2, vh3, vh4, vh5, vh6, vh7, vh8]))] sz) := by
  refine Met.ofW (cc := cX1_readyWheels) (maxL := 2) (ret := none) (by decide) rfl ?_
  intro p e s m args below meth c s₁ B hml hv
  obtain ⟨rfl, hsz, hP, hK, hD0⟩ := hv
  have hx := B.exec
  have hb := B.bytes
  have hr := B.returns
  have hts := atoms_spec (ws := (.code yX1_readyWheels cX1_readyWheels 2 none :: lw_good)) B.pre
  have hown : s.vm.findClass RX1 = some m.cls := findClass_of_methodNamed B.named
  have hlocks := B.notSynchronized
  subst hsz
  have hD := hD0.self (sz := s.heap.size)
  generalize hAe : va_A [(xM, .inr (2, [.ref xW, .ref xWy, .ref xNl, .int lo, .int fu, vm5, vm6, vm7, vm8, vm9, vm10, vm11, vm12, vm13, vm14, vm15, vm16, vm17, .ref xBu])), (xW, .inr (7, [.ref xRo, .ref xPe, .ref xWh, .ref xTr, .ref xCo, .int 0, .ref xAl, .ref xNl, .ref xDr, .int 0, .ref xFa, .int 0, .int 0, .int 0])), (xWh, .inr (10, [.int 0, vh1, vh2, vh3, vh4, vh5, vh6, vh7, vh8]))] s.heap.size = A at hD ⊢
  have hA : ∀ q : Nat, s.heap.size ≤ q → A q := fun q h => by rw [← hAe]; exact Or.inr h
  have hS : va_S A s.heap s.heap [] := va_S.rf
  have hP : va_P (dC, dI) vwCl [(xM, .inr (2, [.ref xW, .ref xWy, .ref xNl, .int lo, .int fu, vm5, vm6, vm7, vm8, vm9, vm10, vm11, vm12, vm13, vm14, vm15, vm16, vm17, .ref xBu])), (xW, .inr (7, [.ref xRo, .ref xPe, .ref xWh, .ref xTr, .ref xCo, .int 0, .ref xAl, .ref xNl, .ref xDr, .int 0, .ref xFa, .int 0, .int 0, .int 0])), (xWh, .inr (10, [.int 0, vh1, vh2, vh3, vh4, vh5, vh6, vh7, vh8]))] s.heap := hP
  have hl := lv_entry ([.ref xM]) (n := 2) (Nat.le_of_ble_eq_true rfl)
  rw [lg_entry_eq]
  generalize (lg_sl ([.ref xM]) ++ List.replicate (2 - (lg_sl ([.ref xM])).length) Slot.unset).toArray = ls at hl ⊢
  have hl : lv_has ls 2 [(0, .ref xM)] := hl
  refine lv_iconst (v := 0) hx hb dX1_readyWheels_0 (by decide) ?_
  refine lv_istore_n (lv' := [(1, .int 0), (0, .ref xM)]) hx hb dX1_readyWheels_1 rfl hl (by decide) rfl (fun ls hl => ?_)
  refine lv_iload_n hx hb dX1_readyWheels_2 rfl (lv_at hl 0 rfl) ?_
  refine lv_aload_n hx hb dX1_readyWheels_3 rfl (lv_at hl 1 rfl) ?_
  refine va_get (D := (dC, dI)) (ci := 2) (v := .ref xW) (C := RX1) (T := TX1) (N := 19) hx hb hts iCX1 hown hK hP 0 rfl rfl 0 (by decide) (hts (.fieldLink RX1 9 "WalkingTown$Morning" "town" "LWalkingTown$Town;") (List.mem_cons_of_mem _ kw_2_221)) (fun _ h9 => h9) rfl dX1_readyWheels_4 ?_
  refine va_get (D := (dC, dI)) (ci := 7) (v := .ref xWh) (C := RX7) (T := TX7) (N := 14) hx hb hts iCX7 hown hK hP 1 rfl rfl 2 (by decide) (hts (.fieldLink RX1 148 "WalkingTown$Town" "wheels" "LWalkingTown$Wheels;") (List.mem_cons_of_mem _ kw_2_69)) (fun _ h9 => h9) rfl dX1_readyWheels_7 ?_
  refine va_get (D := (dC, dI)) (ci := 10) (v := .int 0) (C := RX10) (T := TX10) (N := 9) hx hb hts iCX10 hown hK hP 2 rfl rfl 0 (by decide) (hts (.fieldLink RX1 152 "WalkingTown$Wheels" "size" "I") (List.mem_cons_of_mem _ kw_1_141)) (fun _ h9 => h9) rfl dX1_readyWheels_10 ?_
  refine lv_icmp_ge (tgt := 79) hx hb dX1_readyWheels_13 (by decide) (fun c_1 => ?_) (fun c_1 => ?_)
  rotate_left
  · exact (c_1 (by decide)).elim
  have hP9 := hP.sub (ws' := [(xM, .inr (2, [.ref xW, .ref xWy, .ref xNl, .int lo, .int fu, vm5, vm6, vm7, vm8, vm9, vm10, vm11, vm12, vm13, vm14, vm15, vm16, vm17, .ref xBu])), (xW, .inr (7, [.ref xRo, .ref xPe, .ref xWh, .ref xTr, .ref xCo, .int 0, .ref xAl, .ref xNl, .ref xDr, .int 0, .ref xFa, .int 0, .int 0, .int 0])), (xWh, .inr (10, [.int 0, vh1, vh2, vh3, vh4, vh5, vh6, vh7, vh8]))]) [0, 1, 2] rfl
  have hD9 := hD.sub (ws' := [(xM, .inr (2, [.ref xW, .ref xWy, .ref xNl, .int lo, .int fu, vm5, vm6, vm7, vm8, vm9, vm10, vm11, vm12, vm13, vm14, vm15, vm16, vm17, .ref xBu])), (xW, .inr (7, [.ref xRo, .ref xPe, .ref xWh, .ref xTr, .ref xCo, .int 0, .ref xAl, .ref xNl, .ref xDr, .int 0, .ref xFa, .int 0, .int 0, .int 0])), (xWh, .inr (10, [.int 0, vh1, vh2, vh3, vh4, vh5, vh6, vh7, vh8]))]) [0, 1, 2] (by decide) rfl
  have hK9 := hK.sub (tys' := []) [] rfl
  refine W.widen (k := 0) (n := 0) (Nat.le_of_ble_eq_true rfl) (Nat.le_of_ble_eq_true rfl) ?_
  exact W.vret hx hb hr (fun t ht hW => ⟨⟨(), rfl, trivial, ⟨by rw [ht]; exact hP9, va_K.moved hW.alike hK9, hD9⟩⟩, hS.F ht⟩) hS.2.2 dX1_readyWheels_79
set_option maxHeartbeats 4000000 in
set_option maxRecDepth 100000 in
theorem c_readyTrips (l : Launch) (dC : Nat → ClassId) (dI : Nat → Nat → Nat) (sz : Nat) (lo : Int32) (fu : Int32) (xM : Nat) (xW : Nat) (xWy : Nat) (xNl : Nat) (vm5 : Value) (vm6 : Value) (vm7 : Value) (vm8 : Value) (vm9 : Value) (vm10 : Value) (vm11 : Value) (vm12 : Value) (vm13 : Value) (vm14 : Value) (vm15 : Value) (vm16 : Value) (vm17 : Value) (xBu : Nat) (xRo : Nat) (xPe : Nat) (xWh : Nat) (xTr : Nat) (xCo : Nat) (xAl : Nat) (xDr : Nat) (xFa : Nat) (vt1 : Value) (vt2 : Value) (vt3 : Value) (vt4 : Value) (vt5 : Value) (vt6 : Value) (vt7 : Value) (vt8 : Value) : Met l yX1_readyTrips (.code yX1_readyTrips cX1_readyTrips 2 none :: lw_good) ({ frames := 3, cells := 0, slots := 0, locals := 120 }) (va_Pc [.ref xM] (fun U => U.heap.size = sz ∧ va_P (dC, dI) vwCl [(xM, .inr (2, [.ref xW, .ref xWy, .ref xNl, .int lo, .int fu, vm5, vm6, vm7, vm8, vm9, vm10, vm11, vm12, vm13, vm14, vm15, vm16, vm17, .ref xBu])), (xW, .inr (7, [.ref xRo, .ref xPe, .ref xWh, .ref xTr, .ref xCo, .int 0, .ref xAl, .ref xNl, .ref xDr, .int 0, .ref xFa, .int 0, .int 0, .int 0])), (xTr, .inr (8, [.int 0, vt1, vt2, vt3, vt4, vt5, vt6, vt7, vt8]))] U.heap ∧ va_K (dC, dI) vwCl [] U ∧ va_D (fun _ => True) [(xM, .inr (2, [.ref xW, .ref xWy, .ref xNl, .int lo, .int fu, vm5, vm6, vm7, vm8, vm9, vm10, vm11, vm12, vm13, vm14, vm15, vm16, vm17, .ref xBu])), (xW, .inr (7, [.ref xRo, .ref xPe, .ref xWh, .ref xTr, .ref xCo, .int 0, .ref xAl, .ref xNl, .ref xDr, .int 0, .ref xFa, .int 0, .int 0, .int 0])), (xTr, .inr (8, [.int 0, vt1, vt2, vt3, vt4, vt5, vt6, vt7, vt8]))])) (va_Qv (fun (_ : Unit) => True) (fun (_ : Unit) (t : State) => va_P (dC, dI) vwCl [(xM, .inr (2, [.ref xW, .ref xWy, .ref xNl, .int lo, .int fu, vm5, vm6, vm7, vm8, vm9, vm10, vm11, vm12, vm13, vm14, vm15, vm16, vm17, .ref xBu])), (xW, .inr (7, [.ref xRo, .ref xPe, .ref xWh, .ref xTr, .ref xCo, .int 0, .ref xAl, .ref xNl, .ref xDr, .int 0, .ref xFa, .int 0, .int 0, .int 0])), (xTr, .inr (8, [.int 0, vt1, vt2, vt3, vt4, vt5, vt6, vt7, vt8]))] t.heap ∧ va_K (dC, dI) vwCl [] t ∧ va_D (va_A [(xM, .inr (2, [.ref xW, .ref xWy, .ref xNl, .int lo, .int fu, vm5, vm6, vm7, vm8, vm9, vm10, vm11, vm12, vm13, vm14, vm15, vm16, vm17, .ref xBu])), (xW, .inr (7, [.ref xRo, .ref xPe, .ref xWh, .ref xTr, .ref xCo, .int 0, .ref xAl, .ref xNl, .ref xDr, .int 0, .ref xFa, .int 0, .int 0, .int 0])), (xTr, .inr (8, [.int 0, vt1, vt2, vt3, vt4, vt5, vt6, vt7, vt8]))] sz) [(xM, .inr (2, [.ref xW, .ref xWy, .ref xNl, .int lo, .int fu, vm5, vm6, vm7, vm8, vm9, vm10, vm11, vm12, vm13, vm14, vm15, vm16, vm17, .ref xBu])), (xW, .inr (7, [.ref xRo, .ref xPe, .ref xWh, .ref xTr, .ref xCo, .int 0, .ref xAl, .ref xNl, .ref xDr, .int 0, .ref xFa, .int 0, .int 0, .int 0])), (xTr, .inr (8, [.int 0, vt1, vt2, vt3, vt4, vt5, vt6, vt7, vt8]))]) (va_A [(xM, .inr (2, [.ref xW, .ref xWy, .ref xNl, .int lo, .int fu, vm5, vm6, vm7, vm8, vm9, vm10, vm11, vm12, vm13, vm14, vm15, vm16, vm17, .ref xBu])), (xW, .inr (7, [.ref xRo, .ref xPe, .ref xWh, .ref xTr, .ref xCo, .int 0, .ref xAl, .ref xNl, .ref xDr, .int 0, .ref xFa, .int 0, .int 0, .int 0])), (xTr, .inr (8, [.int 0, vt1, vt2, vt3, vt4, vt5, vt6, vt7, vt8]))] sz)) 0 0 (va_A [(xM, .inr (2, [.ref xW, .ref xWy, .ref xNl, .int lo, .int fu, vm5, vm6, vm7, vm8, vm9, vm10, vm11, vm12, vm13, vm14, vm15, vm16, vm17, .ref xBu])), (xW, .inr (7, [.ref xRo, .ref xPe, .ref xWh, .ref xTr, .ref xCo, .int 0, .ref xAl, .ref xNl, .ref xDr, .int 0, .ref xFa, .int 0, .int 0, .int 0])), (xTr, .inr (8, [.int 0, vt1, vt2, vt3, vt4, vt5, vt6, vt7, vt8]))] sz) := by
  refine Met.ofW (cc := cX1_readyTrips) (maxL := 2) (ret := none) (by decide) rfl ?_
  intro p e s m args below meth c s₁ B hml hv
  obtain ⟨rfl, hsz, hP, hK, hD0⟩ := hv
  have hx := B.exec
  have hb := B.bytes
  have hr := B.returns
  have hts := atoms_spec (ws := (.code yX1_readyTrips cX1_readyTrips 2 none :: lw_good)) B.pre
  have hown : s.vm.findClass RX1 = some m.cls := findClass_of_methodNamed B.named
  have hlocks := B.notSynchronized
  subst hsz
  have hD := hD0.self (sz := s.heap.size)
  generalize hAe : va_A [(xM, .inr (2, [.ref xW, .ref xWy, .ref xNl, .int lo, .int fu, vm5, vm6, vm7, vm8, vm9, vm10, vm11, vm12, vm13, vm14, vm15, vm16, vm17, .ref xBu])), (xW, .inr (7, [.ref xRo, .ref xPe, .ref xWh, .ref xTr, .ref xCo, .int 0, .ref xAl, .ref xNl, .ref xDr, .int 0, .ref xFa, .int 0, .int 0, .int 0])), (xTr, .inr (8, [.int 0, vt1, vt2, vt3, vt4, vt5, vt6, vt7, vt8]))] s.heap.size = A at hD ⊢
  have hA : ∀ q : Nat, s.heap.size ≤ q → A q := fun q h => by rw [← hAe]; exact Or.inr h
  have hS : va_S A s.heap s.heap [] := va_S.rf
  have hP : va_P (dC, dI) vwCl [(xM, .inr (2, [.ref xW, .ref xWy, .ref xNl, .int lo, .int fu, vm5, vm6, vm7, vm8, vm9, vm10, vm11, vm12, vm13, vm14, vm15, vm16, vm17, .ref xBu])), (xW, .inr (7, [.ref xRo, .ref xPe, .ref xWh, .ref xTr, .ref xCo, .int 0, .ref xAl, .ref xNl, .ref xDr, .int 0, .ref xFa, .int 0, .int 0, .int 0])), (xTr, .inr (8, [.int 0, vt1, vt2, vt3, vt4, vt5, vt6, vt7, vt8]))] s.heap := hP
  have hl := lv_entry ([.ref xM]) (n := 2) (Nat.le_of_ble_eq_true rfl)
  rw [lg_entry_eq]
  generalize (lg_sl ([.ref xM]) ++ List.replicate (2 - (lg_sl ([.ref xM])).length) Slot.unset).toArray = ls at hl ⊢
  have hl : lv_has ls 2 [(0, .ref xM)] := hl
  refine lv_iconst (v := 0) hx hb dX1_readyTrips_0 (by decide) ?_
  refine lv_istore_n (lv' := [(1, .int 0), (0, .ref xM)]) hx hb dX1_readyTrips_1 rfl hl (by decide) rfl (fun ls hl => ?_)
  refine lv_iload_n hx hb dX1_readyTrips_2 rfl (lv_at hl 0 rfl) ?_
  refine lv_aload_n hx hb dX1_readyTrips_3 rfl (lv_at hl 1 rfl) ?_
  refine va_get (D := (dC, dI)) (ci := 2) (v := .ref xW) (C := RX1) (T := TX1) (N := 19) hx hb hts iCX1 hown hK hP 0 rfl rfl 0 (by decide) (hts (.fieldLink RX1 9 "WalkingTown$Morning" "town" "LWalkingTown$Town;") (List.mem_cons_of_mem _ kw_2_221)) (fun _ h9 => h9) rfl dX1_readyTrips_4 ?_
  refine va_get (D := (dC, dI)) (ci := 7) (v := .ref xTr) (C := RX7) (T := TX7) (N := 14) hx hb hts iCX7 hown hK hP 1 rfl rfl 3 (by decide) (hts (.fieldLink RX1 157 "WalkingTown$Town" "trips" "LWalkingTown$Trips;") (List.mem_cons_of_mem _ kw_2_73)) (fun _ h9 => h9) rfl dX1_readyTrips_7 ?_
  refine va_get (D := (dC, dI)) (ci := 8) (v := .int 0) (C := RX8) (T := TX8) (N := 9) hx hb hts iCX8 hown hK hP 2 rfl rfl 0 (by decide) (hts (.fieldLink RX1 161 "WalkingTown$Trips" "size" "I") (List.mem_cons_of_mem _ kw_1_190)) (fun _ h9 => h9) rfl dX1_readyTrips_10 ?_
  refine lv_icmp_ge (tgt := 53) hx hb dX1_readyTrips_13 (by decide) (fun c_1 => ?_) (fun c_1 => ?_)
  rotate_left
  · exact (c_1 (by decide)).elim
  have hP9 := hP.sub (ws' := [(xM, .inr (2, [.ref xW, .ref xWy, .ref xNl, .int lo, .int fu, vm5, vm6, vm7, vm8, vm9, vm10, vm11, vm12, vm13, vm14, vm15, vm16, vm17, .ref xBu])), (xW, .inr (7, [.ref xRo, .ref xPe, .ref xWh, .ref xTr, .ref xCo, .int 0, .ref xAl, .ref xNl, .ref xDr, .int 0, .ref xFa, .int 0, .int 0, .int 0])), (xTr, .inr (8, [.int 0, vt1, vt2, vt3, vt4, vt5, vt6, vt7, vt8]))]) [0, 1, 2] rfl
  have hD9 := hD.sub (ws' := [(xM, .inr (2, [.ref xW, .ref xWy, .ref xNl, .int lo, .int fu, vm5, vm6, vm7, vm8, vm9, vm10, vm11, vm12, vm13, vm14, vm15, vm16, vm17, .ref xBu])), (xW, .inr (7, [.ref xRo, .ref xPe, .ref xWh, .ref xTr, .ref xCo, .int 0, .ref xAl, .ref xNl, .ref xDr, .int 0, .ref xFa, .int 0, .int 0, .int 0])), (xTr, .inr (8, [.int 0, vt1, vt2, vt3, vt4, vt5, vt6, vt7, vt8]))]) [0, 1, 2] (by decide) rfl
  have hK9 := hK.sub (tys' := []) [] rfl
  refine W.widen (k := 0) (n := 0) (Nat.le_of_ble_eq_true rfl) (Nat.le_of_ble_eq_true rfl) ?_
  exact W.vret hx hb hr (fun t ht hW => ⟨⟨(), rfl, trivial, ⟨by rw [ht]; exact hP9, va_K.moved hW.alike hK9, hD9⟩⟩, hS.F ht⟩) hS.2.2 dX1_readyTrips_53
set_option maxHeartbeats 4000000 in
set_option maxRecDepth 100000 in
theorem c_countOnTime (l : Launch) (dC : Nat → ClassId) (dI : Nat → Nat → Nat) (sz : Nat) (lo : Int32) (fu : Int32) (xM : Nat) (xW : Nat) (xWy : Nat) (xNl : Nat) (vm5 : Value) (vm6 : Value) (vm7 : Value) (vm8 : Value) (vm9 : Value) (vm10 : Value) (vm11 : Value) (vm12 : Value) (vm13 : Value) (vm14 : Value) (vm15 : Value) (vm16 : Value) (vm17 : Value) (xBu : Nat) (xRo : Nat) (xPe : Nat) (xWh : Nat) (xTr : Nat) (xCo : Nat) (xAl : Nat) (xDr : Nat) (xFa : Nat) (vp1 : Value) (vp2 : Value) (vp3 : Value) (vp4 : Value) (vp5 : Value) (vp6 : Value) (vp7 : Value) (vp8 : Value) (vp9 : Value) (vp10 : Value) (vp11 : Value) (vp12 : Value) (vp13 : Value) (vp14 : Value) : Met l yX1_countOnTime (.code yX1_countOnTime cX1_countOnTime 3 (some .int) :: lw_good) ({ frames := 2, cells := 0, slots := 0, locals := 60 }) (va_Pc [.ref xM] (fun U => U.heap.size = sz ∧ va_P (dC, dI) vwCl [(xM, .inr (2, [.ref xW, .ref xWy, .ref xNl, .int lo, .int fu, vm5, vm6, vm7, vm8, vm9, vm10, vm11, vm12, vm13, vm14, vm15, vm16, vm17, .ref xBu])), (xW, .inr (7, [.ref xRo, .ref xPe, .ref xWh, .ref xTr, .ref xCo, .int 0, .ref xAl, .ref xNl, .ref xDr, .int 0, .ref xFa, .int 0, .int 0, .int 0])), (xPe, .inr (3, [.int 0, vp1, vp2, vp3, vp4, vp5, vp6, vp7, vp8, vp9, vp10, vp11, vp12, vp13, vp14]))] U.heap ∧ va_K (dC, dI) vwCl [] U ∧ va_D (fun _ => True) [(xM, .inr (2, [.ref xW, .ref xWy, .ref xNl, .int lo, .int fu, vm5, vm6, vm7, vm8, vm9, vm10, vm11, vm12, vm13, vm14, vm15, vm16, vm17, .ref xBu])), (xW, .inr (7, [.ref xRo, .ref xPe, .ref xWh, .ref xTr, .ref xCo, .int 0, .ref xAl, .ref xNl, .ref xDr, .int 0, .ref xFa, .int 0, .int 0, .int 0])), (xPe, .inr (3, [.int 0, vp1, vp2, vp3, vp4, vp5, vp6, vp7, vp8, vp9, vp10, vp11, vp12, vp13, vp14]))])) (va_Qi (fun (r : Int32) (_ : Unit) => r = 0) (fun (_ : Unit) (t : State) => va_P (dC, dI) vwCl [(xM, .inr (2, [.ref xW, .ref xWy, .ref xNl, .int lo, .int fu, vm5, vm6, vm7, vm8, vm9, vm10, vm11, vm12, vm13, vm14, vm15, vm16, vm17, .ref xBu])), (xW, .inr (7, [.ref xRo, .ref xPe, .ref xWh, .ref xTr, .ref xCo, .int 0, .ref xAl, .ref xNl, .ref xDr, .int 0, .ref xFa, .int 0, .int 0, .int 0])), (xPe, .inr (3, [.int 0, vp1, vp2, vp3, vp4, vp5, vp6, vp7, vp8, vp9, vp10, vp11, vp12, vp13, vp14]))] t.heap ∧ va_K (dC, dI) vwCl [] t ∧ va_D (va_A [(xM, .inr (2, [.ref xW, .ref xWy, .ref xNl, .int lo, .int fu, vm5, vm6, vm7, vm8, vm9, vm10, vm11, vm12, vm13, vm14, vm15, vm16, vm17, .ref xBu])), (xW, .inr (7, [.ref xRo, .ref xPe, .ref xWh, .ref xTr, .ref xCo, .int 0, .ref xAl, .ref xNl, .ref xDr, .int 0, .ref xFa, .int 0, .int 0, .int 0])), (xPe, .inr (3, [.int 0, vp1, vp2, vp3, vp4, vp5, vp6, vp7, vp8, vp9, vp10, vp11, vp12, vp13, vp14]))] sz) [(xM, .inr (2, [.ref xW, .ref xWy, .ref xNl, .int lo, .int fu, vm5, vm6, vm7, vm8, vm9, vm10, vm11, vm12, vm13, vm14, vm15, vm16, vm17, .ref xBu])), (xW, .inr (7, [.ref xRo, .ref xPe, .ref xWh, .ref xTr, .ref xCo, .int 0, .ref xAl, .ref xNl, .ref xDr, .int 0, .ref xFa, .int 0, .int 0, .int 0])), (xPe, .inr (3, [.int 0, vp1, vp2, vp3, vp4, vp5, vp6, vp7, vp8, vp9, vp10, vp11, vp12, vp13, vp14]))]) (va_A [(xM, .inr (2, [.ref xW, .ref xWy, .ref xNl, .int lo, .int fu, vm5, vm6, vm7, vm8, vm9, vm10, vm11, vm12, vm13, vm14, vm15, vm16, vm17, .ref xBu])), (xW, .inr (7, [.ref xRo, .ref xPe, .ref xWh, .ref xTr, .ref xCo, .int 0, .ref xAl, .ref xNl, .ref xDr, .int 0, .ref xFa, .int 0, .int 0, .int 0])), (xPe, .inr (3, [.int 0, vp1, vp2, vp3, vp4, vp5, vp6, vp7, vp8, vp9, vp10, vp11, vp12, vp13, vp14]))] sz)) 0 0 (va_A [(xM, .inr (2, [.ref xW, .ref xWy, .ref xNl, .int lo, .int fu, vm5, vm6, vm7, vm8, vm9, vm10, vm11, vm12, vm13, vm14, vm15, vm16, vm17, .ref xBu])), (xW, .inr (7, [.ref xRo, .ref xPe, .ref xWh, .ref xTr, .ref xCo, .int 0, .ref xAl, .ref xNl, .ref xDr, .int 0, .ref xFa, .int 0, .int 0, .int 0])), (xPe, .inr (3, [.int 0, vp1, vp2, vp3, vp4, vp5, vp6, vp7, vp8, vp9, vp10, vp11, vp12, vp13, vp14]))] sz) := by
  refine Met.ofW (cc := cX1_countOnTime) (maxL := 3) (ret := (some .int)) (by decide) rfl ?_
  intro p e s m args below meth c s₁ B hml hv
  obtain ⟨rfl, hsz, hP, hK, hD0⟩ := hv
  have hx := B.exec
  have hb := B.bytes
  have hr := B.returns
  have hts := atoms_spec (ws := (.code yX1_countOnTime cX1_countOnTime 3 (some .int) :: lw_good)) B.pre
  have hown : s.vm.findClass RX1 = some m.cls := findClass_of_methodNamed B.named
  have hlocks := B.notSynchronized
  subst hsz
  have hD := hD0.self (sz := s.heap.size)
  generalize hAe : va_A [(xM, .inr (2, [.ref xW, .ref xWy, .ref xNl, .int lo, .int fu, vm5, vm6, vm7, vm8, vm9, vm10, vm11, vm12, vm13, vm14, vm15, vm16, vm17, .ref xBu])), (xW, .inr (7, [.ref xRo, .ref xPe, .ref xWh, .ref xTr, .ref xCo, .int 0, .ref xAl, .ref xNl, .ref xDr, .int 0, .ref xFa, .int 0, .int 0, .int 0])), (xPe, .inr (3, [.int 0, vp1, vp2, vp3, vp4, vp5, vp6, vp7, vp8, vp9, vp10, vp11, vp12, vp13, vp14]))] s.heap.size = A at hD ⊢
  have hA : ∀ q : Nat, s.heap.size ≤ q → A q := fun q h => by rw [← hAe]; exact Or.inr h
  have hS : va_S A s.heap s.heap [] := va_S.rf
  have hP : va_P (dC, dI) vwCl [(xM, .inr (2, [.ref xW, .ref xWy, .ref xNl, .int lo, .int fu, vm5, vm6, vm7, vm8, vm9, vm10, vm11, vm12, vm13, vm14, vm15, vm16, vm17, .ref xBu])), (xW, .inr (7, [.ref xRo, .ref xPe, .ref xWh, .ref xTr, .ref xCo, .int 0, .ref xAl, .ref xNl, .ref xDr, .int 0, .ref xFa, .int 0, .int 0, .int 0])), (xPe, .inr (3, [.int 0, vp1, vp2, vp3, vp4, vp5, vp6, vp7, vp8, vp9, vp10, vp11, vp12, vp13, vp14]))] s.heap := hP
  have hl := lv_entry ([.ref xM]) (n := 3) (Nat.le_of_ble_eq_true rfl)
  rw [lg_entry_eq]
  generalize (lg_sl ([.ref xM]) ++ List.replicate (3 - (lg_sl ([.ref xM])).length) Slot.unset).toArray = ls at hl ⊢
  have hl : lv_has ls 3 [(0, .ref xM)] := hl
  refine lv_iconst (v := 0) hx hb dX1_countOnTime_0 (by decide) ?_
  refine lv_istore_n (lv' := [(1, .int 0), (0, .ref xM)]) hx hb dX1_countOnTime_1 rfl hl (by decide) rfl (fun ls hl => ?_)
  refine lv_iconst (v := 0) hx hb dX1_countOnTime_2 (by decide) ?_
  refine lv_istore_n (lv' := [(2, .int 0), (1, .int 0), (0, .ref xM)]) hx hb dX1_countOnTime_3 rfl hl (by decide) rfl (fun ls hl => ?_)
  refine lv_iload_n hx hb dX1_countOnTime_4 rfl (lv_at hl 0 rfl) ?_
  refine lv_aload_n hx hb dX1_countOnTime_5 rfl (lv_at hl 2 rfl) ?_
  refine va_get (D := (dC, dI)) (ci := 2) (v := .ref xW) (C := RX1) (T := TX1) (N := 19) hx hb hts iCX1 hown hK hP 0 rfl rfl 0 (by decide) (hts (.fieldLink RX1 9 "WalkingTown$Morning" "town" "LWalkingTown$Town;") (List.mem_cons_of_mem _ kw_2_221)) (fun _ h9 => h9) rfl dX1_countOnTime_6 ?_
  refine va_get (D := (dC, dI)) (ci := 7) (v := .ref xPe) (C := RX7) (T := TX7) (N := 14) hx hb hts iCX7 hown hK hP 1 rfl rfl 1 (by decide) (hts (.fieldLink RX1 129 "WalkingTown$Town" "people" "LWalkingTown$People;") (List.mem_cons_of_mem _ kw_2_63)) (fun _ h9 => h9) rfl dX1_countOnTime_9 ?_
  refine va_get (D := (dC, dI)) (ci := 3) (v := .int 0) (C := RX2) (T := TX2) (N := 15) hx hb hts iCX2 hown hK hP 2 rfl rfl 0 (by decide) (hts (.fieldLink RX1 133 "WalkingTown$People" "size" "I") (List.mem_cons_of_mem _ kw_1_68)) (fun _ h9 => h9) rfl dX1_countOnTime_12 ?_
  refine lv_icmp_ge (tgt := 58) hx hb dX1_countOnTime_15 (by decide) (fun c_1 => ?_) (fun c_1 => ?_)
  rotate_left
  · exact (c_1 (by decide)).elim
  refine lv_iload_n hx hb dX1_countOnTime_58 rfl (lv_at hl 1 rfl) ?_
  have hP9 := hP.sub (ws' := [(xM, .inr (2, [.ref xW, .ref xWy, .ref xNl, .int lo, .int fu, vm5, vm6, vm7, vm8, vm9, vm10, vm11, vm12, vm13, vm14, vm15, vm16, vm17, .ref xBu])), (xW, .inr (7, [.ref xRo, .ref xPe, .ref xWh, .ref xTr, .ref xCo, .int 0, .ref xAl, .ref xNl, .ref xDr, .int 0, .ref xFa, .int 0, .int 0, .int 0])), (xPe, .inr (3, [.int 0, vp1, vp2, vp3, vp4, vp5, vp6, vp7, vp8, vp9, vp10, vp11, vp12, vp13, vp14]))]) [0, 1, 2] rfl
  have hD9 := hD.sub (ws' := [(xM, .inr (2, [.ref xW, .ref xWy, .ref xNl, .int lo, .int fu, vm5, vm6, vm7, vm8, vm9, vm10, vm11, vm12, vm13, vm14, vm15, vm16, vm17, .ref xBu])), (xW, .inr (7, [.ref xRo, .ref xPe, .ref xWh, .ref xTr, .ref xCo, .int 0, .ref xAl, .ref xNl, .ref xDr, .int 0, .ref xFa, .int 0, .int 0, .int 0])), (xPe, .inr (3, [.int 0, vp1, vp2, vp3, vp4, vp5, vp6, vp7, vp8, vp9, vp10, vp11, vp12, vp13, vp14]))]) [0, 1, 2] (by decide) rfl
  have hK9 := hK.sub (tys' := []) [] rfl
  refine W.widen (k := 0) (n := 0) (Nat.le_of_ble_eq_true rfl) (Nat.le_of_ble_eq_true rfl) ?_
  exact W.iret (v := 0) hx hb hr (fun t ht hW => ⟨⟨0, (), rfl, rfl, ⟨by rw [ht]; exact hP9, va_K.moved hW.alike hK9, hD9⟩⟩, hS.F ht⟩) hS.2.2 dX1_countOnTime_59
set_option maxHeartbeats 4000000 in
set_option maxRecDepth 100000 in
theorem c_layOut (l : Launch) (dC : Nat → ClassId) (dI : Nat → Nat → Nat) (sz : Nat) (a : Int32) (xWy : Nat) (xW : Nat) (vy2 : Value) (vy3 : Value) (vy4 : Value) (vy5 : Value) (vy6 : Value) (vy7 : Value) (vy8 : Value) (xRo : Nat) (xPe : Nat) (xWh : Nat) (xTr : Nat) (xCo : Nat) (xAl : Nat) (xNl : Nat) (xDr : Nat) (xFa : Nat) (vt1 : Value) (vt2 : Value) (vt3 : Value) (vt4 : Value) (vt5 : Value) (vt6 : Value) (vt7 : Value) (vt8 : Value) : Met l yX9_layOut (.code yX9_layOut cX9_layOut 5 none :: lw_good) ({ frames := 3, cells := 0, slots := 0, locals := 120 }) (va_Pc [.ref xWy, .int a] (fun U => U.heap.size = sz ∧ va_P (dC, dI) vwCl [(xWy, .inr (9, [.ref xW, .int 0, vy2, vy3, vy4, vy5, vy6, vy7, vy8])), (xW, .inr (7, [.ref xRo, .ref xPe, .ref xWh, .ref xTr, .ref xCo, .int 0, .ref xAl, .ref xNl, .ref xDr, .int 0, .ref xFa, .int 0, .int 0, .int 0])), (xTr, .inr (8, [.int 0, vt1, vt2, vt3, vt4, vt5, vt6, vt7, vt8]))] U.heap ∧ va_K (dC, dI) vwCl [] U ∧ va_D (fun _ => True) [(xWy, .inr (9, [.ref xW, .int 0, vy2, vy3, vy4, vy5, vy6, vy7, vy8])), (xW, .inr (7, [.ref xRo, .ref xPe, .ref xWh, .ref xTr, .ref xCo, .int 0, .ref xAl, .ref xNl, .ref xDr, .int 0, .ref xFa, .int 0, .int 0, .int 0])), (xTr, .inr (8, [.int 0, vt1, vt2, vt3, vt4, vt5, vt6, vt7, vt8]))])) (va_Qv (fun (_ : Unit) => True) (fun (_ : Unit) (t : State) => va_P (dC, dI) vwCl [(xWy, .inr (9, [.ref xW, .int 0, vy2, vy3, vy4, vy5, vy6, vy7, vy8])), (xW, .inr (7, [.ref xRo, .ref xPe, .ref xWh, .ref xTr, .ref xCo, .int 0, .ref xAl, .ref xNl, .ref xDr, .int 0, .ref xFa, .int 0, .int 0, .int 0])), (xTr, .inr (8, [.int 0, vt1, vt2, vt3, vt4, vt5, vt6, vt7, vt8]))] t.heap ∧ va_K (dC, dI) vwCl [] t ∧ va_D (va_A [(xWy, .inr (9, [.ref xW, .int 0, vy2, vy3, vy4, vy5, vy6, vy7, vy8])), (xW, .inr (7, [.ref xRo, .ref xPe, .ref xWh, .ref xTr, .ref xCo, .int 0, .ref xAl, .ref xNl, .ref xDr, .int 0, .ref xFa, .int 0, .int 0, .int 0])), (xTr, .inr (8, [.int 0, vt1, vt2, vt3, vt4, vt5, vt6, vt7, vt8]))] sz) [(xWy, .inr (9, [.ref xW, .int 0, vy2, vy3, vy4, vy5, vy6, vy7, vy8])), (xW, .inr (7, [.ref xRo, .ref xPe, .ref xWh, .ref xTr, .ref xCo, .int 0, .ref xAl, .ref xNl, .ref xDr, .int 0, .ref xFa, .int 0, .int 0, .int 0])), (xTr, .inr (8, [.int 0, vt1, vt2, vt3, vt4, vt5, vt6, vt7, vt8]))]) (va_A [(xWy, .inr (9, [.ref xW, .int 0, vy2, vy3, vy4, vy5, vy6, vy7, vy8])), (xW, .inr (7, [.ref xRo, .ref xPe, .ref xWh, .ref xTr, .ref xCo, .int 0, .ref xAl, .ref xNl, .ref xDr, .int 0, .ref xFa, .int 0, .int 0, .int 0])), (xTr, .inr (8, [.int 0, vt1, vt2, vt3, vt4, vt5, vt6, vt7, vt8]))] sz)) 0 0 (va_A [(xWy, .inr (9, [.ref xW, .int 0, vy2, vy3, vy4, vy5, vy6, vy7, vy8])), (xW, .inr (7, [.ref xRo, .ref xPe, .ref xWh, .ref xTr, .ref xCo, .int 0, .ref xAl, .ref xNl, .ref xDr, .int 0, .ref xFa, .int 0, .int 0, .int 0])), (xTr, .inr (8, [.int 0, vt1, vt2, vt3, vt4, vt5, vt6, vt7, vt8]))] sz) := by
  refine Met.ofW (cc := cX9_layOut) (maxL := 5) (ret := none) (by decide) rfl ?_
  intro p e s m args below meth c s₁ B hml hv
  obtain ⟨rfl, hsz, hP, hK, hD0⟩ := hv
  have hx := B.exec
  have hb := B.bytes
  have hr := B.returns
  have hts := atoms_spec (ws := (.code yX9_layOut cX9_layOut 5 none :: lw_good)) B.pre
  have hown : s.vm.findClass RX9 = some m.cls := findClass_of_methodNamed B.named
  have hlocks := B.notSynchronized
  subst hsz
  have hD := hD0.self (sz := s.heap.size)
  generalize hAe : va_A [(xWy, .inr (9, [.ref xW, .int 0, vy2, vy3, vy4, vy5, vy6, vy7, vy8])), (xW, .inr (7, [.ref xRo, .ref xPe, .ref xWh, .ref xTr, .ref xCo, .int 0, .ref xAl, .ref xNl, .ref xDr, .int 0, .ref xFa, .int 0, .int 0, .int 0])), (xTr, .inr (8, [.int 0, vt1, vt2, vt3, vt4, vt5, vt6, vt7, vt8]))] s.heap.size = A at hD ⊢
  have hA : ∀ q : Nat, s.heap.size ≤ q → A q := fun q h => by rw [← hAe]; exact Or.inr h
  have hS : va_S A s.heap s.heap [] := va_S.rf
  have hP : va_P (dC, dI) vwCl [(xWy, .inr (9, [.ref xW, .int 0, vy2, vy3, vy4, vy5, vy6, vy7, vy8])), (xW, .inr (7, [.ref xRo, .ref xPe, .ref xWh, .ref xTr, .ref xCo, .int 0, .ref xAl, .ref xNl, .ref xDr, .int 0, .ref xFa, .int 0, .int 0, .int 0])), (xTr, .inr (8, [.int 0, vt1, vt2, vt3, vt4, vt5, vt6, vt7, vt8]))] s.heap := hP
  have hl := lv_entry ([.ref xWy, .int a]) (n := 5) (Nat.le_of_ble_eq_true rfl)
  rw [lg_entry_eq]
  generalize (lg_sl ([.ref xWy, .int a]) ++ List.replicate (5 - (lg_sl ([.ref xWy, .int a])).length) Slot.unset).toArray = ls at hl ⊢
  have hl : lv_has ls 5 [(0, .ref xWy), (1, .int a)] := hl
  refine lv_aload_n hx hb dX9_layOut_0 rfl (lv_at hl 0 rfl) ?_
  refine va_get (D := (dC, dI)) (ci := 9) (v := .ref xW) (C := RX9) (T := TX9) (N := 9) hx hb hts iCX9 hown hK hP 0 rfl rfl 0 (by decide) (hts (.fieldLink RX9 9 "WalkingTown$Ways" "town" "LWalkingTown$Town;") (List.mem_cons_of_mem _ kw_2_193)) (fun _ h9 => h9) rfl dX9_layOut_1 ?_
  refine lv_aload_n hx hb dX9_layOut_4 rfl (lv_at hl 0 rfl) ?_
  refine va_get (D := (dC, dI)) (ci := 9) (v := .ref xW) (C := RX9) (T := TX9) (N := 9) hx hb hts iCX9 hown hK hP 0 rfl rfl 0 (by decide) (hts (.fieldLink RX9 9 "WalkingTown$Ways" "town" "LWalkingTown$Town;") (List.mem_cons_of_mem _ kw_2_193)) (fun _ h9 => h9) rfl dX9_layOut_5 ?_
  refine va_get (D := (dC, dI)) (ci := 7) (v := .int 0) (C := RX7) (T := TX7) (N := 14) hx hb hts iCX7 hown hK hP 1 rfl rfl 12 (by decide) (hts (.fieldLink RX9 41 "WalkingTown$Town" "today" "I") (List.mem_cons_of_mem _ kw_2_95)) (fun _ h9 => h9) rfl dX9_layOut_8 ?_
  have hPc := hP.sub (ws' := [(xW, .inr (7, [.ref xRo, .ref xPe, .ref xWh, .ref xTr, .ref xCo, .int 0, .ref xAl, .ref xNl, .ref xDr, .int 0, .ref xFa, .int 0, .int 0, .int 0]))]) [1] rfl
  have hDc := hD.sub (ws' := [(xW, .inr (7, [.ref xRo, .ref xPe, .ref xWh, .ref xTr, .ref xCo, .int 0, .ref xAl, .ref xNl, .ref xDr, .int 0, .ref xFa, .int 0, .int 0, .int 0]))]) [1] (by decide) rfl
  have hKc := hK.sub (tys' := []) [] rfl
  have hFc := va_free (wc := [(xW, .inr (7, [.ref xRo, .ref xPe, .ref xWh, .ref xTr, .ref xCo, .int 0, .ref xAl, .ref xNl, .ref xDr, .int 0, .ref xFa, .int 0, .int 0, .int 0]))]) hD hS hA [1] rfl
  refine va_calli (va_runV (As := [.int 0]) (rest := []) ⟨hx, hb, hml, hown, hts⟩ (c_rainOn l dC dI s.heap.size 0 xW xRo xPe xWh xTr xCo xAl xNl xDr xFa) (cwV 1 hts (gV kw_5_62 kw_3_231 kw_3_232 kw_1_2 kw_3_233) rfl rfl rfl (by decide +kernel) ⟨Nat.le_of_ble_eq_true rfl, Nat.le_of_ble_eq_true rfl⟩) ⟨fun a U g mk q => by obtain ⟨q0, q1, qP, qK, qD⟩ := q; exact ⟨q0, q1, qP, va_K.moved (u := U) (U := U.calling g mk a) (Vm.Alike.refl U.vm) qK, qD⟩, va_recv hKc hPc (ci := 7) (q0 := 0) rfl rfl, fun U hU hW => ⟨rfl, by rw [hU], by rw [hU]; exact hPc, va_K.moved hW.alike hKc, hDc.weaken (fun _ _ _ _ => trivial)⟩⟩ rfl rfl hl.1 rfl (lv_room (Nat.le_of_ble_eq_true rfl)) dX9_layOut_11 ⟨Nat.le_of_ble_eq_true rfl, Nat.le_of_ble_eq_true rfl⟩) hS (fun q _ h => hFc q h) hFc (fun r_1 u t H1 locs ht hvm hw hB hz1 hk1 hS => ?_)
  obtain ⟨hP1, hK1, hD1⟩ := hB
  rw [ht] at hP1
  have hK1 := va_K.moved hvm.symm hK1
  obtain ⟨hP, hD⟩ := va_join (wr := [(xWy, .inr (9, [.ref xW, .int 0, vy2, vy3, vy4, vy5, vy6, vy7, vy8])), (xTr, .inr (8, [.int 0, vt1, vt2, vt3, vt4, vt5, vt6, vt7, vt8]))]) (w1 := [(xW, .inr (7, [.ref xRo, .ref xPe, .ref xWh, .ref xTr, .ref xCo, .int 0, .ref xAl, .ref xNl, .ref xDr, .int 0, .ref xFa, .int 0, .int 0, .int 0]))]) hP hD [1] [0, 2] rfl rfl (by decide) (by decide) hk1 hFc hP1 hD1
  have hK := (hK.sub (tys' := []) [] rfl).app hK1
  generalize H1 = H at hP hS ⊢
  have hP : va_P (dC, dI) vwCl [(xWy, .inr (9, [.ref xW, .int 0, vy2, vy3, vy4, vy5, vy6, vy7, vy8])), (xTr, .inr (8, [.int 0, vt1, vt2, vt3, vt4, vt5, vt6, vt7, vt8])), (xW, .inr (7, [.ref xRo, .ref xPe, .ref xWh, .ref xTr, .ref xCo, .int 0, .ref xAl, .ref xNl, .ref xDr, .int 0, .ref xFa, .int 0, .int 0, .int 0]))] H := hP
  have hD : va_D A [(xWy, .inr (9, [.ref xW, .int 0, vy2, vy3, vy4, vy5, vy6, vy7, vy8])), (xTr, .inr (8, [.int 0, vt1, vt2, vt3, vt4, vt5, vt6, vt7, vt8])), (xW, .inr (7, [.ref xRo, .ref xPe, .ref xWh, .ref xTr, .ref xCo, .int 0, .ref xAl, .ref xNl, .ref xDr, .int 0, .ref xFa, .int 0, .int 0, .int 0]))] := hD
  have hK : va_K (dC, dI) vwCl [] s := hK
  subst hw
  refine lv_istore_n (lv' := [(2, .int 0), (0, .ref xWy), (1, .int a)]) hx hb dX9_layOut_14 rfl hl (by decide) rfl (fun ls hl => ?_)
  refine lv_aload_n hx hb dX9_layOut_15 rfl (lv_at hl 1 rfl) ?_
  refine lv_iconst (v := 0) hx hb dX9_layOut_16 (by decide) ?_
  refine va_put (D := (dC, dI)) (ci := 9) (v := .int 0) (ty := .int) (C := RX9) (T := TX9) (N := 9) hx hb hts iCX9 tyX9 tyX9_ok nmX9 hown hK hP hD hS 0 rfl rfl 1 (by decide) (hts (.fieldLink RX9 51 "WalkingTown$Ways" "size" "I") (List.mem_cons_of_mem _ kw_2_194)) (fun _ h9 => h9) rfl (by decide +kernel) rfl rfl (Nat.le_of_ble_eq_true rfl) dX9_layOut_17 (fun H locs hP hD hS => ?_)
  have hP : va_P (dC, dI) vwCl [(xWy, .inr (9, [.ref xW, .int 0, vy2, vy3, vy4, vy5, vy6, vy7, vy8])), (xTr, .inr (8, [.int 0, vt1, vt2, vt3, vt4, vt5, vt6, vt7, vt8])), (xW, .inr (7, [.ref xRo, .ref xPe, .ref xWh, .ref xTr, .ref xCo, .int 0, .ref xAl, .ref xNl, .ref xDr, .int 0, .ref xFa, .int 0, .int 0, .int 0]))] H := hP
  have hD : va_D A [(xWy, .inr (9, [.ref xW, .int 0, vy2, vy3, vy4, vy5, vy6, vy7, vy8])), (xTr, .inr (8, [.int 0, vt1, vt2, vt3, vt4, vt5, vt6, vt7, vt8])), (xW, .inr (7, [.ref xRo, .ref xPe, .ref xWh, .ref xTr, .ref xCo, .int 0, .ref xAl, .ref xNl, .ref xDr, .int 0, .ref xFa, .int 0, .int 0, .int 0]))] := hD
  refine lv_iconst (v := 0) hx hb dX9_layOut_20 (by decide) ?_
  refine lv_istore_n (lv' := [(3, .int 0), (2, .int 0), (0, .ref xWy), (1, .int a)]) hx hb dX9_layOut_21 rfl hl (by decide) rfl (fun ls hl => ?_)
  refine lv_iload_n hx hb dX9_layOut_22 rfl (lv_at hl 0 rfl) ?_
  refine lv_aload_n hx hb dX9_layOut_23 rfl (lv_at hl 2 rfl) ?_
  refine va_get (D := (dC, dI)) (ci := 9) (v := .ref xW) (C := RX9) (T := TX9) (N := 9) hx hb hts iCX9 hown hK hP 0 rfl rfl 0 (by decide) (hts (.fieldLink RX9 9 "WalkingTown$Ways" "town" "LWalkingTown$Town;") (List.mem_cons_of_mem _ kw_2_193)) (fun _ h9 => h9) rfl dX9_layOut_24 ?_
  refine va_get (D := (dC, dI)) (ci := 7) (v := .ref xTr) (C := RX7) (T := TX7) (N := 14) hx hb hts iCX7 hown hK hP 2 rfl rfl 3 (by decide) (hts (.fieldLink RX9 54 "WalkingTown$Town" "trips" "LWalkingTown$Trips;") (List.mem_cons_of_mem _ kw_2_72)) (fun _ h9 => h9) rfl dX9_layOut_27 ?_
  refine va_get (D := (dC, dI)) (ci := 8) (v := .int 0) (C := RX8) (T := TX8) (N := 9) hx hb hts iCX8 hown hK hP 1 rfl rfl 0 (by decide) (hts (.fieldLink RX9 58 "WalkingTown$Trips" "size" "I") (List.mem_cons_of_mem _ kw_1_189)) (fun _ h9 => h9) rfl dX9_layOut_30 ?_
  refine lv_icmp_ge (tgt := 109) hx hb dX9_layOut_33 (by decide) (fun c_3 => ?_) (fun c_3 => ?_)
  rotate_left
  · exact (c_3 (by decide)).elim
  refine lv_iconst (v := 0) hx hb dX9_layOut_109 (by decide) ?_
  refine lv_istore_n (lv' := [(3, .int 0), (2, .int 0), (0, .ref xWy), (1, .int a)]) hx hb dX9_layOut_110 rfl hl (by decide) rfl (fun ls hl => ?_)
  refine lv_iload_n hx hb dX9_layOut_111 rfl (lv_at hl 0 rfl) ?_
  refine lv_aload_n hx hb dX9_layOut_112 rfl (lv_at hl 2 rfl) ?_
  refine va_get (D := (dC, dI)) (ci := 9) (v := .int 0) (C := RX9) (T := TX9) (N := 9) hx hb hts iCX9 hown hK hP 0 rfl rfl 1 (by decide) (hts (.fieldLink RX9 51 "WalkingTown$Ways" "size" "I") (List.mem_cons_of_mem _ kw_2_194)) (fun _ h9 => h9) rfl dX9_layOut_113 ?_
  refine lv_icmp_ge (tgt := 226) hx hb dX9_layOut_116 (by decide) (fun c_4 => ?_) (fun c_4 => ?_)
  rotate_left
  · exact (c_4 (by decide)).elim
  have hP9 := hP.sub (ws' := [(xWy, .inr (9, [.ref xW, .int 0, vy2, vy3, vy4, vy5, vy6, vy7, vy8])), (xW, .inr (7, [.ref xRo, .ref xPe, .ref xWh, .ref xTr, .ref xCo, .int 0, .ref xAl, .ref xNl, .ref xDr, .int 0, .ref xFa, .int 0, .int 0, .int 0])), (xTr, .inr (8, [.int 0, vt1, vt2, vt3, vt4, vt5, vt6, vt7, vt8]))]) [0, 2, 1] rfl
  have hD9 := hD.sub (ws' := [(xWy, .inr (9, [.ref xW, .int 0, vy2, vy3, vy4, vy5, vy6, vy7, vy8])), (xW, .inr (7, [.ref xRo, .ref xPe, .ref xWh, .ref xTr, .ref xCo, .int 0, .ref xAl, .ref xNl, .ref xDr, .int 0, .ref xFa, .int 0, .int 0, .int 0])), (xTr, .inr (8, [.int 0, vt1, vt2, vt3, vt4, vt5, vt6, vt7, vt8]))]) [0, 2, 1] (by decide) rfl
  have hK9 := hK.sub (tys' := []) [] rfl
  refine W.widen (k := 0) (n := 0) (Nat.le_of_ble_eq_true rfl) (Nat.le_of_ble_eq_true rfl) ?_
  exact W.vret hx hb hr (fun t ht hW => ⟨⟨(), rfl, trivial, ⟨by rw [ht]; exact hP9, va_K.moved hW.alike hK9, hD9⟩⟩, hS.F ht⟩) hS.2.2 dX9_layOut_226
set_option maxHeartbeats 4000000 in
set_option maxRecDepth 100000 in
theorem c_lawToday (l : Launch) (dC : Nat → ClassId) (dI : Nat → Nat → Nat) (sz : Nat) (xW : Nat) (xRo : Nat) (xPe : Nat) (xWh : Nat) (xTr : Nat) (xCo : Nat) (xAl : Nat) (xNl : Nat) (xDr : Nat) (xFa : Nat) (tD : Nat) : Met l yX7_lawToday (.code yX7_lawToday cX7_lawToday 5 (some (.object "WalkingTown$Law")) :: lw_good) ({ frames := 3, cells := 0, slots := 0, locals := 120 }) (va_Pc [.ref xW] (fun U => U.heap.size = sz ∧ va_P (dC, dI) vwCl [(xW, .inr (7, [.ref xRo, .ref xPe, .ref xWh, .ref xTr, .ref xCo, .int 0, .ref xAl, .ref xNl, .ref xDr, .int 0, .ref xFa, .int 0, .int 0, .int 0])), (xAl, .inr (0, [.int 0, .ref tD, .int 0]))] U.heap ∧ va_K (dC, dI) vwCl [] U ∧ va_D (fun _ => True) [(xW, .inr (7, [.ref xRo, .ref xPe, .ref xWh, .ref xTr, .ref xCo, .int 0, .ref xAl, .ref xNl, .ref xDr, .int 0, .ref xFa, .int 0, .int 0, .int 0])), (xAl, .inr (0, [.int 0, .ref tD, .int 0]))])) (va_Qr (fun (_ : Unit) => True) (fun (_ : Unit) (ra : Nat) (t : State) => ra = xNl ∧ va_P (dC, dI) vwCl [(xW, .inr (7, [.ref xRo, .ref xPe, .ref xWh, .ref xTr, .ref xCo, .int 0, .ref xAl, .ref xNl, .ref xDr, .int 0, .ref xFa, .int 0, .int 0, .int 0])), (xAl, .inr (0, [.int 0, .ref tD, .int 0]))] t.heap ∧ va_K (dC, dI) vwCl [] t ∧ va_D (va_A [(xW, .inr (7, [.ref xRo, .ref xPe, .ref xWh, .ref xTr, .ref xCo, .int 0, .ref xAl, .ref xNl, .ref xDr, .int 0, .ref xFa, .int 0, .int 0, .int 0])), (xAl, .inr (0, [.int 0, .ref tD, .int 0]))] sz) [(xW, .inr (7, [.ref xRo, .ref xPe, .ref xWh, .ref xTr, .ref xCo, .int 0, .ref xAl, .ref xNl, .ref xDr, .int 0, .ref xFa, .int 0, .int 0, .int 0])), (xAl, .inr (0, [.int 0, .ref tD, .int 0]))]) (va_A [(xW, .inr (7, [.ref xRo, .ref xPe, .ref xWh, .ref xTr, .ref xCo, .int 0, .ref xAl, .ref xNl, .ref xDr, .int 0, .ref xFa, .int 0, .int 0, .int 0])), (xAl, .inr (0, [.int 0, .ref tD, .int 0]))] sz)) 0 0 (va_A [(xW, .inr (7, [.ref xRo, .ref xPe, .ref xWh, .ref xTr, .ref xCo, .int 0, .ref xAl, .ref xNl, .ref xDr, .int 0, .ref xFa, .int 0, .int 0, .int 0])), (xAl, .inr (0, [.int 0, .ref tD, .int 0]))] sz) := by
  refine Met.ofW (cc := cX7_lawToday) (maxL := 5) (ret := (some (.object "WalkingTown$Law"))) (by decide) rfl ?_
  intro p e s m args below meth c s₁ B hml hv
  obtain ⟨rfl, hsz, hP, hK, hD0⟩ := hv
  have hx := B.exec
  have hb := B.bytes
  have hr := B.returns
  have hts := atoms_spec (ws := (.code yX7_lawToday cX7_lawToday 5 (some (.object "WalkingTown$Law")) :: lw_good)) B.pre
  have hown : s.vm.findClass RX7 = some m.cls := findClass_of_methodNamed B.named
  have hlocks := B.notSynchronized
  subst hsz
  have hD := hD0.self (sz := s.heap.size)
  generalize hAe : va_A [(xW, .inr (7, [.ref xRo, .ref xPe, .ref xWh, .ref xTr, .ref xCo, .int 0, .ref xAl, .ref xNl, .ref xDr, .int 0, .ref xFa, .int 0, .int 0, .int 0])), (xAl, .inr (0, [.int 0, .ref tD, .int 0]))] s.heap.size = A at hD ⊢
  have hA : ∀ q : Nat, s.heap.size ≤ q → A q := fun q h => by rw [← hAe]; exact Or.inr h
  have hS : va_S A s.heap s.heap [] := va_S.rf
  have hP : va_P (dC, dI) vwCl [(xW, .inr (7, [.ref xRo, .ref xPe, .ref xWh, .ref xTr, .ref xCo, .int 0, .ref xAl, .ref xNl, .ref xDr, .int 0, .ref xFa, .int 0, .int 0, .int 0])), (xAl, .inr (0, [.int 0, .ref tD, .int 0]))] s.heap := hP
  have hl := lv_entry ([.ref xW]) (n := 5) (Nat.le_of_ble_eq_true rfl)
  rw [lg_entry_eq]
  generalize (lg_sl ([.ref xW]) ++ List.replicate (5 - (lg_sl ([.ref xW])).length) Slot.unset).toArray = ls at hl ⊢
  have hl : lv_has ls 5 [(0, .ref xW)] := hl
  refine lv_aload_n hx hb dX7_lawToday_0 rfl (lv_at hl 0 rfl) ?_
  refine va_get (D := (dC, dI)) (ci := 7) (v := .ref xNl) (C := RX7) (T := TX7) (N := 14) hx hb hts iCX7 hown hK hP 0 rfl rfl 7 (by decide) (hts (.fieldLink RX7 55 "WalkingTown$Town" "noLaw" "LWalkingTown$Law;") (List.mem_cons_of_mem _ kw_2_86)) (fun _ h9 => h9) rfl dX7_lawToday_1 ?_
  refine lv_astore_n (lv' := [(1, .ref xNl), (0, .ref xW)]) hx hb dX7_lawToday_4 rfl hl (by decide) rfl (fun ls hl => ?_)
  refine lv_iconst (v := (-1)) hx hb dX7_lawToday_5 (by decide) ?_
  refine lv_istore_n (lv' := [(2, .int (-1)), (1, .ref xNl), (0, .ref xW)]) hx hb dX7_lawToday_6 rfl hl (by decide) rfl (fun ls hl => ?_)
  refine lv_iconst (v := 0) hx hb dX7_lawToday_7 (by decide) ?_
  refine lv_istore_n (lv' := [(3, .int 0), (2, .int (-1)), (1, .ref xNl), (0, .ref xW)]) hx hb dX7_lawToday_8 rfl hl (by decide) rfl (fun ls hl => ?_)
  refine lv_iload_n hx hb dX7_lawToday_9 rfl (lv_at hl 0 rfl) ?_
  refine lv_aload_n hx hb dX7_lawToday_10 rfl (lv_at hl 3 rfl) ?_
  refine va_get (D := (dC, dI)) (ci := 7) (v := .ref xAl) (C := RX7) (T := TX7) (N := 14) hx hb hts iCX7 hown hK hP 0 rfl rfl 6 (by decide) (hts (.fieldLink RX7 46 "WalkingTown$Town" "laws" "Ljava/util/ArrayList;") (List.mem_cons_of_mem _ kw_2_83)) (fun _ h9 => h9) rfl dX7_lawToday_11 ?_
  have hPc := hP.sub (ws' := [(xAl, .inr (0, [.int 0, .ref tD, .int 0]))]) [1] rfl
  have hDc := hD.sub (ws' := [(xAl, .inr (0, [.int 0, .ref tD, .int 0]))]) [1] (by decide) rfl
  have hKc := hK.sub (tys' := []) [] rfl
  have hFc := va_free (wc := [(xAl, .inr (0, [.int 0, .ref tD, .int 0]))]) hD hS hA [1] rfl
  refine va_calli (va_runV (As := []) (rest := [.int 0]) ⟨hx, hb, hml, hown, hts⟩ (c_size l dC dI s.heap.size xAl (.int 0 : Value) (.ref tD : Value)) (cwV 0 hts (gV kw_5_5 kw_4_6 kw_4_7 kw_1_9 kw_4_8) rfl rfl rfl (by decide +kernel) ⟨Nat.le_of_ble_eq_true rfl, Nat.le_of_ble_eq_true rfl⟩) ⟨fun a U g mk q => by obtain ⟨q0, q1, qP, qK, qD⟩ := q; exact ⟨q0, q1, qP, va_K.moved (u := U) (U := U.calling g mk a) (Vm.Alike.refl U.vm) qK, qD⟩, va_recv hKc hPc (ci := 0) (q0 := 0) rfl rfl, fun U hU hW => ⟨rfl, by rw [hU], by rw [hU]; exact hPc, va_K.moved hW.alike hKc, hDc.weaken (fun _ _ _ _ => trivial)⟩⟩ rfl rfl hl.1 rfl (lv_room (Nat.le_of_ble_eq_true rfl)) dX7_lawToday_14 ⟨Nat.le_of_ble_eq_true rfl, Nat.le_of_ble_eq_true rfl⟩) hS (fun q _ h => hFc q h) hFc (fun r_1 u t H1 locs ht hvm hw hB hz1 hk1 hS => ?_)
  obtain ⟨hP1, hK1, hD1⟩ := hB
  rw [ht] at hP1
  have hK1 := va_K.moved hvm.symm hK1
  obtain ⟨hP, hD⟩ := va_join (wr := [(xW, .inr (7, [.ref xRo, .ref xPe, .ref xWh, .ref xTr, .ref xCo, .int 0, .ref xAl, .ref xNl, .ref xDr, .int 0, .ref xFa, .int 0, .int 0, .int 0]))]) (w1 := [(xAl, .inr (0, [.int 0, .ref tD, .int 0]))]) hP hD [1] [0] rfl rfl (by decide) (by decide) hk1 hFc hP1 hD1
  have hK := (hK.sub (tys' := []) [] rfl).app hK1
  generalize H1 = H at hP hS ⊢
  have hP : va_P (dC, dI) vwCl [(xW, .inr (7, [.ref xRo, .ref xPe, .ref xWh, .ref xTr, .ref xCo, .int 0, .ref xAl, .ref xNl, .ref xDr, .int 0, .ref xFa, .int 0, .int 0, .int 0])), (xAl, .inr (0, [.int 0, .ref tD, .int 0]))] H := hP
  have hD : va_D A [(xW, .inr (7, [.ref xRo, .ref xPe, .ref xWh, .ref xTr, .ref xCo, .int 0, .ref xAl, .ref xNl, .ref xDr, .int 0, .ref xFa, .int 0, .int 0, .int 0])), (xAl, .inr (0, [.int 0, .ref tD, .int 0]))] := hD
  have hK : va_K (dC, dI) vwCl [] s := hK
  subst hw
  refine lv_icmp_ge (tgt := 74) hx hb dX7_lawToday_17 (by decide) (fun c_3 => ?_) (fun c_3 => ?_)
  rotate_left
  · exact (c_3 (by decide)).elim
  refine lv_aload_n hx hb dX7_lawToday_74 rfl (lv_at hl 2 rfl) ?_
  have hP9 := hP.sub (ws' := [(xW, .inr (7, [.ref xRo, .ref xPe, .ref xWh, .ref xTr, .ref xCo, .int 0, .ref xAl, .ref xNl, .ref xDr, .int 0, .ref xFa, .int 0, .int 0, .int 0])), (xAl, .inr (0, [.int 0, .ref tD, .int 0]))]) [0, 1] rfl
  have hD9 := hD.sub (ws' := [(xW, .inr (7, [.ref xRo, .ref xPe, .ref xWh, .ref xTr, .ref xCo, .int 0, .ref xAl, .ref xNl, .ref xDr, .int 0, .ref xFa, .int 0, .int 0, .int 0])), (xAl, .inr (0, [.int 0, .ref tD, .int 0]))]) [0, 1] (by decide) rfl
  have hK9 := hK.sub (tys' := []) [] rfl
  refine W.widen (k := 0) (n := 0) (Nat.le_of_ble_eq_true rfl) (Nat.le_of_ble_eq_true rfl) ?_
  exact W.aret (v := .ref xNl) hx hb hr (Or.inl ⟨_, rfl⟩) (Or.inr ⟨_, rfl⟩) (fun t ht hW => ⟨⟨(), xNl, rfl, trivial, ⟨(by rfl), by rw [ht]; exact hP9, va_K.moved hW.alike hK9, hD9⟩⟩, hS.F ht⟩) hS.2.2 dX7_lawToday_75
set_option maxHeartbeats 4000000 in
set_option maxRecDepth 100000 in
theorem c_fill (l : Launch) (dC : Nat → ClassId) (dI : Nat → Nat → Nat) (sz : Nat) (xBu : Nat) (cBu : ClassId) : Met l yJ7_fill_53178 (.code yJ7_fill_53178 cJ7_fill_53178 4 none :: lw_good) ({ frames := 2, cells := 0, slots := 0, locals := 60 }) (va_Pc [.ref xBu, .int 0] (fun U => U.heap.size = sz ∧ va_P (dC, dI) vwCl [(xBu, .inl (cBu, 840, .inl (fun _ => 0)))] U.heap ∧ va_K (dC, dI) vwCl [(cBu, .int)] U ∧ va_D (fun _ => True) [(xBu, .inl (cBu, 840, .inl (fun _ => 0)))])) (va_Qv (fun (_ : Unit) => True) (fun (_ : Unit) (t : State) => va_P (dC, dI) vwCl [(xBu, .inl (cBu, 840, .inl (fun _ => 0)))] t.heap ∧ va_K (dC, dI) vwCl [(cBu, .int)] t ∧ va_D (va_A [(xBu, .inl (cBu, 840, .inl (fun _ => 0)))] sz) [(xBu, .inl (cBu, 840, .inl (fun _ => 0)))]) (va_A [(xBu, .inl (cBu, 840, .inl (fun _ => 0)))] sz)) 0 0 (va_A [(xBu, .inl (cBu, 840, .inl (fun _ => 0)))] sz) := by
  refine Met.ofW (cc := cJ7_fill_53178) (maxL := 4) (ret := none) (by decide) rfl ?_
  intro p e s m args below meth c s₁ B hml hv
  obtain ⟨rfl, hsz, hP, hK, hD0⟩ := hv
  have hx := B.exec
  have hb := B.bytes
  have hr := B.returns
  have hts := atoms_spec (ws := (.code yJ7_fill_53178 cJ7_fill_53178 4 none :: lw_good)) B.pre
  have hown : s.vm.findClass RJ7 = some m.cls := findClass_of_methodNamed B.named
  have hlocks := B.notSynchronized
  subst hsz
  have hD := hD0.self (sz := s.heap.size)
  generalize hAe : va_A [(xBu, .inl (cBu, 840, .inl (fun _ => 0)))] s.heap.size = A at hD ⊢
  have hA : ∀ q : Nat, s.heap.size ≤ q → A q := fun q h => by rw [← hAe]; exact Or.inr h
  have hS : va_S A s.heap s.heap [] := va_S.rf
  have hP : va_P (dC, dI) vwCl [(xBu, .inl (cBu, 840, .inl (fun _ => 0)))] s.heap := hP
  have hl := lv_entry ([.ref xBu, .int 0]) (n := 4) (Nat.le_of_ble_eq_true rfl)
  rw [lg_entry_eq]
  generalize (lg_sl ([.ref xBu, .int 0]) ++ List.replicate (4 - (lg_sl ([.ref xBu, .int 0])).length) Slot.unset).toArray = ls at hl ⊢
  have hl : lv_has ls 4 [(0, .ref xBu), (1, .int 0)] := hl
  refine lv_iconst (v := 0) hx hb dJ7_fill_53178_0 (by decide) ?_
  refine lv_istore_n (lv' := [(2, .int 0), (0, .ref xBu), (1, .int 0)]) hx hb dJ7_fill_53178_1 rfl hl (by decide) rfl (fun ls hl => ?_)
  refine lv_aload_n hx hb dJ7_fill_53178_2 rfl (lv_at hl 1 rfl) ?_
  refine va_alen hx hb hK hP 0 0 rfl rfl (v := 840) rfl dJ7_fill_53178_3 ?_
  refine lv_istore_n (lv' := [(3, .int 840), (2, .int 0), (0, .ref xBu), (1, .int 0)]) hx hb dJ7_fill_53178_4 rfl hl (by decide) rfl (fun ls hl => ?_)
  refine (show ∀ (n : Nat) (i : Nat) (x : Int32) (H : Heap) (locs : List Loc) (ls : Array Slot), 840 < i + n → i ≤ 840 → x = nI i → va_K (dC, dI) vwCl [(cBu, .int)] s → va_P (dC, dI) vwCl [(xBu, .inl (cBu, 840, .inl (fun _ => 0)))] H → va_D A [(xBu, .inl (cBu, 840, .inl (fun _ => 0)))] → va_S A s.heap H locs → lv_has ls 4 [(0, .ref xBu), (1, .int 0), (2, .int x), (3, .int 840)] → W p l e _ s m _ below meth c H locs 0 0 _ (F0 m 5 ls []) from ?_) 841 0 0 s.heap _ ls (by omega) (by omega) rfl hK hP hD hS (lv_sub hl [2, 3, 1, 0] rfl)
  intro n
  induction n with
  | zero => intro i x H locs ls hfu hi hxi; exfalso; omega
  | succ n ih =>
    intro i x H locs ls hfu hi hxi hK hP hD hS hl
    refine lv_iload_n hx hb dJ7_fill_53178_5 rfl (lv_at hl 2 rfl) ?_
    refine lv_iload_n hx hb dJ7_fill_53178_6 rfl (lv_at hl 3 rfl) ?_
    refine lv_icmp_ge (tgt := 20) hx hb dJ7_fill_53178_7 (by decide) (fun c_1 => ?_) (fun c_1 => ?_)
    · skip
      have hP9 := hP.sub (ws' := [(xBu, .inl (cBu, 840, .inl (fun _ => 0)))]) [0] rfl
      have hD9 := hD.sub (ws' := [(xBu, .inl (cBu, 840, .inl (fun _ => 0)))]) [0] (by decide) rfl
      have hK9 := hK.sub (tys' := [(cBu, .int)]) [0] rfl
      refine W.widen (k := 0) (n := 0) (Nat.le_of_ble_eq_true rfl) (Nat.le_of_ble_eq_true rfl) ?_
      exact W.vret hx hb hr (fun t ht hW => ⟨⟨(), rfl, trivial, ⟨by rw [ht]; exact hP9, va_K.moved hW.alike hK9, hD9⟩⟩, hS.F ht⟩) hS.2.2 dJ7_fill_53178_20
    · skip
      refine lv_aload_n hx hb dJ7_fill_53178_10 rfl (lv_at hl 0 rfl) ?_
      refine lv_iload_n hx hb dJ7_fill_53178_11 rfl (lv_at hl 2 rfl) ?_
      refine lv_iload_n hx hb dJ7_fill_53178_12 rfl (lv_at hl 1 rfl) ?_
      refine va_iast hx hb hK hP hD hS 0 0 rfl rfl (my_in hxi (my_lt hxi rfl hi c_1) (by decide)) dJ7_fill_53178_13 (fun H locs hP hD hS => ?_)
      have hP : va_P (dC, dI) vwCl [(xBu, .inl (cBu, 840, .inl (upd (fun _ => 0) x.toNatClampNeg 0)))] H := hP
      have hD : va_D A [(xBu, .inl (cBu, 840, .inl (upd (fun _ => 0) x.toNatClampNeg 0)))] := hD
      obtain ⟨f_2, ef_2⟩ : ∃ z : Nat → Int32, z = (upd (fun _ => 0) x.toNatClampNeg 0) := ⟨_, rfl⟩
      rw [← ef_2] at hP hD
      rw [ef_2, upd_0] at hP hD
      obtain ⟨v_3, ev_3⟩ : ∃ z : Int32, z = x + 1 := ⟨_, rfl⟩
      refine lv_iinc (v := v_3) (lv' := [(2, .int v_3), (0, .ref xBu), (1, .int 0), (3, .int 840)]) hx hb dJ7_fill_53178_14 hl (k := 2) rfl (by rw [ev_3]; rfl) (by decide) rfl (fun ls hl => ?_)
      refine lv_goto (tgt := 5) hx hb dJ7_fill_53178_17 (by decide) ?_
      exact ih (i + 1) v_3 _ _ _ (by omega) (by have := my_lt hxi rfl hi c_1; omega) (by rw [ev_3, hxi]; exact nI_1 i) (hK.sub [0] rfl) (hP.sub [0] rfl) (hD.sub [0] (by decide) rfl) hS (lv_sub hl [1, 2, 0, 3] rfl)
set_option maxHeartbeats 4000000 in
set_option maxRecDepth 100000 in
theorem c_lead (l : Launch) (dC : Nat → ClassId) (dI : Nat → Nat → Nat) (sz : Nat) (xM : Nat) (xW : Nat) (xWy : Nat) (xNl : Nat) (vm5 : Value) (vm6 : Value) (vm7 : Value) (vm8 : Value) (vm9 : Value) (vm10 : Value) (vm11 : Value) (vm12 : Value) (vm13 : Value) (vm14 : Value) (vm15 : Value) (vm16 : Value) (vm17 : Value) (xBu : Nat) (xRo : Nat) (xPe : Nat) (xWh : Nat) (xTr : Nat) (xCo : Nat) (xAl : Nat) (xDr : Nat) (xFa : Nat) (tD : Nat) (cBu : ClassId) (vp1 : Value) (vp2 : Value) (vp3 : Value) (vp4 : Value) (vp5 : Value) (vp6 : Value) (vp7 : Value) (vp8 : Value) (vp9 : Value) (vp10 : Value) (vp11 : Value) (vp12 : Value) (vp13 : Value) (vp14 : Value) (vh1 : Value) (vh2 : Value) (vh3 : Value) (vh4 : Value) (vh5 : Value) (vh6 : Value) (vh7 : Value) (vh8 : Value) (vt1 : Value) (vt2 : Value) (vt3 : Value) (vt4 : Value) (vt5 : Value) (vt6 : Value) (vt7 : Value) (vt8 : Value) (vy2 : Value) (vy3 : Value) (vy4 : Value) (vy5 : Value) (vy6 : Value) (vy7 : Value) (vy8 : Value) : Met l yX1_lead (.code yX1_lead cX1_lead 3 (some .int) :: lw_good) ({ frames := 6, cells := 0, slots := 0, locals := 250 }) (va_Pc [.ref xM, .int (-1)] (fun U => U.heap.size = sz ∧ va_P (dC, dI) vwCl [(xM, .inr (2, [.ref xW, .ref xWy, .ref xNl, .int 0, .int 0, vm5, vm6, vm7, vm8, vm9, vm10, vm11, vm12, vm13, vm14, vm15, vm16, vm17, .ref xBu])), (xW, .inr (7, [.ref xRo, .ref xPe, .ref xWh, .ref xTr, .ref xCo, .int 0, .ref xAl, .ref xNl, .ref xDr, .int 0, .ref xFa, .int 0, .int 0, .int 0])), (xAl, .inr (0, [.int 0, .ref tD, .int 0])), (xBu, .inl (cBu, 840, .inl (fun _ => 0))), (xPe, .inr (3, [.int 0, vp1, vp2, vp3, vp4, vp5, vp6, vp7, vp8, vp9, vp10, vp11, vp12, vp13, vp14])), (xWh, .inr (10, [.int 0, vh1, vh2, vh3, vh4, vh5, vh6, vh7, vh8])), (xTr, .inr (8, [.int 0, vt1, vt2, vt3, vt4, vt5, vt6, vt7, vt8])), (xWy, .inr (9, [.ref xW, .int 0, vy2, vy3, vy4, vy5, vy6, vy7, vy8]))] U.heap ∧ va_K (dC, dI) vwCl [(cBu, .int)] U ∧ va_D (fun _ => True) [(xM, .inr (2, [.ref xW, .ref xWy, .ref xNl, .int 0, .int 0, vm5, vm6, vm7, vm8, vm9, vm10, vm11, vm12, vm13, vm14, vm15, vm16, vm17, .ref xBu])), (xW, .inr (7, [.ref xRo, .ref xPe, .ref xWh, .ref xTr, .ref xCo, .int 0, .ref xAl, .ref xNl, .ref xDr, .int 0, .ref xFa, .int 0, .int 0, .int 0])), (xAl, .inr (0, [.int 0, .ref tD, .int 0])), (xBu, .inl (cBu, 840, .inl (fun _ => 0))), (xPe, .inr (3, [.int 0, vp1, vp2, vp3, vp4, vp5, vp6, vp7, vp8, vp9, vp10, vp11, vp12, vp13, vp14])), (xWh, .inr (10, [.int 0, vh1, vh2, vh3, vh4, vh5, vh6, vh7, vh8])), (xTr, .inr (8, [.int 0, vt1, vt2, vt3, vt4, vt5, vt6, vt7, vt8])), (xWy, .inr (9, [.ref xW, .int 0, vy2, vy3, vy4, vy5, vy6, vy7, vy8]))])) (va_Qi (fun (r : Int32) (_ : Unit) => r = 0) (fun (_ : Unit) (t : State) => va_P (dC, dI) vwCl [(xM, .inr (2, [.ref xW, .ref xWy, .ref xNl, .int (-1), .int 0, vm5, vm6, vm7, vm8, vm9, vm10, vm11, vm12, vm13, vm14, vm15, vm16, vm17, .ref xBu])), (xW, .inr (7, [.ref xRo, .ref xPe, .ref xWh, .ref xTr, .ref xCo, .int 0, .ref xAl, .ref xNl, .ref xDr, .int 0, .ref xFa, .int 0, .int 0, .int 0])), (xAl, .inr (0, [.int 0, .ref tD, .int 0])), (xBu, .inl (cBu, 840, .inl (fun _ => 0))), (xPe, .inr (3, [.int 0, vp1, vp2, vp3, vp4, vp5, vp6, vp7, vp8, vp9, vp10, vp11, vp12, vp13, vp14])), (xWh, .inr (10, [.int 0, vh1, vh2, vh3, vh4, vh5, vh6, vh7, vh8])), (xTr, .inr (8, [.int 0, vt1, vt2, vt3, vt4, vt5, vt6, vt7, vt8])), (xWy, .inr (9, [.ref xW, .int 0, vy2, vy3, vy4, vy5, vy6, vy7, vy8]))] t.heap ∧ va_K (dC, dI) vwCl [(cBu, .int)] t ∧ va_D (va_A [(xM, .inr (2, [.ref xW, .ref xWy, .ref xNl, .int 0, .int 0, vm5, vm6, vm7, vm8, vm9, vm10, vm11, vm12, vm13, vm14, vm15, vm16, vm17, .ref xBu])), (xW, .inr (7, [.ref xRo, .ref xPe, .ref xWh, .ref xTr, .ref xCo, .int 0, .ref xAl, .ref xNl, .ref xDr, .int 0, .ref xFa, .int 0, .int 0, .int 0])), (xAl, .inr (0, [.int 0, .ref tD, .int 0])), (xBu, .inl (cBu, 840, .inl (fun _ => 0))), (xPe, .inr (3, [.int 0, vp1, vp2, vp3, vp4, vp5, vp6, vp7, vp8, vp9, vp10, vp11, vp12, vp13, vp14])), (xWh, .inr (10, [.int 0, vh1, vh2, vh3, vh4, vh5, vh6, vh7, vh8])), (xTr, .inr (8, [.int 0, vt1, vt2, vt3, vt4, vt5, vt6, vt7, vt8])), (xWy, .inr (9, [.ref xW, .int 0, vy2, vy3, vy4, vy5, vy6, vy7, vy8]))] sz) [(xM, .inr (2, [.ref xW, .ref xWy, .ref xNl, .int (-1), .int 0, vm5, vm6, vm7, vm8, vm9, vm10, vm11, vm12, vm13, vm14, vm15, vm16, vm17, .ref xBu])), (xW, .inr (7, [.ref xRo, .ref xPe, .ref xWh, .ref xTr, .ref xCo, .int 0, .ref xAl, .ref xNl, .ref xDr, .int 0, .ref xFa, .int 0, .int 0, .int 0])), (xAl, .inr (0, [.int 0, .ref tD, .int 0])), (xBu, .inl (cBu, 840, .inl (fun _ => 0))), (xPe, .inr (3, [.int 0, vp1, vp2, vp3, vp4, vp5, vp6, vp7, vp8, vp9, vp10, vp11, vp12, vp13, vp14])), (xWh, .inr (10, [.int 0, vh1, vh2, vh3, vh4, vh5, vh6, vh7, vh8])), (xTr, .inr (8, [.int 0, vt1, vt2, vt3, vt4, vt5, vt6, vt7, vt8])), (xWy, .inr (9, [.ref xW, .int 0, vy2, vy3, vy4, vy5, vy6, vy7, vy8]))]) (va_A [(xM, .inr (2, [.ref xW, .ref xWy, .ref xNl, .int 0, .int 0, vm5, vm6, vm7, vm8, vm9, vm10, vm11, vm12, vm13, vm14, vm15, vm16, vm17, .ref xBu])), (xW, .inr (7, [.ref xRo, .ref xPe, .ref xWh, .ref xTr, .ref xCo, .int 0, .ref xAl, .ref xNl, .ref xDr, .int 0, .ref xFa, .int 0, .int 0, .int 0])), (xAl, .inr (0, [.int 0, .ref tD, .int 0])), (xBu, .inl (cBu, 840, .inl (fun _ => 0))), (xPe, .inr (3, [.int 0, vp1, vp2, vp3, vp4, vp5, vp6, vp7, vp8, vp9, vp10, vp11, vp12, vp13, vp14])), (xWh, .inr (10, [.int 0, vh1, vh2, vh3, vh4, vh5, vh6, vh7, vh8])), (xTr, .inr (8, [.int 0, vt1, vt2, vt3, vt4, vt5, vt6, vt7, vt8])), (xWy, .inr (9, [.ref xW, .int 0, vy2, vy3, vy4, vy5, vy6, vy7, vy8]))] sz)) 0 0 (va_A [(xM, .inr (2, [.ref xW, .ref xWy, .ref xNl, .int 0, .int 0, vm5, vm6, vm7, vm8, vm9, vm10, vm11, vm12, vm13, vm14, vm15, vm16, vm17, .ref xBu])), (xW, .inr (7, [.ref xRo, .ref xPe, .ref xWh, .ref xTr, .ref xCo, .int 0, .ref xAl, .ref xNl, .ref xDr, .int 0, .ref xFa, .int 0, .int 0, .int 0])), (xAl, .inr (0, [.int 0, .ref tD, .int 0])), (xBu, .inl (cBu, 840, .inl (fun _ => 0))), (xPe, .inr (3, [.int 0, vp1, vp2, vp3, vp4, vp5, vp6, vp7, vp8, vp9, vp10, vp11, vp12, vp13, vp14])), (xWh, .inr (10, [.int 0, vh1, vh2, vh3, vh4, vh5, vh6, vh7, vh8])), (xTr, .inr (8, [.int 0, vt1, vt2, vt3, vt4, vt5, vt6, vt7, vt8])), (xWy, .inr (9, [.ref xW, .int 0, vy2, vy3, vy4, vy5, vy6, vy7, vy8]))] sz) := by
  refine Met.ofW (cc := cX1_lead) (maxL := 3) (ret := (some .int)) (by decide) rfl ?_
  intro p e s m args below meth c s₁ B hml hv
  obtain ⟨rfl, hsz, hP, hK, hD0⟩ := hv
  have hx := B.exec
  have hb := B.bytes
  have hr := B.returns
  have hts := atoms_spec (ws := (.code yX1_lead cX1_lead 3 (some .int) :: lw_good)) B.pre
  have hown : s.vm.findClass RX1 = some m.cls := findClass_of_methodNamed B.named
  have hlocks := B.notSynchronized
  subst hsz
  have hD := hD0.self (sz := s.heap.size)
  generalize hAe : va_A [(xM, .inr (2, [.ref xW, .ref xWy, .ref xNl, .int 0, .int 0, vm5, vm6, vm7, vm8, vm9, vm10, vm11, vm12, vm13, vm14, vm15, vm16, vm17, .ref xBu])), (xW, .inr (7, [.ref xRo, .ref xPe, .ref xWh, .ref xTr, .ref xCo, .int 0, .ref xAl, .ref xNl, .ref xDr, .int 0, .ref xFa, .int 0, .int 0, .int 0])), (xAl, .inr (0, [.int 0, .ref tD, .int 0])), (xBu, .inl (cBu, 840, .inl (fun _ => 0))), (xPe, .inr (3, [.int 0, vp1, vp2, vp3, vp4, vp5, vp6, vp7, vp8, vp9, vp10, vp11, vp12, vp13, vp14])), (xWh, .inr (10, [.int 0, vh1, vh2, vh3, vh4, vh5, vh6, vh7, vh8])), (xTr, .inr (8, [.int 0, vt1, vt2, vt3, vt4, vt5, vt6, vt7, vt8])), (xWy, .inr (9, [.ref xW, .int 0, vy2, vy3, vy4, vy5, vy6, vy7, vy8]))] s.heap.size = A at hD ⊢
  have hA : ∀ q : Nat, s.heap.size ≤ q → A q := fun q h => by rw [← hAe]; exact Or.inr h
  have hS : va_S A s.heap s.heap [] := va_S.rf
  have hP : va_P (dC, dI) vwCl [(xM, .inr (2, [.ref xW, .ref xWy, .ref xNl, .int 0, .int 0, vm5, vm6, vm7, vm8, vm9, vm10, vm11, vm12, vm13, vm14, vm15, vm16, vm17, .ref xBu])), (xW, .inr (7, [.ref xRo, .ref xPe, .ref xWh, .ref xTr, .ref xCo, .int 0, .ref xAl, .ref xNl, .ref xDr, .int 0, .ref xFa, .int 0, .int 0, .int 0])), (xAl, .inr (0, [.int 0, .ref tD, .int 0])), (xBu, .inl (cBu, 840, .inl (fun _ => 0))), (xPe, .inr (3, [.int 0, vp1, vp2, vp3, vp4, vp5, vp6, vp7, vp8, vp9, vp10, vp11, vp12, vp13, vp14])), (xWh, .inr (10, [.int 0, vh1, vh2, vh3, vh4, vh5, vh6, vh7, vh8])), (xTr, .inr (8, [.int 0, vt1, vt2, vt3, vt4, vt5, vt6, vt7, vt8])), (xWy, .inr (9, [.ref xW, .int 0, vy2, vy3, vy4, vy5, vy6, vy7, vy8]))] s.heap := hP
  have hl := lv_entry ([.ref xM, .int (-1)]) (n := 3) (Nat.le_of_ble_eq_true rfl)
  rw [lg_entry_eq]
  generalize (lg_sl ([.ref xM, .int (-1)]) ++ List.replicate (3 - (lg_sl ([.ref xM, .int (-1)])).length) Slot.unset).toArray = ls at hl ⊢
  have hl : lv_has ls 3 [(0, .ref xM), (1, .int (-1))] := hl
  refine lv_aload_n hx hb dX1_lead_0 rfl (lv_at hl 0 rfl) ?_
  refine lv_iload_n hx hb dX1_lead_1 rfl (lv_at hl 1 rfl) ?_
  refine va_put (D := (dC, dI)) (ci := 2) (v := .int (-1)) (ty := .int) (C := RX1) (T := TX1) (N := 19) hx hb hts iCX1 tyX1 tyX1_ok nmX1 hown hK hP hD hS 0 rfl rfl 3 (by decide) (hts (.fieldLink RX1 82 "WalkingTown$Morning" "leftOut" "I") (List.mem_cons_of_mem _ kw_2_224)) (fun _ h9 => h9) rfl (by decide +kernel) rfl rfl (Nat.le_of_ble_eq_true rfl) dX1_lead_2 (fun H locs hP hD hS => ?_)
  have hP : va_P (dC, dI) vwCl [(xM, .inr (2, [.ref xW, .ref xWy, .ref xNl, .int (-1), .int 0, vm5, vm6, vm7, vm8, vm9, vm10, vm11, vm12, vm13, vm14, vm15, vm16, vm17, .ref xBu])), (xW, .inr (7, [.ref xRo, .ref xPe, .ref xWh, .ref xTr, .ref xCo, .int 0, .ref xAl, .ref xNl, .ref xDr, .int 0, .ref xFa, .int 0, .int 0, .int 0])), (xAl, .inr (0, [.int 0, .ref tD, .int 0])), (xBu, .inl (cBu, 840, .inl (fun _ => 0))), (xPe, .inr (3, [.int 0, vp1, vp2, vp3, vp4, vp5, vp6, vp7, vp8, vp9, vp10, vp11, vp12, vp13, vp14])), (xWh, .inr (10, [.int 0, vh1, vh2, vh3, vh4, vh5, vh6, vh7, vh8])), (xTr, .inr (8, [.int 0, vt1, vt2, vt3, vt4, vt5, vt6, vt7, vt8])), (xWy, .inr (9, [.ref xW, .int 0, vy2, vy3, vy4, vy5, vy6, vy7, vy8]))] H := hP
  have hD : va_D A [(xM, .inr (2, [.ref xW, .ref xWy, .ref xNl, .int (-1), .int 0, vm5, vm6, vm7, vm8, vm9, vm10, vm11, vm12, vm13, vm14, vm15, vm16, vm17, .ref xBu])), (xW, .inr (7, [.ref xRo, .ref xPe, .ref xWh, .ref xTr, .ref xCo, .int 0, .ref xAl, .ref xNl, .ref xDr, .int 0, .ref xFa, .int 0, .int 0, .int 0])), (xAl, .inr (0, [.int 0, .ref tD, .int 0])), (xBu, .inl (cBu, 840, .inl (fun _ => 0))), (xPe, .inr (3, [.int 0, vp1, vp2, vp3, vp4, vp5, vp6, vp7, vp8, vp9, vp10, vp11, vp12, vp13, vp14])), (xWh, .inr (10, [.int 0, vh1, vh2, vh3, vh4, vh5, vh6, vh7, vh8])), (xTr, .inr (8, [.int 0, vt1, vt2, vt3, vt4, vt5, vt6, vt7, vt8])), (xWy, .inr (9, [.ref xW, .int 0, vy2, vy3, vy4, vy5, vy6, vy7, vy8]))] := hD
  refine lv_aload_n hx hb dX1_lead_5 rfl (lv_at hl 0 rfl) ?_
  refine lv_aload_n hx hb dX1_lead_6 rfl (lv_at hl 0 rfl) ?_
  refine va_get (D := (dC, dI)) (ci := 2) (v := .ref xW) (C := RX1) (T := TX1) (N := 19) hx hb hts iCX1 hown hK hP 0 rfl rfl 0 (by decide) (hts (.fieldLink RX1 9 "WalkingTown$Morning" "town" "LWalkingTown$Town;") (List.mem_cons_of_mem _ kw_2_221)) (fun _ h9 => h9) rfl dX1_lead_7 ?_
  have hPc := hP.sub (ws' := [(xW, .inr (7, [.ref xRo, .ref xPe, .ref xWh, .ref xTr, .ref xCo, .int 0, .ref xAl, .ref xNl, .ref xDr, .int 0, .ref xFa, .int 0, .int 0, .int 0])), (xAl, .inr (0, [.int 0, .ref tD, .int 0]))]) [1, 2] rfl
  have hDc := hD.sub (ws' := [(xW, .inr (7, [.ref xRo, .ref xPe, .ref xWh, .ref xTr, .ref xCo, .int 0, .ref xAl, .ref xNl, .ref xDr, .int 0, .ref xFa, .int 0, .int 0, .int 0])), (xAl, .inr (0, [.int 0, .ref tD, .int 0]))]) [1, 2] (by decide) rfl
  have hKc := hK.sub (tys' := []) [] rfl
  have hFc := va_free (wc := [(xW, .inr (7, [.ref xRo, .ref xPe, .ref xWh, .ref xTr, .ref xCo, .int 0, .ref xAl, .ref xNl, .ref xDr, .int 0, .ref xFa, .int 0, .int 0, .int 0])), (xAl, .inr (0, [.int 0, .ref tD, .int 0]))]) hD hS hA [1, 2] rfl
  refine va_callr (va_runV (As := []) (rest := [.ref xM]) ⟨hx, hb, hml, hown, hts⟩ (c_lawToday l dC dI H.size xW xRo xPe xWh xTr xCo xAl xNl xDr xFa tD) (cwV 0 hts (gV kw_5_50 kw_5_2 kw_5_3 kw_1_2 kw_5_4) rfl rfl rfl (by decide +kernel) ⟨Nat.le_of_ble_eq_true rfl, Nat.le_of_ble_eq_true rfl⟩) ⟨fun a U g mk q => by obtain ⟨q0, q1, qP, qK, qD⟩ := q; exact ⟨q0, q1, qP, va_K.moved (u := U) (U := U.calling g mk a) (Vm.Alike.refl U.vm) qK, qD⟩, va_recv hKc hPc (ci := 7) (q0 := 0) rfl rfl, fun U hU hW => ⟨rfl, by rw [hU], by rw [hU]; exact hPc, va_K.moved hW.alike hKc, hDc.weaken (fun _ _ _ _ => trivial)⟩⟩ rfl rfl hl.1 rfl (lv_room (Nat.le_of_ble_eq_true rfl)) dX1_lead_10 ⟨Nat.le_of_ble_eq_true rfl, Nat.le_of_ble_eq_true rfl⟩) hS (fun q _ h => hFc q h) hFc (fun u r_1 t H1 locs ht hvm hw hB hz1 hk1 hS => ?_)
  obtain ⟨g_2, hP1, hK1, hD1⟩ := hB
  rw [ht] at hP1
  have hK1 := va_K.moved hvm.symm hK1
  obtain ⟨hP, hD⟩ := va_join (wr := [(xM, .inr (2, [.ref xW, .ref xWy, .ref xNl, .int (-1), .int 0, vm5, vm6, vm7, vm8, vm9, vm10, vm11, vm12, vm13, vm14, vm15, vm16, vm17, .ref xBu])), (xBu, .inl (cBu, 840, .inl (fun _ => 0))), (xPe, .inr (3, [.int 0, vp1, vp2, vp3, vp4, vp5, vp6, vp7, vp8, vp9, vp10, vp11, vp12, vp13, vp14])), (xWh, .inr (10, [.int 0, vh1, vh2, vh3, vh4, vh5, vh6, vh7, vh8])), (xTr, .inr (8, [.int 0, vt1, vt2, vt3, vt4, vt5, vt6, vt7, vt8])), (xWy, .inr (9, [.ref xW, .int 0, vy2, vy3, vy4, vy5, vy6, vy7, vy8]))]) (w1 := [(xW, .inr (7, [.ref xRo, .ref xPe, .ref xWh, .ref xTr, .ref xCo, .int 0, .ref xAl, .ref xNl, .ref xDr, .int 0, .ref xFa, .int 0, .int 0, .int 0])), (xAl, .inr (0, [.int 0, .ref tD, .int 0]))]) hP hD [1, 2] [0, 3, 4, 5, 6, 7] rfl rfl (by decide) (by decide) hk1 hFc hP1 hD1
  have hK := (hK.sub (tys' := [(cBu, .int)]) [0] rfl).app hK1
  generalize H1 = H at hP hS ⊢
  have hP : va_P (dC, dI) vwCl [(xM, .inr (2, [.ref xW, .ref xWy, .ref xNl, .int (-1), .int 0, vm5, vm6, vm7, vm8, vm9, vm10, vm11, vm12, vm13, vm14, vm15, vm16, vm17, .ref xBu])), (xBu, .inl (cBu, 840, .inl (fun _ => 0))), (xPe, .inr (3, [.int 0, vp1, vp2, vp3, vp4, vp5, vp6, vp7, vp8, vp9, vp10, vp11, vp12, vp13, vp14])), (xWh, .inr (10, [.int 0, vh1, vh2, vh3, vh4, vh5, vh6, vh7, vh8])), (xTr, .inr (8, [.int 0, vt1, vt2, vt3, vt4, vt5, vt6, vt7, vt8])), (xWy, .inr (9, [.ref xW, .int 0, vy2, vy3, vy4, vy5, vy6, vy7, vy8])), (xW, .inr (7, [.ref xRo, .ref xPe, .ref xWh, .ref xTr, .ref xCo, .int 0, .ref xAl, .ref xNl, .ref xDr, .int 0, .ref xFa, .int 0, .int 0, .int 0])), (xAl, .inr (0, [.int 0, .ref tD, .int 0]))] H := hP
  have hD : va_D A [(xM, .inr (2, [.ref xW, .ref xWy, .ref xNl, .int (-1), .int 0, vm5, vm6, vm7, vm8, vm9, vm10, vm11, vm12, vm13, vm14, vm15, vm16, vm17, .ref xBu])), (xBu, .inl (cBu, 840, .inl (fun _ => 0))), (xPe, .inr (3, [.int 0, vp1, vp2, vp3, vp4, vp5, vp6, vp7, vp8, vp9, vp10, vp11, vp12, vp13, vp14])), (xWh, .inr (10, [.int 0, vh1, vh2, vh3, vh4, vh5, vh6, vh7, vh8])), (xTr, .inr (8, [.int 0, vt1, vt2, vt3, vt4, vt5, vt6, vt7, vt8])), (xWy, .inr (9, [.ref xW, .int 0, vy2, vy3, vy4, vy5, vy6, vy7, vy8])), (xW, .inr (7, [.ref xRo, .ref xPe, .ref xWh, .ref xTr, .ref xCo, .int 0, .ref xAl, .ref xNl, .ref xDr, .int 0, .ref xFa, .int 0, .int 0, .int 0])), (xAl, .inr (0, [.int 0, .ref tD, .int 0]))] := hD
  have hK : va_K (dC, dI) vwCl [(cBu, .int)] s := hK
  rw [g_2]
  refine va_put (D := (dC, dI)) (ci := 2) (v := .ref xNl) (ty := .object "WalkingTown$Law") (C := RX1) (T := TX1) (N := 19) hx hb hts iCX1 tyX1 tyX1_ok nmX1 hown hK hP hD hS 0 rfl rfl 2 (by decide) (hts (.fieldLink RX1 30 "WalkingTown$Morning" "law" "LWalkingTown$Law;") (List.mem_cons_of_mem _ kw_2_223)) (fun _ h9 => h9) rfl (by decide +kernel) rfl rfl (Nat.le_of_ble_eq_true rfl) dX1_lead_13 (fun H locs hP hD hS => ?_)
  have hP : va_P (dC, dI) vwCl [(xM, .inr (2, [.ref xW, .ref xWy, .ref xNl, .int (-1), .int 0, vm5, vm6, vm7, vm8, vm9, vm10, vm11, vm12, vm13, vm14, vm15, vm16, vm17, .ref xBu])), (xBu, .inl (cBu, 840, .inl (fun _ => 0))), (xPe, .inr (3, [.int 0, vp1, vp2, vp3, vp4, vp5, vp6, vp7, vp8, vp9, vp10, vp11, vp12, vp13, vp14])), (xWh, .inr (10, [.int 0, vh1, vh2, vh3, vh4, vh5, vh6, vh7, vh8])), (xTr, .inr (8, [.int 0, vt1, vt2, vt3, vt4, vt5, vt6, vt7, vt8])), (xWy, .inr (9, [.ref xW, .int 0, vy2, vy3, vy4, vy5, vy6, vy7, vy8])), (xW, .inr (7, [.ref xRo, .ref xPe, .ref xWh, .ref xTr, .ref xCo, .int 0, .ref xAl, .ref xNl, .ref xDr, .int 0, .ref xFa, .int 0, .int 0, .int 0])), (xAl, .inr (0, [.int 0, .ref tD, .int 0]))] H := hP
  have hD : va_D A [(xM, .inr (2, [.ref xW, .ref xWy, .ref xNl, .int (-1), .int 0, vm5, vm6, vm7, vm8, vm9, vm10, vm11, vm12, vm13, vm14, vm15, vm16, vm17, .ref xBu])), (xBu, .inl (cBu, 840, .inl (fun _ => 0))), (xPe, .inr (3, [.int 0, vp1, vp2, vp3, vp4, vp5, vp6, vp7, vp8, vp9, vp10, vp11, vp12, vp13, vp14])), (xWh, .inr (10, [.int 0, vh1, vh2, vh3, vh4, vh5, vh6, vh7, vh8])), (xTr, .inr (8, [.int 0, vt1, vt2, vt3, vt4, vt5, vt6, vt7, vt8])), (xWy, .inr (9, [.ref xW, .int 0, vy2, vy3, vy4, vy5, vy6, vy7, vy8])), (xW, .inr (7, [.ref xRo, .ref xPe, .ref xWh, .ref xTr, .ref xCo, .int 0, .ref xAl, .ref xNl, .ref xDr, .int 0, .ref xFa, .int 0, .int 0, .int 0])), (xAl, .inr (0, [.int 0, .ref tD, .int 0]))] := hD
  refine lv_aload_n hx hb dX1_lead_16 rfl (lv_at hl 0 rfl) ?_
  refine lv_aload_n hx hb dX1_lead_17 rfl (lv_at hl 0 rfl) ?_
  refine va_get (D := (dC, dI)) (ci := 2) (v := .ref xW) (C := RX1) (T := TX1) (N := 19) hx hb hts iCX1 hown hK hP 0 rfl rfl 0 (by decide) (hts (.fieldLink RX1 9 "WalkingTown$Morning" "town" "LWalkingTown$Town;") (List.mem_cons_of_mem _ kw_2_221)) (fun _ h9 => h9) rfl dX1_lead_18 ?_
  refine va_get (D := (dC, dI)) (ci := 7) (v := .int 0) (C := RX7) (T := TX7) (N := 14) hx hb hts iCX7 hown hK hP 6 rfl rfl 13 (by decide) (hts (.fieldLink RX1 90 "WalkingTown$Town" "fund" "I") (List.mem_cons_of_mem _ kw_2_100)) (fun _ h9 => h9) rfl dX1_lead_21 ?_
  refine va_put (D := (dC, dI)) (ci := 2) (v := .int 0) (ty := .int) (C := RX1) (T := TX1) (N := 19) hx hb hts iCX1 tyX1 tyX1_ok nmX1 hown hK hP hD hS 0 rfl rfl 4 (by decide) (hts (.fieldLink RX1 93 "WalkingTown$Morning" "fund" "I") (List.mem_cons_of_mem _ kw_2_225)) (fun _ h9 => h9) rfl (by decide +kernel) rfl rfl (Nat.le_of_ble_eq_true rfl) dX1_lead_24 (fun H locs hP hD hS => ?_)
  have hP : va_P (dC, dI) vwCl [(xM, .inr (2, [.ref xW, .ref xWy, .ref xNl, .int (-1), .int 0, vm5, vm6, vm7, vm8, vm9, vm10, vm11, vm12, vm13, vm14, vm15, vm16, vm17, .ref xBu])), (xBu, .inl (cBu, 840, .inl (fun _ => 0))), (xPe, .inr (3, [.int 0, vp1, vp2, vp3, vp4, vp5, vp6, vp7, vp8, vp9, vp10, vp11, vp12, vp13, vp14])), (xWh, .inr (10, [.int 0, vh1, vh2, vh3, vh4, vh5, vh6, vh7, vh8])), (xTr, .inr (8, [.int 0, vt1, vt2, vt3, vt4, vt5, vt6, vt7, vt8])), (xWy, .inr (9, [.ref xW, .int 0, vy2, vy3, vy4, vy5, vy6, vy7, vy8])), (xW, .inr (7, [.ref xRo, .ref xPe, .ref xWh, .ref xTr, .ref xCo, .int 0, .ref xAl, .ref xNl, .ref xDr, .int 0, .ref xFa, .int 0, .int 0, .int 0])), (xAl, .inr (0, [.int 0, .ref tD, .int 0]))] H := hP
  have hD : va_D A [(xM, .inr (2, [.ref xW, .ref xWy, .ref xNl, .int (-1), .int 0, vm5, vm6, vm7, vm8, vm9, vm10, vm11, vm12, vm13, vm14, vm15, vm16, vm17, .ref xBu])), (xBu, .inl (cBu, 840, .inl (fun _ => 0))), (xPe, .inr (3, [.int 0, vp1, vp2, vp3, vp4, vp5, vp6, vp7, vp8, vp9, vp10, vp11, vp12, vp13, vp14])), (xWh, .inr (10, [.int 0, vh1, vh2, vh3, vh4, vh5, vh6, vh7, vh8])), (xTr, .inr (8, [.int 0, vt1, vt2, vt3, vt4, vt5, vt6, vt7, vt8])), (xWy, .inr (9, [.ref xW, .int 0, vy2, vy3, vy4, vy5, vy6, vy7, vy8])), (xW, .inr (7, [.ref xRo, .ref xPe, .ref xWh, .ref xTr, .ref xCo, .int 0, .ref xAl, .ref xNl, .ref xDr, .int 0, .ref xFa, .int 0, .int 0, .int 0])), (xAl, .inr (0, [.int 0, .ref tD, .int 0]))] := hD
  refine lv_aload_n hx hb dX1_lead_27 rfl (lv_at hl 0 rfl) ?_
  refine va_get (D := (dC, dI)) (ci := 2) (v := .ref xBu) (C := RX1) (T := TX1) (N := 19) hx hb hts iCX1 hown hK hP 0 rfl rfl 18 (by decide) (hts (.fieldLink RX1 79 "WalkingTown$Morning" "busy" "[I") (List.mem_cons_of_mem _ kw_2_239)) (fun _ h9 => h9) rfl dX1_lead_28 ?_
  refine lv_iconst (v := 0) hx hb dX1_lead_31 (by decide) ?_
  have hPc := hP.sub (ws' := [(xBu, .inl (cBu, 840, .inl (fun _ => 0)))]) [1] rfl
  have hDc := hD.sub (ws' := [(xBu, .inl (cBu, 840, .inl (fun _ => 0)))]) [1] (by decide) rfl
  have hKc := hK.sub (tys' := [(cBu, .int)]) [0] rfl
  have hFc := va_free (wc := [(xBu, .inl (cBu, 840, .inl (fun _ => 0)))]) hD hS hA [1] rfl
  refine va_callv (va_runS (As := [.ref xBu, .int 0]) (rest := []) ⟨hx, hb, hml, hown, hts⟩ (c_fill l dC dI H.size xBu cBu) (va_cwS 2 hts (gS kw_5_51 kw_5_52 kw_1_25 kw_5_53) rfl rfl rfl (by decide +kernel) ⟨Nat.le_of_ble_eq_true rfl, Nat.le_of_ble_eq_true rfl⟩) ⟨fun a U g mk q => by obtain ⟨q0, q1, qP, qK, qD⟩ := q; exact ⟨q0, q1, qP, va_K.moved (u := U) (U := U.calling g mk a) (Vm.Alike.refl U.vm) qK, qD⟩, fun U hU hW => ⟨rfl, by rw [hU], by rw [hU]; exact hPc, va_K.moved hW.alike hKc, hDc.weaken (fun _ _ _ _ => trivial)⟩⟩ rfl rfl hl.1 rfl (lv_room (Nat.le_of_ble_eq_true rfl)) dX1_lead_32 ⟨Nat.le_of_ble_eq_true rfl, Nat.le_of_ble_eq_true rfl⟩) hS (fun q _ h => hFc q h) hFc (fun u t H1 locs ht hvm hw hB hz1 hk1 hS => ?_)
  obtain ⟨hP1, hK1, hD1⟩ := hB
  rw [ht] at hP1
  have hK1 := va_K.moved hvm.symm hK1
  obtain ⟨hP, hD⟩ := va_join (wr := [(xM, .inr (2, [.ref xW, .ref xWy, .ref xNl, .int (-1), .int 0, vm5, vm6, vm7, vm8, vm9, vm10, vm11, vm12, vm13, vm14, vm15, vm16, vm17, .ref xBu])), (xPe, .inr (3, [.int 0, vp1, vp2, vp3, vp4, vp5, vp6, vp7, vp8, vp9, vp10, vp11, vp12, vp13, vp14])), (xWh, .inr (10, [.int 0, vh1, vh2, vh3, vh4, vh5, vh6, vh7, vh8])), (xTr, .inr (8, [.int 0, vt1, vt2, vt3, vt4, vt5, vt6, vt7, vt8])), (xWy, .inr (9, [.ref xW, .int 0, vy2, vy3, vy4, vy5, vy6, vy7, vy8])), (xW, .inr (7, [.ref xRo, .ref xPe, .ref xWh, .ref xTr, .ref xCo, .int 0, .ref xAl, .ref xNl, .ref xDr, .int 0, .ref xFa, .int 0, .int 0, .int 0])), (xAl, .inr (0, [.int 0, .ref tD, .int 0]))]) (w1 := [(xBu, .inl (cBu, 840, .inl (fun _ => 0)))]) hP hD [1] [0, 2, 3, 4, 5, 6, 7] rfl rfl (by decide) (by decide) hk1 hFc hP1 hD1
  have hK := (hK.sub (tys' := []) [] rfl).app hK1
  generalize H1 = H at hP hS ⊢
  have hP : va_P (dC, dI) vwCl [(xM, .inr (2, [.ref xW, .ref xWy, .ref xNl, .int (-1), .int 0, vm5, vm6, vm7, vm8, vm9, vm10, vm11, vm12, vm13, vm14, vm15, vm16, vm17, .ref xBu])), (xPe, .inr (3, [.int 0, vp1, vp2, vp3, vp4, vp5, vp6, vp7, vp8, vp9, vp10, vp11, vp12, vp13, vp14])), (xWh, .inr (10, [.int 0, vh1, vh2, vh3, vh4, vh5, vh6, vh7, vh8])), (xTr, .inr (8, [.int 0, vt1, vt2, vt3, vt4, vt5, vt6, vt7, vt8])), (xWy, .inr (9, [.ref xW, .int 0, vy2, vy3, vy4, vy5, vy6, vy7, vy8])), (xW, .inr (7, [.ref xRo, .ref xPe, .ref xWh, .ref xTr, .ref xCo, .int 0, .ref xAl, .ref xNl, .ref xDr, .int 0, .ref xFa, .int 0, .int 0, .int 0])), (xAl, .inr (0, [.int 0, .ref tD, .int 0])), (xBu, .inl (cBu, 840, .inl (fun _ => 0)))] H := hP
  have hD : va_D A [(xM, .inr (2, [.ref xW, .ref xWy, .ref xNl, .int (-1), .int 0, vm5, vm6, vm7, vm8, vm9, vm10, vm11, vm12, vm13, vm14, vm15, vm16, vm17, .ref xBu])), (xPe, .inr (3, [.int 0, vp1, vp2, vp3, vp4, vp5, vp6, vp7, vp8, vp9, vp10, vp11, vp12, vp13, vp14])), (xWh, .inr (10, [.int 0, vh1, vh2, vh3, vh4, vh5, vh6, vh7, vh8])), (xTr, .inr (8, [.int 0, vt1, vt2, vt3, vt4, vt5, vt6, vt7, vt8])), (xWy, .inr (9, [.ref xW, .int 0, vy2, vy3, vy4, vy5, vy6, vy7, vy8])), (xW, .inr (7, [.ref xRo, .ref xPe, .ref xWh, .ref xTr, .ref xCo, .int 0, .ref xAl, .ref xNl, .ref xDr, .int 0, .ref xFa, .int 0, .int 0, .int 0])), (xAl, .inr (0, [.int 0, .ref tD, .int 0])), (xBu, .inl (cBu, 840, .inl (fun _ => 0)))] := hD
  have hK : va_K (dC, dI) vwCl [(cBu, .int)] s := hK
  refine lv_aload_n hx hb dX1_lead_35 rfl (lv_at hl 0 rfl) ?_
  have hPc := hP.sub (ws' := [(xM, .inr (2, [.ref xW, .ref xWy, .ref xNl, .int (-1), .int 0, vm5, vm6, vm7, vm8, vm9, vm10, vm11, vm12, vm13, vm14, vm15, vm16, vm17, .ref xBu])), (xW, .inr (7, [.ref xRo, .ref xPe, .ref xWh, .ref xTr, .ref xCo, .int 0, .ref xAl, .ref xNl, .ref xDr, .int 0, .ref xFa, .int 0, .int 0, .int 0])), (xPe, .inr (3, [.int 0, vp1, vp2, vp3, vp4, vp5, vp6, vp7, vp8, vp9, vp10, vp11, vp12, vp13, vp14]))]) [0, 5, 1] rfl
  have hDc := hD.sub (ws' := [(xM, .inr (2, [.ref xW, .ref xWy, .ref xNl, .int (-1), .int 0, vm5, vm6, vm7, vm8, vm9, vm10, vm11, vm12, vm13, vm14, vm15, vm16, vm17, .ref xBu])), (xW, .inr (7, [.ref xRo, .ref xPe, .ref xWh, .ref xTr, .ref xCo, .int 0, .ref xAl, .ref xNl, .ref xDr, .int 0, .ref xFa, .int 0, .int 0, .int 0])), (xPe, .inr (3, [.int 0, vp1, vp2, vp3, vp4, vp5, vp6, vp7, vp8, vp9, vp10, vp11, vp12, vp13, vp14]))]) [0, 5, 1] (by decide) rfl
  have hKc := hK.sub (tys' := []) [] rfl
  have hFc := va_free (wc := [(xM, .inr (2, [.ref xW, .ref xWy, .ref xNl, .int (-1), .int 0, vm5, vm6, vm7, vm8, vm9, vm10, vm11, vm12, vm13, vm14, vm15, vm16, vm17, .ref xBu])), (xW, .inr (7, [.ref xRo, .ref xPe, .ref xWh, .ref xTr, .ref xCo, .int 0, .ref xAl, .ref xNl, .ref xDr, .int 0, .ref xFa, .int 0, .int 0, .int 0])), (xPe, .inr (3, [.int 0, vp1, vp2, vp3, vp4, vp5, vp6, vp7, vp8, vp9, vp10, vp11, vp12, vp13, vp14]))]) hD hS hA [0, 5, 1] rfl
  refine va_callv (va_runV (As := []) (rest := []) ⟨hx, hb, hml, hown, hts⟩ (c_readyPeople l dC dI H.size (-1) 0 xM xW xWy xNl (vm5 : Value) (vm6 : Value) (vm7 : Value) (vm8 : Value) (vm9 : Value) (vm10 : Value) (vm11 : Value) (vm12 : Value) (vm13 : Value) (vm14 : Value) (vm15 : Value) (vm16 : Value) (vm17 : Value) xBu xRo xPe xWh xTr xCo xAl xDr xFa (vp1 : Value) (vp2 : Value) (vp3 : Value) (vp4 : Value) (vp5 : Value) (vp6 : Value) (vp7 : Value) (vp8 : Value) (vp9 : Value) (vp10 : Value) (vp11 : Value) (vp12 : Value) (vp13 : Value) (vp14 : Value)) (cwV 0 hts (gV kw_5_54 kw_5_56 kw_p_21 kw_1_12 kw_5_57) rfl rfl rfl (by decide +kernel) ⟨Nat.le_of_ble_eq_true rfl, Nat.le_of_ble_eq_true rfl⟩) ⟨fun a U g mk q => by obtain ⟨q0, q1, qP, qK, qD⟩ := q; exact ⟨q0, q1, qP, va_K.moved (u := U) (U := U.calling g mk a) (Vm.Alike.refl U.vm) qK, qD⟩, va_recv hKc hPc (ci := 2) (q0 := 0) rfl rfl, fun U hU hW => ⟨rfl, by rw [hU], by rw [hU]; exact hPc, va_K.moved hW.alike hKc, hDc.weaken (fun _ _ _ _ => trivial)⟩⟩ rfl rfl hl.1 rfl (lv_room (Nat.le_of_ble_eq_true rfl)) dX1_lead_36 ⟨Nat.le_of_ble_eq_true rfl, Nat.le_of_ble_eq_true rfl⟩) hS (fun q _ h => hFc q h) hFc (fun u t H1 locs ht hvm hw hB hz1 hk1 hS => ?_)
  obtain ⟨hP1, hK1, hD1⟩ := hB
  rw [ht] at hP1
  have hK1 := va_K.moved hvm.symm hK1
  obtain ⟨hP, hD⟩ := va_join (wr := [(xWh, .inr (10, [.int 0, vh1, vh2, vh3, vh4, vh5, vh6, vh7, vh8])), (xTr, .inr (8, [.int 0, vt1, vt2, vt3, vt4, vt5, vt6, vt7, vt8])), (xWy, .inr (9, [.ref xW, .int 0, vy2, vy3, vy4, vy5, vy6, vy7, vy8])), (xAl, .inr (0, [.int 0, .ref tD, .int 0])), (xBu, .inl (cBu, 840, .inl (fun _ => 0)))]) (w1 := [(xM, .inr (2, [.ref xW, .ref xWy, .ref xNl, .int (-1), .int 0, vm5, vm6, vm7, vm8, vm9, vm10, vm11, vm12, vm13, vm14, vm15, vm16, vm17, .ref xBu])), (xW, .inr (7, [.ref xRo, .ref xPe, .ref xWh, .ref xTr, .ref xCo, .int 0, .ref xAl, .ref xNl, .ref xDr, .int 0, .ref xFa, .int 0, .int 0, .int 0])), (xPe, .inr (3, [.int 0, vp1, vp2, vp3, vp4, vp5, vp6, vp7, vp8, vp9, vp10, vp11, vp12, vp13, vp14]))]) hP hD [0, 5, 1] [2, 3, 4, 6, 7] rfl rfl (by decide) (by decide) hk1 hFc hP1 hD1
  have hK := (hK.sub (tys' := [(cBu, .int)]) [0] rfl).app hK1
  generalize H1 = H at hP hS ⊢
  have hP : va_P (dC, dI) vwCl [(xWh, .inr (10, [.int 0, vh1, vh2, vh3, vh4, vh5, vh6, vh7, vh8])), (xTr, .inr (8, [.int 0, vt1, vt2, vt3, vt4, vt5, vt6, vt7, vt8])), (xWy, .inr (9, [.ref xW, .int 0, vy2, vy3, vy4, vy5, vy6, vy7, vy8])), (xAl, .inr (0, [.int 0, .ref tD, .int 0])), (xBu, .inl (cBu, 840, .inl (fun _ => 0))), (xM, .inr (2, [.ref xW, .ref xWy, .ref xNl, .int (-1), .int 0, vm5, vm6, vm7, vm8, vm9, vm10, vm11, vm12, vm13, vm14, vm15, vm16, vm17, .ref xBu])), (xW, .inr (7, [.ref xRo, .ref xPe, .ref xWh, .ref xTr, .ref xCo, .int 0, .ref xAl, .ref xNl, .ref xDr, .int 0, .ref xFa, .int 0, .int 0, .int 0])), (xPe, .inr (3, [.int 0, vp1, vp2, vp3, vp4, vp5, vp6, vp7, vp8, vp9, vp10, vp11, vp12, vp13, vp14]))] H := hP
  have hD : va_D A [(xWh, .inr (10, [.int 0, vh1, vh2, vh3, vh4, vh5, vh6, vh7, vh8])), (xTr, .inr (8, [.int 0, vt1, vt2, vt3, vt4, vt5, vt6, vt7, vt8])), (xWy, .inr (9, [.ref xW, .int 0, vy2, vy3, vy4, vy5, vy6, vy7, vy8])), (xAl, .inr (0, [.int 0, .ref tD, .int 0])), (xBu, .inl (cBu, 840, .inl (fun _ => 0))), (xM, .inr (2, [.ref xW, .ref xWy, .ref xNl, .int (-1), .int 0, vm5, vm6, vm7, vm8, vm9, vm10, vm11, vm12, vm13, vm14, vm15, vm16, vm17, .ref xBu])), (xW, .inr (7, [.ref xRo, .ref xPe, .ref xWh, .ref xTr, .ref xCo, .int 0, .ref xAl, .ref xNl, .ref xDr, .int 0, .ref xFa, .int 0, .int 0, .int 0])), (xPe, .inr (3, [.int 0, vp1, vp2, vp3, vp4, vp5, vp6, vp7, vp8, vp9, vp10, vp11, vp12, vp13, vp14]))] := hD
  have hK : va_K (dC, dI) vwCl [(cBu, .int)] s := hK
  refine lv_aload_n hx hb dX1_lead_39 rfl (lv_at hl 0 rfl) ?_
  have hPc := hP.sub (ws' := [(xM, .inr (2, [.ref xW, .ref xWy, .ref xNl, .int (-1), .int 0, vm5, vm6, vm7, vm8, vm9, vm10, vm11, vm12, vm13, vm14, vm15, vm16, vm17, .ref xBu])), (xW, .inr (7, [.ref xRo, .ref xPe, .ref xWh, .ref xTr, .ref xCo, .int 0, .ref xAl, .ref xNl, .ref xDr, .int 0, .ref xFa, .int 0, .int 0, .int 0])), (xWh, .inr (10, [.int 0, vh1, vh2, vh3, vh4, vh5, vh6, vh7, vh8]))]) [5, 6, 0] rfl
  have hDc := hD.sub (ws' := [(xM, .inr (2, [.ref xW, .ref xWy, .ref xNl, .int (-1), .int 0, vm5, vm6, vm7, vm8, vm9, vm10, vm11, vm12, vm13, vm14, vm15, vm16, vm17, .ref xBu])), (xW, .inr (7, [.ref xRo, .ref xPe, .ref xWh, .ref xTr, .ref xCo, .int 0, .ref xAl, .ref xNl, .ref xDr, .int 0, .ref xFa, .int 0, .int 0, .int 0])), (xWh, .inr (10, [.int 0, vh1, vh2, vh3, vh4, vh5, vh6, vh7, vh8]))]) [5, 6, 0] (by decide) rfl
  have hKc := hK.sub (tys' := []) [] rfl
  have hFc := va_free (wc := [(xM, .inr (2, [.ref xW, .ref xWy, .ref xNl, .int (-1), .int 0, vm5, vm6, vm7, vm8, vm9, vm10, vm11, vm12, vm13, vm14, vm15, vm16, vm17, .ref xBu])), (xW, .inr (7, [.ref xRo, .ref xPe, .ref xWh, .ref xTr, .ref xCo, .int 0, .ref xAl, .ref xNl, .ref xDr, .int 0, .ref xFa, .int 0, .int 0, .int 0])), (xWh, .inr (10, [.int 0, vh1, vh2, vh3, vh4, vh5, vh6, vh7, vh8]))]) hD hS hA [5, 6, 0] rfl
  refine va_callv (va_runV (As := []) (rest := []) ⟨hx, hb, hml, hown, hts⟩ (c_readyWheels l dC dI H.size (-1) 0 xM xW xWy xNl (vm5 : Value) (vm6 : Value) (vm7 : Value) (vm8 : Value) (vm9 : Value) (vm10 : Value) (vm11 : Value) (vm12 : Value) (vm13 : Value) (vm14 : Value) (vm15 : Value) (vm16 : Value) (vm17 : Value) xBu xRo xPe xWh xTr xCo xAl xDr xFa (vh1 : Value) (vh2 : Value) (vh3 : Value) (vh4 : Value) (vh5 : Value) (vh6 : Value) (vh7 : Value) (vh8 : Value)) (cwV 0 hts (gV kw_5_70 kw_5_72 kw_p_23 kw_1_12 kw_5_73) rfl rfl rfl (by decide +kernel) ⟨Nat.le_of_ble_eq_true rfl, Nat.le_of_ble_eq_true rfl⟩) ⟨fun a U g mk q => by obtain ⟨q0, q1, qP, qK, qD⟩ := q; exact ⟨q0, q1, qP, va_K.moved (u := U) (U := U.calling g mk a) (Vm.Alike.refl U.vm) qK, qD⟩, va_recv hKc hPc (ci := 2) (q0 := 0) rfl rfl, fun U hU hW => ⟨rfl, by rw [hU], by rw [hU]; exact hPc, va_K.moved hW.alike hKc, hDc.weaken (fun _ _ _ _ => trivial)⟩⟩ rfl rfl hl.1 rfl (lv_room (Nat.le_of_ble_eq_true rfl)) dX1_lead_40 ⟨Nat.le_of_ble_eq_true rfl, Nat.le_of_ble_eq_true rfl⟩) hS (fun q _ h => hFc q h) hFc (fun u t H1 locs ht hvm hw hB hz1 hk1 hS => ?_)
  obtain ⟨hP1, hK1, hD1⟩ := hB
  rw [ht] at hP1
  have hK1 := va_K.moved hvm.symm hK1
  obtain ⟨hP, hD⟩ := va_join (wr := [(xTr, .inr (8, [.int 0, vt1, vt2, vt3, vt4, vt5, vt6, vt7, vt8])), (xWy, .inr (9, [.ref xW, .int 0, vy2, vy3, vy4, vy5, vy6, vy7, vy8])), (xAl, .inr (0, [.int 0, .ref tD, .int 0])), (xBu, .inl (cBu, 840, .inl (fun _ => 0))), (xPe, .inr (3, [.int 0, vp1, vp2, vp3, vp4, vp5, vp6, vp7, vp8, vp9, vp10, vp11, vp12, vp13, vp14]))]) (w1 := [(xM, .inr (2, [.ref xW, .ref xWy, .ref xNl, .int (-1), .int 0, vm5, vm6, vm7, vm8, vm9, vm10, vm11, vm12, vm13, vm14, vm15, vm16, vm17, .ref xBu])), (xW, .inr (7, [.ref xRo, .ref xPe, .ref xWh, .ref xTr, .ref xCo, .int 0, .ref xAl, .ref xNl, .ref xDr, .int 0, .ref xFa, .int 0, .int 0, .int 0])), (xWh, .inr (10, [.int 0, vh1, vh2, vh3, vh4, vh5, vh6, vh7, vh8]))]) hP hD [5, 6, 0] [1, 2, 3, 4, 7] rfl rfl (by decide) (by decide) hk1 hFc hP1 hD1
  have hK := (hK.sub (tys' := [(cBu, .int)]) [0] rfl).app hK1
  generalize H1 = H at hP hS ⊢
  have hP : va_P (dC, dI) vwCl [(xTr, .inr (8, [.int 0, vt1, vt2, vt3, vt4, vt5, vt6, vt7, vt8])), (xWy, .inr (9, [.ref xW, .int 0, vy2, vy3, vy4, vy5, vy6, vy7, vy8])), (xAl, .inr (0, [.int 0, .ref tD, .int 0])), (xBu, .inl (cBu, 840, .inl (fun _ => 0))), (xPe, .inr (3, [.int 0, vp1, vp2, vp3, vp4, vp5, vp6, vp7, vp8, vp9, vp10, vp11, vp12, vp13, vp14])), (xM, .inr (2, [.ref xW, .ref xWy, .ref xNl, .int (-1), .int 0, vm5, vm6, vm7, vm8, vm9, vm10, vm11, vm12, vm13, vm14, vm15, vm16, vm17, .ref xBu])), (xW, .inr (7, [.ref xRo, .ref xPe, .ref xWh, .ref xTr, .ref xCo, .int 0, .ref xAl, .ref xNl, .ref xDr, .int 0, .ref xFa, .int 0, .int 0, .int 0])), (xWh, .inr (10, [.int 0, vh1, vh2, vh3, vh4, vh5, vh6, vh7, vh8]))] H := hP
  have hD : va_D A [(xTr, .inr (8, [.int 0, vt1, vt2, vt3, vt4, vt5, vt6, vt7, vt8])), (xWy, .inr (9, [.ref xW, .int 0, vy2, vy3, vy4, vy5, vy6, vy7, vy8])), (xAl, .inr (0, [.int 0, .ref tD, .int 0])), (xBu, .inl (cBu, 840, .inl (fun _ => 0))), (xPe, .inr (3, [.int 0, vp1, vp2, vp3, vp4, vp5, vp6, vp7, vp8, vp9, vp10, vp11, vp12, vp13, vp14])), (xM, .inr (2, [.ref xW, .ref xWy, .ref xNl, .int (-1), .int 0, vm5, vm6, vm7, vm8, vm9, vm10, vm11, vm12, vm13, vm14, vm15, vm16, vm17, .ref xBu])), (xW, .inr (7, [.ref xRo, .ref xPe, .ref xWh, .ref xTr, .ref xCo, .int 0, .ref xAl, .ref xNl, .ref xDr, .int 0, .ref xFa, .int 0, .int 0, .int 0])), (xWh, .inr (10, [.int 0, vh1, vh2, vh3, vh4, vh5, vh6, vh7, vh8]))] := hD
  have hK : va_K (dC, dI) vwCl [(cBu, .int)] s := hK
  refine lv_aload_n hx hb dX1_lead_43 rfl (lv_at hl 0 rfl) ?_
  have hPc := hP.sub (ws' := [(xM, .inr (2, [.ref xW, .ref xWy, .ref xNl, .int (-1), .int 0, vm5, vm6, vm7, vm8, vm9, vm10, vm11, vm12, vm13, vm14, vm15, vm16, vm17, .ref xBu])), (xW, .inr (7, [.ref xRo, .ref xPe, .ref xWh, .ref xTr, .ref xCo, .int 0, .ref xAl, .ref xNl, .ref xDr, .int 0, .ref xFa, .int 0, .int 0, .int 0])), (xTr, .inr (8, [.int 0, vt1, vt2, vt3, vt4, vt5, vt6, vt7, vt8]))]) [5, 6, 0] rfl
  have hDc := hD.sub (ws' := [(xM, .inr (2, [.ref xW, .ref xWy, .ref xNl, .int (-1), .int 0, vm5, vm6, vm7, vm8, vm9, vm10, vm11, vm12, vm13, vm14, vm15, vm16, vm17, .ref xBu])), (xW, .inr (7, [.ref xRo, .ref xPe, .ref xWh, .ref xTr, .ref xCo, .int 0, .ref xAl, .ref xNl, .ref xDr, .int 0, .ref xFa, .int 0, .int 0, .int 0])), (xTr, .inr (8, [.int 0, vt1, vt2, vt3, vt4, vt5, vt6, vt7, vt8]))]) [5, 6, 0] (by decide) rfl
  have hKc := hK.sub (tys' := []) [] rfl
  have hFc := va_free (wc := [(xM, .inr (2, [.ref xW, .ref xWy, .ref xNl, .int (-1), .int 0, vm5, vm6, vm7, vm8, vm9, vm10, vm11, vm12, vm13, vm14, vm15, vm16, vm17, .ref xBu])), (xW, .inr (7, [.ref xRo, .ref xPe, .ref xWh, .ref xTr, .ref xCo, .int 0, .ref xAl, .ref xNl, .ref xDr, .int 0, .ref xFa, .int 0, .int 0, .int 0])), (xTr, .inr (8, [.int 0, vt1, vt2, vt3, vt4, vt5, vt6, vt7, vt8]))]) hD hS hA [5, 6, 0] rfl
  refine va_callv (va_runV (As := []) (rest := []) ⟨hx, hb, hml, hown, hts⟩ (c_readyTrips l dC dI H.size (-1) 0 xM xW xWy xNl (vm5 : Value) (vm6 : Value) (vm7 : Value) (vm8 : Value) (vm9 : Value) (vm10 : Value) (vm11 : Value) (vm12 : Value) (vm13 : Value) (vm14 : Value) (vm15 : Value) (vm16 : Value) (vm17 : Value) xBu xRo xPe xWh xTr xCo xAl xDr xFa (vt1 : Value) (vt2 : Value) (vt3 : Value) (vt4 : Value) (vt5 : Value) (vt6 : Value) (vt7 : Value) (vt8 : Value)) (cwV 0 hts (gV kw_5_74 kw_5_76 kw_p_24 kw_1_12 kw_5_77) rfl rfl rfl (by decide +kernel) ⟨Nat.le_of_ble_eq_true rfl, Nat.le_of_ble_eq_true rfl⟩) ⟨fun a U g mk q => by obtain ⟨q0, q1, qP, qK, qD⟩ := q; exact ⟨q0, q1, qP, va_K.moved (u := U) (U := U.calling g mk a) (Vm.Alike.refl U.vm) qK, qD⟩, va_recv hKc hPc (ci := 2) (q0 := 0) rfl rfl, fun U hU hW => ⟨rfl, by rw [hU], by rw [hU]; exact hPc, va_K.moved hW.alike hKc, hDc.weaken (fun _ _ _ _ => trivial)⟩⟩ rfl rfl hl.1 rfl (lv_room (Nat.le_of_ble_eq_true rfl)) dX1_lead_44 ⟨Nat.le_of_ble_eq_true rfl, Nat.le_of_ble_eq_true rfl⟩) hS (fun q _ h => hFc q h) hFc (fun u t H1 locs ht hvm hw hB hz1 hk1 hS => ?_)
  obtain ⟨hP1, hK1, hD1⟩ := hB
  rw [ht] at hP1
  have hK1 := va_K.moved hvm.symm hK1
  obtain ⟨hP, hD⟩ := va_join (wr := [(xWy, .inr (9, [.ref xW, .int 0, vy2, vy3, vy4, vy5, vy6, vy7, vy8])), (xAl, .inr (0, [.int 0, .ref tD, .int 0])), (xBu, .inl (cBu, 840, .inl (fun _ => 0))), (xPe, .inr (3, [.int 0, vp1, vp2, vp3, vp4, vp5, vp6, vp7, vp8, vp9, vp10, vp11, vp12, vp13, vp14])), (xWh, .inr (10, [.int 0, vh1, vh2, vh3, vh4, vh5, vh6, vh7, vh8]))]) (w1 := [(xM, .inr (2, [.ref xW, .ref xWy, .ref xNl, .int (-1), .int 0, vm5, vm6, vm7, vm8, vm9, vm10, vm11, vm12, vm13, vm14, vm15, vm16, vm17, .ref xBu])), (xW, .inr (7, [.ref xRo, .ref xPe, .ref xWh, .ref xTr, .ref xCo, .int 0, .ref xAl, .ref xNl, .ref xDr, .int 0, .ref xFa, .int 0, .int 0, .int 0])), (xTr, .inr (8, [.int 0, vt1, vt2, vt3, vt4, vt5, vt6, vt7, vt8]))]) hP hD [5, 6, 0] [1, 2, 3, 4, 7] rfl rfl (by decide) (by decide) hk1 hFc hP1 hD1
  have hK := (hK.sub (tys' := [(cBu, .int)]) [0] rfl).app hK1
  generalize H1 = H at hP hS ⊢
  have hP : va_P (dC, dI) vwCl [(xWy, .inr (9, [.ref xW, .int 0, vy2, vy3, vy4, vy5, vy6, vy7, vy8])), (xAl, .inr (0, [.int 0, .ref tD, .int 0])), (xBu, .inl (cBu, 840, .inl (fun _ => 0))), (xPe, .inr (3, [.int 0, vp1, vp2, vp3, vp4, vp5, vp6, vp7, vp8, vp9, vp10, vp11, vp12, vp13, vp14])), (xWh, .inr (10, [.int 0, vh1, vh2, vh3, vh4, vh5, vh6, vh7, vh8])), (xM, .inr (2, [.ref xW, .ref xWy, .ref xNl, .int (-1), .int 0, vm5, vm6, vm7, vm8, vm9, vm10, vm11, vm12, vm13, vm14, vm15, vm16, vm17, .ref xBu])), (xW, .inr (7, [.ref xRo, .ref xPe, .ref xWh, .ref xTr, .ref xCo, .int 0, .ref xAl, .ref xNl, .ref xDr, .int 0, .ref xFa, .int 0, .int 0, .int 0])), (xTr, .inr (8, [.int 0, vt1, vt2, vt3, vt4, vt5, vt6, vt7, vt8]))] H := hP
  have hD : va_D A [(xWy, .inr (9, [.ref xW, .int 0, vy2, vy3, vy4, vy5, vy6, vy7, vy8])), (xAl, .inr (0, [.int 0, .ref tD, .int 0])), (xBu, .inl (cBu, 840, .inl (fun _ => 0))), (xPe, .inr (3, [.int 0, vp1, vp2, vp3, vp4, vp5, vp6, vp7, vp8, vp9, vp10, vp11, vp12, vp13, vp14])), (xWh, .inr (10, [.int 0, vh1, vh2, vh3, vh4, vh5, vh6, vh7, vh8])), (xM, .inr (2, [.ref xW, .ref xWy, .ref xNl, .int (-1), .int 0, vm5, vm6, vm7, vm8, vm9, vm10, vm11, vm12, vm13, vm14, vm15, vm16, vm17, .ref xBu])), (xW, .inr (7, [.ref xRo, .ref xPe, .ref xWh, .ref xTr, .ref xCo, .int 0, .ref xAl, .ref xNl, .ref xDr, .int 0, .ref xFa, .int 0, .int 0, .int 0])), (xTr, .inr (8, [.int 0, vt1, vt2, vt3, vt4, vt5, vt6, vt7, vt8]))] := hD
  have hK : va_K (dC, dI) vwCl [(cBu, .int)] s := hK
  refine lv_aload_n hx hb dX1_lead_47 rfl (lv_at hl 0 rfl) ?_
  refine va_get (D := (dC, dI)) (ci := 2) (v := .ref xWy) (C := RX1) (T := TX1) (N := 19) hx hb hts iCX1 hown hK hP 5 rfl rfl 1 (by decide) (hts (.fieldLink RX1 20 "WalkingTown$Morning" "ways" "LWalkingTown$Ways;") (List.mem_cons_of_mem _ kw_2_222)) (fun _ h9 => h9) rfl dX1_lead_48 ?_
  refine lv_iload_n hx hb dX1_lead_51 rfl (lv_at hl 1 rfl) ?_
  have hPc := hP.sub (ws' := [(xWy, .inr (9, [.ref xW, .int 0, vy2, vy3, vy4, vy5, vy6, vy7, vy8])), (xW, .inr (7, [.ref xRo, .ref xPe, .ref xWh, .ref xTr, .ref xCo, .int 0, .ref xAl, .ref xNl, .ref xDr, .int 0, .ref xFa, .int 0, .int 0, .int 0])), (xTr, .inr (8, [.int 0, vt1, vt2, vt3, vt4, vt5, vt6, vt7, vt8]))]) [0, 6, 7] rfl
  have hDc := hD.sub (ws' := [(xWy, .inr (9, [.ref xW, .int 0, vy2, vy3, vy4, vy5, vy6, vy7, vy8])), (xW, .inr (7, [.ref xRo, .ref xPe, .ref xWh, .ref xTr, .ref xCo, .int 0, .ref xAl, .ref xNl, .ref xDr, .int 0, .ref xFa, .int 0, .int 0, .int 0])), (xTr, .inr (8, [.int 0, vt1, vt2, vt3, vt4, vt5, vt6, vt7, vt8]))]) [0, 6, 7] (by decide) rfl
  have hKc := hK.sub (tys' := []) [] rfl
  have hFc := va_free (wc := [(xWy, .inr (9, [.ref xW, .int 0, vy2, vy3, vy4, vy5, vy6, vy7, vy8])), (xW, .inr (7, [.ref xRo, .ref xPe, .ref xWh, .ref xTr, .ref xCo, .int 0, .ref xAl, .ref xNl, .ref xDr, .int 0, .ref xFa, .int 0, .int 0, .int 0])), (xTr, .inr (8, [.int 0, vt1, vt2, vt3, vt4, vt5, vt6, vt7, vt8]))]) hD hS hA [0, 6, 7] rfl
  refine va_callv (va_runV (As := [.int (-1)]) (rest := []) ⟨hx, hb, hml, hown, hts⟩ (c_layOut l dC dI H.size (-1) xWy xW (vy2 : Value) (vy3 : Value) (vy4 : Value) (vy5 : Value) (vy6 : Value) (vy7 : Value) (vy8 : Value) xRo xPe xWh xTr xCo xAl xNl xDr xFa (vt1 : Value) (vt2 : Value) (vt3 : Value) (vt4 : Value) (vt5 : Value) (vt6 : Value) (vt7 : Value) (vt8 : Value)) (cwV 1 hts (gV kw_5_86 kw_5_87 kw_5_88 kw_1_13 kw_5_89) rfl rfl rfl (by decide +kernel) ⟨Nat.le_of_ble_eq_true rfl, Nat.le_of_ble_eq_true rfl⟩) ⟨fun a U g mk q => by obtain ⟨q0, q1, qP, qK, qD⟩ := q; exact ⟨q0, q1, qP, va_K.moved (u := U) (U := U.calling g mk a) (Vm.Alike.refl U.vm) qK, qD⟩, va_recv hKc hPc (ci := 9) (q0 := 0) rfl rfl, fun U hU hW => ⟨rfl, by rw [hU], by rw [hU]; exact hPc, va_K.moved hW.alike hKc, hDc.weaken (fun _ _ _ _ => trivial)⟩⟩ rfl rfl hl.1 rfl (lv_room (Nat.le_of_ble_eq_true rfl)) dX1_lead_52 ⟨Nat.le_of_ble_eq_true rfl, Nat.le_of_ble_eq_true rfl⟩) hS (fun q _ h => hFc q h) hFc (fun u t H1 locs ht hvm hw hB hz1 hk1 hS => ?_)
  obtain ⟨hP1, hK1, hD1⟩ := hB
  rw [ht] at hP1
  have hK1 := va_K.moved hvm.symm hK1
  obtain ⟨hP, hD⟩ := va_join (wr := [(xAl, .inr (0, [.int 0, .ref tD, .int 0])), (xBu, .inl (cBu, 840, .inl (fun _ => 0))), (xPe, .inr (3, [.int 0, vp1, vp2, vp3, vp4, vp5, vp6, vp7, vp8, vp9, vp10, vp11, vp12, vp13, vp14])), (xWh, .inr (10, [.int 0, vh1, vh2, vh3, vh4, vh5, vh6, vh7, vh8])), (xM, .inr (2, [.ref xW, .ref xWy, .ref xNl, .int (-1), .int 0, vm5, vm6, vm7, vm8, vm9, vm10, vm11, vm12, vm13, vm14, vm15, vm16, vm17, .ref xBu]))]) (w1 := [(xWy, .inr (9, [.ref xW, .int 0, vy2, vy3, vy4, vy5, vy6, vy7, vy8])), (xW, .inr (7, [.ref xRo, .ref xPe, .ref xWh, .ref xTr, .ref xCo, .int 0, .ref xAl, .ref xNl, .ref xDr, .int 0, .ref xFa, .int 0, .int 0, .int 0])), (xTr, .inr (8, [.int 0, vt1, vt2, vt3, vt4, vt5, vt6, vt7, vt8]))]) hP hD [0, 6, 7] [1, 2, 3, 4, 5] rfl rfl (by decide) (by decide) hk1 hFc hP1 hD1
  have hK := (hK.sub (tys' := [(cBu, .int)]) [0] rfl).app hK1
  generalize H1 = H at hP hS ⊢
  have hP : va_P (dC, dI) vwCl [(xAl, .inr (0, [.int 0, .ref tD, .int 0])), (xBu, .inl (cBu, 840, .inl (fun _ => 0))), (xPe, .inr (3, [.int 0, vp1, vp2, vp3, vp4, vp5, vp6, vp7, vp8, vp9, vp10, vp11, vp12, vp13, vp14])), (xWh, .inr (10, [.int 0, vh1, vh2, vh3, vh4, vh5, vh6, vh7, vh8])), (xM, .inr (2, [.ref xW, .ref xWy, .ref xNl, .int (-1), .int 0, vm5, vm6, vm7, vm8, vm9, vm10, vm11, vm12, vm13, vm14, vm15, vm16, vm17, .ref xBu])), (xWy, .inr (9, [.ref xW, .int 0, vy2, vy3, vy4, vy5, vy6, vy7, vy8])), (xW, .inr (7, [.ref xRo, .ref xPe, .ref xWh, .ref xTr, .ref xCo, .int 0, .ref xAl, .ref xNl, .ref xDr, .int 0, .ref xFa, .int 0, .int 0, .int 0])), (xTr, .inr (8, [.int 0, vt1, vt2, vt3, vt4, vt5, vt6, vt7, vt8]))] H := hP
  have hD : va_D A [(xAl, .inr (0, [.int 0, .ref tD, .int 0])), (xBu, .inl (cBu, 840, .inl (fun _ => 0))), (xPe, .inr (3, [.int 0, vp1, vp2, vp3, vp4, vp5, vp6, vp7, vp8, vp9, vp10, vp11, vp12, vp13, vp14])), (xWh, .inr (10, [.int 0, vh1, vh2, vh3, vh4, vh5, vh6, vh7, vh8])), (xM, .inr (2, [.ref xW, .ref xWy, .ref xNl, .int (-1), .int 0, vm5, vm6, vm7, vm8, vm9, vm10, vm11, vm12, vm13, vm14, vm15, vm16, vm17, .ref xBu])), (xWy, .inr (9, [.ref xW, .int 0, vy2, vy3, vy4, vy5, vy6, vy7, vy8])), (xW, .inr (7, [.ref xRo, .ref xPe, .ref xWh, .ref xTr, .ref xCo, .int 0, .ref xAl, .ref xNl, .ref xDr, .int 0, .ref xFa, .int 0, .int 0, .int 0])), (xTr, .inr (8, [.int 0, vt1, vt2, vt3, vt4, vt5, vt6, vt7, vt8]))] := hD
  have hK : va_K (dC, dI) vwCl [(cBu, .int)] s := hK
  refine lv_iconst (v := 0) hx hb dX1_lead_55 (by decide) ?_
  refine lv_istore_n (lv' := [(2, .int 0), (0, .ref xM), (1, .int (-1))]) hx hb dX1_lead_56 rfl hl (by decide) rfl (fun ls hl => ?_)
  refine (show ∀ (n : Nat) (i : Nat) (x : Int32) (H : Heap) (locs : List Loc) (ls : Array Slot), 840 < i + n → i ≤ 840 → x = nI i → va_K (dC, dI) vwCl [(cBu, .int)] s → va_P (dC, dI) vwCl [(xAl, .inr (0, [.int 0, .ref tD, .int 0])), (xBu, .inl (cBu, 840, .inl (fun _ => 0))), (xPe, .inr (3, [.int 0, vp1, vp2, vp3, vp4, vp5, vp6, vp7, vp8, vp9, vp10, vp11, vp12, vp13, vp14])), (xWh, .inr (10, [.int 0, vh1, vh2, vh3, vh4, vh5, vh6, vh7, vh8])), (xM, .inr (2, [.ref xW, .ref xWy, .ref xNl, .int (-1), .int 0, vm5, vm6, vm7, vm8, vm9, vm10, vm11, vm12, vm13, vm14, vm15, vm16, vm17, .ref xBu])), (xWy, .inr (9, [.ref xW, .int 0, vy2, vy3, vy4, vy5, vy6, vy7, vy8])), (xW, .inr (7, [.ref xRo, .ref xPe, .ref xWh, .ref xTr, .ref xCo, .int 0, .ref xAl, .ref xNl, .ref xDr, .int 0, .ref xFa, .int 0, .int 0, .int 0])), (xTr, .inr (8, [.int 0, vt1, vt2, vt3, vt4, vt5, vt6, vt7, vt8]))] H → va_D A [(xAl, .inr (0, [.int 0, .ref tD, .int 0])), (xBu, .inl (cBu, 840, .inl (fun _ => 0))), (xPe, .inr (3, [.int 0, vp1, vp2, vp3, vp4, vp5, vp6, vp7, vp8, vp9, vp10, vp11, vp12, vp13, vp14])), (xWh, .inr (10, [.int 0, vh1, vh2, vh3, vh4, vh5, vh6, vh7, vh8])), (xM, .inr (2, [.ref xW, .ref xWy, .ref xNl, .int (-1), .int 0, vm5, vm6, vm7, vm8, vm9, vm10, vm11, vm12, vm13, vm14, vm15, vm16, vm17, .ref xBu])), (xWy, .inr (9, [.ref xW, .int 0, vy2, vy3, vy4, vy5, vy6, vy7, vy8])), (xW, .inr (7, [.ref xRo, .ref xPe, .ref xWh, .ref xTr, .ref xCo, .int 0, .ref xAl, .ref xNl, .ref xDr, .int 0, .ref xFa, .int 0, .int 0, .int 0])), (xTr, .inr (8, [.int 0, vt1, vt2, vt3, vt4, vt5, vt6, vt7, vt8]))] → va_S A s.heap H locs → lv_has ls 3 [(0, .ref xM), (1, .int (-1)), (2, .int x)] → W p l e _ s m _ below meth c H locs 0 0 _ (F0 m 57 ls []) from ?_) 841 0 0 H _ ls (by omega) (by omega) rfl hK hP hD hS (lv_sub hl [1, 2, 0] rfl)
  intro n
  induction n with
  | zero => intro i x H locs ls hfu hi hxi; exfalso; omega
  | succ n ih =>
    intro i x H locs ls hfu hi hxi hK hP hD hS hl
    refine lv_iload_n hx hb dX1_lead_57 rfl (lv_at hl 2 rfl) ?_
    refine lv_sipush (v := 840) hx hb dX1_lead_58 (by decide) ?_
    refine lv_icmp_ge (tgt := 99) hx hb dX1_lead_61 (by decide) (fun c_8 => ?_) (fun c_8 => ?_)
    · skip
      refine lv_aload_n hx hb dX1_lead_99 rfl (lv_at hl 0 rfl) ?_
      have hPc := hP.sub (ws' := [(xM, .inr (2, [.ref xW, .ref xWy, .ref xNl, .int (-1), .int 0, vm5, vm6, vm7, vm8, vm9, vm10, vm11, vm12, vm13, vm14, vm15, vm16, vm17, .ref xBu])), (xW, .inr (7, [.ref xRo, .ref xPe, .ref xWh, .ref xTr, .ref xCo, .int 0, .ref xAl, .ref xNl, .ref xDr, .int 0, .ref xFa, .int 0, .int 0, .int 0])), (xPe, .inr (3, [.int 0, vp1, vp2, vp3, vp4, vp5, vp6, vp7, vp8, vp9, vp10, vp11, vp12, vp13, vp14]))]) [4, 6, 2] rfl
      have hDc := hD.sub (ws' := [(xM, .inr (2, [.ref xW, .ref xWy, .ref xNl, .int (-1), .int 0, vm5, vm6, vm7, vm8, vm9, vm10, vm11, vm12, vm13, vm14, vm15, vm16, vm17, .ref xBu])), (xW, .inr (7, [.ref xRo, .ref xPe, .ref xWh, .ref xTr, .ref xCo, .int 0, .ref xAl, .ref xNl, .ref xDr, .int 0, .ref xFa, .int 0, .int 0, .int 0])), (xPe, .inr (3, [.int 0, vp1, vp2, vp3, vp4, vp5, vp6, vp7, vp8, vp9, vp10, vp11, vp12, vp13, vp14]))]) [4, 6, 2] (by decide) rfl
      have hKc := hK.sub (tys' := []) [] rfl
      have hFc := va_free (wc := [(xM, .inr (2, [.ref xW, .ref xWy, .ref xNl, .int (-1), .int 0, vm5, vm6, vm7, vm8, vm9, vm10, vm11, vm12, vm13, vm14, vm15, vm16, vm17, .ref xBu])), (xW, .inr (7, [.ref xRo, .ref xPe, .ref xWh, .ref xTr, .ref xCo, .int 0, .ref xAl, .ref xNl, .ref xDr, .int 0, .ref xFa, .int 0, .int 0, .int 0])), (xPe, .inr (3, [.int 0, vp1, vp2, vp3, vp4, vp5, vp6, vp7, vp8, vp9, vp10, vp11, vp12, vp13, vp14]))]) hD hS hA [4, 6, 2] rfl
      refine va_calli (va_runV (As := []) (rest := []) ⟨hx, hb, hml, hown, hts⟩ (c_countOnTime l dC dI H.size (-1) 0 xM xW xWy xNl (vm5 : Value) (vm6 : Value) (vm7 : Value) (vm8 : Value) (vm9 : Value) (vm10 : Value) (vm11 : Value) (vm12 : Value) (vm13 : Value) (vm14 : Value) (vm15 : Value) (vm16 : Value) (vm17 : Value) xBu xRo xPe xWh xTr xCo xAl xDr xFa (vp1 : Value) (vp2 : Value) (vp3 : Value) (vp4 : Value) (vp5 : Value) (vp6 : Value) (vp7 : Value) (vp8 : Value) (vp9 : Value) (vp10 : Value) (vp11 : Value) (vp12 : Value) (vp13 : Value) (vp14 : Value)) (cwV 0 hts (gV kw_5_204 kw_5_206 kw_p_45 kw_1_12 kw_5_207) rfl rfl rfl (by decide +kernel) ⟨Nat.le_of_ble_eq_true rfl, Nat.le_of_ble_eq_true rfl⟩) ⟨fun a U g mk q => by obtain ⟨q0, q1, qP, qK, qD⟩ := q; exact ⟨q0, q1, qP, va_K.moved (u := U) (U := U.calling g mk a) (Vm.Alike.refl U.vm) qK, qD⟩, va_recv hKc hPc (ci := 2) (q0 := 0) rfl rfl, fun U hU hW => ⟨rfl, by rw [hU], by rw [hU]; exact hPc, va_K.moved hW.alike hKc, hDc.weaken (fun _ _ _ _ => trivial)⟩⟩ rfl rfl hl.1 rfl (lv_room (Nat.le_of_ble_eq_true rfl)) dX1_lead_100 ⟨Nat.le_of_ble_eq_true rfl, Nat.le_of_ble_eq_true rfl⟩) hS (fun q _ h => hFc q h) hFc (fun r_9 u t H1 locs ht hvm hw hB hz1 hk1 hS => ?_)
      obtain ⟨hP1, hK1, hD1⟩ := hB
      rw [ht] at hP1
      have hK1 := va_K.moved hvm.symm hK1
      obtain ⟨hP, hD⟩ := va_join (wr := [(xAl, .inr (0, [.int 0, .ref tD, .int 0])), (xBu, .inl (cBu, 840, .inl (fun _ => 0))), (xWh, .inr (10, [.int 0, vh1, vh2, vh3, vh4, vh5, vh6, vh7, vh8])), (xWy, .inr (9, [.ref xW, .int 0, vy2, vy3, vy4, vy5, vy6, vy7, vy8])), (xTr, .inr (8, [.int 0, vt1, vt2, vt3, vt4, vt5, vt6, vt7, vt8]))]) (w1 := [(xM, .inr (2, [.ref xW, .ref xWy, .ref xNl, .int (-1), .int 0, vm5, vm6, vm7, vm8, vm9, vm10, vm11, vm12, vm13, vm14, vm15, vm16, vm17, .ref xBu])), (xW, .inr (7, [.ref xRo, .ref xPe, .ref xWh, .ref xTr, .ref xCo, .int 0, .ref xAl, .ref xNl, .ref xDr, .int 0, .ref xFa, .int 0, .int 0, .int 0])), (xPe, .inr (3, [.int 0, vp1, vp2, vp3, vp4, vp5, vp6, vp7, vp8, vp9, vp10, vp11, vp12, vp13, vp14]))]) hP hD [4, 6, 2] [0, 1, 3, 5, 7] rfl rfl (by decide) (by decide) hk1 hFc hP1 hD1
      have hK := (hK.sub (tys' := [(cBu, .int)]) [0] rfl).app hK1
      generalize H1 = H at hP hS ⊢
      have hP : va_P (dC, dI) vwCl [(xAl, .inr (0, [.int 0, .ref tD, .int 0])), (xBu, .inl (cBu, 840, .inl (fun _ => 0))), (xWh, .inr (10, [.int 0, vh1, vh2, vh3, vh4, vh5, vh6, vh7, vh8])), (xWy, .inr (9, [.ref xW, .int 0, vy2, vy3, vy4, vy5, vy6, vy7, vy8])), (xTr, .inr (8, [.int 0, vt1, vt2, vt3, vt4, vt5, vt6, vt7, vt8])), (xM, .inr (2, [.ref xW, .ref xWy, .ref xNl, .int (-1), .int 0, vm5, vm6, vm7, vm8, vm9, vm10, vm11, vm12, vm13, vm14, vm15, vm16, vm17, .ref xBu])), (xW, .inr (7, [.ref xRo, .ref xPe, .ref xWh, .ref xTr, .ref xCo, .int 0, .ref xAl, .ref xNl, .ref xDr, .int 0, .ref xFa, .int 0, .int 0, .int 0])), (xPe, .inr (3, [.int 0, vp1, vp2, vp3, vp4, vp5, vp6, vp7, vp8, vp9, vp10, vp11, vp12, vp13, vp14]))] H := hP
      have hD : va_D A [(xAl, .inr (0, [.int 0, .ref tD, .int 0])), (xBu, .inl (cBu, 840, .inl (fun _ => 0))), (xWh, .inr (10, [.int 0, vh1, vh2, vh3, vh4, vh5, vh6, vh7, vh8])), (xWy, .inr (9, [.ref xW, .int 0, vy2, vy3, vy4, vy5, vy6, vy7, vy8])), (xTr, .inr (8, [.int 0, vt1, vt2, vt3, vt4, vt5, vt6, vt7, vt8])), (xM, .inr (2, [.ref xW, .ref xWy, .ref xNl, .int (-1), .int 0, vm5, vm6, vm7, vm8, vm9, vm10, vm11, vm12, vm13, vm14, vm15, vm16, vm17, .ref xBu])), (xW, .inr (7, [.ref xRo, .ref xPe, .ref xWh, .ref xTr, .ref xCo, .int 0, .ref xAl, .ref xNl, .ref xDr, .int 0, .ref xFa, .int 0, .int 0, .int 0])), (xPe, .inr (3, [.int 0, vp1, vp2, vp3, vp4, vp5, vp6, vp7, vp8, vp9, vp10, vp11, vp12, vp13, vp14]))] := hD
      have hK : va_K (dC, dI) vwCl [(cBu, .int)] s := hK
      subst hw
      have hP9 := hP.sub (ws' := [(xM, .inr (2, [.ref xW, .ref xWy, .ref xNl, .int (-1), .int 0, vm5, vm6, vm7, vm8, vm9, vm10, vm11, vm12, vm13, vm14, vm15, vm16, vm17, .ref xBu])), (xW, .inr (7, [.ref xRo, .ref xPe, .ref xWh, .ref xTr, .ref xCo, .int 0, .ref xAl, .ref xNl, .ref xDr, .int 0, .ref xFa, .int 0, .int 0, .int 0])), (xAl, .inr (0, [.int 0, .ref tD, .int 0])), (xBu, .inl (cBu, 840, .inl (fun _ => 0))), (xPe, .inr (3, [.int 0, vp1, vp2, vp3, vp4, vp5, vp6, vp7, vp8, vp9, vp10, vp11, vp12, vp13, vp14])), (xWh, .inr (10, [.int 0, vh1, vh2, vh3, vh4, vh5, vh6, vh7, vh8])), (xTr, .inr (8, [.int 0, vt1, vt2, vt3, vt4, vt5, vt6, vt7, vt8])), (xWy, .inr (9, [.ref xW, .int 0, vy2, vy3, vy4, vy5, vy6, vy7, vy8]))]) [5, 6, 0, 1, 7, 2, 4, 3] rfl
      have hD9 := hD.sub (ws' := [(xM, .inr (2, [.ref xW, .ref xWy, .ref xNl, .int (-1), .int 0, vm5, vm6, vm7, vm8, vm9, vm10, vm11, vm12, vm13, vm14, vm15, vm16, vm17, .ref xBu])), (xW, .inr (7, [.ref xRo, .ref xPe, .ref xWh, .ref xTr, .ref xCo, .int 0, .ref xAl, .ref xNl, .ref xDr, .int 0, .ref xFa, .int 0, .int 0, .int 0])), (xAl, .inr (0, [.int 0, .ref tD, .int 0])), (xBu, .inl (cBu, 840, .inl (fun _ => 0))), (xPe, .inr (3, [.int 0, vp1, vp2, vp3, vp4, vp5, vp6, vp7, vp8, vp9, vp10, vp11, vp12, vp13, vp14])), (xWh, .inr (10, [.int 0, vh1, vh2, vh3, vh4, vh5, vh6, vh7, vh8])), (xTr, .inr (8, [.int 0, vt1, vt2, vt3, vt4, vt5, vt6, vt7, vt8])), (xWy, .inr (9, [.ref xW, .int 0, vy2, vy3, vy4, vy5, vy6, vy7, vy8]))]) [5, 6, 0, 1, 7, 2, 4, 3] (by decide) rfl
      have hK9 := hK.sub (tys' := [(cBu, .int)]) [0] rfl
      refine W.widen (k := 0) (n := 0) (Nat.le_of_ble_eq_true rfl) (Nat.le_of_ble_eq_true rfl) ?_
      exact W.iret (v := 0) hx hb hr (fun t ht hW => ⟨⟨0, (), rfl, rfl, ⟨by rw [ht]; exact hP9, va_K.moved hW.alike hK9, hD9⟩⟩, hS.F ht⟩) hS.2.2 dX1_lead_103
    · skip
      refine lv_aload_n hx hb dX1_lead_64 rfl (lv_at hl 0 rfl) ?_
      refine va_get (D := (dC, dI)) (ci := 2) (v := .ref xBu) (C := RX1) (T := TX1) (N := 19) hx hb hts iCX1 hown hK hP 4 rfl rfl 18 (by decide) (hts (.fieldLink RX1 79 "WalkingTown$Morning" "busy" "[I") (List.mem_cons_of_mem _ kw_2_239)) (fun _ h9 => h9) rfl dX1_lead_65 ?_
      refine lv_iload_n hx hb dX1_lead_68 rfl (lv_at hl 2 rfl) ?_
      refine va_iald hx hb hK hP 1 0 rfl rfl (my_in hxi (my_lt hxi rfl hi c_8) (by decide)) dX1_lead_69 ?_
      refine my_ti (y := 0) rfl ?_
      refine lv_if_eq (tgt := 93) hx hb dX1_lead_70 (by decide) (fun c_12 => ?_) (fun c_12 => ?_)
      rotate_left
      · exact (c_12 (by decide)).elim
      obtain ⟨v_13, ev_13⟩ : ∃ z : Int32, z = x + 1 := ⟨_, rfl⟩
      refine lv_iinc (v := v_13) (lv' := [(2, .int v_13), (0, .ref xM), (1, .int (-1))]) hx hb dX1_lead_93 hl (k := 2) rfl (by rw [ev_13]; rfl) (by decide) rfl (fun ls hl => ?_)
      refine lv_goto (tgt := 57) hx hb dX1_lead_96 (by decide) ?_
      exact ih (i + 1) v_13 _ _ _ (by omega) (by have := my_lt hxi rfl hi c_8; omega) (by rw [ev_13, hxi]; exact nI_1 i) (hK.sub [0] rfl) (hP.sub [0, 1, 2, 3, 4, 5, 6, 7] rfl) (hD.sub [0, 1, 2, 3, 4, 5, 6, 7] (by decide) rfl) hS (lv_sub hl [1, 2, 0] rfl)
set_option maxHeartbeats 4000000 in
set_option maxRecDepth 100000 in
theorem c_lineFor (l : Launch) (dC : Nat → ClassId) (dI : Nat → Nat → Nat) (sz : Nat) (a : Int32) (xFa : Nat) (xNl : Nat) (xNk : Nat) (vn2 : Value) (vn3 : Value) (vn4 : Value) (vn5 : Value) (vn6 : Value) (cNk : ClassId) : Met l yX0_lineFor (.code yX0_lineFor cX0_lineFor 4 (some .int) :: lw_good) ({ frames := 2, cells := 0, slots := 0, locals := 60 }) (va_Pc [.ref xNl, .int a, .ref xFa] (fun U => U.heap.size = sz ∧ va_P (dC, dI) vwCl [(xNl, .inr (1, [.int 0, .ref xNk, vn2, vn3, vn4, vn5, vn6])), (xNk, .inl (cNk, 0, .inl (fun _ => 0)))] U.heap ∧ va_K (dC, dI) vwCl [(cNk, .int)] U ∧ va_D (fun _ => True) [(xNl, .inr (1, [.int 0, .ref xNk, vn2, vn3, vn4, vn5, vn6])), (xNk, .inl (cNk, 0, .inl (fun _ => 0)))])) (va_Qi (fun (r : Int32) (_ : Unit) => r = (-1)) (fun (_ : Unit) (t : State) => va_P (dC, dI) vwCl [(xNl, .inr (1, [.int 0, .ref xNk, vn2, vn3, vn4, vn5, vn6])), (xNk, .inl (cNk, 0, .inl (fun _ => 0)))] t.heap ∧ va_K (dC, dI) vwCl [(cNk, .int)] t ∧ va_D (va_A [(xNl, .inr (1, [.int 0, .ref xNk, vn2, vn3, vn4, vn5, vn6])), (xNk, .inl (cNk, 0, .inl (fun _ => 0)))] sz) [(xNl, .inr (1, [.int 0, .ref xNk, vn2, vn3, vn4, vn5, vn6])), (xNk, .inl (cNk, 0, .inl (fun _ => 0)))]) (va_A [(xNl, .inr (1, [.int 0, .ref xNk, vn2, vn3, vn4, vn5, vn6])), (xNk, .inl (cNk, 0, .inl (fun _ => 0)))] sz)) 0 0 (va_A [(xNl, .inr (1, [.int 0, .ref xNk, vn2, vn3, vn4, vn5, vn6])), (xNk, .inl (cNk, 0, .inl (fun _ => 0)))] sz) := by
  refine Met.ofW (cc := cX0_lineFor) (maxL := 4) (ret := (some .int)) (by decide) rfl ?_
  intro p e s m args below meth c s₁ B hml hv
  obtain ⟨rfl, hsz, hP, hK, hD0⟩ := hv
  have hx := B.exec
  have hb := B.bytes
  have hr := B.returns
  have hts := atoms_spec (ws := (.code yX0_lineFor cX0_lineFor 4 (some .int) :: lw_good)) B.pre
  have hown : s.vm.findClass RX0 = some m.cls := findClass_of_methodNamed B.named
  have hlocks := B.notSynchronized
  subst hsz
  have hD := hD0.self (sz := s.heap.size)
  generalize hAe : va_A [(xNl, .inr (1, [.int 0, .ref xNk, vn2, vn3, vn4, vn5, vn6])), (xNk, .inl (cNk, 0, .inl (fun _ => 0)))] s.heap.size = A at hD ⊢
  have hA : ∀ q : Nat, s.heap.size ≤ q → A q := fun q h => by rw [← hAe]; exact Or.inr h
  have hS : va_S A s.heap s.heap [] := va_S.rf
  have hP : va_P (dC, dI) vwCl [(xNl, .inr (1, [.int 0, .ref xNk, vn2, vn3, vn4, vn5, vn6])), (xNk, .inl (cNk, 0, .inl (fun _ => 0)))] s.heap := hP
  have hl := lv_entry ([.ref xNl, .int a, .ref xFa]) (n := 4) (Nat.le_of_ble_eq_true rfl)
  rw [lg_entry_eq]
  generalize (lg_sl ([.ref xNl, .int a, .ref xFa]) ++ List.replicate (4 - (lg_sl ([.ref xNl, .int a, .ref xFa])).length) Slot.unset).toArray = ls at hl ⊢
  have hl : lv_has ls 4 [(0, .ref xNl), (1, .int a), (2, .ref xFa)] := hl
  refine lv_iconst (v := 0) hx hb dX0_lineFor_0 (by decide) ?_
  refine lv_istore_n (lv' := [(3, .int 0), (0, .ref xNl), (1, .int a), (2, .ref xFa)]) hx hb dX0_lineFor_1 rfl hl (by decide) rfl (fun ls hl => ?_)
  refine lv_iload_n hx hb dX0_lineFor_2 rfl (lv_at hl 0 rfl) ?_
  refine lv_aload_n hx hb dX0_lineFor_3 rfl (lv_at hl 1 rfl) ?_
  refine va_get (D := (dC, dI)) (ci := 1) (v := .ref xNk) (C := RX0) (T := TX0) (N := 7) hx hb hts iCX0 hown hK hP 0 rfl rfl 1 (by decide) (hts (.fieldLink RX0 15 "WalkingTown$Law" "kinds" "[I") (List.mem_cons_of_mem _ kw_2_28)) (fun _ h9 => h9) rfl dX0_lineFor_4 ?_
  refine va_alen hx hb hK hP 1 0 rfl rfl (v := 0) rfl dX0_lineFor_7 ?_
  refine lv_icmp_ge (tgt := 38) hx hb dX0_lineFor_8 (by decide) (fun c_1 => ?_) (fun c_1 => ?_)
  rotate_left
  · exact (c_1 (by decide)).elim
  refine lv_iconst (v := (-1)) hx hb dX0_lineFor_38 (by decide) ?_
  have hP9 := hP.sub (ws' := [(xNl, .inr (1, [.int 0, .ref xNk, vn2, vn3, vn4, vn5, vn6])), (xNk, .inl (cNk, 0, .inl (fun _ => 0)))]) [0, 1] rfl
  have hD9 := hD.sub (ws' := [(xNl, .inr (1, [.int 0, .ref xNk, vn2, vn3, vn4, vn5, vn6])), (xNk, .inl (cNk, 0, .inl (fun _ => 0)))]) [0, 1] (by decide) rfl
  have hK9 := hK.sub (tys' := [(cNk, .int)]) [0] rfl
  refine W.widen (k := 0) (n := 0) (Nat.le_of_ble_eq_true rfl) (Nat.le_of_ble_eq_true rfl) ?_
  exact W.iret (v := (-1)) hx hb hr (fun t ht hW => ⟨⟨(-1), (), rfl, rfl, ⟨by rw [ht]; exact hP9, va_K.moved hW.alike hK9, hD9⟩⟩, hS.F ht⟩) hS.2.2 dX0_lineFor_39
set_option maxHeartbeats 4000000 in
set_option maxRecDepth 100000 in
theorem c_settle (l : Launch) (dC : Nat → ClassId) (dI : Nat → Nat → Nat) (sz : Nat) (xM : Nat) (xW : Nat) (xWy : Nat) (xNl : Nat) (vm5 : Value) (vm6 : Value) (vm7 : Value) (vm8 : Value) (vm9 : Value) (vm10 : Value) (vm11 : Value) (vm12 : Value) (vm13 : Value) (vm14 : Value) (vm15 : Value) (vm16 : Value) (vm17 : Value) (xBu : Nat) (xRo : Nat) (xPe : Nat) (xWh : Nat) (xTr : Nat) (xCo : Nat) (xAl : Nat) (xDr : Nat) (xFa : Nat) (xNk : Nat) (vn2 : Value) (vn3 : Value) (vn4 : Value) (vn5 : Value) (vn6 : Value) (cNk : ClassId) (vp1 : Value) (vp2 : Value) (vp3 : Value) (vp4 : Value) (vp5 : Value) (vp6 : Value) (vp7 : Value) (vp8 : Value) (vp9 : Value) (vp10 : Value) (vp11 : Value) (vp12 : Value) (vp13 : Value) (vp14 : Value) (vh1 : Value) (vh2 : Value) (vh3 : Value) (vh4 : Value) (vh5 : Value) (vh6 : Value) (vh7 : Value) (vh8 : Value) (vt1 : Value) (vt2 : Value) (vt3 : Value) (vt4 : Value) (vt5 : Value) (vt6 : Value) (vt7 : Value) (vt8 : Value) : Met l yX1_settle (.code yX1_settle cX1_settle 4 none :: lw_good) ({ frames := 4, cells := 0, slots := 0, locals := 150 }) (va_Pc [.ref xM] (fun U => U.heap.size = sz ∧ va_P (dC, dI) vwCl [(xM, .inr (2, [.ref xW, .ref xWy, .ref xNl, .int (-1), .int 0, vm5, vm6, vm7, vm8, vm9, vm10, vm11, vm12, vm13, vm14, vm15, vm16, vm17, .ref xBu])), (xW, .inr (7, [.ref xRo, .ref xPe, .ref xWh, .ref xTr, .ref xCo, .int 0, .ref xAl, .ref xNl, .ref xDr, .int 0, .ref xFa, .int 0, .int 0, .int 0])), (xNl, .inr (1, [.int 0, .ref xNk, vn2, vn3, vn4, vn5, vn6])), (xNk, .inl (cNk, 0, .inl (fun _ => 0))), (xPe, .inr (3, [.int 0, vp1, vp2, vp3, vp4, vp5, vp6, vp7, vp8, vp9, vp10, vp11, vp12, vp13, vp14])), (xWh, .inr (10, [.int 0, vh1, vh2, vh3, vh4, vh5, vh6, vh7, vh8])), (xTr, .inr (8, [.int 0, vt1, vt2, vt3, vt4, vt5, vt6, vt7, vt8]))] U.heap ∧ va_K (dC, dI) vwCl [(cNk, .int)] U ∧ va_D (fun _ => True) [(xM, .inr (2, [.ref xW, .ref xWy, .ref xNl, .int (-1), .int 0, vm5, vm6, vm7, vm8, vm9, vm10, vm11, vm12, vm13, vm14, vm15, vm16, vm17, .ref xBu])), (xW, .inr (7, [.ref xRo, .ref xPe, .ref xWh, .ref xTr, .ref xCo, .int 0, .ref xAl, .ref xNl, .ref xDr, .int 0, .ref xFa, .int 0, .int 0, .int 0])), (xNl, .inr (1, [.int 0, .ref xNk, vn2, vn3, vn4, vn5, vn6])), (xNk, .inl (cNk, 0, .inl (fun _ => 0))), (xPe, .inr (3, [.int 0, vp1, vp2, vp3, vp4, vp5, vp6, vp7, vp8, vp9, vp10, vp11, vp12, vp13, vp14])), (xWh, .inr (10, [.int 0, vh1, vh2, vh3, vh4, vh5, vh6, vh7, vh8])), (xTr, .inr (8, [.int 0, vt1, vt2, vt3, vt4, vt5, vt6, vt7, vt8]))])) (va_Qv (fun (_ : Unit) => True) (fun (_ : Unit) (_ : State) => True) (va_A [(xM, .inr (2, [.ref xW, .ref xWy, .ref xNl, .int (-1), .int 0, vm5, vm6, vm7, vm8, vm9, vm10, vm11, vm12, vm13, vm14, vm15, vm16, vm17, .ref xBu])), (xW, .inr (7, [.ref xRo, .ref xPe, .ref xWh, .ref xTr, .ref xCo, .int 0, .ref xAl, .ref xNl, .ref xDr, .int 0, .ref xFa, .int 0, .int 0, .int 0])), (xNl, .inr (1, [.int 0, .ref xNk, vn2, vn3, vn4, vn5, vn6])), (xNk, .inl (cNk, 0, .inl (fun _ => 0))), (xPe, .inr (3, [.int 0, vp1, vp2, vp3, vp4, vp5, vp6, vp7, vp8, vp9, vp10, vp11, vp12, vp13, vp14])), (xWh, .inr (10, [.int 0, vh1, vh2, vh3, vh4, vh5, vh6, vh7, vh8])), (xTr, .inr (8, [.int 0, vt1, vt2, vt3, vt4, vt5, vt6, vt7, vt8]))] sz)) 0 0 (va_A [(xM, .inr (2, [.ref xW, .ref xWy, .ref xNl, .int (-1), .int 0, vm5, vm6, vm7, vm8, vm9, vm10, vm11, vm12, vm13, vm14, vm15, vm16, vm17, .ref xBu])), (xW, .inr (7, [.ref xRo, .ref xPe, .ref xWh, .ref xTr, .ref xCo, .int 0, .ref xAl, .ref xNl, .ref xDr, .int 0, .ref xFa, .int 0, .int 0, .int 0])), (xNl, .inr (1, [.int 0, .ref xNk, vn2, vn3, vn4, vn5, vn6])), (xNk, .inl (cNk, 0, .inl (fun _ => 0))), (xPe, .inr (3, [.int 0, vp1, vp2, vp3, vp4, vp5, vp6, vp7, vp8, vp9, vp10, vp11, vp12, vp13, vp14])), (xWh, .inr (10, [.int 0, vh1, vh2, vh3, vh4, vh5, vh6, vh7, vh8])), (xTr, .inr (8, [.int 0, vt1, vt2, vt3, vt4, vt5, vt6, vt7, vt8]))] sz) := by
  refine Met.ofW (cc := cX1_settle) (maxL := 4) (ret := none) (by decide) rfl ?_
  intro p e s m args below meth c s₁ B hml hv
  obtain ⟨rfl, hsz, hP, hK, hD0⟩ := hv
  have hx := B.exec
  have hb := B.bytes
  have hr := B.returns
  have hts := atoms_spec (ws := (.code yX1_settle cX1_settle 4 none :: lw_good)) B.pre
  have hown : s.vm.findClass RX1 = some m.cls := findClass_of_methodNamed B.named
  have hlocks := B.notSynchronized
  subst hsz
  have hD := hD0.self (sz := s.heap.size)
  generalize hAe : va_A [(xM, .inr (2, [.ref xW, .ref xWy, .ref xNl, .int (-1), .int 0, vm5, vm6, vm7, vm8, vm9, vm10, vm11, vm12, vm13, vm14, vm15, vm16, vm17, .ref xBu])), (xW, .inr (7, [.ref xRo, .ref xPe, .ref xWh, .ref xTr, .ref xCo, .int 0, .ref xAl, .ref xNl, .ref xDr, .int 0, .ref xFa, .int 0, .int 0, .int 0])), (xNl, .inr (1, [.int 0, .ref xNk, vn2, vn3, vn4, vn5, vn6])), (xNk, .inl (cNk, 0, .inl (fun _ => 0))), (xPe, .inr (3, [.int 0, vp1, vp2, vp3, vp4, vp5, vp6, vp7, vp8, vp9, vp10, vp11, vp12, vp13, vp14])), (xWh, .inr (10, [.int 0, vh1, vh2, vh3, vh4, vh5, vh6, vh7, vh8])), (xTr, .inr (8, [.int 0, vt1, vt2, vt3, vt4, vt5, vt6, vt7, vt8]))] s.heap.size = A at hD ⊢
  have hA : ∀ q : Nat, s.heap.size ≤ q → A q := fun q h => by rw [← hAe]; exact Or.inr h
  have hS : va_S A s.heap s.heap [] := va_S.rf
  have hP : va_P (dC, dI) vwCl [(xM, .inr (2, [.ref xW, .ref xWy, .ref xNl, .int (-1), .int 0, vm5, vm6, vm7, vm8, vm9, vm10, vm11, vm12, vm13, vm14, vm15, vm16, vm17, .ref xBu])), (xW, .inr (7, [.ref xRo, .ref xPe, .ref xWh, .ref xTr, .ref xCo, .int 0, .ref xAl, .ref xNl, .ref xDr, .int 0, .ref xFa, .int 0, .int 0, .int 0])), (xNl, .inr (1, [.int 0, .ref xNk, vn2, vn3, vn4, vn5, vn6])), (xNk, .inl (cNk, 0, .inl (fun _ => 0))), (xPe, .inr (3, [.int 0, vp1, vp2, vp3, vp4, vp5, vp6, vp7, vp8, vp9, vp10, vp11, vp12, vp13, vp14])), (xWh, .inr (10, [.int 0, vh1, vh2, vh3, vh4, vh5, vh6, vh7, vh8])), (xTr, .inr (8, [.int 0, vt1, vt2, vt3, vt4, vt5, vt6, vt7, vt8]))] s.heap := hP
  have hl := lv_entry ([.ref xM]) (n := 4) (Nat.le_of_ble_eq_true rfl)
  rw [lg_entry_eq]
  generalize (lg_sl ([.ref xM]) ++ List.replicate (4 - (lg_sl ([.ref xM])).length) Slot.unset).toArray = ls at hl ⊢
  have hl : lv_has ls 4 [(0, .ref xM)] := hl
  refine lv_aload_n hx hb dX1_settle_0 rfl (lv_at hl 0 rfl) ?_
  refine va_get (D := (dC, dI)) (ci := 2) (v := .ref xW) (C := RX1) (T := TX1) (N := 19) hx hb hts iCX1 hown hK hP 0 rfl rfl 0 (by decide) (hts (.fieldLink RX1 9 "WalkingTown$Morning" "town" "LWalkingTown$Town;") (List.mem_cons_of_mem _ kw_2_221)) (fun _ h9 => h9) rfl dX1_settle_1 ?_
  refine lv_aload_n hx hb dX1_settle_4 rfl (lv_at hl 0 rfl) ?_
  refine va_get (D := (dC, dI)) (ci := 2) (v := .int 0) (C := RX1) (T := TX1) (N := 19) hx hb hts iCX1 hown hK hP 0 rfl rfl 4 (by decide) (hts (.fieldLink RX1 93 "WalkingTown$Morning" "fund" "I") (List.mem_cons_of_mem _ kw_2_225)) (fun _ h9 => h9) rfl dX1_settle_5 ?_
  refine va_put (D := (dC, dI)) (ci := 7) (v := .int 0) (ty := .int) (C := RX7) (T := TX7) (N := 14) hx hb hts iCX7 tyX7 tyX7_ok nmX7 hown hK hP hD hS 1 rfl rfl 13 (by decide) (hts (.fieldLink RX1 90 "WalkingTown$Town" "fund" "I") (List.mem_cons_of_mem _ kw_2_100)) (fun _ h9 => h9) rfl (by decide +kernel) rfl rfl (Nat.le_of_ble_eq_true rfl) dX1_settle_8 (fun H locs hP hD hS => ?_)
  have hP : va_P (dC, dI) vwCl [(xM, .inr (2, [.ref xW, .ref xWy, .ref xNl, .int (-1), .int 0, vm5, vm6, vm7, vm8, vm9, vm10, vm11, vm12, vm13, vm14, vm15, vm16, vm17, .ref xBu])), (xW, .inr (7, [.ref xRo, .ref xPe, .ref xWh, .ref xTr, .ref xCo, .int 0, .ref xAl, .ref xNl, .ref xDr, .int 0, .ref xFa, .int 0, .int 0, .int 0])), (xNl, .inr (1, [.int 0, .ref xNk, vn2, vn3, vn4, vn5, vn6])), (xNk, .inl (cNk, 0, .inl (fun _ => 0))), (xPe, .inr (3, [.int 0, vp1, vp2, vp3, vp4, vp5, vp6, vp7, vp8, vp9, vp10, vp11, vp12, vp13, vp14])), (xWh, .inr (10, [.int 0, vh1, vh2, vh3, vh4, vh5, vh6, vh7, vh8])), (xTr, .inr (8, [.int 0, vt1, vt2, vt3, vt4, vt5, vt6, vt7, vt8]))] H := hP
  have hD : va_D A [(xM, .inr (2, [.ref xW, .ref xWy, .ref xNl, .int (-1), .int 0, vm5, vm6, vm7, vm8, vm9, vm10, vm11, vm12, vm13, vm14, vm15, vm16, vm17, .ref xBu])), (xW, .inr (7, [.ref xRo, .ref xPe, .ref xWh, .ref xTr, .ref xCo, .int 0, .ref xAl, .ref xNl, .ref xDr, .int 0, .ref xFa, .int 0, .int 0, .int 0])), (xNl, .inr (1, [.int 0, .ref xNk, vn2, vn3, vn4, vn5, vn6])), (xNk, .inl (cNk, 0, .inl (fun _ => 0))), (xPe, .inr (3, [.int 0, vp1, vp2, vp3, vp4, vp5, vp6, vp7, vp8, vp9, vp10, vp11, vp12, vp13, vp14])), (xWh, .inr (10, [.int 0, vh1, vh2, vh3, vh4, vh5, vh6, vh7, vh8])), (xTr, .inr (8, [.int 0, vt1, vt2, vt3, vt4, vt5, vt6, vt7, vt8]))] := hD
  refine lv_aload_n hx hb dX1_settle_11 rfl (lv_at hl 0 rfl) ?_
  refine va_get (D := (dC, dI)) (ci := 2) (v := .ref xNl) (C := RX1) (T := TX1) (N := 19) hx hb hts iCX1 hown hK hP 0 rfl rfl 2 (by decide) (hts (.fieldLink RX1 30 "WalkingTown$Morning" "law" "LWalkingTown$Law;") (List.mem_cons_of_mem _ kw_2_223)) (fun _ h9 => h9) rfl dX1_settle_12 ?_
  refine lv_bipush (v := 6) hx hb dX1_settle_15 (by decide) ?_
  refine lv_aload_n hx hb dX1_settle_17 rfl (lv_at hl 0 rfl) ?_
  refine va_get (D := (dC, dI)) (ci := 2) (v := .ref xW) (C := RX1) (T := TX1) (N := 19) hx hb hts iCX1 hown hK hP 0 rfl rfl 0 (by decide) (hts (.fieldLink RX1 9 "WalkingTown$Morning" "town" "LWalkingTown$Town;") (List.mem_cons_of_mem _ kw_2_221)) (fun _ h9 => h9) rfl dX1_settle_18 ?_
  refine va_get (D := (dC, dI)) (ci := 7) (v := .ref xFa) (C := RX7) (T := TX7) (N := 14) hx hb hts iCX7 hown hK hP 1 rfl rfl 10 (by decide) (hts (.fieldLink RX1 281 "WalkingTown$Town" "facts" "[I") (List.mem_cons_of_mem _ kw_2_92)) (fun _ h9 => h9) rfl dX1_settle_21 ?_
  have hPc := hP.sub (ws' := [(xNl, .inr (1, [.int 0, .ref xNk, vn2, vn3, vn4, vn5, vn6])), (xNk, .inl (cNk, 0, .inl (fun _ => 0)))]) [2, 3] rfl
  have hDc := hD.sub (ws' := [(xNl, .inr (1, [.int 0, .ref xNk, vn2, vn3, vn4, vn5, vn6])), (xNk, .inl (cNk, 0, .inl (fun _ => 0)))]) [2, 3] (by decide) rfl
  have hKc := hK.sub (tys' := [(cNk, .int)]) [0] rfl
  have hFc := va_free (wc := [(xNl, .inr (1, [.int 0, .ref xNk, vn2, vn3, vn4, vn5, vn6])), (xNk, .inl (cNk, 0, .inl (fun _ => 0)))]) hD hS hA [2, 3] rfl
  refine va_calli (va_runV (As := [.int 6, .ref xFa]) (rest := []) ⟨hx, hb, hml, hown, hts⟩ (c_lineFor l dC dI H.size 6 xFa xNl xNk (vn2 : Value) (vn3 : Value) (vn4 : Value) (vn5 : Value) (vn6 : Value) cNk) (cwV 2 hts (gV kw_5_212 kw_5_28 kw_5_29 kw_1_10 kw_5_30) rfl rfl rfl (by decide +kernel) ⟨Nat.le_of_ble_eq_true rfl, Nat.le_of_ble_eq_true rfl⟩) ⟨fun a U g mk q => by obtain ⟨q0, q1, qP, qK, qD⟩ := q; exact ⟨q0, q1, qP, va_K.moved (u := U) (U := U.calling g mk a) (Vm.Alike.refl U.vm) qK, qD⟩, va_recv hKc hPc (ci := 1) (q0 := 0) rfl rfl, fun U hU hW => ⟨rfl, by rw [hU], by rw [hU]; exact hPc, va_K.moved hW.alike hKc, hDc.weaken (fun _ _ _ _ => trivial)⟩⟩ rfl rfl hl.1 rfl (lv_room (Nat.le_of_ble_eq_true rfl)) dX1_settle_24 ⟨Nat.le_of_ble_eq_true rfl, Nat.le_of_ble_eq_true rfl⟩) hS (fun q _ h => hFc q h) hFc (fun r_1 u t H1 locs ht hvm hw hB hz1 hk1 hS => ?_)
  obtain ⟨hP1, hK1, hD1⟩ := hB
  rw [ht] at hP1
  have hK1 := va_K.moved hvm.symm hK1
  obtain ⟨hP, hD⟩ := va_join (wr := [(xM, .inr (2, [.ref xW, .ref xWy, .ref xNl, .int (-1), .int 0, vm5, vm6, vm7, vm8, vm9, vm10, vm11, vm12, vm13, vm14, vm15, vm16, vm17, .ref xBu])), (xW, .inr (7, [.ref xRo, .ref xPe, .ref xWh, .ref xTr, .ref xCo, .int 0, .ref xAl, .ref xNl, .ref xDr, .int 0, .ref xFa, .int 0, .int 0, .int 0])), (xPe, .inr (3, [.int 0, vp1, vp2, vp3, vp4, vp5, vp6, vp7, vp8, vp9, vp10, vp11, vp12, vp13, vp14])), (xWh, .inr (10, [.int 0, vh1, vh2, vh3, vh4, vh5, vh6, vh7, vh8])), (xTr, .inr (8, [.int 0, vt1, vt2, vt3, vt4, vt5, vt6, vt7, vt8]))]) (w1 := [(xNl, .inr (1, [.int 0, .ref xNk, vn2, vn3, vn4, vn5, vn6])), (xNk, .inl (cNk, 0, .inl (fun _ => 0)))]) hP hD [2, 3] [0, 1, 4, 5, 6] rfl rfl (by decide) (by decide) hk1 hFc hP1 hD1
  have hK := (hK.sub (tys' := []) [] rfl).app hK1
  generalize H1 = H at hP hS ⊢
  have hP : va_P (dC, dI) vwCl [(xM, .inr (2, [.ref xW, .ref xWy, .ref xNl, .int (-1), .int 0, vm5, vm6, vm7, vm8, vm9, vm10, vm11, vm12, vm13, vm14, vm15, vm16, vm17, .ref xBu])), (xW, .inr (7, [.ref xRo, .ref xPe, .ref xWh, .ref xTr, .ref xCo, .int 0, .ref xAl, .ref xNl, .ref xDr, .int 0, .ref xFa, .int 0, .int 0, .int 0])), (xPe, .inr (3, [.int 0, vp1, vp2, vp3, vp4, vp5, vp6, vp7, vp8, vp9, vp10, vp11, vp12, vp13, vp14])), (xWh, .inr (10, [.int 0, vh1, vh2, vh3, vh4, vh5, vh6, vh7, vh8])), (xTr, .inr (8, [.int 0, vt1, vt2, vt3, vt4, vt5, vt6, vt7, vt8])), (xNl, .inr (1, [.int 0, .ref xNk, vn2, vn3, vn4, vn5, vn6])), (xNk, .inl (cNk, 0, .inl (fun _ => 0)))] H := hP
  have hD : va_D A [(xM, .inr (2, [.ref xW, .ref xWy, .ref xNl, .int (-1), .int 0, vm5, vm6, vm7, vm8, vm9, vm10, vm11, vm12, vm13, vm14, vm15, vm16, vm17, .ref xBu])), (xW, .inr (7, [.ref xRo, .ref xPe, .ref xWh, .ref xTr, .ref xCo, .int 0, .ref xAl, .ref xNl, .ref xDr, .int 0, .ref xFa, .int 0, .int 0, .int 0])), (xPe, .inr (3, [.int 0, vp1, vp2, vp3, vp4, vp5, vp6, vp7, vp8, vp9, vp10, vp11, vp12, vp13, vp14])), (xWh, .inr (10, [.int 0, vh1, vh2, vh3, vh4, vh5, vh6, vh7, vh8])), (xTr, .inr (8, [.int 0, vt1, vt2, vt3, vt4, vt5, vt6, vt7, vt8])), (xNl, .inr (1, [.int 0, .ref xNk, vn2, vn3, vn4, vn5, vn6])), (xNk, .inl (cNk, 0, .inl (fun _ => 0)))] := hD
  have hK : va_K (dC, dI) vwCl [(cNk, .int)] s := hK
  subst hw
  refine lv_istore_n (lv' := [(1, .int (-1)), (0, .ref xM)]) hx hb dX1_settle_27 rfl hl (by decide) rfl (fun ls hl => ?_)
  refine lv_iload_n hx hb dX1_settle_28 rfl (lv_at hl 0 rfl) ?_
  refine lv_iconst (v := (-1)) hx hb dX1_settle_29 (by decide) ?_
  refine lv_icmp_ne (tgt := 37) hx hb dX1_settle_30 (by decide) (fun c_3 => ?_) (fun c_3 => ?_)
  · exact (c_3 (by decide)).elim
  refine lv_iconst (v := 0) hx hb dX1_settle_33 (by decide) ?_
  refine lv_goto (tgt := 46) hx hb dX1_settle_34 (by decide) ?_
  refine lv_istore_n (lv' := [(2, .int 0), (1, .int (-1)), (0, .ref xM)]) hx hb dX1_settle_46 rfl hl (by decide) rfl (fun ls hl => ?_)
  refine lv_iconst (v := 0) hx hb dX1_settle_47 (by decide) ?_
  refine lv_istore_n (lv' := [(3, .int 0), (2, .int 0), (1, .int (-1)), (0, .ref xM)]) hx hb dX1_settle_48 rfl hl (by decide) rfl (fun ls hl => ?_)
  refine lv_iload_n hx hb dX1_settle_49 rfl (lv_at hl 0 rfl) ?_
  refine lv_aload_n hx hb dX1_settle_50 rfl (lv_at hl 3 rfl) ?_
  refine va_get (D := (dC, dI)) (ci := 2) (v := .ref xW) (C := RX1) (T := TX1) (N := 19) hx hb hts iCX1 hown hK hP 0 rfl rfl 0 (by decide) (hts (.fieldLink RX1 9 "WalkingTown$Morning" "town" "LWalkingTown$Town;") (List.mem_cons_of_mem _ kw_2_221)) (fun _ h9 => h9) rfl dX1_settle_51 ?_
  refine va_get (D := (dC, dI)) (ci := 7) (v := .ref xPe) (C := RX7) (T := TX7) (N := 14) hx hb hts iCX7 hown hK hP 1 rfl rfl 1 (by decide) (hts (.fieldLink RX1 129 "WalkingTown$Town" "people" "LWalkingTown$People;") (List.mem_cons_of_mem _ kw_2_63)) (fun _ h9 => h9) rfl dX1_settle_54 ?_
  refine va_get (D := (dC, dI)) (ci := 3) (v := .int 0) (C := RX2) (T := TX2) (N := 15) hx hb hts iCX2 hown hK hP 2 rfl rfl 0 (by decide) (hts (.fieldLink RX1 133 "WalkingTown$People" "size" "I") (List.mem_cons_of_mem _ kw_1_68)) (fun _ h9 => h9) rfl dX1_settle_57 ?_
  refine lv_icmp_ge (tgt := 75) hx hb dX1_settle_60 (by decide) (fun c_4 => ?_) (fun c_4 => ?_)
  rotate_left
  · exact (c_4 (by decide)).elim
  refine lv_iconst (v := 0) hx hb dX1_settle_75 (by decide) ?_
  refine lv_istore_n (lv' := [(3, .int 0), (2, .int 0), (1, .int (-1)), (0, .ref xM)]) hx hb dX1_settle_76 rfl hl (by decide) rfl (fun ls hl => ?_)
  refine lv_iload_n hx hb dX1_settle_77 rfl (lv_at hl 0 rfl) ?_
  refine lv_aload_n hx hb dX1_settle_78 rfl (lv_at hl 3 rfl) ?_
  refine va_get (D := (dC, dI)) (ci := 2) (v := .ref xW) (C := RX1) (T := TX1) (N := 19) hx hb hts iCX1 hown hK hP 0 rfl rfl 0 (by decide) (hts (.fieldLink RX1 9 "WalkingTown$Morning" "town" "LWalkingTown$Town;") (List.mem_cons_of_mem _ kw_2_221)) (fun _ h9 => h9) rfl dX1_settle_79 ?_
  refine va_get (D := (dC, dI)) (ci := 7) (v := .ref xWh) (C := RX7) (T := TX7) (N := 14) hx hb hts iCX7 hown hK hP 1 rfl rfl 2 (by decide) (hts (.fieldLink RX1 148 "WalkingTown$Town" "wheels" "LWalkingTown$Wheels;") (List.mem_cons_of_mem _ kw_2_69)) (fun _ h9 => h9) rfl dX1_settle_82 ?_
  refine va_get (D := (dC, dI)) (ci := 10) (v := .int 0) (C := RX10) (T := TX10) (N := 9) hx hb hts iCX10 hown hK hP 3 rfl rfl 0 (by decide) (hts (.fieldLink RX1 152 "WalkingTown$Wheels" "size" "I") (List.mem_cons_of_mem _ kw_1_141)) (fun _ h9 => h9) rfl dX1_settle_85 ?_
  refine lv_icmp_ge (tgt := 169) hx hb dX1_settle_88 (by decide) (fun c_5 => ?_) (fun c_5 => ?_)
  rotate_left
  · exact (c_5 (by decide)).elim
  refine lv_iconst (v := 0) hx hb dX1_settle_169 (by decide) ?_
  refine lv_istore_n (lv' := [(3, .int 0), (2, .int 0), (1, .int (-1)), (0, .ref xM)]) hx hb dX1_settle_170 rfl hl (by decide) rfl (fun ls hl => ?_)
  refine lv_iload_n hx hb dX1_settle_171 rfl (lv_at hl 0 rfl) ?_
  refine lv_aload_n hx hb dX1_settle_172 rfl (lv_at hl 3 rfl) ?_
  refine va_get (D := (dC, dI)) (ci := 2) (v := .ref xW) (C := RX1) (T := TX1) (N := 19) hx hb hts iCX1 hown hK hP 0 rfl rfl 0 (by decide) (hts (.fieldLink RX1 9 "WalkingTown$Morning" "town" "LWalkingTown$Town;") (List.mem_cons_of_mem _ kw_2_221)) (fun _ h9 => h9) rfl dX1_settle_173 ?_
  refine va_get (D := (dC, dI)) (ci := 7) (v := .ref xTr) (C := RX7) (T := TX7) (N := 14) hx hb hts iCX7 hown hK hP 1 rfl rfl 3 (by decide) (hts (.fieldLink RX1 157 "WalkingTown$Town" "trips" "LWalkingTown$Trips;") (List.mem_cons_of_mem _ kw_2_73)) (fun _ h9 => h9) rfl dX1_settle_176 ?_
  refine va_get (D := (dC, dI)) (ci := 8) (v := .int 0) (C := RX8) (T := TX8) (N := 9) hx hb hts iCX8 hown hK hP 4 rfl rfl 0 (by decide) (hts (.fieldLink RX1 161 "WalkingTown$Trips" "size" "I") (List.mem_cons_of_mem _ kw_1_190)) (fun _ h9 => h9) rfl dX1_settle_179 ?_
  refine lv_icmp_ge (tgt := 209) hx hb dX1_settle_182 (by decide) (fun c_6 => ?_) (fun c_6 => ?_)
  rotate_left
  · exact (c_6 (by decide)).elim
  refine W.widen (k := 0) (n := 0) (Nat.le_of_ble_eq_true rfl) (Nat.le_of_ble_eq_true rfl) ?_
  exact W.vret hx hb hr (fun t ht hW => ⟨⟨(), rfl, trivial, trivial⟩, hS.F ht⟩) hS.2.2 dX1_settle_209
set_option maxHeartbeats 4000000 in
set_option maxRecDepth 100000 in
theorem x_morning (l : Launch) (dC : Nat → ClassId) (dI : Nat → Nat → Nat) (sz : Nat) (xX : Nat) (xT : Nat) (xW : Nat) (xR : Nat) (xM : Nat) (xS : Nat) (xRo : Nat) (xPe : Nat) (xWh : Nat) (xTr : Nat) (xCo : Nat) (xAl : Nat) (xNl : Nat) (xDr : Nat) (xFa : Nat) (xWy : Nat) (vm5 : Value) (vm6 : Value) (vm7 : Value) (vm8 : Value) (vm9 : Value) (vm10 : Value) (vm11 : Value) (vm12 : Value) (vm13 : Value) (vm14 : Value) (vm15 : Value) (vm16 : Value) (vm17 : Value) (xBu : Nat) (tD : Nat) (cBu : ClassId) (vp1 : Value) (vp2 : Value) (vp3 : Value) (vp4 : Value) (vp5 : Value) (vp6 : Value) (vp7 : Value) (vp8 : Value) (vp9 : Value) (vp10 : Value) (vp11 : Value) (vp12 : Value) (vp13 : Value) (vp14 : Value) (vh1 : Value) (vh2 : Value) (vh3 : Value) (vh4 : Value) (vh5 : Value) (vh6 : Value) (vh7 : Value) (vh8 : Value) (vt1 : Value) (vt2 : Value) (vt3 : Value) (vt4 : Value) (vt5 : Value) (vt6 : Value) (vt7 : Value) (vt8 : Value) (vy2 : Value) (vy3 : Value) (vy4 : Value) (vy5 : Value) (vy6 : Value) (vy7 : Value) (vy8 : Value) (xNk : Nat) (vn2 : Value) (vn3 : Value) (vn4 : Value) (vn5 : Value) (vn6 : Value) (cNk : ClassId) : Met l yX11_morning (.code yX11_morning cX11_morning 2 (some .int) :: lw_good) ({ frames := 14, cells := 0, slots := 0, locals := 500 }) (va_Pc [.ref xX] (fun U => U.heap.size = sz ∧ va_P (dC, dI) vwCl [(xX, .inr (11, [.ref xT, .int 0, .ref xW, .ref xR, .ref xM, .ref xS, .int (-1), .int 0, .int (-1)])), (xW, .inr (7, [.ref xRo, .ref xPe, .ref xWh, .ref xTr, .ref xCo, .int 0, .ref xAl, .ref xNl, .ref xDr, .int 0, .ref xFa, .int 0, .int 0, .int 0])), (xM, .inr (2, [.ref xW, .ref xWy, .ref xNl, .int 0, .int 0, vm5, vm6, vm7, vm8, vm9, vm10, vm11, vm12, vm13, vm14, vm15, vm16, vm17, .ref xBu])), (xAl, .inr (0, [.int 0, .ref tD, .int 0])), (xBu, .inl (cBu, 840, .inl (fun _ => 0))), (xPe, .inr (3, [.int 0, vp1, vp2, vp3, vp4, vp5, vp6, vp7, vp8, vp9, vp10, vp11, vp12, vp13, vp14])), (xWh, .inr (10, [.int 0, vh1, vh2, vh3, vh4, vh5, vh6, vh7, vh8])), (xTr, .inr (8, [.int 0, vt1, vt2, vt3, vt4, vt5, vt6, vt7, vt8])), (xWy, .inr (9, [.ref xW, .int 0, vy2, vy3, vy4, vy5, vy6, vy7, vy8])), (xNl, .inr (1, [.int 0, .ref xNk, vn2, vn3, vn4, vn5, vn6])), (xNk, .inl (cNk, 0, .inl (fun _ => 0)))] U.heap ∧ va_K (dC, dI) vwCl [(cBu, .int), (cNk, .int)] U ∧ va_D (fun _ => True) [(xX, .inr (11, [.ref xT, .int 0, .ref xW, .ref xR, .ref xM, .ref xS, .int (-1), .int 0, .int (-1)])), (xW, .inr (7, [.ref xRo, .ref xPe, .ref xWh, .ref xTr, .ref xCo, .int 0, .ref xAl, .ref xNl, .ref xDr, .int 0, .ref xFa, .int 0, .int 0, .int 0])), (xM, .inr (2, [.ref xW, .ref xWy, .ref xNl, .int 0, .int 0, vm5, vm6, vm7, vm8, vm9, vm10, vm11, vm12, vm13, vm14, vm15, vm16, vm17, .ref xBu])), (xAl, .inr (0, [.int 0, .ref tD, .int 0])), (xBu, .inl (cBu, 840, .inl (fun _ => 0))), (xPe, .inr (3, [.int 0, vp1, vp2, vp3, vp4, vp5, vp6, vp7, vp8, vp9, vp10, vp11, vp12, vp13, vp14])), (xWh, .inr (10, [.int 0, vh1, vh2, vh3, vh4, vh5, vh6, vh7, vh8])), (xTr, .inr (8, [.int 0, vt1, vt2, vt3, vt4, vt5, vt6, vt7, vt8])), (xWy, .inr (9, [.ref xW, .int 0, vy2, vy3, vy4, vy5, vy6, vy7, vy8])), (xNl, .inr (1, [.int 0, .ref xNk, vn2, vn3, vn4, vn5, vn6])), (xNk, .inl (cNk, 0, .inl (fun _ => 0)))])) (va_Qi (fun (r : Int32) (_ : Unit) => r = 0) (fun (_ : Unit) (_ : State) => True) (va_A [(xX, .inr (11, [.ref xT, .int 0, .ref xW, .ref xR, .ref xM, .ref xS, .int (-1), .int 0, .int (-1)])), (xW, .inr (7, [.ref xRo, .ref xPe, .ref xWh, .ref xTr, .ref xCo, .int 0, .ref xAl, .ref xNl, .ref xDr, .int 0, .ref xFa, .int 0, .int 0, .int 0])), (xM, .inr (2, [.ref xW, .ref xWy, .ref xNl, .int 0, .int 0, vm5, vm6, vm7, vm8, vm9, vm10, vm11, vm12, vm13, vm14, vm15, vm16, vm17, .ref xBu])), (xAl, .inr (0, [.int 0, .ref tD, .int 0])), (xBu, .inl (cBu, 840, .inl (fun _ => 0))), (xPe, .inr (3, [.int 0, vp1, vp2, vp3, vp4, vp5, vp6, vp7, vp8, vp9, vp10, vp11, vp12, vp13, vp14])), (xWh, .inr (10, [.int 0, vh1, vh2, vh3, vh4, vh5, vh6, vh7, vh8])), (xTr, .inr (8, [.int 0, vt1, vt2, vt3, vt4, vt5, vt6, vt7, vt8])), (xWy, .inr (9, [.ref xW, .int 0, vy2, vy3, vy4, vy5, vy6, vy7, vy8])), (xNl, .inr (1, [.int 0, .ref xNk, vn2, vn3, vn4, vn5, vn6])), (xNk, .inl (cNk, 0, .inl (fun _ => 0)))] sz)) 0 0 (va_A [(xX, .inr (11, [.ref xT, .int 0, .ref xW, .ref xR, .ref xM, .ref xS, .int (-1), .int 0, .int (-1)])), (xW, .inr (7, [.ref xRo, .ref xPe, .ref xWh, .ref xTr, .ref xCo, .int 0, .ref xAl, .ref xNl, .ref xDr, .int 0, .ref xFa, .int 0, .int 0, .int 0])), (xM, .inr (2, [.ref xW, .ref xWy, .ref xNl, .int 0, .int 0, vm5, vm6, vm7, vm8, vm9, vm10, vm11, vm12, vm13, vm14, vm15, vm16, vm17, .ref xBu])), (xAl, .inr (0, [.int 0, .ref tD, .int 0])), (xBu, .inl (cBu, 840, .inl (fun _ => 0))), (xPe, .inr (3, [.int 0, vp1, vp2, vp3, vp4, vp5, vp6, vp7, vp8, vp9, vp10, vp11, vp12, vp13, vp14])), (xWh, .inr (10, [.int 0, vh1, vh2, vh3, vh4, vh5, vh6, vh7, vh8])), (xTr, .inr (8, [.int 0, vt1, vt2, vt3, vt4, vt5, vt6, vt7, vt8])), (xWy, .inr (9, [.ref xW, .int 0, vy2, vy3, vy4, vy5, vy6, vy7, vy8])), (xNl, .inr (1, [.int 0, .ref xNk, vn2, vn3, vn4, vn5, vn6])), (xNk, .inl (cNk, 0, .inl (fun _ => 0)))] sz) := by
  refine Met.ofW (cc := cX11_morning) (maxL := 2) (ret := (some .int)) (by decide) rfl ?_
  intro p e s m args below meth c s₁ B hml hv
  obtain ⟨rfl, hsz, hP, hK, hD0⟩ := hv
  have hx := B.exec
  have hb := B.bytes
  have hr := B.returns
  have hts := atoms_spec (ws := (.code yX11_morning cX11_morning 2 (some .int) :: lw_good)) B.pre
  have hown : s.vm.findClass RX11 = some m.cls := findClass_of_methodNamed B.named
  have hlocks := B.notSynchronized
  subst hsz
  have hD := hD0.self (sz := s.heap.size)
  generalize hAe : va_A [(xX, .inr (11, [.ref xT, .int 0, .ref xW, .ref xR, .ref xM, .ref xS, .int (-1), .int 0, .int (-1)])), (xW, .inr (7, [.ref xRo, .ref xPe, .ref xWh, .ref xTr, .ref xCo, .int 0, .ref xAl, .ref xNl, .ref xDr, .int 0, .ref xFa, .int 0, .int 0, .int 0])), (xM, .inr (2, [.ref xW, .ref xWy, .ref xNl, .int 0, .int 0, vm5, vm6, vm7, vm8, vm9, vm10, vm11, vm12, vm13, vm14, vm15, vm16, vm17, .ref xBu])), (xAl, .inr (0, [.int 0, .ref tD, .int 0])), (xBu, .inl (cBu, 840, .inl (fun _ => 0))), (xPe, .inr (3, [.int 0, vp1, vp2, vp3, vp4, vp5, vp6, vp7, vp8, vp9, vp10, vp11, vp12, vp13, vp14])), (xWh, .inr (10, [.int 0, vh1, vh2, vh3, vh4, vh5, vh6, vh7, vh8])), (xTr, .inr (8, [.int 0, vt1, vt2, vt3, vt4, vt5, vt6, vt7, vt8])), (xWy, .inr (9, [.ref xW, .int 0, vy2, vy3, vy4, vy5, vy6, vy7, vy8])), (xNl, .inr (1, [.int 0, .ref xNk, vn2, vn3, vn4, vn5, vn6])), (xNk, .inl (cNk, 0, .inl (fun _ => 0)))] s.heap.size = A at hD ⊢
  have hA : ∀ q : Nat, s.heap.size ≤ q → A q := fun q h => by rw [← hAe]; exact Or.inr h
  have hS : va_S A s.heap s.heap [] := va_S.rf
  have hP : va_P (dC, dI) vwCl [(xX, .inr (11, [.ref xT, .int 0, .ref xW, .ref xR, .ref xM, .ref xS, .int (-1), .int 0, .int (-1)])), (xW, .inr (7, [.ref xRo, .ref xPe, .ref xWh, .ref xTr, .ref xCo, .int 0, .ref xAl, .ref xNl, .ref xDr, .int 0, .ref xFa, .int 0, .int 0, .int 0])), (xM, .inr (2, [.ref xW, .ref xWy, .ref xNl, .int 0, .int 0, vm5, vm6, vm7, vm8, vm9, vm10, vm11, vm12, vm13, vm14, vm15, vm16, vm17, .ref xBu])), (xAl, .inr (0, [.int 0, .ref tD, .int 0])), (xBu, .inl (cBu, 840, .inl (fun _ => 0))), (xPe, .inr (3, [.int 0, vp1, vp2, vp3, vp4, vp5, vp6, vp7, vp8, vp9, vp10, vp11, vp12, vp13, vp14])), (xWh, .inr (10, [.int 0, vh1, vh2, vh3, vh4, vh5, vh6, vh7, vh8])), (xTr, .inr (8, [.int 0, vt1, vt2, vt3, vt4, vt5, vt6, vt7, vt8])), (xWy, .inr (9, [.ref xW, .int 0, vy2, vy3, vy4, vy5, vy6, vy7, vy8])), (xNl, .inr (1, [.int 0, .ref xNk, vn2, vn3, vn4, vn5, vn6])), (xNk, .inl (cNk, 0, .inl (fun _ => 0)))] s.heap := hP
  have hl := lv_entry ([.ref xX]) (n := 2) (Nat.le_of_ble_eq_true rfl)
  rw [lg_entry_eq]
  generalize (lg_sl ([.ref xX]) ++ List.replicate (2 - (lg_sl ([.ref xX])).length) Slot.unset).toArray = ls at hl ⊢
  have hl : lv_has ls 2 [(0, .ref xX)] := hl
  refine lv_aload_n hx hb dX11_morning_0 rfl (lv_at hl 0 rfl) ?_
  refine va_get (D := (dC, dI)) (ci := 11) (v := .int (-1)) (C := RX11) (T := TX11) (N := 9) hx hb hts iCX11 hown hK hP 0 rfl rfl 8 (by decide) (hts (.fieldLink RX11 47 "WalkingTown" "ledDay" "I") (List.mem_cons_of_mem _ kw_3_99)) (fun _ h9 => h9) rfl dX11_morning_1 ?_
  refine lv_aload_n hx hb dX11_morning_4 rfl (lv_at hl 0 rfl) ?_
  refine va_get (D := (dC, dI)) (ci := 11) (v := .ref xW) (C := RX11) (T := TX11) (N := 9) hx hb hts iCX11 hown hK hP 0 rfl rfl 2 (by decide) (hts (.fieldLink RX11 16 "WalkingTown" "town" "LWalkingTown$Town;") (List.mem_cons_of_mem _ kw_3_93)) (fun _ h9 => h9) rfl dX11_morning_5 ?_
  refine va_get (D := (dC, dI)) (ci := 7) (v := .int 0) (C := RX7) (T := TX7) (N := 14) hx hb hts iCX7 hown hK hP 1 rfl rfl 12 (by decide) (hts (.fieldLink RX11 57 "WalkingTown$Town" "today" "I") (List.mem_cons_of_mem _ kw_2_97)) (fun _ h9 => h9) rfl dX11_morning_8 ?_
  refine lv_icmp_ne (tgt := 16) hx hb dX11_morning_11 (by decide) (fun c_1 => ?_) (fun c_1 => ?_)
  rotate_left
  · exact absurd c_1 (by decide)
  refine lv_aload_n hx hb dX11_morning_16 rfl (lv_at hl 0 rfl) ?_
  refine lv_aload_n hx hb dX11_morning_17 rfl (lv_at hl 0 rfl) ?_
  refine va_get (D := (dC, dI)) (ci := 11) (v := .ref xW) (C := RX11) (T := TX11) (N := 9) hx hb hts iCX11 hown hK hP 0 rfl rfl 2 (by decide) (hts (.fieldLink RX11 16 "WalkingTown" "town" "LWalkingTown$Town;") (List.mem_cons_of_mem _ kw_3_93)) (fun _ h9 => h9) rfl dX11_morning_18 ?_
  refine va_get (D := (dC, dI)) (ci := 7) (v := .int 0) (C := RX7) (T := TX7) (N := 14) hx hb hts iCX7 hown hK hP 1 rfl rfl 12 (by decide) (hts (.fieldLink RX11 57 "WalkingTown$Town" "today" "I") (List.mem_cons_of_mem _ kw_2_97)) (fun _ h9 => h9) rfl dX11_morning_21 ?_
  refine va_put (D := (dC, dI)) (ci := 11) (v := .int 0) (ty := .int) (C := RX11) (T := TX11) (N := 9) hx hb hts iCX11 tyX11 tyX11_ok nmX11 hown hK hP hD hS 0 rfl rfl 8 (by decide) (hts (.fieldLink RX11 47 "WalkingTown" "ledDay" "I") (List.mem_cons_of_mem _ kw_3_99)) (fun _ h9 => h9) rfl (by decide +kernel) rfl rfl (Nat.le_of_ble_eq_true rfl) dX11_morning_24 (fun H locs hP hD hS => ?_)
  have hP : va_P (dC, dI) vwCl [(xX, .inr (11, [.ref xT, .int 0, .ref xW, .ref xR, .ref xM, .ref xS, .int (-1), .int 0, .int 0])), (xW, .inr (7, [.ref xRo, .ref xPe, .ref xWh, .ref xTr, .ref xCo, .int 0, .ref xAl, .ref xNl, .ref xDr, .int 0, .ref xFa, .int 0, .int 0, .int 0])), (xM, .inr (2, [.ref xW, .ref xWy, .ref xNl, .int 0, .int 0, vm5, vm6, vm7, vm8, vm9, vm10, vm11, vm12, vm13, vm14, vm15, vm16, vm17, .ref xBu])), (xAl, .inr (0, [.int 0, .ref tD, .int 0])), (xBu, .inl (cBu, 840, .inl (fun _ => 0))), (xPe, .inr (3, [.int 0, vp1, vp2, vp3, vp4, vp5, vp6, vp7, vp8, vp9, vp10, vp11, vp12, vp13, vp14])), (xWh, .inr (10, [.int 0, vh1, vh2, vh3, vh4, vh5, vh6, vh7, vh8])), (xTr, .inr (8, [.int 0, vt1, vt2, vt3, vt4, vt5, vt6, vt7, vt8])), (xWy, .inr (9, [.ref xW, .int 0, vy2, vy3, vy4, vy5, vy6, vy7, vy8])), (xNl, .inr (1, [.int 0, .ref xNk, vn2, vn3, vn4, vn5, vn6])), (xNk, .inl (cNk, 0, .inl (fun _ => 0)))] H := hP
  have hD : va_D A [(xX, .inr (11, [.ref xT, .int 0, .ref xW, .ref xR, .ref xM, .ref xS, .int (-1), .int 0, .int 0])), (xW, .inr (7, [.ref xRo, .ref xPe, .ref xWh, .ref xTr, .ref xCo, .int 0, .ref xAl, .ref xNl, .ref xDr, .int 0, .ref xFa, .int 0, .int 0, .int 0])), (xM, .inr (2, [.ref xW, .ref xWy, .ref xNl, .int 0, .int 0, vm5, vm6, vm7, vm8, vm9, vm10, vm11, vm12, vm13, vm14, vm15, vm16, vm17, .ref xBu])), (xAl, .inr (0, [.int 0, .ref tD, .int 0])), (xBu, .inl (cBu, 840, .inl (fun _ => 0))), (xPe, .inr (3, [.int 0, vp1, vp2, vp3, vp4, vp5, vp6, vp7, vp8, vp9, vp10, vp11, vp12, vp13, vp14])), (xWh, .inr (10, [.int 0, vh1, vh2, vh3, vh4, vh5, vh6, vh7, vh8])), (xTr, .inr (8, [.int 0, vt1, vt2, vt3, vt4, vt5, vt6, vt7, vt8])), (xWy, .inr (9, [.ref xW, .int 0, vy2, vy3, vy4, vy5, vy6, vy7, vy8])), (xNl, .inr (1, [.int 0, .ref xNk, vn2, vn3, vn4, vn5, vn6])), (xNk, .inl (cNk, 0, .inl (fun _ => 0)))] := hD
  refine lv_aload_n hx hb dX11_morning_27 rfl (lv_at hl 0 rfl) ?_
  refine va_get (D := (dC, dI)) (ci := 11) (v := .ref xM) (C := RX11) (T := TX11) (N := 9) hx hb hts iCX11 hown hK hP 0 rfl rfl 4 (by decide) (hts (.fieldLink RX11 32 "WalkingTown" "led" "LWalkingTown$Morning;") (List.mem_cons_of_mem _ kw_3_95)) (fun _ h9 => h9) rfl dX11_morning_28 ?_
  refine lv_iconst (v := (-1)) hx hb dX11_morning_31 (by decide) ?_
  have hPc := hP.sub (ws' := [(xM, .inr (2, [.ref xW, .ref xWy, .ref xNl, .int 0, .int 0, vm5, vm6, vm7, vm8, vm9, vm10, vm11, vm12, vm13, vm14, vm15, vm16, vm17, .ref xBu])), (xW, .inr (7, [.ref xRo, .ref xPe, .ref xWh, .ref xTr, .ref xCo, .int 0, .ref xAl, .ref xNl, .ref xDr, .int 0, .ref xFa, .int 0, .int 0, .int 0])), (xAl, .inr (0, [.int 0, .ref tD, .int 0])), (xBu, .inl (cBu, 840, .inl (fun _ => 0))), (xPe, .inr (3, [.int 0, vp1, vp2, vp3, vp4, vp5, vp6, vp7, vp8, vp9, vp10, vp11, vp12, vp13, vp14])), (xWh, .inr (10, [.int 0, vh1, vh2, vh3, vh4, vh5, vh6, vh7, vh8])), (xTr, .inr (8, [.int 0, vt1, vt2, vt3, vt4, vt5, vt6, vt7, vt8])), (xWy, .inr (9, [.ref xW, .int 0, vy2, vy3, vy4, vy5, vy6, vy7, vy8]))]) [2, 1, 3, 4, 5, 6, 7, 8] rfl
  have hDc := hD.sub (ws' := [(xM, .inr (2, [.ref xW, .ref xWy, .ref xNl, .int 0, .int 0, vm5, vm6, vm7, vm8, vm9, vm10, vm11, vm12, vm13, vm14, vm15, vm16, vm17, .ref xBu])), (xW, .inr (7, [.ref xRo, .ref xPe, .ref xWh, .ref xTr, .ref xCo, .int 0, .ref xAl, .ref xNl, .ref xDr, .int 0, .ref xFa, .int 0, .int 0, .int 0])), (xAl, .inr (0, [.int 0, .ref tD, .int 0])), (xBu, .inl (cBu, 840, .inl (fun _ => 0))), (xPe, .inr (3, [.int 0, vp1, vp2, vp3, vp4, vp5, vp6, vp7, vp8, vp9, vp10, vp11, vp12, vp13, vp14])), (xWh, .inr (10, [.int 0, vh1, vh2, vh3, vh4, vh5, vh6, vh7, vh8])), (xTr, .inr (8, [.int 0, vt1, vt2, vt3, vt4, vt5, vt6, vt7, vt8])), (xWy, .inr (9, [.ref xW, .int 0, vy2, vy3, vy4, vy5, vy6, vy7, vy8]))]) [2, 1, 3, 4, 5, 6, 7, 8] (by decide) rfl
  have hKc := hK.sub (tys' := [(cBu, .int)]) [0] rfl
  have hFc := va_free (wc := [(xM, .inr (2, [.ref xW, .ref xWy, .ref xNl, .int 0, .int 0, vm5, vm6, vm7, vm8, vm9, vm10, vm11, vm12, vm13, vm14, vm15, vm16, vm17, .ref xBu])), (xW, .inr (7, [.ref xRo, .ref xPe, .ref xWh, .ref xTr, .ref xCo, .int 0, .ref xAl, .ref xNl, .ref xDr, .int 0, .ref xFa, .int 0, .int 0, .int 0])), (xAl, .inr (0, [.int 0, .ref tD, .int 0])), (xBu, .inl (cBu, 840, .inl (fun _ => 0))), (xPe, .inr (3, [.int 0, vp1, vp2, vp3, vp4, vp5, vp6, vp7, vp8, vp9, vp10, vp11, vp12, vp13, vp14])), (xWh, .inr (10, [.int 0, vh1, vh2, vh3, vh4, vh5, vh6, vh7, vh8])), (xTr, .inr (8, [.int 0, vt1, vt2, vt3, vt4, vt5, vt6, vt7, vt8])), (xWy, .inr (9, [.ref xW, .int 0, vy2, vy3, vy4, vy5, vy6, vy7, vy8]))]) hD hS hA [2, 1, 3, 4, 5, 6, 7, 8] rfl
  refine va_calli (va_runV (As := [.int (-1)]) (rest := []) ⟨hx, hb, hml, hown, hts⟩ (c_lead l dC dI H.size xM xW xWy xNl (vm5 : Value) (vm6 : Value) (vm7 : Value) (vm8 : Value) (vm9 : Value) (vm10 : Value) (vm11 : Value) (vm12 : Value) (vm13 : Value) (vm14 : Value) (vm15 : Value) (vm16 : Value) (vm17 : Value) xBu xRo xPe xWh xTr xCo xAl xDr xFa tD cBu (vp1 : Value) (vp2 : Value) (vp3 : Value) (vp4 : Value) (vp5 : Value) (vp6 : Value) (vp7 : Value) (vp8 : Value) (vp9 : Value) (vp10 : Value) (vp11 : Value) (vp12 : Value) (vp13 : Value) (vp14 : Value) (vh1 : Value) (vh2 : Value) (vh3 : Value) (vh4 : Value) (vh5 : Value) (vh6 : Value) (vh7 : Value) (vh8 : Value) (vt1 : Value) (vt2 : Value) (vt3 : Value) (vt4 : Value) (vt5 : Value) (vt6 : Value) (vt7 : Value) (vt8 : Value) (vy2 : Value) (vy3 : Value) (vy4 : Value) (vy5 : Value) (vy6 : Value) (vy7 : Value) (vy8 : Value)) (cwV 1 hts (gV kw_5_46 kw_5_47 kw_5_48 kw_1_12 kw_5_49) rfl rfl rfl (by decide +kernel) ⟨Nat.le_of_ble_eq_true rfl, Nat.le_of_ble_eq_true rfl⟩) ⟨fun a U g mk q => by obtain ⟨q0, q1, qP, qK, qD⟩ := q; exact ⟨q0, q1, qP, va_K.moved (u := U) (U := U.calling g mk a) (Vm.Alike.refl U.vm) qK, qD⟩, va_recv hKc hPc (ci := 2) (q0 := 0) rfl rfl, fun U hU hW => ⟨rfl, by rw [hU], by rw [hU]; exact hPc, va_K.moved hW.alike hKc, hDc.weaken (fun _ _ _ _ => trivial)⟩⟩ rfl rfl hl.1 rfl (lv_room (Nat.le_of_ble_eq_true rfl)) dX11_morning_32 ⟨Nat.le_of_ble_eq_true rfl, Nat.le_of_ble_eq_true rfl⟩) hS (fun q _ h => hFc q h) hFc (fun r_2 u t H1 locs ht hvm hw hB hz1 hk1 hS => ?_)
  obtain ⟨hP1, hK1, hD1⟩ := hB
  rw [ht] at hP1
  have hK1 := va_K.moved hvm.symm hK1
  obtain ⟨hP, hD⟩ := va_join (wr := [(xX, .inr (11, [.ref xT, .int 0, .ref xW, .ref xR, .ref xM, .ref xS, .int (-1), .int 0, .int 0])), (xNl, .inr (1, [.int 0, .ref xNk, vn2, vn3, vn4, vn5, vn6])), (xNk, .inl (cNk, 0, .inl (fun _ => 0)))]) (w1 := [(xM, .inr (2, [.ref xW, .ref xWy, .ref xNl, .int (-1), .int 0, vm5, vm6, vm7, vm8, vm9, vm10, vm11, vm12, vm13, vm14, vm15, vm16, vm17, .ref xBu])), (xW, .inr (7, [.ref xRo, .ref xPe, .ref xWh, .ref xTr, .ref xCo, .int 0, .ref xAl, .ref xNl, .ref xDr, .int 0, .ref xFa, .int 0, .int 0, .int 0])), (xAl, .inr (0, [.int 0, .ref tD, .int 0])), (xBu, .inl (cBu, 840, .inl (fun _ => 0))), (xPe, .inr (3, [.int 0, vp1, vp2, vp3, vp4, vp5, vp6, vp7, vp8, vp9, vp10, vp11, vp12, vp13, vp14])), (xWh, .inr (10, [.int 0, vh1, vh2, vh3, vh4, vh5, vh6, vh7, vh8])), (xTr, .inr (8, [.int 0, vt1, vt2, vt3, vt4, vt5, vt6, vt7, vt8])), (xWy, .inr (9, [.ref xW, .int 0, vy2, vy3, vy4, vy5, vy6, vy7, vy8]))]) hP hD [2, 1, 3, 4, 5, 6, 7, 8] [0, 9, 10] rfl rfl (by decide) (by decide) hk1 hFc hP1 hD1
  have hK := (hK.sub (tys' := [(cNk, .int)]) [1] rfl).app hK1
  generalize H1 = H at hP hS ⊢
  have hP : va_P (dC, dI) vwCl [(xX, .inr (11, [.ref xT, .int 0, .ref xW, .ref xR, .ref xM, .ref xS, .int (-1), .int 0, .int 0])), (xNl, .inr (1, [.int 0, .ref xNk, vn2, vn3, vn4, vn5, vn6])), (xNk, .inl (cNk, 0, .inl (fun _ => 0))), (xM, .inr (2, [.ref xW, .ref xWy, .ref xNl, .int (-1), .int 0, vm5, vm6, vm7, vm8, vm9, vm10, vm11, vm12, vm13, vm14, vm15, vm16, vm17, .ref xBu])), (xW, .inr (7, [.ref xRo, .ref xPe, .ref xWh, .ref xTr, .ref xCo, .int 0, .ref xAl, .ref xNl, .ref xDr, .int 0, .ref xFa, .int 0, .int 0, .int 0])), (xAl, .inr (0, [.int 0, .ref tD, .int 0])), (xBu, .inl (cBu, 840, .inl (fun _ => 0))), (xPe, .inr (3, [.int 0, vp1, vp2, vp3, vp4, vp5, vp6, vp7, vp8, vp9, vp10, vp11, vp12, vp13, vp14])), (xWh, .inr (10, [.int 0, vh1, vh2, vh3, vh4, vh5, vh6, vh7, vh8])), (xTr, .inr (8, [.int 0, vt1, vt2, vt3, vt4, vt5, vt6, vt7, vt8])), (xWy, .inr (9, [.ref xW, .int 0, vy2, vy3, vy4, vy5, vy6, vy7, vy8]))] H := hP
  have hD : va_D A [(xX, .inr (11, [.ref xT, .int 0, .ref xW, .ref xR, .ref xM, .ref xS, .int (-1), .int 0, .int 0])), (xNl, .inr (1, [.int 0, .ref xNk, vn2, vn3, vn4, vn5, vn6])), (xNk, .inl (cNk, 0, .inl (fun _ => 0))), (xM, .inr (2, [.ref xW, .ref xWy, .ref xNl, .int (-1), .int 0, vm5, vm6, vm7, vm8, vm9, vm10, vm11, vm12, vm13, vm14, vm15, vm16, vm17, .ref xBu])), (xW, .inr (7, [.ref xRo, .ref xPe, .ref xWh, .ref xTr, .ref xCo, .int 0, .ref xAl, .ref xNl, .ref xDr, .int 0, .ref xFa, .int 0, .int 0, .int 0])), (xAl, .inr (0, [.int 0, .ref tD, .int 0])), (xBu, .inl (cBu, 840, .inl (fun _ => 0))), (xPe, .inr (3, [.int 0, vp1, vp2, vp3, vp4, vp5, vp6, vp7, vp8, vp9, vp10, vp11, vp12, vp13, vp14])), (xWh, .inr (10, [.int 0, vh1, vh2, vh3, vh4, vh5, vh6, vh7, vh8])), (xTr, .inr (8, [.int 0, vt1, vt2, vt3, vt4, vt5, vt6, vt7, vt8])), (xWy, .inr (9, [.ref xW, .int 0, vy2, vy3, vy4, vy5, vy6, vy7, vy8]))] := hD
  have hK : va_K (dC, dI) vwCl [(cNk, .int), (cBu, .int)] s := hK
  subst hw
  refine lv_istore_n (lv' := [(1, .int 0), (0, .ref xX)]) hx hb dX11_morning_35 rfl hl (by decide) rfl (fun ls hl => ?_)
  refine lv_aload_n hx hb dX11_morning_36 rfl (lv_at hl 1 rfl) ?_
  refine va_get (D := (dC, dI)) (ci := 11) (v := .ref xM) (C := RX11) (T := TX11) (N := 9) hx hb hts iCX11 hown hK hP 0 rfl rfl 4 (by decide) (hts (.fieldLink RX11 32 "WalkingTown" "led" "LWalkingTown$Morning;") (List.mem_cons_of_mem _ kw_3_95)) (fun _ h9 => h9) rfl dX11_morning_37 ?_
  have hPc := hP.sub (ws' := [(xM, .inr (2, [.ref xW, .ref xWy, .ref xNl, .int (-1), .int 0, vm5, vm6, vm7, vm8, vm9, vm10, vm11, vm12, vm13, vm14, vm15, vm16, vm17, .ref xBu])), (xW, .inr (7, [.ref xRo, .ref xPe, .ref xWh, .ref xTr, .ref xCo, .int 0, .ref xAl, .ref xNl, .ref xDr, .int 0, .ref xFa, .int 0, .int 0, .int 0])), (xNl, .inr (1, [.int 0, .ref xNk, vn2, vn3, vn4, vn5, vn6])), (xNk, .inl (cNk, 0, .inl (fun _ => 0))), (xPe, .inr (3, [.int 0, vp1, vp2, vp3, vp4, vp5, vp6, vp7, vp8, vp9, vp10, vp11, vp12, vp13, vp14])), (xWh, .inr (10, [.int 0, vh1, vh2, vh3, vh4, vh5, vh6, vh7, vh8])), (xTr, .inr (8, [.int 0, vt1, vt2, vt3, vt4, vt5, vt6, vt7, vt8]))]) [3, 4, 1, 2, 7, 8, 9] rfl
  have hDc := hD.sub (ws' := [(xM, .inr (2, [.ref xW, .ref xWy, .ref xNl, .int (-1), .int 0, vm5, vm6, vm7, vm8, vm9, vm10, vm11, vm12, vm13, vm14, vm15, vm16, vm17, .ref xBu])), (xW, .inr (7, [.ref xRo, .ref xPe, .ref xWh, .ref xTr, .ref xCo, .int 0, .ref xAl, .ref xNl, .ref xDr, .int 0, .ref xFa, .int 0, .int 0, .int 0])), (xNl, .inr (1, [.int 0, .ref xNk, vn2, vn3, vn4, vn5, vn6])), (xNk, .inl (cNk, 0, .inl (fun _ => 0))), (xPe, .inr (3, [.int 0, vp1, vp2, vp3, vp4, vp5, vp6, vp7, vp8, vp9, vp10, vp11, vp12, vp13, vp14])), (xWh, .inr (10, [.int 0, vh1, vh2, vh3, vh4, vh5, vh6, vh7, vh8])), (xTr, .inr (8, [.int 0, vt1, vt2, vt3, vt4, vt5, vt6, vt7, vt8]))]) [3, 4, 1, 2, 7, 8, 9] (by decide) rfl
  have hKc := hK.sub (tys' := [(cNk, .int)]) [0] rfl
  have hFc := va_free (wc := [(xM, .inr (2, [.ref xW, .ref xWy, .ref xNl, .int (-1), .int 0, vm5, vm6, vm7, vm8, vm9, vm10, vm11, vm12, vm13, vm14, vm15, vm16, vm17, .ref xBu])), (xW, .inr (7, [.ref xRo, .ref xPe, .ref xWh, .ref xTr, .ref xCo, .int 0, .ref xAl, .ref xNl, .ref xDr, .int 0, .ref xFa, .int 0, .int 0, .int 0])), (xNl, .inr (1, [.int 0, .ref xNk, vn2, vn3, vn4, vn5, vn6])), (xNk, .inl (cNk, 0, .inl (fun _ => 0))), (xPe, .inr (3, [.int 0, vp1, vp2, vp3, vp4, vp5, vp6, vp7, vp8, vp9, vp10, vp11, vp12, vp13, vp14])), (xWh, .inr (10, [.int 0, vh1, vh2, vh3, vh4, vh5, vh6, vh7, vh8])), (xTr, .inr (8, [.int 0, vt1, vt2, vt3, vt4, vt5, vt6, vt7, vt8]))]) hD hS hA [3, 4, 1, 2, 7, 8, 9] rfl
  refine va_callv (va_runV (As := []) (rest := []) ⟨hx, hb, hml, hown, hts⟩ (c_settle l dC dI H.size xM xW xWy xNl (vm5 : Value) (vm6 : Value) (vm7 : Value) (vm8 : Value) (vm9 : Value) (vm10 : Value) (vm11 : Value) (vm12 : Value) (vm13 : Value) (vm14 : Value) (vm15 : Value) (vm16 : Value) (vm17 : Value) xBu xRo xPe xWh xTr xCo xAl xDr xFa xNk (vn2 : Value) (vn3 : Value) (vn4 : Value) (vn5 : Value) (vn6 : Value) cNk (vp1 : Value) (vp2 : Value) (vp3 : Value) (vp4 : Value) (vp5 : Value) (vp6 : Value) (vp7 : Value) (vp8 : Value) (vp9 : Value) (vp10 : Value) (vp11 : Value) (vp12 : Value) (vp13 : Value) (vp14 : Value) (vh1 : Value) (vh2 : Value) (vh3 : Value) (vh4 : Value) (vh5 : Value) (vh6 : Value) (vh7 : Value) (vh8 : Value) (vt1 : Value) (vt2 : Value) (vt3 : Value) (vt4 : Value) (vt5 : Value) (vt6 : Value) (vt7 : Value) (vt8 : Value)) (cwV 0 hts (gV kw_5_208 kw_5_209 kw_5_210 kw_1_12 kw_5_211) rfl rfl rfl (by decide +kernel) ⟨Nat.le_of_ble_eq_true rfl, Nat.le_of_ble_eq_true rfl⟩) ⟨fun a U g mk q => by obtain ⟨q0, q1, qP, qK, qD⟩ := q; exact ⟨q0, q1, qP, va_K.moved (u := U) (U := U.calling g mk a) (Vm.Alike.refl U.vm) qK, qD⟩, va_recv hKc hPc (ci := 2) (q0 := 0) rfl rfl, fun U hU hW => ⟨rfl, by rw [hU], by rw [hU]; exact hPc, va_K.moved hW.alike hKc, hDc.weaken (fun _ _ _ _ => trivial)⟩⟩ rfl rfl hl.1 rfl (lv_room (Nat.le_of_ble_eq_true rfl)) dX11_morning_40 ⟨Nat.le_of_ble_eq_true rfl, Nat.le_of_ble_eq_true rfl⟩) hS (fun q _ h => hFc q h) hFc (fun u t H1 locs ht hvm hw hB hz1 hk1 hS => ?_)
  obtain ⟨hP, hD⟩ := va_join (wr := [(xX, .inr (11, [.ref xT, .int 0, .ref xW, .ref xR, .ref xM, .ref xS, .int (-1), .int 0, .int 0])), (xAl, .inr (0, [.int 0, .ref tD, .int 0])), (xBu, .inl (cBu, 840, .inl (fun _ => 0))), (xWy, .inr (9, [.ref xW, .int 0, vy2, vy3, vy4, vy5, vy6, vy7, vy8]))]) (w1 := []) hP hD [3, 4, 1, 2, 7, 8, 9] [0, 5, 6, 10] rfl rfl (by decide) (by decide) hk1 hFc (fun k q h => by simp at h) ⟨fun i j p q h => by simp at h, fun k q h => by simp at h⟩
  have hK := hK.sub (tys' := [(cBu, .int)]) [1] rfl
  generalize H1 = H at hP hS ⊢
  have hP : va_P (dC, dI) vwCl [(xX, .inr (11, [.ref xT, .int 0, .ref xW, .ref xR, .ref xM, .ref xS, .int (-1), .int 0, .int 0])), (xAl, .inr (0, [.int 0, .ref tD, .int 0])), (xBu, .inl (cBu, 840, .inl (fun _ => 0))), (xWy, .inr (9, [.ref xW, .int 0, vy2, vy3, vy4, vy5, vy6, vy7, vy8]))] H := hP
  have hD : va_D A [(xX, .inr (11, [.ref xT, .int 0, .ref xW, .ref xR, .ref xM, .ref xS, .int (-1), .int 0, .int 0])), (xAl, .inr (0, [.int 0, .ref tD, .int 0])), (xBu, .inl (cBu, 840, .inl (fun _ => 0))), (xWy, .inr (9, [.ref xW, .int 0, vy2, vy3, vy4, vy5, vy6, vy7, vy8]))] := hD
  have hK : va_K (dC, dI) vwCl [(cBu, .int)] s := hK
  refine lv_iload_n hx hb dX11_morning_43 rfl (lv_at hl 0 rfl) ?_
  refine W.widen (k := 0) (n := 0) (Nat.le_of_ble_eq_true rfl) (Nat.le_of_ble_eq_true rfl) ?_
  exact W.iret (v := 0) hx hb hr (fun t ht hW => ⟨⟨0, (), rfl, rfl, trivial⟩, hS.F ht⟩) hS.2.2 dX11_morning_44

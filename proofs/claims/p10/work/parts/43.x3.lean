theorem dJ7_fill_53178_0 : decode cJ7_fill_53178 0 = .ok (.iconst 0, 1) := by decide +kernel
theorem dJ7_fill_53178_1 : decode cJ7_fill_53178 1 = .ok (.istore_n 2, 1) := by decide +kernel
theorem dJ7_fill_53178_2 : decode cJ7_fill_53178 2 = .ok (.aload_n 0, 1) := by decide +kernel
theorem dJ7_fill_53178_3 : decode cJ7_fill_53178 3 = .ok (.arraylength, 1) := by decide +kernel
theorem dJ7_fill_53178_4 : decode cJ7_fill_53178 4 = .ok (.istore_n 3, 1) := by decide +kernel
theorem dJ7_fill_53178_5 : decode cJ7_fill_53178 5 = .ok (.iload_n 2, 1) := by decide +kernel
theorem dJ7_fill_53178_6 : decode cJ7_fill_53178 6 = .ok (.iload_n 3, 1) := by decide +kernel
theorem dJ7_fill_53178_7 : decode cJ7_fill_53178 7 = .ok (.if_icmp .ge 13, 3) := by decide +kernel
theorem dJ7_fill_53178_10 : decode cJ7_fill_53178 10 = .ok (.aload_n 0, 1) := by decide +kernel
theorem dJ7_fill_53178_11 : decode cJ7_fill_53178 11 = .ok (.iload_n 2, 1) := by decide +kernel
theorem dJ7_fill_53178_12 : decode cJ7_fill_53178 12 = .ok (.iload_n 1, 1) := by decide +kernel
theorem dJ7_fill_53178_13 : decode cJ7_fill_53178 13 = .ok (.iastore, 1) := by decide +kernel
theorem dJ7_fill_53178_14 : decode cJ7_fill_53178 14 = .ok (.iinc 2 1, 3) := by decide +kernel
theorem dJ7_fill_53178_17 : decode cJ7_fill_53178 17 = .ok (.goto (-12), 3) := by decide +kernel
theorem dJ7_fill_53178_20 : decode cJ7_fill_53178 20 = .ok (.return_, 1) := by decide +kernel
theorem dJ7_fill_d0a16_0 : decode cJ7_fill_d0a16 0 = .ok (.iconst 0, 1) := by decide +kernel
theorem dJ7_fill_d0a16_1 : decode cJ7_fill_d0a16 1 = .ok (.istore_n 3, 1) := by decide +kernel
theorem dJ7_fill_d0a16_2 : decode cJ7_fill_d0a16 2 = .ok (.aload_n 0, 1) := by decide +kernel
theorem dJ7_fill_d0a16_3 : decode cJ7_fill_d0a16 3 = .ok (.arraylength, 1) := by decide +kernel
theorem dJ7_fill_d0a16_4 : decode cJ7_fill_d0a16 4 = .ok (.istore 4, 2) := by decide +kernel
theorem dJ7_fill_d0a16_6 : decode cJ7_fill_d0a16 6 = .ok (.iload_n 3, 1) := by decide +kernel
theorem dJ7_fill_d0a16_7 : decode cJ7_fill_d0a16 7 = .ok (.iload 4, 2) := by decide +kernel
theorem dJ7_fill_d0a16_9 : decode cJ7_fill_d0a16 9 = .ok (.if_icmp .ge 13, 3) := by decide +kernel
theorem dJ7_fill_d0a16_12 : decode cJ7_fill_d0a16 12 = .ok (.aload_n 0, 1) := by decide +kernel
theorem dJ7_fill_d0a16_13 : decode cJ7_fill_d0a16 13 = .ok (.iload_n 3, 1) := by decide +kernel
theorem dJ7_fill_d0a16_14 : decode cJ7_fill_d0a16 14 = .ok (.lload_n 1, 1) := by decide +kernel
theorem dJ7_fill_d0a16_15 : decode cJ7_fill_d0a16 15 = .ok (.lastore, 1) := by decide +kernel
theorem dJ7_fill_d0a16_16 : decode cJ7_fill_d0a16 16 = .ok (.iinc 3 1, 3) := by decide +kernel
theorem dJ7_fill_d0a16_19 : decode cJ7_fill_d0a16 19 = .ok (.goto (-13), 3) := by decide +kernel
theorem dJ7_fill_d0a16_22 : decode cJ7_fill_d0a16 22 = .ok (.return_, 1) := by decide +kernel
theorem dX11_rain_0 : decode cX11_rain 0 = .ok (.aload_n 0, 1) := by decide +kernel
theorem dX11_rain_1 : decode cX11_rain 1 = .ok (.invokevirtual 131, 3) := by decide +kernel
theorem dX11_rain_4 : decode cX11_rain 4 = .ok (.istore_n 1, 1) := by decide +kernel
theorem dX11_rain_5 : decode cX11_rain 5 = .ok (.iload_n 1, 1) := by decide +kernel
theorem dX11_rain_6 : decode cX11_rain 6 = .ok (.ifCond .eq 81, 3) := by decide +kernel
theorem dX11_rain_9 : decode cX11_rain 9 = .ok (.iconst 0, 1) := by decide +kernel
theorem dX11_rain_10 : decode cX11_rain 10 = .ok (.istore_n 2, 1) := by decide +kernel
theorem dX11_rain_11 : decode cX11_rain 11 = .ok (.iload_n 2, 1) := by decide +kernel
theorem dX11_rain_12 : decode cX11_rain 12 = .ok (.aload_n 0, 1) := by decide +kernel
theorem dX11_rain_13 : decode cX11_rain 13 = .ok (.getfield 50, 3) := by decide +kernel
theorem dX11_rain_16 : decode cX11_rain 16 = .ok (.if_icmp .ge 60, 3) := by decide +kernel
theorem dX11_rain_19 : decode cX11_rain 19 = .ok (.iload_n 2, 1) := by decide +kernel
theorem dX11_rain_20 : decode cX11_rain 20 = .ok (.ifCond .ne 7, 3) := by decide +kernel
theorem dX11_rain_23 : decode cX11_rain 23 = .ok (.iconst 0, 1) := by decide +kernel
theorem dX11_rain_24 : decode cX11_rain 24 = .ok (.goto 14, 3) := by decide +kernel
theorem dX11_rain_27 : decode cX11_rain 27 = .ok (.aload_n 0, 1) := by decide +kernel
theorem dX11_rain_28 : decode cX11_rain 28 = .ok (.getfield 16, 3) := by decide +kernel
theorem dX11_rain_31 : decode cX11_rain 31 = .ok (.getfield 134, 3) := by decide +kernel
theorem dX11_rain_34 : decode cX11_rain 34 = .ok (.iload_n 2, 1) := by decide +kernel
theorem dX11_rain_35 : decode cX11_rain 35 = .ok (.iconst 1, 1) := by decide +kernel
theorem dX11_rain_36 : decode cX11_rain 36 = .ok (.isub, 1) := by decide +kernel
theorem dX11_rain_37 : decode cX11_rain 37 = .ok (.iaload, 1) := by decide +kernel
theorem dX11_rain_38 : decode cX11_rain 38 = .ok (.istore_n 3, 1) := by decide +kernel
theorem dX11_rain_39 : decode cX11_rain 39 = .ok (.aload_n 0, 1) := by decide +kernel
theorem dX11_rain_40 : decode cX11_rain 40 = .ok (.getfield 16, 3) := by decide +kernel
theorem dX11_rain_43 : decode cX11_rain 43 = .ok (.getfield 134, 3) := by decide +kernel
theorem dX11_rain_46 : decode cX11_rain 46 = .ok (.iload_n 2, 1) := by decide +kernel
theorem dX11_rain_47 : decode cX11_rain 47 = .ok (.aload_n 0, 1) := by decide +kernel
theorem dX11_rain_48 : decode cX11_rain 48 = .ok (.getfield 9, 3) := by decide +kernel
theorem dX11_rain_51 : decode cX11_rain 51 = .ok (.iload_n 2, 1) := by decide +kernel
theorem dX11_rain_52 : decode cX11_rain 52 = .ok (.iaload, 1) := by decide +kernel
theorem dX11_rain_53 : decode cX11_rain 53 = .ok (.sipush 255, 3) := by decide +kernel
theorem dX11_rain_56 : decode cX11_rain 56 = .ok (.if_icmp .ne 7, 3) := by decide +kernel
theorem dX11_rain_59 : decode cX11_rain 59 = .ok (.iload_n 3, 1) := by decide +kernel
theorem dX11_rain_60 : decode cX11_rain 60 = .ok (.goto 9, 3) := by decide +kernel
theorem dX11_rain_63 : decode cX11_rain 63 = .ok (.aload_n 0, 1) := by decide +kernel
theorem dX11_rain_64 : decode cX11_rain 64 = .ok (.getfield 9, 3) := by decide +kernel
theorem dX11_rain_67 : decode cX11_rain 67 = .ok (.iload_n 2, 1) := by decide +kernel
theorem dX11_rain_68 : decode cX11_rain 68 = .ok (.iaload, 1) := by decide +kernel
theorem dX11_rain_69 : decode cX11_rain 69 = .ok (.iastore, 1) := by decide +kernel
theorem dX11_rain_70 : decode cX11_rain 70 = .ok (.iinc 2 1, 3) := by decide +kernel
theorem dX11_rain_73 : decode cX11_rain 73 = .ok (.goto (-62), 3) := by decide +kernel
theorem dX11_rain_76 : decode cX11_rain 76 = .ok (.aload_n 0, 1) := by decide +kernel
theorem dX11_rain_77 : decode cX11_rain 77 = .ok (.getfield 16, 3) := by decide +kernel
theorem dX11_rain_80 : decode cX11_rain 80 = .ok (.aload_n 0, 1) := by decide +kernel
theorem dX11_rain_81 : decode cX11_rain 81 = .ok (.getfield 50, 3) := by decide +kernel
theorem dX11_rain_84 : decode cX11_rain 84 = .ok (.putfield 137, 3) := by decide +kernel
theorem dX11_rain_87 : decode cX11_rain 87 = .ok (.aload_n 0, 1) := by decide +kernel
theorem dX11_rain_88 : decode cX11_rain 88 = .ok (.iconst 0, 1) := by decide +kernel
theorem dX11_rain_89 : decode cX11_rain 89 = .ok (.putfield 50, 3) := by decide +kernel
theorem dX11_rain_92 : decode cX11_rain 92 = .ok (.iload_n 1, 1) := by decide +kernel
theorem dX11_rain_93 : decode cX11_rain 93 = .ok (.ireturn, 1) := by decide +kernel
theorem dX11_seated_0 : decode cX11_seated 0 = .ok (.iconst (-1), 1) := by decide +kernel
theorem dX11_seated_1 : decode cX11_seated 1 = .ok (.istore_n 2, 1) := by decide +kernel
theorem dX11_seated_2 : decode cX11_seated 2 = .ok (.iload_n 1, 1) := by decide +kernel
theorem dX11_seated_3 : decode cX11_seated 3 = .ok (.ifCond .lt 44, 3) := by decide +kernel
theorem dX11_seated_6 : decode cX11_seated 6 = .ok (.iload_n 1, 1) := by decide +kernel
theorem dX11_seated_7 : decode cX11_seated 7 = .ok (.sipush 200, 3) := by decide +kernel
theorem dX11_seated_10 : decode cX11_seated 10 = .ok (.if_icmp .gt 37, 3) := by decide +kernel
theorem dX11_seated_13 : decode cX11_seated 13 = .ok (.aload_n 0, 1) := by decide +kernel
theorem dX11_seated_14 : decode cX11_seated 14 = .ok (.getfield 16, 3) := by decide +kernel
theorem dX11_seated_17 : decode cX11_seated 17 = .ok (.getfield 89, 3) := by decide +kernel
theorem dX11_seated_20 : decode cX11_seated 20 = .ok (.ifCond .le 27, 3) := by decide +kernel
theorem dX11_seated_23 : decode cX11_seated 23 = .ok (.aload_n 0, 1) := by decide +kernel
theorem dX11_seated_24 : decode cX11_seated 24 = .ok (.invokevirtual 221, 3) := by decide +kernel
theorem dX11_seated_27 : decode cX11_seated 27 = .ok (.ifCond .eq 20, 3) := by decide +kernel
theorem dX11_seated_30 : decode cX11_seated 30 = .ok (.aload_n 0, 1) := by decide +kernel
theorem dX11_seated_31 : decode cX11_seated 31 = .ok (.getfield 39, 3) := by decide +kernel
theorem dX11_seated_34 : decode cX11_seated 34 = .ok (.aload_n 0, 1) := by decide +kernel
theorem dX11_seated_35 : decode cX11_seated 35 = .ok (.getfield 9, 3) := by decide +kernel
theorem dX11_seated_38 : decode cX11_seated 38 = .ok (.aload_n 0, 1) := by decide +kernel
theorem dX11_seated_39 : decode cX11_seated 39 = .ok (.getfield 50, 3) := by decide +kernel
theorem dX11_seated_42 : decode cX11_seated 42 = .ok (.iload_n 1, 1) := by decide +kernel
theorem dX11_seated_43 : decode cX11_seated 43 = .ok (.invokevirtual 224, 3) := by decide +kernel
theorem dX11_seated_46 : decode cX11_seated 46 = .ok (.istore_n 2, 1) := by decide +kernel
theorem dX11_seated_47 : decode cX11_seated 47 = .ok (.aload_n 0, 1) := by decide +kernel
theorem dX11_seated_48 : decode cX11_seated 48 = .ok (.iconst 0, 1) := by decide +kernel
theorem dX11_seated_49 : decode cX11_seated 49 = .ok (.putfield 50, 3) := by decide +kernel
theorem dX11_seated_52 : decode cX11_seated 52 = .ok (.iload_n 2, 1) := by decide +kernel
theorem dX11_seated_53 : decode cX11_seated 53 = .ok (.ireturn, 1) := by decide +kernel
theorem dX11_standsAhead_0 : decode cX11_standsAhead 0 = .ok (.iconst 0, 1) := by decide +kernel
theorem dX11_standsAhead_1 : decode cX11_standsAhead 1 = .ok (.istore_n 2, 1) := by decide +kernel
theorem dX11_standsAhead_2 : decode cX11_standsAhead 2 = .ok (.iload_n 2, 1) := by decide +kernel
theorem dX11_standsAhead_3 : decode cX11_standsAhead 3 = .ok (.iload_n 1, 1) := by decide +kernel
theorem dX11_standsAhead_4 : decode cX11_standsAhead 4 = .ok (.if_icmp .ge 26, 3) := by decide +kernel
theorem dX11_standsAhead_7 : decode cX11_standsAhead 7 = .ok (.aload_n 0, 1) := by decide +kernel
theorem dX11_standsAhead_8 : decode cX11_standsAhead 8 = .ok (.getfield 9, 3) := by decide +kernel
theorem dX11_standsAhead_11 : decode cX11_standsAhead 11 = .ok (.iload_n 2, 1) := by decide +kernel
theorem dX11_standsAhead_12 : decode cX11_standsAhead 12 = .ok (.iaload, 1) := by decide +kernel
theorem dX11_standsAhead_13 : decode cX11_standsAhead 13 = .ok (.aload_n 0, 1) := by decide +kernel
theorem dX11_standsAhead_14 : decode cX11_standsAhead 14 = .ok (.getfield 9, 3) := by decide +kernel
theorem dX11_standsAhead_17 : decode cX11_standsAhead 17 = .ok (.iload_n 1, 1) := by decide +kernel
theorem dX11_standsAhead_18 : decode cX11_standsAhead 18 = .ok (.iaload, 1) := by decide +kernel
theorem dX11_standsAhead_19 : decode cX11_standsAhead 19 = .ok (.if_icmp .ne 5, 3) := by decide +kernel
theorem dX11_standsAhead_22 : decode cX11_standsAhead 22 = .ok (.iconst 1, 1) := by decide +kernel
theorem dX11_standsAhead_23 : decode cX11_standsAhead 23 = .ok (.ireturn, 1) := by decide +kernel
theorem dX11_standsAhead_24 : decode cX11_standsAhead 24 = .ok (.iinc 2 1, 3) := by decide +kernel
theorem dX11_standsAhead_27 : decode cX11_standsAhead 27 = .ok (.goto (-25), 3) := by decide +kernel
theorem dX11_standsAhead_30 : decode cX11_standsAhead 30 = .ok (.iconst 0, 1) := by decide +kernel
theorem dX11_standsAhead_31 : decode cX11_standsAhead 31 = .ok (.ireturn, 1) := by decide +kernel
theorem dX11_tapeIsWheels_0 : decode cX11_tapeIsWheels 0 = .ok (.aload_n 0, 1) := by decide +kernel
theorem dX11_tapeIsWheels_1 : decode cX11_tapeIsWheels 1 = .ok (.getfield 50, 3) := by decide +kernel
theorem dX11_tapeIsWheels_4 : decode cX11_tapeIsWheels 4 = .ok (.iconst 1, 1) := by decide +kernel
theorem dX11_tapeIsWheels_5 : decode cX11_tapeIsWheels 5 = .ok (.if_icmp .lt 11, 3) := by decide +kernel
theorem dX11_tapeIsWheels_8 : decode cX11_tapeIsWheels 8 = .ok (.aload_n 0, 1) := by decide +kernel
theorem dX11_tapeIsWheels_9 : decode cX11_tapeIsWheels 9 = .ok (.getfield 50, 3) := by decide +kernel
theorem dX11_tapeIsWheels_12 : decode cX11_tapeIsWheels 12 = .ok (.iconst 5, 1) := by decide +kernel
theorem dX11_tapeIsWheels_13 : decode cX11_tapeIsWheels 13 = .ok (.if_icmp .le 5, 3) := by decide +kernel
theorem dX11_tapeIsWheels_16 : decode cX11_tapeIsWheels 16 = .ok (.iconst 0, 1) := by decide +kernel
theorem dX11_tapeIsWheels_17 : decode cX11_tapeIsWheels 17 = .ok (.ireturn, 1) := by decide +kernel
theorem dX11_tapeIsWheels_18 : decode cX11_tapeIsWheels 18 = .ok (.iconst 0, 1) := by decide +kernel
theorem dX11_tapeIsWheels_19 : decode cX11_tapeIsWheels 19 = .ok (.istore_n 1, 1) := by decide +kernel
theorem dX11_tapeIsWheels_20 : decode cX11_tapeIsWheels 20 = .ok (.iload_n 1, 1) := by decide +kernel
theorem dX11_tapeIsWheels_21 : decode cX11_tapeIsWheels 21 = .ok (.aload_n 0, 1) := by decide +kernel
theorem dX11_tapeIsWheels_22 : decode cX11_tapeIsWheels 22 = .ok (.getfield 50, 3) := by decide +kernel
theorem dX11_tapeIsWheels_25 : decode cX11_tapeIsWheels 25 = .ok (.if_icmp .ge 38, 3) := by decide +kernel
theorem dX11_tapeIsWheels_28 : decode cX11_tapeIsWheels 28 = .ok (.aload_n 0, 1) := by decide +kernel
theorem dX11_tapeIsWheels_29 : decode cX11_tapeIsWheels 29 = .ok (.getfield 16, 3) := by decide +kernel
theorem dX11_tapeIsWheels_32 : decode cX11_tapeIsWheels 32 = .ok (.getfield 101, 3) := by decide +kernel
theorem dX11_tapeIsWheels_35 : decode cX11_tapeIsWheels 35 = .ok (.aload_n 0, 1) := by decide +kernel
theorem dX11_tapeIsWheels_36 : decode cX11_tapeIsWheels 36 = .ok (.getfield 9, 3) := by decide +kernel
theorem dX11_tapeIsWheels_39 : decode cX11_tapeIsWheels 39 = .ok (.iload_n 1, 1) := by decide +kernel
theorem dX11_tapeIsWheels_40 : decode cX11_tapeIsWheels 40 = .ok (.iaload, 1) := by decide +kernel
theorem dX11_tapeIsWheels_41 : decode cX11_tapeIsWheels 41 = .ok (.invokevirtual 110, 3) := by decide +kernel
theorem dX11_tapeIsWheels_44 : decode cX11_tapeIsWheels 44 = .ok (.ifCond .eq 11, 3) := by decide +kernel
theorem dX11_tapeIsWheels_47 : decode cX11_tapeIsWheels 47 = .ok (.aload_n 0, 1) := by decide +kernel
theorem dX11_tapeIsWheels_48 : decode cX11_tapeIsWheels 48 = .ok (.iload_n 1, 1) := by decide +kernel
theorem dX11_tapeIsWheels_49 : decode cX11_tapeIsWheels 49 = .ok (.invokevirtual 228, 3) := by decide +kernel
theorem dX11_tapeIsWheels_52 : decode cX11_tapeIsWheels 52 = .ok (.ifCond .eq 5, 3) := by decide +kernel
theorem dX11_tapeIsWheels_55 : decode cX11_tapeIsWheels 55 = .ok (.iconst 0, 1) := by decide +kernel
theorem dX11_tapeIsWheels_56 : decode cX11_tapeIsWheels 56 = .ok (.ireturn, 1) := by decide +kernel
theorem dX11_tapeIsWheels_57 : decode cX11_tapeIsWheels 57 = .ok (.iinc 1 1, 3) := by decide +kernel
theorem dX11_tapeIsWheels_60 : decode cX11_tapeIsWheels 60 = .ok (.goto (-40), 3) := by decide +kernel
theorem dX11_tapeIsWheels_63 : decode cX11_tapeIsWheels 63 = .ok (.iconst 1, 1) := by decide +kernel
theorem dX11_tapeIsWheels_64 : decode cX11_tapeIsWheels 64 = .ok (.ireturn, 1) := by decide +kernel
theorem dX5_put_0 : decode cX5_put 0 = .ok (.iload_n 1, 1) := by decide +kernel
theorem dX5_put_1 : decode cX5_put 1 = .ok (.aload_n 0, 1) := by decide +kernel
theorem dX5_put_2 : decode cX5_put 2 = .ok (.getfield 46, 3) := by decide +kernel
theorem dX5_put_5 : decode cX5_put 5 = .ok (.if_icmp .lt 42, 3) := by decide +kernel
theorem dX5_put_8 : decode cX5_put 8 = .ok (.aload_n 0, 1) := by decide +kernel
theorem dX5_put_9 : decode cX5_put 9 = .ok (.iload_n 2, 1) := by decide +kernel
theorem dX5_put_10 : decode cX5_put 10 = .ok (.putfield 58, 3) := by decide +kernel
theorem dX5_put_13 : decode cX5_put 13 = .ok (.iconst 0, 1) := by decide +kernel
theorem dX5_put_14 : decode cX5_put 14 = .ok (.istore_n 3, 1) := by decide +kernel
theorem dX5_put_15 : decode cX5_put 15 = .ok (.iload_n 3, 1) := by decide +kernel
theorem dX5_put_16 : decode cX5_put 16 = .ok (.aload_n 0, 1) := by decide +kernel
theorem dX5_put_17 : decode cX5_put 17 = .ok (.getfield 46, 3) := by decide +kernel
theorem dX5_put_20 : decode cX5_put 20 = .ok (.if_icmp .ge 26, 3) := by decide +kernel
theorem dX5_put_23 : decode cX5_put 23 = .ok (.aload_n 0, 1) := by decide +kernel
theorem dX5_put_24 : decode cX5_put 24 = .ok (.getfield 43, 3) := by decide +kernel
theorem dX5_put_27 : decode cX5_put 27 = .ok (.iload_n 3, 1) := by decide +kernel
theorem dX5_put_28 : decode cX5_put 28 = .ok (.aload_n 0, 1) := by decide +kernel
theorem dX5_put_29 : decode cX5_put 29 = .ok (.getfield 21, 3) := by decide +kernel
theorem dX5_put_32 : decode cX5_put 32 = .ok (.aload_n 0, 1) := by decide +kernel
theorem dX5_put_33 : decode cX5_put 33 = .ok (.getfield 40, 3) := by decide +kernel
theorem dX5_put_36 : decode cX5_put 36 = .ok (.iload_n 3, 1) := by decide +kernel
theorem dX5_put_37 : decode cX5_put 37 = .ok (.iaload, 1) := by decide +kernel
theorem dX5_put_38 : decode cX5_put 38 = .ok (.iaload, 1) := by decide +kernel
theorem dX5_put_39 : decode cX5_put 39 = .ok (.iastore, 1) := by decide +kernel
theorem dX5_put_40 : decode cX5_put 40 = .ok (.iinc 3 1, 3) := by decide +kernel
theorem dX5_put_43 : decode cX5_put 43 = .ok (.goto (-28), 3) := by decide +kernel
theorem dX5_put_46 : decode cX5_put 46 = .ok (.return_, 1) := by decide +kernel
theorem dX5_put_47 : decode cX5_put 47 = .ok (.aload_n 0, 1) := by decide +kernel
theorem dX5_put_48 : decode cX5_put 48 = .ok (.iload_n 1, 1) := by decide +kernel
theorem dX5_put_49 : decode cX5_put 49 = .ok (.invokevirtual 144, 3) := by decide +kernel
theorem dX5_put_52 : decode cX5_put 52 = .ok (.istore_n 3, 1) := by decide +kernel
theorem dX5_put_53 : decode cX5_put 53 = .ok (.iload_n 3, 1) := by decide +kernel
theorem dX5_put_54 : decode cX5_put 54 = .ok (.aload_n 0, 1) := by decide +kernel
theorem dX5_put_55 : decode cX5_put 55 = .ok (.getfield 124, 3) := by decide +kernel
theorem dX5_put_58 : decode cX5_put 58 = .ok (.if_icmp .ge 74, 3) := by decide +kernel
theorem dX5_put_61 : decode cX5_put 61 = .ok (.aload_n 0, 1) := by decide +kernel
theorem dX5_put_62 : decode cX5_put 62 = .ok (.getfield 40, 3) := by decide +kernel
theorem dX5_put_65 : decode cX5_put 65 = .ok (.iload_n 1, 1) := by decide +kernel
theorem dX5_put_66 : decode cX5_put 66 = .ok (.iload_n 3, 1) := by decide +kernel
theorem dX5_put_67 : decode cX5_put 67 = .ok (.iastore, 1) := by decide +kernel
theorem dX5_put_68 : decode cX5_put 68 = .ok (.iload_n 2, 1) := by decide +kernel
theorem dX5_put_69 : decode cX5_put 69 = .ok (.aload_n 0, 1) := by decide +kernel
theorem dX5_put_70 : decode cX5_put 70 = .ok (.getfield 28, 3) := by decide +kernel
theorem dX5_put_73 : decode cX5_put 73 = .ok (.iload_n 1, 1) := by decide +kernel
theorem dX5_put_74 : decode cX5_put 74 = .ok (.iaload, 1) := by decide +kernel
theorem dX5_put_75 : decode cX5_put 75 = .ok (.iadd, 1) := by decide +kernel
theorem dX5_put_76 : decode cX5_put 76 = .ok (.aload_n 0, 1) := by decide +kernel
theorem dX5_put_77 : decode cX5_put 77 = .ok (.iload_n 1, 1) := by decide +kernel
theorem dX5_put_78 : decode cX5_put 78 = .ok (.aload_n 0, 1) := by decide +kernel
theorem dX5_put_79 : decode cX5_put 79 = .ok (.getfield 21, 3) := by decide +kernel
theorem dX5_put_82 : decode cX5_put 82 = .ok (.iload_n 3, 1) := by decide +kernel
theorem dX5_put_83 : decode cX5_put 83 = .ok (.iaload, 1) := by decide +kernel
theorem dX5_put_84 : decode cX5_put 84 = .ok (.invokevirtual 147, 3) := by decide +kernel
theorem dX5_put_87 : decode cX5_put 87 = .ok (.invokestatic 150, 3) := by decide +kernel
theorem dX5_put_90 : decode cX5_put 90 = .ok (.istore 4, 2) := by decide +kernel
theorem dX5_put_92 : decode cX5_put 92 = .ok (.aload_n 0, 1) := by decide +kernel
theorem dX5_put_93 : decode cX5_put 93 = .ok (.getfield 142, 3) := by decide +kernel
theorem dX5_put_96 : decode cX5_put 96 = .ok (.iload 4, 2) := by decide +kernel
theorem dX5_put_98 : decode cX5_put 98 = .ok (.aload_n 0, 1) := by decide +kernel
theorem dX5_put_99 : decode cX5_put 99 = .ok (.getfield 31, 3) := by decide +kernel
theorem dX5_put_102 : decode cX5_put 102 = .ok (.iload_n 1, 1) := by decide +kernel
theorem dX5_put_103 : decode cX5_put 103 = .ok (.iconst 1, 1) := by decide +kernel
theorem dX5_put_104 : decode cX5_put 104 = .ok (.iadd, 1) := by decide +kernel
theorem dX5_put_105 : decode cX5_put 105 = .ok (.iaload, 1) := by decide +kernel
theorem dX5_put_106 : decode cX5_put 106 = .ok (.iadd, 1) := by decide +kernel
theorem dX5_put_107 : decode cX5_put 107 = .ok (.invokestatic 150, 3) := by decide +kernel
theorem dX5_put_110 : decode cX5_put 110 = .ok (.aload_n 0, 1) := by decide +kernel
theorem dX5_put_111 : decode cX5_put 111 = .ok (.getfield 58, 3) := by decide +kernel
theorem dX5_put_114 : decode cX5_put 114 = .ok (.if_icmp .le 12, 3) := by decide +kernel
theorem dX5_put_117 : decode cX5_put 117 = .ok (.aload_n 0, 1) := by decide +kernel
theorem dX5_put_118 : decode cX5_put 118 = .ok (.iload_n 1, 1) := by decide +kernel
theorem dX5_put_119 : decode cX5_put 119 = .ok (.iconst 1, 1) := by decide +kernel
theorem dX5_put_120 : decode cX5_put 120 = .ok (.iadd, 1) := by decide +kernel
theorem dX5_put_121 : decode cX5_put 121 = .ok (.iload 4, 2) := by decide +kernel
theorem dX5_put_123 : decode cX5_put 123 = .ok (.invokevirtual 61, 3) := by decide +kernel
theorem dX5_put_126 : decode cX5_put 126 = .ok (.iinc 3 1, 3) := by decide +kernel
theorem dX5_put_129 : decode cX5_put 129 = .ok (.goto (-76), 3) := by decide +kernel
theorem dX5_put_132 : decode cX5_put 132 = .ok (.return_, 1) := by decide +kernel
theorem dX5_readySeats_0 : decode cX5_readySeats 0 = .ok (.aload_n 0, 1) := by decide +kernel
theorem dX5_readySeats_1 : decode cX5_readySeats 1 = .ok (.getfield 31, 3) := by decide +kernel
theorem dX5_readySeats_4 : decode cX5_readySeats 4 = .ok (.aload_n 0, 1) := by decide +kernel
theorem dX5_readySeats_5 : decode cX5_readySeats 5 = .ok (.getfield 46, 3) := by decide +kernel
theorem dX5_readySeats_8 : decode cX5_readySeats 8 = .ok (.iconst 0, 1) := by decide +kernel
theorem dX5_readySeats_9 : decode cX5_readySeats 9 = .ok (.iastore, 1) := by decide +kernel
theorem dX5_readySeats_10 : decode cX5_readySeats 10 = .ok (.aload_n 0, 1) := by decide +kernel
theorem dX5_readySeats_11 : decode cX5_readySeats 11 = .ok (.getfield 46, 3) := by decide +kernel
theorem dX5_readySeats_14 : decode cX5_readySeats 14 = .ok (.iconst 1, 1) := by decide +kernel
theorem dX5_readySeats_15 : decode cX5_readySeats 15 = .ok (.isub, 1) := by decide +kernel
theorem dX5_readySeats_16 : decode cX5_readySeats 16 = .ok (.istore_n 2, 1) := by decide +kernel
theorem dX5_readySeats_17 : decode cX5_readySeats 17 = .ok (.iload_n 2, 1) := by decide +kernel
theorem dX5_readySeats_18 : decode cX5_readySeats 18 = .ok (.ifCond .lt 50, 3) := by decide +kernel
theorem dX5_readySeats_21 : decode cX5_readySeats 21 = .ok (.aload_n 0, 1) := by decide +kernel
theorem dX5_readySeats_22 : decode cX5_readySeats 22 = .ok (.getfield 28, 3) := by decide +kernel
theorem dX5_readySeats_25 : decode cX5_readySeats 25 = .ok (.iload_n 2, 1) := by decide +kernel
theorem dX5_readySeats_26 : decode cX5_readySeats 26 = .ok (.aload_n 0, 1) := by decide +kernel
theorem dX5_readySeats_27 : decode cX5_readySeats 27 = .ok (.getfield 9, 3) := by decide +kernel
theorem dX5_readySeats_30 : decode cX5_readySeats 30 = .ok (.getfield 65, 3) := by decide +kernel
theorem dX5_readySeats_33 : decode cX5_readySeats 33 = .ok (.getfield 69, 3) := by decide +kernel
theorem dX5_readySeats_36 : decode cX5_readySeats 36 = .ok (.aload_n 1, 1) := by decide +kernel
theorem dX5_readySeats_37 : decode cX5_readySeats 37 = .ok (.iload_n 2, 1) := by decide +kernel
theorem dX5_readySeats_38 : decode cX5_readySeats 38 = .ok (.iaload, 1) := by decide +kernel
theorem dX5_readySeats_39 : decode cX5_readySeats 39 = .ok (.iaload, 1) := by decide +kernel
theorem dX5_readySeats_40 : decode cX5_readySeats 40 = .ok (.iastore, 1) := by decide +kernel
theorem dX5_readySeats_41 : decode cX5_readySeats 41 = .ok (.aload_n 0, 1) := by decide +kernel
theorem dX5_readySeats_42 : decode cX5_readySeats 42 = .ok (.getfield 31, 3) := by decide +kernel
theorem dX5_readySeats_45 : decode cX5_readySeats 45 = .ok (.iload_n 2, 1) := by decide +kernel
theorem dX5_readySeats_46 : decode cX5_readySeats 46 = .ok (.aload_n 0, 1) := by decide +kernel
theorem dX5_readySeats_47 : decode cX5_readySeats 47 = .ok (.getfield 31, 3) := by decide +kernel
theorem dX5_readySeats_50 : decode cX5_readySeats 50 = .ok (.iload_n 2, 1) := by decide +kernel
theorem dX5_readySeats_51 : decode cX5_readySeats 51 = .ok (.iconst 1, 1) := by decide +kernel
theorem dX5_readySeats_52 : decode cX5_readySeats 52 = .ok (.iadd, 1) := by decide +kernel
theorem dX5_readySeats_53 : decode cX5_readySeats 53 = .ok (.iaload, 1) := by decide +kernel
theorem dX5_readySeats_54 : decode cX5_readySeats 54 = .ok (.aload_n 0, 1) := by decide +kernel
theorem dX5_readySeats_55 : decode cX5_readySeats 55 = .ok (.getfield 28, 3) := by decide +kernel
theorem dX5_readySeats_58 : decode cX5_readySeats 58 = .ok (.iload_n 2, 1) := by decide +kernel
theorem dX5_readySeats_59 : decode cX5_readySeats 59 = .ok (.iaload, 1) := by decide +kernel
theorem dX5_readySeats_60 : decode cX5_readySeats 60 = .ok (.iadd, 1) := by decide +kernel
theorem dX5_readySeats_61 : decode cX5_readySeats 61 = .ok (.iastore, 1) := by decide +kernel
theorem dX5_readySeats_62 : decode cX5_readySeats 62 = .ok (.iinc 2 (-1), 3) := by decide +kernel
theorem dX5_readySeats_65 : decode cX5_readySeats 65 = .ok (.goto (-48), 3) := by decide +kernel
theorem dX5_readySeats_68 : decode cX5_readySeats 68 = .ok (.aload_n 0, 1) := by decide +kernel
theorem dX5_readySeats_69 : decode cX5_readySeats 69 = .ok (.getfield 34, 3) := by decide +kernel
theorem dX5_readySeats_72 : decode cX5_readySeats 72 = .ok (.iconst 1, 1) := by decide +kernel
theorem dX5_readySeats_73 : decode cX5_readySeats 73 = .ok (.iconst 0, 1) := by decide +kernel
theorem dX5_readySeats_74 : decode cX5_readySeats 74 = .ok (.iastore, 1) := by decide +kernel
theorem dX5_readySeats_75 : decode cX5_readySeats 75 = .ok (.aload_n 0, 1) := by decide +kernel
theorem dX5_readySeats_76 : decode cX5_readySeats 76 = .ok (.getfield 37, 3) := by decide +kernel
theorem dX5_readySeats_79 : decode cX5_readySeats 79 = .ok (.iconst 1, 1) := by decide +kernel
theorem dX5_readySeats_80 : decode cX5_readySeats 80 = .ok (.iconst 0, 1) := by decide +kernel
theorem dX5_readySeats_81 : decode cX5_readySeats 81 = .ok (.iastore, 1) := by decide +kernel
theorem dX5_readySeats_82 : decode cX5_readySeats 82 = .ok (.iconst 0, 1) := by decide +kernel
theorem dX5_readySeats_83 : decode cX5_readySeats 83 = .ok (.istore_n 2, 1) := by decide +kernel
theorem dX5_readySeats_84 : decode cX5_readySeats 84 = .ok (.iload_n 2, 1) := by decide +kernel
theorem dX5_readySeats_85 : decode cX5_readySeats 85 = .ok (.aload_n 0, 1) := by decide +kernel
theorem dX5_readySeats_86 : decode cX5_readySeats 86 = .ok (.getfield 46, 3) := by decide +kernel
theorem dX5_readySeats_89 : decode cX5_readySeats 89 = .ok (.if_icmp .ge 71, 3) := by decide +kernel
theorem dX5_readySeats_92 : decode cX5_readySeats 92 = .ok (.iconst 1, 1) := by decide +kernel
theorem dX5_readySeats_93 : decode cX5_readySeats 93 = .ok (.iload_n 2, 1) := by decide +kernel
theorem dX5_readySeats_94 : decode cX5_readySeats 94 = .ok (.ishl, 1) := by decide +kernel
theorem dX5_readySeats_95 : decode cX5_readySeats 95 = .ok (.istore_n 3, 1) := by decide +kernel
theorem dX5_readySeats_96 : decode cX5_readySeats 96 = .ok (.iload_n 3, 1) := by decide +kernel
theorem dX5_readySeats_97 : decode cX5_readySeats 97 = .ok (.istore 4, 2) := by decide +kernel
theorem dX5_readySeats_99 : decode cX5_readySeats 99 = .ok (.iload 4, 2) := by decide +kernel
theorem dX5_readySeats_101 : decode cX5_readySeats 101 = .ok (.iconst 2, 1) := by decide +kernel
theorem dX5_readySeats_102 : decode cX5_readySeats 102 = .ok (.iload_n 3, 1) := by decide +kernel
theorem dX5_readySeats_103 : decode cX5_readySeats 103 = .ok (.imul, 1) := by decide +kernel
theorem dX5_readySeats_104 : decode cX5_readySeats 104 = .ok (.if_icmp .ge 50, 3) := by decide +kernel
theorem dX5_readySeats_107 : decode cX5_readySeats 107 = .ok (.aload_n 0, 1) := by decide +kernel
theorem dX5_readySeats_108 : decode cX5_readySeats 108 = .ok (.getfield 37, 3) := by decide +kernel
theorem dX5_readySeats_111 : decode cX5_readySeats 111 = .ok (.iload 4, 2) := by decide +kernel
theorem dX5_readySeats_113 : decode cX5_readySeats 113 = .ok (.iload_n 3, 1) := by decide +kernel
theorem dX5_readySeats_114 : decode cX5_readySeats 114 = .ok (.iadd, 1) := by decide +kernel
theorem dX5_readySeats_115 : decode cX5_readySeats 115 = .ok (.aload_n 0, 1) := by decide +kernel
theorem dX5_readySeats_116 : decode cX5_readySeats 116 = .ok (.getfield 37, 3) := by decide +kernel
theorem dX5_readySeats_119 : decode cX5_readySeats 119 = .ok (.iload 4, 2) := by decide +kernel
theorem dX5_readySeats_121 : decode cX5_readySeats 121 = .ok (.iaload, 1) := by decide +kernel
theorem dX5_readySeats_122 : decode cX5_readySeats 122 = .ok (.aload_n 0, 1) := by decide +kernel
theorem dX5_readySeats_123 : decode cX5_readySeats 123 = .ok (.getfield 28, 3) := by decide +kernel
theorem dX5_readySeats_126 : decode cX5_readySeats 126 = .ok (.iload_n 2, 1) := by decide +kernel
theorem dX5_readySeats_127 : decode cX5_readySeats 127 = .ok (.iaload, 1) := by decide +kernel
theorem dX5_readySeats_128 : decode cX5_readySeats 128 = .ok (.iadd, 1) := by decide +kernel
theorem dX5_readySeats_129 : decode cX5_readySeats 129 = .ok (.iastore, 1) := by decide +kernel
theorem dX5_readySeats_130 : decode cX5_readySeats 130 = .ok (.aload_n 0, 1) := by decide +kernel
theorem dX5_readySeats_131 : decode cX5_readySeats 131 = .ok (.getfield 37, 3) := by decide +kernel
theorem dX5_readySeats_134 : decode cX5_readySeats 134 = .ok (.iload 4, 2) := by decide +kernel
theorem dX5_readySeats_136 : decode cX5_readySeats 136 = .ok (.iconst 2, 1) := by decide +kernel
theorem dX5_readySeats_137 : decode cX5_readySeats 137 = .ok (.iload_n 3, 1) := by decide +kernel
theorem dX5_readySeats_138 : decode cX5_readySeats 138 = .ok (.imul, 1) := by decide +kernel
theorem dX5_readySeats_139 : decode cX5_readySeats 139 = .ok (.iadd, 1) := by decide +kernel
theorem dX5_readySeats_140 : decode cX5_readySeats 140 = .ok (.aload_n 0, 1) := by decide +kernel
theorem dX5_readySeats_141 : decode cX5_readySeats 141 = .ok (.getfield 37, 3) := by decide +kernel
theorem dX5_readySeats_144 : decode cX5_readySeats 144 = .ok (.iload 4, 2) := by decide +kernel
theorem dX5_readySeats_146 : decode cX5_readySeats 146 = .ok (.iaload, 1) := by decide +kernel
theorem dX5_readySeats_147 : decode cX5_readySeats 147 = .ok (.iastore, 1) := by decide +kernel
theorem dX5_readySeats_148 : decode cX5_readySeats 148 = .ok (.iinc 4 1, 3) := by decide +kernel
theorem dX5_readySeats_151 : decode cX5_readySeats 151 = .ok (.goto (-52), 3) := by decide +kernel
theorem dX5_readySeats_154 : decode cX5_readySeats 154 = .ok (.iinc 2 1, 3) := by decide +kernel
theorem dX5_readySeats_157 : decode cX5_readySeats 157 = .ok (.goto (-73), 3) := by decide +kernel
theorem dX5_readySeats_160 : decode cX5_readySeats 160 = .ok (.return_, 1) := by decide +kernel
theorem dX5_readyStops_0 : decode cX5_readyStops 0 = .ok (.aload_n 0, 1) := by decide +kernel
theorem dX5_readyStops_1 : decode cX5_readyStops 1 = .ok (.getfield 9, 3) := by decide +kernel
theorem dX5_readyStops_4 : decode cX5_readyStops 4 = .ok (.aload_n 0, 1) := by decide +kernel
theorem dX5_readyStops_5 : decode cX5_readyStops 5 = .ok (.getfield 9, 3) := by decide +kernel
theorem dX5_readyStops_8 : decode cX5_readyStops 8 = .ok (.getfield 72, 3) := by decide +kernel
theorem dX5_readyStops_11 : decode cX5_readyStops 11 = .ok (.invokevirtual 75, 3) := by decide +kernel
theorem dX5_readyStops_14 : decode cX5_readyStops 14 = .ok (.istore_n 2, 1) := by decide +kernel
theorem dX5_readyStops_15 : decode cX5_readyStops 15 = .ok (.aload_n 0, 1) := by decide +kernel
theorem dX5_readyStops_16 : decode cX5_readyStops 16 = .ok (.getfield 17, 3) := by decide +kernel
theorem dX5_readyStops_19 : decode cX5_readyStops 19 = .ok (.lconst 0, 1) := by decide +kernel
theorem dX5_readyStops_20 : decode cX5_readyStops 20 = .ok (.invokestatic 79, 3) := by decide +kernel
theorem dX5_readyStops_23 : decode cX5_readyStops 23 = .ok (.iconst 0, 1) := by decide +kernel
theorem dX5_readyStops_24 : decode cX5_readyStops 24 = .ok (.istore_n 3, 1) := by decide +kernel
theorem dX5_readyStops_25 : decode cX5_readyStops 25 = .ok (.iload_n 3, 1) := by decide +kernel
theorem dX5_readyStops_26 : decode cX5_readyStops 26 = .ok (.aload_n 0, 1) := by decide +kernel
theorem dX5_readyStops_27 : decode cX5_readyStops 27 = .ok (.getfield 9, 3) := by decide +kernel
theorem dX5_readyStops_30 : decode cX5_readyStops 30 = .ok (.getfield 85, 3) := by decide +kernel
theorem dX5_readyStops_33 : decode cX5_readyStops 33 = .ok (.getfield 89, 3) := by decide +kernel
theorem dX5_readyStops_36 : decode cX5_readyStops 36 = .ok (.if_icmp .ge 118, 3) := by decide +kernel
theorem dX5_readyStops_39 : decode cX5_readyStops 39 = .ok (.aload_n 0, 1) := by decide +kernel
theorem dX5_readyStops_40 : decode cX5_readyStops 40 = .ok (.getfield 9, 3) := by decide +kernel
theorem dX5_readyStops_43 : decode cX5_readyStops 43 = .ok (.getfield 85, 3) := by decide +kernel
theorem dX5_readyStops_46 : decode cX5_readyStops 46 = .ok (.getfield 92, 3) := by decide +kernel
theorem dX5_readyStops_49 : decode cX5_readyStops 49 = .ok (.iload_n 3, 1) := by decide +kernel
theorem dX5_readyStops_50 : decode cX5_readyStops 50 = .ok (.iaload, 1) := by decide +kernel
theorem dX5_readyStops_51 : decode cX5_readyStops 51 = .ok (.aload_n 0, 1) := by decide +kernel
theorem dX5_readyStops_52 : decode cX5_readyStops 52 = .ok (.getfield 9, 3) := by decide +kernel
theorem dX5_readyStops_55 : decode cX5_readyStops 55 = .ok (.getfield 85, 3) := by decide +kernel
theorem dX5_readyStops_58 : decode cX5_readyStops 58 = .ok (.getfield 95, 3) := by decide +kernel
theorem dX5_readyStops_61 : decode cX5_readyStops 61 = .ok (.iload_n 3, 1) := by decide +kernel
theorem dX5_readyStops_62 : decode cX5_readyStops 62 = .ok (.iaload, 1) := by decide +kernel
theorem dX5_readyStops_63 : decode cX5_readyStops 63 = .ok (.iload_n 2, 1) := by decide +kernel
theorem dX5_readyStops_64 : decode cX5_readyStops 64 = .ok (.invokestatic 98, 3) := by decide +kernel
theorem dX5_readyStops_67 : decode cX5_readyStops 67 = .ok (.istore 4, 2) := by decide +kernel
theorem dX5_readyStops_69 : decode cX5_readyStops 69 = .ok (.iconst 0, 1) := by decide +kernel
theorem dX5_readyStops_70 : decode cX5_readyStops 70 = .ok (.istore 5, 2) := by decide +kernel
theorem dX5_readyStops_72 : decode cX5_readyStops 72 = .ok (.iload 5, 2) := by decide +kernel
theorem dX5_readyStops_74 : decode cX5_readyStops 74 = .ok (.aload_n 0, 1) := by decide +kernel
theorem dX5_readyStops_75 : decode cX5_readyStops 75 = .ok (.getfield 9, 3) := by decide +kernel
theorem dX5_readyStops_78 : decode cX5_readyStops 78 = .ok (.getfield 102, 3) := by decide +kernel
theorem dX5_readyStops_81 : decode cX5_readyStops 81 = .ok (.if_icmp .ge 67, 3) := by decide +kernel
theorem dX5_readyStops_84 : decode cX5_readyStops 84 = .ok (.aload_n 0, 1) := by decide +kernel
theorem dX5_readyStops_85 : decode cX5_readyStops 85 = .ok (.getfield 9, 3) := by decide +kernel
theorem dX5_readyStops_88 : decode cX5_readyStops 88 = .ok (.getfield 105, 3) := by decide +kernel
theorem dX5_readyStops_91 : decode cX5_readyStops 91 = .ok (.aload_n 0, 1) := by decide +kernel
theorem dX5_readyStops_92 : decode cX5_readyStops 92 = .ok (.getfield 9, 3) := by decide +kernel
theorem dX5_readyStops_95 : decode cX5_readyStops 95 = .ok (.getfield 85, 3) := by decide +kernel
theorem dX5_readyStops_98 : decode cX5_readyStops 98 = .ok (.getfield 109, 3) := by decide +kernel
theorem dX5_readyStops_101 : decode cX5_readyStops 101 = .ok (.iload_n 3, 1) := by decide +kernel
theorem dX5_readyStops_102 : decode cX5_readyStops 102 = .ok (.iaload, 1) := by decide +kernel
theorem dX5_readyStops_103 : decode cX5_readyStops 103 = .ok (.aload_n 0, 1) := by decide +kernel
theorem dX5_readyStops_104 : decode cX5_readyStops 104 = .ok (.getfield 9, 3) := by decide +kernel
theorem dX5_readyStops_107 : decode cX5_readyStops 107 = .ok (.getfield 112, 3) := by decide +kernel
theorem dX5_readyStops_110 : decode cX5_readyStops 110 = .ok (.iload 5, 2) := by decide +kernel
theorem dX5_readyStops_112 : decode cX5_readyStops 112 = .ok (.iaload, 1) := by decide +kernel
theorem dX5_readyStops_113 : decode cX5_readyStops 113 = .ok (.invokevirtual 115, 3) := by decide +kernel
theorem dX5_readyStops_116 : decode cX5_readyStops 116 = .ok (.istore 6, 2) := by decide +kernel
theorem dX5_readyStops_118 : decode cX5_readyStops 118 = .ok (.iload 6, 2) := by decide +kernel
theorem dX5_readyStops_120 : decode cX5_readyStops 120 = .ok (.iload 4, 2) := by decide +kernel
theorem dX5_readyStops_122 : decode cX5_readyStops 122 = .ok (.invokestatic 121, 3) := by decide +kernel
theorem dX5_readyStops_125 : decode cX5_readyStops 125 = .ok (.iload_n 1, 1) := by decide +kernel
theorem dX5_readyStops_126 : decode cX5_readyStops 126 = .ok (.if_icmp .gt 16, 3) := by decide +kernel
theorem dX5_readyStops_129 : decode cX5_readyStops 129 = .ok (.aload_n 0, 1) := by decide +kernel
theorem dX5_readyStops_130 : decode cX5_readyStops 130 = .ok (.getfield 17, 3) := by decide +kernel
theorem dX5_readyStops_133 : decode cX5_readyStops 133 = .ok (.iload 5, 2) := by decide +kernel
theorem dX5_readyStops_135 : decode cX5_readyStops 135 = .ok (.dup2, 1) := by decide +kernel
theorem dX5_readyStops_136 : decode cX5_readyStops 136 = .ok (.laload, 1) := by decide +kernel
theorem dX5_readyStops_137 : decode cX5_readyStops 137 = .ok (.lconst 1, 1) := by decide +kernel
theorem dX5_readyStops_138 : decode cX5_readyStops 138 = .ok (.iload_n 3, 1) := by decide +kernel
theorem dX5_readyStops_139 : decode cX5_readyStops 139 = .ok (.lshl, 1) := by decide +kernel
theorem dX5_readyStops_140 : decode cX5_readyStops 140 = .ok (.lor, 1) := by decide +kernel
theorem dX5_readyStops_141 : decode cX5_readyStops 141 = .ok (.lastore, 1) := by decide +kernel
theorem dX5_readyStops_142 : decode cX5_readyStops 142 = .ok (.iinc 5 1, 3) := by decide +kernel
theorem dX5_readyStops_145 : decode cX5_readyStops 145 = .ok (.goto (-73), 3) := by decide +kernel
theorem dX5_readyStops_148 : decode cX5_readyStops 148 = .ok (.iinc 3 1, 3) := by decide +kernel
theorem dX5_readyStops_151 : decode cX5_readyStops 151 = .ok (.goto (-126), 3) := by decide +kernel
theorem dX5_readyStops_154 : decode cX5_readyStops 154 = .ok (.aload_n 0, 1) := by decide +kernel
theorem dX5_readyStops_155 : decode cX5_readyStops 155 = .ok (.iconst 0, 1) := by decide +kernel
theorem dX5_readyStops_156 : decode cX5_readyStops 156 = .ok (.putfield 124, 3) := by decide +kernel
theorem dX5_readyStops_159 : decode cX5_readyStops 159 = .ok (.iconst 0, 1) := by decide +kernel
theorem dX5_readyStops_160 : decode cX5_readyStops 160 = .ok (.istore_n 3, 1) := by decide +kernel
theorem dX5_readyStops_161 : decode cX5_readyStops 161 = .ok (.iload_n 3, 1) := by decide +kernel
theorem dX5_readyStops_162 : decode cX5_readyStops 162 = .ok (.aload_n 0, 1) := by decide +kernel
theorem dX5_readyStops_163 : decode cX5_readyStops 163 = .ok (.getfield 9, 3) := by decide +kernel
theorem dX5_readyStops_166 : decode cX5_readyStops 166 = .ok (.getfield 102, 3) := by decide +kernel
theorem dX5_readyStops_169 : decode cX5_readyStops 169 = .ok (.if_icmp .ge 37, 3) := by decide +kernel
theorem dX5_readyStops_172 : decode cX5_readyStops 172 = .ok (.aload_n 0, 1) := by decide +kernel
theorem dX5_readyStops_173 : decode cX5_readyStops 173 = .ok (.iload_n 3, 1) := by decide +kernel
theorem dX5_readyStops_174 : decode cX5_readyStops 174 = .ok (.invokevirtual 127, 3) := by decide +kernel
theorem dX5_readyStops_177 : decode cX5_readyStops 177 = .ok (.ifCond .ne 23, 3) := by decide +kernel
theorem dX5_readyStops_180 : decode cX5_readyStops 180 = .ok (.aload_n 0, 1) := by decide +kernel
theorem dX5_readyStops_181 : decode cX5_readyStops 181 = .ok (.getfield 21, 3) := by decide +kernel
theorem dX5_readyStops_184 : decode cX5_readyStops 184 = .ok (.aload_n 0, 1) := by decide +kernel
theorem dX5_readyStops_185 : decode cX5_readyStops 185 = .ok (.getfield 124, 3) := by decide +kernel
theorem dX5_readyStops_188 : decode cX5_readyStops 188 = .ok (.iload_n 3, 1) := by decide +kernel
theorem dX5_readyStops_189 : decode cX5_readyStops 189 = .ok (.iastore, 1) := by decide +kernel
theorem dX5_readyStops_190 : decode cX5_readyStops 190 = .ok (.aload_n 0, 1) := by decide +kernel
theorem dX5_readyStops_191 : decode cX5_readyStops 191 = .ok (.dup, 1) := by decide +kernel
theorem dX5_readyStops_192 : decode cX5_readyStops 192 = .ok (.getfield 124, 3) := by decide +kernel
theorem dX5_readyStops_195 : decode cX5_readyStops 195 = .ok (.iconst 1, 1) := by decide +kernel
theorem dX5_readyStops_196 : decode cX5_readyStops 196 = .ok (.iadd, 1) := by decide +kernel
theorem dX5_readyStops_197 : decode cX5_readyStops 197 = .ok (.putfield 124, 3) := by decide +kernel
theorem dX5_readyStops_200 : decode cX5_readyStops 200 = .ok (.iinc 3 1, 3) := by decide +kernel
theorem dX5_readyStops_203 : decode cX5_readyStops 203 = .ok (.goto (-42), 3) := by decide +kernel
theorem dX5_readyStops_206 : decode cX5_readyStops 206 = .ok (.aload_n 0, 1) := by decide +kernel
theorem dX5_readyStops_207 : decode cX5_readyStops 207 = .ok (.invokevirtual 131, 3) := by decide +kernel
theorem dX5_readyStops_210 : decode cX5_readyStops 210 = .ok (.return_, 1) := by decide +kernel
theorem dX5_seat_0 : decode cX5_seat 0 = .ok (.aload_n 0, 1) := by decide +kernel
theorem dX5_seat_1 : decode cX5_seat 1 = .ok (.iload_n 2, 1) := by decide +kernel
theorem dX5_seat_2 : decode cX5_seat 2 = .ok (.putfield 46, 3) := by decide +kernel
theorem dX5_seat_5 : decode cX5_seat 5 = .ok (.aload_n 0, 1) := by decide +kernel
theorem dX5_seat_6 : decode cX5_seat 6 = .ok (.aload_n 1, 1) := by decide +kernel
theorem dX5_seat_7 : decode cX5_seat 7 = .ok (.invokevirtual 50, 3) := by decide +kernel
theorem dX5_seat_10 : decode cX5_seat 10 = .ok (.aload_n 0, 1) := by decide +kernel
theorem dX5_seat_11 : decode cX5_seat 11 = .ok (.iload_n 3, 1) := by decide +kernel
theorem dX5_seat_12 : decode cX5_seat 12 = .ok (.invokevirtual 54, 3) := by decide +kernel
theorem dX5_seat_15 : decode cX5_seat 15 = .ok (.aload_n 0, 1) := by decide +kernel
theorem dX5_seat_16 : decode cX5_seat 16 = .ok (.iconst (-1), 1) := by decide +kernel
theorem dX5_seat_17 : decode cX5_seat 17 = .ok (.putfield 58, 3) := by decide +kernel
theorem dX5_seat_20 : decode cX5_seat 20 = .ok (.aload_n 0, 1) := by decide +kernel
theorem dX5_seat_21 : decode cX5_seat 21 = .ok (.iconst 0, 1) := by decide +kernel
theorem dX5_seat_22 : decode cX5_seat 22 = .ok (.iconst 0, 1) := by decide +kernel
theorem dX5_seat_23 : decode cX5_seat 23 = .ok (.invokevirtual 61, 3) := by decide +kernel
theorem dX5_seat_26 : decode cX5_seat 26 = .ok (.aload_n 0, 1) := by decide +kernel
theorem dX5_seat_27 : decode cX5_seat 27 = .ok (.getfield 58, 3) := by decide +kernel
theorem dX5_seat_30 : decode cX5_seat 30 = .ok (.ireturn, 1) := by decide +kernel
theorem dX9_layOut_0 : decode cX9_layOut 0 = .ok (.aload_n 0, 1) := by decide +kernel
theorem dX9_layOut_1 : decode cX9_layOut 1 = .ok (.getfield 9, 3) := by decide +kernel
theorem dX9_layOut_4 : decode cX9_layOut 4 = .ok (.aload_n 0, 1) := by decide +kernel
theorem dX9_layOut_5 : decode cX9_layOut 5 = .ok (.getfield 9, 3) := by decide +kernel
theorem dX9_layOut_8 : decode cX9_layOut 8 = .ok (.getfield 41, 3) := by decide +kernel
theorem dX9_layOut_11 : decode cX9_layOut 11 = .ok (.invokevirtual 47, 3) := by decide +kernel
theorem dX9_layOut_14 : decode cX9_layOut 14 = .ok (.istore_n 2, 1) := by decide +kernel
theorem dX9_layOut_15 : decode cX9_layOut 15 = .ok (.aload_n 0, 1) := by decide +kernel
theorem dX9_layOut_16 : decode cX9_layOut 16 = .ok (.iconst 0, 1) := by decide +kernel
theorem dX9_layOut_17 : decode cX9_layOut 17 = .ok (.putfield 51, 3) := by decide +kernel
theorem dX9_layOut_20 : decode cX9_layOut 20 = .ok (.iconst 0, 1) := by decide +kernel
theorem dX9_layOut_21 : decode cX9_layOut 21 = .ok (.istore_n 3, 1) := by decide +kernel
theorem dX9_layOut_22 : decode cX9_layOut 22 = .ok (.iload_n 3, 1) := by decide +kernel
theorem dX9_layOut_23 : decode cX9_layOut 23 = .ok (.aload_n 0, 1) := by decide +kernel
theorem dX9_layOut_24 : decode cX9_layOut 24 = .ok (.getfield 9, 3) := by decide +kernel
theorem dX9_layOut_27 : decode cX9_layOut 27 = .ok (.getfield 54, 3) := by decide +kernel
theorem dX9_layOut_30 : decode cX9_layOut 30 = .ok (.getfield 58, 3) := by decide +kernel
theorem dX9_layOut_33 : decode cX9_layOut 33 = .ok (.if_icmp .ge 76, 3) := by decide +kernel
theorem dX9_layOut_36 : decode cX9_layOut 36 = .ok (.aload_n 0, 1) := by decide +kernel
theorem dX9_layOut_37 : decode cX9_layOut 37 = .ok (.getfield 9, 3) := by decide +kernel
theorem dX9_layOut_40 : decode cX9_layOut 40 = .ok (.getfield 54, 3) := by decide +kernel
theorem dX9_layOut_43 : decode cX9_layOut 43 = .ok (.iload_n 3, 1) := by decide +kernel
theorem dX9_layOut_44 : decode cX9_layOut 44 = .ok (.aload_n 0, 1) := by decide +kernel
theorem dX9_layOut_45 : decode cX9_layOut 45 = .ok (.getfield 9, 3) := by decide +kernel
theorem dX9_layOut_48 : decode cX9_layOut 48 = .ok (.getfield 41, 3) := by decide +kernel
theorem dX9_layOut_51 : decode cX9_layOut 51 = .ok (.invokevirtual 59, 3) := by decide +kernel
theorem dX9_layOut_54 : decode cX9_layOut 54 = .ok (.ifCond .eq 23, 3) := by decide +kernel
theorem dX9_layOut_57 : decode cX9_layOut 57 = .ok (.aload_n 0, 1) := by decide +kernel
theorem dX9_layOut_58 : decode cX9_layOut 58 = .ok (.getfield 9, 3) := by decide +kernel
theorem dX9_layOut_61 : decode cX9_layOut 61 = .ok (.getfield 54, 3) := by decide +kernel
theorem dX9_layOut_64 : decode cX9_layOut 64 = .ok (.getfield 63, 3) := by decide +kernel
theorem dX9_layOut_67 : decode cX9_layOut 67 = .ok (.iload_n 3, 1) := by decide +kernel
theorem dX9_layOut_68 : decode cX9_layOut 68 = .ok (.iaload, 1) := by decide +kernel
theorem dX9_layOut_69 : decode cX9_layOut 69 = .ok (.iload_n 1, 1) := by decide +kernel
theorem dX9_layOut_70 : decode cX9_layOut 70 = .ok (.if_icmp .eq 7, 3) := by decide +kernel
theorem dX9_layOut_73 : decode cX9_layOut 73 = .ok (.iconst 1, 1) := by decide +kernel
theorem dX9_layOut_74 : decode cX9_layOut 74 = .ok (.goto 4, 3) := by decide +kernel
theorem dX9_layOut_77 : decode cX9_layOut 77 = .ok (.iconst 0, 1) := by decide +kernel
theorem dX9_layOut_78 : decode cX9_layOut 78 = .ok (.istore 4, 2) := by decide +kernel
theorem dX9_layOut_80 : decode cX9_layOut 80 = .ok (.iload 4, 2) := by decide +kernel
theorem dX9_layOut_82 : decode cX9_layOut 82 = .ok (.ifCond .eq 21, 3) := by decide +kernel
theorem dX9_layOut_85 : decode cX9_layOut 85 = .ok (.aload_n 0, 1) := by decide +kernel
theorem dX9_layOut_86 : decode cX9_layOut 86 = .ok (.getfield 9, 3) := by decide +kernel
theorem dX9_layOut_89 : decode cX9_layOut 89 = .ok (.iload_n 3, 1) := by decide +kernel
theorem dX9_layOut_90 : decode cX9_layOut 90 = .ok (.invokevirtual 66, 3) := by decide +kernel
theorem dX9_layOut_93 : decode cX9_layOut 93 = .ok (.ldc 69, 2) := by decide +kernel
theorem dX9_layOut_95 : decode cX9_layOut 95 = .ok (.if_icmp .ge 8, 3) := by decide +kernel
theorem dX9_layOut_98 : decode cX9_layOut 98 = .ok (.aload_n 0, 1) := by decide +kernel
theorem dX9_layOut_99 : decode cX9_layOut 99 = .ok (.iload_n 3, 1) := by decide +kernel
theorem dX9_layOut_100 : decode cX9_layOut 100 = .ok (.invokevirtual 70, 3) := by decide +kernel
theorem dX9_layOut_103 : decode cX9_layOut 103 = .ok (.iinc 3 1, 3) := by decide +kernel
theorem dX9_layOut_106 : decode cX9_layOut 106 = .ok (.goto (-84), 3) := by decide +kernel
theorem dX9_layOut_109 : decode cX9_layOut 109 = .ok (.iconst 0, 1) := by decide +kernel
theorem dX9_layOut_110 : decode cX9_layOut 110 = .ok (.istore_n 3, 1) := by decide +kernel
theorem dX9_layOut_111 : decode cX9_layOut 111 = .ok (.iload_n 3, 1) := by decide +kernel
theorem dX9_layOut_112 : decode cX9_layOut 112 = .ok (.aload_n 0, 1) := by decide +kernel
theorem dX9_layOut_113 : decode cX9_layOut 113 = .ok (.getfield 51, 3) := by decide +kernel
theorem dX9_layOut_116 : decode cX9_layOut 116 = .ok (.if_icmp .ge 110, 3) := by decide +kernel
theorem dX9_layOut_119 : decode cX9_layOut 119 = .ok (.aload_n 0, 1) := by decide +kernel
theorem dX9_layOut_120 : decode cX9_layOut 120 = .ok (.getfield 21, 3) := by decide +kernel
theorem dX9_layOut_123 : decode cX9_layOut 123 = .ok (.iload_n 3, 1) := by decide +kernel
theorem dX9_layOut_124 : decode cX9_layOut 124 = .ok (.aload_n 0, 1) := by decide +kernel
theorem dX9_layOut_125 : decode cX9_layOut 125 = .ok (.getfield 9, 3) := by decide +kernel
theorem dX9_layOut_128 : decode cX9_layOut 128 = .ok (.getfield 54, 3) := by decide +kernel
theorem dX9_layOut_131 : decode cX9_layOut 131 = .ok (.getfield 74, 3) := by decide +kernel
theorem dX9_layOut_134 : decode cX9_layOut 134 = .ok (.aload_n 0, 1) := by decide +kernel
theorem dX9_layOut_135 : decode cX9_layOut 135 = .ok (.getfield 17, 3) := by decide +kernel
theorem dX9_layOut_138 : decode cX9_layOut 138 = .ok (.iload_n 3, 1) := by decide +kernel
theorem dX9_layOut_139 : decode cX9_layOut 139 = .ok (.iaload, 1) := by decide +kernel
theorem dX9_layOut_140 : decode cX9_layOut 140 = .ok (.iaload, 1) := by decide +kernel
theorem dX9_layOut_141 : decode cX9_layOut 141 = .ok (.aload_n 0, 1) := by decide +kernel
theorem dX9_layOut_142 : decode cX9_layOut 142 = .ok (.getfield 9, 3) := by decide +kernel
theorem dX9_layOut_145 : decode cX9_layOut 145 = .ok (.aload_n 0, 1) := by decide +kernel
theorem dX9_layOut_146 : decode cX9_layOut 146 = .ok (.getfield 17, 3) := by decide +kernel
theorem dX9_layOut_149 : decode cX9_layOut 149 = .ok (.iload_n 3, 1) := by decide +kernel
theorem dX9_layOut_150 : decode cX9_layOut 150 = .ok (.iaload, 1) := by decide +kernel
theorem dX9_layOut_151 : decode cX9_layOut 151 = .ok (.iload_n 2, 1) := by decide +kernel
theorem dX9_layOut_152 : decode cX9_layOut 152 = .ok (.invokevirtual 77, 3) := by decide +kernel
theorem dX9_layOut_155 : decode cX9_layOut 155 = .ok (.iadd, 1) := by decide +kernel
theorem dX9_layOut_156 : decode cX9_layOut 156 = .ok (.iastore, 1) := by decide +kernel
theorem dX9_layOut_157 : decode cX9_layOut 157 = .ok (.aload_n 0, 1) := by decide +kernel
theorem dX9_layOut_158 : decode cX9_layOut 158 = .ok (.getfield 24, 3) := by decide +kernel
theorem dX9_layOut_161 : decode cX9_layOut 161 = .ok (.iload_n 3, 1) := by decide +kernel
theorem dX9_layOut_162 : decode cX9_layOut 162 = .ok (.aload_n 0, 1) := by decide +kernel
theorem dX9_layOut_163 : decode cX9_layOut 163 = .ok (.iload_n 3, 1) := by decide +kernel
theorem dX9_layOut_164 : decode cX9_layOut 164 = .ok (.aload_n 0, 1) := by decide +kernel
theorem dX9_layOut_165 : decode cX9_layOut 165 = .ok (.getfield 9, 3) := by decide +kernel
theorem dX9_layOut_168 : decode cX9_layOut 168 = .ok (.getfield 54, 3) := by decide +kernel
theorem dX9_layOut_171 : decode cX9_layOut 171 = .ok (.getfield 81, 3) := by decide +kernel
theorem dX9_layOut_174 : decode cX9_layOut 174 = .ok (.aload_n 0, 1) := by decide +kernel
theorem dX9_layOut_175 : decode cX9_layOut 175 = .ok (.getfield 17, 3) := by decide +kernel
theorem dX9_layOut_178 : decode cX9_layOut 178 = .ok (.iload_n 3, 1) := by decide +kernel
theorem dX9_layOut_179 : decode cX9_layOut 179 = .ok (.iaload, 1) := by decide +kernel
theorem dX9_layOut_180 : decode cX9_layOut 180 = .ok (.iaload, 1) := by decide +kernel
theorem dX9_layOut_181 : decode cX9_layOut 181 = .ok (.iconst 0, 1) := by decide +kernel
theorem dX9_layOut_182 : decode cX9_layOut 182 = .ok (.invokevirtual 84, 3) := by decide +kernel
theorem dX9_layOut_185 : decode cX9_layOut 185 = .ok (.iastore, 1) := by decide +kernel
theorem dX9_layOut_186 : decode cX9_layOut 186 = .ok (.aload_n 0, 1) := by decide +kernel
theorem dX9_layOut_187 : decode cX9_layOut 187 = .ok (.getfield 27, 3) := by decide +kernel
theorem dX9_layOut_190 : decode cX9_layOut 190 = .ok (.iload_n 3, 1) := by decide +kernel
theorem dX9_layOut_191 : decode cX9_layOut 191 = .ok (.aload_n 0, 1) := by decide +kernel
theorem dX9_layOut_192 : decode cX9_layOut 192 = .ok (.iload_n 3, 1) := by decide +kernel
theorem dX9_layOut_193 : decode cX9_layOut 193 = .ok (.aload_n 0, 1) := by decide +kernel
theorem dX9_layOut_194 : decode cX9_layOut 194 = .ok (.getfield 9, 3) := by decide +kernel
theorem dX9_layOut_197 : decode cX9_layOut 197 = .ok (.getfield 54, 3) := by decide +kernel
theorem dX9_layOut_200 : decode cX9_layOut 200 = .ok (.getfield 88, 3) := by decide +kernel
theorem dX9_layOut_203 : decode cX9_layOut 203 = .ok (.aload_n 0, 1) := by decide +kernel
theorem dX9_layOut_204 : decode cX9_layOut 204 = .ok (.getfield 17, 3) := by decide +kernel
theorem dX9_layOut_207 : decode cX9_layOut 207 = .ok (.iload_n 3, 1) := by decide +kernel
theorem dX9_layOut_208 : decode cX9_layOut 208 = .ok (.iaload, 1) := by decide +kernel
theorem dX9_layOut_209 : decode cX9_layOut 209 = .ok (.iaload, 1) := by decide +kernel
theorem dX9_layOut_210 : decode cX9_layOut 210 = .ok (.aload_n 0, 1) := by decide +kernel
theorem dX9_layOut_211 : decode cX9_layOut 211 = .ok (.getfield 21, 3) := by decide +kernel
theorem dX9_layOut_214 : decode cX9_layOut 214 = .ok (.iload_n 3, 1) := by decide +kernel
theorem dX9_layOut_215 : decode cX9_layOut 215 = .ok (.iaload, 1) := by decide +kernel
theorem dX9_layOut_216 : decode cX9_layOut 216 = .ok (.invokevirtual 84, 3) := by decide +kernel
theorem dX9_layOut_219 : decode cX9_layOut 219 = .ok (.iastore, 1) := by decide +kernel
theorem dX9_layOut_220 : decode cX9_layOut 220 = .ok (.iinc 3 1, 3) := by decide +kernel
theorem dX9_layOut_223 : decode cX9_layOut 223 = .ok (.goto (-112), 3) := by decide +kernel
theorem dX9_layOut_226 : decode cX9_layOut 226 = .ok (.return_, 1) := by decide +kernel
set_option maxHeartbeats 4000000 in
set_option maxRecDepth 100000 in
theorem x_standsAhead (l : Launch) (dC : Nat → ClassId) (dI : Nat → Nat → Nat) (sz : Nat) (ob ad : Nat → Nat) (cA : Nat → ClassId) (hd : dX ob ad) (fv : Nat → Int32) (wd : xT) (ar : Nat → Nat → Int32) (hF_fv : rX fv) (hA_ar : rB ar) (pl : Int32) (h_pl : 0 ≤ pl.toInt ∧ pl.toInt ≤ 4) : Met l yX11_standsAhead (.code yX11_standsAhead cX11_standsAhead 3 (some .boolean) :: lw_good) ({ frames := 2, cells := 0, slots := 0, locals := 40 }) (va_Pc [.ref (ob 0), .int pl] (prX dC dI ob ad cA fv wd ar sz)) (va_Qi (fun (r : Int32) (u : xS) => rX u.1 ∧ rB u.2.2 ∧ fM [] fv u.1 ∧ fA [] ar u.2.2 ∧ u.2.1.2 = wd.2 ∧ (0 ≤ r.toInt ∧ r.toInt ≤ 1) ∧ True) (enX dC dI ob ad cA) (aX ob ad sz)) 0 0 (aX ob ad sz) := by
  refine Met.ofW (cc := cX11_standsAhead) (maxL := 3) (ret := (some .boolean)) (by decide) rfl ?_
  intro p e s m args below meth c s₁ B hml hv
  obtain ⟨rfl, hsz, hP, hK⟩ := hv
  have hx := B.exec
  have hb := B.bytes
  have hr := B.returns
  have hts := atoms_spec (ws := (.code yX11_standsAhead cX11_standsAhead 3 (some .boolean) :: lw_good)) B.pre
  have htg : ∀ w ∈ lw_good, w.before _ s = true := fun w hw => hts w (List.mem_cons_of_mem _ hw)
  have hown : s.vm.findClass RX11 = some m.cls := findClass_of_methodNamed B.named
  have hlocks := B.notSynchronized
  subst hsz
  have hS : va_S (aX ob ad s.heap.size) s.heap s.heap [] := va_S.rf
  have hl := lv_entry ([.ref (ob 0), .int pl]) (n := 3) (Nat.le_of_ble_eq_true rfl)
  rw [lg_entry_eq]
  generalize (lg_sl ([.ref (ob 0), .int pl]) ++ List.replicate (3 - (lg_sl ([.ref (ob 0), .int pl])).length) Slot.unset).toArray = ls at hl ⊢
  have hl : lv_has ls 3 [(0, .ref (ob 0)), (1, .int pl)] := hl
  refine lv_iconst (v := 0) hx hb dX11_standsAhead_0 (by decide) ?_
  refine lv_istore_n (lv' := [(2, .int 0), (0, .ref (ob 0)), (1, .int pl)]) hx hb dX11_standsAhead_1 rfl hl (by decide) rfl (fun ls hl => ?_)
  refine my_cut (P := fun R9 a9 Q9 => ∀ (n_2 : Nat) (x_1 : Int32) (H : Heap) (locs : List Loc) (ls : Array Slot), 4 - x_1.toInt < (n_2 : Int) → (0 ≤ x_1.toInt ∧ x_1.toInt ≤ 4) → va_P (dC, dI) vwCl (wsX ob ad cA fv wd ar) H → va_S (aX ob ad s.heap.size) s.heap H locs → lv_has ls 3 [(0, .ref (ob 0)), (1, .int pl), (2, .int x_1)] → W p l e R9 s m a9 below meth c H locs 0 0 Q9 (F0 m 2 ls [])) ?_ (fun hj_4 => ?_)
  · intro n_2
    induction n_2 with
    | zero => intro x_1 H locs ls fu_3 i_x_1; exfalso; omega
    | succ n_2 ih_2 =>
      intro x_1 H locs ls fu_3 i_x_1 hP hS hl
      refine lv_iload_n hx hb dX11_standsAhead_2 rfl (lv_at hl 2 rfl) ?_
      refine lv_iload_n hx hb dX11_standsAhead_3 rfl (lv_at hl 1 rfl) ?_
      refine lv_icmp_ge (tgt := 30) hx hb dX11_standsAhead_4 (by decide) (fun c_5 => ?_) (fun c_5 => ?_)
      · skip
        refine lv_iconst (v := 0) hx hb dX11_standsAhead_30 (by decide) ?_
        exact W.zret (v := 0) hx hb hr (by decide) (fun t ht hW => ⟨⟨0, (fv, wd, ar), rfl, ⟨hF_fv, hA_ar, (fM_rf [] _), (fA_rf [] _), rfl, (iv_w (⟨by decide, by decide⟩ : (0 : Int) ≤ (0 : Int32).toInt ∧ (0 : Int32).toInt ≤ 0) (by decide) (by decide)), trivial⟩, ⟨by rw [ht]; exact hP, va_K.moved hW.alike hK⟩⟩, hS.F ht⟩) hS.2.2 dX11_standsAhead_31
      · skip
        have i_6 : 0 ≤ x_1.toInt ∧ x_1.toInt ≤ 3 := iv_lt1 i_x_1 h_pl (Int32.not_le.mp c_5)
        have i_7 : 1 ≤ pl.toInt ∧ pl.toInt ≤ 4 := iv_lt2 i_x_1 h_pl (Int32.not_le.mp c_5)
        refine lv_aload_n hx hb dX11_standsAhead_7 rfl (lv_at hl 0 rfl) ?_
        refine gX_X11_9 hx hb htg hown hK hP dX11_standsAhead_8 ?_
        refine lv_iload_n hx hb dX11_standsAhead_11 rfl (lv_at hl 2 rfl) ?_
        refine lX_1 hx hb hK hP (iv_in i_6 (by decide) (by decide)) dX11_standsAhead_12 (fun v_8 ev_8 => ?_)
        have i_9 : 0 ≤ v_8.toInt ∧ v_8.toInt ≤ 255 := ev_8 ▸ hA_ar 1 _
        refine lv_aload_n hx hb dX11_standsAhead_13 rfl (lv_at hl 0 rfl) ?_
        refine gX_X11_9 hx hb htg hown hK hP dX11_standsAhead_14 ?_
        refine lv_iload_n hx hb dX11_standsAhead_17 rfl (lv_at hl 1 rfl) ?_
        refine lX_1 hx hb hK hP (iv_in i_7 (by decide) (by decide)) dX11_standsAhead_18 (fun v_10 ev_10 => ?_)
        have i_11 : 0 ≤ v_10.toInt ∧ v_10.toInt ≤ 255 := ev_10 ▸ hA_ar 1 _
        refine lv_icmp_ne (tgt := 24) hx hb dX11_standsAhead_19 (by decide) (fun c_12 => ?_) (fun c_12 => ?_)
        · skip
          obtain ⟨v_13, ev_13⟩ : ∃ z : Int32, z = x_1 + 1 := ⟨_, rfl⟩
          refine lv_iinc (v := v_13) (lv' := [(2, .int v_13), (0, .ref (ob 0)), (1, .int pl)]) hx hb dX11_standsAhead_24 hl (k := 2) rfl (by rw [ev_13]; rfl) (by decide) rfl (fun ls hl => ?_)
          have t_14 : v_13.toInt = x_1.toInt + 1 ∧ 1 ≤ v_13.toInt ∧ v_13.toInt ≤ 4 := iv_addc ev_13 i_6 (by decide) (by decide) (by decide)
          refine lv_goto (tgt := 2) hx hb dX11_standsAhead_27 (by decide) ?_
          exact ih_2 v_13 _ _ ls (by omega) (iv_w t_14.2 (by decide) (by decide)) hP hS (lv_sub hl [1, 2, 0] rfl)
        · skip
          refine lv_iconst (v := 1) hx hb dX11_standsAhead_22 (by decide) ?_
          exact W.zret (v := 1) hx hb hr (by decide) (fun t ht hW => ⟨⟨1, (fv, wd, ar), rfl, ⟨hF_fv, hA_ar, (fM_rf [] _), (fA_rf [] _), rfl, (iv_w (⟨by decide, by decide⟩ : (1 : Int) ≤ (1 : Int32).toInt ∧ (1 : Int32).toInt ≤ 1) (by decide) (by decide)), trivial⟩, ⟨by rw [ht]; exact hP, va_K.moved hW.alike hK⟩⟩, hS.F ht⟩) hS.2.2 dX11_standsAhead_23
  · skip
    have z_16 : (0 : Int32).toInt = 0 := by decide
    exact hj_4 5 0 _ _ ls (by first | decide | omega) (iv_w (⟨by decide, by decide⟩ : (0 : Int) ≤ (0 : Int32).toInt ∧ (0 : Int32).toInt ≤ 0) (by decide) (by decide)) hP hS (lv_sub hl [1, 2, 0] rfl)
set_option maxHeartbeats 4000000 in
set_option maxRecDepth 100000 in
theorem x_tapeIsWheels (l : Launch) (dC : Nat → ClassId) (dI : Nat → Nat → Nat) (sz : Nat) (ob ad : Nat → Nat) (cA : Nat → ClassId) (hd : dX ob ad) (fv : Nat → Int32) (wd : xT) (ar : Nat → Nat → Int32) (hF_fv : rX fv) (hA_ar : rB ar) : Met l yX11_tapeIsWheels (.code yX11_tapeIsWheels cX11_tapeIsWheels 2 (some .boolean) :: lw_good) ({ frames := 3, cells := 0, slots := 0, locals := 62 }) (va_Pc [.ref (ob 0)] (prX dC dI ob ad cA fv wd ar sz)) (va_Qi (fun (r : Int32) (u : xS) => rX u.1 ∧ rB u.2.2 ∧ fM [] fv u.1 ∧ fA [] ar u.2.2 ∧ u.2.1.2 = wd.2 ∧ (0 ≤ r.toInt ∧ r.toInt ≤ 1) ∧ ((r = 0 ∧ True) ∨ (r = 1 ∧ (1 ≤ (fv 0).toInt) ∧ ((fv 0).toInt ≤ 5) ∧ (∀ j : Nat, (j : Int) < (fv 0).toInt → (ar 1 j).toInt ≤ 19))) ∧ True) (enX dC dI ob ad cA) (aX ob ad sz)) 0 0 (aX ob ad sz) := by
  refine Met.ofW (cc := cX11_tapeIsWheels) (maxL := 2) (ret := (some .boolean)) (by decide) rfl ?_
  intro p e s m args below meth c s₁ B hml hv
  obtain ⟨rfl, hsz, hP, hK⟩ := hv
  have hx := B.exec
  have hb := B.bytes
  have hr := B.returns
  have hts := atoms_spec (ws := (.code yX11_tapeIsWheels cX11_tapeIsWheels 2 (some .boolean) :: lw_good)) B.pre
  have htg : ∀ w ∈ lw_good, w.before _ s = true := fun w hw => hts w (List.mem_cons_of_mem _ hw)
  have hown : s.vm.findClass RX11 = some m.cls := findClass_of_methodNamed B.named
  have hlocks := B.notSynchronized
  subst hsz
  have hS : va_S (aX ob ad s.heap.size) s.heap s.heap [] := va_S.rf
  have hl := lv_entry ([.ref (ob 0)]) (n := 2) (Nat.le_of_ble_eq_true rfl)
  rw [lg_entry_eq]
  generalize (lg_sl ([.ref (ob 0)]) ++ List.replicate (2 - (lg_sl ([.ref (ob 0)])).length) Slot.unset).toArray = ls at hl ⊢
  have hl : lv_has ls 2 [(0, .ref (ob 0))] := hl
  refine lv_aload_n hx hb dX11_tapeIsWheels_0 rfl (lv_at hl 0 rfl) ?_
  refine gX_X11_50 hx hb htg hown hK hP dX11_tapeIsWheels_1 ?_
  have i_1 : 0 ≤ (fv 0).toInt ∧ (fv 0).toInt ≤ 340 := hF_fv 0
  refine lv_iconst (v := 1) hx hb dX11_tapeIsWheels_4 (by decide) ?_
  refine lv_icmp_lt (tgt := 16) hx hb dX11_tapeIsWheels_5 (by decide) (fun c_2 => ?_) (fun c_2 => ?_)
  · skip
    have i_3 : 0 ≤ (fv 0).toInt ∧ (fv 0).toInt ≤ 0 := iv_lt1 i_1 (⟨by decide, by decide⟩ : (1 : Int) ≤ (1 : Int32).toInt ∧ (1 : Int32).toInt ≤ 1) c_2
    refine lv_iconst (v := 0) hx hb dX11_tapeIsWheels_16 (by decide) ?_
    exact W.zret (v := 0) hx hb hr (by decide) (fun t ht hW => ⟨⟨0, (fv, wd, ar), rfl, ⟨hF_fv, hA_ar, (fM_rf [] _), (fA_rf [] _), rfl, (iv_w (⟨by decide, by decide⟩ : (0 : Int) ≤ (0 : Int32).toInt ∧ (0 : Int32).toInt ≤ 0) (by decide) (by decide)), (Or.inl ⟨rfl, trivial⟩), trivial⟩, ⟨by rw [ht]; exact hP, va_K.moved hW.alike hK⟩⟩, hS.F ht⟩) hS.2.2 dX11_tapeIsWheels_17
  · skip
    have i_4 : 1 ≤ (fv 0).toInt ∧ (fv 0).toInt ≤ 340 := iv_le2 (⟨by decide, by decide⟩ : (1 : Int) ≤ (1 : Int32).toInt ∧ (1 : Int32).toInt ≤ 1) i_1 (Int32.not_lt.mp c_2)
    refine lv_aload_n hx hb dX11_tapeIsWheels_8 rfl (lv_at hl 0 rfl) ?_
    refine gX_X11_50 hx hb htg hown hK hP dX11_tapeIsWheels_9 ?_
    refine lv_iconst (v := 5) hx hb dX11_tapeIsWheels_12 (by decide) ?_
    refine lv_icmp_le (tgt := 18) hx hb dX11_tapeIsWheels_13 (by decide) (fun c_5 => ?_) (fun c_5 => ?_)
    · skip
      have i_6 : 1 ≤ (fv 0).toInt ∧ (fv 0).toInt ≤ 5 := iv_le1 i_4 (⟨by decide, by decide⟩ : (5 : Int) ≤ (5 : Int32).toInt ∧ (5 : Int32).toInt ≤ 5) c_5
      refine lv_iconst (v := 0) hx hb dX11_tapeIsWheels_18 (by decide) ?_
      refine lv_istore_n (lv' := [(1, .int 0), (0, .ref (ob 0))]) hx hb dX11_tapeIsWheels_19 rfl hl (by decide) rfl (fun ls hl => ?_)
      refine my_cut (P := fun R9 a9 Q9 => ∀ (n_15 : Nat) (x_7 : Int32) (fv_8 : Nat → Int32) (ar_10 : Nat → Nat → Int32) (wd_12 : xT) (H : Heap) (locs : List Loc) (ls : Array Slot), 5 - x_7.toInt < (n_15 : Int) → (0 ≤ x_7.toInt ∧ x_7.toInt ≤ 5) → rX fv_8 → fM [] fv fv_8 → rB ar_10 → fA [] ar ar_10 → wd_12.2 = wd.2 → (∀ j : Nat, (j : Int) < x_7.toInt → (ar 1 j).toInt ≤ 19) → va_P (dC, dI) vwCl (wsX ob ad cA fv_8 wd_12 ar_10) H → va_S (aX ob ad s.heap.size) s.heap H locs → lv_has ls 2 [(0, .ref (ob 0)), (1, .int x_7)] → W p l e R9 s m a9 below meth c H locs 0 0 Q9 (F0 m 20 ls [])) ?_ (fun hj_17 => ?_)
      · intro n_15
        induction n_15 with
        | zero => intro x_7 fv_8 ar_10 wd_12 H locs ls fu_16 i_x_7 hF_fv_8 fr_9 hA_ar_10 fa_11 wf_13 q_14; exfalso; omega
        | succ n_15 ih_15 =>
          intro x_7 fv_8 ar_10 wd_12 H locs ls fu_16 i_x_7 hF_fv_8 fr_9 hA_ar_10 fa_11 wf_13 q_14 hP hS hl
          refine lv_iload_n hx hb dX11_tapeIsWheels_20 rfl (lv_at hl 1 rfl) ?_
          refine lv_aload_n hx hb dX11_tapeIsWheels_21 rfl (lv_at hl 0 rfl) ?_
          refine gX_X11_50 hx hb htg hown hK hP dX11_tapeIsWheels_22 ?_
          refine my_ti (y := fv 0) ((fr_9 0 rfl)) ?_
          refine lv_icmp_ge (tgt := 63) hx hb dX11_tapeIsWheels_25 (by decide) (fun c_18 => ?_) (fun c_18 => ?_)
          · skip
            have i_19 : 1 ≤ x_7.toInt ∧ x_7.toInt ≤ 5 := iv_le2 i_6 i_x_7 c_18
            have k_20 := Int32.le_iff_toInt_le.mp c_18
            refine lv_iconst (v := 1) hx hb dX11_tapeIsWheels_63 (by decide) ?_
            exact W.zret (v := 1) hx hb hr (by decide) (fun t ht hW => ⟨⟨1, (fv_8, wd_12, ar_10), rfl, ⟨hF_fv_8, hA_ar_10, (fM_call (fM_rf [] _) fr_9 (by decide)), (fA_call (fA_rf [] _) fa_11 (by decide)), wf_13, (iv_w (⟨by decide, by decide⟩ : (1 : Int) ≤ (1 : Int32).toInt ∧ (1 : Int32).toInt ≤ 1) (by decide) (by decide)), (Or.inr (⟨rfl, ⟨by omega, by omega, fun j hj => q_14 j (by omega)⟩⟩)), trivial⟩, ⟨by rw [ht]; exact hP, va_K.moved hW.alike hK⟩⟩, hS.F ht⟩) hS.2.2 dX11_tapeIsWheels_64
          · skip
            have i_21 : 0 ≤ x_7.toInt ∧ x_7.toInt ≤ 4 := iv_lt1 i_x_7 i_6 (Int32.not_le.mp c_18)
            have k_22 := Int32.lt_iff_toInt_lt.mp (Int32.not_le.mp c_18)
            refine lv_aload_n hx hb dX11_tapeIsWheels_28 rfl (lv_at hl 0 rfl) ?_
            refine gX_X11_16 hx hb htg hown hK hP dX11_tapeIsWheels_29 ?_
            refine gX_X11_101 hx hb htg hown hK hP dX11_tapeIsWheels_32 ?_
            refine lv_aload_n hx hb dX11_tapeIsWheels_35 rfl (lv_at hl 0 rfl) ?_
            refine gX_X11_9 hx hb htg hown hK hP dX11_tapeIsWheels_36 ?_
            refine lv_iload_n hx hb dX11_tapeIsWheels_39 rfl (lv_at hl 1 rfl) ?_
            refine lX_1 hx hb hK hP (iv_in i_21 (by decide) (by decide)) dX11_tapeIsWheels_40 (fun v_23 ev_23 => ?_)
            have i_24 : 0 ≤ v_23.toInt ∧ v_23.toInt ≤ 255 := ev_23 ▸ hA_ar_10 1 _
            refine va_calli (va_runV (As := [.int v_23]) (rest := []) ⟨hx, hb, hml, hown, hts⟩ (x_wheels_has l dC dI H.size ob ad cA hd fv_8 wd_12 ar_10 hF_fv_8 hA_ar_10 v_23) (cwV 1 hts (gV kw_3_198 kw_3_199 kw_3_200 kw_1_5 kw_3_201) rfl rfl rfl (by decide +kernel) ⟨Nat.le_of_ble_eq_true rfl, Nat.le_of_ble_eq_true rfl⟩) ⟨fun a U g mk q => ⟨q.1, q.2.1, q.2.2.1, va_K.moved (u := U) (U := U.calling g mk a) (Vm.Alike.refl U.vm) q.2.2.2⟩, va_recv hK hP (ci := 10) (q0 := 4) rfl rfl, fun U hU hW => ⟨rfl, by rw [hU], by rw [hU]; exact hP, va_K.moved hW.alike hK⟩⟩ rfl rfl hl.1 rfl (lv_room (Nat.le_of_ble_eq_true rfl)) dX11_tapeIsWheels_41 ⟨Nat.le_of_ble_eq_true rfl, Nat.le_of_ble_eq_true rfl⟩) hS (fun q _ h9 => aX_up hS q h9) (aX_up hS) (fun r_25 u t H1 locs ht _ hw hB _ hk1 hS => ?_)
            obtain ⟨fv_28, wd_29, ar_30⟩ := u
            obtain ⟨hF_fv_28, hA_ar_30, fr_31, fa_32, wf_33, p_26, p_27, -⟩ := hw
            have wf_33 : wd_29.2 = wd_12.2 := wf_33
            have hP : va_P (dC, dI) vwCl (wsX ob ad cA fv_28 wd_29 ar_30) H1 := by have h9 := hB.1; rw [ht] at h9; exact h9
            have fr_31 : fM [] fv_8 fv_28 := fr_31
            have fa_32 : fA [] ar_10 ar_30 := fa_32
            generalize H1 = H at hP hS ⊢
            rcases p_27 with ⟨rfl, p_27⟩ | ⟨rfl, p_27⟩
            · skip
              refine lv_if_eq (tgt := 55) hx hb dX11_tapeIsWheels_44 (by decide) (fun c_34 => ?_) (fun c_34 => ?_)
              · skip
                refine lv_iconst (v := 0) hx hb dX11_tapeIsWheels_55 (by decide) ?_
                exact W.zret (v := 0) hx hb hr (by decide) (fun t ht hW => ⟨⟨0, (fv_28, wd_29, ar_30), rfl, ⟨hF_fv_28, hA_ar_30, (fM_call (fM_call (fM_rf [] _) fr_9 (by decide)) fr_31 (by decide)), (fA_call (fA_call (fA_rf [] _) fa_11 (by decide)) fa_32 (by decide)), (wf_33.trans wf_13), (iv_w (⟨by decide, by decide⟩ : (0 : Int) ≤ (0 : Int32).toInt ∧ (0 : Int32).toInt ≤ 0) (by decide) (by decide)), (Or.inl ⟨rfl, trivial⟩), trivial⟩, ⟨by rw [ht]; exact hP, va_K.moved hW.alike hK⟩⟩, hS.F ht⟩) hS.2.2 dX11_tapeIsWheels_56
              · skip
                exact absurd c_34 (by decide)
            · skip
              have i_35 : 0 ≤ v_23.toInt ∧ v_23.toInt ≤ 19 := ⟨i_24.1, p_27.2⟩
              refine lv_if_eq (tgt := 55) hx hb dX11_tapeIsWheels_44 (by decide) (fun c_36 => ?_) (fun c_36 => ?_)
              · skip
                exact absurd c_36 (by decide)
              · skip
                refine lv_aload_n hx hb dX11_tapeIsWheels_47 rfl (lv_at hl 0 rfl) ?_
                refine lv_iload_n hx hb dX11_tapeIsWheels_48 rfl (lv_at hl 1 rfl) ?_
                refine va_calli (va_runV (As := [.int x_7]) (rest := []) ⟨hx, hb, hml, hown, hts⟩ (x_standsAhead l dC dI H.size ob ad cA hd fv_28 wd_29 ar_30 hF_fv_28 hA_ar_30 x_7 i_21) (cwV 1 hts (gV kw_6_5 kw_6_7 kw_p_48 kw_1_1 kw_6_8) rfl rfl rfl (by decide +kernel) ⟨Nat.le_of_ble_eq_true rfl, Nat.le_of_ble_eq_true rfl⟩) ⟨fun a U g mk q => ⟨q.1, q.2.1, q.2.2.1, va_K.moved (u := U) (U := U.calling g mk a) (Vm.Alike.refl U.vm) q.2.2.2⟩, va_recv hK hP (ci := 11) (q0 := 0) rfl rfl, fun U hU hW => ⟨rfl, by rw [hU], by rw [hU]; exact hP, va_K.moved hW.alike hK⟩⟩ rfl rfl hl.1 rfl (lv_room (Nat.le_of_ble_eq_true rfl)) dX11_tapeIsWheels_49 ⟨Nat.le_of_ble_eq_true rfl, Nat.le_of_ble_eq_true rfl⟩) hS (fun q _ h9 => aX_up hS q h9) (aX_up hS) (fun r_37 u t H1 locs ht _ hw hB _ hk1 hS => ?_)
                obtain ⟨fv_39, wd_40, ar_41⟩ := u
                obtain ⟨hF_fv_39, hA_ar_41, fr_42, fa_43, wf_44, p_38, -⟩ := hw
                have wf_44 : wd_40.2 = wd_29.2 := wf_44
                have hP : va_P (dC, dI) vwCl (wsX ob ad cA fv_39 wd_40 ar_41) H1 := by have h9 := hB.1; rw [ht] at h9; exact h9
                have fr_42 : fM [] fv_28 fv_39 := fr_42
                have fa_43 : fA [] ar_30 ar_41 := fa_43
                generalize H1 = H at hP hS ⊢
                refine lv_if_eq (tgt := 57) hx hb dX11_tapeIsWheels_52 (by decide) (fun c_45 => ?_) (fun c_45 => ?_)
                · skip
                  have i_46 : 0 ≤ r_37.toInt ∧ r_37.toInt ≤ 0 := iv_eq1 (⟨by decide, by decide⟩ : (0 : Int) ≤ (0 : Int32).toInt ∧ (0 : Int32).toInt ≤ 0) c_45
                  obtain ⟨v_48, ev_48⟩ : ∃ z : Int32, z = x_7 + 1 := ⟨_, rfl⟩
                  refine lv_iinc (v := v_48) (lv' := [(1, .int v_48), (0, .ref (ob 0))]) hx hb dX11_tapeIsWheels_57 hl (k := 1) rfl (by rw [ev_48]; rfl) (by decide) rfl (fun ls hl => ?_)
                  have t_49 : v_48.toInt = x_7.toInt + 1 ∧ 1 ≤ v_48.toInt ∧ v_48.toInt ≤ 5 := iv_addc ev_48 i_21 (by decide) (by decide) (by decide)
                  refine lv_goto (tgt := 20) hx hb dX11_tapeIsWheels_60 (by decide) ?_
                  exact ih_15 v_48 fv_39 ar_41 wd_40 _ _ ls (by omega) (iv_w t_49.2 (by decide) (by decide)) hF_fv_39 (fM_call (fM_call (fM_call (fM_rf [] _) fr_9 (by decide)) fr_31 (by decide)) fr_42 (by decide)) hA_ar_41 (fA_call (fA_call (fA_call (fA_rf [] _) fa_11 (by decide)) fa_32 (by decide)) fa_43 (by decide)) (wf_44.trans (wf_33.trans wf_13)) (fun j hj => by rcases Int.lt_or_le (j : Int) x_7.toInt with c9 | c9; exact q_14 j c9; rw [show j = x_7.toInt.toNat from by omega]; show (ar 1 (Int32.toNatClampNeg x_7)).toInt ≤ 19; rw [← ((fA_call (fA_rf [] _) fa_11 (by decide)) 1 rfl), ← ev_23]; exact (i_35).2) hP hS (lv_sub hl [1, 0] rfl)
                · skip
                  have i_51 : 1 ≤ r_37.toInt ∧ r_37.toInt ≤ 1 := iv_nel p_38 (by decide) c_45
                  have k_52 : ¬ r_37.toInt = 0 := fun q => c_45 (Int32.toInt_inj.mp q)
                  refine lv_iconst (v := 0) hx hb dX11_tapeIsWheels_55 (by decide) ?_
                  exact W.zret (v := 0) hx hb hr (by decide) (fun t ht hW => ⟨⟨0, (fv_39, wd_40, ar_41), rfl, ⟨hF_fv_39, hA_ar_41, (fM_call (fM_call (fM_call (fM_rf [] _) fr_9 (by decide)) fr_31 (by decide)) fr_42 (by decide)), (fA_call (fA_call (fA_call (fA_rf [] _) fa_11 (by decide)) fa_32 (by decide)) fa_43 (by decide)), (wf_44.trans (wf_33.trans wf_13)), (iv_w (⟨by decide, by decide⟩ : (0 : Int) ≤ (0 : Int32).toInt ∧ (0 : Int32).toInt ≤ 0) (by decide) (by decide)), (Or.inl ⟨rfl, trivial⟩), trivial⟩, ⟨by rw [ht]; exact hP, va_K.moved hW.alike hK⟩⟩, hS.F ht⟩) hS.2.2 dX11_tapeIsWheels_56
      · skip
        have z_53 : (0 : Int32).toInt = 0 := by decide
        exact hj_17 6 0 fv ar wd _ _ ls (by first | decide | omega) (iv_w (⟨by decide, by decide⟩ : (0 : Int) ≤ (0 : Int32).toInt ∧ (0 : Int32).toInt ≤ 0) (by decide) (by decide)) hF_fv (fM_rf [] _) hA_ar (fA_rf [] _) rfl (fun j hj => absurd hj (by omega)) hP hS (lv_sub hl [1, 0] rfl)
    · skip
      have i_54 : 6 ≤ (fv 0).toInt ∧ (fv 0).toInt ≤ 340 := iv_lt2 (⟨by decide, by decide⟩ : (5 : Int) ≤ (5 : Int32).toInt ∧ (5 : Int32).toInt ≤ 5) i_4 (Int32.not_le.mp c_5)
      refine lv_iconst (v := 0) hx hb dX11_tapeIsWheels_16 (by decide) ?_
      exact W.zret (v := 0) hx hb hr (by decide) (fun t ht hW => ⟨⟨0, (fv, wd, ar), rfl, ⟨hF_fv, hA_ar, (fM_rf [] _), (fA_rf [] _), rfl, (iv_w (⟨by decide, by decide⟩ : (0 : Int) ≤ (0 : Int32).toInt ∧ (0 : Int32).toInt ≤ 0) (by decide) (by decide)), (Or.inl ⟨rfl, trivial⟩), trivial⟩, ⟨by rw [ht]; exact hP, va_K.moved hW.alike hK⟩⟩, hS.F ht⟩) hS.2.2 dX11_tapeIsWheels_17
set_option maxHeartbeats 4000000 in
set_option maxRecDepth 100000 in
theorem x_fillB (l : Launch) (dC : Nat → ClassId) (dI : Nat → Nat → Nat) (sz : Nat) (ob ad : Nat → Nat) (cA : Nat → ClassId) (hd : dX ob ad) (fv : Nat → Int32) (wd : xT) (ar : Nat → Nat → Int32) (hF_fv : rX fv) (hA_ar : rB ar) (vv : Int32) : Met l yJ7_fill_53178 (.code yJ7_fill_53178 cJ7_fill_53178 4 none :: lw_good) ({ frames := 2, cells := 0, slots := 0, locals := 40 }) (va_Pc [.ref (ad 57), .int vv] (prX dC dI ob ad cA fv wd ar sz)) (va_Qv (fun (u : xS) => rX u.1 ∧ rB u.2.2 ∧ fM [] fv u.1 ∧ fA [57] ar u.2.2 ∧ u.2.1.2 = wd.2 ∧ True) (enX dC dI ob ad cA) (aX ob ad sz)) 0 0 (aX ob ad sz) := by
  refine Met.ofW (cc := cJ7_fill_53178) (maxL := 4) (ret := none) (by decide) rfl ?_
  intro p e s m args below meth c s₁ B hml hv
  obtain ⟨rfl, hsz, hP, hK⟩ := hv
  have hx := B.exec
  have hb := B.bytes
  have hr := B.returns
  have hts := atoms_spec (ws := (.code yJ7_fill_53178 cJ7_fill_53178 4 none :: lw_good)) B.pre
  have htg : ∀ w ∈ lw_good, w.before _ s = true := fun w hw => hts w (List.mem_cons_of_mem _ hw)
  have hown : s.vm.findClass RJ7 = some m.cls := findClass_of_methodNamed B.named
  have hlocks := B.notSynchronized
  subst hsz
  have hS : va_S (aX ob ad s.heap.size) s.heap s.heap [] := va_S.rf
  have hl := lv_entry ([.ref (ad 57), .int vv]) (n := 4) (Nat.le_of_ble_eq_true rfl)
  rw [lg_entry_eq]
  generalize (lg_sl ([.ref (ad 57), .int vv]) ++ List.replicate (4 - (lg_sl ([.ref (ad 57), .int vv])).length) Slot.unset).toArray = ls at hl ⊢
  have hl : lv_has ls 4 [(0, .ref (ad 57)), (1, .int vv)] := hl
  refine lv_iconst (v := 0) hx hb dJ7_fill_53178_0 (by decide) ?_
  refine lv_istore_n (lv' := [(2, .int 0), (0, .ref (ad 57)), (1, .int vv)]) hx hb dJ7_fill_53178_1 rfl hl (by decide) rfl (fun ls hl => ?_)
  refine lv_aload_n hx hb dJ7_fill_53178_2 rfl (lv_at hl 1 rfl) ?_
  refine nX_57 hx hb hK hP dJ7_fill_53178_3 ?_
  refine lv_istore_n (lv' := [(3, .int 840), (2, .int 0), (0, .ref (ad 57)), (1, .int vv)]) hx hb dJ7_fill_53178_4 rfl hl (by decide) rfl (fun ls hl => ?_)
  refine my_cut (P := fun R9 a9 Q9 => ∀ (n_4 : Nat) (x_1 : Int32) (ar_2 : Nat → Nat → Int32) (H : Heap) (locs : List Loc) (ls : Array Slot), 840 - x_1.toInt < (n_4 : Int) → (0 ≤ x_1.toInt ∧ x_1.toInt ≤ 840) → rB ar_2 → fA [57] ar ar_2 → va_P (dC, dI) vwCl (wsX ob ad cA fv wd ar_2) H → va_S (aX ob ad s.heap.size) s.heap H locs → lv_has ls 4 [(0, .ref (ad 57)), (1, .int vv), (2, .int x_1), (3, .int 840)] → W p l e R9 s m a9 below meth c H locs 0 0 Q9 (F0 m 5 ls [])) ?_ (fun hj_6 => ?_)
  · intro n_4
    induction n_4 with
    | zero => intro x_1 ar_2 H locs ls fu_5 i_x_1 hA_ar_2 fa_3; exfalso; omega
    | succ n_4 ih_4 =>
      intro x_1 ar_2 H locs ls fu_5 i_x_1 hA_ar_2 fa_3 hP hS hl
      refine lv_iload_n hx hb dJ7_fill_53178_5 rfl (lv_at hl 2 rfl) ?_
      refine lv_iload_n hx hb dJ7_fill_53178_6 rfl (lv_at hl 3 rfl) ?_
      refine lv_icmp_ge (tgt := 20) hx hb dJ7_fill_53178_7 (by decide) (fun c_7 => ?_) (fun c_7 => ?_)
      · skip
        have i_8 : 840 ≤ x_1.toInt ∧ x_1.toInt ≤ 840 := iv_le2 (⟨by decide, by decide⟩ : (840 : Int) ≤ (840 : Int32).toInt ∧ (840 : Int32).toInt ≤ 840) i_x_1 c_7
        exact W.vret hx hb hr (fun t ht hW => ⟨⟨(fv, wd, ar_2), rfl, ⟨hF_fv, hA_ar_2, (fM_rf [] _), (fA_call (fA_rf [57] _) fa_3 (by decide)), rfl, trivial⟩, ⟨by rw [ht]; exact hP, va_K.moved hW.alike hK⟩⟩, hS.F ht⟩) hS.2.2 dJ7_fill_53178_20
      · skip
        have i_9 : 0 ≤ x_1.toInt ∧ x_1.toInt ≤ 839 := iv_lt1 i_x_1 (⟨by decide, by decide⟩ : (840 : Int) ≤ (840 : Int32).toInt ∧ (840 : Int32).toInt ≤ 840) (Int32.not_le.mp c_7)
        refine lv_aload_n hx hb dJ7_fill_53178_10 rfl (lv_at hl 0 rfl) ?_
        refine lv_iload_n hx hb dJ7_fill_53178_11 rfl (lv_at hl 2 rfl) ?_
        refine lv_iload_n hx hb dJ7_fill_53178_12 rfl (lv_at hl 1 rfl) ?_
        refine sX_57 hx hb hK hP hS hd (iv_in i_9 (by decide) (by decide)) dJ7_fill_53178_13 (fun H locs ar_10 ear_10 hP hS => ?_)
        have hA_ar_10 : rB ar_10 := rB_put hA_ar_2 ear_10 (iv_any _)
        obtain ⟨v_11, ev_11⟩ : ∃ z : Int32, z = x_1 + 1 := ⟨_, rfl⟩
        refine lv_iinc (v := v_11) (lv' := [(2, .int v_11), (0, .ref (ad 57)), (1, .int vv), (3, .int 840)]) hx hb dJ7_fill_53178_14 hl (k := 2) rfl (by rw [ev_11]; rfl) (by decide) rfl (fun ls hl => ?_)
        have t_12 : v_11.toInt = x_1.toInt + 1 ∧ 1 ≤ v_11.toInt ∧ v_11.toInt ≤ 840 := iv_addc ev_11 i_9 (by decide) (by decide) (by decide)
        refine lv_goto (tgt := 5) hx hb dJ7_fill_53178_17 (by decide) ?_
        exact ih_4 v_11 ar_10 _ _ ls (by omega) (iv_w t_12.2 (by decide) (by decide)) hA_ar_10 (fA_put (fA_call (fA_rf [57] _) fa_3 (by decide)) ear_10 (by decide)) hP hS (lv_sub hl [1, 2, 0, 3] rfl)
  · skip
    have z_14 : (0 : Int32).toInt = 0 := by decide
    exact hj_6 841 0 ar _ _ ls (by first | decide | omega) (iv_w (⟨by decide, by decide⟩ : (0 : Int) ≤ (0 : Int32).toInt ∧ (0 : Int32).toInt ≤ 0) (by decide) (by decide)) hA_ar (fA_rf [57] _) hP hS (lv_sub hl [2, 3, 1, 0] rfl)
set_option maxHeartbeats 4000000 in
set_option maxRecDepth 100000 in
theorem x_fillR (l : Launch) (dC : Nat → ClassId) (dI : Nat → Nat → Nat) (sz : Nat) (ob ad : Nat → Nat) (cA : Nat → ClassId) (hd : dX ob ad) (fv : Nat → Int32) (wd : xT) (ar : Nat → Nat → Int32) (hF_fv : rX fv) (hA_ar : rB ar) (w0 : Int64) : Met l yJ7_fill_d0a16 (.code yJ7_fill_d0a16 cJ7_fill_d0a16 5 none :: lw_good) ({ frames := 2, cells := 0, slots := 0, locals := 40 }) (va_Pc [.ref (ad 73), .long w0] (prX dC dI ob ad cA fv wd ar sz)) (va_Qv (fun (u : xS) => rX u.1 ∧ rB u.2.2 ∧ fM [] fv u.1 ∧ fA [] ar u.2.2 ∧ u.2.1.2 = wd.2 ∧ True) (enX dC dI ob ad cA) (aX ob ad sz)) 0 0 (aX ob ad sz) := by
  refine Met.ofW (cc := cJ7_fill_d0a16) (maxL := 5) (ret := none) (by decide) rfl ?_
  intro p e s m args below meth c s₁ B hml hv
  obtain ⟨rfl, hsz, hP, hK⟩ := hv
  have hx := B.exec
  have hb := B.bytes
  have hr := B.returns
  have hts := atoms_spec (ws := (.code yJ7_fill_d0a16 cJ7_fill_d0a16 5 none :: lw_good)) B.pre
  have htg : ∀ w ∈ lw_good, w.before _ s = true := fun w hw => hts w (List.mem_cons_of_mem _ hw)
  have hown : s.vm.findClass RJ7 = some m.cls := findClass_of_methodNamed B.named
  have hlocks := B.notSynchronized
  subst hsz
  have hS : va_S (aX ob ad s.heap.size) s.heap s.heap [] := va_S.rf
  have hl := lv_entry ([.ref (ad 73), .long w0]) (n := 5) (Nat.le_of_ble_eq_true rfl)
  rw [lg_entry_eq]
  generalize (lg_sl ([.ref (ad 73), .long w0]) ++ List.replicate (5 - (lg_sl ([.ref (ad 73), .long w0])).length) Slot.unset).toArray = ls at hl ⊢
  have hl : lv_has ls 5 [(0, .ref (ad 73)), (1, .long w0)] := hl
  refine lv_iconst (v := 0) hx hb dJ7_fill_d0a16_0 (by decide) ?_
  refine lv_istore_n (lv' := [(3, .int 0), (0, .ref (ad 73)), (1, .long w0)]) hx hb dJ7_fill_d0a16_1 rfl hl (by decide) rfl (fun ls hl => ?_)
  refine lv_aload_n hx hb dJ7_fill_d0a16_2 rfl (lv_at hl 1 rfl) ?_
  refine nX_73 hx hb hK hP dJ7_fill_d0a16_3 ?_
  refine lv_istore (lv' := [(4, .int 8), (3, .int 0), (0, .ref (ad 73)), (1, .long w0)]) hx hb dJ7_fill_d0a16_4 hl (by decide) rfl (fun ls hl => ?_)
  refine my_cut (P := fun R9 a9 Q9 => ∀ (n_4 : Nat) (x_1 : Int32) (wd_2 : xT) (H : Heap) (locs : List Loc) (ls : Array Slot), 8 - x_1.toInt < (n_4 : Int) → (0 ≤ x_1.toInt ∧ x_1.toInt ≤ 8) → wd_2.2 = wd.2 → va_P (dC, dI) vwCl (wsX ob ad cA fv wd_2 ar) H → va_S (aX ob ad s.heap.size) s.heap H locs → lv_has ls 5 [(0, .ref (ad 73)), (1, .long w0), (3, .int x_1), (4, .int 8)] → W p l e R9 s m a9 below meth c H locs 0 0 Q9 (F0 m 6 ls [])) ?_ (fun hj_6 => ?_)
  · intro n_4
    induction n_4 with
    | zero => intro x_1 wd_2 H locs ls fu_5 i_x_1 wf_3; exfalso; omega
    | succ n_4 ih_4 =>
      intro x_1 wd_2 H locs ls fu_5 i_x_1 wf_3 hP hS hl
      refine lv_iload_n hx hb dJ7_fill_d0a16_6 rfl (lv_at hl 2 rfl) ?_
      refine lv_iload hx hb dJ7_fill_d0a16_7 (lv_at hl 3 rfl) ?_
      refine lv_icmp_ge (tgt := 22) hx hb dJ7_fill_d0a16_9 (by decide) (fun c_7 => ?_) (fun c_7 => ?_)
      · skip
        have i_8 : 8 ≤ x_1.toInt ∧ x_1.toInt ≤ 8 := iv_le2 (⟨by decide, by decide⟩ : (8 : Int) ≤ (8 : Int32).toInt ∧ (8 : Int32).toInt ≤ 8) i_x_1 c_7
        exact W.vret hx hb hr (fun t ht hW => ⟨⟨(fv, wd_2, ar), rfl, ⟨hF_fv, hA_ar, (fM_rf [] _), (fA_rf [] _), wf_3, trivial⟩, ⟨by rw [ht]; exact hP, va_K.moved hW.alike hK⟩⟩, hS.F ht⟩) hS.2.2 dJ7_fill_d0a16_22
      · skip
        have i_9 : 0 ≤ x_1.toInt ∧ x_1.toInt ≤ 7 := iv_lt1 i_x_1 (⟨by decide, by decide⟩ : (8 : Int) ≤ (8 : Int32).toInt ∧ (8 : Int32).toInt ≤ 8) (Int32.not_le.mp c_7)
        refine lv_aload_n hx hb dJ7_fill_d0a16_12 rfl (lv_at hl 0 rfl) ?_
        refine lv_iload_n hx hb dJ7_fill_d0a16_13 rfl (lv_at hl 2 rfl) ?_
        refine lv_lload_n hx hb dJ7_fill_d0a16_14 rfl (lv_at hl 1 rfl) ?_
        refine sXJ hx hb hK hP hS hd (iv_in i_9 (by decide) (by decide)) dJ7_fill_d0a16_15 (fun H locs wd_10 ewd_10 hP hS => ?_)
        obtain ⟨v_11, ev_11⟩ : ∃ z : Int32, z = x_1 + 1 := ⟨_, rfl⟩
        refine lv_iinc (v := v_11) (lv' := [(3, .int v_11), (0, .ref (ad 73)), (1, .long w0), (4, .int 8)]) hx hb dJ7_fill_d0a16_16 hl (k := 2) rfl (by rw [ev_11]; rfl) (by decide) rfl (fun ls hl => ?_)
        have t_12 : v_11.toInt = x_1.toInt + 1 ∧ 1 ≤ v_11.toInt ∧ v_11.toInt ≤ 8 := iv_addc ev_11 i_9 (by decide) (by decide) (by decide)
        refine lv_goto (tgt := 6) hx hb dJ7_fill_d0a16_19 (by decide) ?_
        exact ih_4 v_11 wd_10 _ _ ls (by omega) (iv_w t_12.2 (by decide) (by decide)) (ewd_10.trans wf_3) hP hS (lv_sub hl [1, 2, 0, 3] rfl)
  · skip
    have z_14 : (0 : Int32).toInt = 0 := by decide
    exact hj_6 9 0 wd _ _ ls (by first | decide | omega) (iv_w (⟨by decide, by decide⟩ : (0 : Int) ≤ (0 : Int32).toInt ∧ (0 : Int32).toInt ≤ 0) (by decide) (by decide)) rfl hP hS (lv_sub hl [2, 3, 1, 0] rfl)
set_option maxHeartbeats 4000000 in
set_option maxRecDepth 100000 in
theorem x_readySeats (l : Launch) (dC : Nat → ClassId) (dI : Nat → Nat → Nat) (sz : Nat) (ob ad : Nat → Nat) (cA : Nat → ClassId) (hd : dX ob ad) (fv : Nat → Int32) (wd : xT) (ar : Nat → Nat → Int32) (hF_fv : rX fv) (hA_ar : rB ar) (hT : ∀ j : Nat, (j : Int) < (fv 26).toInt → (ar 1 j).toInt ≤ 19) : Met l yX5_readySeats (.code yX5_readySeats cX5_readySeats 5 none :: lw_good) ({ frames := 2, cells := 0, slots := 0, locals := 40 }) (va_Pc [.ref (ob 10), .ref (ad 1)] (prX dC dI ob ad cA fv wd ar sz)) (va_Qv (fun (u : xS) => rX u.1 ∧ rB u.2.2 ∧ fM [] fv u.1 ∧ fA [67, 68, 69, 70] ar u.2.2 ∧ u.2.1.2 = wd.2 ∧ True) (enX dC dI ob ad cA) (aX ob ad sz)) 0 0 (aX ob ad sz) := by
  refine Met.ofW (cc := cX5_readySeats) (maxL := 5) (ret := none) (by decide) rfl ?_
  intro p e s m args below meth c s₁ B hml hv
  obtain ⟨rfl, hsz, hP, hK⟩ := hv
  have hx := B.exec
  have hb := B.bytes
  have hr := B.returns
  have hts := atoms_spec (ws := (.code yX5_readySeats cX5_readySeats 5 none :: lw_good)) B.pre
  have htg : ∀ w ∈ lw_good, w.before _ s = true := fun w hw => hts w (List.mem_cons_of_mem _ hw)
  have hown : s.vm.findClass RX5 = some m.cls := findClass_of_methodNamed B.named
  have hlocks := B.notSynchronized
  subst hsz
  have hS : va_S (aX ob ad s.heap.size) s.heap s.heap [] := va_S.rf
  have hl := lv_entry ([.ref (ob 10), .ref (ad 1)]) (n := 5) (Nat.le_of_ble_eq_true rfl)
  rw [lg_entry_eq]
  generalize (lg_sl ([.ref (ob 10), .ref (ad 1)]) ++ List.replicate (5 - (lg_sl ([.ref (ob 10), .ref (ad 1)])).length) Slot.unset).toArray = ls at hl ⊢
  have hl : lv_has ls 5 [(0, .ref (ob 10)), (1, .ref (ad 1))] := hl
  refine lv_aload_n hx hb dX5_readySeats_0 rfl (lv_at hl 0 rfl) ?_
  refine gX_X5_31 hx hb htg hown hK hP dX5_readySeats_1 ?_
  refine lv_aload_n hx hb dX5_readySeats_4 rfl (lv_at hl 0 rfl) ?_
  refine gX_X5_46 hx hb htg hown hK hP dX5_readySeats_5 ?_
  have i_1 : 0 ≤ (fv 26).toInt ∧ (fv 26).toInt ≤ 5 := hF_fv 26
  refine lv_iconst (v := 0) hx hb dX5_readySeats_8 (by decide) ?_
  refine sX_68 hx hb hK hP hS hd (iv_in i_1 (by decide) (by decide)) dX5_readySeats_9 (fun H locs ar_2 ear_2 hP hS => ?_)
  have hA_ar_2 : rB ar_2 := rB_put hA_ar ear_2 (iv_any _)
  refine lv_aload_n hx hb dX5_readySeats_10 rfl (lv_at hl 0 rfl) ?_
  refine gX_X5_46 hx hb htg hown hK hP dX5_readySeats_11 ?_
  refine lv_iconst (v := 1) hx hb dX5_readySeats_14 (by decide) ?_
  refine lv_isub hx hb dX5_readySeats_15 ?_
  refine lv_topi (fun v_3 ev_3 => ?_)
  have t_4 : v_3.toInt = (fv 26).toInt - 1 ∧ (-1) ≤ v_3.toInt ∧ v_3.toInt ≤ 4 := iv_subc ev_3 i_1 (by decide) (by decide) (by decide)
  refine lv_istore_n (lv' := [(2, .int v_3), (0, .ref (ob 10)), (1, .ref (ad 1))]) hx hb dX5_readySeats_16 rfl hl (by decide) rfl (fun ls hl => ?_)
  refine my_cut (P := fun R9 a9 Q9 => ∀ (n_10 : Nat) (x_6 : Int32) (ar_7 : Nat → Nat → Int32) (H : Heap) (locs : List Loc) (ls : Array Slot), x_6.toInt - (-1) < (n_10 : Int) → ((-1) ≤ x_6.toInt ∧ x_6.toInt ≤ 4) → rB ar_7 → fA [67, 68] ar_2 ar_7 → (x_6.toInt < (fv 26).toInt) → va_P (dC, dI) vwCl (wsX ob ad cA fv wd ar_7) H → va_S (aX ob ad s.heap.size) s.heap H locs → lv_has ls 5 [(0, .ref (ob 10)), (1, .ref (ad 1)), (2, .int x_6)] → W p l e R9 s m a9 below meth c H locs 0 0 Q9 (F0 m 17 ls [])) ?_ (fun hj_12 => ?_)
  · intro n_10
    induction n_10 with
    | zero => intro x_6 ar_7 H locs ls fu_11 i_x_6 hA_ar_7 fa_8 q_9; exfalso; omega
    | succ n_10 ih_10 =>
      intro x_6 ar_7 H locs ls fu_11 i_x_6 hA_ar_7 fa_8 q_9 hP hS hl
      refine lv_iload_n hx hb dX5_readySeats_17 rfl (lv_at hl 2 rfl) ?_
      refine lv_if_lt (tgt := 68) hx hb dX5_readySeats_18 (by decide) (fun c_13 => ?_) (fun c_13 => ?_)
      · skip
        have i_14 : (-1) ≤ x_6.toInt ∧ x_6.toInt ≤ (-1) := iv_lt1 i_x_6 (⟨by decide, by decide⟩ : (0 : Int) ≤ (0 : Int32).toInt ∧ (0 : Int32).toInt ≤ 0) c_13
        refine lv_aload_n hx hb dX5_readySeats_68 rfl (lv_at hl 0 rfl) ?_
        refine gX_X5_34 hx hb htg hown hK hP dX5_readySeats_69 ?_
        refine lv_iconst (v := 1) hx hb dX5_readySeats_72 (by decide) ?_
        refine lv_iconst (v := 0) hx hb dX5_readySeats_73 (by decide) ?_
        refine sX_69 hx hb hK hP hS hd (iv_in (⟨by decide, by decide⟩ : (1 : Int) ≤ (1 : Int32).toInt ∧ (1 : Int32).toInt ≤ 1) (by decide) (by decide)) dX5_readySeats_74 (fun H locs ar_32 ear_32 hP hS => ?_)
        have hA_ar_32 : rB ar_32 := rB_put hA_ar_7 ear_32 (iv_w (⟨by decide, by decide⟩ : (0 : Int) ≤ (0 : Int32).toInt ∧ (0 : Int32).toInt ≤ 0) (by decide) (by decide))
        refine lv_aload_n hx hb dX5_readySeats_75 rfl (lv_at hl 0 rfl) ?_
        refine gX_X5_37 hx hb htg hown hK hP dX5_readySeats_76 ?_
        refine lv_iconst (v := 1) hx hb dX5_readySeats_79 (by decide) ?_
        refine lv_iconst (v := 0) hx hb dX5_readySeats_80 (by decide) ?_
        refine sX_70 hx hb hK hP hS hd (iv_in (⟨by decide, by decide⟩ : (1 : Int) ≤ (1 : Int32).toInt ∧ (1 : Int32).toInt ≤ 1) (by decide) (by decide)) dX5_readySeats_81 (fun H locs ar_33 ear_33 hP hS => ?_)
        have hA_ar_33 : rB ar_33 := rB_put hA_ar_32 ear_33 (iv_any _)
        refine lv_iconst (v := 0) hx hb dX5_readySeats_82 (by decide) ?_
        refine lv_istore_n (lv' := [(2, .int 0), (0, .ref (ob 10)), (1, .ref (ad 1))]) hx hb dX5_readySeats_83 rfl hl (by decide) rfl (fun ls hl => ?_)
        refine my_cut (P := fun R9 a9 Q9 => ∀ (n_37 : Nat) (x_34 : Int32) (ar_35 : Nat → Nat → Int32) (H : Heap) (locs : List Loc) (ls : Array Slot), 5 - x_34.toInt < (n_37 : Int) → (0 ≤ x_34.toInt ∧ x_34.toInt ≤ 5) → rB ar_35 → fA [70] ar_33 ar_35 → va_P (dC, dI) vwCl (wsX ob ad cA fv wd ar_35) H → va_S (aX ob ad s.heap.size) s.heap H locs → lv_has ls 5 [(0, .ref (ob 10)), (2, .int x_34)] → W p l e R9 s m a9 below meth c H locs 0 0 Q9 (F0 m 84 ls [])) ?_ (fun hj_39 => ?_)
        · intro n_37
          induction n_37 with
          | zero => intro x_34 ar_35 H locs ls fu_38 i_x_34 hA_ar_35 fa_36; exfalso; omega
          | succ n_37 ih_37 =>
            intro x_34 ar_35 H locs ls fu_38 i_x_34 hA_ar_35 fa_36 hP hS hl
            refine lv_iload_n hx hb dX5_readySeats_84 rfl (lv_at hl 1 rfl) ?_
            refine lv_aload_n hx hb dX5_readySeats_85 rfl (lv_at hl 0 rfl) ?_
            refine gX_X5_46 hx hb htg hown hK hP dX5_readySeats_86 ?_
            refine lv_icmp_ge (tgt := 160) hx hb dX5_readySeats_89 (by decide) (fun c_40 => ?_) (fun c_40 => ?_)
            · skip
              have k_41 := Int32.le_iff_toInt_le.mp c_40
              exact W.vret hx hb hr (fun t ht hW => ⟨⟨(fv, wd, ar_35), rfl, ⟨hF_fv, hA_ar_35, (fM_rf [] _), (fA_call (fA_put (fA_put (fA_call (fA_put (fA_rf [67, 68, 69, 70] _) ear_2 (by decide)) fa_8 (by decide)) ear_32 (by decide)) ear_33 (by decide)) fa_36 (by decide)), rfl, trivial⟩, ⟨by rw [ht]; exact hP, va_K.moved hW.alike hK⟩⟩, hS.F ht⟩) hS.2.2 dX5_readySeats_160
            · skip
              have i_42 : 0 ≤ x_34.toInt ∧ x_34.toInt ≤ 4 := iv_lt1 i_x_34 i_1 (Int32.not_le.mp c_40)
              have i_43 : 1 ≤ (fv 26).toInt ∧ (fv 26).toInt ≤ 5 := iv_lt2 i_x_34 i_1 (Int32.not_le.mp c_40)
              have k_44 := Int32.lt_iff_toInt_lt.mp (Int32.not_le.mp c_40)
              refine lv_iconst (v := 1) hx hb dX5_readySeats_92 (by decide) ?_
              refine lv_iload_n hx hb dX5_readySeats_93 rfl (lv_at hl 1 rfl) ?_
              refine lv_ishl hx hb dX5_readySeats_94 ?_
              refine lv_topi (fun v_45 ev_45 => ?_)
              have i_46 : 1 ≤ v_45.toInt ∧ v_45.toInt ≤ 16 := iv_shl (k := 4) ev_45 (iv_w i_42 (by decide) (by decide)) rfl (by decide)
              refine lv_istore_n (lv' := [(3, .int v_45), (0, .ref (ob 10)), (2, .int x_34)]) hx hb dX5_readySeats_95 rfl hl (by decide) rfl (fun ls hl => ?_)
              refine lv_iload_n hx hb dX5_readySeats_96 rfl (lv_at hl 0 rfl) ?_
              refine lv_istore (lv' := [(4, .int v_45), (3, .int v_45), (0, .ref (ob 10)), (2, .int x_34)]) hx hb dX5_readySeats_97 hl (by decide) rfl (fun ls hl => ?_)
              refine my_cut (P := fun R9 a9 Q9 => ∀ (n_50 : Nat) (x_47 : Int32) (ar_48 : Nat → Nat → Int32) (H : Heap) (locs : List Loc) (ls : Array Slot), 32 - x_47.toInt < (n_50 : Int) → (1 ≤ x_47.toInt ∧ x_47.toInt ≤ 32) → rB ar_48 → fA [70] ar_35 ar_48 → va_P (dC, dI) vwCl (wsX ob ad cA fv wd ar_48) H → va_S (aX ob ad s.heap.size) s.heap H locs → lv_has ls 5 [(0, .ref (ob 10)), (2, .int x_34), (3, .int v_45), (4, .int x_47)] → W p l e R9 s m a9 below meth c H locs 0 0 Q9 (F0 m 99 ls [])) ?_ (fun hj_52 => ?_)
              · intro n_50
                induction n_50 with
                | zero => intro x_47 ar_48 H locs ls fu_51 i_x_47 hA_ar_48 fa_49; exfalso; omega
                | succ n_50 ih_50 =>
                  intro x_47 ar_48 H locs ls fu_51 i_x_47 hA_ar_48 fa_49 hP hS hl
                  refine lv_iload hx hb dX5_readySeats_99 (lv_at hl 3 rfl) ?_
                  refine lv_iconst (v := 2) hx hb dX5_readySeats_101 (by decide) ?_
                  refine lv_iload_n hx hb dX5_readySeats_102 rfl (lv_at hl 2 rfl) ?_
                  refine lv_imul hx hb dX5_readySeats_103 ?_
                  refine lv_topi (fun v_53 ev_53 => ?_)
                  have t_54 : v_53.toInt = 2 * v_45.toInt ∧ 2 ≤ v_53.toInt ∧ v_53.toInt ≤ 32 := iv_mulc ev_53 i_46 (by decide) (by decide) (by decide) (by decide)
                  refine lv_icmp_ge (tgt := 154) hx hb dX5_readySeats_104 (by decide) (fun c_56 => ?_) (fun c_56 => ?_)
                  · skip
                    have i_57 : 2 ≤ x_47.toInt ∧ x_47.toInt ≤ 32 := iv_le2 t_54.2 i_x_47 c_56
                    have k_58 := Int32.le_iff_toInt_le.mp c_56
                    obtain ⟨v_76, ev_76⟩ : ∃ z : Int32, z = x_34 + 1 := ⟨_, rfl⟩
                    refine lv_iinc (v := v_76) (lv' := [(2, .int v_76), (0, .ref (ob 10)), (3, .int v_45), (4, .int x_47)]) hx hb dX5_readySeats_154 hl (k := 1) rfl (by rw [ev_76]; rfl) (by decide) rfl (fun ls hl => ?_)
                    have t_77 : v_76.toInt = x_34.toInt + 1 ∧ 1 ≤ v_76.toInt ∧ v_76.toInt ≤ 5 := iv_addc ev_76 i_42 (by decide) (by decide) (by decide)
                    refine lv_goto (tgt := 84) hx hb dX5_readySeats_157 (by decide) ?_
                    exact ih_37 v_76 ar_48 _ _ ls (by omega) (iv_w t_77.2 (by decide) (by decide)) hA_ar_48 (fA_call (fA_call (fA_rf [70] _) fa_36 (by decide)) fa_49 (by decide)) hP hS (lv_sub hl [1, 0] rfl)
                  · skip
                    have i_59 : 1 ≤ x_47.toInt ∧ x_47.toInt ≤ 31 := iv_lt1 i_x_47 t_54.2 (Int32.not_le.mp c_56)
                    have k_60 := Int32.lt_iff_toInt_lt.mp (Int32.not_le.mp c_56)
                    refine lv_aload_n hx hb dX5_readySeats_107 rfl (lv_at hl 0 rfl) ?_
                    refine gX_X5_37 hx hb htg hown hK hP dX5_readySeats_108 ?_
                    refine lv_iload hx hb dX5_readySeats_111 (lv_at hl 3 rfl) ?_
                    refine lv_iload_n hx hb dX5_readySeats_113 rfl (lv_at hl 2 rfl) ?_
                    refine lv_iadd hx hb dX5_readySeats_114 ?_
                    refine lv_topi (fun v_61 ev_61 => ?_)
                    have t_62 : v_61.toInt = x_47.toInt + v_45.toInt ∧ 2 ≤ v_61.toInt ∧ v_61.toInt ≤ 47 := iv_add ev_61 i_59 i_46 (by decide) (by decide)
                    refine lv_aload_n hx hb dX5_readySeats_115 rfl (lv_at hl 0 rfl) ?_
                    refine gX_X5_37 hx hb htg hown hK hP dX5_readySeats_116 ?_
                    refine lv_iload hx hb dX5_readySeats_119 (lv_at hl 3 rfl) ?_
                    refine lX_70 hx hb hK hP (iv_in i_59 (by decide) (by decide)) dX5_readySeats_121 (fun v_64 ev_64 => ?_)
                    refine lv_aload_n hx hb dX5_readySeats_122 rfl (lv_at hl 0 rfl) ?_
                    refine gX_X5_28 hx hb htg hown hK hP dX5_readySeats_123 ?_
                    refine lv_iload_n hx hb dX5_readySeats_126 rfl (lv_at hl 1 rfl) ?_
                    refine lX_67 hx hb hK hP (iv_in i_42 (by decide) (by decide)) dX5_readySeats_127 (fun v_65 ev_65 => ?_)
                    refine lv_iadd hx hb dX5_readySeats_128 ?_
                    refine lv_topi (fun v_66 ev_66 => ?_)
                    refine sX_70 hx hb hK hP hS hd (iv_in t_62.2 (by decide) (by decide)) dX5_readySeats_129 (fun H locs ar_67 ear_67 hP hS => ?_)
                    have hA_ar_67 : rB ar_67 := rB_put hA_ar_48 ear_67 (iv_any _)
                    refine lv_aload_n hx hb dX5_readySeats_130 rfl (lv_at hl 0 rfl) ?_
                    refine gX_X5_37 hx hb htg hown hK hP dX5_readySeats_131 ?_
                    refine lv_iload hx hb dX5_readySeats_134 (lv_at hl 3 rfl) ?_
                    refine lv_iconst (v := 2) hx hb dX5_readySeats_136 (by decide) ?_
                    refine lv_iload_n hx hb dX5_readySeats_137 rfl (lv_at hl 2 rfl) ?_
                    refine lv_imul hx hb dX5_readySeats_138 ?_
                    refine my_ti (y := v_53) ev_53.symm ?_
                    refine lv_iadd hx hb dX5_readySeats_139 ?_
                    refine lv_topi (fun v_68 ev_68 => ?_)
                    have t_69 : v_68.toInt = x_47.toInt + v_53.toInt ∧ 3 ≤ v_68.toInt ∧ v_68.toInt ≤ 63 := iv_add ev_68 i_59 t_54.2 (by decide) (by decide)
                    refine lv_aload_n hx hb dX5_readySeats_140 rfl (lv_at hl 0 rfl) ?_
                    refine gX_X5_37 hx hb htg hown hK hP dX5_readySeats_141 ?_
                    refine lv_iload hx hb dX5_readySeats_144 (lv_at hl 3 rfl) ?_
                    refine lX_70 hx hb hK hP (iv_in i_59 (by decide) (by decide)) dX5_readySeats_146 (fun v_71 ev_71 => ?_)
                    refine sX_70 hx hb hK hP hS hd (iv_in t_69.2 (by decide) (by decide)) dX5_readySeats_147 (fun H locs ar_72 ear_72 hP hS => ?_)
                    have hA_ar_72 : rB ar_72 := rB_put hA_ar_67 ear_72 (iv_any _)
                    obtain ⟨v_73, ev_73⟩ : ∃ z : Int32, z = x_47 + 1 := ⟨_, rfl⟩
                    refine lv_iinc (v := v_73) (lv' := [(4, .int v_73), (0, .ref (ob 10)), (2, .int x_34), (3, .int v_45)]) hx hb dX5_readySeats_148 hl (k := 3) rfl (by rw [ev_73]; rfl) (by decide) rfl (fun ls hl => ?_)
                    have t_74 : v_73.toInt = x_47.toInt + 1 ∧ 2 ≤ v_73.toInt ∧ v_73.toInt ≤ 32 := iv_addc ev_73 i_59 (by decide) (by decide) (by decide)
                    refine lv_goto (tgt := 99) hx hb dX5_readySeats_151 (by decide) ?_
                    exact ih_50 v_73 ar_72 _ _ ls (by omega) (iv_w t_74.2 (by decide) (by decide)) hA_ar_72 (fA_put (fA_put (fA_call (fA_rf [70] _) fa_49 (by decide)) ear_67 (by decide)) ear_72 (by decide)) hP hS (lv_sub hl [1, 2, 3, 0] rfl)
              · skip
                exact hj_52 32 v_45 ar_35 _ _ ls (by omega) (iv_w i_46 (by decide) (by decide)) hA_ar_35 (fA_rf [70] _) hP hS (lv_sub hl [2, 3, 1, 0] rfl)
        · skip
          have z_79 : (0 : Int32).toInt = 0 := by decide
          exact hj_39 6 0 ar_33 _ _ ls (by first | decide | omega) (iv_w (⟨by decide, by decide⟩ : (0 : Int) ≤ (0 : Int32).toInt ∧ (0 : Int32).toInt ≤ 0) (by decide) (by decide)) hA_ar_33 (fA_rf [70] _) hP hS (lv_sub hl [1, 0] rfl)
      · skip
        have i_15 : 0 ≤ x_6.toInt ∧ x_6.toInt ≤ 4 := iv_le2 (⟨by decide, by decide⟩ : (0 : Int) ≤ (0 : Int32).toInt ∧ (0 : Int32).toInt ≤ 0) i_x_6 (Int32.not_lt.mp c_13)
        refine lv_aload_n hx hb dX5_readySeats_21 rfl (lv_at hl 0 rfl) ?_
        refine gX_X5_28 hx hb htg hown hK hP dX5_readySeats_22 ?_
        refine lv_iload_n hx hb dX5_readySeats_25 rfl (lv_at hl 2 rfl) ?_
        refine lv_aload_n hx hb dX5_readySeats_26 rfl (lv_at hl 0 rfl) ?_
        refine gX_X5_9 hx hb htg hown hK hP dX5_readySeats_27 ?_
        refine gX_X5_65 hx hb htg hown hK hP dX5_readySeats_30 ?_
        refine gX_X5_69 hx hb htg hown hK hP dX5_readySeats_33 ?_
        refine lv_aload_n hx hb dX5_readySeats_36 rfl (lv_at hl 1 rfl) ?_
        refine lv_iload_n hx hb dX5_readySeats_37 rfl (lv_at hl 2 rfl) ?_
        refine lX_1 hx hb hK hP (iv_in i_15 (by decide) (by decide)) dX5_readySeats_38 (fun v_16 ev_16 => ?_)
        have i_17 : 0 ≤ v_16.toInt ∧ v_16.toInt ≤ 255 := ev_16 ▸ hA_ar_7 1 _
        have i_18 : 0 ≤ v_16.toInt ∧ v_16.toInt ≤ 19 := ⟨(i_17).1, by rw [ev_16, ((fA_call (fA_put (fA_rf [67, 68] _) ear_2 (by decide)) fa_8 (by decide)) 1 rfl)]; exact hT _ (by show ((x_6.toInt.toNat : Nat) : Int) < _; omega)⟩
        refine lX_22 hx hb hK hP (iv_in i_18 (by decide) (by decide)) dX5_readySeats_39 (fun v_19 ev_19 => ?_)
        have i_20 : 0 ≤ v_19.toInt ∧ v_19.toInt ≤ 9 := ev_19 ▸ hA_ar_7 22 _
        refine sX_67 hx hb hK hP hS hd (iv_in i_15 (by decide) (by decide)) dX5_readySeats_40 (fun H locs ar_21 ear_21 hP hS => ?_)
        have hA_ar_21 : rB ar_21 := rB_put hA_ar_7 ear_21 (iv_any _)
        refine lv_aload_n hx hb dX5_readySeats_41 rfl (lv_at hl 0 rfl) ?_
        refine gX_X5_31 hx hb htg hown hK hP dX5_readySeats_42 ?_
        refine lv_iload_n hx hb dX5_readySeats_45 rfl (lv_at hl 2 rfl) ?_
        refine lv_aload_n hx hb dX5_readySeats_46 rfl (lv_at hl 0 rfl) ?_
        refine gX_X5_31 hx hb htg hown hK hP dX5_readySeats_47 ?_
        refine lv_iload_n hx hb dX5_readySeats_50 rfl (lv_at hl 2 rfl) ?_
        refine lv_iconst (v := 1) hx hb dX5_readySeats_51 (by decide) ?_
        refine lv_iadd hx hb dX5_readySeats_52 ?_
        refine lv_topi (fun v_22 ev_22 => ?_)
        have t_23 : v_22.toInt = x_6.toInt + 1 ∧ 1 ≤ v_22.toInt ∧ v_22.toInt ≤ 5 := iv_addc ev_22 i_15 (by decide) (by decide) (by decide)
        refine lX_68 hx hb hK hP (iv_in t_23.2 (by decide) (by decide)) dX5_readySeats_53 (fun v_25 ev_25 => ?_)
        refine lv_aload_n hx hb dX5_readySeats_54 rfl (lv_at hl 0 rfl) ?_
        refine gX_X5_28 hx hb htg hown hK hP dX5_readySeats_55 ?_
        refine lv_iload_n hx hb dX5_readySeats_58 rfl (lv_at hl 2 rfl) ?_
        refine lX_67 hx hb hK hP (iv_in i_15 (by decide) (by decide)) dX5_readySeats_59 (fun v_26 ev_26 => ?_)
        refine lv_iadd hx hb dX5_readySeats_60 ?_
        refine lv_topi (fun v_27 ev_27 => ?_)
        refine sX_68 hx hb hK hP hS hd (iv_in i_15 (by decide) (by decide)) dX5_readySeats_61 (fun H locs ar_28 ear_28 hP hS => ?_)
        have hA_ar_28 : rB ar_28 := rB_put hA_ar_21 ear_28 (iv_any _)
        obtain ⟨v_29, ev_29⟩ : ∃ z : Int32, z = x_6 + (-1) := ⟨_, rfl⟩
        refine lv_iinc (v := v_29) (lv' := [(2, .int v_29), (0, .ref (ob 10)), (1, .ref (ad 1))]) hx hb dX5_readySeats_62 hl (k := 2) rfl (by rw [ev_29]; rfl) (by decide) rfl (fun ls hl => ?_)
        have t_30 : v_29.toInt = x_6.toInt + (-1) ∧ (-1) ≤ v_29.toInt ∧ v_29.toInt ≤ 3 := iv_addc ev_29 i_15 (by decide) (by decide) (by decide)
        refine lv_goto (tgt := 17) hx hb dX5_readySeats_65 (by decide) ?_
        exact ih_10 v_29 ar_28 _ _ ls (by omega) (iv_w t_30.2 (by decide) (by decide)) hA_ar_28 (fA_put (fA_put (fA_call (fA_rf [67, 68] _) fa_8 (by decide)) ear_21 (by decide)) ear_28 (by decide)) (by omega) hP hS (lv_sub hl [1, 2, 0] rfl)
  · skip
    exact hj_12 6 v_3 ar_2 _ _ ls (by omega) t_4.2 hA_ar_2 (fA_rf [67, 68] _) (by omega) hP hS (lv_sub hl [1, 2, 0] rfl)
set_option maxHeartbeats 4000000 in
set_option maxRecDepth 100000 in
theorem x_readyStops (l : Launch) (dC : Nat → ClassId) (dI : Nat → Nat → Nat) (sz : Nat) (ob ad : Nat → Nat) (cA : Nat → ClassId) (hd : dX ob ad) (fv : Nat → Int32) (wd : xT) (ar : Nat → Nat → Int32) (hF_fv : rX fv) (hA_ar : rB ar) (mm : Int32) : Met l yX5_readyStops (.code yX5_readyStops cX5_readyStops 7 none :: lw_good) ({ frames := 4, cells := 0, slots := 0, locals := 85 }) (va_Pc [.ref (ob 10), .int mm] (prX dC dI ob ad cA fv wd ar sz)) (va_Qv (fun (u : xS) => rX u.1 ∧ rB u.2.2 ∧ fM [25, 27] fv u.1 ∧ fA [65, 66] ar u.2.2 ∧ u.2.1.2 = wd.2 ∧ True) (enX dC dI ob ad cA) (aX ob ad sz)) 0 0 (aX ob ad sz) := by
  refine Met.ofW (cc := cX5_readyStops) (maxL := 7) (ret := none) (by decide) rfl ?_
  intro p e s m args below meth c s₁ B hml hv
  obtain ⟨rfl, hsz, hP, hK⟩ := hv
  have hx := B.exec
  have hb := B.bytes
  have hr := B.returns
  have hts := atoms_spec (ws := (.code yX5_readyStops cX5_readyStops 7 none :: lw_good)) B.pre
  have htg : ∀ w ∈ lw_good, w.before _ s = true := fun w hw => hts w (List.mem_cons_of_mem _ hw)
  have hown : s.vm.findClass RX5 = some m.cls := findClass_of_methodNamed B.named
  have hlocks := B.notSynchronized
  subst hsz
  have hS : va_S (aX ob ad s.heap.size) s.heap s.heap [] := va_S.rf
  have hl := lv_entry ([.ref (ob 10), .int mm]) (n := 7) (Nat.le_of_ble_eq_true rfl)
  rw [lg_entry_eq]
  generalize (lg_sl ([.ref (ob 10), .int mm]) ++ List.replicate (7 - (lg_sl ([.ref (ob 10), .int mm])).length) Slot.unset).toArray = ls at hl ⊢
  have hl : lv_has ls 7 [(0, .ref (ob 10)), (1, .int mm)] := hl
  refine lv_aload_n hx hb dX5_readyStops_0 rfl (lv_at hl 0 rfl) ?_
  refine gX_X5_9 hx hb htg hown hK hP dX5_readyStops_1 ?_
  refine lv_aload_n hx hb dX5_readyStops_4 rfl (lv_at hl 0 rfl) ?_
  refine gX_X5_9 hx hb htg hown hK hP dX5_readyStops_5 ?_
  refine gX_X5_72 hx hb htg hown hK hP dX5_readyStops_8 ?_
  have i_1 : 0 ≤ (fv 7).toInt ∧ (fv 7).toInt ≤ 199 := hF_fv 7
  refine va_calli (va_runV (As := [.int (fv 7)]) (rest := []) ⟨hx, hb, hml, hown, hts⟩ (x_rainOn l dC dI s.heap.size ob ad cA hd fv wd ar hF_fv hA_ar (fv 7) i_1) (cwV 1 hts (gV kw_6_21 kw_3_231 kw_3_232 kw_1_2 kw_3_233) rfl rfl rfl (by decide +kernel) ⟨Nat.le_of_ble_eq_true rfl, Nat.le_of_ble_eq_true rfl⟩) ⟨fun a U g mk q => ⟨q.1, q.2.1, q.2.2.1, va_K.moved (u := U) (U := U.calling g mk a) (Vm.Alike.refl U.vm) q.2.2.2⟩, va_recv hK hP (ci := 7) (q0 := 1) rfl rfl, fun U hU hW => ⟨rfl, by rw [hU], by rw [hU]; exact hP, va_K.moved hW.alike hK⟩⟩ rfl rfl hl.1 rfl (lv_room (Nat.le_of_ble_eq_true rfl)) dX5_readyStops_11 ⟨Nat.le_of_ble_eq_true rfl, Nat.le_of_ble_eq_true rfl⟩) hS (fun q _ h9 => aX_up hS q h9) (aX_up hS) (fun r_2 u t H1 locs ht _ hw hB _ hk1 hS => ?_)
  obtain ⟨fv_3, wd_4, ar_5⟩ := u
  obtain ⟨hF_fv_3, hA_ar_5, fr_6, fa_7, wf_8, -⟩ := hw
  have wf_8 : wd_4.2 = wd.2 := wf_8
  have hP : va_P (dC, dI) vwCl (wsX ob ad cA fv_3 wd_4 ar_5) H1 := by have h9 := hB.1; rw [ht] at h9; exact h9
  have fr_6 : fM [] fv fv_3 := fr_6
  have fa_7 : fA [] ar ar_5 := fa_7
  generalize H1 = H at hP hS ⊢
  refine lv_istore_n (lv' := [(2, .int r_2), (0, .ref (ob 10)), (1, .int mm)]) hx hb dX5_readyStops_14 rfl hl (by decide) rfl (fun ls hl => ?_)
  refine lv_aload_n hx hb dX5_readyStops_15 rfl (lv_at hl 1 rfl) ?_
  refine gX_X5_17 hx hb htg hown hK hP dX5_readyStops_16 ?_
  refine lv_lconst (v := 0) hx hb dX5_readyStops_19 (by decide) ?_
  refine va_callv (va_runS (As := [.ref (ad 73), .long 0]) (rest := []) ⟨hx, hb, hml, hown, hts⟩ (x_fillR l dC dI H.size ob ad cA hd fv_3 wd_4 ar_5 hF_fv_3 hA_ar_5 0) (va_cwS 2 hts (gS kw_6_22 kw_6_23 kw_1_25 kw_6_24) rfl rfl rfl (by decide +kernel) ⟨Nat.le_of_ble_eq_true rfl, Nat.le_of_ble_eq_true rfl⟩) ⟨fun a U g mk q => ⟨q.1, q.2.1, q.2.2.1, va_K.moved (u := U) (U := U.calling g mk a) (Vm.Alike.refl U.vm) q.2.2.2⟩, fun U hU hW => ⟨rfl, by rw [hU], by rw [hU]; exact hP, va_K.moved hW.alike hK⟩⟩ rfl rfl hl.1 rfl (lv_room (Nat.le_of_ble_eq_true rfl)) dX5_readyStops_20 ⟨Nat.le_of_ble_eq_true rfl, Nat.le_of_ble_eq_true rfl⟩) hS (fun q _ h9 => aX_up hS q h9) (aX_up hS) (fun u t H1 locs ht _ hw hB _ hk1 hS => ?_)
  obtain ⟨fv_10, wd_11, ar_12⟩ := u
  obtain ⟨hF_fv_10, hA_ar_12, fr_13, fa_14, wf_15, -⟩ := hw
  have wf_15 : wd_11.2 = wd_4.2 := wf_15
  have hP : va_P (dC, dI) vwCl (wsX ob ad cA fv_10 wd_11 ar_12) H1 := by have h9 := hB.1; rw [ht] at h9; exact h9
  have fr_13 : fM [] fv_3 fv_10 := fr_13
  have fa_14 : fA [] ar_5 ar_12 := fa_14
  generalize H1 = H at hP hS ⊢
  refine lv_iconst (v := 0) hx hb dX5_readyStops_23 (by decide) ?_
  refine lv_istore_n (lv' := [(3, .int 0), (2, .int r_2), (0, .ref (ob 10)), (1, .int mm)]) hx hb dX5_readyStops_24 rfl hl (by decide) rfl (fun ls hl => ?_)
  refine my_cut (P := fun R9 a9 Q9 => ∀ (n_23 : Nat) (x_16 : Int32) (fv_17 : Nat → Int32) (ar_19 : Nat → Nat → Int32) (wd_21 : xT) (H : Heap) (locs : List Loc) (ls : Array Slot), 40 - x_16.toInt < (n_23 : Int) → (0 ≤ x_16.toInt ∧ x_16.toInt ≤ 40) → rX fv_17 → fM [] fv_10 fv_17 → rB ar_19 → fA [] ar_12 ar_19 → wd_21.2 = wd_11.2 → va_P (dC, dI) vwCl (wsX ob ad cA fv_17 wd_21 ar_19) H → va_S (aX ob ad s.heap.size) s.heap H locs → lv_has ls 7 [(0, .ref (ob 10)), (1, .int mm), (2, .int r_2), (3, .int x_16)] → W p l e R9 s m a9 below meth c H locs 0 0 Q9 (F0 m 25 ls [])) ?_ (fun hj_25 => ?_)
  · intro n_23
    induction n_23 with
    | zero => intro x_16 fv_17 ar_19 wd_21 H locs ls fu_24 i_x_16 hF_fv_17 fr_18 hA_ar_19 fa_20 wf_22; exfalso; omega
    | succ n_23 ih_23 =>
      intro x_16 fv_17 ar_19 wd_21 H locs ls fu_24 i_x_16 hF_fv_17 fr_18 hA_ar_19 fa_20 wf_22 hP hS hl
      refine lv_iload_n hx hb dX5_readyStops_25 rfl (lv_at hl 3 rfl) ?_
      refine lv_aload_n hx hb dX5_readyStops_26 rfl (lv_at hl 0 rfl) ?_
      refine gX_X5_9 hx hb htg hown hK hP dX5_readyStops_27 ?_
      refine gX_X5_85 hx hb htg hown hK hP dX5_readyStops_30 ?_
      refine gX_X5_89 hx hb htg hown hK hP dX5_readyStops_33 ?_
      refine my_ti (y := fv 10) ((fr_18 10 rfl).trans ((fr_13 10 rfl).trans ((fr_6 10 rfl)))) ?_
      have i_26 : 0 ≤ (fv 10).toInt ∧ (fv 10).toInt ≤ 40 := hF_fv 10
      refine lv_icmp_ge (tgt := 154) hx hb dX5_readyStops_36 (by decide) (fun c_27 => ?_) (fun c_27 => ?_)
      · skip
        have k_28 := Int32.le_iff_toInt_le.mp c_27
        refine lv_aload_n hx hb dX5_readyStops_154 rfl (lv_at hl 0 rfl) ?_
        refine lv_iconst (v := 0) hx hb dX5_readyStops_155 (by decide) ?_
        refine pX_X5_124 hx hb htg hown hK hP hS hd dX5_readyStops_156 (fun H locs fv_82 efv_82 hP hS => ?_)
        have hF_fv_82 : rX fv_82 := rX_put hF_fv_17 efv_82 (iv_w (⟨by decide, by decide⟩ : (0 : Int) ≤ (0 : Int32).toInt ∧ (0 : Int32).toInt ≤ 0) (by decide) (by decide))
        refine lv_iconst (v := 0) hx hb dX5_readyStops_159 (by decide) ?_
        refine lv_istore_n (lv' := [(3, .int 0), (0, .ref (ob 10)), (1, .int mm), (2, .int r_2)]) hx hb dX5_readyStops_160 rfl hl (by decide) rfl (fun ls hl => ?_)
        refine my_cut (P := fun R9 a9 Q9 => ∀ (n_91 : Nat) (x_83 : Int32) (fv_84 : Nat → Int32) (ar_86 : Nat → Nat → Int32) (wd_88 : xT) (H : Heap) (locs : List Loc) (ls : Array Slot), 8 - x_83.toInt < (n_91 : Int) → (0 ≤ x_83.toInt ∧ x_83.toInt ≤ 8) → rX fv_84 → fM [25] fv_82 fv_84 → rB ar_86 → fA [65] ar_19 ar_86 → wd_88.2 = wd_21.2 → ((fv_84 25).toInt ≤ x_83.toInt) → va_P (dC, dI) vwCl (wsX ob ad cA fv_84 wd_88 ar_86) H → va_S (aX ob ad s.heap.size) s.heap H locs → lv_has ls 7 [(0, .ref (ob 10)), (3, .int x_83)] → W p l e R9 s m a9 below meth c H locs 0 0 Q9 (F0 m 161 ls [])) ?_ (fun hj_93 => ?_)
        · intro n_91
          induction n_91 with
          | zero => intro x_83 fv_84 ar_86 wd_88 H locs ls fu_92 i_x_83 hF_fv_84 fr_85 hA_ar_86 fa_87 wf_89 q_90; exfalso; omega
          | succ n_91 ih_91 =>
            intro x_83 fv_84 ar_86 wd_88 H locs ls fu_92 i_x_83 hF_fv_84 fr_85 hA_ar_86 fa_87 wf_89 q_90 hP hS hl
            refine lv_iload_n hx hb dX5_readyStops_161 rfl (lv_at hl 1 rfl) ?_
            refine lv_aload_n hx hb dX5_readyStops_162 rfl (lv_at hl 0 rfl) ?_
            refine gX_X5_9 hx hb htg hown hK hP dX5_readyStops_163 ?_
            refine gX_X5_102 hx hb htg hown hK hP dX5_readyStops_166 ?_
            refine my_ti (y := fv 4) ((fr_85 4 rfl).trans ((congrFun efv_82 4).trans ((fr_18 4 rfl).trans ((fr_13 4 rfl).trans ((fr_6 4 rfl)))))) ?_
            have i_94 : 0 ≤ (fv 4).toInt ∧ (fv 4).toInt ≤ 8 := hF_fv 4
            refine lv_icmp_ge (tgt := 206) hx hb dX5_readyStops_169 (by decide) (fun c_95 => ?_) (fun c_95 => ?_)
            · skip
              have k_96 := Int32.le_iff_toInt_le.mp c_95
              refine lv_aload_n hx hb dX5_readyStops_206 rfl (lv_at hl 0 rfl) ?_
              refine va_callv (va_runV (As := []) (rest := []) ⟨hx, hb, hml, hown, hts⟩ (x_countNear l dC dI H.size ob ad cA hd fv_84 wd_88 ar_86 hF_fv_84 hA_ar_86) (cwV 0 hts (gV kw_6_33 kw_6_35 kw_p_52 kw_1_14 kw_6_36) rfl rfl rfl (by decide +kernel) ⟨Nat.le_of_ble_eq_true rfl, Nat.le_of_ble_eq_true rfl⟩) ⟨fun a U g mk q => ⟨q.1, q.2.1, q.2.2.1, va_K.moved (u := U) (U := U.calling g mk a) (Vm.Alike.refl U.vm) q.2.2.2⟩, va_recv hK hP (ci := 6) (q0 := 10) rfl rfl, fun U hU hW => ⟨rfl, by rw [hU], by rw [hU]; exact hP, va_K.moved hW.alike hK⟩⟩ rfl rfl hl.1 rfl (lv_room (Nat.le_of_ble_eq_true rfl)) dX5_readyStops_207 ⟨Nat.le_of_ble_eq_true rfl, Nat.le_of_ble_eq_true rfl⟩) hS (fun q _ h9 => aX_up hS q h9) (aX_up hS) (fun u t H1 locs ht _ hw hB _ hk1 hS => ?_)
              obtain ⟨fv_135, wd_136, ar_137⟩ := u
              obtain ⟨hF_fv_135, hA_ar_137, fr_138, fa_139, wf_140, -⟩ := hw
              have wf_140 : wd_136.2 = wd_88.2 := wf_140
              have hP : va_P (dC, dI) vwCl (wsX ob ad cA fv_135 wd_136 ar_137) H1 := by have h9 := hB.1; rw [ht] at h9; exact h9
              have fr_138 : fM [27] fv_84 fv_135 := fr_138
              have fa_139 : fA [66] ar_86 ar_137 := fa_139
              generalize H1 = H at hP hS ⊢
              exact W.vret hx hb hr (fun t ht hW => ⟨⟨(fv_135, wd_136, ar_137), rfl, ⟨hF_fv_135, hA_ar_137, (fM_call (fM_call (fM_put (fM_call (fM_call (fM_call (fM_rf [25, 27] _) fr_6 (by decide)) fr_13 (by decide)) fr_18 (by decide)) efv_82 (by decide)) fr_85 (by decide)) fr_138 (by decide)), (fA_call (fA_call (fA_call (fA_call (fA_call (fA_rf [65, 66] _) fa_7 (by decide)) fa_14 (by decide)) fa_20 (by decide)) fa_87 (by decide)) fa_139 (by decide)), (wf_140.trans (wf_89.trans (wf_22.trans (wf_15.trans wf_8)))), trivial⟩, ⟨by rw [ht]; exact hP, va_K.moved hW.alike hK⟩⟩, hS.F ht⟩) hS.2.2 dX5_readyStops_210
            · skip
              have i_97 : 0 ≤ x_83.toInt ∧ x_83.toInt ≤ 7 := iv_lt1 i_x_83 i_94 (Int32.not_le.mp c_95)
              have i_98 : 1 ≤ (fv 4).toInt ∧ (fv 4).toInt ≤ 8 := iv_lt2 i_x_83 i_94 (Int32.not_le.mp c_95)
              have k_99 := Int32.lt_iff_toInt_lt.mp (Int32.not_le.mp c_95)
              have z_100 : 0 ≤ (fv_84 25).toInt ∧ (fv_84 25).toInt ≤ 8 := hF_fv_84 25
              refine lv_aload_n hx hb dX5_readyStops_172 rfl (lv_at hl 0 rfl) ?_
              refine lv_iload_n hx hb dX5_readyStops_173 rfl (lv_at hl 1 rfl) ?_
              refine va_calli (va_runV (As := [.int x_83]) (rest := []) ⟨hx, hb, hml, hown, hts⟩ (x_isCovered l dC dI H.size ob ad cA hd fv_84 wd_88 ar_86 hF_fv_84 hA_ar_86 x_83 i_97) (cwV 1 hts (gV kw_6_28 kw_6_30 kw_p_51 kw_1_14 kw_6_31) rfl rfl rfl (by decide +kernel) ⟨Nat.le_of_ble_eq_true rfl, Nat.le_of_ble_eq_true rfl⟩) ⟨fun a U g mk q => ⟨q.1, q.2.1, q.2.2.1, va_K.moved (u := U) (U := U.calling g mk a) (Vm.Alike.refl U.vm) q.2.2.2⟩, va_recv hK hP (ci := 6) (q0 := 10) rfl rfl, fun U hU hW => ⟨rfl, by rw [hU], by rw [hU]; exact hP, va_K.moved hW.alike hK⟩⟩ rfl rfl hl.1 rfl (lv_room (Nat.le_of_ble_eq_true rfl)) dX5_readyStops_174 ⟨Nat.le_of_ble_eq_true rfl, Nat.le_of_ble_eq_true rfl⟩) hS (fun q _ h9 => aX_up hS q h9) (aX_up hS) (fun r_101 u t H1 locs ht _ hw hB _ hk1 hS => ?_)
              obtain ⟨fv_103, wd_104, ar_105⟩ := u
              obtain ⟨hF_fv_103, hA_ar_105, fr_106, fa_107, wf_108, p_102, -⟩ := hw
              have wf_108 : wd_104.2 = wd_88.2 := wf_108
              have hP : va_P (dC, dI) vwCl (wsX ob ad cA fv_103 wd_104 ar_105) H1 := by have h9 := hB.1; rw [ht] at h9; exact h9
              have fr_106 : fM [] fv_84 fv_103 := fr_106
              have fa_107 : fA [] ar_86 ar_105 := fa_107
              generalize H1 = H at hP hS ⊢
              refine my_cut (P := fun R9 a9 Q9 => ∀ (fv_121 : Nat → Int32) (ar_123 : Nat → Nat → Int32) (H : Heap) (locs : List Loc) (ls : Array Slot), rX fv_121 → fM [25] fv_103 fv_121 → rB ar_123 → fA [65] ar_105 ar_123 → ((fv_121 25).toInt ≤ x_83.toInt + 1) → va_P (dC, dI) vwCl (wsX ob ad cA fv_121 wd_104 ar_123) H → va_S (aX ob ad s.heap.size) s.heap H locs → lv_has ls 7 [(0, .ref (ob 10)), (3, .int x_83)] → W p l e R9 s m a9 below meth c H locs 0 0 Q9 (F0 m 200 ls [])) ?_ (fun hj_126 => ?_)
              · intro fv_121 ar_123 H locs ls hF_fv_121 fr_122 hA_ar_123 fa_124 q_125 hP hS hl
                obtain ⟨v_127, ev_127⟩ : ∃ z : Int32, z = x_83 + 1 := ⟨_, rfl⟩
                refine lv_iinc (v := v_127) (lv' := [(3, .int v_127), (0, .ref (ob 10))]) hx hb dX5_readyStops_200 hl (k := 1) rfl (by rw [ev_127]; rfl) (by decide) rfl (fun ls hl => ?_)
                have t_128 : v_127.toInt = x_83.toInt + 1 ∧ 1 ≤ v_127.toInt ∧ v_127.toInt ≤ 8 := iv_addc ev_127 i_97 (by decide) (by decide) (by decide)
                refine lv_goto (tgt := 161) hx hb dX5_readyStops_203 (by decide) ?_
                have z_141 : 0 ≤ (fv_121 25).toInt ∧ (fv_121 25).toInt ≤ 8 := hF_fv_121 25
                exact ih_91 v_127 fv_121 ar_123 wd_104 _ _ ls (by omega) (iv_w t_128.2 (by decide) (by decide)) hF_fv_121 (fM_call (fM_call (fM_call (fM_rf [25] _) fr_85 (by decide)) fr_106 (by decide)) fr_122 (by decide)) hA_ar_123 (fA_call (fA_call (fA_call (fA_rf [65] _) fa_87 (by decide)) fa_107 (by decide)) fa_124 (by decide)) (wf_108.trans wf_89) (by omega) hP hS (lv_sub hl [1, 0] rfl)
              · skip
                refine lv_if_ne (tgt := 200) hx hb dX5_readyStops_177 (by decide) (fun c_109 => ?_) (fun c_109 => ?_)
                · skip
                  have i_110 : 1 ≤ r_101.toInt ∧ r_101.toInt ≤ 1 := iv_nel p_102 (by decide) c_109
                  have k_111 : ¬ r_101.toInt = 0 := fun q => c_109 (Int32.toInt_inj.mp q)
                  have z_130 : (fv_103 25).toInt = (fv_84 25).toInt := congrArg Int32.toInt ((fr_106 25 rfl))
                  have z_131 : 0 ≤ (fv_103 25).toInt ∧ (fv_103 25).toInt ≤ 8 := hF_fv_103 25
                  exact hj_126 fv_103 ar_105 _ _ ls hF_fv_103 (fM_rf [25] _) hA_ar_105 (fA_rf [65] _) (by omega) hP hS (lv_sub hl [0, 1] rfl)
                · skip
                  have i_112 : 0 ≤ r_101.toInt ∧ r_101.toInt ≤ 0 := iv_eq1 (⟨by decide, by decide⟩ : (0 : Int) ≤ (0 : Int32).toInt ∧ (0 : Int32).toInt ≤ 0) c_109
                  refine lv_aload_n hx hb dX5_readyStops_180 rfl (lv_at hl 0 rfl) ?_
                  refine gX_X5_21 hx hb htg hown hK hP dX5_readyStops_181 ?_
                  refine lv_aload_n hx hb dX5_readyStops_184 rfl (lv_at hl 0 rfl) ?_
                  refine gX_X5_124 hx hb htg hown hK hP dX5_readyStops_185 ?_
                  refine my_ti (y := fv_84 25) ((fr_106 25 rfl)) ?_
                  have i_114 : 0 ≤ (fv_84 25).toInt ∧ (fv_84 25).toInt ≤ 8 := hF_fv_84 25
                  have i_115 : 0 ≤ (fv_84 25).toInt ∧ (fv_84 25).toInt ≤ 7 := (by omega)
                  refine lv_iload_n hx hb dX5_readyStops_188 rfl (lv_at hl 1 rfl) ?_
                  refine sX_65 hx hb hK hP hS hd (iv_in i_115 (by decide) (by decide)) dX5_readyStops_189 (fun H locs ar_116 ear_116 hP hS => ?_)
                  have hA_ar_116 : rB ar_116 := rB_put hA_ar_105 ear_116 i_97
                  refine lv_aload_n hx hb dX5_readyStops_190 rfl (lv_at hl 0 rfl) ?_
                  refine lv_dup hx hb dX5_readyStops_191 rfl ?_
                  refine gX_X5_124 hx hb htg hown hK hP dX5_readyStops_192 ?_
                  refine my_ti (y := fv_84 25) ((fr_106 25 rfl)) ?_
                  refine lv_iconst (v := 1) hx hb dX5_readyStops_195 (by decide) ?_
                  refine lv_iadd hx hb dX5_readyStops_196 ?_
                  refine lv_topi (fun v_117 ev_117 => ?_)
                  have t_118 : v_117.toInt = (fv_84 25).toInt + 1 ∧ 1 ≤ v_117.toInt ∧ v_117.toInt ≤ 8 := iv_addc ev_117 i_115 (by decide) (by decide) (by decide)
                  refine pX_X5_124 hx hb htg hown hK hP hS hd dX5_readyStops_197 (fun H locs fv_120 efv_120 hP hS => ?_)
                  have hF_fv_120 : rX fv_120 := rX_put hF_fv_103 efv_120 (iv_w t_118.2 (by decide) (by decide))
                  have z_132 : (fv_120 25).toInt = v_117.toInt := congrArg Int32.toInt ((congrFun efv_120 25))
                  have z_133 : 0 ≤ (fv_120 25).toInt ∧ (fv_120 25).toInt ≤ 8 := hF_fv_120 25
                  exact hj_126 fv_120 ar_116 _ _ ls hF_fv_120 (fM_put (fM_rf [25] _) efv_120 (by decide)) hA_ar_116 (fA_put (fA_rf [65] _) ear_116 (by decide)) (by omega) hP hS (lv_sub hl [0, 1] rfl)
        · skip
          have z_142 : (0 : Int32).toInt = 0 := by decide
          have z_143 : (fv_82 25).toInt = (0 : Int32).toInt := congrArg Int32.toInt ((congrFun efv_82 25))
          have z_144 : (0 : Int32).toInt = 0 := by decide
          have z_145 : 0 ≤ (fv_82 25).toInt ∧ (fv_82 25).toInt ≤ 8 := hF_fv_82 25
          exact hj_93 9 0 fv_82 ar_19 wd_21 _ _ ls (by first | decide | omega) (iv_w (⟨by decide, by decide⟩ : (0 : Int) ≤ (0 : Int32).toInt ∧ (0 : Int32).toInt ≤ 0) (by decide) (by decide)) hF_fv_82 (fM_rf [25] _) hA_ar_19 (fA_rf [65] _) rfl (by omega) hP hS (lv_sub hl [1, 0] rfl)
      · skip
        have i_29 : 0 ≤ x_16.toInt ∧ x_16.toInt ≤ 39 := iv_lt1 i_x_16 i_26 (Int32.not_le.mp c_27)
        have i_30 : 1 ≤ (fv 10).toInt ∧ (fv 10).toInt ≤ 40 := iv_lt2 i_x_16 i_26 (Int32.not_le.mp c_27)
        have k_31 := Int32.lt_iff_toInt_lt.mp (Int32.not_le.mp c_27)
        refine lv_aload_n hx hb dX5_readyStops_39 rfl (lv_at hl 0 rfl) ?_
        refine gX_X5_9 hx hb htg hown hK hP dX5_readyStops_40 ?_
        refine gX_X5_85 hx hb htg hown hK hP dX5_readyStops_43 ?_
        refine gX_X5_92 hx hb htg hown hK hP dX5_readyStops_46 ?_
        refine lv_iload_n hx hb dX5_readyStops_49 rfl (lv_at hl 3 rfl) ?_
        refine lX_11 hx hb hK hP (iv_in i_29 (by decide) (by decide)) dX5_readyStops_50 (fun v_32 ev_32 => ?_)
        refine lv_aload_n hx hb dX5_readyStops_51 rfl (lv_at hl 0 rfl) ?_
        refine gX_X5_9 hx hb htg hown hK hP dX5_readyStops_52 ?_
        refine gX_X5_85 hx hb htg hown hK hP dX5_readyStops_55 ?_
        refine gX_X5_95 hx hb htg hown hK hP dX5_readyStops_58 ?_
        refine lv_iload_n hx hb dX5_readyStops_61 rfl (lv_at hl 3 rfl) ?_
        refine lX_12 hx hb hK hP (iv_in i_29 (by decide) (by decide)) dX5_readyStops_62 (fun v_33 ev_33 => ?_)
        refine lv_iload_n hx hb dX5_readyStops_63 rfl (lv_at hl 2 rfl) ?_
        refine va_calli (va_runS (As := [.int v_32, .int v_33, .int r_2]) (rest := []) ⟨hx, hb, hml, hown, hts⟩ (x_paceFor l H.size v_32 v_33 r_2) (va_cwS 3 hts (gS kw_6_25 kw_5_67 kw_1_2 kw_5_68) rfl rfl rfl (by decide +kernel) ⟨Nat.le_of_ble_eq_true rfl, Nat.le_of_ble_eq_true rfl⟩) ⟨fun a U g mk q => ⟨q.1, q.2⟩, fun U hU hW => ⟨rfl, congrArg Array.size hU⟩⟩ rfl rfl hl.1 rfl (lv_room (Nat.le_of_ble_eq_true rfl)) dX5_readyStops_64 ⟨Nat.le_of_ble_eq_true rfl, Nat.le_of_ble_eq_true rfl⟩) hS (fun q _ h9 => nX_up hS q h9) (nX_up hS) (fun r_34 u t H1 locs ht _ hw hB _ hk1 hS => ?_)
        have hP := my_keepM hP hk1
        generalize H1 = H at hP hS ⊢
        refine lv_istore (lv' := [(4, .int r_34), (0, .ref (ob 10)), (1, .int mm), (2, .int r_2), (3, .int x_16)]) hx hb dX5_readyStops_67 hl (by decide) rfl (fun ls hl => ?_)
        refine lv_iconst (v := 0) hx hb dX5_readyStops_69 (by decide) ?_
        refine lv_istore (lv' := [(5, .int 0), (4, .int r_34), (0, .ref (ob 10)), (1, .int mm), (2, .int r_2), (3, .int x_16)]) hx hb dX5_readyStops_70 hl (by decide) rfl (fun ls hl => ?_)
        refine my_cut (P := fun R9 a9 Q9 => ∀ (n_42 : Nat) (x_35 : Int32) (fv_36 : Nat → Int32) (ar_38 : Nat → Nat → Int32) (wd_40 : xT) (H : Heap) (locs : List Loc) (ls : Array Slot), 8 - x_35.toInt < (n_42 : Int) → (0 ≤ x_35.toInt ∧ x_35.toInt ≤ 8) → rX fv_36 → fM [] fv_17 fv_36 → rB ar_38 → fA [] ar_19 ar_38 → wd_40.2 = wd_21.2 → va_P (dC, dI) vwCl (wsX ob ad cA fv_36 wd_40 ar_38) H → va_S (aX ob ad s.heap.size) s.heap H locs → lv_has ls 7 [(0, .ref (ob 10)), (1, .int mm), (2, .int r_2), (3, .int x_16), (4, .int r_34), (5, .int x_35)] → W p l e R9 s m a9 below meth c H locs 0 0 Q9 (F0 m 72 ls [])) ?_ (fun hj_44 => ?_)
        · intro n_42
          induction n_42 with
          | zero => intro x_35 fv_36 ar_38 wd_40 H locs ls fu_43 i_x_35 hF_fv_36 fr_37 hA_ar_38 fa_39 wf_41; exfalso; omega
          | succ n_42 ih_42 =>
            intro x_35 fv_36 ar_38 wd_40 H locs ls fu_43 i_x_35 hF_fv_36 fr_37 hA_ar_38 fa_39 wf_41 hP hS hl
            refine lv_iload hx hb dX5_readyStops_72 (lv_at hl 5 rfl) ?_
            refine lv_aload_n hx hb dX5_readyStops_74 rfl (lv_at hl 0 rfl) ?_
            refine gX_X5_9 hx hb htg hown hK hP dX5_readyStops_75 ?_
            refine gX_X5_102 hx hb htg hown hK hP dX5_readyStops_78 ?_
            refine my_ti (y := fv 4) ((fr_37 4 rfl).trans ((fr_18 4 rfl).trans ((fr_13 4 rfl).trans ((fr_6 4 rfl))))) ?_
            have i_45 : 0 ≤ (fv 4).toInt ∧ (fv 4).toInt ≤ 8 := hF_fv 4
            refine lv_icmp_ge (tgt := 148) hx hb dX5_readyStops_81 (by decide) (fun c_46 => ?_) (fun c_46 => ?_)
            · skip
              have k_47 := Int32.le_iff_toInt_le.mp c_46
              obtain ⟨v_78, ev_78⟩ : ∃ z : Int32, z = x_16 + 1 := ⟨_, rfl⟩
              refine lv_iinc (v := v_78) (lv' := [(3, .int v_78), (0, .ref (ob 10)), (1, .int mm), (2, .int r_2), (4, .int r_34), (5, .int x_35)]) hx hb dX5_readyStops_148 hl (k := 3) rfl (by rw [ev_78]; rfl) (by decide) rfl (fun ls hl => ?_)
              have t_79 : v_78.toInt = x_16.toInt + 1 ∧ 1 ≤ v_78.toInt ∧ v_78.toInt ≤ 40 := iv_addc ev_78 i_29 (by decide) (by decide) (by decide)
              refine lv_goto (tgt := 25) hx hb dX5_readyStops_151 (by decide) ?_
              exact ih_23 v_78 fv_36 ar_38 wd_40 _ _ ls (by omega) (iv_w t_79.2 (by decide) (by decide)) hF_fv_36 (fM_call (fM_call (fM_rf [] _) fr_18 (by decide)) fr_37 (by decide)) hA_ar_38 (fA_call (fA_call (fA_rf [] _) fa_20 (by decide)) fa_39 (by decide)) (wf_41.trans wf_22) hP hS (lv_sub hl [1, 2, 3, 0] rfl)
            · skip
              have i_48 : 0 ≤ x_35.toInt ∧ x_35.toInt ≤ 7 := iv_lt1 i_x_35 i_45 (Int32.not_le.mp c_46)
              have i_49 : 1 ≤ (fv 4).toInt ∧ (fv 4).toInt ≤ 8 := iv_lt2 i_x_35 i_45 (Int32.not_le.mp c_46)
              have k_50 := Int32.lt_iff_toInt_lt.mp (Int32.not_le.mp c_46)
              refine lv_aload_n hx hb dX5_readyStops_84 rfl (lv_at hl 0 rfl) ?_
              refine gX_X5_9 hx hb htg hown hK hP dX5_readyStops_85 ?_
              refine gX_X5_105 hx hb htg hown hK hP dX5_readyStops_88 ?_
              refine lv_aload_n hx hb dX5_readyStops_91 rfl (lv_at hl 0 rfl) ?_
              refine gX_X5_9 hx hb htg hown hK hP dX5_readyStops_92 ?_
              refine gX_X5_85 hx hb htg hown hK hP dX5_readyStops_95 ?_
              refine gX_X5_109 hx hb htg hown hK hP dX5_readyStops_98 ?_
              refine lv_iload_n hx hb dX5_readyStops_101 rfl (lv_at hl 3 rfl) ?_
              refine lX_6 hx hb hK hP (iv_in i_29 (by decide) (by decide)) dX5_readyStops_102 (fun v_51 ev_51 => ?_)
              have i_52 : 0 ≤ v_51.toInt ∧ v_51.toInt ≤ 11 := ev_51 ▸ hA_ar_38 6 _
              refine lv_aload_n hx hb dX5_readyStops_103 rfl (lv_at hl 0 rfl) ?_
              refine gX_X5_9 hx hb htg hown hK hP dX5_readyStops_104 ?_
              refine gX_X5_112 hx hb htg hown hK hP dX5_readyStops_107 ?_
              refine lv_iload hx hb dX5_readyStops_110 (lv_at hl 5 rfl) ?_
              refine lX_2 hx hb hK hP (iv_in i_48 (by decide) (by decide)) dX5_readyStops_112 (fun v_53 ev_53 => ?_)
              have i_54 : 0 ≤ v_53.toInt ∧ v_53.toInt ≤ 11 := ev_53 ▸ hA_ar_38 2 _
              refine va_calli (va_runV (As := [.int v_51, .int v_53]) (rest := []) ⟨hx, hb, hml, hown, hts⟩ (x_between l dC dI H.size ob ad cA hd fv_36 wd_40 ar_38 hF_fv_36 hA_ar_38 v_51 v_53) (cwV 2 hts (gV kw_6_26 kw_3_147 kw_3_148 kw_1_3 kw_3_149) rfl rfl rfl (by decide +kernel) ⟨Nat.le_of_ble_eq_true rfl, Nat.le_of_ble_eq_true rfl⟩) ⟨fun a U g mk q => ⟨q.1, q.2.1, q.2.2.1, va_K.moved (u := U) (U := U.calling g mk a) (Vm.Alike.refl U.vm) q.2.2.2⟩, va_recv hK hP (ci := 5) (q0 := 2) rfl rfl, fun U hU hW => ⟨rfl, by rw [hU], by rw [hU]; exact hP, va_K.moved hW.alike hK⟩⟩ rfl rfl hl.1 rfl (lv_room (Nat.le_of_ble_eq_true rfl)) dX5_readyStops_113 ⟨Nat.le_of_ble_eq_true rfl, Nat.le_of_ble_eq_true rfl⟩) hS (fun q _ h9 => aX_up hS q h9) (aX_up hS) (fun r_55 u t H1 locs ht _ hw hB _ hk1 hS => ?_)
              obtain ⟨fv_56, wd_57, ar_58⟩ := u
              obtain ⟨hF_fv_56, hA_ar_58, fr_59, fa_60, wf_61, -⟩ := hw
              have wf_61 : wd_57.2 = wd_40.2 := wf_61
              have hP : va_P (dC, dI) vwCl (wsX ob ad cA fv_56 wd_57 ar_58) H1 := by have h9 := hB.1; rw [ht] at h9; exact h9
              have fr_59 : fM [] fv_36 fv_56 := fr_59
              have fa_60 : fA [] ar_38 ar_58 := fa_60
              generalize H1 = H at hP hS ⊢
              refine lv_istore (lv' := [(6, .int r_55), (0, .ref (ob 10)), (1, .int mm), (2, .int r_2), (3, .int x_16), (4, .int r_34), (5, .int x_35)]) hx hb dX5_readyStops_116 hl (by decide) rfl (fun ls hl => ?_)
              refine lv_iload hx hb dX5_readyStops_118 (lv_at hl 0 rfl) ?_
              refine lv_iload hx hb dX5_readyStops_120 (lv_at hl 5 rfl) ?_
              refine va_calli (va_runS (As := [.int r_55, .int r_34]) (rest := []) ⟨hx, hb, hml, hown, hts⟩ (x_minutesFor l H.size r_55 r_34) (va_cwS 2 hts (gS kw_6_27 kw_5_110 kw_1_2 kw_5_111) rfl rfl rfl (by decide +kernel) ⟨Nat.le_of_ble_eq_true rfl, Nat.le_of_ble_eq_true rfl⟩) ⟨fun a U g mk q => ⟨q.1, q.2⟩, fun U hU hW => ⟨rfl, congrArg Array.size hU⟩⟩ rfl rfl hl.1 rfl (lv_room (Nat.le_of_ble_eq_true rfl)) dX5_readyStops_122 ⟨Nat.le_of_ble_eq_true rfl, Nat.le_of_ble_eq_true rfl⟩) hS (fun q _ h9 => nX_up hS q h9) (nX_up hS) (fun r_62 u t H1 locs ht _ hw hB _ hk1 hS => ?_)
              have hP := my_keepM hP hk1
              generalize H1 = H at hP hS ⊢
              refine lv_iload_n hx hb dX5_readyStops_125 rfl (lv_at hl 2 rfl) ?_
              refine my_cut (P := fun R9 a9 Q9 => ∀ (wd_72 : xT) (H : Heap) (locs : List Loc) (ls : Array Slot), wd_72.2 = wd_57.2 → va_P (dC, dI) vwCl (wsX ob ad cA fv_56 wd_72 ar_58) H → va_S (aX ob ad s.heap.size) s.heap H locs → lv_has ls 7 [(0, .ref (ob 10)), (1, .int mm), (2, .int r_2), (3, .int x_16), (4, .int r_34), (5, .int x_35)] → W p l e R9 s m a9 below meth c H locs 0 0 Q9 (F0 m 142 ls [])) ?_ (fun hj_74 => ?_)
              · intro wd_72 H locs ls wf_73 hP hS hl
                obtain ⟨v_75, ev_75⟩ : ∃ z : Int32, z = x_35 + 1 := ⟨_, rfl⟩
                refine lv_iinc (v := v_75) (lv' := [(5, .int v_75), (0, .ref (ob 10)), (1, .int mm), (2, .int r_2), (3, .int x_16), (4, .int r_34)]) hx hb dX5_readyStops_142 hl (k := 5) rfl (by rw [ev_75]; rfl) (by decide) rfl (fun ls hl => ?_)
                have t_76 : v_75.toInt = x_35.toInt + 1 ∧ 1 ≤ v_75.toInt ∧ v_75.toInt ≤ 8 := iv_addc ev_75 i_48 (by decide) (by decide) (by decide)
                refine lv_goto (tgt := 72) hx hb dX5_readyStops_145 (by decide) ?_
                exact ih_42 v_75 fv_56 ar_58 wd_72 _ _ ls (by omega) (iv_w t_76.2 (by decide) (by decide)) hF_fv_56 (fM_call (fM_call (fM_rf [] _) fr_37 (by decide)) fr_59 (by decide)) hA_ar_58 (fA_call (fA_call (fA_rf [] _) fa_39 (by decide)) fa_60 (by decide)) (wf_73.trans (wf_61.trans wf_41)) hP hS (lv_sub hl [1, 2, 3, 4, 5, 0] rfl)
              · skip
                refine lv_icmp_gt (tgt := 142) hx hb dX5_readyStops_126 (by decide) (fun c_63 => ?_) (fun c_63 => ?_)
                · skip
                  have i_64 : (-2147483648) ≤ mm.toInt ∧ mm.toInt ≤ 2147483646 := iv_lt1 (iv_any mm) (iv_any r_62) c_63
                  have i_65 : (-2147483647) ≤ r_62.toInt ∧ r_62.toInt ≤ 2147483647 := iv_lt2 (iv_any mm) (iv_any r_62) c_63
                  have k_66 := Int32.lt_iff_toInt_lt.mp c_63
                  exact hj_74 wd_57 _ _ ls rfl hP hS (lv_sub hl [1, 2, 3, 4, 5, 6] rfl)
                · skip
                  have k_67 := Int32.le_iff_toInt_le.mp (Int32.not_lt.mp c_63)
                  refine lv_aload_n hx hb dX5_readyStops_129 rfl (lv_at hl 1 rfl) ?_
                  refine gX_X5_17 hx hb htg hown hK hP dX5_readyStops_130 ?_
                  refine lv_iload hx hb dX5_readyStops_133 (lv_at hl 6 rfl) ?_
                  refine lv_dup2_11 hx hb dX5_readyStops_135 rfl rfl ?_
                  refine lXJ hx hb hK hP (iv_in i_48 (by decide) (by decide)) dX5_readyStops_136 (fun w_68 _ => ?_)
                  refine lv_lconst (v := 1) hx hb dX5_readyStops_137 (by decide) ?_
                  refine lv_iload_n hx hb dX5_readyStops_138 rfl (lv_at hl 4 rfl) ?_
                  refine lv_lshl hx hb dX5_readyStops_139 rfl ?_
                  refine lv_topl (fun w_69 _ => ?_)
                  refine lv_lor hx hb dX5_readyStops_140 ?_
                  refine lv_topl (fun w_70 _ => ?_)
                  refine sXJ hx hb hK hP hS hd (iv_in i_48 (by decide) (by decide)) dX5_readyStops_141 (fun H locs wd_71 ewd_71 hP hS => ?_)
                  exact hj_74 wd_71 _ _ ls ewd_71 hP hS (lv_sub hl [1, 2, 3, 4, 5, 6] rfl)
        · skip
          have z_81 : (0 : Int32).toInt = 0 := by decide
          exact hj_44 9 0 fv_17 ar_19 wd_21 _ _ ls (by first | decide | omega) (iv_w (⟨by decide, by decide⟩ : (0 : Int) ≤ (0 : Int32).toInt ∧ (0 : Int32).toInt ≤ 0) (by decide) (by decide)) hF_fv_17 (fM_rf [] _) hA_ar_19 (fA_rf [] _) rfl hP hS (lv_sub hl [2, 3, 4, 5, 1, 0] rfl)
  · skip
    have z_146 : (0 : Int32).toInt = 0 := by decide
    exact hj_25 41 0 fv_10 ar_12 wd_11 _ _ ls (by first | decide | omega) (iv_w (⟨by decide, by decide⟩ : (0 : Int) ≤ (0 : Int32).toInt ∧ (0 : Int32).toInt ≤ 0) (by decide) (by decide)) hF_fv_10 (fM_rf [] _) hA_ar_12 (fA_rf [] _) rfl hP hS (lv_sub hl [2, 3, 1, 0] rfl)
set_option maxHeartbeats 4000000 in
set_option maxRecDepth 100000 in
theorem x_put_5 (l : Launch) (dC : Nat → ClassId) (dI : Nat → Nat → Nat) (sz : Nat) (ob ad : Nat → Nat) (cA : Nat → ClassId) (hd : dX ob ad) (fv : Nat → Int32) (wd : xT) (ar : Nat → Nat → Int32) (hF_fv : rX fv) (hA_ar : rB ar) (kk : Int32) (sa : Int32) (h_kk : 5 ≤ kk.toInt ∧ kk.toInt ≤ 5) : Met l yX5_put (.code yX5_put cX5_put 5 none :: lw_good) ({ frames := 2, cells := 0, slots := 0, locals := 40 }) (va_Pc [.ref (ob 10), .int kk, .int sa] (prX dC dI ob ad cA fv wd ar sz)) (va_Qv (fun (u : xS) => rX u.1 ∧ rB u.2.2 ∧ fM [28] fv u.1 ∧ fA [72] ar u.2.2 ∧ u.2.1.2 = wd.2 ∧ True) (enX dC dI ob ad cA) (aX ob ad sz)) 0 0 (aX ob ad sz) := by
  refine Met.ofW (cc := cX5_put) (maxL := 5) (ret := none) (by decide) rfl ?_
  intro p e s m args below meth c s₁ B hml hv
  obtain ⟨rfl, hsz, hP, hK⟩ := hv
  have hx := B.exec
  have hb := B.bytes
  have hr := B.returns
  have hts := atoms_spec (ws := (.code yX5_put cX5_put 5 none :: lw_good)) B.pre
  have htg : ∀ w ∈ lw_good, w.before _ s = true := fun w hw => hts w (List.mem_cons_of_mem _ hw)
  have hown : s.vm.findClass RX5 = some m.cls := findClass_of_methodNamed B.named
  have hlocks := B.notSynchronized
  subst hsz
  have hS : va_S (aX ob ad s.heap.size) s.heap s.heap [] := va_S.rf
  have hl := lv_entry ([.ref (ob 10), .int kk, .int sa]) (n := 5) (Nat.le_of_ble_eq_true rfl)
  rw [lg_entry_eq]
  generalize (lg_sl ([.ref (ob 10), .int kk, .int sa]) ++ List.replicate (5 - (lg_sl ([.ref (ob 10), .int kk, .int sa])).length) Slot.unset).toArray = ls at hl ⊢
  have hl : lv_has ls 5 [(0, .ref (ob 10)), (1, .int kk), (2, .int sa)] := hl
  refine lv_iload_n hx hb dX5_put_0 rfl (lv_at hl 1 rfl) ?_
  refine lv_aload_n hx hb dX5_put_1 rfl (lv_at hl 0 rfl) ?_
  refine gX_X5_46 hx hb htg hown hK hP dX5_put_2 ?_
  have i_1 : 0 ≤ (fv 26).toInt ∧ (fv 26).toInt ≤ 5 := hF_fv 26
  refine lv_icmp_lt (tgt := 47) hx hb dX5_put_5 (by decide) (fun c_2 => ?_) (fun c_2 => ?_)
  · skip
    exact absurd True.intro (by have h7 := h_kk; have h8 := i_1; have h9 := Int32.lt_iff_toInt_lt.mp c_2; exfalso; omega)
  · skip
    refine lv_aload_n hx hb dX5_put_8 rfl (lv_at hl 0 rfl) ?_
    refine lv_iload_n hx hb dX5_put_9 rfl (lv_at hl 2 rfl) ?_
    refine pX_X5_58 hx hb htg hown hK hP hS hd dX5_put_10 (fun H locs fv_3 efv_3 hP hS => ?_)
    have hF_fv_3 : rX fv_3 := rX_put hF_fv efv_3 (iv_any sa)
    refine lv_iconst (v := 0) hx hb dX5_put_13 (by decide) ?_
    refine lv_istore_n (lv' := [(3, .int 0), (0, .ref (ob 10)), (1, .int kk), (2, .int sa)]) hx hb dX5_put_14 rfl hl (by decide) rfl (fun ls hl => ?_)
    refine my_cut (P := fun R9 a9 Q9 => ∀ (n_7 : Nat) (x_4 : Int32) (ar_5 : Nat → Nat → Int32) (H : Heap) (locs : List Loc) (ls : Array Slot), 5 - x_4.toInt < (n_7 : Int) → (0 ≤ x_4.toInt ∧ x_4.toInt ≤ 5) → rB ar_5 → fA [72] ar ar_5 → va_P (dC, dI) vwCl (wsX ob ad cA fv_3 wd ar_5) H → va_S (aX ob ad s.heap.size) s.heap H locs → lv_has ls 5 [(0, .ref (ob 10)), (3, .int x_4)] → W p l e R9 s m a9 below meth c H locs 0 0 Q9 (F0 m 15 ls [])) ?_ (fun hj_9 => ?_)
    · intro n_7
      induction n_7 with
      | zero => intro x_4 ar_5 H locs ls fu_8 i_x_4 hA_ar_5 fa_6; exfalso; omega
      | succ n_7 ih_7 =>
        intro x_4 ar_5 H locs ls fu_8 i_x_4 hA_ar_5 fa_6 hP hS hl
        refine lv_iload_n hx hb dX5_put_15 rfl (lv_at hl 1 rfl) ?_
        refine lv_aload_n hx hb dX5_put_16 rfl (lv_at hl 0 rfl) ?_
        refine gX_X5_46 hx hb htg hown hK hP dX5_put_17 ?_
        refine my_ti (y := fv 26) ((congrFun efv_3 26)) ?_
        refine lv_icmp_ge (tgt := 46) hx hb dX5_put_20 (by decide) (fun c_10 => ?_) (fun c_10 => ?_)
        · skip
          exact W.vret hx hb hr (fun t ht hW => ⟨⟨(fv_3, wd, ar_5), rfl, ⟨hF_fv_3, hA_ar_5, (fM_put (fM_rf [28] _) efv_3 (by decide)), (fA_call (fA_rf [72] _) fa_6 (by decide)), rfl, trivial⟩, ⟨by rw [ht]; exact hP, va_K.moved hW.alike hK⟩⟩, hS.F ht⟩) hS.2.2 dX5_put_46
        · skip
          have i_11 : 0 ≤ x_4.toInt ∧ x_4.toInt ≤ 4 := iv_lt1 i_x_4 i_1 (Int32.not_le.mp c_10)
          have i_12 : 1 ≤ (fv 26).toInt ∧ (fv 26).toInt ≤ 5 := iv_lt2 i_x_4 i_1 (Int32.not_le.mp c_10)
          refine lv_aload_n hx hb dX5_put_23 rfl (lv_at hl 0 rfl) ?_
          refine gX_X5_43 hx hb htg hown hK hP dX5_put_24 ?_
          refine lv_iload_n hx hb dX5_put_27 rfl (lv_at hl 1 rfl) ?_
          refine lv_aload_n hx hb dX5_put_28 rfl (lv_at hl 0 rfl) ?_
          refine gX_X5_21 hx hb htg hown hK hP dX5_put_29 ?_
          refine lv_aload_n hx hb dX5_put_32 rfl (lv_at hl 0 rfl) ?_
          refine gX_X5_40 hx hb htg hown hK hP dX5_put_33 ?_
          refine lv_iload_n hx hb dX5_put_36 rfl (lv_at hl 1 rfl) ?_
          refine lX_71 hx hb hK hP (iv_in i_11 (by decide) (by decide)) dX5_put_37 (fun v_13 ev_13 => ?_)
          have i_14 : 0 ≤ v_13.toInt ∧ v_13.toInt ≤ 7 := ev_13 ▸ hA_ar_5 71 _
          refine lX_65 hx hb hK hP (iv_in i_14 (by decide) (by decide)) dX5_put_38 (fun v_15 ev_15 => ?_)
          have i_16 : 0 ≤ v_15.toInt ∧ v_15.toInt ≤ 7 := ev_15 ▸ hA_ar_5 65 _
          refine sX_72 hx hb hK hP hS hd (iv_in i_11 (by decide) (by decide)) dX5_put_39 (fun H locs ar_17 ear_17 hP hS => ?_)
          have hA_ar_17 : rB ar_17 := rB_put hA_ar_5 ear_17 (iv_any _)
          obtain ⟨v_18, ev_18⟩ : ∃ z : Int32, z = x_4 + 1 := ⟨_, rfl⟩
          refine lv_iinc (v := v_18) (lv' := [(3, .int v_18), (0, .ref (ob 10))]) hx hb dX5_put_40 hl (k := 1) rfl (by rw [ev_18]; rfl) (by decide) rfl (fun ls hl => ?_)
          have t_19 : v_18.toInt = x_4.toInt + 1 ∧ 1 ≤ v_18.toInt ∧ v_18.toInt ≤ 5 := iv_addc ev_18 i_11 (by decide) (by decide) (by decide)
          refine lv_goto (tgt := 15) hx hb dX5_put_43 (by decide) ?_
          exact ih_7 v_18 ar_17 _ _ ls (by omega) (iv_w t_19.2 (by decide) (by decide)) hA_ar_17 (fA_put (fA_call (fA_rf [72] _) fa_6 (by decide)) ear_17 (by decide)) hP hS (lv_sub hl [1, 0] rfl)
    · skip
      have z_21 : (0 : Int32).toInt = 0 := by decide
      exact hj_9 6 0 ar _ _ ls (by first | decide | omega) (iv_w (⟨by decide, by decide⟩ : (0 : Int) ≤ (0 : Int32).toInt ∧ (0 : Int32).toInt ≤ 0) (by decide) (by decide)) hA_ar (fA_rf [72] _) hP hS (lv_sub hl [1, 0] rfl)
set_option maxHeartbeats 4000000 in
set_option maxRecDepth 100000 in
theorem x_put_4 (l : Launch) (dC : Nat → ClassId) (dI : Nat → Nat → Nat) (sz : Nat) (ob ad : Nat → Nat) (cA : Nat → ClassId) (hd : dX ob ad) (fv : Nat → Int32) (wd : xT) (ar : Nat → Nat → Int32) (hF_fv : rX fv) (hA_ar : rB ar) (kk : Int32) (sa : Int32) (h_kk : 4 ≤ kk.toInt ∧ kk.toInt ≤ 4) : Met l yX5_put (.code yX5_put cX5_put 5 none :: lw_good) ({ frames := 3, cells := 0, slots := 0, locals := 66 }) (va_Pc [.ref (ob 10), .int kk, .int sa] (prX dC dI ob ad cA fv wd ar sz)) (va_Qv (fun (u : xS) => rX u.1 ∧ rB u.2.2 ∧ fM [28] fv u.1 ∧ fA [69, 71, 72] ar u.2.2 ∧ u.2.1.2 = wd.2 ∧ True) (enX dC dI ob ad cA) (aX ob ad sz)) 0 0 (aX ob ad sz) := by
  refine Met.ofW (cc := cX5_put) (maxL := 5) (ret := none) (by decide) rfl ?_
  intro p e s m args below meth c s₁ B hml hv
  obtain ⟨rfl, hsz, hP, hK⟩ := hv
  have hx := B.exec
  have hb := B.bytes
  have hr := B.returns
  have hts := atoms_spec (ws := (.code yX5_put cX5_put 5 none :: lw_good)) B.pre
  have htg : ∀ w ∈ lw_good, w.before _ s = true := fun w hw => hts w (List.mem_cons_of_mem _ hw)
  have hown : s.vm.findClass RX5 = some m.cls := findClass_of_methodNamed B.named
  have hlocks := B.notSynchronized
  subst hsz
  have hS : va_S (aX ob ad s.heap.size) s.heap s.heap [] := va_S.rf
  have hl := lv_entry ([.ref (ob 10), .int kk, .int sa]) (n := 5) (Nat.le_of_ble_eq_true rfl)
  rw [lg_entry_eq]
  generalize (lg_sl ([.ref (ob 10), .int kk, .int sa]) ++ List.replicate (5 - (lg_sl ([.ref (ob 10), .int kk, .int sa])).length) Slot.unset).toArray = ls at hl ⊢
  have hl : lv_has ls 5 [(0, .ref (ob 10)), (1, .int kk), (2, .int sa)] := hl
  refine lv_iload_n hx hb dX5_put_0 rfl (lv_at hl 1 rfl) ?_
  refine lv_aload_n hx hb dX5_put_1 rfl (lv_at hl 0 rfl) ?_
  refine gX_X5_46 hx hb htg hown hK hP dX5_put_2 ?_
  have i_1 : 0 ≤ (fv 26).toInt ∧ (fv 26).toInt ≤ 5 := hF_fv 26
  refine lv_icmp_lt (tgt := 47) hx hb dX5_put_5 (by decide) (fun c_2 => ?_) (fun c_2 => ?_)
  · skip
    have i_3 : 5 ≤ (fv 26).toInt ∧ (fv 26).toInt ≤ 5 := iv_lt2 h_kk i_1 c_2
    refine lv_aload_n hx hb dX5_put_47 rfl (lv_at hl 0 rfl) ?_
    refine lv_iload_n hx hb dX5_put_48 rfl (lv_at hl 1 rfl) ?_
    refine va_calli (va_runV (As := [.int kk]) (rest := []) ⟨hx, hb, hml, hown, hts⟩ (x_firstPlace l dC dI s.heap.size ob ad cA hd fv wd ar hF_fv hA_ar kk (iv_w h_kk (by decide) (by decide))) (cwV 1 hts (gV kw_6_47 kw_6_49 kw_p_54 kw_1_14 kw_6_50) rfl rfl rfl (by decide +kernel) ⟨Nat.le_of_ble_eq_true rfl, Nat.le_of_ble_eq_true rfl⟩) ⟨fun a U g mk q => ⟨q.1, q.2.1, q.2.2.1, va_K.moved (u := U) (U := U.calling g mk a) (Vm.Alike.refl U.vm) q.2.2.2⟩, va_recv hK hP (ci := 6) (q0 := 10) rfl rfl, fun U hU hW => ⟨rfl, by rw [hU], by rw [hU]; exact hP, va_K.moved hW.alike hK⟩⟩ rfl rfl hl.1 rfl (lv_room (Nat.le_of_ble_eq_true rfl)) dX5_put_49 ⟨Nat.le_of_ble_eq_true rfl, Nat.le_of_ble_eq_true rfl⟩) hS (fun q _ h9 => aX_up hS q h9) (aX_up hS) (fun r_4 u t H1 locs ht _ hw hB _ hk1 hS => ?_)
    obtain ⟨fv_6, wd_7, ar_8⟩ := u
    obtain ⟨hF_fv_6, hA_ar_8, fr_9, fa_10, wf_11, p_5, -⟩ := hw
    have wf_11 : wd_7.2 = wd.2 := wf_11
    have hP : va_P (dC, dI) vwCl (wsX ob ad cA fv_6 wd_7 ar_8) H1 := by have h9 := hB.1; rw [ht] at h9; exact h9
    have fr_9 : fM [] fv fv_6 := fr_9
    have fa_10 : fA [] ar ar_8 := fa_10
    generalize H1 = H at hP hS ⊢
    refine lv_istore_n (lv' := [(3, .int r_4), (0, .ref (ob 10)), (1, .int kk), (2, .int sa)]) hx hb dX5_put_52 rfl hl (by decide) rfl (fun ls hl => ?_)
    refine my_cut (P := fun R9 a9 Q9 => ∀ (n_19 : Nat) (x_12 : Int32) (fv_13 : Nat → Int32) (ar_15 : Nat → Nat → Int32) (wd_17 : xT) (H : Heap) (locs : List Loc) (ls : Array Slot), 8 - x_12.toInt < (n_19 : Int) → (0 ≤ x_12.toInt ∧ x_12.toInt ≤ 8) → rX fv_13 → fM [28] fv_6 fv_13 → rB ar_15 → fA [69, 71, 72] ar_8 ar_15 → wd_17.2 = wd_7.2 → va_P (dC, dI) vwCl (wsX ob ad cA fv_13 wd_17 ar_15) H → va_S (aX ob ad s.heap.size) s.heap H locs → lv_has ls 5 [(0, .ref (ob 10)), (1, .int kk), (2, .int sa), (3, .int x_12)] → W p l e R9 s m a9 below meth c H locs 0 0 Q9 (F0 m 53 ls [])) ?_ (fun hj_21 => ?_)
    · intro n_19
      induction n_19 with
      | zero => intro x_12 fv_13 ar_15 wd_17 H locs ls fu_20 i_x_12 hF_fv_13 fr_14 hA_ar_15 fa_16 wf_18; exfalso; omega
      | succ n_19 ih_19 =>
        intro x_12 fv_13 ar_15 wd_17 H locs ls fu_20 i_x_12 hF_fv_13 fr_14 hA_ar_15 fa_16 wf_18 hP hS hl
        refine lv_iload_n hx hb dX5_put_53 rfl (lv_at hl 3 rfl) ?_
        refine lv_aload_n hx hb dX5_put_54 rfl (lv_at hl 0 rfl) ?_
        refine gX_X5_124 hx hb htg hown hK hP dX5_put_55 ?_
        refine my_ti (y := fv 25) ((fr_14 25 rfl).trans ((fr_9 25 rfl))) ?_
        have i_22 : 0 ≤ (fv 25).toInt ∧ (fv 25).toInt ≤ 8 := hF_fv 25
        refine lv_icmp_ge (tgt := 132) hx hb dX5_put_58 (by decide) (fun c_23 => ?_) (fun c_23 => ?_)
        · skip
          exact W.vret hx hb hr (fun t ht hW => ⟨⟨(fv_13, wd_17, ar_15), rfl, ⟨hF_fv_13, hA_ar_15, (fM_call (fM_call (fM_rf [28] _) fr_9 (by decide)) fr_14 (by decide)), (fA_call (fA_call (fA_rf [69, 71, 72] _) fa_10 (by decide)) fa_16 (by decide)), (wf_18.trans wf_11), trivial⟩, ⟨by rw [ht]; exact hP, va_K.moved hW.alike hK⟩⟩, hS.F ht⟩) hS.2.2 dX5_put_132
        · skip
          have i_24 : 0 ≤ x_12.toInt ∧ x_12.toInt ≤ 7 := iv_lt1 i_x_12 i_22 (Int32.not_le.mp c_23)
          have i_25 : 1 ≤ (fv 25).toInt ∧ (fv 25).toInt ≤ 8 := iv_lt2 i_x_12 i_22 (Int32.not_le.mp c_23)
          refine lv_aload_n hx hb dX5_put_61 rfl (lv_at hl 0 rfl) ?_
          refine gX_X5_40 hx hb htg hown hK hP dX5_put_62 ?_
          refine lv_iload_n hx hb dX5_put_65 rfl (lv_at hl 1 rfl) ?_
          refine lv_iload_n hx hb dX5_put_66 rfl (lv_at hl 3 rfl) ?_
          refine sX_71 hx hb hK hP hS hd (iv_in h_kk (by decide) (by decide)) dX5_put_67 (fun H locs ar_26 ear_26 hP hS => ?_)
          have hA_ar_26 : rB ar_26 := rB_put hA_ar_15 ear_26 i_24
          refine lv_iload_n hx hb dX5_put_68 rfl (lv_at hl 2 rfl) ?_
          refine lv_aload_n hx hb dX5_put_69 rfl (lv_at hl 0 rfl) ?_
          refine gX_X5_28 hx hb htg hown hK hP dX5_put_70 ?_
          refine lv_iload_n hx hb dX5_put_73 rfl (lv_at hl 1 rfl) ?_
          refine lX_67 hx hb hK hP (iv_in h_kk (by decide) (by decide)) dX5_put_74 (fun v_27 ev_27 => ?_)
          refine lv_iadd hx hb dX5_put_75 ?_
          refine lv_topi (fun v_28 ev_28 => ?_)
          refine lv_aload_n hx hb dX5_put_76 rfl (lv_at hl 0 rfl) ?_
          refine lv_iload_n hx hb dX5_put_77 rfl (lv_at hl 1 rfl) ?_
          refine lv_aload_n hx hb dX5_put_78 rfl (lv_at hl 0 rfl) ?_
          refine gX_X5_21 hx hb htg hown hK hP dX5_put_79 ?_
          refine lv_iload_n hx hb dX5_put_82 rfl (lv_at hl 3 rfl) ?_
          refine lX_65 hx hb hK hP (iv_in i_24 (by decide) (by decide)) dX5_put_83 (fun v_29 ev_29 => ?_)
          have i_30 : 0 ≤ v_29.toInt ∧ v_29.toInt ≤ 7 := ev_29 ▸ hA_ar_26 65 _
          refine va_calli (va_runV (As := [.int kk, .int v_29]) (rest := [.int v_28]) ⟨hx, hb, hml, hown, hts⟩ (x_mostWith l dC dI H.size ob ad cA hd fv_13 wd_17 ar_26 hF_fv_13 hA_ar_26 kk v_29 (iv_w h_kk (by decide) (by decide)) i_30) (cwV 2 hts (gV kw_6_51 kw_6_53 kw_p_55 kw_1_14 kw_6_54) rfl rfl rfl (by decide +kernel) ⟨Nat.le_of_ble_eq_true rfl, Nat.le_of_ble_eq_true rfl⟩) ⟨fun a U g mk q => ⟨q.1, q.2.1, q.2.2.1, va_K.moved (u := U) (U := U.calling g mk a) (Vm.Alike.refl U.vm) q.2.2.2⟩, va_recv hK hP (ci := 6) (q0 := 10) rfl rfl, fun U hU hW => ⟨rfl, by rw [hU], by rw [hU]; exact hP, va_K.moved hW.alike hK⟩⟩ rfl rfl hl.1 rfl (lv_room (Nat.le_of_ble_eq_true rfl)) dX5_put_84 ⟨Nat.le_of_ble_eq_true rfl, Nat.le_of_ble_eq_true rfl⟩) hS (fun q _ h9 => aX_up hS q h9) (aX_up hS) (fun r_31 u t H1 locs ht _ hw hB _ hk1 hS => ?_)
          obtain ⟨fv_32, wd_33, ar_34⟩ := u
          obtain ⟨hF_fv_32, hA_ar_34, fr_35, fa_36, wf_37, -⟩ := hw
          have wf_37 : wd_33.2 = wd_17.2 := wf_37
          have hP : va_P (dC, dI) vwCl (wsX ob ad cA fv_32 wd_33 ar_34) H1 := by have h9 := hB.1; rw [ht] at h9; exact h9
          have fr_35 : fM [] fv_13 fv_32 := fr_35
          have fa_36 : fA [69] ar_26 ar_34 := fa_36
          generalize H1 = H at hP hS ⊢
          refine va_mmin hx hb (hml.trans hl.1.symm) hown (htg (.methodLink RX5 150 Lib.Math.min.name) kw_6_55) (htg (.static Lib.Math.min.name) kw_3_151) (htg (.initialized RJ9) kw_1_16) (htg (.code Lib.Math.min.name Lib.Math.min.code 2 (some .int)) kw_3_152) (Nat.le_of_ble_eq_true rfl) (Nat.le_of_ble_eq_true rfl) (Nat.le_of_ble_eq_true rfl) (Nat.le_of_ble_eq_true rfl) dX5_put_87 ?_
          refine lv_topi (fun v_38 ev_38 => ?_)
          refine lv_istore (lv' := [(4, .int v_38), (0, .ref (ob 10)), (1, .int kk), (2, .int sa), (3, .int x_12)]) hx hb dX5_put_90 hl (by decide) rfl (fun ls hl => ?_)
          refine lv_aload_n hx hb dX5_put_92 rfl (lv_at hl 1 rfl) ?_
          refine gX_X5_142 hx hb htg hown hK hP dX5_put_93 ?_
          refine my_ti (y := fv 27) ((fr_35 27 rfl).trans ((fr_14 27 rfl).trans ((fr_9 27 rfl)))) ?_
          refine lv_iload hx hb dX5_put_96 (lv_at hl 0 rfl) ?_
          refine lv_aload_n hx hb dX5_put_98 rfl (lv_at hl 1 rfl) ?_
          refine gX_X5_31 hx hb htg hown hK hP dX5_put_99 ?_
          refine lv_iload_n hx hb dX5_put_102 rfl (lv_at hl 2 rfl) ?_
          refine lv_iconst (v := 1) hx hb dX5_put_103 (by decide) ?_
          refine lv_iadd hx hb dX5_put_104 ?_
          refine lv_topi (fun v_39 ev_39 => ?_)
          have t_40 : v_39.toInt = kk.toInt + 1 ∧ 5 ≤ v_39.toInt ∧ v_39.toInt ≤ 5 := iv_addc ev_39 h_kk (by decide) (by decide) (by decide)
          refine lX_68 hx hb hK hP (iv_in t_40.2 (by decide) (by decide)) dX5_put_105 (fun v_42 ev_42 => ?_)
          refine lv_iadd hx hb dX5_put_106 ?_
          refine lv_topi (fun v_43 ev_43 => ?_)
          refine va_mmin hx hb (hml.trans hl.1.symm) hown (htg (.methodLink RX5 150 Lib.Math.min.name) kw_6_55) (htg (.static Lib.Math.min.name) kw_3_151) (htg (.initialized RJ9) kw_1_16) (htg (.code Lib.Math.min.name Lib.Math.min.code 2 (some .int)) kw_3_152) (Nat.le_of_ble_eq_true rfl) (Nat.le_of_ble_eq_true rfl) (Nat.le_of_ble_eq_true rfl) (Nat.le_of_ble_eq_true rfl) dX5_put_107 ?_
          refine lv_topi (fun v_44 ev_44 => ?_)
          refine lv_aload_n hx hb dX5_put_110 rfl (lv_at hl 1 rfl) ?_
          refine gX_X5_58 hx hb htg hown hK hP dX5_put_111 ?_
          refine my_ti (y := fv_13 28) ((fr_35 28 rfl)) ?_
          refine my_cut (P := fun R9 a9 Q9 => ∀ (fv_55 : Nat → Int32) (ar_57 : Nat → Nat → Int32) (wd_59 : xT) (H : Heap) (locs : List Loc) (ls : Array Slot), rX fv_55 → fM [28] fv_32 fv_55 → rB ar_57 → fA [72] ar_34 ar_57 → wd_59.2 = wd_33.2 → va_P (dC, dI) vwCl (wsX ob ad cA fv_55 wd_59 ar_57) H → va_S (aX ob ad s.heap.size) s.heap H locs → lv_has ls 5 [(0, .ref (ob 10)), (1, .int kk), (2, .int sa), (3, .int x_12)] → W p l e R9 s m a9 below meth c H locs 0 0 Q9 (F0 m 126 ls [])) ?_ (fun hj_61 => ?_)
          · intro fv_55 ar_57 wd_59 H locs ls hF_fv_55 fr_56 hA_ar_57 fa_58 wf_60 hP hS hl
            obtain ⟨v_62, ev_62⟩ : ∃ z : Int32, z = x_12 + 1 := ⟨_, rfl⟩
            refine lv_iinc (v := v_62) (lv' := [(3, .int v_62), (0, .ref (ob 10)), (1, .int kk), (2, .int sa)]) hx hb dX5_put_126 hl (k := 3) rfl (by rw [ev_62]; rfl) (by decide) rfl (fun ls hl => ?_)
            have t_63 : v_62.toInt = x_12.toInt + 1 ∧ 1 ≤ v_62.toInt ∧ v_62.toInt ≤ 8 := iv_addc ev_62 i_24 (by decide) (by decide) (by decide)
            refine lv_goto (tgt := 53) hx hb dX5_put_129 (by decide) ?_
            exact ih_19 v_62 fv_55 ar_57 wd_59 _ _ ls (by omega) (iv_w t_63.2 (by decide) (by decide)) hF_fv_55 (fM_call (fM_call (fM_call (fM_rf [28] _) fr_14 (by decide)) fr_35 (by decide)) fr_56 (by decide)) hA_ar_57 (fA_call (fA_call (fA_put (fA_call (fA_rf [69, 71, 72] _) fa_16 (by decide)) ear_26 (by decide)) fa_36 (by decide)) fa_58 (by decide)) (wf_60.trans (wf_37.trans wf_18)) hP hS (lv_sub hl [1, 2, 3, 0] rfl)
          · skip
            refine lv_icmp_le (tgt := 126) hx hb dX5_put_114 (by decide) (fun c_45 => ?_) (fun c_45 => ?_)
            · skip
              exact hj_61 fv_32 ar_34 wd_33 _ _ ls hF_fv_32 (fM_rf [28] _) hA_ar_34 (fA_rf [72] _) rfl hP hS (lv_sub hl [1, 2, 3, 4] rfl)
            · skip
              have i_46 : (-2147483648) ≤ (fv_13 28).toInt ∧ (fv_13 28).toInt ≤ 2147483646 := iv_lt1 (iv_any (fv_13 28)) (iv_any v_44) (Int32.not_le.mp c_45)
              have i_47 : (-2147483647) ≤ v_44.toInt ∧ v_44.toInt ≤ 2147483647 := iv_lt2 (iv_any (fv_13 28)) (iv_any v_44) (Int32.not_le.mp c_45)
              refine lv_aload_n hx hb dX5_put_117 rfl (lv_at hl 1 rfl) ?_
              refine lv_iload_n hx hb dX5_put_118 rfl (lv_at hl 2 rfl) ?_
              refine lv_iconst (v := 1) hx hb dX5_put_119 (by decide) ?_
              refine lv_iadd hx hb dX5_put_120 ?_
              refine my_ti (y := v_39) ev_39.symm ?_
              refine lv_iload hx hb dX5_put_121 (lv_at hl 0 rfl) ?_
              refine va_callv (va_runV (As := [.int v_39, .int v_38]) (rest := []) ⟨hx, hb, hml, hown, hts⟩ (x_put_5 l dC dI H.size ob ad cA hd fv_32 wd_33 ar_34 hF_fv_32 hA_ar_34 v_39 v_38 t_40.2) (cwV 2 hts (gV kw_6_43 kw_6_45 kw_p_53 kw_1_14 kw_6_46) rfl rfl rfl (by decide +kernel) ⟨Nat.le_of_ble_eq_true rfl, Nat.le_of_ble_eq_true rfl⟩) ⟨fun a U g mk q => ⟨q.1, q.2.1, q.2.2.1, va_K.moved (u := U) (U := U.calling g mk a) (Vm.Alike.refl U.vm) q.2.2.2⟩, va_recv hK hP (ci := 6) (q0 := 10) rfl rfl, fun U hU hW => ⟨rfl, by rw [hU], by rw [hU]; exact hP, va_K.moved hW.alike hK⟩⟩ rfl rfl hl.1 rfl (lv_room (Nat.le_of_ble_eq_true rfl)) dX5_put_123 ⟨Nat.le_of_ble_eq_true rfl, Nat.le_of_ble_eq_true rfl⟩) hS (fun q _ h9 => aX_up hS q h9) (aX_up hS) (fun u t H1 locs ht _ hw hB _ hk1 hS => ?_)
              obtain ⟨fv_49, wd_50, ar_51⟩ := u
              obtain ⟨hF_fv_49, hA_ar_51, fr_52, fa_53, wf_54, -⟩ := hw
              have wf_54 : wd_50.2 = wd_33.2 := wf_54
              have hP : va_P (dC, dI) vwCl (wsX ob ad cA fv_49 wd_50 ar_51) H1 := by have h9 := hB.1; rw [ht] at h9; exact h9
              have fr_52 : fM [28] fv_32 fv_49 := fr_52
              have fa_53 : fA [72] ar_34 ar_51 := fa_53
              generalize H1 = H at hP hS ⊢
              exact hj_61 fv_49 ar_51 wd_50 _ _ ls hF_fv_49 (fM_call (fM_rf [28] _) fr_52 (by decide)) hA_ar_51 (fA_call (fA_rf [72] _) fa_53 (by decide)) wf_54 hP hS (lv_sub hl [1, 2, 3, 4] rfl)
    · skip
      exact hj_21 9 r_4 fv_6 ar_8 wd_7 _ _ ls (by omega) (iv_w p_5 (by decide) (by decide)) hF_fv_6 (fM_rf [28] _) hA_ar_8 (fA_rf [69, 71, 72] _) rfl hP hS (lv_sub hl [1, 2, 3, 0] rfl)
  · skip
    have i_65 : 0 ≤ (fv 26).toInt ∧ (fv 26).toInt ≤ 4 := iv_le1 i_1 h_kk (Int32.not_lt.mp c_2)
    refine lv_aload_n hx hb dX5_put_8 rfl (lv_at hl 0 rfl) ?_
    refine lv_iload_n hx hb dX5_put_9 rfl (lv_at hl 2 rfl) ?_
    refine pX_X5_58 hx hb htg hown hK hP hS hd dX5_put_10 (fun H locs fv_66 efv_66 hP hS => ?_)
    have hF_fv_66 : rX fv_66 := rX_put hF_fv efv_66 (iv_any sa)
    refine lv_iconst (v := 0) hx hb dX5_put_13 (by decide) ?_
    refine lv_istore_n (lv' := [(3, .int 0), (0, .ref (ob 10)), (1, .int kk), (2, .int sa)]) hx hb dX5_put_14 rfl hl (by decide) rfl (fun ls hl => ?_)
    refine my_cut (P := fun R9 a9 Q9 => ∀ (n_70 : Nat) (x_67 : Int32) (ar_68 : Nat → Nat → Int32) (H : Heap) (locs : List Loc) (ls : Array Slot), 4 - x_67.toInt < (n_70 : Int) → (0 ≤ x_67.toInt ∧ x_67.toInt ≤ 4) → rB ar_68 → fA [72] ar ar_68 → va_P (dC, dI) vwCl (wsX ob ad cA fv_66 wd ar_68) H → va_S (aX ob ad s.heap.size) s.heap H locs → lv_has ls 5 [(0, .ref (ob 10)), (3, .int x_67)] → W p l e R9 s m a9 below meth c H locs 0 0 Q9 (F0 m 15 ls [])) ?_ (fun hj_72 => ?_)
    · intro n_70
      induction n_70 with
      | zero => intro x_67 ar_68 H locs ls fu_71 i_x_67 hA_ar_68 fa_69; exfalso; omega
      | succ n_70 ih_70 =>
        intro x_67 ar_68 H locs ls fu_71 i_x_67 hA_ar_68 fa_69 hP hS hl
        refine lv_iload_n hx hb dX5_put_15 rfl (lv_at hl 1 rfl) ?_
        refine lv_aload_n hx hb dX5_put_16 rfl (lv_at hl 0 rfl) ?_
        refine gX_X5_46 hx hb htg hown hK hP dX5_put_17 ?_
        refine my_ti (y := fv 26) ((congrFun efv_66 26)) ?_
        refine lv_icmp_ge (tgt := 46) hx hb dX5_put_20 (by decide) (fun c_73 => ?_) (fun c_73 => ?_)
        · skip
          exact W.vret hx hb hr (fun t ht hW => ⟨⟨(fv_66, wd, ar_68), rfl, ⟨hF_fv_66, hA_ar_68, (fM_put (fM_rf [28] _) efv_66 (by decide)), (fA_call (fA_rf [69, 71, 72] _) fa_69 (by decide)), rfl, trivial⟩, ⟨by rw [ht]; exact hP, va_K.moved hW.alike hK⟩⟩, hS.F ht⟩) hS.2.2 dX5_put_46
        · skip
          have i_74 : 0 ≤ x_67.toInt ∧ x_67.toInt ≤ 3 := iv_lt1 i_x_67 i_65 (Int32.not_le.mp c_73)
          have i_75 : 1 ≤ (fv 26).toInt ∧ (fv 26).toInt ≤ 4 := iv_lt2 i_x_67 i_65 (Int32.not_le.mp c_73)
          refine lv_aload_n hx hb dX5_put_23 rfl (lv_at hl 0 rfl) ?_
          refine gX_X5_43 hx hb htg hown hK hP dX5_put_24 ?_
          refine lv_iload_n hx hb dX5_put_27 rfl (lv_at hl 1 rfl) ?_
          refine lv_aload_n hx hb dX5_put_28 rfl (lv_at hl 0 rfl) ?_
          refine gX_X5_21 hx hb htg hown hK hP dX5_put_29 ?_
          refine lv_aload_n hx hb dX5_put_32 rfl (lv_at hl 0 rfl) ?_
          refine gX_X5_40 hx hb htg hown hK hP dX5_put_33 ?_
          refine lv_iload_n hx hb dX5_put_36 rfl (lv_at hl 1 rfl) ?_
          refine lX_71 hx hb hK hP (iv_in i_74 (by decide) (by decide)) dX5_put_37 (fun v_76 ev_76 => ?_)
          have i_77 : 0 ≤ v_76.toInt ∧ v_76.toInt ≤ 7 := ev_76 ▸ hA_ar_68 71 _
          refine lX_65 hx hb hK hP (iv_in i_77 (by decide) (by decide)) dX5_put_38 (fun v_78 ev_78 => ?_)
          have i_79 : 0 ≤ v_78.toInt ∧ v_78.toInt ≤ 7 := ev_78 ▸ hA_ar_68 65 _
          refine sX_72 hx hb hK hP hS hd (iv_in i_74 (by decide) (by decide)) dX5_put_39 (fun H locs ar_80 ear_80 hP hS => ?_)
          have hA_ar_80 : rB ar_80 := rB_put hA_ar_68 ear_80 (iv_any _)
          obtain ⟨v_81, ev_81⟩ : ∃ z : Int32, z = x_67 + 1 := ⟨_, rfl⟩
          refine lv_iinc (v := v_81) (lv' := [(3, .int v_81), (0, .ref (ob 10))]) hx hb dX5_put_40 hl (k := 1) rfl (by rw [ev_81]; rfl) (by decide) rfl (fun ls hl => ?_)
          have t_82 : v_81.toInt = x_67.toInt + 1 ∧ 1 ≤ v_81.toInt ∧ v_81.toInt ≤ 4 := iv_addc ev_81 i_74 (by decide) (by decide) (by decide)
          refine lv_goto (tgt := 15) hx hb dX5_put_43 (by decide) ?_
          exact ih_70 v_81 ar_80 _ _ ls (by omega) (iv_w t_82.2 (by decide) (by decide)) hA_ar_80 (fA_put (fA_call (fA_rf [72] _) fa_69 (by decide)) ear_80 (by decide)) hP hS (lv_sub hl [1, 0] rfl)
    · skip
      have z_84 : (0 : Int32).toInt = 0 := by decide
      exact hj_72 5 0 ar _ _ ls (by first | decide | omega) (iv_w (⟨by decide, by decide⟩ : (0 : Int) ≤ (0 : Int32).toInt ∧ (0 : Int32).toInt ≤ 0) (by decide) (by decide)) hA_ar (fA_rf [72] _) hP hS (lv_sub hl [1, 0] rfl)
set_option maxHeartbeats 4000000 in
set_option maxRecDepth 100000 in
theorem x_put_3 (l : Launch) (dC : Nat → ClassId) (dI : Nat → Nat → Nat) (sz : Nat) (ob ad : Nat → Nat) (cA : Nat → ClassId) (hd : dX ob ad) (fv : Nat → Int32) (wd : xT) (ar : Nat → Nat → Int32) (hF_fv : rX fv) (hA_ar : rB ar) (kk : Int32) (sa : Int32) (h_kk : 3 ≤ kk.toInt ∧ kk.toInt ≤ 3) : Met l yX5_put (.code yX5_put cX5_put 5 none :: lw_good) ({ frames := 4, cells := 0, slots := 0, locals := 90 }) (va_Pc [.ref (ob 10), .int kk, .int sa] (prX dC dI ob ad cA fv wd ar sz)) (va_Qv (fun (u : xS) => rX u.1 ∧ rB u.2.2 ∧ fM [28] fv u.1 ∧ fA [69, 71, 72] ar u.2.2 ∧ u.2.1.2 = wd.2 ∧ True) (enX dC dI ob ad cA) (aX ob ad sz)) 0 0 (aX ob ad sz) := by
  refine Met.ofW (cc := cX5_put) (maxL := 5) (ret := none) (by decide) rfl ?_
  intro p e s m args below meth c s₁ B hml hv
  obtain ⟨rfl, hsz, hP, hK⟩ := hv
  have hx := B.exec
  have hb := B.bytes
  have hr := B.returns
  have hts := atoms_spec (ws := (.code yX5_put cX5_put 5 none :: lw_good)) B.pre
  have htg : ∀ w ∈ lw_good, w.before _ s = true := fun w hw => hts w (List.mem_cons_of_mem _ hw)
  have hown : s.vm.findClass RX5 = some m.cls := findClass_of_methodNamed B.named
  have hlocks := B.notSynchronized
  subst hsz
  have hS : va_S (aX ob ad s.heap.size) s.heap s.heap [] := va_S.rf
  have hl := lv_entry ([.ref (ob 10), .int kk, .int sa]) (n := 5) (Nat.le_of_ble_eq_true rfl)
  rw [lg_entry_eq]
  generalize (lg_sl ([.ref (ob 10), .int kk, .int sa]) ++ List.replicate (5 - (lg_sl ([.ref (ob 10), .int kk, .int sa])).length) Slot.unset).toArray = ls at hl ⊢
  have hl : lv_has ls 5 [(0, .ref (ob 10)), (1, .int kk), (2, .int sa)] := hl
  refine lv_iload_n hx hb dX5_put_0 rfl (lv_at hl 1 rfl) ?_
  refine lv_aload_n hx hb dX5_put_1 rfl (lv_at hl 0 rfl) ?_
  refine gX_X5_46 hx hb htg hown hK hP dX5_put_2 ?_
  have i_1 : 0 ≤ (fv 26).toInt ∧ (fv 26).toInt ≤ 5 := hF_fv 26
  refine lv_icmp_lt (tgt := 47) hx hb dX5_put_5 (by decide) (fun c_2 => ?_) (fun c_2 => ?_)
  · skip
    have i_3 : 4 ≤ (fv 26).toInt ∧ (fv 26).toInt ≤ 5 := iv_lt2 h_kk i_1 c_2
    refine lv_aload_n hx hb dX5_put_47 rfl (lv_at hl 0 rfl) ?_
    refine lv_iload_n hx hb dX5_put_48 rfl (lv_at hl 1 rfl) ?_
    refine va_calli (va_runV (As := [.int kk]) (rest := []) ⟨hx, hb, hml, hown, hts⟩ (x_firstPlace l dC dI s.heap.size ob ad cA hd fv wd ar hF_fv hA_ar kk (iv_w h_kk (by decide) (by decide))) (cwV 1 hts (gV kw_6_47 kw_6_49 kw_p_54 kw_1_14 kw_6_50) rfl rfl rfl (by decide +kernel) ⟨Nat.le_of_ble_eq_true rfl, Nat.le_of_ble_eq_true rfl⟩) ⟨fun a U g mk q => ⟨q.1, q.2.1, q.2.2.1, va_K.moved (u := U) (U := U.calling g mk a) (Vm.Alike.refl U.vm) q.2.2.2⟩, va_recv hK hP (ci := 6) (q0 := 10) rfl rfl, fun U hU hW => ⟨rfl, by rw [hU], by rw [hU]; exact hP, va_K.moved hW.alike hK⟩⟩ rfl rfl hl.1 rfl (lv_room (Nat.le_of_ble_eq_true rfl)) dX5_put_49 ⟨Nat.le_of_ble_eq_true rfl, Nat.le_of_ble_eq_true rfl⟩) hS (fun q _ h9 => aX_up hS q h9) (aX_up hS) (fun r_4 u t H1 locs ht _ hw hB _ hk1 hS => ?_)
    obtain ⟨fv_6, wd_7, ar_8⟩ := u
    obtain ⟨hF_fv_6, hA_ar_8, fr_9, fa_10, wf_11, p_5, -⟩ := hw
    have wf_11 : wd_7.2 = wd.2 := wf_11
    have hP : va_P (dC, dI) vwCl (wsX ob ad cA fv_6 wd_7 ar_8) H1 := by have h9 := hB.1; rw [ht] at h9; exact h9
    have fr_9 : fM [] fv fv_6 := fr_9
    have fa_10 : fA [] ar ar_8 := fa_10
    generalize H1 = H at hP hS ⊢
    refine lv_istore_n (lv' := [(3, .int r_4), (0, .ref (ob 10)), (1, .int kk), (2, .int sa)]) hx hb dX5_put_52 rfl hl (by decide) rfl (fun ls hl => ?_)
    refine my_cut (P := fun R9 a9 Q9 => ∀ (n_19 : Nat) (x_12 : Int32) (fv_13 : Nat → Int32) (ar_15 : Nat → Nat → Int32) (wd_17 : xT) (H : Heap) (locs : List Loc) (ls : Array Slot), 8 - x_12.toInt < (n_19 : Int) → (0 ≤ x_12.toInt ∧ x_12.toInt ≤ 8) → rX fv_13 → fM [28] fv_6 fv_13 → rB ar_15 → fA [69, 71, 72] ar_8 ar_15 → wd_17.2 = wd_7.2 → va_P (dC, dI) vwCl (wsX ob ad cA fv_13 wd_17 ar_15) H → va_S (aX ob ad s.heap.size) s.heap H locs → lv_has ls 5 [(0, .ref (ob 10)), (1, .int kk), (2, .int sa), (3, .int x_12)] → W p l e R9 s m a9 below meth c H locs 0 0 Q9 (F0 m 53 ls [])) ?_ (fun hj_21 => ?_)
    · intro n_19
      induction n_19 with
      | zero => intro x_12 fv_13 ar_15 wd_17 H locs ls fu_20 i_x_12 hF_fv_13 fr_14 hA_ar_15 fa_16 wf_18; exfalso; omega
      | succ n_19 ih_19 =>
        intro x_12 fv_13 ar_15 wd_17 H locs ls fu_20 i_x_12 hF_fv_13 fr_14 hA_ar_15 fa_16 wf_18 hP hS hl
        refine lv_iload_n hx hb dX5_put_53 rfl (lv_at hl 3 rfl) ?_
        refine lv_aload_n hx hb dX5_put_54 rfl (lv_at hl 0 rfl) ?_
        refine gX_X5_124 hx hb htg hown hK hP dX5_put_55 ?_
        refine my_ti (y := fv 25) ((fr_14 25 rfl).trans ((fr_9 25 rfl))) ?_
        have i_22 : 0 ≤ (fv 25).toInt ∧ (fv 25).toInt ≤ 8 := hF_fv 25
        refine lv_icmp_ge (tgt := 132) hx hb dX5_put_58 (by decide) (fun c_23 => ?_) (fun c_23 => ?_)
        · skip
          exact W.vret hx hb hr (fun t ht hW => ⟨⟨(fv_13, wd_17, ar_15), rfl, ⟨hF_fv_13, hA_ar_15, (fM_call (fM_call (fM_rf [28] _) fr_9 (by decide)) fr_14 (by decide)), (fA_call (fA_call (fA_rf [69, 71, 72] _) fa_10 (by decide)) fa_16 (by decide)), (wf_18.trans wf_11), trivial⟩, ⟨by rw [ht]; exact hP, va_K.moved hW.alike hK⟩⟩, hS.F ht⟩) hS.2.2 dX5_put_132
        · skip
          have i_24 : 0 ≤ x_12.toInt ∧ x_12.toInt ≤ 7 := iv_lt1 i_x_12 i_22 (Int32.not_le.mp c_23)
          have i_25 : 1 ≤ (fv 25).toInt ∧ (fv 25).toInt ≤ 8 := iv_lt2 i_x_12 i_22 (Int32.not_le.mp c_23)
          refine lv_aload_n hx hb dX5_put_61 rfl (lv_at hl 0 rfl) ?_
          refine gX_X5_40 hx hb htg hown hK hP dX5_put_62 ?_
          refine lv_iload_n hx hb dX5_put_65 rfl (lv_at hl 1 rfl) ?_
          refine lv_iload_n hx hb dX5_put_66 rfl (lv_at hl 3 rfl) ?_
          refine sX_71 hx hb hK hP hS hd (iv_in h_kk (by decide) (by decide)) dX5_put_67 (fun H locs ar_26 ear_26 hP hS => ?_)
          have hA_ar_26 : rB ar_26 := rB_put hA_ar_15 ear_26 i_24
          refine lv_iload_n hx hb dX5_put_68 rfl (lv_at hl 2 rfl) ?_
          refine lv_aload_n hx hb dX5_put_69 rfl (lv_at hl 0 rfl) ?_
          refine gX_X5_28 hx hb htg hown hK hP dX5_put_70 ?_
          refine lv_iload_n hx hb dX5_put_73 rfl (lv_at hl 1 rfl) ?_
          refine lX_67 hx hb hK hP (iv_in h_kk (by decide) (by decide)) dX5_put_74 (fun v_27 ev_27 => ?_)
          refine lv_iadd hx hb dX5_put_75 ?_
          refine lv_topi (fun v_28 ev_28 => ?_)
          refine lv_aload_n hx hb dX5_put_76 rfl (lv_at hl 0 rfl) ?_
          refine lv_iload_n hx hb dX5_put_77 rfl (lv_at hl 1 rfl) ?_
          refine lv_aload_n hx hb dX5_put_78 rfl (lv_at hl 0 rfl) ?_
          refine gX_X5_21 hx hb htg hown hK hP dX5_put_79 ?_
          refine lv_iload_n hx hb dX5_put_82 rfl (lv_at hl 3 rfl) ?_
          refine lX_65 hx hb hK hP (iv_in i_24 (by decide) (by decide)) dX5_put_83 (fun v_29 ev_29 => ?_)
          have i_30 : 0 ≤ v_29.toInt ∧ v_29.toInt ≤ 7 := ev_29 ▸ hA_ar_26 65 _
          refine va_calli (va_runV (As := [.int kk, .int v_29]) (rest := [.int v_28]) ⟨hx, hb, hml, hown, hts⟩ (x_mostWith l dC dI H.size ob ad cA hd fv_13 wd_17 ar_26 hF_fv_13 hA_ar_26 kk v_29 (iv_w h_kk (by decide) (by decide)) i_30) (cwV 2 hts (gV kw_6_51 kw_6_53 kw_p_55 kw_1_14 kw_6_54) rfl rfl rfl (by decide +kernel) ⟨Nat.le_of_ble_eq_true rfl, Nat.le_of_ble_eq_true rfl⟩) ⟨fun a U g mk q => ⟨q.1, q.2.1, q.2.2.1, va_K.moved (u := U) (U := U.calling g mk a) (Vm.Alike.refl U.vm) q.2.2.2⟩, va_recv hK hP (ci := 6) (q0 := 10) rfl rfl, fun U hU hW => ⟨rfl, by rw [hU], by rw [hU]; exact hP, va_K.moved hW.alike hK⟩⟩ rfl rfl hl.1 rfl (lv_room (Nat.le_of_ble_eq_true rfl)) dX5_put_84 ⟨Nat.le_of_ble_eq_true rfl, Nat.le_of_ble_eq_true rfl⟩) hS (fun q _ h9 => aX_up hS q h9) (aX_up hS) (fun r_31 u t H1 locs ht _ hw hB _ hk1 hS => ?_)
          obtain ⟨fv_32, wd_33, ar_34⟩ := u
          obtain ⟨hF_fv_32, hA_ar_34, fr_35, fa_36, wf_37, -⟩ := hw
          have wf_37 : wd_33.2 = wd_17.2 := wf_37
          have hP : va_P (dC, dI) vwCl (wsX ob ad cA fv_32 wd_33 ar_34) H1 := by have h9 := hB.1; rw [ht] at h9; exact h9
          have fr_35 : fM [] fv_13 fv_32 := fr_35
          have fa_36 : fA [69] ar_26 ar_34 := fa_36
          generalize H1 = H at hP hS ⊢
          refine va_mmin hx hb (hml.trans hl.1.symm) hown (htg (.methodLink RX5 150 Lib.Math.min.name) kw_6_55) (htg (.static Lib.Math.min.name) kw_3_151) (htg (.initialized RJ9) kw_1_16) (htg (.code Lib.Math.min.name Lib.Math.min.code 2 (some .int)) kw_3_152) (Nat.le_of_ble_eq_true rfl) (Nat.le_of_ble_eq_true rfl) (Nat.le_of_ble_eq_true rfl) (Nat.le_of_ble_eq_true rfl) dX5_put_87 ?_
          refine lv_topi (fun v_38 ev_38 => ?_)
          refine lv_istore (lv' := [(4, .int v_38), (0, .ref (ob 10)), (1, .int kk), (2, .int sa), (3, .int x_12)]) hx hb dX5_put_90 hl (by decide) rfl (fun ls hl => ?_)
          refine lv_aload_n hx hb dX5_put_92 rfl (lv_at hl 1 rfl) ?_
          refine gX_X5_142 hx hb htg hown hK hP dX5_put_93 ?_
          refine my_ti (y := fv 27) ((fr_35 27 rfl).trans ((fr_14 27 rfl).trans ((fr_9 27 rfl)))) ?_
          refine lv_iload hx hb dX5_put_96 (lv_at hl 0 rfl) ?_
          refine lv_aload_n hx hb dX5_put_98 rfl (lv_at hl 1 rfl) ?_
          refine gX_X5_31 hx hb htg hown hK hP dX5_put_99 ?_
          refine lv_iload_n hx hb dX5_put_102 rfl (lv_at hl 2 rfl) ?_
          refine lv_iconst (v := 1) hx hb dX5_put_103 (by decide) ?_
          refine lv_iadd hx hb dX5_put_104 ?_
          refine lv_topi (fun v_39 ev_39 => ?_)
          have t_40 : v_39.toInt = kk.toInt + 1 ∧ 4 ≤ v_39.toInt ∧ v_39.toInt ≤ 4 := iv_addc ev_39 h_kk (by decide) (by decide) (by decide)
          refine lX_68 hx hb hK hP (iv_in t_40.2 (by decide) (by decide)) dX5_put_105 (fun v_42 ev_42 => ?_)
          refine lv_iadd hx hb dX5_put_106 ?_
          refine lv_topi (fun v_43 ev_43 => ?_)
          refine va_mmin hx hb (hml.trans hl.1.symm) hown (htg (.methodLink RX5 150 Lib.Math.min.name) kw_6_55) (htg (.static Lib.Math.min.name) kw_3_151) (htg (.initialized RJ9) kw_1_16) (htg (.code Lib.Math.min.name Lib.Math.min.code 2 (some .int)) kw_3_152) (Nat.le_of_ble_eq_true rfl) (Nat.le_of_ble_eq_true rfl) (Nat.le_of_ble_eq_true rfl) (Nat.le_of_ble_eq_true rfl) dX5_put_107 ?_
          refine lv_topi (fun v_44 ev_44 => ?_)
          refine lv_aload_n hx hb dX5_put_110 rfl (lv_at hl 1 rfl) ?_
          refine gX_X5_58 hx hb htg hown hK hP dX5_put_111 ?_
          refine my_ti (y := fv_13 28) ((fr_35 28 rfl)) ?_
          refine my_cut (P := fun R9 a9 Q9 => ∀ (fv_55 : Nat → Int32) (ar_57 : Nat → Nat → Int32) (wd_59 : xT) (H : Heap) (locs : List Loc) (ls : Array Slot), rX fv_55 → fM [28] fv_32 fv_55 → rB ar_57 → fA [69, 71, 72] ar_34 ar_57 → wd_59.2 = wd_33.2 → va_P (dC, dI) vwCl (wsX ob ad cA fv_55 wd_59 ar_57) H → va_S (aX ob ad s.heap.size) s.heap H locs → lv_has ls 5 [(0, .ref (ob 10)), (1, .int kk), (2, .int sa), (3, .int x_12)] → W p l e R9 s m a9 below meth c H locs 0 0 Q9 (F0 m 126 ls [])) ?_ (fun hj_61 => ?_)
          · intro fv_55 ar_57 wd_59 H locs ls hF_fv_55 fr_56 hA_ar_57 fa_58 wf_60 hP hS hl
            obtain ⟨v_62, ev_62⟩ : ∃ z : Int32, z = x_12 + 1 := ⟨_, rfl⟩
            refine lv_iinc (v := v_62) (lv' := [(3, .int v_62), (0, .ref (ob 10)), (1, .int kk), (2, .int sa)]) hx hb dX5_put_126 hl (k := 3) rfl (by rw [ev_62]; rfl) (by decide) rfl (fun ls hl => ?_)
            have t_63 : v_62.toInt = x_12.toInt + 1 ∧ 1 ≤ v_62.toInt ∧ v_62.toInt ≤ 8 := iv_addc ev_62 i_24 (by decide) (by decide) (by decide)
            refine lv_goto (tgt := 53) hx hb dX5_put_129 (by decide) ?_
            exact ih_19 v_62 fv_55 ar_57 wd_59 _ _ ls (by omega) (iv_w t_63.2 (by decide) (by decide)) hF_fv_55 (fM_call (fM_call (fM_call (fM_rf [28] _) fr_14 (by decide)) fr_35 (by decide)) fr_56 (by decide)) hA_ar_57 (fA_call (fA_call (fA_put (fA_call (fA_rf [69, 71, 72] _) fa_16 (by decide)) ear_26 (by decide)) fa_36 (by decide)) fa_58 (by decide)) (wf_60.trans (wf_37.trans wf_18)) hP hS (lv_sub hl [1, 2, 3, 0] rfl)
          · skip
            refine lv_icmp_le (tgt := 126) hx hb dX5_put_114 (by decide) (fun c_45 => ?_) (fun c_45 => ?_)
            · skip
              exact hj_61 fv_32 ar_34 wd_33 _ _ ls hF_fv_32 (fM_rf [28] _) hA_ar_34 (fA_rf [69, 71, 72] _) rfl hP hS (lv_sub hl [1, 2, 3, 4] rfl)
            · skip
              have i_46 : (-2147483648) ≤ (fv_13 28).toInt ∧ (fv_13 28).toInt ≤ 2147483646 := iv_lt1 (iv_any (fv_13 28)) (iv_any v_44) (Int32.not_le.mp c_45)
              have i_47 : (-2147483647) ≤ v_44.toInt ∧ v_44.toInt ≤ 2147483647 := iv_lt2 (iv_any (fv_13 28)) (iv_any v_44) (Int32.not_le.mp c_45)
              refine lv_aload_n hx hb dX5_put_117 rfl (lv_at hl 1 rfl) ?_
              refine lv_iload_n hx hb dX5_put_118 rfl (lv_at hl 2 rfl) ?_
              refine lv_iconst (v := 1) hx hb dX5_put_119 (by decide) ?_
              refine lv_iadd hx hb dX5_put_120 ?_
              refine my_ti (y := v_39) ev_39.symm ?_
              refine lv_iload hx hb dX5_put_121 (lv_at hl 0 rfl) ?_
              refine va_callv (va_runV (As := [.int v_39, .int v_38]) (rest := []) ⟨hx, hb, hml, hown, hts⟩ (x_put_4 l dC dI H.size ob ad cA hd fv_32 wd_33 ar_34 hF_fv_32 hA_ar_34 v_39 v_38 t_40.2) (cwV 2 hts (gV kw_6_43 kw_6_45 kw_p_53 kw_1_14 kw_6_46) rfl rfl rfl (by decide +kernel) ⟨Nat.le_of_ble_eq_true rfl, Nat.le_of_ble_eq_true rfl⟩) ⟨fun a U g mk q => ⟨q.1, q.2.1, q.2.2.1, va_K.moved (u := U) (U := U.calling g mk a) (Vm.Alike.refl U.vm) q.2.2.2⟩, va_recv hK hP (ci := 6) (q0 := 10) rfl rfl, fun U hU hW => ⟨rfl, by rw [hU], by rw [hU]; exact hP, va_K.moved hW.alike hK⟩⟩ rfl rfl hl.1 rfl (lv_room (Nat.le_of_ble_eq_true rfl)) dX5_put_123 ⟨Nat.le_of_ble_eq_true rfl, Nat.le_of_ble_eq_true rfl⟩) hS (fun q _ h9 => aX_up hS q h9) (aX_up hS) (fun u t H1 locs ht _ hw hB _ hk1 hS => ?_)
              obtain ⟨fv_49, wd_50, ar_51⟩ := u
              obtain ⟨hF_fv_49, hA_ar_51, fr_52, fa_53, wf_54, -⟩ := hw
              have wf_54 : wd_50.2 = wd_33.2 := wf_54
              have hP : va_P (dC, dI) vwCl (wsX ob ad cA fv_49 wd_50 ar_51) H1 := by have h9 := hB.1; rw [ht] at h9; exact h9
              have fr_52 : fM [28] fv_32 fv_49 := fr_52
              have fa_53 : fA [69, 71, 72] ar_34 ar_51 := fa_53
              generalize H1 = H at hP hS ⊢
              exact hj_61 fv_49 ar_51 wd_50 _ _ ls hF_fv_49 (fM_call (fM_rf [28] _) fr_52 (by decide)) hA_ar_51 (fA_call (fA_rf [69, 71, 72] _) fa_53 (by decide)) wf_54 hP hS (lv_sub hl [1, 2, 3, 4] rfl)
    · skip
      exact hj_21 9 r_4 fv_6 ar_8 wd_7 _ _ ls (by omega) (iv_w p_5 (by decide) (by decide)) hF_fv_6 (fM_rf [28] _) hA_ar_8 (fA_rf [69, 71, 72] _) rfl hP hS (lv_sub hl [1, 2, 3, 0] rfl)
  · skip
    have i_65 : 0 ≤ (fv 26).toInt ∧ (fv 26).toInt ≤ 3 := iv_le1 i_1 h_kk (Int32.not_lt.mp c_2)
    refine lv_aload_n hx hb dX5_put_8 rfl (lv_at hl 0 rfl) ?_
    refine lv_iload_n hx hb dX5_put_9 rfl (lv_at hl 2 rfl) ?_
    refine pX_X5_58 hx hb htg hown hK hP hS hd dX5_put_10 (fun H locs fv_66 efv_66 hP hS => ?_)
    have hF_fv_66 : rX fv_66 := rX_put hF_fv efv_66 (iv_any sa)
    refine lv_iconst (v := 0) hx hb dX5_put_13 (by decide) ?_
    refine lv_istore_n (lv' := [(3, .int 0), (0, .ref (ob 10)), (1, .int kk), (2, .int sa)]) hx hb dX5_put_14 rfl hl (by decide) rfl (fun ls hl => ?_)
    refine my_cut (P := fun R9 a9 Q9 => ∀ (n_70 : Nat) (x_67 : Int32) (ar_68 : Nat → Nat → Int32) (H : Heap) (locs : List Loc) (ls : Array Slot), 3 - x_67.toInt < (n_70 : Int) → (0 ≤ x_67.toInt ∧ x_67.toInt ≤ 3) → rB ar_68 → fA [72] ar ar_68 → va_P (dC, dI) vwCl (wsX ob ad cA fv_66 wd ar_68) H → va_S (aX ob ad s.heap.size) s.heap H locs → lv_has ls 5 [(0, .ref (ob 10)), (3, .int x_67)] → W p l e R9 s m a9 below meth c H locs 0 0 Q9 (F0 m 15 ls [])) ?_ (fun hj_72 => ?_)
    · intro n_70
      induction n_70 with
      | zero => intro x_67 ar_68 H locs ls fu_71 i_x_67 hA_ar_68 fa_69; exfalso; omega
      | succ n_70 ih_70 =>
        intro x_67 ar_68 H locs ls fu_71 i_x_67 hA_ar_68 fa_69 hP hS hl
        refine lv_iload_n hx hb dX5_put_15 rfl (lv_at hl 1 rfl) ?_
        refine lv_aload_n hx hb dX5_put_16 rfl (lv_at hl 0 rfl) ?_
        refine gX_X5_46 hx hb htg hown hK hP dX5_put_17 ?_
        refine my_ti (y := fv 26) ((congrFun efv_66 26)) ?_
        refine lv_icmp_ge (tgt := 46) hx hb dX5_put_20 (by decide) (fun c_73 => ?_) (fun c_73 => ?_)
        · skip
          exact W.vret hx hb hr (fun t ht hW => ⟨⟨(fv_66, wd, ar_68), rfl, ⟨hF_fv_66, hA_ar_68, (fM_put (fM_rf [28] _) efv_66 (by decide)), (fA_call (fA_rf [69, 71, 72] _) fa_69 (by decide)), rfl, trivial⟩, ⟨by rw [ht]; exact hP, va_K.moved hW.alike hK⟩⟩, hS.F ht⟩) hS.2.2 dX5_put_46
        · skip
          have i_74 : 0 ≤ x_67.toInt ∧ x_67.toInt ≤ 2 := iv_lt1 i_x_67 i_65 (Int32.not_le.mp c_73)
          have i_75 : 1 ≤ (fv 26).toInt ∧ (fv 26).toInt ≤ 3 := iv_lt2 i_x_67 i_65 (Int32.not_le.mp c_73)
          refine lv_aload_n hx hb dX5_put_23 rfl (lv_at hl 0 rfl) ?_
          refine gX_X5_43 hx hb htg hown hK hP dX5_put_24 ?_
          refine lv_iload_n hx hb dX5_put_27 rfl (lv_at hl 1 rfl) ?_
          refine lv_aload_n hx hb dX5_put_28 rfl (lv_at hl 0 rfl) ?_
          refine gX_X5_21 hx hb htg hown hK hP dX5_put_29 ?_
          refine lv_aload_n hx hb dX5_put_32 rfl (lv_at hl 0 rfl) ?_
          refine gX_X5_40 hx hb htg hown hK hP dX5_put_33 ?_
          refine lv_iload_n hx hb dX5_put_36 rfl (lv_at hl 1 rfl) ?_
          refine lX_71 hx hb hK hP (iv_in i_74 (by decide) (by decide)) dX5_put_37 (fun v_76 ev_76 => ?_)
          have i_77 : 0 ≤ v_76.toInt ∧ v_76.toInt ≤ 7 := ev_76 ▸ hA_ar_68 71 _
          refine lX_65 hx hb hK hP (iv_in i_77 (by decide) (by decide)) dX5_put_38 (fun v_78 ev_78 => ?_)
          have i_79 : 0 ≤ v_78.toInt ∧ v_78.toInt ≤ 7 := ev_78 ▸ hA_ar_68 65 _
          refine sX_72 hx hb hK hP hS hd (iv_in i_74 (by decide) (by decide)) dX5_put_39 (fun H locs ar_80 ear_80 hP hS => ?_)
          have hA_ar_80 : rB ar_80 := rB_put hA_ar_68 ear_80 (iv_any _)
          obtain ⟨v_81, ev_81⟩ : ∃ z : Int32, z = x_67 + 1 := ⟨_, rfl⟩
          refine lv_iinc (v := v_81) (lv' := [(3, .int v_81), (0, .ref (ob 10))]) hx hb dX5_put_40 hl (k := 1) rfl (by rw [ev_81]; rfl) (by decide) rfl (fun ls hl => ?_)
          have t_82 : v_81.toInt = x_67.toInt + 1 ∧ 1 ≤ v_81.toInt ∧ v_81.toInt ≤ 3 := iv_addc ev_81 i_74 (by decide) (by decide) (by decide)
          refine lv_goto (tgt := 15) hx hb dX5_put_43 (by decide) ?_
          exact ih_70 v_81 ar_80 _ _ ls (by omega) (iv_w t_82.2 (by decide) (by decide)) hA_ar_80 (fA_put (fA_call (fA_rf [72] _) fa_69 (by decide)) ear_80 (by decide)) hP hS (lv_sub hl [1, 0] rfl)
    · skip
      have z_84 : (0 : Int32).toInt = 0 := by decide
      exact hj_72 4 0 ar _ _ ls (by first | decide | omega) (iv_w (⟨by decide, by decide⟩ : (0 : Int) ≤ (0 : Int32).toInt ∧ (0 : Int32).toInt ≤ 0) (by decide) (by decide)) hA_ar (fA_rf [72] _) hP hS (lv_sub hl [1, 0] rfl)
set_option maxHeartbeats 4000000 in
set_option maxRecDepth 100000 in
theorem x_put_2 (l : Launch) (dC : Nat → ClassId) (dI : Nat → Nat → Nat) (sz : Nat) (ob ad : Nat → Nat) (cA : Nat → ClassId) (hd : dX ob ad) (fv : Nat → Int32) (wd : xT) (ar : Nat → Nat → Int32) (hF_fv : rX fv) (hA_ar : rB ar) (kk : Int32) (sa : Int32) (h_kk : 2 ≤ kk.toInt ∧ kk.toInt ≤ 2) : Met l yX5_put (.code yX5_put cX5_put 5 none :: lw_good) ({ frames := 5, cells := 0, slots := 0, locals := 114 }) (va_Pc [.ref (ob 10), .int kk, .int sa] (prX dC dI ob ad cA fv wd ar sz)) (va_Qv (fun (u : xS) => rX u.1 ∧ rB u.2.2 ∧ fM [28] fv u.1 ∧ fA [69, 71, 72] ar u.2.2 ∧ u.2.1.2 = wd.2 ∧ True) (enX dC dI ob ad cA) (aX ob ad sz)) 0 0 (aX ob ad sz) := by
  refine Met.ofW (cc := cX5_put) (maxL := 5) (ret := none) (by decide) rfl ?_
  intro p e s m args below meth c s₁ B hml hv
  obtain ⟨rfl, hsz, hP, hK⟩ := hv
  have hx := B.exec
  have hb := B.bytes
  have hr := B.returns
  have hts := atoms_spec (ws := (.code yX5_put cX5_put 5 none :: lw_good)) B.pre
  have htg : ∀ w ∈ lw_good, w.before _ s = true := fun w hw => hts w (List.mem_cons_of_mem _ hw)
  have hown : s.vm.findClass RX5 = some m.cls := findClass_of_methodNamed B.named
  have hlocks := B.notSynchronized
  subst hsz
  have hS : va_S (aX ob ad s.heap.size) s.heap s.heap [] := va_S.rf
  have hl := lv_entry ([.ref (ob 10), .int kk, .int sa]) (n := 5) (Nat.le_of_ble_eq_true rfl)
  rw [lg_entry_eq]
  generalize (lg_sl ([.ref (ob 10), .int kk, .int sa]) ++ List.replicate (5 - (lg_sl ([.ref (ob 10), .int kk, .int sa])).length) Slot.unset).toArray = ls at hl ⊢
  have hl : lv_has ls 5 [(0, .ref (ob 10)), (1, .int kk), (2, .int sa)] := hl
  refine lv_iload_n hx hb dX5_put_0 rfl (lv_at hl 1 rfl) ?_
  refine lv_aload_n hx hb dX5_put_1 rfl (lv_at hl 0 rfl) ?_
  refine gX_X5_46 hx hb htg hown hK hP dX5_put_2 ?_
  have i_1 : 0 ≤ (fv 26).toInt ∧ (fv 26).toInt ≤ 5 := hF_fv 26
  refine lv_icmp_lt (tgt := 47) hx hb dX5_put_5 (by decide) (fun c_2 => ?_) (fun c_2 => ?_)
  · skip
    have i_3 : 3 ≤ (fv 26).toInt ∧ (fv 26).toInt ≤ 5 := iv_lt2 h_kk i_1 c_2
    refine lv_aload_n hx hb dX5_put_47 rfl (lv_at hl 0 rfl) ?_
    refine lv_iload_n hx hb dX5_put_48 rfl (lv_at hl 1 rfl) ?_
    refine va_calli (va_runV (As := [.int kk]) (rest := []) ⟨hx, hb, hml, hown, hts⟩ (x_firstPlace l dC dI s.heap.size ob ad cA hd fv wd ar hF_fv hA_ar kk (iv_w h_kk (by decide) (by decide))) (cwV 1 hts (gV kw_6_47 kw_6_49 kw_p_54 kw_1_14 kw_6_50) rfl rfl rfl (by decide +kernel) ⟨Nat.le_of_ble_eq_true rfl, Nat.le_of_ble_eq_true rfl⟩) ⟨fun a U g mk q => ⟨q.1, q.2.1, q.2.2.1, va_K.moved (u := U) (U := U.calling g mk a) (Vm.Alike.refl U.vm) q.2.2.2⟩, va_recv hK hP (ci := 6) (q0 := 10) rfl rfl, fun U hU hW => ⟨rfl, by rw [hU], by rw [hU]; exact hP, va_K.moved hW.alike hK⟩⟩ rfl rfl hl.1 rfl (lv_room (Nat.le_of_ble_eq_true rfl)) dX5_put_49 ⟨Nat.le_of_ble_eq_true rfl, Nat.le_of_ble_eq_true rfl⟩) hS (fun q _ h9 => aX_up hS q h9) (aX_up hS) (fun r_4 u t H1 locs ht _ hw hB _ hk1 hS => ?_)
    obtain ⟨fv_6, wd_7, ar_8⟩ := u
    obtain ⟨hF_fv_6, hA_ar_8, fr_9, fa_10, wf_11, p_5, -⟩ := hw
    have wf_11 : wd_7.2 = wd.2 := wf_11
    have hP : va_P (dC, dI) vwCl (wsX ob ad cA fv_6 wd_7 ar_8) H1 := by have h9 := hB.1; rw [ht] at h9; exact h9
    have fr_9 : fM [] fv fv_6 := fr_9
    have fa_10 : fA [] ar ar_8 := fa_10
    generalize H1 = H at hP hS ⊢
    refine lv_istore_n (lv' := [(3, .int r_4), (0, .ref (ob 10)), (1, .int kk), (2, .int sa)]) hx hb dX5_put_52 rfl hl (by decide) rfl (fun ls hl => ?_)
    refine my_cut (P := fun R9 a9 Q9 => ∀ (n_19 : Nat) (x_12 : Int32) (fv_13 : Nat → Int32) (ar_15 : Nat → Nat → Int32) (wd_17 : xT) (H : Heap) (locs : List Loc) (ls : Array Slot), 8 - x_12.toInt < (n_19 : Int) → (0 ≤ x_12.toInt ∧ x_12.toInt ≤ 8) → rX fv_13 → fM [28] fv_6 fv_13 → rB ar_15 → fA [69, 71, 72] ar_8 ar_15 → wd_17.2 = wd_7.2 → va_P (dC, dI) vwCl (wsX ob ad cA fv_13 wd_17 ar_15) H → va_S (aX ob ad s.heap.size) s.heap H locs → lv_has ls 5 [(0, .ref (ob 10)), (1, .int kk), (2, .int sa), (3, .int x_12)] → W p l e R9 s m a9 below meth c H locs 0 0 Q9 (F0 m 53 ls [])) ?_ (fun hj_21 => ?_)
    · intro n_19
      induction n_19 with
      | zero => intro x_12 fv_13 ar_15 wd_17 H locs ls fu_20 i_x_12 hF_fv_13 fr_14 hA_ar_15 fa_16 wf_18; exfalso; omega
      | succ n_19 ih_19 =>
        intro x_12 fv_13 ar_15 wd_17 H locs ls fu_20 i_x_12 hF_fv_13 fr_14 hA_ar_15 fa_16 wf_18 hP hS hl
        refine lv_iload_n hx hb dX5_put_53 rfl (lv_at hl 3 rfl) ?_
        refine lv_aload_n hx hb dX5_put_54 rfl (lv_at hl 0 rfl) ?_
        refine gX_X5_124 hx hb htg hown hK hP dX5_put_55 ?_
        refine my_ti (y := fv 25) ((fr_14 25 rfl).trans ((fr_9 25 rfl))) ?_
        have i_22 : 0 ≤ (fv 25).toInt ∧ (fv 25).toInt ≤ 8 := hF_fv 25
        refine lv_icmp_ge (tgt := 132) hx hb dX5_put_58 (by decide) (fun c_23 => ?_) (fun c_23 => ?_)
        · skip
          exact W.vret hx hb hr (fun t ht hW => ⟨⟨(fv_13, wd_17, ar_15), rfl, ⟨hF_fv_13, hA_ar_15, (fM_call (fM_call (fM_rf [28] _) fr_9 (by decide)) fr_14 (by decide)), (fA_call (fA_call (fA_rf [69, 71, 72] _) fa_10 (by decide)) fa_16 (by decide)), (wf_18.trans wf_11), trivial⟩, ⟨by rw [ht]; exact hP, va_K.moved hW.alike hK⟩⟩, hS.F ht⟩) hS.2.2 dX5_put_132
        · skip
          have i_24 : 0 ≤ x_12.toInt ∧ x_12.toInt ≤ 7 := iv_lt1 i_x_12 i_22 (Int32.not_le.mp c_23)
          have i_25 : 1 ≤ (fv 25).toInt ∧ (fv 25).toInt ≤ 8 := iv_lt2 i_x_12 i_22 (Int32.not_le.mp c_23)
          refine lv_aload_n hx hb dX5_put_61 rfl (lv_at hl 0 rfl) ?_
          refine gX_X5_40 hx hb htg hown hK hP dX5_put_62 ?_
          refine lv_iload_n hx hb dX5_put_65 rfl (lv_at hl 1 rfl) ?_
          refine lv_iload_n hx hb dX5_put_66 rfl (lv_at hl 3 rfl) ?_
          refine sX_71 hx hb hK hP hS hd (iv_in h_kk (by decide) (by decide)) dX5_put_67 (fun H locs ar_26 ear_26 hP hS => ?_)
          have hA_ar_26 : rB ar_26 := rB_put hA_ar_15 ear_26 i_24
          refine lv_iload_n hx hb dX5_put_68 rfl (lv_at hl 2 rfl) ?_
          refine lv_aload_n hx hb dX5_put_69 rfl (lv_at hl 0 rfl) ?_
          refine gX_X5_28 hx hb htg hown hK hP dX5_put_70 ?_
          refine lv_iload_n hx hb dX5_put_73 rfl (lv_at hl 1 rfl) ?_
          refine lX_67 hx hb hK hP (iv_in h_kk (by decide) (by decide)) dX5_put_74 (fun v_27 ev_27 => ?_)
          refine lv_iadd hx hb dX5_put_75 ?_
          refine lv_topi (fun v_28 ev_28 => ?_)
          refine lv_aload_n hx hb dX5_put_76 rfl (lv_at hl 0 rfl) ?_
          refine lv_iload_n hx hb dX5_put_77 rfl (lv_at hl 1 rfl) ?_
          refine lv_aload_n hx hb dX5_put_78 rfl (lv_at hl 0 rfl) ?_
          refine gX_X5_21 hx hb htg hown hK hP dX5_put_79 ?_
          refine lv_iload_n hx hb dX5_put_82 rfl (lv_at hl 3 rfl) ?_
          refine lX_65 hx hb hK hP (iv_in i_24 (by decide) (by decide)) dX5_put_83 (fun v_29 ev_29 => ?_)
          have i_30 : 0 ≤ v_29.toInt ∧ v_29.toInt ≤ 7 := ev_29 ▸ hA_ar_26 65 _
          refine va_calli (va_runV (As := [.int kk, .int v_29]) (rest := [.int v_28]) ⟨hx, hb, hml, hown, hts⟩ (x_mostWith l dC dI H.size ob ad cA hd fv_13 wd_17 ar_26 hF_fv_13 hA_ar_26 kk v_29 (iv_w h_kk (by decide) (by decide)) i_30) (cwV 2 hts (gV kw_6_51 kw_6_53 kw_p_55 kw_1_14 kw_6_54) rfl rfl rfl (by decide +kernel) ⟨Nat.le_of_ble_eq_true rfl, Nat.le_of_ble_eq_true rfl⟩) ⟨fun a U g mk q => ⟨q.1, q.2.1, q.2.2.1, va_K.moved (u := U) (U := U.calling g mk a) (Vm.Alike.refl U.vm) q.2.2.2⟩, va_recv hK hP (ci := 6) (q0 := 10) rfl rfl, fun U hU hW => ⟨rfl, by rw [hU], by rw [hU]; exact hP, va_K.moved hW.alike hK⟩⟩ rfl rfl hl.1 rfl (lv_room (Nat.le_of_ble_eq_true rfl)) dX5_put_84 ⟨Nat.le_of_ble_eq_true rfl, Nat.le_of_ble_eq_true rfl⟩) hS (fun q _ h9 => aX_up hS q h9) (aX_up hS) (fun r_31 u t H1 locs ht _ hw hB _ hk1 hS => ?_)
          obtain ⟨fv_32, wd_33, ar_34⟩ := u
          obtain ⟨hF_fv_32, hA_ar_34, fr_35, fa_36, wf_37, -⟩ := hw
          have wf_37 : wd_33.2 = wd_17.2 := wf_37
          have hP : va_P (dC, dI) vwCl (wsX ob ad cA fv_32 wd_33 ar_34) H1 := by have h9 := hB.1; rw [ht] at h9; exact h9
          have fr_35 : fM [] fv_13 fv_32 := fr_35
          have fa_36 : fA [69] ar_26 ar_34 := fa_36
          generalize H1 = H at hP hS ⊢
          refine va_mmin hx hb (hml.trans hl.1.symm) hown (htg (.methodLink RX5 150 Lib.Math.min.name) kw_6_55) (htg (.static Lib.Math.min.name) kw_3_151) (htg (.initialized RJ9) kw_1_16) (htg (.code Lib.Math.min.name Lib.Math.min.code 2 (some .int)) kw_3_152) (Nat.le_of_ble_eq_true rfl) (Nat.le_of_ble_eq_true rfl) (Nat.le_of_ble_eq_true rfl) (Nat.le_of_ble_eq_true rfl) dX5_put_87 ?_
          refine lv_topi (fun v_38 ev_38 => ?_)
          refine lv_istore (lv' := [(4, .int v_38), (0, .ref (ob 10)), (1, .int kk), (2, .int sa), (3, .int x_12)]) hx hb dX5_put_90 hl (by decide) rfl (fun ls hl => ?_)
          refine lv_aload_n hx hb dX5_put_92 rfl (lv_at hl 1 rfl) ?_
          refine gX_X5_142 hx hb htg hown hK hP dX5_put_93 ?_
          refine my_ti (y := fv 27) ((fr_35 27 rfl).trans ((fr_14 27 rfl).trans ((fr_9 27 rfl)))) ?_
          refine lv_iload hx hb dX5_put_96 (lv_at hl 0 rfl) ?_
          refine lv_aload_n hx hb dX5_put_98 rfl (lv_at hl 1 rfl) ?_
          refine gX_X5_31 hx hb htg hown hK hP dX5_put_99 ?_
          refine lv_iload_n hx hb dX5_put_102 rfl (lv_at hl 2 rfl) ?_
          refine lv_iconst (v := 1) hx hb dX5_put_103 (by decide) ?_
          refine lv_iadd hx hb dX5_put_104 ?_
          refine lv_topi (fun v_39 ev_39 => ?_)
          have t_40 : v_39.toInt = kk.toInt + 1 ∧ 3 ≤ v_39.toInt ∧ v_39.toInt ≤ 3 := iv_addc ev_39 h_kk (by decide) (by decide) (by decide)
          refine lX_68 hx hb hK hP (iv_in t_40.2 (by decide) (by decide)) dX5_put_105 (fun v_42 ev_42 => ?_)
          refine lv_iadd hx hb dX5_put_106 ?_
          refine lv_topi (fun v_43 ev_43 => ?_)
          refine va_mmin hx hb (hml.trans hl.1.symm) hown (htg (.methodLink RX5 150 Lib.Math.min.name) kw_6_55) (htg (.static Lib.Math.min.name) kw_3_151) (htg (.initialized RJ9) kw_1_16) (htg (.code Lib.Math.min.name Lib.Math.min.code 2 (some .int)) kw_3_152) (Nat.le_of_ble_eq_true rfl) (Nat.le_of_ble_eq_true rfl) (Nat.le_of_ble_eq_true rfl) (Nat.le_of_ble_eq_true rfl) dX5_put_107 ?_
          refine lv_topi (fun v_44 ev_44 => ?_)
          refine lv_aload_n hx hb dX5_put_110 rfl (lv_at hl 1 rfl) ?_
          refine gX_X5_58 hx hb htg hown hK hP dX5_put_111 ?_
          refine my_ti (y := fv_13 28) ((fr_35 28 rfl)) ?_
          refine my_cut (P := fun R9 a9 Q9 => ∀ (fv_55 : Nat → Int32) (ar_57 : Nat → Nat → Int32) (wd_59 : xT) (H : Heap) (locs : List Loc) (ls : Array Slot), rX fv_55 → fM [28] fv_32 fv_55 → rB ar_57 → fA [69, 71, 72] ar_34 ar_57 → wd_59.2 = wd_33.2 → va_P (dC, dI) vwCl (wsX ob ad cA fv_55 wd_59 ar_57) H → va_S (aX ob ad s.heap.size) s.heap H locs → lv_has ls 5 [(0, .ref (ob 10)), (1, .int kk), (2, .int sa), (3, .int x_12)] → W p l e R9 s m a9 below meth c H locs 0 0 Q9 (F0 m 126 ls [])) ?_ (fun hj_61 => ?_)
          · intro fv_55 ar_57 wd_59 H locs ls hF_fv_55 fr_56 hA_ar_57 fa_58 wf_60 hP hS hl
            obtain ⟨v_62, ev_62⟩ : ∃ z : Int32, z = x_12 + 1 := ⟨_, rfl⟩
            refine lv_iinc (v := v_62) (lv' := [(3, .int v_62), (0, .ref (ob 10)), (1, .int kk), (2, .int sa)]) hx hb dX5_put_126 hl (k := 3) rfl (by rw [ev_62]; rfl) (by decide) rfl (fun ls hl => ?_)
            have t_63 : v_62.toInt = x_12.toInt + 1 ∧ 1 ≤ v_62.toInt ∧ v_62.toInt ≤ 8 := iv_addc ev_62 i_24 (by decide) (by decide) (by decide)
            refine lv_goto (tgt := 53) hx hb dX5_put_129 (by decide) ?_
            exact ih_19 v_62 fv_55 ar_57 wd_59 _ _ ls (by omega) (iv_w t_63.2 (by decide) (by decide)) hF_fv_55 (fM_call (fM_call (fM_call (fM_rf [28] _) fr_14 (by decide)) fr_35 (by decide)) fr_56 (by decide)) hA_ar_57 (fA_call (fA_call (fA_put (fA_call (fA_rf [69, 71, 72] _) fa_16 (by decide)) ear_26 (by decide)) fa_36 (by decide)) fa_58 (by decide)) (wf_60.trans (wf_37.trans wf_18)) hP hS (lv_sub hl [1, 2, 3, 0] rfl)
          · skip
            refine lv_icmp_le (tgt := 126) hx hb dX5_put_114 (by decide) (fun c_45 => ?_) (fun c_45 => ?_)
            · skip
              exact hj_61 fv_32 ar_34 wd_33 _ _ ls hF_fv_32 (fM_rf [28] _) hA_ar_34 (fA_rf [69, 71, 72] _) rfl hP hS (lv_sub hl [1, 2, 3, 4] rfl)
            · skip
              have i_46 : (-2147483648) ≤ (fv_13 28).toInt ∧ (fv_13 28).toInt ≤ 2147483646 := iv_lt1 (iv_any (fv_13 28)) (iv_any v_44) (Int32.not_le.mp c_45)
              have i_47 : (-2147483647) ≤ v_44.toInt ∧ v_44.toInt ≤ 2147483647 := iv_lt2 (iv_any (fv_13 28)) (iv_any v_44) (Int32.not_le.mp c_45)
              refine lv_aload_n hx hb dX5_put_117 rfl (lv_at hl 1 rfl) ?_
              refine lv_iload_n hx hb dX5_put_118 rfl (lv_at hl 2 rfl) ?_
              refine lv_iconst (v := 1) hx hb dX5_put_119 (by decide) ?_
              refine lv_iadd hx hb dX5_put_120 ?_
              refine my_ti (y := v_39) ev_39.symm ?_
              refine lv_iload hx hb dX5_put_121 (lv_at hl 0 rfl) ?_
              refine va_callv (va_runV (As := [.int v_39, .int v_38]) (rest := []) ⟨hx, hb, hml, hown, hts⟩ (x_put_3 l dC dI H.size ob ad cA hd fv_32 wd_33 ar_34 hF_fv_32 hA_ar_34 v_39 v_38 t_40.2) (cwV 2 hts (gV kw_6_43 kw_6_45 kw_p_53 kw_1_14 kw_6_46) rfl rfl rfl (by decide +kernel) ⟨Nat.le_of_ble_eq_true rfl, Nat.le_of_ble_eq_true rfl⟩) ⟨fun a U g mk q => ⟨q.1, q.2.1, q.2.2.1, va_K.moved (u := U) (U := U.calling g mk a) (Vm.Alike.refl U.vm) q.2.2.2⟩, va_recv hK hP (ci := 6) (q0 := 10) rfl rfl, fun U hU hW => ⟨rfl, by rw [hU], by rw [hU]; exact hP, va_K.moved hW.alike hK⟩⟩ rfl rfl hl.1 rfl (lv_room (Nat.le_of_ble_eq_true rfl)) dX5_put_123 ⟨Nat.le_of_ble_eq_true rfl, Nat.le_of_ble_eq_true rfl⟩) hS (fun q _ h9 => aX_up hS q h9) (aX_up hS) (fun u t H1 locs ht _ hw hB _ hk1 hS => ?_)
              obtain ⟨fv_49, wd_50, ar_51⟩ := u
              obtain ⟨hF_fv_49, hA_ar_51, fr_52, fa_53, wf_54, -⟩ := hw
              have wf_54 : wd_50.2 = wd_33.2 := wf_54
              have hP : va_P (dC, dI) vwCl (wsX ob ad cA fv_49 wd_50 ar_51) H1 := by have h9 := hB.1; rw [ht] at h9; exact h9
              have fr_52 : fM [28] fv_32 fv_49 := fr_52
              have fa_53 : fA [69, 71, 72] ar_34 ar_51 := fa_53
              generalize H1 = H at hP hS ⊢
              exact hj_61 fv_49 ar_51 wd_50 _ _ ls hF_fv_49 (fM_call (fM_rf [28] _) fr_52 (by decide)) hA_ar_51 (fA_call (fA_rf [69, 71, 72] _) fa_53 (by decide)) wf_54 hP hS (lv_sub hl [1, 2, 3, 4] rfl)
    · skip
      exact hj_21 9 r_4 fv_6 ar_8 wd_7 _ _ ls (by omega) (iv_w p_5 (by decide) (by decide)) hF_fv_6 (fM_rf [28] _) hA_ar_8 (fA_rf [69, 71, 72] _) rfl hP hS (lv_sub hl [1, 2, 3, 0] rfl)
  · skip
    have i_65 : 0 ≤ (fv 26).toInt ∧ (fv 26).toInt ≤ 2 := iv_le1 i_1 h_kk (Int32.not_lt.mp c_2)
    refine lv_aload_n hx hb dX5_put_8 rfl (lv_at hl 0 rfl) ?_
    refine lv_iload_n hx hb dX5_put_9 rfl (lv_at hl 2 rfl) ?_
    refine pX_X5_58 hx hb htg hown hK hP hS hd dX5_put_10 (fun H locs fv_66 efv_66 hP hS => ?_)
    have hF_fv_66 : rX fv_66 := rX_put hF_fv efv_66 (iv_any sa)
    refine lv_iconst (v := 0) hx hb dX5_put_13 (by decide) ?_
    refine lv_istore_n (lv' := [(3, .int 0), (0, .ref (ob 10)), (1, .int kk), (2, .int sa)]) hx hb dX5_put_14 rfl hl (by decide) rfl (fun ls hl => ?_)
    refine my_cut (P := fun R9 a9 Q9 => ∀ (n_70 : Nat) (x_67 : Int32) (ar_68 : Nat → Nat → Int32) (H : Heap) (locs : List Loc) (ls : Array Slot), 2 - x_67.toInt < (n_70 : Int) → (0 ≤ x_67.toInt ∧ x_67.toInt ≤ 2) → rB ar_68 → fA [72] ar ar_68 → va_P (dC, dI) vwCl (wsX ob ad cA fv_66 wd ar_68) H → va_S (aX ob ad s.heap.size) s.heap H locs → lv_has ls 5 [(0, .ref (ob 10)), (3, .int x_67)] → W p l e R9 s m a9 below meth c H locs 0 0 Q9 (F0 m 15 ls [])) ?_ (fun hj_72 => ?_)
    · intro n_70
      induction n_70 with
      | zero => intro x_67 ar_68 H locs ls fu_71 i_x_67 hA_ar_68 fa_69; exfalso; omega
      | succ n_70 ih_70 =>
        intro x_67 ar_68 H locs ls fu_71 i_x_67 hA_ar_68 fa_69 hP hS hl
        refine lv_iload_n hx hb dX5_put_15 rfl (lv_at hl 1 rfl) ?_
        refine lv_aload_n hx hb dX5_put_16 rfl (lv_at hl 0 rfl) ?_
        refine gX_X5_46 hx hb htg hown hK hP dX5_put_17 ?_
        refine my_ti (y := fv 26) ((congrFun efv_66 26)) ?_
        refine lv_icmp_ge (tgt := 46) hx hb dX5_put_20 (by decide) (fun c_73 => ?_) (fun c_73 => ?_)
        · skip
          exact W.vret hx hb hr (fun t ht hW => ⟨⟨(fv_66, wd, ar_68), rfl, ⟨hF_fv_66, hA_ar_68, (fM_put (fM_rf [28] _) efv_66 (by decide)), (fA_call (fA_rf [69, 71, 72] _) fa_69 (by decide)), rfl, trivial⟩, ⟨by rw [ht]; exact hP, va_K.moved hW.alike hK⟩⟩, hS.F ht⟩) hS.2.2 dX5_put_46
        · skip
          have i_74 : 0 ≤ x_67.toInt ∧ x_67.toInt ≤ 1 := iv_lt1 i_x_67 i_65 (Int32.not_le.mp c_73)
          have i_75 : 1 ≤ (fv 26).toInt ∧ (fv 26).toInt ≤ 2 := iv_lt2 i_x_67 i_65 (Int32.not_le.mp c_73)
          refine lv_aload_n hx hb dX5_put_23 rfl (lv_at hl 0 rfl) ?_
          refine gX_X5_43 hx hb htg hown hK hP dX5_put_24 ?_
          refine lv_iload_n hx hb dX5_put_27 rfl (lv_at hl 1 rfl) ?_
          refine lv_aload_n hx hb dX5_put_28 rfl (lv_at hl 0 rfl) ?_
          refine gX_X5_21 hx hb htg hown hK hP dX5_put_29 ?_
          refine lv_aload_n hx hb dX5_put_32 rfl (lv_at hl 0 rfl) ?_
          refine gX_X5_40 hx hb htg hown hK hP dX5_put_33 ?_
          refine lv_iload_n hx hb dX5_put_36 rfl (lv_at hl 1 rfl) ?_
          refine lX_71 hx hb hK hP (iv_in i_74 (by decide) (by decide)) dX5_put_37 (fun v_76 ev_76 => ?_)
          have i_77 : 0 ≤ v_76.toInt ∧ v_76.toInt ≤ 7 := ev_76 ▸ hA_ar_68 71 _
          refine lX_65 hx hb hK hP (iv_in i_77 (by decide) (by decide)) dX5_put_38 (fun v_78 ev_78 => ?_)
          have i_79 : 0 ≤ v_78.toInt ∧ v_78.toInt ≤ 7 := ev_78 ▸ hA_ar_68 65 _
          refine sX_72 hx hb hK hP hS hd (iv_in i_74 (by decide) (by decide)) dX5_put_39 (fun H locs ar_80 ear_80 hP hS => ?_)
          have hA_ar_80 : rB ar_80 := rB_put hA_ar_68 ear_80 (iv_any _)
          obtain ⟨v_81, ev_81⟩ : ∃ z : Int32, z = x_67 + 1 := ⟨_, rfl⟩
          refine lv_iinc (v := v_81) (lv' := [(3, .int v_81), (0, .ref (ob 10))]) hx hb dX5_put_40 hl (k := 1) rfl (by rw [ev_81]; rfl) (by decide) rfl (fun ls hl => ?_)
          have t_82 : v_81.toInt = x_67.toInt + 1 ∧ 1 ≤ v_81.toInt ∧ v_81.toInt ≤ 2 := iv_addc ev_81 i_74 (by decide) (by decide) (by decide)
          refine lv_goto (tgt := 15) hx hb dX5_put_43 (by decide) ?_
          exact ih_70 v_81 ar_80 _ _ ls (by omega) (iv_w t_82.2 (by decide) (by decide)) hA_ar_80 (fA_put (fA_call (fA_rf [72] _) fa_69 (by decide)) ear_80 (by decide)) hP hS (lv_sub hl [1, 0] rfl)
    · skip
      have z_84 : (0 : Int32).toInt = 0 := by decide
      exact hj_72 3 0 ar _ _ ls (by first | decide | omega) (iv_w (⟨by decide, by decide⟩ : (0 : Int) ≤ (0 : Int32).toInt ∧ (0 : Int32).toInt ≤ 0) (by decide) (by decide)) hA_ar (fA_rf [72] _) hP hS (lv_sub hl [1, 0] rfl)
set_option maxHeartbeats 4000000 in
set_option maxRecDepth 100000 in
theorem x_put_1 (l : Launch) (dC : Nat → ClassId) (dI : Nat → Nat → Nat) (sz : Nat) (ob ad : Nat → Nat) (cA : Nat → ClassId) (hd : dX ob ad) (fv : Nat → Int32) (wd : xT) (ar : Nat → Nat → Int32) (hF_fv : rX fv) (hA_ar : rB ar) (kk : Int32) (sa : Int32) (h_kk : 1 ≤ kk.toInt ∧ kk.toInt ≤ 1) : Met l yX5_put (.code yX5_put cX5_put 5 none :: lw_good) ({ frames := 6, cells := 0, slots := 0, locals := 138 }) (va_Pc [.ref (ob 10), .int kk, .int sa] (prX dC dI ob ad cA fv wd ar sz)) (va_Qv (fun (u : xS) => rX u.1 ∧ rB u.2.2 ∧ fM [28] fv u.1 ∧ fA [69, 71, 72] ar u.2.2 ∧ u.2.1.2 = wd.2 ∧ True) (enX dC dI ob ad cA) (aX ob ad sz)) 0 0 (aX ob ad sz) := by
  refine Met.ofW (cc := cX5_put) (maxL := 5) (ret := none) (by decide) rfl ?_
  intro p e s m args below meth c s₁ B hml hv
  obtain ⟨rfl, hsz, hP, hK⟩ := hv
  have hx := B.exec
  have hb := B.bytes
  have hr := B.returns
  have hts := atoms_spec (ws := (.code yX5_put cX5_put 5 none :: lw_good)) B.pre
  have htg : ∀ w ∈ lw_good, w.before _ s = true := fun w hw => hts w (List.mem_cons_of_mem _ hw)
  have hown : s.vm.findClass RX5 = some m.cls := findClass_of_methodNamed B.named
  have hlocks := B.notSynchronized
  subst hsz
  have hS : va_S (aX ob ad s.heap.size) s.heap s.heap [] := va_S.rf
  have hl := lv_entry ([.ref (ob 10), .int kk, .int sa]) (n := 5) (Nat.le_of_ble_eq_true rfl)
  rw [lg_entry_eq]
  generalize (lg_sl ([.ref (ob 10), .int kk, .int sa]) ++ List.replicate (5 - (lg_sl ([.ref (ob 10), .int kk, .int sa])).length) Slot.unset).toArray = ls at hl ⊢
  have hl : lv_has ls 5 [(0, .ref (ob 10)), (1, .int kk), (2, .int sa)] := hl
  refine lv_iload_n hx hb dX5_put_0 rfl (lv_at hl 1 rfl) ?_
  refine lv_aload_n hx hb dX5_put_1 rfl (lv_at hl 0 rfl) ?_
  refine gX_X5_46 hx hb htg hown hK hP dX5_put_2 ?_
  have i_1 : 0 ≤ (fv 26).toInt ∧ (fv 26).toInt ≤ 5 := hF_fv 26
  refine lv_icmp_lt (tgt := 47) hx hb dX5_put_5 (by decide) (fun c_2 => ?_) (fun c_2 => ?_)
  · skip
    have i_3 : 2 ≤ (fv 26).toInt ∧ (fv 26).toInt ≤ 5 := iv_lt2 h_kk i_1 c_2
    refine lv_aload_n hx hb dX5_put_47 rfl (lv_at hl 0 rfl) ?_
    refine lv_iload_n hx hb dX5_put_48 rfl (lv_at hl 1 rfl) ?_
    refine va_calli (va_runV (As := [.int kk]) (rest := []) ⟨hx, hb, hml, hown, hts⟩ (x_firstPlace l dC dI s.heap.size ob ad cA hd fv wd ar hF_fv hA_ar kk (iv_w h_kk (by decide) (by decide))) (cwV 1 hts (gV kw_6_47 kw_6_49 kw_p_54 kw_1_14 kw_6_50) rfl rfl rfl (by decide +kernel) ⟨Nat.le_of_ble_eq_true rfl, Nat.le_of_ble_eq_true rfl⟩) ⟨fun a U g mk q => ⟨q.1, q.2.1, q.2.2.1, va_K.moved (u := U) (U := U.calling g mk a) (Vm.Alike.refl U.vm) q.2.2.2⟩, va_recv hK hP (ci := 6) (q0 := 10) rfl rfl, fun U hU hW => ⟨rfl, by rw [hU], by rw [hU]; exact hP, va_K.moved hW.alike hK⟩⟩ rfl rfl hl.1 rfl (lv_room (Nat.le_of_ble_eq_true rfl)) dX5_put_49 ⟨Nat.le_of_ble_eq_true rfl, Nat.le_of_ble_eq_true rfl⟩) hS (fun q _ h9 => aX_up hS q h9) (aX_up hS) (fun r_4 u t H1 locs ht _ hw hB _ hk1 hS => ?_)
    obtain ⟨fv_6, wd_7, ar_8⟩ := u
    obtain ⟨hF_fv_6, hA_ar_8, fr_9, fa_10, wf_11, p_5, -⟩ := hw
    have wf_11 : wd_7.2 = wd.2 := wf_11
    have hP : va_P (dC, dI) vwCl (wsX ob ad cA fv_6 wd_7 ar_8) H1 := by have h9 := hB.1; rw [ht] at h9; exact h9
    have fr_9 : fM [] fv fv_6 := fr_9
    have fa_10 : fA [] ar ar_8 := fa_10
    generalize H1 = H at hP hS ⊢
    refine lv_istore_n (lv' := [(3, .int r_4), (0, .ref (ob 10)), (1, .int kk), (2, .int sa)]) hx hb dX5_put_52 rfl hl (by decide) rfl (fun ls hl => ?_)
    refine my_cut (P := fun R9 a9 Q9 => ∀ (n_19 : Nat) (x_12 : Int32) (fv_13 : Nat → Int32) (ar_15 : Nat → Nat → Int32) (wd_17 : xT) (H : Heap) (locs : List Loc) (ls : Array Slot), 8 - x_12.toInt < (n_19 : Int) → (0 ≤ x_12.toInt ∧ x_12.toInt ≤ 8) → rX fv_13 → fM [28] fv_6 fv_13 → rB ar_15 → fA [69, 71, 72] ar_8 ar_15 → wd_17.2 = wd_7.2 → va_P (dC, dI) vwCl (wsX ob ad cA fv_13 wd_17 ar_15) H → va_S (aX ob ad s.heap.size) s.heap H locs → lv_has ls 5 [(0, .ref (ob 10)), (1, .int kk), (2, .int sa), (3, .int x_12)] → W p l e R9 s m a9 below meth c H locs 0 0 Q9 (F0 m 53 ls [])) ?_ (fun hj_21 => ?_)
    · intro n_19
      induction n_19 with
      | zero => intro x_12 fv_13 ar_15 wd_17 H locs ls fu_20 i_x_12 hF_fv_13 fr_14 hA_ar_15 fa_16 wf_18; exfalso; omega
      | succ n_19 ih_19 =>
        intro x_12 fv_13 ar_15 wd_17 H locs ls fu_20 i_x_12 hF_fv_13 fr_14 hA_ar_15 fa_16 wf_18 hP hS hl
        refine lv_iload_n hx hb dX5_put_53 rfl (lv_at hl 3 rfl) ?_
        refine lv_aload_n hx hb dX5_put_54 rfl (lv_at hl 0 rfl) ?_
        refine gX_X5_124 hx hb htg hown hK hP dX5_put_55 ?_
        refine my_ti (y := fv 25) ((fr_14 25 rfl).trans ((fr_9 25 rfl))) ?_
        have i_22 : 0 ≤ (fv 25).toInt ∧ (fv 25).toInt ≤ 8 := hF_fv 25
        refine lv_icmp_ge (tgt := 132) hx hb dX5_put_58 (by decide) (fun c_23 => ?_) (fun c_23 => ?_)
        · skip
          exact W.vret hx hb hr (fun t ht hW => ⟨⟨(fv_13, wd_17, ar_15), rfl, ⟨hF_fv_13, hA_ar_15, (fM_call (fM_call (fM_rf [28] _) fr_9 (by decide)) fr_14 (by decide)), (fA_call (fA_call (fA_rf [69, 71, 72] _) fa_10 (by decide)) fa_16 (by decide)), (wf_18.trans wf_11), trivial⟩, ⟨by rw [ht]; exact hP, va_K.moved hW.alike hK⟩⟩, hS.F ht⟩) hS.2.2 dX5_put_132
        · skip
          have i_24 : 0 ≤ x_12.toInt ∧ x_12.toInt ≤ 7 := iv_lt1 i_x_12 i_22 (Int32.not_le.mp c_23)
          have i_25 : 1 ≤ (fv 25).toInt ∧ (fv 25).toInt ≤ 8 := iv_lt2 i_x_12 i_22 (Int32.not_le.mp c_23)
          refine lv_aload_n hx hb dX5_put_61 rfl (lv_at hl 0 rfl) ?_
          refine gX_X5_40 hx hb htg hown hK hP dX5_put_62 ?_
          refine lv_iload_n hx hb dX5_put_65 rfl (lv_at hl 1 rfl) ?_
          refine lv_iload_n hx hb dX5_put_66 rfl (lv_at hl 3 rfl) ?_
          refine sX_71 hx hb hK hP hS hd (iv_in h_kk (by decide) (by decide)) dX5_put_67 (fun H locs ar_26 ear_26 hP hS => ?_)
          have hA_ar_26 : rB ar_26 := rB_put hA_ar_15 ear_26 i_24
          refine lv_iload_n hx hb dX5_put_68 rfl (lv_at hl 2 rfl) ?_
          refine lv_aload_n hx hb dX5_put_69 rfl (lv_at hl 0 rfl) ?_
          refine gX_X5_28 hx hb htg hown hK hP dX5_put_70 ?_
          refine lv_iload_n hx hb dX5_put_73 rfl (lv_at hl 1 rfl) ?_
          refine lX_67 hx hb hK hP (iv_in h_kk (by decide) (by decide)) dX5_put_74 (fun v_27 ev_27 => ?_)
          refine lv_iadd hx hb dX5_put_75 ?_
          refine lv_topi (fun v_28 ev_28 => ?_)
          refine lv_aload_n hx hb dX5_put_76 rfl (lv_at hl 0 rfl) ?_
          refine lv_iload_n hx hb dX5_put_77 rfl (lv_at hl 1 rfl) ?_
          refine lv_aload_n hx hb dX5_put_78 rfl (lv_at hl 0 rfl) ?_
          refine gX_X5_21 hx hb htg hown hK hP dX5_put_79 ?_
          refine lv_iload_n hx hb dX5_put_82 rfl (lv_at hl 3 rfl) ?_
          refine lX_65 hx hb hK hP (iv_in i_24 (by decide) (by decide)) dX5_put_83 (fun v_29 ev_29 => ?_)
          have i_30 : 0 ≤ v_29.toInt ∧ v_29.toInt ≤ 7 := ev_29 ▸ hA_ar_26 65 _
          refine va_calli (va_runV (As := [.int kk, .int v_29]) (rest := [.int v_28]) ⟨hx, hb, hml, hown, hts⟩ (x_mostWith l dC dI H.size ob ad cA hd fv_13 wd_17 ar_26 hF_fv_13 hA_ar_26 kk v_29 (iv_w h_kk (by decide) (by decide)) i_30) (cwV 2 hts (gV kw_6_51 kw_6_53 kw_p_55 kw_1_14 kw_6_54) rfl rfl rfl (by decide +kernel) ⟨Nat.le_of_ble_eq_true rfl, Nat.le_of_ble_eq_true rfl⟩) ⟨fun a U g mk q => ⟨q.1, q.2.1, q.2.2.1, va_K.moved (u := U) (U := U.calling g mk a) (Vm.Alike.refl U.vm) q.2.2.2⟩, va_recv hK hP (ci := 6) (q0 := 10) rfl rfl, fun U hU hW => ⟨rfl, by rw [hU], by rw [hU]; exact hP, va_K.moved hW.alike hK⟩⟩ rfl rfl hl.1 rfl (lv_room (Nat.le_of_ble_eq_true rfl)) dX5_put_84 ⟨Nat.le_of_ble_eq_true rfl, Nat.le_of_ble_eq_true rfl⟩) hS (fun q _ h9 => aX_up hS q h9) (aX_up hS) (fun r_31 u t H1 locs ht _ hw hB _ hk1 hS => ?_)
          obtain ⟨fv_32, wd_33, ar_34⟩ := u
          obtain ⟨hF_fv_32, hA_ar_34, fr_35, fa_36, wf_37, -⟩ := hw
          have wf_37 : wd_33.2 = wd_17.2 := wf_37
          have hP : va_P (dC, dI) vwCl (wsX ob ad cA fv_32 wd_33 ar_34) H1 := by have h9 := hB.1; rw [ht] at h9; exact h9
          have fr_35 : fM [] fv_13 fv_32 := fr_35
          have fa_36 : fA [69] ar_26 ar_34 := fa_36
          generalize H1 = H at hP hS ⊢
          refine va_mmin hx hb (hml.trans hl.1.symm) hown (htg (.methodLink RX5 150 Lib.Math.min.name) kw_6_55) (htg (.static Lib.Math.min.name) kw_3_151) (htg (.initialized RJ9) kw_1_16) (htg (.code Lib.Math.min.name Lib.Math.min.code 2 (some .int)) kw_3_152) (Nat.le_of_ble_eq_true rfl) (Nat.le_of_ble_eq_true rfl) (Nat.le_of_ble_eq_true rfl) (Nat.le_of_ble_eq_true rfl) dX5_put_87 ?_
          refine lv_topi (fun v_38 ev_38 => ?_)
          refine lv_istore (lv' := [(4, .int v_38), (0, .ref (ob 10)), (1, .int kk), (2, .int sa), (3, .int x_12)]) hx hb dX5_put_90 hl (by decide) rfl (fun ls hl => ?_)
          refine lv_aload_n hx hb dX5_put_92 rfl (lv_at hl 1 rfl) ?_
          refine gX_X5_142 hx hb htg hown hK hP dX5_put_93 ?_
          refine my_ti (y := fv 27) ((fr_35 27 rfl).trans ((fr_14 27 rfl).trans ((fr_9 27 rfl)))) ?_
          refine lv_iload hx hb dX5_put_96 (lv_at hl 0 rfl) ?_
          refine lv_aload_n hx hb dX5_put_98 rfl (lv_at hl 1 rfl) ?_
          refine gX_X5_31 hx hb htg hown hK hP dX5_put_99 ?_
          refine lv_iload_n hx hb dX5_put_102 rfl (lv_at hl 2 rfl) ?_
          refine lv_iconst (v := 1) hx hb dX5_put_103 (by decide) ?_
          refine lv_iadd hx hb dX5_put_104 ?_
          refine lv_topi (fun v_39 ev_39 => ?_)
          have t_40 : v_39.toInt = kk.toInt + 1 ∧ 2 ≤ v_39.toInt ∧ v_39.toInt ≤ 2 := iv_addc ev_39 h_kk (by decide) (by decide) (by decide)
          refine lX_68 hx hb hK hP (iv_in t_40.2 (by decide) (by decide)) dX5_put_105 (fun v_42 ev_42 => ?_)
          refine lv_iadd hx hb dX5_put_106 ?_
          refine lv_topi (fun v_43 ev_43 => ?_)
          refine va_mmin hx hb (hml.trans hl.1.symm) hown (htg (.methodLink RX5 150 Lib.Math.min.name) kw_6_55) (htg (.static Lib.Math.min.name) kw_3_151) (htg (.initialized RJ9) kw_1_16) (htg (.code Lib.Math.min.name Lib.Math.min.code 2 (some .int)) kw_3_152) (Nat.le_of_ble_eq_true rfl) (Nat.le_of_ble_eq_true rfl) (Nat.le_of_ble_eq_true rfl) (Nat.le_of_ble_eq_true rfl) dX5_put_107 ?_
          refine lv_topi (fun v_44 ev_44 => ?_)
          refine lv_aload_n hx hb dX5_put_110 rfl (lv_at hl 1 rfl) ?_
          refine gX_X5_58 hx hb htg hown hK hP dX5_put_111 ?_
          refine my_ti (y := fv_13 28) ((fr_35 28 rfl)) ?_
          refine my_cut (P := fun R9 a9 Q9 => ∀ (fv_55 : Nat → Int32) (ar_57 : Nat → Nat → Int32) (wd_59 : xT) (H : Heap) (locs : List Loc) (ls : Array Slot), rX fv_55 → fM [28] fv_32 fv_55 → rB ar_57 → fA [69, 71, 72] ar_34 ar_57 → wd_59.2 = wd_33.2 → va_P (dC, dI) vwCl (wsX ob ad cA fv_55 wd_59 ar_57) H → va_S (aX ob ad s.heap.size) s.heap H locs → lv_has ls 5 [(0, .ref (ob 10)), (1, .int kk), (2, .int sa), (3, .int x_12)] → W p l e R9 s m a9 below meth c H locs 0 0 Q9 (F0 m 126 ls [])) ?_ (fun hj_61 => ?_)
          · intro fv_55 ar_57 wd_59 H locs ls hF_fv_55 fr_56 hA_ar_57 fa_58 wf_60 hP hS hl
            obtain ⟨v_62, ev_62⟩ : ∃ z : Int32, z = x_12 + 1 := ⟨_, rfl⟩
            refine lv_iinc (v := v_62) (lv' := [(3, .int v_62), (0, .ref (ob 10)), (1, .int kk), (2, .int sa)]) hx hb dX5_put_126 hl (k := 3) rfl (by rw [ev_62]; rfl) (by decide) rfl (fun ls hl => ?_)
            have t_63 : v_62.toInt = x_12.toInt + 1 ∧ 1 ≤ v_62.toInt ∧ v_62.toInt ≤ 8 := iv_addc ev_62 i_24 (by decide) (by decide) (by decide)
            refine lv_goto (tgt := 53) hx hb dX5_put_129 (by decide) ?_
            exact ih_19 v_62 fv_55 ar_57 wd_59 _ _ ls (by omega) (iv_w t_63.2 (by decide) (by decide)) hF_fv_55 (fM_call (fM_call (fM_call (fM_rf [28] _) fr_14 (by decide)) fr_35 (by decide)) fr_56 (by decide)) hA_ar_57 (fA_call (fA_call (fA_put (fA_call (fA_rf [69, 71, 72] _) fa_16 (by decide)) ear_26 (by decide)) fa_36 (by decide)) fa_58 (by decide)) (wf_60.trans (wf_37.trans wf_18)) hP hS (lv_sub hl [1, 2, 3, 0] rfl)
          · skip
            refine lv_icmp_le (tgt := 126) hx hb dX5_put_114 (by decide) (fun c_45 => ?_) (fun c_45 => ?_)
            · skip
              exact hj_61 fv_32 ar_34 wd_33 _ _ ls hF_fv_32 (fM_rf [28] _) hA_ar_34 (fA_rf [69, 71, 72] _) rfl hP hS (lv_sub hl [1, 2, 3, 4] rfl)
            · skip
              have i_46 : (-2147483648) ≤ (fv_13 28).toInt ∧ (fv_13 28).toInt ≤ 2147483646 := iv_lt1 (iv_any (fv_13 28)) (iv_any v_44) (Int32.not_le.mp c_45)
              have i_47 : (-2147483647) ≤ v_44.toInt ∧ v_44.toInt ≤ 2147483647 := iv_lt2 (iv_any (fv_13 28)) (iv_any v_44) (Int32.not_le.mp c_45)
              refine lv_aload_n hx hb dX5_put_117 rfl (lv_at hl 1 rfl) ?_
              refine lv_iload_n hx hb dX5_put_118 rfl (lv_at hl 2 rfl) ?_
              refine lv_iconst (v := 1) hx hb dX5_put_119 (by decide) ?_
              refine lv_iadd hx hb dX5_put_120 ?_
              refine my_ti (y := v_39) ev_39.symm ?_
              refine lv_iload hx hb dX5_put_121 (lv_at hl 0 rfl) ?_
              refine va_callv (va_runV (As := [.int v_39, .int v_38]) (rest := []) ⟨hx, hb, hml, hown, hts⟩ (x_put_2 l dC dI H.size ob ad cA hd fv_32 wd_33 ar_34 hF_fv_32 hA_ar_34 v_39 v_38 t_40.2) (cwV 2 hts (gV kw_6_43 kw_6_45 kw_p_53 kw_1_14 kw_6_46) rfl rfl rfl (by decide +kernel) ⟨Nat.le_of_ble_eq_true rfl, Nat.le_of_ble_eq_true rfl⟩) ⟨fun a U g mk q => ⟨q.1, q.2.1, q.2.2.1, va_K.moved (u := U) (U := U.calling g mk a) (Vm.Alike.refl U.vm) q.2.2.2⟩, va_recv hK hP (ci := 6) (q0 := 10) rfl rfl, fun U hU hW => ⟨rfl, by rw [hU], by rw [hU]; exact hP, va_K.moved hW.alike hK⟩⟩ rfl rfl hl.1 rfl (lv_room (Nat.le_of_ble_eq_true rfl)) dX5_put_123 ⟨Nat.le_of_ble_eq_true rfl, Nat.le_of_ble_eq_true rfl⟩) hS (fun q _ h9 => aX_up hS q h9) (aX_up hS) (fun u t H1 locs ht _ hw hB _ hk1 hS => ?_)
              obtain ⟨fv_49, wd_50, ar_51⟩ := u
              obtain ⟨hF_fv_49, hA_ar_51, fr_52, fa_53, wf_54, -⟩ := hw
              have wf_54 : wd_50.2 = wd_33.2 := wf_54
              have hP : va_P (dC, dI) vwCl (wsX ob ad cA fv_49 wd_50 ar_51) H1 := by have h9 := hB.1; rw [ht] at h9; exact h9
              have fr_52 : fM [28] fv_32 fv_49 := fr_52
              have fa_53 : fA [69, 71, 72] ar_34 ar_51 := fa_53
              generalize H1 = H at hP hS ⊢
              exact hj_61 fv_49 ar_51 wd_50 _ _ ls hF_fv_49 (fM_call (fM_rf [28] _) fr_52 (by decide)) hA_ar_51 (fA_call (fA_rf [69, 71, 72] _) fa_53 (by decide)) wf_54 hP hS (lv_sub hl [1, 2, 3, 4] rfl)
    · skip
      exact hj_21 9 r_4 fv_6 ar_8 wd_7 _ _ ls (by omega) (iv_w p_5 (by decide) (by decide)) hF_fv_6 (fM_rf [28] _) hA_ar_8 (fA_rf [69, 71, 72] _) rfl hP hS (lv_sub hl [1, 2, 3, 0] rfl)
  · skip
    have i_65 : 0 ≤ (fv 26).toInt ∧ (fv 26).toInt ≤ 1 := iv_le1 i_1 h_kk (Int32.not_lt.mp c_2)
    refine lv_aload_n hx hb dX5_put_8 rfl (lv_at hl 0 rfl) ?_
    refine lv_iload_n hx hb dX5_put_9 rfl (lv_at hl 2 rfl) ?_
    refine pX_X5_58 hx hb htg hown hK hP hS hd dX5_put_10 (fun H locs fv_66 efv_66 hP hS => ?_)
    have hF_fv_66 : rX fv_66 := rX_put hF_fv efv_66 (iv_any sa)
    refine lv_iconst (v := 0) hx hb dX5_put_13 (by decide) ?_
    refine lv_istore_n (lv' := [(3, .int 0), (0, .ref (ob 10)), (1, .int kk), (2, .int sa)]) hx hb dX5_put_14 rfl hl (by decide) rfl (fun ls hl => ?_)
    refine my_cut (P := fun R9 a9 Q9 => ∀ (n_70 : Nat) (x_67 : Int32) (ar_68 : Nat → Nat → Int32) (H : Heap) (locs : List Loc) (ls : Array Slot), 1 - x_67.toInt < (n_70 : Int) → (0 ≤ x_67.toInt ∧ x_67.toInt ≤ 1) → rB ar_68 → fA [72] ar ar_68 → va_P (dC, dI) vwCl (wsX ob ad cA fv_66 wd ar_68) H → va_S (aX ob ad s.heap.size) s.heap H locs → lv_has ls 5 [(0, .ref (ob 10)), (3, .int x_67)] → W p l e R9 s m a9 below meth c H locs 0 0 Q9 (F0 m 15 ls [])) ?_ (fun hj_72 => ?_)
    · intro n_70
      induction n_70 with
      | zero => intro x_67 ar_68 H locs ls fu_71 i_x_67 hA_ar_68 fa_69; exfalso; omega
      | succ n_70 ih_70 =>
        intro x_67 ar_68 H locs ls fu_71 i_x_67 hA_ar_68 fa_69 hP hS hl
        refine lv_iload_n hx hb dX5_put_15 rfl (lv_at hl 1 rfl) ?_
        refine lv_aload_n hx hb dX5_put_16 rfl (lv_at hl 0 rfl) ?_
        refine gX_X5_46 hx hb htg hown hK hP dX5_put_17 ?_
        refine my_ti (y := fv 26) ((congrFun efv_66 26)) ?_
        refine lv_icmp_ge (tgt := 46) hx hb dX5_put_20 (by decide) (fun c_73 => ?_) (fun c_73 => ?_)
        · skip
          exact W.vret hx hb hr (fun t ht hW => ⟨⟨(fv_66, wd, ar_68), rfl, ⟨hF_fv_66, hA_ar_68, (fM_put (fM_rf [28] _) efv_66 (by decide)), (fA_call (fA_rf [69, 71, 72] _) fa_69 (by decide)), rfl, trivial⟩, ⟨by rw [ht]; exact hP, va_K.moved hW.alike hK⟩⟩, hS.F ht⟩) hS.2.2 dX5_put_46
        · skip
          have i_74 : 0 ≤ x_67.toInt ∧ x_67.toInt ≤ 0 := iv_lt1 i_x_67 i_65 (Int32.not_le.mp c_73)
          have i_75 : 1 ≤ (fv 26).toInt ∧ (fv 26).toInt ≤ 1 := iv_lt2 i_x_67 i_65 (Int32.not_le.mp c_73)
          refine lv_aload_n hx hb dX5_put_23 rfl (lv_at hl 0 rfl) ?_
          refine gX_X5_43 hx hb htg hown hK hP dX5_put_24 ?_
          refine lv_iload_n hx hb dX5_put_27 rfl (lv_at hl 1 rfl) ?_
          refine lv_aload_n hx hb dX5_put_28 rfl (lv_at hl 0 rfl) ?_
          refine gX_X5_21 hx hb htg hown hK hP dX5_put_29 ?_
          refine lv_aload_n hx hb dX5_put_32 rfl (lv_at hl 0 rfl) ?_
          refine gX_X5_40 hx hb htg hown hK hP dX5_put_33 ?_
          refine lv_iload_n hx hb dX5_put_36 rfl (lv_at hl 1 rfl) ?_
          refine lX_71 hx hb hK hP (iv_in i_74 (by decide) (by decide)) dX5_put_37 (fun v_76 ev_76 => ?_)
          have i_77 : 0 ≤ v_76.toInt ∧ v_76.toInt ≤ 7 := ev_76 ▸ hA_ar_68 71 _
          refine lX_65 hx hb hK hP (iv_in i_77 (by decide) (by decide)) dX5_put_38 (fun v_78 ev_78 => ?_)
          have i_79 : 0 ≤ v_78.toInt ∧ v_78.toInt ≤ 7 := ev_78 ▸ hA_ar_68 65 _
          refine sX_72 hx hb hK hP hS hd (iv_in i_74 (by decide) (by decide)) dX5_put_39 (fun H locs ar_80 ear_80 hP hS => ?_)
          have hA_ar_80 : rB ar_80 := rB_put hA_ar_68 ear_80 (iv_any _)
          obtain ⟨v_81, ev_81⟩ : ∃ z : Int32, z = x_67 + 1 := ⟨_, rfl⟩
          refine lv_iinc (v := v_81) (lv' := [(3, .int v_81), (0, .ref (ob 10))]) hx hb dX5_put_40 hl (k := 1) rfl (by rw [ev_81]; rfl) (by decide) rfl (fun ls hl => ?_)
          have t_82 : v_81.toInt = x_67.toInt + 1 ∧ 1 ≤ v_81.toInt ∧ v_81.toInt ≤ 1 := iv_addc ev_81 i_74 (by decide) (by decide) (by decide)
          refine lv_goto (tgt := 15) hx hb dX5_put_43 (by decide) ?_
          exact ih_70 v_81 ar_80 _ _ ls (by omega) (iv_w t_82.2 (by decide) (by decide)) hA_ar_80 (fA_put (fA_call (fA_rf [72] _) fa_69 (by decide)) ear_80 (by decide)) hP hS (lv_sub hl [1, 0] rfl)
    · skip
      have z_84 : (0 : Int32).toInt = 0 := by decide
      exact hj_72 2 0 ar _ _ ls (by first | decide | omega) (iv_w (⟨by decide, by decide⟩ : (0 : Int) ≤ (0 : Int32).toInt ∧ (0 : Int32).toInt ≤ 0) (by decide) (by decide)) hA_ar (fA_rf [72] _) hP hS (lv_sub hl [1, 0] rfl)
set_option maxHeartbeats 4000000 in
set_option maxRecDepth 100000 in
theorem x_put_0 (l : Launch) (dC : Nat → ClassId) (dI : Nat → Nat → Nat) (sz : Nat) (ob ad : Nat → Nat) (cA : Nat → ClassId) (hd : dX ob ad) (fv : Nat → Int32) (wd : xT) (ar : Nat → Nat → Int32) (hF_fv : rX fv) (hA_ar : rB ar) (kk : Int32) (sa : Int32) (h_kk : 0 ≤ kk.toInt ∧ kk.toInt ≤ 0) : Met l yX5_put (.code yX5_put cX5_put 5 none :: lw_good) ({ frames := 7, cells := 0, slots := 0, locals := 162 }) (va_Pc [.ref (ob 10), .int kk, .int sa] (prX dC dI ob ad cA fv wd ar sz)) (va_Qv (fun (u : xS) => rX u.1 ∧ rB u.2.2 ∧ fM [28] fv u.1 ∧ fA [69, 71, 72] ar u.2.2 ∧ u.2.1.2 = wd.2 ∧ True) (enX dC dI ob ad cA) (aX ob ad sz)) 0 0 (aX ob ad sz) := by
  refine Met.ofW (cc := cX5_put) (maxL := 5) (ret := none) (by decide) rfl ?_
  intro p e s m args below meth c s₁ B hml hv
  obtain ⟨rfl, hsz, hP, hK⟩ := hv
  have hx := B.exec
  have hb := B.bytes
  have hr := B.returns
  have hts := atoms_spec (ws := (.code yX5_put cX5_put 5 none :: lw_good)) B.pre
  have htg : ∀ w ∈ lw_good, w.before _ s = true := fun w hw => hts w (List.mem_cons_of_mem _ hw)
  have hown : s.vm.findClass RX5 = some m.cls := findClass_of_methodNamed B.named
  have hlocks := B.notSynchronized
  subst hsz
  have hS : va_S (aX ob ad s.heap.size) s.heap s.heap [] := va_S.rf
  have hl := lv_entry ([.ref (ob 10), .int kk, .int sa]) (n := 5) (Nat.le_of_ble_eq_true rfl)
  rw [lg_entry_eq]
  generalize (lg_sl ([.ref (ob 10), .int kk, .int sa]) ++ List.replicate (5 - (lg_sl ([.ref (ob 10), .int kk, .int sa])).length) Slot.unset).toArray = ls at hl ⊢
  have hl : lv_has ls 5 [(0, .ref (ob 10)), (1, .int kk), (2, .int sa)] := hl
  refine lv_iload_n hx hb dX5_put_0 rfl (lv_at hl 1 rfl) ?_
  refine lv_aload_n hx hb dX5_put_1 rfl (lv_at hl 0 rfl) ?_
  refine gX_X5_46 hx hb htg hown hK hP dX5_put_2 ?_
  have i_1 : 0 ≤ (fv 26).toInt ∧ (fv 26).toInt ≤ 5 := hF_fv 26
  refine lv_icmp_lt (tgt := 47) hx hb dX5_put_5 (by decide) (fun c_2 => ?_) (fun c_2 => ?_)
  · skip
    have i_3 : 1 ≤ (fv 26).toInt ∧ (fv 26).toInt ≤ 5 := iv_lt2 h_kk i_1 c_2
    refine lv_aload_n hx hb dX5_put_47 rfl (lv_at hl 0 rfl) ?_
    refine lv_iload_n hx hb dX5_put_48 rfl (lv_at hl 1 rfl) ?_
    refine va_calli (va_runV (As := [.int kk]) (rest := []) ⟨hx, hb, hml, hown, hts⟩ (x_firstPlace l dC dI s.heap.size ob ad cA hd fv wd ar hF_fv hA_ar kk (iv_w h_kk (by decide) (by decide))) (cwV 1 hts (gV kw_6_47 kw_6_49 kw_p_54 kw_1_14 kw_6_50) rfl rfl rfl (by decide +kernel) ⟨Nat.le_of_ble_eq_true rfl, Nat.le_of_ble_eq_true rfl⟩) ⟨fun a U g mk q => ⟨q.1, q.2.1, q.2.2.1, va_K.moved (u := U) (U := U.calling g mk a) (Vm.Alike.refl U.vm) q.2.2.2⟩, va_recv hK hP (ci := 6) (q0 := 10) rfl rfl, fun U hU hW => ⟨rfl, by rw [hU], by rw [hU]; exact hP, va_K.moved hW.alike hK⟩⟩ rfl rfl hl.1 rfl (lv_room (Nat.le_of_ble_eq_true rfl)) dX5_put_49 ⟨Nat.le_of_ble_eq_true rfl, Nat.le_of_ble_eq_true rfl⟩) hS (fun q _ h9 => aX_up hS q h9) (aX_up hS) (fun r_4 u t H1 locs ht _ hw hB _ hk1 hS => ?_)
    obtain ⟨fv_6, wd_7, ar_8⟩ := u
    obtain ⟨hF_fv_6, hA_ar_8, fr_9, fa_10, wf_11, p_5, -⟩ := hw
    have wf_11 : wd_7.2 = wd.2 := wf_11
    have hP : va_P (dC, dI) vwCl (wsX ob ad cA fv_6 wd_7 ar_8) H1 := by have h9 := hB.1; rw [ht] at h9; exact h9
    have fr_9 : fM [] fv fv_6 := fr_9
    have fa_10 : fA [] ar ar_8 := fa_10
    generalize H1 = H at hP hS ⊢
    refine lv_istore_n (lv' := [(3, .int r_4), (0, .ref (ob 10)), (1, .int kk), (2, .int sa)]) hx hb dX5_put_52 rfl hl (by decide) rfl (fun ls hl => ?_)
    refine my_cut (P := fun R9 a9 Q9 => ∀ (n_19 : Nat) (x_12 : Int32) (fv_13 : Nat → Int32) (ar_15 : Nat → Nat → Int32) (wd_17 : xT) (H : Heap) (locs : List Loc) (ls : Array Slot), 8 - x_12.toInt < (n_19 : Int) → (0 ≤ x_12.toInt ∧ x_12.toInt ≤ 8) → rX fv_13 → fM [28] fv_6 fv_13 → rB ar_15 → fA [69, 71, 72] ar_8 ar_15 → wd_17.2 = wd_7.2 → va_P (dC, dI) vwCl (wsX ob ad cA fv_13 wd_17 ar_15) H → va_S (aX ob ad s.heap.size) s.heap H locs → lv_has ls 5 [(0, .ref (ob 10)), (1, .int kk), (2, .int sa), (3, .int x_12)] → W p l e R9 s m a9 below meth c H locs 0 0 Q9 (F0 m 53 ls [])) ?_ (fun hj_21 => ?_)
    · intro n_19
      induction n_19 with
      | zero => intro x_12 fv_13 ar_15 wd_17 H locs ls fu_20 i_x_12 hF_fv_13 fr_14 hA_ar_15 fa_16 wf_18; exfalso; omega
      | succ n_19 ih_19 =>
        intro x_12 fv_13 ar_15 wd_17 H locs ls fu_20 i_x_12 hF_fv_13 fr_14 hA_ar_15 fa_16 wf_18 hP hS hl
        refine lv_iload_n hx hb dX5_put_53 rfl (lv_at hl 3 rfl) ?_
        refine lv_aload_n hx hb dX5_put_54 rfl (lv_at hl 0 rfl) ?_
        refine gX_X5_124 hx hb htg hown hK hP dX5_put_55 ?_
        refine my_ti (y := fv 25) ((fr_14 25 rfl).trans ((fr_9 25 rfl))) ?_
        have i_22 : 0 ≤ (fv 25).toInt ∧ (fv 25).toInt ≤ 8 := hF_fv 25
        refine lv_icmp_ge (tgt := 132) hx hb dX5_put_58 (by decide) (fun c_23 => ?_) (fun c_23 => ?_)
        · skip
          exact W.vret hx hb hr (fun t ht hW => ⟨⟨(fv_13, wd_17, ar_15), rfl, ⟨hF_fv_13, hA_ar_15, (fM_call (fM_call (fM_rf [28] _) fr_9 (by decide)) fr_14 (by decide)), (fA_call (fA_call (fA_rf [69, 71, 72] _) fa_10 (by decide)) fa_16 (by decide)), (wf_18.trans wf_11), trivial⟩, ⟨by rw [ht]; exact hP, va_K.moved hW.alike hK⟩⟩, hS.F ht⟩) hS.2.2 dX5_put_132
        · skip
          have i_24 : 0 ≤ x_12.toInt ∧ x_12.toInt ≤ 7 := iv_lt1 i_x_12 i_22 (Int32.not_le.mp c_23)
          have i_25 : 1 ≤ (fv 25).toInt ∧ (fv 25).toInt ≤ 8 := iv_lt2 i_x_12 i_22 (Int32.not_le.mp c_23)
          refine lv_aload_n hx hb dX5_put_61 rfl (lv_at hl 0 rfl) ?_
          refine gX_X5_40 hx hb htg hown hK hP dX5_put_62 ?_
          refine lv_iload_n hx hb dX5_put_65 rfl (lv_at hl 1 rfl) ?_
          refine lv_iload_n hx hb dX5_put_66 rfl (lv_at hl 3 rfl) ?_
          refine sX_71 hx hb hK hP hS hd (iv_in h_kk (by decide) (by decide)) dX5_put_67 (fun H locs ar_26 ear_26 hP hS => ?_)
          have hA_ar_26 : rB ar_26 := rB_put hA_ar_15 ear_26 i_24
          refine lv_iload_n hx hb dX5_put_68 rfl (lv_at hl 2 rfl) ?_
          refine lv_aload_n hx hb dX5_put_69 rfl (lv_at hl 0 rfl) ?_
          refine gX_X5_28 hx hb htg hown hK hP dX5_put_70 ?_
          refine lv_iload_n hx hb dX5_put_73 rfl (lv_at hl 1 rfl) ?_
          refine lX_67 hx hb hK hP (iv_in h_kk (by decide) (by decide)) dX5_put_74 (fun v_27 ev_27 => ?_)
          refine lv_iadd hx hb dX5_put_75 ?_
          refine lv_topi (fun v_28 ev_28 => ?_)
          refine lv_aload_n hx hb dX5_put_76 rfl (lv_at hl 0 rfl) ?_
          refine lv_iload_n hx hb dX5_put_77 rfl (lv_at hl 1 rfl) ?_
          refine lv_aload_n hx hb dX5_put_78 rfl (lv_at hl 0 rfl) ?_
          refine gX_X5_21 hx hb htg hown hK hP dX5_put_79 ?_
          refine lv_iload_n hx hb dX5_put_82 rfl (lv_at hl 3 rfl) ?_
          refine lX_65 hx hb hK hP (iv_in i_24 (by decide) (by decide)) dX5_put_83 (fun v_29 ev_29 => ?_)
          have i_30 : 0 ≤ v_29.toInt ∧ v_29.toInt ≤ 7 := ev_29 ▸ hA_ar_26 65 _
          refine va_calli (va_runV (As := [.int kk, .int v_29]) (rest := [.int v_28]) ⟨hx, hb, hml, hown, hts⟩ (x_mostWith l dC dI H.size ob ad cA hd fv_13 wd_17 ar_26 hF_fv_13 hA_ar_26 kk v_29 (iv_w h_kk (by decide) (by decide)) i_30) (cwV 2 hts (gV kw_6_51 kw_6_53 kw_p_55 kw_1_14 kw_6_54) rfl rfl rfl (by decide +kernel) ⟨Nat.le_of_ble_eq_true rfl, Nat.le_of_ble_eq_true rfl⟩) ⟨fun a U g mk q => ⟨q.1, q.2.1, q.2.2.1, va_K.moved (u := U) (U := U.calling g mk a) (Vm.Alike.refl U.vm) q.2.2.2⟩, va_recv hK hP (ci := 6) (q0 := 10) rfl rfl, fun U hU hW => ⟨rfl, by rw [hU], by rw [hU]; exact hP, va_K.moved hW.alike hK⟩⟩ rfl rfl hl.1 rfl (lv_room (Nat.le_of_ble_eq_true rfl)) dX5_put_84 ⟨Nat.le_of_ble_eq_true rfl, Nat.le_of_ble_eq_true rfl⟩) hS (fun q _ h9 => aX_up hS q h9) (aX_up hS) (fun r_31 u t H1 locs ht _ hw hB _ hk1 hS => ?_)
          obtain ⟨fv_32, wd_33, ar_34⟩ := u
          obtain ⟨hF_fv_32, hA_ar_34, fr_35, fa_36, wf_37, -⟩ := hw
          have wf_37 : wd_33.2 = wd_17.2 := wf_37
          have hP : va_P (dC, dI) vwCl (wsX ob ad cA fv_32 wd_33 ar_34) H1 := by have h9 := hB.1; rw [ht] at h9; exact h9
          have fr_35 : fM [] fv_13 fv_32 := fr_35
          have fa_36 : fA [69] ar_26 ar_34 := fa_36
          generalize H1 = H at hP hS ⊢
          refine va_mmin hx hb (hml.trans hl.1.symm) hown (htg (.methodLink RX5 150 Lib.Math.min.name) kw_6_55) (htg (.static Lib.Math.min.name) kw_3_151) (htg (.initialized RJ9) kw_1_16) (htg (.code Lib.Math.min.name Lib.Math.min.code 2 (some .int)) kw_3_152) (Nat.le_of_ble_eq_true rfl) (Nat.le_of_ble_eq_true rfl) (Nat.le_of_ble_eq_true rfl) (Nat.le_of_ble_eq_true rfl) dX5_put_87 ?_
          refine lv_topi (fun v_38 ev_38 => ?_)
          refine lv_istore (lv' := [(4, .int v_38), (0, .ref (ob 10)), (1, .int kk), (2, .int sa), (3, .int x_12)]) hx hb dX5_put_90 hl (by decide) rfl (fun ls hl => ?_)
          refine lv_aload_n hx hb dX5_put_92 rfl (lv_at hl 1 rfl) ?_
          refine gX_X5_142 hx hb htg hown hK hP dX5_put_93 ?_
          refine my_ti (y := fv 27) ((fr_35 27 rfl).trans ((fr_14 27 rfl).trans ((fr_9 27 rfl)))) ?_
          refine lv_iload hx hb dX5_put_96 (lv_at hl 0 rfl) ?_
          refine lv_aload_n hx hb dX5_put_98 rfl (lv_at hl 1 rfl) ?_
          refine gX_X5_31 hx hb htg hown hK hP dX5_put_99 ?_
          refine lv_iload_n hx hb dX5_put_102 rfl (lv_at hl 2 rfl) ?_
          refine lv_iconst (v := 1) hx hb dX5_put_103 (by decide) ?_
          refine lv_iadd hx hb dX5_put_104 ?_
          refine lv_topi (fun v_39 ev_39 => ?_)
          have t_40 : v_39.toInt = kk.toInt + 1 ∧ 1 ≤ v_39.toInt ∧ v_39.toInt ≤ 1 := iv_addc ev_39 h_kk (by decide) (by decide) (by decide)
          refine lX_68 hx hb hK hP (iv_in t_40.2 (by decide) (by decide)) dX5_put_105 (fun v_42 ev_42 => ?_)
          refine lv_iadd hx hb dX5_put_106 ?_
          refine lv_topi (fun v_43 ev_43 => ?_)
          refine va_mmin hx hb (hml.trans hl.1.symm) hown (htg (.methodLink RX5 150 Lib.Math.min.name) kw_6_55) (htg (.static Lib.Math.min.name) kw_3_151) (htg (.initialized RJ9) kw_1_16) (htg (.code Lib.Math.min.name Lib.Math.min.code 2 (some .int)) kw_3_152) (Nat.le_of_ble_eq_true rfl) (Nat.le_of_ble_eq_true rfl) (Nat.le_of_ble_eq_true rfl) (Nat.le_of_ble_eq_true rfl) dX5_put_107 ?_
          refine lv_topi (fun v_44 ev_44 => ?_)
          refine lv_aload_n hx hb dX5_put_110 rfl (lv_at hl 1 rfl) ?_
          refine gX_X5_58 hx hb htg hown hK hP dX5_put_111 ?_
          refine my_ti (y := fv_13 28) ((fr_35 28 rfl)) ?_
          refine my_cut (P := fun R9 a9 Q9 => ∀ (fv_55 : Nat → Int32) (ar_57 : Nat → Nat → Int32) (wd_59 : xT) (H : Heap) (locs : List Loc) (ls : Array Slot), rX fv_55 → fM [28] fv_32 fv_55 → rB ar_57 → fA [69, 71, 72] ar_34 ar_57 → wd_59.2 = wd_33.2 → va_P (dC, dI) vwCl (wsX ob ad cA fv_55 wd_59 ar_57) H → va_S (aX ob ad s.heap.size) s.heap H locs → lv_has ls 5 [(0, .ref (ob 10)), (1, .int kk), (2, .int sa), (3, .int x_12)] → W p l e R9 s m a9 below meth c H locs 0 0 Q9 (F0 m 126 ls [])) ?_ (fun hj_61 => ?_)
          · intro fv_55 ar_57 wd_59 H locs ls hF_fv_55 fr_56 hA_ar_57 fa_58 wf_60 hP hS hl
            obtain ⟨v_62, ev_62⟩ : ∃ z : Int32, z = x_12 + 1 := ⟨_, rfl⟩
            refine lv_iinc (v := v_62) (lv' := [(3, .int v_62), (0, .ref (ob 10)), (1, .int kk), (2, .int sa)]) hx hb dX5_put_126 hl (k := 3) rfl (by rw [ev_62]; rfl) (by decide) rfl (fun ls hl => ?_)
            have t_63 : v_62.toInt = x_12.toInt + 1 ∧ 1 ≤ v_62.toInt ∧ v_62.toInt ≤ 8 := iv_addc ev_62 i_24 (by decide) (by decide) (by decide)
            refine lv_goto (tgt := 53) hx hb dX5_put_129 (by decide) ?_
            exact ih_19 v_62 fv_55 ar_57 wd_59 _ _ ls (by omega) (iv_w t_63.2 (by decide) (by decide)) hF_fv_55 (fM_call (fM_call (fM_call (fM_rf [28] _) fr_14 (by decide)) fr_35 (by decide)) fr_56 (by decide)) hA_ar_57 (fA_call (fA_call (fA_put (fA_call (fA_rf [69, 71, 72] _) fa_16 (by decide)) ear_26 (by decide)) fa_36 (by decide)) fa_58 (by decide)) (wf_60.trans (wf_37.trans wf_18)) hP hS (lv_sub hl [1, 2, 3, 0] rfl)
          · skip
            refine lv_icmp_le (tgt := 126) hx hb dX5_put_114 (by decide) (fun c_45 => ?_) (fun c_45 => ?_)
            · skip
              exact hj_61 fv_32 ar_34 wd_33 _ _ ls hF_fv_32 (fM_rf [28] _) hA_ar_34 (fA_rf [69, 71, 72] _) rfl hP hS (lv_sub hl [1, 2, 3, 4] rfl)
            · skip
              have i_46 : (-2147483648) ≤ (fv_13 28).toInt ∧ (fv_13 28).toInt ≤ 2147483646 := iv_lt1 (iv_any (fv_13 28)) (iv_any v_44) (Int32.not_le.mp c_45)
              have i_47 : (-2147483647) ≤ v_44.toInt ∧ v_44.toInt ≤ 2147483647 := iv_lt2 (iv_any (fv_13 28)) (iv_any v_44) (Int32.not_le.mp c_45)
              refine lv_aload_n hx hb dX5_put_117 rfl (lv_at hl 1 rfl) ?_
              refine lv_iload_n hx hb dX5_put_118 rfl (lv_at hl 2 rfl) ?_
              refine lv_iconst (v := 1) hx hb dX5_put_119 (by decide) ?_
              refine lv_iadd hx hb dX5_put_120 ?_
              refine my_ti (y := v_39) ev_39.symm ?_
              refine lv_iload hx hb dX5_put_121 (lv_at hl 0 rfl) ?_
              refine va_callv (va_runV (As := [.int v_39, .int v_38]) (rest := []) ⟨hx, hb, hml, hown, hts⟩ (x_put_1 l dC dI H.size ob ad cA hd fv_32 wd_33 ar_34 hF_fv_32 hA_ar_34 v_39 v_38 t_40.2) (cwV 2 hts (gV kw_6_43 kw_6_45 kw_p_53 kw_1_14 kw_6_46) rfl rfl rfl (by decide +kernel) ⟨Nat.le_of_ble_eq_true rfl, Nat.le_of_ble_eq_true rfl⟩) ⟨fun a U g mk q => ⟨q.1, q.2.1, q.2.2.1, va_K.moved (u := U) (U := U.calling g mk a) (Vm.Alike.refl U.vm) q.2.2.2⟩, va_recv hK hP (ci := 6) (q0 := 10) rfl rfl, fun U hU hW => ⟨rfl, by rw [hU], by rw [hU]; exact hP, va_K.moved hW.alike hK⟩⟩ rfl rfl hl.1 rfl (lv_room (Nat.le_of_ble_eq_true rfl)) dX5_put_123 ⟨Nat.le_of_ble_eq_true rfl, Nat.le_of_ble_eq_true rfl⟩) hS (fun q _ h9 => aX_up hS q h9) (aX_up hS) (fun u t H1 locs ht _ hw hB _ hk1 hS => ?_)
              obtain ⟨fv_49, wd_50, ar_51⟩ := u
              obtain ⟨hF_fv_49, hA_ar_51, fr_52, fa_53, wf_54, -⟩ := hw
              have wf_54 : wd_50.2 = wd_33.2 := wf_54
              have hP : va_P (dC, dI) vwCl (wsX ob ad cA fv_49 wd_50 ar_51) H1 := by have h9 := hB.1; rw [ht] at h9; exact h9
              have fr_52 : fM [28] fv_32 fv_49 := fr_52
              have fa_53 : fA [69, 71, 72] ar_34 ar_51 := fa_53
              generalize H1 = H at hP hS ⊢
              exact hj_61 fv_49 ar_51 wd_50 _ _ ls hF_fv_49 (fM_call (fM_rf [28] _) fr_52 (by decide)) hA_ar_51 (fA_call (fA_rf [69, 71, 72] _) fa_53 (by decide)) wf_54 hP hS (lv_sub hl [1, 2, 3, 4] rfl)
    · skip
      exact hj_21 9 r_4 fv_6 ar_8 wd_7 _ _ ls (by omega) (iv_w p_5 (by decide) (by decide)) hF_fv_6 (fM_rf [28] _) hA_ar_8 (fA_rf [69, 71, 72] _) rfl hP hS (lv_sub hl [1, 2, 3, 0] rfl)
  · skip
    have i_65 : 0 ≤ (fv 26).toInt ∧ (fv 26).toInt ≤ 0 := iv_le1 i_1 h_kk (Int32.not_lt.mp c_2)
    refine lv_aload_n hx hb dX5_put_8 rfl (lv_at hl 0 rfl) ?_
    refine lv_iload_n hx hb dX5_put_9 rfl (lv_at hl 2 rfl) ?_
    refine pX_X5_58 hx hb htg hown hK hP hS hd dX5_put_10 (fun H locs fv_66 efv_66 hP hS => ?_)
    have hF_fv_66 : rX fv_66 := rX_put hF_fv efv_66 (iv_any sa)
    refine lv_iconst (v := 0) hx hb dX5_put_13 (by decide) ?_
    refine lv_istore_n (lv' := [(3, .int 0), (0, .ref (ob 10)), (1, .int kk), (2, .int sa)]) hx hb dX5_put_14 rfl hl (by decide) rfl (fun ls hl => ?_)
    refine my_cut (P := fun R9 a9 Q9 => ∀ (n_68 : Nat) (x_67 : Int32) (H : Heap) (locs : List Loc) (ls : Array Slot), 0 - x_67.toInt < (n_68 : Int) → (0 ≤ x_67.toInt ∧ x_67.toInt ≤ 0) → va_P (dC, dI) vwCl (wsX ob ad cA fv_66 wd ar) H → va_S (aX ob ad s.heap.size) s.heap H locs → lv_has ls 5 [(0, .ref (ob 10)), (3, .int x_67)] → W p l e R9 s m a9 below meth c H locs 0 0 Q9 (F0 m 15 ls [])) ?_ (fun hj_70 => ?_)
    · intro n_68
      induction n_68 with
      | zero => intro x_67 H locs ls fu_69 i_x_67; exfalso; omega
      | succ n_68 ih_68 =>
        intro x_67 H locs ls fu_69 i_x_67 hP hS hl
        refine lv_iload_n hx hb dX5_put_15 rfl (lv_at hl 1 rfl) ?_
        refine lv_aload_n hx hb dX5_put_16 rfl (lv_at hl 0 rfl) ?_
        refine gX_X5_46 hx hb htg hown hK hP dX5_put_17 ?_
        refine my_ti (y := fv 26) ((congrFun efv_66 26)) ?_
        refine lv_icmp_ge (tgt := 46) hx hb dX5_put_20 (by decide) (fun c_71 => ?_) (fun c_71 => ?_)
        · skip
          exact W.vret hx hb hr (fun t ht hW => ⟨⟨(fv_66, wd, ar), rfl, ⟨hF_fv_66, hA_ar, (fM_put (fM_rf [28] _) efv_66 (by decide)), (fA_rf [69, 71, 72] _), rfl, trivial⟩, ⟨by rw [ht]; exact hP, va_K.moved hW.alike hK⟩⟩, hS.F ht⟩) hS.2.2 dX5_put_46
        · skip
          exact absurd True.intro (by have h7 := i_x_67; have h8 := i_65; have h9 := Int32.lt_iff_toInt_lt.mp (Int32.not_le.mp c_71); exfalso; omega)
    · skip
      have z_72 : (0 : Int32).toInt = 0 := by decide
      exact hj_70 1 0 _ _ ls (by first | decide | omega) (⟨by decide, by decide⟩ : (0 : Int) ≤ (0 : Int32).toInt ∧ (0 : Int32).toInt ≤ 0) hP hS (lv_sub hl [1, 0] rfl)
set_option maxHeartbeats 4000000 in
set_option maxRecDepth 100000 in
theorem x_seat (l : Launch) (dC : Nat → ClassId) (dI : Nat → Nat → Nat) (sz : Nat) (ob ad : Nat → Nat) (cA : Nat → ClassId) (hd : dX ob ad) (fv : Nat → Int32) (wd : xT) (ar : Nat → Nat → Int32) (hF_fv : rX fv) (hA_ar : rB ar) (wc : Int32) (mm : Int32) (h_wc : 1 ≤ wc.toInt ∧ wc.toInt ≤ 5) (hw : ∀ j : Nat, (j : Int) < wc.toInt → (ar 1 j).toInt ≤ 19) : Met l yX5_seat (.code yX5_seat cX5_seat 4 (some .int) :: lw_good) ({ frames := 8, cells := 0, slots := 0, locals := 186 }) (va_Pc [.ref (ob 10), .ref (ad 1), .int wc, .int mm] (prX dC dI ob ad cA fv wd ar sz)) (va_Qi (fun (r : Int32) (u : xS) => rX u.1 ∧ rB u.2.2 ∧ fM [25, 26, 27, 28] fv u.1 ∧ fA [65, 66, 67, 68, 69, 70, 71, 72] ar u.2.2 ∧ u.2.1.2 = wd.2 ∧ True) (enX dC dI ob ad cA) (aX ob ad sz)) 0 0 (aX ob ad sz) := by
  refine Met.ofW (cc := cX5_seat) (maxL := 4) (ret := (some .int)) (by decide) rfl ?_
  intro p e s m args below meth c s₁ B hml hv
  obtain ⟨rfl, hsz, hP, hK⟩ := hv
  have hx := B.exec
  have hb := B.bytes
  have hr := B.returns
  have hts := atoms_spec (ws := (.code yX5_seat cX5_seat 4 (some .int) :: lw_good)) B.pre
  have htg : ∀ w ∈ lw_good, w.before _ s = true := fun w hw => hts w (List.mem_cons_of_mem _ hw)
  have hown : s.vm.findClass RX5 = some m.cls := findClass_of_methodNamed B.named
  have hlocks := B.notSynchronized
  subst hsz
  have hS : va_S (aX ob ad s.heap.size) s.heap s.heap [] := va_S.rf
  have hl := lv_entry ([.ref (ob 10), .ref (ad 1), .int wc, .int mm]) (n := 4) (Nat.le_of_ble_eq_true rfl)
  rw [lg_entry_eq]
  generalize (lg_sl ([.ref (ob 10), .ref (ad 1), .int wc, .int mm]) ++ List.replicate (4 - (lg_sl ([.ref (ob 10), .ref (ad 1), .int wc, .int mm])).length) Slot.unset).toArray = ls at hl ⊢
  have hl : lv_has ls 4 [(0, .ref (ob 10)), (1, .ref (ad 1)), (2, .int wc), (3, .int mm)] := hl
  refine lv_aload_n hx hb dX5_seat_0 rfl (lv_at hl 0 rfl) ?_
  refine lv_iload_n hx hb dX5_seat_1 rfl (lv_at hl 2 rfl) ?_
  refine pX_X5_46 hx hb htg hown hK hP hS hd dX5_seat_2 (fun H locs fv_1 efv_1 hP hS => ?_)
  have hF_fv_1 : rX fv_1 := rX_put hF_fv efv_1 (iv_w h_wc (by decide) (by decide))
  refine lv_aload_n hx hb dX5_seat_5 rfl (lv_at hl 0 rfl) ?_
  refine lv_aload_n hx hb dX5_seat_6 rfl (lv_at hl 1 rfl) ?_
  have z_2 : (fv_1 26).toInt = wc.toInt := congrArg Int32.toInt ((congrFun efv_1 26))
  have z_3 : 0 ≤ (fv_1 26).toInt ∧ (fv_1 26).toInt ≤ 5 := hF_fv_1 26
  have z_4 : (fv_1 26).toInt = wc.toInt := congrArg Int32.toInt ((congrFun efv_1 26))
  have z_5 : 0 ≤ (fv_1 26).toInt ∧ (fv_1 26).toInt ≤ 5 := hF_fv_1 26
  refine va_callv (va_runV (As := [.ref (ad 1)]) (rest := []) ⟨hx, hb, hml, hown, hts⟩ (x_readySeats l dC dI H.size ob ad cA hd fv_1 wd ar hF_fv_1 hA_ar (fun j hj => hw j (by omega))) (cwV 1 hts (gV kw_6_13 kw_6_15 kw_p_49 kw_1_14 kw_6_16) rfl rfl rfl (by decide +kernel) ⟨Nat.le_of_ble_eq_true rfl, Nat.le_of_ble_eq_true rfl⟩) ⟨fun a U g mk q => ⟨q.1, q.2.1, q.2.2.1, va_K.moved (u := U) (U := U.calling g mk a) (Vm.Alike.refl U.vm) q.2.2.2⟩, va_recv hK hP (ci := 6) (q0 := 10) rfl rfl, fun U hU hW => ⟨rfl, by rw [hU], by rw [hU]; exact hP, va_K.moved hW.alike hK⟩⟩ rfl rfl hl.1 rfl (lv_room (Nat.le_of_ble_eq_true rfl)) dX5_seat_7 ⟨Nat.le_of_ble_eq_true rfl, Nat.le_of_ble_eq_true rfl⟩) hS (fun q _ h9 => aX_up hS q h9) (aX_up hS) (fun u t H1 locs ht _ hw hB _ hk1 hS => ?_)
  obtain ⟨fv_7, wd_8, ar_9⟩ := u
  obtain ⟨hF_fv_7, hA_ar_9, fr_10, fa_11, wf_12, -⟩ := hw
  have wf_12 : wd_8.2 = wd.2 := wf_12
  have hP : va_P (dC, dI) vwCl (wsX ob ad cA fv_7 wd_8 ar_9) H1 := by have h9 := hB.1; rw [ht] at h9; exact h9
  have fr_10 : fM [] fv_1 fv_7 := fr_10
  have fa_11 : fA [67, 68, 69, 70] ar ar_9 := fa_11
  generalize H1 = H at hP hS ⊢
  refine lv_aload_n hx hb dX5_seat_10 rfl (lv_at hl 0 rfl) ?_
  refine lv_iload_n hx hb dX5_seat_11 rfl (lv_at hl 3 rfl) ?_
  refine va_callv (va_runV (As := [.int mm]) (rest := []) ⟨hx, hb, hml, hown, hts⟩ (x_readyStops l dC dI H.size ob ad cA hd fv_7 wd_8 ar_9 hF_fv_7 hA_ar_9 mm) (cwV 1 hts (gV kw_6_17 kw_6_19 kw_p_50 kw_1_14 kw_6_20) rfl rfl rfl (by decide +kernel) ⟨Nat.le_of_ble_eq_true rfl, Nat.le_of_ble_eq_true rfl⟩) ⟨fun a U g mk q => ⟨q.1, q.2.1, q.2.2.1, va_K.moved (u := U) (U := U.calling g mk a) (Vm.Alike.refl U.vm) q.2.2.2⟩, va_recv hK hP (ci := 6) (q0 := 10) rfl rfl, fun U hU hW => ⟨rfl, by rw [hU], by rw [hU]; exact hP, va_K.moved hW.alike hK⟩⟩ rfl rfl hl.1 rfl (lv_room (Nat.le_of_ble_eq_true rfl)) dX5_seat_12 ⟨Nat.le_of_ble_eq_true rfl, Nat.le_of_ble_eq_true rfl⟩) hS (fun q _ h9 => aX_up hS q h9) (aX_up hS) (fun u t H1 locs ht _ hw hB _ hk1 hS => ?_)
  obtain ⟨fv_14, wd_15, ar_16⟩ := u
  obtain ⟨hF_fv_14, hA_ar_16, fr_17, fa_18, wf_19, -⟩ := hw
  have wf_19 : wd_15.2 = wd_8.2 := wf_19
  have hP : va_P (dC, dI) vwCl (wsX ob ad cA fv_14 wd_15 ar_16) H1 := by have h9 := hB.1; rw [ht] at h9; exact h9
  have fr_17 : fM [25, 27] fv_7 fv_14 := fr_17
  have fa_18 : fA [65, 66] ar_9 ar_16 := fa_18
  generalize H1 = H at hP hS ⊢
  refine lv_aload_n hx hb dX5_seat_15 rfl (lv_at hl 0 rfl) ?_
  refine lv_iconst (v := (-1)) hx hb dX5_seat_16 (by decide) ?_
  refine pX_X5_58 hx hb htg hown hK hP hS hd dX5_seat_17 (fun H locs fv_20 efv_20 hP hS => ?_)
  have hF_fv_20 : rX fv_20 := rX_put hF_fv_14 efv_20 (iv_any _)
  refine lv_aload_n hx hb dX5_seat_20 rfl (lv_at hl 0 rfl) ?_
  refine lv_iconst (v := 0) hx hb dX5_seat_21 (by decide) ?_
  refine lv_iconst (v := 0) hx hb dX5_seat_22 (by decide) ?_
  refine va_callv (va_runV (As := [.int 0, .int 0]) (rest := []) ⟨hx, hb, hml, hown, hts⟩ (x_put_0 l dC dI H.size ob ad cA hd fv_20 wd_15 ar_16 hF_fv_20 hA_ar_16 0 0 (⟨by decide, by decide⟩ : (0 : Int) ≤ (0 : Int32).toInt ∧ (0 : Int32).toInt ≤ 0)) (cwV 2 hts (gV kw_6_43 kw_6_45 kw_p_53 kw_1_14 kw_6_46) rfl rfl rfl (by decide +kernel) ⟨Nat.le_of_ble_eq_true rfl, Nat.le_of_ble_eq_true rfl⟩) ⟨fun a U g mk q => ⟨q.1, q.2.1, q.2.2.1, va_K.moved (u := U) (U := U.calling g mk a) (Vm.Alike.refl U.vm) q.2.2.2⟩, va_recv hK hP (ci := 6) (q0 := 10) rfl rfl, fun U hU hW => ⟨rfl, by rw [hU], by rw [hU]; exact hP, va_K.moved hW.alike hK⟩⟩ rfl rfl hl.1 rfl (lv_room (Nat.le_of_ble_eq_true rfl)) dX5_seat_23 ⟨Nat.le_of_ble_eq_true rfl, Nat.le_of_ble_eq_true rfl⟩) hS (fun q _ h9 => aX_up hS q h9) (aX_up hS) (fun u t H1 locs ht _ hw hB _ hk1 hS => ?_)
  obtain ⟨fv_22, wd_23, ar_24⟩ := u
  obtain ⟨hF_fv_22, hA_ar_24, fr_25, fa_26, wf_27, -⟩ := hw
  have wf_27 : wd_23.2 = wd_15.2 := wf_27
  have hP : va_P (dC, dI) vwCl (wsX ob ad cA fv_22 wd_23 ar_24) H1 := by have h9 := hB.1; rw [ht] at h9; exact h9
  have fr_25 : fM [28] fv_20 fv_22 := fr_25
  have fa_26 : fA [69, 71, 72] ar_16 ar_24 := fa_26
  generalize H1 = H at hP hS ⊢
  refine lv_aload_n hx hb dX5_seat_26 rfl (lv_at hl 0 rfl) ?_
  refine gX_X5_58 hx hb htg hown hK hP dX5_seat_27 ?_
  exact W.iret (v := fv_22 28) hx hb hr (fun t ht hW => ⟨⟨fv_22 28, (fv_22, wd_23, ar_24), rfl, ⟨hF_fv_22, hA_ar_24, (fM_call (fM_put (fM_call (fM_call (fM_put (fM_rf [25, 26, 27, 28] _) efv_1 (by decide)) fr_10 (by decide)) fr_17 (by decide)) efv_20 (by decide)) fr_25 (by decide)), (fA_call (fA_call (fA_call (fA_rf [65, 66, 67, 68, 69, 70, 71, 72] _) fa_11 (by decide)) fa_18 (by decide)) fa_26 (by decide)), (wf_27.trans (wf_19.trans wf_12)), trivial⟩, ⟨by rw [ht]; exact hP, va_K.moved hW.alike hK⟩⟩, hS.F ht⟩) hS.2.2 dX5_seat_30
set_option maxHeartbeats 4000000 in
set_option maxRecDepth 100000 in
theorem x_layOut (l : Launch) (dC : Nat → ClassId) (dI : Nat → Nat → Nat) (sz : Nat) (ob ad : Nat → Nat) (cA : Nat → ClassId) (hd : dX ob ad) (fv : Nat → Int32) (wd : xT) (ar : Nat → Nat → Int32) (hF_fv : rX fv) (hA_ar : rB ar) (a : Int32) : Met l yX9_layOut (.code yX9_layOut cX9_layOut 5 none :: lw_good) ({ frames := 5, cells := 0, slots := 0, locals := 107 }) (va_Pc [.ref (ob 9), .int a] (prX dC dI ob ad cA fv wd ar sz)) (va_Qv (fun (u : xS) => rX u.1 ∧ rB u.2.2 ∧ fM [24] fv u.1 ∧ fA [58, 59, 60, 61] ar u.2.2 ∧ u.2.1.2 = wd.2 ∧ True) (enX dC dI ob ad cA) (aX ob ad sz)) 0 0 (aX ob ad sz) := by
  refine Met.ofW (cc := cX9_layOut) (maxL := 5) (ret := none) (by decide) rfl ?_
  intro p e s m args below meth c s₁ B hml hv
  obtain ⟨rfl, hsz, hP, hK⟩ := hv
  have hx := B.exec
  have hb := B.bytes
  have hr := B.returns
  have hts := atoms_spec (ws := (.code yX9_layOut cX9_layOut 5 none :: lw_good)) B.pre
  have htg : ∀ w ∈ lw_good, w.before _ s = true := fun w hw => hts w (List.mem_cons_of_mem _ hw)
  have hown : s.vm.findClass RX9 = some m.cls := findClass_of_methodNamed B.named
  have hlocks := B.notSynchronized
  subst hsz
  have hS : va_S (aX ob ad s.heap.size) s.heap s.heap [] := va_S.rf
  have hl := lv_entry ([.ref (ob 9), .int a]) (n := 5) (Nat.le_of_ble_eq_true rfl)
  rw [lg_entry_eq]
  generalize (lg_sl ([.ref (ob 9), .int a]) ++ List.replicate (5 - (lg_sl ([.ref (ob 9), .int a])).length) Slot.unset).toArray = ls at hl ⊢
  have hl : lv_has ls 5 [(0, .ref (ob 9)), (1, .int a)] := hl
  refine lv_aload_n hx hb dX9_layOut_0 rfl (lv_at hl 0 rfl) ?_
  refine gX_X9_9 hx hb htg hown hK hP dX9_layOut_1 ?_
  refine lv_aload_n hx hb dX9_layOut_4 rfl (lv_at hl 0 rfl) ?_
  refine gX_X9_9 hx hb htg hown hK hP dX9_layOut_5 ?_
  refine gX_X9_41 hx hb htg hown hK hP dX9_layOut_8 ?_
  have i_1 : 0 ≤ (fv 7).toInt ∧ (fv 7).toInt ≤ 199 := hF_fv 7
  refine va_calli (va_runV (As := [.int (fv 7)]) (rest := []) ⟨hx, hb, hml, hown, hts⟩ (x_rainOn l dC dI s.heap.size ob ad cA hd fv wd ar hF_fv hA_ar (fv 7) i_1) (cwV 1 hts (gV kw_5_65 kw_3_231 kw_3_232 kw_1_2 kw_3_233) rfl rfl rfl (by decide +kernel) ⟨Nat.le_of_ble_eq_true rfl, Nat.le_of_ble_eq_true rfl⟩) ⟨fun a U g mk q => ⟨q.1, q.2.1, q.2.2.1, va_K.moved (u := U) (U := U.calling g mk a) (Vm.Alike.refl U.vm) q.2.2.2⟩, va_recv hK hP (ci := 7) (q0 := 1) rfl rfl, fun U hU hW => ⟨rfl, by rw [hU], by rw [hU]; exact hP, va_K.moved hW.alike hK⟩⟩ rfl rfl hl.1 rfl (lv_room (Nat.le_of_ble_eq_true rfl)) dX9_layOut_11 ⟨Nat.le_of_ble_eq_true rfl, Nat.le_of_ble_eq_true rfl⟩) hS (fun q _ h9 => aX_up hS q h9) (aX_up hS) (fun r_2 u t H1 locs ht _ hw hB _ hk1 hS => ?_)
  obtain ⟨fv_3, wd_4, ar_5⟩ := u
  obtain ⟨hF_fv_3, hA_ar_5, fr_6, fa_7, wf_8, -⟩ := hw
  have wf_8 : wd_4.2 = wd.2 := wf_8
  have hP : va_P (dC, dI) vwCl (wsX ob ad cA fv_3 wd_4 ar_5) H1 := by have h9 := hB.1; rw [ht] at h9; exact h9
  have fr_6 : fM [] fv fv_3 := fr_6
  have fa_7 : fA [] ar ar_5 := fa_7
  generalize H1 = H at hP hS ⊢
  refine lv_istore_n (lv' := [(2, .int r_2), (0, .ref (ob 9)), (1, .int a)]) hx hb dX9_layOut_14 rfl hl (by decide) rfl (fun ls hl => ?_)
  refine lv_aload_n hx hb dX9_layOut_15 rfl (lv_at hl 1 rfl) ?_
  refine lv_iconst (v := 0) hx hb dX9_layOut_16 (by decide) ?_
  refine pX_X9_51 hx hb htg hown hK hP hS hd dX9_layOut_17 (fun H locs fv_9 efv_9 hP hS => ?_)
  have hF_fv_9 : rX fv_9 := rX_put hF_fv_3 efv_9 (iv_w (⟨by decide, by decide⟩ : (0 : Int) ≤ (0 : Int32).toInt ∧ (0 : Int32).toInt ≤ 0) (by decide) (by decide))
  refine lv_iconst (v := 0) hx hb dX9_layOut_20 (by decide) ?_
  refine lv_istore_n (lv' := [(3, .int 0), (2, .int r_2), (0, .ref (ob 9)), (1, .int a)]) hx hb dX9_layOut_21 rfl hl (by decide) rfl (fun ls hl => ?_)
  refine my_cut (P := fun R9 a9 Q9 => ∀ (n_18 : Nat) (x_10 : Int32) (fv_11 : Nat → Int32) (ar_13 : Nat → Nat → Int32) (wd_15 : xT) (H : Heap) (locs : List Loc) (ls : Array Slot), 80 - x_10.toInt < (n_18 : Int) → (0 ≤ x_10.toInt ∧ x_10.toInt ≤ 80) → rX fv_11 → fM [24] fv_9 fv_11 → rB ar_13 → fA [58] ar_5 ar_13 → wd_15.2 = wd_4.2 → ((fv_11 24).toInt ≤ x_10.toInt) → va_P (dC, dI) vwCl (wsX ob ad cA fv_11 wd_15 ar_13) H → va_S (aX ob ad s.heap.size) s.heap H locs → lv_has ls 5 [(0, .ref (ob 9)), (1, .int a), (2, .int r_2), (3, .int x_10)] → W p l e R9 s m a9 below meth c H locs 0 0 Q9 (F0 m 22 ls [])) ?_ (fun hj_20 => ?_)
  · intro n_18
    induction n_18 with
    | zero => intro x_10 fv_11 ar_13 wd_15 H locs ls fu_19 i_x_10 hF_fv_11 fr_12 hA_ar_13 fa_14 wf_16 q_17; exfalso; omega
    | succ n_18 ih_18 =>
      intro x_10 fv_11 ar_13 wd_15 H locs ls fu_19 i_x_10 hF_fv_11 fr_12 hA_ar_13 fa_14 wf_16 q_17 hP hS hl
      refine lv_iload_n hx hb dX9_layOut_22 rfl (lv_at hl 3 rfl) ?_
      refine lv_aload_n hx hb dX9_layOut_23 rfl (lv_at hl 0 rfl) ?_
      refine gX_X9_9 hx hb htg hown hK hP dX9_layOut_24 ?_
      refine gX_X9_54 hx hb htg hown hK hP dX9_layOut_27 ?_
      refine gX_X9_58 hx hb htg hown hK hP dX9_layOut_30 ?_
      refine my_ti (y := fv 12) ((fr_12 12 rfl).trans ((congrFun efv_9 12).trans ((fr_6 12 rfl)))) ?_
      have i_21 : 0 ≤ (fv 12).toInt ∧ (fv 12).toInt ≤ 80 := hF_fv 12
      refine lv_icmp_ge (tgt := 109) hx hb dX9_layOut_33 (by decide) (fun c_22 => ?_) (fun c_22 => ?_)
      · skip
        have k_23 := Int32.le_iff_toInt_le.mp c_22
        refine lv_iconst (v := 0) hx hb dX9_layOut_109 (by decide) ?_
        refine lv_istore_n (lv' := [(3, .int 0), (0, .ref (ob 9)), (1, .int a), (2, .int r_2)]) hx hb dX9_layOut_110 rfl hl (by decide) rfl (fun ls hl => ?_)
        refine my_cut (P := fun R9 a9 Q9 => ∀ (n_100 : Nat) (x_93 : Int32) (fv_94 : Nat → Int32) (ar_96 : Nat → Nat → Int32) (wd_98 : xT) (H : Heap) (locs : List Loc) (ls : Array Slot), 80 - x_93.toInt < (n_100 : Int) → (0 ≤ x_93.toInt ∧ x_93.toInt ≤ 80) → rX fv_94 → fM [] fv_11 fv_94 → rB ar_96 → fA [59, 60, 61] ar_13 ar_96 → wd_98.2 = wd_15.2 → va_P (dC, dI) vwCl (wsX ob ad cA fv_94 wd_98 ar_96) H → va_S (aX ob ad s.heap.size) s.heap H locs → lv_has ls 5 [(0, .ref (ob 9)), (2, .int r_2), (3, .int x_93)] → W p l e R9 s m a9 below meth c H locs 0 0 Q9 (F0 m 111 ls [])) ?_ (fun hj_102 => ?_)
        · intro n_100
          induction n_100 with
          | zero => intro x_93 fv_94 ar_96 wd_98 H locs ls fu_101 i_x_93 hF_fv_94 fr_95 hA_ar_96 fa_97 wf_99; exfalso; omega
          | succ n_100 ih_100 =>
            intro x_93 fv_94 ar_96 wd_98 H locs ls fu_101 i_x_93 hF_fv_94 fr_95 hA_ar_96 fa_97 wf_99 hP hS hl
            refine lv_iload_n hx hb dX9_layOut_111 rfl (lv_at hl 2 rfl) ?_
            refine lv_aload_n hx hb dX9_layOut_112 rfl (lv_at hl 0 rfl) ?_
            refine gX_X9_51 hx hb htg hown hK hP dX9_layOut_113 ?_
            refine my_ti (y := fv_11 24) ((fr_95 24 rfl)) ?_
            have i_103 : 0 ≤ (fv_11 24).toInt ∧ (fv_11 24).toInt ≤ 80 := hF_fv_11 24
            refine lv_icmp_ge (tgt := 226) hx hb dX9_layOut_116 (by decide) (fun c_104 => ?_) (fun c_104 => ?_)
            · skip
              have k_105 := Int32.le_iff_toInt_le.mp c_104
              exact W.vret hx hb hr (fun t ht hW => ⟨⟨(fv_94, wd_98, ar_96), rfl, ⟨hF_fv_94, hA_ar_96, (fM_call (fM_call (fM_put (fM_call (fM_rf [24] _) fr_6 (by decide)) efv_9 (by decide)) fr_12 (by decide)) fr_95 (by decide)), (fA_call (fA_call (fA_call (fA_rf [58, 59, 60, 61] _) fa_7 (by decide)) fa_14 (by decide)) fa_97 (by decide)), (wf_99.trans (wf_16.trans wf_8)), trivial⟩, ⟨by rw [ht]; exact hP, va_K.moved hW.alike hK⟩⟩, hS.F ht⟩) hS.2.2 dX9_layOut_226
            · skip
              have i_106 : 0 ≤ x_93.toInt ∧ x_93.toInt ≤ 79 := iv_lt1 i_x_93 i_103 (Int32.not_le.mp c_104)
              have i_107 : 1 ≤ (fv_11 24).toInt ∧ (fv_11 24).toInt ≤ 80 := iv_lt2 i_x_93 i_103 (Int32.not_le.mp c_104)
              have k_108 := Int32.lt_iff_toInt_lt.mp (Int32.not_le.mp c_104)
              refine lv_aload_n hx hb dX9_layOut_119 rfl (lv_at hl 0 rfl) ?_
              refine gX_X9_21 hx hb htg hown hK hP dX9_layOut_120 ?_
              refine lv_iload_n hx hb dX9_layOut_123 rfl (lv_at hl 2 rfl) ?_
              refine lv_aload_n hx hb dX9_layOut_124 rfl (lv_at hl 0 rfl) ?_
              refine gX_X9_9 hx hb htg hown hK hP dX9_layOut_125 ?_
              refine gX_X9_54 hx hb htg hown hK hP dX9_layOut_128 ?_
              refine gX_X9_74 hx hb htg hown hK hP dX9_layOut_131 ?_
              refine lv_aload_n hx hb dX9_layOut_134 rfl (lv_at hl 0 rfl) ?_
              refine gX_X9_17 hx hb htg hown hK hP dX9_layOut_135 ?_
              refine lv_iload_n hx hb dX9_layOut_138 rfl (lv_at hl 2 rfl) ?_
              refine lX_58 hx hb hK hP (iv_in i_106 (by decide) (by decide)) dX9_layOut_139 (fun v_109 ev_109 => ?_)
              have i_110 : 0 ≤ v_109.toInt ∧ v_109.toInt ≤ 79 := ev_109 ▸ hA_ar_96 58 _
              refine lX_31 hx hb hK hP (iv_in i_110 (by decide) (by decide)) dX9_layOut_140 (fun v_111 ev_111 => ?_)
              refine lv_aload_n hx hb dX9_layOut_141 rfl (lv_at hl 0 rfl) ?_
              refine gX_X9_9 hx hb htg hown hK hP dX9_layOut_142 ?_
              refine lv_aload_n hx hb dX9_layOut_145 rfl (lv_at hl 0 rfl) ?_
              refine gX_X9_17 hx hb htg hown hK hP dX9_layOut_146 ?_
              refine lv_iload_n hx hb dX9_layOut_149 rfl (lv_at hl 2 rfl) ?_
              refine lX_58 hx hb hK hP (iv_in i_106 (by decide) (by decide)) dX9_layOut_150 (fun v_112 ev_112 => ?_)
              obtain rfl : v_109 = v_112 := ev_109.trans ev_112.symm
              refine lv_iload_n hx hb dX9_layOut_151 rfl (lv_at hl 1 rfl) ?_
              refine va_calli (va_runV (As := [.int v_109, .int r_2]) (rest := [.int v_111, .int x_93, .ref (ad 59)]) ⟨hx, hb, hml, hown, hts⟩ (x_driveMinutes l dC dI H.size ob ad cA hd fv_94 wd_98 ar_96 hF_fv_94 hA_ar_96 v_109 r_2 i_110) (cwV 2 hts (gV kw_5_104 kw_5_105 kw_5_106 kw_1_2 kw_5_107) rfl rfl rfl (by decide +kernel) ⟨Nat.le_of_ble_eq_true rfl, Nat.le_of_ble_eq_true rfl⟩) ⟨fun a U g mk q => ⟨q.1, q.2.1, q.2.2.1, va_K.moved (u := U) (U := U.calling g mk a) (Vm.Alike.refl U.vm) q.2.2.2⟩, va_recv hK hP (ci := 7) (q0 := 1) rfl rfl, fun U hU hW => ⟨rfl, by rw [hU], by rw [hU]; exact hP, va_K.moved hW.alike hK⟩⟩ rfl rfl hl.1 rfl (lv_room (Nat.le_of_ble_eq_true rfl)) dX9_layOut_152 ⟨Nat.le_of_ble_eq_true rfl, Nat.le_of_ble_eq_true rfl⟩) hS (fun q _ h9 => aX_up hS q h9) (aX_up hS) (fun r_113 u t H1 locs ht _ hw hB _ hk1 hS => ?_)
              obtain ⟨fv_114, wd_115, ar_116⟩ := u
              obtain ⟨hF_fv_114, hA_ar_116, fr_117, fa_118, wf_119, -⟩ := hw
              have wf_119 : wd_115.2 = wd_98.2 := wf_119
              have hP : va_P (dC, dI) vwCl (wsX ob ad cA fv_114 wd_115 ar_116) H1 := by have h9 := hB.1; rw [ht] at h9; exact h9
              have fr_117 : fM [] fv_94 fv_114 := fr_117
              have fa_118 : fA [] ar_96 ar_116 := fa_118
              generalize H1 = H at hP hS ⊢
              refine lv_iadd hx hb dX9_layOut_155 ?_
              refine lv_topi (fun v_120 ev_120 => ?_)
              refine sX_59 hx hb hK hP hS hd (iv_in i_106 (by decide) (by decide)) dX9_layOut_156 (fun H locs ar_121 ear_121 hP hS => ?_)
              have hA_ar_121 : rB ar_121 := rB_put hA_ar_116 ear_121 (iv_any _)
              refine lv_aload_n hx hb dX9_layOut_157 rfl (lv_at hl 0 rfl) ?_
              refine gX_X9_24 hx hb htg hown hK hP dX9_layOut_158 ?_
              refine lv_iload_n hx hb dX9_layOut_161 rfl (lv_at hl 2 rfl) ?_
              refine lv_aload_n hx hb dX9_layOut_162 rfl (lv_at hl 0 rfl) ?_
              refine lv_iload_n hx hb dX9_layOut_163 rfl (lv_at hl 2 rfl) ?_
              refine lv_aload_n hx hb dX9_layOut_164 rfl (lv_at hl 0 rfl) ?_
              refine gX_X9_9 hx hb htg hown hK hP dX9_layOut_165 ?_
              refine gX_X9_54 hx hb htg hown hK hP dX9_layOut_168 ?_
              refine gX_X9_81 hx hb htg hown hK hP dX9_layOut_171 ?_
              refine lv_aload_n hx hb dX9_layOut_174 rfl (lv_at hl 0 rfl) ?_
              refine gX_X9_17 hx hb htg hown hK hP dX9_layOut_175 ?_
              refine lv_iload_n hx hb dX9_layOut_178 rfl (lv_at hl 2 rfl) ?_
              refine lX_58 hx hb hK hP (iv_in i_106 (by decide) (by decide)) dX9_layOut_179 (fun v_122 ev_122 => ?_)
              obtain rfl : v_109 = v_122 := ev_109.trans ((congrFun ((fA_put (fA_call (fA_rf [59] _) fa_118 (by decide)) ear_121 (by decide)) 58 rfl) _).symm.trans ev_122.symm)
              refine lX_29 hx hb hK hP (iv_in i_110 (by decide) (by decide)) dX9_layOut_180 (fun v_123 ev_123 => ?_)
              have i_124 : 0 ≤ v_123.toInt ∧ v_123.toInt ≤ 7 := ev_123 ▸ hA_ar_121 29 _
              refine lv_iconst (v := 0) hx hb dX9_layOut_181 (by decide) ?_
              refine va_calli (va_runV (As := [.int x_93, .int v_123, .int 0]) (rest := [.int x_93, .ref (ad 60)]) ⟨hx, hb, hml, hown, hts⟩ (x_lastAhead l dC dI H.size ob ad cA hd fv_114 wd_115 ar_121 hF_fv_114 hA_ar_121 x_93 v_123 0 i_106) (cwV 3 hts (gV kw_5_114 kw_5_116 kw_p_27 kw_1_13 kw_5_117) rfl rfl rfl (by decide +kernel) ⟨Nat.le_of_ble_eq_true rfl, Nat.le_of_ble_eq_true rfl⟩) ⟨fun a U g mk q => ⟨q.1, q.2.1, q.2.2.1, va_K.moved (u := U) (U := U.calling g mk a) (Vm.Alike.refl U.vm) q.2.2.2⟩, va_recv hK hP (ci := 9) (q0 := 9) rfl rfl, fun U hU hW => ⟨rfl, by rw [hU], by rw [hU]; exact hP, va_K.moved hW.alike hK⟩⟩ rfl rfl hl.1 rfl (lv_room (Nat.le_of_ble_eq_true rfl)) dX9_layOut_182 ⟨Nat.le_of_ble_eq_true rfl, Nat.le_of_ble_eq_true rfl⟩) hS (fun q _ h9 => aX_up hS q h9) (aX_up hS) (fun r_125 u t H1 locs ht _ hw hB _ hk1 hS => ?_)
              obtain ⟨fv_127, wd_128, ar_129⟩ := u
              obtain ⟨hF_fv_127, hA_ar_129, fr_130, fa_131, wf_132, p_126, -⟩ := hw
              have wf_132 : wd_128.2 = wd_115.2 := wf_132
              have hP : va_P (dC, dI) vwCl (wsX ob ad cA fv_127 wd_128 ar_129) H1 := by have h9 := hB.1; rw [ht] at h9; exact h9
              have fr_130 : fM [] fv_114 fv_127 := fr_130
              have fa_131 : fA [] ar_121 ar_129 := fa_131
              generalize H1 = H at hP hS ⊢
              refine sX_60 hx hb hK hP hS hd (iv_in i_106 (by decide) (by decide)) dX9_layOut_185 (fun H locs ar_133 ear_133 hP hS => ?_)
              have hA_ar_133 : rB ar_133 := rB_put hA_ar_129 ear_133 p_126
              refine lv_aload_n hx hb dX9_layOut_186 rfl (lv_at hl 0 rfl) ?_
              refine gX_X9_27 hx hb htg hown hK hP dX9_layOut_187 ?_
              refine lv_iload_n hx hb dX9_layOut_190 rfl (lv_at hl 2 rfl) ?_
              refine lv_aload_n hx hb dX9_layOut_191 rfl (lv_at hl 0 rfl) ?_
              refine lv_iload_n hx hb dX9_layOut_192 rfl (lv_at hl 2 rfl) ?_
              refine lv_aload_n hx hb dX9_layOut_193 rfl (lv_at hl 0 rfl) ?_
              refine gX_X9_9 hx hb htg hown hK hP dX9_layOut_194 ?_
              refine gX_X9_54 hx hb htg hown hK hP dX9_layOut_197 ?_
              refine gX_X9_88 hx hb htg hown hK hP dX9_layOut_200 ?_
              refine lv_aload_n hx hb dX9_layOut_203 rfl (lv_at hl 0 rfl) ?_
              refine gX_X9_17 hx hb htg hown hK hP dX9_layOut_204 ?_
              refine lv_iload_n hx hb dX9_layOut_207 rfl (lv_at hl 2 rfl) ?_
              refine lX_58 hx hb hK hP (iv_in i_106 (by decide) (by decide)) dX9_layOut_208 (fun v_134 ev_134 => ?_)
              obtain rfl : v_109 = v_134 := ev_109.trans ((congrFun ((fA_put (fA_call (fA_put (fA_call (fA_rf [59, 60] _) fa_118 (by decide)) ear_121 (by decide)) fa_131 (by decide)) ear_133 (by decide)) 58 rfl) _).symm.trans ev_134.symm)
              refine lX_30 hx hb hK hP (iv_in i_110 (by decide) (by decide)) dX9_layOut_209 (fun v_135 ev_135 => ?_)
              have i_136 : 0 ≤ v_135.toInt ∧ v_135.toInt ≤ 7 := ev_135 ▸ hA_ar_133 30 _
              refine lv_aload_n hx hb dX9_layOut_210 rfl (lv_at hl 0 rfl) ?_
              refine gX_X9_21 hx hb htg hown hK hP dX9_layOut_211 ?_
              refine lv_iload_n hx hb dX9_layOut_214 rfl (lv_at hl 2 rfl) ?_
              refine lX_59 hx hb hK hP (iv_in i_106 (by decide) (by decide)) dX9_layOut_215 (fun v_137 ev_137 => ?_)
              refine va_calli (va_runV (As := [.int x_93, .int v_135, .int v_137]) (rest := [.int x_93, .ref (ad 61)]) ⟨hx, hb, hml, hown, hts⟩ (x_lastAhead l dC dI H.size ob ad cA hd fv_127 wd_128 ar_133 hF_fv_127 hA_ar_133 x_93 v_135 v_137 i_106) (cwV 3 hts (gV kw_5_114 kw_5_116 kw_p_27 kw_1_13 kw_5_117) rfl rfl rfl (by decide +kernel) ⟨Nat.le_of_ble_eq_true rfl, Nat.le_of_ble_eq_true rfl⟩) ⟨fun a U g mk q => ⟨q.1, q.2.1, q.2.2.1, va_K.moved (u := U) (U := U.calling g mk a) (Vm.Alike.refl U.vm) q.2.2.2⟩, va_recv hK hP (ci := 9) (q0 := 9) rfl rfl, fun U hU hW => ⟨rfl, by rw [hU], by rw [hU]; exact hP, va_K.moved hW.alike hK⟩⟩ rfl rfl hl.1 rfl (lv_room (Nat.le_of_ble_eq_true rfl)) dX9_layOut_216 ⟨Nat.le_of_ble_eq_true rfl, Nat.le_of_ble_eq_true rfl⟩) hS (fun q _ h9 => aX_up hS q h9) (aX_up hS) (fun r_138 u t H1 locs ht _ hw hB _ hk1 hS => ?_)
              obtain ⟨fv_140, wd_141, ar_142⟩ := u
              obtain ⟨hF_fv_140, hA_ar_142, fr_143, fa_144, wf_145, p_139, -⟩ := hw
              have wf_145 : wd_141.2 = wd_128.2 := wf_145
              have hP : va_P (dC, dI) vwCl (wsX ob ad cA fv_140 wd_141 ar_142) H1 := by have h9 := hB.1; rw [ht] at h9; exact h9
              have fr_143 : fM [] fv_127 fv_140 := fr_143
              have fa_144 : fA [] ar_133 ar_142 := fa_144
              generalize H1 = H at hP hS ⊢
              refine sX_61 hx hb hK hP hS hd (iv_in i_106 (by decide) (by decide)) dX9_layOut_219 (fun H locs ar_146 ear_146 hP hS => ?_)
              have hA_ar_146 : rB ar_146 := rB_put hA_ar_142 ear_146 p_139
              obtain ⟨v_147, ev_147⟩ : ∃ z : Int32, z = x_93 + 1 := ⟨_, rfl⟩
              refine lv_iinc (v := v_147) (lv' := [(3, .int v_147), (0, .ref (ob 9)), (2, .int r_2)]) hx hb dX9_layOut_220 hl (k := 2) rfl (by rw [ev_147]; rfl) (by decide) rfl (fun ls hl => ?_)
              have t_148 : v_147.toInt = x_93.toInt + 1 ∧ 1 ≤ v_147.toInt ∧ v_147.toInt ≤ 80 := iv_addc ev_147 i_106 (by decide) (by decide) (by decide)
              refine lv_goto (tgt := 111) hx hb dX9_layOut_223 (by decide) ?_
              exact ih_100 v_147 fv_140 ar_146 wd_141 _ _ ls (by omega) (iv_w t_148.2 (by decide) (by decide)) hF_fv_140 (fM_call (fM_call (fM_call (fM_call (fM_rf [] _) fr_95 (by decide)) fr_117 (by decide)) fr_130 (by decide)) fr_143 (by decide)) hA_ar_146 (fA_put (fA_call (fA_put (fA_call (fA_put (fA_call (fA_call (fA_rf [59, 60, 61] _) fa_97 (by decide)) fa_118 (by decide)) ear_121 (by decide)) fa_131 (by decide)) ear_133 (by decide)) fa_144 (by decide)) ear_146 (by decide)) (wf_145.trans (wf_132.trans (wf_119.trans wf_99))) hP hS (lv_sub hl [1, 2, 0] rfl)
        · skip
          have z_150 : (0 : Int32).toInt = 0 := by decide
          exact hj_102 81 0 fv_11 ar_13 wd_15 _ _ ls (by first | decide | omega) (iv_w (⟨by decide, by decide⟩ : (0 : Int) ≤ (0 : Int32).toInt ∧ (0 : Int32).toInt ≤ 0) (by decide) (by decide)) hF_fv_11 (fM_rf [] _) hA_ar_13 (fA_rf [59, 60, 61] _) rfl hP hS (lv_sub hl [1, 3, 0] rfl)
      · skip
        have i_24 : 0 ≤ x_10.toInt ∧ x_10.toInt ≤ 79 := iv_lt1 i_x_10 i_21 (Int32.not_le.mp c_22)
        have i_25 : 1 ≤ (fv 12).toInt ∧ (fv 12).toInt ≤ 80 := iv_lt2 i_x_10 i_21 (Int32.not_le.mp c_22)
        have k_26 := Int32.lt_iff_toInt_lt.mp (Int32.not_le.mp c_22)
        have z_27 : 0 ≤ (fv_11 24).toInt ∧ (fv_11 24).toInt ≤ 80 := hF_fv_11 24
        refine lv_aload_n hx hb dX9_layOut_36 rfl (lv_at hl 0 rfl) ?_
        refine gX_X9_9 hx hb htg hown hK hP dX9_layOut_37 ?_
        refine gX_X9_54 hx hb htg hown hK hP dX9_layOut_40 ?_
        refine lv_iload_n hx hb dX9_layOut_43 rfl (lv_at hl 3 rfl) ?_
        refine lv_aload_n hx hb dX9_layOut_44 rfl (lv_at hl 0 rfl) ?_
        refine gX_X9_9 hx hb htg hown hK hP dX9_layOut_45 ?_
        refine gX_X9_41 hx hb htg hown hK hP dX9_layOut_48 ?_
        refine my_ti (y := fv 7) ((fr_12 7 rfl).trans ((congrFun efv_9 7).trans ((fr_6 7 rfl)))) ?_
        refine va_calli (va_runV (As := [.int x_10, .int (fv 7)]) (rest := []) ⟨hx, hb, hml, hown, hts⟩ (x_runs l dC dI H.size ob ad cA hd fv_11 wd_15 ar_13 hF_fv_11 hA_ar_13 x_10 (fv 7) i_24) (cwV 2 hts (gV kw_5_93 kw_5_86 kw_5_87 kw_1_6 kw_5_88) rfl rfl rfl (by decide +kernel) ⟨Nat.le_of_ble_eq_true rfl, Nat.le_of_ble_eq_true rfl⟩) ⟨fun a U g mk q => ⟨q.1, q.2.1, q.2.2.1, va_K.moved (u := U) (U := U.calling g mk a) (Vm.Alike.refl U.vm) q.2.2.2⟩, va_recv hK hP (ci := 8) (q0 := 5) rfl rfl, fun U hU hW => ⟨rfl, by rw [hU], by rw [hU]; exact hP, va_K.moved hW.alike hK⟩⟩ rfl rfl hl.1 rfl (lv_room (Nat.le_of_ble_eq_true rfl)) dX9_layOut_51 ⟨Nat.le_of_ble_eq_true rfl, Nat.le_of_ble_eq_true rfl⟩) hS (fun q _ h9 => aX_up hS q h9) (aX_up hS) (fun r_28 u t H1 locs ht _ hw hB _ hk1 hS => ?_)
        obtain ⟨fv_30, wd_31, ar_32⟩ := u
        obtain ⟨hF_fv_30, hA_ar_32, fr_33, fa_34, wf_35, p_29, -⟩ := hw
        have wf_35 : wd_31.2 = wd_15.2 := wf_35
        have hP : va_P (dC, dI) vwCl (wsX ob ad cA fv_30 wd_31 ar_32) H1 := by have h9 := hB.1; rw [ht] at h9; exact h9
        have fr_33 : fM [] fv_11 fv_30 := fr_33
        have fa_34 : fA [] ar_13 ar_32 := fa_34
        generalize H1 = H at hP hS ⊢
        refine my_cut (P := fun R9 a9 Q9 => ∀ (x_46 : Int32) (H : Heap) (locs : List Loc) (ls : Array Slot), (0 ≤ x_46.toInt ∧ x_46.toInt ≤ 1) → va_P (dC, dI) vwCl (wsX ob ad cA fv_30 wd_31 ar_32) H → va_S (aX ob ad s.heap.size) s.heap H locs → lv_has ls 5 [(0, .ref (ob 9)), (1, .int a), (2, .int r_2), (3, .int x_10)] → W p l e R9 s m a9 below meth c H locs 0 0 Q9 (F0 m 78 ls [.int x_46])) ?_ (fun hj_47 => ?_)
        · intro x_46 H locs ls i_x_46 hP hS hl
          refine lv_istore (lv' := [(4, .int x_46), (0, .ref (ob 9)), (1, .int a), (2, .int r_2), (3, .int x_10)]) hx hb dX9_layOut_78 hl (by decide) rfl (fun ls hl => ?_)
          refine lv_iload hx hb dX9_layOut_80 (lv_at hl 0 rfl) ?_
          refine my_cut (P := fun R9 a9 Q9 => ∀ (fv_77 : Nat → Int32) (ar_79 : Nat → Nat → Int32) (wd_81 : xT) (H : Heap) (locs : List Loc) (ls : Array Slot), rX fv_77 → fM [24] fv_30 fv_77 → rB ar_79 → fA [58] ar_32 ar_79 → wd_81.2 = wd_31.2 → ((fv_77 24).toInt ≤ x_10.toInt + 1) → va_P (dC, dI) vwCl (wsX ob ad cA fv_77 wd_81 ar_79) H → va_S (aX ob ad s.heap.size) s.heap H locs → lv_has ls 5 [(0, .ref (ob 9)), (1, .int a), (2, .int r_2), (3, .int x_10)] → W p l e R9 s m a9 below meth c H locs 0 0 Q9 (F0 m 103 ls [])) ?_ (fun hj_84 => ?_)
          · intro fv_77 ar_79 wd_81 H locs ls hF_fv_77 fr_78 hA_ar_79 fa_80 wf_82 q_83 hP hS hl
            obtain ⟨v_85, ev_85⟩ : ∃ z : Int32, z = x_10 + 1 := ⟨_, rfl⟩
            refine lv_iinc (v := v_85) (lv' := [(3, .int v_85), (0, .ref (ob 9)), (1, .int a), (2, .int r_2)]) hx hb dX9_layOut_103 hl (k := 3) rfl (by rw [ev_85]; rfl) (by decide) rfl (fun ls hl => ?_)
            have t_86 : v_85.toInt = x_10.toInt + 1 ∧ 1 ≤ v_85.toInt ∧ v_85.toInt ≤ 80 := iv_addc ev_85 i_24 (by decide) (by decide) (by decide)
            refine lv_goto (tgt := 22) hx hb dX9_layOut_106 (by decide) ?_
            have z_151 : 0 ≤ (fv_77 24).toInt ∧ (fv_77 24).toInt ≤ 80 := hF_fv_77 24
            exact ih_18 v_85 fv_77 ar_79 wd_81 _ _ ls (by omega) (iv_w t_86.2 (by decide) (by decide)) hF_fv_77 (fM_call (fM_call (fM_call (fM_rf [24] _) fr_12 (by decide)) fr_33 (by decide)) fr_78 (by decide)) hA_ar_79 (fA_call (fA_call (fA_call (fA_rf [58] _) fa_14 (by decide)) fa_34 (by decide)) fa_80 (by decide)) (wf_82.trans (wf_35.trans wf_16)) (by omega) hP hS (lv_sub hl [1, 2, 3, 0] rfl)
          · skip
            refine lv_if_eq (tgt := 103) hx hb dX9_layOut_82 (by decide) (fun c_48 => ?_) (fun c_48 => ?_)
            · skip
              have i_49 : 0 ≤ x_46.toInt ∧ x_46.toInt ≤ 0 := iv_eq1 (⟨by decide, by decide⟩ : (0 : Int) ≤ (0 : Int32).toInt ∧ (0 : Int32).toInt ≤ 0) c_48
              have z_88 : (fv_30 24).toInt = (fv_11 24).toInt := congrArg Int32.toInt ((fr_33 24 rfl))
              have z_89 : 0 ≤ (fv_30 24).toInt ∧ (fv_30 24).toInt ≤ 80 := hF_fv_30 24
              exact hj_84 fv_30 ar_32 wd_31 _ _ ls hF_fv_30 (fM_rf [24] _) hA_ar_32 (fA_rf [58] _) rfl (by omega) hP hS (lv_sub hl [1, 2, 3, 4] rfl)
            · skip
              have i_51 : 1 ≤ x_46.toInt ∧ x_46.toInt ≤ 1 := iv_nel i_x_46 (by decide) c_48
              have k_52 : ¬ x_46.toInt = 0 := fun q => c_48 (Int32.toInt_inj.mp q)
              refine lv_aload_n hx hb dX9_layOut_85 rfl (lv_at hl 1 rfl) ?_
              refine gX_X9_9 hx hb htg hown hK hP dX9_layOut_86 ?_
              refine lv_iload_n hx hb dX9_layOut_89 rfl (lv_at hl 4 rfl) ?_
              refine va_calli (va_runV (As := [.int x_10]) (rest := []) ⟨hx, hb, hml, hown, hts⟩ (x_lengthOf l dC dI H.size ob ad cA hd fv_30 wd_31 ar_32 hF_fv_30 hA_ar_32 x_10 i_24) (cwV 1 hts (gV kw_5_94 kw_5_95 kw_5_96 kw_1_2 kw_5_97) rfl rfl rfl (by decide +kernel) ⟨Nat.le_of_ble_eq_true rfl, Nat.le_of_ble_eq_true rfl⟩) ⟨fun a U g mk q => ⟨q.1, q.2.1, q.2.2.1, va_K.moved (u := U) (U := U.calling g mk a) (Vm.Alike.refl U.vm) q.2.2.2⟩, va_recv hK hP (ci := 7) (q0 := 1) rfl rfl, fun U hU hW => ⟨rfl, by rw [hU], by rw [hU]; exact hP, va_K.moved hW.alike hK⟩⟩ rfl rfl hl.1 rfl (lv_room (Nat.le_of_ble_eq_true rfl)) dX9_layOut_90 ⟨Nat.le_of_ble_eq_true rfl, Nat.le_of_ble_eq_true rfl⟩) hS (fun q _ h9 => aX_up hS q h9) (aX_up hS) (fun r_53 u t H1 locs ht _ hw hB _ hk1 hS => ?_)
              obtain ⟨fv_54, wd_55, ar_56⟩ := u
              obtain ⟨hF_fv_54, hA_ar_56, fr_57, fa_58, wf_59, -⟩ := hw
              have wf_59 : wd_55.2 = wd_31.2 := wf_59
              have hP : va_P (dC, dI) vwCl (wsX ob ad cA fv_54 wd_55 ar_56) H1 := by have h9 := hB.1; rw [ht] at h9; exact h9
              have fr_57 : fM [] fv_30 fv_54 := fr_57
              have fa_58 : fA [] ar_32 ar_56 := fa_58
              generalize H1 = H at hP hS ⊢
              refine lv_ldc hx hb hown (htg (.constant RX9 69 10000000) kw_5_99) dX9_layOut_93 ?_
              refine lv_icmp_ge (tgt := 103) hx hb dX9_layOut_95 (by decide) (fun c_60 => ?_) (fun c_60 => ?_)
              · skip
                have i_61 : 10000000 ≤ r_53.toInt ∧ r_53.toInt ≤ 2147483647 := iv_le2 (⟨by decide, by decide⟩ : (10000000 : Int) ≤ (10000000 : Int32).toInt ∧ (10000000 : Int32).toInt ≤ 10000000) (iv_any r_53) c_60
                have z_90 : (fv_54 24).toInt = (fv_11 24).toInt := congrArg Int32.toInt ((fr_57 24 rfl).trans ((fr_33 24 rfl)))
                have z_91 : 0 ≤ (fv_54 24).toInt ∧ (fv_54 24).toInt ≤ 80 := hF_fv_54 24
                exact hj_84 fv_54 ar_56 wd_55 _ _ ls hF_fv_54 (fM_call (fM_rf [24] _) fr_57 (by decide)) hA_ar_56 (fA_call (fA_rf [58] _) fa_58 (by decide)) wf_59 (by omega) hP hS (lv_sub hl [1, 2, 3, 4] rfl)
              · skip
                have i_62 : (-2147483648) ≤ r_53.toInt ∧ r_53.toInt ≤ 9999999 := iv_lt1 (iv_any r_53) (⟨by decide, by decide⟩ : (10000000 : Int) ≤ (10000000 : Int32).toInt ∧ (10000000 : Int32).toInt ≤ 10000000) (Int32.not_le.mp c_60)
                have z_63 : (fv_54 24).toInt = (fv_11 24).toInt := congrArg Int32.toInt ((fr_57 24 rfl).trans ((fr_33 24 rfl)))
                have z_64 : 0 ≤ (fv_54 24).toInt ∧ (fv_54 24).toInt ≤ 80 := hF_fv_54 24
                refine lv_aload_n hx hb dX9_layOut_98 rfl (lv_at hl 1 rfl) ?_
                refine lv_iload_n hx hb dX9_layOut_99 rfl (lv_at hl 4 rfl) ?_
                have z_65 : (fv_54 24).toInt = (fv_11 24).toInt := congrArg Int32.toInt ((fr_57 24 rfl).trans ((fr_33 24 rfl)))
                have z_66 : 0 ≤ (fv_54 24).toInt ∧ (fv_54 24).toInt ≤ 80 := hF_fv_54 24
                have z_67 : (fv_54 24).toInt = (fv_11 24).toInt := congrArg Int32.toInt ((fr_57 24 rfl).trans ((fr_33 24 rfl)))
                have z_68 : 0 ≤ (fv_54 24).toInt ∧ (fv_54 24).toInt ≤ 80 := hF_fv_54 24
                refine va_callv (va_runV (As := [.int x_10]) (rest := []) ⟨hx, hb, hml, hown, hts⟩ (x_sortIn l dC dI H.size ob ad cA hd fv_54 wd_55 ar_56 hF_fv_54 hA_ar_56 x_10 i_24 (by omega)) (cwV 1 hts (gV kw_5_100 kw_5_102 kw_p_26 kw_1_13 kw_5_103) rfl rfl rfl (by decide +kernel) ⟨Nat.le_of_ble_eq_true rfl, Nat.le_of_ble_eq_true rfl⟩) ⟨fun a U g mk q => ⟨q.1, q.2.1, q.2.2.1, va_K.moved (u := U) (U := U.calling g mk a) (Vm.Alike.refl U.vm) q.2.2.2⟩, va_recv hK hP (ci := 9) (q0 := 9) rfl rfl, fun U hU hW => ⟨rfl, by rw [hU], by rw [hU]; exact hP, va_K.moved hW.alike hK⟩⟩ rfl rfl hl.1 rfl (lv_room (Nat.le_of_ble_eq_true rfl)) dX9_layOut_100 ⟨Nat.le_of_ble_eq_true rfl, Nat.le_of_ble_eq_true rfl⟩) hS (fun q _ h9 => aX_up hS q h9) (aX_up hS) (fun u t H1 locs ht _ hw hB _ hk1 hS => ?_)
                obtain ⟨fv_71, wd_72, ar_73⟩ := u
                obtain ⟨hF_fv_71, hA_ar_73, fr_74, fa_75, wf_76, p_70, -⟩ := hw
                have wf_76 : wd_72.2 = wd_55.2 := wf_76
                have hP : va_P (dC, dI) vwCl (wsX ob ad cA fv_71 wd_72 ar_73) H1 := by have h9 := hB.1; rw [ht] at h9; exact h9
                have fr_74 : fM [24] fv_54 fv_71 := fr_74
                have fa_75 : fA [58] ar_56 ar_73 := fa_75
                have p_70 : (fv_71 24).toInt = (fv_54 24).toInt + 1 := p_70
                generalize H1 = H at hP hS ⊢
                have z_92 : 0 ≤ (fv_71 24).toInt ∧ (fv_71 24).toInt ≤ 80 := hF_fv_71 24
                exact hj_84 fv_71 ar_73 wd_72 _ _ ls hF_fv_71 (fM_call (fM_call (fM_rf [24] _) fr_57 (by decide)) fr_74 (by decide)) hA_ar_73 (fA_call (fA_call (fA_rf [58] _) fa_58 (by decide)) fa_75 (by decide)) (wf_76.trans wf_59) (by omega) hP hS (lv_sub hl [1, 2, 3, 4] rfl)
        · skip
          refine lv_if_eq (tgt := 77) hx hb dX9_layOut_54 (by decide) (fun c_36 => ?_) (fun c_36 => ?_)
          · skip
            have i_37 : 0 ≤ r_28.toInt ∧ r_28.toInt ≤ 0 := iv_eq1 (⟨by decide, by decide⟩ : (0 : Int) ≤ (0 : Int32).toInt ∧ (0 : Int32).toInt ≤ 0) c_36
            refine lv_iconst (v := 0) hx hb dX9_layOut_77 (by decide) ?_
            exact hj_47 0 _ _ ls (iv_w (⟨by decide, by decide⟩ : (0 : Int) ≤ (0 : Int32).toInt ∧ (0 : Int32).toInt ≤ 0) (by decide) (by decide)) hP hS (lv_sub hl [0, 1, 2, 3] rfl)
          · skip
            have i_39 : 1 ≤ r_28.toInt ∧ r_28.toInt ≤ 1 := iv_nel p_29 (by decide) c_36
            have k_40 : ¬ r_28.toInt = 0 := fun q => c_36 (Int32.toInt_inj.mp q)
            refine lv_aload_n hx hb dX9_layOut_57 rfl (lv_at hl 0 rfl) ?_
            refine gX_X9_9 hx hb htg hown hK hP dX9_layOut_58 ?_
            refine gX_X9_54 hx hb htg hown hK hP dX9_layOut_61 ?_
            refine gX_X9_63 hx hb htg hown hK hP dX9_layOut_64 ?_
            refine lv_iload_n hx hb dX9_layOut_67 rfl (lv_at hl 3 rfl) ?_
            refine lX_28 hx hb hK hP (iv_in i_24 (by decide) (by decide)) dX9_layOut_68 (fun v_41 ev_41 => ?_)
            have i_42 : 0 ≤ v_41.toInt ∧ v_41.toInt ≤ 19 := ev_41 ▸ hA_ar_32 28 _
            refine lv_iload_n hx hb dX9_layOut_69 rfl (lv_at hl 1 rfl) ?_
            refine lv_icmp_eq (tgt := 77) hx hb dX9_layOut_70 (by decide) (fun c_43 => ?_) (fun c_43 => ?_)
            · skip
              have i_44 : 0 ≤ a.toInt ∧ a.toInt ≤ 19 := iv_eq1 i_42 c_43.symm
              have k_45 := congrArg Int32.toInt c_43
              refine lv_iconst (v := 0) hx hb dX9_layOut_77 (by decide) ?_
              exact hj_47 0 _ _ ls (iv_w (⟨by decide, by decide⟩ : (0 : Int) ≤ (0 : Int32).toInt ∧ (0 : Int32).toInt ≤ 0) (by decide) (by decide)) hP hS (lv_sub hl [0, 1, 2, 3] rfl)
            · skip
              refine lv_iconst (v := 1) hx hb dX9_layOut_73 (by decide) ?_
              refine lv_goto (tgt := 78) hx hb dX9_layOut_74 (by decide) ?_
              exact hj_47 1 _ _ ls (iv_w (⟨by decide, by decide⟩ : (1 : Int) ≤ (1 : Int32).toInt ∧ (1 : Int32).toInt ≤ 1) (by decide) (by decide)) hP hS (lv_sub hl [0, 1, 2, 3] rfl)
  · skip
    have z_152 : (0 : Int32).toInt = 0 := by decide
    have z_153 : (fv_9 24).toInt = (0 : Int32).toInt := congrArg Int32.toInt ((congrFun efv_9 24))
    have z_154 : (0 : Int32).toInt = 0 := by decide
    have z_155 : 0 ≤ (fv_9 24).toInt ∧ (fv_9 24).toInt ≤ 80 := hF_fv_9 24
    exact hj_20 81 0 fv_9 ar_5 wd_4 _ _ ls (by first | decide | omega) (iv_w (⟨by decide, by decide⟩ : (0 : Int) ≤ (0 : Int32).toInt ∧ (0 : Int32).toInt ≤ 0) (by decide) (by decide)) hF_fv_9 (fM_rf [24] _) hA_ar_5 (fA_rf [58] _) rfl (by omega) hP hS (lv_sub hl [2, 3, 1, 0] rfl)

theorem dX12_orderTrips_0 : decode cX12_orderTrips 0 = .ok (.aload_n 0, 1) := by decide +kernel
theorem dX12_orderTrips_1 : decode cX12_orderTrips 1 = .ok (.iconst 0, 1) := by decide +kernel
theorem dX12_orderTrips_2 : decode cX12_orderTrips 2 = .ok (.putfield 429, 3) := by decide +kernel
theorem dX12_orderTrips_5 : decode cX12_orderTrips 5 = .ok (.sipush 719, 3) := by decide +kernel
theorem dX12_orderTrips_8 : decode cX12_orderTrips 8 = .ok (.istore_n 1, 1) := by decide +kernel
theorem dX12_orderTrips_9 : decode cX12_orderTrips 9 = .ok (.iload_n 1, 1) := by decide +kernel
theorem dX12_orderTrips_10 : decode cX12_orderTrips 10 = .ok (.ifCond .lt 66, 3) := by decide +kernel
theorem dX12_orderTrips_13 : decode cX12_orderTrips 13 = .ok (.iconst 0, 1) := by decide +kernel
theorem dX12_orderTrips_14 : decode cX12_orderTrips 14 = .ok (.istore_n 2, 1) := by decide +kernel
theorem dX12_orderTrips_15 : decode cX12_orderTrips 15 = .ok (.iload_n 2, 1) := by decide +kernel
theorem dX12_orderTrips_16 : decode cX12_orderTrips 16 = .ok (.aload_n 0, 1) := by decide +kernel
theorem dX12_orderTrips_17 : decode cX12_orderTrips 17 = .ok (.getfield 269, 3) := by decide +kernel
theorem dX12_orderTrips_20 : decode cX12_orderTrips 20 = .ok (.if_icmp .ge 50, 3) := by decide +kernel
theorem dX12_orderTrips_23 : decode cX12_orderTrips 23 = .ok (.aload_n 0, 1) := by decide +kernel
theorem dX12_orderTrips_24 : decode cX12_orderTrips 24 = .ok (.getfield 76, 3) := by decide +kernel
theorem dX12_orderTrips_27 : decode cX12_orderTrips 27 = .ok (.iload_n 2, 1) := by decide +kernel
theorem dX12_orderTrips_28 : decode cX12_orderTrips 28 = .ok (.iaload, 1) := by decide +kernel
theorem dX12_orderTrips_29 : decode cX12_orderTrips 29 = .ok (.iload_n 1, 1) := by decide +kernel
theorem dX12_orderTrips_30 : decode cX12_orderTrips 30 = .ok (.if_icmp .ne 34, 3) := by decide +kernel
theorem dX12_orderTrips_33 : decode cX12_orderTrips 33 = .ok (.aload_n 0, 1) := by decide +kernel
theorem dX12_orderTrips_34 : decode cX12_orderTrips 34 = .ok (.iload_n 2, 1) := by decide +kernel
theorem dX12_orderTrips_35 : decode cX12_orderTrips 35 = .ok (.invokevirtual 426, 3) := by decide +kernel
theorem dX12_orderTrips_38 : decode cX12_orderTrips 38 = .ok (.ifCond .ne 6, 3) := by decide +kernel
theorem dX12_orderTrips_41 : decode cX12_orderTrips 41 = .ok (.goto 23, 3) := by decide +kernel
theorem dX12_orderTrips_44 : decode cX12_orderTrips 44 = .ok (.aload_n 0, 1) := by decide +kernel
theorem dX12_orderTrips_45 : decode cX12_orderTrips 45 = .ok (.getfield 180, 3) := by decide +kernel
theorem dX12_orderTrips_48 : decode cX12_orderTrips 48 = .ok (.aload_n 0, 1) := by decide +kernel
theorem dX12_orderTrips_49 : decode cX12_orderTrips 49 = .ok (.getfield 429, 3) := by decide +kernel
theorem dX12_orderTrips_52 : decode cX12_orderTrips 52 = .ok (.iload_n 2, 1) := by decide +kernel
theorem dX12_orderTrips_53 : decode cX12_orderTrips 53 = .ok (.iastore, 1) := by decide +kernel
theorem dX12_orderTrips_54 : decode cX12_orderTrips 54 = .ok (.aload_n 0, 1) := by decide +kernel
theorem dX12_orderTrips_55 : decode cX12_orderTrips 55 = .ok (.dup, 1) := by decide +kernel
theorem dX12_orderTrips_56 : decode cX12_orderTrips 56 = .ok (.getfield 429, 3) := by decide +kernel
theorem dX12_orderTrips_59 : decode cX12_orderTrips 59 = .ok (.iconst 1, 1) := by decide +kernel
theorem dX12_orderTrips_60 : decode cX12_orderTrips 60 = .ok (.iadd, 1) := by decide +kernel
theorem dX12_orderTrips_61 : decode cX12_orderTrips 61 = .ok (.putfield 429, 3) := by decide +kernel
theorem dX12_orderTrips_64 : decode cX12_orderTrips 64 = .ok (.iinc 2 1, 3) := by decide +kernel
theorem dX12_orderTrips_67 : decode cX12_orderTrips 67 = .ok (.goto (-52), 3) := by decide +kernel
theorem dX12_orderTrips_70 : decode cX12_orderTrips 70 = .ok (.iinc 1 (-1), 3) := by decide +kernel
theorem dX12_orderTrips_73 : decode cX12_orderTrips 73 = .ok (.goto (-64), 3) := by decide +kernel
theorem dX12_orderTrips_76 : decode cX12_orderTrips 76 = .ok (.return_, 1) := by decide +kernel

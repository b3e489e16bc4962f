theorem dX11_end_0 : decode cX11_end 0 = .ok (.iload_n 1, 1) := by decide +kernel
theorem dX11_end_1 : decode cX11_end 1 = .ok (.ifCond .lt 11, 3) := by decide +kernel
theorem dX11_end_4 : decode cX11_end 4 = .ok (.iload_n 1, 1) := by decide +kernel
theorem dX11_end_5 : decode cX11_end 5 = .ok (.aload_n 0, 1) := by decide +kernel
theorem dX11_end_6 : decode cX11_end 6 = .ok (.getfield 50, 3) := by decide +kernel
theorem dX11_end_9 : decode cX11_end 9 = .ok (.if_icmp .le 5, 3) := by decide +kernel
theorem dX11_end_12 : decode cX11_end 12 = .ok (.iconst 0, 1) := by decide +kernel
theorem dX11_end_13 : decode cX11_end 13 = .ok (.ireturn, 1) := by decide +kernel
theorem dX11_end_14 : decode cX11_end 14 = .ok (.aload_n 0, 1) := by decide +kernel
theorem dX11_end_15 : decode cX11_end 15 = .ok (.iload_n 1, 1) := by decide +kernel
theorem dX11_end_16 : decode cX11_end 16 = .ok (.putfield 50, 3) := by decide +kernel
theorem dX11_end_19 : decode cX11_end 19 = .ok (.iconst 1, 1) := by decide +kernel
theorem dX11_end_20 : decode cX11_end 20 = .ok (.ireturn, 1) := by decide +kernel
theorem dX11_fault_0 : decode cX11_fault 0 = .ok (.aload_n 0, 1) := by decide +kernel
theorem dX11_fault_1 : decode cX11_fault 1 = .ok (.getfield 171, 3) := by decide +kernel
theorem dX11_fault_4 : decode cX11_fault 4 = .ok (.ireturn, 1) := by decide +kernel
theorem dX11_insure_0 : decode cX11_insure 0 = .ok (.aload_n 0, 1) := by decide +kernel
theorem dX11_insure_1 : decode cX11_insure 1 = .ok (.getfield 16, 3) := by decide +kernel
theorem dX11_insure_4 : decode cX11_insure 4 = .ok (.getfield 101, 3) := by decide +kernel
theorem dX11_insure_7 : decode cX11_insure 7 = .ok (.iload_n 1, 1) := by decide +kernel
theorem dX11_insure_8 : decode cX11_insure 8 = .ok (.invokevirtual 110, 3) := by decide +kernel
theorem dX11_insure_11 : decode cX11_insure 11 = .ok (.ifCond .eq 10, 3) := by decide +kernel
theorem dX11_insure_21 : decode cX11_insure 21 = .ok (.iconst 0, 1) := by decide +kernel
theorem dX11_insure_22 : decode cX11_insure 22 = .ok (.ireturn, 1) := by decide +kernel
theorem dX11_person_0 : decode cX11_person 0 = .ok (.iconst (-1), 1) := by decide +kernel
theorem dX11_person_1 : decode cX11_person 1 = .ok (.istore 4, 2) := by decide +kernel
theorem dX11_person_3 : decode cX11_person 3 = .ok (.aload_n 0, 1) := by decide +kernel
theorem dX11_person_4 : decode cX11_person 4 = .ok (.getfield 50, 3) := by decide +kernel
theorem dX11_person_7 : decode cX11_person 7 = .ok (.bipush 12, 2) := by decide +kernel
theorem dX11_person_9 : decode cX11_person 9 = .ok (.if_icmp .ne 36, 3) := by decide +kernel
theorem dX11_person_45 : decode cX11_person 45 = .ok (.aload_n 0, 1) := by decide +kernel
theorem dX11_person_46 : decode cX11_person 46 = .ok (.iconst 0, 1) := by decide +kernel
theorem dX11_person_47 : decode cX11_person 47 = .ok (.putfield 50, 3) := by decide +kernel
theorem dX11_person_50 : decode cX11_person 50 = .ok (.iload 4, 2) := by decide +kernel
theorem dX11_person_52 : decode cX11_person 52 = .ok (.ireturn, 1) := by decide +kernel
theorem dX11_rain_0 : decode cX11_rain 0 = .ok (.aload_n 0, 1) := by decide +kernel
theorem dX11_rain_1 : decode cX11_rain 1 = .ok (.invokevirtual 131, 3) := by decide +kernel
theorem dX11_rain_4 : decode cX11_rain 4 = .ok (.istore_n 1, 1) := by decide +kernel
theorem dX11_rain_5 : decode cX11_rain 5 = .ok (.iload_n 1, 1) := by decide +kernel
theorem dX11_rain_6 : decode cX11_rain 6 = .ok (.ifCond .eq 81, 3) := by decide +kernel
theorem dX11_rain_87 : decode cX11_rain 87 = .ok (.aload_n 0, 1) := by decide +kernel
theorem dX11_rain_88 : decode cX11_rain 88 = .ok (.iconst 0, 1) := by decide +kernel
theorem dX11_rain_89 : decode cX11_rain 89 = .ok (.putfield 50, 3) := by decide +kernel
theorem dX11_rain_92 : decode cX11_rain 92 = .ok (.iload_n 1, 1) := by decide +kernel
theorem dX11_rain_93 : decode cX11_rain 93 = .ok (.ireturn, 1) := by decide +kernel
theorem dX11_rode_0 : decode cX11_rode 0 = .ok (.aload_n 0, 1) := by decide +kernel
theorem dX11_rode_1 : decode cX11_rode 1 = .ok (.getfield 16, 3) := by decide +kernel
theorem dX11_rode_4 : decode cX11_rode 4 = .ok (.getfield 116, 3) := by decide +kernel
theorem dX11_rode_7 : decode cX11_rode 7 = .ok (.iload_n 1, 1) := by decide +kernel
theorem dX11_rode_8 : decode cX11_rode 8 = .ok (.invokevirtual 186, 3) := by decide +kernel
theorem dX11_rode_11 : decode cX11_rode 11 = .ok (.ifCond .eq 18, 3) := by decide +kernel
theorem dX11_rode_29 : decode cX11_rode 29 = .ok (.iconst (-1), 1) := by decide +kernel
theorem dX11_rode_30 : decode cX11_rode 30 = .ok (.ireturn, 1) := by decide +kernel
theorem dX11_seated_0 : decode cX11_seated 0 = .ok (.iconst (-1), 1) := by decide +kernel
theorem dX11_seated_1 : decode cX11_seated 1 = .ok (.istore_n 2, 1) := by decide +kernel
theorem dX11_seated_2 : decode cX11_seated 2 = .ok (.iload_n 1, 1) := by decide +kernel
theorem dX11_seated_3 : decode cX11_seated 3 = .ok (.ifCond .lt 44, 3) := by decide +kernel
theorem dX11_seated_6 : decode cX11_seated 6 = .ok (.iload_n 1, 1) := by decide +kernel
theorem dX11_seated_7 : decode cX11_seated 7 = .ok (.sipush 200, 3) := by decide +kernel
theorem dX11_seated_10 : decode cX11_seated 10 = .ok (.if_icmp .gt 37, 3) := by decide +kernel
theorem dX11_seated_13 : decode cX11_seated 13 = .ok (.aload_n 0, 1) := by decide +kernel
theorem dX11_seated_14 : decode cX11_seated 14 = .ok (.getfield 16, 3) := by decide +kernel
theorem dX11_seated_17 : decode cX11_seated 17 = .ok (.getfield 89, 3) := by decide +kernel
theorem dX11_seated_20 : decode cX11_seated 20 = .ok (.ifCond .le 27, 3) := by decide +kernel
theorem dX11_seated_47 : decode cX11_seated 47 = .ok (.aload_n 0, 1) := by decide +kernel
theorem dX11_seated_48 : decode cX11_seated 48 = .ok (.iconst 0, 1) := by decide +kernel
theorem dX11_seated_49 : decode cX11_seated 49 = .ok (.putfield 50, 3) := by decide +kernel
theorem dX11_seated_52 : decode cX11_seated 52 = .ok (.iload_n 2, 1) := by decide +kernel
theorem dX11_seated_53 : decode cX11_seated 53 = .ok (.ireturn, 1) := by decide +kernel
theorem dX11_seatedAt_0 : decode cX11_seatedAt 0 = .ok (.iload_n 1, 1) := by decide +kernel
theorem dX11_seatedAt_1 : decode cX11_seatedAt 1 = .ok (.ifCond .lt 14, 3) := by decide +kernel
theorem dX11_seatedAt_4 : decode cX11_seatedAt 4 = .ok (.iload_n 1, 1) := by decide +kernel
theorem dX11_seatedAt_5 : decode cX11_seatedAt 5 = .ok (.aload_n 0, 1) := by decide +kernel
theorem dX11_seatedAt_6 : decode cX11_seatedAt 6 = .ok (.getfield 39, 3) := by decide +kernel
theorem dX11_seatedAt_9 : decode cX11_seatedAt 9 = .ok (.getfield 231, 3) := by decide +kernel
theorem dX11_seatedAt_12 : decode cX11_seatedAt 12 = .ok (.if_icmp .lt 7, 3) := by decide +kernel
theorem dX11_seatedAt_15 : decode cX11_seatedAt 15 = .ok (.iconst (-1), 1) := by decide +kernel
theorem dX11_seatedAt_16 : decode cX11_seatedAt 16 = .ok (.goto 12, 3) := by decide +kernel
theorem dX11_seatedAt_28 : decode cX11_seatedAt 28 = .ok (.ireturn, 1) := by decide +kernel
theorem dX11_stop_0 : decode cX11_stop 0 = .ok (.aload_n 0, 1) := by decide +kernel
theorem dX11_stop_1 : decode cX11_stop 1 = .ok (.getfield 16, 3) := by decide +kernel
theorem dX11_stop_4 : decode cX11_stop 4 = .ok (.getfield 89, 3) := by decide +kernel
theorem dX11_stop_7 : decode cX11_stop 7 = .ok (.bipush 8, 2) := by decide +kernel
theorem dX11_stop_9 : decode cX11_stop 9 = .ok (.if_icmp .ge 10, 3) := by decide +kernel
theorem dX11_stop_12 : decode cX11_stop 12 = .ok (.iload_n 1, 1) := by decide +kernel
theorem dX11_stop_13 : decode cX11_stop 13 = .ok (.invokestatic 70, 3) := by decide +kernel
theorem dX11_stop_16 : decode cX11_stop 16 = .ok (.ifCond .ne 5, 3) := by decide +kernel
theorem dX11_stop_19 : decode cX11_stop 19 = .ok (.iconst (-1), 1) := by decide +kernel
theorem dX11_stop_20 : decode cX11_stop 20 = .ok (.ireturn, 1) := by decide +kernel
theorem dX11_stop_21 : decode cX11_stop 21 = .ok (.aload_n 0, 1) := by decide +kernel
theorem dX11_stop_22 : decode cX11_stop 22 = .ok (.getfield 16, 3) := by decide +kernel
theorem dX11_stop_25 : decode cX11_stop 25 = .ok (.getfield 92, 3) := by decide +kernel
theorem dX11_stop_28 : decode cX11_stop 28 = .ok (.aload_n 0, 1) := by decide +kernel
theorem dX11_stop_29 : decode cX11_stop 29 = .ok (.getfield 16, 3) := by decide +kernel
theorem dX11_stop_32 : decode cX11_stop 32 = .ok (.getfield 89, 3) := by decide +kernel
theorem dX11_stop_35 : decode cX11_stop 35 = .ok (.iload_n 1, 1) := by decide +kernel
theorem dX11_stop_36 : decode cX11_stop 36 = .ok (.iastore, 1) := by decide +kernel
theorem dX11_stop_37 : decode cX11_stop 37 = .ok (.aload_n 0, 1) := by decide +kernel
theorem dX11_stop_38 : decode cX11_stop 38 = .ok (.getfield 16, 3) := by decide +kernel
theorem dX11_stop_41 : decode cX11_stop 41 = .ok (.dup, 1) := by decide +kernel
theorem dX11_stop_42 : decode cX11_stop 42 = .ok (.getfield 89, 3) := by decide +kernel
theorem dX11_stop_45 : decode cX11_stop 45 = .ok (.iconst 1, 1) := by decide +kernel
theorem dX11_stop_46 : decode cX11_stop 46 = .ok (.iadd, 1) := by decide +kernel
theorem dX11_stop_47 : decode cX11_stop 47 = .ok (.putfield 89, 3) := by decide +kernel
theorem dX11_stop_50 : decode cX11_stop 50 = .ok (.aload_n 0, 1) := by decide +kernel
theorem dX11_stop_51 : decode cX11_stop 51 = .ok (.getfield 16, 3) := by decide +kernel
theorem dX11_stop_54 : decode cX11_stop 54 = .ok (.getfield 89, 3) := by decide +kernel
theorem dX11_stop_57 : decode cX11_stop 57 = .ok (.iconst 1, 1) := by decide +kernel
theorem dX11_stop_58 : decode cX11_stop 58 = .ok (.isub, 1) := by decide +kernel
theorem dX11_stop_59 : decode cX11_stop 59 = .ok (.ireturn, 1) := by decide +kernel
theorem dX11_tapeIsRain_0 : decode cX11_tapeIsRain 0 = .ok (.aload_n 0, 1) := by decide +kernel
theorem dX11_tapeIsRain_1 : decode cX11_tapeIsRain 1 = .ok (.getfield 50, 3) := by decide +kernel
theorem dX11_tapeIsRain_4 : decode cX11_tapeIsRain 4 = .ok (.iconst 1, 1) := by decide +kernel
theorem dX11_tapeIsRain_5 : decode cX11_tapeIsRain 5 = .ok (.if_icmp .lt 13, 3) := by decide +kernel
theorem dX11_tapeIsRain_18 : decode cX11_tapeIsRain 18 = .ok (.iconst 0, 1) := by decide +kernel
theorem dX11_tapeIsRain_19 : decode cX11_tapeIsRain 19 = .ok (.ireturn, 1) := by decide +kernel
theorem dX11_told_0 : decode cX11_told 0 = .ok (.aload_n 0, 1) := by decide +kernel
theorem dX11_told_1 : decode cX11_told 1 = .ok (.iconst (-1), 1) := by decide +kernel
theorem dX11_told_2 : decode cX11_told 2 = .ok (.putfield 43, 3) := by decide +kernel
theorem dX11_told_5 : decode cX11_told 5 = .ok (.aload_n 0, 1) := by decide +kernel
theorem dX11_told_6 : decode cX11_told 6 = .ok (.getfield 16, 3) := by decide +kernel
theorem dX11_told_9 : decode cX11_told 9 = .ok (.getfield 116, 3) := by decide +kernel
theorem dX11_told_12 : decode cX11_told 12 = .ok (.iload_n 1, 1) := by decide +kernel
theorem dX11_told_13 : decode cX11_told 13 = .ok (.invokevirtual 186, 3) := by decide +kernel
theorem dX11_told_16 : decode cX11_told 16 = .ok (.ifCond .eq 21, 3) := by decide +kernel
theorem dX11_told_37 : decode cX11_told 37 = .ok (.iconst (-1), 1) := by decide +kernel
theorem dX11_told_38 : decode cX11_told 38 = .ok (.ireturn, 1) := by decide +kernel
theorem dX11_tried_0 : decode cX11_tried 0 = .ok (.aload_n 0, 1) := by decide +kernel
theorem dX11_tried_1 : decode cX11_tried 1 = .ok (.getfield 16, 3) := by decide +kernel
theorem dX11_tried_4 : decode cX11_tried 4 = .ok (.getfield 101, 3) := by decide +kernel
theorem dX11_tried_7 : decode cX11_tried 7 = .ok (.iload_n 1, 1) := by decide +kernel
theorem dX11_tried_8 : decode cX11_tried 8 = .ok (.invokevirtual 110, 3) := by decide +kernel
theorem dX11_tried_11 : decode cX11_tried 11 = .ok (.ifCond .eq 17, 3) := by decide +kernel
theorem dX11_tried_28 : decode cX11_tried 28 = .ok (.iconst (-1), 1) := by decide +kernel
theorem dX11_tried_29 : decode cX11_tried 29 = .ok (.ireturn, 1) := by decide +kernel
theorem dX11_trip_0 : decode cX11_trip 0 = .ok (.aload_n 0, 1) := by decide +kernel
theorem dX11_trip_1 : decode cX11_trip 1 = .ok (.getfield 16, 3) := by decide +kernel
theorem dX11_trip_4 : decode cX11_trip 4 = .ok (.getfield 101, 3) := by decide +kernel
theorem dX11_trip_7 : decode cX11_trip 7 = .ok (.iload_n 1, 1) := by decide +kernel
theorem dX11_trip_8 : decode cX11_trip 8 = .ok (.invokevirtual 110, 3) := by decide +kernel
theorem dX11_trip_11 : decode cX11_trip 11 = .ok (.ifCond .eq 30, 3) := by decide +kernel
theorem dX11_trip_41 : decode cX11_trip 41 = .ok (.iconst (-1), 1) := by decide +kernel
theorem dX11_trip_42 : decode cX11_trip 42 = .ok (.ireturn, 1) := by decide +kernel
theorem dX11_wet_0 : decode cX11_wet 0 = .ok (.iload_n 1, 1) := by decide +kernel
theorem dX11_wet_1 : decode cX11_wet 1 = .ok (.ifCond .lt 10, 3) := by decide +kernel
theorem dX11_wet_4 : decode cX11_wet 4 = .ok (.iload_n 1, 1) := by decide +kernel
theorem dX11_wet_5 : decode cX11_wet 5 = .ok (.sipush 199, 3) := by decide +kernel
theorem dX11_wet_8 : decode cX11_wet 8 = .ok (.if_icmp .le 7, 3) := by decide +kernel
theorem dX11_wet_11 : decode cX11_wet 11 = .ok (.iconst (-1), 1) := by decide +kernel
theorem dX11_wet_12 : decode cX11_wet 12 = .ok (.goto 11, 3) := by decide +kernel
theorem dX11_wet_15 : decode cX11_wet 15 = .ok (.aload_n 0, 1) := by decide +kernel
theorem dX11_wet_16 : decode cX11_wet 16 = .ok (.getfield 16, 3) := by decide +kernel
theorem dX11_wet_19 : decode cX11_wet 19 = .ok (.iload_n 1, 1) := by decide +kernel
theorem dX11_wet_20 : decode cX11_wet 20 = .ok (.invokevirtual 140, 3) := by decide +kernel
theorem dX11_wet_23 : decode cX11_wet 23 = .ok (.ireturn, 1) := by decide +kernel
theorem dX11_wheel_0 : decode cX11_wheel 0 = .ok (.aload_n 0, 1) := by decide +kernel
theorem dX11_wheel_1 : decode cX11_wheel 1 = .ok (.getfield 16, 3) := by decide +kernel
theorem dX11_wheel_4 : decode cX11_wheel 4 = .ok (.iload_n 2, 1) := by decide +kernel
theorem dX11_wheel_5 : decode cX11_wheel 5 = .ok (.invokevirtual 95, 3) := by decide +kernel
theorem dX11_wheel_8 : decode cX11_wheel 8 = .ok (.ifCond .eq 11, 3) := by decide +kernel
theorem dX11_wheel_19 : decode cX11_wheel 19 = .ok (.iconst (-1), 1) := by decide +kernel
theorem dX11_wheel_20 : decode cX11_wheel 20 = .ok (.ireturn, 1) := by decide +kernel
theorem dX11_wheeled_0 : decode cX11_wheeled 0 = .ok (.aload_n 0, 1) := by decide +kernel
theorem dX11_wheeled_1 : decode cX11_wheeled 1 = .ok (.getfield 16, 3) := by decide +kernel
theorem dX11_wheeled_4 : decode cX11_wheeled 4 = .ok (.getfield 101, 3) := by decide +kernel
theorem dX11_wheeled_7 : decode cX11_wheeled 7 = .ok (.iload_n 1, 1) := by decide +kernel
theorem dX11_wheeled_8 : decode cX11_wheeled 8 = .ok (.invokevirtual 110, 3) := by decide +kernel
theorem dX11_wheeled_11 : decode cX11_wheeled 11 = .ok (.ifCond .eq 18, 3) := by decide +kernel
theorem dX11_wheeled_29 : decode cX11_wheeled 29 = .ok (.iconst (-1), 1) := by decide +kernel
theorem dX11_wheeled_30 : decode cX11_wheeled 30 = .ok (.ireturn, 1) := by decide +kernel
theorem dX11_why_0 : decode cX11_why 0 = .ok (.aload_n 0, 1) := by decide +kernel
theorem dX11_why_1 : decode cX11_why 1 = .ok (.getfield 43, 3) := by decide +kernel
theorem dX11_why_4 : decode cX11_why 4 = .ok (.ireturn, 1) := by decide +kernel
theorem dX7_isStop_0 : decode cX7_isStop 0 = .ok (.iload_n 1, 1) := by decide +kernel
theorem dX7_isStop_1 : decode cX7_isStop 1 = .ok (.ifCond .lt 15, 3) := by decide +kernel
theorem dX7_isStop_4 : decode cX7_isStop 4 = .ok (.iload_n 1, 1) := by decide +kernel
theorem dX7_isStop_5 : decode cX7_isStop 5 = .ok (.aload_n 0, 1) := by decide +kernel
theorem dX7_isStop_6 : decode cX7_isStop 6 = .ok (.getfield 65, 3) := by decide +kernel
theorem dX7_isStop_9 : decode cX7_isStop 9 = .ok (.if_icmp .ge 7, 3) := by decide +kernel
theorem dX7_isStop_16 : decode cX7_isStop 16 = .ok (.iconst 0, 1) := by decide +kernel
theorem dX7_isStop_17 : decode cX7_isStop 17 = .ok (.ireturn, 1) := by decide +kernel
theorem dX7_rainOn_0 : decode cX7_rainOn 0 = .ok (.aload_n 0, 1) := by decide +kernel
theorem dX7_rainOn_1 : decode cX7_rainOn 1 = .ok (.getfield 69, 3) := by decide +kernel
theorem dX7_rainOn_4 : decode cX7_rainOn 4 = .ok (.ifCond .ne 5, 3) := by decide +kernel
theorem dX7_rainOn_7 : decode cX7_rainOn 7 = .ok (.iconst 0, 1) := by decide +kernel
theorem dX7_rainOn_8 : decode cX7_rainOn 8 = .ok (.ireturn, 1) := by decide +kernel
theorem my_n0 : (0 : Int32).toInt = 0 := by decide
theorem my_n1 : (1 : Int32).toInt = 1 := by decide
theorem my_n12 : (12 : Int32).toInt = 12 := by decide
theorem my_n99 : (99 : Int32).toInt = 99 := by decide
theorem my_n199 : (199 : Int32).toInt = 199 := by decide
theorem my_n200 : (200 : Int32).toInt = 200 := by decide
theorem my_n100000 : (100000 : Int32).toInt = 100000 := by decide
theorem my_n7 : (7 : Int32).toInt = 7 := by decide
theorem my_nm1 : (-1 : Int32).toInt = -1 := by decide
def sp_end (a : Int32) : Int32 := if a < 0 then 0 else if a ≤ 0 then 1 else 0
def sp_next (a : Int32) : Int32 := if a < 0 then -1 else if 199 < a then -1 else a
def sp_corner (a : Int32) : Int32 := if a < 0 then -1 else if 12 ≤ a then -1 else 0
def sp_wet (a : Int32) : Int32 := if a < 0 then -1 else if 199 < a then -1 else 0
def sp_give (a : Int32) : Int32 := if a < 1 then -1 else if 100000 < a then -1 else a
def sp_count (a : Int32) : Int32 := if a < 0 then -1 else if 7 < a then -1 else 0
set_option maxHeartbeats 4000000 in
set_option maxRecDepth 100000 in
theorem c_isStop (l : Launch) (dC : Nat → ClassId) (dI : Nat → Nat → Nat) (sz : Nat) (a : Int32) (xW : Nat) (xRo : Nat) (xPe : Nat) (xWh : Nat) (xTr : Nat) (xCo : Nat) (xAl : Nat) (xNl : Nat) (xDr : Nat) (xFa : Nat) : Met l yX7_isStop (.code yX7_isStop cX7_isStop 2 (some .boolean) :: lw_good) ({ frames := 2, cells := 0, slots := 0, locals := 60 }) (va_Pc [.ref xW, .int a] (fun U => U.heap.size = sz ∧ va_P (dC, dI) vwCl [(xW, .inr (7, [.ref xRo, .ref xPe, .ref xWh, .ref xTr, .ref xCo, .int 0, .ref xAl, .ref xNl, .ref xDr, .int 0, .ref xFa, .int 0, .int 0, .int 0]))] U.heap ∧ va_K (dC, dI) vwCl [] U ∧ va_D (fun _ => True) [(xW, .inr (7, [.ref xRo, .ref xPe, .ref xWh, .ref xTr, .ref xCo, .int 0, .ref xAl, .ref xNl, .ref xDr, .int 0, .ref xFa, .int 0, .int 0, .int 0]))])) (va_Qi (fun (r : Int32) (_ : Unit) => r = 0) (fun (_ : Unit) (t : State) => va_P (dC, dI) vwCl [(xW, .inr (7, [.ref xRo, .ref xPe, .ref xWh, .ref xTr, .ref xCo, .int 0, .ref xAl, .ref xNl, .ref xDr, .int 0, .ref xFa, .int 0, .int 0, .int 0]))] t.heap ∧ va_K (dC, dI) vwCl [] t ∧ va_D (va_A [(xW, .inr (7, [.ref xRo, .ref xPe, .ref xWh, .ref xTr, .ref xCo, .int 0, .ref xAl, .ref xNl, .ref xDr, .int 0, .ref xFa, .int 0, .int 0, .int 0]))] sz) [(xW, .inr (7, [.ref xRo, .ref xPe, .ref xWh, .ref xTr, .ref xCo, .int 0, .ref xAl, .ref xNl, .ref xDr, .int 0, .ref xFa, .int 0, .int 0, .int 0]))]) (va_A [(xW, .inr (7, [.ref xRo, .ref xPe, .ref xWh, .ref xTr, .ref xCo, .int 0, .ref xAl, .ref xNl, .ref xDr, .int 0, .ref xFa, .int 0, .int 0, .int 0]))] sz)) 0 0 (va_A [(xW, .inr (7, [.ref xRo, .ref xPe, .ref xWh, .ref xTr, .ref xCo, .int 0, .ref xAl, .ref xNl, .ref xDr, .int 0, .ref xFa, .int 0, .int 0, .int 0]))] sz) := by
  refine Met.ofW (cc := cX7_isStop) (maxL := 2) (ret := (some .boolean)) (by decide) rfl ?_
  intro p e s m args below meth c s₁ B hml hv
  obtain ⟨rfl, hsz, hP, hK, hD0⟩ := hv
  have hx := B.exec
  have hb := B.bytes
  have hr := B.returns
  have hts := atoms_spec (ws := (.code yX7_isStop cX7_isStop 2 (some .boolean) :: lw_good)) B.pre
  have hown : s.vm.findClass RX7 = some m.cls := findClass_of_methodNamed B.named
  have hlocks := B.notSynchronized
  subst hsz
  have hD := hD0.self (sz := s.heap.size)
  generalize hAe : va_A [(xW, .inr (7, [.ref xRo, .ref xPe, .ref xWh, .ref xTr, .ref xCo, .int 0, .ref xAl, .ref xNl, .ref xDr, .int 0, .ref xFa, .int 0, .int 0, .int 0]))] s.heap.size = A at hD ⊢
  have hA : ∀ q : Nat, s.heap.size ≤ q → A q := fun q h => by rw [← hAe]; exact Or.inr h
  have hS : va_S A s.heap s.heap [] := va_S.rf
  have hP : va_P (dC, dI) vwCl [(xW, .inr (7, [.ref xRo, .ref xPe, .ref xWh, .ref xTr, .ref xCo, .int 0, .ref xAl, .ref xNl, .ref xDr, .int 0, .ref xFa, .int 0, .int 0, .int 0]))] s.heap := hP
  have hl := lv_entry ([.ref xW, .int a]) (n := 2) (Nat.le_of_ble_eq_true rfl)
  rw [lg_entry_eq]
  generalize (lg_sl ([.ref xW, .int a]) ++ List.replicate (2 - (lg_sl ([.ref xW, .int a])).length) Slot.unset).toArray = ls at hl ⊢
  have hl : lv_has ls 2 [(0, .ref xW), (1, .int a)] := hl
  refine lv_iload_n hx hb dX7_isStop_0 rfl (lv_at hl 1 rfl) ?_
  refine lv_if_lt (tgt := 16) hx hb dX7_isStop_1 (by decide) (fun c_1 => ?_) (fun c_1 => ?_)
  · skip
    refine lv_iconst (v := 0) hx hb dX7_isStop_16 (by decide) ?_
    have hP9 := hP.sub (ws' := [(xW, .inr (7, [.ref xRo, .ref xPe, .ref xWh, .ref xTr, .ref xCo, .int 0, .ref xAl, .ref xNl, .ref xDr, .int 0, .ref xFa, .int 0, .int 0, .int 0]))]) [0] rfl
    have hD9 := hD.sub (ws' := [(xW, .inr (7, [.ref xRo, .ref xPe, .ref xWh, .ref xTr, .ref xCo, .int 0, .ref xAl, .ref xNl, .ref xDr, .int 0, .ref xFa, .int 0, .int 0, .int 0]))]) [0] (by decide) rfl
    have hK9 := hK.sub (tys' := []) [] rfl
    refine W.widen (k := 0) (n := 0) (Nat.le_of_ble_eq_true rfl) (Nat.le_of_ble_eq_true rfl) ?_
    exact W.zret (v := 0) hx hb hr (by decide) (fun t ht hW => ⟨⟨0, (), rfl, rfl, ⟨by rw [ht]; exact hP9, va_K.moved hW.alike hK9, hD9⟩⟩, hS.F ht⟩) hS.2.2 dX7_isStop_17
  · skip
    refine lv_iload_n hx hb dX7_isStop_4 rfl (lv_at hl 1 rfl) ?_
    refine lv_aload_n hx hb dX7_isStop_5 rfl (lv_at hl 0 rfl) ?_
    refine va_get (D := (dC, dI)) (ci := 7) (v := .int 0) (C := RX7) (T := TX7) (N := 14) hx hb hts iCX7 hown hK hP 0 rfl rfl 5 (by decide) (hts (.fieldLink RX7 65 "WalkingTown$Town" "stops" "I") (List.mem_cons_of_mem _ kw_2_80)) (fun _ h9 => h9) rfl dX7_isStop_6 ?_
    refine lv_icmp_ge (tgt := 16) hx hb dX7_isStop_9 (by decide) (fun c_2 => ?_) (fun c_2 => ?_)
    rotate_left
    · exact (c_2 (by have h9 := c_1; rw [Int32.not_lt] at h9; exact h9)).elim
    refine lv_iconst (v := 0) hx hb dX7_isStop_16 (by decide) ?_
    have hP9 := hP.sub (ws' := [(xW, .inr (7, [.ref xRo, .ref xPe, .ref xWh, .ref xTr, .ref xCo, .int 0, .ref xAl, .ref xNl, .ref xDr, .int 0, .ref xFa, .int 0, .int 0, .int 0]))]) [0] rfl
    have hD9 := hD.sub (ws' := [(xW, .inr (7, [.ref xRo, .ref xPe, .ref xWh, .ref xTr, .ref xCo, .int 0, .ref xAl, .ref xNl, .ref xDr, .int 0, .ref xFa, .int 0, .int 0, .int 0]))]) [0] (by decide) rfl
    have hK9 := hK.sub (tys' := []) [] rfl
    refine W.widen (k := 0) (n := 0) (Nat.le_of_ble_eq_true rfl) (Nat.le_of_ble_eq_true rfl) ?_
    exact W.zret (v := 0) hx hb hr (by decide) (fun t ht hW => ⟨⟨0, (), rfl, rfl, ⟨by rw [ht]; exact hP9, va_K.moved hW.alike hK9, hD9⟩⟩, hS.F ht⟩) hS.2.2 dX7_isStop_17
set_option maxHeartbeats 4000000 in
set_option maxRecDepth 100000 in
theorem c_rainOn (l : Launch) (dC : Nat → ClassId) (dI : Nat → Nat → Nat) (sz : Nat) (a : Int32) (xW : Nat) (xRo : Nat) (xPe : Nat) (xWh : Nat) (xTr : Nat) (xCo : Nat) (xAl : Nat) (xNl : Nat) (xDr : Nat) (xFa : Nat) : Met l yX7_rainOn (.code yX7_rainOn cX7_rainOn 2 (some .int) :: lw_good) ({ frames := 2, cells := 0, slots := 0, locals := 60 }) (va_Pc [.ref xW, .int a] (fun U => U.heap.size = sz ∧ va_P (dC, dI) vwCl [(xW, .inr (7, [.ref xRo, .ref xPe, .ref xWh, .ref xTr, .ref xCo, .int 0, .ref xAl, .ref xNl, .ref xDr, .int 0, .ref xFa, .int 0, .int 0, .int 0]))] U.heap ∧ va_K (dC, dI) vwCl [] U ∧ va_D (fun _ => True) [(xW, .inr (7, [.ref xRo, .ref xPe, .ref xWh, .ref xTr, .ref xCo, .int 0, .ref xAl, .ref xNl, .ref xDr, .int 0, .ref xFa, .int 0, .int 0, .int 0]))])) (va_Qi (fun (r : Int32) (_ : Unit) => r = 0) (fun (_ : Unit) (t : State) => va_P (dC, dI) vwCl [(xW, .inr (7, [.ref xRo, .ref xPe, .ref xWh, .ref xTr, .ref xCo, .int 0, .ref xAl, .ref xNl, .ref xDr, .int 0, .ref xFa, .int 0, .int 0, .int 0]))] t.heap ∧ va_K (dC, dI) vwCl [] t ∧ va_D (va_A [(xW, .inr (7, [.ref xRo, .ref xPe, .ref xWh, .ref xTr, .ref xCo, .int 0, .ref xAl, .ref xNl, .ref xDr, .int 0, .ref xFa, .int 0, .int 0, .int 0]))] sz) [(xW, .inr (7, [.ref xRo, .ref xPe, .ref xWh, .ref xTr, .ref xCo, .int 0, .ref xAl, .ref xNl, .ref xDr, .int 0, .ref xFa, .int 0, .int 0, .int 0]))]) (va_A [(xW, .inr (7, [.ref xRo, .ref xPe, .ref xWh, .ref xTr, .ref xCo, .int 0, .ref xAl, .ref xNl, .ref xDr, .int 0, .ref xFa, .int 0, .int 0, .int 0]))] sz)) 0 0 (va_A [(xW, .inr (7, [.ref xRo, .ref xPe, .ref xWh, .ref xTr, .ref xCo, .int 0, .ref xAl, .ref xNl, .ref xDr, .int 0, .ref xFa, .int 0, .int 0, .int 0]))] sz) := by
  refine Met.ofW (cc := cX7_rainOn) (maxL := 2) (ret := (some .int)) (by decide) rfl ?_
  intro p e s m args below meth c s₁ B hml hv
  obtain ⟨rfl, hsz, hP, hK, hD0⟩ := hv
  have hx := B.exec
  have hb := B.bytes
  have hr := B.returns
  have hts := atoms_spec (ws := (.code yX7_rainOn cX7_rainOn 2 (some .int) :: lw_good)) B.pre
  have hown : s.vm.findClass RX7 = some m.cls := findClass_of_methodNamed B.named
  have hlocks := B.notSynchronized
  subst hsz
  have hD := hD0.self (sz := s.heap.size)
  generalize hAe : va_A [(xW, .inr (7, [.ref xRo, .ref xPe, .ref xWh, .ref xTr, .ref xCo, .int 0, .ref xAl, .ref xNl, .ref xDr, .int 0, .ref xFa, .int 0, .int 0, .int 0]))] s.heap.size = A at hD ⊢
  have hA : ∀ q : Nat, s.heap.size ≤ q → A q := fun q h => by rw [← hAe]; exact Or.inr h
  have hS : va_S A s.heap s.heap [] := va_S.rf
  have hP : va_P (dC, dI) vwCl [(xW, .inr (7, [.ref xRo, .ref xPe, .ref xWh, .ref xTr, .ref xCo, .int 0, .ref xAl, .ref xNl, .ref xDr, .int 0, .ref xFa, .int 0, .int 0, .int 0]))] s.heap := hP
  have hl := lv_entry ([.ref xW, .int a]) (n := 2) (Nat.le_of_ble_eq_true rfl)
  rw [lg_entry_eq]
  generalize (lg_sl ([.ref xW, .int a]) ++ List.replicate (2 - (lg_sl ([.ref xW, .int a])).length) Slot.unset).toArray = ls at hl ⊢
  have hl : lv_has ls 2 [(0, .ref xW), (1, .int a)] := hl
  refine lv_aload_n hx hb dX7_rainOn_0 rfl (lv_at hl 0 rfl) ?_
  refine va_get (D := (dC, dI)) (ci := 7) (v := .int 0) (C := RX7) (T := TX7) (N := 14) hx hb hts iCX7 hown hK hP 0 rfl rfl 9 (by decide) (hts (.fieldLink RX7 69 "WalkingTown$Town" "wetDays" "I") (List.mem_cons_of_mem _ kw_2_89)) (fun _ h9 => h9) rfl dX7_rainOn_1 ?_
  refine lv_if_ne (tgt := 9) hx hb dX7_rainOn_4 (by decide) (fun c_1 => ?_) (fun c_1 => ?_)
  · exact (c_1 (by decide)).elim
  refine lv_iconst (v := 0) hx hb dX7_rainOn_7 (by decide) ?_
  have hP9 := hP.sub (ws' := [(xW, .inr (7, [.ref xRo, .ref xPe, .ref xWh, .ref xTr, .ref xCo, .int 0, .ref xAl, .ref xNl, .ref xDr, .int 0, .ref xFa, .int 0, .int 0, .int 0]))]) [0] rfl
  have hD9 := hD.sub (ws' := [(xW, .inr (7, [.ref xRo, .ref xPe, .ref xWh, .ref xTr, .ref xCo, .int 0, .ref xAl, .ref xNl, .ref xDr, .int 0, .ref xFa, .int 0, .int 0, .int 0]))]) [0] (by decide) rfl
  have hK9 := hK.sub (tys' := []) [] rfl
  refine W.widen (k := 0) (n := 0) (Nat.le_of_ble_eq_true rfl) (Nat.le_of_ble_eq_true rfl) ?_
  exact W.iret (v := 0) hx hb hr (fun t ht hW => ⟨⟨0, (), rfl, rfl, ⟨by rw [ht]; exact hP9, va_K.moved hW.alike hK9, hD9⟩⟩, hS.F ht⟩) hS.2.2 dX7_rainOn_8
set_option maxHeartbeats 4000000 in
set_option maxRecDepth 100000 in
theorem c_tapeIsRain (l : Launch) (dC : Nat → ClassId) (dI : Nat → Nat → Nat) (sz : Nat) (xX : Nat) (xT : Nat) (xW : Nat) (xR : Nat) (xM : Nat) (xS : Nat) : Met l yX11_tapeIsRain (.code yX11_tapeIsRain cX11_tapeIsRain 2 (some .boolean) :: lw_good) ({ frames := 2, cells := 0, slots := 0, locals := 60 }) (va_Pc [.ref xX] (fun U => U.heap.size = sz ∧ va_P (dC, dI) vwCl [(xX, .inr (11, [.ref xT, .int 0, .ref xW, .ref xR, .ref xM, .ref xS, .int (-1), .int 0, .int (-1)]))] U.heap ∧ va_K (dC, dI) vwCl [] U ∧ va_D (fun _ => True) [(xX, .inr (11, [.ref xT, .int 0, .ref xW, .ref xR, .ref xM, .ref xS, .int (-1), .int 0, .int (-1)]))])) (va_Qi (fun (r : Int32) (_ : Unit) => r = 0) (fun (_ : Unit) (t : State) => va_P (dC, dI) vwCl [(xX, .inr (11, [.ref xT, .int 0, .ref xW, .ref xR, .ref xM, .ref xS, .int (-1), .int 0, .int (-1)]))] t.heap ∧ va_K (dC, dI) vwCl [] t ∧ va_D (va_A [(xX, .inr (11, [.ref xT, .int 0, .ref xW, .ref xR, .ref xM, .ref xS, .int (-1), .int 0, .int (-1)]))] sz) [(xX, .inr (11, [.ref xT, .int 0, .ref xW, .ref xR, .ref xM, .ref xS, .int (-1), .int 0, .int (-1)]))]) (va_A [(xX, .inr (11, [.ref xT, .int 0, .ref xW, .ref xR, .ref xM, .ref xS, .int (-1), .int 0, .int (-1)]))] sz)) 0 0 (va_A [(xX, .inr (11, [.ref xT, .int 0, .ref xW, .ref xR, .ref xM, .ref xS, .int (-1), .int 0, .int (-1)]))] sz) := by
  refine Met.ofW (cc := cX11_tapeIsRain) (maxL := 2) (ret := (some .boolean)) (by decide) rfl ?_
  intro p e s m args below meth c s₁ B hml hv
  obtain ⟨rfl, hsz, hP, hK, hD0⟩ := hv
  have hx := B.exec
  have hb := B.bytes
  have hr := B.returns
  have hts := atoms_spec (ws := (.code yX11_tapeIsRain cX11_tapeIsRain 2 (some .boolean) :: lw_good)) B.pre
  have hown : s.vm.findClass RX11 = some m.cls := findClass_of_methodNamed B.named
  have hlocks := B.notSynchronized
  subst hsz
  have hD := hD0.self (sz := s.heap.size)
  generalize hAe : va_A [(xX, .inr (11, [.ref xT, .int 0, .ref xW, .ref xR, .ref xM, .ref xS, .int (-1), .int 0, .int (-1)]))] s.heap.size = A at hD ⊢
  have hA : ∀ q : Nat, s.heap.size ≤ q → A q := fun q h => by rw [← hAe]; exact Or.inr h
  have hS : va_S A s.heap s.heap [] := va_S.rf
  have hP : va_P (dC, dI) vwCl [(xX, .inr (11, [.ref xT, .int 0, .ref xW, .ref xR, .ref xM, .ref xS, .int (-1), .int 0, .int (-1)]))] s.heap := hP
  have hl := lv_entry ([.ref xX]) (n := 2) (Nat.le_of_ble_eq_true rfl)
  rw [lg_entry_eq]
  generalize (lg_sl ([.ref xX]) ++ List.replicate (2 - (lg_sl ([.ref xX])).length) Slot.unset).toArray = ls at hl ⊢
  have hl : lv_has ls 2 [(0, .ref xX)] := hl
  refine lv_aload_n hx hb dX11_tapeIsRain_0 rfl (lv_at hl 0 rfl) ?_
  refine va_get (D := (dC, dI)) (ci := 11) (v := .int 0) (C := RX11) (T := TX11) (N := 9) hx hb hts iCX11 hown hK hP 0 rfl rfl 1 (by decide) (hts (.fieldLink RX11 50 "WalkingTown" "tapeSize" "I") (List.mem_cons_of_mem _ kw_3_92)) (fun _ h9 => h9) rfl dX11_tapeIsRain_1 ?_
  refine lv_iconst (v := 1) hx hb dX11_tapeIsRain_4 (by decide) ?_
  refine lv_icmp_lt (tgt := 18) hx hb dX11_tapeIsRain_5 (by decide) (fun c_1 => ?_) (fun c_1 => ?_)
  rotate_left
  · exact (c_1 (by decide)).elim
  refine lv_iconst (v := 0) hx hb dX11_tapeIsRain_18 (by decide) ?_
  have hP9 := hP.sub (ws' := [(xX, .inr (11, [.ref xT, .int 0, .ref xW, .ref xR, .ref xM, .ref xS, .int (-1), .int 0, .int (-1)]))]) [0] rfl
  have hD9 := hD.sub (ws' := [(xX, .inr (11, [.ref xT, .int 0, .ref xW, .ref xR, .ref xM, .ref xS, .int (-1), .int 0, .int (-1)]))]) [0] (by decide) rfl
  have hK9 := hK.sub (tys' := []) [] rfl
  refine W.widen (k := 0) (n := 0) (Nat.le_of_ble_eq_true rfl) (Nat.le_of_ble_eq_true rfl) ?_
  exact W.zret (v := 0) hx hb hr (by decide) (fun t ht hW => ⟨⟨0, (), rfl, rfl, ⟨by rw [ht]; exact hP9, va_K.moved hW.alike hK9, hD9⟩⟩, hS.F ht⟩) hS.2.2 dX11_tapeIsRain_19
set_option maxHeartbeats 4000000 in
set_option maxRecDepth 100000 in
theorem x_end (l : Launch) (dC : Nat → ClassId) (dI : Nat → Nat → Nat) (sz : Nat) (a : Int32) (xX : Nat) (xT : Nat) (xW : Nat) (xR : Nat) (xM : Nat) (xS : Nat) : Met l yX11_end (.code yX11_end cX11_end 2 (some .boolean) :: lw_good) ({ frames := 14, cells := 0, slots := 0, locals := 500 }) (va_Pc [.ref xX, .int a] (fun U => U.heap.size = sz ∧ va_P (dC, dI) vwCl [(xX, .inr (11, [.ref xT, .int 0, .ref xW, .ref xR, .ref xM, .ref xS, .int (-1), .int 0, .int (-1)]))] U.heap ∧ va_K (dC, dI) vwCl [] U ∧ va_D (fun _ => True) [(xX, .inr (11, [.ref xT, .int 0, .ref xW, .ref xR, .ref xM, .ref xS, .int (-1), .int 0, .int (-1)]))])) (va_Qi (fun (r : Int32) (_ : Unit) => r = sp_end a) (fun (_ : Unit) (_ : State) => True) (va_A [(xX, .inr (11, [.ref xT, .int 0, .ref xW, .ref xR, .ref xM, .ref xS, .int (-1), .int 0, .int (-1)]))] sz)) 0 0 (va_A [(xX, .inr (11, [.ref xT, .int 0, .ref xW, .ref xR, .ref xM, .ref xS, .int (-1), .int 0, .int (-1)]))] sz) := by
  refine Met.ofW (cc := cX11_end) (maxL := 2) (ret := (some .boolean)) (by decide) rfl ?_
  intro p e s m args below meth c s₁ B hml hv
  obtain ⟨rfl, hsz, hP, hK, hD0⟩ := hv
  have hx := B.exec
  have hb := B.bytes
  have hr := B.returns
  have hts := atoms_spec (ws := (.code yX11_end cX11_end 2 (some .boolean) :: lw_good)) B.pre
  have hown : s.vm.findClass RX11 = some m.cls := findClass_of_methodNamed B.named
  have hlocks := B.notSynchronized
  subst hsz
  have hD := hD0.self (sz := s.heap.size)
  generalize hAe : va_A [(xX, .inr (11, [.ref xT, .int 0, .ref xW, .ref xR, .ref xM, .ref xS, .int (-1), .int 0, .int (-1)]))] s.heap.size = A at hD ⊢
  have hA : ∀ q : Nat, s.heap.size ≤ q → A q := fun q h => by rw [← hAe]; exact Or.inr h
  have hS : va_S A s.heap s.heap [] := va_S.rf
  have hP : va_P (dC, dI) vwCl [(xX, .inr (11, [.ref xT, .int 0, .ref xW, .ref xR, .ref xM, .ref xS, .int (-1), .int 0, .int (-1)]))] s.heap := hP
  have hl := lv_entry ([.ref xX, .int a]) (n := 2) (Nat.le_of_ble_eq_true rfl)
  rw [lg_entry_eq]
  generalize (lg_sl ([.ref xX, .int a]) ++ List.replicate (2 - (lg_sl ([.ref xX, .int a])).length) Slot.unset).toArray = ls at hl ⊢
  have hl : lv_has ls 2 [(0, .ref xX), (1, .int a)] := hl
  refine lv_iload_n hx hb dX11_end_0 rfl (lv_at hl 1 rfl) ?_
  refine lv_if_lt (tgt := 12) hx hb dX11_end_1 (by decide) (fun c_1 => ?_) (fun c_1 => ?_)
  · skip
    refine lv_iconst (v := 0) hx hb dX11_end_12 (by decide) ?_
    refine W.widen (k := 0) (n := 0) (Nat.le_of_ble_eq_true rfl) (Nat.le_of_ble_eq_true rfl) ?_
    exact W.zret (v := 0) hx hb hr (by decide) (fun t ht hW => ⟨⟨0, (), rfl, (by first | (simp [sp_end, c_1]; done) | (have q0 := c_1; try simp only [Int32.lt_iff_toInt_lt, Int32.le_iff_toInt_le, my_n0, my_n1, my_n12, my_n99, my_n199, my_n200, my_n100000, my_nm1, my_n7] at q0; simp only [sp_end, Int32.lt_iff_toInt_lt, Int32.le_iff_toInt_le, my_n0, my_n1, my_n12, my_n99, my_n199, my_n200, my_n100000, my_nm1, my_n7]; (repeat' split) <;> first | rfl | omega)), trivial⟩, hS.F ht⟩) hS.2.2 dX11_end_13
  · skip
    refine lv_iload_n hx hb dX11_end_4 rfl (lv_at hl 1 rfl) ?_
    refine lv_aload_n hx hb dX11_end_5 rfl (lv_at hl 0 rfl) ?_
    refine va_get (D := (dC, dI)) (ci := 11) (v := .int 0) (C := RX11) (T := TX11) (N := 9) hx hb hts iCX11 hown hK hP 0 rfl rfl 1 (by decide) (hts (.fieldLink RX11 50 "WalkingTown" "tapeSize" "I") (List.mem_cons_of_mem _ kw_3_92)) (fun _ h9 => h9) rfl dX11_end_6 ?_
    refine lv_icmp_le (tgt := 14) hx hb dX11_end_9 (by decide) (fun c_2 => ?_) (fun c_2 => ?_)
    · skip
      refine lv_aload_n hx hb dX11_end_14 rfl (lv_at hl 0 rfl) ?_
      refine lv_iload_n hx hb dX11_end_15 rfl (lv_at hl 1 rfl) ?_
      refine va_put (D := (dC, dI)) (ci := 11) (v := .int a) (ty := .int) (C := RX11) (T := TX11) (N := 9) hx hb hts iCX11 tyX11 tyX11_ok nmX11 hown hK hP hD hS 0 rfl rfl 1 (by decide) (hts (.fieldLink RX11 50 "WalkingTown" "tapeSize" "I") (List.mem_cons_of_mem _ kw_3_92)) (fun _ h9 => h9) rfl (by decide +kernel) rfl rfl (Nat.le_of_ble_eq_true rfl) dX11_end_16 (fun H locs hP hD hS => ?_)
      have hP : va_P (dC, dI) vwCl [(xX, .inr (11, [.ref xT, .int a, .ref xW, .ref xR, .ref xM, .ref xS, .int (-1), .int 0, .int (-1)]))] H := hP
      have hD : va_D A [(xX, .inr (11, [.ref xT, .int a, .ref xW, .ref xR, .ref xM, .ref xS, .int (-1), .int 0, .int (-1)]))] := hD
      refine lv_iconst (v := 1) hx hb dX11_end_19 (by decide) ?_
      refine W.widen (k := 0) (n := 0) (Nat.le_of_ble_eq_true rfl) (Nat.le_of_ble_eq_true rfl) ?_
      exact W.zret (v := 1) hx hb hr (by decide) (fun t ht hW => ⟨⟨1, (), rfl, (by first | (simp [sp_end, c_1, c_2]; done) | (have q0 := c_1; have q1 := c_2; try simp only [Int32.lt_iff_toInt_lt, Int32.le_iff_toInt_le, my_n0, my_n1, my_n12, my_n99, my_n199, my_n200, my_n100000, my_nm1, my_n7] at q0 q1; simp only [sp_end, Int32.lt_iff_toInt_lt, Int32.le_iff_toInt_le, my_n0, my_n1, my_n12, my_n99, my_n199, my_n200, my_n100000, my_nm1, my_n7]; (repeat' split) <;> first | rfl | omega)), trivial⟩, hS.F ht⟩) hS.2.2 dX11_end_20
    · skip
      refine lv_iconst (v := 0) hx hb dX11_end_12 (by decide) ?_
      refine W.widen (k := 0) (n := 0) (Nat.le_of_ble_eq_true rfl) (Nat.le_of_ble_eq_true rfl) ?_
      exact W.zret (v := 0) hx hb hr (by decide) (fun t ht hW => ⟨⟨0, (), rfl, (by first | (simp [sp_end, c_1, c_2]; done) | (have q0 := c_1; have q1 := c_2; try simp only [Int32.lt_iff_toInt_lt, Int32.le_iff_toInt_le, my_n0, my_n1, my_n12, my_n99, my_n199, my_n200, my_n100000, my_nm1, my_n7] at q0 q1; simp only [sp_end, Int32.lt_iff_toInt_lt, Int32.le_iff_toInt_le, my_n0, my_n1, my_n12, my_n99, my_n199, my_n200, my_n100000, my_nm1, my_n7]; (repeat' split) <;> first | rfl | omega)), trivial⟩, hS.F ht⟩) hS.2.2 dX11_end_13
set_option maxHeartbeats 4000000 in
set_option maxRecDepth 100000 in
theorem x_person (l : Launch) (dC : Nat → ClassId) (dI : Nat → Nat → Nat) (sz : Nat) (a : Int32) (b : Int32) (c3 : Int32) (xX : Nat) (xT : Nat) (xW : Nat) (xR : Nat) (xM : Nat) (xS : Nat) : Met l yX11_person (.code yX11_person cX11_person 5 (some .int) :: lw_good) ({ frames := 14, cells := 0, slots := 0, locals := 500 }) (va_Pc [.ref xX, .int a, .int b, .int c3] (fun U => U.heap.size = sz ∧ va_P (dC, dI) vwCl [(xX, .inr (11, [.ref xT, .int 0, .ref xW, .ref xR, .ref xM, .ref xS, .int (-1), .int 0, .int (-1)]))] U.heap ∧ va_K (dC, dI) vwCl [] U ∧ va_D (fun _ => True) [(xX, .inr (11, [.ref xT, .int 0, .ref xW, .ref xR, .ref xM, .ref xS, .int (-1), .int 0, .int (-1)]))])) (va_Qi (fun (r : Int32) (_ : Unit) => r = (-1)) (fun (_ : Unit) (_ : State) => True) (va_A [(xX, .inr (11, [.ref xT, .int 0, .ref xW, .ref xR, .ref xM, .ref xS, .int (-1), .int 0, .int (-1)]))] sz)) 0 0 (va_A [(xX, .inr (11, [.ref xT, .int 0, .ref xW, .ref xR, .ref xM, .ref xS, .int (-1), .int 0, .int (-1)]))] sz) := by
  refine Met.ofW (cc := cX11_person) (maxL := 5) (ret := (some .int)) (by decide) rfl ?_
  intro p e s m args below meth c s₁ B hml hv
  obtain ⟨rfl, hsz, hP, hK, hD0⟩ := hv
  have hx := B.exec
  have hb := B.bytes
  have hr := B.returns
  have hts := atoms_spec (ws := (.code yX11_person cX11_person 5 (some .int) :: lw_good)) B.pre
  have hown : s.vm.findClass RX11 = some m.cls := findClass_of_methodNamed B.named
  have hlocks := B.notSynchronized
  subst hsz
  have hD := hD0.self (sz := s.heap.size)
  generalize hAe : va_A [(xX, .inr (11, [.ref xT, .int 0, .ref xW, .ref xR, .ref xM, .ref xS, .int (-1), .int 0, .int (-1)]))] s.heap.size = A at hD ⊢
  have hA : ∀ q : Nat, s.heap.size ≤ q → A q := fun q h => by rw [← hAe]; exact Or.inr h
  have hS : va_S A s.heap s.heap [] := va_S.rf
  have hP : va_P (dC, dI) vwCl [(xX, .inr (11, [.ref xT, .int 0, .ref xW, .ref xR, .ref xM, .ref xS, .int (-1), .int 0, .int (-1)]))] s.heap := hP
  have hl := lv_entry ([.ref xX, .int a, .int b, .int c3]) (n := 5) (Nat.le_of_ble_eq_true rfl)
  rw [lg_entry_eq]
  generalize (lg_sl ([.ref xX, .int a, .int b, .int c3]) ++ List.replicate (5 - (lg_sl ([.ref xX, .int a, .int b, .int c3])).length) Slot.unset).toArray = ls at hl ⊢
  have hl : lv_has ls 5 [(0, .ref xX), (1, .int a), (2, .int b), (3, .int c3)] := hl
  refine lv_iconst (v := (-1)) hx hb dX11_person_0 (by decide) ?_
  refine lv_istore (lv' := [(4, .int (-1)), (0, .ref xX), (1, .int a), (2, .int b), (3, .int c3)]) hx hb dX11_person_1 hl (by decide) rfl (fun ls hl => ?_)
  refine lv_aload_n hx hb dX11_person_3 rfl (lv_at hl 1 rfl) ?_
  refine va_get (D := (dC, dI)) (ci := 11) (v := .int 0) (C := RX11) (T := TX11) (N := 9) hx hb hts iCX11 hown hK hP 0 rfl rfl 1 (by decide) (hts (.fieldLink RX11 50 "WalkingTown" "tapeSize" "I") (List.mem_cons_of_mem _ kw_3_92)) (fun _ h9 => h9) rfl dX11_person_4 ?_
  refine lv_bipush (v := 12) hx hb dX11_person_7 (by decide) ?_
  refine lv_icmp_ne (tgt := 45) hx hb dX11_person_9 (by decide) (fun c_1 => ?_) (fun c_1 => ?_)
  rotate_left
  · exact absurd c_1 (by decide)
  refine lv_aload_n hx hb dX11_person_45 rfl (lv_at hl 1 rfl) ?_
  refine lv_iconst (v := 0) hx hb dX11_person_46 (by decide) ?_
  refine va_put (D := (dC, dI)) (ci := 11) (v := .int 0) (ty := .int) (C := RX11) (T := TX11) (N := 9) hx hb hts iCX11 tyX11 tyX11_ok nmX11 hown hK hP hD hS 0 rfl rfl 1 (by decide) (hts (.fieldLink RX11 50 "WalkingTown" "tapeSize" "I") (List.mem_cons_of_mem _ kw_3_92)) (fun _ h9 => h9) rfl (by decide +kernel) rfl rfl (Nat.le_of_ble_eq_true rfl) dX11_person_47 (fun H locs hP hD hS => ?_)
  have hP : va_P (dC, dI) vwCl [(xX, .inr (11, [.ref xT, .int 0, .ref xW, .ref xR, .ref xM, .ref xS, .int (-1), .int 0, .int (-1)]))] H := hP
  have hD : va_D A [(xX, .inr (11, [.ref xT, .int 0, .ref xW, .ref xR, .ref xM, .ref xS, .int (-1), .int 0, .int (-1)]))] := hD
  refine lv_iload hx hb dX11_person_50 (lv_at hl 0 rfl) ?_
  refine W.widen (k := 0) (n := 0) (Nat.le_of_ble_eq_true rfl) (Nat.le_of_ble_eq_true rfl) ?_
  exact W.iret (v := (-1)) hx hb hr (fun t ht hW => ⟨⟨(-1), (), rfl, rfl, trivial⟩, hS.F ht⟩) hS.2.2 dX11_person_52
set_option maxHeartbeats 4000000 in
set_option maxRecDepth 100000 in
theorem x_stop (l : Launch) (dC : Nat → ClassId) (dI : Nat → Nat → Nat) (sz : Nat) (a : Int32) (xX : Nat) (xT : Nat) (xW : Nat) (xR : Nat) (xM : Nat) (xS : Nat) (xRo : Nat) (xPe : Nat) (xWh : Nat) (xTr : Nat) (xCo : Nat) (xAl : Nat) (xNl : Nat) (xDr : Nat) (xFa : Nat) (cCo : ClassId) : Met l yX11_stop (.code yX11_stop cX11_stop 2 (some .int) :: lw_good) ({ frames := 14, cells := 0, slots := 0, locals := 500 }) (va_Pc [.ref xX, .int a] (fun U => U.heap.size = sz ∧ va_P (dC, dI) vwCl [(xX, .inr (11, [.ref xT, .int 0, .ref xW, .ref xR, .ref xM, .ref xS, .int (-1), .int 0, .int (-1)])), (xW, .inr (7, [.ref xRo, .ref xPe, .ref xWh, .ref xTr, .ref xCo, .int 0, .ref xAl, .ref xNl, .ref xDr, .int 0, .ref xFa, .int 0, .int 0, .int 0])), (xCo, .inl (cCo, 8, .inl (fun _ => 0)))] U.heap ∧ va_K (dC, dI) vwCl [(cCo, .int)] U ∧ va_D (fun _ => True) [(xX, .inr (11, [.ref xT, .int 0, .ref xW, .ref xR, .ref xM, .ref xS, .int (-1), .int 0, .int (-1)])), (xW, .inr (7, [.ref xRo, .ref xPe, .ref xWh, .ref xTr, .ref xCo, .int 0, .ref xAl, .ref xNl, .ref xDr, .int 0, .ref xFa, .int 0, .int 0, .int 0])), (xCo, .inl (cCo, 8, .inl (fun _ => 0)))])) (va_Qi (fun (r : Int32) (_ : Unit) => r = sp_corner a) (fun (_ : Unit) (_ : State) => True) (va_A [(xX, .inr (11, [.ref xT, .int 0, .ref xW, .ref xR, .ref xM, .ref xS, .int (-1), .int 0, .int (-1)])), (xW, .inr (7, [.ref xRo, .ref xPe, .ref xWh, .ref xTr, .ref xCo, .int 0, .ref xAl, .ref xNl, .ref xDr, .int 0, .ref xFa, .int 0, .int 0, .int 0])), (xCo, .inl (cCo, 8, .inl (fun _ => 0)))] sz)) 0 0 (va_A [(xX, .inr (11, [.ref xT, .int 0, .ref xW, .ref xR, .ref xM, .ref xS, .int (-1), .int 0, .int (-1)])), (xW, .inr (7, [.ref xRo, .ref xPe, .ref xWh, .ref xTr, .ref xCo, .int 0, .ref xAl, .ref xNl, .ref xDr, .int 0, .ref xFa, .int 0, .int 0, .int 0])), (xCo, .inl (cCo, 8, .inl (fun _ => 0)))] sz) := by
  refine Met.ofW (cc := cX11_stop) (maxL := 2) (ret := (some .int)) (by decide) rfl ?_
  intro p e s m args below meth c s₁ B hml hv
  obtain ⟨rfl, hsz, hP, hK, hD0⟩ := hv
  have hx := B.exec
  have hb := B.bytes
  have hr := B.returns
  have hts := atoms_spec (ws := (.code yX11_stop cX11_stop 2 (some .int) :: lw_good)) B.pre
  have hown : s.vm.findClass RX11 = some m.cls := findClass_of_methodNamed B.named
  have hlocks := B.notSynchronized
  subst hsz
  have hD := hD0.self (sz := s.heap.size)
  generalize hAe : va_A [(xX, .inr (11, [.ref xT, .int 0, .ref xW, .ref xR, .ref xM, .ref xS, .int (-1), .int 0, .int (-1)])), (xW, .inr (7, [.ref xRo, .ref xPe, .ref xWh, .ref xTr, .ref xCo, .int 0, .ref xAl, .ref xNl, .ref xDr, .int 0, .ref xFa, .int 0, .int 0, .int 0])), (xCo, .inl (cCo, 8, .inl (fun _ => 0)))] s.heap.size = A at hD ⊢
  have hA : ∀ q : Nat, s.heap.size ≤ q → A q := fun q h => by rw [← hAe]; exact Or.inr h
  have hS : va_S A s.heap s.heap [] := va_S.rf
  have hP : va_P (dC, dI) vwCl [(xX, .inr (11, [.ref xT, .int 0, .ref xW, .ref xR, .ref xM, .ref xS, .int (-1), .int 0, .int (-1)])), (xW, .inr (7, [.ref xRo, .ref xPe, .ref xWh, .ref xTr, .ref xCo, .int 0, .ref xAl, .ref xNl, .ref xDr, .int 0, .ref xFa, .int 0, .int 0, .int 0])), (xCo, .inl (cCo, 8, .inl (fun _ => 0)))] s.heap := hP
  have hl := lv_entry ([.ref xX, .int a]) (n := 2) (Nat.le_of_ble_eq_true rfl)
  rw [lg_entry_eq]
  generalize (lg_sl ([.ref xX, .int a]) ++ List.replicate (2 - (lg_sl ([.ref xX, .int a])).length) Slot.unset).toArray = ls at hl ⊢
  have hl : lv_has ls 2 [(0, .ref xX), (1, .int a)] := hl
  refine lv_aload_n hx hb dX11_stop_0 rfl (lv_at hl 0 rfl) ?_
  refine va_get (D := (dC, dI)) (ci := 11) (v := .ref xW) (C := RX11) (T := TX11) (N := 9) hx hb hts iCX11 hown hK hP 0 rfl rfl 2 (by decide) (hts (.fieldLink RX11 16 "WalkingTown" "town" "LWalkingTown$Town;") (List.mem_cons_of_mem _ kw_3_93)) (fun _ h9 => h9) rfl dX11_stop_1 ?_
  refine va_get (D := (dC, dI)) (ci := 7) (v := .int 0) (C := RX7) (T := TX7) (N := 14) hx hb hts iCX7 hown hK hP 1 rfl rfl 5 (by decide) (hts (.fieldLink RX11 89 "WalkingTown$Town" "stops" "I") (List.mem_cons_of_mem _ kw_2_82)) (fun _ h9 => h9) rfl dX11_stop_4 ?_
  refine lv_bipush (v := 8) hx hb dX11_stop_7 (by decide) ?_
  refine lv_icmp_ge (tgt := 19) hx hb dX11_stop_9 (by decide) (fun c_1 => ?_) (fun c_1 => ?_)
  · exact absurd c_1 (by decide)
  refine lv_iload_n hx hb dX11_stop_12 rfl (lv_at hl 1 rfl) ?_
  have hPc := hP.sub (ws' := []) [] rfl
  have hDc := hD.sub (ws' := []) [] (by decide) rfl
  have hKc := hK.sub (tys' := []) [] rfl
  have hFc := va_free (wc := []) hD hS hA [] rfl
  refine va_calli (va_runS (As := [.int a]) (rest := []) ⟨hx, hb, hml, hown, hts⟩ (c_isCorner l dC dI s.heap.size a) (va_cwS 1 hts (gS kw_3_157 kw_3_144 kw_1_3 kw_3_145) rfl rfl rfl (by decide +kernel) ⟨Nat.le_of_ble_eq_true rfl, Nat.le_of_ble_eq_true rfl⟩) ⟨fun a U g mk q => by obtain ⟨q0, q1, qP, qK, qD⟩ := q; exact ⟨q0, q1, qP, va_K.moved (u := U) (U := U.calling g mk a) (Vm.Alike.refl U.vm) qK, qD⟩, fun U hU hW => ⟨rfl, by rw [hU], by rw [hU]; exact hPc, va_K.moved hW.alike hKc, hDc.weaken (fun _ _ _ _ => trivial)⟩⟩ rfl rfl hl.1 rfl (lv_room (Nat.le_of_ble_eq_true rfl)) dX11_stop_13 ⟨Nat.le_of_ble_eq_true rfl, Nat.le_of_ble_eq_true rfl⟩) hS (fun q _ h => hFc q h) hFc (fun r_2 u t H1 locs ht hvm hw hB hz1 hk1 hS => ?_)
  obtain ⟨hP, hD⟩ := va_join (wr := [(xX, .inr (11, [.ref xT, .int 0, .ref xW, .ref xR, .ref xM, .ref xS, .int (-1), .int 0, .int (-1)])), (xW, .inr (7, [.ref xRo, .ref xPe, .ref xWh, .ref xTr, .ref xCo, .int 0, .ref xAl, .ref xNl, .ref xDr, .int 0, .ref xFa, .int 0, .int 0, .int 0])), (xCo, .inl (cCo, 8, .inl (fun _ => 0)))]) (w1 := []) hP hD [] [0, 1, 2] rfl rfl (by decide) (by decide) hk1 hFc (fun k q h => by simp at h) ⟨fun i j p q h => by simp at h, fun k q h => by simp at h⟩
  have hK := hK.sub (tys' := [(cCo, .int)]) [0] rfl
  generalize H1 = H at hP hS ⊢
  have hP : va_P (dC, dI) vwCl [(xX, .inr (11, [.ref xT, .int 0, .ref xW, .ref xR, .ref xM, .ref xS, .int (-1), .int 0, .int (-1)])), (xW, .inr (7, [.ref xRo, .ref xPe, .ref xWh, .ref xTr, .ref xCo, .int 0, .ref xAl, .ref xNl, .ref xDr, .int 0, .ref xFa, .int 0, .int 0, .int 0])), (xCo, .inl (cCo, 8, .inl (fun _ => 0)))] H := hP
  have hD : va_D A [(xX, .inr (11, [.ref xT, .int 0, .ref xW, .ref xR, .ref xM, .ref xS, .int (-1), .int 0, .int (-1)])), (xW, .inr (7, [.ref xRo, .ref xPe, .ref xWh, .ref xTr, .ref xCo, .int 0, .ref xAl, .ref xNl, .ref xDr, .int 0, .ref xFa, .int 0, .int 0, .int 0])), (xCo, .inl (cCo, 8, .inl (fun _ => 0)))] := hD
  have hK : va_K (dC, dI) vwCl [(cCo, .int)] s := hK
  rcases hw with ⟨rfl, h_3⟩ | ⟨rfl, h_3⟩
  · skip
    refine lv_if_ne (tgt := 21) hx hb dX11_stop_16 (by decide) (fun c_4 => ?_) (fun c_4 => ?_)
    · exact (c_4 (by decide)).elim
    refine lv_iconst (v := (-1)) hx hb dX11_stop_19 (by decide) ?_
    refine W.widen (k := 0) (n := 0) (Nat.le_of_ble_eq_true rfl) (Nat.le_of_ble_eq_true rfl) ?_
    exact W.iret (v := (-1)) hx hb hr (fun t ht hW => ⟨⟨(-1), (), rfl, (by first | (simp [sp_corner, c_1, h_3, c_4]; done) | (have q0 := c_1; have q1 := h_3; have q2 := c_4; try simp only [Int32.lt_iff_toInt_lt, Int32.le_iff_toInt_le, my_n0, my_n1, my_n12, my_n99, my_n199, my_n200, my_n100000, my_nm1, my_n7] at q0 q1 q2; simp only [sp_corner, Int32.lt_iff_toInt_lt, Int32.le_iff_toInt_le, my_n0, my_n1, my_n12, my_n99, my_n199, my_n200, my_n100000, my_nm1, my_n7]; (repeat' split) <;> first | rfl | omega)), trivial⟩, hS.F ht⟩) hS.2.2 dX11_stop_20
  · skip
    refine lv_if_ne (tgt := 21) hx hb dX11_stop_16 (by decide) (fun c_5 => ?_) (fun c_5 => ?_)
    rotate_left
    · exact absurd c_5 (by decide)
    refine lv_aload_n hx hb dX11_stop_21 rfl (lv_at hl 0 rfl) ?_
    refine va_get (D := (dC, dI)) (ci := 11) (v := .ref xW) (C := RX11) (T := TX11) (N := 9) hx hb hts iCX11 hown hK hP 0 rfl rfl 2 (by decide) (hts (.fieldLink RX11 16 "WalkingTown" "town" "LWalkingTown$Town;") (List.mem_cons_of_mem _ kw_3_93)) (fun _ h9 => h9) rfl dX11_stop_22 ?_
    refine va_get (D := (dC, dI)) (ci := 7) (v := .ref xCo) (C := RX7) (T := TX7) (N := 14) hx hb hts iCX7 hown hK hP 1 rfl rfl 4 (by decide) (hts (.fieldLink RX11 92 "WalkingTown$Town" "corners" "[I") (List.mem_cons_of_mem _ kw_2_79)) (fun _ h9 => h9) rfl dX11_stop_25 ?_
    refine lv_aload_n hx hb dX11_stop_28 rfl (lv_at hl 0 rfl) ?_
    refine va_get (D := (dC, dI)) (ci := 11) (v := .ref xW) (C := RX11) (T := TX11) (N := 9) hx hb hts iCX11 hown hK hP 0 rfl rfl 2 (by decide) (hts (.fieldLink RX11 16 "WalkingTown" "town" "LWalkingTown$Town;") (List.mem_cons_of_mem _ kw_3_93)) (fun _ h9 => h9) rfl dX11_stop_29 ?_
    refine va_get (D := (dC, dI)) (ci := 7) (v := .int 0) (C := RX7) (T := TX7) (N := 14) hx hb hts iCX7 hown hK hP 1 rfl rfl 5 (by decide) (hts (.fieldLink RX11 89 "WalkingTown$Town" "stops" "I") (List.mem_cons_of_mem _ kw_2_82)) (fun _ h9 => h9) rfl dX11_stop_32 ?_
    refine lv_iload_n hx hb dX11_stop_35 rfl (lv_at hl 1 rfl) ?_
    refine va_iast hx hb hK hP hD hS 2 0 rfl rfl (by unfold vp_in; decide) dX11_stop_36 (fun H locs hP hD hS => ?_)
    have hP : va_P (dC, dI) vwCl [(xX, .inr (11, [.ref xT, .int 0, .ref xW, .ref xR, .ref xM, .ref xS, .int (-1), .int 0, .int (-1)])), (xW, .inr (7, [.ref xRo, .ref xPe, .ref xWh, .ref xTr, .ref xCo, .int 0, .ref xAl, .ref xNl, .ref xDr, .int 0, .ref xFa, .int 0, .int 0, .int 0])), (xCo, .inl (cCo, 8, .inl (upd (fun _ => 0) (0 : Int32).toNatClampNeg a)))] H := hP
    have hD : va_D A [(xX, .inr (11, [.ref xT, .int 0, .ref xW, .ref xR, .ref xM, .ref xS, .int (-1), .int 0, .int (-1)])), (xW, .inr (7, [.ref xRo, .ref xPe, .ref xWh, .ref xTr, .ref xCo, .int 0, .ref xAl, .ref xNl, .ref xDr, .int 0, .ref xFa, .int 0, .int 0, .int 0])), (xCo, .inl (cCo, 8, .inl (upd (fun _ => 0) (0 : Int32).toNatClampNeg a)))] := hD
    obtain ⟨f_6, ef_6⟩ : ∃ z : Nat → Int32, z = (upd (fun _ => 0) (0 : Int32).toNatClampNeg a) := ⟨_, rfl⟩
    rw [← ef_6] at hP hD
    refine lv_aload_n hx hb dX11_stop_37 rfl (lv_at hl 0 rfl) ?_
    refine va_get (D := (dC, dI)) (ci := 11) (v := .ref xW) (C := RX11) (T := TX11) (N := 9) hx hb hts iCX11 hown hK hP 0 rfl rfl 2 (by decide) (hts (.fieldLink RX11 16 "WalkingTown" "town" "LWalkingTown$Town;") (List.mem_cons_of_mem _ kw_3_93)) (fun _ h9 => h9) rfl dX11_stop_38 ?_
    refine lv_dup hx hb dX11_stop_41 rfl ?_
    refine va_get (D := (dC, dI)) (ci := 7) (v := .int 0) (C := RX7) (T := TX7) (N := 14) hx hb hts iCX7 hown hK hP 1 rfl rfl 5 (by decide) (hts (.fieldLink RX11 89 "WalkingTown$Town" "stops" "I") (List.mem_cons_of_mem _ kw_2_82)) (fun _ h9 => h9) rfl dX11_stop_42 ?_
    refine lv_iconst (v := 1) hx hb dX11_stop_45 (by decide) ?_
    refine lv_iadd hx hb dX11_stop_46 ?_
    refine my_ti (y := 1) (by decide) ?_
    refine va_put (D := (dC, dI)) (ci := 7) (v := .int 1) (ty := .int) (C := RX7) (T := TX7) (N := 14) hx hb hts iCX7 tyX7 tyX7_ok nmX7 hown hK hP hD hS 1 rfl rfl 5 (by decide) (hts (.fieldLink RX11 89 "WalkingTown$Town" "stops" "I") (List.mem_cons_of_mem _ kw_2_82)) (fun _ h9 => h9) rfl (by decide +kernel) rfl rfl (Nat.le_of_ble_eq_true rfl) dX11_stop_47 (fun H locs hP hD hS => ?_)
    have hP : va_P (dC, dI) vwCl [(xX, .inr (11, [.ref xT, .int 0, .ref xW, .ref xR, .ref xM, .ref xS, .int (-1), .int 0, .int (-1)])), (xW, .inr (7, [.ref xRo, .ref xPe, .ref xWh, .ref xTr, .ref xCo, .int 1, .ref xAl, .ref xNl, .ref xDr, .int 0, .ref xFa, .int 0, .int 0, .int 0])), (xCo, .inl (cCo, 8, .inl f_6))] H := hP
    have hD : va_D A [(xX, .inr (11, [.ref xT, .int 0, .ref xW, .ref xR, .ref xM, .ref xS, .int (-1), .int 0, .int (-1)])), (xW, .inr (7, [.ref xRo, .ref xPe, .ref xWh, .ref xTr, .ref xCo, .int 1, .ref xAl, .ref xNl, .ref xDr, .int 0, .ref xFa, .int 0, .int 0, .int 0])), (xCo, .inl (cCo, 8, .inl f_6))] := hD
    refine lv_aload_n hx hb dX11_stop_50 rfl (lv_at hl 0 rfl) ?_
    refine va_get (D := (dC, dI)) (ci := 11) (v := .ref xW) (C := RX11) (T := TX11) (N := 9) hx hb hts iCX11 hown hK hP 0 rfl rfl 2 (by decide) (hts (.fieldLink RX11 16 "WalkingTown" "town" "LWalkingTown$Town;") (List.mem_cons_of_mem _ kw_3_93)) (fun _ h9 => h9) rfl dX11_stop_51 ?_
    refine va_get (D := (dC, dI)) (ci := 7) (v := .int 1) (C := RX7) (T := TX7) (N := 14) hx hb hts iCX7 hown hK hP 1 rfl rfl 5 (by decide) (hts (.fieldLink RX11 89 "WalkingTown$Town" "stops" "I") (List.mem_cons_of_mem _ kw_2_82)) (fun _ h9 => h9) rfl dX11_stop_54 ?_
    refine lv_iconst (v := 1) hx hb dX11_stop_57 (by decide) ?_
    refine lv_isub hx hb dX11_stop_58 ?_
    refine my_ti (y := 0) (by decide) ?_
    refine W.widen (k := 0) (n := 0) (Nat.le_of_ble_eq_true rfl) (Nat.le_of_ble_eq_true rfl) ?_
    exact W.iret (v := 0) hx hb hr (fun t ht hW => ⟨⟨0, (), rfl, (by first | (simp [sp_corner, c_1, h_3, c_5]; done) | (have q0 := c_1; have q1 := h_3; have q2 := c_5; try simp only [Int32.lt_iff_toInt_lt, Int32.le_iff_toInt_le, my_n0, my_n1, my_n12, my_n99, my_n199, my_n200, my_n100000, my_nm1, my_n7] at q0 q1 q2; simp only [sp_corner, Int32.lt_iff_toInt_lt, Int32.le_iff_toInt_le, my_n0, my_n1, my_n12, my_n99, my_n199, my_n200, my_n100000, my_nm1, my_n7]; (repeat' split) <;> first | rfl | omega)), trivial⟩, hS.F ht⟩) hS.2.2 dX11_stop_59
set_option maxHeartbeats 4000000 in
set_option maxRecDepth 100000 in
theorem x_wheel (l : Launch) (dC : Nat → ClassId) (dI : Nat → Nat → Nat) (sz : Nat) (a : Int32) (b : Int32) (c3 : Int32) (d4 : Int32) (xX : Nat) (xT : Nat) (xW : Nat) (xR : Nat) (xM : Nat) (xS : Nat) (xRo : Nat) (xPe : Nat) (xWh : Nat) (xTr : Nat) (xCo : Nat) (xAl : Nat) (xNl : Nat) (xDr : Nat) (xFa : Nat) : Met l yX11_wheel (.code yX11_wheel cX11_wheel 5 (some .int) :: lw_good) ({ frames := 14, cells := 0, slots := 0, locals := 500 }) (va_Pc [.ref xX, .int a, .int b, .int c3, .int d4] (fun U => U.heap.size = sz ∧ va_P (dC, dI) vwCl [(xX, .inr (11, [.ref xT, .int 0, .ref xW, .ref xR, .ref xM, .ref xS, .int (-1), .int 0, .int (-1)])), (xW, .inr (7, [.ref xRo, .ref xPe, .ref xWh, .ref xTr, .ref xCo, .int 0, .ref xAl, .ref xNl, .ref xDr, .int 0, .ref xFa, .int 0, .int 0, .int 0]))] U.heap ∧ va_K (dC, dI) vwCl [] U ∧ va_D (fun _ => True) [(xX, .inr (11, [.ref xT, .int 0, .ref xW, .ref xR, .ref xM, .ref xS, .int (-1), .int 0, .int (-1)])), (xW, .inr (7, [.ref xRo, .ref xPe, .ref xWh, .ref xTr, .ref xCo, .int 0, .ref xAl, .ref xNl, .ref xDr, .int 0, .ref xFa, .int 0, .int 0, .int 0]))])) (va_Qi (fun (r : Int32) (_ : Unit) => r = (-1)) (fun (_ : Unit) (_ : State) => True) (va_A [(xX, .inr (11, [.ref xT, .int 0, .ref xW, .ref xR, .ref xM, .ref xS, .int (-1), .int 0, .int (-1)])), (xW, .inr (7, [.ref xRo, .ref xPe, .ref xWh, .ref xTr, .ref xCo, .int 0, .ref xAl, .ref xNl, .ref xDr, .int 0, .ref xFa, .int 0, .int 0, .int 0]))] sz)) 0 0 (va_A [(xX, .inr (11, [.ref xT, .int 0, .ref xW, .ref xR, .ref xM, .ref xS, .int (-1), .int 0, .int (-1)])), (xW, .inr (7, [.ref xRo, .ref xPe, .ref xWh, .ref xTr, .ref xCo, .int 0, .ref xAl, .ref xNl, .ref xDr, .int 0, .ref xFa, .int 0, .int 0, .int 0]))] sz) := by
  refine Met.ofW (cc := cX11_wheel) (maxL := 5) (ret := (some .int)) (by decide) rfl ?_
  intro p e s m args below meth c s₁ B hml hv
  obtain ⟨rfl, hsz, hP, hK, hD0⟩ := hv
  have hx := B.exec
  have hb := B.bytes
  have hr := B.returns
  have hts := atoms_spec (ws := (.code yX11_wheel cX11_wheel 5 (some .int) :: lw_good)) B.pre
  have hown : s.vm.findClass RX11 = some m.cls := findClass_of_methodNamed B.named
  have hlocks := B.notSynchronized
  subst hsz
  have hD := hD0.self (sz := s.heap.size)
  generalize hAe : va_A [(xX, .inr (11, [.ref xT, .int 0, .ref xW, .ref xR, .ref xM, .ref xS, .int (-1), .int 0, .int (-1)])), (xW, .inr (7, [.ref xRo, .ref xPe, .ref xWh, .ref xTr, .ref xCo, .int 0, .ref xAl, .ref xNl, .ref xDr, .int 0, .ref xFa, .int 0, .int 0, .int 0]))] s.heap.size = A at hD ⊢
  have hA : ∀ q : Nat, s.heap.size ≤ q → A q := fun q h => by rw [← hAe]; exact Or.inr h
  have hS : va_S A s.heap s.heap [] := va_S.rf
  have hP : va_P (dC, dI) vwCl [(xX, .inr (11, [.ref xT, .int 0, .ref xW, .ref xR, .ref xM, .ref xS, .int (-1), .int 0, .int (-1)])), (xW, .inr (7, [.ref xRo, .ref xPe, .ref xWh, .ref xTr, .ref xCo, .int 0, .ref xAl, .ref xNl, .ref xDr, .int 0, .ref xFa, .int 0, .int 0, .int 0]))] s.heap := hP
  have hl := lv_entry ([.ref xX, .int a, .int b, .int c3, .int d4]) (n := 5) (Nat.le_of_ble_eq_true rfl)
  rw [lg_entry_eq]
  generalize (lg_sl ([.ref xX, .int a, .int b, .int c3, .int d4]) ++ List.replicate (5 - (lg_sl ([.ref xX, .int a, .int b, .int c3, .int d4])).length) Slot.unset).toArray = ls at hl ⊢
  have hl : lv_has ls 5 [(0, .ref xX), (1, .int a), (2, .int b), (3, .int c3), (4, .int d4)] := hl
  refine lv_aload_n hx hb dX11_wheel_0 rfl (lv_at hl 0 rfl) ?_
  refine va_get (D := (dC, dI)) (ci := 11) (v := .ref xW) (C := RX11) (T := TX11) (N := 9) hx hb hts iCX11 hown hK hP 0 rfl rfl 2 (by decide) (hts (.fieldLink RX11 16 "WalkingTown" "town" "LWalkingTown$Town;") (List.mem_cons_of_mem _ kw_3_93)) (fun _ h9 => h9) rfl dX11_wheel_1 ?_
  refine lv_iload_n hx hb dX11_wheel_4 rfl (lv_at hl 2 rfl) ?_
  have hPc := hP.sub (ws' := [(xW, .inr (7, [.ref xRo, .ref xPe, .ref xWh, .ref xTr, .ref xCo, .int 0, .ref xAl, .ref xNl, .ref xDr, .int 0, .ref xFa, .int 0, .int 0, .int 0]))]) [1] rfl
  have hDc := hD.sub (ws' := [(xW, .inr (7, [.ref xRo, .ref xPe, .ref xWh, .ref xTr, .ref xCo, .int 0, .ref xAl, .ref xNl, .ref xDr, .int 0, .ref xFa, .int 0, .int 0, .int 0]))]) [1] (by decide) rfl
  have hKc := hK.sub (tys' := []) [] rfl
  have hFc := va_free (wc := [(xW, .inr (7, [.ref xRo, .ref xPe, .ref xWh, .ref xTr, .ref xCo, .int 0, .ref xAl, .ref xNl, .ref xDr, .int 0, .ref xFa, .int 0, .int 0, .int 0]))]) hD hS hA [1] rfl
  refine va_calli (va_runV (As := [.int b]) (rest := []) ⟨hx, hb, hml, hown, hts⟩ (c_isStop l dC dI s.heap.size b xW xRo xPe xWh xTr xCo xAl xNl xDr xFa) (cwV 1 hts (gV kw_3_183 kw_3_184 kw_3_185 kw_1_2 kw_3_186) rfl rfl rfl (by decide +kernel) ⟨Nat.le_of_ble_eq_true rfl, Nat.le_of_ble_eq_true rfl⟩) ⟨fun a U g mk q => by obtain ⟨q0, q1, qP, qK, qD⟩ := q; exact ⟨q0, q1, qP, va_K.moved (u := U) (U := U.calling g mk a) (Vm.Alike.refl U.vm) qK, qD⟩, va_recv hKc hPc (ci := 7) (q0 := 0) rfl rfl, fun U hU hW => ⟨rfl, by rw [hU], by rw [hU]; exact hPc, va_K.moved hW.alike hKc, hDc.weaken (fun _ _ _ _ => trivial)⟩⟩ rfl rfl hl.1 rfl (lv_room (Nat.le_of_ble_eq_true rfl)) dX11_wheel_5 ⟨Nat.le_of_ble_eq_true rfl, Nat.le_of_ble_eq_true rfl⟩) hS (fun q _ h => hFc q h) hFc (fun r_1 u t H1 locs ht hvm hw hB hz1 hk1 hS => ?_)
  obtain ⟨hP1, hK1, hD1⟩ := hB
  rw [ht] at hP1
  have hK1 := va_K.moved hvm.symm hK1
  obtain ⟨hP, hD⟩ := va_join (wr := [(xX, .inr (11, [.ref xT, .int 0, .ref xW, .ref xR, .ref xM, .ref xS, .int (-1), .int 0, .int (-1)]))]) (w1 := [(xW, .inr (7, [.ref xRo, .ref xPe, .ref xWh, .ref xTr, .ref xCo, .int 0, .ref xAl, .ref xNl, .ref xDr, .int 0, .ref xFa, .int 0, .int 0, .int 0]))]) hP hD [1] [0] rfl rfl (by decide) (by decide) hk1 hFc hP1 hD1
  have hK := (hK.sub (tys' := []) [] rfl).app hK1
  generalize H1 = H at hP hS ⊢
  have hP : va_P (dC, dI) vwCl [(xX, .inr (11, [.ref xT, .int 0, .ref xW, .ref xR, .ref xM, .ref xS, .int (-1), .int 0, .int (-1)])), (xW, .inr (7, [.ref xRo, .ref xPe, .ref xWh, .ref xTr, .ref xCo, .int 0, .ref xAl, .ref xNl, .ref xDr, .int 0, .ref xFa, .int 0, .int 0, .int 0]))] H := hP
  have hD : va_D A [(xX, .inr (11, [.ref xT, .int 0, .ref xW, .ref xR, .ref xM, .ref xS, .int (-1), .int 0, .int (-1)])), (xW, .inr (7, [.ref xRo, .ref xPe, .ref xWh, .ref xTr, .ref xCo, .int 0, .ref xAl, .ref xNl, .ref xDr, .int 0, .ref xFa, .int 0, .int 0, .int 0]))] := hD
  have hK : va_K (dC, dI) vwCl [] s := hK
  subst hw
  refine lv_if_eq (tgt := 19) hx hb dX11_wheel_8 (by decide) (fun c_3 => ?_) (fun c_3 => ?_)
  rotate_left
  · exact (c_3 (by decide)).elim
  refine lv_iconst (v := (-1)) hx hb dX11_wheel_19 (by decide) ?_
  refine W.widen (k := 0) (n := 0) (Nat.le_of_ble_eq_true rfl) (Nat.le_of_ble_eq_true rfl) ?_
  exact W.iret (v := (-1)) hx hb hr (fun t ht hW => ⟨⟨(-1), (), rfl, rfl, trivial⟩, hS.F ht⟩) hS.2.2 dX11_wheel_20
set_option maxHeartbeats 4000000 in
set_option maxRecDepth 100000 in
theorem x_insure (l : Launch) (dC : Nat → ClassId) (dI : Nat → Nat → Nat) (sz : Nat) (a : Int32) (b : Int32) (xX : Nat) (xT : Nat) (xW : Nat) (xR : Nat) (xM : Nat) (xS : Nat) (xRo : Nat) (xPe : Nat) (xWh : Nat) (xTr : Nat) (xCo : Nat) (xAl : Nat) (xNl : Nat) (xDr : Nat) (xFa : Nat) (vh1 : Value) (vh2 : Value) (vh3 : Value) (vh4 : Value) (vh5 : Value) (vh6 : Value) (vh7 : Value) (vh8 : Value) : Met l yX11_insure (.code yX11_insure cX11_insure 3 (some .boolean) :: lw_good) ({ frames := 14, cells := 0, slots := 0, locals := 500 }) (va_Pc [.ref xX, .int a, .int b] (fun U => U.heap.size = sz ∧ va_P (dC, dI) vwCl [(xX, .inr (11, [.ref xT, .int 0, .ref xW, .ref xR, .ref xM, .ref xS, .int (-1), .int 0, .int (-1)])), (xW, .inr (7, [.ref xRo, .ref xPe, .ref xWh, .ref xTr, .ref xCo, .int 0, .ref xAl, .ref xNl, .ref xDr, .int 0, .ref xFa, .int 0, .int 0, .int 0])), (xWh, .inr (10, [.int 0, vh1, vh2, vh3, vh4, vh5, vh6, vh7, vh8]))] U.heap ∧ va_K (dC, dI) vwCl [] U ∧ va_D (fun _ => True) [(xX, .inr (11, [.ref xT, .int 0, .ref xW, .ref xR, .ref xM, .ref xS, .int (-1), .int 0, .int (-1)])), (xW, .inr (7, [.ref xRo, .ref xPe, .ref xWh, .ref xTr, .ref xCo, .int 0, .ref xAl, .ref xNl, .ref xDr, .int 0, .ref xFa, .int 0, .int 0, .int 0])), (xWh, .inr (10, [.int 0, vh1, vh2, vh3, vh4, vh5, vh6, vh7, vh8]))])) (va_Qi (fun (r : Int32) (_ : Unit) => r = 0) (fun (_ : Unit) (_ : State) => True) (va_A [(xX, .inr (11, [.ref xT, .int 0, .ref xW, .ref xR, .ref xM, .ref xS, .int (-1), .int 0, .int (-1)])), (xW, .inr (7, [.ref xRo, .ref xPe, .ref xWh, .ref xTr, .ref xCo, .int 0, .ref xAl, .ref xNl, .ref xDr, .int 0, .ref xFa, .int 0, .int 0, .int 0])), (xWh, .inr (10, [.int 0, vh1, vh2, vh3, vh4, vh5, vh6, vh7, vh8]))] sz)) 0 0 (va_A [(xX, .inr (11, [.ref xT, .int 0, .ref xW, .ref xR, .ref xM, .ref xS, .int (-1), .int 0, .int (-1)])), (xW, .inr (7, [.ref xRo, .ref xPe, .ref xWh, .ref xTr, .ref xCo, .int 0, .ref xAl, .ref xNl, .ref xDr, .int 0, .ref xFa, .int 0, .int 0, .int 0])), (xWh, .inr (10, [.int 0, vh1, vh2, vh3, vh4, vh5, vh6, vh7, vh8]))] sz) := by
  refine Met.ofW (cc := cX11_insure) (maxL := 3) (ret := (some .boolean)) (by decide) rfl ?_
  intro p e s m args below meth c s₁ B hml hv
  obtain ⟨rfl, hsz, hP, hK, hD0⟩ := hv
  have hx := B.exec
  have hb := B.bytes
  have hr := B.returns
  have hts := atoms_spec (ws := (.code yX11_insure cX11_insure 3 (some .boolean) :: lw_good)) B.pre
  have hown : s.vm.findClass RX11 = some m.cls := findClass_of_methodNamed B.named
  have hlocks := B.notSynchronized
  subst hsz
  have hD := hD0.self (sz := s.heap.size)
  generalize hAe : va_A [(xX, .inr (11, [.ref xT, .int 0, .ref xW, .ref xR, .ref xM, .ref xS, .int (-1), .int 0, .int (-1)])), (xW, .inr (7, [.ref xRo, .ref xPe, .ref xWh, .ref xTr, .ref xCo, .int 0, .ref xAl, .ref xNl, .ref xDr, .int 0, .ref xFa, .int 0, .int 0, .int 0])), (xWh, .inr (10, [.int 0, vh1, vh2, vh3, vh4, vh5, vh6, vh7, vh8]))] s.heap.size = A at hD ⊢
  have hA : ∀ q : Nat, s.heap.size ≤ q → A q := fun q h => by rw [← hAe]; exact Or.inr h
  have hS : va_S A s.heap s.heap [] := va_S.rf
  have hP : va_P (dC, dI) vwCl [(xX, .inr (11, [.ref xT, .int 0, .ref xW, .ref xR, .ref xM, .ref xS, .int (-1), .int 0, .int (-1)])), (xW, .inr (7, [.ref xRo, .ref xPe, .ref xWh, .ref xTr, .ref xCo, .int 0, .ref xAl, .ref xNl, .ref xDr, .int 0, .ref xFa, .int 0, .int 0, .int 0])), (xWh, .inr (10, [.int 0, vh1, vh2, vh3, vh4, vh5, vh6, vh7, vh8]))] s.heap := hP
  have hl := lv_entry ([.ref xX, .int a, .int b]) (n := 3) (Nat.le_of_ble_eq_true rfl)
  rw [lg_entry_eq]
  generalize (lg_sl ([.ref xX, .int a, .int b]) ++ List.replicate (3 - (lg_sl ([.ref xX, .int a, .int b])).length) Slot.unset).toArray = ls at hl ⊢
  have hl : lv_has ls 3 [(0, .ref xX), (1, .int a), (2, .int b)] := hl
  refine lv_aload_n hx hb dX11_insure_0 rfl (lv_at hl 0 rfl) ?_
  refine va_get (D := (dC, dI)) (ci := 11) (v := .ref xW) (C := RX11) (T := TX11) (N := 9) hx hb hts iCX11 hown hK hP 0 rfl rfl 2 (by decide) (hts (.fieldLink RX11 16 "WalkingTown" "town" "LWalkingTown$Town;") (List.mem_cons_of_mem _ kw_3_93)) (fun _ h9 => h9) rfl dX11_insure_1 ?_
  refine va_get (D := (dC, dI)) (ci := 7) (v := .ref xWh) (C := RX7) (T := TX7) (N := 14) hx hb hts iCX7 hown hK hP 1 rfl rfl 2 (by decide) (hts (.fieldLink RX11 101 "WalkingTown$Town" "wheels" "LWalkingTown$Wheels;") (List.mem_cons_of_mem _ kw_2_70)) (fun _ h9 => h9) rfl dX11_insure_4 ?_
  refine lv_iload_n hx hb dX11_insure_7 rfl (lv_at hl 1 rfl) ?_
  have hPc := hP.sub (ws' := [(xWh, .inr (10, [.int 0, vh1, vh2, vh3, vh4, vh5, vh6, vh7, vh8]))]) [2] rfl
  have hDc := hD.sub (ws' := [(xWh, .inr (10, [.int 0, vh1, vh2, vh3, vh4, vh5, vh6, vh7, vh8]))]) [2] (by decide) rfl
  have hKc := hK.sub (tys' := []) [] rfl
  have hFc := va_free (wc := [(xWh, .inr (10, [.int 0, vh1, vh2, vh3, vh4, vh5, vh6, vh7, vh8]))]) hD hS hA [2] rfl
  refine va_calli (va_runV (As := [.int a]) (rest := []) ⟨hx, hb, hml, hown, hts⟩ (c_Wheels_has l dC dI s.heap.size xWh a (vh1 : Value) (vh2 : Value) (vh3 : Value) (vh4 : Value) (vh5 : Value) (vh6 : Value) (vh7 : Value) (vh8 : Value)) (cwV 1 hts (gV kw_3_198 kw_3_199 kw_3_200 kw_1_5 kw_3_201) rfl rfl rfl (by decide +kernel) ⟨Nat.le_of_ble_eq_true rfl, Nat.le_of_ble_eq_true rfl⟩) ⟨fun a U g mk q => by obtain ⟨q0, q1, qP, qK, qD⟩ := q; exact ⟨q0, q1, qP, va_K.moved (u := U) (U := U.calling g mk a) (Vm.Alike.refl U.vm) qK, qD⟩, va_recv hKc hPc (ci := 10) (q0 := 0) rfl rfl, fun U hU hW => ⟨rfl, by rw [hU], by rw [hU]; exact hPc, va_K.moved hW.alike hKc, hDc.weaken (fun _ _ _ _ => trivial)⟩⟩ rfl rfl hl.1 rfl (lv_room (Nat.le_of_ble_eq_true rfl)) dX11_insure_8 ⟨Nat.le_of_ble_eq_true rfl, Nat.le_of_ble_eq_true rfl⟩) hS (fun q _ h => hFc q h) hFc (fun r_1 u t H1 locs ht hvm hw hB hz1 hk1 hS => ?_)
  obtain ⟨hP1, hK1, hD1⟩ := hB
  rw [ht] at hP1
  have hK1 := va_K.moved hvm.symm hK1
  obtain ⟨hP, hD⟩ := va_join (wr := [(xX, .inr (11, [.ref xT, .int 0, .ref xW, .ref xR, .ref xM, .ref xS, .int (-1), .int 0, .int (-1)])), (xW, .inr (7, [.ref xRo, .ref xPe, .ref xWh, .ref xTr, .ref xCo, .int 0, .ref xAl, .ref xNl, .ref xDr, .int 0, .ref xFa, .int 0, .int 0, .int 0]))]) (w1 := [(xWh, .inr (10, [.int 0, vh1, vh2, vh3, vh4, vh5, vh6, vh7, vh8]))]) hP hD [2] [0, 1] rfl rfl (by decide) (by decide) hk1 hFc hP1 hD1
  have hK := (hK.sub (tys' := []) [] rfl).app hK1
  generalize H1 = H at hP hS ⊢
  have hP : va_P (dC, dI) vwCl [(xX, .inr (11, [.ref xT, .int 0, .ref xW, .ref xR, .ref xM, .ref xS, .int (-1), .int 0, .int (-1)])), (xW, .inr (7, [.ref xRo, .ref xPe, .ref xWh, .ref xTr, .ref xCo, .int 0, .ref xAl, .ref xNl, .ref xDr, .int 0, .ref xFa, .int 0, .int 0, .int 0])), (xWh, .inr (10, [.int 0, vh1, vh2, vh3, vh4, vh5, vh6, vh7, vh8]))] H := hP
  have hD : va_D A [(xX, .inr (11, [.ref xT, .int 0, .ref xW, .ref xR, .ref xM, .ref xS, .int (-1), .int 0, .int (-1)])), (xW, .inr (7, [.ref xRo, .ref xPe, .ref xWh, .ref xTr, .ref xCo, .int 0, .ref xAl, .ref xNl, .ref xDr, .int 0, .ref xFa, .int 0, .int 0, .int 0])), (xWh, .inr (10, [.int 0, vh1, vh2, vh3, vh4, vh5, vh6, vh7, vh8]))] := hD
  have hK : va_K (dC, dI) vwCl [] s := hK
  subst hw
  refine lv_if_eq (tgt := 21) hx hb dX11_insure_11 (by decide) (fun c_3 => ?_) (fun c_3 => ?_)
  rotate_left
  · exact (c_3 (by decide)).elim
  refine lv_iconst (v := 0) hx hb dX11_insure_21 (by decide) ?_
  refine W.widen (k := 0) (n := 0) (Nat.le_of_ble_eq_true rfl) (Nat.le_of_ble_eq_true rfl) ?_
  exact W.zret (v := 0) hx hb hr (by decide) (fun t ht hW => ⟨⟨0, (), rfl, rfl, trivial⟩, hS.F ht⟩) hS.2.2 dX11_insure_22
set_option maxHeartbeats 4000000 in
set_option maxRecDepth 100000 in
theorem x_trip (l : Launch) (dC : Nat → ClassId) (dI : Nat → Nat → Nat) (sz : Nat) (a : Int32) (b : Int32) (c3 : Int32) (d4 : Int32) (e5 : Int32) (f6 : Int32) (xX : Nat) (xT : Nat) (xW : Nat) (xR : Nat) (xM : Nat) (xS : Nat) (xRo : Nat) (xPe : Nat) (xWh : Nat) (xTr : Nat) (xCo : Nat) (xAl : Nat) (xNl : Nat) (xDr : Nat) (xFa : Nat) (vh1 : Value) (vh2 : Value) (vh3 : Value) (vh4 : Value) (vh5 : Value) (vh6 : Value) (vh7 : Value) (vh8 : Value) : Met l yX11_trip (.code yX11_trip cX11_trip 8 (some .int) :: lw_good) ({ frames := 14, cells := 0, slots := 0, locals := 500 }) (va_Pc [.ref xX, .int a, .int b, .int c3, .int d4, .int e5, .int f6] (fun U => U.heap.size = sz ∧ va_P (dC, dI) vwCl [(xX, .inr (11, [.ref xT, .int 0, .ref xW, .ref xR, .ref xM, .ref xS, .int (-1), .int 0, .int (-1)])), (xW, .inr (7, [.ref xRo, .ref xPe, .ref xWh, .ref xTr, .ref xCo, .int 0, .ref xAl, .ref xNl, .ref xDr, .int 0, .ref xFa, .int 0, .int 0, .int 0])), (xWh, .inr (10, [.int 0, vh1, vh2, vh3, vh4, vh5, vh6, vh7, vh8]))] U.heap ∧ va_K (dC, dI) vwCl [] U ∧ va_D (fun _ => True) [(xX, .inr (11, [.ref xT, .int 0, .ref xW, .ref xR, .ref xM, .ref xS, .int (-1), .int 0, .int (-1)])), (xW, .inr (7, [.ref xRo, .ref xPe, .ref xWh, .ref xTr, .ref xCo, .int 0, .ref xAl, .ref xNl, .ref xDr, .int 0, .ref xFa, .int 0, .int 0, .int 0])), (xWh, .inr (10, [.int 0, vh1, vh2, vh3, vh4, vh5, vh6, vh7, vh8]))])) (va_Qi (fun (r : Int32) (_ : Unit) => r = (-1)) (fun (_ : Unit) (_ : State) => True) (va_A [(xX, .inr (11, [.ref xT, .int 0, .ref xW, .ref xR, .ref xM, .ref xS, .int (-1), .int 0, .int (-1)])), (xW, .inr (7, [.ref xRo, .ref xPe, .ref xWh, .ref xTr, .ref xCo, .int 0, .ref xAl, .ref xNl, .ref xDr, .int 0, .ref xFa, .int 0, .int 0, .int 0])), (xWh, .inr (10, [.int 0, vh1, vh2, vh3, vh4, vh5, vh6, vh7, vh8]))] sz)) 0 0 (va_A [(xX, .inr (11, [.ref xT, .int 0, .ref xW, .ref xR, .ref xM, .ref xS, .int (-1), .int 0, .int (-1)])), (xW, .inr (7, [.ref xRo, .ref xPe, .ref xWh, .ref xTr, .ref xCo, .int 0, .ref xAl, .ref xNl, .ref xDr, .int 0, .ref xFa, .int 0, .int 0, .int 0])), (xWh, .inr (10, [.int 0, vh1, vh2, vh3, vh4, vh5, vh6, vh7, vh8]))] sz) := by
  refine Met.ofW (cc := cX11_trip) (maxL := 8) (ret := (some .int)) (by decide) rfl ?_
  intro p e s m args below meth c s₁ B hml hv
  obtain ⟨rfl, hsz, hP, hK, hD0⟩ := hv
  have hx := B.exec
  have hb := B.bytes
  have hr := B.returns
  have hts := atoms_spec (ws := (.code yX11_trip cX11_trip 8 (some .int) :: lw_good)) B.pre
  have hown : s.vm.findClass RX11 = some m.cls := findClass_of_methodNamed B.named
  have hlocks := B.notSynchronized
  subst hsz
  have hD := hD0.self (sz := s.heap.size)
  generalize hAe : va_A [(xX, .inr (11, [.ref xT, .int 0, .ref xW, .ref xR, .ref xM, .ref xS, .int (-1), .int 0, .int (-1)])), (xW, .inr (7, [.ref xRo, .ref xPe, .ref xWh, .ref xTr, .ref xCo, .int 0, .ref xAl, .ref xNl, .ref xDr, .int 0, .ref xFa, .int 0, .int 0, .int 0])), (xWh, .inr (10, [.int 0, vh1, vh2, vh3, vh4, vh5, vh6, vh7, vh8]))] s.heap.size = A at hD ⊢
  have hA : ∀ q : Nat, s.heap.size ≤ q → A q := fun q h => by rw [← hAe]; exact Or.inr h
  have hS : va_S A s.heap s.heap [] := va_S.rf
  have hP : va_P (dC, dI) vwCl [(xX, .inr (11, [.ref xT, .int 0, .ref xW, .ref xR, .ref xM, .ref xS, .int (-1), .int 0, .int (-1)])), (xW, .inr (7, [.ref xRo, .ref xPe, .ref xWh, .ref xTr, .ref xCo, .int 0, .ref xAl, .ref xNl, .ref xDr, .int 0, .ref xFa, .int 0, .int 0, .int 0])), (xWh, .inr (10, [.int 0, vh1, vh2, vh3, vh4, vh5, vh6, vh7, vh8]))] s.heap := hP
  have hl := lv_entry ([.ref xX, .int a, .int b, .int c3, .int d4, .int e5, .int f6]) (n := 8) (Nat.le_of_ble_eq_true rfl)
  rw [lg_entry_eq]
  generalize (lg_sl ([.ref xX, .int a, .int b, .int c3, .int d4, .int e5, .int f6]) ++ List.replicate (8 - (lg_sl ([.ref xX, .int a, .int b, .int c3, .int d4, .int e5, .int f6])).length) Slot.unset).toArray = ls at hl ⊢
  have hl : lv_has ls 8 [(0, .ref xX), (1, .int a), (2, .int b), (3, .int c3), (4, .int d4), (5, .int e5), (6, .int f6)] := hl
  refine lv_aload_n hx hb dX11_trip_0 rfl (lv_at hl 0 rfl) ?_
  refine va_get (D := (dC, dI)) (ci := 11) (v := .ref xW) (C := RX11) (T := TX11) (N := 9) hx hb hts iCX11 hown hK hP 0 rfl rfl 2 (by decide) (hts (.fieldLink RX11 16 "WalkingTown" "town" "LWalkingTown$Town;") (List.mem_cons_of_mem _ kw_3_93)) (fun _ h9 => h9) rfl dX11_trip_1 ?_
  refine va_get (D := (dC, dI)) (ci := 7) (v := .ref xWh) (C := RX7) (T := TX7) (N := 14) hx hb hts iCX7 hown hK hP 1 rfl rfl 2 (by decide) (hts (.fieldLink RX11 101 "WalkingTown$Town" "wheels" "LWalkingTown$Wheels;") (List.mem_cons_of_mem _ kw_2_70)) (fun _ h9 => h9) rfl dX11_trip_4 ?_
  refine lv_iload_n hx hb dX11_trip_7 rfl (lv_at hl 1 rfl) ?_
  have hPc := hP.sub (ws' := [(xWh, .inr (10, [.int 0, vh1, vh2, vh3, vh4, vh5, vh6, vh7, vh8]))]) [2] rfl
  have hDc := hD.sub (ws' := [(xWh, .inr (10, [.int 0, vh1, vh2, vh3, vh4, vh5, vh6, vh7, vh8]))]) [2] (by decide) rfl
  have hKc := hK.sub (tys' := []) [] rfl
  have hFc := va_free (wc := [(xWh, .inr (10, [.int 0, vh1, vh2, vh3, vh4, vh5, vh6, vh7, vh8]))]) hD hS hA [2] rfl
  refine va_calli (va_runV (As := [.int a]) (rest := []) ⟨hx, hb, hml, hown, hts⟩ (c_Wheels_has l dC dI s.heap.size xWh a (vh1 : Value) (vh2 : Value) (vh3 : Value) (vh4 : Value) (vh5 : Value) (vh6 : Value) (vh7 : Value) (vh8 : Value)) (cwV 1 hts (gV kw_3_198 kw_3_199 kw_3_200 kw_1_5 kw_3_201) rfl rfl rfl (by decide +kernel) ⟨Nat.le_of_ble_eq_true rfl, Nat.le_of_ble_eq_true rfl⟩) ⟨fun a U g mk q => by obtain ⟨q0, q1, qP, qK, qD⟩ := q; exact ⟨q0, q1, qP, va_K.moved (u := U) (U := U.calling g mk a) (Vm.Alike.refl U.vm) qK, qD⟩, va_recv hKc hPc (ci := 10) (q0 := 0) rfl rfl, fun U hU hW => ⟨rfl, by rw [hU], by rw [hU]; exact hPc, va_K.moved hW.alike hKc, hDc.weaken (fun _ _ _ _ => trivial)⟩⟩ rfl rfl hl.1 rfl (lv_room (Nat.le_of_ble_eq_true rfl)) dX11_trip_8 ⟨Nat.le_of_ble_eq_true rfl, Nat.le_of_ble_eq_true rfl⟩) hS (fun q _ h => hFc q h) hFc (fun r_1 u t H1 locs ht hvm hw hB hz1 hk1 hS => ?_)
  obtain ⟨hP1, hK1, hD1⟩ := hB
  rw [ht] at hP1
  have hK1 := va_K.moved hvm.symm hK1
  obtain ⟨hP, hD⟩ := va_join (wr := [(xX, .inr (11, [.ref xT, .int 0, .ref xW, .ref xR, .ref xM, .ref xS, .int (-1), .int 0, .int (-1)])), (xW, .inr (7, [.ref xRo, .ref xPe, .ref xWh, .ref xTr, .ref xCo, .int 0, .ref xAl, .ref xNl, .ref xDr, .int 0, .ref xFa, .int 0, .int 0, .int 0]))]) (w1 := [(xWh, .inr (10, [.int 0, vh1, vh2, vh3, vh4, vh5, vh6, vh7, vh8]))]) hP hD [2] [0, 1] rfl rfl (by decide) (by decide) hk1 hFc hP1 hD1
  have hK := (hK.sub (tys' := []) [] rfl).app hK1
  generalize H1 = H at hP hS ⊢
  have hP : va_P (dC, dI) vwCl [(xX, .inr (11, [.ref xT, .int 0, .ref xW, .ref xR, .ref xM, .ref xS, .int (-1), .int 0, .int (-1)])), (xW, .inr (7, [.ref xRo, .ref xPe, .ref xWh, .ref xTr, .ref xCo, .int 0, .ref xAl, .ref xNl, .ref xDr, .int 0, .ref xFa, .int 0, .int 0, .int 0])), (xWh, .inr (10, [.int 0, vh1, vh2, vh3, vh4, vh5, vh6, vh7, vh8]))] H := hP
  have hD : va_D A [(xX, .inr (11, [.ref xT, .int 0, .ref xW, .ref xR, .ref xM, .ref xS, .int (-1), .int 0, .int (-1)])), (xW, .inr (7, [.ref xRo, .ref xPe, .ref xWh, .ref xTr, .ref xCo, .int 0, .ref xAl, .ref xNl, .ref xDr, .int 0, .ref xFa, .int 0, .int 0, .int 0])), (xWh, .inr (10, [.int 0, vh1, vh2, vh3, vh4, vh5, vh6, vh7, vh8]))] := hD
  have hK : va_K (dC, dI) vwCl [] s := hK
  subst hw
  refine lv_if_eq (tgt := 41) hx hb dX11_trip_11 (by decide) (fun c_3 => ?_) (fun c_3 => ?_)
  rotate_left
  · exact (c_3 (by decide)).elim
  refine lv_iconst (v := (-1)) hx hb dX11_trip_41 (by decide) ?_
  refine W.widen (k := 0) (n := 0) (Nat.le_of_ble_eq_true rfl) (Nat.le_of_ble_eq_true rfl) ?_
  exact W.iret (v := (-1)) hx hb hr (fun t ht hW => ⟨⟨(-1), (), rfl, rfl, trivial⟩, hS.F ht⟩) hS.2.2 dX11_trip_42
set_option maxHeartbeats 4000000 in
set_option maxRecDepth 100000 in
theorem x_rain (l : Launch) (dC : Nat → ClassId) (dI : Nat → Nat → Nat) (sz : Nat) (xX : Nat) (xT : Nat) (xW : Nat) (xR : Nat) (xM : Nat) (xS : Nat) : Met l yX11_rain (.code yX11_rain cX11_rain 4 (some .boolean) :: lw_good) ({ frames := 14, cells := 0, slots := 0, locals := 500 }) (va_Pc [.ref xX] (fun U => U.heap.size = sz ∧ va_P (dC, dI) vwCl [(xX, .inr (11, [.ref xT, .int 0, .ref xW, .ref xR, .ref xM, .ref xS, .int (-1), .int 0, .int (-1)]))] U.heap ∧ va_K (dC, dI) vwCl [] U ∧ va_D (fun _ => True) [(xX, .inr (11, [.ref xT, .int 0, .ref xW, .ref xR, .ref xM, .ref xS, .int (-1), .int 0, .int (-1)]))])) (va_Qi (fun (r : Int32) (_ : Unit) => r = 0) (fun (_ : Unit) (_ : State) => True) (va_A [(xX, .inr (11, [.ref xT, .int 0, .ref xW, .ref xR, .ref xM, .ref xS, .int (-1), .int 0, .int (-1)]))] sz)) 0 0 (va_A [(xX, .inr (11, [.ref xT, .int 0, .ref xW, .ref xR, .ref xM, .ref xS, .int (-1), .int 0, .int (-1)]))] sz) := by
  refine Met.ofW (cc := cX11_rain) (maxL := 4) (ret := (some .boolean)) (by decide) rfl ?_
  intro p e s m args below meth c s₁ B hml hv
  obtain ⟨rfl, hsz, hP, hK, hD0⟩ := hv
  have hx := B.exec
  have hb := B.bytes
  have hr := B.returns
  have hts := atoms_spec (ws := (.code yX11_rain cX11_rain 4 (some .boolean) :: lw_good)) B.pre
  have hown : s.vm.findClass RX11 = some m.cls := findClass_of_methodNamed B.named
  have hlocks := B.notSynchronized
  subst hsz
  have hD := hD0.self (sz := s.heap.size)
  generalize hAe : va_A [(xX, .inr (11, [.ref xT, .int 0, .ref xW, .ref xR, .ref xM, .ref xS, .int (-1), .int 0, .int (-1)]))] s.heap.size = A at hD ⊢
  have hA : ∀ q : Nat, s.heap.size ≤ q → A q := fun q h => by rw [← hAe]; exact Or.inr h
  have hS : va_S A s.heap s.heap [] := va_S.rf
  have hP : va_P (dC, dI) vwCl [(xX, .inr (11, [.ref xT, .int 0, .ref xW, .ref xR, .ref xM, .ref xS, .int (-1), .int 0, .int (-1)]))] s.heap := hP
  have hl := lv_entry ([.ref xX]) (n := 4) (Nat.le_of_ble_eq_true rfl)
  rw [lg_entry_eq]
  generalize (lg_sl ([.ref xX]) ++ List.replicate (4 - (lg_sl ([.ref xX])).length) Slot.unset).toArray = ls at hl ⊢
  have hl : lv_has ls 4 [(0, .ref xX)] := hl
  refine lv_aload_n hx hb dX11_rain_0 rfl (lv_at hl 0 rfl) ?_
  have hPc := hP.sub (ws' := [(xX, .inr (11, [.ref xT, .int 0, .ref xW, .ref xR, .ref xM, .ref xS, .int (-1), .int 0, .int (-1)]))]) [0] rfl
  have hDc := hD.sub (ws' := [(xX, .inr (11, [.ref xT, .int 0, .ref xW, .ref xR, .ref xM, .ref xS, .int (-1), .int 0, .int (-1)]))]) [0] (by decide) rfl
  have hKc := hK.sub (tys' := []) [] rfl
  have hFc := va_free (wc := [(xX, .inr (11, [.ref xT, .int 0, .ref xW, .ref xR, .ref xM, .ref xS, .int (-1), .int 0, .int (-1)]))]) hD hS hA [0] rfl
  refine va_calli (va_runV (As := []) (rest := []) ⟨hx, hb, hml, hown, hts⟩ (c_tapeIsRain l dC dI s.heap.size xX xT xW xR xM xS) (cwV 0 hts (gV kw_3_222 kw_3_224 kw_p_1 kw_1_1 kw_3_225) rfl rfl rfl (by decide +kernel) ⟨Nat.le_of_ble_eq_true rfl, Nat.le_of_ble_eq_true rfl⟩) ⟨fun a U g mk q => by obtain ⟨q0, q1, qP, qK, qD⟩ := q; exact ⟨q0, q1, qP, va_K.moved (u := U) (U := U.calling g mk a) (Vm.Alike.refl U.vm) qK, qD⟩, va_recv hKc hPc (ci := 11) (q0 := 0) rfl rfl, fun U hU hW => ⟨rfl, by rw [hU], by rw [hU]; exact hPc, va_K.moved hW.alike hKc, hDc.weaken (fun _ _ _ _ => trivial)⟩⟩ rfl rfl hl.1 rfl (lv_room (Nat.le_of_ble_eq_true rfl)) dX11_rain_1 ⟨Nat.le_of_ble_eq_true rfl, Nat.le_of_ble_eq_true rfl⟩) hS (fun q _ h => hFc q h) hFc (fun r_1 u t H1 locs ht hvm hw hB hz1 hk1 hS => ?_)
  obtain ⟨hP1, hK1, hD1⟩ := hB
  rw [ht] at hP1
  have hK1 := va_K.moved hvm.symm hK1
  obtain ⟨hP, hD⟩ := va_join (wr := []) (w1 := [(xX, .inr (11, [.ref xT, .int 0, .ref xW, .ref xR, .ref xM, .ref xS, .int (-1), .int 0, .int (-1)]))]) hP hD [0] [] rfl rfl (by decide) (by decide) hk1 hFc hP1 hD1
  have hK := (hK.sub (tys' := []) [] rfl).app hK1
  generalize H1 = H at hP hS ⊢
  have hP : va_P (dC, dI) vwCl [(xX, .inr (11, [.ref xT, .int 0, .ref xW, .ref xR, .ref xM, .ref xS, .int (-1), .int 0, .int (-1)]))] H := hP
  have hD : va_D A [(xX, .inr (11, [.ref xT, .int 0, .ref xW, .ref xR, .ref xM, .ref xS, .int (-1), .int 0, .int (-1)]))] := hD
  have hK : va_K (dC, dI) vwCl [] s := hK
  subst hw
  refine lv_istore_n (lv' := [(1, .int 0), (0, .ref xX)]) hx hb dX11_rain_4 rfl hl (by decide) rfl (fun ls hl => ?_)
  refine lv_iload_n hx hb dX11_rain_5 rfl (lv_at hl 0 rfl) ?_
  refine lv_if_eq (tgt := 87) hx hb dX11_rain_6 (by decide) (fun c_3 => ?_) (fun c_3 => ?_)
  rotate_left
  · exact (c_3 (by decide)).elim
  refine lv_aload_n hx hb dX11_rain_87 rfl (lv_at hl 1 rfl) ?_
  refine lv_iconst (v := 0) hx hb dX11_rain_88 (by decide) ?_
  refine va_put (D := (dC, dI)) (ci := 11) (v := .int 0) (ty := .int) (C := RX11) (T := TX11) (N := 9) hx hb hts iCX11 tyX11 tyX11_ok nmX11 hown hK hP hD hS 0 rfl rfl 1 (by decide) (hts (.fieldLink RX11 50 "WalkingTown" "tapeSize" "I") (List.mem_cons_of_mem _ kw_3_92)) (fun _ h9 => h9) rfl (by decide +kernel) rfl rfl (Nat.le_of_ble_eq_true rfl) dX11_rain_89 (fun H locs hP hD hS => ?_)
  have hP : va_P (dC, dI) vwCl [(xX, .inr (11, [.ref xT, .int 0, .ref xW, .ref xR, .ref xM, .ref xS, .int (-1), .int 0, .int (-1)]))] H := hP
  have hD : va_D A [(xX, .inr (11, [.ref xT, .int 0, .ref xW, .ref xR, .ref xM, .ref xS, .int (-1), .int 0, .int (-1)]))] := hD
  refine lv_iload_n hx hb dX11_rain_92 rfl (lv_at hl 0 rfl) ?_
  refine W.widen (k := 0) (n := 0) (Nat.le_of_ble_eq_true rfl) (Nat.le_of_ble_eq_true rfl) ?_
  exact W.zret (v := 0) hx hb hr (by decide) (fun t ht hW => ⟨⟨0, (), rfl, rfl, trivial⟩, hS.F ht⟩) hS.2.2 dX11_rain_93
set_option maxHeartbeats 4000000 in
set_option maxRecDepth 100000 in
theorem x_wet (l : Launch) (dC : Nat → ClassId) (dI : Nat → Nat → Nat) (sz : Nat) (a : Int32) (xX : Nat) (xT : Nat) (xW : Nat) (xR : Nat) (xM : Nat) (xS : Nat) (xRo : Nat) (xPe : Nat) (xWh : Nat) (xTr : Nat) (xCo : Nat) (xAl : Nat) (xNl : Nat) (xDr : Nat) (xFa : Nat) : Met l yX11_wet (.code yX11_wet cX11_wet 2 (some .int) :: lw_good) ({ frames := 14, cells := 0, slots := 0, locals := 500 }) (va_Pc [.ref xX, .int a] (fun U => U.heap.size = sz ∧ va_P (dC, dI) vwCl [(xX, .inr (11, [.ref xT, .int 0, .ref xW, .ref xR, .ref xM, .ref xS, .int (-1), .int 0, .int (-1)])), (xW, .inr (7, [.ref xRo, .ref xPe, .ref xWh, .ref xTr, .ref xCo, .int 0, .ref xAl, .ref xNl, .ref xDr, .int 0, .ref xFa, .int 0, .int 0, .int 0]))] U.heap ∧ va_K (dC, dI) vwCl [] U ∧ va_D (fun _ => True) [(xX, .inr (11, [.ref xT, .int 0, .ref xW, .ref xR, .ref xM, .ref xS, .int (-1), .int 0, .int (-1)])), (xW, .inr (7, [.ref xRo, .ref xPe, .ref xWh, .ref xTr, .ref xCo, .int 0, .ref xAl, .ref xNl, .ref xDr, .int 0, .ref xFa, .int 0, .int 0, .int 0]))])) (va_Qi (fun (r : Int32) (_ : Unit) => r = sp_wet a) (fun (_ : Unit) (_ : State) => True) (va_A [(xX, .inr (11, [.ref xT, .int 0, .ref xW, .ref xR, .ref xM, .ref xS, .int (-1), .int 0, .int (-1)])), (xW, .inr (7, [.ref xRo, .ref xPe, .ref xWh, .ref xTr, .ref xCo, .int 0, .ref xAl, .ref xNl, .ref xDr, .int 0, .ref xFa, .int 0, .int 0, .int 0]))] sz)) 0 0 (va_A [(xX, .inr (11, [.ref xT, .int 0, .ref xW, .ref xR, .ref xM, .ref xS, .int (-1), .int 0, .int (-1)])), (xW, .inr (7, [.ref xRo, .ref xPe, .ref xWh, .ref xTr, .ref xCo, .int 0, .ref xAl, .ref xNl, .ref xDr, .int 0, .ref xFa, .int 0, .int 0, .int 0]))] sz) := by
  refine Met.ofW (cc := cX11_wet) (maxL := 2) (ret := (some .int)) (by decide) rfl ?_
  intro p e s m args below meth c s₁ B hml hv
  obtain ⟨rfl, hsz, hP, hK, hD0⟩ := hv
  have hx := B.exec
  have hb := B.bytes
  have hr := B.returns
  have hts := atoms_spec (ws := (.code yX11_wet cX11_wet 2 (some .int) :: lw_good)) B.pre
  have hown : s.vm.findClass RX11 = some m.cls := findClass_of_methodNamed B.named
  have hlocks := B.notSynchronized
  subst hsz
  have hD := hD0.self (sz := s.heap.size)
  generalize hAe : va_A [(xX, .inr (11, [.ref xT, .int 0, .ref xW, .ref xR, .ref xM, .ref xS, .int (-1), .int 0, .int (-1)])), (xW, .inr (7, [.ref xRo, .ref xPe, .ref xWh, .ref xTr, .ref xCo, .int 0, .ref xAl, .ref xNl, .ref xDr, .int 0, .ref xFa, .int 0, .int 0, .int 0]))] s.heap.size = A at hD ⊢
  have hA : ∀ q : Nat, s.heap.size ≤ q → A q := fun q h => by rw [← hAe]; exact Or.inr h
  have hS : va_S A s.heap s.heap [] := va_S.rf
  have hP : va_P (dC, dI) vwCl [(xX, .inr (11, [.ref xT, .int 0, .ref xW, .ref xR, .ref xM, .ref xS, .int (-1), .int 0, .int (-1)])), (xW, .inr (7, [.ref xRo, .ref xPe, .ref xWh, .ref xTr, .ref xCo, .int 0, .ref xAl, .ref xNl, .ref xDr, .int 0, .ref xFa, .int 0, .int 0, .int 0]))] s.heap := hP
  have hl := lv_entry ([.ref xX, .int a]) (n := 2) (Nat.le_of_ble_eq_true rfl)
  rw [lg_entry_eq]
  generalize (lg_sl ([.ref xX, .int a]) ++ List.replicate (2 - (lg_sl ([.ref xX, .int a])).length) Slot.unset).toArray = ls at hl ⊢
  have hl : lv_has ls 2 [(0, .ref xX), (1, .int a)] := hl
  refine lv_iload_n hx hb dX11_wet_0 rfl (lv_at hl 1 rfl) ?_
  refine lv_if_lt (tgt := 11) hx hb dX11_wet_1 (by decide) (fun c_1 => ?_) (fun c_1 => ?_)
  · skip
    refine lv_iconst (v := (-1)) hx hb dX11_wet_11 (by decide) ?_
    refine lv_goto (tgt := 23) hx hb dX11_wet_12 (by decide) ?_
    refine W.widen (k := 0) (n := 0) (Nat.le_of_ble_eq_true rfl) (Nat.le_of_ble_eq_true rfl) ?_
    exact W.iret (v := (-1)) hx hb hr (fun t ht hW => ⟨⟨(-1), (), rfl, (by first | (simp [sp_wet, c_1]; done) | (have q0 := c_1; try simp only [Int32.lt_iff_toInt_lt, Int32.le_iff_toInt_le, my_n0, my_n1, my_n12, my_n99, my_n199, my_n200, my_n100000, my_nm1, my_n7] at q0; simp only [sp_wet, Int32.lt_iff_toInt_lt, Int32.le_iff_toInt_le, my_n0, my_n1, my_n12, my_n99, my_n199, my_n200, my_n100000, my_nm1, my_n7]; (repeat' split) <;> first | rfl | omega)), trivial⟩, hS.F ht⟩) hS.2.2 dX11_wet_23
  · skip
    refine lv_iload_n hx hb dX11_wet_4 rfl (lv_at hl 1 rfl) ?_
    refine lv_sipush (v := 199) hx hb dX11_wet_5 (by decide) ?_
    refine lv_icmp_le (tgt := 15) hx hb dX11_wet_8 (by decide) (fun c_2 => ?_) (fun c_2 => ?_)
    · skip
      refine lv_aload_n hx hb dX11_wet_15 rfl (lv_at hl 0 rfl) ?_
      refine va_get (D := (dC, dI)) (ci := 11) (v := .ref xW) (C := RX11) (T := TX11) (N := 9) hx hb hts iCX11 hown hK hP 0 rfl rfl 2 (by decide) (hts (.fieldLink RX11 16 "WalkingTown" "town" "LWalkingTown$Town;") (List.mem_cons_of_mem _ kw_3_93)) (fun _ h9 => h9) rfl dX11_wet_16 ?_
      refine lv_iload_n hx hb dX11_wet_19 rfl (lv_at hl 1 rfl) ?_
      have hPc := hP.sub (ws' := [(xW, .inr (7, [.ref xRo, .ref xPe, .ref xWh, .ref xTr, .ref xCo, .int 0, .ref xAl, .ref xNl, .ref xDr, .int 0, .ref xFa, .int 0, .int 0, .int 0]))]) [1] rfl
      have hDc := hD.sub (ws' := [(xW, .inr (7, [.ref xRo, .ref xPe, .ref xWh, .ref xTr, .ref xCo, .int 0, .ref xAl, .ref xNl, .ref xDr, .int 0, .ref xFa, .int 0, .int 0, .int 0]))]) [1] (by decide) rfl
      have hKc := hK.sub (tys' := []) [] rfl
      have hFc := va_free (wc := [(xW, .inr (7, [.ref xRo, .ref xPe, .ref xWh, .ref xTr, .ref xCo, .int 0, .ref xAl, .ref xNl, .ref xDr, .int 0, .ref xFa, .int 0, .int 0, .int 0]))]) hD hS hA [1] rfl
      refine va_calli (va_runV (As := [.int a]) (rest := []) ⟨hx, hb, hml, hown, hts⟩ (c_rainOn l dC dI s.heap.size a xW xRo xPe xWh xTr xCo xAl xNl xDr xFa) (cwV 1 hts (gV kw_3_230 kw_3_231 kw_3_232 kw_1_2 kw_3_233) rfl rfl rfl (by decide +kernel) ⟨Nat.le_of_ble_eq_true rfl, Nat.le_of_ble_eq_true rfl⟩) ⟨fun a U g mk q => by obtain ⟨q0, q1, qP, qK, qD⟩ := q; exact ⟨q0, q1, qP, va_K.moved (u := U) (U := U.calling g mk a) (Vm.Alike.refl U.vm) qK, qD⟩, va_recv hKc hPc (ci := 7) (q0 := 0) rfl rfl, fun U hU hW => ⟨rfl, by rw [hU], by rw [hU]; exact hPc, va_K.moved hW.alike hKc, hDc.weaken (fun _ _ _ _ => trivial)⟩⟩ rfl rfl hl.1 rfl (lv_room (Nat.le_of_ble_eq_true rfl)) dX11_wet_20 ⟨Nat.le_of_ble_eq_true rfl, Nat.le_of_ble_eq_true rfl⟩) hS (fun q _ h => hFc q h) hFc (fun r_3 u t H1 locs ht hvm hw hB hz1 hk1 hS => ?_)
      obtain ⟨hP1, hK1, hD1⟩ := hB
      rw [ht] at hP1
      have hK1 := va_K.moved hvm.symm hK1
      obtain ⟨hP, hD⟩ := va_join (wr := [(xX, .inr (11, [.ref xT, .int 0, .ref xW, .ref xR, .ref xM, .ref xS, .int (-1), .int 0, .int (-1)]))]) (w1 := [(xW, .inr (7, [.ref xRo, .ref xPe, .ref xWh, .ref xTr, .ref xCo, .int 0, .ref xAl, .ref xNl, .ref xDr, .int 0, .ref xFa, .int 0, .int 0, .int 0]))]) hP hD [1] [0] rfl rfl (by decide) (by decide) hk1 hFc hP1 hD1
      have hK := (hK.sub (tys' := []) [] rfl).app hK1
      generalize H1 = H at hP hS ⊢
      have hP : va_P (dC, dI) vwCl [(xX, .inr (11, [.ref xT, .int 0, .ref xW, .ref xR, .ref xM, .ref xS, .int (-1), .int 0, .int (-1)])), (xW, .inr (7, [.ref xRo, .ref xPe, .ref xWh, .ref xTr, .ref xCo, .int 0, .ref xAl, .ref xNl, .ref xDr, .int 0, .ref xFa, .int 0, .int 0, .int 0]))] H := hP
      have hD : va_D A [(xX, .inr (11, [.ref xT, .int 0, .ref xW, .ref xR, .ref xM, .ref xS, .int (-1), .int 0, .int (-1)])), (xW, .inr (7, [.ref xRo, .ref xPe, .ref xWh, .ref xTr, .ref xCo, .int 0, .ref xAl, .ref xNl, .ref xDr, .int 0, .ref xFa, .int 0, .int 0, .int 0]))] := hD
      have hK : va_K (dC, dI) vwCl [] s := hK
      subst hw
      refine W.widen (k := 0) (n := 0) (Nat.le_of_ble_eq_true rfl) (Nat.le_of_ble_eq_true rfl) ?_
      exact W.iret (v := 0) hx hb hr (fun t ht hW => ⟨⟨0, (), rfl, (by first | (simp [sp_wet, c_1, c_2]; done) | (have q0 := c_1; have q1 := c_2; try simp only [Int32.lt_iff_toInt_lt, Int32.le_iff_toInt_le, my_n0, my_n1, my_n12, my_n99, my_n199, my_n200, my_n100000, my_nm1, my_n7] at q0 q1; simp only [sp_wet, Int32.lt_iff_toInt_lt, Int32.le_iff_toInt_le, my_n0, my_n1, my_n12, my_n99, my_n199, my_n200, my_n100000, my_nm1, my_n7]; (repeat' split) <;> first | rfl | omega)), trivial⟩, hS.F ht⟩) hS.2.2 dX11_wet_23
    · skip
      refine lv_iconst (v := (-1)) hx hb dX11_wet_11 (by decide) ?_
      refine lv_goto (tgt := 23) hx hb dX11_wet_12 (by decide) ?_
      refine W.widen (k := 0) (n := 0) (Nat.le_of_ble_eq_true rfl) (Nat.le_of_ble_eq_true rfl) ?_
      exact W.iret (v := (-1)) hx hb hr (fun t ht hW => ⟨⟨(-1), (), rfl, (by first | (simp [sp_wet, c_1, c_2]; done) | (have q0 := c_1; have q1 := c_2; try simp only [Int32.lt_iff_toInt_lt, Int32.le_iff_toInt_le, my_n0, my_n1, my_n12, my_n99, my_n199, my_n200, my_n100000, my_nm1, my_n7] at q0 q1; simp only [sp_wet, Int32.lt_iff_toInt_lt, Int32.le_iff_toInt_le, my_n0, my_n1, my_n12, my_n99, my_n199, my_n200, my_n100000, my_nm1, my_n7]; (repeat' split) <;> first | rfl | omega)), trivial⟩, hS.F ht⟩) hS.2.2 dX11_wet_23
set_option maxHeartbeats 4000000 in
set_option maxRecDepth 100000 in
theorem x_fault (l : Launch) (dC : Nat → ClassId) (dI : Nat → Nat → Nat) (sz : Nat) (xX : Nat) (xT : Nat) (xW : Nat) (xR : Nat) (xM : Nat) (xS : Nat) : Met l yX11_fault (.code yX11_fault cX11_fault 1 (some .int) :: lw_good) ({ frames := 14, cells := 0, slots := 0, locals := 500 }) (va_Pc [.ref xX] (fun U => U.heap.size = sz ∧ va_P (dC, dI) vwCl [(xX, .inr (11, [.ref xT, .int 0, .ref xW, .ref xR, .ref xM, .ref xS, .int (-1), .int 0, .int (-1)]))] U.heap ∧ va_K (dC, dI) vwCl [] U ∧ va_D (fun _ => True) [(xX, .inr (11, [.ref xT, .int 0, .ref xW, .ref xR, .ref xM, .ref xS, .int (-1), .int 0, .int (-1)]))])) (va_Qi (fun (r : Int32) (_ : Unit) => r = 0) (fun (_ : Unit) (_ : State) => True) (va_A [(xX, .inr (11, [.ref xT, .int 0, .ref xW, .ref xR, .ref xM, .ref xS, .int (-1), .int 0, .int (-1)]))] sz)) 0 0 (va_A [(xX, .inr (11, [.ref xT, .int 0, .ref xW, .ref xR, .ref xM, .ref xS, .int (-1), .int 0, .int (-1)]))] sz) := by
  refine Met.ofW (cc := cX11_fault) (maxL := 1) (ret := (some .int)) (by decide) rfl ?_
  intro p e s m args below meth c s₁ B hml hv
  obtain ⟨rfl, hsz, hP, hK, hD0⟩ := hv
  have hx := B.exec
  have hb := B.bytes
  have hr := B.returns
  have hts := atoms_spec (ws := (.code yX11_fault cX11_fault 1 (some .int) :: lw_good)) B.pre
  have hown : s.vm.findClass RX11 = some m.cls := findClass_of_methodNamed B.named
  have hlocks := B.notSynchronized
  subst hsz
  have hD := hD0.self (sz := s.heap.size)
  generalize hAe : va_A [(xX, .inr (11, [.ref xT, .int 0, .ref xW, .ref xR, .ref xM, .ref xS, .int (-1), .int 0, .int (-1)]))] s.heap.size = A at hD ⊢
  have hA : ∀ q : Nat, s.heap.size ≤ q → A q := fun q h => by rw [← hAe]; exact Or.inr h
  have hS : va_S A s.heap s.heap [] := va_S.rf
  have hP : va_P (dC, dI) vwCl [(xX, .inr (11, [.ref xT, .int 0, .ref xW, .ref xR, .ref xM, .ref xS, .int (-1), .int 0, .int (-1)]))] s.heap := hP
  have hl := lv_entry ([.ref xX]) (n := 1) (Nat.le_of_ble_eq_true rfl)
  rw [lg_entry_eq]
  generalize (lg_sl ([.ref xX]) ++ List.replicate (1 - (lg_sl ([.ref xX])).length) Slot.unset).toArray = ls at hl ⊢
  have hl : lv_has ls 1 [(0, .ref xX)] := hl
  refine lv_aload_n hx hb dX11_fault_0 rfl (lv_at hl 0 rfl) ?_
  refine va_get (D := (dC, dI)) (ci := 11) (v := .int 0) (C := RX11) (T := TX11) (N := 9) hx hb hts iCX11 hown hK hP 0 rfl rfl 7 (by decide) (hts (.fieldLink RX11 171 "WalkingTown" "faultKind" "I") (List.mem_cons_of_mem _ kw_3_98)) (fun _ h9 => h9) rfl dX11_fault_1 ?_
  refine W.widen (k := 0) (n := 0) (Nat.le_of_ble_eq_true rfl) (Nat.le_of_ble_eq_true rfl) ?_
  exact W.iret (v := 0) hx hb hr (fun t ht hW => ⟨⟨0, (), rfl, rfl, trivial⟩, hS.F ht⟩) hS.2.2 dX11_fault_4
set_option maxHeartbeats 4000000 in
set_option maxRecDepth 100000 in
theorem x_told (l : Launch) (dC : Nat → ClassId) (dI : Nat → Nat → Nat) (sz : Nat) (a : Int32) (b : Int32) (c3 : Int32) (d4 : Int32) (xX : Nat) (xT : Nat) (xW : Nat) (xR : Nat) (xM : Nat) (xS : Nat) (xRo : Nat) (xPe : Nat) (xWh : Nat) (xTr : Nat) (xCo : Nat) (xAl : Nat) (xNl : Nat) (xDr : Nat) (xFa : Nat) (vt1 : Value) (vt2 : Value) (vt3 : Value) (vt4 : Value) (vt5 : Value) (vt6 : Value) (vt7 : Value) (vt8 : Value) : Met l yX11_told (.code yX11_told cX11_told 6 (some .int) :: lw_good) ({ frames := 14, cells := 0, slots := 0, locals := 500 }) (va_Pc [.ref xX, .int a, .int b, .int c3, .int d4] (fun U => U.heap.size = sz ∧ va_P (dC, dI) vwCl [(xX, .inr (11, [.ref xT, .int 0, .ref xW, .ref xR, .ref xM, .ref xS, .int (-1), .int 0, .int (-1)])), (xW, .inr (7, [.ref xRo, .ref xPe, .ref xWh, .ref xTr, .ref xCo, .int 0, .ref xAl, .ref xNl, .ref xDr, .int 0, .ref xFa, .int 0, .int 0, .int 0])), (xTr, .inr (8, [.int 0, vt1, vt2, vt3, vt4, vt5, vt6, vt7, vt8]))] U.heap ∧ va_K (dC, dI) vwCl [] U ∧ va_D (fun _ => True) [(xX, .inr (11, [.ref xT, .int 0, .ref xW, .ref xR, .ref xM, .ref xS, .int (-1), .int 0, .int (-1)])), (xW, .inr (7, [.ref xRo, .ref xPe, .ref xWh, .ref xTr, .ref xCo, .int 0, .ref xAl, .ref xNl, .ref xDr, .int 0, .ref xFa, .int 0, .int 0, .int 0])), (xTr, .inr (8, [.int 0, vt1, vt2, vt3, vt4, vt5, vt6, vt7, vt8]))])) (va_Qi (fun (r : Int32) (_ : Unit) => r = (-1)) (fun (_ : Unit) (_ : State) => True) (va_A [(xX, .inr (11, [.ref xT, .int 0, .ref xW, .ref xR, .ref xM, .ref xS, .int (-1), .int 0, .int (-1)])), (xW, .inr (7, [.ref xRo, .ref xPe, .ref xWh, .ref xTr, .ref xCo, .int 0, .ref xAl, .ref xNl, .ref xDr, .int 0, .ref xFa, .int 0, .int 0, .int 0])), (xTr, .inr (8, [.int 0, vt1, vt2, vt3, vt4, vt5, vt6, vt7, vt8]))] sz)) 0 0 (va_A [(xX, .inr (11, [.ref xT, .int 0, .ref xW, .ref xR, .ref xM, .ref xS, .int (-1), .int 0, .int (-1)])), (xW, .inr (7, [.ref xRo, .ref xPe, .ref xWh, .ref xTr, .ref xCo, .int 0, .ref xAl, .ref xNl, .ref xDr, .int 0, .ref xFa, .int 0, .int 0, .int 0])), (xTr, .inr (8, [.int 0, vt1, vt2, vt3, vt4, vt5, vt6, vt7, vt8]))] sz) := by
  refine Met.ofW (cc := cX11_told) (maxL := 6) (ret := (some .int)) (by decide) rfl ?_
  intro p e s m args below meth c s₁ B hml hv
  obtain ⟨rfl, hsz, hP, hK, hD0⟩ := hv
  have hx := B.exec
  have hb := B.bytes
  have hr := B.returns
  have hts := atoms_spec (ws := (.code yX11_told cX11_told 6 (some .int) :: lw_good)) B.pre
  have hown : s.vm.findClass RX11 = some m.cls := findClass_of_methodNamed B.named
  have hlocks := B.notSynchronized
  subst hsz
  have hD := hD0.self (sz := s.heap.size)
  generalize hAe : va_A [(xX, .inr (11, [.ref xT, .int 0, .ref xW, .ref xR, .ref xM, .ref xS, .int (-1), .int 0, .int (-1)])), (xW, .inr (7, [.ref xRo, .ref xPe, .ref xWh, .ref xTr, .ref xCo, .int 0, .ref xAl, .ref xNl, .ref xDr, .int 0, .ref xFa, .int 0, .int 0, .int 0])), (xTr, .inr (8, [.int 0, vt1, vt2, vt3, vt4, vt5, vt6, vt7, vt8]))] s.heap.size = A at hD ⊢
  have hA : ∀ q : Nat, s.heap.size ≤ q → A q := fun q h => by rw [← hAe]; exact Or.inr h
  have hS : va_S A s.heap s.heap [] := va_S.rf
  have hP : va_P (dC, dI) vwCl [(xX, .inr (11, [.ref xT, .int 0, .ref xW, .ref xR, .ref xM, .ref xS, .int (-1), .int 0, .int (-1)])), (xW, .inr (7, [.ref xRo, .ref xPe, .ref xWh, .ref xTr, .ref xCo, .int 0, .ref xAl, .ref xNl, .ref xDr, .int 0, .ref xFa, .int 0, .int 0, .int 0])), (xTr, .inr (8, [.int 0, vt1, vt2, vt3, vt4, vt5, vt6, vt7, vt8]))] s.heap := hP
  have hl := lv_entry ([.ref xX, .int a, .int b, .int c3, .int d4]) (n := 6) (Nat.le_of_ble_eq_true rfl)
  rw [lg_entry_eq]
  generalize (lg_sl ([.ref xX, .int a, .int b, .int c3, .int d4]) ++ List.replicate (6 - (lg_sl ([.ref xX, .int a, .int b, .int c3, .int d4])).length) Slot.unset).toArray = ls at hl ⊢
  have hl : lv_has ls 6 [(0, .ref xX), (1, .int a), (2, .int b), (3, .int c3), (4, .int d4)] := hl
  refine lv_aload_n hx hb dX11_told_0 rfl (lv_at hl 0 rfl) ?_
  refine lv_iconst (v := (-1)) hx hb dX11_told_1 (by decide) ?_
  refine va_put (D := (dC, dI)) (ci := 11) (v := .int (-1)) (ty := .int) (C := RX11) (T := TX11) (N := 9) hx hb hts iCX11 tyX11 tyX11_ok nmX11 hown hK hP hD hS 0 rfl rfl 6 (by decide) (hts (.fieldLink RX11 43 "WalkingTown" "toldLine" "I") (List.mem_cons_of_mem _ kw_3_97)) (fun _ h9 => h9) rfl (by decide +kernel) rfl rfl (Nat.le_of_ble_eq_true rfl) dX11_told_2 (fun H locs hP hD hS => ?_)
  have hP : va_P (dC, dI) vwCl [(xX, .inr (11, [.ref xT, .int 0, .ref xW, .ref xR, .ref xM, .ref xS, .int (-1), .int 0, .int (-1)])), (xW, .inr (7, [.ref xRo, .ref xPe, .ref xWh, .ref xTr, .ref xCo, .int 0, .ref xAl, .ref xNl, .ref xDr, .int 0, .ref xFa, .int 0, .int 0, .int 0])), (xTr, .inr (8, [.int 0, vt1, vt2, vt3, vt4, vt5, vt6, vt7, vt8]))] H := hP
  have hD : va_D A [(xX, .inr (11, [.ref xT, .int 0, .ref xW, .ref xR, .ref xM, .ref xS, .int (-1), .int 0, .int (-1)])), (xW, .inr (7, [.ref xRo, .ref xPe, .ref xWh, .ref xTr, .ref xCo, .int 0, .ref xAl, .ref xNl, .ref xDr, .int 0, .ref xFa, .int 0, .int 0, .int 0])), (xTr, .inr (8, [.int 0, vt1, vt2, vt3, vt4, vt5, vt6, vt7, vt8]))] := hD
  refine lv_aload_n hx hb dX11_told_5 rfl (lv_at hl 0 rfl) ?_
  refine va_get (D := (dC, dI)) (ci := 11) (v := .ref xW) (C := RX11) (T := TX11) (N := 9) hx hb hts iCX11 hown hK hP 0 rfl rfl 2 (by decide) (hts (.fieldLink RX11 16 "WalkingTown" "town" "LWalkingTown$Town;") (List.mem_cons_of_mem _ kw_3_93)) (fun _ h9 => h9) rfl dX11_told_6 ?_
  refine va_get (D := (dC, dI)) (ci := 7) (v := .ref xTr) (C := RX7) (T := TX7) (N := 14) hx hb hts iCX7 hown hK hP 1 rfl rfl 3 (by decide) (hts (.fieldLink RX11 116 "WalkingTown$Town" "trips" "LWalkingTown$Trips;") (List.mem_cons_of_mem _ kw_2_74)) (fun _ h9 => h9) rfl dX11_told_9 ?_
  refine lv_iload_n hx hb dX11_told_12 rfl (lv_at hl 1 rfl) ?_
  have hPc := hP.sub (ws' := [(xTr, .inr (8, [.int 0, vt1, vt2, vt3, vt4, vt5, vt6, vt7, vt8]))]) [2] rfl
  have hDc := hD.sub (ws' := [(xTr, .inr (8, [.int 0, vt1, vt2, vt3, vt4, vt5, vt6, vt7, vt8]))]) [2] (by decide) rfl
  have hKc := hK.sub (tys' := []) [] rfl
  have hFc := va_free (wc := [(xTr, .inr (8, [.int 0, vt1, vt2, vt3, vt4, vt5, vt6, vt7, vt8]))]) hD hS hA [2] rfl
  refine va_calli (va_runV (As := [.int a]) (rest := []) ⟨hx, hb, hml, hown, hts⟩ (c_Trips_has l dC dI H.size xTr a (vt1 : Value) (vt2 : Value) (vt3 : Value) (vt4 : Value) (vt5 : Value) (vt6 : Value) (vt7 : Value) (vt8 : Value)) (cwV 1 hts (gV kw_4_237 kw_4_238 kw_4_239 kw_1_6 kw_5_0) rfl rfl rfl (by decide +kernel) ⟨Nat.le_of_ble_eq_true rfl, Nat.le_of_ble_eq_true rfl⟩) ⟨fun a U g mk q => by obtain ⟨q0, q1, qP, qK, qD⟩ := q; exact ⟨q0, q1, qP, va_K.moved (u := U) (U := U.calling g mk a) (Vm.Alike.refl U.vm) qK, qD⟩, va_recv hKc hPc (ci := 8) (q0 := 0) rfl rfl, fun U hU hW => ⟨rfl, by rw [hU], by rw [hU]; exact hPc, va_K.moved hW.alike hKc, hDc.weaken (fun _ _ _ _ => trivial)⟩⟩ rfl rfl hl.1 rfl (lv_room (Nat.le_of_ble_eq_true rfl)) dX11_told_13 ⟨Nat.le_of_ble_eq_true rfl, Nat.le_of_ble_eq_true rfl⟩) hS (fun q _ h => hFc q h) hFc (fun r_1 u t H1 locs ht hvm hw hB hz1 hk1 hS => ?_)
  obtain ⟨hP1, hK1, hD1⟩ := hB
  rw [ht] at hP1
  have hK1 := va_K.moved hvm.symm hK1
  obtain ⟨hP, hD⟩ := va_join (wr := [(xX, .inr (11, [.ref xT, .int 0, .ref xW, .ref xR, .ref xM, .ref xS, .int (-1), .int 0, .int (-1)])), (xW, .inr (7, [.ref xRo, .ref xPe, .ref xWh, .ref xTr, .ref xCo, .int 0, .ref xAl, .ref xNl, .ref xDr, .int 0, .ref xFa, .int 0, .int 0, .int 0]))]) (w1 := [(xTr, .inr (8, [.int 0, vt1, vt2, vt3, vt4, vt5, vt6, vt7, vt8]))]) hP hD [2] [0, 1] rfl rfl (by decide) (by decide) hk1 hFc hP1 hD1
  have hK := (hK.sub (tys' := []) [] rfl).app hK1
  generalize H1 = H at hP hS ⊢
  have hP : va_P (dC, dI) vwCl [(xX, .inr (11, [.ref xT, .int 0, .ref xW, .ref xR, .ref xM, .ref xS, .int (-1), .int 0, .int (-1)])), (xW, .inr (7, [.ref xRo, .ref xPe, .ref xWh, .ref xTr, .ref xCo, .int 0, .ref xAl, .ref xNl, .ref xDr, .int 0, .ref xFa, .int 0, .int 0, .int 0])), (xTr, .inr (8, [.int 0, vt1, vt2, vt3, vt4, vt5, vt6, vt7, vt8]))] H := hP
  have hD : va_D A [(xX, .inr (11, [.ref xT, .int 0, .ref xW, .ref xR, .ref xM, .ref xS, .int (-1), .int 0, .int (-1)])), (xW, .inr (7, [.ref xRo, .ref xPe, .ref xWh, .ref xTr, .ref xCo, .int 0, .ref xAl, .ref xNl, .ref xDr, .int 0, .ref xFa, .int 0, .int 0, .int 0])), (xTr, .inr (8, [.int 0, vt1, vt2, vt3, vt4, vt5, vt6, vt7, vt8]))] := hD
  have hK : va_K (dC, dI) vwCl [] s := hK
  subst hw
  refine lv_if_eq (tgt := 37) hx hb dX11_told_16 (by decide) (fun c_3 => ?_) (fun c_3 => ?_)
  rotate_left
  · exact (c_3 (by decide)).elim
  refine lv_iconst (v := (-1)) hx hb dX11_told_37 (by decide) ?_
  refine W.widen (k := 0) (n := 0) (Nat.le_of_ble_eq_true rfl) (Nat.le_of_ble_eq_true rfl) ?_
  exact W.iret (v := (-1)) hx hb hr (fun t ht hW => ⟨⟨(-1), (), rfl, rfl, trivial⟩, hS.F ht⟩) hS.2.2 dX11_told_38
set_option maxHeartbeats 4000000 in
set_option maxRecDepth 100000 in
theorem x_why (l : Launch) (dC : Nat → ClassId) (dI : Nat → Nat → Nat) (sz : Nat) (xX : Nat) (xT : Nat) (xW : Nat) (xR : Nat) (xM : Nat) (xS : Nat) : Met l yX11_why (.code yX11_why cX11_why 1 (some .int) :: lw_good) ({ frames := 14, cells := 0, slots := 0, locals := 500 }) (va_Pc [.ref xX] (fun U => U.heap.size = sz ∧ va_P (dC, dI) vwCl [(xX, .inr (11, [.ref xT, .int 0, .ref xW, .ref xR, .ref xM, .ref xS, .int (-1), .int 0, .int (-1)]))] U.heap ∧ va_K (dC, dI) vwCl [] U ∧ va_D (fun _ => True) [(xX, .inr (11, [.ref xT, .int 0, .ref xW, .ref xR, .ref xM, .ref xS, .int (-1), .int 0, .int (-1)]))])) (va_Qi (fun (r : Int32) (_ : Unit) => r = (-1)) (fun (_ : Unit) (_ : State) => True) (va_A [(xX, .inr (11, [.ref xT, .int 0, .ref xW, .ref xR, .ref xM, .ref xS, .int (-1), .int 0, .int (-1)]))] sz)) 0 0 (va_A [(xX, .inr (11, [.ref xT, .int 0, .ref xW, .ref xR, .ref xM, .ref xS, .int (-1), .int 0, .int (-1)]))] sz) := by
  refine Met.ofW (cc := cX11_why) (maxL := 1) (ret := (some .int)) (by decide) rfl ?_
  intro p e s m args below meth c s₁ B hml hv
  obtain ⟨rfl, hsz, hP, hK, hD0⟩ := hv
  have hx := B.exec
  have hb := B.bytes
  have hr := B.returns
  have hts := atoms_spec (ws := (.code yX11_why cX11_why 1 (some .int) :: lw_good)) B.pre
  have hown : s.vm.findClass RX11 = some m.cls := findClass_of_methodNamed B.named
  have hlocks := B.notSynchronized
  subst hsz
  have hD := hD0.self (sz := s.heap.size)
  generalize hAe : va_A [(xX, .inr (11, [.ref xT, .int 0, .ref xW, .ref xR, .ref xM, .ref xS, .int (-1), .int 0, .int (-1)]))] s.heap.size = A at hD ⊢
  have hA : ∀ q : Nat, s.heap.size ≤ q → A q := fun q h => by rw [← hAe]; exact Or.inr h
  have hS : va_S A s.heap s.heap [] := va_S.rf
  have hP : va_P (dC, dI) vwCl [(xX, .inr (11, [.ref xT, .int 0, .ref xW, .ref xR, .ref xM, .ref xS, .int (-1), .int 0, .int (-1)]))] s.heap := hP
  have hl := lv_entry ([.ref xX]) (n := 1) (Nat.le_of_ble_eq_true rfl)
  rw [lg_entry_eq]
  generalize (lg_sl ([.ref xX]) ++ List.replicate (1 - (lg_sl ([.ref xX])).length) Slot.unset).toArray = ls at hl ⊢
  have hl : lv_has ls 1 [(0, .ref xX)] := hl
  refine lv_aload_n hx hb dX11_why_0 rfl (lv_at hl 0 rfl) ?_
  refine va_get (D := (dC, dI)) (ci := 11) (v := .int (-1)) (C := RX11) (T := TX11) (N := 9) hx hb hts iCX11 hown hK hP 0 rfl rfl 6 (by decide) (hts (.fieldLink RX11 43 "WalkingTown" "toldLine" "I") (List.mem_cons_of_mem _ kw_3_97)) (fun _ h9 => h9) rfl dX11_why_1 ?_
  refine W.widen (k := 0) (n := 0) (Nat.le_of_ble_eq_true rfl) (Nat.le_of_ble_eq_true rfl) ?_
  exact W.iret (v := (-1)) hx hb hr (fun t ht hW => ⟨⟨(-1), (), rfl, rfl, trivial⟩, hS.F ht⟩) hS.2.2 dX11_why_4
set_option maxHeartbeats 4000000 in
set_option maxRecDepth 100000 in
theorem x_rode (l : Launch) (dC : Nat → ClassId) (dI : Nat → Nat → Nat) (sz : Nat) (a : Int32) (xX : Nat) (xT : Nat) (xW : Nat) (xR : Nat) (xM : Nat) (xS : Nat) (xRo : Nat) (xPe : Nat) (xWh : Nat) (xTr : Nat) (xCo : Nat) (xAl : Nat) (xNl : Nat) (xDr : Nat) (xFa : Nat) (vt1 : Value) (vt2 : Value) (vt3 : Value) (vt4 : Value) (vt5 : Value) (vt6 : Value) (vt7 : Value) (vt8 : Value) : Met l yX11_rode (.code yX11_rode cX11_rode 2 (some .int) :: lw_good) ({ frames := 14, cells := 0, slots := 0, locals := 500 }) (va_Pc [.ref xX, .int a] (fun U => U.heap.size = sz ∧ va_P (dC, dI) vwCl [(xX, .inr (11, [.ref xT, .int 0, .ref xW, .ref xR, .ref xM, .ref xS, .int (-1), .int 0, .int (-1)])), (xW, .inr (7, [.ref xRo, .ref xPe, .ref xWh, .ref xTr, .ref xCo, .int 0, .ref xAl, .ref xNl, .ref xDr, .int 0, .ref xFa, .int 0, .int 0, .int 0])), (xTr, .inr (8, [.int 0, vt1, vt2, vt3, vt4, vt5, vt6, vt7, vt8]))] U.heap ∧ va_K (dC, dI) vwCl [] U ∧ va_D (fun _ => True) [(xX, .inr (11, [.ref xT, .int 0, .ref xW, .ref xR, .ref xM, .ref xS, .int (-1), .int 0, .int (-1)])), (xW, .inr (7, [.ref xRo, .ref xPe, .ref xWh, .ref xTr, .ref xCo, .int 0, .ref xAl, .ref xNl, .ref xDr, .int 0, .ref xFa, .int 0, .int 0, .int 0])), (xTr, .inr (8, [.int 0, vt1, vt2, vt3, vt4, vt5, vt6, vt7, vt8]))])) (va_Qi (fun (r : Int32) (_ : Unit) => r = (-1)) (fun (_ : Unit) (_ : State) => True) (va_A [(xX, .inr (11, [.ref xT, .int 0, .ref xW, .ref xR, .ref xM, .ref xS, .int (-1), .int 0, .int (-1)])), (xW, .inr (7, [.ref xRo, .ref xPe, .ref xWh, .ref xTr, .ref xCo, .int 0, .ref xAl, .ref xNl, .ref xDr, .int 0, .ref xFa, .int 0, .int 0, .int 0])), (xTr, .inr (8, [.int 0, vt1, vt2, vt3, vt4, vt5, vt6, vt7, vt8]))] sz)) 0 0 (va_A [(xX, .inr (11, [.ref xT, .int 0, .ref xW, .ref xR, .ref xM, .ref xS, .int (-1), .int 0, .int (-1)])), (xW, .inr (7, [.ref xRo, .ref xPe, .ref xWh, .ref xTr, .ref xCo, .int 0, .ref xAl, .ref xNl, .ref xDr, .int 0, .ref xFa, .int 0, .int 0, .int 0])), (xTr, .inr (8, [.int 0, vt1, vt2, vt3, vt4, vt5, vt6, vt7, vt8]))] sz) := by
  refine Met.ofW (cc := cX11_rode) (maxL := 2) (ret := (some .int)) (by decide) rfl ?_
  intro p e s m args below meth c s₁ B hml hv
  obtain ⟨rfl, hsz, hP, hK, hD0⟩ := hv
  have hx := B.exec
  have hb := B.bytes
  have hr := B.returns
  have hts := atoms_spec (ws := (.code yX11_rode cX11_rode 2 (some .int) :: lw_good)) B.pre
  have hown : s.vm.findClass RX11 = some m.cls := findClass_of_methodNamed B.named
  have hlocks := B.notSynchronized
  subst hsz
  have hD := hD0.self (sz := s.heap.size)
  generalize hAe : va_A [(xX, .inr (11, [.ref xT, .int 0, .ref xW, .ref xR, .ref xM, .ref xS, .int (-1), .int 0, .int (-1)])), (xW, .inr (7, [.ref xRo, .ref xPe, .ref xWh, .ref xTr, .ref xCo, .int 0, .ref xAl, .ref xNl, .ref xDr, .int 0, .ref xFa, .int 0, .int 0, .int 0])), (xTr, .inr (8, [.int 0, vt1, vt2, vt3, vt4, vt5, vt6, vt7, vt8]))] s.heap.size = A at hD ⊢
  have hA : ∀ q : Nat, s.heap.size ≤ q → A q := fun q h => by rw [← hAe]; exact Or.inr h
  have hS : va_S A s.heap s.heap [] := va_S.rf
  have hP : va_P (dC, dI) vwCl [(xX, .inr (11, [.ref xT, .int 0, .ref xW, .ref xR, .ref xM, .ref xS, .int (-1), .int 0, .int (-1)])), (xW, .inr (7, [.ref xRo, .ref xPe, .ref xWh, .ref xTr, .ref xCo, .int 0, .ref xAl, .ref xNl, .ref xDr, .int 0, .ref xFa, .int 0, .int 0, .int 0])), (xTr, .inr (8, [.int 0, vt1, vt2, vt3, vt4, vt5, vt6, vt7, vt8]))] s.heap := hP
  have hl := lv_entry ([.ref xX, .int a]) (n := 2) (Nat.le_of_ble_eq_true rfl)
  rw [lg_entry_eq]
  generalize (lg_sl ([.ref xX, .int a]) ++ List.replicate (2 - (lg_sl ([.ref xX, .int a])).length) Slot.unset).toArray = ls at hl ⊢
  have hl : lv_has ls 2 [(0, .ref xX), (1, .int a)] := hl
  refine lv_aload_n hx hb dX11_rode_0 rfl (lv_at hl 0 rfl) ?_
  refine va_get (D := (dC, dI)) (ci := 11) (v := .ref xW) (C := RX11) (T := TX11) (N := 9) hx hb hts iCX11 hown hK hP 0 rfl rfl 2 (by decide) (hts (.fieldLink RX11 16 "WalkingTown" "town" "LWalkingTown$Town;") (List.mem_cons_of_mem _ kw_3_93)) (fun _ h9 => h9) rfl dX11_rode_1 ?_
  refine va_get (D := (dC, dI)) (ci := 7) (v := .ref xTr) (C := RX7) (T := TX7) (N := 14) hx hb hts iCX7 hown hK hP 1 rfl rfl 3 (by decide) (hts (.fieldLink RX11 116 "WalkingTown$Town" "trips" "LWalkingTown$Trips;") (List.mem_cons_of_mem _ kw_2_74)) (fun _ h9 => h9) rfl dX11_rode_4 ?_
  refine lv_iload_n hx hb dX11_rode_7 rfl (lv_at hl 1 rfl) ?_
  have hPc := hP.sub (ws' := [(xTr, .inr (8, [.int 0, vt1, vt2, vt3, vt4, vt5, vt6, vt7, vt8]))]) [2] rfl
  have hDc := hD.sub (ws' := [(xTr, .inr (8, [.int 0, vt1, vt2, vt3, vt4, vt5, vt6, vt7, vt8]))]) [2] (by decide) rfl
  have hKc := hK.sub (tys' := []) [] rfl
  have hFc := va_free (wc := [(xTr, .inr (8, [.int 0, vt1, vt2, vt3, vt4, vt5, vt6, vt7, vt8]))]) hD hS hA [2] rfl
  refine va_calli (va_runV (As := [.int a]) (rest := []) ⟨hx, hb, hml, hown, hts⟩ (c_Trips_has l dC dI s.heap.size xTr a (vt1 : Value) (vt2 : Value) (vt3 : Value) (vt4 : Value) (vt5 : Value) (vt6 : Value) (vt7 : Value) (vt8 : Value)) (cwV 1 hts (gV kw_4_237 kw_4_238 kw_4_239 kw_1_6 kw_5_0) rfl rfl rfl (by decide +kernel) ⟨Nat.le_of_ble_eq_true rfl, Nat.le_of_ble_eq_true rfl⟩) ⟨fun a U g mk q => by obtain ⟨q0, q1, qP, qK, qD⟩ := q; exact ⟨q0, q1, qP, va_K.moved (u := U) (U := U.calling g mk a) (Vm.Alike.refl U.vm) qK, qD⟩, va_recv hKc hPc (ci := 8) (q0 := 0) rfl rfl, fun U hU hW => ⟨rfl, by rw [hU], by rw [hU]; exact hPc, va_K.moved hW.alike hKc, hDc.weaken (fun _ _ _ _ => trivial)⟩⟩ rfl rfl hl.1 rfl (lv_room (Nat.le_of_ble_eq_true rfl)) dX11_rode_8 ⟨Nat.le_of_ble_eq_true rfl, Nat.le_of_ble_eq_true rfl⟩) hS (fun q _ h => hFc q h) hFc (fun r_1 u t H1 locs ht hvm hw hB hz1 hk1 hS => ?_)
  obtain ⟨hP1, hK1, hD1⟩ := hB
  rw [ht] at hP1
  have hK1 := va_K.moved hvm.symm hK1
  obtain ⟨hP, hD⟩ := va_join (wr := [(xX, .inr (11, [.ref xT, .int 0, .ref xW, .ref xR, .ref xM, .ref xS, .int (-1), .int 0, .int (-1)])), (xW, .inr (7, [.ref xRo, .ref xPe, .ref xWh, .ref xTr, .ref xCo, .int 0, .ref xAl, .ref xNl, .ref xDr, .int 0, .ref xFa, .int 0, .int 0, .int 0]))]) (w1 := [(xTr, .inr (8, [.int 0, vt1, vt2, vt3, vt4, vt5, vt6, vt7, vt8]))]) hP hD [2] [0, 1] rfl rfl (by decide) (by decide) hk1 hFc hP1 hD1
  have hK := (hK.sub (tys' := []) [] rfl).app hK1
  generalize H1 = H at hP hS ⊢
  have hP : va_P (dC, dI) vwCl [(xX, .inr (11, [.ref xT, .int 0, .ref xW, .ref xR, .ref xM, .ref xS, .int (-1), .int 0, .int (-1)])), (xW, .inr (7, [.ref xRo, .ref xPe, .ref xWh, .ref xTr, .ref xCo, .int 0, .ref xAl, .ref xNl, .ref xDr, .int 0, .ref xFa, .int 0, .int 0, .int 0])), (xTr, .inr (8, [.int 0, vt1, vt2, vt3, vt4, vt5, vt6, vt7, vt8]))] H := hP
  have hD : va_D A [(xX, .inr (11, [.ref xT, .int 0, .ref xW, .ref xR, .ref xM, .ref xS, .int (-1), .int 0, .int (-1)])), (xW, .inr (7, [.ref xRo, .ref xPe, .ref xWh, .ref xTr, .ref xCo, .int 0, .ref xAl, .ref xNl, .ref xDr, .int 0, .ref xFa, .int 0, .int 0, .int 0])), (xTr, .inr (8, [.int 0, vt1, vt2, vt3, vt4, vt5, vt6, vt7, vt8]))] := hD
  have hK : va_K (dC, dI) vwCl [] s := hK
  subst hw
  refine lv_if_eq (tgt := 29) hx hb dX11_rode_11 (by decide) (fun c_3 => ?_) (fun c_3 => ?_)
  rotate_left
  · exact (c_3 (by decide)).elim
  refine lv_iconst (v := (-1)) hx hb dX11_rode_29 (by decide) ?_
  refine W.widen (k := 0) (n := 0) (Nat.le_of_ble_eq_true rfl) (Nat.le_of_ble_eq_true rfl) ?_
  exact W.iret (v := (-1)) hx hb hr (fun t ht hW => ⟨⟨(-1), (), rfl, rfl, trivial⟩, hS.F ht⟩) hS.2.2 dX11_rode_30
set_option maxHeartbeats 4000000 in
set_option maxRecDepth 100000 in
theorem x_wheeled (l : Launch) (dC : Nat → ClassId) (dI : Nat → Nat → Nat) (sz : Nat) (a : Int32) (b : Int32) (xX : Nat) (xT : Nat) (xW : Nat) (xR : Nat) (xM : Nat) (xS : Nat) (xRo : Nat) (xPe : Nat) (xWh : Nat) (xTr : Nat) (xCo : Nat) (xAl : Nat) (xNl : Nat) (xDr : Nat) (xFa : Nat) (vh1 : Value) (vh2 : Value) (vh3 : Value) (vh4 : Value) (vh5 : Value) (vh6 : Value) (vh7 : Value) (vh8 : Value) : Met l yX11_wheeled (.code yX11_wheeled cX11_wheeled 3 (some .int) :: lw_good) ({ frames := 14, cells := 0, slots := 0, locals := 500 }) (va_Pc [.ref xX, .int a, .int b] (fun U => U.heap.size = sz ∧ va_P (dC, dI) vwCl [(xX, .inr (11, [.ref xT, .int 0, .ref xW, .ref xR, .ref xM, .ref xS, .int (-1), .int 0, .int (-1)])), (xW, .inr (7, [.ref xRo, .ref xPe, .ref xWh, .ref xTr, .ref xCo, .int 0, .ref xAl, .ref xNl, .ref xDr, .int 0, .ref xFa, .int 0, .int 0, .int 0])), (xWh, .inr (10, [.int 0, vh1, vh2, vh3, vh4, vh5, vh6, vh7, vh8]))] U.heap ∧ va_K (dC, dI) vwCl [] U ∧ va_D (fun _ => True) [(xX, .inr (11, [.ref xT, .int 0, .ref xW, .ref xR, .ref xM, .ref xS, .int (-1), .int 0, .int (-1)])), (xW, .inr (7, [.ref xRo, .ref xPe, .ref xWh, .ref xTr, .ref xCo, .int 0, .ref xAl, .ref xNl, .ref xDr, .int 0, .ref xFa, .int 0, .int 0, .int 0])), (xWh, .inr (10, [.int 0, vh1, vh2, vh3, vh4, vh5, vh6, vh7, vh8]))])) (va_Qi (fun (r : Int32) (_ : Unit) => r = (-1)) (fun (_ : Unit) (_ : State) => True) (va_A [(xX, .inr (11, [.ref xT, .int 0, .ref xW, .ref xR, .ref xM, .ref xS, .int (-1), .int 0, .int (-1)])), (xW, .inr (7, [.ref xRo, .ref xPe, .ref xWh, .ref xTr, .ref xCo, .int 0, .ref xAl, .ref xNl, .ref xDr, .int 0, .ref xFa, .int 0, .int 0, .int 0])), (xWh, .inr (10, [.int 0, vh1, vh2, vh3, vh4, vh5, vh6, vh7, vh8]))] sz)) 0 0 (va_A [(xX, .inr (11, [.ref xT, .int 0, .ref xW, .ref xR, .ref xM, .ref xS, .int (-1), .int 0, .int (-1)])), (xW, .inr (7, [.ref xRo, .ref xPe, .ref xWh, .ref xTr, .ref xCo, .int 0, .ref xAl, .ref xNl, .ref xDr, .int 0, .ref xFa, .int 0, .int 0, .int 0])), (xWh, .inr (10, [.int 0, vh1, vh2, vh3, vh4, vh5, vh6, vh7, vh8]))] sz) := by
  refine Met.ofW (cc := cX11_wheeled) (maxL := 3) (ret := (some .int)) (by decide) rfl ?_
  intro p e s m args below meth c s₁ B hml hv
  obtain ⟨rfl, hsz, hP, hK, hD0⟩ := hv
  have hx := B.exec
  have hb := B.bytes
  have hr := B.returns
  have hts := atoms_spec (ws := (.code yX11_wheeled cX11_wheeled 3 (some .int) :: lw_good)) B.pre
  have hown : s.vm.findClass RX11 = some m.cls := findClass_of_methodNamed B.named
  have hlocks := B.notSynchronized
  subst hsz
  have hD := hD0.self (sz := s.heap.size)
  generalize hAe : va_A [(xX, .inr (11, [.ref xT, .int 0, .ref xW, .ref xR, .ref xM, .ref xS, .int (-1), .int 0, .int (-1)])), (xW, .inr (7, [.ref xRo, .ref xPe, .ref xWh, .ref xTr, .ref xCo, .int 0, .ref xAl, .ref xNl, .ref xDr, .int 0, .ref xFa, .int 0, .int 0, .int 0])), (xWh, .inr (10, [.int 0, vh1, vh2, vh3, vh4, vh5, vh6, vh7, vh8]))] s.heap.size = A at hD ⊢
  have hA : ∀ q : Nat, s.heap.size ≤ q → A q := fun q h => by rw [← hAe]; exact Or.inr h
  have hS : va_S A s.heap s.heap [] := va_S.rf
  have hP : va_P (dC, dI) vwCl [(xX, .inr (11, [.ref xT, .int 0, .ref xW, .ref xR, .ref xM, .ref xS, .int (-1), .int 0, .int (-1)])), (xW, .inr (7, [.ref xRo, .ref xPe, .ref xWh, .ref xTr, .ref xCo, .int 0, .ref xAl, .ref xNl, .ref xDr, .int 0, .ref xFa, .int 0, .int 0, .int 0])), (xWh, .inr (10, [.int 0, vh1, vh2, vh3, vh4, vh5, vh6, vh7, vh8]))] s.heap := hP
  have hl := lv_entry ([.ref xX, .int a, .int b]) (n := 3) (Nat.le_of_ble_eq_true rfl)
  rw [lg_entry_eq]
  generalize (lg_sl ([.ref xX, .int a, .int b]) ++ List.replicate (3 - (lg_sl ([.ref xX, .int a, .int b])).length) Slot.unset).toArray = ls at hl ⊢
  have hl : lv_has ls 3 [(0, .ref xX), (1, .int a), (2, .int b)] := hl
  refine lv_aload_n hx hb dX11_wheeled_0 rfl (lv_at hl 0 rfl) ?_
  refine va_get (D := (dC, dI)) (ci := 11) (v := .ref xW) (C := RX11) (T := TX11) (N := 9) hx hb hts iCX11 hown hK hP 0 rfl rfl 2 (by decide) (hts (.fieldLink RX11 16 "WalkingTown" "town" "LWalkingTown$Town;") (List.mem_cons_of_mem _ kw_3_93)) (fun _ h9 => h9) rfl dX11_wheeled_1 ?_
  refine va_get (D := (dC, dI)) (ci := 7) (v := .ref xWh) (C := RX7) (T := TX7) (N := 14) hx hb hts iCX7 hown hK hP 1 rfl rfl 2 (by decide) (hts (.fieldLink RX11 101 "WalkingTown$Town" "wheels" "LWalkingTown$Wheels;") (List.mem_cons_of_mem _ kw_2_70)) (fun _ h9 => h9) rfl dX11_wheeled_4 ?_
  refine lv_iload_n hx hb dX11_wheeled_7 rfl (lv_at hl 1 rfl) ?_
  have hPc := hP.sub (ws' := [(xWh, .inr (10, [.int 0, vh1, vh2, vh3, vh4, vh5, vh6, vh7, vh8]))]) [2] rfl
  have hDc := hD.sub (ws' := [(xWh, .inr (10, [.int 0, vh1, vh2, vh3, vh4, vh5, vh6, vh7, vh8]))]) [2] (by decide) rfl
  have hKc := hK.sub (tys' := []) [] rfl
  have hFc := va_free (wc := [(xWh, .inr (10, [.int 0, vh1, vh2, vh3, vh4, vh5, vh6, vh7, vh8]))]) hD hS hA [2] rfl
  refine va_calli (va_runV (As := [.int a]) (rest := []) ⟨hx, hb, hml, hown, hts⟩ (c_Wheels_has l dC dI s.heap.size xWh a (vh1 : Value) (vh2 : Value) (vh3 : Value) (vh4 : Value) (vh5 : Value) (vh6 : Value) (vh7 : Value) (vh8 : Value)) (cwV 1 hts (gV kw_3_198 kw_3_199 kw_3_200 kw_1_5 kw_3_201) rfl rfl rfl (by decide +kernel) ⟨Nat.le_of_ble_eq_true rfl, Nat.le_of_ble_eq_true rfl⟩) ⟨fun a U g mk q => by obtain ⟨q0, q1, qP, qK, qD⟩ := q; exact ⟨q0, q1, qP, va_K.moved (u := U) (U := U.calling g mk a) (Vm.Alike.refl U.vm) qK, qD⟩, va_recv hKc hPc (ci := 10) (q0 := 0) rfl rfl, fun U hU hW => ⟨rfl, by rw [hU], by rw [hU]; exact hPc, va_K.moved hW.alike hKc, hDc.weaken (fun _ _ _ _ => trivial)⟩⟩ rfl rfl hl.1 rfl (lv_room (Nat.le_of_ble_eq_true rfl)) dX11_wheeled_8 ⟨Nat.le_of_ble_eq_true rfl, Nat.le_of_ble_eq_true rfl⟩) hS (fun q _ h => hFc q h) hFc (fun r_1 u t H1 locs ht hvm hw hB hz1 hk1 hS => ?_)
  obtain ⟨hP1, hK1, hD1⟩ := hB
  rw [ht] at hP1
  have hK1 := va_K.moved hvm.symm hK1
  obtain ⟨hP, hD⟩ := va_join (wr := [(xX, .inr (11, [.ref xT, .int 0, .ref xW, .ref xR, .ref xM, .ref xS, .int (-1), .int 0, .int (-1)])), (xW, .inr (7, [.ref xRo, .ref xPe, .ref xWh, .ref xTr, .ref xCo, .int 0, .ref xAl, .ref xNl, .ref xDr, .int 0, .ref xFa, .int 0, .int 0, .int 0]))]) (w1 := [(xWh, .inr (10, [.int 0, vh1, vh2, vh3, vh4, vh5, vh6, vh7, vh8]))]) hP hD [2] [0, 1] rfl rfl (by decide) (by decide) hk1 hFc hP1 hD1
  have hK := (hK.sub (tys' := []) [] rfl).app hK1
  generalize H1 = H at hP hS ⊢
  have hP : va_P (dC, dI) vwCl [(xX, .inr (11, [.ref xT, .int 0, .ref xW, .ref xR, .ref xM, .ref xS, .int (-1), .int 0, .int (-1)])), (xW, .inr (7, [.ref xRo, .ref xPe, .ref xWh, .ref xTr, .ref xCo, .int 0, .ref xAl, .ref xNl, .ref xDr, .int 0, .ref xFa, .int 0, .int 0, .int 0])), (xWh, .inr (10, [.int 0, vh1, vh2, vh3, vh4, vh5, vh6, vh7, vh8]))] H := hP
  have hD : va_D A [(xX, .inr (11, [.ref xT, .int 0, .ref xW, .ref xR, .ref xM, .ref xS, .int (-1), .int 0, .int (-1)])), (xW, .inr (7, [.ref xRo, .ref xPe, .ref xWh, .ref xTr, .ref xCo, .int 0, .ref xAl, .ref xNl, .ref xDr, .int 0, .ref xFa, .int 0, .int 0, .int 0])), (xWh, .inr (10, [.int 0, vh1, vh2, vh3, vh4, vh5, vh6, vh7, vh8]))] := hD
  have hK : va_K (dC, dI) vwCl [] s := hK
  subst hw
  refine lv_if_eq (tgt := 29) hx hb dX11_wheeled_11 (by decide) (fun c_3 => ?_) (fun c_3 => ?_)
  rotate_left
  · exact (c_3 (by decide)).elim
  refine lv_iconst (v := (-1)) hx hb dX11_wheeled_29 (by decide) ?_
  refine W.widen (k := 0) (n := 0) (Nat.le_of_ble_eq_true rfl) (Nat.le_of_ble_eq_true rfl) ?_
  exact W.iret (v := (-1)) hx hb hr (fun t ht hW => ⟨⟨(-1), (), rfl, rfl, trivial⟩, hS.F ht⟩) hS.2.2 dX11_wheeled_30
set_option maxHeartbeats 4000000 in
set_option maxRecDepth 100000 in
theorem x_tried (l : Launch) (dC : Nat → ClassId) (dI : Nat → Nat → Nat) (sz : Nat) (a : Int32) (xX : Nat) (xT : Nat) (xW : Nat) (xR : Nat) (xM : Nat) (xS : Nat) (xRo : Nat) (xPe : Nat) (xWh : Nat) (xTr : Nat) (xCo : Nat) (xAl : Nat) (xNl : Nat) (xDr : Nat) (xFa : Nat) (vh1 : Value) (vh2 : Value) (vh3 : Value) (vh4 : Value) (vh5 : Value) (vh6 : Value) (vh7 : Value) (vh8 : Value) : Met l yX11_tried (.code yX11_tried cX11_tried 2 (some .int) :: lw_good) ({ frames := 14, cells := 0, slots := 0, locals := 500 }) (va_Pc [.ref xX, .int a] (fun U => U.heap.size = sz ∧ va_P (dC, dI) vwCl [(xX, .inr (11, [.ref xT, .int 0, .ref xW, .ref xR, .ref xM, .ref xS, .int (-1), .int 0, .int (-1)])), (xW, .inr (7, [.ref xRo, .ref xPe, .ref xWh, .ref xTr, .ref xCo, .int 0, .ref xAl, .ref xNl, .ref xDr, .int 0, .ref xFa, .int 0, .int 0, .int 0])), (xWh, .inr (10, [.int 0, vh1, vh2, vh3, vh4, vh5, vh6, vh7, vh8]))] U.heap ∧ va_K (dC, dI) vwCl [] U ∧ va_D (fun _ => True) [(xX, .inr (11, [.ref xT, .int 0, .ref xW, .ref xR, .ref xM, .ref xS, .int (-1), .int 0, .int (-1)])), (xW, .inr (7, [.ref xRo, .ref xPe, .ref xWh, .ref xTr, .ref xCo, .int 0, .ref xAl, .ref xNl, .ref xDr, .int 0, .ref xFa, .int 0, .int 0, .int 0])), (xWh, .inr (10, [.int 0, vh1, vh2, vh3, vh4, vh5, vh6, vh7, vh8]))])) (va_Qi (fun (r : Int32) (_ : Unit) => r = (-1)) (fun (_ : Unit) (_ : State) => True) (va_A [(xX, .inr (11, [.ref xT, .int 0, .ref xW, .ref xR, .ref xM, .ref xS, .int (-1), .int 0, .int (-1)])), (xW, .inr (7, [.ref xRo, .ref xPe, .ref xWh, .ref xTr, .ref xCo, .int 0, .ref xAl, .ref xNl, .ref xDr, .int 0, .ref xFa, .int 0, .int 0, .int 0])), (xWh, .inr (10, [.int 0, vh1, vh2, vh3, vh4, vh5, vh6, vh7, vh8]))] sz)) 0 0 (va_A [(xX, .inr (11, [.ref xT, .int 0, .ref xW, .ref xR, .ref xM, .ref xS, .int (-1), .int 0, .int (-1)])), (xW, .inr (7, [.ref xRo, .ref xPe, .ref xWh, .ref xTr, .ref xCo, .int 0, .ref xAl, .ref xNl, .ref xDr, .int 0, .ref xFa, .int 0, .int 0, .int 0])), (xWh, .inr (10, [.int 0, vh1, vh2, vh3, vh4, vh5, vh6, vh7, vh8]))] sz) := by
  refine Met.ofW (cc := cX11_tried) (maxL := 2) (ret := (some .int)) (by decide) rfl ?_
  intro p e s m args below meth c s₁ B hml hv
  obtain ⟨rfl, hsz, hP, hK, hD0⟩ := hv
  have hx := B.exec
  have hb := B.bytes
  have hr := B.returns
  have hts := atoms_spec (ws := (.code yX11_tried cX11_tried 2 (some .int) :: lw_good)) B.pre
  have hown : s.vm.findClass RX11 = some m.cls := findClass_of_methodNamed B.named
  have hlocks := B.notSynchronized
  subst hsz
  have hD := hD0.self (sz := s.heap.size)
  generalize hAe : va_A [(xX, .inr (11, [.ref xT, .int 0, .ref xW, .ref xR, .ref xM, .ref xS, .int (-1), .int 0, .int (-1)])), (xW, .inr (7, [.ref xRo, .ref xPe, .ref xWh, .ref xTr, .ref xCo, .int 0, .ref xAl, .ref xNl, .ref xDr, .int 0, .ref xFa, .int 0, .int 0, .int 0])), (xWh, .inr (10, [.int 0, vh1, vh2, vh3, vh4, vh5, vh6, vh7, vh8]))] s.heap.size = A at hD ⊢
  have hA : ∀ q : Nat, s.heap.size ≤ q → A q := fun q h => by rw [← hAe]; exact Or.inr h
  have hS : va_S A s.heap s.heap [] := va_S.rf
  have hP : va_P (dC, dI) vwCl [(xX, .inr (11, [.ref xT, .int 0, .ref xW, .ref xR, .ref xM, .ref xS, .int (-1), .int 0, .int (-1)])), (xW, .inr (7, [.ref xRo, .ref xPe, .ref xWh, .ref xTr, .ref xCo, .int 0, .ref xAl, .ref xNl, .ref xDr, .int 0, .ref xFa, .int 0, .int 0, .int 0])), (xWh, .inr (10, [.int 0, vh1, vh2, vh3, vh4, vh5, vh6, vh7, vh8]))] s.heap := hP
  have hl := lv_entry ([.ref xX, .int a]) (n := 2) (Nat.le_of_ble_eq_true rfl)
  rw [lg_entry_eq]
  generalize (lg_sl ([.ref xX, .int a]) ++ List.replicate (2 - (lg_sl ([.ref xX, .int a])).length) Slot.unset).toArray = ls at hl ⊢
  have hl : lv_has ls 2 [(0, .ref xX), (1, .int a)] := hl
  refine lv_aload_n hx hb dX11_tried_0 rfl (lv_at hl 0 rfl) ?_
  refine va_get (D := (dC, dI)) (ci := 11) (v := .ref xW) (C := RX11) (T := TX11) (N := 9) hx hb hts iCX11 hown hK hP 0 rfl rfl 2 (by decide) (hts (.fieldLink RX11 16 "WalkingTown" "town" "LWalkingTown$Town;") (List.mem_cons_of_mem _ kw_3_93)) (fun _ h9 => h9) rfl dX11_tried_1 ?_
  refine va_get (D := (dC, dI)) (ci := 7) (v := .ref xWh) (C := RX7) (T := TX7) (N := 14) hx hb hts iCX7 hown hK hP 1 rfl rfl 2 (by decide) (hts (.fieldLink RX11 101 "WalkingTown$Town" "wheels" "LWalkingTown$Wheels;") (List.mem_cons_of_mem _ kw_2_70)) (fun _ h9 => h9) rfl dX11_tried_4 ?_
  refine lv_iload_n hx hb dX11_tried_7 rfl (lv_at hl 1 rfl) ?_
  have hPc := hP.sub (ws' := [(xWh, .inr (10, [.int 0, vh1, vh2, vh3, vh4, vh5, vh6, vh7, vh8]))]) [2] rfl
  have hDc := hD.sub (ws' := [(xWh, .inr (10, [.int 0, vh1, vh2, vh3, vh4, vh5, vh6, vh7, vh8]))]) [2] (by decide) rfl
  have hKc := hK.sub (tys' := []) [] rfl
  have hFc := va_free (wc := [(xWh, .inr (10, [.int 0, vh1, vh2, vh3, vh4, vh5, vh6, vh7, vh8]))]) hD hS hA [2] rfl
  refine va_calli (va_runV (As := [.int a]) (rest := []) ⟨hx, hb, hml, hown, hts⟩ (c_Wheels_has l dC dI s.heap.size xWh a (vh1 : Value) (vh2 : Value) (vh3 : Value) (vh4 : Value) (vh5 : Value) (vh6 : Value) (vh7 : Value) (vh8 : Value)) (cwV 1 hts (gV kw_3_198 kw_3_199 kw_3_200 kw_1_5 kw_3_201) rfl rfl rfl (by decide +kernel) ⟨Nat.le_of_ble_eq_true rfl, Nat.le_of_ble_eq_true rfl⟩) ⟨fun a U g mk q => by obtain ⟨q0, q1, qP, qK, qD⟩ := q; exact ⟨q0, q1, qP, va_K.moved (u := U) (U := U.calling g mk a) (Vm.Alike.refl U.vm) qK, qD⟩, va_recv hKc hPc (ci := 10) (q0 := 0) rfl rfl, fun U hU hW => ⟨rfl, by rw [hU], by rw [hU]; exact hPc, va_K.moved hW.alike hKc, hDc.weaken (fun _ _ _ _ => trivial)⟩⟩ rfl rfl hl.1 rfl (lv_room (Nat.le_of_ble_eq_true rfl)) dX11_tried_8 ⟨Nat.le_of_ble_eq_true rfl, Nat.le_of_ble_eq_true rfl⟩) hS (fun q _ h => hFc q h) hFc (fun r_1 u t H1 locs ht hvm hw hB hz1 hk1 hS => ?_)
  obtain ⟨hP1, hK1, hD1⟩ := hB
  rw [ht] at hP1
  have hK1 := va_K.moved hvm.symm hK1
  obtain ⟨hP, hD⟩ := va_join (wr := [(xX, .inr (11, [.ref xT, .int 0, .ref xW, .ref xR, .ref xM, .ref xS, .int (-1), .int 0, .int (-1)])), (xW, .inr (7, [.ref xRo, .ref xPe, .ref xWh, .ref xTr, .ref xCo, .int 0, .ref xAl, .ref xNl, .ref xDr, .int 0, .ref xFa, .int 0, .int 0, .int 0]))]) (w1 := [(xWh, .inr (10, [.int 0, vh1, vh2, vh3, vh4, vh5, vh6, vh7, vh8]))]) hP hD [2] [0, 1] rfl rfl (by decide) (by decide) hk1 hFc hP1 hD1
  have hK := (hK.sub (tys' := []) [] rfl).app hK1
  generalize H1 = H at hP hS ⊢
  have hP : va_P (dC, dI) vwCl [(xX, .inr (11, [.ref xT, .int 0, .ref xW, .ref xR, .ref xM, .ref xS, .int (-1), .int 0, .int (-1)])), (xW, .inr (7, [.ref xRo, .ref xPe, .ref xWh, .ref xTr, .ref xCo, .int 0, .ref xAl, .ref xNl, .ref xDr, .int 0, .ref xFa, .int 0, .int 0, .int 0])), (xWh, .inr (10, [.int 0, vh1, vh2, vh3, vh4, vh5, vh6, vh7, vh8]))] H := hP
  have hD : va_D A [(xX, .inr (11, [.ref xT, .int 0, .ref xW, .ref xR, .ref xM, .ref xS, .int (-1), .int 0, .int (-1)])), (xW, .inr (7, [.ref xRo, .ref xPe, .ref xWh, .ref xTr, .ref xCo, .int 0, .ref xAl, .ref xNl, .ref xDr, .int 0, .ref xFa, .int 0, .int 0, .int 0])), (xWh, .inr (10, [.int 0, vh1, vh2, vh3, vh4, vh5, vh6, vh7, vh8]))] := hD
  have hK : va_K (dC, dI) vwCl [] s := hK
  subst hw
  refine lv_if_eq (tgt := 28) hx hb dX11_tried_11 (by decide) (fun c_3 => ?_) (fun c_3 => ?_)
  rotate_left
  · exact (c_3 (by decide)).elim
  refine lv_iconst (v := (-1)) hx hb dX11_tried_28 (by decide) ?_
  refine W.widen (k := 0) (n := 0) (Nat.le_of_ble_eq_true rfl) (Nat.le_of_ble_eq_true rfl) ?_
  exact W.iret (v := (-1)) hx hb hr (fun t ht hW => ⟨⟨(-1), (), rfl, rfl, trivial⟩, hS.F ht⟩) hS.2.2 dX11_tried_29
set_option maxHeartbeats 4000000 in
set_option maxRecDepth 100000 in
theorem x_seated (l : Launch) (dC : Nat → ClassId) (dI : Nat → Nat → Nat) (sz : Nat) (a : Int32) (xX : Nat) (xT : Nat) (xW : Nat) (xR : Nat) (xM : Nat) (xS : Nat) (xRo : Nat) (xPe : Nat) (xWh : Nat) (xTr : Nat) (xCo : Nat) (xAl : Nat) (xNl : Nat) (xDr : Nat) (xFa : Nat) : Met l yX11_seated (.code yX11_seated cX11_seated 3 (some .int) :: lw_good) ({ frames := 14, cells := 0, slots := 0, locals := 500 }) (va_Pc [.ref xX, .int a] (fun U => U.heap.size = sz ∧ va_P (dC, dI) vwCl [(xX, .inr (11, [.ref xT, .int 0, .ref xW, .ref xR, .ref xM, .ref xS, .int (-1), .int 0, .int (-1)])), (xW, .inr (7, [.ref xRo, .ref xPe, .ref xWh, .ref xTr, .ref xCo, .int 0, .ref xAl, .ref xNl, .ref xDr, .int 0, .ref xFa, .int 0, .int 0, .int 0]))] U.heap ∧ va_K (dC, dI) vwCl [] U ∧ va_D (fun _ => True) [(xX, .inr (11, [.ref xT, .int 0, .ref xW, .ref xR, .ref xM, .ref xS, .int (-1), .int 0, .int (-1)])), (xW, .inr (7, [.ref xRo, .ref xPe, .ref xWh, .ref xTr, .ref xCo, .int 0, .ref xAl, .ref xNl, .ref xDr, .int 0, .ref xFa, .int 0, .int 0, .int 0]))])) (va_Qi (fun (r : Int32) (_ : Unit) => r = (-1)) (fun (_ : Unit) (_ : State) => True) (va_A [(xX, .inr (11, [.ref xT, .int 0, .ref xW, .ref xR, .ref xM, .ref xS, .int (-1), .int 0, .int (-1)])), (xW, .inr (7, [.ref xRo, .ref xPe, .ref xWh, .ref xTr, .ref xCo, .int 0, .ref xAl, .ref xNl, .ref xDr, .int 0, .ref xFa, .int 0, .int 0, .int 0]))] sz)) 0 0 (va_A [(xX, .inr (11, [.ref xT, .int 0, .ref xW, .ref xR, .ref xM, .ref xS, .int (-1), .int 0, .int (-1)])), (xW, .inr (7, [.ref xRo, .ref xPe, .ref xWh, .ref xTr, .ref xCo, .int 0, .ref xAl, .ref xNl, .ref xDr, .int 0, .ref xFa, .int 0, .int 0, .int 0]))] sz) := by
  refine Met.ofW (cc := cX11_seated) (maxL := 3) (ret := (some .int)) (by decide) rfl ?_
  intro p e s m args below meth c s₁ B hml hv
  obtain ⟨rfl, hsz, hP, hK, hD0⟩ := hv
  have hx := B.exec
  have hb := B.bytes
  have hr := B.returns
  have hts := atoms_spec (ws := (.code yX11_seated cX11_seated 3 (some .int) :: lw_good)) B.pre
  have hown : s.vm.findClass RX11 = some m.cls := findClass_of_methodNamed B.named
  have hlocks := B.notSynchronized
  subst hsz
  have hD := hD0.self (sz := s.heap.size)
  generalize hAe : va_A [(xX, .inr (11, [.ref xT, .int 0, .ref xW, .ref xR, .ref xM, .ref xS, .int (-1), .int 0, .int (-1)])), (xW, .inr (7, [.ref xRo, .ref xPe, .ref xWh, .ref xTr, .ref xCo, .int 0, .ref xAl, .ref xNl, .ref xDr, .int 0, .ref xFa, .int 0, .int 0, .int 0]))] s.heap.size = A at hD ⊢
  have hA : ∀ q : Nat, s.heap.size ≤ q → A q := fun q h => by rw [← hAe]; exact Or.inr h
  have hS : va_S A s.heap s.heap [] := va_S.rf
  have hP : va_P (dC, dI) vwCl [(xX, .inr (11, [.ref xT, .int 0, .ref xW, .ref xR, .ref xM, .ref xS, .int (-1), .int 0, .int (-1)])), (xW, .inr (7, [.ref xRo, .ref xPe, .ref xWh, .ref xTr, .ref xCo, .int 0, .ref xAl, .ref xNl, .ref xDr, .int 0, .ref xFa, .int 0, .int 0, .int 0]))] s.heap := hP
  have hl := lv_entry ([.ref xX, .int a]) (n := 3) (Nat.le_of_ble_eq_true rfl)
  rw [lg_entry_eq]
  generalize (lg_sl ([.ref xX, .int a]) ++ List.replicate (3 - (lg_sl ([.ref xX, .int a])).length) Slot.unset).toArray = ls at hl ⊢
  have hl : lv_has ls 3 [(0, .ref xX), (1, .int a)] := hl
  refine lv_iconst (v := (-1)) hx hb dX11_seated_0 (by decide) ?_
  refine lv_istore_n (lv' := [(2, .int (-1)), (0, .ref xX), (1, .int a)]) hx hb dX11_seated_1 rfl hl (by decide) rfl (fun ls hl => ?_)
  refine lv_iload_n hx hb dX11_seated_2 rfl (lv_at hl 2 rfl) ?_
  refine lv_if_lt (tgt := 47) hx hb dX11_seated_3 (by decide) (fun c_1 => ?_) (fun c_1 => ?_)
  · skip
    refine lv_aload_n hx hb dX11_seated_47 rfl (lv_at hl 1 rfl) ?_
    refine lv_iconst (v := 0) hx hb dX11_seated_48 (by decide) ?_
    refine va_put (D := (dC, dI)) (ci := 11) (v := .int 0) (ty := .int) (C := RX11) (T := TX11) (N := 9) hx hb hts iCX11 tyX11 tyX11_ok nmX11 hown hK hP hD hS 0 rfl rfl 1 (by decide) (hts (.fieldLink RX11 50 "WalkingTown" "tapeSize" "I") (List.mem_cons_of_mem _ kw_3_92)) (fun _ h9 => h9) rfl (by decide +kernel) rfl rfl (Nat.le_of_ble_eq_true rfl) dX11_seated_49 (fun H locs hP hD hS => ?_)
    have hP : va_P (dC, dI) vwCl [(xX, .inr (11, [.ref xT, .int 0, .ref xW, .ref xR, .ref xM, .ref xS, .int (-1), .int 0, .int (-1)])), (xW, .inr (7, [.ref xRo, .ref xPe, .ref xWh, .ref xTr, .ref xCo, .int 0, .ref xAl, .ref xNl, .ref xDr, .int 0, .ref xFa, .int 0, .int 0, .int 0]))] H := hP
    have hD : va_D A [(xX, .inr (11, [.ref xT, .int 0, .ref xW, .ref xR, .ref xM, .ref xS, .int (-1), .int 0, .int (-1)])), (xW, .inr (7, [.ref xRo, .ref xPe, .ref xWh, .ref xTr, .ref xCo, .int 0, .ref xAl, .ref xNl, .ref xDr, .int 0, .ref xFa, .int 0, .int 0, .int 0]))] := hD
    refine lv_iload_n hx hb dX11_seated_52 rfl (lv_at hl 0 rfl) ?_
    refine W.widen (k := 0) (n := 0) (Nat.le_of_ble_eq_true rfl) (Nat.le_of_ble_eq_true rfl) ?_
    exact W.iret (v := (-1)) hx hb hr (fun t ht hW => ⟨⟨(-1), (), rfl, rfl, trivial⟩, hS.F ht⟩) hS.2.2 dX11_seated_53
  · skip
    refine lv_iload_n hx hb dX11_seated_6 rfl (lv_at hl 2 rfl) ?_
    refine lv_sipush (v := 200) hx hb dX11_seated_7 (by decide) ?_
    refine lv_icmp_gt (tgt := 47) hx hb dX11_seated_10 (by decide) (fun c_2 => ?_) (fun c_2 => ?_)
    · skip
      refine lv_aload_n hx hb dX11_seated_47 rfl (lv_at hl 1 rfl) ?_
      refine lv_iconst (v := 0) hx hb dX11_seated_48 (by decide) ?_
      refine va_put (D := (dC, dI)) (ci := 11) (v := .int 0) (ty := .int) (C := RX11) (T := TX11) (N := 9) hx hb hts iCX11 tyX11 tyX11_ok nmX11 hown hK hP hD hS 0 rfl rfl 1 (by decide) (hts (.fieldLink RX11 50 "WalkingTown" "tapeSize" "I") (List.mem_cons_of_mem _ kw_3_92)) (fun _ h9 => h9) rfl (by decide +kernel) rfl rfl (Nat.le_of_ble_eq_true rfl) dX11_seated_49 (fun H locs hP hD hS => ?_)
      have hP : va_P (dC, dI) vwCl [(xX, .inr (11, [.ref xT, .int 0, .ref xW, .ref xR, .ref xM, .ref xS, .int (-1), .int 0, .int (-1)])), (xW, .inr (7, [.ref xRo, .ref xPe, .ref xWh, .ref xTr, .ref xCo, .int 0, .ref xAl, .ref xNl, .ref xDr, .int 0, .ref xFa, .int 0, .int 0, .int 0]))] H := hP
      have hD : va_D A [(xX, .inr (11, [.ref xT, .int 0, .ref xW, .ref xR, .ref xM, .ref xS, .int (-1), .int 0, .int (-1)])), (xW, .inr (7, [.ref xRo, .ref xPe, .ref xWh, .ref xTr, .ref xCo, .int 0, .ref xAl, .ref xNl, .ref xDr, .int 0, .ref xFa, .int 0, .int 0, .int 0]))] := hD
      refine lv_iload_n hx hb dX11_seated_52 rfl (lv_at hl 0 rfl) ?_
      refine W.widen (k := 0) (n := 0) (Nat.le_of_ble_eq_true rfl) (Nat.le_of_ble_eq_true rfl) ?_
      exact W.iret (v := (-1)) hx hb hr (fun t ht hW => ⟨⟨(-1), (), rfl, rfl, trivial⟩, hS.F ht⟩) hS.2.2 dX11_seated_53
    · skip
      refine lv_aload_n hx hb dX11_seated_13 rfl (lv_at hl 1 rfl) ?_
      refine va_get (D := (dC, dI)) (ci := 11) (v := .ref xW) (C := RX11) (T := TX11) (N := 9) hx hb hts iCX11 hown hK hP 0 rfl rfl 2 (by decide) (hts (.fieldLink RX11 16 "WalkingTown" "town" "LWalkingTown$Town;") (List.mem_cons_of_mem _ kw_3_93)) (fun _ h9 => h9) rfl dX11_seated_14 ?_
      refine va_get (D := (dC, dI)) (ci := 7) (v := .int 0) (C := RX7) (T := TX7) (N := 14) hx hb hts iCX7 hown hK hP 1 rfl rfl 5 (by decide) (hts (.fieldLink RX11 89 "WalkingTown$Town" "stops" "I") (List.mem_cons_of_mem _ kw_2_82)) (fun _ h9 => h9) rfl dX11_seated_17 ?_
      refine lv_if_le (tgt := 47) hx hb dX11_seated_20 (by decide) (fun c_3 => ?_) (fun c_3 => ?_)
      rotate_left
      · exact (c_3 (by decide)).elim
      refine lv_aload_n hx hb dX11_seated_47 rfl (lv_at hl 1 rfl) ?_
      refine lv_iconst (v := 0) hx hb dX11_seated_48 (by decide) ?_
      refine va_put (D := (dC, dI)) (ci := 11) (v := .int 0) (ty := .int) (C := RX11) (T := TX11) (N := 9) hx hb hts iCX11 tyX11 tyX11_ok nmX11 hown hK hP hD hS 0 rfl rfl 1 (by decide) (hts (.fieldLink RX11 50 "WalkingTown" "tapeSize" "I") (List.mem_cons_of_mem _ kw_3_92)) (fun _ h9 => h9) rfl (by decide +kernel) rfl rfl (Nat.le_of_ble_eq_true rfl) dX11_seated_49 (fun H locs hP hD hS => ?_)
      have hP : va_P (dC, dI) vwCl [(xX, .inr (11, [.ref xT, .int 0, .ref xW, .ref xR, .ref xM, .ref xS, .int (-1), .int 0, .int (-1)])), (xW, .inr (7, [.ref xRo, .ref xPe, .ref xWh, .ref xTr, .ref xCo, .int 0, .ref xAl, .ref xNl, .ref xDr, .int 0, .ref xFa, .int 0, .int 0, .int 0]))] H := hP
      have hD : va_D A [(xX, .inr (11, [.ref xT, .int 0, .ref xW, .ref xR, .ref xM, .ref xS, .int (-1), .int 0, .int (-1)])), (xW, .inr (7, [.ref xRo, .ref xPe, .ref xWh, .ref xTr, .ref xCo, .int 0, .ref xAl, .ref xNl, .ref xDr, .int 0, .ref xFa, .int 0, .int 0, .int 0]))] := hD
      refine lv_iload_n hx hb dX11_seated_52 rfl (lv_at hl 0 rfl) ?_
      refine W.widen (k := 0) (n := 0) (Nat.le_of_ble_eq_true rfl) (Nat.le_of_ble_eq_true rfl) ?_
      exact W.iret (v := (-1)) hx hb hr (fun t ht hW => ⟨⟨(-1), (), rfl, rfl, trivial⟩, hS.F ht⟩) hS.2.2 dX11_seated_53
set_option maxHeartbeats 4000000 in
set_option maxRecDepth 100000 in
theorem x_seatedAt (l : Launch) (dC : Nat → ClassId) (dI : Nat → Nat → Nat) (sz : Nat) (a : Int32) (xX : Nat) (xT : Nat) (xW : Nat) (xR : Nat) (xM : Nat) (xS : Nat) (vs1 : Value) (vs2 : Value) (vs4 : Value) (vs5 : Value) (vs6 : Value) (vs7 : Value) (vs8 : Value) (vs9 : Value) (vs10 : Value) : Met l yX11_seatedAt (.code yX11_seatedAt cX11_seatedAt 2 (some .int) :: lw_good) ({ frames := 14, cells := 0, slots := 0, locals := 500 }) (va_Pc [.ref xX, .int a] (fun U => U.heap.size = sz ∧ va_P (dC, dI) vwCl [(xX, .inr (11, [.ref xT, .int 0, .ref xW, .ref xR, .ref xM, .ref xS, .int (-1), .int 0, .int (-1)])), (xS, .inr (6, [.ref xW, vs1, vs2, .int 0, vs4, vs5, vs6, vs7, vs8, vs9, vs10, .int 0, .int 0, .int 0]))] U.heap ∧ va_K (dC, dI) vwCl [] U ∧ va_D (fun _ => True) [(xX, .inr (11, [.ref xT, .int 0, .ref xW, .ref xR, .ref xM, .ref xS, .int (-1), .int 0, .int (-1)])), (xS, .inr (6, [.ref xW, vs1, vs2, .int 0, vs4, vs5, vs6, vs7, vs8, vs9, vs10, .int 0, .int 0, .int 0]))])) (va_Qi (fun (r : Int32) (_ : Unit) => r = (-1)) (fun (_ : Unit) (_ : State) => True) (va_A [(xX, .inr (11, [.ref xT, .int 0, .ref xW, .ref xR, .ref xM, .ref xS, .int (-1), .int 0, .int (-1)])), (xS, .inr (6, [.ref xW, vs1, vs2, .int 0, vs4, vs5, vs6, vs7, vs8, vs9, vs10, .int 0, .int 0, .int 0]))] sz)) 0 0 (va_A [(xX, .inr (11, [.ref xT, .int 0, .ref xW, .ref xR, .ref xM, .ref xS, .int (-1), .int 0, .int (-1)])), (xS, .inr (6, [.ref xW, vs1, vs2, .int 0, vs4, vs5, vs6, vs7, vs8, vs9, vs10, .int 0, .int 0, .int 0]))] sz) := by
  refine Met.ofW (cc := cX11_seatedAt) (maxL := 2) (ret := (some .int)) (by decide) rfl ?_
  intro p e s m args below meth c s₁ B hml hv
  obtain ⟨rfl, hsz, hP, hK, hD0⟩ := hv
  have hx := B.exec
  have hb := B.bytes
  have hr := B.returns
  have hts := atoms_spec (ws := (.code yX11_seatedAt cX11_seatedAt 2 (some .int) :: lw_good)) B.pre
  have hown : s.vm.findClass RX11 = some m.cls := findClass_of_methodNamed B.named
  have hlocks := B.notSynchronized
  subst hsz
  have hD := hD0.self (sz := s.heap.size)
  generalize hAe : va_A [(xX, .inr (11, [.ref xT, .int 0, .ref xW, .ref xR, .ref xM, .ref xS, .int (-1), .int 0, .int (-1)])), (xS, .inr (6, [.ref xW, vs1, vs2, .int 0, vs4, vs5, vs6, vs7, vs8, vs9, vs10, .int 0, .int 0, .int 0]))] s.heap.size = A at hD ⊢
  have hA : ∀ q : Nat, s.heap.size ≤ q → A q := fun q h => by rw [← hAe]; exact Or.inr h
  have hS : va_S A s.heap s.heap [] := va_S.rf
  have hP : va_P (dC, dI) vwCl [(xX, .inr (11, [.ref xT, .int 0, .ref xW, .ref xR, .ref xM, .ref xS, .int (-1), .int 0, .int (-1)])), (xS, .inr (6, [.ref xW, vs1, vs2, .int 0, vs4, vs5, vs6, vs7, vs8, vs9, vs10, .int 0, .int 0, .int 0]))] s.heap := hP
  have hl := lv_entry ([.ref xX, .int a]) (n := 2) (Nat.le_of_ble_eq_true rfl)
  rw [lg_entry_eq]
  generalize (lg_sl ([.ref xX, .int a]) ++ List.replicate (2 - (lg_sl ([.ref xX, .int a])).length) Slot.unset).toArray = ls at hl ⊢
  have hl : lv_has ls 2 [(0, .ref xX), (1, .int a)] := hl
  refine lv_iload_n hx hb dX11_seatedAt_0 rfl (lv_at hl 1 rfl) ?_
  refine lv_if_lt (tgt := 15) hx hb dX11_seatedAt_1 (by decide) (fun c_1 => ?_) (fun c_1 => ?_)
  · skip
    refine lv_iconst (v := (-1)) hx hb dX11_seatedAt_15 (by decide) ?_
    refine lv_goto (tgt := 28) hx hb dX11_seatedAt_16 (by decide) ?_
    refine W.widen (k := 0) (n := 0) (Nat.le_of_ble_eq_true rfl) (Nat.le_of_ble_eq_true rfl) ?_
    exact W.iret (v := (-1)) hx hb hr (fun t ht hW => ⟨⟨(-1), (), rfl, rfl, trivial⟩, hS.F ht⟩) hS.2.2 dX11_seatedAt_28
  · skip
    refine lv_iload_n hx hb dX11_seatedAt_4 rfl (lv_at hl 1 rfl) ?_
    refine lv_aload_n hx hb dX11_seatedAt_5 rfl (lv_at hl 0 rfl) ?_
    refine va_get (D := (dC, dI)) (ci := 11) (v := .ref xS) (C := RX11) (T := TX11) (N := 9) hx hb hts iCX11 hown hK hP 0 rfl rfl 5 (by decide) (hts (.fieldLink RX11 39 "WalkingTown" "seating" "LWalkingTown$Seating;") (List.mem_cons_of_mem _ kw_3_96)) (fun _ h9 => h9) rfl dX11_seatedAt_6 ?_
    refine va_get (D := (dC, dI)) (ci := 6) (v := .int 0) (C := RX5) (T := TX5) (N := 14) hx hb hts iCX5 hown hK hP 1 rfl rfl 11 (by decide) (hts (.fieldLink RX11 231 "WalkingTown$Seating" "size" "I") (List.mem_cons_of_mem _ kw_3_58)) (fun _ h9 => h9) rfl dX11_seatedAt_9 ?_
    refine lv_icmp_lt (tgt := 19) hx hb dX11_seatedAt_12 (by decide) (fun c_2 => ?_) (fun c_2 => ?_)
    · exact absurd c_2 (c_1)
    refine lv_iconst (v := (-1)) hx hb dX11_seatedAt_15 (by decide) ?_
    refine lv_goto (tgt := 28) hx hb dX11_seatedAt_16 (by decide) ?_
    refine W.widen (k := 0) (n := 0) (Nat.le_of_ble_eq_true rfl) (Nat.le_of_ble_eq_true rfl) ?_
    exact W.iret (v := (-1)) hx hb hr (fun t ht hW => ⟨⟨(-1), (), rfl, rfl, trivial⟩, hS.F ht⟩) hS.2.2 dX11_seatedAt_28

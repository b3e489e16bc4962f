theorem dX11_count_0 : decode cX11_count 0 = .ok (.iload_n 1, 1) := by decide +kernel
theorem dX11_count_1 : decode cX11_count 1 = .ok (.tableswitch 120 0 7 #[47, 55, 66, 74, 85, 96, 107, 115], 47) := by decide +kernel
theorem dX11_count_48 : decode cX11_count 48 = .ok (.aload_n 0, 1) := by decide +kernel
theorem dX11_count_49 : decode cX11_count 49 = .ok (.getfield 16, 3) := by decide +kernel
theorem dX11_count_52 : decode cX11_count 52 = .ok (.getfield 57, 3) := by decide +kernel
theorem dX11_count_55 : decode cX11_count 55 = .ok (.ireturn, 1) := by decide +kernel
theorem dX11_count_56 : decode cX11_count 56 = .ok (.aload_n 0, 1) := by decide +kernel
theorem dX11_count_57 : decode cX11_count 57 = .ok (.getfield 16, 3) := by decide +kernel
theorem dX11_count_60 : decode cX11_count 60 = .ok (.getfield 79, 3) := by decide +kernel
theorem dX11_count_63 : decode cX11_count 63 = .ok (.getfield 236, 3) := by decide +kernel
theorem dX11_count_66 : decode cX11_count 66 = .ok (.ireturn, 1) := by decide +kernel
theorem dX11_count_67 : decode cX11_count 67 = .ok (.aload_n 0, 1) := by decide +kernel
theorem dX11_count_68 : decode cX11_count 68 = .ok (.getfield 16, 3) := by decide +kernel
theorem dX11_count_71 : decode cX11_count 71 = .ok (.getfield 89, 3) := by decide +kernel
theorem dX11_count_74 : decode cX11_count 74 = .ok (.ireturn, 1) := by decide +kernel
theorem dX11_count_75 : decode cX11_count 75 = .ok (.aload_n 0, 1) := by decide +kernel
theorem dX11_count_76 : decode cX11_count 76 = .ok (.getfield 16, 3) := by decide +kernel
theorem dX11_count_79 : decode cX11_count 79 = .ok (.getfield 101, 3) := by decide +kernel
theorem dX11_count_82 : decode cX11_count 82 = .ok (.getfield 237, 3) := by decide +kernel
theorem dX11_count_85 : decode cX11_count 85 = .ok (.ireturn, 1) := by decide +kernel
theorem dX11_count_86 : decode cX11_count 86 = .ok (.aload_n 0, 1) := by decide +kernel
theorem dX11_count_87 : decode cX11_count 87 = .ok (.getfield 16, 3) := by decide +kernel
theorem dX11_count_90 : decode cX11_count 90 = .ok (.getfield 116, 3) := by decide +kernel
theorem dX11_count_93 : decode cX11_count 93 = .ok (.getfield 238, 3) := by decide +kernel
theorem dX11_count_96 : decode cX11_count 96 = .ok (.ireturn, 1) := by decide +kernel
theorem dX11_count_97 : decode cX11_count 97 = .ok (.aload_n 0, 1) := by decide +kernel
theorem dX11_count_98 : decode cX11_count 98 = .ok (.getfield 16, 3) := by decide +kernel
theorem dX11_count_101 : decode cX11_count 101 = .ok (.getfield 154, 3) := by decide +kernel
theorem dX11_count_104 : decode cX11_count 104 = .ok (.invokevirtual 158, 3) := by decide +kernel
theorem dX11_count_107 : decode cX11_count 107 = .ok (.ireturn, 1) := by decide +kernel
theorem dX11_count_108 : decode cX11_count 108 = .ok (.aload_n 0, 1) := by decide +kernel
theorem dX11_count_109 : decode cX11_count 109 = .ok (.getfield 16, 3) := by decide +kernel
theorem dX11_count_112 : decode cX11_count 112 = .ok (.getfield 145, 3) := by decide +kernel
theorem dX11_count_115 : decode cX11_count 115 = .ok (.ireturn, 1) := by decide +kernel
theorem dX11_count_116 : decode cX11_count 116 = .ok (.aload_n 0, 1) := by decide +kernel
theorem dX11_count_117 : decode cX11_count 117 = .ok (.getfield 50, 3) := by decide +kernel
theorem dX11_count_120 : decode cX11_count 120 = .ok (.ireturn, 1) := by decide +kernel
theorem dX11_count_121 : decode cX11_count 121 = .ok (.iconst (-1), 1) := by decide +kernel
theorem dX11_count_122 : decode cX11_count 122 = .ok (.ireturn, 1) := by decide +kernel
theorem dX11_morning_0 : decode cX11_morning 0 = .ok (.aload_n 0, 1) := by decide +kernel
theorem dX11_morning_1 : decode cX11_morning 1 = .ok (.getfield 47, 3) := by decide +kernel
theorem dX11_morning_4 : decode cX11_morning 4 = .ok (.aload_n 0, 1) := by decide +kernel
theorem dX11_morning_5 : decode cX11_morning 5 = .ok (.getfield 16, 3) := by decide +kernel
theorem dX11_morning_8 : decode cX11_morning 8 = .ok (.getfield 57, 3) := by decide +kernel
theorem dX11_morning_11 : decode cX11_morning 11 = .ok (.if_icmp .ne 5, 3) := by decide +kernel
theorem dX11_morning_14 : decode cX11_morning 14 = .ok (.iconst (-1), 1) := by decide +kernel
theorem dX11_morning_15 : decode cX11_morning 15 = .ok (.ireturn, 1) := by decide +kernel
theorem dX11_morning_16 : decode cX11_morning 16 = .ok (.aload_n 0, 1) := by decide +kernel
theorem dX11_morning_17 : decode cX11_morning 17 = .ok (.aload_n 0, 1) := by decide +kernel
theorem dX11_morning_18 : decode cX11_morning 18 = .ok (.getfield 16, 3) := by decide +kernel
theorem dX11_morning_21 : decode cX11_morning 21 = .ok (.getfield 57, 3) := by decide +kernel
theorem dX11_morning_24 : decode cX11_morning 24 = .ok (.putfield 47, 3) := by decide +kernel
theorem dX11_morning_27 : decode cX11_morning 27 = .ok (.aload_n 0, 1) := by decide +kernel
theorem dX11_morning_28 : decode cX11_morning 28 = .ok (.getfield 32, 3) := by decide +kernel
theorem dX11_morning_31 : decode cX11_morning 31 = .ok (.iconst (-1), 1) := by decide +kernel
theorem dX11_morning_32 : decode cX11_morning 32 = .ok (.invokevirtual 200, 3) := by decide +kernel
theorem dX11_morning_35 : decode cX11_morning 35 = .ok (.istore_n 1, 1) := by decide +kernel
theorem dX11_morning_36 : decode cX11_morning 36 = .ok (.aload_n 0, 1) := by decide +kernel
theorem dX11_morning_37 : decode cX11_morning 37 = .ok (.getfield 32, 3) := by decide +kernel
theorem dX11_morning_40 : decode cX11_morning 40 = .ok (.invokevirtual 203, 3) := by decide +kernel
theorem dX11_morning_43 : decode cX11_morning 43 = .ok (.iload_n 1, 1) := by decide +kernel
theorem dX11_morning_44 : decode cX11_morning 44 = .ok (.ireturn, 1) := by decide +kernel
theorem dX11_told_0 : decode cX11_told 0 = .ok (.aload_n 0, 1) := by decide +kernel
theorem dX11_told_1 : decode cX11_told 1 = .ok (.iconst (-1), 1) := by decide +kernel
theorem dX11_told_2 : decode cX11_told 2 = .ok (.putfield 43, 3) := by decide +kernel
theorem dX11_told_5 : decode cX11_told 5 = .ok (.aload_n 0, 1) := by decide +kernel
theorem dX11_told_6 : decode cX11_told 6 = .ok (.getfield 16, 3) := by decide +kernel
theorem dX11_told_9 : decode cX11_told 9 = .ok (.getfield 116, 3) := by decide +kernel
theorem dX11_told_12 : decode cX11_told 12 = .ok (.iload_n 1, 1) := by decide +kernel
theorem dX11_told_13 : decode cX11_told 13 = .ok (.invokevirtual 186, 3) := by decide +kernel
theorem dX11_told_16 : decode cX11_told 16 = .ok (.ifCond .eq 21, 3) := by decide +kernel
theorem dX11_told_19 : decode cX11_told 19 = .ok (.iload_n 2, 1) := by decide +kernel
theorem dX11_told_20 : decode cX11_told 20 = .ok (.ifCond .lt 17, 3) := by decide +kernel
theorem dX11_told_23 : decode cX11_told 23 = .ok (.iload_n 2, 1) := by decide +kernel
theorem dX11_told_24 : decode cX11_told 24 = .ok (.iconst 5, 1) := by decide +kernel
theorem dX11_told_25 : decode cX11_told 25 = .ok (.if_icmp .gt 12, 3) := by decide +kernel
theorem dX11_told_28 : decode cX11_told 28 = .ok (.iload_n 3, 1) := by decide +kernel
theorem dX11_told_29 : decode cX11_told 29 = .ok (.ifCond .lt 8, 3) := by decide +kernel
theorem dX11_told_32 : decode cX11_told 32 = .ok (.iload 4, 2) := by decide +kernel
theorem dX11_told_34 : decode cX11_told 34 = .ok (.ifCond .ge 5, 3) := by decide +kernel
theorem dX11_told_37 : decode cX11_told 37 = .ok (.iconst (-1), 1) := by decide +kernel
theorem dX11_told_38 : decode cX11_told 38 = .ok (.ireturn, 1) := by decide +kernel
theorem dX11_told_39 : decode cX11_told 39 = .ok (.aload_n 0, 1) := by decide +kernel
theorem dX11_told_40 : decode cX11_told 40 = .ok (.getfield 16, 3) := by decide +kernel
theorem dX11_told_43 : decode cX11_told 43 = .ok (.aload_n 0, 1) := by decide +kernel
theorem dX11_told_44 : decode cX11_told 44 = .ok (.getfield 16, 3) := by decide +kernel
theorem dX11_told_47 : decode cX11_told 47 = .ok (.invokevirtual 189, 3) := by decide +kernel
theorem dX11_told_50 : decode cX11_told 50 = .ok (.iload_n 1, 1) := by decide +kernel
theorem dX11_told_51 : decode cX11_told 51 = .ok (.iload_n 2, 1) := by decide +kernel
theorem dX11_told_52 : decode cX11_told 52 = .ok (.iload_n 3, 1) := by decide +kernel
theorem dX11_told_53 : decode cX11_told 53 = .ok (.iload 4, 2) := by decide +kernel
theorem dX11_told_55 : decode cX11_told 55 = .ok (.invokevirtual 193, 3) := by decide +kernel
theorem dX11_told_58 : decode cX11_told 58 = .ok (.istore 5, 2) := by decide +kernel
theorem dX11_told_60 : decode cX11_told 60 = .ok (.aload_n 0, 1) := by decide +kernel
theorem dX11_told_61 : decode cX11_told 61 = .ok (.aload_n 0, 1) := by decide +kernel
theorem dX11_told_62 : decode cX11_told 62 = .ok (.getfield 16, 3) := by decide +kernel
theorem dX11_told_65 : decode cX11_told 65 = .ok (.getfield 197, 3) := by decide +kernel
theorem dX11_told_68 : decode cX11_told 68 = .ok (.putfield 43, 3) := by decide +kernel
theorem dX11_told_71 : decode cX11_told 71 = .ok (.iload 5, 2) := by decide +kernel
theorem dX11_told_73 : decode cX11_told 73 = .ok (.ireturn, 1) := by decide +kernel
theorem dX11_tried_0 : decode cX11_tried 0 = .ok (.aload_n 0, 1) := by decide +kernel
theorem dX11_tried_1 : decode cX11_tried 1 = .ok (.getfield 16, 3) := by decide +kernel
theorem dX11_tried_4 : decode cX11_tried 4 = .ok (.getfield 101, 3) := by decide +kernel
theorem dX11_tried_7 : decode cX11_tried 7 = .ok (.iload_n 1, 1) := by decide +kernel
theorem dX11_tried_8 : decode cX11_tried 8 = .ok (.invokevirtual 110, 3) := by decide +kernel
theorem dX11_tried_11 : decode cX11_tried 11 = .ok (.ifCond .eq 17, 3) := by decide +kernel
theorem dX11_tried_14 : decode cX11_tried 14 = .ok (.aload_n 0, 1) := by decide +kernel
theorem dX11_tried_15 : decode cX11_tried 15 = .ok (.getfield 47, 3) := by decide +kernel
theorem dX11_tried_18 : decode cX11_tried 18 = .ok (.aload_n 0, 1) := by decide +kernel
theorem dX11_tried_19 : decode cX11_tried 19 = .ok (.getfield 16, 3) := by decide +kernel
theorem dX11_tried_22 : decode cX11_tried 22 = .ok (.getfield 57, 3) := by decide +kernel
theorem dX11_tried_25 : decode cX11_tried 25 = .ok (.if_icmp .ne 5, 3) := by decide +kernel
theorem dX11_tried_28 : decode cX11_tried 28 = .ok (.iconst (-1), 1) := by decide +kernel
theorem dX11_tried_29 : decode cX11_tried 29 = .ok (.ireturn, 1) := by decide +kernel
theorem dX11_tried_30 : decode cX11_tried 30 = .ok (.aload_n 0, 1) := by decide +kernel
theorem dX11_tried_31 : decode cX11_tried 31 = .ok (.getfield 32, 3) := by decide +kernel
theorem dX11_tried_34 : decode cX11_tried 34 = .ok (.iload_n 1, 1) := by decide +kernel
theorem dX11_tried_35 : decode cX11_tried 35 = .ok (.invokevirtual 200, 3) := by decide +kernel
theorem dX11_tried_38 : decode cX11_tried 38 = .ok (.ireturn, 1) := by decide +kernel
theorem dX1_lead_0 : decode cX1_lead 0 = .ok (.aload_n 0, 1) := by decide +kernel
theorem dX1_lead_1 : decode cX1_lead 1 = .ok (.iload_n 1, 1) := by decide +kernel
theorem dX1_lead_2 : decode cX1_lead 2 = .ok (.putfield 82, 3) := by decide +kernel
theorem dX1_lead_5 : decode cX1_lead 5 = .ok (.aload_n 0, 1) := by decide +kernel
theorem dX1_lead_6 : decode cX1_lead 6 = .ok (.aload_n 0, 1) := by decide +kernel
theorem dX1_lead_7 : decode cX1_lead 7 = .ok (.getfield 9, 3) := by decide +kernel
theorem dX1_lead_10 : decode cX1_lead 10 = .ok (.invokevirtual 86, 3) := by decide +kernel
theorem dX1_lead_13 : decode cX1_lead 13 = .ok (.putfield 30, 3) := by decide +kernel
theorem dX1_lead_16 : decode cX1_lead 16 = .ok (.aload_n 0, 1) := by decide +kernel
theorem dX1_lead_17 : decode cX1_lead 17 = .ok (.aload_n 0, 1) := by decide +kernel
theorem dX1_lead_18 : decode cX1_lead 18 = .ok (.getfield 9, 3) := by decide +kernel
theorem dX1_lead_21 : decode cX1_lead 21 = .ok (.getfield 90, 3) := by decide +kernel
theorem dX1_lead_24 : decode cX1_lead 24 = .ok (.putfield 93, 3) := by decide +kernel
theorem dX1_lead_27 : decode cX1_lead 27 = .ok (.aload_n 0, 1) := by decide +kernel
theorem dX1_lead_28 : decode cX1_lead 28 = .ok (.getfield 79, 3) := by decide +kernel
theorem dX1_lead_31 : decode cX1_lead 31 = .ok (.iconst 0, 1) := by decide +kernel
theorem dX1_lead_32 : decode cX1_lead 32 = .ok (.invokestatic 94, 3) := by decide +kernel
theorem dX1_lead_35 : decode cX1_lead 35 = .ok (.aload_n 0, 1) := by decide +kernel
theorem dX1_lead_36 : decode cX1_lead 36 = .ok (.invokevirtual 100, 3) := by decide +kernel
theorem dX1_lead_39 : decode cX1_lead 39 = .ok (.aload_n 0, 1) := by decide +kernel
theorem dX1_lead_40 : decode cX1_lead 40 = .ok (.invokevirtual 103, 3) := by decide +kernel
theorem dX1_lead_43 : decode cX1_lead 43 = .ok (.aload_n 0, 1) := by decide +kernel
theorem dX1_lead_44 : decode cX1_lead 44 = .ok (.invokevirtual 106, 3) := by decide +kernel
theorem dX1_lead_47 : decode cX1_lead 47 = .ok (.aload_n 0, 1) := by decide +kernel
theorem dX1_lead_48 : decode cX1_lead 48 = .ok (.getfield 20, 3) := by decide +kernel
theorem dX1_lead_51 : decode cX1_lead 51 = .ok (.iload_n 1, 1) := by decide +kernel
theorem dX1_lead_52 : decode cX1_lead 52 = .ok (.invokevirtual 109, 3) := by decide +kernel
theorem dX1_lead_55 : decode cX1_lead 55 = .ok (.iconst 0, 1) := by decide +kernel
theorem dX1_lead_56 : decode cX1_lead 56 = .ok (.istore_n 2, 1) := by decide +kernel
theorem dX1_lead_57 : decode cX1_lead 57 = .ok (.iload_n 2, 1) := by decide +kernel
theorem dX1_lead_58 : decode cX1_lead 58 = .ok (.sipush 840, 3) := by decide +kernel
theorem dX1_lead_61 : decode cX1_lead 61 = .ok (.if_icmp .ge 38, 3) := by decide +kernel
theorem dX1_lead_64 : decode cX1_lead 64 = .ok (.aload_n 0, 1) := by decide +kernel
theorem dX1_lead_65 : decode cX1_lead 65 = .ok (.getfield 79, 3) := by decide +kernel
theorem dX1_lead_68 : decode cX1_lead 68 = .ok (.iload_n 2, 1) := by decide +kernel
theorem dX1_lead_69 : decode cX1_lead 69 = .ok (.iaload, 1) := by decide +kernel
theorem dX1_lead_70 : decode cX1_lead 70 = .ok (.ifCond .eq 23, 3) := by decide +kernel
theorem dX1_lead_73 : decode cX1_lead 73 = .ok (.aload_n 0, 1) := by decide +kernel
theorem dX1_lead_74 : decode cX1_lead 74 = .ok (.iload_n 2, 1) := by decide +kernel
theorem dX1_lead_75 : decode cX1_lead 75 = .ok (.invokevirtual 113, 3) := by decide +kernel
theorem dX1_lead_78 : decode cX1_lead 78 = .ok (.aload_n 0, 1) := by decide +kernel
theorem dX1_lead_79 : decode cX1_lead 79 = .ok (.iload_n 2, 1) := by decide +kernel
theorem dX1_lead_80 : decode cX1_lead 80 = .ok (.invokevirtual 116, 3) := by decide +kernel
theorem dX1_lead_83 : decode cX1_lead 83 = .ok (.aload_n 0, 1) := by decide +kernel
theorem dX1_lead_84 : decode cX1_lead 84 = .ok (.iload_n 2, 1) := by decide +kernel
theorem dX1_lead_85 : decode cX1_lead 85 = .ok (.invokevirtual 119, 3) := by decide +kernel
theorem dX1_lead_88 : decode cX1_lead 88 = .ok (.aload_n 0, 1) := by decide +kernel
theorem dX1_lead_89 : decode cX1_lead 89 = .ok (.iload_n 2, 1) := by decide +kernel
theorem dX1_lead_90 : decode cX1_lead 90 = .ok (.invokevirtual 122, 3) := by decide +kernel
theorem dX1_lead_93 : decode cX1_lead 93 = .ok (.iinc 2 1, 3) := by decide +kernel
theorem dX1_lead_96 : decode cX1_lead 96 = .ok (.goto (-39), 3) := by decide +kernel
theorem dX1_lead_99 : decode cX1_lead 99 = .ok (.aload_n 0, 1) := by decide +kernel
theorem dX1_lead_100 : decode cX1_lead 100 = .ok (.invokevirtual 125, 3) := by decide +kernel
theorem dX1_lead_103 : decode cX1_lead 103 = .ok (.ireturn, 1) := by decide +kernel
theorem ix_sw_0_8 (x : Int32) : x.toInt < 0 ∨ 7 < x.toInt ∨ x = 0 ∨ x = 1 ∨ x = 2 ∨ x = 3 ∨ x = 4 ∨ x = 5 ∨ x = 6 ∨ x = 7 := by
  have e : ∀ n : Int32, x = n ↔ x.toInt = n.toInt := fun n => ⟨fun q => by rw [q], fun q => Int32.toInt_inj.mp q⟩
  simp only [e]
  have z : (0 : Int32).toInt = 0 ∧ (1 : Int32).toInt = 1 ∧ (2 : Int32).toInt = 2 ∧ (3 : Int32).toInt = 3 ∧ (4 : Int32).toInt = 4 ∧ (5 : Int32).toInt = 5 ∧ (6 : Int32).toInt = 6 ∧ (7 : Int32).toInt = 7 := by decide
  omega

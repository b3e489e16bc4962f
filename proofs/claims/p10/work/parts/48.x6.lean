theorem dX11_count_0 : decode cX11_count 0 = .ok (.iload_n 1, 1) := by decide +kernel
theorem dX11_count_1 : decode cX11_count 1 = .ok (.tableswitch 120 0 7 #[47, 55, 66, 74, 85, 96, 107, 115], 47) := by decide +kernel
theorem dX11_count_48 : decode cX11_count 48 = .ok (.aload_n 0, 1) := by decide +kernel
theorem dX11_count_49 : decode cX11_count 49 = .ok (.getfield 16, 3) := by decide +kernel
theorem dX11_count_52 : decode cX11_count 52 = .ok (.getfield 57, 3) := by decide +kernel
theorem dX11_count_55 : decode cX11_count 55 = .ok (.ireturn, 1) := by decide +kernel
theorem dX11_count_56 : decode cX11_count 56 = .ok (.aload_n 0, 1) := by decide +kernel
theorem dX11_count_57 : decode cX11_count 57 = .ok (.getfield 16, 3) := by decide +kernel
theorem dX11_count_60 : decode cX11_count 60 = .ok (.getfield 79, 3) := by decide +kernel
theorem dX11_count_63 : decode cX11_count 63 = .ok (.getfield 236, 3) := by decide +kernel
theorem dX11_count_66 : decode cX11_count 66 = .ok (.ireturn, 1) := by decide +kernel
theorem dX11_count_67 : decode cX11_count 67 = .ok (.aload_n 0, 1) := by decide +kernel
theorem dX11_count_68 : decode cX11_count 68 = .ok (.getfield 16, 3) := by decide +kernel
theorem dX11_count_71 : decode cX11_count 71 = .ok (.getfield 89, 3) := by decide +kernel
theorem dX11_count_74 : decode cX11_count 74 = .ok (.ireturn, 1) := by decide +kernel
theorem dX11_count_75 : decode cX11_count 75 = .ok (.aload_n 0, 1) := by decide +kernel
theorem dX11_count_76 : decode cX11_count 76 = .ok (.getfield 16, 3) := by decide +kernel
theorem dX11_count_79 : decode cX11_count 79 = .ok (.getfield 101, 3) := by decide +kernel
theorem dX11_count_82 : decode cX11_count 82 = .ok (.getfield 237, 3) := by decide +kernel
theorem dX11_count_85 : decode cX11_count 85 = .ok (.ireturn, 1) := by decide +kernel
theorem dX11_count_86 : decode cX11_count 86 = .ok (.aload_n 0, 1) := by decide +kernel
theorem dX11_count_87 : decode cX11_count 87 = .ok (.getfield 16, 3) := by decide +kernel
theorem dX11_count_90 : decode cX11_count 90 = .ok (.getfield 116, 3) := by decide +kernel
theorem dX11_count_93 : decode cX11_count 93 = .ok (.getfield 238, 3) := by decide +kernel
theorem dX11_count_96 : decode cX11_count 96 = .ok (.ireturn, 1) := by decide +kernel
theorem dX11_count_97 : decode cX11_count 97 = .ok (.aload_n 0, 1) := by decide +kernel
theorem dX11_count_98 : decode cX11_count 98 = .ok (.getfield 16, 3) := by decide +kernel
theorem dX11_count_101 : decode cX11_count 101 = .ok (.getfield 154, 3) := by decide +kernel
theorem dX11_count_104 : decode cX11_count 104 = .ok (.invokevirtual 158, 3) := by decide +kernel
theorem dX11_count_107 : decode cX11_count 107 = .ok (.ireturn, 1) := by decide +kernel
theorem dX11_count_108 : decode cX11_count 108 = .ok (.aload_n 0, 1) := by decide +kernel
theorem dX11_count_109 : decode cX11_count 109 = .ok (.getfield 16, 3) := by decide +kernel
theorem dX11_count_112 : decode cX11_count 112 = .ok (.getfield 145, 3) := by decide +kernel
theorem dX11_count_115 : decode cX11_count 115 = .ok (.ireturn, 1) := by decide +kernel
theorem dX11_count_116 : decode cX11_count 116 = .ok (.aload_n 0, 1) := by decide +kernel
theorem dX11_count_117 : decode cX11_count 117 = .ok (.getfield 50, 3) := by decide +kernel
theorem dX11_count_120 : decode cX11_count 120 = .ok (.ireturn, 1) := by decide +kernel
theorem dX11_count_121 : decode cX11_count 121 = .ok (.iconst (-1), 1) := by decide +kernel
theorem dX11_count_122 : decode cX11_count 122 = .ok (.ireturn, 1) := by decide +kernel
theorem dX11_morning_0 : decode cX11_morning 0 = .ok (.aload_n 0, 1) := by decide +kernel
theorem dX11_morning_1 : decode cX11_morning 1 = .ok (.getfield 47, 3) := by decide +kernel
theorem dX11_morning_4 : decode cX11_morning 4 = .ok (.aload_n 0, 1) := by decide +kernel
theorem dX11_morning_5 : decode cX11_morning 5 = .ok (.getfield 16, 3) := by decide +kernel
theorem dX11_morning_8 : decode cX11_morning 8 = .ok (.getfield 57, 3) := by decide +kernel
theorem dX11_morning_11 : decode cX11_morning 11 = .ok (.if_icmp .ne 5, 3) := by decide +kernel
theorem dX11_morning_14 : decode cX11_morning 14 = .ok (.iconst (-1), 1) := by decide +kernel
theorem dX11_morning_15 : decode cX11_morning 15 = .ok (.ireturn, 1) := by decide +kernel
theorem dX11_morning_16 : decode cX11_morning 16 = .ok (.aload_n 0, 1) := by decide +kernel
theorem dX11_morning_17 : decode cX11_morning 17 = .ok (.aload_n 0, 1) := by decide +kernel
theorem dX11_morning_18 : decode cX11_morning 18 = .ok (.getfield 16, 3) := by decide +kernel
theorem dX11_morning_21 : decode cX11_morning 21 = .ok (.getfield 57, 3) := by decide +kernel
theorem dX11_morning_24 : decode cX11_morning 24 = .ok (.putfield 47, 3) := by decide +kernel
theorem dX11_morning_27 : decode cX11_morning 27 = .ok (.aload_n 0, 1) := by decide +kernel
theorem dX11_morning_28 : decode cX11_morning 28 = .ok (.getfield 32, 3) := by decide +kernel
theorem dX11_morning_31 : decode cX11_morning 31 = .ok (.iconst (-1), 1) := by decide +kernel
theorem dX11_morning_32 : decode cX11_morning 32 = .ok (.invokevirtual 200, 3) := by decide +kernel
theorem dX11_morning_35 : decode cX11_morning 35 = .ok (.istore_n 1, 1) := by decide +kernel
theorem dX11_morning_36 : decode cX11_morning 36 = .ok (.aload_n 0, 1) := by decide +kernel
theorem dX11_morning_37 : decode cX11_morning 37 = .ok (.getfield 32, 3) := by decide +kernel
theorem dX11_morning_40 : decode cX11_morning 40 = .ok (.invokevirtual 203, 3) := by decide +kernel
theorem dX11_morning_43 : decode cX11_morning 43 = .ok (.iload_n 1, 1) := by decide +kernel
theorem dX11_morning_44 : decode cX11_morning 44 = .ok (.ireturn, 1) := by decide +kernel
theorem dX11_told_0 : decode cX11_told 0 = .ok (.aload_n 0, 1) := by decide +kernel
theorem dX11_told_1 : decode cX11_told 1 = .ok (.iconst (-1), 1) := by decide +kernel
theorem dX11_told_2 : decode cX11_told 2 = .ok (.putfield 43, 3) := by decide +kernel
theorem dX11_told_5 : decode cX11_told 5 = .ok (.aload_n 0, 1) := by decide +kernel
theorem dX11_told_6 : decode cX11_told 6 = .ok (.getfield 16, 3) := by decide +kernel
theorem dX11_told_9 : decode cX11_told 9 = .ok (.getfield 116, 3) := by decide +kernel
theorem dX11_told_12 : decode cX11_told 12 = .ok (.iload_n 1, 1) := by decide +kernel
theorem dX11_told_13 : decode cX11_told 13 = .ok (.invokevirtual 186, 3) := by decide +kernel
theorem dX11_told_16 : decode cX11_told 16 = .ok (.ifCond .eq 21, 3) := by decide +kernel
theorem dX11_told_19 : decode cX11_told 19 = .ok (.iload_n 2, 1) := by decide +kernel
theorem dX11_told_20 : decode cX11_told 20 = .ok (.ifCond .lt 17, 3) := by decide +kernel
theorem dX11_told_23 : decode cX11_told 23 = .ok (.iload_n 2, 1) := by decide +kernel
theorem dX11_told_24 : decode cX11_told 24 = .ok (.iconst 5, 1) := by decide +kernel
theorem dX11_told_25 : decode cX11_told 25 = .ok (.if_icmp .gt 12, 3) := by decide +kernel
theorem dX11_told_28 : decode cX11_told 28 = .ok (.iload_n 3, 1) := by decide +kernel
theorem dX11_told_29 : decode cX11_told 29 = .ok (.ifCond .lt 8, 3) := by decide +kernel
theorem dX11_told_32 : decode cX11_told 32 = .ok (.iload 4, 2) := by decide +kernel
theorem dX11_told_34 : decode cX11_told 34 = .ok (.ifCond .ge 5, 3) := by decide +kernel
theorem dX11_told_37 : decode cX11_told 37 = .ok (.iconst (-1), 1) := by decide +kernel
theorem dX11_told_38 : decode cX11_told 38 = .ok (.ireturn, 1) := by decide +kernel
theorem dX11_told_39 : decode cX11_told 39 = .ok (.aload_n 0, 1) := by decide +kernel
theorem dX11_told_40 : decode cX11_told 40 = .ok (.getfield 16, 3) := by decide +kernel
theorem dX11_told_43 : decode cX11_told 43 = .ok (.aload_n 0, 1) := by decide +kernel
theorem dX11_told_44 : decode cX11_told 44 = .ok (.getfield 16, 3) := by decide +kernel
theorem dX11_told_47 : decode cX11_told 47 = .ok (.invokevirtual 189, 3) := by decide +kernel
theorem dX11_told_50 : decode cX11_told 50 = .ok (.iload_n 1, 1) := by decide +kernel
theorem dX11_told_51 : decode cX11_told 51 = .ok (.iload_n 2, 1) := by decide +kernel
theorem dX11_told_52 : decode cX11_told 52 = .ok (.iload_n 3, 1) := by decide +kernel
theorem dX11_told_53 : decode cX11_told 53 = .ok (.iload 4, 2) := by decide +kernel
theorem dX11_told_55 : decode cX11_told 55 = .ok (.invokevirtual 193, 3) := by decide +kernel
theorem dX11_told_58 : decode cX11_told 58 = .ok (.istore 5, 2) := by decide +kernel
theorem dX11_told_60 : decode cX11_told 60 = .ok (.aload_n 0, 1) := by decide +kernel
theorem dX11_told_61 : decode cX11_told 61 = .ok (.aload_n 0, 1) := by decide +kernel
theorem dX11_told_62 : decode cX11_told 62 = .ok (.getfield 16, 3) := by decide +kernel
theorem dX11_told_65 : decode cX11_told 65 = .ok (.getfield 197, 3) := by decide +kernel
theorem dX11_told_68 : decode cX11_told 68 = .ok (.putfield 43, 3) := by decide +kernel
theorem dX11_told_71 : decode cX11_told 71 = .ok (.iload 5, 2) := by decide +kernel
theorem dX11_told_73 : decode cX11_told 73 = .ok (.ireturn, 1) := by decide +kernel
theorem dX11_tried_0 : decode cX11_tried 0 = .ok (.aload_n 0, 1) := by decide +kernel
theorem dX11_tried_1 : decode cX11_tried 1 = .ok (.getfield 16, 3) := by decide +kernel
theorem dX11_tried_4 : decode cX11_tried 4 = .ok (.getfield 101, 3) := by decide +kernel
theorem dX11_tried_7 : decode cX11_tried 7 = .ok (.iload_n 1, 1) := by decide +kernel
theorem dX11_tried_8 : decode cX11_tried 8 = .ok (.invokevirtual 110, 3) := by decide +kernel
theorem dX11_tried_11 : decode cX11_tried 11 = .ok (.ifCond .eq 17, 3) := by decide +kernel
theorem dX11_tried_14 : decode cX11_tried 14 = .ok (.aload_n 0, 1) := by decide +kernel
theorem dX11_tried_15 : decode cX11_tried 15 = .ok (.getfield 47, 3) := by decide +kernel
theorem dX11_tried_18 : decode cX11_tried 18 = .ok (.aload_n 0, 1) := by decide +kernel
theorem dX11_tried_19 : decode cX11_tried 19 = .ok (.getfield 16, 3) := by decide +kernel
theorem dX11_tried_22 : decode cX11_tried 22 = .ok (.getfield 57, 3) := by decide +kernel
theorem dX11_tried_25 : decode cX11_tried 25 = .ok (.if_icmp .ne 5, 3) := by decide +kernel
theorem dX11_tried_28 : decode cX11_tried 28 = .ok (.iconst (-1), 1) := by decide +kernel
theorem dX11_tried_29 : decode cX11_tried 29 = .ok (.ireturn, 1) := by decide +kernel
theorem dX11_tried_30 : decode cX11_tried 30 = .ok (.aload_n 0, 1) := by decide +kernel
theorem dX11_tried_31 : decode cX11_tried 31 = .ok (.getfield 32, 3) := by decide +kernel
theorem dX11_tried_34 : decode cX11_tried 34 = .ok (.iload_n 1, 1) := by decide +kernel
theorem dX11_tried_35 : decode cX11_tried 35 = .ok (.invokevirtual 200, 3) := by decide +kernel
theorem dX11_tried_38 : decode cX11_tried 38 = .ok (.ireturn, 1) := by decide +kernel
theorem dX1_lead_0 : decode cX1_lead 0 = .ok (.aload_n 0, 1) := by decide +kernel
theorem dX1_lead_1 : decode cX1_lead 1 = .ok (.iload_n 1, 1) := by decide +kernel
theorem dX1_lead_2 : decode cX1_lead 2 = .ok (.putfield 82, 3) := by decide +kernel
theorem dX1_lead_5 : decode cX1_lead 5 = .ok (.aload_n 0, 1) := by decide +kernel
theorem dX1_lead_6 : decode cX1_lead 6 = .ok (.aload_n 0, 1) := by decide +kernel
theorem dX1_lead_7 : decode cX1_lead 7 = .ok (.getfield 9, 3) := by decide +kernel
theorem dX1_lead_10 : decode cX1_lead 10 = .ok (.invokevirtual 86, 3) := by decide +kernel
theorem dX1_lead_13 : decode cX1_lead 13 = .ok (.putfield 30, 3) := by decide +kernel
theorem dX1_lead_16 : decode cX1_lead 16 = .ok (.aload_n 0, 1) := by decide +kernel
theorem dX1_lead_17 : decode cX1_lead 17 = .ok (.aload_n 0, 1) := by decide +kernel
theorem dX1_lead_18 : decode cX1_lead 18 = .ok (.getfield 9, 3) := by decide +kernel
theorem dX1_lead_21 : decode cX1_lead 21 = .ok (.getfield 90, 3) := by decide +kernel
theorem dX1_lead_24 : decode cX1_lead 24 = .ok (.putfield 93, 3) := by decide +kernel
theorem dX1_lead_27 : decode cX1_lead 27 = .ok (.aload_n 0, 1) := by decide +kernel
theorem dX1_lead_28 : decode cX1_lead 28 = .ok (.getfield 79, 3) := by decide +kernel
theorem dX1_lead_31 : decode cX1_lead 31 = .ok (.iconst 0, 1) := by decide +kernel
theorem dX1_lead_32 : decode cX1_lead 32 = .ok (.invokestatic 94, 3) := by decide +kernel
theorem dX1_lead_35 : decode cX1_lead 35 = .ok (.aload_n 0, 1) := by decide +kernel
theorem dX1_lead_36 : decode cX1_lead 36 = .ok (.invokevirtual 100, 3) := by decide +kernel
theorem dX1_lead_39 : decode cX1_lead 39 = .ok (.aload_n 0, 1) := by decide +kernel
theorem dX1_lead_40 : decode cX1_lead 40 = .ok (.invokevirtual 103, 3) := by decide +kernel
theorem dX1_lead_43 : decode cX1_lead 43 = .ok (.aload_n 0, 1) := by decide +kernel
theorem dX1_lead_44 : decode cX1_lead 44 = .ok (.invokevirtual 106, 3) := by decide +kernel
theorem dX1_lead_47 : decode cX1_lead 47 = .ok (.aload_n 0, 1) := by decide +kernel
theorem dX1_lead_48 : decode cX1_lead 48 = .ok (.getfield 20, 3) := by decide +kernel
theorem dX1_lead_51 : decode cX1_lead 51 = .ok (.iload_n 1, 1) := by decide +kernel
theorem dX1_lead_52 : decode cX1_lead 52 = .ok (.invokevirtual 109, 3) := by decide +kernel
theorem dX1_lead_55 : decode cX1_lead 55 = .ok (.iconst 0, 1) := by decide +kernel
theorem dX1_lead_56 : decode cX1_lead 56 = .ok (.istore_n 2, 1) := by decide +kernel
theorem dX1_lead_57 : decode cX1_lead 57 = .ok (.iload_n 2, 1) := by decide +kernel
theorem dX1_lead_58 : decode cX1_lead 58 = .ok (.sipush 840, 3) := by decide +kernel
theorem dX1_lead_61 : decode cX1_lead 61 = .ok (.if_icmp .ge 38, 3) := by decide +kernel
theorem dX1_lead_64 : decode cX1_lead 64 = .ok (.aload_n 0, 1) := by decide +kernel
theorem dX1_lead_65 : decode cX1_lead 65 = .ok (.getfield 79, 3) := by decide +kernel
theorem dX1_lead_68 : decode cX1_lead 68 = .ok (.iload_n 2, 1) := by decide +kernel
theorem dX1_lead_69 : decode cX1_lead 69 = .ok (.iaload, 1) := by decide +kernel
theorem dX1_lead_70 : decode cX1_lead 70 = .ok (.ifCond .eq 23, 3) := by decide +kernel
theorem dX1_lead_73 : decode cX1_lead 73 = .ok (.aload_n 0, 1) := by decide +kernel
theorem dX1_lead_74 : decode cX1_lead 74 = .ok (.iload_n 2, 1) := by decide +kernel
theorem dX1_lead_75 : decode cX1_lead 75 = .ok (.invokevirtual 113, 3) := by decide +kernel
theorem dX1_lead_78 : decode cX1_lead 78 = .ok (.aload_n 0, 1) := by decide +kernel
theorem dX1_lead_79 : decode cX1_lead 79 = .ok (.iload_n 2, 1) := by decide +kernel
theorem dX1_lead_80 : decode cX1_lead 80 = .ok (.invokevirtual 116, 3) := by decide +kernel
theorem dX1_lead_83 : decode cX1_lead 83 = .ok (.aload_n 0, 1) := by decide +kernel
theorem dX1_lead_84 : decode cX1_lead 84 = .ok (.iload_n 2, 1) := by decide +kernel
theorem dX1_lead_85 : decode cX1_lead 85 = .ok (.invokevirtual 119, 3) := by decide +kernel
theorem dX1_lead_88 : decode cX1_lead 88 = .ok (.aload_n 0, 1) := by decide +kernel
theorem dX1_lead_89 : decode cX1_lead 89 = .ok (.iload_n 2, 1) := by decide +kernel
theorem dX1_lead_90 : decode cX1_lead 90 = .ok (.invokevirtual 122, 3) := by decide +kernel
theorem dX1_lead_93 : decode cX1_lead 93 = .ok (.iinc 2 1, 3) := by decide +kernel
theorem dX1_lead_96 : decode cX1_lead 96 = .ok (.goto (-39), 3) := by decide +kernel
theorem dX1_lead_99 : decode cX1_lead 99 = .ok (.aload_n 0, 1) := by decide +kernel
theorem dX1_lead_100 : decode cX1_lead 100 = .ok (.invokevirtual 125, 3) := by decide +kernel
theorem dX1_lead_103 : decode cX1_lead 103 = .ok (.ireturn, 1) := by decide +kernel
theorem ix_sw_0_8 (x : Int32) : x.toInt < 0 ∨ 7 < x.toInt ∨ x = 0 ∨ x = 1 ∨ x = 2 ∨ x = 3 ∨ x = 4 ∨ x = 5 ∨ x = 6 ∨ x = 7 := by
  have e : ∀ n : Int32, x = n ↔ x.toInt = n.toInt := fun n => ⟨fun q => by rw [q], fun q => Int32.toInt_inj.mp q⟩
  simp only [e]
  have z : (0 : Int32).toInt = 0 ∧ (1 : Int32).toInt = 1 ∧ (2 : Int32).toInt = 2 ∧ (3 : Int32).toInt = 3 ∧ (4 : Int32).toInt = 4 ∧ (5 : Int32).toInt = 5 ∧ (6 : Int32).toInt = 6 ∧ (7 : Int32).toInt = 7 := by decide
  omega
set_option maxHeartbeats 4000000 in
set_option maxRecDepth 100000 in
theorem x_lead (l : Launch) (dC : Nat → ClassId) (dI : Nat → Nat → Nat) (sz : Nat) (ob ad : Nat → Nat) (cA : Nat → ClassId) (hd : dX ob ad) (fv : Nat → Int32) (wd : xT) (ar : Nat → Nat → Int32) (hF_fv : rX fv) (hA_ar : rB ar) (gla : Nat → Nat) (gfr : Nat → Int32) (gra : Nat → Nat → Nat) (grc : Nat → Nat → ClassId) (gln gcn : Nat → Nat) (glr : Nat → Nat → Nat → Int32) (ce : ClassId) (ef : Nat → Option Nat) (a : Int32) : Met l yX1_lead (.code yX1_lead cX1_lead 3 (some .int) :: lw_good) ({ frames := 8, cells := 0, slots := 0, locals := 191 }) (va_Pc [.ref (ob 8), .int a] (fun U => prX dC dI ob ad cA fv wd ar sz U ∧ lsA dC dI ob ad gla gfr gra grc gln gcn glr ce ef (fv 30).toInt wd.2.2.2 sz U)) (va_Qi (fun (r : Int32) (u : xS) => rX u.1 ∧ rB u.2.2 ∧ fM [6, 22, 23, 24] fv u.1 ∧ fA [4, 44, 45, 46, 47, 48, 49, 50, 51, 52, 53, 54, 55, 56, 57, 58, 59, 60, 61, 62, 63, 64] ar u.2.2 ∧ (u.2.1.2.2.2 = wd.2.2.2) ∧ (u.2.1.2.1 = wd.2.1) ∧ (∃ z : Nat, (z : Int) ≤ (fv 30).toInt ∧ u.2.1.2.2.1 = gla z) ∧ True) (enX dC dI ob ad cA) (aX ob ad sz)) 0 0 (aX ob ad sz) := by
  refine Met.ofW (cc := cX1_lead) (maxL := 3) (ret := (some .int)) (by decide) rfl ?_
  intro p e s m args below meth c s₁ B hml hv
  obtain ⟨rfl, ⟨hsz, hP, hK⟩, hG⟩ := hv
  have hx := B.exec
  have hb := B.bytes
  have hr := B.returns
  have hts := atoms_spec (ws := (.code yX1_lead cX1_lead 3 (some .int) :: lw_good)) B.pre
  have htg : ∀ w ∈ lw_good, w.before _ s = true := fun w hw => hts w (List.mem_cons_of_mem _ hw)
  have hown : s.vm.findClass RX1 = some m.cls := findClass_of_methodNamed B.named
  have hlocks := B.notSynchronized
  subst hsz
  have hS : va_S (aX ob ad s.heap.size) s.heap s.heap [] := va_S.rf
  have hl := lv_entry ([.ref (ob 8), .int a]) (n := 3) (Nat.le_of_ble_eq_true rfl)
  rw [lg_entry_eq]
  generalize (lg_sl ([.ref (ob 8), .int a]) ++ List.replicate (3 - (lg_sl ([.ref (ob 8), .int a])).length) Slot.unset).toArray = ls at hl ⊢
  have hl : lv_has ls 3 [(0, .ref (ob 8)), (1, .int a)] := hl
  refine lv_aload_n hx hb dX1_lead_0 rfl (lv_at hl 0 rfl) ?_
  refine lv_iload_n hx hb dX1_lead_1 rfl (lv_at hl 1 rfl) ?_
  refine pX_X1_82 hx hb htg hown hK hP hS hd dX1_lead_2 (fun H locs fv_1 efv_1 hP hS => ?_)
  have hF_fv_1 : rX fv_1 := rX_put hF_fv efv_1 (iv_any a)
  refine lv_aload_n hx hb dX1_lead_5 rfl (lv_at hl 0 rfl) ?_
  refine lv_aload_n hx hb dX1_lead_6 rfl (lv_at hl 0 rfl) ?_
  refine gX_X1_9 hx hb htg hown hK hP dX1_lead_7 ?_
  have z_2 : (fv_1 30).toInt = (fv 30).toInt := congrArg Int32.toInt ((congrFun efv_1 30))
  have z_3 : 0 ≤ (fv_1 30).toInt ∧ (fv_1 30).toInt ≤ 10 := hF_fv_1 30
  refine va_callr (va_runV (As := []) (rest := [.ref (ob 8)]) ⟨hx, hb, hml, hown, hts⟩ (x_lawToday l dC dI H.size ob ad cA hd fv_1 wd ar hF_fv_1 hA_ar gla gfr gra grc gln gcn glr ce ef) (cwV 0 hts (gV kw_5_53 kw_5_2 kw_5_3 kw_1_2 kw_5_4) rfl rfl rfl (by decide +kernel) ⟨Nat.le_of_ble_eq_true rfl, Nat.le_of_ble_eq_true rfl⟩) ⟨fun a U g mk q => ⟨q.1, ⟨q.2.1.1, q.2.1.2.1, va_K.moved (u := U) (U := U.calling g mk a) (Vm.Alike.refl U.vm) q.2.1.2.2⟩, ls_mv (U := U.calling g mk a) rfl (Vm.Alike.refl U.vm) q.2.2⟩, va_recv hK hP (ci := 7) (q0 := 1) rfl rfl, fun U hU hW => ⟨rfl, ⟨by rw [hU], by rw [hU]; exact hP, va_K.moved hW.alike hK⟩, ls_eq (ls_pass hG hS hU hW.alike) (congrArg Int32.toInt ((congrFun efv_1 30))) rfl⟩⟩ rfl rfl hl.1 rfl (lv_room (Nat.le_of_ble_eq_true rfl)) dX1_lead_10 ⟨Nat.le_of_ble_eq_true rfl, Nat.le_of_ble_eq_true rfl⟩) hS (fun q _ h9 => aX_up hS q h9) (aX_up hS) (fun u r_4 t H1 locs ht _ hw hB _ hk1 hS => ?_)
  obtain ⟨fv_5, wd_6, ar_7⟩ := u
  obtain ⟨hF_fv_5, hA_ar_7, fr_8, fa_9, wf_10, -⟩ := hw
  have wf_10 : wd_6.2 = wd.2 := wf_10
  have hP : va_P (dC, dI) vwCl (wsX ob ad cA fv_5 wd_6 ar_7) H1 := by have h9 := hB.1.1; rw [ht] at h9; exact h9
  have fr_8 : fM [] fv_1 fv_5 := fr_8
  have fa_9 : fA [] ar ar_7 := fa_9
  generalize H1 = H at hP hS ⊢
  obtain ⟨z9, hz9, hr9⟩ := hB.2
  subst hr9
  have hz8 : (z9 : Int) ≤ (fv 30).toInt := by omega
  have hL := (hG.2.1 z9 hz8).2
  have hlq := (hG.2.1 z9 hz8).1
  refine pXw_X1_30 hx hb htg hown hK hP hS hd dX1_lead_13 (fun H locs wd_11 ewd_11 hP hS => ?_)
  refine lv_aload_n hx hb dX1_lead_16 rfl (lv_at hl 0 rfl) ?_
  refine lv_aload_n hx hb dX1_lead_17 rfl (lv_at hl 0 rfl) ?_
  refine gX_X1_9 hx hb htg hown hK hP dX1_lead_18 ?_
  refine gX_X1_90 hx hb htg hown hK hP dX1_lead_21 ?_
  refine my_ti (y := fv 8) ((fr_8 8 rfl).trans ((congrFun efv_1 8))) ?_
  refine pX_X1_93 hx hb htg hown hK hP hS hd dX1_lead_24 (fun H locs fv_12 efv_12 hP hS => ?_)
  have hF_fv_12 : rX fv_12 := rX_put hF_fv_5 efv_12 (iv_any (fv 8))
  refine lv_aload_n hx hb dX1_lead_27 rfl (lv_at hl 0 rfl) ?_
  refine gX_X1_79 hx hb htg hown hK hP dX1_lead_28 ?_
  refine lv_iconst (v := 0) hx hb dX1_lead_31 (by decide) ?_
  refine va_callv (va_runS (As := [.ref (ad 57), .int 0]) (rest := []) ⟨hx, hb, hml, hown, hts⟩ (x_fillB l dC dI H.size ob ad cA hd fv_12 wd_11 ar_7 hF_fv_12 hA_ar_7 0) (va_cwS 2 hts (gS kw_5_54 kw_5_55 kw_1_25 kw_5_56) rfl rfl rfl (by decide +kernel) ⟨Nat.le_of_ble_eq_true rfl, Nat.le_of_ble_eq_true rfl⟩) ⟨fun a U g mk q => ⟨q.1, q.2.1, q.2.2.1, va_K.moved (u := U) (U := U.calling g mk a) (Vm.Alike.refl U.vm) q.2.2.2⟩, fun U hU hW => ⟨rfl, by rw [hU], by rw [hU]; exact hP, va_K.moved hW.alike hK⟩⟩ rfl rfl hl.1 rfl (lv_room (Nat.le_of_ble_eq_true rfl)) dX1_lead_32 ⟨Nat.le_of_ble_eq_true rfl, Nat.le_of_ble_eq_true rfl⟩) hS (fun q _ h9 => aX_up hS q h9) (aX_up hS) (fun u t H1 locs ht _ hw hB _ hk1 hS => ?_)
  obtain ⟨fv_14, wd_15, ar_16⟩ := u
  obtain ⟨hF_fv_14, hA_ar_16, fr_17, fa_18, wf_19, -⟩ := hw
  have wf_19 : wd_15.2 = wd_11.2 := wf_19
  have hP : va_P (dC, dI) vwCl (wsX ob ad cA fv_14 wd_15 ar_16) H1 := by have h9 := hB.1; rw [ht] at h9; exact h9
  have fr_17 : fM [] fv_12 fv_14 := fr_17
  have fa_18 : fA [57] ar_7 ar_16 := fa_18
  generalize H1 = H at hP hS ⊢
  refine lv_aload_n hx hb dX1_lead_35 rfl (lv_at hl 0 rfl) ?_
  refine va_callv (va_runV (As := []) (rest := []) ⟨hx, hb, hml, hown, hts⟩ (x_readyPeople l dC dI H.size ob ad cA hd fv_14 wd_15 ar_16 hF_fv_14 hA_ar_16) (cwV 0 hts (gV kw_5_57 kw_5_59 kw_p_21 kw_1_12 kw_5_60) rfl rfl rfl (by decide +kernel) ⟨Nat.le_of_ble_eq_true rfl, Nat.le_of_ble_eq_true rfl⟩) ⟨fun a U g mk q => ⟨q.1, q.2.1, q.2.2.1, va_K.moved (u := U) (U := U.calling g mk a) (Vm.Alike.refl U.vm) q.2.2.2⟩, va_recv hK hP (ci := 2) (q0 := 8) rfl rfl, fun U hU hW => ⟨rfl, by rw [hU], by rw [hU]; exact hP, va_K.moved hW.alike hK⟩⟩ rfl rfl hl.1 rfl (lv_room (Nat.le_of_ble_eq_true rfl)) dX1_lead_36 ⟨Nat.le_of_ble_eq_true rfl, Nat.le_of_ble_eq_true rfl⟩) hS (fun q _ h9 => aX_up hS q h9) (aX_up hS) (fun u t H1 locs ht _ hw hB _ hk1 hS => ?_)
  obtain ⟨fv_21, wd_22, ar_23⟩ := u
  obtain ⟨hF_fv_21, hA_ar_23, fr_24, fa_25, wf_26, -⟩ := hw
  have wf_26 : wd_22.2 = wd_15.2 := wf_26
  have hP : va_P (dC, dI) vwCl (wsX ob ad cA fv_21 wd_22 ar_23) H1 := by have h9 := hB.1; rw [ht] at h9; exact h9
  have fr_24 : fM [] fv_14 fv_21 := fr_24
  have fa_25 : fA [44, 45, 46, 47, 48, 49, 50, 57, 64] ar_16 ar_23 := fa_25
  generalize H1 = H at hP hS ⊢
  refine lv_aload_n hx hb dX1_lead_39 rfl (lv_at hl 0 rfl) ?_
  refine va_callv (va_runV (As := []) (rest := []) ⟨hx, hb, hml, hown, hts⟩ (x_readyWheels l dC dI H.size ob ad cA hd fv_21 wd_22 ar_23 hF_fv_21 hA_ar_23) (cwV 0 hts (gV kw_5_73 kw_5_75 kw_p_23 kw_1_12 kw_5_76) rfl rfl rfl (by decide +kernel) ⟨Nat.le_of_ble_eq_true rfl, Nat.le_of_ble_eq_true rfl⟩) ⟨fun a U g mk q => ⟨q.1, q.2.1, q.2.2.1, va_K.moved (u := U) (U := U.calling g mk a) (Vm.Alike.refl U.vm) q.2.2.2⟩, va_recv hK hP (ci := 2) (q0 := 8) rfl rfl, fun U hU hW => ⟨rfl, by rw [hU], by rw [hU]; exact hP, va_K.moved hW.alike hK⟩⟩ rfl rfl hl.1 rfl (lv_room (Nat.le_of_ble_eq_true rfl)) dX1_lead_40 ⟨Nat.le_of_ble_eq_true rfl, Nat.le_of_ble_eq_true rfl⟩) hS (fun q _ h9 => aX_up hS q h9) (aX_up hS) (fun u t H1 locs ht _ hw hB _ hk1 hS => ?_)
  obtain ⟨fv_28, wd_29, ar_30⟩ := u
  obtain ⟨hF_fv_28, hA_ar_30, fr_31, fa_32, wf_33, -⟩ := hw
  have wf_33 : wd_29.2 = wd_22.2 := wf_33
  have hP : va_P (dC, dI) vwCl (wsX ob ad cA fv_28 wd_29 ar_30) H1 := by have h9 := hB.1; rw [ht] at h9; exact h9
  have fr_31 : fM [] fv_21 fv_28 := fr_31
  have fa_32 : fA [51, 52, 53, 54, 55] ar_23 ar_30 := fa_32
  generalize H1 = H at hP hS ⊢
  refine lv_aload_n hx hb dX1_lead_43 rfl (lv_at hl 0 rfl) ?_
  refine va_callv (va_runV (As := []) (rest := []) ⟨hx, hb, hml, hown, hts⟩ (x_readyTrips l dC dI H.size ob ad cA hd fv_28 wd_29 ar_30 hF_fv_28 hA_ar_30) (cwV 0 hts (gV kw_5_77 kw_5_79 kw_p_24 kw_1_12 kw_5_80) rfl rfl rfl (by decide +kernel) ⟨Nat.le_of_ble_eq_true rfl, Nat.le_of_ble_eq_true rfl⟩) ⟨fun a U g mk q => ⟨q.1, q.2.1, q.2.2.1, va_K.moved (u := U) (U := U.calling g mk a) (Vm.Alike.refl U.vm) q.2.2.2⟩, va_recv hK hP (ci := 2) (q0 := 8) rfl rfl, fun U hU hW => ⟨rfl, by rw [hU], by rw [hU]; exact hP, va_K.moved hW.alike hK⟩⟩ rfl rfl hl.1 rfl (lv_room (Nat.le_of_ble_eq_true rfl)) dX1_lead_44 ⟨Nat.le_of_ble_eq_true rfl, Nat.le_of_ble_eq_true rfl⟩) hS (fun q _ h9 => aX_up hS q h9) (aX_up hS) (fun u t H1 locs ht _ hw hB _ hk1 hS => ?_)
  obtain ⟨fv_35, wd_36, ar_37⟩ := u
  obtain ⟨hF_fv_35, hA_ar_37, fr_38, fa_39, wf_40, -⟩ := hw
  have wf_40 : wd_36.2 = wd_29.2 := wf_40
  have hP : va_P (dC, dI) vwCl (wsX ob ad cA fv_35 wd_36 ar_37) H1 := by have h9 := hB.1; rw [ht] at h9; exact h9
  have fr_38 : fM [] fv_28 fv_35 := fr_38
  have fa_39 : fA [56, 57] ar_30 ar_37 := fa_39
  generalize H1 = H at hP hS ⊢
  refine lv_aload_n hx hb dX1_lead_47 rfl (lv_at hl 0 rfl) ?_
  refine gX_X1_20 hx hb htg hown hK hP dX1_lead_48 ?_
  refine lv_iload_n hx hb dX1_lead_51 rfl (lv_at hl 1 rfl) ?_
  refine va_callv (va_runV (As := [.int a]) (rest := []) ⟨hx, hb, hml, hown, hts⟩ (x_layOut l dC dI H.size ob ad cA hd fv_35 wd_36 ar_37 hF_fv_35 hA_ar_37 a) (cwV 1 hts (gV kw_5_89 kw_5_90 kw_5_91 kw_1_13 kw_5_92) rfl rfl rfl (by decide +kernel) ⟨Nat.le_of_ble_eq_true rfl, Nat.le_of_ble_eq_true rfl⟩) ⟨fun a U g mk q => ⟨q.1, q.2.1, q.2.2.1, va_K.moved (u := U) (U := U.calling g mk a) (Vm.Alike.refl U.vm) q.2.2.2⟩, va_recv hK hP (ci := 9) (q0 := 9) rfl rfl, fun U hU hW => ⟨rfl, by rw [hU], by rw [hU]; exact hP, va_K.moved hW.alike hK⟩⟩ rfl rfl hl.1 rfl (lv_room (Nat.le_of_ble_eq_true rfl)) dX1_lead_52 ⟨Nat.le_of_ble_eq_true rfl, Nat.le_of_ble_eq_true rfl⟩) hS (fun q _ h9 => aX_up hS q h9) (aX_up hS) (fun u t H1 locs ht _ hw hB _ hk1 hS => ?_)
  obtain ⟨fv_42, wd_43, ar_44⟩ := u
  obtain ⟨hF_fv_42, hA_ar_44, fr_45, fa_46, wf_47, -⟩ := hw
  have wf_47 : wd_43.2 = wd_36.2 := wf_47
  have hP : va_P (dC, dI) vwCl (wsX ob ad cA fv_42 wd_43 ar_44) H1 := by have h9 := hB.1; rw [ht] at h9; exact h9
  have fr_45 : fM [24] fv_35 fv_42 := fr_45
  have fa_46 : fA [58, 59, 60, 61] ar_37 ar_44 := fa_46
  generalize H1 = H at hP hS ⊢
  refine lv_iconst (v := 0) hx hb dX1_lead_55 (by decide) ?_
  refine lv_istore_n (lv' := [(2, .int 0), (0, .ref (ob 8)), (1, .int a)]) hx hb dX1_lead_56 rfl hl (by decide) rfl (fun ls hl => ?_)
  refine my_cut (P := fun R9 a9 Q9 => ∀ (n_55 : Nat) (x_48 : Int32) (fv_49 : Nat → Int32) (ar_51 : Nat → Nat → Int32) (wd_53 : xT) (H : Heap) (locs : List Loc) (ls : Array Slot), 840 - x_48.toInt < (n_55 : Int) → (0 ≤ x_48.toInt ∧ x_48.toInt ≤ 840) → rX fv_49 → fM [6, 23] fv_42 fv_49 → rB ar_51 → fA [4, 44, 45, 46, 47, 48, 49, 50, 51, 52, 53, 54, 55, 56, 57, 62, 63, 64] ar_44 ar_51 → wd_53.2 = wd_43.2 → va_P (dC, dI) vwCl (wsX ob ad cA fv_49 wd_53 ar_51) H → va_S (aX ob ad s.heap.size) s.heap H locs → lv_has ls 3 [(0, .ref (ob 8)), (2, .int x_48)] → W p l e R9 s m a9 below meth c H locs 0 0 Q9 (F0 m 57 ls [])) ?_ (fun hj_57 => ?_)
  · intro n_55
    induction n_55 with
    | zero => intro x_48 fv_49 ar_51 wd_53 H locs ls fu_56 i_x_48 hF_fv_49 fr_50 hA_ar_51 fa_52 wf_54; exfalso; omega
    | succ n_55 ih_55 =>
      intro x_48 fv_49 ar_51 wd_53 H locs ls fu_56 i_x_48 hF_fv_49 fr_50 hA_ar_51 fa_52 wf_54 hP hS hl
      refine lv_iload_n hx hb dX1_lead_57 rfl (lv_at hl 1 rfl) ?_
      refine lv_sipush (v := 840) hx hb dX1_lead_58 (by decide) ?_
      refine lv_icmp_ge (tgt := 99) hx hb dX1_lead_61 (by decide) (fun c_58 => ?_) (fun c_58 => ?_)
      · skip
        have i_59 : 840 ≤ x_48.toInt ∧ x_48.toInt ≤ 840 := iv_le2 (⟨by decide, by decide⟩ : (840 : Int) ≤ (840 : Int32).toInt ∧ (840 : Int32).toInt ≤ 840) i_x_48 c_58
        refine lv_aload_n hx hb dX1_lead_99 rfl (lv_at hl 0 rfl) ?_
        refine va_calli (va_runV (As := []) (rest := []) ⟨hx, hb, hml, hown, hts⟩ (x_countOnTime l dC dI H.size ob ad cA hd fv_49 wd_53 ar_51 hF_fv_49 hA_ar_51) (cwV 0 hts (gV kw_5_207 kw_5_209 kw_p_45 kw_1_12 kw_5_210) rfl rfl rfl (by decide +kernel) ⟨Nat.le_of_ble_eq_true rfl, Nat.le_of_ble_eq_true rfl⟩) ⟨fun a U g mk q => ⟨q.1, q.2.1, q.2.2.1, va_K.moved (u := U) (U := U.calling g mk a) (Vm.Alike.refl U.vm) q.2.2.2⟩, va_recv hK hP (ci := 2) (q0 := 8) rfl rfl, fun U hU hW => ⟨rfl, by rw [hU], by rw [hU]; exact hP, va_K.moved hW.alike hK⟩⟩ rfl rfl hl.1 rfl (lv_room (Nat.le_of_ble_eq_true rfl)) dX1_lead_100 ⟨Nat.le_of_ble_eq_true rfl, Nat.le_of_ble_eq_true rfl⟩) hS (fun q _ h9 => aX_up hS q h9) (aX_up hS) (fun r_104 u t H1 locs ht _ hw hB _ hk1 hS => ?_)
        obtain ⟨fv_105, wd_106, ar_107⟩ := u
        obtain ⟨hF_fv_105, hA_ar_107, fr_108, fa_109, wf_110, -⟩ := hw
        have wf_110 : wd_106.2 = wd_53.2 := wf_110
        have hP : va_P (dC, dI) vwCl (wsX ob ad cA fv_105 wd_106 ar_107) H1 := by have h9 := hB.1; rw [ht] at h9; exact h9
        have fr_108 : fM [] fv_49 fv_105 := fr_108
        have fa_109 : fA [] ar_51 ar_107 := fa_109
        generalize H1 = H at hP hS ⊢
        exact W.iret (v := r_104) hx hb hr (fun t ht hW => ⟨⟨r_104, (fv_105, wd_106, ar_107), rfl, ⟨hF_fv_105, hA_ar_107, (fM_call (fM_call (fM_call (fM_call (fM_call (fM_call (fM_call (fM_put (fM_call (fM_put (fM_rf [6, 22, 23, 24] _) efv_1 (by decide)) fr_8 (by decide)) efv_12 (by decide)) fr_17 (by decide)) fr_24 (by decide)) fr_31 (by decide)) fr_38 (by decide)) fr_45 (by decide)) fr_50 (by decide)) fr_108 (by decide)), (fA_call (fA_call (fA_call (fA_call (fA_call (fA_call (fA_call (fA_call (fA_rf [4, 44, 45, 46, 47, 48, 49, 50, 51, 52, 53, 54, 55, 56, 57, 58, 59, 60, 61, 62, 63, 64] _) fa_9 (by decide)) fa_18 (by decide)) fa_25 (by decide)) fa_32 (by decide)) fa_39 (by decide)) fa_46 (by decide)) fa_52 (by decide)) fa_109 (by decide)), (show wd_106.2.2.2 = wd.2.2.2 from ((congrArg (fun z => z.2.2) (wf_110.trans (wf_54.trans (wf_47.trans (wf_40.trans (wf_33.trans (wf_26.trans wf_19)))))))).trans ((ewd_11.2.2).trans ((congrArg (fun z => z.2.2) wf_10)))), (show wd_106.2.1 = wd.2.1 from ((congrArg (fun z => z.1) (wf_110.trans (wf_54.trans (wf_47.trans (wf_40.trans (wf_33.trans (wf_26.trans wf_19)))))))).trans ((ewd_11.1).trans ((congrArg (fun z => z.1) wf_10)))), (show ∃ z : Nat, (z : Int) ≤ (fv 30).toInt ∧ wd_106.2.2.1 = gla z from ⟨z9, hz8, ((congrArg (fun z => z.2.1) (wf_110.trans (wf_54.trans (wf_47.trans (wf_40.trans (wf_33.trans (wf_26.trans wf_19))))))).trans ewd_11.2.1)⟩), trivial⟩, ⟨by rw [ht]; exact hP, va_K.moved hW.alike hK⟩⟩, hS.F ht⟩) hS.2.2 dX1_lead_103
      · skip
        have i_60 : 0 ≤ x_48.toInt ∧ x_48.toInt ≤ 839 := iv_lt1 i_x_48 (⟨by decide, by decide⟩ : (840 : Int) ≤ (840 : Int32).toInt ∧ (840 : Int32).toInt ≤ 840) (Int32.not_le.mp c_58)
        refine lv_aload_n hx hb dX1_lead_64 rfl (lv_at hl 0 rfl) ?_
        refine gX_X1_79 hx hb htg hown hK hP dX1_lead_65 ?_
        refine lv_iload_n hx hb dX1_lead_68 rfl (lv_at hl 1 rfl) ?_
        refine lX_57 hx hb hK hP (iv_in i_60 (by decide) (by decide)) dX1_lead_69 (fun v_61 ev_61 => ?_)
        refine my_cut (P := fun R9 a9 Q9 => ∀ (fv_94 : Nat → Int32) (ar_96 : Nat → Nat → Int32) (wd_98 : xT) (H : Heap) (locs : List Loc) (ls : Array Slot), rX fv_94 → fM [6, 23] fv_49 fv_94 → rB ar_96 → fA [4, 44, 45, 46, 47, 48, 49, 50, 51, 52, 53, 54, 55, 56, 57, 62, 63, 64] ar_51 ar_96 → wd_98.2 = wd_53.2 → va_P (dC, dI) vwCl (wsX ob ad cA fv_94 wd_98 ar_96) H → va_S (aX ob ad s.heap.size) s.heap H locs → lv_has ls 3 [(0, .ref (ob 8)), (2, .int x_48)] → W p l e R9 s m a9 below meth c H locs 0 0 Q9 (F0 m 93 ls [])) ?_ (fun hj_100 => ?_)
        · intro fv_94 ar_96 wd_98 H locs ls hF_fv_94 fr_95 hA_ar_96 fa_97 wf_99 hP hS hl
          obtain ⟨v_101, ev_101⟩ : ∃ z : Int32, z = x_48 + 1 := ⟨_, rfl⟩
          refine lv_iinc (v := v_101) (lv' := [(2, .int v_101), (0, .ref (ob 8))]) hx hb dX1_lead_93 hl (k := 1) rfl (by rw [ev_101]; rfl) (by decide) rfl (fun ls hl => ?_)
          have t_102 : v_101.toInt = x_48.toInt + 1 ∧ 1 ≤ v_101.toInt ∧ v_101.toInt ≤ 840 := iv_addc ev_101 i_60 (by decide) (by decide) (by decide)
          refine lv_goto (tgt := 57) hx hb dX1_lead_96 (by decide) ?_
          exact ih_55 v_101 fv_94 ar_96 wd_98 _ _ ls (by omega) (iv_w t_102.2 (by decide) (by decide)) hF_fv_94 (fM_call (fM_call (fM_rf [6, 23] _) fr_50 (by decide)) fr_95 (by decide)) hA_ar_96 (fA_call (fA_call (fA_rf [4, 44, 45, 46, 47, 48, 49, 50, 51, 52, 53, 54, 55, 56, 57, 62, 63, 64] _) fa_52 (by decide)) fa_97 (by decide)) (wf_99.trans wf_54) hP hS (lv_sub hl [1, 0] rfl)
        · skip
          refine lv_if_eq (tgt := 93) hx hb dX1_lead_70 (by decide) (fun c_62 => ?_) (fun c_62 => ?_)
          · skip
            have i_63 : 0 ≤ v_61.toInt ∧ v_61.toInt ≤ 0 := iv_eq1 (⟨by decide, by decide⟩ : (0 : Int) ≤ (0 : Int32).toInt ∧ (0 : Int32).toInt ≤ 0) c_62
            exact hj_100 fv_49 ar_51 wd_53 _ _ ls hF_fv_49 (fM_rf [6, 23] _) hA_ar_51 (fA_rf [4, 44, 45, 46, 47, 48, 49, 50, 51, 52, 53, 54, 55, 56, 57, 62, 63, 64] _) rfl hP hS (lv_sub hl [0, 1] rfl)
          · skip
            have k_65 : ¬ v_61.toInt = 0 := fun q => c_62 (Int32.toInt_inj.mp q)
            refine lv_aload_n hx hb dX1_lead_73 rfl (lv_at hl 0 rfl) ?_
            refine lv_iload_n hx hb dX1_lead_74 rfl (lv_at hl 1 rfl) ?_
            refine va_callv (va_runV (As := [.int x_48]) (rest := []) ⟨hx, hb, hml, hown, hts⟩ (x_landWheels l dC dI H.size ob ad cA hd fv_49 wd_53 ar_51 hF_fv_49 hA_ar_51 x_48) (cwV 1 hts (gV kw_5_118 kw_5_120 kw_p_28 kw_1_12 kw_5_121) rfl rfl rfl (by decide +kernel) ⟨Nat.le_of_ble_eq_true rfl, Nat.le_of_ble_eq_true rfl⟩) ⟨fun a U g mk q => ⟨q.1, q.2.1, q.2.2.1, va_K.moved (u := U) (U := U.calling g mk a) (Vm.Alike.refl U.vm) q.2.2.2⟩, va_recv hK hP (ci := 2) (q0 := 8) rfl rfl, fun U hU hW => ⟨rfl, by rw [hU], by rw [hU]; exact hP, va_K.moved hW.alike hK⟩⟩ rfl rfl hl.1 rfl (lv_room (Nat.le_of_ble_eq_true rfl)) dX1_lead_75 ⟨Nat.le_of_ble_eq_true rfl, Nat.le_of_ble_eq_true rfl⟩) hS (fun q _ h9 => aX_up hS q h9) (aX_up hS) (fun u t H1 locs ht _ hw hB _ hk1 hS => ?_)
            obtain ⟨fv_67, wd_68, ar_69⟩ := u
            obtain ⟨hF_fv_67, hA_ar_69, fr_70, fa_71, wf_72, -⟩ := hw
            have wf_72 : wd_68.2 = wd_53.2 := wf_72
            have hP : va_P (dC, dI) vwCl (wsX ob ad cA fv_67 wd_68 ar_69) H1 := by have h9 := hB.1; rw [ht] at h9; exact h9
            have fr_70 : fM [] fv_49 fv_67 := fr_70
            have fa_71 : fA [45, 46, 47, 49, 50, 55, 62, 63, 64] ar_51 ar_69 := fa_71
            generalize H1 = H at hP hS ⊢
            refine lv_aload_n hx hb dX1_lead_78 rfl (lv_at hl 0 rfl) ?_
            refine lv_iload_n hx hb dX1_lead_79 rfl (lv_at hl 1 rfl) ?_
            refine va_callv (va_runV (As := [.int x_48]) (rest := []) ⟨hx, hb, hml, hown, hts⟩ (x_leaveHomes l dC dI H.size ob ad cA hd fv_67 wd_68 ar_69 hF_fv_67 hA_ar_69 x_48) (cwV 1 hts (gV kw_5_157 kw_5_159 kw_p_34 kw_1_12 kw_5_160) rfl rfl rfl (by decide +kernel) ⟨Nat.le_of_ble_eq_true rfl, Nat.le_of_ble_eq_true rfl⟩) ⟨fun a U g mk q => ⟨q.1, q.2.1, q.2.2.1, va_K.moved (u := U) (U := U.calling g mk a) (Vm.Alike.refl U.vm) q.2.2.2⟩, va_recv hK hP (ci := 2) (q0 := 8) rfl rfl, fun U hU hW => ⟨rfl, by rw [hU], by rw [hU]; exact hP, va_K.moved hW.alike hK⟩⟩ rfl rfl hl.1 rfl (lv_room (Nat.le_of_ble_eq_true rfl)) dX1_lead_80 ⟨Nat.le_of_ble_eq_true rfl, Nat.le_of_ble_eq_true rfl⟩) hS (fun q _ h9 => aX_up hS q h9) (aX_up hS) (fun u t H1 locs ht _ hw hB _ hk1 hS => ?_)
            obtain ⟨fv_74, wd_75, ar_76⟩ := u
            obtain ⟨hF_fv_74, hA_ar_76, fr_77, fa_78, wf_79, -⟩ := hw
            have wf_79 : wd_75.2 = wd_68.2 := wf_79
            have hP : va_P (dC, dI) vwCl (wsX ob ad cA fv_74 wd_75 ar_76) H1 := by have h9 := hB.1; rw [ht] at h9; exact h9
            have fr_77 : fM [] fv_67 fv_74 := fr_77
            have fa_78 : fA [45, 46, 47, 49, 62, 63, 64] ar_69 ar_76 := fa_78
            generalize H1 = H at hP hS ⊢
            refine lv_aload_n hx hb dX1_lead_83 rfl (lv_at hl 0 rfl) ?_
            refine lv_iload_n hx hb dX1_lead_84 rfl (lv_at hl 1 rfl) ?_
            refine va_callv (va_runV (As := [.int x_48]) (rest := []) ⟨hx, hb, hml, hown, hts⟩ (x_sendTrips l dC dI H.size ob ad cA hd fv_74 wd_75 ar_76 hF_fv_74 hA_ar_76 (gla z9) (gfr z9) (gra z9) (grc z9) (gln z9) (gcn z9) (glr z9) hlq x_48 ((congrArg (fun z => z.2.1) (wf_79.trans (wf_72.trans (wf_54.trans (wf_47.trans (wf_40.trans (wf_33.trans (wf_26.trans wf_19)))))))).trans ewd_11.2.1)) (cwV 1 hts (gV kw_5_161 kw_5_163 kw_p_35 kw_1_12 kw_5_164) rfl rfl rfl (by decide +kernel) ⟨Nat.le_of_ble_eq_true rfl, Nat.le_of_ble_eq_true rfl⟩) ⟨fun a U g mk q => ⟨q.1, ⟨q.2.1.1, q.2.1.2.1, va_K.moved (u := U) (U := U.calling g mk a) (Vm.Alike.refl U.vm) q.2.1.2.2⟩, ⟨q.2.2.1, va_K.moved (u := U) (U := U.calling g mk a) (Vm.Alike.refl U.vm) q.2.2.2.1, q.2.2.2.2⟩⟩, va_recv hK hP (ci := 2) (q0 := 8) rfl rfl, fun U hU hW => ⟨rfl, ⟨by rw [hU], by rw [hU]; exact hP, va_K.moved hW.alike hK⟩, lw_pass hL hS hU hW.alike⟩⟩ rfl rfl hl.1 rfl (lv_room (Nat.le_of_ble_eq_true rfl)) dX1_lead_85 ⟨Nat.le_of_ble_eq_true rfl, Nat.le_of_ble_eq_true rfl⟩) hS (fun q _ h9 => aX_up hS q h9) (aX_up hS) (fun u t H1 locs ht _ hw hB _ hk1 hS => ?_)
            obtain ⟨fv_81, wd_82, ar_83⟩ := u
            obtain ⟨hF_fv_81, hA_ar_83, fr_84, fa_85, wf_86, -⟩ := hw
            have wf_86 : wd_82.2 = wd_75.2 := wf_86
            have hP : va_P (dC, dI) vwCl (wsX ob ad cA fv_81 wd_82 ar_83) H1 := by have h9 := hB.1; rw [ht] at h9; exact h9
            have fr_84 : fM [6, 23] fv_74 fv_81 := fr_84
            have fa_85 : fA [4, 44, 48, 49, 50, 51, 52, 53, 54, 55, 56, 57] ar_76 ar_83 := fa_85
            generalize H1 = H at hP hS ⊢
            refine lv_aload_n hx hb dX1_lead_88 rfl (lv_at hl 0 rfl) ?_
            refine lv_iload_n hx hb dX1_lead_89 rfl (lv_at hl 1 rfl) ?_
            refine va_callv (va_runV (As := [.int x_48]) (rest := []) ⟨hx, hb, hml, hown, hts⟩ (x_chooseAgain l dC dI H.size ob ad cA hd fv_81 wd_82 ar_83 hF_fv_81 hA_ar_83 x_48) (cwV 1 hts (gV kw_5_203 kw_5_205 kw_p_44 kw_1_12 kw_5_206) rfl rfl rfl (by decide +kernel) ⟨Nat.le_of_ble_eq_true rfl, Nat.le_of_ble_eq_true rfl⟩) ⟨fun a U g mk q => ⟨q.1, q.2.1, q.2.2.1, va_K.moved (u := U) (U := U.calling g mk a) (Vm.Alike.refl U.vm) q.2.2.2⟩, va_recv hK hP (ci := 2) (q0 := 8) rfl rfl, fun U hU hW => ⟨rfl, by rw [hU], by rw [hU]; exact hP, va_K.moved hW.alike hK⟩⟩ rfl rfl hl.1 rfl (lv_room (Nat.le_of_ble_eq_true rfl)) dX1_lead_90 ⟨Nat.le_of_ble_eq_true rfl, Nat.le_of_ble_eq_true rfl⟩) hS (fun q _ h9 => aX_up hS q h9) (aX_up hS) (fun u t H1 locs ht _ hw hB _ hk1 hS => ?_)
            obtain ⟨fv_88, wd_89, ar_90⟩ := u
            obtain ⟨hF_fv_88, hA_ar_90, fr_91, fa_92, wf_93, -⟩ := hw
            have wf_93 : wd_89.2 = wd_82.2 := wf_93
            have hP : va_P (dC, dI) vwCl (wsX ob ad cA fv_88 wd_89 ar_90) H1 := by have h9 := hB.1; rw [ht] at h9; exact h9
            have fr_91 : fM [] fv_81 fv_88 := fr_91
            have fa_92 : fA [45, 46, 47, 49, 62, 63, 64] ar_83 ar_90 := fa_92
            generalize H1 = H at hP hS ⊢
            exact hj_100 fv_88 ar_90 wd_89 _ _ ls hF_fv_88 (fM_call (fM_call (fM_call (fM_call (fM_rf [6, 23] _) fr_70 (by decide)) fr_77 (by decide)) fr_84 (by decide)) fr_91 (by decide)) hA_ar_90 (fA_call (fA_call (fA_call (fA_call (fA_rf [4, 44, 45, 46, 47, 48, 49, 50, 51, 52, 53, 54, 55, 56, 57, 62, 63, 64] _) fa_71 (by decide)) fa_78 (by decide)) fa_85 (by decide)) fa_92 (by decide)) (wf_93.trans (wf_86.trans (wf_79.trans wf_72))) hP hS (lv_sub hl [0, 1] rfl)
  · skip
    have z_111 : (0 : Int32).toInt = 0 := by decide
    exact hj_57 841 0 fv_42 ar_44 wd_43 _ _ ls (by first | decide | omega) (iv_w (⟨by decide, by decide⟩ : (0 : Int) ≤ (0 : Int32).toInt ∧ (0 : Int32).toInt ≤ 0) (by decide) (by decide)) hF_fv_42 (fM_rf [6, 23] _) hA_ar_44 (fA_rf [4, 44, 45, 46, 47, 48, 49, 50, 51, 52, 53, 54, 55, 56, 57, 62, 63, 64] _) rfl hP hS (lv_sub hl [1, 0] rfl)
set_option maxHeartbeats 4000000 in
set_option maxRecDepth 100000 in
theorem x_told (l : Launch) (dC : Nat → ClassId) (dI : Nat → Nat → Nat) (sz : Nat) (ob ad : Nat → Nat) (cA : Nat → ClassId) (hd : dX ob ad) (fv : Nat → Int32) (wd : xT) (ar : Nat → Nat → Int32) (hF_fv : rX fv) (hA_ar : rB ar) (gla : Nat → Nat) (gfr : Nat → Int32) (gra : Nat → Nat → Nat) (grc : Nat → Nat → ClassId) (gln gcn : Nat → Nat) (glr : Nat → Nat → Nat → Int32) (ce : ClassId) (ef : Nat → Option Nat) (a : Int32) (b : Int32) (v : Int32) (d : Int32) : Met l yX11_told (.code yX11_told cX11_told 6 (some .int) :: lw_good) ({ frames := 6, cells := 0, slots := 0, locals := 128 }) (va_Pc [.ref (ob 0), .int a, .int b, .int v, .int d] (fun U => prX dC dI ob ad cA fv wd ar sz U ∧ lsA dC dI ob ad gla gfr gra grc gln gcn glr ce ef (fv 30).toInt wd.2.2.2 sz U)) (va_Qi (fun (r : Int32) (u : xS) => rX u.1 ∧ rB u.2.2 ∧ fM [1, 6] fv u.1 ∧ fA [4] ar u.2.2 ∧ u.2.1.2 = wd.2 ∧ True) (enX dC dI ob ad cA) (aX ob ad sz)) 0 0 (aX ob ad sz) := by
  refine Met.ofW (cc := cX11_told) (maxL := 6) (ret := (some .int)) (by decide) rfl ?_
  intro p e s m args below meth c s₁ B hml hv
  obtain ⟨rfl, ⟨hsz, hP, hK⟩, hG⟩ := hv
  have hx := B.exec
  have hb := B.bytes
  have hr := B.returns
  have hts := atoms_spec (ws := (.code yX11_told cX11_told 6 (some .int) :: lw_good)) B.pre
  have htg : ∀ w ∈ lw_good, w.before _ s = true := fun w hw => hts w (List.mem_cons_of_mem _ hw)
  have hown : s.vm.findClass RX11 = some m.cls := findClass_of_methodNamed B.named
  have hlocks := B.notSynchronized
  subst hsz
  have hS : va_S (aX ob ad s.heap.size) s.heap s.heap [] := va_S.rf
  have hl := lv_entry ([.ref (ob 0), .int a, .int b, .int v, .int d]) (n := 6) (Nat.le_of_ble_eq_true rfl)
  rw [lg_entry_eq]
  generalize (lg_sl ([.ref (ob 0), .int a, .int b, .int v, .int d]) ++ List.replicate (6 - (lg_sl ([.ref (ob 0), .int a, .int b, .int v, .int d])).length) Slot.unset).toArray = ls at hl ⊢
  have hl : lv_has ls 6 [(0, .ref (ob 0)), (1, .int a), (2, .int b), (3, .int v), (4, .int d)] := hl
  refine lv_aload_n hx hb dX11_told_0 rfl (lv_at hl 0 rfl) ?_
  refine lv_iconst (v := (-1)) hx hb dX11_told_1 (by decide) ?_
  refine pX_X11_43 hx hb htg hown hK hP hS hd dX11_told_2 (fun H locs fv_1 efv_1 hP hS => ?_)
  have hF_fv_1 : rX fv_1 := rX_put hF_fv efv_1 (iv_any _)
  refine lv_aload_n hx hb dX11_told_5 rfl (lv_at hl 0 rfl) ?_
  refine gX_X11_16 hx hb htg hown hK hP dX11_told_6 ?_
  refine gX_X11_116 hx hb htg hown hK hP dX11_told_9 ?_
  refine lv_iload_n hx hb dX11_told_12 rfl (lv_at hl 1 rfl) ?_
  refine va_calli (va_runV (As := [.int a]) (rest := []) ⟨hx, hb, hml, hown, hts⟩ (x_trips_has l dC dI H.size ob ad cA hd fv_1 wd ar hF_fv_1 hA_ar a) (cwV 1 hts (gV kw_4_237 kw_4_238 kw_4_239 kw_1_6 kw_5_0) rfl rfl rfl (by decide +kernel) ⟨Nat.le_of_ble_eq_true rfl, Nat.le_of_ble_eq_true rfl⟩) ⟨fun a U g mk q => ⟨q.1, q.2.1, q.2.2.1, va_K.moved (u := U) (U := U.calling g mk a) (Vm.Alike.refl U.vm) q.2.2.2⟩, va_recv hK hP (ci := 8) (q0 := 5) rfl rfl, fun U hU hW => ⟨rfl, by rw [hU], by rw [hU]; exact hP, va_K.moved hW.alike hK⟩⟩ rfl rfl hl.1 rfl (lv_room (Nat.le_of_ble_eq_true rfl)) dX11_told_13 ⟨Nat.le_of_ble_eq_true rfl, Nat.le_of_ble_eq_true rfl⟩) hS (fun q _ h9 => aX_up hS q h9) (aX_up hS) (fun r_2 u t H1 locs ht _ hw hB _ hk1 hS => ?_)
  obtain ⟨fv_5, wd_6, ar_7⟩ := u
  obtain ⟨hF_fv_5, hA_ar_7, fr_8, fa_9, wf_10, p_3, p_4, -⟩ := hw
  have wf_10 : wd_6.2 = wd.2 := wf_10
  have hP : va_P (dC, dI) vwCl (wsX ob ad cA fv_5 wd_6 ar_7) H1 := by have h9 := hB.1; rw [ht] at h9; exact h9
  have fr_8 : fM [] fv_1 fv_5 := fr_8
  have fa_9 : fA [] ar ar_7 := fa_9
  generalize H1 = H at hP hS ⊢
  rcases p_4 with ⟨rfl, p_4⟩ | ⟨rfl, p_4⟩
  · skip
    refine lv_if_eq (tgt := 37) hx hb dX11_told_16 (by decide) (fun c_11 => ?_) (fun c_11 => ?_)
    · skip
      refine lv_iconst (v := (-1)) hx hb dX11_told_37 (by decide) ?_
      exact W.iret (v := (-1)) hx hb hr (fun t ht hW => ⟨⟨(-1), (fv_5, wd_6, ar_7), rfl, ⟨hF_fv_5, hA_ar_7, (fM_call (fM_put (fM_rf [1, 6] _) efv_1 (by decide)) fr_8 (by decide)), (fA_call (fA_rf [4] _) fa_9 (by decide)), wf_10, trivial⟩, ⟨by rw [ht]; exact hP, va_K.moved hW.alike hK⟩⟩, hS.F ht⟩) hS.2.2 dX11_told_38
    · skip
      exact absurd c_11 (by decide)
  · skip
    have i_12 : 0 ≤ a.toInt ∧ a.toInt ≤ 2147483647 := ⟨p_4.1, (iv_any a).2⟩
    have i_13 : 0 ≤ a.toInt ∧ a.toInt ≤ 79 := ⟨i_12.1, p_4.2⟩
    refine lv_if_eq (tgt := 37) hx hb dX11_told_16 (by decide) (fun c_14 => ?_) (fun c_14 => ?_)
    · skip
      exact absurd c_14 (by decide)
    · skip
      refine lv_iload_n hx hb dX11_told_19 rfl (lv_at hl 2 rfl) ?_
      refine lv_if_lt (tgt := 37) hx hb dX11_told_20 (by decide) (fun c_15 => ?_) (fun c_15 => ?_)
      · skip
        have i_16 : (-2147483648) ≤ b.toInt ∧ b.toInt ≤ (-1) := iv_lt1 (iv_any b) (⟨by decide, by decide⟩ : (0 : Int) ≤ (0 : Int32).toInt ∧ (0 : Int32).toInt ≤ 0) c_15
        refine lv_iconst (v := (-1)) hx hb dX11_told_37 (by decide) ?_
        exact W.iret (v := (-1)) hx hb hr (fun t ht hW => ⟨⟨(-1), (fv_5, wd_6, ar_7), rfl, ⟨hF_fv_5, hA_ar_7, (fM_call (fM_put (fM_rf [1, 6] _) efv_1 (by decide)) fr_8 (by decide)), (fA_call (fA_rf [4] _) fa_9 (by decide)), wf_10, trivial⟩, ⟨by rw [ht]; exact hP, va_K.moved hW.alike hK⟩⟩, hS.F ht⟩) hS.2.2 dX11_told_38
      · skip
        have i_17 : 0 ≤ b.toInt ∧ b.toInt ≤ 2147483647 := iv_le2 (⟨by decide, by decide⟩ : (0 : Int) ≤ (0 : Int32).toInt ∧ (0 : Int32).toInt ≤ 0) (iv_any b) (Int32.not_lt.mp c_15)
        refine lv_iload_n hx hb dX11_told_23 rfl (lv_at hl 2 rfl) ?_
        refine lv_iconst (v := 5) hx hb dX11_told_24 (by decide) ?_
        refine lv_icmp_gt (tgt := 37) hx hb dX11_told_25 (by decide) (fun c_18 => ?_) (fun c_18 => ?_)
        · skip
          have i_19 : 6 ≤ b.toInt ∧ b.toInt ≤ 2147483647 := iv_lt2 (⟨by decide, by decide⟩ : (5 : Int) ≤ (5 : Int32).toInt ∧ (5 : Int32).toInt ≤ 5) i_17 c_18
          refine lv_iconst (v := (-1)) hx hb dX11_told_37 (by decide) ?_
          exact W.iret (v := (-1)) hx hb hr (fun t ht hW => ⟨⟨(-1), (fv_5, wd_6, ar_7), rfl, ⟨hF_fv_5, hA_ar_7, (fM_call (fM_put (fM_rf [1, 6] _) efv_1 (by decide)) fr_8 (by decide)), (fA_call (fA_rf [4] _) fa_9 (by decide)), wf_10, trivial⟩, ⟨by rw [ht]; exact hP, va_K.moved hW.alike hK⟩⟩, hS.F ht⟩) hS.2.2 dX11_told_38
        · skip
          have i_20 : 0 ≤ b.toInt ∧ b.toInt ≤ 5 := iv_le1 i_17 (⟨by decide, by decide⟩ : (5 : Int) ≤ (5 : Int32).toInt ∧ (5 : Int32).toInt ≤ 5) (Int32.not_lt.mp c_18)
          refine lv_iload_n hx hb dX11_told_28 rfl (lv_at hl 3 rfl) ?_
          refine lv_if_lt (tgt := 37) hx hb dX11_told_29 (by decide) (fun c_21 => ?_) (fun c_21 => ?_)
          · skip
            have i_22 : (-2147483648) ≤ v.toInt ∧ v.toInt ≤ (-1) := iv_lt1 (iv_any v) (⟨by decide, by decide⟩ : (0 : Int) ≤ (0 : Int32).toInt ∧ (0 : Int32).toInt ≤ 0) c_21
            refine lv_iconst (v := (-1)) hx hb dX11_told_37 (by decide) ?_
            exact W.iret (v := (-1)) hx hb hr (fun t ht hW => ⟨⟨(-1), (fv_5, wd_6, ar_7), rfl, ⟨hF_fv_5, hA_ar_7, (fM_call (fM_put (fM_rf [1, 6] _) efv_1 (by decide)) fr_8 (by decide)), (fA_call (fA_rf [4] _) fa_9 (by decide)), wf_10, trivial⟩, ⟨by rw [ht]; exact hP, va_K.moved hW.alike hK⟩⟩, hS.F ht⟩) hS.2.2 dX11_told_38
          · skip
            have i_23 : 0 ≤ v.toInt ∧ v.toInt ≤ 2147483647 := iv_le2 (⟨by decide, by decide⟩ : (0 : Int) ≤ (0 : Int32).toInt ∧ (0 : Int32).toInt ≤ 0) (iv_any v) (Int32.not_lt.mp c_21)
            refine lv_iload hx hb dX11_told_32 (lv_at hl 4 rfl) ?_
            refine lv_if_ge (tgt := 39) hx hb dX11_told_34 (by decide) (fun c_24 => ?_) (fun c_24 => ?_)
            · skip
              have i_25 : 0 ≤ d.toInt ∧ d.toInt ≤ 2147483647 := iv_le2 (⟨by decide, by decide⟩ : (0 : Int) ≤ (0 : Int32).toInt ∧ (0 : Int32).toInt ≤ 0) (iv_any d) c_24
              refine lv_aload_n hx hb dX11_told_39 rfl (lv_at hl 0 rfl) ?_
              refine gX_X11_16 hx hb htg hown hK hP dX11_told_40 ?_
              refine lv_aload_n hx hb dX11_told_43 rfl (lv_at hl 0 rfl) ?_
              refine gX_X11_16 hx hb htg hown hK hP dX11_told_44 ?_
              have z_26 : (fv_5 30).toInt = (fv 30).toInt := congrArg Int32.toInt ((fr_8 30 rfl).trans ((congrFun efv_1 30)))
              have z_27 : 0 ≤ (fv_5 30).toInt ∧ (fv_5 30).toInt ≤ 10 := hF_fv_5 30
              refine va_callr (va_runV (As := []) (rest := [.ref (ob 1)]) ⟨hx, hb, hml, hown, hts⟩ (x_lawToday l dC dI H.size ob ad cA hd fv_5 wd_6 ar_7 hF_fv_5 hA_ar_7 gla gfr gra grc gln gcn glr ce ef) (cwV 0 hts (gV kw_5_1 kw_5_2 kw_5_3 kw_1_2 kw_5_4) rfl rfl rfl (by decide +kernel) ⟨Nat.le_of_ble_eq_true rfl, Nat.le_of_ble_eq_true rfl⟩) ⟨fun a U g mk q => ⟨q.1, ⟨q.2.1.1, q.2.1.2.1, va_K.moved (u := U) (U := U.calling g mk a) (Vm.Alike.refl U.vm) q.2.1.2.2⟩, ls_mv (U := U.calling g mk a) rfl (Vm.Alike.refl U.vm) q.2.2⟩, va_recv hK hP (ci := 7) (q0 := 1) rfl rfl, fun U hU hW => ⟨rfl, ⟨by rw [hU], by rw [hU]; exact hP, va_K.moved hW.alike hK⟩, ls_eq (ls_pass hG hS hU hW.alike) (congrArg Int32.toInt ((fr_8 30 rfl).trans ((congrFun efv_1 30)))) (congrArg (fun z => z.2.2) wf_10)⟩⟩ rfl rfl hl.1 rfl (lv_room (Nat.le_of_ble_eq_true rfl)) dX11_told_47 ⟨Nat.le_of_ble_eq_true rfl, Nat.le_of_ble_eq_true rfl⟩) hS (fun q _ h9 => aX_up hS q h9) (aX_up hS) (fun u r_28 t H1 locs ht _ hw hB _ hk1 hS => ?_)
              obtain ⟨fv_29, wd_30, ar_31⟩ := u
              obtain ⟨hF_fv_29, hA_ar_31, fr_32, fa_33, wf_34, -⟩ := hw
              have wf_34 : wd_30.2 = wd_6.2 := wf_34
              have hP : va_P (dC, dI) vwCl (wsX ob ad cA fv_29 wd_30 ar_31) H1 := by have h9 := hB.1.1; rw [ht] at h9; exact h9
              have fr_32 : fM [] fv_5 fv_29 := fr_32
              have fa_33 : fA [] ar_7 ar_31 := fa_33
              generalize H1 = H at hP hS ⊢
              obtain ⟨z9, hz9, hr9⟩ := hB.2
              subst hr9
              have hz8 : (z9 : Int) ≤ (fv 30).toInt := by omega
              have hL := (hG.2.1 z9 hz8).2
              have hlq := (hG.2.1 z9 hz8).1
              refine lv_iload_n hx hb dX11_told_50 rfl (lv_at hl 1 rfl) ?_
              refine lv_iload_n hx hb dX11_told_51 rfl (lv_at hl 2 rfl) ?_
              refine lv_iload_n hx hb dX11_told_52 rfl (lv_at hl 3 rfl) ?_
              refine lv_iload hx hb dX11_told_53 (lv_at hl 4 rfl) ?_
              refine va_calli (va_runV (As := [.ref (gla z9), .int a, .int b, .int v, .int d]) (rest := []) ⟨hx, hb, hml, hown, hts⟩ (x_ask l dC dI H.size ob ad cA hd fv_29 wd_30 ar_31 hF_fv_29 hA_ar_31 (gla z9) (gfr z9) (gra z9) (grc z9) (gln z9) (gcn z9) (glr z9) hlq a b v d i_13) (cwV 5 hts (gV kw_5_18 kw_5_19 kw_5_20 kw_1_2 kw_5_21) rfl rfl rfl (by decide +kernel) ⟨Nat.le_of_ble_eq_true rfl, Nat.le_of_ble_eq_true rfl⟩) ⟨fun a U g mk q => ⟨q.1, ⟨q.2.1.1, q.2.1.2.1, va_K.moved (u := U) (U := U.calling g mk a) (Vm.Alike.refl U.vm) q.2.1.2.2⟩, ⟨q.2.2.1, va_K.moved (u := U) (U := U.calling g mk a) (Vm.Alike.refl U.vm) q.2.2.2.1, q.2.2.2.2⟩⟩, va_recv hK hP (ci := 7) (q0 := 1) rfl rfl, fun U hU hW => ⟨rfl, ⟨by rw [hU], by rw [hU]; exact hP, va_K.moved hW.alike hK⟩, lw_pass hL hS hU hW.alike⟩⟩ rfl rfl hl.1 rfl (lv_room (Nat.le_of_ble_eq_true rfl)) dX11_told_55 ⟨Nat.le_of_ble_eq_true rfl, Nat.le_of_ble_eq_true rfl⟩) hS (fun q _ h9 => aX_up hS q h9) (aX_up hS) (fun r_35 u t H1 locs ht _ hw hB _ hk1 hS => ?_)
              obtain ⟨fv_36, wd_37, ar_38⟩ := u
              obtain ⟨hF_fv_36, hA_ar_38, fr_39, fa_40, wf_41, -⟩ := hw
              have wf_41 : wd_37.2 = wd_30.2 := wf_41
              have hP : va_P (dC, dI) vwCl (wsX ob ad cA fv_36 wd_37 ar_38) H1 := by have h9 := hB.1; rw [ht] at h9; exact h9
              have fr_39 : fM [6] fv_29 fv_36 := fr_39
              have fa_40 : fA [4] ar_31 ar_38 := fa_40
              generalize H1 = H at hP hS ⊢
              refine lv_istore (lv' := [(5, .int r_35), (0, .ref (ob 0)), (1, .int a), (2, .int b), (3, .int v), (4, .int d)]) hx hb dX11_told_58 hl (by decide) rfl (fun ls hl => ?_)
              refine lv_aload_n hx hb dX11_told_60 rfl (lv_at hl 1 rfl) ?_
              refine lv_aload_n hx hb dX11_told_61 rfl (lv_at hl 1 rfl) ?_
              refine gX_X11_16 hx hb htg hown hK hP dX11_told_62 ?_
              refine gX_X11_197 hx hb htg hown hK hP dX11_told_65 ?_
              refine pX_X11_43 hx hb htg hown hK hP hS hd dX11_told_68 (fun H locs fv_42 efv_42 hP hS => ?_)
              have hF_fv_42 : rX fv_42 := rX_put hF_fv_36 efv_42 (iv_any (fv_36 6))
              refine lv_iload hx hb dX11_told_71 (lv_at hl 0 rfl) ?_
              exact W.iret (v := r_35) hx hb hr (fun t ht hW => ⟨⟨r_35, (fv_42, wd_37, ar_38), rfl, ⟨hF_fv_42, hA_ar_38, (fM_put (fM_call (fM_call (fM_call (fM_put (fM_rf [1, 6] _) efv_1 (by decide)) fr_8 (by decide)) fr_32 (by decide)) fr_39 (by decide)) efv_42 (by decide)), (fA_call (fA_call (fA_call (fA_rf [4] _) fa_9 (by decide)) fa_33 (by decide)) fa_40 (by decide)), (wf_41.trans (wf_34.trans wf_10)), trivial⟩, ⟨by rw [ht]; exact hP, va_K.moved hW.alike hK⟩⟩, hS.F ht⟩) hS.2.2 dX11_told_73
            · skip
              have i_43 : (-2147483648) ≤ d.toInt ∧ d.toInt ≤ (-1) := iv_lt1 (iv_any d) (⟨by decide, by decide⟩ : (0 : Int) ≤ (0 : Int32).toInt ∧ (0 : Int32).toInt ≤ 0) (Int32.not_le.mp c_24)
              refine lv_iconst (v := (-1)) hx hb dX11_told_37 (by decide) ?_
              exact W.iret (v := (-1)) hx hb hr (fun t ht hW => ⟨⟨(-1), (fv_5, wd_6, ar_7), rfl, ⟨hF_fv_5, hA_ar_7, (fM_call (fM_put (fM_rf [1, 6] _) efv_1 (by decide)) fr_8 (by decide)), (fA_call (fA_rf [4] _) fa_9 (by decide)), wf_10, trivial⟩, ⟨by rw [ht]; exact hP, va_K.moved hW.alike hK⟩⟩, hS.F ht⟩) hS.2.2 dX11_told_38
set_option maxHeartbeats 4000000 in
set_option maxRecDepth 100000 in
theorem x_morning (l : Launch) (dC : Nat → ClassId) (dI : Nat → Nat → Nat) (sz : Nat) (ob ad : Nat → Nat) (cA : Nat → ClassId) (hd : dX ob ad) (fv : Nat → Int32) (wd : xT) (ar : Nat → Nat → Int32) (hF_fv : rX fv) (hA_ar : rB ar) (gla : Nat → Nat) (gfr : Nat → Int32) (gra : Nat → Nat → Nat) (grc : Nat → Nat → ClassId) (gln gcn : Nat → Nat) (glr : Nat → Nat → Nat → Int32) (ce : ClassId) (ef : Nat → Option Nat) : Met l yX11_morning (.code yX11_morning cX11_morning 2 (some .int) :: lw_good) ({ frames := 9, cells := 0, slots := 0, locals := 213 }) (va_Pc [.ref (ob 0)] (fun U => prX dC dI ob ad cA fv wd ar sz U ∧ lsA dC dI ob ad gla gfr gra grc gln gcn glr ce ef (fv 30).toInt wd.2.2.2 sz U)) (va_Qi (fun (r : Int32) (u : xS) => rX u.1 ∧ rB u.2.2 ∧ fM [3, 6, 8, 22, 23, 24] fv u.1 ∧ fA [4, 12, 13, 15, 16, 17, 18, 19, 24, 25, 26, 27, 35, 44, 45, 46, 47, 48, 49, 50, 51, 52, 53, 54, 55, 56, 57, 58, 59, 60, 61, 62, 63, 64] ar u.2.2 ∧ (u.2.1.2.2.2 = wd.2.2.2) ∧ (u.2.1.2.1 = wd.2.1) ∧ True) (enX dC dI ob ad cA) (aX ob ad sz)) 0 0 (aX ob ad sz) := by
  refine Met.ofW (cc := cX11_morning) (maxL := 2) (ret := (some .int)) (by decide) rfl ?_
  intro p e s m args below meth c s₁ B hml hv
  obtain ⟨rfl, ⟨hsz, hP, hK⟩, hG⟩ := hv
  have hx := B.exec
  have hb := B.bytes
  have hr := B.returns
  have hts := atoms_spec (ws := (.code yX11_morning cX11_morning 2 (some .int) :: lw_good)) B.pre
  have htg : ∀ w ∈ lw_good, w.before _ s = true := fun w hw => hts w (List.mem_cons_of_mem _ hw)
  have hown : s.vm.findClass RX11 = some m.cls := findClass_of_methodNamed B.named
  have hlocks := B.notSynchronized
  subst hsz
  have hS : va_S (aX ob ad s.heap.size) s.heap s.heap [] := va_S.rf
  have hl := lv_entry ([.ref (ob 0)]) (n := 2) (Nat.le_of_ble_eq_true rfl)
  rw [lg_entry_eq]
  generalize (lg_sl ([.ref (ob 0)]) ++ List.replicate (2 - (lg_sl ([.ref (ob 0)])).length) Slot.unset).toArray = ls at hl ⊢
  have hl : lv_has ls 2 [(0, .ref (ob 0))] := hl
  refine lv_aload_n hx hb dX11_morning_0 rfl (lv_at hl 0 rfl) ?_
  refine gX_X11_47 hx hb htg hown hK hP dX11_morning_1 ?_
  refine lv_aload_n hx hb dX11_morning_4 rfl (lv_at hl 0 rfl) ?_
  refine gX_X11_16 hx hb htg hown hK hP dX11_morning_5 ?_
  refine gX_X11_57 hx hb htg hown hK hP dX11_morning_8 ?_
  have i_1 : 0 ≤ (fv 7).toInt ∧ (fv 7).toInt ≤ 199 := hF_fv 7
  refine lv_icmp_ne (tgt := 16) hx hb dX11_morning_11 (by decide) (fun c_2 => ?_) (fun c_2 => ?_)
  · skip
    refine lv_aload_n hx hb dX11_morning_16 rfl (lv_at hl 0 rfl) ?_
    refine lv_aload_n hx hb dX11_morning_17 rfl (lv_at hl 0 rfl) ?_
    refine gX_X11_16 hx hb htg hown hK hP dX11_morning_18 ?_
    refine gX_X11_57 hx hb htg hown hK hP dX11_morning_21 ?_
    refine pX_X11_47 hx hb htg hown hK hP hS hd dX11_morning_24 (fun H locs fv_3 efv_3 hP hS => ?_)
    have hF_fv_3 : rX fv_3 := rX_put hF_fv efv_3 (iv_any _)
    refine lv_aload_n hx hb dX11_morning_27 rfl (lv_at hl 0 rfl) ?_
    refine gX_X11_32 hx hb htg hown hK hP dX11_morning_28 ?_
    refine lv_iconst (v := (-1)) hx hb dX11_morning_31 (by decide) ?_
    have z_4 : (fv_3 30).toInt = (fv 30).toInt := congrArg Int32.toInt ((congrFun efv_3 30))
    have z_5 : 0 ≤ (fv_3 30).toInt ∧ (fv_3 30).toInt ≤ 10 := hF_fv_3 30
    have z_6 : (fv_3 30).toInt = (fv 30).toInt := congrArg Int32.toInt ((congrFun efv_3 30))
    have z_7 : 0 ≤ (fv_3 30).toInt ∧ (fv_3 30).toInt ≤ 10 := hF_fv_3 30
    refine va_calli (va_runV (As := [.int (-1)]) (rest := []) ⟨hx, hb, hml, hown, hts⟩ (x_lead l dC dI H.size ob ad cA hd fv_3 wd ar hF_fv_3 hA_ar gla gfr gra grc gln gcn glr ce ef (-1)) (cwV 1 hts (gV kw_5_49 kw_5_50 kw_5_51 kw_1_12 kw_5_52) rfl rfl rfl (by decide +kernel) ⟨Nat.le_of_ble_eq_true rfl, Nat.le_of_ble_eq_true rfl⟩) ⟨fun a U g mk q => ⟨q.1, ⟨q.2.1.1, q.2.1.2.1, va_K.moved (u := U) (U := U.calling g mk a) (Vm.Alike.refl U.vm) q.2.1.2.2⟩, ls_mv (U := U.calling g mk a) rfl (Vm.Alike.refl U.vm) q.2.2⟩, va_recv hK hP (ci := 2) (q0 := 8) rfl rfl, fun U hU hW => ⟨rfl, ⟨by rw [hU], by rw [hU]; exact hP, va_K.moved hW.alike hK⟩, ls_eq (ls_pass hG hS hU hW.alike) (congrArg Int32.toInt ((congrFun efv_3 30))) rfl⟩⟩ rfl rfl hl.1 rfl (lv_room (Nat.le_of_ble_eq_true rfl)) dX11_morning_32 ⟨Nat.le_of_ble_eq_true rfl, Nat.le_of_ble_eq_true rfl⟩) hS (fun q _ h9 => aX_up hS q h9) (aX_up hS) (fun r_8 u t H1 locs ht _ hw hB _ hk1 hS => ?_)
    obtain ⟨fv_12, wd_13, ar_14⟩ := u
    obtain ⟨hF_fv_12, hA_ar_14, fr_15, fa_16, p_9, p_10, p_11, -⟩ := hw
    have hP : va_P (dC, dI) vwCl (wsX ob ad cA fv_12 wd_13 ar_14) H1 := by have h9 := hB.1; rw [ht] at h9; exact h9
    have fr_15 : fM [6, 22, 23, 24] fv_3 fv_12 := fr_15
    have fa_16 : fA [4, 44, 45, 46, 47, 48, 49, 50, 51, 52, 53, 54, 55, 56, 57, 58, 59, 60, 61, 62, 63, 64] ar ar_14 := fa_16
    have p_9 : wd_13.2.2.2 = wd.2.2.2 := p_9
    have p_10 : wd_13.2.1 = wd.2.1 := p_10
    have p_11 : ∃ z : Nat, (z : Int) ≤ (fv_3 30).toInt ∧ wd_13.2.2.1 = gla z := p_11
    generalize H1 = H at hP hS ⊢
    obtain ⟨z9, hz9, hlr⟩ := p_11
    have hz8 : (z9 : Int) ≤ (fv 30).toInt := by omega
    have hL := (hG.2.1 z9 hz8).2
    have hlq := (hG.2.1 z9 hz8).1
    refine lv_istore_n (lv' := [(1, .int r_8), (0, .ref (ob 0))]) hx hb dX11_morning_35 rfl hl (by decide) rfl (fun ls hl => ?_)
    refine lv_aload_n hx hb dX11_morning_36 rfl (lv_at hl 1 rfl) ?_
    refine gX_X11_32 hx hb htg hown hK hP dX11_morning_37 ?_
    refine va_callv (va_runV (As := []) (rest := []) ⟨hx, hb, hml, hown, hts⟩ (x_settle l dC dI H.size ob ad cA hd fv_12 wd_13 ar_14 hF_fv_12 hA_ar_14 (gla z9) (gfr z9) (gra z9) (grc z9) (gln z9) (gcn z9) (glr z9) hlq hlr) (cwV 0 hts (gV kw_5_211 kw_5_212 kw_5_213 kw_1_12 kw_5_214) rfl rfl rfl (by decide +kernel) ⟨Nat.le_of_ble_eq_true rfl, Nat.le_of_ble_eq_true rfl⟩) ⟨fun a U g mk q => ⟨q.1, ⟨q.2.1.1, q.2.1.2.1, va_K.moved (u := U) (U := U.calling g mk a) (Vm.Alike.refl U.vm) q.2.1.2.2⟩, ⟨q.2.2.1, va_K.moved (u := U) (U := U.calling g mk a) (Vm.Alike.refl U.vm) q.2.2.2.1, q.2.2.2.2⟩⟩, va_recv hK hP (ci := 2) (q0 := 8) rfl rfl, fun U hU hW => ⟨rfl, ⟨by rw [hU], by rw [hU]; exact hP, va_K.moved hW.alike hK⟩, lw_pass hL hS hU hW.alike⟩⟩ rfl rfl hl.1 rfl (lv_room (Nat.le_of_ble_eq_true rfl)) dX11_morning_40 ⟨Nat.le_of_ble_eq_true rfl, Nat.le_of_ble_eq_true rfl⟩) hS (fun q _ h9 => aX_up hS q h9) (aX_up hS) (fun u t H1 locs ht _ hw hB _ hk1 hS => ?_)
    obtain ⟨fv_19, wd_20, ar_21⟩ := u
    obtain ⟨hF_fv_19, hA_ar_21, fr_22, fa_23, wf_24, -⟩ := hw
    have wf_24 : wd_20.2 = wd_13.2 := wf_24
    have hP : va_P (dC, dI) vwCl (wsX ob ad cA fv_19 wd_20 ar_21) H1 := by have h9 := hB.1; rw [ht] at h9; exact h9
    have fr_22 : fM [8] fv_12 fv_19 := fr_22
    have fa_23 : fA [12, 13, 15, 16, 17, 18, 19, 24, 25, 26, 27, 35] ar_14 ar_21 := fa_23
    generalize H1 = H at hP hS ⊢
    refine lv_iload_n hx hb dX11_morning_43 rfl (lv_at hl 0 rfl) ?_
    exact W.iret (v := r_8) hx hb hr (fun t ht hW => ⟨⟨r_8, (fv_19, wd_20, ar_21), rfl, ⟨hF_fv_19, hA_ar_21, (fM_call (fM_call (fM_put (fM_rf [3, 6, 8, 22, 23, 24] _) efv_3 (by decide)) fr_15 (by decide)) fr_22 (by decide)), (fA_call (fA_call (fA_rf [4, 12, 13, 15, 16, 17, 18, 19, 24, 25, 26, 27, 35, 44, 45, 46, 47, 48, 49, 50, 51, 52, 53, 54, 55, 56, 57, 58, 59, 60, 61, 62, 63, 64] _) fa_16 (by decide)) fa_23 (by decide)), (show wd_20.2.2.2 = wd.2.2.2 from ((congrArg (fun z => z.2.2) wf_24)).trans (p_9)), (show wd_20.2.1 = wd.2.1 from ((congrArg (fun z => z.1) wf_24)).trans (p_10)), trivial⟩, ⟨by rw [ht]; exact hP, va_K.moved hW.alike hK⟩⟩, hS.F ht⟩) hS.2.2 dX11_morning_44
  · skip
    have i_25 : 0 ≤ (fv 3).toInt ∧ (fv 3).toInt ≤ 199 := iv_eq1 i_1 c_2
    have k_26 := congrArg Int32.toInt c_2
    refine lv_iconst (v := (-1)) hx hb dX11_morning_14 (by decide) ?_
    have z_27 : ((-1) : Int32).toInt = (-1) := by decide
    exact W.iret (v := (-1)) hx hb hr (fun t ht hW => ⟨⟨(-1), (fv, wd, ar), rfl, ⟨hF_fv, hA_ar, (fM_rf [3, 6, 8, 22, 23, 24] _), (fA_rf [4, 12, 13, 15, 16, 17, 18, 19, 24, 25, 26, 27, 35, 44, 45, 46, 47, 48, 49, 50, 51, 52, 53, 54, 55, 56, 57, 58, 59, 60, 61, 62, 63, 64] _), (show wd.2.2.2 = wd.2.2.2 from rfl), (show wd.2.1 = wd.2.1 from rfl), trivial⟩, ⟨by rw [ht]; exact hP, va_K.moved hW.alike hK⟩⟩, hS.F ht⟩) hS.2.2 dX11_morning_15
set_option maxHeartbeats 4000000 in
set_option maxRecDepth 100000 in
theorem x_tried (l : Launch) (dC : Nat → ClassId) (dI : Nat → Nat → Nat) (sz : Nat) (ob ad : Nat → Nat) (cA : Nat → ClassId) (hd : dX ob ad) (fv : Nat → Int32) (wd : xT) (ar : Nat → Nat → Int32) (hF_fv : rX fv) (hA_ar : rB ar) (gla : Nat → Nat) (gfr : Nat → Int32) (gra : Nat → Nat → Nat) (grc : Nat → Nat → ClassId) (gln gcn : Nat → Nat) (glr : Nat → Nat → Nat → Int32) (ce : ClassId) (ef : Nat → Option Nat) (a : Int32) : Met l yX11_tried (.code yX11_tried cX11_tried 2 (some .int) :: lw_good) ({ frames := 9, cells := 0, slots := 0, locals := 213 }) (va_Pc [.ref (ob 0), .int a] (fun U => prX dC dI ob ad cA fv wd ar sz U ∧ lsA dC dI ob ad gla gfr gra grc gln gcn glr ce ef (fv 30).toInt wd.2.2.2 sz U)) (va_Qi (fun (r : Int32) (u : xS) => rX u.1 ∧ rB u.2.2 ∧ fM [6, 22, 23, 24] fv u.1 ∧ fA [4, 44, 45, 46, 47, 48, 49, 50, 51, 52, 53, 54, 55, 56, 57, 58, 59, 60, 61, 62, 63, 64] ar u.2.2 ∧ (u.2.1.2.2.2 = wd.2.2.2) ∧ (u.2.1.2.1 = wd.2.1) ∧ True) (enX dC dI ob ad cA) (aX ob ad sz)) 0 0 (aX ob ad sz) := by
  refine Met.ofW (cc := cX11_tried) (maxL := 2) (ret := (some .int)) (by decide) rfl ?_
  intro p e s m args below meth c s₁ B hml hv
  obtain ⟨rfl, ⟨hsz, hP, hK⟩, hG⟩ := hv
  have hx := B.exec
  have hb := B.bytes
  have hr := B.returns
  have hts := atoms_spec (ws := (.code yX11_tried cX11_tried 2 (some .int) :: lw_good)) B.pre
  have htg : ∀ w ∈ lw_good, w.before _ s = true := fun w hw => hts w (List.mem_cons_of_mem _ hw)
  have hown : s.vm.findClass RX11 = some m.cls := findClass_of_methodNamed B.named
  have hlocks := B.notSynchronized
  subst hsz
  have hS : va_S (aX ob ad s.heap.size) s.heap s.heap [] := va_S.rf
  have hl := lv_entry ([.ref (ob 0), .int a]) (n := 2) (Nat.le_of_ble_eq_true rfl)
  rw [lg_entry_eq]
  generalize (lg_sl ([.ref (ob 0), .int a]) ++ List.replicate (2 - (lg_sl ([.ref (ob 0), .int a])).length) Slot.unset).toArray = ls at hl ⊢
  have hl : lv_has ls 2 [(0, .ref (ob 0)), (1, .int a)] := hl
  refine lv_aload_n hx hb dX11_tried_0 rfl (lv_at hl 0 rfl) ?_
  refine gX_X11_16 hx hb htg hown hK hP dX11_tried_1 ?_
  refine gX_X11_101 hx hb htg hown hK hP dX11_tried_4 ?_
  refine lv_iload_n hx hb dX11_tried_7 rfl (lv_at hl 1 rfl) ?_
  refine va_calli (va_runV (As := [.int a]) (rest := []) ⟨hx, hb, hml, hown, hts⟩ (x_wheels_has l dC dI s.heap.size ob ad cA hd fv wd ar hF_fv hA_ar a) (cwV 1 hts (gV kw_3_198 kw_3_199 kw_3_200 kw_1_5 kw_3_201) rfl rfl rfl (by decide +kernel) ⟨Nat.le_of_ble_eq_true rfl, Nat.le_of_ble_eq_true rfl⟩) ⟨fun a U g mk q => ⟨q.1, q.2.1, q.2.2.1, va_K.moved (u := U) (U := U.calling g mk a) (Vm.Alike.refl U.vm) q.2.2.2⟩, va_recv hK hP (ci := 10) (q0 := 4) rfl rfl, fun U hU hW => ⟨rfl, by rw [hU], by rw [hU]; exact hP, va_K.moved hW.alike hK⟩⟩ rfl rfl hl.1 rfl (lv_room (Nat.le_of_ble_eq_true rfl)) dX11_tried_8 ⟨Nat.le_of_ble_eq_true rfl, Nat.le_of_ble_eq_true rfl⟩) hS (fun q _ h9 => aX_up hS q h9) (aX_up hS) (fun r_1 u t H1 locs ht _ hw hB _ hk1 hS => ?_)
  obtain ⟨fv_4, wd_5, ar_6⟩ := u
  obtain ⟨hF_fv_4, hA_ar_6, fr_7, fa_8, wf_9, p_2, p_3, -⟩ := hw
  have wf_9 : wd_5.2 = wd.2 := wf_9
  have hP : va_P (dC, dI) vwCl (wsX ob ad cA fv_4 wd_5 ar_6) H1 := by have h9 := hB.1; rw [ht] at h9; exact h9
  have fr_7 : fM [] fv fv_4 := fr_7
  have fa_8 : fA [] ar ar_6 := fa_8
  generalize H1 = H at hP hS ⊢
  rcases p_3 with ⟨rfl, p_3⟩ | ⟨rfl, p_3⟩
  · skip
    refine lv_if_eq (tgt := 28) hx hb dX11_tried_11 (by decide) (fun c_10 => ?_) (fun c_10 => ?_)
    · skip
      refine lv_iconst (v := (-1)) hx hb dX11_tried_28 (by decide) ?_
      have z_11 : ((-1) : Int32).toInt = (-1) := by decide
      exact W.iret (v := (-1)) hx hb hr (fun t ht hW => ⟨⟨(-1), (fv_4, wd_5, ar_6), rfl, ⟨hF_fv_4, hA_ar_6, (fM_call (fM_rf [6, 22, 23, 24] _) fr_7 (by decide)), (fA_call (fA_rf [4, 44, 45, 46, 47, 48, 49, 50, 51, 52, 53, 54, 55, 56, 57, 58, 59, 60, 61, 62, 63, 64] _) fa_8 (by decide)), (show wd_5.2.2.2 = wd.2.2.2 from congrArg (fun z => z.2.2) wf_9), (show wd_5.2.1 = wd.2.1 from congrArg (fun z => z.1) wf_9), trivial⟩, ⟨by rw [ht]; exact hP, va_K.moved hW.alike hK⟩⟩, hS.F ht⟩) hS.2.2 dX11_tried_29
    · skip
      exact absurd c_10 (by decide)
  · skip
    have i_12 : 0 ≤ a.toInt ∧ a.toInt ≤ 2147483647 := ⟨p_3.1, (iv_any a).2⟩
    have i_13 : 0 ≤ a.toInt ∧ a.toInt ≤ 19 := ⟨i_12.1, p_3.2⟩
    refine lv_if_eq (tgt := 28) hx hb dX11_tried_11 (by decide) (fun c_14 => ?_) (fun c_14 => ?_)
    · skip
      exact absurd c_14 (by decide)
    · skip
      refine lv_aload_n hx hb dX11_tried_14 rfl (lv_at hl 0 rfl) ?_
      refine gX_X11_47 hx hb htg hown hK hP dX11_tried_15 ?_
      refine my_ti (y := fv 3) ((fr_7 3 rfl)) ?_
      refine lv_aload_n hx hb dX11_tried_18 rfl (lv_at hl 0 rfl) ?_
      refine gX_X11_16 hx hb htg hown hK hP dX11_tried_19 ?_
      refine gX_X11_57 hx hb htg hown hK hP dX11_tried_22 ?_
      refine my_ti (y := fv 7) ((fr_7 7 rfl)) ?_
      have i_15 : 0 ≤ (fv 7).toInt ∧ (fv 7).toInt ≤ 199 := hF_fv 7
      refine lv_icmp_ne (tgt := 30) hx hb dX11_tried_25 (by decide) (fun c_16 => ?_) (fun c_16 => ?_)
      · skip
        refine lv_aload_n hx hb dX11_tried_30 rfl (lv_at hl 0 rfl) ?_
        refine gX_X11_32 hx hb htg hown hK hP dX11_tried_31 ?_
        refine lv_iload_n hx hb dX11_tried_34 rfl (lv_at hl 1 rfl) ?_
        have z_17 : (fv_4 30).toInt = (fv 30).toInt := congrArg Int32.toInt ((fr_7 30 rfl))
        have z_18 : 0 ≤ (fv_4 30).toInt ∧ (fv_4 30).toInt ≤ 10 := hF_fv_4 30
        have z_19 : (fv_4 30).toInt = (fv 30).toInt := congrArg Int32.toInt ((fr_7 30 rfl))
        have z_20 : 0 ≤ (fv_4 30).toInt ∧ (fv_4 30).toInt ≤ 10 := hF_fv_4 30
        refine va_calli (va_runV (As := [.int a]) (rest := []) ⟨hx, hb, hml, hown, hts⟩ (x_lead l dC dI H.size ob ad cA hd fv_4 wd_5 ar_6 hF_fv_4 hA_ar_6 gla gfr gra grc gln gcn glr ce ef a) (cwV 1 hts (gV kw_5_49 kw_5_50 kw_5_51 kw_1_12 kw_5_52) rfl rfl rfl (by decide +kernel) ⟨Nat.le_of_ble_eq_true rfl, Nat.le_of_ble_eq_true rfl⟩) ⟨fun a U g mk q => ⟨q.1, ⟨q.2.1.1, q.2.1.2.1, va_K.moved (u := U) (U := U.calling g mk a) (Vm.Alike.refl U.vm) q.2.1.2.2⟩, ls_mv (U := U.calling g mk a) rfl (Vm.Alike.refl U.vm) q.2.2⟩, va_recv hK hP (ci := 2) (q0 := 8) rfl rfl, fun U hU hW => ⟨rfl, ⟨by rw [hU], by rw [hU]; exact hP, va_K.moved hW.alike hK⟩, ls_eq (ls_pass hG hS hU hW.alike) (congrArg Int32.toInt ((fr_7 30 rfl))) (congrArg (fun z => z.2.2) wf_9)⟩⟩ rfl rfl hl.1 rfl (lv_room (Nat.le_of_ble_eq_true rfl)) dX11_tried_35 ⟨Nat.le_of_ble_eq_true rfl, Nat.le_of_ble_eq_true rfl⟩) hS (fun q _ h9 => aX_up hS q h9) (aX_up hS) (fun r_21 u t H1 locs ht _ hw hB _ hk1 hS => ?_)
        obtain ⟨fv_25, wd_26, ar_27⟩ := u
        obtain ⟨hF_fv_25, hA_ar_27, fr_28, fa_29, p_22, p_23, p_24, -⟩ := hw
        have hP : va_P (dC, dI) vwCl (wsX ob ad cA fv_25 wd_26 ar_27) H1 := by have h9 := hB.1; rw [ht] at h9; exact h9
        have fr_28 : fM [6, 22, 23, 24] fv_4 fv_25 := fr_28
        have fa_29 : fA [4, 44, 45, 46, 47, 48, 49, 50, 51, 52, 53, 54, 55, 56, 57, 58, 59, 60, 61, 62, 63, 64] ar_6 ar_27 := fa_29
        have p_22 : wd_26.2.2.2 = wd_5.2.2.2 := p_22
        have p_23 : wd_26.2.1 = wd_5.2.1 := p_23
        have p_24 : ∃ z : Nat, (z : Int) ≤ (fv_4 30).toInt ∧ wd_26.2.2.1 = gla z := p_24
        generalize H1 = H at hP hS ⊢
        exact W.iret (v := r_21) hx hb hr (fun t ht hW => ⟨⟨r_21, (fv_25, wd_26, ar_27), rfl, ⟨hF_fv_25, hA_ar_27, (fM_call (fM_call (fM_rf [6, 22, 23, 24] _) fr_7 (by decide)) fr_28 (by decide)), (fA_call (fA_call (fA_rf [4, 44, 45, 46, 47, 48, 49, 50, 51, 52, 53, 54, 55, 56, 57, 58, 59, 60, 61, 62, 63, 64] _) fa_8 (by decide)) fa_29 (by decide)), (show wd_26.2.2.2 = wd.2.2.2 from (p_22).trans ((congrArg (fun z => z.2.2) wf_9))), (show wd_26.2.1 = wd.2.1 from (p_23).trans ((congrArg (fun z => z.1) wf_9))), trivial⟩, ⟨by rw [ht]; exact hP, va_K.moved hW.alike hK⟩⟩, hS.F ht⟩) hS.2.2 dX11_tried_38
      · skip
        have i_31 : 0 ≤ (fv 3).toInt ∧ (fv 3).toInt ≤ 199 := iv_eq1 i_15 c_16
        have k_32 := congrArg Int32.toInt c_16
        refine lv_iconst (v := (-1)) hx hb dX11_tried_28 (by decide) ?_
        have z_33 : ((-1) : Int32).toInt = (-1) := by decide
        exact W.iret (v := (-1)) hx hb hr (fun t ht hW => ⟨⟨(-1), (fv_4, wd_5, ar_6), rfl, ⟨hF_fv_4, hA_ar_6, (fM_call (fM_rf [6, 22, 23, 24] _) fr_7 (by decide)), (fA_call (fA_rf [4, 44, 45, 46, 47, 48, 49, 50, 51, 52, 53, 54, 55, 56, 57, 58, 59, 60, 61, 62, 63, 64] _) fa_8 (by decide)), (show wd_5.2.2.2 = wd.2.2.2 from congrArg (fun z => z.2.2) wf_9), (show wd_5.2.1 = wd.2.1 from congrArg (fun z => z.1) wf_9), trivial⟩, ⟨by rw [ht]; exact hP, va_K.moved hW.alike hK⟩⟩, hS.F ht⟩) hS.2.2 dX11_tried_29
set_option maxHeartbeats 4000000 in
set_option maxRecDepth 100000 in
theorem x_count (l : Launch) (dC : Nat → ClassId) (dI : Nat → Nat → Nat) (sz : Nat) (ob ad : Nat → Nat) (cA : Nat → ClassId) (hd : dX ob ad) (fv : Nat → Int32) (wd : xT) (ar : Nat → Nat → Int32) (hF_fv : rX fv) (hA_ar : rB ar) (a : Int32) : Met l yX11_count (.code yX11_count cX11_count 2 (some .int) :: lw_good) ({ frames := 3, cells := 0, slots := 0, locals := 60 }) (va_Pc [.ref (ob 0), .int a] (prX dC dI ob ad cA fv wd ar sz)) (va_Qi (fun (r : Int32) (u : xS) => rX u.1 ∧ rB u.2.2 ∧ fM [] fv u.1 ∧ fA [] ar u.2.2 ∧ u.2.1.2 = wd.2 ∧ True) (enX dC dI ob ad cA) (aX ob ad sz)) 0 0 (aX ob ad sz) := by
  refine Met.ofW (cc := cX11_count) (maxL := 2) (ret := (some .int)) (by decide) rfl ?_
  intro p e s m args below meth c s₁ B hml hv
  obtain ⟨rfl, hsz, hP, hK⟩ := hv
  have hx := B.exec
  have hb := B.bytes
  have hr := B.returns
  have hts := atoms_spec (ws := (.code yX11_count cX11_count 2 (some .int) :: lw_good)) B.pre
  have htg : ∀ w ∈ lw_good, w.before _ s = true := fun w hw => hts w (List.mem_cons_of_mem _ hw)
  have hown : s.vm.findClass RX11 = some m.cls := findClass_of_methodNamed B.named
  have hlocks := B.notSynchronized
  subst hsz
  have hS : va_S (aX ob ad s.heap.size) s.heap s.heap [] := va_S.rf
  have hl := lv_entry ([.ref (ob 0), .int a]) (n := 2) (Nat.le_of_ble_eq_true rfl)
  rw [lg_entry_eq]
  generalize (lg_sl ([.ref (ob 0), .int a]) ++ List.replicate (2 - (lg_sl ([.ref (ob 0), .int a])).length) Slot.unset).toArray = ls at hl ⊢
  have hl : lv_has ls 2 [(0, .ref (ob 0)), (1, .int a)] := hl
  refine lv_iload_n hx hb dX11_count_0 rfl (lv_at hl 1 rfl) ?_
  rcases ix_sw_0_8 a with w_1 | w_1 | w_1 | w_1 | w_1 | w_1 | w_1 | w_1 | w_1 | w_1
  · skip
    refine lv_tableOut (tgt := 121) hx hb dX11_count_1 (Or.inl w_1) (by decide) ?_
    refine lv_iconst (v := (-1)) hx hb dX11_count_121 (by decide) ?_
    exact W.iret (v := (-1)) hx hb hr (fun t ht hW => ⟨⟨(-1), (fv, wd, ar), rfl, ⟨hF_fv, hA_ar, (fM_rf [] _), (fA_rf [] _), rfl, trivial⟩, ⟨by rw [ht]; exact hP, va_K.moved hW.alike hK⟩⟩, hS.F ht⟩) hS.2.2 dX11_count_122
  · skip
    refine lv_tableOut (tgt := 121) hx hb dX11_count_1 (Or.inr w_1) (by decide) ?_
    refine lv_iconst (v := (-1)) hx hb dX11_count_121 (by decide) ?_
    exact W.iret (v := (-1)) hx hb hr (fun t ht hW => ⟨⟨(-1), (fv, wd, ar), rfl, ⟨hF_fv, hA_ar, (fM_rf [] _), (fA_rf [] _), rfl, trivial⟩, ⟨by rw [ht]; exact hP, va_K.moved hW.alike hK⟩⟩, hS.F ht⟩) hS.2.2 dX11_count_122
  · skip
    refine lv_tableIn (off := 47) (tgt := 48) hx hb dX11_count_1 (by rw [w_1]; decide) (by rw [w_1]; decide) (by rw [w_1]; rfl) (by decide) ?_
    refine lv_aload_n hx hb dX11_count_48 rfl (lv_at hl 0 rfl) ?_
    refine gX_X11_16 hx hb htg hown hK hP dX11_count_49 ?_
    refine gX_X11_57 hx hb htg hown hK hP dX11_count_52 ?_
    have i_2 : 0 ≤ (fv 7).toInt ∧ (fv 7).toInt ≤ 199 := hF_fv 7
    exact W.iret (v := fv 7) hx hb hr (fun t ht hW => ⟨⟨fv 7, (fv, wd, ar), rfl, ⟨hF_fv, hA_ar, (fM_rf [] _), (fA_rf [] _), rfl, trivial⟩, ⟨by rw [ht]; exact hP, va_K.moved hW.alike hK⟩⟩, hS.F ht⟩) hS.2.2 dX11_count_55
  · skip
    refine lv_tableIn (off := 55) (tgt := 56) hx hb dX11_count_1 (by rw [w_1]; decide) (by rw [w_1]; decide) (by rw [w_1]; rfl) (by decide) ?_
    refine lv_aload_n hx hb dX11_count_56 rfl (lv_at hl 0 rfl) ?_
    refine gX_X11_16 hx hb htg hown hK hP dX11_count_57 ?_
    refine gX_X11_79 hx hb htg hown hK hP dX11_count_60 ?_
    refine gX_X11_236 hx hb htg hown hK hP dX11_count_63 ?_
    have i_3 : 0 ≤ (fv 10).toInt ∧ (fv 10).toInt ≤ 40 := hF_fv 10
    exact W.iret (v := fv 10) hx hb hr (fun t ht hW => ⟨⟨fv 10, (fv, wd, ar), rfl, ⟨hF_fv, hA_ar, (fM_rf [] _), (fA_rf [] _), rfl, trivial⟩, ⟨by rw [ht]; exact hP, va_K.moved hW.alike hK⟩⟩, hS.F ht⟩) hS.2.2 dX11_count_66
  · skip
    refine lv_tableIn (off := 66) (tgt := 67) hx hb dX11_count_1 (by rw [w_1]; decide) (by rw [w_1]; decide) (by rw [w_1]; rfl) (by decide) ?_
    refine lv_aload_n hx hb dX11_count_67 rfl (lv_at hl 0 rfl) ?_
    refine gX_X11_16 hx hb htg hown hK hP dX11_count_68 ?_
    refine gX_X11_89 hx hb htg hown hK hP dX11_count_71 ?_
    have i_4 : 0 ≤ (fv 4).toInt ∧ (fv 4).toInt ≤ 8 := hF_fv 4
    exact W.iret (v := fv 4) hx hb hr (fun t ht hW => ⟨⟨fv 4, (fv, wd, ar), rfl, ⟨hF_fv, hA_ar, (fM_rf [] _), (fA_rf [] _), rfl, trivial⟩, ⟨by rw [ht]; exact hP, va_K.moved hW.alike hK⟩⟩, hS.F ht⟩) hS.2.2 dX11_count_74
  · skip
    refine lv_tableIn (off := 74) (tgt := 75) hx hb dX11_count_1 (by rw [w_1]; decide) (by rw [w_1]; decide) (by rw [w_1]; rfl) (by decide) ?_
    refine lv_aload_n hx hb dX11_count_75 rfl (lv_at hl 0 rfl) ?_
    refine gX_X11_16 hx hb htg hown hK hP dX11_count_76 ?_
    refine gX_X11_101 hx hb htg hown hK hP dX11_count_79 ?_
    refine gX_X11_237 hx hb htg hown hK hP dX11_count_82 ?_
    have i_5 : 0 ≤ (fv 11).toInt ∧ (fv 11).toInt ≤ 20 := hF_fv 11
    exact W.iret (v := fv 11) hx hb hr (fun t ht hW => ⟨⟨fv 11, (fv, wd, ar), rfl, ⟨hF_fv, hA_ar, (fM_rf [] _), (fA_rf [] _), rfl, trivial⟩, ⟨by rw [ht]; exact hP, va_K.moved hW.alike hK⟩⟩, hS.F ht⟩) hS.2.2 dX11_count_85
  · skip
    refine lv_tableIn (off := 85) (tgt := 86) hx hb dX11_count_1 (by rw [w_1]; decide) (by rw [w_1]; decide) (by rw [w_1]; rfl) (by decide) ?_
    refine lv_aload_n hx hb dX11_count_86 rfl (lv_at hl 0 rfl) ?_
    refine gX_X11_16 hx hb htg hown hK hP dX11_count_87 ?_
    refine gX_X11_116 hx hb htg hown hK hP dX11_count_90 ?_
    refine gX_X11_238 hx hb htg hown hK hP dX11_count_93 ?_
    have i_6 : 0 ≤ (fv 12).toInt ∧ (fv 12).toInt ≤ 80 := hF_fv 12
    exact W.iret (v := fv 12) hx hb hr (fun t ht hW => ⟨⟨fv 12, (fv, wd, ar), rfl, ⟨hF_fv, hA_ar, (fM_rf [] _), (fA_rf [] _), rfl, trivial⟩, ⟨by rw [ht]; exact hP, va_K.moved hW.alike hK⟩⟩, hS.F ht⟩) hS.2.2 dX11_count_96
  · skip
    refine lv_tableIn (off := 96) (tgt := 97) hx hb dX11_count_1 (by rw [w_1]; decide) (by rw [w_1]; decide) (by rw [w_1]; rfl) (by decide) ?_
    refine lv_aload_n hx hb dX11_count_97 rfl (lv_at hl 0 rfl) ?_
    refine gX_X11_16 hx hb htg hown hK hP dX11_count_98 ?_
    refine gX_X11_154 hx hb htg hown hK hP dX11_count_101 ?_
    have z_7 : 0 ≤ (fv 30).toInt ∧ (fv 30).toInt ≤ 10 := hF_fv 30
    refine va_calli (va_runV (As := []) (rest := []) ⟨hx, hb, hml, hown, hts⟩ (x_alsize l dC dI s.heap.size ob ad cA hd fv wd ar hF_fv hA_ar) (cwV 0 hts (gV kw_4_5 kw_4_6 kw_4_7 kw_1_9 kw_4_8) rfl rfl rfl (by decide +kernel) ⟨Nat.le_of_ble_eq_true rfl, Nat.le_of_ble_eq_true rfl⟩) ⟨fun a U g mk q => ⟨q.1, q.2.1, q.2.2.1, va_K.moved (u := U) (U := U.calling g mk a) (Vm.Alike.refl U.vm) q.2.2.2⟩, va_recv hK hP (ci := 0) (q0 := 11) rfl rfl, fun U hU hW => ⟨rfl, by rw [hU], by rw [hU]; exact hP, va_K.moved hW.alike hK⟩⟩ rfl rfl hl.1 rfl (lv_room (Nat.le_of_ble_eq_true rfl)) dX11_count_104 ⟨Nat.le_of_ble_eq_true rfl, Nat.le_of_ble_eq_true rfl⟩) hS (fun q _ h9 => aX_up hS q h9) (aX_up hS) (fun r_8 u t H1 locs ht _ hw hB _ hk1 hS => ?_)
    obtain ⟨fv_11, wd_12, ar_13⟩ := u
    obtain ⟨hF_fv_11, hA_ar_13, fr_14, fa_15, wf_16, p_9, p_10, -⟩ := hw
    have wf_16 : wd_12.2 = wd.2 := wf_16
    have hP : va_P (dC, dI) vwCl (wsX ob ad cA fv_11 wd_12 ar_13) H1 := by have h9 := hB.1; rw [ht] at h9; exact h9
    have fr_14 : fM [] fv fv_11 := fr_14
    have fa_15 : fA [] ar ar_13 := fa_15
    have p_10 : r_8.toInt = (fv 30).toInt := p_10
    generalize H1 = H at hP hS ⊢
    exact W.iret (v := r_8) hx hb hr (fun t ht hW => ⟨⟨r_8, (fv_11, wd_12, ar_13), rfl, ⟨hF_fv_11, hA_ar_13, (fM_call (fM_rf [] _) fr_14 (by decide)), (fA_call (fA_rf [] _) fa_15 (by decide)), wf_16, trivial⟩, ⟨by rw [ht]; exact hP, va_K.moved hW.alike hK⟩⟩, hS.F ht⟩) hS.2.2 dX11_count_107
  · skip
    refine lv_tableIn (off := 107) (tgt := 108) hx hb dX11_count_1 (by rw [w_1]; decide) (by rw [w_1]; decide) (by rw [w_1]; rfl) (by decide) ?_
    refine lv_aload_n hx hb dX11_count_108 rfl (lv_at hl 0 rfl) ?_
    refine gX_X11_16 hx hb htg hown hK hP dX11_count_109 ?_
    refine gX_X11_145 hx hb htg hown hK hP dX11_count_112 ?_
    exact W.iret (v := fv 8) hx hb hr (fun t ht hW => ⟨⟨fv 8, (fv, wd, ar), rfl, ⟨hF_fv, hA_ar, (fM_rf [] _), (fA_rf [] _), rfl, trivial⟩, ⟨by rw [ht]; exact hP, va_K.moved hW.alike hK⟩⟩, hS.F ht⟩) hS.2.2 dX11_count_115
  · skip
    refine lv_tableIn (off := 115) (tgt := 116) hx hb dX11_count_1 (by rw [w_1]; decide) (by rw [w_1]; decide) (by rw [w_1]; rfl) (by decide) ?_
    refine lv_aload_n hx hb dX11_count_116 rfl (lv_at hl 0 rfl) ?_
    refine gX_X11_50 hx hb htg hown hK hP dX11_count_117 ?_
    have i_17 : 0 ≤ (fv 0).toInt ∧ (fv 0).toInt ≤ 340 := hF_fv 0
    exact W.iret (v := fv 0) hx hb hr (fun t ht hW => ⟨⟨fv 0, (fv, wd, ar), rfl, ⟨hF_fv, hA_ar, (fM_rf [] _), (fA_rf [] _), rfl, trivial⟩, ⟨by rw [ht]; exact hP, va_K.moved hW.alike hK⟩⟩, hS.F ht⟩) hS.2.2 dX11_count_120

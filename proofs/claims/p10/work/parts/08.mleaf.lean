theorem dX12_cut_0 : decode cX12_cut 0 = .ok (.iload_n 0, 1) := by decide +kernel
theorem dX12_cut_1 : decode cX12_cut 1 = .ok (.ldc_w 278, 3) := by decide +kernel
theorem dX12_cut_4 : decode cX12_cut 4 = .ok (.if_icmp .le 9, 3) := by decide +kernel
theorem dX12_cut_7 : decode cX12_cut 7 = .ok (.ldc_w 278, 3) := by decide +kernel
theorem dX12_cut_10 : decode cX12_cut 10 = .ok (.goto 4, 3) := by decide +kernel
theorem dX12_cut_13 : decode cX12_cut 13 = .ok (.iload_n 0, 1) := by decide +kernel
theorem dX12_cut_14 : decode cX12_cut 14 = .ok (.ireturn, 1) := by decide +kernel
theorem dX12_isCorner_0 : decode cX12_isCorner 0 = .ok (.iload_n 0, 1) := by decide +kernel
theorem dX12_isCorner_1 : decode cX12_isCorner 1 = .ok (.ifCond .lt 13, 3) := by decide +kernel
theorem dX12_isCorner_4 : decode cX12_isCorner 4 = .ok (.iload_n 0, 1) := by decide +kernel
theorem dX12_isCorner_5 : decode cX12_isCorner 5 = .ok (.bipush 12, 2) := by decide +kernel
theorem dX12_isCorner_7 : decode cX12_isCorner 7 = .ok (.if_icmp .ge 7, 3) := by decide +kernel
theorem dX12_isCorner_10 : decode cX12_isCorner 10 = .ok (.iconst 1, 1) := by decide +kernel
theorem dX12_isCorner_11 : decode cX12_isCorner 11 = .ok (.goto 4, 3) := by decide +kernel
theorem dX12_isCorner_14 : decode cX12_isCorner 14 = .ok (.iconst 0, 1) := by decide +kernel
theorem dX12_isCorner_15 : decode cX12_isCorner 15 = .ok (.ireturn, 1) := by decide +kernel
theorem dX12_isDay_0 : decode cX12_isDay 0 = .ok (.iload_n 0, 1) := by decide +kernel
theorem dX12_isDay_1 : decode cX12_isDay 1 = .ok (.ifCond .lt 14, 3) := by decide +kernel
theorem dX12_isDay_4 : decode cX12_isDay 4 = .ok (.iload_n 0, 1) := by decide +kernel
theorem dX12_isDay_5 : decode cX12_isDay 5 = .ok (.sipush 200, 3) := by decide +kernel
theorem dX12_isDay_8 : decode cX12_isDay 8 = .ok (.if_icmp .ge 7, 3) := by decide +kernel
theorem dX12_isDay_11 : decode cX12_isDay 11 = .ok (.iconst 1, 1) := by decide +kernel
theorem dX12_isDay_12 : decode cX12_isDay 12 = .ok (.goto 4, 3) := by decide +kernel
theorem dX12_isDay_15 : decode cX12_isDay 15 = .ok (.iconst 0, 1) := by decide +kernel
theorem dX12_isDay_16 : decode cX12_isDay 16 = .ok (.ireturn, 1) := by decide +kernel
theorem dX12_isDigit_0 : decode cX12_isDigit 0 = .ok (.iload_n 0, 1) := by decide +kernel
theorem dX12_isDigit_1 : decode cX12_isDigit 1 = .ok (.bipush 48, 2) := by decide +kernel
theorem dX12_isDigit_3 : decode cX12_isDigit 3 = .ok (.if_icmp .lt 13, 3) := by decide +kernel
theorem dX12_isDigit_6 : decode cX12_isDigit 6 = .ok (.iload_n 0, 1) := by decide +kernel
theorem dX12_isDigit_7 : decode cX12_isDigit 7 = .ok (.bipush 57, 2) := by decide +kernel
theorem dX12_isDigit_9 : decode cX12_isDigit 9 = .ok (.if_icmp .gt 7, 3) := by decide +kernel
theorem dX12_isDigit_12 : decode cX12_isDigit 12 = .ok (.iconst 1, 1) := by decide +kernel
theorem dX12_isDigit_13 : decode cX12_isDigit 13 = .ok (.goto 4, 3) := by decide +kernel
theorem dX12_isDigit_16 : decode cX12_isDigit 16 = .ok (.iconst 0, 1) := by decide +kernel
theorem dX12_isDigit_17 : decode cX12_isDigit 17 = .ok (.ireturn, 1) := by decide +kernel
theorem dX12_isIn_0 : decode cX12_isIn 0 = .ok (.iload_n 0, 1) := by decide +kernel
theorem dX12_isIn_1 : decode cX12_isIn 1 = .ok (.iload_n 1, 1) := by decide +kernel
theorem dX12_isIn_2 : decode cX12_isIn 2 = .ok (.if_icmp .lt 12, 3) := by decide +kernel
theorem dX12_isIn_5 : decode cX12_isIn 5 = .ok (.iload_n 0, 1) := by decide +kernel
theorem dX12_isIn_6 : decode cX12_isIn 6 = .ok (.iload_n 2, 1) := by decide +kernel
theorem dX12_isIn_7 : decode cX12_isIn 7 = .ok (.if_icmp .gt 7, 3) := by decide +kernel
theorem dX12_isIn_10 : decode cX12_isIn 10 = .ok (.iconst 1, 1) := by decide +kernel
theorem dX12_isIn_11 : decode cX12_isIn 11 = .ok (.goto 4, 3) := by decide +kernel
theorem dX12_isIn_14 : decode cX12_isIn 14 = .ok (.iconst 0, 1) := by decide +kernel
theorem dX12_isIn_15 : decode cX12_isIn 15 = .ok (.ireturn, 1) := by decide +kernel
theorem dX12_isLetter_0 : decode cX12_isLetter 0 = .ok (.iload_n 0, 1) := by decide +kernel
theorem dX12_isLetter_1 : decode cX12_isLetter 1 = .ok (.bipush 97, 2) := by decide +kernel
theorem dX12_isLetter_3 : decode cX12_isLetter 3 = .ok (.if_icmp .lt 13, 3) := by decide +kernel
theorem dX12_isLetter_6 : decode cX12_isLetter 6 = .ok (.iload_n 0, 1) := by decide +kernel
theorem dX12_isLetter_7 : decode cX12_isLetter 7 = .ok (.bipush 122, 2) := by decide +kernel
theorem dX12_isLetter_9 : decode cX12_isLetter 9 = .ok (.if_icmp .gt 7, 3) := by decide +kernel
theorem dX12_isLetter_12 : decode cX12_isLetter 12 = .ok (.iconst 1, 1) := by decide +kernel
theorem dX12_isLetter_13 : decode cX12_isLetter 13 = .ok (.goto 4, 3) := by decide +kernel
theorem dX12_isLetter_16 : decode cX12_isLetter 16 = .ok (.iconst 0, 1) := by decide +kernel
theorem dX12_isLetter_17 : decode cX12_isLetter 17 = .ok (.ireturn, 1) := by decide +kernel
theorem dX12_isMark_0 : decode cX12_isMark 0 = .ok (.iload_n 0, 1) := by decide +kernel
theorem dX12_isMark_1 : decode cX12_isMark 1 = .ok (.bipush 59, 2) := by decide +kernel
theorem dX12_isMark_3 : decode cX12_isMark 3 = .ok (.if_icmp .eq 33, 3) := by decide +kernel
theorem dX12_isMark_6 : decode cX12_isMark 6 = .ok (.iload_n 0, 1) := by decide +kernel
theorem dX12_isMark_7 : decode cX12_isMark 7 = .ok (.bipush 40, 2) := by decide +kernel
theorem dX12_isMark_9 : decode cX12_isMark 9 = .ok (.if_icmp .eq 27, 3) := by decide +kernel
theorem dX12_isMark_12 : decode cX12_isMark 12 = .ok (.iload_n 0, 1) := by decide +kernel
theorem dX12_isMark_13 : decode cX12_isMark 13 = .ok (.bipush 41, 2) := by decide +kernel
theorem dX12_isMark_15 : decode cX12_isMark 15 = .ok (.if_icmp .eq 21, 3) := by decide +kernel
theorem dX12_isMark_18 : decode cX12_isMark 18 = .ok (.iload_n 0, 1) := by decide +kernel
theorem dX12_isMark_19 : decode cX12_isMark 19 = .ok (.bipush 60, 2) := by decide +kernel
theorem dX12_isMark_21 : decode cX12_isMark 21 = .ok (.if_icmp .eq 15, 3) := by decide +kernel
theorem dX12_isMark_24 : decode cX12_isMark 24 = .ok (.iload_n 0, 1) := by decide +kernel
theorem dX12_isMark_25 : decode cX12_isMark 25 = .ok (.bipush 61, 2) := by decide +kernel
theorem dX12_isMark_27 : decode cX12_isMark 27 = .ok (.if_icmp .eq 9, 3) := by decide +kernel
theorem dX12_isMark_30 : decode cX12_isMark 30 = .ok (.iload_n 0, 1) := by decide +kernel
theorem dX12_isMark_31 : decode cX12_isMark 31 = .ok (.bipush 62, 2) := by decide +kernel
theorem dX12_isMark_33 : decode cX12_isMark 33 = .ok (.if_icmp .ne 7, 3) := by decide +kernel
theorem dX12_isMark_36 : decode cX12_isMark 36 = .ok (.iconst 1, 1) := by decide +kernel
theorem dX12_isMark_37 : decode cX12_isMark 37 = .ok (.goto 4, 3) := by decide +kernel
theorem dX12_isMark_40 : decode cX12_isMark 40 = .ok (.iconst 0, 1) := by decide +kernel
theorem dX12_isMark_41 : decode cX12_isMark 41 = .ok (.ireturn, 1) := by decide +kernel
theorem dX12_spelt_0 : decode cX12_spelt 0 = .ok (.ldc2_w 313, 3) := by decide +kernel
theorem dX12_spelt_3 : decode cX12_spelt 3 = .ok (.iload_n 0, 1) := by decide +kernel
theorem dX12_spelt_4 : decode cX12_spelt 4 = .ok (.i2l, 1) := by decide +kernel
theorem dX12_spelt_5 : decode cX12_spelt 5 = .ok (.ldc2_w 315, 3) := by decide +kernel
theorem dX12_spelt_8 : decode cX12_spelt 8 = .ok (.lsub, 1) := by decide +kernel
theorem dX12_spelt_9 : decode cX12_spelt 9 = .ok (.lmul, 1) := by decide +kernel
theorem dX12_spelt_10 : decode cX12_spelt 10 = .ok (.iload_n 1, 1) := by decide +kernel
theorem dX12_spelt_11 : decode cX12_spelt 11 = .ok (.i2l, 1) := by decide +kernel
theorem dX12_spelt_12 : decode cX12_spelt 12 = .ok (.ladd, 1) := by decide +kernel
theorem dX12_spelt_13 : decode cX12_spelt 13 = .ok (.ldc2_w 315, 3) := by decide +kernel
theorem dX12_spelt_16 : decode cX12_spelt 16 = .ok (.lsub, 1) := by decide +kernel
theorem dX12_spelt_17 : decode cX12_spelt 17 = .ok (.lstore 5, 2) := by decide +kernel
theorem dX12_spelt_19 : decode cX12_spelt 19 = .ok (.iload_n 2, 1) := by decide +kernel
theorem dX12_spelt_20 : decode cX12_spelt 20 = .ok (.ifCond .le 18, 3) := by decide +kernel
theorem dX12_spelt_23 : decode cX12_spelt 23 = .ok (.ldc2_w 313, 3) := by decide +kernel
theorem dX12_spelt_26 : decode cX12_spelt 26 = .ok (.lload 5, 2) := by decide +kernel
theorem dX12_spelt_28 : decode cX12_spelt 28 = .ok (.lmul, 1) := by decide +kernel
theorem dX12_spelt_29 : decode cX12_spelt 29 = .ok (.iload_n 2, 1) := by decide +kernel
theorem dX12_spelt_30 : decode cX12_spelt 30 = .ok (.i2l, 1) := by decide +kernel
theorem dX12_spelt_31 : decode cX12_spelt 31 = .ok (.ladd, 1) := by decide +kernel
theorem dX12_spelt_32 : decode cX12_spelt 32 = .ok (.ldc2_w 315, 3) := by decide +kernel
theorem dX12_spelt_35 : decode cX12_spelt 35 = .ok (.lsub, 1) := by decide +kernel
theorem dX12_spelt_36 : decode cX12_spelt 36 = .ok (.lstore 5, 2) := by decide +kernel
theorem dX12_spelt_38 : decode cX12_spelt 38 = .ok (.iload_n 3, 1) := by decide +kernel
theorem dX12_spelt_39 : decode cX12_spelt 39 = .ok (.ifCond .le 18, 3) := by decide +kernel
theorem dX12_spelt_42 : decode cX12_spelt 42 = .ok (.ldc2_w 313, 3) := by decide +kernel
theorem dX12_spelt_45 : decode cX12_spelt 45 = .ok (.lload 5, 2) := by decide +kernel
theorem dX12_spelt_47 : decode cX12_spelt 47 = .ok (.lmul, 1) := by decide +kernel
theorem dX12_spelt_48 : decode cX12_spelt 48 = .ok (.iload_n 3, 1) := by decide +kernel
theorem dX12_spelt_49 : decode cX12_spelt 49 = .ok (.i2l, 1) := by decide +kernel
theorem dX12_spelt_50 : decode cX12_spelt 50 = .ok (.ladd, 1) := by decide +kernel
theorem dX12_spelt_51 : decode cX12_spelt 51 = .ok (.ldc2_w 315, 3) := by decide +kernel
theorem dX12_spelt_54 : decode cX12_spelt 54 = .ok (.lsub, 1) := by decide +kernel
theorem dX12_spelt_55 : decode cX12_spelt 55 = .ok (.lstore 5, 2) := by decide +kernel
theorem dX12_spelt_57 : decode cX12_spelt 57 = .ok (.iload 4, 2) := by decide +kernel
theorem dX12_spelt_59 : decode cX12_spelt 59 = .ok (.ifCond .le 20, 3) := by decide +kernel
theorem dX12_spelt_62 : decode cX12_spelt 62 = .ok (.ldc2_w 313, 3) := by decide +kernel
theorem dX12_spelt_65 : decode cX12_spelt 65 = .ok (.lload 5, 2) := by decide +kernel
theorem dX12_spelt_67 : decode cX12_spelt 67 = .ok (.lmul, 1) := by decide +kernel
theorem dX12_spelt_68 : decode cX12_spelt 68 = .ok (.iload 4, 2) := by decide +kernel
theorem dX12_spelt_70 : decode cX12_spelt 70 = .ok (.i2l, 1) := by decide +kernel
theorem dX12_spelt_71 : decode cX12_spelt 71 = .ok (.ladd, 1) := by decide +kernel
theorem dX12_spelt_72 : decode cX12_spelt 72 = .ok (.ldc2_w 315, 3) := by decide +kernel
theorem dX12_spelt_75 : decode cX12_spelt 75 = .ok (.lsub, 1) := by decide +kernel
theorem dX12_spelt_76 : decode cX12_spelt 76 = .ok (.goto 5, 3) := by decide +kernel
theorem dX12_spelt_79 : decode cX12_spelt 79 = .ok (.lload 5, 2) := by decide +kernel
theorem dX12_spelt_81 : decode cX12_spelt 81 = .ok (.lreturn, 1) := by decide +kernel
theorem dX12_usual_0 : decode cX12_usual 0 = .ok (.iload_n 0, 1) := by decide +kernel
theorem dX12_usual_1 : decode cX12_usual 1 = .ok (.tableswitch 57 0 4 #[35, 37, 39, 50, 53], 35) := by decide +kernel
theorem dX12_usual_36 : decode cX12_usual 36 = .ok (.iconst 1, 1) := by decide +kernel
theorem dX12_usual_37 : decode cX12_usual 37 = .ok (.ireturn, 1) := by decide +kernel
theorem dX12_usual_38 : decode cX12_usual 38 = .ok (.iconst 0, 1) := by decide +kernel
theorem dX12_usual_39 : decode cX12_usual 39 = .ok (.ireturn, 1) := by decide +kernel
theorem dX12_usual_40 : decode cX12_usual 40 = .ok (.iload_n 1, 1) := by decide +kernel
theorem dX12_usual_41 : decode cX12_usual 41 = .ok (.ifCond .eq 8, 3) := by decide +kernel
theorem dX12_usual_44 : decode cX12_usual 44 = .ok (.bipush 10, 2) := by decide +kernel
theorem dX12_usual_46 : decode cX12_usual 46 = .ok (.goto 4, 3) := by decide +kernel
theorem dX12_usual_49 : decode cX12_usual 49 = .ok (.iconst 0, 1) := by decide +kernel
theorem dX12_usual_50 : decode cX12_usual 50 = .ok (.ireturn, 1) := by decide +kernel
theorem dX12_usual_51 : decode cX12_usual 51 = .ok (.bipush 15, 2) := by decide +kernel
theorem dX12_usual_53 : decode cX12_usual 53 = .ok (.ireturn, 1) := by decide +kernel
theorem dX12_usual_54 : decode cX12_usual 54 = .ok (.sipush 500, 3) := by decide +kernel
theorem dX12_usual_57 : decode cX12_usual 57 = .ok (.ireturn, 1) := by decide +kernel
theorem dX12_usual_58 : decode cX12_usual 58 = .ok (.bipush 20, 2) := by decide +kernel
theorem dX12_usual_60 : decode cX12_usual 60 = .ok (.ireturn, 1) := by decide +kernel
theorem iv_sw_0_5 (x : Int32) : x.toInt < 0 ∨ 4 < x.toInt ∨ x = 0 ∨ x = 1 ∨ x = 2 ∨ x = 3 ∨ x = 4 := by
  have e : ∀ n : Int32, x = n ↔ x.toInt = n.toInt := fun n => ⟨fun q => by rw [q], fun q => Int32.toInt_inj.mp q⟩
  simp only [e]
  have z : (0 : Int32).toInt = 0 ∧ (1 : Int32).toInt = 1 ∧ (2 : Int32).toInt = 2 ∧ (3 : Int32).toInt = 3 ∧ (4 : Int32).toInt = 4 := by decide
  omega
set_option maxHeartbeats 4000000 in
set_option maxRecDepth 100000 in
theorem m_isIn (l : Launch) (sz : Nat) (v : Int32) (a : Int32) (b : Int32) : Met l yX12_isIn (.code yX12_isIn cX12_isIn 3 (some .boolean) :: lw_good) ({ frames := 2, cells := 0, slots := 0, locals := 40 }) (va_Pc [.int v, .int a, .int b] (fun U => U.heap.size = sz)) (va_Qi (fun (r : Int32) (_ : Unit) => (0 ≤ r.toInt ∧ r.toInt ≤ 1) ∧ ((r = 0 ∧ (v.toInt < a.toInt ∨ b.toInt < v.toInt)) ∨ (r = 1 ∧ (a.toInt ≤ v.toInt) ∧ (v.toInt ≤ b.toInt))) ∧ True) (fun (_ : Unit) (_ : State) => True) (fun q => sz ≤ q)) 0 0 (fun q => sz ≤ q) := by
  refine Met.ofW (cc := cX12_isIn) (maxL := 3) (ret := (some .boolean)) (by decide) rfl ?_
  intro p e s m args below meth c s₁ B hml hv
  obtain ⟨rfl, hsz⟩ := hv
  have hx := B.exec
  have hb := B.bytes
  have hr := B.returns
  have hts := atoms_spec (ws := (.code yX12_isIn cX12_isIn 3 (some .boolean) :: lw_good)) B.pre
  have htg : ∀ w ∈ lw_good, w.before _ s = true := fun w hw => hts w (List.mem_cons_of_mem _ hw)
  have hown : s.vm.findClass RX12 = some m.cls := findClass_of_methodNamed B.named
  have hlocks := B.notSynchronized
  subst hsz
  have hS : va_S (fun q => s.heap.size ≤ q) s.heap s.heap [] := va_S.rf
  have hl := lv_entry ([.int v, .int a, .int b]) (n := 3) (Nat.le_of_ble_eq_true rfl)
  rw [lg_entry_eq]
  generalize (lg_sl ([.int v, .int a, .int b]) ++ List.replicate (3 - (lg_sl ([.int v, .int a, .int b])).length) Slot.unset).toArray = ls at hl ⊢
  have hl : lv_has ls 3 [(0, .int v), (1, .int a), (2, .int b)] := hl
  refine lv_iload_n hx hb dX12_isIn_0 rfl (lv_at hl 0 rfl) ?_
  refine lv_iload_n hx hb dX12_isIn_1 rfl (lv_at hl 1 rfl) ?_
  refine lv_icmp_lt (tgt := 14) hx hb dX12_isIn_2 (by decide) (fun c_1 => ?_) (fun c_1 => ?_)
  · skip
    have i_2 : (-2147483648) ≤ v.toInt ∧ v.toInt ≤ 2147483646 := iv_lt1 (iv_any v) (iv_any a) c_1
    have i_3 : (-2147483647) ≤ a.toInt ∧ a.toInt ≤ 2147483647 := iv_lt2 (iv_any v) (iv_any a) c_1
    have k_4 := Int32.lt_iff_toInt_lt.mp c_1
    refine lv_iconst (v := 0) hx hb dX12_isIn_14 (by decide) ?_
    exact W.zret (v := 0) hx hb hr (by decide) (fun t ht hW => ⟨⟨0, (), rfl, ⟨(iv_w (⟨by decide, by decide⟩ : (0 : Int) ≤ (0 : Int32).toInt ∧ (0 : Int32).toInt ≤ 0) (by decide) (by decide)), (Or.inl ⟨rfl, by omega⟩), trivial⟩, trivial⟩, hS.F ht⟩) hS.2.2 dX12_isIn_15
  · skip
    have k_5 := Int32.le_iff_toInt_le.mp (Int32.not_lt.mp c_1)
    refine lv_iload_n hx hb dX12_isIn_5 rfl (lv_at hl 0 rfl) ?_
    refine lv_iload_n hx hb dX12_isIn_6 rfl (lv_at hl 2 rfl) ?_
    refine lv_icmp_gt (tgt := 14) hx hb dX12_isIn_7 (by decide) (fun c_6 => ?_) (fun c_6 => ?_)
    · skip
      have i_7 : (-2147483648) ≤ b.toInt ∧ b.toInt ≤ 2147483646 := iv_lt1 (iv_any b) (iv_any v) c_6
      have i_8 : (-2147483647) ≤ v.toInt ∧ v.toInt ≤ 2147483647 := iv_lt2 (iv_any b) (iv_any v) c_6
      have k_9 := Int32.lt_iff_toInt_lt.mp c_6
      refine lv_iconst (v := 0) hx hb dX12_isIn_14 (by decide) ?_
      exact W.zret (v := 0) hx hb hr (by decide) (fun t ht hW => ⟨⟨0, (), rfl, ⟨(iv_w (⟨by decide, by decide⟩ : (0 : Int) ≤ (0 : Int32).toInt ∧ (0 : Int32).toInt ≤ 0) (by decide) (by decide)), (Or.inl ⟨rfl, by omega⟩), trivial⟩, trivial⟩, hS.F ht⟩) hS.2.2 dX12_isIn_15
    · skip
      have k_10 := Int32.le_iff_toInt_le.mp (Int32.not_lt.mp c_6)
      refine lv_iconst (v := 1) hx hb dX12_isIn_10 (by decide) ?_
      refine lv_goto (tgt := 15) hx hb dX12_isIn_11 (by decide) ?_
      exact W.zret (v := 1) hx hb hr (by decide) (fun t ht hW => ⟨⟨1, (), rfl, ⟨(iv_w (⟨by decide, by decide⟩ : (1 : Int) ≤ (1 : Int32).toInt ∧ (1 : Int32).toInt ≤ 1) (by decide) (by decide)), (Or.inr (⟨rfl, by omega⟩)), trivial⟩, trivial⟩, hS.F ht⟩) hS.2.2 dX12_isIn_15
set_option maxHeartbeats 4000000 in
set_option maxRecDepth 100000 in
theorem m_isDay (l : Launch) (sz : Nat) (d : Int32) : Met l yX12_isDay (.code yX12_isDay cX12_isDay 1 (some .boolean) :: lw_good) ({ frames := 2, cells := 0, slots := 0, locals := 40 }) (va_Pc [.int d] (fun U => U.heap.size = sz)) (va_Qi (fun (r : Int32) (_ : Unit) => (0 ≤ r.toInt ∧ r.toInt ≤ 1) ∧ ((r = 0 ∧ (d.toInt < 0 ∨ 199 < d.toInt)) ∨ (r = 1 ∧ (0 ≤ d.toInt) ∧ (d.toInt ≤ 199))) ∧ True) (fun (_ : Unit) (_ : State) => True) (fun q => sz ≤ q)) 0 0 (fun q => sz ≤ q) := by
  refine Met.ofW (cc := cX12_isDay) (maxL := 1) (ret := (some .boolean)) (by decide) rfl ?_
  intro p e s m args below meth c s₁ B hml hv
  obtain ⟨rfl, hsz⟩ := hv
  have hx := B.exec
  have hb := B.bytes
  have hr := B.returns
  have hts := atoms_spec (ws := (.code yX12_isDay cX12_isDay 1 (some .boolean) :: lw_good)) B.pre
  have htg : ∀ w ∈ lw_good, w.before _ s = true := fun w hw => hts w (List.mem_cons_of_mem _ hw)
  have hown : s.vm.findClass RX12 = some m.cls := findClass_of_methodNamed B.named
  have hlocks := B.notSynchronized
  subst hsz
  have hS : va_S (fun q => s.heap.size ≤ q) s.heap s.heap [] := va_S.rf
  have hl := lv_entry ([.int d]) (n := 1) (Nat.le_of_ble_eq_true rfl)
  rw [lg_entry_eq]
  generalize (lg_sl ([.int d]) ++ List.replicate (1 - (lg_sl ([.int d])).length) Slot.unset).toArray = ls at hl ⊢
  have hl : lv_has ls 1 [(0, .int d)] := hl
  refine lv_iload_n hx hb dX12_isDay_0 rfl (lv_at hl 0 rfl) ?_
  refine lv_if_lt (tgt := 15) hx hb dX12_isDay_1 (by decide) (fun c_1 => ?_) (fun c_1 => ?_)
  · skip
    have i_2 : (-2147483648) ≤ d.toInt ∧ d.toInt ≤ (-1) := iv_lt1 (iv_any d) (⟨by decide, by decide⟩ : (0 : Int) ≤ (0 : Int32).toInt ∧ (0 : Int32).toInt ≤ 0) c_1
    refine lv_iconst (v := 0) hx hb dX12_isDay_15 (by decide) ?_
    exact W.zret (v := 0) hx hb hr (by decide) (fun t ht hW => ⟨⟨0, (), rfl, ⟨(iv_w (⟨by decide, by decide⟩ : (0 : Int) ≤ (0 : Int32).toInt ∧ (0 : Int32).toInt ≤ 0) (by decide) (by decide)), (Or.inl ⟨rfl, by omega⟩), trivial⟩, trivial⟩, hS.F ht⟩) hS.2.2 dX12_isDay_16
  · skip
    have i_3 : 0 ≤ d.toInt ∧ d.toInt ≤ 2147483647 := iv_le2 (⟨by decide, by decide⟩ : (0 : Int) ≤ (0 : Int32).toInt ∧ (0 : Int32).toInt ≤ 0) (iv_any d) (Int32.not_lt.mp c_1)
    refine lv_iload_n hx hb dX12_isDay_4 rfl (lv_at hl 0 rfl) ?_
    refine lv_sipush (v := 200) hx hb dX12_isDay_5 (by decide) ?_
    refine lv_icmp_ge (tgt := 15) hx hb dX12_isDay_8 (by decide) (fun c_4 => ?_) (fun c_4 => ?_)
    · skip
      have i_5 : 200 ≤ d.toInt ∧ d.toInt ≤ 2147483647 := iv_le2 (⟨by decide, by decide⟩ : (200 : Int) ≤ (200 : Int32).toInt ∧ (200 : Int32).toInt ≤ 200) i_3 c_4
      refine lv_iconst (v := 0) hx hb dX12_isDay_15 (by decide) ?_
      exact W.zret (v := 0) hx hb hr (by decide) (fun t ht hW => ⟨⟨0, (), rfl, ⟨(iv_w (⟨by decide, by decide⟩ : (0 : Int) ≤ (0 : Int32).toInt ∧ (0 : Int32).toInt ≤ 0) (by decide) (by decide)), (Or.inl ⟨rfl, by omega⟩), trivial⟩, trivial⟩, hS.F ht⟩) hS.2.2 dX12_isDay_16
    · skip
      have i_6 : 0 ≤ d.toInt ∧ d.toInt ≤ 199 := iv_lt1 i_3 (⟨by decide, by decide⟩ : (200 : Int) ≤ (200 : Int32).toInt ∧ (200 : Int32).toInt ≤ 200) (Int32.not_le.mp c_4)
      refine lv_iconst (v := 1) hx hb dX12_isDay_11 (by decide) ?_
      refine lv_goto (tgt := 16) hx hb dX12_isDay_12 (by decide) ?_
      exact W.zret (v := 1) hx hb hr (by decide) (fun t ht hW => ⟨⟨1, (), rfl, ⟨(iv_w (⟨by decide, by decide⟩ : (1 : Int) ≤ (1 : Int32).toInt ∧ (1 : Int32).toInt ≤ 1) (by decide) (by decide)), (Or.inr (⟨rfl, by omega⟩)), trivial⟩, trivial⟩, hS.F ht⟩) hS.2.2 dX12_isDay_16
set_option maxHeartbeats 4000000 in
set_option maxRecDepth 100000 in
theorem m_isCorner (l : Launch) (sz : Nat) (v : Int32) : Met l yX12_isCorner (.code yX12_isCorner cX12_isCorner 1 (some .boolean) :: lw_good) ({ frames := 2, cells := 0, slots := 0, locals := 40 }) (va_Pc [.int v] (fun U => U.heap.size = sz)) (va_Qi (fun (r : Int32) (_ : Unit) => (0 ≤ r.toInt ∧ r.toInt ≤ 1) ∧ ((r = 0 ∧ (v.toInt < 0 ∨ 11 < v.toInt)) ∨ (r = 1 ∧ (0 ≤ v.toInt) ∧ (v.toInt ≤ 11))) ∧ True) (fun (_ : Unit) (_ : State) => True) (fun q => sz ≤ q)) 0 0 (fun q => sz ≤ q) := by
  refine Met.ofW (cc := cX12_isCorner) (maxL := 1) (ret := (some .boolean)) (by decide) rfl ?_
  intro p e s m args below meth c s₁ B hml hv
  obtain ⟨rfl, hsz⟩ := hv
  have hx := B.exec
  have hb := B.bytes
  have hr := B.returns
  have hts := atoms_spec (ws := (.code yX12_isCorner cX12_isCorner 1 (some .boolean) :: lw_good)) B.pre
  have htg : ∀ w ∈ lw_good, w.before _ s = true := fun w hw => hts w (List.mem_cons_of_mem _ hw)
  have hown : s.vm.findClass RX12 = some m.cls := findClass_of_methodNamed B.named
  have hlocks := B.notSynchronized
  subst hsz
  have hS : va_S (fun q => s.heap.size ≤ q) s.heap s.heap [] := va_S.rf
  have hl := lv_entry ([.int v]) (n := 1) (Nat.le_of_ble_eq_true rfl)
  rw [lg_entry_eq]
  generalize (lg_sl ([.int v]) ++ List.replicate (1 - (lg_sl ([.int v])).length) Slot.unset).toArray = ls at hl ⊢
  have hl : lv_has ls 1 [(0, .int v)] := hl
  refine lv_iload_n hx hb dX12_isCorner_0 rfl (lv_at hl 0 rfl) ?_
  refine lv_if_lt (tgt := 14) hx hb dX12_isCorner_1 (by decide) (fun c_1 => ?_) (fun c_1 => ?_)
  · skip
    have i_2 : (-2147483648) ≤ v.toInt ∧ v.toInt ≤ (-1) := iv_lt1 (iv_any v) (⟨by decide, by decide⟩ : (0 : Int) ≤ (0 : Int32).toInt ∧ (0 : Int32).toInt ≤ 0) c_1
    refine lv_iconst (v := 0) hx hb dX12_isCorner_14 (by decide) ?_
    exact W.zret (v := 0) hx hb hr (by decide) (fun t ht hW => ⟨⟨0, (), rfl, ⟨(iv_w (⟨by decide, by decide⟩ : (0 : Int) ≤ (0 : Int32).toInt ∧ (0 : Int32).toInt ≤ 0) (by decide) (by decide)), (Or.inl ⟨rfl, by omega⟩), trivial⟩, trivial⟩, hS.F ht⟩) hS.2.2 dX12_isCorner_15
  · skip
    have i_3 : 0 ≤ v.toInt ∧ v.toInt ≤ 2147483647 := iv_le2 (⟨by decide, by decide⟩ : (0 : Int) ≤ (0 : Int32).toInt ∧ (0 : Int32).toInt ≤ 0) (iv_any v) (Int32.not_lt.mp c_1)
    refine lv_iload_n hx hb dX12_isCorner_4 rfl (lv_at hl 0 rfl) ?_
    refine lv_bipush (v := 12) hx hb dX12_isCorner_5 (by decide) ?_
    refine lv_icmp_ge (tgt := 14) hx hb dX12_isCorner_7 (by decide) (fun c_4 => ?_) (fun c_4 => ?_)
    · skip
      have i_5 : 12 ≤ v.toInt ∧ v.toInt ≤ 2147483647 := iv_le2 (⟨by decide, by decide⟩ : (12 : Int) ≤ (12 : Int32).toInt ∧ (12 : Int32).toInt ≤ 12) i_3 c_4
      refine lv_iconst (v := 0) hx hb dX12_isCorner_14 (by decide) ?_
      exact W.zret (v := 0) hx hb hr (by decide) (fun t ht hW => ⟨⟨0, (), rfl, ⟨(iv_w (⟨by decide, by decide⟩ : (0 : Int) ≤ (0 : Int32).toInt ∧ (0 : Int32).toInt ≤ 0) (by decide) (by decide)), (Or.inl ⟨rfl, by omega⟩), trivial⟩, trivial⟩, hS.F ht⟩) hS.2.2 dX12_isCorner_15
    · skip
      have i_6 : 0 ≤ v.toInt ∧ v.toInt ≤ 11 := iv_lt1 i_3 (⟨by decide, by decide⟩ : (12 : Int) ≤ (12 : Int32).toInt ∧ (12 : Int32).toInt ≤ 12) (Int32.not_le.mp c_4)
      refine lv_iconst (v := 1) hx hb dX12_isCorner_10 (by decide) ?_
      refine lv_goto (tgt := 15) hx hb dX12_isCorner_11 (by decide) ?_
      exact W.zret (v := 1) hx hb hr (by decide) (fun t ht hW => ⟨⟨1, (), rfl, ⟨(iv_w (⟨by decide, by decide⟩ : (1 : Int) ≤ (1 : Int32).toInt ∧ (1 : Int32).toInt ≤ 1) (by decide) (by decide)), (Or.inr (⟨rfl, by omega⟩)), trivial⟩, trivial⟩, hS.F ht⟩) hS.2.2 dX12_isCorner_15
set_option maxHeartbeats 4000000 in
set_option maxRecDepth 100000 in
theorem m_isDigit (l : Launch) (sz : Nat) (v : Int32) : Met l yX12_isDigit (.code yX12_isDigit cX12_isDigit 1 (some .boolean) :: lw_good) ({ frames := 2, cells := 0, slots := 0, locals := 40 }) (va_Pc [.int v] (fun U => U.heap.size = sz)) (va_Qi (fun (r : Int32) (_ : Unit) => (0 ≤ r.toInt ∧ r.toInt ≤ 1) ∧ ((r = 0 ∧ True) ∨ (r = 1 ∧ (48 ≤ v.toInt) ∧ (v.toInt ≤ 57))) ∧ True) (fun (_ : Unit) (_ : State) => True) (fun q => sz ≤ q)) 0 0 (fun q => sz ≤ q) := by
  refine Met.ofW (cc := cX12_isDigit) (maxL := 1) (ret := (some .boolean)) (by decide) rfl ?_
  intro p e s m args below meth c s₁ B hml hv
  obtain ⟨rfl, hsz⟩ := hv
  have hx := B.exec
  have hb := B.bytes
  have hr := B.returns
  have hts := atoms_spec (ws := (.code yX12_isDigit cX12_isDigit 1 (some .boolean) :: lw_good)) B.pre
  have htg : ∀ w ∈ lw_good, w.before _ s = true := fun w hw => hts w (List.mem_cons_of_mem _ hw)
  have hown : s.vm.findClass RX12 = some m.cls := findClass_of_methodNamed B.named
  have hlocks := B.notSynchronized
  subst hsz
  have hS : va_S (fun q => s.heap.size ≤ q) s.heap s.heap [] := va_S.rf
  have hl := lv_entry ([.int v]) (n := 1) (Nat.le_of_ble_eq_true rfl)
  rw [lg_entry_eq]
  generalize (lg_sl ([.int v]) ++ List.replicate (1 - (lg_sl ([.int v])).length) Slot.unset).toArray = ls at hl ⊢
  have hl : lv_has ls 1 [(0, .int v)] := hl
  refine lv_iload_n hx hb dX12_isDigit_0 rfl (lv_at hl 0 rfl) ?_
  refine lv_bipush (v := 48) hx hb dX12_isDigit_1 (by decide) ?_
  refine lv_icmp_lt (tgt := 16) hx hb dX12_isDigit_3 (by decide) (fun c_1 => ?_) (fun c_1 => ?_)
  · skip
    have i_2 : (-2147483648) ≤ v.toInt ∧ v.toInt ≤ 47 := iv_lt1 (iv_any v) (⟨by decide, by decide⟩ : (48 : Int) ≤ (48 : Int32).toInt ∧ (48 : Int32).toInt ≤ 48) c_1
    refine lv_iconst (v := 0) hx hb dX12_isDigit_16 (by decide) ?_
    exact W.zret (v := 0) hx hb hr (by decide) (fun t ht hW => ⟨⟨0, (), rfl, ⟨(iv_w (⟨by decide, by decide⟩ : (0 : Int) ≤ (0 : Int32).toInt ∧ (0 : Int32).toInt ≤ 0) (by decide) (by decide)), (Or.inl ⟨rfl, trivial⟩), trivial⟩, trivial⟩, hS.F ht⟩) hS.2.2 dX12_isDigit_17
  · skip
    have i_3 : 48 ≤ v.toInt ∧ v.toInt ≤ 2147483647 := iv_le2 (⟨by decide, by decide⟩ : (48 : Int) ≤ (48 : Int32).toInt ∧ (48 : Int32).toInt ≤ 48) (iv_any v) (Int32.not_lt.mp c_1)
    refine lv_iload_n hx hb dX12_isDigit_6 rfl (lv_at hl 0 rfl) ?_
    refine lv_bipush (v := 57) hx hb dX12_isDigit_7 (by decide) ?_
    refine lv_icmp_gt (tgt := 16) hx hb dX12_isDigit_9 (by decide) (fun c_4 => ?_) (fun c_4 => ?_)
    · skip
      have i_5 : 58 ≤ v.toInt ∧ v.toInt ≤ 2147483647 := iv_lt2 (⟨by decide, by decide⟩ : (57 : Int) ≤ (57 : Int32).toInt ∧ (57 : Int32).toInt ≤ 57) i_3 c_4
      refine lv_iconst (v := 0) hx hb dX12_isDigit_16 (by decide) ?_
      exact W.zret (v := 0) hx hb hr (by decide) (fun t ht hW => ⟨⟨0, (), rfl, ⟨(iv_w (⟨by decide, by decide⟩ : (0 : Int) ≤ (0 : Int32).toInt ∧ (0 : Int32).toInt ≤ 0) (by decide) (by decide)), (Or.inl ⟨rfl, trivial⟩), trivial⟩, trivial⟩, hS.F ht⟩) hS.2.2 dX12_isDigit_17
    · skip
      have i_6 : 48 ≤ v.toInt ∧ v.toInt ≤ 57 := iv_le1 i_3 (⟨by decide, by decide⟩ : (57 : Int) ≤ (57 : Int32).toInt ∧ (57 : Int32).toInt ≤ 57) (Int32.not_lt.mp c_4)
      refine lv_iconst (v := 1) hx hb dX12_isDigit_12 (by decide) ?_
      refine lv_goto (tgt := 17) hx hb dX12_isDigit_13 (by decide) ?_
      exact W.zret (v := 1) hx hb hr (by decide) (fun t ht hW => ⟨⟨1, (), rfl, ⟨(iv_w (⟨by decide, by decide⟩ : (1 : Int) ≤ (1 : Int32).toInt ∧ (1 : Int32).toInt ≤ 1) (by decide) (by decide)), (Or.inr (⟨rfl, by omega⟩)), trivial⟩, trivial⟩, hS.F ht⟩) hS.2.2 dX12_isDigit_17
set_option maxHeartbeats 4000000 in
set_option maxRecDepth 100000 in
theorem m_isLetter (l : Launch) (sz : Nat) (v : Int32) : Met l yX12_isLetter (.code yX12_isLetter cX12_isLetter 1 (some .boolean) :: lw_good) ({ frames := 2, cells := 0, slots := 0, locals := 40 }) (va_Pc [.int v] (fun U => U.heap.size = sz)) (va_Qi (fun (r : Int32) (_ : Unit) => (0 ≤ r.toInt ∧ r.toInt ≤ 1) ∧ ((r = 0 ∧ True) ∨ (r = 1 ∧ (97 ≤ v.toInt) ∧ (v.toInt ≤ 122))) ∧ True) (fun (_ : Unit) (_ : State) => True) (fun q => sz ≤ q)) 0 0 (fun q => sz ≤ q) := by
  refine Met.ofW (cc := cX12_isLetter) (maxL := 1) (ret := (some .boolean)) (by decide) rfl ?_
  intro p e s m args below meth c s₁ B hml hv
  obtain ⟨rfl, hsz⟩ := hv
  have hx := B.exec
  have hb := B.bytes
  have hr := B.returns
  have hts := atoms_spec (ws := (.code yX12_isLetter cX12_isLetter 1 (some .boolean) :: lw_good)) B.pre
  have htg : ∀ w ∈ lw_good, w.before _ s = true := fun w hw => hts w (List.mem_cons_of_mem _ hw)
  have hown : s.vm.findClass RX12 = some m.cls := findClass_of_methodNamed B.named
  have hlocks := B.notSynchronized
  subst hsz
  have hS : va_S (fun q => s.heap.size ≤ q) s.heap s.heap [] := va_S.rf
  have hl := lv_entry ([.int v]) (n := 1) (Nat.le_of_ble_eq_true rfl)
  rw [lg_entry_eq]
  generalize (lg_sl ([.int v]) ++ List.replicate (1 - (lg_sl ([.int v])).length) Slot.unset).toArray = ls at hl ⊢
  have hl : lv_has ls 1 [(0, .int v)] := hl
  refine lv_iload_n hx hb dX12_isLetter_0 rfl (lv_at hl 0 rfl) ?_
  refine lv_bipush (v := 97) hx hb dX12_isLetter_1 (by decide) ?_
  refine lv_icmp_lt (tgt := 16) hx hb dX12_isLetter_3 (by decide) (fun c_1 => ?_) (fun c_1 => ?_)
  · skip
    have i_2 : (-2147483648) ≤ v.toInt ∧ v.toInt ≤ 96 := iv_lt1 (iv_any v) (⟨by decide, by decide⟩ : (97 : Int) ≤ (97 : Int32).toInt ∧ (97 : Int32).toInt ≤ 97) c_1
    refine lv_iconst (v := 0) hx hb dX12_isLetter_16 (by decide) ?_
    exact W.zret (v := 0) hx hb hr (by decide) (fun t ht hW => ⟨⟨0, (), rfl, ⟨(iv_w (⟨by decide, by decide⟩ : (0 : Int) ≤ (0 : Int32).toInt ∧ (0 : Int32).toInt ≤ 0) (by decide) (by decide)), (Or.inl ⟨rfl, trivial⟩), trivial⟩, trivial⟩, hS.F ht⟩) hS.2.2 dX12_isLetter_17
  · skip
    have i_3 : 97 ≤ v.toInt ∧ v.toInt ≤ 2147483647 := iv_le2 (⟨by decide, by decide⟩ : (97 : Int) ≤ (97 : Int32).toInt ∧ (97 : Int32).toInt ≤ 97) (iv_any v) (Int32.not_lt.mp c_1)
    refine lv_iload_n hx hb dX12_isLetter_6 rfl (lv_at hl 0 rfl) ?_
    refine lv_bipush (v := 122) hx hb dX12_isLetter_7 (by decide) ?_
    refine lv_icmp_gt (tgt := 16) hx hb dX12_isLetter_9 (by decide) (fun c_4 => ?_) (fun c_4 => ?_)
    · skip
      have i_5 : 123 ≤ v.toInt ∧ v.toInt ≤ 2147483647 := iv_lt2 (⟨by decide, by decide⟩ : (122 : Int) ≤ (122 : Int32).toInt ∧ (122 : Int32).toInt ≤ 122) i_3 c_4
      refine lv_iconst (v := 0) hx hb dX12_isLetter_16 (by decide) ?_
      exact W.zret (v := 0) hx hb hr (by decide) (fun t ht hW => ⟨⟨0, (), rfl, ⟨(iv_w (⟨by decide, by decide⟩ : (0 : Int) ≤ (0 : Int32).toInt ∧ (0 : Int32).toInt ≤ 0) (by decide) (by decide)), (Or.inl ⟨rfl, trivial⟩), trivial⟩, trivial⟩, hS.F ht⟩) hS.2.2 dX12_isLetter_17
    · skip
      have i_6 : 97 ≤ v.toInt ∧ v.toInt ≤ 122 := iv_le1 i_3 (⟨by decide, by decide⟩ : (122 : Int) ≤ (122 : Int32).toInt ∧ (122 : Int32).toInt ≤ 122) (Int32.not_lt.mp c_4)
      refine lv_iconst (v := 1) hx hb dX12_isLetter_12 (by decide) ?_
      refine lv_goto (tgt := 17) hx hb dX12_isLetter_13 (by decide) ?_
      exact W.zret (v := 1) hx hb hr (by decide) (fun t ht hW => ⟨⟨1, (), rfl, ⟨(iv_w (⟨by decide, by decide⟩ : (1 : Int) ≤ (1 : Int32).toInt ∧ (1 : Int32).toInt ≤ 1) (by decide) (by decide)), (Or.inr (⟨rfl, by omega⟩)), trivial⟩, trivial⟩, hS.F ht⟩) hS.2.2 dX12_isLetter_17
set_option maxHeartbeats 4000000 in
set_option maxRecDepth 100000 in
theorem m_isMark (l : Launch) (sz : Nat) (v : Int32) : Met l yX12_isMark (.code yX12_isMark cX12_isMark 1 (some .boolean) :: lw_good) ({ frames := 2, cells := 0, slots := 0, locals := 40 }) (va_Pc [.int v] (fun U => U.heap.size = sz)) (va_Qi (fun (r : Int32) (_ : Unit) => (0 ≤ r.toInt ∧ r.toInt ≤ 1) ∧ True) (fun (_ : Unit) (_ : State) => True) (fun q => sz ≤ q)) 0 0 (fun q => sz ≤ q) := by
  refine Met.ofW (cc := cX12_isMark) (maxL := 1) (ret := (some .boolean)) (by decide) rfl ?_
  intro p e s m args below meth c s₁ B hml hv
  obtain ⟨rfl, hsz⟩ := hv
  have hx := B.exec
  have hb := B.bytes
  have hr := B.returns
  have hts := atoms_spec (ws := (.code yX12_isMark cX12_isMark 1 (some .boolean) :: lw_good)) B.pre
  have htg : ∀ w ∈ lw_good, w.before _ s = true := fun w hw => hts w (List.mem_cons_of_mem _ hw)
  have hown : s.vm.findClass RX12 = some m.cls := findClass_of_methodNamed B.named
  have hlocks := B.notSynchronized
  subst hsz
  have hS : va_S (fun q => s.heap.size ≤ q) s.heap s.heap [] := va_S.rf
  have hl := lv_entry ([.int v]) (n := 1) (Nat.le_of_ble_eq_true rfl)
  rw [lg_entry_eq]
  generalize (lg_sl ([.int v]) ++ List.replicate (1 - (lg_sl ([.int v])).length) Slot.unset).toArray = ls at hl ⊢
  have hl : lv_has ls 1 [(0, .int v)] := hl
  refine lv_iload_n hx hb dX12_isMark_0 rfl (lv_at hl 0 rfl) ?_
  refine lv_bipush (v := 59) hx hb dX12_isMark_1 (by decide) ?_
  refine lv_icmp_eq (tgt := 36) hx hb dX12_isMark_3 (by decide) (fun c_1 => ?_) (fun c_1 => ?_)
  · skip
    have i_2 : 59 ≤ v.toInt ∧ v.toInt ≤ 59 := iv_eq1 (⟨by decide, by decide⟩ : (59 : Int) ≤ (59 : Int32).toInt ∧ (59 : Int32).toInt ≤ 59) c_1
    refine lv_iconst (v := 1) hx hb dX12_isMark_36 (by decide) ?_
    refine lv_goto (tgt := 41) hx hb dX12_isMark_37 (by decide) ?_
    exact W.zret (v := 1) hx hb hr (by decide) (fun t ht hW => ⟨⟨1, (), rfl, ⟨(iv_w (⟨by decide, by decide⟩ : (1 : Int) ≤ (1 : Int32).toInt ∧ (1 : Int32).toInt ≤ 1) (by decide) (by decide)), trivial⟩, trivial⟩, hS.F ht⟩) hS.2.2 dX12_isMark_41
  · skip
    refine lv_iload_n hx hb dX12_isMark_6 rfl (lv_at hl 0 rfl) ?_
    refine lv_bipush (v := 40) hx hb dX12_isMark_7 (by decide) ?_
    refine lv_icmp_eq (tgt := 36) hx hb dX12_isMark_9 (by decide) (fun c_3 => ?_) (fun c_3 => ?_)
    · skip
      have i_4 : 40 ≤ v.toInt ∧ v.toInt ≤ 40 := iv_eq1 (⟨by decide, by decide⟩ : (40 : Int) ≤ (40 : Int32).toInt ∧ (40 : Int32).toInt ≤ 40) c_3
      refine lv_iconst (v := 1) hx hb dX12_isMark_36 (by decide) ?_
      refine lv_goto (tgt := 41) hx hb dX12_isMark_37 (by decide) ?_
      exact W.zret (v := 1) hx hb hr (by decide) (fun t ht hW => ⟨⟨1, (), rfl, ⟨(iv_w (⟨by decide, by decide⟩ : (1 : Int) ≤ (1 : Int32).toInt ∧ (1 : Int32).toInt ≤ 1) (by decide) (by decide)), trivial⟩, trivial⟩, hS.F ht⟩) hS.2.2 dX12_isMark_41
    · skip
      refine lv_iload_n hx hb dX12_isMark_12 rfl (lv_at hl 0 rfl) ?_
      refine lv_bipush (v := 41) hx hb dX12_isMark_13 (by decide) ?_
      refine lv_icmp_eq (tgt := 36) hx hb dX12_isMark_15 (by decide) (fun c_5 => ?_) (fun c_5 => ?_)
      · skip
        have i_6 : 41 ≤ v.toInt ∧ v.toInt ≤ 41 := iv_eq1 (⟨by decide, by decide⟩ : (41 : Int) ≤ (41 : Int32).toInt ∧ (41 : Int32).toInt ≤ 41) c_5
        refine lv_iconst (v := 1) hx hb dX12_isMark_36 (by decide) ?_
        refine lv_goto (tgt := 41) hx hb dX12_isMark_37 (by decide) ?_
        exact W.zret (v := 1) hx hb hr (by decide) (fun t ht hW => ⟨⟨1, (), rfl, ⟨(iv_w (⟨by decide, by decide⟩ : (1 : Int) ≤ (1 : Int32).toInt ∧ (1 : Int32).toInt ≤ 1) (by decide) (by decide)), trivial⟩, trivial⟩, hS.F ht⟩) hS.2.2 dX12_isMark_41
      · skip
        refine lv_iload_n hx hb dX12_isMark_18 rfl (lv_at hl 0 rfl) ?_
        refine lv_bipush (v := 60) hx hb dX12_isMark_19 (by decide) ?_
        refine lv_icmp_eq (tgt := 36) hx hb dX12_isMark_21 (by decide) (fun c_7 => ?_) (fun c_7 => ?_)
        · skip
          have i_8 : 60 ≤ v.toInt ∧ v.toInt ≤ 60 := iv_eq1 (⟨by decide, by decide⟩ : (60 : Int) ≤ (60 : Int32).toInt ∧ (60 : Int32).toInt ≤ 60) c_7
          refine lv_iconst (v := 1) hx hb dX12_isMark_36 (by decide) ?_
          refine lv_goto (tgt := 41) hx hb dX12_isMark_37 (by decide) ?_
          exact W.zret (v := 1) hx hb hr (by decide) (fun t ht hW => ⟨⟨1, (), rfl, ⟨(iv_w (⟨by decide, by decide⟩ : (1 : Int) ≤ (1 : Int32).toInt ∧ (1 : Int32).toInt ≤ 1) (by decide) (by decide)), trivial⟩, trivial⟩, hS.F ht⟩) hS.2.2 dX12_isMark_41
        · skip
          refine lv_iload_n hx hb dX12_isMark_24 rfl (lv_at hl 0 rfl) ?_
          refine lv_bipush (v := 61) hx hb dX12_isMark_25 (by decide) ?_
          refine lv_icmp_eq (tgt := 36) hx hb dX12_isMark_27 (by decide) (fun c_9 => ?_) (fun c_9 => ?_)
          · skip
            have i_10 : 61 ≤ v.toInt ∧ v.toInt ≤ 61 := iv_eq1 (⟨by decide, by decide⟩ : (61 : Int) ≤ (61 : Int32).toInt ∧ (61 : Int32).toInt ≤ 61) c_9
            refine lv_iconst (v := 1) hx hb dX12_isMark_36 (by decide) ?_
            refine lv_goto (tgt := 41) hx hb dX12_isMark_37 (by decide) ?_
            exact W.zret (v := 1) hx hb hr (by decide) (fun t ht hW => ⟨⟨1, (), rfl, ⟨(iv_w (⟨by decide, by decide⟩ : (1 : Int) ≤ (1 : Int32).toInt ∧ (1 : Int32).toInt ≤ 1) (by decide) (by decide)), trivial⟩, trivial⟩, hS.F ht⟩) hS.2.2 dX12_isMark_41
          · skip
            refine lv_iload_n hx hb dX12_isMark_30 rfl (lv_at hl 0 rfl) ?_
            refine lv_bipush (v := 62) hx hb dX12_isMark_31 (by decide) ?_
            refine lv_icmp_ne (tgt := 40) hx hb dX12_isMark_33 (by decide) (fun c_11 => ?_) (fun c_11 => ?_)
            · skip
              refine lv_iconst (v := 0) hx hb dX12_isMark_40 (by decide) ?_
              exact W.zret (v := 0) hx hb hr (by decide) (fun t ht hW => ⟨⟨0, (), rfl, ⟨(iv_w (⟨by decide, by decide⟩ : (0 : Int) ≤ (0 : Int32).toInt ∧ (0 : Int32).toInt ≤ 0) (by decide) (by decide)), trivial⟩, trivial⟩, hS.F ht⟩) hS.2.2 dX12_isMark_41
            · skip
              have i_12 : 62 ≤ v.toInt ∧ v.toInt ≤ 62 := iv_eq1 (⟨by decide, by decide⟩ : (62 : Int) ≤ (62 : Int32).toInt ∧ (62 : Int32).toInt ≤ 62) c_11
              refine lv_iconst (v := 1) hx hb dX12_isMark_36 (by decide) ?_
              refine lv_goto (tgt := 41) hx hb dX12_isMark_37 (by decide) ?_
              exact W.zret (v := 1) hx hb hr (by decide) (fun t ht hW => ⟨⟨1, (), rfl, ⟨(iv_w (⟨by decide, by decide⟩ : (1 : Int) ≤ (1 : Int32).toInt ∧ (1 : Int32).toInt ≤ 1) (by decide) (by decide)), trivial⟩, trivial⟩, hS.F ht⟩) hS.2.2 dX12_isMark_41
set_option maxHeartbeats 4000000 in
set_option maxRecDepth 100000 in
theorem m_cut (l : Launch) (sz : Nat) (v : Int32) : Met l yX12_cut (.code yX12_cut cX12_cut 1 (some .int) :: lw_good) ({ frames := 2, cells := 0, slots := 0, locals := 40 }) (va_Pc [.int v] (fun U => U.heap.size = sz)) (va_Qi (fun (r : Int32) (_ : Unit) => True) (fun (_ : Unit) (_ : State) => True) (fun q => sz ≤ q)) 0 0 (fun q => sz ≤ q) := by
  refine Met.ofW (cc := cX12_cut) (maxL := 1) (ret := (some .int)) (by decide) rfl ?_
  intro p e s m args below meth c s₁ B hml hv
  obtain ⟨rfl, hsz⟩ := hv
  have hx := B.exec
  have hb := B.bytes
  have hr := B.returns
  have hts := atoms_spec (ws := (.code yX12_cut cX12_cut 1 (some .int) :: lw_good)) B.pre
  have htg : ∀ w ∈ lw_good, w.before _ s = true := fun w hw => hts w (List.mem_cons_of_mem _ hw)
  have hown : s.vm.findClass RX12 = some m.cls := findClass_of_methodNamed B.named
  have hlocks := B.notSynchronized
  subst hsz
  have hS : va_S (fun q => s.heap.size ≤ q) s.heap s.heap [] := va_S.rf
  have hl := lv_entry ([.int v]) (n := 1) (Nat.le_of_ble_eq_true rfl)
  rw [lg_entry_eq]
  generalize (lg_sl ([.int v]) ++ List.replicate (1 - (lg_sl ([.int v])).length) Slot.unset).toArray = ls at hl ⊢
  have hl : lv_has ls 1 [(0, .int v)] := hl
  refine lv_iload_n hx hb dX12_cut_0 rfl (lv_at hl 0 rfl) ?_
  refine lv_ldcw hx hb hown (htg (.constant RX12 278 1000000) kw_8_55) dX12_cut_1 ?_
  refine lv_icmp_le (tgt := 13) hx hb dX12_cut_4 (by decide) (fun c_1 => ?_) (fun c_1 => ?_)
  · skip
    have i_2 : (-2147483648) ≤ v.toInt ∧ v.toInt ≤ 1000000 := iv_le1 (iv_any v) (⟨by decide, by decide⟩ : (1000000 : Int) ≤ (1000000 : Int32).toInt ∧ (1000000 : Int32).toInt ≤ 1000000) c_1
    refine lv_iload_n hx hb dX12_cut_13 rfl (lv_at hl 0 rfl) ?_
    exact W.iret (v := v) hx hb hr (fun t ht hW => ⟨⟨v, (), rfl, trivial, trivial⟩, hS.F ht⟩) hS.2.2 dX12_cut_14
  · skip
    have i_3 : 1000001 ≤ v.toInt ∧ v.toInt ≤ 2147483647 := iv_lt2 (⟨by decide, by decide⟩ : (1000000 : Int) ≤ (1000000 : Int32).toInt ∧ (1000000 : Int32).toInt ≤ 1000000) (iv_any v) (Int32.not_le.mp c_1)
    refine lv_ldcw hx hb hown (htg (.constant RX12 278 1000000) kw_8_55) dX12_cut_7 ?_
    refine lv_goto (tgt := 14) hx hb dX12_cut_10 (by decide) ?_
    exact W.iret (v := 1000000) hx hb hr (fun t ht hW => ⟨⟨1000000, (), rfl, trivial, trivial⟩, hS.F ht⟩) hS.2.2 dX12_cut_14
set_option maxHeartbeats 4000000 in
set_option maxRecDepth 100000 in
theorem m_usual (l : Launch) (sz : Nat) (v : Int32) (z : Int32) (h_z : 0 ≤ z.toInt ∧ z.toInt ≤ 1) : Met l yX12_usual (.code yX12_usual cX12_usual 2 (some .int) :: lw_good) ({ frames := 2, cells := 0, slots := 0, locals := 40 }) (va_Pc [.int v, .int z] (fun U => U.heap.size = sz)) (va_Qi (fun (r : Int32) (_ : Unit) => True) (fun (_ : Unit) (_ : State) => True) (fun q => sz ≤ q)) 0 0 (fun q => sz ≤ q) := by
  refine Met.ofW (cc := cX12_usual) (maxL := 2) (ret := (some .int)) (by decide) rfl ?_
  intro p e s m args below meth c s₁ B hml hv
  obtain ⟨rfl, hsz⟩ := hv
  have hx := B.exec
  have hb := B.bytes
  have hr := B.returns
  have hts := atoms_spec (ws := (.code yX12_usual cX12_usual 2 (some .int) :: lw_good)) B.pre
  have htg : ∀ w ∈ lw_good, w.before _ s = true := fun w hw => hts w (List.mem_cons_of_mem _ hw)
  have hown : s.vm.findClass RX12 = some m.cls := findClass_of_methodNamed B.named
  have hlocks := B.notSynchronized
  subst hsz
  have hS : va_S (fun q => s.heap.size ≤ q) s.heap s.heap [] := va_S.rf
  have hl := lv_entry ([.int v, .int z]) (n := 2) (Nat.le_of_ble_eq_true rfl)
  rw [lg_entry_eq]
  generalize (lg_sl ([.int v, .int z]) ++ List.replicate (2 - (lg_sl ([.int v, .int z])).length) Slot.unset).toArray = ls at hl ⊢
  have hl : lv_has ls 2 [(0, .int v), (1, .int z)] := hl
  refine lv_iload_n hx hb dX12_usual_0 rfl (lv_at hl 0 rfl) ?_
  rcases iv_sw_0_5 v with w_1 | w_1 | w_1 | w_1 | w_1 | w_1 | w_1
  · skip
    refine lv_tableOut (tgt := 58) hx hb dX12_usual_1 (Or.inl w_1) (by decide) ?_
    refine lv_bipush (v := 20) hx hb dX12_usual_58 (by decide) ?_
    exact W.iret (v := 20) hx hb hr (fun t ht hW => ⟨⟨20, (), rfl, trivial, trivial⟩, hS.F ht⟩) hS.2.2 dX12_usual_60
  · skip
    refine lv_tableOut (tgt := 58) hx hb dX12_usual_1 (Or.inr w_1) (by decide) ?_
    refine lv_bipush (v := 20) hx hb dX12_usual_58 (by decide) ?_
    exact W.iret (v := 20) hx hb hr (fun t ht hW => ⟨⟨20, (), rfl, trivial, trivial⟩, hS.F ht⟩) hS.2.2 dX12_usual_60
  · skip
    refine lv_tableIn (off := 35) (tgt := 36) hx hb dX12_usual_1 (by rw [w_1]; decide) (by rw [w_1]; decide) (by rw [w_1]; rfl) (by decide) ?_
    refine lv_iconst (v := 1) hx hb dX12_usual_36 (by decide) ?_
    exact W.iret (v := 1) hx hb hr (fun t ht hW => ⟨⟨1, (), rfl, trivial, trivial⟩, hS.F ht⟩) hS.2.2 dX12_usual_37
  · skip
    refine lv_tableIn (off := 37) (tgt := 38) hx hb dX12_usual_1 (by rw [w_1]; decide) (by rw [w_1]; decide) (by rw [w_1]; rfl) (by decide) ?_
    refine lv_iconst (v := 0) hx hb dX12_usual_38 (by decide) ?_
    exact W.iret (v := 0) hx hb hr (fun t ht hW => ⟨⟨0, (), rfl, trivial, trivial⟩, hS.F ht⟩) hS.2.2 dX12_usual_39
  · skip
    refine lv_tableIn (off := 39) (tgt := 40) hx hb dX12_usual_1 (by rw [w_1]; decide) (by rw [w_1]; decide) (by rw [w_1]; rfl) (by decide) ?_
    refine lv_iload_n hx hb dX12_usual_40 rfl (lv_at hl 1 rfl) ?_
    refine lv_if_eq (tgt := 49) hx hb dX12_usual_41 (by decide) (fun c_2 => ?_) (fun c_2 => ?_)
    · skip
      have i_3 : 0 ≤ z.toInt ∧ z.toInt ≤ 0 := iv_eq1 (⟨by decide, by decide⟩ : (0 : Int) ≤ (0 : Int32).toInt ∧ (0 : Int32).toInt ≤ 0) c_2
      refine lv_iconst (v := 0) hx hb dX12_usual_49 (by decide) ?_
      exact W.iret (v := 0) hx hb hr (fun t ht hW => ⟨⟨0, (), rfl, trivial, trivial⟩, hS.F ht⟩) hS.2.2 dX12_usual_50
    · skip
      have i_4 : 1 ≤ z.toInt ∧ z.toInt ≤ 1 := iv_nel h_z (by decide) c_2
      refine lv_bipush (v := 10) hx hb dX12_usual_44 (by decide) ?_
      refine lv_goto (tgt := 50) hx hb dX12_usual_46 (by decide) ?_
      exact W.iret (v := 10) hx hb hr (fun t ht hW => ⟨⟨10, (), rfl, trivial, trivial⟩, hS.F ht⟩) hS.2.2 dX12_usual_50
  · skip
    refine lv_tableIn (off := 50) (tgt := 51) hx hb dX12_usual_1 (by rw [w_1]; decide) (by rw [w_1]; decide) (by rw [w_1]; rfl) (by decide) ?_
    refine lv_bipush (v := 15) hx hb dX12_usual_51 (by decide) ?_
    exact W.iret (v := 15) hx hb hr (fun t ht hW => ⟨⟨15, (), rfl, trivial, trivial⟩, hS.F ht⟩) hS.2.2 dX12_usual_53
  · skip
    refine lv_tableIn (off := 53) (tgt := 54) hx hb dX12_usual_1 (by rw [w_1]; decide) (by rw [w_1]; decide) (by rw [w_1]; rfl) (by decide) ?_
    refine lv_sipush (v := 500) hx hb dX12_usual_54 (by decide) ?_
    exact W.iret (v := 500) hx hb hr (fun t ht hW => ⟨⟨500, (), rfl, trivial, trivial⟩, hS.F ht⟩) hS.2.2 dX12_usual_57
set_option maxHeartbeats 4000000 in
set_option maxRecDepth 100000 in
theorem m_spelt (l : Launch) (sz : Nat) (a : Int32) (b : Int32) (v : Int32) (d : Int32) (f : Int32) : Met l yX12_spelt (.code yX12_spelt cX12_spelt 7 (some .long) :: lw_good) ({ frames := 2, cells := 0, slots := 0, locals := 40 }) (va_Pc [.int a, .int b, .int v, .int d, .int f] (fun U => U.heap.size = sz)) (va_Ql (fun (r : Int64) (_ : Unit) => True) (fun (_ : Unit) (_ : State) => True) (fun q => sz ≤ q)) 0 0 (fun q => sz ≤ q) := by
  refine Met.ofW (cc := cX12_spelt) (maxL := 7) (ret := (some .long)) (by decide) rfl ?_
  intro p e s m args below meth c s₁ B hml hv
  obtain ⟨rfl, hsz⟩ := hv
  have hx := B.exec
  have hb := B.bytes
  have hr := B.returns
  have hts := atoms_spec (ws := (.code yX12_spelt cX12_spelt 7 (some .long) :: lw_good)) B.pre
  have htg : ∀ w ∈ lw_good, w.before _ s = true := fun w hw => hts w (List.mem_cons_of_mem _ hw)
  have hown : s.vm.findClass RX12 = some m.cls := findClass_of_methodNamed B.named
  have hlocks := B.notSynchronized
  subst hsz
  have hS : va_S (fun q => s.heap.size ≤ q) s.heap s.heap [] := va_S.rf
  have hl := lv_entry ([.int a, .int b, .int v, .int d, .int f]) (n := 7) (Nat.le_of_ble_eq_true rfl)
  rw [lg_entry_eq]
  generalize (lg_sl ([.int a, .int b, .int v, .int d, .int f]) ++ List.replicate (7 - (lg_sl ([.int a, .int b, .int v, .int d, .int f])).length) Slot.unset).toArray = ls at hl ⊢
  have hl : lv_has ls 7 [(0, .int a), (1, .int b), (2, .int v), (3, .int d), (4, .int f)] := hl
  refine lv_ldc2 (v := 27) hx hb hown (htg (.constantLong RX12 313 27) kw_8_77) dX12_spelt_0 ?_
  refine lv_iload_n hx hb dX12_spelt_3 rfl (lv_at hl 0 rfl) ?_
  refine lv_i2l hx hb dX12_spelt_4 rfl ?_
  refine lv_topl (fun w_1 _ => ?_)
  refine lv_ldc2 (v := 96) hx hb hown (htg (.constantLong RX12 315 96) kw_8_78) dX12_spelt_5 ?_
  refine lv_lsub hx hb dX12_spelt_8 ?_
  refine lv_topl (fun w_2 _ => ?_)
  refine lv_lmul hx hb dX12_spelt_9 ?_
  refine lv_topl (fun w_3 _ => ?_)
  refine lv_iload_n hx hb dX12_spelt_10 rfl (lv_at hl 1 rfl) ?_
  refine lv_i2l hx hb dX12_spelt_11 rfl ?_
  refine lv_topl (fun w_4 _ => ?_)
  refine lv_ladd hx hb dX12_spelt_12 ?_
  refine lv_topl (fun w_5 _ => ?_)
  refine lv_ldc2 (v := 96) hx hb hown (htg (.constantLong RX12 315 96) kw_8_78) dX12_spelt_13 ?_
  refine lv_lsub hx hb dX12_spelt_16 ?_
  refine lv_topl (fun w_6 _ => ?_)
  refine lv_lstore (lv' := [(5, .long w_6), (0, .int a), (1, .int b), (2, .int v), (3, .int d), (4, .int f)]) hx hb dX12_spelt_17 hl (by decide) rfl (fun ls hl => ?_)
  refine lv_iload_n hx hb dX12_spelt_19 rfl (lv_at hl 3 rfl) ?_
  refine my_cut (P := fun R9 a9 Q9 => ∀ (x_14 : Int64) (ls : Array Slot), lv_has ls 7 [(3, .int d), (4, .int f), (5, .long x_14)] → W p l e R9 s m a9 below meth c s.heap [] 0 0 Q9 (F0 m 38 ls [])) ?_ (fun hj_15 => ?_)
  · intro x_14 ls  hl
    refine lv_iload_n hx hb dX12_spelt_38 rfl (lv_at hl 0 rfl) ?_
    refine my_cut (P := fun R9 a9 Q9 => ∀ (x_23 : Int64) (ls : Array Slot), lv_has ls 7 [(4, .int f), (5, .long x_23)] → W p l e R9 s m a9 below meth c s.heap [] 0 0 Q9 (F0 m 57 ls [])) ?_ (fun hj_24 => ?_)
    · intro x_23 ls  hl
      refine lv_iload hx hb dX12_spelt_57 (lv_at hl 0 rfl) ?_
      refine lv_if_le (tgt := 79) hx hb dX12_spelt_59 (by decide) (fun c_25 => ?_) (fun c_25 => ?_)
      · skip
        have i_26 : (-2147483648) ≤ f.toInt ∧ f.toInt ≤ 0 := iv_le1 (iv_any f) (⟨by decide, by decide⟩ : (0 : Int) ≤ (0 : Int32).toInt ∧ (0 : Int32).toInt ≤ 0) c_25
        refine lv_lload hx hb dX12_spelt_79 (lv_at hl 1 rfl) ?_
        exact W.lret (v := x_23) hx hb hr (fun t ht hW => ⟨⟨x_23, (), rfl, trivial, trivial⟩, hS.F ht⟩) hS.2.2 dX12_spelt_81
      · skip
        have i_27 : 1 ≤ f.toInt ∧ f.toInt ≤ 2147483647 := iv_lt2 (⟨by decide, by decide⟩ : (0 : Int) ≤ (0 : Int32).toInt ∧ (0 : Int32).toInt ≤ 0) (iv_any f) (Int32.not_le.mp c_25)
        refine lv_ldc2 (v := 27) hx hb hown (htg (.constantLong RX12 313 27) kw_8_77) dX12_spelt_62 ?_
        refine lv_lload hx hb dX12_spelt_65 (lv_at hl 1 rfl) ?_
        refine lv_lmul hx hb dX12_spelt_67 ?_
        refine lv_topl (fun w_28 _ => ?_)
        refine lv_iload hx hb dX12_spelt_68 (lv_at hl 0 rfl) ?_
        refine lv_i2l hx hb dX12_spelt_70 rfl ?_
        refine lv_topl (fun w_29 _ => ?_)
        refine lv_ladd hx hb dX12_spelt_71 ?_
        refine lv_topl (fun w_30 _ => ?_)
        refine lv_ldc2 (v := 96) hx hb hown (htg (.constantLong RX12 315 96) kw_8_78) dX12_spelt_72 ?_
        refine lv_lsub hx hb dX12_spelt_75 ?_
        refine lv_topl (fun w_31 _ => ?_)
        refine lv_goto (tgt := 81) hx hb dX12_spelt_76 (by decide) ?_
        exact W.lret (v := w_31) hx hb hr (fun t ht hW => ⟨⟨w_31, (), rfl, trivial, trivial⟩, hS.F ht⟩) hS.2.2 dX12_spelt_81
    · skip
      refine lv_if_le (tgt := 57) hx hb dX12_spelt_39 (by decide) (fun c_16 => ?_) (fun c_16 => ?_)
      · skip
        have i_17 : (-2147483648) ≤ d.toInt ∧ d.toInt ≤ 0 := iv_le1 (iv_any d) (⟨by decide, by decide⟩ : (0 : Int) ≤ (0 : Int32).toInt ∧ (0 : Int32).toInt ≤ 0) c_16
        exact hj_24 x_14 ls  (lv_sub hl [1, 2] rfl)
      · skip
        have i_18 : 1 ≤ d.toInt ∧ d.toInt ≤ 2147483647 := iv_lt2 (⟨by decide, by decide⟩ : (0 : Int) ≤ (0 : Int32).toInt ∧ (0 : Int32).toInt ≤ 0) (iv_any d) (Int32.not_le.mp c_16)
        refine lv_ldc2 (v := 27) hx hb hown (htg (.constantLong RX12 313 27) kw_8_77) dX12_spelt_42 ?_
        refine lv_lload hx hb dX12_spelt_45 (lv_at hl 2 rfl) ?_
        refine lv_lmul hx hb dX12_spelt_47 ?_
        refine lv_topl (fun w_19 _ => ?_)
        refine lv_iload_n hx hb dX12_spelt_48 rfl (lv_at hl 0 rfl) ?_
        refine lv_i2l hx hb dX12_spelt_49 rfl ?_
        refine lv_topl (fun w_20 _ => ?_)
        refine lv_ladd hx hb dX12_spelt_50 ?_
        refine lv_topl (fun w_21 _ => ?_)
        refine lv_ldc2 (v := 96) hx hb hown (htg (.constantLong RX12 315 96) kw_8_78) dX12_spelt_51 ?_
        refine lv_lsub hx hb dX12_spelt_54 ?_
        refine lv_topl (fun w_22 _ => ?_)
        refine lv_lstore (lv' := [(5, .long w_22), (3, .int d), (4, .int f)]) hx hb dX12_spelt_55 hl (by decide) rfl (fun ls hl => ?_)
        exact hj_24 w_22 ls  (lv_sub hl [2, 0] rfl)
  · skip
    refine lv_if_le (tgt := 38) hx hb dX12_spelt_20 (by decide) (fun c_7 => ?_) (fun c_7 => ?_)
    · skip
      have i_8 : (-2147483648) ≤ v.toInt ∧ v.toInt ≤ 0 := iv_le1 (iv_any v) (⟨by decide, by decide⟩ : (0 : Int) ≤ (0 : Int32).toInt ∧ (0 : Int32).toInt ≤ 0) c_7
      exact hj_15 w_6 ls  (lv_sub hl [4, 5, 0] rfl)
    · skip
      have i_9 : 1 ≤ v.toInt ∧ v.toInt ≤ 2147483647 := iv_lt2 (⟨by decide, by decide⟩ : (0 : Int) ≤ (0 : Int32).toInt ∧ (0 : Int32).toInt ≤ 0) (iv_any v) (Int32.not_le.mp c_7)
      refine lv_ldc2 (v := 27) hx hb hown (htg (.constantLong RX12 313 27) kw_8_77) dX12_spelt_23 ?_
      refine lv_lload hx hb dX12_spelt_26 (lv_at hl 0 rfl) ?_
      refine lv_lmul hx hb dX12_spelt_28 ?_
      refine lv_topl (fun w_10 _ => ?_)
      refine lv_iload_n hx hb dX12_spelt_29 rfl (lv_at hl 3 rfl) ?_
      refine lv_i2l hx hb dX12_spelt_30 rfl ?_
      refine lv_topl (fun w_11 _ => ?_)
      refine lv_ladd hx hb dX12_spelt_31 ?_
      refine lv_topl (fun w_12 _ => ?_)
      refine lv_ldc2 (v := 96) hx hb hown (htg (.constantLong RX12 315 96) kw_8_78) dX12_spelt_32 ?_
      refine lv_lsub hx hb dX12_spelt_35 ?_
      refine lv_topl (fun w_13 _ => ?_)
      refine lv_lstore (lv' := [(5, .long w_13), (0, .int a), (1, .int b), (2, .int v), (3, .int d), (4, .int f)]) hx hb dX12_spelt_36 hl (by decide) rfl (fun ls hl => ?_)
      exact hj_15 w_13 ls  (lv_sub hl [4, 5, 0] rfl)

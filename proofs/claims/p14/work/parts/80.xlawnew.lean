theorem dX0_init_0 : decode cX0_init 0 = .ok (.aload_n 0, 1) := by decide +kernel
theorem dX0_init_1 : decode cX0_init 1 = .ok (.invokespecial 3, 3) := by decide +kernel
theorem dX0_init_4 : decode cX0_init 4 = .ok (.aload_n 0, 1) := by decide +kernel
theorem dX0_init_5 : decode cX0_init 5 = .ok (.iload_n 1, 1) := by decide +kernel
theorem dX0_init_6 : decode cX0_init 6 = .ok (.putfield 9, 3) := by decide +kernel
theorem dX0_init_9 : decode cX0_init 9 = .ok (.aload_n 0, 1) := by decide +kernel
theorem dX0_init_10 : decode cX0_init 10 = .ok (.iload_n 2, 1) := by decide +kernel
theorem dX0_init_11 : decode cX0_init 11 = .ok (.newarray .int, 2) := by decide +kernel
theorem dX0_init_13 : decode cX0_init 13 = .ok (.putfield 15, 3) := by decide +kernel
theorem dX0_init_16 : decode cX0_init 16 = .ok (.aload_n 0, 1) := by decide +kernel
theorem dX0_init_17 : decode cX0_init 17 = .ok (.iload_n 2, 1) := by decide +kernel
theorem dX0_init_18 : decode cX0_init 18 = .ok (.newarray .int, 2) := by decide +kernel
theorem dX0_init_20 : decode cX0_init 20 = .ok (.putfield 19, 3) := by decide +kernel
theorem dX0_init_23 : decode cX0_init 23 = .ok (.aload_n 0, 1) := by decide +kernel
theorem dX0_init_24 : decode cX0_init 24 = .ok (.iload_n 2, 1) := by decide +kernel
theorem dX0_init_25 : decode cX0_init 25 = .ok (.newarray .int, 2) := by decide +kernel
theorem dX0_init_27 : decode cX0_init 27 = .ok (.putfield 22, 3) := by decide +kernel
theorem dX0_init_30 : decode cX0_init 30 = .ok (.aload_n 0, 1) := by decide +kernel
theorem dX0_init_31 : decode cX0_init 31 = .ok (.iload_n 3, 1) := by decide +kernel
theorem dX0_init_32 : decode cX0_init 32 = .ok (.newarray .int, 2) := by decide +kernel
theorem dX0_init_34 : decode cX0_init 34 = .ok (.putfield 25, 3) := by decide +kernel
theorem dX0_init_37 : decode cX0_init 37 = .ok (.aload_n 0, 1) := by decide +kernel
theorem dX0_init_38 : decode cX0_init 38 = .ok (.iload_n 3, 1) := by decide +kernel
theorem dX0_init_39 : decode cX0_init 39 = .ok (.newarray .int, 2) := by decide +kernel
theorem dX0_init_41 : decode cX0_init 41 = .ok (.putfield 28, 3) := by decide +kernel
theorem dX0_init_44 : decode cX0_init 44 = .ok (.aload_n 0, 1) := by decide +kernel
theorem dX0_init_45 : decode cX0_init 45 = .ok (.iload_n 3, 1) := by decide +kernel
theorem dX0_init_46 : decode cX0_init 46 = .ok (.newarray .int, 2) := by decide +kernel
theorem dX0_init_48 : decode cX0_init 48 = .ok (.putfield 31, 3) := by decide +kernel
theorem dX0_init_51 : decode cX0_init 51 = .ok (.return_, 1) := by decide +kernel
set_option maxHeartbeats 4000000 in
set_option maxRecDepth 100000 in
theorem x_Law_init (l : Launch) (dC : Nat → ClassId) (dI : Nat → Nat → Nat) (sz : Nat) (h0 : Nat) (fr : Int32) (ln : Int32) (cn : Int32) (LN : Nat) (CN : Nat) (hl1 : ¬ ln < 0) (hl2 : ln.toNatClampNeg = LN) (hl3 : LN ≤ 16) (hc1 : ¬ cn < 0) (hc2 : cn.toNatClampNeg = CN) (hc3 : CN ≤ 100) : Met l yX0_init (.code yX0_init cX0_init 4 none :: lw_good) ({ frames := 2, cells := 6, slots := 348, locals := 60 }) (va_Pc [.ref h0, .int fr, .int ln, .int cn] (fun U => U.heap.size = sz ∧ va_P (dC, dI) vwCl [(h0, .inr (1, [.int 0, .null, .null, .null, .null, .null, .null]))] U.heap ∧ va_K (dC, dI) vwCl [] U ∧ va_D (fun _ => True) [(h0, .inr (1, [.int 0, .null, .null, .null, .null, .null, .null]))])) (va_Qv (fun (_ : Unit) => True) (fun (_ : Unit) (t : State) => ∃ (a_kinds : Nat), ∃ (k_kinds : ClassId), ∃ (a_values : Nat), ∃ (k_values : ClassId), ∃ (a_ends : Nat), ∃ (k_ends : ClassId), ∃ (a_acts : Nat), ∃ (k_acts : ClassId), ∃ (a_asked : Nat), ∃ (k_asked : ClassId), ∃ (a_numbers : Nat), ∃ (k_numbers : ClassId), va_P (dC, dI) vwCl [(h0, .inr (1, [.int fr, .ref a_kinds, .ref a_values, .ref a_ends, .ref a_acts, .ref a_asked, .ref a_numbers])), (a_kinds, .inl (k_kinds, LN, .inl (fun _ => 0))), (a_values, .inl (k_values, LN, .inl (fun _ => 0))), (a_ends, .inl (k_ends, LN, .inl (fun _ => 0))), (a_acts, .inl (k_acts, CN, .inl (fun _ => 0))), (a_asked, .inl (k_asked, CN, .inl (fun _ => 0))), (a_numbers, .inl (k_numbers, CN, .inl (fun _ => 0)))] t.heap ∧ va_K (dC, dI) vwCl [(k_kinds, .int), (k_values, .int), (k_ends, .int), (k_acts, .int), (k_asked, .int), (k_numbers, .int)] t ∧ va_D (va_A [(h0, .inr (1, [.int 0, .null, .null, .null, .null, .null, .null]))] sz) [(h0, .inr (1, [.int fr, .ref a_kinds, .ref a_values, .ref a_ends, .ref a_acts, .ref a_asked, .ref a_numbers])), (a_kinds, .inl (k_kinds, LN, .inl (fun _ => 0))), (a_values, .inl (k_values, LN, .inl (fun _ => 0))), (a_ends, .inl (k_ends, LN, .inl (fun _ => 0))), (a_acts, .inl (k_acts, CN, .inl (fun _ => 0))), (a_asked, .inl (k_asked, CN, .inl (fun _ => 0))), (a_numbers, .inl (k_numbers, CN, .inl (fun _ => 0)))]) (va_A [(h0, .inr (1, [.int 0, .null, .null, .null, .null, .null, .null]))] sz)) 6 348 (va_A [(h0, .inr (1, [.int 0, .null, .null, .null, .null, .null, .null]))] sz) := by
  refine Met.ofW (cc := cX0_init) (maxL := 4) (ret := none) (by decide) rfl ?_
  intro p e s m args below meth c s₁ B hml hv
  obtain ⟨rfl, hsz, hP, hK, hD0⟩ := hv
  have hx := B.exec
  have hb := B.bytes
  have hr := B.returns
  have hts := atoms_spec (ws := (.code yX0_init cX0_init 4 none :: lw_good)) B.pre
  have hown : s.vm.findClass RX0 = some m.cls := findClass_of_methodNamed B.named
  have hlocks := B.notSynchronized
  have hin : meth.name = "<init>" := (name_of_methodNamed B.named B.method).1
  subst hsz
  have hD := hD0.self (sz := s.heap.size)
  generalize hAe : va_A [(h0, .inr (1, [.int 0, .null, .null, .null, .null, .null, .null]))] s.heap.size = A at hD ⊢
  have hA : ∀ q : Nat, s.heap.size ≤ q → A q := fun q h => by rw [← hAe]; exact Or.inr h
  have hS : va_S A s.heap s.heap [] := va_S.rf
  have hP : va_P (dC, dI) vwCl [(h0, .inr (1, [.int 0, .null, .null, .null, .null, .null, .null]))] s.heap := hP
  have hl := lv_entry ([.ref h0, .int fr, .int ln, .int cn]) (n := 4) (Nat.le_of_ble_eq_true rfl)
  rw [lg_entry_eq]
  generalize (lg_sl ([.ref h0, .int fr, .int ln, .int cn]) ++ List.replicate (4 - (lg_sl ([.ref h0, .int fr, .int ln, .int cn])).length) Slot.unset).toArray = ls at hl ⊢
  have hl : lv_has ls 4 [(0, .ref h0), (1, .int fr), (2, .int ln), (3, .int cn)] := hl
  refine lv_aload_n hx hb dX0_init_0 rfl (lv_at hl 0 rfl) ?_
  refine W.objInit hx hb hown (hts (.methodLink RX0 3 objectInit) (List.mem_cons_of_mem _ kw_2_25)) (hts (.instanceMethod objectInit) (List.mem_cons_of_mem _ kw_1_38)) (hts (.code objectInit ⟨#[0xb1]⟩ 1 none) (List.mem_cons_of_mem _ kw_1_39)) rfl (by rw [hml]; exact hl.1) rfl dX0_init_1 (Nat.le_of_ble_eq_true rfl) (Nat.le_of_ble_eq_true rfl) ?_
  refine W.eq (g2 := F0 m 4 ls []) rfl ?_
  refine lv_aload_n hx hb dX0_init_4 rfl (lv_at hl 0 rfl) ?_
  refine lv_iload_n hx hb dX0_init_5 rfl (lv_at hl 1 rfl) ?_
  refine va_putF (D := (dC, dI)) (ci := 1) (v := .int fr) (ty := .int) (C := RX0) (T := TX0) (N := 7) hx hb hts iCX0 tyX0 tyX0_ok nmX0 hown hK hP hD hS 0 rfl rfl 0 (by decide) (hts (.fieldLink RX0 9 "WalkingTown$Law" "from" "I") (List.mem_cons_of_mem _ kw_2_26)) (fun _ h9 => h9) rfl hin rfl (by decide +kernel) rfl rfl (Nat.le_of_ble_eq_true rfl) dX0_init_6 (fun H locs hP hD hS => ?_)
  have hP : va_P (dC, dI) vwCl [(h0, .inr (1, [.int fr, .null, .null, .null, .null, .null, .null]))] H := hP
  have hD : va_D A [(h0, .inr (1, [.int fr, .null, .null, .null, .null, .null, .null]))] := hD
  refine lv_aload_n hx hb dX0_init_9 rfl (lv_at hl 0 rfl) ?_
  refine lv_iload_n hx hb dX0_init_10 rfl (lv_at hl 2 rfl) ?_
  refine va_newa (atype := .int) (N' := LN) (a0 := (LN, .inl (fun _ => 0))) hx hb (hts (.arrayClass .int) (List.mem_cons_of_mem _ kw_1_60)) (ty := .int) rfl hK hP hD hS hA (fun _ => rfl) hl1 hl2 (by have h9 : componentBytes .int = 4 := rfl; rw [h9]; omega) (Nat.le_of_ble_eq_true rfl) (by show 0 + LN ≤ 348; omega) dX0_init_11 (fun q_1 cA_1 H hK hP hD hS => ?_)
  have hP : va_P (dC, dI) vwCl [(h0, .inr (1, [.int fr, .null, .null, .null, .null, .null, .null])), (q_1, .inl (cA_1, LN, .inl (fun _ => 0)))] H := hP
  have hD : va_D A [(h0, .inr (1, [.int fr, .null, .null, .null, .null, .null, .null])), (q_1, .inl (cA_1, LN, .inl (fun _ => 0)))] := hD
  have hK : va_K (dC, dI) vwCl [(cA_1, .int)] s := hK
  refine W.widen (k := 1) (n := 16) (Nat.le_of_ble_eq_true rfl) (by omega) ?_
  refine va_putF (D := (dC, dI)) (ci := 1) (v := .ref q_1) (ty := .array .int) (C := RX0) (T := TX0) (N := 7) hx hb hts iCX0 tyX0 tyX0_ok nmX0 hown hK hP hD hS 0 rfl rfl 1 (by decide) (hts (.fieldLink RX0 15 "WalkingTown$Law" "kinds" "[I") (List.mem_cons_of_mem _ kw_2_28)) (fun _ h9 => h9) rfl hin rfl (by decide +kernel) rfl rfl (Nat.le_of_ble_eq_true rfl) dX0_init_13 (fun H locs hP hD hS => ?_)
  have hP : va_P (dC, dI) vwCl [(h0, .inr (1, [.int fr, .ref q_1, .null, .null, .null, .null, .null])), (q_1, .inl (cA_1, LN, .inl (fun _ => 0)))] H := hP
  have hD : va_D A [(h0, .inr (1, [.int fr, .ref q_1, .null, .null, .null, .null, .null])), (q_1, .inl (cA_1, LN, .inl (fun _ => 0)))] := hD
  refine lv_aload_n hx hb dX0_init_16 rfl (lv_at hl 0 rfl) ?_
  refine lv_iload_n hx hb dX0_init_17 rfl (lv_at hl 2 rfl) ?_
  refine va_newa (atype := .int) (N' := LN) (a0 := (LN, .inl (fun _ => 0))) hx hb (hts (.arrayClass .int) (List.mem_cons_of_mem _ kw_1_60)) (ty := .int) rfl hK hP hD hS hA (fun _ => rfl) hl1 hl2 (by have h9 : componentBytes .int = 4 := rfl; rw [h9]; omega) (Nat.le_of_ble_eq_true rfl) (by show 16 + LN ≤ 348; omega) dX0_init_18 (fun q_2 cA_2 H hK hP hD hS => ?_)
  have hP : va_P (dC, dI) vwCl [(h0, .inr (1, [.int fr, .ref q_1, .null, .null, .null, .null, .null])), (q_1, .inl (cA_1, LN, .inl (fun _ => 0))), (q_2, .inl (cA_2, LN, .inl (fun _ => 0)))] H := hP
  have hD : va_D A [(h0, .inr (1, [.int fr, .ref q_1, .null, .null, .null, .null, .null])), (q_1, .inl (cA_1, LN, .inl (fun _ => 0))), (q_2, .inl (cA_2, LN, .inl (fun _ => 0)))] := hD
  have hK : va_K (dC, dI) vwCl [(cA_1, .int), (cA_2, .int)] s := hK
  refine W.widen (k := 2) (n := 32) (Nat.le_of_ble_eq_true rfl) (by omega) ?_
  refine va_putF (D := (dC, dI)) (ci := 1) (v := .ref q_2) (ty := .array .int) (C := RX0) (T := TX0) (N := 7) hx hb hts iCX0 tyX0 tyX0_ok nmX0 hown hK hP hD hS 0 rfl rfl 2 (by decide) (hts (.fieldLink RX0 19 "WalkingTown$Law" "values" "[I") (List.mem_cons_of_mem _ kw_2_30)) (fun _ h9 => h9) rfl hin rfl (by decide +kernel) rfl rfl (Nat.le_of_ble_eq_true rfl) dX0_init_20 (fun H locs hP hD hS => ?_)
  have hP : va_P (dC, dI) vwCl [(h0, .inr (1, [.int fr, .ref q_1, .ref q_2, .null, .null, .null, .null])), (q_1, .inl (cA_1, LN, .inl (fun _ => 0))), (q_2, .inl (cA_2, LN, .inl (fun _ => 0)))] H := hP
  have hD : va_D A [(h0, .inr (1, [.int fr, .ref q_1, .ref q_2, .null, .null, .null, .null])), (q_1, .inl (cA_1, LN, .inl (fun _ => 0))), (q_2, .inl (cA_2, LN, .inl (fun _ => 0)))] := hD
  refine lv_aload_n hx hb dX0_init_23 rfl (lv_at hl 0 rfl) ?_
  refine lv_iload_n hx hb dX0_init_24 rfl (lv_at hl 2 rfl) ?_
  refine va_newa (atype := .int) (N' := LN) (a0 := (LN, .inl (fun _ => 0))) hx hb (hts (.arrayClass .int) (List.mem_cons_of_mem _ kw_1_60)) (ty := .int) rfl hK hP hD hS hA (fun _ => rfl) hl1 hl2 (by have h9 : componentBytes .int = 4 := rfl; rw [h9]; omega) (Nat.le_of_ble_eq_true rfl) (by show 32 + LN ≤ 348; omega) dX0_init_25 (fun q_3 cA_3 H hK hP hD hS => ?_)
  have hP : va_P (dC, dI) vwCl [(h0, .inr (1, [.int fr, .ref q_1, .ref q_2, .null, .null, .null, .null])), (q_1, .inl (cA_1, LN, .inl (fun _ => 0))), (q_2, .inl (cA_2, LN, .inl (fun _ => 0))), (q_3, .inl (cA_3, LN, .inl (fun _ => 0)))] H := hP
  have hD : va_D A [(h0, .inr (1, [.int fr, .ref q_1, .ref q_2, .null, .null, .null, .null])), (q_1, .inl (cA_1, LN, .inl (fun _ => 0))), (q_2, .inl (cA_2, LN, .inl (fun _ => 0))), (q_3, .inl (cA_3, LN, .inl (fun _ => 0)))] := hD
  have hK : va_K (dC, dI) vwCl [(cA_1, .int), (cA_2, .int), (cA_3, .int)] s := hK
  refine W.widen (k := 3) (n := 48) (Nat.le_of_ble_eq_true rfl) (by omega) ?_
  refine va_putF (D := (dC, dI)) (ci := 1) (v := .ref q_3) (ty := .array .int) (C := RX0) (T := TX0) (N := 7) hx hb hts iCX0 tyX0 tyX0_ok nmX0 hown hK hP hD hS 0 rfl rfl 3 (by decide) (hts (.fieldLink RX0 22 "WalkingTown$Law" "ends" "[I") (List.mem_cons_of_mem _ kw_2_34)) (fun _ h9 => h9) rfl hin rfl (by decide +kernel) rfl rfl (Nat.le_of_ble_eq_true rfl) dX0_init_27 (fun H locs hP hD hS => ?_)
  have hP : va_P (dC, dI) vwCl [(h0, .inr (1, [.int fr, .ref q_1, .ref q_2, .ref q_3, .null, .null, .null])), (q_1, .inl (cA_1, LN, .inl (fun _ => 0))), (q_2, .inl (cA_2, LN, .inl (fun _ => 0))), (q_3, .inl (cA_3, LN, .inl (fun _ => 0)))] H := hP
  have hD : va_D A [(h0, .inr (1, [.int fr, .ref q_1, .ref q_2, .ref q_3, .null, .null, .null])), (q_1, .inl (cA_1, LN, .inl (fun _ => 0))), (q_2, .inl (cA_2, LN, .inl (fun _ => 0))), (q_3, .inl (cA_3, LN, .inl (fun _ => 0)))] := hD
  refine lv_aload_n hx hb dX0_init_30 rfl (lv_at hl 0 rfl) ?_
  refine lv_iload_n hx hb dX0_init_31 rfl (lv_at hl 3 rfl) ?_
  refine va_newa (atype := .int) (N' := CN) (a0 := (CN, .inl (fun _ => 0))) hx hb (hts (.arrayClass .int) (List.mem_cons_of_mem _ kw_1_60)) (ty := .int) rfl hK hP hD hS hA (fun _ => rfl) hc1 hc2 (by have h9 : componentBytes .int = 4 := rfl; rw [h9]; omega) (Nat.le_of_ble_eq_true rfl) (by show 48 + CN ≤ 348; omega) dX0_init_32 (fun q_4 cA_4 H hK hP hD hS => ?_)
  have hP : va_P (dC, dI) vwCl [(h0, .inr (1, [.int fr, .ref q_1, .ref q_2, .ref q_3, .null, .null, .null])), (q_1, .inl (cA_1, LN, .inl (fun _ => 0))), (q_2, .inl (cA_2, LN, .inl (fun _ => 0))), (q_3, .inl (cA_3, LN, .inl (fun _ => 0))), (q_4, .inl (cA_4, CN, .inl (fun _ => 0)))] H := hP
  have hD : va_D A [(h0, .inr (1, [.int fr, .ref q_1, .ref q_2, .ref q_3, .null, .null, .null])), (q_1, .inl (cA_1, LN, .inl (fun _ => 0))), (q_2, .inl (cA_2, LN, .inl (fun _ => 0))), (q_3, .inl (cA_3, LN, .inl (fun _ => 0))), (q_4, .inl (cA_4, CN, .inl (fun _ => 0)))] := hD
  have hK : va_K (dC, dI) vwCl [(cA_1, .int), (cA_2, .int), (cA_3, .int), (cA_4, .int)] s := hK
  refine W.widen (k := 4) (n := 148) (Nat.le_of_ble_eq_true rfl) (by omega) ?_
  refine va_putF (D := (dC, dI)) (ci := 1) (v := .ref q_4) (ty := .array .int) (C := RX0) (T := TX0) (N := 7) hx hb hts iCX0 tyX0 tyX0_ok nmX0 hown hK hP hD hS 0 rfl rfl 4 (by decide) (hts (.fieldLink RX0 25 "WalkingTown$Law" "acts" "[I") (List.mem_cons_of_mem _ kw_2_36)) (fun _ h9 => h9) rfl hin rfl (by decide +kernel) rfl rfl (Nat.le_of_ble_eq_true rfl) dX0_init_34 (fun H locs hP hD hS => ?_)
  have hP : va_P (dC, dI) vwCl [(h0, .inr (1, [.int fr, .ref q_1, .ref q_2, .ref q_3, .ref q_4, .null, .null])), (q_1, .inl (cA_1, LN, .inl (fun _ => 0))), (q_2, .inl (cA_2, LN, .inl (fun _ => 0))), (q_3, .inl (cA_3, LN, .inl (fun _ => 0))), (q_4, .inl (cA_4, CN, .inl (fun _ => 0)))] H := hP
  have hD : va_D A [(h0, .inr (1, [.int fr, .ref q_1, .ref q_2, .ref q_3, .ref q_4, .null, .null])), (q_1, .inl (cA_1, LN, .inl (fun _ => 0))), (q_2, .inl (cA_2, LN, .inl (fun _ => 0))), (q_3, .inl (cA_3, LN, .inl (fun _ => 0))), (q_4, .inl (cA_4, CN, .inl (fun _ => 0)))] := hD
  refine lv_aload_n hx hb dX0_init_37 rfl (lv_at hl 0 rfl) ?_
  refine lv_iload_n hx hb dX0_init_38 rfl (lv_at hl 3 rfl) ?_
  refine va_newa (atype := .int) (N' := CN) (a0 := (CN, .inl (fun _ => 0))) hx hb (hts (.arrayClass .int) (List.mem_cons_of_mem _ kw_1_60)) (ty := .int) rfl hK hP hD hS hA (fun _ => rfl) hc1 hc2 (by have h9 : componentBytes .int = 4 := rfl; rw [h9]; omega) (Nat.le_of_ble_eq_true rfl) (by show 148 + CN ≤ 348; omega) dX0_init_39 (fun q_5 cA_5 H hK hP hD hS => ?_)
  have hP : va_P (dC, dI) vwCl [(h0, .inr (1, [.int fr, .ref q_1, .ref q_2, .ref q_3, .ref q_4, .null, .null])), (q_1, .inl (cA_1, LN, .inl (fun _ => 0))), (q_2, .inl (cA_2, LN, .inl (fun _ => 0))), (q_3, .inl (cA_3, LN, .inl (fun _ => 0))), (q_4, .inl (cA_4, CN, .inl (fun _ => 0))), (q_5, .inl (cA_5, CN, .inl (fun _ => 0)))] H := hP
  have hD : va_D A [(h0, .inr (1, [.int fr, .ref q_1, .ref q_2, .ref q_3, .ref q_4, .null, .null])), (q_1, .inl (cA_1, LN, .inl (fun _ => 0))), (q_2, .inl (cA_2, LN, .inl (fun _ => 0))), (q_3, .inl (cA_3, LN, .inl (fun _ => 0))), (q_4, .inl (cA_4, CN, .inl (fun _ => 0))), (q_5, .inl (cA_5, CN, .inl (fun _ => 0)))] := hD
  have hK : va_K (dC, dI) vwCl [(cA_1, .int), (cA_2, .int), (cA_3, .int), (cA_4, .int), (cA_5, .int)] s := hK
  refine W.widen (k := 5) (n := 248) (Nat.le_of_ble_eq_true rfl) (by omega) ?_
  refine va_putF (D := (dC, dI)) (ci := 1) (v := .ref q_5) (ty := .array .int) (C := RX0) (T := TX0) (N := 7) hx hb hts iCX0 tyX0 tyX0_ok nmX0 hown hK hP hD hS 0 rfl rfl 5 (by decide) (hts (.fieldLink RX0 28 "WalkingTown$Law" "asked" "[I") (List.mem_cons_of_mem _ kw_2_38)) (fun _ h9 => h9) rfl hin rfl (by decide +kernel) rfl rfl (Nat.le_of_ble_eq_true rfl) dX0_init_41 (fun H locs hP hD hS => ?_)
  have hP : va_P (dC, dI) vwCl [(h0, .inr (1, [.int fr, .ref q_1, .ref q_2, .ref q_3, .ref q_4, .ref q_5, .null])), (q_1, .inl (cA_1, LN, .inl (fun _ => 0))), (q_2, .inl (cA_2, LN, .inl (fun _ => 0))), (q_3, .inl (cA_3, LN, .inl (fun _ => 0))), (q_4, .inl (cA_4, CN, .inl (fun _ => 0))), (q_5, .inl (cA_5, CN, .inl (fun _ => 0)))] H := hP
  have hD : va_D A [(h0, .inr (1, [.int fr, .ref q_1, .ref q_2, .ref q_3, .ref q_4, .ref q_5, .null])), (q_1, .inl (cA_1, LN, .inl (fun _ => 0))), (q_2, .inl (cA_2, LN, .inl (fun _ => 0))), (q_3, .inl (cA_3, LN, .inl (fun _ => 0))), (q_4, .inl (cA_4, CN, .inl (fun _ => 0))), (q_5, .inl (cA_5, CN, .inl (fun _ => 0)))] := hD
  refine lv_aload_n hx hb dX0_init_44 rfl (lv_at hl 0 rfl) ?_
  refine lv_iload_n hx hb dX0_init_45 rfl (lv_at hl 3 rfl) ?_
  refine va_newa (atype := .int) (N' := CN) (a0 := (CN, .inl (fun _ => 0))) hx hb (hts (.arrayClass .int) (List.mem_cons_of_mem _ kw_1_60)) (ty := .int) rfl hK hP hD hS hA (fun _ => rfl) hc1 hc2 (by have h9 : componentBytes .int = 4 := rfl; rw [h9]; omega) (Nat.le_of_ble_eq_true rfl) (by show 248 + CN ≤ 348; omega) dX0_init_46 (fun q_6 cA_6 H hK hP hD hS => ?_)
  have hP : va_P (dC, dI) vwCl [(h0, .inr (1, [.int fr, .ref q_1, .ref q_2, .ref q_3, .ref q_4, .ref q_5, .null])), (q_1, .inl (cA_1, LN, .inl (fun _ => 0))), (q_2, .inl (cA_2, LN, .inl (fun _ => 0))), (q_3, .inl (cA_3, LN, .inl (fun _ => 0))), (q_4, .inl (cA_4, CN, .inl (fun _ => 0))), (q_5, .inl (cA_5, CN, .inl (fun _ => 0))), (q_6, .inl (cA_6, CN, .inl (fun _ => 0)))] H := hP
  have hD : va_D A [(h0, .inr (1, [.int fr, .ref q_1, .ref q_2, .ref q_3, .ref q_4, .ref q_5, .null])), (q_1, .inl (cA_1, LN, .inl (fun _ => 0))), (q_2, .inl (cA_2, LN, .inl (fun _ => 0))), (q_3, .inl (cA_3, LN, .inl (fun _ => 0))), (q_4, .inl (cA_4, CN, .inl (fun _ => 0))), (q_5, .inl (cA_5, CN, .inl (fun _ => 0))), (q_6, .inl (cA_6, CN, .inl (fun _ => 0)))] := hD
  have hK : va_K (dC, dI) vwCl [(cA_1, .int), (cA_2, .int), (cA_3, .int), (cA_4, .int), (cA_5, .int), (cA_6, .int)] s := hK
  refine W.widen (k := 6) (n := 348) (Nat.le_of_ble_eq_true rfl) (by omega) ?_
  refine va_putF (D := (dC, dI)) (ci := 1) (v := .ref q_6) (ty := .array .int) (C := RX0) (T := TX0) (N := 7) hx hb hts iCX0 tyX0 tyX0_ok nmX0 hown hK hP hD hS 0 rfl rfl 6 (by decide) (hts (.fieldLink RX0 31 "WalkingTown$Law" "numbers" "[I") (List.mem_cons_of_mem _ kw_2_40)) (fun _ h9 => h9) rfl hin rfl (by decide +kernel) rfl rfl (Nat.le_of_ble_eq_true rfl) dX0_init_48 (fun H locs hP hD hS => ?_)
  have hP : va_P (dC, dI) vwCl [(h0, .inr (1, [.int fr, .ref q_1, .ref q_2, .ref q_3, .ref q_4, .ref q_5, .ref q_6])), (q_1, .inl (cA_1, LN, .inl (fun _ => 0))), (q_2, .inl (cA_2, LN, .inl (fun _ => 0))), (q_3, .inl (cA_3, LN, .inl (fun _ => 0))), (q_4, .inl (cA_4, CN, .inl (fun _ => 0))), (q_5, .inl (cA_5, CN, .inl (fun _ => 0))), (q_6, .inl (cA_6, CN, .inl (fun _ => 0)))] H := hP
  have hD : va_D A [(h0, .inr (1, [.int fr, .ref q_1, .ref q_2, .ref q_3, .ref q_4, .ref q_5, .ref q_6])), (q_1, .inl (cA_1, LN, .inl (fun _ => 0))), (q_2, .inl (cA_2, LN, .inl (fun _ => 0))), (q_3, .inl (cA_3, LN, .inl (fun _ => 0))), (q_4, .inl (cA_4, CN, .inl (fun _ => 0))), (q_5, .inl (cA_5, CN, .inl (fun _ => 0))), (q_6, .inl (cA_6, CN, .inl (fun _ => 0)))] := hD
  have hP9 := hP.sub (ws' := [(h0, .inr (1, [.int fr, .ref q_1, .ref q_2, .ref q_3, .ref q_4, .ref q_5, .ref q_6])), (q_1, .inl (cA_1, LN, .inl (fun _ => 0))), (q_2, .inl (cA_2, LN, .inl (fun _ => 0))), (q_3, .inl (cA_3, LN, .inl (fun _ => 0))), (q_4, .inl (cA_4, CN, .inl (fun _ => 0))), (q_5, .inl (cA_5, CN, .inl (fun _ => 0))), (q_6, .inl (cA_6, CN, .inl (fun _ => 0)))]) [0, 1, 2, 3, 4, 5, 6] rfl
  have hD9 := hD.sub (ws' := [(h0, .inr (1, [.int fr, .ref q_1, .ref q_2, .ref q_3, .ref q_4, .ref q_5, .ref q_6])), (q_1, .inl (cA_1, LN, .inl (fun _ => 0))), (q_2, .inl (cA_2, LN, .inl (fun _ => 0))), (q_3, .inl (cA_3, LN, .inl (fun _ => 0))), (q_4, .inl (cA_4, CN, .inl (fun _ => 0))), (q_5, .inl (cA_5, CN, .inl (fun _ => 0))), (q_6, .inl (cA_6, CN, .inl (fun _ => 0)))]) [0, 1, 2, 3, 4, 5, 6] (by decide) rfl
  have hK9 := hK.sub (tys' := [(cA_1, .int), (cA_2, .int), (cA_3, .int), (cA_4, .int), (cA_5, .int), (cA_6, .int)]) [0, 1, 2, 3, 4, 5] rfl
  refine W.widen (k := 6) (n := 348) (Nat.le_of_ble_eq_true rfl) (Nat.le_of_ble_eq_true rfl) ?_
  exact W.vret hx hb hr (fun t ht hW => ⟨⟨(), rfl, trivial, ⟨q_1, cA_1, q_2, cA_2, q_3, cA_3, q_4, cA_4, q_5, cA_5, q_6, cA_6, by rw [ht]; exact hP9, va_K.moved hW.alike hK9, hD9⟩⟩, hS.F ht⟩) hS.2.2 dX0_init_51

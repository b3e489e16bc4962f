set_option maxHeartbeats 4000000 in
set_option maxRecDepth 100000 in
theorem x_paceForE (l : Launch) (sz : Nat) (a : Int32) (b : Int32) (v : Int32) (h_a : 0 ≤ a.toInt ∧ a.toInt ≤ 99) (h_v : 0 ≤ v.toInt ∧ v.toInt ≤ 9) : Met l yX7_paceFor (.code yX7_paceFor cX7_paceFor 4 (some .int) :: lw_good) ({ frames := 2, cells := 0, slots := 0, locals := 40 }) (va_Pc [.int a, .int b, .int v] (fun U => U.heap.size = sz)) (va_Qi (fun (r : Int32) (_ : Unit) => (18 ≤ r.toInt ∧ r.toInt ≤ 50) ∧ (r.toInt = mo_pace a.toInt b.toInt v.toInt) ∧ True) (fun (_ : Unit) (_ : State) => True) (fun q => sz ≤ q)) 0 0 (fun q => sz ≤ q) := by
  refine Met.ofW (cc := cX7_paceFor) (maxL := 4) (ret := (some .int)) (by decide) rfl ?_
  intro p e s m args below meth c s₁ B hml hv
  obtain ⟨rfl, hsz⟩ := hv
  have hx := B.exec
  have hb := B.bytes
  have hr := B.returns
  have hts := atoms_spec (ws := (.code yX7_paceFor cX7_paceFor 4 (some .int) :: lw_good)) B.pre
  have htg : ∀ w ∈ lw_good, w.before _ s = true := fun w hw => hts w (List.mem_cons_of_mem _ hw)
  have hown : s.vm.findClass RX7 = some m.cls := findClass_of_methodNamed B.named
  have hlocks := B.notSynchronized
  subst hsz
  have hS : va_S (fun q => s.heap.size ≤ q) s.heap s.heap [] := va_S.rf
  have hl := lv_entry ([.int a, .int b, .int v]) (n := 4) (Nat.le_of_ble_eq_true rfl)
  rw [lg_entry_eq]
  generalize (lg_sl ([.int a, .int b, .int v]) ++ List.replicate (4 - (lg_sl ([.int a, .int b, .int v])).length) Slot.unset).toArray = ls at hl ⊢
  have hl : lv_has ls 4 [(0, .int a), (1, .int b), (2, .int v)] := hl
  refine lv_bipush (v := 18) hx hb dX7_paceFor_0 (by decide) ?_
  refine lv_iload_n hx hb dX7_paceFor_2 rfl (lv_at hl 2 rfl) ?_
  refine lv_iadd hx hb dX7_paceFor_3 ?_
  refine lv_topi (fun v_1 ev_1 => ?_)
  have t_2 : v_1.toInt = v.toInt + 18 ∧ 18 ≤ v_1.toInt ∧ v_1.toInt ≤ 27 := iv_addc (by rw [ev_1, Int32.add_comm]) h_v (by decide) (by decide) (by decide)
  refine lv_istore_n (lv' := [(3, .int v_1), (0, .int a), (1, .int b), (2, .int v)]) hx hb dX7_paceFor_4 rfl hl (by decide) rfl (fun ls hl => ?_)
  refine lv_iload_n hx hb dX7_paceFor_5 rfl (lv_at hl 1 rfl) ?_
  refine lv_bipush (v := 40) hx hb dX7_paceFor_6 (by decide) ?_
  refine lv_icmp_le (tgt := 21) hx hb dX7_paceFor_8 (by decide) (fun c_4 => ?_) (fun c_4 => ?_)
  · skip
    have i_5 : 0 ≤ a.toInt ∧ a.toInt ≤ 40 := iv_le1 h_a (⟨by decide, by decide⟩ : (40 : Int) ≤ (40 : Int32).toInt ∧ (40 : Int32).toInt ≤ 40) c_4
    refine lv_iload_n hx hb dX7_paceFor_21 rfl (lv_at hl 2 rfl) ?_
    refine lv_iconst (v := 1) hx hb dX7_paceFor_22 (by decide) ?_
    refine lv_icmp_ne (tgt := 29) hx hb dX7_paceFor_23 (by decide) (fun c_6 => ?_) (fun c_6 => ?_)
    · skip
      have k_7 : ¬ b.toInt = 1 := fun q => c_6 (Int32.toInt_inj.mp q)
      refine lv_iload_n hx hb dX7_paceFor_29 rfl (lv_at hl 2 rfl) ?_
      refine lv_if_ne (tgt := 36) hx hb dX7_paceFor_30 (by decide) (fun c_8 => ?_) (fun c_8 => ?_)
      · skip
        have k_9 : ¬ b.toInt = 0 := fun q => c_8 (Int32.toInt_inj.mp q)
        refine lv_iload_n hx hb dX7_paceFor_36 rfl (lv_at hl 0 rfl) ?_
        exact W.iret (v := v_1) hx hb hr (fun t ht hW => ⟨⟨v_1, (), rfl, ⟨(iv_w t_2.2 (by decide) (by decide)), (show v_1.toInt = mo_pace a.toInt b.toInt v.toInt from by unfold mo_pace; (repeat' split) <;> omega), trivial⟩, trivial⟩, hS.F ht⟩) hS.2.2 dX7_paceFor_37
      · skip
        have i_10 : 0 ≤ b.toInt ∧ b.toInt ≤ 0 := iv_eq1 (⟨by decide, by decide⟩ : (0 : Int) ≤ (0 : Int32).toInt ∧ (0 : Int32).toInt ≤ 0) c_8
        obtain ⟨v_12, ev_12⟩ : ∃ z : Int32, z = v_1 + 9 := ⟨_, rfl⟩
        refine lv_iinc (v := v_12) (lv' := [(3, .int v_12), (0, .int a), (1, .int b), (2, .int v)]) hx hb dX7_paceFor_33 hl (k := 0) rfl (by rw [ev_12]; rfl) (by decide) rfl (fun ls hl => ?_)
        have t_13 : v_12.toInt = v_1.toInt + 9 ∧ 27 ≤ v_12.toInt ∧ v_12.toInt ≤ 36 := iv_addc ev_12 t_2.2 (by decide) (by decide) (by decide)
        refine lv_iload_n hx hb dX7_paceFor_36 rfl (lv_at hl 0 rfl) ?_
        exact W.iret (v := v_12) hx hb hr (fun t ht hW => ⟨⟨v_12, (), rfl, ⟨(iv_w t_13.2 (by decide) (by decide)), (show v_12.toInt = mo_pace a.toInt b.toInt v.toInt from by unfold mo_pace; (repeat' split) <;> omega), trivial⟩, trivial⟩, hS.F ht⟩) hS.2.2 dX7_paceFor_37
    · skip
      have i_15 : 1 ≤ b.toInt ∧ b.toInt ≤ 1 := iv_eq1 (⟨by decide, by decide⟩ : (1 : Int) ≤ (1 : Int32).toInt ∧ (1 : Int32).toInt ≤ 1) c_6
      obtain ⟨v_17, ev_17⟩ : ∃ z : Int32, z = v_1 + 4 := ⟨_, rfl⟩
      refine lv_iinc (v := v_17) (lv' := [(3, .int v_17), (0, .int a), (1, .int b), (2, .int v)]) hx hb dX7_paceFor_26 hl (k := 0) rfl (by rw [ev_17]; rfl) (by decide) rfl (fun ls hl => ?_)
      have t_18 : v_17.toInt = v_1.toInt + 4 ∧ 22 ≤ v_17.toInt ∧ v_17.toInt ≤ 31 := iv_addc ev_17 t_2.2 (by decide) (by decide) (by decide)
      refine lv_iload_n hx hb dX7_paceFor_29 rfl (lv_at hl 2 rfl) ?_
      refine lv_if_ne (tgt := 36) hx hb dX7_paceFor_30 (by decide) (fun c_20 => ?_) (fun c_20 => ?_)
      · skip
        have k_21 : ¬ b.toInt = 0 := fun q => c_20 (Int32.toInt_inj.mp q)
        refine lv_iload_n hx hb dX7_paceFor_36 rfl (lv_at hl 0 rfl) ?_
        exact W.iret (v := v_17) hx hb hr (fun t ht hW => ⟨⟨v_17, (), rfl, ⟨(iv_w t_18.2 (by decide) (by decide)), (show v_17.toInt = mo_pace a.toInt b.toInt v.toInt from by unfold mo_pace; (repeat' split) <;> omega), trivial⟩, trivial⟩, hS.F ht⟩) hS.2.2 dX7_paceFor_37
      · skip
        exact absurd True.intro (by have h7 := i_15; have h8 := (⟨by decide, by decide⟩ : (0 : Int) ≤ (0 : Int32).toInt ∧ (0 : Int32).toInt ≤ 0); have h9 := congrArg Int32.toInt c_20; exfalso; omega)
  · skip
    have i_22 : 41 ≤ a.toInt ∧ a.toInt ≤ 99 := iv_lt2 (⟨by decide, by decide⟩ : (40 : Int) ≤ (40 : Int32).toInt ∧ (40 : Int32).toInt ≤ 40) h_a (Int32.not_le.mp c_4)
    refine lv_iload_n hx hb dX7_paceFor_11 rfl (lv_at hl 0 rfl) ?_
    refine lv_iload_n hx hb dX7_paceFor_12 rfl (lv_at hl 1 rfl) ?_
    refine lv_bipush (v := 40) hx hb dX7_paceFor_13 (by decide) ?_
    refine lv_isub hx hb dX7_paceFor_15 ?_
    refine lv_topi (fun v_23 ev_23 => ?_)
    have t_24 : v_23.toInt = a.toInt - 40 ∧ 1 ≤ v_23.toInt ∧ v_23.toInt ≤ 59 := iv_subc ev_23 i_22 (by decide) (by decide) (by decide)
    refine lv_bipush (v := 10) hx hb dX7_paceFor_16 (by decide) ?_
    refine lv_idiv hx hb dX7_paceFor_18 (by decide) ?_
    refine lv_topi (fun v_26 ev_26 => ?_)
    have t_27 : v_26.toInt = v_23.toInt / 10 ∧ 0 ≤ v_26.toInt ∧ v_26.toInt ≤ 5 := mo_dv10 ev_26 (iv_w t_24.2 (by decide) (Int.le_refl _)) (by decide)
    refine lv_iadd hx hb dX7_paceFor_19 ?_
    refine lv_topi (fun v_29 ev_29 => ?_)
    have t_30 : v_29.toInt = v_1.toInt + v_26.toInt ∧ 18 ≤ v_29.toInt ∧ v_29.toInt ≤ 32 := iv_add ev_29 t_2.2 t_27.2 (by decide) (by decide)
    refine lv_istore_n (lv' := [(3, .int v_29), (0, .int a), (1, .int b), (2, .int v)]) hx hb dX7_paceFor_20 rfl hl (by decide) rfl (fun ls hl => ?_)
    refine lv_iload_n hx hb dX7_paceFor_21 rfl (lv_at hl 2 rfl) ?_
    refine lv_iconst (v := 1) hx hb dX7_paceFor_22 (by decide) ?_
    refine lv_icmp_ne (tgt := 29) hx hb dX7_paceFor_23 (by decide) (fun c_32 => ?_) (fun c_32 => ?_)
    · skip
      have k_33 : ¬ b.toInt = 1 := fun q => c_32 (Int32.toInt_inj.mp q)
      refine lv_iload_n hx hb dX7_paceFor_29 rfl (lv_at hl 2 rfl) ?_
      refine lv_if_ne (tgt := 36) hx hb dX7_paceFor_30 (by decide) (fun c_34 => ?_) (fun c_34 => ?_)
      · skip
        have k_35 : ¬ b.toInt = 0 := fun q => c_34 (Int32.toInt_inj.mp q)
        refine lv_iload_n hx hb dX7_paceFor_36 rfl (lv_at hl 0 rfl) ?_
        exact W.iret (v := v_29) hx hb hr (fun t ht hW => ⟨⟨v_29, (), rfl, ⟨(iv_w t_30.2 (by decide) (by decide)), (show v_29.toInt = mo_pace a.toInt b.toInt v.toInt from by unfold mo_pace; (repeat' split) <;> omega), trivial⟩, trivial⟩, hS.F ht⟩) hS.2.2 dX7_paceFor_37
      · skip
        have i_36 : 0 ≤ b.toInt ∧ b.toInt ≤ 0 := iv_eq1 (⟨by decide, by decide⟩ : (0 : Int) ≤ (0 : Int32).toInt ∧ (0 : Int32).toInt ≤ 0) c_34
        obtain ⟨v_38, ev_38⟩ : ∃ z : Int32, z = v_29 + 9 := ⟨_, rfl⟩
        refine lv_iinc (v := v_38) (lv' := [(3, .int v_38), (0, .int a), (1, .int b), (2, .int v)]) hx hb dX7_paceFor_33 hl (k := 0) rfl (by rw [ev_38]; rfl) (by decide) rfl (fun ls hl => ?_)
        have t_39 : v_38.toInt = v_29.toInt + 9 ∧ 27 ≤ v_38.toInt ∧ v_38.toInt ≤ 41 := iv_addc ev_38 t_30.2 (by decide) (by decide) (by decide)
        refine lv_iload_n hx hb dX7_paceFor_36 rfl (lv_at hl 0 rfl) ?_
        exact W.iret (v := v_38) hx hb hr (fun t ht hW => ⟨⟨v_38, (), rfl, ⟨(iv_w t_39.2 (by decide) (by decide)), (show v_38.toInt = mo_pace a.toInt b.toInt v.toInt from by unfold mo_pace; (repeat' split) <;> omega), trivial⟩, trivial⟩, hS.F ht⟩) hS.2.2 dX7_paceFor_37
    · skip
      have i_41 : 1 ≤ b.toInt ∧ b.toInt ≤ 1 := iv_eq1 (⟨by decide, by decide⟩ : (1 : Int) ≤ (1 : Int32).toInt ∧ (1 : Int32).toInt ≤ 1) c_32
      obtain ⟨v_43, ev_43⟩ : ∃ z : Int32, z = v_29 + 4 := ⟨_, rfl⟩
      refine lv_iinc (v := v_43) (lv' := [(3, .int v_43), (0, .int a), (1, .int b), (2, .int v)]) hx hb dX7_paceFor_26 hl (k := 0) rfl (by rw [ev_43]; rfl) (by decide) rfl (fun ls hl => ?_)
      have t_44 : v_43.toInt = v_29.toInt + 4 ∧ 22 ≤ v_43.toInt ∧ v_43.toInt ≤ 36 := iv_addc ev_43 t_30.2 (by decide) (by decide) (by decide)
      refine lv_iload_n hx hb dX7_paceFor_29 rfl (lv_at hl 2 rfl) ?_
      refine lv_if_ne (tgt := 36) hx hb dX7_paceFor_30 (by decide) (fun c_46 => ?_) (fun c_46 => ?_)
      · skip
        have k_47 : ¬ b.toInt = 0 := fun q => c_46 (Int32.toInt_inj.mp q)
        refine lv_iload_n hx hb dX7_paceFor_36 rfl (lv_at hl 0 rfl) ?_
        exact W.iret (v := v_43) hx hb hr (fun t ht hW => ⟨⟨v_43, (), rfl, ⟨(iv_w t_44.2 (by decide) (by decide)), (show v_43.toInt = mo_pace a.toInt b.toInt v.toInt from by unfold mo_pace; (repeat' split) <;> omega), trivial⟩, trivial⟩, hS.F ht⟩) hS.2.2 dX7_paceFor_37
      · skip
        exact absurd True.intro (by have h7 := i_41; have h8 := (⟨by decide, by decide⟩ : (0 : Int) ≤ (0 : Int32).toInt ∧ (0 : Int32).toInt ≤ 0); have h9 := congrArg Int32.toInt c_46; exfalso; omega)
set_option maxHeartbeats 4000000 in
set_option maxRecDepth 100000 in
theorem x_minutesForE (l : Launch) (sz : Nat) (a : Int32) (b : Int32) (h_a : 0 ≤ a.toInt ∧ a.toInt ≤ 10000000) (h_b : 0 ≤ b.toInt ∧ b.toInt ≤ 50) : Met l yX7_minutesFor (.code yX7_minutesFor cX7_minutesFor 2 (some .int) :: lw_good) ({ frames := 2, cells := 0, slots := 0, locals := 40 }) (va_Pc [.int a, .int b] (fun U => U.heap.size = sz)) (va_Qi (fun (r : Int32) (_ : Unit) => (0 ≤ r.toInt ∧ r.toInt ≤ 50000000) ∧ (r.toInt = mo_min a.toInt b.toInt) ∧ True) (fun (_ : Unit) (_ : State) => True) (fun q => sz ≤ q)) 0 0 (fun q => sz ≤ q) := by
  refine Met.ofW (cc := cX7_minutesFor) (maxL := 2) (ret := (some .int)) (by decide) rfl ?_
  intro p e s m args below meth c s₁ B hml hv
  obtain ⟨rfl, hsz⟩ := hv
  have hx := B.exec
  have hb := B.bytes
  have hr := B.returns
  have hts := atoms_spec (ws := (.code yX7_minutesFor cX7_minutesFor 2 (some .int) :: lw_good)) B.pre
  have htg : ∀ w ∈ lw_good, w.before _ s = true := fun w hw => hts w (List.mem_cons_of_mem _ hw)
  have hown : s.vm.findClass RX7 = some m.cls := findClass_of_methodNamed B.named
  have hlocks := B.notSynchronized
  subst hsz
  have hS : va_S (fun q => s.heap.size ≤ q) s.heap s.heap [] := va_S.rf
  have hl := lv_entry ([.int a, .int b]) (n := 2) (Nat.le_of_ble_eq_true rfl)
  rw [lg_entry_eq]
  generalize (lg_sl ([.int a, .int b]) ++ List.replicate (2 - (lg_sl ([.int a, .int b])).length) Slot.unset).toArray = ls at hl ⊢
  have hl : lv_has ls 2 [(0, .int a), (1, .int b)] := hl
  refine lv_iload_n hx hb dX7_minutesFor_0 rfl (lv_at hl 0 rfl) ?_
  refine lv_ldc hx hb hown (htg (.constant RX7 72 10000000) kw_5_112) dX7_minutesFor_1 ?_
  refine lv_icmp_lt (tgt := 11) hx hb dX7_minutesFor_3 (by decide) (fun c_1 => ?_) (fun c_1 => ?_)
  · skip
    have i_2 : 0 ≤ a.toInt ∧ a.toInt ≤ 9999999 := iv_lt1 h_a (⟨by decide, by decide⟩ : (10000000 : Int) ≤ (10000000 : Int32).toInt ∧ (10000000 : Int32).toInt ≤ 10000000) c_1
    refine lv_iload_n hx hb dX7_minutesFor_11 rfl (lv_at hl 0 rfl) ?_
    refine lv_iload_n hx hb dX7_minutesFor_12 rfl (lv_at hl 1 rfl) ?_
    refine lv_imul hx hb dX7_minutesFor_13 ?_
    refine lv_topi (fun v_3 ev_3 => ?_)
    have t_4 : v_3.toInt = a.toInt * b.toInt ∧ 0 ≤ v_3.toInt ∧ v_3.toInt ≤ 500000000 := mo_mul ev_3 (iv_w i_2 (by decide) (by decide)) (iv_w h_b (by decide) (by decide))
    refine lv_bipush (v := 9) hx hb dX7_minutesFor_14 (by decide) ?_
    refine lv_iadd hx hb dX7_minutesFor_16 ?_
    refine lv_topi (fun v_6 ev_6 => ?_)
    have t_7 : v_6.toInt = v_3.toInt + 9 ∧ 9 ≤ v_6.toInt ∧ v_6.toInt ≤ 500000009 := iv_addc ev_6 t_4.2 (by decide) (by decide) (by decide)
    refine lv_bipush (v := 10) hx hb dX7_minutesFor_17 (by decide) ?_
    refine lv_idiv hx hb dX7_minutesFor_19 (by decide) ?_
    refine lv_topi (fun v_9 ev_9 => ?_)
    have t_10 : v_9.toInt = v_6.toInt / 10 ∧ 0 ≤ v_9.toInt ∧ v_9.toInt ≤ 50000000 := mo_dv10 ev_9 (iv_w t_7.2 (by decide) (Int.le_refl _)) (by decide)
    exact W.iret (v := v_9) hx hb hr (fun t ht hW => ⟨⟨v_9, (), rfl, ⟨t_10.2, (show v_9.toInt = mo_min a.toInt b.toInt from by unfold mo_min; (repeat' split) <;> omega), trivial⟩, trivial⟩, hS.F ht⟩) hS.2.2 dX7_minutesFor_20
  · skip
    have i_12 : 10000000 ≤ a.toInt ∧ a.toInt ≤ 10000000 := iv_le2 (⟨by decide, by decide⟩ : (10000000 : Int) ≤ (10000000 : Int32).toInt ∧ (10000000 : Int32).toInt ≤ 10000000) h_a (Int32.not_lt.mp c_1)
    refine lv_ldc hx hb hown (htg (.constant RX7 72 10000000) kw_5_112) dX7_minutesFor_6 ?_
    refine lv_goto (tgt := 20) hx hb dX7_minutesFor_8 (by decide) ?_
    have z_13 : (10000000 : Int32).toInt = 10000000 := by decide
    exact W.iret (v := 10000000) hx hb hr (fun t ht hW => ⟨⟨10000000, (), rfl, ⟨(iv_w (⟨by decide, by decide⟩ : (10000000 : Int) ≤ (10000000 : Int32).toInt ∧ (10000000 : Int32).toInt ≤ 10000000) (by decide) (by decide)), (show (10000000 : Int32).toInt = mo_min a.toInt b.toInt from by unfold mo_min; (repeat' split) <;> omega), trivial⟩, trivial⟩, hS.F ht⟩) hS.2.2 dX7_minutesFor_20
set_option maxHeartbeats 4000000 in
set_option maxRecDepth 100000 in
theorem x_walkMinutesE (l : Launch) (dC : Nat → ClassId) (dI : Nat → Nat → Nat) (sz : Nat) (ob ad : Nat → Nat) (cA : Nat → ClassId) (hd : dX ob ad) (fv : Nat → Int32) (wd : xT) (ar : Nat → Nat → Int32) (hF_fv : rX fv) (hA_ar : rB ar) (pp : Int32) (a : Int32) (b : Int32) (h_pp : 0 ≤ pp.toInt ∧ pp.toInt ≤ 39) (h_a : 0 ≤ a.toInt ∧ a.toInt ≤ 11) (h_b : 0 ≤ b.toInt ∧ b.toInt ≤ 11) (hpc : 0 ≤ (ar 64 (pp.toInt.toNat)).toInt ∧ (ar 64 (pp.toInt.toNat)).toInt ≤ 50) : Met l yX9_walkMinutes (.code yX9_walkMinutes cX9_walkMinutes 4 (some .int) :: lw_good) ({ frames := 3, cells := 0, slots := 0, locals := 62 }) (va_Pc [.ref (ob 9), .int pp, .int a, .int b] (prX dC dI ob ad cA fv wd ar sz)) (va_Qi (fun (r : Int32) (u : xS) => rX u.1 ∧ rB u.2.2 ∧ fM [] fv u.1 ∧ fA [] ar u.2.2 ∧ u.2.1.2 = wd.2 ∧ (0 ≤ r.toInt ∧ r.toInt ≤ 50000000) ∧ (r.toInt = mo_wk (mx_G ar) (ar 64 (pp.toInt.toNat)).toInt a.toInt.toNat b.toInt.toNat) ∧ True) (enX dC dI ob ad cA) (aX ob ad sz)) 0 0 (aX ob ad sz) := by
  refine Met.ofW (cc := cX9_walkMinutes) (maxL := 4) (ret := (some .int)) (by decide) rfl ?_
  intro p e s m args below meth c s₁ B hml hv
  obtain ⟨rfl, hsz, hP, hK⟩ := hv
  have hx := B.exec
  have hb := B.bytes
  have hr := B.returns
  have hts := atoms_spec (ws := (.code yX9_walkMinutes cX9_walkMinutes 4 (some .int) :: lw_good)) B.pre
  have htg : ∀ w ∈ lw_good, w.before _ s = true := fun w hw => hts w (List.mem_cons_of_mem _ hw)
  have hown : s.vm.findClass RX9 = some m.cls := findClass_of_methodNamed B.named
  have hlocks := B.notSynchronized
  subst hsz
  have hS : va_S (aX ob ad s.heap.size) s.heap s.heap [] := va_S.rf
  have hl := lv_entry ([.ref (ob 9), .int pp, .int a, .int b]) (n := 4) (Nat.le_of_ble_eq_true rfl)
  rw [lg_entry_eq]
  generalize (lg_sl ([.ref (ob 9), .int pp, .int a, .int b]) ++ List.replicate (4 - (lg_sl ([.ref (ob 9), .int pp, .int a, .int b])).length) Slot.unset).toArray = ls at hl ⊢
  have hl : lv_has ls 4 [(0, .ref (ob 9)), (1, .int pp), (2, .int a), (3, .int b)] := hl
  refine lv_aload_n hx hb dX9_walkMinutes_0 rfl (lv_at hl 0 rfl) ?_
  refine gX_X9_9 hx hb htg hown hK hP dX9_walkMinutes_1 ?_
  refine gX_X9_101 hx hb htg hown hK hP dX9_walkMinutes_4 ?_
  refine lv_iload_n hx hb dX9_walkMinutes_7 rfl (lv_at hl 2 rfl) ?_
  refine lv_iload_n hx hb dX9_walkMinutes_8 rfl (lv_at hl 3 rfl) ?_
  refine va_calli (va_runV (As := [.int a, .int b]) (rest := []) ⟨hx, hb, hml, hown, hts⟩ (x_between l dC dI s.heap.size ob ad cA hd fv wd ar hF_fv hA_ar a b) (cwV 2 hts (gV kw_5_138 kw_3_147 kw_3_148 kw_1_3 kw_3_149) rfl rfl rfl (by decide +kernel) ⟨Nat.le_of_ble_eq_true rfl, Nat.le_of_ble_eq_true rfl⟩) ⟨fun a U g mk q => ⟨q.1, q.2.1, q.2.2.1, va_K.moved (u := U) (U := U.calling g mk a) (Vm.Alike.refl U.vm) q.2.2.2⟩, va_recv hK hP (ci := 5) (q0 := 2) rfl rfl, fun U hU hW => ⟨rfl, by rw [hU], by rw [hU]; exact hP, va_K.moved hW.alike hK⟩⟩ rfl rfl hl.1 rfl (lv_room (Nat.le_of_ble_eq_true rfl)) dX9_walkMinutes_9 ⟨Nat.le_of_ble_eq_true rfl, Nat.le_of_ble_eq_true rfl⟩) hS (fun q _ h9 => aX_up hS q h9) (aX_up hS) (fun r_1 u t H1 locs ht _ hw hB _ hk1 hS => ?_)
  obtain ⟨fv_4, wd_5, ar_6⟩ := u
  obtain ⟨hF_fv_4, hA_ar_6, fr_7, fa_8, wf_9, p_2, p_3, -⟩ := hw
  have wf_9 : wd_5.2 = wd.2 := wf_9
  have hP : va_P (dC, dI) vwCl (wsX ob ad cA fv_4 wd_5 ar_6) H1 := by have h9 := hB.1; rw [ht] at h9; exact h9
  have fr_7 : fM [] fv fv_4 := fr_7
  have fa_8 : fA [] ar ar_6 := fa_8
  have p_3 : wt_bt r_1 a b (ar 5) := p_3
  generalize H1 = H at hP hS ⊢
  have k_10 : r_1.toInt = (ar 5 (12 * a.toInt.toNat + b.toInt.toNat)).toInt := by have h9 := wt_btv p_3 h_a h_b; rw [h9]
  refine lv_aload_n hx hb dX9_walkMinutes_12 rfl (lv_at hl 0 rfl) ?_
  refine gX_X9_38 hx hb htg hown hK hP dX9_walkMinutes_13 ?_
  refine lv_iload_n hx hb dX9_walkMinutes_16 rfl (lv_at hl 1 rfl) ?_
  refine lX_64 hx hb hK hP (iv_in h_pp (by decide) (by decide)) dX9_walkMinutes_17 (fun v_11 ev_11 => ?_)
  have i_12 : 0 ≤ v_11.toInt ∧ v_11.toInt ≤ 50 := (by rw [ev_11, show ar_6 64 = ar 64 from ((fA_call (fA_rf [] _) fa_8 (by decide)) 64 rfl)]; exact hpc)
  refine va_calli (va_runS (As := [.int r_1, .int v_11]) (rest := []) ⟨hx, hb, hml, hown, hts⟩ (x_minutesForE l H.size r_1 v_11 p_2 i_12) (va_cwS 2 hts (gS kw_5_139 kw_5_110 kw_1_2 kw_5_111) rfl rfl rfl (by decide +kernel) ⟨Nat.le_of_ble_eq_true rfl, Nat.le_of_ble_eq_true rfl⟩) ⟨fun a U g mk q => ⟨q.1, q.2⟩, fun U hU hW => ⟨rfl, congrArg Array.size hU⟩⟩ rfl rfl hl.1 rfl (lv_room (Nat.le_of_ble_eq_true rfl)) dX9_walkMinutes_18 ⟨Nat.le_of_ble_eq_true rfl, Nat.le_of_ble_eq_true rfl⟩) hS (fun q _ h9 => nX_up hS q h9) (nX_up hS) (fun r_13 u t H1 locs ht _ hw hB _ hk1 hS => ?_)
  obtain ⟨p_14, p_15, -⟩ := hw
  have hP := my_keepM hP hk1
  generalize H1 = H at hP hS ⊢
  exact W.iret (v := r_13) hx hb hr (fun t ht hW => ⟨⟨r_13, (fv_4, wd_5, ar_6), rfl, ⟨hF_fv_4, hA_ar_6, (fM_call (fM_rf [] _) fr_7 (by decide)), (fA_call (fA_rf [] _) fa_8 (by decide)), wf_9, p_14, (show r_13.toInt = mo_wk (mx_G ar) (ar 64 (pp.toInt.toNat)).toInt a.toInt.toNat b.toInt.toNat from by have h9 := p_15; rw [k_10, show v_11 = ar 64 (pp.toInt.toNat) from (show v_11 = ar 64 (pp.toInt.toNat) from by rw [ev_11, show ar_6 64 = ar 64 from ((fA_call (fA_rf [] _) fa_8 (by decide)) 64 rfl)]; exact congrArg (ar 64) (show pp.toInt.toNat = (pp.toInt.toNat) from by omega))] at h9; exact h9), trivial⟩, ⟨by rw [ht]; exact hP, va_K.moved hW.alike hK⟩⟩, hS.F ht⟩) hS.2.2 dX9_walkMinutes_21
set_option maxHeartbeats 4000000 in
set_option maxRecDepth 100000 in
theorem x_setPaceE (l : Launch) (dC : Nat → ClassId) (dI : Nat → Nat → Nat) (sz : Nat) (ob ad : Nat → Nat) (cA : Nat → ClassId) (hd : dX ob ad) (fv : Nat → Int32) (wd : xT) (ar : Nat → Nat → Int32) (hF_fv : rX fv) (hA_ar : rB ar) (pp : Int32) (b : Int32) (h_pp : 0 ≤ pp.toInt ∧ pp.toInt ≤ 39) (hp_mR : mx_R fv ar) : Met l yX9_setPace (.code yX9_setPace cX9_setPace 3 none :: lw_good) ({ frames := 3, cells := 0, slots := 0, locals := 63 }) (va_Pc [.ref (ob 9), .int pp, .int b] (prX dC dI ob ad cA fv wd ar sz)) (va_Qv (fun (u : xS) => rX u.1 ∧ rB u.2.2 ∧ fM [] fv u.1 ∧ fA [64] ar u.2.2 ∧ u.2.1.2 = wd.2 ∧ (∃ v : Int32, v.toInt = mo_pc (mx_D fv ar) b (pp.toInt.toNat) ∧ u.2.2 64 = upd (ar 64) (pp.toInt.toNat) v) ∧ True) (enX dC dI ob ad cA) (aX ob ad sz)) 0 0 (aX ob ad sz) := by
  refine Met.ofW (cc := cX9_setPace) (maxL := 3) (ret := none) (by decide) rfl ?_
  intro p e s m args below meth c s₁ B hml hv
  obtain ⟨rfl, hsz, hP, hK⟩ := hv
  have hx := B.exec
  have hb := B.bytes
  have hr := B.returns
  have hts := atoms_spec (ws := (.code yX9_setPace cX9_setPace 3 none :: lw_good)) B.pre
  have htg : ∀ w ∈ lw_good, w.before _ s = true := fun w hw => hts w (List.mem_cons_of_mem _ hw)
  have hown : s.vm.findClass RX9 = some m.cls := findClass_of_methodNamed B.named
  have hlocks := B.notSynchronized
  subst hsz
  have hS : va_S (aX ob ad s.heap.size) s.heap s.heap [] := va_S.rf
  have hl := lv_entry ([.ref (ob 9), .int pp, .int b]) (n := 3) (Nat.le_of_ble_eq_true rfl)
  rw [lg_entry_eq]
  generalize (lg_sl ([.ref (ob 9), .int pp, .int b]) ++ List.replicate (3 - (lg_sl ([.ref (ob 9), .int pp, .int b])).length) Slot.unset).toArray = ls at hl ⊢
  have hl : lv_has ls 3 [(0, .ref (ob 9)), (1, .int pp), (2, .int b)] := hl
  refine lv_aload_n hx hb dX9_setPace_0 rfl (lv_at hl 0 rfl) ?_
  refine gX_X9_38 hx hb htg hown hK hP dX9_setPace_1 ?_
  refine lv_iload_n hx hb dX9_setPace_4 rfl (lv_at hl 1 rfl) ?_
  refine lv_aload_n hx hb dX9_setPace_5 rfl (lv_at hl 0 rfl) ?_
  refine gX_X9_9 hx hb htg hown hK hP dX9_setPace_6 ?_
  refine gX_X9_91 hx hb htg hown hK hP dX9_setPace_9 ?_
  refine gX_X9_95 hx hb htg hown hK hP dX9_setPace_12 ?_
  refine lv_iload_n hx hb dX9_setPace_15 rfl (lv_at hl 1 rfl) ?_
  refine lX_11 hx hb hK hP (iv_in h_pp (by decide) (by decide)) dX9_setPace_16 (fun v_1 ev_1 => ?_)
  have i_2 : 0 ≤ v_1.toInt ∧ v_1.toInt ≤ 99 := (by rw [ev_1]; exact hp_mR.1.2.2.2.2.1 _)
  refine lv_iload_n hx hb dX9_setPace_17 rfl (lv_at hl 2 rfl) ?_
  refine lv_aload_n hx hb dX9_setPace_18 rfl (lv_at hl 0 rfl) ?_
  refine gX_X9_9 hx hb htg hown hK hP dX9_setPace_19 ?_
  refine lv_aload_n hx hb dX9_setPace_22 rfl (lv_at hl 0 rfl) ?_
  refine gX_X9_9 hx hb htg hown hK hP dX9_setPace_23 ?_
  refine gX_X9_41 hx hb htg hown hK hP dX9_setPace_26 ?_
  have i_3 : 0 ≤ (fv 7).toInt ∧ (fv 7).toInt ≤ 199 := hF_fv 7
  have z_4 : 0 ≤ (fv 5).toInt ∧ (fv 5).toInt ≤ 200 := hF_fv 5
  refine va_calli (va_runV (As := [.int (fv 7)]) (rest := [.int b, .int v_1, .int pp, .ref (ad 64)]) ⟨hx, hb, hml, hown, hts⟩ (x_rainOnC l dC dI s.heap.size ob ad cA hd fv wd ar hF_fv hA_ar (fv 7) i_3) (cwV 1 hts (gV kw_5_65 kw_3_231 kw_3_232 kw_1_2 kw_3_233) rfl rfl rfl (by decide +kernel) ⟨Nat.le_of_ble_eq_true rfl, Nat.le_of_ble_eq_true rfl⟩) ⟨fun a U g mk q => ⟨q.1, q.2.1, q.2.2.1, va_K.moved (u := U) (U := U.calling g mk a) (Vm.Alike.refl U.vm) q.2.2.2⟩, va_recv hK hP (ci := 7) (q0 := 1) rfl rfl, fun U hU hW => ⟨rfl, by rw [hU], by rw [hU]; exact hP, va_K.moved hW.alike hK⟩⟩ rfl rfl hl.1 rfl (lv_room (Nat.le_of_ble_eq_true rfl)) dX9_setPace_29 ⟨Nat.le_of_ble_eq_true rfl, Nat.le_of_ble_eq_true rfl⟩) hS (fun q _ h9 => aX_up hS q h9) (aX_up hS) (fun r_5 u t H1 locs ht _ hw hB _ hk1 hS => ?_)
  obtain ⟨fv_7, wd_8, ar_9⟩ := u
  obtain ⟨hF_fv_7, hA_ar_9, fr_10, fa_11, wf_12, p_6, -⟩ := hw
  have wf_12 : wd_8.2 = wd.2 := wf_12
  have hP : va_P (dC, dI) vwCl (wsX ob ad cA fv_7 wd_8 ar_9) H1 := by have h9 := hB.1; rw [ht] at h9; exact h9
  have fr_10 : fM [] fv fv_7 := fr_10
  have fa_11 : fA [] ar ar_9 := fa_11
  have p_6 : wt_on r_5 (fv 7) (fv 5) (ar 3) := p_6
  generalize H1 = H at hP hS ⊢
  have rn_13 : r_5 = mx_rn fv ar := by have h9 := p_6; exact mo_rnI h9
  have i_14 : 0 ≤ r_5.toInt ∧ r_5.toInt ≤ 9 := (by rw [rn_13]; exact hp_mR.1.2.2.2.2.2.2)
  refine va_calli (va_runS (As := [.int v_1, .int b, .int r_5]) (rest := [.int pp, .ref (ad 64)]) ⟨hx, hb, hml, hown, hts⟩ (x_paceForE l H.size v_1 b r_5 i_2 i_14) (va_cwS 3 hts (gS kw_5_66 kw_5_67 kw_1_2 kw_5_68) rfl rfl rfl (by decide +kernel) ⟨Nat.le_of_ble_eq_true rfl, Nat.le_of_ble_eq_true rfl⟩) ⟨fun a U g mk q => ⟨q.1, q.2⟩, fun U hU hW => ⟨rfl, congrArg Array.size hU⟩⟩ rfl rfl hl.1 rfl (lv_room (Nat.le_of_ble_eq_true rfl)) dX9_setPace_32 ⟨Nat.le_of_ble_eq_true rfl, Nat.le_of_ble_eq_true rfl⟩) hS (fun q _ h9 => nX_up hS q h9) (nX_up hS) (fun r_15 u t H1 locs ht _ hw hB _ hk1 hS => ?_)
  obtain ⟨p_16, p_17, -⟩ := hw
  have hP := my_keepM hP hk1
  generalize H1 = H at hP hS ⊢
  refine sX_64 hx hb hK hP hS hd (iv_in h_pp (by decide) (by decide)) dX9_setPace_35 (fun H locs ar_18 ear_18 hP hS => ?_)
  have hA_ar_18 : rB ar_18 := rB_put hA_ar_9 ear_18 (iv_any _)
  exact W.vret hx hb hr (fun t ht hW => ⟨⟨(fv_7, wd_8, ar_18), rfl, ⟨hF_fv_7, hA_ar_18, (fM_call (fM_rf [] _) fr_10 (by decide)), (fA_put (fA_call (fA_rf [64] _) fa_11 (by decide)) ear_18 (by decide)), wf_12, (show ∃ v : Int32, v.toInt = mo_pc (mx_D fv ar) b (pp.toInt.toNat) ∧ ar_18 64 = upd (ar 64) (pp.toInt.toNat) v from ⟨r_15, by have h9 := p_17; rw [show v_1 = ar 11 (pp.toInt.toNat) from (show v_1 = ar 11 (pp.toInt.toNat) from by rw [ev_1]; exact congrArg (ar 11) (show pp.toInt.toNat = (pp.toInt.toNat) from by omega)), rn_13] at h9; exact h9, (by rw [ear_18]; show upd (ar_9 64) (Int32.toNatClampNeg pp) r_15 = _; rw [show ar_9 64 = ar 64 from ((fA_call (fA_rf [] _) fa_11 (by decide)) 64 rfl)]; rw [show Int32.toNatClampNeg pp = (pp.toInt.toNat) from (show pp.toInt.toNat = (pp.toInt.toNat) from by omega)])⟩), trivial⟩, ⟨by rw [ht]; exact hP, va_K.moved hW.alike hK⟩⟩, hS.F ht⟩) hS.2.2 dX9_setPace_36
set_option maxHeartbeats 4000000 in
set_option maxRecDepth 100000 in
theorem x_lengthOfE (l : Launch) (dC : Nat → ClassId) (dI : Nat → Nat → Nat) (sz : Nat) (ob ad : Nat → Nat) (cA : Nat → ClassId) (hd : dX ob ad) (fv : Nat → Int32) (wd : xT) (ar : Nat → Nat → Int32) (hF_fv : rX fv) (hA_ar : rB ar) (kk : Int32) (h_kk : 0 ≤ kk.toInt ∧ kk.toInt ≤ 79) (hp_mR : mx_R fv ar) : Met l yX7_lengthOf (.code yX7_lengthOf cX7_lengthOf 2 (some .int) :: lw_good) ({ frames := 3, cells := 0, slots := 0, locals := 62 }) (va_Pc [.ref (ob 1), .int kk] (prX dC dI ob ad cA fv wd ar sz)) (va_Qi (fun (r : Int32) (u : xS) => rX u.1 ∧ rB u.2.2 ∧ fM [] fv u.1 ∧ fA [] ar u.2.2 ∧ u.2.1.2 = wd.2 ∧ (0 ≤ r.toInt ∧ r.toInt ≤ 10000000) ∧ (r.toInt = mo_ln (mx_D fv ar) (mx_G ar) (kk.toInt.toNat)) ∧ True) (enX dC dI ob ad cA) (aX ob ad sz)) 0 0 (aX ob ad sz) := by
  refine Met.ofW (cc := cX7_lengthOf) (maxL := 2) (ret := (some .int)) (by decide) rfl ?_
  intro p e s m args below meth c s₁ B hml hv
  obtain ⟨rfl, hsz, hP, hK⟩ := hv
  have hx := B.exec
  have hb := B.bytes
  have hr := B.returns
  have hts := atoms_spec (ws := (.code yX7_lengthOf cX7_lengthOf 2 (some .int) :: lw_good)) B.pre
  have htg : ∀ w ∈ lw_good, w.before _ s = true := fun w hw => hts w (List.mem_cons_of_mem _ hw)
  have hown : s.vm.findClass RX7 = some m.cls := findClass_of_methodNamed B.named
  have hlocks := B.notSynchronized
  subst hsz
  have hS : va_S (aX ob ad s.heap.size) s.heap s.heap [] := va_S.rf
  have hl := lv_entry ([.ref (ob 1), .int kk]) (n := 2) (Nat.le_of_ble_eq_true rfl)
  rw [lg_entry_eq]
  generalize (lg_sl ([.ref (ob 1), .int kk]) ++ List.replicate (2 - (lg_sl ([.ref (ob 1), .int kk])).length) Slot.unset).toArray = ls at hl ⊢
  have hl : lv_has ls 2 [(0, .ref (ob 1)), (1, .int kk)] := hl
  refine lv_aload_n hx hb dX7_lengthOf_0 rfl (lv_at hl 0 rfl) ?_
  refine gX_X7_12 hx hb htg hown hK hP dX7_lengthOf_1 ?_
  refine lv_aload_n hx hb dX7_lengthOf_4 rfl (lv_at hl 0 rfl) ?_
  refine gX_X7_39 hx hb htg hown hK hP dX7_lengthOf_5 ?_
  refine lv_aload_n hx hb dX7_lengthOf_8 rfl (lv_at hl 0 rfl) ?_
  refine gX_X7_35 hx hb htg hown hK hP dX7_lengthOf_9 ?_
  refine gX_X7_73 hx hb htg hown hK hP dX7_lengthOf_12 ?_
  refine lv_iload_n hx hb dX7_lengthOf_15 rfl (lv_at hl 1 rfl) ?_
  refine lX_29 hx hb hK hP (iv_in h_kk (by decide) (by decide)) dX7_lengthOf_16 (fun v_1 ev_1 => ?_)
  have i_2 : 0 ≤ v_1.toInt ∧ v_1.toInt ≤ 7 := ev_1 ▸ hA_ar 29 _
  refine lX_2 hx hb hK hP (iv_in i_2 (by decide) (by decide)) dX7_lengthOf_17 (fun v_3 ev_3 => ?_)
  have i_4 : 0 ≤ v_3.toInt ∧ v_3.toInt ≤ 11 := ev_3 ▸ hA_ar 2 _
  refine lv_aload_n hx hb dX7_lengthOf_18 rfl (lv_at hl 0 rfl) ?_
  refine gX_X7_39 hx hb htg hown hK hP dX7_lengthOf_19 ?_
  refine lv_aload_n hx hb dX7_lengthOf_22 rfl (lv_at hl 0 rfl) ?_
  refine gX_X7_35 hx hb htg hown hK hP dX7_lengthOf_23 ?_
  refine gX_X7_76 hx hb htg hown hK hP dX7_lengthOf_26 ?_
  refine lv_iload_n hx hb dX7_lengthOf_29 rfl (lv_at hl 1 rfl) ?_
  refine lX_30 hx hb hK hP (iv_in h_kk (by decide) (by decide)) dX7_lengthOf_30 (fun v_5 ev_5 => ?_)
  have i_6 : 0 ≤ v_5.toInt ∧ v_5.toInt ≤ 7 := ev_5 ▸ hA_ar 30 _
  refine lX_2 hx hb hK hP (iv_in i_6 (by decide) (by decide)) dX7_lengthOf_31 (fun v_7 ev_7 => ?_)
  have i_8 : 0 ≤ v_7.toInt ∧ v_7.toInt ≤ 11 := ev_7 ▸ hA_ar 2 _
  refine va_calli (va_runV (As := [.int v_3, .int v_7]) (rest := []) ⟨hx, hb, hml, hown, hts⟩ (x_between l dC dI s.heap.size ob ad cA hd fv wd ar hF_fv hA_ar v_3 v_7) (cwV 2 hts (gV kw_5_98 kw_3_147 kw_3_148 kw_1_3 kw_3_149) rfl rfl rfl (by decide +kernel) ⟨Nat.le_of_ble_eq_true rfl, Nat.le_of_ble_eq_true rfl⟩) ⟨fun a U g mk q => ⟨q.1, q.2.1, q.2.2.1, va_K.moved (u := U) (U := U.calling g mk a) (Vm.Alike.refl U.vm) q.2.2.2⟩, va_recv hK hP (ci := 5) (q0 := 2) rfl rfl, fun U hU hW => ⟨rfl, by rw [hU], by rw [hU]; exact hP, va_K.moved hW.alike hK⟩⟩ rfl rfl hl.1 rfl (lv_room (Nat.le_of_ble_eq_true rfl)) dX7_lengthOf_32 ⟨Nat.le_of_ble_eq_true rfl, Nat.le_of_ble_eq_true rfl⟩) hS (fun q _ h9 => aX_up hS q h9) (aX_up hS) (fun r_9 u t H1 locs ht _ hw hB _ hk1 hS => ?_)
  obtain ⟨fv_12, wd_13, ar_14⟩ := u
  obtain ⟨hF_fv_12, hA_ar_14, fr_15, fa_16, wf_17, p_10, p_11, -⟩ := hw
  have wf_17 : wd_13.2 = wd.2 := wf_17
  have hP : va_P (dC, dI) vwCl (wsX ob ad cA fv_12 wd_13 ar_14) H1 := by have h9 := hB.1; rw [ht] at h9; exact h9
  have fr_15 : fM [] fv fv_12 := fr_15
  have fa_16 : fA [] ar ar_14 := fa_16
  have p_11 : wt_bt r_9 v_3 v_7 (ar 5) := p_11
  generalize H1 = H at hP hS ⊢
  have k_18 : r_9.toInt = (ar 5 (12 * v_3.toInt.toNat + v_7.toInt.toNat)).toInt := by have h9 := wt_btv p_11 i_4 i_8; rw [h9]
  exact W.iret (v := r_9) hx hb hr (fun t ht hW => ⟨⟨r_9, (fv_12, wd_13, ar_14), rfl, ⟨hF_fv_12, hA_ar_14, (fM_call (fM_rf [] _) fr_15 (by decide)), (fA_call (fA_rf [] _) fa_16 (by decide)), wf_17, p_10, (show r_9.toInt = mo_ln (mx_D fv ar) (mx_G ar) (kk.toInt.toNat) from by rw [k_18, ev_3, ev_7, ev_1, ev_5]; rfl), trivial⟩, ⟨by rw [ht]; exact hP, va_K.moved hW.alike hK⟩⟩, hS.F ht⟩) hS.2.2 dX7_lengthOf_35
set_option maxHeartbeats 4000000 in
set_option maxRecDepth 100000 in
theorem x_driveMinutesE (l : Launch) (dC : Nat → ClassId) (dI : Nat → Nat → Nat) (sz : Nat) (ob ad : Nat → Nat) (cA : Nat → ClassId) (hd : dX ob ad) (fv : Nat → Int32) (wd : xT) (ar : Nat → Nat → Int32) (hF_fv : rX fv) (hA_ar : rB ar) (kk : Int32) (b : Int32) (h_kk : 0 ≤ kk.toInt ∧ kk.toInt ≤ 79) (h_b : 0 ≤ b.toInt ∧ b.toInt ≤ 9) (hbr : b = mx_rn fv ar) (hp_mR : mx_R fv ar) : Met l yX7_driveMinutes (.code yX7_driveMinutes cX7_driveMinutes 5 (some .int) :: lw_good) ({ frames := 4, cells := 0, slots := 0, locals := 83 }) (va_Pc [.ref (ob 1), .int kk, .int b] (prX dC dI ob ad cA fv wd ar sz)) (va_Qi (fun (r : Int32) (u : xS) => rX u.1 ∧ rB u.2.2 ∧ fM [] fv u.1 ∧ fA [] ar u.2.2 ∧ u.2.1.2 = wd.2 ∧ (1 ≤ r.toInt ∧ r.toInt ≤ 50000000) ∧ (r.toInt = mo_dr (mx_D fv ar) (mx_G ar) (kk.toInt.toNat)) ∧ True) (enX dC dI ob ad cA) (aX ob ad sz)) 0 0 (aX ob ad sz) := by
  refine Met.ofW (cc := cX7_driveMinutes) (maxL := 5) (ret := (some .int)) (by decide) rfl ?_
  intro p e s m args below meth c s₁ B hml hv
  obtain ⟨rfl, hsz, hP, hK⟩ := hv
  have hx := B.exec
  have hb := B.bytes
  have hr := B.returns
  have hts := atoms_spec (ws := (.code yX7_driveMinutes cX7_driveMinutes 5 (some .int) :: lw_good)) B.pre
  have htg : ∀ w ∈ lw_good, w.before _ s = true := fun w hw => hts w (List.mem_cons_of_mem _ hw)
  have hown : s.vm.findClass RX7 = some m.cls := findClass_of_methodNamed B.named
  have hlocks := B.notSynchronized
  subst hsz
  have hS : va_S (aX ob ad s.heap.size) s.heap s.heap [] := va_S.rf
  have hl := lv_entry ([.ref (ob 1), .int kk, .int b]) (n := 5) (Nat.le_of_ble_eq_true rfl)
  rw [lg_entry_eq]
  generalize (lg_sl ([.ref (ob 1), .int kk, .int b]) ++ List.replicate (5 - (lg_sl ([.ref (ob 1), .int kk, .int b])).length) Slot.unset).toArray = ls at hl ⊢
  have hl : lv_has ls 5 [(0, .ref (ob 1)), (1, .int kk), (2, .int b)] := hl
  refine lv_aload_n hx hb dX7_driveMinutes_0 rfl (lv_at hl 0 rfl) ?_
  refine gX_X7_28 hx hb htg hown hK hP dX7_driveMinutes_1 ?_
  refine gX_X7_83 hx hb htg hown hK hP dX7_driveMinutes_4 ?_
  refine lv_aload_n hx hb dX7_driveMinutes_7 rfl (lv_at hl 0 rfl) ?_
  refine gX_X7_35 hx hb htg hown hK hP dX7_driveMinutes_8 ?_
  refine gX_X7_86 hx hb htg hown hK hP dX7_driveMinutes_11 ?_
  refine lv_iload_n hx hb dX7_driveMinutes_14 rfl (lv_at hl 1 rfl) ?_
  refine lX_28 hx hb hK hP (iv_in h_kk (by decide) (by decide)) dX7_driveMinutes_15 (fun v_1 ev_1 => ?_)
  have i_2 : 0 ≤ v_1.toInt ∧ v_1.toInt ≤ 19 := ev_1 ▸ hA_ar 28 _
  refine lX_20 hx hb hK hP (iv_in i_2 (by decide) (by decide)) dX7_driveMinutes_16 (fun v_3 ev_3 => ?_)
  refine lv_istore_n (lv' := [(3, .int v_3), (0, .ref (ob 1)), (1, .int kk), (2, .int b)]) hx hb dX7_driveMinutes_17 rfl hl (by decide) rfl (fun ls hl => ?_)
  refine lv_iload_n hx hb dX7_driveMinutes_18 rfl (lv_at hl 0 rfl) ?_
  refine lv_iconst (v := 1) hx hb dX7_driveMinutes_19 (by decide) ?_
  refine lv_icmp_ne (tgt := 27) hx hb dX7_driveMinutes_20 (by decide) (fun c_4 => ?_) (fun c_4 => ?_)
  · skip
    have k_5 : ¬ v_3.toInt = 1 := fun q => c_4 (Int32.toInt_inj.mp q)
    refine lv_iconst (v := 3) hx hb dX7_driveMinutes_27 (by decide) ?_
    refine lv_istore (lv' := [(4, .int 3), (3, .int v_3), (0, .ref (ob 1)), (1, .int kk), (2, .int b)]) hx hb dX7_driveMinutes_28 hl (by decide) rfl (fun ls hl => ?_)
    refine lv_iload_n hx hb dX7_driveMinutes_30 rfl (lv_at hl 4 rfl) ?_
    refine lv_iconst (v := 4) hx hb dX7_driveMinutes_31 (by decide) ?_
    refine lv_icmp_le (tgt := 43) hx hb dX7_driveMinutes_32 (by decide) (fun c_6 => ?_) (fun c_6 => ?_)
    · skip
      have i_7 : 0 ≤ b.toInt ∧ b.toInt ≤ 4 := iv_le1 h_b (⟨by decide, by decide⟩ : (4 : Int) ≤ (4 : Int32).toInt ∧ (4 : Int32).toInt ≤ 4) c_6
      refine lv_iconst (v := 1) hx hb dX7_driveMinutes_43 (by decide) ?_
      refine lv_aload_n hx hb dX7_driveMinutes_44 rfl (lv_at hl 2 rfl) ?_
      refine lv_iload_n hx hb dX7_driveMinutes_45 rfl (lv_at hl 3 rfl) ?_
      refine va_calli (va_runV (As := [.int kk]) (rest := [.int 1]) ⟨hx, hb, hml, hown, hts⟩ (x_lengthOfE l dC dI s.heap.size ob ad cA hd fv wd ar hF_fv hA_ar kk h_kk hp_mR) (cwV 1 hts (gV kw_5_108 kw_5_95 kw_5_96 kw_1_2 kw_5_97) rfl rfl rfl (by decide +kernel) ⟨Nat.le_of_ble_eq_true rfl, Nat.le_of_ble_eq_true rfl⟩) ⟨fun a U g mk q => ⟨q.1, q.2.1, q.2.2.1, va_K.moved (u := U) (U := U.calling g mk a) (Vm.Alike.refl U.vm) q.2.2.2⟩, va_recv hK hP (ci := 7) (q0 := 1) rfl rfl, fun U hU hW => ⟨rfl, by rw [hU], by rw [hU]; exact hP, va_K.moved hW.alike hK⟩⟩ rfl rfl hl.1 rfl (lv_room (Nat.le_of_ble_eq_true rfl)) dX7_driveMinutes_46 ⟨Nat.le_of_ble_eq_true rfl, Nat.le_of_ble_eq_true rfl⟩) hS (fun q _ h9 => aX_up hS q h9) (aX_up hS) (fun r_8 u t H1 locs ht _ hw hB _ hk1 hS => ?_)
      obtain ⟨fv_11, wd_12, ar_13⟩ := u
      obtain ⟨hF_fv_11, hA_ar_13, fr_14, fa_15, wf_16, p_9, p_10, -⟩ := hw
      have wf_16 : wd_12.2 = wd.2 := wf_16
      have hP : va_P (dC, dI) vwCl (wsX ob ad cA fv_11 wd_12 ar_13) H1 := by have h9 := hB.1; rw [ht] at h9; exact h9
      have fr_14 : fM [] fv fv_11 := fr_14
      have fa_15 : fA [] ar ar_13 := fa_15
      have p_10 : r_8.toInt = mo_ln (mx_D fv ar) (mx_G ar) (kk.toInt.toNat) := p_10
      generalize H1 = H at hP hS ⊢
      have ln_17 : r_8.toInt = mo_ln (mx_D fv ar) (mx_G ar) (kk.toInt.toNat) := by have h9 := p_10; exact h9
      refine lv_iload hx hb dX7_driveMinutes_49 (lv_at hl 0 rfl) ?_
      refine va_calli (va_runS (As := [.int r_8, .int 3]) (rest := [.int 1]) ⟨hx, hb, hml, hown, hts⟩ (x_minutesForE l H.size r_8 3 p_9 (iv_w (⟨by decide, by decide⟩ : (3 : Int) ≤ (3 : Int32).toInt ∧ (3 : Int32).toInt ≤ 3) (by decide) (by decide))) (va_cwS 2 hts (gS kw_5_109 kw_5_110 kw_1_2 kw_5_111) rfl rfl rfl (by decide +kernel) ⟨Nat.le_of_ble_eq_true rfl, Nat.le_of_ble_eq_true rfl⟩) ⟨fun a U g mk q => ⟨q.1, q.2⟩, fun U hU hW => ⟨rfl, congrArg Array.size hU⟩⟩ rfl rfl hl.1 rfl (lv_room (Nat.le_of_ble_eq_true rfl)) dX7_driveMinutes_51 ⟨Nat.le_of_ble_eq_true rfl, Nat.le_of_ble_eq_true rfl⟩) hS (fun q _ h9 => nX_up hS q h9) (nX_up hS) (fun r_18 u t H1 locs ht _ hw hB _ hk1 hS => ?_)
      obtain ⟨p_19, p_20, -⟩ := hw
      have hP := my_keepM hP hk1
      generalize H1 = H at hP hS ⊢
      refine va_mmax hx hb (hml.trans hl.1.symm) hown (htg (.methodLink RX7 96 Lib.Math.max.name) kw_5_113) (htg (.static Lib.Math.max.name) kw_4_28) (htg (.initialized RJ9) kw_1_16) (htg (.code Lib.Math.max.name Lib.Math.max.code 2 (some .int)) kw_4_29) (Nat.le_of_ble_eq_true rfl) (Nat.le_of_ble_eq_true rfl) (Nat.le_of_ble_eq_true rfl) (Nat.le_of_ble_eq_true rfl) dX7_driveMinutes_54 ?_
      refine lv_topi (fun v_21 ev_21 => ?_)
      have i_22 : 1 ≤ v_21.toInt ∧ v_21.toInt ≤ 50000000 := ix_max ev_21 (⟨by decide, by decide⟩ : (1 : Int) ≤ (1 : Int32).toInt ∧ (1 : Int32).toInt ≤ 1) p_19 (by decide) (by decide)
      exact W.iret (v := v_21) hx hb hr (fun t ht hW => ⟨⟨v_21, (fv_11, wd_12, ar_13), rfl, ⟨hF_fv_11, hA_ar_13, (fM_call (fM_rf [] _) fr_14 (by decide)), (fA_call (fA_rf [] _) fa_15 (by decide)), wf_16, i_22, (show v_21.toInt = mo_dr (mx_D fv ar) (mx_G ar) (kk.toInt.toNat) from mo_drI (c := 3) (show mo_dp (mx_rn fv ar).toInt (ar 20 ((ar 28 (kk.toInt.toNat)).toInt.toNat)).toInt = 3 from by rw [← hbr, show ar 28 (kk.toInt.toNat) = v_1 from ev_1.symm, show ar 20 (v_1.toInt.toNat) = v_3 from ev_3.symm]; unfold mo_dp; (repeat' split) <;> omega) (by have h9 := p_20; rw [ln_17] at h9; exact h9) (by have h9 := mo_mxI ev_21; rw [show (1 : Int32).toInt = 1 from by decide] at h9; exact h9)), trivial⟩, ⟨by rw [ht]; exact hP, va_K.moved hW.alike hK⟩⟩, hS.F ht⟩) hS.2.2 dX7_driveMinutes_57
    · skip
      have i_23 : 5 ≤ b.toInt ∧ b.toInt ≤ 9 := iv_lt2 (⟨by decide, by decide⟩ : (4 : Int) ≤ (4 : Int32).toInt ∧ (4 : Int32).toInt ≤ 4) h_b (Int32.not_le.mp c_6)
      refine lv_iload_n hx hb dX7_driveMinutes_35 rfl (lv_at hl 1 rfl) ?_
      refine lv_iconst (v := 2) hx hb dX7_driveMinutes_36 (by decide) ?_
      refine lv_icmp_eq (tgt := 43) hx hb dX7_driveMinutes_37 (by decide) (fun c_24 => ?_) (fun c_24 => ?_)
      · skip
        have i_25 : 2 ≤ v_3.toInt ∧ v_3.toInt ≤ 2 := iv_eq1 (⟨by decide, by decide⟩ : (2 : Int) ≤ (2 : Int32).toInt ∧ (2 : Int32).toInt ≤ 2) c_24
        refine lv_iconst (v := 1) hx hb dX7_driveMinutes_43 (by decide) ?_
        refine lv_aload_n hx hb dX7_driveMinutes_44 rfl (lv_at hl 2 rfl) ?_
        refine lv_iload_n hx hb dX7_driveMinutes_45 rfl (lv_at hl 3 rfl) ?_
        refine va_calli (va_runV (As := [.int kk]) (rest := [.int 1]) ⟨hx, hb, hml, hown, hts⟩ (x_lengthOfE l dC dI s.heap.size ob ad cA hd fv wd ar hF_fv hA_ar kk h_kk hp_mR) (cwV 1 hts (gV kw_5_108 kw_5_95 kw_5_96 kw_1_2 kw_5_97) rfl rfl rfl (by decide +kernel) ⟨Nat.le_of_ble_eq_true rfl, Nat.le_of_ble_eq_true rfl⟩) ⟨fun a U g mk q => ⟨q.1, q.2.1, q.2.2.1, va_K.moved (u := U) (U := U.calling g mk a) (Vm.Alike.refl U.vm) q.2.2.2⟩, va_recv hK hP (ci := 7) (q0 := 1) rfl rfl, fun U hU hW => ⟨rfl, by rw [hU], by rw [hU]; exact hP, va_K.moved hW.alike hK⟩⟩ rfl rfl hl.1 rfl (lv_room (Nat.le_of_ble_eq_true rfl)) dX7_driveMinutes_46 ⟨Nat.le_of_ble_eq_true rfl, Nat.le_of_ble_eq_true rfl⟩) hS (fun q _ h9 => aX_up hS q h9) (aX_up hS) (fun r_27 u t H1 locs ht _ hw hB _ hk1 hS => ?_)
        obtain ⟨fv_30, wd_31, ar_32⟩ := u
        obtain ⟨hF_fv_30, hA_ar_32, fr_33, fa_34, wf_35, p_28, p_29, -⟩ := hw
        have wf_35 : wd_31.2 = wd.2 := wf_35
        have hP : va_P (dC, dI) vwCl (wsX ob ad cA fv_30 wd_31 ar_32) H1 := by have h9 := hB.1; rw [ht] at h9; exact h9
        have fr_33 : fM [] fv fv_30 := fr_33
        have fa_34 : fA [] ar ar_32 := fa_34
        have p_29 : r_27.toInt = mo_ln (mx_D fv ar) (mx_G ar) (kk.toInt.toNat) := p_29
        generalize H1 = H at hP hS ⊢
        have ln_36 : r_27.toInt = mo_ln (mx_D fv ar) (mx_G ar) (kk.toInt.toNat) := by have h9 := p_29; exact h9
        refine lv_iload hx hb dX7_driveMinutes_49 (lv_at hl 0 rfl) ?_
        refine va_calli (va_runS (As := [.int r_27, .int 3]) (rest := [.int 1]) ⟨hx, hb, hml, hown, hts⟩ (x_minutesForE l H.size r_27 3 p_28 (iv_w (⟨by decide, by decide⟩ : (3 : Int) ≤ (3 : Int32).toInt ∧ (3 : Int32).toInt ≤ 3) (by decide) (by decide))) (va_cwS 2 hts (gS kw_5_109 kw_5_110 kw_1_2 kw_5_111) rfl rfl rfl (by decide +kernel) ⟨Nat.le_of_ble_eq_true rfl, Nat.le_of_ble_eq_true rfl⟩) ⟨fun a U g mk q => ⟨q.1, q.2⟩, fun U hU hW => ⟨rfl, congrArg Array.size hU⟩⟩ rfl rfl hl.1 rfl (lv_room (Nat.le_of_ble_eq_true rfl)) dX7_driveMinutes_51 ⟨Nat.le_of_ble_eq_true rfl, Nat.le_of_ble_eq_true rfl⟩) hS (fun q _ h9 => nX_up hS q h9) (nX_up hS) (fun r_37 u t H1 locs ht _ hw hB _ hk1 hS => ?_)
        obtain ⟨p_38, p_39, -⟩ := hw
        have hP := my_keepM hP hk1
        generalize H1 = H at hP hS ⊢
        refine va_mmax hx hb (hml.trans hl.1.symm) hown (htg (.methodLink RX7 96 Lib.Math.max.name) kw_5_113) (htg (.static Lib.Math.max.name) kw_4_28) (htg (.initialized RJ9) kw_1_16) (htg (.code Lib.Math.max.name Lib.Math.max.code 2 (some .int)) kw_4_29) (Nat.le_of_ble_eq_true rfl) (Nat.le_of_ble_eq_true rfl) (Nat.le_of_ble_eq_true rfl) (Nat.le_of_ble_eq_true rfl) dX7_driveMinutes_54 ?_
        refine lv_topi (fun v_40 ev_40 => ?_)
        have i_41 : 1 ≤ v_40.toInt ∧ v_40.toInt ≤ 50000000 := ix_max ev_40 (⟨by decide, by decide⟩ : (1 : Int) ≤ (1 : Int32).toInt ∧ (1 : Int32).toInt ≤ 1) p_38 (by decide) (by decide)
        exact W.iret (v := v_40) hx hb hr (fun t ht hW => ⟨⟨v_40, (fv_30, wd_31, ar_32), rfl, ⟨hF_fv_30, hA_ar_32, (fM_call (fM_rf [] _) fr_33 (by decide)), (fA_call (fA_rf [] _) fa_34 (by decide)), wf_35, i_41, (show v_40.toInt = mo_dr (mx_D fv ar) (mx_G ar) (kk.toInt.toNat) from mo_drI (c := 3) (show mo_dp (mx_rn fv ar).toInt (ar 20 ((ar 28 (kk.toInt.toNat)).toInt.toNat)).toInt = 3 from by rw [← hbr, show ar 28 (kk.toInt.toNat) = v_1 from ev_1.symm, show ar 20 (v_1.toInt.toNat) = v_3 from ev_3.symm]; unfold mo_dp; (repeat' split) <;> omega) (by have h9 := p_39; rw [ln_36] at h9; exact h9) (by have h9 := mo_mxI ev_40; rw [show (1 : Int32).toInt = 1 from by decide] at h9; exact h9)), trivial⟩, ⟨by rw [ht]; exact hP, va_K.moved hW.alike hK⟩⟩, hS.F ht⟩) hS.2.2 dX7_driveMinutes_57
      · skip
        have k_42 : ¬ v_3.toInt = 2 := fun q => c_24 (Int32.toInt_inj.mp q)
        refine lv_iinc (v := 4) (lv' := [(4, .int 4), (3, .int v_3), (0, .ref (ob 1)), (1, .int kk), (2, .int b)]) hx hb dX7_driveMinutes_40 hl (k := 0) rfl (by decide) (by decide) rfl (fun ls hl => ?_)
        refine lv_iconst (v := 1) hx hb dX7_driveMinutes_43 (by decide) ?_
        refine lv_aload_n hx hb dX7_driveMinutes_44 rfl (lv_at hl 2 rfl) ?_
        refine lv_iload_n hx hb dX7_driveMinutes_45 rfl (lv_at hl 3 rfl) ?_
        refine va_calli (va_runV (As := [.int kk]) (rest := [.int 1]) ⟨hx, hb, hml, hown, hts⟩ (x_lengthOfE l dC dI s.heap.size ob ad cA hd fv wd ar hF_fv hA_ar kk h_kk hp_mR) (cwV 1 hts (gV kw_5_108 kw_5_95 kw_5_96 kw_1_2 kw_5_97) rfl rfl rfl (by decide +kernel) ⟨Nat.le_of_ble_eq_true rfl, Nat.le_of_ble_eq_true rfl⟩) ⟨fun a U g mk q => ⟨q.1, q.2.1, q.2.2.1, va_K.moved (u := U) (U := U.calling g mk a) (Vm.Alike.refl U.vm) q.2.2.2⟩, va_recv hK hP (ci := 7) (q0 := 1) rfl rfl, fun U hU hW => ⟨rfl, by rw [hU], by rw [hU]; exact hP, va_K.moved hW.alike hK⟩⟩ rfl rfl hl.1 rfl (lv_room (Nat.le_of_ble_eq_true rfl)) dX7_driveMinutes_46 ⟨Nat.le_of_ble_eq_true rfl, Nat.le_of_ble_eq_true rfl⟩) hS (fun q _ h9 => aX_up hS q h9) (aX_up hS) (fun r_43 u t H1 locs ht _ hw hB _ hk1 hS => ?_)
        obtain ⟨fv_46, wd_47, ar_48⟩ := u
        obtain ⟨hF_fv_46, hA_ar_48, fr_49, fa_50, wf_51, p_44, p_45, -⟩ := hw
        have wf_51 : wd_47.2 = wd.2 := wf_51
        have hP : va_P (dC, dI) vwCl (wsX ob ad cA fv_46 wd_47 ar_48) H1 := by have h9 := hB.1; rw [ht] at h9; exact h9
        have fr_49 : fM [] fv fv_46 := fr_49
        have fa_50 : fA [] ar ar_48 := fa_50
        have p_45 : r_43.toInt = mo_ln (mx_D fv ar) (mx_G ar) (kk.toInt.toNat) := p_45
        generalize H1 = H at hP hS ⊢
        have ln_52 : r_43.toInt = mo_ln (mx_D fv ar) (mx_G ar) (kk.toInt.toNat) := by have h9 := p_45; exact h9
        refine lv_iload hx hb dX7_driveMinutes_49 (lv_at hl 0 rfl) ?_
        refine va_calli (va_runS (As := [.int r_43, .int 4]) (rest := [.int 1]) ⟨hx, hb, hml, hown, hts⟩ (x_minutesForE l H.size r_43 4 p_44 (iv_w (⟨by decide, by decide⟩ : (4 : Int) ≤ (4 : Int32).toInt ∧ (4 : Int32).toInt ≤ 4) (by decide) (by decide))) (va_cwS 2 hts (gS kw_5_109 kw_5_110 kw_1_2 kw_5_111) rfl rfl rfl (by decide +kernel) ⟨Nat.le_of_ble_eq_true rfl, Nat.le_of_ble_eq_true rfl⟩) ⟨fun a U g mk q => ⟨q.1, q.2⟩, fun U hU hW => ⟨rfl, congrArg Array.size hU⟩⟩ rfl rfl hl.1 rfl (lv_room (Nat.le_of_ble_eq_true rfl)) dX7_driveMinutes_51 ⟨Nat.le_of_ble_eq_true rfl, Nat.le_of_ble_eq_true rfl⟩) hS (fun q _ h9 => nX_up hS q h9) (nX_up hS) (fun r_53 u t H1 locs ht _ hw hB _ hk1 hS => ?_)
        obtain ⟨p_54, p_55, -⟩ := hw
        have hP := my_keepM hP hk1
        generalize H1 = H at hP hS ⊢
        refine va_mmax hx hb (hml.trans hl.1.symm) hown (htg (.methodLink RX7 96 Lib.Math.max.name) kw_5_113) (htg (.static Lib.Math.max.name) kw_4_28) (htg (.initialized RJ9) kw_1_16) (htg (.code Lib.Math.max.name Lib.Math.max.code 2 (some .int)) kw_4_29) (Nat.le_of_ble_eq_true rfl) (Nat.le_of_ble_eq_true rfl) (Nat.le_of_ble_eq_true rfl) (Nat.le_of_ble_eq_true rfl) dX7_driveMinutes_54 ?_
        refine lv_topi (fun v_56 ev_56 => ?_)
        have i_57 : 1 ≤ v_56.toInt ∧ v_56.toInt ≤ 50000000 := ix_max ev_56 (⟨by decide, by decide⟩ : (1 : Int) ≤ (1 : Int32).toInt ∧ (1 : Int32).toInt ≤ 1) p_54 (by decide) (by decide)
        exact W.iret (v := v_56) hx hb hr (fun t ht hW => ⟨⟨v_56, (fv_46, wd_47, ar_48), rfl, ⟨hF_fv_46, hA_ar_48, (fM_call (fM_rf [] _) fr_49 (by decide)), (fA_call (fA_rf [] _) fa_50 (by decide)), wf_51, i_57, (show v_56.toInt = mo_dr (mx_D fv ar) (mx_G ar) (kk.toInt.toNat) from mo_drI (c := 4) (show mo_dp (mx_rn fv ar).toInt (ar 20 ((ar 28 (kk.toInt.toNat)).toInt.toNat)).toInt = 4 from by rw [← hbr, show ar 28 (kk.toInt.toNat) = v_1 from ev_1.symm, show ar 20 (v_1.toInt.toNat) = v_3 from ev_3.symm]; unfold mo_dp; (repeat' split) <;> omega) (by have h9 := p_55; rw [ln_52] at h9; exact h9) (by have h9 := mo_mxI ev_56; rw [show (1 : Int32).toInt = 1 from by decide] at h9; exact h9)), trivial⟩, ⟨by rw [ht]; exact hP, va_K.moved hW.alike hK⟩⟩, hS.F ht⟩) hS.2.2 dX7_driveMinutes_57
  · skip
    have i_58 : 1 ≤ v_3.toInt ∧ v_3.toInt ≤ 1 := iv_eq1 (⟨by decide, by decide⟩ : (1 : Int) ≤ (1 : Int32).toInt ∧ (1 : Int32).toInt ≤ 1) c_4
    refine lv_iconst (v := 4) hx hb dX7_driveMinutes_23 (by decide) ?_
    refine lv_goto (tgt := 28) hx hb dX7_driveMinutes_24 (by decide) ?_
    refine lv_istore (lv' := [(4, .int 4), (3, .int v_3), (0, .ref (ob 1)), (1, .int kk), (2, .int b)]) hx hb dX7_driveMinutes_28 hl (by decide) rfl (fun ls hl => ?_)
    refine lv_iload_n hx hb dX7_driveMinutes_30 rfl (lv_at hl 4 rfl) ?_
    refine lv_iconst (v := 4) hx hb dX7_driveMinutes_31 (by decide) ?_
    refine lv_icmp_le (tgt := 43) hx hb dX7_driveMinutes_32 (by decide) (fun c_60 => ?_) (fun c_60 => ?_)
    · skip
      have i_61 : 0 ≤ b.toInt ∧ b.toInt ≤ 4 := iv_le1 h_b (⟨by decide, by decide⟩ : (4 : Int) ≤ (4 : Int32).toInt ∧ (4 : Int32).toInt ≤ 4) c_60
      refine lv_iconst (v := 1) hx hb dX7_driveMinutes_43 (by decide) ?_
      refine lv_aload_n hx hb dX7_driveMinutes_44 rfl (lv_at hl 2 rfl) ?_
      refine lv_iload_n hx hb dX7_driveMinutes_45 rfl (lv_at hl 3 rfl) ?_
      refine va_calli (va_runV (As := [.int kk]) (rest := [.int 1]) ⟨hx, hb, hml, hown, hts⟩ (x_lengthOfE l dC dI s.heap.size ob ad cA hd fv wd ar hF_fv hA_ar kk h_kk hp_mR) (cwV 1 hts (gV kw_5_108 kw_5_95 kw_5_96 kw_1_2 kw_5_97) rfl rfl rfl (by decide +kernel) ⟨Nat.le_of_ble_eq_true rfl, Nat.le_of_ble_eq_true rfl⟩) ⟨fun a U g mk q => ⟨q.1, q.2.1, q.2.2.1, va_K.moved (u := U) (U := U.calling g mk a) (Vm.Alike.refl U.vm) q.2.2.2⟩, va_recv hK hP (ci := 7) (q0 := 1) rfl rfl, fun U hU hW => ⟨rfl, by rw [hU], by rw [hU]; exact hP, va_K.moved hW.alike hK⟩⟩ rfl rfl hl.1 rfl (lv_room (Nat.le_of_ble_eq_true rfl)) dX7_driveMinutes_46 ⟨Nat.le_of_ble_eq_true rfl, Nat.le_of_ble_eq_true rfl⟩) hS (fun q _ h9 => aX_up hS q h9) (aX_up hS) (fun r_62 u t H1 locs ht _ hw hB _ hk1 hS => ?_)
      obtain ⟨fv_65, wd_66, ar_67⟩ := u
      obtain ⟨hF_fv_65, hA_ar_67, fr_68, fa_69, wf_70, p_63, p_64, -⟩ := hw
      have wf_70 : wd_66.2 = wd.2 := wf_70
      have hP : va_P (dC, dI) vwCl (wsX ob ad cA fv_65 wd_66 ar_67) H1 := by have h9 := hB.1; rw [ht] at h9; exact h9
      have fr_68 : fM [] fv fv_65 := fr_68
      have fa_69 : fA [] ar ar_67 := fa_69
      have p_64 : r_62.toInt = mo_ln (mx_D fv ar) (mx_G ar) (kk.toInt.toNat) := p_64
      generalize H1 = H at hP hS ⊢
      have ln_71 : r_62.toInt = mo_ln (mx_D fv ar) (mx_G ar) (kk.toInt.toNat) := by have h9 := p_64; exact h9
      refine lv_iload hx hb dX7_driveMinutes_49 (lv_at hl 0 rfl) ?_
      refine va_calli (va_runS (As := [.int r_62, .int 4]) (rest := [.int 1]) ⟨hx, hb, hml, hown, hts⟩ (x_minutesForE l H.size r_62 4 p_63 (iv_w (⟨by decide, by decide⟩ : (4 : Int) ≤ (4 : Int32).toInt ∧ (4 : Int32).toInt ≤ 4) (by decide) (by decide))) (va_cwS 2 hts (gS kw_5_109 kw_5_110 kw_1_2 kw_5_111) rfl rfl rfl (by decide +kernel) ⟨Nat.le_of_ble_eq_true rfl, Nat.le_of_ble_eq_true rfl⟩) ⟨fun a U g mk q => ⟨q.1, q.2⟩, fun U hU hW => ⟨rfl, congrArg Array.size hU⟩⟩ rfl rfl hl.1 rfl (lv_room (Nat.le_of_ble_eq_true rfl)) dX7_driveMinutes_51 ⟨Nat.le_of_ble_eq_true rfl, Nat.le_of_ble_eq_true rfl⟩) hS (fun q _ h9 => nX_up hS q h9) (nX_up hS) (fun r_72 u t H1 locs ht _ hw hB _ hk1 hS => ?_)
      obtain ⟨p_73, p_74, -⟩ := hw
      have hP := my_keepM hP hk1
      generalize H1 = H at hP hS ⊢
      refine va_mmax hx hb (hml.trans hl.1.symm) hown (htg (.methodLink RX7 96 Lib.Math.max.name) kw_5_113) (htg (.static Lib.Math.max.name) kw_4_28) (htg (.initialized RJ9) kw_1_16) (htg (.code Lib.Math.max.name Lib.Math.max.code 2 (some .int)) kw_4_29) (Nat.le_of_ble_eq_true rfl) (Nat.le_of_ble_eq_true rfl) (Nat.le_of_ble_eq_true rfl) (Nat.le_of_ble_eq_true rfl) dX7_driveMinutes_54 ?_
      refine lv_topi (fun v_75 ev_75 => ?_)
      have i_76 : 1 ≤ v_75.toInt ∧ v_75.toInt ≤ 50000000 := ix_max ev_75 (⟨by decide, by decide⟩ : (1 : Int) ≤ (1 : Int32).toInt ∧ (1 : Int32).toInt ≤ 1) p_73 (by decide) (by decide)
      exact W.iret (v := v_75) hx hb hr (fun t ht hW => ⟨⟨v_75, (fv_65, wd_66, ar_67), rfl, ⟨hF_fv_65, hA_ar_67, (fM_call (fM_rf [] _) fr_68 (by decide)), (fA_call (fA_rf [] _) fa_69 (by decide)), wf_70, i_76, (show v_75.toInt = mo_dr (mx_D fv ar) (mx_G ar) (kk.toInt.toNat) from mo_drI (c := 4) (show mo_dp (mx_rn fv ar).toInt (ar 20 ((ar 28 (kk.toInt.toNat)).toInt.toNat)).toInt = 4 from by rw [← hbr, show ar 28 (kk.toInt.toNat) = v_1 from ev_1.symm, show ar 20 (v_1.toInt.toNat) = v_3 from ev_3.symm]; unfold mo_dp; (repeat' split) <;> omega) (by have h9 := p_74; rw [ln_71] at h9; exact h9) (by have h9 := mo_mxI ev_75; rw [show (1 : Int32).toInt = 1 from by decide] at h9; exact h9)), trivial⟩, ⟨by rw [ht]; exact hP, va_K.moved hW.alike hK⟩⟩, hS.F ht⟩) hS.2.2 dX7_driveMinutes_57
    · skip
      have i_77 : 5 ≤ b.toInt ∧ b.toInt ≤ 9 := iv_lt2 (⟨by decide, by decide⟩ : (4 : Int) ≤ (4 : Int32).toInt ∧ (4 : Int32).toInt ≤ 4) h_b (Int32.not_le.mp c_60)
      refine lv_iload_n hx hb dX7_driveMinutes_35 rfl (lv_at hl 1 rfl) ?_
      refine lv_iconst (v := 2) hx hb dX7_driveMinutes_36 (by decide) ?_
      refine lv_icmp_eq (tgt := 43) hx hb dX7_driveMinutes_37 (by decide) (fun c_78 => ?_) (fun c_78 => ?_)
      · skip
        exact absurd True.intro (by have h7 := i_58; have h8 := (⟨by decide, by decide⟩ : (2 : Int) ≤ (2 : Int32).toInt ∧ (2 : Int32).toInt ≤ 2); have h9 := congrArg Int32.toInt c_78; exfalso; omega)
      · skip
        have k_79 : ¬ v_3.toInt = 2 := fun q => c_78 (Int32.toInt_inj.mp q)
        refine lv_iinc (v := 5) (lv' := [(4, .int 5), (3, .int v_3), (0, .ref (ob 1)), (1, .int kk), (2, .int b)]) hx hb dX7_driveMinutes_40 hl (k := 0) rfl (by decide) (by decide) rfl (fun ls hl => ?_)
        refine lv_iconst (v := 1) hx hb dX7_driveMinutes_43 (by decide) ?_
        refine lv_aload_n hx hb dX7_driveMinutes_44 rfl (lv_at hl 2 rfl) ?_
        refine lv_iload_n hx hb dX7_driveMinutes_45 rfl (lv_at hl 3 rfl) ?_
        refine va_calli (va_runV (As := [.int kk]) (rest := [.int 1]) ⟨hx, hb, hml, hown, hts⟩ (x_lengthOfE l dC dI s.heap.size ob ad cA hd fv wd ar hF_fv hA_ar kk h_kk hp_mR) (cwV 1 hts (gV kw_5_108 kw_5_95 kw_5_96 kw_1_2 kw_5_97) rfl rfl rfl (by decide +kernel) ⟨Nat.le_of_ble_eq_true rfl, Nat.le_of_ble_eq_true rfl⟩) ⟨fun a U g mk q => ⟨q.1, q.2.1, q.2.2.1, va_K.moved (u := U) (U := U.calling g mk a) (Vm.Alike.refl U.vm) q.2.2.2⟩, va_recv hK hP (ci := 7) (q0 := 1) rfl rfl, fun U hU hW => ⟨rfl, by rw [hU], by rw [hU]; exact hP, va_K.moved hW.alike hK⟩⟩ rfl rfl hl.1 rfl (lv_room (Nat.le_of_ble_eq_true rfl)) dX7_driveMinutes_46 ⟨Nat.le_of_ble_eq_true rfl, Nat.le_of_ble_eq_true rfl⟩) hS (fun q _ h9 => aX_up hS q h9) (aX_up hS) (fun r_80 u t H1 locs ht _ hw hB _ hk1 hS => ?_)
        obtain ⟨fv_83, wd_84, ar_85⟩ := u
        obtain ⟨hF_fv_83, hA_ar_85, fr_86, fa_87, wf_88, p_81, p_82, -⟩ := hw
        have wf_88 : wd_84.2 = wd.2 := wf_88
        have hP : va_P (dC, dI) vwCl (wsX ob ad cA fv_83 wd_84 ar_85) H1 := by have h9 := hB.1; rw [ht] at h9; exact h9
        have fr_86 : fM [] fv fv_83 := fr_86
        have fa_87 : fA [] ar ar_85 := fa_87
        have p_82 : r_80.toInt = mo_ln (mx_D fv ar) (mx_G ar) (kk.toInt.toNat) := p_82
        generalize H1 = H at hP hS ⊢
        have ln_89 : r_80.toInt = mo_ln (mx_D fv ar) (mx_G ar) (kk.toInt.toNat) := by have h9 := p_82; exact h9
        refine lv_iload hx hb dX7_driveMinutes_49 (lv_at hl 0 rfl) ?_
        refine va_calli (va_runS (As := [.int r_80, .int 5]) (rest := [.int 1]) ⟨hx, hb, hml, hown, hts⟩ (x_minutesForE l H.size r_80 5 p_81 (iv_w (⟨by decide, by decide⟩ : (5 : Int) ≤ (5 : Int32).toInt ∧ (5 : Int32).toInt ≤ 5) (by decide) (by decide))) (va_cwS 2 hts (gS kw_5_109 kw_5_110 kw_1_2 kw_5_111) rfl rfl rfl (by decide +kernel) ⟨Nat.le_of_ble_eq_true rfl, Nat.le_of_ble_eq_true rfl⟩) ⟨fun a U g mk q => ⟨q.1, q.2⟩, fun U hU hW => ⟨rfl, congrArg Array.size hU⟩⟩ rfl rfl hl.1 rfl (lv_room (Nat.le_of_ble_eq_true rfl)) dX7_driveMinutes_51 ⟨Nat.le_of_ble_eq_true rfl, Nat.le_of_ble_eq_true rfl⟩) hS (fun q _ h9 => nX_up hS q h9) (nX_up hS) (fun r_90 u t H1 locs ht _ hw hB _ hk1 hS => ?_)
        obtain ⟨p_91, p_92, -⟩ := hw
        have hP := my_keepM hP hk1
        generalize H1 = H at hP hS ⊢
        refine va_mmax hx hb (hml.trans hl.1.symm) hown (htg (.methodLink RX7 96 Lib.Math.max.name) kw_5_113) (htg (.static Lib.Math.max.name) kw_4_28) (htg (.initialized RJ9) kw_1_16) (htg (.code Lib.Math.max.name Lib.Math.max.code 2 (some .int)) kw_4_29) (Nat.le_of_ble_eq_true rfl) (Nat.le_of_ble_eq_true rfl) (Nat.le_of_ble_eq_true rfl) (Nat.le_of_ble_eq_true rfl) dX7_driveMinutes_54 ?_
        refine lv_topi (fun v_93 ev_93 => ?_)
        have i_94 : 1 ≤ v_93.toInt ∧ v_93.toInt ≤ 50000000 := ix_max ev_93 (⟨by decide, by decide⟩ : (1 : Int) ≤ (1 : Int32).toInt ∧ (1 : Int32).toInt ≤ 1) p_91 (by decide) (by decide)
        exact W.iret (v := v_93) hx hb hr (fun t ht hW => ⟨⟨v_93, (fv_83, wd_84, ar_85), rfl, ⟨hF_fv_83, hA_ar_85, (fM_call (fM_rf [] _) fr_86 (by decide)), (fA_call (fA_rf [] _) fa_87 (by decide)), wf_88, i_94, (show v_93.toInt = mo_dr (mx_D fv ar) (mx_G ar) (kk.toInt.toNat) from mo_drI (c := 5) (show mo_dp (mx_rn fv ar).toInt (ar 20 ((ar 28 (kk.toInt.toNat)).toInt.toNat)).toInt = 5 from by rw [← hbr, show ar 28 (kk.toInt.toNat) = v_1 from ev_1.symm, show ar 20 (v_1.toInt.toNat) = v_3 from ev_3.symm]; unfold mo_dp; (repeat' split) <;> omega) (by have h9 := p_92; rw [ln_89] at h9; exact h9) (by have h9 := mo_mxI ev_93; rw [show (1 : Int32).toInt = 1 from by decide] at h9; exact h9)), trivial⟩, ⟨by rw [ht]; exact hP, va_K.moved hW.alike hK⟩⟩, hS.F ht⟩) hS.2.2 dX7_driveMinutes_57
set_option maxHeartbeats 4000000 in
set_option maxRecDepth 100000 in
theorem x_hasHeardE (l : Launch) (dC : Nat → ClassId) (dI : Nat → Nat → Nat) (sz : Nat) (ob ad : Nat → Nat) (cA : Nat → ClassId) (hd : dX ob ad) (fv : Nat → Int32) (wd : xT) (ar : Nat → Nat → Int32) (hF_fv : rX fv) (hA_ar : rB ar) (pp : Int32) (kk : Int32) (h_pp : 0 ≤ pp.toInt ∧ pp.toInt ≤ 39) (h_kk : 0 ≤ kk.toInt ∧ kk.toInt ≤ 79) (hp_mR : mx_R fv ar) : Met l yX9_hasHeard (.code yX9_hasHeard cX9_hasHeard 3 (some .boolean) :: lw_good) ({ frames := 2, cells := 0, slots := 0, locals := 40 }) (va_Pc [.ref (ob 9), .int pp, .int kk] (prX dC dI ob ad cA fv wd ar sz)) (va_Qi (fun (r : Int32) (u : xS) => rX u.1 ∧ rB u.2.2 ∧ fM [] fv u.1 ∧ fA [] ar u.2.2 ∧ u.2.1.2 = wd.2 ∧ (0 ≤ r.toInt ∧ r.toInt ≤ 1) ∧ ((r = 0 ∧ (¬ mo_hd (mx_D fv ar) (pp.toInt.toNat) (kk.toInt.toNat))) ∨ (r = 1 ∧ (mo_hd (mx_D fv ar) (pp.toInt.toNat) (kk.toInt.toNat)))) ∧ True) (enX dC dI ob ad cA) (aX ob ad sz)) 0 0 (aX ob ad sz) := by
  refine Met.ofW (cc := cX9_hasHeard) (maxL := 3) (ret := (some .boolean)) (by decide) rfl ?_
  intro p e s m args below meth c s₁ B hml hv
  obtain ⟨rfl, hsz, hP, hK⟩ := hv
  have hx := B.exec
  have hb := B.bytes
  have hr := B.returns
  have hts := atoms_spec (ws := (.code yX9_hasHeard cX9_hasHeard 3 (some .boolean) :: lw_good)) B.pre
  have htg : ∀ w ∈ lw_good, w.before _ s = true := fun w hw => hts w (List.mem_cons_of_mem _ hw)
  have hown : s.vm.findClass RX9 = some m.cls := findClass_of_methodNamed B.named
  have hlocks := B.notSynchronized
  subst hsz
  have hS : va_S (aX ob ad s.heap.size) s.heap s.heap [] := va_S.rf
  have hl := lv_entry ([.ref (ob 9), .int pp, .int kk]) (n := 3) (Nat.le_of_ble_eq_true rfl)
  rw [lg_entry_eq]
  generalize (lg_sl ([.ref (ob 9), .int pp, .int kk]) ++ List.replicate (3 - (lg_sl ([.ref (ob 9), .int pp, .int kk])).length) Slot.unset).toArray = ls at hl ⊢
  have hl : lv_has ls 3 [(0, .ref (ob 9)), (1, .int pp), (2, .int kk)] := hl
  refine lv_aload_n hx hb dX9_hasHeard_0 rfl (lv_at hl 0 rfl) ?_
  refine gX_X9_9 hx hb htg hown hK hP dX9_hasHeard_1 ?_
  refine gX_X9_54 hx hb htg hown hK hP dX9_hasHeard_4 ?_
  refine gX_X9_137 hx hb htg hown hK hP dX9_hasHeard_7 ?_
  refine lv_iload_n hx hb dX9_hasHeard_10 rfl (lv_at hl 2 rfl) ?_
  refine lX_34 hx hb hK hP (iv_in h_kk (by decide) (by decide)) dX9_hasHeard_11 (fun v_1 ev_1 => ?_)
  have i_2 : 0 ≤ v_1.toInt ∧ v_1.toInt ≤ 199 := (by rw [ev_1]; exact hp_mR.2.2.1 _)
  refine lv_aload_n hx hb dX9_hasHeard_12 rfl (lv_at hl 0 rfl) ?_
  refine gX_X9_9 hx hb htg hown hK hP dX9_hasHeard_13 ?_
  refine gX_X9_91 hx hb htg hown hK hP dX9_hasHeard_16 ?_
  refine gX_X9_140 hx hb htg hown hK hP dX9_hasHeard_19 ?_
  refine lv_iload_n hx hb dX9_hasHeard_22 rfl (lv_at hl 1 rfl) ?_
  refine lX_14 hx hb hK hP (iv_in h_pp (by decide) (by decide)) dX9_hasHeard_23 (fun v_3 ev_3 => ?_)
  have i_4 : 0 ≤ v_3.toInt ∧ v_3.toInt ≤ 9 := (by rw [ev_3]; exact hp_mR.2.2.2 _)
  refine lv_iadd hx hb dX9_hasHeard_24 ?_
  refine lv_topi (fun v_5 ev_5 => ?_)
  have t_6 : v_5.toInt = v_1.toInt + v_3.toInt ∧ 0 ≤ v_5.toInt ∧ v_5.toInt ≤ 208 := iv_add ev_5 i_2 i_4 (by decide) (by decide)
  refine lv_aload_n hx hb dX9_hasHeard_25 rfl (lv_at hl 0 rfl) ?_
  refine gX_X9_9 hx hb htg hown hK hP dX9_hasHeard_26 ?_
  refine gX_X9_41 hx hb htg hown hK hP dX9_hasHeard_29 ?_
  have i_8 : 0 ≤ (fv 7).toInt ∧ (fv 7).toInt ≤ 199 := hF_fv 7
  refine lv_icmp_gt (tgt := 39) hx hb dX9_hasHeard_32 (by decide) (fun c_9 => ?_) (fun c_9 => ?_)
  · skip
    have i_10 : 1 ≤ v_5.toInt ∧ v_5.toInt ≤ 208 := iv_lt2 i_8 t_6.2 c_9
    have k_11 := Int32.lt_iff_toInt_lt.mp c_9
    refine lv_iconst (v := 0) hx hb dX9_hasHeard_39 (by decide) ?_
    exact W.zret (v := 0) hx hb hr (by decide) (fun t ht hW => ⟨⟨0, (fv, wd, ar), rfl, ⟨hF_fv, hA_ar, (fM_rf [] _), (fA_rf [] _), rfl, (iv_w (⟨by decide, by decide⟩ : (0 : Int) ≤ (0 : Int32).toInt ∧ (0 : Int32).toInt ≤ 0) (by decide) (by decide)), (Or.inl ⟨rfl, (show ¬ (ar 34 (kk.toInt.toNat)).toInt + (ar 14 (pp.toInt.toNat)).toInt ≤ (fv 7).toInt from by rw [show ar 34 (kk.toInt.toNat) = v_1 from ev_1.symm, show ar 14 (pp.toInt.toNat) = v_3 from ev_3.symm]; omega)⟩), trivial⟩, ⟨by rw [ht]; exact hP, va_K.moved hW.alike hK⟩⟩, hS.F ht⟩) hS.2.2 dX9_hasHeard_40
  · skip
    have i_12 : 0 ≤ v_5.toInt ∧ v_5.toInt ≤ 199 := iv_le1 t_6.2 i_8 (Int32.not_lt.mp c_9)
    have k_13 := Int32.le_iff_toInt_le.mp (Int32.not_lt.mp c_9)
    refine lv_iconst (v := 1) hx hb dX9_hasHeard_35 (by decide) ?_
    refine lv_goto (tgt := 40) hx hb dX9_hasHeard_36 (by decide) ?_
    exact W.zret (v := 1) hx hb hr (by decide) (fun t ht hW => ⟨⟨1, (fv, wd, ar), rfl, ⟨hF_fv, hA_ar, (fM_rf [] _), (fA_rf [] _), rfl, (iv_w (⟨by decide, by decide⟩ : (1 : Int) ≤ (1 : Int32).toInt ∧ (1 : Int32).toInt ≤ 1) (by decide) (by decide)), (Or.inr (⟨rfl, (show (ar 34 (kk.toInt.toNat)).toInt + (ar 14 (pp.toInt.toNat)).toInt ≤ (fv 7).toInt from by rw [show ar 34 (kk.toInt.toNat) = v_1 from ev_1.symm, show ar 14 (pp.toInt.toNat) = v_3 from ev_3.symm]; omega)⟩)), trivial⟩, ⟨by rw [ht]; exact hP, va_K.moved hW.alike hK⟩⟩, hS.F ht⟩) hS.2.2 dX9_hasHeard_40

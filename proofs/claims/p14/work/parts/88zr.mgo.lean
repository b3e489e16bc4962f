set_option maxHeartbeats 4000000 in
set_option maxRecDepth 100000 in
theorem m_inTimeE (l : Launch) (dC : Nat → ClassId) (dI : Nat → Nat → Nat) (sz h : Nat) (ad : Nat → Nat) (cA : Nat → ClassId) (hd : dM h ad) (fv : Nat → Int32) (wd : Int64) (ar : Nat → Nat → Int32) (hF_fv : rF fv) (hA_ar : rA ar) (w9 : Nat → Int32) : Met l yX12_inTime (.code yX12_inTime cX12_inTime 3 (some .int) :: lw_good) ({ frames := 2, cells := 0, slots := 0, locals := 40 }) (va_Pc [.ref h] (prM dC dI h ad cA fv wd ar sz)) (va_Qi (fun (r : Int32) (u : mS) => rF u.1 ∧ rA u.2.2 ∧ fM [] fv u.1 ∧ fA [] ar u.2.2 ∧ (r.toInt = mo_ot (mm_D w9 fv ar) (mm_T fv ar) ((fv 32).toInt.toNat)) ∧ True) (enM dC dI h ad cA) (aM h ad sz)) 0 0 (aM h ad sz) := by
  refine Met.ofW (cc := cX12_inTime) (maxL := 3) (ret := (some .int)) (by decide) rfl ?_
  intro p e s m args below meth c s₁ B hml hv
  obtain ⟨rfl, hsz, hP, hK⟩ := hv
  have hx := B.exec
  have hb := B.bytes
  have hr := B.returns
  have hts := atoms_spec (ws := (.code yX12_inTime cX12_inTime 3 (some .int) :: lw_good)) B.pre
  have htg : ∀ w ∈ lw_good, w.before _ s = true := fun w hw => hts w (List.mem_cons_of_mem _ hw)
  have hown : s.vm.findClass RX12 = some m.cls := findClass_of_methodNamed B.named
  have hlocks := B.notSynchronized
  subst hsz
  have hS : va_S (aM h ad s.heap.size) s.heap s.heap [] := va_S.rf
  have hl := lv_entry ([.ref h]) (n := 3) (Nat.le_of_ble_eq_true rfl)
  rw [lg_entry_eq]
  generalize (lg_sl ([.ref h]) ++ List.replicate (3 - (lg_sl ([.ref h])).length) Slot.unset).toArray = ls at hl ⊢
  have hl : lv_has ls 3 [(0, .ref h)] := hl
  refine lv_iconst (v := 0) hx hb dX12_inTime_0 (by decide) ?_
  refine lv_istore_n (lv' := [(1, .int 0), (0, .ref h)]) hx hb dX12_inTime_1 rfl hl (by decide) rfl (fun ls hl => ?_)
  refine lv_iconst (v := 0) hx hb dX12_inTime_2 (by decide) ?_
  refine lv_istore_n (lv' := [(2, .int 0), (1, .int 0), (0, .ref h)]) hx hb dX12_inTime_3 rfl hl (by decide) rfl (fun ls hl => ?_)
  refine my_cut (P := fun R9 a9 Q9 => ∀ (n_6 : Nat) (x_1 : Int32) (x_2 : Int32) (H : Heap) (locs : List Loc) (ls : Array Slot), 40 - x_2.toInt < (n_6 : Int) → (0 ≤ x_1.toInt ∧ x_1.toInt ≤ 40) → (0 ≤ x_2.toInt ∧ x_2.toInt ≤ 40) → (x_1.toInt = mo_ot (mm_D w9 fv ar) (mm_T fv ar) (x_2.toInt.toNat)) → (0 ≤ x_1.toInt ∧ x_1.toInt ≤ x_2.toInt) → (x_2.toInt ≤ (fv 32).toInt) → va_P (dC, dI) vwCl (wsM h ad cA fv wd ar) H → va_S (aM h ad s.heap.size) s.heap H locs → lv_has ls 3 [(0, .ref h), (1, .int x_1), (2, .int x_2)] → W p l e R9 s m a9 below meth c H locs 0 0 Q9 (F0 m 4 ls [])) ?_ (fun hj_8 => ?_)
  · intro n_6
    induction n_6 with
    | zero => intro x_1 x_2 H locs ls fu_7 i_x_1 i_x_2 q_3 q_4 q_5; exfalso; omega
    | succ n_6 ih_6 =>
      intro x_1 x_2 H locs ls fu_7 i_x_1 i_x_2 q_3 q_4 q_5 hP hS hl
      refine lv_iload_n hx hb dX12_inTime_4 rfl (lv_at hl 2 rfl) ?_
      refine lv_aload_n hx hb dX12_inTime_5 rfl (lv_at hl 0 rfl) ?_
      refine gM_32 hx hb htg hown hK hP dX12_inTime_6 ?_
      have i_9 : 0 ≤ (fv 32).toInt ∧ (fv 32).toInt ≤ 40 := hF_fv 32
      refine lv_icmp_ge (tgt := 46) hx hb dX12_inTime_9 (by decide) (fun c_10 => ?_) (fun c_10 => ?_)
      · skip
        have k_11 := Int32.le_iff_toInt_le.mp c_10
        refine lv_iload_n hx hb dX12_inTime_46 rfl (lv_at hl 1 rfl) ?_
        exact W.iret (v := x_1) hx hb hr (fun t ht hW => ⟨⟨x_1, (fv, wd, ar), rfl, ⟨hF_fv, hA_ar, (fM_rf [] _), (fA_rf [] _), (show x_1.toInt = mo_ot (mm_D w9 fv ar) (mm_T fv ar) ((fv 32).toInt.toNat) from by have h9 := q_3; rw [show (x_2.toInt.toNat) = ((fv 32).toInt.toNat) from by omega] at h9; exact h9), trivial⟩, ⟨by rw [ht]; exact hP, va_K.moved hW.alike hK⟩⟩, hS.F ht⟩) hS.2.2 dX12_inTime_47
      · skip
        have i_12 : 0 ≤ x_2.toInt ∧ x_2.toInt ≤ 39 := iv_lt1 i_x_2 i_9 (Int32.not_le.mp c_10)
        have i_13 : 1 ≤ (fv 32).toInt ∧ (fv 32).toInt ≤ 40 := iv_lt2 i_x_2 i_9 (Int32.not_le.mp c_10)
        have k_14 := Int32.lt_iff_toInt_lt.mp (Int32.not_le.mp c_10)
        refine lv_aload_n hx hb dX12_inTime_12 rfl (lv_at hl 0 rfl) ?_
        refine gM_72 hx hb htg hown hK hP dX12_inTime_13 ?_
        refine lv_iload_n hx hb dX12_inTime_16 rfl (lv_at hl 2 rfl) ?_
        refine lM_72 hx hb hK hP (iv_in i_12 (by decide) (by decide)) dX12_inTime_17 (fun v_15 ev_15 => ?_)
        refine lv_iconst (v := (-1)) hx hb dX12_inTime_18 (by decide) ?_
        refine lv_icmp_eq (tgt := 40) hx hb dX12_inTime_19 (by decide) (fun c_16 => ?_) (fun c_16 => ?_)
        · skip
          have i_17 : (-1) ≤ v_15.toInt ∧ v_15.toInt ≤ (-1) := iv_eq1 (⟨by decide, by decide⟩ : (-1 : Int) ≤ ((-1) : Int32).toInt ∧ ((-1) : Int32).toInt ≤ -1) c_16
          obtain ⟨v_19, ev_19⟩ : ∃ z : Int32, z = x_2 + 1 := ⟨_, rfl⟩
          refine lv_iinc (v := v_19) (lv' := [(2, .int v_19), (0, .ref h), (1, .int x_1)]) hx hb dX12_inTime_40 hl (k := 2) rfl (by rw [ev_19]; rfl) (by decide) rfl (fun ls hl => ?_)
          have t_20 : v_19.toInt = x_2.toInt + 1 ∧ 1 ≤ v_19.toInt ∧ v_19.toInt ≤ 40 := iv_addc ev_19 i_12 (by decide) (by decide) (by decide)
          refine lv_goto (tgt := 4) hx hb dX12_inTime_43 (by decide) ?_
          have z_40 : 0 ≤ (fv 32).toInt ∧ (fv 32).toInt ≤ 40 := hF_fv 32
          exact ih_6 x_1 v_19 _ _ ls (by omega) i_x_1 (iv_w t_20.2 (by decide) (by decide)) (by have hs2 : (mm_T fv ar) 2 (x_2.toInt.toNat) = v_15 := (by show ar 72 (x_2.toInt.toNat) = _; exact ((show v_15 = ar 72 (x_2.toInt.toNat) from by rw [ev_15]; exact congrArg (ar 72) (show x_2.toInt.toNat = (x_2.toInt.toNat) from by omega))).symm); rw [show v_19.toInt.toNat = (x_2.toInt.toNat) + 1 from by omega]; exact mm_ot_n (fun w => by obtain ⟨w1, w2⟩ := w; rw [hs2] at w1; omega) q_3) (by have h32 := (show (0 : Int) ≤ (fv 32).toInt ∧ (fv 32).toInt ≤ 40 from hF_fv 32); omega) (by have h32 := (show (0 : Int) ≤ (fv 32).toInt ∧ (fv 32).toInt ≤ 40 from hF_fv 32); omega) hP hS (lv_sub hl [1, 2, 0] rfl)
        · skip
          have k_22 : ¬ v_15.toInt = (-1) := fun q => c_16 (Int32.toInt_inj.mp q)
          refine lv_aload_n hx hb dX12_inTime_22 rfl (lv_at hl 0 rfl) ?_
          refine gM_72 hx hb htg hown hK hP dX12_inTime_23 ?_
          refine lv_iload_n hx hb dX12_inTime_26 rfl (lv_at hl 2 rfl) ?_
          refine lM_72 hx hb hK hP (iv_in i_12 (by decide) (by decide)) dX12_inTime_27 (fun v_23 ev_23 => ?_)
          obtain rfl : v_15 = v_23 := ev_15.trans ev_23.symm
          refine lv_aload_n hx hb dX12_inTime_28 rfl (lv_at hl 0 rfl) ?_
          refine gM_13 hx hb htg hown hK hP dX12_inTime_29 ?_
          refine lv_iload_n hx hb dX12_inTime_32 rfl (lv_at hl 2 rfl) ?_
          refine lM_13 hx hb hK hP (iv_in i_12 (by decide) (by decide)) dX12_inTime_33 (fun v_24 ev_24 => ?_)
          refine lv_icmp_gt (tgt := 40) hx hb dX12_inTime_34 (by decide) (fun c_25 => ?_) (fun c_25 => ?_)
          · skip
            have i_26 : (-2147483648) ≤ v_24.toInt ∧ v_24.toInt ≤ 2147483646 := iv_lt1 (iv_any v_24) (iv_any v_15) c_25
            have i_27 : (-2147483647) ≤ v_15.toInt ∧ v_15.toInt ≤ 2147483647 := iv_lt2 (iv_any v_24) (iv_any v_15) c_25
            have k_28 := Int32.lt_iff_toInt_lt.mp c_25
            obtain ⟨v_29, ev_29⟩ : ∃ z : Int32, z = x_2 + 1 := ⟨_, rfl⟩
            refine lv_iinc (v := v_29) (lv' := [(2, .int v_29), (0, .ref h), (1, .int x_1)]) hx hb dX12_inTime_40 hl (k := 2) rfl (by rw [ev_29]; rfl) (by decide) rfl (fun ls hl => ?_)
            have t_30 : v_29.toInt = x_2.toInt + 1 ∧ 1 ≤ v_29.toInt ∧ v_29.toInt ≤ 40 := iv_addc ev_29 i_12 (by decide) (by decide) (by decide)
            refine lv_goto (tgt := 4) hx hb dX12_inTime_43 (by decide) ?_
            have z_41 : 0 ≤ (fv 32).toInt ∧ (fv 32).toInt ≤ 40 := hF_fv 32
            exact ih_6 x_1 v_29 _ _ ls (by omega) i_x_1 (iv_w t_30.2 (by decide) (by decide)) (by have hs2 : (mm_T fv ar) 2 (x_2.toInt.toNat) = v_15 := (by show ar 72 (x_2.toInt.toNat) = _; exact ((show v_15 = ar 72 (x_2.toInt.toNat) from by rw [ev_15]; exact congrArg (ar 72) (show x_2.toInt.toNat = (x_2.toInt.toNat) from by omega))).symm); have hd3 : (mm_D w9 fv ar) 3 (x_2.toInt.toNat) = v_24 := (by show ar 13 (x_2.toInt.toNat) = _; exact ((show v_24 = ar 13 (x_2.toInt.toNat) from by rw [ev_24]; exact congrArg (ar 13) (show x_2.toInt.toNat = (x_2.toInt.toNat) from by omega))).symm); rw [show v_29.toInt.toNat = (x_2.toInt.toNat) + 1 from by omega]; exact mm_ot_n (fun w => by obtain ⟨w1, w2⟩ := w; rw [hs2] at w1 w2; rw [hd3] at w2; omega) q_3) (by have h32 := (show (0 : Int) ≤ (fv 32).toInt ∧ (fv 32).toInt ≤ 40 from hF_fv 32); omega) (by have h32 := (show (0 : Int) ≤ (fv 32).toInt ∧ (fv 32).toInt ≤ 40 from hF_fv 32); omega) hP hS (lv_sub hl [1, 2, 0] rfl)
          · skip
            have k_32 := Int32.le_iff_toInt_le.mp (Int32.not_lt.mp c_25)
            have i_33 : 0 ≤ x_1.toInt ∧ x_1.toInt ≤ 39 := (by omega)
            obtain ⟨v_34, ev_34⟩ : ∃ z : Int32, z = x_1 + 1 := ⟨_, rfl⟩
            refine lv_iinc (v := v_34) (lv' := [(1, .int v_34), (0, .ref h), (2, .int x_2)]) hx hb dX12_inTime_37 hl (k := 1) rfl (by rw [ev_34]; rfl) (by decide) rfl (fun ls hl => ?_)
            have t_35 : v_34.toInt = x_1.toInt + 1 ∧ 1 ≤ v_34.toInt ∧ v_34.toInt ≤ 40 := iv_addc ev_34 i_33 (by decide) (by decide) (by decide)
            obtain ⟨v_37, ev_37⟩ : ∃ z : Int32, z = x_2 + 1 := ⟨_, rfl⟩
            refine lv_iinc (v := v_37) (lv' := [(2, .int v_37), (1, .int v_34), (0, .ref h)]) hx hb dX12_inTime_40 hl (k := 2) rfl (by rw [ev_37]; rfl) (by decide) rfl (fun ls hl => ?_)
            have t_38 : v_37.toInt = x_2.toInt + 1 ∧ 1 ≤ v_37.toInt ∧ v_37.toInt ≤ 40 := iv_addc ev_37 i_12 (by decide) (by decide) (by decide)
            refine lv_goto (tgt := 4) hx hb dX12_inTime_43 (by decide) ?_
            have z_42 : 0 ≤ (fv 32).toInt ∧ (fv 32).toInt ≤ 40 := hF_fv 32
            exact ih_6 v_34 v_37 _ _ ls (by omega) (iv_w t_35.2 (by decide) (by decide)) (iv_w t_38.2 (by decide) (by decide)) (by have hs2 : (mm_T fv ar) 2 (x_2.toInt.toNat) = v_15 := (by show ar 72 (x_2.toInt.toNat) = _; exact ((show v_15 = ar 72 (x_2.toInt.toNat) from by rw [ev_15]; exact congrArg (ar 72) (show x_2.toInt.toNat = (x_2.toInt.toNat) from by omega))).symm); have hd3 : (mm_D w9 fv ar) 3 (x_2.toInt.toNat) = v_24 := (by show ar 13 (x_2.toInt.toNat) = _; exact ((show v_24 = ar 13 (x_2.toInt.toNat) from by rw [ev_24]; exact congrArg (ar 13) (show x_2.toInt.toNat = (x_2.toInt.toNat) from by omega))).symm); rw [show v_37.toInt.toNat = (x_2.toInt.toNat) + 1 from by omega]; exact mm_ot_y (by rw [hs2, hd3]; omega) (by omega)) (by have h32 := (show (0 : Int) ≤ (fv 32).toInt ∧ (fv 32).toInt ≤ 40 from hF_fv 32); omega) (by have h32 := (show (0 : Int) ≤ (fv 32).toInt ∧ (fv 32).toInt ≤ 40 from hF_fv 32); omega) hP hS (lv_sub hl [2, 1, 0] rfl)
  · skip
    have z_43 : (0 : Int32).toInt = 0 := by decide
    have z_44 : 0 ≤ (fv 32).toInt ∧ (fv 32).toInt ≤ 40 := hF_fv 32
    exact hj_8 41 0 0 _ _ ls (by first | decide | omega) (iv_w (⟨by decide, by decide⟩ : (0 : Int) ≤ (0 : Int32).toInt ∧ (0 : Int32).toInt ≤ 0) (by decide) (by decide)) (iv_w (⟨by decide, by decide⟩ : (0 : Int) ≤ (0 : Int32).toInt ∧ (0 : Int32).toInt ≤ 0) (by decide) (by decide)) (by rw [show (0 : Int32).toInt.toNat = 0 from by decide]; show (0 : Int32).toInt = 0; decide) (by have h32 := (show (0 : Int) ≤ (fv 32).toInt ∧ (fv 32).toInt ≤ 40 from hF_fv 32); omega) (by have h32 := (show (0 : Int) ≤ (fv 32).toInt ∧ (fv 32).toInt ≤ 40 from hF_fv 32); omega) hP hS (lv_sub hl [2, 1, 0] rfl)
set_option maxHeartbeats 4000000 in
set_option maxRecDepth 100000 in
theorem m_goThroughE (l : Launch) (dC : Nat → ClassId) (dI : Nat → Nat → Nat) (sz h : Nat) (ad : Nat → Nat) (cA : Nat → ClassId) (hd : dM h ad) (fv : Nat → Int32) (wd : Int64) (ar : Nat → Nat → Int32) (hF_fv : rF fv) (hA_ar : rA ar) (G9 : Nat → Int) (w9 : Nat → Int32) (a : Int32) (hwh : mo_wh (mm_D w9 fv ar)) (hp_sW : sW ar) (hp_vM : vM fv ar) (hp_nR : mm_R G9 fv ar) (hp_nL : mm_L fv ar) (hp_mF : wt_fm G9 (fv 8) (ar 4)) : Met l yX12_goThrough (.code yX12_goThrough cX12_goThrough 5 none :: lw_good) ({ frames := 9, cells := 0, slots := 0, locals := 201 }) (va_Pc [.ref h, .int a] (prM dC dI h ad cA fv wd ar sz)) (va_Qv (fun (u : mS) => rF u.1 ∧ rA u.2.2 ∧ fM [8, 36, 66, 84, 85, 87] fv u.1 ∧ fA [4, 15, 16, 18, 24, 64, 65, 68, 69, 70, 71, 72, 73, 74, 75, 76, 77, 78, 79, 80, 82, 83] ar u.2.2 ∧ (∀ r9 : Nat, r9 ≠ 0 → mm_T u.1 u.2.2 r9 = (mo_md (mm_D w9 (upd fv 84 a) ar) G9 (mo_A (mm_D w9 (upd fv 84 a) ar) (mm_W fv ar)) ((fv 32).toInt.toNat) ((fv 34).toInt.toNat) (mm_Ts (mm_D w9 (upd fv 84 a) ar) (mm_T fv ar) ((fv 32).toInt.toNat) ((fv 34).toInt.toNat) ((fv 35).toInt.toNat)) 840) r9) ∧ (∀ i9 : Nat, u.2.2 73 i9 = (if i9 < ((fv 32).toInt.toNat) then mo_late ((mo_md (mm_D w9 (upd fv 84 a) ar) G9 (mo_A (mm_D w9 (upd fv 84 a) ar) (mm_W fv ar)) ((fv 32).toInt.toNat) ((fv 34).toInt.toNat) (mm_Ts (mm_D w9 (upd fv 84 a) ar) (mm_T fv ar) ((fv 32).toInt.toNat) ((fv 34).toInt.toNat) ((fv 35).toInt.toNat)) 840) 2 i9) (ar 13 i9) else ar 73 i9) ∧ u.2.2 16 i9 = (if i9 < ((fv 32).toInt.toNat) then mo_pur ((mo_md (mm_D w9 (upd fv 84 a) ar) G9 (mo_A (mm_D w9 (upd fv 84 a) ar) (mm_W fv ar)) ((fv 32).toInt.toNat) ((fv 34).toInt.toNat) (mm_Ts (mm_D w9 (upd fv 84 a) ar) (mm_T fv ar) ((fv 32).toInt.toNat) ((fv 34).toInt.toNat) ((fv 35).toInt.toNat)) 840) 0 i9) (mo_wage (mm_dk fv ar) (ar 11 i9) (mo_late ((mo_md (mm_D w9 (upd fv 84 a) ar) G9 (mo_A (mm_D w9 (upd fv 84 a) ar) (mm_W fv ar)) ((fv 32).toInt.toNat) ((fv 34).toInt.toNat) (mm_Ts (mm_D w9 (upd fv 84 a) ar) (mm_T fv ar) ((fv 32).toInt.toNat) ((fv 34).toInt.toNat) ((fv 35).toInt.toNat)) 840) 2 i9) (ar 13 i9))) else (mo_md (mm_D w9 (upd fv 84 a) ar) G9 (mo_A (mm_D w9 (upd fv 84 a) ar) (mm_W fv ar)) ((fv 32).toInt.toNat) ((fv 34).toInt.toNat) (mm_Ts (mm_D w9 (upd fv 84 a) ar) (mm_T fv ar) ((fv 32).toInt.toNat) ((fv 34).toInt.toNat) ((fv 35).toInt.toNat)) 840) 0 i9)) ∧ (u.1 84 = -1) ∧ (sW u.2.2) ∧ (wt_fm G9 (u.1 8) (u.2.2 4)) ∧ True) (enM dC dI h ad cA) (aM h ad sz)) 0 0 (aM h ad sz) := by
  refine Met.ofW (cc := cX12_goThrough) (maxL := 5) (ret := none) (by decide) rfl ?_
  intro p e s m args below meth c s₁ B hml hv
  obtain ⟨rfl, hsz, hP, hK⟩ := hv
  have hx := B.exec
  have hb := B.bytes
  have hr := B.returns
  have hts := atoms_spec (ws := (.code yX12_goThrough cX12_goThrough 5 none :: lw_good)) B.pre
  have htg : ∀ w ∈ lw_good, w.before _ s = true := fun w hw => hts w (List.mem_cons_of_mem _ hw)
  have hown : s.vm.findClass RX12 = some m.cls := findClass_of_methodNamed B.named
  have hlocks := B.notSynchronized
  subst hsz
  have hS : va_S (aM h ad s.heap.size) s.heap s.heap [] := va_S.rf
  have hl := lv_entry ([.ref h, .int a]) (n := 5) (Nat.le_of_ble_eq_true rfl)
  rw [lg_entry_eq]
  generalize (lg_sl ([.ref h, .int a]) ++ List.replicate (5 - (lg_sl ([.ref h, .int a])).length) Slot.unset).toArray = ls at hl ⊢
  have hl : lv_has ls 5 [(0, .ref h), (1, .int a)] := hl
  refine lv_aload_n hx hb dX12_goThrough_0 rfl (lv_at hl 0 rfl) ?_
  refine lv_iload_n hx hb dX12_goThrough_1 rfl (lv_at hl 1 rfl) ?_
  refine pM_84 hx hb htg hown hK hP hS hd dX12_goThrough_2 (fun H locs fv_1 efv_1 hP hS => ?_)
  have hF_fv_1 : rF fv_1 := rF_put hF_fv efv_1 (iv_any a)
  refine lv_iconst (v := 0) hx hb dX12_goThrough_5 (by decide) ?_
  refine lv_istore_n (lv' := [(2, .int 0), (0, .ref h), (1, .int a)]) hx hb dX12_goThrough_6 rfl hl (by decide) rfl (fun ls hl => ?_)
  refine my_cut (P := fun R9 a9 Q9 => ∀ (n_13 : Nat) (x_2 : Int32) (ar_3 : Nat → Nat → Int32) (H : Heap) (locs : List Loc) (ls : Array Slot), 20 - x_2.toInt < (n_13 : Int) → (0 ≤ x_2.toInt ∧ x_2.toInt ≤ 20) → rA ar_3 → fA [76, 77, 78, 79] ar ar_3 → wt_fm G9 (fv_1 8) (ar_3 4) → mm_L fv_1 ar_3 → mm_R G9 fv_1 ar_3 → sW ar_3 → vM fv_1 ar_3 → (mm_T fv_1 ar_3 = mo_fo (mm_w0 (mm_D w9 fv_1 ar)) (mm_T fv_1 ar) ((x_2.toInt.toNat))) → (x_2.toInt ≤ (fv 34).toInt) → (∀ i9 : Nat, (i9 : Int) < x_2.toInt → (ar_3 79 i9).toInt = 0) → va_P (dC, dI) vwCl (wsM h ad cA fv_1 wd ar_3) H → va_S (aM h ad s.heap.size) s.heap H locs → lv_has ls 5 [(0, .ref h), (2, .int x_2)] → W p l e R9 s m a9 below meth c H locs 0 0 Q9 (F0 m 7 ls [])) ?_ (fun hj_15 => ?_)
  · intro n_13
    induction n_13 with
    | zero => intro x_2 ar_3 H locs ls fu_14 i_x_2 hA_ar_3 fa_4 hp_5 hp_6 hp_7 hp_8 hp_9 q_10 q_11 q_12; exfalso; omega
    | succ n_13 ih_13 =>
      intro x_2 ar_3 H locs ls fu_14 i_x_2 hA_ar_3 fa_4 hp_5 hp_6 hp_7 hp_8 hp_9 q_10 q_11 q_12 hP hS hl
      refine lv_iload_n hx hb dX12_goThrough_7 rfl (lv_at hl 1 rfl) ?_
      refine lv_aload_n hx hb dX12_goThrough_8 rfl (lv_at hl 0 rfl) ?_
      refine gM_34 hx hb htg hown hK hP dX12_goThrough_9 ?_
      refine my_ti (y := fv 34) ((congrFun efv_1 34)) ?_
      have i_16 : 0 ≤ (fv 34).toInt ∧ (fv 34).toInt ≤ 20 := hF_fv 34
      refine lv_icmp_ge (tgt := 54) hx hb dX12_goThrough_12 (by decide) (fun c_17 => ?_) (fun c_17 => ?_)
      · skip
        have k_18 := Int32.le_iff_toInt_le.mp c_17
        have hp_30 : mm_9 fv_1 ar_3 := fun i9 h9 => Or.inl (q_12 i9 (by rw [show fv_1 34 = fv 34 from ((fM_put (fM_rf [84] _) efv_1 (by decide)) 34 rfl)] at h9; omega))
        refine lv_iconst (v := 0) hx hb dX12_goThrough_54 (by decide) ?_
        refine lv_istore_n (lv' := [(2, .int 0), (0, .ref h)]) hx hb dX12_goThrough_55 rfl hl (by decide) rfl (fun ls hl => ?_)
        refine my_cut (P := fun R9 a9 Q9 => ∀ (n_43 : Nat) (x_31 : Int32) (ar_32 : Nat → Nat → Int32) (H : Heap) (locs : List Loc) (ls : Array Slot), 40 - x_31.toInt < (n_43 : Int) → (0 ≤ x_31.toInt ∧ x_31.toInt ≤ 40) → rA ar_32 → fA [68, 69, 72, 74, 75] ar_3 ar_32 → wt_fm G9 (fv_1 8) (ar_32 4) → mm_9 fv_1 ar_32 → mm_L fv_1 ar_32 → mm_R G9 fv_1 ar_32 → sW ar_32 → vM fv_1 ar_32 → (mm_T fv_1 ar_32 = mo_fo (mm_p0 (mm_D w9 fv_1 ar)) (mm_T fv_1 ar_3) ((x_31.toInt.toNat))) → (x_31.toInt ≤ (fv 32).toInt) → (∀ i9 : Nat, (i9 : Int) < x_31.toInt → (ar_32 72 i9).toInt = -1) → va_P (dC, dI) vwCl (wsM h ad cA fv_1 wd ar_32) H → va_S (aM h ad s.heap.size) s.heap H locs → lv_has ls 5 [(0, .ref h), (2, .int x_31)] → W p l e R9 s m a9 below meth c H locs 0 0 Q9 (F0 m 56 ls [])) ?_ (fun hj_45 => ?_)
        · intro n_43
          induction n_43 with
          | zero => intro x_31 ar_32 H locs ls fu_44 i_x_31 hA_ar_32 fa_33 hp_34 hp_35 hp_36 hp_37 hp_38 hp_39 q_40 q_41 q_42; exfalso; omega
          | succ n_43 ih_43 =>
            intro x_31 ar_32 H locs ls fu_44 i_x_31 hA_ar_32 fa_33 hp_34 hp_35 hp_36 hp_37 hp_38 hp_39 q_40 q_41 q_42 hP hS hl
            refine lv_iload_n hx hb dX12_goThrough_56 rfl (lv_at hl 1 rfl) ?_
            refine lv_aload_n hx hb dX12_goThrough_57 rfl (lv_at hl 0 rfl) ?_
            refine gM_32 hx hb htg hown hK hP dX12_goThrough_58 ?_
            refine my_ti (y := fv 32) ((congrFun efv_1 32)) ?_
            have i_46 : 0 ≤ (fv 32).toInt ∧ (fv 32).toInt ≤ 40 := hF_fv 32
            refine lv_icmp_ge (tgt := 110) hx hb dX12_goThrough_61 (by decide) (fun c_47 => ?_) (fun c_47 => ?_)
            · skip
              have k_48 := Int32.le_iff_toInt_le.mp c_47
              have hp_63 : mm_c fv_1 ar_32 := fun i9 h9 => by have h8 := q_42 i9 (by rw [show fv_1 32 = fv 32 from ((fM_put (fM_rf [84] _) efv_1 (by decide)) 32 rfl)] at h9; omega); omega
              refine lv_iconst (v := 0) hx hb dX12_goThrough_110 (by decide) ?_
              refine lv_istore_n (lv' := [(2, .int 0), (0, .ref h)]) hx hb dX12_goThrough_111 rfl hl (by decide) rfl (fun ls hl => ?_)
              refine my_cut (P := fun R9 a9 Q9 => ∀ (n_76 : Nat) (x_64 : Int32) (ar_65 : Nat → Nat → Int32) (H : Heap) (locs : List Loc) (ls : Array Slot), 80 - x_64.toInt < (n_76 : Int) → (0 ≤ x_64.toInt ∧ x_64.toInt ≤ 80) → rA ar_65 → fA [80] ar_32 ar_65 → wt_fm G9 (fv_1 8) (ar_65 4) → mm_c fv_1 ar_65 → mm_9 fv_1 ar_65 → mm_L fv_1 ar_65 → mm_R G9 fv_1 ar_65 → sW ar_65 → vM fv_1 ar_65 → (mm_T fv_1 ar_65 = mo_fo mm_k0 (mm_T fv_1 ar_32) ((x_64.toInt.toNat))) → (x_64.toInt ≤ (fv 35).toInt) → va_P (dC, dI) vwCl (wsM h ad cA fv_1 wd ar_65) H → va_S (aM h ad s.heap.size) s.heap H locs → lv_has ls 5 [(0, .ref h), (2, .int x_64)] → W p l e R9 s m a9 below meth c H locs 0 0 Q9 (F0 m 112 ls [])) ?_ (fun hj_78 => ?_)
              · intro n_76
                induction n_76 with
                | zero => intro x_64 ar_65 H locs ls fu_77 i_x_64 hA_ar_65 fa_66 hp_67 hp_68 hp_69 hp_70 hp_71 hp_72 hp_73 q_74 q_75; exfalso; omega
                | succ n_76 ih_76 =>
                  intro x_64 ar_65 H locs ls fu_77 i_x_64 hA_ar_65 fa_66 hp_67 hp_68 hp_69 hp_70 hp_71 hp_72 hp_73 q_74 q_75 hP hS hl
                  refine lv_iload_n hx hb dX12_goThrough_112 rfl (lv_at hl 1 rfl) ?_
                  refine lv_aload_n hx hb dX12_goThrough_113 rfl (lv_at hl 0 rfl) ?_
                  refine gM_35 hx hb htg hown hK hP dX12_goThrough_114 ?_
                  refine my_ti (y := fv 35) ((congrFun efv_1 35)) ?_
                  have i_79 : 0 ≤ (fv 35).toInt ∧ (fv 35).toInt ≤ 80 := hF_fv 35
                  refine lv_icmp_ge (tgt := 133) hx hb dX12_goThrough_117 (by decide) (fun c_80 => ?_) (fun c_80 => ?_)
                  · skip
                    have k_81 := Int32.le_iff_toInt_le.mp c_80
                    refine lv_aload_n hx hb dX12_goThrough_133 rfl (lv_at hl 0 rfl) ?_
                    have z_89 : (fv_1 35).toInt = (fv 35).toInt := congrArg Int32.toInt ((congrFun efv_1 35))
                    have z_90 : 0 ≤ (fv_1 35).toInt ∧ (fv_1 35).toInt ≤ 80 := hF_fv_1 35
                    refine va_callv (va_runV (As := []) (rest := []) ⟨hx, hb, hml, hown, hts⟩ (m_orderTripsE l dC dI H.size h ad cA hd fv_1 wd ar_65 hF_fv_1 hA_ar_65 G9 w9 hp_71) (cwV 0 hts (gV kw_8_176 kw_8_178 kw_p_84 kw_1_15 kw_8_179) rfl rfl rfl (by decide +kernel) ⟨Nat.le_of_ble_eq_true rfl, Nat.le_of_ble_eq_true rfl⟩) ⟨fun a U g mk q => ⟨q.1, q.2.1, q.2.2.1, va_K.moved (u := U) (U := U.calling g mk a) (Vm.Alike.refl U.vm) q.2.2.2⟩, va_recv hK hP (ci := 12) (q0 := 0) rfl rfl, fun U hU hW => ⟨rfl, by rw [hU], by rw [hU]; exact hP, va_K.moved hW.alike hK⟩⟩ rfl rfl hl.1 rfl (lv_room (Nat.le_of_ble_eq_true rfl)) dX12_goThrough_134 ⟨Nat.le_of_ble_eq_true rfl, Nat.le_of_ble_eq_true rfl⟩) hS (fun q _ h9 => aM_up hS q h9) (aM_up hS) (fun u t H1 locs ht _ hw hB _ hk1 hS => ?_)
                    obtain ⟨fv_93, wd_94, ar_95⟩ := u
                    obtain ⟨hF_fv_93, hA_ar_95, fr_96, fa_97, p_92, -⟩ := hw
                    have hP : va_P (dC, dI) vwCl (wsM h ad cA fv_93 wd_94 ar_95) H1 := by have h9 := hB.1; rw [ht] at h9; exact h9
                    have fr_96 : fM [87] fv_1 fv_93 := fr_96
                    have fa_97 : fA [83] ar_65 ar_95 := fa_97
                    have p_92 : mo_or (mm_D w9 fv_1 ar_65) (mo_gt (mm_D w9 fv_1 ar_65)) ((fv_1 35).toInt.toNat) ((fv_93 87).toInt.toNat) (ar_95 83) := p_92
                    generalize H1 = H at hP hS ⊢
                    have or_98 : mo_or (mm_D w9 fv_1 ar) (mo_gt (mm_D w9 fv_1 ar)) ((fv 35).toInt.toNat) ((fv_93 87).toInt.toNat) (ar_95 83) := by have h9 := p_92; rw [show mm_D w9 fv_1 ar_65 = mm_D w9 fv_1 ar from (mm_D_fr (fM_rf [] _) (fA_call (fA_call (fA_call (fA_rf [68, 69, 72, 74, 75, 76, 77, 78, 79, 80] _) fa_4 (by decide)) fa_33 (by decide)) fa_66 (by decide)) rfl rfl), show fv_1 35 = fv 35 from ((fM_put (fM_rf [84] _) efv_1 (by decide)) 35 rfl)] at h9; exact h9
                    refine lv_aload_n hx hb dX12_goThrough_137 rfl (lv_at hl 0 rfl) ?_
                    refine lv_iconst (v := 0) hx hb dX12_goThrough_138 (by decide) ?_
                    refine pM_85 hx hb htg hown hK hP hS hd dX12_goThrough_139 (fun H locs fv_99 efv_99 hP hS => ?_)
                    have hF_fv_99 : rF fv_99 := rF_put hF_fv_93 efv_99 (iv_w (⟨by decide, by decide⟩ : (0 : Int) ≤ (0 : Int32).toInt ∧ (0 : Int32).toInt ≤ 0) (by decide) (by decide))
                    refine my_cut (P := fun R9 a9 Q9 => ∀ (n_114 : Nat) (fv_100 : Nat → Int32) (ar_102 : Nat → Nat → Int32) (wd_104 : Int64) (H : Heap) (locs : List Loc) (ls : Array Slot), 840 - (fv_100 85).toInt < (n_114 : Int) → rF fv_100 → fM [8, 36, 66, 85] fv_99 fv_100 → rA ar_102 → fA [4, 15, 16, 18, 24, 64, 65, 68, 69, 70, 71, 72, 74, 75, 76, 77, 78, 79, 80, 82] ar_95 ar_102 → wt_fm G9 (fv_100 8) (ar_102 4) → mm_c fv_100 ar_102 → mm_9 fv_100 ar_102 → mm_L fv_100 ar_102 → mm_R G9 fv_100 ar_102 → sW ar_102 → vM fv_100 ar_102 → (mm_T fv_100 ar_102 = mo_md (mm_D w9 fv_1 ar) G9 (mo_A (mm_D w9 fv_1 ar) (mm_W fv ar)) ((fv 32).toInt.toNat) ((fv 34).toInt.toNat) (mm_T fv_99 ar_95) ((fv_100 85).toInt.toNat)) → (0 ≤ (fv_100 85).toInt ∧ (fv_100 85).toInt ≤ 840) → va_P (dC, dI) vwCl (wsM h ad cA fv_100 wd_104 ar_102) H → va_S (aM h ad s.heap.size) s.heap H locs → lv_has ls 5 [(0, .ref h)] → W p l e R9 s m a9 below meth c H locs 0 0 Q9 (F0 m 142 ls [])) ?_ (fun hj_116 => ?_)
                    · intro n_114
                      induction n_114 with
                      | zero => intro fv_100 ar_102 wd_104 H locs ls fu_115 hF_fv_100 fr_101 hA_ar_102 fa_103 hp_105 hp_106 hp_107 hp_108 hp_109 hp_110 hp_111 q_112 q_113; exfalso; omega
                      | succ n_114 ih_114 =>
                        intro fv_100 ar_102 wd_104 H locs ls fu_115 hF_fv_100 fr_101 hA_ar_102 fa_103 hp_105 hp_106 hp_107 hp_108 hp_109 hp_110 hp_111 q_112 q_113 hP hS hl
                        refine lv_aload_n hx hb dX12_goThrough_142 rfl (lv_at hl 0 rfl) ?_
                        refine gM_85 hx hb htg hown hK hP dX12_goThrough_143 ?_
                        have i_117 : 0 ≤ (fv_100 85).toInt ∧ (fv_100 85).toInt ≤ 840 := hF_fv_100 85
                        refine lv_sipush (v := 839) hx hb dX12_goThrough_146 (by decide) ?_
                        refine lv_icmp_gt (tgt := 169) hx hb dX12_goThrough_149 (by decide) (fun c_118 => ?_) (fun c_118 => ?_)
                        · skip
                          have i_119 : 840 ≤ (fv_100 85).toInt ∧ (fv_100 85).toInt ≤ 840 := iv_lt2 (⟨by decide, by decide⟩ : (839 : Int) ≤ (839 : Int32).toInt ∧ (839 : Int32).toInt ≤ 839) i_117 c_118
                          refine lv_aload_n hx hb dX12_goThrough_169 rfl (lv_at hl 0 rfl) ?_
                          have z_146 : (fv_100 58).toInt = (fv 58).toInt := congrArg Int32.toInt ((fr_101 58 rfl).trans ((congrFun efv_99 58).trans ((fr_96 58 rfl).trans ((congrFun efv_1 58)))))
                          have z_147 : 0 ≤ (fv_100 58).toInt ∧ (fv_100 58).toInt ≤ 10 := hF_fv_100 58
                          have z_148 : (fv_100 3).toInt = (fv 3).toInt := congrArg Int32.toInt ((fr_101 3 rfl).trans ((congrFun efv_99 3).trans ((fr_96 3 rfl).trans ((congrFun efv_1 3)))))
                          have z_149 : 0 ≤ (fv_100 3).toInt ∧ (fv_100 3).toInt ≤ 199 := hF_fv_100 3
                          have z_150 : (fv_100 58).toInt = (fv 58).toInt := congrArg Int32.toInt ((fr_101 58 rfl).trans ((congrFun efv_99 58).trans ((fr_96 58 rfl).trans ((congrFun efv_1 58)))))
                          have z_151 : 0 ≤ (fv_100 58).toInt ∧ (fv_100 58).toInt ≤ 10 := hF_fv_100 58
                          refine va_calli (va_runV (As := []) (rest := []) ⟨hx, hb, hml, hown, hts⟩ (m_bylawNowE l dC dI H.size h ad cA hd fv_100 wd_104 ar_102 hF_fv_100 hA_ar_102 ((hp_108).2)) (cwV 0 hts (gV kw_8_153 kw_8_155 kw_p_81 kw_1_15 kw_8_156) rfl rfl rfl (by decide +kernel) ⟨Nat.le_of_ble_eq_true rfl, Nat.le_of_ble_eq_true rfl⟩) ⟨fun a U g mk q => ⟨q.1, q.2.1, q.2.2.1, va_K.moved (u := U) (U := U.calling g mk a) (Vm.Alike.refl U.vm) q.2.2.2⟩, va_recv hK hP (ci := 12) (q0 := 0) rfl rfl, fun U hU hW => ⟨rfl, by rw [hU], by rw [hU]; exact hP, va_K.moved hW.alike hK⟩⟩ rfl rfl hl.1 rfl (lv_room (Nat.le_of_ble_eq_true rfl)) dX12_goThrough_170 ⟨Nat.le_of_ble_eq_true rfl, Nat.le_of_ble_eq_true rfl⟩) hS (fun q _ h9 => aM_up hS q h9) (aM_up hS) (fun r_152 u t H1 locs ht _ hw hB _ hk1 hS => ?_)
                          obtain ⟨fv_156, wd_157, ar_158⟩ := u
                          obtain ⟨hF_fv_156, hA_ar_158, fr_159, fa_160, p_153, p_154, p_155, -⟩ := hw
                          have hP : va_P (dC, dI) vwCl (wsM h ad cA fv_156 wd_157 ar_158) H1 := by have h9 := hB.1; rw [ht] at h9; exact h9
                          have fr_159 : fM [] fv_100 fv_156 := fr_159
                          have fa_160 : fA [] ar_102 ar_158 := fa_160
                          have p_154 : r_152.toInt < (fv_100 58).toInt := p_154
                          have p_155 : r_152.toInt + 1 = (((cd_nw (fun i => (ar_102 49 (i - 1)).toInt) (fv_100 3).toInt ((fv_100 58).toInt.toNat)).1 : Nat) : Int) := p_155
                          generalize H1 = H at hP hS ⊢
                          have bn_161 : r_152.toInt + 1 = (((cd_nw (fun i => (ar 49 (i - 1)).toInt) (fv 3).toInt ((fv 58).toInt.toNat)).1 : Nat) : Int) := by have h9 := p_155; rw [show ar_102 49 = ar 49 from ((fA_call (fA_call (fA_call (fA_call (fA_call (fA_rf [4, 15, 16, 18, 24, 64, 65, 68, 69, 70, 71, 72, 74, 75, 76, 77, 78, 79, 80, 82, 83] _) fa_4 (by decide)) fa_33 (by decide)) fa_66 (by decide)) fa_97 (by decide)) fa_103 (by decide)) 49 rfl), show fv_100 3 = fv 3 from ((fM_call (fM_put (fM_call (fM_put (fM_rf [8, 36, 66, 84, 85, 87] _) efv_1 (by decide)) fr_96 (by decide)) efv_99 (by decide)) fr_101 (by decide)) 3 rfl), show fv_100 58 = fv 58 from ((fM_call (fM_put (fM_call (fM_put (fM_rf [8, 36, 66, 84, 85, 87] _) efv_1 (by decide)) fr_96 (by decide)) efv_99 (by decide)) fr_101 (by decide)) 58 rfl)] at h9; exact h9
                          refine lv_istore_n (lv' := [(2, .int r_152), (0, .ref h)]) hx hb dX12_goThrough_173 rfl hl (by decide) rfl (fun ls hl => ?_)
                          refine lv_iconst (v := 0) hx hb dX12_goThrough_174 (by decide) ?_
                          refine lv_istore_n (lv' := [(3, .int 0), (2, .int r_152), (0, .ref h)]) hx hb dX12_goThrough_175 rfl hl (by decide) rfl (fun ls hl => ?_)
                          refine my_cut (P := fun R9 a9 Q9 => ∀ (n_174 : Nat) (x_162 : Int32) (ar_163 : Nat → Nat → Int32) (H : Heap) (locs : List Loc) (ls : Array Slot), 40 - x_162.toInt < (n_174 : Int) → (0 ≤ x_162.toInt ∧ x_162.toInt ≤ 40) → rA ar_163 → fA [16, 73] ar_158 ar_163 → wt_fm G9 (fv_156 8) (ar_163 4) → mm_c fv_156 ar_163 → mm_9 fv_156 ar_163 → mm_L fv_156 ar_163 → mm_R G9 fv_156 ar_163 → sW ar_163 → vM fv_156 ar_163 → (mm_sp ar_158 ar_163 (ar 11) (ar 13) (mm_dk fv ar) ((x_162.toInt.toNat))) → (x_162.toInt ≤ (fv 32).toInt) → va_P (dC, dI) vwCl (wsM h ad cA fv_156 wd_157 ar_163) H → va_S (aM h ad s.heap.size) s.heap H locs → lv_has ls 5 [(0, .ref h), (2, .int r_152), (3, .int x_162)] → W p l e R9 s m a9 below meth c H locs 0 0 Q9 (F0 m 176 ls [])) ?_ (fun hj_176 => ?_)
                          · intro n_174
                            induction n_174 with
                            | zero => intro x_162 ar_163 H locs ls fu_175 i_x_162 hA_ar_163 fa_164 hp_165 hp_166 hp_167 hp_168 hp_169 hp_170 hp_171 q_172 q_173; exfalso; omega
                            | succ n_174 ih_174 =>
                              intro x_162 ar_163 H locs ls fu_175 i_x_162 hA_ar_163 fa_164 hp_165 hp_166 hp_167 hp_168 hp_169 hp_170 hp_171 q_172 q_173 hP hS hl
                              refine lv_iload_n hx hb dX12_goThrough_176 rfl (lv_at hl 2 rfl) ?_
                              refine lv_aload_n hx hb dX12_goThrough_177 rfl (lv_at hl 0 rfl) ?_
                              refine gM_32 hx hb htg hown hK hP dX12_goThrough_178 ?_
                              refine my_ti (y := fv 32) ((fr_159 32 rfl).trans ((fr_101 32 rfl).trans ((congrFun efv_99 32).trans ((fr_96 32 rfl).trans ((congrFun efv_1 32)))))) ?_
                              refine lv_icmp_ge (tgt := 324) hx hb dX12_goThrough_181 (by decide) (fun c_177 => ?_) (fun c_177 => ?_)
                              · skip
                                have k_178 := Int32.le_iff_toInt_le.mp c_177
                                refine lv_aload_n hx hb dX12_goThrough_324 rfl (lv_at hl 0 rfl) ?_
                                refine lv_iconst (v := (-1)) hx hb dX12_goThrough_325 (by decide) ?_
                                refine pM_84 hx hb htg hown hK hP hS hd dX12_goThrough_326 (fun H locs fv_179 efv_179 hP hS => ?_)
                                have hF_fv_179 : rF fv_179 := rF_put hF_fv_156 efv_179 (iv_any _)
                                exact W.vret hx hb hr (fun t ht hW => ⟨⟨(fv_179, wd_157, ar_163), rfl, ⟨hF_fv_179, hA_ar_163, (fM_put (fM_call (fM_call (fM_put (fM_call (fM_put (fM_rf [8, 36, 66, 84, 85, 87] _) efv_1 (by decide)) fr_96 (by decide)) efv_99 (by decide)) fr_101 (by decide)) fr_159 (by decide)) efv_179 (by decide)), (fA_call (fA_call (fA_call (fA_call (fA_call (fA_call (fA_call (fA_rf [4, 15, 16, 18, 24, 64, 65, 68, 69, 70, 71, 72, 73, 74, 75, 76, 77, 78, 79, 80, 82, 83] _) fa_4 (by decide)) fa_33 (by decide)) fa_66 (by decide)) fa_97 (by decide)) fa_103 (by decide)) fa_160 (by decide)) fa_164 (by decide)), (show ∀ r9 : Nat, r9 ≠ 0 → mm_T fv_179 ar_163 r9 = (mo_md (mm_D w9 (upd fv 84 a) ar) G9 (mo_A (mm_D w9 (upd fv 84 a) ar) (mm_W fv ar)) ((fv 32).toInt.toNat) ((fv 34).toInt.toNat) (mm_Ts (mm_D w9 (upd fv 84 a) ar) (mm_T fv ar) ((fv 32).toInt.toNat) ((fv 34).toInt.toNat) ((fv 35).toInt.toNat)) 840) r9 from by have he7 : mm_T fv_1 ar_3 = mo_fo (mm_w0 (mm_D w9 fv_1 ar)) (mm_T fv_1 ar) ((fv 34).toInt.toNat) := (by have h9 := q_10; rw [show (x_2.toInt.toNat) = ((fv 34).toInt.toNat) from by omega] at h9; exact h9); have he56 : mm_T fv_1 ar_32 = mo_fo (mm_p0 (mm_D w9 fv_1 ar)) (mm_T fv_1 ar_3) ((fv 32).toInt.toNat) := (by have h9 := q_40; rw [show (x_31.toInt.toNat) = ((fv 32).toInt.toNat) from by omega] at h9; exact h9); have he112 : mm_T fv_1 ar_65 = mo_fo (mm_k0) (mm_T fv_1 ar_32) ((fv 35).toInt.toNat) := (by have h9 := q_74; rw [show (x_64.toInt.toNat) = ((fv 35).toInt.toNat) from by omega] at h9; exact h9); have ht0 : mm_T fv_99 ar_95 = mm_Ts (mm_D w9 fv_1 ar) (mm_T fv ar) ((fv 32).toInt.toNat) ((fv 34).toInt.toNat) ((fv 35).toInt.toNat) := (by rw [show mm_T fv_99 ar_95 = mm_T fv_1 ar_65 from (mm_T_fr (fM_put (fM_call (fM_rf [85, 87] _) fr_96 (by decide)) efv_99 (by decide)) (fA_call (fA_rf [83] _) fa_97 (by decide)) rfl rfl), he112, he56, he7, show mm_T fv_1 ar = mm_T fv ar from (mm_T_fr (fM_put (fM_rf [84] _) efv_1 (by decide)) (fA_rf [] _) rfl rfl)]; rfl); have hte : mm_T fv_100 ar_102 = mo_md (mm_D w9 fv_1 ar) G9 (mo_A (mm_D w9 fv_1 ar) (mm_W fv ar)) ((fv 32).toInt.toNat) ((fv 34).toInt.toNat) (mm_Ts (mm_D w9 fv_1 ar) (mm_T fv ar) ((fv 32).toInt.toNat) ((fv 34).toInt.toNat) ((fv 35).toInt.toNat)) 840 := (by have h9 := q_112; rw [show (fv_100 85).toInt.toNat = 840 from by omega, ht0] at h9; exact h9); have he5 : mm_T fv_156 ar_158 = mo_md (mm_D w9 fv_1 ar) G9 (mo_A (mm_D w9 fv_1 ar) (mm_W fv ar)) ((fv 32).toInt.toNat) ((fv 34).toInt.toNat) (mm_Ts (mm_D w9 fv_1 ar) (mm_T fv ar) ((fv 32).toInt.toNat) ((fv 34).toInt.toNat) ((fv 35).toInt.toNat)) 840 := (by rw [show mm_T fv_156 ar_158 = mm_T fv_100 ar_102 from (mm_T_fr (fM_call (fM_rf [] _) fr_159 (by decide)) (fA_call (fA_rf [] _) fa_160 (by decide)) rfl rfl)]; exact hte); rw [show upd fv 84 a = fv_1 from efv_1.symm, ← he5]; exact mm_T_but (fM_put (fM_rf [84] _) efv_179 (by decide)) (fA_call (fA_rf [16, 73] _) fa_164 (by decide)) rfl rfl), (show ∀ i9 : Nat, ar_163 73 i9 = (if i9 < ((fv 32).toInt.toNat) then mo_late ((mo_md (mm_D w9 (upd fv 84 a) ar) G9 (mo_A (mm_D w9 (upd fv 84 a) ar) (mm_W fv ar)) ((fv 32).toInt.toNat) ((fv 34).toInt.toNat) (mm_Ts (mm_D w9 (upd fv 84 a) ar) (mm_T fv ar) ((fv 32).toInt.toNat) ((fv 34).toInt.toNat) ((fv 35).toInt.toNat)) 840) 2 i9) (ar 13 i9) else ar 73 i9) ∧ ar_163 16 i9 = (if i9 < ((fv 32).toInt.toNat) then mo_pur ((mo_md (mm_D w9 (upd fv 84 a) ar) G9 (mo_A (mm_D w9 (upd fv 84 a) ar) (mm_W fv ar)) ((fv 32).toInt.toNat) ((fv 34).toInt.toNat) (mm_Ts (mm_D w9 (upd fv 84 a) ar) (mm_T fv ar) ((fv 32).toInt.toNat) ((fv 34).toInt.toNat) ((fv 35).toInt.toNat)) 840) 0 i9) (mo_wage (mm_dk fv ar) (ar 11 i9) (mo_late ((mo_md (mm_D w9 (upd fv 84 a) ar) G9 (mo_A (mm_D w9 (upd fv 84 a) ar) (mm_W fv ar)) ((fv 32).toInt.toNat) ((fv 34).toInt.toNat) (mm_Ts (mm_D w9 (upd fv 84 a) ar) (mm_T fv ar) ((fv 32).toInt.toNat) ((fv 34).toInt.toNat) ((fv 35).toInt.toNat)) 840) 2 i9) (ar 13 i9))) else (mo_md (mm_D w9 (upd fv 84 a) ar) G9 (mo_A (mm_D w9 (upd fv 84 a) ar) (mm_W fv ar)) ((fv 32).toInt.toNat) ((fv 34).toInt.toNat) (mm_Ts (mm_D w9 (upd fv 84 a) ar) (mm_T fv ar) ((fv 32).toInt.toNat) ((fv 34).toInt.toNat) ((fv 35).toInt.toNat)) 840) 0 i9) from by have he7 : mm_T fv_1 ar_3 = mo_fo (mm_w0 (mm_D w9 fv_1 ar)) (mm_T fv_1 ar) ((fv 34).toInt.toNat) := (by have h9 := q_10; rw [show (x_2.toInt.toNat) = ((fv 34).toInt.toNat) from by omega] at h9; exact h9); have he56 : mm_T fv_1 ar_32 = mo_fo (mm_p0 (mm_D w9 fv_1 ar)) (mm_T fv_1 ar_3) ((fv 32).toInt.toNat) := (by have h9 := q_40; rw [show (x_31.toInt.toNat) = ((fv 32).toInt.toNat) from by omega] at h9; exact h9); have he112 : mm_T fv_1 ar_65 = mo_fo (mm_k0) (mm_T fv_1 ar_32) ((fv 35).toInt.toNat) := (by have h9 := q_74; rw [show (x_64.toInt.toNat) = ((fv 35).toInt.toNat) from by omega] at h9; exact h9); have ht0 : mm_T fv_99 ar_95 = mm_Ts (mm_D w9 fv_1 ar) (mm_T fv ar) ((fv 32).toInt.toNat) ((fv 34).toInt.toNat) ((fv 35).toInt.toNat) := (by rw [show mm_T fv_99 ar_95 = mm_T fv_1 ar_65 from (mm_T_fr (fM_put (fM_call (fM_rf [85, 87] _) fr_96 (by decide)) efv_99 (by decide)) (fA_call (fA_rf [83] _) fa_97 (by decide)) rfl rfl), he112, he56, he7, show mm_T fv_1 ar = mm_T fv ar from (mm_T_fr (fM_put (fM_rf [84] _) efv_1 (by decide)) (fA_rf [] _) rfl rfl)]; rfl); have hte : mm_T fv_100 ar_102 = mo_md (mm_D w9 fv_1 ar) G9 (mo_A (mm_D w9 fv_1 ar) (mm_W fv ar)) ((fv 32).toInt.toNat) ((fv 34).toInt.toNat) (mm_Ts (mm_D w9 fv_1 ar) (mm_T fv ar) ((fv 32).toInt.toNat) ((fv 34).toInt.toNat) ((fv 35).toInt.toNat)) 840 := (by have h9 := q_112; rw [show (fv_100 85).toInt.toNat = 840 from by omega, ht0] at h9; exact h9); have he5 : mm_T fv_156 ar_158 = mo_md (mm_D w9 fv_1 ar) G9 (mo_A (mm_D w9 fv_1 ar) (mm_W fv ar)) ((fv 32).toInt.toNat) ((fv 34).toInt.toNat) (mm_Ts (mm_D w9 fv_1 ar) (mm_T fv ar) ((fv 32).toInt.toNat) ((fv 34).toInt.toNat) ((fv 35).toInt.toNat)) 840 := (by rw [show mm_T fv_156 ar_158 = mm_T fv_100 ar_102 from (mm_T_fr (fM_call (fM_rf [] _) fr_159 (by decide)) (fA_call (fA_rf [] _) fa_160 (by decide)) rfl rfl)]; exact hte); rw [show upd fv 84 a = fv_1 from efv_1.symm, ← he5]; have h9 := q_172; rw [show (x_162.toInt.toNat) = ((fv 32).toInt.toNat) from by omega] at h9; intro i9; have h8 := h9 i9; rw [show ar_158 73 = ar 73 from ((fA_call (fA_call (fA_call (fA_call (fA_call (fA_call (fA_rf [4, 15, 16, 18, 24, 64, 65, 68, 69, 70, 71, 72, 74, 75, 76, 77, 78, 79, 80, 82, 83] _) fa_4 (by decide)) fa_33 (by decide)) fa_66 (by decide)) fa_97 (by decide)) fa_103 (by decide)) fa_160 (by decide)) 73 rfl)] at h8; exact h8), (show fv_179 84 = -1 from (congrFun efv_179 84)), hp_170, (mF_fr hp_165 (fM_put (fM_rf [84] _) efv_179 (by decide)) (fA_rf [] _) rfl rfl), trivial⟩, ⟨by rw [ht]; exact hP, va_K.moved hW.alike hK⟩⟩, hS.F ht⟩) hS.2.2 dX12_goThrough_329
                              · skip
                                have i_180 : 0 ≤ x_162.toInt ∧ x_162.toInt ≤ 39 := iv_lt1 i_x_162 i_46 (Int32.not_le.mp c_177)
                                have i_181 : 1 ≤ (fv 32).toInt ∧ (fv 32).toInt ≤ 40 := iv_lt2 i_x_162 i_46 (Int32.not_le.mp c_177)
                                have k_182 := Int32.lt_iff_toInt_lt.mp (Int32.not_le.mp c_177)
                                refine lv_aload_n hx hb dX12_goThrough_184 rfl (lv_at hl 0 rfl) ?_
                                refine gM_73 hx hb htg hown hK hP dX12_goThrough_185 ?_
                                refine lv_iload_n hx hb dX12_goThrough_188 rfl (lv_at hl 2 rfl) ?_
                                refine lv_aload_n hx hb dX12_goThrough_189 rfl (lv_at hl 0 rfl) ?_
                                refine gM_72 hx hb htg hown hK hP dX12_goThrough_190 ?_
                                refine lv_iload_n hx hb dX12_goThrough_193 rfl (lv_at hl 2 rfl) ?_
                                refine lM_72 hx hb hK hP (iv_in i_180 (by decide) (by decide)) dX12_goThrough_194 (fun v_183 ev_183 => ?_)
                                refine lv_iconst (v := (-1)) hx hb dX12_goThrough_195 (by decide) ?_
                                refine my_cut (P := fun R9 a9 Q9 => ∀ (x_200 : Int32) (H : Heap) (locs : List Loc) (ls : Array Slot), (x_200 = (mo_late (ar_158 72 (x_162.toInt.toNat)) (ar 13 (x_162.toInt.toNat)))) → va_P (dC, dI) vwCl (wsM h ad cA fv_156 wd_157 ar_163) H → va_S (aM h ad s.heap.size) s.heap H locs → lv_has ls 5 [(0, .ref h), (2, .int r_152), (3, .int x_162)] → W p l e R9 s m a9 below meth c H locs 0 0 Q9 (F0 m 244 ls [.int x_200, .int x_162, .ref (ad 73)])) ?_ (fun hj_202 => ?_)
                                · intro x_200 H locs ls q_201 hP hS hl
                                  refine sM_73 hx hb hK hP hS hd (iv_in i_180 (by decide) (by decide)) dX12_goThrough_244 (fun H locs ar_203 ear_203 hP hS => ?_)
                                  have hA_ar_203 : rA ar_203 := rA_put hA_ar_163 ear_203 (iv_any _)
                                  refine lv_aload_n hx hb dX12_goThrough_245 rfl (lv_at hl 0 rfl) ?_
                                  refine gM_11 hx hb htg hown hK hP dX12_goThrough_246 ?_
                                  refine lv_iload_n hx hb dX12_goThrough_249 rfl (lv_at hl 2 rfl) ?_
                                  refine lM_11 hx hb hK hP (iv_in i_180 (by decide) (by decide)) dX12_goThrough_250 (fun v_204 ev_204 => ?_)
                                  refine lv_iload_n hx hb dX12_goThrough_251 rfl (lv_at hl 1 rfl) ?_
                                  refine lv_iconst (v := (-1)) hx hb dX12_goThrough_252 (by decide) ?_
                                  refine my_cut (P := fun R9 a9 Q9 => ∀ (x_211 : Int32) (H : Heap) (locs : List Loc) (ls : Array Slot), (x_211 = mm_dk fv ar) → va_P (dC, dI) vwCl (wsM h ad cA fv_156 wd_157 ar_203) H → va_S (aM h ad s.heap.size) s.heap H locs → lv_has ls 5 [(0, .ref h), (2, .int r_152), (3, .int x_162)] → W p l e R9 s m a9 below meth c H locs 0 0 Q9 (F0 m 266 ls [.int x_211, .int v_204])) ?_ (fun hj_213 => ?_)
                                  · intro x_211 H locs ls q_212 hP hS hl
                                    refine lv_aload_n hx hb dX12_goThrough_266 rfl (lv_at hl 0 rfl) ?_
                                    refine gM_73 hx hb htg hown hK hP dX12_goThrough_267 ?_
                                    refine lv_iload_n hx hb dX12_goThrough_270 rfl (lv_at hl 2 rfl) ?_
                                    refine lM_73 hx hb hK hP (iv_in i_180 (by decide) (by decide)) dX12_goThrough_271 (fun v_214 ev_214 => ?_)
                                    refine lv_bipush (v := 10) hx hb dX12_goThrough_272 (by decide) ?_
                                    refine lv_idiv hx hb dX12_goThrough_274 (by decide) ?_
                                    refine lv_topi (fun v_215 ev_215 => ?_)
                                    refine lv_imul hx hb dX12_goThrough_275 ?_
                                    refine lv_topi (fun v_216 ev_216 => ?_)
                                    refine lv_isub hx hb dX12_goThrough_276 ?_
                                    refine lv_topi (fun v_217 ev_217 => ?_)
                                    refine lv_istore (lv' := [(4, .int v_217), (0, .ref h), (2, .int r_152), (3, .int x_162)]) hx hb dX12_goThrough_277 hl (by decide) rfl (fun ls hl => ?_)
                                    refine lv_aload_n hx hb dX12_goThrough_279 rfl (lv_at hl 1 rfl) ?_
                                    refine gM_16 hx hb htg hown hK hP dX12_goThrough_280 ?_
                                    refine lv_iload_n hx hb dX12_goThrough_283 rfl (lv_at hl 3 rfl) ?_
                                    refine lv_dup2_11 hx hb dX12_goThrough_284 rfl rfl ?_
                                    refine lM_16 hx hb hK hP (iv_in i_180 (by decide) (by decide)) dX12_goThrough_285 (fun v_218 ev_218 => ?_)
                                    refine lv_iload hx hb dX12_goThrough_286 (lv_at hl 0 rfl) ?_
                                    refine my_cut (P := fun R9 a9 Q9 => ∀ (x_222 : Int32) (H : Heap) (locs : List Loc) (ls : Array Slot), (0 ≤ x_222.toInt ∧ x_222.toInt ≤ 2147483647) → (x_222 = mo_wage (mm_dk fv ar) (ar 11 (x_162.toInt.toNat)) (mo_late (ar_158 72 (x_162.toInt.toNat)) (ar 13 (x_162.toInt.toNat)))) → va_P (dC, dI) vwCl (wsM h ad cA fv_156 wd_157 ar_203) H → va_S (aM h ad s.heap.size) s.heap H locs → lv_has ls 5 [(0, .ref h), (2, .int r_152), (3, .int x_162)] → W p l e R9 s m a9 below meth c H locs 0 0 Q9 (F0 m 297 ls [.int x_222, .int v_218, .int x_162, .ref (ad 16)])) ?_ (fun hj_224 => ?_)
                                    · intro x_222 H locs ls i_x_222 q_223 hP hS hl
                                      refine lv_iadd hx hb dX12_goThrough_297 ?_
                                      refine lv_topi (fun v_225 ev_225 => ?_)
                                      refine sM_16 hx hb hK hP hS hd (iv_in i_180 (by decide) (by decide)) dX12_goThrough_298 (fun H locs ar_226 ear_226 hP hS => ?_)
                                      have hA_ar_226 : rA ar_226 := rA_put hA_ar_203 ear_226 (iv_any _)
                                      refine lv_aload_n hx hb dX12_goThrough_299 rfl (lv_at hl 0 rfl) ?_
                                      refine gM_16 hx hb htg hown hK hP dX12_goThrough_300 ?_
                                      refine lv_iload_n hx hb dX12_goThrough_303 rfl (lv_at hl 2 rfl) ?_
                                      refine lM_16 hx hb hK hP (iv_in i_180 (by decide) (by decide)) dX12_goThrough_304 (fun v_227 ev_227 => ?_)
                                      refine lv_ldc hx hb hown (htg (.constant RX12 225 100000) kw_7_232) dX12_goThrough_305 ?_
                                      refine lv_icmp_le (tgt := 318) hx hb dX12_goThrough_307 (by decide) (fun c_228 => ?_) (fun c_228 => ?_)
                                      · skip
                                        have i_229 : (-2147483648) ≤ v_227.toInt ∧ v_227.toInt ≤ 100000 := iv_le1 (iv_any v_227) (⟨by decide, by decide⟩ : (100000 : Int) ≤ (100000 : Int32).toInt ∧ (100000 : Int32).toInt ≤ 100000) c_228
                                        obtain ⟨v_230, ev_230⟩ : ∃ z : Int32, z = x_162 + 1 := ⟨_, rfl⟩
                                        refine lv_iinc (v := v_230) (lv' := [(3, .int v_230), (0, .ref h), (2, .int r_152)]) hx hb dX12_goThrough_318 hl (k := 2) rfl (by rw [ev_230]; rfl) (by decide) rfl (fun ls hl => ?_)
                                        have t_231 : v_230.toInt = x_162.toInt + 1 ∧ 1 ≤ v_230.toInt ∧ v_230.toInt ≤ 40 := iv_addc ev_230 i_180 (by decide) (by decide) (by decide)
                                        refine lv_goto (tgt := 176) hx hb dX12_goThrough_321 (by decide) ?_
                                        have z_241 : (fv_156 32).toInt = (fv 32).toInt := congrArg Int32.toInt ((fr_159 32 rfl).trans ((fr_101 32 rfl).trans ((congrFun efv_99 32).trans ((fr_96 32 rfl).trans ((congrFun efv_1 32))))))
                                        have z_242 : 0 ≤ (fv_156 32).toInt ∧ (fv_156 32).toInt ≤ 40 := hF_fv_156 32
                                        exact ih_174 v_230 ar_226 _ _ ls (by omega) (iv_w t_231.2 (by decide) (by decide)) hA_ar_226 (fA_put (fA_put (fA_call (fA_rf [16, 73] _) fa_164 (by decide)) ear_203 (by decide)) ear_226 (by decide)) (mF_fr (mF_fr hp_165 (fM_rf [] _) (fA_put (fA_rf [73] _) ear_203 (by decide)) rfl rfl) (fM_rf [] _) (fA_put (fA_rf [16] _) ear_226 (by decide)) rfl rfl) (mm_c_fr (mm_c_fr hp_166 (fM_rf [] _) (fA_put (fA_rf [73] _) ear_203 (by decide)) rfl rfl) (fM_rf [] _) (fA_put (fA_rf [16] _) ear_226 (by decide)) rfl rfl) (mm_9_fr (mm_9_fr hp_167 (fM_rf [] _) (fA_put (fA_rf [73] _) ear_203 (by decide)) rfl rfl) (fM_rf [] _) (fA_put (fA_rf [16] _) ear_226 (by decide)) rfl rfl) (mm_L_fr (mm_L_fr hp_168 (fM_rf [] _) (fA_put (fA_rf [73] _) ear_203 (by decide)) rfl rfl rfl rfl rfl rfl rfl rfl rfl rfl) (fM_rf [] _) (fA_put (fA_rf [16] _) ear_226 (by decide)) rfl rfl rfl rfl rfl rfl rfl rfl rfl rfl) (mm_R_fr (mm_R_fr hp_169 (fM_rf [] _) (fA_put (fA_rf [73] _) ear_203 (by decide)) rfl rfl rfl rfl rfl rfl rfl rfl rfl rfl rfl) (fM_rf [] _) (fA_put (fA_rf [16] _) ear_226 (by decide)) rfl rfl rfl rfl rfl rfl rfl rfl rfl rfl rfl) (sW_fr (sW_fr hp_170 (fA_put (fA_rf [73] _) ear_203 (by decide)) rfl rfl) (fA_put (fA_rf [16] _) ear_226 (by decide)) rfl rfl) (vM_fr (vM_fr hp_171 (fM_rf [] _) (fA_put (fA_rf [73] _) ear_203 (by decide)) rfl rfl rfl rfl rfl) (fM_rf [] _) (fA_put (fA_rf [16] _) ear_226 (by decide)) rfl rfl rfl rfl rfl) (by have hb15 : v_227.toInt = v_225.toInt := congrArg Int32.toInt (show v_227 = v_225 from by rw [ev_227, ear_226]; show (if Int32.toNatClampNeg x_162 = Int32.toNatClampNeg x_162 then _ else _) = _; exact if_pos rfl); rw [show v_230.toInt.toNat = (x_162.toInt.toNat) + 1 from by omega]; exact mm_sp_s q_172 (show ∀ i9, ar_226 73 i9 = if i9 = (x_162.toInt.toNat) then x_200 else ar_163 73 i9 from (fun i9 => by rw [show ar_226 73 = ar_203 73 from ((fA_put (fA_rf [16] _) ear_226 (by decide)) 73 rfl), ear_203]; show (if i9 = Int32.toNatClampNeg x_162 then x_200 else ar_163 73 i9) = _; rfl)) (show ∀ i9, ar_226 16 i9 = if i9 = (x_162.toInt.toNat) then v_225 else ar_163 16 i9 from (fun i9 => by rw [ear_226]; show (if i9 = Int32.toNatClampNeg x_162 then v_225 else ar_203 16 i9) = _; rw [show ar_203 16 = ar_163 16 from ((fA_put (fA_rf [73] _) ear_203 (by decide)) 16 rfl)]; rfl)) q_201 (by rw [← q_223]; exact mm_puI (s := v_225) (by rw [ev_225, show v_218 = ar_158 16 (x_162.toInt.toNat) from (by rw [← (mm_sp_at q_172).2, ev_218, show ar_203 16 = ar_163 16 from ((fA_put (fA_rf [73] _) ear_203 (by decide)) 16 rfl)]; rfl)]) ⟨fun w => by exfalso; omega, fun w => by rfl⟩)) (by have h32 := (show (0 : Int) ≤ (fv 32).toInt ∧ (fv 32).toInt ≤ 40 from hF_fv 32); omega) hP hS (lv_sub hl [1, 2, 0] rfl)
                                      · skip
                                        have i_233 : 100001 ≤ v_227.toInt ∧ v_227.toInt ≤ 2147483647 := iv_lt2 (⟨by decide, by decide⟩ : (100000 : Int) ≤ (100000 : Int32).toInt ∧ (100000 : Int32).toInt ≤ 100000) (iv_any v_227) (Int32.not_le.mp c_228)
                                        refine lv_aload_n hx hb dX12_goThrough_310 rfl (lv_at hl 0 rfl) ?_
                                        refine gM_16 hx hb htg hown hK hP dX12_goThrough_311 ?_
                                        refine lv_iload_n hx hb dX12_goThrough_314 rfl (lv_at hl 2 rfl) ?_
                                        refine lv_ldc hx hb hown (htg (.constant RX12 225 100000) kw_7_232) dX12_goThrough_315 ?_
                                        refine sM_16 hx hb hK hP hS hd (iv_in i_180 (by decide) (by decide)) dX12_goThrough_317 (fun H locs ar_234 ear_234 hP hS => ?_)
                                        have hA_ar_234 : rA ar_234 := rA_put hA_ar_226 ear_234 (iv_any _)
                                        obtain ⟨v_235, ev_235⟩ : ∃ z : Int32, z = x_162 + 1 := ⟨_, rfl⟩
                                        refine lv_iinc (v := v_235) (lv' := [(3, .int v_235), (0, .ref h), (2, .int r_152)]) hx hb dX12_goThrough_318 hl (k := 2) rfl (by rw [ev_235]; rfl) (by decide) rfl (fun ls hl => ?_)
                                        have t_236 : v_235.toInt = x_162.toInt + 1 ∧ 1 ≤ v_235.toInt ∧ v_235.toInt ≤ 40 := iv_addc ev_235 i_180 (by decide) (by decide) (by decide)
                                        refine lv_goto (tgt := 176) hx hb dX12_goThrough_321 (by decide) ?_
                                        have z_243 : (fv_156 32).toInt = (fv 32).toInt := congrArg Int32.toInt ((fr_159 32 rfl).trans ((fr_101 32 rfl).trans ((congrFun efv_99 32).trans ((fr_96 32 rfl).trans ((congrFun efv_1 32))))))
                                        have z_244 : 0 ≤ (fv_156 32).toInt ∧ (fv_156 32).toInt ≤ 40 := hF_fv_156 32
                                        exact ih_174 v_235 ar_234 _ _ ls (by omega) (iv_w t_236.2 (by decide) (by decide)) hA_ar_234 (fA_put (fA_put (fA_put (fA_call (fA_rf [16, 73] _) fa_164 (by decide)) ear_203 (by decide)) ear_226 (by decide)) ear_234 (by decide)) (mF_fr (mF_fr hp_165 (fM_rf [] _) (fA_put (fA_rf [73] _) ear_203 (by decide)) rfl rfl) (fM_rf [] _) (fA_put (fA_put (fA_rf [16] _) ear_226 (by decide)) ear_234 (by decide)) rfl rfl) (mm_c_fr (mm_c_fr hp_166 (fM_rf [] _) (fA_put (fA_rf [73] _) ear_203 (by decide)) rfl rfl) (fM_rf [] _) (fA_put (fA_put (fA_rf [16] _) ear_226 (by decide)) ear_234 (by decide)) rfl rfl) (mm_9_fr (mm_9_fr hp_167 (fM_rf [] _) (fA_put (fA_rf [73] _) ear_203 (by decide)) rfl rfl) (fM_rf [] _) (fA_put (fA_put (fA_rf [16] _) ear_226 (by decide)) ear_234 (by decide)) rfl rfl) (mm_L_fr (mm_L_fr hp_168 (fM_rf [] _) (fA_put (fA_rf [73] _) ear_203 (by decide)) rfl rfl rfl rfl rfl rfl rfl rfl rfl rfl) (fM_rf [] _) (fA_put (fA_put (fA_rf [16] _) ear_226 (by decide)) ear_234 (by decide)) rfl rfl rfl rfl rfl rfl rfl rfl rfl rfl) (mm_R_fr (mm_R_fr hp_169 (fM_rf [] _) (fA_put (fA_rf [73] _) ear_203 (by decide)) rfl rfl rfl rfl rfl rfl rfl rfl rfl rfl rfl) (fM_rf [] _) (fA_put (fA_put (fA_rf [16] _) ear_226 (by decide)) ear_234 (by decide)) rfl rfl rfl rfl rfl rfl rfl rfl rfl rfl rfl) (sW_fr (sW_fr hp_170 (fA_put (fA_rf [73] _) ear_203 (by decide)) rfl rfl) (fA_put (fA_put (fA_rf [16] _) ear_226 (by decide)) ear_234 (by decide)) rfl rfl) (vM_fr (vM_fr hp_171 (fM_rf [] _) (fA_put (fA_rf [73] _) ear_203 (by decide)) rfl rfl rfl rfl rfl) (fM_rf [] _) (fA_put (fA_put (fA_rf [16] _) ear_226 (by decide)) ear_234 (by decide)) rfl rfl rfl rfl rfl) (by have hb15 : v_227.toInt = v_225.toInt := congrArg Int32.toInt (show v_227 = v_225 from by rw [ev_227, ear_226]; show (if Int32.toNatClampNeg x_162 = Int32.toNatClampNeg x_162 then _ else _) = _; exact if_pos rfl); rw [show v_235.toInt.toNat = (x_162.toInt.toNat) + 1 from by omega]; exact mm_sp_s q_172 (show ∀ i9, ar_234 73 i9 = if i9 = (x_162.toInt.toNat) then x_200 else ar_163 73 i9 from (fun i9 => by rw [show ar_234 73 = ar_203 73 from ((fA_put (fA_put (fA_rf [16] _) ear_226 (by decide)) ear_234 (by decide)) 73 rfl), ear_203]; show (if i9 = Int32.toNatClampNeg x_162 then x_200 else ar_163 73 i9) = _; rfl)) (mm_up2 (show ∀ i9, ar_226 16 i9 = if i9 = (x_162.toInt.toNat) then v_225 else ar_163 16 i9 from fun i9 => by rw [ear_226]; show (if i9 = Int32.toNatClampNeg x_162 then v_225 else ar_203 16 i9) = _; rw [show ar_203 16 = ar_163 16 from ((fA_put (fA_rf [73] _) ear_203 (by decide)) 16 rfl)]; rfl) (show ∀ i9, ar_234 16 i9 = if i9 = (x_162.toInt.toNat) then (100000 : Int32) else ar_226 16 i9 from fun i9 => by rw [ear_234]; show (if i9 = Int32.toNatClampNeg x_162 then (100000 : Int32) else ar_226 16 i9) = _; rfl)) q_201 (by rw [← q_223]; exact mm_puI (s := v_225) (by rw [ev_225, show v_218 = ar_158 16 (x_162.toInt.toNat) from (by rw [← (mm_sp_at q_172).2, ev_218, show ar_203 16 = ar_163 16 from ((fA_put (fA_rf [73] _) ear_203 (by decide)) 16 rfl)]; rfl)]) ⟨fun w => by rfl, fun w => by exfalso; omega⟩)) (by have h32 := (show (0 : Int) ≤ (fv 32).toInt ∧ (fv 32).toInt ≤ 40 from hF_fv 32); omega) hP hS (lv_sub hl [1, 2, 0] rfl)
                                    · skip
                                      refine lv_if_ge (tgt := 295) hx hb dX12_goThrough_288 (by decide) (fun c_219 => ?_) (fun c_219 => ?_)
                                      · skip
                                        have i_220 : 0 ≤ v_217.toInt ∧ v_217.toInt ≤ 2147483647 := iv_le2 (⟨by decide, by decide⟩ : (0 : Int) ≤ (0 : Int32).toInt ∧ (0 : Int32).toInt ≤ 0) (iv_any v_217) c_219
                                        refine lv_iload hx hb dX12_goThrough_295 (lv_at hl 0 rfl) ?_
                                        exact hj_224 v_217 _ _ ls i_220 (mm_wgI (pay := v_217) (by rw [← q_212, ← q_201, ev_217, ev_216, ev_215, show v_204 = ar 11 (x_162.toInt.toNat) from (show v_204 = ar 11 (x_162.toInt.toNat) from by rw [ev_204, show ar_203 11 = ar 11 from ((fA_put (fA_call (fA_call (fA_call (fA_call (fA_call (fA_call (fA_call (fA_rf [4, 15, 16, 18, 24, 64, 65, 68, 69, 70, 71, 72, 73, 74, 75, 76, 77, 78, 79, 80, 82, 83] _) fa_4 (by decide)) fa_33 (by decide)) fa_66 (by decide)) fa_97 (by decide)) fa_103 (by decide)) fa_160 (by decide)) fa_164 (by decide)) ear_203 (by decide)) 11 rfl)]; exact congrArg (ar 11) (show x_162.toInt.toNat = (x_162.toInt.toNat) from by omega)), show v_214 = x_200 from (show v_214 = x_200 from by rw [ev_214, ear_203]; show (if Int32.toNatClampNeg x_162 = Int32.toNatClampNeg x_162 then _ else _) = _; exact if_pos rfl)]) ⟨fun w => by exfalso; omega, fun w => by rfl⟩) hP hS (lv_sub hl [1, 2, 3] rfl)
                                      · skip
                                        have i_221 : (-2147483648) ≤ v_217.toInt ∧ v_217.toInt ≤ (-1) := iv_lt1 (iv_any v_217) (⟨by decide, by decide⟩ : (0 : Int) ≤ (0 : Int32).toInt ∧ (0 : Int32).toInt ≤ 0) (Int32.not_le.mp c_219)
                                        refine lv_iconst (v := 0) hx hb dX12_goThrough_291 (by decide) ?_
                                        refine lv_goto (tgt := 297) hx hb dX12_goThrough_292 (by decide) ?_
                                        have z_238 : (0 : Int32).toInt = 0 := by decide
                                        exact hj_224 0 _ _ ls (iv_w (⟨by decide, by decide⟩ : (0 : Int) ≤ (0 : Int32).toInt ∧ (0 : Int32).toInt ≤ 0) (by decide) (by decide)) (mm_wgI (pay := v_217) (by rw [← q_212, ← q_201, ev_217, ev_216, ev_215, show v_204 = ar 11 (x_162.toInt.toNat) from (show v_204 = ar 11 (x_162.toInt.toNat) from by rw [ev_204, show ar_203 11 = ar 11 from ((fA_put (fA_call (fA_call (fA_call (fA_call (fA_call (fA_call (fA_call (fA_rf [4, 15, 16, 18, 24, 64, 65, 68, 69, 70, 71, 72, 73, 74, 75, 76, 77, 78, 79, 80, 82, 83] _) fa_4 (by decide)) fa_33 (by decide)) fa_66 (by decide)) fa_97 (by decide)) fa_103 (by decide)) fa_160 (by decide)) fa_164 (by decide)) ear_203 (by decide)) 11 rfl)]; exact congrArg (ar 11) (show x_162.toInt.toNat = (x_162.toInt.toNat) from by omega)), show v_214 = x_200 from (show v_214 = x_200 from by rw [ev_214, ear_203]; show (if Int32.toNatClampNeg x_162 = Int32.toNatClampNeg x_162 then _ else _) = _; exact if_pos rfl)]) ⟨fun w => by rfl, fun w => by exfalso; omega⟩) hP hS (lv_sub hl [1, 2, 3] rfl)
                                  · skip
                                    refine lv_icmp_ne (tgt := 260) hx hb dX12_goThrough_253 (by decide) (fun c_205 => ?_) (fun c_205 => ?_)
                                    · skip
                                      have i_206 : 0 ≤ r_152.toInt ∧ r_152.toInt ≤ 9 := iv_nel p_153 (by decide) c_205
                                      have k_207 : ¬ r_152.toInt = (-1) := fun q => c_205 (Int32.toInt_inj.mp q)
                                      refine lv_aload_n hx hb dX12_goThrough_260 rfl (lv_at hl 0 rfl) ?_
                                      refine gM_48 hx hb htg hown hK hP dX12_goThrough_261 ?_
                                      refine lv_iload_n hx hb dX12_goThrough_264 rfl (lv_at hl 1 rfl) ?_
                                      refine lM_48 hx hb hK hP (iv_in i_206 (by decide) (by decide)) dX12_goThrough_265 (fun v_208 ev_208 => ?_)
                                      exact hj_213 v_208 _ _ ls (mm_dk_v (b := r_152.toInt) bn_161 (by omega) (show v_208 = ar 48 (r_152.toInt.toNat) from by rw [ev_208, show ar_203 48 = ar 48 from ((fA_put (fA_call (fA_call (fA_call (fA_call (fA_call (fA_call (fA_call (fA_rf [4, 15, 16, 18, 24, 64, 65, 68, 69, 70, 71, 72, 73, 74, 75, 76, 77, 78, 79, 80, 82, 83] _) fa_4 (by decide)) fa_33 (by decide)) fa_66 (by decide)) fa_97 (by decide)) fa_103 (by decide)) fa_160 (by decide)) fa_164 (by decide)) ear_203 (by decide)) 48 rfl)]; exact congrArg (ar 48) (show r_152.toInt.toNat = (r_152.toInt.toNat) from by omega))) hP hS (lv_sub hl [0, 1, 2] rfl)
                                    · skip
                                      have i_209 : (-1) ≤ r_152.toInt ∧ r_152.toInt ≤ (-1) := iv_eq1 (⟨by decide, by decide⟩ : (-1 : Int) ≤ ((-1) : Int32).toInt ∧ ((-1) : Int32).toInt ≤ -1) c_205
                                      refine lv_iconst (v := 0) hx hb dX12_goThrough_256 (by decide) ?_
                                      refine lv_goto (tgt := 266) hx hb dX12_goThrough_257 (by decide) ?_
                                      have z_239 : (0 : Int32).toInt = 0 := by decide
                                      exact hj_213 0 _ _ ls (mm_dk_0 (b := r_152.toInt) bn_161 (by omega)) hP hS (lv_sub hl [0, 1, 2] rfl)
                                · skip
                                  refine lv_icmp_ne (tgt := 212) hx hb dX12_goThrough_196 (by decide) (fun c_184 => ?_) (fun c_184 => ?_)
                                  · skip
                                    have k_185 : ¬ v_183.toInt = (-1) := fun q => c_184 (Int32.toInt_inj.mp q)
                                    refine lv_aload_n hx hb dX12_goThrough_212 rfl (lv_at hl 0 rfl) ?_
                                    refine gM_72 hx hb htg hown hK hP dX12_goThrough_213 ?_
                                    refine lv_iload_n hx hb dX12_goThrough_216 rfl (lv_at hl 2 rfl) ?_
                                    refine lM_72 hx hb hK hP (iv_in i_180 (by decide) (by decide)) dX12_goThrough_217 (fun v_186 ev_186 => ?_)
                                    obtain rfl : v_183 = v_186 := ev_183.trans ev_186.symm
                                    refine lv_aload_n hx hb dX12_goThrough_218 rfl (lv_at hl 0 rfl) ?_
                                    refine gM_13 hx hb htg hown hK hP dX12_goThrough_219 ?_
                                    refine lv_iload_n hx hb dX12_goThrough_222 rfl (lv_at hl 2 rfl) ?_
                                    refine lM_13 hx hb hK hP (iv_in i_180 (by decide) (by decide)) dX12_goThrough_223 (fun v_187 ev_187 => ?_)
                                    refine lv_icmp_le (tgt := 243) hx hb dX12_goThrough_224 (by decide) (fun c_188 => ?_) (fun c_188 => ?_)
                                    · skip
                                      have k_189 := Int32.le_iff_toInt_le.mp c_188
                                      refine lv_iconst (v := 0) hx hb dX12_goThrough_243 (by decide) ?_
                                      have z_240 : (0 : Int32).toInt = 0 := by decide
                                      exact hj_202 0 _ _ ls (by rw [show ar_158 72 (x_162.toInt.toNat) = v_183 from by rw [show ar_158 72 = ar_163 72 from (((fA_call (fA_rf [16, 73] _) fa_164 (by decide)) 72 rfl)).symm]; exact ((show v_183 = ar_163 72 (x_162.toInt.toNat) from by rw [ev_183]; exact congrArg (ar_163 72) (show x_162.toInt.toNat = (x_162.toInt.toNat) from by omega))).symm, show ar 13 (x_162.toInt.toNat) = v_187 from ((show v_187 = ar 13 (x_162.toInt.toNat) from by rw [ev_187, show ar_163 13 = ar 13 from ((fA_call (fA_call (fA_call (fA_call (fA_call (fA_call (fA_call (fA_rf [4, 15, 16, 18, 24, 64, 65, 68, 69, 70, 71, 72, 73, 74, 75, 76, 77, 78, 79, 80, 82, 83] _) fa_4 (by decide)) fa_33 (by decide)) fa_66 (by decide)) fa_97 (by decide)) fa_103 (by decide)) fa_160 (by decide)) fa_164 (by decide)) 13 rfl)]; exact congrArg (ar 13) (show x_162.toInt.toNat = (x_162.toInt.toNat) from by omega))).symm]; exact mm_lt_0 (by have h9 := hp_166 (x_162.toInt.toNat) (by rw [show fv_156 32 = fv 32 from ((fM_call (fM_call (fM_put (fM_call (fM_put (fM_rf [8, 36, 66, 84, 85, 87] _) efv_1 (by decide)) fr_96 (by decide)) efv_99 (by decide)) fr_101 (by decide)) fr_159 (by decide)) 32 rfl)]; omega); rw [show ar_163 72 (x_162.toInt.toNat) = v_183 from ((show v_183 = ar_163 72 (x_162.toInt.toNat) from by rw [ev_183]; exact congrArg (ar_163 72) (show x_162.toInt.toNat = (x_162.toInt.toNat) from by omega))).symm] at h9; exact h9) (by omega) (by rw [show v_187 = ar 13 (x_162.toInt.toNat) from (show v_187 = ar 13 (x_162.toInt.toNat) from by rw [ev_187, show ar_163 13 = ar 13 from ((fA_call (fA_call (fA_call (fA_call (fA_call (fA_call (fA_call (fA_rf [4, 15, 16, 18, 24, 64, 65, 68, 69, 70, 71, 72, 73, 74, 75, 76, 77, 78, 79, 80, 82, 83] _) fa_4 (by decide)) fa_33 (by decide)) fa_66 (by decide)) fa_97 (by decide)) fa_103 (by decide)) fa_160 (by decide)) fa_164 (by decide)) 13 rfl)]; exact congrArg (ar 13) (show x_162.toInt.toNat = (x_162.toInt.toNat) from by omega))]; exact hp_nR.1.2.2.2.2.2.1 _) (by omega) rfl) hP hS (lv_sub hl [0, 1, 2] rfl)
                                    · skip
                                      have i_190 : (-2147483648) ≤ v_187.toInt ∧ v_187.toInt ≤ 2147483646 := iv_lt1 (iv_any v_187) (iv_any v_183) (Int32.not_le.mp c_188)
                                      have i_191 : (-2147483647) ≤ v_183.toInt ∧ v_183.toInt ≤ 2147483647 := iv_lt2 (iv_any v_187) (iv_any v_183) (Int32.not_le.mp c_188)
                                      have k_192 := Int32.lt_iff_toInt_lt.mp (Int32.not_le.mp c_188)
                                      refine lv_aload_n hx hb dX12_goThrough_227 rfl (lv_at hl 0 rfl) ?_
                                      refine gM_72 hx hb htg hown hK hP dX12_goThrough_228 ?_
                                      refine lv_iload_n hx hb dX12_goThrough_231 rfl (lv_at hl 2 rfl) ?_
                                      refine lM_72 hx hb hK hP (iv_in i_180 (by decide) (by decide)) dX12_goThrough_232 (fun v_193 ev_193 => ?_)
                                      obtain rfl : v_183 = v_193 := ev_183.trans ev_193.symm
                                      refine lv_aload_n hx hb dX12_goThrough_233 rfl (lv_at hl 0 rfl) ?_
                                      refine gM_13 hx hb htg hown hK hP dX12_goThrough_234 ?_
                                      refine lv_iload_n hx hb dX12_goThrough_237 rfl (lv_at hl 2 rfl) ?_
                                      refine lM_13 hx hb hK hP (iv_in i_180 (by decide) (by decide)) dX12_goThrough_238 (fun v_194 ev_194 => ?_)
                                      obtain rfl : v_187 = v_194 := ev_187.trans ev_194.symm
                                      refine lv_isub hx hb dX12_goThrough_239 ?_
                                      refine lv_topi (fun v_195 ev_195 => ?_)
                                      refine lv_goto (tgt := 244) hx hb dX12_goThrough_240 (by decide) ?_
                                      exact hj_202 v_195 _ _ ls (by rw [show ar_158 72 (x_162.toInt.toNat) = v_183 from by rw [show ar_158 72 = ar_163 72 from (((fA_call (fA_rf [16, 73] _) fa_164 (by decide)) 72 rfl)).symm]; exact ((show v_183 = ar_163 72 (x_162.toInt.toNat) from by rw [ev_183]; exact congrArg (ar_163 72) (show x_162.toInt.toNat = (x_162.toInt.toNat) from by omega))).symm, show ar 13 (x_162.toInt.toNat) = v_187 from ((show v_187 = ar 13 (x_162.toInt.toNat) from by rw [ev_187, show ar_163 13 = ar 13 from ((fA_call (fA_call (fA_call (fA_call (fA_call (fA_call (fA_call (fA_rf [4, 15, 16, 18, 24, 64, 65, 68, 69, 70, 71, 72, 73, 74, 75, 76, 77, 78, 79, 80, 82, 83] _) fa_4 (by decide)) fa_33 (by decide)) fa_66 (by decide)) fa_97 (by decide)) fa_103 (by decide)) fa_160 (by decide)) fa_164 (by decide)) 13 rfl)]; exact congrArg (ar 13) (show x_162.toInt.toNat = (x_162.toInt.toNat) from by omega))).symm]; exact mm_lt_l (by have h9 := hp_166 (x_162.toInt.toNat) (by rw [show fv_156 32 = fv 32 from ((fM_call (fM_call (fM_put (fM_call (fM_put (fM_rf [8, 36, 66, 84, 85, 87] _) efv_1 (by decide)) fr_96 (by decide)) efv_99 (by decide)) fr_101 (by decide)) fr_159 (by decide)) 32 rfl)]; omega); rw [show ar_163 72 (x_162.toInt.toNat) = v_183 from ((show v_183 = ar_163 72 (x_162.toInt.toNat) from by rw [ev_183]; exact congrArg (ar_163 72) (show x_162.toInt.toNat = (x_162.toInt.toNat) from by omega))).symm] at h9; exact h9) (by omega) (by rw [show v_187 = ar 13 (x_162.toInt.toNat) from (show v_187 = ar 13 (x_162.toInt.toNat) from by rw [ev_187, show ar_163 13 = ar 13 from ((fA_call (fA_call (fA_call (fA_call (fA_call (fA_call (fA_call (fA_rf [4, 15, 16, 18, 24, 64, 65, 68, 69, 70, 71, 72, 73, 74, 75, 76, 77, 78, 79, 80, 82, 83] _) fa_4 (by decide)) fa_33 (by decide)) fa_66 (by decide)) fa_97 (by decide)) fa_103 (by decide)) fa_160 (by decide)) fa_164 (by decide)) 13 rfl)]; exact congrArg (ar 13) (show x_162.toInt.toNat = (x_162.toInt.toNat) from by omega))]; exact hp_nR.1.2.2.2.2.2.1 _) (by omega) ev_195) hP hS (lv_sub hl [0, 1, 2] rfl)
                                  · skip
                                    have i_196 : (-1) ≤ v_183.toInt ∧ v_183.toInt ≤ (-1) := iv_eq1 (⟨by decide, by decide⟩ : (-1 : Int) ≤ ((-1) : Int32).toInt ∧ ((-1) : Int32).toInt ≤ -1) c_184
                                    refine lv_sipush (v := 840) hx hb dX12_goThrough_199 (by decide) ?_
                                    refine lv_aload_n hx hb dX12_goThrough_202 rfl (lv_at hl 0 rfl) ?_
                                    refine gM_13 hx hb htg hown hK hP dX12_goThrough_203 ?_
                                    refine lv_iload_n hx hb dX12_goThrough_206 rfl (lv_at hl 2 rfl) ?_
                                    refine lM_13 hx hb hK hP (iv_in i_180 (by decide) (by decide)) dX12_goThrough_207 (fun v_198 ev_198 => ?_)
                                    refine lv_isub hx hb dX12_goThrough_208 ?_
                                    refine lv_topi (fun v_199 ev_199 => ?_)
                                    refine lv_goto (tgt := 244) hx hb dX12_goThrough_209 (by decide) ?_
                                    exact hj_202 v_199 _ _ ls (by rw [show ar_158 72 (x_162.toInt.toNat) = v_183 from by rw [show ar_158 72 = ar_163 72 from (((fA_call (fA_rf [16, 73] _) fa_164 (by decide)) 72 rfl)).symm]; exact ((show v_183 = ar_163 72 (x_162.toInt.toNat) from by rw [ev_183]; exact congrArg (ar_163 72) (show x_162.toInt.toNat = (x_162.toInt.toNat) from by omega))).symm, show ar 13 (x_162.toInt.toNat) = v_198 from ((show v_198 = ar 13 (x_162.toInt.toNat) from by rw [ev_198, show ar_163 13 = ar 13 from ((fA_call (fA_call (fA_call (fA_call (fA_call (fA_call (fA_call (fA_rf [4, 15, 16, 18, 24, 64, 65, 68, 69, 70, 71, 72, 73, 74, 75, 76, 77, 78, 79, 80, 82, 83] _) fa_4 (by decide)) fa_33 (by decide)) fa_66 (by decide)) fa_97 (by decide)) fa_103 (by decide)) fa_160 (by decide)) fa_164 (by decide)) 13 rfl)]; exact congrArg (ar 13) (show x_162.toInt.toNat = (x_162.toInt.toNat) from by omega))).symm]; exact mm_lt_n (by omega) (by rw [show v_198 = ar 13 (x_162.toInt.toNat) from (show v_198 = ar 13 (x_162.toInt.toNat) from by rw [ev_198, show ar_163 13 = ar 13 from ((fA_call (fA_call (fA_call (fA_call (fA_call (fA_call (fA_call (fA_rf [4, 15, 16, 18, 24, 64, 65, 68, 69, 70, 71, 72, 73, 74, 75, 76, 77, 78, 79, 80, 82, 83] _) fa_4 (by decide)) fa_33 (by decide)) fa_66 (by decide)) fa_97 (by decide)) fa_103 (by decide)) fa_160 (by decide)) fa_164 (by decide)) 13 rfl)]; exact congrArg (ar 13) (show x_162.toInt.toNat = (x_162.toInt.toNat) from by omega))]; exact hp_nR.1.2.2.2.2.2.1 _) ev_199) hP hS (lv_sub hl [0, 1, 2] rfl)
                          · skip
                            have z_245 : (0 : Int32).toInt = 0 := by decide
                            have z_246 : (fv_156 32).toInt = (fv 32).toInt := congrArg Int32.toInt ((fr_159 32 rfl).trans ((fr_101 32 rfl).trans ((congrFun efv_99 32).trans ((fr_96 32 rfl).trans ((congrFun efv_1 32))))))
                            have z_247 : 0 ≤ (fv_156 32).toInt ∧ (fv_156 32).toInt ≤ 40 := hF_fv_156 32
                            exact hj_176 41 0 ar_158 _ _ ls (by first | decide | omega) (iv_w (⟨by decide, by decide⟩ : (0 : Int) ≤ (0 : Int32).toInt ∧ (0 : Int32).toInt ≤ 0) (by decide) (by decide)) hA_ar_158 (fA_rf [16, 73] _) (mF_fr hp_105 (fM_call (fM_rf [] _) fr_159 (by decide)) (fA_call (fA_rf [] _) fa_160 (by decide)) rfl rfl) (mm_c_fr hp_106 (fM_call (fM_rf [] _) fr_159 (by decide)) (fA_call (fA_rf [] _) fa_160 (by decide)) rfl rfl) (mm_9_fr hp_107 (fM_call (fM_rf [] _) fr_159 (by decide)) (fA_call (fA_rf [] _) fa_160 (by decide)) rfl rfl) (mm_L_fr hp_108 (fM_call (fM_rf [] _) fr_159 (by decide)) (fA_call (fA_rf [] _) fa_160 (by decide)) rfl rfl rfl rfl rfl rfl rfl rfl rfl rfl) (mm_R_fr hp_109 (fM_call (fM_rf [] _) fr_159 (by decide)) (fA_call (fA_rf [] _) fa_160 (by decide)) rfl rfl rfl rfl rfl rfl rfl rfl rfl rfl rfl) (sW_fr hp_110 (fA_call (fA_rf [] _) fa_160 (by decide)) rfl rfl) (vM_fr hp_111 (fM_call (fM_rf [] _) fr_159 (by decide)) (fA_call (fA_rf [] _) fa_160 (by decide)) rfl rfl rfl rfl rfl) (by rw [show (0 : Int32).toInt.toNat = 0 from by decide]; exact mm_sp_0 rfl rfl) (by have h32 := (show (0 : Int) ≤ (fv 32).toInt ∧ (fv 32).toInt ≤ 40 from hF_fv 32); omega) hP hS (lv_sub hl [2, 1, 0] rfl)
                        · skip
                          have i_120 : 0 ≤ (fv_100 85).toInt ∧ (fv_100 85).toInt ≤ 839 := iv_le1 i_117 (⟨by decide, by decide⟩ : (839 : Int) ≤ (839 : Int32).toInt ∧ (839 : Int32).toInt ≤ 839) (Int32.not_lt.mp c_118)
                          refine lv_aload_n hx hb dX12_goThrough_152 rfl (lv_at hl 0 rfl) ?_
                          have z_121 : (fv_100 35).toInt = (fv 35).toInt := congrArg Int32.toInt ((fr_101 35 rfl).trans ((congrFun efv_99 35).trans ((fr_96 35 rfl).trans ((congrFun efv_1 35)))))
                          have z_122 : 0 ≤ (fv_100 35).toInt ∧ (fv_100 35).toInt ≤ 80 := hF_fv_100 35
                          have z_123 : (fv_100 87).toInt = (fv_93 87).toInt := congrArg Int32.toInt ((fr_101 87 rfl).trans ((congrFun efv_99 87)))
                          have z_124 : 0 ≤ (fv_100 87).toInt ∧ (fv_100 87).toInt ≤ 80 := hF_fv_100 87
                          have z_125 : (fv_100 32).toInt = (fv 32).toInt := congrArg Int32.toInt ((fr_101 32 rfl).trans ((congrFun efv_99 32).trans ((fr_96 32 rfl).trans ((congrFun efv_1 32)))))
                          have z_126 : 0 ≤ (fv_100 32).toInt ∧ (fv_100 32).toInt ≤ 40 := hF_fv_100 32
                          have z_127 : (fv_100 34).toInt = (fv 34).toInt := congrArg Int32.toInt ((fr_101 34 rfl).trans ((congrFun efv_99 34).trans ((fr_96 34 rfl).trans ((congrFun efv_1 34)))))
                          have z_128 : 0 ≤ (fv_100 34).toInt ∧ (fv_100 34).toInt ≤ 20 := hF_fv_100 34
                          have z_129 : 0 ≤ (fv_100 85).toInt ∧ (fv_100 85).toInt ≤ 840 := hF_fv_100 85
                          refine va_callv (va_runV (As := []) (rest := []) ⟨hx, hb, hml, hown, hts⟩ (m_stepE l dC dI H.size h ad cA hd fv_100 wd_104 ar_102 hF_fv_100 hA_ar_102 G9 w9 (by rw [show mm_D w9 fv_100 ar_102 = mm_D w9 fv_1 ar from (mm_D_fr (fM_call (fM_put (fM_call (fM_rf [8, 36, 66, 85, 87] _) fr_96 (by decide)) efv_99 (by decide)) fr_101 (by decide)) (fA_call (fA_call (fA_call (fA_call (fA_call (fA_rf [4, 15, 16, 18, 24, 64, 65, 68, 69, 70, 71, 72, 74, 75, 76, 77, 78, 79, 80, 82, 83] _) fa_4 (by decide)) fa_33 (by decide)) fa_66 (by decide)) fa_97 (by decide)) fa_103 (by decide)) rfl rfl), show fv_100 35 = fv 35 from ((fM_call (fM_put (fM_call (fM_put (fM_rf [8, 36, 66, 84, 85, 87] _) efv_1 (by decide)) fr_96 (by decide)) efv_99 (by decide)) fr_101 (by decide)) 35 rfl), show fv_100 87 = fv_93 87 from ((fM_call (fM_put (fM_rf [8, 36, 66, 85] _) efv_99 (by decide)) fr_101 (by decide)) 87 rfl), show ar_102 83 = ar_95 83 from ((fA_call (fA_rf [4, 15, 16, 18, 24, 64, 65, 68, 69, 70, 71, 72, 74, 75, 76, 77, 78, 79, 80, 82] _) fa_103 (by decide)) 83 rfl)]; exact or_98) (by rw [show mm_D w9 fv_100 ar_102 = mm_D w9 fv_1 ar from (mm_D_fr (fM_call (fM_put (fM_call (fM_rf [8, 36, 66, 85, 87] _) fr_96 (by decide)) efv_99 (by decide)) fr_101 (by decide)) (fA_call (fA_call (fA_call (fA_call (fA_call (fA_rf [4, 15, 16, 18, 24, 64, 65, 68, 69, 70, 71, 72, 74, 75, 76, 77, 78, 79, 80, 82, 83] _) fa_4 (by decide)) fa_33 (by decide)) fa_66 (by decide)) fa_97 (by decide)) fa_103 (by decide)) rfl rfl)]; exact mm_wh_84 efv_1 hwh) hp_110 hp_111 hp_109 hp_108 hp_107 hp_106 hp_105) (cwV 0 hts (gV kw_8_184 kw_8_186 kw_p_86 kw_1_15 kw_8_187) rfl rfl rfl (by decide +kernel) ⟨Nat.le_of_ble_eq_true rfl, Nat.le_of_ble_eq_true rfl⟩) ⟨fun a U g mk q => ⟨q.1, q.2.1, q.2.2.1, va_K.moved (u := U) (U := U.calling g mk a) (Vm.Alike.refl U.vm) q.2.2.2⟩, va_recv hK hP (ci := 12) (q0 := 0) rfl rfl, fun U hU hW => ⟨rfl, by rw [hU], by rw [hU]; exact hP, va_K.moved hW.alike hK⟩⟩ rfl rfl hl.1 rfl (lv_room (Nat.le_of_ble_eq_true rfl)) dX12_goThrough_153 ⟨Nat.le_of_ble_eq_true rfl, Nat.le_of_ble_eq_true rfl⟩) hS (fun q _ h9 => aM_up hS q h9) (aM_up hS) (fun u t H1 locs ht _ hw hB _ hk1 hS => ?_)
                          obtain ⟨fv_136, wd_137, ar_138⟩ := u
                          obtain ⟨hF_fv_136, hA_ar_138, fr_139, fa_140, p_131, p_132, p_133, p_134, p_135, -⟩ := hw
                          have hP : va_P (dC, dI) vwCl (wsM h ad cA fv_136 wd_137 ar_138) H1 := by have h9 := hB.1; rw [ht] at h9; exact h9
                          have fr_139 : fM [8, 36, 66] fv_100 fv_136 := fr_139
                          have fa_140 : fA [4, 15, 16, 18, 24, 64, 65, 68, 69, 70, 71, 72, 74, 75, 76, 77, 78, 79, 80, 82] ar_102 ar_138 := fa_140
                          have p_132 : sW ar_138 := p_132
                          have p_133 : mm_9 fv_136 ar_138 := p_133
                          have p_134 : mm_c fv_136 ar_138 := p_134
                          have p_135 : wt_fm G9 (fv_136 8) (ar_138 4) := p_135
                          have p_131 : mm_T fv_136 ar_138 = mo_mph (mm_D w9 fv_100 ar_102) G9 (mo_A (mm_D w9 fv_100 ar_102) (mm_W fv_100 ar_102)) ((fv_100 32).toInt.toNat) ((fv_100 34).toInt.toNat) (fv_100 85).toInt (mm_T fv_100 ar_102) := p_131
                          generalize H1 = H at hP hS ⊢
                          have st_141 : mm_T fv_136 ar_138 = mo_mph (mm_D w9 fv_1 ar) G9 (mo_A (mm_D w9 fv_1 ar) (mm_W fv ar)) ((fv 32).toInt.toNat) ((fv 34).toInt.toNat) (fv_100 85).toInt (mm_T fv_100 ar_102) := by have h9 := p_131; rw [show mm_D w9 fv_100 ar_102 = mm_D w9 fv_1 ar from (mm_D_fr (fM_call (fM_put (fM_call (fM_rf [8, 36, 66, 85, 87] _) fr_96 (by decide)) efv_99 (by decide)) fr_101 (by decide)) (fA_call (fA_call (fA_call (fA_call (fA_call (fA_rf [4, 15, 16, 18, 24, 64, 65, 68, 69, 70, 71, 72, 74, 75, 76, 77, 78, 79, 80, 82, 83] _) fa_4 (by decide)) fa_33 (by decide)) fa_66 (by decide)) fa_97 (by decide)) fa_103 (by decide)) rfl rfl), show mm_W fv_100 ar_102 = mm_W fv ar from mm_W_fr (fM_call (fM_put (fM_call (fM_put (fM_rf [8, 36, 66, 84, 85, 87] _) efv_1 (by decide)) fr_96 (by decide)) efv_99 (by decide)) fr_101 (by decide)) (fA_call (fA_call (fA_call (fA_call (fA_call (fA_rf [4, 15, 16, 18, 24, 64, 65, 68, 69, 70, 71, 72, 74, 75, 76, 77, 78, 79, 80, 82, 83] _) fa_4 (by decide)) fa_33 (by decide)) fa_66 (by decide)) fa_97 (by decide)) fa_103 (by decide)) rfl rfl, show fv_100 32 = fv 32 from ((fM_call (fM_put (fM_call (fM_put (fM_rf [8, 36, 66, 84, 85, 87] _) efv_1 (by decide)) fr_96 (by decide)) efv_99 (by decide)) fr_101 (by decide)) 32 rfl), show fv_100 34 = fv 34 from ((fM_call (fM_put (fM_call (fM_put (fM_rf [8, 36, 66, 84, 85, 87] _) efv_1 (by decide)) fr_96 (by decide)) efv_99 (by decide)) fr_101 (by decide)) 34 rfl)] at h9; exact h9
                          refine lv_aload_n hx hb dX12_goThrough_156 rfl (lv_at hl 0 rfl) ?_
                          refine lv_dup hx hb dX12_goThrough_157 rfl ?_
                          refine gM_85 hx hb htg hown hK hP dX12_goThrough_158 ?_
                          refine my_ti (y := fv_100 85) ((fr_139 85 rfl)) ?_
                          refine lv_iconst (v := 1) hx hb dX12_goThrough_161 (by decide) ?_
                          refine lv_iadd hx hb dX12_goThrough_162 ?_
                          refine lv_topi (fun v_142 ev_142 => ?_)
                          have t_143 : v_142.toInt = (fv_100 85).toInt + 1 ∧ 1 ≤ v_142.toInt ∧ v_142.toInt ≤ 840 := iv_addc ev_142 i_120 (by decide) (by decide) (by decide)
                          refine pM_85 hx hb htg hown hK hP hS hd dX12_goThrough_163 (fun H locs fv_145 efv_145 hP hS => ?_)
                          have hF_fv_145 : rF fv_145 := rF_put hF_fv_136 efv_145 (iv_w t_143.2 (by decide) (by decide))
                          refine lv_goto (tgt := 142) hx hb dX12_goThrough_166 (by decide) ?_
                          have z_248 : (fv_145 85).toInt = v_142.toInt := congrArg Int32.toInt ((congrFun efv_145 85))
                          have z_249 : 0 ≤ (fv_145 85).toInt ∧ (fv_145 85).toInt ≤ 840 := hF_fv_145 85
                          exact ih_114 fv_145 ar_138 wd_137 _ _ ls (by omega) hF_fv_145 (fM_put (fM_call (fM_call (fM_rf [8, 36, 66, 85] _) fr_101 (by decide)) fr_139 (by decide)) efv_145 (by decide)) hA_ar_138 (fA_call (fA_call (fA_rf [4, 15, 16, 18, 24, 64, 65, 68, 69, 70, 71, 72, 74, 75, 76, 77, 78, 79, 80, 82] _) fa_103 (by decide)) fa_140 (by decide)) (mF_fr p_135 (fM_put (fM_rf [85] _) efv_145 (by decide)) (fA_rf [] _) rfl rfl) (mm_c_fr p_134 (fM_put (fM_rf [85] _) efv_145 (by decide)) (fA_rf [] _) rfl rfl) (mm_9_fr p_133 (fM_put (fM_rf [85] _) efv_145 (by decide)) (fA_rf [] _) rfl rfl) (mm_L_fr hp_108 (fM_put (fM_call (fM_rf [8, 36, 66, 85] _) fr_139 (by decide)) efv_145 (by decide)) (fA_call (fA_rf [4, 15, 16, 18, 24, 64, 65, 68, 69, 70, 71, 72, 74, 75, 76, 77, 78, 79, 80, 82] _) fa_140 (by decide)) rfl rfl rfl rfl rfl rfl rfl rfl rfl rfl) (mm_R_fr hp_109 (fM_put (fM_call (fM_rf [8, 36, 66, 85] _) fr_139 (by decide)) efv_145 (by decide)) (fA_call (fA_rf [4, 15, 16, 18, 24, 64, 65, 68, 69, 70, 71, 72, 74, 75, 76, 77, 78, 79, 80, 82] _) fa_140 (by decide)) rfl rfl rfl rfl rfl rfl rfl rfl rfl rfl rfl) p_132 (vM_fr hp_111 (fM_put (fM_call (fM_rf [8, 36, 66, 85] _) fr_139 (by decide)) efv_145 (by decide)) (fA_call (fA_rf [4, 15, 16, 18, 24, 64, 65, 68, 69, 70, 71, 72, 74, 75, 76, 77, 78, 79, 80, 82] _) fa_140 (by decide)) rfl rfl rfl rfl rfl) (by have h85 : (fv_145 85).toInt.toNat = (fv_100 85).toInt.toNat + 1 := (by rw [show fv_145 85 = v_142 from (congrFun efv_145 85)]; omega); rw [h85, show mm_T fv_145 ar_138 = mm_T fv_136 ar_138 from (mm_T_fr (fM_put (fM_rf [85] _) efv_145 (by decide)) (fA_rf [] _) rfl rfl)]; show _ = mo_mph (mm_D w9 fv_1 ar) G9 (mo_A (mm_D w9 fv_1 ar) (mm_W fv ar)) ((fv 32).toInt.toNat) ((fv 34).toInt.toNat) (((fv_100 85).toInt.toNat : Nat) : Int) (mo_md (mm_D w9 fv_1 ar) G9 (mo_A (mm_D w9 fv_1 ar) (mm_W fv ar)) ((fv 32).toInt.toNat) ((fv 34).toInt.toNat) (mm_T fv_99 ar_95) ((fv_100 85).toInt.toNat)); rw [← q_112, show (((fv_100 85).toInt.toNat : Nat) : Int) = (fv_100 85).toInt from by omega]; exact st_141) (by rw [show fv_145 85 = v_142 from (congrFun efv_145 85)]; omega) hP hS (lv_sub hl [0] rfl)
                    · skip
                      have z_250 : (fv_99 85).toInt = (0 : Int32).toInt := congrArg Int32.toInt ((congrFun efv_99 85))
                      have z_251 : (0 : Int32).toInt = 0 := by decide
                      have z_252 : 0 ≤ (fv_99 85).toInt ∧ (fv_99 85).toInt ≤ 840 := hF_fv_99 85
                      exact hj_116 841 fv_99 ar_95 wd_94 _ _ ls (by omega) hF_fv_99 (fM_rf [8, 36, 66, 85] _) hA_ar_95 (fA_rf [4, 15, 16, 18, 24, 64, 65, 68, 69, 70, 71, 72, 74, 75, 76, 77, 78, 79, 80, 82] _) (mF_fr hp_67 (fM_put (fM_call (fM_rf [85, 87] _) fr_96 (by decide)) efv_99 (by decide)) (fA_call (fA_rf [83] _) fa_97 (by decide)) rfl rfl) (mm_c_fr hp_68 (fM_put (fM_call (fM_rf [85, 87] _) fr_96 (by decide)) efv_99 (by decide)) (fA_call (fA_rf [83] _) fa_97 (by decide)) rfl rfl) (mm_9_fr hp_69 (fM_put (fM_call (fM_rf [85, 87] _) fr_96 (by decide)) efv_99 (by decide)) (fA_call (fA_rf [83] _) fa_97 (by decide)) rfl rfl) (mm_L_fr hp_70 (fM_put (fM_call (fM_rf [85, 87] _) fr_96 (by decide)) efv_99 (by decide)) (fA_call (fA_rf [83] _) fa_97 (by decide)) rfl rfl rfl rfl rfl rfl rfl rfl rfl rfl) (mm_R_fr hp_71 (fM_put (fM_call (fM_rf [85, 87] _) fr_96 (by decide)) efv_99 (by decide)) (fA_call (fA_rf [83] _) fa_97 (by decide)) rfl rfl rfl rfl rfl rfl rfl rfl rfl rfl rfl) (sW_fr hp_72 (fA_call (fA_rf [83] _) fa_97 (by decide)) rfl rfl) (vM_fr hp_73 (fM_put (fM_call (fM_rf [85, 87] _) fr_96 (by decide)) efv_99 (by decide)) (fA_call (fA_rf [83] _) fa_97 (by decide)) rfl rfl rfl rfl rfl) (by rw [show fv_99 85 = (0 : Int32) from (congrFun efv_99 85), show (0 : Int32).toInt.toNat = 0 from by decide]; rfl) (by rw [show fv_99 85 = (0 : Int32) from (congrFun efv_99 85)]; decide) hP hS (lv_sub hl [0] rfl)
                  · skip
                    have i_82 : 0 ≤ x_64.toInt ∧ x_64.toInt ≤ 79 := iv_lt1 i_x_64 i_79 (Int32.not_le.mp c_80)
                    have i_83 : 1 ≤ (fv 35).toInt ∧ (fv 35).toInt ≤ 80 := iv_lt2 i_x_64 i_79 (Int32.not_le.mp c_80)
                    have k_84 := Int32.lt_iff_toInt_lt.mp (Int32.not_le.mp c_80)
                    refine lv_aload_n hx hb dX12_goThrough_120 rfl (lv_at hl 0 rfl) ?_
                    refine gM_80 hx hb htg hown hK hP dX12_goThrough_121 ?_
                    refine lv_iload_n hx hb dX12_goThrough_124 rfl (lv_at hl 1 rfl) ?_
                    refine lv_iconst (v := (-1)) hx hb dX12_goThrough_125 (by decide) ?_
                    refine sM_80 hx hb hK hP hS hd (iv_in i_82 (by decide) (by decide)) dX12_goThrough_126 (fun H locs ar_85 ear_85 hP hS => ?_)
                    have hA_ar_85 : rA ar_85 := rA_put hA_ar_65 ear_85 (iv_any _)
                    obtain ⟨v_86, ev_86⟩ : ∃ z : Int32, z = x_64 + 1 := ⟨_, rfl⟩
                    refine lv_iinc (v := v_86) (lv' := [(2, .int v_86), (0, .ref h)]) hx hb dX12_goThrough_127 hl (k := 1) rfl (by rw [ev_86]; rfl) (by decide) rfl (fun ls hl => ?_)
                    have t_87 : v_86.toInt = x_64.toInt + 1 ∧ 1 ≤ v_86.toInt ∧ v_86.toInt ≤ 80 := iv_addc ev_86 i_82 (by decide) (by decide) (by decide)
                    refine lv_goto (tgt := 112) hx hb dX12_goThrough_130 (by decide) ?_
                    have z_253 : (fv_1 35).toInt = (fv 35).toInt := congrArg Int32.toInt ((congrFun efv_1 35))
                    have z_254 : 0 ≤ (fv_1 35).toInt ∧ (fv_1 35).toInt ≤ 80 := hF_fv_1 35
                    exact ih_76 v_86 ar_85 _ _ ls (by omega) (iv_w t_87.2 (by decide) (by decide)) hA_ar_85 (fA_put (fA_call (fA_rf [80] _) fa_66 (by decide)) ear_85 (by decide)) (mF_fr hp_67 (fM_rf [] _) (fA_put (fA_rf [80] _) ear_85 (by decide)) rfl rfl) (mm_c_fr hp_68 (fM_rf [] _) (fA_put (fA_rf [80] _) ear_85 (by decide)) rfl rfl) (mm_9_fr hp_69 (fM_rf [] _) (fA_put (fA_rf [80] _) ear_85 (by decide)) rfl rfl) (mm_L_fr hp_70 (fM_rf [] _) (fA_put (fA_rf [80] _) ear_85 (by decide)) rfl rfl rfl rfl rfl rfl rfl rfl rfl rfl) (mm_R_fr hp_71 (fM_rf [] _) (fA_put (fA_rf [80] _) ear_85 (by decide)) rfl rfl rfl rfl rfl rfl rfl rfl rfl rfl rfl) (sW_fr hp_72 (fA_put (fA_rf [80] _) ear_85 (by decide)) rfl rfl) (vM_fr hp_73 (fM_rf [] _) (fA_put (fA_rf [80] _) ear_85 (by decide)) rfl rfl rfl rfl rfl) (by rw [show v_86.toInt.toNat = (x_64.toInt.toNat) + 1 from by omega]; show _ = mm_k0 (mo_fo (mm_k0) (mm_T fv_1 ar_32) (x_64.toInt.toNat)) (x_64.toInt.toNat); rw [← q_74]; unfold mm_k0; exact (mm_T_put (f := fv_1) (r := 12) (n := (x_64.toInt.toNat)) (by decide) (by decide) ear_85)) (by have h32 := (show (0 : Int) ≤ (fv 35).toInt ∧ (fv 35).toInt ≤ 80 from hF_fv 35); omega) hP hS (lv_sub hl [1, 0] rfl)
              · skip
                have z_255 : (0 : Int32).toInt = 0 := by decide
                have z_256 : (fv_1 35).toInt = (fv 35).toInt := congrArg Int32.toInt ((congrFun efv_1 35))
                have z_257 : 0 ≤ (fv_1 35).toInt ∧ (fv_1 35).toInt ≤ 80 := hF_fv_1 35
                exact hj_78 81 0 ar_32 _ _ ls (by first | decide | omega) (iv_w (⟨by decide, by decide⟩ : (0 : Int) ≤ (0 : Int32).toInt ∧ (0 : Int32).toInt ≤ 0) (by decide) (by decide)) hA_ar_32 (fA_rf [80] _) hp_34 hp_63 hp_35 hp_36 hp_37 hp_38 hp_39 (by rw [show (0 : Int32).toInt.toNat = 0 from by decide]; rfl) (by have h32 := (show (0 : Int) ≤ (fv 35).toInt ∧ (fv 35).toInt ≤ 80 from hF_fv 35); omega) hP hS (lv_sub hl [1, 0] rfl)
            · skip
              have i_49 : 0 ≤ x_31.toInt ∧ x_31.toInt ≤ 39 := iv_lt1 i_x_31 i_46 (Int32.not_le.mp c_47)
              have i_50 : 1 ≤ (fv 32).toInt ∧ (fv 32).toInt ≤ 40 := iv_lt2 i_x_31 i_46 (Int32.not_le.mp c_47)
              have k_51 := Int32.lt_iff_toInt_lt.mp (Int32.not_le.mp c_47)
              refine lv_aload_n hx hb dX12_goThrough_64 rfl (lv_at hl 0 rfl) ?_
              refine gM_68 hx hb htg hown hK hP dX12_goThrough_65 ?_
              refine lv_iload_n hx hb dX12_goThrough_68 rfl (lv_at hl 1 rfl) ?_
              refine lv_iconst (v := 0) hx hb dX12_goThrough_69 (by decide) ?_
              refine sM_68 hx hb hK hP hS hd (iv_in i_49 (by decide) (by decide)) dX12_goThrough_70 (fun H locs ar_52 ear_52 hP hS => ?_)
              have hA_ar_52 : rA ar_52 := rA_put hA_ar_32 ear_52 (iv_any _)
              have hp_53 : sW ar_52 := sW_68 hp_38 ear_52 (Or.inl (Int.lt_of_le_of_lt ((⟨by decide, by decide⟩ : (0 : Int) ≤ (0 : Int32).toInt ∧ (0 : Int32).toInt ≤ 0)).2 (by decide)))
              refine lv_aload_n hx hb dX12_goThrough_71 rfl (lv_at hl 0 rfl) ?_
              refine gM_69 hx hb htg hown hK hP dX12_goThrough_72 ?_
              refine lv_iload_n hx hb dX12_goThrough_75 rfl (lv_at hl 1 rfl) ?_
              refine lv_aload_n hx hb dX12_goThrough_76 rfl (lv_at hl 0 rfl) ?_
              refine gM_9 hx hb htg hown hK hP dX12_goThrough_77 ?_
              refine lv_iload_n hx hb dX12_goThrough_80 rfl (lv_at hl 1 rfl) ?_
              refine lM_9 hx hb hK hP (iv_in i_49 (by decide) (by decide)) dX12_goThrough_81 (fun v_54 ev_54 => ?_)
              have i_55 : 0 ≤ v_54.toInt ∧ v_54.toInt ≤ 11 := ev_54 ▸ hA_ar_52 9 _
              refine sM_69 hx hb hK hP hS hd (iv_in i_49 (by decide) (by decide)) dX12_goThrough_82 (fun H locs ar_56 ear_56 hP hS => ?_)
              have hA_ar_56 : rA ar_56 := rA_put hA_ar_52 ear_56 i_55
              refine lv_aload_n hx hb dX12_goThrough_83 rfl (lv_at hl 0 rfl) ?_
              refine gM_72 hx hb htg hown hK hP dX12_goThrough_84 ?_
              refine lv_iload_n hx hb dX12_goThrough_87 rfl (lv_at hl 1 rfl) ?_
              refine lv_iconst (v := (-1)) hx hb dX12_goThrough_88 (by decide) ?_
              refine sM_72 hx hb hK hP hS hd (iv_in i_49 (by decide) (by decide)) dX12_goThrough_89 (fun H locs ar_57 ear_57 hP hS => ?_)
              have hA_ar_57 : rA ar_57 := rA_put hA_ar_56 ear_57 (iv_any _)
              refine lv_aload_n hx hb dX12_goThrough_90 rfl (lv_at hl 0 rfl) ?_
              refine gM_74 hx hb htg hown hK hP dX12_goThrough_91 ?_
              refine lv_iload_n hx hb dX12_goThrough_94 rfl (lv_at hl 1 rfl) ?_
              refine lv_iconst (v := 0) hx hb dX12_goThrough_95 (by decide) ?_
              refine sM_74 hx hb hK hP hS hd (iv_in i_49 (by decide) (by decide)) dX12_goThrough_96 (fun H locs ar_58 ear_58 hP hS => ?_)
              have hA_ar_58 : rA ar_58 := rA_put hA_ar_57 ear_58 (iv_any _)
              refine lv_aload_n hx hb dX12_goThrough_97 rfl (lv_at hl 0 rfl) ?_
              refine gM_75 hx hb htg hown hK hP dX12_goThrough_98 ?_
              refine lv_iload_n hx hb dX12_goThrough_101 rfl (lv_at hl 1 rfl) ?_
              refine lv_iconst (v := 0) hx hb dX12_goThrough_102 (by decide) ?_
              refine sM_75 hx hb hK hP hS hd (iv_in i_49 (by decide) (by decide)) dX12_goThrough_103 (fun H locs ar_59 ear_59 hP hS => ?_)
              have hA_ar_59 : rA ar_59 := rA_put hA_ar_58 ear_59 (iv_any _)
              obtain ⟨v_60, ev_60⟩ : ∃ z : Int32, z = x_31 + 1 := ⟨_, rfl⟩
              refine lv_iinc (v := v_60) (lv' := [(2, .int v_60), (0, .ref h)]) hx hb dX12_goThrough_104 hl (k := 1) rfl (by rw [ev_60]; rfl) (by decide) rfl (fun ls hl => ?_)
              have t_61 : v_60.toInt = x_31.toInt + 1 ∧ 1 ≤ v_60.toInt ∧ v_60.toInt ≤ 40 := iv_addc ev_60 i_49 (by decide) (by decide) (by decide)
              refine lv_goto (tgt := 56) hx hb dX12_goThrough_107 (by decide) ?_
              have z_258 : (fv_1 32).toInt = (fv 32).toInt := congrArg Int32.toInt ((congrFun efv_1 32))
              have z_259 : 0 ≤ (fv_1 32).toInt ∧ (fv_1 32).toInt ≤ 40 := hF_fv_1 32
              exact ih_43 v_60 ar_59 _ _ ls (by omega) (iv_w t_61.2 (by decide) (by decide)) hA_ar_59 (fA_put (fA_put (fA_put (fA_put (fA_put (fA_call (fA_rf [68, 69, 72, 74, 75] _) fa_33 (by decide)) ear_52 (by decide)) ear_56 (by decide)) ear_57 (by decide)) ear_58 (by decide)) ear_59 (by decide)) (mF_fr hp_34 (fM_rf [] _) (fA_put (fA_put (fA_put (fA_put (fA_put (fA_rf [68, 69, 72, 74, 75] _) ear_52 (by decide)) ear_56 (by decide)) ear_57 (by decide)) ear_58 (by decide)) ear_59 (by decide)) rfl rfl) (mm_9_fr hp_35 (fM_rf [] _) (fA_put (fA_put (fA_put (fA_put (fA_put (fA_rf [68, 69, 72, 74, 75] _) ear_52 (by decide)) ear_56 (by decide)) ear_57 (by decide)) ear_58 (by decide)) ear_59 (by decide)) rfl rfl) (mm_L_fr hp_36 (fM_rf [] _) (fA_put (fA_put (fA_put (fA_put (fA_put (fA_rf [68, 69, 72, 74, 75] _) ear_52 (by decide)) ear_56 (by decide)) ear_57 (by decide)) ear_58 (by decide)) ear_59 (by decide)) rfl rfl rfl rfl rfl rfl rfl rfl rfl rfl) (mm_R_fr hp_37 (fM_rf [] _) (fA_put (fA_put (fA_put (fA_put (fA_put (fA_rf [68, 69, 72, 74, 75] _) ear_52 (by decide)) ear_56 (by decide)) ear_57 (by decide)) ear_58 (by decide)) ear_59 (by decide)) rfl rfl rfl rfl rfl rfl rfl rfl rfl rfl rfl) (sW_fr hp_53 (fA_put (fA_put (fA_put (fA_put (fA_rf [69, 72, 74, 75] _) ear_56 (by decide)) ear_57 (by decide)) ear_58 (by decide)) ear_59 (by decide)) rfl rfl) (vM_fr hp_39 (fM_rf [] _) (fA_put (fA_put (fA_put (fA_put (fA_put (fA_rf [68, 69, 72, 74, 75] _) ear_52 (by decide)) ear_56 (by decide)) ear_57 (by decide)) ear_58 (by decide)) ear_59 (by decide)) rfl rfl rfl rfl rfl) (by rw [show v_60.toInt.toNat = (x_31.toInt.toNat) + 1 from by omega]; show _ = mm_p0 (mm_D w9 fv_1 ar) (mo_fo (mm_p0 (mm_D w9 fv_1 ar)) (mm_T fv_1 ar_3) (x_31.toInt.toNat)) (x_31.toInt.toNat); rw [← q_40]; unfold mm_p0; rw [show (mm_D w9 fv_1 ar) 0 (x_31.toInt.toNat) = v_54 from by show ar 9 (x_31.toInt.toNat) = _; exact ((show v_54 = ar 9 (x_31.toInt.toNat) from by rw [ev_54, show ar_52 9 = ar 9 from ((fA_put (fA_call (fA_call (fA_rf [68, 69, 72, 74, 75, 76, 77, 78, 79] _) fa_4 (by decide)) fa_33 (by decide)) ear_52 (by decide)) 9 rfl)]; exact congrArg (ar 9) (show x_31.toInt.toNat = (x_31.toInt.toNat) from by omega))).symm]; exact ((mm_T_put (f := fv_1) (r := 4) (n := (x_31.toInt.toNat)) (by decide) (by decide) ear_59).trans (congrArg (fun z9 => mo_se z9 4 (x_31.toInt.toNat) (0 : Int32)) ((mm_T_put (f := fv_1) (r := 3) (n := (x_31.toInt.toNat)) (by decide) (by decide) ear_58).trans (congrArg (fun z9 => mo_se z9 3 (x_31.toInt.toNat) (0 : Int32)) ((mm_T_put (f := fv_1) (r := 2) (n := (x_31.toInt.toNat)) (by decide) (by decide) ear_57).trans (congrArg (fun z9 => mo_se z9 2 (x_31.toInt.toNat) ((-1) : Int32)) ((mm_T_put (f := fv_1) (r := 14) (n := (x_31.toInt.toNat)) (by decide) (by decide) ear_56).trans (congrArg (fun z9 => mo_se z9 14 (x_31.toInt.toNat) v_54) (mm_T_put (f := fv_1) (r := 6) (n := (x_31.toInt.toNat)) (by decide) (by decide) ear_52)))))))))) (by have h32 := (show (0 : Int) ≤ (fv 32).toInt ∧ (fv 32).toInt ≤ 40 from hF_fv 32); omega) (fun i9 h9 => by rw [(show ∀ i9, ar_59 72 i9 = if i9 = (x_31.toInt.toNat) then ((-1) : Int32) else ar_32 72 i9 from (fun i9 => by rw [show ar_59 72 = ar_57 72 from ((fA_put (fA_put (fA_rf [74, 75] _) ear_58 (by decide)) ear_59 (by decide)) 72 rfl), ear_57]; show (if i9 = Int32.toNatClampNeg x_31 then ((-1) : Int32) else ar_56 72 i9) = _; rw [show ar_56 72 = ar_32 72 from ((fA_put (fA_put (fA_rf [68, 69] _) ear_52 (by decide)) ear_56 (by decide)) 72 rfl)]; rfl)) i9]; by_cases c9 : i9 = (x_31.toInt.toNat); (rw [if_pos c9]; decide); (rw [if_neg c9]; exact q_42 i9 (by omega))) hP hS (lv_sub hl [1, 0] rfl)
        · skip
          have z_260 : (0 : Int32).toInt = 0 := by decide
          have z_261 : (fv_1 32).toInt = (fv 32).toInt := congrArg Int32.toInt ((congrFun efv_1 32))
          have z_262 : 0 ≤ (fv_1 32).toInt ∧ (fv_1 32).toInt ≤ 40 := hF_fv_1 32
          exact hj_45 41 0 ar_3 _ _ ls (by first | decide | omega) (iv_w (⟨by decide, by decide⟩ : (0 : Int) ≤ (0 : Int32).toInt ∧ (0 : Int32).toInt ≤ 0) (by decide) (by decide)) hA_ar_3 (fA_rf [68, 69, 72, 74, 75] _) hp_5 hp_30 hp_6 hp_7 hp_8 hp_9 (by rw [show (0 : Int32).toInt.toNat = 0 from by decide]; rfl) (by have h32 := (show (0 : Int) ≤ (fv 32).toInt ∧ (fv 32).toInt ≤ 40 from hF_fv 32); omega) (fun i9 h9 => by rw [show (0 : Int32).toInt = 0 from by decide] at h9; omega) hP hS (lv_sub hl [1, 0] rfl)
      · skip
        have i_19 : 0 ≤ x_2.toInt ∧ x_2.toInt ≤ 19 := iv_lt1 i_x_2 i_16 (Int32.not_le.mp c_17)
        have i_20 : 1 ≤ (fv 34).toInt ∧ (fv 34).toInt ≤ 20 := iv_lt2 i_x_2 i_16 (Int32.not_le.mp c_17)
        have k_21 := Int32.lt_iff_toInt_lt.mp (Int32.not_le.mp c_17)
        refine lv_aload_n hx hb dX12_goThrough_15 rfl (lv_at hl 0 rfl) ?_
        refine gM_76 hx hb htg hown hK hP dX12_goThrough_16 ?_
        refine lv_iload_n hx hb dX12_goThrough_19 rfl (lv_at hl 1 rfl) ?_
        refine lv_aload_n hx hb dX12_goThrough_20 rfl (lv_at hl 0 rfl) ?_
        refine gM_21 hx hb htg hown hK hP dX12_goThrough_21 ?_
        refine lv_iload_n hx hb dX12_goThrough_24 rfl (lv_at hl 1 rfl) ?_
        refine lM_21 hx hb hK hP (iv_in i_19 (by decide) (by decide)) dX12_goThrough_25 (fun v_22 ev_22 => ?_)
        refine sM_76 hx hb hK hP hS hd (iv_in i_19 (by decide) (by decide)) dX12_goThrough_26 (fun H locs ar_23 ear_23 hP hS => ?_)
        have hA_ar_23 : rA ar_23 := rA_put hA_ar_3 ear_23 (iv_any _)
        refine lv_aload_n hx hb dX12_goThrough_27 rfl (lv_at hl 0 rfl) ?_
        refine gM_77 hx hb htg hown hK hP dX12_goThrough_28 ?_
        refine lv_iload_n hx hb dX12_goThrough_31 rfl (lv_at hl 1 rfl) ?_
        refine lv_iconst (v := (-1)) hx hb dX12_goThrough_32 (by decide) ?_
        refine sM_77 hx hb hK hP hS hd (iv_in i_19 (by decide) (by decide)) dX12_goThrough_33 (fun H locs ar_24 ear_24 hP hS => ?_)
        have hA_ar_24 : rA ar_24 := rA_put hA_ar_23 ear_24 (iv_any _)
        refine lv_aload_n hx hb dX12_goThrough_34 rfl (lv_at hl 0 rfl) ?_
        refine gM_78 hx hb htg hown hK hP dX12_goThrough_35 ?_
        refine lv_iload_n hx hb dX12_goThrough_38 rfl (lv_at hl 1 rfl) ?_
        refine lv_iconst (v := 0) hx hb dX12_goThrough_39 (by decide) ?_
        refine sM_78 hx hb hK hP hS hd (iv_in i_19 (by decide) (by decide)) dX12_goThrough_40 (fun H locs ar_25 ear_25 hP hS => ?_)
        have hA_ar_25 : rA ar_25 := rA_put hA_ar_24 ear_25 (iv_any _)
        refine lv_aload_n hx hb dX12_goThrough_41 rfl (lv_at hl 0 rfl) ?_
        refine gM_79 hx hb htg hown hK hP dX12_goThrough_42 ?_
        refine lv_iload_n hx hb dX12_goThrough_45 rfl (lv_at hl 1 rfl) ?_
        refine lv_iconst (v := 0) hx hb dX12_goThrough_46 (by decide) ?_
        refine sM_79 hx hb hK hP hS hd (iv_in i_19 (by decide) (by decide)) dX12_goThrough_47 (fun H locs ar_26 ear_26 hP hS => ?_)
        have hA_ar_26 : rA ar_26 := rA_put hA_ar_25 ear_26 (iv_any _)
        obtain ⟨v_27, ev_27⟩ : ∃ z : Int32, z = x_2 + 1 := ⟨_, rfl⟩
        refine lv_iinc (v := v_27) (lv' := [(2, .int v_27), (0, .ref h)]) hx hb dX12_goThrough_48 hl (k := 1) rfl (by rw [ev_27]; rfl) (by decide) rfl (fun ls hl => ?_)
        have t_28 : v_27.toInt = x_2.toInt + 1 ∧ 1 ≤ v_27.toInt ∧ v_27.toInt ≤ 20 := iv_addc ev_27 i_19 (by decide) (by decide) (by decide)
        refine lv_goto (tgt := 7) hx hb dX12_goThrough_51 (by decide) ?_
        have z_263 : (fv_1 34).toInt = (fv 34).toInt := congrArg Int32.toInt ((congrFun efv_1 34))
        have z_264 : 0 ≤ (fv_1 34).toInt ∧ (fv_1 34).toInt ≤ 20 := hF_fv_1 34
        exact ih_13 v_27 ar_26 _ _ ls (by omega) (iv_w t_28.2 (by decide) (by decide)) hA_ar_26 (fA_put (fA_put (fA_put (fA_put (fA_call (fA_rf [76, 77, 78, 79] _) fa_4 (by decide)) ear_23 (by decide)) ear_24 (by decide)) ear_25 (by decide)) ear_26 (by decide)) (mF_fr hp_5 (fM_rf [] _) (fA_put (fA_put (fA_put (fA_put (fA_rf [76, 77, 78, 79] _) ear_23 (by decide)) ear_24 (by decide)) ear_25 (by decide)) ear_26 (by decide)) rfl rfl) (mm_L_fr hp_6 (fM_rf [] _) (fA_put (fA_put (fA_put (fA_put (fA_rf [76, 77, 78, 79] _) ear_23 (by decide)) ear_24 (by decide)) ear_25 (by decide)) ear_26 (by decide)) rfl rfl rfl rfl rfl rfl rfl rfl rfl rfl) (mm_R_fr hp_7 (fM_rf [] _) (fA_put (fA_put (fA_put (fA_put (fA_rf [76, 77, 78, 79] _) ear_23 (by decide)) ear_24 (by decide)) ear_25 (by decide)) ear_26 (by decide)) rfl rfl rfl rfl rfl rfl rfl rfl rfl rfl rfl) (sW_fr hp_8 (fA_put (fA_put (fA_put (fA_put (fA_rf [76, 77, 78, 79] _) ear_23 (by decide)) ear_24 (by decide)) ear_25 (by decide)) ear_26 (by decide)) rfl rfl) (vM_fr hp_9 (fM_rf [] _) (fA_put (fA_put (fA_put (fA_put (fA_rf [76, 77, 78, 79] _) ear_23 (by decide)) ear_24 (by decide)) ear_25 (by decide)) ear_26 (by decide)) rfl rfl rfl rfl rfl) (by rw [show v_27.toInt.toNat = (x_2.toInt.toNat) + 1 from by omega]; show _ = mm_w0 (mm_D w9 fv_1 ar) (mo_fo (mm_w0 (mm_D w9 fv_1 ar)) (mm_T fv_1 ar) (x_2.toInt.toNat)) (x_2.toInt.toNat); rw [← q_10]; unfold mm_w0; rw [show (mm_D w9 fv_1 ar) 8 (x_2.toInt.toNat) = v_22 from by show ar 21 (x_2.toInt.toNat) = _; exact ((show v_22 = ar 21 (x_2.toInt.toNat) from by rw [ev_22, show ar_3 21 = ar 21 from ((fA_call (fA_rf [76, 77, 78, 79] _) fa_4 (by decide)) 21 rfl)]; exact congrArg (ar 21) (show x_2.toInt.toNat = (x_2.toInt.toNat) from by omega))).symm]; exact ((mm_T_put (f := fv_1) (r := 9) (n := (x_2.toInt.toNat)) (by decide) (by decide) ear_26).trans (congrArg (fun z9 => mo_se z9 9 (x_2.toInt.toNat) (0 : Int32)) ((mm_T_put (f := fv_1) (r := 8) (n := (x_2.toInt.toNat)) (by decide) (by decide) ear_25).trans (congrArg (fun z9 => mo_se z9 8 (x_2.toInt.toNat) (0 : Int32)) ((mm_T_put (f := fv_1) (r := 11) (n := (x_2.toInt.toNat)) (by decide) (by decide) ear_24).trans (congrArg (fun z9 => mo_se z9 11 (x_2.toInt.toNat) ((-1) : Int32)) (mm_T_put (f := fv_1) (r := 10) (n := (x_2.toInt.toNat)) (by decide) (by decide) ear_23)))))))) (by have h32 := (show (0 : Int) ≤ (fv 34).toInt ∧ (fv 34).toInt ≤ 20 from hF_fv 34); omega) (fun i9 h9 => by rw [(show ∀ i9, ar_26 79 i9 = if i9 = (x_2.toInt.toNat) then (0 : Int32) else ar_3 79 i9 from (fun i9 => by rw [ear_26]; show (if i9 = Int32.toNatClampNeg x_2 then (0 : Int32) else ar_25 79 i9) = _; rw [show ar_25 79 = ar_3 79 from ((fA_put (fA_put (fA_put (fA_rf [76, 77, 78] _) ear_23 (by decide)) ear_24 (by decide)) ear_25 (by decide)) 79 rfl)]; rfl)) i9]; by_cases c9 : i9 = (x_2.toInt.toNat); (rw [if_pos c9]; decide); (rw [if_neg c9]; exact q_12 i9 (by omega))) hP hS (lv_sub hl [1, 0] rfl)
  · skip
    have z_265 : (0 : Int32).toInt = 0 := by decide
    have z_266 : (fv_1 34).toInt = (fv 34).toInt := congrArg Int32.toInt ((congrFun efv_1 34))
    have z_267 : 0 ≤ (fv_1 34).toInt ∧ (fv_1 34).toInt ≤ 20 := hF_fv_1 34
    exact hj_15 21 0 ar _ _ ls (by first | decide | omega) (iv_w (⟨by decide, by decide⟩ : (0 : Int) ≤ (0 : Int32).toInt ∧ (0 : Int32).toInt ≤ 0) (by decide) (by decide)) hA_ar (fA_rf [76, 77, 78, 79] _) (mF_fr hp_mF (fM_put (fM_rf [84] _) efv_1 (by decide)) (fA_rf [] _) rfl rfl) (mm_L_fr hp_nL (fM_put (fM_rf [84] _) efv_1 (by decide)) (fA_rf [] _) rfl rfl rfl rfl rfl rfl rfl rfl rfl rfl) (mm_R_fr hp_nR (fM_put (fM_rf [84] _) efv_1 (by decide)) (fA_rf [] _) rfl rfl rfl rfl rfl rfl rfl rfl rfl rfl rfl) hp_sW (vM_fr hp_vM (fM_put (fM_rf [84] _) efv_1 (by decide)) (fA_rf [] _) rfl rfl rfl rfl rfl) (by rw [show (0 : Int32).toInt.toNat = 0 from by decide]; rfl) (by have h32 := (show (0 : Int) ≤ (fv 34).toInt ∧ (fv 34).toInt ≤ 20 from hF_fv 34); omega) (fun i9 h9 => by rw [show (0 : Int32).toInt = 0 from by decide] at h9; omega) hP hS (lv_sub hl [1, 0] rfl)

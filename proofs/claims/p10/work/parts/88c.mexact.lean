set_option maxHeartbeats 4000000 in
set_option maxRecDepth 100000 in
theorem m_stopE (l : Launch) (dC : Nat → ClassId) (dI : Nat → Nat → Nat) (sz h : Nat) (ad : Nat → Nat) (cA : Nat → ClassId) (hd : dM h ad) (fv : Nat → Int32) (wd : Int64) (ar : Nat → Nat → Int32) (hF_fv : rF fv) (hA_ar : rA ar) (v : Int32) : Met l yX12_stop (.code yX12_stop cX12_stop 2 (some .int) :: lw_good) ({ frames := 3, cells := 0, slots := 0, locals := 60 }) (va_Pc [.ref h, .int v] (prM dC dI h ad cA fv wd ar sz)) (va_Qi (fun (r : Int32) (u : mS) => rF u.1 ∧ rA u.2.2 ∧ fM [0, 33] fv u.1 ∧ fA [19] ar u.2.2 ∧ ((r = -1 ∧ u.1 33 = fv 33 ∧ (v.toInt < 0 ∨ 11 < v.toInt ∨ 8 ≤ (fv 33).toInt)) ∨ (r.toInt = (fv 33).toInt ∧ (u.1 33).toInt = (fv 33).toInt + 1 ∧ ¬ (v.toInt < 0 ∨ 11 < v.toInt ∨ 8 ≤ (fv 33).toInt))) ∧ True) (enM dC dI h ad cA) (aM h ad sz)) 0 0 (aM h ad sz) := by
  refine Met.ofW (cc := cX12_stop) (maxL := 2) (ret := (some .int)) (by decide) rfl ?_
  intro p e s m args below meth c s₁ B hml hv
  obtain ⟨rfl, hsz, hP, hK⟩ := hv
  have hx := B.exec
  have hb := B.bytes
  have hr := B.returns
  have hts := atoms_spec (ws := (.code yX12_stop cX12_stop 2 (some .int) :: lw_good)) B.pre
  have htg : ∀ w ∈ lw_good, w.before _ s = true := fun w hw => hts w (List.mem_cons_of_mem _ hw)
  have hown : s.vm.findClass RX12 = some m.cls := findClass_of_methodNamed B.named
  have hlocks := B.notSynchronized
  subst hsz
  have hS : va_S (aM h ad s.heap.size) s.heap s.heap [] := va_S.rf
  have hl := lv_entry ([.ref h, .int v]) (n := 2) (Nat.le_of_ble_eq_true rfl)
  rw [lg_entry_eq]
  generalize (lg_sl ([.ref h, .int v]) ++ List.replicate (2 - (lg_sl ([.ref h, .int v])).length) Slot.unset).toArray = ls at hl ⊢
  have hl : lv_has ls 2 [(0, .ref h), (1, .int v)] := hl
  refine lv_aload_n hx hb dX12_stop_0 rfl (lv_at hl 0 rfl) ?_
  refine lv_iconst (v := 0) hx hb dX12_stop_1 (by decide) ?_
  refine pM_0 hx hb htg hown hK hP hS hd dX12_stop_2 (fun H locs fv_1 efv_1 hP hS => ?_)
  have hF_fv_1 : rF fv_1 := rF_put hF_fv efv_1 (iv_any _)
  refine lv_aload_n hx hb dX12_stop_5 rfl (lv_at hl 0 rfl) ?_
  refine gM_33 hx hb htg hown hK hP dX12_stop_6 ?_
  refine my_ti (y := fv 33) ((congrFun efv_1 33)) ?_
  have i_2 : 0 ≤ (fv 33).toInt ∧ (fv 33).toInt ≤ 8 := hF_fv 33
  refine lv_bipush (v := 8) hx hb dX12_stop_9 (by decide) ?_
  refine lv_icmp_eq (tgt := 21) hx hb dX12_stop_11 (by decide) (fun c_3 => ?_) (fun c_3 => ?_)
  · skip
    have i_4 : 8 ≤ (fv 33).toInt ∧ (fv 33).toInt ≤ 8 := iv_eq1 (⟨by decide, by decide⟩ : (8 : Int) ≤ (8 : Int32).toInt ∧ (8 : Int32).toInt ≤ 8) c_3
    refine lv_iconst (v := (-1)) hx hb dX12_stop_21 (by decide) ?_
    have z_6 : ((-1) : Int32).toInt = (-1) := by decide
    exact W.iret (v := (-1)) hx hb hr (fun t ht hW => ⟨⟨(-1), (fv_1, wd, ar), rfl, ⟨hF_fv_1, hA_ar, (fM_put (fM_rf [0, 33] _) efv_1 (by decide)), (fA_rf [19] _), (show (((-1) : Int32) = -1 ∧ fv_1 33 = fv 33 ∧ (v.toInt < 0 ∨ 11 < v.toInt ∨ 8 ≤ (fv 33).toInt)) ∨ (((-1) : Int32).toInt = (fv 33).toInt ∧ (fv_1 33).toInt = (fv 33).toInt + 1 ∧ ¬ (v.toInt < 0 ∨ 11 < v.toInt ∨ 8 ≤ (fv 33).toInt)) from Or.inl ⟨rfl, (congrFun efv_1 33), by omega⟩), trivial⟩, ⟨by rw [ht]; exact hP, va_K.moved hW.alike hK⟩⟩, hS.F ht⟩) hS.2.2 dX12_stop_22
  · skip
    have i_7 : 0 ≤ (fv 33).toInt ∧ (fv 33).toInt ≤ 7 := iv_neh i_2 (by decide) c_3
    have k_8 : ¬ (fv 33).toInt = 8 := fun q => c_3 (Int32.toInt_inj.mp q)
    refine lv_iload_n hx hb dX12_stop_14 rfl (lv_at hl 1 rfl) ?_
    refine va_calli (va_runS (As := [.int v]) (rest := []) ⟨hx, hb, hml, hown, hts⟩ (m_isCorner l H.size v) (va_cwS 1 hts (gS kw_7_225 kw_7_226 kw_1_15 kw_7_227) rfl rfl rfl (by decide +kernel) ⟨Nat.le_of_ble_eq_true rfl, Nat.le_of_ble_eq_true rfl⟩) ⟨fun a U g mk q => ⟨q.1, q.2⟩, fun U hU hW => ⟨rfl, congrArg Array.size hU⟩⟩ rfl rfl hl.1 rfl (lv_room (Nat.le_of_ble_eq_true rfl)) dX12_stop_15 ⟨Nat.le_of_ble_eq_true rfl, Nat.le_of_ble_eq_true rfl⟩) hS (fun q _ h9 => nM_up hS q h9) (nM_up hS) (fun r_9 u t H1 locs ht _ hw hB _ hk1 hS => ?_)
    obtain ⟨p_10, p_11, -⟩ := hw
    have hP := my_keepM hP hk1
    generalize H1 = H at hP hS ⊢
    rcases p_11 with ⟨rfl, p_11⟩ | ⟨rfl, p_11⟩
    · skip
      refine lv_if_ne (tgt := 23) hx hb dX12_stop_18 (by decide) (fun c_12 => ?_) (fun c_12 => ?_)
      · skip
        exact absurd c_12 (by decide)
      · skip
        refine lv_iconst (v := (-1)) hx hb dX12_stop_21 (by decide) ?_
        have z_13 : ((-1) : Int32).toInt = (-1) := by decide
        exact W.iret (v := (-1)) hx hb hr (fun t ht hW => ⟨⟨(-1), (fv_1, wd, ar), rfl, ⟨hF_fv_1, hA_ar, (fM_put (fM_rf [0, 33] _) efv_1 (by decide)), (fA_rf [19] _), (show (((-1) : Int32) = -1 ∧ fv_1 33 = fv 33 ∧ (v.toInt < 0 ∨ 11 < v.toInt ∨ 8 ≤ (fv 33).toInt)) ∨ (((-1) : Int32).toInt = (fv 33).toInt ∧ (fv_1 33).toInt = (fv 33).toInt + 1 ∧ ¬ (v.toInt < 0 ∨ 11 < v.toInt ∨ 8 ≤ (fv 33).toInt)) from Or.inl ⟨rfl, (congrFun efv_1 33), by omega⟩), trivial⟩, ⟨by rw [ht]; exact hP, va_K.moved hW.alike hK⟩⟩, hS.F ht⟩) hS.2.2 dX12_stop_22
    · skip
      have i_14 : 0 ≤ v.toInt ∧ v.toInt ≤ 2147483647 := ⟨p_11.1, (iv_any v).2⟩
      have i_15 : 0 ≤ v.toInt ∧ v.toInt ≤ 11 := ⟨i_14.1, p_11.2⟩
      refine lv_if_ne (tgt := 23) hx hb dX12_stop_18 (by decide) (fun c_16 => ?_) (fun c_16 => ?_)
      · skip
        refine lv_aload_n hx hb dX12_stop_23 rfl (lv_at hl 0 rfl) ?_
        refine gM_19 hx hb htg hown hK hP dX12_stop_24 ?_
        refine lv_aload_n hx hb dX12_stop_27 rfl (lv_at hl 0 rfl) ?_
        refine gM_33 hx hb htg hown hK hP dX12_stop_28 ?_
        refine my_ti (y := fv 33) ((congrFun efv_1 33)) ?_
        refine lv_iload_n hx hb dX12_stop_31 rfl (lv_at hl 1 rfl) ?_
        refine sM_19 hx hb hK hP hS hd (iv_in i_7 (by decide) (by decide)) dX12_stop_32 (fun H locs ar_17 ear_17 hP hS => ?_)
        have hA_ar_17 : rA ar_17 := rA_put hA_ar ear_17 i_15
        refine lv_aload_n hx hb dX12_stop_33 rfl (lv_at hl 0 rfl) ?_
        refine lv_dup hx hb dX12_stop_34 rfl ?_
        refine gM_33 hx hb htg hown hK hP dX12_stop_35 ?_
        refine my_ti (y := fv 33) ((congrFun efv_1 33)) ?_
        refine lv_iconst (v := 1) hx hb dX12_stop_38 (by decide) ?_
        refine lv_iadd hx hb dX12_stop_39 ?_
        refine lv_topi (fun v_18 ev_18 => ?_)
        have t_19 : v_18.toInt = (fv 33).toInt + 1 ∧ 1 ≤ v_18.toInt ∧ v_18.toInt ≤ 8 := iv_addc ev_18 i_7 (by decide) (by decide) (by decide)
        refine pM_33 hx hb htg hown hK hP hS hd dX12_stop_40 (fun H locs fv_21 efv_21 hP hS => ?_)
        have hF_fv_21 : rF fv_21 := rF_put hF_fv_1 efv_21 (iv_w t_19.2 (by decide) (by decide))
        refine lv_aload_n hx hb dX12_stop_43 rfl (lv_at hl 0 rfl) ?_
        refine gM_33 hx hb htg hown hK hP dX12_stop_44 ?_
        refine my_ti (y := v_18) ((congrFun efv_21 33)) ?_
        refine lv_iconst (v := 1) hx hb dX12_stop_47 (by decide) ?_
        refine lv_isub hx hb dX12_stop_48 ?_
        refine lv_topi (fun v_22 ev_22 => ?_)
        have t_23 : v_22.toInt = v_18.toInt - 1 ∧ 0 ≤ v_22.toInt ∧ v_22.toInt ≤ 7 := iv_subc ev_22 t_19.2 (by decide) (by decide) (by decide)
        exact W.iret (v := v_22) hx hb hr (fun t ht hW => ⟨⟨v_22, (fv_21, wd, ar_17), rfl, ⟨hF_fv_21, hA_ar_17, (fM_put (fM_put (fM_rf [0, 33] _) efv_1 (by decide)) efv_21 (by decide)), (fA_put (fA_rf [19] _) ear_17 (by decide)), (show (v_22 = -1 ∧ fv_21 33 = fv 33 ∧ (v.toInt < 0 ∨ 11 < v.toInt ∨ 8 ≤ (fv 33).toInt)) ∨ (v_22.toInt = (fv 33).toInt ∧ (fv_21 33).toInt = (fv 33).toInt + 1 ∧ ¬ (v.toInt < 0 ∨ 11 < v.toInt ∨ 8 ≤ (fv 33).toInt)) from Or.inr ⟨by omega, by rw [show fv_21 33 = v_18 from (congrFun efv_21 33)]; omega, by omega⟩), trivial⟩, ⟨by rw [ht]; exact hP, va_K.moved hW.alike hK⟩⟩, hS.F ht⟩) hS.2.2 dX12_stop_49
      · skip
        exact absurd c_16 (by decide)

set_option maxHeartbeats 4000000 in
set_option maxRecDepth 100000 in
theorem m_nextE (l : Launch) (dC : Nat → ClassId) (dI : Nat → Nat → Nat) (sz h : Nat) (ad : Nat → Nat) (cA : Nat → ClassId) (hd : dM h ad) (fv : Nat → Int32) (wd : Int64) (ar : Nat → Nat → Int32) (hF_fv : rF fv) (hA_ar : rA ar) (n : Int32) : Met l yX12_next (.code yX12_next cX12_next 2 (some .int) :: lw_good) ({ frames := 3, cells := 0, slots := 0, locals := 62 }) (va_Pc [.ref h, .int n] (prM dC dI h ad cA fv wd ar sz)) (va_Qi (fun (r : Int32) (u : mS) => rF u.1 ∧ rA u.2.2 ∧ fM [0, 3] fv u.1 ∧ fA [] ar u.2.2 ∧ ((r = -1 ∧ u.1 3 = fv 3 ∧ (n.toInt < 0 ∨ 199 < n.toInt ∨ 199 < (fv 3).toInt + n.toInt)) ∨ (r = fv 3 + n ∧ u.1 3 = fv 3 + n ∧ ¬ (n.toInt < 0 ∨ 199 < n.toInt ∨ 199 < (fv 3).toInt + n.toInt))) ∧ True) (enM dC dI h ad cA) (aM h ad sz)) 0 0 (aM h ad sz) := by
  refine Met.ofW (cc := cX12_next) (maxL := 2) (ret := (some .int)) (by decide) rfl ?_
  intro p e s m args below meth c s₁ B hml hv
  obtain ⟨rfl, hsz, hP, hK⟩ := hv
  have hx := B.exec
  have hb := B.bytes
  have hr := B.returns
  have hts := atoms_spec (ws := (.code yX12_next cX12_next 2 (some .int) :: lw_good)) B.pre
  have htg : ∀ w ∈ lw_good, w.before _ s = true := fun w hw => hts w (List.mem_cons_of_mem _ hw)
  have hown : s.vm.findClass RX12 = some m.cls := findClass_of_methodNamed B.named
  have hlocks := B.notSynchronized
  subst hsz
  have hS : va_S (aM h ad s.heap.size) s.heap s.heap [] := va_S.rf
  have hl := lv_entry ([.ref h, .int n]) (n := 2) (Nat.le_of_ble_eq_true rfl)
  rw [lg_entry_eq]
  generalize (lg_sl ([.ref h, .int n]) ++ List.replicate (2 - (lg_sl ([.ref h, .int n])).length) Slot.unset).toArray = ls at hl ⊢
  have hl : lv_has ls 2 [(0, .ref h), (1, .int n)] := hl
  have z0 : (0 : Int32).toInt = 0 := by decide
  have z199 : (199 : Int32).toInt = 199 := by decide
  refine lv_aload_n hx hb dX12_next_0 rfl (lv_at hl 0 rfl) ?_
  refine lv_iconst (v := 0) hx hb dX12_next_1 (by decide) ?_
  refine pM_0 hx hb htg hown hK hP hS hd dX12_next_2 (fun H locs fv_1 efv_1 hP hS => ?_)
  have hF_fv_1 : rF fv_1 := rF_put hF_fv efv_1 (iv_any _)
  refine lv_iload_n hx hb dX12_next_5 rfl (lv_at hl 1 rfl) ?_
  refine lv_iconst (v := 0) hx hb dX12_next_6 (by decide) ?_
  refine lv_sipush (v := 199) hx hb dX12_next_7 (by decide) ?_
  refine va_calli (va_runS (As := [.int n, .int 0, .int 199]) (rest := []) ⟨hx, hb, hml, hown, hts⟩ (m_isIn l H.size n 0 199) (va_cwS 3 hts (gS kw_7_218 kw_7_219 kw_1_15 kw_7_220) rfl rfl rfl (by decide +kernel) ⟨Nat.le_of_ble_eq_true rfl, Nat.le_of_ble_eq_true rfl⟩) ⟨fun a U g mk q => ⟨q.1, q.2⟩, fun U hU hW => ⟨rfl, congrArg Array.size hU⟩⟩ rfl rfl hl.1 rfl (lv_room (Nat.le_of_ble_eq_true rfl)) dX12_next_10 ⟨Nat.le_of_ble_eq_true rfl, Nat.le_of_ble_eq_true rfl⟩) hS (fun q _ h9 => nM_up hS q h9) (nM_up hS) (fun r_2 u t H1 locs ht _ hw hB _ hk1 hS => ?_)
  obtain ⟨p_3, p_4, -⟩ := hw
  have hP := my_keepM hP hk1
  generalize H1 = H at hP hS ⊢
  rcases p_4 with ⟨rfl, p_4⟩ | ⟨rfl, p_4⟩
  · skip
    refine lv_if_eq (tgt := 28) hx hb dX12_next_13 (by decide) (fun c_5 => ?_) (fun c_5 => ?_)
    · skip
      refine lv_iconst (v := (-1)) hx hb dX12_next_28 (by decide) ?_
      have z_6 : ((-1) : Int32).toInt = (-1) := by decide
      exact W.iret (v := (-1)) hx hb hr (fun t ht hW => ⟨⟨(-1), (fv_1, wd, ar), rfl, ⟨hF_fv_1, hA_ar, (fM_put (fM_rf [0, 3] _) efv_1 (by decide)), (fA_rf [] _), (show (((-1) : Int32) = -1 ∧ fv_1 3 = fv 3 ∧ (n.toInt < 0 ∨ 199 < n.toInt ∨ 199 < (fv 3).toInt + n.toInt)) ∨ (((-1) : Int32) = fv 3 + n ∧ fv_1 3 = fv 3 + n ∧ ¬ (n.toInt < 0 ∨ 199 < n.toInt ∨ 199 < (fv 3).toInt + n.toInt)) from Or.inl ⟨rfl, (congrFun efv_1 3), by omega⟩), trivial⟩, ⟨by rw [ht]; exact hP, va_K.moved hW.alike hK⟩⟩, hS.F ht⟩) hS.2.2 dX12_next_29
    · skip
      exact absurd c_5 (by decide)
  · skip
    have i_7 : 0 ≤ n.toInt ∧ n.toInt ≤ 2147483647 := iv_le2 (⟨by decide, by decide⟩ : (0 : Int) ≤ (0 : Int32).toInt ∧ (0 : Int32).toInt ≤ 0) (iv_any n) (Int32.le_iff_toInt_le.mpr p_4.1)
    have i_8 : 0 ≤ n.toInt ∧ n.toInt ≤ 199 := iv_le1 i_7 (⟨by decide, by decide⟩ : (199 : Int) ≤ (199 : Int32).toInt ∧ (199 : Int32).toInt ≤ 199) (Int32.le_iff_toInt_le.mpr p_4.2)
    refine lv_if_eq (tgt := 28) hx hb dX12_next_13 (by decide) (fun c_9 => ?_) (fun c_9 => ?_)
    · skip
      exact absurd c_9 (by decide)
    · skip
      refine lv_aload_n hx hb dX12_next_16 rfl (lv_at hl 0 rfl) ?_
      refine gM_3 hx hb htg hown hK hP dX12_next_17 ?_
      refine my_ti (y := fv 3) ((congrFun efv_1 3)) ?_
      have i_10 : 0 ≤ (fv 3).toInt ∧ (fv 3).toInt ≤ 199 := hF_fv 3
      refine lv_iload_n hx hb dX12_next_20 rfl (lv_at hl 1 rfl) ?_
      refine lv_iadd hx hb dX12_next_21 ?_
      refine lv_topi (fun v_11 ev_11 => ?_)
      have t_12 : v_11.toInt = (fv 3).toInt + n.toInt ∧ 0 ≤ v_11.toInt ∧ v_11.toInt ≤ 398 := iv_add ev_11 i_10 i_8 (by decide) (by decide)
      refine lv_sipush (v := 200) hx hb dX12_next_22 (by decide) ?_
      refine lv_icmp_lt (tgt := 30) hx hb dX12_next_25 (by decide) (fun c_14 => ?_) (fun c_14 => ?_)
      · skip
        have i_15 : 0 ≤ v_11.toInt ∧ v_11.toInt ≤ 199 := iv_lt1 t_12.2 (⟨by decide, by decide⟩ : (200 : Int) ≤ (200 : Int32).toInt ∧ (200 : Int32).toInt ≤ 200) c_14
        refine lv_aload_n hx hb dX12_next_30 rfl (lv_at hl 0 rfl) ?_
        refine lv_dup hx hb dX12_next_31 rfl ?_
        refine gM_3 hx hb htg hown hK hP dX12_next_32 ?_
        refine my_ti (y := fv 3) ((congrFun efv_1 3)) ?_
        refine lv_iload_n hx hb dX12_next_35 rfl (lv_at hl 1 rfl) ?_
        refine lv_iadd hx hb dX12_next_36 ?_
        refine my_ti (y := v_11) ev_11.symm ?_
        refine pM_3 hx hb htg hown hK hP hS hd dX12_next_37 (fun H locs fv_16 efv_16 hP hS => ?_)
        have hF_fv_16 : rF fv_16 := rF_put hF_fv_1 efv_16 i_15
        refine lv_aload_n hx hb dX12_next_40 rfl (lv_at hl 0 rfl) ?_
        refine gM_3 hx hb htg hown hK hP dX12_next_41 ?_
        refine my_ti (y := v_11) ((congrFun efv_16 3)) ?_
        exact W.iret (v := v_11) hx hb hr (fun t ht hW => ⟨⟨v_11, (fv_16, wd, ar), rfl, ⟨hF_fv_16, hA_ar, (fM_put (fM_put (fM_rf [0, 3] _) efv_1 (by decide)) efv_16 (by decide)), (fA_rf [] _), (show (v_11 = -1 ∧ fv_16 3 = fv 3 ∧ (n.toInt < 0 ∨ 199 < n.toInt ∨ 199 < (fv 3).toInt + n.toInt)) ∨ (v_11 = fv 3 + n ∧ fv_16 3 = fv 3 + n ∧ ¬ (n.toInt < 0 ∨ 199 < n.toInt ∨ 199 < (fv 3).toInt + n.toInt)) from Or.inr ⟨ev_11, ((congrFun efv_16 3)).trans ev_11, by omega⟩), trivial⟩, ⟨by rw [ht]; exact hP, va_K.moved hW.alike hK⟩⟩, hS.F ht⟩) hS.2.2 dX12_next_44
      · skip
        have i_17 : 200 ≤ v_11.toInt ∧ v_11.toInt ≤ 398 := iv_le2 (⟨by decide, by decide⟩ : (200 : Int) ≤ (200 : Int32).toInt ∧ (200 : Int32).toInt ≤ 200) t_12.2 (Int32.not_lt.mp c_14)
        refine lv_iconst (v := (-1)) hx hb dX12_next_28 (by decide) ?_
        have z_18 : ((-1) : Int32).toInt = (-1) := by decide
        exact W.iret (v := (-1)) hx hb hr (fun t ht hW => ⟨⟨(-1), (fv_1, wd, ar), rfl, ⟨hF_fv_1, hA_ar, (fM_put (fM_rf [0, 3] _) efv_1 (by decide)), (fA_rf [] _), (show (((-1) : Int32) = -1 ∧ fv_1 3 = fv 3 ∧ (n.toInt < 0 ∨ 199 < n.toInt ∨ 199 < (fv 3).toInt + n.toInt)) ∨ (((-1) : Int32) = fv 3 + n ∧ fv_1 3 = fv 3 + n ∧ ¬ (n.toInt < 0 ∨ 199 < n.toInt ∨ 199 < (fv 3).toInt + n.toInt)) from Or.inl ⟨rfl, (congrFun efv_1 3), by omega⟩), trivial⟩, ⟨by rw [ht]; exact hP, va_K.moved hW.alike hK⟩⟩, hS.F ht⟩) hS.2.2 dX12_next_29

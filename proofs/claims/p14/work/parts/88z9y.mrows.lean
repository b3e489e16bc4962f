set_option maxHeartbeats 4000000 in
set_option maxRecDepth 100000 in
theorem m_insureR (l : Launch) (dC : Nat → ClassId) (dI : Nat → Nat → Nat) (sz h : Nat) (ad : Nat → Nat) (cA : Nat → ClassId) (hd : dM h ad) (fv : Nat → Int32) (wd : Int64) (ar : Nat → Nat → Int32) (hF_fv : rF fv) (hA_ar : rA ar) (a : Int32) (b : Int32) : Met l yX12_insure (.code yX12_insure cX12_insure 3 (some .boolean) :: lw_good) ({ frames := 3, cells := 0, slots := 0, locals := 62 }) (va_Pc [.ref h, .int a, .int b] (prM dC dI h ad cA fv wd ar sz)) (va_Qi (fun (r : Int32) (u : mS) => rF u.1 ∧ rA u.2.2 ∧ fM [0] fv u.1 ∧ fA [23] ar u.2.2 ∧ (0 ≤ r.toInt ∧ r.toInt ≤ 1) ∧ (ps_insure r (fv 34) a b) ∧ (wt_rz r (u.2.2 23) (ar 23) a b) ∧ True) (enM dC dI h ad cA) (aM h ad sz)) 0 0 (aM h ad sz) := by
  refine Met.ofW (cc := cX12_insure) (maxL := 3) (ret := (some .boolean)) (by decide) rfl ?_
  intro p e s m args below meth c s₁ B hml hv
  obtain ⟨rfl, hsz, hP, hK⟩ := hv
  have hx := B.exec
  have hb := B.bytes
  have hr := B.returns
  have hts := atoms_spec (ws := (.code yX12_insure cX12_insure 3 (some .boolean) :: lw_good)) B.pre
  have htg : ∀ w ∈ lw_good, w.before _ s = true := fun w hw => hts w (List.mem_cons_of_mem _ hw)
  have hown : s.vm.findClass RX12 = some m.cls := findClass_of_methodNamed B.named
  have hlocks := B.notSynchronized
  subst hsz
  have hS : va_S (aM h ad s.heap.size) s.heap s.heap [] := va_S.rf
  have hl := lv_entry ([.ref h, .int a, .int b]) (n := 3) (Nat.le_of_ble_eq_true rfl)
  rw [lg_entry_eq]
  generalize (lg_sl ([.ref h, .int a, .int b]) ++ List.replicate (3 - (lg_sl ([.ref h, .int a, .int b])).length) Slot.unset).toArray = ls at hl ⊢
  have hl : lv_has ls 3 [(0, .ref h), (1, .int a), (2, .int b)] := hl
  have zc0 : (0 : Int32).toInt = 0 := by decide
  have zc1 : (1 : Int32).toInt = 1 := by decide
  have zc2 : (2 : Int32).toInt = 2 := by decide
  have zc9 : (9 : Int32).toInt = 9 := by decide
  have zc11 : (11 : Int32).toInt = 11 := by decide
  have zc12 : (12 : Int32).toInt = 12 := by decide
  have zc19 : (19 : Int32).toInt = 19 := by decide
  have zc99 : (99 : Int32).toInt = 99 := by decide
  have zc199 : (199 : Int32).toInt = 199 := by decide
  have zc719 : (719 : Int32).toInt = 719 := by decide
  have zc20 : (20 : Int32).toInt = 20 := by decide
  have zc340 : (340 : Int32).toInt = 340 := by decide
  have zcm1 : ((-1) : Int32).toInt = (-1) := by decide
  refine lv_aload_n hx hb dX12_insure_0 rfl (lv_at hl 0 rfl) ?_
  refine lv_iconst (v := 0) hx hb dX12_insure_1 (by decide) ?_
  refine pM_0 hx hb htg hown hK hP hS hd dX12_insure_2 (fun H locs fv_1 efv_1 hP hS => ?_)
  have hF_fv_1 : rF fv_1 := rF_put hF_fv efv_1 (iv_any _)
  refine lv_aload_n hx hb dX12_insure_5 rfl (lv_at hl 0 rfl) ?_
  refine lv_iload_n hx hb dX12_insure_6 rfl (lv_at hl 1 rfl) ?_
  refine va_calli (va_runV (As := [.int a]) (rest := []) ⟨hx, hb, hml, hown, hts⟩ (m_isWheelE l dC dI H.size h ad cA hd fv_1 wd ar hF_fv_1 hA_ar a) (cwV 1 hts (gV kw_8_40 kw_8_42 kw_p_63 kw_1_15 kw_8_43) rfl rfl rfl (by decide +kernel) ⟨Nat.le_of_ble_eq_true rfl, Nat.le_of_ble_eq_true rfl⟩) ⟨fun a U g mk q => ⟨q.1, q.2.1, q.2.2.1, va_K.moved (u := U) (U := U.calling g mk a) (Vm.Alike.refl U.vm) q.2.2.2⟩, va_recv hK hP (ci := 12) (q0 := 0) rfl rfl, fun U hU hW => ⟨rfl, by rw [hU], by rw [hU]; exact hP, va_K.moved hW.alike hK⟩⟩ rfl rfl hl.1 rfl (lv_room (Nat.le_of_ble_eq_true rfl)) dX12_insure_7 ⟨Nat.le_of_ble_eq_true rfl, Nat.le_of_ble_eq_true rfl⟩) hS (fun q _ h9 => aM_up hS q h9) (aM_up hS) (fun r_2 u t H1 locs ht _ hw hB _ hk1 hS => ?_)
  obtain ⟨fv_5, wd_6, ar_7⟩ := u
  obtain ⟨hF_fv_5, hA_ar_7, fr_8, fa_9, p_3, p_4, -⟩ := hw
  have hP : va_P (dC, dI) vwCl (wsM h ad cA fv_5 wd_6 ar_7) H1 := by have h9 := hB.1; rw [ht] at h9; exact h9
  have fr_8 : fM [] fv_1 fv_5 := fr_8
  have fa_9 : fA [] ar ar_7 := fa_9
  generalize H1 = H at hP hS ⊢
  rcases p_4 with ⟨rfl, p_4⟩ | ⟨rfl, p_4⟩
  · skip
    have q_10 : a.toInt < 0 ∨ (fv_1 34).toInt ≤ a.toInt := p_4
    refine lv_if_eq (tgt := 24) hx hb dX12_insure_10 (by decide) (fun c_11 => ?_) (fun c_11 => ?_)
    · skip
      refine lv_iconst (v := 0) hx hb dX12_insure_24 (by decide) ?_
      have z_12 : (0 : Int32).toInt = 0 := by decide
      exact W.zret (v := 0) hx hb hr (by decide) (fun t ht hW => ⟨⟨0, (fv_5, wd_6, ar_7), rfl, ⟨hF_fv_5, hA_ar_7, (fM_call (fM_put (fM_rf [0] _) efv_1 (by decide)) fr_8 (by decide)), (fA_call (fA_rf [23] _) fa_9 (by decide)), (iv_w (⟨by decide, by decide⟩ : (0 : Int) ≤ (0 : Int32).toInt ∧ (0 : Int32).toInt ≤ 0) (by decide) (by decide)), (show ps_insure (0 : Int32) (fv 34) a b from by have q_fv_1_33 : (fv_1 33).toInt = (fv 33).toInt := congrArg Int32.toInt ((fM_put (fM_rf [0] _) efv_1 (by decide)) 33 rfl); have q_fv_1_3 : (fv_1 3).toInt = (fv 3).toInt := congrArg Int32.toInt ((fM_put (fM_rf [0] _) efv_1 (by decide)) 3 rfl); have q_fv_1_6 : (fv_1 6).toInt = (fv 6).toInt := congrArg Int32.toInt ((fM_put (fM_rf [0] _) efv_1 (by decide)) 6 rfl); have q_fv_1_34 : (fv_1 34).toInt = (fv 34).toInt := congrArg Int32.toInt ((fM_put (fM_rf [0] _) efv_1 (by decide)) 34 rfl); have q_fv_1_35 : (fv_1 35).toInt = (fv 35).toInt := congrArg Int32.toInt ((fM_put (fM_rf [0] _) efv_1 (by decide)) 35 rfl); have q_fv_1_2 : (fv_1 2).toInt = (fv 2).toInt := congrArg Int32.toInt ((fM_put (fM_rf [0] _) efv_1 (by decide)) 2 rfl); have q_fv_5_33 : (fv_5 33).toInt = (fv 33).toInt := congrArg Int32.toInt ((fM_call (fM_put (fM_rf [0] _) efv_1 (by decide)) fr_8 (by decide)) 33 rfl); have q_fv_5_3 : (fv_5 3).toInt = (fv 3).toInt := congrArg Int32.toInt ((fM_call (fM_put (fM_rf [0] _) efv_1 (by decide)) fr_8 (by decide)) 3 rfl); have q_fv_5_6 : (fv_5 6).toInt = (fv 6).toInt := congrArg Int32.toInt ((fM_call (fM_put (fM_rf [0] _) efv_1 (by decide)) fr_8 (by decide)) 6 rfl); have q_fv_5_34 : (fv_5 34).toInt = (fv 34).toInt := congrArg Int32.toInt ((fM_call (fM_put (fM_rf [0] _) efv_1 (by decide)) fr_8 (by decide)) 34 rfl); have q_fv_5_35 : (fv_5 35).toInt = (fv 35).toInt := congrArg Int32.toInt ((fM_call (fM_put (fM_rf [0] _) efv_1 (by decide)) fr_8 (by decide)) 35 rfl); have q_fv_5_2 : (fv_5 2).toInt = (fv 2).toInt := congrArg Int32.toInt ((fM_call (fM_put (fM_rf [0] _) efv_1 (by decide)) fr_8 (by decide)) 2 rfl); exact Or.inl ⟨rfl, by omega⟩), (show wt_rz (0 : Int32) (ar_7 23) (ar 23) a b from Or.inl ⟨rfl, ((fA_call (fA_rf [] _) fa_9 (by decide)) 23 rfl)⟩), trivial⟩, ⟨by rw [ht]; exact hP, va_K.moved hW.alike hK⟩⟩, hS.F ht⟩) hS.2.2 dX12_insure_25
    · skip
      exact absurd c_11 (by decide)
  · skip
    have i_13 : 0 ≤ a.toInt ∧ a.toInt ≤ 2147483647 := ⟨p_4.1, (iv_any a).2⟩
    have i_14 : 0 ≤ a.toInt ∧ a.toInt ≤ 19 := ⟨i_13.1, p_4.2.1⟩
    have q_15 : a.toInt < (fv_1 34).toInt := p_4.2.2
    refine lv_if_eq (tgt := 24) hx hb dX12_insure_10 (by decide) (fun c_16 => ?_) (fun c_16 => ?_)
    · skip
      exact absurd c_16 (by decide)
    · skip
      refine lv_iload_n hx hb dX12_insure_13 rfl (lv_at hl 2 rfl) ?_
      refine lv_iconst (v := (-1)) hx hb dX12_insure_14 (by decide) ?_
      refine lv_sipush (v := 199) hx hb dX12_insure_15 (by decide) ?_
      refine va_calli (va_runS (As := [.int b, .int (-1), .int 199]) (rest := []) ⟨hx, hb, hml, hown, hts⟩ (m_isIn l H.size b (-1) 199) (va_cwS 3 hts (gS kw_7_218 kw_7_219 kw_1_15 kw_7_220) rfl rfl rfl (by decide +kernel) ⟨Nat.le_of_ble_eq_true rfl, Nat.le_of_ble_eq_true rfl⟩) ⟨fun a U g mk q => ⟨q.1, q.2⟩, fun U hU hW => ⟨rfl, congrArg Array.size hU⟩⟩ rfl rfl hl.1 rfl (lv_room (Nat.le_of_ble_eq_true rfl)) dX12_insure_18 ⟨Nat.le_of_ble_eq_true rfl, Nat.le_of_ble_eq_true rfl⟩) hS (fun q _ h9 => nM_up hS q h9) (nM_up hS) (fun r_17 u t H1 locs ht _ hw hB _ hk1 hS => ?_)
      obtain ⟨p_18, p_19, -⟩ := hw
      have hP := my_keepM hP hk1
      generalize H1 = H at hP hS ⊢
      rcases p_19 with ⟨rfl, p_19⟩ | ⟨rfl, p_19⟩
      · skip
        refine lv_if_ne (tgt := 26) hx hb dX12_insure_21 (by decide) (fun c_20 => ?_) (fun c_20 => ?_)
        · skip
          exact absurd c_20 (by decide)
        · skip
          refine lv_iconst (v := 0) hx hb dX12_insure_24 (by decide) ?_
          have z_21 : (0 : Int32).toInt = 0 := by decide
          exact W.zret (v := 0) hx hb hr (by decide) (fun t ht hW => ⟨⟨0, (fv_5, wd_6, ar_7), rfl, ⟨hF_fv_5, hA_ar_7, (fM_call (fM_put (fM_rf [0] _) efv_1 (by decide)) fr_8 (by decide)), (fA_call (fA_rf [23] _) fa_9 (by decide)), (iv_w (⟨by decide, by decide⟩ : (0 : Int) ≤ (0 : Int32).toInt ∧ (0 : Int32).toInt ≤ 0) (by decide) (by decide)), (show ps_insure (0 : Int32) (fv 34) a b from by have q_fv_1_33 : (fv_1 33).toInt = (fv 33).toInt := congrArg Int32.toInt ((fM_put (fM_rf [0] _) efv_1 (by decide)) 33 rfl); have q_fv_1_3 : (fv_1 3).toInt = (fv 3).toInt := congrArg Int32.toInt ((fM_put (fM_rf [0] _) efv_1 (by decide)) 3 rfl); have q_fv_1_6 : (fv_1 6).toInt = (fv 6).toInt := congrArg Int32.toInt ((fM_put (fM_rf [0] _) efv_1 (by decide)) 6 rfl); have q_fv_1_34 : (fv_1 34).toInt = (fv 34).toInt := congrArg Int32.toInt ((fM_put (fM_rf [0] _) efv_1 (by decide)) 34 rfl); have q_fv_1_35 : (fv_1 35).toInt = (fv 35).toInt := congrArg Int32.toInt ((fM_put (fM_rf [0] _) efv_1 (by decide)) 35 rfl); have q_fv_1_2 : (fv_1 2).toInt = (fv 2).toInt := congrArg Int32.toInt ((fM_put (fM_rf [0] _) efv_1 (by decide)) 2 rfl); have q_fv_5_33 : (fv_5 33).toInt = (fv 33).toInt := congrArg Int32.toInt ((fM_call (fM_put (fM_rf [0] _) efv_1 (by decide)) fr_8 (by decide)) 33 rfl); have q_fv_5_3 : (fv_5 3).toInt = (fv 3).toInt := congrArg Int32.toInt ((fM_call (fM_put (fM_rf [0] _) efv_1 (by decide)) fr_8 (by decide)) 3 rfl); have q_fv_5_6 : (fv_5 6).toInt = (fv 6).toInt := congrArg Int32.toInt ((fM_call (fM_put (fM_rf [0] _) efv_1 (by decide)) fr_8 (by decide)) 6 rfl); have q_fv_5_34 : (fv_5 34).toInt = (fv 34).toInt := congrArg Int32.toInt ((fM_call (fM_put (fM_rf [0] _) efv_1 (by decide)) fr_8 (by decide)) 34 rfl); have q_fv_5_35 : (fv_5 35).toInt = (fv 35).toInt := congrArg Int32.toInt ((fM_call (fM_put (fM_rf [0] _) efv_1 (by decide)) fr_8 (by decide)) 35 rfl); have q_fv_5_2 : (fv_5 2).toInt = (fv 2).toInt := congrArg Int32.toInt ((fM_call (fM_put (fM_rf [0] _) efv_1 (by decide)) fr_8 (by decide)) 2 rfl); exact Or.inl ⟨rfl, by omega⟩), (show wt_rz (0 : Int32) (ar_7 23) (ar 23) a b from Or.inl ⟨rfl, ((fA_call (fA_rf [] _) fa_9 (by decide)) 23 rfl)⟩), trivial⟩, ⟨by rw [ht]; exact hP, va_K.moved hW.alike hK⟩⟩, hS.F ht⟩) hS.2.2 dX12_insure_25
      · skip
        have i_22 : (-1) ≤ b.toInt ∧ b.toInt ≤ 2147483647 := iv_le2 (⟨by decide, by decide⟩ : (-1 : Int) ≤ ((-1) : Int32).toInt ∧ ((-1) : Int32).toInt ≤ -1) (iv_any b) (Int32.le_iff_toInt_le.mpr p_19.1)
        have i_23 : (-1) ≤ b.toInt ∧ b.toInt ≤ 199 := iv_le1 i_22 (⟨by decide, by decide⟩ : (199 : Int) ≤ (199 : Int32).toInt ∧ (199 : Int32).toInt ≤ 199) (Int32.le_iff_toInt_le.mpr p_19.2)
        refine lv_if_ne (tgt := 26) hx hb dX12_insure_21 (by decide) (fun c_24 => ?_) (fun c_24 => ?_)
        · skip
          refine lv_aload_n hx hb dX12_insure_26 rfl (lv_at hl 0 rfl) ?_
          refine gM_23 hx hb htg hown hK hP dX12_insure_27 ?_
          refine lv_iload_n hx hb dX12_insure_30 rfl (lv_at hl 1 rfl) ?_
          refine lv_iload_n hx hb dX12_insure_31 rfl (lv_at hl 2 rfl) ?_
          refine sM_23 hx hb hK hP hS hd (iv_in i_14 (by decide) (by decide)) dX12_insure_32 (fun H locs ar_25 ear_25 hP hS => ?_)
          have hA_ar_25 : rA ar_25 := rA_put hA_ar_7 ear_25 (iv_any _)
          refine lv_iconst (v := 1) hx hb dX12_insure_33 (by decide) ?_
          have z_26 : (1 : Int32).toInt = 1 := by decide
          exact W.zret (v := 1) hx hb hr (by decide) (fun t ht hW => ⟨⟨1, (fv_5, wd_6, ar_25), rfl, ⟨hF_fv_5, hA_ar_25, (fM_call (fM_put (fM_rf [0] _) efv_1 (by decide)) fr_8 (by decide)), (fA_put (fA_call (fA_rf [23] _) fa_9 (by decide)) ear_25 (by decide)), (iv_w (⟨by decide, by decide⟩ : (1 : Int) ≤ (1 : Int32).toInt ∧ (1 : Int32).toInt ≤ 1) (by decide) (by decide)), (show ps_insure (1 : Int32) (fv 34) a b from by have q_fv_1_33 : (fv_1 33).toInt = (fv 33).toInt := congrArg Int32.toInt ((fM_put (fM_rf [0] _) efv_1 (by decide)) 33 rfl); have q_fv_1_3 : (fv_1 3).toInt = (fv 3).toInt := congrArg Int32.toInt ((fM_put (fM_rf [0] _) efv_1 (by decide)) 3 rfl); have q_fv_1_6 : (fv_1 6).toInt = (fv 6).toInt := congrArg Int32.toInt ((fM_put (fM_rf [0] _) efv_1 (by decide)) 6 rfl); have q_fv_1_34 : (fv_1 34).toInt = (fv 34).toInt := congrArg Int32.toInt ((fM_put (fM_rf [0] _) efv_1 (by decide)) 34 rfl); have q_fv_1_35 : (fv_1 35).toInt = (fv 35).toInt := congrArg Int32.toInt ((fM_put (fM_rf [0] _) efv_1 (by decide)) 35 rfl); have q_fv_1_2 : (fv_1 2).toInt = (fv 2).toInt := congrArg Int32.toInt ((fM_put (fM_rf [0] _) efv_1 (by decide)) 2 rfl); have q_fv_5_33 : (fv_5 33).toInt = (fv 33).toInt := congrArg Int32.toInt ((fM_call (fM_put (fM_rf [0] _) efv_1 (by decide)) fr_8 (by decide)) 33 rfl); have q_fv_5_3 : (fv_5 3).toInt = (fv 3).toInt := congrArg Int32.toInt ((fM_call (fM_put (fM_rf [0] _) efv_1 (by decide)) fr_8 (by decide)) 3 rfl); have q_fv_5_6 : (fv_5 6).toInt = (fv 6).toInt := congrArg Int32.toInt ((fM_call (fM_put (fM_rf [0] _) efv_1 (by decide)) fr_8 (by decide)) 6 rfl); have q_fv_5_34 : (fv_5 34).toInt = (fv 34).toInt := congrArg Int32.toInt ((fM_call (fM_put (fM_rf [0] _) efv_1 (by decide)) fr_8 (by decide)) 34 rfl); have q_fv_5_35 : (fv_5 35).toInt = (fv 35).toInt := congrArg Int32.toInt ((fM_call (fM_put (fM_rf [0] _) efv_1 (by decide)) fr_8 (by decide)) 35 rfl); have q_fv_5_2 : (fv_5 2).toInt = (fv 2).toInt := congrArg Int32.toInt ((fM_call (fM_put (fM_rf [0] _) efv_1 (by decide)) fr_8 (by decide)) 2 rfl); exact Or.inr ⟨rfl, by omega⟩), (show wt_rz (1 : Int32) (ar_25 23) (ar 23) a b from Or.inr ⟨rfl, by rw [ear_25]; show upd (ar_7 23) (Int32.toNatClampNeg a) b = _; rw [show ar_7 23 = ar 23 from ((fA_call (fA_rf [] _) fa_9 (by decide)) 23 rfl)]; exact congrArg (fun z9 => upd (ar 23) z9 b) (show a.toInt.toNat = a.toInt.toNat from by omega)⟩), trivial⟩, ⟨by rw [ht]; exact hP, va_K.moved hW.alike hK⟩⟩, hS.F ht⟩) hS.2.2 dX12_insure_34
        · skip
          exact absurd c_24 (by decide)

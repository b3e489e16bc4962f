set_option maxHeartbeats 4000000 in
set_option maxRecDepth 100000 in
theorem m_paceE (l : Launch) (dC : Nat → ClassId) (dI : Nat → Nat → Nat) (sz h : Nat) (ad : Nat → Nat) (cA : Nat → ClassId) (hd : dM h ad) (fv : Nat → Int32) (wd : Int64) (ar : Nat → Nat → Int32) (hF_fv : rF fv) (hA_ar : rA ar) (G9 : Nat → Int) (w9 : Nat → Int32) (pp : Int32) (h_pp : 0 ≤ pp.toInt ∧ pp.toInt ≤ 39) (hp_nR : mm_R G9 fv ar) : Met l yX12_pace (.code yX12_pace cX12_pace 3 (some .int) :: lw_good) ({ frames := 3, cells := 0, slots := 0, locals := 61 }) (va_Pc [.ref h, .int pp] (prM dC dI h ad cA fv wd ar sz)) (va_Qi (fun (r : Int32) (u : mS) => rF u.1 ∧ rA u.2.2 ∧ fM [] fv u.1 ∧ fA [] ar u.2.2 ∧ (18 ≤ r.toInt ∧ r.toInt ≤ 50) ∧ (r.toInt = mo_pc (mm_D w9 fv ar) (ar 15 (pp.toInt.toNat)) (pp.toInt.toNat)) ∧ True) (enM dC dI h ad cA) (aM h ad sz)) 0 0 (aM h ad sz) := by
  refine Met.ofW (cc := cX12_pace) (maxL := 3) (ret := (some .int)) (by decide) rfl ?_
  intro p e s m args below meth c s₁ B hml hv
  obtain ⟨rfl, hsz, hP, hK⟩ := hv
  have hx := B.exec
  have hb := B.bytes
  have hr := B.returns
  have hts := atoms_spec (ws := (.code yX12_pace cX12_pace 3 (some .int) :: lw_good)) B.pre
  have htg : ∀ w ∈ lw_good, w.before _ s = true := fun w hw => hts w (List.mem_cons_of_mem _ hw)
  have hown : s.vm.findClass RX12 = some m.cls := findClass_of_methodNamed B.named
  have hlocks := B.notSynchronized
  subst hsz
  have hS : va_S (aM h ad s.heap.size) s.heap s.heap [] := va_S.rf
  have hl := lv_entry ([.ref h, .int pp]) (n := 3) (Nat.le_of_ble_eq_true rfl)
  rw [lg_entry_eq]
  generalize (lg_sl ([.ref h, .int pp]) ++ List.replicate (3 - (lg_sl ([.ref h, .int pp])).length) Slot.unset).toArray = ls at hl ⊢
  have hl : lv_has ls 3 [(0, .ref h), (1, .int pp)] := hl
  refine lv_bipush (v := 18) hx hb dX12_pace_0 (by decide) ?_
  refine lv_aload_n hx hb dX12_pace_2 rfl (lv_at hl 0 rfl) ?_
  refine lv_aload_n hx hb dX12_pace_3 rfl (lv_at hl 0 rfl) ?_
  refine gM_3 hx hb htg hown hK hP dX12_pace_4 ?_
  have i_1 : 0 ≤ (fv 3).toInt ∧ (fv 3).toInt ≤ 199 := hF_fv 3
  have z_2 : 0 ≤ (fv 7).toInt ∧ (fv 7).toInt ≤ 200 := hF_fv 7
  refine va_calli (va_runV (As := [.int (fv 3)]) (rest := [.int 18]) ⟨hx, hb, hml, hown, hts⟩ (m_rainOfC l dC dI s.heap.size h ad cA hd fv wd ar hF_fv hA_ar (fv 3) i_1) (cwV 1 hts (gV kw_8_16 kw_8_18 kw_p_61 kw_1_15 kw_8_19) rfl rfl rfl (by decide +kernel) ⟨Nat.le_of_ble_eq_true rfl, Nat.le_of_ble_eq_true rfl⟩) ⟨fun a U g mk q => ⟨q.1, q.2.1, q.2.2.1, va_K.moved (u := U) (U := U.calling g mk a) (Vm.Alike.refl U.vm) q.2.2.2⟩, va_recv hK hP (ci := 12) (q0 := 0) rfl rfl, fun U hU hW => ⟨rfl, by rw [hU], by rw [hU]; exact hP, va_K.moved hW.alike hK⟩⟩ rfl rfl hl.1 rfl (lv_room (Nat.le_of_ble_eq_true rfl)) dX12_pace_7 ⟨Nat.le_of_ble_eq_true rfl, Nat.le_of_ble_eq_true rfl⟩) hS (fun q _ h9 => aM_up hS q h9) (aM_up hS) (fun r_3 u t H1 locs ht _ hw hB _ hk1 hS => ?_)
  obtain ⟨fv_5, wd_6, ar_7⟩ := u
  obtain ⟨hF_fv_5, hA_ar_7, fr_8, fa_9, p_4, -⟩ := hw
  have hP : va_P (dC, dI) vwCl (wsM h ad cA fv_5 wd_6 ar_7) H1 := by have h9 := hB.1; rw [ht] at h9; exact h9
  have fr_8 : fM [] fv fv_5 := fr_8
  have fa_9 : fA [] ar ar_7 := fa_9
  have p_4 : wt_on r_3 (fv 3) (fv 7) (ar 5) := p_4
  generalize H1 = H at hP hS ⊢
  have rn_10 : r_3 = mm_rn fv ar := by have h9 := p_4; exact mm_rnI h9
  have i_11 : 0 ≤ r_3.toInt ∧ r_3.toInt ≤ 9 := (by rw [rn_10]; exact hp_nR.1.2.2.2.2.2.2)
  refine lv_iadd hx hb dX12_pace_10 ?_
  refine lv_topi (fun v_12 ev_12 => ?_)
  have t_13 : v_12.toInt = r_3.toInt + 18 ∧ 18 ≤ v_12.toInt ∧ v_12.toInt ≤ 27 := iv_addc (by rw [ev_12, Int32.add_comm]) i_11 (by decide) (by decide) (by decide)
  refine lv_aload_n hx hb dX12_pace_11 rfl (lv_at hl 0 rfl) ?_
  refine gM_15 hx hb htg hown hK hP dX12_pace_12 ?_
  refine lv_iload_n hx hb dX12_pace_15 rfl (lv_at hl 1 rfl) ?_
  refine lM_15 hx hb hK hP (iv_in h_pp (by decide) (by decide)) dX12_pace_16 (fun v_15 ev_15 => ?_)
  refine lv_if_ne (tgt := 25) hx hb dX12_pace_17 (by decide) (fun c_16 => ?_) (fun c_16 => ?_)
  · skip
    have k_17 : ¬ v_15.toInt = 0 := fun q => c_16 (Int32.toInt_inj.mp q)
    refine lv_aload_n hx hb dX12_pace_25 rfl (lv_at hl 0 rfl) ?_
    refine gM_15 hx hb htg hown hK hP dX12_pace_26 ?_
    refine lv_iload_n hx hb dX12_pace_29 rfl (lv_at hl 1 rfl) ?_
    refine lM_15 hx hb hK hP (iv_in h_pp (by decide) (by decide)) dX12_pace_30 (fun v_18 ev_18 => ?_)
    obtain rfl : v_15 = v_18 := ev_15.trans ev_18.symm
    refine lv_iconst (v := 1) hx hb dX12_pace_31 (by decide) ?_
    refine lv_icmp_ne (tgt := 39) hx hb dX12_pace_32 (by decide) (fun c_19 => ?_) (fun c_19 => ?_)
    · skip
      have k_20 : ¬ v_15.toInt = 1 := fun q => c_19 (Int32.toInt_inj.mp q)
      refine lv_iconst (v := 0) hx hb dX12_pace_39 (by decide) ?_
      refine lv_iadd hx hb dX12_pace_40 ?_
      refine lv_topi (fun v_21 ev_21 => ?_)
      have t_22 : v_21.toInt = v_12.toInt + 0 ∧ 18 ≤ v_21.toInt ∧ v_21.toInt ≤ 27 := iv_addc ev_21 t_13.2 (by decide) (by decide) (by decide)
      refine lv_istore_n (lv' := [(2, .int v_21), (0, .ref h), (1, .int pp)]) hx hb dX12_pace_41 rfl hl (by decide) rfl (fun ls hl => ?_)
      refine lv_aload_n hx hb dX12_pace_42 rfl (lv_at hl 1 rfl) ?_
      refine gM_14 hx hb htg hown hK hP dX12_pace_43 ?_
      refine lv_iload_n hx hb dX12_pace_46 rfl (lv_at hl 2 rfl) ?_
      refine lM_14 hx hb hK hP (iv_in h_pp (by decide) (by decide)) dX12_pace_47 (fun v_24 ev_24 => ?_)
      have i_25 : 0 ≤ v_24.toInt ∧ v_24.toInt ≤ 99 := (by rw [ev_24, show ar_7 14 = ar 14 from ((fA_call (fA_rf [] _) fa_9 (by decide)) 14 rfl)]; exact hp_nR.1.2.2.2.2.1 _)
      refine lv_bipush (v := 40) hx hb dX12_pace_48 (by decide) ?_
      refine lv_icmp_le (tgt := 70) hx hb dX12_pace_50 (by decide) (fun c_26 => ?_) (fun c_26 => ?_)
      · skip
        have i_27 : 0 ≤ v_24.toInt ∧ v_24.toInt ≤ 40 := iv_le1 i_25 (⟨by decide, by decide⟩ : (40 : Int) ≤ (40 : Int32).toInt ∧ (40 : Int32).toInt ≤ 40) c_26
        refine lv_iload_n hx hb dX12_pace_70 rfl (lv_at hl 0 rfl) ?_
        exact W.iret (v := v_21) hx hb hr (fun t ht hW => ⟨⟨v_21, (fv_5, wd_6, ar_7), rfl, ⟨hF_fv_5, hA_ar_7, (fM_call (fM_rf [] _) fr_8 (by decide)), (fA_call (fA_rf [] _) fa_9 (by decide)), (iv_w t_22.2 (by decide) (by decide)), (show v_21.toInt = mo_pc (mm_D w9 fv ar) (ar 15 (pp.toInt.toNat)) (pp.toInt.toNat) from by show _ = mo_pace (ar 14 (pp.toInt.toNat)).toInt (ar 15 (pp.toInt.toNat)).toInt (mm_rn fv ar).toInt; rw [show ar 14 (pp.toInt.toNat) = v_24 from ((show v_24 = ar 14 (pp.toInt.toNat) from by rw [ev_24, show ar_7 14 = ar 14 from ((fA_call (fA_rf [] _) fa_9 (by decide)) 14 rfl)]; exact congrArg (ar 14) (show pp.toInt.toNat = (pp.toInt.toNat) from by omega))).symm, show ar 15 (pp.toInt.toNat) = v_15 from ((show v_15 = ar 15 (pp.toInt.toNat) from by rw [ev_15, show ar_7 15 = ar 15 from ((fA_call (fA_rf [] _) fa_9 (by decide)) 15 rfl)]; exact congrArg (ar 15) (show pp.toInt.toNat = (pp.toInt.toNat) from by omega))).symm, ← rn_10]; unfold mo_pace; (repeat' split) <;> omega), trivial⟩, ⟨by rw [ht]; exact hP, va_K.moved hW.alike hK⟩⟩, hS.F ht⟩) hS.2.2 dX12_pace_71
      · skip
        have i_28 : 41 ≤ v_24.toInt ∧ v_24.toInt ≤ 99 := iv_lt2 (⟨by decide, by decide⟩ : (40 : Int) ≤ (40 : Int32).toInt ∧ (40 : Int32).toInt ≤ 40) i_25 (Int32.not_le.mp c_26)
        refine lv_iload_n hx hb dX12_pace_53 rfl (lv_at hl 0 rfl) ?_
        refine lv_aload_n hx hb dX12_pace_54 rfl (lv_at hl 1 rfl) ?_
        refine gM_14 hx hb htg hown hK hP dX12_pace_55 ?_
        refine lv_iload_n hx hb dX12_pace_58 rfl (lv_at hl 2 rfl) ?_
        refine lM_14 hx hb hK hP (iv_in h_pp (by decide) (by decide)) dX12_pace_59 (fun v_29 ev_29 => ?_)
        obtain rfl : v_24 = v_29 := ev_24.trans ev_29.symm
        refine lv_bipush (v := 40) hx hb dX12_pace_60 (by decide) ?_
        refine lv_isub hx hb dX12_pace_62 ?_
        refine lv_topi (fun v_30 ev_30 => ?_)
        have t_31 : v_30.toInt = v_24.toInt - 40 ∧ 1 ≤ v_30.toInt ∧ v_30.toInt ≤ 59 := iv_subc ev_30 i_28 (by decide) (by decide) (by decide)
        refine lv_bipush (v := 10) hx hb dX12_pace_63 (by decide) ?_
        refine lv_idiv hx hb dX12_pace_65 (by decide) ?_
        refine lv_topi (fun v_33 ev_33 => ?_)
        have t_34 : v_33.toInt = v_30.toInt / 10 ∧ 0 ≤ v_33.toInt ∧ v_33.toInt ≤ 5 := mo_dv10 ev_33 (iv_w t_31.2 (by decide) (Int.le_refl _)) (by decide)
        refine lv_iadd hx hb dX12_pace_66 ?_
        refine lv_topi (fun v_36 ev_36 => ?_)
        have t_37 : v_36.toInt = v_21.toInt + v_33.toInt ∧ 18 ≤ v_36.toInt ∧ v_36.toInt ≤ 32 := iv_add ev_36 t_22.2 t_34.2 (by decide) (by decide)
        refine lv_goto (tgt := 71) hx hb dX12_pace_67 (by decide) ?_
        exact W.iret (v := v_36) hx hb hr (fun t ht hW => ⟨⟨v_36, (fv_5, wd_6, ar_7), rfl, ⟨hF_fv_5, hA_ar_7, (fM_call (fM_rf [] _) fr_8 (by decide)), (fA_call (fA_rf [] _) fa_9 (by decide)), (iv_w t_37.2 (by decide) (by decide)), (show v_36.toInt = mo_pc (mm_D w9 fv ar) (ar 15 (pp.toInt.toNat)) (pp.toInt.toNat) from by show _ = mo_pace (ar 14 (pp.toInt.toNat)).toInt (ar 15 (pp.toInt.toNat)).toInt (mm_rn fv ar).toInt; rw [show ar 14 (pp.toInt.toNat) = v_24 from ((show v_24 = ar 14 (pp.toInt.toNat) from by rw [ev_24, show ar_7 14 = ar 14 from ((fA_call (fA_rf [] _) fa_9 (by decide)) 14 rfl)]; exact congrArg (ar 14) (show pp.toInt.toNat = (pp.toInt.toNat) from by omega))).symm, show ar 15 (pp.toInt.toNat) = v_15 from ((show v_15 = ar 15 (pp.toInt.toNat) from by rw [ev_15, show ar_7 15 = ar 15 from ((fA_call (fA_rf [] _) fa_9 (by decide)) 15 rfl)]; exact congrArg (ar 15) (show pp.toInt.toNat = (pp.toInt.toNat) from by omega))).symm, ← rn_10]; unfold mo_pace; (repeat' split) <;> omega), trivial⟩, ⟨by rw [ht]; exact hP, va_K.moved hW.alike hK⟩⟩, hS.F ht⟩) hS.2.2 dX12_pace_71
    · skip
      have i_39 : 1 ≤ v_15.toInt ∧ v_15.toInt ≤ 1 := iv_eq1 (⟨by decide, by decide⟩ : (1 : Int) ≤ (1 : Int32).toInt ∧ (1 : Int32).toInt ≤ 1) c_19
      refine lv_iconst (v := 4) hx hb dX12_pace_35 (by decide) ?_
      refine lv_goto (tgt := 40) hx hb dX12_pace_36 (by decide) ?_
      refine lv_iadd hx hb dX12_pace_40 ?_
      refine lv_topi (fun v_41 ev_41 => ?_)
      have t_42 : v_41.toInt = v_12.toInt + 4 ∧ 22 ≤ v_41.toInt ∧ v_41.toInt ≤ 31 := iv_addc ev_41 t_13.2 (by decide) (by decide) (by decide)
      refine lv_istore_n (lv' := [(2, .int v_41), (0, .ref h), (1, .int pp)]) hx hb dX12_pace_41 rfl hl (by decide) rfl (fun ls hl => ?_)
      refine lv_aload_n hx hb dX12_pace_42 rfl (lv_at hl 1 rfl) ?_
      refine gM_14 hx hb htg hown hK hP dX12_pace_43 ?_
      refine lv_iload_n hx hb dX12_pace_46 rfl (lv_at hl 2 rfl) ?_
      refine lM_14 hx hb hK hP (iv_in h_pp (by decide) (by decide)) dX12_pace_47 (fun v_44 ev_44 => ?_)
      have i_45 : 0 ≤ v_44.toInt ∧ v_44.toInt ≤ 99 := (by rw [ev_44, show ar_7 14 = ar 14 from ((fA_call (fA_rf [] _) fa_9 (by decide)) 14 rfl)]; exact hp_nR.1.2.2.2.2.1 _)
      refine lv_bipush (v := 40) hx hb dX12_pace_48 (by decide) ?_
      refine lv_icmp_le (tgt := 70) hx hb dX12_pace_50 (by decide) (fun c_46 => ?_) (fun c_46 => ?_)
      · skip
        have i_47 : 0 ≤ v_44.toInt ∧ v_44.toInt ≤ 40 := iv_le1 i_45 (⟨by decide, by decide⟩ : (40 : Int) ≤ (40 : Int32).toInt ∧ (40 : Int32).toInt ≤ 40) c_46
        refine lv_iload_n hx hb dX12_pace_70 rfl (lv_at hl 0 rfl) ?_
        exact W.iret (v := v_41) hx hb hr (fun t ht hW => ⟨⟨v_41, (fv_5, wd_6, ar_7), rfl, ⟨hF_fv_5, hA_ar_7, (fM_call (fM_rf [] _) fr_8 (by decide)), (fA_call (fA_rf [] _) fa_9 (by decide)), (iv_w t_42.2 (by decide) (by decide)), (show v_41.toInt = mo_pc (mm_D w9 fv ar) (ar 15 (pp.toInt.toNat)) (pp.toInt.toNat) from by show _ = mo_pace (ar 14 (pp.toInt.toNat)).toInt (ar 15 (pp.toInt.toNat)).toInt (mm_rn fv ar).toInt; rw [show ar 14 (pp.toInt.toNat) = v_44 from ((show v_44 = ar 14 (pp.toInt.toNat) from by rw [ev_44, show ar_7 14 = ar 14 from ((fA_call (fA_rf [] _) fa_9 (by decide)) 14 rfl)]; exact congrArg (ar 14) (show pp.toInt.toNat = (pp.toInt.toNat) from by omega))).symm, show ar 15 (pp.toInt.toNat) = v_15 from ((show v_15 = ar 15 (pp.toInt.toNat) from by rw [ev_15, show ar_7 15 = ar 15 from ((fA_call (fA_rf [] _) fa_9 (by decide)) 15 rfl)]; exact congrArg (ar 15) (show pp.toInt.toNat = (pp.toInt.toNat) from by omega))).symm, ← rn_10]; unfold mo_pace; (repeat' split) <;> omega), trivial⟩, ⟨by rw [ht]; exact hP, va_K.moved hW.alike hK⟩⟩, hS.F ht⟩) hS.2.2 dX12_pace_71
      · skip
        have i_48 : 41 ≤ v_44.toInt ∧ v_44.toInt ≤ 99 := iv_lt2 (⟨by decide, by decide⟩ : (40 : Int) ≤ (40 : Int32).toInt ∧ (40 : Int32).toInt ≤ 40) i_45 (Int32.not_le.mp c_46)
        refine lv_iload_n hx hb dX12_pace_53 rfl (lv_at hl 0 rfl) ?_
        refine lv_aload_n hx hb dX12_pace_54 rfl (lv_at hl 1 rfl) ?_
        refine gM_14 hx hb htg hown hK hP dX12_pace_55 ?_
        refine lv_iload_n hx hb dX12_pace_58 rfl (lv_at hl 2 rfl) ?_
        refine lM_14 hx hb hK hP (iv_in h_pp (by decide) (by decide)) dX12_pace_59 (fun v_49 ev_49 => ?_)
        obtain rfl : v_44 = v_49 := ev_44.trans ev_49.symm
        refine lv_bipush (v := 40) hx hb dX12_pace_60 (by decide) ?_
        refine lv_isub hx hb dX12_pace_62 ?_
        refine lv_topi (fun v_50 ev_50 => ?_)
        have t_51 : v_50.toInt = v_44.toInt - 40 ∧ 1 ≤ v_50.toInt ∧ v_50.toInt ≤ 59 := iv_subc ev_50 i_48 (by decide) (by decide) (by decide)
        refine lv_bipush (v := 10) hx hb dX12_pace_63 (by decide) ?_
        refine lv_idiv hx hb dX12_pace_65 (by decide) ?_
        refine lv_topi (fun v_53 ev_53 => ?_)
        have t_54 : v_53.toInt = v_50.toInt / 10 ∧ 0 ≤ v_53.toInt ∧ v_53.toInt ≤ 5 := mo_dv10 ev_53 (iv_w t_51.2 (by decide) (Int.le_refl _)) (by decide)
        refine lv_iadd hx hb dX12_pace_66 ?_
        refine lv_topi (fun v_56 ev_56 => ?_)
        have t_57 : v_56.toInt = v_41.toInt + v_53.toInt ∧ 22 ≤ v_56.toInt ∧ v_56.toInt ≤ 36 := iv_add ev_56 t_42.2 t_54.2 (by decide) (by decide)
        refine lv_goto (tgt := 71) hx hb dX12_pace_67 (by decide) ?_
        exact W.iret (v := v_56) hx hb hr (fun t ht hW => ⟨⟨v_56, (fv_5, wd_6, ar_7), rfl, ⟨hF_fv_5, hA_ar_7, (fM_call (fM_rf [] _) fr_8 (by decide)), (fA_call (fA_rf [] _) fa_9 (by decide)), (iv_w t_57.2 (by decide) (by decide)), (show v_56.toInt = mo_pc (mm_D w9 fv ar) (ar 15 (pp.toInt.toNat)) (pp.toInt.toNat) from by show _ = mo_pace (ar 14 (pp.toInt.toNat)).toInt (ar 15 (pp.toInt.toNat)).toInt (mm_rn fv ar).toInt; rw [show ar 14 (pp.toInt.toNat) = v_44 from ((show v_44 = ar 14 (pp.toInt.toNat) from by rw [ev_44, show ar_7 14 = ar 14 from ((fA_call (fA_rf [] _) fa_9 (by decide)) 14 rfl)]; exact congrArg (ar 14) (show pp.toInt.toNat = (pp.toInt.toNat) from by omega))).symm, show ar 15 (pp.toInt.toNat) = v_15 from ((show v_15 = ar 15 (pp.toInt.toNat) from by rw [ev_15, show ar_7 15 = ar 15 from ((fA_call (fA_rf [] _) fa_9 (by decide)) 15 rfl)]; exact congrArg (ar 15) (show pp.toInt.toNat = (pp.toInt.toNat) from by omega))).symm, ← rn_10]; unfold mo_pace; (repeat' split) <;> omega), trivial⟩, ⟨by rw [ht]; exact hP, va_K.moved hW.alike hK⟩⟩, hS.F ht⟩) hS.2.2 dX12_pace_71
  · skip
    have i_59 : 0 ≤ v_15.toInt ∧ v_15.toInt ≤ 0 := iv_eq1 (⟨by decide, by decide⟩ : (0 : Int) ≤ (0 : Int32).toInt ∧ (0 : Int32).toInt ≤ 0) c_16
    refine lv_bipush (v := 9) hx hb dX12_pace_20 (by decide) ?_
    refine lv_goto (tgt := 40) hx hb dX12_pace_22 (by decide) ?_
    refine lv_iadd hx hb dX12_pace_40 ?_
    refine lv_topi (fun v_61 ev_61 => ?_)
    have t_62 : v_61.toInt = v_12.toInt + 9 ∧ 27 ≤ v_61.toInt ∧ v_61.toInt ≤ 36 := iv_addc ev_61 t_13.2 (by decide) (by decide) (by decide)
    refine lv_istore_n (lv' := [(2, .int v_61), (0, .ref h), (1, .int pp)]) hx hb dX12_pace_41 rfl hl (by decide) rfl (fun ls hl => ?_)
    refine lv_aload_n hx hb dX12_pace_42 rfl (lv_at hl 1 rfl) ?_
    refine gM_14 hx hb htg hown hK hP dX12_pace_43 ?_
    refine lv_iload_n hx hb dX12_pace_46 rfl (lv_at hl 2 rfl) ?_
    refine lM_14 hx hb hK hP (iv_in h_pp (by decide) (by decide)) dX12_pace_47 (fun v_64 ev_64 => ?_)
    have i_65 : 0 ≤ v_64.toInt ∧ v_64.toInt ≤ 99 := (by rw [ev_64, show ar_7 14 = ar 14 from ((fA_call (fA_rf [] _) fa_9 (by decide)) 14 rfl)]; exact hp_nR.1.2.2.2.2.1 _)
    refine lv_bipush (v := 40) hx hb dX12_pace_48 (by decide) ?_
    refine lv_icmp_le (tgt := 70) hx hb dX12_pace_50 (by decide) (fun c_66 => ?_) (fun c_66 => ?_)
    · skip
      have i_67 : 0 ≤ v_64.toInt ∧ v_64.toInt ≤ 40 := iv_le1 i_65 (⟨by decide, by decide⟩ : (40 : Int) ≤ (40 : Int32).toInt ∧ (40 : Int32).toInt ≤ 40) c_66
      refine lv_iload_n hx hb dX12_pace_70 rfl (lv_at hl 0 rfl) ?_
      exact W.iret (v := v_61) hx hb hr (fun t ht hW => ⟨⟨v_61, (fv_5, wd_6, ar_7), rfl, ⟨hF_fv_5, hA_ar_7, (fM_call (fM_rf [] _) fr_8 (by decide)), (fA_call (fA_rf [] _) fa_9 (by decide)), (iv_w t_62.2 (by decide) (by decide)), (show v_61.toInt = mo_pc (mm_D w9 fv ar) (ar 15 (pp.toInt.toNat)) (pp.toInt.toNat) from by show _ = mo_pace (ar 14 (pp.toInt.toNat)).toInt (ar 15 (pp.toInt.toNat)).toInt (mm_rn fv ar).toInt; rw [show ar 14 (pp.toInt.toNat) = v_64 from ((show v_64 = ar 14 (pp.toInt.toNat) from by rw [ev_64, show ar_7 14 = ar 14 from ((fA_call (fA_rf [] _) fa_9 (by decide)) 14 rfl)]; exact congrArg (ar 14) (show pp.toInt.toNat = (pp.toInt.toNat) from by omega))).symm, show ar 15 (pp.toInt.toNat) = v_15 from ((show v_15 = ar 15 (pp.toInt.toNat) from by rw [ev_15, show ar_7 15 = ar 15 from ((fA_call (fA_rf [] _) fa_9 (by decide)) 15 rfl)]; exact congrArg (ar 15) (show pp.toInt.toNat = (pp.toInt.toNat) from by omega))).symm, ← rn_10]; unfold mo_pace; (repeat' split) <;> omega), trivial⟩, ⟨by rw [ht]; exact hP, va_K.moved hW.alike hK⟩⟩, hS.F ht⟩) hS.2.2 dX12_pace_71
    · skip
      have i_68 : 41 ≤ v_64.toInt ∧ v_64.toInt ≤ 99 := iv_lt2 (⟨by decide, by decide⟩ : (40 : Int) ≤ (40 : Int32).toInt ∧ (40 : Int32).toInt ≤ 40) i_65 (Int32.not_le.mp c_66)
      refine lv_iload_n hx hb dX12_pace_53 rfl (lv_at hl 0 rfl) ?_
      refine lv_aload_n hx hb dX12_pace_54 rfl (lv_at hl 1 rfl) ?_
      refine gM_14 hx hb htg hown hK hP dX12_pace_55 ?_
      refine lv_iload_n hx hb dX12_pace_58 rfl (lv_at hl 2 rfl) ?_
      refine lM_14 hx hb hK hP (iv_in h_pp (by decide) (by decide)) dX12_pace_59 (fun v_69 ev_69 => ?_)
      obtain rfl : v_64 = v_69 := ev_64.trans ev_69.symm
      refine lv_bipush (v := 40) hx hb dX12_pace_60 (by decide) ?_
      refine lv_isub hx hb dX12_pace_62 ?_
      refine lv_topi (fun v_70 ev_70 => ?_)
      have t_71 : v_70.toInt = v_64.toInt - 40 ∧ 1 ≤ v_70.toInt ∧ v_70.toInt ≤ 59 := iv_subc ev_70 i_68 (by decide) (by decide) (by decide)
      refine lv_bipush (v := 10) hx hb dX12_pace_63 (by decide) ?_
      refine lv_idiv hx hb dX12_pace_65 (by decide) ?_
      refine lv_topi (fun v_73 ev_73 => ?_)
      have t_74 : v_73.toInt = v_70.toInt / 10 ∧ 0 ≤ v_73.toInt ∧ v_73.toInt ≤ 5 := mo_dv10 ev_73 (iv_w t_71.2 (by decide) (Int.le_refl _)) (by decide)
      refine lv_iadd hx hb dX12_pace_66 ?_
      refine lv_topi (fun v_76 ev_76 => ?_)
      have t_77 : v_76.toInt = v_61.toInt + v_73.toInt ∧ 27 ≤ v_76.toInt ∧ v_76.toInt ≤ 41 := iv_add ev_76 t_62.2 t_74.2 (by decide) (by decide)
      refine lv_goto (tgt := 71) hx hb dX12_pace_67 (by decide) ?_
      exact W.iret (v := v_76) hx hb hr (fun t ht hW => ⟨⟨v_76, (fv_5, wd_6, ar_7), rfl, ⟨hF_fv_5, hA_ar_7, (fM_call (fM_rf [] _) fr_8 (by decide)), (fA_call (fA_rf [] _) fa_9 (by decide)), (iv_w t_77.2 (by decide) (by decide)), (show v_76.toInt = mo_pc (mm_D w9 fv ar) (ar 15 (pp.toInt.toNat)) (pp.toInt.toNat) from by show _ = mo_pace (ar 14 (pp.toInt.toNat)).toInt (ar 15 (pp.toInt.toNat)).toInt (mm_rn fv ar).toInt; rw [show ar 14 (pp.toInt.toNat) = v_64 from ((show v_64 = ar 14 (pp.toInt.toNat) from by rw [ev_64, show ar_7 14 = ar 14 from ((fA_call (fA_rf [] _) fa_9 (by decide)) 14 rfl)]; exact congrArg (ar 14) (show pp.toInt.toNat = (pp.toInt.toNat) from by omega))).symm, show ar 15 (pp.toInt.toNat) = v_15 from ((show v_15 = ar 15 (pp.toInt.toNat) from by rw [ev_15, show ar_7 15 = ar 15 from ((fA_call (fA_rf [] _) fa_9 (by decide)) 15 rfl)]; exact congrArg (ar 15) (show pp.toInt.toNat = (pp.toInt.toNat) from by omega))).symm, ← rn_10]; unfold mo_pace; (repeat' split) <;> omega), trivial⟩, ⟨by rw [ht]; exact hP, va_K.moved hW.alike hK⟩⟩, hS.F ht⟩) hS.2.2 dX12_pace_71
set_option maxHeartbeats 4000000 in
set_option maxRecDepth 100000 in
theorem m_walkE (l : Launch) (dC : Nat → ClassId) (dI : Nat → Nat → Nat) (sz h : Nat) (ad : Nat → Nat) (cA : Nat → ClassId) (hd : dM h ad) (fv : Nat → Int32) (wd : Int64) (ar : Nat → Nat → Int32) (hF_fv : rF fv) (hA_ar : rA ar) (G9 : Nat → Int) (w9 : Nat → Int32) (pp : Int32) (a : Int32) (b : Int32) (h_pp : 0 ≤ pp.toInt ∧ pp.toInt ≤ 39) (h_a : 0 ≤ a.toInt ∧ a.toInt ≤ 11) (h_b : 0 ≤ b.toInt ∧ b.toInt ≤ 11) (hp_nR : mm_R G9 fv ar) (hp_mF : wt_fm G9 (fv 8) (ar 4)) : Met l yX12_walk (.code yX12_walk cX12_walk 4 (some .int) :: lw_good) ({ frames := 4, cells := 0, slots := 0, locals := 83 }) (va_Pc [.ref h, .int pp, .int a, .int b] (prM dC dI h ad cA fv wd ar sz)) (va_Qi (fun (r : Int32) (u : mS) => rF u.1 ∧ rA u.2.2 ∧ fM [8] fv u.1 ∧ fA [4] ar u.2.2 ∧ (0 ≤ r.toInt ∧ r.toInt ≤ 600000) ∧ (mm_w G9 (mo_pc (mm_D w9 fv ar) (ar 15 (pp.toInt.toNat)) (pp.toInt.toNat)) a.toInt.toNat b.toInt.toNat r.toInt) ∧ (wt_fm G9 (u.1 8) (u.2.2 4)) ∧ True) (enM dC dI h ad cA) (aM h ad sz)) 0 0 (aM h ad sz) := by
  refine Met.ofW (cc := cX12_walk) (maxL := 4) (ret := (some .int)) (by decide) rfl ?_
  intro p e s m args below meth c s₁ B hml hv
  obtain ⟨rfl, hsz, hP, hK⟩ := hv
  have hx := B.exec
  have hb := B.bytes
  have hr := B.returns
  have hts := atoms_spec (ws := (.code yX12_walk cX12_walk 4 (some .int) :: lw_good)) B.pre
  have htg : ∀ w ∈ lw_good, w.before _ s = true := fun w hw => hts w (List.mem_cons_of_mem _ hw)
  have hown : s.vm.findClass RX12 = some m.cls := findClass_of_methodNamed B.named
  have hlocks := B.notSynchronized
  subst hsz
  have hS : va_S (aM h ad s.heap.size) s.heap s.heap [] := va_S.rf
  have hl := lv_entry ([.ref h, .int pp, .int a, .int b]) (n := 4) (Nat.le_of_ble_eq_true rfl)
  rw [lg_entry_eq]
  generalize (lg_sl ([.ref h, .int pp, .int a, .int b]) ++ List.replicate (4 - (lg_sl ([.ref h, .int pp, .int a, .int b])).length) Slot.unset).toArray = ls at hl ⊢
  have hl : lv_has ls 4 [(0, .ref h), (1, .int pp), (2, .int a), (3, .int b)] := hl
  refine lv_aload_n hx hb dX12_walk_0 rfl (lv_at hl 0 rfl) ?_
  refine lv_iload_n hx hb dX12_walk_1 rfl (lv_at hl 2 rfl) ?_
  refine lv_iload_n hx hb dX12_walk_2 rfl (lv_at hl 3 rfl) ?_
  refine va_calli (va_runV (As := [.int a, .int b]) (rest := []) ⟨hx, hb, hml, hown, hts⟩ (m_farOf l dC dI s.heap.size h ad cA hd fv wd ar hF_fv hA_ar G9 a b h_a h_b hp_mF) (cwV 2 hts (gV kw_7_237 kw_7_239 kw_p_59 kw_1_15 kw_8_0) rfl rfl rfl (by decide +kernel) ⟨Nat.le_of_ble_eq_true rfl, Nat.le_of_ble_eq_true rfl⟩) ⟨fun a U g mk q => ⟨q.1, q.2.1, q.2.2.1, va_K.moved (u := U) (U := U.calling g mk a) (Vm.Alike.refl U.vm) q.2.2.2⟩, va_recv hK hP (ci := 12) (q0 := 0) rfl rfl, fun U hU hW => ⟨rfl, by rw [hU], by rw [hU]; exact hP, va_K.moved hW.alike hK⟩⟩ rfl rfl hl.1 rfl (lv_room (Nat.le_of_ble_eq_true rfl)) dX12_walk_3 ⟨Nat.le_of_ble_eq_true rfl, Nat.le_of_ble_eq_true rfl⟩) hS (fun q _ h9 => aM_up hS q h9) (aM_up hS) (fun r_1 u t H1 locs ht _ hw hB _ hk1 hS => ?_)
  obtain ⟨fv_5, wd_6, ar_7⟩ := u
  obtain ⟨hF_fv_5, hA_ar_7, fr_8, fa_9, p_2, p_3, p_4, -⟩ := hw
  have hP : va_P (dC, dI) vwCl (wsM h ad cA fv_5 wd_6 ar_7) H1 := by have h9 := hB.1; rw [ht] at h9; exact h9
  have fr_8 : fM [8] fv fv_5 := fr_8
  have fa_9 : fA [4] ar ar_7 := fa_9
  have p_4 : wt_fm G9 (fv_5 8) (ar_7 4) := p_4
  have p_3 : wt_rl (G9 (12 * a.toInt.toNat + b.toInt.toNat)) r_1.toInt := p_3
  generalize H1 = H at hP hS ⊢
  refine lv_aload_n hx hb dX12_walk_6 rfl (lv_at hl 0 rfl) ?_
  refine lv_iload_n hx hb dX12_walk_7 rfl (lv_at hl 1 rfl) ?_
  refine va_calli (va_runV (As := [.int pp]) (rest := [.int r_1]) ⟨hx, hb, hml, hown, hts⟩ (m_paceE l dC dI H.size h ad cA hd fv_5 wd_6 ar_7 hF_fv_5 hA_ar_7 G9 w9 pp h_pp (mm_R_fr hp_nR (fM_call (fM_rf [8] _) fr_8 (by decide)) (fA_call (fA_rf [4] _) fa_9 (by decide)) rfl rfl rfl rfl rfl rfl rfl rfl rfl rfl rfl)) (cwV 1 hts (gV kw_8_212 kw_8_214 kw_p_93 kw_1_15 kw_8_215) rfl rfl rfl (by decide +kernel) ⟨Nat.le_of_ble_eq_true rfl, Nat.le_of_ble_eq_true rfl⟩) ⟨fun a U g mk q => ⟨q.1, q.2.1, q.2.2.1, va_K.moved (u := U) (U := U.calling g mk a) (Vm.Alike.refl U.vm) q.2.2.2⟩, va_recv hK hP (ci := 12) (q0 := 0) rfl rfl, fun U hU hW => ⟨rfl, by rw [hU], by rw [hU]; exact hP, va_K.moved hW.alike hK⟩⟩ rfl rfl hl.1 rfl (lv_room (Nat.le_of_ble_eq_true rfl)) dX12_walk_8 ⟨Nat.le_of_ble_eq_true rfl, Nat.le_of_ble_eq_true rfl⟩) hS (fun q _ h9 => aM_up hS q h9) (aM_up hS) (fun r_10 u t H1 locs ht _ hw hB _ hk1 hS => ?_)
  obtain ⟨fv_13, wd_14, ar_15⟩ := u
  obtain ⟨hF_fv_13, hA_ar_15, fr_16, fa_17, p_11, p_12, -⟩ := hw
  have hP : va_P (dC, dI) vwCl (wsM h ad cA fv_13 wd_14 ar_15) H1 := by have h9 := hB.1; rw [ht] at h9; exact h9
  have fr_16 : fM [] fv_5 fv_13 := fr_16
  have fa_17 : fA [] ar_7 ar_15 := fa_17
  have p_12 : r_10.toInt = mo_pc (mm_D w9 fv_5 ar_7) (ar_7 15 (pp.toInt.toNat)) (pp.toInt.toNat) := p_12
  generalize H1 = H at hP hS ⊢
  have pc_18 : r_10.toInt = mo_pc (mm_D w9 fv ar) (ar 15 (pp.toInt.toNat)) (pp.toInt.toNat) := (by have h9 := p_12; rw [show mm_D w9 fv_5 ar_7 = mm_D w9 fv ar from (mm_D_fr (fM_call (fM_rf [8] _) fr_8 (by decide)) (fA_call (fA_rf [4] _) fa_9 (by decide)) rfl rfl), show ar_7 15 = ar 15 from ((fA_call (fA_rf [4] _) fa_9 (by decide)) 15 rfl)] at h9; exact h9)
  refine lv_imul hx hb dX12_walk_11 ?_
  refine lv_topi (fun v_19 ev_19 => ?_)
  have t_20 : v_19.toInt = r_1.toInt * r_10.toInt ∧ 0 ≤ v_19.toInt ∧ v_19.toInt ≤ 5000000 := mm_mul ev_19 p_2 p_11
  refine lv_bipush (v := 9) hx hb dX12_walk_12 (by decide) ?_
  refine lv_iadd hx hb dX12_walk_14 ?_
  refine lv_topi (fun v_22 ev_22 => ?_)
  have t_23 : v_22.toInt = v_19.toInt + 9 ∧ 9 ≤ v_22.toInt ∧ v_22.toInt ≤ 5000009 := iv_addc ev_22 t_20.2 (by decide) (by decide) (by decide)
  refine lv_bipush (v := 10) hx hb dX12_walk_15 (by decide) ?_
  refine lv_idiv hx hb dX12_walk_17 (by decide) ?_
  refine lv_topi (fun v_25 ev_25 => ?_)
  have t_26 : v_25.toInt = v_22.toInt / 10 ∧ 0 ≤ v_25.toInt ∧ v_25.toInt ≤ 500000 := mo_dv10 ev_25 (iv_w t_23.2 (by decide) (Int.le_refl _)) (by decide)
  exact W.iret (v := v_25) hx hb hr (fun t ht hW => ⟨⟨v_25, (fv_13, wd_14, ar_15), rfl, ⟨hF_fv_13, hA_ar_15, (fM_call (fM_call (fM_rf [8] _) fr_8 (by decide)) fr_16 (by decide)), (fA_call (fA_call (fA_rf [4] _) fa_9 (by decide)) fa_17 (by decide)), (iv_w t_26.2 (by decide) (by decide)), (show mm_w G9 (mo_pc (mm_D w9 fv ar) (ar 15 (pp.toInt.toNat)) (pp.toInt.toNat)) a.toInt.toNat b.toInt.toNat v_25.toInt from by rw [← pc_18]; exact mm_wI p_11 p_3 (by omega)), (mF_fr p_4 (fM_call (fM_rf [] _) fr_16 (by decide)) (fA_call (fA_rf [] _) fa_17 (by decide)) rfl rfl), trivial⟩, ⟨by rw [ht]; exact hP, va_K.moved hW.alike hK⟩⟩, hS.F ht⟩) hS.2.2 dX12_walk_18
set_option maxHeartbeats 4000000 in
set_option maxRecDepth 100000 in
theorem m_tripFarE (l : Launch) (dC : Nat → ClassId) (dI : Nat → Nat → Nat) (sz h : Nat) (ad : Nat → Nat) (cA : Nat → ClassId) (hd : dM h ad) (fv : Nat → Int32) (wd : Int64) (ar : Nat → Nat → Int32) (hF_fv : rF fv) (hA_ar : rA ar) (G9 : Nat → Int) (w9 : Nat → Int32) (kk : Int32) (h_kk : 0 ≤ kk.toInt ∧ kk.toInt ≤ 79) (hp_nR : mm_R G9 fv ar) (hp_mF : wt_fm G9 (fv 8) (ar 4)) : Met l yX12_tripFar (.code yX12_tripFar cX12_tripFar 2 (some .int) :: lw_good) ({ frames := 4, cells := 0, slots := 0, locals := 83 }) (va_Pc [.ref h, .int kk] (prM dC dI h ad cA fv wd ar sz)) (va_Qi (fun (r : Int32) (u : mS) => rF u.1 ∧ rA u.2.2 ∧ fM [8] fv u.1 ∧ fA [4] ar u.2.2 ∧ (0 ≤ r.toInt ∧ r.toInt ≤ 100000) ∧ (wt_rl (mo_ln (mm_D w9 fv ar) G9 (kk.toInt.toNat)) r.toInt) ∧ (wt_fm G9 (u.1 8) (u.2.2 4)) ∧ True) (enM dC dI h ad cA) (aM h ad sz)) 0 0 (aM h ad sz) := by
  refine Met.ofW (cc := cX12_tripFar) (maxL := 2) (ret := (some .int)) (by decide) rfl ?_
  intro p e s m args below meth c s₁ B hml hv
  obtain ⟨rfl, hsz, hP, hK⟩ := hv
  have hx := B.exec
  have hb := B.bytes
  have hr := B.returns
  have hts := atoms_spec (ws := (.code yX12_tripFar cX12_tripFar 2 (some .int) :: lw_good)) B.pre
  have htg : ∀ w ∈ lw_good, w.before _ s = true := fun w hw => hts w (List.mem_cons_of_mem _ hw)
  have hown : s.vm.findClass RX12 = some m.cls := findClass_of_methodNamed B.named
  have hlocks := B.notSynchronized
  subst hsz
  have hS : va_S (aM h ad s.heap.size) s.heap s.heap [] := va_S.rf
  have hl := lv_entry ([.ref h, .int kk]) (n := 2) (Nat.le_of_ble_eq_true rfl)
  rw [lg_entry_eq]
  generalize (lg_sl ([.ref h, .int kk]) ++ List.replicate (2 - (lg_sl ([.ref h, .int kk])).length) Slot.unset).toArray = ls at hl ⊢
  have hl : lv_has ls 2 [(0, .ref h), (1, .int kk)] := hl
  refine lv_aload_n hx hb dX12_tripFar_0 rfl (lv_at hl 0 rfl) ?_
  refine lv_aload_n hx hb dX12_tripFar_1 rfl (lv_at hl 0 rfl) ?_
  refine gM_19 hx hb htg hown hK hP dX12_tripFar_2 ?_
  refine lv_aload_n hx hb dX12_tripFar_5 rfl (lv_at hl 0 rfl) ?_
  refine gM_26 hx hb htg hown hK hP dX12_tripFar_6 ?_
  refine lv_iload_n hx hb dX12_tripFar_9 rfl (lv_at hl 1 rfl) ?_
  refine lM_26 hx hb hK hP (iv_in h_kk (by decide) (by decide)) dX12_tripFar_10 (fun v_1 ev_1 => ?_)
  have i_2 : 0 ≤ v_1.toInt ∧ v_1.toInt ≤ 7 := ev_1 ▸ hA_ar 26 _
  refine lM_19 hx hb hK hP (iv_in i_2 (by decide) (by decide)) dX12_tripFar_11 (fun v_3 ev_3 => ?_)
  have i_4 : 0 ≤ v_3.toInt ∧ v_3.toInt ≤ 11 := ev_3 ▸ hA_ar 19 _
  refine lv_aload_n hx hb dX12_tripFar_12 rfl (lv_at hl 0 rfl) ?_
  refine gM_19 hx hb htg hown hK hP dX12_tripFar_13 ?_
  refine lv_aload_n hx hb dX12_tripFar_16 rfl (lv_at hl 0 rfl) ?_
  refine gM_27 hx hb htg hown hK hP dX12_tripFar_17 ?_
  refine lv_iload_n hx hb dX12_tripFar_20 rfl (lv_at hl 1 rfl) ?_
  refine lM_27 hx hb hK hP (iv_in h_kk (by decide) (by decide)) dX12_tripFar_21 (fun v_5 ev_5 => ?_)
  have i_6 : 0 ≤ v_5.toInt ∧ v_5.toInt ≤ 7 := ev_5 ▸ hA_ar 27 _
  refine lM_19 hx hb hK hP (iv_in i_6 (by decide) (by decide)) dX12_tripFar_22 (fun v_7 ev_7 => ?_)
  have i_8 : 0 ≤ v_7.toInt ∧ v_7.toInt ≤ 11 := ev_7 ▸ hA_ar 19 _
  refine va_calli (va_runV (As := [.int v_3, .int v_7]) (rest := []) ⟨hx, hb, hml, hown, hts⟩ (m_farOf l dC dI s.heap.size h ad cA hd fv wd ar hF_fv hA_ar G9 v_3 v_7 i_4 i_8 hp_mF) (cwV 2 hts (gV kw_7_237 kw_7_239 kw_p_59 kw_1_15 kw_8_0) rfl rfl rfl (by decide +kernel) ⟨Nat.le_of_ble_eq_true rfl, Nat.le_of_ble_eq_true rfl⟩) ⟨fun a U g mk q => ⟨q.1, q.2.1, q.2.2.1, va_K.moved (u := U) (U := U.calling g mk a) (Vm.Alike.refl U.vm) q.2.2.2⟩, va_recv hK hP (ci := 12) (q0 := 0) rfl rfl, fun U hU hW => ⟨rfl, by rw [hU], by rw [hU]; exact hP, va_K.moved hW.alike hK⟩⟩ rfl rfl hl.1 rfl (lv_room (Nat.le_of_ble_eq_true rfl)) dX12_tripFar_23 ⟨Nat.le_of_ble_eq_true rfl, Nat.le_of_ble_eq_true rfl⟩) hS (fun q _ h9 => aM_up hS q h9) (aM_up hS) (fun r_9 u t H1 locs ht _ hw hB _ hk1 hS => ?_)
  obtain ⟨fv_13, wd_14, ar_15⟩ := u
  obtain ⟨hF_fv_13, hA_ar_15, fr_16, fa_17, p_10, p_11, p_12, -⟩ := hw
  have hP : va_P (dC, dI) vwCl (wsM h ad cA fv_13 wd_14 ar_15) H1 := by have h9 := hB.1; rw [ht] at h9; exact h9
  have fr_16 : fM [8] fv fv_13 := fr_16
  have fa_17 : fA [4] ar ar_15 := fa_17
  have p_12 : wt_fm G9 (fv_13 8) (ar_15 4) := p_12
  have p_11 : wt_rl (G9 (12 * v_3.toInt.toNat + v_7.toInt.toNat)) r_9.toInt := p_11
  generalize H1 = H at hP hS ⊢
  exact W.iret (v := r_9) hx hb hr (fun t ht hW => ⟨⟨r_9, (fv_13, wd_14, ar_15), rfl, ⟨hF_fv_13, hA_ar_15, (fM_call (fM_rf [8] _) fr_16 (by decide)), (fA_call (fA_rf [4] _) fa_17 (by decide)), p_10, (show wt_rl (mo_ln (mm_D w9 fv ar) G9 (kk.toInt.toNat)) r_9.toInt from by have hc1 : mo_cf (mm_D w9 fv ar) (kk.toInt.toNat) = v_3.toInt.toNat := (by show (ar 19 (ar 26 (kk.toInt.toNat)).toInt.toNat).toInt.toNat = _; rw [show ar 26 (kk.toInt.toNat) = v_1 from ((show v_1 = ar 26 (kk.toInt.toNat) from by rw [ev_1]; exact congrArg (ar 26) (show kk.toInt.toNat = (kk.toInt.toNat) from by omega))).symm, show ar 19 (v_1.toInt.toNat) = v_3 from ((show v_3 = ar 19 (v_1.toInt.toNat) from by rw [ev_3]; exact congrArg (ar 19) (show v_1.toInt.toNat = (v_1.toInt.toNat) from by omega))).symm]); have hc2 : mo_ct (mm_D w9 fv ar) (kk.toInt.toNat) = v_7.toInt.toNat := (by show (ar 19 (ar 27 (kk.toInt.toNat)).toInt.toNat).toInt.toNat = _; rw [show ar 27 (kk.toInt.toNat) = v_5 from ((show v_5 = ar 27 (kk.toInt.toNat) from by rw [ev_5]; exact congrArg (ar 27) (show kk.toInt.toNat = (kk.toInt.toNat) from by omega))).symm, show ar 19 (v_5.toInt.toNat) = v_7 from ((show v_7 = ar 19 (v_5.toInt.toNat) from by rw [ev_7]; exact congrArg (ar 19) (show v_5.toInt.toNat = (v_5.toInt.toNat) from by omega))).symm]); unfold mo_ln; rw [hc1, hc2]; exact p_11), p_12, trivial⟩, ⟨by rw [ht]; exact hP, va_K.moved hW.alike hK⟩⟩, hS.F ht⟩) hS.2.2 dX12_tripFar_26
set_option maxHeartbeats 4000000 in
set_option maxRecDepth 100000 in
theorem m_driveE (l : Launch) (dC : Nat → ClassId) (dI : Nat → Nat → Nat) (sz h : Nat) (ad : Nat → Nat) (cA : Nat → ClassId) (hd : dM h ad) (fv : Nat → Int32) (wd : Int64) (ar : Nat → Nat → Int32) (hF_fv : rF fv) (hA_ar : rA ar) (G9 : Nat → Int) (w9 : Nat → Int32) (kk : Int32) (h_kk : 0 ≤ kk.toInt ∧ kk.toInt ≤ 79) (hp_nR : mm_R G9 fv ar) (hp_mF : wt_fm G9 (fv 8) (ar 4)) : Met l yX12_drive (.code yX12_drive cX12_drive 5 (some .int) :: lw_good) ({ frames := 5, cells := 0, slots := 0, locals := 104 }) (va_Pc [.ref h, .int kk] (prM dC dI h ad cA fv wd ar sz)) (va_Qi (fun (r : Int32) (u : mS) => rF u.1 ∧ rA u.2.2 ∧ fM [8] fv u.1 ∧ fA [4] ar u.2.2 ∧ (1 ≤ r.toInt ∧ r.toInt ≤ 50000) ∧ (mo_ln (mm_D w9 fv ar) G9 (kk.toInt.toNat) < 10000000 → r.toInt = mo_dr (mm_D w9 fv ar) G9 (kk.toInt.toNat)) ∧ (wt_fm G9 (u.1 8) (u.2.2 4)) ∧ True) (enM dC dI h ad cA) (aM h ad sz)) 0 0 (aM h ad sz) := by
  refine Met.ofW (cc := cX12_drive) (maxL := 5) (ret := (some .int)) (by decide) rfl ?_
  intro p e s m args below meth c s₁ B hml hv
  obtain ⟨rfl, hsz, hP, hK⟩ := hv
  have hx := B.exec
  have hb := B.bytes
  have hr := B.returns
  have hts := atoms_spec (ws := (.code yX12_drive cX12_drive 5 (some .int) :: lw_good)) B.pre
  have htg : ∀ w ∈ lw_good, w.before _ s = true := fun w hw => hts w (List.mem_cons_of_mem _ hw)
  have hown : s.vm.findClass RX12 = some m.cls := findClass_of_methodNamed B.named
  have hlocks := B.notSynchronized
  subst hsz
  have hS : va_S (aM h ad s.heap.size) s.heap s.heap [] := va_S.rf
  have hl := lv_entry ([.ref h, .int kk]) (n := 5) (Nat.le_of_ble_eq_true rfl)
  rw [lg_entry_eq]
  generalize (lg_sl ([.ref h, .int kk]) ++ List.replicate (5 - (lg_sl ([.ref h, .int kk])).length) Slot.unset).toArray = ls at hl ⊢
  have hl : lv_has ls 5 [(0, .ref h), (1, .int kk)] := hl
  refine lv_aload_n hx hb dX12_drive_0 rfl (lv_at hl 0 rfl) ?_
  refine gM_25 hx hb htg hown hK hP dX12_drive_1 ?_
  refine lv_iload_n hx hb dX12_drive_4 rfl (lv_at hl 1 rfl) ?_
  refine lM_25 hx hb hK hP (iv_in h_kk (by decide) (by decide)) dX12_drive_5 (fun v_1 ev_1 => ?_)
  have i_2 : 0 ≤ v_1.toInt ∧ v_1.toInt ≤ 19 := ev_1 ▸ hA_ar 25 _
  refine lv_istore_n (lv' := [(2, .int v_1), (0, .ref h), (1, .int kk)]) hx hb dX12_drive_6 rfl hl (by decide) rfl (fun ls hl => ?_)
  refine lv_aload_n hx hb dX12_drive_7 rfl (lv_at hl 1 rfl) ?_
  refine gM_20 hx hb htg hown hK hP dX12_drive_8 ?_
  refine lv_iload_n hx hb dX12_drive_11 rfl (lv_at hl 0 rfl) ?_
  refine lM_20 hx hb hK hP (iv_in i_2 (by decide) (by decide)) dX12_drive_12 (fun v_3 ev_3 => ?_)
  refine lv_iconst (v := 1) hx hb dX12_drive_13 (by decide) ?_
  refine lv_icmp_ne (tgt := 21) hx hb dX12_drive_14 (by decide) (fun c_4 => ?_) (fun c_4 => ?_)
  · skip
    have k_5 : ¬ v_3.toInt = 1 := fun q => c_4 (Int32.toInt_inj.mp q)
    refine lv_iconst (v := 3) hx hb dX12_drive_21 (by decide) ?_
    refine lv_istore_n (lv' := [(3, .int 3), (2, .int v_1), (0, .ref h), (1, .int kk)]) hx hb dX12_drive_22 rfl hl (by decide) rfl (fun ls hl => ?_)
    refine lv_aload_n hx hb dX12_drive_23 rfl (lv_at hl 2 rfl) ?_
    refine gM_20 hx hb htg hown hK hP dX12_drive_24 ?_
    refine lv_iload_n hx hb dX12_drive_27 rfl (lv_at hl 1 rfl) ?_
    refine lM_20 hx hb hK hP (iv_in i_2 (by decide) (by decide)) dX12_drive_28 (fun v_6 ev_6 => ?_)
    obtain rfl : v_3 = v_6 := ev_3.trans ev_6.symm
    refine lv_iconst (v := 2) hx hb dX12_drive_29 (by decide) ?_
    refine lv_icmp_eq (tgt := 48) hx hb dX12_drive_30 (by decide) (fun c_7 => ?_) (fun c_7 => ?_)
    · skip
      have i_8 : 2 ≤ v_3.toInt ∧ v_3.toInt ≤ 2 := iv_eq1 (⟨by decide, by decide⟩ : (2 : Int) ≤ (2 : Int32).toInt ∧ (2 : Int32).toInt ≤ 2) c_7
      refine lv_aload_n hx hb dX12_drive_48 rfl (lv_at hl 2 rfl) ?_
      refine lv_iload_n hx hb dX12_drive_49 rfl (lv_at hl 3 rfl) ?_
      refine va_calli (va_runV (As := [.int kk]) (rest := []) ⟨hx, hb, hml, hown, hts⟩ (m_tripFarE l dC dI s.heap.size h ad cA hd fv wd ar hF_fv hA_ar G9 w9 kk h_kk hp_nR hp_mF) (cwV 1 hts (gV kw_8_200 kw_8_202 kw_p_90 kw_1_15 kw_8_203) rfl rfl rfl (by decide +kernel) ⟨Nat.le_of_ble_eq_true rfl, Nat.le_of_ble_eq_true rfl⟩) ⟨fun a U g mk q => ⟨q.1, q.2.1, q.2.2.1, va_K.moved (u := U) (U := U.calling g mk a) (Vm.Alike.refl U.vm) q.2.2.2⟩, va_recv hK hP (ci := 12) (q0 := 0) rfl rfl, fun U hU hW => ⟨rfl, by rw [hU], by rw [hU]; exact hP, va_K.moved hW.alike hK⟩⟩ rfl rfl hl.1 rfl (lv_room (Nat.le_of_ble_eq_true rfl)) dX12_drive_50 ⟨Nat.le_of_ble_eq_true rfl, Nat.le_of_ble_eq_true rfl⟩) hS (fun q _ h9 => aM_up hS q h9) (aM_up hS) (fun r_10 u t H1 locs ht _ hw hB _ hk1 hS => ?_)
      obtain ⟨fv_14, wd_15, ar_16⟩ := u
      obtain ⟨hF_fv_14, hA_ar_16, fr_17, fa_18, p_11, p_12, p_13, -⟩ := hw
      have hP : va_P (dC, dI) vwCl (wsM h ad cA fv_14 wd_15 ar_16) H1 := by have h9 := hB.1; rw [ht] at h9; exact h9
      have fr_17 : fM [8] fv fv_14 := fr_17
      have fa_18 : fA [4] ar ar_16 := fa_18
      have p_13 : wt_fm G9 (fv_14 8) (ar_16 4) := p_13
      have p_12 : wt_rl (mo_ln (mm_D w9 fv ar) G9 (kk.toInt.toNat)) r_10.toInt := p_12
      generalize H1 = H at hP hS ⊢
      have ln_19 : wt_rl (mo_ln (mm_D w9 fv ar) G9 (kk.toInt.toNat)) r_10.toInt := (by have h9 := p_12; exact h9)
      refine lv_iload_n hx hb dX12_drive_53 rfl (lv_at hl 0 rfl) ?_
      refine lv_imul hx hb dX12_drive_54 ?_
      refine lv_topi (fun v_20 ev_20 => ?_)
      have t_21 : v_20.toInt = 3 * r_10.toInt ∧ 0 ≤ v_20.toInt ∧ v_20.toInt ≤ 300000 := iv_mulr ev_20 p_11 (by decide) (by decide) (by decide) (by decide)
      refine lv_bipush (v := 9) hx hb dX12_drive_55 (by decide) ?_
      refine lv_iadd hx hb dX12_drive_57 ?_
      refine lv_topi (fun v_23 ev_23 => ?_)
      have t_24 : v_23.toInt = v_20.toInt + 9 ∧ 9 ≤ v_23.toInt ∧ v_23.toInt ≤ 300009 := iv_addc ev_23 t_21.2 (by decide) (by decide) (by decide)
      refine lv_bipush (v := 10) hx hb dX12_drive_58 (by decide) ?_
      refine lv_idiv hx hb dX12_drive_60 (by decide) ?_
      refine lv_topi (fun v_26 ev_26 => ?_)
      have t_27 : v_26.toInt = v_23.toInt / 10 ∧ 0 ≤ v_26.toInt ∧ v_26.toInt ≤ 30000 := mo_dv10 ev_26 (iv_w t_24.2 (by decide) (Int.le_refl _)) (by decide)
      refine lv_istore (lv' := [(4, .int v_26), (3, .int 3), (2, .int v_1), (0, .ref h), (1, .int kk)]) hx hb dX12_drive_61 hl (by decide) rfl (fun ls hl => ?_)
      refine lv_iload hx hb dX12_drive_63 (lv_at hl 0 rfl) ?_
      refine lv_iconst (v := 1) hx hb dX12_drive_65 (by decide) ?_
      refine lv_icmp_ge (tgt := 73) hx hb dX12_drive_66 (by decide) (fun c_29 => ?_) (fun c_29 => ?_)
      · skip
        have i_30 : 1 ≤ v_26.toInt ∧ v_26.toInt ≤ 30000 := iv_le2 (⟨by decide, by decide⟩ : (1 : Int) ≤ (1 : Int32).toInt ∧ (1 : Int32).toInt ≤ 1) t_27.2 c_29
        refine lv_iload hx hb dX12_drive_73 (lv_at hl 0 rfl) ?_
        exact W.iret (v := v_26) hx hb hr (fun t ht hW => ⟨⟨v_26, (fv_14, wd_15, ar_16), rfl, ⟨hF_fv_14, hA_ar_16, (fM_call (fM_rf [8] _) fr_17 (by decide)), (fA_call (fA_rf [4] _) fa_18 (by decide)), (iv_w i_30 (by decide) (by decide)), (show mo_ln (mm_D w9 fv ar) G9 (kk.toInt.toNat) < 10000000 → v_26.toInt = mo_dr (mm_D w9 fv ar) G9 (kk.toInt.toNat) from mm_drI (show mo_dp (mm_rn fv ar).toInt (ar 20 ((ar 25 (kk.toInt.toNat)).toInt.toNat)).toInt = 3 from by rw [show ar 25 (kk.toInt.toNat) = v_1 from ((show v_1 = ar 25 (kk.toInt.toNat) from by rw [ev_1]; exact congrArg (ar 25) (show kk.toInt.toNat = (kk.toInt.toNat) from by omega))).symm, show ar 20 (v_1.toInt.toNat) = v_3 from ((show v_3 = ar 20 (v_1.toInt.toNat) from by rw [ev_3]; exact congrArg (ar 20) (show v_1.toInt.toNat = (v_1.toInt.toNat) from by omega))).symm]; unfold mo_dp; (repeat' split) <;> omega) ln_19 (by (repeat' split) <;> omega)), p_13, trivial⟩, ⟨by rw [ht]; exact hP, va_K.moved hW.alike hK⟩⟩, hS.F ht⟩) hS.2.2 dX12_drive_75
      · skip
        have i_31 : 0 ≤ v_26.toInt ∧ v_26.toInt ≤ 0 := iv_lt1 t_27.2 (⟨by decide, by decide⟩ : (1 : Int) ≤ (1 : Int32).toInt ∧ (1 : Int32).toInt ≤ 1) (Int32.not_le.mp c_29)
        refine lv_iconst (v := 1) hx hb dX12_drive_69 (by decide) ?_
        refine lv_goto (tgt := 75) hx hb dX12_drive_70 (by decide) ?_
        have z_32 : (1 : Int32).toInt = 1 := by decide
        exact W.iret (v := 1) hx hb hr (fun t ht hW => ⟨⟨1, (fv_14, wd_15, ar_16), rfl, ⟨hF_fv_14, hA_ar_16, (fM_call (fM_rf [8] _) fr_17 (by decide)), (fA_call (fA_rf [4] _) fa_18 (by decide)), (iv_w (⟨by decide, by decide⟩ : (1 : Int) ≤ (1 : Int32).toInt ∧ (1 : Int32).toInt ≤ 1) (by decide) (by decide)), (show mo_ln (mm_D w9 fv ar) G9 (kk.toInt.toNat) < 10000000 → (1 : Int32).toInt = mo_dr (mm_D w9 fv ar) G9 (kk.toInt.toNat) from mm_drI (show mo_dp (mm_rn fv ar).toInt (ar 20 ((ar 25 (kk.toInt.toNat)).toInt.toNat)).toInt = 3 from by rw [show ar 25 (kk.toInt.toNat) = v_1 from ((show v_1 = ar 25 (kk.toInt.toNat) from by rw [ev_1]; exact congrArg (ar 25) (show kk.toInt.toNat = (kk.toInt.toNat) from by omega))).symm, show ar 20 (v_1.toInt.toNat) = v_3 from ((show v_3 = ar 20 (v_1.toInt.toNat) from by rw [ev_3]; exact congrArg (ar 20) (show v_1.toInt.toNat = (v_1.toInt.toNat) from by omega))).symm]; unfold mo_dp; (repeat' split) <;> omega) ln_19 (by (repeat' split) <;> omega)), p_13, trivial⟩, ⟨by rw [ht]; exact hP, va_K.moved hW.alike hK⟩⟩, hS.F ht⟩) hS.2.2 dX12_drive_75
    · skip
      have k_33 : ¬ v_3.toInt = 2 := fun q => c_7 (Int32.toInt_inj.mp q)
      refine lv_aload_n hx hb dX12_drive_33 rfl (lv_at hl 2 rfl) ?_
      refine lv_aload_n hx hb dX12_drive_34 rfl (lv_at hl 2 rfl) ?_
      refine gM_3 hx hb htg hown hK hP dX12_drive_35 ?_
      have i_34 : 0 ≤ (fv 3).toInt ∧ (fv 3).toInt ≤ 199 := hF_fv 3
      have z_35 : 0 ≤ (fv 7).toInt ∧ (fv 7).toInt ≤ 200 := hF_fv 7
      refine va_calli (va_runV (As := [.int (fv 3)]) (rest := []) ⟨hx, hb, hml, hown, hts⟩ (m_rainOfC l dC dI s.heap.size h ad cA hd fv wd ar hF_fv hA_ar (fv 3) i_34) (cwV 1 hts (gV kw_8_16 kw_8_18 kw_p_61 kw_1_15 kw_8_19) rfl rfl rfl (by decide +kernel) ⟨Nat.le_of_ble_eq_true rfl, Nat.le_of_ble_eq_true rfl⟩) ⟨fun a U g mk q => ⟨q.1, q.2.1, q.2.2.1, va_K.moved (u := U) (U := U.calling g mk a) (Vm.Alike.refl U.vm) q.2.2.2⟩, va_recv hK hP (ci := 12) (q0 := 0) rfl rfl, fun U hU hW => ⟨rfl, by rw [hU], by rw [hU]; exact hP, va_K.moved hW.alike hK⟩⟩ rfl rfl hl.1 rfl (lv_room (Nat.le_of_ble_eq_true rfl)) dX12_drive_38 ⟨Nat.le_of_ble_eq_true rfl, Nat.le_of_ble_eq_true rfl⟩) hS (fun q _ h9 => aM_up hS q h9) (aM_up hS) (fun r_36 u t H1 locs ht _ hw hB _ hk1 hS => ?_)
      obtain ⟨fv_38, wd_39, ar_40⟩ := u
      obtain ⟨hF_fv_38, hA_ar_40, fr_41, fa_42, p_37, -⟩ := hw
      have hP : va_P (dC, dI) vwCl (wsM h ad cA fv_38 wd_39 ar_40) H1 := by have h9 := hB.1; rw [ht] at h9; exact h9
      have fr_41 : fM [] fv fv_38 := fr_41
      have fa_42 : fA [] ar ar_40 := fa_42
      have p_37 : wt_on r_36 (fv 3) (fv 7) (ar 5) := p_37
      generalize H1 = H at hP hS ⊢
      have rn_43 : r_36 = mm_rn fv ar := by have h9 := p_37; exact mm_rnI h9
      have i_44 : 0 ≤ r_36.toInt ∧ r_36.toInt ≤ 9 := (by rw [rn_43]; exact hp_nR.1.2.2.2.2.2.2)
      refine lv_iconst (v := 4) hx hb dX12_drive_41 (by decide) ?_
      refine lv_icmp_le (tgt := 48) hx hb dX12_drive_42 (by decide) (fun c_45 => ?_) (fun c_45 => ?_)
      · skip
        have i_46 : 0 ≤ r_36.toInt ∧ r_36.toInt ≤ 4 := iv_le1 i_44 (⟨by decide, by decide⟩ : (4 : Int) ≤ (4 : Int32).toInt ∧ (4 : Int32).toInt ≤ 4) c_45
        refine lv_aload_n hx hb dX12_drive_48 rfl (lv_at hl 2 rfl) ?_
        refine lv_iload_n hx hb dX12_drive_49 rfl (lv_at hl 3 rfl) ?_
        refine va_calli (va_runV (As := [.int kk]) (rest := []) ⟨hx, hb, hml, hown, hts⟩ (m_tripFarE l dC dI H.size h ad cA hd fv_38 wd_39 ar_40 hF_fv_38 hA_ar_40 G9 w9 kk h_kk (mm_R_fr hp_nR (fM_call (fM_rf [] _) fr_41 (by decide)) (fA_call (fA_rf [] _) fa_42 (by decide)) rfl rfl rfl rfl rfl rfl rfl rfl rfl rfl rfl) (mF_fr hp_mF (fM_call (fM_rf [] _) fr_41 (by decide)) (fA_call (fA_rf [] _) fa_42 (by decide)) rfl rfl)) (cwV 1 hts (gV kw_8_200 kw_8_202 kw_p_90 kw_1_15 kw_8_203) rfl rfl rfl (by decide +kernel) ⟨Nat.le_of_ble_eq_true rfl, Nat.le_of_ble_eq_true rfl⟩) ⟨fun a U g mk q => ⟨q.1, q.2.1, q.2.2.1, va_K.moved (u := U) (U := U.calling g mk a) (Vm.Alike.refl U.vm) q.2.2.2⟩, va_recv hK hP (ci := 12) (q0 := 0) rfl rfl, fun U hU hW => ⟨rfl, by rw [hU], by rw [hU]; exact hP, va_K.moved hW.alike hK⟩⟩ rfl rfl hl.1 rfl (lv_room (Nat.le_of_ble_eq_true rfl)) dX12_drive_50 ⟨Nat.le_of_ble_eq_true rfl, Nat.le_of_ble_eq_true rfl⟩) hS (fun q _ h9 => aM_up hS q h9) (aM_up hS) (fun r_47 u t H1 locs ht _ hw hB _ hk1 hS => ?_)
        obtain ⟨fv_51, wd_52, ar_53⟩ := u
        obtain ⟨hF_fv_51, hA_ar_53, fr_54, fa_55, p_48, p_49, p_50, -⟩ := hw
        have hP : va_P (dC, dI) vwCl (wsM h ad cA fv_51 wd_52 ar_53) H1 := by have h9 := hB.1; rw [ht] at h9; exact h9
        have fr_54 : fM [8] fv_38 fv_51 := fr_54
        have fa_55 : fA [4] ar_40 ar_53 := fa_55
        have p_50 : wt_fm G9 (fv_51 8) (ar_53 4) := p_50
        have p_49 : wt_rl (mo_ln (mm_D w9 fv_38 ar_40) G9 (kk.toInt.toNat)) r_47.toInt := p_49
        generalize H1 = H at hP hS ⊢
        have ln_56 : wt_rl (mo_ln (mm_D w9 fv ar) G9 (kk.toInt.toNat)) r_47.toInt := (by have h9 := p_49; rw [show mm_D w9 fv_38 ar_40 = mm_D w9 fv ar from (mm_D_fr (fM_call (fM_rf [] _) fr_41 (by decide)) (fA_call (fA_rf [] _) fa_42 (by decide)) rfl rfl)] at h9; exact h9)
        refine lv_iload_n hx hb dX12_drive_53 rfl (lv_at hl 0 rfl) ?_
        refine lv_imul hx hb dX12_drive_54 ?_
        refine lv_topi (fun v_57 ev_57 => ?_)
        have t_58 : v_57.toInt = 3 * r_47.toInt ∧ 0 ≤ v_57.toInt ∧ v_57.toInt ≤ 300000 := iv_mulr ev_57 p_48 (by decide) (by decide) (by decide) (by decide)
        refine lv_bipush (v := 9) hx hb dX12_drive_55 (by decide) ?_
        refine lv_iadd hx hb dX12_drive_57 ?_
        refine lv_topi (fun v_60 ev_60 => ?_)
        have t_61 : v_60.toInt = v_57.toInt + 9 ∧ 9 ≤ v_60.toInt ∧ v_60.toInt ≤ 300009 := iv_addc ev_60 t_58.2 (by decide) (by decide) (by decide)
        refine lv_bipush (v := 10) hx hb dX12_drive_58 (by decide) ?_
        refine lv_idiv hx hb dX12_drive_60 (by decide) ?_
        refine lv_topi (fun v_63 ev_63 => ?_)
        have t_64 : v_63.toInt = v_60.toInt / 10 ∧ 0 ≤ v_63.toInt ∧ v_63.toInt ≤ 30000 := mo_dv10 ev_63 (iv_w t_61.2 (by decide) (Int.le_refl _)) (by decide)
        refine lv_istore (lv' := [(4, .int v_63), (3, .int 3), (2, .int v_1), (0, .ref h), (1, .int kk)]) hx hb dX12_drive_61 hl (by decide) rfl (fun ls hl => ?_)
        refine lv_iload hx hb dX12_drive_63 (lv_at hl 0 rfl) ?_
        refine lv_iconst (v := 1) hx hb dX12_drive_65 (by decide) ?_
        refine lv_icmp_ge (tgt := 73) hx hb dX12_drive_66 (by decide) (fun c_66 => ?_) (fun c_66 => ?_)
        · skip
          have i_67 : 1 ≤ v_63.toInt ∧ v_63.toInt ≤ 30000 := iv_le2 (⟨by decide, by decide⟩ : (1 : Int) ≤ (1 : Int32).toInt ∧ (1 : Int32).toInt ≤ 1) t_64.2 c_66
          refine lv_iload hx hb dX12_drive_73 (lv_at hl 0 rfl) ?_
          exact W.iret (v := v_63) hx hb hr (fun t ht hW => ⟨⟨v_63, (fv_51, wd_52, ar_53), rfl, ⟨hF_fv_51, hA_ar_53, (fM_call (fM_call (fM_rf [8] _) fr_41 (by decide)) fr_54 (by decide)), (fA_call (fA_call (fA_rf [4] _) fa_42 (by decide)) fa_55 (by decide)), (iv_w i_67 (by decide) (by decide)), (show mo_ln (mm_D w9 fv ar) G9 (kk.toInt.toNat) < 10000000 → v_63.toInt = mo_dr (mm_D w9 fv ar) G9 (kk.toInt.toNat) from mm_drI (show mo_dp (mm_rn fv ar).toInt (ar 20 ((ar 25 (kk.toInt.toNat)).toInt.toNat)).toInt = 3 from by rw [show ar 25 (kk.toInt.toNat) = v_1 from ((show v_1 = ar 25 (kk.toInt.toNat) from by rw [ev_1]; exact congrArg (ar 25) (show kk.toInt.toNat = (kk.toInt.toNat) from by omega))).symm, show ar 20 (v_1.toInt.toNat) = v_3 from ((show v_3 = ar 20 (v_1.toInt.toNat) from by rw [ev_3]; exact congrArg (ar 20) (show v_1.toInt.toNat = (v_1.toInt.toNat) from by omega))).symm, ← rn_43]; unfold mo_dp; (repeat' split) <;> omega) ln_56 (by (repeat' split) <;> omega)), p_50, trivial⟩, ⟨by rw [ht]; exact hP, va_K.moved hW.alike hK⟩⟩, hS.F ht⟩) hS.2.2 dX12_drive_75
        · skip
          have i_68 : 0 ≤ v_63.toInt ∧ v_63.toInt ≤ 0 := iv_lt1 t_64.2 (⟨by decide, by decide⟩ : (1 : Int) ≤ (1 : Int32).toInt ∧ (1 : Int32).toInt ≤ 1) (Int32.not_le.mp c_66)
          refine lv_iconst (v := 1) hx hb dX12_drive_69 (by decide) ?_
          refine lv_goto (tgt := 75) hx hb dX12_drive_70 (by decide) ?_
          have z_69 : (1 : Int32).toInt = 1 := by decide
          exact W.iret (v := 1) hx hb hr (fun t ht hW => ⟨⟨1, (fv_51, wd_52, ar_53), rfl, ⟨hF_fv_51, hA_ar_53, (fM_call (fM_call (fM_rf [8] _) fr_41 (by decide)) fr_54 (by decide)), (fA_call (fA_call (fA_rf [4] _) fa_42 (by decide)) fa_55 (by decide)), (iv_w (⟨by decide, by decide⟩ : (1 : Int) ≤ (1 : Int32).toInt ∧ (1 : Int32).toInt ≤ 1) (by decide) (by decide)), (show mo_ln (mm_D w9 fv ar) G9 (kk.toInt.toNat) < 10000000 → (1 : Int32).toInt = mo_dr (mm_D w9 fv ar) G9 (kk.toInt.toNat) from mm_drI (show mo_dp (mm_rn fv ar).toInt (ar 20 ((ar 25 (kk.toInt.toNat)).toInt.toNat)).toInt = 3 from by rw [show ar 25 (kk.toInt.toNat) = v_1 from ((show v_1 = ar 25 (kk.toInt.toNat) from by rw [ev_1]; exact congrArg (ar 25) (show kk.toInt.toNat = (kk.toInt.toNat) from by omega))).symm, show ar 20 (v_1.toInt.toNat) = v_3 from ((show v_3 = ar 20 (v_1.toInt.toNat) from by rw [ev_3]; exact congrArg (ar 20) (show v_1.toInt.toNat = (v_1.toInt.toNat) from by omega))).symm, ← rn_43]; unfold mo_dp; (repeat' split) <;> omega) ln_56 (by (repeat' split) <;> omega)), p_50, trivial⟩, ⟨by rw [ht]; exact hP, va_K.moved hW.alike hK⟩⟩, hS.F ht⟩) hS.2.2 dX12_drive_75
      · skip
        have i_70 : 5 ≤ r_36.toInt ∧ r_36.toInt ≤ 9 := iv_lt2 (⟨by decide, by decide⟩ : (4 : Int) ≤ (4 : Int32).toInt ∧ (4 : Int32).toInt ≤ 4) i_44 (Int32.not_le.mp c_45)
        refine lv_iinc (v := 4) (lv' := [(3, .int 4), (2, .int v_1), (0, .ref h), (1, .int kk)]) hx hb dX12_drive_45 hl (k := 0) rfl (by decide) (by decide) rfl (fun ls hl => ?_)
        refine lv_aload_n hx hb dX12_drive_48 rfl (lv_at hl 2 rfl) ?_
        refine lv_iload_n hx hb dX12_drive_49 rfl (lv_at hl 3 rfl) ?_
        refine va_calli (va_runV (As := [.int kk]) (rest := []) ⟨hx, hb, hml, hown, hts⟩ (m_tripFarE l dC dI H.size h ad cA hd fv_38 wd_39 ar_40 hF_fv_38 hA_ar_40 G9 w9 kk h_kk (mm_R_fr hp_nR (fM_call (fM_rf [] _) fr_41 (by decide)) (fA_call (fA_rf [] _) fa_42 (by decide)) rfl rfl rfl rfl rfl rfl rfl rfl rfl rfl rfl) (mF_fr hp_mF (fM_call (fM_rf [] _) fr_41 (by decide)) (fA_call (fA_rf [] _) fa_42 (by decide)) rfl rfl)) (cwV 1 hts (gV kw_8_200 kw_8_202 kw_p_90 kw_1_15 kw_8_203) rfl rfl rfl (by decide +kernel) ⟨Nat.le_of_ble_eq_true rfl, Nat.le_of_ble_eq_true rfl⟩) ⟨fun a U g mk q => ⟨q.1, q.2.1, q.2.2.1, va_K.moved (u := U) (U := U.calling g mk a) (Vm.Alike.refl U.vm) q.2.2.2⟩, va_recv hK hP (ci := 12) (q0 := 0) rfl rfl, fun U hU hW => ⟨rfl, by rw [hU], by rw [hU]; exact hP, va_K.moved hW.alike hK⟩⟩ rfl rfl hl.1 rfl (lv_room (Nat.le_of_ble_eq_true rfl)) dX12_drive_50 ⟨Nat.le_of_ble_eq_true rfl, Nat.le_of_ble_eq_true rfl⟩) hS (fun q _ h9 => aM_up hS q h9) (aM_up hS) (fun r_71 u t H1 locs ht _ hw hB _ hk1 hS => ?_)
        obtain ⟨fv_75, wd_76, ar_77⟩ := u
        obtain ⟨hF_fv_75, hA_ar_77, fr_78, fa_79, p_72, p_73, p_74, -⟩ := hw
        have hP : va_P (dC, dI) vwCl (wsM h ad cA fv_75 wd_76 ar_77) H1 := by have h9 := hB.1; rw [ht] at h9; exact h9
        have fr_78 : fM [8] fv_38 fv_75 := fr_78
        have fa_79 : fA [4] ar_40 ar_77 := fa_79
        have p_74 : wt_fm G9 (fv_75 8) (ar_77 4) := p_74
        have p_73 : wt_rl (mo_ln (mm_D w9 fv_38 ar_40) G9 (kk.toInt.toNat)) r_71.toInt := p_73
        generalize H1 = H at hP hS ⊢
        have ln_80 : wt_rl (mo_ln (mm_D w9 fv ar) G9 (kk.toInt.toNat)) r_71.toInt := (by have h9 := p_73; rw [show mm_D w9 fv_38 ar_40 = mm_D w9 fv ar from (mm_D_fr (fM_call (fM_rf [] _) fr_41 (by decide)) (fA_call (fA_rf [] _) fa_42 (by decide)) rfl rfl)] at h9; exact h9)
        refine lv_iload_n hx hb dX12_drive_53 rfl (lv_at hl 0 rfl) ?_
        refine lv_imul hx hb dX12_drive_54 ?_
        refine lv_topi (fun v_81 ev_81 => ?_)
        have t_82 : v_81.toInt = 4 * r_71.toInt ∧ 0 ≤ v_81.toInt ∧ v_81.toInt ≤ 400000 := iv_mulr ev_81 p_72 (by decide) (by decide) (by decide) (by decide)
        refine lv_bipush (v := 9) hx hb dX12_drive_55 (by decide) ?_
        refine lv_iadd hx hb dX12_drive_57 ?_
        refine lv_topi (fun v_84 ev_84 => ?_)
        have t_85 : v_84.toInt = v_81.toInt + 9 ∧ 9 ≤ v_84.toInt ∧ v_84.toInt ≤ 400009 := iv_addc ev_84 t_82.2 (by decide) (by decide) (by decide)
        refine lv_bipush (v := 10) hx hb dX12_drive_58 (by decide) ?_
        refine lv_idiv hx hb dX12_drive_60 (by decide) ?_
        refine lv_topi (fun v_87 ev_87 => ?_)
        have t_88 : v_87.toInt = v_84.toInt / 10 ∧ 0 ≤ v_87.toInt ∧ v_87.toInt ≤ 40000 := mo_dv10 ev_87 (iv_w t_85.2 (by decide) (Int.le_refl _)) (by decide)
        refine lv_istore (lv' := [(4, .int v_87), (3, .int 4), (2, .int v_1), (0, .ref h), (1, .int kk)]) hx hb dX12_drive_61 hl (by decide) rfl (fun ls hl => ?_)
        refine lv_iload hx hb dX12_drive_63 (lv_at hl 0 rfl) ?_
        refine lv_iconst (v := 1) hx hb dX12_drive_65 (by decide) ?_
        refine lv_icmp_ge (tgt := 73) hx hb dX12_drive_66 (by decide) (fun c_90 => ?_) (fun c_90 => ?_)
        · skip
          have i_91 : 1 ≤ v_87.toInt ∧ v_87.toInt ≤ 40000 := iv_le2 (⟨by decide, by decide⟩ : (1 : Int) ≤ (1 : Int32).toInt ∧ (1 : Int32).toInt ≤ 1) t_88.2 c_90
          refine lv_iload hx hb dX12_drive_73 (lv_at hl 0 rfl) ?_
          exact W.iret (v := v_87) hx hb hr (fun t ht hW => ⟨⟨v_87, (fv_75, wd_76, ar_77), rfl, ⟨hF_fv_75, hA_ar_77, (fM_call (fM_call (fM_rf [8] _) fr_41 (by decide)) fr_78 (by decide)), (fA_call (fA_call (fA_rf [4] _) fa_42 (by decide)) fa_79 (by decide)), (iv_w i_91 (by decide) (by decide)), (show mo_ln (mm_D w9 fv ar) G9 (kk.toInt.toNat) < 10000000 → v_87.toInt = mo_dr (mm_D w9 fv ar) G9 (kk.toInt.toNat) from mm_drI (show mo_dp (mm_rn fv ar).toInt (ar 20 ((ar 25 (kk.toInt.toNat)).toInt.toNat)).toInt = 4 from by rw [show ar 25 (kk.toInt.toNat) = v_1 from ((show v_1 = ar 25 (kk.toInt.toNat) from by rw [ev_1]; exact congrArg (ar 25) (show kk.toInt.toNat = (kk.toInt.toNat) from by omega))).symm, show ar 20 (v_1.toInt.toNat) = v_3 from ((show v_3 = ar 20 (v_1.toInt.toNat) from by rw [ev_3]; exact congrArg (ar 20) (show v_1.toInt.toNat = (v_1.toInt.toNat) from by omega))).symm, ← rn_43]; unfold mo_dp; (repeat' split) <;> omega) ln_80 (by (repeat' split) <;> omega)), p_74, trivial⟩, ⟨by rw [ht]; exact hP, va_K.moved hW.alike hK⟩⟩, hS.F ht⟩) hS.2.2 dX12_drive_75
        · skip
          have i_92 : 0 ≤ v_87.toInt ∧ v_87.toInt ≤ 0 := iv_lt1 t_88.2 (⟨by decide, by decide⟩ : (1 : Int) ≤ (1 : Int32).toInt ∧ (1 : Int32).toInt ≤ 1) (Int32.not_le.mp c_90)
          refine lv_iconst (v := 1) hx hb dX12_drive_69 (by decide) ?_
          refine lv_goto (tgt := 75) hx hb dX12_drive_70 (by decide) ?_
          have z_93 : (1 : Int32).toInt = 1 := by decide
          exact W.iret (v := 1) hx hb hr (fun t ht hW => ⟨⟨1, (fv_75, wd_76, ar_77), rfl, ⟨hF_fv_75, hA_ar_77, (fM_call (fM_call (fM_rf [8] _) fr_41 (by decide)) fr_78 (by decide)), (fA_call (fA_call (fA_rf [4] _) fa_42 (by decide)) fa_79 (by decide)), (iv_w (⟨by decide, by decide⟩ : (1 : Int) ≤ (1 : Int32).toInt ∧ (1 : Int32).toInt ≤ 1) (by decide) (by decide)), (show mo_ln (mm_D w9 fv ar) G9 (kk.toInt.toNat) < 10000000 → (1 : Int32).toInt = mo_dr (mm_D w9 fv ar) G9 (kk.toInt.toNat) from mm_drI (show mo_dp (mm_rn fv ar).toInt (ar 20 ((ar 25 (kk.toInt.toNat)).toInt.toNat)).toInt = 4 from by rw [show ar 25 (kk.toInt.toNat) = v_1 from ((show v_1 = ar 25 (kk.toInt.toNat) from by rw [ev_1]; exact congrArg (ar 25) (show kk.toInt.toNat = (kk.toInt.toNat) from by omega))).symm, show ar 20 (v_1.toInt.toNat) = v_3 from ((show v_3 = ar 20 (v_1.toInt.toNat) from by rw [ev_3]; exact congrArg (ar 20) (show v_1.toInt.toNat = (v_1.toInt.toNat) from by omega))).symm, ← rn_43]; unfold mo_dp; (repeat' split) <;> omega) ln_80 (by (repeat' split) <;> omega)), p_74, trivial⟩, ⟨by rw [ht]; exact hP, va_K.moved hW.alike hK⟩⟩, hS.F ht⟩) hS.2.2 dX12_drive_75
  · skip
    have i_94 : 1 ≤ v_3.toInt ∧ v_3.toInt ≤ 1 := iv_eq1 (⟨by decide, by decide⟩ : (1 : Int) ≤ (1 : Int32).toInt ∧ (1 : Int32).toInt ≤ 1) c_4
    refine lv_iconst (v := 4) hx hb dX12_drive_17 (by decide) ?_
    refine lv_goto (tgt := 22) hx hb dX12_drive_18 (by decide) ?_
    refine lv_istore_n (lv' := [(3, .int 4), (2, .int v_1), (0, .ref h), (1, .int kk)]) hx hb dX12_drive_22 rfl hl (by decide) rfl (fun ls hl => ?_)
    refine lv_aload_n hx hb dX12_drive_23 rfl (lv_at hl 2 rfl) ?_
    refine gM_20 hx hb htg hown hK hP dX12_drive_24 ?_
    refine lv_iload_n hx hb dX12_drive_27 rfl (lv_at hl 1 rfl) ?_
    refine lM_20 hx hb hK hP (iv_in i_2 (by decide) (by decide)) dX12_drive_28 (fun v_96 ev_96 => ?_)
    obtain rfl : v_3 = v_96 := ev_3.trans ev_96.symm
    refine lv_iconst (v := 2) hx hb dX12_drive_29 (by decide) ?_
    refine lv_icmp_eq (tgt := 48) hx hb dX12_drive_30 (by decide) (fun c_97 => ?_) (fun c_97 => ?_)
    · skip
      exact absurd True.intro (by have h7 := i_94; have h8 := (⟨by decide, by decide⟩ : (2 : Int) ≤ (2 : Int32).toInt ∧ (2 : Int32).toInt ≤ 2); have h9 := congrArg Int32.toInt c_97; exfalso; omega)
    · skip
      have k_98 : ¬ v_3.toInt = 2 := fun q => c_97 (Int32.toInt_inj.mp q)
      refine lv_aload_n hx hb dX12_drive_33 rfl (lv_at hl 2 rfl) ?_
      refine lv_aload_n hx hb dX12_drive_34 rfl (lv_at hl 2 rfl) ?_
      refine gM_3 hx hb htg hown hK hP dX12_drive_35 ?_
      have i_99 : 0 ≤ (fv 3).toInt ∧ (fv 3).toInt ≤ 199 := hF_fv 3
      have z_100 : 0 ≤ (fv 7).toInt ∧ (fv 7).toInt ≤ 200 := hF_fv 7
      refine va_calli (va_runV (As := [.int (fv 3)]) (rest := []) ⟨hx, hb, hml, hown, hts⟩ (m_rainOfC l dC dI s.heap.size h ad cA hd fv wd ar hF_fv hA_ar (fv 3) i_99) (cwV 1 hts (gV kw_8_16 kw_8_18 kw_p_61 kw_1_15 kw_8_19) rfl rfl rfl (by decide +kernel) ⟨Nat.le_of_ble_eq_true rfl, Nat.le_of_ble_eq_true rfl⟩) ⟨fun a U g mk q => ⟨q.1, q.2.1, q.2.2.1, va_K.moved (u := U) (U := U.calling g mk a) (Vm.Alike.refl U.vm) q.2.2.2⟩, va_recv hK hP (ci := 12) (q0 := 0) rfl rfl, fun U hU hW => ⟨rfl, by rw [hU], by rw [hU]; exact hP, va_K.moved hW.alike hK⟩⟩ rfl rfl hl.1 rfl (lv_room (Nat.le_of_ble_eq_true rfl)) dX12_drive_38 ⟨Nat.le_of_ble_eq_true rfl, Nat.le_of_ble_eq_true rfl⟩) hS (fun q _ h9 => aM_up hS q h9) (aM_up hS) (fun r_101 u t H1 locs ht _ hw hB _ hk1 hS => ?_)
      obtain ⟨fv_103, wd_104, ar_105⟩ := u
      obtain ⟨hF_fv_103, hA_ar_105, fr_106, fa_107, p_102, -⟩ := hw
      have hP : va_P (dC, dI) vwCl (wsM h ad cA fv_103 wd_104 ar_105) H1 := by have h9 := hB.1; rw [ht] at h9; exact h9
      have fr_106 : fM [] fv fv_103 := fr_106
      have fa_107 : fA [] ar ar_105 := fa_107
      have p_102 : wt_on r_101 (fv 3) (fv 7) (ar 5) := p_102
      generalize H1 = H at hP hS ⊢
      have rn_108 : r_101 = mm_rn fv ar := by have h9 := p_102; exact mm_rnI h9
      have i_109 : 0 ≤ r_101.toInt ∧ r_101.toInt ≤ 9 := (by rw [rn_108]; exact hp_nR.1.2.2.2.2.2.2)
      refine lv_iconst (v := 4) hx hb dX12_drive_41 (by decide) ?_
      refine lv_icmp_le (tgt := 48) hx hb dX12_drive_42 (by decide) (fun c_110 => ?_) (fun c_110 => ?_)
      · skip
        have i_111 : 0 ≤ r_101.toInt ∧ r_101.toInt ≤ 4 := iv_le1 i_109 (⟨by decide, by decide⟩ : (4 : Int) ≤ (4 : Int32).toInt ∧ (4 : Int32).toInt ≤ 4) c_110
        refine lv_aload_n hx hb dX12_drive_48 rfl (lv_at hl 2 rfl) ?_
        refine lv_iload_n hx hb dX12_drive_49 rfl (lv_at hl 3 rfl) ?_
        refine va_calli (va_runV (As := [.int kk]) (rest := []) ⟨hx, hb, hml, hown, hts⟩ (m_tripFarE l dC dI H.size h ad cA hd fv_103 wd_104 ar_105 hF_fv_103 hA_ar_105 G9 w9 kk h_kk (mm_R_fr hp_nR (fM_call (fM_rf [] _) fr_106 (by decide)) (fA_call (fA_rf [] _) fa_107 (by decide)) rfl rfl rfl rfl rfl rfl rfl rfl rfl rfl rfl) (mF_fr hp_mF (fM_call (fM_rf [] _) fr_106 (by decide)) (fA_call (fA_rf [] _) fa_107 (by decide)) rfl rfl)) (cwV 1 hts (gV kw_8_200 kw_8_202 kw_p_90 kw_1_15 kw_8_203) rfl rfl rfl (by decide +kernel) ⟨Nat.le_of_ble_eq_true rfl, Nat.le_of_ble_eq_true rfl⟩) ⟨fun a U g mk q => ⟨q.1, q.2.1, q.2.2.1, va_K.moved (u := U) (U := U.calling g mk a) (Vm.Alike.refl U.vm) q.2.2.2⟩, va_recv hK hP (ci := 12) (q0 := 0) rfl rfl, fun U hU hW => ⟨rfl, by rw [hU], by rw [hU]; exact hP, va_K.moved hW.alike hK⟩⟩ rfl rfl hl.1 rfl (lv_room (Nat.le_of_ble_eq_true rfl)) dX12_drive_50 ⟨Nat.le_of_ble_eq_true rfl, Nat.le_of_ble_eq_true rfl⟩) hS (fun q _ h9 => aM_up hS q h9) (aM_up hS) (fun r_112 u t H1 locs ht _ hw hB _ hk1 hS => ?_)
        obtain ⟨fv_116, wd_117, ar_118⟩ := u
        obtain ⟨hF_fv_116, hA_ar_118, fr_119, fa_120, p_113, p_114, p_115, -⟩ := hw
        have hP : va_P (dC, dI) vwCl (wsM h ad cA fv_116 wd_117 ar_118) H1 := by have h9 := hB.1; rw [ht] at h9; exact h9
        have fr_119 : fM [8] fv_103 fv_116 := fr_119
        have fa_120 : fA [4] ar_105 ar_118 := fa_120
        have p_115 : wt_fm G9 (fv_116 8) (ar_118 4) := p_115
        have p_114 : wt_rl (mo_ln (mm_D w9 fv_103 ar_105) G9 (kk.toInt.toNat)) r_112.toInt := p_114
        generalize H1 = H at hP hS ⊢
        have ln_121 : wt_rl (mo_ln (mm_D w9 fv ar) G9 (kk.toInt.toNat)) r_112.toInt := (by have h9 := p_114; rw [show mm_D w9 fv_103 ar_105 = mm_D w9 fv ar from (mm_D_fr (fM_call (fM_rf [] _) fr_106 (by decide)) (fA_call (fA_rf [] _) fa_107 (by decide)) rfl rfl)] at h9; exact h9)
        refine lv_iload_n hx hb dX12_drive_53 rfl (lv_at hl 0 rfl) ?_
        refine lv_imul hx hb dX12_drive_54 ?_
        refine lv_topi (fun v_122 ev_122 => ?_)
        have t_123 : v_122.toInt = 4 * r_112.toInt ∧ 0 ≤ v_122.toInt ∧ v_122.toInt ≤ 400000 := iv_mulr ev_122 p_113 (by decide) (by decide) (by decide) (by decide)
        refine lv_bipush (v := 9) hx hb dX12_drive_55 (by decide) ?_
        refine lv_iadd hx hb dX12_drive_57 ?_
        refine lv_topi (fun v_125 ev_125 => ?_)
        have t_126 : v_125.toInt = v_122.toInt + 9 ∧ 9 ≤ v_125.toInt ∧ v_125.toInt ≤ 400009 := iv_addc ev_125 t_123.2 (by decide) (by decide) (by decide)
        refine lv_bipush (v := 10) hx hb dX12_drive_58 (by decide) ?_
        refine lv_idiv hx hb dX12_drive_60 (by decide) ?_
        refine lv_topi (fun v_128 ev_128 => ?_)
        have t_129 : v_128.toInt = v_125.toInt / 10 ∧ 0 ≤ v_128.toInt ∧ v_128.toInt ≤ 40000 := mo_dv10 ev_128 (iv_w t_126.2 (by decide) (Int.le_refl _)) (by decide)
        refine lv_istore (lv' := [(4, .int v_128), (3, .int 4), (2, .int v_1), (0, .ref h), (1, .int kk)]) hx hb dX12_drive_61 hl (by decide) rfl (fun ls hl => ?_)
        refine lv_iload hx hb dX12_drive_63 (lv_at hl 0 rfl) ?_
        refine lv_iconst (v := 1) hx hb dX12_drive_65 (by decide) ?_
        refine lv_icmp_ge (tgt := 73) hx hb dX12_drive_66 (by decide) (fun c_131 => ?_) (fun c_131 => ?_)
        · skip
          have i_132 : 1 ≤ v_128.toInt ∧ v_128.toInt ≤ 40000 := iv_le2 (⟨by decide, by decide⟩ : (1 : Int) ≤ (1 : Int32).toInt ∧ (1 : Int32).toInt ≤ 1) t_129.2 c_131
          refine lv_iload hx hb dX12_drive_73 (lv_at hl 0 rfl) ?_
          exact W.iret (v := v_128) hx hb hr (fun t ht hW => ⟨⟨v_128, (fv_116, wd_117, ar_118), rfl, ⟨hF_fv_116, hA_ar_118, (fM_call (fM_call (fM_rf [8] _) fr_106 (by decide)) fr_119 (by decide)), (fA_call (fA_call (fA_rf [4] _) fa_107 (by decide)) fa_120 (by decide)), (iv_w i_132 (by decide) (by decide)), (show mo_ln (mm_D w9 fv ar) G9 (kk.toInt.toNat) < 10000000 → v_128.toInt = mo_dr (mm_D w9 fv ar) G9 (kk.toInt.toNat) from mm_drI (show mo_dp (mm_rn fv ar).toInt (ar 20 ((ar 25 (kk.toInt.toNat)).toInt.toNat)).toInt = 4 from by rw [show ar 25 (kk.toInt.toNat) = v_1 from ((show v_1 = ar 25 (kk.toInt.toNat) from by rw [ev_1]; exact congrArg (ar 25) (show kk.toInt.toNat = (kk.toInt.toNat) from by omega))).symm, show ar 20 (v_1.toInt.toNat) = v_3 from ((show v_3 = ar 20 (v_1.toInt.toNat) from by rw [ev_3]; exact congrArg (ar 20) (show v_1.toInt.toNat = (v_1.toInt.toNat) from by omega))).symm, ← rn_108]; unfold mo_dp; (repeat' split) <;> omega) ln_121 (by (repeat' split) <;> omega)), p_115, trivial⟩, ⟨by rw [ht]; exact hP, va_K.moved hW.alike hK⟩⟩, hS.F ht⟩) hS.2.2 dX12_drive_75
        · skip
          have i_133 : 0 ≤ v_128.toInt ∧ v_128.toInt ≤ 0 := iv_lt1 t_129.2 (⟨by decide, by decide⟩ : (1 : Int) ≤ (1 : Int32).toInt ∧ (1 : Int32).toInt ≤ 1) (Int32.not_le.mp c_131)
          refine lv_iconst (v := 1) hx hb dX12_drive_69 (by decide) ?_
          refine lv_goto (tgt := 75) hx hb dX12_drive_70 (by decide) ?_
          have z_134 : (1 : Int32).toInt = 1 := by decide
          exact W.iret (v := 1) hx hb hr (fun t ht hW => ⟨⟨1, (fv_116, wd_117, ar_118), rfl, ⟨hF_fv_116, hA_ar_118, (fM_call (fM_call (fM_rf [8] _) fr_106 (by decide)) fr_119 (by decide)), (fA_call (fA_call (fA_rf [4] _) fa_107 (by decide)) fa_120 (by decide)), (iv_w (⟨by decide, by decide⟩ : (1 : Int) ≤ (1 : Int32).toInt ∧ (1 : Int32).toInt ≤ 1) (by decide) (by decide)), (show mo_ln (mm_D w9 fv ar) G9 (kk.toInt.toNat) < 10000000 → (1 : Int32).toInt = mo_dr (mm_D w9 fv ar) G9 (kk.toInt.toNat) from mm_drI (show mo_dp (mm_rn fv ar).toInt (ar 20 ((ar 25 (kk.toInt.toNat)).toInt.toNat)).toInt = 4 from by rw [show ar 25 (kk.toInt.toNat) = v_1 from ((show v_1 = ar 25 (kk.toInt.toNat) from by rw [ev_1]; exact congrArg (ar 25) (show kk.toInt.toNat = (kk.toInt.toNat) from by omega))).symm, show ar 20 (v_1.toInt.toNat) = v_3 from ((show v_3 = ar 20 (v_1.toInt.toNat) from by rw [ev_3]; exact congrArg (ar 20) (show v_1.toInt.toNat = (v_1.toInt.toNat) from by omega))).symm, ← rn_108]; unfold mo_dp; (repeat' split) <;> omega) ln_121 (by (repeat' split) <;> omega)), p_115, trivial⟩, ⟨by rw [ht]; exact hP, va_K.moved hW.alike hK⟩⟩, hS.F ht⟩) hS.2.2 dX12_drive_75
      · skip
        have i_135 : 5 ≤ r_101.toInt ∧ r_101.toInt ≤ 9 := iv_lt2 (⟨by decide, by decide⟩ : (4 : Int) ≤ (4 : Int32).toInt ∧ (4 : Int32).toInt ≤ 4) i_109 (Int32.not_le.mp c_110)
        refine lv_iinc (v := 5) (lv' := [(3, .int 5), (2, .int v_1), (0, .ref h), (1, .int kk)]) hx hb dX12_drive_45 hl (k := 0) rfl (by decide) (by decide) rfl (fun ls hl => ?_)
        refine lv_aload_n hx hb dX12_drive_48 rfl (lv_at hl 2 rfl) ?_
        refine lv_iload_n hx hb dX12_drive_49 rfl (lv_at hl 3 rfl) ?_
        refine va_calli (va_runV (As := [.int kk]) (rest := []) ⟨hx, hb, hml, hown, hts⟩ (m_tripFarE l dC dI H.size h ad cA hd fv_103 wd_104 ar_105 hF_fv_103 hA_ar_105 G9 w9 kk h_kk (mm_R_fr hp_nR (fM_call (fM_rf [] _) fr_106 (by decide)) (fA_call (fA_rf [] _) fa_107 (by decide)) rfl rfl rfl rfl rfl rfl rfl rfl rfl rfl rfl) (mF_fr hp_mF (fM_call (fM_rf [] _) fr_106 (by decide)) (fA_call (fA_rf [] _) fa_107 (by decide)) rfl rfl)) (cwV 1 hts (gV kw_8_200 kw_8_202 kw_p_90 kw_1_15 kw_8_203) rfl rfl rfl (by decide +kernel) ⟨Nat.le_of_ble_eq_true rfl, Nat.le_of_ble_eq_true rfl⟩) ⟨fun a U g mk q => ⟨q.1, q.2.1, q.2.2.1, va_K.moved (u := U) (U := U.calling g mk a) (Vm.Alike.refl U.vm) q.2.2.2⟩, va_recv hK hP (ci := 12) (q0 := 0) rfl rfl, fun U hU hW => ⟨rfl, by rw [hU], by rw [hU]; exact hP, va_K.moved hW.alike hK⟩⟩ rfl rfl hl.1 rfl (lv_room (Nat.le_of_ble_eq_true rfl)) dX12_drive_50 ⟨Nat.le_of_ble_eq_true rfl, Nat.le_of_ble_eq_true rfl⟩) hS (fun q _ h9 => aM_up hS q h9) (aM_up hS) (fun r_136 u t H1 locs ht _ hw hB _ hk1 hS => ?_)
        obtain ⟨fv_140, wd_141, ar_142⟩ := u
        obtain ⟨hF_fv_140, hA_ar_142, fr_143, fa_144, p_137, p_138, p_139, -⟩ := hw
        have hP : va_P (dC, dI) vwCl (wsM h ad cA fv_140 wd_141 ar_142) H1 := by have h9 := hB.1; rw [ht] at h9; exact h9
        have fr_143 : fM [8] fv_103 fv_140 := fr_143
        have fa_144 : fA [4] ar_105 ar_142 := fa_144
        have p_139 : wt_fm G9 (fv_140 8) (ar_142 4) := p_139
        have p_138 : wt_rl (mo_ln (mm_D w9 fv_103 ar_105) G9 (kk.toInt.toNat)) r_136.toInt := p_138
        generalize H1 = H at hP hS ⊢
        have ln_145 : wt_rl (mo_ln (mm_D w9 fv ar) G9 (kk.toInt.toNat)) r_136.toInt := (by have h9 := p_138; rw [show mm_D w9 fv_103 ar_105 = mm_D w9 fv ar from (mm_D_fr (fM_call (fM_rf [] _) fr_106 (by decide)) (fA_call (fA_rf [] _) fa_107 (by decide)) rfl rfl)] at h9; exact h9)
        refine lv_iload_n hx hb dX12_drive_53 rfl (lv_at hl 0 rfl) ?_
        refine lv_imul hx hb dX12_drive_54 ?_
        refine lv_topi (fun v_146 ev_146 => ?_)
        have t_147 : v_146.toInt = 5 * r_136.toInt ∧ 0 ≤ v_146.toInt ∧ v_146.toInt ≤ 500000 := iv_mulr ev_146 p_137 (by decide) (by decide) (by decide) (by decide)
        refine lv_bipush (v := 9) hx hb dX12_drive_55 (by decide) ?_
        refine lv_iadd hx hb dX12_drive_57 ?_
        refine lv_topi (fun v_149 ev_149 => ?_)
        have t_150 : v_149.toInt = v_146.toInt + 9 ∧ 9 ≤ v_149.toInt ∧ v_149.toInt ≤ 500009 := iv_addc ev_149 t_147.2 (by decide) (by decide) (by decide)
        refine lv_bipush (v := 10) hx hb dX12_drive_58 (by decide) ?_
        refine lv_idiv hx hb dX12_drive_60 (by decide) ?_
        refine lv_topi (fun v_152 ev_152 => ?_)
        have t_153 : v_152.toInt = v_149.toInt / 10 ∧ 0 ≤ v_152.toInt ∧ v_152.toInt ≤ 50000 := mo_dv10 ev_152 (iv_w t_150.2 (by decide) (Int.le_refl _)) (by decide)
        refine lv_istore (lv' := [(4, .int v_152), (3, .int 5), (2, .int v_1), (0, .ref h), (1, .int kk)]) hx hb dX12_drive_61 hl (by decide) rfl (fun ls hl => ?_)
        refine lv_iload hx hb dX12_drive_63 (lv_at hl 0 rfl) ?_
        refine lv_iconst (v := 1) hx hb dX12_drive_65 (by decide) ?_
        refine lv_icmp_ge (tgt := 73) hx hb dX12_drive_66 (by decide) (fun c_155 => ?_) (fun c_155 => ?_)
        · skip
          have i_156 : 1 ≤ v_152.toInt ∧ v_152.toInt ≤ 50000 := iv_le2 (⟨by decide, by decide⟩ : (1 : Int) ≤ (1 : Int32).toInt ∧ (1 : Int32).toInt ≤ 1) t_153.2 c_155
          refine lv_iload hx hb dX12_drive_73 (lv_at hl 0 rfl) ?_
          exact W.iret (v := v_152) hx hb hr (fun t ht hW => ⟨⟨v_152, (fv_140, wd_141, ar_142), rfl, ⟨hF_fv_140, hA_ar_142, (fM_call (fM_call (fM_rf [8] _) fr_106 (by decide)) fr_143 (by decide)), (fA_call (fA_call (fA_rf [4] _) fa_107 (by decide)) fa_144 (by decide)), i_156, (show mo_ln (mm_D w9 fv ar) G9 (kk.toInt.toNat) < 10000000 → v_152.toInt = mo_dr (mm_D w9 fv ar) G9 (kk.toInt.toNat) from mm_drI (show mo_dp (mm_rn fv ar).toInt (ar 20 ((ar 25 (kk.toInt.toNat)).toInt.toNat)).toInt = 5 from by rw [show ar 25 (kk.toInt.toNat) = v_1 from ((show v_1 = ar 25 (kk.toInt.toNat) from by rw [ev_1]; exact congrArg (ar 25) (show kk.toInt.toNat = (kk.toInt.toNat) from by omega))).symm, show ar 20 (v_1.toInt.toNat) = v_3 from ((show v_3 = ar 20 (v_1.toInt.toNat) from by rw [ev_3]; exact congrArg (ar 20) (show v_1.toInt.toNat = (v_1.toInt.toNat) from by omega))).symm, ← rn_108]; unfold mo_dp; (repeat' split) <;> omega) ln_145 (by (repeat' split) <;> omega)), p_139, trivial⟩, ⟨by rw [ht]; exact hP, va_K.moved hW.alike hK⟩⟩, hS.F ht⟩) hS.2.2 dX12_drive_75
        · skip
          have i_157 : 0 ≤ v_152.toInt ∧ v_152.toInt ≤ 0 := iv_lt1 t_153.2 (⟨by decide, by decide⟩ : (1 : Int) ≤ (1 : Int32).toInt ∧ (1 : Int32).toInt ≤ 1) (Int32.not_le.mp c_155)
          refine lv_iconst (v := 1) hx hb dX12_drive_69 (by decide) ?_
          refine lv_goto (tgt := 75) hx hb dX12_drive_70 (by decide) ?_
          have z_158 : (1 : Int32).toInt = 1 := by decide
          exact W.iret (v := 1) hx hb hr (fun t ht hW => ⟨⟨1, (fv_140, wd_141, ar_142), rfl, ⟨hF_fv_140, hA_ar_142, (fM_call (fM_call (fM_rf [8] _) fr_106 (by decide)) fr_143 (by decide)), (fA_call (fA_call (fA_rf [4] _) fa_107 (by decide)) fa_144 (by decide)), (iv_w (⟨by decide, by decide⟩ : (1 : Int) ≤ (1 : Int32).toInt ∧ (1 : Int32).toInt ≤ 1) (by decide) (by decide)), (show mo_ln (mm_D w9 fv ar) G9 (kk.toInt.toNat) < 10000000 → (1 : Int32).toInt = mo_dr (mm_D w9 fv ar) G9 (kk.toInt.toNat) from mm_drI (show mo_dp (mm_rn fv ar).toInt (ar 20 ((ar 25 (kk.toInt.toNat)).toInt.toNat)).toInt = 5 from by rw [show ar 25 (kk.toInt.toNat) = v_1 from ((show v_1 = ar 25 (kk.toInt.toNat) from by rw [ev_1]; exact congrArg (ar 25) (show kk.toInt.toNat = (kk.toInt.toNat) from by omega))).symm, show ar 20 (v_1.toInt.toNat) = v_3 from ((show v_3 = ar 20 (v_1.toInt.toNat) from by rw [ev_3]; exact congrArg (ar 20) (show v_1.toInt.toNat = (v_1.toInt.toNat) from by omega))).symm, ← rn_108]; unfold mo_dp; (repeat' split) <;> omega) ln_145 (by (repeat' split) <;> omega)), p_139, trivial⟩, ⟨by rw [ht]; exact hP, va_K.moved hW.alike hK⟩⟩, hS.F ht⟩) hS.2.2 dX12_drive_75
set_option maxHeartbeats 4000000 in
set_option maxRecDepth 100000 in
theorem m_runsTodayE (l : Launch) (dC : Nat → ClassId) (dI : Nat → Nat → Nat) (sz h : Nat) (ad : Nat → Nat) (cA : Nat → ClassId) (hd : dM h ad) (fv : Nat → Int32) (wd : Int64) (ar : Nat → Nat → Int32) (hF_fv : rF fv) (hA_ar : rA ar) (w9 : Nat → Int32) (kk : Int32) (h_kk : 0 ≤ kk.toInt ∧ kk.toInt ≤ 79) : Met l yX12_runsToday (.code yX12_runsToday cX12_runsToday 2 (some .boolean) :: lw_good) ({ frames := 2, cells := 0, slots := 0, locals := 40 }) (va_Pc [.ref h, .int kk] (prM dC dI h ad cA fv wd ar sz)) (va_Qi (fun (r : Int32) (u : mS) => rF u.1 ∧ rA u.2.2 ∧ fM [] fv u.1 ∧ fA [] ar u.2.2 ∧ (0 ≤ r.toInt ∧ r.toInt ≤ 1) ∧ ((r = 0 ∧ (¬ mo_gt (mm_D w9 fv ar) (kk.toInt.toNat))) ∨ (r = 1 ∧ (mo_gt (mm_D w9 fv ar) (kk.toInt.toNat)))) ∧ True) (enM dC dI h ad cA) (aM h ad sz)) 0 0 (aM h ad sz) := by
  refine Met.ofW (cc := cX12_runsToday) (maxL := 2) (ret := (some .boolean)) (by decide) rfl ?_
  intro p e s m args below meth c s₁ B hml hv
  obtain ⟨rfl, hsz, hP, hK⟩ := hv
  have hx := B.exec
  have hb := B.bytes
  have hr := B.returns
  have hts := atoms_spec (ws := (.code yX12_runsToday cX12_runsToday 2 (some .boolean) :: lw_good)) B.pre
  have htg : ∀ w ∈ lw_good, w.before _ s = true := fun w hw => hts w (List.mem_cons_of_mem _ hw)
  have hown : s.vm.findClass RX12 = some m.cls := findClass_of_methodNamed B.named
  have hlocks := B.notSynchronized
  subst hsz
  have hS : va_S (aM h ad s.heap.size) s.heap s.heap [] := va_S.rf
  have hl := lv_entry ([.ref h, .int kk]) (n := 2) (Nat.le_of_ble_eq_true rfl)
  rw [lg_entry_eq]
  generalize (lg_sl ([.ref h, .int kk]) ++ List.replicate (2 - (lg_sl ([.ref h, .int kk])).length) Slot.unset).toArray = ls at hl ⊢
  have hl : lv_has ls 2 [(0, .ref h), (1, .int kk)] := hl
  refine lv_aload_n hx hb dX12_runsToday_0 rfl (lv_at hl 0 rfl) ?_
  refine gM_25 hx hb htg hown hK hP dX12_runsToday_1 ?_
  refine lv_iload_n hx hb dX12_runsToday_4 rfl (lv_at hl 1 rfl) ?_
  refine lM_25 hx hb hK hP (iv_in h_kk (by decide) (by decide)) dX12_runsToday_5 (fun v_1 ev_1 => ?_)
  have i_2 : 0 ≤ v_1.toInt ∧ v_1.toInt ≤ 19 := ev_1 ▸ hA_ar 25 _
  refine lv_aload_n hx hb dX12_runsToday_6 rfl (lv_at hl 0 rfl) ?_
  refine gM_84 hx hb htg hown hK hP dX12_runsToday_7 ?_
  refine lv_icmp_eq (tgt := 43) hx hb dX12_runsToday_10 (by decide) (fun c_3 => ?_) (fun c_3 => ?_)
  · skip
    have i_4 : 0 ≤ (fv 84).toInt ∧ (fv 84).toInt ≤ 19 := iv_eq1 i_2 c_3.symm
    have k_5 := congrArg Int32.toInt c_3
    refine lv_iconst (v := 0) hx hb dX12_runsToday_43 (by decide) ?_
    exact W.zret (v := 0) hx hb hr (by decide) (fun t ht hW => ⟨⟨0, (fv, wd, ar), rfl, ⟨hF_fv, hA_ar, (fM_rf [] _), (fA_rf [] _), (iv_w (⟨by decide, by decide⟩ : (0 : Int) ≤ (0 : Int32).toInt ∧ (0 : Int32).toInt ≤ 0) (by decide) (by decide)), (Or.inl ⟨rfl, (show ¬ (mo_gt (mm_D w9 fv ar) (kk.toInt.toNat)) from by have hr25 : ar 25 (kk.toInt.toNat) = v_1 := ((show v_1 = ar 25 (kk.toInt.toNat) from by rw [ev_1]; exact congrArg (ar 25) (show kk.toInt.toNat = (kk.toInt.toNat) from by omega))).symm; intro w; have w1 : (ar 25 (kk.toInt.toNat)).toInt ≠ (fv 84).toInt := w.2.2; rw [hr25] at w1; omega)⟩), trivial⟩, ⟨by rw [ht]; exact hP, va_K.moved hW.alike hK⟩⟩, hS.F ht⟩) hS.2.2 dX12_runsToday_44
  · skip
    have k_6 : ¬ v_1.toInt = (fv 84).toInt := fun q => c_3 (Int32.toInt_inj.mp q)
    refine lv_aload_n hx hb dX12_runsToday_13 rfl (lv_at hl 0 rfl) ?_
    refine gM_29 hx hb htg hown hK hP dX12_runsToday_14 ?_
    refine lv_iload_n hx hb dX12_runsToday_17 rfl (lv_at hl 1 rfl) ?_
    refine lM_29 hx hb hK hP (iv_in h_kk (by decide) (by decide)) dX12_runsToday_18 (fun v_7 ev_7 => ?_)
    refine lv_aload_n hx hb dX12_runsToday_19 rfl (lv_at hl 0 rfl) ?_
    refine gM_3 hx hb htg hown hK hP dX12_runsToday_20 ?_
    have i_8 : 0 ≤ (fv 3).toInt ∧ (fv 3).toInt ≤ 199 := hF_fv 3
    refine lv_icmp_gt (tgt := 43) hx hb dX12_runsToday_23 (by decide) (fun c_9 => ?_) (fun c_9 => ?_)
    · skip
      have i_10 : 1 ≤ v_7.toInt ∧ v_7.toInt ≤ 2147483647 := iv_lt2 i_8 (iv_any v_7) c_9
      have k_11 := Int32.lt_iff_toInt_lt.mp c_9
      refine lv_iconst (v := 0) hx hb dX12_runsToday_43 (by decide) ?_
      exact W.zret (v := 0) hx hb hr (by decide) (fun t ht hW => ⟨⟨0, (fv, wd, ar), rfl, ⟨hF_fv, hA_ar, (fM_rf [] _), (fA_rf [] _), (iv_w (⟨by decide, by decide⟩ : (0 : Int) ≤ (0 : Int32).toInt ∧ (0 : Int32).toInt ≤ 0) (by decide) (by decide)), (Or.inl ⟨rfl, (show ¬ (mo_gt (mm_D w9 fv ar) (kk.toInt.toNat)) from by have hr25 : ar 25 (kk.toInt.toNat) = v_1 := ((show v_1 = ar 25 (kk.toInt.toNat) from by rw [ev_1]; exact congrArg (ar 25) (show kk.toInt.toNat = (kk.toInt.toNat) from by omega))).symm; have hr29 : ar 29 (kk.toInt.toNat) = v_7 := ((show v_7 = ar 29 (kk.toInt.toNat) from by rw [ev_7]; exact congrArg (ar 29) (show kk.toInt.toNat = (kk.toInt.toNat) from by omega))).symm; intro w; have w1 : (ar 29 (kk.toInt.toNat)).toInt ≤ (fv 3).toInt := w.1; rw [hr29] at w1; omega)⟩), trivial⟩, ⟨by rw [ht]; exact hP, va_K.moved hW.alike hK⟩⟩, hS.F ht⟩) hS.2.2 dX12_runsToday_44
    · skip
      have i_12 : (-2147483648) ≤ v_7.toInt ∧ v_7.toInt ≤ 199 := iv_le1 (iv_any v_7) i_8 (Int32.not_lt.mp c_9)
      have k_13 := Int32.le_iff_toInt_le.mp (Int32.not_lt.mp c_9)
      refine lv_aload_n hx hb dX12_runsToday_26 rfl (lv_at hl 0 rfl) ?_
      refine gM_3 hx hb htg hown hK hP dX12_runsToday_27 ?_
      refine lv_aload_n hx hb dX12_runsToday_30 rfl (lv_at hl 0 rfl) ?_
      refine gM_30 hx hb htg hown hK hP dX12_runsToday_31 ?_
      refine lv_iload_n hx hb dX12_runsToday_34 rfl (lv_at hl 1 rfl) ?_
      refine lM_30 hx hb hK hP (iv_in h_kk (by decide) (by decide)) dX12_runsToday_35 (fun v_14 ev_14 => ?_)
      refine lv_icmp_gt (tgt := 43) hx hb dX12_runsToday_36 (by decide) (fun c_15 => ?_) (fun c_15 => ?_)
      · skip
        have i_16 : (-2147483648) ≤ v_14.toInt ∧ v_14.toInt ≤ 198 := iv_lt1 (iv_any v_14) i_8 c_15
        have k_17 := Int32.lt_iff_toInt_lt.mp c_15
        refine lv_iconst (v := 0) hx hb dX12_runsToday_43 (by decide) ?_
        exact W.zret (v := 0) hx hb hr (by decide) (fun t ht hW => ⟨⟨0, (fv, wd, ar), rfl, ⟨hF_fv, hA_ar, (fM_rf [] _), (fA_rf [] _), (iv_w (⟨by decide, by decide⟩ : (0 : Int) ≤ (0 : Int32).toInt ∧ (0 : Int32).toInt ≤ 0) (by decide) (by decide)), (Or.inl ⟨rfl, (show ¬ (mo_gt (mm_D w9 fv ar) (kk.toInt.toNat)) from by have hr25 : ar 25 (kk.toInt.toNat) = v_1 := ((show v_1 = ar 25 (kk.toInt.toNat) from by rw [ev_1]; exact congrArg (ar 25) (show kk.toInt.toNat = (kk.toInt.toNat) from by omega))).symm; have hr29 : ar 29 (kk.toInt.toNat) = v_7 := ((show v_7 = ar 29 (kk.toInt.toNat) from by rw [ev_7]; exact congrArg (ar 29) (show kk.toInt.toNat = (kk.toInt.toNat) from by omega))).symm; have hr30 : ar 30 (kk.toInt.toNat) = v_14 := ((show v_14 = ar 30 (kk.toInt.toNat) from by rw [ev_14]; exact congrArg (ar 30) (show kk.toInt.toNat = (kk.toInt.toNat) from by omega))).symm; intro w; have w1 : (fv 3).toInt ≤ (ar 30 (kk.toInt.toNat)).toInt := w.2.1; rw [hr30] at w1; omega)⟩), trivial⟩, ⟨by rw [ht]; exact hP, va_K.moved hW.alike hK⟩⟩, hS.F ht⟩) hS.2.2 dX12_runsToday_44
      · skip
        have i_18 : 0 ≤ v_14.toInt ∧ v_14.toInt ≤ 2147483647 := iv_le2 i_8 (iv_any v_14) (Int32.not_lt.mp c_15)
        have k_19 := Int32.le_iff_toInt_le.mp (Int32.not_lt.mp c_15)
        refine lv_iconst (v := 1) hx hb dX12_runsToday_39 (by decide) ?_
        refine lv_goto (tgt := 44) hx hb dX12_runsToday_40 (by decide) ?_
        exact W.zret (v := 1) hx hb hr (by decide) (fun t ht hW => ⟨⟨1, (fv, wd, ar), rfl, ⟨hF_fv, hA_ar, (fM_rf [] _), (fA_rf [] _), (iv_w (⟨by decide, by decide⟩ : (1 : Int) ≤ (1 : Int32).toInt ∧ (1 : Int32).toInt ≤ 1) (by decide) (by decide)), (Or.inr (⟨rfl, (show mo_gt (mm_D w9 fv ar) (kk.toInt.toNat) from by have hr25 : ar 25 (kk.toInt.toNat) = v_1 := ((show v_1 = ar 25 (kk.toInt.toNat) from by rw [ev_1]; exact congrArg (ar 25) (show kk.toInt.toNat = (kk.toInt.toNat) from by omega))).symm; have hr29 : ar 29 (kk.toInt.toNat) = v_7 := ((show v_7 = ar 29 (kk.toInt.toNat) from by rw [ev_7]; exact congrArg (ar 29) (show kk.toInt.toNat = (kk.toInt.toNat) from by omega))).symm; have hr30 : ar 30 (kk.toInt.toNat) = v_14 := ((show v_14 = ar 30 (kk.toInt.toNat) from by rw [ev_14]; exact congrArg (ar 30) (show kk.toInt.toNat = (kk.toInt.toNat) from by omega))).symm; exact ⟨(show (ar 29 (kk.toInt.toNat)).toInt ≤ (fv 3).toInt from by rw [hr29]; omega), (show (fv 3).toInt ≤ (ar 30 (kk.toInt.toNat)).toInt from by rw [hr30]; omega), (show (ar 25 (kk.toInt.toNat)).toInt ≠ (fv 84).toInt from by rw [hr25]; omega)⟩)⟩)), trivial⟩, ⟨by rw [ht]; exact hP, va_K.moved hW.alike hK⟩⟩, hS.F ht⟩) hS.2.2 dX12_runsToday_44
set_option maxHeartbeats 4000000 in
set_option maxRecDepth 100000 in
theorem m_isHeardE (l : Launch) (dC : Nat → ClassId) (dI : Nat → Nat → Nat) (sz h : Nat) (ad : Nat → Nat) (cA : Nat → ClassId) (hd : dM h ad) (fv : Nat → Int32) (wd : Int64) (ar : Nat → Nat → Int32) (hF_fv : rF fv) (hA_ar : rA ar) (G9 : Nat → Int) (w9 : Nat → Int32) (pp : Int32) (kk : Int32) (h_pp : 0 ≤ pp.toInt ∧ pp.toInt ≤ 39) (h_kk : 0 ≤ kk.toInt ∧ kk.toInt ≤ 79) (hp_nR : mm_R G9 fv ar) (hp_mF : wt_fm G9 (fv 8) (ar 4)) : Met l yX12_isHeard (.code yX12_isHeard cX12_isHeard 3 (some .boolean) :: lw_good) ({ frames := 5, cells := 0, slots := 0, locals := 104 }) (va_Pc [.ref h, .int pp, .int kk] (prM dC dI h ad cA fv wd ar sz)) (va_Qi (fun (r : Int32) (u : mS) => rF u.1 ∧ rA u.2.2 ∧ fM [8] fv u.1 ∧ fA [4] ar u.2.2 ∧ (0 ≤ r.toInt ∧ r.toInt ≤ 1) ∧ ((r = 0 ∧ (¬ mo_g (mm_D w9 fv ar) G9 (pp.toInt.toNat) (kk.toInt.toNat))) ∨ (r = 1 ∧ (mo_g (mm_D w9 fv ar) G9 (pp.toInt.toNat) (kk.toInt.toNat)))) ∧ (wt_fm G9 (u.1 8) (u.2.2 4)) ∧ True) (enM dC dI h ad cA) (aM h ad sz)) 0 0 (aM h ad sz) := by
  refine Met.ofW (cc := cX12_isHeard) (maxL := 3) (ret := (some .boolean)) (by decide) rfl ?_
  intro p e s m args below meth c s₁ B hml hv
  obtain ⟨rfl, hsz, hP, hK⟩ := hv
  have hx := B.exec
  have hb := B.bytes
  have hr := B.returns
  have hts := atoms_spec (ws := (.code yX12_isHeard cX12_isHeard 3 (some .boolean) :: lw_good)) B.pre
  have htg : ∀ w ∈ lw_good, w.before _ s = true := fun w hw => hts w (List.mem_cons_of_mem _ hw)
  have hown : s.vm.findClass RX12 = some m.cls := findClass_of_methodNamed B.named
  have hlocks := B.notSynchronized
  subst hsz
  have hS : va_S (aM h ad s.heap.size) s.heap s.heap [] := va_S.rf
  have hl := lv_entry ([.ref h, .int pp, .int kk]) (n := 3) (Nat.le_of_ble_eq_true rfl)
  rw [lg_entry_eq]
  generalize (lg_sl ([.ref h, .int pp, .int kk]) ++ List.replicate (3 - (lg_sl ([.ref h, .int pp, .int kk])).length) Slot.unset).toArray = ls at hl ⊢
  have hl : lv_has ls 3 [(0, .ref h), (1, .int pp), (2, .int kk)] := hl
  refine lv_aload_n hx hb dX12_isHeard_0 rfl (lv_at hl 0 rfl) ?_
  refine lv_iload_n hx hb dX12_isHeard_1 rfl (lv_at hl 2 rfl) ?_
  refine va_calli (va_runV (As := [.int kk]) (rest := []) ⟨hx, hb, hml, hown, hts⟩ (m_runsTodayE l dC dI s.heap.size h ad cA hd fv wd ar hF_fv hA_ar w9 kk h_kk) (cwV 1 hts (gV kw_8_180 kw_8_182 kw_p_85 kw_1_15 kw_8_183) rfl rfl rfl (by decide +kernel) ⟨Nat.le_of_ble_eq_true rfl, Nat.le_of_ble_eq_true rfl⟩) ⟨fun a U g mk q => ⟨q.1, q.2.1, q.2.2.1, va_K.moved (u := U) (U := U.calling g mk a) (Vm.Alike.refl U.vm) q.2.2.2⟩, va_recv hK hP (ci := 12) (q0 := 0) rfl rfl, fun U hU hW => ⟨rfl, by rw [hU], by rw [hU]; exact hP, va_K.moved hW.alike hK⟩⟩ rfl rfl hl.1 rfl (lv_room (Nat.le_of_ble_eq_true rfl)) dX12_isHeard_2 ⟨Nat.le_of_ble_eq_true rfl, Nat.le_of_ble_eq_true rfl⟩) hS (fun q _ h9 => aM_up hS q h9) (aM_up hS) (fun r_1 u t H1 locs ht _ hw hB _ hk1 hS => ?_)
  obtain ⟨fv_4, wd_5, ar_6⟩ := u
  obtain ⟨hF_fv_4, hA_ar_6, fr_7, fa_8, p_2, p_3, -⟩ := hw
  have hP : va_P (dC, dI) vwCl (wsM h ad cA fv_4 wd_5 ar_6) H1 := by have h9 := hB.1; rw [ht] at h9; exact h9
  have fr_7 : fM [] fv fv_4 := fr_7
  have fa_8 : fA [] ar ar_6 := fa_8
  generalize H1 = H at hP hS ⊢
  rcases p_3 with ⟨rfl, p_3⟩ | ⟨rfl, p_3⟩
  · skip
    have q_9 : ¬ mo_gt (mm_D w9 fv ar) (kk.toInt.toNat) := p_3
    refine lv_if_eq (tgt := 42) hx hb dX12_isHeard_5 (by decide) (fun c_10 => ?_) (fun c_10 => ?_)
    · skip
      refine lv_iconst (v := 0) hx hb dX12_isHeard_42 (by decide) ?_
      exact W.zret (v := 0) hx hb hr (by decide) (fun t ht hW => ⟨⟨0, (fv_4, wd_5, ar_6), rfl, ⟨hF_fv_4, hA_ar_6, (fM_call (fM_rf [8] _) fr_7 (by decide)), (fA_call (fA_rf [4] _) fa_8 (by decide)), (iv_w (⟨by decide, by decide⟩ : (0 : Int) ≤ (0 : Int32).toInt ∧ (0 : Int32).toInt ≤ 0) (by decide) (by decide)), (Or.inl ⟨rfl, (show ¬ (mo_g (mm_D w9 fv ar) G9 (pp.toInt.toNat) (kk.toInt.toNat)) from fun w => absurd w.1.1 (by have h9 := q_9; exact h9))⟩), (mF_fr hp_mF (fM_call (fM_rf [] _) fr_7 (by decide)) (fA_call (fA_rf [] _) fa_8 (by decide)) rfl rfl), trivial⟩, ⟨by rw [ht]; exact hP, va_K.moved hW.alike hK⟩⟩, hS.F ht⟩) hS.2.2 dX12_isHeard_43
    · skip
      exact absurd c_10 (by decide)
  · skip
    have q_11 : mo_gt (mm_D w9 fv ar) (kk.toInt.toNat) := p_3
    refine lv_if_eq (tgt := 42) hx hb dX12_isHeard_5 (by decide) (fun c_12 => ?_) (fun c_12 => ?_)
    · skip
      exact absurd c_12 (by decide)
    · skip
      refine lv_aload_n hx hb dX12_isHeard_8 rfl (lv_at hl 0 rfl) ?_
      refine gM_31 hx hb htg hown hK hP dX12_isHeard_9 ?_
      refine lv_iload_n hx hb dX12_isHeard_12 rfl (lv_at hl 2 rfl) ?_
      refine lM_31 hx hb hK hP (iv_in h_kk (by decide) (by decide)) dX12_isHeard_13 (fun v_13 ev_13 => ?_)
      have i_14 : 0 ≤ v_13.toInt ∧ v_13.toInt ≤ 199 := (by rw [ev_13, show ar_6 31 = ar 31 from ((fA_call (fA_rf [] _) fa_8 (by decide)) 31 rfl)]; exact hp_nR.2.2.1 _)
      refine lv_aload_n hx hb dX12_isHeard_14 rfl (lv_at hl 0 rfl) ?_
      refine gM_3 hx hb htg hown hK hP dX12_isHeard_15 ?_
      refine my_ti (y := fv 3) ((fr_7 3 rfl)) ?_
      have i_15 : 0 ≤ (fv 3).toInt ∧ (fv 3).toInt ≤ 199 := hF_fv 3
      refine lv_aload_n hx hb dX12_isHeard_18 rfl (lv_at hl 0 rfl) ?_
      refine gM_17 hx hb htg hown hK hP dX12_isHeard_19 ?_
      refine lv_iload_n hx hb dX12_isHeard_22 rfl (lv_at hl 1 rfl) ?_
      refine lM_17 hx hb hK hP (iv_in h_pp (by decide) (by decide)) dX12_isHeard_23 (fun v_16 ev_16 => ?_)
      have i_17 : 0 ≤ v_16.toInt ∧ v_16.toInt ≤ 9 := (by rw [ev_16, show ar_6 17 = ar 17 from ((fA_call (fA_rf [] _) fa_8 (by decide)) 17 rfl)]; exact hp_nR.2.2.2 _)
      refine lv_isub hx hb dX12_isHeard_24 ?_
      refine lv_topi (fun v_18 ev_18 => ?_)
      have t_19 : v_18.toInt = (fv 3 : Int32).toInt - v_16.toInt ∧ (-9) ≤ v_18.toInt ∧ v_18.toInt ≤ 199 := iv_sub ev_18 i_15 i_17 (by decide) (by decide)
      refine lv_icmp_gt (tgt := 42) hx hb dX12_isHeard_25 (by decide) (fun c_21 => ?_) (fun c_21 => ?_)
      · skip
        have i_22 : (-9) ≤ v_18.toInt ∧ v_18.toInt ≤ 198 := iv_lt1 t_19.2 i_14 c_21
        have k_23 := Int32.lt_iff_toInt_lt.mp c_21
        refine lv_iconst (v := 0) hx hb dX12_isHeard_42 (by decide) ?_
        exact W.zret (v := 0) hx hb hr (by decide) (fun t ht hW => ⟨⟨0, (fv_4, wd_5, ar_6), rfl, ⟨hF_fv_4, hA_ar_6, (fM_call (fM_rf [8] _) fr_7 (by decide)), (fA_call (fA_rf [4] _) fa_8 (by decide)), (iv_w (⟨by decide, by decide⟩ : (0 : Int) ≤ (0 : Int32).toInt ∧ (0 : Int32).toInt ≤ 0) (by decide) (by decide)), (Or.inl ⟨rfl, (show ¬ (mo_g (mm_D w9 fv ar) G9 (pp.toInt.toNat) (kk.toInt.toNat)) from by have h31 : ar 31 (kk.toInt.toNat) = v_13 := ((show v_13 = ar 31 (kk.toInt.toNat) from by rw [ev_13, show ar_6 31 = ar 31 from ((fA_call (fA_rf [] _) fa_8 (by decide)) 31 rfl)]; exact congrArg (ar 31) (show kk.toInt.toNat = (kk.toInt.toNat) from by omega))).symm; have h17 : ar 17 (pp.toInt.toNat) = v_16 := ((show v_16 = ar 17 (pp.toInt.toNat) from by rw [ev_16, show ar_6 17 = ar 17 from ((fA_call (fA_rf [] _) fa_8 (by decide)) 17 rfl)]; exact congrArg (ar 17) (show pp.toInt.toNat = (pp.toInt.toNat) from by omega))).symm; intro w; have w1 : (ar 31 (kk.toInt.toNat)).toInt + (ar 17 (pp.toInt.toNat)).toInt ≤ (fv 3).toInt := w.2; rw [h31, h17] at w1; omega)⟩), (mF_fr hp_mF (fM_call (fM_rf [] _) fr_7 (by decide)) (fA_call (fA_rf [] _) fa_8 (by decide)) rfl rfl), trivial⟩, ⟨by rw [ht]; exact hP, va_K.moved hW.alike hK⟩⟩, hS.F ht⟩) hS.2.2 dX12_isHeard_43
      · skip
        have i_24 : 0 ≤ v_18.toInt ∧ v_18.toInt ≤ 199 := iv_le2 i_14 t_19.2 (Int32.not_lt.mp c_21)
        have k_25 := Int32.le_iff_toInt_le.mp (Int32.not_lt.mp c_21)
        refine lv_aload_n hx hb dX12_isHeard_28 rfl (lv_at hl 0 rfl) ?_
        refine lv_iload_n hx hb dX12_isHeard_29 rfl (lv_at hl 2 rfl) ?_
        refine va_calli (va_runV (As := [.int kk]) (rest := []) ⟨hx, hb, hml, hown, hts⟩ (m_tripFarE l dC dI H.size h ad cA hd fv_4 wd_5 ar_6 hF_fv_4 hA_ar_6 G9 w9 kk h_kk (mm_R_fr hp_nR (fM_call (fM_rf [] _) fr_7 (by decide)) (fA_call (fA_rf [] _) fa_8 (by decide)) rfl rfl rfl rfl rfl rfl rfl rfl rfl rfl rfl) (mF_fr hp_mF (fM_call (fM_rf [] _) fr_7 (by decide)) (fA_call (fA_rf [] _) fa_8 (by decide)) rfl rfl)) (cwV 1 hts (gV kw_8_200 kw_8_202 kw_p_90 kw_1_15 kw_8_203) rfl rfl rfl (by decide +kernel) ⟨Nat.le_of_ble_eq_true rfl, Nat.le_of_ble_eq_true rfl⟩) ⟨fun a U g mk q => ⟨q.1, q.2.1, q.2.2.1, va_K.moved (u := U) (U := U.calling g mk a) (Vm.Alike.refl U.vm) q.2.2.2⟩, va_recv hK hP (ci := 12) (q0 := 0) rfl rfl, fun U hU hW => ⟨rfl, by rw [hU], by rw [hU]; exact hP, va_K.moved hW.alike hK⟩⟩ rfl rfl hl.1 rfl (lv_room (Nat.le_of_ble_eq_true rfl)) dX12_isHeard_30 ⟨Nat.le_of_ble_eq_true rfl, Nat.le_of_ble_eq_true rfl⟩) hS (fun q _ h9 => aM_up hS q h9) (aM_up hS) (fun r_26 u t H1 locs ht _ hw hB _ hk1 hS => ?_)
        obtain ⟨fv_30, wd_31, ar_32⟩ := u
        obtain ⟨hF_fv_30, hA_ar_32, fr_33, fa_34, p_27, p_28, p_29, -⟩ := hw
        have hP : va_P (dC, dI) vwCl (wsM h ad cA fv_30 wd_31 ar_32) H1 := by have h9 := hB.1; rw [ht] at h9; exact h9
        have fr_33 : fM [8] fv_4 fv_30 := fr_33
        have fa_34 : fA [4] ar_6 ar_32 := fa_34
        have p_29 : wt_fm G9 (fv_30 8) (ar_32 4) := p_29
        have p_28 : wt_rl (mo_ln (mm_D w9 fv_4 ar_6) G9 (kk.toInt.toNat)) r_26.toInt := p_28
        generalize H1 = H at hP hS ⊢
        have ln_35 : wt_rl (mo_ln (mm_D w9 fv ar) G9 (kk.toInt.toNat)) r_26.toInt := (by have h9 := p_28; rw [show mm_D w9 fv_4 ar_6 = mm_D w9 fv ar from (mm_D_fr (fM_call (fM_rf [] _) fr_7 (by decide)) (fA_call (fA_rf [] _) fa_8 (by decide)) rfl rfl)] at h9; exact h9)
        refine lv_ldc hx hb hown (htg (.constant RX12 225 100000) kw_7_232) dX12_isHeard_33 ?_
        refine lv_icmp_ge (tgt := 42) hx hb dX12_isHeard_35 (by decide) (fun c_36 => ?_) (fun c_36 => ?_)
        · skip
          have i_37 : 100000 ≤ r_26.toInt ∧ r_26.toInt ≤ 100000 := iv_le2 (⟨by decide, by decide⟩ : (100000 : Int) ≤ (100000 : Int32).toInt ∧ (100000 : Int32).toInt ≤ 100000) p_27 c_36
          refine lv_iconst (v := 0) hx hb dX12_isHeard_42 (by decide) ?_
          exact W.zret (v := 0) hx hb hr (by decide) (fun t ht hW => ⟨⟨0, (fv_30, wd_31, ar_32), rfl, ⟨hF_fv_30, hA_ar_32, (fM_call (fM_call (fM_rf [8] _) fr_7 (by decide)) fr_33 (by decide)), (fA_call (fA_call (fA_rf [4] _) fa_8 (by decide)) fa_34 (by decide)), (iv_w (⟨by decide, by decide⟩ : (0 : Int) ≤ (0 : Int32).toInt ∧ (0 : Int32).toInt ≤ 0) (by decide) (by decide)), (Or.inl ⟨rfl, (show ¬ (mo_g (mm_D w9 fv ar) G9 (pp.toInt.toNat) (kk.toInt.toNat)) from by intro w; have w1 := w.1.2; rcases ln_35 with ⟨w2, w3⟩ | ⟨w2, w3⟩ <;> omega)⟩), p_29, trivial⟩, ⟨by rw [ht]; exact hP, va_K.moved hW.alike hK⟩⟩, hS.F ht⟩) hS.2.2 dX12_isHeard_43
        · skip
          have i_38 : 0 ≤ r_26.toInt ∧ r_26.toInt ≤ 99999 := iv_lt1 p_27 (⟨by decide, by decide⟩ : (100000 : Int) ≤ (100000 : Int32).toInt ∧ (100000 : Int32).toInt ≤ 100000) (Int32.not_le.mp c_36)
          refine lv_iconst (v := 1) hx hb dX12_isHeard_38 (by decide) ?_
          refine lv_goto (tgt := 43) hx hb dX12_isHeard_39 (by decide) ?_
          exact W.zret (v := 1) hx hb hr (by decide) (fun t ht hW => ⟨⟨1, (fv_30, wd_31, ar_32), rfl, ⟨hF_fv_30, hA_ar_32, (fM_call (fM_call (fM_rf [8] _) fr_7 (by decide)) fr_33 (by decide)), (fA_call (fA_call (fA_rf [4] _) fa_8 (by decide)) fa_34 (by decide)), (iv_w (⟨by decide, by decide⟩ : (1 : Int) ≤ (1 : Int32).toInt ∧ (1 : Int32).toInt ≤ 1) (by decide) (by decide)), (Or.inr (⟨rfl, (show mo_g (mm_D w9 fv ar) G9 (pp.toInt.toNat) (kk.toInt.toNat) from by have h31 : ar 31 (kk.toInt.toNat) = v_13 := ((show v_13 = ar 31 (kk.toInt.toNat) from by rw [ev_13, show ar_6 31 = ar 31 from ((fA_call (fA_rf [] _) fa_8 (by decide)) 31 rfl)]; exact congrArg (ar 31) (show kk.toInt.toNat = (kk.toInt.toNat) from by omega))).symm; have h17 : ar 17 (pp.toInt.toNat) = v_16 := ((show v_16 = ar 17 (pp.toInt.toNat) from by rw [ev_16, show ar_6 17 = ar 17 from ((fA_call (fA_rf [] _) fa_8 (by decide)) 17 rfl)]; exact congrArg (ar 17) (show pp.toInt.toNat = (pp.toInt.toNat) from by omega))).symm; exact ⟨⟨(by have h9 := q_11; exact h9), by rcases ln_35 with ⟨w1, w2⟩ | ⟨w1, w2⟩ <;> omega⟩, (show (ar 31 (kk.toInt.toNat)).toInt + (ar 17 (pp.toInt.toNat)).toInt ≤ (fv 3).toInt from by rw [h31, h17]; omega)⟩)⟩)), p_29, trivial⟩, ⟨by rw [ht]; exact hP, va_K.moved hW.alike hK⟩⟩, hS.F ht⟩) hS.2.2 dX12_isHeard_43

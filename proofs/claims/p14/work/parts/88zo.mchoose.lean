set_option maxHeartbeats 4000000 in
set_option maxRecDepth 100000 in
theorem m_arriveE (l : Launch) (dC : Nat → ClassId) (dI : Nat → Nat → Nat) (sz h : Nat) (ad : Nat → Nat) (cA : Nat → ClassId) (hd : dM h ad) (fv : Nat → Int32) (wd : Int64) (ar : Nat → Nat → Int32) (hF_fv : rF fv) (hA_ar : rA ar) (G9 : Nat → Int) (pp : Int32) (h_pp : 0 ≤ pp.toInt ∧ pp.toInt ≤ 39) (hp_sW : sW ar) (hp_nR : mm_R G9 fv ar) (hp_nC : mm_c fv ar) : Met l yX12_arrive (.code yX12_arrive cX12_arrive 2 none :: lw_good) ({ frames := 2, cells := 0, slots := 0, locals := 40 }) (va_Pc [.ref h, .int pp] (prM dC dI h ad cA fv wd ar sz)) (va_Qv (fun (u : mS) => rF u.1 ∧ rA u.2.2 ∧ fM [] fv u.1 ∧ fA [68, 72] ar u.2.2 ∧ (mm_T u.1 u.2.2 = mo_ar (mm_T fv ar) (pp.toInt.toNat) (fv 85).toInt) ∧ (sW u.2.2) ∧ (mm_c u.1 u.2.2) ∧ True) (enM dC dI h ad cA) (aM h ad sz)) 0 0 (aM h ad sz) := by
  refine Met.ofW (cc := cX12_arrive) (maxL := 2) (ret := none) (by decide) rfl ?_
  intro p e s m args below meth c s₁ B hml hv
  obtain ⟨rfl, hsz, hP, hK⟩ := hv
  have hx := B.exec
  have hb := B.bytes
  have hr := B.returns
  have hts := atoms_spec (ws := (.code yX12_arrive cX12_arrive 2 none :: lw_good)) B.pre
  have htg : ∀ w ∈ lw_good, w.before _ s = true := fun w hw => hts w (List.mem_cons_of_mem _ hw)
  have hown : s.vm.findClass RX12 = some m.cls := findClass_of_methodNamed B.named
  have hlocks := B.notSynchronized
  subst hsz
  have hS : va_S (aM h ad s.heap.size) s.heap s.heap [] := va_S.rf
  have hl := lv_entry ([.ref h, .int pp]) (n := 2) (Nat.le_of_ble_eq_true rfl)
  rw [lg_entry_eq]
  generalize (lg_sl ([.ref h, .int pp]) ++ List.replicate (2 - (lg_sl ([.ref h, .int pp])).length) Slot.unset).toArray = ls at hl ⊢
  have hl : lv_has ls 2 [(0, .ref h), (1, .int pp)] := hl
  refine lv_aload_n hx hb dX12_arrive_0 rfl (lv_at hl 0 rfl) ?_
  refine gM_68 hx hb htg hown hK hP dX12_arrive_1 ?_
  refine lv_iload_n hx hb dX12_arrive_4 rfl (lv_at hl 1 rfl) ?_
  refine lM_68 hx hb hK hP (iv_in h_pp (by decide) (by decide)) dX12_arrive_5 (fun v_1 ev_1 => ?_)
  refine lv_iconst (v := 1) hx hb dX12_arrive_6 (by decide) ?_
  refine lv_icmp_ne (tgt := 18) hx hb dX12_arrive_7 (by decide) (fun c_2 => ?_) (fun c_2 => ?_)
  · skip
    have k_3 : ¬ v_1.toInt = 1 := fun q => c_2 (Int32.toInt_inj.mp q)
    refine lv_aload_n hx hb dX12_arrive_18 rfl (lv_at hl 0 rfl) ?_
    refine gM_68 hx hb htg hown hK hP dX12_arrive_19 ?_
    refine lv_iload_n hx hb dX12_arrive_22 rfl (lv_at hl 1 rfl) ?_
    refine lv_iconst (v := 5) hx hb dX12_arrive_23 (by decide) ?_
    refine sM_68 hx hb hK hP hS hd (iv_in h_pp (by decide) (by decide)) dX12_arrive_24 (fun H locs ar_4 ear_4 hP hS => ?_)
    have hA_ar_4 : rA ar_4 := rA_put hA_ar ear_4 (iv_any _)
    have hp_5 : sW ar_4 := sW_68 hp_sW ear_4 (Or.inr (Or.inl (Int.lt_of_lt_of_le (by decide) ((⟨by decide, by decide⟩ : (5 : Int) ≤ (5 : Int32).toInt ∧ (5 : Int32).toInt ≤ 5)).1)))
    refine lv_aload_n hx hb dX12_arrive_25 rfl (lv_at hl 0 rfl) ?_
    refine gM_72 hx hb htg hown hK hP dX12_arrive_26 ?_
    refine lv_iload_n hx hb dX12_arrive_29 rfl (lv_at hl 1 rfl) ?_
    refine lv_aload_n hx hb dX12_arrive_30 rfl (lv_at hl 0 rfl) ?_
    refine gM_85 hx hb htg hown hK hP dX12_arrive_31 ?_
    have i_6 : 0 ≤ (fv 85).toInt ∧ (fv 85).toInt ≤ 840 := hF_fv 85
    refine sM_72 hx hb hK hP hS hd (iv_in h_pp (by decide) (by decide)) dX12_arrive_34 (fun H locs ar_7 ear_7 hP hS => ?_)
    have hA_ar_7 : rA ar_7 := rA_put hA_ar_4 ear_7 (iv_any _)
    have hp_8 : mm_c fv ar_7 := mm_c_st (mm_c_fr hp_nC (fM_rf [] _) (fA_put (fA_rf [68] _) ear_4 (by decide)) rfl rfl) ear_7 (by have h85 := i_6; omega)
    exact W.vret hx hb hr (fun t ht hW => ⟨⟨(fv, wd, ar_7), rfl, ⟨hF_fv, hA_ar_7, (fM_rf [] _), (fA_put (fA_put (fA_rf [68, 72] _) ear_4 (by decide)) ear_7 (by decide)), (show mm_T fv ar_7 = mo_ar (mm_T fv ar) (pp.toInt.toNat) (fv 85).toInt from mm_ar_5 (v := (fv 85)) (by show ¬ (ar 68 (pp.toInt.toNat)).toInt = 1; rw [(show (ar 68 (pp.toInt.toNat)).toInt = v_1.toInt from by rw [show ar 68 (pp.toInt.toNat) = v_1 from ((show v_1 = ar 68 (pp.toInt.toNat) from by rw [ev_1]; exact congrArg (ar 68) (show pp.toInt.toNat = (pp.toInt.toNat) from by omega))).symm])]; omega) ((mm_T_put (f := fv) (r := 2) (n := (pp.toInt.toNat)) (by decide) (by decide) ear_7).trans (congrArg (fun z9 => mo_se z9 2 (pp.toInt.toNat) (fv 85)) (mm_T_put (f := fv) (r := 6) (n := (pp.toInt.toNat)) (by decide) (by decide) ear_4))) rfl), (sW_fr hp_5 (fA_put (fA_rf [72] _) ear_7 (by decide)) rfl rfl), hp_8, trivial⟩, ⟨by rw [ht]; exact hP, va_K.moved hW.alike hK⟩⟩, hS.F ht⟩) hS.2.2 dX12_arrive_35
  · skip
    have i_9 : 1 ≤ v_1.toInt ∧ v_1.toInt ≤ 1 := iv_eq1 (⟨by decide, by decide⟩ : (1 : Int) ≤ (1 : Int32).toInt ∧ (1 : Int32).toInt ≤ 1) c_2
    refine lv_aload_n hx hb dX12_arrive_10 rfl (lv_at hl 0 rfl) ?_
    refine gM_68 hx hb htg hown hK hP dX12_arrive_11 ?_
    refine lv_iload_n hx hb dX12_arrive_14 rfl (lv_at hl 1 rfl) ?_
    refine lv_iconst (v := 2) hx hb dX12_arrive_15 (by decide) ?_
    refine sM_68 hx hb hK hP hS hd (iv_in h_pp (by decide) (by decide)) dX12_arrive_16 (fun H locs ar_11 ear_11 hP hS => ?_)
    have hA_ar_11 : rA ar_11 := rA_put hA_ar ear_11 (iv_any _)
    have hp_12 : sW ar_11 := sW_68 hp_sW ear_11 (Or.inr (Or.inr (by have h9 := hp_sW pp.toNatClampNeg; rw [← ev_1] at h9; exact h9 (Int.le_trans (by decide) (i_9).1) (Int.le_trans (i_9).2 (by decide)))))
    exact W.vret hx hb hr (fun t ht hW => ⟨⟨(fv, wd, ar_11), rfl, ⟨hF_fv, hA_ar_11, (fM_rf [] _), (fA_put (fA_rf [68, 72] _) ear_11 (by decide)), (show mm_T fv ar_11 = mo_ar (mm_T fv ar) (pp.toInt.toNat) (fv 85).toInt from mm_ar_1 (by show (ar 68 (pp.toInt.toNat)).toInt = 1; rw [(show (ar 68 (pp.toInt.toNat)).toInt = v_1.toInt from by rw [show ar 68 (pp.toInt.toNat) = v_1 from ((show v_1 = ar 68 (pp.toInt.toNat) from by rw [ev_1]; exact congrArg (ar 68) (show pp.toInt.toNat = (pp.toInt.toNat) from by omega))).symm])]; omega) (mm_T_put (f := fv) (r := 6) (n := (pp.toInt.toNat)) (by decide) (by decide) ear_11)), hp_12, (mm_c_fr hp_nC (fM_rf [] _) (fA_put (fA_rf [68] _) ear_11 (by decide)) rfl rfl), trivial⟩, ⟨by rw [ht]; exact hP, va_K.moved hW.alike hK⟩⟩, hS.F ht⟩) hS.2.2 dX12_arrive_17
set_option maxHeartbeats 4000000 in
set_option maxRecDepth 100000 in
theorem m_setOutE (l : Launch) (dC : Nat → ClassId) (dI : Nat → Nat → Nat) (sz h : Nat) (ad : Nat → Nat) (cA : Nat → ClassId) (hd : dM h ad) (fv : Nat → Int32) (wd : Int64) (ar : Nat → Nat → Int32) (hF_fv : rF fv) (hA_ar : rA ar) (G9 : Nat → Int) (w9 : Nat → Int32) (pp : Int32) (to0 : Int32) (how : Int32) (tr : Int32) (h_pp : 0 ≤ pp.toInt ∧ pp.toInt ≤ 39) (h_to0 : 0 ≤ to0.toInt ∧ to0.toInt ≤ 11) (h_how : 1 ≤ how.toInt ∧ how.toInt ≤ 4) (h_tr : (-1) ≤ tr.toInt ∧ tr.toInt ≤ 79) (hht : how.toInt = 4 ∨ 0 ≤ tr.toInt) (hgl : G9 (12 * (ar 69 (pp.toInt.toNat)).toInt.toNat + to0.toInt.toNat) < 10000000) (hp_sW : sW ar) (hp_nR : mm_R G9 fv ar) (hp_nC : mm_c fv ar) (hp_mF : wt_fm G9 (fv 8) (ar 4)) : Met l yX12_setOut (.code yX12_setOut cX12_setOut 8 none :: lw_good) ({ frames := 5, cells := 0, slots := 0, locals := 106 }) (va_Pc [.ref h, .int pp, .int to0, .int how, .int tr] (prM dC dI h ad cA fv wd ar sz)) (va_Qv (fun (u : mS) => rF u.1 ∧ rA u.2.2 ∧ fM [8] fv u.1 ∧ fA [4, 15, 18, 68, 69, 70, 71, 72, 74] ar u.2.2 ∧ (mm_T u.1 u.2.2 = mo_so (mm_D w9 fv ar) G9 (mm_T fv ar) (pp.toInt.toNat) to0.toInt.toNat how tr (fv 85).toInt) ∧ (sW u.2.2) ∧ (mm_c u.1 u.2.2) ∧ (wt_fm G9 (u.1 8) (u.2.2 4)) ∧ True) (enM dC dI h ad cA) (aM h ad sz)) 0 0 (aM h ad sz) := by
  refine Met.ofW (cc := cX12_setOut) (maxL := 8) (ret := none) (by decide) rfl ?_
  intro p e s m args below meth c s₁ B hml hv
  obtain ⟨rfl, hsz, hP, hK⟩ := hv
  have hx := B.exec
  have hb := B.bytes
  have hr := B.returns
  have hts := atoms_spec (ws := (.code yX12_setOut cX12_setOut 8 none :: lw_good)) B.pre
  have htg : ∀ w ∈ lw_good, w.before _ s = true := fun w hw => hts w (List.mem_cons_of_mem _ hw)
  have hown : s.vm.findClass RX12 = some m.cls := findClass_of_methodNamed B.named
  have hlocks := B.notSynchronized
  subst hsz
  have hS : va_S (aM h ad s.heap.size) s.heap s.heap [] := va_S.rf
  have hl := lv_entry ([.ref h, .int pp, .int to0, .int how, .int tr]) (n := 8) (Nat.le_of_ble_eq_true rfl)
  rw [lg_entry_eq]
  generalize (lg_sl ([.ref h, .int pp, .int to0, .int how, .int tr]) ++ List.replicate (8 - (lg_sl ([.ref h, .int pp, .int to0, .int how, .int tr])).length) Slot.unset).toArray = ls at hl ⊢
  have hl : lv_has ls 8 [(0, .ref h), (1, .int pp), (2, .int to0), (3, .int how), (4, .int tr)] := hl
  refine lv_aload_n hx hb dX12_setOut_0 rfl (lv_at hl 0 rfl) ?_
  refine lv_aload_n hx hb dX12_setOut_1 rfl (lv_at hl 0 rfl) ?_
  refine gM_69 hx hb htg hown hK hP dX12_setOut_2 ?_
  refine lv_iload_n hx hb dX12_setOut_5 rfl (lv_at hl 1 rfl) ?_
  refine lM_69 hx hb hK hP (iv_in h_pp (by decide) (by decide)) dX12_setOut_6 (fun v_1 ev_1 => ?_)
  have i_2 : 0 ≤ v_1.toInt ∧ v_1.toInt ≤ 11 := ev_1 ▸ hA_ar 69 _
  refine lv_iload_n hx hb dX12_setOut_7 rfl (lv_at hl 2 rfl) ?_
  refine va_calli (va_runV (As := [.int v_1, .int to0]) (rest := []) ⟨hx, hb, hml, hown, hts⟩ (m_farOf l dC dI s.heap.size h ad cA hd fv wd ar hF_fv hA_ar G9 v_1 to0 i_2 h_to0 hp_mF) (cwV 2 hts (gV kw_7_237 kw_7_239 kw_p_59 kw_1_15 kw_8_0) rfl rfl rfl (by decide +kernel) ⟨Nat.le_of_ble_eq_true rfl, Nat.le_of_ble_eq_true rfl⟩) ⟨fun a U g mk q => ⟨q.1, q.2.1, q.2.2.1, va_K.moved (u := U) (U := U.calling g mk a) (Vm.Alike.refl U.vm) q.2.2.2⟩, va_recv hK hP (ci := 12) (q0 := 0) rfl rfl, fun U hU hW => ⟨rfl, by rw [hU], by rw [hU]; exact hP, va_K.moved hW.alike hK⟩⟩ rfl rfl hl.1 rfl (lv_room (Nat.le_of_ble_eq_true rfl)) dX12_setOut_8 ⟨Nat.le_of_ble_eq_true rfl, Nat.le_of_ble_eq_true rfl⟩) hS (fun q _ h9 => aM_up hS q h9) (aM_up hS) (fun r_3 u t H1 locs ht _ hw hB _ hk1 hS => ?_)
  obtain ⟨fv_7, wd_8, ar_9⟩ := u
  obtain ⟨hF_fv_7, hA_ar_9, fr_10, fa_11, p_4, p_5, p_6, -⟩ := hw
  have hP : va_P (dC, dI) vwCl (wsM h ad cA fv_7 wd_8 ar_9) H1 := by have h9 := hB.1; rw [ht] at h9; exact h9
  have fr_10 : fM [8] fv fv_7 := fr_10
  have fa_11 : fA [4] ar ar_9 := fa_11
  have p_6 : wt_fm G9 (fv_7 8) (ar_9 4) := p_6
  have p_5 : wt_rl (G9 (12 * v_1.toInt.toNat + to0.toInt.toNat)) r_3.toInt := p_5
  generalize H1 = H at hP hS ⊢
  refine lv_istore (lv' := [(5, .int r_3), (0, .ref h), (1, .int pp), (2, .int to0), (3, .int how), (4, .int tr)]) hx hb dX12_setOut_11 hl (by decide) rfl (fun ls hl => ?_)
  refine lv_aload_n hx hb dX12_setOut_13 rfl (lv_at hl 1 rfl) ?_
  refine lv_iload_n hx hb dX12_setOut_14 rfl (lv_at hl 2 rfl) ?_
  refine lv_aload_n hx hb dX12_setOut_15 rfl (lv_at hl 1 rfl) ?_
  refine gM_69 hx hb htg hown hK hP dX12_setOut_16 ?_
  refine lv_iload_n hx hb dX12_setOut_19 rfl (lv_at hl 2 rfl) ?_
  refine lM_69 hx hb hK hP (iv_in h_pp (by decide) (by decide)) dX12_setOut_20 (fun v_12 ev_12 => ?_)
  obtain rfl : v_1 = v_12 := ev_1.trans ((congrFun ((fA_call (fA_rf [4] _) fa_11 (by decide)) 69 rfl) _).symm.trans ev_12.symm)
  refine lv_iload_n hx hb dX12_setOut_21 rfl (lv_at hl 3 rfl) ?_
  refine va_calli (va_runV (As := [.int pp, .int v_1, .int to0]) (rest := []) ⟨hx, hb, hml, hown, hts⟩ (m_walkE l dC dI H.size h ad cA hd fv_7 wd_8 ar_9 hF_fv_7 hA_ar_9 G9 w9 pp v_1 to0 h_pp i_2 h_to0 (mm_R_fr hp_nR (fM_call (fM_rf [8] _) fr_10 (by decide)) (fA_call (fA_rf [4] _) fa_11 (by decide)) rfl rfl rfl rfl rfl rfl rfl rfl rfl rfl rfl) p_6) (cwV 3 hts (gV kw_8_208 kw_8_210 kw_p_92 kw_1_15 kw_8_211) rfl rfl rfl (by decide +kernel) ⟨Nat.le_of_ble_eq_true rfl, Nat.le_of_ble_eq_true rfl⟩) ⟨fun a U g mk q => ⟨q.1, q.2.1, q.2.2.1, va_K.moved (u := U) (U := U.calling g mk a) (Vm.Alike.refl U.vm) q.2.2.2⟩, va_recv hK hP (ci := 12) (q0 := 0) rfl rfl, fun U hU hW => ⟨rfl, by rw [hU], by rw [hU]; exact hP, va_K.moved hW.alike hK⟩⟩ rfl rfl hl.1 rfl (lv_room (Nat.le_of_ble_eq_true rfl)) dX12_setOut_22 ⟨Nat.le_of_ble_eq_true rfl, Nat.le_of_ble_eq_true rfl⟩) hS (fun q _ h9 => aM_up hS q h9) (aM_up hS) (fun r_13 u t H1 locs ht _ hw hB _ hk1 hS => ?_)
  obtain ⟨fv_17, wd_18, ar_19⟩ := u
  obtain ⟨hF_fv_17, hA_ar_19, fr_20, fa_21, p_14, p_15, p_16, -⟩ := hw
  have hP : va_P (dC, dI) vwCl (wsM h ad cA fv_17 wd_18 ar_19) H1 := by have h9 := hB.1; rw [ht] at h9; exact h9
  have fr_20 : fM [8] fv_7 fv_17 := fr_20
  have fa_21 : fA [4] ar_9 ar_19 := fa_21
  have p_16 : wt_fm G9 (fv_17 8) (ar_19 4) := p_16
  have p_15 : mm_w G9 (mo_pc (mm_D w9 fv_7 ar_9) (ar_9 15 (pp.toInt.toNat)) (pp.toInt.toNat)) v_1.toInt.toNat to0.toInt.toNat r_13.toInt := p_15
  generalize H1 = H at hP hS ⊢
  have wk_22 : mm_w G9 (mo_pc (mm_D w9 fv ar) (ar 15 (pp.toInt.toNat)) (pp.toInt.toNat)) (v_1.toInt.toNat) (to0.toInt.toNat) r_13.toInt := (by have h9 := p_15; rw [show mm_D w9 fv_7 ar_9 = mm_D w9 fv ar from (mm_D_fr (fM_call (fM_rf [8] _) fr_10 (by decide)) (fA_call (fA_rf [4] _) fa_11 (by decide)) rfl rfl), show ar_9 15 = ar 15 from ((fA_call (fA_rf [4] _) fa_11 (by decide)) 15 rfl)] at h9; exact h9)
  refine lv_istore (lv' := [(6, .int r_13), (5, .int r_3), (0, .ref h), (1, .int pp), (2, .int to0), (3, .int how), (4, .int tr)]) hx hb dX12_setOut_25 hl (by decide) rfl (fun ls hl => ?_)
  refine lv_aload_n hx hb dX12_setOut_27 rfl (lv_at hl 2 rfl) ?_
  refine gM_74 hx hb htg hown hK hP dX12_setOut_28 ?_
  refine lv_iload_n hx hb dX12_setOut_31 rfl (lv_at hl 3 rfl) ?_
  refine lv_dup2_11 hx hb dX12_setOut_32 rfl rfl ?_
  refine lM_74 hx hb hK hP (iv_in h_pp (by decide) (by decide)) dX12_setOut_33 (fun v_23 ev_23 => ?_)
  refine lv_iload hx hb dX12_setOut_34 (lv_at hl 1 rfl) ?_
  refine lv_iadd hx hb dX12_setOut_36 ?_
  refine lv_topi (fun v_24 ev_24 => ?_)
  refine sM_74 hx hb hK hP hS hd (iv_in h_pp (by decide) (by decide)) dX12_setOut_37 (fun H locs ar_25 ear_25 hP hS => ?_)
  have hA_ar_25 : rA ar_25 := rA_put hA_ar_19 ear_25 (iv_any _)
  refine lv_aload_n hx hb dX12_setOut_38 rfl (lv_at hl 2 rfl) ?_
  refine gM_18 hx hb htg hown hK hP dX12_setOut_39 ?_
  refine lv_iload_n hx hb dX12_setOut_42 rfl (lv_at hl 3 rfl) ?_
  refine lM_18 hx hb hK hP (iv_in h_pp (by decide) (by decide)) dX12_setOut_43 (fun v_26 ev_26 => ?_)
  refine lv_sipush (v := 300) hx hb dX12_setOut_44 (by decide) ?_
  refine lv_idiv hx hb dX12_setOut_47 (by decide) ?_
  refine lv_topi (fun v_27 ev_27 => ?_)
  refine lv_istore (lv' := [(7, .int v_27), (6, .int r_13), (5, .int r_3), (0, .ref h), (1, .int pp), (2, .int to0), (3, .int how), (4, .int tr)]) hx hb dX12_setOut_48 hl (by decide) rfl (fun ls hl => ?_)
  refine lv_aload_n hx hb dX12_setOut_50 rfl (lv_at hl 3 rfl) ?_
  refine gM_18 hx hb htg hown hK hP dX12_setOut_51 ?_
  refine lv_iload_n hx hb dX12_setOut_54 rfl (lv_at hl 4 rfl) ?_
  refine lv_dup2_11 hx hb dX12_setOut_55 rfl rfl ?_
  refine lM_18 hx hb hK hP (iv_in h_pp (by decide) (by decide)) dX12_setOut_56 (fun v_28 ev_28 => ?_)
  obtain rfl : v_26 = v_28 := ev_26.trans ev_28.symm
  refine lv_iload hx hb dX12_setOut_57 (lv_at hl 2 rfl) ?_
  refine lv_iadd hx hb dX12_setOut_59 ?_
  refine lv_topi (fun v_29 ev_29 => ?_)
  refine sM_18 hx hb hK hP hS hd (iv_in h_pp (by decide) (by decide)) dX12_setOut_60 (fun H locs ar_30 ear_30 hP hS => ?_)
  have hA_ar_30 : rA ar_30 := rA_put hA_ar_25 ear_30 (iv_any _)
  refine lv_aload_n hx hb dX12_setOut_61 rfl (lv_at hl 3 rfl) ?_
  refine gM_15 hx hb htg hown hK hP dX12_setOut_62 ?_
  refine lv_iload_n hx hb dX12_setOut_65 rfl (lv_at hl 4 rfl) ?_
  refine lv_dup2_11 hx hb dX12_setOut_66 rfl rfl ?_
  refine lM_15 hx hb hK hP (iv_in h_pp (by decide) (by decide)) dX12_setOut_67 (fun v_31 ev_31 => ?_)
  refine lv_aload_n hx hb dX12_setOut_68 rfl (lv_at hl 3 rfl) ?_
  refine gM_18 hx hb htg hown hK hP dX12_setOut_69 ?_
  refine lv_iload_n hx hb dX12_setOut_72 rfl (lv_at hl 4 rfl) ?_
  refine lM_18 hx hb hK hP (iv_in h_pp (by decide) (by decide)) dX12_setOut_73 (fun v_32 ev_32 => ?_)
  refine lv_sipush (v := 300) hx hb dX12_setOut_74 (by decide) ?_
  refine lv_idiv hx hb dX12_setOut_77 (by decide) ?_
  refine lv_topi (fun v_33 ev_33 => ?_)
  refine lv_iload hx hb dX12_setOut_78 (lv_at hl 0 rfl) ?_
  refine lv_isub hx hb dX12_setOut_80 ?_
  refine lv_topi (fun v_34 ev_34 => ?_)
  refine lv_isub hx hb dX12_setOut_81 ?_
  refine lv_topi (fun v_35 ev_35 => ?_)
  refine sM_15 hx hb hK hP hS hd (iv_in h_pp (by decide) (by decide)) dX12_setOut_82 (fun H locs ar_36 ear_36 hP hS => ?_)
  have hA_ar_36 : rA ar_36 := rA_put hA_ar_30 ear_36 (iv_any _)
  refine lv_aload_n hx hb dX12_setOut_83 rfl (lv_at hl 3 rfl) ?_
  refine gM_15 hx hb htg hown hK hP dX12_setOut_84 ?_
  refine lv_iload_n hx hb dX12_setOut_87 rfl (lv_at hl 4 rfl) ?_
  refine lM_15 hx hb hK hP (iv_in h_pp (by decide) (by decide)) dX12_setOut_88 (fun v_37 ev_37 => ?_)
  refine lv_if_ge (tgt := 99) hx hb dX12_setOut_89 (by decide) (fun c_38 => ?_) (fun c_38 => ?_)
  · skip
    have i_39 : 0 ≤ v_37.toInt ∧ v_37.toInt ≤ 2147483647 := iv_le2 (⟨by decide, by decide⟩ : (0 : Int) ≤ (0 : Int32).toInt ∧ (0 : Int32).toInt ≤ 0) (iv_any v_37) c_38
    refine lv_aload_n hx hb dX12_setOut_99 rfl (lv_at hl 3 rfl) ?_
    refine gM_69 hx hb htg hown hK hP dX12_setOut_100 ?_
    refine lv_iload_n hx hb dX12_setOut_103 rfl (lv_at hl 4 rfl) ?_
    refine lv_iload_n hx hb dX12_setOut_104 rfl (lv_at hl 5 rfl) ?_
    refine sM_69 hx hb hK hP hS hd (iv_in h_pp (by decide) (by decide)) dX12_setOut_105 (fun H locs ar_40 ear_40 hP hS => ?_)
    have hA_ar_40 : rA ar_40 := rA_put hA_ar_36 ear_40 h_to0
    refine lv_aload_n hx hb dX12_setOut_106 rfl (lv_at hl 3 rfl) ?_
    refine gM_71 hx hb htg hown hK hP dX12_setOut_107 ?_
    refine lv_iload_n hx hb dX12_setOut_110 rfl (lv_at hl 4 rfl) ?_
    refine lv_iload hx hb dX12_setOut_111 (lv_at hl 7 rfl) ?_
    refine sM_71 hx hb hK hP hS hd (iv_in h_pp (by decide) (by decide)) dX12_setOut_113 (fun H locs ar_41 ear_41 hP hS => ?_)
    have hA_ar_41 : rA ar_41 := rA_put hA_ar_40 ear_41 h_tr
    refine lv_aload_n hx hb dX12_setOut_114 rfl (lv_at hl 3 rfl) ?_
    refine gM_68 hx hb htg hown hK hP dX12_setOut_115 ?_
    refine lv_iload_n hx hb dX12_setOut_118 rfl (lv_at hl 4 rfl) ?_
    refine lv_iload_n hx hb dX12_setOut_119 rfl (lv_at hl 6 rfl) ?_
    refine sM_68 hx hb hK hP hS hd (iv_in h_pp (by decide) (by decide)) dX12_setOut_120 (fun H locs ar_42 ear_42 hP hS => ?_)
    have hA_ar_42 : rA ar_42 := rA_put hA_ar_41 ear_42 (iv_any _)
    have hp_43 : sW ar_42 := sW_both (sW_fr hp_sW (fA_put (fA_put (fA_put (fA_put (fA_call (fA_call (fA_rf [4, 15, 18, 69, 74] _) fa_11 (by decide)) fa_21 (by decide)) ear_25 (by decide)) ear_30 (by decide)) ear_36 (by decide)) ear_40 (by decide)) rfl rfl) ear_41 ear_42 (by omega)
    refine lv_aload_n hx hb dX12_setOut_121 rfl (lv_at hl 3 rfl) ?_
    refine gM_70 hx hb htg hown hK hP dX12_setOut_122 ?_
    refine lv_iload_n hx hb dX12_setOut_125 rfl (lv_at hl 4 rfl) ?_
    refine lv_aload_n hx hb dX12_setOut_126 rfl (lv_at hl 3 rfl) ?_
    refine gM_85 hx hb htg hown hK hP dX12_setOut_127 ?_
    refine my_ti (y := fv 85) ((fr_20 85 rfl).trans ((fr_10 85 rfl))) ?_
    have i_44 : 0 ≤ (fv 85).toInt ∧ (fv 85).toInt ≤ 840 := hF_fv 85
    refine lv_iload hx hb dX12_setOut_130 (lv_at hl 1 rfl) ?_
    refine lv_iadd hx hb dX12_setOut_132 ?_
    refine lv_topi (fun v_45 ev_45 => ?_)
    have t_46 : v_45.toInt = (fv 85).toInt + r_13.toInt ∧ 0 ≤ v_45.toInt ∧ v_45.toInt ≤ 600840 := iv_add ev_45 i_44 p_14 (by decide) (by decide)
    refine sM_70 hx hb hK hP hS hd (iv_in h_pp (by decide) (by decide)) dX12_setOut_133 (fun H locs ar_48 ear_48 hP hS => ?_)
    have hA_ar_48 : rA ar_48 := rA_put hA_ar_42 ear_48 (iv_any _)
    refine lv_iload hx hb dX12_setOut_134 (lv_at hl 1 rfl) ?_
    refine lv_if_ne (tgt := 144) hx hb dX12_setOut_136 (by decide) (fun c_49 => ?_) (fun c_49 => ?_)
    · skip
      have i_50 : 1 ≤ r_13.toInt ∧ r_13.toInt ≤ 600000 := iv_nel p_14 (by decide) c_49
      have k_51 : ¬ r_13.toInt = 0 := fun q => c_49 (Int32.toInt_inj.mp q)
      exact W.vret hx hb hr (fun t ht hW => ⟨⟨(fv_17, wd_18, ar_48), rfl, ⟨hF_fv_17, hA_ar_48, (fM_call (fM_call (fM_rf [8] _) fr_10 (by decide)) fr_20 (by decide)), (fA_put (fA_put (fA_put (fA_put (fA_put (fA_put (fA_put (fA_call (fA_call (fA_rf [4, 15, 18, 68, 69, 70, 71, 72, 74] _) fa_11 (by decide)) fa_21 (by decide)) ear_25 (by decide)) ear_30 (by decide)) ear_36 (by decide)) ear_40 (by decide)) ear_41 (by decide)) ear_42 (by decide)) ear_48 (by decide)), (show mm_T fv_17 ar_48 = mo_so (mm_D w9 fv ar) G9 (mm_T fv ar) (pp.toInt.toNat) to0.toInt.toNat how tr (fv 85).toInt from by have h69 : ar 69 (pp.toInt.toNat) = v_1 := ((show v_1 = ar 69 (pp.toInt.toNat) from by rw [ev_1]; exact congrArg (ar 69) (show pp.toInt.toNat = (pp.toInt.toNat) from by omega))).symm; have hl9 : G9 (12 * (ar 69 (pp.toInt.toNat)).toInt.toNat + to0.toInt.toNat) = r_3.toInt := (by have hg9 := hgl; rw [h69] at hg9 ⊢; rcases p_5 with ⟨w1, w2⟩ | ⟨w1, w2⟩ <;> omega); have hw9 : mo_wk G9 (mo_pc (mm_D w9 fv ar) (ar 15 (pp.toInt.toNat)) (pp.toInt.toNat)) (ar 69 (pp.toInt.toNat)).toInt.toNat to0.toInt.toNat = r_13.toInt := (by have hg9 := hgl; rw [h69] at hg9 ⊢; rcases wk_22 with ⟨w1, w2⟩ | ⟨w1, w2, w3⟩ <;> omega); have hb15 : v_37.toInt = v_35.toInt := congrArg Int32.toInt (show v_37 = v_35 from by rw [ev_37, ear_36]; show (if Int32.toNatClampNeg pp = Int32.toNatClampNeg pp then _ else _) = _; exact if_pos rfl); exact mm_so_n (mm_ms (m := (fv 85).toInt) (v1 := v_35) ((mm_T_put (f := fv_17) (r := 15) (n := (pp.toInt.toNat)) (by decide) (by decide) ear_48).trans (congrArg (fun z9 => mo_se z9 15 (pp.toInt.toNat) v_45) ((mm_T_put (f := fv_17) (r := 6) (n := (pp.toInt.toNat)) (by decide) (by decide) ear_42).trans (congrArg (fun z9 => mo_se z9 6 (pp.toInt.toNat) how) ((mm_T_put (f := fv_17) (r := 5) (n := (pp.toInt.toNat)) (by decide) (by decide) ear_41).trans (congrArg (fun z9 => mo_se z9 5 (pp.toInt.toNat) tr) ((mm_T_put (f := fv_17) (r := 14) (n := (pp.toInt.toNat)) (by decide) (by decide) ear_40).trans (congrArg (fun z9 => mo_se z9 14 (pp.toInt.toNat) to0) ((mm_T_put (f := fv_17) (r := 1) (n := (pp.toInt.toNat)) (by decide) (by decide) ear_36).trans (congrArg (fun z9 => mo_se z9 1 (pp.toInt.toNat) v_35) ((mm_T_put (f := fv_17) (r := 16) (n := (pp.toInt.toNat)) (by decide) (by decide) ear_30).trans (congrArg (fun z9 => mo_se z9 16 (pp.toInt.toNat) v_29) ((mm_T_put (f := fv_17) (r := 3) (n := (pp.toInt.toNat)) (by decide) (by decide) ear_25).trans (congrArg (fun z9 => mo_se z9 3 (pp.toInt.toNat) v_24) (mm_T_fr (fM_call (fM_call (fM_rf [8] _) fr_10 (by decide)) fr_20 (by decide)) (fA_call (fA_call (fA_rf [4] _) fa_11 (by decide)) fa_21 (by decide)) rfl rfl))))))))))))))) hl9 hw9 (by rw [ev_24, show v_23 = ar 74 (pp.toInt.toNat) from (show v_23 = ar 74 (pp.toInt.toNat) from by rw [ev_23, show ar_19 74 = ar 74 from ((fA_call (fA_call (fA_rf [4] _) fa_11 (by decide)) fa_21 (by decide)) 74 rfl)]; exact congrArg (ar 74) (show pp.toInt.toNat = (pp.toInt.toNat) from by omega)), mo_i32i]; rfl) (by rw [ev_29, show v_26 = ar 18 (pp.toInt.toNat) from (by rw [ev_26, show ar_25 18 = ar 18 from ((fA_put (fA_call (fA_call (fA_rf [4, 74] _) fa_11 (by decide)) fa_21 (by decide)) ear_25 (by decide)) 18 rfl)]; rfl), mo_i32i]; rfl) (mm_shm (d := v_35) (show v_35 = ar 15 (pp.toInt.toNat) - (v_29 / 300 - ar 18 (pp.toInt.toNat) / 300) from by rw [ev_35, ev_34, ev_33, ev_27, show v_32 = v_29 from (show v_32 = v_29 from by rw [ev_32, ear_30]; show (if Int32.toNatClampNeg pp = Int32.toNatClampNeg pp then _ else _) = _; exact if_pos rfl), show v_26 = ar 18 (pp.toInt.toNat) from (by rw [ev_26, show ar_25 18 = ar 18 from ((fA_put (fA_call (fA_call (fA_rf [4, 74] _) fa_11 (by decide)) fa_21 (by decide)) ear_25 (by decide)) 18 rfl)]; rfl), show v_31 = ar 15 (pp.toInt.toNat) from (by rw [ev_31, show ar_30 15 = ar 15 from ((fA_put (fA_put (fA_call (fA_call (fA_rf [4, 18, 74] _) fa_11 (by decide)) fa_21 (by decide)) ear_25 (by decide)) ear_30 (by decide)) 15 rfl)]; rfl)]) ⟨fun w => by exfalso; omega, fun w => by rfl⟩) (by rw [show ((to0.toInt.toNat : Nat) : Int) = to0.toInt from by omega, mo_i32i]) (by rw [ev_45, mm_ai])) hw9 (by omega)), (sW_fr hp_43 (fA_put (fA_rf [70] _) ear_48 (by decide)) rfl rfl), (mm_c_fr hp_nC (fM_call (fM_call (fM_rf [8] _) fr_10 (by decide)) fr_20 (by decide)) (fA_put (fA_put (fA_put (fA_put (fA_put (fA_put (fA_put (fA_call (fA_call (fA_rf [4, 15, 18, 68, 69, 70, 71, 74] _) fa_11 (by decide)) fa_21 (by decide)) ear_25 (by decide)) ear_30 (by decide)) ear_36 (by decide)) ear_40 (by decide)) ear_41 (by decide)) ear_42 (by decide)) ear_48 (by decide)) rfl rfl), (mF_fr p_16 (fM_rf [] _) (fA_put (fA_put (fA_put (fA_put (fA_put (fA_put (fA_put (fA_rf [15, 18, 68, 69, 70, 71, 74] _) ear_25 (by decide)) ear_30 (by decide)) ear_36 (by decide)) ear_40 (by decide)) ear_41 (by decide)) ear_42 (by decide)) ear_48 (by decide)) rfl rfl), trivial⟩, ⟨by rw [ht]; exact hP, va_K.moved hW.alike hK⟩⟩, hS.F ht⟩) hS.2.2 dX12_setOut_144
    · skip
      have i_52 : 0 ≤ r_13.toInt ∧ r_13.toInt ≤ 0 := iv_eq1 (⟨by decide, by decide⟩ : (0 : Int) ≤ (0 : Int32).toInt ∧ (0 : Int32).toInt ≤ 0) c_49
      refine lv_aload_n hx hb dX12_setOut_139 rfl (lv_at hl 3 rfl) ?_
      refine lv_iload_n hx hb dX12_setOut_140 rfl (lv_at hl 4 rfl) ?_
      have z_54 : (fv_17 85).toInt = (fv 85).toInt := congrArg Int32.toInt ((fr_20 85 rfl).trans ((fr_10 85 rfl)))
      have z_55 : 0 ≤ (fv_17 85).toInt ∧ (fv_17 85).toInt ≤ 840 := hF_fv_17 85
      refine va_callv (va_runV (As := [.int pp]) (rest := []) ⟨hx, hb, hml, hown, hts⟩ (m_arriveE l dC dI H.size h ad cA hd fv_17 wd_18 ar_48 hF_fv_17 hA_ar_48 G9 pp h_pp (sW_fr hp_43 (fA_put (fA_rf [70] _) ear_48 (by decide)) rfl rfl) (mm_R_fr hp_nR (fM_call (fM_call (fM_rf [8] _) fr_10 (by decide)) fr_20 (by decide)) (fA_put (fA_put (fA_put (fA_put (fA_put (fA_put (fA_put (fA_call (fA_call (fA_rf [4, 15, 18, 68, 69, 70, 71, 74] _) fa_11 (by decide)) fa_21 (by decide)) ear_25 (by decide)) ear_30 (by decide)) ear_36 (by decide)) ear_40 (by decide)) ear_41 (by decide)) ear_42 (by decide)) ear_48 (by decide)) rfl rfl rfl rfl rfl rfl rfl rfl rfl rfl rfl) (mm_c_fr hp_nC (fM_call (fM_call (fM_rf [8] _) fr_10 (by decide)) fr_20 (by decide)) (fA_put (fA_put (fA_put (fA_put (fA_put (fA_put (fA_put (fA_call (fA_call (fA_rf [4, 15, 18, 68, 69, 70, 71, 74] _) fa_11 (by decide)) fa_21 (by decide)) ear_25 (by decide)) ear_30 (by decide)) ear_36 (by decide)) ear_40 (by decide)) ear_41 (by decide)) ear_42 (by decide)) ear_48 (by decide)) rfl rfl)) (cwV 1 hts (gV kw_8_220 kw_8_222 kw_p_95 kw_1_15 kw_8_223) rfl rfl rfl (by decide +kernel) ⟨Nat.le_of_ble_eq_true rfl, Nat.le_of_ble_eq_true rfl⟩) ⟨fun a U g mk q => ⟨q.1, q.2.1, q.2.2.1, va_K.moved (u := U) (U := U.calling g mk a) (Vm.Alike.refl U.vm) q.2.2.2⟩, va_recv hK hP (ci := 12) (q0 := 0) rfl rfl, fun U hU hW => ⟨rfl, by rw [hU], by rw [hU]; exact hP, va_K.moved hW.alike hK⟩⟩ rfl rfl hl.1 rfl (lv_room (Nat.le_of_ble_eq_true rfl)) dX12_setOut_141 ⟨Nat.le_of_ble_eq_true rfl, Nat.le_of_ble_eq_true rfl⟩) hS (fun q _ h9 => aM_up hS q h9) (aM_up hS) (fun u t H1 locs ht _ hw hB _ hk1 hS => ?_)
      obtain ⟨fv_60, wd_61, ar_62⟩ := u
      obtain ⟨hF_fv_60, hA_ar_62, fr_63, fa_64, p_57, p_58, p_59, -⟩ := hw
      have hP : va_P (dC, dI) vwCl (wsM h ad cA fv_60 wd_61 ar_62) H1 := by have h9 := hB.1; rw [ht] at h9; exact h9
      have fr_63 : fM [] fv_17 fv_60 := fr_63
      have fa_64 : fA [68, 72] ar_48 ar_62 := fa_64
      have p_58 : sW ar_62 := p_58
      have p_59 : mm_c fv_60 ar_62 := p_59
      have p_57 : mm_T fv_60 ar_62 = mo_ar (mm_T fv_17 ar_48) (pp.toInt.toNat) (fv_17 85).toInt := p_57
      generalize H1 = H at hP hS ⊢
      exact W.vret hx hb hr (fun t ht hW => ⟨⟨(fv_60, wd_61, ar_62), rfl, ⟨hF_fv_60, hA_ar_62, (fM_call (fM_call (fM_call (fM_rf [8] _) fr_10 (by decide)) fr_20 (by decide)) fr_63 (by decide)), (fA_call (fA_put (fA_put (fA_put (fA_put (fA_put (fA_put (fA_put (fA_call (fA_call (fA_rf [4, 15, 18, 68, 69, 70, 71, 72, 74] _) fa_11 (by decide)) fa_21 (by decide)) ear_25 (by decide)) ear_30 (by decide)) ear_36 (by decide)) ear_40 (by decide)) ear_41 (by decide)) ear_42 (by decide)) ear_48 (by decide)) fa_64 (by decide)), (show mm_T fv_60 ar_62 = mo_so (mm_D w9 fv ar) G9 (mm_T fv ar) (pp.toInt.toNat) to0.toInt.toNat how tr (fv 85).toInt from by have h69 : ar 69 (pp.toInt.toNat) = v_1 := ((show v_1 = ar 69 (pp.toInt.toNat) from by rw [ev_1]; exact congrArg (ar 69) (show pp.toInt.toNat = (pp.toInt.toNat) from by omega))).symm; have hl9 : G9 (12 * (ar 69 (pp.toInt.toNat)).toInt.toNat + to0.toInt.toNat) = r_3.toInt := (by have hg9 := hgl; rw [h69] at hg9 ⊢; rcases p_5 with ⟨w1, w2⟩ | ⟨w1, w2⟩ <;> omega); have hw9 : mo_wk G9 (mo_pc (mm_D w9 fv ar) (ar 15 (pp.toInt.toNat)) (pp.toInt.toNat)) (ar 69 (pp.toInt.toNat)).toInt.toNat to0.toInt.toNat = r_13.toInt := (by have hg9 := hgl; rw [h69] at hg9 ⊢; rcases wk_22 with ⟨w1, w2⟩ | ⟨w1, w2, w3⟩ <;> omega); have hb15 : v_37.toInt = v_35.toInt := congrArg Int32.toInt (show v_37 = v_35 from by rw [ev_37, ear_36]; show (if Int32.toNatClampNeg pp = Int32.toNatClampNeg pp then _ else _) = _; exact if_pos rfl); exact mm_so_y (mm_ms (m := (fv 85).toInt) (v1 := v_35) ((mm_T_put (f := fv_17) (r := 15) (n := (pp.toInt.toNat)) (by decide) (by decide) ear_48).trans (congrArg (fun z9 => mo_se z9 15 (pp.toInt.toNat) v_45) ((mm_T_put (f := fv_17) (r := 6) (n := (pp.toInt.toNat)) (by decide) (by decide) ear_42).trans (congrArg (fun z9 => mo_se z9 6 (pp.toInt.toNat) how) ((mm_T_put (f := fv_17) (r := 5) (n := (pp.toInt.toNat)) (by decide) (by decide) ear_41).trans (congrArg (fun z9 => mo_se z9 5 (pp.toInt.toNat) tr) ((mm_T_put (f := fv_17) (r := 14) (n := (pp.toInt.toNat)) (by decide) (by decide) ear_40).trans (congrArg (fun z9 => mo_se z9 14 (pp.toInt.toNat) to0) ((mm_T_put (f := fv_17) (r := 1) (n := (pp.toInt.toNat)) (by decide) (by decide) ear_36).trans (congrArg (fun z9 => mo_se z9 1 (pp.toInt.toNat) v_35) ((mm_T_put (f := fv_17) (r := 16) (n := (pp.toInt.toNat)) (by decide) (by decide) ear_30).trans (congrArg (fun z9 => mo_se z9 16 (pp.toInt.toNat) v_29) ((mm_T_put (f := fv_17) (r := 3) (n := (pp.toInt.toNat)) (by decide) (by decide) ear_25).trans (congrArg (fun z9 => mo_se z9 3 (pp.toInt.toNat) v_24) (mm_T_fr (fM_call (fM_call (fM_rf [8] _) fr_10 (by decide)) fr_20 (by decide)) (fA_call (fA_call (fA_rf [4] _) fa_11 (by decide)) fa_21 (by decide)) rfl rfl))))))))))))))) hl9 hw9 (by rw [ev_24, show v_23 = ar 74 (pp.toInt.toNat) from (show v_23 = ar 74 (pp.toInt.toNat) from by rw [ev_23, show ar_19 74 = ar 74 from ((fA_call (fA_call (fA_rf [4] _) fa_11 (by decide)) fa_21 (by decide)) 74 rfl)]; exact congrArg (ar 74) (show pp.toInt.toNat = (pp.toInt.toNat) from by omega)), mo_i32i]; rfl) (by rw [ev_29, show v_26 = ar 18 (pp.toInt.toNat) from (by rw [ev_26, show ar_25 18 = ar 18 from ((fA_put (fA_call (fA_call (fA_rf [4, 74] _) fa_11 (by decide)) fa_21 (by decide)) ear_25 (by decide)) 18 rfl)]; rfl), mo_i32i]; rfl) (mm_shm (d := v_35) (show v_35 = ar 15 (pp.toInt.toNat) - (v_29 / 300 - ar 18 (pp.toInt.toNat) / 300) from by rw [ev_35, ev_34, ev_33, ev_27, show v_32 = v_29 from (show v_32 = v_29 from by rw [ev_32, ear_30]; show (if Int32.toNatClampNeg pp = Int32.toNatClampNeg pp then _ else _) = _; exact if_pos rfl), show v_26 = ar 18 (pp.toInt.toNat) from (by rw [ev_26, show ar_25 18 = ar 18 from ((fA_put (fA_call (fA_call (fA_rf [4, 74] _) fa_11 (by decide)) fa_21 (by decide)) ear_25 (by decide)) 18 rfl)]; rfl), show v_31 = ar 15 (pp.toInt.toNat) from (by rw [ev_31, show ar_30 15 = ar 15 from ((fA_put (fA_put (fA_call (fA_call (fA_rf [4, 18, 74] _) fa_11 (by decide)) fa_21 (by decide)) ear_25 (by decide)) ear_30 (by decide)) 15 rfl)]; rfl)]) ⟨fun w => by exfalso; omega, fun w => by rfl⟩) (by rw [show ((to0.toInt.toNat : Nat) : Int) = to0.toInt from by omega, mo_i32i]) (by rw [ev_45, mm_ai])) hw9 (by omega) (by have h9 := p_57; rw [show fv_17 85 = fv 85 from ((fM_call (fM_call (fM_rf [8] _) fr_10 (by decide)) fr_20 (by decide)) 85 rfl)] at h9; exact h9)), p_58, p_59, (mF_fr p_16 (fM_call (fM_rf [] _) fr_63 (by decide)) (fA_call (fA_put (fA_put (fA_put (fA_put (fA_put (fA_put (fA_put (fA_rf [15, 18, 68, 69, 70, 71, 72, 74] _) ear_25 (by decide)) ear_30 (by decide)) ear_36 (by decide)) ear_40 (by decide)) ear_41 (by decide)) ear_42 (by decide)) ear_48 (by decide)) fa_64 (by decide)) rfl rfl), trivial⟩, ⟨by rw [ht]; exact hP, va_K.moved hW.alike hK⟩⟩, hS.F ht⟩) hS.2.2 dX12_setOut_144
  · skip
    have i_65 : (-2147483648) ≤ v_37.toInt ∧ v_37.toInt ≤ (-1) := iv_lt1 (iv_any v_37) (⟨by decide, by decide⟩ : (0 : Int) ≤ (0 : Int32).toInt ∧ (0 : Int32).toInt ≤ 0) (Int32.not_le.mp c_38)
    refine lv_aload_n hx hb dX12_setOut_92 rfl (lv_at hl 3 rfl) ?_
    refine gM_15 hx hb htg hown hK hP dX12_setOut_93 ?_
    refine lv_iload_n hx hb dX12_setOut_96 rfl (lv_at hl 4 rfl) ?_
    refine lv_iconst (v := 0) hx hb dX12_setOut_97 (by decide) ?_
    refine sM_15 hx hb hK hP hS hd (iv_in h_pp (by decide) (by decide)) dX12_setOut_98 (fun H locs ar_66 ear_66 hP hS => ?_)
    have hA_ar_66 : rA ar_66 := rA_put hA_ar_36 ear_66 (iv_any _)
    refine lv_aload_n hx hb dX12_setOut_99 rfl (lv_at hl 3 rfl) ?_
    refine gM_69 hx hb htg hown hK hP dX12_setOut_100 ?_
    refine lv_iload_n hx hb dX12_setOut_103 rfl (lv_at hl 4 rfl) ?_
    refine lv_iload_n hx hb dX12_setOut_104 rfl (lv_at hl 5 rfl) ?_
    refine sM_69 hx hb hK hP hS hd (iv_in h_pp (by decide) (by decide)) dX12_setOut_105 (fun H locs ar_67 ear_67 hP hS => ?_)
    have hA_ar_67 : rA ar_67 := rA_put hA_ar_66 ear_67 h_to0
    refine lv_aload_n hx hb dX12_setOut_106 rfl (lv_at hl 3 rfl) ?_
    refine gM_71 hx hb htg hown hK hP dX12_setOut_107 ?_
    refine lv_iload_n hx hb dX12_setOut_110 rfl (lv_at hl 4 rfl) ?_
    refine lv_iload hx hb dX12_setOut_111 (lv_at hl 7 rfl) ?_
    refine sM_71 hx hb hK hP hS hd (iv_in h_pp (by decide) (by decide)) dX12_setOut_113 (fun H locs ar_68 ear_68 hP hS => ?_)
    have hA_ar_68 : rA ar_68 := rA_put hA_ar_67 ear_68 h_tr
    refine lv_aload_n hx hb dX12_setOut_114 rfl (lv_at hl 3 rfl) ?_
    refine gM_68 hx hb htg hown hK hP dX12_setOut_115 ?_
    refine lv_iload_n hx hb dX12_setOut_118 rfl (lv_at hl 4 rfl) ?_
    refine lv_iload_n hx hb dX12_setOut_119 rfl (lv_at hl 6 rfl) ?_
    refine sM_68 hx hb hK hP hS hd (iv_in h_pp (by decide) (by decide)) dX12_setOut_120 (fun H locs ar_69 ear_69 hP hS => ?_)
    have hA_ar_69 : rA ar_69 := rA_put hA_ar_68 ear_69 (iv_any _)
    have hp_70 : sW ar_69 := sW_both (sW_fr hp_sW (fA_put (fA_put (fA_put (fA_put (fA_put (fA_call (fA_call (fA_rf [4, 15, 18, 69, 74] _) fa_11 (by decide)) fa_21 (by decide)) ear_25 (by decide)) ear_30 (by decide)) ear_36 (by decide)) ear_66 (by decide)) ear_67 (by decide)) rfl rfl) ear_68 ear_69 (by omega)
    refine lv_aload_n hx hb dX12_setOut_121 rfl (lv_at hl 3 rfl) ?_
    refine gM_70 hx hb htg hown hK hP dX12_setOut_122 ?_
    refine lv_iload_n hx hb dX12_setOut_125 rfl (lv_at hl 4 rfl) ?_
    refine lv_aload_n hx hb dX12_setOut_126 rfl (lv_at hl 3 rfl) ?_
    refine gM_85 hx hb htg hown hK hP dX12_setOut_127 ?_
    refine my_ti (y := fv 85) ((fr_20 85 rfl).trans ((fr_10 85 rfl))) ?_
    have i_71 : 0 ≤ (fv 85).toInt ∧ (fv 85).toInt ≤ 840 := hF_fv 85
    refine lv_iload hx hb dX12_setOut_130 (lv_at hl 1 rfl) ?_
    refine lv_iadd hx hb dX12_setOut_132 ?_
    refine lv_topi (fun v_72 ev_72 => ?_)
    have t_73 : v_72.toInt = (fv 85).toInt + r_13.toInt ∧ 0 ≤ v_72.toInt ∧ v_72.toInt ≤ 600840 := iv_add ev_72 i_71 p_14 (by decide) (by decide)
    refine sM_70 hx hb hK hP hS hd (iv_in h_pp (by decide) (by decide)) dX12_setOut_133 (fun H locs ar_75 ear_75 hP hS => ?_)
    have hA_ar_75 : rA ar_75 := rA_put hA_ar_69 ear_75 (iv_any _)
    refine lv_iload hx hb dX12_setOut_134 (lv_at hl 1 rfl) ?_
    refine lv_if_ne (tgt := 144) hx hb dX12_setOut_136 (by decide) (fun c_76 => ?_) (fun c_76 => ?_)
    · skip
      have i_77 : 1 ≤ r_13.toInt ∧ r_13.toInt ≤ 600000 := iv_nel p_14 (by decide) c_76
      have k_78 : ¬ r_13.toInt = 0 := fun q => c_76 (Int32.toInt_inj.mp q)
      exact W.vret hx hb hr (fun t ht hW => ⟨⟨(fv_17, wd_18, ar_75), rfl, ⟨hF_fv_17, hA_ar_75, (fM_call (fM_call (fM_rf [8] _) fr_10 (by decide)) fr_20 (by decide)), (fA_put (fA_put (fA_put (fA_put (fA_put (fA_put (fA_put (fA_put (fA_call (fA_call (fA_rf [4, 15, 18, 68, 69, 70, 71, 72, 74] _) fa_11 (by decide)) fa_21 (by decide)) ear_25 (by decide)) ear_30 (by decide)) ear_36 (by decide)) ear_66 (by decide)) ear_67 (by decide)) ear_68 (by decide)) ear_69 (by decide)) ear_75 (by decide)), (show mm_T fv_17 ar_75 = mo_so (mm_D w9 fv ar) G9 (mm_T fv ar) (pp.toInt.toNat) to0.toInt.toNat how tr (fv 85).toInt from by have h69 : ar 69 (pp.toInt.toNat) = v_1 := ((show v_1 = ar 69 (pp.toInt.toNat) from by rw [ev_1]; exact congrArg (ar 69) (show pp.toInt.toNat = (pp.toInt.toNat) from by omega))).symm; have hl9 : G9 (12 * (ar 69 (pp.toInt.toNat)).toInt.toNat + to0.toInt.toNat) = r_3.toInt := (by have hg9 := hgl; rw [h69] at hg9 ⊢; rcases p_5 with ⟨w1, w2⟩ | ⟨w1, w2⟩ <;> omega); have hw9 : mo_wk G9 (mo_pc (mm_D w9 fv ar) (ar 15 (pp.toInt.toNat)) (pp.toInt.toNat)) (ar 69 (pp.toInt.toNat)).toInt.toNat to0.toInt.toNat = r_13.toInt := (by have hg9 := hgl; rw [h69] at hg9 ⊢; rcases wk_22 with ⟨w1, w2⟩ | ⟨w1, w2, w3⟩ <;> omega); have hb15 : v_37.toInt = v_35.toInt := congrArg Int32.toInt (show v_37 = v_35 from by rw [ev_37, ear_36]; show (if Int32.toNatClampNeg pp = Int32.toNatClampNeg pp then _ else _) = _; exact if_pos rfl); exact mm_so_n (mm_ms (m := (fv 85).toInt) (v1 := (0 : Int32)) ((mm_T_put (f := fv_17) (r := 15) (n := (pp.toInt.toNat)) (by decide) (by decide) ear_75).trans (congrArg (fun z9 => mo_se z9 15 (pp.toInt.toNat) v_72) ((mm_T_put (f := fv_17) (r := 6) (n := (pp.toInt.toNat)) (by decide) (by decide) ear_69).trans (congrArg (fun z9 => mo_se z9 6 (pp.toInt.toNat) how) ((mm_T_put (f := fv_17) (r := 5) (n := (pp.toInt.toNat)) (by decide) (by decide) ear_68).trans (congrArg (fun z9 => mo_se z9 5 (pp.toInt.toNat) tr) ((mm_T_put (f := fv_17) (r := 14) (n := (pp.toInt.toNat)) (by decide) (by decide) ear_67).trans (congrArg (fun z9 => mo_se z9 14 (pp.toInt.toNat) to0) (((mm_T_put (f := fv_17) (r := 1) (n := (pp.toInt.toNat)) (by decide) (by decide) ear_66).trans (congrArg (fun z9 => mo_se z9 1 (pp.toInt.toNat) (0 : Int32)) ((mm_T_put (f := fv_17) (r := 1) (n := (pp.toInt.toNat)) (by decide) (by decide) ear_36).trans (congrArg (fun z9 => mo_se z9 1 (pp.toInt.toNat) v_35) ((mm_T_put (f := fv_17) (r := 16) (n := (pp.toInt.toNat)) (by decide) (by decide) ear_30).trans (congrArg (fun z9 => mo_se z9 16 (pp.toInt.toNat) v_29) ((mm_T_put (f := fv_17) (r := 3) (n := (pp.toInt.toNat)) (by decide) (by decide) ear_25).trans (congrArg (fun z9 => mo_se z9 3 (pp.toInt.toNat) v_24) (mm_T_fr (fM_call (fM_call (fM_rf [8] _) fr_10 (by decide)) fr_20 (by decide)) (fA_call (fA_call (fA_rf [4] _) fa_11 (by decide)) fa_21 (by decide)) rfl rfl))))))))).trans mo_se2))))))))) hl9 hw9 (by rw [ev_24, show v_23 = ar 74 (pp.toInt.toNat) from (show v_23 = ar 74 (pp.toInt.toNat) from by rw [ev_23, show ar_19 74 = ar 74 from ((fA_call (fA_call (fA_rf [4] _) fa_11 (by decide)) fa_21 (by decide)) 74 rfl)]; exact congrArg (ar 74) (show pp.toInt.toNat = (pp.toInt.toNat) from by omega)), mo_i32i]; rfl) (by rw [ev_29, show v_26 = ar 18 (pp.toInt.toNat) from (by rw [ev_26, show ar_25 18 = ar 18 from ((fA_put (fA_call (fA_call (fA_rf [4, 74] _) fa_11 (by decide)) fa_21 (by decide)) ear_25 (by decide)) 18 rfl)]; rfl), mo_i32i]; rfl) (mm_shm (d := v_35) (show v_35 = ar 15 (pp.toInt.toNat) - (v_29 / 300 - ar 18 (pp.toInt.toNat) / 300) from by rw [ev_35, ev_34, ev_33, ev_27, show v_32 = v_29 from (show v_32 = v_29 from by rw [ev_32, ear_30]; show (if Int32.toNatClampNeg pp = Int32.toNatClampNeg pp then _ else _) = _; exact if_pos rfl), show v_26 = ar 18 (pp.toInt.toNat) from (by rw [ev_26, show ar_25 18 = ar 18 from ((fA_put (fA_call (fA_call (fA_rf [4, 74] _) fa_11 (by decide)) fa_21 (by decide)) ear_25 (by decide)) 18 rfl)]; rfl), show v_31 = ar 15 (pp.toInt.toNat) from (by rw [ev_31, show ar_30 15 = ar 15 from ((fA_put (fA_put (fA_call (fA_call (fA_rf [4, 18, 74] _) fa_11 (by decide)) fa_21 (by decide)) ear_25 (by decide)) ear_30 (by decide)) 15 rfl)]; rfl)]) ⟨fun w => by rfl, fun w => by exfalso; omega⟩) (by rw [show ((to0.toInt.toNat : Nat) : Int) = to0.toInt from by omega, mo_i32i]) (by rw [ev_72, mm_ai])) hw9 (by omega)), (sW_fr hp_70 (fA_put (fA_rf [70] _) ear_75 (by decide)) rfl rfl), (mm_c_fr hp_nC (fM_call (fM_call (fM_rf [8] _) fr_10 (by decide)) fr_20 (by decide)) (fA_put (fA_put (fA_put (fA_put (fA_put (fA_put (fA_put (fA_put (fA_call (fA_call (fA_rf [4, 15, 18, 68, 69, 70, 71, 74] _) fa_11 (by decide)) fa_21 (by decide)) ear_25 (by decide)) ear_30 (by decide)) ear_36 (by decide)) ear_66 (by decide)) ear_67 (by decide)) ear_68 (by decide)) ear_69 (by decide)) ear_75 (by decide)) rfl rfl), (mF_fr p_16 (fM_rf [] _) (fA_put (fA_put (fA_put (fA_put (fA_put (fA_put (fA_put (fA_put (fA_rf [15, 18, 68, 69, 70, 71, 74] _) ear_25 (by decide)) ear_30 (by decide)) ear_36 (by decide)) ear_66 (by decide)) ear_67 (by decide)) ear_68 (by decide)) ear_69 (by decide)) ear_75 (by decide)) rfl rfl), trivial⟩, ⟨by rw [ht]; exact hP, va_K.moved hW.alike hK⟩⟩, hS.F ht⟩) hS.2.2 dX12_setOut_144
    · skip
      have i_79 : 0 ≤ r_13.toInt ∧ r_13.toInt ≤ 0 := iv_eq1 (⟨by decide, by decide⟩ : (0 : Int) ≤ (0 : Int32).toInt ∧ (0 : Int32).toInt ≤ 0) c_76
      refine lv_aload_n hx hb dX12_setOut_139 rfl (lv_at hl 3 rfl) ?_
      refine lv_iload_n hx hb dX12_setOut_140 rfl (lv_at hl 4 rfl) ?_
      have z_81 : (fv_17 85).toInt = (fv 85).toInt := congrArg Int32.toInt ((fr_20 85 rfl).trans ((fr_10 85 rfl)))
      have z_82 : 0 ≤ (fv_17 85).toInt ∧ (fv_17 85).toInt ≤ 840 := hF_fv_17 85
      refine va_callv (va_runV (As := [.int pp]) (rest := []) ⟨hx, hb, hml, hown, hts⟩ (m_arriveE l dC dI H.size h ad cA hd fv_17 wd_18 ar_75 hF_fv_17 hA_ar_75 G9 pp h_pp (sW_fr hp_70 (fA_put (fA_rf [70] _) ear_75 (by decide)) rfl rfl) (mm_R_fr hp_nR (fM_call (fM_call (fM_rf [8] _) fr_10 (by decide)) fr_20 (by decide)) (fA_put (fA_put (fA_put (fA_put (fA_put (fA_put (fA_put (fA_put (fA_call (fA_call (fA_rf [4, 15, 18, 68, 69, 70, 71, 74] _) fa_11 (by decide)) fa_21 (by decide)) ear_25 (by decide)) ear_30 (by decide)) ear_36 (by decide)) ear_66 (by decide)) ear_67 (by decide)) ear_68 (by decide)) ear_69 (by decide)) ear_75 (by decide)) rfl rfl rfl rfl rfl rfl rfl rfl rfl rfl rfl) (mm_c_fr hp_nC (fM_call (fM_call (fM_rf [8] _) fr_10 (by decide)) fr_20 (by decide)) (fA_put (fA_put (fA_put (fA_put (fA_put (fA_put (fA_put (fA_put (fA_call (fA_call (fA_rf [4, 15, 18, 68, 69, 70, 71, 74] _) fa_11 (by decide)) fa_21 (by decide)) ear_25 (by decide)) ear_30 (by decide)) ear_36 (by decide)) ear_66 (by decide)) ear_67 (by decide)) ear_68 (by decide)) ear_69 (by decide)) ear_75 (by decide)) rfl rfl)) (cwV 1 hts (gV kw_8_220 kw_8_222 kw_p_95 kw_1_15 kw_8_223) rfl rfl rfl (by decide +kernel) ⟨Nat.le_of_ble_eq_true rfl, Nat.le_of_ble_eq_true rfl⟩) ⟨fun a U g mk q => ⟨q.1, q.2.1, q.2.2.1, va_K.moved (u := U) (U := U.calling g mk a) (Vm.Alike.refl U.vm) q.2.2.2⟩, va_recv hK hP (ci := 12) (q0 := 0) rfl rfl, fun U hU hW => ⟨rfl, by rw [hU], by rw [hU]; exact hP, va_K.moved hW.alike hK⟩⟩ rfl rfl hl.1 rfl (lv_room (Nat.le_of_ble_eq_true rfl)) dX12_setOut_141 ⟨Nat.le_of_ble_eq_true rfl, Nat.le_of_ble_eq_true rfl⟩) hS (fun q _ h9 => aM_up hS q h9) (aM_up hS) (fun u t H1 locs ht _ hw hB _ hk1 hS => ?_)
      obtain ⟨fv_87, wd_88, ar_89⟩ := u
      obtain ⟨hF_fv_87, hA_ar_89, fr_90, fa_91, p_84, p_85, p_86, -⟩ := hw
      have hP : va_P (dC, dI) vwCl (wsM h ad cA fv_87 wd_88 ar_89) H1 := by have h9 := hB.1; rw [ht] at h9; exact h9
      have fr_90 : fM [] fv_17 fv_87 := fr_90
      have fa_91 : fA [68, 72] ar_75 ar_89 := fa_91
      have p_85 : sW ar_89 := p_85
      have p_86 : mm_c fv_87 ar_89 := p_86
      have p_84 : mm_T fv_87 ar_89 = mo_ar (mm_T fv_17 ar_75) (pp.toInt.toNat) (fv_17 85).toInt := p_84
      generalize H1 = H at hP hS ⊢
      exact W.vret hx hb hr (fun t ht hW => ⟨⟨(fv_87, wd_88, ar_89), rfl, ⟨hF_fv_87, hA_ar_89, (fM_call (fM_call (fM_call (fM_rf [8] _) fr_10 (by decide)) fr_20 (by decide)) fr_90 (by decide)), (fA_call (fA_put (fA_put (fA_put (fA_put (fA_put (fA_put (fA_put (fA_put (fA_call (fA_call (fA_rf [4, 15, 18, 68, 69, 70, 71, 72, 74] _) fa_11 (by decide)) fa_21 (by decide)) ear_25 (by decide)) ear_30 (by decide)) ear_36 (by decide)) ear_66 (by decide)) ear_67 (by decide)) ear_68 (by decide)) ear_69 (by decide)) ear_75 (by decide)) fa_91 (by decide)), (show mm_T fv_87 ar_89 = mo_so (mm_D w9 fv ar) G9 (mm_T fv ar) (pp.toInt.toNat) to0.toInt.toNat how tr (fv 85).toInt from by have h69 : ar 69 (pp.toInt.toNat) = v_1 := ((show v_1 = ar 69 (pp.toInt.toNat) from by rw [ev_1]; exact congrArg (ar 69) (show pp.toInt.toNat = (pp.toInt.toNat) from by omega))).symm; have hl9 : G9 (12 * (ar 69 (pp.toInt.toNat)).toInt.toNat + to0.toInt.toNat) = r_3.toInt := (by have hg9 := hgl; rw [h69] at hg9 ⊢; rcases p_5 with ⟨w1, w2⟩ | ⟨w1, w2⟩ <;> omega); have hw9 : mo_wk G9 (mo_pc (mm_D w9 fv ar) (ar 15 (pp.toInt.toNat)) (pp.toInt.toNat)) (ar 69 (pp.toInt.toNat)).toInt.toNat to0.toInt.toNat = r_13.toInt := (by have hg9 := hgl; rw [h69] at hg9 ⊢; rcases wk_22 with ⟨w1, w2⟩ | ⟨w1, w2, w3⟩ <;> omega); have hb15 : v_37.toInt = v_35.toInt := congrArg Int32.toInt (show v_37 = v_35 from by rw [ev_37, ear_36]; show (if Int32.toNatClampNeg pp = Int32.toNatClampNeg pp then _ else _) = _; exact if_pos rfl); exact mm_so_y (mm_ms (m := (fv 85).toInt) (v1 := (0 : Int32)) ((mm_T_put (f := fv_17) (r := 15) (n := (pp.toInt.toNat)) (by decide) (by decide) ear_75).trans (congrArg (fun z9 => mo_se z9 15 (pp.toInt.toNat) v_72) ((mm_T_put (f := fv_17) (r := 6) (n := (pp.toInt.toNat)) (by decide) (by decide) ear_69).trans (congrArg (fun z9 => mo_se z9 6 (pp.toInt.toNat) how) ((mm_T_put (f := fv_17) (r := 5) (n := (pp.toInt.toNat)) (by decide) (by decide) ear_68).trans (congrArg (fun z9 => mo_se z9 5 (pp.toInt.toNat) tr) ((mm_T_put (f := fv_17) (r := 14) (n := (pp.toInt.toNat)) (by decide) (by decide) ear_67).trans (congrArg (fun z9 => mo_se z9 14 (pp.toInt.toNat) to0) (((mm_T_put (f := fv_17) (r := 1) (n := (pp.toInt.toNat)) (by decide) (by decide) ear_66).trans (congrArg (fun z9 => mo_se z9 1 (pp.toInt.toNat) (0 : Int32)) ((mm_T_put (f := fv_17) (r := 1) (n := (pp.toInt.toNat)) (by decide) (by decide) ear_36).trans (congrArg (fun z9 => mo_se z9 1 (pp.toInt.toNat) v_35) ((mm_T_put (f := fv_17) (r := 16) (n := (pp.toInt.toNat)) (by decide) (by decide) ear_30).trans (congrArg (fun z9 => mo_se z9 16 (pp.toInt.toNat) v_29) ((mm_T_put (f := fv_17) (r := 3) (n := (pp.toInt.toNat)) (by decide) (by decide) ear_25).trans (congrArg (fun z9 => mo_se z9 3 (pp.toInt.toNat) v_24) (mm_T_fr (fM_call (fM_call (fM_rf [8] _) fr_10 (by decide)) fr_20 (by decide)) (fA_call (fA_call (fA_rf [4] _) fa_11 (by decide)) fa_21 (by decide)) rfl rfl))))))))).trans mo_se2))))))))) hl9 hw9 (by rw [ev_24, show v_23 = ar 74 (pp.toInt.toNat) from (show v_23 = ar 74 (pp.toInt.toNat) from by rw [ev_23, show ar_19 74 = ar 74 from ((fA_call (fA_call (fA_rf [4] _) fa_11 (by decide)) fa_21 (by decide)) 74 rfl)]; exact congrArg (ar 74) (show pp.toInt.toNat = (pp.toInt.toNat) from by omega)), mo_i32i]; rfl) (by rw [ev_29, show v_26 = ar 18 (pp.toInt.toNat) from (by rw [ev_26, show ar_25 18 = ar 18 from ((fA_put (fA_call (fA_call (fA_rf [4, 74] _) fa_11 (by decide)) fa_21 (by decide)) ear_25 (by decide)) 18 rfl)]; rfl), mo_i32i]; rfl) (mm_shm (d := v_35) (show v_35 = ar 15 (pp.toInt.toNat) - (v_29 / 300 - ar 18 (pp.toInt.toNat) / 300) from by rw [ev_35, ev_34, ev_33, ev_27, show v_32 = v_29 from (show v_32 = v_29 from by rw [ev_32, ear_30]; show (if Int32.toNatClampNeg pp = Int32.toNatClampNeg pp then _ else _) = _; exact if_pos rfl), show v_26 = ar 18 (pp.toInt.toNat) from (by rw [ev_26, show ar_25 18 = ar 18 from ((fA_put (fA_call (fA_call (fA_rf [4, 74] _) fa_11 (by decide)) fa_21 (by decide)) ear_25 (by decide)) 18 rfl)]; rfl), show v_31 = ar 15 (pp.toInt.toNat) from (by rw [ev_31, show ar_30 15 = ar 15 from ((fA_put (fA_put (fA_call (fA_call (fA_rf [4, 18, 74] _) fa_11 (by decide)) fa_21 (by decide)) ear_25 (by decide)) ear_30 (by decide)) 15 rfl)]; rfl)]) ⟨fun w => by rfl, fun w => by exfalso; omega⟩) (by rw [show ((to0.toInt.toNat : Nat) : Int) = to0.toInt from by omega, mo_i32i]) (by rw [ev_72, mm_ai])) hw9 (by omega) (by have h9 := p_84; rw [show fv_17 85 = fv 85 from ((fM_call (fM_call (fM_rf [8] _) fr_10 (by decide)) fr_20 (by decide)) 85 rfl)] at h9; exact h9)), p_85, p_86, (mF_fr p_16 (fM_call (fM_rf [] _) fr_90 (by decide)) (fA_call (fA_put (fA_put (fA_put (fA_put (fA_put (fA_put (fA_put (fA_put (fA_rf [15, 18, 68, 69, 70, 71, 72, 74] _) ear_25 (by decide)) ear_30 (by decide)) ear_36 (by decide)) ear_66 (by decide)) ear_67 (by decide)) ear_68 (by decide)) ear_69 (by decide)) ear_75 (by decide)) fa_91 (by decide)) rfl rfl), trivial⟩, ⟨by rw [ht]; exact hP, va_K.moved hW.alike hK⟩⟩, hS.F ht⟩) hS.2.2 dX12_setOut_144
set_option maxHeartbeats 4000000 in
set_option maxRecDepth 100000 in
theorem m_chooseE (l : Launch) (dC : Nat → ClassId) (dI : Nat → Nat → Nat) (sz h : Nat) (ad : Nat → Nat) (cA : Nat → ClassId) (hd : dM h ad) (fv : Nat → Int32) (wd : Int64) (ar : Nat → Nat → Int32) (hF_fv : rF fv) (hA_ar : rA ar) (G9 : Nat → Int) (w9 : Nat → Int32) (pp : Int32) (a : Int32) (h_pp : 0 ≤ pp.toInt ∧ pp.toInt ≤ 39) (hor : mo_or (mm_D w9 fv ar) (mo_gt (mm_D w9 fv ar)) ((fv 35).toInt.toNat) ((fv 87).toInt.toNat) (ar 83)) (hp_sW : sW ar) (hp_nR : mm_R G9 fv ar) (hp_nC : mm_c fv ar) (hp_mF : wt_fm G9 (fv 8) (ar 4)) : Met l yX12_choose (.code yX12_choose cX12_choose 6 none :: lw_good) ({ frames := 7, cells := 0, slots := 0, locals := 155 }) (va_Pc [.ref h, .int pp, .int a] (prM dC dI h ad cA fv wd ar sz)) (va_Qv (fun (u : mS) => rF u.1 ∧ rA u.2.2 ∧ fM [8] fv u.1 ∧ fA [4, 15, 18, 68, 69, 70, 71, 72, 74, 82] ar u.2.2 ∧ (mm_T u.1 u.2.2 = mo_mc (mm_D w9 fv ar) G9 (mm_T fv ar) (pp.toInt.toNat) (fv 85).toInt a.toInt) ∧ (sW u.2.2) ∧ (mm_c u.1 u.2.2) ∧ (wt_fm G9 (u.1 8) (u.2.2 4)) ∧ True) (enM dC dI h ad cA) (aM h ad sz)) 0 0 (aM h ad sz) := by
  refine Met.ofW (cc := cX12_choose) (maxL := 6) (ret := none) (by decide) rfl ?_
  intro p e s m args below meth c s₁ B hml hv
  obtain ⟨rfl, hsz, hP, hK⟩ := hv
  have hx := B.exec
  have hb := B.bytes
  have hr := B.returns
  have hts := atoms_spec (ws := (.code yX12_choose cX12_choose 6 none :: lw_good)) B.pre
  have htg : ∀ w ∈ lw_good, w.before _ s = true := fun w hw => hts w (List.mem_cons_of_mem _ hw)
  have hown : s.vm.findClass RX12 = some m.cls := findClass_of_methodNamed B.named
  have hlocks := B.notSynchronized
  subst hsz
  have hS : va_S (aM h ad s.heap.size) s.heap s.heap [] := va_S.rf
  have hl := lv_entry ([.ref h, .int pp, .int a]) (n := 6) (Nat.le_of_ble_eq_true rfl)
  rw [lg_entry_eq]
  generalize (lg_sl ([.ref h, .int pp, .int a]) ++ List.replicate (6 - (lg_sl ([.ref h, .int pp, .int a])).length) Slot.unset).toArray = ls at hl ⊢
  have hl : lv_has ls 6 [(0, .ref h), (1, .int pp), (2, .int a)] := hl
  refine lv_aload_n hx hb dX12_choose_0 rfl (lv_at hl 0 rfl) ?_
  refine lv_iload_n hx hb dX12_choose_1 rfl (lv_at hl 1 rfl) ?_
  have z_1 : 0 ≤ (fv 35).toInt ∧ (fv 35).toInt ≤ 80 := hF_fv 35
  have z_2 : 0 ≤ (fv 87).toInt ∧ (fv 87).toInt ≤ 80 := hF_fv 87
  have z_3 : 0 ≤ (fv 87).toInt ∧ (fv 87).toInt ≤ 80 := hF_fv 87
  refine va_callv (va_runV (As := [.int pp]) (rest := []) ⟨hx, hb, hml, hown, hts⟩ (m_reckonWaysE l dC dI s.heap.size h ad cA hd fv wd ar hF_fv hA_ar G9 w9 pp h_pp (by exact hor) hp_nR hp_mF) (cwV 1 hts (gV kw_8_192 kw_8_194 kw_p_88 kw_1_15 kw_8_195) rfl rfl rfl (by decide +kernel) ⟨Nat.le_of_ble_eq_true rfl, Nat.le_of_ble_eq_true rfl⟩) ⟨fun a U g mk q => ⟨q.1, q.2.1, q.2.2.1, va_K.moved (u := U) (U := U.calling g mk a) (Vm.Alike.refl U.vm) q.2.2.2⟩, va_recv hK hP (ci := 12) (q0 := 0) rfl rfl, fun U hU hW => ⟨rfl, by rw [hU], by rw [hU]; exact hP, va_K.moved hW.alike hK⟩⟩ rfl rfl hl.1 rfl (lv_room (Nat.le_of_ble_eq_true rfl)) dX12_choose_2 ⟨Nat.le_of_ble_eq_true rfl, Nat.le_of_ble_eq_true rfl⟩) hS (fun q _ h9 => aM_up hS q h9) (aM_up hS) (fun u t H1 locs ht _ hw hB _ hk1 hS => ?_)
  obtain ⟨fv_7, wd_8, ar_9⟩ := u
  obtain ⟨hF_fv_7, hA_ar_9, fr_10, fa_11, p_5, p_6, -⟩ := hw
  have hP : va_P (dC, dI) vwCl (wsM h ad cA fv_7 wd_8 ar_9) H1 := by have h9 := hB.1; rw [ht] at h9; exact h9
  have fr_10 : fM [8] fv fv_7 := fr_10
  have fa_11 : fA [4, 82] ar ar_9 := fa_11
  have p_6 : wt_fm G9 (fv_7 8) (ar_9 4) := p_6
  have p_5 : mo_mr (mm_D w9 fv ar) G9 (pp.toInt.toNat) (mo_pc (mm_D w9 fv ar) (ar 15 (pp.toInt.toNat)) (pp.toInt.toNat)) ((fv 87).toInt.toNat) (ar 83) (ar_9 82) ∧ mm_ra ((fv 87).toInt.toNat) (ar 83) (ar_9 82) := p_5
  generalize H1 = H at hP hS ⊢
  refine lv_ldc hx hb hown (htg (.constant RX12 225 100000) kw_7_232) dX12_choose_5 ?_
  refine lv_istore_n (lv' := [(3, .int 100000), (0, .ref h), (1, .int pp), (2, .int a)]) hx hb dX12_choose_7 rfl hl (by decide) rfl (fun ls hl => ?_)
  refine lv_iconst (v := (-1)) hx hb dX12_choose_8 (by decide) ?_
  refine lv_istore (lv' := [(4, .int (-1)), (3, .int 100000), (0, .ref h), (1, .int pp), (2, .int a)]) hx hb dX12_choose_9 hl (by decide) rfl (fun ls hl => ?_)
  refine lv_aload_n hx hb dX12_choose_11 rfl (lv_at hl 2 rfl) ?_
  refine lv_aload_n hx hb dX12_choose_12 rfl (lv_at hl 2 rfl) ?_
  refine gM_69 hx hb htg hown hK hP dX12_choose_13 ?_
  refine lv_iload_n hx hb dX12_choose_16 rfl (lv_at hl 3 rfl) ?_
  refine lM_69 hx hb hK hP (iv_in h_pp (by decide) (by decide)) dX12_choose_17 (fun v_12 ev_12 => ?_)
  have i_13 : 0 ≤ v_12.toInt ∧ v_12.toInt ≤ 11 := ev_12 ▸ hA_ar_9 69 _
  refine lv_aload_n hx hb dX12_choose_18 rfl (lv_at hl 2 rfl) ?_
  refine gM_10 hx hb htg hown hK hP dX12_choose_19 ?_
  refine lv_iload_n hx hb dX12_choose_22 rfl (lv_at hl 3 rfl) ?_
  refine lM_10 hx hb hK hP (iv_in h_pp (by decide) (by decide)) dX12_choose_23 (fun v_14 ev_14 => ?_)
  have i_15 : 0 ≤ v_14.toInt ∧ v_14.toInt ≤ 11 := ev_14 ▸ hA_ar_9 10 _
  refine va_calli (va_runV (As := [.int v_12, .int v_14]) (rest := []) ⟨hx, hb, hml, hown, hts⟩ (m_farOf l dC dI H.size h ad cA hd fv_7 wd_8 ar_9 hF_fv_7 hA_ar_9 G9 v_12 v_14 i_13 i_15 p_6) (cwV 2 hts (gV kw_7_237 kw_7_239 kw_p_59 kw_1_15 kw_8_0) rfl rfl rfl (by decide +kernel) ⟨Nat.le_of_ble_eq_true rfl, Nat.le_of_ble_eq_true rfl⟩) ⟨fun a U g mk q => ⟨q.1, q.2.1, q.2.2.1, va_K.moved (u := U) (U := U.calling g mk a) (Vm.Alike.refl U.vm) q.2.2.2⟩, va_recv hK hP (ci := 12) (q0 := 0) rfl rfl, fun U hU hW => ⟨rfl, by rw [hU], by rw [hU]; exact hP, va_K.moved hW.alike hK⟩⟩ rfl rfl hl.1 rfl (lv_room (Nat.le_of_ble_eq_true rfl)) dX12_choose_24 ⟨Nat.le_of_ble_eq_true rfl, Nat.le_of_ble_eq_true rfl⟩) hS (fun q _ h9 => aM_up hS q h9) (aM_up hS) (fun r_16 u t H1 locs ht _ hw hB _ hk1 hS => ?_)
  obtain ⟨fv_20, wd_21, ar_22⟩ := u
  obtain ⟨hF_fv_20, hA_ar_22, fr_23, fa_24, p_17, p_18, p_19, -⟩ := hw
  have hP : va_P (dC, dI) vwCl (wsM h ad cA fv_20 wd_21 ar_22) H1 := by have h9 := hB.1; rw [ht] at h9; exact h9
  have fr_23 : fM [8] fv_7 fv_20 := fr_23
  have fa_24 : fA [4] ar_9 ar_22 := fa_24
  have p_19 : wt_fm G9 (fv_20 8) (ar_22 4) := p_19
  have p_18 : wt_rl (G9 (12 * v_12.toInt.toNat + v_14.toInt.toNat)) r_16.toInt := p_18
  generalize H1 = H at hP hS ⊢
  refine lv_ldc hx hb hown (htg (.constant RX12 225 100000) kw_7_232) dX12_choose_27 ?_
  refine my_cut (P := fun R9 a9 Q9 => ∀ (x_44 : Int32) (fv_45 : Nat → Int32) (ar_47 : Nat → Nat → Int32) (wd_49 : Int64) (H : Heap) (locs : List Loc) (ls : Array Slot), (0 ≤ x_44.toInt ∧ x_44.toInt ≤ 600840) → rF fv_45 → fM [8] fv_20 fv_45 → rA ar_47 → fA [4] ar_22 ar_47 → wt_fm G9 (fv_45 8) (ar_47 4) → mm_c fv_45 ar_47 → mm_R G9 fv_45 ar_47 → sW ar_47 → (mm_b0 G9 (mo_pc (mm_D w9 fv ar) (ar 15 (pp.toInt.toNat)) (pp.toInt.toNat)) (fv 85).toInt ((ar 69 (pp.toInt.toNat)).toInt.toNat) ((ar 10 (pp.toInt.toNat)).toInt.toNat) x_44.toInt) → va_P (dC, dI) vwCl (wsM h ad cA fv_45 wd_49 ar_47) H → va_S (aM h ad s.heap.size) s.heap H locs → lv_has ls 6 [(0, .ref h), (1, .int pp), (2, .int a), (3, .int x_44), (4, .int (-1))] → W p l e R9 s m a9 below meth c H locs 0 0 Q9 (F0 m 55 ls [])) ?_ (fun hj_55 => ?_)
  · intro x_44 fv_45 ar_47 wd_49 H locs ls i_x_44 hF_fv_45 fr_46 hA_ar_47 fa_48 hp_50 hp_51 hp_52 hp_53 q_54 hP hS hl
    refine lv_iconst (v := 0) hx hb dX12_choose_55 (by decide) ?_
    refine lv_istore (lv' := [(5, .int 0), (0, .ref h), (1, .int pp), (2, .int a), (3, .int x_44), (4, .int (-1))]) hx hb dX12_choose_56 hl (by decide) rfl (fun ls hl => ?_)
    refine my_cut (P := fun R9 a9 Q9 => ∀ (n_70 : Nat) (x_56 : Int32) (x_57 : Int32) (x_58 : Int32) (fv_59 : Nat → Int32) (ar_61 : Nat → Nat → Int32) (wd_63 : Int64) (H : Heap) (locs : List Loc) (ls : Array Slot), 80 - x_58.toInt < (n_70 : Int) → ((-2147483648) ≤ x_56.toInt ∧ x_56.toInt ≤ 600840) → ((-1) ≤ x_57.toInt ∧ x_57.toInt ≤ 79) → (0 ≤ x_58.toInt ∧ x_58.toInt ≤ 80) → rF fv_59 → fM [8] fv_45 fv_59 → rA ar_61 → fA [4] ar_47 ar_61 → wt_fm G9 (fv_59 8) (ar_61 4) → mm_c fv_59 ar_61 → mm_R G9 fv_59 ar_61 → sW ar_61 → (mo_ms (mo_cd (mm_D w9 fv ar) G9 (pp.toInt.toNat) ((ar 69 (pp.toInt.toNat)).toInt.toNat) (mo_pc (mm_D w9 fv ar) (ar 15 (pp.toInt.toNat)) (pp.toInt.toNat)) (fv 85).toInt a.toInt) x_44.toInt (x_58.toInt.toNat) (fun k9 => (ar_61 82 k9).toInt) x_56.toInt x_57.toInt) → (x_58.toInt ≤ (fv 35).toInt) → va_P (dC, dI) vwCl (wsM h ad cA fv_59 wd_63 ar_61) H → va_S (aM h ad s.heap.size) s.heap H locs → lv_has ls 6 [(0, .ref h), (1, .int pp), (2, .int a), (3, .int x_56), (4, .int x_57), (5, .int x_58)] → W p l e R9 s m a9 below meth c H locs 0 0 Q9 (F0 m 58 ls [])) ?_ (fun hj_72 => ?_)
    · intro n_70
      induction n_70 with
      | zero => intro x_56 x_57 x_58 fv_59 ar_61 wd_63 H locs ls fu_71 i_x_56 i_x_57 i_x_58 hF_fv_59 fr_60 hA_ar_61 fa_62 hp_64 hp_65 hp_66 hp_67 q_68 q_69; exfalso; omega
      | succ n_70 ih_70 =>
        intro x_56 x_57 x_58 fv_59 ar_61 wd_63 H locs ls fu_71 i_x_56 i_x_57 i_x_58 hF_fv_59 fr_60 hA_ar_61 fa_62 hp_64 hp_65 hp_66 hp_67 q_68 q_69 hP hS hl
        refine lv_iload hx hb dX12_choose_58 (lv_at hl 5 rfl) ?_
        refine lv_aload_n hx hb dX12_choose_60 rfl (lv_at hl 0 rfl) ?_
        refine gM_35 hx hb htg hown hK hP dX12_choose_61 ?_
        refine my_ti (y := fv 35) ((fr_60 35 rfl).trans ((fr_46 35 rfl).trans ((fr_23 35 rfl).trans ((fr_10 35 rfl))))) ?_
        have i_73 : 0 ≤ (fv 35).toInt ∧ (fv 35).toInt ≤ 80 := hF_fv 35
        refine lv_icmp_ge (tgt := 188) hx hb dX12_choose_64 (by decide) (fun c_74 => ?_) (fun c_74 => ?_)
        · skip
          have k_75 := Int32.le_iff_toInt_le.mp c_74
          refine lv_iload hx hb dX12_choose_188 (lv_at hl 4 rfl) ?_
          refine lv_iconst (v := (-1)) hx hb dX12_choose_190 (by decide) ?_
          refine lv_icmp_eq (tgt := 217) hx hb dX12_choose_191 (by decide) (fun c_164 => ?_) (fun c_164 => ?_)
          · skip
            have i_165 : (-1) ≤ x_57.toInt ∧ x_57.toInt ≤ (-1) := iv_eq1 (⟨by decide, by decide⟩ : (-1 : Int) ≤ ((-1) : Int32).toInt ∧ ((-1) : Int32).toInt ≤ -1) c_164
            refine lv_iload_n hx hb dX12_choose_217 rfl (lv_at hl 3 rfl) ?_
            refine lv_ldc hx hb hown (htg (.constant RX12 225 100000) kw_7_232) dX12_choose_218 ?_
            refine lv_icmp_ge (tgt := 239) hx hb dX12_choose_220 (by decide) (fun c_167 => ?_) (fun c_167 => ?_)
            · skip
              have i_168 : 100000 ≤ x_56.toInt ∧ x_56.toInt ≤ 600840 := iv_le2 (⟨by decide, by decide⟩ : (100000 : Int) ≤ (100000 : Int32).toInt ∧ (100000 : Int32).toInt ≤ 100000) i_x_56 c_167
              refine lv_aload_n hx hb dX12_choose_239 rfl (lv_at hl 0 rfl) ?_
              refine gM_68 hx hb htg hown hK hP dX12_choose_240 ?_
              refine lv_iload_n hx hb dX12_choose_243 rfl (lv_at hl 1 rfl) ?_
              refine lv_bipush (v := 6) hx hb dX12_choose_244 (by decide) ?_
              refine sM_68 hx hb hK hP hS hd (iv_in h_pp (by decide) (by decide)) dX12_choose_246 (fun H locs ar_169 ear_169 hP hS => ?_)
              have hA_ar_169 : rA ar_169 := rA_put hA_ar_61 ear_169 (iv_any _)
              have hp_170 : sW ar_169 := sW_68 hp_67 ear_169 (Or.inr (Or.inl (Int.lt_of_lt_of_le (by decide) ((⟨by decide, by decide⟩ : (6 : Int) ≤ (6 : Int32).toInt ∧ (6 : Int32).toInt ≤ 6)).1)))
              exact W.vret hx hb hr (fun t ht hW => ⟨⟨(fv_59, wd_63, ar_169), rfl, ⟨hF_fv_59, hA_ar_169, (fM_call (fM_call (fM_call (fM_call (fM_rf [8] _) fr_10 (by decide)) fr_23 (by decide)) fr_46 (by decide)) fr_60 (by decide)), (fA_put (fA_call (fA_call (fA_call (fA_call (fA_rf [4, 15, 18, 68, 69, 70, 71, 72, 74, 82] _) fa_11 (by decide)) fa_24 (by decide)) fa_48 (by decide)) fa_62 (by decide)) ear_169 (by decide)), (show mm_T fv_59 ar_169 = mo_mc (mm_D w9 fv ar) G9 (mm_T fv ar) (pp.toInt.toNat) (fv 85).toInt a.toInt from mm_mg_t (t := x_57.toInt) (fun k => (hp_nR.1.2.2.1 k).2) rfl rfl (mm_pk hp_nR.1 hp_nR.2.1 (show mo_or (mm_D w9 fv ar) (mo_gt (mm_D w9 fv ar)) (mo_nt (mm_D w9 fv ar)) ((fv 87).toInt.toNat) (ar 83) from hor) (show mo_mr (mm_D w9 fv ar) G9 (pp.toInt.toNat) (mo_pc (mm_D w9 fv ar) (ar 15 (pp.toInt.toNat)) (pp.toInt.toNat)) ((fv 87).toInt.toNat) (ar 83) (ar_9 82) ∧ mm_ra ((fv 87).toInt.toNat) (ar 83) (ar_9 82) from by have h9 := p_5; exact h9) q_54 (show 0 ≤ (fv 85).toInt ∧ (fv 85).toInt ≤ 840 from hF_fv 85) (mm_pc_b (D := (mm_D w9 fv ar)) hp_nR.1 (ar 15 (pp.toInt.toNat)) (pp.toInt.toNat)) (show ((ar 69 (pp.toInt.toNat)).toInt.toNat) < 12 from by have h9 : (0 : Int) ≤ (ar 69 (pp.toInt.toNat)).toInt ∧ (ar 69 (pp.toInt.toNat)).toInt ≤ 11 := hA_ar 69 _; omega) (show mo_ms (mo_cd (mm_D w9 fv ar) G9 (pp.toInt.toNat) ((ar 69 (pp.toInt.toNat)).toInt.toNat) (mo_pc (mm_D w9 fv ar) (ar 15 (pp.toInt.toNat)) (pp.toInt.toNat)) (fv 85).toInt a.toInt) x_44.toInt (mo_nt (mm_D w9 fv ar)) (fun k9 => (ar_9 82 k9).toInt) x_56.toInt x_57.toInt from by have h9 := q_68; rw [show x_58.toInt.toNat = mo_nt (mm_D w9 fv ar) from by show _ = (fv 35).toInt.toNat; omega, show ar_61 82 = ar_9 82 from ((fA_call (fA_call (fA_call (fA_rf [4] _) fa_24 (by decide)) fa_48 (by decide)) fa_62 (by decide)) 82 rfl)] at h9; exact h9)) (mm_mg_s (b := ((ar 10 (pp.toInt.toNat)).toInt.toNat)) (by omega) rfl (fun w9_ => by have h9 := (mm_ms_w hp_nR.2.1 q_54 (show 0 ≤ (fv 85).toInt ∧ (fv 85).toInt ≤ 840 from hF_fv 85) (mm_pc_b (D := (mm_D w9 fv ar)) hp_nR.1 (ar 15 (pp.toInt.toNat)) (pp.toInt.toNat)) (show ((ar 69 (pp.toInt.toNat)).toInt.toNat) < 12 from by have h9 : (0 : Int) ≤ (ar 69 (pp.toInt.toNat)).toInt ∧ (ar 69 (pp.toInt.toNat)).toInt ≤ 11 := hA_ar 69 _; omega) (show ((ar 10 (pp.toInt.toNat)).toInt.toNat) < 12 from by have h9 : (0 : Int) ≤ (ar 10 (pp.toInt.toNat)).toInt ∧ (ar 10 (pp.toInt.toNat)).toInt ≤ 11 := hA_ar 10 _; omega) (show mo_ms (mo_cd (mm_D w9 fv ar) G9 (pp.toInt.toNat) ((ar 69 (pp.toInt.toNat)).toInt.toNat) (mo_pc (mm_D w9 fv ar) (ar 15 (pp.toInt.toNat)) (pp.toInt.toNat)) (fv 85).toInt a.toInt) x_44.toInt (mo_nt (mm_D w9 fv ar)) (fun k9 => (ar_9 82 k9).toInt) x_56.toInt x_57.toInt from by have h9 := q_68; rw [show x_58.toInt.toNat = mo_nt (mm_D w9 fv ar) from by show _ = (fv 35).toInt.toNat; omega, show ar_61 82 = ar_9 82 from ((fA_call (fA_call (fA_call (fA_rf [4] _) fa_24 (by decide)) fa_48 (by decide)) fa_62 (by decide)) 82 rfl)] at h9; exact h9) (by omega)).mpr w9_; omega) ((mm_T_put (f := fv_59) (r := 6) (n := (pp.toInt.toNat)) (by decide) (by decide) ear_169).trans (congrArg (fun z9 => mo_se z9 6 (pp.toInt.toNat) (6 : Int32)) (mm_T_fr (fM_call (fM_call (fM_call (fM_call (fM_rf [8] _) fr_10 (by decide)) fr_23 (by decide)) fr_46 (by decide)) fr_60 (by decide)) (fA_call (fA_call (fA_call (fA_call (fA_rf [4, 82] _) fa_11 (by decide)) fa_24 (by decide)) fa_48 (by decide)) fa_62 (by decide)) rfl rfl))))), hp_170, (mm_c_fr hp_65 (fM_rf [] _) (fA_put (fA_rf [68] _) ear_169 (by decide)) rfl rfl), (mF_fr hp_64 (fM_rf [] _) (fA_put (fA_rf [68] _) ear_169 (by decide)) rfl rfl), trivial⟩, ⟨by rw [ht]; exact hP, va_K.moved hW.alike hK⟩⟩, hS.F ht⟩) hS.2.2 dX12_choose_247
            · skip
              have i_171 : (-2147483648) ≤ x_56.toInt ∧ x_56.toInt ≤ 99999 := iv_lt1 i_x_56 (⟨by decide, by decide⟩ : (100000 : Int) ≤ (100000 : Int32).toInt ∧ (100000 : Int32).toInt ≤ 100000) (Int32.not_le.mp c_167)
              refine lv_aload_n hx hb dX12_choose_223 rfl (lv_at hl 0 rfl) ?_
              refine lv_iload_n hx hb dX12_choose_224 rfl (lv_at hl 1 rfl) ?_
              refine lv_aload_n hx hb dX12_choose_225 rfl (lv_at hl 0 rfl) ?_
              refine gM_10 hx hb htg hown hK hP dX12_choose_226 ?_
              refine lv_iload_n hx hb dX12_choose_229 rfl (lv_at hl 1 rfl) ?_
              refine lM_10 hx hb hK hP (iv_in h_pp (by decide) (by decide)) dX12_choose_230 (fun v_172 ev_172 => ?_)
              obtain rfl : v_14 = v_172 := ev_14.trans ((congrFun ((fA_call (fA_call (fA_call (fA_rf [4] _) fa_24 (by decide)) fa_48 (by decide)) fa_62 (by decide)) 10 rfl) _).symm.trans ev_172.symm)
              refine lv_iconst (v := 4) hx hb dX12_choose_231 (by decide) ?_
              refine lv_iconst (v := (-1)) hx hb dX12_choose_232 (by decide) ?_
              have z_173 : (fv_59 85).toInt = (fv 85).toInt := congrArg Int32.toInt ((fr_60 85 rfl).trans ((fr_46 85 rfl).trans ((fr_23 85 rfl).trans ((fr_10 85 rfl)))))
              have z_174 : 0 ≤ (fv_59 85).toInt ∧ (fv_59 85).toInt ≤ 840 := hF_fv_59 85
              refine va_callv (va_runV (As := [.int pp, .int v_14, .int 4, .int (-1)]) (rest := []) ⟨hx, hb, hml, hown, hts⟩ (m_setOutE l dC dI H.size h ad cA hd fv_59 wd_63 ar_61 hF_fv_59 hA_ar_61 G9 w9 pp v_14 4 (-1) h_pp i_15 (iv_w (⟨by decide, by decide⟩ : (4 : Int) ≤ (4 : Int32).toInt ∧ (4 : Int32).toInt ≤ 4) (by decide) (by decide)) (iv_w (⟨by decide, by decide⟩ : (-1 : Int) ≤ ((-1) : Int32).toInt ∧ ((-1) : Int32).toInt ≤ -1) (by decide) (by decide)) (Or.inl (by decide)) (by rw [show ar_61 69 = ar 69 from ((fA_call (fA_call (fA_call (fA_call (fA_rf [4, 82] _) fa_11 (by decide)) fa_24 (by decide)) fa_48 (by decide)) fa_62 (by decide)) 69 rfl)]; have h9 := (mm_ms_w hp_nR.2.1 q_54 (show 0 ≤ (fv 85).toInt ∧ (fv 85).toInt ≤ 840 from hF_fv 85) (mm_pc_b (D := (mm_D w9 fv ar)) hp_nR.1 (ar 15 (pp.toInt.toNat)) (pp.toInt.toNat)) (show ((ar 69 (pp.toInt.toNat)).toInt.toNat) < 12 from by have h9 : (0 : Int) ≤ (ar 69 (pp.toInt.toNat)).toInt ∧ (ar 69 (pp.toInt.toNat)).toInt ≤ 11 := hA_ar 69 _; omega) (show ((ar 10 (pp.toInt.toNat)).toInt.toNat) < 12 from by have h9 : (0 : Int) ≤ (ar 10 (pp.toInt.toNat)).toInt ∧ (ar 10 (pp.toInt.toNat)).toInt ≤ 11 := hA_ar 10 _; omega) (show mo_ms (mo_cd (mm_D w9 fv ar) G9 (pp.toInt.toNat) ((ar 69 (pp.toInt.toNat)).toInt.toNat) (mo_pc (mm_D w9 fv ar) (ar 15 (pp.toInt.toNat)) (pp.toInt.toNat)) (fv 85).toInt a.toInt) x_44.toInt (mo_nt (mm_D w9 fv ar)) (fun k9 => (ar_9 82 k9).toInt) x_56.toInt x_57.toInt from by have h9 := q_68; rw [show x_58.toInt.toNat = mo_nt (mm_D w9 fv ar) from by show _ = (fv 35).toInt.toNat; omega, show ar_61 82 = ar_9 82 from ((fA_call (fA_call (fA_call (fA_rf [4] _) fa_24 (by decide)) fa_48 (by decide)) fa_62 (by decide)) 82 rfl)] at h9; exact h9) (by omega)).mp (by omega); rw [show ar 10 (pp.toInt.toNat) = v_14 from ((show v_14 = ar 10 (pp.toInt.toNat) from by rw [ev_14, show ar_9 10 = ar 10 from ((fA_call (fA_rf [4, 82] _) fa_11 (by decide)) 10 rfl)]; exact congrArg (ar 10) (show pp.toInt.toNat = (pp.toInt.toNat) from by omega))).symm] at h9; exact h9) hp_67 hp_66 hp_65 hp_64) (cwV 4 hts (gV kw_8_216 kw_8_218 kw_p_94 kw_1_15 kw_8_219) rfl rfl rfl (by decide +kernel) ⟨Nat.le_of_ble_eq_true rfl, Nat.le_of_ble_eq_true rfl⟩) ⟨fun a U g mk q => ⟨q.1, q.2.1, q.2.2.1, va_K.moved (u := U) (U := U.calling g mk a) (Vm.Alike.refl U.vm) q.2.2.2⟩, va_recv hK hP (ci := 12) (q0 := 0) rfl rfl, fun U hU hW => ⟨rfl, by rw [hU], by rw [hU]; exact hP, va_K.moved hW.alike hK⟩⟩ rfl rfl hl.1 rfl (lv_room (Nat.le_of_ble_eq_true rfl)) dX12_choose_233 ⟨Nat.le_of_ble_eq_true rfl, Nat.le_of_ble_eq_true rfl⟩) hS (fun q _ h9 => aM_up hS q h9) (aM_up hS) (fun u t H1 locs ht _ hw hB _ hk1 hS => ?_)
              obtain ⟨fv_180, wd_181, ar_182⟩ := u
              obtain ⟨hF_fv_180, hA_ar_182, fr_183, fa_184, p_176, p_177, p_178, p_179, -⟩ := hw
              have hP : va_P (dC, dI) vwCl (wsM h ad cA fv_180 wd_181 ar_182) H1 := by have h9 := hB.1; rw [ht] at h9; exact h9
              have fr_183 : fM [8] fv_59 fv_180 := fr_183
              have fa_184 : fA [4, 15, 18, 68, 69, 70, 71, 72, 74] ar_61 ar_182 := fa_184
              have p_177 : sW ar_182 := p_177
              have p_178 : mm_c fv_180 ar_182 := p_178
              have p_179 : wt_fm G9 (fv_180 8) (ar_182 4) := p_179
              have p_176 : mm_T fv_180 ar_182 = mo_so (mm_D w9 fv_59 ar_61) G9 (mm_T fv_59 ar_61) (pp.toInt.toNat) v_14.toInt.toNat (4 : Int32) ((-1) : Int32) (fv_59 85).toInt := p_176
              generalize H1 = H at hP hS ⊢
              refine lv_goto (tgt := 247) hx hb dX12_choose_236 (by decide) ?_
              exact W.vret hx hb hr (fun t ht hW => ⟨⟨(fv_180, wd_181, ar_182), rfl, ⟨hF_fv_180, hA_ar_182, (fM_call (fM_call (fM_call (fM_call (fM_call (fM_rf [8] _) fr_10 (by decide)) fr_23 (by decide)) fr_46 (by decide)) fr_60 (by decide)) fr_183 (by decide)), (fA_call (fA_call (fA_call (fA_call (fA_call (fA_rf [4, 15, 18, 68, 69, 70, 71, 72, 74, 82] _) fa_11 (by decide)) fa_24 (by decide)) fa_48 (by decide)) fa_62 (by decide)) fa_184 (by decide)), (show mm_T fv_180 ar_182 = mo_mc (mm_D w9 fv ar) G9 (mm_T fv ar) (pp.toInt.toNat) (fv 85).toInt a.toInt from mm_mg_t (t := x_57.toInt) (fun k => (hp_nR.1.2.2.1 k).2) rfl rfl (mm_pk hp_nR.1 hp_nR.2.1 (show mo_or (mm_D w9 fv ar) (mo_gt (mm_D w9 fv ar)) (mo_nt (mm_D w9 fv ar)) ((fv 87).toInt.toNat) (ar 83) from hor) (show mo_mr (mm_D w9 fv ar) G9 (pp.toInt.toNat) (mo_pc (mm_D w9 fv ar) (ar 15 (pp.toInt.toNat)) (pp.toInt.toNat)) ((fv 87).toInt.toNat) (ar 83) (ar_9 82) ∧ mm_ra ((fv 87).toInt.toNat) (ar 83) (ar_9 82) from by have h9 := p_5; exact h9) q_54 (show 0 ≤ (fv 85).toInt ∧ (fv 85).toInt ≤ 840 from hF_fv 85) (mm_pc_b (D := (mm_D w9 fv ar)) hp_nR.1 (ar 15 (pp.toInt.toNat)) (pp.toInt.toNat)) (show ((ar 69 (pp.toInt.toNat)).toInt.toNat) < 12 from by have h9 : (0 : Int) ≤ (ar 69 (pp.toInt.toNat)).toInt ∧ (ar 69 (pp.toInt.toNat)).toInt ≤ 11 := hA_ar 69 _; omega) (show mo_ms (mo_cd (mm_D w9 fv ar) G9 (pp.toInt.toNat) ((ar 69 (pp.toInt.toNat)).toInt.toNat) (mo_pc (mm_D w9 fv ar) (ar 15 (pp.toInt.toNat)) (pp.toInt.toNat)) (fv 85).toInt a.toInt) x_44.toInt (mo_nt (mm_D w9 fv ar)) (fun k9 => (ar_9 82 k9).toInt) x_56.toInt x_57.toInt from by have h9 := q_68; rw [show x_58.toInt.toNat = mo_nt (mm_D w9 fv ar) from by show _ = (fv 35).toInt.toNat; omega, show ar_61 82 = ar_9 82 from ((fA_call (fA_call (fA_call (fA_rf [4] _) fa_24 (by decide)) fa_48 (by decide)) fa_62 (by decide)) 82 rfl)] at h9; exact h9)) (mm_mg_w (b := v_14.toInt.toNat) (by omega) (by show (ar 10 (pp.toInt.toNat)).toInt.toNat = _; rw [show ar 10 (pp.toInt.toNat) = v_14 from ((show v_14 = ar 10 (pp.toInt.toNat) from by rw [ev_14, show ar_9 10 = ar 10 from ((fA_call (fA_rf [4, 82] _) fa_11 (by decide)) 10 rfl)]; exact congrArg (ar 10) (show pp.toInt.toNat = (pp.toInt.toNat) from by omega))).symm]) (by have h9 := (mm_ms_w hp_nR.2.1 q_54 (show 0 ≤ (fv 85).toInt ∧ (fv 85).toInt ≤ 840 from hF_fv 85) (mm_pc_b (D := (mm_D w9 fv ar)) hp_nR.1 (ar 15 (pp.toInt.toNat)) (pp.toInt.toNat)) (show ((ar 69 (pp.toInt.toNat)).toInt.toNat) < 12 from by have h9 : (0 : Int) ≤ (ar 69 (pp.toInt.toNat)).toInt ∧ (ar 69 (pp.toInt.toNat)).toInt ≤ 11 := hA_ar 69 _; omega) (show ((ar 10 (pp.toInt.toNat)).toInt.toNat) < 12 from by have h9 : (0 : Int) ≤ (ar 10 (pp.toInt.toNat)).toInt ∧ (ar 10 (pp.toInt.toNat)).toInt ≤ 11 := hA_ar 10 _; omega) (show mo_ms (mo_cd (mm_D w9 fv ar) G9 (pp.toInt.toNat) ((ar 69 (pp.toInt.toNat)).toInt.toNat) (mo_pc (mm_D w9 fv ar) (ar 15 (pp.toInt.toNat)) (pp.toInt.toNat)) (fv 85).toInt a.toInt) x_44.toInt (mo_nt (mm_D w9 fv ar)) (fun k9 => (ar_9 82 k9).toInt) x_56.toInt x_57.toInt from by have h9 := q_68; rw [show x_58.toInt.toNat = mo_nt (mm_D w9 fv ar) from by show _ = (fv 35).toInt.toNat; omega, show ar_61 82 = ar_9 82 from ((fA_call (fA_call (fA_call (fA_rf [4] _) fa_24 (by decide)) fa_48 (by decide)) fa_62 (by decide)) 82 rfl)] at h9; exact h9) (by omega)).mp (by omega); rw [show ar 10 (pp.toInt.toNat) = v_14 from ((show v_14 = ar 10 (pp.toInt.toNat) from by rw [ev_14, show ar_9 10 = ar 10 from ((fA_call (fA_rf [4, 82] _) fa_11 (by decide)) 10 rfl)]; exact congrArg (ar 10) (show pp.toInt.toNat = (pp.toInt.toNat) from by omega))).symm] at h9; exact h9) (by have h9 := p_176; rw [show mm_D w9 fv_59 ar_61 = mm_D w9 fv ar from (mm_D_fr (fM_call (fM_call (fM_call (fM_call (fM_rf [8] _) fr_10 (by decide)) fr_23 (by decide)) fr_46 (by decide)) fr_60 (by decide)) (fA_call (fA_call (fA_call (fA_call (fA_rf [4, 82] _) fa_11 (by decide)) fa_24 (by decide)) fa_48 (by decide)) fa_62 (by decide)) rfl rfl), show mm_T fv_59 ar_61 = mm_T fv ar from (mm_T_fr (fM_call (fM_call (fM_call (fM_call (fM_rf [8] _) fr_10 (by decide)) fr_23 (by decide)) fr_46 (by decide)) fr_60 (by decide)) (fA_call (fA_call (fA_call (fA_call (fA_rf [4, 82] _) fa_11 (by decide)) fa_24 (by decide)) fa_48 (by decide)) fa_62 (by decide)) rfl rfl), show fv_59 85 = fv 85 from ((fM_call (fM_call (fM_call (fM_call (fM_rf [8] _) fr_10 (by decide)) fr_23 (by decide)) fr_46 (by decide)) fr_60 (by decide)) 85 rfl)] at h9; exact h9))), p_177, p_178, p_179, trivial⟩, ⟨by rw [ht]; exact hP, va_K.moved hW.alike hK⟩⟩, hS.F ht⟩) hS.2.2 dX12_choose_247
          · skip
            have i_185 : 0 ≤ x_57.toInt ∧ x_57.toInt ≤ 79 := iv_nel i_x_57 (by decide) c_164
            have k_186 : ¬ x_57.toInt = (-1) := fun q => c_164 (Int32.toInt_inj.mp q)
            refine lv_aload_n hx hb dX12_choose_194 rfl (lv_at hl 0 rfl) ?_
            refine lv_iload_n hx hb dX12_choose_195 rfl (lv_at hl 1 rfl) ?_
            refine lv_aload_n hx hb dX12_choose_196 rfl (lv_at hl 0 rfl) ?_
            refine gM_19 hx hb htg hown hK hP dX12_choose_197 ?_
            refine lv_aload_n hx hb dX12_choose_200 rfl (lv_at hl 0 rfl) ?_
            refine gM_26 hx hb htg hown hK hP dX12_choose_201 ?_
            refine lv_iload hx hb dX12_choose_204 (lv_at hl 4 rfl) ?_
            refine lM_26 hx hb hK hP (iv_in i_185 (by decide) (by decide)) dX12_choose_206 (fun v_187 ev_187 => ?_)
            have i_188 : 0 ≤ v_187.toInt ∧ v_187.toInt ≤ 7 := ev_187 ▸ hA_ar_61 26 _
            refine lM_19 hx hb hK hP (iv_in i_188 (by decide) (by decide)) dX12_choose_207 (fun v_189 ev_189 => ?_)
            have i_190 : 0 ≤ v_189.toInt ∧ v_189.toInt ≤ 11 := ev_189 ▸ hA_ar_61 19 _
            refine lv_iconst (v := 1) hx hb dX12_choose_208 (by decide) ?_
            refine lv_iload hx hb dX12_choose_209 (lv_at hl 4 rfl) ?_
            have z_191 : (fv_59 85).toInt = (fv 85).toInt := congrArg Int32.toInt ((fr_60 85 rfl).trans ((fr_46 85 rfl).trans ((fr_23 85 rfl).trans ((fr_10 85 rfl)))))
            have z_192 : 0 ≤ (fv_59 85).toInt ∧ (fv_59 85).toInt ≤ 840 := hF_fv_59 85
            refine va_callv (va_runV (As := [.int pp, .int v_189, .int 1, .int x_57]) (rest := []) ⟨hx, hb, hml, hown, hts⟩ (m_setOutE l dC dI H.size h ad cA hd fv_59 wd_63 ar_61 hF_fv_59 hA_ar_61 G9 w9 pp v_189 1 x_57 h_pp i_190 (iv_w (⟨by decide, by decide⟩ : (1 : Int) ≤ (1 : Int32).toInt ∧ (1 : Int32).toInt ≤ 1) (by decide) (by decide)) (iv_w i_185 (by decide) (by decide)) (Or.inr (i_185).1) (by rw [show ar_61 69 = ar 69 from ((fA_call (fA_call (fA_call (fA_call (fA_rf [4, 82] _) fa_11 (by decide)) fa_24 (by decide)) fa_48 (by decide)) fa_62 (by decide)) 69 rfl)]; exact mm_ms_t (c := v_189.toInt.toNat) hp_nR.1 hp_nR.2.1 (show 0 ≤ (fv 85).toInt ∧ (fv 85).toInt ≤ 840 from hF_fv 85).1 (show mo_ms (mo_cd (mm_D w9 fv ar) G9 (pp.toInt.toNat) ((ar 69 (pp.toInt.toNat)).toInt.toNat) (mo_pc (mm_D w9 fv ar) (ar 15 (pp.toInt.toNat)) (pp.toInt.toNat)) (fv 85).toInt a.toInt) x_44.toInt (mo_nt (mm_D w9 fv ar)) (fun k9 => (ar_9 82 k9).toInt) x_56.toInt x_57.toInt from by have h9 := q_68; rw [show x_58.toInt.toNat = mo_nt (mm_D w9 fv ar) from by show _ = (fv 35).toInt.toNat; omega, show ar_61 82 = ar_9 82 from ((fA_call (fA_call (fA_call (fA_rf [4] _) fa_24 (by decide)) fa_48 (by decide)) fa_62 (by decide)) 82 rfl)] at h9; exact h9) (by omega) (by show (ar 19 (ar 26 (x_57.toInt.toNat)).toInt.toNat).toInt.toNat = _; rw [show ar 26 (x_57.toInt.toNat) = v_187 from ((show v_187 = ar 26 (x_57.toInt.toNat) from by rw [ev_187, show ar_61 26 = ar 26 from ((fA_call (fA_call (fA_call (fA_call (fA_rf [4, 82] _) fa_11 (by decide)) fa_24 (by decide)) fa_48 (by decide)) fa_62 (by decide)) 26 rfl)]; exact congrArg (ar 26) (show x_57.toInt.toNat = (x_57.toInt.toNat) from by omega))).symm, show ar 19 (v_187.toInt.toNat) = v_189 from ((show v_189 = ar 19 (v_187.toInt.toNat) from by rw [ev_189, show ar_61 19 = ar 19 from ((fA_call (fA_call (fA_call (fA_call (fA_rf [4, 82] _) fa_11 (by decide)) fa_24 (by decide)) fa_48 (by decide)) fa_62 (by decide)) 19 rfl)]; exact congrArg (ar 19) (show v_187.toInt.toNat = (v_187.toInt.toNat) from by omega))).symm])) hp_67 hp_66 hp_65 hp_64) (cwV 4 hts (gV kw_8_216 kw_8_218 kw_p_94 kw_1_15 kw_8_219) rfl rfl rfl (by decide +kernel) ⟨Nat.le_of_ble_eq_true rfl, Nat.le_of_ble_eq_true rfl⟩) ⟨fun a U g mk q => ⟨q.1, q.2.1, q.2.2.1, va_K.moved (u := U) (U := U.calling g mk a) (Vm.Alike.refl U.vm) q.2.2.2⟩, va_recv hK hP (ci := 12) (q0 := 0) rfl rfl, fun U hU hW => ⟨rfl, by rw [hU], by rw [hU]; exact hP, va_K.moved hW.alike hK⟩⟩ rfl rfl hl.1 rfl (lv_room (Nat.le_of_ble_eq_true rfl)) dX12_choose_211 ⟨Nat.le_of_ble_eq_true rfl, Nat.le_of_ble_eq_true rfl⟩) hS (fun q _ h9 => aM_up hS q h9) (aM_up hS) (fun u t H1 locs ht _ hw hB _ hk1 hS => ?_)
            obtain ⟨fv_198, wd_199, ar_200⟩ := u
            obtain ⟨hF_fv_198, hA_ar_200, fr_201, fa_202, p_194, p_195, p_196, p_197, -⟩ := hw
            have hP : va_P (dC, dI) vwCl (wsM h ad cA fv_198 wd_199 ar_200) H1 := by have h9 := hB.1; rw [ht] at h9; exact h9
            have fr_201 : fM [8] fv_59 fv_198 := fr_201
            have fa_202 : fA [4, 15, 18, 68, 69, 70, 71, 72, 74] ar_61 ar_200 := fa_202
            have p_195 : sW ar_200 := p_195
            have p_196 : mm_c fv_198 ar_200 := p_196
            have p_197 : wt_fm G9 (fv_198 8) (ar_200 4) := p_197
            have p_194 : mm_T fv_198 ar_200 = mo_so (mm_D w9 fv_59 ar_61) G9 (mm_T fv_59 ar_61) (pp.toInt.toNat) v_189.toInt.toNat (1 : Int32) x_57 (fv_59 85).toInt := p_194
            generalize H1 = H at hP hS ⊢
            refine lv_goto (tgt := 247) hx hb dX12_choose_214 (by decide) ?_
            exact W.vret hx hb hr (fun t ht hW => ⟨⟨(fv_198, wd_199, ar_200), rfl, ⟨hF_fv_198, hA_ar_200, (fM_call (fM_call (fM_call (fM_call (fM_call (fM_rf [8] _) fr_10 (by decide)) fr_23 (by decide)) fr_46 (by decide)) fr_60 (by decide)) fr_201 (by decide)), (fA_call (fA_call (fA_call (fA_call (fA_call (fA_rf [4, 15, 18, 68, 69, 70, 71, 72, 74, 82] _) fa_11 (by decide)) fa_24 (by decide)) fa_48 (by decide)) fa_62 (by decide)) fa_202 (by decide)), (show mm_T fv_198 ar_200 = mo_mc (mm_D w9 fv ar) G9 (mm_T fv ar) (pp.toInt.toNat) (fv 85).toInt a.toInt from mm_mg_t (t := x_57.toInt) (fun k => (hp_nR.1.2.2.1 k).2) rfl rfl (mm_pk hp_nR.1 hp_nR.2.1 (show mo_or (mm_D w9 fv ar) (mo_gt (mm_D w9 fv ar)) (mo_nt (mm_D w9 fv ar)) ((fv 87).toInt.toNat) (ar 83) from hor) (show mo_mr (mm_D w9 fv ar) G9 (pp.toInt.toNat) (mo_pc (mm_D w9 fv ar) (ar 15 (pp.toInt.toNat)) (pp.toInt.toNat)) ((fv 87).toInt.toNat) (ar 83) (ar_9 82) ∧ mm_ra ((fv 87).toInt.toNat) (ar 83) (ar_9 82) from by have h9 := p_5; exact h9) q_54 (show 0 ≤ (fv 85).toInt ∧ (fv 85).toInt ≤ 840 from hF_fv 85) (mm_pc_b (D := (mm_D w9 fv ar)) hp_nR.1 (ar 15 (pp.toInt.toNat)) (pp.toInt.toNat)) (show ((ar 69 (pp.toInt.toNat)).toInt.toNat) < 12 from by have h9 : (0 : Int) ≤ (ar 69 (pp.toInt.toNat)).toInt ∧ (ar 69 (pp.toInt.toNat)).toInt ≤ 11 := hA_ar 69 _; omega) (show mo_ms (mo_cd (mm_D w9 fv ar) G9 (pp.toInt.toNat) ((ar 69 (pp.toInt.toNat)).toInt.toNat) (mo_pc (mm_D w9 fv ar) (ar 15 (pp.toInt.toNat)) (pp.toInt.toNat)) (fv 85).toInt a.toInt) x_44.toInt (mo_nt (mm_D w9 fv ar)) (fun k9 => (ar_9 82 k9).toInt) x_56.toInt x_57.toInt from by have h9 := q_68; rw [show x_58.toInt.toNat = mo_nt (mm_D w9 fv ar) from by show _ = (fv 35).toInt.toNat; omega, show ar_61 82 = ar_9 82 from ((fA_call (fA_call (fA_call (fA_rf [4] _) fa_24 (by decide)) fa_48 (by decide)) fa_62 (by decide)) 82 rfl)] at h9; exact h9)) (mm_mg_y (b := v_189.toInt.toNat) (by omega) (by show (ar 19 (ar 26 (x_57.toInt.toNat)).toInt.toNat).toInt.toNat = _; rw [show ar 26 (x_57.toInt.toNat) = v_187 from ((show v_187 = ar 26 (x_57.toInt.toNat) from by rw [ev_187, show ar_61 26 = ar 26 from ((fA_call (fA_call (fA_call (fA_call (fA_rf [4, 82] _) fa_11 (by decide)) fa_24 (by decide)) fa_48 (by decide)) fa_62 (by decide)) 26 rfl)]; exact congrArg (ar 26) (show x_57.toInt.toNat = (x_57.toInt.toNat) from by omega))).symm, show ar 19 (v_187.toInt.toNat) = v_189 from ((show v_189 = ar 19 (v_187.toInt.toNat) from by rw [ev_189, show ar_61 19 = ar 19 from ((fA_call (fA_call (fA_call (fA_call (fA_rf [4, 82] _) fa_11 (by decide)) fa_24 (by decide)) fa_48 (by decide)) fa_62 (by decide)) 19 rfl)]; exact congrArg (ar 19) (show v_187.toInt.toNat = (v_187.toInt.toNat) from by omega))).symm]) (by have h9 := p_194; rw [show mm_D w9 fv_59 ar_61 = mm_D w9 fv ar from (mm_D_fr (fM_call (fM_call (fM_call (fM_call (fM_rf [8] _) fr_10 (by decide)) fr_23 (by decide)) fr_46 (by decide)) fr_60 (by decide)) (fA_call (fA_call (fA_call (fA_call (fA_rf [4, 82] _) fa_11 (by decide)) fa_24 (by decide)) fa_48 (by decide)) fa_62 (by decide)) rfl rfl), show mm_T fv_59 ar_61 = mm_T fv ar from (mm_T_fr (fM_call (fM_call (fM_call (fM_call (fM_rf [8] _) fr_10 (by decide)) fr_23 (by decide)) fr_46 (by decide)) fr_60 (by decide)) (fA_call (fA_call (fA_call (fA_call (fA_rf [4, 82] _) fa_11 (by decide)) fa_24 (by decide)) fa_48 (by decide)) fa_62 (by decide)) rfl rfl), show fv_59 85 = fv 85 from ((fM_call (fM_call (fM_call (fM_call (fM_rf [8] _) fr_10 (by decide)) fr_23 (by decide)) fr_46 (by decide)) fr_60 (by decide)) 85 rfl)] at h9; exact h9))), p_195, p_196, p_197, trivial⟩, ⟨by rw [ht]; exact hP, va_K.moved hW.alike hK⟩⟩, hS.F ht⟩) hS.2.2 dX12_choose_247
        · skip
          have i_76 : 0 ≤ x_58.toInt ∧ x_58.toInt ≤ 79 := iv_lt1 i_x_58 i_73 (Int32.not_le.mp c_74)
          have i_77 : 1 ≤ (fv 35).toInt ∧ (fv 35).toInt ≤ 80 := iv_lt2 i_x_58 i_73 (Int32.not_le.mp c_74)
          have k_78 := Int32.lt_iff_toInt_lt.mp (Int32.not_le.mp c_74)
          refine lv_aload_n hx hb dX12_choose_67 rfl (lv_at hl 0 rfl) ?_
          refine lv_iload_n hx hb dX12_choose_68 rfl (lv_at hl 1 rfl) ?_
          refine lv_iload hx hb dX12_choose_69 (lv_at hl 5 rfl) ?_
          refine va_calli (va_runV (As := [.int pp, .int x_58]) (rest := []) ⟨hx, hb, hml, hown, hts⟩ (m_isHeardE l dC dI H.size h ad cA hd fv_59 wd_63 ar_61 hF_fv_59 hA_ar_61 G9 w9 pp x_58 h_pp i_76 hp_66 hp_64) (cwV 2 hts (gV kw_8_196 kw_8_198 kw_p_89 kw_1_15 kw_8_199) rfl rfl rfl (by decide +kernel) ⟨Nat.le_of_ble_eq_true rfl, Nat.le_of_ble_eq_true rfl⟩) ⟨fun a U g mk q => ⟨q.1, q.2.1, q.2.2.1, va_K.moved (u := U) (U := U.calling g mk a) (Vm.Alike.refl U.vm) q.2.2.2⟩, va_recv hK hP (ci := 12) (q0 := 0) rfl rfl, fun U hU hW => ⟨rfl, by rw [hU], by rw [hU]; exact hP, va_K.moved hW.alike hK⟩⟩ rfl rfl hl.1 rfl (lv_room (Nat.le_of_ble_eq_true rfl)) dX12_choose_71 ⟨Nat.le_of_ble_eq_true rfl, Nat.le_of_ble_eq_true rfl⟩) hS (fun q _ h9 => aM_up hS q h9) (aM_up hS) (fun r_79 u t H1 locs ht _ hw hB _ hk1 hS => ?_)
          obtain ⟨fv_83, wd_84, ar_85⟩ := u
          obtain ⟨hF_fv_83, hA_ar_85, fr_86, fa_87, p_80, p_81, p_82, -⟩ := hw
          have hP : va_P (dC, dI) vwCl (wsM h ad cA fv_83 wd_84 ar_85) H1 := by have h9 := hB.1; rw [ht] at h9; exact h9
          have fr_86 : fM [8] fv_59 fv_83 := fr_86
          have fa_87 : fA [4] ar_61 ar_85 := fa_87
          have p_82 : wt_fm G9 (fv_83 8) (ar_85 4) := p_82
          generalize H1 = H at hP hS ⊢
          rcases p_81 with ⟨rfl, p_81⟩ | ⟨rfl, p_81⟩
          · skip
            have q_88 : ¬ mo_g (mm_D w9 fv_59 ar_61) G9 (pp.toInt.toNat) (x_58.toInt.toNat) := p_81
            refine lv_if_eq (tgt := 182) hx hb dX12_choose_74 (by decide) (fun c_89 => ?_) (fun c_89 => ?_)
            · skip
              obtain ⟨v_90, ev_90⟩ : ∃ z : Int32, z = x_58 + 1 := ⟨_, rfl⟩
              refine lv_iinc (v := v_90) (lv' := [(5, .int v_90), (0, .ref h), (1, .int pp), (2, .int a), (3, .int x_56), (4, .int x_57)]) hx hb dX12_choose_182 hl (k := 5) rfl (by rw [ev_90]; rfl) (by decide) rfl (fun ls hl => ?_)
              have t_91 : v_90.toInt = x_58.toInt + 1 ∧ 1 ≤ v_90.toInt ∧ v_90.toInt ≤ 80 := iv_addc ev_90 i_76 (by decide) (by decide) (by decide)
              refine lv_goto (tgt := 58) hx hb dX12_choose_185 (by decide) ?_
              have z_203 : (fv_83 35).toInt = (fv 35).toInt := congrArg Int32.toInt ((fr_86 35 rfl).trans ((fr_60 35 rfl).trans ((fr_46 35 rfl).trans ((fr_23 35 rfl).trans ((fr_10 35 rfl))))))
              have z_204 : 0 ≤ (fv_83 35).toInt ∧ (fv_83 35).toInt ≤ 80 := hF_fv_83 35
              exact ih_70 x_56 x_57 v_90 fv_83 ar_85 wd_84 _ _ ls (by omega) i_x_56 i_x_57 (iv_w t_91.2 (by decide) (by decide)) hF_fv_83 (fM_call (fM_call (fM_rf [8] _) fr_60 (by decide)) fr_86 (by decide)) hA_ar_85 (fA_call (fA_call (fA_rf [4] _) fa_62 (by decide)) fa_87 (by decide)) p_82 (mm_c_fr hp_65 (fM_call (fM_rf [8] _) fr_86 (by decide)) (fA_call (fA_rf [4] _) fa_87 (by decide)) rfl rfl) (mm_R_fr hp_66 (fM_call (fM_rf [8] _) fr_86 (by decide)) (fA_call (fA_rf [4] _) fa_87 (by decide)) rfl rfl rfl rfl rfl rfl rfl rfl rfl rfl rfl) (sW_fr hp_67 (fA_call (fA_rf [4] _) fa_87 (by decide)) rfl rfl) (by rw [show ar_85 82 = ar_61 82 from ((fA_call (fA_rf [4] _) fa_87 (by decide)) 82 rfl)]; rw [show v_90.toInt.toNat = (x_58.toInt.toNat) + 1 from by omega]; exact mo_ms_n q_68 (Or.inl (mm_cd_h (show ¬ mo_g (mm_D w9 fv ar) G9 (pp.toInt.toNat) (x_58.toInt.toNat) from (by have h9 := q_88; rw [show mm_D w9 fv_59 ar_61 = mm_D w9 fv ar from (mm_D_fr (fM_call (fM_call (fM_call (fM_call (fM_rf [8] _) fr_10 (by decide)) fr_23 (by decide)) fr_46 (by decide)) fr_60 (by decide)) (fA_call (fA_call (fA_call (fA_call (fA_rf [4, 82] _) fa_11 (by decide)) fa_24 (by decide)) fa_48 (by decide)) fa_62 (by decide)) rfl rfl)] at h9; exact h9))))) (by omega) hP hS (lv_sub hl [1, 2, 3, 4, 5, 0] rfl)
            · skip
              exact absurd c_89 (by decide)
          · skip
            have q_93 : mo_g (mm_D w9 fv_59 ar_61) G9 (pp.toInt.toNat) (x_58.toInt.toNat) := p_81
            refine lv_if_eq (tgt := 182) hx hb dX12_choose_74 (by decide) (fun c_94 => ?_) (fun c_94 => ?_)
            · skip
              exact absurd c_94 (by decide)
            · skip
              refine lv_aload_n hx hb dX12_choose_77 rfl (lv_at hl 0 rfl) ?_
              refine gM_28 hx hb htg hown hK hP dX12_choose_78 ?_
              refine lv_iload hx hb dX12_choose_81 (lv_at hl 5 rfl) ?_
              refine lM_28 hx hb hK hP (iv_in i_76 (by decide) (by decide)) dX12_choose_83 (fun v_95 ev_95 => ?_)
              have i_96 : 0 ≤ v_95.toInt ∧ v_95.toInt ≤ 719 := (by rw [ev_95, show ar_85 28 = ar 28 from ((fA_call (fA_call (fA_call (fA_call (fA_call (fA_rf [4, 82] _) fa_11 (by decide)) fa_24 (by decide)) fa_48 (by decide)) fa_62 (by decide)) fa_87 (by decide)) 28 rfl)]; exact hp_nR.1.2.2.1 _)
              refine lv_iload_n hx hb dX12_choose_84 rfl (lv_at hl 2 rfl) ?_
              refine lv_icmp_lt (tgt := 182) hx hb dX12_choose_85 (by decide) (fun c_97 => ?_) (fun c_97 => ?_)
              · skip
                have i_98 : 1 ≤ a.toInt ∧ a.toInt ≤ 2147483647 := iv_lt2 i_96 (iv_any a) c_97
                have k_99 := Int32.lt_iff_toInt_lt.mp c_97
                obtain ⟨v_100, ev_100⟩ : ∃ z : Int32, z = x_58 + 1 := ⟨_, rfl⟩
                refine lv_iinc (v := v_100) (lv' := [(5, .int v_100), (0, .ref h), (1, .int pp), (2, .int a), (3, .int x_56), (4, .int x_57)]) hx hb dX12_choose_182 hl (k := 5) rfl (by rw [ev_100]; rfl) (by decide) rfl (fun ls hl => ?_)
                have t_101 : v_100.toInt = x_58.toInt + 1 ∧ 1 ≤ v_100.toInt ∧ v_100.toInt ≤ 80 := iv_addc ev_100 i_76 (by decide) (by decide) (by decide)
                refine lv_goto (tgt := 58) hx hb dX12_choose_185 (by decide) ?_
                have z_205 : (fv_83 35).toInt = (fv 35).toInt := congrArg Int32.toInt ((fr_86 35 rfl).trans ((fr_60 35 rfl).trans ((fr_46 35 rfl).trans ((fr_23 35 rfl).trans ((fr_10 35 rfl))))))
                have z_206 : 0 ≤ (fv_83 35).toInt ∧ (fv_83 35).toInt ≤ 80 := hF_fv_83 35
                exact ih_70 x_56 x_57 v_100 fv_83 ar_85 wd_84 _ _ ls (by omega) i_x_56 i_x_57 (iv_w t_101.2 (by decide) (by decide)) hF_fv_83 (fM_call (fM_call (fM_rf [8] _) fr_60 (by decide)) fr_86 (by decide)) hA_ar_85 (fA_call (fA_call (fA_rf [4] _) fa_62 (by decide)) fa_87 (by decide)) p_82 (mm_c_fr hp_65 (fM_call (fM_rf [8] _) fr_86 (by decide)) (fA_call (fA_rf [4] _) fa_87 (by decide)) rfl rfl) (mm_R_fr hp_66 (fM_call (fM_rf [8] _) fr_86 (by decide)) (fA_call (fA_rf [4] _) fa_87 (by decide)) rfl rfl rfl rfl rfl rfl rfl rfl rfl rfl rfl) (sW_fr hp_67 (fA_call (fA_rf [4] _) fa_87 (by decide)) rfl rfl) (by rw [show ar_85 82 = ar_61 82 from ((fA_call (fA_rf [4] _) fa_87 (by decide)) 82 rfl)]; rw [show v_100.toInt.toNat = (x_58.toInt.toNat) + 1 from by omega]; exact mo_ms_n q_68 (Or.inl (mm_cd_e (show (mm_D w9 fv ar) 14 (x_58.toInt.toNat) = v_95 from by show ar 28 _ = _; rw [ev_95, show ar_85 28 = ar 28 from ((fA_call (fA_call (fA_call (fA_call (fA_call (fA_rf [4, 82] _) fa_11 (by decide)) fa_24 (by decide)) fa_48 (by decide)) fa_62 (by decide)) fa_87 (by decide)) 28 rfl)]; exact congrArg (ar 28) (show (x_58.toInt.toNat) = x_58.toInt.toNat from by omega)) (by omega)))) (by omega) hP hS (lv_sub hl [1, 2, 3, 4, 5, 0] rfl)
              · skip
                have i_103 : (-2147483648) ≤ a.toInt ∧ a.toInt ≤ 719 := iv_le1 (iv_any a) i_96 (Int32.not_lt.mp c_97)
                have k_104 := Int32.le_iff_toInt_le.mp (Int32.not_lt.mp c_97)
                refine lv_aload_n hx hb dX12_choose_88 rfl (lv_at hl 0 rfl) ?_
                refine lv_aload_n hx hb dX12_choose_89 rfl (lv_at hl 0 rfl) ?_
                refine gM_69 hx hb htg hown hK hP dX12_choose_90 ?_
                refine lv_iload_n hx hb dX12_choose_93 rfl (lv_at hl 1 rfl) ?_
                refine lM_69 hx hb hK hP (iv_in h_pp (by decide) (by decide)) dX12_choose_94 (fun v_105 ev_105 => ?_)
                obtain rfl : v_12 = v_105 := ev_12.trans ((congrFun ((fA_call (fA_call (fA_call (fA_call (fA_rf [4] _) fa_24 (by decide)) fa_48 (by decide)) fa_62 (by decide)) fa_87 (by decide)) 69 rfl) _).symm.trans ev_105.symm)
                refine lv_aload_n hx hb dX12_choose_95 rfl (lv_at hl 0 rfl) ?_
                refine gM_19 hx hb htg hown hK hP dX12_choose_96 ?_
                refine lv_aload_n hx hb dX12_choose_99 rfl (lv_at hl 0 rfl) ?_
                refine gM_26 hx hb htg hown hK hP dX12_choose_100 ?_
                refine lv_iload hx hb dX12_choose_103 (lv_at hl 5 rfl) ?_
                refine lM_26 hx hb hK hP (iv_in i_76 (by decide) (by decide)) dX12_choose_105 (fun v_106 ev_106 => ?_)
                have i_107 : 0 ≤ v_106.toInt ∧ v_106.toInt ≤ 7 := ev_106 ▸ hA_ar_85 26 _
                refine lM_19 hx hb hK hP (iv_in i_107 (by decide) (by decide)) dX12_choose_106 (fun v_108 ev_108 => ?_)
                have i_109 : 0 ≤ v_108.toInt ∧ v_108.toInt ≤ 11 := ev_108 ▸ hA_ar_85 19 _
                refine va_calli (va_runV (As := [.int v_12, .int v_108]) (rest := []) ⟨hx, hb, hml, hown, hts⟩ (m_farOf l dC dI H.size h ad cA hd fv_83 wd_84 ar_85 hF_fv_83 hA_ar_85 G9 v_12 v_108 i_13 i_109 p_82) (cwV 2 hts (gV kw_7_237 kw_7_239 kw_p_59 kw_1_15 kw_8_0) rfl rfl rfl (by decide +kernel) ⟨Nat.le_of_ble_eq_true rfl, Nat.le_of_ble_eq_true rfl⟩) ⟨fun a U g mk q => ⟨q.1, q.2.1, q.2.2.1, va_K.moved (u := U) (U := U.calling g mk a) (Vm.Alike.refl U.vm) q.2.2.2⟩, va_recv hK hP (ci := 12) (q0 := 0) rfl rfl, fun U hU hW => ⟨rfl, by rw [hU], by rw [hU]; exact hP, va_K.moved hW.alike hK⟩⟩ rfl rfl hl.1 rfl (lv_room (Nat.le_of_ble_eq_true rfl)) dX12_choose_107 ⟨Nat.le_of_ble_eq_true rfl, Nat.le_of_ble_eq_true rfl⟩) hS (fun q _ h9 => aM_up hS q h9) (aM_up hS) (fun r_110 u t H1 locs ht _ hw hB _ hk1 hS => ?_)
                obtain ⟨fv_114, wd_115, ar_116⟩ := u
                obtain ⟨hF_fv_114, hA_ar_116, fr_117, fa_118, p_111, p_112, p_113, -⟩ := hw
                have hP : va_P (dC, dI) vwCl (wsM h ad cA fv_114 wd_115 ar_116) H1 := by have h9 := hB.1; rw [ht] at h9; exact h9
                have fr_117 : fM [8] fv_83 fv_114 := fr_117
                have fa_118 : fA [4] ar_85 ar_116 := fa_118
                have p_113 : wt_fm G9 (fv_114 8) (ar_116 4) := p_113
                have p_112 : wt_rl (G9 (12 * v_12.toInt.toNat + v_108.toInt.toNat)) r_110.toInt := p_112
                generalize H1 = H at hP hS ⊢
                refine lv_ldc hx hb hown (htg (.constant RX12 225 100000) kw_7_232) dX12_choose_110 ?_
                refine lv_icmp_lt (tgt := 118) hx hb dX12_choose_112 (by decide) (fun c_119 => ?_) (fun c_119 => ?_)
                · skip
                  have i_120 : 0 ≤ r_110.toInt ∧ r_110.toInt ≤ 99999 := iv_lt1 p_111 (⟨by decide, by decide⟩ : (100000 : Int) ≤ (100000 : Int32).toInt ∧ (100000 : Int32).toInt ≤ 100000) c_119
                  refine lv_aload_n hx hb dX12_choose_118 rfl (lv_at hl 0 rfl) ?_
                  refine gM_85 hx hb htg hown hK hP dX12_choose_119 ?_
                  refine my_ti (y := fv 85) ((fr_117 85 rfl).trans ((fr_86 85 rfl).trans ((fr_60 85 rfl).trans ((fr_46 85 rfl).trans ((fr_23 85 rfl).trans ((fr_10 85 rfl))))))) ?_
                  have i_121 : 0 ≤ (fv 85).toInt ∧ (fv 85).toInt ≤ 840 := hF_fv 85
                  refine lv_aload_n hx hb dX12_choose_122 rfl (lv_at hl 0 rfl) ?_
                  refine lv_iload_n hx hb dX12_choose_123 rfl (lv_at hl 1 rfl) ?_
                  refine lv_aload_n hx hb dX12_choose_124 rfl (lv_at hl 0 rfl) ?_
                  refine gM_69 hx hb htg hown hK hP dX12_choose_125 ?_
                  refine lv_iload_n hx hb dX12_choose_128 rfl (lv_at hl 1 rfl) ?_
                  refine lM_69 hx hb hK hP (iv_in h_pp (by decide) (by decide)) dX12_choose_129 (fun v_122 ev_122 => ?_)
                  obtain rfl : v_12 = v_122 := ev_12.trans ((congrFun ((fA_call (fA_call (fA_call (fA_call (fA_call (fA_rf [4] _) fa_24 (by decide)) fa_48 (by decide)) fa_62 (by decide)) fa_87 (by decide)) fa_118 (by decide)) 69 rfl) _).symm.trans ev_122.symm)
                  refine lv_aload_n hx hb dX12_choose_130 rfl (lv_at hl 0 rfl) ?_
                  refine gM_19 hx hb htg hown hK hP dX12_choose_131 ?_
                  refine lv_aload_n hx hb dX12_choose_134 rfl (lv_at hl 0 rfl) ?_
                  refine gM_26 hx hb htg hown hK hP dX12_choose_135 ?_
                  refine lv_iload hx hb dX12_choose_138 (lv_at hl 5 rfl) ?_
                  refine lM_26 hx hb hK hP (iv_in i_76 (by decide) (by decide)) dX12_choose_140 (fun v_123 ev_123 => ?_)
                  obtain rfl : v_106 = v_123 := ev_106.trans ((congrFun ((fA_call (fA_rf [4] _) fa_118 (by decide)) 26 rfl) _).symm.trans ev_123.symm)
                  refine lM_19 hx hb hK hP (iv_in i_107 (by decide) (by decide)) dX12_choose_141 (fun v_124 ev_124 => ?_)
                  obtain rfl : v_108 = v_124 := ev_108.trans ((congrFun ((fA_call (fA_rf [4] _) fa_118 (by decide)) 19 rfl) _).symm.trans ev_124.symm)
                  refine va_calli (va_runV (As := [.int pp, .int v_12, .int v_108]) (rest := [.int (fv 85)]) ⟨hx, hb, hml, hown, hts⟩ (m_walkE l dC dI H.size h ad cA hd fv_114 wd_115 ar_116 hF_fv_114 hA_ar_116 G9 w9 pp v_12 v_108 h_pp i_13 i_109 (mm_R_fr hp_66 (fM_call (fM_call (fM_rf [8] _) fr_86 (by decide)) fr_117 (by decide)) (fA_call (fA_call (fA_rf [4] _) fa_87 (by decide)) fa_118 (by decide)) rfl rfl rfl rfl rfl rfl rfl rfl rfl rfl rfl) p_113) (cwV 3 hts (gV kw_8_208 kw_8_210 kw_p_92 kw_1_15 kw_8_211) rfl rfl rfl (by decide +kernel) ⟨Nat.le_of_ble_eq_true rfl, Nat.le_of_ble_eq_true rfl⟩) ⟨fun a U g mk q => ⟨q.1, q.2.1, q.2.2.1, va_K.moved (u := U) (U := U.calling g mk a) (Vm.Alike.refl U.vm) q.2.2.2⟩, va_recv hK hP (ci := 12) (q0 := 0) rfl rfl, fun U hU hW => ⟨rfl, by rw [hU], by rw [hU]; exact hP, va_K.moved hW.alike hK⟩⟩ rfl rfl hl.1 rfl (lv_room (Nat.le_of_ble_eq_true rfl)) dX12_choose_142 ⟨Nat.le_of_ble_eq_true rfl, Nat.le_of_ble_eq_true rfl⟩) hS (fun q _ h9 => aM_up hS q h9) (aM_up hS) (fun r_125 u t H1 locs ht _ hw hB _ hk1 hS => ?_)
                  obtain ⟨fv_129, wd_130, ar_131⟩ := u
                  obtain ⟨hF_fv_129, hA_ar_131, fr_132, fa_133, p_126, p_127, p_128, -⟩ := hw
                  have hP : va_P (dC, dI) vwCl (wsM h ad cA fv_129 wd_130 ar_131) H1 := by have h9 := hB.1; rw [ht] at h9; exact h9
                  have fr_132 : fM [8] fv_114 fv_129 := fr_132
                  have fa_133 : fA [4] ar_116 ar_131 := fa_133
                  have p_128 : wt_fm G9 (fv_129 8) (ar_131 4) := p_128
                  have p_127 : mm_w G9 (mo_pc (mm_D w9 fv_114 ar_116) (ar_116 15 (pp.toInt.toNat)) (pp.toInt.toNat)) v_12.toInt.toNat v_108.toInt.toNat r_125.toInt := p_127
                  generalize H1 = H at hP hS ⊢
                  have wk_134 : mm_w G9 (mo_pc (mm_D w9 fv ar) (ar 15 (pp.toInt.toNat)) (pp.toInt.toNat)) (v_12.toInt.toNat) (v_108.toInt.toNat) r_125.toInt := (by have h9 := p_127; rw [show mm_D w9 fv_114 ar_116 = mm_D w9 fv ar from (mm_D_fr (fM_call (fM_call (fM_call (fM_call (fM_call (fM_call (fM_rf [8] _) fr_10 (by decide)) fr_23 (by decide)) fr_46 (by decide)) fr_60 (by decide)) fr_86 (by decide)) fr_117 (by decide)) (fA_call (fA_call (fA_call (fA_call (fA_call (fA_call (fA_rf [4, 82] _) fa_11 (by decide)) fa_24 (by decide)) fa_48 (by decide)) fa_62 (by decide)) fa_87 (by decide)) fa_118 (by decide)) rfl rfl), show ar_116 15 = ar 15 from ((fA_call (fA_call (fA_call (fA_call (fA_call (fA_call (fA_rf [4, 82] _) fa_11 (by decide)) fa_24 (by decide)) fa_48 (by decide)) fa_62 (by decide)) fa_87 (by decide)) fa_118 (by decide)) 15 rfl)] at h9; exact h9)
                  refine lv_iadd hx hb dX12_choose_145 ?_
                  refine lv_topi (fun v_135 ev_135 => ?_)
                  have t_136 : v_135.toInt = (fv 85).toInt + r_125.toInt ∧ 0 ≤ v_135.toInt ∧ v_135.toInt ≤ 600840 := iv_add ev_135 i_121 p_126 (by decide) (by decide)
                  refine lv_aload_n hx hb dX12_choose_146 rfl (lv_at hl 0 rfl) ?_
                  refine gM_28 hx hb htg hown hK hP dX12_choose_147 ?_
                  refine lv_iload hx hb dX12_choose_150 (lv_at hl 5 rfl) ?_
                  refine lM_28 hx hb hK hP (iv_in i_76 (by decide) (by decide)) dX12_choose_152 (fun v_138 ev_138 => ?_)
                  obtain rfl : v_95 = v_138 := ev_95.trans ((congrFun ((fA_call (fA_call (fA_rf [4] _) fa_118 (by decide)) fa_133 (by decide)) 28 rfl) _).symm.trans ev_138.symm)
                  refine lv_icmp_gt (tgt := 182) hx hb dX12_choose_153 (by decide) (fun c_139 => ?_) (fun c_139 => ?_)
                  · skip
                    have i_140 : 1 ≤ v_135.toInt ∧ v_135.toInt ≤ 600840 := iv_lt2 i_96 t_136.2 c_139
                    have k_141 := Int32.lt_iff_toInt_lt.mp c_139
                    obtain ⟨v_142, ev_142⟩ : ∃ z : Int32, z = x_58 + 1 := ⟨_, rfl⟩
                    refine lv_iinc (v := v_142) (lv' := [(5, .int v_142), (0, .ref h), (1, .int pp), (2, .int a), (3, .int x_56), (4, .int x_57)]) hx hb dX12_choose_182 hl (k := 5) rfl (by rw [ev_142]; rfl) (by decide) rfl (fun ls hl => ?_)
                    have t_143 : v_142.toInt = x_58.toInt + 1 ∧ 1 ≤ v_142.toInt ∧ v_142.toInt ≤ 80 := iv_addc ev_142 i_76 (by decide) (by decide) (by decide)
                    refine lv_goto (tgt := 58) hx hb dX12_choose_185 (by decide) ?_
                    have z_207 : (fv_129 35).toInt = (fv 35).toInt := congrArg Int32.toInt ((fr_132 35 rfl).trans ((fr_117 35 rfl).trans ((fr_86 35 rfl).trans ((fr_60 35 rfl).trans ((fr_46 35 rfl).trans ((fr_23 35 rfl).trans ((fr_10 35 rfl))))))))
                    have z_208 : 0 ≤ (fv_129 35).toInt ∧ (fv_129 35).toInt ≤ 80 := hF_fv_129 35
                    exact ih_70 x_56 x_57 v_142 fv_129 ar_131 wd_130 _ _ ls (by omega) i_x_56 i_x_57 (iv_w t_143.2 (by decide) (by decide)) hF_fv_129 (fM_call (fM_call (fM_call (fM_call (fM_rf [8] _) fr_60 (by decide)) fr_86 (by decide)) fr_117 (by decide)) fr_132 (by decide)) hA_ar_131 (fA_call (fA_call (fA_call (fA_call (fA_rf [4] _) fa_62 (by decide)) fa_87 (by decide)) fa_118 (by decide)) fa_133 (by decide)) p_128 (mm_c_fr hp_65 (fM_call (fM_call (fM_call (fM_rf [8] _) fr_86 (by decide)) fr_117 (by decide)) fr_132 (by decide)) (fA_call (fA_call (fA_call (fA_rf [4] _) fa_87 (by decide)) fa_118 (by decide)) fa_133 (by decide)) rfl rfl) (mm_R_fr hp_66 (fM_call (fM_call (fM_call (fM_rf [8] _) fr_86 (by decide)) fr_117 (by decide)) fr_132 (by decide)) (fA_call (fA_call (fA_call (fA_rf [4] _) fa_87 (by decide)) fa_118 (by decide)) fa_133 (by decide)) rfl rfl rfl rfl rfl rfl rfl rfl rfl rfl rfl) (sW_fr hp_67 (fA_call (fA_call (fA_call (fA_rf [4] _) fa_87 (by decide)) fa_118 (by decide)) fa_133 (by decide)) rfl rfl) (by rw [show ar_131 82 = ar_61 82 from ((fA_call (fA_call (fA_call (fA_rf [4] _) fa_87 (by decide)) fa_118 (by decide)) fa_133 (by decide)) 82 rfl)]; rw [show v_142.toInt.toNat = (x_58.toInt.toNat) + 1 from by omega]; exact mo_ms_n q_68 (Or.inl (mm_cd_l (show (mm_D w9 fv ar) 14 (x_58.toInt.toNat) = v_95 from by show ar 28 _ = _; rw [ev_95, show ar_85 28 = ar 28 from ((fA_call (fA_call (fA_call (fA_call (fA_call (fA_rf [4, 82] _) fa_11 (by decide)) fa_24 (by decide)) fa_48 (by decide)) fa_62 (by decide)) fa_87 (by decide)) 28 rfl)]; exact congrArg (ar 28) (show (x_58.toInt.toNat) = x_58.toInt.toNat from by omega)) (by show (ar 19 (ar 26 (x_58.toInt.toNat)).toInt.toNat).toInt.toNat = _; rw [show ar 26 (x_58.toInt.toNat) = v_106 from ((show v_106 = ar 26 (x_58.toInt.toNat) from by rw [ev_106, show ar_85 26 = ar 26 from ((fA_call (fA_call (fA_call (fA_call (fA_call (fA_rf [4, 82] _) fa_11 (by decide)) fa_24 (by decide)) fa_48 (by decide)) fa_62 (by decide)) fa_87 (by decide)) 26 rfl)]; exact congrArg (ar 26) (show x_58.toInt.toNat = (x_58.toInt.toNat) from by omega))).symm, show ar 19 (v_106.toInt.toNat) = v_108 from ((show v_108 = ar 19 (v_106.toInt.toNat) from by rw [ev_108, show ar_85 19 = ar 19 from ((fA_call (fA_call (fA_call (fA_call (fA_call (fA_rf [4, 82] _) fa_11 (by decide)) fa_24 (by decide)) fa_48 (by decide)) fa_62 (by decide)) fa_87 (by decide)) 19 rfl)]; exact congrArg (ar 19) (show v_106.toInt.toNat = (v_106.toInt.toNat) from by omega))).symm]) (show wt_rl (G9 (12 * ((ar 69 (pp.toInt.toNat)).toInt.toNat) + v_108.toInt.toNat)) r_110.toInt from by rw [show ar 69 (pp.toInt.toNat) = v_12 from ((show v_12 = ar 69 (pp.toInt.toNat) from by rw [ev_12, show ar_9 69 = ar 69 from ((fA_call (fA_rf [4, 82] _) fa_11 (by decide)) 69 rfl)]; exact congrArg (ar 69) (show pp.toInt.toNat = (pp.toInt.toNat) from by omega))).symm]; exact p_112) (by omega) (show mm_w G9 (mo_pc (mm_D w9 fv ar) (ar 15 (pp.toInt.toNat)) (pp.toInt.toNat)) ((ar 69 (pp.toInt.toNat)).toInt.toNat) v_108.toInt.toNat r_125.toInt from by rw [show ar 69 (pp.toInt.toNat) = v_12 from ((show v_12 = ar 69 (pp.toInt.toNat) from by rw [ev_12, show ar_9 69 = ar 69 from ((fA_call (fA_rf [4, 82] _) fa_11 (by decide)) 69 rfl)]; exact congrArg (ar 69) (show pp.toInt.toNat = (pp.toInt.toNat) from by omega))).symm]; exact wk_134) (by omega)))) (by omega) hP hS (lv_sub hl [1, 2, 3, 4, 5, 0] rfl)
                  · skip
                    have i_145 : 0 ≤ v_135.toInt ∧ v_135.toInt ≤ 719 := iv_le1 t_136.2 i_96 (Int32.not_lt.mp c_139)
                    have k_146 := Int32.le_iff_toInt_le.mp (Int32.not_lt.mp c_139)
                    refine lv_aload_n hx hb dX12_choose_156 rfl (lv_at hl 0 rfl) ?_
                    refine gM_82 hx hb htg hown hK hP dX12_choose_157 ?_
                    refine lv_iload hx hb dX12_choose_160 (lv_at hl 5 rfl) ?_
                    refine lM_82 hx hb hK hP (iv_in i_76 (by decide) (by decide)) dX12_choose_162 (fun v_147 ev_147 => ?_)
                    refine lv_iload_n hx hb dX12_choose_163 rfl (lv_at hl 3 rfl) ?_
                    refine lv_icmp_lt (tgt := 170) hx hb dX12_choose_164 (by decide) (fun c_148 => ?_) (fun c_148 => ?_)
                    · skip
                      have i_149 : (-2147483648) ≤ v_147.toInt ∧ v_147.toInt ≤ 600839 := iv_lt1 (iv_any v_147) i_x_56 c_148
                      have i_150 : (-2147483647) ≤ x_56.toInt ∧ x_56.toInt ≤ 600840 := iv_lt2 (iv_any v_147) i_x_56 c_148
                      have k_151 := Int32.lt_iff_toInt_lt.mp c_148
                      refine lv_aload_n hx hb dX12_choose_170 rfl (lv_at hl 0 rfl) ?_
                      refine gM_82 hx hb htg hown hK hP dX12_choose_171 ?_
                      refine lv_iload hx hb dX12_choose_174 (lv_at hl 5 rfl) ?_
                      refine lM_82 hx hb hK hP (iv_in i_76 (by decide) (by decide)) dX12_choose_176 (fun v_152 ev_152 => ?_)
                      obtain rfl : v_147 = v_152 := ev_147.trans ev_152.symm
                      refine lv_istore_n (lv' := [(3, .int v_147), (0, .ref h), (1, .int pp), (2, .int a), (4, .int x_57), (5, .int x_58)]) hx hb dX12_choose_177 rfl hl (by decide) rfl (fun ls hl => ?_)
                      refine lv_iload hx hb dX12_choose_178 (lv_at hl 5 rfl) ?_
                      refine lv_istore (lv' := [(4, .int x_58), (3, .int v_147), (0, .ref h), (1, .int pp), (2, .int a), (5, .int x_58)]) hx hb dX12_choose_180 hl (by decide) rfl (fun ls hl => ?_)
                      obtain ⟨v_153, ev_153⟩ : ∃ z : Int32, z = x_58 + 1 := ⟨_, rfl⟩
                      refine lv_iinc (v := v_153) (lv' := [(5, .int v_153), (4, .int x_58), (3, .int v_147), (0, .ref h), (1, .int pp), (2, .int a)]) hx hb dX12_choose_182 hl (k := 5) rfl (by rw [ev_153]; rfl) (by decide) rfl (fun ls hl => ?_)
                      have t_154 : v_153.toInt = x_58.toInt + 1 ∧ 1 ≤ v_153.toInt ∧ v_153.toInt ≤ 80 := iv_addc ev_153 i_76 (by decide) (by decide) (by decide)
                      refine lv_goto (tgt := 58) hx hb dX12_choose_185 (by decide) ?_
                      have z_209 : (fv_129 35).toInt = (fv 35).toInt := congrArg Int32.toInt ((fr_132 35 rfl).trans ((fr_117 35 rfl).trans ((fr_86 35 rfl).trans ((fr_60 35 rfl).trans ((fr_46 35 rfl).trans ((fr_23 35 rfl).trans ((fr_10 35 rfl))))))))
                      have z_210 : 0 ≤ (fv_129 35).toInt ∧ (fv_129 35).toInt ≤ 80 := hF_fv_129 35
                      exact ih_70 v_147 x_58 v_153 fv_129 ar_131 wd_130 _ _ ls (by omega) (iv_w i_149 (by decide) (by decide)) (iv_w i_76 (by decide) (by decide)) (iv_w t_154.2 (by decide) (by decide)) hF_fv_129 (fM_call (fM_call (fM_call (fM_call (fM_rf [8] _) fr_60 (by decide)) fr_86 (by decide)) fr_117 (by decide)) fr_132 (by decide)) hA_ar_131 (fA_call (fA_call (fA_call (fA_call (fA_rf [4] _) fa_62 (by decide)) fa_87 (by decide)) fa_118 (by decide)) fa_133 (by decide)) p_128 (mm_c_fr hp_65 (fM_call (fM_call (fM_call (fM_rf [8] _) fr_86 (by decide)) fr_117 (by decide)) fr_132 (by decide)) (fA_call (fA_call (fA_call (fA_rf [4] _) fa_87 (by decide)) fa_118 (by decide)) fa_133 (by decide)) rfl rfl) (mm_R_fr hp_66 (fM_call (fM_call (fM_call (fM_rf [8] _) fr_86 (by decide)) fr_117 (by decide)) fr_132 (by decide)) (fA_call (fA_call (fA_call (fA_rf [4] _) fa_87 (by decide)) fa_118 (by decide)) fa_133 (by decide)) rfl rfl rfl rfl rfl rfl rfl rfl rfl rfl rfl) (sW_fr hp_67 (fA_call (fA_call (fA_call (fA_rf [4] _) fa_87 (by decide)) fa_118 (by decide)) fa_133 (by decide)) rfl rfl) (by rw [show ar_131 82 = ar_61 82 from ((fA_call (fA_call (fA_call (fA_rf [4] _) fa_87 (by decide)) fa_118 (by decide)) fa_133 (by decide)) 82 rfl)]; rw [show v_153.toInt.toNat = (x_58.toInt.toNat) + 1 from by omega]; have h82 : ar_61 82 (x_58.toInt.toNat) = v_147 := (by rw [ev_147, show ar_131 82 = ar_61 82 from ((fA_call (fA_call (fA_call (fA_rf [4] _) fa_87 (by decide)) fa_118 (by decide)) fa_133 (by decide)) 82 rfl)]; exact congrArg (ar_61 82) (show (x_58.toInt.toNat) = x_58.toInt.toNat from by omega)); have h9 := mo_ms_y q_68 (mm_cd_y (show mo_g (mm_D w9 fv ar) G9 (pp.toInt.toNat) (x_58.toInt.toNat) from (by have h9 := q_93; rw [show mm_D w9 fv_59 ar_61 = mm_D w9 fv ar from (mm_D_fr (fM_call (fM_call (fM_call (fM_call (fM_rf [8] _) fr_10 (by decide)) fr_23 (by decide)) fr_46 (by decide)) fr_60 (by decide)) (fA_call (fA_call (fA_call (fA_call (fA_rf [4, 82] _) fa_11 (by decide)) fa_24 (by decide)) fa_48 (by decide)) fa_62 (by decide)) rfl rfl)] at h9; exact h9)) (show (mm_D w9 fv ar) 14 (x_58.toInt.toNat) = v_95 from by show ar 28 _ = _; rw [ev_95, show ar_85 28 = ar 28 from ((fA_call (fA_call (fA_call (fA_call (fA_call (fA_rf [4, 82] _) fa_11 (by decide)) fa_24 (by decide)) fa_48 (by decide)) fa_62 (by decide)) fa_87 (by decide)) 28 rfl)]; exact congrArg (ar 28) (show (x_58.toInt.toNat) = x_58.toInt.toNat from by omega)) (by omega) (by show (ar 19 (ar 26 (x_58.toInt.toNat)).toInt.toNat).toInt.toNat = _; rw [show ar 26 (x_58.toInt.toNat) = v_106 from ((show v_106 = ar 26 (x_58.toInt.toNat) from by rw [ev_106, show ar_85 26 = ar 26 from ((fA_call (fA_call (fA_call (fA_call (fA_call (fA_rf [4, 82] _) fa_11 (by decide)) fa_24 (by decide)) fa_48 (by decide)) fa_62 (by decide)) fa_87 (by decide)) 26 rfl)]; exact congrArg (ar 26) (show x_58.toInt.toNat = (x_58.toInt.toNat) from by omega))).symm, show ar 19 (v_106.toInt.toNat) = v_108 from ((show v_108 = ar 19 (v_106.toInt.toNat) from by rw [ev_108, show ar_85 19 = ar 19 from ((fA_call (fA_call (fA_call (fA_call (fA_call (fA_rf [4, 82] _) fa_11 (by decide)) fa_24 (by decide)) fa_48 (by decide)) fa_62 (by decide)) fa_87 (by decide)) 19 rfl)]; exact congrArg (ar 19) (show v_106.toInt.toNat = (v_106.toInt.toNat) from by omega))).symm]) (show wt_rl (G9 (12 * ((ar 69 (pp.toInt.toNat)).toInt.toNat) + v_108.toInt.toNat)) r_110.toInt from by rw [show ar 69 (pp.toInt.toNat) = v_12 from ((show v_12 = ar 69 (pp.toInt.toNat) from by rw [ev_12, show ar_9 69 = ar 69 from ((fA_call (fA_rf [4, 82] _) fa_11 (by decide)) 69 rfl)]; exact congrArg (ar 69) (show pp.toInt.toNat = (pp.toInt.toNat) from by omega))).symm]; exact p_112) (by omega) (show mm_w G9 (mo_pc (mm_D w9 fv ar) (ar 15 (pp.toInt.toNat)) (pp.toInt.toNat)) ((ar 69 (pp.toInt.toNat)).toInt.toNat) v_108.toInt.toNat r_125.toInt from by rw [show ar 69 (pp.toInt.toNat) = v_12 from ((show v_12 = ar 69 (pp.toInt.toNat) from by rw [ev_12, show ar_9 69 = ar 69 from ((fA_call (fA_rf [4, 82] _) fa_11 (by decide)) 69 rfl)]; exact congrArg (ar 69) (show pp.toInt.toNat = (pp.toInt.toNat) from by omega))).symm]; exact wk_134) (by omega)) (by show (ar_61 82 (x_58.toInt.toNat)).toInt < _; rw [h82]; omega); rw [show (ar_61 82 (x_58.toInt.toNat)).toInt = v_147.toInt from by rw [h82], show (((x_58.toInt.toNat) : Nat) : Int) = x_58.toInt from by omega] at h9; exact h9) (by omega) hP hS (lv_sub hl [3, 4, 5, 2, 1, 0] rfl)
                    · skip
                      have k_156 := Int32.le_iff_toInt_le.mp (Int32.not_lt.mp c_148)
                      refine lv_goto (tgt := 182) hx hb dX12_choose_167 (by decide) ?_
                      obtain ⟨v_157, ev_157⟩ : ∃ z : Int32, z = x_58 + 1 := ⟨_, rfl⟩
                      refine lv_iinc (v := v_157) (lv' := [(5, .int v_157), (0, .ref h), (1, .int pp), (2, .int a), (3, .int x_56), (4, .int x_57)]) hx hb dX12_choose_182 hl (k := 5) rfl (by rw [ev_157]; rfl) (by decide) rfl (fun ls hl => ?_)
                      have t_158 : v_157.toInt = x_58.toInt + 1 ∧ 1 ≤ v_157.toInt ∧ v_157.toInt ≤ 80 := iv_addc ev_157 i_76 (by decide) (by decide) (by decide)
                      refine lv_goto (tgt := 58) hx hb dX12_choose_185 (by decide) ?_
                      have z_211 : (fv_129 35).toInt = (fv 35).toInt := congrArg Int32.toInt ((fr_132 35 rfl).trans ((fr_117 35 rfl).trans ((fr_86 35 rfl).trans ((fr_60 35 rfl).trans ((fr_46 35 rfl).trans ((fr_23 35 rfl).trans ((fr_10 35 rfl))))))))
                      have z_212 : 0 ≤ (fv_129 35).toInt ∧ (fv_129 35).toInt ≤ 80 := hF_fv_129 35
                      exact ih_70 x_56 x_57 v_157 fv_129 ar_131 wd_130 _ _ ls (by omega) i_x_56 i_x_57 (iv_w t_158.2 (by decide) (by decide)) hF_fv_129 (fM_call (fM_call (fM_call (fM_call (fM_rf [8] _) fr_60 (by decide)) fr_86 (by decide)) fr_117 (by decide)) fr_132 (by decide)) hA_ar_131 (fA_call (fA_call (fA_call (fA_call (fA_rf [4] _) fa_62 (by decide)) fa_87 (by decide)) fa_118 (by decide)) fa_133 (by decide)) p_128 (mm_c_fr hp_65 (fM_call (fM_call (fM_call (fM_rf [8] _) fr_86 (by decide)) fr_117 (by decide)) fr_132 (by decide)) (fA_call (fA_call (fA_call (fA_rf [4] _) fa_87 (by decide)) fa_118 (by decide)) fa_133 (by decide)) rfl rfl) (mm_R_fr hp_66 (fM_call (fM_call (fM_call (fM_rf [8] _) fr_86 (by decide)) fr_117 (by decide)) fr_132 (by decide)) (fA_call (fA_call (fA_call (fA_rf [4] _) fa_87 (by decide)) fa_118 (by decide)) fa_133 (by decide)) rfl rfl rfl rfl rfl rfl rfl rfl rfl rfl rfl) (sW_fr hp_67 (fA_call (fA_call (fA_call (fA_rf [4] _) fa_87 (by decide)) fa_118 (by decide)) fa_133 (by decide)) rfl rfl) (by rw [show ar_131 82 = ar_61 82 from ((fA_call (fA_call (fA_call (fA_rf [4] _) fa_87 (by decide)) fa_118 (by decide)) fa_133 (by decide)) 82 rfl)]; rw [show v_157.toInt.toNat = (x_58.toInt.toNat) + 1 from by omega]; have h82 : ar_61 82 (x_58.toInt.toNat) = v_147 := (by rw [ev_147, show ar_131 82 = ar_61 82 from ((fA_call (fA_call (fA_call (fA_rf [4] _) fa_87 (by decide)) fa_118 (by decide)) fa_133 (by decide)) 82 rfl)]; exact congrArg (ar_61 82) (show (x_58.toInt.toNat) = x_58.toInt.toNat from by omega)); exact mo_ms_n q_68 (Or.inr (by show x_56.toInt ≤ (ar_61 82 (x_58.toInt.toNat)).toInt; rw [h82]; omega))) (by omega) hP hS (lv_sub hl [1, 2, 3, 4, 5, 0] rfl)
                · skip
                  have i_160 : 100000 ≤ r_110.toInt ∧ r_110.toInt ≤ 100000 := iv_le2 (⟨by decide, by decide⟩ : (100000 : Int) ≤ (100000 : Int32).toInt ∧ (100000 : Int32).toInt ≤ 100000) p_111 (Int32.not_lt.mp c_119)
                  refine lv_goto (tgt := 182) hx hb dX12_choose_115 (by decide) ?_
                  obtain ⟨v_161, ev_161⟩ : ∃ z : Int32, z = x_58 + 1 := ⟨_, rfl⟩
                  refine lv_iinc (v := v_161) (lv' := [(5, .int v_161), (0, .ref h), (1, .int pp), (2, .int a), (3, .int x_56), (4, .int x_57)]) hx hb dX12_choose_182 hl (k := 5) rfl (by rw [ev_161]; rfl) (by decide) rfl (fun ls hl => ?_)
                  have t_162 : v_161.toInt = x_58.toInt + 1 ∧ 1 ≤ v_161.toInt ∧ v_161.toInt ≤ 80 := iv_addc ev_161 i_76 (by decide) (by decide) (by decide)
                  refine lv_goto (tgt := 58) hx hb dX12_choose_185 (by decide) ?_
                  have z_213 : (fv_114 35).toInt = (fv 35).toInt := congrArg Int32.toInt ((fr_117 35 rfl).trans ((fr_86 35 rfl).trans ((fr_60 35 rfl).trans ((fr_46 35 rfl).trans ((fr_23 35 rfl).trans ((fr_10 35 rfl)))))))
                  have z_214 : 0 ≤ (fv_114 35).toInt ∧ (fv_114 35).toInt ≤ 80 := hF_fv_114 35
                  exact ih_70 x_56 x_57 v_161 fv_114 ar_116 wd_115 _ _ ls (by omega) i_x_56 i_x_57 (iv_w t_162.2 (by decide) (by decide)) hF_fv_114 (fM_call (fM_call (fM_call (fM_rf [8] _) fr_60 (by decide)) fr_86 (by decide)) fr_117 (by decide)) hA_ar_116 (fA_call (fA_call (fA_call (fA_rf [4] _) fa_62 (by decide)) fa_87 (by decide)) fa_118 (by decide)) p_113 (mm_c_fr hp_65 (fM_call (fM_call (fM_rf [8] _) fr_86 (by decide)) fr_117 (by decide)) (fA_call (fA_call (fA_rf [4] _) fa_87 (by decide)) fa_118 (by decide)) rfl rfl) (mm_R_fr hp_66 (fM_call (fM_call (fM_rf [8] _) fr_86 (by decide)) fr_117 (by decide)) (fA_call (fA_call (fA_rf [4] _) fa_87 (by decide)) fa_118 (by decide)) rfl rfl rfl rfl rfl rfl rfl rfl rfl rfl rfl) (sW_fr hp_67 (fA_call (fA_call (fA_rf [4] _) fa_87 (by decide)) fa_118 (by decide)) rfl rfl) (by rw [show ar_116 82 = ar_61 82 from ((fA_call (fA_call (fA_rf [4] _) fa_87 (by decide)) fa_118 (by decide)) 82 rfl)]; rw [show v_161.toInt.toNat = (x_58.toInt.toNat) + 1 from by omega]; exact mo_ms_n q_68 (Or.inl (mm_cd_f hp_nR.1 (by have h85 := hF_fv 85; exact h85.1) (by show (ar 19 (ar 26 (x_58.toInt.toNat)).toInt.toNat).toInt.toNat = _; rw [show ar 26 (x_58.toInt.toNat) = v_106 from ((show v_106 = ar 26 (x_58.toInt.toNat) from by rw [ev_106, show ar_85 26 = ar 26 from ((fA_call (fA_call (fA_call (fA_call (fA_call (fA_rf [4, 82] _) fa_11 (by decide)) fa_24 (by decide)) fa_48 (by decide)) fa_62 (by decide)) fa_87 (by decide)) 26 rfl)]; exact congrArg (ar 26) (show x_58.toInt.toNat = (x_58.toInt.toNat) from by omega))).symm, show ar 19 (v_106.toInt.toNat) = v_108 from ((show v_108 = ar 19 (v_106.toInt.toNat) from by rw [ev_108, show ar_85 19 = ar 19 from ((fA_call (fA_call (fA_call (fA_call (fA_call (fA_rf [4, 82] _) fa_11 (by decide)) fa_24 (by decide)) fa_48 (by decide)) fa_62 (by decide)) fa_87 (by decide)) 19 rfl)]; exact congrArg (ar 19) (show v_106.toInt.toNat = (v_106.toInt.toNat) from by omega))).symm]) (show wt_rl (G9 (12 * ((ar 69 (pp.toInt.toNat)).toInt.toNat) + v_108.toInt.toNat)) r_110.toInt from by rw [show ar 69 (pp.toInt.toNat) = v_12 from ((show v_12 = ar 69 (pp.toInt.toNat) from by rw [ev_12, show ar_9 69 = ar 69 from ((fA_call (fA_rf [4, 82] _) fa_11 (by decide)) 69 rfl)]; exact congrArg (ar 69) (show pp.toInt.toNat = (pp.toInt.toNat) from by omega))).symm]; exact p_112) (by omega)))) (by omega) hP hS (lv_sub hl [1, 2, 3, 4, 5, 0] rfl)
    · skip
      have z_215 : ((-1) : Int32).toInt = (-1) := by decide
      have z_216 : (0 : Int32).toInt = 0 := by decide
      have z_217 : (fv_45 35).toInt = (fv 35).toInt := congrArg Int32.toInt ((fr_46 35 rfl).trans ((fr_23 35 rfl).trans ((fr_10 35 rfl))))
      have z_218 : 0 ≤ (fv_45 35).toInt ∧ (fv_45 35).toInt ≤ 80 := hF_fv_45 35
      exact hj_72 81 x_44 (-1) 0 fv_45 ar_47 wd_49 _ _ ls (by first | decide | omega) (iv_w i_x_44 (by decide) (by decide)) (iv_w (⟨by decide, by decide⟩ : (-1 : Int) ≤ ((-1) : Int32).toInt ∧ ((-1) : Int32).toInt ≤ -1) (by decide) (by decide)) (iv_w (⟨by decide, by decide⟩ : (0 : Int) ≤ (0 : Int32).toInt ∧ (0 : Int32).toInt ≤ 0) (by decide) (by decide)) hF_fv_45 (fM_rf [8] _) hA_ar_47 (fA_rf [4] _) hp_50 hp_51 hp_52 hp_53 (by rw [show (0 : Int32).toInt.toNat = 0 from by decide]; exact mo_ms0 _ _ _) (by omega) hP hS (lv_sub hl [1, 2, 3, 4, 5, 0] rfl)
  · skip
    refine lv_icmp_ge (tgt := 55) hx hb dX12_choose_29 (by decide) (fun c_25 => ?_) (fun c_25 => ?_)
    · skip
      have i_26 : 100000 ≤ r_16.toInt ∧ r_16.toInt ≤ 100000 := iv_le2 (⟨by decide, by decide⟩ : (100000 : Int) ≤ (100000 : Int32).toInt ∧ (100000 : Int32).toInt ≤ 100000) p_17 c_25
      have z_219 : (100000 : Int32).toInt = 100000 := by decide
      exact hj_55 100000 fv_20 ar_22 wd_21 _ _ ls (iv_w (⟨by decide, by decide⟩ : (100000 : Int) ≤ (100000 : Int32).toInt ∧ (100000 : Int32).toInt ≤ 100000) (by decide) (by decide)) hF_fv_20 (fM_rf [8] _) hA_ar_22 (fA_rf [4] _) p_19 (mm_c_fr hp_nC (fM_call (fM_call (fM_rf [8] _) fr_10 (by decide)) fr_23 (by decide)) (fA_call (fA_call (fA_rf [4, 82] _) fa_11 (by decide)) fa_24 (by decide)) rfl rfl) (mm_R_fr hp_nR (fM_call (fM_call (fM_rf [8] _) fr_10 (by decide)) fr_23 (by decide)) (fA_call (fA_call (fA_rf [4, 82] _) fa_11 (by decide)) fa_24 (by decide)) rfl rfl rfl rfl rfl rfl rfl rfl rfl rfl rfl) (sW_fr hp_sW (fA_call (fA_call (fA_rf [4, 82] _) fa_11 (by decide)) fa_24 (by decide)) rfl rfl) (by rw [show ar 69 (pp.toInt.toNat) = v_12 from ((show v_12 = ar 69 (pp.toInt.toNat) from by rw [ev_12, show ar_9 69 = ar 69 from ((fA_call (fA_rf [4, 82] _) fa_11 (by decide)) 69 rfl)]; exact congrArg (ar 69) (show pp.toInt.toNat = (pp.toInt.toNat) from by omega))).symm, show ar 10 (pp.toInt.toNat) = v_14 from ((show v_14 = ar 10 (pp.toInt.toNat) from by rw [ev_14, show ar_9 10 = ar 10 from ((fA_call (fA_rf [4, 82] _) fa_11 (by decide)) 10 rfl)]; exact congrArg (ar 10) (show pp.toInt.toNat = (pp.toInt.toNat) from by omega))).symm]; rcases p_18 with ⟨w1, w2⟩ | ⟨w1, w2⟩; (exfalso; omega); exact Or.inr ⟨w1, by decide⟩) hP hS (lv_sub hl [2, 3, 4, 1, 0] rfl)
    · skip
      have i_27 : 0 ≤ r_16.toInt ∧ r_16.toInt ≤ 99999 := iv_lt1 p_17 (⟨by decide, by decide⟩ : (100000 : Int) ≤ (100000 : Int32).toInt ∧ (100000 : Int32).toInt ≤ 100000) (Int32.not_le.mp c_25)
      refine lv_aload_n hx hb dX12_choose_32 rfl (lv_at hl 2 rfl) ?_
      refine gM_85 hx hb htg hown hK hP dX12_choose_33 ?_
      refine my_ti (y := fv 85) ((fr_23 85 rfl).trans ((fr_10 85 rfl))) ?_
      have i_28 : 0 ≤ (fv 85).toInt ∧ (fv 85).toInt ≤ 840 := hF_fv 85
      refine lv_aload_n hx hb dX12_choose_36 rfl (lv_at hl 2 rfl) ?_
      refine lv_iload_n hx hb dX12_choose_37 rfl (lv_at hl 3 rfl) ?_
      refine lv_aload_n hx hb dX12_choose_38 rfl (lv_at hl 2 rfl) ?_
      refine gM_69 hx hb htg hown hK hP dX12_choose_39 ?_
      refine lv_iload_n hx hb dX12_choose_42 rfl (lv_at hl 3 rfl) ?_
      refine lM_69 hx hb hK hP (iv_in h_pp (by decide) (by decide)) dX12_choose_43 (fun v_29 ev_29 => ?_)
      obtain rfl : v_12 = v_29 := ev_12.trans ((congrFun ((fA_call (fA_rf [4] _) fa_24 (by decide)) 69 rfl) _).symm.trans ev_29.symm)
      refine lv_aload_n hx hb dX12_choose_44 rfl (lv_at hl 2 rfl) ?_
      refine gM_10 hx hb htg hown hK hP dX12_choose_45 ?_
      refine lv_iload_n hx hb dX12_choose_48 rfl (lv_at hl 3 rfl) ?_
      refine lM_10 hx hb hK hP (iv_in h_pp (by decide) (by decide)) dX12_choose_49 (fun v_30 ev_30 => ?_)
      obtain rfl : v_14 = v_30 := ev_14.trans ((congrFun ((fA_call (fA_rf [4] _) fa_24 (by decide)) 10 rfl) _).symm.trans ev_30.symm)
      refine va_calli (va_runV (As := [.int pp, .int v_12, .int v_14]) (rest := [.int (fv 85)]) ⟨hx, hb, hml, hown, hts⟩ (m_walkE l dC dI H.size h ad cA hd fv_20 wd_21 ar_22 hF_fv_20 hA_ar_22 G9 w9 pp v_12 v_14 h_pp i_13 i_15 (mm_R_fr hp_nR (fM_call (fM_call (fM_rf [8] _) fr_10 (by decide)) fr_23 (by decide)) (fA_call (fA_call (fA_rf [4, 82] _) fa_11 (by decide)) fa_24 (by decide)) rfl rfl rfl rfl rfl rfl rfl rfl rfl rfl rfl) p_19) (cwV 3 hts (gV kw_8_208 kw_8_210 kw_p_92 kw_1_15 kw_8_211) rfl rfl rfl (by decide +kernel) ⟨Nat.le_of_ble_eq_true rfl, Nat.le_of_ble_eq_true rfl⟩) ⟨fun a U g mk q => ⟨q.1, q.2.1, q.2.2.1, va_K.moved (u := U) (U := U.calling g mk a) (Vm.Alike.refl U.vm) q.2.2.2⟩, va_recv hK hP (ci := 12) (q0 := 0) rfl rfl, fun U hU hW => ⟨rfl, by rw [hU], by rw [hU]; exact hP, va_K.moved hW.alike hK⟩⟩ rfl rfl hl.1 rfl (lv_room (Nat.le_of_ble_eq_true rfl)) dX12_choose_50 ⟨Nat.le_of_ble_eq_true rfl, Nat.le_of_ble_eq_true rfl⟩) hS (fun q _ h9 => aM_up hS q h9) (aM_up hS) (fun r_31 u t H1 locs ht _ hw hB _ hk1 hS => ?_)
      obtain ⟨fv_35, wd_36, ar_37⟩ := u
      obtain ⟨hF_fv_35, hA_ar_37, fr_38, fa_39, p_32, p_33, p_34, -⟩ := hw
      have hP : va_P (dC, dI) vwCl (wsM h ad cA fv_35 wd_36 ar_37) H1 := by have h9 := hB.1; rw [ht] at h9; exact h9
      have fr_38 : fM [8] fv_20 fv_35 := fr_38
      have fa_39 : fA [4] ar_22 ar_37 := fa_39
      have p_34 : wt_fm G9 (fv_35 8) (ar_37 4) := p_34
      have p_33 : mm_w G9 (mo_pc (mm_D w9 fv_20 ar_22) (ar_22 15 (pp.toInt.toNat)) (pp.toInt.toNat)) v_12.toInt.toNat v_14.toInt.toNat r_31.toInt := p_33
      generalize H1 = H at hP hS ⊢
      have wk_40 : mm_w G9 (mo_pc (mm_D w9 fv ar) (ar 15 (pp.toInt.toNat)) (pp.toInt.toNat)) (v_12.toInt.toNat) (v_14.toInt.toNat) r_31.toInt := (by have h9 := p_33; rw [show mm_D w9 fv_20 ar_22 = mm_D w9 fv ar from (mm_D_fr (fM_call (fM_call (fM_rf [8] _) fr_10 (by decide)) fr_23 (by decide)) (fA_call (fA_call (fA_rf [4, 82] _) fa_11 (by decide)) fa_24 (by decide)) rfl rfl), show ar_22 15 = ar 15 from ((fA_call (fA_call (fA_rf [4, 82] _) fa_11 (by decide)) fa_24 (by decide)) 15 rfl)] at h9; exact h9)
      refine lv_iadd hx hb dX12_choose_53 ?_
      refine lv_topi (fun v_41 ev_41 => ?_)
      have t_42 : v_41.toInt = (fv 85).toInt + r_31.toInt ∧ 0 ≤ v_41.toInt ∧ v_41.toInt ≤ 600840 := iv_add ev_41 i_28 p_32 (by decide) (by decide)
      refine lv_istore_n (lv' := [(3, .int v_41), (4, .int (-1)), (0, .ref h), (1, .int pp), (2, .int a)]) hx hb dX12_choose_54 rfl hl (by decide) rfl (fun ls hl => ?_)
      exact hj_55 v_41 fv_35 ar_37 wd_36 _ _ ls t_42.2 hF_fv_35 (fM_call (fM_rf [8] _) fr_38 (by decide)) hA_ar_37 (fA_call (fA_rf [4] _) fa_39 (by decide)) p_34 (mm_c_fr hp_nC (fM_call (fM_call (fM_call (fM_rf [8] _) fr_10 (by decide)) fr_23 (by decide)) fr_38 (by decide)) (fA_call (fA_call (fA_call (fA_rf [4, 82] _) fa_11 (by decide)) fa_24 (by decide)) fa_39 (by decide)) rfl rfl) (mm_R_fr hp_nR (fM_call (fM_call (fM_call (fM_rf [8] _) fr_10 (by decide)) fr_23 (by decide)) fr_38 (by decide)) (fA_call (fA_call (fA_call (fA_rf [4, 82] _) fa_11 (by decide)) fa_24 (by decide)) fa_39 (by decide)) rfl rfl rfl rfl rfl rfl rfl rfl rfl rfl rfl) (sW_fr hp_sW (fA_call (fA_call (fA_call (fA_rf [4, 82] _) fa_11 (by decide)) fa_24 (by decide)) fa_39 (by decide)) rfl rfl) (by rw [show ar 69 (pp.toInt.toNat) = v_12 from ((show v_12 = ar 69 (pp.toInt.toNat) from by rw [ev_12, show ar_9 69 = ar 69 from ((fA_call (fA_rf [4, 82] _) fa_11 (by decide)) 69 rfl)]; exact congrArg (ar 69) (show pp.toInt.toNat = (pp.toInt.toNat) from by omega))).symm, show ar 10 (pp.toInt.toNat) = v_14 from ((show v_14 = ar 10 (pp.toInt.toNat) from by rw [ev_14, show ar_9 10 = ar 10 from ((fA_call (fA_rf [4, 82] _) fa_11 (by decide)) 10 rfl)]; exact congrArg (ar 10) (show pp.toInt.toNat = (pp.toInt.toNat) from by omega))).symm]; rcases wk_40 with ⟨w1, w2⟩ | ⟨w1, w2, w3⟩; exact Or.inl ⟨w1, by rw [← w2]; omega⟩; (exfalso; rcases p_18 with ⟨w4, w5⟩ | ⟨w4, w5⟩ <;> omega)) hP hS (lv_sub hl [2, 3, 4, 0, 1] rfl)

set_option maxHeartbeats 4000000 in
set_option maxRecDepth 100000 in
theorem x_readOneC_10 (l : Launch) (dC : Nat → ClassId) (dI : Nat → Nat → Nat) (sz : Nat) (ob ad : Nat → Nat) (cA : Nat → ClassId) (hd : dX ob ad) (fv : Nat → Int32) (wd : xT) (ar : Nat → Nat → Int32) (hF_fv : rX fv) (hA_ar : rB ar) (tA : Nat → Nat) (hto : tO tA wd.2.1) (T9 : Nat → Nat) (S9 : Nat → Nat) (N9 : Nat → Int) (c9 : Nat) (wi : Int32) (h_wi : 10 ≤ wi.toInt ∧ wi.toInt ≤ 10) (hcx : rd_cx tA T9 S9 N9 c9 wd.2.1 (ar 36) (ar 37)) (htc : (fv 13).toInt = (c9 : Int) + 1) (hpl : (fv 14).toInt ≤ (c9 : Int)) (h300 : c9 ≤ 300) (hT32 : ∀ k, T9 k < 32) (hfin : T9 c9 = 30 ∨ T9 c9 = 31) (hp_eC : eC fv ar) : Met l yX3_readOne (.code yX3_readOne cX3_readOne 5 (some .boolean) :: lw_good) ({ frames := 3, cells := 0, slots := 0, locals := 61 }) (va_Pc [.ref (ob 6), .int wi] (fun U => prX dC dI ob ad cA fv wd ar sz U ∧ tkA ob ad tA sz U)) (va_Qi (fun (r : Int32) (u : xS) => rX u.1 ∧ rB u.2.2 ∧ fM [19, 20] fv u.1 ∧ fA [] ar u.2.2 ∧ u.2.1.2 = wd.2 ∧ (0 ≤ r.toInt ∧ r.toInt ≤ 1) ∧ (∀ r9 : List Bool, r9.length = 10 → rd_x T9 S9 0 ((fv 14).toInt.toNat) ((fv 17).toInt.toNat) r9 r (u.1 19) (u.1 20) (u.1 14) (u.1 17)) ∧ (r = 1 → u.1 19 = fv 19) ∧ ((u.1 14).toInt ≤ (c9 : Int)) ∧ (r = 1 → (fv 17).toInt + 1 ≤ (u.1 17).toInt) ∧ True) (enX dC dI ob ad cA) (aX ob ad sz)) 0 0 (aX ob ad sz) := by
  refine Met.ofW (cc := cX3_readOne) (maxL := 5) (ret := (some .boolean)) (by decide) rfl ?_
  intro p e s m args below meth c s₁ B hml hv
  obtain ⟨rfl, ⟨hsz, hP, hK⟩, hE⟩ := hv
  have hx := B.exec
  have hb := B.bytes
  have hr := B.returns
  have hts := atoms_spec (ws := (.code yX3_readOne cX3_readOne 5 (some .boolean) :: lw_good)) B.pre
  have htg : ∀ w ∈ lw_good, w.before _ s = true := fun w hw => hts w (List.mem_cons_of_mem _ hw)
  have hown : s.vm.findClass RX3 = some m.cls := findClass_of_methodNamed B.named
  have hlocks := B.notSynchronized
  subst hsz
  have hS : va_S (aX ob ad s.heap.size) s.heap s.heap [] := va_S.rf
  have hl := lv_entry ([.ref (ob 6), .int wi]) (n := 5) (Nat.le_of_ble_eq_true rfl)
  rw [lg_entry_eq]
  generalize (lg_sl ([.ref (ob 6), .int wi]) ++ List.replicate (5 - (lg_sl ([.ref (ob 6), .int wi])).length) Slot.unset).toArray = ls at hl ⊢
  have hl : lv_has ls 5 [(0, .ref (ob 6)), (1, .int wi)] := hl
  have i_1 : 0 ≤ (fv 14).toInt ∧ (fv 14).toInt ≤ 300 := (by have h9 := hF_fv 14; have h8 : 0 ≤ (fv 14).toInt := h9.1; omega)
  refine lv_aload_n hx hb dX3_readOne_0 rfl (lv_at hl 0 rfl) ?_
  have z_2 : 0 ≤ (fv 13).toInt ∧ (fv 13).toInt ≤ 301 := hF_fv 13
  have z_3 : 0 ≤ (fv 14).toInt ∧ (fv 14).toInt ≤ 300 := hF_fv 14
  refine va_callr (va_runV (As := []) (rest := []) ⟨hx, hb, hml, hown, hts⟩ (x_tokenC l dC dI s.heap.size ob ad cA hd fv wd ar hF_fv hA_ar tA hto T9 S9 N9 c9 hcx (by omega) (by omega) h300 hT32 hfin) (cwV 0 hts (gV kw_4_102 kw_4_104 kw_p_4 kw_1_11 kw_4_105) rfl rfl rfl (by decide +kernel) ⟨Nat.le_of_ble_eq_true rfl, Nat.le_of_ble_eq_true rfl⟩) ⟨fun a U g mk q => ⟨q.1, ⟨q.2.1.1, q.2.1.2.1, va_K.moved (u := U) (U := U.calling g mk a) (Vm.Alike.refl U.vm) q.2.1.2.2⟩, tk_mv (U := U.calling g mk a) rfl (Vm.Alike.refl U.vm) q.2.2⟩, va_recv hK hP (ci := 4) (q0 := 6) rfl rfl, fun U hU hW => ⟨rfl, ⟨by rw [hU], by rw [hU]; exact hP, va_K.moved hW.alike hK⟩, tk_pass hE hS hU hW.alike⟩⟩ rfl rfl hl.1 rfl (lv_room (Nat.le_of_ble_eq_true rfl)) dX3_readOne_1 ⟨Nat.le_of_ble_eq_true rfl, Nat.le_of_ble_eq_true rfl⟩) hS (fun q _ h9 => aX_up hS q h9) (aX_up hS) (fun u r_4 t H1 locs ht _ hw hB _ hk1 hS => ?_)
  obtain ⟨fv_5, wd_6, ar_7⟩ := u
  obtain ⟨hF_fv_5, hA_ar_7, fr_8, fa_9, wf_10, -⟩ := hw
  have wf_10 : wd_6.2 = wd.2 := wf_10
  have hP : va_P (dC, dI) vwCl (wsX ob ad cA fv_5 wd_6 ar_7) H1 := by have h9 := hB.1.1; rw [ht] at h9; exact h9
  have fr_8 : fM [] fv fv_5 := fr_8
  have fa_9 : fA [] ar ar_7 := fa_9
  generalize H1 = H at hP hS ⊢
  obtain ⟨j_11, lj_11, rj_11, zj_11⟩ := hB.2
  subst rj_11
  refine lv_astore_n (lv' := [(2, .ref (tA j_11)), (0, .ref (ob 6)), (1, .int wi)]) hx hb dX3_readOne_4 rfl hl (by decide) rfl (fun ls hl => ?_)
  refine lv_aload_n hx hb dX3_readOne_5 rfl (lv_at hl 0 rfl) ?_
  refine va_getE hx hb hE lj_11 hS hown (q := tkrole) (List.mem_cons_self ..) (htg (.fieldLink RX3 162 "WalkingTown$Token" "role" "I") kw_9_66) (fun _ h9 => h9) dX3_readOne_6 ?_
  refine lv_topi (fun v_12 ev_12 => ?_)
  have i_13 : 0 ≤ v_12.toInt ∧ v_12.toInt ≤ 11 := ev_12 ▸ tk_role j_11
  have k_14 := rd_role lj_11 ev_12
  refine lv_iconst (v := 2) hx hb dX3_readOne_9 (by decide) ?_
  refine lv_icmp_eq (tgt := 21) hx hb dX3_readOne_10 (by decide) (fun c_15 => ?_) (fun c_15 => ?_)
  · skip
    have i_16 : 2 ≤ v_12.toInt ∧ v_12.toInt ≤ 2 := iv_eq1 (⟨by decide, by decide⟩ : (2 : Int) ≤ (2 : Int32).toInt ∧ (2 : Int32).toInt ≤ 2) c_15
    refine lv_iconst (v := 1) hx hb dX3_readOne_21 (by decide) ?_
    refine lv_goto (tgt := 26) hx hb dX3_readOne_22 (by decide) ?_
    refine lv_istore_n (lv' := [(3, .int 1), (2, .ref (tA j_11)), (0, .ref (ob 6)), (1, .int wi)]) hx hb dX3_readOne_26 rfl hl (by decide) rfl (fun ls hl => ?_)
    refine lv_iload_n hx hb dX3_readOne_27 rfl (lv_at hl 0 rfl) ?_
    refine lv_if_ne (tgt := 51) hx hb dX3_readOne_28 (by decide) (fun c_18 => ?_) (fun c_18 => ?_)
    · skip
      refine lv_aload_n hx hb dX3_readOne_51 rfl (lv_at hl 2 rfl) ?_
      refine gX_X3_38 hx hb htg hown hK hP dX3_readOne_52 ?_
      refine my_ti (y := fv 17) ((fr_8 17 rfl)) ?_
      have i_19 : 0 ≤ (fv 17).toInt ∧ (fv 17).toInt ≤ 50 := hF_fv 17
      refine lv_bipush (v := 50) hx hb dX3_readOne_55 (by decide) ?_
      refine lv_icmp_ge (tgt := 66) hx hb dX3_readOne_57 (by decide) (fun c_20 => ?_) (fun c_20 => ?_)
      · skip
        have i_21 : 50 ≤ (fv 17).toInt ∧ (fv 17).toInt ≤ 50 := iv_le2 (⟨by decide, by decide⟩ : (50 : Int) ≤ (50 : Int32).toInt ∧ (50 : Int32).toInt ≤ 50) i_19 c_20
        refine lv_aload_n hx hb dX3_readOne_66 rfl (lv_at hl 2 rfl) ?_
        refine lv_iconst (v := 4) hx hb dX3_readOne_67 (by decide) ?_
        have z_22 : (fv_5 14).toInt = (fv 14).toInt := congrArg Int32.toInt ((fr_8 14 rfl))
        have z_23 : 0 ≤ (fv_5 14).toInt ∧ (fv_5 14).toInt ≤ 300 := hF_fv_5 14
        refine va_calli (va_runV (As := [.int 4]) (rest := []) ⟨hx, hb, hml, hown, hts⟩ (x_failC l dC dI H.size ob ad cA hd fv_5 wd_6 ar_7 hF_fv_5 hA_ar_7 4) (cwV 1 hts (gV kw_4_110 kw_4_112 kw_p_6 kw_1_11 kw_4_113) rfl rfl rfl (by decide +kernel) ⟨Nat.le_of_ble_eq_true rfl, Nat.le_of_ble_eq_true rfl⟩) ⟨fun a U g mk q => ⟨q.1, q.2.1, q.2.2.1, va_K.moved (u := U) (U := U.calling g mk a) (Vm.Alike.refl U.vm) q.2.2.2⟩, va_recv hK hP (ci := 4) (q0 := 6) rfl rfl, fun U hU hW => ⟨rfl, by rw [hU], by rw [hU]; exact hP, va_K.moved hW.alike hK⟩⟩ rfl rfl hl.1 rfl (lv_room (Nat.le_of_ble_eq_true rfl)) dX3_readOne_68 ⟨Nat.le_of_ble_eq_true rfl, Nat.le_of_ble_eq_true rfl⟩) hS (fun q _ h9 => aX_up hS q h9) (aX_up hS) (fun r_24 u t H1 locs ht _ hw hB _ hk1 hS => ?_)
        obtain ⟨fv_29, wd_30, ar_31⟩ := u
        obtain ⟨hF_fv_29, hA_ar_31, fr_32, fa_33, wf_34, p_25, p_26, p_27, p_28, -⟩ := hw
        have wf_34 : wd_30.2 = wd_6.2 := wf_34
        have hP : va_P (dC, dI) vwCl (wsX ob ad cA fv_29 wd_30 ar_31) H1 := by have h9 := hB.1; rw [ht] at h9; exact h9
        have fr_32 : fM [19, 20] fv_5 fv_29 := fr_32
        have fa_33 : fA [] ar_7 ar_31 := fa_33
        have p_27 : fv_29 19 = (4 : Int32) := p_27
        have p_28 : fv_29 20 = ar_7 36 ((fv_5 14).toInt.toNat) := p_28
        generalize H1 = H at hP hS ⊢
        rcases p_26 with ⟨rfl, p_26⟩
        · skip
          have z_35 : (0 : Int32).toInt = 0 := by decide
          exact W.zret (v := 0) hx hb hr (by decide) (fun t ht hW => ⟨⟨0, (fv_29, wd_30, ar_31), rfl, ⟨hF_fv_29, hA_ar_31, (fM_call (fM_call (fM_rf [19, 20] _) fr_8 (by decide)) fr_32 (by decide)), (fA_call (fA_call (fA_rf [] _) fa_9 (by decide)) fa_33 (by decide)), (wf_34.trans wf_10), (iv_w (⟨by decide, by decide⟩ : (0 : Int) ≤ (0 : Int32).toInt ∧ (0 : Int32).toInt ≤ 0) (by decide) (by decide)), (show ∀ r9 : List Bool, r9.length = 10 → rd_x T9 S9 0 ((fv 14).toInt.toNat) ((fv 17).toInt.toNat) r9 (0 : Int32) (fv_29 19) (fv_29 20) (fv_29 14) (fv_29 17) from fun r9 hr => by have : (fv_5 14).toInt = (fv 14).toInt := congrArg Int32.toInt ((fM_call (fM_rf [] _) fr_8 (by decide)) 14 rfl); have : (fv_29 14).toInt = (fv_5 14).toInt := congrArg Int32.toInt ((fM_call (fM_rf [19, 20] _) fr_32 (by decide)) 14 rfl); have : (fv_5 17).toInt = (fv 17).toInt := congrArg Int32.toInt ((fM_call (fM_rf [] _) fr_8 (by decide)) 17 rfl); have : (fv_29 17).toInt = (fv_5 17).toInt := congrArg Int32.toInt ((fM_call (fM_rf [19, 20] _) fr_32 (by decide)) 17 rfl); exact rd_xF (q := (fv_5 14).toInt.toNat) (show (fv_29 19).toInt = ((4 : Nat) : Int) from by rw [show fv_29 19 = fv_29 19 from rfl, p_27]; decide) (by decide) (by rw [rd_m0_many (by omega) (by rw [← zj_11]; omega) (by omega)]; rw [show (fv 14).toInt.toNat = (fv_5 14).toInt.toNat from (by omega)]) (show (fv_29 20).toInt = (S9 ((fv_5 14).toInt.toNat) : Nat) from by rw [show fv_29 20 = fv_29 20 from rfl, p_28, show ar_7 36 = ar 36 from ((fA_call (fA_rf [] _) fa_9 (by decide)) 36 rfl)]; exact (hcx ((fv_5 14).toInt.toNat) (by omega)).2.1)), (show (0 : Int32) = 1 → fv_29 19 = fv 19 from fun w => absurd w (by decide)), (show (fv_29 14).toInt ≤ (c9 : Int) from by have : (fv_5 14).toInt = (fv 14).toInt := congrArg Int32.toInt ((fM_call (fM_rf [] _) fr_8 (by decide)) 14 rfl); have : (fv_29 14).toInt = (fv_5 14).toInt := congrArg Int32.toInt ((fM_call (fM_rf [19, 20] _) fr_32 (by decide)) 14 rfl); omega), (show (0 : Int32) = 1 → (fv 17).toInt + 1 ≤ (fv_29 17).toInt from fun w => absurd w (by decide)), trivial⟩, ⟨by rw [ht]; exact hP, va_K.moved hW.alike hK⟩⟩, hS.F ht⟩) hS.2.2 dX3_readOne_71
      · skip
        have i_36 : 0 ≤ (fv 17).toInt ∧ (fv 17).toInt ≤ 49 := iv_lt1 i_19 (⟨by decide, by decide⟩ : (50 : Int) ≤ (50 : Int32).toInt ∧ (50 : Int32).toInt ≤ 50) (Int32.not_le.mp c_20)
        refine lv_iload_n hx hb dX3_readOne_60 rfl (lv_at hl 3 rfl) ?_
        refine lv_bipush (v := 10) hx hb dX3_readOne_61 (by decide) ?_
        refine lv_icmp_lt (tgt := 72) hx hb dX3_readOne_63 (by decide) (fun c_37 => ?_) (fun c_37 => ?_)
        · skip
          exact absurd True.intro (by have h7 := h_wi; have h8 := (⟨by decide, by decide⟩ : (10 : Int) ≤ (10 : Int32).toInt ∧ (10 : Int32).toInt ≤ 10); have h9 := Int32.lt_iff_toInt_lt.mp c_37; exfalso; omega)
        · skip
          refine lv_aload_n hx hb dX3_readOne_66 rfl (lv_at hl 2 rfl) ?_
          refine lv_iconst (v := 4) hx hb dX3_readOne_67 (by decide) ?_
          have z_38 : (fv_5 14).toInt = (fv 14).toInt := congrArg Int32.toInt ((fr_8 14 rfl))
          have z_39 : 0 ≤ (fv_5 14).toInt ∧ (fv_5 14).toInt ≤ 300 := hF_fv_5 14
          refine va_calli (va_runV (As := [.int 4]) (rest := []) ⟨hx, hb, hml, hown, hts⟩ (x_failC l dC dI H.size ob ad cA hd fv_5 wd_6 ar_7 hF_fv_5 hA_ar_7 4) (cwV 1 hts (gV kw_4_110 kw_4_112 kw_p_6 kw_1_11 kw_4_113) rfl rfl rfl (by decide +kernel) ⟨Nat.le_of_ble_eq_true rfl, Nat.le_of_ble_eq_true rfl⟩) ⟨fun a U g mk q => ⟨q.1, q.2.1, q.2.2.1, va_K.moved (u := U) (U := U.calling g mk a) (Vm.Alike.refl U.vm) q.2.2.2⟩, va_recv hK hP (ci := 4) (q0 := 6) rfl rfl, fun U hU hW => ⟨rfl, by rw [hU], by rw [hU]; exact hP, va_K.moved hW.alike hK⟩⟩ rfl rfl hl.1 rfl (lv_room (Nat.le_of_ble_eq_true rfl)) dX3_readOne_68 ⟨Nat.le_of_ble_eq_true rfl, Nat.le_of_ble_eq_true rfl⟩) hS (fun q _ h9 => aX_up hS q h9) (aX_up hS) (fun r_40 u t H1 locs ht _ hw hB _ hk1 hS => ?_)
          obtain ⟨fv_45, wd_46, ar_47⟩ := u
          obtain ⟨hF_fv_45, hA_ar_47, fr_48, fa_49, wf_50, p_41, p_42, p_43, p_44, -⟩ := hw
          have wf_50 : wd_46.2 = wd_6.2 := wf_50
          have hP : va_P (dC, dI) vwCl (wsX ob ad cA fv_45 wd_46 ar_47) H1 := by have h9 := hB.1; rw [ht] at h9; exact h9
          have fr_48 : fM [19, 20] fv_5 fv_45 := fr_48
          have fa_49 : fA [] ar_7 ar_47 := fa_49
          have p_43 : fv_45 19 = (4 : Int32) := p_43
          have p_44 : fv_45 20 = ar_7 36 ((fv_5 14).toInt.toNat) := p_44
          generalize H1 = H at hP hS ⊢
          rcases p_42 with ⟨rfl, p_42⟩
          · skip
            have z_51 : (0 : Int32).toInt = 0 := by decide
            exact W.zret (v := 0) hx hb hr (by decide) (fun t ht hW => ⟨⟨0, (fv_45, wd_46, ar_47), rfl, ⟨hF_fv_45, hA_ar_47, (fM_call (fM_call (fM_rf [19, 20] _) fr_8 (by decide)) fr_48 (by decide)), (fA_call (fA_call (fA_rf [] _) fa_9 (by decide)) fa_49 (by decide)), (wf_50.trans wf_10), (iv_w (⟨by decide, by decide⟩ : (0 : Int) ≤ (0 : Int32).toInt ∧ (0 : Int32).toInt ≤ 0) (by decide) (by decide)), (show ∀ r9 : List Bool, r9.length = 10 → rd_x T9 S9 0 ((fv 14).toInt.toNat) ((fv 17).toInt.toNat) r9 (0 : Int32) (fv_45 19) (fv_45 20) (fv_45 14) (fv_45 17) from fun r9 hr => by have : (fv_5 14).toInt = (fv 14).toInt := congrArg Int32.toInt ((fM_call (fM_rf [] _) fr_8 (by decide)) 14 rfl); have : (fv_45 14).toInt = (fv_5 14).toInt := congrArg Int32.toInt ((fM_call (fM_rf [19, 20] _) fr_48 (by decide)) 14 rfl); have : (fv_5 17).toInt = (fv 17).toInt := congrArg Int32.toInt ((fM_call (fM_rf [] _) fr_8 (by decide)) 17 rfl); have : (fv_45 17).toInt = (fv_5 17).toInt := congrArg Int32.toInt ((fM_call (fM_rf [19, 20] _) fr_48 (by decide)) 17 rfl); exact rd_xF (q := (fv_5 14).toInt.toNat) (show (fv_45 19).toInt = ((4 : Nat) : Int) from by rw [show fv_45 19 = fv_45 19 from rfl, p_43]; decide) (by decide) (by rw [rd_m0_many (by omega) (by rw [← zj_11]; omega) (by omega)]; rw [show (fv 14).toInt.toNat = (fv_5 14).toInt.toNat from (by omega)]) (show (fv_45 20).toInt = (S9 ((fv_5 14).toInt.toNat) : Nat) from by rw [show fv_45 20 = fv_45 20 from rfl, p_44, show ar_7 36 = ar 36 from ((fA_call (fA_rf [] _) fa_9 (by decide)) 36 rfl)]; exact (hcx ((fv_5 14).toInt.toNat) (by omega)).2.1)), (show (0 : Int32) = 1 → fv_45 19 = fv 19 from fun w => absurd w (by decide)), (show (fv_45 14).toInt ≤ (c9 : Int) from by have : (fv_5 14).toInt = (fv 14).toInt := congrArg Int32.toInt ((fM_call (fM_rf [] _) fr_8 (by decide)) 14 rfl); have : (fv_45 14).toInt = (fv_5 14).toInt := congrArg Int32.toInt ((fM_call (fM_rf [19, 20] _) fr_48 (by decide)) 14 rfl); omega), (show (0 : Int32) = 1 → (fv 17).toInt + 1 ≤ (fv_45 17).toInt from fun w => absurd w (by decide)), trivial⟩, ⟨by rw [ht]; exact hP, va_K.moved hW.alike hK⟩⟩, hS.F ht⟩) hS.2.2 dX3_readOne_71
    · skip
      exact absurd c_18 (by decide)
  · skip
    have k_52 : ¬ v_12.toInt = 2 := fun q => c_15 (Int32.toInt_inj.mp q)
    refine lv_aload_n hx hb dX3_readOne_13 rfl (lv_at hl 0 rfl) ?_
    refine va_getE hx hb hE lj_11 hS hown (q := tkrole) (List.mem_cons_self ..) (htg (.fieldLink RX3 162 "WalkingTown$Token" "role" "I") kw_9_66) (fun _ h9 => h9) dX3_readOne_14 ?_
    refine lv_topi (fun v_53 ev_53 => ?_)
    have i_54 : 0 ≤ v_53.toInt ∧ v_53.toInt ≤ 11 := ev_53 ▸ tk_role j_11
    have k_55 := rd_role lj_11 ev_53
    refine lv_iconst (v := 3) hx hb dX3_readOne_17 (by decide) ?_
    refine lv_icmp_ne (tgt := 25) hx hb dX3_readOne_18 (by decide) (fun c_56 => ?_) (fun c_56 => ?_)
    · skip
      have k_57 : ¬ v_53.toInt = 3 := fun q => c_56 (Int32.toInt_inj.mp q)
      refine lv_iconst (v := 0) hx hb dX3_readOne_25 (by decide) ?_
      refine lv_istore_n (lv' := [(3, .int 0), (2, .ref (tA j_11)), (0, .ref (ob 6)), (1, .int wi)]) hx hb dX3_readOne_26 rfl hl (by decide) rfl (fun ls hl => ?_)
      refine lv_iload_n hx hb dX3_readOne_27 rfl (lv_at hl 0 rfl) ?_
      refine lv_if_ne (tgt := 51) hx hb dX3_readOne_28 (by decide) (fun c_58 => ?_) (fun c_58 => ?_)
      · skip
        exact absurd c_58 (by decide)
      · skip
        refine lv_aload_n hx hb dX3_readOne_31 rfl (lv_at hl 1 rfl) ?_
        refine va_gets hx hb (hE.1 22 (by decide)).1 hS hown (htg (.fieldLink RX3 190 "WalkingTown$Token" "NOT" "LWalkingTown$Token;") kw_4_124) (fun _ h9 => h9) dX3_readOne_32 ?_
        refine lv_acmp_eq (rx := some (tA j_11)) (ry := some (tA 22)) (tgt := 51) hx hb dX3_readOne_35 (by decide) (fun c_59 => ?_) (fun c_59 => ?_)
        · skip
          have k_60 : j_11 = 22 := hE.2 j_11 22 lj_11 (by decide) (Option.some.inj c_59)
          refine lv_aload_n hx hb dX3_readOne_51 rfl (lv_at hl 2 rfl) ?_
          refine gX_X3_38 hx hb htg hown hK hP dX3_readOne_52 ?_
          refine my_ti (y := fv 17) ((fr_8 17 rfl)) ?_
          have i_61 : 0 ≤ (fv 17).toInt ∧ (fv 17).toInt ≤ 50 := hF_fv 17
          refine lv_bipush (v := 50) hx hb dX3_readOne_55 (by decide) ?_
          refine lv_icmp_ge (tgt := 66) hx hb dX3_readOne_57 (by decide) (fun c_62 => ?_) (fun c_62 => ?_)
          · skip
            have i_63 : 50 ≤ (fv 17).toInt ∧ (fv 17).toInt ≤ 50 := iv_le2 (⟨by decide, by decide⟩ : (50 : Int) ≤ (50 : Int32).toInt ∧ (50 : Int32).toInt ≤ 50) i_61 c_62
            refine lv_aload_n hx hb dX3_readOne_66 rfl (lv_at hl 2 rfl) ?_
            refine lv_iconst (v := 4) hx hb dX3_readOne_67 (by decide) ?_
            have z_64 : (fv_5 14).toInt = (fv 14).toInt := congrArg Int32.toInt ((fr_8 14 rfl))
            have z_65 : 0 ≤ (fv_5 14).toInt ∧ (fv_5 14).toInt ≤ 300 := hF_fv_5 14
            refine va_calli (va_runV (As := [.int 4]) (rest := []) ⟨hx, hb, hml, hown, hts⟩ (x_failC l dC dI H.size ob ad cA hd fv_5 wd_6 ar_7 hF_fv_5 hA_ar_7 4) (cwV 1 hts (gV kw_4_110 kw_4_112 kw_p_6 kw_1_11 kw_4_113) rfl rfl rfl (by decide +kernel) ⟨Nat.le_of_ble_eq_true rfl, Nat.le_of_ble_eq_true rfl⟩) ⟨fun a U g mk q => ⟨q.1, q.2.1, q.2.2.1, va_K.moved (u := U) (U := U.calling g mk a) (Vm.Alike.refl U.vm) q.2.2.2⟩, va_recv hK hP (ci := 4) (q0 := 6) rfl rfl, fun U hU hW => ⟨rfl, by rw [hU], by rw [hU]; exact hP, va_K.moved hW.alike hK⟩⟩ rfl rfl hl.1 rfl (lv_room (Nat.le_of_ble_eq_true rfl)) dX3_readOne_68 ⟨Nat.le_of_ble_eq_true rfl, Nat.le_of_ble_eq_true rfl⟩) hS (fun q _ h9 => aX_up hS q h9) (aX_up hS) (fun r_66 u t H1 locs ht _ hw hB _ hk1 hS => ?_)
            obtain ⟨fv_71, wd_72, ar_73⟩ := u
            obtain ⟨hF_fv_71, hA_ar_73, fr_74, fa_75, wf_76, p_67, p_68, p_69, p_70, -⟩ := hw
            have wf_76 : wd_72.2 = wd_6.2 := wf_76
            have hP : va_P (dC, dI) vwCl (wsX ob ad cA fv_71 wd_72 ar_73) H1 := by have h9 := hB.1; rw [ht] at h9; exact h9
            have fr_74 : fM [19, 20] fv_5 fv_71 := fr_74
            have fa_75 : fA [] ar_7 ar_73 := fa_75
            have p_69 : fv_71 19 = (4 : Int32) := p_69
            have p_70 : fv_71 20 = ar_7 36 ((fv_5 14).toInt.toNat) := p_70
            generalize H1 = H at hP hS ⊢
            rcases p_68 with ⟨rfl, p_68⟩
            · skip
              have z_77 : (0 : Int32).toInt = 0 := by decide
              exact W.zret (v := 0) hx hb hr (by decide) (fun t ht hW => ⟨⟨0, (fv_71, wd_72, ar_73), rfl, ⟨hF_fv_71, hA_ar_73, (fM_call (fM_call (fM_rf [19, 20] _) fr_8 (by decide)) fr_74 (by decide)), (fA_call (fA_call (fA_rf [] _) fa_9 (by decide)) fa_75 (by decide)), (wf_76.trans wf_10), (iv_w (⟨by decide, by decide⟩ : (0 : Int) ≤ (0 : Int32).toInt ∧ (0 : Int32).toInt ≤ 0) (by decide) (by decide)), (show ∀ r9 : List Bool, r9.length = 10 → rd_x T9 S9 0 ((fv 14).toInt.toNat) ((fv 17).toInt.toNat) r9 (0 : Int32) (fv_71 19) (fv_71 20) (fv_71 14) (fv_71 17) from fun r9 hr => by have : (fv_5 14).toInt = (fv 14).toInt := congrArg Int32.toInt ((fM_call (fM_rf [] _) fr_8 (by decide)) 14 rfl); have : (fv_71 14).toInt = (fv_5 14).toInt := congrArg Int32.toInt ((fM_call (fM_rf [19, 20] _) fr_74 (by decide)) 14 rfl); have : (fv_5 17).toInt = (fv 17).toInt := congrArg Int32.toInt ((fM_call (fM_rf [] _) fr_8 (by decide)) 17 rfl); have : (fv_71 17).toInt = (fv_5 17).toInt := congrArg Int32.toInt ((fM_call (fM_rf [19, 20] _) fr_74 (by decide)) 17 rfl); exact rd_xF (q := (fv_5 14).toInt.toNat) (show (fv_71 19).toInt = ((4 : Nat) : Int) from by rw [show fv_71 19 = fv_71 19 from rfl, p_69]; decide) (by decide) (by rw [rd_m0_many (by omega) (by rw [← zj_11]; omega) (by omega)]; rw [show (fv 14).toInt.toNat = (fv_5 14).toInt.toNat from (by omega)]) (show (fv_71 20).toInt = (S9 ((fv_5 14).toInt.toNat) : Nat) from by rw [show fv_71 20 = fv_71 20 from rfl, p_70, show ar_7 36 = ar 36 from ((fA_call (fA_rf [] _) fa_9 (by decide)) 36 rfl)]; exact (hcx ((fv_5 14).toInt.toNat) (by omega)).2.1)), (show (0 : Int32) = 1 → fv_71 19 = fv 19 from fun w => absurd w (by decide)), (show (fv_71 14).toInt ≤ (c9 : Int) from by have : (fv_5 14).toInt = (fv 14).toInt := congrArg Int32.toInt ((fM_call (fM_rf [] _) fr_8 (by decide)) 14 rfl); have : (fv_71 14).toInt = (fv_5 14).toInt := congrArg Int32.toInt ((fM_call (fM_rf [19, 20] _) fr_74 (by decide)) 14 rfl); omega), (show (0 : Int32) = 1 → (fv 17).toInt + 1 ≤ (fv_71 17).toInt from fun w => absurd w (by decide)), trivial⟩, ⟨by rw [ht]; exact hP, va_K.moved hW.alike hK⟩⟩, hS.F ht⟩) hS.2.2 dX3_readOne_71
          · skip
            have i_78 : 0 ≤ (fv 17).toInt ∧ (fv 17).toInt ≤ 49 := iv_lt1 i_61 (⟨by decide, by decide⟩ : (50 : Int) ≤ (50 : Int32).toInt ∧ (50 : Int32).toInt ≤ 50) (Int32.not_le.mp c_62)
            refine lv_iload_n hx hb dX3_readOne_60 rfl (lv_at hl 3 rfl) ?_
            refine lv_bipush (v := 10) hx hb dX3_readOne_61 (by decide) ?_
            refine lv_icmp_lt (tgt := 72) hx hb dX3_readOne_63 (by decide) (fun c_79 => ?_) (fun c_79 => ?_)
            · skip
              exact absurd True.intro (by have h7 := h_wi; have h8 := (⟨by decide, by decide⟩ : (10 : Int) ≤ (10 : Int32).toInt ∧ (10 : Int32).toInt ≤ 10); have h9 := Int32.lt_iff_toInt_lt.mp c_79; exfalso; omega)
            · skip
              refine lv_aload_n hx hb dX3_readOne_66 rfl (lv_at hl 2 rfl) ?_
              refine lv_iconst (v := 4) hx hb dX3_readOne_67 (by decide) ?_
              have z_80 : (fv_5 14).toInt = (fv 14).toInt := congrArg Int32.toInt ((fr_8 14 rfl))
              have z_81 : 0 ≤ (fv_5 14).toInt ∧ (fv_5 14).toInt ≤ 300 := hF_fv_5 14
              refine va_calli (va_runV (As := [.int 4]) (rest := []) ⟨hx, hb, hml, hown, hts⟩ (x_failC l dC dI H.size ob ad cA hd fv_5 wd_6 ar_7 hF_fv_5 hA_ar_7 4) (cwV 1 hts (gV kw_4_110 kw_4_112 kw_p_6 kw_1_11 kw_4_113) rfl rfl rfl (by decide +kernel) ⟨Nat.le_of_ble_eq_true rfl, Nat.le_of_ble_eq_true rfl⟩) ⟨fun a U g mk q => ⟨q.1, q.2.1, q.2.2.1, va_K.moved (u := U) (U := U.calling g mk a) (Vm.Alike.refl U.vm) q.2.2.2⟩, va_recv hK hP (ci := 4) (q0 := 6) rfl rfl, fun U hU hW => ⟨rfl, by rw [hU], by rw [hU]; exact hP, va_K.moved hW.alike hK⟩⟩ rfl rfl hl.1 rfl (lv_room (Nat.le_of_ble_eq_true rfl)) dX3_readOne_68 ⟨Nat.le_of_ble_eq_true rfl, Nat.le_of_ble_eq_true rfl⟩) hS (fun q _ h9 => aX_up hS q h9) (aX_up hS) (fun r_82 u t H1 locs ht _ hw hB _ hk1 hS => ?_)
              obtain ⟨fv_87, wd_88, ar_89⟩ := u
              obtain ⟨hF_fv_87, hA_ar_89, fr_90, fa_91, wf_92, p_83, p_84, p_85, p_86, -⟩ := hw
              have wf_92 : wd_88.2 = wd_6.2 := wf_92
              have hP : va_P (dC, dI) vwCl (wsX ob ad cA fv_87 wd_88 ar_89) H1 := by have h9 := hB.1; rw [ht] at h9; exact h9
              have fr_90 : fM [19, 20] fv_5 fv_87 := fr_90
              have fa_91 : fA [] ar_7 ar_89 := fa_91
              have p_85 : fv_87 19 = (4 : Int32) := p_85
              have p_86 : fv_87 20 = ar_7 36 ((fv_5 14).toInt.toNat) := p_86
              generalize H1 = H at hP hS ⊢
              rcases p_84 with ⟨rfl, p_84⟩
              · skip
                have z_93 : (0 : Int32).toInt = 0 := by decide
                exact W.zret (v := 0) hx hb hr (by decide) (fun t ht hW => ⟨⟨0, (fv_87, wd_88, ar_89), rfl, ⟨hF_fv_87, hA_ar_89, (fM_call (fM_call (fM_rf [19, 20] _) fr_8 (by decide)) fr_90 (by decide)), (fA_call (fA_call (fA_rf [] _) fa_9 (by decide)) fa_91 (by decide)), (wf_92.trans wf_10), (iv_w (⟨by decide, by decide⟩ : (0 : Int) ≤ (0 : Int32).toInt ∧ (0 : Int32).toInt ≤ 0) (by decide) (by decide)), (show ∀ r9 : List Bool, r9.length = 10 → rd_x T9 S9 0 ((fv 14).toInt.toNat) ((fv 17).toInt.toNat) r9 (0 : Int32) (fv_87 19) (fv_87 20) (fv_87 14) (fv_87 17) from fun r9 hr => by have : (fv_5 14).toInt = (fv 14).toInt := congrArg Int32.toInt ((fM_call (fM_rf [] _) fr_8 (by decide)) 14 rfl); have : (fv_87 14).toInt = (fv_5 14).toInt := congrArg Int32.toInt ((fM_call (fM_rf [19, 20] _) fr_90 (by decide)) 14 rfl); have : (fv_5 17).toInt = (fv 17).toInt := congrArg Int32.toInt ((fM_call (fM_rf [] _) fr_8 (by decide)) 17 rfl); have : (fv_87 17).toInt = (fv_5 17).toInt := congrArg Int32.toInt ((fM_call (fM_rf [19, 20] _) fr_90 (by decide)) 17 rfl); exact rd_xF (q := (fv_5 14).toInt.toNat) (show (fv_87 19).toInt = ((4 : Nat) : Int) from by rw [show fv_87 19 = fv_87 19 from rfl, p_85]; decide) (by decide) (by rw [rd_m0_many (by omega) (by rw [← zj_11]; omega) (by omega)]; rw [show (fv 14).toInt.toNat = (fv_5 14).toInt.toNat from (by omega)]) (show (fv_87 20).toInt = (S9 ((fv_5 14).toInt.toNat) : Nat) from by rw [show fv_87 20 = fv_87 20 from rfl, p_86, show ar_7 36 = ar 36 from ((fA_call (fA_rf [] _) fa_9 (by decide)) 36 rfl)]; exact (hcx ((fv_5 14).toInt.toNat) (by omega)).2.1)), (show (0 : Int32) = 1 → fv_87 19 = fv 19 from fun w => absurd w (by decide)), (show (fv_87 14).toInt ≤ (c9 : Int) from by have : (fv_5 14).toInt = (fv 14).toInt := congrArg Int32.toInt ((fM_call (fM_rf [] _) fr_8 (by decide)) 14 rfl); have : (fv_87 14).toInt = (fv_5 14).toInt := congrArg Int32.toInt ((fM_call (fM_rf [19, 20] _) fr_90 (by decide)) 14 rfl); omega), (show (0 : Int32) = 1 → (fv 17).toInt + 1 ≤ (fv_87 17).toInt from fun w => absurd w (by decide)), trivial⟩, ⟨by rw [ht]; exact hP, va_K.moved hW.alike hK⟩⟩, hS.F ht⟩) hS.2.2 dX3_readOne_71
        · skip
          have k_94 : ¬ j_11 = 22 := fun w => c_59 (by rw [w])
          refine lv_aload_n hx hb dX3_readOne_38 rfl (lv_at hl 1 rfl) ?_
          refine va_gets hx hb (hE.1 27 (by decide)).1 hS hown (htg (.fieldLink RX3 209 "WalkingTown$Token" "OPEN" "LWalkingTown$Token;") kw_4_148) (fun _ h9 => h9) dX3_readOne_39 ?_
          refine lv_acmp_eq (rx := some (tA j_11)) (ry := some (tA 27)) (tgt := 51) hx hb dX3_readOne_42 (by decide) (fun c_95 => ?_) (fun c_95 => ?_)
          · skip
            have k_96 : j_11 = 27 := hE.2 j_11 27 lj_11 (by decide) (Option.some.inj c_95)
            refine lv_aload_n hx hb dX3_readOne_51 rfl (lv_at hl 2 rfl) ?_
            refine gX_X3_38 hx hb htg hown hK hP dX3_readOne_52 ?_
            refine my_ti (y := fv 17) ((fr_8 17 rfl)) ?_
            have i_97 : 0 ≤ (fv 17).toInt ∧ (fv 17).toInt ≤ 50 := hF_fv 17
            refine lv_bipush (v := 50) hx hb dX3_readOne_55 (by decide) ?_
            refine lv_icmp_ge (tgt := 66) hx hb dX3_readOne_57 (by decide) (fun c_98 => ?_) (fun c_98 => ?_)
            · skip
              have i_99 : 50 ≤ (fv 17).toInt ∧ (fv 17).toInt ≤ 50 := iv_le2 (⟨by decide, by decide⟩ : (50 : Int) ≤ (50 : Int32).toInt ∧ (50 : Int32).toInt ≤ 50) i_97 c_98
              refine lv_aload_n hx hb dX3_readOne_66 rfl (lv_at hl 2 rfl) ?_
              refine lv_iconst (v := 4) hx hb dX3_readOne_67 (by decide) ?_
              have z_100 : (fv_5 14).toInt = (fv 14).toInt := congrArg Int32.toInt ((fr_8 14 rfl))
              have z_101 : 0 ≤ (fv_5 14).toInt ∧ (fv_5 14).toInt ≤ 300 := hF_fv_5 14
              refine va_calli (va_runV (As := [.int 4]) (rest := []) ⟨hx, hb, hml, hown, hts⟩ (x_failC l dC dI H.size ob ad cA hd fv_5 wd_6 ar_7 hF_fv_5 hA_ar_7 4) (cwV 1 hts (gV kw_4_110 kw_4_112 kw_p_6 kw_1_11 kw_4_113) rfl rfl rfl (by decide +kernel) ⟨Nat.le_of_ble_eq_true rfl, Nat.le_of_ble_eq_true rfl⟩) ⟨fun a U g mk q => ⟨q.1, q.2.1, q.2.2.1, va_K.moved (u := U) (U := U.calling g mk a) (Vm.Alike.refl U.vm) q.2.2.2⟩, va_recv hK hP (ci := 4) (q0 := 6) rfl rfl, fun U hU hW => ⟨rfl, by rw [hU], by rw [hU]; exact hP, va_K.moved hW.alike hK⟩⟩ rfl rfl hl.1 rfl (lv_room (Nat.le_of_ble_eq_true rfl)) dX3_readOne_68 ⟨Nat.le_of_ble_eq_true rfl, Nat.le_of_ble_eq_true rfl⟩) hS (fun q _ h9 => aX_up hS q h9) (aX_up hS) (fun r_102 u t H1 locs ht _ hw hB _ hk1 hS => ?_)
              obtain ⟨fv_107, wd_108, ar_109⟩ := u
              obtain ⟨hF_fv_107, hA_ar_109, fr_110, fa_111, wf_112, p_103, p_104, p_105, p_106, -⟩ := hw
              have wf_112 : wd_108.2 = wd_6.2 := wf_112
              have hP : va_P (dC, dI) vwCl (wsX ob ad cA fv_107 wd_108 ar_109) H1 := by have h9 := hB.1; rw [ht] at h9; exact h9
              have fr_110 : fM [19, 20] fv_5 fv_107 := fr_110
              have fa_111 : fA [] ar_7 ar_109 := fa_111
              have p_105 : fv_107 19 = (4 : Int32) := p_105
              have p_106 : fv_107 20 = ar_7 36 ((fv_5 14).toInt.toNat) := p_106
              generalize H1 = H at hP hS ⊢
              rcases p_104 with ⟨rfl, p_104⟩
              · skip
                have z_113 : (0 : Int32).toInt = 0 := by decide
                exact W.zret (v := 0) hx hb hr (by decide) (fun t ht hW => ⟨⟨0, (fv_107, wd_108, ar_109), rfl, ⟨hF_fv_107, hA_ar_109, (fM_call (fM_call (fM_rf [19, 20] _) fr_8 (by decide)) fr_110 (by decide)), (fA_call (fA_call (fA_rf [] _) fa_9 (by decide)) fa_111 (by decide)), (wf_112.trans wf_10), (iv_w (⟨by decide, by decide⟩ : (0 : Int) ≤ (0 : Int32).toInt ∧ (0 : Int32).toInt ≤ 0) (by decide) (by decide)), (show ∀ r9 : List Bool, r9.length = 10 → rd_x T9 S9 0 ((fv 14).toInt.toNat) ((fv 17).toInt.toNat) r9 (0 : Int32) (fv_107 19) (fv_107 20) (fv_107 14) (fv_107 17) from fun r9 hr => by have : (fv_5 14).toInt = (fv 14).toInt := congrArg Int32.toInt ((fM_call (fM_rf [] _) fr_8 (by decide)) 14 rfl); have : (fv_107 14).toInt = (fv_5 14).toInt := congrArg Int32.toInt ((fM_call (fM_rf [19, 20] _) fr_110 (by decide)) 14 rfl); have : (fv_5 17).toInt = (fv 17).toInt := congrArg Int32.toInt ((fM_call (fM_rf [] _) fr_8 (by decide)) 17 rfl); have : (fv_107 17).toInt = (fv_5 17).toInt := congrArg Int32.toInt ((fM_call (fM_rf [19, 20] _) fr_110 (by decide)) 17 rfl); exact rd_xF (q := (fv_5 14).toInt.toNat) (show (fv_107 19).toInt = ((4 : Nat) : Int) from by rw [show fv_107 19 = fv_107 19 from rfl, p_105]; decide) (by decide) (by rw [rd_m0_many (by omega) (by rw [← zj_11]; omega) (by omega)]; rw [show (fv 14).toInt.toNat = (fv_5 14).toInt.toNat from (by omega)]) (show (fv_107 20).toInt = (S9 ((fv_5 14).toInt.toNat) : Nat) from by rw [show fv_107 20 = fv_107 20 from rfl, p_106, show ar_7 36 = ar 36 from ((fA_call (fA_rf [] _) fa_9 (by decide)) 36 rfl)]; exact (hcx ((fv_5 14).toInt.toNat) (by omega)).2.1)), (show (0 : Int32) = 1 → fv_107 19 = fv 19 from fun w => absurd w (by decide)), (show (fv_107 14).toInt ≤ (c9 : Int) from by have : (fv_5 14).toInt = (fv 14).toInt := congrArg Int32.toInt ((fM_call (fM_rf [] _) fr_8 (by decide)) 14 rfl); have : (fv_107 14).toInt = (fv_5 14).toInt := congrArg Int32.toInt ((fM_call (fM_rf [19, 20] _) fr_110 (by decide)) 14 rfl); omega), (show (0 : Int32) = 1 → (fv 17).toInt + 1 ≤ (fv_107 17).toInt from fun w => absurd w (by decide)), trivial⟩, ⟨by rw [ht]; exact hP, va_K.moved hW.alike hK⟩⟩, hS.F ht⟩) hS.2.2 dX3_readOne_71
            · skip
              have i_114 : 0 ≤ (fv 17).toInt ∧ (fv 17).toInt ≤ 49 := iv_lt1 i_97 (⟨by decide, by decide⟩ : (50 : Int) ≤ (50 : Int32).toInt ∧ (50 : Int32).toInt ≤ 50) (Int32.not_le.mp c_98)
              refine lv_iload_n hx hb dX3_readOne_60 rfl (lv_at hl 3 rfl) ?_
              refine lv_bipush (v := 10) hx hb dX3_readOne_61 (by decide) ?_
              refine lv_icmp_lt (tgt := 72) hx hb dX3_readOne_63 (by decide) (fun c_115 => ?_) (fun c_115 => ?_)
              · skip
                exact absurd True.intro (by have h7 := h_wi; have h8 := (⟨by decide, by decide⟩ : (10 : Int) ≤ (10 : Int32).toInt ∧ (10 : Int32).toInt ≤ 10); have h9 := Int32.lt_iff_toInt_lt.mp c_115; exfalso; omega)
              · skip
                refine lv_aload_n hx hb dX3_readOne_66 rfl (lv_at hl 2 rfl) ?_
                refine lv_iconst (v := 4) hx hb dX3_readOne_67 (by decide) ?_
                have z_116 : (fv_5 14).toInt = (fv 14).toInt := congrArg Int32.toInt ((fr_8 14 rfl))
                have z_117 : 0 ≤ (fv_5 14).toInt ∧ (fv_5 14).toInt ≤ 300 := hF_fv_5 14
                refine va_calli (va_runV (As := [.int 4]) (rest := []) ⟨hx, hb, hml, hown, hts⟩ (x_failC l dC dI H.size ob ad cA hd fv_5 wd_6 ar_7 hF_fv_5 hA_ar_7 4) (cwV 1 hts (gV kw_4_110 kw_4_112 kw_p_6 kw_1_11 kw_4_113) rfl rfl rfl (by decide +kernel) ⟨Nat.le_of_ble_eq_true rfl, Nat.le_of_ble_eq_true rfl⟩) ⟨fun a U g mk q => ⟨q.1, q.2.1, q.2.2.1, va_K.moved (u := U) (U := U.calling g mk a) (Vm.Alike.refl U.vm) q.2.2.2⟩, va_recv hK hP (ci := 4) (q0 := 6) rfl rfl, fun U hU hW => ⟨rfl, by rw [hU], by rw [hU]; exact hP, va_K.moved hW.alike hK⟩⟩ rfl rfl hl.1 rfl (lv_room (Nat.le_of_ble_eq_true rfl)) dX3_readOne_68 ⟨Nat.le_of_ble_eq_true rfl, Nat.le_of_ble_eq_true rfl⟩) hS (fun q _ h9 => aX_up hS q h9) (aX_up hS) (fun r_118 u t H1 locs ht _ hw hB _ hk1 hS => ?_)
                obtain ⟨fv_123, wd_124, ar_125⟩ := u
                obtain ⟨hF_fv_123, hA_ar_125, fr_126, fa_127, wf_128, p_119, p_120, p_121, p_122, -⟩ := hw
                have wf_128 : wd_124.2 = wd_6.2 := wf_128
                have hP : va_P (dC, dI) vwCl (wsX ob ad cA fv_123 wd_124 ar_125) H1 := by have h9 := hB.1; rw [ht] at h9; exact h9
                have fr_126 : fM [19, 20] fv_5 fv_123 := fr_126
                have fa_127 : fA [] ar_7 ar_125 := fa_127
                have p_121 : fv_123 19 = (4 : Int32) := p_121
                have p_122 : fv_123 20 = ar_7 36 ((fv_5 14).toInt.toNat) := p_122
                generalize H1 = H at hP hS ⊢
                rcases p_120 with ⟨rfl, p_120⟩
                · skip
                  have z_129 : (0 : Int32).toInt = 0 := by decide
                  exact W.zret (v := 0) hx hb hr (by decide) (fun t ht hW => ⟨⟨0, (fv_123, wd_124, ar_125), rfl, ⟨hF_fv_123, hA_ar_125, (fM_call (fM_call (fM_rf [19, 20] _) fr_8 (by decide)) fr_126 (by decide)), (fA_call (fA_call (fA_rf [] _) fa_9 (by decide)) fa_127 (by decide)), (wf_128.trans wf_10), (iv_w (⟨by decide, by decide⟩ : (0 : Int) ≤ (0 : Int32).toInt ∧ (0 : Int32).toInt ≤ 0) (by decide) (by decide)), (show ∀ r9 : List Bool, r9.length = 10 → rd_x T9 S9 0 ((fv 14).toInt.toNat) ((fv 17).toInt.toNat) r9 (0 : Int32) (fv_123 19) (fv_123 20) (fv_123 14) (fv_123 17) from fun r9 hr => by have : (fv_5 14).toInt = (fv 14).toInt := congrArg Int32.toInt ((fM_call (fM_rf [] _) fr_8 (by decide)) 14 rfl); have : (fv_123 14).toInt = (fv_5 14).toInt := congrArg Int32.toInt ((fM_call (fM_rf [19, 20] _) fr_126 (by decide)) 14 rfl); have : (fv_5 17).toInt = (fv 17).toInt := congrArg Int32.toInt ((fM_call (fM_rf [] _) fr_8 (by decide)) 17 rfl); have : (fv_123 17).toInt = (fv_5 17).toInt := congrArg Int32.toInt ((fM_call (fM_rf [19, 20] _) fr_126 (by decide)) 17 rfl); exact rd_xF (q := (fv_5 14).toInt.toNat) (show (fv_123 19).toInt = ((4 : Nat) : Int) from by rw [show fv_123 19 = fv_123 19 from rfl, p_121]; decide) (by decide) (by rw [rd_m0_many (by omega) (by rw [← zj_11]; omega) (by omega)]; rw [show (fv 14).toInt.toNat = (fv_5 14).toInt.toNat from (by omega)]) (show (fv_123 20).toInt = (S9 ((fv_5 14).toInt.toNat) : Nat) from by rw [show fv_123 20 = fv_123 20 from rfl, p_122, show ar_7 36 = ar 36 from ((fA_call (fA_rf [] _) fa_9 (by decide)) 36 rfl)]; exact (hcx ((fv_5 14).toInt.toNat) (by omega)).2.1)), (show (0 : Int32) = 1 → fv_123 19 = fv 19 from fun w => absurd w (by decide)), (show (fv_123 14).toInt ≤ (c9 : Int) from by have : (fv_5 14).toInt = (fv 14).toInt := congrArg Int32.toInt ((fM_call (fM_rf [] _) fr_8 (by decide)) 14 rfl); have : (fv_123 14).toInt = (fv_5 14).toInt := congrArg Int32.toInt ((fM_call (fM_rf [19, 20] _) fr_126 (by decide)) 14 rfl); omega), (show (0 : Int32) = 1 → (fv 17).toInt + 1 ≤ (fv_123 17).toInt from fun w => absurd w (by decide)), trivial⟩, ⟨by rw [ht]; exact hP, va_K.moved hW.alike hK⟩⟩, hS.F ht⟩) hS.2.2 dX3_readOne_71
          · skip
            have k_130 : ¬ j_11 = 27 := fun w => c_95 (by rw [w])
            refine lv_aload_n hx hb dX3_readOne_45 rfl (lv_at hl 2 rfl) ?_
            refine lv_iconst (v := 1) hx hb dX3_readOne_46 (by decide) ?_
            have z_131 : (fv_5 14).toInt = (fv 14).toInt := congrArg Int32.toInt ((fr_8 14 rfl))
            have z_132 : 0 ≤ (fv_5 14).toInt ∧ (fv_5 14).toInt ≤ 300 := hF_fv_5 14
            refine va_calli (va_runV (As := [.int 1]) (rest := []) ⟨hx, hb, hml, hown, hts⟩ (x_failC l dC dI H.size ob ad cA hd fv_5 wd_6 ar_7 hF_fv_5 hA_ar_7 1) (cwV 1 hts (gV kw_4_110 kw_4_112 kw_p_6 kw_1_11 kw_4_113) rfl rfl rfl (by decide +kernel) ⟨Nat.le_of_ble_eq_true rfl, Nat.le_of_ble_eq_true rfl⟩) ⟨fun a U g mk q => ⟨q.1, q.2.1, q.2.2.1, va_K.moved (u := U) (U := U.calling g mk a) (Vm.Alike.refl U.vm) q.2.2.2⟩, va_recv hK hP (ci := 4) (q0 := 6) rfl rfl, fun U hU hW => ⟨rfl, by rw [hU], by rw [hU]; exact hP, va_K.moved hW.alike hK⟩⟩ rfl rfl hl.1 rfl (lv_room (Nat.le_of_ble_eq_true rfl)) dX3_readOne_47 ⟨Nat.le_of_ble_eq_true rfl, Nat.le_of_ble_eq_true rfl⟩) hS (fun q _ h9 => aX_up hS q h9) (aX_up hS) (fun r_133 u t H1 locs ht _ hw hB _ hk1 hS => ?_)
            obtain ⟨fv_138, wd_139, ar_140⟩ := u
            obtain ⟨hF_fv_138, hA_ar_140, fr_141, fa_142, wf_143, p_134, p_135, p_136, p_137, -⟩ := hw
            have wf_143 : wd_139.2 = wd_6.2 := wf_143
            have hP : va_P (dC, dI) vwCl (wsX ob ad cA fv_138 wd_139 ar_140) H1 := by have h9 := hB.1; rw [ht] at h9; exact h9
            have fr_141 : fM [19, 20] fv_5 fv_138 := fr_141
            have fa_142 : fA [] ar_7 ar_140 := fa_142
            have p_136 : fv_138 19 = (1 : Int32) := p_136
            have p_137 : fv_138 20 = ar_7 36 ((fv_5 14).toInt.toNat) := p_137
            generalize H1 = H at hP hS ⊢
            rcases p_135 with ⟨rfl, p_135⟩
            · skip
              have z_144 : (0 : Int32).toInt = 0 := by decide
              exact W.zret (v := 0) hx hb hr (by decide) (fun t ht hW => ⟨⟨0, (fv_138, wd_139, ar_140), rfl, ⟨hF_fv_138, hA_ar_140, (fM_call (fM_call (fM_rf [19, 20] _) fr_8 (by decide)) fr_141 (by decide)), (fA_call (fA_call (fA_rf [] _) fa_9 (by decide)) fa_142 (by decide)), (wf_143.trans wf_10), (iv_w (⟨by decide, by decide⟩ : (0 : Int) ≤ (0 : Int32).toInt ∧ (0 : Int32).toInt ≤ 0) (by decide) (by decide)), (show ∀ r9 : List Bool, r9.length = 10 → rd_x T9 S9 0 ((fv 14).toInt.toNat) ((fv 17).toInt.toNat) r9 (0 : Int32) (fv_138 19) (fv_138 20) (fv_138 14) (fv_138 17) from fun r9 hr => by have : (fv_5 14).toInt = (fv 14).toInt := congrArg Int32.toInt ((fM_call (fM_rf [] _) fr_8 (by decide)) 14 rfl); have : (fv_138 14).toInt = (fv_5 14).toInt := congrArg Int32.toInt ((fM_call (fM_rf [19, 20] _) fr_141 (by decide)) 14 rfl); have : (fv_5 17).toInt = (fv 17).toInt := congrArg Int32.toInt ((fM_call (fM_rf [] _) fr_8 (by decide)) 17 rfl); have : (fv_138 17).toInt = (fv_5 17).toInt := congrArg Int32.toInt ((fM_call (fM_rf [19, 20] _) fr_141 (by decide)) 17 rfl); exact rd_xF (q := (fv_5 14).toInt.toNat) (show (fv_138 19).toInt = ((1 : Nat) : Int) from by rw [show fv_138 19 = fv_138 19 from rfl, p_136]; decide) (by decide) (by rw [rd_m0_bad (by omega) (by rw [← zj_11]; omega)]; rw [show (fv 14).toInt.toNat = (fv_5 14).toInt.toNat from (by omega)]) (show (fv_138 20).toInt = (S9 ((fv_5 14).toInt.toNat) : Nat) from by rw [show fv_138 20 = fv_138 20 from rfl, p_137, show ar_7 36 = ar 36 from ((fA_call (fA_rf [] _) fa_9 (by decide)) 36 rfl)]; exact (hcx ((fv_5 14).toInt.toNat) (by omega)).2.1)), (show (0 : Int32) = 1 → fv_138 19 = fv 19 from fun w => absurd w (by decide)), (show (fv_138 14).toInt ≤ (c9 : Int) from by have : (fv_5 14).toInt = (fv 14).toInt := congrArg Int32.toInt ((fM_call (fM_rf [] _) fr_8 (by decide)) 14 rfl); have : (fv_138 14).toInt = (fv_5 14).toInt := congrArg Int32.toInt ((fM_call (fM_rf [19, 20] _) fr_141 (by decide)) 14 rfl); omega), (show (0 : Int32) = 1 → (fv 17).toInt + 1 ≤ (fv_138 17).toInt from fun w => absurd w (by decide)), trivial⟩, ⟨by rw [ht]; exact hP, va_K.moved hW.alike hK⟩⟩, hS.F ht⟩) hS.2.2 dX3_readOne_50
    · skip
      have i_145 : 3 ≤ v_53.toInt ∧ v_53.toInt ≤ 3 := iv_eq1 (⟨by decide, by decide⟩ : (3 : Int) ≤ (3 : Int32).toInt ∧ (3 : Int32).toInt ≤ 3) c_56
      refine lv_iconst (v := 1) hx hb dX3_readOne_21 (by decide) ?_
      refine lv_goto (tgt := 26) hx hb dX3_readOne_22 (by decide) ?_
      refine lv_istore_n (lv' := [(3, .int 1), (2, .ref (tA j_11)), (0, .ref (ob 6)), (1, .int wi)]) hx hb dX3_readOne_26 rfl hl (by decide) rfl (fun ls hl => ?_)
      refine lv_iload_n hx hb dX3_readOne_27 rfl (lv_at hl 0 rfl) ?_
      refine lv_if_ne (tgt := 51) hx hb dX3_readOne_28 (by decide) (fun c_147 => ?_) (fun c_147 => ?_)
      · skip
        refine lv_aload_n hx hb dX3_readOne_51 rfl (lv_at hl 2 rfl) ?_
        refine gX_X3_38 hx hb htg hown hK hP dX3_readOne_52 ?_
        refine my_ti (y := fv 17) ((fr_8 17 rfl)) ?_
        have i_148 : 0 ≤ (fv 17).toInt ∧ (fv 17).toInt ≤ 50 := hF_fv 17
        refine lv_bipush (v := 50) hx hb dX3_readOne_55 (by decide) ?_
        refine lv_icmp_ge (tgt := 66) hx hb dX3_readOne_57 (by decide) (fun c_149 => ?_) (fun c_149 => ?_)
        · skip
          have i_150 : 50 ≤ (fv 17).toInt ∧ (fv 17).toInt ≤ 50 := iv_le2 (⟨by decide, by decide⟩ : (50 : Int) ≤ (50 : Int32).toInt ∧ (50 : Int32).toInt ≤ 50) i_148 c_149
          refine lv_aload_n hx hb dX3_readOne_66 rfl (lv_at hl 2 rfl) ?_
          refine lv_iconst (v := 4) hx hb dX3_readOne_67 (by decide) ?_
          have z_151 : (fv_5 14).toInt = (fv 14).toInt := congrArg Int32.toInt ((fr_8 14 rfl))
          have z_152 : 0 ≤ (fv_5 14).toInt ∧ (fv_5 14).toInt ≤ 300 := hF_fv_5 14
          refine va_calli (va_runV (As := [.int 4]) (rest := []) ⟨hx, hb, hml, hown, hts⟩ (x_failC l dC dI H.size ob ad cA hd fv_5 wd_6 ar_7 hF_fv_5 hA_ar_7 4) (cwV 1 hts (gV kw_4_110 kw_4_112 kw_p_6 kw_1_11 kw_4_113) rfl rfl rfl (by decide +kernel) ⟨Nat.le_of_ble_eq_true rfl, Nat.le_of_ble_eq_true rfl⟩) ⟨fun a U g mk q => ⟨q.1, q.2.1, q.2.2.1, va_K.moved (u := U) (U := U.calling g mk a) (Vm.Alike.refl U.vm) q.2.2.2⟩, va_recv hK hP (ci := 4) (q0 := 6) rfl rfl, fun U hU hW => ⟨rfl, by rw [hU], by rw [hU]; exact hP, va_K.moved hW.alike hK⟩⟩ rfl rfl hl.1 rfl (lv_room (Nat.le_of_ble_eq_true rfl)) dX3_readOne_68 ⟨Nat.le_of_ble_eq_true rfl, Nat.le_of_ble_eq_true rfl⟩) hS (fun q _ h9 => aX_up hS q h9) (aX_up hS) (fun r_153 u t H1 locs ht _ hw hB _ hk1 hS => ?_)
          obtain ⟨fv_158, wd_159, ar_160⟩ := u
          obtain ⟨hF_fv_158, hA_ar_160, fr_161, fa_162, wf_163, p_154, p_155, p_156, p_157, -⟩ := hw
          have wf_163 : wd_159.2 = wd_6.2 := wf_163
          have hP : va_P (dC, dI) vwCl (wsX ob ad cA fv_158 wd_159 ar_160) H1 := by have h9 := hB.1; rw [ht] at h9; exact h9
          have fr_161 : fM [19, 20] fv_5 fv_158 := fr_161
          have fa_162 : fA [] ar_7 ar_160 := fa_162
          have p_156 : fv_158 19 = (4 : Int32) := p_156
          have p_157 : fv_158 20 = ar_7 36 ((fv_5 14).toInt.toNat) := p_157
          generalize H1 = H at hP hS ⊢
          rcases p_155 with ⟨rfl, p_155⟩
          · skip
            have z_164 : (0 : Int32).toInt = 0 := by decide
            exact W.zret (v := 0) hx hb hr (by decide) (fun t ht hW => ⟨⟨0, (fv_158, wd_159, ar_160), rfl, ⟨hF_fv_158, hA_ar_160, (fM_call (fM_call (fM_rf [19, 20] _) fr_8 (by decide)) fr_161 (by decide)), (fA_call (fA_call (fA_rf [] _) fa_9 (by decide)) fa_162 (by decide)), (wf_163.trans wf_10), (iv_w (⟨by decide, by decide⟩ : (0 : Int) ≤ (0 : Int32).toInt ∧ (0 : Int32).toInt ≤ 0) (by decide) (by decide)), (show ∀ r9 : List Bool, r9.length = 10 → rd_x T9 S9 0 ((fv 14).toInt.toNat) ((fv 17).toInt.toNat) r9 (0 : Int32) (fv_158 19) (fv_158 20) (fv_158 14) (fv_158 17) from fun r9 hr => by have : (fv_5 14).toInt = (fv 14).toInt := congrArg Int32.toInt ((fM_call (fM_rf [] _) fr_8 (by decide)) 14 rfl); have : (fv_158 14).toInt = (fv_5 14).toInt := congrArg Int32.toInt ((fM_call (fM_rf [19, 20] _) fr_161 (by decide)) 14 rfl); have : (fv_5 17).toInt = (fv 17).toInt := congrArg Int32.toInt ((fM_call (fM_rf [] _) fr_8 (by decide)) 17 rfl); have : (fv_158 17).toInt = (fv_5 17).toInt := congrArg Int32.toInt ((fM_call (fM_rf [19, 20] _) fr_161 (by decide)) 17 rfl); exact rd_xF (q := (fv_5 14).toInt.toNat) (show (fv_158 19).toInt = ((4 : Nat) : Int) from by rw [show fv_158 19 = fv_158 19 from rfl, p_156]; decide) (by decide) (by rw [rd_m0_many (by omega) (by rw [← zj_11]; omega) (by omega)]; rw [show (fv 14).toInt.toNat = (fv_5 14).toInt.toNat from (by omega)]) (show (fv_158 20).toInt = (S9 ((fv_5 14).toInt.toNat) : Nat) from by rw [show fv_158 20 = fv_158 20 from rfl, p_157, show ar_7 36 = ar 36 from ((fA_call (fA_rf [] _) fa_9 (by decide)) 36 rfl)]; exact (hcx ((fv_5 14).toInt.toNat) (by omega)).2.1)), (show (0 : Int32) = 1 → fv_158 19 = fv 19 from fun w => absurd w (by decide)), (show (fv_158 14).toInt ≤ (c9 : Int) from by have : (fv_5 14).toInt = (fv 14).toInt := congrArg Int32.toInt ((fM_call (fM_rf [] _) fr_8 (by decide)) 14 rfl); have : (fv_158 14).toInt = (fv_5 14).toInt := congrArg Int32.toInt ((fM_call (fM_rf [19, 20] _) fr_161 (by decide)) 14 rfl); omega), (show (0 : Int32) = 1 → (fv 17).toInt + 1 ≤ (fv_158 17).toInt from fun w => absurd w (by decide)), trivial⟩, ⟨by rw [ht]; exact hP, va_K.moved hW.alike hK⟩⟩, hS.F ht⟩) hS.2.2 dX3_readOne_71
        · skip
          have i_165 : 0 ≤ (fv 17).toInt ∧ (fv 17).toInt ≤ 49 := iv_lt1 i_148 (⟨by decide, by decide⟩ : (50 : Int) ≤ (50 : Int32).toInt ∧ (50 : Int32).toInt ≤ 50) (Int32.not_le.mp c_149)
          refine lv_iload_n hx hb dX3_readOne_60 rfl (lv_at hl 3 rfl) ?_
          refine lv_bipush (v := 10) hx hb dX3_readOne_61 (by decide) ?_
          refine lv_icmp_lt (tgt := 72) hx hb dX3_readOne_63 (by decide) (fun c_166 => ?_) (fun c_166 => ?_)
          · skip
            exact absurd True.intro (by have h7 := h_wi; have h8 := (⟨by decide, by decide⟩ : (10 : Int) ≤ (10 : Int32).toInt ∧ (10 : Int32).toInt ≤ 10); have h9 := Int32.lt_iff_toInt_lt.mp c_166; exfalso; omega)
          · skip
            refine lv_aload_n hx hb dX3_readOne_66 rfl (lv_at hl 2 rfl) ?_
            refine lv_iconst (v := 4) hx hb dX3_readOne_67 (by decide) ?_
            have z_167 : (fv_5 14).toInt = (fv 14).toInt := congrArg Int32.toInt ((fr_8 14 rfl))
            have z_168 : 0 ≤ (fv_5 14).toInt ∧ (fv_5 14).toInt ≤ 300 := hF_fv_5 14
            refine va_calli (va_runV (As := [.int 4]) (rest := []) ⟨hx, hb, hml, hown, hts⟩ (x_failC l dC dI H.size ob ad cA hd fv_5 wd_6 ar_7 hF_fv_5 hA_ar_7 4) (cwV 1 hts (gV kw_4_110 kw_4_112 kw_p_6 kw_1_11 kw_4_113) rfl rfl rfl (by decide +kernel) ⟨Nat.le_of_ble_eq_true rfl, Nat.le_of_ble_eq_true rfl⟩) ⟨fun a U g mk q => ⟨q.1, q.2.1, q.2.2.1, va_K.moved (u := U) (U := U.calling g mk a) (Vm.Alike.refl U.vm) q.2.2.2⟩, va_recv hK hP (ci := 4) (q0 := 6) rfl rfl, fun U hU hW => ⟨rfl, by rw [hU], by rw [hU]; exact hP, va_K.moved hW.alike hK⟩⟩ rfl rfl hl.1 rfl (lv_room (Nat.le_of_ble_eq_true rfl)) dX3_readOne_68 ⟨Nat.le_of_ble_eq_true rfl, Nat.le_of_ble_eq_true rfl⟩) hS (fun q _ h9 => aX_up hS q h9) (aX_up hS) (fun r_169 u t H1 locs ht _ hw hB _ hk1 hS => ?_)
            obtain ⟨fv_174, wd_175, ar_176⟩ := u
            obtain ⟨hF_fv_174, hA_ar_176, fr_177, fa_178, wf_179, p_170, p_171, p_172, p_173, -⟩ := hw
            have wf_179 : wd_175.2 = wd_6.2 := wf_179
            have hP : va_P (dC, dI) vwCl (wsX ob ad cA fv_174 wd_175 ar_176) H1 := by have h9 := hB.1; rw [ht] at h9; exact h9
            have fr_177 : fM [19, 20] fv_5 fv_174 := fr_177
            have fa_178 : fA [] ar_7 ar_176 := fa_178
            have p_172 : fv_174 19 = (4 : Int32) := p_172
            have p_173 : fv_174 20 = ar_7 36 ((fv_5 14).toInt.toNat) := p_173
            generalize H1 = H at hP hS ⊢
            rcases p_171 with ⟨rfl, p_171⟩
            · skip
              have z_180 : (0 : Int32).toInt = 0 := by decide
              exact W.zret (v := 0) hx hb hr (by decide) (fun t ht hW => ⟨⟨0, (fv_174, wd_175, ar_176), rfl, ⟨hF_fv_174, hA_ar_176, (fM_call (fM_call (fM_rf [19, 20] _) fr_8 (by decide)) fr_177 (by decide)), (fA_call (fA_call (fA_rf [] _) fa_9 (by decide)) fa_178 (by decide)), (wf_179.trans wf_10), (iv_w (⟨by decide, by decide⟩ : (0 : Int) ≤ (0 : Int32).toInt ∧ (0 : Int32).toInt ≤ 0) (by decide) (by decide)), (show ∀ r9 : List Bool, r9.length = 10 → rd_x T9 S9 0 ((fv 14).toInt.toNat) ((fv 17).toInt.toNat) r9 (0 : Int32) (fv_174 19) (fv_174 20) (fv_174 14) (fv_174 17) from fun r9 hr => by have : (fv_5 14).toInt = (fv 14).toInt := congrArg Int32.toInt ((fM_call (fM_rf [] _) fr_8 (by decide)) 14 rfl); have : (fv_174 14).toInt = (fv_5 14).toInt := congrArg Int32.toInt ((fM_call (fM_rf [19, 20] _) fr_177 (by decide)) 14 rfl); have : (fv_5 17).toInt = (fv 17).toInt := congrArg Int32.toInt ((fM_call (fM_rf [] _) fr_8 (by decide)) 17 rfl); have : (fv_174 17).toInt = (fv_5 17).toInt := congrArg Int32.toInt ((fM_call (fM_rf [19, 20] _) fr_177 (by decide)) 17 rfl); exact rd_xF (q := (fv_5 14).toInt.toNat) (show (fv_174 19).toInt = ((4 : Nat) : Int) from by rw [show fv_174 19 = fv_174 19 from rfl, p_172]; decide) (by decide) (by rw [rd_m0_many (by omega) (by rw [← zj_11]; omega) (by omega)]; rw [show (fv 14).toInt.toNat = (fv_5 14).toInt.toNat from (by omega)]) (show (fv_174 20).toInt = (S9 ((fv_5 14).toInt.toNat) : Nat) from by rw [show fv_174 20 = fv_174 20 from rfl, p_173, show ar_7 36 = ar 36 from ((fA_call (fA_rf [] _) fa_9 (by decide)) 36 rfl)]; exact (hcx ((fv_5 14).toInt.toNat) (by omega)).2.1)), (show (0 : Int32) = 1 → fv_174 19 = fv 19 from fun w => absurd w (by decide)), (show (fv_174 14).toInt ≤ (c9 : Int) from by have : (fv_5 14).toInt = (fv 14).toInt := congrArg Int32.toInt ((fM_call (fM_rf [] _) fr_8 (by decide)) 14 rfl); have : (fv_174 14).toInt = (fv_5 14).toInt := congrArg Int32.toInt ((fM_call (fM_rf [19, 20] _) fr_177 (by decide)) 14 rfl); omega), (show (0 : Int32) = 1 → (fv 17).toInt + 1 ≤ (fv_174 17).toInt from fun w => absurd w (by decide)), trivial⟩, ⟨by rw [ht]; exact hP, va_K.moved hW.alike hK⟩⟩, hS.F ht⟩) hS.2.2 dX3_readOne_71
      · skip
        exact absurd c_147 (by decide)
set_option maxHeartbeats 4000000 in
set_option maxRecDepth 100000 in
theorem x_readAllC_10 (l : Launch) (dC : Nat → ClassId) (dI : Nat → Nat → Nat) (sz : Nat) (ob ad : Nat → Nat) (cA : Nat → ClassId) (hd : dX ob ad) (fv : Nat → Int32) (wd : xT) (ar : Nat → Nat → Int32) (hF_fv : rX fv) (hA_ar : rB ar) (tA : Nat → Nat) (hto : tO tA wd.2.1) (T9 : Nat → Nat) (S9 : Nat → Nat) (N9 : Nat → Int) (c9 : Nat) (wi : Int32) (h_wi : 10 ≤ wi.toInt ∧ wi.toInt ≤ 10) (hcx : rd_cx tA T9 S9 N9 c9 wd.2.1 (ar 36) (ar 37)) (htc : (fv 13).toInt = (c9 : Int) + 1) (hpl : (fv 14).toInt ≤ (c9 : Int)) (h300 : c9 ≤ 300) (hT32 : ∀ k, T9 k < 32) (hfin : T9 c9 = 30 ∨ T9 c9 = 31) (hp_eC : eC fv ar) : Met l yX3_readAll (.code yX3_readAll cX3_readAll 3 (some .boolean) :: lw_good) ({ frames := 4, cells := 0, slots := 0, locals := 85 }) (va_Pc [.ref (ob 6), .int wi] (fun U => prX dC dI ob ad cA fv wd ar sz U ∧ tkA ob ad tA sz U)) (va_Qi (fun (r : Int32) (u : xS) => rX u.1 ∧ rB u.2.2 ∧ fM [14, 16, 19, 20] fv u.1 ∧ fA [41, 42, 43] ar u.2.2 ∧ u.2.1.2 = wd.2 ∧ (0 ≤ r.toInt ∧ r.toInt ≤ 1) ∧ (∀ r9 : List Bool, r9.length = 10 → rd_dn r9 = r9 → rd_x T9 S9 0 ((fv 14).toInt.toNat) ((fv 17).toInt.toNat) r9 r (u.1 19) (u.1 20) (u.1 14) (u.1 17)) ∧ (r = 1 → u.1 19 = fv 19) ∧ ((u.1 14).toInt ≤ (c9 : Int)) ∧ (r = 1 → (fv 17).toInt + 1 ≤ (u.1 17).toInt) ∧ (r = 1 → ¬ T9 ((u.1 14).toInt.toNat) = 24) ∧ (eC u.1 u.2.2) ∧ True) (enX dC dI ob ad cA) (aX ob ad sz)) 0 0 (aX ob ad sz) := by
  refine Met.ofW (cc := cX3_readAll) (maxL := 3) (ret := (some .boolean)) (by decide) rfl ?_
  intro p e s m args below meth c s₁ B hml hv
  obtain ⟨rfl, ⟨hsz, hP, hK⟩, hE⟩ := hv
  have hx := B.exec
  have hb := B.bytes
  have hr := B.returns
  have hts := atoms_spec (ws := (.code yX3_readAll cX3_readAll 3 (some .boolean) :: lw_good)) B.pre
  have htg : ∀ w ∈ lw_good, w.before _ s = true := fun w hw => hts w (List.mem_cons_of_mem _ hw)
  have hown : s.vm.findClass RX3 = some m.cls := findClass_of_methodNamed B.named
  have hlocks := B.notSynchronized
  subst hsz
  have hS : va_S (aX ob ad s.heap.size) s.heap s.heap [] := va_S.rf
  have hl := lv_entry ([.ref (ob 6), .int wi]) (n := 3) (Nat.le_of_ble_eq_true rfl)
  rw [lg_entry_eq]
  generalize (lg_sl ([.ref (ob 6), .int wi]) ++ List.replicate (3 - (lg_sl ([.ref (ob 6), .int wi])).length) Slot.unset).toArray = ls at hl ⊢
  have hl : lv_has ls 3 [(0, .ref (ob 6)), (1, .int wi)] := hl
  have i_1 : 0 ≤ (fv 14).toInt ∧ (fv 14).toInt ≤ 300 := (by have h9 := hF_fv 14; have h8 : 0 ≤ (fv 14).toInt := h9.1; omega)
  refine lv_aload_n hx hb dX3_readAll_0 rfl (lv_at hl 0 rfl) ?_
  refine lv_iload_n hx hb dX3_readAll_1 rfl (lv_at hl 1 rfl) ?_
  have z_2 : 0 ≤ (fv 13).toInt ∧ (fv 13).toInt ≤ 301 := hF_fv 13
  have z_3 : 0 ≤ (fv 14).toInt ∧ (fv 14).toInt ≤ 300 := hF_fv 14
  have z_4 : 0 ≤ (fv 14).toInt ∧ (fv 14).toInt ≤ 300 := hF_fv 14
  have z_5 : 0 ≤ (fv 17).toInt ∧ (fv 17).toInt ≤ 50 := hF_fv 17
  refine va_calli (va_runV (As := [.int wi]) (rest := []) ⟨hx, hb, hml, hown, hts⟩ (x_readOneC_10 l dC dI s.heap.size ob ad cA hd fv wd ar hF_fv hA_ar tA hto T9 S9 N9 c9 wi h_wi hcx (by omega) (by omega) h300 hT32 hfin hp_eC) (cwV 1 hts (gV kw_4_144 kw_4_146 kw_p_13 kw_1_11 kw_4_147) rfl rfl rfl (by decide +kernel) ⟨Nat.le_of_ble_eq_true rfl, Nat.le_of_ble_eq_true rfl⟩) ⟨fun a U g mk q => ⟨q.1, ⟨q.2.1.1, q.2.1.2.1, va_K.moved (u := U) (U := U.calling g mk a) (Vm.Alike.refl U.vm) q.2.1.2.2⟩, tk_mv (U := U.calling g mk a) rfl (Vm.Alike.refl U.vm) q.2.2⟩, va_recv hK hP (ci := 4) (q0 := 6) rfl rfl, fun U hU hW => ⟨rfl, ⟨by rw [hU], by rw [hU]; exact hP, va_K.moved hW.alike hK⟩, tk_pass hE hS hU hW.alike⟩⟩ rfl rfl hl.1 rfl (lv_room (Nat.le_of_ble_eq_true rfl)) dX3_readAll_2 ⟨Nat.le_of_ble_eq_true rfl, Nat.le_of_ble_eq_true rfl⟩) hS (fun q _ h9 => aX_up hS q h9) (aX_up hS) (fun r_6 u t H1 locs ht _ hw hB _ hk1 hS => ?_)
  obtain ⟨fv_12, wd_13, ar_14⟩ := u
  obtain ⟨hF_fv_12, hA_ar_14, fr_15, fa_16, wf_17, p_7, p_8, p_9, p_10, p_11, -⟩ := hw
  have wf_17 : wd_13.2 = wd.2 := wf_17
  have hP : va_P (dC, dI) vwCl (wsX ob ad cA fv_12 wd_13 ar_14) H1 := by have h9 := hB.1; rw [ht] at h9; exact h9
  have fr_15 : fM [19, 20] fv fv_12 := fr_15
  have fa_16 : fA [] ar ar_14 := fa_16
  have p_8 : ∀ r9 : List Bool, r9.length = 10 → rd_x T9 S9 0 ((fv 14).toInt.toNat) ((fv 17).toInt.toNat) r9 r_6 (fv_12 19) (fv_12 20) (fv_12 14) (fv_12 17) := p_8
  have p_9 : r_6 = 1 → fv_12 19 = fv 19 := p_9
  have p_10 : (fv_12 14).toInt ≤ (c9 : Int) := p_10
  have p_11 : r_6 = 1 → (fv 17).toInt + 1 ≤ (fv_12 17).toInt := p_11
  generalize H1 = H at hP hS ⊢
  refine lv_if_ne (tgt := 10) hx hb dX3_readAll_5 (by decide) (fun c_18 => ?_) (fun c_18 => ?_)
  · skip
    have i_19 : 1 ≤ r_6.toInt ∧ r_6.toInt ≤ 1 := iv_nel p_7 (by decide) c_18
    have k_20 : ¬ r_6.toInt = 0 := fun q => c_18 (Int32.toInt_inj.mp q)
    refine lv_iconst (v := 0) hx hb dX3_readAll_10 (by decide) ?_
    refine lv_istore_n (lv' := [(2, .int 0), (0, .ref (ob 6)), (1, .int wi)]) hx hb dX3_readAll_11 rfl hl (by decide) rfl (fun ls hl => ?_)
    refine my_cut (P := fun R9 a9 Q9 => ∀ (n_33 : Nat) (x_21 : Int32) (fv_22 : Nat → Int32) (ar_24 : Nat → Nat → Int32) (wd_26 : xT) (H : Heap) (locs : List Loc) (ls : Array Slot), 50 - x_21.toInt < (n_33 : Int) → (0 ≤ x_21.toInt ∧ x_21.toInt ≤ 50) → rX fv_22 → fM [14, 16, 19, 20] fv_12 fv_22 → rB ar_24 → fA [41, 42, 43] ar_14 ar_24 → wd_26.2 = wd_13.2 → eC fv_22 ar_24 → (∀ r9 : List Bool, r9.length = 10 → rd_dn r9 = r9 → rd_m T9 0 ((fv 14).toInt.toNat) ((fv 17).toInt.toNat) r9 = rd_m T9 1 ((fv_22 14).toInt.toNat) ((fv_22 17).toInt.toNat) r9) → ((fv_22 14).toInt ≤ (c9 : Int)) → (fv_22 19 = fv 19) → (x_21.toInt + (fv 17).toInt + 1 ≤ (fv_22 17).toInt) → va_P (dC, dI) vwCl (wsX ob ad cA fv_22 wd_26 ar_24) H → va_S (aX ob ad s.heap.size) s.heap H locs → lv_has ls 3 [(0, .ref (ob 6)), (1, .int wi), (2, .int x_21)] → W p l e R9 s m a9 below meth c H locs 0 0 Q9 (F0 m 12 ls [])) ?_ (fun hj_35 => ?_)
    · intro n_33
      induction n_33 with
      | zero => intro x_21 fv_22 ar_24 wd_26 H locs ls fu_34 i_x_21 hF_fv_22 fr_23 hA_ar_24 fa_25 wf_27 hp_28 q_29 q_30 q_31 q_32; exfalso; omega
      | succ n_33 ih_33 =>
        intro x_21 fv_22 ar_24 wd_26 H locs ls fu_34 i_x_21 hF_fv_22 fr_23 hA_ar_24 fa_25 wf_27 hp_28 q_29 q_30 q_31 q_32 hP hS hl
        refine lv_iload_n hx hb dX3_readAll_12 rfl (lv_at hl 2 rfl) ?_
        refine lv_bipush (v := 50) hx hb dX3_readAll_13 (by decide) ?_
        have z_36 : (fv_22 17).toInt = (fv 17).toInt := congrArg Int32.toInt ((fr_23 17 rfl).trans ((fr_15 17 rfl)))
        have z_37 : 0 ≤ (fv_22 17).toInt ∧ (fv_22 17).toInt ≤ 50 := hF_fv_22 17
        have z_38 : 0 ≤ (fv_22 14).toInt ∧ (fv_22 14).toInt ≤ 300 := hF_fv_22 14
        have z50 : (50 : Int32).toInt = 50 := by decide
        refine lv_icmp_ge (tgt := 56) hx hb dX3_readAll_15 (by decide) (fun c_39 => ?_) (fun c_39 => ?_)
        · skip
          exact absurd True.intro (by have h9 := Int32.le_iff_toInt_le.mp c_39; exfalso; omega)
        · skip
          have i_40 : 0 ≤ x_21.toInt ∧ x_21.toInt ≤ 49 := iv_lt1 i_x_21 (⟨by decide, by decide⟩ : (50 : Int) ≤ (50 : Int32).toInt ∧ (50 : Int32).toInt ≤ 50) (Int32.not_le.mp c_39)
          refine lv_aload_n hx hb dX3_readAll_18 rfl (lv_at hl 0 rfl) ?_
          have z_41 : (fv_22 13).toInt = (fv 13).toInt := congrArg Int32.toInt ((fr_23 13 rfl).trans ((fr_15 13 rfl)))
          have z_42 : 0 ≤ (fv_22 13).toInt ∧ (fv_22 13).toInt ≤ 301 := hF_fv_22 13
          have z_43 : 0 ≤ (fv_22 14).toInt ∧ (fv_22 14).toInt ≤ 300 := hF_fv_22 14
          refine va_callr (va_runV (As := []) (rest := []) ⟨hx, hb, hml, hown, hts⟩ (x_tokenC l dC dI H.size ob ad cA hd fv_22 wd_26 ar_24 hF_fv_22 hA_ar_24 tA (tO_w hto (wf_27.trans wf_17)) T9 S9 N9 c9 (rd_cx_eq hcx (congrArg (fun z => z.1) (wf_27.trans wf_17)) ((fA_call (fA_call (fA_rf [41, 42, 43] _) fa_16 (by decide)) fa_25 (by decide)) 36 rfl) ((fA_call (fA_call (fA_rf [41, 42, 43] _) fa_16 (by decide)) fa_25 (by decide)) 37 rfl)) (by omega) (by omega) h300 hT32 hfin) (cwV 0 hts (gV kw_4_102 kw_4_104 kw_p_4 kw_1_11 kw_4_105) rfl rfl rfl (by decide +kernel) ⟨Nat.le_of_ble_eq_true rfl, Nat.le_of_ble_eq_true rfl⟩) ⟨fun a U g mk q => ⟨q.1, ⟨q.2.1.1, q.2.1.2.1, va_K.moved (u := U) (U := U.calling g mk a) (Vm.Alike.refl U.vm) q.2.1.2.2⟩, tk_mv (U := U.calling g mk a) rfl (Vm.Alike.refl U.vm) q.2.2⟩, va_recv hK hP (ci := 4) (q0 := 6) rfl rfl, fun U hU hW => ⟨rfl, ⟨by rw [hU], by rw [hU]; exact hP, va_K.moved hW.alike hK⟩, tk_pass hE hS hU hW.alike⟩⟩ rfl rfl hl.1 rfl (lv_room (Nat.le_of_ble_eq_true rfl)) dX3_readAll_19 ⟨Nat.le_of_ble_eq_true rfl, Nat.le_of_ble_eq_true rfl⟩) hS (fun q _ h9 => aX_up hS q h9) (aX_up hS) (fun u r_44 t H1 locs ht _ hw hB _ hk1 hS => ?_)
          obtain ⟨fv_45, wd_46, ar_47⟩ := u
          obtain ⟨hF_fv_45, hA_ar_47, fr_48, fa_49, wf_50, -⟩ := hw
          have wf_50 : wd_46.2 = wd_26.2 := wf_50
          have hP : va_P (dC, dI) vwCl (wsX ob ad cA fv_45 wd_46 ar_47) H1 := by have h9 := hB.1.1; rw [ht] at h9; exact h9
          have fr_48 : fM [] fv_22 fv_45 := fr_48
          have fa_49 : fA [] ar_24 ar_47 := fa_49
          generalize H1 = H at hP hS ⊢
          obtain ⟨j_51, lj_51, rj_51, zj_51⟩ := hB.2
          subst rj_51
          refine va_gets hx hb (hE.1 24 (by decide)).1 hS hown (htg (.fieldLink RX3 206 "WalkingTown$Token" "AND" "LWalkingTown$Token;") kw_4_160) (fun _ h9 => h9) dX3_readAll_22 ?_
          refine lv_acmp_ne (rx := some (tA j_51)) (ry := some (tA 24)) (tgt := 56) hx hb dX3_readAll_25 (by decide) (fun c_52 => ?_) (fun c_52 => ?_)
          · skip
            have k_53 : ¬ j_51 = 24 := fun w => c_52 (by rw [w])
            refine lv_iconst (v := 1) hx hb dX3_readAll_56 (by decide) ?_
            have z_54 : (1 : Int32).toInt = 1 := by decide
            exact W.zret (v := 1) hx hb hr (by decide) (fun t ht hW => ⟨⟨1, (fv_45, wd_46, ar_47), rfl, ⟨hF_fv_45, hA_ar_47, (fM_call (fM_call (fM_call (fM_rf [14, 16, 19, 20] _) fr_15 (by decide)) fr_23 (by decide)) fr_48 (by decide)), (fA_call (fA_call (fA_call (fA_rf [41, 42, 43] _) fa_16 (by decide)) fa_25 (by decide)) fa_49 (by decide)), (wf_50.trans (wf_27.trans wf_17)), (iv_w (⟨by decide, by decide⟩ : (1 : Int) ≤ (1 : Int32).toInt ∧ (1 : Int32).toInt ≤ 1) (by decide) (by decide)), (show ∀ r9 : List Bool, r9.length = 10 → rd_dn r9 = r9 → rd_x T9 S9 0 ((fv 14).toInt.toNat) ((fv 17).toInt.toNat) r9 (1 : Int32) (fv_45 19) (fv_45 20) (fv_45 14) (fv_45 17) from fun r9 hr hd => by have : (fv_12 14).toInt = (fv 14).toInt := congrArg Int32.toInt ((fM_call (fM_rf [19, 20] _) fr_15 (by decide)) 14 rfl); have : (fv_45 14).toInt = (fv_22 14).toInt := congrArg Int32.toInt ((fM_call (fM_rf [] _) fr_48 (by decide)) 14 rfl); have : (fv_12 17).toInt = (fv 17).toInt := congrArg Int32.toInt ((fM_call (fM_rf [19, 20] _) fr_15 (by decide)) 17 rfl); have : (fv_22 17).toInt = (fv_12 17).toInt := congrArg Int32.toInt ((fM_call (fM_rf [14, 16, 19, 20] _) fr_23 (by decide)) 17 rfl); have : (fv_45 17).toInt = (fv_22 17).toInt := congrArg Int32.toInt ((fM_call (fM_rf [] _) fr_48 (by decide)) 17 rfl); exact rd_xO (by rw [show fv_45 14 = fv_22 14 from ((fM_call (fM_rf [] _) fr_48 (by decide)) 14 rfl), show fv_45 17 = fv_22 17 from ((fM_call (fM_rf [] _) fr_48 (by decide)) 17 rfl)]; exact q_29 r9 hr hd)), (show (1 : Int32) = 1 → fv_45 19 = fv 19 from fun _ => (show fv_45 19 = fv_22 19 from ((fM_call (fM_rf [] _) fr_48 (by decide)) 19 rfl)).trans q_31), (show (fv_45 14).toInt ≤ (c9 : Int) from by have : (fv_12 14).toInt = (fv 14).toInt := congrArg Int32.toInt ((fM_call (fM_rf [19, 20] _) fr_15 (by decide)) 14 rfl); have : (fv_45 14).toInt = (fv_22 14).toInt := congrArg Int32.toInt ((fM_call (fM_rf [] _) fr_48 (by decide)) 14 rfl); have hp9 := p_10; omega), (show (1 : Int32) = 1 → (fv 17).toInt + 1 ≤ (fv_45 17).toInt from fun _ => by have : (fv_12 17).toInt = (fv 17).toInt := congrArg Int32.toInt ((fM_call (fM_rf [19, 20] _) fr_15 (by decide)) 17 rfl); have : (fv_22 17).toInt = (fv_12 17).toInt := congrArg Int32.toInt ((fM_call (fM_rf [14, 16, 19, 20] _) fr_23 (by decide)) 17 rfl); have : (fv_45 17).toInt = (fv_22 17).toInt := congrArg Int32.toInt ((fM_call (fM_rf [] _) fr_48 (by decide)) 17 rfl); omega), (show (1 : Int32) = 1 → ¬ T9 ((fv_45 14).toInt.toNat) = 24 from fun _ => by have : (fv_12 14).toInt = (fv 14).toInt := congrArg Int32.toInt ((fM_call (fM_rf [19, 20] _) fr_15 (by decide)) 14 rfl); have : (fv_45 14).toInt = (fv_22 14).toInt := congrArg Int32.toInt ((fM_call (fM_rf [] _) fr_48 (by decide)) 14 rfl); have hz9 : ¬ T9 ((fv_45 14).toInt.toNat) = 24 := (by rw [show (fv_45 14).toInt.toNat = (fv_22 14).toInt.toNat from (by omega), ← zj_51]; omega); omega), (eC_fr hp_28 (fM_call (fM_rf [] _) fr_48 (by decide)) (fA_call (fA_rf [] _) fa_49 (by decide)) rfl rfl rfl), trivial⟩, ⟨by rw [ht]; exact hP, va_K.moved hW.alike hK⟩⟩, hS.F ht⟩) hS.2.2 dX3_readAll_57
          · skip
            have k_55 : j_51 = 24 := hE.2 j_51 24 lj_51 (by decide) (Option.some.inj c_52)
            refine lv_aload_n hx hb dX3_readAll_28 rfl (lv_at hl 0 rfl) ?_
            have z_56 : (fv_45 13).toInt = (fv 13).toInt := congrArg Int32.toInt ((fr_48 13 rfl).trans ((fr_23 13 rfl).trans ((fr_15 13 rfl))))
            have z_57 : 0 ≤ (fv_45 13).toInt ∧ (fv_45 13).toInt ≤ 301 := hF_fv_45 13
            have z_58 : (fv_45 14).toInt = (fv_22 14).toInt := congrArg Int32.toInt ((fr_48 14 rfl))
            have z_59 : 0 ≤ (fv_45 14).toInt ∧ (fv_45 14).toInt ≤ 300 := hF_fv_45 14
            have z_60 : (fv_45 13).toInt = (fv 13).toInt := congrArg Int32.toInt ((fr_48 13 rfl).trans ((fr_23 13 rfl).trans ((fr_15 13 rfl))))
            have z_61 : 0 ≤ (fv_45 13).toInt ∧ (fv_45 13).toInt ≤ 301 := hF_fv_45 13
            have z_62 : (fv_45 14).toInt = (fv_22 14).toInt := congrArg Int32.toInt ((fr_48 14 rfl))
            have z_63 : 0 ≤ (fv_45 14).toInt ∧ (fv_45 14).toInt ≤ 300 := hF_fv_45 14
            refine va_callv (va_runV (As := []) (rest := []) ⟨hx, hb, hml, hown, hts⟩ (x_stepC l dC dI H.size ob ad cA hd fv_45 wd_46 ar_47 hF_fv_45 hA_ar_47 (by have h9 := rd_lt hfin (p := (fv_22 14).toInt.toNat) (by omega) (by rw [← zj_51]; omega); omega)) (cwV 0 hts (gV kw_4_116 kw_4_118 kw_p_7 kw_1_11 kw_4_119) rfl rfl rfl (by decide +kernel) ⟨Nat.le_of_ble_eq_true rfl, Nat.le_of_ble_eq_true rfl⟩) ⟨fun a U g mk q => ⟨q.1, q.2.1, q.2.2.1, va_K.moved (u := U) (U := U.calling g mk a) (Vm.Alike.refl U.vm) q.2.2.2⟩, va_recv hK hP (ci := 4) (q0 := 6) rfl rfl, fun U hU hW => ⟨rfl, by rw [hU], by rw [hU]; exact hP, va_K.moved hW.alike hK⟩⟩ rfl rfl hl.1 rfl (lv_room (Nat.le_of_ble_eq_true rfl)) dX3_readAll_29 ⟨Nat.le_of_ble_eq_true rfl, Nat.le_of_ble_eq_true rfl⟩) hS (fun q _ h9 => aX_up hS q h9) (aX_up hS) (fun u t H1 locs ht _ hw hB _ hk1 hS => ?_)
            obtain ⟨fv_66, wd_67, ar_68⟩ := u
            obtain ⟨hF_fv_66, hA_ar_68, fr_69, fa_70, wf_71, p_65, -⟩ := hw
            have wf_71 : wd_67.2 = wd_46.2 := wf_71
            have hP : va_P (dC, dI) vwCl (wsX ob ad cA fv_66 wd_67 ar_68) H1 := by have h9 := hB.1; rw [ht] at h9; exact h9
            have fr_69 : fM [14] fv_45 fv_66 := fr_69
            have fa_70 : fA [] ar_47 ar_68 := fa_70
            have p_65 : (fv_66 14).toInt = (fv_45 14).toInt + 1 ∧ (fv_66 14).toInt ≤ (fv_45 13).toInt - 1 := p_65
            generalize H1 = H at hP hS ⊢
            refine lv_aload_n hx hb dX3_readAll_32 rfl (lv_at hl 0 rfl) ?_
            refine lv_iload_n hx hb dX3_readAll_33 rfl (lv_at hl 1 rfl) ?_
            have z_72 : (fv_66 13).toInt = (fv 13).toInt := congrArg Int32.toInt ((fr_69 13 rfl).trans ((fr_48 13 rfl).trans ((fr_23 13 rfl).trans ((fr_15 13 rfl)))))
            have z_73 : 0 ≤ (fv_66 13).toInt ∧ (fv_66 13).toInt ≤ 301 := hF_fv_66 13
            have z_74 : 0 ≤ (fv_66 14).toInt ∧ (fv_66 14).toInt ≤ 300 := hF_fv_66 14
            have z_75 : 0 ≤ (fv_66 14).toInt ∧ (fv_66 14).toInt ≤ 300 := hF_fv_66 14
            have z_76 : (fv_66 17).toInt = (fv 17).toInt := congrArg Int32.toInt ((fr_69 17 rfl).trans ((fr_48 17 rfl).trans ((fr_23 17 rfl).trans ((fr_15 17 rfl)))))
            have z_77 : 0 ≤ (fv_66 17).toInt ∧ (fv_66 17).toInt ≤ 50 := hF_fv_66 17
            refine va_calli (va_runV (As := [.int wi]) (rest := []) ⟨hx, hb, hml, hown, hts⟩ (x_readOneC_10 l dC dI H.size ob ad cA hd fv_66 wd_67 ar_68 hF_fv_66 hA_ar_68 tA (tO_w hto (wf_71.trans (wf_50.trans (wf_27.trans wf_17)))) T9 S9 N9 c9 wi h_wi (rd_cx_eq hcx (congrArg (fun z => z.1) (wf_71.trans (wf_50.trans (wf_27.trans wf_17)))) ((fA_call (fA_call (fA_call (fA_call (fA_rf [41, 42, 43] _) fa_16 (by decide)) fa_25 (by decide)) fa_49 (by decide)) fa_70 (by decide)) 36 rfl) ((fA_call (fA_call (fA_call (fA_call (fA_rf [41, 42, 43] _) fa_16 (by decide)) fa_25 (by decide)) fa_49 (by decide)) fa_70 (by decide)) 37 rfl)) (by omega) (by omega) h300 hT32 hfin (eC_fr hp_28 (fM_call (fM_call (fM_rf [14] _) fr_48 (by decide)) fr_69 (by decide)) (fA_call (fA_call (fA_rf [] _) fa_49 (by decide)) fa_70 (by decide)) rfl rfl rfl)) (cwV 1 hts (gV kw_4_144 kw_4_146 kw_p_13 kw_1_11 kw_4_147) rfl rfl rfl (by decide +kernel) ⟨Nat.le_of_ble_eq_true rfl, Nat.le_of_ble_eq_true rfl⟩) ⟨fun a U g mk q => ⟨q.1, ⟨q.2.1.1, q.2.1.2.1, va_K.moved (u := U) (U := U.calling g mk a) (Vm.Alike.refl U.vm) q.2.1.2.2⟩, tk_mv (U := U.calling g mk a) rfl (Vm.Alike.refl U.vm) q.2.2⟩, va_recv hK hP (ci := 4) (q0 := 6) rfl rfl, fun U hU hW => ⟨rfl, ⟨by rw [hU], by rw [hU]; exact hP, va_K.moved hW.alike hK⟩, tk_pass hE hS hU hW.alike⟩⟩ rfl rfl hl.1 rfl (lv_room (Nat.le_of_ble_eq_true rfl)) dX3_readAll_34 ⟨Nat.le_of_ble_eq_true rfl, Nat.le_of_ble_eq_true rfl⟩) hS (fun q _ h9 => aX_up hS q h9) (aX_up hS) (fun r_78 u t H1 locs ht _ hw hB _ hk1 hS => ?_)
            obtain ⟨fv_84, wd_85, ar_86⟩ := u
            obtain ⟨hF_fv_84, hA_ar_86, fr_87, fa_88, wf_89, p_79, p_80, p_81, p_82, p_83, -⟩ := hw
            have wf_89 : wd_85.2 = wd_67.2 := wf_89
            have hP : va_P (dC, dI) vwCl (wsX ob ad cA fv_84 wd_85 ar_86) H1 := by have h9 := hB.1; rw [ht] at h9; exact h9
            have fr_87 : fM [19, 20] fv_66 fv_84 := fr_87
            have fa_88 : fA [] ar_68 ar_86 := fa_88
            have p_80 : ∀ r9 : List Bool, r9.length = 10 → rd_x T9 S9 0 ((fv_66 14).toInt.toNat) ((fv_66 17).toInt.toNat) r9 r_78 (fv_84 19) (fv_84 20) (fv_84 14) (fv_84 17) := p_80
            have p_81 : r_78 = 1 → fv_84 19 = fv_66 19 := p_81
            have p_82 : (fv_84 14).toInt ≤ (c9 : Int) := p_82
            have p_83 : r_78 = 1 → (fv_66 17).toInt + 1 ≤ (fv_84 17).toInt := p_83
            generalize H1 = H at hP hS ⊢
            refine lv_if_ne (tgt := 42) hx hb dX3_readAll_37 (by decide) (fun c_90 => ?_) (fun c_90 => ?_)
            · skip
              have i_91 : 1 ≤ r_78.toInt ∧ r_78.toInt ≤ 1 := iv_nel p_79 (by decide) c_90
              have k_92 : ¬ r_78.toInt = 0 := fun q => c_90 (Int32.toInt_inj.mp q)
              refine lv_aload_n hx hb dX3_readAll_42 rfl (lv_at hl 0 rfl) ?_
              refine lv_iconst (v := 4) hx hb dX3_readAll_43 (by decide) ?_
              refine lv_iconst (v := 0) hx hb dX3_readAll_44 (by decide) ?_
              refine lv_iconst (v := 0) hx hb dX3_readAll_45 (by decide) ?_
              refine va_calli (va_runV (As := [.int 4, .int 0, .int 0]) (rest := []) ⟨hx, hb, hml, hown, hts⟩ (x_addCode l dC dI H.size ob ad cA hd fv_84 wd_85 ar_86 hF_fv_84 hA_ar_86 4 0 0 (iv_w (⟨by decide, by decide⟩ : (0 : Int) ≤ (0 : Int32).toInt ∧ (0 : Int32).toInt ≤ 0) (by decide) (by decide)) (eC_fr hp_28 (fM_call (fM_call (fM_call (fM_rf [14, 19, 20] _) fr_48 (by decide)) fr_69 (by decide)) fr_87 (by decide)) (fA_call (fA_call (fA_call (fA_rf [] _) fa_49 (by decide)) fa_70 (by decide)) fa_88 (by decide)) rfl rfl rfl)) (cwV 3 hts (gV kw_4_150 kw_4_152 kw_p_14 kw_1_11 kw_4_153) rfl rfl rfl (by decide +kernel) ⟨Nat.le_of_ble_eq_true rfl, Nat.le_of_ble_eq_true rfl⟩) ⟨fun a U g mk q => ⟨q.1, q.2.1, q.2.2.1, va_K.moved (u := U) (U := U.calling g mk a) (Vm.Alike.refl U.vm) q.2.2.2⟩, va_recv hK hP (ci := 4) (q0 := 6) rfl rfl, fun U hU hW => ⟨rfl, by rw [hU], by rw [hU]; exact hP, va_K.moved hW.alike hK⟩⟩ rfl rfl hl.1 rfl (lv_room (Nat.le_of_ble_eq_true rfl)) dX3_readAll_46 ⟨Nat.le_of_ble_eq_true rfl, Nat.le_of_ble_eq_true rfl⟩) hS (fun q _ h9 => aX_up hS q h9) (aX_up hS) (fun r_93 u t H1 locs ht _ hw hB _ hk1 hS => ?_)
              obtain ⟨fv_97, wd_98, ar_99⟩ := u
              obtain ⟨hF_fv_97, hA_ar_99, fr_100, fa_101, wf_102, p_94, p_95, p_96, -⟩ := hw
              have wf_102 : wd_98.2 = wd_85.2 := wf_102
              have hP : va_P (dC, dI) vwCl (wsX ob ad cA fv_97 wd_98 ar_99) H1 := by have h9 := hB.1; rw [ht] at h9; exact h9
              have fr_100 : fM [16] fv_84 fv_97 := fr_100
              have fa_101 : fA [41, 42, 43] ar_86 ar_99 := fa_101
              have p_96 : eC fv_97 ar_99 := p_96
              generalize H1 = H at hP hS ⊢
              rcases p_95 with ⟨rfl, p_95⟩
              · skip
                refine lv_pop hx hb dX3_readAll_49 rfl ?_
                obtain ⟨v_103, ev_103⟩ : ∃ z : Int32, z = x_21 + 1 := ⟨_, rfl⟩
                refine lv_iinc (v := v_103) (lv' := [(2, .int v_103), (0, .ref (ob 6)), (1, .int wi)]) hx hb dX3_readAll_50 hl (k := 2) rfl (by rw [ev_103]; rfl) (by decide) rfl (fun ls hl => ?_)
                have t_104 : v_103.toInt = x_21.toInt + 1 ∧ 1 ≤ v_103.toInt ∧ v_103.toInt ≤ 50 := iv_addc ev_103 i_40 (by decide) (by decide) (by decide)
                refine lv_goto (tgt := 12) hx hb dX3_readAll_53 (by decide) ?_
                have z_109 : (fv_97 17).toInt = (fv 17).toInt := congrArg Int32.toInt ((fr_100 17 rfl).trans ((fr_87 17 rfl).trans ((fr_69 17 rfl).trans ((fr_48 17 rfl).trans ((fr_23 17 rfl).trans ((fr_15 17 rfl)))))))
                have z_110 : 0 ≤ (fv_97 17).toInt ∧ (fv_97 17).toInt ≤ 50 := hF_fv_97 17
                have z_111 : (fv_97 14).toInt = (fv_66 14).toInt := congrArg Int32.toInt ((fr_100 14 rfl).trans ((fr_87 14 rfl)))
                have z_112 : 0 ≤ (fv_97 14).toInt ∧ (fv_97 14).toInt ≤ 300 := hF_fv_97 14
                exact ih_33 v_103 fv_97 ar_99 wd_98 _ _ ls (by omega) (iv_w t_104.2 (by decide) (by decide)) hF_fv_97 (fM_call (fM_call (fM_call (fM_call (fM_call (fM_rf [14, 16, 19, 20] _) fr_23 (by decide)) fr_48 (by decide)) fr_69 (by decide)) fr_87 (by decide)) fr_100 (by decide)) hA_ar_99 (fA_call (fA_call (fA_call (fA_call (fA_call (fA_rf [41, 42, 43] _) fa_25 (by decide)) fa_49 (by decide)) fa_70 (by decide)) fa_88 (by decide)) fa_101 (by decide)) (wf_102.trans (wf_89.trans (wf_71.trans (wf_50.trans wf_27)))) p_96 (fun r9 hr hd => by have : (fv_12 14).toInt = (fv 14).toInt := congrArg Int32.toInt ((fM_call (fM_rf [19, 20] _) fr_15 (by decide)) 14 rfl); have : (fv_45 14).toInt = (fv_22 14).toInt := congrArg Int32.toInt ((fM_call (fM_rf [] _) fr_48 (by decide)) 14 rfl); have : (fv_84 14).toInt = (fv_66 14).toInt := congrArg Int32.toInt ((fM_call (fM_rf [19, 20] _) fr_87 (by decide)) 14 rfl); have : (fv_97 14).toInt = (fv_84 14).toInt := congrArg Int32.toInt ((fM_call (fM_rf [16] _) fr_100 (by decide)) 14 rfl); have : (fv_12 17).toInt = (fv 17).toInt := congrArg Int32.toInt ((fM_call (fM_rf [19, 20] _) fr_15 (by decide)) 17 rfl); have : (fv_22 17).toInt = (fv_12 17).toInt := congrArg Int32.toInt ((fM_call (fM_rf [14, 16, 19, 20] _) fr_23 (by decide)) 17 rfl); have : (fv_45 17).toInt = (fv_22 17).toInt := congrArg Int32.toInt ((fM_call (fM_rf [] _) fr_48 (by decide)) 17 rfl); have : (fv_66 17).toInt = (fv_45 17).toInt := congrArg Int32.toInt ((fM_call (fM_rf [14] _) fr_69 (by decide)) 17 rfl); have : (fv_84 17).toInt = (fv_66 17).toInt := congrArg Int32.toInt ((fM_call (fM_rf [19, 20] _) fr_87 (by decide)) 17 rfl); have : (fv_97 17).toInt = (fv_84 17).toInt := congrArg Int32.toInt ((fM_call (fM_rf [16] _) fr_100 (by decide)) 17 rfl); rcases p_80 r9 hr with ⟨a, b, q, o2, c, d⟩ | ⟨a, b⟩; exact absurd (congrArg Int32.toInt a) (by rw [show (0 : Int32).toInt = 0 from (by decide)]; omega); rw [show fv_97 14 = fv_84 14 from ((fM_call (fM_rf [16] _) fr_100 (by decide)) 14 rfl), show fv_97 17 = fv_84 17 from ((fM_call (fM_rf [16] _) fr_100 (by decide)) 17 rfl)]; rw [q_29 r9 hr hd, show (fv_22 14).toInt.toNat = (fv_22 14).toInt.toNat from (by omega), rd_m1_join (by omega) (Or.inl (by rw [← zj_51]; omega)) hd, show (fv_22 14).toInt.toNat + 1 = (fv_66 14).toInt.toNat from (by omega), show (fv_22 17).toInt.toNat = (fv_66 17).toInt.toNat from (by omega)]; exact b) (by have : (fv_12 14).toInt = (fv 14).toInt := congrArg Int32.toInt ((fM_call (fM_rf [19, 20] _) fr_15 (by decide)) 14 rfl); have : (fv_45 14).toInt = (fv_22 14).toInt := congrArg Int32.toInt ((fM_call (fM_rf [] _) fr_48 (by decide)) 14 rfl); have : (fv_84 14).toInt = (fv_66 14).toInt := congrArg Int32.toInt ((fM_call (fM_rf [19, 20] _) fr_87 (by decide)) 14 rfl); have : (fv_97 14).toInt = (fv_84 14).toInt := congrArg Int32.toInt ((fM_call (fM_rf [16] _) fr_100 (by decide)) 14 rfl); have : (fv_12 17).toInt = (fv 17).toInt := congrArg Int32.toInt ((fM_call (fM_rf [19, 20] _) fr_15 (by decide)) 17 rfl); have : (fv_22 17).toInt = (fv_12 17).toInt := congrArg Int32.toInt ((fM_call (fM_rf [14, 16, 19, 20] _) fr_23 (by decide)) 17 rfl); have : (fv_45 17).toInt = (fv_22 17).toInt := congrArg Int32.toInt ((fM_call (fM_rf [] _) fr_48 (by decide)) 17 rfl); have : (fv_66 17).toInt = (fv_45 17).toInt := congrArg Int32.toInt ((fM_call (fM_rf [14] _) fr_69 (by decide)) 17 rfl); have : (fv_84 17).toInt = (fv_66 17).toInt := congrArg Int32.toInt ((fM_call (fM_rf [19, 20] _) fr_87 (by decide)) 17 rfl); have : (fv_97 17).toInt = (fv_84 17).toInt := congrArg Int32.toInt ((fM_call (fM_rf [16] _) fr_100 (by decide)) 17 rfl); have hp9 := p_82; omega) ((show fv_97 19 = fv_84 19 from ((fM_call (fM_rf [16] _) fr_100 (by decide)) 19 rfl)).trans ((p_81 (Int32.toInt_inj.mp (by rw [show (1 : Int32).toInt = 1 from (by decide)]; omega))).trans (show fv_66 19 = fv 19 from (show fv_66 19 = fv_22 19 from ((fM_call (fM_call (fM_rf [14] _) fr_48 (by decide)) fr_69 (by decide)) 19 rfl)).trans q_31))) (by have : (fv_12 14).toInt = (fv 14).toInt := congrArg Int32.toInt ((fM_call (fM_rf [19, 20] _) fr_15 (by decide)) 14 rfl); have : (fv_45 14).toInt = (fv_22 14).toInt := congrArg Int32.toInt ((fM_call (fM_rf [] _) fr_48 (by decide)) 14 rfl); have : (fv_84 14).toInt = (fv_66 14).toInt := congrArg Int32.toInt ((fM_call (fM_rf [19, 20] _) fr_87 (by decide)) 14 rfl); have : (fv_97 14).toInt = (fv_84 14).toInt := congrArg Int32.toInt ((fM_call (fM_rf [16] _) fr_100 (by decide)) 14 rfl); have : (fv_12 17).toInt = (fv 17).toInt := congrArg Int32.toInt ((fM_call (fM_rf [19, 20] _) fr_15 (by decide)) 17 rfl); have : (fv_22 17).toInt = (fv_12 17).toInt := congrArg Int32.toInt ((fM_call (fM_rf [14, 16, 19, 20] _) fr_23 (by decide)) 17 rfl); have : (fv_45 17).toInt = (fv_22 17).toInt := congrArg Int32.toInt ((fM_call (fM_rf [] _) fr_48 (by decide)) 17 rfl); have : (fv_66 17).toInt = (fv_45 17).toInt := congrArg Int32.toInt ((fM_call (fM_rf [14] _) fr_69 (by decide)) 17 rfl); have : (fv_84 17).toInt = (fv_66 17).toInt := congrArg Int32.toInt ((fM_call (fM_rf [19, 20] _) fr_87 (by decide)) 17 rfl); have : (fv_97 17).toInt = (fv_84 17).toInt := congrArg Int32.toInt ((fM_call (fM_rf [16] _) fr_100 (by decide)) 17 rfl); have hi9 := p_83 (Int32.toInt_inj.mp (by rw [show (1 : Int32).toInt = 1 from (by decide)]; omega)); omega) hP hS (lv_sub hl [1, 2, 0] rfl)
            · skip
              have i_106 : 0 ≤ r_78.toInt ∧ r_78.toInt ≤ 0 := iv_eq1 (⟨by decide, by decide⟩ : (0 : Int) ≤ (0 : Int32).toInt ∧ (0 : Int32).toInt ≤ 0) c_90
              refine lv_iconst (v := 0) hx hb dX3_readAll_40 (by decide) ?_
              have z_108 : (0 : Int32).toInt = 0 := by decide
              exact W.zret (v := 0) hx hb hr (by decide) (fun t ht hW => ⟨⟨0, (fv_84, wd_85, ar_86), rfl, ⟨hF_fv_84, hA_ar_86, (fM_call (fM_call (fM_call (fM_call (fM_call (fM_rf [14, 16, 19, 20] _) fr_15 (by decide)) fr_23 (by decide)) fr_48 (by decide)) fr_69 (by decide)) fr_87 (by decide)), (fA_call (fA_call (fA_call (fA_call (fA_call (fA_rf [41, 42, 43] _) fa_16 (by decide)) fa_25 (by decide)) fa_49 (by decide)) fa_70 (by decide)) fa_88 (by decide)), (wf_89.trans (wf_71.trans (wf_50.trans (wf_27.trans wf_17)))), (iv_w (⟨by decide, by decide⟩ : (0 : Int) ≤ (0 : Int32).toInt ∧ (0 : Int32).toInt ≤ 0) (by decide) (by decide)), (show ∀ r9 : List Bool, r9.length = 10 → rd_dn r9 = r9 → rd_x T9 S9 0 ((fv 14).toInt.toNat) ((fv 17).toInt.toNat) r9 (0 : Int32) (fv_84 19) (fv_84 20) (fv_84 14) (fv_84 17) from fun r9 hr hd => by have : (fv_12 14).toInt = (fv 14).toInt := congrArg Int32.toInt ((fM_call (fM_rf [19, 20] _) fr_15 (by decide)) 14 rfl); have : (fv_45 14).toInt = (fv_22 14).toInt := congrArg Int32.toInt ((fM_call (fM_rf [] _) fr_48 (by decide)) 14 rfl); have : (fv_84 14).toInt = (fv_66 14).toInt := congrArg Int32.toInt ((fM_call (fM_rf [19, 20] _) fr_87 (by decide)) 14 rfl); have : (fv_12 17).toInt = (fv 17).toInt := congrArg Int32.toInt ((fM_call (fM_rf [19, 20] _) fr_15 (by decide)) 17 rfl); have : (fv_22 17).toInt = (fv_12 17).toInt := congrArg Int32.toInt ((fM_call (fM_rf [14, 16, 19, 20] _) fr_23 (by decide)) 17 rfl); have : (fv_45 17).toInt = (fv_22 17).toInt := congrArg Int32.toInt ((fM_call (fM_rf [] _) fr_48 (by decide)) 17 rfl); have : (fv_66 17).toInt = (fv_45 17).toInt := congrArg Int32.toInt ((fM_call (fM_rf [14] _) fr_69 (by decide)) 17 rfl); have : (fv_84 17).toInt = (fv_66 17).toInt := congrArg Int32.toInt ((fM_call (fM_rf [19, 20] _) fr_87 (by decide)) 17 rfl); rcases p_80 r9 hr with ⟨a, b, q, o2, c, d⟩ | ⟨a, b⟩; exact Or.inl ⟨rfl, b, q, o2, (by rw [q_29 r9 hr hd, show (fv_22 14).toInt.toNat = (fv_22 14).toInt.toNat from (by omega), rd_m1_join (by omega) (Or.inl (by rw [← zj_51]; omega)) hd, show (fv_22 14).toInt.toNat + 1 = (fv_66 14).toInt.toNat from (by omega), show (fv_22 17).toInt.toNat = (fv_66 17).toInt.toNat from (by omega)]; exact c), d⟩; exact absurd (congrArg Int32.toInt a) (by rw [show (1 : Int32).toInt = 1 from (by decide)]; omega)), (show (0 : Int32) = 1 → fv_84 19 = fv 19 from fun w => absurd w (by decide)), (show (fv_84 14).toInt ≤ (c9 : Int) from by have : (fv_12 14).toInt = (fv 14).toInt := congrArg Int32.toInt ((fM_call (fM_rf [19, 20] _) fr_15 (by decide)) 14 rfl); have : (fv_45 14).toInt = (fv_22 14).toInt := congrArg Int32.toInt ((fM_call (fM_rf [] _) fr_48 (by decide)) 14 rfl); have : (fv_84 14).toInt = (fv_66 14).toInt := congrArg Int32.toInt ((fM_call (fM_rf [19, 20] _) fr_87 (by decide)) 14 rfl); have hp9 := p_82; omega), (show (0 : Int32) = 1 → (fv 17).toInt + 1 ≤ (fv_84 17).toInt from fun w => absurd w (by decide)), (show (0 : Int32) = 1 → ¬ T9 ((fv_84 14).toInt.toNat) = 24 from fun w => absurd w (by decide)), (eC_fr hp_28 (fM_call (fM_call (fM_call (fM_rf [14, 19, 20] _) fr_48 (by decide)) fr_69 (by decide)) fr_87 (by decide)) (fA_call (fA_call (fA_call (fA_rf [] _) fa_49 (by decide)) fa_70 (by decide)) fa_88 (by decide)) rfl rfl rfl), trivial⟩, ⟨by rw [ht]; exact hP, va_K.moved hW.alike hK⟩⟩, hS.F ht⟩) hS.2.2 dX3_readAll_41
    · skip
      have z_113 : (0 : Int32).toInt = 0 := by decide
      have z_114 : (fv_12 17).toInt = (fv 17).toInt := congrArg Int32.toInt ((fr_15 17 rfl))
      have z_115 : 0 ≤ (fv_12 17).toInt ∧ (fv_12 17).toInt ≤ 50 := hF_fv_12 17
      have z_116 : (fv_12 14).toInt = (fv 14).toInt := congrArg Int32.toInt ((fr_15 14 rfl))
      have z_117 : 0 ≤ (fv_12 14).toInt ∧ (fv_12 14).toInt ≤ 300 := hF_fv_12 14
      exact hj_35 51 0 fv_12 ar_14 wd_13 _ _ ls (by first | decide | omega) (iv_w (⟨by decide, by decide⟩ : (0 : Int) ≤ (0 : Int32).toInt ∧ (0 : Int32).toInt ≤ 0) (by decide) (by decide)) hF_fv_12 (fM_rf [14, 16, 19, 20] _) hA_ar_14 (fA_rf [41, 42, 43] _) rfl (eC_fr hp_eC (fM_call (fM_rf [19, 20] _) fr_15 (by decide)) (fA_call (fA_rf [] _) fa_16 (by decide)) rfl rfl rfl) (fun r9 hr hd => by have : (fv_12 14).toInt = (fv 14).toInt := congrArg Int32.toInt ((fM_call (fM_rf [19, 20] _) fr_15 (by decide)) 14 rfl); have : (fv_12 17).toInt = (fv 17).toInt := congrArg Int32.toInt ((fM_call (fM_rf [19, 20] _) fr_15 (by decide)) 17 rfl); rcases p_8 r9 hr with ⟨a, b, q, o2, c, d⟩ | ⟨a, b⟩; exact absurd (congrArg Int32.toInt a) (by rw [show (0 : Int32).toInt = 0 from (by decide)]; omega); exact b) (by have : (fv_12 14).toInt = (fv 14).toInt := congrArg Int32.toInt ((fM_call (fM_rf [19, 20] _) fr_15 (by decide)) 14 rfl); have : (fv_12 17).toInt = (fv 17).toInt := congrArg Int32.toInt ((fM_call (fM_rf [19, 20] _) fr_15 (by decide)) 17 rfl); have hp9 := p_10; omega) ((show fv_12 19 = fv_12 19 from rfl).trans ((p_9 (Int32.toInt_inj.mp (by rw [show (1 : Int32).toInt = 1 from (by decide)]; omega))).trans rfl)) (by have : (fv_12 14).toInt = (fv 14).toInt := congrArg Int32.toInt ((fM_call (fM_rf [19, 20] _) fr_15 (by decide)) 14 rfl); have : (fv_12 17).toInt = (fv 17).toInt := congrArg Int32.toInt ((fM_call (fM_rf [19, 20] _) fr_15 (by decide)) 17 rfl); have hi9 := p_11 (Int32.toInt_inj.mp (by rw [show (1 : Int32).toInt = 1 from (by decide)]; omega)); omega) hP hS (lv_sub hl [1, 2, 0] rfl)
  · skip
    have i_118 : 0 ≤ r_6.toInt ∧ r_6.toInt ≤ 0 := iv_eq1 (⟨by decide, by decide⟩ : (0 : Int) ≤ (0 : Int32).toInt ∧ (0 : Int32).toInt ≤ 0) c_18
    refine lv_iconst (v := 0) hx hb dX3_readAll_8 (by decide) ?_
    have z_120 : (0 : Int32).toInt = 0 := by decide
    exact W.zret (v := 0) hx hb hr (by decide) (fun t ht hW => ⟨⟨0, (fv_12, wd_13, ar_14), rfl, ⟨hF_fv_12, hA_ar_14, (fM_call (fM_rf [14, 16, 19, 20] _) fr_15 (by decide)), (fA_call (fA_rf [41, 42, 43] _) fa_16 (by decide)), wf_17, (iv_w (⟨by decide, by decide⟩ : (0 : Int) ≤ (0 : Int32).toInt ∧ (0 : Int32).toInt ≤ 0) (by decide) (by decide)), (show ∀ r9 : List Bool, r9.length = 10 → rd_dn r9 = r9 → rd_x T9 S9 0 ((fv 14).toInt.toNat) ((fv 17).toInt.toNat) r9 (0 : Int32) (fv_12 19) (fv_12 20) (fv_12 14) (fv_12 17) from fun r9 hr hd => by have : (fv_12 14).toInt = (fv 14).toInt := congrArg Int32.toInt ((fM_call (fM_rf [19, 20] _) fr_15 (by decide)) 14 rfl); have : (fv_12 17).toInt = (fv 17).toInt := congrArg Int32.toInt ((fM_call (fM_rf [19, 20] _) fr_15 (by decide)) 17 rfl); rcases p_8 r9 hr with ⟨a, b, q, o2, c, d⟩ | ⟨a, b⟩; exact Or.inl ⟨rfl, b, q, o2, c, d⟩; exact absurd (congrArg Int32.toInt a) (by rw [show (1 : Int32).toInt = 1 from (by decide)]; omega)), (show (0 : Int32) = 1 → fv_12 19 = fv 19 from fun w => absurd w (by decide)), (show (fv_12 14).toInt ≤ (c9 : Int) from by have : (fv_12 14).toInt = (fv 14).toInt := congrArg Int32.toInt ((fM_call (fM_rf [19, 20] _) fr_15 (by decide)) 14 rfl); have hp9 := p_10; omega), (show (0 : Int32) = 1 → (fv 17).toInt + 1 ≤ (fv_12 17).toInt from fun w => absurd w (by decide)), (show (0 : Int32) = 1 → ¬ T9 ((fv_12 14).toInt.toNat) = 24 from fun w => absurd w (by decide)), (eC_fr hp_eC (fM_call (fM_rf [19, 20] _) fr_15 (by decide)) (fA_call (fA_rf [] _) fa_16 (by decide)) rfl rfl rfl), trivial⟩, ⟨by rw [ht]; exact hP, va_K.moved hW.alike hK⟩⟩, hS.F ht⟩) hS.2.2 dX3_readAll_9
set_option maxHeartbeats 4000000 in
set_option maxRecDepth 100000 in
theorem x_readCondC_10 (l : Launch) (dC : Nat → ClassId) (dI : Nat → Nat → Nat) (sz : Nat) (ob ad : Nat → Nat) (cA : Nat → ClassId) (hd : dX ob ad) (fv : Nat → Int32) (wd : xT) (ar : Nat → Nat → Int32) (hF_fv : rX fv) (hA_ar : rB ar) (tA : Nat → Nat) (hto : tO tA wd.2.1) (T9 : Nat → Nat) (S9 : Nat → Nat) (N9 : Nat → Int) (c9 : Nat) (wi : Int32) (h_wi : 10 ≤ wi.toInt ∧ wi.toInt ≤ 10) (hcx : rd_cx tA T9 S9 N9 c9 wd.2.1 (ar 36) (ar 37)) (htc : (fv 13).toInt = (c9 : Int) + 1) (hpl : (fv 14).toInt ≤ (c9 : Int)) (h300 : c9 ≤ 300) (hT32 : ∀ k, T9 k < 32) (hfin : T9 c9 = 30 ∨ T9 c9 = 31) (hp_eC : eC fv ar) : Met l yX3_readCond (.code yX3_readCond cX3_readCond 3 (some .boolean) :: lw_good) ({ frames := 5, cells := 0, slots := 0, locals := 107 }) (va_Pc [.ref (ob 6), .int wi] (fun U => prX dC dI ob ad cA fv wd ar sz U ∧ tkA ob ad tA sz U)) (va_Qi (fun (r : Int32) (u : xS) => rX u.1 ∧ rB u.2.2 ∧ fM [14, 16, 19, 20] fv u.1 ∧ fA [41, 42, 43] ar u.2.2 ∧ u.2.1.2 = wd.2 ∧ (0 ≤ r.toInt ∧ r.toInt ≤ 1) ∧ (∀ r9 : List Bool, r9.length = 10 → rd_dn r9 = r9 → rd_x T9 S9 0 ((fv 14).toInt.toNat) ((fv 17).toInt.toNat) r9 r (u.1 19) (u.1 20) (u.1 14) (u.1 17)) ∧ (r = 1 → u.1 19 = fv 19) ∧ ((u.1 14).toInt ≤ (c9 : Int)) ∧ (r = 1 → (fv 17).toInt + 1 ≤ (u.1 17).toInt) ∧ (r = 1 → ¬ (T9 ((u.1 14).toInt.toNat) = 24 ∨ T9 ((u.1 14).toInt.toNat) = 25)) ∧ (eC u.1 u.2.2) ∧ True) (enX dC dI ob ad cA) (aX ob ad sz)) 0 0 (aX ob ad sz) := by
  refine Met.ofW (cc := cX3_readCond) (maxL := 3) (ret := (some .boolean)) (by decide) rfl ?_
  intro p e s m args below meth c s₁ B hml hv
  obtain ⟨rfl, ⟨hsz, hP, hK⟩, hE⟩ := hv
  have hx := B.exec
  have hb := B.bytes
  have hr := B.returns
  have hts := atoms_spec (ws := (.code yX3_readCond cX3_readCond 3 (some .boolean) :: lw_good)) B.pre
  have htg : ∀ w ∈ lw_good, w.before _ s = true := fun w hw => hts w (List.mem_cons_of_mem _ hw)
  have hown : s.vm.findClass RX3 = some m.cls := findClass_of_methodNamed B.named
  have hlocks := B.notSynchronized
  subst hsz
  have hS : va_S (aX ob ad s.heap.size) s.heap s.heap [] := va_S.rf
  have hl := lv_entry ([.ref (ob 6), .int wi]) (n := 3) (Nat.le_of_ble_eq_true rfl)
  rw [lg_entry_eq]
  generalize (lg_sl ([.ref (ob 6), .int wi]) ++ List.replicate (3 - (lg_sl ([.ref (ob 6), .int wi])).length) Slot.unset).toArray = ls at hl ⊢
  have hl : lv_has ls 3 [(0, .ref (ob 6)), (1, .int wi)] := hl
  have i_1 : 0 ≤ (fv 14).toInt ∧ (fv 14).toInt ≤ 300 := (by have h9 := hF_fv 14; have h8 : 0 ≤ (fv 14).toInt := h9.1; omega)
  refine lv_aload_n hx hb dX3_readCond_0 rfl (lv_at hl 0 rfl) ?_
  refine lv_iload_n hx hb dX3_readCond_1 rfl (lv_at hl 1 rfl) ?_
  have z_2 : 0 ≤ (fv 13).toInt ∧ (fv 13).toInt ≤ 301 := hF_fv 13
  have z_3 : 0 ≤ (fv 14).toInt ∧ (fv 14).toInt ≤ 300 := hF_fv 14
  have z_4 : 0 ≤ (fv 14).toInt ∧ (fv 14).toInt ≤ 300 := hF_fv 14
  have z_5 : 0 ≤ (fv 17).toInt ∧ (fv 17).toInt ≤ 50 := hF_fv 17
  refine va_calli (va_runV (As := [.int wi]) (rest := []) ⟨hx, hb, hml, hown, hts⟩ (x_readAllC_10 l dC dI s.heap.size ob ad cA hd fv wd ar hF_fv hA_ar tA hto T9 S9 N9 c9 wi h_wi hcx (by omega) (by omega) h300 hT32 hfin hp_eC) (cwV 1 hts (gV kw_4_140 kw_4_142 kw_p_12 kw_1_11 kw_4_143) rfl rfl rfl (by decide +kernel) ⟨Nat.le_of_ble_eq_true rfl, Nat.le_of_ble_eq_true rfl⟩) ⟨fun a U g mk q => ⟨q.1, ⟨q.2.1.1, q.2.1.2.1, va_K.moved (u := U) (U := U.calling g mk a) (Vm.Alike.refl U.vm) q.2.1.2.2⟩, tk_mv (U := U.calling g mk a) rfl (Vm.Alike.refl U.vm) q.2.2⟩, va_recv hK hP (ci := 4) (q0 := 6) rfl rfl, fun U hU hW => ⟨rfl, ⟨by rw [hU], by rw [hU]; exact hP, va_K.moved hW.alike hK⟩, tk_pass hE hS hU hW.alike⟩⟩ rfl rfl hl.1 rfl (lv_room (Nat.le_of_ble_eq_true rfl)) dX3_readCond_2 ⟨Nat.le_of_ble_eq_true rfl, Nat.le_of_ble_eq_true rfl⟩) hS (fun q _ h9 => aX_up hS q h9) (aX_up hS) (fun r_6 u t H1 locs ht _ hw hB _ hk1 hS => ?_)
  obtain ⟨fv_14, wd_15, ar_16⟩ := u
  obtain ⟨hF_fv_14, hA_ar_16, fr_17, fa_18, wf_19, p_7, p_8, p_9, p_10, p_11, p_12, p_13, -⟩ := hw
  have wf_19 : wd_15.2 = wd.2 := wf_19
  have hP : va_P (dC, dI) vwCl (wsX ob ad cA fv_14 wd_15 ar_16) H1 := by have h9 := hB.1; rw [ht] at h9; exact h9
  have fr_17 : fM [14, 16, 19, 20] fv fv_14 := fr_17
  have fa_18 : fA [41, 42, 43] ar ar_16 := fa_18
  have p_13 : eC fv_14 ar_16 := p_13
  have p_8 : ∀ r9 : List Bool, r9.length = 10 → rd_dn r9 = r9 → rd_x T9 S9 0 ((fv 14).toInt.toNat) ((fv 17).toInt.toNat) r9 r_6 (fv_14 19) (fv_14 20) (fv_14 14) (fv_14 17) := p_8
  have p_9 : r_6 = 1 → fv_14 19 = fv 19 := p_9
  have p_10 : (fv_14 14).toInt ≤ (c9 : Int) := p_10
  have p_11 : r_6 = 1 → (fv 17).toInt + 1 ≤ (fv_14 17).toInt := p_11
  have p_12 : r_6 = 1 → ¬ T9 ((fv_14 14).toInt.toNat) = 24 := p_12
  generalize H1 = H at hP hS ⊢
  refine lv_if_ne (tgt := 10) hx hb dX3_readCond_5 (by decide) (fun c_20 => ?_) (fun c_20 => ?_)
  · skip
    have i_21 : 1 ≤ r_6.toInt ∧ r_6.toInt ≤ 1 := iv_nel p_7 (by decide) c_20
    have k_22 : ¬ r_6.toInt = 0 := fun q => c_20 (Int32.toInt_inj.mp q)
    refine lv_iconst (v := 0) hx hb dX3_readCond_10 (by decide) ?_
    refine lv_istore_n (lv' := [(2, .int 0), (0, .ref (ob 6)), (1, .int wi)]) hx hb dX3_readCond_11 rfl hl (by decide) rfl (fun ls hl => ?_)
    refine my_cut (P := fun R9 a9 Q9 => ∀ (n_36 : Nat) (x_23 : Int32) (fv_24 : Nat → Int32) (ar_26 : Nat → Nat → Int32) (wd_28 : xT) (H : Heap) (locs : List Loc) (ls : Array Slot), 50 - x_23.toInt < (n_36 : Int) → (0 ≤ x_23.toInt ∧ x_23.toInt ≤ 50) → rX fv_24 → fM [14, 16, 19, 20] fv_14 fv_24 → rB ar_26 → fA [41, 42, 43] ar_16 ar_26 → wd_28.2 = wd_15.2 → eC fv_24 ar_26 → (∀ r9 : List Bool, r9.length = 10 → rd_dn r9 = r9 → rd_m T9 0 ((fv 14).toInt.toNat) ((fv 17).toInt.toNat) r9 = rd_m T9 1 ((fv_24 14).toInt.toNat) ((fv_24 17).toInt.toNat) r9) → ((fv_24 14).toInt ≤ (c9 : Int)) → (fv_24 19 = fv 19) → (x_23.toInt + (fv 17).toInt + 1 ≤ (fv_24 17).toInt) → (¬ T9 ((fv_24 14).toInt.toNat) = 24) → va_P (dC, dI) vwCl (wsX ob ad cA fv_24 wd_28 ar_26) H → va_S (aX ob ad s.heap.size) s.heap H locs → lv_has ls 3 [(0, .ref (ob 6)), (1, .int wi), (2, .int x_23)] → W p l e R9 s m a9 below meth c H locs 0 0 Q9 (F0 m 12 ls [])) ?_ (fun hj_38 => ?_)
    · intro n_36
      induction n_36 with
      | zero => intro x_23 fv_24 ar_26 wd_28 H locs ls fu_37 i_x_23 hF_fv_24 fr_25 hA_ar_26 fa_27 wf_29 hp_30 q_31 q_32 q_33 q_34 q_35; exfalso; omega
      | succ n_36 ih_36 =>
        intro x_23 fv_24 ar_26 wd_28 H locs ls fu_37 i_x_23 hF_fv_24 fr_25 hA_ar_26 fa_27 wf_29 hp_30 q_31 q_32 q_33 q_34 q_35 hP hS hl
        refine lv_iload_n hx hb dX3_readCond_12 rfl (lv_at hl 2 rfl) ?_
        refine lv_bipush (v := 50) hx hb dX3_readCond_13 (by decide) ?_
        have z_39 : (fv_24 17).toInt = (fv 17).toInt := congrArg Int32.toInt ((fr_25 17 rfl).trans ((fr_17 17 rfl)))
        have z_40 : 0 ≤ (fv_24 17).toInt ∧ (fv_24 17).toInt ≤ 50 := hF_fv_24 17
        have z_41 : 0 ≤ (fv_24 14).toInt ∧ (fv_24 14).toInt ≤ 300 := hF_fv_24 14
        have z50 : (50 : Int32).toInt = 50 := by decide
        refine lv_icmp_ge (tgt := 56) hx hb dX3_readCond_15 (by decide) (fun c_42 => ?_) (fun c_42 => ?_)
        · skip
          exact absurd True.intro (by have h9 := Int32.le_iff_toInt_le.mp c_42; exfalso; omega)
        · skip
          have i_43 : 0 ≤ x_23.toInt ∧ x_23.toInt ≤ 49 := iv_lt1 i_x_23 (⟨by decide, by decide⟩ : (50 : Int) ≤ (50 : Int32).toInt ∧ (50 : Int32).toInt ≤ 50) (Int32.not_le.mp c_42)
          refine lv_aload_n hx hb dX3_readCond_18 rfl (lv_at hl 0 rfl) ?_
          have z_44 : (fv_24 13).toInt = (fv 13).toInt := congrArg Int32.toInt ((fr_25 13 rfl).trans ((fr_17 13 rfl)))
          have z_45 : 0 ≤ (fv_24 13).toInt ∧ (fv_24 13).toInt ≤ 301 := hF_fv_24 13
          have z_46 : 0 ≤ (fv_24 14).toInt ∧ (fv_24 14).toInt ≤ 300 := hF_fv_24 14
          refine va_callr (va_runV (As := []) (rest := []) ⟨hx, hb, hml, hown, hts⟩ (x_tokenC l dC dI H.size ob ad cA hd fv_24 wd_28 ar_26 hF_fv_24 hA_ar_26 tA (tO_w hto (wf_29.trans wf_19)) T9 S9 N9 c9 (rd_cx_eq hcx (congrArg (fun z => z.1) (wf_29.trans wf_19)) ((fA_call (fA_call (fA_rf [41, 42, 43] _) fa_18 (by decide)) fa_27 (by decide)) 36 rfl) ((fA_call (fA_call (fA_rf [41, 42, 43] _) fa_18 (by decide)) fa_27 (by decide)) 37 rfl)) (by omega) (by omega) h300 hT32 hfin) (cwV 0 hts (gV kw_4_102 kw_4_104 kw_p_4 kw_1_11 kw_4_105) rfl rfl rfl (by decide +kernel) ⟨Nat.le_of_ble_eq_true rfl, Nat.le_of_ble_eq_true rfl⟩) ⟨fun a U g mk q => ⟨q.1, ⟨q.2.1.1, q.2.1.2.1, va_K.moved (u := U) (U := U.calling g mk a) (Vm.Alike.refl U.vm) q.2.1.2.2⟩, tk_mv (U := U.calling g mk a) rfl (Vm.Alike.refl U.vm) q.2.2⟩, va_recv hK hP (ci := 4) (q0 := 6) rfl rfl, fun U hU hW => ⟨rfl, ⟨by rw [hU], by rw [hU]; exact hP, va_K.moved hW.alike hK⟩, tk_pass hE hS hU hW.alike⟩⟩ rfl rfl hl.1 rfl (lv_room (Nat.le_of_ble_eq_true rfl)) dX3_readCond_19 ⟨Nat.le_of_ble_eq_true rfl, Nat.le_of_ble_eq_true rfl⟩) hS (fun q _ h9 => aX_up hS q h9) (aX_up hS) (fun u r_47 t H1 locs ht _ hw hB _ hk1 hS => ?_)
          obtain ⟨fv_48, wd_49, ar_50⟩ := u
          obtain ⟨hF_fv_48, hA_ar_50, fr_51, fa_52, wf_53, -⟩ := hw
          have wf_53 : wd_49.2 = wd_28.2 := wf_53
          have hP : va_P (dC, dI) vwCl (wsX ob ad cA fv_48 wd_49 ar_50) H1 := by have h9 := hB.1.1; rw [ht] at h9; exact h9
          have fr_51 : fM [] fv_24 fv_48 := fr_51
          have fa_52 : fA [] ar_26 ar_50 := fa_52
          generalize H1 = H at hP hS ⊢
          obtain ⟨j_54, lj_54, rj_54, zj_54⟩ := hB.2
          subst rj_54
          refine va_gets hx hb (hE.1 25 (by decide)).1 hS hown (htg (.fieldLink RX3 196 "WalkingTown$Token" "OR" "LWalkingTown$Token;") kw_4_162) (fun _ h9 => h9) dX3_readCond_22 ?_
          refine lv_acmp_ne (rx := some (tA j_54)) (ry := some (tA 25)) (tgt := 56) hx hb dX3_readCond_25 (by decide) (fun c_55 => ?_) (fun c_55 => ?_)
          · skip
            have k_56 : ¬ j_54 = 25 := fun w => c_55 (by rw [w])
            refine lv_iconst (v := 1) hx hb dX3_readCond_56 (by decide) ?_
            have z_57 : (1 : Int32).toInt = 1 := by decide
            exact W.zret (v := 1) hx hb hr (by decide) (fun t ht hW => ⟨⟨1, (fv_48, wd_49, ar_50), rfl, ⟨hF_fv_48, hA_ar_50, (fM_call (fM_call (fM_call (fM_rf [14, 16, 19, 20] _) fr_17 (by decide)) fr_25 (by decide)) fr_51 (by decide)), (fA_call (fA_call (fA_call (fA_rf [41, 42, 43] _) fa_18 (by decide)) fa_27 (by decide)) fa_52 (by decide)), (wf_53.trans (wf_29.trans wf_19)), (iv_w (⟨by decide, by decide⟩ : (1 : Int) ≤ (1 : Int32).toInt ∧ (1 : Int32).toInt ≤ 1) (by decide) (by decide)), (show ∀ r9 : List Bool, r9.length = 10 → rd_dn r9 = r9 → rd_x T9 S9 0 ((fv 14).toInt.toNat) ((fv 17).toInt.toNat) r9 (1 : Int32) (fv_48 19) (fv_48 20) (fv_48 14) (fv_48 17) from fun r9 hr hd => by have : (fv_48 14).toInt = (fv_24 14).toInt := congrArg Int32.toInt ((fM_call (fM_rf [] _) fr_51 (by decide)) 14 rfl); have : (fv_14 17).toInt = (fv 17).toInt := congrArg Int32.toInt ((fM_call (fM_rf [14, 16, 19, 20] _) fr_17 (by decide)) 17 rfl); have : (fv_24 17).toInt = (fv_14 17).toInt := congrArg Int32.toInt ((fM_call (fM_rf [14, 16, 19, 20] _) fr_25 (by decide)) 17 rfl); have : (fv_48 17).toInt = (fv_24 17).toInt := congrArg Int32.toInt ((fM_call (fM_rf [] _) fr_51 (by decide)) 17 rfl); exact rd_xO (by rw [show fv_48 14 = fv_24 14 from ((fM_call (fM_rf [] _) fr_51 (by decide)) 14 rfl), show fv_48 17 = fv_24 17 from ((fM_call (fM_rf [] _) fr_51 (by decide)) 17 rfl)]; exact q_31 r9 hr hd)), (show (1 : Int32) = 1 → fv_48 19 = fv 19 from fun _ => (show fv_48 19 = fv_24 19 from ((fM_call (fM_rf [] _) fr_51 (by decide)) 19 rfl)).trans q_33), (show (fv_48 14).toInt ≤ (c9 : Int) from by have : (fv_48 14).toInt = (fv_24 14).toInt := congrArg Int32.toInt ((fM_call (fM_rf [] _) fr_51 (by decide)) 14 rfl); have hp9 := p_10; omega), (show (1 : Int32) = 1 → (fv 17).toInt + 1 ≤ (fv_48 17).toInt from fun _ => by have : (fv_14 17).toInt = (fv 17).toInt := congrArg Int32.toInt ((fM_call (fM_rf [14, 16, 19, 20] _) fr_17 (by decide)) 17 rfl); have : (fv_24 17).toInt = (fv_14 17).toInt := congrArg Int32.toInt ((fM_call (fM_rf [14, 16, 19, 20] _) fr_25 (by decide)) 17 rfl); have : (fv_48 17).toInt = (fv_24 17).toInt := congrArg Int32.toInt ((fM_call (fM_rf [] _) fr_51 (by decide)) 17 rfl); omega), (show (1 : Int32) = 1 → ¬ (T9 ((fv_48 14).toInt.toNat) = 24 ∨ T9 ((fv_48 14).toInt.toNat) = 25) from fun _ => by have : (fv_48 14).toInt = (fv_24 14).toInt := congrArg Int32.toInt ((fM_call (fM_rf [] _) fr_51 (by decide)) 14 rfl); have hq9 : ¬ T9 ((fv_48 14).toInt.toNat) = 24 := (by rw [show (fv_48 14).toInt.toNat = (fv_24 14).toInt.toNat from (by omega)]; exact q_35); have hz9 : ¬ T9 ((fv_48 14).toInt.toNat) = 25 := (by rw [show (fv_48 14).toInt.toNat = (fv_24 14).toInt.toNat from (by omega), ← zj_54]; omega); omega), (eC_fr hp_30 (fM_call (fM_rf [] _) fr_51 (by decide)) (fA_call (fA_rf [] _) fa_52 (by decide)) rfl rfl rfl), trivial⟩, ⟨by rw [ht]; exact hP, va_K.moved hW.alike hK⟩⟩, hS.F ht⟩) hS.2.2 dX3_readCond_57
          · skip
            have k_58 : j_54 = 25 := hE.2 j_54 25 lj_54 (by decide) (Option.some.inj c_55)
            refine lv_aload_n hx hb dX3_readCond_28 rfl (lv_at hl 0 rfl) ?_
            have z_59 : (fv_48 13).toInt = (fv 13).toInt := congrArg Int32.toInt ((fr_51 13 rfl).trans ((fr_25 13 rfl).trans ((fr_17 13 rfl))))
            have z_60 : 0 ≤ (fv_48 13).toInt ∧ (fv_48 13).toInt ≤ 301 := hF_fv_48 13
            have z_61 : (fv_48 14).toInt = (fv_24 14).toInt := congrArg Int32.toInt ((fr_51 14 rfl))
            have z_62 : 0 ≤ (fv_48 14).toInt ∧ (fv_48 14).toInt ≤ 300 := hF_fv_48 14
            have z_63 : (fv_48 13).toInt = (fv 13).toInt := congrArg Int32.toInt ((fr_51 13 rfl).trans ((fr_25 13 rfl).trans ((fr_17 13 rfl))))
            have z_64 : 0 ≤ (fv_48 13).toInt ∧ (fv_48 13).toInt ≤ 301 := hF_fv_48 13
            have z_65 : (fv_48 14).toInt = (fv_24 14).toInt := congrArg Int32.toInt ((fr_51 14 rfl))
            have z_66 : 0 ≤ (fv_48 14).toInt ∧ (fv_48 14).toInt ≤ 300 := hF_fv_48 14
            refine va_callv (va_runV (As := []) (rest := []) ⟨hx, hb, hml, hown, hts⟩ (x_stepC l dC dI H.size ob ad cA hd fv_48 wd_49 ar_50 hF_fv_48 hA_ar_50 (by have h9 := rd_lt hfin (p := (fv_24 14).toInt.toNat) (by omega) (by rw [← zj_54]; omega); omega)) (cwV 0 hts (gV kw_4_116 kw_4_118 kw_p_7 kw_1_11 kw_4_119) rfl rfl rfl (by decide +kernel) ⟨Nat.le_of_ble_eq_true rfl, Nat.le_of_ble_eq_true rfl⟩) ⟨fun a U g mk q => ⟨q.1, q.2.1, q.2.2.1, va_K.moved (u := U) (U := U.calling g mk a) (Vm.Alike.refl U.vm) q.2.2.2⟩, va_recv hK hP (ci := 4) (q0 := 6) rfl rfl, fun U hU hW => ⟨rfl, by rw [hU], by rw [hU]; exact hP, va_K.moved hW.alike hK⟩⟩ rfl rfl hl.1 rfl (lv_room (Nat.le_of_ble_eq_true rfl)) dX3_readCond_29 ⟨Nat.le_of_ble_eq_true rfl, Nat.le_of_ble_eq_true rfl⟩) hS (fun q _ h9 => aX_up hS q h9) (aX_up hS) (fun u t H1 locs ht _ hw hB _ hk1 hS => ?_)
            obtain ⟨fv_69, wd_70, ar_71⟩ := u
            obtain ⟨hF_fv_69, hA_ar_71, fr_72, fa_73, wf_74, p_68, -⟩ := hw
            have wf_74 : wd_70.2 = wd_49.2 := wf_74
            have hP : va_P (dC, dI) vwCl (wsX ob ad cA fv_69 wd_70 ar_71) H1 := by have h9 := hB.1; rw [ht] at h9; exact h9
            have fr_72 : fM [14] fv_48 fv_69 := fr_72
            have fa_73 : fA [] ar_50 ar_71 := fa_73
            have p_68 : (fv_69 14).toInt = (fv_48 14).toInt + 1 ∧ (fv_69 14).toInt ≤ (fv_48 13).toInt - 1 := p_68
            generalize H1 = H at hP hS ⊢
            refine lv_aload_n hx hb dX3_readCond_32 rfl (lv_at hl 0 rfl) ?_
            refine lv_iload_n hx hb dX3_readCond_33 rfl (lv_at hl 1 rfl) ?_
            have z_75 : (fv_69 13).toInt = (fv 13).toInt := congrArg Int32.toInt ((fr_72 13 rfl).trans ((fr_51 13 rfl).trans ((fr_25 13 rfl).trans ((fr_17 13 rfl)))))
            have z_76 : 0 ≤ (fv_69 13).toInt ∧ (fv_69 13).toInt ≤ 301 := hF_fv_69 13
            have z_77 : 0 ≤ (fv_69 14).toInt ∧ (fv_69 14).toInt ≤ 300 := hF_fv_69 14
            have z_78 : 0 ≤ (fv_69 14).toInt ∧ (fv_69 14).toInt ≤ 300 := hF_fv_69 14
            have z_79 : (fv_69 17).toInt = (fv 17).toInt := congrArg Int32.toInt ((fr_72 17 rfl).trans ((fr_51 17 rfl).trans ((fr_25 17 rfl).trans ((fr_17 17 rfl)))))
            have z_80 : 0 ≤ (fv_69 17).toInt ∧ (fv_69 17).toInt ≤ 50 := hF_fv_69 17
            refine va_calli (va_runV (As := [.int wi]) (rest := []) ⟨hx, hb, hml, hown, hts⟩ (x_readAllC_10 l dC dI H.size ob ad cA hd fv_69 wd_70 ar_71 hF_fv_69 hA_ar_71 tA (tO_w hto (wf_74.trans (wf_53.trans (wf_29.trans wf_19)))) T9 S9 N9 c9 wi h_wi (rd_cx_eq hcx (congrArg (fun z => z.1) (wf_74.trans (wf_53.trans (wf_29.trans wf_19)))) ((fA_call (fA_call (fA_call (fA_call (fA_rf [41, 42, 43] _) fa_18 (by decide)) fa_27 (by decide)) fa_52 (by decide)) fa_73 (by decide)) 36 rfl) ((fA_call (fA_call (fA_call (fA_call (fA_rf [41, 42, 43] _) fa_18 (by decide)) fa_27 (by decide)) fa_52 (by decide)) fa_73 (by decide)) 37 rfl)) (by omega) (by omega) h300 hT32 hfin (eC_fr hp_30 (fM_call (fM_call (fM_rf [14] _) fr_51 (by decide)) fr_72 (by decide)) (fA_call (fA_call (fA_rf [] _) fa_52 (by decide)) fa_73 (by decide)) rfl rfl rfl)) (cwV 1 hts (gV kw_4_140 kw_4_142 kw_p_12 kw_1_11 kw_4_143) rfl rfl rfl (by decide +kernel) ⟨Nat.le_of_ble_eq_true rfl, Nat.le_of_ble_eq_true rfl⟩) ⟨fun a U g mk q => ⟨q.1, ⟨q.2.1.1, q.2.1.2.1, va_K.moved (u := U) (U := U.calling g mk a) (Vm.Alike.refl U.vm) q.2.1.2.2⟩, tk_mv (U := U.calling g mk a) rfl (Vm.Alike.refl U.vm) q.2.2⟩, va_recv hK hP (ci := 4) (q0 := 6) rfl rfl, fun U hU hW => ⟨rfl, ⟨by rw [hU], by rw [hU]; exact hP, va_K.moved hW.alike hK⟩, tk_pass hE hS hU hW.alike⟩⟩ rfl rfl hl.1 rfl (lv_room (Nat.le_of_ble_eq_true rfl)) dX3_readCond_34 ⟨Nat.le_of_ble_eq_true rfl, Nat.le_of_ble_eq_true rfl⟩) hS (fun q _ h9 => aX_up hS q h9) (aX_up hS) (fun r_81 u t H1 locs ht _ hw hB _ hk1 hS => ?_)
            obtain ⟨fv_89, wd_90, ar_91⟩ := u
            obtain ⟨hF_fv_89, hA_ar_91, fr_92, fa_93, wf_94, p_82, p_83, p_84, p_85, p_86, p_87, p_88, -⟩ := hw
            have wf_94 : wd_90.2 = wd_70.2 := wf_94
            have hP : va_P (dC, dI) vwCl (wsX ob ad cA fv_89 wd_90 ar_91) H1 := by have h9 := hB.1; rw [ht] at h9; exact h9
            have fr_92 : fM [14, 16, 19, 20] fv_69 fv_89 := fr_92
            have fa_93 : fA [41, 42, 43] ar_71 ar_91 := fa_93
            have p_88 : eC fv_89 ar_91 := p_88
            have p_83 : ∀ r9 : List Bool, r9.length = 10 → rd_dn r9 = r9 → rd_x T9 S9 0 ((fv_69 14).toInt.toNat) ((fv_69 17).toInt.toNat) r9 r_81 (fv_89 19) (fv_89 20) (fv_89 14) (fv_89 17) := p_83
            have p_84 : r_81 = 1 → fv_89 19 = fv_69 19 := p_84
            have p_85 : (fv_89 14).toInt ≤ (c9 : Int) := p_85
            have p_86 : r_81 = 1 → (fv_69 17).toInt + 1 ≤ (fv_89 17).toInt := p_86
            have p_87 : r_81 = 1 → ¬ T9 ((fv_89 14).toInt.toNat) = 24 := p_87
            generalize H1 = H at hP hS ⊢
            refine lv_if_ne (tgt := 42) hx hb dX3_readCond_37 (by decide) (fun c_95 => ?_) (fun c_95 => ?_)
            · skip
              have i_96 : 1 ≤ r_81.toInt ∧ r_81.toInt ≤ 1 := iv_nel p_82 (by decide) c_95
              have k_97 : ¬ r_81.toInt = 0 := fun q => c_95 (Int32.toInt_inj.mp q)
              refine lv_aload_n hx hb dX3_readCond_42 rfl (lv_at hl 0 rfl) ?_
              refine lv_iconst (v := 5) hx hb dX3_readCond_43 (by decide) ?_
              refine lv_iconst (v := 0) hx hb dX3_readCond_44 (by decide) ?_
              refine lv_iconst (v := 0) hx hb dX3_readCond_45 (by decide) ?_
              refine va_calli (va_runV (As := [.int 5, .int 0, .int 0]) (rest := []) ⟨hx, hb, hml, hown, hts⟩ (x_addCode l dC dI H.size ob ad cA hd fv_89 wd_90 ar_91 hF_fv_89 hA_ar_91 5 0 0 (iv_w (⟨by decide, by decide⟩ : (0 : Int) ≤ (0 : Int32).toInt ∧ (0 : Int32).toInt ≤ 0) (by decide) (by decide)) p_88) (cwV 3 hts (gV kw_4_150 kw_4_152 kw_p_14 kw_1_11 kw_4_153) rfl rfl rfl (by decide +kernel) ⟨Nat.le_of_ble_eq_true rfl, Nat.le_of_ble_eq_true rfl⟩) ⟨fun a U g mk q => ⟨q.1, q.2.1, q.2.2.1, va_K.moved (u := U) (U := U.calling g mk a) (Vm.Alike.refl U.vm) q.2.2.2⟩, va_recv hK hP (ci := 4) (q0 := 6) rfl rfl, fun U hU hW => ⟨rfl, by rw [hU], by rw [hU]; exact hP, va_K.moved hW.alike hK⟩⟩ rfl rfl hl.1 rfl (lv_room (Nat.le_of_ble_eq_true rfl)) dX3_readCond_46 ⟨Nat.le_of_ble_eq_true rfl, Nat.le_of_ble_eq_true rfl⟩) hS (fun q _ h9 => aX_up hS q h9) (aX_up hS) (fun r_98 u t H1 locs ht _ hw hB _ hk1 hS => ?_)
              obtain ⟨fv_102, wd_103, ar_104⟩ := u
              obtain ⟨hF_fv_102, hA_ar_104, fr_105, fa_106, wf_107, p_99, p_100, p_101, -⟩ := hw
              have wf_107 : wd_103.2 = wd_90.2 := wf_107
              have hP : va_P (dC, dI) vwCl (wsX ob ad cA fv_102 wd_103 ar_104) H1 := by have h9 := hB.1; rw [ht] at h9; exact h9
              have fr_105 : fM [16] fv_89 fv_102 := fr_105
              have fa_106 : fA [41, 42, 43] ar_91 ar_104 := fa_106
              have p_101 : eC fv_102 ar_104 := p_101
              generalize H1 = H at hP hS ⊢
              rcases p_100 with ⟨rfl, p_100⟩
              · skip
                refine lv_pop hx hb dX3_readCond_49 rfl ?_
                obtain ⟨v_108, ev_108⟩ : ∃ z : Int32, z = x_23 + 1 := ⟨_, rfl⟩
                refine lv_iinc (v := v_108) (lv' := [(2, .int v_108), (0, .ref (ob 6)), (1, .int wi)]) hx hb dX3_readCond_50 hl (k := 2) rfl (by rw [ev_108]; rfl) (by decide) rfl (fun ls hl => ?_)
                have t_109 : v_108.toInt = x_23.toInt + 1 ∧ 1 ≤ v_108.toInt ∧ v_108.toInt ≤ 50 := iv_addc ev_108 i_43 (by decide) (by decide) (by decide)
                refine lv_goto (tgt := 12) hx hb dX3_readCond_53 (by decide) ?_
                have z_114 : (fv_102 17).toInt = (fv 17).toInt := congrArg Int32.toInt ((fr_105 17 rfl).trans ((fr_92 17 rfl).trans ((fr_72 17 rfl).trans ((fr_51 17 rfl).trans ((fr_25 17 rfl).trans ((fr_17 17 rfl)))))))
                have z_115 : 0 ≤ (fv_102 17).toInt ∧ (fv_102 17).toInt ≤ 50 := hF_fv_102 17
                have z_116 : (fv_102 14).toInt = (fv_89 14).toInt := congrArg Int32.toInt ((fr_105 14 rfl))
                have z_117 : 0 ≤ (fv_102 14).toInt ∧ (fv_102 14).toInt ≤ 300 := hF_fv_102 14
                exact ih_36 v_108 fv_102 ar_104 wd_103 _ _ ls (by omega) (iv_w t_109.2 (by decide) (by decide)) hF_fv_102 (fM_call (fM_call (fM_call (fM_call (fM_call (fM_rf [14, 16, 19, 20] _) fr_25 (by decide)) fr_51 (by decide)) fr_72 (by decide)) fr_92 (by decide)) fr_105 (by decide)) hA_ar_104 (fA_call (fA_call (fA_call (fA_call (fA_call (fA_rf [41, 42, 43] _) fa_27 (by decide)) fa_52 (by decide)) fa_73 (by decide)) fa_93 (by decide)) fa_106 (by decide)) (wf_107.trans (wf_94.trans (wf_74.trans (wf_53.trans wf_29)))) p_101 (fun r9 hr hd => by have : (fv_48 14).toInt = (fv_24 14).toInt := congrArg Int32.toInt ((fM_call (fM_rf [] _) fr_51 (by decide)) 14 rfl); have : (fv_102 14).toInt = (fv_89 14).toInt := congrArg Int32.toInt ((fM_call (fM_rf [16] _) fr_105 (by decide)) 14 rfl); have : (fv_14 17).toInt = (fv 17).toInt := congrArg Int32.toInt ((fM_call (fM_rf [14, 16, 19, 20] _) fr_17 (by decide)) 17 rfl); have : (fv_24 17).toInt = (fv_14 17).toInt := congrArg Int32.toInt ((fM_call (fM_rf [14, 16, 19, 20] _) fr_25 (by decide)) 17 rfl); have : (fv_48 17).toInt = (fv_24 17).toInt := congrArg Int32.toInt ((fM_call (fM_rf [] _) fr_51 (by decide)) 17 rfl); have : (fv_69 17).toInt = (fv_48 17).toInt := congrArg Int32.toInt ((fM_call (fM_rf [14] _) fr_72 (by decide)) 17 rfl); have : (fv_89 17).toInt = (fv_69 17).toInt := congrArg Int32.toInt ((fM_call (fM_rf [14, 16, 19, 20] _) fr_92 (by decide)) 17 rfl); have : (fv_102 17).toInt = (fv_89 17).toInt := congrArg Int32.toInt ((fM_call (fM_rf [16] _) fr_105 (by decide)) 17 rfl); rcases p_83 r9 hr hd with ⟨a, b, q, o2, c, d⟩ | ⟨a, b⟩; exact absurd (congrArg Int32.toInt a) (by rw [show (0 : Int32).toInt = 0 from (by decide)]; omega); rw [show fv_102 14 = fv_89 14 from ((fM_call (fM_rf [16] _) fr_105 (by decide)) 14 rfl), show fv_102 17 = fv_89 17 from ((fM_call (fM_rf [16] _) fr_105 (by decide)) 17 rfl)]; rw [q_31 r9 hr hd, show (fv_24 14).toInt.toNat = (fv_24 14).toInt.toNat from (by omega), rd_m1_join (by omega) (Or.inr (by rw [← zj_54]; omega)) hd, show (fv_24 14).toInt.toNat + 1 = (fv_69 14).toInt.toNat from (by omega), show (fv_24 17).toInt.toNat = (fv_69 17).toInt.toNat from (by omega)]; exact b) (by have : (fv_48 14).toInt = (fv_24 14).toInt := congrArg Int32.toInt ((fM_call (fM_rf [] _) fr_51 (by decide)) 14 rfl); have : (fv_102 14).toInt = (fv_89 14).toInt := congrArg Int32.toInt ((fM_call (fM_rf [16] _) fr_105 (by decide)) 14 rfl); have : (fv_14 17).toInt = (fv 17).toInt := congrArg Int32.toInt ((fM_call (fM_rf [14, 16, 19, 20] _) fr_17 (by decide)) 17 rfl); have : (fv_24 17).toInt = (fv_14 17).toInt := congrArg Int32.toInt ((fM_call (fM_rf [14, 16, 19, 20] _) fr_25 (by decide)) 17 rfl); have : (fv_48 17).toInt = (fv_24 17).toInt := congrArg Int32.toInt ((fM_call (fM_rf [] _) fr_51 (by decide)) 17 rfl); have : (fv_69 17).toInt = (fv_48 17).toInt := congrArg Int32.toInt ((fM_call (fM_rf [14] _) fr_72 (by decide)) 17 rfl); have : (fv_89 17).toInt = (fv_69 17).toInt := congrArg Int32.toInt ((fM_call (fM_rf [14, 16, 19, 20] _) fr_92 (by decide)) 17 rfl); have : (fv_102 17).toInt = (fv_89 17).toInt := congrArg Int32.toInt ((fM_call (fM_rf [16] _) fr_105 (by decide)) 17 rfl); have hp9 := p_85; omega) ((show fv_102 19 = fv_89 19 from ((fM_call (fM_rf [16] _) fr_105 (by decide)) 19 rfl)).trans ((p_84 (Int32.toInt_inj.mp (by rw [show (1 : Int32).toInt = 1 from (by decide)]; omega))).trans (show fv_69 19 = fv 19 from (show fv_69 19 = fv_24 19 from ((fM_call (fM_call (fM_rf [14] _) fr_51 (by decide)) fr_72 (by decide)) 19 rfl)).trans q_33))) (by have : (fv_48 14).toInt = (fv_24 14).toInt := congrArg Int32.toInt ((fM_call (fM_rf [] _) fr_51 (by decide)) 14 rfl); have : (fv_102 14).toInt = (fv_89 14).toInt := congrArg Int32.toInt ((fM_call (fM_rf [16] _) fr_105 (by decide)) 14 rfl); have : (fv_14 17).toInt = (fv 17).toInt := congrArg Int32.toInt ((fM_call (fM_rf [14, 16, 19, 20] _) fr_17 (by decide)) 17 rfl); have : (fv_24 17).toInt = (fv_14 17).toInt := congrArg Int32.toInt ((fM_call (fM_rf [14, 16, 19, 20] _) fr_25 (by decide)) 17 rfl); have : (fv_48 17).toInt = (fv_24 17).toInt := congrArg Int32.toInt ((fM_call (fM_rf [] _) fr_51 (by decide)) 17 rfl); have : (fv_69 17).toInt = (fv_48 17).toInt := congrArg Int32.toInt ((fM_call (fM_rf [14] _) fr_72 (by decide)) 17 rfl); have : (fv_89 17).toInt = (fv_69 17).toInt := congrArg Int32.toInt ((fM_call (fM_rf [14, 16, 19, 20] _) fr_92 (by decide)) 17 rfl); have : (fv_102 17).toInt = (fv_89 17).toInt := congrArg Int32.toInt ((fM_call (fM_rf [16] _) fr_105 (by decide)) 17 rfl); have hi9 := p_86 (Int32.toInt_inj.mp (by rw [show (1 : Int32).toInt = 1 from (by decide)]; omega)); omega) (by have : (fv_48 14).toInt = (fv_24 14).toInt := congrArg Int32.toInt ((fM_call (fM_rf [] _) fr_51 (by decide)) 14 rfl); have : (fv_102 14).toInt = (fv_89 14).toInt := congrArg Int32.toInt ((fM_call (fM_rf [16] _) fr_105 (by decide)) 14 rfl); have : (fv_14 17).toInt = (fv 17).toInt := congrArg Int32.toInt ((fM_call (fM_rf [14, 16, 19, 20] _) fr_17 (by decide)) 17 rfl); have : (fv_24 17).toInt = (fv_14 17).toInt := congrArg Int32.toInt ((fM_call (fM_rf [14, 16, 19, 20] _) fr_25 (by decide)) 17 rfl); have : (fv_48 17).toInt = (fv_24 17).toInt := congrArg Int32.toInt ((fM_call (fM_rf [] _) fr_51 (by decide)) 17 rfl); have : (fv_69 17).toInt = (fv_48 17).toInt := congrArg Int32.toInt ((fM_call (fM_rf [14] _) fr_72 (by decide)) 17 rfl); have : (fv_89 17).toInt = (fv_69 17).toInt := congrArg Int32.toInt ((fM_call (fM_rf [14, 16, 19, 20] _) fr_92 (by decide)) 17 rfl); have : (fv_102 17).toInt = (fv_89 17).toInt := congrArg Int32.toInt ((fM_call (fM_rf [16] _) fr_105 (by decide)) 17 rfl); rw [show (fv_102 14).toInt.toNat = (fv_89 14).toInt.toNat from (by omega)]; exact p_87 (Int32.toInt_inj.mp (by rw [show (1 : Int32).toInt = 1 from (by decide)]; omega))) hP hS (lv_sub hl [1, 2, 0] rfl)
            · skip
              have i_111 : 0 ≤ r_81.toInt ∧ r_81.toInt ≤ 0 := iv_eq1 (⟨by decide, by decide⟩ : (0 : Int) ≤ (0 : Int32).toInt ∧ (0 : Int32).toInt ≤ 0) c_95
              refine lv_iconst (v := 0) hx hb dX3_readCond_40 (by decide) ?_
              have z_113 : (0 : Int32).toInt = 0 := by decide
              exact W.zret (v := 0) hx hb hr (by decide) (fun t ht hW => ⟨⟨0, (fv_89, wd_90, ar_91), rfl, ⟨hF_fv_89, hA_ar_91, (fM_call (fM_call (fM_call (fM_call (fM_call (fM_rf [14, 16, 19, 20] _) fr_17 (by decide)) fr_25 (by decide)) fr_51 (by decide)) fr_72 (by decide)) fr_92 (by decide)), (fA_call (fA_call (fA_call (fA_call (fA_call (fA_rf [41, 42, 43] _) fa_18 (by decide)) fa_27 (by decide)) fa_52 (by decide)) fa_73 (by decide)) fa_93 (by decide)), (wf_94.trans (wf_74.trans (wf_53.trans (wf_29.trans wf_19)))), (iv_w (⟨by decide, by decide⟩ : (0 : Int) ≤ (0 : Int32).toInt ∧ (0 : Int32).toInt ≤ 0) (by decide) (by decide)), (show ∀ r9 : List Bool, r9.length = 10 → rd_dn r9 = r9 → rd_x T9 S9 0 ((fv 14).toInt.toNat) ((fv 17).toInt.toNat) r9 (0 : Int32) (fv_89 19) (fv_89 20) (fv_89 14) (fv_89 17) from fun r9 hr hd => by have : (fv_48 14).toInt = (fv_24 14).toInt := congrArg Int32.toInt ((fM_call (fM_rf [] _) fr_51 (by decide)) 14 rfl); have : (fv_14 17).toInt = (fv 17).toInt := congrArg Int32.toInt ((fM_call (fM_rf [14, 16, 19, 20] _) fr_17 (by decide)) 17 rfl); have : (fv_24 17).toInt = (fv_14 17).toInt := congrArg Int32.toInt ((fM_call (fM_rf [14, 16, 19, 20] _) fr_25 (by decide)) 17 rfl); have : (fv_48 17).toInt = (fv_24 17).toInt := congrArg Int32.toInt ((fM_call (fM_rf [] _) fr_51 (by decide)) 17 rfl); have : (fv_69 17).toInt = (fv_48 17).toInt := congrArg Int32.toInt ((fM_call (fM_rf [14] _) fr_72 (by decide)) 17 rfl); have : (fv_89 17).toInt = (fv_69 17).toInt := congrArg Int32.toInt ((fM_call (fM_rf [14, 16, 19, 20] _) fr_92 (by decide)) 17 rfl); rcases p_83 r9 hr hd with ⟨a, b, q, o2, c, d⟩ | ⟨a, b⟩; exact Or.inl ⟨rfl, b, q, o2, (by rw [q_31 r9 hr hd, show (fv_24 14).toInt.toNat = (fv_24 14).toInt.toNat from (by omega), rd_m1_join (by omega) (Or.inr (by rw [← zj_54]; omega)) hd, show (fv_24 14).toInt.toNat + 1 = (fv_69 14).toInt.toNat from (by omega), show (fv_24 17).toInt.toNat = (fv_69 17).toInt.toNat from (by omega)]; exact c), d⟩; exact absurd (congrArg Int32.toInt a) (by rw [show (1 : Int32).toInt = 1 from (by decide)]; omega)), (show (0 : Int32) = 1 → fv_89 19 = fv 19 from fun w => absurd w (by decide)), (show (fv_89 14).toInt ≤ (c9 : Int) from by have : (fv_48 14).toInt = (fv_24 14).toInt := congrArg Int32.toInt ((fM_call (fM_rf [] _) fr_51 (by decide)) 14 rfl); have hp9 := p_85; omega), (show (0 : Int32) = 1 → (fv 17).toInt + 1 ≤ (fv_89 17).toInt from fun w => absurd w (by decide)), (show (0 : Int32) = 1 → ¬ (T9 ((fv_89 14).toInt.toNat) = 24 ∨ T9 ((fv_89 14).toInt.toNat) = 25) from fun w => absurd w (by decide)), p_88, trivial⟩, ⟨by rw [ht]; exact hP, va_K.moved hW.alike hK⟩⟩, hS.F ht⟩) hS.2.2 dX3_readCond_41
    · skip
      have z_118 : (0 : Int32).toInt = 0 := by decide
      have z_119 : (fv_14 17).toInt = (fv 17).toInt := congrArg Int32.toInt ((fr_17 17 rfl))
      have z_120 : 0 ≤ (fv_14 17).toInt ∧ (fv_14 17).toInt ≤ 50 := hF_fv_14 17
      have z_121 : 0 ≤ (fv_14 14).toInt ∧ (fv_14 14).toInt ≤ 300 := hF_fv_14 14
      exact hj_38 51 0 fv_14 ar_16 wd_15 _ _ ls (by first | decide | omega) (iv_w (⟨by decide, by decide⟩ : (0 : Int) ≤ (0 : Int32).toInt ∧ (0 : Int32).toInt ≤ 0) (by decide) (by decide)) hF_fv_14 (fM_rf [14, 16, 19, 20] _) hA_ar_16 (fA_rf [41, 42, 43] _) rfl p_13 (fun r9 hr hd => by have : (fv_14 17).toInt = (fv 17).toInt := congrArg Int32.toInt ((fM_call (fM_rf [14, 16, 19, 20] _) fr_17 (by decide)) 17 rfl); rcases p_8 r9 hr hd with ⟨a, b, q, o2, c, d⟩ | ⟨a, b⟩; exact absurd (congrArg Int32.toInt a) (by rw [show (0 : Int32).toInt = 0 from (by decide)]; omega); exact b) (by have : (fv_14 17).toInt = (fv 17).toInt := congrArg Int32.toInt ((fM_call (fM_rf [14, 16, 19, 20] _) fr_17 (by decide)) 17 rfl); have hp9 := p_10; omega) ((show fv_14 19 = fv_14 19 from rfl).trans ((p_9 (Int32.toInt_inj.mp (by rw [show (1 : Int32).toInt = 1 from (by decide)]; omega))).trans rfl)) (by have : (fv_14 17).toInt = (fv 17).toInt := congrArg Int32.toInt ((fM_call (fM_rf [14, 16, 19, 20] _) fr_17 (by decide)) 17 rfl); have hi9 := p_11 (Int32.toInt_inj.mp (by rw [show (1 : Int32).toInt = 1 from (by decide)]; omega)); omega) (by have : (fv_14 17).toInt = (fv 17).toInt := congrArg Int32.toInt ((fM_call (fM_rf [14, 16, 19, 20] _) fr_17 (by decide)) 17 rfl); rw [show (fv_14 14).toInt.toNat = (fv_14 14).toInt.toNat from (by omega)]; exact p_12 (Int32.toInt_inj.mp (by rw [show (1 : Int32).toInt = 1 from (by decide)]; omega))) hP hS (lv_sub hl [1, 2, 0] rfl)
  · skip
    have i_122 : 0 ≤ r_6.toInt ∧ r_6.toInt ≤ 0 := iv_eq1 (⟨by decide, by decide⟩ : (0 : Int) ≤ (0 : Int32).toInt ∧ (0 : Int32).toInt ≤ 0) c_20
    refine lv_iconst (v := 0) hx hb dX3_readCond_8 (by decide) ?_
    have z_124 : (0 : Int32).toInt = 0 := by decide
    exact W.zret (v := 0) hx hb hr (by decide) (fun t ht hW => ⟨⟨0, (fv_14, wd_15, ar_16), rfl, ⟨hF_fv_14, hA_ar_16, (fM_call (fM_rf [14, 16, 19, 20] _) fr_17 (by decide)), (fA_call (fA_rf [41, 42, 43] _) fa_18 (by decide)), wf_19, (iv_w (⟨by decide, by decide⟩ : (0 : Int) ≤ (0 : Int32).toInt ∧ (0 : Int32).toInt ≤ 0) (by decide) (by decide)), (show ∀ r9 : List Bool, r9.length = 10 → rd_dn r9 = r9 → rd_x T9 S9 0 ((fv 14).toInt.toNat) ((fv 17).toInt.toNat) r9 (0 : Int32) (fv_14 19) (fv_14 20) (fv_14 14) (fv_14 17) from fun r9 hr hd => by have : (fv_14 17).toInt = (fv 17).toInt := congrArg Int32.toInt ((fM_call (fM_rf [14, 16, 19, 20] _) fr_17 (by decide)) 17 rfl); rcases p_8 r9 hr hd with ⟨a, b, q, o2, c, d⟩ | ⟨a, b⟩; exact Or.inl ⟨rfl, b, q, o2, c, d⟩; exact absurd (congrArg Int32.toInt a) (by rw [show (1 : Int32).toInt = 1 from (by decide)]; omega)), (show (0 : Int32) = 1 → fv_14 19 = fv 19 from fun w => absurd w (by decide)), (show (fv_14 14).toInt ≤ (c9 : Int) from by have hp9 := p_10; omega), (show (0 : Int32) = 1 → (fv 17).toInt + 1 ≤ (fv_14 17).toInt from fun w => absurd w (by decide)), (show (0 : Int32) = 1 → ¬ (T9 ((fv_14 14).toInt.toNat) = 24 ∨ T9 ((fv_14 14).toInt.toNat) = 25) from fun w => absurd w (by decide)), p_13, trivial⟩, ⟨by rw [ht]; exact hP, va_K.moved hW.alike hK⟩⟩, hS.F ht⟩) hS.2.2 dX3_readCond_9
set_option maxHeartbeats 4000000 in
set_option maxRecDepth 100000 in
theorem x_readOneC_9 (l : Launch) (dC : Nat → ClassId) (dI : Nat → Nat → Nat) (sz : Nat) (ob ad : Nat → Nat) (cA : Nat → ClassId) (hd : dX ob ad) (fv : Nat → Int32) (wd : xT) (ar : Nat → Nat → Int32) (hF_fv : rX fv) (hA_ar : rB ar) (tA : Nat → Nat) (hto : tO tA wd.2.1) (T9 : Nat → Nat) (S9 : Nat → Nat) (N9 : Nat → Int) (c9 : Nat) (wi : Int32) (h_wi : 9 ≤ wi.toInt ∧ wi.toInt ≤ 9) (hcx : rd_cx tA T9 S9 N9 c9 wd.2.1 (ar 36) (ar 37)) (htc : (fv 13).toInt = (c9 : Int) + 1) (hpl : (fv 14).toInt ≤ (c9 : Int)) (h300 : c9 ≤ 300) (hT32 : ∀ k, T9 k < 32) (hfin : T9 c9 = 30 ∨ T9 c9 = 31) (hp_eC : eC fv ar) : Met l yX3_readOne (.code yX3_readOne cX3_readOne 5 (some .boolean) :: lw_good) ({ frames := 6, cells := 0, slots := 0, locals := 129 }) (va_Pc [.ref (ob 6), .int wi] (fun U => prX dC dI ob ad cA fv wd ar sz U ∧ tkA ob ad tA sz U)) (va_Qi (fun (r : Int32) (u : xS) => rX u.1 ∧ rB u.2.2 ∧ fM [14, 16, 17, 19, 20] fv u.1 ∧ fA [41, 42, 43] ar u.2.2 ∧ u.2.1.2 = wd.2 ∧ (0 ≤ r.toInt ∧ r.toInt ≤ 1) ∧ (∀ r9 : List Bool, r9.length = 9 → rd_x T9 S9 0 ((fv 14).toInt.toNat) ((fv 17).toInt.toNat) r9 r (u.1 19) (u.1 20) (u.1 14) (u.1 17)) ∧ (r = 1 → u.1 19 = fv 19) ∧ ((u.1 14).toInt ≤ (c9 : Int)) ∧ (r = 1 → (fv 17).toInt + 1 ≤ (u.1 17).toInt) ∧ (eC u.1 u.2.2) ∧ True) (enX dC dI ob ad cA) (aX ob ad sz)) 0 0 (aX ob ad sz) := by
  refine Met.ofW (cc := cX3_readOne) (maxL := 5) (ret := (some .boolean)) (by decide) rfl ?_
  intro p e s m args below meth c s₁ B hml hv
  obtain ⟨rfl, ⟨hsz, hP, hK⟩, hE⟩ := hv
  have hx := B.exec
  have hb := B.bytes
  have hr := B.returns
  have hts := atoms_spec (ws := (.code yX3_readOne cX3_readOne 5 (some .boolean) :: lw_good)) B.pre
  have htg : ∀ w ∈ lw_good, w.before _ s = true := fun w hw => hts w (List.mem_cons_of_mem _ hw)
  have hown : s.vm.findClass RX3 = some m.cls := findClass_of_methodNamed B.named
  have hlocks := B.notSynchronized
  subst hsz
  have hS : va_S (aX ob ad s.heap.size) s.heap s.heap [] := va_S.rf
  have hl := lv_entry ([.ref (ob 6), .int wi]) (n := 5) (Nat.le_of_ble_eq_true rfl)
  rw [lg_entry_eq]
  generalize (lg_sl ([.ref (ob 6), .int wi]) ++ List.replicate (5 - (lg_sl ([.ref (ob 6), .int wi])).length) Slot.unset).toArray = ls at hl ⊢
  have hl : lv_has ls 5 [(0, .ref (ob 6)), (1, .int wi)] := hl
  have i_1 : 0 ≤ (fv 14).toInt ∧ (fv 14).toInt ≤ 300 := (by have h9 := hF_fv 14; have h8 : 0 ≤ (fv 14).toInt := h9.1; omega)
  refine lv_aload_n hx hb dX3_readOne_0 rfl (lv_at hl 0 rfl) ?_
  have z_2 : 0 ≤ (fv 13).toInt ∧ (fv 13).toInt ≤ 301 := hF_fv 13
  have z_3 : 0 ≤ (fv 14).toInt ∧ (fv 14).toInt ≤ 300 := hF_fv 14
  refine va_callr (va_runV (As := []) (rest := []) ⟨hx, hb, hml, hown, hts⟩ (x_tokenC l dC dI s.heap.size ob ad cA hd fv wd ar hF_fv hA_ar tA hto T9 S9 N9 c9 hcx (by omega) (by omega) h300 hT32 hfin) (cwV 0 hts (gV kw_4_102 kw_4_104 kw_p_4 kw_1_11 kw_4_105) rfl rfl rfl (by decide +kernel) ⟨Nat.le_of_ble_eq_true rfl, Nat.le_of_ble_eq_true rfl⟩) ⟨fun a U g mk q => ⟨q.1, ⟨q.2.1.1, q.2.1.2.1, va_K.moved (u := U) (U := U.calling g mk a) (Vm.Alike.refl U.vm) q.2.1.2.2⟩, tk_mv (U := U.calling g mk a) rfl (Vm.Alike.refl U.vm) q.2.2⟩, va_recv hK hP (ci := 4) (q0 := 6) rfl rfl, fun U hU hW => ⟨rfl, ⟨by rw [hU], by rw [hU]; exact hP, va_K.moved hW.alike hK⟩, tk_pass hE hS hU hW.alike⟩⟩ rfl rfl hl.1 rfl (lv_room (Nat.le_of_ble_eq_true rfl)) dX3_readOne_1 ⟨Nat.le_of_ble_eq_true rfl, Nat.le_of_ble_eq_true rfl⟩) hS (fun q _ h9 => aX_up hS q h9) (aX_up hS) (fun u r_4 t H1 locs ht _ hw hB _ hk1 hS => ?_)
  obtain ⟨fv_5, wd_6, ar_7⟩ := u
  obtain ⟨hF_fv_5, hA_ar_7, fr_8, fa_9, wf_10, -⟩ := hw
  have wf_10 : wd_6.2 = wd.2 := wf_10
  have hP : va_P (dC, dI) vwCl (wsX ob ad cA fv_5 wd_6 ar_7) H1 := by have h9 := hB.1.1; rw [ht] at h9; exact h9
  have fr_8 : fM [] fv fv_5 := fr_8
  have fa_9 : fA [] ar ar_7 := fa_9
  generalize H1 = H at hP hS ⊢
  obtain ⟨j_11, lj_11, rj_11, zj_11⟩ := hB.2
  subst rj_11
  refine lv_astore_n (lv' := [(2, .ref (tA j_11)), (0, .ref (ob 6)), (1, .int wi)]) hx hb dX3_readOne_4 rfl hl (by decide) rfl (fun ls hl => ?_)
  refine lv_aload_n hx hb dX3_readOne_5 rfl (lv_at hl 0 rfl) ?_
  refine va_getE hx hb hE lj_11 hS hown (q := tkrole) (List.mem_cons_self ..) (htg (.fieldLink RX3 162 "WalkingTown$Token" "role" "I") kw_9_66) (fun _ h9 => h9) dX3_readOne_6 ?_
  refine lv_topi (fun v_12 ev_12 => ?_)
  have i_13 : 0 ≤ v_12.toInt ∧ v_12.toInt ≤ 11 := ev_12 ▸ tk_role j_11
  have k_14 := rd_role lj_11 ev_12
  refine lv_iconst (v := 2) hx hb dX3_readOne_9 (by decide) ?_
  refine lv_icmp_eq (tgt := 21) hx hb dX3_readOne_10 (by decide) (fun c_15 => ?_) (fun c_15 => ?_)
  · skip
    have i_16 : 2 ≤ v_12.toInt ∧ v_12.toInt ≤ 2 := iv_eq1 (⟨by decide, by decide⟩ : (2 : Int) ≤ (2 : Int32).toInt ∧ (2 : Int32).toInt ≤ 2) c_15
    refine lv_iconst (v := 1) hx hb dX3_readOne_21 (by decide) ?_
    refine lv_goto (tgt := 26) hx hb dX3_readOne_22 (by decide) ?_
    refine lv_istore_n (lv' := [(3, .int 1), (2, .ref (tA j_11)), (0, .ref (ob 6)), (1, .int wi)]) hx hb dX3_readOne_26 rfl hl (by decide) rfl (fun ls hl => ?_)
    refine lv_iload_n hx hb dX3_readOne_27 rfl (lv_at hl 0 rfl) ?_
    refine lv_if_ne (tgt := 51) hx hb dX3_readOne_28 (by decide) (fun c_18 => ?_) (fun c_18 => ?_)
    · skip
      refine lv_aload_n hx hb dX3_readOne_51 rfl (lv_at hl 2 rfl) ?_
      refine gX_X3_38 hx hb htg hown hK hP dX3_readOne_52 ?_
      refine my_ti (y := fv 17) ((fr_8 17 rfl)) ?_
      have i_19 : 0 ≤ (fv 17).toInt ∧ (fv 17).toInt ≤ 50 := hF_fv 17
      refine lv_bipush (v := 50) hx hb dX3_readOne_55 (by decide) ?_
      refine lv_icmp_ge (tgt := 66) hx hb dX3_readOne_57 (by decide) (fun c_20 => ?_) (fun c_20 => ?_)
      · skip
        have i_21 : 50 ≤ (fv 17).toInt ∧ (fv 17).toInt ≤ 50 := iv_le2 (⟨by decide, by decide⟩ : (50 : Int) ≤ (50 : Int32).toInt ∧ (50 : Int32).toInt ≤ 50) i_19 c_20
        refine lv_aload_n hx hb dX3_readOne_66 rfl (lv_at hl 2 rfl) ?_
        refine lv_iconst (v := 4) hx hb dX3_readOne_67 (by decide) ?_
        have z_22 : (fv_5 14).toInt = (fv 14).toInt := congrArg Int32.toInt ((fr_8 14 rfl))
        have z_23 : 0 ≤ (fv_5 14).toInt ∧ (fv_5 14).toInt ≤ 300 := hF_fv_5 14
        refine va_calli (va_runV (As := [.int 4]) (rest := []) ⟨hx, hb, hml, hown, hts⟩ (x_failC l dC dI H.size ob ad cA hd fv_5 wd_6 ar_7 hF_fv_5 hA_ar_7 4) (cwV 1 hts (gV kw_4_110 kw_4_112 kw_p_6 kw_1_11 kw_4_113) rfl rfl rfl (by decide +kernel) ⟨Nat.le_of_ble_eq_true rfl, Nat.le_of_ble_eq_true rfl⟩) ⟨fun a U g mk q => ⟨q.1, q.2.1, q.2.2.1, va_K.moved (u := U) (U := U.calling g mk a) (Vm.Alike.refl U.vm) q.2.2.2⟩, va_recv hK hP (ci := 4) (q0 := 6) rfl rfl, fun U hU hW => ⟨rfl, by rw [hU], by rw [hU]; exact hP, va_K.moved hW.alike hK⟩⟩ rfl rfl hl.1 rfl (lv_room (Nat.le_of_ble_eq_true rfl)) dX3_readOne_68 ⟨Nat.le_of_ble_eq_true rfl, Nat.le_of_ble_eq_true rfl⟩) hS (fun q _ h9 => aX_up hS q h9) (aX_up hS) (fun r_24 u t H1 locs ht _ hw hB _ hk1 hS => ?_)
        obtain ⟨fv_29, wd_30, ar_31⟩ := u
        obtain ⟨hF_fv_29, hA_ar_31, fr_32, fa_33, wf_34, p_25, p_26, p_27, p_28, -⟩ := hw
        have wf_34 : wd_30.2 = wd_6.2 := wf_34
        have hP : va_P (dC, dI) vwCl (wsX ob ad cA fv_29 wd_30 ar_31) H1 := by have h9 := hB.1; rw [ht] at h9; exact h9
        have fr_32 : fM [19, 20] fv_5 fv_29 := fr_32
        have fa_33 : fA [] ar_7 ar_31 := fa_33
        have p_27 : fv_29 19 = (4 : Int32) := p_27
        have p_28 : fv_29 20 = ar_7 36 ((fv_5 14).toInt.toNat) := p_28
        generalize H1 = H at hP hS ⊢
        rcases p_26 with ⟨rfl, p_26⟩
        · skip
          have z_35 : (0 : Int32).toInt = 0 := by decide
          exact W.zret (v := 0) hx hb hr (by decide) (fun t ht hW => ⟨⟨0, (fv_29, wd_30, ar_31), rfl, ⟨hF_fv_29, hA_ar_31, (fM_call (fM_call (fM_rf [14, 16, 17, 19, 20] _) fr_8 (by decide)) fr_32 (by decide)), (fA_call (fA_call (fA_rf [41, 42, 43] _) fa_9 (by decide)) fa_33 (by decide)), (wf_34.trans wf_10), (iv_w (⟨by decide, by decide⟩ : (0 : Int) ≤ (0 : Int32).toInt ∧ (0 : Int32).toInt ≤ 0) (by decide) (by decide)), (show ∀ r9 : List Bool, r9.length = 9 → rd_x T9 S9 0 ((fv 14).toInt.toNat) ((fv 17).toInt.toNat) r9 (0 : Int32) (fv_29 19) (fv_29 20) (fv_29 14) (fv_29 17) from fun r9 hr => by have : (fv_5 14).toInt = (fv 14).toInt := congrArg Int32.toInt ((fM_call (fM_rf [] _) fr_8 (by decide)) 14 rfl); have : (fv_29 14).toInt = (fv_5 14).toInt := congrArg Int32.toInt ((fM_call (fM_rf [19, 20] _) fr_32 (by decide)) 14 rfl); have : (fv_5 17).toInt = (fv 17).toInt := congrArg Int32.toInt ((fM_call (fM_rf [] _) fr_8 (by decide)) 17 rfl); have : (fv_29 17).toInt = (fv_5 17).toInt := congrArg Int32.toInt ((fM_call (fM_rf [19, 20] _) fr_32 (by decide)) 17 rfl); exact rd_xF (q := (fv_5 14).toInt.toNat) (show (fv_29 19).toInt = ((4 : Nat) : Int) from by rw [show fv_29 19 = fv_29 19 from rfl, p_27]; decide) (by decide) (by rw [rd_m0_many (by omega) (by rw [← zj_11]; omega) (by omega)]; rw [show (fv 14).toInt.toNat = (fv_5 14).toInt.toNat from (by omega)]) (show (fv_29 20).toInt = (S9 ((fv_5 14).toInt.toNat) : Nat) from by rw [show fv_29 20 = fv_29 20 from rfl, p_28, show ar_7 36 = ar 36 from ((fA_call (fA_rf [] _) fa_9 (by decide)) 36 rfl)]; exact (hcx ((fv_5 14).toInt.toNat) (by omega)).2.1)), (show (0 : Int32) = 1 → fv_29 19 = fv 19 from fun w => absurd w (by decide)), (show (fv_29 14).toInt ≤ (c9 : Int) from by have : (fv_5 14).toInt = (fv 14).toInt := congrArg Int32.toInt ((fM_call (fM_rf [] _) fr_8 (by decide)) 14 rfl); have : (fv_29 14).toInt = (fv_5 14).toInt := congrArg Int32.toInt ((fM_call (fM_rf [19, 20] _) fr_32 (by decide)) 14 rfl); omega), (show (0 : Int32) = 1 → (fv 17).toInt + 1 ≤ (fv_29 17).toInt from fun w => absurd w (by decide)), (eC_fr hp_eC (fM_call (fM_call (fM_rf [19, 20] _) fr_8 (by decide)) fr_32 (by decide)) (fA_call (fA_call (fA_rf [] _) fa_9 (by decide)) fa_33 (by decide)) rfl rfl rfl), trivial⟩, ⟨by rw [ht]; exact hP, va_K.moved hW.alike hK⟩⟩, hS.F ht⟩) hS.2.2 dX3_readOne_71
      · skip
        have i_36 : 0 ≤ (fv 17).toInt ∧ (fv 17).toInt ≤ 49 := iv_lt1 i_19 (⟨by decide, by decide⟩ : (50 : Int) ≤ (50 : Int32).toInt ∧ (50 : Int32).toInt ≤ 50) (Int32.not_le.mp c_20)
        refine lv_iload_n hx hb dX3_readOne_60 rfl (lv_at hl 3 rfl) ?_
        refine lv_bipush (v := 10) hx hb dX3_readOne_61 (by decide) ?_
        refine lv_icmp_lt (tgt := 72) hx hb dX3_readOne_63 (by decide) (fun c_37 => ?_) (fun c_37 => ?_)
        · skip
          refine lv_aload_n hx hb dX3_readOne_72 rfl (lv_at hl 2 rfl) ?_
          refine lv_dup hx hb dX3_readOne_73 rfl ?_
          refine gX_X3_38 hx hb htg hown hK hP dX3_readOne_74 ?_
          refine my_ti (y := fv 17) ((fr_8 17 rfl)) ?_
          refine lv_iconst (v := 1) hx hb dX3_readOne_77 (by decide) ?_
          refine lv_iadd hx hb dX3_readOne_78 ?_
          refine lv_topi (fun v_38 ev_38 => ?_)
          have t_39 : v_38.toInt = (fv 17).toInt + 1 ∧ 1 ≤ v_38.toInt ∧ v_38.toInt ≤ 50 := iv_addc ev_38 i_36 (by decide) (by decide) (by decide)
          refine pX_X3_38 hx hb htg hown hK hP hS hd dX3_readOne_79 (fun H locs fv_41 efv_41 hP hS => ?_)
          have hF_fv_41 : rX fv_41 := rX_put hF_fv_5 efv_41 (iv_w t_39.2 (by decide) (by decide))
          refine lv_aload_n hx hb dX3_readOne_82 rfl (lv_at hl 2 rfl) ?_
          have z_42 : (fv_41 13).toInt = (fv 13).toInt := congrArg Int32.toInt ((congrFun efv_41 13).trans ((fr_8 13 rfl)))
          have z_43 : 0 ≤ (fv_41 13).toInt ∧ (fv_41 13).toInt ≤ 301 := hF_fv_41 13
          have z_44 : (fv_41 14).toInt = (fv 14).toInt := congrArg Int32.toInt ((congrFun efv_41 14).trans ((fr_8 14 rfl)))
          have z_45 : 0 ≤ (fv_41 14).toInt ∧ (fv_41 14).toInt ≤ 300 := hF_fv_41 14
          have z_46 : (fv_41 13).toInt = (fv 13).toInt := congrArg Int32.toInt ((congrFun efv_41 13).trans ((fr_8 13 rfl)))
          have z_47 : 0 ≤ (fv_41 13).toInt ∧ (fv_41 13).toInt ≤ 301 := hF_fv_41 13
          have z_48 : (fv_41 14).toInt = (fv 14).toInt := congrArg Int32.toInt ((congrFun efv_41 14).trans ((fr_8 14 rfl)))
          have z_49 : 0 ≤ (fv_41 14).toInt ∧ (fv_41 14).toInt ≤ 300 := hF_fv_41 14
          refine va_callv (va_runV (As := []) (rest := []) ⟨hx, hb, hml, hown, hts⟩ (x_stepC l dC dI H.size ob ad cA hd fv_41 wd_6 ar_7 hF_fv_41 hA_ar_7 (by have h9 := rd_lt hfin (p := (fv 14).toInt.toNat) (by omega) (by rw [← zj_11]; omega); omega)) (cwV 0 hts (gV kw_4_116 kw_4_118 kw_p_7 kw_1_11 kw_4_119) rfl rfl rfl (by decide +kernel) ⟨Nat.le_of_ble_eq_true rfl, Nat.le_of_ble_eq_true rfl⟩) ⟨fun a U g mk q => ⟨q.1, q.2.1, q.2.2.1, va_K.moved (u := U) (U := U.calling g mk a) (Vm.Alike.refl U.vm) q.2.2.2⟩, va_recv hK hP (ci := 4) (q0 := 6) rfl rfl, fun U hU hW => ⟨rfl, by rw [hU], by rw [hU]; exact hP, va_K.moved hW.alike hK⟩⟩ rfl rfl hl.1 rfl (lv_room (Nat.le_of_ble_eq_true rfl)) dX3_readOne_83 ⟨Nat.le_of_ble_eq_true rfl, Nat.le_of_ble_eq_true rfl⟩) hS (fun q _ h9 => aX_up hS q h9) (aX_up hS) (fun u t H1 locs ht _ hw hB _ hk1 hS => ?_)
          obtain ⟨fv_52, wd_53, ar_54⟩ := u
          obtain ⟨hF_fv_52, hA_ar_54, fr_55, fa_56, wf_57, p_51, -⟩ := hw
          have wf_57 : wd_53.2 = wd_6.2 := wf_57
          have hP : va_P (dC, dI) vwCl (wsX ob ad cA fv_52 wd_53 ar_54) H1 := by have h9 := hB.1; rw [ht] at h9; exact h9
          have fr_55 : fM [14] fv_41 fv_52 := fr_55
          have fa_56 : fA [] ar_7 ar_54 := fa_56
          have p_51 : (fv_52 14).toInt = (fv_41 14).toInt + 1 ∧ (fv_52 14).toInt ≤ (fv_41 13).toInt - 1 := p_51
          generalize H1 = H at hP hS ⊢
          refine lv_aload_n hx hb dX3_readOne_86 rfl (lv_at hl 1 rfl) ?_
          refine va_gets hx hb (hE.1 22 (by decide)).1 hS hown (htg (.fieldLink RX3 190 "WalkingTown$Token" "NOT" "LWalkingTown$Token;") kw_4_124) (fun _ h9 => h9) dX3_readOne_87 ?_
          refine lv_acmp_ne (rx := some (tA j_11)) (ry := some (tA 22)) (tgt := 113) hx hb dX3_readOne_90 (by decide) (fun c_58 => ?_) (fun c_58 => ?_)
          · skip
            have k_59 : ¬ j_11 = 22 := fun w => c_58 (by rw [w])
            refine lv_aload_n hx hb dX3_readOne_113 rfl (lv_at hl 1 rfl) ?_
            refine va_gets hx hb (hE.1 27 (by decide)).1 hS hown (htg (.fieldLink RX3 209 "WalkingTown$Token" "OPEN" "LWalkingTown$Token;") kw_4_148) (fun _ h9 => h9) dX3_readOne_114 ?_
            refine lv_acmp_ne (rx := some (tA j_11)) (ry := some (tA 27)) (tgt := 146) hx hb dX3_readOne_117 (by decide) (fun c_60 => ?_) (fun c_60 => ?_)
            · skip
              have k_61 : ¬ j_11 = 27 := fun w => c_60 (by rw [w])
              refine lv_aload_n hx hb dX3_readOne_146 rfl (lv_at hl 1 rfl) ?_
              refine va_getE hx hb hE lj_11 hS hown (q := tkrole) (List.mem_cons_self ..) (htg (.fieldLink RX3 162 "WalkingTown$Token" "role" "I") kw_9_66) (fun _ h9 => h9) dX3_readOne_147 ?_
              refine lv_topi (fun v_62 ev_62 => ?_)
              have i_63 : 0 ≤ v_62.toInt ∧ v_62.toInt ≤ 11 := ev_62 ▸ tk_role j_11
              have k_64 := rd_role lj_11 ev_62
              refine lv_iconst (v := 2) hx hb dX3_readOne_150 (by decide) ?_
              refine lv_icmp_ne (tgt := 167) hx hb dX3_readOne_151 (by decide) (fun c_65 => ?_) (fun c_65 => ?_)
              · skip
                have k_66 : ¬ v_62.toInt = 2 := fun q => c_65 (Int32.toInt_inj.mp q)
                refine lv_aload_n hx hb dX3_readOne_167 rfl (lv_at hl 2 rfl) ?_
                refine lv_aload_n hx hb dX3_readOne_168 rfl (lv_at hl 1 rfl) ?_
                refine va_getE hx hb hE lj_11 hS hown (q := tkcode) (List.mem_cons_of_mem _ (List.mem_cons_self ..)) (htg (.fieldLink RX3 168 "WalkingTown$Token" "code" "I") kw_9_67) (fun _ h9 => h9) dX3_readOne_169 ?_
                refine lv_topi (fun v_67 ev_67 => ?_)
                have i_68 : 0 ≤ v_67.toInt ∧ v_67.toInt ≤ 11 := ev_67 ▸ tk_code j_11
                have z_69 : (fv_52 13).toInt = (fv 13).toInt := congrArg Int32.toInt ((fr_55 13 rfl).trans ((congrFun efv_41 13).trans ((fr_8 13 rfl))))
                have z_70 : 0 ≤ (fv_52 13).toInt ∧ (fv_52 13).toInt ≤ 301 := hF_fv_52 13
                have z_71 : 0 ≤ (fv_52 14).toInt ∧ (fv_52 14).toInt ≤ 300 := hF_fv_52 14
                have z_72 : 0 ≤ (fv_52 14).toInt ∧ (fv_52 14).toInt ≤ 300 := hF_fv_52 14
                have z_73 : (fv_52 17).toInt = v_38.toInt := congrArg Int32.toInt ((fr_55 17 rfl).trans ((congrFun efv_41 17)))
                have z_74 : 0 ≤ (fv_52 17).toInt ∧ (fv_52 17).toInt ≤ 50 := hF_fv_52 17
                refine va_calli (va_runV (As := [.int v_67]) (rest := []) ⟨hx, hb, hml, hown, hts⟩ (x_readSignC l dC dI H.size ob ad cA hd fv_52 wd_53 ar_54 hF_fv_52 hA_ar_54 tA (tO_w hto (wf_57.trans wf_10)) T9 S9 N9 c9 v_67 i_68 (rd_cx_eq hcx (congrArg (fun z => z.1) (wf_57.trans wf_10)) ((fA_call (fA_call (fA_rf [] _) fa_9 (by decide)) fa_56 (by decide)) 36 rfl) ((fA_call (fA_call (fA_rf [] _) fa_9 (by decide)) fa_56 (by decide)) 37 rfl)) (by omega) (by omega) h300 hT32 hfin (eC_fr hp_eC (fM_call (fM_put (fM_call (fM_rf [14, 17] _) fr_8 (by decide)) efv_41 (by decide)) fr_55 (by decide)) (fA_call (fA_call (fA_rf [] _) fa_9 (by decide)) fa_56 (by decide)) rfl rfl rfl)) (cwV 1 hts (gV kw_4_156 kw_4_158 kw_p_15 kw_1_11 kw_4_159) rfl rfl rfl (by decide +kernel) ⟨Nat.le_of_ble_eq_true rfl, Nat.le_of_ble_eq_true rfl⟩) ⟨fun a U g mk q => ⟨q.1, ⟨q.2.1.1, q.2.1.2.1, va_K.moved (u := U) (U := U.calling g mk a) (Vm.Alike.refl U.vm) q.2.1.2.2⟩, tk_mv (U := U.calling g mk a) rfl (Vm.Alike.refl U.vm) q.2.2⟩, va_recv hK hP (ci := 4) (q0 := 6) rfl rfl, fun U hU hW => ⟨rfl, ⟨by rw [hU], by rw [hU]; exact hP, va_K.moved hW.alike hK⟩, tk_pass hE hS hU hW.alike⟩⟩ rfl rfl hl.1 rfl (lv_room (Nat.le_of_ble_eq_true rfl)) dX3_readOne_172 ⟨Nat.le_of_ble_eq_true rfl, Nat.le_of_ble_eq_true rfl⟩) hS (fun q _ h9 => aX_up hS q h9) (aX_up hS) (fun r_75 u t H1 locs ht _ hw hB _ hk1 hS => ?_)
                obtain ⟨fv_81, wd_82, ar_83⟩ := u
                obtain ⟨hF_fv_81, hA_ar_83, fr_84, fa_85, wf_86, p_76, p_77, p_78, p_79, p_80, -⟩ := hw
                have wf_86 : wd_82.2 = wd_53.2 := wf_86
                have hP : va_P (dC, dI) vwCl (wsX ob ad cA fv_81 wd_82 ar_83) H1 := by have h9 := hB.1; rw [ht] at h9; exact h9
                have fr_84 : fM [14, 16, 19, 20] fv_52 fv_81 := fr_84
                have fa_85 : fA [41, 42, 43] ar_54 ar_83 := fa_85
                have p_80 : eC fv_81 ar_83 := p_80
                have p_77 : ∀ r9 : List Bool, rd_x T9 S9 2 ((fv_52 14).toInt.toNat) ((fv_52 17).toInt.toNat) r9 r_75 (fv_81 19) (fv_81 20) (fv_81 14) (fv_81 17) := p_77
                have p_78 : r_75 = 1 → fv_81 19 = fv_52 19 := p_78
                have p_79 : (fv_81 14).toInt ≤ (c9 : Int) := p_79
                generalize H1 = H at hP hS ⊢
                exact W.zret (v := r_75) hx hb hr (iv_nar p_76) (fun t ht hW => ⟨⟨r_75, (fv_81, wd_82, ar_83), rfl, ⟨hF_fv_81, hA_ar_83, (fM_call (fM_call (fM_put (fM_call (fM_rf [14, 16, 17, 19, 20] _) fr_8 (by decide)) efv_41 (by decide)) fr_55 (by decide)) fr_84 (by decide)), (fA_call (fA_call (fA_call (fA_rf [41, 42, 43] _) fa_9 (by decide)) fa_56 (by decide)) fa_85 (by decide)), (wf_86.trans (wf_57.trans wf_10)), p_76, (show ∀ r9 : List Bool, r9.length = 9 → rd_x T9 S9 0 ((fv 14).toInt.toNat) ((fv 17).toInt.toNat) r9 r_75 (fv_81 19) (fv_81 20) (fv_81 14) (fv_81 17) from fun r9 hr => by have : (fv_5 14).toInt = (fv 14).toInt := congrArg Int32.toInt ((fM_call (fM_rf [] _) fr_8 (by decide)) 14 rfl); have : (fv_41 14).toInt = (fv_5 14).toInt := congrArg Int32.toInt ((fM_put (fM_rf [17] _) efv_41 (by decide)) 14 rfl); have : (fv_5 17).toInt = (fv 17).toInt := congrArg Int32.toInt ((fM_call (fM_rf [] _) fr_8 (by decide)) 17 rfl); have : (fv_41 17).toInt = v_38.toInt := congrArg Int32.toInt (show fv_41 17 = v_38 from congrFun efv_41 17); have : (fv_52 17).toInt = (fv_41 17).toInt := congrArg Int32.toInt ((fM_call (fM_rf [14] _) fr_55 (by decide)) 17 rfl); have : (fv_81 17).toInt = (fv_52 17).toInt := congrArg Int32.toInt ((fM_call (fM_rf [14, 16, 19, 20] _) fr_84 (by decide)) 17 rfl); have h9 := p_77 r9; exact rd_x_of h9 (by rw [rd_m0_fact (by omega) (by rw [← zj_11]; omega) (by omega), show (fv 14).toInt.toNat + 1 = (fv_52 14).toInt.toNat from (by omega), show (fv 17).toInt.toNat + 1 = (fv_52 17).toInt.toNat from (by omega)])), (show r_75 = 1 → fv_81 19 = fv 19 from fun w => (show fv_81 19 = fv_81 19 from rfl).trans ((p_78 w).trans ((fM_call (fM_put (fM_call (fM_rf [14, 17] _) fr_8 (by decide)) efv_41 (by decide)) fr_55 (by decide)) 19 rfl))), (show (fv_81 14).toInt ≤ (c9 : Int) from by have : (fv_5 14).toInt = (fv 14).toInt := congrArg Int32.toInt ((fM_call (fM_rf [] _) fr_8 (by decide)) 14 rfl); have : (fv_41 14).toInt = (fv_5 14).toInt := congrArg Int32.toInt ((fM_put (fM_rf [17] _) efv_41 (by decide)) 14 rfl); have hp9 := p_79; omega), (show r_75 = 1 → (fv 17).toInt + 1 ≤ (fv_81 17).toInt from fun w => by have : (fv_5 17).toInt = (fv 17).toInt := congrArg Int32.toInt ((fM_call (fM_rf [] _) fr_8 (by decide)) 17 rfl); have : (fv_41 17).toInt = v_38.toInt := congrArg Int32.toInt (show fv_41 17 = v_38 from congrFun efv_41 17); have : (fv_52 17).toInt = (fv_41 17).toInt := congrArg Int32.toInt ((fM_call (fM_rf [14] _) fr_55 (by decide)) 17 rfl); have : (fv_81 17).toInt = (fv_52 17).toInt := congrArg Int32.toInt ((fM_call (fM_rf [14, 16, 19, 20] _) fr_84 (by decide)) 17 rfl); have hi9 : (fv_81 17).toInt = (fv_52 17).toInt := congrArg Int32.toInt ((fM_call (fM_rf [14, 16, 19, 20] _) fr_84 (by decide)) 17 rfl); omega), p_80, trivial⟩, ⟨by rw [ht]; exact hP, va_K.moved hW.alike hK⟩⟩, hS.F ht⟩) hS.2.2 dX3_readOne_175
              · skip
                have i_87 : 2 ≤ v_62.toInt ∧ v_62.toInt ≤ 2 := iv_eq1 (⟨by decide, by decide⟩ : (2 : Int) ≤ (2 : Int32).toInt ∧ (2 : Int32).toInt ≤ 2) c_65
                refine lv_aload_n hx hb dX3_readOne_154 rfl (lv_at hl 2 rfl) ?_
                refine lv_iconst (v := 2) hx hb dX3_readOne_155 (by decide) ?_
                refine lv_aload_n hx hb dX3_readOne_156 rfl (lv_at hl 1 rfl) ?_
                refine va_getE hx hb hE lj_11 hS hown (q := tkcode) (List.mem_cons_of_mem _ (List.mem_cons_self ..)) (htg (.fieldLink RX3 168 "WalkingTown$Token" "code" "I") kw_9_67) (fun _ h9 => h9) dX3_readOne_157 ?_
                refine lv_topi (fun v_89 ev_89 => ?_)
                have i_90 : 0 ≤ v_89.toInt ∧ v_89.toInt ≤ 11 := ev_89 ▸ tk_code j_11
                refine lv_iconst (v := 0) hx hb dX3_readOne_160 (by decide) ?_
                refine va_calli (va_runV (As := [.int 2, .int v_89, .int 0]) (rest := []) ⟨hx, hb, hml, hown, hts⟩ (x_addCode l dC dI H.size ob ad cA hd fv_52 wd_53 ar_54 hF_fv_52 hA_ar_54 2 v_89 0 i_90 (eC_fr hp_eC (fM_call (fM_put (fM_call (fM_rf [14, 17] _) fr_8 (by decide)) efv_41 (by decide)) fr_55 (by decide)) (fA_call (fA_call (fA_rf [] _) fa_9 (by decide)) fa_56 (by decide)) rfl rfl rfl)) (cwV 3 hts (gV kw_4_150 kw_4_152 kw_p_14 kw_1_11 kw_4_153) rfl rfl rfl (by decide +kernel) ⟨Nat.le_of_ble_eq_true rfl, Nat.le_of_ble_eq_true rfl⟩) ⟨fun a U g mk q => ⟨q.1, q.2.1, q.2.2.1, va_K.moved (u := U) (U := U.calling g mk a) (Vm.Alike.refl U.vm) q.2.2.2⟩, va_recv hK hP (ci := 4) (q0 := 6) rfl rfl, fun U hU hW => ⟨rfl, by rw [hU], by rw [hU]; exact hP, va_K.moved hW.alike hK⟩⟩ rfl rfl hl.1 rfl (lv_room (Nat.le_of_ble_eq_true rfl)) dX3_readOne_161 ⟨Nat.le_of_ble_eq_true rfl, Nat.le_of_ble_eq_true rfl⟩) hS (fun q _ h9 => aX_up hS q h9) (aX_up hS) (fun r_91 u t H1 locs ht _ hw hB _ hk1 hS => ?_)
                obtain ⟨fv_95, wd_96, ar_97⟩ := u
                obtain ⟨hF_fv_95, hA_ar_97, fr_98, fa_99, wf_100, p_92, p_93, p_94, -⟩ := hw
                have wf_100 : wd_96.2 = wd_53.2 := wf_100
                have hP : va_P (dC, dI) vwCl (wsX ob ad cA fv_95 wd_96 ar_97) H1 := by have h9 := hB.1; rw [ht] at h9; exact h9
                have fr_98 : fM [16] fv_52 fv_95 := fr_98
                have fa_99 : fA [41, 42, 43] ar_54 ar_97 := fa_99
                have p_94 : eC fv_95 ar_97 := p_94
                generalize H1 = H at hP hS ⊢
                rcases p_93 with ⟨rfl, p_93⟩
                · skip
                  refine lv_goto (tgt := 175) hx hb dX3_readOne_164 (by decide) ?_
                  have z_101 : (1 : Int32).toInt = 1 := by decide
                  exact W.zret (v := 1) hx hb hr (by decide) (fun t ht hW => ⟨⟨1, (fv_95, wd_96, ar_97), rfl, ⟨hF_fv_95, hA_ar_97, (fM_call (fM_call (fM_put (fM_call (fM_rf [14, 16, 17, 19, 20] _) fr_8 (by decide)) efv_41 (by decide)) fr_55 (by decide)) fr_98 (by decide)), (fA_call (fA_call (fA_call (fA_rf [41, 42, 43] _) fa_9 (by decide)) fa_56 (by decide)) fa_99 (by decide)), (wf_100.trans (wf_57.trans wf_10)), (iv_w (⟨by decide, by decide⟩ : (1 : Int) ≤ (1 : Int32).toInt ∧ (1 : Int32).toInt ≤ 1) (by decide) (by decide)), (show ∀ r9 : List Bool, r9.length = 9 → rd_x T9 S9 0 ((fv 14).toInt.toNat) ((fv 17).toInt.toNat) r9 (1 : Int32) (fv_95 19) (fv_95 20) (fv_95 14) (fv_95 17) from fun r9 hr => by have : (fv_5 14).toInt = (fv 14).toInt := congrArg Int32.toInt ((fM_call (fM_rf [] _) fr_8 (by decide)) 14 rfl); have : (fv_41 14).toInt = (fv_5 14).toInt := congrArg Int32.toInt ((fM_put (fM_rf [17] _) efv_41 (by decide)) 14 rfl); have : (fv_95 14).toInt = (fv_52 14).toInt := congrArg Int32.toInt ((fM_call (fM_rf [16] _) fr_98 (by decide)) 14 rfl); have : (fv_5 17).toInt = (fv 17).toInt := congrArg Int32.toInt ((fM_call (fM_rf [] _) fr_8 (by decide)) 17 rfl); have : (fv_41 17).toInt = v_38.toInt := congrArg Int32.toInt (show fv_41 17 = v_38 from congrFun efv_41 17); have : (fv_52 17).toInt = (fv_41 17).toInt := congrArg Int32.toInt ((fM_call (fM_rf [14] _) fr_55 (by decide)) 17 rfl); have : (fv_95 17).toInt = (fv_52 17).toInt := congrArg Int32.toInt ((fM_call (fM_rf [16] _) fr_98 (by decide)) 17 rfl); exact rd_xO (by rw [rd_m0_flag (by omega) (by rw [← zj_11]; omega) (by omega), show (fv 14).toInt.toNat + 1 = (fv_95 14).toInt.toNat from (by omega), show (fv 17).toInt.toNat + 1 = (fv_95 17).toInt.toNat from (by omega)])), (show (1 : Int32) = 1 → fv_95 19 = fv 19 from fun _ => ((fM_call (fM_call (fM_put (fM_call (fM_rf [14, 16, 17] _) fr_8 (by decide)) efv_41 (by decide)) fr_55 (by decide)) fr_98 (by decide)) 19 rfl)), (show (fv_95 14).toInt ≤ (c9 : Int) from by have : (fv_5 14).toInt = (fv 14).toInt := congrArg Int32.toInt ((fM_call (fM_rf [] _) fr_8 (by decide)) 14 rfl); have : (fv_41 14).toInt = (fv_5 14).toInt := congrArg Int32.toInt ((fM_put (fM_rf [17] _) efv_41 (by decide)) 14 rfl); have : (fv_95 14).toInt = (fv_52 14).toInt := congrArg Int32.toInt ((fM_call (fM_rf [16] _) fr_98 (by decide)) 14 rfl); omega), (show (1 : Int32) = 1 → (fv 17).toInt + 1 ≤ (fv_95 17).toInt from fun w => by have : (fv_5 17).toInt = (fv 17).toInt := congrArg Int32.toInt ((fM_call (fM_rf [] _) fr_8 (by decide)) 17 rfl); have : (fv_41 17).toInt = v_38.toInt := congrArg Int32.toInt (show fv_41 17 = v_38 from congrFun efv_41 17); have : (fv_52 17).toInt = (fv_41 17).toInt := congrArg Int32.toInt ((fM_call (fM_rf [14] _) fr_55 (by decide)) 17 rfl); have : (fv_95 17).toInt = (fv_52 17).toInt := congrArg Int32.toInt ((fM_call (fM_rf [16] _) fr_98 (by decide)) 17 rfl); omega), p_94, trivial⟩, ⟨by rw [ht]; exact hP, va_K.moved hW.alike hK⟩⟩, hS.F ht⟩) hS.2.2 dX3_readOne_175
            · skip
              have k_102 : j_11 = 27 := hE.2 j_11 27 lj_11 (by decide) (Option.some.inj c_60)
              exfalso; omega
          · skip
            have k_103 : j_11 = 22 := hE.2 j_11 22 lj_11 (by decide) (Option.some.inj c_58)
            exfalso; omega
        · skip
          exact absurd True.intro (by have h7 := (⟨by decide, by decide⟩ : (10 : Int) ≤ (10 : Int32).toInt ∧ (10 : Int32).toInt ≤ 10); have h8 := h_wi; have h9 := Int32.le_iff_toInt_le.mp (Int32.not_lt.mp c_37); exfalso; omega)
    · skip
      exact absurd c_18 (by decide)
  · skip
    have k_104 : ¬ v_12.toInt = 2 := fun q => c_15 (Int32.toInt_inj.mp q)
    refine lv_aload_n hx hb dX3_readOne_13 rfl (lv_at hl 0 rfl) ?_
    refine va_getE hx hb hE lj_11 hS hown (q := tkrole) (List.mem_cons_self ..) (htg (.fieldLink RX3 162 "WalkingTown$Token" "role" "I") kw_9_66) (fun _ h9 => h9) dX3_readOne_14 ?_
    refine lv_topi (fun v_105 ev_105 => ?_)
    have i_106 : 0 ≤ v_105.toInt ∧ v_105.toInt ≤ 11 := ev_105 ▸ tk_role j_11
    have k_107 := rd_role lj_11 ev_105
    refine lv_iconst (v := 3) hx hb dX3_readOne_17 (by decide) ?_
    refine lv_icmp_ne (tgt := 25) hx hb dX3_readOne_18 (by decide) (fun c_108 => ?_) (fun c_108 => ?_)
    · skip
      have k_109 : ¬ v_105.toInt = 3 := fun q => c_108 (Int32.toInt_inj.mp q)
      refine lv_iconst (v := 0) hx hb dX3_readOne_25 (by decide) ?_
      refine lv_istore_n (lv' := [(3, .int 0), (2, .ref (tA j_11)), (0, .ref (ob 6)), (1, .int wi)]) hx hb dX3_readOne_26 rfl hl (by decide) rfl (fun ls hl => ?_)
      refine lv_iload_n hx hb dX3_readOne_27 rfl (lv_at hl 0 rfl) ?_
      refine lv_if_ne (tgt := 51) hx hb dX3_readOne_28 (by decide) (fun c_110 => ?_) (fun c_110 => ?_)
      · skip
        exact absurd c_110 (by decide)
      · skip
        refine lv_aload_n hx hb dX3_readOne_31 rfl (lv_at hl 1 rfl) ?_
        refine va_gets hx hb (hE.1 22 (by decide)).1 hS hown (htg (.fieldLink RX3 190 "WalkingTown$Token" "NOT" "LWalkingTown$Token;") kw_4_124) (fun _ h9 => h9) dX3_readOne_32 ?_
        refine lv_acmp_eq (rx := some (tA j_11)) (ry := some (tA 22)) (tgt := 51) hx hb dX3_readOne_35 (by decide) (fun c_111 => ?_) (fun c_111 => ?_)
        · skip
          have k_112 : j_11 = 22 := hE.2 j_11 22 lj_11 (by decide) (Option.some.inj c_111)
          refine lv_aload_n hx hb dX3_readOne_51 rfl (lv_at hl 2 rfl) ?_
          refine gX_X3_38 hx hb htg hown hK hP dX3_readOne_52 ?_
          refine my_ti (y := fv 17) ((fr_8 17 rfl)) ?_
          have i_113 : 0 ≤ (fv 17).toInt ∧ (fv 17).toInt ≤ 50 := hF_fv 17
          refine lv_bipush (v := 50) hx hb dX3_readOne_55 (by decide) ?_
          refine lv_icmp_ge (tgt := 66) hx hb dX3_readOne_57 (by decide) (fun c_114 => ?_) (fun c_114 => ?_)
          · skip
            have i_115 : 50 ≤ (fv 17).toInt ∧ (fv 17).toInt ≤ 50 := iv_le2 (⟨by decide, by decide⟩ : (50 : Int) ≤ (50 : Int32).toInt ∧ (50 : Int32).toInt ≤ 50) i_113 c_114
            refine lv_aload_n hx hb dX3_readOne_66 rfl (lv_at hl 2 rfl) ?_
            refine lv_iconst (v := 4) hx hb dX3_readOne_67 (by decide) ?_
            have z_116 : (fv_5 14).toInt = (fv 14).toInt := congrArg Int32.toInt ((fr_8 14 rfl))
            have z_117 : 0 ≤ (fv_5 14).toInt ∧ (fv_5 14).toInt ≤ 300 := hF_fv_5 14
            refine va_calli (va_runV (As := [.int 4]) (rest := []) ⟨hx, hb, hml, hown, hts⟩ (x_failC l dC dI H.size ob ad cA hd fv_5 wd_6 ar_7 hF_fv_5 hA_ar_7 4) (cwV 1 hts (gV kw_4_110 kw_4_112 kw_p_6 kw_1_11 kw_4_113) rfl rfl rfl (by decide +kernel) ⟨Nat.le_of_ble_eq_true rfl, Nat.le_of_ble_eq_true rfl⟩) ⟨fun a U g mk q => ⟨q.1, q.2.1, q.2.2.1, va_K.moved (u := U) (U := U.calling g mk a) (Vm.Alike.refl U.vm) q.2.2.2⟩, va_recv hK hP (ci := 4) (q0 := 6) rfl rfl, fun U hU hW => ⟨rfl, by rw [hU], by rw [hU]; exact hP, va_K.moved hW.alike hK⟩⟩ rfl rfl hl.1 rfl (lv_room (Nat.le_of_ble_eq_true rfl)) dX3_readOne_68 ⟨Nat.le_of_ble_eq_true rfl, Nat.le_of_ble_eq_true rfl⟩) hS (fun q _ h9 => aX_up hS q h9) (aX_up hS) (fun r_118 u t H1 locs ht _ hw hB _ hk1 hS => ?_)
            obtain ⟨fv_123, wd_124, ar_125⟩ := u
            obtain ⟨hF_fv_123, hA_ar_125, fr_126, fa_127, wf_128, p_119, p_120, p_121, p_122, -⟩ := hw
            have wf_128 : wd_124.2 = wd_6.2 := wf_128
            have hP : va_P (dC, dI) vwCl (wsX ob ad cA fv_123 wd_124 ar_125) H1 := by have h9 := hB.1; rw [ht] at h9; exact h9
            have fr_126 : fM [19, 20] fv_5 fv_123 := fr_126
            have fa_127 : fA [] ar_7 ar_125 := fa_127
            have p_121 : fv_123 19 = (4 : Int32) := p_121
            have p_122 : fv_123 20 = ar_7 36 ((fv_5 14).toInt.toNat) := p_122
            generalize H1 = H at hP hS ⊢
            rcases p_120 with ⟨rfl, p_120⟩
            · skip
              have z_129 : (0 : Int32).toInt = 0 := by decide
              exact W.zret (v := 0) hx hb hr (by decide) (fun t ht hW => ⟨⟨0, (fv_123, wd_124, ar_125), rfl, ⟨hF_fv_123, hA_ar_125, (fM_call (fM_call (fM_rf [14, 16, 17, 19, 20] _) fr_8 (by decide)) fr_126 (by decide)), (fA_call (fA_call (fA_rf [41, 42, 43] _) fa_9 (by decide)) fa_127 (by decide)), (wf_128.trans wf_10), (iv_w (⟨by decide, by decide⟩ : (0 : Int) ≤ (0 : Int32).toInt ∧ (0 : Int32).toInt ≤ 0) (by decide) (by decide)), (show ∀ r9 : List Bool, r9.length = 9 → rd_x T9 S9 0 ((fv 14).toInt.toNat) ((fv 17).toInt.toNat) r9 (0 : Int32) (fv_123 19) (fv_123 20) (fv_123 14) (fv_123 17) from fun r9 hr => by have : (fv_5 14).toInt = (fv 14).toInt := congrArg Int32.toInt ((fM_call (fM_rf [] _) fr_8 (by decide)) 14 rfl); have : (fv_123 14).toInt = (fv_5 14).toInt := congrArg Int32.toInt ((fM_call (fM_rf [19, 20] _) fr_126 (by decide)) 14 rfl); have : (fv_5 17).toInt = (fv 17).toInt := congrArg Int32.toInt ((fM_call (fM_rf [] _) fr_8 (by decide)) 17 rfl); have : (fv_123 17).toInt = (fv_5 17).toInt := congrArg Int32.toInt ((fM_call (fM_rf [19, 20] _) fr_126 (by decide)) 17 rfl); exact rd_xF (q := (fv_5 14).toInt.toNat) (show (fv_123 19).toInt = ((4 : Nat) : Int) from by rw [show fv_123 19 = fv_123 19 from rfl, p_121]; decide) (by decide) (by rw [rd_m0_many (by omega) (by rw [← zj_11]; omega) (by omega)]; rw [show (fv 14).toInt.toNat = (fv_5 14).toInt.toNat from (by omega)]) (show (fv_123 20).toInt = (S9 ((fv_5 14).toInt.toNat) : Nat) from by rw [show fv_123 20 = fv_123 20 from rfl, p_122, show ar_7 36 = ar 36 from ((fA_call (fA_rf [] _) fa_9 (by decide)) 36 rfl)]; exact (hcx ((fv_5 14).toInt.toNat) (by omega)).2.1)), (show (0 : Int32) = 1 → fv_123 19 = fv 19 from fun w => absurd w (by decide)), (show (fv_123 14).toInt ≤ (c9 : Int) from by have : (fv_5 14).toInt = (fv 14).toInt := congrArg Int32.toInt ((fM_call (fM_rf [] _) fr_8 (by decide)) 14 rfl); have : (fv_123 14).toInt = (fv_5 14).toInt := congrArg Int32.toInt ((fM_call (fM_rf [19, 20] _) fr_126 (by decide)) 14 rfl); omega), (show (0 : Int32) = 1 → (fv 17).toInt + 1 ≤ (fv_123 17).toInt from fun w => absurd w (by decide)), (eC_fr hp_eC (fM_call (fM_call (fM_rf [19, 20] _) fr_8 (by decide)) fr_126 (by decide)) (fA_call (fA_call (fA_rf [] _) fa_9 (by decide)) fa_127 (by decide)) rfl rfl rfl), trivial⟩, ⟨by rw [ht]; exact hP, va_K.moved hW.alike hK⟩⟩, hS.F ht⟩) hS.2.2 dX3_readOne_71
          · skip
            have i_130 : 0 ≤ (fv 17).toInt ∧ (fv 17).toInt ≤ 49 := iv_lt1 i_113 (⟨by decide, by decide⟩ : (50 : Int) ≤ (50 : Int32).toInt ∧ (50 : Int32).toInt ≤ 50) (Int32.not_le.mp c_114)
            refine lv_iload_n hx hb dX3_readOne_60 rfl (lv_at hl 3 rfl) ?_
            refine lv_bipush (v := 10) hx hb dX3_readOne_61 (by decide) ?_
            refine lv_icmp_lt (tgt := 72) hx hb dX3_readOne_63 (by decide) (fun c_131 => ?_) (fun c_131 => ?_)
            · skip
              refine lv_aload_n hx hb dX3_readOne_72 rfl (lv_at hl 2 rfl) ?_
              refine lv_dup hx hb dX3_readOne_73 rfl ?_
              refine gX_X3_38 hx hb htg hown hK hP dX3_readOne_74 ?_
              refine my_ti (y := fv 17) ((fr_8 17 rfl)) ?_
              refine lv_iconst (v := 1) hx hb dX3_readOne_77 (by decide) ?_
              refine lv_iadd hx hb dX3_readOne_78 ?_
              refine lv_topi (fun v_132 ev_132 => ?_)
              have t_133 : v_132.toInt = (fv 17).toInt + 1 ∧ 1 ≤ v_132.toInt ∧ v_132.toInt ≤ 50 := iv_addc ev_132 i_130 (by decide) (by decide) (by decide)
              refine pX_X3_38 hx hb htg hown hK hP hS hd dX3_readOne_79 (fun H locs fv_135 efv_135 hP hS => ?_)
              have hF_fv_135 : rX fv_135 := rX_put hF_fv_5 efv_135 (iv_w t_133.2 (by decide) (by decide))
              refine lv_aload_n hx hb dX3_readOne_82 rfl (lv_at hl 2 rfl) ?_
              have z_136 : (fv_135 13).toInt = (fv 13).toInt := congrArg Int32.toInt ((congrFun efv_135 13).trans ((fr_8 13 rfl)))
              have z_137 : 0 ≤ (fv_135 13).toInt ∧ (fv_135 13).toInt ≤ 301 := hF_fv_135 13
              have z_138 : (fv_135 14).toInt = (fv 14).toInt := congrArg Int32.toInt ((congrFun efv_135 14).trans ((fr_8 14 rfl)))
              have z_139 : 0 ≤ (fv_135 14).toInt ∧ (fv_135 14).toInt ≤ 300 := hF_fv_135 14
              have z_140 : (fv_135 13).toInt = (fv 13).toInt := congrArg Int32.toInt ((congrFun efv_135 13).trans ((fr_8 13 rfl)))
              have z_141 : 0 ≤ (fv_135 13).toInt ∧ (fv_135 13).toInt ≤ 301 := hF_fv_135 13
              have z_142 : (fv_135 14).toInt = (fv 14).toInt := congrArg Int32.toInt ((congrFun efv_135 14).trans ((fr_8 14 rfl)))
              have z_143 : 0 ≤ (fv_135 14).toInt ∧ (fv_135 14).toInt ≤ 300 := hF_fv_135 14
              refine va_callv (va_runV (As := []) (rest := []) ⟨hx, hb, hml, hown, hts⟩ (x_stepC l dC dI H.size ob ad cA hd fv_135 wd_6 ar_7 hF_fv_135 hA_ar_7 (by have h9 := rd_lt hfin (p := (fv 14).toInt.toNat) (by omega) (by rw [← zj_11]; omega); omega)) (cwV 0 hts (gV kw_4_116 kw_4_118 kw_p_7 kw_1_11 kw_4_119) rfl rfl rfl (by decide +kernel) ⟨Nat.le_of_ble_eq_true rfl, Nat.le_of_ble_eq_true rfl⟩) ⟨fun a U g mk q => ⟨q.1, q.2.1, q.2.2.1, va_K.moved (u := U) (U := U.calling g mk a) (Vm.Alike.refl U.vm) q.2.2.2⟩, va_recv hK hP (ci := 4) (q0 := 6) rfl rfl, fun U hU hW => ⟨rfl, by rw [hU], by rw [hU]; exact hP, va_K.moved hW.alike hK⟩⟩ rfl rfl hl.1 rfl (lv_room (Nat.le_of_ble_eq_true rfl)) dX3_readOne_83 ⟨Nat.le_of_ble_eq_true rfl, Nat.le_of_ble_eq_true rfl⟩) hS (fun q _ h9 => aX_up hS q h9) (aX_up hS) (fun u t H1 locs ht _ hw hB _ hk1 hS => ?_)
              obtain ⟨fv_146, wd_147, ar_148⟩ := u
              obtain ⟨hF_fv_146, hA_ar_148, fr_149, fa_150, wf_151, p_145, -⟩ := hw
              have wf_151 : wd_147.2 = wd_6.2 := wf_151
              have hP : va_P (dC, dI) vwCl (wsX ob ad cA fv_146 wd_147 ar_148) H1 := by have h9 := hB.1; rw [ht] at h9; exact h9
              have fr_149 : fM [14] fv_135 fv_146 := fr_149
              have fa_150 : fA [] ar_7 ar_148 := fa_150
              have p_145 : (fv_146 14).toInt = (fv_135 14).toInt + 1 ∧ (fv_146 14).toInt ≤ (fv_135 13).toInt - 1 := p_145
              generalize H1 = H at hP hS ⊢
              refine lv_aload_n hx hb dX3_readOne_86 rfl (lv_at hl 1 rfl) ?_
              refine va_gets hx hb (hE.1 22 (by decide)).1 hS hown (htg (.fieldLink RX3 190 "WalkingTown$Token" "NOT" "LWalkingTown$Token;") kw_4_124) (fun _ h9 => h9) dX3_readOne_87 ?_
              refine lv_acmp_ne (rx := some (tA j_11)) (ry := some (tA 22)) (tgt := 113) hx hb dX3_readOne_90 (by decide) (fun c_152 => ?_) (fun c_152 => ?_)
              · skip
                have k_153 : ¬ j_11 = 22 := fun w => c_152 (by rw [w])
                exfalso; omega
              · skip
                have k_154 : j_11 = 22 := hE.2 j_11 22 lj_11 (by decide) (Option.some.inj c_152)
                refine lv_aload_n hx hb dX3_readOne_93 rfl (lv_at hl 2 rfl) ?_
                refine lv_iload_n hx hb dX3_readOne_94 rfl (lv_at hl 3 rfl) ?_
                refine lv_iconst (v := 1) hx hb dX3_readOne_95 (by decide) ?_
                refine lv_iadd hx hb dX3_readOne_96 ?_
                refine lv_topi (fun v_155 ev_155 => ?_)
                have t_156 : v_155.toInt = wi.toInt + 1 ∧ 10 ≤ v_155.toInt ∧ v_155.toInt ≤ 10 := iv_addc ev_155 h_wi (by decide) (by decide) (by decide)
                have z_158 : (fv_146 13).toInt = (fv 13).toInt := congrArg Int32.toInt ((fr_149 13 rfl).trans ((congrFun efv_135 13).trans ((fr_8 13 rfl))))
                have z_159 : 0 ≤ (fv_146 13).toInt ∧ (fv_146 13).toInt ≤ 301 := hF_fv_146 13
                have z_160 : 0 ≤ (fv_146 14).toInt ∧ (fv_146 14).toInt ≤ 300 := hF_fv_146 14
                have z_161 : 0 ≤ (fv_146 14).toInt ∧ (fv_146 14).toInt ≤ 300 := hF_fv_146 14
                have z_162 : (fv_146 17).toInt = v_132.toInt := congrArg Int32.toInt ((fr_149 17 rfl).trans ((congrFun efv_135 17)))
                have z_163 : 0 ≤ (fv_146 17).toInt ∧ (fv_146 17).toInt ≤ 50 := hF_fv_146 17
                refine va_calli (va_runV (As := [.int v_155]) (rest := []) ⟨hx, hb, hml, hown, hts⟩ (x_readOneC_10 l dC dI H.size ob ad cA hd fv_146 wd_147 ar_148 hF_fv_146 hA_ar_148 tA (tO_w hto (wf_151.trans wf_10)) T9 S9 N9 c9 v_155 t_156.2 (rd_cx_eq hcx (congrArg (fun z => z.1) (wf_151.trans wf_10)) ((fA_call (fA_call (fA_rf [] _) fa_9 (by decide)) fa_150 (by decide)) 36 rfl) ((fA_call (fA_call (fA_rf [] _) fa_9 (by decide)) fa_150 (by decide)) 37 rfl)) (by omega) (by omega) h300 hT32 hfin (eC_fr hp_eC (fM_call (fM_put (fM_call (fM_rf [14, 17] _) fr_8 (by decide)) efv_135 (by decide)) fr_149 (by decide)) (fA_call (fA_call (fA_rf [] _) fa_9 (by decide)) fa_150 (by decide)) rfl rfl rfl)) (cwV 1 hts (gV kw_4_144 kw_4_146 kw_p_13 kw_1_11 kw_4_147) rfl rfl rfl (by decide +kernel) ⟨Nat.le_of_ble_eq_true rfl, Nat.le_of_ble_eq_true rfl⟩) ⟨fun a U g mk q => ⟨q.1, ⟨q.2.1.1, q.2.1.2.1, va_K.moved (u := U) (U := U.calling g mk a) (Vm.Alike.refl U.vm) q.2.1.2.2⟩, tk_mv (U := U.calling g mk a) rfl (Vm.Alike.refl U.vm) q.2.2⟩, va_recv hK hP (ci := 4) (q0 := 6) rfl rfl, fun U hU hW => ⟨rfl, ⟨by rw [hU], by rw [hU]; exact hP, va_K.moved hW.alike hK⟩, tk_pass hE hS hU hW.alike⟩⟩ rfl rfl hl.1 rfl (lv_room (Nat.le_of_ble_eq_true rfl)) dX3_readOne_97 ⟨Nat.le_of_ble_eq_true rfl, Nat.le_of_ble_eq_true rfl⟩) hS (fun q _ h9 => aX_up hS q h9) (aX_up hS) (fun r_164 u t H1 locs ht _ hw hB _ hk1 hS => ?_)
                obtain ⟨fv_170, wd_171, ar_172⟩ := u
                obtain ⟨hF_fv_170, hA_ar_172, fr_173, fa_174, wf_175, p_165, p_166, p_167, p_168, p_169, -⟩ := hw
                have wf_175 : wd_171.2 = wd_147.2 := wf_175
                have hP : va_P (dC, dI) vwCl (wsX ob ad cA fv_170 wd_171 ar_172) H1 := by have h9 := hB.1; rw [ht] at h9; exact h9
                have fr_173 : fM [19, 20] fv_146 fv_170 := fr_173
                have fa_174 : fA [] ar_148 ar_172 := fa_174
                have p_166 : ∀ r9 : List Bool, r9.length = 10 → rd_x T9 S9 0 ((fv_146 14).toInt.toNat) ((fv_146 17).toInt.toNat) r9 r_164 (fv_170 19) (fv_170 20) (fv_170 14) (fv_170 17) := p_166
                have p_167 : r_164 = 1 → fv_170 19 = fv_146 19 := p_167
                have p_168 : (fv_170 14).toInt ≤ (c9 : Int) := p_168
                have p_169 : r_164 = 1 → (fv_146 17).toInt + 1 ≤ (fv_170 17).toInt := p_169
                generalize H1 = H at hP hS ⊢
                refine lv_istore (lv' := [(4, .int r_164), (3, .int 0), (2, .ref (tA j_11)), (0, .ref (ob 6)), (1, .int wi)]) hx hb dX3_readOne_100 hl (by decide) rfl (fun ls hl => ?_)
                refine lv_aload_n hx hb dX3_readOne_102 rfl (lv_at hl 3 rfl) ?_
                refine lv_iconst (v := 3) hx hb dX3_readOne_103 (by decide) ?_
                refine lv_iconst (v := 0) hx hb dX3_readOne_104 (by decide) ?_
                refine lv_iconst (v := 0) hx hb dX3_readOne_105 (by decide) ?_
                refine va_calli (va_runV (As := [.int 3, .int 0, .int 0]) (rest := []) ⟨hx, hb, hml, hown, hts⟩ (x_addCode l dC dI H.size ob ad cA hd fv_170 wd_171 ar_172 hF_fv_170 hA_ar_172 3 0 0 (iv_w (⟨by decide, by decide⟩ : (0 : Int) ≤ (0 : Int32).toInt ∧ (0 : Int32).toInt ≤ 0) (by decide) (by decide)) (eC_fr hp_eC (fM_call (fM_call (fM_put (fM_call (fM_rf [14, 17, 19, 20] _) fr_8 (by decide)) efv_135 (by decide)) fr_149 (by decide)) fr_173 (by decide)) (fA_call (fA_call (fA_call (fA_rf [] _) fa_9 (by decide)) fa_150 (by decide)) fa_174 (by decide)) rfl rfl rfl)) (cwV 3 hts (gV kw_4_150 kw_4_152 kw_p_14 kw_1_11 kw_4_153) rfl rfl rfl (by decide +kernel) ⟨Nat.le_of_ble_eq_true rfl, Nat.le_of_ble_eq_true rfl⟩) ⟨fun a U g mk q => ⟨q.1, q.2.1, q.2.2.1, va_K.moved (u := U) (U := U.calling g mk a) (Vm.Alike.refl U.vm) q.2.2.2⟩, va_recv hK hP (ci := 4) (q0 := 6) rfl rfl, fun U hU hW => ⟨rfl, by rw [hU], by rw [hU]; exact hP, va_K.moved hW.alike hK⟩⟩ rfl rfl hl.1 rfl (lv_room (Nat.le_of_ble_eq_true rfl)) dX3_readOne_106 ⟨Nat.le_of_ble_eq_true rfl, Nat.le_of_ble_eq_true rfl⟩) hS (fun q _ h9 => aX_up hS q h9) (aX_up hS) (fun r_176 u t H1 locs ht _ hw hB _ hk1 hS => ?_)
                obtain ⟨fv_180, wd_181, ar_182⟩ := u
                obtain ⟨hF_fv_180, hA_ar_182, fr_183, fa_184, wf_185, p_177, p_178, p_179, -⟩ := hw
                have wf_185 : wd_181.2 = wd_171.2 := wf_185
                have hP : va_P (dC, dI) vwCl (wsX ob ad cA fv_180 wd_181 ar_182) H1 := by have h9 := hB.1; rw [ht] at h9; exact h9
                have fr_183 : fM [16] fv_170 fv_180 := fr_183
                have fa_184 : fA [41, 42, 43] ar_172 ar_182 := fa_184
                have p_179 : eC fv_180 ar_182 := p_179
                generalize H1 = H at hP hS ⊢
                rcases p_178 with ⟨rfl, p_178⟩
                · skip
                  refine lv_pop hx hb dX3_readOne_109 rfl ?_
                  refine lv_iload hx hb dX3_readOne_110 (lv_at hl 0 rfl) ?_
                  exact W.zret (v := r_164) hx hb hr (iv_nar p_165) (fun t ht hW => ⟨⟨r_164, (fv_180, wd_181, ar_182), rfl, ⟨hF_fv_180, hA_ar_182, (fM_call (fM_call (fM_call (fM_put (fM_call (fM_rf [14, 16, 17, 19, 20] _) fr_8 (by decide)) efv_135 (by decide)) fr_149 (by decide)) fr_173 (by decide)) fr_183 (by decide)), (fA_call (fA_call (fA_call (fA_call (fA_rf [41, 42, 43] _) fa_9 (by decide)) fa_150 (by decide)) fa_174 (by decide)) fa_184 (by decide)), (wf_185.trans (wf_175.trans (wf_151.trans wf_10))), p_165, (show ∀ r9 : List Bool, r9.length = 9 → rd_x T9 S9 0 ((fv 14).toInt.toNat) ((fv 17).toInt.toNat) r9 r_164 (fv_180 19) (fv_180 20) (fv_180 14) (fv_180 17) from fun r9 hr => by have : (fv_5 14).toInt = (fv 14).toInt := congrArg Int32.toInt ((fM_call (fM_rf [] _) fr_8 (by decide)) 14 rfl); have : (fv_135 14).toInt = (fv_5 14).toInt := congrArg Int32.toInt ((fM_put (fM_rf [17] _) efv_135 (by decide)) 14 rfl); have : (fv_170 14).toInt = (fv_146 14).toInt := congrArg Int32.toInt ((fM_call (fM_rf [19, 20] _) fr_173 (by decide)) 14 rfl); have : (fv_180 14).toInt = (fv_170 14).toInt := congrArg Int32.toInt ((fM_call (fM_rf [16] _) fr_183 (by decide)) 14 rfl); have : (fv_5 17).toInt = (fv 17).toInt := congrArg Int32.toInt ((fM_call (fM_rf [] _) fr_8 (by decide)) 17 rfl); have : (fv_135 17).toInt = v_132.toInt := congrArg Int32.toInt (show fv_135 17 = v_132 from congrFun efv_135 17); have : (fv_146 17).toInt = (fv_135 17).toInt := congrArg Int32.toInt ((fM_call (fM_rf [14] _) fr_149 (by decide)) 17 rfl); have : (fv_170 17).toInt = (fv_146 17).toInt := congrArg Int32.toInt ((fM_call (fM_rf [19, 20] _) fr_173 (by decide)) 17 rfl); have : (fv_180 17).toInt = (fv_170 17).toInt := congrArg Int32.toInt ((fM_call (fM_rf [16] _) fr_183 (by decide)) 17 rfl); have h9 := p_166 (true :: r9) (by rw [List.length_cons, hr]); rw [show fv_180 19 = fv_170 19 from ((fM_call (fM_rf [16] _) fr_183 (by decide)) 19 rfl), show fv_180 20 = fv_170 20 from ((fM_call (fM_rf [16] _) fr_183 (by decide)) 20 rfl), show fv_180 14 = fv_170 14 from ((fM_call (fM_rf [16] _) fr_183 (by decide)) 14 rfl), show fv_180 17 = fv_170 17 from ((fM_call (fM_rf [16] _) fr_183 (by decide)) 17 rfl)]; exact rd_x_up (x := true) h9 (by rw [rd_m0_not (by omega) (by rw [← zj_11]; omega) (by omega), show (fv 14).toInt.toNat + 1 = (fv_146 14).toInt.toNat from (by omega), show (fv 17).toInt.toNat + 1 = (fv_146 17).toInt.toNat from (by omega)]) (by omega)), (show r_164 = 1 → fv_180 19 = fv 19 from fun w => (show fv_180 19 = fv_170 19 from ((fM_call (fM_rf [16] _) fr_183 (by decide)) 19 rfl)).trans ((p_167 w).trans ((fM_call (fM_put (fM_call (fM_rf [14, 17] _) fr_8 (by decide)) efv_135 (by decide)) fr_149 (by decide)) 19 rfl))), (show (fv_180 14).toInt ≤ (c9 : Int) from by have : (fv_5 14).toInt = (fv 14).toInt := congrArg Int32.toInt ((fM_call (fM_rf [] _) fr_8 (by decide)) 14 rfl); have : (fv_135 14).toInt = (fv_5 14).toInt := congrArg Int32.toInt ((fM_put (fM_rf [17] _) efv_135 (by decide)) 14 rfl); have : (fv_170 14).toInt = (fv_146 14).toInt := congrArg Int32.toInt ((fM_call (fM_rf [19, 20] _) fr_173 (by decide)) 14 rfl); have : (fv_180 14).toInt = (fv_170 14).toInt := congrArg Int32.toInt ((fM_call (fM_rf [16] _) fr_183 (by decide)) 14 rfl); have hp9 := p_168; omega), (show r_164 = 1 → (fv 17).toInt + 1 ≤ (fv_180 17).toInt from fun w => by have : (fv_5 17).toInt = (fv 17).toInt := congrArg Int32.toInt ((fM_call (fM_rf [] _) fr_8 (by decide)) 17 rfl); have : (fv_135 17).toInt = v_132.toInt := congrArg Int32.toInt (show fv_135 17 = v_132 from congrFun efv_135 17); have : (fv_146 17).toInt = (fv_135 17).toInt := congrArg Int32.toInt ((fM_call (fM_rf [14] _) fr_149 (by decide)) 17 rfl); have : (fv_170 17).toInt = (fv_146 17).toInt := congrArg Int32.toInt ((fM_call (fM_rf [19, 20] _) fr_173 (by decide)) 17 rfl); have : (fv_180 17).toInt = (fv_170 17).toInt := congrArg Int32.toInt ((fM_call (fM_rf [16] _) fr_183 (by decide)) 17 rfl); have hi9 := p_169 (w); omega), p_179, trivial⟩, ⟨by rw [ht]; exact hP, va_K.moved hW.alike hK⟩⟩, hS.F ht⟩) hS.2.2 dX3_readOne_112
            · skip
              exact absurd True.intro (by have h7 := (⟨by decide, by decide⟩ : (10 : Int) ≤ (10 : Int32).toInt ∧ (10 : Int32).toInt ≤ 10); have h8 := h_wi; have h9 := Int32.le_iff_toInt_le.mp (Int32.not_lt.mp c_131); exfalso; omega)
        · skip
          have k_186 : ¬ j_11 = 22 := fun w => c_111 (by rw [w])
          refine lv_aload_n hx hb dX3_readOne_38 rfl (lv_at hl 1 rfl) ?_
          refine va_gets hx hb (hE.1 27 (by decide)).1 hS hown (htg (.fieldLink RX3 209 "WalkingTown$Token" "OPEN" "LWalkingTown$Token;") kw_4_148) (fun _ h9 => h9) dX3_readOne_39 ?_
          refine lv_acmp_eq (rx := some (tA j_11)) (ry := some (tA 27)) (tgt := 51) hx hb dX3_readOne_42 (by decide) (fun c_187 => ?_) (fun c_187 => ?_)
          · skip
            have k_188 : j_11 = 27 := hE.2 j_11 27 lj_11 (by decide) (Option.some.inj c_187)
            refine lv_aload_n hx hb dX3_readOne_51 rfl (lv_at hl 2 rfl) ?_
            refine gX_X3_38 hx hb htg hown hK hP dX3_readOne_52 ?_
            refine my_ti (y := fv 17) ((fr_8 17 rfl)) ?_
            have i_189 : 0 ≤ (fv 17).toInt ∧ (fv 17).toInt ≤ 50 := hF_fv 17
            refine lv_bipush (v := 50) hx hb dX3_readOne_55 (by decide) ?_
            refine lv_icmp_ge (tgt := 66) hx hb dX3_readOne_57 (by decide) (fun c_190 => ?_) (fun c_190 => ?_)
            · skip
              have i_191 : 50 ≤ (fv 17).toInt ∧ (fv 17).toInt ≤ 50 := iv_le2 (⟨by decide, by decide⟩ : (50 : Int) ≤ (50 : Int32).toInt ∧ (50 : Int32).toInt ≤ 50) i_189 c_190
              refine lv_aload_n hx hb dX3_readOne_66 rfl (lv_at hl 2 rfl) ?_
              refine lv_iconst (v := 4) hx hb dX3_readOne_67 (by decide) ?_
              have z_192 : (fv_5 14).toInt = (fv 14).toInt := congrArg Int32.toInt ((fr_8 14 rfl))
              have z_193 : 0 ≤ (fv_5 14).toInt ∧ (fv_5 14).toInt ≤ 300 := hF_fv_5 14
              refine va_calli (va_runV (As := [.int 4]) (rest := []) ⟨hx, hb, hml, hown, hts⟩ (x_failC l dC dI H.size ob ad cA hd fv_5 wd_6 ar_7 hF_fv_5 hA_ar_7 4) (cwV 1 hts (gV kw_4_110 kw_4_112 kw_p_6 kw_1_11 kw_4_113) rfl rfl rfl (by decide +kernel) ⟨Nat.le_of_ble_eq_true rfl, Nat.le_of_ble_eq_true rfl⟩) ⟨fun a U g mk q => ⟨q.1, q.2.1, q.2.2.1, va_K.moved (u := U) (U := U.calling g mk a) (Vm.Alike.refl U.vm) q.2.2.2⟩, va_recv hK hP (ci := 4) (q0 := 6) rfl rfl, fun U hU hW => ⟨rfl, by rw [hU], by rw [hU]; exact hP, va_K.moved hW.alike hK⟩⟩ rfl rfl hl.1 rfl (lv_room (Nat.le_of_ble_eq_true rfl)) dX3_readOne_68 ⟨Nat.le_of_ble_eq_true rfl, Nat.le_of_ble_eq_true rfl⟩) hS (fun q _ h9 => aX_up hS q h9) (aX_up hS) (fun r_194 u t H1 locs ht _ hw hB _ hk1 hS => ?_)
              obtain ⟨fv_199, wd_200, ar_201⟩ := u
              obtain ⟨hF_fv_199, hA_ar_201, fr_202, fa_203, wf_204, p_195, p_196, p_197, p_198, -⟩ := hw
              have wf_204 : wd_200.2 = wd_6.2 := wf_204
              have hP : va_P (dC, dI) vwCl (wsX ob ad cA fv_199 wd_200 ar_201) H1 := by have h9 := hB.1; rw [ht] at h9; exact h9
              have fr_202 : fM [19, 20] fv_5 fv_199 := fr_202
              have fa_203 : fA [] ar_7 ar_201 := fa_203
              have p_197 : fv_199 19 = (4 : Int32) := p_197
              have p_198 : fv_199 20 = ar_7 36 ((fv_5 14).toInt.toNat) := p_198
              generalize H1 = H at hP hS ⊢
              rcases p_196 with ⟨rfl, p_196⟩
              · skip
                have z_205 : (0 : Int32).toInt = 0 := by decide
                exact W.zret (v := 0) hx hb hr (by decide) (fun t ht hW => ⟨⟨0, (fv_199, wd_200, ar_201), rfl, ⟨hF_fv_199, hA_ar_201, (fM_call (fM_call (fM_rf [14, 16, 17, 19, 20] _) fr_8 (by decide)) fr_202 (by decide)), (fA_call (fA_call (fA_rf [41, 42, 43] _) fa_9 (by decide)) fa_203 (by decide)), (wf_204.trans wf_10), (iv_w (⟨by decide, by decide⟩ : (0 : Int) ≤ (0 : Int32).toInt ∧ (0 : Int32).toInt ≤ 0) (by decide) (by decide)), (show ∀ r9 : List Bool, r9.length = 9 → rd_x T9 S9 0 ((fv 14).toInt.toNat) ((fv 17).toInt.toNat) r9 (0 : Int32) (fv_199 19) (fv_199 20) (fv_199 14) (fv_199 17) from fun r9 hr => by have : (fv_5 14).toInt = (fv 14).toInt := congrArg Int32.toInt ((fM_call (fM_rf [] _) fr_8 (by decide)) 14 rfl); have : (fv_199 14).toInt = (fv_5 14).toInt := congrArg Int32.toInt ((fM_call (fM_rf [19, 20] _) fr_202 (by decide)) 14 rfl); have : (fv_5 17).toInt = (fv 17).toInt := congrArg Int32.toInt ((fM_call (fM_rf [] _) fr_8 (by decide)) 17 rfl); have : (fv_199 17).toInt = (fv_5 17).toInt := congrArg Int32.toInt ((fM_call (fM_rf [19, 20] _) fr_202 (by decide)) 17 rfl); exact rd_xF (q := (fv_5 14).toInt.toNat) (show (fv_199 19).toInt = ((4 : Nat) : Int) from by rw [show fv_199 19 = fv_199 19 from rfl, p_197]; decide) (by decide) (by rw [rd_m0_many (by omega) (by rw [← zj_11]; omega) (by omega)]; rw [show (fv 14).toInt.toNat = (fv_5 14).toInt.toNat from (by omega)]) (show (fv_199 20).toInt = (S9 ((fv_5 14).toInt.toNat) : Nat) from by rw [show fv_199 20 = fv_199 20 from rfl, p_198, show ar_7 36 = ar 36 from ((fA_call (fA_rf [] _) fa_9 (by decide)) 36 rfl)]; exact (hcx ((fv_5 14).toInt.toNat) (by omega)).2.1)), (show (0 : Int32) = 1 → fv_199 19 = fv 19 from fun w => absurd w (by decide)), (show (fv_199 14).toInt ≤ (c9 : Int) from by have : (fv_5 14).toInt = (fv 14).toInt := congrArg Int32.toInt ((fM_call (fM_rf [] _) fr_8 (by decide)) 14 rfl); have : (fv_199 14).toInt = (fv_5 14).toInt := congrArg Int32.toInt ((fM_call (fM_rf [19, 20] _) fr_202 (by decide)) 14 rfl); omega), (show (0 : Int32) = 1 → (fv 17).toInt + 1 ≤ (fv_199 17).toInt from fun w => absurd w (by decide)), (eC_fr hp_eC (fM_call (fM_call (fM_rf [19, 20] _) fr_8 (by decide)) fr_202 (by decide)) (fA_call (fA_call (fA_rf [] _) fa_9 (by decide)) fa_203 (by decide)) rfl rfl rfl), trivial⟩, ⟨by rw [ht]; exact hP, va_K.moved hW.alike hK⟩⟩, hS.F ht⟩) hS.2.2 dX3_readOne_71
            · skip
              have i_206 : 0 ≤ (fv 17).toInt ∧ (fv 17).toInt ≤ 49 := iv_lt1 i_189 (⟨by decide, by decide⟩ : (50 : Int) ≤ (50 : Int32).toInt ∧ (50 : Int32).toInt ≤ 50) (Int32.not_le.mp c_190)
              refine lv_iload_n hx hb dX3_readOne_60 rfl (lv_at hl 3 rfl) ?_
              refine lv_bipush (v := 10) hx hb dX3_readOne_61 (by decide) ?_
              refine lv_icmp_lt (tgt := 72) hx hb dX3_readOne_63 (by decide) (fun c_207 => ?_) (fun c_207 => ?_)
              · skip
                refine lv_aload_n hx hb dX3_readOne_72 rfl (lv_at hl 2 rfl) ?_
                refine lv_dup hx hb dX3_readOne_73 rfl ?_
                refine gX_X3_38 hx hb htg hown hK hP dX3_readOne_74 ?_
                refine my_ti (y := fv 17) ((fr_8 17 rfl)) ?_
                refine lv_iconst (v := 1) hx hb dX3_readOne_77 (by decide) ?_
                refine lv_iadd hx hb dX3_readOne_78 ?_
                refine lv_topi (fun v_208 ev_208 => ?_)
                have t_209 : v_208.toInt = (fv 17).toInt + 1 ∧ 1 ≤ v_208.toInt ∧ v_208.toInt ≤ 50 := iv_addc ev_208 i_206 (by decide) (by decide) (by decide)
                refine pX_X3_38 hx hb htg hown hK hP hS hd dX3_readOne_79 (fun H locs fv_211 efv_211 hP hS => ?_)
                have hF_fv_211 : rX fv_211 := rX_put hF_fv_5 efv_211 (iv_w t_209.2 (by decide) (by decide))
                refine lv_aload_n hx hb dX3_readOne_82 rfl (lv_at hl 2 rfl) ?_
                have z_212 : (fv_211 13).toInt = (fv 13).toInt := congrArg Int32.toInt ((congrFun efv_211 13).trans ((fr_8 13 rfl)))
                have z_213 : 0 ≤ (fv_211 13).toInt ∧ (fv_211 13).toInt ≤ 301 := hF_fv_211 13
                have z_214 : (fv_211 14).toInt = (fv 14).toInt := congrArg Int32.toInt ((congrFun efv_211 14).trans ((fr_8 14 rfl)))
                have z_215 : 0 ≤ (fv_211 14).toInt ∧ (fv_211 14).toInt ≤ 300 := hF_fv_211 14
                have z_216 : (fv_211 13).toInt = (fv 13).toInt := congrArg Int32.toInt ((congrFun efv_211 13).trans ((fr_8 13 rfl)))
                have z_217 : 0 ≤ (fv_211 13).toInt ∧ (fv_211 13).toInt ≤ 301 := hF_fv_211 13
                have z_218 : (fv_211 14).toInt = (fv 14).toInt := congrArg Int32.toInt ((congrFun efv_211 14).trans ((fr_8 14 rfl)))
                have z_219 : 0 ≤ (fv_211 14).toInt ∧ (fv_211 14).toInt ≤ 300 := hF_fv_211 14
                refine va_callv (va_runV (As := []) (rest := []) ⟨hx, hb, hml, hown, hts⟩ (x_stepC l dC dI H.size ob ad cA hd fv_211 wd_6 ar_7 hF_fv_211 hA_ar_7 (by have h9 := rd_lt hfin (p := (fv 14).toInt.toNat) (by omega) (by rw [← zj_11]; omega); omega)) (cwV 0 hts (gV kw_4_116 kw_4_118 kw_p_7 kw_1_11 kw_4_119) rfl rfl rfl (by decide +kernel) ⟨Nat.le_of_ble_eq_true rfl, Nat.le_of_ble_eq_true rfl⟩) ⟨fun a U g mk q => ⟨q.1, q.2.1, q.2.2.1, va_K.moved (u := U) (U := U.calling g mk a) (Vm.Alike.refl U.vm) q.2.2.2⟩, va_recv hK hP (ci := 4) (q0 := 6) rfl rfl, fun U hU hW => ⟨rfl, by rw [hU], by rw [hU]; exact hP, va_K.moved hW.alike hK⟩⟩ rfl rfl hl.1 rfl (lv_room (Nat.le_of_ble_eq_true rfl)) dX3_readOne_83 ⟨Nat.le_of_ble_eq_true rfl, Nat.le_of_ble_eq_true rfl⟩) hS (fun q _ h9 => aX_up hS q h9) (aX_up hS) (fun u t H1 locs ht _ hw hB _ hk1 hS => ?_)
                obtain ⟨fv_222, wd_223, ar_224⟩ := u
                obtain ⟨hF_fv_222, hA_ar_224, fr_225, fa_226, wf_227, p_221, -⟩ := hw
                have wf_227 : wd_223.2 = wd_6.2 := wf_227
                have hP : va_P (dC, dI) vwCl (wsX ob ad cA fv_222 wd_223 ar_224) H1 := by have h9 := hB.1; rw [ht] at h9; exact h9
                have fr_225 : fM [14] fv_211 fv_222 := fr_225
                have fa_226 : fA [] ar_7 ar_224 := fa_226
                have p_221 : (fv_222 14).toInt = (fv_211 14).toInt + 1 ∧ (fv_222 14).toInt ≤ (fv_211 13).toInt - 1 := p_221
                generalize H1 = H at hP hS ⊢
                refine lv_aload_n hx hb dX3_readOne_86 rfl (lv_at hl 1 rfl) ?_
                refine va_gets hx hb (hE.1 22 (by decide)).1 hS hown (htg (.fieldLink RX3 190 "WalkingTown$Token" "NOT" "LWalkingTown$Token;") kw_4_124) (fun _ h9 => h9) dX3_readOne_87 ?_
                refine lv_acmp_ne (rx := some (tA j_11)) (ry := some (tA 22)) (tgt := 113) hx hb dX3_readOne_90 (by decide) (fun c_228 => ?_) (fun c_228 => ?_)
                · skip
                  have k_229 : ¬ j_11 = 22 := fun w => c_228 (by rw [w])
                  refine lv_aload_n hx hb dX3_readOne_113 rfl (lv_at hl 1 rfl) ?_
                  refine va_gets hx hb (hE.1 27 (by decide)).1 hS hown (htg (.fieldLink RX3 209 "WalkingTown$Token" "OPEN" "LWalkingTown$Token;") kw_4_148) (fun _ h9 => h9) dX3_readOne_114 ?_
                  refine lv_acmp_ne (rx := some (tA j_11)) (ry := some (tA 27)) (tgt := 146) hx hb dX3_readOne_117 (by decide) (fun c_230 => ?_) (fun c_230 => ?_)
                  · skip
                    have k_231 : ¬ j_11 = 27 := fun w => c_230 (by rw [w])
                    exfalso; omega
                  · skip
                    have k_232 : j_11 = 27 := hE.2 j_11 27 lj_11 (by decide) (Option.some.inj c_230)
                    refine lv_aload_n hx hb dX3_readOne_120 rfl (lv_at hl 2 rfl) ?_
                    refine lv_iload_n hx hb dX3_readOne_121 rfl (lv_at hl 3 rfl) ?_
                    refine lv_iconst (v := 1) hx hb dX3_readOne_122 (by decide) ?_
                    refine lv_iadd hx hb dX3_readOne_123 ?_
                    refine lv_topi (fun v_233 ev_233 => ?_)
                    have t_234 : v_233.toInt = wi.toInt + 1 ∧ 10 ≤ v_233.toInt ∧ v_233.toInt ≤ 10 := iv_addc ev_233 h_wi (by decide) (by decide) (by decide)
                    have z_236 : (fv_222 13).toInt = (fv 13).toInt := congrArg Int32.toInt ((fr_225 13 rfl).trans ((congrFun efv_211 13).trans ((fr_8 13 rfl))))
                    have z_237 : 0 ≤ (fv_222 13).toInt ∧ (fv_222 13).toInt ≤ 301 := hF_fv_222 13
                    have z_238 : 0 ≤ (fv_222 14).toInt ∧ (fv_222 14).toInt ≤ 300 := hF_fv_222 14
                    have z_239 : 0 ≤ (fv_222 14).toInt ∧ (fv_222 14).toInt ≤ 300 := hF_fv_222 14
                    have z_240 : (fv_222 17).toInt = v_208.toInt := congrArg Int32.toInt ((fr_225 17 rfl).trans ((congrFun efv_211 17)))
                    have z_241 : 0 ≤ (fv_222 17).toInt ∧ (fv_222 17).toInt ≤ 50 := hF_fv_222 17
                    refine va_calli (va_runV (As := [.int v_233]) (rest := []) ⟨hx, hb, hml, hown, hts⟩ (x_readCondC_10 l dC dI H.size ob ad cA hd fv_222 wd_223 ar_224 hF_fv_222 hA_ar_224 tA (tO_w hto (wf_227.trans wf_10)) T9 S9 N9 c9 v_233 t_234.2 (rd_cx_eq hcx (congrArg (fun z => z.1) (wf_227.trans wf_10)) ((fA_call (fA_call (fA_rf [] _) fa_9 (by decide)) fa_226 (by decide)) 36 rfl) ((fA_call (fA_call (fA_rf [] _) fa_9 (by decide)) fa_226 (by decide)) 37 rfl)) (by omega) (by omega) h300 hT32 hfin (eC_fr hp_eC (fM_call (fM_put (fM_call (fM_rf [14, 17] _) fr_8 (by decide)) efv_211 (by decide)) fr_225 (by decide)) (fA_call (fA_call (fA_rf [] _) fa_9 (by decide)) fa_226 (by decide)) rfl rfl rfl)) (cwV 1 hts (gV kw_4_136 kw_4_138 kw_p_11 kw_1_11 kw_4_139) rfl rfl rfl (by decide +kernel) ⟨Nat.le_of_ble_eq_true rfl, Nat.le_of_ble_eq_true rfl⟩) ⟨fun a U g mk q => ⟨q.1, ⟨q.2.1.1, q.2.1.2.1, va_K.moved (u := U) (U := U.calling g mk a) (Vm.Alike.refl U.vm) q.2.1.2.2⟩, tk_mv (U := U.calling g mk a) rfl (Vm.Alike.refl U.vm) q.2.2⟩, va_recv hK hP (ci := 4) (q0 := 6) rfl rfl, fun U hU hW => ⟨rfl, ⟨by rw [hU], by rw [hU]; exact hP, va_K.moved hW.alike hK⟩, tk_pass hE hS hU hW.alike⟩⟩ rfl rfl hl.1 rfl (lv_room (Nat.le_of_ble_eq_true rfl)) dX3_readOne_124 ⟨Nat.le_of_ble_eq_true rfl, Nat.le_of_ble_eq_true rfl⟩) hS (fun q _ h9 => aX_up hS q h9) (aX_up hS) (fun r_242 u t H1 locs ht _ hw hB _ hk1 hS => ?_)
                    obtain ⟨fv_250, wd_251, ar_252⟩ := u
                    obtain ⟨hF_fv_250, hA_ar_252, fr_253, fa_254, wf_255, p_243, p_244, p_245, p_246, p_247, p_248, p_249, -⟩ := hw
                    have wf_255 : wd_251.2 = wd_223.2 := wf_255
                    have hP : va_P (dC, dI) vwCl (wsX ob ad cA fv_250 wd_251 ar_252) H1 := by have h9 := hB.1; rw [ht] at h9; exact h9
                    have fr_253 : fM [14, 16, 19, 20] fv_222 fv_250 := fr_253
                    have fa_254 : fA [41, 42, 43] ar_224 ar_252 := fa_254
                    have p_249 : eC fv_250 ar_252 := p_249
                    have p_244 : ∀ r9 : List Bool, r9.length = 10 → rd_dn r9 = r9 → rd_x T9 S9 0 ((fv_222 14).toInt.toNat) ((fv_222 17).toInt.toNat) r9 r_242 (fv_250 19) (fv_250 20) (fv_250 14) (fv_250 17) := p_244
                    have p_245 : r_242 = 1 → fv_250 19 = fv_222 19 := p_245
                    have p_246 : (fv_250 14).toInt ≤ (c9 : Int) := p_246
                    have p_247 : r_242 = 1 → (fv_222 17).toInt + 1 ≤ (fv_250 17).toInt := p_247
                    have p_248 : r_242 = 1 → ¬ (T9 ((fv_250 14).toInt.toNat) = 24 ∨ T9 ((fv_250 14).toInt.toNat) = 25) := p_248
                    generalize H1 = H at hP hS ⊢
                    refine lv_if_eq (tgt := 144) hx hb dX3_readOne_127 (by decide) (fun c_256 => ?_) (fun c_256 => ?_)
                    · skip
                      have i_257 : 0 ≤ r_242.toInt ∧ r_242.toInt ≤ 0 := iv_eq1 (⟨by decide, by decide⟩ : (0 : Int) ≤ (0 : Int32).toInt ∧ (0 : Int32).toInt ≤ 0) c_256
                      refine lv_iconst (v := 0) hx hb dX3_readOne_144 (by decide) ?_
                      have z_259 : (0 : Int32).toInt = 0 := by decide
                      exact W.zret (v := 0) hx hb hr (by decide) (fun t ht hW => ⟨⟨0, (fv_250, wd_251, ar_252), rfl, ⟨hF_fv_250, hA_ar_252, (fM_call (fM_call (fM_put (fM_call (fM_rf [14, 16, 17, 19, 20] _) fr_8 (by decide)) efv_211 (by decide)) fr_225 (by decide)) fr_253 (by decide)), (fA_call (fA_call (fA_call (fA_rf [41, 42, 43] _) fa_9 (by decide)) fa_226 (by decide)) fa_254 (by decide)), (wf_255.trans (wf_227.trans wf_10)), (iv_w (⟨by decide, by decide⟩ : (0 : Int) ≤ (0 : Int32).toInt ∧ (0 : Int32).toInt ≤ 0) (by decide) (by decide)), (show ∀ r9 : List Bool, r9.length = 9 → rd_x T9 S9 0 ((fv 14).toInt.toNat) ((fv 17).toInt.toNat) r9 (0 : Int32) (fv_250 19) (fv_250 20) (fv_250 14) (fv_250 17) from fun r9 hr => by have : (fv_5 14).toInt = (fv 14).toInt := congrArg Int32.toInt ((fM_call (fM_rf [] _) fr_8 (by decide)) 14 rfl); have : (fv_211 14).toInt = (fv_5 14).toInt := congrArg Int32.toInt ((fM_put (fM_rf [17] _) efv_211 (by decide)) 14 rfl); have : (fv_5 17).toInt = (fv 17).toInt := congrArg Int32.toInt ((fM_call (fM_rf [] _) fr_8 (by decide)) 17 rfl); have : (fv_211 17).toInt = v_208.toInt := congrArg Int32.toInt (show fv_211 17 = v_208 from congrFun efv_211 17); have : (fv_222 17).toInt = (fv_211 17).toInt := congrArg Int32.toInt ((fM_call (fM_rf [14] _) fr_225 (by decide)) 17 rfl); have : (fv_250 17).toInt = (fv_222 17).toInt := congrArg Int32.toInt ((fM_call (fM_rf [14, 16, 19, 20] _) fr_253 (by decide)) 17 rfl); have h9 := p_244 (false :: r9) (by rw [List.length_cons, hr]) rfl; have he := (by rw [rd_m0_par (by omega) (by rw [← zj_11]; omega) (by omega), show (fv 14).toInt.toNat + 1 = (fv_222 14).toInt.toNat from (by omega), show (fv 17).toInt.toNat + 1 = (fv_222 17).toInt.toNat from (by omega)] : rd_m T9 0 ((fv 14).toInt.toNat) ((fv 17).toInt.toNat) r9 = rd_m T9 0 ((fv_222 14).toInt.toNat) ((fv_222 17).toInt.toNat) (false :: r9)); rcases h9 with ⟨a, b, q, o2, c, d⟩ | ⟨a, b⟩; exact Or.inl ⟨rfl, b, q, o2, he.trans c, d⟩; exact absurd (congrArg Int32.toInt a) (by rw [show (1 : Int32).toInt = 1 from (by decide)]; omega)), (show (0 : Int32) = 1 → fv_250 19 = fv 19 from fun w => absurd w (by decide)), (show (fv_250 14).toInt ≤ (c9 : Int) from by have : (fv_5 14).toInt = (fv 14).toInt := congrArg Int32.toInt ((fM_call (fM_rf [] _) fr_8 (by decide)) 14 rfl); have : (fv_211 14).toInt = (fv_5 14).toInt := congrArg Int32.toInt ((fM_put (fM_rf [17] _) efv_211 (by decide)) 14 rfl); have hp9 := p_246; omega), (show (0 : Int32) = 1 → (fv 17).toInt + 1 ≤ (fv_250 17).toInt from fun w => absurd w (by decide)), p_249, trivial⟩, ⟨by rw [ht]; exact hP, va_K.moved hW.alike hK⟩⟩, hS.F ht⟩) hS.2.2 dX3_readOne_145
                    · skip
                      have i_260 : 1 ≤ r_242.toInt ∧ r_242.toInt ≤ 1 := iv_nel p_243 (by decide) c_256
                      have k_261 : ¬ r_242.toInt = 0 := fun q => c_256 (Int32.toInt_inj.mp q)
                      refine lv_aload_n hx hb dX3_readOne_130 rfl (lv_at hl 2 rfl) ?_
                      refine va_gets hx hb (hE.1 28 (by decide)).1 hS hown (htg (.fieldLink RX3 212 "WalkingTown$Token" "CLOSE" "LWalkingTown$Token;") kw_4_154) (fun _ h9 => h9) dX3_readOne_131 ?_
                      have z_262 : (fv_250 13).toInt = (fv 13).toInt := congrArg Int32.toInt ((fr_253 13 rfl).trans ((fr_225 13 rfl).trans ((congrFun efv_211 13).trans ((fr_8 13 rfl)))))
                      have z_263 : 0 ≤ (fv_250 13).toInt ∧ (fv_250 13).toInt ≤ 301 := hF_fv_250 13
                      have z_264 : 0 ≤ (fv_250 14).toInt ∧ (fv_250 14).toInt ≤ 300 := hF_fv_250 14
                      have z_265 : 0 ≤ (fv_250 14).toInt ∧ (fv_250 14).toInt ≤ 300 := hF_fv_250 14
                      refine va_calli (va_runV (As := [.ref (tA 28)]) (rest := []) ⟨hx, hb, hml, hown, hts⟩ (x_takeC l dC dI H.size ob ad cA hd fv_250 wd_251 ar_252 hF_fv_250 hA_ar_252 tA (tO_w hto (wf_255.trans (wf_227.trans wf_10))) (28) (by decide) T9 S9 N9 c9 (rd_cx_eq hcx (congrArg (fun z => z.1) (wf_255.trans (wf_227.trans wf_10))) ((fA_call (fA_call (fA_call (fA_rf [41, 42, 43] _) fa_9 (by decide)) fa_226 (by decide)) fa_254 (by decide)) 36 rfl) ((fA_call (fA_call (fA_call (fA_rf [41, 42, 43] _) fa_9 (by decide)) fa_226 (by decide)) fa_254 (by decide)) 37 rfl)) (by omega) (by omega) h300 hT32 hfin (by omega)) (cwV 1 hts (gV kw_4_130 kw_4_132 kw_p_10 kw_1_11 kw_4_133) rfl rfl rfl (by decide +kernel) ⟨Nat.le_of_ble_eq_true rfl, Nat.le_of_ble_eq_true rfl⟩) ⟨fun a U g mk q => ⟨q.1, ⟨q.2.1.1, q.2.1.2.1, va_K.moved (u := U) (U := U.calling g mk a) (Vm.Alike.refl U.vm) q.2.1.2.2⟩, tk_mv (U := U.calling g mk a) rfl (Vm.Alike.refl U.vm) q.2.2⟩, va_recv hK hP (ci := 4) (q0 := 6) rfl rfl, fun U hU hW => ⟨rfl, ⟨by rw [hU], by rw [hU]; exact hP, va_K.moved hW.alike hK⟩, tk_pass hE hS hU hW.alike⟩⟩ rfl rfl hl.1 rfl (lv_room (Nat.le_of_ble_eq_true rfl)) dX3_readOne_134 ⟨Nat.le_of_ble_eq_true rfl, Nat.le_of_ble_eq_true rfl⟩) hS (fun q _ h9 => aX_up hS q h9) (aX_up hS) (fun r_266 u t H1 locs ht _ hw hB _ hk1 hS => ?_)
                      obtain ⟨fv_269, wd_270, ar_271⟩ := u
                      obtain ⟨hF_fv_269, hA_ar_271, fr_272, fa_273, wf_274, p_267, p_268, -⟩ := hw
                      have wf_274 : wd_270.2 = wd_251.2 := wf_274
                      have hP : va_P (dC, dI) vwCl (wsX ob ad cA fv_269 wd_270 ar_271) H1 := by have h9 := hB.1; rw [ht] at h9; exact h9
                      have fr_272 : fM [14, 19, 20] fv_250 fv_269 := fr_272
                      have fa_273 : fA [] ar_252 ar_271 := fa_273
                      have p_268 : (r_266 = 0 ∧ ¬ T9 ((fv_250 14).toInt.toNat) = 28 ∧ fv_269 19 = 1 ∧ (fv_269 20).toInt = (S9 ((fv_250 14).toInt.toNat) : Nat) ∧ (fv_269 14).toInt = (fv_250 14).toInt) ∨ (r_266 = 1 ∧ T9 ((fv_250 14).toInt.toNat) = 28 ∧ ((fv_269 14).toInt = (fv_250 14).toInt + 1 ∧ (fv_269 14).toInt ≤ (c9 : Int)) ∧ fv_269 19 = fv_250 19) := p_268
                      generalize H1 = H at hP hS ⊢
                      refine lv_if_eq (tgt := 144) hx hb dX3_readOne_137 (by decide) (fun c_275 => ?_) (fun c_275 => ?_)
                      · skip
                        have i_276 : 0 ≤ r_266.toInt ∧ r_266.toInt ≤ 0 := iv_eq1 (⟨by decide, by decide⟩ : (0 : Int) ≤ (0 : Int32).toInt ∧ (0 : Int32).toInt ≤ 0) c_275
                        refine lv_iconst (v := 0) hx hb dX3_readOne_144 (by decide) ?_
                        have z_278 : (0 : Int32).toInt = 0 := by decide
                        exact W.zret (v := 0) hx hb hr (by decide) (fun t ht hW => ⟨⟨0, (fv_269, wd_270, ar_271), rfl, ⟨hF_fv_269, hA_ar_271, (fM_call (fM_call (fM_call (fM_put (fM_call (fM_rf [14, 16, 17, 19, 20] _) fr_8 (by decide)) efv_211 (by decide)) fr_225 (by decide)) fr_253 (by decide)) fr_272 (by decide)), (fA_call (fA_call (fA_call (fA_call (fA_rf [41, 42, 43] _) fa_9 (by decide)) fa_226 (by decide)) fa_254 (by decide)) fa_273 (by decide)), (wf_274.trans (wf_255.trans (wf_227.trans wf_10))), (iv_w (⟨by decide, by decide⟩ : (0 : Int) ≤ (0 : Int32).toInt ∧ (0 : Int32).toInt ≤ 0) (by decide) (by decide)), (show ∀ r9 : List Bool, r9.length = 9 → rd_x T9 S9 0 ((fv 14).toInt.toNat) ((fv 17).toInt.toNat) r9 (0 : Int32) (fv_269 19) (fv_269 20) (fv_269 14) (fv_269 17) from fun r9 hr => by have : (fv_5 14).toInt = (fv 14).toInt := congrArg Int32.toInt ((fM_call (fM_rf [] _) fr_8 (by decide)) 14 rfl); have : (fv_211 14).toInt = (fv_5 14).toInt := congrArg Int32.toInt ((fM_put (fM_rf [17] _) efv_211 (by decide)) 14 rfl); have : (fv_5 17).toInt = (fv 17).toInt := congrArg Int32.toInt ((fM_call (fM_rf [] _) fr_8 (by decide)) 17 rfl); have : (fv_211 17).toInt = v_208.toInt := congrArg Int32.toInt (show fv_211 17 = v_208 from congrFun efv_211 17); have : (fv_222 17).toInt = (fv_211 17).toInt := congrArg Int32.toInt ((fM_call (fM_rf [14] _) fr_225 (by decide)) 17 rfl); have : (fv_250 17).toInt = (fv_222 17).toInt := congrArg Int32.toInt ((fM_call (fM_rf [14, 16, 19, 20] _) fr_253 (by decide)) 17 rfl); have : (fv_269 17).toInt = (fv_250 17).toInt := congrArg Int32.toInt ((fM_call (fM_rf [14, 19, 20] _) fr_272 (by decide)) 17 rfl); have h9 := p_244 (false :: r9) (by rw [List.length_cons, hr]) rfl; have he := (by rw [rd_m0_par (by omega) (by rw [← zj_11]; omega) (by omega), show (fv 14).toInt.toNat + 1 = (fv_222 14).toInt.toNat from (by omega), show (fv 17).toInt.toNat + 1 = (fv_222 17).toInt.toNat from (by omega)] : rd_m T9 0 ((fv 14).toInt.toNat) ((fv 17).toInt.toNat) r9 = rd_m T9 0 ((fv_222 14).toInt.toNat) ((fv_222 17).toInt.toNat) (false :: r9)); rcases h9 with ⟨a, b, q, o2, c, d⟩ | ⟨a, b⟩; exact absurd (congrArg Int32.toInt a) (by rw [show (0 : Int32).toInt = 0 from (by decide)]; omega); have hn := p_248 a; rcases p_268 with ⟨a1, b1, c1, d1, e1⟩ | ⟨a1, b1, c1, d1⟩; exact rd_xF (q := (fv_250 14).toInt.toNat) (k := 1) (show (fv_269 19).toInt = ((1 : Nat) : Int) from by rw [show fv_269 19 = fv_269 19 from rfl, c1]; decide) (by decide) (by rw [he, b, rd_m1_bad (by omega) (by omega) (by omega)]) (show (fv_269 20).toInt = _ from by rw [show fv_269 20 = fv_269 20 from rfl, d1]); exact absurd (congrArg Int32.toInt a1) (by rw [show (1 : Int32).toInt = 1 from (by decide)]; omega)), (show (0 : Int32) = 1 → fv_269 19 = fv 19 from fun w => absurd w (by decide)), (show (fv_269 14).toInt ≤ (c9 : Int) from by have : (fv_5 14).toInt = (fv 14).toInt := congrArg Int32.toInt ((fM_call (fM_rf [] _) fr_8 (by decide)) 14 rfl); have : (fv_211 14).toInt = (fv_5 14).toInt := congrArg Int32.toInt ((fM_put (fM_rf [17] _) efv_211 (by decide)) 14 rfl); have hp9 := p_246; have hq9 := p_268; omega), (show (0 : Int32) = 1 → (fv 17).toInt + 1 ≤ (fv_269 17).toInt from fun w => absurd w (by decide)), (eC_fr p_249 (fM_call (fM_rf [14, 19, 20] _) fr_272 (by decide)) (fA_call (fA_rf [] _) fa_273 (by decide)) rfl rfl rfl), trivial⟩, ⟨by rw [ht]; exact hP, va_K.moved hW.alike hK⟩⟩, hS.F ht⟩) hS.2.2 dX3_readOne_145
                      · skip
                        have i_279 : 1 ≤ r_266.toInt ∧ r_266.toInt ≤ 1 := iv_nel p_267 (by decide) c_275
                        have k_280 : ¬ r_266.toInt = 0 := fun q => c_275 (Int32.toInt_inj.mp q)
                        refine lv_iconst (v := 1) hx hb dX3_readOne_140 (by decide) ?_
                        refine lv_goto (tgt := 145) hx hb dX3_readOne_141 (by decide) ?_
                        have z_281 : (1 : Int32).toInt = 1 := by decide
                        exact W.zret (v := 1) hx hb hr (by decide) (fun t ht hW => ⟨⟨1, (fv_269, wd_270, ar_271), rfl, ⟨hF_fv_269, hA_ar_271, (fM_call (fM_call (fM_call (fM_put (fM_call (fM_rf [14, 16, 17, 19, 20] _) fr_8 (by decide)) efv_211 (by decide)) fr_225 (by decide)) fr_253 (by decide)) fr_272 (by decide)), (fA_call (fA_call (fA_call (fA_call (fA_rf [41, 42, 43] _) fa_9 (by decide)) fa_226 (by decide)) fa_254 (by decide)) fa_273 (by decide)), (wf_274.trans (wf_255.trans (wf_227.trans wf_10))), (iv_w (⟨by decide, by decide⟩ : (1 : Int) ≤ (1 : Int32).toInt ∧ (1 : Int32).toInt ≤ 1) (by decide) (by decide)), (show ∀ r9 : List Bool, r9.length = 9 → rd_x T9 S9 0 ((fv 14).toInt.toNat) ((fv 17).toInt.toNat) r9 (1 : Int32) (fv_269 19) (fv_269 20) (fv_269 14) (fv_269 17) from fun r9 hr => by have : (fv_5 14).toInt = (fv 14).toInt := congrArg Int32.toInt ((fM_call (fM_rf [] _) fr_8 (by decide)) 14 rfl); have : (fv_211 14).toInt = (fv_5 14).toInt := congrArg Int32.toInt ((fM_put (fM_rf [17] _) efv_211 (by decide)) 14 rfl); have : (fv_5 17).toInt = (fv 17).toInt := congrArg Int32.toInt ((fM_call (fM_rf [] _) fr_8 (by decide)) 17 rfl); have : (fv_211 17).toInt = v_208.toInt := congrArg Int32.toInt (show fv_211 17 = v_208 from congrFun efv_211 17); have : (fv_222 17).toInt = (fv_211 17).toInt := congrArg Int32.toInt ((fM_call (fM_rf [14] _) fr_225 (by decide)) 17 rfl); have : (fv_250 17).toInt = (fv_222 17).toInt := congrArg Int32.toInt ((fM_call (fM_rf [14, 16, 19, 20] _) fr_253 (by decide)) 17 rfl); have : (fv_269 17).toInt = (fv_250 17).toInt := congrArg Int32.toInt ((fM_call (fM_rf [14, 19, 20] _) fr_272 (by decide)) 17 rfl); have h9 := p_244 (false :: r9) (by rw [List.length_cons, hr]) rfl; have he := (by rw [rd_m0_par (by omega) (by rw [← zj_11]; omega) (by omega), show (fv 14).toInt.toNat + 1 = (fv_222 14).toInt.toNat from (by omega), show (fv 17).toInt.toNat + 1 = (fv_222 17).toInt.toNat from (by omega)] : rd_m T9 0 ((fv 14).toInt.toNat) ((fv 17).toInt.toNat) r9 = rd_m T9 0 ((fv_222 14).toInt.toNat) ((fv_222 17).toInt.toNat) (false :: r9)); rcases h9 with ⟨a, b, q, o2, c, d⟩ | ⟨a, b⟩; exact absurd (congrArg Int32.toInt a) (by rw [show (0 : Int32).toInt = 0 from (by decide)]; omega); have hn := p_248 a; rcases p_268 with ⟨a1, b1, c1, d1, e1⟩ | ⟨a1, b1, c1, d1⟩; exact absurd (congrArg Int32.toInt a1) (by rw [show (0 : Int32).toInt = 0 from (by decide)]; omega); exact rd_xO (by rw [he, b, rd_m1_close (by omega) (by exact b1), show (fv_250 14).toInt.toNat + 1 = (fv_269 14).toInt.toNat from (by omega), show (fv_250 17).toInt.toNat = (fv_269 17).toInt.toNat from (by omega)])), (show (1 : Int32) = 1 → fv_269 19 = fv 19 from fun _ => by rcases p_268 with ⟨a1, b1, c1, d1, e1⟩ | ⟨a1, b1, c1, d1⟩; exact absurd (congrArg Int32.toInt a1) (by rw [show (0 : Int32).toInt = 0 from (by decide)]; omega); exact (show fv_269 19 = fv_269 19 from rfl).trans (d1.trans ((show fv_250 19 = fv_250 19 from rfl).trans ((p_245 (Int32.toInt_inj.mp (by rw [show (1 : Int32).toInt = 1 from (by decide)]; omega))).trans ((fM_call (fM_put (fM_call (fM_rf [14, 17] _) fr_8 (by decide)) efv_211 (by decide)) fr_225 (by decide)) 19 rfl))))), (show (fv_269 14).toInt ≤ (c9 : Int) from by have : (fv_5 14).toInt = (fv 14).toInt := congrArg Int32.toInt ((fM_call (fM_rf [] _) fr_8 (by decide)) 14 rfl); have : (fv_211 14).toInt = (fv_5 14).toInt := congrArg Int32.toInt ((fM_put (fM_rf [17] _) efv_211 (by decide)) 14 rfl); have hp9 := p_246; have hq9 := p_268; omega), (show (1 : Int32) = 1 → (fv 17).toInt + 1 ≤ (fv_269 17).toInt from fun w => by have : (fv_5 17).toInt = (fv 17).toInt := congrArg Int32.toInt ((fM_call (fM_rf [] _) fr_8 (by decide)) 17 rfl); have : (fv_211 17).toInt = v_208.toInt := congrArg Int32.toInt (show fv_211 17 = v_208 from congrFun efv_211 17); have : (fv_222 17).toInt = (fv_211 17).toInt := congrArg Int32.toInt ((fM_call (fM_rf [14] _) fr_225 (by decide)) 17 rfl); have : (fv_250 17).toInt = (fv_222 17).toInt := congrArg Int32.toInt ((fM_call (fM_rf [14, 16, 19, 20] _) fr_253 (by decide)) 17 rfl); have : (fv_269 17).toInt = (fv_250 17).toInt := congrArg Int32.toInt ((fM_call (fM_rf [14, 19, 20] _) fr_272 (by decide)) 17 rfl); have hi9 := p_247 (Int32.toInt_inj.mp (by rw [show (1 : Int32).toInt = 1 from (by decide)]; omega)); omega), (eC_fr p_249 (fM_call (fM_rf [14, 19, 20] _) fr_272 (by decide)) (fA_call (fA_rf [] _) fa_273 (by decide)) rfl rfl rfl), trivial⟩, ⟨by rw [ht]; exact hP, va_K.moved hW.alike hK⟩⟩, hS.F ht⟩) hS.2.2 dX3_readOne_145
                · skip
                  have k_282 : j_11 = 22 := hE.2 j_11 22 lj_11 (by decide) (Option.some.inj c_228)
                  exfalso; omega
              · skip
                exact absurd True.intro (by have h7 := (⟨by decide, by decide⟩ : (10 : Int) ≤ (10 : Int32).toInt ∧ (10 : Int32).toInt ≤ 10); have h8 := h_wi; have h9 := Int32.le_iff_toInt_le.mp (Int32.not_lt.mp c_207); exfalso; omega)
          · skip
            have k_283 : ¬ j_11 = 27 := fun w => c_187 (by rw [w])
            refine lv_aload_n hx hb dX3_readOne_45 rfl (lv_at hl 2 rfl) ?_
            refine lv_iconst (v := 1) hx hb dX3_readOne_46 (by decide) ?_
            have z_284 : (fv_5 14).toInt = (fv 14).toInt := congrArg Int32.toInt ((fr_8 14 rfl))
            have z_285 : 0 ≤ (fv_5 14).toInt ∧ (fv_5 14).toInt ≤ 300 := hF_fv_5 14
            refine va_calli (va_runV (As := [.int 1]) (rest := []) ⟨hx, hb, hml, hown, hts⟩ (x_failC l dC dI H.size ob ad cA hd fv_5 wd_6 ar_7 hF_fv_5 hA_ar_7 1) (cwV 1 hts (gV kw_4_110 kw_4_112 kw_p_6 kw_1_11 kw_4_113) rfl rfl rfl (by decide +kernel) ⟨Nat.le_of_ble_eq_true rfl, Nat.le_of_ble_eq_true rfl⟩) ⟨fun a U g mk q => ⟨q.1, q.2.1, q.2.2.1, va_K.moved (u := U) (U := U.calling g mk a) (Vm.Alike.refl U.vm) q.2.2.2⟩, va_recv hK hP (ci := 4) (q0 := 6) rfl rfl, fun U hU hW => ⟨rfl, by rw [hU], by rw [hU]; exact hP, va_K.moved hW.alike hK⟩⟩ rfl rfl hl.1 rfl (lv_room (Nat.le_of_ble_eq_true rfl)) dX3_readOne_47 ⟨Nat.le_of_ble_eq_true rfl, Nat.le_of_ble_eq_true rfl⟩) hS (fun q _ h9 => aX_up hS q h9) (aX_up hS) (fun r_286 u t H1 locs ht _ hw hB _ hk1 hS => ?_)
            obtain ⟨fv_291, wd_292, ar_293⟩ := u
            obtain ⟨hF_fv_291, hA_ar_293, fr_294, fa_295, wf_296, p_287, p_288, p_289, p_290, -⟩ := hw
            have wf_296 : wd_292.2 = wd_6.2 := wf_296
            have hP : va_P (dC, dI) vwCl (wsX ob ad cA fv_291 wd_292 ar_293) H1 := by have h9 := hB.1; rw [ht] at h9; exact h9
            have fr_294 : fM [19, 20] fv_5 fv_291 := fr_294
            have fa_295 : fA [] ar_7 ar_293 := fa_295
            have p_289 : fv_291 19 = (1 : Int32) := p_289
            have p_290 : fv_291 20 = ar_7 36 ((fv_5 14).toInt.toNat) := p_290
            generalize H1 = H at hP hS ⊢
            rcases p_288 with ⟨rfl, p_288⟩
            · skip
              have z_297 : (0 : Int32).toInt = 0 := by decide
              exact W.zret (v := 0) hx hb hr (by decide) (fun t ht hW => ⟨⟨0, (fv_291, wd_292, ar_293), rfl, ⟨hF_fv_291, hA_ar_293, (fM_call (fM_call (fM_rf [14, 16, 17, 19, 20] _) fr_8 (by decide)) fr_294 (by decide)), (fA_call (fA_call (fA_rf [41, 42, 43] _) fa_9 (by decide)) fa_295 (by decide)), (wf_296.trans wf_10), (iv_w (⟨by decide, by decide⟩ : (0 : Int) ≤ (0 : Int32).toInt ∧ (0 : Int32).toInt ≤ 0) (by decide) (by decide)), (show ∀ r9 : List Bool, r9.length = 9 → rd_x T9 S9 0 ((fv 14).toInt.toNat) ((fv 17).toInt.toNat) r9 (0 : Int32) (fv_291 19) (fv_291 20) (fv_291 14) (fv_291 17) from fun r9 hr => by have : (fv_5 14).toInt = (fv 14).toInt := congrArg Int32.toInt ((fM_call (fM_rf [] _) fr_8 (by decide)) 14 rfl); have : (fv_291 14).toInt = (fv_5 14).toInt := congrArg Int32.toInt ((fM_call (fM_rf [19, 20] _) fr_294 (by decide)) 14 rfl); have : (fv_5 17).toInt = (fv 17).toInt := congrArg Int32.toInt ((fM_call (fM_rf [] _) fr_8 (by decide)) 17 rfl); have : (fv_291 17).toInt = (fv_5 17).toInt := congrArg Int32.toInt ((fM_call (fM_rf [19, 20] _) fr_294 (by decide)) 17 rfl); exact rd_xF (q := (fv_5 14).toInt.toNat) (show (fv_291 19).toInt = ((1 : Nat) : Int) from by rw [show fv_291 19 = fv_291 19 from rfl, p_289]; decide) (by decide) (by rw [rd_m0_bad (by omega) (by rw [← zj_11]; omega)]; rw [show (fv 14).toInt.toNat = (fv_5 14).toInt.toNat from (by omega)]) (show (fv_291 20).toInt = (S9 ((fv_5 14).toInt.toNat) : Nat) from by rw [show fv_291 20 = fv_291 20 from rfl, p_290, show ar_7 36 = ar 36 from ((fA_call (fA_rf [] _) fa_9 (by decide)) 36 rfl)]; exact (hcx ((fv_5 14).toInt.toNat) (by omega)).2.1)), (show (0 : Int32) = 1 → fv_291 19 = fv 19 from fun w => absurd w (by decide)), (show (fv_291 14).toInt ≤ (c9 : Int) from by have : (fv_5 14).toInt = (fv 14).toInt := congrArg Int32.toInt ((fM_call (fM_rf [] _) fr_8 (by decide)) 14 rfl); have : (fv_291 14).toInt = (fv_5 14).toInt := congrArg Int32.toInt ((fM_call (fM_rf [19, 20] _) fr_294 (by decide)) 14 rfl); omega), (show (0 : Int32) = 1 → (fv 17).toInt + 1 ≤ (fv_291 17).toInt from fun w => absurd w (by decide)), (eC_fr hp_eC (fM_call (fM_call (fM_rf [19, 20] _) fr_8 (by decide)) fr_294 (by decide)) (fA_call (fA_call (fA_rf [] _) fa_9 (by decide)) fa_295 (by decide)) rfl rfl rfl), trivial⟩, ⟨by rw [ht]; exact hP, va_K.moved hW.alike hK⟩⟩, hS.F ht⟩) hS.2.2 dX3_readOne_50
    · skip
      have i_298 : 3 ≤ v_105.toInt ∧ v_105.toInt ≤ 3 := iv_eq1 (⟨by decide, by decide⟩ : (3 : Int) ≤ (3 : Int32).toInt ∧ (3 : Int32).toInt ≤ 3) c_108
      refine lv_iconst (v := 1) hx hb dX3_readOne_21 (by decide) ?_
      refine lv_goto (tgt := 26) hx hb dX3_readOne_22 (by decide) ?_
      refine lv_istore_n (lv' := [(3, .int 1), (2, .ref (tA j_11)), (0, .ref (ob 6)), (1, .int wi)]) hx hb dX3_readOne_26 rfl hl (by decide) rfl (fun ls hl => ?_)
      refine lv_iload_n hx hb dX3_readOne_27 rfl (lv_at hl 0 rfl) ?_
      refine lv_if_ne (tgt := 51) hx hb dX3_readOne_28 (by decide) (fun c_300 => ?_) (fun c_300 => ?_)
      · skip
        refine lv_aload_n hx hb dX3_readOne_51 rfl (lv_at hl 2 rfl) ?_
        refine gX_X3_38 hx hb htg hown hK hP dX3_readOne_52 ?_
        refine my_ti (y := fv 17) ((fr_8 17 rfl)) ?_
        have i_301 : 0 ≤ (fv 17).toInt ∧ (fv 17).toInt ≤ 50 := hF_fv 17
        refine lv_bipush (v := 50) hx hb dX3_readOne_55 (by decide) ?_
        refine lv_icmp_ge (tgt := 66) hx hb dX3_readOne_57 (by decide) (fun c_302 => ?_) (fun c_302 => ?_)
        · skip
          have i_303 : 50 ≤ (fv 17).toInt ∧ (fv 17).toInt ≤ 50 := iv_le2 (⟨by decide, by decide⟩ : (50 : Int) ≤ (50 : Int32).toInt ∧ (50 : Int32).toInt ≤ 50) i_301 c_302
          refine lv_aload_n hx hb dX3_readOne_66 rfl (lv_at hl 2 rfl) ?_
          refine lv_iconst (v := 4) hx hb dX3_readOne_67 (by decide) ?_
          have z_304 : (fv_5 14).toInt = (fv 14).toInt := congrArg Int32.toInt ((fr_8 14 rfl))
          have z_305 : 0 ≤ (fv_5 14).toInt ∧ (fv_5 14).toInt ≤ 300 := hF_fv_5 14
          refine va_calli (va_runV (As := [.int 4]) (rest := []) ⟨hx, hb, hml, hown, hts⟩ (x_failC l dC dI H.size ob ad cA hd fv_5 wd_6 ar_7 hF_fv_5 hA_ar_7 4) (cwV 1 hts (gV kw_4_110 kw_4_112 kw_p_6 kw_1_11 kw_4_113) rfl rfl rfl (by decide +kernel) ⟨Nat.le_of_ble_eq_true rfl, Nat.le_of_ble_eq_true rfl⟩) ⟨fun a U g mk q => ⟨q.1, q.2.1, q.2.2.1, va_K.moved (u := U) (U := U.calling g mk a) (Vm.Alike.refl U.vm) q.2.2.2⟩, va_recv hK hP (ci := 4) (q0 := 6) rfl rfl, fun U hU hW => ⟨rfl, by rw [hU], by rw [hU]; exact hP, va_K.moved hW.alike hK⟩⟩ rfl rfl hl.1 rfl (lv_room (Nat.le_of_ble_eq_true rfl)) dX3_readOne_68 ⟨Nat.le_of_ble_eq_true rfl, Nat.le_of_ble_eq_true rfl⟩) hS (fun q _ h9 => aX_up hS q h9) (aX_up hS) (fun r_306 u t H1 locs ht _ hw hB _ hk1 hS => ?_)
          obtain ⟨fv_311, wd_312, ar_313⟩ := u
          obtain ⟨hF_fv_311, hA_ar_313, fr_314, fa_315, wf_316, p_307, p_308, p_309, p_310, -⟩ := hw
          have wf_316 : wd_312.2 = wd_6.2 := wf_316
          have hP : va_P (dC, dI) vwCl (wsX ob ad cA fv_311 wd_312 ar_313) H1 := by have h9 := hB.1; rw [ht] at h9; exact h9
          have fr_314 : fM [19, 20] fv_5 fv_311 := fr_314
          have fa_315 : fA [] ar_7 ar_313 := fa_315
          have p_309 : fv_311 19 = (4 : Int32) := p_309
          have p_310 : fv_311 20 = ar_7 36 ((fv_5 14).toInt.toNat) := p_310
          generalize H1 = H at hP hS ⊢
          rcases p_308 with ⟨rfl, p_308⟩
          · skip
            have z_317 : (0 : Int32).toInt = 0 := by decide
            exact W.zret (v := 0) hx hb hr (by decide) (fun t ht hW => ⟨⟨0, (fv_311, wd_312, ar_313), rfl, ⟨hF_fv_311, hA_ar_313, (fM_call (fM_call (fM_rf [14, 16, 17, 19, 20] _) fr_8 (by decide)) fr_314 (by decide)), (fA_call (fA_call (fA_rf [41, 42, 43] _) fa_9 (by decide)) fa_315 (by decide)), (wf_316.trans wf_10), (iv_w (⟨by decide, by decide⟩ : (0 : Int) ≤ (0 : Int32).toInt ∧ (0 : Int32).toInt ≤ 0) (by decide) (by decide)), (show ∀ r9 : List Bool, r9.length = 9 → rd_x T9 S9 0 ((fv 14).toInt.toNat) ((fv 17).toInt.toNat) r9 (0 : Int32) (fv_311 19) (fv_311 20) (fv_311 14) (fv_311 17) from fun r9 hr => by have : (fv_5 14).toInt = (fv 14).toInt := congrArg Int32.toInt ((fM_call (fM_rf [] _) fr_8 (by decide)) 14 rfl); have : (fv_311 14).toInt = (fv_5 14).toInt := congrArg Int32.toInt ((fM_call (fM_rf [19, 20] _) fr_314 (by decide)) 14 rfl); have : (fv_5 17).toInt = (fv 17).toInt := congrArg Int32.toInt ((fM_call (fM_rf [] _) fr_8 (by decide)) 17 rfl); have : (fv_311 17).toInt = (fv_5 17).toInt := congrArg Int32.toInt ((fM_call (fM_rf [19, 20] _) fr_314 (by decide)) 17 rfl); exact rd_xF (q := (fv_5 14).toInt.toNat) (show (fv_311 19).toInt = ((4 : Nat) : Int) from by rw [show fv_311 19 = fv_311 19 from rfl, p_309]; decide) (by decide) (by rw [rd_m0_many (by omega) (by rw [← zj_11]; omega) (by omega)]; rw [show (fv 14).toInt.toNat = (fv_5 14).toInt.toNat from (by omega)]) (show (fv_311 20).toInt = (S9 ((fv_5 14).toInt.toNat) : Nat) from by rw [show fv_311 20 = fv_311 20 from rfl, p_310, show ar_7 36 = ar 36 from ((fA_call (fA_rf [] _) fa_9 (by decide)) 36 rfl)]; exact (hcx ((fv_5 14).toInt.toNat) (by omega)).2.1)), (show (0 : Int32) = 1 → fv_311 19 = fv 19 from fun w => absurd w (by decide)), (show (fv_311 14).toInt ≤ (c9 : Int) from by have : (fv_5 14).toInt = (fv 14).toInt := congrArg Int32.toInt ((fM_call (fM_rf [] _) fr_8 (by decide)) 14 rfl); have : (fv_311 14).toInt = (fv_5 14).toInt := congrArg Int32.toInt ((fM_call (fM_rf [19, 20] _) fr_314 (by decide)) 14 rfl); omega), (show (0 : Int32) = 1 → (fv 17).toInt + 1 ≤ (fv_311 17).toInt from fun w => absurd w (by decide)), (eC_fr hp_eC (fM_call (fM_call (fM_rf [19, 20] _) fr_8 (by decide)) fr_314 (by decide)) (fA_call (fA_call (fA_rf [] _) fa_9 (by decide)) fa_315 (by decide)) rfl rfl rfl), trivial⟩, ⟨by rw [ht]; exact hP, va_K.moved hW.alike hK⟩⟩, hS.F ht⟩) hS.2.2 dX3_readOne_71
        · skip
          have i_318 : 0 ≤ (fv 17).toInt ∧ (fv 17).toInt ≤ 49 := iv_lt1 i_301 (⟨by decide, by decide⟩ : (50 : Int) ≤ (50 : Int32).toInt ∧ (50 : Int32).toInt ≤ 50) (Int32.not_le.mp c_302)
          refine lv_iload_n hx hb dX3_readOne_60 rfl (lv_at hl 3 rfl) ?_
          refine lv_bipush (v := 10) hx hb dX3_readOne_61 (by decide) ?_
          refine lv_icmp_lt (tgt := 72) hx hb dX3_readOne_63 (by decide) (fun c_319 => ?_) (fun c_319 => ?_)
          · skip
            refine lv_aload_n hx hb dX3_readOne_72 rfl (lv_at hl 2 rfl) ?_
            refine lv_dup hx hb dX3_readOne_73 rfl ?_
            refine gX_X3_38 hx hb htg hown hK hP dX3_readOne_74 ?_
            refine my_ti (y := fv 17) ((fr_8 17 rfl)) ?_
            refine lv_iconst (v := 1) hx hb dX3_readOne_77 (by decide) ?_
            refine lv_iadd hx hb dX3_readOne_78 ?_
            refine lv_topi (fun v_320 ev_320 => ?_)
            have t_321 : v_320.toInt = (fv 17).toInt + 1 ∧ 1 ≤ v_320.toInt ∧ v_320.toInt ≤ 50 := iv_addc ev_320 i_318 (by decide) (by decide) (by decide)
            refine pX_X3_38 hx hb htg hown hK hP hS hd dX3_readOne_79 (fun H locs fv_323 efv_323 hP hS => ?_)
            have hF_fv_323 : rX fv_323 := rX_put hF_fv_5 efv_323 (iv_w t_321.2 (by decide) (by decide))
            refine lv_aload_n hx hb dX3_readOne_82 rfl (lv_at hl 2 rfl) ?_
            have z_324 : (fv_323 13).toInt = (fv 13).toInt := congrArg Int32.toInt ((congrFun efv_323 13).trans ((fr_8 13 rfl)))
            have z_325 : 0 ≤ (fv_323 13).toInt ∧ (fv_323 13).toInt ≤ 301 := hF_fv_323 13
            have z_326 : (fv_323 14).toInt = (fv 14).toInt := congrArg Int32.toInt ((congrFun efv_323 14).trans ((fr_8 14 rfl)))
            have z_327 : 0 ≤ (fv_323 14).toInt ∧ (fv_323 14).toInt ≤ 300 := hF_fv_323 14
            have z_328 : (fv_323 13).toInt = (fv 13).toInt := congrArg Int32.toInt ((congrFun efv_323 13).trans ((fr_8 13 rfl)))
            have z_329 : 0 ≤ (fv_323 13).toInt ∧ (fv_323 13).toInt ≤ 301 := hF_fv_323 13
            have z_330 : (fv_323 14).toInt = (fv 14).toInt := congrArg Int32.toInt ((congrFun efv_323 14).trans ((fr_8 14 rfl)))
            have z_331 : 0 ≤ (fv_323 14).toInt ∧ (fv_323 14).toInt ≤ 300 := hF_fv_323 14
            refine va_callv (va_runV (As := []) (rest := []) ⟨hx, hb, hml, hown, hts⟩ (x_stepC l dC dI H.size ob ad cA hd fv_323 wd_6 ar_7 hF_fv_323 hA_ar_7 (by have h9 := rd_lt hfin (p := (fv 14).toInt.toNat) (by omega) (by rw [← zj_11]; omega); omega)) (cwV 0 hts (gV kw_4_116 kw_4_118 kw_p_7 kw_1_11 kw_4_119) rfl rfl rfl (by decide +kernel) ⟨Nat.le_of_ble_eq_true rfl, Nat.le_of_ble_eq_true rfl⟩) ⟨fun a U g mk q => ⟨q.1, q.2.1, q.2.2.1, va_K.moved (u := U) (U := U.calling g mk a) (Vm.Alike.refl U.vm) q.2.2.2⟩, va_recv hK hP (ci := 4) (q0 := 6) rfl rfl, fun U hU hW => ⟨rfl, by rw [hU], by rw [hU]; exact hP, va_K.moved hW.alike hK⟩⟩ rfl rfl hl.1 rfl (lv_room (Nat.le_of_ble_eq_true rfl)) dX3_readOne_83 ⟨Nat.le_of_ble_eq_true rfl, Nat.le_of_ble_eq_true rfl⟩) hS (fun q _ h9 => aX_up hS q h9) (aX_up hS) (fun u t H1 locs ht _ hw hB _ hk1 hS => ?_)
            obtain ⟨fv_334, wd_335, ar_336⟩ := u
            obtain ⟨hF_fv_334, hA_ar_336, fr_337, fa_338, wf_339, p_333, -⟩ := hw
            have wf_339 : wd_335.2 = wd_6.2 := wf_339
            have hP : va_P (dC, dI) vwCl (wsX ob ad cA fv_334 wd_335 ar_336) H1 := by have h9 := hB.1; rw [ht] at h9; exact h9
            have fr_337 : fM [14] fv_323 fv_334 := fr_337
            have fa_338 : fA [] ar_7 ar_336 := fa_338
            have p_333 : (fv_334 14).toInt = (fv_323 14).toInt + 1 ∧ (fv_334 14).toInt ≤ (fv_323 13).toInt - 1 := p_333
            generalize H1 = H at hP hS ⊢
            refine lv_aload_n hx hb dX3_readOne_86 rfl (lv_at hl 1 rfl) ?_
            refine va_gets hx hb (hE.1 22 (by decide)).1 hS hown (htg (.fieldLink RX3 190 "WalkingTown$Token" "NOT" "LWalkingTown$Token;") kw_4_124) (fun _ h9 => h9) dX3_readOne_87 ?_
            refine lv_acmp_ne (rx := some (tA j_11)) (ry := some (tA 22)) (tgt := 113) hx hb dX3_readOne_90 (by decide) (fun c_340 => ?_) (fun c_340 => ?_)
            · skip
              have k_341 : ¬ j_11 = 22 := fun w => c_340 (by rw [w])
              refine lv_aload_n hx hb dX3_readOne_113 rfl (lv_at hl 1 rfl) ?_
              refine va_gets hx hb (hE.1 27 (by decide)).1 hS hown (htg (.fieldLink RX3 209 "WalkingTown$Token" "OPEN" "LWalkingTown$Token;") kw_4_148) (fun _ h9 => h9) dX3_readOne_114 ?_
              refine lv_acmp_ne (rx := some (tA j_11)) (ry := some (tA 27)) (tgt := 146) hx hb dX3_readOne_117 (by decide) (fun c_342 => ?_) (fun c_342 => ?_)
              · skip
                have k_343 : ¬ j_11 = 27 := fun w => c_342 (by rw [w])
                refine lv_aload_n hx hb dX3_readOne_146 rfl (lv_at hl 1 rfl) ?_
                refine va_getE hx hb hE lj_11 hS hown (q := tkrole) (List.mem_cons_self ..) (htg (.fieldLink RX3 162 "WalkingTown$Token" "role" "I") kw_9_66) (fun _ h9 => h9) dX3_readOne_147 ?_
                refine lv_topi (fun v_344 ev_344 => ?_)
                have i_345 : 0 ≤ v_344.toInt ∧ v_344.toInt ≤ 11 := ev_344 ▸ tk_role j_11
                have k_346 := rd_role lj_11 ev_344
                refine lv_iconst (v := 2) hx hb dX3_readOne_150 (by decide) ?_
                refine lv_icmp_ne (tgt := 167) hx hb dX3_readOne_151 (by decide) (fun c_347 => ?_) (fun c_347 => ?_)
                · skip
                  have k_348 : ¬ v_344.toInt = 2 := fun q => c_347 (Int32.toInt_inj.mp q)
                  refine lv_aload_n hx hb dX3_readOne_167 rfl (lv_at hl 2 rfl) ?_
                  refine lv_aload_n hx hb dX3_readOne_168 rfl (lv_at hl 1 rfl) ?_
                  refine va_getE hx hb hE lj_11 hS hown (q := tkcode) (List.mem_cons_of_mem _ (List.mem_cons_self ..)) (htg (.fieldLink RX3 168 "WalkingTown$Token" "code" "I") kw_9_67) (fun _ h9 => h9) dX3_readOne_169 ?_
                  refine lv_topi (fun v_349 ev_349 => ?_)
                  have i_350 : 0 ≤ v_349.toInt ∧ v_349.toInt ≤ 11 := ev_349 ▸ tk_code j_11
                  have z_351 : (fv_334 13).toInt = (fv 13).toInt := congrArg Int32.toInt ((fr_337 13 rfl).trans ((congrFun efv_323 13).trans ((fr_8 13 rfl))))
                  have z_352 : 0 ≤ (fv_334 13).toInt ∧ (fv_334 13).toInt ≤ 301 := hF_fv_334 13
                  have z_353 : 0 ≤ (fv_334 14).toInt ∧ (fv_334 14).toInt ≤ 300 := hF_fv_334 14
                  have z_354 : 0 ≤ (fv_334 14).toInt ∧ (fv_334 14).toInt ≤ 300 := hF_fv_334 14
                  have z_355 : (fv_334 17).toInt = v_320.toInt := congrArg Int32.toInt ((fr_337 17 rfl).trans ((congrFun efv_323 17)))
                  have z_356 : 0 ≤ (fv_334 17).toInt ∧ (fv_334 17).toInt ≤ 50 := hF_fv_334 17
                  refine va_calli (va_runV (As := [.int v_349]) (rest := []) ⟨hx, hb, hml, hown, hts⟩ (x_readSignC l dC dI H.size ob ad cA hd fv_334 wd_335 ar_336 hF_fv_334 hA_ar_336 tA (tO_w hto (wf_339.trans wf_10)) T9 S9 N9 c9 v_349 i_350 (rd_cx_eq hcx (congrArg (fun z => z.1) (wf_339.trans wf_10)) ((fA_call (fA_call (fA_rf [] _) fa_9 (by decide)) fa_338 (by decide)) 36 rfl) ((fA_call (fA_call (fA_rf [] _) fa_9 (by decide)) fa_338 (by decide)) 37 rfl)) (by omega) (by omega) h300 hT32 hfin (eC_fr hp_eC (fM_call (fM_put (fM_call (fM_rf [14, 17] _) fr_8 (by decide)) efv_323 (by decide)) fr_337 (by decide)) (fA_call (fA_call (fA_rf [] _) fa_9 (by decide)) fa_338 (by decide)) rfl rfl rfl)) (cwV 1 hts (gV kw_4_156 kw_4_158 kw_p_15 kw_1_11 kw_4_159) rfl rfl rfl (by decide +kernel) ⟨Nat.le_of_ble_eq_true rfl, Nat.le_of_ble_eq_true rfl⟩) ⟨fun a U g mk q => ⟨q.1, ⟨q.2.1.1, q.2.1.2.1, va_K.moved (u := U) (U := U.calling g mk a) (Vm.Alike.refl U.vm) q.2.1.2.2⟩, tk_mv (U := U.calling g mk a) rfl (Vm.Alike.refl U.vm) q.2.2⟩, va_recv hK hP (ci := 4) (q0 := 6) rfl rfl, fun U hU hW => ⟨rfl, ⟨by rw [hU], by rw [hU]; exact hP, va_K.moved hW.alike hK⟩, tk_pass hE hS hU hW.alike⟩⟩ rfl rfl hl.1 rfl (lv_room (Nat.le_of_ble_eq_true rfl)) dX3_readOne_172 ⟨Nat.le_of_ble_eq_true rfl, Nat.le_of_ble_eq_true rfl⟩) hS (fun q _ h9 => aX_up hS q h9) (aX_up hS) (fun r_357 u t H1 locs ht _ hw hB _ hk1 hS => ?_)
                  obtain ⟨fv_363, wd_364, ar_365⟩ := u
                  obtain ⟨hF_fv_363, hA_ar_365, fr_366, fa_367, wf_368, p_358, p_359, p_360, p_361, p_362, -⟩ := hw
                  have wf_368 : wd_364.2 = wd_335.2 := wf_368
                  have hP : va_P (dC, dI) vwCl (wsX ob ad cA fv_363 wd_364 ar_365) H1 := by have h9 := hB.1; rw [ht] at h9; exact h9
                  have fr_366 : fM [14, 16, 19, 20] fv_334 fv_363 := fr_366
                  have fa_367 : fA [41, 42, 43] ar_336 ar_365 := fa_367
                  have p_362 : eC fv_363 ar_365 := p_362
                  have p_359 : ∀ r9 : List Bool, rd_x T9 S9 2 ((fv_334 14).toInt.toNat) ((fv_334 17).toInt.toNat) r9 r_357 (fv_363 19) (fv_363 20) (fv_363 14) (fv_363 17) := p_359
                  have p_360 : r_357 = 1 → fv_363 19 = fv_334 19 := p_360
                  have p_361 : (fv_363 14).toInt ≤ (c9 : Int) := p_361
                  generalize H1 = H at hP hS ⊢
                  exact W.zret (v := r_357) hx hb hr (iv_nar p_358) (fun t ht hW => ⟨⟨r_357, (fv_363, wd_364, ar_365), rfl, ⟨hF_fv_363, hA_ar_365, (fM_call (fM_call (fM_put (fM_call (fM_rf [14, 16, 17, 19, 20] _) fr_8 (by decide)) efv_323 (by decide)) fr_337 (by decide)) fr_366 (by decide)), (fA_call (fA_call (fA_call (fA_rf [41, 42, 43] _) fa_9 (by decide)) fa_338 (by decide)) fa_367 (by decide)), (wf_368.trans (wf_339.trans wf_10)), p_358, (show ∀ r9 : List Bool, r9.length = 9 → rd_x T9 S9 0 ((fv 14).toInt.toNat) ((fv 17).toInt.toNat) r9 r_357 (fv_363 19) (fv_363 20) (fv_363 14) (fv_363 17) from fun r9 hr => by have : (fv_5 14).toInt = (fv 14).toInt := congrArg Int32.toInt ((fM_call (fM_rf [] _) fr_8 (by decide)) 14 rfl); have : (fv_323 14).toInt = (fv_5 14).toInt := congrArg Int32.toInt ((fM_put (fM_rf [17] _) efv_323 (by decide)) 14 rfl); have : (fv_5 17).toInt = (fv 17).toInt := congrArg Int32.toInt ((fM_call (fM_rf [] _) fr_8 (by decide)) 17 rfl); have : (fv_323 17).toInt = v_320.toInt := congrArg Int32.toInt (show fv_323 17 = v_320 from congrFun efv_323 17); have : (fv_334 17).toInt = (fv_323 17).toInt := congrArg Int32.toInt ((fM_call (fM_rf [14] _) fr_337 (by decide)) 17 rfl); have : (fv_363 17).toInt = (fv_334 17).toInt := congrArg Int32.toInt ((fM_call (fM_rf [14, 16, 19, 20] _) fr_366 (by decide)) 17 rfl); have h9 := p_359 r9; exact rd_x_of h9 (by rw [rd_m0_fact (by omega) (by rw [← zj_11]; omega) (by omega), show (fv 14).toInt.toNat + 1 = (fv_334 14).toInt.toNat from (by omega), show (fv 17).toInt.toNat + 1 = (fv_334 17).toInt.toNat from (by omega)])), (show r_357 = 1 → fv_363 19 = fv 19 from fun w => (show fv_363 19 = fv_363 19 from rfl).trans ((p_360 w).trans ((fM_call (fM_put (fM_call (fM_rf [14, 17] _) fr_8 (by decide)) efv_323 (by decide)) fr_337 (by decide)) 19 rfl))), (show (fv_363 14).toInt ≤ (c9 : Int) from by have : (fv_5 14).toInt = (fv 14).toInt := congrArg Int32.toInt ((fM_call (fM_rf [] _) fr_8 (by decide)) 14 rfl); have : (fv_323 14).toInt = (fv_5 14).toInt := congrArg Int32.toInt ((fM_put (fM_rf [17] _) efv_323 (by decide)) 14 rfl); have hp9 := p_361; omega), (show r_357 = 1 → (fv 17).toInt + 1 ≤ (fv_363 17).toInt from fun w => by have : (fv_5 17).toInt = (fv 17).toInt := congrArg Int32.toInt ((fM_call (fM_rf [] _) fr_8 (by decide)) 17 rfl); have : (fv_323 17).toInt = v_320.toInt := congrArg Int32.toInt (show fv_323 17 = v_320 from congrFun efv_323 17); have : (fv_334 17).toInt = (fv_323 17).toInt := congrArg Int32.toInt ((fM_call (fM_rf [14] _) fr_337 (by decide)) 17 rfl); have : (fv_363 17).toInt = (fv_334 17).toInt := congrArg Int32.toInt ((fM_call (fM_rf [14, 16, 19, 20] _) fr_366 (by decide)) 17 rfl); have hi9 : (fv_363 17).toInt = (fv_334 17).toInt := congrArg Int32.toInt ((fM_call (fM_rf [14, 16, 19, 20] _) fr_366 (by decide)) 17 rfl); omega), p_362, trivial⟩, ⟨by rw [ht]; exact hP, va_K.moved hW.alike hK⟩⟩, hS.F ht⟩) hS.2.2 dX3_readOne_175
                · skip
                  have i_369 : 2 ≤ v_344.toInt ∧ v_344.toInt ≤ 2 := iv_eq1 (⟨by decide, by decide⟩ : (2 : Int) ≤ (2 : Int32).toInt ∧ (2 : Int32).toInt ≤ 2) c_347
                  refine lv_aload_n hx hb dX3_readOne_154 rfl (lv_at hl 2 rfl) ?_
                  refine lv_iconst (v := 2) hx hb dX3_readOne_155 (by decide) ?_
                  refine lv_aload_n hx hb dX3_readOne_156 rfl (lv_at hl 1 rfl) ?_
                  refine va_getE hx hb hE lj_11 hS hown (q := tkcode) (List.mem_cons_of_mem _ (List.mem_cons_self ..)) (htg (.fieldLink RX3 168 "WalkingTown$Token" "code" "I") kw_9_67) (fun _ h9 => h9) dX3_readOne_157 ?_
                  refine lv_topi (fun v_371 ev_371 => ?_)
                  have i_372 : 0 ≤ v_371.toInt ∧ v_371.toInt ≤ 11 := ev_371 ▸ tk_code j_11
                  refine lv_iconst (v := 0) hx hb dX3_readOne_160 (by decide) ?_
                  refine va_calli (va_runV (As := [.int 2, .int v_371, .int 0]) (rest := []) ⟨hx, hb, hml, hown, hts⟩ (x_addCode l dC dI H.size ob ad cA hd fv_334 wd_335 ar_336 hF_fv_334 hA_ar_336 2 v_371 0 i_372 (eC_fr hp_eC (fM_call (fM_put (fM_call (fM_rf [14, 17] _) fr_8 (by decide)) efv_323 (by decide)) fr_337 (by decide)) (fA_call (fA_call (fA_rf [] _) fa_9 (by decide)) fa_338 (by decide)) rfl rfl rfl)) (cwV 3 hts (gV kw_4_150 kw_4_152 kw_p_14 kw_1_11 kw_4_153) rfl rfl rfl (by decide +kernel) ⟨Nat.le_of_ble_eq_true rfl, Nat.le_of_ble_eq_true rfl⟩) ⟨fun a U g mk q => ⟨q.1, q.2.1, q.2.2.1, va_K.moved (u := U) (U := U.calling g mk a) (Vm.Alike.refl U.vm) q.2.2.2⟩, va_recv hK hP (ci := 4) (q0 := 6) rfl rfl, fun U hU hW => ⟨rfl, by rw [hU], by rw [hU]; exact hP, va_K.moved hW.alike hK⟩⟩ rfl rfl hl.1 rfl (lv_room (Nat.le_of_ble_eq_true rfl)) dX3_readOne_161 ⟨Nat.le_of_ble_eq_true rfl, Nat.le_of_ble_eq_true rfl⟩) hS (fun q _ h9 => aX_up hS q h9) (aX_up hS) (fun r_373 u t H1 locs ht _ hw hB _ hk1 hS => ?_)
                  obtain ⟨fv_377, wd_378, ar_379⟩ := u
                  obtain ⟨hF_fv_377, hA_ar_379, fr_380, fa_381, wf_382, p_374, p_375, p_376, -⟩ := hw
                  have wf_382 : wd_378.2 = wd_335.2 := wf_382
                  have hP : va_P (dC, dI) vwCl (wsX ob ad cA fv_377 wd_378 ar_379) H1 := by have h9 := hB.1; rw [ht] at h9; exact h9
                  have fr_380 : fM [16] fv_334 fv_377 := fr_380
                  have fa_381 : fA [41, 42, 43] ar_336 ar_379 := fa_381
                  have p_376 : eC fv_377 ar_379 := p_376
                  generalize H1 = H at hP hS ⊢
                  rcases p_375 with ⟨rfl, p_375⟩
                  · skip
                    refine lv_goto (tgt := 175) hx hb dX3_readOne_164 (by decide) ?_
                    have z_383 : (1 : Int32).toInt = 1 := by decide
                    exact W.zret (v := 1) hx hb hr (by decide) (fun t ht hW => ⟨⟨1, (fv_377, wd_378, ar_379), rfl, ⟨hF_fv_377, hA_ar_379, (fM_call (fM_call (fM_put (fM_call (fM_rf [14, 16, 17, 19, 20] _) fr_8 (by decide)) efv_323 (by decide)) fr_337 (by decide)) fr_380 (by decide)), (fA_call (fA_call (fA_call (fA_rf [41, 42, 43] _) fa_9 (by decide)) fa_338 (by decide)) fa_381 (by decide)), (wf_382.trans (wf_339.trans wf_10)), (iv_w (⟨by decide, by decide⟩ : (1 : Int) ≤ (1 : Int32).toInt ∧ (1 : Int32).toInt ≤ 1) (by decide) (by decide)), (show ∀ r9 : List Bool, r9.length = 9 → rd_x T9 S9 0 ((fv 14).toInt.toNat) ((fv 17).toInt.toNat) r9 (1 : Int32) (fv_377 19) (fv_377 20) (fv_377 14) (fv_377 17) from fun r9 hr => by have : (fv_5 14).toInt = (fv 14).toInt := congrArg Int32.toInt ((fM_call (fM_rf [] _) fr_8 (by decide)) 14 rfl); have : (fv_323 14).toInt = (fv_5 14).toInt := congrArg Int32.toInt ((fM_put (fM_rf [17] _) efv_323 (by decide)) 14 rfl); have : (fv_377 14).toInt = (fv_334 14).toInt := congrArg Int32.toInt ((fM_call (fM_rf [16] _) fr_380 (by decide)) 14 rfl); have : (fv_5 17).toInt = (fv 17).toInt := congrArg Int32.toInt ((fM_call (fM_rf [] _) fr_8 (by decide)) 17 rfl); have : (fv_323 17).toInt = v_320.toInt := congrArg Int32.toInt (show fv_323 17 = v_320 from congrFun efv_323 17); have : (fv_334 17).toInt = (fv_323 17).toInt := congrArg Int32.toInt ((fM_call (fM_rf [14] _) fr_337 (by decide)) 17 rfl); have : (fv_377 17).toInt = (fv_334 17).toInt := congrArg Int32.toInt ((fM_call (fM_rf [16] _) fr_380 (by decide)) 17 rfl); exact rd_xO (by rw [rd_m0_flag (by omega) (by rw [← zj_11]; omega) (by omega), show (fv 14).toInt.toNat + 1 = (fv_377 14).toInt.toNat from (by omega), show (fv 17).toInt.toNat + 1 = (fv_377 17).toInt.toNat from (by omega)])), (show (1 : Int32) = 1 → fv_377 19 = fv 19 from fun _ => ((fM_call (fM_call (fM_put (fM_call (fM_rf [14, 16, 17] _) fr_8 (by decide)) efv_323 (by decide)) fr_337 (by decide)) fr_380 (by decide)) 19 rfl)), (show (fv_377 14).toInt ≤ (c9 : Int) from by have : (fv_5 14).toInt = (fv 14).toInt := congrArg Int32.toInt ((fM_call (fM_rf [] _) fr_8 (by decide)) 14 rfl); have : (fv_323 14).toInt = (fv_5 14).toInt := congrArg Int32.toInt ((fM_put (fM_rf [17] _) efv_323 (by decide)) 14 rfl); have : (fv_377 14).toInt = (fv_334 14).toInt := congrArg Int32.toInt ((fM_call (fM_rf [16] _) fr_380 (by decide)) 14 rfl); omega), (show (1 : Int32) = 1 → (fv 17).toInt + 1 ≤ (fv_377 17).toInt from fun w => by have : (fv_5 17).toInt = (fv 17).toInt := congrArg Int32.toInt ((fM_call (fM_rf [] _) fr_8 (by decide)) 17 rfl); have : (fv_323 17).toInt = v_320.toInt := congrArg Int32.toInt (show fv_323 17 = v_320 from congrFun efv_323 17); have : (fv_334 17).toInt = (fv_323 17).toInt := congrArg Int32.toInt ((fM_call (fM_rf [14] _) fr_337 (by decide)) 17 rfl); have : (fv_377 17).toInt = (fv_334 17).toInt := congrArg Int32.toInt ((fM_call (fM_rf [16] _) fr_380 (by decide)) 17 rfl); omega), p_376, trivial⟩, ⟨by rw [ht]; exact hP, va_K.moved hW.alike hK⟩⟩, hS.F ht⟩) hS.2.2 dX3_readOne_175
              · skip
                have k_384 : j_11 = 27 := hE.2 j_11 27 lj_11 (by decide) (Option.some.inj c_342)
                exfalso; omega
            · skip
              have k_385 : j_11 = 22 := hE.2 j_11 22 lj_11 (by decide) (Option.some.inj c_340)
              exfalso; omega
          · skip
            exact absurd True.intro (by have h7 := (⟨by decide, by decide⟩ : (10 : Int) ≤ (10 : Int32).toInt ∧ (10 : Int32).toInt ≤ 10); have h8 := h_wi; have h9 := Int32.le_iff_toInt_le.mp (Int32.not_lt.mp c_319); exfalso; omega)
      · skip
        exact absurd c_300 (by decide)
set_option maxHeartbeats 4000000 in
set_option maxRecDepth 100000 in
theorem x_readAllC_9 (l : Launch) (dC : Nat → ClassId) (dI : Nat → Nat → Nat) (sz : Nat) (ob ad : Nat → Nat) (cA : Nat → ClassId) (hd : dX ob ad) (fv : Nat → Int32) (wd : xT) (ar : Nat → Nat → Int32) (hF_fv : rX fv) (hA_ar : rB ar) (tA : Nat → Nat) (hto : tO tA wd.2.1) (T9 : Nat → Nat) (S9 : Nat → Nat) (N9 : Nat → Int) (c9 : Nat) (wi : Int32) (h_wi : 9 ≤ wi.toInt ∧ wi.toInt ≤ 9) (hcx : rd_cx tA T9 S9 N9 c9 wd.2.1 (ar 36) (ar 37)) (htc : (fv 13).toInt = (c9 : Int) + 1) (hpl : (fv 14).toInt ≤ (c9 : Int)) (h300 : c9 ≤ 300) (hT32 : ∀ k, T9 k < 32) (hfin : T9 c9 = 30 ∨ T9 c9 = 31) (hp_eC : eC fv ar) : Met l yX3_readAll (.code yX3_readAll cX3_readAll 3 (some .boolean) :: lw_good) ({ frames := 7, cells := 0, slots := 0, locals := 153 }) (va_Pc [.ref (ob 6), .int wi] (fun U => prX dC dI ob ad cA fv wd ar sz U ∧ tkA ob ad tA sz U)) (va_Qi (fun (r : Int32) (u : xS) => rX u.1 ∧ rB u.2.2 ∧ fM [14, 16, 17, 19, 20] fv u.1 ∧ fA [41, 42, 43] ar u.2.2 ∧ u.2.1.2 = wd.2 ∧ (0 ≤ r.toInt ∧ r.toInt ≤ 1) ∧ (∀ r9 : List Bool, r9.length = 9 → rd_dn r9 = r9 → rd_x T9 S9 0 ((fv 14).toInt.toNat) ((fv 17).toInt.toNat) r9 r (u.1 19) (u.1 20) (u.1 14) (u.1 17)) ∧ (r = 1 → u.1 19 = fv 19) ∧ ((u.1 14).toInt ≤ (c9 : Int)) ∧ (r = 1 → (fv 17).toInt + 1 ≤ (u.1 17).toInt) ∧ (r = 1 → ¬ T9 ((u.1 14).toInt.toNat) = 24) ∧ (eC u.1 u.2.2) ∧ True) (enX dC dI ob ad cA) (aX ob ad sz)) 0 0 (aX ob ad sz) := by
  refine Met.ofW (cc := cX3_readAll) (maxL := 3) (ret := (some .boolean)) (by decide) rfl ?_
  intro p e s m args below meth c s₁ B hml hv
  obtain ⟨rfl, ⟨hsz, hP, hK⟩, hE⟩ := hv
  have hx := B.exec
  have hb := B.bytes
  have hr := B.returns
  have hts := atoms_spec (ws := (.code yX3_readAll cX3_readAll 3 (some .boolean) :: lw_good)) B.pre
  have htg : ∀ w ∈ lw_good, w.before _ s = true := fun w hw => hts w (List.mem_cons_of_mem _ hw)
  have hown : s.vm.findClass RX3 = some m.cls := findClass_of_methodNamed B.named
  have hlocks := B.notSynchronized
  subst hsz
  have hS : va_S (aX ob ad s.heap.size) s.heap s.heap [] := va_S.rf
  have hl := lv_entry ([.ref (ob 6), .int wi]) (n := 3) (Nat.le_of_ble_eq_true rfl)
  rw [lg_entry_eq]
  generalize (lg_sl ([.ref (ob 6), .int wi]) ++ List.replicate (3 - (lg_sl ([.ref (ob 6), .int wi])).length) Slot.unset).toArray = ls at hl ⊢
  have hl : lv_has ls 3 [(0, .ref (ob 6)), (1, .int wi)] := hl
  have i_1 : 0 ≤ (fv 14).toInt ∧ (fv 14).toInt ≤ 300 := (by have h9 := hF_fv 14; have h8 : 0 ≤ (fv 14).toInt := h9.1; omega)
  refine lv_aload_n hx hb dX3_readAll_0 rfl (lv_at hl 0 rfl) ?_
  refine lv_iload_n hx hb dX3_readAll_1 rfl (lv_at hl 1 rfl) ?_
  have z_2 : 0 ≤ (fv 13).toInt ∧ (fv 13).toInt ≤ 301 := hF_fv 13
  have z_3 : 0 ≤ (fv 14).toInt ∧ (fv 14).toInt ≤ 300 := hF_fv 14
  have z_4 : 0 ≤ (fv 14).toInt ∧ (fv 14).toInt ≤ 300 := hF_fv 14
  have z_5 : 0 ≤ (fv 17).toInt ∧ (fv 17).toInt ≤ 50 := hF_fv 17
  refine va_calli (va_runV (As := [.int wi]) (rest := []) ⟨hx, hb, hml, hown, hts⟩ (x_readOneC_9 l dC dI s.heap.size ob ad cA hd fv wd ar hF_fv hA_ar tA hto T9 S9 N9 c9 wi h_wi hcx (by omega) (by omega) h300 hT32 hfin hp_eC) (cwV 1 hts (gV kw_4_144 kw_4_146 kw_p_13 kw_1_11 kw_4_147) rfl rfl rfl (by decide +kernel) ⟨Nat.le_of_ble_eq_true rfl, Nat.le_of_ble_eq_true rfl⟩) ⟨fun a U g mk q => ⟨q.1, ⟨q.2.1.1, q.2.1.2.1, va_K.moved (u := U) (U := U.calling g mk a) (Vm.Alike.refl U.vm) q.2.1.2.2⟩, tk_mv (U := U.calling g mk a) rfl (Vm.Alike.refl U.vm) q.2.2⟩, va_recv hK hP (ci := 4) (q0 := 6) rfl rfl, fun U hU hW => ⟨rfl, ⟨by rw [hU], by rw [hU]; exact hP, va_K.moved hW.alike hK⟩, tk_pass hE hS hU hW.alike⟩⟩ rfl rfl hl.1 rfl (lv_room (Nat.le_of_ble_eq_true rfl)) dX3_readAll_2 ⟨Nat.le_of_ble_eq_true rfl, Nat.le_of_ble_eq_true rfl⟩) hS (fun q _ h9 => aX_up hS q h9) (aX_up hS) (fun r_6 u t H1 locs ht _ hw hB _ hk1 hS => ?_)
  obtain ⟨fv_13, wd_14, ar_15⟩ := u
  obtain ⟨hF_fv_13, hA_ar_15, fr_16, fa_17, wf_18, p_7, p_8, p_9, p_10, p_11, p_12, -⟩ := hw
  have wf_18 : wd_14.2 = wd.2 := wf_18
  have hP : va_P (dC, dI) vwCl (wsX ob ad cA fv_13 wd_14 ar_15) H1 := by have h9 := hB.1; rw [ht] at h9; exact h9
  have fr_16 : fM [14, 16, 17, 19, 20] fv fv_13 := fr_16
  have fa_17 : fA [41, 42, 43] ar ar_15 := fa_17
  have p_12 : eC fv_13 ar_15 := p_12
  have p_8 : ∀ r9 : List Bool, r9.length = 9 → rd_x T9 S9 0 ((fv 14).toInt.toNat) ((fv 17).toInt.toNat) r9 r_6 (fv_13 19) (fv_13 20) (fv_13 14) (fv_13 17) := p_8
  have p_9 : r_6 = 1 → fv_13 19 = fv 19 := p_9
  have p_10 : (fv_13 14).toInt ≤ (c9 : Int) := p_10
  have p_11 : r_6 = 1 → (fv 17).toInt + 1 ≤ (fv_13 17).toInt := p_11
  generalize H1 = H at hP hS ⊢
  refine lv_if_ne (tgt := 10) hx hb dX3_readAll_5 (by decide) (fun c_19 => ?_) (fun c_19 => ?_)
  · skip
    have i_20 : 1 ≤ r_6.toInt ∧ r_6.toInt ≤ 1 := iv_nel p_7 (by decide) c_19
    have k_21 : ¬ r_6.toInt = 0 := fun q => c_19 (Int32.toInt_inj.mp q)
    refine lv_iconst (v := 0) hx hb dX3_readAll_10 (by decide) ?_
    refine lv_istore_n (lv' := [(2, .int 0), (0, .ref (ob 6)), (1, .int wi)]) hx hb dX3_readAll_11 rfl hl (by decide) rfl (fun ls hl => ?_)
    refine my_cut (P := fun R9 a9 Q9 => ∀ (n_34 : Nat) (x_22 : Int32) (fv_23 : Nat → Int32) (ar_25 : Nat → Nat → Int32) (wd_27 : xT) (H : Heap) (locs : List Loc) (ls : Array Slot), 50 - x_22.toInt < (n_34 : Int) → (0 ≤ x_22.toInt ∧ x_22.toInt ≤ 50) → rX fv_23 → fM [14, 16, 17, 19, 20] fv_13 fv_23 → rB ar_25 → fA [41, 42, 43] ar_15 ar_25 → wd_27.2 = wd_14.2 → eC fv_23 ar_25 → (∀ r9 : List Bool, r9.length = 9 → rd_dn r9 = r9 → rd_m T9 0 ((fv 14).toInt.toNat) ((fv 17).toInt.toNat) r9 = rd_m T9 1 ((fv_23 14).toInt.toNat) ((fv_23 17).toInt.toNat) r9) → ((fv_23 14).toInt ≤ (c9 : Int)) → (fv_23 19 = fv 19) → (x_22.toInt + (fv 17).toInt + 1 ≤ (fv_23 17).toInt) → va_P (dC, dI) vwCl (wsX ob ad cA fv_23 wd_27 ar_25) H → va_S (aX ob ad s.heap.size) s.heap H locs → lv_has ls 3 [(0, .ref (ob 6)), (1, .int wi), (2, .int x_22)] → W p l e R9 s m a9 below meth c H locs 0 0 Q9 (F0 m 12 ls [])) ?_ (fun hj_36 => ?_)
    · intro n_34
      induction n_34 with
      | zero => intro x_22 fv_23 ar_25 wd_27 H locs ls fu_35 i_x_22 hF_fv_23 fr_24 hA_ar_25 fa_26 wf_28 hp_29 q_30 q_31 q_32 q_33; exfalso; omega
      | succ n_34 ih_34 =>
        intro x_22 fv_23 ar_25 wd_27 H locs ls fu_35 i_x_22 hF_fv_23 fr_24 hA_ar_25 fa_26 wf_28 hp_29 q_30 q_31 q_32 q_33 hP hS hl
        refine lv_iload_n hx hb dX3_readAll_12 rfl (lv_at hl 2 rfl) ?_
        refine lv_bipush (v := 50) hx hb dX3_readAll_13 (by decide) ?_
        have z_37 : 0 ≤ (fv_23 17).toInt ∧ (fv_23 17).toInt ≤ 50 := hF_fv_23 17
        have z_38 : 0 ≤ (fv_23 14).toInt ∧ (fv_23 14).toInt ≤ 300 := hF_fv_23 14
        have z50 : (50 : Int32).toInt = 50 := by decide
        refine lv_icmp_ge (tgt := 56) hx hb dX3_readAll_15 (by decide) (fun c_39 => ?_) (fun c_39 => ?_)
        · skip
          exact absurd True.intro (by have h9 := Int32.le_iff_toInt_le.mp c_39; exfalso; omega)
        · skip
          have i_40 : 0 ≤ x_22.toInt ∧ x_22.toInt ≤ 49 := iv_lt1 i_x_22 (⟨by decide, by decide⟩ : (50 : Int) ≤ (50 : Int32).toInt ∧ (50 : Int32).toInt ≤ 50) (Int32.not_le.mp c_39)
          refine lv_aload_n hx hb dX3_readAll_18 rfl (lv_at hl 0 rfl) ?_
          have z_41 : (fv_23 13).toInt = (fv 13).toInt := congrArg Int32.toInt ((fr_24 13 rfl).trans ((fr_16 13 rfl)))
          have z_42 : 0 ≤ (fv_23 13).toInt ∧ (fv_23 13).toInt ≤ 301 := hF_fv_23 13
          have z_43 : 0 ≤ (fv_23 14).toInt ∧ (fv_23 14).toInt ≤ 300 := hF_fv_23 14
          refine va_callr (va_runV (As := []) (rest := []) ⟨hx, hb, hml, hown, hts⟩ (x_tokenC l dC dI H.size ob ad cA hd fv_23 wd_27 ar_25 hF_fv_23 hA_ar_25 tA (tO_w hto (wf_28.trans wf_18)) T9 S9 N9 c9 (rd_cx_eq hcx (congrArg (fun z => z.1) (wf_28.trans wf_18)) ((fA_call (fA_call (fA_rf [41, 42, 43] _) fa_17 (by decide)) fa_26 (by decide)) 36 rfl) ((fA_call (fA_call (fA_rf [41, 42, 43] _) fa_17 (by decide)) fa_26 (by decide)) 37 rfl)) (by omega) (by omega) h300 hT32 hfin) (cwV 0 hts (gV kw_4_102 kw_4_104 kw_p_4 kw_1_11 kw_4_105) rfl rfl rfl (by decide +kernel) ⟨Nat.le_of_ble_eq_true rfl, Nat.le_of_ble_eq_true rfl⟩) ⟨fun a U g mk q => ⟨q.1, ⟨q.2.1.1, q.2.1.2.1, va_K.moved (u := U) (U := U.calling g mk a) (Vm.Alike.refl U.vm) q.2.1.2.2⟩, tk_mv (U := U.calling g mk a) rfl (Vm.Alike.refl U.vm) q.2.2⟩, va_recv hK hP (ci := 4) (q0 := 6) rfl rfl, fun U hU hW => ⟨rfl, ⟨by rw [hU], by rw [hU]; exact hP, va_K.moved hW.alike hK⟩, tk_pass hE hS hU hW.alike⟩⟩ rfl rfl hl.1 rfl (lv_room (Nat.le_of_ble_eq_true rfl)) dX3_readAll_19 ⟨Nat.le_of_ble_eq_true rfl, Nat.le_of_ble_eq_true rfl⟩) hS (fun q _ h9 => aX_up hS q h9) (aX_up hS) (fun u r_44 t H1 locs ht _ hw hB _ hk1 hS => ?_)
          obtain ⟨fv_45, wd_46, ar_47⟩ := u
          obtain ⟨hF_fv_45, hA_ar_47, fr_48, fa_49, wf_50, -⟩ := hw
          have wf_50 : wd_46.2 = wd_27.2 := wf_50
          have hP : va_P (dC, dI) vwCl (wsX ob ad cA fv_45 wd_46 ar_47) H1 := by have h9 := hB.1.1; rw [ht] at h9; exact h9
          have fr_48 : fM [] fv_23 fv_45 := fr_48
          have fa_49 : fA [] ar_25 ar_47 := fa_49
          generalize H1 = H at hP hS ⊢
          obtain ⟨j_51, lj_51, rj_51, zj_51⟩ := hB.2
          subst rj_51
          refine va_gets hx hb (hE.1 24 (by decide)).1 hS hown (htg (.fieldLink RX3 206 "WalkingTown$Token" "AND" "LWalkingTown$Token;") kw_4_160) (fun _ h9 => h9) dX3_readAll_22 ?_
          refine lv_acmp_ne (rx := some (tA j_51)) (ry := some (tA 24)) (tgt := 56) hx hb dX3_readAll_25 (by decide) (fun c_52 => ?_) (fun c_52 => ?_)
          · skip
            have k_53 : ¬ j_51 = 24 := fun w => c_52 (by rw [w])
            refine lv_iconst (v := 1) hx hb dX3_readAll_56 (by decide) ?_
            have z_54 : (1 : Int32).toInt = 1 := by decide
            exact W.zret (v := 1) hx hb hr (by decide) (fun t ht hW => ⟨⟨1, (fv_45, wd_46, ar_47), rfl, ⟨hF_fv_45, hA_ar_47, (fM_call (fM_call (fM_call (fM_rf [14, 16, 17, 19, 20] _) fr_16 (by decide)) fr_24 (by decide)) fr_48 (by decide)), (fA_call (fA_call (fA_call (fA_rf [41, 42, 43] _) fa_17 (by decide)) fa_26 (by decide)) fa_49 (by decide)), (wf_50.trans (wf_28.trans wf_18)), (iv_w (⟨by decide, by decide⟩ : (1 : Int) ≤ (1 : Int32).toInt ∧ (1 : Int32).toInt ≤ 1) (by decide) (by decide)), (show ∀ r9 : List Bool, r9.length = 9 → rd_dn r9 = r9 → rd_x T9 S9 0 ((fv 14).toInt.toNat) ((fv 17).toInt.toNat) r9 (1 : Int32) (fv_45 19) (fv_45 20) (fv_45 14) (fv_45 17) from fun r9 hr hd => by have : (fv_45 14).toInt = (fv_23 14).toInt := congrArg Int32.toInt ((fM_call (fM_rf [] _) fr_48 (by decide)) 14 rfl); have : (fv_45 17).toInt = (fv_23 17).toInt := congrArg Int32.toInt ((fM_call (fM_rf [] _) fr_48 (by decide)) 17 rfl); exact rd_xO (by rw [show fv_45 14 = fv_23 14 from ((fM_call (fM_rf [] _) fr_48 (by decide)) 14 rfl), show fv_45 17 = fv_23 17 from ((fM_call (fM_rf [] _) fr_48 (by decide)) 17 rfl)]; exact q_30 r9 hr hd)), (show (1 : Int32) = 1 → fv_45 19 = fv 19 from fun _ => (show fv_45 19 = fv_23 19 from ((fM_call (fM_rf [] _) fr_48 (by decide)) 19 rfl)).trans q_32), (show (fv_45 14).toInt ≤ (c9 : Int) from by have : (fv_45 14).toInt = (fv_23 14).toInt := congrArg Int32.toInt ((fM_call (fM_rf [] _) fr_48 (by decide)) 14 rfl); have hp9 := p_10; omega), (show (1 : Int32) = 1 → (fv 17).toInt + 1 ≤ (fv_45 17).toInt from fun _ => by have : (fv_45 17).toInt = (fv_23 17).toInt := congrArg Int32.toInt ((fM_call (fM_rf [] _) fr_48 (by decide)) 17 rfl); omega), (show (1 : Int32) = 1 → ¬ T9 ((fv_45 14).toInt.toNat) = 24 from fun _ => by have : (fv_45 14).toInt = (fv_23 14).toInt := congrArg Int32.toInt ((fM_call (fM_rf [] _) fr_48 (by decide)) 14 rfl); have hz9 : ¬ T9 ((fv_45 14).toInt.toNat) = 24 := (by rw [show (fv_45 14).toInt.toNat = (fv_23 14).toInt.toNat from (by omega), ← zj_51]; omega); omega), (eC_fr hp_29 (fM_call (fM_rf [] _) fr_48 (by decide)) (fA_call (fA_rf [] _) fa_49 (by decide)) rfl rfl rfl), trivial⟩, ⟨by rw [ht]; exact hP, va_K.moved hW.alike hK⟩⟩, hS.F ht⟩) hS.2.2 dX3_readAll_57
          · skip
            have k_55 : j_51 = 24 := hE.2 j_51 24 lj_51 (by decide) (Option.some.inj c_52)
            refine lv_aload_n hx hb dX3_readAll_28 rfl (lv_at hl 0 rfl) ?_
            have z_56 : (fv_45 13).toInt = (fv 13).toInt := congrArg Int32.toInt ((fr_48 13 rfl).trans ((fr_24 13 rfl).trans ((fr_16 13 rfl))))
            have z_57 : 0 ≤ (fv_45 13).toInt ∧ (fv_45 13).toInt ≤ 301 := hF_fv_45 13
            have z_58 : (fv_45 14).toInt = (fv_23 14).toInt := congrArg Int32.toInt ((fr_48 14 rfl))
            have z_59 : 0 ≤ (fv_45 14).toInt ∧ (fv_45 14).toInt ≤ 300 := hF_fv_45 14
            have z_60 : (fv_45 13).toInt = (fv 13).toInt := congrArg Int32.toInt ((fr_48 13 rfl).trans ((fr_24 13 rfl).trans ((fr_16 13 rfl))))
            have z_61 : 0 ≤ (fv_45 13).toInt ∧ (fv_45 13).toInt ≤ 301 := hF_fv_45 13
            have z_62 : (fv_45 14).toInt = (fv_23 14).toInt := congrArg Int32.toInt ((fr_48 14 rfl))
            have z_63 : 0 ≤ (fv_45 14).toInt ∧ (fv_45 14).toInt ≤ 300 := hF_fv_45 14
            refine va_callv (va_runV (As := []) (rest := []) ⟨hx, hb, hml, hown, hts⟩ (x_stepC l dC dI H.size ob ad cA hd fv_45 wd_46 ar_47 hF_fv_45 hA_ar_47 (by have h9 := rd_lt hfin (p := (fv_23 14).toInt.toNat) (by omega) (by rw [← zj_51]; omega); omega)) (cwV 0 hts (gV kw_4_116 kw_4_118 kw_p_7 kw_1_11 kw_4_119) rfl rfl rfl (by decide +kernel) ⟨Nat.le_of_ble_eq_true rfl, Nat.le_of_ble_eq_true rfl⟩) ⟨fun a U g mk q => ⟨q.1, q.2.1, q.2.2.1, va_K.moved (u := U) (U := U.calling g mk a) (Vm.Alike.refl U.vm) q.2.2.2⟩, va_recv hK hP (ci := 4) (q0 := 6) rfl rfl, fun U hU hW => ⟨rfl, by rw [hU], by rw [hU]; exact hP, va_K.moved hW.alike hK⟩⟩ rfl rfl hl.1 rfl (lv_room (Nat.le_of_ble_eq_true rfl)) dX3_readAll_29 ⟨Nat.le_of_ble_eq_true rfl, Nat.le_of_ble_eq_true rfl⟩) hS (fun q _ h9 => aX_up hS q h9) (aX_up hS) (fun u t H1 locs ht _ hw hB _ hk1 hS => ?_)
            obtain ⟨fv_66, wd_67, ar_68⟩ := u
            obtain ⟨hF_fv_66, hA_ar_68, fr_69, fa_70, wf_71, p_65, -⟩ := hw
            have wf_71 : wd_67.2 = wd_46.2 := wf_71
            have hP : va_P (dC, dI) vwCl (wsX ob ad cA fv_66 wd_67 ar_68) H1 := by have h9 := hB.1; rw [ht] at h9; exact h9
            have fr_69 : fM [14] fv_45 fv_66 := fr_69
            have fa_70 : fA [] ar_47 ar_68 := fa_70
            have p_65 : (fv_66 14).toInt = (fv_45 14).toInt + 1 ∧ (fv_66 14).toInt ≤ (fv_45 13).toInt - 1 := p_65
            generalize H1 = H at hP hS ⊢
            refine lv_aload_n hx hb dX3_readAll_32 rfl (lv_at hl 0 rfl) ?_
            refine lv_iload_n hx hb dX3_readAll_33 rfl (lv_at hl 1 rfl) ?_
            have z_72 : (fv_66 13).toInt = (fv 13).toInt := congrArg Int32.toInt ((fr_69 13 rfl).trans ((fr_48 13 rfl).trans ((fr_24 13 rfl).trans ((fr_16 13 rfl)))))
            have z_73 : 0 ≤ (fv_66 13).toInt ∧ (fv_66 13).toInt ≤ 301 := hF_fv_66 13
            have z_74 : 0 ≤ (fv_66 14).toInt ∧ (fv_66 14).toInt ≤ 300 := hF_fv_66 14
            have z_75 : 0 ≤ (fv_66 14).toInt ∧ (fv_66 14).toInt ≤ 300 := hF_fv_66 14
            have z_76 : (fv_66 17).toInt = (fv_23 17).toInt := congrArg Int32.toInt ((fr_69 17 rfl).trans ((fr_48 17 rfl)))
            have z_77 : 0 ≤ (fv_66 17).toInt ∧ (fv_66 17).toInt ≤ 50 := hF_fv_66 17
            refine va_calli (va_runV (As := [.int wi]) (rest := []) ⟨hx, hb, hml, hown, hts⟩ (x_readOneC_9 l dC dI H.size ob ad cA hd fv_66 wd_67 ar_68 hF_fv_66 hA_ar_68 tA (tO_w hto (wf_71.trans (wf_50.trans (wf_28.trans wf_18)))) T9 S9 N9 c9 wi h_wi (rd_cx_eq hcx (congrArg (fun z => z.1) (wf_71.trans (wf_50.trans (wf_28.trans wf_18)))) ((fA_call (fA_call (fA_call (fA_call (fA_rf [41, 42, 43] _) fa_17 (by decide)) fa_26 (by decide)) fa_49 (by decide)) fa_70 (by decide)) 36 rfl) ((fA_call (fA_call (fA_call (fA_call (fA_rf [41, 42, 43] _) fa_17 (by decide)) fa_26 (by decide)) fa_49 (by decide)) fa_70 (by decide)) 37 rfl)) (by omega) (by omega) h300 hT32 hfin (eC_fr hp_29 (fM_call (fM_call (fM_rf [14] _) fr_48 (by decide)) fr_69 (by decide)) (fA_call (fA_call (fA_rf [] _) fa_49 (by decide)) fa_70 (by decide)) rfl rfl rfl)) (cwV 1 hts (gV kw_4_144 kw_4_146 kw_p_13 kw_1_11 kw_4_147) rfl rfl rfl (by decide +kernel) ⟨Nat.le_of_ble_eq_true rfl, Nat.le_of_ble_eq_true rfl⟩) ⟨fun a U g mk q => ⟨q.1, ⟨q.2.1.1, q.2.1.2.1, va_K.moved (u := U) (U := U.calling g mk a) (Vm.Alike.refl U.vm) q.2.1.2.2⟩, tk_mv (U := U.calling g mk a) rfl (Vm.Alike.refl U.vm) q.2.2⟩, va_recv hK hP (ci := 4) (q0 := 6) rfl rfl, fun U hU hW => ⟨rfl, ⟨by rw [hU], by rw [hU]; exact hP, va_K.moved hW.alike hK⟩, tk_pass hE hS hU hW.alike⟩⟩ rfl rfl hl.1 rfl (lv_room (Nat.le_of_ble_eq_true rfl)) dX3_readAll_34 ⟨Nat.le_of_ble_eq_true rfl, Nat.le_of_ble_eq_true rfl⟩) hS (fun q _ h9 => aX_up hS q h9) (aX_up hS) (fun r_78 u t H1 locs ht _ hw hB _ hk1 hS => ?_)
            obtain ⟨fv_85, wd_86, ar_87⟩ := u
            obtain ⟨hF_fv_85, hA_ar_87, fr_88, fa_89, wf_90, p_79, p_80, p_81, p_82, p_83, p_84, -⟩ := hw
            have wf_90 : wd_86.2 = wd_67.2 := wf_90
            have hP : va_P (dC, dI) vwCl (wsX ob ad cA fv_85 wd_86 ar_87) H1 := by have h9 := hB.1; rw [ht] at h9; exact h9
            have fr_88 : fM [14, 16, 17, 19, 20] fv_66 fv_85 := fr_88
            have fa_89 : fA [41, 42, 43] ar_68 ar_87 := fa_89
            have p_84 : eC fv_85 ar_87 := p_84
            have p_80 : ∀ r9 : List Bool, r9.length = 9 → rd_x T9 S9 0 ((fv_66 14).toInt.toNat) ((fv_66 17).toInt.toNat) r9 r_78 (fv_85 19) (fv_85 20) (fv_85 14) (fv_85 17) := p_80
            have p_81 : r_78 = 1 → fv_85 19 = fv_66 19 := p_81
            have p_82 : (fv_85 14).toInt ≤ (c9 : Int) := p_82
            have p_83 : r_78 = 1 → (fv_66 17).toInt + 1 ≤ (fv_85 17).toInt := p_83
            generalize H1 = H at hP hS ⊢
            refine lv_if_ne (tgt := 42) hx hb dX3_readAll_37 (by decide) (fun c_91 => ?_) (fun c_91 => ?_)
            · skip
              have i_92 : 1 ≤ r_78.toInt ∧ r_78.toInt ≤ 1 := iv_nel p_79 (by decide) c_91
              have k_93 : ¬ r_78.toInt = 0 := fun q => c_91 (Int32.toInt_inj.mp q)
              refine lv_aload_n hx hb dX3_readAll_42 rfl (lv_at hl 0 rfl) ?_
              refine lv_iconst (v := 4) hx hb dX3_readAll_43 (by decide) ?_
              refine lv_iconst (v := 0) hx hb dX3_readAll_44 (by decide) ?_
              refine lv_iconst (v := 0) hx hb dX3_readAll_45 (by decide) ?_
              refine va_calli (va_runV (As := [.int 4, .int 0, .int 0]) (rest := []) ⟨hx, hb, hml, hown, hts⟩ (x_addCode l dC dI H.size ob ad cA hd fv_85 wd_86 ar_87 hF_fv_85 hA_ar_87 4 0 0 (iv_w (⟨by decide, by decide⟩ : (0 : Int) ≤ (0 : Int32).toInt ∧ (0 : Int32).toInt ≤ 0) (by decide) (by decide)) p_84) (cwV 3 hts (gV kw_4_150 kw_4_152 kw_p_14 kw_1_11 kw_4_153) rfl rfl rfl (by decide +kernel) ⟨Nat.le_of_ble_eq_true rfl, Nat.le_of_ble_eq_true rfl⟩) ⟨fun a U g mk q => ⟨q.1, q.2.1, q.2.2.1, va_K.moved (u := U) (U := U.calling g mk a) (Vm.Alike.refl U.vm) q.2.2.2⟩, va_recv hK hP (ci := 4) (q0 := 6) rfl rfl, fun U hU hW => ⟨rfl, by rw [hU], by rw [hU]; exact hP, va_K.moved hW.alike hK⟩⟩ rfl rfl hl.1 rfl (lv_room (Nat.le_of_ble_eq_true rfl)) dX3_readAll_46 ⟨Nat.le_of_ble_eq_true rfl, Nat.le_of_ble_eq_true rfl⟩) hS (fun q _ h9 => aX_up hS q h9) (aX_up hS) (fun r_94 u t H1 locs ht _ hw hB _ hk1 hS => ?_)
              obtain ⟨fv_98, wd_99, ar_100⟩ := u
              obtain ⟨hF_fv_98, hA_ar_100, fr_101, fa_102, wf_103, p_95, p_96, p_97, -⟩ := hw
              have wf_103 : wd_99.2 = wd_86.2 := wf_103
              have hP : va_P (dC, dI) vwCl (wsX ob ad cA fv_98 wd_99 ar_100) H1 := by have h9 := hB.1; rw [ht] at h9; exact h9
              have fr_101 : fM [16] fv_85 fv_98 := fr_101
              have fa_102 : fA [41, 42, 43] ar_87 ar_100 := fa_102
              have p_97 : eC fv_98 ar_100 := p_97
              generalize H1 = H at hP hS ⊢
              rcases p_96 with ⟨rfl, p_96⟩
              · skip
                refine lv_pop hx hb dX3_readAll_49 rfl ?_
                obtain ⟨v_104, ev_104⟩ : ∃ z : Int32, z = x_22 + 1 := ⟨_, rfl⟩
                refine lv_iinc (v := v_104) (lv' := [(2, .int v_104), (0, .ref (ob 6)), (1, .int wi)]) hx hb dX3_readAll_50 hl (k := 2) rfl (by rw [ev_104]; rfl) (by decide) rfl (fun ls hl => ?_)
                have t_105 : v_104.toInt = x_22.toInt + 1 ∧ 1 ≤ v_104.toInt ∧ v_104.toInt ≤ 50 := iv_addc ev_104 i_40 (by decide) (by decide) (by decide)
                refine lv_goto (tgt := 12) hx hb dX3_readAll_53 (by decide) ?_
                have z_110 : (fv_98 17).toInt = (fv_85 17).toInt := congrArg Int32.toInt ((fr_101 17 rfl))
                have z_111 : 0 ≤ (fv_98 17).toInt ∧ (fv_98 17).toInt ≤ 50 := hF_fv_98 17
                have z_112 : (fv_98 14).toInt = (fv_85 14).toInt := congrArg Int32.toInt ((fr_101 14 rfl))
                have z_113 : 0 ≤ (fv_98 14).toInt ∧ (fv_98 14).toInt ≤ 300 := hF_fv_98 14
                exact ih_34 v_104 fv_98 ar_100 wd_99 _ _ ls (by omega) (iv_w t_105.2 (by decide) (by decide)) hF_fv_98 (fM_call (fM_call (fM_call (fM_call (fM_call (fM_rf [14, 16, 17, 19, 20] _) fr_24 (by decide)) fr_48 (by decide)) fr_69 (by decide)) fr_88 (by decide)) fr_101 (by decide)) hA_ar_100 (fA_call (fA_call (fA_call (fA_call (fA_call (fA_rf [41, 42, 43] _) fa_26 (by decide)) fa_49 (by decide)) fa_70 (by decide)) fa_89 (by decide)) fa_102 (by decide)) (wf_103.trans (wf_90.trans (wf_71.trans (wf_50.trans wf_28)))) p_97 (fun r9 hr hd => by have : (fv_45 14).toInt = (fv_23 14).toInt := congrArg Int32.toInt ((fM_call (fM_rf [] _) fr_48 (by decide)) 14 rfl); have : (fv_98 14).toInt = (fv_85 14).toInt := congrArg Int32.toInt ((fM_call (fM_rf [16] _) fr_101 (by decide)) 14 rfl); have : (fv_45 17).toInt = (fv_23 17).toInt := congrArg Int32.toInt ((fM_call (fM_rf [] _) fr_48 (by decide)) 17 rfl); have : (fv_66 17).toInt = (fv_45 17).toInt := congrArg Int32.toInt ((fM_call (fM_rf [14] _) fr_69 (by decide)) 17 rfl); have : (fv_98 17).toInt = (fv_85 17).toInt := congrArg Int32.toInt ((fM_call (fM_rf [16] _) fr_101 (by decide)) 17 rfl); rcases p_80 r9 hr with ⟨a, b, q, o2, c, d⟩ | ⟨a, b⟩; exact absurd (congrArg Int32.toInt a) (by rw [show (0 : Int32).toInt = 0 from (by decide)]; omega); rw [show fv_98 14 = fv_85 14 from ((fM_call (fM_rf [16] _) fr_101 (by decide)) 14 rfl), show fv_98 17 = fv_85 17 from ((fM_call (fM_rf [16] _) fr_101 (by decide)) 17 rfl)]; rw [q_30 r9 hr hd, show (fv_23 14).toInt.toNat = (fv_23 14).toInt.toNat from (by omega), rd_m1_join (by omega) (Or.inl (by rw [← zj_51]; omega)) hd, show (fv_23 14).toInt.toNat + 1 = (fv_66 14).toInt.toNat from (by omega), show (fv_23 17).toInt.toNat = (fv_66 17).toInt.toNat from (by omega)]; exact b) (by have : (fv_45 14).toInt = (fv_23 14).toInt := congrArg Int32.toInt ((fM_call (fM_rf [] _) fr_48 (by decide)) 14 rfl); have : (fv_98 14).toInt = (fv_85 14).toInt := congrArg Int32.toInt ((fM_call (fM_rf [16] _) fr_101 (by decide)) 14 rfl); have : (fv_45 17).toInt = (fv_23 17).toInt := congrArg Int32.toInt ((fM_call (fM_rf [] _) fr_48 (by decide)) 17 rfl); have : (fv_66 17).toInt = (fv_45 17).toInt := congrArg Int32.toInt ((fM_call (fM_rf [14] _) fr_69 (by decide)) 17 rfl); have : (fv_98 17).toInt = (fv_85 17).toInt := congrArg Int32.toInt ((fM_call (fM_rf [16] _) fr_101 (by decide)) 17 rfl); have hp9 := p_82; omega) ((show fv_98 19 = fv_85 19 from ((fM_call (fM_rf [16] _) fr_101 (by decide)) 19 rfl)).trans ((p_81 (Int32.toInt_inj.mp (by rw [show (1 : Int32).toInt = 1 from (by decide)]; omega))).trans (show fv_66 19 = fv 19 from (show fv_66 19 = fv_23 19 from ((fM_call (fM_call (fM_rf [14] _) fr_48 (by decide)) fr_69 (by decide)) 19 rfl)).trans q_32))) (by have : (fv_45 14).toInt = (fv_23 14).toInt := congrArg Int32.toInt ((fM_call (fM_rf [] _) fr_48 (by decide)) 14 rfl); have : (fv_98 14).toInt = (fv_85 14).toInt := congrArg Int32.toInt ((fM_call (fM_rf [16] _) fr_101 (by decide)) 14 rfl); have : (fv_45 17).toInt = (fv_23 17).toInt := congrArg Int32.toInt ((fM_call (fM_rf [] _) fr_48 (by decide)) 17 rfl); have : (fv_66 17).toInt = (fv_45 17).toInt := congrArg Int32.toInt ((fM_call (fM_rf [14] _) fr_69 (by decide)) 17 rfl); have : (fv_98 17).toInt = (fv_85 17).toInt := congrArg Int32.toInt ((fM_call (fM_rf [16] _) fr_101 (by decide)) 17 rfl); have hi9 := p_83 (Int32.toInt_inj.mp (by rw [show (1 : Int32).toInt = 1 from (by decide)]; omega)); omega) hP hS (lv_sub hl [1, 2, 0] rfl)
            · skip
              have i_107 : 0 ≤ r_78.toInt ∧ r_78.toInt ≤ 0 := iv_eq1 (⟨by decide, by decide⟩ : (0 : Int) ≤ (0 : Int32).toInt ∧ (0 : Int32).toInt ≤ 0) c_91
              refine lv_iconst (v := 0) hx hb dX3_readAll_40 (by decide) ?_
              have z_109 : (0 : Int32).toInt = 0 := by decide
              exact W.zret (v := 0) hx hb hr (by decide) (fun t ht hW => ⟨⟨0, (fv_85, wd_86, ar_87), rfl, ⟨hF_fv_85, hA_ar_87, (fM_call (fM_call (fM_call (fM_call (fM_call (fM_rf [14, 16, 17, 19, 20] _) fr_16 (by decide)) fr_24 (by decide)) fr_48 (by decide)) fr_69 (by decide)) fr_88 (by decide)), (fA_call (fA_call (fA_call (fA_call (fA_call (fA_rf [41, 42, 43] _) fa_17 (by decide)) fa_26 (by decide)) fa_49 (by decide)) fa_70 (by decide)) fa_89 (by decide)), (wf_90.trans (wf_71.trans (wf_50.trans (wf_28.trans wf_18)))), (iv_w (⟨by decide, by decide⟩ : (0 : Int) ≤ (0 : Int32).toInt ∧ (0 : Int32).toInt ≤ 0) (by decide) (by decide)), (show ∀ r9 : List Bool, r9.length = 9 → rd_dn r9 = r9 → rd_x T9 S9 0 ((fv 14).toInt.toNat) ((fv 17).toInt.toNat) r9 (0 : Int32) (fv_85 19) (fv_85 20) (fv_85 14) (fv_85 17) from fun r9 hr hd => by have : (fv_45 14).toInt = (fv_23 14).toInt := congrArg Int32.toInt ((fM_call (fM_rf [] _) fr_48 (by decide)) 14 rfl); have : (fv_45 17).toInt = (fv_23 17).toInt := congrArg Int32.toInt ((fM_call (fM_rf [] _) fr_48 (by decide)) 17 rfl); have : (fv_66 17).toInt = (fv_45 17).toInt := congrArg Int32.toInt ((fM_call (fM_rf [14] _) fr_69 (by decide)) 17 rfl); rcases p_80 r9 hr with ⟨a, b, q, o2, c, d⟩ | ⟨a, b⟩; exact Or.inl ⟨rfl, b, q, o2, (by rw [q_30 r9 hr hd, show (fv_23 14).toInt.toNat = (fv_23 14).toInt.toNat from (by omega), rd_m1_join (by omega) (Or.inl (by rw [← zj_51]; omega)) hd, show (fv_23 14).toInt.toNat + 1 = (fv_66 14).toInt.toNat from (by omega), show (fv_23 17).toInt.toNat = (fv_66 17).toInt.toNat from (by omega)]; exact c), d⟩; exact absurd (congrArg Int32.toInt a) (by rw [show (1 : Int32).toInt = 1 from (by decide)]; omega)), (show (0 : Int32) = 1 → fv_85 19 = fv 19 from fun w => absurd w (by decide)), (show (fv_85 14).toInt ≤ (c9 : Int) from by have : (fv_45 14).toInt = (fv_23 14).toInt := congrArg Int32.toInt ((fM_call (fM_rf [] _) fr_48 (by decide)) 14 rfl); have hp9 := p_82; omega), (show (0 : Int32) = 1 → (fv 17).toInt + 1 ≤ (fv_85 17).toInt from fun w => absurd w (by decide)), (show (0 : Int32) = 1 → ¬ T9 ((fv_85 14).toInt.toNat) = 24 from fun w => absurd w (by decide)), p_84, trivial⟩, ⟨by rw [ht]; exact hP, va_K.moved hW.alike hK⟩⟩, hS.F ht⟩) hS.2.2 dX3_readAll_41
    · skip
      have z_114 : (0 : Int32).toInt = 0 := by decide
      have z_115 : 0 ≤ (fv_13 17).toInt ∧ (fv_13 17).toInt ≤ 50 := hF_fv_13 17
      have z_116 : 0 ≤ (fv_13 14).toInt ∧ (fv_13 14).toInt ≤ 300 := hF_fv_13 14
      exact hj_36 51 0 fv_13 ar_15 wd_14 _ _ ls (by first | decide | omega) (iv_w (⟨by decide, by decide⟩ : (0 : Int) ≤ (0 : Int32).toInt ∧ (0 : Int32).toInt ≤ 0) (by decide) (by decide)) hF_fv_13 (fM_rf [14, 16, 17, 19, 20] _) hA_ar_15 (fA_rf [41, 42, 43] _) rfl p_12 (fun r9 hr hd => by rcases p_8 r9 hr with ⟨a, b, q, o2, c, d⟩ | ⟨a, b⟩; exact absurd (congrArg Int32.toInt a) (by rw [show (0 : Int32).toInt = 0 from (by decide)]; omega); exact b) (by have hp9 := p_10; omega) ((show fv_13 19 = fv_13 19 from rfl).trans ((p_9 (Int32.toInt_inj.mp (by rw [show (1 : Int32).toInt = 1 from (by decide)]; omega))).trans rfl)) (by have hi9 := p_11 (Int32.toInt_inj.mp (by rw [show (1 : Int32).toInt = 1 from (by decide)]; omega)); omega) hP hS (lv_sub hl [1, 2, 0] rfl)
  · skip
    have i_117 : 0 ≤ r_6.toInt ∧ r_6.toInt ≤ 0 := iv_eq1 (⟨by decide, by decide⟩ : (0 : Int) ≤ (0 : Int32).toInt ∧ (0 : Int32).toInt ≤ 0) c_19
    refine lv_iconst (v := 0) hx hb dX3_readAll_8 (by decide) ?_
    have z_119 : (0 : Int32).toInt = 0 := by decide
    exact W.zret (v := 0) hx hb hr (by decide) (fun t ht hW => ⟨⟨0, (fv_13, wd_14, ar_15), rfl, ⟨hF_fv_13, hA_ar_15, (fM_call (fM_rf [14, 16, 17, 19, 20] _) fr_16 (by decide)), (fA_call (fA_rf [41, 42, 43] _) fa_17 (by decide)), wf_18, (iv_w (⟨by decide, by decide⟩ : (0 : Int) ≤ (0 : Int32).toInt ∧ (0 : Int32).toInt ≤ 0) (by decide) (by decide)), (show ∀ r9 : List Bool, r9.length = 9 → rd_dn r9 = r9 → rd_x T9 S9 0 ((fv 14).toInt.toNat) ((fv 17).toInt.toNat) r9 (0 : Int32) (fv_13 19) (fv_13 20) (fv_13 14) (fv_13 17) from fun r9 hr hd => by rcases p_8 r9 hr with ⟨a, b, q, o2, c, d⟩ | ⟨a, b⟩; exact Or.inl ⟨rfl, b, q, o2, c, d⟩; exact absurd (congrArg Int32.toInt a) (by rw [show (1 : Int32).toInt = 1 from (by decide)]; omega)), (show (0 : Int32) = 1 → fv_13 19 = fv 19 from fun w => absurd w (by decide)), (show (fv_13 14).toInt ≤ (c9 : Int) from by have hp9 := p_10; omega), (show (0 : Int32) = 1 → (fv 17).toInt + 1 ≤ (fv_13 17).toInt from fun w => absurd w (by decide)), (show (0 : Int32) = 1 → ¬ T9 ((fv_13 14).toInt.toNat) = 24 from fun w => absurd w (by decide)), p_12, trivial⟩, ⟨by rw [ht]; exact hP, va_K.moved hW.alike hK⟩⟩, hS.F ht⟩) hS.2.2 dX3_readAll_9
set_option maxHeartbeats 4000000 in
set_option maxRecDepth 100000 in
theorem x_readCondC_9 (l : Launch) (dC : Nat → ClassId) (dI : Nat → Nat → Nat) (sz : Nat) (ob ad : Nat → Nat) (cA : Nat → ClassId) (hd : dX ob ad) (fv : Nat → Int32) (wd : xT) (ar : Nat → Nat → Int32) (hF_fv : rX fv) (hA_ar : rB ar) (tA : Nat → Nat) (hto : tO tA wd.2.1) (T9 : Nat → Nat) (S9 : Nat → Nat) (N9 : Nat → Int) (c9 : Nat) (wi : Int32) (h_wi : 9 ≤ wi.toInt ∧ wi.toInt ≤ 9) (hcx : rd_cx tA T9 S9 N9 c9 wd.2.1 (ar 36) (ar 37)) (htc : (fv 13).toInt = (c9 : Int) + 1) (hpl : (fv 14).toInt ≤ (c9 : Int)) (h300 : c9 ≤ 300) (hT32 : ∀ k, T9 k < 32) (hfin : T9 c9 = 30 ∨ T9 c9 = 31) (hp_eC : eC fv ar) : Met l yX3_readCond (.code yX3_readCond cX3_readCond 3 (some .boolean) :: lw_good) ({ frames := 8, cells := 0, slots := 0, locals := 175 }) (va_Pc [.ref (ob 6), .int wi] (fun U => prX dC dI ob ad cA fv wd ar sz U ∧ tkA ob ad tA sz U)) (va_Qi (fun (r : Int32) (u : xS) => rX u.1 ∧ rB u.2.2 ∧ fM [14, 16, 17, 19, 20] fv u.1 ∧ fA [41, 42, 43] ar u.2.2 ∧ u.2.1.2 = wd.2 ∧ (0 ≤ r.toInt ∧ r.toInt ≤ 1) ∧ (∀ r9 : List Bool, r9.length = 9 → rd_dn r9 = r9 → rd_x T9 S9 0 ((fv 14).toInt.toNat) ((fv 17).toInt.toNat) r9 r (u.1 19) (u.1 20) (u.1 14) (u.1 17)) ∧ (r = 1 → u.1 19 = fv 19) ∧ ((u.1 14).toInt ≤ (c9 : Int)) ∧ (r = 1 → (fv 17).toInt + 1 ≤ (u.1 17).toInt) ∧ (r = 1 → ¬ (T9 ((u.1 14).toInt.toNat) = 24 ∨ T9 ((u.1 14).toInt.toNat) = 25)) ∧ (eC u.1 u.2.2) ∧ True) (enX dC dI ob ad cA) (aX ob ad sz)) 0 0 (aX ob ad sz) := by
  refine Met.ofW (cc := cX3_readCond) (maxL := 3) (ret := (some .boolean)) (by decide) rfl ?_
  intro p e s m args below meth c s₁ B hml hv
  obtain ⟨rfl, ⟨hsz, hP, hK⟩, hE⟩ := hv
  have hx := B.exec
  have hb := B.bytes
  have hr := B.returns
  have hts := atoms_spec (ws := (.code yX3_readCond cX3_readCond 3 (some .boolean) :: lw_good)) B.pre
  have htg : ∀ w ∈ lw_good, w.before _ s = true := fun w hw => hts w (List.mem_cons_of_mem _ hw)
  have hown : s.vm.findClass RX3 = some m.cls := findClass_of_methodNamed B.named
  have hlocks := B.notSynchronized
  subst hsz
  have hS : va_S (aX ob ad s.heap.size) s.heap s.heap [] := va_S.rf
  have hl := lv_entry ([.ref (ob 6), .int wi]) (n := 3) (Nat.le_of_ble_eq_true rfl)
  rw [lg_entry_eq]
  generalize (lg_sl ([.ref (ob 6), .int wi]) ++ List.replicate (3 - (lg_sl ([.ref (ob 6), .int wi])).length) Slot.unset).toArray = ls at hl ⊢
  have hl : lv_has ls 3 [(0, .ref (ob 6)), (1, .int wi)] := hl
  have i_1 : 0 ≤ (fv 14).toInt ∧ (fv 14).toInt ≤ 300 := (by have h9 := hF_fv 14; have h8 : 0 ≤ (fv 14).toInt := h9.1; omega)
  refine lv_aload_n hx hb dX3_readCond_0 rfl (lv_at hl 0 rfl) ?_
  refine lv_iload_n hx hb dX3_readCond_1 rfl (lv_at hl 1 rfl) ?_
  have z_2 : 0 ≤ (fv 13).toInt ∧ (fv 13).toInt ≤ 301 := hF_fv 13
  have z_3 : 0 ≤ (fv 14).toInt ∧ (fv 14).toInt ≤ 300 := hF_fv 14
  have z_4 : 0 ≤ (fv 14).toInt ∧ (fv 14).toInt ≤ 300 := hF_fv 14
  have z_5 : 0 ≤ (fv 17).toInt ∧ (fv 17).toInt ≤ 50 := hF_fv 17
  refine va_calli (va_runV (As := [.int wi]) (rest := []) ⟨hx, hb, hml, hown, hts⟩ (x_readAllC_9 l dC dI s.heap.size ob ad cA hd fv wd ar hF_fv hA_ar tA hto T9 S9 N9 c9 wi h_wi hcx (by omega) (by omega) h300 hT32 hfin hp_eC) (cwV 1 hts (gV kw_4_140 kw_4_142 kw_p_12 kw_1_11 kw_4_143) rfl rfl rfl (by decide +kernel) ⟨Nat.le_of_ble_eq_true rfl, Nat.le_of_ble_eq_true rfl⟩) ⟨fun a U g mk q => ⟨q.1, ⟨q.2.1.1, q.2.1.2.1, va_K.moved (u := U) (U := U.calling g mk a) (Vm.Alike.refl U.vm) q.2.1.2.2⟩, tk_mv (U := U.calling g mk a) rfl (Vm.Alike.refl U.vm) q.2.2⟩, va_recv hK hP (ci := 4) (q0 := 6) rfl rfl, fun U hU hW => ⟨rfl, ⟨by rw [hU], by rw [hU]; exact hP, va_K.moved hW.alike hK⟩, tk_pass hE hS hU hW.alike⟩⟩ rfl rfl hl.1 rfl (lv_room (Nat.le_of_ble_eq_true rfl)) dX3_readCond_2 ⟨Nat.le_of_ble_eq_true rfl, Nat.le_of_ble_eq_true rfl⟩) hS (fun q _ h9 => aX_up hS q h9) (aX_up hS) (fun r_6 u t H1 locs ht _ hw hB _ hk1 hS => ?_)
  obtain ⟨fv_14, wd_15, ar_16⟩ := u
  obtain ⟨hF_fv_14, hA_ar_16, fr_17, fa_18, wf_19, p_7, p_8, p_9, p_10, p_11, p_12, p_13, -⟩ := hw
  have wf_19 : wd_15.2 = wd.2 := wf_19
  have hP : va_P (dC, dI) vwCl (wsX ob ad cA fv_14 wd_15 ar_16) H1 := by have h9 := hB.1; rw [ht] at h9; exact h9
  have fr_17 : fM [14, 16, 17, 19, 20] fv fv_14 := fr_17
  have fa_18 : fA [41, 42, 43] ar ar_16 := fa_18
  have p_13 : eC fv_14 ar_16 := p_13
  have p_8 : ∀ r9 : List Bool, r9.length = 9 → rd_dn r9 = r9 → rd_x T9 S9 0 ((fv 14).toInt.toNat) ((fv 17).toInt.toNat) r9 r_6 (fv_14 19) (fv_14 20) (fv_14 14) (fv_14 17) := p_8
  have p_9 : r_6 = 1 → fv_14 19 = fv 19 := p_9
  have p_10 : (fv_14 14).toInt ≤ (c9 : Int) := p_10
  have p_11 : r_6 = 1 → (fv 17).toInt + 1 ≤ (fv_14 17).toInt := p_11
  have p_12 : r_6 = 1 → ¬ T9 ((fv_14 14).toInt.toNat) = 24 := p_12
  generalize H1 = H at hP hS ⊢
  refine lv_if_ne (tgt := 10) hx hb dX3_readCond_5 (by decide) (fun c_20 => ?_) (fun c_20 => ?_)
  · skip
    have i_21 : 1 ≤ r_6.toInt ∧ r_6.toInt ≤ 1 := iv_nel p_7 (by decide) c_20
    have k_22 : ¬ r_6.toInt = 0 := fun q => c_20 (Int32.toInt_inj.mp q)
    refine lv_iconst (v := 0) hx hb dX3_readCond_10 (by decide) ?_
    refine lv_istore_n (lv' := [(2, .int 0), (0, .ref (ob 6)), (1, .int wi)]) hx hb dX3_readCond_11 rfl hl (by decide) rfl (fun ls hl => ?_)
    refine my_cut (P := fun R9 a9 Q9 => ∀ (n_36 : Nat) (x_23 : Int32) (fv_24 : Nat → Int32) (ar_26 : Nat → Nat → Int32) (wd_28 : xT) (H : Heap) (locs : List Loc) (ls : Array Slot), 50 - x_23.toInt < (n_36 : Int) → (0 ≤ x_23.toInt ∧ x_23.toInt ≤ 50) → rX fv_24 → fM [14, 16, 17, 19, 20] fv_14 fv_24 → rB ar_26 → fA [41, 42, 43] ar_16 ar_26 → wd_28.2 = wd_15.2 → eC fv_24 ar_26 → (∀ r9 : List Bool, r9.length = 9 → rd_dn r9 = r9 → rd_m T9 0 ((fv 14).toInt.toNat) ((fv 17).toInt.toNat) r9 = rd_m T9 1 ((fv_24 14).toInt.toNat) ((fv_24 17).toInt.toNat) r9) → ((fv_24 14).toInt ≤ (c9 : Int)) → (fv_24 19 = fv 19) → (x_23.toInt + (fv 17).toInt + 1 ≤ (fv_24 17).toInt) → (¬ T9 ((fv_24 14).toInt.toNat) = 24) → va_P (dC, dI) vwCl (wsX ob ad cA fv_24 wd_28 ar_26) H → va_S (aX ob ad s.heap.size) s.heap H locs → lv_has ls 3 [(0, .ref (ob 6)), (1, .int wi), (2, .int x_23)] → W p l e R9 s m a9 below meth c H locs 0 0 Q9 (F0 m 12 ls [])) ?_ (fun hj_38 => ?_)
    · intro n_36
      induction n_36 with
      | zero => intro x_23 fv_24 ar_26 wd_28 H locs ls fu_37 i_x_23 hF_fv_24 fr_25 hA_ar_26 fa_27 wf_29 hp_30 q_31 q_32 q_33 q_34 q_35; exfalso; omega
      | succ n_36 ih_36 =>
        intro x_23 fv_24 ar_26 wd_28 H locs ls fu_37 i_x_23 hF_fv_24 fr_25 hA_ar_26 fa_27 wf_29 hp_30 q_31 q_32 q_33 q_34 q_35 hP hS hl
        refine lv_iload_n hx hb dX3_readCond_12 rfl (lv_at hl 2 rfl) ?_
        refine lv_bipush (v := 50) hx hb dX3_readCond_13 (by decide) ?_
        have z_39 : 0 ≤ (fv_24 17).toInt ∧ (fv_24 17).toInt ≤ 50 := hF_fv_24 17
        have z_40 : 0 ≤ (fv_24 14).toInt ∧ (fv_24 14).toInt ≤ 300 := hF_fv_24 14
        have z50 : (50 : Int32).toInt = 50 := by decide
        refine lv_icmp_ge (tgt := 56) hx hb dX3_readCond_15 (by decide) (fun c_41 => ?_) (fun c_41 => ?_)
        · skip
          exact absurd True.intro (by have h9 := Int32.le_iff_toInt_le.mp c_41; exfalso; omega)
        · skip
          have i_42 : 0 ≤ x_23.toInt ∧ x_23.toInt ≤ 49 := iv_lt1 i_x_23 (⟨by decide, by decide⟩ : (50 : Int) ≤ (50 : Int32).toInt ∧ (50 : Int32).toInt ≤ 50) (Int32.not_le.mp c_41)
          refine lv_aload_n hx hb dX3_readCond_18 rfl (lv_at hl 0 rfl) ?_
          have z_43 : (fv_24 13).toInt = (fv 13).toInt := congrArg Int32.toInt ((fr_25 13 rfl).trans ((fr_17 13 rfl)))
          have z_44 : 0 ≤ (fv_24 13).toInt ∧ (fv_24 13).toInt ≤ 301 := hF_fv_24 13
          have z_45 : 0 ≤ (fv_24 14).toInt ∧ (fv_24 14).toInt ≤ 300 := hF_fv_24 14
          refine va_callr (va_runV (As := []) (rest := []) ⟨hx, hb, hml, hown, hts⟩ (x_tokenC l dC dI H.size ob ad cA hd fv_24 wd_28 ar_26 hF_fv_24 hA_ar_26 tA (tO_w hto (wf_29.trans wf_19)) T9 S9 N9 c9 (rd_cx_eq hcx (congrArg (fun z => z.1) (wf_29.trans wf_19)) ((fA_call (fA_call (fA_rf [41, 42, 43] _) fa_18 (by decide)) fa_27 (by decide)) 36 rfl) ((fA_call (fA_call (fA_rf [41, 42, 43] _) fa_18 (by decide)) fa_27 (by decide)) 37 rfl)) (by omega) (by omega) h300 hT32 hfin) (cwV 0 hts (gV kw_4_102 kw_4_104 kw_p_4 kw_1_11 kw_4_105) rfl rfl rfl (by decide +kernel) ⟨Nat.le_of_ble_eq_true rfl, Nat.le_of_ble_eq_true rfl⟩) ⟨fun a U g mk q => ⟨q.1, ⟨q.2.1.1, q.2.1.2.1, va_K.moved (u := U) (U := U.calling g mk a) (Vm.Alike.refl U.vm) q.2.1.2.2⟩, tk_mv (U := U.calling g mk a) rfl (Vm.Alike.refl U.vm) q.2.2⟩, va_recv hK hP (ci := 4) (q0 := 6) rfl rfl, fun U hU hW => ⟨rfl, ⟨by rw [hU], by rw [hU]; exact hP, va_K.moved hW.alike hK⟩, tk_pass hE hS hU hW.alike⟩⟩ rfl rfl hl.1 rfl (lv_room (Nat.le_of_ble_eq_true rfl)) dX3_readCond_19 ⟨Nat.le_of_ble_eq_true rfl, Nat.le_of_ble_eq_true rfl⟩) hS (fun q _ h9 => aX_up hS q h9) (aX_up hS) (fun u r_46 t H1 locs ht _ hw hB _ hk1 hS => ?_)
          obtain ⟨fv_47, wd_48, ar_49⟩ := u
          obtain ⟨hF_fv_47, hA_ar_49, fr_50, fa_51, wf_52, -⟩ := hw
          have wf_52 : wd_48.2 = wd_28.2 := wf_52
          have hP : va_P (dC, dI) vwCl (wsX ob ad cA fv_47 wd_48 ar_49) H1 := by have h9 := hB.1.1; rw [ht] at h9; exact h9
          have fr_50 : fM [] fv_24 fv_47 := fr_50
          have fa_51 : fA [] ar_26 ar_49 := fa_51
          generalize H1 = H at hP hS ⊢
          obtain ⟨j_53, lj_53, rj_53, zj_53⟩ := hB.2
          subst rj_53
          refine va_gets hx hb (hE.1 25 (by decide)).1 hS hown (htg (.fieldLink RX3 196 "WalkingTown$Token" "OR" "LWalkingTown$Token;") kw_4_162) (fun _ h9 => h9) dX3_readCond_22 ?_
          refine lv_acmp_ne (rx := some (tA j_53)) (ry := some (tA 25)) (tgt := 56) hx hb dX3_readCond_25 (by decide) (fun c_54 => ?_) (fun c_54 => ?_)
          · skip
            have k_55 : ¬ j_53 = 25 := fun w => c_54 (by rw [w])
            refine lv_iconst (v := 1) hx hb dX3_readCond_56 (by decide) ?_
            have z_56 : (1 : Int32).toInt = 1 := by decide
            exact W.zret (v := 1) hx hb hr (by decide) (fun t ht hW => ⟨⟨1, (fv_47, wd_48, ar_49), rfl, ⟨hF_fv_47, hA_ar_49, (fM_call (fM_call (fM_call (fM_rf [14, 16, 17, 19, 20] _) fr_17 (by decide)) fr_25 (by decide)) fr_50 (by decide)), (fA_call (fA_call (fA_call (fA_rf [41, 42, 43] _) fa_18 (by decide)) fa_27 (by decide)) fa_51 (by decide)), (wf_52.trans (wf_29.trans wf_19)), (iv_w (⟨by decide, by decide⟩ : (1 : Int) ≤ (1 : Int32).toInt ∧ (1 : Int32).toInt ≤ 1) (by decide) (by decide)), (show ∀ r9 : List Bool, r9.length = 9 → rd_dn r9 = r9 → rd_x T9 S9 0 ((fv 14).toInt.toNat) ((fv 17).toInt.toNat) r9 (1 : Int32) (fv_47 19) (fv_47 20) (fv_47 14) (fv_47 17) from fun r9 hr hd => by have : (fv_47 14).toInt = (fv_24 14).toInt := congrArg Int32.toInt ((fM_call (fM_rf [] _) fr_50 (by decide)) 14 rfl); have : (fv_47 17).toInt = (fv_24 17).toInt := congrArg Int32.toInt ((fM_call (fM_rf [] _) fr_50 (by decide)) 17 rfl); exact rd_xO (by rw [show fv_47 14 = fv_24 14 from ((fM_call (fM_rf [] _) fr_50 (by decide)) 14 rfl), show fv_47 17 = fv_24 17 from ((fM_call (fM_rf [] _) fr_50 (by decide)) 17 rfl)]; exact q_31 r9 hr hd)), (show (1 : Int32) = 1 → fv_47 19 = fv 19 from fun _ => (show fv_47 19 = fv_24 19 from ((fM_call (fM_rf [] _) fr_50 (by decide)) 19 rfl)).trans q_33), (show (fv_47 14).toInt ≤ (c9 : Int) from by have : (fv_47 14).toInt = (fv_24 14).toInt := congrArg Int32.toInt ((fM_call (fM_rf [] _) fr_50 (by decide)) 14 rfl); have hp9 := p_10; omega), (show (1 : Int32) = 1 → (fv 17).toInt + 1 ≤ (fv_47 17).toInt from fun _ => by have : (fv_47 17).toInt = (fv_24 17).toInt := congrArg Int32.toInt ((fM_call (fM_rf [] _) fr_50 (by decide)) 17 rfl); omega), (show (1 : Int32) = 1 → ¬ (T9 ((fv_47 14).toInt.toNat) = 24 ∨ T9 ((fv_47 14).toInt.toNat) = 25) from fun _ => by have : (fv_47 14).toInt = (fv_24 14).toInt := congrArg Int32.toInt ((fM_call (fM_rf [] _) fr_50 (by decide)) 14 rfl); have hq9 : ¬ T9 ((fv_47 14).toInt.toNat) = 24 := (by rw [show (fv_47 14).toInt.toNat = (fv_24 14).toInt.toNat from (by omega)]; exact q_35); have hz9 : ¬ T9 ((fv_47 14).toInt.toNat) = 25 := (by rw [show (fv_47 14).toInt.toNat = (fv_24 14).toInt.toNat from (by omega), ← zj_53]; omega); omega), (eC_fr hp_30 (fM_call (fM_rf [] _) fr_50 (by decide)) (fA_call (fA_rf [] _) fa_51 (by decide)) rfl rfl rfl), trivial⟩, ⟨by rw [ht]; exact hP, va_K.moved hW.alike hK⟩⟩, hS.F ht⟩) hS.2.2 dX3_readCond_57
          · skip
            have k_57 : j_53 = 25 := hE.2 j_53 25 lj_53 (by decide) (Option.some.inj c_54)
            refine lv_aload_n hx hb dX3_readCond_28 rfl (lv_at hl 0 rfl) ?_
            have z_58 : (fv_47 13).toInt = (fv 13).toInt := congrArg Int32.toInt ((fr_50 13 rfl).trans ((fr_25 13 rfl).trans ((fr_17 13 rfl))))
            have z_59 : 0 ≤ (fv_47 13).toInt ∧ (fv_47 13).toInt ≤ 301 := hF_fv_47 13
            have z_60 : (fv_47 14).toInt = (fv_24 14).toInt := congrArg Int32.toInt ((fr_50 14 rfl))
            have z_61 : 0 ≤ (fv_47 14).toInt ∧ (fv_47 14).toInt ≤ 300 := hF_fv_47 14
            have z_62 : (fv_47 13).toInt = (fv 13).toInt := congrArg Int32.toInt ((fr_50 13 rfl).trans ((fr_25 13 rfl).trans ((fr_17 13 rfl))))
            have z_63 : 0 ≤ (fv_47 13).toInt ∧ (fv_47 13).toInt ≤ 301 := hF_fv_47 13
            have z_64 : (fv_47 14).toInt = (fv_24 14).toInt := congrArg Int32.toInt ((fr_50 14 rfl))
            have z_65 : 0 ≤ (fv_47 14).toInt ∧ (fv_47 14).toInt ≤ 300 := hF_fv_47 14
            refine va_callv (va_runV (As := []) (rest := []) ⟨hx, hb, hml, hown, hts⟩ (x_stepC l dC dI H.size ob ad cA hd fv_47 wd_48 ar_49 hF_fv_47 hA_ar_49 (by have h9 := rd_lt hfin (p := (fv_24 14).toInt.toNat) (by omega) (by rw [← zj_53]; omega); omega)) (cwV 0 hts (gV kw_4_116 kw_4_118 kw_p_7 kw_1_11 kw_4_119) rfl rfl rfl (by decide +kernel) ⟨Nat.le_of_ble_eq_true rfl, Nat.le_of_ble_eq_true rfl⟩) ⟨fun a U g mk q => ⟨q.1, q.2.1, q.2.2.1, va_K.moved (u := U) (U := U.calling g mk a) (Vm.Alike.refl U.vm) q.2.2.2⟩, va_recv hK hP (ci := 4) (q0 := 6) rfl rfl, fun U hU hW => ⟨rfl, by rw [hU], by rw [hU]; exact hP, va_K.moved hW.alike hK⟩⟩ rfl rfl hl.1 rfl (lv_room (Nat.le_of_ble_eq_true rfl)) dX3_readCond_29 ⟨Nat.le_of_ble_eq_true rfl, Nat.le_of_ble_eq_true rfl⟩) hS (fun q _ h9 => aX_up hS q h9) (aX_up hS) (fun u t H1 locs ht _ hw hB _ hk1 hS => ?_)
            obtain ⟨fv_68, wd_69, ar_70⟩ := u
            obtain ⟨hF_fv_68, hA_ar_70, fr_71, fa_72, wf_73, p_67, -⟩ := hw
            have wf_73 : wd_69.2 = wd_48.2 := wf_73
            have hP : va_P (dC, dI) vwCl (wsX ob ad cA fv_68 wd_69 ar_70) H1 := by have h9 := hB.1; rw [ht] at h9; exact h9
            have fr_71 : fM [14] fv_47 fv_68 := fr_71
            have fa_72 : fA [] ar_49 ar_70 := fa_72
            have p_67 : (fv_68 14).toInt = (fv_47 14).toInt + 1 ∧ (fv_68 14).toInt ≤ (fv_47 13).toInt - 1 := p_67
            generalize H1 = H at hP hS ⊢
            refine lv_aload_n hx hb dX3_readCond_32 rfl (lv_at hl 0 rfl) ?_
            refine lv_iload_n hx hb dX3_readCond_33 rfl (lv_at hl 1 rfl) ?_
            have z_74 : (fv_68 13).toInt = (fv 13).toInt := congrArg Int32.toInt ((fr_71 13 rfl).trans ((fr_50 13 rfl).trans ((fr_25 13 rfl).trans ((fr_17 13 rfl)))))
            have z_75 : 0 ≤ (fv_68 13).toInt ∧ (fv_68 13).toInt ≤ 301 := hF_fv_68 13
            have z_76 : 0 ≤ (fv_68 14).toInt ∧ (fv_68 14).toInt ≤ 300 := hF_fv_68 14
            have z_77 : 0 ≤ (fv_68 14).toInt ∧ (fv_68 14).toInt ≤ 300 := hF_fv_68 14
            have z_78 : (fv_68 17).toInt = (fv_24 17).toInt := congrArg Int32.toInt ((fr_71 17 rfl).trans ((fr_50 17 rfl)))
            have z_79 : 0 ≤ (fv_68 17).toInt ∧ (fv_68 17).toInt ≤ 50 := hF_fv_68 17
            refine va_calli (va_runV (As := [.int wi]) (rest := []) ⟨hx, hb, hml, hown, hts⟩ (x_readAllC_9 l dC dI H.size ob ad cA hd fv_68 wd_69 ar_70 hF_fv_68 hA_ar_70 tA (tO_w hto (wf_73.trans (wf_52.trans (wf_29.trans wf_19)))) T9 S9 N9 c9 wi h_wi (rd_cx_eq hcx (congrArg (fun z => z.1) (wf_73.trans (wf_52.trans (wf_29.trans wf_19)))) ((fA_call (fA_call (fA_call (fA_call (fA_rf [41, 42, 43] _) fa_18 (by decide)) fa_27 (by decide)) fa_51 (by decide)) fa_72 (by decide)) 36 rfl) ((fA_call (fA_call (fA_call (fA_call (fA_rf [41, 42, 43] _) fa_18 (by decide)) fa_27 (by decide)) fa_51 (by decide)) fa_72 (by decide)) 37 rfl)) (by omega) (by omega) h300 hT32 hfin (eC_fr hp_30 (fM_call (fM_call (fM_rf [14] _) fr_50 (by decide)) fr_71 (by decide)) (fA_call (fA_call (fA_rf [] _) fa_51 (by decide)) fa_72 (by decide)) rfl rfl rfl)) (cwV 1 hts (gV kw_4_140 kw_4_142 kw_p_12 kw_1_11 kw_4_143) rfl rfl rfl (by decide +kernel) ⟨Nat.le_of_ble_eq_true rfl, Nat.le_of_ble_eq_true rfl⟩) ⟨fun a U g mk q => ⟨q.1, ⟨q.2.1.1, q.2.1.2.1, va_K.moved (u := U) (U := U.calling g mk a) (Vm.Alike.refl U.vm) q.2.1.2.2⟩, tk_mv (U := U.calling g mk a) rfl (Vm.Alike.refl U.vm) q.2.2⟩, va_recv hK hP (ci := 4) (q0 := 6) rfl rfl, fun U hU hW => ⟨rfl, ⟨by rw [hU], by rw [hU]; exact hP, va_K.moved hW.alike hK⟩, tk_pass hE hS hU hW.alike⟩⟩ rfl rfl hl.1 rfl (lv_room (Nat.le_of_ble_eq_true rfl)) dX3_readCond_34 ⟨Nat.le_of_ble_eq_true rfl, Nat.le_of_ble_eq_true rfl⟩) hS (fun q _ h9 => aX_up hS q h9) (aX_up hS) (fun r_80 u t H1 locs ht _ hw hB _ hk1 hS => ?_)
            obtain ⟨fv_88, wd_89, ar_90⟩ := u
            obtain ⟨hF_fv_88, hA_ar_90, fr_91, fa_92, wf_93, p_81, p_82, p_83, p_84, p_85, p_86, p_87, -⟩ := hw
            have wf_93 : wd_89.2 = wd_69.2 := wf_93
            have hP : va_P (dC, dI) vwCl (wsX ob ad cA fv_88 wd_89 ar_90) H1 := by have h9 := hB.1; rw [ht] at h9; exact h9
            have fr_91 : fM [14, 16, 17, 19, 20] fv_68 fv_88 := fr_91
            have fa_92 : fA [41, 42, 43] ar_70 ar_90 := fa_92
            have p_87 : eC fv_88 ar_90 := p_87
            have p_82 : ∀ r9 : List Bool, r9.length = 9 → rd_dn r9 = r9 → rd_x T9 S9 0 ((fv_68 14).toInt.toNat) ((fv_68 17).toInt.toNat) r9 r_80 (fv_88 19) (fv_88 20) (fv_88 14) (fv_88 17) := p_82
            have p_83 : r_80 = 1 → fv_88 19 = fv_68 19 := p_83
            have p_84 : (fv_88 14).toInt ≤ (c9 : Int) := p_84
            have p_85 : r_80 = 1 → (fv_68 17).toInt + 1 ≤ (fv_88 17).toInt := p_85
            have p_86 : r_80 = 1 → ¬ T9 ((fv_88 14).toInt.toNat) = 24 := p_86
            generalize H1 = H at hP hS ⊢
            refine lv_if_ne (tgt := 42) hx hb dX3_readCond_37 (by decide) (fun c_94 => ?_) (fun c_94 => ?_)
            · skip
              have i_95 : 1 ≤ r_80.toInt ∧ r_80.toInt ≤ 1 := iv_nel p_81 (by decide) c_94
              have k_96 : ¬ r_80.toInt = 0 := fun q => c_94 (Int32.toInt_inj.mp q)
              refine lv_aload_n hx hb dX3_readCond_42 rfl (lv_at hl 0 rfl) ?_
              refine lv_iconst (v := 5) hx hb dX3_readCond_43 (by decide) ?_
              refine lv_iconst (v := 0) hx hb dX3_readCond_44 (by decide) ?_
              refine lv_iconst (v := 0) hx hb dX3_readCond_45 (by decide) ?_
              refine va_calli (va_runV (As := [.int 5, .int 0, .int 0]) (rest := []) ⟨hx, hb, hml, hown, hts⟩ (x_addCode l dC dI H.size ob ad cA hd fv_88 wd_89 ar_90 hF_fv_88 hA_ar_90 5 0 0 (iv_w (⟨by decide, by decide⟩ : (0 : Int) ≤ (0 : Int32).toInt ∧ (0 : Int32).toInt ≤ 0) (by decide) (by decide)) p_87) (cwV 3 hts (gV kw_4_150 kw_4_152 kw_p_14 kw_1_11 kw_4_153) rfl rfl rfl (by decide +kernel) ⟨Nat.le_of_ble_eq_true rfl, Nat.le_of_ble_eq_true rfl⟩) ⟨fun a U g mk q => ⟨q.1, q.2.1, q.2.2.1, va_K.moved (u := U) (U := U.calling g mk a) (Vm.Alike.refl U.vm) q.2.2.2⟩, va_recv hK hP (ci := 4) (q0 := 6) rfl rfl, fun U hU hW => ⟨rfl, by rw [hU], by rw [hU]; exact hP, va_K.moved hW.alike hK⟩⟩ rfl rfl hl.1 rfl (lv_room (Nat.le_of_ble_eq_true rfl)) dX3_readCond_46 ⟨Nat.le_of_ble_eq_true rfl, Nat.le_of_ble_eq_true rfl⟩) hS (fun q _ h9 => aX_up hS q h9) (aX_up hS) (fun r_97 u t H1 locs ht _ hw hB _ hk1 hS => ?_)
              obtain ⟨fv_101, wd_102, ar_103⟩ := u
              obtain ⟨hF_fv_101, hA_ar_103, fr_104, fa_105, wf_106, p_98, p_99, p_100, -⟩ := hw
              have wf_106 : wd_102.2 = wd_89.2 := wf_106
              have hP : va_P (dC, dI) vwCl (wsX ob ad cA fv_101 wd_102 ar_103) H1 := by have h9 := hB.1; rw [ht] at h9; exact h9
              have fr_104 : fM [16] fv_88 fv_101 := fr_104
              have fa_105 : fA [41, 42, 43] ar_90 ar_103 := fa_105
              have p_100 : eC fv_101 ar_103 := p_100
              generalize H1 = H at hP hS ⊢
              rcases p_99 with ⟨rfl, p_99⟩
              · skip
                refine lv_pop hx hb dX3_readCond_49 rfl ?_
                obtain ⟨v_107, ev_107⟩ : ∃ z : Int32, z = x_23 + 1 := ⟨_, rfl⟩
                refine lv_iinc (v := v_107) (lv' := [(2, .int v_107), (0, .ref (ob 6)), (1, .int wi)]) hx hb dX3_readCond_50 hl (k := 2) rfl (by rw [ev_107]; rfl) (by decide) rfl (fun ls hl => ?_)
                have t_108 : v_107.toInt = x_23.toInt + 1 ∧ 1 ≤ v_107.toInt ∧ v_107.toInt ≤ 50 := iv_addc ev_107 i_42 (by decide) (by decide) (by decide)
                refine lv_goto (tgt := 12) hx hb dX3_readCond_53 (by decide) ?_
                have z_113 : (fv_101 17).toInt = (fv_88 17).toInt := congrArg Int32.toInt ((fr_104 17 rfl))
                have z_114 : 0 ≤ (fv_101 17).toInt ∧ (fv_101 17).toInt ≤ 50 := hF_fv_101 17
                have z_115 : (fv_101 14).toInt = (fv_88 14).toInt := congrArg Int32.toInt ((fr_104 14 rfl))
                have z_116 : 0 ≤ (fv_101 14).toInt ∧ (fv_101 14).toInt ≤ 300 := hF_fv_101 14
                exact ih_36 v_107 fv_101 ar_103 wd_102 _ _ ls (by omega) (iv_w t_108.2 (by decide) (by decide)) hF_fv_101 (fM_call (fM_call (fM_call (fM_call (fM_call (fM_rf [14, 16, 17, 19, 20] _) fr_25 (by decide)) fr_50 (by decide)) fr_71 (by decide)) fr_91 (by decide)) fr_104 (by decide)) hA_ar_103 (fA_call (fA_call (fA_call (fA_call (fA_call (fA_rf [41, 42, 43] _) fa_27 (by decide)) fa_51 (by decide)) fa_72 (by decide)) fa_92 (by decide)) fa_105 (by decide)) (wf_106.trans (wf_93.trans (wf_73.trans (wf_52.trans wf_29)))) p_100 (fun r9 hr hd => by have : (fv_47 14).toInt = (fv_24 14).toInt := congrArg Int32.toInt ((fM_call (fM_rf [] _) fr_50 (by decide)) 14 rfl); have : (fv_101 14).toInt = (fv_88 14).toInt := congrArg Int32.toInt ((fM_call (fM_rf [16] _) fr_104 (by decide)) 14 rfl); have : (fv_47 17).toInt = (fv_24 17).toInt := congrArg Int32.toInt ((fM_call (fM_rf [] _) fr_50 (by decide)) 17 rfl); have : (fv_68 17).toInt = (fv_47 17).toInt := congrArg Int32.toInt ((fM_call (fM_rf [14] _) fr_71 (by decide)) 17 rfl); have : (fv_101 17).toInt = (fv_88 17).toInt := congrArg Int32.toInt ((fM_call (fM_rf [16] _) fr_104 (by decide)) 17 rfl); rcases p_82 r9 hr hd with ⟨a, b, q, o2, c, d⟩ | ⟨a, b⟩; exact absurd (congrArg Int32.toInt a) (by rw [show (0 : Int32).toInt = 0 from (by decide)]; omega); rw [show fv_101 14 = fv_88 14 from ((fM_call (fM_rf [16] _) fr_104 (by decide)) 14 rfl), show fv_101 17 = fv_88 17 from ((fM_call (fM_rf [16] _) fr_104 (by decide)) 17 rfl)]; rw [q_31 r9 hr hd, show (fv_24 14).toInt.toNat = (fv_24 14).toInt.toNat from (by omega), rd_m1_join (by omega) (Or.inr (by rw [← zj_53]; omega)) hd, show (fv_24 14).toInt.toNat + 1 = (fv_68 14).toInt.toNat from (by omega), show (fv_24 17).toInt.toNat = (fv_68 17).toInt.toNat from (by omega)]; exact b) (by have : (fv_47 14).toInt = (fv_24 14).toInt := congrArg Int32.toInt ((fM_call (fM_rf [] _) fr_50 (by decide)) 14 rfl); have : (fv_101 14).toInt = (fv_88 14).toInt := congrArg Int32.toInt ((fM_call (fM_rf [16] _) fr_104 (by decide)) 14 rfl); have : (fv_47 17).toInt = (fv_24 17).toInt := congrArg Int32.toInt ((fM_call (fM_rf [] _) fr_50 (by decide)) 17 rfl); have : (fv_68 17).toInt = (fv_47 17).toInt := congrArg Int32.toInt ((fM_call (fM_rf [14] _) fr_71 (by decide)) 17 rfl); have : (fv_101 17).toInt = (fv_88 17).toInt := congrArg Int32.toInt ((fM_call (fM_rf [16] _) fr_104 (by decide)) 17 rfl); have hp9 := p_84; omega) ((show fv_101 19 = fv_88 19 from ((fM_call (fM_rf [16] _) fr_104 (by decide)) 19 rfl)).trans ((p_83 (Int32.toInt_inj.mp (by rw [show (1 : Int32).toInt = 1 from (by decide)]; omega))).trans (show fv_68 19 = fv 19 from (show fv_68 19 = fv_24 19 from ((fM_call (fM_call (fM_rf [14] _) fr_50 (by decide)) fr_71 (by decide)) 19 rfl)).trans q_33))) (by have : (fv_47 14).toInt = (fv_24 14).toInt := congrArg Int32.toInt ((fM_call (fM_rf [] _) fr_50 (by decide)) 14 rfl); have : (fv_101 14).toInt = (fv_88 14).toInt := congrArg Int32.toInt ((fM_call (fM_rf [16] _) fr_104 (by decide)) 14 rfl); have : (fv_47 17).toInt = (fv_24 17).toInt := congrArg Int32.toInt ((fM_call (fM_rf [] _) fr_50 (by decide)) 17 rfl); have : (fv_68 17).toInt = (fv_47 17).toInt := congrArg Int32.toInt ((fM_call (fM_rf [14] _) fr_71 (by decide)) 17 rfl); have : (fv_101 17).toInt = (fv_88 17).toInt := congrArg Int32.toInt ((fM_call (fM_rf [16] _) fr_104 (by decide)) 17 rfl); have hi9 := p_85 (Int32.toInt_inj.mp (by rw [show (1 : Int32).toInt = 1 from (by decide)]; omega)); omega) (by have : (fv_47 14).toInt = (fv_24 14).toInt := congrArg Int32.toInt ((fM_call (fM_rf [] _) fr_50 (by decide)) 14 rfl); have : (fv_101 14).toInt = (fv_88 14).toInt := congrArg Int32.toInt ((fM_call (fM_rf [16] _) fr_104 (by decide)) 14 rfl); have : (fv_47 17).toInt = (fv_24 17).toInt := congrArg Int32.toInt ((fM_call (fM_rf [] _) fr_50 (by decide)) 17 rfl); have : (fv_68 17).toInt = (fv_47 17).toInt := congrArg Int32.toInt ((fM_call (fM_rf [14] _) fr_71 (by decide)) 17 rfl); have : (fv_101 17).toInt = (fv_88 17).toInt := congrArg Int32.toInt ((fM_call (fM_rf [16] _) fr_104 (by decide)) 17 rfl); rw [show (fv_101 14).toInt.toNat = (fv_88 14).toInt.toNat from (by omega)]; exact p_86 (Int32.toInt_inj.mp (by rw [show (1 : Int32).toInt = 1 from (by decide)]; omega))) hP hS (lv_sub hl [1, 2, 0] rfl)
            · skip
              have i_110 : 0 ≤ r_80.toInt ∧ r_80.toInt ≤ 0 := iv_eq1 (⟨by decide, by decide⟩ : (0 : Int) ≤ (0 : Int32).toInt ∧ (0 : Int32).toInt ≤ 0) c_94
              refine lv_iconst (v := 0) hx hb dX3_readCond_40 (by decide) ?_
              have z_112 : (0 : Int32).toInt = 0 := by decide
              exact W.zret (v := 0) hx hb hr (by decide) (fun t ht hW => ⟨⟨0, (fv_88, wd_89, ar_90), rfl, ⟨hF_fv_88, hA_ar_90, (fM_call (fM_call (fM_call (fM_call (fM_call (fM_rf [14, 16, 17, 19, 20] _) fr_17 (by decide)) fr_25 (by decide)) fr_50 (by decide)) fr_71 (by decide)) fr_91 (by decide)), (fA_call (fA_call (fA_call (fA_call (fA_call (fA_rf [41, 42, 43] _) fa_18 (by decide)) fa_27 (by decide)) fa_51 (by decide)) fa_72 (by decide)) fa_92 (by decide)), (wf_93.trans (wf_73.trans (wf_52.trans (wf_29.trans wf_19)))), (iv_w (⟨by decide, by decide⟩ : (0 : Int) ≤ (0 : Int32).toInt ∧ (0 : Int32).toInt ≤ 0) (by decide) (by decide)), (show ∀ r9 : List Bool, r9.length = 9 → rd_dn r9 = r9 → rd_x T9 S9 0 ((fv 14).toInt.toNat) ((fv 17).toInt.toNat) r9 (0 : Int32) (fv_88 19) (fv_88 20) (fv_88 14) (fv_88 17) from fun r9 hr hd => by have : (fv_47 14).toInt = (fv_24 14).toInt := congrArg Int32.toInt ((fM_call (fM_rf [] _) fr_50 (by decide)) 14 rfl); have : (fv_47 17).toInt = (fv_24 17).toInt := congrArg Int32.toInt ((fM_call (fM_rf [] _) fr_50 (by decide)) 17 rfl); have : (fv_68 17).toInt = (fv_47 17).toInt := congrArg Int32.toInt ((fM_call (fM_rf [14] _) fr_71 (by decide)) 17 rfl); rcases p_82 r9 hr hd with ⟨a, b, q, o2, c, d⟩ | ⟨a, b⟩; exact Or.inl ⟨rfl, b, q, o2, (by rw [q_31 r9 hr hd, show (fv_24 14).toInt.toNat = (fv_24 14).toInt.toNat from (by omega), rd_m1_join (by omega) (Or.inr (by rw [← zj_53]; omega)) hd, show (fv_24 14).toInt.toNat + 1 = (fv_68 14).toInt.toNat from (by omega), show (fv_24 17).toInt.toNat = (fv_68 17).toInt.toNat from (by omega)]; exact c), d⟩; exact absurd (congrArg Int32.toInt a) (by rw [show (1 : Int32).toInt = 1 from (by decide)]; omega)), (show (0 : Int32) = 1 → fv_88 19 = fv 19 from fun w => absurd w (by decide)), (show (fv_88 14).toInt ≤ (c9 : Int) from by have : (fv_47 14).toInt = (fv_24 14).toInt := congrArg Int32.toInt ((fM_call (fM_rf [] _) fr_50 (by decide)) 14 rfl); have hp9 := p_84; omega), (show (0 : Int32) = 1 → (fv 17).toInt + 1 ≤ (fv_88 17).toInt from fun w => absurd w (by decide)), (show (0 : Int32) = 1 → ¬ (T9 ((fv_88 14).toInt.toNat) = 24 ∨ T9 ((fv_88 14).toInt.toNat) = 25) from fun w => absurd w (by decide)), p_87, trivial⟩, ⟨by rw [ht]; exact hP, va_K.moved hW.alike hK⟩⟩, hS.F ht⟩) hS.2.2 dX3_readCond_41
    · skip
      have z_117 : (0 : Int32).toInt = 0 := by decide
      have z_118 : 0 ≤ (fv_14 17).toInt ∧ (fv_14 17).toInt ≤ 50 := hF_fv_14 17
      have z_119 : 0 ≤ (fv_14 14).toInt ∧ (fv_14 14).toInt ≤ 300 := hF_fv_14 14
      exact hj_38 51 0 fv_14 ar_16 wd_15 _ _ ls (by first | decide | omega) (iv_w (⟨by decide, by decide⟩ : (0 : Int) ≤ (0 : Int32).toInt ∧ (0 : Int32).toInt ≤ 0) (by decide) (by decide)) hF_fv_14 (fM_rf [14, 16, 17, 19, 20] _) hA_ar_16 (fA_rf [41, 42, 43] _) rfl p_13 (fun r9 hr hd => by rcases p_8 r9 hr hd with ⟨a, b, q, o2, c, d⟩ | ⟨a, b⟩; exact absurd (congrArg Int32.toInt a) (by rw [show (0 : Int32).toInt = 0 from (by decide)]; omega); exact b) (by have hp9 := p_10; omega) ((show fv_14 19 = fv_14 19 from rfl).trans ((p_9 (Int32.toInt_inj.mp (by rw [show (1 : Int32).toInt = 1 from (by decide)]; omega))).trans rfl)) (by have hi9 := p_11 (Int32.toInt_inj.mp (by rw [show (1 : Int32).toInt = 1 from (by decide)]; omega)); omega) (by rw [show (fv_14 14).toInt.toNat = (fv_14 14).toInt.toNat from (by omega)]; exact p_12 (Int32.toInt_inj.mp (by rw [show (1 : Int32).toInt = 1 from (by decide)]; omega))) hP hS (lv_sub hl [1, 2, 0] rfl)
  · skip
    have i_120 : 0 ≤ r_6.toInt ∧ r_6.toInt ≤ 0 := iv_eq1 (⟨by decide, by decide⟩ : (0 : Int) ≤ (0 : Int32).toInt ∧ (0 : Int32).toInt ≤ 0) c_20
    refine lv_iconst (v := 0) hx hb dX3_readCond_8 (by decide) ?_
    have z_122 : (0 : Int32).toInt = 0 := by decide
    exact W.zret (v := 0) hx hb hr (by decide) (fun t ht hW => ⟨⟨0, (fv_14, wd_15, ar_16), rfl, ⟨hF_fv_14, hA_ar_16, (fM_call (fM_rf [14, 16, 17, 19, 20] _) fr_17 (by decide)), (fA_call (fA_rf [41, 42, 43] _) fa_18 (by decide)), wf_19, (iv_w (⟨by decide, by decide⟩ : (0 : Int) ≤ (0 : Int32).toInt ∧ (0 : Int32).toInt ≤ 0) (by decide) (by decide)), (show ∀ r9 : List Bool, r9.length = 9 → rd_dn r9 = r9 → rd_x T9 S9 0 ((fv 14).toInt.toNat) ((fv 17).toInt.toNat) r9 (0 : Int32) (fv_14 19) (fv_14 20) (fv_14 14) (fv_14 17) from fun r9 hr hd => by rcases p_8 r9 hr hd with ⟨a, b, q, o2, c, d⟩ | ⟨a, b⟩; exact Or.inl ⟨rfl, b, q, o2, c, d⟩; exact absurd (congrArg Int32.toInt a) (by rw [show (1 : Int32).toInt = 1 from (by decide)]; omega)), (show (0 : Int32) = 1 → fv_14 19 = fv 19 from fun w => absurd w (by decide)), (show (fv_14 14).toInt ≤ (c9 : Int) from by have hp9 := p_10; omega), (show (0 : Int32) = 1 → (fv 17).toInt + 1 ≤ (fv_14 17).toInt from fun w => absurd w (by decide)), (show (0 : Int32) = 1 → ¬ (T9 ((fv_14 14).toInt.toNat) = 24 ∨ T9 ((fv_14 14).toInt.toNat) = 25) from fun w => absurd w (by decide)), p_13, trivial⟩, ⟨by rw [ht]; exact hP, va_K.moved hW.alike hK⟩⟩, hS.F ht⟩) hS.2.2 dX3_readCond_9
set_option maxHeartbeats 4000000 in
set_option maxRecDepth 100000 in
theorem x_readOneC_8 (l : Launch) (dC : Nat → ClassId) (dI : Nat → Nat → Nat) (sz : Nat) (ob ad : Nat → Nat) (cA : Nat → ClassId) (hd : dX ob ad) (fv : Nat → Int32) (wd : xT) (ar : Nat → Nat → Int32) (hF_fv : rX fv) (hA_ar : rB ar) (tA : Nat → Nat) (hto : tO tA wd.2.1) (T9 : Nat → Nat) (S9 : Nat → Nat) (N9 : Nat → Int) (c9 : Nat) (wi : Int32) (h_wi : 8 ≤ wi.toInt ∧ wi.toInt ≤ 8) (hcx : rd_cx tA T9 S9 N9 c9 wd.2.1 (ar 36) (ar 37)) (htc : (fv 13).toInt = (c9 : Int) + 1) (hpl : (fv 14).toInt ≤ (c9 : Int)) (h300 : c9 ≤ 300) (hT32 : ∀ k, T9 k < 32) (hfin : T9 c9 = 30 ∨ T9 c9 = 31) (hp_eC : eC fv ar) : Met l yX3_readOne (.code yX3_readOne cX3_readOne 5 (some .boolean) :: lw_good) ({ frames := 9, cells := 0, slots := 0, locals := 197 }) (va_Pc [.ref (ob 6), .int wi] (fun U => prX dC dI ob ad cA fv wd ar sz U ∧ tkA ob ad tA sz U)) (va_Qi (fun (r : Int32) (u : xS) => rX u.1 ∧ rB u.2.2 ∧ fM [14, 16, 17, 19, 20] fv u.1 ∧ fA [41, 42, 43] ar u.2.2 ∧ u.2.1.2 = wd.2 ∧ (0 ≤ r.toInt ∧ r.toInt ≤ 1) ∧ (∀ r9 : List Bool, r9.length = 8 → rd_x T9 S9 0 ((fv 14).toInt.toNat) ((fv 17).toInt.toNat) r9 r (u.1 19) (u.1 20) (u.1 14) (u.1 17)) ∧ (r = 1 → u.1 19 = fv 19) ∧ ((u.1 14).toInt ≤ (c9 : Int)) ∧ (r = 1 → (fv 17).toInt + 1 ≤ (u.1 17).toInt) ∧ (eC u.1 u.2.2) ∧ True) (enX dC dI ob ad cA) (aX ob ad sz)) 0 0 (aX ob ad sz) := by
  refine Met.ofW (cc := cX3_readOne) (maxL := 5) (ret := (some .boolean)) (by decide) rfl ?_
  intro p e s m args below meth c s₁ B hml hv
  obtain ⟨rfl, ⟨hsz, hP, hK⟩, hE⟩ := hv
  have hx := B.exec
  have hb := B.bytes
  have hr := B.returns
  have hts := atoms_spec (ws := (.code yX3_readOne cX3_readOne 5 (some .boolean) :: lw_good)) B.pre
  have htg : ∀ w ∈ lw_good, w.before _ s = true := fun w hw => hts w (List.mem_cons_of_mem _ hw)
  have hown : s.vm.findClass RX3 = some m.cls := findClass_of_methodNamed B.named
  have hlocks := B.notSynchronized
  subst hsz
  have hS : va_S (aX ob ad s.heap.size) s.heap s.heap [] := va_S.rf
  have hl := lv_entry ([.ref (ob 6), .int wi]) (n := 5) (Nat.le_of_ble_eq_true rfl)
  rw [lg_entry_eq]
  generalize (lg_sl ([.ref (ob 6), .int wi]) ++ List.replicate (5 - (lg_sl ([.ref (ob 6), .int wi])).length) Slot.unset).toArray = ls at hl ⊢
  have hl : lv_has ls 5 [(0, .ref (ob 6)), (1, .int wi)] := hl
  have i_1 : 0 ≤ (fv 14).toInt ∧ (fv 14).toInt ≤ 300 := (by have h9 := hF_fv 14; have h8 : 0 ≤ (fv 14).toInt := h9.1; omega)
  refine lv_aload_n hx hb dX3_readOne_0 rfl (lv_at hl 0 rfl) ?_
  have z_2 : 0 ≤ (fv 13).toInt ∧ (fv 13).toInt ≤ 301 := hF_fv 13
  have z_3 : 0 ≤ (fv 14).toInt ∧ (fv 14).toInt ≤ 300 := hF_fv 14
  refine va_callr (va_runV (As := []) (rest := []) ⟨hx, hb, hml, hown, hts⟩ (x_tokenC l dC dI s.heap.size ob ad cA hd fv wd ar hF_fv hA_ar tA hto T9 S9 N9 c9 hcx (by omega) (by omega) h300 hT32 hfin) (cwV 0 hts (gV kw_4_102 kw_4_104 kw_p_4 kw_1_11 kw_4_105) rfl rfl rfl (by decide +kernel) ⟨Nat.le_of_ble_eq_true rfl, Nat.le_of_ble_eq_true rfl⟩) ⟨fun a U g mk q => ⟨q.1, ⟨q.2.1.1, q.2.1.2.1, va_K.moved (u := U) (U := U.calling g mk a) (Vm.Alike.refl U.vm) q.2.1.2.2⟩, tk_mv (U := U.calling g mk a) rfl (Vm.Alike.refl U.vm) q.2.2⟩, va_recv hK hP (ci := 4) (q0 := 6) rfl rfl, fun U hU hW => ⟨rfl, ⟨by rw [hU], by rw [hU]; exact hP, va_K.moved hW.alike hK⟩, tk_pass hE hS hU hW.alike⟩⟩ rfl rfl hl.1 rfl (lv_room (Nat.le_of_ble_eq_true rfl)) dX3_readOne_1 ⟨Nat.le_of_ble_eq_true rfl, Nat.le_of_ble_eq_true rfl⟩) hS (fun q _ h9 => aX_up hS q h9) (aX_up hS) (fun u r_4 t H1 locs ht _ hw hB _ hk1 hS => ?_)
  obtain ⟨fv_5, wd_6, ar_7⟩ := u
  obtain ⟨hF_fv_5, hA_ar_7, fr_8, fa_9, wf_10, -⟩ := hw
  have wf_10 : wd_6.2 = wd.2 := wf_10
  have hP : va_P (dC, dI) vwCl (wsX ob ad cA fv_5 wd_6 ar_7) H1 := by have h9 := hB.1.1; rw [ht] at h9; exact h9
  have fr_8 : fM [] fv fv_5 := fr_8
  have fa_9 : fA [] ar ar_7 := fa_9
  generalize H1 = H at hP hS ⊢
  obtain ⟨j_11, lj_11, rj_11, zj_11⟩ := hB.2
  subst rj_11
  refine lv_astore_n (lv' := [(2, .ref (tA j_11)), (0, .ref (ob 6)), (1, .int wi)]) hx hb dX3_readOne_4 rfl hl (by decide) rfl (fun ls hl => ?_)
  refine lv_aload_n hx hb dX3_readOne_5 rfl (lv_at hl 0 rfl) ?_
  refine va_getE hx hb hE lj_11 hS hown (q := tkrole) (List.mem_cons_self ..) (htg (.fieldLink RX3 162 "WalkingTown$Token" "role" "I") kw_9_66) (fun _ h9 => h9) dX3_readOne_6 ?_
  refine lv_topi (fun v_12 ev_12 => ?_)
  have i_13 : 0 ≤ v_12.toInt ∧ v_12.toInt ≤ 11 := ev_12 ▸ tk_role j_11
  have k_14 := rd_role lj_11 ev_12
  refine lv_iconst (v := 2) hx hb dX3_readOne_9 (by decide) ?_
  refine lv_icmp_eq (tgt := 21) hx hb dX3_readOne_10 (by decide) (fun c_15 => ?_) (fun c_15 => ?_)
  · skip
    have i_16 : 2 ≤ v_12.toInt ∧ v_12.toInt ≤ 2 := iv_eq1 (⟨by decide, by decide⟩ : (2 : Int) ≤ (2 : Int32).toInt ∧ (2 : Int32).toInt ≤ 2) c_15
    refine lv_iconst (v := 1) hx hb dX3_readOne_21 (by decide) ?_
    refine lv_goto (tgt := 26) hx hb dX3_readOne_22 (by decide) ?_
    refine lv_istore_n (lv' := [(3, .int 1), (2, .ref (tA j_11)), (0, .ref (ob 6)), (1, .int wi)]) hx hb dX3_readOne_26 rfl hl (by decide) rfl (fun ls hl => ?_)
    refine lv_iload_n hx hb dX3_readOne_27 rfl (lv_at hl 0 rfl) ?_
    refine lv_if_ne (tgt := 51) hx hb dX3_readOne_28 (by decide) (fun c_18 => ?_) (fun c_18 => ?_)
    · skip
      refine lv_aload_n hx hb dX3_readOne_51 rfl (lv_at hl 2 rfl) ?_
      refine gX_X3_38 hx hb htg hown hK hP dX3_readOne_52 ?_
      refine my_ti (y := fv 17) ((fr_8 17 rfl)) ?_
      have i_19 : 0 ≤ (fv 17).toInt ∧ (fv 17).toInt ≤ 50 := hF_fv 17
      refine lv_bipush (v := 50) hx hb dX3_readOne_55 (by decide) ?_
      refine lv_icmp_ge (tgt := 66) hx hb dX3_readOne_57 (by decide) (fun c_20 => ?_) (fun c_20 => ?_)
      · skip
        have i_21 : 50 ≤ (fv 17).toInt ∧ (fv 17).toInt ≤ 50 := iv_le2 (⟨by decide, by decide⟩ : (50 : Int) ≤ (50 : Int32).toInt ∧ (50 : Int32).toInt ≤ 50) i_19 c_20
        refine lv_aload_n hx hb dX3_readOne_66 rfl (lv_at hl 2 rfl) ?_
        refine lv_iconst (v := 4) hx hb dX3_readOne_67 (by decide) ?_
        have z_22 : (fv_5 14).toInt = (fv 14).toInt := congrArg Int32.toInt ((fr_8 14 rfl))
        have z_23 : 0 ≤ (fv_5 14).toInt ∧ (fv_5 14).toInt ≤ 300 := hF_fv_5 14
        refine va_calli (va_runV (As := [.int 4]) (rest := []) ⟨hx, hb, hml, hown, hts⟩ (x_failC l dC dI H.size ob ad cA hd fv_5 wd_6 ar_7 hF_fv_5 hA_ar_7 4) (cwV 1 hts (gV kw_4_110 kw_4_112 kw_p_6 kw_1_11 kw_4_113) rfl rfl rfl (by decide +kernel) ⟨Nat.le_of_ble_eq_true rfl, Nat.le_of_ble_eq_true rfl⟩) ⟨fun a U g mk q => ⟨q.1, q.2.1, q.2.2.1, va_K.moved (u := U) (U := U.calling g mk a) (Vm.Alike.refl U.vm) q.2.2.2⟩, va_recv hK hP (ci := 4) (q0 := 6) rfl rfl, fun U hU hW => ⟨rfl, by rw [hU], by rw [hU]; exact hP, va_K.moved hW.alike hK⟩⟩ rfl rfl hl.1 rfl (lv_room (Nat.le_of_ble_eq_true rfl)) dX3_readOne_68 ⟨Nat.le_of_ble_eq_true rfl, Nat.le_of_ble_eq_true rfl⟩) hS (fun q _ h9 => aX_up hS q h9) (aX_up hS) (fun r_24 u t H1 locs ht _ hw hB _ hk1 hS => ?_)
        obtain ⟨fv_29, wd_30, ar_31⟩ := u
        obtain ⟨hF_fv_29, hA_ar_31, fr_32, fa_33, wf_34, p_25, p_26, p_27, p_28, -⟩ := hw
        have wf_34 : wd_30.2 = wd_6.2 := wf_34
        have hP : va_P (dC, dI) vwCl (wsX ob ad cA fv_29 wd_30 ar_31) H1 := by have h9 := hB.1; rw [ht] at h9; exact h9
        have fr_32 : fM [19, 20] fv_5 fv_29 := fr_32
        have fa_33 : fA [] ar_7 ar_31 := fa_33
        have p_27 : fv_29 19 = (4 : Int32) := p_27
        have p_28 : fv_29 20 = ar_7 36 ((fv_5 14).toInt.toNat) := p_28
        generalize H1 = H at hP hS ⊢
        rcases p_26 with ⟨rfl, p_26⟩
        · skip
          have z_35 : (0 : Int32).toInt = 0 := by decide
          exact W.zret (v := 0) hx hb hr (by decide) (fun t ht hW => ⟨⟨0, (fv_29, wd_30, ar_31), rfl, ⟨hF_fv_29, hA_ar_31, (fM_call (fM_call (fM_rf [14, 16, 17, 19, 20] _) fr_8 (by decide)) fr_32 (by decide)), (fA_call (fA_call (fA_rf [41, 42, 43] _) fa_9 (by decide)) fa_33 (by decide)), (wf_34.trans wf_10), (iv_w (⟨by decide, by decide⟩ : (0 : Int) ≤ (0 : Int32).toInt ∧ (0 : Int32).toInt ≤ 0) (by decide) (by decide)), (show ∀ r9 : List Bool, r9.length = 8 → rd_x T9 S9 0 ((fv 14).toInt.toNat) ((fv 17).toInt.toNat) r9 (0 : Int32) (fv_29 19) (fv_29 20) (fv_29 14) (fv_29 17) from fun r9 hr => by have : (fv_5 14).toInt = (fv 14).toInt := congrArg Int32.toInt ((fM_call (fM_rf [] _) fr_8 (by decide)) 14 rfl); have : (fv_29 14).toInt = (fv_5 14).toInt := congrArg Int32.toInt ((fM_call (fM_rf [19, 20] _) fr_32 (by decide)) 14 rfl); have : (fv_5 17).toInt = (fv 17).toInt := congrArg Int32.toInt ((fM_call (fM_rf [] _) fr_8 (by decide)) 17 rfl); have : (fv_29 17).toInt = (fv_5 17).toInt := congrArg Int32.toInt ((fM_call (fM_rf [19, 20] _) fr_32 (by decide)) 17 rfl); exact rd_xF (q := (fv_5 14).toInt.toNat) (show (fv_29 19).toInt = ((4 : Nat) : Int) from by rw [show fv_29 19 = fv_29 19 from rfl, p_27]; decide) (by decide) (by rw [rd_m0_many (by omega) (by rw [← zj_11]; omega) (by omega)]; rw [show (fv 14).toInt.toNat = (fv_5 14).toInt.toNat from (by omega)]) (show (fv_29 20).toInt = (S9 ((fv_5 14).toInt.toNat) : Nat) from by rw [show fv_29 20 = fv_29 20 from rfl, p_28, show ar_7 36 = ar 36 from ((fA_call (fA_rf [] _) fa_9 (by decide)) 36 rfl)]; exact (hcx ((fv_5 14).toInt.toNat) (by omega)).2.1)), (show (0 : Int32) = 1 → fv_29 19 = fv 19 from fun w => absurd w (by decide)), (show (fv_29 14).toInt ≤ (c9 : Int) from by have : (fv_5 14).toInt = (fv 14).toInt := congrArg Int32.toInt ((fM_call (fM_rf [] _) fr_8 (by decide)) 14 rfl); have : (fv_29 14).toInt = (fv_5 14).toInt := congrArg Int32.toInt ((fM_call (fM_rf [19, 20] _) fr_32 (by decide)) 14 rfl); omega), (show (0 : Int32) = 1 → (fv 17).toInt + 1 ≤ (fv_29 17).toInt from fun w => absurd w (by decide)), (eC_fr hp_eC (fM_call (fM_call (fM_rf [19, 20] _) fr_8 (by decide)) fr_32 (by decide)) (fA_call (fA_call (fA_rf [] _) fa_9 (by decide)) fa_33 (by decide)) rfl rfl rfl), trivial⟩, ⟨by rw [ht]; exact hP, va_K.moved hW.alike hK⟩⟩, hS.F ht⟩) hS.2.2 dX3_readOne_71
      · skip
        have i_36 : 0 ≤ (fv 17).toInt ∧ (fv 17).toInt ≤ 49 := iv_lt1 i_19 (⟨by decide, by decide⟩ : (50 : Int) ≤ (50 : Int32).toInt ∧ (50 : Int32).toInt ≤ 50) (Int32.not_le.mp c_20)
        refine lv_iload_n hx hb dX3_readOne_60 rfl (lv_at hl 3 rfl) ?_
        refine lv_bipush (v := 10) hx hb dX3_readOne_61 (by decide) ?_
        refine lv_icmp_lt (tgt := 72) hx hb dX3_readOne_63 (by decide) (fun c_37 => ?_) (fun c_37 => ?_)
        · skip
          refine lv_aload_n hx hb dX3_readOne_72 rfl (lv_at hl 2 rfl) ?_
          refine lv_dup hx hb dX3_readOne_73 rfl ?_
          refine gX_X3_38 hx hb htg hown hK hP dX3_readOne_74 ?_
          refine my_ti (y := fv 17) ((fr_8 17 rfl)) ?_
          refine lv_iconst (v := 1) hx hb dX3_readOne_77 (by decide) ?_
          refine lv_iadd hx hb dX3_readOne_78 ?_
          refine lv_topi (fun v_38 ev_38 => ?_)
          have t_39 : v_38.toInt = (fv 17).toInt + 1 ∧ 1 ≤ v_38.toInt ∧ v_38.toInt ≤ 50 := iv_addc ev_38 i_36 (by decide) (by decide) (by decide)
          refine pX_X3_38 hx hb htg hown hK hP hS hd dX3_readOne_79 (fun H locs fv_41 efv_41 hP hS => ?_)
          have hF_fv_41 : rX fv_41 := rX_put hF_fv_5 efv_41 (iv_w t_39.2 (by decide) (by decide))
          refine lv_aload_n hx hb dX3_readOne_82 rfl (lv_at hl 2 rfl) ?_
          have z_42 : (fv_41 13).toInt = (fv 13).toInt := congrArg Int32.toInt ((congrFun efv_41 13).trans ((fr_8 13 rfl)))
          have z_43 : 0 ≤ (fv_41 13).toInt ∧ (fv_41 13).toInt ≤ 301 := hF_fv_41 13
          have z_44 : (fv_41 14).toInt = (fv 14).toInt := congrArg Int32.toInt ((congrFun efv_41 14).trans ((fr_8 14 rfl)))
          have z_45 : 0 ≤ (fv_41 14).toInt ∧ (fv_41 14).toInt ≤ 300 := hF_fv_41 14
          have z_46 : (fv_41 13).toInt = (fv 13).toInt := congrArg Int32.toInt ((congrFun efv_41 13).trans ((fr_8 13 rfl)))
          have z_47 : 0 ≤ (fv_41 13).toInt ∧ (fv_41 13).toInt ≤ 301 := hF_fv_41 13
          have z_48 : (fv_41 14).toInt = (fv 14).toInt := congrArg Int32.toInt ((congrFun efv_41 14).trans ((fr_8 14 rfl)))
          have z_49 : 0 ≤ (fv_41 14).toInt ∧ (fv_41 14).toInt ≤ 300 := hF_fv_41 14
          refine va_callv (va_runV (As := []) (rest := []) ⟨hx, hb, hml, hown, hts⟩ (x_stepC l dC dI H.size ob ad cA hd fv_41 wd_6 ar_7 hF_fv_41 hA_ar_7 (by have h9 := rd_lt hfin (p := (fv 14).toInt.toNat) (by omega) (by rw [← zj_11]; omega); omega)) (cwV 0 hts (gV kw_4_116 kw_4_118 kw_p_7 kw_1_11 kw_4_119) rfl rfl rfl (by decide +kernel) ⟨Nat.le_of_ble_eq_true rfl, Nat.le_of_ble_eq_true rfl⟩) ⟨fun a U g mk q => ⟨q.1, q.2.1, q.2.2.1, va_K.moved (u := U) (U := U.calling g mk a) (Vm.Alike.refl U.vm) q.2.2.2⟩, va_recv hK hP (ci := 4) (q0 := 6) rfl rfl, fun U hU hW => ⟨rfl, by rw [hU], by rw [hU]; exact hP, va_K.moved hW.alike hK⟩⟩ rfl rfl hl.1 rfl (lv_room (Nat.le_of_ble_eq_true rfl)) dX3_readOne_83 ⟨Nat.le_of_ble_eq_true rfl, Nat.le_of_ble_eq_true rfl⟩) hS (fun q _ h9 => aX_up hS q h9) (aX_up hS) (fun u t H1 locs ht _ hw hB _ hk1 hS => ?_)
          obtain ⟨fv_52, wd_53, ar_54⟩ := u
          obtain ⟨hF_fv_52, hA_ar_54, fr_55, fa_56, wf_57, p_51, -⟩ := hw
          have wf_57 : wd_53.2 = wd_6.2 := wf_57
          have hP : va_P (dC, dI) vwCl (wsX ob ad cA fv_52 wd_53 ar_54) H1 := by have h9 := hB.1; rw [ht] at h9; exact h9
          have fr_55 : fM [14] fv_41 fv_52 := fr_55
          have fa_56 : fA [] ar_7 ar_54 := fa_56
          have p_51 : (fv_52 14).toInt = (fv_41 14).toInt + 1 ∧ (fv_52 14).toInt ≤ (fv_41 13).toInt - 1 := p_51
          generalize H1 = H at hP hS ⊢
          refine lv_aload_n hx hb dX3_readOne_86 rfl (lv_at hl 1 rfl) ?_
          refine va_gets hx hb (hE.1 22 (by decide)).1 hS hown (htg (.fieldLink RX3 190 "WalkingTown$Token" "NOT" "LWalkingTown$Token;") kw_4_124) (fun _ h9 => h9) dX3_readOne_87 ?_
          refine lv_acmp_ne (rx := some (tA j_11)) (ry := some (tA 22)) (tgt := 113) hx hb dX3_readOne_90 (by decide) (fun c_58 => ?_) (fun c_58 => ?_)
          · skip
            have k_59 : ¬ j_11 = 22 := fun w => c_58 (by rw [w])
            refine lv_aload_n hx hb dX3_readOne_113 rfl (lv_at hl 1 rfl) ?_
            refine va_gets hx hb (hE.1 27 (by decide)).1 hS hown (htg (.fieldLink RX3 209 "WalkingTown$Token" "OPEN" "LWalkingTown$Token;") kw_4_148) (fun _ h9 => h9) dX3_readOne_114 ?_
            refine lv_acmp_ne (rx := some (tA j_11)) (ry := some (tA 27)) (tgt := 146) hx hb dX3_readOne_117 (by decide) (fun c_60 => ?_) (fun c_60 => ?_)
            · skip
              have k_61 : ¬ j_11 = 27 := fun w => c_60 (by rw [w])
              refine lv_aload_n hx hb dX3_readOne_146 rfl (lv_at hl 1 rfl) ?_
              refine va_getE hx hb hE lj_11 hS hown (q := tkrole) (List.mem_cons_self ..) (htg (.fieldLink RX3 162 "WalkingTown$Token" "role" "I") kw_9_66) (fun _ h9 => h9) dX3_readOne_147 ?_
              refine lv_topi (fun v_62 ev_62 => ?_)
              have i_63 : 0 ≤ v_62.toInt ∧ v_62.toInt ≤ 11 := ev_62 ▸ tk_role j_11
              have k_64 := rd_role lj_11 ev_62
              refine lv_iconst (v := 2) hx hb dX3_readOne_150 (by decide) ?_
              refine lv_icmp_ne (tgt := 167) hx hb dX3_readOne_151 (by decide) (fun c_65 => ?_) (fun c_65 => ?_)
              · skip
                have k_66 : ¬ v_62.toInt = 2 := fun q => c_65 (Int32.toInt_inj.mp q)
                refine lv_aload_n hx hb dX3_readOne_167 rfl (lv_at hl 2 rfl) ?_
                refine lv_aload_n hx hb dX3_readOne_168 rfl (lv_at hl 1 rfl) ?_
                refine va_getE hx hb hE lj_11 hS hown (q := tkcode) (List.mem_cons_of_mem _ (List.mem_cons_self ..)) (htg (.fieldLink RX3 168 "WalkingTown$Token" "code" "I") kw_9_67) (fun _ h9 => h9) dX3_readOne_169 ?_
                refine lv_topi (fun v_67 ev_67 => ?_)
                have i_68 : 0 ≤ v_67.toInt ∧ v_67.toInt ≤ 11 := ev_67 ▸ tk_code j_11
                have z_69 : (fv_52 13).toInt = (fv 13).toInt := congrArg Int32.toInt ((fr_55 13 rfl).trans ((congrFun efv_41 13).trans ((fr_8 13 rfl))))
                have z_70 : 0 ≤ (fv_52 13).toInt ∧ (fv_52 13).toInt ≤ 301 := hF_fv_52 13
                have z_71 : 0 ≤ (fv_52 14).toInt ∧ (fv_52 14).toInt ≤ 300 := hF_fv_52 14
                have z_72 : 0 ≤ (fv_52 14).toInt ∧ (fv_52 14).toInt ≤ 300 := hF_fv_52 14
                have z_73 : (fv_52 17).toInt = v_38.toInt := congrArg Int32.toInt ((fr_55 17 rfl).trans ((congrFun efv_41 17)))
                have z_74 : 0 ≤ (fv_52 17).toInt ∧ (fv_52 17).toInt ≤ 50 := hF_fv_52 17
                refine va_calli (va_runV (As := [.int v_67]) (rest := []) ⟨hx, hb, hml, hown, hts⟩ (x_readSignC l dC dI H.size ob ad cA hd fv_52 wd_53 ar_54 hF_fv_52 hA_ar_54 tA (tO_w hto (wf_57.trans wf_10)) T9 S9 N9 c9 v_67 i_68 (rd_cx_eq hcx (congrArg (fun z => z.1) (wf_57.trans wf_10)) ((fA_call (fA_call (fA_rf [] _) fa_9 (by decide)) fa_56 (by decide)) 36 rfl) ((fA_call (fA_call (fA_rf [] _) fa_9 (by decide)) fa_56 (by decide)) 37 rfl)) (by omega) (by omega) h300 hT32 hfin (eC_fr hp_eC (fM_call (fM_put (fM_call (fM_rf [14, 17] _) fr_8 (by decide)) efv_41 (by decide)) fr_55 (by decide)) (fA_call (fA_call (fA_rf [] _) fa_9 (by decide)) fa_56 (by decide)) rfl rfl rfl)) (cwV 1 hts (gV kw_4_156 kw_4_158 kw_p_15 kw_1_11 kw_4_159) rfl rfl rfl (by decide +kernel) ⟨Nat.le_of_ble_eq_true rfl, Nat.le_of_ble_eq_true rfl⟩) ⟨fun a U g mk q => ⟨q.1, ⟨q.2.1.1, q.2.1.2.1, va_K.moved (u := U) (U := U.calling g mk a) (Vm.Alike.refl U.vm) q.2.1.2.2⟩, tk_mv (U := U.calling g mk a) rfl (Vm.Alike.refl U.vm) q.2.2⟩, va_recv hK hP (ci := 4) (q0 := 6) rfl rfl, fun U hU hW => ⟨rfl, ⟨by rw [hU], by rw [hU]; exact hP, va_K.moved hW.alike hK⟩, tk_pass hE hS hU hW.alike⟩⟩ rfl rfl hl.1 rfl (lv_room (Nat.le_of_ble_eq_true rfl)) dX3_readOne_172 ⟨Nat.le_of_ble_eq_true rfl, Nat.le_of_ble_eq_true rfl⟩) hS (fun q _ h9 => aX_up hS q h9) (aX_up hS) (fun r_75 u t H1 locs ht _ hw hB _ hk1 hS => ?_)
                obtain ⟨fv_81, wd_82, ar_83⟩ := u
                obtain ⟨hF_fv_81, hA_ar_83, fr_84, fa_85, wf_86, p_76, p_77, p_78, p_79, p_80, -⟩ := hw
                have wf_86 : wd_82.2 = wd_53.2 := wf_86
                have hP : va_P (dC, dI) vwCl (wsX ob ad cA fv_81 wd_82 ar_83) H1 := by have h9 := hB.1; rw [ht] at h9; exact h9
                have fr_84 : fM [14, 16, 19, 20] fv_52 fv_81 := fr_84
                have fa_85 : fA [41, 42, 43] ar_54 ar_83 := fa_85
                have p_80 : eC fv_81 ar_83 := p_80
                have p_77 : ∀ r9 : List Bool, rd_x T9 S9 2 ((fv_52 14).toInt.toNat) ((fv_52 17).toInt.toNat) r9 r_75 (fv_81 19) (fv_81 20) (fv_81 14) (fv_81 17) := p_77
                have p_78 : r_75 = 1 → fv_81 19 = fv_52 19 := p_78
                have p_79 : (fv_81 14).toInt ≤ (c9 : Int) := p_79
                generalize H1 = H at hP hS ⊢
                exact W.zret (v := r_75) hx hb hr (iv_nar p_76) (fun t ht hW => ⟨⟨r_75, (fv_81, wd_82, ar_83), rfl, ⟨hF_fv_81, hA_ar_83, (fM_call (fM_call (fM_put (fM_call (fM_rf [14, 16, 17, 19, 20] _) fr_8 (by decide)) efv_41 (by decide)) fr_55 (by decide)) fr_84 (by decide)), (fA_call (fA_call (fA_call (fA_rf [41, 42, 43] _) fa_9 (by decide)) fa_56 (by decide)) fa_85 (by decide)), (wf_86.trans (wf_57.trans wf_10)), p_76, (show ∀ r9 : List Bool, r9.length = 8 → rd_x T9 S9 0 ((fv 14).toInt.toNat) ((fv 17).toInt.toNat) r9 r_75 (fv_81 19) (fv_81 20) (fv_81 14) (fv_81 17) from fun r9 hr => by have : (fv_5 14).toInt = (fv 14).toInt := congrArg Int32.toInt ((fM_call (fM_rf [] _) fr_8 (by decide)) 14 rfl); have : (fv_41 14).toInt = (fv_5 14).toInt := congrArg Int32.toInt ((fM_put (fM_rf [17] _) efv_41 (by decide)) 14 rfl); have : (fv_5 17).toInt = (fv 17).toInt := congrArg Int32.toInt ((fM_call (fM_rf [] _) fr_8 (by decide)) 17 rfl); have : (fv_41 17).toInt = v_38.toInt := congrArg Int32.toInt (show fv_41 17 = v_38 from congrFun efv_41 17); have : (fv_52 17).toInt = (fv_41 17).toInt := congrArg Int32.toInt ((fM_call (fM_rf [14] _) fr_55 (by decide)) 17 rfl); have : (fv_81 17).toInt = (fv_52 17).toInt := congrArg Int32.toInt ((fM_call (fM_rf [14, 16, 19, 20] _) fr_84 (by decide)) 17 rfl); have h9 := p_77 r9; exact rd_x_of h9 (by rw [rd_m0_fact (by omega) (by rw [← zj_11]; omega) (by omega), show (fv 14).toInt.toNat + 1 = (fv_52 14).toInt.toNat from (by omega), show (fv 17).toInt.toNat + 1 = (fv_52 17).toInt.toNat from (by omega)])), (show r_75 = 1 → fv_81 19 = fv 19 from fun w => (show fv_81 19 = fv_81 19 from rfl).trans ((p_78 w).trans ((fM_call (fM_put (fM_call (fM_rf [14, 17] _) fr_8 (by decide)) efv_41 (by decide)) fr_55 (by decide)) 19 rfl))), (show (fv_81 14).toInt ≤ (c9 : Int) from by have : (fv_5 14).toInt = (fv 14).toInt := congrArg Int32.toInt ((fM_call (fM_rf [] _) fr_8 (by decide)) 14 rfl); have : (fv_41 14).toInt = (fv_5 14).toInt := congrArg Int32.toInt ((fM_put (fM_rf [17] _) efv_41 (by decide)) 14 rfl); have hp9 := p_79; omega), (show r_75 = 1 → (fv 17).toInt + 1 ≤ (fv_81 17).toInt from fun w => by have : (fv_5 17).toInt = (fv 17).toInt := congrArg Int32.toInt ((fM_call (fM_rf [] _) fr_8 (by decide)) 17 rfl); have : (fv_41 17).toInt = v_38.toInt := congrArg Int32.toInt (show fv_41 17 = v_38 from congrFun efv_41 17); have : (fv_52 17).toInt = (fv_41 17).toInt := congrArg Int32.toInt ((fM_call (fM_rf [14] _) fr_55 (by decide)) 17 rfl); have : (fv_81 17).toInt = (fv_52 17).toInt := congrArg Int32.toInt ((fM_call (fM_rf [14, 16, 19, 20] _) fr_84 (by decide)) 17 rfl); have hi9 : (fv_81 17).toInt = (fv_52 17).toInt := congrArg Int32.toInt ((fM_call (fM_rf [14, 16, 19, 20] _) fr_84 (by decide)) 17 rfl); omega), p_80, trivial⟩, ⟨by rw [ht]; exact hP, va_K.moved hW.alike hK⟩⟩, hS.F ht⟩) hS.2.2 dX3_readOne_175
              · skip
                have i_87 : 2 ≤ v_62.toInt ∧ v_62.toInt ≤ 2 := iv_eq1 (⟨by decide, by decide⟩ : (2 : Int) ≤ (2 : Int32).toInt ∧ (2 : Int32).toInt ≤ 2) c_65
                refine lv_aload_n hx hb dX3_readOne_154 rfl (lv_at hl 2 rfl) ?_
                refine lv_iconst (v := 2) hx hb dX3_readOne_155 (by decide) ?_
                refine lv_aload_n hx hb dX3_readOne_156 rfl (lv_at hl 1 rfl) ?_
                refine va_getE hx hb hE lj_11 hS hown (q := tkcode) (List.mem_cons_of_mem _ (List.mem_cons_self ..)) (htg (.fieldLink RX3 168 "WalkingTown$Token" "code" "I") kw_9_67) (fun _ h9 => h9) dX3_readOne_157 ?_
                refine lv_topi (fun v_89 ev_89 => ?_)
                have i_90 : 0 ≤ v_89.toInt ∧ v_89.toInt ≤ 11 := ev_89 ▸ tk_code j_11
                refine lv_iconst (v := 0) hx hb dX3_readOne_160 (by decide) ?_
                refine va_calli (va_runV (As := [.int 2, .int v_89, .int 0]) (rest := []) ⟨hx, hb, hml, hown, hts⟩ (x_addCode l dC dI H.size ob ad cA hd fv_52 wd_53 ar_54 hF_fv_52 hA_ar_54 2 v_89 0 i_90 (eC_fr hp_eC (fM_call (fM_put (fM_call (fM_rf [14, 17] _) fr_8 (by decide)) efv_41 (by decide)) fr_55 (by decide)) (fA_call (fA_call (fA_rf [] _) fa_9 (by decide)) fa_56 (by decide)) rfl rfl rfl)) (cwV 3 hts (gV kw_4_150 kw_4_152 kw_p_14 kw_1_11 kw_4_153) rfl rfl rfl (by decide +kernel) ⟨Nat.le_of_ble_eq_true rfl, Nat.le_of_ble_eq_true rfl⟩) ⟨fun a U g mk q => ⟨q.1, q.2.1, q.2.2.1, va_K.moved (u := U) (U := U.calling g mk a) (Vm.Alike.refl U.vm) q.2.2.2⟩, va_recv hK hP (ci := 4) (q0 := 6) rfl rfl, fun U hU hW => ⟨rfl, by rw [hU], by rw [hU]; exact hP, va_K.moved hW.alike hK⟩⟩ rfl rfl hl.1 rfl (lv_room (Nat.le_of_ble_eq_true rfl)) dX3_readOne_161 ⟨Nat.le_of_ble_eq_true rfl, Nat.le_of_ble_eq_true rfl⟩) hS (fun q _ h9 => aX_up hS q h9) (aX_up hS) (fun r_91 u t H1 locs ht _ hw hB _ hk1 hS => ?_)
                obtain ⟨fv_95, wd_96, ar_97⟩ := u
                obtain ⟨hF_fv_95, hA_ar_97, fr_98, fa_99, wf_100, p_92, p_93, p_94, -⟩ := hw
                have wf_100 : wd_96.2 = wd_53.2 := wf_100
                have hP : va_P (dC, dI) vwCl (wsX ob ad cA fv_95 wd_96 ar_97) H1 := by have h9 := hB.1; rw [ht] at h9; exact h9
                have fr_98 : fM [16] fv_52 fv_95 := fr_98
                have fa_99 : fA [41, 42, 43] ar_54 ar_97 := fa_99
                have p_94 : eC fv_95 ar_97 := p_94
                generalize H1 = H at hP hS ⊢
                rcases p_93 with ⟨rfl, p_93⟩
                · skip
                  refine lv_goto (tgt := 175) hx hb dX3_readOne_164 (by decide) ?_
                  have z_101 : (1 : Int32).toInt = 1 := by decide
                  exact W.zret (v := 1) hx hb hr (by decide) (fun t ht hW => ⟨⟨1, (fv_95, wd_96, ar_97), rfl, ⟨hF_fv_95, hA_ar_97, (fM_call (fM_call (fM_put (fM_call (fM_rf [14, 16, 17, 19, 20] _) fr_8 (by decide)) efv_41 (by decide)) fr_55 (by decide)) fr_98 (by decide)), (fA_call (fA_call (fA_call (fA_rf [41, 42, 43] _) fa_9 (by decide)) fa_56 (by decide)) fa_99 (by decide)), (wf_100.trans (wf_57.trans wf_10)), (iv_w (⟨by decide, by decide⟩ : (1 : Int) ≤ (1 : Int32).toInt ∧ (1 : Int32).toInt ≤ 1) (by decide) (by decide)), (show ∀ r9 : List Bool, r9.length = 8 → rd_x T9 S9 0 ((fv 14).toInt.toNat) ((fv 17).toInt.toNat) r9 (1 : Int32) (fv_95 19) (fv_95 20) (fv_95 14) (fv_95 17) from fun r9 hr => by have : (fv_5 14).toInt = (fv 14).toInt := congrArg Int32.toInt ((fM_call (fM_rf [] _) fr_8 (by decide)) 14 rfl); have : (fv_41 14).toInt = (fv_5 14).toInt := congrArg Int32.toInt ((fM_put (fM_rf [17] _) efv_41 (by decide)) 14 rfl); have : (fv_95 14).toInt = (fv_52 14).toInt := congrArg Int32.toInt ((fM_call (fM_rf [16] _) fr_98 (by decide)) 14 rfl); have : (fv_5 17).toInt = (fv 17).toInt := congrArg Int32.toInt ((fM_call (fM_rf [] _) fr_8 (by decide)) 17 rfl); have : (fv_41 17).toInt = v_38.toInt := congrArg Int32.toInt (show fv_41 17 = v_38 from congrFun efv_41 17); have : (fv_52 17).toInt = (fv_41 17).toInt := congrArg Int32.toInt ((fM_call (fM_rf [14] _) fr_55 (by decide)) 17 rfl); have : (fv_95 17).toInt = (fv_52 17).toInt := congrArg Int32.toInt ((fM_call (fM_rf [16] _) fr_98 (by decide)) 17 rfl); exact rd_xO (by rw [rd_m0_flag (by omega) (by rw [← zj_11]; omega) (by omega), show (fv 14).toInt.toNat + 1 = (fv_95 14).toInt.toNat from (by omega), show (fv 17).toInt.toNat + 1 = (fv_95 17).toInt.toNat from (by omega)])), (show (1 : Int32) = 1 → fv_95 19 = fv 19 from fun _ => ((fM_call (fM_call (fM_put (fM_call (fM_rf [14, 16, 17] _) fr_8 (by decide)) efv_41 (by decide)) fr_55 (by decide)) fr_98 (by decide)) 19 rfl)), (show (fv_95 14).toInt ≤ (c9 : Int) from by have : (fv_5 14).toInt = (fv 14).toInt := congrArg Int32.toInt ((fM_call (fM_rf [] _) fr_8 (by decide)) 14 rfl); have : (fv_41 14).toInt = (fv_5 14).toInt := congrArg Int32.toInt ((fM_put (fM_rf [17] _) efv_41 (by decide)) 14 rfl); have : (fv_95 14).toInt = (fv_52 14).toInt := congrArg Int32.toInt ((fM_call (fM_rf [16] _) fr_98 (by decide)) 14 rfl); omega), (show (1 : Int32) = 1 → (fv 17).toInt + 1 ≤ (fv_95 17).toInt from fun w => by have : (fv_5 17).toInt = (fv 17).toInt := congrArg Int32.toInt ((fM_call (fM_rf [] _) fr_8 (by decide)) 17 rfl); have : (fv_41 17).toInt = v_38.toInt := congrArg Int32.toInt (show fv_41 17 = v_38 from congrFun efv_41 17); have : (fv_52 17).toInt = (fv_41 17).toInt := congrArg Int32.toInt ((fM_call (fM_rf [14] _) fr_55 (by decide)) 17 rfl); have : (fv_95 17).toInt = (fv_52 17).toInt := congrArg Int32.toInt ((fM_call (fM_rf [16] _) fr_98 (by decide)) 17 rfl); omega), p_94, trivial⟩, ⟨by rw [ht]; exact hP, va_K.moved hW.alike hK⟩⟩, hS.F ht⟩) hS.2.2 dX3_readOne_175
            · skip
              have k_102 : j_11 = 27 := hE.2 j_11 27 lj_11 (by decide) (Option.some.inj c_60)
              exfalso; omega
          · skip
            have k_103 : j_11 = 22 := hE.2 j_11 22 lj_11 (by decide) (Option.some.inj c_58)
            exfalso; omega
        · skip
          exact absurd True.intro (by have h7 := (⟨by decide, by decide⟩ : (10 : Int) ≤ (10 : Int32).toInt ∧ (10 : Int32).toInt ≤ 10); have h8 := h_wi; have h9 := Int32.le_iff_toInt_le.mp (Int32.not_lt.mp c_37); exfalso; omega)
    · skip
      exact absurd c_18 (by decide)
  · skip
    have k_104 : ¬ v_12.toInt = 2 := fun q => c_15 (Int32.toInt_inj.mp q)
    refine lv_aload_n hx hb dX3_readOne_13 rfl (lv_at hl 0 rfl) ?_
    refine va_getE hx hb hE lj_11 hS hown (q := tkrole) (List.mem_cons_self ..) (htg (.fieldLink RX3 162 "WalkingTown$Token" "role" "I") kw_9_66) (fun _ h9 => h9) dX3_readOne_14 ?_
    refine lv_topi (fun v_105 ev_105 => ?_)
    have i_106 : 0 ≤ v_105.toInt ∧ v_105.toInt ≤ 11 := ev_105 ▸ tk_role j_11
    have k_107 := rd_role lj_11 ev_105
    refine lv_iconst (v := 3) hx hb dX3_readOne_17 (by decide) ?_
    refine lv_icmp_ne (tgt := 25) hx hb dX3_readOne_18 (by decide) (fun c_108 => ?_) (fun c_108 => ?_)
    · skip
      have k_109 : ¬ v_105.toInt = 3 := fun q => c_108 (Int32.toInt_inj.mp q)
      refine lv_iconst (v := 0) hx hb dX3_readOne_25 (by decide) ?_
      refine lv_istore_n (lv' := [(3, .int 0), (2, .ref (tA j_11)), (0, .ref (ob 6)), (1, .int wi)]) hx hb dX3_readOne_26 rfl hl (by decide) rfl (fun ls hl => ?_)
      refine lv_iload_n hx hb dX3_readOne_27 rfl (lv_at hl 0 rfl) ?_
      refine lv_if_ne (tgt := 51) hx hb dX3_readOne_28 (by decide) (fun c_110 => ?_) (fun c_110 => ?_)
      · skip
        exact absurd c_110 (by decide)
      · skip
        refine lv_aload_n hx hb dX3_readOne_31 rfl (lv_at hl 1 rfl) ?_
        refine va_gets hx hb (hE.1 22 (by decide)).1 hS hown (htg (.fieldLink RX3 190 "WalkingTown$Token" "NOT" "LWalkingTown$Token;") kw_4_124) (fun _ h9 => h9) dX3_readOne_32 ?_
        refine lv_acmp_eq (rx := some (tA j_11)) (ry := some (tA 22)) (tgt := 51) hx hb dX3_readOne_35 (by decide) (fun c_111 => ?_) (fun c_111 => ?_)
        · skip
          have k_112 : j_11 = 22 := hE.2 j_11 22 lj_11 (by decide) (Option.some.inj c_111)
          refine lv_aload_n hx hb dX3_readOne_51 rfl (lv_at hl 2 rfl) ?_
          refine gX_X3_38 hx hb htg hown hK hP dX3_readOne_52 ?_
          refine my_ti (y := fv 17) ((fr_8 17 rfl)) ?_
          have i_113 : 0 ≤ (fv 17).toInt ∧ (fv 17).toInt ≤ 50 := hF_fv 17
          refine lv_bipush (v := 50) hx hb dX3_readOne_55 (by decide) ?_
          refine lv_icmp_ge (tgt := 66) hx hb dX3_readOne_57 (by decide) (fun c_114 => ?_) (fun c_114 => ?_)
          · skip
            have i_115 : 50 ≤ (fv 17).toInt ∧ (fv 17).toInt ≤ 50 := iv_le2 (⟨by decide, by decide⟩ : (50 : Int) ≤ (50 : Int32).toInt ∧ (50 : Int32).toInt ≤ 50) i_113 c_114
            refine lv_aload_n hx hb dX3_readOne_66 rfl (lv_at hl 2 rfl) ?_
            refine lv_iconst (v := 4) hx hb dX3_readOne_67 (by decide) ?_
            have z_116 : (fv_5 14).toInt = (fv 14).toInt := congrArg Int32.toInt ((fr_8 14 rfl))
            have z_117 : 0 ≤ (fv_5 14).toInt ∧ (fv_5 14).toInt ≤ 300 := hF_fv_5 14
            refine va_calli (va_runV (As := [.int 4]) (rest := []) ⟨hx, hb, hml, hown, hts⟩ (x_failC l dC dI H.size ob ad cA hd fv_5 wd_6 ar_7 hF_fv_5 hA_ar_7 4) (cwV 1 hts (gV kw_4_110 kw_4_112 kw_p_6 kw_1_11 kw_4_113) rfl rfl rfl (by decide +kernel) ⟨Nat.le_of_ble_eq_true rfl, Nat.le_of_ble_eq_true rfl⟩) ⟨fun a U g mk q => ⟨q.1, q.2.1, q.2.2.1, va_K.moved (u := U) (U := U.calling g mk a) (Vm.Alike.refl U.vm) q.2.2.2⟩, va_recv hK hP (ci := 4) (q0 := 6) rfl rfl, fun U hU hW => ⟨rfl, by rw [hU], by rw [hU]; exact hP, va_K.moved hW.alike hK⟩⟩ rfl rfl hl.1 rfl (lv_room (Nat.le_of_ble_eq_true rfl)) dX3_readOne_68 ⟨Nat.le_of_ble_eq_true rfl, Nat.le_of_ble_eq_true rfl⟩) hS (fun q _ h9 => aX_up hS q h9) (aX_up hS) (fun r_118 u t H1 locs ht _ hw hB _ hk1 hS => ?_)
            obtain ⟨fv_123, wd_124, ar_125⟩ := u
            obtain ⟨hF_fv_123, hA_ar_125, fr_126, fa_127, wf_128, p_119, p_120, p_121, p_122, -⟩ := hw
            have wf_128 : wd_124.2 = wd_6.2 := wf_128
            have hP : va_P (dC, dI) vwCl (wsX ob ad cA fv_123 wd_124 ar_125) H1 := by have h9 := hB.1; rw [ht] at h9; exact h9
            have fr_126 : fM [19, 20] fv_5 fv_123 := fr_126
            have fa_127 : fA [] ar_7 ar_125 := fa_127
            have p_121 : fv_123 19 = (4 : Int32) := p_121
            have p_122 : fv_123 20 = ar_7 36 ((fv_5 14).toInt.toNat) := p_122
            generalize H1 = H at hP hS ⊢
            rcases p_120 with ⟨rfl, p_120⟩
            · skip
              have z_129 : (0 : Int32).toInt = 0 := by decide
              exact W.zret (v := 0) hx hb hr (by decide) (fun t ht hW => ⟨⟨0, (fv_123, wd_124, ar_125), rfl, ⟨hF_fv_123, hA_ar_125, (fM_call (fM_call (fM_rf [14, 16, 17, 19, 20] _) fr_8 (by decide)) fr_126 (by decide)), (fA_call (fA_call (fA_rf [41, 42, 43] _) fa_9 (by decide)) fa_127 (by decide)), (wf_128.trans wf_10), (iv_w (⟨by decide, by decide⟩ : (0 : Int) ≤ (0 : Int32).toInt ∧ (0 : Int32).toInt ≤ 0) (by decide) (by decide)), (show ∀ r9 : List Bool, r9.length = 8 → rd_x T9 S9 0 ((fv 14).toInt.toNat) ((fv 17).toInt.toNat) r9 (0 : Int32) (fv_123 19) (fv_123 20) (fv_123 14) (fv_123 17) from fun r9 hr => by have : (fv_5 14).toInt = (fv 14).toInt := congrArg Int32.toInt ((fM_call (fM_rf [] _) fr_8 (by decide)) 14 rfl); have : (fv_123 14).toInt = (fv_5 14).toInt := congrArg Int32.toInt ((fM_call (fM_rf [19, 20] _) fr_126 (by decide)) 14 rfl); have : (fv_5 17).toInt = (fv 17).toInt := congrArg Int32.toInt ((fM_call (fM_rf [] _) fr_8 (by decide)) 17 rfl); have : (fv_123 17).toInt = (fv_5 17).toInt := congrArg Int32.toInt ((fM_call (fM_rf [19, 20] _) fr_126 (by decide)) 17 rfl); exact rd_xF (q := (fv_5 14).toInt.toNat) (show (fv_123 19).toInt = ((4 : Nat) : Int) from by rw [show fv_123 19 = fv_123 19 from rfl, p_121]; decide) (by decide) (by rw [rd_m0_many (by omega) (by rw [← zj_11]; omega) (by omega)]; rw [show (fv 14).toInt.toNat = (fv_5 14).toInt.toNat from (by omega)]) (show (fv_123 20).toInt = (S9 ((fv_5 14).toInt.toNat) : Nat) from by rw [show fv_123 20 = fv_123 20 from rfl, p_122, show ar_7 36 = ar 36 from ((fA_call (fA_rf [] _) fa_9 (by decide)) 36 rfl)]; exact (hcx ((fv_5 14).toInt.toNat) (by omega)).2.1)), (show (0 : Int32) = 1 → fv_123 19 = fv 19 from fun w => absurd w (by decide)), (show (fv_123 14).toInt ≤ (c9 : Int) from by have : (fv_5 14).toInt = (fv 14).toInt := congrArg Int32.toInt ((fM_call (fM_rf [] _) fr_8 (by decide)) 14 rfl); have : (fv_123 14).toInt = (fv_5 14).toInt := congrArg Int32.toInt ((fM_call (fM_rf [19, 20] _) fr_126 (by decide)) 14 rfl); omega), (show (0 : Int32) = 1 → (fv 17).toInt + 1 ≤ (fv_123 17).toInt from fun w => absurd w (by decide)), (eC_fr hp_eC (fM_call (fM_call (fM_rf [19, 20] _) fr_8 (by decide)) fr_126 (by decide)) (fA_call (fA_call (fA_rf [] _) fa_9 (by decide)) fa_127 (by decide)) rfl rfl rfl), trivial⟩, ⟨by rw [ht]; exact hP, va_K.moved hW.alike hK⟩⟩, hS.F ht⟩) hS.2.2 dX3_readOne_71
          · skip
            have i_130 : 0 ≤ (fv 17).toInt ∧ (fv 17).toInt ≤ 49 := iv_lt1 i_113 (⟨by decide, by decide⟩ : (50 : Int) ≤ (50 : Int32).toInt ∧ (50 : Int32).toInt ≤ 50) (Int32.not_le.mp c_114)
            refine lv_iload_n hx hb dX3_readOne_60 rfl (lv_at hl 3 rfl) ?_
            refine lv_bipush (v := 10) hx hb dX3_readOne_61 (by decide) ?_
            refine lv_icmp_lt (tgt := 72) hx hb dX3_readOne_63 (by decide) (fun c_131 => ?_) (fun c_131 => ?_)
            · skip
              refine lv_aload_n hx hb dX3_readOne_72 rfl (lv_at hl 2 rfl) ?_
              refine lv_dup hx hb dX3_readOne_73 rfl ?_
              refine gX_X3_38 hx hb htg hown hK hP dX3_readOne_74 ?_
              refine my_ti (y := fv 17) ((fr_8 17 rfl)) ?_
              refine lv_iconst (v := 1) hx hb dX3_readOne_77 (by decide) ?_
              refine lv_iadd hx hb dX3_readOne_78 ?_
              refine lv_topi (fun v_132 ev_132 => ?_)
              have t_133 : v_132.toInt = (fv 17).toInt + 1 ∧ 1 ≤ v_132.toInt ∧ v_132.toInt ≤ 50 := iv_addc ev_132 i_130 (by decide) (by decide) (by decide)
              refine pX_X3_38 hx hb htg hown hK hP hS hd dX3_readOne_79 (fun H locs fv_135 efv_135 hP hS => ?_)
              have hF_fv_135 : rX fv_135 := rX_put hF_fv_5 efv_135 (iv_w t_133.2 (by decide) (by decide))
              refine lv_aload_n hx hb dX3_readOne_82 rfl (lv_at hl 2 rfl) ?_
              have z_136 : (fv_135 13).toInt = (fv 13).toInt := congrArg Int32.toInt ((congrFun efv_135 13).trans ((fr_8 13 rfl)))
              have z_137 : 0 ≤ (fv_135 13).toInt ∧ (fv_135 13).toInt ≤ 301 := hF_fv_135 13
              have z_138 : (fv_135 14).toInt = (fv 14).toInt := congrArg Int32.toInt ((congrFun efv_135 14).trans ((fr_8 14 rfl)))
              have z_139 : 0 ≤ (fv_135 14).toInt ∧ (fv_135 14).toInt ≤ 300 := hF_fv_135 14
              have z_140 : (fv_135 13).toInt = (fv 13).toInt := congrArg Int32.toInt ((congrFun efv_135 13).trans ((fr_8 13 rfl)))
              have z_141 : 0 ≤ (fv_135 13).toInt ∧ (fv_135 13).toInt ≤ 301 := hF_fv_135 13
              have z_142 : (fv_135 14).toInt = (fv 14).toInt := congrArg Int32.toInt ((congrFun efv_135 14).trans ((fr_8 14 rfl)))
              have z_143 : 0 ≤ (fv_135 14).toInt ∧ (fv_135 14).toInt ≤ 300 := hF_fv_135 14
              refine va_callv (va_runV (As := []) (rest := []) ⟨hx, hb, hml, hown, hts⟩ (x_stepC l dC dI H.size ob ad cA hd fv_135 wd_6 ar_7 hF_fv_135 hA_ar_7 (by have h9 := rd_lt hfin (p := (fv 14).toInt.toNat) (by omega) (by rw [← zj_11]; omega); omega)) (cwV 0 hts (gV kw_4_116 kw_4_118 kw_p_7 kw_1_11 kw_4_119) rfl rfl rfl (by decide +kernel) ⟨Nat.le_of_ble_eq_true rfl, Nat.le_of_ble_eq_true rfl⟩) ⟨fun a U g mk q => ⟨q.1, q.2.1, q.2.2.1, va_K.moved (u := U) (U := U.calling g mk a) (Vm.Alike.refl U.vm) q.2.2.2⟩, va_recv hK hP (ci := 4) (q0 := 6) rfl rfl, fun U hU hW => ⟨rfl, by rw [hU], by rw [hU]; exact hP, va_K.moved hW.alike hK⟩⟩ rfl rfl hl.1 rfl (lv_room (Nat.le_of_ble_eq_true rfl)) dX3_readOne_83 ⟨Nat.le_of_ble_eq_true rfl, Nat.le_of_ble_eq_true rfl⟩) hS (fun q _ h9 => aX_up hS q h9) (aX_up hS) (fun u t H1 locs ht _ hw hB _ hk1 hS => ?_)
              obtain ⟨fv_146, wd_147, ar_148⟩ := u
              obtain ⟨hF_fv_146, hA_ar_148, fr_149, fa_150, wf_151, p_145, -⟩ := hw
              have wf_151 : wd_147.2 = wd_6.2 := wf_151
              have hP : va_P (dC, dI) vwCl (wsX ob ad cA fv_146 wd_147 ar_148) H1 := by have h9 := hB.1; rw [ht] at h9; exact h9
              have fr_149 : fM [14] fv_135 fv_146 := fr_149
              have fa_150 : fA [] ar_7 ar_148 := fa_150
              have p_145 : (fv_146 14).toInt = (fv_135 14).toInt + 1 ∧ (fv_146 14).toInt ≤ (fv_135 13).toInt - 1 := p_145
              generalize H1 = H at hP hS ⊢
              refine lv_aload_n hx hb dX3_readOne_86 rfl (lv_at hl 1 rfl) ?_
              refine va_gets hx hb (hE.1 22 (by decide)).1 hS hown (htg (.fieldLink RX3 190 "WalkingTown$Token" "NOT" "LWalkingTown$Token;") kw_4_124) (fun _ h9 => h9) dX3_readOne_87 ?_
              refine lv_acmp_ne (rx := some (tA j_11)) (ry := some (tA 22)) (tgt := 113) hx hb dX3_readOne_90 (by decide) (fun c_152 => ?_) (fun c_152 => ?_)
              · skip
                have k_153 : ¬ j_11 = 22 := fun w => c_152 (by rw [w])
                exfalso; omega
              · skip
                have k_154 : j_11 = 22 := hE.2 j_11 22 lj_11 (by decide) (Option.some.inj c_152)
                refine lv_aload_n hx hb dX3_readOne_93 rfl (lv_at hl 2 rfl) ?_
                refine lv_iload_n hx hb dX3_readOne_94 rfl (lv_at hl 3 rfl) ?_
                refine lv_iconst (v := 1) hx hb dX3_readOne_95 (by decide) ?_
                refine lv_iadd hx hb dX3_readOne_96 ?_
                refine lv_topi (fun v_155 ev_155 => ?_)
                have t_156 : v_155.toInt = wi.toInt + 1 ∧ 9 ≤ v_155.toInt ∧ v_155.toInt ≤ 9 := iv_addc ev_155 h_wi (by decide) (by decide) (by decide)
                have z_158 : (fv_146 13).toInt = (fv 13).toInt := congrArg Int32.toInt ((fr_149 13 rfl).trans ((congrFun efv_135 13).trans ((fr_8 13 rfl))))
                have z_159 : 0 ≤ (fv_146 13).toInt ∧ (fv_146 13).toInt ≤ 301 := hF_fv_146 13
                have z_160 : 0 ≤ (fv_146 14).toInt ∧ (fv_146 14).toInt ≤ 300 := hF_fv_146 14
                have z_161 : 0 ≤ (fv_146 14).toInt ∧ (fv_146 14).toInt ≤ 300 := hF_fv_146 14
                have z_162 : (fv_146 17).toInt = v_132.toInt := congrArg Int32.toInt ((fr_149 17 rfl).trans ((congrFun efv_135 17)))
                have z_163 : 0 ≤ (fv_146 17).toInt ∧ (fv_146 17).toInt ≤ 50 := hF_fv_146 17
                refine va_calli (va_runV (As := [.int v_155]) (rest := []) ⟨hx, hb, hml, hown, hts⟩ (x_readOneC_9 l dC dI H.size ob ad cA hd fv_146 wd_147 ar_148 hF_fv_146 hA_ar_148 tA (tO_w hto (wf_151.trans wf_10)) T9 S9 N9 c9 v_155 t_156.2 (rd_cx_eq hcx (congrArg (fun z => z.1) (wf_151.trans wf_10)) ((fA_call (fA_call (fA_rf [] _) fa_9 (by decide)) fa_150 (by decide)) 36 rfl) ((fA_call (fA_call (fA_rf [] _) fa_9 (by decide)) fa_150 (by decide)) 37 rfl)) (by omega) (by omega) h300 hT32 hfin (eC_fr hp_eC (fM_call (fM_put (fM_call (fM_rf [14, 17] _) fr_8 (by decide)) efv_135 (by decide)) fr_149 (by decide)) (fA_call (fA_call (fA_rf [] _) fa_9 (by decide)) fa_150 (by decide)) rfl rfl rfl)) (cwV 1 hts (gV kw_4_144 kw_4_146 kw_p_13 kw_1_11 kw_4_147) rfl rfl rfl (by decide +kernel) ⟨Nat.le_of_ble_eq_true rfl, Nat.le_of_ble_eq_true rfl⟩) ⟨fun a U g mk q => ⟨q.1, ⟨q.2.1.1, q.2.1.2.1, va_K.moved (u := U) (U := U.calling g mk a) (Vm.Alike.refl U.vm) q.2.1.2.2⟩, tk_mv (U := U.calling g mk a) rfl (Vm.Alike.refl U.vm) q.2.2⟩, va_recv hK hP (ci := 4) (q0 := 6) rfl rfl, fun U hU hW => ⟨rfl, ⟨by rw [hU], by rw [hU]; exact hP, va_K.moved hW.alike hK⟩, tk_pass hE hS hU hW.alike⟩⟩ rfl rfl hl.1 rfl (lv_room (Nat.le_of_ble_eq_true rfl)) dX3_readOne_97 ⟨Nat.le_of_ble_eq_true rfl, Nat.le_of_ble_eq_true rfl⟩) hS (fun q _ h9 => aX_up hS q h9) (aX_up hS) (fun r_164 u t H1 locs ht _ hw hB _ hk1 hS => ?_)
                obtain ⟨fv_171, wd_172, ar_173⟩ := u
                obtain ⟨hF_fv_171, hA_ar_173, fr_174, fa_175, wf_176, p_165, p_166, p_167, p_168, p_169, p_170, -⟩ := hw
                have wf_176 : wd_172.2 = wd_147.2 := wf_176
                have hP : va_P (dC, dI) vwCl (wsX ob ad cA fv_171 wd_172 ar_173) H1 := by have h9 := hB.1; rw [ht] at h9; exact h9
                have fr_174 : fM [14, 16, 17, 19, 20] fv_146 fv_171 := fr_174
                have fa_175 : fA [41, 42, 43] ar_148 ar_173 := fa_175
                have p_170 : eC fv_171 ar_173 := p_170
                have p_166 : ∀ r9 : List Bool, r9.length = 9 → rd_x T9 S9 0 ((fv_146 14).toInt.toNat) ((fv_146 17).toInt.toNat) r9 r_164 (fv_171 19) (fv_171 20) (fv_171 14) (fv_171 17) := p_166
                have p_167 : r_164 = 1 → fv_171 19 = fv_146 19 := p_167
                have p_168 : (fv_171 14).toInt ≤ (c9 : Int) := p_168
                have p_169 : r_164 = 1 → (fv_146 17).toInt + 1 ≤ (fv_171 17).toInt := p_169
                generalize H1 = H at hP hS ⊢
                refine lv_istore (lv' := [(4, .int r_164), (3, .int 0), (2, .ref (tA j_11)), (0, .ref (ob 6)), (1, .int wi)]) hx hb dX3_readOne_100 hl (by decide) rfl (fun ls hl => ?_)
                refine lv_aload_n hx hb dX3_readOne_102 rfl (lv_at hl 3 rfl) ?_
                refine lv_iconst (v := 3) hx hb dX3_readOne_103 (by decide) ?_
                refine lv_iconst (v := 0) hx hb dX3_readOne_104 (by decide) ?_
                refine lv_iconst (v := 0) hx hb dX3_readOne_105 (by decide) ?_
                refine va_calli (va_runV (As := [.int 3, .int 0, .int 0]) (rest := []) ⟨hx, hb, hml, hown, hts⟩ (x_addCode l dC dI H.size ob ad cA hd fv_171 wd_172 ar_173 hF_fv_171 hA_ar_173 3 0 0 (iv_w (⟨by decide, by decide⟩ : (0 : Int) ≤ (0 : Int32).toInt ∧ (0 : Int32).toInt ≤ 0) (by decide) (by decide)) p_170) (cwV 3 hts (gV kw_4_150 kw_4_152 kw_p_14 kw_1_11 kw_4_153) rfl rfl rfl (by decide +kernel) ⟨Nat.le_of_ble_eq_true rfl, Nat.le_of_ble_eq_true rfl⟩) ⟨fun a U g mk q => ⟨q.1, q.2.1, q.2.2.1, va_K.moved (u := U) (U := U.calling g mk a) (Vm.Alike.refl U.vm) q.2.2.2⟩, va_recv hK hP (ci := 4) (q0 := 6) rfl rfl, fun U hU hW => ⟨rfl, by rw [hU], by rw [hU]; exact hP, va_K.moved hW.alike hK⟩⟩ rfl rfl hl.1 rfl (lv_room (Nat.le_of_ble_eq_true rfl)) dX3_readOne_106 ⟨Nat.le_of_ble_eq_true rfl, Nat.le_of_ble_eq_true rfl⟩) hS (fun q _ h9 => aX_up hS q h9) (aX_up hS) (fun r_177 u t H1 locs ht _ hw hB _ hk1 hS => ?_)
                obtain ⟨fv_181, wd_182, ar_183⟩ := u
                obtain ⟨hF_fv_181, hA_ar_183, fr_184, fa_185, wf_186, p_178, p_179, p_180, -⟩ := hw
                have wf_186 : wd_182.2 = wd_172.2 := wf_186
                have hP : va_P (dC, dI) vwCl (wsX ob ad cA fv_181 wd_182 ar_183) H1 := by have h9 := hB.1; rw [ht] at h9; exact h9
                have fr_184 : fM [16] fv_171 fv_181 := fr_184
                have fa_185 : fA [41, 42, 43] ar_173 ar_183 := fa_185
                have p_180 : eC fv_181 ar_183 := p_180
                generalize H1 = H at hP hS ⊢
                rcases p_179 with ⟨rfl, p_179⟩
                · skip
                  refine lv_pop hx hb dX3_readOne_109 rfl ?_
                  refine lv_iload hx hb dX3_readOne_110 (lv_at hl 0 rfl) ?_
                  exact W.zret (v := r_164) hx hb hr (iv_nar p_165) (fun t ht hW => ⟨⟨r_164, (fv_181, wd_182, ar_183), rfl, ⟨hF_fv_181, hA_ar_183, (fM_call (fM_call (fM_call (fM_put (fM_call (fM_rf [14, 16, 17, 19, 20] _) fr_8 (by decide)) efv_135 (by decide)) fr_149 (by decide)) fr_174 (by decide)) fr_184 (by decide)), (fA_call (fA_call (fA_call (fA_call (fA_rf [41, 42, 43] _) fa_9 (by decide)) fa_150 (by decide)) fa_175 (by decide)) fa_185 (by decide)), (wf_186.trans (wf_176.trans (wf_151.trans wf_10))), p_165, (show ∀ r9 : List Bool, r9.length = 8 → rd_x T9 S9 0 ((fv 14).toInt.toNat) ((fv 17).toInt.toNat) r9 r_164 (fv_181 19) (fv_181 20) (fv_181 14) (fv_181 17) from fun r9 hr => by have : (fv_5 14).toInt = (fv 14).toInt := congrArg Int32.toInt ((fM_call (fM_rf [] _) fr_8 (by decide)) 14 rfl); have : (fv_135 14).toInt = (fv_5 14).toInt := congrArg Int32.toInt ((fM_put (fM_rf [17] _) efv_135 (by decide)) 14 rfl); have : (fv_181 14).toInt = (fv_171 14).toInt := congrArg Int32.toInt ((fM_call (fM_rf [16] _) fr_184 (by decide)) 14 rfl); have : (fv_5 17).toInt = (fv 17).toInt := congrArg Int32.toInt ((fM_call (fM_rf [] _) fr_8 (by decide)) 17 rfl); have : (fv_135 17).toInt = v_132.toInt := congrArg Int32.toInt (show fv_135 17 = v_132 from congrFun efv_135 17); have : (fv_146 17).toInt = (fv_135 17).toInt := congrArg Int32.toInt ((fM_call (fM_rf [14] _) fr_149 (by decide)) 17 rfl); have : (fv_181 17).toInt = (fv_171 17).toInt := congrArg Int32.toInt ((fM_call (fM_rf [16] _) fr_184 (by decide)) 17 rfl); have h9 := p_166 (true :: r9) (by rw [List.length_cons, hr]); rw [show fv_181 19 = fv_171 19 from ((fM_call (fM_rf [16] _) fr_184 (by decide)) 19 rfl), show fv_181 20 = fv_171 20 from ((fM_call (fM_rf [16] _) fr_184 (by decide)) 20 rfl), show fv_181 14 = fv_171 14 from ((fM_call (fM_rf [16] _) fr_184 (by decide)) 14 rfl), show fv_181 17 = fv_171 17 from ((fM_call (fM_rf [16] _) fr_184 (by decide)) 17 rfl)]; exact rd_x_up (x := true) h9 (by rw [rd_m0_not (by omega) (by rw [← zj_11]; omega) (by omega), show (fv 14).toInt.toNat + 1 = (fv_146 14).toInt.toNat from (by omega), show (fv 17).toInt.toNat + 1 = (fv_146 17).toInt.toNat from (by omega)]) (by omega)), (show r_164 = 1 → fv_181 19 = fv 19 from fun w => (show fv_181 19 = fv_171 19 from ((fM_call (fM_rf [16] _) fr_184 (by decide)) 19 rfl)).trans ((p_167 w).trans ((fM_call (fM_put (fM_call (fM_rf [14, 17] _) fr_8 (by decide)) efv_135 (by decide)) fr_149 (by decide)) 19 rfl))), (show (fv_181 14).toInt ≤ (c9 : Int) from by have : (fv_5 14).toInt = (fv 14).toInt := congrArg Int32.toInt ((fM_call (fM_rf [] _) fr_8 (by decide)) 14 rfl); have : (fv_135 14).toInt = (fv_5 14).toInt := congrArg Int32.toInt ((fM_put (fM_rf [17] _) efv_135 (by decide)) 14 rfl); have : (fv_181 14).toInt = (fv_171 14).toInt := congrArg Int32.toInt ((fM_call (fM_rf [16] _) fr_184 (by decide)) 14 rfl); have hp9 := p_168; omega), (show r_164 = 1 → (fv 17).toInt + 1 ≤ (fv_181 17).toInt from fun w => by have : (fv_5 17).toInt = (fv 17).toInt := congrArg Int32.toInt ((fM_call (fM_rf [] _) fr_8 (by decide)) 17 rfl); have : (fv_135 17).toInt = v_132.toInt := congrArg Int32.toInt (show fv_135 17 = v_132 from congrFun efv_135 17); have : (fv_146 17).toInt = (fv_135 17).toInt := congrArg Int32.toInt ((fM_call (fM_rf [14] _) fr_149 (by decide)) 17 rfl); have : (fv_181 17).toInt = (fv_171 17).toInt := congrArg Int32.toInt ((fM_call (fM_rf [16] _) fr_184 (by decide)) 17 rfl); have hi9 := p_169 (w); omega), p_180, trivial⟩, ⟨by rw [ht]; exact hP, va_K.moved hW.alike hK⟩⟩, hS.F ht⟩) hS.2.2 dX3_readOne_112
            · skip
              exact absurd True.intro (by have h7 := (⟨by decide, by decide⟩ : (10 : Int) ≤ (10 : Int32).toInt ∧ (10 : Int32).toInt ≤ 10); have h8 := h_wi; have h9 := Int32.le_iff_toInt_le.mp (Int32.not_lt.mp c_131); exfalso; omega)
        · skip
          have k_187 : ¬ j_11 = 22 := fun w => c_111 (by rw [w])
          refine lv_aload_n hx hb dX3_readOne_38 rfl (lv_at hl 1 rfl) ?_
          refine va_gets hx hb (hE.1 27 (by decide)).1 hS hown (htg (.fieldLink RX3 209 "WalkingTown$Token" "OPEN" "LWalkingTown$Token;") kw_4_148) (fun _ h9 => h9) dX3_readOne_39 ?_
          refine lv_acmp_eq (rx := some (tA j_11)) (ry := some (tA 27)) (tgt := 51) hx hb dX3_readOne_42 (by decide) (fun c_188 => ?_) (fun c_188 => ?_)
          · skip
            have k_189 : j_11 = 27 := hE.2 j_11 27 lj_11 (by decide) (Option.some.inj c_188)
            refine lv_aload_n hx hb dX3_readOne_51 rfl (lv_at hl 2 rfl) ?_
            refine gX_X3_38 hx hb htg hown hK hP dX3_readOne_52 ?_
            refine my_ti (y := fv 17) ((fr_8 17 rfl)) ?_
            have i_190 : 0 ≤ (fv 17).toInt ∧ (fv 17).toInt ≤ 50 := hF_fv 17
            refine lv_bipush (v := 50) hx hb dX3_readOne_55 (by decide) ?_
            refine lv_icmp_ge (tgt := 66) hx hb dX3_readOne_57 (by decide) (fun c_191 => ?_) (fun c_191 => ?_)
            · skip
              have i_192 : 50 ≤ (fv 17).toInt ∧ (fv 17).toInt ≤ 50 := iv_le2 (⟨by decide, by decide⟩ : (50 : Int) ≤ (50 : Int32).toInt ∧ (50 : Int32).toInt ≤ 50) i_190 c_191
              refine lv_aload_n hx hb dX3_readOne_66 rfl (lv_at hl 2 rfl) ?_
              refine lv_iconst (v := 4) hx hb dX3_readOne_67 (by decide) ?_
              have z_193 : (fv_5 14).toInt = (fv 14).toInt := congrArg Int32.toInt ((fr_8 14 rfl))
              have z_194 : 0 ≤ (fv_5 14).toInt ∧ (fv_5 14).toInt ≤ 300 := hF_fv_5 14
              refine va_calli (va_runV (As := [.int 4]) (rest := []) ⟨hx, hb, hml, hown, hts⟩ (x_failC l dC dI H.size ob ad cA hd fv_5 wd_6 ar_7 hF_fv_5 hA_ar_7 4) (cwV 1 hts (gV kw_4_110 kw_4_112 kw_p_6 kw_1_11 kw_4_113) rfl rfl rfl (by decide +kernel) ⟨Nat.le_of_ble_eq_true rfl, Nat.le_of_ble_eq_true rfl⟩) ⟨fun a U g mk q => ⟨q.1, q.2.1, q.2.2.1, va_K.moved (u := U) (U := U.calling g mk a) (Vm.Alike.refl U.vm) q.2.2.2⟩, va_recv hK hP (ci := 4) (q0 := 6) rfl rfl, fun U hU hW => ⟨rfl, by rw [hU], by rw [hU]; exact hP, va_K.moved hW.alike hK⟩⟩ rfl rfl hl.1 rfl (lv_room (Nat.le_of_ble_eq_true rfl)) dX3_readOne_68 ⟨Nat.le_of_ble_eq_true rfl, Nat.le_of_ble_eq_true rfl⟩) hS (fun q _ h9 => aX_up hS q h9) (aX_up hS) (fun r_195 u t H1 locs ht _ hw hB _ hk1 hS => ?_)
              obtain ⟨fv_200, wd_201, ar_202⟩ := u
              obtain ⟨hF_fv_200, hA_ar_202, fr_203, fa_204, wf_205, p_196, p_197, p_198, p_199, -⟩ := hw
              have wf_205 : wd_201.2 = wd_6.2 := wf_205
              have hP : va_P (dC, dI) vwCl (wsX ob ad cA fv_200 wd_201 ar_202) H1 := by have h9 := hB.1; rw [ht] at h9; exact h9
              have fr_203 : fM [19, 20] fv_5 fv_200 := fr_203
              have fa_204 : fA [] ar_7 ar_202 := fa_204
              have p_198 : fv_200 19 = (4 : Int32) := p_198
              have p_199 : fv_200 20 = ar_7 36 ((fv_5 14).toInt.toNat) := p_199
              generalize H1 = H at hP hS ⊢
              rcases p_197 with ⟨rfl, p_197⟩
              · skip
                have z_206 : (0 : Int32).toInt = 0 := by decide
                exact W.zret (v := 0) hx hb hr (by decide) (fun t ht hW => ⟨⟨0, (fv_200, wd_201, ar_202), rfl, ⟨hF_fv_200, hA_ar_202, (fM_call (fM_call (fM_rf [14, 16, 17, 19, 20] _) fr_8 (by decide)) fr_203 (by decide)), (fA_call (fA_call (fA_rf [41, 42, 43] _) fa_9 (by decide)) fa_204 (by decide)), (wf_205.trans wf_10), (iv_w (⟨by decide, by decide⟩ : (0 : Int) ≤ (0 : Int32).toInt ∧ (0 : Int32).toInt ≤ 0) (by decide) (by decide)), (show ∀ r9 : List Bool, r9.length = 8 → rd_x T9 S9 0 ((fv 14).toInt.toNat) ((fv 17).toInt.toNat) r9 (0 : Int32) (fv_200 19) (fv_200 20) (fv_200 14) (fv_200 17) from fun r9 hr => by have : (fv_5 14).toInt = (fv 14).toInt := congrArg Int32.toInt ((fM_call (fM_rf [] _) fr_8 (by decide)) 14 rfl); have : (fv_200 14).toInt = (fv_5 14).toInt := congrArg Int32.toInt ((fM_call (fM_rf [19, 20] _) fr_203 (by decide)) 14 rfl); have : (fv_5 17).toInt = (fv 17).toInt := congrArg Int32.toInt ((fM_call (fM_rf [] _) fr_8 (by decide)) 17 rfl); have : (fv_200 17).toInt = (fv_5 17).toInt := congrArg Int32.toInt ((fM_call (fM_rf [19, 20] _) fr_203 (by decide)) 17 rfl); exact rd_xF (q := (fv_5 14).toInt.toNat) (show (fv_200 19).toInt = ((4 : Nat) : Int) from by rw [show fv_200 19 = fv_200 19 from rfl, p_198]; decide) (by decide) (by rw [rd_m0_many (by omega) (by rw [← zj_11]; omega) (by omega)]; rw [show (fv 14).toInt.toNat = (fv_5 14).toInt.toNat from (by omega)]) (show (fv_200 20).toInt = (S9 ((fv_5 14).toInt.toNat) : Nat) from by rw [show fv_200 20 = fv_200 20 from rfl, p_199, show ar_7 36 = ar 36 from ((fA_call (fA_rf [] _) fa_9 (by decide)) 36 rfl)]; exact (hcx ((fv_5 14).toInt.toNat) (by omega)).2.1)), (show (0 : Int32) = 1 → fv_200 19 = fv 19 from fun w => absurd w (by decide)), (show (fv_200 14).toInt ≤ (c9 : Int) from by have : (fv_5 14).toInt = (fv 14).toInt := congrArg Int32.toInt ((fM_call (fM_rf [] _) fr_8 (by decide)) 14 rfl); have : (fv_200 14).toInt = (fv_5 14).toInt := congrArg Int32.toInt ((fM_call (fM_rf [19, 20] _) fr_203 (by decide)) 14 rfl); omega), (show (0 : Int32) = 1 → (fv 17).toInt + 1 ≤ (fv_200 17).toInt from fun w => absurd w (by decide)), (eC_fr hp_eC (fM_call (fM_call (fM_rf [19, 20] _) fr_8 (by decide)) fr_203 (by decide)) (fA_call (fA_call (fA_rf [] _) fa_9 (by decide)) fa_204 (by decide)) rfl rfl rfl), trivial⟩, ⟨by rw [ht]; exact hP, va_K.moved hW.alike hK⟩⟩, hS.F ht⟩) hS.2.2 dX3_readOne_71
            · skip
              have i_207 : 0 ≤ (fv 17).toInt ∧ (fv 17).toInt ≤ 49 := iv_lt1 i_190 (⟨by decide, by decide⟩ : (50 : Int) ≤ (50 : Int32).toInt ∧ (50 : Int32).toInt ≤ 50) (Int32.not_le.mp c_191)
              refine lv_iload_n hx hb dX3_readOne_60 rfl (lv_at hl 3 rfl) ?_
              refine lv_bipush (v := 10) hx hb dX3_readOne_61 (by decide) ?_
              refine lv_icmp_lt (tgt := 72) hx hb dX3_readOne_63 (by decide) (fun c_208 => ?_) (fun c_208 => ?_)
              · skip
                refine lv_aload_n hx hb dX3_readOne_72 rfl (lv_at hl 2 rfl) ?_
                refine lv_dup hx hb dX3_readOne_73 rfl ?_
                refine gX_X3_38 hx hb htg hown hK hP dX3_readOne_74 ?_
                refine my_ti (y := fv 17) ((fr_8 17 rfl)) ?_
                refine lv_iconst (v := 1) hx hb dX3_readOne_77 (by decide) ?_
                refine lv_iadd hx hb dX3_readOne_78 ?_
                refine lv_topi (fun v_209 ev_209 => ?_)
                have t_210 : v_209.toInt = (fv 17).toInt + 1 ∧ 1 ≤ v_209.toInt ∧ v_209.toInt ≤ 50 := iv_addc ev_209 i_207 (by decide) (by decide) (by decide)
                refine pX_X3_38 hx hb htg hown hK hP hS hd dX3_readOne_79 (fun H locs fv_212 efv_212 hP hS => ?_)
                have hF_fv_212 : rX fv_212 := rX_put hF_fv_5 efv_212 (iv_w t_210.2 (by decide) (by decide))
                refine lv_aload_n hx hb dX3_readOne_82 rfl (lv_at hl 2 rfl) ?_
                have z_213 : (fv_212 13).toInt = (fv 13).toInt := congrArg Int32.toInt ((congrFun efv_212 13).trans ((fr_8 13 rfl)))
                have z_214 : 0 ≤ (fv_212 13).toInt ∧ (fv_212 13).toInt ≤ 301 := hF_fv_212 13
                have z_215 : (fv_212 14).toInt = (fv 14).toInt := congrArg Int32.toInt ((congrFun efv_212 14).trans ((fr_8 14 rfl)))
                have z_216 : 0 ≤ (fv_212 14).toInt ∧ (fv_212 14).toInt ≤ 300 := hF_fv_212 14
                have z_217 : (fv_212 13).toInt = (fv 13).toInt := congrArg Int32.toInt ((congrFun efv_212 13).trans ((fr_8 13 rfl)))
                have z_218 : 0 ≤ (fv_212 13).toInt ∧ (fv_212 13).toInt ≤ 301 := hF_fv_212 13
                have z_219 : (fv_212 14).toInt = (fv 14).toInt := congrArg Int32.toInt ((congrFun efv_212 14).trans ((fr_8 14 rfl)))
                have z_220 : 0 ≤ (fv_212 14).toInt ∧ (fv_212 14).toInt ≤ 300 := hF_fv_212 14
                refine va_callv (va_runV (As := []) (rest := []) ⟨hx, hb, hml, hown, hts⟩ (x_stepC l dC dI H.size ob ad cA hd fv_212 wd_6 ar_7 hF_fv_212 hA_ar_7 (by have h9 := rd_lt hfin (p := (fv 14).toInt.toNat) (by omega) (by rw [← zj_11]; omega); omega)) (cwV 0 hts (gV kw_4_116 kw_4_118 kw_p_7 kw_1_11 kw_4_119) rfl rfl rfl (by decide +kernel) ⟨Nat.le_of_ble_eq_true rfl, Nat.le_of_ble_eq_true rfl⟩) ⟨fun a U g mk q => ⟨q.1, q.2.1, q.2.2.1, va_K.moved (u := U) (U := U.calling g mk a) (Vm.Alike.refl U.vm) q.2.2.2⟩, va_recv hK hP (ci := 4) (q0 := 6) rfl rfl, fun U hU hW => ⟨rfl, by rw [hU], by rw [hU]; exact hP, va_K.moved hW.alike hK⟩⟩ rfl rfl hl.1 rfl (lv_room (Nat.le_of_ble_eq_true rfl)) dX3_readOne_83 ⟨Nat.le_of_ble_eq_true rfl, Nat.le_of_ble_eq_true rfl⟩) hS (fun q _ h9 => aX_up hS q h9) (aX_up hS) (fun u t H1 locs ht _ hw hB _ hk1 hS => ?_)
                obtain ⟨fv_223, wd_224, ar_225⟩ := u
                obtain ⟨hF_fv_223, hA_ar_225, fr_226, fa_227, wf_228, p_222, -⟩ := hw
                have wf_228 : wd_224.2 = wd_6.2 := wf_228
                have hP : va_P (dC, dI) vwCl (wsX ob ad cA fv_223 wd_224 ar_225) H1 := by have h9 := hB.1; rw [ht] at h9; exact h9
                have fr_226 : fM [14] fv_212 fv_223 := fr_226
                have fa_227 : fA [] ar_7 ar_225 := fa_227
                have p_222 : (fv_223 14).toInt = (fv_212 14).toInt + 1 ∧ (fv_223 14).toInt ≤ (fv_212 13).toInt - 1 := p_222
                generalize H1 = H at hP hS ⊢
                refine lv_aload_n hx hb dX3_readOne_86 rfl (lv_at hl 1 rfl) ?_
                refine va_gets hx hb (hE.1 22 (by decide)).1 hS hown (htg (.fieldLink RX3 190 "WalkingTown$Token" "NOT" "LWalkingTown$Token;") kw_4_124) (fun _ h9 => h9) dX3_readOne_87 ?_
                refine lv_acmp_ne (rx := some (tA j_11)) (ry := some (tA 22)) (tgt := 113) hx hb dX3_readOne_90 (by decide) (fun c_229 => ?_) (fun c_229 => ?_)
                · skip
                  have k_230 : ¬ j_11 = 22 := fun w => c_229 (by rw [w])
                  refine lv_aload_n hx hb dX3_readOne_113 rfl (lv_at hl 1 rfl) ?_
                  refine va_gets hx hb (hE.1 27 (by decide)).1 hS hown (htg (.fieldLink RX3 209 "WalkingTown$Token" "OPEN" "LWalkingTown$Token;") kw_4_148) (fun _ h9 => h9) dX3_readOne_114 ?_
                  refine lv_acmp_ne (rx := some (tA j_11)) (ry := some (tA 27)) (tgt := 146) hx hb dX3_readOne_117 (by decide) (fun c_231 => ?_) (fun c_231 => ?_)
                  · skip
                    have k_232 : ¬ j_11 = 27 := fun w => c_231 (by rw [w])
                    exfalso; omega
                  · skip
                    have k_233 : j_11 = 27 := hE.2 j_11 27 lj_11 (by decide) (Option.some.inj c_231)
                    refine lv_aload_n hx hb dX3_readOne_120 rfl (lv_at hl 2 rfl) ?_
                    refine lv_iload_n hx hb dX3_readOne_121 rfl (lv_at hl 3 rfl) ?_
                    refine lv_iconst (v := 1) hx hb dX3_readOne_122 (by decide) ?_
                    refine lv_iadd hx hb dX3_readOne_123 ?_
                    refine lv_topi (fun v_234 ev_234 => ?_)
                    have t_235 : v_234.toInt = wi.toInt + 1 ∧ 9 ≤ v_234.toInt ∧ v_234.toInt ≤ 9 := iv_addc ev_234 h_wi (by decide) (by decide) (by decide)
                    have z_237 : (fv_223 13).toInt = (fv 13).toInt := congrArg Int32.toInt ((fr_226 13 rfl).trans ((congrFun efv_212 13).trans ((fr_8 13 rfl))))
                    have z_238 : 0 ≤ (fv_223 13).toInt ∧ (fv_223 13).toInt ≤ 301 := hF_fv_223 13
                    have z_239 : 0 ≤ (fv_223 14).toInt ∧ (fv_223 14).toInt ≤ 300 := hF_fv_223 14
                    have z_240 : 0 ≤ (fv_223 14).toInt ∧ (fv_223 14).toInt ≤ 300 := hF_fv_223 14
                    have z_241 : (fv_223 17).toInt = v_209.toInt := congrArg Int32.toInt ((fr_226 17 rfl).trans ((congrFun efv_212 17)))
                    have z_242 : 0 ≤ (fv_223 17).toInt ∧ (fv_223 17).toInt ≤ 50 := hF_fv_223 17
                    refine va_calli (va_runV (As := [.int v_234]) (rest := []) ⟨hx, hb, hml, hown, hts⟩ (x_readCondC_9 l dC dI H.size ob ad cA hd fv_223 wd_224 ar_225 hF_fv_223 hA_ar_225 tA (tO_w hto (wf_228.trans wf_10)) T9 S9 N9 c9 v_234 t_235.2 (rd_cx_eq hcx (congrArg (fun z => z.1) (wf_228.trans wf_10)) ((fA_call (fA_call (fA_rf [] _) fa_9 (by decide)) fa_227 (by decide)) 36 rfl) ((fA_call (fA_call (fA_rf [] _) fa_9 (by decide)) fa_227 (by decide)) 37 rfl)) (by omega) (by omega) h300 hT32 hfin (eC_fr hp_eC (fM_call (fM_put (fM_call (fM_rf [14, 17] _) fr_8 (by decide)) efv_212 (by decide)) fr_226 (by decide)) (fA_call (fA_call (fA_rf [] _) fa_9 (by decide)) fa_227 (by decide)) rfl rfl rfl)) (cwV 1 hts (gV kw_4_136 kw_4_138 kw_p_11 kw_1_11 kw_4_139) rfl rfl rfl (by decide +kernel) ⟨Nat.le_of_ble_eq_true rfl, Nat.le_of_ble_eq_true rfl⟩) ⟨fun a U g mk q => ⟨q.1, ⟨q.2.1.1, q.2.1.2.1, va_K.moved (u := U) (U := U.calling g mk a) (Vm.Alike.refl U.vm) q.2.1.2.2⟩, tk_mv (U := U.calling g mk a) rfl (Vm.Alike.refl U.vm) q.2.2⟩, va_recv hK hP (ci := 4) (q0 := 6) rfl rfl, fun U hU hW => ⟨rfl, ⟨by rw [hU], by rw [hU]; exact hP, va_K.moved hW.alike hK⟩, tk_pass hE hS hU hW.alike⟩⟩ rfl rfl hl.1 rfl (lv_room (Nat.le_of_ble_eq_true rfl)) dX3_readOne_124 ⟨Nat.le_of_ble_eq_true rfl, Nat.le_of_ble_eq_true rfl⟩) hS (fun q _ h9 => aX_up hS q h9) (aX_up hS) (fun r_243 u t H1 locs ht _ hw hB _ hk1 hS => ?_)
                    obtain ⟨fv_251, wd_252, ar_253⟩ := u
                    obtain ⟨hF_fv_251, hA_ar_253, fr_254, fa_255, wf_256, p_244, p_245, p_246, p_247, p_248, p_249, p_250, -⟩ := hw
                    have wf_256 : wd_252.2 = wd_224.2 := wf_256
                    have hP : va_P (dC, dI) vwCl (wsX ob ad cA fv_251 wd_252 ar_253) H1 := by have h9 := hB.1; rw [ht] at h9; exact h9
                    have fr_254 : fM [14, 16, 17, 19, 20] fv_223 fv_251 := fr_254
                    have fa_255 : fA [41, 42, 43] ar_225 ar_253 := fa_255
                    have p_250 : eC fv_251 ar_253 := p_250
                    have p_245 : ∀ r9 : List Bool, r9.length = 9 → rd_dn r9 = r9 → rd_x T9 S9 0 ((fv_223 14).toInt.toNat) ((fv_223 17).toInt.toNat) r9 r_243 (fv_251 19) (fv_251 20) (fv_251 14) (fv_251 17) := p_245
                    have p_246 : r_243 = 1 → fv_251 19 = fv_223 19 := p_246
                    have p_247 : (fv_251 14).toInt ≤ (c9 : Int) := p_247
                    have p_248 : r_243 = 1 → (fv_223 17).toInt + 1 ≤ (fv_251 17).toInt := p_248
                    have p_249 : r_243 = 1 → ¬ (T9 ((fv_251 14).toInt.toNat) = 24 ∨ T9 ((fv_251 14).toInt.toNat) = 25) := p_249
                    generalize H1 = H at hP hS ⊢
                    refine lv_if_eq (tgt := 144) hx hb dX3_readOne_127 (by decide) (fun c_257 => ?_) (fun c_257 => ?_)
                    · skip
                      have i_258 : 0 ≤ r_243.toInt ∧ r_243.toInt ≤ 0 := iv_eq1 (⟨by decide, by decide⟩ : (0 : Int) ≤ (0 : Int32).toInt ∧ (0 : Int32).toInt ≤ 0) c_257
                      refine lv_iconst (v := 0) hx hb dX3_readOne_144 (by decide) ?_
                      have z_260 : (0 : Int32).toInt = 0 := by decide
                      exact W.zret (v := 0) hx hb hr (by decide) (fun t ht hW => ⟨⟨0, (fv_251, wd_252, ar_253), rfl, ⟨hF_fv_251, hA_ar_253, (fM_call (fM_call (fM_put (fM_call (fM_rf [14, 16, 17, 19, 20] _) fr_8 (by decide)) efv_212 (by decide)) fr_226 (by decide)) fr_254 (by decide)), (fA_call (fA_call (fA_call (fA_rf [41, 42, 43] _) fa_9 (by decide)) fa_227 (by decide)) fa_255 (by decide)), (wf_256.trans (wf_228.trans wf_10)), (iv_w (⟨by decide, by decide⟩ : (0 : Int) ≤ (0 : Int32).toInt ∧ (0 : Int32).toInt ≤ 0) (by decide) (by decide)), (show ∀ r9 : List Bool, r9.length = 8 → rd_x T9 S9 0 ((fv 14).toInt.toNat) ((fv 17).toInt.toNat) r9 (0 : Int32) (fv_251 19) (fv_251 20) (fv_251 14) (fv_251 17) from fun r9 hr => by have : (fv_5 14).toInt = (fv 14).toInt := congrArg Int32.toInt ((fM_call (fM_rf [] _) fr_8 (by decide)) 14 rfl); have : (fv_212 14).toInt = (fv_5 14).toInt := congrArg Int32.toInt ((fM_put (fM_rf [17] _) efv_212 (by decide)) 14 rfl); have : (fv_5 17).toInt = (fv 17).toInt := congrArg Int32.toInt ((fM_call (fM_rf [] _) fr_8 (by decide)) 17 rfl); have : (fv_212 17).toInt = v_209.toInt := congrArg Int32.toInt (show fv_212 17 = v_209 from congrFun efv_212 17); have : (fv_223 17).toInt = (fv_212 17).toInt := congrArg Int32.toInt ((fM_call (fM_rf [14] _) fr_226 (by decide)) 17 rfl); have h9 := p_245 (false :: r9) (by rw [List.length_cons, hr]) rfl; have he := (by rw [rd_m0_par (by omega) (by rw [← zj_11]; omega) (by omega), show (fv 14).toInt.toNat + 1 = (fv_223 14).toInt.toNat from (by omega), show (fv 17).toInt.toNat + 1 = (fv_223 17).toInt.toNat from (by omega)] : rd_m T9 0 ((fv 14).toInt.toNat) ((fv 17).toInt.toNat) r9 = rd_m T9 0 ((fv_223 14).toInt.toNat) ((fv_223 17).toInt.toNat) (false :: r9)); rcases h9 with ⟨a, b, q, o2, c, d⟩ | ⟨a, b⟩; exact Or.inl ⟨rfl, b, q, o2, he.trans c, d⟩; exact absurd (congrArg Int32.toInt a) (by rw [show (1 : Int32).toInt = 1 from (by decide)]; omega)), (show (0 : Int32) = 1 → fv_251 19 = fv 19 from fun w => absurd w (by decide)), (show (fv_251 14).toInt ≤ (c9 : Int) from by have : (fv_5 14).toInt = (fv 14).toInt := congrArg Int32.toInt ((fM_call (fM_rf [] _) fr_8 (by decide)) 14 rfl); have : (fv_212 14).toInt = (fv_5 14).toInt := congrArg Int32.toInt ((fM_put (fM_rf [17] _) efv_212 (by decide)) 14 rfl); have hp9 := p_247; omega), (show (0 : Int32) = 1 → (fv 17).toInt + 1 ≤ (fv_251 17).toInt from fun w => absurd w (by decide)), p_250, trivial⟩, ⟨by rw [ht]; exact hP, va_K.moved hW.alike hK⟩⟩, hS.F ht⟩) hS.2.2 dX3_readOne_145
                    · skip
                      have i_261 : 1 ≤ r_243.toInt ∧ r_243.toInt ≤ 1 := iv_nel p_244 (by decide) c_257
                      have k_262 : ¬ r_243.toInt = 0 := fun q => c_257 (Int32.toInt_inj.mp q)
                      refine lv_aload_n hx hb dX3_readOne_130 rfl (lv_at hl 2 rfl) ?_
                      refine va_gets hx hb (hE.1 28 (by decide)).1 hS hown (htg (.fieldLink RX3 212 "WalkingTown$Token" "CLOSE" "LWalkingTown$Token;") kw_4_154) (fun _ h9 => h9) dX3_readOne_131 ?_
                      have z_263 : (fv_251 13).toInt = (fv 13).toInt := congrArg Int32.toInt ((fr_254 13 rfl).trans ((fr_226 13 rfl).trans ((congrFun efv_212 13).trans ((fr_8 13 rfl)))))
                      have z_264 : 0 ≤ (fv_251 13).toInt ∧ (fv_251 13).toInt ≤ 301 := hF_fv_251 13
                      have z_265 : 0 ≤ (fv_251 14).toInt ∧ (fv_251 14).toInt ≤ 300 := hF_fv_251 14
                      have z_266 : 0 ≤ (fv_251 14).toInt ∧ (fv_251 14).toInt ≤ 300 := hF_fv_251 14
                      refine va_calli (va_runV (As := [.ref (tA 28)]) (rest := []) ⟨hx, hb, hml, hown, hts⟩ (x_takeC l dC dI H.size ob ad cA hd fv_251 wd_252 ar_253 hF_fv_251 hA_ar_253 tA (tO_w hto (wf_256.trans (wf_228.trans wf_10))) (28) (by decide) T9 S9 N9 c9 (rd_cx_eq hcx (congrArg (fun z => z.1) (wf_256.trans (wf_228.trans wf_10))) ((fA_call (fA_call (fA_call (fA_rf [41, 42, 43] _) fa_9 (by decide)) fa_227 (by decide)) fa_255 (by decide)) 36 rfl) ((fA_call (fA_call (fA_call (fA_rf [41, 42, 43] _) fa_9 (by decide)) fa_227 (by decide)) fa_255 (by decide)) 37 rfl)) (by omega) (by omega) h300 hT32 hfin (by omega)) (cwV 1 hts (gV kw_4_130 kw_4_132 kw_p_10 kw_1_11 kw_4_133) rfl rfl rfl (by decide +kernel) ⟨Nat.le_of_ble_eq_true rfl, Nat.le_of_ble_eq_true rfl⟩) ⟨fun a U g mk q => ⟨q.1, ⟨q.2.1.1, q.2.1.2.1, va_K.moved (u := U) (U := U.calling g mk a) (Vm.Alike.refl U.vm) q.2.1.2.2⟩, tk_mv (U := U.calling g mk a) rfl (Vm.Alike.refl U.vm) q.2.2⟩, va_recv hK hP (ci := 4) (q0 := 6) rfl rfl, fun U hU hW => ⟨rfl, ⟨by rw [hU], by rw [hU]; exact hP, va_K.moved hW.alike hK⟩, tk_pass hE hS hU hW.alike⟩⟩ rfl rfl hl.1 rfl (lv_room (Nat.le_of_ble_eq_true rfl)) dX3_readOne_134 ⟨Nat.le_of_ble_eq_true rfl, Nat.le_of_ble_eq_true rfl⟩) hS (fun q _ h9 => aX_up hS q h9) (aX_up hS) (fun r_267 u t H1 locs ht _ hw hB _ hk1 hS => ?_)
                      obtain ⟨fv_270, wd_271, ar_272⟩ := u
                      obtain ⟨hF_fv_270, hA_ar_272, fr_273, fa_274, wf_275, p_268, p_269, -⟩ := hw
                      have wf_275 : wd_271.2 = wd_252.2 := wf_275
                      have hP : va_P (dC, dI) vwCl (wsX ob ad cA fv_270 wd_271 ar_272) H1 := by have h9 := hB.1; rw [ht] at h9; exact h9
                      have fr_273 : fM [14, 19, 20] fv_251 fv_270 := fr_273
                      have fa_274 : fA [] ar_253 ar_272 := fa_274
                      have p_269 : (r_267 = 0 ∧ ¬ T9 ((fv_251 14).toInt.toNat) = 28 ∧ fv_270 19 = 1 ∧ (fv_270 20).toInt = (S9 ((fv_251 14).toInt.toNat) : Nat) ∧ (fv_270 14).toInt = (fv_251 14).toInt) ∨ (r_267 = 1 ∧ T9 ((fv_251 14).toInt.toNat) = 28 ∧ ((fv_270 14).toInt = (fv_251 14).toInt + 1 ∧ (fv_270 14).toInt ≤ (c9 : Int)) ∧ fv_270 19 = fv_251 19) := p_269
                      generalize H1 = H at hP hS ⊢
                      refine lv_if_eq (tgt := 144) hx hb dX3_readOne_137 (by decide) (fun c_276 => ?_) (fun c_276 => ?_)
                      · skip
                        have i_277 : 0 ≤ r_267.toInt ∧ r_267.toInt ≤ 0 := iv_eq1 (⟨by decide, by decide⟩ : (0 : Int) ≤ (0 : Int32).toInt ∧ (0 : Int32).toInt ≤ 0) c_276
                        refine lv_iconst (v := 0) hx hb dX3_readOne_144 (by decide) ?_
                        have z_279 : (0 : Int32).toInt = 0 := by decide
                        exact W.zret (v := 0) hx hb hr (by decide) (fun t ht hW => ⟨⟨0, (fv_270, wd_271, ar_272), rfl, ⟨hF_fv_270, hA_ar_272, (fM_call (fM_call (fM_call (fM_put (fM_call (fM_rf [14, 16, 17, 19, 20] _) fr_8 (by decide)) efv_212 (by decide)) fr_226 (by decide)) fr_254 (by decide)) fr_273 (by decide)), (fA_call (fA_call (fA_call (fA_call (fA_rf [41, 42, 43] _) fa_9 (by decide)) fa_227 (by decide)) fa_255 (by decide)) fa_274 (by decide)), (wf_275.trans (wf_256.trans (wf_228.trans wf_10))), (iv_w (⟨by decide, by decide⟩ : (0 : Int) ≤ (0 : Int32).toInt ∧ (0 : Int32).toInt ≤ 0) (by decide) (by decide)), (show ∀ r9 : List Bool, r9.length = 8 → rd_x T9 S9 0 ((fv 14).toInt.toNat) ((fv 17).toInt.toNat) r9 (0 : Int32) (fv_270 19) (fv_270 20) (fv_270 14) (fv_270 17) from fun r9 hr => by have : (fv_5 14).toInt = (fv 14).toInt := congrArg Int32.toInt ((fM_call (fM_rf [] _) fr_8 (by decide)) 14 rfl); have : (fv_212 14).toInt = (fv_5 14).toInt := congrArg Int32.toInt ((fM_put (fM_rf [17] _) efv_212 (by decide)) 14 rfl); have : (fv_5 17).toInt = (fv 17).toInt := congrArg Int32.toInt ((fM_call (fM_rf [] _) fr_8 (by decide)) 17 rfl); have : (fv_212 17).toInt = v_209.toInt := congrArg Int32.toInt (show fv_212 17 = v_209 from congrFun efv_212 17); have : (fv_223 17).toInt = (fv_212 17).toInt := congrArg Int32.toInt ((fM_call (fM_rf [14] _) fr_226 (by decide)) 17 rfl); have : (fv_270 17).toInt = (fv_251 17).toInt := congrArg Int32.toInt ((fM_call (fM_rf [14, 19, 20] _) fr_273 (by decide)) 17 rfl); have h9 := p_245 (false :: r9) (by rw [List.length_cons, hr]) rfl; have he := (by rw [rd_m0_par (by omega) (by rw [← zj_11]; omega) (by omega), show (fv 14).toInt.toNat + 1 = (fv_223 14).toInt.toNat from (by omega), show (fv 17).toInt.toNat + 1 = (fv_223 17).toInt.toNat from (by omega)] : rd_m T9 0 ((fv 14).toInt.toNat) ((fv 17).toInt.toNat) r9 = rd_m T9 0 ((fv_223 14).toInt.toNat) ((fv_223 17).toInt.toNat) (false :: r9)); rcases h9 with ⟨a, b, q, o2, c, d⟩ | ⟨a, b⟩; exact absurd (congrArg Int32.toInt a) (by rw [show (0 : Int32).toInt = 0 from (by decide)]; omega); have hn := p_249 a; rcases p_269 with ⟨a1, b1, c1, d1, e1⟩ | ⟨a1, b1, c1, d1⟩; exact rd_xF (q := (fv_251 14).toInt.toNat) (k := 1) (show (fv_270 19).toInt = ((1 : Nat) : Int) from by rw [show fv_270 19 = fv_270 19 from rfl, c1]; decide) (by decide) (by rw [he, b, rd_m1_bad (by omega) (by omega) (by omega)]) (show (fv_270 20).toInt = _ from by rw [show fv_270 20 = fv_270 20 from rfl, d1]); exact absurd (congrArg Int32.toInt a1) (by rw [show (1 : Int32).toInt = 1 from (by decide)]; omega)), (show (0 : Int32) = 1 → fv_270 19 = fv 19 from fun w => absurd w (by decide)), (show (fv_270 14).toInt ≤ (c9 : Int) from by have : (fv_5 14).toInt = (fv 14).toInt := congrArg Int32.toInt ((fM_call (fM_rf [] _) fr_8 (by decide)) 14 rfl); have : (fv_212 14).toInt = (fv_5 14).toInt := congrArg Int32.toInt ((fM_put (fM_rf [17] _) efv_212 (by decide)) 14 rfl); have hp9 := p_247; have hq9 := p_269; omega), (show (0 : Int32) = 1 → (fv 17).toInt + 1 ≤ (fv_270 17).toInt from fun w => absurd w (by decide)), (eC_fr p_250 (fM_call (fM_rf [14, 19, 20] _) fr_273 (by decide)) (fA_call (fA_rf [] _) fa_274 (by decide)) rfl rfl rfl), trivial⟩, ⟨by rw [ht]; exact hP, va_K.moved hW.alike hK⟩⟩, hS.F ht⟩) hS.2.2 dX3_readOne_145
                      · skip
                        have i_280 : 1 ≤ r_267.toInt ∧ r_267.toInt ≤ 1 := iv_nel p_268 (by decide) c_276
                        have k_281 : ¬ r_267.toInt = 0 := fun q => c_276 (Int32.toInt_inj.mp q)
                        refine lv_iconst (v := 1) hx hb dX3_readOne_140 (by decide) ?_
                        refine lv_goto (tgt := 145) hx hb dX3_readOne_141 (by decide) ?_
                        have z_282 : (1 : Int32).toInt = 1 := by decide
                        exact W.zret (v := 1) hx hb hr (by decide) (fun t ht hW => ⟨⟨1, (fv_270, wd_271, ar_272), rfl, ⟨hF_fv_270, hA_ar_272, (fM_call (fM_call (fM_call (fM_put (fM_call (fM_rf [14, 16, 17, 19, 20] _) fr_8 (by decide)) efv_212 (by decide)) fr_226 (by decide)) fr_254 (by decide)) fr_273 (by decide)), (fA_call (fA_call (fA_call (fA_call (fA_rf [41, 42, 43] _) fa_9 (by decide)) fa_227 (by decide)) fa_255 (by decide)) fa_274 (by decide)), (wf_275.trans (wf_256.trans (wf_228.trans wf_10))), (iv_w (⟨by decide, by decide⟩ : (1 : Int) ≤ (1 : Int32).toInt ∧ (1 : Int32).toInt ≤ 1) (by decide) (by decide)), (show ∀ r9 : List Bool, r9.length = 8 → rd_x T9 S9 0 ((fv 14).toInt.toNat) ((fv 17).toInt.toNat) r9 (1 : Int32) (fv_270 19) (fv_270 20) (fv_270 14) (fv_270 17) from fun r9 hr => by have : (fv_5 14).toInt = (fv 14).toInt := congrArg Int32.toInt ((fM_call (fM_rf [] _) fr_8 (by decide)) 14 rfl); have : (fv_212 14).toInt = (fv_5 14).toInt := congrArg Int32.toInt ((fM_put (fM_rf [17] _) efv_212 (by decide)) 14 rfl); have : (fv_5 17).toInt = (fv 17).toInt := congrArg Int32.toInt ((fM_call (fM_rf [] _) fr_8 (by decide)) 17 rfl); have : (fv_212 17).toInt = v_209.toInt := congrArg Int32.toInt (show fv_212 17 = v_209 from congrFun efv_212 17); have : (fv_223 17).toInt = (fv_212 17).toInt := congrArg Int32.toInt ((fM_call (fM_rf [14] _) fr_226 (by decide)) 17 rfl); have : (fv_270 17).toInt = (fv_251 17).toInt := congrArg Int32.toInt ((fM_call (fM_rf [14, 19, 20] _) fr_273 (by decide)) 17 rfl); have h9 := p_245 (false :: r9) (by rw [List.length_cons, hr]) rfl; have he := (by rw [rd_m0_par (by omega) (by rw [← zj_11]; omega) (by omega), show (fv 14).toInt.toNat + 1 = (fv_223 14).toInt.toNat from (by omega), show (fv 17).toInt.toNat + 1 = (fv_223 17).toInt.toNat from (by omega)] : rd_m T9 0 ((fv 14).toInt.toNat) ((fv 17).toInt.toNat) r9 = rd_m T9 0 ((fv_223 14).toInt.toNat) ((fv_223 17).toInt.toNat) (false :: r9)); rcases h9 with ⟨a, b, q, o2, c, d⟩ | ⟨a, b⟩; exact absurd (congrArg Int32.toInt a) (by rw [show (0 : Int32).toInt = 0 from (by decide)]; omega); have hn := p_249 a; rcases p_269 with ⟨a1, b1, c1, d1, e1⟩ | ⟨a1, b1, c1, d1⟩; exact absurd (congrArg Int32.toInt a1) (by rw [show (0 : Int32).toInt = 0 from (by decide)]; omega); exact rd_xO (by rw [he, b, rd_m1_close (by omega) (by exact b1), show (fv_251 14).toInt.toNat + 1 = (fv_270 14).toInt.toNat from (by omega), show (fv_251 17).toInt.toNat = (fv_270 17).toInt.toNat from (by omega)])), (show (1 : Int32) = 1 → fv_270 19 = fv 19 from fun _ => by rcases p_269 with ⟨a1, b1, c1, d1, e1⟩ | ⟨a1, b1, c1, d1⟩; exact absurd (congrArg Int32.toInt a1) (by rw [show (0 : Int32).toInt = 0 from (by decide)]; omega); exact (show fv_270 19 = fv_270 19 from rfl).trans (d1.trans ((show fv_251 19 = fv_251 19 from rfl).trans ((p_246 (Int32.toInt_inj.mp (by rw [show (1 : Int32).toInt = 1 from (by decide)]; omega))).trans ((fM_call (fM_put (fM_call (fM_rf [14, 17] _) fr_8 (by decide)) efv_212 (by decide)) fr_226 (by decide)) 19 rfl))))), (show (fv_270 14).toInt ≤ (c9 : Int) from by have : (fv_5 14).toInt = (fv 14).toInt := congrArg Int32.toInt ((fM_call (fM_rf [] _) fr_8 (by decide)) 14 rfl); have : (fv_212 14).toInt = (fv_5 14).toInt := congrArg Int32.toInt ((fM_put (fM_rf [17] _) efv_212 (by decide)) 14 rfl); have hp9 := p_247; have hq9 := p_269; omega), (show (1 : Int32) = 1 → (fv 17).toInt + 1 ≤ (fv_270 17).toInt from fun w => by have : (fv_5 17).toInt = (fv 17).toInt := congrArg Int32.toInt ((fM_call (fM_rf [] _) fr_8 (by decide)) 17 rfl); have : (fv_212 17).toInt = v_209.toInt := congrArg Int32.toInt (show fv_212 17 = v_209 from congrFun efv_212 17); have : (fv_223 17).toInt = (fv_212 17).toInt := congrArg Int32.toInt ((fM_call (fM_rf [14] _) fr_226 (by decide)) 17 rfl); have : (fv_270 17).toInt = (fv_251 17).toInt := congrArg Int32.toInt ((fM_call (fM_rf [14, 19, 20] _) fr_273 (by decide)) 17 rfl); have hi9 := p_248 (Int32.toInt_inj.mp (by rw [show (1 : Int32).toInt = 1 from (by decide)]; omega)); omega), (eC_fr p_250 (fM_call (fM_rf [14, 19, 20] _) fr_273 (by decide)) (fA_call (fA_rf [] _) fa_274 (by decide)) rfl rfl rfl), trivial⟩, ⟨by rw [ht]; exact hP, va_K.moved hW.alike hK⟩⟩, hS.F ht⟩) hS.2.2 dX3_readOne_145
                · skip
                  have k_283 : j_11 = 22 := hE.2 j_11 22 lj_11 (by decide) (Option.some.inj c_229)
                  exfalso; omega
              · skip
                exact absurd True.intro (by have h7 := (⟨by decide, by decide⟩ : (10 : Int) ≤ (10 : Int32).toInt ∧ (10 : Int32).toInt ≤ 10); have h8 := h_wi; have h9 := Int32.le_iff_toInt_le.mp (Int32.not_lt.mp c_208); exfalso; omega)
          · skip
            have k_284 : ¬ j_11 = 27 := fun w => c_188 (by rw [w])
            refine lv_aload_n hx hb dX3_readOne_45 rfl (lv_at hl 2 rfl) ?_
            refine lv_iconst (v := 1) hx hb dX3_readOne_46 (by decide) ?_
            have z_285 : (fv_5 14).toInt = (fv 14).toInt := congrArg Int32.toInt ((fr_8 14 rfl))
            have z_286 : 0 ≤ (fv_5 14).toInt ∧ (fv_5 14).toInt ≤ 300 := hF_fv_5 14
            refine va_calli (va_runV (As := [.int 1]) (rest := []) ⟨hx, hb, hml, hown, hts⟩ (x_failC l dC dI H.size ob ad cA hd fv_5 wd_6 ar_7 hF_fv_5 hA_ar_7 1) (cwV 1 hts (gV kw_4_110 kw_4_112 kw_p_6 kw_1_11 kw_4_113) rfl rfl rfl (by decide +kernel) ⟨Nat.le_of_ble_eq_true rfl, Nat.le_of_ble_eq_true rfl⟩) ⟨fun a U g mk q => ⟨q.1, q.2.1, q.2.2.1, va_K.moved (u := U) (U := U.calling g mk a) (Vm.Alike.refl U.vm) q.2.2.2⟩, va_recv hK hP (ci := 4) (q0 := 6) rfl rfl, fun U hU hW => ⟨rfl, by rw [hU], by rw [hU]; exact hP, va_K.moved hW.alike hK⟩⟩ rfl rfl hl.1 rfl (lv_room (Nat.le_of_ble_eq_true rfl)) dX3_readOne_47 ⟨Nat.le_of_ble_eq_true rfl, Nat.le_of_ble_eq_true rfl⟩) hS (fun q _ h9 => aX_up hS q h9) (aX_up hS) (fun r_287 u t H1 locs ht _ hw hB _ hk1 hS => ?_)
            obtain ⟨fv_292, wd_293, ar_294⟩ := u
            obtain ⟨hF_fv_292, hA_ar_294, fr_295, fa_296, wf_297, p_288, p_289, p_290, p_291, -⟩ := hw
            have wf_297 : wd_293.2 = wd_6.2 := wf_297
            have hP : va_P (dC, dI) vwCl (wsX ob ad cA fv_292 wd_293 ar_294) H1 := by have h9 := hB.1; rw [ht] at h9; exact h9
            have fr_295 : fM [19, 20] fv_5 fv_292 := fr_295
            have fa_296 : fA [] ar_7 ar_294 := fa_296
            have p_290 : fv_292 19 = (1 : Int32) := p_290
            have p_291 : fv_292 20 = ar_7 36 ((fv_5 14).toInt.toNat) := p_291
            generalize H1 = H at hP hS ⊢
            rcases p_289 with ⟨rfl, p_289⟩
            · skip
              have z_298 : (0 : Int32).toInt = 0 := by decide
              exact W.zret (v := 0) hx hb hr (by decide) (fun t ht hW => ⟨⟨0, (fv_292, wd_293, ar_294), rfl, ⟨hF_fv_292, hA_ar_294, (fM_call (fM_call (fM_rf [14, 16, 17, 19, 20] _) fr_8 (by decide)) fr_295 (by decide)), (fA_call (fA_call (fA_rf [41, 42, 43] _) fa_9 (by decide)) fa_296 (by decide)), (wf_297.trans wf_10), (iv_w (⟨by decide, by decide⟩ : (0 : Int) ≤ (0 : Int32).toInt ∧ (0 : Int32).toInt ≤ 0) (by decide) (by decide)), (show ∀ r9 : List Bool, r9.length = 8 → rd_x T9 S9 0 ((fv 14).toInt.toNat) ((fv 17).toInt.toNat) r9 (0 : Int32) (fv_292 19) (fv_292 20) (fv_292 14) (fv_292 17) from fun r9 hr => by have : (fv_5 14).toInt = (fv 14).toInt := congrArg Int32.toInt ((fM_call (fM_rf [] _) fr_8 (by decide)) 14 rfl); have : (fv_292 14).toInt = (fv_5 14).toInt := congrArg Int32.toInt ((fM_call (fM_rf [19, 20] _) fr_295 (by decide)) 14 rfl); have : (fv_5 17).toInt = (fv 17).toInt := congrArg Int32.toInt ((fM_call (fM_rf [] _) fr_8 (by decide)) 17 rfl); have : (fv_292 17).toInt = (fv_5 17).toInt := congrArg Int32.toInt ((fM_call (fM_rf [19, 20] _) fr_295 (by decide)) 17 rfl); exact rd_xF (q := (fv_5 14).toInt.toNat) (show (fv_292 19).toInt = ((1 : Nat) : Int) from by rw [show fv_292 19 = fv_292 19 from rfl, p_290]; decide) (by decide) (by rw [rd_m0_bad (by omega) (by rw [← zj_11]; omega)]; rw [show (fv 14).toInt.toNat = (fv_5 14).toInt.toNat from (by omega)]) (show (fv_292 20).toInt = (S9 ((fv_5 14).toInt.toNat) : Nat) from by rw [show fv_292 20 = fv_292 20 from rfl, p_291, show ar_7 36 = ar 36 from ((fA_call (fA_rf [] _) fa_9 (by decide)) 36 rfl)]; exact (hcx ((fv_5 14).toInt.toNat) (by omega)).2.1)), (show (0 : Int32) = 1 → fv_292 19 = fv 19 from fun w => absurd w (by decide)), (show (fv_292 14).toInt ≤ (c9 : Int) from by have : (fv_5 14).toInt = (fv 14).toInt := congrArg Int32.toInt ((fM_call (fM_rf [] _) fr_8 (by decide)) 14 rfl); have : (fv_292 14).toInt = (fv_5 14).toInt := congrArg Int32.toInt ((fM_call (fM_rf [19, 20] _) fr_295 (by decide)) 14 rfl); omega), (show (0 : Int32) = 1 → (fv 17).toInt + 1 ≤ (fv_292 17).toInt from fun w => absurd w (by decide)), (eC_fr hp_eC (fM_call (fM_call (fM_rf [19, 20] _) fr_8 (by decide)) fr_295 (by decide)) (fA_call (fA_call (fA_rf [] _) fa_9 (by decide)) fa_296 (by decide)) rfl rfl rfl), trivial⟩, ⟨by rw [ht]; exact hP, va_K.moved hW.alike hK⟩⟩, hS.F ht⟩) hS.2.2 dX3_readOne_50
    · skip
      have i_299 : 3 ≤ v_105.toInt ∧ v_105.toInt ≤ 3 := iv_eq1 (⟨by decide, by decide⟩ : (3 : Int) ≤ (3 : Int32).toInt ∧ (3 : Int32).toInt ≤ 3) c_108
      refine lv_iconst (v := 1) hx hb dX3_readOne_21 (by decide) ?_
      refine lv_goto (tgt := 26) hx hb dX3_readOne_22 (by decide) ?_
      refine lv_istore_n (lv' := [(3, .int 1), (2, .ref (tA j_11)), (0, .ref (ob 6)), (1, .int wi)]) hx hb dX3_readOne_26 rfl hl (by decide) rfl (fun ls hl => ?_)
      refine lv_iload_n hx hb dX3_readOne_27 rfl (lv_at hl 0 rfl) ?_
      refine lv_if_ne (tgt := 51) hx hb dX3_readOne_28 (by decide) (fun c_301 => ?_) (fun c_301 => ?_)
      · skip
        refine lv_aload_n hx hb dX3_readOne_51 rfl (lv_at hl 2 rfl) ?_
        refine gX_X3_38 hx hb htg hown hK hP dX3_readOne_52 ?_
        refine my_ti (y := fv 17) ((fr_8 17 rfl)) ?_
        have i_302 : 0 ≤ (fv 17).toInt ∧ (fv 17).toInt ≤ 50 := hF_fv 17
        refine lv_bipush (v := 50) hx hb dX3_readOne_55 (by decide) ?_
        refine lv_icmp_ge (tgt := 66) hx hb dX3_readOne_57 (by decide) (fun c_303 => ?_) (fun c_303 => ?_)
        · skip
          have i_304 : 50 ≤ (fv 17).toInt ∧ (fv 17).toInt ≤ 50 := iv_le2 (⟨by decide, by decide⟩ : (50 : Int) ≤ (50 : Int32).toInt ∧ (50 : Int32).toInt ≤ 50) i_302 c_303
          refine lv_aload_n hx hb dX3_readOne_66 rfl (lv_at hl 2 rfl) ?_
          refine lv_iconst (v := 4) hx hb dX3_readOne_67 (by decide) ?_
          have z_305 : (fv_5 14).toInt = (fv 14).toInt := congrArg Int32.toInt ((fr_8 14 rfl))
          have z_306 : 0 ≤ (fv_5 14).toInt ∧ (fv_5 14).toInt ≤ 300 := hF_fv_5 14
          refine va_calli (va_runV (As := [.int 4]) (rest := []) ⟨hx, hb, hml, hown, hts⟩ (x_failC l dC dI H.size ob ad cA hd fv_5 wd_6 ar_7 hF_fv_5 hA_ar_7 4) (cwV 1 hts (gV kw_4_110 kw_4_112 kw_p_6 kw_1_11 kw_4_113) rfl rfl rfl (by decide +kernel) ⟨Nat.le_of_ble_eq_true rfl, Nat.le_of_ble_eq_true rfl⟩) ⟨fun a U g mk q => ⟨q.1, q.2.1, q.2.2.1, va_K.moved (u := U) (U := U.calling g mk a) (Vm.Alike.refl U.vm) q.2.2.2⟩, va_recv hK hP (ci := 4) (q0 := 6) rfl rfl, fun U hU hW => ⟨rfl, by rw [hU], by rw [hU]; exact hP, va_K.moved hW.alike hK⟩⟩ rfl rfl hl.1 rfl (lv_room (Nat.le_of_ble_eq_true rfl)) dX3_readOne_68 ⟨Nat.le_of_ble_eq_true rfl, Nat.le_of_ble_eq_true rfl⟩) hS (fun q _ h9 => aX_up hS q h9) (aX_up hS) (fun r_307 u t H1 locs ht _ hw hB _ hk1 hS => ?_)
          obtain ⟨fv_312, wd_313, ar_314⟩ := u
          obtain ⟨hF_fv_312, hA_ar_314, fr_315, fa_316, wf_317, p_308, p_309, p_310, p_311, -⟩ := hw
          have wf_317 : wd_313.2 = wd_6.2 := wf_317
          have hP : va_P (dC, dI) vwCl (wsX ob ad cA fv_312 wd_313 ar_314) H1 := by have h9 := hB.1; rw [ht] at h9; exact h9
          have fr_315 : fM [19, 20] fv_5 fv_312 := fr_315
          have fa_316 : fA [] ar_7 ar_314 := fa_316
          have p_310 : fv_312 19 = (4 : Int32) := p_310
          have p_311 : fv_312 20 = ar_7 36 ((fv_5 14).toInt.toNat) := p_311
          generalize H1 = H at hP hS ⊢
          rcases p_309 with ⟨rfl, p_309⟩
          · skip
            have z_318 : (0 : Int32).toInt = 0 := by decide
            exact W.zret (v := 0) hx hb hr (by decide) (fun t ht hW => ⟨⟨0, (fv_312, wd_313, ar_314), rfl, ⟨hF_fv_312, hA_ar_314, (fM_call (fM_call (fM_rf [14, 16, 17, 19, 20] _) fr_8 (by decide)) fr_315 (by decide)), (fA_call (fA_call (fA_rf [41, 42, 43] _) fa_9 (by decide)) fa_316 (by decide)), (wf_317.trans wf_10), (iv_w (⟨by decide, by decide⟩ : (0 : Int) ≤ (0 : Int32).toInt ∧ (0 : Int32).toInt ≤ 0) (by decide) (by decide)), (show ∀ r9 : List Bool, r9.length = 8 → rd_x T9 S9 0 ((fv 14).toInt.toNat) ((fv 17).toInt.toNat) r9 (0 : Int32) (fv_312 19) (fv_312 20) (fv_312 14) (fv_312 17) from fun r9 hr => by have : (fv_5 14).toInt = (fv 14).toInt := congrArg Int32.toInt ((fM_call (fM_rf [] _) fr_8 (by decide)) 14 rfl); have : (fv_312 14).toInt = (fv_5 14).toInt := congrArg Int32.toInt ((fM_call (fM_rf [19, 20] _) fr_315 (by decide)) 14 rfl); have : (fv_5 17).toInt = (fv 17).toInt := congrArg Int32.toInt ((fM_call (fM_rf [] _) fr_8 (by decide)) 17 rfl); have : (fv_312 17).toInt = (fv_5 17).toInt := congrArg Int32.toInt ((fM_call (fM_rf [19, 20] _) fr_315 (by decide)) 17 rfl); exact rd_xF (q := (fv_5 14).toInt.toNat) (show (fv_312 19).toInt = ((4 : Nat) : Int) from by rw [show fv_312 19 = fv_312 19 from rfl, p_310]; decide) (by decide) (by rw [rd_m0_many (by omega) (by rw [← zj_11]; omega) (by omega)]; rw [show (fv 14).toInt.toNat = (fv_5 14).toInt.toNat from (by omega)]) (show (fv_312 20).toInt = (S9 ((fv_5 14).toInt.toNat) : Nat) from by rw [show fv_312 20 = fv_312 20 from rfl, p_311, show ar_7 36 = ar 36 from ((fA_call (fA_rf [] _) fa_9 (by decide)) 36 rfl)]; exact (hcx ((fv_5 14).toInt.toNat) (by omega)).2.1)), (show (0 : Int32) = 1 → fv_312 19 = fv 19 from fun w => absurd w (by decide)), (show (fv_312 14).toInt ≤ (c9 : Int) from by have : (fv_5 14).toInt = (fv 14).toInt := congrArg Int32.toInt ((fM_call (fM_rf [] _) fr_8 (by decide)) 14 rfl); have : (fv_312 14).toInt = (fv_5 14).toInt := congrArg Int32.toInt ((fM_call (fM_rf [19, 20] _) fr_315 (by decide)) 14 rfl); omega), (show (0 : Int32) = 1 → (fv 17).toInt + 1 ≤ (fv_312 17).toInt from fun w => absurd w (by decide)), (eC_fr hp_eC (fM_call (fM_call (fM_rf [19, 20] _) fr_8 (by decide)) fr_315 (by decide)) (fA_call (fA_call (fA_rf [] _) fa_9 (by decide)) fa_316 (by decide)) rfl rfl rfl), trivial⟩, ⟨by rw [ht]; exact hP, va_K.moved hW.alike hK⟩⟩, hS.F ht⟩) hS.2.2 dX3_readOne_71
        · skip
          have i_319 : 0 ≤ (fv 17).toInt ∧ (fv 17).toInt ≤ 49 := iv_lt1 i_302 (⟨by decide, by decide⟩ : (50 : Int) ≤ (50 : Int32).toInt ∧ (50 : Int32).toInt ≤ 50) (Int32.not_le.mp c_303)
          refine lv_iload_n hx hb dX3_readOne_60 rfl (lv_at hl 3 rfl) ?_
          refine lv_bipush (v := 10) hx hb dX3_readOne_61 (by decide) ?_
          refine lv_icmp_lt (tgt := 72) hx hb dX3_readOne_63 (by decide) (fun c_320 => ?_) (fun c_320 => ?_)
          · skip
            refine lv_aload_n hx hb dX3_readOne_72 rfl (lv_at hl 2 rfl) ?_
            refine lv_dup hx hb dX3_readOne_73 rfl ?_
            refine gX_X3_38 hx hb htg hown hK hP dX3_readOne_74 ?_
            refine my_ti (y := fv 17) ((fr_8 17 rfl)) ?_
            refine lv_iconst (v := 1) hx hb dX3_readOne_77 (by decide) ?_
            refine lv_iadd hx hb dX3_readOne_78 ?_
            refine lv_topi (fun v_321 ev_321 => ?_)
            have t_322 : v_321.toInt = (fv 17).toInt + 1 ∧ 1 ≤ v_321.toInt ∧ v_321.toInt ≤ 50 := iv_addc ev_321 i_319 (by decide) (by decide) (by decide)
            refine pX_X3_38 hx hb htg hown hK hP hS hd dX3_readOne_79 (fun H locs fv_324 efv_324 hP hS => ?_)
            have hF_fv_324 : rX fv_324 := rX_put hF_fv_5 efv_324 (iv_w t_322.2 (by decide) (by decide))
            refine lv_aload_n hx hb dX3_readOne_82 rfl (lv_at hl 2 rfl) ?_
            have z_325 : (fv_324 13).toInt = (fv 13).toInt := congrArg Int32.toInt ((congrFun efv_324 13).trans ((fr_8 13 rfl)))
            have z_326 : 0 ≤ (fv_324 13).toInt ∧ (fv_324 13).toInt ≤ 301 := hF_fv_324 13
            have z_327 : (fv_324 14).toInt = (fv 14).toInt := congrArg Int32.toInt ((congrFun efv_324 14).trans ((fr_8 14 rfl)))
            have z_328 : 0 ≤ (fv_324 14).toInt ∧ (fv_324 14).toInt ≤ 300 := hF_fv_324 14
            have z_329 : (fv_324 13).toInt = (fv 13).toInt := congrArg Int32.toInt ((congrFun efv_324 13).trans ((fr_8 13 rfl)))
            have z_330 : 0 ≤ (fv_324 13).toInt ∧ (fv_324 13).toInt ≤ 301 := hF_fv_324 13
            have z_331 : (fv_324 14).toInt = (fv 14).toInt := congrArg Int32.toInt ((congrFun efv_324 14).trans ((fr_8 14 rfl)))
            have z_332 : 0 ≤ (fv_324 14).toInt ∧ (fv_324 14).toInt ≤ 300 := hF_fv_324 14
            refine va_callv (va_runV (As := []) (rest := []) ⟨hx, hb, hml, hown, hts⟩ (x_stepC l dC dI H.size ob ad cA hd fv_324 wd_6 ar_7 hF_fv_324 hA_ar_7 (by have h9 := rd_lt hfin (p := (fv 14).toInt.toNat) (by omega) (by rw [← zj_11]; omega); omega)) (cwV 0 hts (gV kw_4_116 kw_4_118 kw_p_7 kw_1_11 kw_4_119) rfl rfl rfl (by decide +kernel) ⟨Nat.le_of_ble_eq_true rfl, Nat.le_of_ble_eq_true rfl⟩) ⟨fun a U g mk q => ⟨q.1, q.2.1, q.2.2.1, va_K.moved (u := U) (U := U.calling g mk a) (Vm.Alike.refl U.vm) q.2.2.2⟩, va_recv hK hP (ci := 4) (q0 := 6) rfl rfl, fun U hU hW => ⟨rfl, by rw [hU], by rw [hU]; exact hP, va_K.moved hW.alike hK⟩⟩ rfl rfl hl.1 rfl (lv_room (Nat.le_of_ble_eq_true rfl)) dX3_readOne_83 ⟨Nat.le_of_ble_eq_true rfl, Nat.le_of_ble_eq_true rfl⟩) hS (fun q _ h9 => aX_up hS q h9) (aX_up hS) (fun u t H1 locs ht _ hw hB _ hk1 hS => ?_)
            obtain ⟨fv_335, wd_336, ar_337⟩ := u
            obtain ⟨hF_fv_335, hA_ar_337, fr_338, fa_339, wf_340, p_334, -⟩ := hw
            have wf_340 : wd_336.2 = wd_6.2 := wf_340
            have hP : va_P (dC, dI) vwCl (wsX ob ad cA fv_335 wd_336 ar_337) H1 := by have h9 := hB.1; rw [ht] at h9; exact h9
            have fr_338 : fM [14] fv_324 fv_335 := fr_338
            have fa_339 : fA [] ar_7 ar_337 := fa_339
            have p_334 : (fv_335 14).toInt = (fv_324 14).toInt + 1 ∧ (fv_335 14).toInt ≤ (fv_324 13).toInt - 1 := p_334
            generalize H1 = H at hP hS ⊢
            refine lv_aload_n hx hb dX3_readOne_86 rfl (lv_at hl 1 rfl) ?_
            refine va_gets hx hb (hE.1 22 (by decide)).1 hS hown (htg (.fieldLink RX3 190 "WalkingTown$Token" "NOT" "LWalkingTown$Token;") kw_4_124) (fun _ h9 => h9) dX3_readOne_87 ?_
            refine lv_acmp_ne (rx := some (tA j_11)) (ry := some (tA 22)) (tgt := 113) hx hb dX3_readOne_90 (by decide) (fun c_341 => ?_) (fun c_341 => ?_)
            · skip
              have k_342 : ¬ j_11 = 22 := fun w => c_341 (by rw [w])
              refine lv_aload_n hx hb dX3_readOne_113 rfl (lv_at hl 1 rfl) ?_
              refine va_gets hx hb (hE.1 27 (by decide)).1 hS hown (htg (.fieldLink RX3 209 "WalkingTown$Token" "OPEN" "LWalkingTown$Token;") kw_4_148) (fun _ h9 => h9) dX3_readOne_114 ?_
              refine lv_acmp_ne (rx := some (tA j_11)) (ry := some (tA 27)) (tgt := 146) hx hb dX3_readOne_117 (by decide) (fun c_343 => ?_) (fun c_343 => ?_)
              · skip
                have k_344 : ¬ j_11 = 27 := fun w => c_343 (by rw [w])
                refine lv_aload_n hx hb dX3_readOne_146 rfl (lv_at hl 1 rfl) ?_
                refine va_getE hx hb hE lj_11 hS hown (q := tkrole) (List.mem_cons_self ..) (htg (.fieldLink RX3 162 "WalkingTown$Token" "role" "I") kw_9_66) (fun _ h9 => h9) dX3_readOne_147 ?_
                refine lv_topi (fun v_345 ev_345 => ?_)
                have i_346 : 0 ≤ v_345.toInt ∧ v_345.toInt ≤ 11 := ev_345 ▸ tk_role j_11
                have k_347 := rd_role lj_11 ev_345
                refine lv_iconst (v := 2) hx hb dX3_readOne_150 (by decide) ?_
                refine lv_icmp_ne (tgt := 167) hx hb dX3_readOne_151 (by decide) (fun c_348 => ?_) (fun c_348 => ?_)
                · skip
                  have k_349 : ¬ v_345.toInt = 2 := fun q => c_348 (Int32.toInt_inj.mp q)
                  refine lv_aload_n hx hb dX3_readOne_167 rfl (lv_at hl 2 rfl) ?_
                  refine lv_aload_n hx hb dX3_readOne_168 rfl (lv_at hl 1 rfl) ?_
                  refine va_getE hx hb hE lj_11 hS hown (q := tkcode) (List.mem_cons_of_mem _ (List.mem_cons_self ..)) (htg (.fieldLink RX3 168 "WalkingTown$Token" "code" "I") kw_9_67) (fun _ h9 => h9) dX3_readOne_169 ?_
                  refine lv_topi (fun v_350 ev_350 => ?_)
                  have i_351 : 0 ≤ v_350.toInt ∧ v_350.toInt ≤ 11 := ev_350 ▸ tk_code j_11
                  have z_352 : (fv_335 13).toInt = (fv 13).toInt := congrArg Int32.toInt ((fr_338 13 rfl).trans ((congrFun efv_324 13).trans ((fr_8 13 rfl))))
                  have z_353 : 0 ≤ (fv_335 13).toInt ∧ (fv_335 13).toInt ≤ 301 := hF_fv_335 13
                  have z_354 : 0 ≤ (fv_335 14).toInt ∧ (fv_335 14).toInt ≤ 300 := hF_fv_335 14
                  have z_355 : 0 ≤ (fv_335 14).toInt ∧ (fv_335 14).toInt ≤ 300 := hF_fv_335 14
                  have z_356 : (fv_335 17).toInt = v_321.toInt := congrArg Int32.toInt ((fr_338 17 rfl).trans ((congrFun efv_324 17)))
                  have z_357 : 0 ≤ (fv_335 17).toInt ∧ (fv_335 17).toInt ≤ 50 := hF_fv_335 17
                  refine va_calli (va_runV (As := [.int v_350]) (rest := []) ⟨hx, hb, hml, hown, hts⟩ (x_readSignC l dC dI H.size ob ad cA hd fv_335 wd_336 ar_337 hF_fv_335 hA_ar_337 tA (tO_w hto (wf_340.trans wf_10)) T9 S9 N9 c9 v_350 i_351 (rd_cx_eq hcx (congrArg (fun z => z.1) (wf_340.trans wf_10)) ((fA_call (fA_call (fA_rf [] _) fa_9 (by decide)) fa_339 (by decide)) 36 rfl) ((fA_call (fA_call (fA_rf [] _) fa_9 (by decide)) fa_339 (by decide)) 37 rfl)) (by omega) (by omega) h300 hT32 hfin (eC_fr hp_eC (fM_call (fM_put (fM_call (fM_rf [14, 17] _) fr_8 (by decide)) efv_324 (by decide)) fr_338 (by decide)) (fA_call (fA_call (fA_rf [] _) fa_9 (by decide)) fa_339 (by decide)) rfl rfl rfl)) (cwV 1 hts (gV kw_4_156 kw_4_158 kw_p_15 kw_1_11 kw_4_159) rfl rfl rfl (by decide +kernel) ⟨Nat.le_of_ble_eq_true rfl, Nat.le_of_ble_eq_true rfl⟩) ⟨fun a U g mk q => ⟨q.1, ⟨q.2.1.1, q.2.1.2.1, va_K.moved (u := U) (U := U.calling g mk a) (Vm.Alike.refl U.vm) q.2.1.2.2⟩, tk_mv (U := U.calling g mk a) rfl (Vm.Alike.refl U.vm) q.2.2⟩, va_recv hK hP (ci := 4) (q0 := 6) rfl rfl, fun U hU hW => ⟨rfl, ⟨by rw [hU], by rw [hU]; exact hP, va_K.moved hW.alike hK⟩, tk_pass hE hS hU hW.alike⟩⟩ rfl rfl hl.1 rfl (lv_room (Nat.le_of_ble_eq_true rfl)) dX3_readOne_172 ⟨Nat.le_of_ble_eq_true rfl, Nat.le_of_ble_eq_true rfl⟩) hS (fun q _ h9 => aX_up hS q h9) (aX_up hS) (fun r_358 u t H1 locs ht _ hw hB _ hk1 hS => ?_)
                  obtain ⟨fv_364, wd_365, ar_366⟩ := u
                  obtain ⟨hF_fv_364, hA_ar_366, fr_367, fa_368, wf_369, p_359, p_360, p_361, p_362, p_363, -⟩ := hw
                  have wf_369 : wd_365.2 = wd_336.2 := wf_369
                  have hP : va_P (dC, dI) vwCl (wsX ob ad cA fv_364 wd_365 ar_366) H1 := by have h9 := hB.1; rw [ht] at h9; exact h9
                  have fr_367 : fM [14, 16, 19, 20] fv_335 fv_364 := fr_367
                  have fa_368 : fA [41, 42, 43] ar_337 ar_366 := fa_368
                  have p_363 : eC fv_364 ar_366 := p_363
                  have p_360 : ∀ r9 : List Bool, rd_x T9 S9 2 ((fv_335 14).toInt.toNat) ((fv_335 17).toInt.toNat) r9 r_358 (fv_364 19) (fv_364 20) (fv_364 14) (fv_364 17) := p_360
                  have p_361 : r_358 = 1 → fv_364 19 = fv_335 19 := p_361
                  have p_362 : (fv_364 14).toInt ≤ (c9 : Int) := p_362
                  generalize H1 = H at hP hS ⊢
                  exact W.zret (v := r_358) hx hb hr (iv_nar p_359) (fun t ht hW => ⟨⟨r_358, (fv_364, wd_365, ar_366), rfl, ⟨hF_fv_364, hA_ar_366, (fM_call (fM_call (fM_put (fM_call (fM_rf [14, 16, 17, 19, 20] _) fr_8 (by decide)) efv_324 (by decide)) fr_338 (by decide)) fr_367 (by decide)), (fA_call (fA_call (fA_call (fA_rf [41, 42, 43] _) fa_9 (by decide)) fa_339 (by decide)) fa_368 (by decide)), (wf_369.trans (wf_340.trans wf_10)), p_359, (show ∀ r9 : List Bool, r9.length = 8 → rd_x T9 S9 0 ((fv 14).toInt.toNat) ((fv 17).toInt.toNat) r9 r_358 (fv_364 19) (fv_364 20) (fv_364 14) (fv_364 17) from fun r9 hr => by have : (fv_5 14).toInt = (fv 14).toInt := congrArg Int32.toInt ((fM_call (fM_rf [] _) fr_8 (by decide)) 14 rfl); have : (fv_324 14).toInt = (fv_5 14).toInt := congrArg Int32.toInt ((fM_put (fM_rf [17] _) efv_324 (by decide)) 14 rfl); have : (fv_5 17).toInt = (fv 17).toInt := congrArg Int32.toInt ((fM_call (fM_rf [] _) fr_8 (by decide)) 17 rfl); have : (fv_324 17).toInt = v_321.toInt := congrArg Int32.toInt (show fv_324 17 = v_321 from congrFun efv_324 17); have : (fv_335 17).toInt = (fv_324 17).toInt := congrArg Int32.toInt ((fM_call (fM_rf [14] _) fr_338 (by decide)) 17 rfl); have : (fv_364 17).toInt = (fv_335 17).toInt := congrArg Int32.toInt ((fM_call (fM_rf [14, 16, 19, 20] _) fr_367 (by decide)) 17 rfl); have h9 := p_360 r9; exact rd_x_of h9 (by rw [rd_m0_fact (by omega) (by rw [← zj_11]; omega) (by omega), show (fv 14).toInt.toNat + 1 = (fv_335 14).toInt.toNat from (by omega), show (fv 17).toInt.toNat + 1 = (fv_335 17).toInt.toNat from (by omega)])), (show r_358 = 1 → fv_364 19 = fv 19 from fun w => (show fv_364 19 = fv_364 19 from rfl).trans ((p_361 w).trans ((fM_call (fM_put (fM_call (fM_rf [14, 17] _) fr_8 (by decide)) efv_324 (by decide)) fr_338 (by decide)) 19 rfl))), (show (fv_364 14).toInt ≤ (c9 : Int) from by have : (fv_5 14).toInt = (fv 14).toInt := congrArg Int32.toInt ((fM_call (fM_rf [] _) fr_8 (by decide)) 14 rfl); have : (fv_324 14).toInt = (fv_5 14).toInt := congrArg Int32.toInt ((fM_put (fM_rf [17] _) efv_324 (by decide)) 14 rfl); have hp9 := p_362; omega), (show r_358 = 1 → (fv 17).toInt + 1 ≤ (fv_364 17).toInt from fun w => by have : (fv_5 17).toInt = (fv 17).toInt := congrArg Int32.toInt ((fM_call (fM_rf [] _) fr_8 (by decide)) 17 rfl); have : (fv_324 17).toInt = v_321.toInt := congrArg Int32.toInt (show fv_324 17 = v_321 from congrFun efv_324 17); have : (fv_335 17).toInt = (fv_324 17).toInt := congrArg Int32.toInt ((fM_call (fM_rf [14] _) fr_338 (by decide)) 17 rfl); have : (fv_364 17).toInt = (fv_335 17).toInt := congrArg Int32.toInt ((fM_call (fM_rf [14, 16, 19, 20] _) fr_367 (by decide)) 17 rfl); have hi9 : (fv_364 17).toInt = (fv_335 17).toInt := congrArg Int32.toInt ((fM_call (fM_rf [14, 16, 19, 20] _) fr_367 (by decide)) 17 rfl); omega), p_363, trivial⟩, ⟨by rw [ht]; exact hP, va_K.moved hW.alike hK⟩⟩, hS.F ht⟩) hS.2.2 dX3_readOne_175
                · skip
                  have i_370 : 2 ≤ v_345.toInt ∧ v_345.toInt ≤ 2 := iv_eq1 (⟨by decide, by decide⟩ : (2 : Int) ≤ (2 : Int32).toInt ∧ (2 : Int32).toInt ≤ 2) c_348
                  refine lv_aload_n hx hb dX3_readOne_154 rfl (lv_at hl 2 rfl) ?_
                  refine lv_iconst (v := 2) hx hb dX3_readOne_155 (by decide) ?_
                  refine lv_aload_n hx hb dX3_readOne_156 rfl (lv_at hl 1 rfl) ?_
                  refine va_getE hx hb hE lj_11 hS hown (q := tkcode) (List.mem_cons_of_mem _ (List.mem_cons_self ..)) (htg (.fieldLink RX3 168 "WalkingTown$Token" "code" "I") kw_9_67) (fun _ h9 => h9) dX3_readOne_157 ?_
                  refine lv_topi (fun v_372 ev_372 => ?_)
                  have i_373 : 0 ≤ v_372.toInt ∧ v_372.toInt ≤ 11 := ev_372 ▸ tk_code j_11
                  refine lv_iconst (v := 0) hx hb dX3_readOne_160 (by decide) ?_
                  refine va_calli (va_runV (As := [.int 2, .int v_372, .int 0]) (rest := []) ⟨hx, hb, hml, hown, hts⟩ (x_addCode l dC dI H.size ob ad cA hd fv_335 wd_336 ar_337 hF_fv_335 hA_ar_337 2 v_372 0 i_373 (eC_fr hp_eC (fM_call (fM_put (fM_call (fM_rf [14, 17] _) fr_8 (by decide)) efv_324 (by decide)) fr_338 (by decide)) (fA_call (fA_call (fA_rf [] _) fa_9 (by decide)) fa_339 (by decide)) rfl rfl rfl)) (cwV 3 hts (gV kw_4_150 kw_4_152 kw_p_14 kw_1_11 kw_4_153) rfl rfl rfl (by decide +kernel) ⟨Nat.le_of_ble_eq_true rfl, Nat.le_of_ble_eq_true rfl⟩) ⟨fun a U g mk q => ⟨q.1, q.2.1, q.2.2.1, va_K.moved (u := U) (U := U.calling g mk a) (Vm.Alike.refl U.vm) q.2.2.2⟩, va_recv hK hP (ci := 4) (q0 := 6) rfl rfl, fun U hU hW => ⟨rfl, by rw [hU], by rw [hU]; exact hP, va_K.moved hW.alike hK⟩⟩ rfl rfl hl.1 rfl (lv_room (Nat.le_of_ble_eq_true rfl)) dX3_readOne_161 ⟨Nat.le_of_ble_eq_true rfl, Nat.le_of_ble_eq_true rfl⟩) hS (fun q _ h9 => aX_up hS q h9) (aX_up hS) (fun r_374 u t H1 locs ht _ hw hB _ hk1 hS => ?_)
                  obtain ⟨fv_378, wd_379, ar_380⟩ := u
                  obtain ⟨hF_fv_378, hA_ar_380, fr_381, fa_382, wf_383, p_375, p_376, p_377, -⟩ := hw
                  have wf_383 : wd_379.2 = wd_336.2 := wf_383
                  have hP : va_P (dC, dI) vwCl (wsX ob ad cA fv_378 wd_379 ar_380) H1 := by have h9 := hB.1; rw [ht] at h9; exact h9
                  have fr_381 : fM [16] fv_335 fv_378 := fr_381
                  have fa_382 : fA [41, 42, 43] ar_337 ar_380 := fa_382
                  have p_377 : eC fv_378 ar_380 := p_377
                  generalize H1 = H at hP hS ⊢
                  rcases p_376 with ⟨rfl, p_376⟩
                  · skip
                    refine lv_goto (tgt := 175) hx hb dX3_readOne_164 (by decide) ?_
                    have z_384 : (1 : Int32).toInt = 1 := by decide
                    exact W.zret (v := 1) hx hb hr (by decide) (fun t ht hW => ⟨⟨1, (fv_378, wd_379, ar_380), rfl, ⟨hF_fv_378, hA_ar_380, (fM_call (fM_call (fM_put (fM_call (fM_rf [14, 16, 17, 19, 20] _) fr_8 (by decide)) efv_324 (by decide)) fr_338 (by decide)) fr_381 (by decide)), (fA_call (fA_call (fA_call (fA_rf [41, 42, 43] _) fa_9 (by decide)) fa_339 (by decide)) fa_382 (by decide)), (wf_383.trans (wf_340.trans wf_10)), (iv_w (⟨by decide, by decide⟩ : (1 : Int) ≤ (1 : Int32).toInt ∧ (1 : Int32).toInt ≤ 1) (by decide) (by decide)), (show ∀ r9 : List Bool, r9.length = 8 → rd_x T9 S9 0 ((fv 14).toInt.toNat) ((fv 17).toInt.toNat) r9 (1 : Int32) (fv_378 19) (fv_378 20) (fv_378 14) (fv_378 17) from fun r9 hr => by have : (fv_5 14).toInt = (fv 14).toInt := congrArg Int32.toInt ((fM_call (fM_rf [] _) fr_8 (by decide)) 14 rfl); have : (fv_324 14).toInt = (fv_5 14).toInt := congrArg Int32.toInt ((fM_put (fM_rf [17] _) efv_324 (by decide)) 14 rfl); have : (fv_378 14).toInt = (fv_335 14).toInt := congrArg Int32.toInt ((fM_call (fM_rf [16] _) fr_381 (by decide)) 14 rfl); have : (fv_5 17).toInt = (fv 17).toInt := congrArg Int32.toInt ((fM_call (fM_rf [] _) fr_8 (by decide)) 17 rfl); have : (fv_324 17).toInt = v_321.toInt := congrArg Int32.toInt (show fv_324 17 = v_321 from congrFun efv_324 17); have : (fv_335 17).toInt = (fv_324 17).toInt := congrArg Int32.toInt ((fM_call (fM_rf [14] _) fr_338 (by decide)) 17 rfl); have : (fv_378 17).toInt = (fv_335 17).toInt := congrArg Int32.toInt ((fM_call (fM_rf [16] _) fr_381 (by decide)) 17 rfl); exact rd_xO (by rw [rd_m0_flag (by omega) (by rw [← zj_11]; omega) (by omega), show (fv 14).toInt.toNat + 1 = (fv_378 14).toInt.toNat from (by omega), show (fv 17).toInt.toNat + 1 = (fv_378 17).toInt.toNat from (by omega)])), (show (1 : Int32) = 1 → fv_378 19 = fv 19 from fun _ => ((fM_call (fM_call (fM_put (fM_call (fM_rf [14, 16, 17] _) fr_8 (by decide)) efv_324 (by decide)) fr_338 (by decide)) fr_381 (by decide)) 19 rfl)), (show (fv_378 14).toInt ≤ (c9 : Int) from by have : (fv_5 14).toInt = (fv 14).toInt := congrArg Int32.toInt ((fM_call (fM_rf [] _) fr_8 (by decide)) 14 rfl); have : (fv_324 14).toInt = (fv_5 14).toInt := congrArg Int32.toInt ((fM_put (fM_rf [17] _) efv_324 (by decide)) 14 rfl); have : (fv_378 14).toInt = (fv_335 14).toInt := congrArg Int32.toInt ((fM_call (fM_rf [16] _) fr_381 (by decide)) 14 rfl); omega), (show (1 : Int32) = 1 → (fv 17).toInt + 1 ≤ (fv_378 17).toInt from fun w => by have : (fv_5 17).toInt = (fv 17).toInt := congrArg Int32.toInt ((fM_call (fM_rf [] _) fr_8 (by decide)) 17 rfl); have : (fv_324 17).toInt = v_321.toInt := congrArg Int32.toInt (show fv_324 17 = v_321 from congrFun efv_324 17); have : (fv_335 17).toInt = (fv_324 17).toInt := congrArg Int32.toInt ((fM_call (fM_rf [14] _) fr_338 (by decide)) 17 rfl); have : (fv_378 17).toInt = (fv_335 17).toInt := congrArg Int32.toInt ((fM_call (fM_rf [16] _) fr_381 (by decide)) 17 rfl); omega), p_377, trivial⟩, ⟨by rw [ht]; exact hP, va_K.moved hW.alike hK⟩⟩, hS.F ht⟩) hS.2.2 dX3_readOne_175
              · skip
                have k_385 : j_11 = 27 := hE.2 j_11 27 lj_11 (by decide) (Option.some.inj c_343)
                exfalso; omega
            · skip
              have k_386 : j_11 = 22 := hE.2 j_11 22 lj_11 (by decide) (Option.some.inj c_341)
              exfalso; omega
          · skip
            exact absurd True.intro (by have h7 := (⟨by decide, by decide⟩ : (10 : Int) ≤ (10 : Int32).toInt ∧ (10 : Int32).toInt ≤ 10); have h8 := h_wi; have h9 := Int32.le_iff_toInt_le.mp (Int32.not_lt.mp c_320); exfalso; omega)
      · skip
        exact absurd c_301 (by decide)
set_option maxHeartbeats 4000000 in
set_option maxRecDepth 100000 in
theorem x_readAllC_8 (l : Launch) (dC : Nat → ClassId) (dI : Nat → Nat → Nat) (sz : Nat) (ob ad : Nat → Nat) (cA : Nat → ClassId) (hd : dX ob ad) (fv : Nat → Int32) (wd : xT) (ar : Nat → Nat → Int32) (hF_fv : rX fv) (hA_ar : rB ar) (tA : Nat → Nat) (hto : tO tA wd.2.1) (T9 : Nat → Nat) (S9 : Nat → Nat) (N9 : Nat → Int) (c9 : Nat) (wi : Int32) (h_wi : 8 ≤ wi.toInt ∧ wi.toInt ≤ 8) (hcx : rd_cx tA T9 S9 N9 c9 wd.2.1 (ar 36) (ar 37)) (htc : (fv 13).toInt = (c9 : Int) + 1) (hpl : (fv 14).toInt ≤ (c9 : Int)) (h300 : c9 ≤ 300) (hT32 : ∀ k, T9 k < 32) (hfin : T9 c9 = 30 ∨ T9 c9 = 31) (hp_eC : eC fv ar) : Met l yX3_readAll (.code yX3_readAll cX3_readAll 3 (some .boolean) :: lw_good) ({ frames := 10, cells := 0, slots := 0, locals := 221 }) (va_Pc [.ref (ob 6), .int wi] (fun U => prX dC dI ob ad cA fv wd ar sz U ∧ tkA ob ad tA sz U)) (va_Qi (fun (r : Int32) (u : xS) => rX u.1 ∧ rB u.2.2 ∧ fM [14, 16, 17, 19, 20] fv u.1 ∧ fA [41, 42, 43] ar u.2.2 ∧ u.2.1.2 = wd.2 ∧ (0 ≤ r.toInt ∧ r.toInt ≤ 1) ∧ (∀ r9 : List Bool, r9.length = 8 → rd_dn r9 = r9 → rd_x T9 S9 0 ((fv 14).toInt.toNat) ((fv 17).toInt.toNat) r9 r (u.1 19) (u.1 20) (u.1 14) (u.1 17)) ∧ (r = 1 → u.1 19 = fv 19) ∧ ((u.1 14).toInt ≤ (c9 : Int)) ∧ (r = 1 → (fv 17).toInt + 1 ≤ (u.1 17).toInt) ∧ (r = 1 → ¬ T9 ((u.1 14).toInt.toNat) = 24) ∧ (eC u.1 u.2.2) ∧ True) (enX dC dI ob ad cA) (aX ob ad sz)) 0 0 (aX ob ad sz) := by
  refine Met.ofW (cc := cX3_readAll) (maxL := 3) (ret := (some .boolean)) (by decide) rfl ?_
  intro p e s m args below meth c s₁ B hml hv
  obtain ⟨rfl, ⟨hsz, hP, hK⟩, hE⟩ := hv
  have hx := B.exec
  have hb := B.bytes
  have hr := B.returns
  have hts := atoms_spec (ws := (.code yX3_readAll cX3_readAll 3 (some .boolean) :: lw_good)) B.pre
  have htg : ∀ w ∈ lw_good, w.before _ s = true := fun w hw => hts w (List.mem_cons_of_mem _ hw)
  have hown : s.vm.findClass RX3 = some m.cls := findClass_of_methodNamed B.named
  have hlocks := B.notSynchronized
  subst hsz
  have hS : va_S (aX ob ad s.heap.size) s.heap s.heap [] := va_S.rf
  have hl := lv_entry ([.ref (ob 6), .int wi]) (n := 3) (Nat.le_of_ble_eq_true rfl)
  rw [lg_entry_eq]
  generalize (lg_sl ([.ref (ob 6), .int wi]) ++ List.replicate (3 - (lg_sl ([.ref (ob 6), .int wi])).length) Slot.unset).toArray = ls at hl ⊢
  have hl : lv_has ls 3 [(0, .ref (ob 6)), (1, .int wi)] := hl
  have i_1 : 0 ≤ (fv 14).toInt ∧ (fv 14).toInt ≤ 300 := (by have h9 := hF_fv 14; have h8 : 0 ≤ (fv 14).toInt := h9.1; omega)
  refine lv_aload_n hx hb dX3_readAll_0 rfl (lv_at hl 0 rfl) ?_
  refine lv_iload_n hx hb dX3_readAll_1 rfl (lv_at hl 1 rfl) ?_
  have z_2 : 0 ≤ (fv 13).toInt ∧ (fv 13).toInt ≤ 301 := hF_fv 13
  have z_3 : 0 ≤ (fv 14).toInt ∧ (fv 14).toInt ≤ 300 := hF_fv 14
  have z_4 : 0 ≤ (fv 14).toInt ∧ (fv 14).toInt ≤ 300 := hF_fv 14
  have z_5 : 0 ≤ (fv 17).toInt ∧ (fv 17).toInt ≤ 50 := hF_fv 17
  refine va_calli (va_runV (As := [.int wi]) (rest := []) ⟨hx, hb, hml, hown, hts⟩ (x_readOneC_8 l dC dI s.heap.size ob ad cA hd fv wd ar hF_fv hA_ar tA hto T9 S9 N9 c9 wi h_wi hcx (by omega) (by omega) h300 hT32 hfin hp_eC) (cwV 1 hts (gV kw_4_144 kw_4_146 kw_p_13 kw_1_11 kw_4_147) rfl rfl rfl (by decide +kernel) ⟨Nat.le_of_ble_eq_true rfl, Nat.le_of_ble_eq_true rfl⟩) ⟨fun a U g mk q => ⟨q.1, ⟨q.2.1.1, q.2.1.2.1, va_K.moved (u := U) (U := U.calling g mk a) (Vm.Alike.refl U.vm) q.2.1.2.2⟩, tk_mv (U := U.calling g mk a) rfl (Vm.Alike.refl U.vm) q.2.2⟩, va_recv hK hP (ci := 4) (q0 := 6) rfl rfl, fun U hU hW => ⟨rfl, ⟨by rw [hU], by rw [hU]; exact hP, va_K.moved hW.alike hK⟩, tk_pass hE hS hU hW.alike⟩⟩ rfl rfl hl.1 rfl (lv_room (Nat.le_of_ble_eq_true rfl)) dX3_readAll_2 ⟨Nat.le_of_ble_eq_true rfl, Nat.le_of_ble_eq_true rfl⟩) hS (fun q _ h9 => aX_up hS q h9) (aX_up hS) (fun r_6 u t H1 locs ht _ hw hB _ hk1 hS => ?_)
  obtain ⟨fv_13, wd_14, ar_15⟩ := u
  obtain ⟨hF_fv_13, hA_ar_15, fr_16, fa_17, wf_18, p_7, p_8, p_9, p_10, p_11, p_12, -⟩ := hw
  have wf_18 : wd_14.2 = wd.2 := wf_18
  have hP : va_P (dC, dI) vwCl (wsX ob ad cA fv_13 wd_14 ar_15) H1 := by have h9 := hB.1; rw [ht] at h9; exact h9
  have fr_16 : fM [14, 16, 17, 19, 20] fv fv_13 := fr_16
  have fa_17 : fA [41, 42, 43] ar ar_15 := fa_17
  have p_12 : eC fv_13 ar_15 := p_12
  have p_8 : ∀ r9 : List Bool, r9.length = 8 → rd_x T9 S9 0 ((fv 14).toInt.toNat) ((fv 17).toInt.toNat) r9 r_6 (fv_13 19) (fv_13 20) (fv_13 14) (fv_13 17) := p_8
  have p_9 : r_6 = 1 → fv_13 19 = fv 19 := p_9
  have p_10 : (fv_13 14).toInt ≤ (c9 : Int) := p_10
  have p_11 : r_6 = 1 → (fv 17).toInt + 1 ≤ (fv_13 17).toInt := p_11
  generalize H1 = H at hP hS ⊢
  refine lv_if_ne (tgt := 10) hx hb dX3_readAll_5 (by decide) (fun c_19 => ?_) (fun c_19 => ?_)
  · skip
    have i_20 : 1 ≤ r_6.toInt ∧ r_6.toInt ≤ 1 := iv_nel p_7 (by decide) c_19
    have k_21 : ¬ r_6.toInt = 0 := fun q => c_19 (Int32.toInt_inj.mp q)
    refine lv_iconst (v := 0) hx hb dX3_readAll_10 (by decide) ?_
    refine lv_istore_n (lv' := [(2, .int 0), (0, .ref (ob 6)), (1, .int wi)]) hx hb dX3_readAll_11 rfl hl (by decide) rfl (fun ls hl => ?_)
    refine my_cut (P := fun R9 a9 Q9 => ∀ (n_34 : Nat) (x_22 : Int32) (fv_23 : Nat → Int32) (ar_25 : Nat → Nat → Int32) (wd_27 : xT) (H : Heap) (locs : List Loc) (ls : Array Slot), 50 - x_22.toInt < (n_34 : Int) → (0 ≤ x_22.toInt ∧ x_22.toInt ≤ 50) → rX fv_23 → fM [14, 16, 17, 19, 20] fv_13 fv_23 → rB ar_25 → fA [41, 42, 43] ar_15 ar_25 → wd_27.2 = wd_14.2 → eC fv_23 ar_25 → (∀ r9 : List Bool, r9.length = 8 → rd_dn r9 = r9 → rd_m T9 0 ((fv 14).toInt.toNat) ((fv 17).toInt.toNat) r9 = rd_m T9 1 ((fv_23 14).toInt.toNat) ((fv_23 17).toInt.toNat) r9) → ((fv_23 14).toInt ≤ (c9 : Int)) → (fv_23 19 = fv 19) → (x_22.toInt + (fv 17).toInt + 1 ≤ (fv_23 17).toInt) → va_P (dC, dI) vwCl (wsX ob ad cA fv_23 wd_27 ar_25) H → va_S (aX ob ad s.heap.size) s.heap H locs → lv_has ls 3 [(0, .ref (ob 6)), (1, .int wi), (2, .int x_22)] → W p l e R9 s m a9 below meth c H locs 0 0 Q9 (F0 m 12 ls [])) ?_ (fun hj_36 => ?_)
    · intro n_34
      induction n_34 with
      | zero => intro x_22 fv_23 ar_25 wd_27 H locs ls fu_35 i_x_22 hF_fv_23 fr_24 hA_ar_25 fa_26 wf_28 hp_29 q_30 q_31 q_32 q_33; exfalso; omega
      | succ n_34 ih_34 =>
        intro x_22 fv_23 ar_25 wd_27 H locs ls fu_35 i_x_22 hF_fv_23 fr_24 hA_ar_25 fa_26 wf_28 hp_29 q_30 q_31 q_32 q_33 hP hS hl
        refine lv_iload_n hx hb dX3_readAll_12 rfl (lv_at hl 2 rfl) ?_
        refine lv_bipush (v := 50) hx hb dX3_readAll_13 (by decide) ?_
        have z_37 : 0 ≤ (fv_23 17).toInt ∧ (fv_23 17).toInt ≤ 50 := hF_fv_23 17
        have z_38 : 0 ≤ (fv_23 14).toInt ∧ (fv_23 14).toInt ≤ 300 := hF_fv_23 14
        have z50 : (50 : Int32).toInt = 50 := by decide
        refine lv_icmp_ge (tgt := 56) hx hb dX3_readAll_15 (by decide) (fun c_39 => ?_) (fun c_39 => ?_)
        · skip
          exact absurd True.intro (by have h9 := Int32.le_iff_toInt_le.mp c_39; exfalso; omega)
        · skip
          have i_40 : 0 ≤ x_22.toInt ∧ x_22.toInt ≤ 49 := iv_lt1 i_x_22 (⟨by decide, by decide⟩ : (50 : Int) ≤ (50 : Int32).toInt ∧ (50 : Int32).toInt ≤ 50) (Int32.not_le.mp c_39)
          refine lv_aload_n hx hb dX3_readAll_18 rfl (lv_at hl 0 rfl) ?_
          have z_41 : (fv_23 13).toInt = (fv 13).toInt := congrArg Int32.toInt ((fr_24 13 rfl).trans ((fr_16 13 rfl)))
          have z_42 : 0 ≤ (fv_23 13).toInt ∧ (fv_23 13).toInt ≤ 301 := hF_fv_23 13
          have z_43 : 0 ≤ (fv_23 14).toInt ∧ (fv_23 14).toInt ≤ 300 := hF_fv_23 14
          refine va_callr (va_runV (As := []) (rest := []) ⟨hx, hb, hml, hown, hts⟩ (x_tokenC l dC dI H.size ob ad cA hd fv_23 wd_27 ar_25 hF_fv_23 hA_ar_25 tA (tO_w hto (wf_28.trans wf_18)) T9 S9 N9 c9 (rd_cx_eq hcx (congrArg (fun z => z.1) (wf_28.trans wf_18)) ((fA_call (fA_call (fA_rf [41, 42, 43] _) fa_17 (by decide)) fa_26 (by decide)) 36 rfl) ((fA_call (fA_call (fA_rf [41, 42, 43] _) fa_17 (by decide)) fa_26 (by decide)) 37 rfl)) (by omega) (by omega) h300 hT32 hfin) (cwV 0 hts (gV kw_4_102 kw_4_104 kw_p_4 kw_1_11 kw_4_105) rfl rfl rfl (by decide +kernel) ⟨Nat.le_of_ble_eq_true rfl, Nat.le_of_ble_eq_true rfl⟩) ⟨fun a U g mk q => ⟨q.1, ⟨q.2.1.1, q.2.1.2.1, va_K.moved (u := U) (U := U.calling g mk a) (Vm.Alike.refl U.vm) q.2.1.2.2⟩, tk_mv (U := U.calling g mk a) rfl (Vm.Alike.refl U.vm) q.2.2⟩, va_recv hK hP (ci := 4) (q0 := 6) rfl rfl, fun U hU hW => ⟨rfl, ⟨by rw [hU], by rw [hU]; exact hP, va_K.moved hW.alike hK⟩, tk_pass hE hS hU hW.alike⟩⟩ rfl rfl hl.1 rfl (lv_room (Nat.le_of_ble_eq_true rfl)) dX3_readAll_19 ⟨Nat.le_of_ble_eq_true rfl, Nat.le_of_ble_eq_true rfl⟩) hS (fun q _ h9 => aX_up hS q h9) (aX_up hS) (fun u r_44 t H1 locs ht _ hw hB _ hk1 hS => ?_)
          obtain ⟨fv_45, wd_46, ar_47⟩ := u
          obtain ⟨hF_fv_45, hA_ar_47, fr_48, fa_49, wf_50, -⟩ := hw
          have wf_50 : wd_46.2 = wd_27.2 := wf_50
          have hP : va_P (dC, dI) vwCl (wsX ob ad cA fv_45 wd_46 ar_47) H1 := by have h9 := hB.1.1; rw [ht] at h9; exact h9
          have fr_48 : fM [] fv_23 fv_45 := fr_48
          have fa_49 : fA [] ar_25 ar_47 := fa_49
          generalize H1 = H at hP hS ⊢
          obtain ⟨j_51, lj_51, rj_51, zj_51⟩ := hB.2
          subst rj_51
          refine va_gets hx hb (hE.1 24 (by decide)).1 hS hown (htg (.fieldLink RX3 206 "WalkingTown$Token" "AND" "LWalkingTown$Token;") kw_4_160) (fun _ h9 => h9) dX3_readAll_22 ?_
          refine lv_acmp_ne (rx := some (tA j_51)) (ry := some (tA 24)) (tgt := 56) hx hb dX3_readAll_25 (by decide) (fun c_52 => ?_) (fun c_52 => ?_)
          · skip
            have k_53 : ¬ j_51 = 24 := fun w => c_52 (by rw [w])
            refine lv_iconst (v := 1) hx hb dX3_readAll_56 (by decide) ?_
            have z_54 : (1 : Int32).toInt = 1 := by decide
            exact W.zret (v := 1) hx hb hr (by decide) (fun t ht hW => ⟨⟨1, (fv_45, wd_46, ar_47), rfl, ⟨hF_fv_45, hA_ar_47, (fM_call (fM_call (fM_call (fM_rf [14, 16, 17, 19, 20] _) fr_16 (by decide)) fr_24 (by decide)) fr_48 (by decide)), (fA_call (fA_call (fA_call (fA_rf [41, 42, 43] _) fa_17 (by decide)) fa_26 (by decide)) fa_49 (by decide)), (wf_50.trans (wf_28.trans wf_18)), (iv_w (⟨by decide, by decide⟩ : (1 : Int) ≤ (1 : Int32).toInt ∧ (1 : Int32).toInt ≤ 1) (by decide) (by decide)), (show ∀ r9 : List Bool, r9.length = 8 → rd_dn r9 = r9 → rd_x T9 S9 0 ((fv 14).toInt.toNat) ((fv 17).toInt.toNat) r9 (1 : Int32) (fv_45 19) (fv_45 20) (fv_45 14) (fv_45 17) from fun r9 hr hd => by have : (fv_45 14).toInt = (fv_23 14).toInt := congrArg Int32.toInt ((fM_call (fM_rf [] _) fr_48 (by decide)) 14 rfl); have : (fv_45 17).toInt = (fv_23 17).toInt := congrArg Int32.toInt ((fM_call (fM_rf [] _) fr_48 (by decide)) 17 rfl); exact rd_xO (by rw [show fv_45 14 = fv_23 14 from ((fM_call (fM_rf [] _) fr_48 (by decide)) 14 rfl), show fv_45 17 = fv_23 17 from ((fM_call (fM_rf [] _) fr_48 (by decide)) 17 rfl)]; exact q_30 r9 hr hd)), (show (1 : Int32) = 1 → fv_45 19 = fv 19 from fun _ => (show fv_45 19 = fv_23 19 from ((fM_call (fM_rf [] _) fr_48 (by decide)) 19 rfl)).trans q_32), (show (fv_45 14).toInt ≤ (c9 : Int) from by have : (fv_45 14).toInt = (fv_23 14).toInt := congrArg Int32.toInt ((fM_call (fM_rf [] _) fr_48 (by decide)) 14 rfl); have hp9 := p_10; omega), (show (1 : Int32) = 1 → (fv 17).toInt + 1 ≤ (fv_45 17).toInt from fun _ => by have : (fv_45 17).toInt = (fv_23 17).toInt := congrArg Int32.toInt ((fM_call (fM_rf [] _) fr_48 (by decide)) 17 rfl); omega), (show (1 : Int32) = 1 → ¬ T9 ((fv_45 14).toInt.toNat) = 24 from fun _ => by have : (fv_45 14).toInt = (fv_23 14).toInt := congrArg Int32.toInt ((fM_call (fM_rf [] _) fr_48 (by decide)) 14 rfl); have hz9 : ¬ T9 ((fv_45 14).toInt.toNat) = 24 := (by rw [show (fv_45 14).toInt.toNat = (fv_23 14).toInt.toNat from (by omega), ← zj_51]; omega); omega), (eC_fr hp_29 (fM_call (fM_rf [] _) fr_48 (by decide)) (fA_call (fA_rf [] _) fa_49 (by decide)) rfl rfl rfl), trivial⟩, ⟨by rw [ht]; exact hP, va_K.moved hW.alike hK⟩⟩, hS.F ht⟩) hS.2.2 dX3_readAll_57
          · skip
            have k_55 : j_51 = 24 := hE.2 j_51 24 lj_51 (by decide) (Option.some.inj c_52)
            refine lv_aload_n hx hb dX3_readAll_28 rfl (lv_at hl 0 rfl) ?_
            have z_56 : (fv_45 13).toInt = (fv 13).toInt := congrArg Int32.toInt ((fr_48 13 rfl).trans ((fr_24 13 rfl).trans ((fr_16 13 rfl))))
            have z_57 : 0 ≤ (fv_45 13).toInt ∧ (fv_45 13).toInt ≤ 301 := hF_fv_45 13
            have z_58 : (fv_45 14).toInt = (fv_23 14).toInt := congrArg Int32.toInt ((fr_48 14 rfl))
            have z_59 : 0 ≤ (fv_45 14).toInt ∧ (fv_45 14).toInt ≤ 300 := hF_fv_45 14
            have z_60 : (fv_45 13).toInt = (fv 13).toInt := congrArg Int32.toInt ((fr_48 13 rfl).trans ((fr_24 13 rfl).trans ((fr_16 13 rfl))))
            have z_61 : 0 ≤ (fv_45 13).toInt ∧ (fv_45 13).toInt ≤ 301 := hF_fv_45 13
            have z_62 : (fv_45 14).toInt = (fv_23 14).toInt := congrArg Int32.toInt ((fr_48 14 rfl))
            have z_63 : 0 ≤ (fv_45 14).toInt ∧ (fv_45 14).toInt ≤ 300 := hF_fv_45 14
            refine va_callv (va_runV (As := []) (rest := []) ⟨hx, hb, hml, hown, hts⟩ (x_stepC l dC dI H.size ob ad cA hd fv_45 wd_46 ar_47 hF_fv_45 hA_ar_47 (by have h9 := rd_lt hfin (p := (fv_23 14).toInt.toNat) (by omega) (by rw [← zj_51]; omega); omega)) (cwV 0 hts (gV kw_4_116 kw_4_118 kw_p_7 kw_1_11 kw_4_119) rfl rfl rfl (by decide +kernel) ⟨Nat.le_of_ble_eq_true rfl, Nat.le_of_ble_eq_true rfl⟩) ⟨fun a U g mk q => ⟨q.1, q.2.1, q.2.2.1, va_K.moved (u := U) (U := U.calling g mk a) (Vm.Alike.refl U.vm) q.2.2.2⟩, va_recv hK hP (ci := 4) (q0 := 6) rfl rfl, fun U hU hW => ⟨rfl, by rw [hU], by rw [hU]; exact hP, va_K.moved hW.alike hK⟩⟩ rfl rfl hl.1 rfl (lv_room (Nat.le_of_ble_eq_true rfl)) dX3_readAll_29 ⟨Nat.le_of_ble_eq_true rfl, Nat.le_of_ble_eq_true rfl⟩) hS (fun q _ h9 => aX_up hS q h9) (aX_up hS) (fun u t H1 locs ht _ hw hB _ hk1 hS => ?_)
            obtain ⟨fv_66, wd_67, ar_68⟩ := u
            obtain ⟨hF_fv_66, hA_ar_68, fr_69, fa_70, wf_71, p_65, -⟩ := hw
            have wf_71 : wd_67.2 = wd_46.2 := wf_71
            have hP : va_P (dC, dI) vwCl (wsX ob ad cA fv_66 wd_67 ar_68) H1 := by have h9 := hB.1; rw [ht] at h9; exact h9
            have fr_69 : fM [14] fv_45 fv_66 := fr_69
            have fa_70 : fA [] ar_47 ar_68 := fa_70
            have p_65 : (fv_66 14).toInt = (fv_45 14).toInt + 1 ∧ (fv_66 14).toInt ≤ (fv_45 13).toInt - 1 := p_65
            generalize H1 = H at hP hS ⊢
            refine lv_aload_n hx hb dX3_readAll_32 rfl (lv_at hl 0 rfl) ?_
            refine lv_iload_n hx hb dX3_readAll_33 rfl (lv_at hl 1 rfl) ?_
            have z_72 : (fv_66 13).toInt = (fv 13).toInt := congrArg Int32.toInt ((fr_69 13 rfl).trans ((fr_48 13 rfl).trans ((fr_24 13 rfl).trans ((fr_16 13 rfl)))))
            have z_73 : 0 ≤ (fv_66 13).toInt ∧ (fv_66 13).toInt ≤ 301 := hF_fv_66 13
            have z_74 : 0 ≤ (fv_66 14).toInt ∧ (fv_66 14).toInt ≤ 300 := hF_fv_66 14
            have z_75 : 0 ≤ (fv_66 14).toInt ∧ (fv_66 14).toInt ≤ 300 := hF_fv_66 14
            have z_76 : (fv_66 17).toInt = (fv_23 17).toInt := congrArg Int32.toInt ((fr_69 17 rfl).trans ((fr_48 17 rfl)))
            have z_77 : 0 ≤ (fv_66 17).toInt ∧ (fv_66 17).toInt ≤ 50 := hF_fv_66 17
            refine va_calli (va_runV (As := [.int wi]) (rest := []) ⟨hx, hb, hml, hown, hts⟩ (x_readOneC_8 l dC dI H.size ob ad cA hd fv_66 wd_67 ar_68 hF_fv_66 hA_ar_68 tA (tO_w hto (wf_71.trans (wf_50.trans (wf_28.trans wf_18)))) T9 S9 N9 c9 wi h_wi (rd_cx_eq hcx (congrArg (fun z => z.1) (wf_71.trans (wf_50.trans (wf_28.trans wf_18)))) ((fA_call (fA_call (fA_call (fA_call (fA_rf [41, 42, 43] _) fa_17 (by decide)) fa_26 (by decide)) fa_49 (by decide)) fa_70 (by decide)) 36 rfl) ((fA_call (fA_call (fA_call (fA_call (fA_rf [41, 42, 43] _) fa_17 (by decide)) fa_26 (by decide)) fa_49 (by decide)) fa_70 (by decide)) 37 rfl)) (by omega) (by omega) h300 hT32 hfin (eC_fr hp_29 (fM_call (fM_call (fM_rf [14] _) fr_48 (by decide)) fr_69 (by decide)) (fA_call (fA_call (fA_rf [] _) fa_49 (by decide)) fa_70 (by decide)) rfl rfl rfl)) (cwV 1 hts (gV kw_4_144 kw_4_146 kw_p_13 kw_1_11 kw_4_147) rfl rfl rfl (by decide +kernel) ⟨Nat.le_of_ble_eq_true rfl, Nat.le_of_ble_eq_true rfl⟩) ⟨fun a U g mk q => ⟨q.1, ⟨q.2.1.1, q.2.1.2.1, va_K.moved (u := U) (U := U.calling g mk a) (Vm.Alike.refl U.vm) q.2.1.2.2⟩, tk_mv (U := U.calling g mk a) rfl (Vm.Alike.refl U.vm) q.2.2⟩, va_recv hK hP (ci := 4) (q0 := 6) rfl rfl, fun U hU hW => ⟨rfl, ⟨by rw [hU], by rw [hU]; exact hP, va_K.moved hW.alike hK⟩, tk_pass hE hS hU hW.alike⟩⟩ rfl rfl hl.1 rfl (lv_room (Nat.le_of_ble_eq_true rfl)) dX3_readAll_34 ⟨Nat.le_of_ble_eq_true rfl, Nat.le_of_ble_eq_true rfl⟩) hS (fun q _ h9 => aX_up hS q h9) (aX_up hS) (fun r_78 u t H1 locs ht _ hw hB _ hk1 hS => ?_)
            obtain ⟨fv_85, wd_86, ar_87⟩ := u
            obtain ⟨hF_fv_85, hA_ar_87, fr_88, fa_89, wf_90, p_79, p_80, p_81, p_82, p_83, p_84, -⟩ := hw
            have wf_90 : wd_86.2 = wd_67.2 := wf_90
            have hP : va_P (dC, dI) vwCl (wsX ob ad cA fv_85 wd_86 ar_87) H1 := by have h9 := hB.1; rw [ht] at h9; exact h9
            have fr_88 : fM [14, 16, 17, 19, 20] fv_66 fv_85 := fr_88
            have fa_89 : fA [41, 42, 43] ar_68 ar_87 := fa_89
            have p_84 : eC fv_85 ar_87 := p_84
            have p_80 : ∀ r9 : List Bool, r9.length = 8 → rd_x T9 S9 0 ((fv_66 14).toInt.toNat) ((fv_66 17).toInt.toNat) r9 r_78 (fv_85 19) (fv_85 20) (fv_85 14) (fv_85 17) := p_80
            have p_81 : r_78 = 1 → fv_85 19 = fv_66 19 := p_81
            have p_82 : (fv_85 14).toInt ≤ (c9 : Int) := p_82
            have p_83 : r_78 = 1 → (fv_66 17).toInt + 1 ≤ (fv_85 17).toInt := p_83
            generalize H1 = H at hP hS ⊢
            refine lv_if_ne (tgt := 42) hx hb dX3_readAll_37 (by decide) (fun c_91 => ?_) (fun c_91 => ?_)
            · skip
              have i_92 : 1 ≤ r_78.toInt ∧ r_78.toInt ≤ 1 := iv_nel p_79 (by decide) c_91
              have k_93 : ¬ r_78.toInt = 0 := fun q => c_91 (Int32.toInt_inj.mp q)
              refine lv_aload_n hx hb dX3_readAll_42 rfl (lv_at hl 0 rfl) ?_
              refine lv_iconst (v := 4) hx hb dX3_readAll_43 (by decide) ?_
              refine lv_iconst (v := 0) hx hb dX3_readAll_44 (by decide) ?_
              refine lv_iconst (v := 0) hx hb dX3_readAll_45 (by decide) ?_
              refine va_calli (va_runV (As := [.int 4, .int 0, .int 0]) (rest := []) ⟨hx, hb, hml, hown, hts⟩ (x_addCode l dC dI H.size ob ad cA hd fv_85 wd_86 ar_87 hF_fv_85 hA_ar_87 4 0 0 (iv_w (⟨by decide, by decide⟩ : (0 : Int) ≤ (0 : Int32).toInt ∧ (0 : Int32).toInt ≤ 0) (by decide) (by decide)) p_84) (cwV 3 hts (gV kw_4_150 kw_4_152 kw_p_14 kw_1_11 kw_4_153) rfl rfl rfl (by decide +kernel) ⟨Nat.le_of_ble_eq_true rfl, Nat.le_of_ble_eq_true rfl⟩) ⟨fun a U g mk q => ⟨q.1, q.2.1, q.2.2.1, va_K.moved (u := U) (U := U.calling g mk a) (Vm.Alike.refl U.vm) q.2.2.2⟩, va_recv hK hP (ci := 4) (q0 := 6) rfl rfl, fun U hU hW => ⟨rfl, by rw [hU], by rw [hU]; exact hP, va_K.moved hW.alike hK⟩⟩ rfl rfl hl.1 rfl (lv_room (Nat.le_of_ble_eq_true rfl)) dX3_readAll_46 ⟨Nat.le_of_ble_eq_true rfl, Nat.le_of_ble_eq_true rfl⟩) hS (fun q _ h9 => aX_up hS q h9) (aX_up hS) (fun r_94 u t H1 locs ht _ hw hB _ hk1 hS => ?_)
              obtain ⟨fv_98, wd_99, ar_100⟩ := u
              obtain ⟨hF_fv_98, hA_ar_100, fr_101, fa_102, wf_103, p_95, p_96, p_97, -⟩ := hw
              have wf_103 : wd_99.2 = wd_86.2 := wf_103
              have hP : va_P (dC, dI) vwCl (wsX ob ad cA fv_98 wd_99 ar_100) H1 := by have h9 := hB.1; rw [ht] at h9; exact h9
              have fr_101 : fM [16] fv_85 fv_98 := fr_101
              have fa_102 : fA [41, 42, 43] ar_87 ar_100 := fa_102
              have p_97 : eC fv_98 ar_100 := p_97
              generalize H1 = H at hP hS ⊢
              rcases p_96 with ⟨rfl, p_96⟩
              · skip
                refine lv_pop hx hb dX3_readAll_49 rfl ?_
                obtain ⟨v_104, ev_104⟩ : ∃ z : Int32, z = x_22 + 1 := ⟨_, rfl⟩
                refine lv_iinc (v := v_104) (lv' := [(2, .int v_104), (0, .ref (ob 6)), (1, .int wi)]) hx hb dX3_readAll_50 hl (k := 2) rfl (by rw [ev_104]; rfl) (by decide) rfl (fun ls hl => ?_)
                have t_105 : v_104.toInt = x_22.toInt + 1 ∧ 1 ≤ v_104.toInt ∧ v_104.toInt ≤ 50 := iv_addc ev_104 i_40 (by decide) (by decide) (by decide)
                refine lv_goto (tgt := 12) hx hb dX3_readAll_53 (by decide) ?_
                have z_110 : (fv_98 17).toInt = (fv_85 17).toInt := congrArg Int32.toInt ((fr_101 17 rfl))
                have z_111 : 0 ≤ (fv_98 17).toInt ∧ (fv_98 17).toInt ≤ 50 := hF_fv_98 17
                have z_112 : (fv_98 14).toInt = (fv_85 14).toInt := congrArg Int32.toInt ((fr_101 14 rfl))
                have z_113 : 0 ≤ (fv_98 14).toInt ∧ (fv_98 14).toInt ≤ 300 := hF_fv_98 14
                exact ih_34 v_104 fv_98 ar_100 wd_99 _ _ ls (by omega) (iv_w t_105.2 (by decide) (by decide)) hF_fv_98 (fM_call (fM_call (fM_call (fM_call (fM_call (fM_rf [14, 16, 17, 19, 20] _) fr_24 (by decide)) fr_48 (by decide)) fr_69 (by decide)) fr_88 (by decide)) fr_101 (by decide)) hA_ar_100 (fA_call (fA_call (fA_call (fA_call (fA_call (fA_rf [41, 42, 43] _) fa_26 (by decide)) fa_49 (by decide)) fa_70 (by decide)) fa_89 (by decide)) fa_102 (by decide)) (wf_103.trans (wf_90.trans (wf_71.trans (wf_50.trans wf_28)))) p_97 (fun r9 hr hd => by have : (fv_45 14).toInt = (fv_23 14).toInt := congrArg Int32.toInt ((fM_call (fM_rf [] _) fr_48 (by decide)) 14 rfl); have : (fv_98 14).toInt = (fv_85 14).toInt := congrArg Int32.toInt ((fM_call (fM_rf [16] _) fr_101 (by decide)) 14 rfl); have : (fv_45 17).toInt = (fv_23 17).toInt := congrArg Int32.toInt ((fM_call (fM_rf [] _) fr_48 (by decide)) 17 rfl); have : (fv_66 17).toInt = (fv_45 17).toInt := congrArg Int32.toInt ((fM_call (fM_rf [14] _) fr_69 (by decide)) 17 rfl); have : (fv_98 17).toInt = (fv_85 17).toInt := congrArg Int32.toInt ((fM_call (fM_rf [16] _) fr_101 (by decide)) 17 rfl); rcases p_80 r9 hr with ⟨a, b, q, o2, c, d⟩ | ⟨a, b⟩; exact absurd (congrArg Int32.toInt a) (by rw [show (0 : Int32).toInt = 0 from (by decide)]; omega); rw [show fv_98 14 = fv_85 14 from ((fM_call (fM_rf [16] _) fr_101 (by decide)) 14 rfl), show fv_98 17 = fv_85 17 from ((fM_call (fM_rf [16] _) fr_101 (by decide)) 17 rfl)]; rw [q_30 r9 hr hd, show (fv_23 14).toInt.toNat = (fv_23 14).toInt.toNat from (by omega), rd_m1_join (by omega) (Or.inl (by rw [← zj_51]; omega)) hd, show (fv_23 14).toInt.toNat + 1 = (fv_66 14).toInt.toNat from (by omega), show (fv_23 17).toInt.toNat = (fv_66 17).toInt.toNat from (by omega)]; exact b) (by have : (fv_45 14).toInt = (fv_23 14).toInt := congrArg Int32.toInt ((fM_call (fM_rf [] _) fr_48 (by decide)) 14 rfl); have : (fv_98 14).toInt = (fv_85 14).toInt := congrArg Int32.toInt ((fM_call (fM_rf [16] _) fr_101 (by decide)) 14 rfl); have : (fv_45 17).toInt = (fv_23 17).toInt := congrArg Int32.toInt ((fM_call (fM_rf [] _) fr_48 (by decide)) 17 rfl); have : (fv_66 17).toInt = (fv_45 17).toInt := congrArg Int32.toInt ((fM_call (fM_rf [14] _) fr_69 (by decide)) 17 rfl); have : (fv_98 17).toInt = (fv_85 17).toInt := congrArg Int32.toInt ((fM_call (fM_rf [16] _) fr_101 (by decide)) 17 rfl); have hp9 := p_82; omega) ((show fv_98 19 = fv_85 19 from ((fM_call (fM_rf [16] _) fr_101 (by decide)) 19 rfl)).trans ((p_81 (Int32.toInt_inj.mp (by rw [show (1 : Int32).toInt = 1 from (by decide)]; omega))).trans (show fv_66 19 = fv 19 from (show fv_66 19 = fv_23 19 from ((fM_call (fM_call (fM_rf [14] _) fr_48 (by decide)) fr_69 (by decide)) 19 rfl)).trans q_32))) (by have : (fv_45 14).toInt = (fv_23 14).toInt := congrArg Int32.toInt ((fM_call (fM_rf [] _) fr_48 (by decide)) 14 rfl); have : (fv_98 14).toInt = (fv_85 14).toInt := congrArg Int32.toInt ((fM_call (fM_rf [16] _) fr_101 (by decide)) 14 rfl); have : (fv_45 17).toInt = (fv_23 17).toInt := congrArg Int32.toInt ((fM_call (fM_rf [] _) fr_48 (by decide)) 17 rfl); have : (fv_66 17).toInt = (fv_45 17).toInt := congrArg Int32.toInt ((fM_call (fM_rf [14] _) fr_69 (by decide)) 17 rfl); have : (fv_98 17).toInt = (fv_85 17).toInt := congrArg Int32.toInt ((fM_call (fM_rf [16] _) fr_101 (by decide)) 17 rfl); have hi9 := p_83 (Int32.toInt_inj.mp (by rw [show (1 : Int32).toInt = 1 from (by decide)]; omega)); omega) hP hS (lv_sub hl [1, 2, 0] rfl)
            · skip
              have i_107 : 0 ≤ r_78.toInt ∧ r_78.toInt ≤ 0 := iv_eq1 (⟨by decide, by decide⟩ : (0 : Int) ≤ (0 : Int32).toInt ∧ (0 : Int32).toInt ≤ 0) c_91
              refine lv_iconst (v := 0) hx hb dX3_readAll_40 (by decide) ?_
              have z_109 : (0 : Int32).toInt = 0 := by decide
              exact W.zret (v := 0) hx hb hr (by decide) (fun t ht hW => ⟨⟨0, (fv_85, wd_86, ar_87), rfl, ⟨hF_fv_85, hA_ar_87, (fM_call (fM_call (fM_call (fM_call (fM_call (fM_rf [14, 16, 17, 19, 20] _) fr_16 (by decide)) fr_24 (by decide)) fr_48 (by decide)) fr_69 (by decide)) fr_88 (by decide)), (fA_call (fA_call (fA_call (fA_call (fA_call (fA_rf [41, 42, 43] _) fa_17 (by decide)) fa_26 (by decide)) fa_49 (by decide)) fa_70 (by decide)) fa_89 (by decide)), (wf_90.trans (wf_71.trans (wf_50.trans (wf_28.trans wf_18)))), (iv_w (⟨by decide, by decide⟩ : (0 : Int) ≤ (0 : Int32).toInt ∧ (0 : Int32).toInt ≤ 0) (by decide) (by decide)), (show ∀ r9 : List Bool, r9.length = 8 → rd_dn r9 = r9 → rd_x T9 S9 0 ((fv 14).toInt.toNat) ((fv 17).toInt.toNat) r9 (0 : Int32) (fv_85 19) (fv_85 20) (fv_85 14) (fv_85 17) from fun r9 hr hd => by have : (fv_45 14).toInt = (fv_23 14).toInt := congrArg Int32.toInt ((fM_call (fM_rf [] _) fr_48 (by decide)) 14 rfl); have : (fv_45 17).toInt = (fv_23 17).toInt := congrArg Int32.toInt ((fM_call (fM_rf [] _) fr_48 (by decide)) 17 rfl); have : (fv_66 17).toInt = (fv_45 17).toInt := congrArg Int32.toInt ((fM_call (fM_rf [14] _) fr_69 (by decide)) 17 rfl); rcases p_80 r9 hr with ⟨a, b, q, o2, c, d⟩ | ⟨a, b⟩; exact Or.inl ⟨rfl, b, q, o2, (by rw [q_30 r9 hr hd, show (fv_23 14).toInt.toNat = (fv_23 14).toInt.toNat from (by omega), rd_m1_join (by omega) (Or.inl (by rw [← zj_51]; omega)) hd, show (fv_23 14).toInt.toNat + 1 = (fv_66 14).toInt.toNat from (by omega), show (fv_23 17).toInt.toNat = (fv_66 17).toInt.toNat from (by omega)]; exact c), d⟩; exact absurd (congrArg Int32.toInt a) (by rw [show (1 : Int32).toInt = 1 from (by decide)]; omega)), (show (0 : Int32) = 1 → fv_85 19 = fv 19 from fun w => absurd w (by decide)), (show (fv_85 14).toInt ≤ (c9 : Int) from by have : (fv_45 14).toInt = (fv_23 14).toInt := congrArg Int32.toInt ((fM_call (fM_rf [] _) fr_48 (by decide)) 14 rfl); have hp9 := p_82; omega), (show (0 : Int32) = 1 → (fv 17).toInt + 1 ≤ (fv_85 17).toInt from fun w => absurd w (by decide)), (show (0 : Int32) = 1 → ¬ T9 ((fv_85 14).toInt.toNat) = 24 from fun w => absurd w (by decide)), p_84, trivial⟩, ⟨by rw [ht]; exact hP, va_K.moved hW.alike hK⟩⟩, hS.F ht⟩) hS.2.2 dX3_readAll_41
    · skip
      have z_114 : (0 : Int32).toInt = 0 := by decide
      have z_115 : 0 ≤ (fv_13 17).toInt ∧ (fv_13 17).toInt ≤ 50 := hF_fv_13 17
      have z_116 : 0 ≤ (fv_13 14).toInt ∧ (fv_13 14).toInt ≤ 300 := hF_fv_13 14
      exact hj_36 51 0 fv_13 ar_15 wd_14 _ _ ls (by first | decide | omega) (iv_w (⟨by decide, by decide⟩ : (0 : Int) ≤ (0 : Int32).toInt ∧ (0 : Int32).toInt ≤ 0) (by decide) (by decide)) hF_fv_13 (fM_rf [14, 16, 17, 19, 20] _) hA_ar_15 (fA_rf [41, 42, 43] _) rfl p_12 (fun r9 hr hd => by rcases p_8 r9 hr with ⟨a, b, q, o2, c, d⟩ | ⟨a, b⟩; exact absurd (congrArg Int32.toInt a) (by rw [show (0 : Int32).toInt = 0 from (by decide)]; omega); exact b) (by have hp9 := p_10; omega) ((show fv_13 19 = fv_13 19 from rfl).trans ((p_9 (Int32.toInt_inj.mp (by rw [show (1 : Int32).toInt = 1 from (by decide)]; omega))).trans rfl)) (by have hi9 := p_11 (Int32.toInt_inj.mp (by rw [show (1 : Int32).toInt = 1 from (by decide)]; omega)); omega) hP hS (lv_sub hl [1, 2, 0] rfl)
  · skip
    have i_117 : 0 ≤ r_6.toInt ∧ r_6.toInt ≤ 0 := iv_eq1 (⟨by decide, by decide⟩ : (0 : Int) ≤ (0 : Int32).toInt ∧ (0 : Int32).toInt ≤ 0) c_19
    refine lv_iconst (v := 0) hx hb dX3_readAll_8 (by decide) ?_
    have z_119 : (0 : Int32).toInt = 0 := by decide
    exact W.zret (v := 0) hx hb hr (by decide) (fun t ht hW => ⟨⟨0, (fv_13, wd_14, ar_15), rfl, ⟨hF_fv_13, hA_ar_15, (fM_call (fM_rf [14, 16, 17, 19, 20] _) fr_16 (by decide)), (fA_call (fA_rf [41, 42, 43] _) fa_17 (by decide)), wf_18, (iv_w (⟨by decide, by decide⟩ : (0 : Int) ≤ (0 : Int32).toInt ∧ (0 : Int32).toInt ≤ 0) (by decide) (by decide)), (show ∀ r9 : List Bool, r9.length = 8 → rd_dn r9 = r9 → rd_x T9 S9 0 ((fv 14).toInt.toNat) ((fv 17).toInt.toNat) r9 (0 : Int32) (fv_13 19) (fv_13 20) (fv_13 14) (fv_13 17) from fun r9 hr hd => by rcases p_8 r9 hr with ⟨a, b, q, o2, c, d⟩ | ⟨a, b⟩; exact Or.inl ⟨rfl, b, q, o2, c, d⟩; exact absurd (congrArg Int32.toInt a) (by rw [show (1 : Int32).toInt = 1 from (by decide)]; omega)), (show (0 : Int32) = 1 → fv_13 19 = fv 19 from fun w => absurd w (by decide)), (show (fv_13 14).toInt ≤ (c9 : Int) from by have hp9 := p_10; omega), (show (0 : Int32) = 1 → (fv 17).toInt + 1 ≤ (fv_13 17).toInt from fun w => absurd w (by decide)), (show (0 : Int32) = 1 → ¬ T9 ((fv_13 14).toInt.toNat) = 24 from fun w => absurd w (by decide)), p_12, trivial⟩, ⟨by rw [ht]; exact hP, va_K.moved hW.alike hK⟩⟩, hS.F ht⟩) hS.2.2 dX3_readAll_9
set_option maxHeartbeats 4000000 in
set_option maxRecDepth 100000 in
theorem x_readCondC_8 (l : Launch) (dC : Nat → ClassId) (dI : Nat → Nat → Nat) (sz : Nat) (ob ad : Nat → Nat) (cA : Nat → ClassId) (hd : dX ob ad) (fv : Nat → Int32) (wd : xT) (ar : Nat → Nat → Int32) (hF_fv : rX fv) (hA_ar : rB ar) (tA : Nat → Nat) (hto : tO tA wd.2.1) (T9 : Nat → Nat) (S9 : Nat → Nat) (N9 : Nat → Int) (c9 : Nat) (wi : Int32) (h_wi : 8 ≤ wi.toInt ∧ wi.toInt ≤ 8) (hcx : rd_cx tA T9 S9 N9 c9 wd.2.1 (ar 36) (ar 37)) (htc : (fv 13).toInt = (c9 : Int) + 1) (hpl : (fv 14).toInt ≤ (c9 : Int)) (h300 : c9 ≤ 300) (hT32 : ∀ k, T9 k < 32) (hfin : T9 c9 = 30 ∨ T9 c9 = 31) (hp_eC : eC fv ar) : Met l yX3_readCond (.code yX3_readCond cX3_readCond 3 (some .boolean) :: lw_good) ({ frames := 11, cells := 0, slots := 0, locals := 243 }) (va_Pc [.ref (ob 6), .int wi] (fun U => prX dC dI ob ad cA fv wd ar sz U ∧ tkA ob ad tA sz U)) (va_Qi (fun (r : Int32) (u : xS) => rX u.1 ∧ rB u.2.2 ∧ fM [14, 16, 17, 19, 20] fv u.1 ∧ fA [41, 42, 43] ar u.2.2 ∧ u.2.1.2 = wd.2 ∧ (0 ≤ r.toInt ∧ r.toInt ≤ 1) ∧ (∀ r9 : List Bool, r9.length = 8 → rd_dn r9 = r9 → rd_x T9 S9 0 ((fv 14).toInt.toNat) ((fv 17).toInt.toNat) r9 r (u.1 19) (u.1 20) (u.1 14) (u.1 17)) ∧ (r = 1 → u.1 19 = fv 19) ∧ ((u.1 14).toInt ≤ (c9 : Int)) ∧ (r = 1 → (fv 17).toInt + 1 ≤ (u.1 17).toInt) ∧ (r = 1 → ¬ (T9 ((u.1 14).toInt.toNat) = 24 ∨ T9 ((u.1 14).toInt.toNat) = 25)) ∧ (eC u.1 u.2.2) ∧ True) (enX dC dI ob ad cA) (aX ob ad sz)) 0 0 (aX ob ad sz) := by
  refine Met.ofW (cc := cX3_readCond) (maxL := 3) (ret := (some .boolean)) (by decide) rfl ?_
  intro p e s m args below meth c s₁ B hml hv
  obtain ⟨rfl, ⟨hsz, hP, hK⟩, hE⟩ := hv
  have hx := B.exec
  have hb := B.bytes
  have hr := B.returns
  have hts := atoms_spec (ws := (.code yX3_readCond cX3_readCond 3 (some .boolean) :: lw_good)) B.pre
  have htg : ∀ w ∈ lw_good, w.before _ s = true := fun w hw => hts w (List.mem_cons_of_mem _ hw)
  have hown : s.vm.findClass RX3 = some m.cls := findClass_of_methodNamed B.named
  have hlocks := B.notSynchronized
  subst hsz
  have hS : va_S (aX ob ad s.heap.size) s.heap s.heap [] := va_S.rf
  have hl := lv_entry ([.ref (ob 6), .int wi]) (n := 3) (Nat.le_of_ble_eq_true rfl)
  rw [lg_entry_eq]
  generalize (lg_sl ([.ref (ob 6), .int wi]) ++ List.replicate (3 - (lg_sl ([.ref (ob 6), .int wi])).length) Slot.unset).toArray = ls at hl ⊢
  have hl : lv_has ls 3 [(0, .ref (ob 6)), (1, .int wi)] := hl
  have i_1 : 0 ≤ (fv 14).toInt ∧ (fv 14).toInt ≤ 300 := (by have h9 := hF_fv 14; have h8 : 0 ≤ (fv 14).toInt := h9.1; omega)
  refine lv_aload_n hx hb dX3_readCond_0 rfl (lv_at hl 0 rfl) ?_
  refine lv_iload_n hx hb dX3_readCond_1 rfl (lv_at hl 1 rfl) ?_
  have z_2 : 0 ≤ (fv 13).toInt ∧ (fv 13).toInt ≤ 301 := hF_fv 13
  have z_3 : 0 ≤ (fv 14).toInt ∧ (fv 14).toInt ≤ 300 := hF_fv 14
  have z_4 : 0 ≤ (fv 14).toInt ∧ (fv 14).toInt ≤ 300 := hF_fv 14
  have z_5 : 0 ≤ (fv 17).toInt ∧ (fv 17).toInt ≤ 50 := hF_fv 17
  refine va_calli (va_runV (As := [.int wi]) (rest := []) ⟨hx, hb, hml, hown, hts⟩ (x_readAllC_8 l dC dI s.heap.size ob ad cA hd fv wd ar hF_fv hA_ar tA hto T9 S9 N9 c9 wi h_wi hcx (by omega) (by omega) h300 hT32 hfin hp_eC) (cwV 1 hts (gV kw_4_140 kw_4_142 kw_p_12 kw_1_11 kw_4_143) rfl rfl rfl (by decide +kernel) ⟨Nat.le_of_ble_eq_true rfl, Nat.le_of_ble_eq_true rfl⟩) ⟨fun a U g mk q => ⟨q.1, ⟨q.2.1.1, q.2.1.2.1, va_K.moved (u := U) (U := U.calling g mk a) (Vm.Alike.refl U.vm) q.2.1.2.2⟩, tk_mv (U := U.calling g mk a) rfl (Vm.Alike.refl U.vm) q.2.2⟩, va_recv hK hP (ci := 4) (q0 := 6) rfl rfl, fun U hU hW => ⟨rfl, ⟨by rw [hU], by rw [hU]; exact hP, va_K.moved hW.alike hK⟩, tk_pass hE hS hU hW.alike⟩⟩ rfl rfl hl.1 rfl (lv_room (Nat.le_of_ble_eq_true rfl)) dX3_readCond_2 ⟨Nat.le_of_ble_eq_true rfl, Nat.le_of_ble_eq_true rfl⟩) hS (fun q _ h9 => aX_up hS q h9) (aX_up hS) (fun r_6 u t H1 locs ht _ hw hB _ hk1 hS => ?_)
  obtain ⟨fv_14, wd_15, ar_16⟩ := u
  obtain ⟨hF_fv_14, hA_ar_16, fr_17, fa_18, wf_19, p_7, p_8, p_9, p_10, p_11, p_12, p_13, -⟩ := hw
  have wf_19 : wd_15.2 = wd.2 := wf_19
  have hP : va_P (dC, dI) vwCl (wsX ob ad cA fv_14 wd_15 ar_16) H1 := by have h9 := hB.1; rw [ht] at h9; exact h9
  have fr_17 : fM [14, 16, 17, 19, 20] fv fv_14 := fr_17
  have fa_18 : fA [41, 42, 43] ar ar_16 := fa_18
  have p_13 : eC fv_14 ar_16 := p_13
  have p_8 : ∀ r9 : List Bool, r9.length = 8 → rd_dn r9 = r9 → rd_x T9 S9 0 ((fv 14).toInt.toNat) ((fv 17).toInt.toNat) r9 r_6 (fv_14 19) (fv_14 20) (fv_14 14) (fv_14 17) := p_8
  have p_9 : r_6 = 1 → fv_14 19 = fv 19 := p_9
  have p_10 : (fv_14 14).toInt ≤ (c9 : Int) := p_10
  have p_11 : r_6 = 1 → (fv 17).toInt + 1 ≤ (fv_14 17).toInt := p_11
  have p_12 : r_6 = 1 → ¬ T9 ((fv_14 14).toInt.toNat) = 24 := p_12
  generalize H1 = H at hP hS ⊢
  refine lv_if_ne (tgt := 10) hx hb dX3_readCond_5 (by decide) (fun c_20 => ?_) (fun c_20 => ?_)
  · skip
    have i_21 : 1 ≤ r_6.toInt ∧ r_6.toInt ≤ 1 := iv_nel p_7 (by decide) c_20
    have k_22 : ¬ r_6.toInt = 0 := fun q => c_20 (Int32.toInt_inj.mp q)
    refine lv_iconst (v := 0) hx hb dX3_readCond_10 (by decide) ?_
    refine lv_istore_n (lv' := [(2, .int 0), (0, .ref (ob 6)), (1, .int wi)]) hx hb dX3_readCond_11 rfl hl (by decide) rfl (fun ls hl => ?_)
    refine my_cut (P := fun R9 a9 Q9 => ∀ (n_36 : Nat) (x_23 : Int32) (fv_24 : Nat → Int32) (ar_26 : Nat → Nat → Int32) (wd_28 : xT) (H : Heap) (locs : List Loc) (ls : Array Slot), 50 - x_23.toInt < (n_36 : Int) → (0 ≤ x_23.toInt ∧ x_23.toInt ≤ 50) → rX fv_24 → fM [14, 16, 17, 19, 20] fv_14 fv_24 → rB ar_26 → fA [41, 42, 43] ar_16 ar_26 → wd_28.2 = wd_15.2 → eC fv_24 ar_26 → (∀ r9 : List Bool, r9.length = 8 → rd_dn r9 = r9 → rd_m T9 0 ((fv 14).toInt.toNat) ((fv 17).toInt.toNat) r9 = rd_m T9 1 ((fv_24 14).toInt.toNat) ((fv_24 17).toInt.toNat) r9) → ((fv_24 14).toInt ≤ (c9 : Int)) → (fv_24 19 = fv 19) → (x_23.toInt + (fv 17).toInt + 1 ≤ (fv_24 17).toInt) → (¬ T9 ((fv_24 14).toInt.toNat) = 24) → va_P (dC, dI) vwCl (wsX ob ad cA fv_24 wd_28 ar_26) H → va_S (aX ob ad s.heap.size) s.heap H locs → lv_has ls 3 [(0, .ref (ob 6)), (1, .int wi), (2, .int x_23)] → W p l e R9 s m a9 below meth c H locs 0 0 Q9 (F0 m 12 ls [])) ?_ (fun hj_38 => ?_)
    · intro n_36
      induction n_36 with
      | zero => intro x_23 fv_24 ar_26 wd_28 H locs ls fu_37 i_x_23 hF_fv_24 fr_25 hA_ar_26 fa_27 wf_29 hp_30 q_31 q_32 q_33 q_34 q_35; exfalso; omega
      | succ n_36 ih_36 =>
        intro x_23 fv_24 ar_26 wd_28 H locs ls fu_37 i_x_23 hF_fv_24 fr_25 hA_ar_26 fa_27 wf_29 hp_30 q_31 q_32 q_33 q_34 q_35 hP hS hl
        refine lv_iload_n hx hb dX3_readCond_12 rfl (lv_at hl 2 rfl) ?_
        refine lv_bipush (v := 50) hx hb dX3_readCond_13 (by decide) ?_
        have z_39 : 0 ≤ (fv_24 17).toInt ∧ (fv_24 17).toInt ≤ 50 := hF_fv_24 17
        have z_40 : 0 ≤ (fv_24 14).toInt ∧ (fv_24 14).toInt ≤ 300 := hF_fv_24 14
        have z50 : (50 : Int32).toInt = 50 := by decide
        refine lv_icmp_ge (tgt := 56) hx hb dX3_readCond_15 (by decide) (fun c_41 => ?_) (fun c_41 => ?_)
        · skip
          exact absurd True.intro (by have h9 := Int32.le_iff_toInt_le.mp c_41; exfalso; omega)
        · skip
          have i_42 : 0 ≤ x_23.toInt ∧ x_23.toInt ≤ 49 := iv_lt1 i_x_23 (⟨by decide, by decide⟩ : (50 : Int) ≤ (50 : Int32).toInt ∧ (50 : Int32).toInt ≤ 50) (Int32.not_le.mp c_41)
          refine lv_aload_n hx hb dX3_readCond_18 rfl (lv_at hl 0 rfl) ?_
          have z_43 : (fv_24 13).toInt = (fv 13).toInt := congrArg Int32.toInt ((fr_25 13 rfl).trans ((fr_17 13 rfl)))
          have z_44 : 0 ≤ (fv_24 13).toInt ∧ (fv_24 13).toInt ≤ 301 := hF_fv_24 13
          have z_45 : 0 ≤ (fv_24 14).toInt ∧ (fv_24 14).toInt ≤ 300 := hF_fv_24 14
          refine va_callr (va_runV (As := []) (rest := []) ⟨hx, hb, hml, hown, hts⟩ (x_tokenC l dC dI H.size ob ad cA hd fv_24 wd_28 ar_26 hF_fv_24 hA_ar_26 tA (tO_w hto (wf_29.trans wf_19)) T9 S9 N9 c9 (rd_cx_eq hcx (congrArg (fun z => z.1) (wf_29.trans wf_19)) ((fA_call (fA_call (fA_rf [41, 42, 43] _) fa_18 (by decide)) fa_27 (by decide)) 36 rfl) ((fA_call (fA_call (fA_rf [41, 42, 43] _) fa_18 (by decide)) fa_27 (by decide)) 37 rfl)) (by omega) (by omega) h300 hT32 hfin) (cwV 0 hts (gV kw_4_102 kw_4_104 kw_p_4 kw_1_11 kw_4_105) rfl rfl rfl (by decide +kernel) ⟨Nat.le_of_ble_eq_true rfl, Nat.le_of_ble_eq_true rfl⟩) ⟨fun a U g mk q => ⟨q.1, ⟨q.2.1.1, q.2.1.2.1, va_K.moved (u := U) (U := U.calling g mk a) (Vm.Alike.refl U.vm) q.2.1.2.2⟩, tk_mv (U := U.calling g mk a) rfl (Vm.Alike.refl U.vm) q.2.2⟩, va_recv hK hP (ci := 4) (q0 := 6) rfl rfl, fun U hU hW => ⟨rfl, ⟨by rw [hU], by rw [hU]; exact hP, va_K.moved hW.alike hK⟩, tk_pass hE hS hU hW.alike⟩⟩ rfl rfl hl.1 rfl (lv_room (Nat.le_of_ble_eq_true rfl)) dX3_readCond_19 ⟨Nat.le_of_ble_eq_true rfl, Nat.le_of_ble_eq_true rfl⟩) hS (fun q _ h9 => aX_up hS q h9) (aX_up hS) (fun u r_46 t H1 locs ht _ hw hB _ hk1 hS => ?_)
          obtain ⟨fv_47, wd_48, ar_49⟩ := u
          obtain ⟨hF_fv_47, hA_ar_49, fr_50, fa_51, wf_52, -⟩ := hw
          have wf_52 : wd_48.2 = wd_28.2 := wf_52
          have hP : va_P (dC, dI) vwCl (wsX ob ad cA fv_47 wd_48 ar_49) H1 := by have h9 := hB.1.1; rw [ht] at h9; exact h9
          have fr_50 : fM [] fv_24 fv_47 := fr_50
          have fa_51 : fA [] ar_26 ar_49 := fa_51
          generalize H1 = H at hP hS ⊢
          obtain ⟨j_53, lj_53, rj_53, zj_53⟩ := hB.2
          subst rj_53
          refine va_gets hx hb (hE.1 25 (by decide)).1 hS hown (htg (.fieldLink RX3 196 "WalkingTown$Token" "OR" "LWalkingTown$Token;") kw_4_162) (fun _ h9 => h9) dX3_readCond_22 ?_
          refine lv_acmp_ne (rx := some (tA j_53)) (ry := some (tA 25)) (tgt := 56) hx hb dX3_readCond_25 (by decide) (fun c_54 => ?_) (fun c_54 => ?_)
          · skip
            have k_55 : ¬ j_53 = 25 := fun w => c_54 (by rw [w])
            refine lv_iconst (v := 1) hx hb dX3_readCond_56 (by decide) ?_
            have z_56 : (1 : Int32).toInt = 1 := by decide
            exact W.zret (v := 1) hx hb hr (by decide) (fun t ht hW => ⟨⟨1, (fv_47, wd_48, ar_49), rfl, ⟨hF_fv_47, hA_ar_49, (fM_call (fM_call (fM_call (fM_rf [14, 16, 17, 19, 20] _) fr_17 (by decide)) fr_25 (by decide)) fr_50 (by decide)), (fA_call (fA_call (fA_call (fA_rf [41, 42, 43] _) fa_18 (by decide)) fa_27 (by decide)) fa_51 (by decide)), (wf_52.trans (wf_29.trans wf_19)), (iv_w (⟨by decide, by decide⟩ : (1 : Int) ≤ (1 : Int32).toInt ∧ (1 : Int32).toInt ≤ 1) (by decide) (by decide)), (show ∀ r9 : List Bool, r9.length = 8 → rd_dn r9 = r9 → rd_x T9 S9 0 ((fv 14).toInt.toNat) ((fv 17).toInt.toNat) r9 (1 : Int32) (fv_47 19) (fv_47 20) (fv_47 14) (fv_47 17) from fun r9 hr hd => by have : (fv_47 14).toInt = (fv_24 14).toInt := congrArg Int32.toInt ((fM_call (fM_rf [] _) fr_50 (by decide)) 14 rfl); have : (fv_47 17).toInt = (fv_24 17).toInt := congrArg Int32.toInt ((fM_call (fM_rf [] _) fr_50 (by decide)) 17 rfl); exact rd_xO (by rw [show fv_47 14 = fv_24 14 from ((fM_call (fM_rf [] _) fr_50 (by decide)) 14 rfl), show fv_47 17 = fv_24 17 from ((fM_call (fM_rf [] _) fr_50 (by decide)) 17 rfl)]; exact q_31 r9 hr hd)), (show (1 : Int32) = 1 → fv_47 19 = fv 19 from fun _ => (show fv_47 19 = fv_24 19 from ((fM_call (fM_rf [] _) fr_50 (by decide)) 19 rfl)).trans q_33), (show (fv_47 14).toInt ≤ (c9 : Int) from by have : (fv_47 14).toInt = (fv_24 14).toInt := congrArg Int32.toInt ((fM_call (fM_rf [] _) fr_50 (by decide)) 14 rfl); have hp9 := p_10; omega), (show (1 : Int32) = 1 → (fv 17).toInt + 1 ≤ (fv_47 17).toInt from fun _ => by have : (fv_47 17).toInt = (fv_24 17).toInt := congrArg Int32.toInt ((fM_call (fM_rf [] _) fr_50 (by decide)) 17 rfl); omega), (show (1 : Int32) = 1 → ¬ (T9 ((fv_47 14).toInt.toNat) = 24 ∨ T9 ((fv_47 14).toInt.toNat) = 25) from fun _ => by have : (fv_47 14).toInt = (fv_24 14).toInt := congrArg Int32.toInt ((fM_call (fM_rf [] _) fr_50 (by decide)) 14 rfl); have hq9 : ¬ T9 ((fv_47 14).toInt.toNat) = 24 := (by rw [show (fv_47 14).toInt.toNat = (fv_24 14).toInt.toNat from (by omega)]; exact q_35); have hz9 : ¬ T9 ((fv_47 14).toInt.toNat) = 25 := (by rw [show (fv_47 14).toInt.toNat = (fv_24 14).toInt.toNat from (by omega), ← zj_53]; omega); omega), (eC_fr hp_30 (fM_call (fM_rf [] _) fr_50 (by decide)) (fA_call (fA_rf [] _) fa_51 (by decide)) rfl rfl rfl), trivial⟩, ⟨by rw [ht]; exact hP, va_K.moved hW.alike hK⟩⟩, hS.F ht⟩) hS.2.2 dX3_readCond_57
          · skip
            have k_57 : j_53 = 25 := hE.2 j_53 25 lj_53 (by decide) (Option.some.inj c_54)
            refine lv_aload_n hx hb dX3_readCond_28 rfl (lv_at hl 0 rfl) ?_
            have z_58 : (fv_47 13).toInt = (fv 13).toInt := congrArg Int32.toInt ((fr_50 13 rfl).trans ((fr_25 13 rfl).trans ((fr_17 13 rfl))))
            have z_59 : 0 ≤ (fv_47 13).toInt ∧ (fv_47 13).toInt ≤ 301 := hF_fv_47 13
            have z_60 : (fv_47 14).toInt = (fv_24 14).toInt := congrArg Int32.toInt ((fr_50 14 rfl))
            have z_61 : 0 ≤ (fv_47 14).toInt ∧ (fv_47 14).toInt ≤ 300 := hF_fv_47 14
            have z_62 : (fv_47 13).toInt = (fv 13).toInt := congrArg Int32.toInt ((fr_50 13 rfl).trans ((fr_25 13 rfl).trans ((fr_17 13 rfl))))
            have z_63 : 0 ≤ (fv_47 13).toInt ∧ (fv_47 13).toInt ≤ 301 := hF_fv_47 13
            have z_64 : (fv_47 14).toInt = (fv_24 14).toInt := congrArg Int32.toInt ((fr_50 14 rfl))
            have z_65 : 0 ≤ (fv_47 14).toInt ∧ (fv_47 14).toInt ≤ 300 := hF_fv_47 14
            refine va_callv (va_runV (As := []) (rest := []) ⟨hx, hb, hml, hown, hts⟩ (x_stepC l dC dI H.size ob ad cA hd fv_47 wd_48 ar_49 hF_fv_47 hA_ar_49 (by have h9 := rd_lt hfin (p := (fv_24 14).toInt.toNat) (by omega) (by rw [← zj_53]; omega); omega)) (cwV 0 hts (gV kw_4_116 kw_4_118 kw_p_7 kw_1_11 kw_4_119) rfl rfl rfl (by decide +kernel) ⟨Nat.le_of_ble_eq_true rfl, Nat.le_of_ble_eq_true rfl⟩) ⟨fun a U g mk q => ⟨q.1, q.2.1, q.2.2.1, va_K.moved (u := U) (U := U.calling g mk a) (Vm.Alike.refl U.vm) q.2.2.2⟩, va_recv hK hP (ci := 4) (q0 := 6) rfl rfl, fun U hU hW => ⟨rfl, by rw [hU], by rw [hU]; exact hP, va_K.moved hW.alike hK⟩⟩ rfl rfl hl.1 rfl (lv_room (Nat.le_of_ble_eq_true rfl)) dX3_readCond_29 ⟨Nat.le_of_ble_eq_true rfl, Nat.le_of_ble_eq_true rfl⟩) hS (fun q _ h9 => aX_up hS q h9) (aX_up hS) (fun u t H1 locs ht _ hw hB _ hk1 hS => ?_)
            obtain ⟨fv_68, wd_69, ar_70⟩ := u
            obtain ⟨hF_fv_68, hA_ar_70, fr_71, fa_72, wf_73, p_67, -⟩ := hw
            have wf_73 : wd_69.2 = wd_48.2 := wf_73
            have hP : va_P (dC, dI) vwCl (wsX ob ad cA fv_68 wd_69 ar_70) H1 := by have h9 := hB.1; rw [ht] at h9; exact h9
            have fr_71 : fM [14] fv_47 fv_68 := fr_71
            have fa_72 : fA [] ar_49 ar_70 := fa_72
            have p_67 : (fv_68 14).toInt = (fv_47 14).toInt + 1 ∧ (fv_68 14).toInt ≤ (fv_47 13).toInt - 1 := p_67
            generalize H1 = H at hP hS ⊢
            refine lv_aload_n hx hb dX3_readCond_32 rfl (lv_at hl 0 rfl) ?_
            refine lv_iload_n hx hb dX3_readCond_33 rfl (lv_at hl 1 rfl) ?_
            have z_74 : (fv_68 13).toInt = (fv 13).toInt := congrArg Int32.toInt ((fr_71 13 rfl).trans ((fr_50 13 rfl).trans ((fr_25 13 rfl).trans ((fr_17 13 rfl)))))
            have z_75 : 0 ≤ (fv_68 13).toInt ∧ (fv_68 13).toInt ≤ 301 := hF_fv_68 13
            have z_76 : 0 ≤ (fv_68 14).toInt ∧ (fv_68 14).toInt ≤ 300 := hF_fv_68 14
            have z_77 : 0 ≤ (fv_68 14).toInt ∧ (fv_68 14).toInt ≤ 300 := hF_fv_68 14
            have z_78 : (fv_68 17).toInt = (fv_24 17).toInt := congrArg Int32.toInt ((fr_71 17 rfl).trans ((fr_50 17 rfl)))
            have z_79 : 0 ≤ (fv_68 17).toInt ∧ (fv_68 17).toInt ≤ 50 := hF_fv_68 17
            refine va_calli (va_runV (As := [.int wi]) (rest := []) ⟨hx, hb, hml, hown, hts⟩ (x_readAllC_8 l dC dI H.size ob ad cA hd fv_68 wd_69 ar_70 hF_fv_68 hA_ar_70 tA (tO_w hto (wf_73.trans (wf_52.trans (wf_29.trans wf_19)))) T9 S9 N9 c9 wi h_wi (rd_cx_eq hcx (congrArg (fun z => z.1) (wf_73.trans (wf_52.trans (wf_29.trans wf_19)))) ((fA_call (fA_call (fA_call (fA_call (fA_rf [41, 42, 43] _) fa_18 (by decide)) fa_27 (by decide)) fa_51 (by decide)) fa_72 (by decide)) 36 rfl) ((fA_call (fA_call (fA_call (fA_call (fA_rf [41, 42, 43] _) fa_18 (by decide)) fa_27 (by decide)) fa_51 (by decide)) fa_72 (by decide)) 37 rfl)) (by omega) (by omega) h300 hT32 hfin (eC_fr hp_30 (fM_call (fM_call (fM_rf [14] _) fr_50 (by decide)) fr_71 (by decide)) (fA_call (fA_call (fA_rf [] _) fa_51 (by decide)) fa_72 (by decide)) rfl rfl rfl)) (cwV 1 hts (gV kw_4_140 kw_4_142 kw_p_12 kw_1_11 kw_4_143) rfl rfl rfl (by decide +kernel) ⟨Nat.le_of_ble_eq_true rfl, Nat.le_of_ble_eq_true rfl⟩) ⟨fun a U g mk q => ⟨q.1, ⟨q.2.1.1, q.2.1.2.1, va_K.moved (u := U) (U := U.calling g mk a) (Vm.Alike.refl U.vm) q.2.1.2.2⟩, tk_mv (U := U.calling g mk a) rfl (Vm.Alike.refl U.vm) q.2.2⟩, va_recv hK hP (ci := 4) (q0 := 6) rfl rfl, fun U hU hW => ⟨rfl, ⟨by rw [hU], by rw [hU]; exact hP, va_K.moved hW.alike hK⟩, tk_pass hE hS hU hW.alike⟩⟩ rfl rfl hl.1 rfl (lv_room (Nat.le_of_ble_eq_true rfl)) dX3_readCond_34 ⟨Nat.le_of_ble_eq_true rfl, Nat.le_of_ble_eq_true rfl⟩) hS (fun q _ h9 => aX_up hS q h9) (aX_up hS) (fun r_80 u t H1 locs ht _ hw hB _ hk1 hS => ?_)
            obtain ⟨fv_88, wd_89, ar_90⟩ := u
            obtain ⟨hF_fv_88, hA_ar_90, fr_91, fa_92, wf_93, p_81, p_82, p_83, p_84, p_85, p_86, p_87, -⟩ := hw
            have wf_93 : wd_89.2 = wd_69.2 := wf_93
            have hP : va_P (dC, dI) vwCl (wsX ob ad cA fv_88 wd_89 ar_90) H1 := by have h9 := hB.1; rw [ht] at h9; exact h9
            have fr_91 : fM [14, 16, 17, 19, 20] fv_68 fv_88 := fr_91
            have fa_92 : fA [41, 42, 43] ar_70 ar_90 := fa_92
            have p_87 : eC fv_88 ar_90 := p_87
            have p_82 : ∀ r9 : List Bool, r9.length = 8 → rd_dn r9 = r9 → rd_x T9 S9 0 ((fv_68 14).toInt.toNat) ((fv_68 17).toInt.toNat) r9 r_80 (fv_88 19) (fv_88 20) (fv_88 14) (fv_88 17) := p_82
            have p_83 : r_80 = 1 → fv_88 19 = fv_68 19 := p_83
            have p_84 : (fv_88 14).toInt ≤ (c9 : Int) := p_84
            have p_85 : r_80 = 1 → (fv_68 17).toInt + 1 ≤ (fv_88 17).toInt := p_85
            have p_86 : r_80 = 1 → ¬ T9 ((fv_88 14).toInt.toNat) = 24 := p_86
            generalize H1 = H at hP hS ⊢
            refine lv_if_ne (tgt := 42) hx hb dX3_readCond_37 (by decide) (fun c_94 => ?_) (fun c_94 => ?_)
            · skip
              have i_95 : 1 ≤ r_80.toInt ∧ r_80.toInt ≤ 1 := iv_nel p_81 (by decide) c_94
              have k_96 : ¬ r_80.toInt = 0 := fun q => c_94 (Int32.toInt_inj.mp q)
              refine lv_aload_n hx hb dX3_readCond_42 rfl (lv_at hl 0 rfl) ?_
              refine lv_iconst (v := 5) hx hb dX3_readCond_43 (by decide) ?_
              refine lv_iconst (v := 0) hx hb dX3_readCond_44 (by decide) ?_
              refine lv_iconst (v := 0) hx hb dX3_readCond_45 (by decide) ?_
              refine va_calli (va_runV (As := [.int 5, .int 0, .int 0]) (rest := []) ⟨hx, hb, hml, hown, hts⟩ (x_addCode l dC dI H.size ob ad cA hd fv_88 wd_89 ar_90 hF_fv_88 hA_ar_90 5 0 0 (iv_w (⟨by decide, by decide⟩ : (0 : Int) ≤ (0 : Int32).toInt ∧ (0 : Int32).toInt ≤ 0) (by decide) (by decide)) p_87) (cwV 3 hts (gV kw_4_150 kw_4_152 kw_p_14 kw_1_11 kw_4_153) rfl rfl rfl (by decide +kernel) ⟨Nat.le_of_ble_eq_true rfl, Nat.le_of_ble_eq_true rfl⟩) ⟨fun a U g mk q => ⟨q.1, q.2.1, q.2.2.1, va_K.moved (u := U) (U := U.calling g mk a) (Vm.Alike.refl U.vm) q.2.2.2⟩, va_recv hK hP (ci := 4) (q0 := 6) rfl rfl, fun U hU hW => ⟨rfl, by rw [hU], by rw [hU]; exact hP, va_K.moved hW.alike hK⟩⟩ rfl rfl hl.1 rfl (lv_room (Nat.le_of_ble_eq_true rfl)) dX3_readCond_46 ⟨Nat.le_of_ble_eq_true rfl, Nat.le_of_ble_eq_true rfl⟩) hS (fun q _ h9 => aX_up hS q h9) (aX_up hS) (fun r_97 u t H1 locs ht _ hw hB _ hk1 hS => ?_)
              obtain ⟨fv_101, wd_102, ar_103⟩ := u
              obtain ⟨hF_fv_101, hA_ar_103, fr_104, fa_105, wf_106, p_98, p_99, p_100, -⟩ := hw
              have wf_106 : wd_102.2 = wd_89.2 := wf_106
              have hP : va_P (dC, dI) vwCl (wsX ob ad cA fv_101 wd_102 ar_103) H1 := by have h9 := hB.1; rw [ht] at h9; exact h9
              have fr_104 : fM [16] fv_88 fv_101 := fr_104
              have fa_105 : fA [41, 42, 43] ar_90 ar_103 := fa_105
              have p_100 : eC fv_101 ar_103 := p_100
              generalize H1 = H at hP hS ⊢
              rcases p_99 with ⟨rfl, p_99⟩
              · skip
                refine lv_pop hx hb dX3_readCond_49 rfl ?_
                obtain ⟨v_107, ev_107⟩ : ∃ z : Int32, z = x_23 + 1 := ⟨_, rfl⟩
                refine lv_iinc (v := v_107) (lv' := [(2, .int v_107), (0, .ref (ob 6)), (1, .int wi)]) hx hb dX3_readCond_50 hl (k := 2) rfl (by rw [ev_107]; rfl) (by decide) rfl (fun ls hl => ?_)
                have t_108 : v_107.toInt = x_23.toInt + 1 ∧ 1 ≤ v_107.toInt ∧ v_107.toInt ≤ 50 := iv_addc ev_107 i_42 (by decide) (by decide) (by decide)
                refine lv_goto (tgt := 12) hx hb dX3_readCond_53 (by decide) ?_
                have z_113 : (fv_101 17).toInt = (fv_88 17).toInt := congrArg Int32.toInt ((fr_104 17 rfl))
                have z_114 : 0 ≤ (fv_101 17).toInt ∧ (fv_101 17).toInt ≤ 50 := hF_fv_101 17
                have z_115 : (fv_101 14).toInt = (fv_88 14).toInt := congrArg Int32.toInt ((fr_104 14 rfl))
                have z_116 : 0 ≤ (fv_101 14).toInt ∧ (fv_101 14).toInt ≤ 300 := hF_fv_101 14
                exact ih_36 v_107 fv_101 ar_103 wd_102 _ _ ls (by omega) (iv_w t_108.2 (by decide) (by decide)) hF_fv_101 (fM_call (fM_call (fM_call (fM_call (fM_call (fM_rf [14, 16, 17, 19, 20] _) fr_25 (by decide)) fr_50 (by decide)) fr_71 (by decide)) fr_91 (by decide)) fr_104 (by decide)) hA_ar_103 (fA_call (fA_call (fA_call (fA_call (fA_call (fA_rf [41, 42, 43] _) fa_27 (by decide)) fa_51 (by decide)) fa_72 (by decide)) fa_92 (by decide)) fa_105 (by decide)) (wf_106.trans (wf_93.trans (wf_73.trans (wf_52.trans wf_29)))) p_100 (fun r9 hr hd => by have : (fv_47 14).toInt = (fv_24 14).toInt := congrArg Int32.toInt ((fM_call (fM_rf [] _) fr_50 (by decide)) 14 rfl); have : (fv_101 14).toInt = (fv_88 14).toInt := congrArg Int32.toInt ((fM_call (fM_rf [16] _) fr_104 (by decide)) 14 rfl); have : (fv_47 17).toInt = (fv_24 17).toInt := congrArg Int32.toInt ((fM_call (fM_rf [] _) fr_50 (by decide)) 17 rfl); have : (fv_68 17).toInt = (fv_47 17).toInt := congrArg Int32.toInt ((fM_call (fM_rf [14] _) fr_71 (by decide)) 17 rfl); have : (fv_101 17).toInt = (fv_88 17).toInt := congrArg Int32.toInt ((fM_call (fM_rf [16] _) fr_104 (by decide)) 17 rfl); rcases p_82 r9 hr hd with ⟨a, b, q, o2, c, d⟩ | ⟨a, b⟩; exact absurd (congrArg Int32.toInt a) (by rw [show (0 : Int32).toInt = 0 from (by decide)]; omega); rw [show fv_101 14 = fv_88 14 from ((fM_call (fM_rf [16] _) fr_104 (by decide)) 14 rfl), show fv_101 17 = fv_88 17 from ((fM_call (fM_rf [16] _) fr_104 (by decide)) 17 rfl)]; rw [q_31 r9 hr hd, show (fv_24 14).toInt.toNat = (fv_24 14).toInt.toNat from (by omega), rd_m1_join (by omega) (Or.inr (by rw [← zj_53]; omega)) hd, show (fv_24 14).toInt.toNat + 1 = (fv_68 14).toInt.toNat from (by omega), show (fv_24 17).toInt.toNat = (fv_68 17).toInt.toNat from (by omega)]; exact b) (by have : (fv_47 14).toInt = (fv_24 14).toInt := congrArg Int32.toInt ((fM_call (fM_rf [] _) fr_50 (by decide)) 14 rfl); have : (fv_101 14).toInt = (fv_88 14).toInt := congrArg Int32.toInt ((fM_call (fM_rf [16] _) fr_104 (by decide)) 14 rfl); have : (fv_47 17).toInt = (fv_24 17).toInt := congrArg Int32.toInt ((fM_call (fM_rf [] _) fr_50 (by decide)) 17 rfl); have : (fv_68 17).toInt = (fv_47 17).toInt := congrArg Int32.toInt ((fM_call (fM_rf [14] _) fr_71 (by decide)) 17 rfl); have : (fv_101 17).toInt = (fv_88 17).toInt := congrArg Int32.toInt ((fM_call (fM_rf [16] _) fr_104 (by decide)) 17 rfl); have hp9 := p_84; omega) ((show fv_101 19 = fv_88 19 from ((fM_call (fM_rf [16] _) fr_104 (by decide)) 19 rfl)).trans ((p_83 (Int32.toInt_inj.mp (by rw [show (1 : Int32).toInt = 1 from (by decide)]; omega))).trans (show fv_68 19 = fv 19 from (show fv_68 19 = fv_24 19 from ((fM_call (fM_call (fM_rf [14] _) fr_50 (by decide)) fr_71 (by decide)) 19 rfl)).trans q_33))) (by have : (fv_47 14).toInt = (fv_24 14).toInt := congrArg Int32.toInt ((fM_call (fM_rf [] _) fr_50 (by decide)) 14 rfl); have : (fv_101 14).toInt = (fv_88 14).toInt := congrArg Int32.toInt ((fM_call (fM_rf [16] _) fr_104 (by decide)) 14 rfl); have : (fv_47 17).toInt = (fv_24 17).toInt := congrArg Int32.toInt ((fM_call (fM_rf [] _) fr_50 (by decide)) 17 rfl); have : (fv_68 17).toInt = (fv_47 17).toInt := congrArg Int32.toInt ((fM_call (fM_rf [14] _) fr_71 (by decide)) 17 rfl); have : (fv_101 17).toInt = (fv_88 17).toInt := congrArg Int32.toInt ((fM_call (fM_rf [16] _) fr_104 (by decide)) 17 rfl); have hi9 := p_85 (Int32.toInt_inj.mp (by rw [show (1 : Int32).toInt = 1 from (by decide)]; omega)); omega) (by have : (fv_47 14).toInt = (fv_24 14).toInt := congrArg Int32.toInt ((fM_call (fM_rf [] _) fr_50 (by decide)) 14 rfl); have : (fv_101 14).toInt = (fv_88 14).toInt := congrArg Int32.toInt ((fM_call (fM_rf [16] _) fr_104 (by decide)) 14 rfl); have : (fv_47 17).toInt = (fv_24 17).toInt := congrArg Int32.toInt ((fM_call (fM_rf [] _) fr_50 (by decide)) 17 rfl); have : (fv_68 17).toInt = (fv_47 17).toInt := congrArg Int32.toInt ((fM_call (fM_rf [14] _) fr_71 (by decide)) 17 rfl); have : (fv_101 17).toInt = (fv_88 17).toInt := congrArg Int32.toInt ((fM_call (fM_rf [16] _) fr_104 (by decide)) 17 rfl); rw [show (fv_101 14).toInt.toNat = (fv_88 14).toInt.toNat from (by omega)]; exact p_86 (Int32.toInt_inj.mp (by rw [show (1 : Int32).toInt = 1 from (by decide)]; omega))) hP hS (lv_sub hl [1, 2, 0] rfl)
            · skip
              have i_110 : 0 ≤ r_80.toInt ∧ r_80.toInt ≤ 0 := iv_eq1 (⟨by decide, by decide⟩ : (0 : Int) ≤ (0 : Int32).toInt ∧ (0 : Int32).toInt ≤ 0) c_94
              refine lv_iconst (v := 0) hx hb dX3_readCond_40 (by decide) ?_
              have z_112 : (0 : Int32).toInt = 0 := by decide
              exact W.zret (v := 0) hx hb hr (by decide) (fun t ht hW => ⟨⟨0, (fv_88, wd_89, ar_90), rfl, ⟨hF_fv_88, hA_ar_90, (fM_call (fM_call (fM_call (fM_call (fM_call (fM_rf [14, 16, 17, 19, 20] _) fr_17 (by decide)) fr_25 (by decide)) fr_50 (by decide)) fr_71 (by decide)) fr_91 (by decide)), (fA_call (fA_call (fA_call (fA_call (fA_call (fA_rf [41, 42, 43] _) fa_18 (by decide)) fa_27 (by decide)) fa_51 (by decide)) fa_72 (by decide)) fa_92 (by decide)), (wf_93.trans (wf_73.trans (wf_52.trans (wf_29.trans wf_19)))), (iv_w (⟨by decide, by decide⟩ : (0 : Int) ≤ (0 : Int32).toInt ∧ (0 : Int32).toInt ≤ 0) (by decide) (by decide)), (show ∀ r9 : List Bool, r9.length = 8 → rd_dn r9 = r9 → rd_x T9 S9 0 ((fv 14).toInt.toNat) ((fv 17).toInt.toNat) r9 (0 : Int32) (fv_88 19) (fv_88 20) (fv_88 14) (fv_88 17) from fun r9 hr hd => by have : (fv_47 14).toInt = (fv_24 14).toInt := congrArg Int32.toInt ((fM_call (fM_rf [] _) fr_50 (by decide)) 14 rfl); have : (fv_47 17).toInt = (fv_24 17).toInt := congrArg Int32.toInt ((fM_call (fM_rf [] _) fr_50 (by decide)) 17 rfl); have : (fv_68 17).toInt = (fv_47 17).toInt := congrArg Int32.toInt ((fM_call (fM_rf [14] _) fr_71 (by decide)) 17 rfl); rcases p_82 r9 hr hd with ⟨a, b, q, o2, c, d⟩ | ⟨a, b⟩; exact Or.inl ⟨rfl, b, q, o2, (by rw [q_31 r9 hr hd, show (fv_24 14).toInt.toNat = (fv_24 14).toInt.toNat from (by omega), rd_m1_join (by omega) (Or.inr (by rw [← zj_53]; omega)) hd, show (fv_24 14).toInt.toNat + 1 = (fv_68 14).toInt.toNat from (by omega), show (fv_24 17).toInt.toNat = (fv_68 17).toInt.toNat from (by omega)]; exact c), d⟩; exact absurd (congrArg Int32.toInt a) (by rw [show (1 : Int32).toInt = 1 from (by decide)]; omega)), (show (0 : Int32) = 1 → fv_88 19 = fv 19 from fun w => absurd w (by decide)), (show (fv_88 14).toInt ≤ (c9 : Int) from by have : (fv_47 14).toInt = (fv_24 14).toInt := congrArg Int32.toInt ((fM_call (fM_rf [] _) fr_50 (by decide)) 14 rfl); have hp9 := p_84; omega), (show (0 : Int32) = 1 → (fv 17).toInt + 1 ≤ (fv_88 17).toInt from fun w => absurd w (by decide)), (show (0 : Int32) = 1 → ¬ (T9 ((fv_88 14).toInt.toNat) = 24 ∨ T9 ((fv_88 14).toInt.toNat) = 25) from fun w => absurd w (by decide)), p_87, trivial⟩, ⟨by rw [ht]; exact hP, va_K.moved hW.alike hK⟩⟩, hS.F ht⟩) hS.2.2 dX3_readCond_41
    · skip
      have z_117 : (0 : Int32).toInt = 0 := by decide
      have z_118 : 0 ≤ (fv_14 17).toInt ∧ (fv_14 17).toInt ≤ 50 := hF_fv_14 17
      have z_119 : 0 ≤ (fv_14 14).toInt ∧ (fv_14 14).toInt ≤ 300 := hF_fv_14 14
      exact hj_38 51 0 fv_14 ar_16 wd_15 _ _ ls (by first | decide | omega) (iv_w (⟨by decide, by decide⟩ : (0 : Int) ≤ (0 : Int32).toInt ∧ (0 : Int32).toInt ≤ 0) (by decide) (by decide)) hF_fv_14 (fM_rf [14, 16, 17, 19, 20] _) hA_ar_16 (fA_rf [41, 42, 43] _) rfl p_13 (fun r9 hr hd => by rcases p_8 r9 hr hd with ⟨a, b, q, o2, c, d⟩ | ⟨a, b⟩; exact absurd (congrArg Int32.toInt a) (by rw [show (0 : Int32).toInt = 0 from (by decide)]; omega); exact b) (by have hp9 := p_10; omega) ((show fv_14 19 = fv_14 19 from rfl).trans ((p_9 (Int32.toInt_inj.mp (by rw [show (1 : Int32).toInt = 1 from (by decide)]; omega))).trans rfl)) (by have hi9 := p_11 (Int32.toInt_inj.mp (by rw [show (1 : Int32).toInt = 1 from (by decide)]; omega)); omega) (by rw [show (fv_14 14).toInt.toNat = (fv_14 14).toInt.toNat from (by omega)]; exact p_12 (Int32.toInt_inj.mp (by rw [show (1 : Int32).toInt = 1 from (by decide)]; omega))) hP hS (lv_sub hl [1, 2, 0] rfl)
  · skip
    have i_120 : 0 ≤ r_6.toInt ∧ r_6.toInt ≤ 0 := iv_eq1 (⟨by decide, by decide⟩ : (0 : Int) ≤ (0 : Int32).toInt ∧ (0 : Int32).toInt ≤ 0) c_20
    refine lv_iconst (v := 0) hx hb dX3_readCond_8 (by decide) ?_
    have z_122 : (0 : Int32).toInt = 0 := by decide
    exact W.zret (v := 0) hx hb hr (by decide) (fun t ht hW => ⟨⟨0, (fv_14, wd_15, ar_16), rfl, ⟨hF_fv_14, hA_ar_16, (fM_call (fM_rf [14, 16, 17, 19, 20] _) fr_17 (by decide)), (fA_call (fA_rf [41, 42, 43] _) fa_18 (by decide)), wf_19, (iv_w (⟨by decide, by decide⟩ : (0 : Int) ≤ (0 : Int32).toInt ∧ (0 : Int32).toInt ≤ 0) (by decide) (by decide)), (show ∀ r9 : List Bool, r9.length = 8 → rd_dn r9 = r9 → rd_x T9 S9 0 ((fv 14).toInt.toNat) ((fv 17).toInt.toNat) r9 (0 : Int32) (fv_14 19) (fv_14 20) (fv_14 14) (fv_14 17) from fun r9 hr hd => by rcases p_8 r9 hr hd with ⟨a, b, q, o2, c, d⟩ | ⟨a, b⟩; exact Or.inl ⟨rfl, b, q, o2, c, d⟩; exact absurd (congrArg Int32.toInt a) (by rw [show (1 : Int32).toInt = 1 from (by decide)]; omega)), (show (0 : Int32) = 1 → fv_14 19 = fv 19 from fun w => absurd w (by decide)), (show (fv_14 14).toInt ≤ (c9 : Int) from by have hp9 := p_10; omega), (show (0 : Int32) = 1 → (fv 17).toInt + 1 ≤ (fv_14 17).toInt from fun w => absurd w (by decide)), (show (0 : Int32) = 1 → ¬ (T9 ((fv_14 14).toInt.toNat) = 24 ∨ T9 ((fv_14 14).toInt.toNat) = 25) from fun w => absurd w (by decide)), p_13, trivial⟩, ⟨by rw [ht]; exact hP, va_K.moved hW.alike hK⟩⟩, hS.F ht⟩) hS.2.2 dX3_readCond_9

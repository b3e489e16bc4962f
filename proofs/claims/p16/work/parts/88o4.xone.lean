set_option maxHeartbeats 4000000 in
set_option maxRecDepth 100000 in
theorem x_readOneC_3 (l : Launch) (dC : Nat → ClassId) (dI : Nat → Nat → Nat) (sz : Nat) (ob ad : Nat → Nat) (cA : Nat → ClassId) (hd : dX ob ad) (fv : Nat → Int32) (wd : xT) (ar : Nat → Nat → Int32) (hF_fv : rX fv) (hA_ar : rB ar) (tA : Nat → Nat) (hto : tO tA wd.2.1) (T9 : Nat → Nat) (S9 : Nat → Nat) (N9 : Nat → Int) (c9 : Nat) (wi : Int32) (h_wi : 3 ≤ wi.toInt ∧ wi.toInt ≤ 3) (hcx : rd_cx tA T9 S9 N9 c9 wd.2.1 (ar 36) (ar 37)) (htc : (fv 13).toInt = (c9 : Int) + 1) (hpl : (fv 14).toInt ≤ (c9 : Int)) (h300 : c9 ≤ 300) (hT32 : ∀ k, T9 k < 32) (hfin : T9 c9 = 30 ∨ T9 c9 = 31) (hp_eC : eC fv ar) : Met l yX3_readOne (.code yX3_readOne cX3_readOne 5 (some .boolean) :: lw_good) ({ frames := 24, cells := 0, slots := 0, locals := 537 }) (va_Pc [.ref (ob 6), .int wi] (fun U => prX dC dI ob ad cA fv wd ar sz U ∧ tkA ob ad tA sz U)) (va_Qi (fun (r : Int32) (u : xS) => rX u.1 ∧ rB u.2.2 ∧ fM [14, 16, 17, 19, 20] fv u.1 ∧ fA [41, 42, 43] ar u.2.2 ∧ u.2.1.2 = wd.2 ∧ (0 ≤ r.toInt ∧ r.toInt ≤ 1) ∧ (∀ r9 : List Bool, r9.length = 3 → rd_x T9 S9 0 ((fv 14).toInt.toNat) ((fv 17).toInt.toNat) r9 r (u.1 19) (u.1 20) (u.1 14) (u.1 17)) ∧ (r = 1 → u.1 19 = fv 19) ∧ ((u.1 14).toInt ≤ (c9 : Int)) ∧ (r = 1 → (fv 17).toInt + 1 ≤ (u.1 17).toInt) ∧ (eC u.1 u.2.2) ∧ True) (enX dC dI ob ad cA) (aX ob ad sz)) 0 0 (aX ob ad sz) := by
  refine Met.ofW (cc := cX3_readOne) (maxL := 5) (ret := (some .boolean)) (by decide) rfl ?_
  intro p e s m args below meth c s₁ B hml hv
  obtain ⟨rfl, ⟨hsz, hP, hK⟩, hE⟩ := hv
  have hx := B.exec
  have hb := B.bytes
  have hr := B.returns
  have hts := atoms_spec (ws := (.code yX3_readOne cX3_readOne 5 (some .boolean) :: lw_good)) B.pre
  have htg : ∀ w ∈ lw_good, w.before _ s = true := fun w hw => hts w (List.mem_cons_of_mem _ hw)
  have hown : s.vm.findClass RX3 = some m.cls := findClass_of_methodNamed B.named
  have hlocks := B.notSynchronized
  subst hsz
  have hS : va_S (aX ob ad s.heap.size) s.heap s.heap [] := va_S.rf
  have hl := lv_entry ([.ref (ob 6), .int wi]) (n := 5) (Nat.le_of_ble_eq_true rfl)
  rw [lg_entry_eq]
  generalize (lg_sl ([.ref (ob 6), .int wi]) ++ List.replicate (5 - (lg_sl ([.ref (ob 6), .int wi])).length) Slot.unset).toArray = ls at hl ⊢
  have hl : lv_has ls 5 [(0, .ref (ob 6)), (1, .int wi)] := hl
  have i_1 : 0 ≤ (fv 14).toInt ∧ (fv 14).toInt ≤ 300 := (by have h9 := hF_fv 14; have h8 : 0 ≤ (fv 14).toInt := h9.1; omega)
  refine lv_aload_n hx hb dX3_readOne_0 rfl (lv_at hl 0 rfl) ?_
  have z_2 : 0 ≤ (fv 13).toInt ∧ (fv 13).toInt ≤ 301 := hF_fv 13
  have z_3 : 0 ≤ (fv 14).toInt ∧ (fv 14).toInt ≤ 300 := hF_fv 14
  refine va_callr (va_runV (As := []) (rest := []) ⟨hx, hb, hml, hown, hts⟩ (x_tokenC l dC dI s.heap.size ob ad cA hd fv wd ar hF_fv hA_ar tA hto T9 S9 N9 c9 hcx (by omega) (by omega) h300 hT32 hfin) (cwV 0 hts (gV kw_4_102 kw_4_104 kw_p_4 kw_1_11 kw_4_105) rfl rfl rfl (by decide +kernel) ⟨Nat.le_of_ble_eq_true rfl, Nat.le_of_ble_eq_true rfl⟩) ⟨fun a U g mk q => ⟨q.1, ⟨q.2.1.1, q.2.1.2.1, va_K.moved (u := U) (U := U.calling g mk a) (Vm.Alike.refl U.vm) q.2.1.2.2⟩, tk_mv (U := U.calling g mk a) rfl (Vm.Alike.refl U.vm) q.2.2⟩, va_recv hK hP (ci := 4) (q0 := 6) rfl rfl, fun U hU hW => ⟨rfl, ⟨by rw [hU], by rw [hU]; exact hP, va_K.moved hW.alike hK⟩, tk_pass hE hS hU hW.alike⟩⟩ rfl rfl hl.1 rfl (lv_room (Nat.le_of_ble_eq_true rfl)) dX3_readOne_1 ⟨Nat.le_of_ble_eq_true rfl, Nat.le_of_ble_eq_true rfl⟩) hS (fun q _ h9 => aX_up hS q h9) (aX_up hS) (fun u r_4 t H1 locs ht _ hw hB _ hk1 hS => ?_)
  obtain ⟨fv_5, wd_6, ar_7⟩ := u
  obtain ⟨hF_fv_5, hA_ar_7, fr_8, fa_9, wf_10, -⟩ := hw
  have wf_10 : wd_6.2 = wd.2 := wf_10
  have hP : va_P (dC, dI) vwCl (wsX ob ad cA fv_5 wd_6 ar_7) H1 := by have h9 := hB.1.1; rw [ht] at h9; exact h9
  have fr_8 : fM [] fv fv_5 := fr_8
  have fa_9 : fA [] ar ar_7 := fa_9
  generalize H1 = H at hP hS ⊢
  obtain ⟨j_11, lj_11, rj_11, zj_11⟩ := hB.2
  subst rj_11
  refine lv_astore_n (lv' := [(2, .ref (tA j_11)), (0, .ref (ob 6)), (1, .int wi)]) hx hb dX3_readOne_4 rfl hl (by decide) rfl (fun ls hl => ?_)
  refine lv_aload_n hx hb dX3_readOne_5 rfl (lv_at hl 0 rfl) ?_
  refine va_getE hx hb hE lj_11 hS hown (q := tkrole) (List.mem_cons_self ..) (htg (.fieldLink RX3 162 "WalkingTown$Token" "role" "I") kw_9_66) (fun _ h9 => h9) dX3_readOne_6 ?_
  refine lv_topi (fun v_12 ev_12 => ?_)
  have i_13 : 0 ≤ v_12.toInt ∧ v_12.toInt ≤ 11 := ev_12 ▸ tk_role j_11
  have k_14 := rd_role lj_11 ev_12
  refine lv_iconst (v := 2) hx hb dX3_readOne_9 (by decide) ?_
  refine lv_icmp_eq (tgt := 21) hx hb dX3_readOne_10 (by decide) (fun c_15 => ?_) (fun c_15 => ?_)
  · skip
    have i_16 : 2 ≤ v_12.toInt ∧ v_12.toInt ≤ 2 := iv_eq1 (⟨by decide, by decide⟩ : (2 : Int) ≤ (2 : Int32).toInt ∧ (2 : Int32).toInt ≤ 2) c_15
    refine lv_iconst (v := 1) hx hb dX3_readOne_21 (by decide) ?_
    refine lv_goto (tgt := 26) hx hb dX3_readOne_22 (by decide) ?_
    refine lv_istore_n (lv' := [(3, .int 1), (2, .ref (tA j_11)), (0, .ref (ob 6)), (1, .int wi)]) hx hb dX3_readOne_26 rfl hl (by decide) rfl (fun ls hl => ?_)
    refine lv_iload_n hx hb dX3_readOne_27 rfl (lv_at hl 0 rfl) ?_
    refine lv_if_ne (tgt := 51) hx hb dX3_readOne_28 (by decide) (fun c_18 => ?_) (fun c_18 => ?_)
    · skip
      refine lv_aload_n hx hb dX3_readOne_51 rfl (lv_at hl 2 rfl) ?_
      refine gX_X3_38 hx hb htg hown hK hP dX3_readOne_52 ?_
      refine my_ti (y := fv 17) ((fr_8 17 rfl)) ?_
      have i_19 : 0 ≤ (fv 17).toInt ∧ (fv 17).toInt ≤ 50 := hF_fv 17
      refine lv_bipush (v := 50) hx hb dX3_readOne_55 (by decide) ?_
      refine lv_icmp_ge (tgt := 66) hx hb dX3_readOne_57 (by decide) (fun c_20 => ?_) (fun c_20 => ?_)
      · skip
        have i_21 : 50 ≤ (fv 17).toInt ∧ (fv 17).toInt ≤ 50 := iv_le2 (⟨by decide, by decide⟩ : (50 : Int) ≤ (50 : Int32).toInt ∧ (50 : Int32).toInt ≤ 50) i_19 c_20
        refine lv_aload_n hx hb dX3_readOne_66 rfl (lv_at hl 2 rfl) ?_
        refine lv_iconst (v := 4) hx hb dX3_readOne_67 (by decide) ?_
        have z_22 : (fv_5 14).toInt = (fv 14).toInt := congrArg Int32.toInt ((fr_8 14 rfl))
        have z_23 : 0 ≤ (fv_5 14).toInt ∧ (fv_5 14).toInt ≤ 300 := hF_fv_5 14
        refine va_calli (va_runV (As := [.int 4]) (rest := []) ⟨hx, hb, hml, hown, hts⟩ (x_failC l dC dI H.size ob ad cA hd fv_5 wd_6 ar_7 hF_fv_5 hA_ar_7 4) (cwV 1 hts (gV kw_4_110 kw_4_112 kw_p_6 kw_1_11 kw_4_113) rfl rfl rfl (by decide +kernel) ⟨Nat.le_of_ble_eq_true rfl, Nat.le_of_ble_eq_true rfl⟩) ⟨fun a U g mk q => ⟨q.1, q.2.1, q.2.2.1, va_K.moved (u := U) (U := U.calling g mk a) (Vm.Alike.refl U.vm) q.2.2.2⟩, va_recv hK hP (ci := 4) (q0 := 6) rfl rfl, fun U hU hW => ⟨rfl, by rw [hU], by rw [hU]; exact hP, va_K.moved hW.alike hK⟩⟩ rfl rfl hl.1 rfl (lv_room (Nat.le_of_ble_eq_true rfl)) dX3_readOne_68 ⟨Nat.le_of_ble_eq_true rfl, Nat.le_of_ble_eq_true rfl⟩) hS (fun q _ h9 => aX_up hS q h9) (aX_up hS) (fun r_24 u t H1 locs ht _ hw hB _ hk1 hS => ?_)
        obtain ⟨fv_29, wd_30, ar_31⟩ := u
        obtain ⟨hF_fv_29, hA_ar_31, fr_32, fa_33, wf_34, p_25, p_26, p_27, p_28, -⟩ := hw
        have wf_34 : wd_30.2 = wd_6.2 := wf_34
        have hP : va_P (dC, dI) vwCl (wsX ob ad cA fv_29 wd_30 ar_31) H1 := by have h9 := hB.1; rw [ht] at h9; exact h9
        have fr_32 : fM [19, 20] fv_5 fv_29 := fr_32
        have fa_33 : fA [] ar_7 ar_31 := fa_33
        have p_27 : fv_29 19 = (4 : Int32) := p_27
        have p_28 : fv_29 20 = ar_7 36 ((fv_5 14).toInt.toNat) := p_28
        generalize H1 = H at hP hS ⊢
        rcases p_26 with ⟨rfl, p_26⟩
        · skip
          have z_35 : (0 : Int32).toInt = 0 := by decide
          exact W.zret (v := 0) hx hb hr (by decide) (fun t ht hW => ⟨⟨0, (fv_29, wd_30, ar_31), rfl, ⟨hF_fv_29, hA_ar_31, (fM_call (fM_call (fM_rf [14, 16, 17, 19, 20] _) fr_8 (by decide)) fr_32 (by decide)), (fA_call (fA_call (fA_rf [41, 42, 43] _) fa_9 (by decide)) fa_33 (by decide)), (wf_34.trans wf_10), (iv_w (⟨by decide, by decide⟩ : (0 : Int) ≤ (0 : Int32).toInt ∧ (0 : Int32).toInt ≤ 0) (by decide) (by decide)), (show ∀ r9 : List Bool, r9.length = 3 → rd_x T9 S9 0 ((fv 14).toInt.toNat) ((fv 17).toInt.toNat) r9 (0 : Int32) (fv_29 19) (fv_29 20) (fv_29 14) (fv_29 17) from fun r9 hr => by have : (fv_5 14).toInt = (fv 14).toInt := congrArg Int32.toInt ((fM_call (fM_rf [] _) fr_8 (by decide)) 14 rfl); have : (fv_29 14).toInt = (fv_5 14).toInt := congrArg Int32.toInt ((fM_call (fM_rf [19, 20] _) fr_32 (by decide)) 14 rfl); have : (fv_5 17).toInt = (fv 17).toInt := congrArg Int32.toInt ((fM_call (fM_rf [] _) fr_8 (by decide)) 17 rfl); have : (fv_29 17).toInt = (fv_5 17).toInt := congrArg Int32.toInt ((fM_call (fM_rf [19, 20] _) fr_32 (by decide)) 17 rfl); exact rd_xF (q := (fv_5 14).toInt.toNat) (show (fv_29 19).toInt = ((4 : Nat) : Int) from by rw [show fv_29 19 = fv_29 19 from rfl, p_27]; decide) (by decide) (by rw [rd_m0_many (by omega) (by rw [← zj_11]; omega) (by omega)]; rw [show (fv 14).toInt.toNat = (fv_5 14).toInt.toNat from (by omega)]) (show (fv_29 20).toInt = (S9 ((fv_5 14).toInt.toNat) : Nat) from by rw [show fv_29 20 = fv_29 20 from rfl, p_28, show ar_7 36 = ar 36 from ((fA_call (fA_rf [] _) fa_9 (by decide)) 36 rfl)]; exact (hcx ((fv_5 14).toInt.toNat) (by omega)).2.1)), (show (0 : Int32) = 1 → fv_29 19 = fv 19 from fun w => absurd w (by decide)), (show (fv_29 14).toInt ≤ (c9 : Int) from by have : (fv_5 14).toInt = (fv 14).toInt := congrArg Int32.toInt ((fM_call (fM_rf [] _) fr_8 (by decide)) 14 rfl); have : (fv_29 14).toInt = (fv_5 14).toInt := congrArg Int32.toInt ((fM_call (fM_rf [19, 20] _) fr_32 (by decide)) 14 rfl); omega), (show (0 : Int32) = 1 → (fv 17).toInt + 1 ≤ (fv_29 17).toInt from fun w => absurd w (by decide)), (eC_fr hp_eC (fM_call (fM_call (fM_rf [19, 20] _) fr_8 (by decide)) fr_32 (by decide)) (fA_call (fA_call (fA_rf [] _) fa_9 (by decide)) fa_33 (by decide)) rfl rfl rfl), trivial⟩, ⟨by rw [ht]; exact hP, va_K.moved hW.alike hK⟩⟩, hS.F ht⟩) hS.2.2 dX3_readOne_71
      · skip
        have i_36 : 0 ≤ (fv 17).toInt ∧ (fv 17).toInt ≤ 49 := iv_lt1 i_19 (⟨by decide, by decide⟩ : (50 : Int) ≤ (50 : Int32).toInt ∧ (50 : Int32).toInt ≤ 50) (Int32.not_le.mp c_20)
        refine lv_iload_n hx hb dX3_readOne_60 rfl (lv_at hl 3 rfl) ?_
        refine lv_bipush (v := 10) hx hb dX3_readOne_61 (by decide) ?_
        refine lv_icmp_lt (tgt := 72) hx hb dX3_readOne_63 (by decide) (fun c_37 => ?_) (fun c_37 => ?_)
        · skip
          refine lv_aload_n hx hb dX3_readOne_72 rfl (lv_at hl 2 rfl) ?_
          refine lv_dup hx hb dX3_readOne_73 rfl ?_
          refine gX_X3_38 hx hb htg hown hK hP dX3_readOne_74 ?_
          refine my_ti (y := fv 17) ((fr_8 17 rfl)) ?_
          refine lv_iconst (v := 1) hx hb dX3_readOne_77 (by decide) ?_
          refine lv_iadd hx hb dX3_readOne_78 ?_
          refine lv_topi (fun v_38 ev_38 => ?_)
          have t_39 : v_38.toInt = (fv 17).toInt + 1 ∧ 1 ≤ v_38.toInt ∧ v_38.toInt ≤ 50 := iv_addc ev_38 i_36 (by decide) (by decide) (by decide)
          refine pX_X3_38 hx hb htg hown hK hP hS hd dX3_readOne_79 (fun H locs fv_41 efv_41 hP hS => ?_)
          have hF_fv_41 : rX fv_41 := rX_put hF_fv_5 efv_41 (iv_w t_39.2 (by decide) (by decide))
          refine lv_aload_n hx hb dX3_readOne_82 rfl (lv_at hl 2 rfl) ?_
          have z_42 : (fv_41 13).toInt = (fv 13).toInt := congrArg Int32.toInt ((congrFun efv_41 13).trans ((fr_8 13 rfl)))
          have z_43 : 0 ≤ (fv_41 13).toInt ∧ (fv_41 13).toInt ≤ 301 := hF_fv_41 13
          have z_44 : (fv_41 14).toInt = (fv 14).toInt := congrArg Int32.toInt ((congrFun efv_41 14).trans ((fr_8 14 rfl)))
          have z_45 : 0 ≤ (fv_41 14).toInt ∧ (fv_41 14).toInt ≤ 300 := hF_fv_41 14
          have z_46 : (fv_41 13).toInt = (fv 13).toInt := congrArg Int32.toInt ((congrFun efv_41 13).trans ((fr_8 13 rfl)))
          have z_47 : 0 ≤ (fv_41 13).toInt ∧ (fv_41 13).toInt ≤ 301 := hF_fv_41 13
          have z_48 : (fv_41 14).toInt = (fv 14).toInt := congrArg Int32.toInt ((congrFun efv_41 14).trans ((fr_8 14 rfl)))
          have z_49 : 0 ≤ (fv_41 14).toInt ∧ (fv_41 14).toInt ≤ 300 := hF_fv_41 14
          refine va_callv (va_runV (As := []) (rest := []) ⟨hx, hb, hml, hown, hts⟩ (x_stepC l dC dI H.size ob ad cA hd fv_41 wd_6 ar_7 hF_fv_41 hA_ar_7 (by have h9 := rd_lt hfin (p := (fv 14).toInt.toNat) (by omega) (by rw [← zj_11]; omega); omega)) (cwV 0 hts (gV kw_4_116 kw_4_118 kw_p_7 kw_1_11 kw_4_119) rfl rfl rfl (by decide +kernel) ⟨Nat.le_of_ble_eq_true rfl, Nat.le_of_ble_eq_true rfl⟩) ⟨fun a U g mk q => ⟨q.1, q.2.1, q.2.2.1, va_K.moved (u := U) (U := U.calling g mk a) (Vm.Alike.refl U.vm) q.2.2.2⟩, va_recv hK hP (ci := 4) (q0 := 6) rfl rfl, fun U hU hW => ⟨rfl, by rw [hU], by rw [hU]; exact hP, va_K.moved hW.alike hK⟩⟩ rfl rfl hl.1 rfl (lv_room (Nat.le_of_ble_eq_true rfl)) dX3_readOne_83 ⟨Nat.le_of_ble_eq_true rfl, Nat.le_of_ble_eq_true rfl⟩) hS (fun q _ h9 => aX_up hS q h9) (aX_up hS) (fun u t H1 locs ht _ hw hB _ hk1 hS => ?_)
          obtain ⟨fv_52, wd_53, ar_54⟩ := u
          obtain ⟨hF_fv_52, hA_ar_54, fr_55, fa_56, wf_57, p_51, -⟩ := hw
          have wf_57 : wd_53.2 = wd_6.2 := wf_57
          have hP : va_P (dC, dI) vwCl (wsX ob ad cA fv_52 wd_53 ar_54) H1 := by have h9 := hB.1; rw [ht] at h9; exact h9
          have fr_55 : fM [14] fv_41 fv_52 := fr_55
          have fa_56 : fA [] ar_7 ar_54 := fa_56
          have p_51 : (fv_52 14).toInt = (fv_41 14).toInt + 1 ∧ (fv_52 14).toInt ≤ (fv_41 13).toInt - 1 := p_51
          generalize H1 = H at hP hS ⊢
          refine lv_aload_n hx hb dX3_readOne_86 rfl (lv_at hl 1 rfl) ?_
          refine va_gets hx hb (hE.1 22 (by decide)).1 hS hown (htg (.fieldLink RX3 190 "WalkingTown$Token" "NOT" "LWalkingTown$Token;") kw_4_124) (fun _ h9 => h9) dX3_readOne_87 ?_
          refine lv_acmp_ne (rx := some (tA j_11)) (ry := some (tA 22)) (tgt := 113) hx hb dX3_readOne_90 (by decide) (fun c_58 => ?_) (fun c_58 => ?_)
          · skip
            have k_59 : ¬ j_11 = 22 := fun w => c_58 (by rw [w])
            refine lv_aload_n hx hb dX3_readOne_113 rfl (lv_at hl 1 rfl) ?_
            refine va_gets hx hb (hE.1 27 (by decide)).1 hS hown (htg (.fieldLink RX3 209 "WalkingTown$Token" "OPEN" "LWalkingTown$Token;") kw_4_148) (fun _ h9 => h9) dX3_readOne_114 ?_
            refine lv_acmp_ne (rx := some (tA j_11)) (ry := some (tA 27)) (tgt := 146) hx hb dX3_readOne_117 (by decide) (fun c_60 => ?_) (fun c_60 => ?_)
            · skip
              have k_61 : ¬ j_11 = 27 := fun w => c_60 (by rw [w])
              refine lv_aload_n hx hb dX3_readOne_146 rfl (lv_at hl 1 rfl) ?_
              refine va_getE hx hb hE lj_11 hS hown (q := tkrole) (List.mem_cons_self ..) (htg (.fieldLink RX3 162 "WalkingTown$Token" "role" "I") kw_9_66) (fun _ h9 => h9) dX3_readOne_147 ?_
              refine lv_topi (fun v_62 ev_62 => ?_)
              have i_63 : 0 ≤ v_62.toInt ∧ v_62.toInt ≤ 11 := ev_62 ▸ tk_role j_11
              have k_64 := rd_role lj_11 ev_62
              refine lv_iconst (v := 2) hx hb dX3_readOne_150 (by decide) ?_
              refine lv_icmp_ne (tgt := 167) hx hb dX3_readOne_151 (by decide) (fun c_65 => ?_) (fun c_65 => ?_)
              · skip
                have k_66 : ¬ v_62.toInt = 2 := fun q => c_65 (Int32.toInt_inj.mp q)
                refine lv_aload_n hx hb dX3_readOne_167 rfl (lv_at hl 2 rfl) ?_
                refine lv_aload_n hx hb dX3_readOne_168 rfl (lv_at hl 1 rfl) ?_
                refine va_getE hx hb hE lj_11 hS hown (q := tkcode) (List.mem_cons_of_mem _ (List.mem_cons_self ..)) (htg (.fieldLink RX3 168 "WalkingTown$Token" "code" "I") kw_9_67) (fun _ h9 => h9) dX3_readOne_169 ?_
                refine lv_topi (fun v_67 ev_67 => ?_)
                have i_68 : 0 ≤ v_67.toInt ∧ v_67.toInt ≤ 11 := ev_67 ▸ tk_code j_11
                have z_69 : (fv_52 13).toInt = (fv 13).toInt := congrArg Int32.toInt ((fr_55 13 rfl).trans ((congrFun efv_41 13).trans ((fr_8 13 rfl))))
                have z_70 : 0 ≤ (fv_52 13).toInt ∧ (fv_52 13).toInt ≤ 301 := hF_fv_52 13
                have z_71 : 0 ≤ (fv_52 14).toInt ∧ (fv_52 14).toInt ≤ 300 := hF_fv_52 14
                have z_72 : 0 ≤ (fv_52 14).toInt ∧ (fv_52 14).toInt ≤ 300 := hF_fv_52 14
                have z_73 : (fv_52 17).toInt = v_38.toInt := congrArg Int32.toInt ((fr_55 17 rfl).trans ((congrFun efv_41 17)))
                have z_74 : 0 ≤ (fv_52 17).toInt ∧ (fv_52 17).toInt ≤ 50 := hF_fv_52 17
                refine va_calli (va_runV (As := [.int v_67]) (rest := []) ⟨hx, hb, hml, hown, hts⟩ (x_readSignC l dC dI H.size ob ad cA hd fv_52 wd_53 ar_54 hF_fv_52 hA_ar_54 tA (tO_w hto (wf_57.trans wf_10)) T9 S9 N9 c9 v_67 i_68 (rd_cx_eq hcx (congrArg (fun z => z.1) (wf_57.trans wf_10)) ((fA_call (fA_call (fA_rf [] _) fa_9 (by decide)) fa_56 (by decide)) 36 rfl) ((fA_call (fA_call (fA_rf [] _) fa_9 (by decide)) fa_56 (by decide)) 37 rfl)) (by omega) (by omega) h300 hT32 hfin (eC_fr hp_eC (fM_call (fM_put (fM_call (fM_rf [14, 17] _) fr_8 (by decide)) efv_41 (by decide)) fr_55 (by decide)) (fA_call (fA_call (fA_rf [] _) fa_9 (by decide)) fa_56 (by decide)) rfl rfl rfl)) (cwV 1 hts (gV kw_4_156 kw_4_158 kw_p_15 kw_1_11 kw_4_159) rfl rfl rfl (by decide +kernel) ⟨Nat.le_of_ble_eq_true rfl, Nat.le_of_ble_eq_true rfl⟩) ⟨fun a U g mk q => ⟨q.1, ⟨q.2.1.1, q.2.1.2.1, va_K.moved (u := U) (U := U.calling g mk a) (Vm.Alike.refl U.vm) q.2.1.2.2⟩, tk_mv (U := U.calling g mk a) rfl (Vm.Alike.refl U.vm) q.2.2⟩, va_recv hK hP (ci := 4) (q0 := 6) rfl rfl, fun U hU hW => ⟨rfl, ⟨by rw [hU], by rw [hU]; exact hP, va_K.moved hW.alike hK⟩, tk_pass hE hS hU hW.alike⟩⟩ rfl rfl hl.1 rfl (lv_room (Nat.le_of_ble_eq_true rfl)) dX3_readOne_172 ⟨Nat.le_of_ble_eq_true rfl, Nat.le_of_ble_eq_true rfl⟩) hS (fun q _ h9 => aX_up hS q h9) (aX_up hS) (fun r_75 u t H1 locs ht _ hw hB _ hk1 hS => ?_)
                obtain ⟨fv_81, wd_82, ar_83⟩ := u
                obtain ⟨hF_fv_81, hA_ar_83, fr_84, fa_85, wf_86, p_76, p_77, p_78, p_79, p_80, -⟩ := hw
                have wf_86 : wd_82.2 = wd_53.2 := wf_86
                have hP : va_P (dC, dI) vwCl (wsX ob ad cA fv_81 wd_82 ar_83) H1 := by have h9 := hB.1; rw [ht] at h9; exact h9
                have fr_84 : fM [14, 16, 19, 20] fv_52 fv_81 := fr_84
                have fa_85 : fA [41, 42, 43] ar_54 ar_83 := fa_85
                have p_80 : eC fv_81 ar_83 := p_80
                have p_77 : ∀ r9 : List Bool, rd_x T9 S9 2 ((fv_52 14).toInt.toNat) ((fv_52 17).toInt.toNat) r9 r_75 (fv_81 19) (fv_81 20) (fv_81 14) (fv_81 17) := p_77
                have p_78 : r_75 = 1 → fv_81 19 = fv_52 19 := p_78
                have p_79 : (fv_81 14).toInt ≤ (c9 : Int) := p_79
                generalize H1 = H at hP hS ⊢
                exact W.zret (v := r_75) hx hb hr (iv_nar p_76) (fun t ht hW => ⟨⟨r_75, (fv_81, wd_82, ar_83), rfl, ⟨hF_fv_81, hA_ar_83, (fM_call (fM_call (fM_put (fM_call (fM_rf [14, 16, 17, 19, 20] _) fr_8 (by decide)) efv_41 (by decide)) fr_55 (by decide)) fr_84 (by decide)), (fA_call (fA_call (fA_call (fA_rf [41, 42, 43] _) fa_9 (by decide)) fa_56 (by decide)) fa_85 (by decide)), (wf_86.trans (wf_57.trans wf_10)), p_76, (show ∀ r9 : List Bool, r9.length = 3 → rd_x T9 S9 0 ((fv 14).toInt.toNat) ((fv 17).toInt.toNat) r9 r_75 (fv_81 19) (fv_81 20) (fv_81 14) (fv_81 17) from fun r9 hr => by have : (fv_5 14).toInt = (fv 14).toInt := congrArg Int32.toInt ((fM_call (fM_rf [] _) fr_8 (by decide)) 14 rfl); have : (fv_41 14).toInt = (fv_5 14).toInt := congrArg Int32.toInt ((fM_put (fM_rf [17] _) efv_41 (by decide)) 14 rfl); have : (fv_5 17).toInt = (fv 17).toInt := congrArg Int32.toInt ((fM_call (fM_rf [] _) fr_8 (by decide)) 17 rfl); have : (fv_41 17).toInt = v_38.toInt := congrArg Int32.toInt (show fv_41 17 = v_38 from congrFun efv_41 17); have : (fv_52 17).toInt = (fv_41 17).toInt := congrArg Int32.toInt ((fM_call (fM_rf [14] _) fr_55 (by decide)) 17 rfl); have : (fv_81 17).toInt = (fv_52 17).toInt := congrArg Int32.toInt ((fM_call (fM_rf [14, 16, 19, 20] _) fr_84 (by decide)) 17 rfl); have h9 := p_77 r9; exact rd_x_of h9 (by rw [rd_m0_fact (by omega) (by rw [← zj_11]; omega) (by omega), show (fv 14).toInt.toNat + 1 = (fv_52 14).toInt.toNat from (by omega), show (fv 17).toInt.toNat + 1 = (fv_52 17).toInt.toNat from (by omega)])), (show r_75 = 1 → fv_81 19 = fv 19 from fun w => (show fv_81 19 = fv_81 19 from rfl).trans ((p_78 w).trans ((fM_call (fM_put (fM_call (fM_rf [14, 17] _) fr_8 (by decide)) efv_41 (by decide)) fr_55 (by decide)) 19 rfl))), (show (fv_81 14).toInt ≤ (c9 : Int) from by have : (fv_5 14).toInt = (fv 14).toInt := congrArg Int32.toInt ((fM_call (fM_rf [] _) fr_8 (by decide)) 14 rfl); have : (fv_41 14).toInt = (fv_5 14).toInt := congrArg Int32.toInt ((fM_put (fM_rf [17] _) efv_41 (by decide)) 14 rfl); have hp9 := p_79; omega), (show r_75 = 1 → (fv 17).toInt + 1 ≤ (fv_81 17).toInt from fun w => by have : (fv_5 17).toInt = (fv 17).toInt := congrArg Int32.toInt ((fM_call (fM_rf [] _) fr_8 (by decide)) 17 rfl); have : (fv_41 17).toInt = v_38.toInt := congrArg Int32.toInt (show fv_41 17 = v_38 from congrFun efv_41 17); have : (fv_52 17).toInt = (fv_41 17).toInt := congrArg Int32.toInt ((fM_call (fM_rf [14] _) fr_55 (by decide)) 17 rfl); have : (fv_81 17).toInt = (fv_52 17).toInt := congrArg Int32.toInt ((fM_call (fM_rf [14, 16, 19, 20] _) fr_84 (by decide)) 17 rfl); have hi9 : (fv_81 17).toInt = (fv_52 17).toInt := congrArg Int32.toInt ((fM_call (fM_rf [14, 16, 19, 20] _) fr_84 (by decide)) 17 rfl); omega), p_80, trivial⟩, ⟨by rw [ht]; exact hP, va_K.moved hW.alike hK⟩⟩, hS.F ht⟩) hS.2.2 dX3_readOne_175
              · skip
                have i_87 : 2 ≤ v_62.toInt ∧ v_62.toInt ≤ 2 := iv_eq1 (⟨by decide, by decide⟩ : (2 : Int) ≤ (2 : Int32).toInt ∧ (2 : Int32).toInt ≤ 2) c_65
                refine lv_aload_n hx hb dX3_readOne_154 rfl (lv_at hl 2 rfl) ?_
                refine lv_iconst (v := 2) hx hb dX3_readOne_155 (by decide) ?_
                refine lv_aload_n hx hb dX3_readOne_156 rfl (lv_at hl 1 rfl) ?_
                refine va_getE hx hb hE lj_11 hS hown (q := tkcode) (List.mem_cons_of_mem _ (List.mem_cons_self ..)) (htg (.fieldLink RX3 168 "WalkingTown$Token" "code" "I") kw_9_67) (fun _ h9 => h9) dX3_readOne_157 ?_
                refine lv_topi (fun v_89 ev_89 => ?_)
                have i_90 : 0 ≤ v_89.toInt ∧ v_89.toInt ≤ 11 := ev_89 ▸ tk_code j_11
                refine lv_iconst (v := 0) hx hb dX3_readOne_160 (by decide) ?_
                refine va_calli (va_runV (As := [.int 2, .int v_89, .int 0]) (rest := []) ⟨hx, hb, hml, hown, hts⟩ (x_addCode l dC dI H.size ob ad cA hd fv_52 wd_53 ar_54 hF_fv_52 hA_ar_54 2 v_89 0 i_90 (eC_fr hp_eC (fM_call (fM_put (fM_call (fM_rf [14, 17] _) fr_8 (by decide)) efv_41 (by decide)) fr_55 (by decide)) (fA_call (fA_call (fA_rf [] _) fa_9 (by decide)) fa_56 (by decide)) rfl rfl rfl)) (cwV 3 hts (gV kw_4_150 kw_4_152 kw_p_14 kw_1_11 kw_4_153) rfl rfl rfl (by decide +kernel) ⟨Nat.le_of_ble_eq_true rfl, Nat.le_of_ble_eq_true rfl⟩) ⟨fun a U g mk q => ⟨q.1, q.2.1, q.2.2.1, va_K.moved (u := U) (U := U.calling g mk a) (Vm.Alike.refl U.vm) q.2.2.2⟩, va_recv hK hP (ci := 4) (q0 := 6) rfl rfl, fun U hU hW => ⟨rfl, by rw [hU], by rw [hU]; exact hP, va_K.moved hW.alike hK⟩⟩ rfl rfl hl.1 rfl (lv_room (Nat.le_of_ble_eq_true rfl)) dX3_readOne_161 ⟨Nat.le_of_ble_eq_true rfl, Nat.le_of_ble_eq_true rfl⟩) hS (fun q _ h9 => aX_up hS q h9) (aX_up hS) (fun r_91 u t H1 locs ht _ hw hB _ hk1 hS => ?_)
                obtain ⟨fv_95, wd_96, ar_97⟩ := u
                obtain ⟨hF_fv_95, hA_ar_97, fr_98, fa_99, wf_100, p_92, p_93, p_94, -⟩ := hw
                have wf_100 : wd_96.2 = wd_53.2 := wf_100
                have hP : va_P (dC, dI) vwCl (wsX ob ad cA fv_95 wd_96 ar_97) H1 := by have h9 := hB.1; rw [ht] at h9; exact h9
                have fr_98 : fM [16] fv_52 fv_95 := fr_98
                have fa_99 : fA [41, 42, 43] ar_54 ar_97 := fa_99
                have p_94 : eC fv_95 ar_97 := p_94
                generalize H1 = H at hP hS ⊢
                rcases p_93 with ⟨rfl, p_93⟩
                · skip
                  refine lv_goto (tgt := 175) hx hb dX3_readOne_164 (by decide) ?_
                  have z_101 : (1 : Int32).toInt = 1 := by decide
                  exact W.zret (v := 1) hx hb hr (by decide) (fun t ht hW => ⟨⟨1, (fv_95, wd_96, ar_97), rfl, ⟨hF_fv_95, hA_ar_97, (fM_call (fM_call (fM_put (fM_call (fM_rf [14, 16, 17, 19, 20] _) fr_8 (by decide)) efv_41 (by decide)) fr_55 (by decide)) fr_98 (by decide)), (fA_call (fA_call (fA_call (fA_rf [41, 42, 43] _) fa_9 (by decide)) fa_56 (by decide)) fa_99 (by decide)), (wf_100.trans (wf_57.trans wf_10)), (iv_w (⟨by decide, by decide⟩ : (1 : Int) ≤ (1 : Int32).toInt ∧ (1 : Int32).toInt ≤ 1) (by decide) (by decide)), (show ∀ r9 : List Bool, r9.length = 3 → rd_x T9 S9 0 ((fv 14).toInt.toNat) ((fv 17).toInt.toNat) r9 (1 : Int32) (fv_95 19) (fv_95 20) (fv_95 14) (fv_95 17) from fun r9 hr => by have : (fv_5 14).toInt = (fv 14).toInt := congrArg Int32.toInt ((fM_call (fM_rf [] _) fr_8 (by decide)) 14 rfl); have : (fv_41 14).toInt = (fv_5 14).toInt := congrArg Int32.toInt ((fM_put (fM_rf [17] _) efv_41 (by decide)) 14 rfl); have : (fv_95 14).toInt = (fv_52 14).toInt := congrArg Int32.toInt ((fM_call (fM_rf [16] _) fr_98 (by decide)) 14 rfl); have : (fv_5 17).toInt = (fv 17).toInt := congrArg Int32.toInt ((fM_call (fM_rf [] _) fr_8 (by decide)) 17 rfl); have : (fv_41 17).toInt = v_38.toInt := congrArg Int32.toInt (show fv_41 17 = v_38 from congrFun efv_41 17); have : (fv_52 17).toInt = (fv_41 17).toInt := congrArg Int32.toInt ((fM_call (fM_rf [14] _) fr_55 (by decide)) 17 rfl); have : (fv_95 17).toInt = (fv_52 17).toInt := congrArg Int32.toInt ((fM_call (fM_rf [16] _) fr_98 (by decide)) 17 rfl); exact rd_xO (by rw [rd_m0_flag (by omega) (by rw [← zj_11]; omega) (by omega), show (fv 14).toInt.toNat + 1 = (fv_95 14).toInt.toNat from (by omega), show (fv 17).toInt.toNat + 1 = (fv_95 17).toInt.toNat from (by omega)])), (show (1 : Int32) = 1 → fv_95 19 = fv 19 from fun _ => ((fM_call (fM_call (fM_put (fM_call (fM_rf [14, 16, 17] _) fr_8 (by decide)) efv_41 (by decide)) fr_55 (by decide)) fr_98 (by decide)) 19 rfl)), (show (fv_95 14).toInt ≤ (c9 : Int) from by have : (fv_5 14).toInt = (fv 14).toInt := congrArg Int32.toInt ((fM_call (fM_rf [] _) fr_8 (by decide)) 14 rfl); have : (fv_41 14).toInt = (fv_5 14).toInt := congrArg Int32.toInt ((fM_put (fM_rf [17] _) efv_41 (by decide)) 14 rfl); have : (fv_95 14).toInt = (fv_52 14).toInt := congrArg Int32.toInt ((fM_call (fM_rf [16] _) fr_98 (by decide)) 14 rfl); omega), (show (1 : Int32) = 1 → (fv 17).toInt + 1 ≤ (fv_95 17).toInt from fun w => by have : (fv_5 17).toInt = (fv 17).toInt := congrArg Int32.toInt ((fM_call (fM_rf [] _) fr_8 (by decide)) 17 rfl); have : (fv_41 17).toInt = v_38.toInt := congrArg Int32.toInt (show fv_41 17 = v_38 from congrFun efv_41 17); have : (fv_52 17).toInt = (fv_41 17).toInt := congrArg Int32.toInt ((fM_call (fM_rf [14] _) fr_55 (by decide)) 17 rfl); have : (fv_95 17).toInt = (fv_52 17).toInt := congrArg Int32.toInt ((fM_call (fM_rf [16] _) fr_98 (by decide)) 17 rfl); omega), p_94, trivial⟩, ⟨by rw [ht]; exact hP, va_K.moved hW.alike hK⟩⟩, hS.F ht⟩) hS.2.2 dX3_readOne_175
            · skip
              have k_102 : j_11 = 27 := hE.2 j_11 27 lj_11 (by decide) (Option.some.inj c_60)
              exfalso; omega
          · skip
            have k_103 : j_11 = 22 := hE.2 j_11 22 lj_11 (by decide) (Option.some.inj c_58)
            exfalso; omega
        · skip
          exact absurd True.intro (by have h7 := (⟨by decide, by decide⟩ : (10 : Int) ≤ (10 : Int32).toInt ∧ (10 : Int32).toInt ≤ 10); have h8 := h_wi; have h9 := Int32.le_iff_toInt_le.mp (Int32.not_lt.mp c_37); exfalso; omega)
    · skip
      exact absurd c_18 (by decide)
  · skip
    have k_104 : ¬ v_12.toInt = 2 := fun q => c_15 (Int32.toInt_inj.mp q)
    refine lv_aload_n hx hb dX3_readOne_13 rfl (lv_at hl 0 rfl) ?_
    refine va_getE hx hb hE lj_11 hS hown (q := tkrole) (List.mem_cons_self ..) (htg (.fieldLink RX3 162 "WalkingTown$Token" "role" "I") kw_9_66) (fun _ h9 => h9) dX3_readOne_14 ?_
    refine lv_topi (fun v_105 ev_105 => ?_)
    have i_106 : 0 ≤ v_105.toInt ∧ v_105.toInt ≤ 11 := ev_105 ▸ tk_role j_11
    have k_107 := rd_role lj_11 ev_105
    refine lv_iconst (v := 3) hx hb dX3_readOne_17 (by decide) ?_
    refine lv_icmp_ne (tgt := 25) hx hb dX3_readOne_18 (by decide) (fun c_108 => ?_) (fun c_108 => ?_)
    · skip
      have k_109 : ¬ v_105.toInt = 3 := fun q => c_108 (Int32.toInt_inj.mp q)
      refine lv_iconst (v := 0) hx hb dX3_readOne_25 (by decide) ?_
      refine lv_istore_n (lv' := [(3, .int 0), (2, .ref (tA j_11)), (0, .ref (ob 6)), (1, .int wi)]) hx hb dX3_readOne_26 rfl hl (by decide) rfl (fun ls hl => ?_)
      refine lv_iload_n hx hb dX3_readOne_27 rfl (lv_at hl 0 rfl) ?_
      refine lv_if_ne (tgt := 51) hx hb dX3_readOne_28 (by decide) (fun c_110 => ?_) (fun c_110 => ?_)
      · skip
        exact absurd c_110 (by decide)
      · skip
        refine lv_aload_n hx hb dX3_readOne_31 rfl (lv_at hl 1 rfl) ?_
        refine va_gets hx hb (hE.1 22 (by decide)).1 hS hown (htg (.fieldLink RX3 190 "WalkingTown$Token" "NOT" "LWalkingTown$Token;") kw_4_124) (fun _ h9 => h9) dX3_readOne_32 ?_
        refine lv_acmp_eq (rx := some (tA j_11)) (ry := some (tA 22)) (tgt := 51) hx hb dX3_readOne_35 (by decide) (fun c_111 => ?_) (fun c_111 => ?_)
        · skip
          have k_112 : j_11 = 22 := hE.2 j_11 22 lj_11 (by decide) (Option.some.inj c_111)
          refine lv_aload_n hx hb dX3_readOne_51 rfl (lv_at hl 2 rfl) ?_
          refine gX_X3_38 hx hb htg hown hK hP dX3_readOne_52 ?_
          refine my_ti (y := fv 17) ((fr_8 17 rfl)) ?_
          have i_113 : 0 ≤ (fv 17).toInt ∧ (fv 17).toInt ≤ 50 := hF_fv 17
          refine lv_bipush (v := 50) hx hb dX3_readOne_55 (by decide) ?_
          refine lv_icmp_ge (tgt := 66) hx hb dX3_readOne_57 (by decide) (fun c_114 => ?_) (fun c_114 => ?_)
          · skip
            have i_115 : 50 ≤ (fv 17).toInt ∧ (fv 17).toInt ≤ 50 := iv_le2 (⟨by decide, by decide⟩ : (50 : Int) ≤ (50 : Int32).toInt ∧ (50 : Int32).toInt ≤ 50) i_113 c_114
            refine lv_aload_n hx hb dX3_readOne_66 rfl (lv_at hl 2 rfl) ?_
            refine lv_iconst (v := 4) hx hb dX3_readOne_67 (by decide) ?_
            have z_116 : (fv_5 14).toInt = (fv 14).toInt := congrArg Int32.toInt ((fr_8 14 rfl))
            have z_117 : 0 ≤ (fv_5 14).toInt ∧ (fv_5 14).toInt ≤ 300 := hF_fv_5 14
            refine va_calli (va_runV (As := [.int 4]) (rest := []) ⟨hx, hb, hml, hown, hts⟩ (x_failC l dC dI H.size ob ad cA hd fv_5 wd_6 ar_7 hF_fv_5 hA_ar_7 4) (cwV 1 hts (gV kw_4_110 kw_4_112 kw_p_6 kw_1_11 kw_4_113) rfl rfl rfl (by decide +kernel) ⟨Nat.le_of_ble_eq_true rfl, Nat.le_of_ble_eq_true rfl⟩) ⟨fun a U g mk q => ⟨q.1, q.2.1, q.2.2.1, va_K.moved (u := U) (U := U.calling g mk a) (Vm.Alike.refl U.vm) q.2.2.2⟩, va_recv hK hP (ci := 4) (q0 := 6) rfl rfl, fun U hU hW => ⟨rfl, by rw [hU], by rw [hU]; exact hP, va_K.moved hW.alike hK⟩⟩ rfl rfl hl.1 rfl (lv_room (Nat.le_of_ble_eq_true rfl)) dX3_readOne_68 ⟨Nat.le_of_ble_eq_true rfl, Nat.le_of_ble_eq_true rfl⟩) hS (fun q _ h9 => aX_up hS q h9) (aX_up hS) (fun r_118 u t H1 locs ht _ hw hB _ hk1 hS => ?_)
            obtain ⟨fv_123, wd_124, ar_125⟩ := u
            obtain ⟨hF_fv_123, hA_ar_125, fr_126, fa_127, wf_128, p_119, p_120, p_121, p_122, -⟩ := hw
            have wf_128 : wd_124.2 = wd_6.2 := wf_128
            have hP : va_P (dC, dI) vwCl (wsX ob ad cA fv_123 wd_124 ar_125) H1 := by have h9 := hB.1; rw [ht] at h9; exact h9
            have fr_126 : fM [19, 20] fv_5 fv_123 := fr_126
            have fa_127 : fA [] ar_7 ar_125 := fa_127
            have p_121 : fv_123 19 = (4 : Int32) := p_121
            have p_122 : fv_123 20 = ar_7 36 ((fv_5 14).toInt.toNat) := p_122
            generalize H1 = H at hP hS ⊢
            rcases p_120 with ⟨rfl, p_120⟩
            · skip
              have z_129 : (0 : Int32).toInt = 0 := by decide
              exact W.zret (v := 0) hx hb hr (by decide) (fun t ht hW => ⟨⟨0, (fv_123, wd_124, ar_125), rfl, ⟨hF_fv_123, hA_ar_125, (fM_call (fM_call (fM_rf [14, 16, 17, 19, 20] _) fr_8 (by decide)) fr_126 (by decide)), (fA_call (fA_call (fA_rf [41, 42, 43] _) fa_9 (by decide)) fa_127 (by decide)), (wf_128.trans wf_10), (iv_w (⟨by decide, by decide⟩ : (0 : Int) ≤ (0 : Int32).toInt ∧ (0 : Int32).toInt ≤ 0) (by decide) (by decide)), (show ∀ r9 : List Bool, r9.length = 3 → rd_x T9 S9 0 ((fv 14).toInt.toNat) ((fv 17).toInt.toNat) r9 (0 : Int32) (fv_123 19) (fv_123 20) (fv_123 14) (fv_123 17) from fun r9 hr => by have : (fv_5 14).toInt = (fv 14).toInt := congrArg Int32.toInt ((fM_call (fM_rf [] _) fr_8 (by decide)) 14 rfl); have : (fv_123 14).toInt = (fv_5 14).toInt := congrArg Int32.toInt ((fM_call (fM_rf [19, 20] _) fr_126 (by decide)) 14 rfl); have : (fv_5 17).toInt = (fv 17).toInt := congrArg Int32.toInt ((fM_call (fM_rf [] _) fr_8 (by decide)) 17 rfl); have : (fv_123 17).toInt = (fv_5 17).toInt := congrArg Int32.toInt ((fM_call (fM_rf [19, 20] _) fr_126 (by decide)) 17 rfl); exact rd_xF (q := (fv_5 14).toInt.toNat) (show (fv_123 19).toInt = ((4 : Nat) : Int) from by rw [show fv_123 19 = fv_123 19 from rfl, p_121]; decide) (by decide) (by rw [rd_m0_many (by omega) (by rw [← zj_11]; omega) (by omega)]; rw [show (fv 14).toInt.toNat = (fv_5 14).toInt.toNat from (by omega)]) (show (fv_123 20).toInt = (S9 ((fv_5 14).toInt.toNat) : Nat) from by rw [show fv_123 20 = fv_123 20 from rfl, p_122, show ar_7 36 = ar 36 from ((fA_call (fA_rf [] _) fa_9 (by decide)) 36 rfl)]; exact (hcx ((fv_5 14).toInt.toNat) (by omega)).2.1)), (show (0 : Int32) = 1 → fv_123 19 = fv 19 from fun w => absurd w (by decide)), (show (fv_123 14).toInt ≤ (c9 : Int) from by have : (fv_5 14).toInt = (fv 14).toInt := congrArg Int32.toInt ((fM_call (fM_rf [] _) fr_8 (by decide)) 14 rfl); have : (fv_123 14).toInt = (fv_5 14).toInt := congrArg Int32.toInt ((fM_call (fM_rf [19, 20] _) fr_126 (by decide)) 14 rfl); omega), (show (0 : Int32) = 1 → (fv 17).toInt + 1 ≤ (fv_123 17).toInt from fun w => absurd w (by decide)), (eC_fr hp_eC (fM_call (fM_call (fM_rf [19, 20] _) fr_8 (by decide)) fr_126 (by decide)) (fA_call (fA_call (fA_rf [] _) fa_9 (by decide)) fa_127 (by decide)) rfl rfl rfl), trivial⟩, ⟨by rw [ht]; exact hP, va_K.moved hW.alike hK⟩⟩, hS.F ht⟩) hS.2.2 dX3_readOne_71
          · skip
            have i_130 : 0 ≤ (fv 17).toInt ∧ (fv 17).toInt ≤ 49 := iv_lt1 i_113 (⟨by decide, by decide⟩ : (50 : Int) ≤ (50 : Int32).toInt ∧ (50 : Int32).toInt ≤ 50) (Int32.not_le.mp c_114)
            refine lv_iload_n hx hb dX3_readOne_60 rfl (lv_at hl 3 rfl) ?_
            refine lv_bipush (v := 10) hx hb dX3_readOne_61 (by decide) ?_
            refine lv_icmp_lt (tgt := 72) hx hb dX3_readOne_63 (by decide) (fun c_131 => ?_) (fun c_131 => ?_)
            · skip
              refine lv_aload_n hx hb dX3_readOne_72 rfl (lv_at hl 2 rfl) ?_
              refine lv_dup hx hb dX3_readOne_73 rfl ?_
              refine gX_X3_38 hx hb htg hown hK hP dX3_readOne_74 ?_
              refine my_ti (y := fv 17) ((fr_8 17 rfl)) ?_
              refine lv_iconst (v := 1) hx hb dX3_readOne_77 (by decide) ?_
              refine lv_iadd hx hb dX3_readOne_78 ?_
              refine lv_topi (fun v_132 ev_132 => ?_)
              have t_133 : v_132.toInt = (fv 17).toInt + 1 ∧ 1 ≤ v_132.toInt ∧ v_132.toInt ≤ 50 := iv_addc ev_132 i_130 (by decide) (by decide) (by decide)
              refine pX_X3_38 hx hb htg hown hK hP hS hd dX3_readOne_79 (fun H locs fv_135 efv_135 hP hS => ?_)
              have hF_fv_135 : rX fv_135 := rX_put hF_fv_5 efv_135 (iv_w t_133.2 (by decide) (by decide))
              refine lv_aload_n hx hb dX3_readOne_82 rfl (lv_at hl 2 rfl) ?_
              have z_136 : (fv_135 13).toInt = (fv 13).toInt := congrArg Int32.toInt ((congrFun efv_135 13).trans ((fr_8 13 rfl)))
              have z_137 : 0 ≤ (fv_135 13).toInt ∧ (fv_135 13).toInt ≤ 301 := hF_fv_135 13
              have z_138 : (fv_135 14).toInt = (fv 14).toInt := congrArg Int32.toInt ((congrFun efv_135 14).trans ((fr_8 14 rfl)))
              have z_139 : 0 ≤ (fv_135 14).toInt ∧ (fv_135 14).toInt ≤ 300 := hF_fv_135 14
              have z_140 : (fv_135 13).toInt = (fv 13).toInt := congrArg Int32.toInt ((congrFun efv_135 13).trans ((fr_8 13 rfl)))
              have z_141 : 0 ≤ (fv_135 13).toInt ∧ (fv_135 13).toInt ≤ 301 := hF_fv_135 13
              have z_142 : (fv_135 14).toInt = (fv 14).toInt := congrArg Int32.toInt ((congrFun efv_135 14).trans ((fr_8 14 rfl)))
              have z_143 : 0 ≤ (fv_135 14).toInt ∧ (fv_135 14).toInt ≤ 300 := hF_fv_135 14
              refine va_callv (va_runV (As := []) (rest := []) ⟨hx, hb, hml, hown, hts⟩ (x_stepC l dC dI H.size ob ad cA hd fv_135 wd_6 ar_7 hF_fv_135 hA_ar_7 (by have h9 := rd_lt hfin (p := (fv 14).toInt.toNat) (by omega) (by rw [← zj_11]; omega); omega)) (cwV 0 hts (gV kw_4_116 kw_4_118 kw_p_7 kw_1_11 kw_4_119) rfl rfl rfl (by decide +kernel) ⟨Nat.le_of_ble_eq_true rfl, Nat.le_of_ble_eq_true rfl⟩) ⟨fun a U g mk q => ⟨q.1, q.2.1, q.2.2.1, va_K.moved (u := U) (U := U.calling g mk a) (Vm.Alike.refl U.vm) q.2.2.2⟩, va_recv hK hP (ci := 4) (q0 := 6) rfl rfl, fun U hU hW => ⟨rfl, by rw [hU], by rw [hU]; exact hP, va_K.moved hW.alike hK⟩⟩ rfl rfl hl.1 rfl (lv_room (Nat.le_of_ble_eq_true rfl)) dX3_readOne_83 ⟨Nat.le_of_ble_eq_true rfl, Nat.le_of_ble_eq_true rfl⟩) hS (fun q _ h9 => aX_up hS q h9) (aX_up hS) (fun u t H1 locs ht _ hw hB _ hk1 hS => ?_)
              obtain ⟨fv_146, wd_147, ar_148⟩ := u
              obtain ⟨hF_fv_146, hA_ar_148, fr_149, fa_150, wf_151, p_145, -⟩ := hw
              have wf_151 : wd_147.2 = wd_6.2 := wf_151
              have hP : va_P (dC, dI) vwCl (wsX ob ad cA fv_146 wd_147 ar_148) H1 := by have h9 := hB.1; rw [ht] at h9; exact h9
              have fr_149 : fM [14] fv_135 fv_146 := fr_149
              have fa_150 : fA [] ar_7 ar_148 := fa_150
              have p_145 : (fv_146 14).toInt = (fv_135 14).toInt + 1 ∧ (fv_146 14).toInt ≤ (fv_135 13).toInt - 1 := p_145
              generalize H1 = H at hP hS ⊢
              refine lv_aload_n hx hb dX3_readOne_86 rfl (lv_at hl 1 rfl) ?_
              refine va_gets hx hb (hE.1 22 (by decide)).1 hS hown (htg (.fieldLink RX3 190 "WalkingTown$Token" "NOT" "LWalkingTown$Token;") kw_4_124) (fun _ h9 => h9) dX3_readOne_87 ?_
              refine lv_acmp_ne (rx := some (tA j_11)) (ry := some (tA 22)) (tgt := 113) hx hb dX3_readOne_90 (by decide) (fun c_152 => ?_) (fun c_152 => ?_)
              · skip
                have k_153 : ¬ j_11 = 22 := fun w => c_152 (by rw [w])
                exfalso; omega
              · skip
                have k_154 : j_11 = 22 := hE.2 j_11 22 lj_11 (by decide) (Option.some.inj c_152)
                refine lv_aload_n hx hb dX3_readOne_93 rfl (lv_at hl 2 rfl) ?_
                refine lv_iload_n hx hb dX3_readOne_94 rfl (lv_at hl 3 rfl) ?_
                refine lv_iconst (v := 1) hx hb dX3_readOne_95 (by decide) ?_
                refine lv_iadd hx hb dX3_readOne_96 ?_
                refine lv_topi (fun v_155 ev_155 => ?_)
                have t_156 : v_155.toInt = wi.toInt + 1 ∧ 4 ≤ v_155.toInt ∧ v_155.toInt ≤ 4 := iv_addc ev_155 h_wi (by decide) (by decide) (by decide)
                have z_158 : (fv_146 13).toInt = (fv 13).toInt := congrArg Int32.toInt ((fr_149 13 rfl).trans ((congrFun efv_135 13).trans ((fr_8 13 rfl))))
                have z_159 : 0 ≤ (fv_146 13).toInt ∧ (fv_146 13).toInt ≤ 301 := hF_fv_146 13
                have z_160 : 0 ≤ (fv_146 14).toInt ∧ (fv_146 14).toInt ≤ 300 := hF_fv_146 14
                have z_161 : 0 ≤ (fv_146 14).toInt ∧ (fv_146 14).toInt ≤ 300 := hF_fv_146 14
                have z_162 : (fv_146 17).toInt = v_132.toInt := congrArg Int32.toInt ((fr_149 17 rfl).trans ((congrFun efv_135 17)))
                have z_163 : 0 ≤ (fv_146 17).toInt ∧ (fv_146 17).toInt ≤ 50 := hF_fv_146 17
                refine va_calli (va_runV (As := [.int v_155]) (rest := []) ⟨hx, hb, hml, hown, hts⟩ (x_readOneC_4 l dC dI H.size ob ad cA hd fv_146 wd_147 ar_148 hF_fv_146 hA_ar_148 tA (tO_w hto (wf_151.trans wf_10)) T9 S9 N9 c9 v_155 t_156.2 (rd_cx_eq hcx (congrArg (fun z => z.1) (wf_151.trans wf_10)) ((fA_call (fA_call (fA_rf [] _) fa_9 (by decide)) fa_150 (by decide)) 36 rfl) ((fA_call (fA_call (fA_rf [] _) fa_9 (by decide)) fa_150 (by decide)) 37 rfl)) (by omega) (by omega) h300 hT32 hfin (eC_fr hp_eC (fM_call (fM_put (fM_call (fM_rf [14, 17] _) fr_8 (by decide)) efv_135 (by decide)) fr_149 (by decide)) (fA_call (fA_call (fA_rf [] _) fa_9 (by decide)) fa_150 (by decide)) rfl rfl rfl)) (cwV 1 hts (gV kw_4_144 kw_4_146 kw_p_13 kw_1_11 kw_4_147) rfl rfl rfl (by decide +kernel) ⟨Nat.le_of_ble_eq_true rfl, Nat.le_of_ble_eq_true rfl⟩) ⟨fun a U g mk q => ⟨q.1, ⟨q.2.1.1, q.2.1.2.1, va_K.moved (u := U) (U := U.calling g mk a) (Vm.Alike.refl U.vm) q.2.1.2.2⟩, tk_mv (U := U.calling g mk a) rfl (Vm.Alike.refl U.vm) q.2.2⟩, va_recv hK hP (ci := 4) (q0 := 6) rfl rfl, fun U hU hW => ⟨rfl, ⟨by rw [hU], by rw [hU]; exact hP, va_K.moved hW.alike hK⟩, tk_pass hE hS hU hW.alike⟩⟩ rfl rfl hl.1 rfl (lv_room (Nat.le_of_ble_eq_true rfl)) dX3_readOne_97 ⟨Nat.le_of_ble_eq_true rfl, Nat.le_of_ble_eq_true rfl⟩) hS (fun q _ h9 => aX_up hS q h9) (aX_up hS) (fun r_164 u t H1 locs ht _ hw hB _ hk1 hS => ?_)
                obtain ⟨fv_171, wd_172, ar_173⟩ := u
                obtain ⟨hF_fv_171, hA_ar_173, fr_174, fa_175, wf_176, p_165, p_166, p_167, p_168, p_169, p_170, -⟩ := hw
                have wf_176 : wd_172.2 = wd_147.2 := wf_176
                have hP : va_P (dC, dI) vwCl (wsX ob ad cA fv_171 wd_172 ar_173) H1 := by have h9 := hB.1; rw [ht] at h9; exact h9
                have fr_174 : fM [14, 16, 17, 19, 20] fv_146 fv_171 := fr_174
                have fa_175 : fA [41, 42, 43] ar_148 ar_173 := fa_175
                have p_170 : eC fv_171 ar_173 := p_170
                have p_166 : ∀ r9 : List Bool, r9.length = 4 → rd_x T9 S9 0 ((fv_146 14).toInt.toNat) ((fv_146 17).toInt.toNat) r9 r_164 (fv_171 19) (fv_171 20) (fv_171 14) (fv_171 17) := p_166
                have p_167 : r_164 = 1 → fv_171 19 = fv_146 19 := p_167
                have p_168 : (fv_171 14).toInt ≤ (c9 : Int) := p_168
                have p_169 : r_164 = 1 → (fv_146 17).toInt + 1 ≤ (fv_171 17).toInt := p_169
                generalize H1 = H at hP hS ⊢
                refine lv_istore (lv' := [(4, .int r_164), (3, .int 0), (2, .ref (tA j_11)), (0, .ref (ob 6)), (1, .int wi)]) hx hb dX3_readOne_100 hl (by decide) rfl (fun ls hl => ?_)
                refine lv_aload_n hx hb dX3_readOne_102 rfl (lv_at hl 3 rfl) ?_
                refine lv_iconst (v := 3) hx hb dX3_readOne_103 (by decide) ?_
                refine lv_iconst (v := 0) hx hb dX3_readOne_104 (by decide) ?_
                refine lv_iconst (v := 0) hx hb dX3_readOne_105 (by decide) ?_
                refine va_calli (va_runV (As := [.int 3, .int 0, .int 0]) (rest := []) ⟨hx, hb, hml, hown, hts⟩ (x_addCode l dC dI H.size ob ad cA hd fv_171 wd_172 ar_173 hF_fv_171 hA_ar_173 3 0 0 (iv_w (⟨by decide, by decide⟩ : (0 : Int) ≤ (0 : Int32).toInt ∧ (0 : Int32).toInt ≤ 0) (by decide) (by decide)) p_170) (cwV 3 hts (gV kw_4_150 kw_4_152 kw_p_14 kw_1_11 kw_4_153) rfl rfl rfl (by decide +kernel) ⟨Nat.le_of_ble_eq_true rfl, Nat.le_of_ble_eq_true rfl⟩) ⟨fun a U g mk q => ⟨q.1, q.2.1, q.2.2.1, va_K.moved (u := U) (U := U.calling g mk a) (Vm.Alike.refl U.vm) q.2.2.2⟩, va_recv hK hP (ci := 4) (q0 := 6) rfl rfl, fun U hU hW => ⟨rfl, by rw [hU], by rw [hU]; exact hP, va_K.moved hW.alike hK⟩⟩ rfl rfl hl.1 rfl (lv_room (Nat.le_of_ble_eq_true rfl)) dX3_readOne_106 ⟨Nat.le_of_ble_eq_true rfl, Nat.le_of_ble_eq_true rfl⟩) hS (fun q _ h9 => aX_up hS q h9) (aX_up hS) (fun r_177 u t H1 locs ht _ hw hB _ hk1 hS => ?_)
                obtain ⟨fv_181, wd_182, ar_183⟩ := u
                obtain ⟨hF_fv_181, hA_ar_183, fr_184, fa_185, wf_186, p_178, p_179, p_180, -⟩ := hw
                have wf_186 : wd_182.2 = wd_172.2 := wf_186
                have hP : va_P (dC, dI) vwCl (wsX ob ad cA fv_181 wd_182 ar_183) H1 := by have h9 := hB.1; rw [ht] at h9; exact h9
                have fr_184 : fM [16] fv_171 fv_181 := fr_184
                have fa_185 : fA [41, 42, 43] ar_173 ar_183 := fa_185
                have p_180 : eC fv_181 ar_183 := p_180
                generalize H1 = H at hP hS ⊢
                rcases p_179 with ⟨rfl, p_179⟩
                · skip
                  refine lv_pop hx hb dX3_readOne_109 rfl ?_
                  refine lv_iload hx hb dX3_readOne_110 (lv_at hl 0 rfl) ?_
                  exact W.zret (v := r_164) hx hb hr (iv_nar p_165) (fun t ht hW => ⟨⟨r_164, (fv_181, wd_182, ar_183), rfl, ⟨hF_fv_181, hA_ar_183, (fM_call (fM_call (fM_call (fM_put (fM_call (fM_rf [14, 16, 17, 19, 20] _) fr_8 (by decide)) efv_135 (by decide)) fr_149 (by decide)) fr_174 (by decide)) fr_184 (by decide)), (fA_call (fA_call (fA_call (fA_call (fA_rf [41, 42, 43] _) fa_9 (by decide)) fa_150 (by decide)) fa_175 (by decide)) fa_185 (by decide)), (wf_186.trans (wf_176.trans (wf_151.trans wf_10))), p_165, (show ∀ r9 : List Bool, r9.length = 3 → rd_x T9 S9 0 ((fv 14).toInt.toNat) ((fv 17).toInt.toNat) r9 r_164 (fv_181 19) (fv_181 20) (fv_181 14) (fv_181 17) from fun r9 hr => by have : (fv_5 14).toInt = (fv 14).toInt := congrArg Int32.toInt ((fM_call (fM_rf [] _) fr_8 (by decide)) 14 rfl); have : (fv_135 14).toInt = (fv_5 14).toInt := congrArg Int32.toInt ((fM_put (fM_rf [17] _) efv_135 (by decide)) 14 rfl); have : (fv_181 14).toInt = (fv_171 14).toInt := congrArg Int32.toInt ((fM_call (fM_rf [16] _) fr_184 (by decide)) 14 rfl); have : (fv_5 17).toInt = (fv 17).toInt := congrArg Int32.toInt ((fM_call (fM_rf [] _) fr_8 (by decide)) 17 rfl); have : (fv_135 17).toInt = v_132.toInt := congrArg Int32.toInt (show fv_135 17 = v_132 from congrFun efv_135 17); have : (fv_146 17).toInt = (fv_135 17).toInt := congrArg Int32.toInt ((fM_call (fM_rf [14] _) fr_149 (by decide)) 17 rfl); have : (fv_181 17).toInt = (fv_171 17).toInt := congrArg Int32.toInt ((fM_call (fM_rf [16] _) fr_184 (by decide)) 17 rfl); have h9 := p_166 (true :: r9) (by rw [List.length_cons, hr]); rw [show fv_181 19 = fv_171 19 from ((fM_call (fM_rf [16] _) fr_184 (by decide)) 19 rfl), show fv_181 20 = fv_171 20 from ((fM_call (fM_rf [16] _) fr_184 (by decide)) 20 rfl), show fv_181 14 = fv_171 14 from ((fM_call (fM_rf [16] _) fr_184 (by decide)) 14 rfl), show fv_181 17 = fv_171 17 from ((fM_call (fM_rf [16] _) fr_184 (by decide)) 17 rfl)]; exact rd_x_up (x := true) h9 (by rw [rd_m0_not (by omega) (by rw [← zj_11]; omega) (by omega), show (fv 14).toInt.toNat + 1 = (fv_146 14).toInt.toNat from (by omega), show (fv 17).toInt.toNat + 1 = (fv_146 17).toInt.toNat from (by omega)]) (by omega)), (show r_164 = 1 → fv_181 19 = fv 19 from fun w => (show fv_181 19 = fv_171 19 from ((fM_call (fM_rf [16] _) fr_184 (by decide)) 19 rfl)).trans ((p_167 w).trans ((fM_call (fM_put (fM_call (fM_rf [14, 17] _) fr_8 (by decide)) efv_135 (by decide)) fr_149 (by decide)) 19 rfl))), (show (fv_181 14).toInt ≤ (c9 : Int) from by have : (fv_5 14).toInt = (fv 14).toInt := congrArg Int32.toInt ((fM_call (fM_rf [] _) fr_8 (by decide)) 14 rfl); have : (fv_135 14).toInt = (fv_5 14).toInt := congrArg Int32.toInt ((fM_put (fM_rf [17] _) efv_135 (by decide)) 14 rfl); have : (fv_181 14).toInt = (fv_171 14).toInt := congrArg Int32.toInt ((fM_call (fM_rf [16] _) fr_184 (by decide)) 14 rfl); have hp9 := p_168; omega), (show r_164 = 1 → (fv 17).toInt + 1 ≤ (fv_181 17).toInt from fun w => by have : (fv_5 17).toInt = (fv 17).toInt := congrArg Int32.toInt ((fM_call (fM_rf [] _) fr_8 (by decide)) 17 rfl); have : (fv_135 17).toInt = v_132.toInt := congrArg Int32.toInt (show fv_135 17 = v_132 from congrFun efv_135 17); have : (fv_146 17).toInt = (fv_135 17).toInt := congrArg Int32.toInt ((fM_call (fM_rf [14] _) fr_149 (by decide)) 17 rfl); have : (fv_181 17).toInt = (fv_171 17).toInt := congrArg Int32.toInt ((fM_call (fM_rf [16] _) fr_184 (by decide)) 17 rfl); have hi9 := p_169 (w); omega), p_180, trivial⟩, ⟨by rw [ht]; exact hP, va_K.moved hW.alike hK⟩⟩, hS.F ht⟩) hS.2.2 dX3_readOne_112
            · skip
              exact absurd True.intro (by have h7 := (⟨by decide, by decide⟩ : (10 : Int) ≤ (10 : Int32).toInt ∧ (10 : Int32).toInt ≤ 10); have h8 := h_wi; have h9 := Int32.le_iff_toInt_le.mp (Int32.not_lt.mp c_131); exfalso; omega)
        · skip
          have k_187 : ¬ j_11 = 22 := fun w => c_111 (by rw [w])
          refine lv_aload_n hx hb dX3_readOne_38 rfl (lv_at hl 1 rfl) ?_
          refine va_gets hx hb (hE.1 27 (by decide)).1 hS hown (htg (.fieldLink RX3 209 "WalkingTown$Token" "OPEN" "LWalkingTown$Token;") kw_4_148) (fun _ h9 => h9) dX3_readOne_39 ?_
          refine lv_acmp_eq (rx := some (tA j_11)) (ry := some (tA 27)) (tgt := 51) hx hb dX3_readOne_42 (by decide) (fun c_188 => ?_) (fun c_188 => ?_)
          · skip
            have k_189 : j_11 = 27 := hE.2 j_11 27 lj_11 (by decide) (Option.some.inj c_188)
            refine lv_aload_n hx hb dX3_readOne_51 rfl (lv_at hl 2 rfl) ?_
            refine gX_X3_38 hx hb htg hown hK hP dX3_readOne_52 ?_
            refine my_ti (y := fv 17) ((fr_8 17 rfl)) ?_
            have i_190 : 0 ≤ (fv 17).toInt ∧ (fv 17).toInt ≤ 50 := hF_fv 17
            refine lv_bipush (v := 50) hx hb dX3_readOne_55 (by decide) ?_
            refine lv_icmp_ge (tgt := 66) hx hb dX3_readOne_57 (by decide) (fun c_191 => ?_) (fun c_191 => ?_)
            · skip
              have i_192 : 50 ≤ (fv 17).toInt ∧ (fv 17).toInt ≤ 50 := iv_le2 (⟨by decide, by decide⟩ : (50 : Int) ≤ (50 : Int32).toInt ∧ (50 : Int32).toInt ≤ 50) i_190 c_191
              refine lv_aload_n hx hb dX3_readOne_66 rfl (lv_at hl 2 rfl) ?_
              refine lv_iconst (v := 4) hx hb dX3_readOne_67 (by decide) ?_
              have z_193 : (fv_5 14).toInt = (fv 14).toInt := congrArg Int32.toInt ((fr_8 14 rfl))
              have z_194 : 0 ≤ (fv_5 14).toInt ∧ (fv_5 14).toInt ≤ 300 := hF_fv_5 14
              refine va_calli (va_runV (As := [.int 4]) (rest := []) ⟨hx, hb, hml, hown, hts⟩ (x_failC l dC dI H.size ob ad cA hd fv_5 wd_6 ar_7 hF_fv_5 hA_ar_7 4) (cwV 1 hts (gV kw_4_110 kw_4_112 kw_p_6 kw_1_11 kw_4_113) rfl rfl rfl (by decide +kernel) ⟨Nat.le_of_ble_eq_true rfl, Nat.le_of_ble_eq_true rfl⟩) ⟨fun a U g mk q => ⟨q.1, q.2.1, q.2.2.1, va_K.moved (u := U) (U := U.calling g mk a) (Vm.Alike.refl U.vm) q.2.2.2⟩, va_recv hK hP (ci := 4) (q0 := 6) rfl rfl, fun U hU hW => ⟨rfl, by rw [hU], by rw [hU]; exact hP, va_K.moved hW.alike hK⟩⟩ rfl rfl hl.1 rfl (lv_room (Nat.le_of_ble_eq_true rfl)) dX3_readOne_68 ⟨Nat.le_of_ble_eq_true rfl, Nat.le_of_ble_eq_true rfl⟩) hS (fun q _ h9 => aX_up hS q h9) (aX_up hS) (fun r_195 u t H1 locs ht _ hw hB _ hk1 hS => ?_)
              obtain ⟨fv_200, wd_201, ar_202⟩ := u
              obtain ⟨hF_fv_200, hA_ar_202, fr_203, fa_204, wf_205, p_196, p_197, p_198, p_199, -⟩ := hw
              have wf_205 : wd_201.2 = wd_6.2 := wf_205
              have hP : va_P (dC, dI) vwCl (wsX ob ad cA fv_200 wd_201 ar_202) H1 := by have h9 := hB.1; rw [ht] at h9; exact h9
              have fr_203 : fM [19, 20] fv_5 fv_200 := fr_203
              have fa_204 : fA [] ar_7 ar_202 := fa_204
              have p_198 : fv_200 19 = (4 : Int32) := p_198
              have p_199 : fv_200 20 = ar_7 36 ((fv_5 14).toInt.toNat) := p_199
              generalize H1 = H at hP hS ⊢
              rcases p_197 with ⟨rfl, p_197⟩
              · skip
                have z_206 : (0 : Int32).toInt = 0 := by decide
                exact W.zret (v := 0) hx hb hr (by decide) (fun t ht hW => ⟨⟨0, (fv_200, wd_201, ar_202), rfl, ⟨hF_fv_200, hA_ar_202, (fM_call (fM_call (fM_rf [14, 16, 17, 19, 20] _) fr_8 (by decide)) fr_203 (by decide)), (fA_call (fA_call (fA_rf [41, 42, 43] _) fa_9 (by decide)) fa_204 (by decide)), (wf_205.trans wf_10), (iv_w (⟨by decide, by decide⟩ : (0 : Int) ≤ (0 : Int32).toInt ∧ (0 : Int32).toInt ≤ 0) (by decide) (by decide)), (show ∀ r9 : List Bool, r9.length = 3 → rd_x T9 S9 0 ((fv 14).toInt.toNat) ((fv 17).toInt.toNat) r9 (0 : Int32) (fv_200 19) (fv_200 20) (fv_200 14) (fv_200 17) from fun r9 hr => by have : (fv_5 14).toInt = (fv 14).toInt := congrArg Int32.toInt ((fM_call (fM_rf [] _) fr_8 (by decide)) 14 rfl); have : (fv_200 14).toInt = (fv_5 14).toInt := congrArg Int32.toInt ((fM_call (fM_rf [19, 20] _) fr_203 (by decide)) 14 rfl); have : (fv_5 17).toInt = (fv 17).toInt := congrArg Int32.toInt ((fM_call (fM_rf [] _) fr_8 (by decide)) 17 rfl); have : (fv_200 17).toInt = (fv_5 17).toInt := congrArg Int32.toInt ((fM_call (fM_rf [19, 20] _) fr_203 (by decide)) 17 rfl); exact rd_xF (q := (fv_5 14).toInt.toNat) (show (fv_200 19).toInt = ((4 : Nat) : Int) from by rw [show fv_200 19 = fv_200 19 from rfl, p_198]; decide) (by decide) (by rw [rd_m0_many (by omega) (by rw [← zj_11]; omega) (by omega)]; rw [show (fv 14).toInt.toNat = (fv_5 14).toInt.toNat from (by omega)]) (show (fv_200 20).toInt = (S9 ((fv_5 14).toInt.toNat) : Nat) from by rw [show fv_200 20 = fv_200 20 from rfl, p_199, show ar_7 36 = ar 36 from ((fA_call (fA_rf [] _) fa_9 (by decide)) 36 rfl)]; exact (hcx ((fv_5 14).toInt.toNat) (by omega)).2.1)), (show (0 : Int32) = 1 → fv_200 19 = fv 19 from fun w => absurd w (by decide)), (show (fv_200 14).toInt ≤ (c9 : Int) from by have : (fv_5 14).toInt = (fv 14).toInt := congrArg Int32.toInt ((fM_call (fM_rf [] _) fr_8 (by decide)) 14 rfl); have : (fv_200 14).toInt = (fv_5 14).toInt := congrArg Int32.toInt ((fM_call (fM_rf [19, 20] _) fr_203 (by decide)) 14 rfl); omega), (show (0 : Int32) = 1 → (fv 17).toInt + 1 ≤ (fv_200 17).toInt from fun w => absurd w (by decide)), (eC_fr hp_eC (fM_call (fM_call (fM_rf [19, 20] _) fr_8 (by decide)) fr_203 (by decide)) (fA_call (fA_call (fA_rf [] _) fa_9 (by decide)) fa_204 (by decide)) rfl rfl rfl), trivial⟩, ⟨by rw [ht]; exact hP, va_K.moved hW.alike hK⟩⟩, hS.F ht⟩) hS.2.2 dX3_readOne_71
            · skip
              have i_207 : 0 ≤ (fv 17).toInt ∧ (fv 17).toInt ≤ 49 := iv_lt1 i_190 (⟨by decide, by decide⟩ : (50 : Int) ≤ (50 : Int32).toInt ∧ (50 : Int32).toInt ≤ 50) (Int32.not_le.mp c_191)
              refine lv_iload_n hx hb dX3_readOne_60 rfl (lv_at hl 3 rfl) ?_
              refine lv_bipush (v := 10) hx hb dX3_readOne_61 (by decide) ?_
              refine lv_icmp_lt (tgt := 72) hx hb dX3_readOne_63 (by decide) (fun c_208 => ?_) (fun c_208 => ?_)
              · skip
                refine lv_aload_n hx hb dX3_readOne_72 rfl (lv_at hl 2 rfl) ?_
                refine lv_dup hx hb dX3_readOne_73 rfl ?_
                refine gX_X3_38 hx hb htg hown hK hP dX3_readOne_74 ?_
                refine my_ti (y := fv 17) ((fr_8 17 rfl)) ?_
                refine lv_iconst (v := 1) hx hb dX3_readOne_77 (by decide) ?_
                refine lv_iadd hx hb dX3_readOne_78 ?_
                refine lv_topi (fun v_209 ev_209 => ?_)
                have t_210 : v_209.toInt = (fv 17).toInt + 1 ∧ 1 ≤ v_209.toInt ∧ v_209.toInt ≤ 50 := iv_addc ev_209 i_207 (by decide) (by decide) (by decide)
                refine pX_X3_38 hx hb htg hown hK hP hS hd dX3_readOne_79 (fun H locs fv_212 efv_212 hP hS => ?_)
                have hF_fv_212 : rX fv_212 := rX_put hF_fv_5 efv_212 (iv_w t_210.2 (by decide) (by decide))
                refine lv_aload_n hx hb dX3_readOne_82 rfl (lv_at hl 2 rfl) ?_
                have z_213 : (fv_212 13).toInt = (fv 13).toInt := congrArg Int32.toInt ((congrFun efv_212 13).trans ((fr_8 13 rfl)))
                have z_214 : 0 ≤ (fv_212 13).toInt ∧ (fv_212 13).toInt ≤ 301 := hF_fv_212 13
                have z_215 : (fv_212 14).toInt = (fv 14).toInt := congrArg Int32.toInt ((congrFun efv_212 14).trans ((fr_8 14 rfl)))
                have z_216 : 0 ≤ (fv_212 14).toInt ∧ (fv_212 14).toInt ≤ 300 := hF_fv_212 14
                have z_217 : (fv_212 13).toInt = (fv 13).toInt := congrArg Int32.toInt ((congrFun efv_212 13).trans ((fr_8 13 rfl)))
                have z_218 : 0 ≤ (fv_212 13).toInt ∧ (fv_212 13).toInt ≤ 301 := hF_fv_212 13
                have z_219 : (fv_212 14).toInt = (fv 14).toInt := congrArg Int32.toInt ((congrFun efv_212 14).trans ((fr_8 14 rfl)))
                have z_220 : 0 ≤ (fv_212 14).toInt ∧ (fv_212 14).toInt ≤ 300 := hF_fv_212 14
                refine va_callv (va_runV (As := []) (rest := []) ⟨hx, hb, hml, hown, hts⟩ (x_stepC l dC dI H.size ob ad cA hd fv_212 wd_6 ar_7 hF_fv_212 hA_ar_7 (by have h9 := rd_lt hfin (p := (fv 14).toInt.toNat) (by omega) (by rw [← zj_11]; omega); omega)) (cwV 0 hts (gV kw_4_116 kw_4_118 kw_p_7 kw_1_11 kw_4_119) rfl rfl rfl (by decide +kernel) ⟨Nat.le_of_ble_eq_true rfl, Nat.le_of_ble_eq_true rfl⟩) ⟨fun a U g mk q => ⟨q.1, q.2.1, q.2.2.1, va_K.moved (u := U) (U := U.calling g mk a) (Vm.Alike.refl U.vm) q.2.2.2⟩, va_recv hK hP (ci := 4) (q0 := 6) rfl rfl, fun U hU hW => ⟨rfl, by rw [hU], by rw [hU]; exact hP, va_K.moved hW.alike hK⟩⟩ rfl rfl hl.1 rfl (lv_room (Nat.le_of_ble_eq_true rfl)) dX3_readOne_83 ⟨Nat.le_of_ble_eq_true rfl, Nat.le_of_ble_eq_true rfl⟩) hS (fun q _ h9 => aX_up hS q h9) (aX_up hS) (fun u t H1 locs ht _ hw hB _ hk1 hS => ?_)
                obtain ⟨fv_223, wd_224, ar_225⟩ := u
                obtain ⟨hF_fv_223, hA_ar_225, fr_226, fa_227, wf_228, p_222, -⟩ := hw
                have wf_228 : wd_224.2 = wd_6.2 := wf_228
                have hP : va_P (dC, dI) vwCl (wsX ob ad cA fv_223 wd_224 ar_225) H1 := by have h9 := hB.1; rw [ht] at h9; exact h9
                have fr_226 : fM [14] fv_212 fv_223 := fr_226
                have fa_227 : fA [] ar_7 ar_225 := fa_227
                have p_222 : (fv_223 14).toInt = (fv_212 14).toInt + 1 ∧ (fv_223 14).toInt ≤ (fv_212 13).toInt - 1 := p_222
                generalize H1 = H at hP hS ⊢
                refine lv_aload_n hx hb dX3_readOne_86 rfl (lv_at hl 1 rfl) ?_
                refine va_gets hx hb (hE.1 22 (by decide)).1 hS hown (htg (.fieldLink RX3 190 "WalkingTown$Token" "NOT" "LWalkingTown$Token;") kw_4_124) (fun _ h9 => h9) dX3_readOne_87 ?_
                refine lv_acmp_ne (rx := some (tA j_11)) (ry := some (tA 22)) (tgt := 113) hx hb dX3_readOne_90 (by decide) (fun c_229 => ?_) (fun c_229 => ?_)
                · skip
                  have k_230 : ¬ j_11 = 22 := fun w => c_229 (by rw [w])
                  refine lv_aload_n hx hb dX3_readOne_113 rfl (lv_at hl 1 rfl) ?_
                  refine va_gets hx hb (hE.1 27 (by decide)).1 hS hown (htg (.fieldLink RX3 209 "WalkingTown$Token" "OPEN" "LWalkingTown$Token;") kw_4_148) (fun _ h9 => h9) dX3_readOne_114 ?_
                  refine lv_acmp_ne (rx := some (tA j_11)) (ry := some (tA 27)) (tgt := 146) hx hb dX3_readOne_117 (by decide) (fun c_231 => ?_) (fun c_231 => ?_)
                  · skip
                    have k_232 : ¬ j_11 = 27 := fun w => c_231 (by rw [w])
                    exfalso; omega
                  · skip
                    have k_233 : j_11 = 27 := hE.2 j_11 27 lj_11 (by decide) (Option.some.inj c_231)
                    refine lv_aload_n hx hb dX3_readOne_120 rfl (lv_at hl 2 rfl) ?_
                    refine lv_iload_n hx hb dX3_readOne_121 rfl (lv_at hl 3 rfl) ?_
                    refine lv_iconst (v := 1) hx hb dX3_readOne_122 (by decide) ?_
                    refine lv_iadd hx hb dX3_readOne_123 ?_
                    refine lv_topi (fun v_234 ev_234 => ?_)
                    have t_235 : v_234.toInt = wi.toInt + 1 ∧ 4 ≤ v_234.toInt ∧ v_234.toInt ≤ 4 := iv_addc ev_234 h_wi (by decide) (by decide) (by decide)
                    have z_237 : (fv_223 13).toInt = (fv 13).toInt := congrArg Int32.toInt ((fr_226 13 rfl).trans ((congrFun efv_212 13).trans ((fr_8 13 rfl))))
                    have z_238 : 0 ≤ (fv_223 13).toInt ∧ (fv_223 13).toInt ≤ 301 := hF_fv_223 13
                    have z_239 : 0 ≤ (fv_223 14).toInt ∧ (fv_223 14).toInt ≤ 300 := hF_fv_223 14
                    have z_240 : 0 ≤ (fv_223 14).toInt ∧ (fv_223 14).toInt ≤ 300 := hF_fv_223 14
                    have z_241 : (fv_223 17).toInt = v_209.toInt := congrArg Int32.toInt ((fr_226 17 rfl).trans ((congrFun efv_212 17)))
                    have z_242 : 0 ≤ (fv_223 17).toInt ∧ (fv_223 17).toInt ≤ 50 := hF_fv_223 17
                    refine va_calli (va_runV (As := [.int v_234]) (rest := []) ⟨hx, hb, hml, hown, hts⟩ (x_readCondC_4 l dC dI H.size ob ad cA hd fv_223 wd_224 ar_225 hF_fv_223 hA_ar_225 tA (tO_w hto (wf_228.trans wf_10)) T9 S9 N9 c9 v_234 t_235.2 (rd_cx_eq hcx (congrArg (fun z => z.1) (wf_228.trans wf_10)) ((fA_call (fA_call (fA_rf [] _) fa_9 (by decide)) fa_227 (by decide)) 36 rfl) ((fA_call (fA_call (fA_rf [] _) fa_9 (by decide)) fa_227 (by decide)) 37 rfl)) (by omega) (by omega) h300 hT32 hfin (eC_fr hp_eC (fM_call (fM_put (fM_call (fM_rf [14, 17] _) fr_8 (by decide)) efv_212 (by decide)) fr_226 (by decide)) (fA_call (fA_call (fA_rf [] _) fa_9 (by decide)) fa_227 (by decide)) rfl rfl rfl)) (cwV 1 hts (gV kw_4_136 kw_4_138 kw_p_11 kw_1_11 kw_4_139) rfl rfl rfl (by decide +kernel) ⟨Nat.le_of_ble_eq_true rfl, Nat.le_of_ble_eq_true rfl⟩) ⟨fun a U g mk q => ⟨q.1, ⟨q.2.1.1, q.2.1.2.1, va_K.moved (u := U) (U := U.calling g mk a) (Vm.Alike.refl U.vm) q.2.1.2.2⟩, tk_mv (U := U.calling g mk a) rfl (Vm.Alike.refl U.vm) q.2.2⟩, va_recv hK hP (ci := 4) (q0 := 6) rfl rfl, fun U hU hW => ⟨rfl, ⟨by rw [hU], by rw [hU]; exact hP, va_K.moved hW.alike hK⟩, tk_pass hE hS hU hW.alike⟩⟩ rfl rfl hl.1 rfl (lv_room (Nat.le_of_ble_eq_true rfl)) dX3_readOne_124 ⟨Nat.le_of_ble_eq_true rfl, Nat.le_of_ble_eq_true rfl⟩) hS (fun q _ h9 => aX_up hS q h9) (aX_up hS) (fun r_243 u t H1 locs ht _ hw hB _ hk1 hS => ?_)
                    obtain ⟨fv_251, wd_252, ar_253⟩ := u
                    obtain ⟨hF_fv_251, hA_ar_253, fr_254, fa_255, wf_256, p_244, p_245, p_246, p_247, p_248, p_249, p_250, -⟩ := hw
                    have wf_256 : wd_252.2 = wd_224.2 := wf_256
                    have hP : va_P (dC, dI) vwCl (wsX ob ad cA fv_251 wd_252 ar_253) H1 := by have h9 := hB.1; rw [ht] at h9; exact h9
                    have fr_254 : fM [14, 16, 17, 19, 20] fv_223 fv_251 := fr_254
                    have fa_255 : fA [41, 42, 43] ar_225 ar_253 := fa_255
                    have p_250 : eC fv_251 ar_253 := p_250
                    have p_245 : ∀ r9 : List Bool, r9.length = 4 → rd_dn r9 = r9 → rd_x T9 S9 0 ((fv_223 14).toInt.toNat) ((fv_223 17).toInt.toNat) r9 r_243 (fv_251 19) (fv_251 20) (fv_251 14) (fv_251 17) := p_245
                    have p_246 : r_243 = 1 → fv_251 19 = fv_223 19 := p_246
                    have p_247 : (fv_251 14).toInt ≤ (c9 : Int) := p_247
                    have p_248 : r_243 = 1 → (fv_223 17).toInt + 1 ≤ (fv_251 17).toInt := p_248
                    have p_249 : r_243 = 1 → ¬ (T9 ((fv_251 14).toInt.toNat) = 24 ∨ T9 ((fv_251 14).toInt.toNat) = 25) := p_249
                    generalize H1 = H at hP hS ⊢
                    refine lv_if_eq (tgt := 144) hx hb dX3_readOne_127 (by decide) (fun c_257 => ?_) (fun c_257 => ?_)
                    · skip
                      have i_258 : 0 ≤ r_243.toInt ∧ r_243.toInt ≤ 0 := iv_eq1 (⟨by decide, by decide⟩ : (0 : Int) ≤ (0 : Int32).toInt ∧ (0 : Int32).toInt ≤ 0) c_257
                      refine lv_iconst (v := 0) hx hb dX3_readOne_144 (by decide) ?_
                      have z_260 : (0 : Int32).toInt = 0 := by decide
                      exact W.zret (v := 0) hx hb hr (by decide) (fun t ht hW => ⟨⟨0, (fv_251, wd_252, ar_253), rfl, ⟨hF_fv_251, hA_ar_253, (fM_call (fM_call (fM_put (fM_call (fM_rf [14, 16, 17, 19, 20] _) fr_8 (by decide)) efv_212 (by decide)) fr_226 (by decide)) fr_254 (by decide)), (fA_call (fA_call (fA_call (fA_rf [41, 42, 43] _) fa_9 (by decide)) fa_227 (by decide)) fa_255 (by decide)), (wf_256.trans (wf_228.trans wf_10)), (iv_w (⟨by decide, by decide⟩ : (0 : Int) ≤ (0 : Int32).toInt ∧ (0 : Int32).toInt ≤ 0) (by decide) (by decide)), (show ∀ r9 : List Bool, r9.length = 3 → rd_x T9 S9 0 ((fv 14).toInt.toNat) ((fv 17).toInt.toNat) r9 (0 : Int32) (fv_251 19) (fv_251 20) (fv_251 14) (fv_251 17) from fun r9 hr => by have : (fv_5 14).toInt = (fv 14).toInt := congrArg Int32.toInt ((fM_call (fM_rf [] _) fr_8 (by decide)) 14 rfl); have : (fv_212 14).toInt = (fv_5 14).toInt := congrArg Int32.toInt ((fM_put (fM_rf [17] _) efv_212 (by decide)) 14 rfl); have : (fv_5 17).toInt = (fv 17).toInt := congrArg Int32.toInt ((fM_call (fM_rf [] _) fr_8 (by decide)) 17 rfl); have : (fv_212 17).toInt = v_209.toInt := congrArg Int32.toInt (show fv_212 17 = v_209 from congrFun efv_212 17); have : (fv_223 17).toInt = (fv_212 17).toInt := congrArg Int32.toInt ((fM_call (fM_rf [14] _) fr_226 (by decide)) 17 rfl); have h9 := p_245 (false :: r9) (by rw [List.length_cons, hr]) rfl; have he := (by rw [rd_m0_par (by omega) (by rw [← zj_11]; omega) (by omega), show (fv 14).toInt.toNat + 1 = (fv_223 14).toInt.toNat from (by omega), show (fv 17).toInt.toNat + 1 = (fv_223 17).toInt.toNat from (by omega)] : rd_m T9 0 ((fv 14).toInt.toNat) ((fv 17).toInt.toNat) r9 = rd_m T9 0 ((fv_223 14).toInt.toNat) ((fv_223 17).toInt.toNat) (false :: r9)); rcases h9 with ⟨a, b, q, o2, c, d⟩ | ⟨a, b⟩; exact Or.inl ⟨rfl, b, q, o2, he.trans c, d⟩; exact absurd (congrArg Int32.toInt a) (by rw [show (1 : Int32).toInt = 1 from (by decide)]; omega)), (show (0 : Int32) = 1 → fv_251 19 = fv 19 from fun w => absurd w (by decide)), (show (fv_251 14).toInt ≤ (c9 : Int) from by have : (fv_5 14).toInt = (fv 14).toInt := congrArg Int32.toInt ((fM_call (fM_rf [] _) fr_8 (by decide)) 14 rfl); have : (fv_212 14).toInt = (fv_5 14).toInt := congrArg Int32.toInt ((fM_put (fM_rf [17] _) efv_212 (by decide)) 14 rfl); have hp9 := p_247; omega), (show (0 : Int32) = 1 → (fv 17).toInt + 1 ≤ (fv_251 17).toInt from fun w => absurd w (by decide)), p_250, trivial⟩, ⟨by rw [ht]; exact hP, va_K.moved hW.alike hK⟩⟩, hS.F ht⟩) hS.2.2 dX3_readOne_145
                    · skip
                      have i_261 : 1 ≤ r_243.toInt ∧ r_243.toInt ≤ 1 := iv_nel p_244 (by decide) c_257
                      have k_262 : ¬ r_243.toInt = 0 := fun q => c_257 (Int32.toInt_inj.mp q)
                      refine lv_aload_n hx hb dX3_readOne_130 rfl (lv_at hl 2 rfl) ?_
                      refine va_gets hx hb (hE.1 28 (by decide)).1 hS hown (htg (.fieldLink RX3 212 "WalkingTown$Token" "CLOSE" "LWalkingTown$Token;") kw_4_154) (fun _ h9 => h9) dX3_readOne_131 ?_
                      have z_263 : (fv_251 13).toInt = (fv 13).toInt := congrArg Int32.toInt ((fr_254 13 rfl).trans ((fr_226 13 rfl).trans ((congrFun efv_212 13).trans ((fr_8 13 rfl)))))
                      have z_264 : 0 ≤ (fv_251 13).toInt ∧ (fv_251 13).toInt ≤ 301 := hF_fv_251 13
                      have z_265 : 0 ≤ (fv_251 14).toInt ∧ (fv_251 14).toInt ≤ 300 := hF_fv_251 14
                      have z_266 : 0 ≤ (fv_251 14).toInt ∧ (fv_251 14).toInt ≤ 300 := hF_fv_251 14
                      refine va_calli (va_runV (As := [.ref (tA 28)]) (rest := []) ⟨hx, hb, hml, hown, hts⟩ (x_takeC l dC dI H.size ob ad cA hd fv_251 wd_252 ar_253 hF_fv_251 hA_ar_253 tA (tO_w hto (wf_256.trans (wf_228.trans wf_10))) (28) (by decide) T9 S9 N9 c9 (rd_cx_eq hcx (congrArg (fun z => z.1) (wf_256.trans (wf_228.trans wf_10))) ((fA_call (fA_call (fA_call (fA_rf [41, 42, 43] _) fa_9 (by decide)) fa_227 (by decide)) fa_255 (by decide)) 36 rfl) ((fA_call (fA_call (fA_call (fA_rf [41, 42, 43] _) fa_9 (by decide)) fa_227 (by decide)) fa_255 (by decide)) 37 rfl)) (by omega) (by omega) h300 hT32 hfin (by omega)) (cwV 1 hts (gV kw_4_130 kw_4_132 kw_p_10 kw_1_11 kw_4_133) rfl rfl rfl (by decide +kernel) ⟨Nat.le_of_ble_eq_true rfl, Nat.le_of_ble_eq_true rfl⟩) ⟨fun a U g mk q => ⟨q.1, ⟨q.2.1.1, q.2.1.2.1, va_K.moved (u := U) (U := U.calling g mk a) (Vm.Alike.refl U.vm) q.2.1.2.2⟩, tk_mv (U := U.calling g mk a) rfl (Vm.Alike.refl U.vm) q.2.2⟩, va_recv hK hP (ci := 4) (q0 := 6) rfl rfl, fun U hU hW => ⟨rfl, ⟨by rw [hU], by rw [hU]; exact hP, va_K.moved hW.alike hK⟩, tk_pass hE hS hU hW.alike⟩⟩ rfl rfl hl.1 rfl (lv_room (Nat.le_of_ble_eq_true rfl)) dX3_readOne_134 ⟨Nat.le_of_ble_eq_true rfl, Nat.le_of_ble_eq_true rfl⟩) hS (fun q _ h9 => aX_up hS q h9) (aX_up hS) (fun r_267 u t H1 locs ht _ hw hB _ hk1 hS => ?_)
                      obtain ⟨fv_270, wd_271, ar_272⟩ := u
                      obtain ⟨hF_fv_270, hA_ar_272, fr_273, fa_274, wf_275, p_268, p_269, -⟩ := hw
                      have wf_275 : wd_271.2 = wd_252.2 := wf_275
                      have hP : va_P (dC, dI) vwCl (wsX ob ad cA fv_270 wd_271 ar_272) H1 := by have h9 := hB.1; rw [ht] at h9; exact h9
                      have fr_273 : fM [14, 19, 20] fv_251 fv_270 := fr_273
                      have fa_274 : fA [] ar_253 ar_272 := fa_274
                      have p_269 : (r_267 = 0 ∧ ¬ T9 ((fv_251 14).toInt.toNat) = 28 ∧ fv_270 19 = 1 ∧ (fv_270 20).toInt = (S9 ((fv_251 14).toInt.toNat) : Nat) ∧ (fv_270 14).toInt = (fv_251 14).toInt) ∨ (r_267 = 1 ∧ T9 ((fv_251 14).toInt.toNat) = 28 ∧ ((fv_270 14).toInt = (fv_251 14).toInt + 1 ∧ (fv_270 14).toInt ≤ (c9 : Int)) ∧ fv_270 19 = fv_251 19) := p_269
                      generalize H1 = H at hP hS ⊢
                      refine lv_if_eq (tgt := 144) hx hb dX3_readOne_137 (by decide) (fun c_276 => ?_) (fun c_276 => ?_)
                      · skip
                        have i_277 : 0 ≤ r_267.toInt ∧ r_267.toInt ≤ 0 := iv_eq1 (⟨by decide, by decide⟩ : (0 : Int) ≤ (0 : Int32).toInt ∧ (0 : Int32).toInt ≤ 0) c_276
                        refine lv_iconst (v := 0) hx hb dX3_readOne_144 (by decide) ?_
                        have z_279 : (0 : Int32).toInt = 0 := by decide
                        exact W.zret (v := 0) hx hb hr (by decide) (fun t ht hW => ⟨⟨0, (fv_270, wd_271, ar_272), rfl, ⟨hF_fv_270, hA_ar_272, (fM_call (fM_call (fM_call (fM_put (fM_call (fM_rf [14, 16, 17, 19, 20] _) fr_8 (by decide)) efv_212 (by decide)) fr_226 (by decide)) fr_254 (by decide)) fr_273 (by decide)), (fA_call (fA_call (fA_call (fA_call (fA_rf [41, 42, 43] _) fa_9 (by decide)) fa_227 (by decide)) fa_255 (by decide)) fa_274 (by decide)), (wf_275.trans (wf_256.trans (wf_228.trans wf_10))), (iv_w (⟨by decide, by decide⟩ : (0 : Int) ≤ (0 : Int32).toInt ∧ (0 : Int32).toInt ≤ 0) (by decide) (by decide)), (show ∀ r9 : List Bool, r9.length = 3 → rd_x T9 S9 0 ((fv 14).toInt.toNat) ((fv 17).toInt.toNat) r9 (0 : Int32) (fv_270 19) (fv_270 20) (fv_270 14) (fv_270 17) from fun r9 hr => by have : (fv_5 14).toInt = (fv 14).toInt := congrArg Int32.toInt ((fM_call (fM_rf [] _) fr_8 (by decide)) 14 rfl); have : (fv_212 14).toInt = (fv_5 14).toInt := congrArg Int32.toInt ((fM_put (fM_rf [17] _) efv_212 (by decide)) 14 rfl); have : (fv_5 17).toInt = (fv 17).toInt := congrArg Int32.toInt ((fM_call (fM_rf [] _) fr_8 (by decide)) 17 rfl); have : (fv_212 17).toInt = v_209.toInt := congrArg Int32.toInt (show fv_212 17 = v_209 from congrFun efv_212 17); have : (fv_223 17).toInt = (fv_212 17).toInt := congrArg Int32.toInt ((fM_call (fM_rf [14] _) fr_226 (by decide)) 17 rfl); have : (fv_270 17).toInt = (fv_251 17).toInt := congrArg Int32.toInt ((fM_call (fM_rf [14, 19, 20] _) fr_273 (by decide)) 17 rfl); have h9 := p_245 (false :: r9) (by rw [List.length_cons, hr]) rfl; have he := (by rw [rd_m0_par (by omega) (by rw [← zj_11]; omega) (by omega), show (fv 14).toInt.toNat + 1 = (fv_223 14).toInt.toNat from (by omega), show (fv 17).toInt.toNat + 1 = (fv_223 17).toInt.toNat from (by omega)] : rd_m T9 0 ((fv 14).toInt.toNat) ((fv 17).toInt.toNat) r9 = rd_m T9 0 ((fv_223 14).toInt.toNat) ((fv_223 17).toInt.toNat) (false :: r9)); rcases h9 with ⟨a, b, q, o2, c, d⟩ | ⟨a, b⟩; exact absurd (congrArg Int32.toInt a) (by rw [show (0 : Int32).toInt = 0 from (by decide)]; omega); have hn := p_249 a; rcases p_269 with ⟨a1, b1, c1, d1, e1⟩ | ⟨a1, b1, c1, d1⟩; exact rd_xF (q := (fv_251 14).toInt.toNat) (k := 1) (show (fv_270 19).toInt = ((1 : Nat) : Int) from by rw [show fv_270 19 = fv_270 19 from rfl, c1]; decide) (by decide) (by rw [he, b, rd_m1_bad (by omega) (by omega) (by omega)]) (show (fv_270 20).toInt = _ from by rw [show fv_270 20 = fv_270 20 from rfl, d1]); exact absurd (congrArg Int32.toInt a1) (by rw [show (1 : Int32).toInt = 1 from (by decide)]; omega)), (show (0 : Int32) = 1 → fv_270 19 = fv 19 from fun w => absurd w (by decide)), (show (fv_270 14).toInt ≤ (c9 : Int) from by have : (fv_5 14).toInt = (fv 14).toInt := congrArg Int32.toInt ((fM_call (fM_rf [] _) fr_8 (by decide)) 14 rfl); have : (fv_212 14).toInt = (fv_5 14).toInt := congrArg Int32.toInt ((fM_put (fM_rf [17] _) efv_212 (by decide)) 14 rfl); have hp9 := p_247; have hq9 := p_269; omega), (show (0 : Int32) = 1 → (fv 17).toInt + 1 ≤ (fv_270 17).toInt from fun w => absurd w (by decide)), (eC_fr p_250 (fM_call (fM_rf [14, 19, 20] _) fr_273 (by decide)) (fA_call (fA_rf [] _) fa_274 (by decide)) rfl rfl rfl), trivial⟩, ⟨by rw [ht]; exact hP, va_K.moved hW.alike hK⟩⟩, hS.F ht⟩) hS.2.2 dX3_readOne_145
                      · skip
                        have i_280 : 1 ≤ r_267.toInt ∧ r_267.toInt ≤ 1 := iv_nel p_268 (by decide) c_276
                        have k_281 : ¬ r_267.toInt = 0 := fun q => c_276 (Int32.toInt_inj.mp q)
                        refine lv_iconst (v := 1) hx hb dX3_readOne_140 (by decide) ?_
                        refine lv_goto (tgt := 145) hx hb dX3_readOne_141 (by decide) ?_
                        have z_282 : (1 : Int32).toInt = 1 := by decide
                        exact W.zret (v := 1) hx hb hr (by decide) (fun t ht hW => ⟨⟨1, (fv_270, wd_271, ar_272), rfl, ⟨hF_fv_270, hA_ar_272, (fM_call (fM_call (fM_call (fM_put (fM_call (fM_rf [14, 16, 17, 19, 20] _) fr_8 (by decide)) efv_212 (by decide)) fr_226 (by decide)) fr_254 (by decide)) fr_273 (by decide)), (fA_call (fA_call (fA_call (fA_call (fA_rf [41, 42, 43] _) fa_9 (by decide)) fa_227 (by decide)) fa_255 (by decide)) fa_274 (by decide)), (wf_275.trans (wf_256.trans (wf_228.trans wf_10))), (iv_w (⟨by decide, by decide⟩ : (1 : Int) ≤ (1 : Int32).toInt ∧ (1 : Int32).toInt ≤ 1) (by decide) (by decide)), (show ∀ r9 : List Bool, r9.length = 3 → rd_x T9 S9 0 ((fv 14).toInt.toNat) ((fv 17).toInt.toNat) r9 (1 : Int32) (fv_270 19) (fv_270 20) (fv_270 14) (fv_270 17) from fun r9 hr => by have : (fv_5 14).toInt = (fv 14).toInt := congrArg Int32.toInt ((fM_call (fM_rf [] _) fr_8 (by decide)) 14 rfl); have : (fv_212 14).toInt = (fv_5 14).toInt := congrArg Int32.toInt ((fM_put (fM_rf [17] _) efv_212 (by decide)) 14 rfl); have : (fv_5 17).toInt = (fv 17).toInt := congrArg Int32.toInt ((fM_call (fM_rf [] _) fr_8 (by decide)) 17 rfl); have : (fv_212 17).toInt = v_209.toInt := congrArg Int32.toInt (show fv_212 17 = v_209 from congrFun efv_212 17); have : (fv_223 17).toInt = (fv_212 17).toInt := congrArg Int32.toInt ((fM_call (fM_rf [14] _) fr_226 (by decide)) 17 rfl); have : (fv_270 17).toInt = (fv_251 17).toInt := congrArg Int32.toInt ((fM_call (fM_rf [14, 19, 20] _) fr_273 (by decide)) 17 rfl); have h9 := p_245 (false :: r9) (by rw [List.length_cons, hr]) rfl; have he := (by rw [rd_m0_par (by omega) (by rw [← zj_11]; omega) (by omega), show (fv 14).toInt.toNat + 1 = (fv_223 14).toInt.toNat from (by omega), show (fv 17).toInt.toNat + 1 = (fv_223 17).toInt.toNat from (by omega)] : rd_m T9 0 ((fv 14).toInt.toNat) ((fv 17).toInt.toNat) r9 = rd_m T9 0 ((fv_223 14).toInt.toNat) ((fv_223 17).toInt.toNat) (false :: r9)); rcases h9 with ⟨a, b, q, o2, c, d⟩ | ⟨a, b⟩; exact absurd (congrArg Int32.toInt a) (by rw [show (0 : Int32).toInt = 0 from (by decide)]; omega); have hn := p_249 a; rcases p_269 with ⟨a1, b1, c1, d1, e1⟩ | ⟨a1, b1, c1, d1⟩; exact absurd (congrArg Int32.toInt a1) (by rw [show (0 : Int32).toInt = 0 from (by decide)]; omega); exact rd_xO (by rw [he, b, rd_m1_close (by omega) (by exact b1), show (fv_251 14).toInt.toNat + 1 = (fv_270 14).toInt.toNat from (by omega), show (fv_251 17).toInt.toNat = (fv_270 17).toInt.toNat from (by omega)])), (show (1 : Int32) = 1 → fv_270 19 = fv 19 from fun _ => by rcases p_269 with ⟨a1, b1, c1, d1, e1⟩ | ⟨a1, b1, c1, d1⟩; exact absurd (congrArg Int32.toInt a1) (by rw [show (0 : Int32).toInt = 0 from (by decide)]; omega); exact (show fv_270 19 = fv_270 19 from rfl).trans (d1.trans ((show fv_251 19 = fv_251 19 from rfl).trans ((p_246 (Int32.toInt_inj.mp (by rw [show (1 : Int32).toInt = 1 from (by decide)]; omega))).trans ((fM_call (fM_put (fM_call (fM_rf [14, 17] _) fr_8 (by decide)) efv_212 (by decide)) fr_226 (by decide)) 19 rfl))))), (show (fv_270 14).toInt ≤ (c9 : Int) from by have : (fv_5 14).toInt = (fv 14).toInt := congrArg Int32.toInt ((fM_call (fM_rf [] _) fr_8 (by decide)) 14 rfl); have : (fv_212 14).toInt = (fv_5 14).toInt := congrArg Int32.toInt ((fM_put (fM_rf [17] _) efv_212 (by decide)) 14 rfl); have hp9 := p_247; have hq9 := p_269; omega), (show (1 : Int32) = 1 → (fv 17).toInt + 1 ≤ (fv_270 17).toInt from fun w => by have : (fv_5 17).toInt = (fv 17).toInt := congrArg Int32.toInt ((fM_call (fM_rf [] _) fr_8 (by decide)) 17 rfl); have : (fv_212 17).toInt = v_209.toInt := congrArg Int32.toInt (show fv_212 17 = v_209 from congrFun efv_212 17); have : (fv_223 17).toInt = (fv_212 17).toInt := congrArg Int32.toInt ((fM_call (fM_rf [14] _) fr_226 (by decide)) 17 rfl); have : (fv_270 17).toInt = (fv_251 17).toInt := congrArg Int32.toInt ((fM_call (fM_rf [14, 19, 20] _) fr_273 (by decide)) 17 rfl); have hi9 := p_248 (Int32.toInt_inj.mp (by rw [show (1 : Int32).toInt = 1 from (by decide)]; omega)); omega), (eC_fr p_250 (fM_call (fM_rf [14, 19, 20] _) fr_273 (by decide)) (fA_call (fA_rf [] _) fa_274 (by decide)) rfl rfl rfl), trivial⟩, ⟨by rw [ht]; exact hP, va_K.moved hW.alike hK⟩⟩, hS.F ht⟩) hS.2.2 dX3_readOne_145
                · skip
                  have k_283 : j_11 = 22 := hE.2 j_11 22 lj_11 (by decide) (Option.some.inj c_229)
                  exfalso; omega
              · skip
                exact absurd True.intro (by have h7 := (⟨by decide, by decide⟩ : (10 : Int) ≤ (10 : Int32).toInt ∧ (10 : Int32).toInt ≤ 10); have h8 := h_wi; have h9 := Int32.le_iff_toInt_le.mp (Int32.not_lt.mp c_208); exfalso; omega)
          · skip
            have k_284 : ¬ j_11 = 27 := fun w => c_188 (by rw [w])
            refine lv_aload_n hx hb dX3_readOne_45 rfl (lv_at hl 2 rfl) ?_
            refine lv_iconst (v := 1) hx hb dX3_readOne_46 (by decide) ?_
            have z_285 : (fv_5 14).toInt = (fv 14).toInt := congrArg Int32.toInt ((fr_8 14 rfl))
            have z_286 : 0 ≤ (fv_5 14).toInt ∧ (fv_5 14).toInt ≤ 300 := hF_fv_5 14
            refine va_calli (va_runV (As := [.int 1]) (rest := []) ⟨hx, hb, hml, hown, hts⟩ (x_failC l dC dI H.size ob ad cA hd fv_5 wd_6 ar_7 hF_fv_5 hA_ar_7 1) (cwV 1 hts (gV kw_4_110 kw_4_112 kw_p_6 kw_1_11 kw_4_113) rfl rfl rfl (by decide +kernel) ⟨Nat.le_of_ble_eq_true rfl, Nat.le_of_ble_eq_true rfl⟩) ⟨fun a U g mk q => ⟨q.1, q.2.1, q.2.2.1, va_K.moved (u := U) (U := U.calling g mk a) (Vm.Alike.refl U.vm) q.2.2.2⟩, va_recv hK hP (ci := 4) (q0 := 6) rfl rfl, fun U hU hW => ⟨rfl, by rw [hU], by rw [hU]; exact hP, va_K.moved hW.alike hK⟩⟩ rfl rfl hl.1 rfl (lv_room (Nat.le_of_ble_eq_true rfl)) dX3_readOne_47 ⟨Nat.le_of_ble_eq_true rfl, Nat.le_of_ble_eq_true rfl⟩) hS (fun q _ h9 => aX_up hS q h9) (aX_up hS) (fun r_287 u t H1 locs ht _ hw hB _ hk1 hS => ?_)
            obtain ⟨fv_292, wd_293, ar_294⟩ := u
            obtain ⟨hF_fv_292, hA_ar_294, fr_295, fa_296, wf_297, p_288, p_289, p_290, p_291, -⟩ := hw
            have wf_297 : wd_293.2 = wd_6.2 := wf_297
            have hP : va_P (dC, dI) vwCl (wsX ob ad cA fv_292 wd_293 ar_294) H1 := by have h9 := hB.1; rw [ht] at h9; exact h9
            have fr_295 : fM [19, 20] fv_5 fv_292 := fr_295
            have fa_296 : fA [] ar_7 ar_294 := fa_296
            have p_290 : fv_292 19 = (1 : Int32) := p_290
            have p_291 : fv_292 20 = ar_7 36 ((fv_5 14).toInt.toNat) := p_291
            generalize H1 = H at hP hS ⊢
            rcases p_289 with ⟨rfl, p_289⟩
            · skip
              have z_298 : (0 : Int32).toInt = 0 := by decide
              exact W.zret (v := 0) hx hb hr (by decide) (fun t ht hW => ⟨⟨0, (fv_292, wd_293, ar_294), rfl, ⟨hF_fv_292, hA_ar_294, (fM_call (fM_call (fM_rf [14, 16, 17, 19, 20] _) fr_8 (by decide)) fr_295 (by decide)), (fA_call (fA_call (fA_rf [41, 42, 43] _) fa_9 (by decide)) fa_296 (by decide)), (wf_297.trans wf_10), (iv_w (⟨by decide, by decide⟩ : (0 : Int) ≤ (0 : Int32).toInt ∧ (0 : Int32).toInt ≤ 0) (by decide) (by decide)), (show ∀ r9 : List Bool, r9.length = 3 → rd_x T9 S9 0 ((fv 14).toInt.toNat) ((fv 17).toInt.toNat) r9 (0 : Int32) (fv_292 19) (fv_292 20) (fv_292 14) (fv_292 17) from fun r9 hr => by have : (fv_5 14).toInt = (fv 14).toInt := congrArg Int32.toInt ((fM_call (fM_rf [] _) fr_8 (by decide)) 14 rfl); have : (fv_292 14).toInt = (fv_5 14).toInt := congrArg Int32.toInt ((fM_call (fM_rf [19, 20] _) fr_295 (by decide)) 14 rfl); have : (fv_5 17).toInt = (fv 17).toInt := congrArg Int32.toInt ((fM_call (fM_rf [] _) fr_8 (by decide)) 17 rfl); have : (fv_292 17).toInt = (fv_5 17).toInt := congrArg Int32.toInt ((fM_call (fM_rf [19, 20] _) fr_295 (by decide)) 17 rfl); exact rd_xF (q := (fv_5 14).toInt.toNat) (show (fv_292 19).toInt = ((1 : Nat) : Int) from by rw [show fv_292 19 = fv_292 19 from rfl, p_290]; decide) (by decide) (by rw [rd_m0_bad (by omega) (by rw [← zj_11]; omega)]; rw [show (fv 14).toInt.toNat = (fv_5 14).toInt.toNat from (by omega)]) (show (fv_292 20).toInt = (S9 ((fv_5 14).toInt.toNat) : Nat) from by rw [show fv_292 20 = fv_292 20 from rfl, p_291, show ar_7 36 = ar 36 from ((fA_call (fA_rf [] _) fa_9 (by decide)) 36 rfl)]; exact (hcx ((fv_5 14).toInt.toNat) (by omega)).2.1)), (show (0 : Int32) = 1 → fv_292 19 = fv 19 from fun w => absurd w (by decide)), (show (fv_292 14).toInt ≤ (c9 : Int) from by have : (fv_5 14).toInt = (fv 14).toInt := congrArg Int32.toInt ((fM_call (fM_rf [] _) fr_8 (by decide)) 14 rfl); have : (fv_292 14).toInt = (fv_5 14).toInt := congrArg Int32.toInt ((fM_call (fM_rf [19, 20] _) fr_295 (by decide)) 14 rfl); omega), (show (0 : Int32) = 1 → (fv 17).toInt + 1 ≤ (fv_292 17).toInt from fun w => absurd w (by decide)), (eC_fr hp_eC (fM_call (fM_call (fM_rf [19, 20] _) fr_8 (by decide)) fr_295 (by decide)) (fA_call (fA_call (fA_rf [] _) fa_9 (by decide)) fa_296 (by decide)) rfl rfl rfl), trivial⟩, ⟨by rw [ht]; exact hP, va_K.moved hW.alike hK⟩⟩, hS.F ht⟩) hS.2.2 dX3_readOne_50
    · skip
      have i_299 : 3 ≤ v_105.toInt ∧ v_105.toInt ≤ 3 := iv_eq1 (⟨by decide, by decide⟩ : (3 : Int) ≤ (3 : Int32).toInt ∧ (3 : Int32).toInt ≤ 3) c_108
      refine lv_iconst (v := 1) hx hb dX3_readOne_21 (by decide) ?_
      refine lv_goto (tgt := 26) hx hb dX3_readOne_22 (by decide) ?_
      refine lv_istore_n (lv' := [(3, .int 1), (2, .ref (tA j_11)), (0, .ref (ob 6)), (1, .int wi)]) hx hb dX3_readOne_26 rfl hl (by decide) rfl (fun ls hl => ?_)
      refine lv_iload_n hx hb dX3_readOne_27 rfl (lv_at hl 0 rfl) ?_
      refine lv_if_ne (tgt := 51) hx hb dX3_readOne_28 (by decide) (fun c_301 => ?_) (fun c_301 => ?_)
      · skip
        refine lv_aload_n hx hb dX3_readOne_51 rfl (lv_at hl 2 rfl) ?_
        refine gX_X3_38 hx hb htg hown hK hP dX3_readOne_52 ?_
        refine my_ti (y := fv 17) ((fr_8 17 rfl)) ?_
        have i_302 : 0 ≤ (fv 17).toInt ∧ (fv 17).toInt ≤ 50 := hF_fv 17
        refine lv_bipush (v := 50) hx hb dX3_readOne_55 (by decide) ?_
        refine lv_icmp_ge (tgt := 66) hx hb dX3_readOne_57 (by decide) (fun c_303 => ?_) (fun c_303 => ?_)
        · skip
          have i_304 : 50 ≤ (fv 17).toInt ∧ (fv 17).toInt ≤ 50 := iv_le2 (⟨by decide, by decide⟩ : (50 : Int) ≤ (50 : Int32).toInt ∧ (50 : Int32).toInt ≤ 50) i_302 c_303
          refine lv_aload_n hx hb dX3_readOne_66 rfl (lv_at hl 2 rfl) ?_
          refine lv_iconst (v := 4) hx hb dX3_readOne_67 (by decide) ?_
          have z_305 : (fv_5 14).toInt = (fv 14).toInt := congrArg Int32.toInt ((fr_8 14 rfl))
          have z_306 : 0 ≤ (fv_5 14).toInt ∧ (fv_5 14).toInt ≤ 300 := hF_fv_5 14
          refine va_calli (va_runV (As := [.int 4]) (rest := []) ⟨hx, hb, hml, hown, hts⟩ (x_failC l dC dI H.size ob ad cA hd fv_5 wd_6 ar_7 hF_fv_5 hA_ar_7 4) (cwV 1 hts (gV kw_4_110 kw_4_112 kw_p_6 kw_1_11 kw_4_113) rfl rfl rfl (by decide +kernel) ⟨Nat.le_of_ble_eq_true rfl, Nat.le_of_ble_eq_true rfl⟩) ⟨fun a U g mk q => ⟨q.1, q.2.1, q.2.2.1, va_K.moved (u := U) (U := U.calling g mk a) (Vm.Alike.refl U.vm) q.2.2.2⟩, va_recv hK hP (ci := 4) (q0 := 6) rfl rfl, fun U hU hW => ⟨rfl, by rw [hU], by rw [hU]; exact hP, va_K.moved hW.alike hK⟩⟩ rfl rfl hl.1 rfl (lv_room (Nat.le_of_ble_eq_true rfl)) dX3_readOne_68 ⟨Nat.le_of_ble_eq_true rfl, Nat.le_of_ble_eq_true rfl⟩) hS (fun q _ h9 => aX_up hS q h9) (aX_up hS) (fun r_307 u t H1 locs ht _ hw hB _ hk1 hS => ?_)
          obtain ⟨fv_312, wd_313, ar_314⟩ := u
          obtain ⟨hF_fv_312, hA_ar_314, fr_315, fa_316, wf_317, p_308, p_309, p_310, p_311, -⟩ := hw
          have wf_317 : wd_313.2 = wd_6.2 := wf_317
          have hP : va_P (dC, dI) vwCl (wsX ob ad cA fv_312 wd_313 ar_314) H1 := by have h9 := hB.1; rw [ht] at h9; exact h9
          have fr_315 : fM [19, 20] fv_5 fv_312 := fr_315
          have fa_316 : fA [] ar_7 ar_314 := fa_316
          have p_310 : fv_312 19 = (4 : Int32) := p_310
          have p_311 : fv_312 20 = ar_7 36 ((fv_5 14).toInt.toNat) := p_311
          generalize H1 = H at hP hS ⊢
          rcases p_309 with ⟨rfl, p_309⟩
          · skip
            have z_318 : (0 : Int32).toInt = 0 := by decide
            exact W.zret (v := 0) hx hb hr (by decide) (fun t ht hW => ⟨⟨0, (fv_312, wd_313, ar_314), rfl, ⟨hF_fv_312, hA_ar_314, (fM_call (fM_call (fM_rf [14, 16, 17, 19, 20] _) fr_8 (by decide)) fr_315 (by decide)), (fA_call (fA_call (fA_rf [41, 42, 43] _) fa_9 (by decide)) fa_316 (by decide)), (wf_317.trans wf_10), (iv_w (⟨by decide, by decide⟩ : (0 : Int) ≤ (0 : Int32).toInt ∧ (0 : Int32).toInt ≤ 0) (by decide) (by decide)), (show ∀ r9 : List Bool, r9.length = 3 → rd_x T9 S9 0 ((fv 14).toInt.toNat) ((fv 17).toInt.toNat) r9 (0 : Int32) (fv_312 19) (fv_312 20) (fv_312 14) (fv_312 17) from fun r9 hr => by have : (fv_5 14).toInt = (fv 14).toInt := congrArg Int32.toInt ((fM_call (fM_rf [] _) fr_8 (by decide)) 14 rfl); have : (fv_312 14).toInt = (fv_5 14).toInt := congrArg Int32.toInt ((fM_call (fM_rf [19, 20] _) fr_315 (by decide)) 14 rfl); have : (fv_5 17).toInt = (fv 17).toInt := congrArg Int32.toInt ((fM_call (fM_rf [] _) fr_8 (by decide)) 17 rfl); have : (fv_312 17).toInt = (fv_5 17).toInt := congrArg Int32.toInt ((fM_call (fM_rf [19, 20] _) fr_315 (by decide)) 17 rfl); exact rd_xF (q := (fv_5 14).toInt.toNat) (show (fv_312 19).toInt = ((4 : Nat) : Int) from by rw [show fv_312 19 = fv_312 19 from rfl, p_310]; decide) (by decide) (by rw [rd_m0_many (by omega) (by rw [← zj_11]; omega) (by omega)]; rw [show (fv 14).toInt.toNat = (fv_5 14).toInt.toNat from (by omega)]) (show (fv_312 20).toInt = (S9 ((fv_5 14).toInt.toNat) : Nat) from by rw [show fv_312 20 = fv_312 20 from rfl, p_311, show ar_7 36 = ar 36 from ((fA_call (fA_rf [] _) fa_9 (by decide)) 36 rfl)]; exact (hcx ((fv_5 14).toInt.toNat) (by omega)).2.1)), (show (0 : Int32) = 1 → fv_312 19 = fv 19 from fun w => absurd w (by decide)), (show (fv_312 14).toInt ≤ (c9 : Int) from by have : (fv_5 14).toInt = (fv 14).toInt := congrArg Int32.toInt ((fM_call (fM_rf [] _) fr_8 (by decide)) 14 rfl); have : (fv_312 14).toInt = (fv_5 14).toInt := congrArg Int32.toInt ((fM_call (fM_rf [19, 20] _) fr_315 (by decide)) 14 rfl); omega), (show (0 : Int32) = 1 → (fv 17).toInt + 1 ≤ (fv_312 17).toInt from fun w => absurd w (by decide)), (eC_fr hp_eC (fM_call (fM_call (fM_rf [19, 20] _) fr_8 (by decide)) fr_315 (by decide)) (fA_call (fA_call (fA_rf [] _) fa_9 (by decide)) fa_316 (by decide)) rfl rfl rfl), trivial⟩, ⟨by rw [ht]; exact hP, va_K.moved hW.alike hK⟩⟩, hS.F ht⟩) hS.2.2 dX3_readOne_71
        · skip
          have i_319 : 0 ≤ (fv 17).toInt ∧ (fv 17).toInt ≤ 49 := iv_lt1 i_302 (⟨by decide, by decide⟩ : (50 : Int) ≤ (50 : Int32).toInt ∧ (50 : Int32).toInt ≤ 50) (Int32.not_le.mp c_303)
          refine lv_iload_n hx hb dX3_readOne_60 rfl (lv_at hl 3 rfl) ?_
          refine lv_bipush (v := 10) hx hb dX3_readOne_61 (by decide) ?_
          refine lv_icmp_lt (tgt := 72) hx hb dX3_readOne_63 (by decide) (fun c_320 => ?_) (fun c_320 => ?_)
          · skip
            refine lv_aload_n hx hb dX3_readOne_72 rfl (lv_at hl 2 rfl) ?_
            refine lv_dup hx hb dX3_readOne_73 rfl ?_
            refine gX_X3_38 hx hb htg hown hK hP dX3_readOne_74 ?_
            refine my_ti (y := fv 17) ((fr_8 17 rfl)) ?_
            refine lv_iconst (v := 1) hx hb dX3_readOne_77 (by decide) ?_
            refine lv_iadd hx hb dX3_readOne_78 ?_
            refine lv_topi (fun v_321 ev_321 => ?_)
            have t_322 : v_321.toInt = (fv 17).toInt + 1 ∧ 1 ≤ v_321.toInt ∧ v_321.toInt ≤ 50 := iv_addc ev_321 i_319 (by decide) (by decide) (by decide)
            refine pX_X3_38 hx hb htg hown hK hP hS hd dX3_readOne_79 (fun H locs fv_324 efv_324 hP hS => ?_)
            have hF_fv_324 : rX fv_324 := rX_put hF_fv_5 efv_324 (iv_w t_322.2 (by decide) (by decide))
            refine lv_aload_n hx hb dX3_readOne_82 rfl (lv_at hl 2 rfl) ?_
            have z_325 : (fv_324 13).toInt = (fv 13).toInt := congrArg Int32.toInt ((congrFun efv_324 13).trans ((fr_8 13 rfl)))
            have z_326 : 0 ≤ (fv_324 13).toInt ∧ (fv_324 13).toInt ≤ 301 := hF_fv_324 13
            have z_327 : (fv_324 14).toInt = (fv 14).toInt := congrArg Int32.toInt ((congrFun efv_324 14).trans ((fr_8 14 rfl)))
            have z_328 : 0 ≤ (fv_324 14).toInt ∧ (fv_324 14).toInt ≤ 300 := hF_fv_324 14
            have z_329 : (fv_324 13).toInt = (fv 13).toInt := congrArg Int32.toInt ((congrFun efv_324 13).trans ((fr_8 13 rfl)))
            have z_330 : 0 ≤ (fv_324 13).toInt ∧ (fv_324 13).toInt ≤ 301 := hF_fv_324 13
            have z_331 : (fv_324 14).toInt = (fv 14).toInt := congrArg Int32.toInt ((congrFun efv_324 14).trans ((fr_8 14 rfl)))
            have z_332 : 0 ≤ (fv_324 14).toInt ∧ (fv_324 14).toInt ≤ 300 := hF_fv_324 14
            refine va_callv (va_runV (As := []) (rest := []) ⟨hx, hb, hml, hown, hts⟩ (x_stepC l dC dI H.size ob ad cA hd fv_324 wd_6 ar_7 hF_fv_324 hA_ar_7 (by have h9 := rd_lt hfin (p := (fv 14).toInt.toNat) (by omega) (by rw [← zj_11]; omega); omega)) (cwV 0 hts (gV kw_4_116 kw_4_118 kw_p_7 kw_1_11 kw_4_119) rfl rfl rfl (by decide +kernel) ⟨Nat.le_of_ble_eq_true rfl, Nat.le_of_ble_eq_true rfl⟩) ⟨fun a U g mk q => ⟨q.1, q.2.1, q.2.2.1, va_K.moved (u := U) (U := U.calling g mk a) (Vm.Alike.refl U.vm) q.2.2.2⟩, va_recv hK hP (ci := 4) (q0 := 6) rfl rfl, fun U hU hW => ⟨rfl, by rw [hU], by rw [hU]; exact hP, va_K.moved hW.alike hK⟩⟩ rfl rfl hl.1 rfl (lv_room (Nat.le_of_ble_eq_true rfl)) dX3_readOne_83 ⟨Nat.le_of_ble_eq_true rfl, Nat.le_of_ble_eq_true rfl⟩) hS (fun q _ h9 => aX_up hS q h9) (aX_up hS) (fun u t H1 locs ht _ hw hB _ hk1 hS => ?_)
            obtain ⟨fv_335, wd_336, ar_337⟩ := u
            obtain ⟨hF_fv_335, hA_ar_337, fr_338, fa_339, wf_340, p_334, -⟩ := hw
            have wf_340 : wd_336.2 = wd_6.2 := wf_340
            have hP : va_P (dC, dI) vwCl (wsX ob ad cA fv_335 wd_336 ar_337) H1 := by have h9 := hB.1; rw [ht] at h9; exact h9
            have fr_338 : fM [14] fv_324 fv_335 := fr_338
            have fa_339 : fA [] ar_7 ar_337 := fa_339
            have p_334 : (fv_335 14).toInt = (fv_324 14).toInt + 1 ∧ (fv_335 14).toInt ≤ (fv_324 13).toInt - 1 := p_334
            generalize H1 = H at hP hS ⊢
            refine lv_aload_n hx hb dX3_readOne_86 rfl (lv_at hl 1 rfl) ?_
            refine va_gets hx hb (hE.1 22 (by decide)).1 hS hown (htg (.fieldLink RX3 190 "WalkingTown$Token" "NOT" "LWalkingTown$Token;") kw_4_124) (fun _ h9 => h9) dX3_readOne_87 ?_
            refine lv_acmp_ne (rx := some (tA j_11)) (ry := some (tA 22)) (tgt := 113) hx hb dX3_readOne_90 (by decide) (fun c_341 => ?_) (fun c_341 => ?_)
            · skip
              have k_342 : ¬ j_11 = 22 := fun w => c_341 (by rw [w])
              refine lv_aload_n hx hb dX3_readOne_113 rfl (lv_at hl 1 rfl) ?_
              refine va_gets hx hb (hE.1 27 (by decide)).1 hS hown (htg (.fieldLink RX3 209 "WalkingTown$Token" "OPEN" "LWalkingTown$Token;") kw_4_148) (fun _ h9 => h9) dX3_readOne_114 ?_
              refine lv_acmp_ne (rx := some (tA j_11)) (ry := some (tA 27)) (tgt := 146) hx hb dX3_readOne_117 (by decide) (fun c_343 => ?_) (fun c_343 => ?_)
              · skip
                have k_344 : ¬ j_11 = 27 := fun w => c_343 (by rw [w])
                refine lv_aload_n hx hb dX3_readOne_146 rfl (lv_at hl 1 rfl) ?_
                refine va_getE hx hb hE lj_11 hS hown (q := tkrole) (List.mem_cons_self ..) (htg (.fieldLink RX3 162 "WalkingTown$Token" "role" "I") kw_9_66) (fun _ h9 => h9) dX3_readOne_147 ?_
                refine lv_topi (fun v_345 ev_345 => ?_)
                have i_346 : 0 ≤ v_345.toInt ∧ v_345.toInt ≤ 11 := ev_345 ▸ tk_role j_11
                have k_347 := rd_role lj_11 ev_345
                refine lv_iconst (v := 2) hx hb dX3_readOne_150 (by decide) ?_
                refine lv_icmp_ne (tgt := 167) hx hb dX3_readOne_151 (by decide) (fun c_348 => ?_) (fun c_348 => ?_)
                · skip
                  have k_349 : ¬ v_345.toInt = 2 := fun q => c_348 (Int32.toInt_inj.mp q)
                  refine lv_aload_n hx hb dX3_readOne_167 rfl (lv_at hl 2 rfl) ?_
                  refine lv_aload_n hx hb dX3_readOne_168 rfl (lv_at hl 1 rfl) ?_
                  refine va_getE hx hb hE lj_11 hS hown (q := tkcode) (List.mem_cons_of_mem _ (List.mem_cons_self ..)) (htg (.fieldLink RX3 168 "WalkingTown$Token" "code" "I") kw_9_67) (fun _ h9 => h9) dX3_readOne_169 ?_
                  refine lv_topi (fun v_350 ev_350 => ?_)
                  have i_351 : 0 ≤ v_350.toInt ∧ v_350.toInt ≤ 11 := ev_350 ▸ tk_code j_11
                  have z_352 : (fv_335 13).toInt = (fv 13).toInt := congrArg Int32.toInt ((fr_338 13 rfl).trans ((congrFun efv_324 13).trans ((fr_8 13 rfl))))
                  have z_353 : 0 ≤ (fv_335 13).toInt ∧ (fv_335 13).toInt ≤ 301 := hF_fv_335 13
                  have z_354 : 0 ≤ (fv_335 14).toInt ∧ (fv_335 14).toInt ≤ 300 := hF_fv_335 14
                  have z_355 : 0 ≤ (fv_335 14).toInt ∧ (fv_335 14).toInt ≤ 300 := hF_fv_335 14
                  have z_356 : (fv_335 17).toInt = v_321.toInt := congrArg Int32.toInt ((fr_338 17 rfl).trans ((congrFun efv_324 17)))
                  have z_357 : 0 ≤ (fv_335 17).toInt ∧ (fv_335 17).toInt ≤ 50 := hF_fv_335 17
                  refine va_calli (va_runV (As := [.int v_350]) (rest := []) ⟨hx, hb, hml, hown, hts⟩ (x_readSignC l dC dI H.size ob ad cA hd fv_335 wd_336 ar_337 hF_fv_335 hA_ar_337 tA (tO_w hto (wf_340.trans wf_10)) T9 S9 N9 c9 v_350 i_351 (rd_cx_eq hcx (congrArg (fun z => z.1) (wf_340.trans wf_10)) ((fA_call (fA_call (fA_rf [] _) fa_9 (by decide)) fa_339 (by decide)) 36 rfl) ((fA_call (fA_call (fA_rf [] _) fa_9 (by decide)) fa_339 (by decide)) 37 rfl)) (by omega) (by omega) h300 hT32 hfin (eC_fr hp_eC (fM_call (fM_put (fM_call (fM_rf [14, 17] _) fr_8 (by decide)) efv_324 (by decide)) fr_338 (by decide)) (fA_call (fA_call (fA_rf [] _) fa_9 (by decide)) fa_339 (by decide)) rfl rfl rfl)) (cwV 1 hts (gV kw_4_156 kw_4_158 kw_p_15 kw_1_11 kw_4_159) rfl rfl rfl (by decide +kernel) ⟨Nat.le_of_ble_eq_true rfl, Nat.le_of_ble_eq_true rfl⟩) ⟨fun a U g mk q => ⟨q.1, ⟨q.2.1.1, q.2.1.2.1, va_K.moved (u := U) (U := U.calling g mk a) (Vm.Alike.refl U.vm) q.2.1.2.2⟩, tk_mv (U := U.calling g mk a) rfl (Vm.Alike.refl U.vm) q.2.2⟩, va_recv hK hP (ci := 4) (q0 := 6) rfl rfl, fun U hU hW => ⟨rfl, ⟨by rw [hU], by rw [hU]; exact hP, va_K.moved hW.alike hK⟩, tk_pass hE hS hU hW.alike⟩⟩ rfl rfl hl.1 rfl (lv_room (Nat.le_of_ble_eq_true rfl)) dX3_readOne_172 ⟨Nat.le_of_ble_eq_true rfl, Nat.le_of_ble_eq_true rfl⟩) hS (fun q _ h9 => aX_up hS q h9) (aX_up hS) (fun r_358 u t H1 locs ht _ hw hB _ hk1 hS => ?_)
                  obtain ⟨fv_364, wd_365, ar_366⟩ := u
                  obtain ⟨hF_fv_364, hA_ar_366, fr_367, fa_368, wf_369, p_359, p_360, p_361, p_362, p_363, -⟩ := hw
                  have wf_369 : wd_365.2 = wd_336.2 := wf_369
                  have hP : va_P (dC, dI) vwCl (wsX ob ad cA fv_364 wd_365 ar_366) H1 := by have h9 := hB.1; rw [ht] at h9; exact h9
                  have fr_367 : fM [14, 16, 19, 20] fv_335 fv_364 := fr_367
                  have fa_368 : fA [41, 42, 43] ar_337 ar_366 := fa_368
                  have p_363 : eC fv_364 ar_366 := p_363
                  have p_360 : ∀ r9 : List Bool, rd_x T9 S9 2 ((fv_335 14).toInt.toNat) ((fv_335 17).toInt.toNat) r9 r_358 (fv_364 19) (fv_364 20) (fv_364 14) (fv_364 17) := p_360
                  have p_361 : r_358 = 1 → fv_364 19 = fv_335 19 := p_361
                  have p_362 : (fv_364 14).toInt ≤ (c9 : Int) := p_362
                  generalize H1 = H at hP hS ⊢
                  exact W.zret (v := r_358) hx hb hr (iv_nar p_359) (fun t ht hW => ⟨⟨r_358, (fv_364, wd_365, ar_366), rfl, ⟨hF_fv_364, hA_ar_366, (fM_call (fM_call (fM_put (fM_call (fM_rf [14, 16, 17, 19, 20] _) fr_8 (by decide)) efv_324 (by decide)) fr_338 (by decide)) fr_367 (by decide)), (fA_call (fA_call (fA_call (fA_rf [41, 42, 43] _) fa_9 (by decide)) fa_339 (by decide)) fa_368 (by decide)), (wf_369.trans (wf_340.trans wf_10)), p_359, (show ∀ r9 : List Bool, r9.length = 3 → rd_x T9 S9 0 ((fv 14).toInt.toNat) ((fv 17).toInt.toNat) r9 r_358 (fv_364 19) (fv_364 20) (fv_364 14) (fv_364 17) from fun r9 hr => by have : (fv_5 14).toInt = (fv 14).toInt := congrArg Int32.toInt ((fM_call (fM_rf [] _) fr_8 (by decide)) 14 rfl); have : (fv_324 14).toInt = (fv_5 14).toInt := congrArg Int32.toInt ((fM_put (fM_rf [17] _) efv_324 (by decide)) 14 rfl); have : (fv_5 17).toInt = (fv 17).toInt := congrArg Int32.toInt ((fM_call (fM_rf [] _) fr_8 (by decide)) 17 rfl); have : (fv_324 17).toInt = v_321.toInt := congrArg Int32.toInt (show fv_324 17 = v_321 from congrFun efv_324 17); have : (fv_335 17).toInt = (fv_324 17).toInt := congrArg Int32.toInt ((fM_call (fM_rf [14] _) fr_338 (by decide)) 17 rfl); have : (fv_364 17).toInt = (fv_335 17).toInt := congrArg Int32.toInt ((fM_call (fM_rf [14, 16, 19, 20] _) fr_367 (by decide)) 17 rfl); have h9 := p_360 r9; exact rd_x_of h9 (by rw [rd_m0_fact (by omega) (by rw [← zj_11]; omega) (by omega), show (fv 14).toInt.toNat + 1 = (fv_335 14).toInt.toNat from (by omega), show (fv 17).toInt.toNat + 1 = (fv_335 17).toInt.toNat from (by omega)])), (show r_358 = 1 → fv_364 19 = fv 19 from fun w => (show fv_364 19 = fv_364 19 from rfl).trans ((p_361 w).trans ((fM_call (fM_put (fM_call (fM_rf [14, 17] _) fr_8 (by decide)) efv_324 (by decide)) fr_338 (by decide)) 19 rfl))), (show (fv_364 14).toInt ≤ (c9 : Int) from by have : (fv_5 14).toInt = (fv 14).toInt := congrArg Int32.toInt ((fM_call (fM_rf [] _) fr_8 (by decide)) 14 rfl); have : (fv_324 14).toInt = (fv_5 14).toInt := congrArg Int32.toInt ((fM_put (fM_rf [17] _) efv_324 (by decide)) 14 rfl); have hp9 := p_362; omega), (show r_358 = 1 → (fv 17).toInt + 1 ≤ (fv_364 17).toInt from fun w => by have : (fv_5 17).toInt = (fv 17).toInt := congrArg Int32.toInt ((fM_call (fM_rf [] _) fr_8 (by decide)) 17 rfl); have : (fv_324 17).toInt = v_321.toInt := congrArg Int32.toInt (show fv_324 17 = v_321 from congrFun efv_324 17); have : (fv_335 17).toInt = (fv_324 17).toInt := congrArg Int32.toInt ((fM_call (fM_rf [14] _) fr_338 (by decide)) 17 rfl); have : (fv_364 17).toInt = (fv_335 17).toInt := congrArg Int32.toInt ((fM_call (fM_rf [14, 16, 19, 20] _) fr_367 (by decide)) 17 rfl); have hi9 : (fv_364 17).toInt = (fv_335 17).toInt := congrArg Int32.toInt ((fM_call (fM_rf [14, 16, 19, 20] _) fr_367 (by decide)) 17 rfl); omega), p_363, trivial⟩, ⟨by rw [ht]; exact hP, va_K.moved hW.alike hK⟩⟩, hS.F ht⟩) hS.2.2 dX3_readOne_175
                · skip
                  have i_370 : 2 ≤ v_345.toInt ∧ v_345.toInt ≤ 2 := iv_eq1 (⟨by decide, by decide⟩ : (2 : Int) ≤ (2 : Int32).toInt ∧ (2 : Int32).toInt ≤ 2) c_348
                  refine lv_aload_n hx hb dX3_readOne_154 rfl (lv_at hl 2 rfl) ?_
                  refine lv_iconst (v := 2) hx hb dX3_readOne_155 (by decide) ?_
                  refine lv_aload_n hx hb dX3_readOne_156 rfl (lv_at hl 1 rfl) ?_
                  refine va_getE hx hb hE lj_11 hS hown (q := tkcode) (List.mem_cons_of_mem _ (List.mem_cons_self ..)) (htg (.fieldLink RX3 168 "WalkingTown$Token" "code" "I") kw_9_67) (fun _ h9 => h9) dX3_readOne_157 ?_
                  refine lv_topi (fun v_372 ev_372 => ?_)
                  have i_373 : 0 ≤ v_372.toInt ∧ v_372.toInt ≤ 11 := ev_372 ▸ tk_code j_11
                  refine lv_iconst (v := 0) hx hb dX3_readOne_160 (by decide) ?_
                  refine va_calli (va_runV (As := [.int 2, .int v_372, .int 0]) (rest := []) ⟨hx, hb, hml, hown, hts⟩ (x_addCode l dC dI H.size ob ad cA hd fv_335 wd_336 ar_337 hF_fv_335 hA_ar_337 2 v_372 0 i_373 (eC_fr hp_eC (fM_call (fM_put (fM_call (fM_rf [14, 17] _) fr_8 (by decide)) efv_324 (by decide)) fr_338 (by decide)) (fA_call (fA_call (fA_rf [] _) fa_9 (by decide)) fa_339 (by decide)) rfl rfl rfl)) (cwV 3 hts (gV kw_4_150 kw_4_152 kw_p_14 kw_1_11 kw_4_153) rfl rfl rfl (by decide +kernel) ⟨Nat.le_of_ble_eq_true rfl, Nat.le_of_ble_eq_true rfl⟩) ⟨fun a U g mk q => ⟨q.1, q.2.1, q.2.2.1, va_K.moved (u := U) (U := U.calling g mk a) (Vm.Alike.refl U.vm) q.2.2.2⟩, va_recv hK hP (ci := 4) (q0 := 6) rfl rfl, fun U hU hW => ⟨rfl, by rw [hU], by rw [hU]; exact hP, va_K.moved hW.alike hK⟩⟩ rfl rfl hl.1 rfl (lv_room (Nat.le_of_ble_eq_true rfl)) dX3_readOne_161 ⟨Nat.le_of_ble_eq_true rfl, Nat.le_of_ble_eq_true rfl⟩) hS (fun q _ h9 => aX_up hS q h9) (aX_up hS) (fun r_374 u t H1 locs ht _ hw hB _ hk1 hS => ?_)
                  obtain ⟨fv_378, wd_379, ar_380⟩ := u
                  obtain ⟨hF_fv_378, hA_ar_380, fr_381, fa_382, wf_383, p_375, p_376, p_377, -⟩ := hw
                  have wf_383 : wd_379.2 = wd_336.2 := wf_383
                  have hP : va_P (dC, dI) vwCl (wsX ob ad cA fv_378 wd_379 ar_380) H1 := by have h9 := hB.1; rw [ht] at h9; exact h9
                  have fr_381 : fM [16] fv_335 fv_378 := fr_381
                  have fa_382 : fA [41, 42, 43] ar_337 ar_380 := fa_382
                  have p_377 : eC fv_378 ar_380 := p_377
                  generalize H1 = H at hP hS ⊢
                  rcases p_376 with ⟨rfl, p_376⟩
                  · skip
                    refine lv_goto (tgt := 175) hx hb dX3_readOne_164 (by decide) ?_
                    have z_384 : (1 : Int32).toInt = 1 := by decide
                    exact W.zret (v := 1) hx hb hr (by decide) (fun t ht hW => ⟨⟨1, (fv_378, wd_379, ar_380), rfl, ⟨hF_fv_378, hA_ar_380, (fM_call (fM_call (fM_put (fM_call (fM_rf [14, 16, 17, 19, 20] _) fr_8 (by decide)) efv_324 (by decide)) fr_338 (by decide)) fr_381 (by decide)), (fA_call (fA_call (fA_call (fA_rf [41, 42, 43] _) fa_9 (by decide)) fa_339 (by decide)) fa_382 (by decide)), (wf_383.trans (wf_340.trans wf_10)), (iv_w (⟨by decide, by decide⟩ : (1 : Int) ≤ (1 : Int32).toInt ∧ (1 : Int32).toInt ≤ 1) (by decide) (by decide)), (show ∀ r9 : List Bool, r9.length = 3 → rd_x T9 S9 0 ((fv 14).toInt.toNat) ((fv 17).toInt.toNat) r9 (1 : Int32) (fv_378 19) (fv_378 20) (fv_378 14) (fv_378 17) from fun r9 hr => by have : (fv_5 14).toInt = (fv 14).toInt := congrArg Int32.toInt ((fM_call (fM_rf [] _) fr_8 (by decide)) 14 rfl); have : (fv_324 14).toInt = (fv_5 14).toInt := congrArg Int32.toInt ((fM_put (fM_rf [17] _) efv_324 (by decide)) 14 rfl); have : (fv_378 14).toInt = (fv_335 14).toInt := congrArg Int32.toInt ((fM_call (fM_rf [16] _) fr_381 (by decide)) 14 rfl); have : (fv_5 17).toInt = (fv 17).toInt := congrArg Int32.toInt ((fM_call (fM_rf [] _) fr_8 (by decide)) 17 rfl); have : (fv_324 17).toInt = v_321.toInt := congrArg Int32.toInt (show fv_324 17 = v_321 from congrFun efv_324 17); have : (fv_335 17).toInt = (fv_324 17).toInt := congrArg Int32.toInt ((fM_call (fM_rf [14] _) fr_338 (by decide)) 17 rfl); have : (fv_378 17).toInt = (fv_335 17).toInt := congrArg Int32.toInt ((fM_call (fM_rf [16] _) fr_381 (by decide)) 17 rfl); exact rd_xO (by rw [rd_m0_flag (by omega) (by rw [← zj_11]; omega) (by omega), show (fv 14).toInt.toNat + 1 = (fv_378 14).toInt.toNat from (by omega), show (fv 17).toInt.toNat + 1 = (fv_378 17).toInt.toNat from (by omega)])), (show (1 : Int32) = 1 → fv_378 19 = fv 19 from fun _ => ((fM_call (fM_call (fM_put (fM_call (fM_rf [14, 16, 17] _) fr_8 (by decide)) efv_324 (by decide)) fr_338 (by decide)) fr_381 (by decide)) 19 rfl)), (show (fv_378 14).toInt ≤ (c9 : Int) from by have : (fv_5 14).toInt = (fv 14).toInt := congrArg Int32.toInt ((fM_call (fM_rf [] _) fr_8 (by decide)) 14 rfl); have : (fv_324 14).toInt = (fv_5 14).toInt := congrArg Int32.toInt ((fM_put (fM_rf [17] _) efv_324 (by decide)) 14 rfl); have : (fv_378 14).toInt = (fv_335 14).toInt := congrArg Int32.toInt ((fM_call (fM_rf [16] _) fr_381 (by decide)) 14 rfl); omega), (show (1 : Int32) = 1 → (fv 17).toInt + 1 ≤ (fv_378 17).toInt from fun w => by have : (fv_5 17).toInt = (fv 17).toInt := congrArg Int32.toInt ((fM_call (fM_rf [] _) fr_8 (by decide)) 17 rfl); have : (fv_324 17).toInt = v_321.toInt := congrArg Int32.toInt (show fv_324 17 = v_321 from congrFun efv_324 17); have : (fv_335 17).toInt = (fv_324 17).toInt := congrArg Int32.toInt ((fM_call (fM_rf [14] _) fr_338 (by decide)) 17 rfl); have : (fv_378 17).toInt = (fv_335 17).toInt := congrArg Int32.toInt ((fM_call (fM_rf [16] _) fr_381 (by decide)) 17 rfl); omega), p_377, trivial⟩, ⟨by rw [ht]; exact hP, va_K.moved hW.alike hK⟩⟩, hS.F ht⟩) hS.2.2 dX3_readOne_175
              · skip
                have k_385 : j_11 = 27 := hE.2 j_11 27 lj_11 (by decide) (Option.some.inj c_343)
                exfalso; omega
            · skip
              have k_386 : j_11 = 22 := hE.2 j_11 22 lj_11 (by decide) (Option.some.inj c_341)
              exfalso; omega
          · skip
            exact absurd True.intro (by have h7 := (⟨by decide, by decide⟩ : (10 : Int) ≤ (10 : Int32).toInt ∧ (10 : Int32).toInt ≤ 10); have h8 := h_wi; have h9 := Int32.le_iff_toInt_le.mp (Int32.not_lt.mp c_320); exfalso; omega)
      · skip
        exact absurd c_301 (by decide)
set_option maxHeartbeats 4000000 in
set_option maxRecDepth 100000 in
theorem x_readAllC_3 (l : Launch) (dC : Nat → ClassId) (dI : Nat → Nat → Nat) (sz : Nat) (ob ad : Nat → Nat) (cA : Nat → ClassId) (hd : dX ob ad) (fv : Nat → Int32) (wd : xT) (ar : Nat → Nat → Int32) (hF_fv : rX fv) (hA_ar : rB ar) (tA : Nat → Nat) (hto : tO tA wd.2.1) (T9 : Nat → Nat) (S9 : Nat → Nat) (N9 : Nat → Int) (c9 : Nat) (wi : Int32) (h_wi : 3 ≤ wi.toInt ∧ wi.toInt ≤ 3) (hcx : rd_cx tA T9 S9 N9 c9 wd.2.1 (ar 36) (ar 37)) (htc : (fv 13).toInt = (c9 : Int) + 1) (hpl : (fv 14).toInt ≤ (c9 : Int)) (h300 : c9 ≤ 300) (hT32 : ∀ k, T9 k < 32) (hfin : T9 c9 = 30 ∨ T9 c9 = 31) (hp_eC : eC fv ar) : Met l yX3_readAll (.code yX3_readAll cX3_readAll 3 (some .boolean) :: lw_good) ({ frames := 25, cells := 0, slots := 0, locals := 561 }) (va_Pc [.ref (ob 6), .int wi] (fun U => prX dC dI ob ad cA fv wd ar sz U ∧ tkA ob ad tA sz U)) (va_Qi (fun (r : Int32) (u : xS) => rX u.1 ∧ rB u.2.2 ∧ fM [14, 16, 17, 19, 20] fv u.1 ∧ fA [41, 42, 43] ar u.2.2 ∧ u.2.1.2 = wd.2 ∧ (0 ≤ r.toInt ∧ r.toInt ≤ 1) ∧ (∀ r9 : List Bool, r9.length = 3 → rd_dn r9 = r9 → rd_x T9 S9 0 ((fv 14).toInt.toNat) ((fv 17).toInt.toNat) r9 r (u.1 19) (u.1 20) (u.1 14) (u.1 17)) ∧ (r = 1 → u.1 19 = fv 19) ∧ ((u.1 14).toInt ≤ (c9 : Int)) ∧ (r = 1 → (fv 17).toInt + 1 ≤ (u.1 17).toInt) ∧ (r = 1 → ¬ T9 ((u.1 14).toInt.toNat) = 24) ∧ (eC u.1 u.2.2) ∧ True) (enX dC dI ob ad cA) (aX ob ad sz)) 0 0 (aX ob ad sz) := by
  refine Met.ofW (cc := cX3_readAll) (maxL := 3) (ret := (some .boolean)) (by decide) rfl ?_
  intro p e s m args below meth c s₁ B hml hv
  obtain ⟨rfl, ⟨hsz, hP, hK⟩, hE⟩ := hv
  have hx := B.exec
  have hb := B.bytes
  have hr := B.returns
  have hts := atoms_spec (ws := (.code yX3_readAll cX3_readAll 3 (some .boolean) :: lw_good)) B.pre
  have htg : ∀ w ∈ lw_good, w.before _ s = true := fun w hw => hts w (List.mem_cons_of_mem _ hw)
  have hown : s.vm.findClass RX3 = some m.cls := findClass_of_methodNamed B.named
  have hlocks := B.notSynchronized
  subst hsz
  have hS : va_S (aX ob ad s.heap.size) s.heap s.heap [] := va_S.rf
  have hl := lv_entry ([.ref (ob 6), .int wi]) (n := 3) (Nat.le_of_ble_eq_true rfl)
  rw [lg_entry_eq]
  generalize (lg_sl ([.ref (ob 6), .int wi]) ++ List.replicate (3 - (lg_sl ([.ref (ob 6), .int wi])).length) Slot.unset).toArray = ls at hl ⊢
  have hl : lv_has ls 3 [(0, .ref (ob 6)), (1, .int wi)] := hl
  have i_1 : 0 ≤ (fv 14).toInt ∧ (fv 14).toInt ≤ 300 := (by have h9 := hF_fv 14; have h8 : 0 ≤ (fv 14).toInt := h9.1; omega)
  refine lv_aload_n hx hb dX3_readAll_0 rfl (lv_at hl 0 rfl) ?_
  refine lv_iload_n hx hb dX3_readAll_1 rfl (lv_at hl 1 rfl) ?_
  have z_2 : 0 ≤ (fv 13).toInt ∧ (fv 13).toInt ≤ 301 := hF_fv 13
  have z_3 : 0 ≤ (fv 14).toInt ∧ (fv 14).toInt ≤ 300 := hF_fv 14
  have z_4 : 0 ≤ (fv 14).toInt ∧ (fv 14).toInt ≤ 300 := hF_fv 14
  have z_5 : 0 ≤ (fv 17).toInt ∧ (fv 17).toInt ≤ 50 := hF_fv 17
  refine va_calli (va_runV (As := [.int wi]) (rest := []) ⟨hx, hb, hml, hown, hts⟩ (x_readOneC_3 l dC dI s.heap.size ob ad cA hd fv wd ar hF_fv hA_ar tA hto T9 S9 N9 c9 wi h_wi hcx (by omega) (by omega) h300 hT32 hfin hp_eC) (cwV 1 hts (gV kw_4_144 kw_4_146 kw_p_13 kw_1_11 kw_4_147) rfl rfl rfl (by decide +kernel) ⟨Nat.le_of_ble_eq_true rfl, Nat.le_of_ble_eq_true rfl⟩) ⟨fun a U g mk q => ⟨q.1, ⟨q.2.1.1, q.2.1.2.1, va_K.moved (u := U) (U := U.calling g mk a) (Vm.Alike.refl U.vm) q.2.1.2.2⟩, tk_mv (U := U.calling g mk a) rfl (Vm.Alike.refl U.vm) q.2.2⟩, va_recv hK hP (ci := 4) (q0 := 6) rfl rfl, fun U hU hW => ⟨rfl, ⟨by rw [hU], by rw [hU]; exact hP, va_K.moved hW.alike hK⟩, tk_pass hE hS hU hW.alike⟩⟩ rfl rfl hl.1 rfl (lv_room (Nat.le_of_ble_eq_true rfl)) dX3_readAll_2 ⟨Nat.le_of_ble_eq_true rfl, Nat.le_of_ble_eq_true rfl⟩) hS (fun q _ h9 => aX_up hS q h9) (aX_up hS) (fun r_6 u t H1 locs ht _ hw hB _ hk1 hS => ?_)
  obtain ⟨fv_13, wd_14, ar_15⟩ := u
  obtain ⟨hF_fv_13, hA_ar_15, fr_16, fa_17, wf_18, p_7, p_8, p_9, p_10, p_11, p_12, -⟩ := hw
  have wf_18 : wd_14.2 = wd.2 := wf_18
  have hP : va_P (dC, dI) vwCl (wsX ob ad cA fv_13 wd_14 ar_15) H1 := by have h9 := hB.1; rw [ht] at h9; exact h9
  have fr_16 : fM [14, 16, 17, 19, 20] fv fv_13 := fr_16
  have fa_17 : fA [41, 42, 43] ar ar_15 := fa_17
  have p_12 : eC fv_13 ar_15 := p_12
  have p_8 : ∀ r9 : List Bool, r9.length = 3 → rd_x T9 S9 0 ((fv 14).toInt.toNat) ((fv 17).toInt.toNat) r9 r_6 (fv_13 19) (fv_13 20) (fv_13 14) (fv_13 17) := p_8
  have p_9 : r_6 = 1 → fv_13 19 = fv 19 := p_9
  have p_10 : (fv_13 14).toInt ≤ (c9 : Int) := p_10
  have p_11 : r_6 = 1 → (fv 17).toInt + 1 ≤ (fv_13 17).toInt := p_11
  generalize H1 = H at hP hS ⊢
  refine lv_if_ne (tgt := 10) hx hb dX3_readAll_5 (by decide) (fun c_19 => ?_) (fun c_19 => ?_)
  · skip
    have i_20 : 1 ≤ r_6.toInt ∧ r_6.toInt ≤ 1 := iv_nel p_7 (by decide) c_19
    have k_21 : ¬ r_6.toInt = 0 := fun q => c_19 (Int32.toInt_inj.mp q)
    refine lv_iconst (v := 0) hx hb dX3_readAll_10 (by decide) ?_
    refine lv_istore_n (lv' := [(2, .int 0), (0, .ref (ob 6)), (1, .int wi)]) hx hb dX3_readAll_11 rfl hl (by decide) rfl (fun ls hl => ?_)
    refine my_cut (P := fun R9 a9 Q9 => ∀ (n_34 : Nat) (x_22 : Int32) (fv_23 : Nat → Int32) (ar_25 : Nat → Nat → Int32) (wd_27 : xT) (H : Heap) (locs : List Loc) (ls : Array Slot), 50 - x_22.toInt < (n_34 : Int) → (0 ≤ x_22.toInt ∧ x_22.toInt ≤ 50) → rX fv_23 → fM [14, 16, 17, 19, 20] fv_13 fv_23 → rB ar_25 → fA [41, 42, 43] ar_15 ar_25 → wd_27.2 = wd_14.2 → eC fv_23 ar_25 → (∀ r9 : List Bool, r9.length = 3 → rd_dn r9 = r9 → rd_m T9 0 ((fv 14).toInt.toNat) ((fv 17).toInt.toNat) r9 = rd_m T9 1 ((fv_23 14).toInt.toNat) ((fv_23 17).toInt.toNat) r9) → ((fv_23 14).toInt ≤ (c9 : Int)) → (fv_23 19 = fv 19) → (x_22.toInt + (fv 17).toInt + 1 ≤ (fv_23 17).toInt) → va_P (dC, dI) vwCl (wsX ob ad cA fv_23 wd_27 ar_25) H → va_S (aX ob ad s.heap.size) s.heap H locs → lv_has ls 3 [(0, .ref (ob 6)), (1, .int wi), (2, .int x_22)] → W p l e R9 s m a9 below meth c H locs 0 0 Q9 (F0 m 12 ls [])) ?_ (fun hj_36 => ?_)
    · intro n_34
      induction n_34 with
      | zero => intro x_22 fv_23 ar_25 wd_27 H locs ls fu_35 i_x_22 hF_fv_23 fr_24 hA_ar_25 fa_26 wf_28 hp_29 q_30 q_31 q_32 q_33; exfalso; omega
      | succ n_34 ih_34 =>
        intro x_22 fv_23 ar_25 wd_27 H locs ls fu_35 i_x_22 hF_fv_23 fr_24 hA_ar_25 fa_26 wf_28 hp_29 q_30 q_31 q_32 q_33 hP hS hl
        refine lv_iload_n hx hb dX3_readAll_12 rfl (lv_at hl 2 rfl) ?_
        refine lv_bipush (v := 50) hx hb dX3_readAll_13 (by decide) ?_
        have z_37 : 0 ≤ (fv_23 17).toInt ∧ (fv_23 17).toInt ≤ 50 := hF_fv_23 17
        have z_38 : 0 ≤ (fv_23 14).toInt ∧ (fv_23 14).toInt ≤ 300 := hF_fv_23 14
        have z50 : (50 : Int32).toInt = 50 := by decide
        refine lv_icmp_ge (tgt := 56) hx hb dX3_readAll_15 (by decide) (fun c_39 => ?_) (fun c_39 => ?_)
        · skip
          exact absurd True.intro (by have h9 := Int32.le_iff_toInt_le.mp c_39; exfalso; omega)
        · skip
          have i_40 : 0 ≤ x_22.toInt ∧ x_22.toInt ≤ 49 := iv_lt1 i_x_22 (⟨by decide, by decide⟩ : (50 : Int) ≤ (50 : Int32).toInt ∧ (50 : Int32).toInt ≤ 50) (Int32.not_le.mp c_39)
          refine lv_aload_n hx hb dX3_readAll_18 rfl (lv_at hl 0 rfl) ?_
          have z_41 : (fv_23 13).toInt = (fv 13).toInt := congrArg Int32.toInt ((fr_24 13 rfl).trans ((fr_16 13 rfl)))
          have z_42 : 0 ≤ (fv_23 13).toInt ∧ (fv_23 13).toInt ≤ 301 := hF_fv_23 13
          have z_43 : 0 ≤ (fv_23 14).toInt ∧ (fv_23 14).toInt ≤ 300 := hF_fv_23 14
          refine va_callr (va_runV (As := []) (rest := []) ⟨hx, hb, hml, hown, hts⟩ (x_tokenC l dC dI H.size ob ad cA hd fv_23 wd_27 ar_25 hF_fv_23 hA_ar_25 tA (tO_w hto (wf_28.trans wf_18)) T9 S9 N9 c9 (rd_cx_eq hcx (congrArg (fun z => z.1) (wf_28.trans wf_18)) ((fA_call (fA_call (fA_rf [41, 42, 43] _) fa_17 (by decide)) fa_26 (by decide)) 36 rfl) ((fA_call (fA_call (fA_rf [41, 42, 43] _) fa_17 (by decide)) fa_26 (by decide)) 37 rfl)) (by omega) (by omega) h300 hT32 hfin) (cwV 0 hts (gV kw_4_102 kw_4_104 kw_p_4 kw_1_11 kw_4_105) rfl rfl rfl (by decide +kernel) ⟨Nat.le_of_ble_eq_true rfl, Nat.le_of_ble_eq_true rfl⟩) ⟨fun a U g mk q => ⟨q.1, ⟨q.2.1.1, q.2.1.2.1, va_K.moved (u := U) (U := U.calling g mk a) (Vm.Alike.refl U.vm) q.2.1.2.2⟩, tk_mv (U := U.calling g mk a) rfl (Vm.Alike.refl U.vm) q.2.2⟩, va_recv hK hP (ci := 4) (q0 := 6) rfl rfl, fun U hU hW => ⟨rfl, ⟨by rw [hU], by rw [hU]; exact hP, va_K.moved hW.alike hK⟩, tk_pass hE hS hU hW.alike⟩⟩ rfl rfl hl.1 rfl (lv_room (Nat.le_of_ble_eq_true rfl)) dX3_readAll_19 ⟨Nat.le_of_ble_eq_true rfl, Nat.le_of_ble_eq_true rfl⟩) hS (fun q _ h9 => aX_up hS q h9) (aX_up hS) (fun u r_44 t H1 locs ht _ hw hB _ hk1 hS => ?_)
          obtain ⟨fv_45, wd_46, ar_47⟩ := u
          obtain ⟨hF_fv_45, hA_ar_47, fr_48, fa_49, wf_50, -⟩ := hw
          have wf_50 : wd_46.2 = wd_27.2 := wf_50
          have hP : va_P (dC, dI) vwCl (wsX ob ad cA fv_45 wd_46 ar_47) H1 := by have h9 := hB.1.1; rw [ht] at h9; exact h9
          have fr_48 : fM [] fv_23 fv_45 := fr_48
          have fa_49 : fA [] ar_25 ar_47 := fa_49
          generalize H1 = H at hP hS ⊢
          obtain ⟨j_51, lj_51, rj_51, zj_51⟩ := hB.2
          subst rj_51
          refine va_gets hx hb (hE.1 24 (by decide)).1 hS hown (htg (.fieldLink RX3 206 "WalkingTown$Token" "AND" "LWalkingTown$Token;") kw_4_160) (fun _ h9 => h9) dX3_readAll_22 ?_
          refine lv_acmp_ne (rx := some (tA j_51)) (ry := some (tA 24)) (tgt := 56) hx hb dX3_readAll_25 (by decide) (fun c_52 => ?_) (fun c_52 => ?_)
          · skip
            have k_53 : ¬ j_51 = 24 := fun w => c_52 (by rw [w])
            refine lv_iconst (v := 1) hx hb dX3_readAll_56 (by decide) ?_
            have z_54 : (1 : Int32).toInt = 1 := by decide
            exact W.zret (v := 1) hx hb hr (by decide) (fun t ht hW => ⟨⟨1, (fv_45, wd_46, ar_47), rfl, ⟨hF_fv_45, hA_ar_47, (fM_call (fM_call (fM_call (fM_rf [14, 16, 17, 19, 20] _) fr_16 (by decide)) fr_24 (by decide)) fr_48 (by decide)), (fA_call (fA_call (fA_call (fA_rf [41, 42, 43] _) fa_17 (by decide)) fa_26 (by decide)) fa_49 (by decide)), (wf_50.trans (wf_28.trans wf_18)), (iv_w (⟨by decide, by decide⟩ : (1 : Int) ≤ (1 : Int32).toInt ∧ (1 : Int32).toInt ≤ 1) (by decide) (by decide)), (show ∀ r9 : List Bool, r9.length = 3 → rd_dn r9 = r9 → rd_x T9 S9 0 ((fv 14).toInt.toNat) ((fv 17).toInt.toNat) r9 (1 : Int32) (fv_45 19) (fv_45 20) (fv_45 14) (fv_45 17) from fun r9 hr hd => by have : (fv_45 14).toInt = (fv_23 14).toInt := congrArg Int32.toInt ((fM_call (fM_rf [] _) fr_48 (by decide)) 14 rfl); have : (fv_45 17).toInt = (fv_23 17).toInt := congrArg Int32.toInt ((fM_call (fM_rf [] _) fr_48 (by decide)) 17 rfl); exact rd_xO (by rw [show fv_45 14 = fv_23 14 from ((fM_call (fM_rf [] _) fr_48 (by decide)) 14 rfl), show fv_45 17 = fv_23 17 from ((fM_call (fM_rf [] _) fr_48 (by decide)) 17 rfl)]; exact q_30 r9 hr hd)), (show (1 : Int32) = 1 → fv_45 19 = fv 19 from fun _ => (show fv_45 19 = fv_23 19 from ((fM_call (fM_rf [] _) fr_48 (by decide)) 19 rfl)).trans q_32), (show (fv_45 14).toInt ≤ (c9 : Int) from by have : (fv_45 14).toInt = (fv_23 14).toInt := congrArg Int32.toInt ((fM_call (fM_rf [] _) fr_48 (by decide)) 14 rfl); have hp9 := p_10; omega), (show (1 : Int32) = 1 → (fv 17).toInt + 1 ≤ (fv_45 17).toInt from fun _ => by have : (fv_45 17).toInt = (fv_23 17).toInt := congrArg Int32.toInt ((fM_call (fM_rf [] _) fr_48 (by decide)) 17 rfl); omega), (show (1 : Int32) = 1 → ¬ T9 ((fv_45 14).toInt.toNat) = 24 from fun _ => by have : (fv_45 14).toInt = (fv_23 14).toInt := congrArg Int32.toInt ((fM_call (fM_rf [] _) fr_48 (by decide)) 14 rfl); have hz9 : ¬ T9 ((fv_45 14).toInt.toNat) = 24 := (by rw [show (fv_45 14).toInt.toNat = (fv_23 14).toInt.toNat from (by omega), ← zj_51]; omega); omega), (eC_fr hp_29 (fM_call (fM_rf [] _) fr_48 (by decide)) (fA_call (fA_rf [] _) fa_49 (by decide)) rfl rfl rfl), trivial⟩, ⟨by rw [ht]; exact hP, va_K.moved hW.alike hK⟩⟩, hS.F ht⟩) hS.2.2 dX3_readAll_57
          · skip
            have k_55 : j_51 = 24 := hE.2 j_51 24 lj_51 (by decide) (Option.some.inj c_52)
            refine lv_aload_n hx hb dX3_readAll_28 rfl (lv_at hl 0 rfl) ?_
            have z_56 : (fv_45 13).toInt = (fv 13).toInt := congrArg Int32.toInt ((fr_48 13 rfl).trans ((fr_24 13 rfl).trans ((fr_16 13 rfl))))
            have z_57 : 0 ≤ (fv_45 13).toInt ∧ (fv_45 13).toInt ≤ 301 := hF_fv_45 13
            have z_58 : (fv_45 14).toInt = (fv_23 14).toInt := congrArg Int32.toInt ((fr_48 14 rfl))
            have z_59 : 0 ≤ (fv_45 14).toInt ∧ (fv_45 14).toInt ≤ 300 := hF_fv_45 14
            have z_60 : (fv_45 13).toInt = (fv 13).toInt := congrArg Int32.toInt ((fr_48 13 rfl).trans ((fr_24 13 rfl).trans ((fr_16 13 rfl))))
            have z_61 : 0 ≤ (fv_45 13).toInt ∧ (fv_45 13).toInt ≤ 301 := hF_fv_45 13
            have z_62 : (fv_45 14).toInt = (fv_23 14).toInt := congrArg Int32.toInt ((fr_48 14 rfl))
            have z_63 : 0 ≤ (fv_45 14).toInt ∧ (fv_45 14).toInt ≤ 300 := hF_fv_45 14
            refine va_callv (va_runV (As := []) (rest := []) ⟨hx, hb, hml, hown, hts⟩ (x_stepC l dC dI H.size ob ad cA hd fv_45 wd_46 ar_47 hF_fv_45 hA_ar_47 (by have h9 := rd_lt hfin (p := (fv_23 14).toInt.toNat) (by omega) (by rw [← zj_51]; omega); omega)) (cwV 0 hts (gV kw_4_116 kw_4_118 kw_p_7 kw_1_11 kw_4_119) rfl rfl rfl (by decide +kernel) ⟨Nat.le_of_ble_eq_true rfl, Nat.le_of_ble_eq_true rfl⟩) ⟨fun a U g mk q => ⟨q.1, q.2.1, q.2.2.1, va_K.moved (u := U) (U := U.calling g mk a) (Vm.Alike.refl U.vm) q.2.2.2⟩, va_recv hK hP (ci := 4) (q0 := 6) rfl rfl, fun U hU hW => ⟨rfl, by rw [hU], by rw [hU]; exact hP, va_K.moved hW.alike hK⟩⟩ rfl rfl hl.1 rfl (lv_room (Nat.le_of_ble_eq_true rfl)) dX3_readAll_29 ⟨Nat.le_of_ble_eq_true rfl, Nat.le_of_ble_eq_true rfl⟩) hS (fun q _ h9 => aX_up hS q h9) (aX_up hS) (fun u t H1 locs ht _ hw hB _ hk1 hS => ?_)
            obtain ⟨fv_66, wd_67, ar_68⟩ := u
            obtain ⟨hF_fv_66, hA_ar_68, fr_69, fa_70, wf_71, p_65, -⟩ := hw
            have wf_71 : wd_67.2 = wd_46.2 := wf_71
            have hP : va_P (dC, dI) vwCl (wsX ob ad cA fv_66 wd_67 ar_68) H1 := by have h9 := hB.1; rw [ht] at h9; exact h9
            have fr_69 : fM [14] fv_45 fv_66 := fr_69
            have fa_70 : fA [] ar_47 ar_68 := fa_70
            have p_65 : (fv_66 14).toInt = (fv_45 14).toInt + 1 ∧ (fv_66 14).toInt ≤ (fv_45 13).toInt - 1 := p_65
            generalize H1 = H at hP hS ⊢
            refine lv_aload_n hx hb dX3_readAll_32 rfl (lv_at hl 0 rfl) ?_
            refine lv_iload_n hx hb dX3_readAll_33 rfl (lv_at hl 1 rfl) ?_
            have z_72 : (fv_66 13).toInt = (fv 13).toInt := congrArg Int32.toInt ((fr_69 13 rfl).trans ((fr_48 13 rfl).trans ((fr_24 13 rfl).trans ((fr_16 13 rfl)))))
            have z_73 : 0 ≤ (fv_66 13).toInt ∧ (fv_66 13).toInt ≤ 301 := hF_fv_66 13
            have z_74 : 0 ≤ (fv_66 14).toInt ∧ (fv_66 14).toInt ≤ 300 := hF_fv_66 14
            have z_75 : 0 ≤ (fv_66 14).toInt ∧ (fv_66 14).toInt ≤ 300 := hF_fv_66 14
            have z_76 : (fv_66 17).toInt = (fv_23 17).toInt := congrArg Int32.toInt ((fr_69 17 rfl).trans ((fr_48 17 rfl)))
            have z_77 : 0 ≤ (fv_66 17).toInt ∧ (fv_66 17).toInt ≤ 50 := hF_fv_66 17
            refine va_calli (va_runV (As := [.int wi]) (rest := []) ⟨hx, hb, hml, hown, hts⟩ (x_readOneC_3 l dC dI H.size ob ad cA hd fv_66 wd_67 ar_68 hF_fv_66 hA_ar_68 tA (tO_w hto (wf_71.trans (wf_50.trans (wf_28.trans wf_18)))) T9 S9 N9 c9 wi h_wi (rd_cx_eq hcx (congrArg (fun z => z.1) (wf_71.trans (wf_50.trans (wf_28.trans wf_18)))) ((fA_call (fA_call (fA_call (fA_call (fA_rf [41, 42, 43] _) fa_17 (by decide)) fa_26 (by decide)) fa_49 (by decide)) fa_70 (by decide)) 36 rfl) ((fA_call (fA_call (fA_call (fA_call (fA_rf [41, 42, 43] _) fa_17 (by decide)) fa_26 (by decide)) fa_49 (by decide)) fa_70 (by decide)) 37 rfl)) (by omega) (by omega) h300 hT32 hfin (eC_fr hp_29 (fM_call (fM_call (fM_rf [14] _) fr_48 (by decide)) fr_69 (by decide)) (fA_call (fA_call (fA_rf [] _) fa_49 (by decide)) fa_70 (by decide)) rfl rfl rfl)) (cwV 1 hts (gV kw_4_144 kw_4_146 kw_p_13 kw_1_11 kw_4_147) rfl rfl rfl (by decide +kernel) ⟨Nat.le_of_ble_eq_true rfl, Nat.le_of_ble_eq_true rfl⟩) ⟨fun a U g mk q => ⟨q.1, ⟨q.2.1.1, q.2.1.2.1, va_K.moved (u := U) (U := U.calling g mk a) (Vm.Alike.refl U.vm) q.2.1.2.2⟩, tk_mv (U := U.calling g mk a) rfl (Vm.Alike.refl U.vm) q.2.2⟩, va_recv hK hP (ci := 4) (q0 := 6) rfl rfl, fun U hU hW => ⟨rfl, ⟨by rw [hU], by rw [hU]; exact hP, va_K.moved hW.alike hK⟩, tk_pass hE hS hU hW.alike⟩⟩ rfl rfl hl.1 rfl (lv_room (Nat.le_of_ble_eq_true rfl)) dX3_readAll_34 ⟨Nat.le_of_ble_eq_true rfl, Nat.le_of_ble_eq_true rfl⟩) hS (fun q _ h9 => aX_up hS q h9) (aX_up hS) (fun r_78 u t H1 locs ht _ hw hB _ hk1 hS => ?_)
            obtain ⟨fv_85, wd_86, ar_87⟩ := u
            obtain ⟨hF_fv_85, hA_ar_87, fr_88, fa_89, wf_90, p_79, p_80, p_81, p_82, p_83, p_84, -⟩ := hw
            have wf_90 : wd_86.2 = wd_67.2 := wf_90
            have hP : va_P (dC, dI) vwCl (wsX ob ad cA fv_85 wd_86 ar_87) H1 := by have h9 := hB.1; rw [ht] at h9; exact h9
            have fr_88 : fM [14, 16, 17, 19, 20] fv_66 fv_85 := fr_88
            have fa_89 : fA [41, 42, 43] ar_68 ar_87 := fa_89
            have p_84 : eC fv_85 ar_87 := p_84
            have p_80 : ∀ r9 : List Bool, r9.length = 3 → rd_x T9 S9 0 ((fv_66 14).toInt.toNat) ((fv_66 17).toInt.toNat) r9 r_78 (fv_85 19) (fv_85 20) (fv_85 14) (fv_85 17) := p_80
            have p_81 : r_78 = 1 → fv_85 19 = fv_66 19 := p_81
            have p_82 : (fv_85 14).toInt ≤ (c9 : Int) := p_82
            have p_83 : r_78 = 1 → (fv_66 17).toInt + 1 ≤ (fv_85 17).toInt := p_83
            generalize H1 = H at hP hS ⊢
            refine lv_if_ne (tgt := 42) hx hb dX3_readAll_37 (by decide) (fun c_91 => ?_) (fun c_91 => ?_)
            · skip
              have i_92 : 1 ≤ r_78.toInt ∧ r_78.toInt ≤ 1 := iv_nel p_79 (by decide) c_91
              have k_93 : ¬ r_78.toInt = 0 := fun q => c_91 (Int32.toInt_inj.mp q)
              refine lv_aload_n hx hb dX3_readAll_42 rfl (lv_at hl 0 rfl) ?_
              refine lv_iconst (v := 4) hx hb dX3_readAll_43 (by decide) ?_
              refine lv_iconst (v := 0) hx hb dX3_readAll_44 (by decide) ?_
              refine lv_iconst (v := 0) hx hb dX3_readAll_45 (by decide) ?_
              refine va_calli (va_runV (As := [.int 4, .int 0, .int 0]) (rest := []) ⟨hx, hb, hml, hown, hts⟩ (x_addCode l dC dI H.size ob ad cA hd fv_85 wd_86 ar_87 hF_fv_85 hA_ar_87 4 0 0 (iv_w (⟨by decide, by decide⟩ : (0 : Int) ≤ (0 : Int32).toInt ∧ (0 : Int32).toInt ≤ 0) (by decide) (by decide)) p_84) (cwV 3 hts (gV kw_4_150 kw_4_152 kw_p_14 kw_1_11 kw_4_153) rfl rfl rfl (by decide +kernel) ⟨Nat.le_of_ble_eq_true rfl, Nat.le_of_ble_eq_true rfl⟩) ⟨fun a U g mk q => ⟨q.1, q.2.1, q.2.2.1, va_K.moved (u := U) (U := U.calling g mk a) (Vm.Alike.refl U.vm) q.2.2.2⟩, va_recv hK hP (ci := 4) (q0 := 6) rfl rfl, fun U hU hW => ⟨rfl, by rw [hU], by rw [hU]; exact hP, va_K.moved hW.alike hK⟩⟩ rfl rfl hl.1 rfl (lv_room (Nat.le_of_ble_eq_true rfl)) dX3_readAll_46 ⟨Nat.le_of_ble_eq_true rfl, Nat.le_of_ble_eq_true rfl⟩) hS (fun q _ h9 => aX_up hS q h9) (aX_up hS) (fun r_94 u t H1 locs ht _ hw hB _ hk1 hS => ?_)
              obtain ⟨fv_98, wd_99, ar_100⟩ := u
              obtain ⟨hF_fv_98, hA_ar_100, fr_101, fa_102, wf_103, p_95, p_96, p_97, -⟩ := hw
              have wf_103 : wd_99.2 = wd_86.2 := wf_103
              have hP : va_P (dC, dI) vwCl (wsX ob ad cA fv_98 wd_99 ar_100) H1 := by have h9 := hB.1; rw [ht] at h9; exact h9
              have fr_101 : fM [16] fv_85 fv_98 := fr_101
              have fa_102 : fA [41, 42, 43] ar_87 ar_100 := fa_102
              have p_97 : eC fv_98 ar_100 := p_97
              generalize H1 = H at hP hS ⊢
              rcases p_96 with ⟨rfl, p_96⟩
              · skip
                refine lv_pop hx hb dX3_readAll_49 rfl ?_
                obtain ⟨v_104, ev_104⟩ : ∃ z : Int32, z = x_22 + 1 := ⟨_, rfl⟩
                refine lv_iinc (v := v_104) (lv' := [(2, .int v_104), (0, .ref (ob 6)), (1, .int wi)]) hx hb dX3_readAll_50 hl (k := 2) rfl (by rw [ev_104]; rfl) (by decide) rfl (fun ls hl => ?_)
                have t_105 : v_104.toInt = x_22.toInt + 1 ∧ 1 ≤ v_104.toInt ∧ v_104.toInt ≤ 50 := iv_addc ev_104 i_40 (by decide) (by decide) (by decide)
                refine lv_goto (tgt := 12) hx hb dX3_readAll_53 (by decide) ?_
                have z_110 : (fv_98 17).toInt = (fv_85 17).toInt := congrArg Int32.toInt ((fr_101 17 rfl))
                have z_111 : 0 ≤ (fv_98 17).toInt ∧ (fv_98 17).toInt ≤ 50 := hF_fv_98 17
                have z_112 : (fv_98 14).toInt = (fv_85 14).toInt := congrArg Int32.toInt ((fr_101 14 rfl))
                have z_113 : 0 ≤ (fv_98 14).toInt ∧ (fv_98 14).toInt ≤ 300 := hF_fv_98 14
                exact ih_34 v_104 fv_98 ar_100 wd_99 _ _ ls (by omega) (iv_w t_105.2 (by decide) (by decide)) hF_fv_98 (fM_call (fM_call (fM_call (fM_call (fM_call (fM_rf [14, 16, 17, 19, 20] _) fr_24 (by decide)) fr_48 (by decide)) fr_69 (by decide)) fr_88 (by decide)) fr_101 (by decide)) hA_ar_100 (fA_call (fA_call (fA_call (fA_call (fA_call (fA_rf [41, 42, 43] _) fa_26 (by decide)) fa_49 (by decide)) fa_70 (by decide)) fa_89 (by decide)) fa_102 (by decide)) (wf_103.trans (wf_90.trans (wf_71.trans (wf_50.trans wf_28)))) p_97 (fun r9 hr hd => by have : (fv_45 14).toInt = (fv_23 14).toInt := congrArg Int32.toInt ((fM_call (fM_rf [] _) fr_48 (by decide)) 14 rfl); have : (fv_98 14).toInt = (fv_85 14).toInt := congrArg Int32.toInt ((fM_call (fM_rf [16] _) fr_101 (by decide)) 14 rfl); have : (fv_45 17).toInt = (fv_23 17).toInt := congrArg Int32.toInt ((fM_call (fM_rf [] _) fr_48 (by decide)) 17 rfl); have : (fv_66 17).toInt = (fv_45 17).toInt := congrArg Int32.toInt ((fM_call (fM_rf [14] _) fr_69 (by decide)) 17 rfl); have : (fv_98 17).toInt = (fv_85 17).toInt := congrArg Int32.toInt ((fM_call (fM_rf [16] _) fr_101 (by decide)) 17 rfl); rcases p_80 r9 hr with ⟨a, b, q, o2, c, d⟩ | ⟨a, b⟩; exact absurd (congrArg Int32.toInt a) (by rw [show (0 : Int32).toInt = 0 from (by decide)]; omega); rw [show fv_98 14 = fv_85 14 from ((fM_call (fM_rf [16] _) fr_101 (by decide)) 14 rfl), show fv_98 17 = fv_85 17 from ((fM_call (fM_rf [16] _) fr_101 (by decide)) 17 rfl)]; rw [q_30 r9 hr hd, show (fv_23 14).toInt.toNat = (fv_23 14).toInt.toNat from (by omega), rd_m1_join (by omega) (Or.inl (by rw [← zj_51]; omega)) hd, show (fv_23 14).toInt.toNat + 1 = (fv_66 14).toInt.toNat from (by omega), show (fv_23 17).toInt.toNat = (fv_66 17).toInt.toNat from (by omega)]; exact b) (by have : (fv_45 14).toInt = (fv_23 14).toInt := congrArg Int32.toInt ((fM_call (fM_rf [] _) fr_48 (by decide)) 14 rfl); have : (fv_98 14).toInt = (fv_85 14).toInt := congrArg Int32.toInt ((fM_call (fM_rf [16] _) fr_101 (by decide)) 14 rfl); have : (fv_45 17).toInt = (fv_23 17).toInt := congrArg Int32.toInt ((fM_call (fM_rf [] _) fr_48 (by decide)) 17 rfl); have : (fv_66 17).toInt = (fv_45 17).toInt := congrArg Int32.toInt ((fM_call (fM_rf [14] _) fr_69 (by decide)) 17 rfl); have : (fv_98 17).toInt = (fv_85 17).toInt := congrArg Int32.toInt ((fM_call (fM_rf [16] _) fr_101 (by decide)) 17 rfl); have hp9 := p_82; omega) ((show fv_98 19 = fv_85 19 from ((fM_call (fM_rf [16] _) fr_101 (by decide)) 19 rfl)).trans ((p_81 (Int32.toInt_inj.mp (by rw [show (1 : Int32).toInt = 1 from (by decide)]; omega))).trans (show fv_66 19 = fv 19 from (show fv_66 19 = fv_23 19 from ((fM_call (fM_call (fM_rf [14] _) fr_48 (by decide)) fr_69 (by decide)) 19 rfl)).trans q_32))) (by have : (fv_45 14).toInt = (fv_23 14).toInt := congrArg Int32.toInt ((fM_call (fM_rf [] _) fr_48 (by decide)) 14 rfl); have : (fv_98 14).toInt = (fv_85 14).toInt := congrArg Int32.toInt ((fM_call (fM_rf [16] _) fr_101 (by decide)) 14 rfl); have : (fv_45 17).toInt = (fv_23 17).toInt := congrArg Int32.toInt ((fM_call (fM_rf [] _) fr_48 (by decide)) 17 rfl); have : (fv_66 17).toInt = (fv_45 17).toInt := congrArg Int32.toInt ((fM_call (fM_rf [14] _) fr_69 (by decide)) 17 rfl); have : (fv_98 17).toInt = (fv_85 17).toInt := congrArg Int32.toInt ((fM_call (fM_rf [16] _) fr_101 (by decide)) 17 rfl); have hi9 := p_83 (Int32.toInt_inj.mp (by rw [show (1 : Int32).toInt = 1 from (by decide)]; omega)); omega) hP hS (lv_sub hl [1, 2, 0] rfl)
            · skip
              have i_107 : 0 ≤ r_78.toInt ∧ r_78.toInt ≤ 0 := iv_eq1 (⟨by decide, by decide⟩ : (0 : Int) ≤ (0 : Int32).toInt ∧ (0 : Int32).toInt ≤ 0) c_91
              refine lv_iconst (v := 0) hx hb dX3_readAll_40 (by decide) ?_
              have z_109 : (0 : Int32).toInt = 0 := by decide
              exact W.zret (v := 0) hx hb hr (by decide) (fun t ht hW => ⟨⟨0, (fv_85, wd_86, ar_87), rfl, ⟨hF_fv_85, hA_ar_87, (fM_call (fM_call (fM_call (fM_call (fM_call (fM_rf [14, 16, 17, 19, 20] _) fr_16 (by decide)) fr_24 (by decide)) fr_48 (by decide)) fr_69 (by decide)) fr_88 (by decide)), (fA_call (fA_call (fA_call (fA_call (fA_call (fA_rf [41, 42, 43] _) fa_17 (by decide)) fa_26 (by decide)) fa_49 (by decide)) fa_70 (by decide)) fa_89 (by decide)), (wf_90.trans (wf_71.trans (wf_50.trans (wf_28.trans wf_18)))), (iv_w (⟨by decide, by decide⟩ : (0 : Int) ≤ (0 : Int32).toInt ∧ (0 : Int32).toInt ≤ 0) (by decide) (by decide)), (show ∀ r9 : List Bool, r9.length = 3 → rd_dn r9 = r9 → rd_x T9 S9 0 ((fv 14).toInt.toNat) ((fv 17).toInt.toNat) r9 (0 : Int32) (fv_85 19) (fv_85 20) (fv_85 14) (fv_85 17) from fun r9 hr hd => by have : (fv_45 14).toInt = (fv_23 14).toInt := congrArg Int32.toInt ((fM_call (fM_rf [] _) fr_48 (by decide)) 14 rfl); have : (fv_45 17).toInt = (fv_23 17).toInt := congrArg Int32.toInt ((fM_call (fM_rf [] _) fr_48 (by decide)) 17 rfl); have : (fv_66 17).toInt = (fv_45 17).toInt := congrArg Int32.toInt ((fM_call (fM_rf [14] _) fr_69 (by decide)) 17 rfl); rcases p_80 r9 hr with ⟨a, b, q, o2, c, d⟩ | ⟨a, b⟩; exact Or.inl ⟨rfl, b, q, o2, (by rw [q_30 r9 hr hd, show (fv_23 14).toInt.toNat = (fv_23 14).toInt.toNat from (by omega), rd_m1_join (by omega) (Or.inl (by rw [← zj_51]; omega)) hd, show (fv_23 14).toInt.toNat + 1 = (fv_66 14).toInt.toNat from (by omega), show (fv_23 17).toInt.toNat = (fv_66 17).toInt.toNat from (by omega)]; exact c), d⟩; exact absurd (congrArg Int32.toInt a) (by rw [show (1 : Int32).toInt = 1 from (by decide)]; omega)), (show (0 : Int32) = 1 → fv_85 19 = fv 19 from fun w => absurd w (by decide)), (show (fv_85 14).toInt ≤ (c9 : Int) from by have : (fv_45 14).toInt = (fv_23 14).toInt := congrArg Int32.toInt ((fM_call (fM_rf [] _) fr_48 (by decide)) 14 rfl); have hp9 := p_82; omega), (show (0 : Int32) = 1 → (fv 17).toInt + 1 ≤ (fv_85 17).toInt from fun w => absurd w (by decide)), (show (0 : Int32) = 1 → ¬ T9 ((fv_85 14).toInt.toNat) = 24 from fun w => absurd w (by decide)), p_84, trivial⟩, ⟨by rw [ht]; exact hP, va_K.moved hW.alike hK⟩⟩, hS.F ht⟩) hS.2.2 dX3_readAll_41
    · skip
      have z_114 : (0 : Int32).toInt = 0 := by decide
      have z_115 : 0 ≤ (fv_13 17).toInt ∧ (fv_13 17).toInt ≤ 50 := hF_fv_13 17
      have z_116 : 0 ≤ (fv_13 14).toInt ∧ (fv_13 14).toInt ≤ 300 := hF_fv_13 14
      exact hj_36 51 0 fv_13 ar_15 wd_14 _ _ ls (by first | decide | omega) (iv_w (⟨by decide, by decide⟩ : (0 : Int) ≤ (0 : Int32).toInt ∧ (0 : Int32).toInt ≤ 0) (by decide) (by decide)) hF_fv_13 (fM_rf [14, 16, 17, 19, 20] _) hA_ar_15 (fA_rf [41, 42, 43] _) rfl p_12 (fun r9 hr hd => by rcases p_8 r9 hr with ⟨a, b, q, o2, c, d⟩ | ⟨a, b⟩; exact absurd (congrArg Int32.toInt a) (by rw [show (0 : Int32).toInt = 0 from (by decide)]; omega); exact b) (by have hp9 := p_10; omega) ((show fv_13 19 = fv_13 19 from rfl).trans ((p_9 (Int32.toInt_inj.mp (by rw [show (1 : Int32).toInt = 1 from (by decide)]; omega))).trans rfl)) (by have hi9 := p_11 (Int32.toInt_inj.mp (by rw [show (1 : Int32).toInt = 1 from (by decide)]; omega)); omega) hP hS (lv_sub hl [1, 2, 0] rfl)
  · skip
    have i_117 : 0 ≤ r_6.toInt ∧ r_6.toInt ≤ 0 := iv_eq1 (⟨by decide, by decide⟩ : (0 : Int) ≤ (0 : Int32).toInt ∧ (0 : Int32).toInt ≤ 0) c_19
    refine lv_iconst (v := 0) hx hb dX3_readAll_8 (by decide) ?_
    have z_119 : (0 : Int32).toInt = 0 := by decide
    exact W.zret (v := 0) hx hb hr (by decide) (fun t ht hW => ⟨⟨0, (fv_13, wd_14, ar_15), rfl, ⟨hF_fv_13, hA_ar_15, (fM_call (fM_rf [14, 16, 17, 19, 20] _) fr_16 (by decide)), (fA_call (fA_rf [41, 42, 43] _) fa_17 (by decide)), wf_18, (iv_w (⟨by decide, by decide⟩ : (0 : Int) ≤ (0 : Int32).toInt ∧ (0 : Int32).toInt ≤ 0) (by decide) (by decide)), (show ∀ r9 : List Bool, r9.length = 3 → rd_dn r9 = r9 → rd_x T9 S9 0 ((fv 14).toInt.toNat) ((fv 17).toInt.toNat) r9 (0 : Int32) (fv_13 19) (fv_13 20) (fv_13 14) (fv_13 17) from fun r9 hr hd => by rcases p_8 r9 hr with ⟨a, b, q, o2, c, d⟩ | ⟨a, b⟩; exact Or.inl ⟨rfl, b, q, o2, c, d⟩; exact absurd (congrArg Int32.toInt a) (by rw [show (1 : Int32).toInt = 1 from (by decide)]; omega)), (show (0 : Int32) = 1 → fv_13 19 = fv 19 from fun w => absurd w (by decide)), (show (fv_13 14).toInt ≤ (c9 : Int) from by have hp9 := p_10; omega), (show (0 : Int32) = 1 → (fv 17).toInt + 1 ≤ (fv_13 17).toInt from fun w => absurd w (by decide)), (show (0 : Int32) = 1 → ¬ T9 ((fv_13 14).toInt.toNat) = 24 from fun w => absurd w (by decide)), p_12, trivial⟩, ⟨by rw [ht]; exact hP, va_K.moved hW.alike hK⟩⟩, hS.F ht⟩) hS.2.2 dX3_readAll_9
set_option maxHeartbeats 4000000 in
set_option maxRecDepth 100000 in
theorem x_readCondC_3 (l : Launch) (dC : Nat → ClassId) (dI : Nat → Nat → Nat) (sz : Nat) (ob ad : Nat → Nat) (cA : Nat → ClassId) (hd : dX ob ad) (fv : Nat → Int32) (wd : xT) (ar : Nat → Nat → Int32) (hF_fv : rX fv) (hA_ar : rB ar) (tA : Nat → Nat) (hto : tO tA wd.2.1) (T9 : Nat → Nat) (S9 : Nat → Nat) (N9 : Nat → Int) (c9 : Nat) (wi : Int32) (h_wi : 3 ≤ wi.toInt ∧ wi.toInt ≤ 3) (hcx : rd_cx tA T9 S9 N9 c9 wd.2.1 (ar 36) (ar 37)) (htc : (fv 13).toInt = (c9 : Int) + 1) (hpl : (fv 14).toInt ≤ (c9 : Int)) (h300 : c9 ≤ 300) (hT32 : ∀ k, T9 k < 32) (hfin : T9 c9 = 30 ∨ T9 c9 = 31) (hp_eC : eC fv ar) : Met l yX3_readCond (.code yX3_readCond cX3_readCond 3 (some .boolean) :: lw_good) ({ frames := 26, cells := 0, slots := 0, locals := 583 }) (va_Pc [.ref (ob 6), .int wi] (fun U => prX dC dI ob ad cA fv wd ar sz U ∧ tkA ob ad tA sz U)) (va_Qi (fun (r : Int32) (u : xS) => rX u.1 ∧ rB u.2.2 ∧ fM [14, 16, 17, 19, 20] fv u.1 ∧ fA [41, 42, 43] ar u.2.2 ∧ u.2.1.2 = wd.2 ∧ (0 ≤ r.toInt ∧ r.toInt ≤ 1) ∧ (∀ r9 : List Bool, r9.length = 3 → rd_dn r9 = r9 → rd_x T9 S9 0 ((fv 14).toInt.toNat) ((fv 17).toInt.toNat) r9 r (u.1 19) (u.1 20) (u.1 14) (u.1 17)) ∧ (r = 1 → u.1 19 = fv 19) ∧ ((u.1 14).toInt ≤ (c9 : Int)) ∧ (r = 1 → (fv 17).toInt + 1 ≤ (u.1 17).toInt) ∧ (r = 1 → ¬ (T9 ((u.1 14).toInt.toNat) = 24 ∨ T9 ((u.1 14).toInt.toNat) = 25)) ∧ (eC u.1 u.2.2) ∧ True) (enX dC dI ob ad cA) (aX ob ad sz)) 0 0 (aX ob ad sz) := by
  refine Met.ofW (cc := cX3_readCond) (maxL := 3) (ret := (some .boolean)) (by decide) rfl ?_
  intro p e s m args below meth c s₁ B hml hv
  obtain ⟨rfl, ⟨hsz, hP, hK⟩, hE⟩ := hv
  have hx := B.exec
  have hb := B.bytes
  have hr := B.returns
  have hts := atoms_spec (ws := (.code yX3_readCond cX3_readCond 3 (some .boolean) :: lw_good)) B.pre
  have htg : ∀ w ∈ lw_good, w.before _ s = true := fun w hw => hts w (List.mem_cons_of_mem _ hw)
  have hown : s.vm.findClass RX3 = some m.cls := findClass_of_methodNamed B.named
  have hlocks := B.notSynchronized
  subst hsz
  have hS : va_S (aX ob ad s.heap.size) s.heap s.heap [] := va_S.rf
  have hl := lv_entry ([.ref (ob 6), .int wi]) (n := 3) (Nat.le_of_ble_eq_true rfl)
  rw [lg_entry_eq]
  generalize (lg_sl ([.ref (ob 6), .int wi]) ++ List.replicate (3 - (lg_sl ([.ref (ob 6), .int wi])).length) Slot.unset).toArray = ls at hl ⊢
  have hl : lv_has ls 3 [(0, .ref (ob 6)), (1, .int wi)] := hl
  have i_1 : 0 ≤ (fv 14).toInt ∧ (fv 14).toInt ≤ 300 := (by have h9 := hF_fv 14; have h8 : 0 ≤ (fv 14).toInt := h9.1; omega)
  refine lv_aload_n hx hb dX3_readCond_0 rfl (lv_at hl 0 rfl) ?_
  refine lv_iload_n hx hb dX3_readCond_1 rfl (lv_at hl 1 rfl) ?_
  have z_2 : 0 ≤ (fv 13).toInt ∧ (fv 13).toInt ≤ 301 := hF_fv 13
  have z_3 : 0 ≤ (fv 14).toInt ∧ (fv 14).toInt ≤ 300 := hF_fv 14
  have z_4 : 0 ≤ (fv 14).toInt ∧ (fv 14).toInt ≤ 300 := hF_fv 14
  have z_5 : 0 ≤ (fv 17).toInt ∧ (fv 17).toInt ≤ 50 := hF_fv 17
  refine va_calli (va_runV (As := [.int wi]) (rest := []) ⟨hx, hb, hml, hown, hts⟩ (x_readAllC_3 l dC dI s.heap.size ob ad cA hd fv wd ar hF_fv hA_ar tA hto T9 S9 N9 c9 wi h_wi hcx (by omega) (by omega) h300 hT32 hfin hp_eC) (cwV 1 hts (gV kw_4_140 kw_4_142 kw_p_12 kw_1_11 kw_4_143) rfl rfl rfl (by decide +kernel) ⟨Nat.le_of_ble_eq_true rfl, Nat.le_of_ble_eq_true rfl⟩) ⟨fun a U g mk q => ⟨q.1, ⟨q.2.1.1, q.2.1.2.1, va_K.moved (u := U) (U := U.calling g mk a) (Vm.Alike.refl U.vm) q.2.1.2.2⟩, tk_mv (U := U.calling g mk a) rfl (Vm.Alike.refl U.vm) q.2.2⟩, va_recv hK hP (ci := 4) (q0 := 6) rfl rfl, fun U hU hW => ⟨rfl, ⟨by rw [hU], by rw [hU]; exact hP, va_K.moved hW.alike hK⟩, tk_pass hE hS hU hW.alike⟩⟩ rfl rfl hl.1 rfl (lv_room (Nat.le_of_ble_eq_true rfl)) dX3_readCond_2 ⟨Nat.le_of_ble_eq_true rfl, Nat.le_of_ble_eq_true rfl⟩) hS (fun q _ h9 => aX_up hS q h9) (aX_up hS) (fun r_6 u t H1 locs ht _ hw hB _ hk1 hS => ?_)
  obtain ⟨fv_14, wd_15, ar_16⟩ := u
  obtain ⟨hF_fv_14, hA_ar_16, fr_17, fa_18, wf_19, p_7, p_8, p_9, p_10, p_11, p_12, p_13, -⟩ := hw
  have wf_19 : wd_15.2 = wd.2 := wf_19
  have hP : va_P (dC, dI) vwCl (wsX ob ad cA fv_14 wd_15 ar_16) H1 := by have h9 := hB.1; rw [ht] at h9; exact h9
  have fr_17 : fM [14, 16, 17, 19, 20] fv fv_14 := fr_17
  have fa_18 : fA [41, 42, 43] ar ar_16 := fa_18
  have p_13 : eC fv_14 ar_16 := p_13
  have p_8 : ∀ r9 : List Bool, r9.length = 3 → rd_dn r9 = r9 → rd_x T9 S9 0 ((fv 14).toInt.toNat) ((fv 17).toInt.toNat) r9 r_6 (fv_14 19) (fv_14 20) (fv_14 14) (fv_14 17) := p_8
  have p_9 : r_6 = 1 → fv_14 19 = fv 19 := p_9
  have p_10 : (fv_14 14).toInt ≤ (c9 : Int) := p_10
  have p_11 : r_6 = 1 → (fv 17).toInt + 1 ≤ (fv_14 17).toInt := p_11
  have p_12 : r_6 = 1 → ¬ T9 ((fv_14 14).toInt.toNat) = 24 := p_12
  generalize H1 = H at hP hS ⊢
  refine lv_if_ne (tgt := 10) hx hb dX3_readCond_5 (by decide) (fun c_20 => ?_) (fun c_20 => ?_)
  · skip
    have i_21 : 1 ≤ r_6.toInt ∧ r_6.toInt ≤ 1 := iv_nel p_7 (by decide) c_20
    have k_22 : ¬ r_6.toInt = 0 := fun q => c_20 (Int32.toInt_inj.mp q)
    refine lv_iconst (v := 0) hx hb dX3_readCond_10 (by decide) ?_
    refine lv_istore_n (lv' := [(2, .int 0), (0, .ref (ob 6)), (1, .int wi)]) hx hb dX3_readCond_11 rfl hl (by decide) rfl (fun ls hl => ?_)
    refine my_cut (P := fun R9 a9 Q9 => ∀ (n_36 : Nat) (x_23 : Int32) (fv_24 : Nat → Int32) (ar_26 : Nat → Nat → Int32) (wd_28 : xT) (H : Heap) (locs : List Loc) (ls : Array Slot), 50 - x_23.toInt < (n_36 : Int) → (0 ≤ x_23.toInt ∧ x_23.toInt ≤ 50) → rX fv_24 → fM [14, 16, 17, 19, 20] fv_14 fv_24 → rB ar_26 → fA [41, 42, 43] ar_16 ar_26 → wd_28.2 = wd_15.2 → eC fv_24 ar_26 → (∀ r9 : List Bool, r9.length = 3 → rd_dn r9 = r9 → rd_m T9 0 ((fv 14).toInt.toNat) ((fv 17).toInt.toNat) r9 = rd_m T9 1 ((fv_24 14).toInt.toNat) ((fv_24 17).toInt.toNat) r9) → ((fv_24 14).toInt ≤ (c9 : Int)) → (fv_24 19 = fv 19) → (x_23.toInt + (fv 17).toInt + 1 ≤ (fv_24 17).toInt) → (¬ T9 ((fv_24 14).toInt.toNat) = 24) → va_P (dC, dI) vwCl (wsX ob ad cA fv_24 wd_28 ar_26) H → va_S (aX ob ad s.heap.size) s.heap H locs → lv_has ls 3 [(0, .ref (ob 6)), (1, .int wi), (2, .int x_23)] → W p l e R9 s m a9 below meth c H locs 0 0 Q9 (F0 m 12 ls [])) ?_ (fun hj_38 => ?_)
    · intro n_36
      induction n_36 with
      | zero => intro x_23 fv_24 ar_26 wd_28 H locs ls fu_37 i_x_23 hF_fv_24 fr_25 hA_ar_26 fa_27 wf_29 hp_30 q_31 q_32 q_33 q_34 q_35; exfalso; omega
      | succ n_36 ih_36 =>
        intro x_23 fv_24 ar_26 wd_28 H locs ls fu_37 i_x_23 hF_fv_24 fr_25 hA_ar_26 fa_27 wf_29 hp_30 q_31 q_32 q_33 q_34 q_35 hP hS hl
        refine lv_iload_n hx hb dX3_readCond_12 rfl (lv_at hl 2 rfl) ?_
        refine lv_bipush (v := 50) hx hb dX3_readCond_13 (by decide) ?_
        have z_39 : 0 ≤ (fv_24 17).toInt ∧ (fv_24 17).toInt ≤ 50 := hF_fv_24 17
        have z_40 : 0 ≤ (fv_24 14).toInt ∧ (fv_24 14).toInt ≤ 300 := hF_fv_24 14
        have z50 : (50 : Int32).toInt = 50 := by decide
        refine lv_icmp_ge (tgt := 56) hx hb dX3_readCond_15 (by decide) (fun c_41 => ?_) (fun c_41 => ?_)
        · skip
          exact absurd True.intro (by have h9 := Int32.le_iff_toInt_le.mp c_41; exfalso; omega)
        · skip
          have i_42 : 0 ≤ x_23.toInt ∧ x_23.toInt ≤ 49 := iv_lt1 i_x_23 (⟨by decide, by decide⟩ : (50 : Int) ≤ (50 : Int32).toInt ∧ (50 : Int32).toInt ≤ 50) (Int32.not_le.mp c_41)
          refine lv_aload_n hx hb dX3_readCond_18 rfl (lv_at hl 0 rfl) ?_
          have z_43 : (fv_24 13).toInt = (fv 13).toInt := congrArg Int32.toInt ((fr_25 13 rfl).trans ((fr_17 13 rfl)))
          have z_44 : 0 ≤ (fv_24 13).toInt ∧ (fv_24 13).toInt ≤ 301 := hF_fv_24 13
          have z_45 : 0 ≤ (fv_24 14).toInt ∧ (fv_24 14).toInt ≤ 300 := hF_fv_24 14
          refine va_callr (va_runV (As := []) (rest := []) ⟨hx, hb, hml, hown, hts⟩ (x_tokenC l dC dI H.size ob ad cA hd fv_24 wd_28 ar_26 hF_fv_24 hA_ar_26 tA (tO_w hto (wf_29.trans wf_19)) T9 S9 N9 c9 (rd_cx_eq hcx (congrArg (fun z => z.1) (wf_29.trans wf_19)) ((fA_call (fA_call (fA_rf [41, 42, 43] _) fa_18 (by decide)) fa_27 (by decide)) 36 rfl) ((fA_call (fA_call (fA_rf [41, 42, 43] _) fa_18 (by decide)) fa_27 (by decide)) 37 rfl)) (by omega) (by omega) h300 hT32 hfin) (cwV 0 hts (gV kw_4_102 kw_4_104 kw_p_4 kw_1_11 kw_4_105) rfl rfl rfl (by decide +kernel) ⟨Nat.le_of_ble_eq_true rfl, Nat.le_of_ble_eq_true rfl⟩) ⟨fun a U g mk q => ⟨q.1, ⟨q.2.1.1, q.2.1.2.1, va_K.moved (u := U) (U := U.calling g mk a) (Vm.Alike.refl U.vm) q.2.1.2.2⟩, tk_mv (U := U.calling g mk a) rfl (Vm.Alike.refl U.vm) q.2.2⟩, va_recv hK hP (ci := 4) (q0 := 6) rfl rfl, fun U hU hW => ⟨rfl, ⟨by rw [hU], by rw [hU]; exact hP, va_K.moved hW.alike hK⟩, tk_pass hE hS hU hW.alike⟩⟩ rfl rfl hl.1 rfl (lv_room (Nat.le_of_ble_eq_true rfl)) dX3_readCond_19 ⟨Nat.le_of_ble_eq_true rfl, Nat.le_of_ble_eq_true rfl⟩) hS (fun q _ h9 => aX_up hS q h9) (aX_up hS) (fun u r_46 t H1 locs ht _ hw hB _ hk1 hS => ?_)
          obtain ⟨fv_47, wd_48, ar_49⟩ := u
          obtain ⟨hF_fv_47, hA_ar_49, fr_50, fa_51, wf_52, -⟩ := hw
          have wf_52 : wd_48.2 = wd_28.2 := wf_52
          have hP : va_P (dC, dI) vwCl (wsX ob ad cA fv_47 wd_48 ar_49) H1 := by have h9 := hB.1.1; rw [ht] at h9; exact h9
          have fr_50 : fM [] fv_24 fv_47 := fr_50
          have fa_51 : fA [] ar_26 ar_49 := fa_51
          generalize H1 = H at hP hS ⊢
          obtain ⟨j_53, lj_53, rj_53, zj_53⟩ := hB.2
          subst rj_53
          refine va_gets hx hb (hE.1 25 (by decide)).1 hS hown (htg (.fieldLink RX3 196 "WalkingTown$Token" "OR" "LWalkingTown$Token;") kw_4_162) (fun _ h9 => h9) dX3_readCond_22 ?_
          refine lv_acmp_ne (rx := some (tA j_53)) (ry := some (tA 25)) (tgt := 56) hx hb dX3_readCond_25 (by decide) (fun c_54 => ?_) (fun c_54 => ?_)
          · skip
            have k_55 : ¬ j_53 = 25 := fun w => c_54 (by rw [w])
            refine lv_iconst (v := 1) hx hb dX3_readCond_56 (by decide) ?_
            have z_56 : (1 : Int32).toInt = 1 := by decide
            exact W.zret (v := 1) hx hb hr (by decide) (fun t ht hW => ⟨⟨1, (fv_47, wd_48, ar_49), rfl, ⟨hF_fv_47, hA_ar_49, (fM_call (fM_call (fM_call (fM_rf [14, 16, 17, 19, 20] _) fr_17 (by decide)) fr_25 (by decide)) fr_50 (by decide)), (fA_call (fA_call (fA_call (fA_rf [41, 42, 43] _) fa_18 (by decide)) fa_27 (by decide)) fa_51 (by decide)), (wf_52.trans (wf_29.trans wf_19)), (iv_w (⟨by decide, by decide⟩ : (1 : Int) ≤ (1 : Int32).toInt ∧ (1 : Int32).toInt ≤ 1) (by decide) (by decide)), (show ∀ r9 : List Bool, r9.length = 3 → rd_dn r9 = r9 → rd_x T9 S9 0 ((fv 14).toInt.toNat) ((fv 17).toInt.toNat) r9 (1 : Int32) (fv_47 19) (fv_47 20) (fv_47 14) (fv_47 17) from fun r9 hr hd => by have : (fv_47 14).toInt = (fv_24 14).toInt := congrArg Int32.toInt ((fM_call (fM_rf [] _) fr_50 (by decide)) 14 rfl); have : (fv_47 17).toInt = (fv_24 17).toInt := congrArg Int32.toInt ((fM_call (fM_rf [] _) fr_50 (by decide)) 17 rfl); exact rd_xO (by rw [show fv_47 14 = fv_24 14 from ((fM_call (fM_rf [] _) fr_50 (by decide)) 14 rfl), show fv_47 17 = fv_24 17 from ((fM_call (fM_rf [] _) fr_50 (by decide)) 17 rfl)]; exact q_31 r9 hr hd)), (show (1 : Int32) = 1 → fv_47 19 = fv 19 from fun _ => (show fv_47 19 = fv_24 19 from ((fM_call (fM_rf [] _) fr_50 (by decide)) 19 rfl)).trans q_33), (show (fv_47 14).toInt ≤ (c9 : Int) from by have : (fv_47 14).toInt = (fv_24 14).toInt := congrArg Int32.toInt ((fM_call (fM_rf [] _) fr_50 (by decide)) 14 rfl); have hp9 := p_10; omega), (show (1 : Int32) = 1 → (fv 17).toInt + 1 ≤ (fv_47 17).toInt from fun _ => by have : (fv_47 17).toInt = (fv_24 17).toInt := congrArg Int32.toInt ((fM_call (fM_rf [] _) fr_50 (by decide)) 17 rfl); omega), (show (1 : Int32) = 1 → ¬ (T9 ((fv_47 14).toInt.toNat) = 24 ∨ T9 ((fv_47 14).toInt.toNat) = 25) from fun _ => by have : (fv_47 14).toInt = (fv_24 14).toInt := congrArg Int32.toInt ((fM_call (fM_rf [] _) fr_50 (by decide)) 14 rfl); have hq9 : ¬ T9 ((fv_47 14).toInt.toNat) = 24 := (by rw [show (fv_47 14).toInt.toNat = (fv_24 14).toInt.toNat from (by omega)]; exact q_35); have hz9 : ¬ T9 ((fv_47 14).toInt.toNat) = 25 := (by rw [show (fv_47 14).toInt.toNat = (fv_24 14).toInt.toNat from (by omega), ← zj_53]; omega); omega), (eC_fr hp_30 (fM_call (fM_rf [] _) fr_50 (by decide)) (fA_call (fA_rf [] _) fa_51 (by decide)) rfl rfl rfl), trivial⟩, ⟨by rw [ht]; exact hP, va_K.moved hW.alike hK⟩⟩, hS.F ht⟩) hS.2.2 dX3_readCond_57
          · skip
            have k_57 : j_53 = 25 := hE.2 j_53 25 lj_53 (by decide) (Option.some.inj c_54)
            refine lv_aload_n hx hb dX3_readCond_28 rfl (lv_at hl 0 rfl) ?_
            have z_58 : (fv_47 13).toInt = (fv 13).toInt := congrArg Int32.toInt ((fr_50 13 rfl).trans ((fr_25 13 rfl).trans ((fr_17 13 rfl))))
            have z_59 : 0 ≤ (fv_47 13).toInt ∧ (fv_47 13).toInt ≤ 301 := hF_fv_47 13
            have z_60 : (fv_47 14).toInt = (fv_24 14).toInt := congrArg Int32.toInt ((fr_50 14 rfl))
            have z_61 : 0 ≤ (fv_47 14).toInt ∧ (fv_47 14).toInt ≤ 300 := hF_fv_47 14
            have z_62 : (fv_47 13).toInt = (fv 13).toInt := congrArg Int32.toInt ((fr_50 13 rfl).trans ((fr_25 13 rfl).trans ((fr_17 13 rfl))))
            have z_63 : 0 ≤ (fv_47 13).toInt ∧ (fv_47 13).toInt ≤ 301 := hF_fv_47 13
            have z_64 : (fv_47 14).toInt = (fv_24 14).toInt := congrArg Int32.toInt ((fr_50 14 rfl))
            have z_65 : 0 ≤ (fv_47 14).toInt ∧ (fv_47 14).toInt ≤ 300 := hF_fv_47 14
            refine va_callv (va_runV (As := []) (rest := []) ⟨hx, hb, hml, hown, hts⟩ (x_stepC l dC dI H.size ob ad cA hd fv_47 wd_48 ar_49 hF_fv_47 hA_ar_49 (by have h9 := rd_lt hfin (p := (fv_24 14).toInt.toNat) (by omega) (by rw [← zj_53]; omega); omega)) (cwV 0 hts (gV kw_4_116 kw_4_118 kw_p_7 kw_1_11 kw_4_119) rfl rfl rfl (by decide +kernel) ⟨Nat.le_of_ble_eq_true rfl, Nat.le_of_ble_eq_true rfl⟩) ⟨fun a U g mk q => ⟨q.1, q.2.1, q.2.2.1, va_K.moved (u := U) (U := U.calling g mk a) (Vm.Alike.refl U.vm) q.2.2.2⟩, va_recv hK hP (ci := 4) (q0 := 6) rfl rfl, fun U hU hW => ⟨rfl, by rw [hU], by rw [hU]; exact hP, va_K.moved hW.alike hK⟩⟩ rfl rfl hl.1 rfl (lv_room (Nat.le_of_ble_eq_true rfl)) dX3_readCond_29 ⟨Nat.le_of_ble_eq_true rfl, Nat.le_of_ble_eq_true rfl⟩) hS (fun q _ h9 => aX_up hS q h9) (aX_up hS) (fun u t H1 locs ht _ hw hB _ hk1 hS => ?_)
            obtain ⟨fv_68, wd_69, ar_70⟩ := u
            obtain ⟨hF_fv_68, hA_ar_70, fr_71, fa_72, wf_73, p_67, -⟩ := hw
            have wf_73 : wd_69.2 = wd_48.2 := wf_73
            have hP : va_P (dC, dI) vwCl (wsX ob ad cA fv_68 wd_69 ar_70) H1 := by have h9 := hB.1; rw [ht] at h9; exact h9
            have fr_71 : fM [14] fv_47 fv_68 := fr_71
            have fa_72 : fA [] ar_49 ar_70 := fa_72
            have p_67 : (fv_68 14).toInt = (fv_47 14).toInt + 1 ∧ (fv_68 14).toInt ≤ (fv_47 13).toInt - 1 := p_67
            generalize H1 = H at hP hS ⊢
            refine lv_aload_n hx hb dX3_readCond_32 rfl (lv_at hl 0 rfl) ?_
            refine lv_iload_n hx hb dX3_readCond_33 rfl (lv_at hl 1 rfl) ?_
            have z_74 : (fv_68 13).toInt = (fv 13).toInt := congrArg Int32.toInt ((fr_71 13 rfl).trans ((fr_50 13 rfl).trans ((fr_25 13 rfl).trans ((fr_17 13 rfl)))))
            have z_75 : 0 ≤ (fv_68 13).toInt ∧ (fv_68 13).toInt ≤ 301 := hF_fv_68 13
            have z_76 : 0 ≤ (fv_68 14).toInt ∧ (fv_68 14).toInt ≤ 300 := hF_fv_68 14
            have z_77 : 0 ≤ (fv_68 14).toInt ∧ (fv_68 14).toInt ≤ 300 := hF_fv_68 14
            have z_78 : (fv_68 17).toInt = (fv_24 17).toInt := congrArg Int32.toInt ((fr_71 17 rfl).trans ((fr_50 17 rfl)))
            have z_79 : 0 ≤ (fv_68 17).toInt ∧ (fv_68 17).toInt ≤ 50 := hF_fv_68 17
            refine va_calli (va_runV (As := [.int wi]) (rest := []) ⟨hx, hb, hml, hown, hts⟩ (x_readAllC_3 l dC dI H.size ob ad cA hd fv_68 wd_69 ar_70 hF_fv_68 hA_ar_70 tA (tO_w hto (wf_73.trans (wf_52.trans (wf_29.trans wf_19)))) T9 S9 N9 c9 wi h_wi (rd_cx_eq hcx (congrArg (fun z => z.1) (wf_73.trans (wf_52.trans (wf_29.trans wf_19)))) ((fA_call (fA_call (fA_call (fA_call (fA_rf [41, 42, 43] _) fa_18 (by decide)) fa_27 (by decide)) fa_51 (by decide)) fa_72 (by decide)) 36 rfl) ((fA_call (fA_call (fA_call (fA_call (fA_rf [41, 42, 43] _) fa_18 (by decide)) fa_27 (by decide)) fa_51 (by decide)) fa_72 (by decide)) 37 rfl)) (by omega) (by omega) h300 hT32 hfin (eC_fr hp_30 (fM_call (fM_call (fM_rf [14] _) fr_50 (by decide)) fr_71 (by decide)) (fA_call (fA_call (fA_rf [] _) fa_51 (by decide)) fa_72 (by decide)) rfl rfl rfl)) (cwV 1 hts (gV kw_4_140 kw_4_142 kw_p_12 kw_1_11 kw_4_143) rfl rfl rfl (by decide +kernel) ⟨Nat.le_of_ble_eq_true rfl, Nat.le_of_ble_eq_true rfl⟩) ⟨fun a U g mk q => ⟨q.1, ⟨q.2.1.1, q.2.1.2.1, va_K.moved (u := U) (U := U.calling g mk a) (Vm.Alike.refl U.vm) q.2.1.2.2⟩, tk_mv (U := U.calling g mk a) rfl (Vm.Alike.refl U.vm) q.2.2⟩, va_recv hK hP (ci := 4) (q0 := 6) rfl rfl, fun U hU hW => ⟨rfl, ⟨by rw [hU], by rw [hU]; exact hP, va_K.moved hW.alike hK⟩, tk_pass hE hS hU hW.alike⟩⟩ rfl rfl hl.1 rfl (lv_room (Nat.le_of_ble_eq_true rfl)) dX3_readCond_34 ⟨Nat.le_of_ble_eq_true rfl, Nat.le_of_ble_eq_true rfl⟩) hS (fun q _ h9 => aX_up hS q h9) (aX_up hS) (fun r_80 u t H1 locs ht _ hw hB _ hk1 hS => ?_)
            obtain ⟨fv_88, wd_89, ar_90⟩ := u
            obtain ⟨hF_fv_88, hA_ar_90, fr_91, fa_92, wf_93, p_81, p_82, p_83, p_84, p_85, p_86, p_87, -⟩ := hw
            have wf_93 : wd_89.2 = wd_69.2 := wf_93
            have hP : va_P (dC, dI) vwCl (wsX ob ad cA fv_88 wd_89 ar_90) H1 := by have h9 := hB.1; rw [ht] at h9; exact h9
            have fr_91 : fM [14, 16, 17, 19, 20] fv_68 fv_88 := fr_91
            have fa_92 : fA [41, 42, 43] ar_70 ar_90 := fa_92
            have p_87 : eC fv_88 ar_90 := p_87
            have p_82 : ∀ r9 : List Bool, r9.length = 3 → rd_dn r9 = r9 → rd_x T9 S9 0 ((fv_68 14).toInt.toNat) ((fv_68 17).toInt.toNat) r9 r_80 (fv_88 19) (fv_88 20) (fv_88 14) (fv_88 17) := p_82
            have p_83 : r_80 = 1 → fv_88 19 = fv_68 19 := p_83
            have p_84 : (fv_88 14).toInt ≤ (c9 : Int) := p_84
            have p_85 : r_80 = 1 → (fv_68 17).toInt + 1 ≤ (fv_88 17).toInt := p_85
            have p_86 : r_80 = 1 → ¬ T9 ((fv_88 14).toInt.toNat) = 24 := p_86
            generalize H1 = H at hP hS ⊢
            refine lv_if_ne (tgt := 42) hx hb dX3_readCond_37 (by decide) (fun c_94 => ?_) (fun c_94 => ?_)
            · skip
              have i_95 : 1 ≤ r_80.toInt ∧ r_80.toInt ≤ 1 := iv_nel p_81 (by decide) c_94
              have k_96 : ¬ r_80.toInt = 0 := fun q => c_94 (Int32.toInt_inj.mp q)
              refine lv_aload_n hx hb dX3_readCond_42 rfl (lv_at hl 0 rfl) ?_
              refine lv_iconst (v := 5) hx hb dX3_readCond_43 (by decide) ?_
              refine lv_iconst (v := 0) hx hb dX3_readCond_44 (by decide) ?_
              refine lv_iconst (v := 0) hx hb dX3_readCond_45 (by decide) ?_
              refine va_calli (va_runV (As := [.int 5, .int 0, .int 0]) (rest := []) ⟨hx, hb, hml, hown, hts⟩ (x_addCode l dC dI H.size ob ad cA hd fv_88 wd_89 ar_90 hF_fv_88 hA_ar_90 5 0 0 (iv_w (⟨by decide, by decide⟩ : (0 : Int) ≤ (0 : Int32).toInt ∧ (0 : Int32).toInt ≤ 0) (by decide) (by decide)) p_87) (cwV 3 hts (gV kw_4_150 kw_4_152 kw_p_14 kw_1_11 kw_4_153) rfl rfl rfl (by decide +kernel) ⟨Nat.le_of_ble_eq_true rfl, Nat.le_of_ble_eq_true rfl⟩) ⟨fun a U g mk q => ⟨q.1, q.2.1, q.2.2.1, va_K.moved (u := U) (U := U.calling g mk a) (Vm.Alike.refl U.vm) q.2.2.2⟩, va_recv hK hP (ci := 4) (q0 := 6) rfl rfl, fun U hU hW => ⟨rfl, by rw [hU], by rw [hU]; exact hP, va_K.moved hW.alike hK⟩⟩ rfl rfl hl.1 rfl (lv_room (Nat.le_of_ble_eq_true rfl)) dX3_readCond_46 ⟨Nat.le_of_ble_eq_true rfl, Nat.le_of_ble_eq_true rfl⟩) hS (fun q _ h9 => aX_up hS q h9) (aX_up hS) (fun r_97 u t H1 locs ht _ hw hB _ hk1 hS => ?_)
              obtain ⟨fv_101, wd_102, ar_103⟩ := u
              obtain ⟨hF_fv_101, hA_ar_103, fr_104, fa_105, wf_106, p_98, p_99, p_100, -⟩ := hw
              have wf_106 : wd_102.2 = wd_89.2 := wf_106
              have hP : va_P (dC, dI) vwCl (wsX ob ad cA fv_101 wd_102 ar_103) H1 := by have h9 := hB.1; rw [ht] at h9; exact h9
              have fr_104 : fM [16] fv_88 fv_101 := fr_104
              have fa_105 : fA [41, 42, 43] ar_90 ar_103 := fa_105
              have p_100 : eC fv_101 ar_103 := p_100
              generalize H1 = H at hP hS ⊢
              rcases p_99 with ⟨rfl, p_99⟩
              · skip
                refine lv_pop hx hb dX3_readCond_49 rfl ?_
                obtain ⟨v_107, ev_107⟩ : ∃ z : Int32, z = x_23 + 1 := ⟨_, rfl⟩
                refine lv_iinc (v := v_107) (lv' := [(2, .int v_107), (0, .ref (ob 6)), (1, .int wi)]) hx hb dX3_readCond_50 hl (k := 2) rfl (by rw [ev_107]; rfl) (by decide) rfl (fun ls hl => ?_)
                have t_108 : v_107.toInt = x_23.toInt + 1 ∧ 1 ≤ v_107.toInt ∧ v_107.toInt ≤ 50 := iv_addc ev_107 i_42 (by decide) (by decide) (by decide)
                refine lv_goto (tgt := 12) hx hb dX3_readCond_53 (by decide) ?_
                have z_113 : (fv_101 17).toInt = (fv_88 17).toInt := congrArg Int32.toInt ((fr_104 17 rfl))
                have z_114 : 0 ≤ (fv_101 17).toInt ∧ (fv_101 17).toInt ≤ 50 := hF_fv_101 17
                have z_115 : (fv_101 14).toInt = (fv_88 14).toInt := congrArg Int32.toInt ((fr_104 14 rfl))
                have z_116 : 0 ≤ (fv_101 14).toInt ∧ (fv_101 14).toInt ≤ 300 := hF_fv_101 14
                exact ih_36 v_107 fv_101 ar_103 wd_102 _ _ ls (by omega) (iv_w t_108.2 (by decide) (by decide)) hF_fv_101 (fM_call (fM_call (fM_call (fM_call (fM_call (fM_rf [14, 16, 17, 19, 20] _) fr_25 (by decide)) fr_50 (by decide)) fr_71 (by decide)) fr_91 (by decide)) fr_104 (by decide)) hA_ar_103 (fA_call (fA_call (fA_call (fA_call (fA_call (fA_rf [41, 42, 43] _) fa_27 (by decide)) fa_51 (by decide)) fa_72 (by decide)) fa_92 (by decide)) fa_105 (by decide)) (wf_106.trans (wf_93.trans (wf_73.trans (wf_52.trans wf_29)))) p_100 (fun r9 hr hd => by have : (fv_47 14).toInt = (fv_24 14).toInt := congrArg Int32.toInt ((fM_call (fM_rf [] _) fr_50 (by decide)) 14 rfl); have : (fv_101 14).toInt = (fv_88 14).toInt := congrArg Int32.toInt ((fM_call (fM_rf [16] _) fr_104 (by decide)) 14 rfl); have : (fv_47 17).toInt = (fv_24 17).toInt := congrArg Int32.toInt ((fM_call (fM_rf [] _) fr_50 (by decide)) 17 rfl); have : (fv_68 17).toInt = (fv_47 17).toInt := congrArg Int32.toInt ((fM_call (fM_rf [14] _) fr_71 (by decide)) 17 rfl); have : (fv_101 17).toInt = (fv_88 17).toInt := congrArg Int32.toInt ((fM_call (fM_rf [16] _) fr_104 (by decide)) 17 rfl); rcases p_82 r9 hr hd with ⟨a, b, q, o2, c, d⟩ | ⟨a, b⟩; exact absurd (congrArg Int32.toInt a) (by rw [show (0 : Int32).toInt = 0 from (by decide)]; omega); rw [show fv_101 14 = fv_88 14 from ((fM_call (fM_rf [16] _) fr_104 (by decide)) 14 rfl), show fv_101 17 = fv_88 17 from ((fM_call (fM_rf [16] _) fr_104 (by decide)) 17 rfl)]; rw [q_31 r9 hr hd, show (fv_24 14).toInt.toNat = (fv_24 14).toInt.toNat from (by omega), rd_m1_join (by omega) (Or.inr (by rw [← zj_53]; omega)) hd, show (fv_24 14).toInt.toNat + 1 = (fv_68 14).toInt.toNat from (by omega), show (fv_24 17).toInt.toNat = (fv_68 17).toInt.toNat from (by omega)]; exact b) (by have : (fv_47 14).toInt = (fv_24 14).toInt := congrArg Int32.toInt ((fM_call (fM_rf [] _) fr_50 (by decide)) 14 rfl); have : (fv_101 14).toInt = (fv_88 14).toInt := congrArg Int32.toInt ((fM_call (fM_rf [16] _) fr_104 (by decide)) 14 rfl); have : (fv_47 17).toInt = (fv_24 17).toInt := congrArg Int32.toInt ((fM_call (fM_rf [] _) fr_50 (by decide)) 17 rfl); have : (fv_68 17).toInt = (fv_47 17).toInt := congrArg Int32.toInt ((fM_call (fM_rf [14] _) fr_71 (by decide)) 17 rfl); have : (fv_101 17).toInt = (fv_88 17).toInt := congrArg Int32.toInt ((fM_call (fM_rf [16] _) fr_104 (by decide)) 17 rfl); have hp9 := p_84; omega) ((show fv_101 19 = fv_88 19 from ((fM_call (fM_rf [16] _) fr_104 (by decide)) 19 rfl)).trans ((p_83 (Int32.toInt_inj.mp (by rw [show (1 : Int32).toInt = 1 from (by decide)]; omega))).trans (show fv_68 19 = fv 19 from (show fv_68 19 = fv_24 19 from ((fM_call (fM_call (fM_rf [14] _) fr_50 (by decide)) fr_71 (by decide)) 19 rfl)).trans q_33))) (by have : (fv_47 14).toInt = (fv_24 14).toInt := congrArg Int32.toInt ((fM_call (fM_rf [] _) fr_50 (by decide)) 14 rfl); have : (fv_101 14).toInt = (fv_88 14).toInt := congrArg Int32.toInt ((fM_call (fM_rf [16] _) fr_104 (by decide)) 14 rfl); have : (fv_47 17).toInt = (fv_24 17).toInt := congrArg Int32.toInt ((fM_call (fM_rf [] _) fr_50 (by decide)) 17 rfl); have : (fv_68 17).toInt = (fv_47 17).toInt := congrArg Int32.toInt ((fM_call (fM_rf [14] _) fr_71 (by decide)) 17 rfl); have : (fv_101 17).toInt = (fv_88 17).toInt := congrArg Int32.toInt ((fM_call (fM_rf [16] _) fr_104 (by decide)) 17 rfl); have hi9 := p_85 (Int32.toInt_inj.mp (by rw [show (1 : Int32).toInt = 1 from (by decide)]; omega)); omega) (by have : (fv_47 14).toInt = (fv_24 14).toInt := congrArg Int32.toInt ((fM_call (fM_rf [] _) fr_50 (by decide)) 14 rfl); have : (fv_101 14).toInt = (fv_88 14).toInt := congrArg Int32.toInt ((fM_call (fM_rf [16] _) fr_104 (by decide)) 14 rfl); have : (fv_47 17).toInt = (fv_24 17).toInt := congrArg Int32.toInt ((fM_call (fM_rf [] _) fr_50 (by decide)) 17 rfl); have : (fv_68 17).toInt = (fv_47 17).toInt := congrArg Int32.toInt ((fM_call (fM_rf [14] _) fr_71 (by decide)) 17 rfl); have : (fv_101 17).toInt = (fv_88 17).toInt := congrArg Int32.toInt ((fM_call (fM_rf [16] _) fr_104 (by decide)) 17 rfl); rw [show (fv_101 14).toInt.toNat = (fv_88 14).toInt.toNat from (by omega)]; exact p_86 (Int32.toInt_inj.mp (by rw [show (1 : Int32).toInt = 1 from (by decide)]; omega))) hP hS (lv_sub hl [1, 2, 0] rfl)
            · skip
              have i_110 : 0 ≤ r_80.toInt ∧ r_80.toInt ≤ 0 := iv_eq1 (⟨by decide, by decide⟩ : (0 : Int) ≤ (0 : Int32).toInt ∧ (0 : Int32).toInt ≤ 0) c_94
              refine lv_iconst (v := 0) hx hb dX3_readCond_40 (by decide) ?_
              have z_112 : (0 : Int32).toInt = 0 := by decide
              exact W.zret (v := 0) hx hb hr (by decide) (fun t ht hW => ⟨⟨0, (fv_88, wd_89, ar_90), rfl, ⟨hF_fv_88, hA_ar_90, (fM_call (fM_call (fM_call (fM_call (fM_call (fM_rf [14, 16, 17, 19, 20] _) fr_17 (by decide)) fr_25 (by decide)) fr_50 (by decide)) fr_71 (by decide)) fr_91 (by decide)), (fA_call (fA_call (fA_call (fA_call (fA_call (fA_rf [41, 42, 43] _) fa_18 (by decide)) fa_27 (by decide)) fa_51 (by decide)) fa_72 (by decide)) fa_92 (by decide)), (wf_93.trans (wf_73.trans (wf_52.trans (wf_29.trans wf_19)))), (iv_w (⟨by decide, by decide⟩ : (0 : Int) ≤ (0 : Int32).toInt ∧ (0 : Int32).toInt ≤ 0) (by decide) (by decide)), (show ∀ r9 : List Bool, r9.length = 3 → rd_dn r9 = r9 → rd_x T9 S9 0 ((fv 14).toInt.toNat) ((fv 17).toInt.toNat) r9 (0 : Int32) (fv_88 19) (fv_88 20) (fv_88 14) (fv_88 17) from fun r9 hr hd => by have : (fv_47 14).toInt = (fv_24 14).toInt := congrArg Int32.toInt ((fM_call (fM_rf [] _) fr_50 (by decide)) 14 rfl); have : (fv_47 17).toInt = (fv_24 17).toInt := congrArg Int32.toInt ((fM_call (fM_rf [] _) fr_50 (by decide)) 17 rfl); have : (fv_68 17).toInt = (fv_47 17).toInt := congrArg Int32.toInt ((fM_call (fM_rf [14] _) fr_71 (by decide)) 17 rfl); rcases p_82 r9 hr hd with ⟨a, b, q, o2, c, d⟩ | ⟨a, b⟩; exact Or.inl ⟨rfl, b, q, o2, (by rw [q_31 r9 hr hd, show (fv_24 14).toInt.toNat = (fv_24 14).toInt.toNat from (by omega), rd_m1_join (by omega) (Or.inr (by rw [← zj_53]; omega)) hd, show (fv_24 14).toInt.toNat + 1 = (fv_68 14).toInt.toNat from (by omega), show (fv_24 17).toInt.toNat = (fv_68 17).toInt.toNat from (by omega)]; exact c), d⟩; exact absurd (congrArg Int32.toInt a) (by rw [show (1 : Int32).toInt = 1 from (by decide)]; omega)), (show (0 : Int32) = 1 → fv_88 19 = fv 19 from fun w => absurd w (by decide)), (show (fv_88 14).toInt ≤ (c9 : Int) from by have : (fv_47 14).toInt = (fv_24 14).toInt := congrArg Int32.toInt ((fM_call (fM_rf [] _) fr_50 (by decide)) 14 rfl); have hp9 := p_84; omega), (show (0 : Int32) = 1 → (fv 17).toInt + 1 ≤ (fv_88 17).toInt from fun w => absurd w (by decide)), (show (0 : Int32) = 1 → ¬ (T9 ((fv_88 14).toInt.toNat) = 24 ∨ T9 ((fv_88 14).toInt.toNat) = 25) from fun w => absurd w (by decide)), p_87, trivial⟩, ⟨by rw [ht]; exact hP, va_K.moved hW.alike hK⟩⟩, hS.F ht⟩) hS.2.2 dX3_readCond_41
    · skip
      have z_117 : (0 : Int32).toInt = 0 := by decide
      have z_118 : 0 ≤ (fv_14 17).toInt ∧ (fv_14 17).toInt ≤ 50 := hF_fv_14 17
      have z_119 : 0 ≤ (fv_14 14).toInt ∧ (fv_14 14).toInt ≤ 300 := hF_fv_14 14
      exact hj_38 51 0 fv_14 ar_16 wd_15 _ _ ls (by first | decide | omega) (iv_w (⟨by decide, by decide⟩ : (0 : Int) ≤ (0 : Int32).toInt ∧ (0 : Int32).toInt ≤ 0) (by decide) (by decide)) hF_fv_14 (fM_rf [14, 16, 17, 19, 20] _) hA_ar_16 (fA_rf [41, 42, 43] _) rfl p_13 (fun r9 hr hd => by rcases p_8 r9 hr hd with ⟨a, b, q, o2, c, d⟩ | ⟨a, b⟩; exact absurd (congrArg Int32.toInt a) (by rw [show (0 : Int32).toInt = 0 from (by decide)]; omega); exact b) (by have hp9 := p_10; omega) ((show fv_14 19 = fv_14 19 from rfl).trans ((p_9 (Int32.toInt_inj.mp (by rw [show (1 : Int32).toInt = 1 from (by decide)]; omega))).trans rfl)) (by have hi9 := p_11 (Int32.toInt_inj.mp (by rw [show (1 : Int32).toInt = 1 from (by decide)]; omega)); omega) (by rw [show (fv_14 14).toInt.toNat = (fv_14 14).toInt.toNat from (by omega)]; exact p_12 (Int32.toInt_inj.mp (by rw [show (1 : Int32).toInt = 1 from (by decide)]; omega))) hP hS (lv_sub hl [1, 2, 0] rfl)
  · skip
    have i_120 : 0 ≤ r_6.toInt ∧ r_6.toInt ≤ 0 := iv_eq1 (⟨by decide, by decide⟩ : (0 : Int) ≤ (0 : Int32).toInt ∧ (0 : Int32).toInt ≤ 0) c_20
    refine lv_iconst (v := 0) hx hb dX3_readCond_8 (by decide) ?_
    have z_122 : (0 : Int32).toInt = 0 := by decide
    exact W.zret (v := 0) hx hb hr (by decide) (fun t ht hW => ⟨⟨0, (fv_14, wd_15, ar_16), rfl, ⟨hF_fv_14, hA_ar_16, (fM_call (fM_rf [14, 16, 17, 19, 20] _) fr_17 (by decide)), (fA_call (fA_rf [41, 42, 43] _) fa_18 (by decide)), wf_19, (iv_w (⟨by decide, by decide⟩ : (0 : Int) ≤ (0 : Int32).toInt ∧ (0 : Int32).toInt ≤ 0) (by decide) (by decide)), (show ∀ r9 : List Bool, r9.length = 3 → rd_dn r9 = r9 → rd_x T9 S9 0 ((fv 14).toInt.toNat) ((fv 17).toInt.toNat) r9 (0 : Int32) (fv_14 19) (fv_14 20) (fv_14 14) (fv_14 17) from fun r9 hr hd => by rcases p_8 r9 hr hd with ⟨a, b, q, o2, c, d⟩ | ⟨a, b⟩; exact Or.inl ⟨rfl, b, q, o2, c, d⟩; exact absurd (congrArg Int32.toInt a) (by rw [show (1 : Int32).toInt = 1 from (by decide)]; omega)), (show (0 : Int32) = 1 → fv_14 19 = fv 19 from fun w => absurd w (by decide)), (show (fv_14 14).toInt ≤ (c9 : Int) from by have hp9 := p_10; omega), (show (0 : Int32) = 1 → (fv 17).toInt + 1 ≤ (fv_14 17).toInt from fun w => absurd w (by decide)), (show (0 : Int32) = 1 → ¬ (T9 ((fv_14 14).toInt.toNat) = 24 ∨ T9 ((fv_14 14).toInt.toNat) = 25) from fun w => absurd w (by decide)), p_13, trivial⟩, ⟨by rw [ht]; exact hP, va_K.moved hW.alike hK⟩⟩, hS.F ht⟩) hS.2.2 dX3_readCond_9
set_option maxHeartbeats 4000000 in
set_option maxRecDepth 100000 in
theorem x_readOneC_2 (l : Launch) (dC : Nat → ClassId) (dI : Nat → Nat → Nat) (sz : Nat) (ob ad : Nat → Nat) (cA : Nat → ClassId) (hd : dX ob ad) (fv : Nat → Int32) (wd : xT) (ar : Nat → Nat → Int32) (hF_fv : rX fv) (hA_ar : rB ar) (tA : Nat → Nat) (hto : tO tA wd.2.1) (T9 : Nat → Nat) (S9 : Nat → Nat) (N9 : Nat → Int) (c9 : Nat) (wi : Int32) (h_wi : 2 ≤ wi.toInt ∧ wi.toInt ≤ 2) (hcx : rd_cx tA T9 S9 N9 c9 wd.2.1 (ar 36) (ar 37)) (htc : (fv 13).toInt = (c9 : Int) + 1) (hpl : (fv 14).toInt ≤ (c9 : Int)) (h300 : c9 ≤ 300) (hT32 : ∀ k, T9 k < 32) (hfin : T9 c9 = 30 ∨ T9 c9 = 31) (hp_eC : eC fv ar) : Met l yX3_readOne (.code yX3_readOne cX3_readOne 5 (some .boolean) :: lw_good) ({ frames := 27, cells := 0, slots := 0, locals := 605 }) (va_Pc [.ref (ob 6), .int wi] (fun U => prX dC dI ob ad cA fv wd ar sz U ∧ tkA ob ad tA sz U)) (va_Qi (fun (r : Int32) (u : xS) => rX u.1 ∧ rB u.2.2 ∧ fM [14, 16, 17, 19, 20] fv u.1 ∧ fA [41, 42, 43] ar u.2.2 ∧ u.2.1.2 = wd.2 ∧ (0 ≤ r.toInt ∧ r.toInt ≤ 1) ∧ (∀ r9 : List Bool, r9.length = 2 → rd_x T9 S9 0 ((fv 14).toInt.toNat) ((fv 17).toInt.toNat) r9 r (u.1 19) (u.1 20) (u.1 14) (u.1 17)) ∧ (r = 1 → u.1 19 = fv 19) ∧ ((u.1 14).toInt ≤ (c9 : Int)) ∧ (r = 1 → (fv 17).toInt + 1 ≤ (u.1 17).toInt) ∧ (eC u.1 u.2.2) ∧ True) (enX dC dI ob ad cA) (aX ob ad sz)) 0 0 (aX ob ad sz) := by
  refine Met.ofW (cc := cX3_readOne) (maxL := 5) (ret := (some .boolean)) (by decide) rfl ?_
  intro p e s m args below meth c s₁ B hml hv
  obtain ⟨rfl, ⟨hsz, hP, hK⟩, hE⟩ := hv
  have hx := B.exec
  have hb := B.bytes
  have hr := B.returns
  have hts := atoms_spec (ws := (.code yX3_readOne cX3_readOne 5 (some .boolean) :: lw_good)) B.pre
  have htg : ∀ w ∈ lw_good, w.before _ s = true := fun w hw => hts w (List.mem_cons_of_mem _ hw)
  have hown : s.vm.findClass RX3 = some m.cls := findClass_of_methodNamed B.named
  have hlocks := B.notSynchronized
  subst hsz
  have hS : va_S (aX ob ad s.heap.size) s.heap s.heap [] := va_S.rf
  have hl := lv_entry ([.ref (ob 6), .int wi]) (n := 5) (Nat.le_of_ble_eq_true rfl)
  rw [lg_entry_eq]
  generalize (lg_sl ([.ref (ob 6), .int wi]) ++ List.replicate (5 - (lg_sl ([.ref (ob 6), .int wi])).length) Slot.unset).toArray = ls at hl ⊢
  have hl : lv_has ls 5 [(0, .ref (ob 6)), (1, .int wi)] := hl
  have i_1 : 0 ≤ (fv 14).toInt ∧ (fv 14).toInt ≤ 300 := (by have h9 := hF_fv 14; have h8 : 0 ≤ (fv 14).toInt := h9.1; omega)
  refine lv_aload_n hx hb dX3_readOne_0 rfl (lv_at hl 0 rfl) ?_
  have z_2 : 0 ≤ (fv 13).toInt ∧ (fv 13).toInt ≤ 301 := hF_fv 13
  have z_3 : 0 ≤ (fv 14).toInt ∧ (fv 14).toInt ≤ 300 := hF_fv 14
  refine va_callr (va_runV (As := []) (rest := []) ⟨hx, hb, hml, hown, hts⟩ (x_tokenC l dC dI s.heap.size ob ad cA hd fv wd ar hF_fv hA_ar tA hto T9 S9 N9 c9 hcx (by omega) (by omega) h300 hT32 hfin) (cwV 0 hts (gV kw_4_102 kw_4_104 kw_p_4 kw_1_11 kw_4_105) rfl rfl rfl (by decide +kernel) ⟨Nat.le_of_ble_eq_true rfl, Nat.le_of_ble_eq_true rfl⟩) ⟨fun a U g mk q => ⟨q.1, ⟨q.2.1.1, q.2.1.2.1, va_K.moved (u := U) (U := U.calling g mk a) (Vm.Alike.refl U.vm) q.2.1.2.2⟩, tk_mv (U := U.calling g mk a) rfl (Vm.Alike.refl U.vm) q.2.2⟩, va_recv hK hP (ci := 4) (q0 := 6) rfl rfl, fun U hU hW => ⟨rfl, ⟨by rw [hU], by rw [hU]; exact hP, va_K.moved hW.alike hK⟩, tk_pass hE hS hU hW.alike⟩⟩ rfl rfl hl.1 rfl (lv_room (Nat.le_of_ble_eq_true rfl)) dX3_readOne_1 ⟨Nat.le_of_ble_eq_true rfl, Nat.le_of_ble_eq_true rfl⟩) hS (fun q _ h9 => aX_up hS q h9) (aX_up hS) (fun u r_4 t H1 locs ht _ hw hB _ hk1 hS => ?_)
  obtain ⟨fv_5, wd_6, ar_7⟩ := u
  obtain ⟨hF_fv_5, hA_ar_7, fr_8, fa_9, wf_10, -⟩ := hw
  have wf_10 : wd_6.2 = wd.2 := wf_10
  have hP : va_P (dC, dI) vwCl (wsX ob ad cA fv_5 wd_6 ar_7) H1 := by have h9 := hB.1.1; rw [ht] at h9; exact h9
  have fr_8 : fM [] fv fv_5 := fr_8
  have fa_9 : fA [] ar ar_7 := fa_9
  generalize H1 = H at hP hS ⊢
  obtain ⟨j_11, lj_11, rj_11, zj_11⟩ := hB.2
  subst rj_11
  refine lv_astore_n (lv' := [(2, .ref (tA j_11)), (0, .ref (ob 6)), (1, .int wi)]) hx hb dX3_readOne_4 rfl hl (by decide) rfl (fun ls hl => ?_)
  refine lv_aload_n hx hb dX3_readOne_5 rfl (lv_at hl 0 rfl) ?_
  refine va_getE hx hb hE lj_11 hS hown (q := tkrole) (List.mem_cons_self ..) (htg (.fieldLink RX3 162 "WalkingTown$Token" "role" "I") kw_9_66) (fun _ h9 => h9) dX3_readOne_6 ?_
  refine lv_topi (fun v_12 ev_12 => ?_)
  have i_13 : 0 ≤ v_12.toInt ∧ v_12.toInt ≤ 11 := ev_12 ▸ tk_role j_11
  have k_14 := rd_role lj_11 ev_12
  refine lv_iconst (v := 2) hx hb dX3_readOne_9 (by decide) ?_
  refine lv_icmp_eq (tgt := 21) hx hb dX3_readOne_10 (by decide) (fun c_15 => ?_) (fun c_15 => ?_)
  · skip
    have i_16 : 2 ≤ v_12.toInt ∧ v_12.toInt ≤ 2 := iv_eq1 (⟨by decide, by decide⟩ : (2 : Int) ≤ (2 : Int32).toInt ∧ (2 : Int32).toInt ≤ 2) c_15
    refine lv_iconst (v := 1) hx hb dX3_readOne_21 (by decide) ?_
    refine lv_goto (tgt := 26) hx hb dX3_readOne_22 (by decide) ?_
    refine lv_istore_n (lv' := [(3, .int 1), (2, .ref (tA j_11)), (0, .ref (ob 6)), (1, .int wi)]) hx hb dX3_readOne_26 rfl hl (by decide) rfl (fun ls hl => ?_)
    refine lv_iload_n hx hb dX3_readOne_27 rfl (lv_at hl 0 rfl) ?_
    refine lv_if_ne (tgt := 51) hx hb dX3_readOne_28 (by decide) (fun c_18 => ?_) (fun c_18 => ?_)
    · skip
      refine lv_aload_n hx hb dX3_readOne_51 rfl (lv_at hl 2 rfl) ?_
      refine gX_X3_38 hx hb htg hown hK hP dX3_readOne_52 ?_
      refine my_ti (y := fv 17) ((fr_8 17 rfl)) ?_
      have i_19 : 0 ≤ (fv 17).toInt ∧ (fv 17).toInt ≤ 50 := hF_fv 17
      refine lv_bipush (v := 50) hx hb dX3_readOne_55 (by decide) ?_
      refine lv_icmp_ge (tgt := 66) hx hb dX3_readOne_57 (by decide) (fun c_20 => ?_) (fun c_20 => ?_)
      · skip
        have i_21 : 50 ≤ (fv 17).toInt ∧ (fv 17).toInt ≤ 50 := iv_le2 (⟨by decide, by decide⟩ : (50 : Int) ≤ (50 : Int32).toInt ∧ (50 : Int32).toInt ≤ 50) i_19 c_20
        refine lv_aload_n hx hb dX3_readOne_66 rfl (lv_at hl 2 rfl) ?_
        refine lv_iconst (v := 4) hx hb dX3_readOne_67 (by decide) ?_
        have z_22 : (fv_5 14).toInt = (fv 14).toInt := congrArg Int32.toInt ((fr_8 14 rfl))
        have z_23 : 0 ≤ (fv_5 14).toInt ∧ (fv_5 14).toInt ≤ 300 := hF_fv_5 14
        refine va_calli (va_runV (As := [.int 4]) (rest := []) ⟨hx, hb, hml, hown, hts⟩ (x_failC l dC dI H.size ob ad cA hd fv_5 wd_6 ar_7 hF_fv_5 hA_ar_7 4) (cwV 1 hts (gV kw_4_110 kw_4_112 kw_p_6 kw_1_11 kw_4_113) rfl rfl rfl (by decide +kernel) ⟨Nat.le_of_ble_eq_true rfl, Nat.le_of_ble_eq_true rfl⟩) ⟨fun a U g mk q => ⟨q.1, q.2.1, q.2.2.1, va_K.moved (u := U) (U := U.calling g mk a) (Vm.Alike.refl U.vm) q.2.2.2⟩, va_recv hK hP (ci := 4) (q0 := 6) rfl rfl, fun U hU hW => ⟨rfl, by rw [hU], by rw [hU]; exact hP, va_K.moved hW.alike hK⟩⟩ rfl rfl hl.1 rfl (lv_room (Nat.le_of_ble_eq_true rfl)) dX3_readOne_68 ⟨Nat.le_of_ble_eq_true rfl, Nat.le_of_ble_eq_true rfl⟩) hS (fun q _ h9 => aX_up hS q h9) (aX_up hS) (fun r_24 u t H1 locs ht _ hw hB _ hk1 hS => ?_)
        obtain ⟨fv_29, wd_30, ar_31⟩ := u
        obtain ⟨hF_fv_29, hA_ar_31, fr_32, fa_33, wf_34, p_25, p_26, p_27, p_28, -⟩ := hw
        have wf_34 : wd_30.2 = wd_6.2 := wf_34
        have hP : va_P (dC, dI) vwCl (wsX ob ad cA fv_29 wd_30 ar_31) H1 := by have h9 := hB.1; rw [ht] at h9; exact h9
        have fr_32 : fM [19, 20] fv_5 fv_29 := fr_32
        have fa_33 : fA [] ar_7 ar_31 := fa_33
        have p_27 : fv_29 19 = (4 : Int32) := p_27
        have p_28 : fv_29 20 = ar_7 36 ((fv_5 14).toInt.toNat) := p_28
        generalize H1 = H at hP hS ⊢
        rcases p_26 with ⟨rfl, p_26⟩
        · skip
          have z_35 : (0 : Int32).toInt = 0 := by decide
          exact W.zret (v := 0) hx hb hr (by decide) (fun t ht hW => ⟨⟨0, (fv_29, wd_30, ar_31), rfl, ⟨hF_fv_29, hA_ar_31, (fM_call (fM_call (fM_rf [14, 16, 17, 19, 20] _) fr_8 (by decide)) fr_32 (by decide)), (fA_call (fA_call (fA_rf [41, 42, 43] _) fa_9 (by decide)) fa_33 (by decide)), (wf_34.trans wf_10), (iv_w (⟨by decide, by decide⟩ : (0 : Int) ≤ (0 : Int32).toInt ∧ (0 : Int32).toInt ≤ 0) (by decide) (by decide)), (show ∀ r9 : List Bool, r9.length = 2 → rd_x T9 S9 0 ((fv 14).toInt.toNat) ((fv 17).toInt.toNat) r9 (0 : Int32) (fv_29 19) (fv_29 20) (fv_29 14) (fv_29 17) from fun r9 hr => by have : (fv_5 14).toInt = (fv 14).toInt := congrArg Int32.toInt ((fM_call (fM_rf [] _) fr_8 (by decide)) 14 rfl); have : (fv_29 14).toInt = (fv_5 14).toInt := congrArg Int32.toInt ((fM_call (fM_rf [19, 20] _) fr_32 (by decide)) 14 rfl); have : (fv_5 17).toInt = (fv 17).toInt := congrArg Int32.toInt ((fM_call (fM_rf [] _) fr_8 (by decide)) 17 rfl); have : (fv_29 17).toInt = (fv_5 17).toInt := congrArg Int32.toInt ((fM_call (fM_rf [19, 20] _) fr_32 (by decide)) 17 rfl); exact rd_xF (q := (fv_5 14).toInt.toNat) (show (fv_29 19).toInt = ((4 : Nat) : Int) from by rw [show fv_29 19 = fv_29 19 from rfl, p_27]; decide) (by decide) (by rw [rd_m0_many (by omega) (by rw [← zj_11]; omega) (by omega)]; rw [show (fv 14).toInt.toNat = (fv_5 14).toInt.toNat from (by omega)]) (show (fv_29 20).toInt = (S9 ((fv_5 14).toInt.toNat) : Nat) from by rw [show fv_29 20 = fv_29 20 from rfl, p_28, show ar_7 36 = ar 36 from ((fA_call (fA_rf [] _) fa_9 (by decide)) 36 rfl)]; exact (hcx ((fv_5 14).toInt.toNat) (by omega)).2.1)), (show (0 : Int32) = 1 → fv_29 19 = fv 19 from fun w => absurd w (by decide)), (show (fv_29 14).toInt ≤ (c9 : Int) from by have : (fv_5 14).toInt = (fv 14).toInt := congrArg Int32.toInt ((fM_call (fM_rf [] _) fr_8 (by decide)) 14 rfl); have : (fv_29 14).toInt = (fv_5 14).toInt := congrArg Int32.toInt ((fM_call (fM_rf [19, 20] _) fr_32 (by decide)) 14 rfl); omega), (show (0 : Int32) = 1 → (fv 17).toInt + 1 ≤ (fv_29 17).toInt from fun w => absurd w (by decide)), (eC_fr hp_eC (fM_call (fM_call (fM_rf [19, 20] _) fr_8 (by decide)) fr_32 (by decide)) (fA_call (fA_call (fA_rf [] _) fa_9 (by decide)) fa_33 (by decide)) rfl rfl rfl), trivial⟩, ⟨by rw [ht]; exact hP, va_K.moved hW.alike hK⟩⟩, hS.F ht⟩) hS.2.2 dX3_readOne_71
      · skip
        have i_36 : 0 ≤ (fv 17).toInt ∧ (fv 17).toInt ≤ 49 := iv_lt1 i_19 (⟨by decide, by decide⟩ : (50 : Int) ≤ (50 : Int32).toInt ∧ (50 : Int32).toInt ≤ 50) (Int32.not_le.mp c_20)
        refine lv_iload_n hx hb dX3_readOne_60 rfl (lv_at hl 3 rfl) ?_
        refine lv_bipush (v := 10) hx hb dX3_readOne_61 (by decide) ?_
        refine lv_icmp_lt (tgt := 72) hx hb dX3_readOne_63 (by decide) (fun c_37 => ?_) (fun c_37 => ?_)
        · skip
          refine lv_aload_n hx hb dX3_readOne_72 rfl (lv_at hl 2 rfl) ?_
          refine lv_dup hx hb dX3_readOne_73 rfl ?_
          refine gX_X3_38 hx hb htg hown hK hP dX3_readOne_74 ?_
          refine my_ti (y := fv 17) ((fr_8 17 rfl)) ?_
          refine lv_iconst (v := 1) hx hb dX3_readOne_77 (by decide) ?_
          refine lv_iadd hx hb dX3_readOne_78 ?_
          refine lv_topi (fun v_38 ev_38 => ?_)
          have t_39 : v_38.toInt = (fv 17).toInt + 1 ∧ 1 ≤ v_38.toInt ∧ v_38.toInt ≤ 50 := iv_addc ev_38 i_36 (by decide) (by decide) (by decide)
          refine pX_X3_38 hx hb htg hown hK hP hS hd dX3_readOne_79 (fun H locs fv_41 efv_41 hP hS => ?_)
          have hF_fv_41 : rX fv_41 := rX_put hF_fv_5 efv_41 (iv_w t_39.2 (by decide) (by decide))
          refine lv_aload_n hx hb dX3_readOne_82 rfl (lv_at hl 2 rfl) ?_
          have z_42 : (fv_41 13).toInt = (fv 13).toInt := congrArg Int32.toInt ((congrFun efv_41 13).trans ((fr_8 13 rfl)))
          have z_43 : 0 ≤ (fv_41 13).toInt ∧ (fv_41 13).toInt ≤ 301 := hF_fv_41 13
          have z_44 : (fv_41 14).toInt = (fv 14).toInt := congrArg Int32.toInt ((congrFun efv_41 14).trans ((fr_8 14 rfl)))
          have z_45 : 0 ≤ (fv_41 14).toInt ∧ (fv_41 14).toInt ≤ 300 := hF_fv_41 14
          have z_46 : (fv_41 13).toInt = (fv 13).toInt := congrArg Int32.toInt ((congrFun efv_41 13).trans ((fr_8 13 rfl)))
          have z_47 : 0 ≤ (fv_41 13).toInt ∧ (fv_41 13).toInt ≤ 301 := hF_fv_41 13
          have z_48 : (fv_41 14).toInt = (fv 14).toInt := congrArg Int32.toInt ((congrFun efv_41 14).trans ((fr_8 14 rfl)))
          have z_49 : 0 ≤ (fv_41 14).toInt ∧ (fv_41 14).toInt ≤ 300 := hF_fv_41 14
          refine va_callv (va_runV (As := []) (rest := []) ⟨hx, hb, hml, hown, hts⟩ (x_stepC l dC dI H.size ob ad cA hd fv_41 wd_6 ar_7 hF_fv_41 hA_ar_7 (by have h9 := rd_lt hfin (p := (fv 14).toInt.toNat) (by omega) (by rw [← zj_11]; omega); omega)) (cwV 0 hts (gV kw_4_116 kw_4_118 kw_p_7 kw_1_11 kw_4_119) rfl rfl rfl (by decide +kernel) ⟨Nat.le_of_ble_eq_true rfl, Nat.le_of_ble_eq_true rfl⟩) ⟨fun a U g mk q => ⟨q.1, q.2.1, q.2.2.1, va_K.moved (u := U) (U := U.calling g mk a) (Vm.Alike.refl U.vm) q.2.2.2⟩, va_recv hK hP (ci := 4) (q0 := 6) rfl rfl, fun U hU hW => ⟨rfl, by rw [hU], by rw [hU]; exact hP, va_K.moved hW.alike hK⟩⟩ rfl rfl hl.1 rfl (lv_room (Nat.le_of_ble_eq_true rfl)) dX3_readOne_83 ⟨Nat.le_of_ble_eq_true rfl, Nat.le_of_ble_eq_true rfl⟩) hS (fun q _ h9 => aX_up hS q h9) (aX_up hS) (fun u t H1 locs ht _ hw hB _ hk1 hS => ?_)
          obtain ⟨fv_52, wd_53, ar_54⟩ := u
          obtain ⟨hF_fv_52, hA_ar_54, fr_55, fa_56, wf_57, p_51, -⟩ := hw
          have wf_57 : wd_53.2 = wd_6.2 := wf_57
          have hP : va_P (dC, dI) vwCl (wsX ob ad cA fv_52 wd_53 ar_54) H1 := by have h9 := hB.1; rw [ht] at h9; exact h9
          have fr_55 : fM [14] fv_41 fv_52 := fr_55
          have fa_56 : fA [] ar_7 ar_54 := fa_56
          have p_51 : (fv_52 14).toInt = (fv_41 14).toInt + 1 ∧ (fv_52 14).toInt ≤ (fv_41 13).toInt - 1 := p_51
          generalize H1 = H at hP hS ⊢
          refine lv_aload_n hx hb dX3_readOne_86 rfl (lv_at hl 1 rfl) ?_
          refine va_gets hx hb (hE.1 22 (by decide)).1 hS hown (htg (.fieldLink RX3 190 "WalkingTown$Token" "NOT" "LWalkingTown$Token;") kw_4_124) (fun _ h9 => h9) dX3_readOne_87 ?_
          refine lv_acmp_ne (rx := some (tA j_11)) (ry := some (tA 22)) (tgt := 113) hx hb dX3_readOne_90 (by decide) (fun c_58 => ?_) (fun c_58 => ?_)
          · skip
            have k_59 : ¬ j_11 = 22 := fun w => c_58 (by rw [w])
            refine lv_aload_n hx hb dX3_readOne_113 rfl (lv_at hl 1 rfl) ?_
            refine va_gets hx hb (hE.1 27 (by decide)).1 hS hown (htg (.fieldLink RX3 209 "WalkingTown$Token" "OPEN" "LWalkingTown$Token;") kw_4_148) (fun _ h9 => h9) dX3_readOne_114 ?_
            refine lv_acmp_ne (rx := some (tA j_11)) (ry := some (tA 27)) (tgt := 146) hx hb dX3_readOne_117 (by decide) (fun c_60 => ?_) (fun c_60 => ?_)
            · skip
              have k_61 : ¬ j_11 = 27 := fun w => c_60 (by rw [w])
              refine lv_aload_n hx hb dX3_readOne_146 rfl (lv_at hl 1 rfl) ?_
              refine va_getE hx hb hE lj_11 hS hown (q := tkrole) (List.mem_cons_self ..) (htg (.fieldLink RX3 162 "WalkingTown$Token" "role" "I") kw_9_66) (fun _ h9 => h9) dX3_readOne_147 ?_
              refine lv_topi (fun v_62 ev_62 => ?_)
              have i_63 : 0 ≤ v_62.toInt ∧ v_62.toInt ≤ 11 := ev_62 ▸ tk_role j_11
              have k_64 := rd_role lj_11 ev_62
              refine lv_iconst (v := 2) hx hb dX3_readOne_150 (by decide) ?_
              refine lv_icmp_ne (tgt := 167) hx hb dX3_readOne_151 (by decide) (fun c_65 => ?_) (fun c_65 => ?_)
              · skip
                have k_66 : ¬ v_62.toInt = 2 := fun q => c_65 (Int32.toInt_inj.mp q)
                refine lv_aload_n hx hb dX3_readOne_167 rfl (lv_at hl 2 rfl) ?_
                refine lv_aload_n hx hb dX3_readOne_168 rfl (lv_at hl 1 rfl) ?_
                refine va_getE hx hb hE lj_11 hS hown (q := tkcode) (List.mem_cons_of_mem _ (List.mem_cons_self ..)) (htg (.fieldLink RX3 168 "WalkingTown$Token" "code" "I") kw_9_67) (fun _ h9 => h9) dX3_readOne_169 ?_
                refine lv_topi (fun v_67 ev_67 => ?_)
                have i_68 : 0 ≤ v_67.toInt ∧ v_67.toInt ≤ 11 := ev_67 ▸ tk_code j_11
                have z_69 : (fv_52 13).toInt = (fv 13).toInt := congrArg Int32.toInt ((fr_55 13 rfl).trans ((congrFun efv_41 13).trans ((fr_8 13 rfl))))
                have z_70 : 0 ≤ (fv_52 13).toInt ∧ (fv_52 13).toInt ≤ 301 := hF_fv_52 13
                have z_71 : 0 ≤ (fv_52 14).toInt ∧ (fv_52 14).toInt ≤ 300 := hF_fv_52 14
                have z_72 : 0 ≤ (fv_52 14).toInt ∧ (fv_52 14).toInt ≤ 300 := hF_fv_52 14
                have z_73 : (fv_52 17).toInt = v_38.toInt := congrArg Int32.toInt ((fr_55 17 rfl).trans ((congrFun efv_41 17)))
                have z_74 : 0 ≤ (fv_52 17).toInt ∧ (fv_52 17).toInt ≤ 50 := hF_fv_52 17
                refine va_calli (va_runV (As := [.int v_67]) (rest := []) ⟨hx, hb, hml, hown, hts⟩ (x_readSignC l dC dI H.size ob ad cA hd fv_52 wd_53 ar_54 hF_fv_52 hA_ar_54 tA (tO_w hto (wf_57.trans wf_10)) T9 S9 N9 c9 v_67 i_68 (rd_cx_eq hcx (congrArg (fun z => z.1) (wf_57.trans wf_10)) ((fA_call (fA_call (fA_rf [] _) fa_9 (by decide)) fa_56 (by decide)) 36 rfl) ((fA_call (fA_call (fA_rf [] _) fa_9 (by decide)) fa_56 (by decide)) 37 rfl)) (by omega) (by omega) h300 hT32 hfin (eC_fr hp_eC (fM_call (fM_put (fM_call (fM_rf [14, 17] _) fr_8 (by decide)) efv_41 (by decide)) fr_55 (by decide)) (fA_call (fA_call (fA_rf [] _) fa_9 (by decide)) fa_56 (by decide)) rfl rfl rfl)) (cwV 1 hts (gV kw_4_156 kw_4_158 kw_p_15 kw_1_11 kw_4_159) rfl rfl rfl (by decide +kernel) ⟨Nat.le_of_ble_eq_true rfl, Nat.le_of_ble_eq_true rfl⟩) ⟨fun a U g mk q => ⟨q.1, ⟨q.2.1.1, q.2.1.2.1, va_K.moved (u := U) (U := U.calling g mk a) (Vm.Alike.refl U.vm) q.2.1.2.2⟩, tk_mv (U := U.calling g mk a) rfl (Vm.Alike.refl U.vm) q.2.2⟩, va_recv hK hP (ci := 4) (q0 := 6) rfl rfl, fun U hU hW => ⟨rfl, ⟨by rw [hU], by rw [hU]; exact hP, va_K.moved hW.alike hK⟩, tk_pass hE hS hU hW.alike⟩⟩ rfl rfl hl.1 rfl (lv_room (Nat.le_of_ble_eq_true rfl)) dX3_readOne_172 ⟨Nat.le_of_ble_eq_true rfl, Nat.le_of_ble_eq_true rfl⟩) hS (fun q _ h9 => aX_up hS q h9) (aX_up hS) (fun r_75 u t H1 locs ht _ hw hB _ hk1 hS => ?_)
                obtain ⟨fv_81, wd_82, ar_83⟩ := u
                obtain ⟨hF_fv_81, hA_ar_83, fr_84, fa_85, wf_86, p_76, p_77, p_78, p_79, p_80, -⟩ := hw
                have wf_86 : wd_82.2 = wd_53.2 := wf_86
                have hP : va_P (dC, dI) vwCl (wsX ob ad cA fv_81 wd_82 ar_83) H1 := by have h9 := hB.1; rw [ht] at h9; exact h9
                have fr_84 : fM [14, 16, 19, 20] fv_52 fv_81 := fr_84
                have fa_85 : fA [41, 42, 43] ar_54 ar_83 := fa_85
                have p_80 : eC fv_81 ar_83 := p_80
                have p_77 : ∀ r9 : List Bool, rd_x T9 S9 2 ((fv_52 14).toInt.toNat) ((fv_52 17).toInt.toNat) r9 r_75 (fv_81 19) (fv_81 20) (fv_81 14) (fv_81 17) := p_77
                have p_78 : r_75 = 1 → fv_81 19 = fv_52 19 := p_78
                have p_79 : (fv_81 14).toInt ≤ (c9 : Int) := p_79
                generalize H1 = H at hP hS ⊢
                exact W.zret (v := r_75) hx hb hr (iv_nar p_76) (fun t ht hW => ⟨⟨r_75, (fv_81, wd_82, ar_83), rfl, ⟨hF_fv_81, hA_ar_83, (fM_call (fM_call (fM_put (fM_call (fM_rf [14, 16, 17, 19, 20] _) fr_8 (by decide)) efv_41 (by decide)) fr_55 (by decide)) fr_84 (by decide)), (fA_call (fA_call (fA_call (fA_rf [41, 42, 43] _) fa_9 (by decide)) fa_56 (by decide)) fa_85 (by decide)), (wf_86.trans (wf_57.trans wf_10)), p_76, (show ∀ r9 : List Bool, r9.length = 2 → rd_x T9 S9 0 ((fv 14).toInt.toNat) ((fv 17).toInt.toNat) r9 r_75 (fv_81 19) (fv_81 20) (fv_81 14) (fv_81 17) from fun r9 hr => by have : (fv_5 14).toInt = (fv 14).toInt := congrArg Int32.toInt ((fM_call (fM_rf [] _) fr_8 (by decide)) 14 rfl); have : (fv_41 14).toInt = (fv_5 14).toInt := congrArg Int32.toInt ((fM_put (fM_rf [17] _) efv_41 (by decide)) 14 rfl); have : (fv_5 17).toInt = (fv 17).toInt := congrArg Int32.toInt ((fM_call (fM_rf [] _) fr_8 (by decide)) 17 rfl); have : (fv_41 17).toInt = v_38.toInt := congrArg Int32.toInt (show fv_41 17 = v_38 from congrFun efv_41 17); have : (fv_52 17).toInt = (fv_41 17).toInt := congrArg Int32.toInt ((fM_call (fM_rf [14] _) fr_55 (by decide)) 17 rfl); have : (fv_81 17).toInt = (fv_52 17).toInt := congrArg Int32.toInt ((fM_call (fM_rf [14, 16, 19, 20] _) fr_84 (by decide)) 17 rfl); have h9 := p_77 r9; exact rd_x_of h9 (by rw [rd_m0_fact (by omega) (by rw [← zj_11]; omega) (by omega), show (fv 14).toInt.toNat + 1 = (fv_52 14).toInt.toNat from (by omega), show (fv 17).toInt.toNat + 1 = (fv_52 17).toInt.toNat from (by omega)])), (show r_75 = 1 → fv_81 19 = fv 19 from fun w => (show fv_81 19 = fv_81 19 from rfl).trans ((p_78 w).trans ((fM_call (fM_put (fM_call (fM_rf [14, 17] _) fr_8 (by decide)) efv_41 (by decide)) fr_55 (by decide)) 19 rfl))), (show (fv_81 14).toInt ≤ (c9 : Int) from by have : (fv_5 14).toInt = (fv 14).toInt := congrArg Int32.toInt ((fM_call (fM_rf [] _) fr_8 (by decide)) 14 rfl); have : (fv_41 14).toInt = (fv_5 14).toInt := congrArg Int32.toInt ((fM_put (fM_rf [17] _) efv_41 (by decide)) 14 rfl); have hp9 := p_79; omega), (show r_75 = 1 → (fv 17).toInt + 1 ≤ (fv_81 17).toInt from fun w => by have : (fv_5 17).toInt = (fv 17).toInt := congrArg Int32.toInt ((fM_call (fM_rf [] _) fr_8 (by decide)) 17 rfl); have : (fv_41 17).toInt = v_38.toInt := congrArg Int32.toInt (show fv_41 17 = v_38 from congrFun efv_41 17); have : (fv_52 17).toInt = (fv_41 17).toInt := congrArg Int32.toInt ((fM_call (fM_rf [14] _) fr_55 (by decide)) 17 rfl); have : (fv_81 17).toInt = (fv_52 17).toInt := congrArg Int32.toInt ((fM_call (fM_rf [14, 16, 19, 20] _) fr_84 (by decide)) 17 rfl); have hi9 : (fv_81 17).toInt = (fv_52 17).toInt := congrArg Int32.toInt ((fM_call (fM_rf [14, 16, 19, 20] _) fr_84 (by decide)) 17 rfl); omega), p_80, trivial⟩, ⟨by rw [ht]; exact hP, va_K.moved hW.alike hK⟩⟩, hS.F ht⟩) hS.2.2 dX3_readOne_175
              · skip
                have i_87 : 2 ≤ v_62.toInt ∧ v_62.toInt ≤ 2 := iv_eq1 (⟨by decide, by decide⟩ : (2 : Int) ≤ (2 : Int32).toInt ∧ (2 : Int32).toInt ≤ 2) c_65
                refine lv_aload_n hx hb dX3_readOne_154 rfl (lv_at hl 2 rfl) ?_
                refine lv_iconst (v := 2) hx hb dX3_readOne_155 (by decide) ?_
                refine lv_aload_n hx hb dX3_readOne_156 rfl (lv_at hl 1 rfl) ?_
                refine va_getE hx hb hE lj_11 hS hown (q := tkcode) (List.mem_cons_of_mem _ (List.mem_cons_self ..)) (htg (.fieldLink RX3 168 "WalkingTown$Token" "code" "I") kw_9_67) (fun _ h9 => h9) dX3_readOne_157 ?_
                refine lv_topi (fun v_89 ev_89 => ?_)
                have i_90 : 0 ≤ v_89.toInt ∧ v_89.toInt ≤ 11 := ev_89 ▸ tk_code j_11
                refine lv_iconst (v := 0) hx hb dX3_readOne_160 (by decide) ?_
                refine va_calli (va_runV (As := [.int 2, .int v_89, .int 0]) (rest := []) ⟨hx, hb, hml, hown, hts⟩ (x_addCode l dC dI H.size ob ad cA hd fv_52 wd_53 ar_54 hF_fv_52 hA_ar_54 2 v_89 0 i_90 (eC_fr hp_eC (fM_call (fM_put (fM_call (fM_rf [14, 17] _) fr_8 (by decide)) efv_41 (by decide)) fr_55 (by decide)) (fA_call (fA_call (fA_rf [] _) fa_9 (by decide)) fa_56 (by decide)) rfl rfl rfl)) (cwV 3 hts (gV kw_4_150 kw_4_152 kw_p_14 kw_1_11 kw_4_153) rfl rfl rfl (by decide +kernel) ⟨Nat.le_of_ble_eq_true rfl, Nat.le_of_ble_eq_true rfl⟩) ⟨fun a U g mk q => ⟨q.1, q.2.1, q.2.2.1, va_K.moved (u := U) (U := U.calling g mk a) (Vm.Alike.refl U.vm) q.2.2.2⟩, va_recv hK hP (ci := 4) (q0 := 6) rfl rfl, fun U hU hW => ⟨rfl, by rw [hU], by rw [hU]; exact hP, va_K.moved hW.alike hK⟩⟩ rfl rfl hl.1 rfl (lv_room (Nat.le_of_ble_eq_true rfl)) dX3_readOne_161 ⟨Nat.le_of_ble_eq_true rfl, Nat.le_of_ble_eq_true rfl⟩) hS (fun q _ h9 => aX_up hS q h9) (aX_up hS) (fun r_91 u t H1 locs ht _ hw hB _ hk1 hS => ?_)
                obtain ⟨fv_95, wd_96, ar_97⟩ := u
                obtain ⟨hF_fv_95, hA_ar_97, fr_98, fa_99, wf_100, p_92, p_93, p_94, -⟩ := hw
                have wf_100 : wd_96.2 = wd_53.2 := wf_100
                have hP : va_P (dC, dI) vwCl (wsX ob ad cA fv_95 wd_96 ar_97) H1 := by have h9 := hB.1; rw [ht] at h9; exact h9
                have fr_98 : fM [16] fv_52 fv_95 := fr_98
                have fa_99 : fA [41, 42, 43] ar_54 ar_97 := fa_99
                have p_94 : eC fv_95 ar_97 := p_94
                generalize H1 = H at hP hS ⊢
                rcases p_93 with ⟨rfl, p_93⟩
                · skip
                  refine lv_goto (tgt := 175) hx hb dX3_readOne_164 (by decide) ?_
                  have z_101 : (1 : Int32).toInt = 1 := by decide
                  exact W.zret (v := 1) hx hb hr (by decide) (fun t ht hW => ⟨⟨1, (fv_95, wd_96, ar_97), rfl, ⟨hF_fv_95, hA_ar_97, (fM_call (fM_call (fM_put (fM_call (fM_rf [14, 16, 17, 19, 20] _) fr_8 (by decide)) efv_41 (by decide)) fr_55 (by decide)) fr_98 (by decide)), (fA_call (fA_call (fA_call (fA_rf [41, 42, 43] _) fa_9 (by decide)) fa_56 (by decide)) fa_99 (by decide)), (wf_100.trans (wf_57.trans wf_10)), (iv_w (⟨by decide, by decide⟩ : (1 : Int) ≤ (1 : Int32).toInt ∧ (1 : Int32).toInt ≤ 1) (by decide) (by decide)), (show ∀ r9 : List Bool, r9.length = 2 → rd_x T9 S9 0 ((fv 14).toInt.toNat) ((fv 17).toInt.toNat) r9 (1 : Int32) (fv_95 19) (fv_95 20) (fv_95 14) (fv_95 17) from fun r9 hr => by have : (fv_5 14).toInt = (fv 14).toInt := congrArg Int32.toInt ((fM_call (fM_rf [] _) fr_8 (by decide)) 14 rfl); have : (fv_41 14).toInt = (fv_5 14).toInt := congrArg Int32.toInt ((fM_put (fM_rf [17] _) efv_41 (by decide)) 14 rfl); have : (fv_95 14).toInt = (fv_52 14).toInt := congrArg Int32.toInt ((fM_call (fM_rf [16] _) fr_98 (by decide)) 14 rfl); have : (fv_5 17).toInt = (fv 17).toInt := congrArg Int32.toInt ((fM_call (fM_rf [] _) fr_8 (by decide)) 17 rfl); have : (fv_41 17).toInt = v_38.toInt := congrArg Int32.toInt (show fv_41 17 = v_38 from congrFun efv_41 17); have : (fv_52 17).toInt = (fv_41 17).toInt := congrArg Int32.toInt ((fM_call (fM_rf [14] _) fr_55 (by decide)) 17 rfl); have : (fv_95 17).toInt = (fv_52 17).toInt := congrArg Int32.toInt ((fM_call (fM_rf [16] _) fr_98 (by decide)) 17 rfl); exact rd_xO (by rw [rd_m0_flag (by omega) (by rw [← zj_11]; omega) (by omega), show (fv 14).toInt.toNat + 1 = (fv_95 14).toInt.toNat from (by omega), show (fv 17).toInt.toNat + 1 = (fv_95 17).toInt.toNat from (by omega)])), (show (1 : Int32) = 1 → fv_95 19 = fv 19 from fun _ => ((fM_call (fM_call (fM_put (fM_call (fM_rf [14, 16, 17] _) fr_8 (by decide)) efv_41 (by decide)) fr_55 (by decide)) fr_98 (by decide)) 19 rfl)), (show (fv_95 14).toInt ≤ (c9 : Int) from by have : (fv_5 14).toInt = (fv 14).toInt := congrArg Int32.toInt ((fM_call (fM_rf [] _) fr_8 (by decide)) 14 rfl); have : (fv_41 14).toInt = (fv_5 14).toInt := congrArg Int32.toInt ((fM_put (fM_rf [17] _) efv_41 (by decide)) 14 rfl); have : (fv_95 14).toInt = (fv_52 14).toInt := congrArg Int32.toInt ((fM_call (fM_rf [16] _) fr_98 (by decide)) 14 rfl); omega), (show (1 : Int32) = 1 → (fv 17).toInt + 1 ≤ (fv_95 17).toInt from fun w => by have : (fv_5 17).toInt = (fv 17).toInt := congrArg Int32.toInt ((fM_call (fM_rf [] _) fr_8 (by decide)) 17 rfl); have : (fv_41 17).toInt = v_38.toInt := congrArg Int32.toInt (show fv_41 17 = v_38 from congrFun efv_41 17); have : (fv_52 17).toInt = (fv_41 17).toInt := congrArg Int32.toInt ((fM_call (fM_rf [14] _) fr_55 (by decide)) 17 rfl); have : (fv_95 17).toInt = (fv_52 17).toInt := congrArg Int32.toInt ((fM_call (fM_rf [16] _) fr_98 (by decide)) 17 rfl); omega), p_94, trivial⟩, ⟨by rw [ht]; exact hP, va_K.moved hW.alike hK⟩⟩, hS.F ht⟩) hS.2.2 dX3_readOne_175
            · skip
              have k_102 : j_11 = 27 := hE.2 j_11 27 lj_11 (by decide) (Option.some.inj c_60)
              exfalso; omega
          · skip
            have k_103 : j_11 = 22 := hE.2 j_11 22 lj_11 (by decide) (Option.some.inj c_58)
            exfalso; omega
        · skip
          exact absurd True.intro (by have h7 := (⟨by decide, by decide⟩ : (10 : Int) ≤ (10 : Int32).toInt ∧ (10 : Int32).toInt ≤ 10); have h8 := h_wi; have h9 := Int32.le_iff_toInt_le.mp (Int32.not_lt.mp c_37); exfalso; omega)
    · skip
      exact absurd c_18 (by decide)
  · skip
    have k_104 : ¬ v_12.toInt = 2 := fun q => c_15 (Int32.toInt_inj.mp q)
    refine lv_aload_n hx hb dX3_readOne_13 rfl (lv_at hl 0 rfl) ?_
    refine va_getE hx hb hE lj_11 hS hown (q := tkrole) (List.mem_cons_self ..) (htg (.fieldLink RX3 162 "WalkingTown$Token" "role" "I") kw_9_66) (fun _ h9 => h9) dX3_readOne_14 ?_
    refine lv_topi (fun v_105 ev_105 => ?_)
    have i_106 : 0 ≤ v_105.toInt ∧ v_105.toInt ≤ 11 := ev_105 ▸ tk_role j_11
    have k_107 := rd_role lj_11 ev_105
    refine lv_iconst (v := 3) hx hb dX3_readOne_17 (by decide) ?_
    refine lv_icmp_ne (tgt := 25) hx hb dX3_readOne_18 (by decide) (fun c_108 => ?_) (fun c_108 => ?_)
    · skip
      have k_109 : ¬ v_105.toInt = 3 := fun q => c_108 (Int32.toInt_inj.mp q)
      refine lv_iconst (v := 0) hx hb dX3_readOne_25 (by decide) ?_
      refine lv_istore_n (lv' := [(3, .int 0), (2, .ref (tA j_11)), (0, .ref (ob 6)), (1, .int wi)]) hx hb dX3_readOne_26 rfl hl (by decide) rfl (fun ls hl => ?_)
      refine lv_iload_n hx hb dX3_readOne_27 rfl (lv_at hl 0 rfl) ?_
      refine lv_if_ne (tgt := 51) hx hb dX3_readOne_28 (by decide) (fun c_110 => ?_) (fun c_110 => ?_)
      · skip
        exact absurd c_110 (by decide)
      · skip
        refine lv_aload_n hx hb dX3_readOne_31 rfl (lv_at hl 1 rfl) ?_
        refine va_gets hx hb (hE.1 22 (by decide)).1 hS hown (htg (.fieldLink RX3 190 "WalkingTown$Token" "NOT" "LWalkingTown$Token;") kw_4_124) (fun _ h9 => h9) dX3_readOne_32 ?_
        refine lv_acmp_eq (rx := some (tA j_11)) (ry := some (tA 22)) (tgt := 51) hx hb dX3_readOne_35 (by decide) (fun c_111 => ?_) (fun c_111 => ?_)
        · skip
          have k_112 : j_11 = 22 := hE.2 j_11 22 lj_11 (by decide) (Option.some.inj c_111)
          refine lv_aload_n hx hb dX3_readOne_51 rfl (lv_at hl 2 rfl) ?_
          refine gX_X3_38 hx hb htg hown hK hP dX3_readOne_52 ?_
          refine my_ti (y := fv 17) ((fr_8 17 rfl)) ?_
          have i_113 : 0 ≤ (fv 17).toInt ∧ (fv 17).toInt ≤ 50 := hF_fv 17
          refine lv_bipush (v := 50) hx hb dX3_readOne_55 (by decide) ?_
          refine lv_icmp_ge (tgt := 66) hx hb dX3_readOne_57 (by decide) (fun c_114 => ?_) (fun c_114 => ?_)
          · skip
            have i_115 : 50 ≤ (fv 17).toInt ∧ (fv 17).toInt ≤ 50 := iv_le2 (⟨by decide, by decide⟩ : (50 : Int) ≤ (50 : Int32).toInt ∧ (50 : Int32).toInt ≤ 50) i_113 c_114
            refine lv_aload_n hx hb dX3_readOne_66 rfl (lv_at hl 2 rfl) ?_
            refine lv_iconst (v := 4) hx hb dX3_readOne_67 (by decide) ?_
            have z_116 : (fv_5 14).toInt = (fv 14).toInt := congrArg Int32.toInt ((fr_8 14 rfl))
            have z_117 : 0 ≤ (fv_5 14).toInt ∧ (fv_5 14).toInt ≤ 300 := hF_fv_5 14
            refine va_calli (va_runV (As := [.int 4]) (rest := []) ⟨hx, hb, hml, hown, hts⟩ (x_failC l dC dI H.size ob ad cA hd fv_5 wd_6 ar_7 hF_fv_5 hA_ar_7 4) (cwV 1 hts (gV kw_4_110 kw_4_112 kw_p_6 kw_1_11 kw_4_113) rfl rfl rfl (by decide +kernel) ⟨Nat.le_of_ble_eq_true rfl, Nat.le_of_ble_eq_true rfl⟩) ⟨fun a U g mk q => ⟨q.1, q.2.1, q.2.2.1, va_K.moved (u := U) (U := U.calling g mk a) (Vm.Alike.refl U.vm) q.2.2.2⟩, va_recv hK hP (ci := 4) (q0 := 6) rfl rfl, fun U hU hW => ⟨rfl, by rw [hU], by rw [hU]; exact hP, va_K.moved hW.alike hK⟩⟩ rfl rfl hl.1 rfl (lv_room (Nat.le_of_ble_eq_true rfl)) dX3_readOne_68 ⟨Nat.le_of_ble_eq_true rfl, Nat.le_of_ble_eq_true rfl⟩) hS (fun q _ h9 => aX_up hS q h9) (aX_up hS) (fun r_118 u t H1 locs ht _ hw hB _ hk1 hS => ?_)
            obtain ⟨fv_123, wd_124, ar_125⟩ := u
            obtain ⟨hF_fv_123, hA_ar_125, fr_126, fa_127, wf_128, p_119, p_120, p_121, p_122, -⟩ := hw
            have wf_128 : wd_124.2 = wd_6.2 := wf_128
            have hP : va_P (dC, dI) vwCl (wsX ob ad cA fv_123 wd_124 ar_125) H1 := by have h9 := hB.1; rw [ht] at h9; exact h9
            have fr_126 : fM [19, 20] fv_5 fv_123 := fr_126
            have fa_127 : fA [] ar_7 ar_125 := fa_127
            have p_121 : fv_123 19 = (4 : Int32) := p_121
            have p_122 : fv_123 20 = ar_7 36 ((fv_5 14).toInt.toNat) := p_122
            generalize H1 = H at hP hS ⊢
            rcases p_120 with ⟨rfl, p_120⟩
            · skip
              have z_129 : (0 : Int32).toInt = 0 := by decide
              exact W.zret (v := 0) hx hb hr (by decide) (fun t ht hW => ⟨⟨0, (fv_123, wd_124, ar_125), rfl, ⟨hF_fv_123, hA_ar_125, (fM_call (fM_call (fM_rf [14, 16, 17, 19, 20] _) fr_8 (by decide)) fr_126 (by decide)), (fA_call (fA_call (fA_rf [41, 42, 43] _) fa_9 (by decide)) fa_127 (by decide)), (wf_128.trans wf_10), (iv_w (⟨by decide, by decide⟩ : (0 : Int) ≤ (0 : Int32).toInt ∧ (0 : Int32).toInt ≤ 0) (by decide) (by decide)), (show ∀ r9 : List Bool, r9.length = 2 → rd_x T9 S9 0 ((fv 14).toInt.toNat) ((fv 17).toInt.toNat) r9 (0 : Int32) (fv_123 19) (fv_123 20) (fv_123 14) (fv_123 17) from fun r9 hr => by have : (fv_5 14).toInt = (fv 14).toInt := congrArg Int32.toInt ((fM_call (fM_rf [] _) fr_8 (by decide)) 14 rfl); have : (fv_123 14).toInt = (fv_5 14).toInt := congrArg Int32.toInt ((fM_call (fM_rf [19, 20] _) fr_126 (by decide)) 14 rfl); have : (fv_5 17).toInt = (fv 17).toInt := congrArg Int32.toInt ((fM_call (fM_rf [] _) fr_8 (by decide)) 17 rfl); have : (fv_123 17).toInt = (fv_5 17).toInt := congrArg Int32.toInt ((fM_call (fM_rf [19, 20] _) fr_126 (by decide)) 17 rfl); exact rd_xF (q := (fv_5 14).toInt.toNat) (show (fv_123 19).toInt = ((4 : Nat) : Int) from by rw [show fv_123 19 = fv_123 19 from rfl, p_121]; decide) (by decide) (by rw [rd_m0_many (by omega) (by rw [← zj_11]; omega) (by omega)]; rw [show (fv 14).toInt.toNat = (fv_5 14).toInt.toNat from (by omega)]) (show (fv_123 20).toInt = (S9 ((fv_5 14).toInt.toNat) : Nat) from by rw [show fv_123 20 = fv_123 20 from rfl, p_122, show ar_7 36 = ar 36 from ((fA_call (fA_rf [] _) fa_9 (by decide)) 36 rfl)]; exact (hcx ((fv_5 14).toInt.toNat) (by omega)).2.1)), (show (0 : Int32) = 1 → fv_123 19 = fv 19 from fun w => absurd w (by decide)), (show (fv_123 14).toInt ≤ (c9 : Int) from by have : (fv_5 14).toInt = (fv 14).toInt := congrArg Int32.toInt ((fM_call (fM_rf [] _) fr_8 (by decide)) 14 rfl); have : (fv_123 14).toInt = (fv_5 14).toInt := congrArg Int32.toInt ((fM_call (fM_rf [19, 20] _) fr_126 (by decide)) 14 rfl); omega), (show (0 : Int32) = 1 → (fv 17).toInt + 1 ≤ (fv_123 17).toInt from fun w => absurd w (by decide)), (eC_fr hp_eC (fM_call (fM_call (fM_rf [19, 20] _) fr_8 (by decide)) fr_126 (by decide)) (fA_call (fA_call (fA_rf [] _) fa_9 (by decide)) fa_127 (by decide)) rfl rfl rfl), trivial⟩, ⟨by rw [ht]; exact hP, va_K.moved hW.alike hK⟩⟩, hS.F ht⟩) hS.2.2 dX3_readOne_71
          · skip
            have i_130 : 0 ≤ (fv 17).toInt ∧ (fv 17).toInt ≤ 49 := iv_lt1 i_113 (⟨by decide, by decide⟩ : (50 : Int) ≤ (50 : Int32).toInt ∧ (50 : Int32).toInt ≤ 50) (Int32.not_le.mp c_114)
            refine lv_iload_n hx hb dX3_readOne_60 rfl (lv_at hl 3 rfl) ?_
            refine lv_bipush (v := 10) hx hb dX3_readOne_61 (by decide) ?_
            refine lv_icmp_lt (tgt := 72) hx hb dX3_readOne_63 (by decide) (fun c_131 => ?_) (fun c_131 => ?_)
            · skip
              refine lv_aload_n hx hb dX3_readOne_72 rfl (lv_at hl 2 rfl) ?_
              refine lv_dup hx hb dX3_readOne_73 rfl ?_
              refine gX_X3_38 hx hb htg hown hK hP dX3_readOne_74 ?_
              refine my_ti (y := fv 17) ((fr_8 17 rfl)) ?_
              refine lv_iconst (v := 1) hx hb dX3_readOne_77 (by decide) ?_
              refine lv_iadd hx hb dX3_readOne_78 ?_
              refine lv_topi (fun v_132 ev_132 => ?_)
              have t_133 : v_132.toInt = (fv 17).toInt + 1 ∧ 1 ≤ v_132.toInt ∧ v_132.toInt ≤ 50 := iv_addc ev_132 i_130 (by decide) (by decide) (by decide)
              refine pX_X3_38 hx hb htg hown hK hP hS hd dX3_readOne_79 (fun H locs fv_135 efv_135 hP hS => ?_)
              have hF_fv_135 : rX fv_135 := rX_put hF_fv_5 efv_135 (iv_w t_133.2 (by decide) (by decide))
              refine lv_aload_n hx hb dX3_readOne_82 rfl (lv_at hl 2 rfl) ?_
              have z_136 : (fv_135 13).toInt = (fv 13).toInt := congrArg Int32.toInt ((congrFun efv_135 13).trans ((fr_8 13 rfl)))
              have z_137 : 0 ≤ (fv_135 13).toInt ∧ (fv_135 13).toInt ≤ 301 := hF_fv_135 13
              have z_138 : (fv_135 14).toInt = (fv 14).toInt := congrArg Int32.toInt ((congrFun efv_135 14).trans ((fr_8 14 rfl)))
              have z_139 : 0 ≤ (fv_135 14).toInt ∧ (fv_135 14).toInt ≤ 300 := hF_fv_135 14
              have z_140 : (fv_135 13).toInt = (fv 13).toInt := congrArg Int32.toInt ((congrFun efv_135 13).trans ((fr_8 13 rfl)))
              have z_141 : 0 ≤ (fv_135 13).toInt ∧ (fv_135 13).toInt ≤ 301 := hF_fv_135 13
              have z_142 : (fv_135 14).toInt = (fv 14).toInt := congrArg Int32.toInt ((congrFun efv_135 14).trans ((fr_8 14 rfl)))
              have z_143 : 0 ≤ (fv_135 14).toInt ∧ (fv_135 14).toInt ≤ 300 := hF_fv_135 14
              refine va_callv (va_runV (As := []) (rest := []) ⟨hx, hb, hml, hown, hts⟩ (x_stepC l dC dI H.size ob ad cA hd fv_135 wd_6 ar_7 hF_fv_135 hA_ar_7 (by have h9 := rd_lt hfin (p := (fv 14).toInt.toNat) (by omega) (by rw [← zj_11]; omega); omega)) (cwV 0 hts (gV kw_4_116 kw_4_118 kw_p_7 kw_1_11 kw_4_119) rfl rfl rfl (by decide +kernel) ⟨Nat.le_of_ble_eq_true rfl, Nat.le_of_ble_eq_true rfl⟩) ⟨fun a U g mk q => ⟨q.1, q.2.1, q.2.2.1, va_K.moved (u := U) (U := U.calling g mk a) (Vm.Alike.refl U.vm) q.2.2.2⟩, va_recv hK hP (ci := 4) (q0 := 6) rfl rfl, fun U hU hW => ⟨rfl, by rw [hU], by rw [hU]; exact hP, va_K.moved hW.alike hK⟩⟩ rfl rfl hl.1 rfl (lv_room (Nat.le_of_ble_eq_true rfl)) dX3_readOne_83 ⟨Nat.le_of_ble_eq_true rfl, Nat.le_of_ble_eq_true rfl⟩) hS (fun q _ h9 => aX_up hS q h9) (aX_up hS) (fun u t H1 locs ht _ hw hB _ hk1 hS => ?_)
              obtain ⟨fv_146, wd_147, ar_148⟩ := u
              obtain ⟨hF_fv_146, hA_ar_148, fr_149, fa_150, wf_151, p_145, -⟩ := hw
              have wf_151 : wd_147.2 = wd_6.2 := wf_151
              have hP : va_P (dC, dI) vwCl (wsX ob ad cA fv_146 wd_147 ar_148) H1 := by have h9 := hB.1; rw [ht] at h9; exact h9
              have fr_149 : fM [14] fv_135 fv_146 := fr_149
              have fa_150 : fA [] ar_7 ar_148 := fa_150
              have p_145 : (fv_146 14).toInt = (fv_135 14).toInt + 1 ∧ (fv_146 14).toInt ≤ (fv_135 13).toInt - 1 := p_145
              generalize H1 = H at hP hS ⊢
              refine lv_aload_n hx hb dX3_readOne_86 rfl (lv_at hl 1 rfl) ?_
              refine va_gets hx hb (hE.1 22 (by decide)).1 hS hown (htg (.fieldLink RX3 190 "WalkingTown$Token" "NOT" "LWalkingTown$Token;") kw_4_124) (fun _ h9 => h9) dX3_readOne_87 ?_
              refine lv_acmp_ne (rx := some (tA j_11)) (ry := some (tA 22)) (tgt := 113) hx hb dX3_readOne_90 (by decide) (fun c_152 => ?_) (fun c_152 => ?_)
              · skip
                have k_153 : ¬ j_11 = 22 := fun w => c_152 (by rw [w])
                exfalso; omega
              · skip
                have k_154 : j_11 = 22 := hE.2 j_11 22 lj_11 (by decide) (Option.some.inj c_152)
                refine lv_aload_n hx hb dX3_readOne_93 rfl (lv_at hl 2 rfl) ?_
                refine lv_iload_n hx hb dX3_readOne_94 rfl (lv_at hl 3 rfl) ?_
                refine lv_iconst (v := 1) hx hb dX3_readOne_95 (by decide) ?_
                refine lv_iadd hx hb dX3_readOne_96 ?_
                refine lv_topi (fun v_155 ev_155 => ?_)
                have t_156 : v_155.toInt = wi.toInt + 1 ∧ 3 ≤ v_155.toInt ∧ v_155.toInt ≤ 3 := iv_addc ev_155 h_wi (by decide) (by decide) (by decide)
                have z_158 : (fv_146 13).toInt = (fv 13).toInt := congrArg Int32.toInt ((fr_149 13 rfl).trans ((congrFun efv_135 13).trans ((fr_8 13 rfl))))
                have z_159 : 0 ≤ (fv_146 13).toInt ∧ (fv_146 13).toInt ≤ 301 := hF_fv_146 13
                have z_160 : 0 ≤ (fv_146 14).toInt ∧ (fv_146 14).toInt ≤ 300 := hF_fv_146 14
                have z_161 : 0 ≤ (fv_146 14).toInt ∧ (fv_146 14).toInt ≤ 300 := hF_fv_146 14
                have z_162 : (fv_146 17).toInt = v_132.toInt := congrArg Int32.toInt ((fr_149 17 rfl).trans ((congrFun efv_135 17)))
                have z_163 : 0 ≤ (fv_146 17).toInt ∧ (fv_146 17).toInt ≤ 50 := hF_fv_146 17
                refine va_calli (va_runV (As := [.int v_155]) (rest := []) ⟨hx, hb, hml, hown, hts⟩ (x_readOneC_3 l dC dI H.size ob ad cA hd fv_146 wd_147 ar_148 hF_fv_146 hA_ar_148 tA (tO_w hto (wf_151.trans wf_10)) T9 S9 N9 c9 v_155 t_156.2 (rd_cx_eq hcx (congrArg (fun z => z.1) (wf_151.trans wf_10)) ((fA_call (fA_call (fA_rf [] _) fa_9 (by decide)) fa_150 (by decide)) 36 rfl) ((fA_call (fA_call (fA_rf [] _) fa_9 (by decide)) fa_150 (by decide)) 37 rfl)) (by omega) (by omega) h300 hT32 hfin (eC_fr hp_eC (fM_call (fM_put (fM_call (fM_rf [14, 17] _) fr_8 (by decide)) efv_135 (by decide)) fr_149 (by decide)) (fA_call (fA_call (fA_rf [] _) fa_9 (by decide)) fa_150 (by decide)) rfl rfl rfl)) (cwV 1 hts (gV kw_4_144 kw_4_146 kw_p_13 kw_1_11 kw_4_147) rfl rfl rfl (by decide +kernel) ⟨Nat.le_of_ble_eq_true rfl, Nat.le_of_ble_eq_true rfl⟩) ⟨fun a U g mk q => ⟨q.1, ⟨q.2.1.1, q.2.1.2.1, va_K.moved (u := U) (U := U.calling g mk a) (Vm.Alike.refl U.vm) q.2.1.2.2⟩, tk_mv (U := U.calling g mk a) rfl (Vm.Alike.refl U.vm) q.2.2⟩, va_recv hK hP (ci := 4) (q0 := 6) rfl rfl, fun U hU hW => ⟨rfl, ⟨by rw [hU], by rw [hU]; exact hP, va_K.moved hW.alike hK⟩, tk_pass hE hS hU hW.alike⟩⟩ rfl rfl hl.1 rfl (lv_room (Nat.le_of_ble_eq_true rfl)) dX3_readOne_97 ⟨Nat.le_of_ble_eq_true rfl, Nat.le_of_ble_eq_true rfl⟩) hS (fun q _ h9 => aX_up hS q h9) (aX_up hS) (fun r_164 u t H1 locs ht _ hw hB _ hk1 hS => ?_)
                obtain ⟨fv_171, wd_172, ar_173⟩ := u
                obtain ⟨hF_fv_171, hA_ar_173, fr_174, fa_175, wf_176, p_165, p_166, p_167, p_168, p_169, p_170, -⟩ := hw
                have wf_176 : wd_172.2 = wd_147.2 := wf_176
                have hP : va_P (dC, dI) vwCl (wsX ob ad cA fv_171 wd_172 ar_173) H1 := by have h9 := hB.1; rw [ht] at h9; exact h9
                have fr_174 : fM [14, 16, 17, 19, 20] fv_146 fv_171 := fr_174
                have fa_175 : fA [41, 42, 43] ar_148 ar_173 := fa_175
                have p_170 : eC fv_171 ar_173 := p_170
                have p_166 : ∀ r9 : List Bool, r9.length = 3 → rd_x T9 S9 0 ((fv_146 14).toInt.toNat) ((fv_146 17).toInt.toNat) r9 r_164 (fv_171 19) (fv_171 20) (fv_171 14) (fv_171 17) := p_166
                have p_167 : r_164 = 1 → fv_171 19 = fv_146 19 := p_167
                have p_168 : (fv_171 14).toInt ≤ (c9 : Int) := p_168
                have p_169 : r_164 = 1 → (fv_146 17).toInt + 1 ≤ (fv_171 17).toInt := p_169
                generalize H1 = H at hP hS ⊢
                refine lv_istore (lv' := [(4, .int r_164), (3, .int 0), (2, .ref (tA j_11)), (0, .ref (ob 6)), (1, .int wi)]) hx hb dX3_readOne_100 hl (by decide) rfl (fun ls hl => ?_)
                refine lv_aload_n hx hb dX3_readOne_102 rfl (lv_at hl 3 rfl) ?_
                refine lv_iconst (v := 3) hx hb dX3_readOne_103 (by decide) ?_
                refine lv_iconst (v := 0) hx hb dX3_readOne_104 (by decide) ?_
                refine lv_iconst (v := 0) hx hb dX3_readOne_105 (by decide) ?_
                refine va_calli (va_runV (As := [.int 3, .int 0, .int 0]) (rest := []) ⟨hx, hb, hml, hown, hts⟩ (x_addCode l dC dI H.size ob ad cA hd fv_171 wd_172 ar_173 hF_fv_171 hA_ar_173 3 0 0 (iv_w (⟨by decide, by decide⟩ : (0 : Int) ≤ (0 : Int32).toInt ∧ (0 : Int32).toInt ≤ 0) (by decide) (by decide)) p_170) (cwV 3 hts (gV kw_4_150 kw_4_152 kw_p_14 kw_1_11 kw_4_153) rfl rfl rfl (by decide +kernel) ⟨Nat.le_of_ble_eq_true rfl, Nat.le_of_ble_eq_true rfl⟩) ⟨fun a U g mk q => ⟨q.1, q.2.1, q.2.2.1, va_K.moved (u := U) (U := U.calling g mk a) (Vm.Alike.refl U.vm) q.2.2.2⟩, va_recv hK hP (ci := 4) (q0 := 6) rfl rfl, fun U hU hW => ⟨rfl, by rw [hU], by rw [hU]; exact hP, va_K.moved hW.alike hK⟩⟩ rfl rfl hl.1 rfl (lv_room (Nat.le_of_ble_eq_true rfl)) dX3_readOne_106 ⟨Nat.le_of_ble_eq_true rfl, Nat.le_of_ble_eq_true rfl⟩) hS (fun q _ h9 => aX_up hS q h9) (aX_up hS) (fun r_177 u t H1 locs ht _ hw hB _ hk1 hS => ?_)
                obtain ⟨fv_181, wd_182, ar_183⟩ := u
                obtain ⟨hF_fv_181, hA_ar_183, fr_184, fa_185, wf_186, p_178, p_179, p_180, -⟩ := hw
                have wf_186 : wd_182.2 = wd_172.2 := wf_186
                have hP : va_P (dC, dI) vwCl (wsX ob ad cA fv_181 wd_182 ar_183) H1 := by have h9 := hB.1; rw [ht] at h9; exact h9
                have fr_184 : fM [16] fv_171 fv_181 := fr_184
                have fa_185 : fA [41, 42, 43] ar_173 ar_183 := fa_185
                have p_180 : eC fv_181 ar_183 := p_180
                generalize H1 = H at hP hS ⊢
                rcases p_179 with ⟨rfl, p_179⟩
                · skip
                  refine lv_pop hx hb dX3_readOne_109 rfl ?_
                  refine lv_iload hx hb dX3_readOne_110 (lv_at hl 0 rfl) ?_
                  exact W.zret (v := r_164) hx hb hr (iv_nar p_165) (fun t ht hW => ⟨⟨r_164, (fv_181, wd_182, ar_183), rfl, ⟨hF_fv_181, hA_ar_183, (fM_call (fM_call (fM_call (fM_put (fM_call (fM_rf [14, 16, 17, 19, 20] _) fr_8 (by decide)) efv_135 (by decide)) fr_149 (by decide)) fr_174 (by decide)) fr_184 (by decide)), (fA_call (fA_call (fA_call (fA_call (fA_rf [41, 42, 43] _) fa_9 (by decide)) fa_150 (by decide)) fa_175 (by decide)) fa_185 (by decide)), (wf_186.trans (wf_176.trans (wf_151.trans wf_10))), p_165, (show ∀ r9 : List Bool, r9.length = 2 → rd_x T9 S9 0 ((fv 14).toInt.toNat) ((fv 17).toInt.toNat) r9 r_164 (fv_181 19) (fv_181 20) (fv_181 14) (fv_181 17) from fun r9 hr => by have : (fv_5 14).toInt = (fv 14).toInt := congrArg Int32.toInt ((fM_call (fM_rf [] _) fr_8 (by decide)) 14 rfl); have : (fv_135 14).toInt = (fv_5 14).toInt := congrArg Int32.toInt ((fM_put (fM_rf [17] _) efv_135 (by decide)) 14 rfl); have : (fv_181 14).toInt = (fv_171 14).toInt := congrArg Int32.toInt ((fM_call (fM_rf [16] _) fr_184 (by decide)) 14 rfl); have : (fv_5 17).toInt = (fv 17).toInt := congrArg Int32.toInt ((fM_call (fM_rf [] _) fr_8 (by decide)) 17 rfl); have : (fv_135 17).toInt = v_132.toInt := congrArg Int32.toInt (show fv_135 17 = v_132 from congrFun efv_135 17); have : (fv_146 17).toInt = (fv_135 17).toInt := congrArg Int32.toInt ((fM_call (fM_rf [14] _) fr_149 (by decide)) 17 rfl); have : (fv_181 17).toInt = (fv_171 17).toInt := congrArg Int32.toInt ((fM_call (fM_rf [16] _) fr_184 (by decide)) 17 rfl); have h9 := p_166 (true :: r9) (by rw [List.length_cons, hr]); rw [show fv_181 19 = fv_171 19 from ((fM_call (fM_rf [16] _) fr_184 (by decide)) 19 rfl), show fv_181 20 = fv_171 20 from ((fM_call (fM_rf [16] _) fr_184 (by decide)) 20 rfl), show fv_181 14 = fv_171 14 from ((fM_call (fM_rf [16] _) fr_184 (by decide)) 14 rfl), show fv_181 17 = fv_171 17 from ((fM_call (fM_rf [16] _) fr_184 (by decide)) 17 rfl)]; exact rd_x_up (x := true) h9 (by rw [rd_m0_not (by omega) (by rw [← zj_11]; omega) (by omega), show (fv 14).toInt.toNat + 1 = (fv_146 14).toInt.toNat from (by omega), show (fv 17).toInt.toNat + 1 = (fv_146 17).toInt.toNat from (by omega)]) (by omega)), (show r_164 = 1 → fv_181 19 = fv 19 from fun w => (show fv_181 19 = fv_171 19 from ((fM_call (fM_rf [16] _) fr_184 (by decide)) 19 rfl)).trans ((p_167 w).trans ((fM_call (fM_put (fM_call (fM_rf [14, 17] _) fr_8 (by decide)) efv_135 (by decide)) fr_149 (by decide)) 19 rfl))), (show (fv_181 14).toInt ≤ (c9 : Int) from by have : (fv_5 14).toInt = (fv 14).toInt := congrArg Int32.toInt ((fM_call (fM_rf [] _) fr_8 (by decide)) 14 rfl); have : (fv_135 14).toInt = (fv_5 14).toInt := congrArg Int32.toInt ((fM_put (fM_rf [17] _) efv_135 (by decide)) 14 rfl); have : (fv_181 14).toInt = (fv_171 14).toInt := congrArg Int32.toInt ((fM_call (fM_rf [16] _) fr_184 (by decide)) 14 rfl); have hp9 := p_168; omega), (show r_164 = 1 → (fv 17).toInt + 1 ≤ (fv_181 17).toInt from fun w => by have : (fv_5 17).toInt = (fv 17).toInt := congrArg Int32.toInt ((fM_call (fM_rf [] _) fr_8 (by decide)) 17 rfl); have : (fv_135 17).toInt = v_132.toInt := congrArg Int32.toInt (show fv_135 17 = v_132 from congrFun efv_135 17); have : (fv_146 17).toInt = (fv_135 17).toInt := congrArg Int32.toInt ((fM_call (fM_rf [14] _) fr_149 (by decide)) 17 rfl); have : (fv_181 17).toInt = (fv_171 17).toInt := congrArg Int32.toInt ((fM_call (fM_rf [16] _) fr_184 (by decide)) 17 rfl); have hi9 := p_169 (w); omega), p_180, trivial⟩, ⟨by rw [ht]; exact hP, va_K.moved hW.alike hK⟩⟩, hS.F ht⟩) hS.2.2 dX3_readOne_112
            · skip
              exact absurd True.intro (by have h7 := (⟨by decide, by decide⟩ : (10 : Int) ≤ (10 : Int32).toInt ∧ (10 : Int32).toInt ≤ 10); have h8 := h_wi; have h9 := Int32.le_iff_toInt_le.mp (Int32.not_lt.mp c_131); exfalso; omega)
        · skip
          have k_187 : ¬ j_11 = 22 := fun w => c_111 (by rw [w])
          refine lv_aload_n hx hb dX3_readOne_38 rfl (lv_at hl 1 rfl) ?_
          refine va_gets hx hb (hE.1 27 (by decide)).1 hS hown (htg (.fieldLink RX3 209 "WalkingTown$Token" "OPEN" "LWalkingTown$Token;") kw_4_148) (fun _ h9 => h9) dX3_readOne_39 ?_
          refine lv_acmp_eq (rx := some (tA j_11)) (ry := some (tA 27)) (tgt := 51) hx hb dX3_readOne_42 (by decide) (fun c_188 => ?_) (fun c_188 => ?_)
          · skip
            have k_189 : j_11 = 27 := hE.2 j_11 27 lj_11 (by decide) (Option.some.inj c_188)
            refine lv_aload_n hx hb dX3_readOne_51 rfl (lv_at hl 2 rfl) ?_
            refine gX_X3_38 hx hb htg hown hK hP dX3_readOne_52 ?_
            refine my_ti (y := fv 17) ((fr_8 17 rfl)) ?_
            have i_190 : 0 ≤ (fv 17).toInt ∧ (fv 17).toInt ≤ 50 := hF_fv 17
            refine lv_bipush (v := 50) hx hb dX3_readOne_55 (by decide) ?_
            refine lv_icmp_ge (tgt := 66) hx hb dX3_readOne_57 (by decide) (fun c_191 => ?_) (fun c_191 => ?_)
            · skip
              have i_192 : 50 ≤ (fv 17).toInt ∧ (fv 17).toInt ≤ 50 := iv_le2 (⟨by decide, by decide⟩ : (50 : Int) ≤ (50 : Int32).toInt ∧ (50 : Int32).toInt ≤ 50) i_190 c_191
              refine lv_aload_n hx hb dX3_readOne_66 rfl (lv_at hl 2 rfl) ?_
              refine lv_iconst (v := 4) hx hb dX3_readOne_67 (by decide) ?_
              have z_193 : (fv_5 14).toInt = (fv 14).toInt := congrArg Int32.toInt ((fr_8 14 rfl))
              have z_194 : 0 ≤ (fv_5 14).toInt ∧ (fv_5 14).toInt ≤ 300 := hF_fv_5 14
              refine va_calli (va_runV (As := [.int 4]) (rest := []) ⟨hx, hb, hml, hown, hts⟩ (x_failC l dC dI H.size ob ad cA hd fv_5 wd_6 ar_7 hF_fv_5 hA_ar_7 4) (cwV 1 hts (gV kw_4_110 kw_4_112 kw_p_6 kw_1_11 kw_4_113) rfl rfl rfl (by decide +kernel) ⟨Nat.le_of_ble_eq_true rfl, Nat.le_of_ble_eq_true rfl⟩) ⟨fun a U g mk q => ⟨q.1, q.2.1, q.2.2.1, va_K.moved (u := U) (U := U.calling g mk a) (Vm.Alike.refl U.vm) q.2.2.2⟩, va_recv hK hP (ci := 4) (q0 := 6) rfl rfl, fun U hU hW => ⟨rfl, by rw [hU], by rw [hU]; exact hP, va_K.moved hW.alike hK⟩⟩ rfl rfl hl.1 rfl (lv_room (Nat.le_of_ble_eq_true rfl)) dX3_readOne_68 ⟨Nat.le_of_ble_eq_true rfl, Nat.le_of_ble_eq_true rfl⟩) hS (fun q _ h9 => aX_up hS q h9) (aX_up hS) (fun r_195 u t H1 locs ht _ hw hB _ hk1 hS => ?_)
              obtain ⟨fv_200, wd_201, ar_202⟩ := u
              obtain ⟨hF_fv_200, hA_ar_202, fr_203, fa_204, wf_205, p_196, p_197, p_198, p_199, -⟩ := hw
              have wf_205 : wd_201.2 = wd_6.2 := wf_205
              have hP : va_P (dC, dI) vwCl (wsX ob ad cA fv_200 wd_201 ar_202) H1 := by have h9 := hB.1; rw [ht] at h9; exact h9
              have fr_203 : fM [19, 20] fv_5 fv_200 := fr_203
              have fa_204 : fA [] ar_7 ar_202 := fa_204
              have p_198 : fv_200 19 = (4 : Int32) := p_198
              have p_199 : fv_200 20 = ar_7 36 ((fv_5 14).toInt.toNat) := p_199
              generalize H1 = H at hP hS ⊢
              rcases p_197 with ⟨rfl, p_197⟩
              · skip
                have z_206 : (0 : Int32).toInt = 0 := by decide
                exact W.zret (v := 0) hx hb hr (by decide) (fun t ht hW => ⟨⟨0, (fv_200, wd_201, ar_202), rfl, ⟨hF_fv_200, hA_ar_202, (fM_call (fM_call (fM_rf [14, 16, 17, 19, 20] _) fr_8 (by decide)) fr_203 (by decide)), (fA_call (fA_call (fA_rf [41, 42, 43] _) fa_9 (by decide)) fa_204 (by decide)), (wf_205.trans wf_10), (iv_w (⟨by decide, by decide⟩ : (0 : Int) ≤ (0 : Int32).toInt ∧ (0 : Int32).toInt ≤ 0) (by decide) (by decide)), (show ∀ r9 : List Bool, r9.length = 2 → rd_x T9 S9 0 ((fv 14).toInt.toNat) ((fv 17).toInt.toNat) r9 (0 : Int32) (fv_200 19) (fv_200 20) (fv_200 14) (fv_200 17) from fun r9 hr => by have : (fv_5 14).toInt = (fv 14).toInt := congrArg Int32.toInt ((fM_call (fM_rf [] _) fr_8 (by decide)) 14 rfl); have : (fv_200 14).toInt = (fv_5 14).toInt := congrArg Int32.toInt ((fM_call (fM_rf [19, 20] _) fr_203 (by decide)) 14 rfl); have : (fv_5 17).toInt = (fv 17).toInt := congrArg Int32.toInt ((fM_call (fM_rf [] _) fr_8 (by decide)) 17 rfl); have : (fv_200 17).toInt = (fv_5 17).toInt := congrArg Int32.toInt ((fM_call (fM_rf [19, 20] _) fr_203 (by decide)) 17 rfl); exact rd_xF (q := (fv_5 14).toInt.toNat) (show (fv_200 19).toInt = ((4 : Nat) : Int) from by rw [show fv_200 19 = fv_200 19 from rfl, p_198]; decide) (by decide) (by rw [rd_m0_many (by omega) (by rw [← zj_11]; omega) (by omega)]; rw [show (fv 14).toInt.toNat = (fv_5 14).toInt.toNat from (by omega)]) (show (fv_200 20).toInt = (S9 ((fv_5 14).toInt.toNat) : Nat) from by rw [show fv_200 20 = fv_200 20 from rfl, p_199, show ar_7 36 = ar 36 from ((fA_call (fA_rf [] _) fa_9 (by decide)) 36 rfl)]; exact (hcx ((fv_5 14).toInt.toNat) (by omega)).2.1)), (show (0 : Int32) = 1 → fv_200 19 = fv 19 from fun w => absurd w (by decide)), (show (fv_200 14).toInt ≤ (c9 : Int) from by have : (fv_5 14).toInt = (fv 14).toInt := congrArg Int32.toInt ((fM_call (fM_rf [] _) fr_8 (by decide)) 14 rfl); have : (fv_200 14).toInt = (fv_5 14).toInt := congrArg Int32.toInt ((fM_call (fM_rf [19, 20] _) fr_203 (by decide)) 14 rfl); omega), (show (0 : Int32) = 1 → (fv 17).toInt + 1 ≤ (fv_200 17).toInt from fun w => absurd w (by decide)), (eC_fr hp_eC (fM_call (fM_call (fM_rf [19, 20] _) fr_8 (by decide)) fr_203 (by decide)) (fA_call (fA_call (fA_rf [] _) fa_9 (by decide)) fa_204 (by decide)) rfl rfl rfl), trivial⟩, ⟨by rw [ht]; exact hP, va_K.moved hW.alike hK⟩⟩, hS.F ht⟩) hS.2.2 dX3_readOne_71
            · skip
              have i_207 : 0 ≤ (fv 17).toInt ∧ (fv 17).toInt ≤ 49 := iv_lt1 i_190 (⟨by decide, by decide⟩ : (50 : Int) ≤ (50 : Int32).toInt ∧ (50 : Int32).toInt ≤ 50) (Int32.not_le.mp c_191)
              refine lv_iload_n hx hb dX3_readOne_60 rfl (lv_at hl 3 rfl) ?_
              refine lv_bipush (v := 10) hx hb dX3_readOne_61 (by decide) ?_
              refine lv_icmp_lt (tgt := 72) hx hb dX3_readOne_63 (by decide) (fun c_208 => ?_) (fun c_208 => ?_)
              · skip
                refine lv_aload_n hx hb dX3_readOne_72 rfl (lv_at hl 2 rfl) ?_
                refine lv_dup hx hb dX3_readOne_73 rfl ?_
                refine gX_X3_38 hx hb htg hown hK hP dX3_readOne_74 ?_
                refine my_ti (y := fv 17) ((fr_8 17 rfl)) ?_
                refine lv_iconst (v := 1) hx hb dX3_readOne_77 (by decide) ?_
                refine lv_iadd hx hb dX3_readOne_78 ?_
                refine lv_topi (fun v_209 ev_209 => ?_)
                have t_210 : v_209.toInt = (fv 17).toInt + 1 ∧ 1 ≤ v_209.toInt ∧ v_209.toInt ≤ 50 := iv_addc ev_209 i_207 (by decide) (by decide) (by decide)
                refine pX_X3_38 hx hb htg hown hK hP hS hd dX3_readOne_79 (fun H locs fv_212 efv_212 hP hS => ?_)
                have hF_fv_212 : rX fv_212 := rX_put hF_fv_5 efv_212 (iv_w t_210.2 (by decide) (by decide))
                refine lv_aload_n hx hb dX3_readOne_82 rfl (lv_at hl 2 rfl) ?_
                have z_213 : (fv_212 13).toInt = (fv 13).toInt := congrArg Int32.toInt ((congrFun efv_212 13).trans ((fr_8 13 rfl)))
                have z_214 : 0 ≤ (fv_212 13).toInt ∧ (fv_212 13).toInt ≤ 301 := hF_fv_212 13
                have z_215 : (fv_212 14).toInt = (fv 14).toInt := congrArg Int32.toInt ((congrFun efv_212 14).trans ((fr_8 14 rfl)))
                have z_216 : 0 ≤ (fv_212 14).toInt ∧ (fv_212 14).toInt ≤ 300 := hF_fv_212 14
                have z_217 : (fv_212 13).toInt = (fv 13).toInt := congrArg Int32.toInt ((congrFun efv_212 13).trans ((fr_8 13 rfl)))
                have z_218 : 0 ≤ (fv_212 13).toInt ∧ (fv_212 13).toInt ≤ 301 := hF_fv_212 13
                have z_219 : (fv_212 14).toInt = (fv 14).toInt := congrArg Int32.toInt ((congrFun efv_212 14).trans ((fr_8 14 rfl)))
                have z_220 : 0 ≤ (fv_212 14).toInt ∧ (fv_212 14).toInt ≤ 300 := hF_fv_212 14
                refine va_callv (va_runV (As := []) (rest := []) ⟨hx, hb, hml, hown, hts⟩ (x_stepC l dC dI H.size ob ad cA hd fv_212 wd_6 ar_7 hF_fv_212 hA_ar_7 (by have h9 := rd_lt hfin (p := (fv 14).toInt.toNat) (by omega) (by rw [← zj_11]; omega); omega)) (cwV 0 hts (gV kw_4_116 kw_4_118 kw_p_7 kw_1_11 kw_4_119) rfl rfl rfl (by decide +kernel) ⟨Nat.le_of_ble_eq_true rfl, Nat.le_of_ble_eq_true rfl⟩) ⟨fun a U g mk q => ⟨q.1, q.2.1, q.2.2.1, va_K.moved (u := U) (U := U.calling g mk a) (Vm.Alike.refl U.vm) q.2.2.2⟩, va_recv hK hP (ci := 4) (q0 := 6) rfl rfl, fun U hU hW => ⟨rfl, by rw [hU], by rw [hU]; exact hP, va_K.moved hW.alike hK⟩⟩ rfl rfl hl.1 rfl (lv_room (Nat.le_of_ble_eq_true rfl)) dX3_readOne_83 ⟨Nat.le_of_ble_eq_true rfl, Nat.le_of_ble_eq_true rfl⟩) hS (fun q _ h9 => aX_up hS q h9) (aX_up hS) (fun u t H1 locs ht _ hw hB _ hk1 hS => ?_)
                obtain ⟨fv_223, wd_224, ar_225⟩ := u
                obtain ⟨hF_fv_223, hA_ar_225, fr_226, fa_227, wf_228, p_222, -⟩ := hw
                have wf_228 : wd_224.2 = wd_6.2 := wf_228
                have hP : va_P (dC, dI) vwCl (wsX ob ad cA fv_223 wd_224 ar_225) H1 := by have h9 := hB.1; rw [ht] at h9; exact h9
                have fr_226 : fM [14] fv_212 fv_223 := fr_226
                have fa_227 : fA [] ar_7 ar_225 := fa_227
                have p_222 : (fv_223 14).toInt = (fv_212 14).toInt + 1 ∧ (fv_223 14).toInt ≤ (fv_212 13).toInt - 1 := p_222
                generalize H1 = H at hP hS ⊢
                refine lv_aload_n hx hb dX3_readOne_86 rfl (lv_at hl 1 rfl) ?_
                refine va_gets hx hb (hE.1 22 (by decide)).1 hS hown (htg (.fieldLink RX3 190 "WalkingTown$Token" "NOT" "LWalkingTown$Token;") kw_4_124) (fun _ h9 => h9) dX3_readOne_87 ?_
                refine lv_acmp_ne (rx := some (tA j_11)) (ry := some (tA 22)) (tgt := 113) hx hb dX3_readOne_90 (by decide) (fun c_229 => ?_) (fun c_229 => ?_)
                · skip
                  have k_230 : ¬ j_11 = 22 := fun w => c_229 (by rw [w])
                  refine lv_aload_n hx hb dX3_readOne_113 rfl (lv_at hl 1 rfl) ?_
                  refine va_gets hx hb (hE.1 27 (by decide)).1 hS hown (htg (.fieldLink RX3 209 "WalkingTown$Token" "OPEN" "LWalkingTown$Token;") kw_4_148) (fun _ h9 => h9) dX3_readOne_114 ?_
                  refine lv_acmp_ne (rx := some (tA j_11)) (ry := some (tA 27)) (tgt := 146) hx hb dX3_readOne_117 (by decide) (fun c_231 => ?_) (fun c_231 => ?_)
                  · skip
                    have k_232 : ¬ j_11 = 27 := fun w => c_231 (by rw [w])
                    exfalso; omega
                  · skip
                    have k_233 : j_11 = 27 := hE.2 j_11 27 lj_11 (by decide) (Option.some.inj c_231)
                    refine lv_aload_n hx hb dX3_readOne_120 rfl (lv_at hl 2 rfl) ?_
                    refine lv_iload_n hx hb dX3_readOne_121 rfl (lv_at hl 3 rfl) ?_
                    refine lv_iconst (v := 1) hx hb dX3_readOne_122 (by decide) ?_
                    refine lv_iadd hx hb dX3_readOne_123 ?_
                    refine lv_topi (fun v_234 ev_234 => ?_)
                    have t_235 : v_234.toInt = wi.toInt + 1 ∧ 3 ≤ v_234.toInt ∧ v_234.toInt ≤ 3 := iv_addc ev_234 h_wi (by decide) (by decide) (by decide)
                    have z_237 : (fv_223 13).toInt = (fv 13).toInt := congrArg Int32.toInt ((fr_226 13 rfl).trans ((congrFun efv_212 13).trans ((fr_8 13 rfl))))
                    have z_238 : 0 ≤ (fv_223 13).toInt ∧ (fv_223 13).toInt ≤ 301 := hF_fv_223 13
                    have z_239 : 0 ≤ (fv_223 14).toInt ∧ (fv_223 14).toInt ≤ 300 := hF_fv_223 14
                    have z_240 : 0 ≤ (fv_223 14).toInt ∧ (fv_223 14).toInt ≤ 300 := hF_fv_223 14
                    have z_241 : (fv_223 17).toInt = v_209.toInt := congrArg Int32.toInt ((fr_226 17 rfl).trans ((congrFun efv_212 17)))
                    have z_242 : 0 ≤ (fv_223 17).toInt ∧ (fv_223 17).toInt ≤ 50 := hF_fv_223 17
                    refine va_calli (va_runV (As := [.int v_234]) (rest := []) ⟨hx, hb, hml, hown, hts⟩ (x_readCondC_3 l dC dI H.size ob ad cA hd fv_223 wd_224 ar_225 hF_fv_223 hA_ar_225 tA (tO_w hto (wf_228.trans wf_10)) T9 S9 N9 c9 v_234 t_235.2 (rd_cx_eq hcx (congrArg (fun z => z.1) (wf_228.trans wf_10)) ((fA_call (fA_call (fA_rf [] _) fa_9 (by decide)) fa_227 (by decide)) 36 rfl) ((fA_call (fA_call (fA_rf [] _) fa_9 (by decide)) fa_227 (by decide)) 37 rfl)) (by omega) (by omega) h300 hT32 hfin (eC_fr hp_eC (fM_call (fM_put (fM_call (fM_rf [14, 17] _) fr_8 (by decide)) efv_212 (by decide)) fr_226 (by decide)) (fA_call (fA_call (fA_rf [] _) fa_9 (by decide)) fa_227 (by decide)) rfl rfl rfl)) (cwV 1 hts (gV kw_4_136 kw_4_138 kw_p_11 kw_1_11 kw_4_139) rfl rfl rfl (by decide +kernel) ⟨Nat.le_of_ble_eq_true rfl, Nat.le_of_ble_eq_true rfl⟩) ⟨fun a U g mk q => ⟨q.1, ⟨q.2.1.1, q.2.1.2.1, va_K.moved (u := U) (U := U.calling g mk a) (Vm.Alike.refl U.vm) q.2.1.2.2⟩, tk_mv (U := U.calling g mk a) rfl (Vm.Alike.refl U.vm) q.2.2⟩, va_recv hK hP (ci := 4) (q0 := 6) rfl rfl, fun U hU hW => ⟨rfl, ⟨by rw [hU], by rw [hU]; exact hP, va_K.moved hW.alike hK⟩, tk_pass hE hS hU hW.alike⟩⟩ rfl rfl hl.1 rfl (lv_room (Nat.le_of_ble_eq_true rfl)) dX3_readOne_124 ⟨Nat.le_of_ble_eq_true rfl, Nat.le_of_ble_eq_true rfl⟩) hS (fun q _ h9 => aX_up hS q h9) (aX_up hS) (fun r_243 u t H1 locs ht _ hw hB _ hk1 hS => ?_)
                    obtain ⟨fv_251, wd_252, ar_253⟩ := u
                    obtain ⟨hF_fv_251, hA_ar_253, fr_254, fa_255, wf_256, p_244, p_245, p_246, p_247, p_248, p_249, p_250, -⟩ := hw
                    have wf_256 : wd_252.2 = wd_224.2 := wf_256
                    have hP : va_P (dC, dI) vwCl (wsX ob ad cA fv_251 wd_252 ar_253) H1 := by have h9 := hB.1; rw [ht] at h9; exact h9
                    have fr_254 : fM [14, 16, 17, 19, 20] fv_223 fv_251 := fr_254
                    have fa_255 : fA [41, 42, 43] ar_225 ar_253 := fa_255
                    have p_250 : eC fv_251 ar_253 := p_250
                    have p_245 : ∀ r9 : List Bool, r9.length = 3 → rd_dn r9 = r9 → rd_x T9 S9 0 ((fv_223 14).toInt.toNat) ((fv_223 17).toInt.toNat) r9 r_243 (fv_251 19) (fv_251 20) (fv_251 14) (fv_251 17) := p_245
                    have p_246 : r_243 = 1 → fv_251 19 = fv_223 19 := p_246
                    have p_247 : (fv_251 14).toInt ≤ (c9 : Int) := p_247
                    have p_248 : r_243 = 1 → (fv_223 17).toInt + 1 ≤ (fv_251 17).toInt := p_248
                    have p_249 : r_243 = 1 → ¬ (T9 ((fv_251 14).toInt.toNat) = 24 ∨ T9 ((fv_251 14).toInt.toNat) = 25) := p_249
                    generalize H1 = H at hP hS ⊢
                    refine lv_if_eq (tgt := 144) hx hb dX3_readOne_127 (by decide) (fun c_257 => ?_) (fun c_257 => ?_)
                    · skip
                      have i_258 : 0 ≤ r_243.toInt ∧ r_243.toInt ≤ 0 := iv_eq1 (⟨by decide, by decide⟩ : (0 : Int) ≤ (0 : Int32).toInt ∧ (0 : Int32).toInt ≤ 0) c_257
                      refine lv_iconst (v := 0) hx hb dX3_readOne_144 (by decide) ?_
                      have z_260 : (0 : Int32).toInt = 0 := by decide
                      exact W.zret (v := 0) hx hb hr (by decide) (fun t ht hW => ⟨⟨0, (fv_251, wd_252, ar_253), rfl, ⟨hF_fv_251, hA_ar_253, (fM_call (fM_call (fM_put (fM_call (fM_rf [14, 16, 17, 19, 20] _) fr_8 (by decide)) efv_212 (by decide)) fr_226 (by decide)) fr_254 (by decide)), (fA_call (fA_call (fA_call (fA_rf [41, 42, 43] _) fa_9 (by decide)) fa_227 (by decide)) fa_255 (by decide)), (wf_256.trans (wf_228.trans wf_10)), (iv_w (⟨by decide, by decide⟩ : (0 : Int) ≤ (0 : Int32).toInt ∧ (0 : Int32).toInt ≤ 0) (by decide) (by decide)), (show ∀ r9 : List Bool, r9.length = 2 → rd_x T9 S9 0 ((fv 14).toInt.toNat) ((fv 17).toInt.toNat) r9 (0 : Int32) (fv_251 19) (fv_251 20) (fv_251 14) (fv_251 17) from fun r9 hr => by have : (fv_5 14).toInt = (fv 14).toInt := congrArg Int32.toInt ((fM_call (fM_rf [] _) fr_8 (by decide)) 14 rfl); have : (fv_212 14).toInt = (fv_5 14).toInt := congrArg Int32.toInt ((fM_put (fM_rf [17] _) efv_212 (by decide)) 14 rfl); have : (fv_5 17).toInt = (fv 17).toInt := congrArg Int32.toInt ((fM_call (fM_rf [] _) fr_8 (by decide)) 17 rfl); have : (fv_212 17).toInt = v_209.toInt := congrArg Int32.toInt (show fv_212 17 = v_209 from congrFun efv_212 17); have : (fv_223 17).toInt = (fv_212 17).toInt := congrArg Int32.toInt ((fM_call (fM_rf [14] _) fr_226 (by decide)) 17 rfl); have h9 := p_245 (false :: r9) (by rw [List.length_cons, hr]) rfl; have he := (by rw [rd_m0_par (by omega) (by rw [← zj_11]; omega) (by omega), show (fv 14).toInt.toNat + 1 = (fv_223 14).toInt.toNat from (by omega), show (fv 17).toInt.toNat + 1 = (fv_223 17).toInt.toNat from (by omega)] : rd_m T9 0 ((fv 14).toInt.toNat) ((fv 17).toInt.toNat) r9 = rd_m T9 0 ((fv_223 14).toInt.toNat) ((fv_223 17).toInt.toNat) (false :: r9)); rcases h9 with ⟨a, b, q, o2, c, d⟩ | ⟨a, b⟩; exact Or.inl ⟨rfl, b, q, o2, he.trans c, d⟩; exact absurd (congrArg Int32.toInt a) (by rw [show (1 : Int32).toInt = 1 from (by decide)]; omega)), (show (0 : Int32) = 1 → fv_251 19 = fv 19 from fun w => absurd w (by decide)), (show (fv_251 14).toInt ≤ (c9 : Int) from by have : (fv_5 14).toInt = (fv 14).toInt := congrArg Int32.toInt ((fM_call (fM_rf [] _) fr_8 (by decide)) 14 rfl); have : (fv_212 14).toInt = (fv_5 14).toInt := congrArg Int32.toInt ((fM_put (fM_rf [17] _) efv_212 (by decide)) 14 rfl); have hp9 := p_247; omega), (show (0 : Int32) = 1 → (fv 17).toInt + 1 ≤ (fv_251 17).toInt from fun w => absurd w (by decide)), p_250, trivial⟩, ⟨by rw [ht]; exact hP, va_K.moved hW.alike hK⟩⟩, hS.F ht⟩) hS.2.2 dX3_readOne_145
                    · skip
                      have i_261 : 1 ≤ r_243.toInt ∧ r_243.toInt ≤ 1 := iv_nel p_244 (by decide) c_257
                      have k_262 : ¬ r_243.toInt = 0 := fun q => c_257 (Int32.toInt_inj.mp q)
                      refine lv_aload_n hx hb dX3_readOne_130 rfl (lv_at hl 2 rfl) ?_
                      refine va_gets hx hb (hE.1 28 (by decide)).1 hS hown (htg (.fieldLink RX3 212 "WalkingTown$Token" "CLOSE" "LWalkingTown$Token;") kw_4_154) (fun _ h9 => h9) dX3_readOne_131 ?_
                      have z_263 : (fv_251 13).toInt = (fv 13).toInt := congrArg Int32.toInt ((fr_254 13 rfl).trans ((fr_226 13 rfl).trans ((congrFun efv_212 13).trans ((fr_8 13 rfl)))))
                      have z_264 : 0 ≤ (fv_251 13).toInt ∧ (fv_251 13).toInt ≤ 301 := hF_fv_251 13
                      have z_265 : 0 ≤ (fv_251 14).toInt ∧ (fv_251 14).toInt ≤ 300 := hF_fv_251 14
                      have z_266 : 0 ≤ (fv_251 14).toInt ∧ (fv_251 14).toInt ≤ 300 := hF_fv_251 14
                      refine va_calli (va_runV (As := [.ref (tA 28)]) (rest := []) ⟨hx, hb, hml, hown, hts⟩ (x_takeC l dC dI H.size ob ad cA hd fv_251 wd_252 ar_253 hF_fv_251 hA_ar_253 tA (tO_w hto (wf_256.trans (wf_228.trans wf_10))) (28) (by decide) T9 S9 N9 c9 (rd_cx_eq hcx (congrArg (fun z => z.1) (wf_256.trans (wf_228.trans wf_10))) ((fA_call (fA_call (fA_call (fA_rf [41, 42, 43] _) fa_9 (by decide)) fa_227 (by decide)) fa_255 (by decide)) 36 rfl) ((fA_call (fA_call (fA_call (fA_rf [41, 42, 43] _) fa_9 (by decide)) fa_227 (by decide)) fa_255 (by decide)) 37 rfl)) (by omega) (by omega) h300 hT32 hfin (by omega)) (cwV 1 hts (gV kw_4_130 kw_4_132 kw_p_10 kw_1_11 kw_4_133) rfl rfl rfl (by decide +kernel) ⟨Nat.le_of_ble_eq_true rfl, Nat.le_of_ble_eq_true rfl⟩) ⟨fun a U g mk q => ⟨q.1, ⟨q.2.1.1, q.2.1.2.1, va_K.moved (u := U) (U := U.calling g mk a) (Vm.Alike.refl U.vm) q.2.1.2.2⟩, tk_mv (U := U.calling g mk a) rfl (Vm.Alike.refl U.vm) q.2.2⟩, va_recv hK hP (ci := 4) (q0 := 6) rfl rfl, fun U hU hW => ⟨rfl, ⟨by rw [hU], by rw [hU]; exact hP, va_K.moved hW.alike hK⟩, tk_pass hE hS hU hW.alike⟩⟩ rfl rfl hl.1 rfl (lv_room (Nat.le_of_ble_eq_true rfl)) dX3_readOne_134 ⟨Nat.le_of_ble_eq_true rfl, Nat.le_of_ble_eq_true rfl⟩) hS (fun q _ h9 => aX_up hS q h9) (aX_up hS) (fun r_267 u t H1 locs ht _ hw hB _ hk1 hS => ?_)
                      obtain ⟨fv_270, wd_271, ar_272⟩ := u
                      obtain ⟨hF_fv_270, hA_ar_272, fr_273, fa_274, wf_275, p_268, p_269, -⟩ := hw
                      have wf_275 : wd_271.2 = wd_252.2 := wf_275
                      have hP : va_P (dC, dI) vwCl (wsX ob ad cA fv_270 wd_271 ar_272) H1 := by have h9 := hB.1; rw [ht] at h9; exact h9
                      have fr_273 : fM [14, 19, 20] fv_251 fv_270 := fr_273
                      have fa_274 : fA [] ar_253 ar_272 := fa_274
                      have p_269 : (r_267 = 0 ∧ ¬ T9 ((fv_251 14).toInt.toNat) = 28 ∧ fv_270 19 = 1 ∧ (fv_270 20).toInt = (S9 ((fv_251 14).toInt.toNat) : Nat) ∧ (fv_270 14).toInt = (fv_251 14).toInt) ∨ (r_267 = 1 ∧ T9 ((fv_251 14).toInt.toNat) = 28 ∧ ((fv_270 14).toInt = (fv_251 14).toInt + 1 ∧ (fv_270 14).toInt ≤ (c9 : Int)) ∧ fv_270 19 = fv_251 19) := p_269
                      generalize H1 = H at hP hS ⊢
                      refine lv_if_eq (tgt := 144) hx hb dX3_readOne_137 (by decide) (fun c_276 => ?_) (fun c_276 => ?_)
                      · skip
                        have i_277 : 0 ≤ r_267.toInt ∧ r_267.toInt ≤ 0 := iv_eq1 (⟨by decide, by decide⟩ : (0 : Int) ≤ (0 : Int32).toInt ∧ (0 : Int32).toInt ≤ 0) c_276
                        refine lv_iconst (v := 0) hx hb dX3_readOne_144 (by decide) ?_
                        have z_279 : (0 : Int32).toInt = 0 := by decide
                        exact W.zret (v := 0) hx hb hr (by decide) (fun t ht hW => ⟨⟨0, (fv_270, wd_271, ar_272), rfl, ⟨hF_fv_270, hA_ar_272, (fM_call (fM_call (fM_call (fM_put (fM_call (fM_rf [14, 16, 17, 19, 20] _) fr_8 (by decide)) efv_212 (by decide)) fr_226 (by decide)) fr_254 (by decide)) fr_273 (by decide)), (fA_call (fA_call (fA_call (fA_call (fA_rf [41, 42, 43] _) fa_9 (by decide)) fa_227 (by decide)) fa_255 (by decide)) fa_274 (by decide)), (wf_275.trans (wf_256.trans (wf_228.trans wf_10))), (iv_w (⟨by decide, by decide⟩ : (0 : Int) ≤ (0 : Int32).toInt ∧ (0 : Int32).toInt ≤ 0) (by decide) (by decide)), (show ∀ r9 : List Bool, r9.length = 2 → rd_x T9 S9 0 ((fv 14).toInt.toNat) ((fv 17).toInt.toNat) r9 (0 : Int32) (fv_270 19) (fv_270 20) (fv_270 14) (fv_270 17) from fun r9 hr => by have : (fv_5 14).toInt = (fv 14).toInt := congrArg Int32.toInt ((fM_call (fM_rf [] _) fr_8 (by decide)) 14 rfl); have : (fv_212 14).toInt = (fv_5 14).toInt := congrArg Int32.toInt ((fM_put (fM_rf [17] _) efv_212 (by decide)) 14 rfl); have : (fv_5 17).toInt = (fv 17).toInt := congrArg Int32.toInt ((fM_call (fM_rf [] _) fr_8 (by decide)) 17 rfl); have : (fv_212 17).toInt = v_209.toInt := congrArg Int32.toInt (show fv_212 17 = v_209 from congrFun efv_212 17); have : (fv_223 17).toInt = (fv_212 17).toInt := congrArg Int32.toInt ((fM_call (fM_rf [14] _) fr_226 (by decide)) 17 rfl); have : (fv_270 17).toInt = (fv_251 17).toInt := congrArg Int32.toInt ((fM_call (fM_rf [14, 19, 20] _) fr_273 (by decide)) 17 rfl); have h9 := p_245 (false :: r9) (by rw [List.length_cons, hr]) rfl; have he := (by rw [rd_m0_par (by omega) (by rw [← zj_11]; omega) (by omega), show (fv 14).toInt.toNat + 1 = (fv_223 14).toInt.toNat from (by omega), show (fv 17).toInt.toNat + 1 = (fv_223 17).toInt.toNat from (by omega)] : rd_m T9 0 ((fv 14).toInt.toNat) ((fv 17).toInt.toNat) r9 = rd_m T9 0 ((fv_223 14).toInt.toNat) ((fv_223 17).toInt.toNat) (false :: r9)); rcases h9 with ⟨a, b, q, o2, c, d⟩ | ⟨a, b⟩; exact absurd (congrArg Int32.toInt a) (by rw [show (0 : Int32).toInt = 0 from (by decide)]; omega); have hn := p_249 a; rcases p_269 with ⟨a1, b1, c1, d1, e1⟩ | ⟨a1, b1, c1, d1⟩; exact rd_xF (q := (fv_251 14).toInt.toNat) (k := 1) (show (fv_270 19).toInt = ((1 : Nat) : Int) from by rw [show fv_270 19 = fv_270 19 from rfl, c1]; decide) (by decide) (by rw [he, b, rd_m1_bad (by omega) (by omega) (by omega)]) (show (fv_270 20).toInt = _ from by rw [show fv_270 20 = fv_270 20 from rfl, d1]); exact absurd (congrArg Int32.toInt a1) (by rw [show (1 : Int32).toInt = 1 from (by decide)]; omega)), (show (0 : Int32) = 1 → fv_270 19 = fv 19 from fun w => absurd w (by decide)), (show (fv_270 14).toInt ≤ (c9 : Int) from by have : (fv_5 14).toInt = (fv 14).toInt := congrArg Int32.toInt ((fM_call (fM_rf [] _) fr_8 (by decide)) 14 rfl); have : (fv_212 14).toInt = (fv_5 14).toInt := congrArg Int32.toInt ((fM_put (fM_rf [17] _) efv_212 (by decide)) 14 rfl); have hp9 := p_247; have hq9 := p_269; omega), (show (0 : Int32) = 1 → (fv 17).toInt + 1 ≤ (fv_270 17).toInt from fun w => absurd w (by decide)), (eC_fr p_250 (fM_call (fM_rf [14, 19, 20] _) fr_273 (by decide)) (fA_call (fA_rf [] _) fa_274 (by decide)) rfl rfl rfl), trivial⟩, ⟨by rw [ht]; exact hP, va_K.moved hW.alike hK⟩⟩, hS.F ht⟩) hS.2.2 dX3_readOne_145
                      · skip
                        have i_280 : 1 ≤ r_267.toInt ∧ r_267.toInt ≤ 1 := iv_nel p_268 (by decide) c_276
                        have k_281 : ¬ r_267.toInt = 0 := fun q => c_276 (Int32.toInt_inj.mp q)
                        refine lv_iconst (v := 1) hx hb dX3_readOne_140 (by decide) ?_
                        refine lv_goto (tgt := 145) hx hb dX3_readOne_141 (by decide) ?_
                        have z_282 : (1 : Int32).toInt = 1 := by decide
                        exact W.zret (v := 1) hx hb hr (by decide) (fun t ht hW => ⟨⟨1, (fv_270, wd_271, ar_272), rfl, ⟨hF_fv_270, hA_ar_272, (fM_call (fM_call (fM_call (fM_put (fM_call (fM_rf [14, 16, 17, 19, 20] _) fr_8 (by decide)) efv_212 (by decide)) fr_226 (by decide)) fr_254 (by decide)) fr_273 (by decide)), (fA_call (fA_call (fA_call (fA_call (fA_rf [41, 42, 43] _) fa_9 (by decide)) fa_227 (by decide)) fa_255 (by decide)) fa_274 (by decide)), (wf_275.trans (wf_256.trans (wf_228.trans wf_10))), (iv_w (⟨by decide, by decide⟩ : (1 : Int) ≤ (1 : Int32).toInt ∧ (1 : Int32).toInt ≤ 1) (by decide) (by decide)), (show ∀ r9 : List Bool, r9.length = 2 → rd_x T9 S9 0 ((fv 14).toInt.toNat) ((fv 17).toInt.toNat) r9 (1 : Int32) (fv_270 19) (fv_270 20) (fv_270 14) (fv_270 17) from fun r9 hr => by have : (fv_5 14).toInt = (fv 14).toInt := congrArg Int32.toInt ((fM_call (fM_rf [] _) fr_8 (by decide)) 14 rfl); have : (fv_212 14).toInt = (fv_5 14).toInt := congrArg Int32.toInt ((fM_put (fM_rf [17] _) efv_212 (by decide)) 14 rfl); have : (fv_5 17).toInt = (fv 17).toInt := congrArg Int32.toInt ((fM_call (fM_rf [] _) fr_8 (by decide)) 17 rfl); have : (fv_212 17).toInt = v_209.toInt := congrArg Int32.toInt (show fv_212 17 = v_209 from congrFun efv_212 17); have : (fv_223 17).toInt = (fv_212 17).toInt := congrArg Int32.toInt ((fM_call (fM_rf [14] _) fr_226 (by decide)) 17 rfl); have : (fv_270 17).toInt = (fv_251 17).toInt := congrArg Int32.toInt ((fM_call (fM_rf [14, 19, 20] _) fr_273 (by decide)) 17 rfl); have h9 := p_245 (false :: r9) (by rw [List.length_cons, hr]) rfl; have he := (by rw [rd_m0_par (by omega) (by rw [← zj_11]; omega) (by omega), show (fv 14).toInt.toNat + 1 = (fv_223 14).toInt.toNat from (by omega), show (fv 17).toInt.toNat + 1 = (fv_223 17).toInt.toNat from (by omega)] : rd_m T9 0 ((fv 14).toInt.toNat) ((fv 17).toInt.toNat) r9 = rd_m T9 0 ((fv_223 14).toInt.toNat) ((fv_223 17).toInt.toNat) (false :: r9)); rcases h9 with ⟨a, b, q, o2, c, d⟩ | ⟨a, b⟩; exact absurd (congrArg Int32.toInt a) (by rw [show (0 : Int32).toInt = 0 from (by decide)]; omega); have hn := p_249 a; rcases p_269 with ⟨a1, b1, c1, d1, e1⟩ | ⟨a1, b1, c1, d1⟩; exact absurd (congrArg Int32.toInt a1) (by rw [show (0 : Int32).toInt = 0 from (by decide)]; omega); exact rd_xO (by rw [he, b, rd_m1_close (by omega) (by exact b1), show (fv_251 14).toInt.toNat + 1 = (fv_270 14).toInt.toNat from (by omega), show (fv_251 17).toInt.toNat = (fv_270 17).toInt.toNat from (by omega)])), (show (1 : Int32) = 1 → fv_270 19 = fv 19 from fun _ => by rcases p_269 with ⟨a1, b1, c1, d1, e1⟩ | ⟨a1, b1, c1, d1⟩; exact absurd (congrArg Int32.toInt a1) (by rw [show (0 : Int32).toInt = 0 from (by decide)]; omega); exact (show fv_270 19 = fv_270 19 from rfl).trans (d1.trans ((show fv_251 19 = fv_251 19 from rfl).trans ((p_246 (Int32.toInt_inj.mp (by rw [show (1 : Int32).toInt = 1 from (by decide)]; omega))).trans ((fM_call (fM_put (fM_call (fM_rf [14, 17] _) fr_8 (by decide)) efv_212 (by decide)) fr_226 (by decide)) 19 rfl))))), (show (fv_270 14).toInt ≤ (c9 : Int) from by have : (fv_5 14).toInt = (fv 14).toInt := congrArg Int32.toInt ((fM_call (fM_rf [] _) fr_8 (by decide)) 14 rfl); have : (fv_212 14).toInt = (fv_5 14).toInt := congrArg Int32.toInt ((fM_put (fM_rf [17] _) efv_212 (by decide)) 14 rfl); have hp9 := p_247; have hq9 := p_269; omega), (show (1 : Int32) = 1 → (fv 17).toInt + 1 ≤ (fv_270 17).toInt from fun w => by have : (fv_5 17).toInt = (fv 17).toInt := congrArg Int32.toInt ((fM_call (fM_rf [] _) fr_8 (by decide)) 17 rfl); have : (fv_212 17).toInt = v_209.toInt := congrArg Int32.toInt (show fv_212 17 = v_209 from congrFun efv_212 17); have : (fv_223 17).toInt = (fv_212 17).toInt := congrArg Int32.toInt ((fM_call (fM_rf [14] _) fr_226 (by decide)) 17 rfl); have : (fv_270 17).toInt = (fv_251 17).toInt := congrArg Int32.toInt ((fM_call (fM_rf [14, 19, 20] _) fr_273 (by decide)) 17 rfl); have hi9 := p_248 (Int32.toInt_inj.mp (by rw [show (1 : Int32).toInt = 1 from (by decide)]; omega)); omega), (eC_fr p_250 (fM_call (fM_rf [14, 19, 20] _) fr_273 (by decide)) (fA_call (fA_rf [] _) fa_274 (by decide)) rfl rfl rfl), trivial⟩, ⟨by rw [ht]; exact hP, va_K.moved hW.alike hK⟩⟩, hS.F ht⟩) hS.2.2 dX3_readOne_145
                · skip
                  have k_283 : j_11 = 22 := hE.2 j_11 22 lj_11 (by decide) (Option.some.inj c_229)
                  exfalso; omega
              · skip
                exact absurd True.intro (by have h7 := (⟨by decide, by decide⟩ : (10 : Int) ≤ (10 : Int32).toInt ∧ (10 : Int32).toInt ≤ 10); have h8 := h_wi; have h9 := Int32.le_iff_toInt_le.mp (Int32.not_lt.mp c_208); exfalso; omega)
          · skip
            have k_284 : ¬ j_11 = 27 := fun w => c_188 (by rw [w])
            refine lv_aload_n hx hb dX3_readOne_45 rfl (lv_at hl 2 rfl) ?_
            refine lv_iconst (v := 1) hx hb dX3_readOne_46 (by decide) ?_
            have z_285 : (fv_5 14).toInt = (fv 14).toInt := congrArg Int32.toInt ((fr_8 14 rfl))
            have z_286 : 0 ≤ (fv_5 14).toInt ∧ (fv_5 14).toInt ≤ 300 := hF_fv_5 14
            refine va_calli (va_runV (As := [.int 1]) (rest := []) ⟨hx, hb, hml, hown, hts⟩ (x_failC l dC dI H.size ob ad cA hd fv_5 wd_6 ar_7 hF_fv_5 hA_ar_7 1) (cwV 1 hts (gV kw_4_110 kw_4_112 kw_p_6 kw_1_11 kw_4_113) rfl rfl rfl (by decide +kernel) ⟨Nat.le_of_ble_eq_true rfl, Nat.le_of_ble_eq_true rfl⟩) ⟨fun a U g mk q => ⟨q.1, q.2.1, q.2.2.1, va_K.moved (u := U) (U := U.calling g mk a) (Vm.Alike.refl U.vm) q.2.2.2⟩, va_recv hK hP (ci := 4) (q0 := 6) rfl rfl, fun U hU hW => ⟨rfl, by rw [hU], by rw [hU]; exact hP, va_K.moved hW.alike hK⟩⟩ rfl rfl hl.1 rfl (lv_room (Nat.le_of_ble_eq_true rfl)) dX3_readOne_47 ⟨Nat.le_of_ble_eq_true rfl, Nat.le_of_ble_eq_true rfl⟩) hS (fun q _ h9 => aX_up hS q h9) (aX_up hS) (fun r_287 u t H1 locs ht _ hw hB _ hk1 hS => ?_)
            obtain ⟨fv_292, wd_293, ar_294⟩ := u
            obtain ⟨hF_fv_292, hA_ar_294, fr_295, fa_296, wf_297, p_288, p_289, p_290, p_291, -⟩ := hw
            have wf_297 : wd_293.2 = wd_6.2 := wf_297
            have hP : va_P (dC, dI) vwCl (wsX ob ad cA fv_292 wd_293 ar_294) H1 := by have h9 := hB.1; rw [ht] at h9; exact h9
            have fr_295 : fM [19, 20] fv_5 fv_292 := fr_295
            have fa_296 : fA [] ar_7 ar_294 := fa_296
            have p_290 : fv_292 19 = (1 : Int32) := p_290
            have p_291 : fv_292 20 = ar_7 36 ((fv_5 14).toInt.toNat) := p_291
            generalize H1 = H at hP hS ⊢
            rcases p_289 with ⟨rfl, p_289⟩
            · skip
              have z_298 : (0 : Int32).toInt = 0 := by decide
              exact W.zret (v := 0) hx hb hr (by decide) (fun t ht hW => ⟨⟨0, (fv_292, wd_293, ar_294), rfl, ⟨hF_fv_292, hA_ar_294, (fM_call (fM_call (fM_rf [14, 16, 17, 19, 20] _) fr_8 (by decide)) fr_295 (by decide)), (fA_call (fA_call (fA_rf [41, 42, 43] _) fa_9 (by decide)) fa_296 (by decide)), (wf_297.trans wf_10), (iv_w (⟨by decide, by decide⟩ : (0 : Int) ≤ (0 : Int32).toInt ∧ (0 : Int32).toInt ≤ 0) (by decide) (by decide)), (show ∀ r9 : List Bool, r9.length = 2 → rd_x T9 S9 0 ((fv 14).toInt.toNat) ((fv 17).toInt.toNat) r9 (0 : Int32) (fv_292 19) (fv_292 20) (fv_292 14) (fv_292 17) from fun r9 hr => by have : (fv_5 14).toInt = (fv 14).toInt := congrArg Int32.toInt ((fM_call (fM_rf [] _) fr_8 (by decide)) 14 rfl); have : (fv_292 14).toInt = (fv_5 14).toInt := congrArg Int32.toInt ((fM_call (fM_rf [19, 20] _) fr_295 (by decide)) 14 rfl); have : (fv_5 17).toInt = (fv 17).toInt := congrArg Int32.toInt ((fM_call (fM_rf [] _) fr_8 (by decide)) 17 rfl); have : (fv_292 17).toInt = (fv_5 17).toInt := congrArg Int32.toInt ((fM_call (fM_rf [19, 20] _) fr_295 (by decide)) 17 rfl); exact rd_xF (q := (fv_5 14).toInt.toNat) (show (fv_292 19).toInt = ((1 : Nat) : Int) from by rw [show fv_292 19 = fv_292 19 from rfl, p_290]; decide) (by decide) (by rw [rd_m0_bad (by omega) (by rw [← zj_11]; omega)]; rw [show (fv 14).toInt.toNat = (fv_5 14).toInt.toNat from (by omega)]) (show (fv_292 20).toInt = (S9 ((fv_5 14).toInt.toNat) : Nat) from by rw [show fv_292 20 = fv_292 20 from rfl, p_291, show ar_7 36 = ar 36 from ((fA_call (fA_rf [] _) fa_9 (by decide)) 36 rfl)]; exact (hcx ((fv_5 14).toInt.toNat) (by omega)).2.1)), (show (0 : Int32) = 1 → fv_292 19 = fv 19 from fun w => absurd w (by decide)), (show (fv_292 14).toInt ≤ (c9 : Int) from by have : (fv_5 14).toInt = (fv 14).toInt := congrArg Int32.toInt ((fM_call (fM_rf [] _) fr_8 (by decide)) 14 rfl); have : (fv_292 14).toInt = (fv_5 14).toInt := congrArg Int32.toInt ((fM_call (fM_rf [19, 20] _) fr_295 (by decide)) 14 rfl); omega), (show (0 : Int32) = 1 → (fv 17).toInt + 1 ≤ (fv_292 17).toInt from fun w => absurd w (by decide)), (eC_fr hp_eC (fM_call (fM_call (fM_rf [19, 20] _) fr_8 (by decide)) fr_295 (by decide)) (fA_call (fA_call (fA_rf [] _) fa_9 (by decide)) fa_296 (by decide)) rfl rfl rfl), trivial⟩, ⟨by rw [ht]; exact hP, va_K.moved hW.alike hK⟩⟩, hS.F ht⟩) hS.2.2 dX3_readOne_50
    · skip
      have i_299 : 3 ≤ v_105.toInt ∧ v_105.toInt ≤ 3 := iv_eq1 (⟨by decide, by decide⟩ : (3 : Int) ≤ (3 : Int32).toInt ∧ (3 : Int32).toInt ≤ 3) c_108
      refine lv_iconst (v := 1) hx hb dX3_readOne_21 (by decide) ?_
      refine lv_goto (tgt := 26) hx hb dX3_readOne_22 (by decide) ?_
      refine lv_istore_n (lv' := [(3, .int 1), (2, .ref (tA j_11)), (0, .ref (ob 6)), (1, .int wi)]) hx hb dX3_readOne_26 rfl hl (by decide) rfl (fun ls hl => ?_)
      refine lv_iload_n hx hb dX3_readOne_27 rfl (lv_at hl 0 rfl) ?_
      refine lv_if_ne (tgt := 51) hx hb dX3_readOne_28 (by decide) (fun c_301 => ?_) (fun c_301 => ?_)
      · skip
        refine lv_aload_n hx hb dX3_readOne_51 rfl (lv_at hl 2 rfl) ?_
        refine gX_X3_38 hx hb htg hown hK hP dX3_readOne_52 ?_
        refine my_ti (y := fv 17) ((fr_8 17 rfl)) ?_
        have i_302 : 0 ≤ (fv 17).toInt ∧ (fv 17).toInt ≤ 50 := hF_fv 17
        refine lv_bipush (v := 50) hx hb dX3_readOne_55 (by decide) ?_
        refine lv_icmp_ge (tgt := 66) hx hb dX3_readOne_57 (by decide) (fun c_303 => ?_) (fun c_303 => ?_)
        · skip
          have i_304 : 50 ≤ (fv 17).toInt ∧ (fv 17).toInt ≤ 50 := iv_le2 (⟨by decide, by decide⟩ : (50 : Int) ≤ (50 : Int32).toInt ∧ (50 : Int32).toInt ≤ 50) i_302 c_303
          refine lv_aload_n hx hb dX3_readOne_66 rfl (lv_at hl 2 rfl) ?_
          refine lv_iconst (v := 4) hx hb dX3_readOne_67 (by decide) ?_
          have z_305 : (fv_5 14).toInt = (fv 14).toInt := congrArg Int32.toInt ((fr_8 14 rfl))
          have z_306 : 0 ≤ (fv_5 14).toInt ∧ (fv_5 14).toInt ≤ 300 := hF_fv_5 14
          refine va_calli (va_runV (As := [.int 4]) (rest := []) ⟨hx, hb, hml, hown, hts⟩ (x_failC l dC dI H.size ob ad cA hd fv_5 wd_6 ar_7 hF_fv_5 hA_ar_7 4) (cwV 1 hts (gV kw_4_110 kw_4_112 kw_p_6 kw_1_11 kw_4_113) rfl rfl rfl (by decide +kernel) ⟨Nat.le_of_ble_eq_true rfl, Nat.le_of_ble_eq_true rfl⟩) ⟨fun a U g mk q => ⟨q.1, q.2.1, q.2.2.1, va_K.moved (u := U) (U := U.calling g mk a) (Vm.Alike.refl U.vm) q.2.2.2⟩, va_recv hK hP (ci := 4) (q0 := 6) rfl rfl, fun U hU hW => ⟨rfl, by rw [hU], by rw [hU]; exact hP, va_K.moved hW.alike hK⟩⟩ rfl rfl hl.1 rfl (lv_room (Nat.le_of_ble_eq_true rfl)) dX3_readOne_68 ⟨Nat.le_of_ble_eq_true rfl, Nat.le_of_ble_eq_true rfl⟩) hS (fun q _ h9 => aX_up hS q h9) (aX_up hS) (fun r_307 u t H1 locs ht _ hw hB _ hk1 hS => ?_)
          obtain ⟨fv_312, wd_313, ar_314⟩ := u
          obtain ⟨hF_fv_312, hA_ar_314, fr_315, fa_316, wf_317, p_308, p_309, p_310, p_311, -⟩ := hw
          have wf_317 : wd_313.2 = wd_6.2 := wf_317
          have hP : va_P (dC, dI) vwCl (wsX ob ad cA fv_312 wd_313 ar_314) H1 := by have h9 := hB.1; rw [ht] at h9; exact h9
          have fr_315 : fM [19, 20] fv_5 fv_312 := fr_315
          have fa_316 : fA [] ar_7 ar_314 := fa_316
          have p_310 : fv_312 19 = (4 : Int32) := p_310
          have p_311 : fv_312 20 = ar_7 36 ((fv_5 14).toInt.toNat) := p_311
          generalize H1 = H at hP hS ⊢
          rcases p_309 with ⟨rfl, p_309⟩
          · skip
            have z_318 : (0 : Int32).toInt = 0 := by decide
            exact W.zret (v := 0) hx hb hr (by decide) (fun t ht hW => ⟨⟨0, (fv_312, wd_313, ar_314), rfl, ⟨hF_fv_312, hA_ar_314, (fM_call (fM_call (fM_rf [14, 16, 17, 19, 20] _) fr_8 (by decide)) fr_315 (by decide)), (fA_call (fA_call (fA_rf [41, 42, 43] _) fa_9 (by decide)) fa_316 (by decide)), (wf_317.trans wf_10), (iv_w (⟨by decide, by decide⟩ : (0 : Int) ≤ (0 : Int32).toInt ∧ (0 : Int32).toInt ≤ 0) (by decide) (by decide)), (show ∀ r9 : List Bool, r9.length = 2 → rd_x T9 S9 0 ((fv 14).toInt.toNat) ((fv 17).toInt.toNat) r9 (0 : Int32) (fv_312 19) (fv_312 20) (fv_312 14) (fv_312 17) from fun r9 hr => by have : (fv_5 14).toInt = (fv 14).toInt := congrArg Int32.toInt ((fM_call (fM_rf [] _) fr_8 (by decide)) 14 rfl); have : (fv_312 14).toInt = (fv_5 14).toInt := congrArg Int32.toInt ((fM_call (fM_rf [19, 20] _) fr_315 (by decide)) 14 rfl); have : (fv_5 17).toInt = (fv 17).toInt := congrArg Int32.toInt ((fM_call (fM_rf [] _) fr_8 (by decide)) 17 rfl); have : (fv_312 17).toInt = (fv_5 17).toInt := congrArg Int32.toInt ((fM_call (fM_rf [19, 20] _) fr_315 (by decide)) 17 rfl); exact rd_xF (q := (fv_5 14).toInt.toNat) (show (fv_312 19).toInt = ((4 : Nat) : Int) from by rw [show fv_312 19 = fv_312 19 from rfl, p_310]; decide) (by decide) (by rw [rd_m0_many (by omega) (by rw [← zj_11]; omega) (by omega)]; rw [show (fv 14).toInt.toNat = (fv_5 14).toInt.toNat from (by omega)]) (show (fv_312 20).toInt = (S9 ((fv_5 14).toInt.toNat) : Nat) from by rw [show fv_312 20 = fv_312 20 from rfl, p_311, show ar_7 36 = ar 36 from ((fA_call (fA_rf [] _) fa_9 (by decide)) 36 rfl)]; exact (hcx ((fv_5 14).toInt.toNat) (by omega)).2.1)), (show (0 : Int32) = 1 → fv_312 19 = fv 19 from fun w => absurd w (by decide)), (show (fv_312 14).toInt ≤ (c9 : Int) from by have : (fv_5 14).toInt = (fv 14).toInt := congrArg Int32.toInt ((fM_call (fM_rf [] _) fr_8 (by decide)) 14 rfl); have : (fv_312 14).toInt = (fv_5 14).toInt := congrArg Int32.toInt ((fM_call (fM_rf [19, 20] _) fr_315 (by decide)) 14 rfl); omega), (show (0 : Int32) = 1 → (fv 17).toInt + 1 ≤ (fv_312 17).toInt from fun w => absurd w (by decide)), (eC_fr hp_eC (fM_call (fM_call (fM_rf [19, 20] _) fr_8 (by decide)) fr_315 (by decide)) (fA_call (fA_call (fA_rf [] _) fa_9 (by decide)) fa_316 (by decide)) rfl rfl rfl), trivial⟩, ⟨by rw [ht]; exact hP, va_K.moved hW.alike hK⟩⟩, hS.F ht⟩) hS.2.2 dX3_readOne_71
        · skip
          have i_319 : 0 ≤ (fv 17).toInt ∧ (fv 17).toInt ≤ 49 := iv_lt1 i_302 (⟨by decide, by decide⟩ : (50 : Int) ≤ (50 : Int32).toInt ∧ (50 : Int32).toInt ≤ 50) (Int32.not_le.mp c_303)
          refine lv_iload_n hx hb dX3_readOne_60 rfl (lv_at hl 3 rfl) ?_
          refine lv_bipush (v := 10) hx hb dX3_readOne_61 (by decide) ?_
          refine lv_icmp_lt (tgt := 72) hx hb dX3_readOne_63 (by decide) (fun c_320 => ?_) (fun c_320 => ?_)
          · skip
            refine lv_aload_n hx hb dX3_readOne_72 rfl (lv_at hl 2 rfl) ?_
            refine lv_dup hx hb dX3_readOne_73 rfl ?_
            refine gX_X3_38 hx hb htg hown hK hP dX3_readOne_74 ?_
            refine my_ti (y := fv 17) ((fr_8 17 rfl)) ?_
            refine lv_iconst (v := 1) hx hb dX3_readOne_77 (by decide) ?_
            refine lv_iadd hx hb dX3_readOne_78 ?_
            refine lv_topi (fun v_321 ev_321 => ?_)
            have t_322 : v_321.toInt = (fv 17).toInt + 1 ∧ 1 ≤ v_321.toInt ∧ v_321.toInt ≤ 50 := iv_addc ev_321 i_319 (by decide) (by decide) (by decide)
            refine pX_X3_38 hx hb htg hown hK hP hS hd dX3_readOne_79 (fun H locs fv_324 efv_324 hP hS => ?_)
            have hF_fv_324 : rX fv_324 := rX_put hF_fv_5 efv_324 (iv_w t_322.2 (by decide) (by decide))
            refine lv_aload_n hx hb dX3_readOne_82 rfl (lv_at hl 2 rfl) ?_
            have z_325 : (fv_324 13).toInt = (fv 13).toInt := congrArg Int32.toInt ((congrFun efv_324 13).trans ((fr_8 13 rfl)))
            have z_326 : 0 ≤ (fv_324 13).toInt ∧ (fv_324 13).toInt ≤ 301 := hF_fv_324 13
            have z_327 : (fv_324 14).toInt = (fv 14).toInt := congrArg Int32.toInt ((congrFun efv_324 14).trans ((fr_8 14 rfl)))
            have z_328 : 0 ≤ (fv_324 14).toInt ∧ (fv_324 14).toInt ≤ 300 := hF_fv_324 14
            have z_329 : (fv_324 13).toInt = (fv 13).toInt := congrArg Int32.toInt ((congrFun efv_324 13).trans ((fr_8 13 rfl)))
            have z_330 : 0 ≤ (fv_324 13).toInt ∧ (fv_324 13).toInt ≤ 301 := hF_fv_324 13
            have z_331 : (fv_324 14).toInt = (fv 14).toInt := congrArg Int32.toInt ((congrFun efv_324 14).trans ((fr_8 14 rfl)))
            have z_332 : 0 ≤ (fv_324 14).toInt ∧ (fv_324 14).toInt ≤ 300 := hF_fv_324 14
            refine va_callv (va_runV (As := []) (rest := []) ⟨hx, hb, hml, hown, hts⟩ (x_stepC l dC dI H.size ob ad cA hd fv_324 wd_6 ar_7 hF_fv_324 hA_ar_7 (by have h9 := rd_lt hfin (p := (fv 14).toInt.toNat) (by omega) (by rw [← zj_11]; omega); omega)) (cwV 0 hts (gV kw_4_116 kw_4_118 kw_p_7 kw_1_11 kw_4_119) rfl rfl rfl (by decide +kernel) ⟨Nat.le_of_ble_eq_true rfl, Nat.le_of_ble_eq_true rfl⟩) ⟨fun a U g mk q => ⟨q.1, q.2.1, q.2.2.1, va_K.moved (u := U) (U := U.calling g mk a) (Vm.Alike.refl U.vm) q.2.2.2⟩, va_recv hK hP (ci := 4) (q0 := 6) rfl rfl, fun U hU hW => ⟨rfl, by rw [hU], by rw [hU]; exact hP, va_K.moved hW.alike hK⟩⟩ rfl rfl hl.1 rfl (lv_room (Nat.le_of_ble_eq_true rfl)) dX3_readOne_83 ⟨Nat.le_of_ble_eq_true rfl, Nat.le_of_ble_eq_true rfl⟩) hS (fun q _ h9 => aX_up hS q h9) (aX_up hS) (fun u t H1 locs ht _ hw hB _ hk1 hS => ?_)
            obtain ⟨fv_335, wd_336, ar_337⟩ := u
            obtain ⟨hF_fv_335, hA_ar_337, fr_338, fa_339, wf_340, p_334, -⟩ := hw
            have wf_340 : wd_336.2 = wd_6.2 := wf_340
            have hP : va_P (dC, dI) vwCl (wsX ob ad cA fv_335 wd_336 ar_337) H1 := by have h9 := hB.1; rw [ht] at h9; exact h9
            have fr_338 : fM [14] fv_324 fv_335 := fr_338
            have fa_339 : fA [] ar_7 ar_337 := fa_339
            have p_334 : (fv_335 14).toInt = (fv_324 14).toInt + 1 ∧ (fv_335 14).toInt ≤ (fv_324 13).toInt - 1 := p_334
            generalize H1 = H at hP hS ⊢
            refine lv_aload_n hx hb dX3_readOne_86 rfl (lv_at hl 1 rfl) ?_
            refine va_gets hx hb (hE.1 22 (by decide)).1 hS hown (htg (.fieldLink RX3 190 "WalkingTown$Token" "NOT" "LWalkingTown$Token;") kw_4_124) (fun _ h9 => h9) dX3_readOne_87 ?_
            refine lv_acmp_ne (rx := some (tA j_11)) (ry := some (tA 22)) (tgt := 113) hx hb dX3_readOne_90 (by decide) (fun c_341 => ?_) (fun c_341 => ?_)
            · skip
              have k_342 : ¬ j_11 = 22 := fun w => c_341 (by rw [w])
              refine lv_aload_n hx hb dX3_readOne_113 rfl (lv_at hl 1 rfl) ?_
              refine va_gets hx hb (hE.1 27 (by decide)).1 hS hown (htg (.fieldLink RX3 209 "WalkingTown$Token" "OPEN" "LWalkingTown$Token;") kw_4_148) (fun _ h9 => h9) dX3_readOne_114 ?_
              refine lv_acmp_ne (rx := some (tA j_11)) (ry := some (tA 27)) (tgt := 146) hx hb dX3_readOne_117 (by decide) (fun c_343 => ?_) (fun c_343 => ?_)
              · skip
                have k_344 : ¬ j_11 = 27 := fun w => c_343 (by rw [w])
                refine lv_aload_n hx hb dX3_readOne_146 rfl (lv_at hl 1 rfl) ?_
                refine va_getE hx hb hE lj_11 hS hown (q := tkrole) (List.mem_cons_self ..) (htg (.fieldLink RX3 162 "WalkingTown$Token" "role" "I") kw_9_66) (fun _ h9 => h9) dX3_readOne_147 ?_
                refine lv_topi (fun v_345 ev_345 => ?_)
                have i_346 : 0 ≤ v_345.toInt ∧ v_345.toInt ≤ 11 := ev_345 ▸ tk_role j_11
                have k_347 := rd_role lj_11 ev_345
                refine lv_iconst (v := 2) hx hb dX3_readOne_150 (by decide) ?_
                refine lv_icmp_ne (tgt := 167) hx hb dX3_readOne_151 (by decide) (fun c_348 => ?_) (fun c_348 => ?_)
                · skip
                  have k_349 : ¬ v_345.toInt = 2 := fun q => c_348 (Int32.toInt_inj.mp q)
                  refine lv_aload_n hx hb dX3_readOne_167 rfl (lv_at hl 2 rfl) ?_
                  refine lv_aload_n hx hb dX3_readOne_168 rfl (lv_at hl 1 rfl) ?_
                  refine va_getE hx hb hE lj_11 hS hown (q := tkcode) (List.mem_cons_of_mem _ (List.mem_cons_self ..)) (htg (.fieldLink RX3 168 "WalkingTown$Token" "code" "I") kw_9_67) (fun _ h9 => h9) dX3_readOne_169 ?_
                  refine lv_topi (fun v_350 ev_350 => ?_)
                  have i_351 : 0 ≤ v_350.toInt ∧ v_350.toInt ≤ 11 := ev_350 ▸ tk_code j_11
                  have z_352 : (fv_335 13).toInt = (fv 13).toInt := congrArg Int32.toInt ((fr_338 13 rfl).trans ((congrFun efv_324 13).trans ((fr_8 13 rfl))))
                  have z_353 : 0 ≤ (fv_335 13).toInt ∧ (fv_335 13).toInt ≤ 301 := hF_fv_335 13
                  have z_354 : 0 ≤ (fv_335 14).toInt ∧ (fv_335 14).toInt ≤ 300 := hF_fv_335 14
                  have z_355 : 0 ≤ (fv_335 14).toInt ∧ (fv_335 14).toInt ≤ 300 := hF_fv_335 14
                  have z_356 : (fv_335 17).toInt = v_321.toInt := congrArg Int32.toInt ((fr_338 17 rfl).trans ((congrFun efv_324 17)))
                  have z_357 : 0 ≤ (fv_335 17).toInt ∧ (fv_335 17).toInt ≤ 50 := hF_fv_335 17
                  refine va_calli (va_runV (As := [.int v_350]) (rest := []) ⟨hx, hb, hml, hown, hts⟩ (x_readSignC l dC dI H.size ob ad cA hd fv_335 wd_336 ar_337 hF_fv_335 hA_ar_337 tA (tO_w hto (wf_340.trans wf_10)) T9 S9 N9 c9 v_350 i_351 (rd_cx_eq hcx (congrArg (fun z => z.1) (wf_340.trans wf_10)) ((fA_call (fA_call (fA_rf [] _) fa_9 (by decide)) fa_339 (by decide)) 36 rfl) ((fA_call (fA_call (fA_rf [] _) fa_9 (by decide)) fa_339 (by decide)) 37 rfl)) (by omega) (by omega) h300 hT32 hfin (eC_fr hp_eC (fM_call (fM_put (fM_call (fM_rf [14, 17] _) fr_8 (by decide)) efv_324 (by decide)) fr_338 (by decide)) (fA_call (fA_call (fA_rf [] _) fa_9 (by decide)) fa_339 (by decide)) rfl rfl rfl)) (cwV 1 hts (gV kw_4_156 kw_4_158 kw_p_15 kw_1_11 kw_4_159) rfl rfl rfl (by decide +kernel) ⟨Nat.le_of_ble_eq_true rfl, Nat.le_of_ble_eq_true rfl⟩) ⟨fun a U g mk q => ⟨q.1, ⟨q.2.1.1, q.2.1.2.1, va_K.moved (u := U) (U := U.calling g mk a) (Vm.Alike.refl U.vm) q.2.1.2.2⟩, tk_mv (U := U.calling g mk a) rfl (Vm.Alike.refl U.vm) q.2.2⟩, va_recv hK hP (ci := 4) (q0 := 6) rfl rfl, fun U hU hW => ⟨rfl, ⟨by rw [hU], by rw [hU]; exact hP, va_K.moved hW.alike hK⟩, tk_pass hE hS hU hW.alike⟩⟩ rfl rfl hl.1 rfl (lv_room (Nat.le_of_ble_eq_true rfl)) dX3_readOne_172 ⟨Nat.le_of_ble_eq_true rfl, Nat.le_of_ble_eq_true rfl⟩) hS (fun q _ h9 => aX_up hS q h9) (aX_up hS) (fun r_358 u t H1 locs ht _ hw hB _ hk1 hS => ?_)
                  obtain ⟨fv_364, wd_365, ar_366⟩ := u
                  obtain ⟨hF_fv_364, hA_ar_366, fr_367, fa_368, wf_369, p_359, p_360, p_361, p_362, p_363, -⟩ := hw
                  have wf_369 : wd_365.2 = wd_336.2 := wf_369
                  have hP : va_P (dC, dI) vwCl (wsX ob ad cA fv_364 wd_365 ar_366) H1 := by have h9 := hB.1; rw [ht] at h9; exact h9
                  have fr_367 : fM [14, 16, 19, 20] fv_335 fv_364 := fr_367
                  have fa_368 : fA [41, 42, 43] ar_337 ar_366 := fa_368
                  have p_363 : eC fv_364 ar_366 := p_363
                  have p_360 : ∀ r9 : List Bool, rd_x T9 S9 2 ((fv_335 14).toInt.toNat) ((fv_335 17).toInt.toNat) r9 r_358 (fv_364 19) (fv_364 20) (fv_364 14) (fv_364 17) := p_360
                  have p_361 : r_358 = 1 → fv_364 19 = fv_335 19 := p_361
                  have p_362 : (fv_364 14).toInt ≤ (c9 : Int) := p_362
                  generalize H1 = H at hP hS ⊢
                  exact W.zret (v := r_358) hx hb hr (iv_nar p_359) (fun t ht hW => ⟨⟨r_358, (fv_364, wd_365, ar_366), rfl, ⟨hF_fv_364, hA_ar_366, (fM_call (fM_call (fM_put (fM_call (fM_rf [14, 16, 17, 19, 20] _) fr_8 (by decide)) efv_324 (by decide)) fr_338 (by decide)) fr_367 (by decide)), (fA_call (fA_call (fA_call (fA_rf [41, 42, 43] _) fa_9 (by decide)) fa_339 (by decide)) fa_368 (by decide)), (wf_369.trans (wf_340.trans wf_10)), p_359, (show ∀ r9 : List Bool, r9.length = 2 → rd_x T9 S9 0 ((fv 14).toInt.toNat) ((fv 17).toInt.toNat) r9 r_358 (fv_364 19) (fv_364 20) (fv_364 14) (fv_364 17) from fun r9 hr => by have : (fv_5 14).toInt = (fv 14).toInt := congrArg Int32.toInt ((fM_call (fM_rf [] _) fr_8 (by decide)) 14 rfl); have : (fv_324 14).toInt = (fv_5 14).toInt := congrArg Int32.toInt ((fM_put (fM_rf [17] _) efv_324 (by decide)) 14 rfl); have : (fv_5 17).toInt = (fv 17).toInt := congrArg Int32.toInt ((fM_call (fM_rf [] _) fr_8 (by decide)) 17 rfl); have : (fv_324 17).toInt = v_321.toInt := congrArg Int32.toInt (show fv_324 17 = v_321 from congrFun efv_324 17); have : (fv_335 17).toInt = (fv_324 17).toInt := congrArg Int32.toInt ((fM_call (fM_rf [14] _) fr_338 (by decide)) 17 rfl); have : (fv_364 17).toInt = (fv_335 17).toInt := congrArg Int32.toInt ((fM_call (fM_rf [14, 16, 19, 20] _) fr_367 (by decide)) 17 rfl); have h9 := p_360 r9; exact rd_x_of h9 (by rw [rd_m0_fact (by omega) (by rw [← zj_11]; omega) (by omega), show (fv 14).toInt.toNat + 1 = (fv_335 14).toInt.toNat from (by omega), show (fv 17).toInt.toNat + 1 = (fv_335 17).toInt.toNat from (by omega)])), (show r_358 = 1 → fv_364 19 = fv 19 from fun w => (show fv_364 19 = fv_364 19 from rfl).trans ((p_361 w).trans ((fM_call (fM_put (fM_call (fM_rf [14, 17] _) fr_8 (by decide)) efv_324 (by decide)) fr_338 (by decide)) 19 rfl))), (show (fv_364 14).toInt ≤ (c9 : Int) from by have : (fv_5 14).toInt = (fv 14).toInt := congrArg Int32.toInt ((fM_call (fM_rf [] _) fr_8 (by decide)) 14 rfl); have : (fv_324 14).toInt = (fv_5 14).toInt := congrArg Int32.toInt ((fM_put (fM_rf [17] _) efv_324 (by decide)) 14 rfl); have hp9 := p_362; omega), (show r_358 = 1 → (fv 17).toInt + 1 ≤ (fv_364 17).toInt from fun w => by have : (fv_5 17).toInt = (fv 17).toInt := congrArg Int32.toInt ((fM_call (fM_rf [] _) fr_8 (by decide)) 17 rfl); have : (fv_324 17).toInt = v_321.toInt := congrArg Int32.toInt (show fv_324 17 = v_321 from congrFun efv_324 17); have : (fv_335 17).toInt = (fv_324 17).toInt := congrArg Int32.toInt ((fM_call (fM_rf [14] _) fr_338 (by decide)) 17 rfl); have : (fv_364 17).toInt = (fv_335 17).toInt := congrArg Int32.toInt ((fM_call (fM_rf [14, 16, 19, 20] _) fr_367 (by decide)) 17 rfl); have hi9 : (fv_364 17).toInt = (fv_335 17).toInt := congrArg Int32.toInt ((fM_call (fM_rf [14, 16, 19, 20] _) fr_367 (by decide)) 17 rfl); omega), p_363, trivial⟩, ⟨by rw [ht]; exact hP, va_K.moved hW.alike hK⟩⟩, hS.F ht⟩) hS.2.2 dX3_readOne_175
                · skip
                  have i_370 : 2 ≤ v_345.toInt ∧ v_345.toInt ≤ 2 := iv_eq1 (⟨by decide, by decide⟩ : (2 : Int) ≤ (2 : Int32).toInt ∧ (2 : Int32).toInt ≤ 2) c_348
                  refine lv_aload_n hx hb dX3_readOne_154 rfl (lv_at hl 2 rfl) ?_
                  refine lv_iconst (v := 2) hx hb dX3_readOne_155 (by decide) ?_
                  refine lv_aload_n hx hb dX3_readOne_156 rfl (lv_at hl 1 rfl) ?_
                  refine va_getE hx hb hE lj_11 hS hown (q := tkcode) (List.mem_cons_of_mem _ (List.mem_cons_self ..)) (htg (.fieldLink RX3 168 "WalkingTown$Token" "code" "I") kw_9_67) (fun _ h9 => h9) dX3_readOne_157 ?_
                  refine lv_topi (fun v_372 ev_372 => ?_)
                  have i_373 : 0 ≤ v_372.toInt ∧ v_372.toInt ≤ 11 := ev_372 ▸ tk_code j_11
                  refine lv_iconst (v := 0) hx hb dX3_readOne_160 (by decide) ?_
                  refine va_calli (va_runV (As := [.int 2, .int v_372, .int 0]) (rest := []) ⟨hx, hb, hml, hown, hts⟩ (x_addCode l dC dI H.size ob ad cA hd fv_335 wd_336 ar_337 hF_fv_335 hA_ar_337 2 v_372 0 i_373 (eC_fr hp_eC (fM_call (fM_put (fM_call (fM_rf [14, 17] _) fr_8 (by decide)) efv_324 (by decide)) fr_338 (by decide)) (fA_call (fA_call (fA_rf [] _) fa_9 (by decide)) fa_339 (by decide)) rfl rfl rfl)) (cwV 3 hts (gV kw_4_150 kw_4_152 kw_p_14 kw_1_11 kw_4_153) rfl rfl rfl (by decide +kernel) ⟨Nat.le_of_ble_eq_true rfl, Nat.le_of_ble_eq_true rfl⟩) ⟨fun a U g mk q => ⟨q.1, q.2.1, q.2.2.1, va_K.moved (u := U) (U := U.calling g mk a) (Vm.Alike.refl U.vm) q.2.2.2⟩, va_recv hK hP (ci := 4) (q0 := 6) rfl rfl, fun U hU hW => ⟨rfl, by rw [hU], by rw [hU]; exact hP, va_K.moved hW.alike hK⟩⟩ rfl rfl hl.1 rfl (lv_room (Nat.le_of_ble_eq_true rfl)) dX3_readOne_161 ⟨Nat.le_of_ble_eq_true rfl, Nat.le_of_ble_eq_true rfl⟩) hS (fun q _ h9 => aX_up hS q h9) (aX_up hS) (fun r_374 u t H1 locs ht _ hw hB _ hk1 hS => ?_)
                  obtain ⟨fv_378, wd_379, ar_380⟩ := u
                  obtain ⟨hF_fv_378, hA_ar_380, fr_381, fa_382, wf_383, p_375, p_376, p_377, -⟩ := hw
                  have wf_383 : wd_379.2 = wd_336.2 := wf_383
                  have hP : va_P (dC, dI) vwCl (wsX ob ad cA fv_378 wd_379 ar_380) H1 := by have h9 := hB.1; rw [ht] at h9; exact h9
                  have fr_381 : fM [16] fv_335 fv_378 := fr_381
                  have fa_382 : fA [41, 42, 43] ar_337 ar_380 := fa_382
                  have p_377 : eC fv_378 ar_380 := p_377
                  generalize H1 = H at hP hS ⊢
                  rcases p_376 with ⟨rfl, p_376⟩
                  · skip
                    refine lv_goto (tgt := 175) hx hb dX3_readOne_164 (by decide) ?_
                    have z_384 : (1 : Int32).toInt = 1 := by decide
                    exact W.zret (v := 1) hx hb hr (by decide) (fun t ht hW => ⟨⟨1, (fv_378, wd_379, ar_380), rfl, ⟨hF_fv_378, hA_ar_380, (fM_call (fM_call (fM_put (fM_call (fM_rf [14, 16, 17, 19, 20] _) fr_8 (by decide)) efv_324 (by decide)) fr_338 (by decide)) fr_381 (by decide)), (fA_call (fA_call (fA_call (fA_rf [41, 42, 43] _) fa_9 (by decide)) fa_339 (by decide)) fa_382 (by decide)), (wf_383.trans (wf_340.trans wf_10)), (iv_w (⟨by decide, by decide⟩ : (1 : Int) ≤ (1 : Int32).toInt ∧ (1 : Int32).toInt ≤ 1) (by decide) (by decide)), (show ∀ r9 : List Bool, r9.length = 2 → rd_x T9 S9 0 ((fv 14).toInt.toNat) ((fv 17).toInt.toNat) r9 (1 : Int32) (fv_378 19) (fv_378 20) (fv_378 14) (fv_378 17) from fun r9 hr => by have : (fv_5 14).toInt = (fv 14).toInt := congrArg Int32.toInt ((fM_call (fM_rf [] _) fr_8 (by decide)) 14 rfl); have : (fv_324 14).toInt = (fv_5 14).toInt := congrArg Int32.toInt ((fM_put (fM_rf [17] _) efv_324 (by decide)) 14 rfl); have : (fv_378 14).toInt = (fv_335 14).toInt := congrArg Int32.toInt ((fM_call (fM_rf [16] _) fr_381 (by decide)) 14 rfl); have : (fv_5 17).toInt = (fv 17).toInt := congrArg Int32.toInt ((fM_call (fM_rf [] _) fr_8 (by decide)) 17 rfl); have : (fv_324 17).toInt = v_321.toInt := congrArg Int32.toInt (show fv_324 17 = v_321 from congrFun efv_324 17); have : (fv_335 17).toInt = (fv_324 17).toInt := congrArg Int32.toInt ((fM_call (fM_rf [14] _) fr_338 (by decide)) 17 rfl); have : (fv_378 17).toInt = (fv_335 17).toInt := congrArg Int32.toInt ((fM_call (fM_rf [16] _) fr_381 (by decide)) 17 rfl); exact rd_xO (by rw [rd_m0_flag (by omega) (by rw [← zj_11]; omega) (by omega), show (fv 14).toInt.toNat + 1 = (fv_378 14).toInt.toNat from (by omega), show (fv 17).toInt.toNat + 1 = (fv_378 17).toInt.toNat from (by omega)])), (show (1 : Int32) = 1 → fv_378 19 = fv 19 from fun _ => ((fM_call (fM_call (fM_put (fM_call (fM_rf [14, 16, 17] _) fr_8 (by decide)) efv_324 (by decide)) fr_338 (by decide)) fr_381 (by decide)) 19 rfl)), (show (fv_378 14).toInt ≤ (c9 : Int) from by have : (fv_5 14).toInt = (fv 14).toInt := congrArg Int32.toInt ((fM_call (fM_rf [] _) fr_8 (by decide)) 14 rfl); have : (fv_324 14).toInt = (fv_5 14).toInt := congrArg Int32.toInt ((fM_put (fM_rf [17] _) efv_324 (by decide)) 14 rfl); have : (fv_378 14).toInt = (fv_335 14).toInt := congrArg Int32.toInt ((fM_call (fM_rf [16] _) fr_381 (by decide)) 14 rfl); omega), (show (1 : Int32) = 1 → (fv 17).toInt + 1 ≤ (fv_378 17).toInt from fun w => by have : (fv_5 17).toInt = (fv 17).toInt := congrArg Int32.toInt ((fM_call (fM_rf [] _) fr_8 (by decide)) 17 rfl); have : (fv_324 17).toInt = v_321.toInt := congrArg Int32.toInt (show fv_324 17 = v_321 from congrFun efv_324 17); have : (fv_335 17).toInt = (fv_324 17).toInt := congrArg Int32.toInt ((fM_call (fM_rf [14] _) fr_338 (by decide)) 17 rfl); have : (fv_378 17).toInt = (fv_335 17).toInt := congrArg Int32.toInt ((fM_call (fM_rf [16] _) fr_381 (by decide)) 17 rfl); omega), p_377, trivial⟩, ⟨by rw [ht]; exact hP, va_K.moved hW.alike hK⟩⟩, hS.F ht⟩) hS.2.2 dX3_readOne_175
              · skip
                have k_385 : j_11 = 27 := hE.2 j_11 27 lj_11 (by decide) (Option.some.inj c_343)
                exfalso; omega
            · skip
              have k_386 : j_11 = 22 := hE.2 j_11 22 lj_11 (by decide) (Option.some.inj c_341)
              exfalso; omega
          · skip
            exact absurd True.intro (by have h7 := (⟨by decide, by decide⟩ : (10 : Int) ≤ (10 : Int32).toInt ∧ (10 : Int32).toInt ≤ 10); have h8 := h_wi; have h9 := Int32.le_iff_toInt_le.mp (Int32.not_lt.mp c_320); exfalso; omega)
      · skip
        exact absurd c_301 (by decide)
set_option maxHeartbeats 4000000 in
set_option maxRecDepth 100000 in
theorem x_readAllC_2 (l : Launch) (dC : Nat → ClassId) (dI : Nat → Nat → Nat) (sz : Nat) (ob ad : Nat → Nat) (cA : Nat → ClassId) (hd : dX ob ad) (fv : Nat → Int32) (wd : xT) (ar : Nat → Nat → Int32) (hF_fv : rX fv) (hA_ar : rB ar) (tA : Nat → Nat) (hto : tO tA wd.2.1) (T9 : Nat → Nat) (S9 : Nat → Nat) (N9 : Nat → Int) (c9 : Nat) (wi : Int32) (h_wi : 2 ≤ wi.toInt ∧ wi.toInt ≤ 2) (hcx : rd_cx tA T9 S9 N9 c9 wd.2.1 (ar 36) (ar 37)) (htc : (fv 13).toInt = (c9 : Int) + 1) (hpl : (fv 14).toInt ≤ (c9 : Int)) (h300 : c9 ≤ 300) (hT32 : ∀ k, T9 k < 32) (hfin : T9 c9 = 30 ∨ T9 c9 = 31) (hp_eC : eC fv ar) : Met l yX3_readAll (.code yX3_readAll cX3_readAll 3 (some .boolean) :: lw_good) ({ frames := 28, cells := 0, slots := 0, locals := 629 }) (va_Pc [.ref (ob 6), .int wi] (fun U => prX dC dI ob ad cA fv wd ar sz U ∧ tkA ob ad tA sz U)) (va_Qi (fun (r : Int32) (u : xS) => rX u.1 ∧ rB u.2.2 ∧ fM [14, 16, 17, 19, 20] fv u.1 ∧ fA [41, 42, 43] ar u.2.2 ∧ u.2.1.2 = wd.2 ∧ (0 ≤ r.toInt ∧ r.toInt ≤ 1) ∧ (∀ r9 : List Bool, r9.length = 2 → rd_dn r9 = r9 → rd_x T9 S9 0 ((fv 14).toInt.toNat) ((fv 17).toInt.toNat) r9 r (u.1 19) (u.1 20) (u.1 14) (u.1 17)) ∧ (r = 1 → u.1 19 = fv 19) ∧ ((u.1 14).toInt ≤ (c9 : Int)) ∧ (r = 1 → (fv 17).toInt + 1 ≤ (u.1 17).toInt) ∧ (r = 1 → ¬ T9 ((u.1 14).toInt.toNat) = 24) ∧ (eC u.1 u.2.2) ∧ True) (enX dC dI ob ad cA) (aX ob ad sz)) 0 0 (aX ob ad sz) := by
  refine Met.ofW (cc := cX3_readAll) (maxL := 3) (ret := (some .boolean)) (by decide) rfl ?_
  intro p e s m args below meth c s₁ B hml hv
  obtain ⟨rfl, ⟨hsz, hP, hK⟩, hE⟩ := hv
  have hx := B.exec
  have hb := B.bytes
  have hr := B.returns
  have hts := atoms_spec (ws := (.code yX3_readAll cX3_readAll 3 (some .boolean) :: lw_good)) B.pre
  have htg : ∀ w ∈ lw_good, w.before _ s = true := fun w hw => hts w (List.mem_cons_of_mem _ hw)
  have hown : s.vm.findClass RX3 = some m.cls := findClass_of_methodNamed B.named
  have hlocks := B.notSynchronized
  subst hsz
  have hS : va_S (aX ob ad s.heap.size) s.heap s.heap [] := va_S.rf
  have hl := lv_entry ([.ref (ob 6), .int wi]) (n := 3) (Nat.le_of_ble_eq_true rfl)
  rw [lg_entry_eq]
  generalize (lg_sl ([.ref (ob 6), .int wi]) ++ List.replicate (3 - (lg_sl ([.ref (ob 6), .int wi])).length) Slot.unset).toArray = ls at hl ⊢
  have hl : lv_has ls 3 [(0, .ref (ob 6)), (1, .int wi)] := hl
  have i_1 : 0 ≤ (fv 14).toInt ∧ (fv 14).toInt ≤ 300 := (by have h9 := hF_fv 14; have h8 : 0 ≤ (fv 14).toInt := h9.1; omega)
  refine lv_aload_n hx hb dX3_readAll_0 rfl (lv_at hl 0 rfl) ?_
  refine lv_iload_n hx hb dX3_readAll_1 rfl (lv_at hl 1 rfl) ?_
  have z_2 : 0 ≤ (fv 13).toInt ∧ (fv 13).toInt ≤ 301 := hF_fv 13
  have z_3 : 0 ≤ (fv 14).toInt ∧ (fv 14).toInt ≤ 300 := hF_fv 14
  have z_4 : 0 ≤ (fv 14).toInt ∧ (fv 14).toInt ≤ 300 := hF_fv 14
  have z_5 : 0 ≤ (fv 17).toInt ∧ (fv 17).toInt ≤ 50 := hF_fv 17
  refine va_calli (va_runV (As := [.int wi]) (rest := []) ⟨hx, hb, hml, hown, hts⟩ (x_readOneC_2 l dC dI s.heap.size ob ad cA hd fv wd ar hF_fv hA_ar tA hto T9 S9 N9 c9 wi h_wi hcx (by omega) (by omega) h300 hT32 hfin hp_eC) (cwV 1 hts (gV kw_4_144 kw_4_146 kw_p_13 kw_1_11 kw_4_147) rfl rfl rfl (by decide +kernel) ⟨Nat.le_of_ble_eq_true rfl, Nat.le_of_ble_eq_true rfl⟩) ⟨fun a U g mk q => ⟨q.1, ⟨q.2.1.1, q.2.1.2.1, va_K.moved (u := U) (U := U.calling g mk a) (Vm.Alike.refl U.vm) q.2.1.2.2⟩, tk_mv (U := U.calling g mk a) rfl (Vm.Alike.refl U.vm) q.2.2⟩, va_recv hK hP (ci := 4) (q0 := 6) rfl rfl, fun U hU hW => ⟨rfl, ⟨by rw [hU], by rw [hU]; exact hP, va_K.moved hW.alike hK⟩, tk_pass hE hS hU hW.alike⟩⟩ rfl rfl hl.1 rfl (lv_room (Nat.le_of_ble_eq_true rfl)) dX3_readAll_2 ⟨Nat.le_of_ble_eq_true rfl, Nat.le_of_ble_eq_true rfl⟩) hS (fun q _ h9 => aX_up hS q h9) (aX_up hS) (fun r_6 u t H1 locs ht _ hw hB _ hk1 hS => ?_)
  obtain ⟨fv_13, wd_14, ar_15⟩ := u
  obtain ⟨hF_fv_13, hA_ar_15, fr_16, fa_17, wf_18, p_7, p_8, p_9, p_10, p_11, p_12, -⟩ := hw
  have wf_18 : wd_14.2 = wd.2 := wf_18
  have hP : va_P (dC, dI) vwCl (wsX ob ad cA fv_13 wd_14 ar_15) H1 := by have h9 := hB.1; rw [ht] at h9; exact h9
  have fr_16 : fM [14, 16, 17, 19, 20] fv fv_13 := fr_16
  have fa_17 : fA [41, 42, 43] ar ar_15 := fa_17
  have p_12 : eC fv_13 ar_15 := p_12
  have p_8 : ∀ r9 : List Bool, r9.length = 2 → rd_x T9 S9 0 ((fv 14).toInt.toNat) ((fv 17).toInt.toNat) r9 r_6 (fv_13 19) (fv_13 20) (fv_13 14) (fv_13 17) := p_8
  have p_9 : r_6 = 1 → fv_13 19 = fv 19 := p_9
  have p_10 : (fv_13 14).toInt ≤ (c9 : Int) := p_10
  have p_11 : r_6 = 1 → (fv 17).toInt + 1 ≤ (fv_13 17).toInt := p_11
  generalize H1 = H at hP hS ⊢
  refine lv_if_ne (tgt := 10) hx hb dX3_readAll_5 (by decide) (fun c_19 => ?_) (fun c_19 => ?_)
  · skip
    have i_20 : 1 ≤ r_6.toInt ∧ r_6.toInt ≤ 1 := iv_nel p_7 (by decide) c_19
    have k_21 : ¬ r_6.toInt = 0 := fun q => c_19 (Int32.toInt_inj.mp q)
    refine lv_iconst (v := 0) hx hb dX3_readAll_10 (by decide) ?_
    refine lv_istore_n (lv' := [(2, .int 0), (0, .ref (ob 6)), (1, .int wi)]) hx hb dX3_readAll_11 rfl hl (by decide) rfl (fun ls hl => ?_)
    refine my_cut (P := fun R9 a9 Q9 => ∀ (n_34 : Nat) (x_22 : Int32) (fv_23 : Nat → Int32) (ar_25 : Nat → Nat → Int32) (wd_27 : xT) (H : Heap) (locs : List Loc) (ls : Array Slot), 50 - x_22.toInt < (n_34 : Int) → (0 ≤ x_22.toInt ∧ x_22.toInt ≤ 50) → rX fv_23 → fM [14, 16, 17, 19, 20] fv_13 fv_23 → rB ar_25 → fA [41, 42, 43] ar_15 ar_25 → wd_27.2 = wd_14.2 → eC fv_23 ar_25 → (∀ r9 : List Bool, r9.length = 2 → rd_dn r9 = r9 → rd_m T9 0 ((fv 14).toInt.toNat) ((fv 17).toInt.toNat) r9 = rd_m T9 1 ((fv_23 14).toInt.toNat) ((fv_23 17).toInt.toNat) r9) → ((fv_23 14).toInt ≤ (c9 : Int)) → (fv_23 19 = fv 19) → (x_22.toInt + (fv 17).toInt + 1 ≤ (fv_23 17).toInt) → va_P (dC, dI) vwCl (wsX ob ad cA fv_23 wd_27 ar_25) H → va_S (aX ob ad s.heap.size) s.heap H locs → lv_has ls 3 [(0, .ref (ob 6)), (1, .int wi), (2, .int x_22)] → W p l e R9 s m a9 below meth c H locs 0 0 Q9 (F0 m 12 ls [])) ?_ (fun hj_36 => ?_)
    · intro n_34
      induction n_34 with
      | zero => intro x_22 fv_23 ar_25 wd_27 H locs ls fu_35 i_x_22 hF_fv_23 fr_24 hA_ar_25 fa_26 wf_28 hp_29 q_30 q_31 q_32 q_33; exfalso; omega
      | succ n_34 ih_34 =>
        intro x_22 fv_23 ar_25 wd_27 H locs ls fu_35 i_x_22 hF_fv_23 fr_24 hA_ar_25 fa_26 wf_28 hp_29 q_30 q_31 q_32 q_33 hP hS hl
        refine lv_iload_n hx hb dX3_readAll_12 rfl (lv_at hl 2 rfl) ?_
        refine lv_bipush (v := 50) hx hb dX3_readAll_13 (by decide) ?_
        have z_37 : 0 ≤ (fv_23 17).toInt ∧ (fv_23 17).toInt ≤ 50 := hF_fv_23 17
        have z_38 : 0 ≤ (fv_23 14).toInt ∧ (fv_23 14).toInt ≤ 300 := hF_fv_23 14
        have z50 : (50 : Int32).toInt = 50 := by decide
        refine lv_icmp_ge (tgt := 56) hx hb dX3_readAll_15 (by decide) (fun c_39 => ?_) (fun c_39 => ?_)
        · skip
          exact absurd True.intro (by have h9 := Int32.le_iff_toInt_le.mp c_39; exfalso; omega)
        · skip
          have i_40 : 0 ≤ x_22.toInt ∧ x_22.toInt ≤ 49 := iv_lt1 i_x_22 (⟨by decide, by decide⟩ : (50 : Int) ≤ (50 : Int32).toInt ∧ (50 : Int32).toInt ≤ 50) (Int32.not_le.mp c_39)
          refine lv_aload_n hx hb dX3_readAll_18 rfl (lv_at hl 0 rfl) ?_
          have z_41 : (fv_23 13).toInt = (fv 13).toInt := congrArg Int32.toInt ((fr_24 13 rfl).trans ((fr_16 13 rfl)))
          have z_42 : 0 ≤ (fv_23 13).toInt ∧ (fv_23 13).toInt ≤ 301 := hF_fv_23 13
          have z_43 : 0 ≤ (fv_23 14).toInt ∧ (fv_23 14).toInt ≤ 300 := hF_fv_23 14
          refine va_callr (va_runV (As := []) (rest := []) ⟨hx, hb, hml, hown, hts⟩ (x_tokenC l dC dI H.size ob ad cA hd fv_23 wd_27 ar_25 hF_fv_23 hA_ar_25 tA (tO_w hto (wf_28.trans wf_18)) T9 S9 N9 c9 (rd_cx_eq hcx (congrArg (fun z => z.1) (wf_28.trans wf_18)) ((fA_call (fA_call (fA_rf [41, 42, 43] _) fa_17 (by decide)) fa_26 (by decide)) 36 rfl) ((fA_call (fA_call (fA_rf [41, 42, 43] _) fa_17 (by decide)) fa_26 (by decide)) 37 rfl)) (by omega) (by omega) h300 hT32 hfin) (cwV 0 hts (gV kw_4_102 kw_4_104 kw_p_4 kw_1_11 kw_4_105) rfl rfl rfl (by decide +kernel) ⟨Nat.le_of_ble_eq_true rfl, Nat.le_of_ble_eq_true rfl⟩) ⟨fun a U g mk q => ⟨q.1, ⟨q.2.1.1, q.2.1.2.1, va_K.moved (u := U) (U := U.calling g mk a) (Vm.Alike.refl U.vm) q.2.1.2.2⟩, tk_mv (U := U.calling g mk a) rfl (Vm.Alike.refl U.vm) q.2.2⟩, va_recv hK hP (ci := 4) (q0 := 6) rfl rfl, fun U hU hW => ⟨rfl, ⟨by rw [hU], by rw [hU]; exact hP, va_K.moved hW.alike hK⟩, tk_pass hE hS hU hW.alike⟩⟩ rfl rfl hl.1 rfl (lv_room (Nat.le_of_ble_eq_true rfl)) dX3_readAll_19 ⟨Nat.le_of_ble_eq_true rfl, Nat.le_of_ble_eq_true rfl⟩) hS (fun q _ h9 => aX_up hS q h9) (aX_up hS) (fun u r_44 t H1 locs ht _ hw hB _ hk1 hS => ?_)
          obtain ⟨fv_45, wd_46, ar_47⟩ := u
          obtain ⟨hF_fv_45, hA_ar_47, fr_48, fa_49, wf_50, -⟩ := hw
          have wf_50 : wd_46.2 = wd_27.2 := wf_50
          have hP : va_P (dC, dI) vwCl (wsX ob ad cA fv_45 wd_46 ar_47) H1 := by have h9 := hB.1.1; rw [ht] at h9; exact h9
          have fr_48 : fM [] fv_23 fv_45 := fr_48
          have fa_49 : fA [] ar_25 ar_47 := fa_49
          generalize H1 = H at hP hS ⊢
          obtain ⟨j_51, lj_51, rj_51, zj_51⟩ := hB.2
          subst rj_51
          refine va_gets hx hb (hE.1 24 (by decide)).1 hS hown (htg (.fieldLink RX3 206 "WalkingTown$Token" "AND" "LWalkingTown$Token;") kw_4_160) (fun _ h9 => h9) dX3_readAll_22 ?_
          refine lv_acmp_ne (rx := some (tA j_51)) (ry := some (tA 24)) (tgt := 56) hx hb dX3_readAll_25 (by decide) (fun c_52 => ?_) (fun c_52 => ?_)
          · skip
            have k_53 : ¬ j_51 = 24 := fun w => c_52 (by rw [w])
            refine lv_iconst (v := 1) hx hb dX3_readAll_56 (by decide) ?_
            have z_54 : (1 : Int32).toInt = 1 := by decide
            exact W.zret (v := 1) hx hb hr (by decide) (fun t ht hW => ⟨⟨1, (fv_45, wd_46, ar_47), rfl, ⟨hF_fv_45, hA_ar_47, (fM_call (fM_call (fM_call (fM_rf [14, 16, 17, 19, 20] _) fr_16 (by decide)) fr_24 (by decide)) fr_48 (by decide)), (fA_call (fA_call (fA_call (fA_rf [41, 42, 43] _) fa_17 (by decide)) fa_26 (by decide)) fa_49 (by decide)), (wf_50.trans (wf_28.trans wf_18)), (iv_w (⟨by decide, by decide⟩ : (1 : Int) ≤ (1 : Int32).toInt ∧ (1 : Int32).toInt ≤ 1) (by decide) (by decide)), (show ∀ r9 : List Bool, r9.length = 2 → rd_dn r9 = r9 → rd_x T9 S9 0 ((fv 14).toInt.toNat) ((fv 17).toInt.toNat) r9 (1 : Int32) (fv_45 19) (fv_45 20) (fv_45 14) (fv_45 17) from fun r9 hr hd => by have : (fv_45 14).toInt = (fv_23 14).toInt := congrArg Int32.toInt ((fM_call (fM_rf [] _) fr_48 (by decide)) 14 rfl); have : (fv_45 17).toInt = (fv_23 17).toInt := congrArg Int32.toInt ((fM_call (fM_rf [] _) fr_48 (by decide)) 17 rfl); exact rd_xO (by rw [show fv_45 14 = fv_23 14 from ((fM_call (fM_rf [] _) fr_48 (by decide)) 14 rfl), show fv_45 17 = fv_23 17 from ((fM_call (fM_rf [] _) fr_48 (by decide)) 17 rfl)]; exact q_30 r9 hr hd)), (show (1 : Int32) = 1 → fv_45 19 = fv 19 from fun _ => (show fv_45 19 = fv_23 19 from ((fM_call (fM_rf [] _) fr_48 (by decide)) 19 rfl)).trans q_32), (show (fv_45 14).toInt ≤ (c9 : Int) from by have : (fv_45 14).toInt = (fv_23 14).toInt := congrArg Int32.toInt ((fM_call (fM_rf [] _) fr_48 (by decide)) 14 rfl); have hp9 := p_10; omega), (show (1 : Int32) = 1 → (fv 17).toInt + 1 ≤ (fv_45 17).toInt from fun _ => by have : (fv_45 17).toInt = (fv_23 17).toInt := congrArg Int32.toInt ((fM_call (fM_rf [] _) fr_48 (by decide)) 17 rfl); omega), (show (1 : Int32) = 1 → ¬ T9 ((fv_45 14).toInt.toNat) = 24 from fun _ => by have : (fv_45 14).toInt = (fv_23 14).toInt := congrArg Int32.toInt ((fM_call (fM_rf [] _) fr_48 (by decide)) 14 rfl); have hz9 : ¬ T9 ((fv_45 14).toInt.toNat) = 24 := (by rw [show (fv_45 14).toInt.toNat = (fv_23 14).toInt.toNat from (by omega), ← zj_51]; omega); omega), (eC_fr hp_29 (fM_call (fM_rf [] _) fr_48 (by decide)) (fA_call (fA_rf [] _) fa_49 (by decide)) rfl rfl rfl), trivial⟩, ⟨by rw [ht]; exact hP, va_K.moved hW.alike hK⟩⟩, hS.F ht⟩) hS.2.2 dX3_readAll_57
          · skip
            have k_55 : j_51 = 24 := hE.2 j_51 24 lj_51 (by decide) (Option.some.inj c_52)
            refine lv_aload_n hx hb dX3_readAll_28 rfl (lv_at hl 0 rfl) ?_
            have z_56 : (fv_45 13).toInt = (fv 13).toInt := congrArg Int32.toInt ((fr_48 13 rfl).trans ((fr_24 13 rfl).trans ((fr_16 13 rfl))))
            have z_57 : 0 ≤ (fv_45 13).toInt ∧ (fv_45 13).toInt ≤ 301 := hF_fv_45 13
            have z_58 : (fv_45 14).toInt = (fv_23 14).toInt := congrArg Int32.toInt ((fr_48 14 rfl))
            have z_59 : 0 ≤ (fv_45 14).toInt ∧ (fv_45 14).toInt ≤ 300 := hF_fv_45 14
            have z_60 : (fv_45 13).toInt = (fv 13).toInt := congrArg Int32.toInt ((fr_48 13 rfl).trans ((fr_24 13 rfl).trans ((fr_16 13 rfl))))
            have z_61 : 0 ≤ (fv_45 13).toInt ∧ (fv_45 13).toInt ≤ 301 := hF_fv_45 13
            have z_62 : (fv_45 14).toInt = (fv_23 14).toInt := congrArg Int32.toInt ((fr_48 14 rfl))
            have z_63 : 0 ≤ (fv_45 14).toInt ∧ (fv_45 14).toInt ≤ 300 := hF_fv_45 14
            refine va_callv (va_runV (As := []) (rest := []) ⟨hx, hb, hml, hown, hts⟩ (x_stepC l dC dI H.size ob ad cA hd fv_45 wd_46 ar_47 hF_fv_45 hA_ar_47 (by have h9 := rd_lt hfin (p := (fv_23 14).toInt.toNat) (by omega) (by rw [← zj_51]; omega); omega)) (cwV 0 hts (gV kw_4_116 kw_4_118 kw_p_7 kw_1_11 kw_4_119) rfl rfl rfl (by decide +kernel) ⟨Nat.le_of_ble_eq_true rfl, Nat.le_of_ble_eq_true rfl⟩) ⟨fun a U g mk q => ⟨q.1, q.2.1, q.2.2.1, va_K.moved (u := U) (U := U.calling g mk a) (Vm.Alike.refl U.vm) q.2.2.2⟩, va_recv hK hP (ci := 4) (q0 := 6) rfl rfl, fun U hU hW => ⟨rfl, by rw [hU], by rw [hU]; exact hP, va_K.moved hW.alike hK⟩⟩ rfl rfl hl.1 rfl (lv_room (Nat.le_of_ble_eq_true rfl)) dX3_readAll_29 ⟨Nat.le_of_ble_eq_true rfl, Nat.le_of_ble_eq_true rfl⟩) hS (fun q _ h9 => aX_up hS q h9) (aX_up hS) (fun u t H1 locs ht _ hw hB _ hk1 hS => ?_)
            obtain ⟨fv_66, wd_67, ar_68⟩ := u
            obtain ⟨hF_fv_66, hA_ar_68, fr_69, fa_70, wf_71, p_65, -⟩ := hw
            have wf_71 : wd_67.2 = wd_46.2 := wf_71
            have hP : va_P (dC, dI) vwCl (wsX ob ad cA fv_66 wd_67 ar_68) H1 := by have h9 := hB.1; rw [ht] at h9; exact h9
            have fr_69 : fM [14] fv_45 fv_66 := fr_69
            have fa_70 : fA [] ar_47 ar_68 := fa_70
            have p_65 : (fv_66 14).toInt = (fv_45 14).toInt + 1 ∧ (fv_66 14).toInt ≤ (fv_45 13).toInt - 1 := p_65
            generalize H1 = H at hP hS ⊢
            refine lv_aload_n hx hb dX3_readAll_32 rfl (lv_at hl 0 rfl) ?_
            refine lv_iload_n hx hb dX3_readAll_33 rfl (lv_at hl 1 rfl) ?_
            have z_72 : (fv_66 13).toInt = (fv 13).toInt := congrArg Int32.toInt ((fr_69 13 rfl).trans ((fr_48 13 rfl).trans ((fr_24 13 rfl).trans ((fr_16 13 rfl)))))
            have z_73 : 0 ≤ (fv_66 13).toInt ∧ (fv_66 13).toInt ≤ 301 := hF_fv_66 13
            have z_74 : 0 ≤ (fv_66 14).toInt ∧ (fv_66 14).toInt ≤ 300 := hF_fv_66 14
            have z_75 : 0 ≤ (fv_66 14).toInt ∧ (fv_66 14).toInt ≤ 300 := hF_fv_66 14
            have z_76 : (fv_66 17).toInt = (fv_23 17).toInt := congrArg Int32.toInt ((fr_69 17 rfl).trans ((fr_48 17 rfl)))
            have z_77 : 0 ≤ (fv_66 17).toInt ∧ (fv_66 17).toInt ≤ 50 := hF_fv_66 17
            refine va_calli (va_runV (As := [.int wi]) (rest := []) ⟨hx, hb, hml, hown, hts⟩ (x_readOneC_2 l dC dI H.size ob ad cA hd fv_66 wd_67 ar_68 hF_fv_66 hA_ar_68 tA (tO_w hto (wf_71.trans (wf_50.trans (wf_28.trans wf_18)))) T9 S9 N9 c9 wi h_wi (rd_cx_eq hcx (congrArg (fun z => z.1) (wf_71.trans (wf_50.trans (wf_28.trans wf_18)))) ((fA_call (fA_call (fA_call (fA_call (fA_rf [41, 42, 43] _) fa_17 (by decide)) fa_26 (by decide)) fa_49 (by decide)) fa_70 (by decide)) 36 rfl) ((fA_call (fA_call (fA_call (fA_call (fA_rf [41, 42, 43] _) fa_17 (by decide)) fa_26 (by decide)) fa_49 (by decide)) fa_70 (by decide)) 37 rfl)) (by omega) (by omega) h300 hT32 hfin (eC_fr hp_29 (fM_call (fM_call (fM_rf [14] _) fr_48 (by decide)) fr_69 (by decide)) (fA_call (fA_call (fA_rf [] _) fa_49 (by decide)) fa_70 (by decide)) rfl rfl rfl)) (cwV 1 hts (gV kw_4_144 kw_4_146 kw_p_13 kw_1_11 kw_4_147) rfl rfl rfl (by decide +kernel) ⟨Nat.le_of_ble_eq_true rfl, Nat.le_of_ble_eq_true rfl⟩) ⟨fun a U g mk q => ⟨q.1, ⟨q.2.1.1, q.2.1.2.1, va_K.moved (u := U) (U := U.calling g mk a) (Vm.Alike.refl U.vm) q.2.1.2.2⟩, tk_mv (U := U.calling g mk a) rfl (Vm.Alike.refl U.vm) q.2.2⟩, va_recv hK hP (ci := 4) (q0 := 6) rfl rfl, fun U hU hW => ⟨rfl, ⟨by rw [hU], by rw [hU]; exact hP, va_K.moved hW.alike hK⟩, tk_pass hE hS hU hW.alike⟩⟩ rfl rfl hl.1 rfl (lv_room (Nat.le_of_ble_eq_true rfl)) dX3_readAll_34 ⟨Nat.le_of_ble_eq_true rfl, Nat.le_of_ble_eq_true rfl⟩) hS (fun q _ h9 => aX_up hS q h9) (aX_up hS) (fun r_78 u t H1 locs ht _ hw hB _ hk1 hS => ?_)
            obtain ⟨fv_85, wd_86, ar_87⟩ := u
            obtain ⟨hF_fv_85, hA_ar_87, fr_88, fa_89, wf_90, p_79, p_80, p_81, p_82, p_83, p_84, -⟩ := hw
            have wf_90 : wd_86.2 = wd_67.2 := wf_90
            have hP : va_P (dC, dI) vwCl (wsX ob ad cA fv_85 wd_86 ar_87) H1 := by have h9 := hB.1; rw [ht] at h9; exact h9
            have fr_88 : fM [14, 16, 17, 19, 20] fv_66 fv_85 := fr_88
            have fa_89 : fA [41, 42, 43] ar_68 ar_87 := fa_89
            have p_84 : eC fv_85 ar_87 := p_84
            have p_80 : ∀ r9 : List Bool, r9.length = 2 → rd_x T9 S9 0 ((fv_66 14).toInt.toNat) ((fv_66 17).toInt.toNat) r9 r_78 (fv_85 19) (fv_85 20) (fv_85 14) (fv_85 17) := p_80
            have p_81 : r_78 = 1 → fv_85 19 = fv_66 19 := p_81
            have p_82 : (fv_85 14).toInt ≤ (c9 : Int) := p_82
            have p_83 : r_78 = 1 → (fv_66 17).toInt + 1 ≤ (fv_85 17).toInt := p_83
            generalize H1 = H at hP hS ⊢
            refine lv_if_ne (tgt := 42) hx hb dX3_readAll_37 (by decide) (fun c_91 => ?_) (fun c_91 => ?_)
            · skip
              have i_92 : 1 ≤ r_78.toInt ∧ r_78.toInt ≤ 1 := iv_nel p_79 (by decide) c_91
              have k_93 : ¬ r_78.toInt = 0 := fun q => c_91 (Int32.toInt_inj.mp q)
              refine lv_aload_n hx hb dX3_readAll_42 rfl (lv_at hl 0 rfl) ?_
              refine lv_iconst (v := 4) hx hb dX3_readAll_43 (by decide) ?_
              refine lv_iconst (v := 0) hx hb dX3_readAll_44 (by decide) ?_
              refine lv_iconst (v := 0) hx hb dX3_readAll_45 (by decide) ?_
              refine va_calli (va_runV (As := [.int 4, .int 0, .int 0]) (rest := []) ⟨hx, hb, hml, hown, hts⟩ (x_addCode l dC dI H.size ob ad cA hd fv_85 wd_86 ar_87 hF_fv_85 hA_ar_87 4 0 0 (iv_w (⟨by decide, by decide⟩ : (0 : Int) ≤ (0 : Int32).toInt ∧ (0 : Int32).toInt ≤ 0) (by decide) (by decide)) p_84) (cwV 3 hts (gV kw_4_150 kw_4_152 kw_p_14 kw_1_11 kw_4_153) rfl rfl rfl (by decide +kernel) ⟨Nat.le_of_ble_eq_true rfl, Nat.le_of_ble_eq_true rfl⟩) ⟨fun a U g mk q => ⟨q.1, q.2.1, q.2.2.1, va_K.moved (u := U) (U := U.calling g mk a) (Vm.Alike.refl U.vm) q.2.2.2⟩, va_recv hK hP (ci := 4) (q0 := 6) rfl rfl, fun U hU hW => ⟨rfl, by rw [hU], by rw [hU]; exact hP, va_K.moved hW.alike hK⟩⟩ rfl rfl hl.1 rfl (lv_room (Nat.le_of_ble_eq_true rfl)) dX3_readAll_46 ⟨Nat.le_of_ble_eq_true rfl, Nat.le_of_ble_eq_true rfl⟩) hS (fun q _ h9 => aX_up hS q h9) (aX_up hS) (fun r_94 u t H1 locs ht _ hw hB _ hk1 hS => ?_)
              obtain ⟨fv_98, wd_99, ar_100⟩ := u
              obtain ⟨hF_fv_98, hA_ar_100, fr_101, fa_102, wf_103, p_95, p_96, p_97, -⟩ := hw
              have wf_103 : wd_99.2 = wd_86.2 := wf_103
              have hP : va_P (dC, dI) vwCl (wsX ob ad cA fv_98 wd_99 ar_100) H1 := by have h9 := hB.1; rw [ht] at h9; exact h9
              have fr_101 : fM [16] fv_85 fv_98 := fr_101
              have fa_102 : fA [41, 42, 43] ar_87 ar_100 := fa_102
              have p_97 : eC fv_98 ar_100 := p_97
              generalize H1 = H at hP hS ⊢
              rcases p_96 with ⟨rfl, p_96⟩
              · skip
                refine lv_pop hx hb dX3_readAll_49 rfl ?_
                obtain ⟨v_104, ev_104⟩ : ∃ z : Int32, z = x_22 + 1 := ⟨_, rfl⟩
                refine lv_iinc (v := v_104) (lv' := [(2, .int v_104), (0, .ref (ob 6)), (1, .int wi)]) hx hb dX3_readAll_50 hl (k := 2) rfl (by rw [ev_104]; rfl) (by decide) rfl (fun ls hl => ?_)
                have t_105 : v_104.toInt = x_22.toInt + 1 ∧ 1 ≤ v_104.toInt ∧ v_104.toInt ≤ 50 := iv_addc ev_104 i_40 (by decide) (by decide) (by decide)
                refine lv_goto (tgt := 12) hx hb dX3_readAll_53 (by decide) ?_
                have z_110 : (fv_98 17).toInt = (fv_85 17).toInt := congrArg Int32.toInt ((fr_101 17 rfl))
                have z_111 : 0 ≤ (fv_98 17).toInt ∧ (fv_98 17).toInt ≤ 50 := hF_fv_98 17
                have z_112 : (fv_98 14).toInt = (fv_85 14).toInt := congrArg Int32.toInt ((fr_101 14 rfl))
                have z_113 : 0 ≤ (fv_98 14).toInt ∧ (fv_98 14).toInt ≤ 300 := hF_fv_98 14
                exact ih_34 v_104 fv_98 ar_100 wd_99 _ _ ls (by omega) (iv_w t_105.2 (by decide) (by decide)) hF_fv_98 (fM_call (fM_call (fM_call (fM_call (fM_call (fM_rf [14, 16, 17, 19, 20] _) fr_24 (by decide)) fr_48 (by decide)) fr_69 (by decide)) fr_88 (by decide)) fr_101 (by decide)) hA_ar_100 (fA_call (fA_call (fA_call (fA_call (fA_call (fA_rf [41, 42, 43] _) fa_26 (by decide)) fa_49 (by decide)) fa_70 (by decide)) fa_89 (by decide)) fa_102 (by decide)) (wf_103.trans (wf_90.trans (wf_71.trans (wf_50.trans wf_28)))) p_97 (fun r9 hr hd => by have : (fv_45 14).toInt = (fv_23 14).toInt := congrArg Int32.toInt ((fM_call (fM_rf [] _) fr_48 (by decide)) 14 rfl); have : (fv_98 14).toInt = (fv_85 14).toInt := congrArg Int32.toInt ((fM_call (fM_rf [16] _) fr_101 (by decide)) 14 rfl); have : (fv_45 17).toInt = (fv_23 17).toInt := congrArg Int32.toInt ((fM_call (fM_rf [] _) fr_48 (by decide)) 17 rfl); have : (fv_66 17).toInt = (fv_45 17).toInt := congrArg Int32.toInt ((fM_call (fM_rf [14] _) fr_69 (by decide)) 17 rfl); have : (fv_98 17).toInt = (fv_85 17).toInt := congrArg Int32.toInt ((fM_call (fM_rf [16] _) fr_101 (by decide)) 17 rfl); rcases p_80 r9 hr with ⟨a, b, q, o2, c, d⟩ | ⟨a, b⟩; exact absurd (congrArg Int32.toInt a) (by rw [show (0 : Int32).toInt = 0 from (by decide)]; omega); rw [show fv_98 14 = fv_85 14 from ((fM_call (fM_rf [16] _) fr_101 (by decide)) 14 rfl), show fv_98 17 = fv_85 17 from ((fM_call (fM_rf [16] _) fr_101 (by decide)) 17 rfl)]; rw [q_30 r9 hr hd, show (fv_23 14).toInt.toNat = (fv_23 14).toInt.toNat from (by omega), rd_m1_join (by omega) (Or.inl (by rw [← zj_51]; omega)) hd, show (fv_23 14).toInt.toNat + 1 = (fv_66 14).toInt.toNat from (by omega), show (fv_23 17).toInt.toNat = (fv_66 17).toInt.toNat from (by omega)]; exact b) (by have : (fv_45 14).toInt = (fv_23 14).toInt := congrArg Int32.toInt ((fM_call (fM_rf [] _) fr_48 (by decide)) 14 rfl); have : (fv_98 14).toInt = (fv_85 14).toInt := congrArg Int32.toInt ((fM_call (fM_rf [16] _) fr_101 (by decide)) 14 rfl); have : (fv_45 17).toInt = (fv_23 17).toInt := congrArg Int32.toInt ((fM_call (fM_rf [] _) fr_48 (by decide)) 17 rfl); have : (fv_66 17).toInt = (fv_45 17).toInt := congrArg Int32.toInt ((fM_call (fM_rf [14] _) fr_69 (by decide)) 17 rfl); have : (fv_98 17).toInt = (fv_85 17).toInt := congrArg Int32.toInt ((fM_call (fM_rf [16] _) fr_101 (by decide)) 17 rfl); have hp9 := p_82; omega) ((show fv_98 19 = fv_85 19 from ((fM_call (fM_rf [16] _) fr_101 (by decide)) 19 rfl)).trans ((p_81 (Int32.toInt_inj.mp (by rw [show (1 : Int32).toInt = 1 from (by decide)]; omega))).trans (show fv_66 19 = fv 19 from (show fv_66 19 = fv_23 19 from ((fM_call (fM_call (fM_rf [14] _) fr_48 (by decide)) fr_69 (by decide)) 19 rfl)).trans q_32))) (by have : (fv_45 14).toInt = (fv_23 14).toInt := congrArg Int32.toInt ((fM_call (fM_rf [] _) fr_48 (by decide)) 14 rfl); have : (fv_98 14).toInt = (fv_85 14).toInt := congrArg Int32.toInt ((fM_call (fM_rf [16] _) fr_101 (by decide)) 14 rfl); have : (fv_45 17).toInt = (fv_23 17).toInt := congrArg Int32.toInt ((fM_call (fM_rf [] _) fr_48 (by decide)) 17 rfl); have : (fv_66 17).toInt = (fv_45 17).toInt := congrArg Int32.toInt ((fM_call (fM_rf [14] _) fr_69 (by decide)) 17 rfl); have : (fv_98 17).toInt = (fv_85 17).toInt := congrArg Int32.toInt ((fM_call (fM_rf [16] _) fr_101 (by decide)) 17 rfl); have hi9 := p_83 (Int32.toInt_inj.mp (by rw [show (1 : Int32).toInt = 1 from (by decide)]; omega)); omega) hP hS (lv_sub hl [1, 2, 0] rfl)
            · skip
              have i_107 : 0 ≤ r_78.toInt ∧ r_78.toInt ≤ 0 := iv_eq1 (⟨by decide, by decide⟩ : (0 : Int) ≤ (0 : Int32).toInt ∧ (0 : Int32).toInt ≤ 0) c_91
              refine lv_iconst (v := 0) hx hb dX3_readAll_40 (by decide) ?_
              have z_109 : (0 : Int32).toInt = 0 := by decide
              exact W.zret (v := 0) hx hb hr (by decide) (fun t ht hW => ⟨⟨0, (fv_85, wd_86, ar_87), rfl, ⟨hF_fv_85, hA_ar_87, (fM_call (fM_call (fM_call (fM_call (fM_call (fM_rf [14, 16, 17, 19, 20] _) fr_16 (by decide)) fr_24 (by decide)) fr_48 (by decide)) fr_69 (by decide)) fr_88 (by decide)), (fA_call (fA_call (fA_call (fA_call (fA_call (fA_rf [41, 42, 43] _) fa_17 (by decide)) fa_26 (by decide)) fa_49 (by decide)) fa_70 (by decide)) fa_89 (by decide)), (wf_90.trans (wf_71.trans (wf_50.trans (wf_28.trans wf_18)))), (iv_w (⟨by decide, by decide⟩ : (0 : Int) ≤ (0 : Int32).toInt ∧ (0 : Int32).toInt ≤ 0) (by decide) (by decide)), (show ∀ r9 : List Bool, r9.length = 2 → rd_dn r9 = r9 → rd_x T9 S9 0 ((fv 14).toInt.toNat) ((fv 17).toInt.toNat) r9 (0 : Int32) (fv_85 19) (fv_85 20) (fv_85 14) (fv_85 17) from fun r9 hr hd => by have : (fv_45 14).toInt = (fv_23 14).toInt := congrArg Int32.toInt ((fM_call (fM_rf [] _) fr_48 (by decide)) 14 rfl); have : (fv_45 17).toInt = (fv_23 17).toInt := congrArg Int32.toInt ((fM_call (fM_rf [] _) fr_48 (by decide)) 17 rfl); have : (fv_66 17).toInt = (fv_45 17).toInt := congrArg Int32.toInt ((fM_call (fM_rf [14] _) fr_69 (by decide)) 17 rfl); rcases p_80 r9 hr with ⟨a, b, q, o2, c, d⟩ | ⟨a, b⟩; exact Or.inl ⟨rfl, b, q, o2, (by rw [q_30 r9 hr hd, show (fv_23 14).toInt.toNat = (fv_23 14).toInt.toNat from (by omega), rd_m1_join (by omega) (Or.inl (by rw [← zj_51]; omega)) hd, show (fv_23 14).toInt.toNat + 1 = (fv_66 14).toInt.toNat from (by omega), show (fv_23 17).toInt.toNat = (fv_66 17).toInt.toNat from (by omega)]; exact c), d⟩; exact absurd (congrArg Int32.toInt a) (by rw [show (1 : Int32).toInt = 1 from (by decide)]; omega)), (show (0 : Int32) = 1 → fv_85 19 = fv 19 from fun w => absurd w (by decide)), (show (fv_85 14).toInt ≤ (c9 : Int) from by have : (fv_45 14).toInt = (fv_23 14).toInt := congrArg Int32.toInt ((fM_call (fM_rf [] _) fr_48 (by decide)) 14 rfl); have hp9 := p_82; omega), (show (0 : Int32) = 1 → (fv 17).toInt + 1 ≤ (fv_85 17).toInt from fun w => absurd w (by decide)), (show (0 : Int32) = 1 → ¬ T9 ((fv_85 14).toInt.toNat) = 24 from fun w => absurd w (by decide)), p_84, trivial⟩, ⟨by rw [ht]; exact hP, va_K.moved hW.alike hK⟩⟩, hS.F ht⟩) hS.2.2 dX3_readAll_41
    · skip
      have z_114 : (0 : Int32).toInt = 0 := by decide
      have z_115 : 0 ≤ (fv_13 17).toInt ∧ (fv_13 17).toInt ≤ 50 := hF_fv_13 17
      have z_116 : 0 ≤ (fv_13 14).toInt ∧ (fv_13 14).toInt ≤ 300 := hF_fv_13 14
      exact hj_36 51 0 fv_13 ar_15 wd_14 _ _ ls (by first | decide | omega) (iv_w (⟨by decide, by decide⟩ : (0 : Int) ≤ (0 : Int32).toInt ∧ (0 : Int32).toInt ≤ 0) (by decide) (by decide)) hF_fv_13 (fM_rf [14, 16, 17, 19, 20] _) hA_ar_15 (fA_rf [41, 42, 43] _) rfl p_12 (fun r9 hr hd => by rcases p_8 r9 hr with ⟨a, b, q, o2, c, d⟩ | ⟨a, b⟩; exact absurd (congrArg Int32.toInt a) (by rw [show (0 : Int32).toInt = 0 from (by decide)]; omega); exact b) (by have hp9 := p_10; omega) ((show fv_13 19 = fv_13 19 from rfl).trans ((p_9 (Int32.toInt_inj.mp (by rw [show (1 : Int32).toInt = 1 from (by decide)]; omega))).trans rfl)) (by have hi9 := p_11 (Int32.toInt_inj.mp (by rw [show (1 : Int32).toInt = 1 from (by decide)]; omega)); omega) hP hS (lv_sub hl [1, 2, 0] rfl)
  · skip
    have i_117 : 0 ≤ r_6.toInt ∧ r_6.toInt ≤ 0 := iv_eq1 (⟨by decide, by decide⟩ : (0 : Int) ≤ (0 : Int32).toInt ∧ (0 : Int32).toInt ≤ 0) c_19
    refine lv_iconst (v := 0) hx hb dX3_readAll_8 (by decide) ?_
    have z_119 : (0 : Int32).toInt = 0 := by decide
    exact W.zret (v := 0) hx hb hr (by decide) (fun t ht hW => ⟨⟨0, (fv_13, wd_14, ar_15), rfl, ⟨hF_fv_13, hA_ar_15, (fM_call (fM_rf [14, 16, 17, 19, 20] _) fr_16 (by decide)), (fA_call (fA_rf [41, 42, 43] _) fa_17 (by decide)), wf_18, (iv_w (⟨by decide, by decide⟩ : (0 : Int) ≤ (0 : Int32).toInt ∧ (0 : Int32).toInt ≤ 0) (by decide) (by decide)), (show ∀ r9 : List Bool, r9.length = 2 → rd_dn r9 = r9 → rd_x T9 S9 0 ((fv 14).toInt.toNat) ((fv 17).toInt.toNat) r9 (0 : Int32) (fv_13 19) (fv_13 20) (fv_13 14) (fv_13 17) from fun r9 hr hd => by rcases p_8 r9 hr with ⟨a, b, q, o2, c, d⟩ | ⟨a, b⟩; exact Or.inl ⟨rfl, b, q, o2, c, d⟩; exact absurd (congrArg Int32.toInt a) (by rw [show (1 : Int32).toInt = 1 from (by decide)]; omega)), (show (0 : Int32) = 1 → fv_13 19 = fv 19 from fun w => absurd w (by decide)), (show (fv_13 14).toInt ≤ (c9 : Int) from by have hp9 := p_10; omega), (show (0 : Int32) = 1 → (fv 17).toInt + 1 ≤ (fv_13 17).toInt from fun w => absurd w (by decide)), (show (0 : Int32) = 1 → ¬ T9 ((fv_13 14).toInt.toNat) = 24 from fun w => absurd w (by decide)), p_12, trivial⟩, ⟨by rw [ht]; exact hP, va_K.moved hW.alike hK⟩⟩, hS.F ht⟩) hS.2.2 dX3_readAll_9
set_option maxHeartbeats 4000000 in
set_option maxRecDepth 100000 in
theorem x_readCondC_2 (l : Launch) (dC : Nat → ClassId) (dI : Nat → Nat → Nat) (sz : Nat) (ob ad : Nat → Nat) (cA : Nat → ClassId) (hd : dX ob ad) (fv : Nat → Int32) (wd : xT) (ar : Nat → Nat → Int32) (hF_fv : rX fv) (hA_ar : rB ar) (tA : Nat → Nat) (hto : tO tA wd.2.1) (T9 : Nat → Nat) (S9 : Nat → Nat) (N9 : Nat → Int) (c9 : Nat) (wi : Int32) (h_wi : 2 ≤ wi.toInt ∧ wi.toInt ≤ 2) (hcx : rd_cx tA T9 S9 N9 c9 wd.2.1 (ar 36) (ar 37)) (htc : (fv 13).toInt = (c9 : Int) + 1) (hpl : (fv 14).toInt ≤ (c9 : Int)) (h300 : c9 ≤ 300) (hT32 : ∀ k, T9 k < 32) (hfin : T9 c9 = 30 ∨ T9 c9 = 31) (hp_eC : eC fv ar) : Met l yX3_readCond (.code yX3_readCond cX3_readCond 3 (some .boolean) :: lw_good) ({ frames := 29, cells := 0, slots := 0, locals := 651 }) (va_Pc [.ref (ob 6), .int wi] (fun U => prX dC dI ob ad cA fv wd ar sz U ∧ tkA ob ad tA sz U)) (va_Qi (fun (r : Int32) (u : xS) => rX u.1 ∧ rB u.2.2 ∧ fM [14, 16, 17, 19, 20] fv u.1 ∧ fA [41, 42, 43] ar u.2.2 ∧ u.2.1.2 = wd.2 ∧ (0 ≤ r.toInt ∧ r.toInt ≤ 1) ∧ (∀ r9 : List Bool, r9.length = 2 → rd_dn r9 = r9 → rd_x T9 S9 0 ((fv 14).toInt.toNat) ((fv 17).toInt.toNat) r9 r (u.1 19) (u.1 20) (u.1 14) (u.1 17)) ∧ (r = 1 → u.1 19 = fv 19) ∧ ((u.1 14).toInt ≤ (c9 : Int)) ∧ (r = 1 → (fv 17).toInt + 1 ≤ (u.1 17).toInt) ∧ (r = 1 → ¬ (T9 ((u.1 14).toInt.toNat) = 24 ∨ T9 ((u.1 14).toInt.toNat) = 25)) ∧ (eC u.1 u.2.2) ∧ True) (enX dC dI ob ad cA) (aX ob ad sz)) 0 0 (aX ob ad sz) := by
  refine Met.ofW (cc := cX3_readCond) (maxL := 3) (ret := (some .boolean)) (by decide) rfl ?_
  intro p e s m args below meth c s₁ B hml hv
  obtain ⟨rfl, ⟨hsz, hP, hK⟩, hE⟩ := hv
  have hx := B.exec
  have hb := B.bytes
  have hr := B.returns
  have hts := atoms_spec (ws := (.code yX3_readCond cX3_readCond 3 (some .boolean) :: lw_good)) B.pre
  have htg : ∀ w ∈ lw_good, w.before _ s = true := fun w hw => hts w (List.mem_cons_of_mem _ hw)
  have hown : s.vm.findClass RX3 = some m.cls := findClass_of_methodNamed B.named
  have hlocks := B.notSynchronized
  subst hsz
  have hS : va_S (aX ob ad s.heap.size) s.heap s.heap [] := va_S.rf
  have hl := lv_entry ([.ref (ob 6), .int wi]) (n := 3) (Nat.le_of_ble_eq_true rfl)
  rw [lg_entry_eq]
  generalize (lg_sl ([.ref (ob 6), .int wi]) ++ List.replicate (3 - (lg_sl ([.ref (ob 6), .int wi])).length) Slot.unset).toArray = ls at hl ⊢
  have hl : lv_has ls 3 [(0, .ref (ob 6)), (1, .int wi)] := hl
  have i_1 : 0 ≤ (fv 14).toInt ∧ (fv 14).toInt ≤ 300 := (by have h9 := hF_fv 14; have h8 : 0 ≤ (fv 14).toInt := h9.1; omega)
  refine lv_aload_n hx hb dX3_readCond_0 rfl (lv_at hl 0 rfl) ?_
  refine lv_iload_n hx hb dX3_readCond_1 rfl (lv_at hl 1 rfl) ?_
  have z_2 : 0 ≤ (fv 13).toInt ∧ (fv 13).toInt ≤ 301 := hF_fv 13
  have z_3 : 0 ≤ (fv 14).toInt ∧ (fv 14).toInt ≤ 300 := hF_fv 14
  have z_4 : 0 ≤ (fv 14).toInt ∧ (fv 14).toInt ≤ 300 := hF_fv 14
  have z_5 : 0 ≤ (fv 17).toInt ∧ (fv 17).toInt ≤ 50 := hF_fv 17
  refine va_calli (va_runV (As := [.int wi]) (rest := []) ⟨hx, hb, hml, hown, hts⟩ (x_readAllC_2 l dC dI s.heap.size ob ad cA hd fv wd ar hF_fv hA_ar tA hto T9 S9 N9 c9 wi h_wi hcx (by omega) (by omega) h300 hT32 hfin hp_eC) (cwV 1 hts (gV kw_4_140 kw_4_142 kw_p_12 kw_1_11 kw_4_143) rfl rfl rfl (by decide +kernel) ⟨Nat.le_of_ble_eq_true rfl, Nat.le_of_ble_eq_true rfl⟩) ⟨fun a U g mk q => ⟨q.1, ⟨q.2.1.1, q.2.1.2.1, va_K.moved (u := U) (U := U.calling g mk a) (Vm.Alike.refl U.vm) q.2.1.2.2⟩, tk_mv (U := U.calling g mk a) rfl (Vm.Alike.refl U.vm) q.2.2⟩, va_recv hK hP (ci := 4) (q0 := 6) rfl rfl, fun U hU hW => ⟨rfl, ⟨by rw [hU], by rw [hU]; exact hP, va_K.moved hW.alike hK⟩, tk_pass hE hS hU hW.alike⟩⟩ rfl rfl hl.1 rfl (lv_room (Nat.le_of_ble_eq_true rfl)) dX3_readCond_2 ⟨Nat.le_of_ble_eq_true rfl, Nat.le_of_ble_eq_true rfl⟩) hS (fun q _ h9 => aX_up hS q h9) (aX_up hS) (fun r_6 u t H1 locs ht _ hw hB _ hk1 hS => ?_)
  obtain ⟨fv_14, wd_15, ar_16⟩ := u
  obtain ⟨hF_fv_14, hA_ar_16, fr_17, fa_18, wf_19, p_7, p_8, p_9, p_10, p_11, p_12, p_13, -⟩ := hw
  have wf_19 : wd_15.2 = wd.2 := wf_19
  have hP : va_P (dC, dI) vwCl (wsX ob ad cA fv_14 wd_15 ar_16) H1 := by have h9 := hB.1; rw [ht] at h9; exact h9
  have fr_17 : fM [14, 16, 17, 19, 20] fv fv_14 := fr_17
  have fa_18 : fA [41, 42, 43] ar ar_16 := fa_18
  have p_13 : eC fv_14 ar_16 := p_13
  have p_8 : ∀ r9 : List Bool, r9.length = 2 → rd_dn r9 = r9 → rd_x T9 S9 0 ((fv 14).toInt.toNat) ((fv 17).toInt.toNat) r9 r_6 (fv_14 19) (fv_14 20) (fv_14 14) (fv_14 17) := p_8
  have p_9 : r_6 = 1 → fv_14 19 = fv 19 := p_9
  have p_10 : (fv_14 14).toInt ≤ (c9 : Int) := p_10
  have p_11 : r_6 = 1 → (fv 17).toInt + 1 ≤ (fv_14 17).toInt := p_11
  have p_12 : r_6 = 1 → ¬ T9 ((fv_14 14).toInt.toNat) = 24 := p_12
  generalize H1 = H at hP hS ⊢
  refine lv_if_ne (tgt := 10) hx hb dX3_readCond_5 (by decide) (fun c_20 => ?_) (fun c_20 => ?_)
  · skip
    have i_21 : 1 ≤ r_6.toInt ∧ r_6.toInt ≤ 1 := iv_nel p_7 (by decide) c_20
    have k_22 : ¬ r_6.toInt = 0 := fun q => c_20 (Int32.toInt_inj.mp q)
    refine lv_iconst (v := 0) hx hb dX3_readCond_10 (by decide) ?_
    refine lv_istore_n (lv' := [(2, .int 0), (0, .ref (ob 6)), (1, .int wi)]) hx hb dX3_readCond_11 rfl hl (by decide) rfl (fun ls hl => ?_)
    refine my_cut (P := fun R9 a9 Q9 => ∀ (n_36 : Nat) (x_23 : Int32) (fv_24 : Nat → Int32) (ar_26 : Nat → Nat → Int32) (wd_28 : xT) (H : Heap) (locs : List Loc) (ls : Array Slot), 50 - x_23.toInt < (n_36 : Int) → (0 ≤ x_23.toInt ∧ x_23.toInt ≤ 50) → rX fv_24 → fM [14, 16, 17, 19, 20] fv_14 fv_24 → rB ar_26 → fA [41, 42, 43] ar_16 ar_26 → wd_28.2 = wd_15.2 → eC fv_24 ar_26 → (∀ r9 : List Bool, r9.length = 2 → rd_dn r9 = r9 → rd_m T9 0 ((fv 14).toInt.toNat) ((fv 17).toInt.toNat) r9 = rd_m T9 1 ((fv_24 14).toInt.toNat) ((fv_24 17).toInt.toNat) r9) → ((fv_24 14).toInt ≤ (c9 : Int)) → (fv_24 19 = fv 19) → (x_23.toInt + (fv 17).toInt + 1 ≤ (fv_24 17).toInt) → (¬ T9 ((fv_24 14).toInt.toNat) = 24) → va_P (dC, dI) vwCl (wsX ob ad cA fv_24 wd_28 ar_26) H → va_S (aX ob ad s.heap.size) s.heap H locs → lv_has ls 3 [(0, .ref (ob 6)), (1, .int wi), (2, .int x_23)] → W p l e R9 s m a9 below meth c H locs 0 0 Q9 (F0 m 12 ls [])) ?_ (fun hj_38 => ?_)
    · intro n_36
      induction n_36 with
      | zero => intro x_23 fv_24 ar_26 wd_28 H locs ls fu_37 i_x_23 hF_fv_24 fr_25 hA_ar_26 fa_27 wf_29 hp_30 q_31 q_32 q_33 q_34 q_35; exfalso; omega
      | succ n_36 ih_36 =>
        intro x_23 fv_24 ar_26 wd_28 H locs ls fu_37 i_x_23 hF_fv_24 fr_25 hA_ar_26 fa_27 wf_29 hp_30 q_31 q_32 q_33 q_34 q_35 hP hS hl
        refine lv_iload_n hx hb dX3_readCond_12 rfl (lv_at hl 2 rfl) ?_
        refine lv_bipush (v := 50) hx hb dX3_readCond_13 (by decide) ?_
        have z_39 : 0 ≤ (fv_24 17).toInt ∧ (fv_24 17).toInt ≤ 50 := hF_fv_24 17
        have z_40 : 0 ≤ (fv_24 14).toInt ∧ (fv_24 14).toInt ≤ 300 := hF_fv_24 14
        have z50 : (50 : Int32).toInt = 50 := by decide
        refine lv_icmp_ge (tgt := 56) hx hb dX3_readCond_15 (by decide) (fun c_41 => ?_) (fun c_41 => ?_)
        · skip
          exact absurd True.intro (by have h9 := Int32.le_iff_toInt_le.mp c_41; exfalso; omega)
        · skip
          have i_42 : 0 ≤ x_23.toInt ∧ x_23.toInt ≤ 49 := iv_lt1 i_x_23 (⟨by decide, by decide⟩ : (50 : Int) ≤ (50 : Int32).toInt ∧ (50 : Int32).toInt ≤ 50) (Int32.not_le.mp c_41)
          refine lv_aload_n hx hb dX3_readCond_18 rfl (lv_at hl 0 rfl) ?_
          have z_43 : (fv_24 13).toInt = (fv 13).toInt := congrArg Int32.toInt ((fr_25 13 rfl).trans ((fr_17 13 rfl)))
          have z_44 : 0 ≤ (fv_24 13).toInt ∧ (fv_24 13).toInt ≤ 301 := hF_fv_24 13
          have z_45 : 0 ≤ (fv_24 14).toInt ∧ (fv_24 14).toInt ≤ 300 := hF_fv_24 14
          refine va_callr (va_runV (As := []) (rest := []) ⟨hx, hb, hml, hown, hts⟩ (x_tokenC l dC dI H.size ob ad cA hd fv_24 wd_28 ar_26 hF_fv_24 hA_ar_26 tA (tO_w hto (wf_29.trans wf_19)) T9 S9 N9 c9 (rd_cx_eq hcx (congrArg (fun z => z.1) (wf_29.trans wf_19)) ((fA_call (fA_call (fA_rf [41, 42, 43] _) fa_18 (by decide)) fa_27 (by decide)) 36 rfl) ((fA_call (fA_call (fA_rf [41, 42, 43] _) fa_18 (by decide)) fa_27 (by decide)) 37 rfl)) (by omega) (by omega) h300 hT32 hfin) (cwV 0 hts (gV kw_4_102 kw_4_104 kw_p_4 kw_1_11 kw_4_105) rfl rfl rfl (by decide +kernel) ⟨Nat.le_of_ble_eq_true rfl, Nat.le_of_ble_eq_true rfl⟩) ⟨fun a U g mk q => ⟨q.1, ⟨q.2.1.1, q.2.1.2.1, va_K.moved (u := U) (U := U.calling g mk a) (Vm.Alike.refl U.vm) q.2.1.2.2⟩, tk_mv (U := U.calling g mk a) rfl (Vm.Alike.refl U.vm) q.2.2⟩, va_recv hK hP (ci := 4) (q0 := 6) rfl rfl, fun U hU hW => ⟨rfl, ⟨by rw [hU], by rw [hU]; exact hP, va_K.moved hW.alike hK⟩, tk_pass hE hS hU hW.alike⟩⟩ rfl rfl hl.1 rfl (lv_room (Nat.le_of_ble_eq_true rfl)) dX3_readCond_19 ⟨Nat.le_of_ble_eq_true rfl, Nat.le_of_ble_eq_true rfl⟩) hS (fun q _ h9 => aX_up hS q h9) (aX_up hS) (fun u r_46 t H1 locs ht _ hw hB _ hk1 hS => ?_)
          obtain ⟨fv_47, wd_48, ar_49⟩ := u
          obtain ⟨hF_fv_47, hA_ar_49, fr_50, fa_51, wf_52, -⟩ := hw
          have wf_52 : wd_48.2 = wd_28.2 := wf_52
          have hP : va_P (dC, dI) vwCl (wsX ob ad cA fv_47 wd_48 ar_49) H1 := by have h9 := hB.1.1; rw [ht] at h9; exact h9
          have fr_50 : fM [] fv_24 fv_47 := fr_50
          have fa_51 : fA [] ar_26 ar_49 := fa_51
          generalize H1 = H at hP hS ⊢
          obtain ⟨j_53, lj_53, rj_53, zj_53⟩ := hB.2
          subst rj_53
          refine va_gets hx hb (hE.1 25 (by decide)).1 hS hown (htg (.fieldLink RX3 196 "WalkingTown$Token" "OR" "LWalkingTown$Token;") kw_4_162) (fun _ h9 => h9) dX3_readCond_22 ?_
          refine lv_acmp_ne (rx := some (tA j_53)) (ry := some (tA 25)) (tgt := 56) hx hb dX3_readCond_25 (by decide) (fun c_54 => ?_) (fun c_54 => ?_)
          · skip
            have k_55 : ¬ j_53 = 25 := fun w => c_54 (by rw [w])
            refine lv_iconst (v := 1) hx hb dX3_readCond_56 (by decide) ?_
            have z_56 : (1 : Int32).toInt = 1 := by decide
            exact W.zret (v := 1) hx hb hr (by decide) (fun t ht hW => ⟨⟨1, (fv_47, wd_48, ar_49), rfl, ⟨hF_fv_47, hA_ar_49, (fM_call (fM_call (fM_call (fM_rf [14, 16, 17, 19, 20] _) fr_17 (by decide)) fr_25 (by decide)) fr_50 (by decide)), (fA_call (fA_call (fA_call (fA_rf [41, 42, 43] _) fa_18 (by decide)) fa_27 (by decide)) fa_51 (by decide)), (wf_52.trans (wf_29.trans wf_19)), (iv_w (⟨by decide, by decide⟩ : (1 : Int) ≤ (1 : Int32).toInt ∧ (1 : Int32).toInt ≤ 1) (by decide) (by decide)), (show ∀ r9 : List Bool, r9.length = 2 → rd_dn r9 = r9 → rd_x T9 S9 0 ((fv 14).toInt.toNat) ((fv 17).toInt.toNat) r9 (1 : Int32) (fv_47 19) (fv_47 20) (fv_47 14) (fv_47 17) from fun r9 hr hd => by have : (fv_47 14).toInt = (fv_24 14).toInt := congrArg Int32.toInt ((fM_call (fM_rf [] _) fr_50 (by decide)) 14 rfl); have : (fv_47 17).toInt = (fv_24 17).toInt := congrArg Int32.toInt ((fM_call (fM_rf [] _) fr_50 (by decide)) 17 rfl); exact rd_xO (by rw [show fv_47 14 = fv_24 14 from ((fM_call (fM_rf [] _) fr_50 (by decide)) 14 rfl), show fv_47 17 = fv_24 17 from ((fM_call (fM_rf [] _) fr_50 (by decide)) 17 rfl)]; exact q_31 r9 hr hd)), (show (1 : Int32) = 1 → fv_47 19 = fv 19 from fun _ => (show fv_47 19 = fv_24 19 from ((fM_call (fM_rf [] _) fr_50 (by decide)) 19 rfl)).trans q_33), (show (fv_47 14).toInt ≤ (c9 : Int) from by have : (fv_47 14).toInt = (fv_24 14).toInt := congrArg Int32.toInt ((fM_call (fM_rf [] _) fr_50 (by decide)) 14 rfl); have hp9 := p_10; omega), (show (1 : Int32) = 1 → (fv 17).toInt + 1 ≤ (fv_47 17).toInt from fun _ => by have : (fv_47 17).toInt = (fv_24 17).toInt := congrArg Int32.toInt ((fM_call (fM_rf [] _) fr_50 (by decide)) 17 rfl); omega), (show (1 : Int32) = 1 → ¬ (T9 ((fv_47 14).toInt.toNat) = 24 ∨ T9 ((fv_47 14).toInt.toNat) = 25) from fun _ => by have : (fv_47 14).toInt = (fv_24 14).toInt := congrArg Int32.toInt ((fM_call (fM_rf [] _) fr_50 (by decide)) 14 rfl); have hq9 : ¬ T9 ((fv_47 14).toInt.toNat) = 24 := (by rw [show (fv_47 14).toInt.toNat = (fv_24 14).toInt.toNat from (by omega)]; exact q_35); have hz9 : ¬ T9 ((fv_47 14).toInt.toNat) = 25 := (by rw [show (fv_47 14).toInt.toNat = (fv_24 14).toInt.toNat from (by omega), ← zj_53]; omega); omega), (eC_fr hp_30 (fM_call (fM_rf [] _) fr_50 (by decide)) (fA_call (fA_rf [] _) fa_51 (by decide)) rfl rfl rfl), trivial⟩, ⟨by rw [ht]; exact hP, va_K.moved hW.alike hK⟩⟩, hS.F ht⟩) hS.2.2 dX3_readCond_57
          · skip
            have k_57 : j_53 = 25 := hE.2 j_53 25 lj_53 (by decide) (Option.some.inj c_54)
            refine lv_aload_n hx hb dX3_readCond_28 rfl (lv_at hl 0 rfl) ?_
            have z_58 : (fv_47 13).toInt = (fv 13).toInt := congrArg Int32.toInt ((fr_50 13 rfl).trans ((fr_25 13 rfl).trans ((fr_17 13 rfl))))
            have z_59 : 0 ≤ (fv_47 13).toInt ∧ (fv_47 13).toInt ≤ 301 := hF_fv_47 13
            have z_60 : (fv_47 14).toInt = (fv_24 14).toInt := congrArg Int32.toInt ((fr_50 14 rfl))
            have z_61 : 0 ≤ (fv_47 14).toInt ∧ (fv_47 14).toInt ≤ 300 := hF_fv_47 14
            have z_62 : (fv_47 13).toInt = (fv 13).toInt := congrArg Int32.toInt ((fr_50 13 rfl).trans ((fr_25 13 rfl).trans ((fr_17 13 rfl))))
            have z_63 : 0 ≤ (fv_47 13).toInt ∧ (fv_47 13).toInt ≤ 301 := hF_fv_47 13
            have z_64 : (fv_47 14).toInt = (fv_24 14).toInt := congrArg Int32.toInt ((fr_50 14 rfl))
            have z_65 : 0 ≤ (fv_47 14).toInt ∧ (fv_47 14).toInt ≤ 300 := hF_fv_47 14
            refine va_callv (va_runV (As := []) (rest := []) ⟨hx, hb, hml, hown, hts⟩ (x_stepC l dC dI H.size ob ad cA hd fv_47 wd_48 ar_49 hF_fv_47 hA_ar_49 (by have h9 := rd_lt hfin (p := (fv_24 14).toInt.toNat) (by omega) (by rw [← zj_53]; omega); omega)) (cwV 0 hts (gV kw_4_116 kw_4_118 kw_p_7 kw_1_11 kw_4_119) rfl rfl rfl (by decide +kernel) ⟨Nat.le_of_ble_eq_true rfl, Nat.le_of_ble_eq_true rfl⟩) ⟨fun a U g mk q => ⟨q.1, q.2.1, q.2.2.1, va_K.moved (u := U) (U := U.calling g mk a) (Vm.Alike.refl U.vm) q.2.2.2⟩, va_recv hK hP (ci := 4) (q0 := 6) rfl rfl, fun U hU hW => ⟨rfl, by rw [hU], by rw [hU]; exact hP, va_K.moved hW.alike hK⟩⟩ rfl rfl hl.1 rfl (lv_room (Nat.le_of_ble_eq_true rfl)) dX3_readCond_29 ⟨Nat.le_of_ble_eq_true rfl, Nat.le_of_ble_eq_true rfl⟩) hS (fun q _ h9 => aX_up hS q h9) (aX_up hS) (fun u t H1 locs ht _ hw hB _ hk1 hS => ?_)
            obtain ⟨fv_68, wd_69, ar_70⟩ := u
            obtain ⟨hF_fv_68, hA_ar_70, fr_71, fa_72, wf_73, p_67, -⟩ := hw
            have wf_73 : wd_69.2 = wd_48.2 := wf_73
            have hP : va_P (dC, dI) vwCl (wsX ob ad cA fv_68 wd_69 ar_70) H1 := by have h9 := hB.1; rw [ht] at h9; exact h9
            have fr_71 : fM [14] fv_47 fv_68 := fr_71
            have fa_72 : fA [] ar_49 ar_70 := fa_72
            have p_67 : (fv_68 14).toInt = (fv_47 14).toInt + 1 ∧ (fv_68 14).toInt ≤ (fv_47 13).toInt - 1 := p_67
            generalize H1 = H at hP hS ⊢
            refine lv_aload_n hx hb dX3_readCond_32 rfl (lv_at hl 0 rfl) ?_
            refine lv_iload_n hx hb dX3_readCond_33 rfl (lv_at hl 1 rfl) ?_
            have z_74 : (fv_68 13).toInt = (fv 13).toInt := congrArg Int32.toInt ((fr_71 13 rfl).trans ((fr_50 13 rfl).trans ((fr_25 13 rfl).trans ((fr_17 13 rfl)))))
            have z_75 : 0 ≤ (fv_68 13).toInt ∧ (fv_68 13).toInt ≤ 301 := hF_fv_68 13
            have z_76 : 0 ≤ (fv_68 14).toInt ∧ (fv_68 14).toInt ≤ 300 := hF_fv_68 14
            have z_77 : 0 ≤ (fv_68 14).toInt ∧ (fv_68 14).toInt ≤ 300 := hF_fv_68 14
            have z_78 : (fv_68 17).toInt = (fv_24 17).toInt := congrArg Int32.toInt ((fr_71 17 rfl).trans ((fr_50 17 rfl)))
            have z_79 : 0 ≤ (fv_68 17).toInt ∧ (fv_68 17).toInt ≤ 50 := hF_fv_68 17
            refine va_calli (va_runV (As := [.int wi]) (rest := []) ⟨hx, hb, hml, hown, hts⟩ (x_readAllC_2 l dC dI H.size ob ad cA hd fv_68 wd_69 ar_70 hF_fv_68 hA_ar_70 tA (tO_w hto (wf_73.trans (wf_52.trans (wf_29.trans wf_19)))) T9 S9 N9 c9 wi h_wi (rd_cx_eq hcx (congrArg (fun z => z.1) (wf_73.trans (wf_52.trans (wf_29.trans wf_19)))) ((fA_call (fA_call (fA_call (fA_call (fA_rf [41, 42, 43] _) fa_18 (by decide)) fa_27 (by decide)) fa_51 (by decide)) fa_72 (by decide)) 36 rfl) ((fA_call (fA_call (fA_call (fA_call (fA_rf [41, 42, 43] _) fa_18 (by decide)) fa_27 (by decide)) fa_51 (by decide)) fa_72 (by decide)) 37 rfl)) (by omega) (by omega) h300 hT32 hfin (eC_fr hp_30 (fM_call (fM_call (fM_rf [14] _) fr_50 (by decide)) fr_71 (by decide)) (fA_call (fA_call (fA_rf [] _) fa_51 (by decide)) fa_72 (by decide)) rfl rfl rfl)) (cwV 1 hts (gV kw_4_140 kw_4_142 kw_p_12 kw_1_11 kw_4_143) rfl rfl rfl (by decide +kernel) ⟨Nat.le_of_ble_eq_true rfl, Nat.le_of_ble_eq_true rfl⟩) ⟨fun a U g mk q => ⟨q.1, ⟨q.2.1.1, q.2.1.2.1, va_K.moved (u := U) (U := U.calling g mk a) (Vm.Alike.refl U.vm) q.2.1.2.2⟩, tk_mv (U := U.calling g mk a) rfl (Vm.Alike.refl U.vm) q.2.2⟩, va_recv hK hP (ci := 4) (q0 := 6) rfl rfl, fun U hU hW => ⟨rfl, ⟨by rw [hU], by rw [hU]; exact hP, va_K.moved hW.alike hK⟩, tk_pass hE hS hU hW.alike⟩⟩ rfl rfl hl.1 rfl (lv_room (Nat.le_of_ble_eq_true rfl)) dX3_readCond_34 ⟨Nat.le_of_ble_eq_true rfl, Nat.le_of_ble_eq_true rfl⟩) hS (fun q _ h9 => aX_up hS q h9) (aX_up hS) (fun r_80 u t H1 locs ht _ hw hB _ hk1 hS => ?_)
            obtain ⟨fv_88, wd_89, ar_90⟩ := u
            obtain ⟨hF_fv_88, hA_ar_90, fr_91, fa_92, wf_93, p_81, p_82, p_83, p_84, p_85, p_86, p_87, -⟩ := hw
            have wf_93 : wd_89.2 = wd_69.2 := wf_93
            have hP : va_P (dC, dI) vwCl (wsX ob ad cA fv_88 wd_89 ar_90) H1 := by have h9 := hB.1; rw [ht] at h9; exact h9
            have fr_91 : fM [14, 16, 17, 19, 20] fv_68 fv_88 := fr_91
            have fa_92 : fA [41, 42, 43] ar_70 ar_90 := fa_92
            have p_87 : eC fv_88 ar_90 := p_87
            have p_82 : ∀ r9 : List Bool, r9.length = 2 → rd_dn r9 = r9 → rd_x T9 S9 0 ((fv_68 14).toInt.toNat) ((fv_68 17).toInt.toNat) r9 r_80 (fv_88 19) (fv_88 20) (fv_88 14) (fv_88 17) := p_82
            have p_83 : r_80 = 1 → fv_88 19 = fv_68 19 := p_83
            have p_84 : (fv_88 14).toInt ≤ (c9 : Int) := p_84
            have p_85 : r_80 = 1 → (fv_68 17).toInt + 1 ≤ (fv_88 17).toInt := p_85
            have p_86 : r_80 = 1 → ¬ T9 ((fv_88 14).toInt.toNat) = 24 := p_86
            generalize H1 = H at hP hS ⊢
            refine lv_if_ne (tgt := 42) hx hb dX3_readCond_37 (by decide) (fun c_94 => ?_) (fun c_94 => ?_)
            · skip
              have i_95 : 1 ≤ r_80.toInt ∧ r_80.toInt ≤ 1 := iv_nel p_81 (by decide) c_94
              have k_96 : ¬ r_80.toInt = 0 := fun q => c_94 (Int32.toInt_inj.mp q)
              refine lv_aload_n hx hb dX3_readCond_42 rfl (lv_at hl 0 rfl) ?_
              refine lv_iconst (v := 5) hx hb dX3_readCond_43 (by decide) ?_
              refine lv_iconst (v := 0) hx hb dX3_readCond_44 (by decide) ?_
              refine lv_iconst (v := 0) hx hb dX3_readCond_45 (by decide) ?_
              refine va_calli (va_runV (As := [.int 5, .int 0, .int 0]) (rest := []) ⟨hx, hb, hml, hown, hts⟩ (x_addCode l dC dI H.size ob ad cA hd fv_88 wd_89 ar_90 hF_fv_88 hA_ar_90 5 0 0 (iv_w (⟨by decide, by decide⟩ : (0 : Int) ≤ (0 : Int32).toInt ∧ (0 : Int32).toInt ≤ 0) (by decide) (by decide)) p_87) (cwV 3 hts (gV kw_4_150 kw_4_152 kw_p_14 kw_1_11 kw_4_153) rfl rfl rfl (by decide +kernel) ⟨Nat.le_of_ble_eq_true rfl, Nat.le_of_ble_eq_true rfl⟩) ⟨fun a U g mk q => ⟨q.1, q.2.1, q.2.2.1, va_K.moved (u := U) (U := U.calling g mk a) (Vm.Alike.refl U.vm) q.2.2.2⟩, va_recv hK hP (ci := 4) (q0 := 6) rfl rfl, fun U hU hW => ⟨rfl, by rw [hU], by rw [hU]; exact hP, va_K.moved hW.alike hK⟩⟩ rfl rfl hl.1 rfl (lv_room (Nat.le_of_ble_eq_true rfl)) dX3_readCond_46 ⟨Nat.le_of_ble_eq_true rfl, Nat.le_of_ble_eq_true rfl⟩) hS (fun q _ h9 => aX_up hS q h9) (aX_up hS) (fun r_97 u t H1 locs ht _ hw hB _ hk1 hS => ?_)
              obtain ⟨fv_101, wd_102, ar_103⟩ := u
              obtain ⟨hF_fv_101, hA_ar_103, fr_104, fa_105, wf_106, p_98, p_99, p_100, -⟩ := hw
              have wf_106 : wd_102.2 = wd_89.2 := wf_106
              have hP : va_P (dC, dI) vwCl (wsX ob ad cA fv_101 wd_102 ar_103) H1 := by have h9 := hB.1; rw [ht] at h9; exact h9
              have fr_104 : fM [16] fv_88 fv_101 := fr_104
              have fa_105 : fA [41, 42, 43] ar_90 ar_103 := fa_105
              have p_100 : eC fv_101 ar_103 := p_100
              generalize H1 = H at hP hS ⊢
              rcases p_99 with ⟨rfl, p_99⟩
              · skip
                refine lv_pop hx hb dX3_readCond_49 rfl ?_
                obtain ⟨v_107, ev_107⟩ : ∃ z : Int32, z = x_23 + 1 := ⟨_, rfl⟩
                refine lv_iinc (v := v_107) (lv' := [(2, .int v_107), (0, .ref (ob 6)), (1, .int wi)]) hx hb dX3_readCond_50 hl (k := 2) rfl (by rw [ev_107]; rfl) (by decide) rfl (fun ls hl => ?_)
                have t_108 : v_107.toInt = x_23.toInt + 1 ∧ 1 ≤ v_107.toInt ∧ v_107.toInt ≤ 50 := iv_addc ev_107 i_42 (by decide) (by decide) (by decide)
                refine lv_goto (tgt := 12) hx hb dX3_readCond_53 (by decide) ?_
                have z_113 : (fv_101 17).toInt = (fv_88 17).toInt := congrArg Int32.toInt ((fr_104 17 rfl))
                have z_114 : 0 ≤ (fv_101 17).toInt ∧ (fv_101 17).toInt ≤ 50 := hF_fv_101 17
                have z_115 : (fv_101 14).toInt = (fv_88 14).toInt := congrArg Int32.toInt ((fr_104 14 rfl))
                have z_116 : 0 ≤ (fv_101 14).toInt ∧ (fv_101 14).toInt ≤ 300 := hF_fv_101 14
                exact ih_36 v_107 fv_101 ar_103 wd_102 _ _ ls (by omega) (iv_w t_108.2 (by decide) (by decide)) hF_fv_101 (fM_call (fM_call (fM_call (fM_call (fM_call (fM_rf [14, 16, 17, 19, 20] _) fr_25 (by decide)) fr_50 (by decide)) fr_71 (by decide)) fr_91 (by decide)) fr_104 (by decide)) hA_ar_103 (fA_call (fA_call (fA_call (fA_call (fA_call (fA_rf [41, 42, 43] _) fa_27 (by decide)) fa_51 (by decide)) fa_72 (by decide)) fa_92 (by decide)) fa_105 (by decide)) (wf_106.trans (wf_93.trans (wf_73.trans (wf_52.trans wf_29)))) p_100 (fun r9 hr hd => by have : (fv_47 14).toInt = (fv_24 14).toInt := congrArg Int32.toInt ((fM_call (fM_rf [] _) fr_50 (by decide)) 14 rfl); have : (fv_101 14).toInt = (fv_88 14).toInt := congrArg Int32.toInt ((fM_call (fM_rf [16] _) fr_104 (by decide)) 14 rfl); have : (fv_47 17).toInt = (fv_24 17).toInt := congrArg Int32.toInt ((fM_call (fM_rf [] _) fr_50 (by decide)) 17 rfl); have : (fv_68 17).toInt = (fv_47 17).toInt := congrArg Int32.toInt ((fM_call (fM_rf [14] _) fr_71 (by decide)) 17 rfl); have : (fv_101 17).toInt = (fv_88 17).toInt := congrArg Int32.toInt ((fM_call (fM_rf [16] _) fr_104 (by decide)) 17 rfl); rcases p_82 r9 hr hd with ⟨a, b, q, o2, c, d⟩ | ⟨a, b⟩; exact absurd (congrArg Int32.toInt a) (by rw [show (0 : Int32).toInt = 0 from (by decide)]; omega); rw [show fv_101 14 = fv_88 14 from ((fM_call (fM_rf [16] _) fr_104 (by decide)) 14 rfl), show fv_101 17 = fv_88 17 from ((fM_call (fM_rf [16] _) fr_104 (by decide)) 17 rfl)]; rw [q_31 r9 hr hd, show (fv_24 14).toInt.toNat = (fv_24 14).toInt.toNat from (by omega), rd_m1_join (by omega) (Or.inr (by rw [← zj_53]; omega)) hd, show (fv_24 14).toInt.toNat + 1 = (fv_68 14).toInt.toNat from (by omega), show (fv_24 17).toInt.toNat = (fv_68 17).toInt.toNat from (by omega)]; exact b) (by have : (fv_47 14).toInt = (fv_24 14).toInt := congrArg Int32.toInt ((fM_call (fM_rf [] _) fr_50 (by decide)) 14 rfl); have : (fv_101 14).toInt = (fv_88 14).toInt := congrArg Int32.toInt ((fM_call (fM_rf [16] _) fr_104 (by decide)) 14 rfl); have : (fv_47 17).toInt = (fv_24 17).toInt := congrArg Int32.toInt ((fM_call (fM_rf [] _) fr_50 (by decide)) 17 rfl); have : (fv_68 17).toInt = (fv_47 17).toInt := congrArg Int32.toInt ((fM_call (fM_rf [14] _) fr_71 (by decide)) 17 rfl); have : (fv_101 17).toInt = (fv_88 17).toInt := congrArg Int32.toInt ((fM_call (fM_rf [16] _) fr_104 (by decide)) 17 rfl); have hp9 := p_84; omega) ((show fv_101 19 = fv_88 19 from ((fM_call (fM_rf [16] _) fr_104 (by decide)) 19 rfl)).trans ((p_83 (Int32.toInt_inj.mp (by rw [show (1 : Int32).toInt = 1 from (by decide)]; omega))).trans (show fv_68 19 = fv 19 from (show fv_68 19 = fv_24 19 from ((fM_call (fM_call (fM_rf [14] _) fr_50 (by decide)) fr_71 (by decide)) 19 rfl)).trans q_33))) (by have : (fv_47 14).toInt = (fv_24 14).toInt := congrArg Int32.toInt ((fM_call (fM_rf [] _) fr_50 (by decide)) 14 rfl); have : (fv_101 14).toInt = (fv_88 14).toInt := congrArg Int32.toInt ((fM_call (fM_rf [16] _) fr_104 (by decide)) 14 rfl); have : (fv_47 17).toInt = (fv_24 17).toInt := congrArg Int32.toInt ((fM_call (fM_rf [] _) fr_50 (by decide)) 17 rfl); have : (fv_68 17).toInt = (fv_47 17).toInt := congrArg Int32.toInt ((fM_call (fM_rf [14] _) fr_71 (by decide)) 17 rfl); have : (fv_101 17).toInt = (fv_88 17).toInt := congrArg Int32.toInt ((fM_call (fM_rf [16] _) fr_104 (by decide)) 17 rfl); have hi9 := p_85 (Int32.toInt_inj.mp (by rw [show (1 : Int32).toInt = 1 from (by decide)]; omega)); omega) (by have : (fv_47 14).toInt = (fv_24 14).toInt := congrArg Int32.toInt ((fM_call (fM_rf [] _) fr_50 (by decide)) 14 rfl); have : (fv_101 14).toInt = (fv_88 14).toInt := congrArg Int32.toInt ((fM_call (fM_rf [16] _) fr_104 (by decide)) 14 rfl); have : (fv_47 17).toInt = (fv_24 17).toInt := congrArg Int32.toInt ((fM_call (fM_rf [] _) fr_50 (by decide)) 17 rfl); have : (fv_68 17).toInt = (fv_47 17).toInt := congrArg Int32.toInt ((fM_call (fM_rf [14] _) fr_71 (by decide)) 17 rfl); have : (fv_101 17).toInt = (fv_88 17).toInt := congrArg Int32.toInt ((fM_call (fM_rf [16] _) fr_104 (by decide)) 17 rfl); rw [show (fv_101 14).toInt.toNat = (fv_88 14).toInt.toNat from (by omega)]; exact p_86 (Int32.toInt_inj.mp (by rw [show (1 : Int32).toInt = 1 from (by decide)]; omega))) hP hS (lv_sub hl [1, 2, 0] rfl)
            · skip
              have i_110 : 0 ≤ r_80.toInt ∧ r_80.toInt ≤ 0 := iv_eq1 (⟨by decide, by decide⟩ : (0 : Int) ≤ (0 : Int32).toInt ∧ (0 : Int32).toInt ≤ 0) c_94
              refine lv_iconst (v := 0) hx hb dX3_readCond_40 (by decide) ?_
              have z_112 : (0 : Int32).toInt = 0 := by decide
              exact W.zret (v := 0) hx hb hr (by decide) (fun t ht hW => ⟨⟨0, (fv_88, wd_89, ar_90), rfl, ⟨hF_fv_88, hA_ar_90, (fM_call (fM_call (fM_call (fM_call (fM_call (fM_rf [14, 16, 17, 19, 20] _) fr_17 (by decide)) fr_25 (by decide)) fr_50 (by decide)) fr_71 (by decide)) fr_91 (by decide)), (fA_call (fA_call (fA_call (fA_call (fA_call (fA_rf [41, 42, 43] _) fa_18 (by decide)) fa_27 (by decide)) fa_51 (by decide)) fa_72 (by decide)) fa_92 (by decide)), (wf_93.trans (wf_73.trans (wf_52.trans (wf_29.trans wf_19)))), (iv_w (⟨by decide, by decide⟩ : (0 : Int) ≤ (0 : Int32).toInt ∧ (0 : Int32).toInt ≤ 0) (by decide) (by decide)), (show ∀ r9 : List Bool, r9.length = 2 → rd_dn r9 = r9 → rd_x T9 S9 0 ((fv 14).toInt.toNat) ((fv 17).toInt.toNat) r9 (0 : Int32) (fv_88 19) (fv_88 20) (fv_88 14) (fv_88 17) from fun r9 hr hd => by have : (fv_47 14).toInt = (fv_24 14).toInt := congrArg Int32.toInt ((fM_call (fM_rf [] _) fr_50 (by decide)) 14 rfl); have : (fv_47 17).toInt = (fv_24 17).toInt := congrArg Int32.toInt ((fM_call (fM_rf [] _) fr_50 (by decide)) 17 rfl); have : (fv_68 17).toInt = (fv_47 17).toInt := congrArg Int32.toInt ((fM_call (fM_rf [14] _) fr_71 (by decide)) 17 rfl); rcases p_82 r9 hr hd with ⟨a, b, q, o2, c, d⟩ | ⟨a, b⟩; exact Or.inl ⟨rfl, b, q, o2, (by rw [q_31 r9 hr hd, show (fv_24 14).toInt.toNat = (fv_24 14).toInt.toNat from (by omega), rd_m1_join (by omega) (Or.inr (by rw [← zj_53]; omega)) hd, show (fv_24 14).toInt.toNat + 1 = (fv_68 14).toInt.toNat from (by omega), show (fv_24 17).toInt.toNat = (fv_68 17).toInt.toNat from (by omega)]; exact c), d⟩; exact absurd (congrArg Int32.toInt a) (by rw [show (1 : Int32).toInt = 1 from (by decide)]; omega)), (show (0 : Int32) = 1 → fv_88 19 = fv 19 from fun w => absurd w (by decide)), (show (fv_88 14).toInt ≤ (c9 : Int) from by have : (fv_47 14).toInt = (fv_24 14).toInt := congrArg Int32.toInt ((fM_call (fM_rf [] _) fr_50 (by decide)) 14 rfl); have hp9 := p_84; omega), (show (0 : Int32) = 1 → (fv 17).toInt + 1 ≤ (fv_88 17).toInt from fun w => absurd w (by decide)), (show (0 : Int32) = 1 → ¬ (T9 ((fv_88 14).toInt.toNat) = 24 ∨ T9 ((fv_88 14).toInt.toNat) = 25) from fun w => absurd w (by decide)), p_87, trivial⟩, ⟨by rw [ht]; exact hP, va_K.moved hW.alike hK⟩⟩, hS.F ht⟩) hS.2.2 dX3_readCond_41
    · skip
      have z_117 : (0 : Int32).toInt = 0 := by decide
      have z_118 : 0 ≤ (fv_14 17).toInt ∧ (fv_14 17).toInt ≤ 50 := hF_fv_14 17
      have z_119 : 0 ≤ (fv_14 14).toInt ∧ (fv_14 14).toInt ≤ 300 := hF_fv_14 14
      exact hj_38 51 0 fv_14 ar_16 wd_15 _ _ ls (by first | decide | omega) (iv_w (⟨by decide, by decide⟩ : (0 : Int) ≤ (0 : Int32).toInt ∧ (0 : Int32).toInt ≤ 0) (by decide) (by decide)) hF_fv_14 (fM_rf [14, 16, 17, 19, 20] _) hA_ar_16 (fA_rf [41, 42, 43] _) rfl p_13 (fun r9 hr hd => by rcases p_8 r9 hr hd with ⟨a, b, q, o2, c, d⟩ | ⟨a, b⟩; exact absurd (congrArg Int32.toInt a) (by rw [show (0 : Int32).toInt = 0 from (by decide)]; omega); exact b) (by have hp9 := p_10; omega) ((show fv_14 19 = fv_14 19 from rfl).trans ((p_9 (Int32.toInt_inj.mp (by rw [show (1 : Int32).toInt = 1 from (by decide)]; omega))).trans rfl)) (by have hi9 := p_11 (Int32.toInt_inj.mp (by rw [show (1 : Int32).toInt = 1 from (by decide)]; omega)); omega) (by rw [show (fv_14 14).toInt.toNat = (fv_14 14).toInt.toNat from (by omega)]; exact p_12 (Int32.toInt_inj.mp (by rw [show (1 : Int32).toInt = 1 from (by decide)]; omega))) hP hS (lv_sub hl [1, 2, 0] rfl)
  · skip
    have i_120 : 0 ≤ r_6.toInt ∧ r_6.toInt ≤ 0 := iv_eq1 (⟨by decide, by decide⟩ : (0 : Int) ≤ (0 : Int32).toInt ∧ (0 : Int32).toInt ≤ 0) c_20
    refine lv_iconst (v := 0) hx hb dX3_readCond_8 (by decide) ?_
    have z_122 : (0 : Int32).toInt = 0 := by decide
    exact W.zret (v := 0) hx hb hr (by decide) (fun t ht hW => ⟨⟨0, (fv_14, wd_15, ar_16), rfl, ⟨hF_fv_14, hA_ar_16, (fM_call (fM_rf [14, 16, 17, 19, 20] _) fr_17 (by decide)), (fA_call (fA_rf [41, 42, 43] _) fa_18 (by decide)), wf_19, (iv_w (⟨by decide, by decide⟩ : (0 : Int) ≤ (0 : Int32).toInt ∧ (0 : Int32).toInt ≤ 0) (by decide) (by decide)), (show ∀ r9 : List Bool, r9.length = 2 → rd_dn r9 = r9 → rd_x T9 S9 0 ((fv 14).toInt.toNat) ((fv 17).toInt.toNat) r9 (0 : Int32) (fv_14 19) (fv_14 20) (fv_14 14) (fv_14 17) from fun r9 hr hd => by rcases p_8 r9 hr hd with ⟨a, b, q, o2, c, d⟩ | ⟨a, b⟩; exact Or.inl ⟨rfl, b, q, o2, c, d⟩; exact absurd (congrArg Int32.toInt a) (by rw [show (1 : Int32).toInt = 1 from (by decide)]; omega)), (show (0 : Int32) = 1 → fv_14 19 = fv 19 from fun w => absurd w (by decide)), (show (fv_14 14).toInt ≤ (c9 : Int) from by have hp9 := p_10; omega), (show (0 : Int32) = 1 → (fv 17).toInt + 1 ≤ (fv_14 17).toInt from fun w => absurd w (by decide)), (show (0 : Int32) = 1 → ¬ (T9 ((fv_14 14).toInt.toNat) = 24 ∨ T9 ((fv_14 14).toInt.toNat) = 25) from fun w => absurd w (by decide)), p_13, trivial⟩, ⟨by rw [ht]; exact hP, va_K.moved hW.alike hK⟩⟩, hS.F ht⟩) hS.2.2 dX3_readCond_9

set_option maxHeartbeats 4000000 in
set_option maxRecDepth 100000 in
theorem x_readNotC (l : Launch) (dC : Nat → ClassId) (dI : Nat → Nat → Nat) (sz : Nat) (ob ad : Nat → Nat) (cA : Nat → ClassId) (hd : dX ob ad) (fv : Nat → Int32) (wd : xT) (ar : Nat → Nat → Int32) (hF_fv : rX fv) (hA_ar : rB ar) (tA : Nat → Nat) (hto : tO tA wd.2.1) (T9 : Nat → Nat) (S9 : Nat → Nat) (N9 : Nat → Int) (c9 : Nat) (hcx : rd_cx tA T9 S9 N9 c9 wd.2.1 (ar 36) (ar 37)) (htc : (fv 13).toInt = (c9 : Int) + 1) (hpl : (fv 14).toInt ≤ (c9 : Int)) (h300 : c9 ≤ 300) (hT32 : ∀ k, T9 k < 32) (hfin : T9 c9 = 30 ∨ T9 c9 = 31) (hz : (fv 15).toInt ≤ 15) : Met l yX3_readNot (.code yX3_readNot cX3_readNot 2 (some .boolean) :: lw_good) ({ frames := 3, cells := 0, slots := 0, locals := 61 }) (va_Pc [.ref (ob 6)] (fun U => prX dC dI ob ad cA fv wd ar sz U ∧ tkA ob ad tA sz U)) (va_Qi (fun (r : Int32) (u : xS) => rX u.1 ∧ rB u.2.2 ∧ fM [14] fv u.1 ∧ fA [39] ar u.2.2 ∧ u.2.1.2 = wd.2 ∧ (0 ≤ r.toInt ∧ r.toInt ≤ 1) ∧ (r = 1 ∧ ((T9 ((fv 14).toInt.toNat) = 22 ∧ (u.1 14).toInt = (fv 14).toInt + 1) ∨ (¬ T9 ((fv 14).toInt.toNat) = 22 ∧ (u.1 14).toInt = (fv 14).toInt))) ∧ ((u.1 14).toInt ≤ (c9 : Int)) ∧ ((T9 ((fv 14).toInt.toNat) = 22 ∧ u.2.2 39 = upd (ar 39) ((fv 15).toInt.toNat) 0) ∨ (¬ T9 ((fv 14).toInt.toNat) = 22 ∧ u.2.2 39 = upd (ar 39) ((fv 15).toInt.toNat) 1)) ∧ True) (enX dC dI ob ad cA) (aX ob ad sz)) 0 0 (aX ob ad sz) := by
  refine Met.ofW (cc := cX3_readNot) (maxL := 2) (ret := (some .boolean)) (by decide) rfl ?_
  intro p e s m args below meth c s₁ B hml hv
  obtain ⟨rfl, ⟨hsz, hP, hK⟩, hE⟩ := hv
  have hx := B.exec
  have hb := B.bytes
  have hr := B.returns
  have hts := atoms_spec (ws := (.code yX3_readNot cX3_readNot 2 (some .boolean) :: lw_good)) B.pre
  have htg : ∀ w ∈ lw_good, w.before _ s = true := fun w hw => hts w (List.mem_cons_of_mem _ hw)
  have hown : s.vm.findClass RX3 = some m.cls := findClass_of_methodNamed B.named
  have hlocks := B.notSynchronized
  subst hsz
  have hS : va_S (aX ob ad s.heap.size) s.heap s.heap [] := va_S.rf
  have hl := lv_entry ([.ref (ob 6)]) (n := 2) (Nat.le_of_ble_eq_true rfl)
  rw [lg_entry_eq]
  generalize (lg_sl ([.ref (ob 6)]) ++ List.replicate (2 - (lg_sl ([.ref (ob 6)])).length) Slot.unset).toArray = ls at hl ⊢
  have hl : lv_has ls 2 [(0, .ref (ob 6))] := hl
  have i_1 : 0 ≤ (fv 14).toInt ∧ (fv 14).toInt ≤ 300 := (by have h9 := hF_fv 14; have h8 : 0 ≤ (fv 14).toInt := h9.1; omega)
  have i_2 : 0 ≤ (fv 15).toInt ∧ (fv 15).toInt ≤ 15 := ⟨(hF_fv 15).1, hz⟩
  refine lv_aload_n hx hb dX3_readNot_0 rfl (lv_at hl 0 rfl) ?_
  have z_3 : 0 ≤ (fv 13).toInt ∧ (fv 13).toInt ≤ 301 := hF_fv 13
  have z_4 : 0 ≤ (fv 14).toInt ∧ (fv 14).toInt ≤ 300 := hF_fv 14
  refine va_callr (va_runV (As := []) (rest := []) ⟨hx, hb, hml, hown, hts⟩ (x_tokenC l dC dI s.heap.size ob ad cA hd fv wd ar hF_fv hA_ar tA hto T9 S9 N9 c9 hcx (by omega) (by omega) h300 hT32 hfin) (cwV 0 hts (gV kw_4_102 kw_4_104 kw_p_4 kw_1_11 kw_4_105) rfl rfl rfl (by decide +kernel) ⟨Nat.le_of_ble_eq_true rfl, Nat.le_of_ble_eq_true rfl⟩) ⟨fun a U g mk q => ⟨q.1, ⟨q.2.1.1, q.2.1.2.1, va_K.moved (u := U) (U := U.calling g mk a) (Vm.Alike.refl U.vm) q.2.1.2.2⟩, tk_mv (U := U.calling g mk a) rfl (Vm.Alike.refl U.vm) q.2.2⟩, va_recv hK hP (ci := 4) (q0 := 6) rfl rfl, fun U hU hW => ⟨rfl, ⟨by rw [hU], by rw [hU]; exact hP, va_K.moved hW.alike hK⟩, tk_pass hE hS hU hW.alike⟩⟩ rfl rfl hl.1 rfl (lv_room (Nat.le_of_ble_eq_true rfl)) dX3_readNot_1 ⟨Nat.le_of_ble_eq_true rfl, Nat.le_of_ble_eq_true rfl⟩) hS (fun q _ h9 => aX_up hS q h9) (aX_up hS) (fun u r_5 t H1 locs ht _ hw hB _ hk1 hS => ?_)
  obtain ⟨fv_6, wd_7, ar_8⟩ := u
  obtain ⟨hF_fv_6, hA_ar_8, fr_9, fa_10, wf_11, -⟩ := hw
  have wf_11 : wd_7.2 = wd.2 := wf_11
  have hP : va_P (dC, dI) vwCl (wsX ob ad cA fv_6 wd_7 ar_8) H1 := by have h9 := hB.1.1; rw [ht] at h9; exact h9
  have fr_9 : fM [] fv fv_6 := fr_9
  have fa_10 : fA [] ar ar_8 := fa_10
  generalize H1 = H at hP hS ⊢
  obtain ⟨j_12, lj_12, rj_12, zj_12⟩ := hB.2
  subst rj_12
  refine va_gets hx hb (hE.1 22 (by decide)).1 hS hown (htg (.fieldLink RX3 190 "WalkingTown$Token" "NOT" "LWalkingTown$Token;") kw_4_124) (fun _ h9 => h9) dX3_readNot_4 ?_
  refine lv_acmp_ne (rx := some (tA j_12)) (ry := some (tA 22)) (tgt := 14) hx hb dX3_readNot_7 (by decide) (fun c_13 => ?_) (fun c_13 => ?_)
  · skip
    have k_14 : ¬ j_12 = 22 := fun w => c_13 (by rw [w])
    refine lv_iconst (v := 0) hx hb dX3_readNot_14 (by decide) ?_
    refine lv_istore_n (lv' := [(1, .int 0), (0, .ref (ob 6))]) hx hb dX3_readNot_15 rfl hl (by decide) rfl (fun ls hl => ?_)
    refine lv_aload_n hx hb dX3_readNot_16 rfl (lv_at hl 1 rfl) ?_
    refine gX_X3_27 hx hb htg hown hK hP dX3_readNot_17 ?_
    refine gX_X3_79 hx hb htg hown hK hP dX3_readNot_20 ?_
    refine lv_aload_n hx hb dX3_readNot_23 rfl (lv_at hl 1 rfl) ?_
    refine gX_X3_31 hx hb htg hown hK hP dX3_readNot_24 ?_
    refine my_ti (y := fv 15) ((fr_9 15 rfl)) ?_
    refine lv_iload_n hx hb dX3_readNot_27 rfl (lv_at hl 0 rfl) ?_
    refine lv_if_eq (tgt := 35) hx hb dX3_readNot_28 (by decide) (fun c_15 => ?_) (fun c_15 => ?_)
    · skip
      refine lv_iconst (v := 1) hx hb dX3_readNot_35 (by decide) ?_
      refine sX_39 hx hb hK hP hS hd (iv_in i_2 (by decide) (by decide)) dX3_readNot_36 (fun H locs ar_16 ear_16 hP hS => ?_)
      have hA_ar_16 : rB ar_16 := rB_put hA_ar_8 ear_16 (iv_any _)
      refine lv_iload_n hx hb dX3_readNot_37 rfl (lv_at hl 0 rfl) ?_
      refine lv_if_eq (tgt := 45) hx hb dX3_readNot_38 (by decide) (fun c_17 => ?_) (fun c_17 => ?_)
      · skip
        refine lv_iconst (v := 1) hx hb dX3_readNot_45 (by decide) ?_
        have z_18 : (1 : Int32).toInt = 1 := by decide
        exact W.zret (v := 1) hx hb hr (by decide) (fun t ht hW => ⟨⟨1, (fv_6, wd_7, ar_16), rfl, ⟨hF_fv_6, hA_ar_16, (fM_call (fM_rf [14] _) fr_9 (by decide)), (fA_put (fA_call (fA_rf [39] _) fa_10 (by decide)) ear_16 (by decide)), wf_11, (iv_w (⟨by decide, by decide⟩ : (1 : Int) ≤ (1 : Int32).toInt ∧ (1 : Int32).toInt ≤ 1) (by decide) (by decide)), (show (1 : Int32) = 1 ∧ ((T9 ((fv 14).toInt.toNat) = 22 ∧ (fv_6 14).toInt = (fv 14).toInt + 1) ∨ (¬ T9 ((fv 14).toInt.toNat) = 22 ∧ (fv_6 14).toInt = (fv 14).toInt)) from by have : (fv_6 14).toInt = (fv 14).toInt := congrArg Int32.toInt ((fM_call (fM_rf [] _) fr_9 (by decide)) 14 rfl); have hz9 : j_12 = T9 ((fv 14).toInt.toNat) := (by have h9 := zj_12; exact h9); exact ⟨rfl, Or.inr ⟨by omega, by omega⟩⟩), (show (fv_6 14).toInt ≤ (c9 : Int) from by have : (fv_6 14).toInt = (fv 14).toInt := congrArg Int32.toInt ((fM_call (fM_rf [] _) fr_9 (by decide)) 14 rfl); omega), (show (T9 ((fv 14).toInt.toNat) = 22 ∧ ar_16 39 = upd (ar 39) ((fv 15).toInt.toNat) 0) ∨ (¬ T9 ((fv 14).toInt.toNat) = 22 ∧ ar_16 39 = upd (ar 39) ((fv 15).toInt.toNat) 1) from by have : (fv_6 14).toInt = (fv 14).toInt := congrArg Int32.toInt ((fM_call (fM_rf [] _) fr_9 (by decide)) 14 rfl); have : (fv_6 15).toInt = (fv 15).toInt := congrArg Int32.toInt ((fM_call (fM_rf [] _) fr_9 (by decide)) 15 rfl); have hz9 : j_12 = T9 ((fv 14).toInt.toNat) := (by have h9 := zj_12; exact h9); exact Or.inr ⟨by omega, by rw [ear_16]; show upd (ar_8 39) (Int32.toNatClampNeg (fv 15)) (1 : Int32) = _; rw [show ar_8 39 = ar 39 from ((fA_call (fA_rf [] _) fa_10 (by decide)) 39 rfl)]; exact congrArg (fun z9 => upd (ar 39) z9 (1 : Int32)) (show (fv 15).toInt.toNat = (fv 15).toInt.toNat from by omega)⟩), trivial⟩, ⟨by rw [ht]; exact hP, va_K.moved hW.alike hK⟩⟩, hS.F ht⟩) hS.2.2 dX3_readNot_46
      · skip
        exact absurd c_17 (by decide)
    · skip
      exact absurd c_15 (by decide)
  · skip
    have k_19 : j_12 = 22 := hE.2 j_12 22 lj_12 (by decide) (Option.some.inj c_13)
    refine lv_iconst (v := 1) hx hb dX3_readNot_10 (by decide) ?_
    refine lv_goto (tgt := 15) hx hb dX3_readNot_11 (by decide) ?_
    refine lv_istore_n (lv' := [(1, .int 1), (0, .ref (ob 6))]) hx hb dX3_readNot_15 rfl hl (by decide) rfl (fun ls hl => ?_)
    refine lv_aload_n hx hb dX3_readNot_16 rfl (lv_at hl 1 rfl) ?_
    refine gX_X3_27 hx hb htg hown hK hP dX3_readNot_17 ?_
    refine gX_X3_79 hx hb htg hown hK hP dX3_readNot_20 ?_
    refine lv_aload_n hx hb dX3_readNot_23 rfl (lv_at hl 1 rfl) ?_
    refine gX_X3_31 hx hb htg hown hK hP dX3_readNot_24 ?_
    refine my_ti (y := fv 15) ((fr_9 15 rfl)) ?_
    refine lv_iload_n hx hb dX3_readNot_27 rfl (lv_at hl 0 rfl) ?_
    refine lv_if_eq (tgt := 35) hx hb dX3_readNot_28 (by decide) (fun c_20 => ?_) (fun c_20 => ?_)
    · skip
      exact absurd c_20 (by decide)
    · skip
      refine lv_iconst (v := 0) hx hb dX3_readNot_31 (by decide) ?_
      refine lv_goto (tgt := 36) hx hb dX3_readNot_32 (by decide) ?_
      refine sX_39 hx hb hK hP hS hd (iv_in i_2 (by decide) (by decide)) dX3_readNot_36 (fun H locs ar_21 ear_21 hP hS => ?_)
      have hA_ar_21 : rB ar_21 := rB_put hA_ar_8 ear_21 (iv_any _)
      refine lv_iload_n hx hb dX3_readNot_37 rfl (lv_at hl 0 rfl) ?_
      refine lv_if_eq (tgt := 45) hx hb dX3_readNot_38 (by decide) (fun c_22 => ?_) (fun c_22 => ?_)
      · skip
        exact absurd c_22 (by decide)
      · skip
        refine lv_aload_n hx hb dX3_readNot_41 rfl (lv_at hl 1 rfl) ?_
        have z_23 : (fv_6 13).toInt = (fv 13).toInt := congrArg Int32.toInt ((fr_9 13 rfl))
        have z_24 : 0 ≤ (fv_6 13).toInt ∧ (fv_6 13).toInt ≤ 301 := hF_fv_6 13
        have z_25 : (fv_6 14).toInt = (fv 14).toInt := congrArg Int32.toInt ((fr_9 14 rfl))
        have z_26 : 0 ≤ (fv_6 14).toInt ∧ (fv_6 14).toInt ≤ 300 := hF_fv_6 14
        have z_27 : (fv_6 13).toInt = (fv 13).toInt := congrArg Int32.toInt ((fr_9 13 rfl))
        have z_28 : 0 ≤ (fv_6 13).toInt ∧ (fv_6 13).toInt ≤ 301 := hF_fv_6 13
        have z_29 : (fv_6 14).toInt = (fv 14).toInt := congrArg Int32.toInt ((fr_9 14 rfl))
        have z_30 : 0 ≤ (fv_6 14).toInt ∧ (fv_6 14).toInt ≤ 300 := hF_fv_6 14
        refine va_callv (va_runV (As := []) (rest := []) ⟨hx, hb, hml, hown, hts⟩ (x_stepC l dC dI H.size ob ad cA hd fv_6 wd_7 ar_21 hF_fv_6 hA_ar_21 (by have h9 := rd_lt hfin (p := (fv 14).toInt.toNat) (by omega) (by rw [← zj_12]; omega); omega)) (cwV 0 hts (gV kw_4_116 kw_4_118 kw_p_7 kw_1_11 kw_4_119) rfl rfl rfl (by decide +kernel) ⟨Nat.le_of_ble_eq_true rfl, Nat.le_of_ble_eq_true rfl⟩) ⟨fun a U g mk q => ⟨q.1, q.2.1, q.2.2.1, va_K.moved (u := U) (U := U.calling g mk a) (Vm.Alike.refl U.vm) q.2.2.2⟩, va_recv hK hP (ci := 4) (q0 := 6) rfl rfl, fun U hU hW => ⟨rfl, by rw [hU], by rw [hU]; exact hP, va_K.moved hW.alike hK⟩⟩ rfl rfl hl.1 rfl (lv_room (Nat.le_of_ble_eq_true rfl)) dX3_readNot_42 ⟨Nat.le_of_ble_eq_true rfl, Nat.le_of_ble_eq_true rfl⟩) hS (fun q _ h9 => aX_up hS q h9) (aX_up hS) (fun u t H1 locs ht _ hw hB _ hk1 hS => ?_)
        obtain ⟨fv_33, wd_34, ar_35⟩ := u
        obtain ⟨hF_fv_33, hA_ar_35, fr_36, fa_37, wf_38, p_32, -⟩ := hw
        have wf_38 : wd_34.2 = wd_7.2 := wf_38
        have hP : va_P (dC, dI) vwCl (wsX ob ad cA fv_33 wd_34 ar_35) H1 := by have h9 := hB.1; rw [ht] at h9; exact h9
        have fr_36 : fM [14] fv_6 fv_33 := fr_36
        have fa_37 : fA [] ar_21 ar_35 := fa_37
        have p_32 : (fv_33 14).toInt = (fv_6 14).toInt + 1 ∧ (fv_33 14).toInt ≤ (fv_6 13).toInt - 1 := p_32
        generalize H1 = H at hP hS ⊢
        refine lv_iconst (v := 1) hx hb dX3_readNot_45 (by decide) ?_
        have z_39 : (1 : Int32).toInt = 1 := by decide
        exact W.zret (v := 1) hx hb hr (by decide) (fun t ht hW => ⟨⟨1, (fv_33, wd_34, ar_35), rfl, ⟨hF_fv_33, hA_ar_35, (fM_call (fM_call (fM_rf [14] _) fr_9 (by decide)) fr_36 (by decide)), (fA_call (fA_put (fA_call (fA_rf [39] _) fa_10 (by decide)) ear_21 (by decide)) fa_37 (by decide)), (wf_38.trans wf_11), (iv_w (⟨by decide, by decide⟩ : (1 : Int) ≤ (1 : Int32).toInt ∧ (1 : Int32).toInt ≤ 1) (by decide) (by decide)), (show (1 : Int32) = 1 ∧ ((T9 ((fv 14).toInt.toNat) = 22 ∧ (fv_33 14).toInt = (fv 14).toInt + 1) ∨ (¬ T9 ((fv 14).toInt.toNat) = 22 ∧ (fv_33 14).toInt = (fv 14).toInt)) from by have : (fv_6 14).toInt = (fv 14).toInt := congrArg Int32.toInt ((fM_call (fM_rf [] _) fr_9 (by decide)) 14 rfl); have hz9 : j_12 = T9 ((fv 14).toInt.toNat) := (by have h9 := zj_12; exact h9); exact ⟨rfl, Or.inl ⟨by omega, by omega⟩⟩), (show (fv_33 14).toInt ≤ (c9 : Int) from by have : (fv_6 14).toInt = (fv 14).toInt := congrArg Int32.toInt ((fM_call (fM_rf [] _) fr_9 (by decide)) 14 rfl); omega), (show (T9 ((fv 14).toInt.toNat) = 22 ∧ ar_35 39 = upd (ar 39) ((fv 15).toInt.toNat) 0) ∨ (¬ T9 ((fv 14).toInt.toNat) = 22 ∧ ar_35 39 = upd (ar 39) ((fv 15).toInt.toNat) 1) from by have : (fv_6 14).toInt = (fv 14).toInt := congrArg Int32.toInt ((fM_call (fM_rf [] _) fr_9 (by decide)) 14 rfl); have : (fv_6 15).toInt = (fv 15).toInt := congrArg Int32.toInt ((fM_call (fM_rf [] _) fr_9 (by decide)) 15 rfl); have : (fv_33 15).toInt = (fv_6 15).toInt := congrArg Int32.toInt ((fM_call (fM_rf [14] _) fr_36 (by decide)) 15 rfl); have hz9 : j_12 = T9 ((fv 14).toInt.toNat) := (by have h9 := zj_12; exact h9); exact Or.inl ⟨by omega, by rw [show ar_35 39 = ar_21 39 from ((fA_call (fA_rf [] _) fa_37 (by decide)) 39 rfl)]; rw [ear_21]; show upd (ar_8 39) (Int32.toNatClampNeg (fv 15)) (0 : Int32) = _; rw [show ar_8 39 = ar 39 from ((fA_call (fA_rf [] _) fa_10 (by decide)) 39 rfl)]; exact congrArg (fun z9 => upd (ar 39) z9 (0 : Int32)) (show (fv 15).toInt.toNat = (fv 15).toInt.toNat from by omega)⟩), trivial⟩, ⟨by rw [ht]; exact hP, va_K.moved hW.alike hK⟩⟩, hS.F ht⟩) hS.2.2 dX3_readNot_46
set_option maxHeartbeats 4000000 in
set_option maxRecDepth 100000 in
theorem x_readValueC (l : Launch) (dC : Nat → ClassId) (dI : Nat → Nat → Nat) (sz : Nat) (ob ad : Nat → Nat) (cA : Nat → ClassId) (hd : dX ob ad) (fv : Nat → Int32) (wd : xT) (ar : Nat → Nat → Int32) (hF_fv : rX fv) (hA_ar : rB ar) (tA : Nat → Nat) (hto : tO tA wd.2.1) (T9 : Nat → Nat) (S9 : Nat → Nat) (N9 : Nat → Int) (c9 : Nat) (hcx : rd_cx tA T9 S9 N9 c9 wd.2.1 (ar 36) (ar 37)) (htc : (fv 13).toInt = (c9 : Int) + 1) (hpl : (fv 14).toInt ≤ (c9 : Int)) (h300 : c9 ≤ 300) (hT32 : ∀ k, T9 k < 32) (hfin : T9 c9 = 30 ∨ T9 c9 = 31) (hz : (fv 15).toInt ≤ 15) : Met l yX3_readValue (.code yX3_readValue cX3_readValue 1 (some .boolean) :: lw_good) ({ frames := 4, cells := 0, slots := 0, locals := 82 }) (va_Pc [.ref (ob 6)] (fun U => prX dC dI ob ad cA fv wd ar sz U ∧ tkA ob ad tA sz U)) (va_Qi (fun (r : Int32) (u : xS) => rX u.1 ∧ rB u.2.2 ∧ fM [14, 19, 20] fv u.1 ∧ fA [39] ar u.2.2 ∧ u.2.1.2 = wd.2 ∧ (0 ≤ r.toInt ∧ r.toInt ≤ 1) ∧ ((r = 0 ∧ T9 ((fv 14).toInt.toNat) = 29 ∧ 2000 < N9 ((fv 14).toInt.toNat) ∧ u.1 19 = 2 ∧ (u.1 20).toInt = (S9 ((fv 14).toInt.toNat) : Nat)) ∨ (r = 0 ∧ ¬ T9 ((fv 14).toInt.toNat) = 29 ∧ u.1 19 = 1 ∧ (u.1 20).toInt = (S9 ((fv 14).toInt.toNat) : Nat)) ∨ (r = 1 ∧ T9 ((fv 14).toInt.toNat) = 29 ∧ ¬ 2000 < N9 ((fv 14).toInt.toNat) ∧ (u.1 14).toInt = (fv 14).toInt + 1 ∧ u.1 19 = fv 19)) ∧ ((u.1 14).toInt ≤ (c9 : Int)) ∧ (r = 1 → ∃ x9 : Int32, u.2.2 39 = upd (ar 39) ((fv 15).toInt.toNat) x9 ∧ x9.toInt = N9 ((fv 14).toInt.toNat)) ∧ True) (enX dC dI ob ad cA) (aX ob ad sz)) 0 0 (aX ob ad sz) := by
  refine Met.ofW (cc := cX3_readValue) (maxL := 1) (ret := (some .boolean)) (by decide) rfl ?_
  intro p e s m args below meth c s₁ B hml hv
  obtain ⟨rfl, ⟨hsz, hP, hK⟩, hE⟩ := hv
  have hx := B.exec
  have hb := B.bytes
  have hr := B.returns
  have hts := atoms_spec (ws := (.code yX3_readValue cX3_readValue 1 (some .boolean) :: lw_good)) B.pre
  have htg : ∀ w ∈ lw_good, w.before _ s = true := fun w hw => hts w (List.mem_cons_of_mem _ hw)
  have hown : s.vm.findClass RX3 = some m.cls := findClass_of_methodNamed B.named
  have hlocks := B.notSynchronized
  subst hsz
  have hS : va_S (aX ob ad s.heap.size) s.heap s.heap [] := va_S.rf
  have hl := lv_entry ([.ref (ob 6)]) (n := 1) (Nat.le_of_ble_eq_true rfl)
  rw [lg_entry_eq]
  generalize (lg_sl ([.ref (ob 6)]) ++ List.replicate (1 - (lg_sl ([.ref (ob 6)])).length) Slot.unset).toArray = ls at hl ⊢
  have hl : lv_has ls 1 [(0, .ref (ob 6))] := hl
  have i_1 : 0 ≤ (fv 14).toInt ∧ (fv 14).toInt ≤ 300 := (by have h9 := hF_fv 14; have h8 : 0 ≤ (fv 14).toInt := h9.1; omega)
  have i_2 : 0 ≤ (fv 15).toInt ∧ (fv 15).toInt ≤ 15 := ⟨(hF_fv 15).1, hz⟩
  refine lv_aload_n hx hb dX3_readValue_0 rfl (lv_at hl 0 rfl) ?_
  have z_3 : 0 ≤ (fv 13).toInt ∧ (fv 13).toInt ≤ 301 := hF_fv 13
  have z_4 : 0 ≤ (fv 14).toInt ∧ (fv 14).toInt ≤ 300 := hF_fv 14
  refine va_callr (va_runV (As := []) (rest := []) ⟨hx, hb, hml, hown, hts⟩ (x_tokenC l dC dI s.heap.size ob ad cA hd fv wd ar hF_fv hA_ar tA hto T9 S9 N9 c9 hcx (by omega) (by omega) h300 hT32 hfin) (cwV 0 hts (gV kw_4_102 kw_4_104 kw_p_4 kw_1_11 kw_4_105) rfl rfl rfl (by decide +kernel) ⟨Nat.le_of_ble_eq_true rfl, Nat.le_of_ble_eq_true rfl⟩) ⟨fun a U g mk q => ⟨q.1, ⟨q.2.1.1, q.2.1.2.1, va_K.moved (u := U) (U := U.calling g mk a) (Vm.Alike.refl U.vm) q.2.1.2.2⟩, tk_mv (U := U.calling g mk a) rfl (Vm.Alike.refl U.vm) q.2.2⟩, va_recv hK hP (ci := 4) (q0 := 6) rfl rfl, fun U hU hW => ⟨rfl, ⟨by rw [hU], by rw [hU]; exact hP, va_K.moved hW.alike hK⟩, tk_pass hE hS hU hW.alike⟩⟩ rfl rfl hl.1 rfl (lv_room (Nat.le_of_ble_eq_true rfl)) dX3_readValue_1 ⟨Nat.le_of_ble_eq_true rfl, Nat.le_of_ble_eq_true rfl⟩) hS (fun q _ h9 => aX_up hS q h9) (aX_up hS) (fun u r_5 t H1 locs ht _ hw hB _ hk1 hS => ?_)
  obtain ⟨fv_6, wd_7, ar_8⟩ := u
  obtain ⟨hF_fv_6, hA_ar_8, fr_9, fa_10, wf_11, -⟩ := hw
  have wf_11 : wd_7.2 = wd.2 := wf_11
  have hP : va_P (dC, dI) vwCl (wsX ob ad cA fv_6 wd_7 ar_8) H1 := by have h9 := hB.1.1; rw [ht] at h9; exact h9
  have fr_9 : fM [] fv fv_6 := fr_9
  have fa_10 : fA [] ar ar_8 := fa_10
  generalize H1 = H at hP hS ⊢
  obtain ⟨j_12, lj_12, rj_12, zj_12⟩ := hB.2
  subst rj_12
  refine va_gets hx hb (hE.1 29 (by decide)).1 hS hown (htg (.fieldLink RX3 129 "WalkingTown$Token" "NUMBER" "LWalkingTown$Token;") kw_4_33) (fun _ h9 => h9) dX3_readValue_4 ?_
  refine lv_acmp_ne (rx := some (tA j_12)) (ry := some (tA 29)) (tgt := 31) hx hb dX3_readValue_7 (by decide) (fun c_13 => ?_) (fun c_13 => ?_)
  · skip
    have k_14 : ¬ j_12 = 29 := fun w => c_13 (by rw [w])
    refine lv_aload_n hx hb dX3_readValue_31 rfl (lv_at hl 0 rfl) ?_
    refine gX_X3_27 hx hb htg hown hK hP dX3_readValue_32 ?_
    refine gX_X3_79 hx hb htg hown hK hP dX3_readValue_35 ?_
    refine lv_aload_n hx hb dX3_readValue_38 rfl (lv_at hl 0 rfl) ?_
    refine gX_X3_31 hx hb htg hown hK hP dX3_readValue_39 ?_
    refine my_ti (y := fv 15) ((fr_9 15 rfl)) ?_
    refine lv_aload_n hx hb dX3_readValue_42 rfl (lv_at hl 0 rfl) ?_
    refine gX_X3_19 hx hb htg hown hK hP dX3_readValue_43 ?_
    refine lv_aload_n hx hb dX3_readValue_46 rfl (lv_at hl 0 rfl) ?_
    refine gX_X3_41 hx hb htg hown hK hP dX3_readValue_47 ?_
    refine my_ti (y := fv 14) ((fr_9 14 rfl)) ?_
    refine lX_37 hx hb hK hP (iv_in i_1 (by decide) (by decide)) dX3_readValue_50 (fun v_15 ev_15 => ?_)
    refine sX_39 hx hb hK hP hS hd (iv_in i_2 (by decide) (by decide)) dX3_readValue_51 (fun H locs ar_16 ear_16 hP hS => ?_)
    have hA_ar_16 : rB ar_16 := rB_put hA_ar_8 ear_16 (iv_any _)
    refine lv_aload_n hx hb dX3_readValue_52 rfl (lv_at hl 0 rfl) ?_
    refine va_gets hx hb (hE.1 29 (by decide)).1 hS hown (htg (.fieldLink RX3 129 "WalkingTown$Token" "NUMBER" "LWalkingTown$Token;") kw_4_33) (fun _ h9 => h9) dX3_readValue_53 ?_
    have z_17 : (fv_6 13).toInt = (fv 13).toInt := congrArg Int32.toInt ((fr_9 13 rfl))
    have z_18 : 0 ≤ (fv_6 13).toInt ∧ (fv_6 13).toInt ≤ 301 := hF_fv_6 13
    have z_19 : (fv_6 14).toInt = (fv 14).toInt := congrArg Int32.toInt ((fr_9 14 rfl))
    have z_20 : 0 ≤ (fv_6 14).toInt ∧ (fv_6 14).toInt ≤ 300 := hF_fv_6 14
    have z_21 : (fv_6 14).toInt = (fv 14).toInt := congrArg Int32.toInt ((fr_9 14 rfl))
    have z_22 : 0 ≤ (fv_6 14).toInt ∧ (fv_6 14).toInt ≤ 300 := hF_fv_6 14
    refine va_calli (va_runV (As := [.ref (tA 29)]) (rest := []) ⟨hx, hb, hml, hown, hts⟩ (x_takeC l dC dI H.size ob ad cA hd fv_6 wd_7 ar_16 hF_fv_6 hA_ar_16 tA (tO_w hto wf_11) (29) (by decide) T9 S9 N9 c9 (rd_cx_eq hcx (congrArg (fun z => z.1) wf_11) ((fA_put (fA_call (fA_rf [39] _) fa_10 (by decide)) ear_16 (by decide)) 36 rfl) ((fA_put (fA_call (fA_rf [39] _) fa_10 (by decide)) ear_16 (by decide)) 37 rfl)) (by omega) (by omega) h300 hT32 hfin (by decide)) (cwV 1 hts (gV kw_4_130 kw_4_132 kw_p_10 kw_1_11 kw_4_133) rfl rfl rfl (by decide +kernel) ⟨Nat.le_of_ble_eq_true rfl, Nat.le_of_ble_eq_true rfl⟩) ⟨fun a U g mk q => ⟨q.1, ⟨q.2.1.1, q.2.1.2.1, va_K.moved (u := U) (U := U.calling g mk a) (Vm.Alike.refl U.vm) q.2.1.2.2⟩, tk_mv (U := U.calling g mk a) rfl (Vm.Alike.refl U.vm) q.2.2⟩, va_recv hK hP (ci := 4) (q0 := 6) rfl rfl, fun U hU hW => ⟨rfl, ⟨by rw [hU], by rw [hU]; exact hP, va_K.moved hW.alike hK⟩, tk_pass hE hS hU hW.alike⟩⟩ rfl rfl hl.1 rfl (lv_room (Nat.le_of_ble_eq_true rfl)) dX3_readValue_56 ⟨Nat.le_of_ble_eq_true rfl, Nat.le_of_ble_eq_true rfl⟩) hS (fun q _ h9 => aX_up hS q h9) (aX_up hS) (fun r_23 u t H1 locs ht _ hw hB _ hk1 hS => ?_)
    obtain ⟨fv_26, wd_27, ar_28⟩ := u
    obtain ⟨hF_fv_26, hA_ar_28, fr_29, fa_30, wf_31, p_24, p_25, -⟩ := hw
    have wf_31 : wd_27.2 = wd_7.2 := wf_31
    have hP : va_P (dC, dI) vwCl (wsX ob ad cA fv_26 wd_27 ar_28) H1 := by have h9 := hB.1; rw [ht] at h9; exact h9
    have fr_29 : fM [14, 19, 20] fv_6 fv_26 := fr_29
    have fa_30 : fA [] ar_16 ar_28 := fa_30
    have p_25 : (r_23 = 0 ∧ ¬ T9 ((fv_6 14).toInt.toNat) = 29 ∧ fv_26 19 = 1 ∧ (fv_26 20).toInt = (S9 ((fv_6 14).toInt.toNat) : Nat) ∧ (fv_26 14).toInt = (fv_6 14).toInt) ∨ (r_23 = 1 ∧ T9 ((fv_6 14).toInt.toNat) = 29 ∧ ((fv_26 14).toInt = (fv_6 14).toInt + 1 ∧ (fv_26 14).toInt ≤ (c9 : Int)) ∧ fv_26 19 = fv_6 19) := p_25
    generalize H1 = H at hP hS ⊢
    exact W.zret (v := r_23) hx hb hr (iv_nar p_24) (fun t ht hW => ⟨⟨r_23, (fv_26, wd_27, ar_28), rfl, ⟨hF_fv_26, hA_ar_28, (fM_call (fM_call (fM_rf [14, 19, 20] _) fr_9 (by decide)) fr_29 (by decide)), (fA_call (fA_put (fA_call (fA_rf [39] _) fa_10 (by decide)) ear_16 (by decide)) fa_30 (by decide)), (wf_31.trans wf_11), p_24, (show (r_23 = 0 ∧ T9 ((fv 14).toInt.toNat) = 29 ∧ 2000 < N9 ((fv 14).toInt.toNat) ∧ fv_26 19 = 2 ∧ (fv_26 20).toInt = (S9 ((fv 14).toInt.toNat) : Nat)) ∨ (r_23 = 0 ∧ ¬ T9 ((fv 14).toInt.toNat) = 29 ∧ fv_26 19 = 1 ∧ (fv_26 20).toInt = (S9 ((fv 14).toInt.toNat) : Nat)) ∨ (r_23 = 1 ∧ T9 ((fv 14).toInt.toNat) = 29 ∧ ¬ 2000 < N9 ((fv 14).toInt.toNat) ∧ (fv_26 14).toInt = (fv 14).toInt + 1 ∧ fv_26 19 = fv 19) from by have : (fv_6 14).toInt = (fv 14).toInt := congrArg Int32.toInt ((fM_call (fM_rf [] _) fr_9 (by decide)) 14 rfl); have hz9 : j_12 = T9 ((fv 14).toInt.toNat) := (by have h9 := zj_12; exact h9); have hn9 : v_15.toInt = N9 ((fv 14).toInt.toNat) := (by rw [ev_15, show ar_8 37 = ar 37 from ((fA_call (fA_rf [] _) fa_10 (by decide)) 37 rfl)]; exact (hcx ((fv 14).toInt.toNat) (by omega)).2.2); have h8 := p_25; rw [show fv_6 14 = fv 14 from ((fM_call (fM_rf [] _) fr_9 (by decide)) 14 rfl)] at h8; rcases h8 with ⟨a1, b1, c1, d1, e1⟩ | ⟨a1, b1, c1, d1⟩; exact Or.inr (Or.inl ⟨a1, b1, c1, d1⟩); exact Or.inr (Or.inr ⟨a1, b1, by omega, by omega, d1.trans ((fM_call (fM_rf [] _) fr_9 (by decide)) 19 rfl)⟩)), (show (fv_26 14).toInt ≤ (c9 : Int) from by have : (fv_6 14).toInt = (fv 14).toInt := congrArg Int32.toInt ((fM_call (fM_rf [] _) fr_9 (by decide)) 14 rfl); omega), (show r_23 = 1 → ∃ x9 : Int32, ar_28 39 = upd (ar 39) ((fv 15).toInt.toNat) x9 ∧ x9.toInt = N9 ((fv 14).toInt.toNat) from fun _ => by have : (fv_6 14).toInt = (fv 14).toInt := congrArg Int32.toInt ((fM_call (fM_rf [] _) fr_9 (by decide)) 14 rfl); have : (fv_6 15).toInt = (fv 15).toInt := congrArg Int32.toInt ((fM_call (fM_rf [] _) fr_9 (by decide)) 15 rfl); have : (fv_26 15).toInt = (fv_6 15).toInt := congrArg Int32.toInt ((fM_call (fM_rf [14, 19, 20] _) fr_29 (by decide)) 15 rfl); have hz9 : j_12 = T9 ((fv 14).toInt.toNat) := (by have h9 := zj_12; exact h9); have hn9 : v_15.toInt = N9 ((fv 14).toInt.toNat) := (by rw [ev_15, show ar_8 37 = ar 37 from ((fA_call (fA_rf [] _) fa_10 (by decide)) 37 rfl)]; rw [show Int32.toNatClampNeg (fv 14) = (fv 14).toInt.toNat from (show (fv 14).toInt.toNat = (fv 14).toInt.toNat from by omega)]; exact (hcx ((fv 14).toInt.toNat) (by omega)).2.2); exact ⟨v_15, by rw [show ar_28 39 = ar_16 39 from ((fA_call (fA_rf [] _) fa_30 (by decide)) 39 rfl)]; rw [ear_16]; show upd (ar_8 39) (Int32.toNatClampNeg (fv 15)) v_15 = _; rw [show ar_8 39 = ar 39 from ((fA_call (fA_rf [] _) fa_10 (by decide)) 39 rfl)]; exact congrArg (fun z9 => upd (ar 39) z9 v_15) (show (fv 15).toInt.toNat = (fv 15).toInt.toNat from by omega), by first | exact hn9 | omega⟩), trivial⟩, ⟨by rw [ht]; exact hP, va_K.moved hW.alike hK⟩⟩, hS.F ht⟩) hS.2.2 dX3_readValue_59
  · skip
    have k_32 : j_12 = 29 := hE.2 j_12 29 lj_12 (by decide) (Option.some.inj c_13)
    refine lv_aload_n hx hb dX3_readValue_10 rfl (lv_at hl 0 rfl) ?_
    refine gX_X3_19 hx hb htg hown hK hP dX3_readValue_11 ?_
    refine lv_aload_n hx hb dX3_readValue_14 rfl (lv_at hl 0 rfl) ?_
    refine gX_X3_41 hx hb htg hown hK hP dX3_readValue_15 ?_
    refine my_ti (y := fv 14) ((fr_9 14 rfl)) ?_
    refine lX_37 hx hb hK hP (iv_in i_1 (by decide) (by decide)) dX3_readValue_18 (fun v_33 ev_33 => ?_)
    refine lv_sipush (v := 2000) hx hb dX3_readValue_19 (by decide) ?_
    refine lv_icmp_le (tgt := 31) hx hb dX3_readValue_22 (by decide) (fun c_34 => ?_) (fun c_34 => ?_)
    · skip
      have i_35 : (-2147483648) ≤ v_33.toInt ∧ v_33.toInt ≤ 2000 := iv_le1 (iv_any v_33) (⟨by decide, by decide⟩ : (2000 : Int) ≤ (2000 : Int32).toInt ∧ (2000 : Int32).toInt ≤ 2000) c_34
      refine lv_aload_n hx hb dX3_readValue_31 rfl (lv_at hl 0 rfl) ?_
      refine gX_X3_27 hx hb htg hown hK hP dX3_readValue_32 ?_
      refine gX_X3_79 hx hb htg hown hK hP dX3_readValue_35 ?_
      refine lv_aload_n hx hb dX3_readValue_38 rfl (lv_at hl 0 rfl) ?_
      refine gX_X3_31 hx hb htg hown hK hP dX3_readValue_39 ?_
      refine my_ti (y := fv 15) ((fr_9 15 rfl)) ?_
      refine lv_aload_n hx hb dX3_readValue_42 rfl (lv_at hl 0 rfl) ?_
      refine gX_X3_19 hx hb htg hown hK hP dX3_readValue_43 ?_
      refine lv_aload_n hx hb dX3_readValue_46 rfl (lv_at hl 0 rfl) ?_
      refine gX_X3_41 hx hb htg hown hK hP dX3_readValue_47 ?_
      refine my_ti (y := fv 14) ((fr_9 14 rfl)) ?_
      refine lX_37 hx hb hK hP (iv_in i_1 (by decide) (by decide)) dX3_readValue_50 (fun v_36 ev_36 => ?_)
      obtain rfl : v_33 = v_36 := ev_33.trans ev_36.symm
      refine sX_39 hx hb hK hP hS hd (iv_in i_2 (by decide) (by decide)) dX3_readValue_51 (fun H locs ar_37 ear_37 hP hS => ?_)
      have hA_ar_37 : rB ar_37 := rB_put hA_ar_8 ear_37 (iv_any _)
      refine lv_aload_n hx hb dX3_readValue_52 rfl (lv_at hl 0 rfl) ?_
      refine va_gets hx hb (hE.1 29 (by decide)).1 hS hown (htg (.fieldLink RX3 129 "WalkingTown$Token" "NUMBER" "LWalkingTown$Token;") kw_4_33) (fun _ h9 => h9) dX3_readValue_53 ?_
      have z_38 : (fv_6 13).toInt = (fv 13).toInt := congrArg Int32.toInt ((fr_9 13 rfl))
      have z_39 : 0 ≤ (fv_6 13).toInt ∧ (fv_6 13).toInt ≤ 301 := hF_fv_6 13
      have z_40 : (fv_6 14).toInt = (fv 14).toInt := congrArg Int32.toInt ((fr_9 14 rfl))
      have z_41 : 0 ≤ (fv_6 14).toInt ∧ (fv_6 14).toInt ≤ 300 := hF_fv_6 14
      have z_42 : (fv_6 14).toInt = (fv 14).toInt := congrArg Int32.toInt ((fr_9 14 rfl))
      have z_43 : 0 ≤ (fv_6 14).toInt ∧ (fv_6 14).toInt ≤ 300 := hF_fv_6 14
      refine va_calli (va_runV (As := [.ref (tA 29)]) (rest := []) ⟨hx, hb, hml, hown, hts⟩ (x_takeC l dC dI H.size ob ad cA hd fv_6 wd_7 ar_37 hF_fv_6 hA_ar_37 tA (tO_w hto wf_11) (29) (by decide) T9 S9 N9 c9 (rd_cx_eq hcx (congrArg (fun z => z.1) wf_11) ((fA_put (fA_call (fA_rf [39] _) fa_10 (by decide)) ear_37 (by decide)) 36 rfl) ((fA_put (fA_call (fA_rf [39] _) fa_10 (by decide)) ear_37 (by decide)) 37 rfl)) (by omega) (by omega) h300 hT32 hfin (by decide)) (cwV 1 hts (gV kw_4_130 kw_4_132 kw_p_10 kw_1_11 kw_4_133) rfl rfl rfl (by decide +kernel) ⟨Nat.le_of_ble_eq_true rfl, Nat.le_of_ble_eq_true rfl⟩) ⟨fun a U g mk q => ⟨q.1, ⟨q.2.1.1, q.2.1.2.1, va_K.moved (u := U) (U := U.calling g mk a) (Vm.Alike.refl U.vm) q.2.1.2.2⟩, tk_mv (U := U.calling g mk a) rfl (Vm.Alike.refl U.vm) q.2.2⟩, va_recv hK hP (ci := 4) (q0 := 6) rfl rfl, fun U hU hW => ⟨rfl, ⟨by rw [hU], by rw [hU]; exact hP, va_K.moved hW.alike hK⟩, tk_pass hE hS hU hW.alike⟩⟩ rfl rfl hl.1 rfl (lv_room (Nat.le_of_ble_eq_true rfl)) dX3_readValue_56 ⟨Nat.le_of_ble_eq_true rfl, Nat.le_of_ble_eq_true rfl⟩) hS (fun q _ h9 => aX_up hS q h9) (aX_up hS) (fun r_44 u t H1 locs ht _ hw hB _ hk1 hS => ?_)
      obtain ⟨fv_47, wd_48, ar_49⟩ := u
      obtain ⟨hF_fv_47, hA_ar_49, fr_50, fa_51, wf_52, p_45, p_46, -⟩ := hw
      have wf_52 : wd_48.2 = wd_7.2 := wf_52
      have hP : va_P (dC, dI) vwCl (wsX ob ad cA fv_47 wd_48 ar_49) H1 := by have h9 := hB.1; rw [ht] at h9; exact h9
      have fr_50 : fM [14, 19, 20] fv_6 fv_47 := fr_50
      have fa_51 : fA [] ar_37 ar_49 := fa_51
      have p_46 : (r_44 = 0 ∧ ¬ T9 ((fv_6 14).toInt.toNat) = 29 ∧ fv_47 19 = 1 ∧ (fv_47 20).toInt = (S9 ((fv_6 14).toInt.toNat) : Nat) ∧ (fv_47 14).toInt = (fv_6 14).toInt) ∨ (r_44 = 1 ∧ T9 ((fv_6 14).toInt.toNat) = 29 ∧ ((fv_47 14).toInt = (fv_6 14).toInt + 1 ∧ (fv_47 14).toInt ≤ (c9 : Int)) ∧ fv_47 19 = fv_6 19) := p_46
      generalize H1 = H at hP hS ⊢
      exact W.zret (v := r_44) hx hb hr (iv_nar p_45) (fun t ht hW => ⟨⟨r_44, (fv_47, wd_48, ar_49), rfl, ⟨hF_fv_47, hA_ar_49, (fM_call (fM_call (fM_rf [14, 19, 20] _) fr_9 (by decide)) fr_50 (by decide)), (fA_call (fA_put (fA_call (fA_rf [39] _) fa_10 (by decide)) ear_37 (by decide)) fa_51 (by decide)), (wf_52.trans wf_11), p_45, (show (r_44 = 0 ∧ T9 ((fv 14).toInt.toNat) = 29 ∧ 2000 < N9 ((fv 14).toInt.toNat) ∧ fv_47 19 = 2 ∧ (fv_47 20).toInt = (S9 ((fv 14).toInt.toNat) : Nat)) ∨ (r_44 = 0 ∧ ¬ T9 ((fv 14).toInt.toNat) = 29 ∧ fv_47 19 = 1 ∧ (fv_47 20).toInt = (S9 ((fv 14).toInt.toNat) : Nat)) ∨ (r_44 = 1 ∧ T9 ((fv 14).toInt.toNat) = 29 ∧ ¬ 2000 < N9 ((fv 14).toInt.toNat) ∧ (fv_47 14).toInt = (fv 14).toInt + 1 ∧ fv_47 19 = fv 19) from by have : (fv_6 14).toInt = (fv 14).toInt := congrArg Int32.toInt ((fM_call (fM_rf [] _) fr_9 (by decide)) 14 rfl); have hz9 : j_12 = T9 ((fv 14).toInt.toNat) := (by have h9 := zj_12; exact h9); have hn9 : v_33.toInt = N9 ((fv 14).toInt.toNat) := (by rw [ev_33, show ar_8 37 = ar 37 from ((fA_call (fA_rf [] _) fa_10 (by decide)) 37 rfl)]; exact (hcx ((fv 14).toInt.toNat) (by omega)).2.2); have h8 := p_46; rw [show fv_6 14 = fv 14 from ((fM_call (fM_rf [] _) fr_9 (by decide)) 14 rfl)] at h8; rcases h8 with ⟨a1, b1, c1, d1, e1⟩ | ⟨a1, b1, c1, d1⟩; exact Or.inr (Or.inl ⟨a1, b1, c1, d1⟩); exact Or.inr (Or.inr ⟨a1, b1, by omega, by omega, d1.trans ((fM_call (fM_rf [] _) fr_9 (by decide)) 19 rfl)⟩)), (show (fv_47 14).toInt ≤ (c9 : Int) from by have : (fv_6 14).toInt = (fv 14).toInt := congrArg Int32.toInt ((fM_call (fM_rf [] _) fr_9 (by decide)) 14 rfl); omega), (show r_44 = 1 → ∃ x9 : Int32, ar_49 39 = upd (ar 39) ((fv 15).toInt.toNat) x9 ∧ x9.toInt = N9 ((fv 14).toInt.toNat) from fun _ => by have : (fv_6 14).toInt = (fv 14).toInt := congrArg Int32.toInt ((fM_call (fM_rf [] _) fr_9 (by decide)) 14 rfl); have : (fv_6 15).toInt = (fv 15).toInt := congrArg Int32.toInt ((fM_call (fM_rf [] _) fr_9 (by decide)) 15 rfl); have : (fv_47 15).toInt = (fv_6 15).toInt := congrArg Int32.toInt ((fM_call (fM_rf [14, 19, 20] _) fr_50 (by decide)) 15 rfl); have hz9 : j_12 = T9 ((fv 14).toInt.toNat) := (by have h9 := zj_12; exact h9); have hn9 : v_33.toInt = N9 ((fv 14).toInt.toNat) := (by rw [ev_33, show ar_8 37 = ar 37 from ((fA_call (fA_rf [] _) fa_10 (by decide)) 37 rfl)]; rw [show Int32.toNatClampNeg (fv 14) = (fv 14).toInt.toNat from (show (fv 14).toInt.toNat = (fv 14).toInt.toNat from by omega)]; exact (hcx ((fv 14).toInt.toNat) (by omega)).2.2); exact ⟨v_33, by rw [show ar_49 39 = ar_37 39 from ((fA_call (fA_rf [] _) fa_51 (by decide)) 39 rfl)]; rw [ear_37]; show upd (ar_8 39) (Int32.toNatClampNeg (fv 15)) v_33 = _; rw [show ar_8 39 = ar 39 from ((fA_call (fA_rf [] _) fa_10 (by decide)) 39 rfl)]; exact congrArg (fun z9 => upd (ar 39) z9 v_33) (show (fv 15).toInt.toNat = (fv 15).toInt.toNat from by omega), by first | exact hn9 | omega⟩), trivial⟩, ⟨by rw [ht]; exact hP, va_K.moved hW.alike hK⟩⟩, hS.F ht⟩) hS.2.2 dX3_readValue_59
    · skip
      have i_53 : 2001 ≤ v_33.toInt ∧ v_33.toInt ≤ 2147483647 := iv_lt2 (⟨by decide, by decide⟩ : (2000 : Int) ≤ (2000 : Int32).toInt ∧ (2000 : Int32).toInt ≤ 2000) (iv_any v_33) (Int32.not_le.mp c_34)
      refine lv_aload_n hx hb dX3_readValue_25 rfl (lv_at hl 0 rfl) ?_
      refine lv_iconst (v := 2) hx hb dX3_readValue_26 (by decide) ?_
      have z_54 : (fv_6 14).toInt = (fv 14).toInt := congrArg Int32.toInt ((fr_9 14 rfl))
      have z_55 : 0 ≤ (fv_6 14).toInt ∧ (fv_6 14).toInt ≤ 300 := hF_fv_6 14
      refine va_calli (va_runV (As := [.int 2]) (rest := []) ⟨hx, hb, hml, hown, hts⟩ (x_failC l dC dI H.size ob ad cA hd fv_6 wd_7 ar_8 hF_fv_6 hA_ar_8 2) (cwV 1 hts (gV kw_4_110 kw_4_112 kw_p_6 kw_1_11 kw_4_113) rfl rfl rfl (by decide +kernel) ⟨Nat.le_of_ble_eq_true rfl, Nat.le_of_ble_eq_true rfl⟩) ⟨fun a U g mk q => ⟨q.1, q.2.1, q.2.2.1, va_K.moved (u := U) (U := U.calling g mk a) (Vm.Alike.refl U.vm) q.2.2.2⟩, va_recv hK hP (ci := 4) (q0 := 6) rfl rfl, fun U hU hW => ⟨rfl, by rw [hU], by rw [hU]; exact hP, va_K.moved hW.alike hK⟩⟩ rfl rfl hl.1 rfl (lv_room (Nat.le_of_ble_eq_true rfl)) dX3_readValue_27 ⟨Nat.le_of_ble_eq_true rfl, Nat.le_of_ble_eq_true rfl⟩) hS (fun q _ h9 => aX_up hS q h9) (aX_up hS) (fun r_56 u t H1 locs ht _ hw hB _ hk1 hS => ?_)
      obtain ⟨fv_61, wd_62, ar_63⟩ := u
      obtain ⟨hF_fv_61, hA_ar_63, fr_64, fa_65, wf_66, p_57, p_58, p_59, p_60, -⟩ := hw
      have wf_66 : wd_62.2 = wd_7.2 := wf_66
      have hP : va_P (dC, dI) vwCl (wsX ob ad cA fv_61 wd_62 ar_63) H1 := by have h9 := hB.1; rw [ht] at h9; exact h9
      have fr_64 : fM [19, 20] fv_6 fv_61 := fr_64
      have fa_65 : fA [] ar_8 ar_63 := fa_65
      have p_59 : fv_61 19 = (2 : Int32) := p_59
      have p_60 : fv_61 20 = ar_8 36 ((fv_6 14).toInt.toNat) := p_60
      generalize H1 = H at hP hS ⊢
      rcases p_58 with ⟨rfl, p_58⟩
      · skip
        have z_67 : (0 : Int32).toInt = 0 := by decide
        exact W.zret (v := 0) hx hb hr (by decide) (fun t ht hW => ⟨⟨0, (fv_61, wd_62, ar_63), rfl, ⟨hF_fv_61, hA_ar_63, (fM_call (fM_call (fM_rf [14, 19, 20] _) fr_9 (by decide)) fr_64 (by decide)), (fA_call (fA_call (fA_rf [39] _) fa_10 (by decide)) fa_65 (by decide)), (wf_66.trans wf_11), (iv_w (⟨by decide, by decide⟩ : (0 : Int) ≤ (0 : Int32).toInt ∧ (0 : Int32).toInt ≤ 0) (by decide) (by decide)), (show ((0 : Int32) = 0 ∧ T9 ((fv 14).toInt.toNat) = 29 ∧ 2000 < N9 ((fv 14).toInt.toNat) ∧ fv_61 19 = 2 ∧ (fv_61 20).toInt = (S9 ((fv 14).toInt.toNat) : Nat)) ∨ ((0 : Int32) = 0 ∧ ¬ T9 ((fv 14).toInt.toNat) = 29 ∧ fv_61 19 = 1 ∧ (fv_61 20).toInt = (S9 ((fv 14).toInt.toNat) : Nat)) ∨ ((0 : Int32) = 1 ∧ T9 ((fv 14).toInt.toNat) = 29 ∧ ¬ 2000 < N9 ((fv 14).toInt.toNat) ∧ (fv_61 14).toInt = (fv 14).toInt + 1 ∧ fv_61 19 = fv 19) from by have : (fv_6 14).toInt = (fv 14).toInt := congrArg Int32.toInt ((fM_call (fM_rf [] _) fr_9 (by decide)) 14 rfl); have : (fv_61 14).toInt = (fv_6 14).toInt := congrArg Int32.toInt ((fM_call (fM_rf [19, 20] _) fr_64 (by decide)) 14 rfl); have hz9 : j_12 = T9 ((fv 14).toInt.toNat) := (by have h9 := zj_12; exact h9); have hn9 : v_33.toInt = N9 ((fv 14).toInt.toNat) := (by rw [ev_33, show ar_8 37 = ar 37 from ((fA_call (fA_rf [] _) fa_10 (by decide)) 37 rfl)]; exact (hcx ((fv 14).toInt.toNat) (by omega)).2.2); exact Or.inl ⟨rfl, by omega, by omega, p_59, (by have h9 := p_60; rw [show ar_8 36 = ar 36 from ((fA_call (fA_rf [] _) fa_10 (by decide)) 36 rfl), show fv_6 14 = fv 14 from ((fM_call (fM_rf [] _) fr_9 (by decide)) 14 rfl)] at h9; rw [h9]; exact (hcx ((fv 14).toInt.toNat) (by omega)).2.1)⟩), (show (fv_61 14).toInt ≤ (c9 : Int) from by have : (fv_6 14).toInt = (fv 14).toInt := congrArg Int32.toInt ((fM_call (fM_rf [] _) fr_9 (by decide)) 14 rfl); have : (fv_61 14).toInt = (fv_6 14).toInt := congrArg Int32.toInt ((fM_call (fM_rf [19, 20] _) fr_64 (by decide)) 14 rfl); omega), (show (0 : Int32) = 1 → ∃ x9 : Int32, ar_63 39 = upd (ar 39) ((fv 15).toInt.toNat) x9 ∧ x9.toInt = N9 ((fv 14).toInt.toNat) from fun w => absurd w (by decide)), trivial⟩, ⟨by rw [ht]; exact hP, va_K.moved hW.alike hK⟩⟩, hS.F ht⟩) hS.2.2 dX3_readValue_30

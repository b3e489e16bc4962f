set_option maxHeartbeats 4000000 in
set_option maxRecDepth 100000 in
theorem x_morningE (l : Launch) (dC : Nat → ClassId) (dI : Nat → Nat → Nat) (sz : Nat) (ob ad : Nat → Nat) (cA : Nat → ClassId) (hd : dX ob ad) (fv : Nat → Int32) (wd : xT) (ar : Nat → Nat → Int32) (hF_fv : rX fv) (hA_ar : rB ar) (gla : Nat → Nat) (gfr : Nat → Int32) (gra : Nat → Nat → Nat) (grc : Nat → Nat → ClassId) (gln gcn : Nat → Nat) (glr : Nat → Nat → Nat → Int32) (ce : ClassId) (ef : Nat → Option Nat) (hgds : ∀ i : Nat, (i : Int) ≤ (fv 30).toInt → ∀ j, j < gln i → cd_gd (cd_gX (glr i) j)) (hAs : ∀ i : Nat, (i : Int) ≤ (fv 30).toInt → ∀ (D : Nat → Nat → Int32) (t : Nat) (n ti : Int), 0 ≤ (mo_A D (cd_Wf (cd_gX (glr i)) (gln i) 0) t 3 n ti).toInt) (hp_mR : mx_R fv ar) (hp_f01 : mx_f01 ar) : Met l yX11_morning (.code yX11_morning cX11_morning 2 (some .int) :: lw_good) ({ frames := 9, cells := 0, slots := 0, locals := 213 }) (va_Pc [.ref (ob 0)] (fun U => prX dC dI ob ad cA fv wd ar sz U ∧ lsA dC dI ob ad gla gfr gra grc gln gcn glr ce ef (fv 30).toInt wd.2.2.2 sz U)) (va_Qi (fun (r : Int32) (u : xS) => rX u.1 ∧ rB u.2.2 ∧ fM [3, 6, 8, 22, 23, 24] fv u.1 ∧ fA [4, 12, 13, 15, 16, 17, 18, 19, 24, 25, 26, 27, 35, 44, 45, 46, 47, 48, 49, 50, 51, 52, 53, 54, 55, 56, 57, 58, 59, 60, 61, 62, 63, 64] ar u.2.2 ∧ (u.2.1.2.2.2 = wd.2.2.2) ∧ (u.2.1.2.1 = wd.2.1) ∧ (((fv 3).toInt = (fv 7).toInt ∧ r = -1 ∧ u.1 = fv ∧ u.2.2 = ar) ∨ (¬ ((fv 3).toInt = (fv 7).toInt) ∧ u.1 3 = fv 7 ∧ ∃ (fL : Nat → Int32) (aL : Nat → Nat → Int32) (S9 : Nat → Nat → Int32), fM [3, 6, 22, 23, 24] fv fL ∧ fA [4, 44, 45, 46, 47, 48, 49, 50, 51, 52, 53, 54, 55, 56, 57, 58, 59, 60, 61, 62, 63, 64] ar aL ∧ fL 22 = -1 ∧ S9 13 0 = fv 8 ∧ mx_S fL aL = mo_xd (mx_D fL aL) (mx_G ar) (mo_A (mx_D fL aL) (cd_Wf (cd_gX (glr ((cd_nw (fun i => (gfr i).toInt) (fv 7).toInt ((fv 30).toInt.toNat)).1))) (gln ((cd_nw (fun i => (gfr i).toInt) (fv 7).toInt ((fv 30).toInt.toNat)).1)) 0)) ((fv 10).toInt.toNat) ((fv 11).toInt.toNat) (mo_st (mx_D fL aL) ar ((fv 10).toInt.toNat) ((fv 11).toInt.toNat) S9) 840 ∧ r.toInt = mo_ot (mx_D fL aL) (mx_S fL aL) ((fv 10).toInt.toNat) ∧ mx_sp aL u.2.2 (mo_dkv (cd_f (aL 4)) (cd_Wf (cd_gX (glr ((cd_nw (fun i => (gfr i).toInt) (fv 7).toInt ((fv 30).toInt.toNat)).1))) (gln ((cd_nw (fun i => (gfr i).toInt) (fv 7).toInt ((fv 30).toInt.toNat)).1)) 0)) ((fv 10).toInt.toNat) ∧ mx_c1 (aL 51) (aL 24) (u.2.2 24) ((fv 11).toInt.toNat) ∧ mx_c1 (aL 52) (aL 25) (u.2.2 25) ((fv 11).toInt.toNat) ∧ mx_c1 (aL 53) (aL 26) (u.2.2 26) ((fv 11).toInt.toNat) ∧ mx_c1 (aL 54) (aL 27) (u.2.2 27) ((fv 11).toInt.toNat) ∧ mx_c1 (aL 56) (aL 35) (u.2.2 35) ((fv 12).toInt.toNat) ∧ u.1 8 = fL 23)) ∧ (mx_R u.1 u.2.2) ∧ (mx_f01 u.2.2) ∧ True) (enX dC dI ob ad cA) (aX ob ad sz)) 0 0 (aX ob ad sz) := by
  refine Met.ofW (cc := cX11_morning) (maxL := 2) (ret := (some .int)) (by decide) rfl ?_
  intro p e s m args below meth c s₁ B hml hv
  obtain ⟨rfl, ⟨hsz, hP, hK⟩, hG⟩ := hv
  have hx := B.exec
  have hb := B.bytes
  have hr := B.returns
  have hts := atoms_spec (ws := (.code yX11_morning cX11_morning 2 (some .int) :: lw_good)) B.pre
  have htg : ∀ w ∈ lw_good, w.before _ s = true := fun w hw => hts w (List.mem_cons_of_mem _ hw)
  have hown : s.vm.findClass RX11 = some m.cls := findClass_of_methodNamed B.named
  have hlocks := B.notSynchronized
  subst hsz
  have hS : va_S (aX ob ad s.heap.size) s.heap s.heap [] := va_S.rf
  have hl := lv_entry ([.ref (ob 0)]) (n := 2) (Nat.le_of_ble_eq_true rfl)
  rw [lg_entry_eq]
  generalize (lg_sl ([.ref (ob 0)]) ++ List.replicate (2 - (lg_sl ([.ref (ob 0)])).length) Slot.unset).toArray = ls at hl ⊢
  have hl : lv_has ls 2 [(0, .ref (ob 0))] := hl
  refine lv_aload_n hx hb dX11_morning_0 rfl (lv_at hl 0 rfl) ?_
  refine gX_X11_47 hx hb htg hown hK hP dX11_morning_1 ?_
  refine lv_aload_n hx hb dX11_morning_4 rfl (lv_at hl 0 rfl) ?_
  refine gX_X11_16 hx hb htg hown hK hP dX11_morning_5 ?_
  refine gX_X11_57 hx hb htg hown hK hP dX11_morning_8 ?_
  have i_1 : 0 ≤ (fv 7).toInt ∧ (fv 7).toInt ≤ 199 := hF_fv 7
  refine lv_icmp_ne (tgt := 16) hx hb dX11_morning_11 (by decide) (fun c_2 => ?_) (fun c_2 => ?_)
  · skip
    have k_3 : ¬ (fv 3).toInt = (fv 7).toInt := fun q => c_2 (Int32.toInt_inj.mp q)
    refine lv_aload_n hx hb dX11_morning_16 rfl (lv_at hl 0 rfl) ?_
    refine lv_aload_n hx hb dX11_morning_17 rfl (lv_at hl 0 rfl) ?_
    refine gX_X11_16 hx hb htg hown hK hP dX11_morning_18 ?_
    refine gX_X11_57 hx hb htg hown hK hP dX11_morning_21 ?_
    refine pX_X11_47 hx hb htg hown hK hP hS hd dX11_morning_24 (fun H locs fv_4 efv_4 hP hS => ?_)
    have hF_fv_4 : rX fv_4 := rX_put hF_fv efv_4 (iv_any _)
    refine lv_aload_n hx hb dX11_morning_27 rfl (lv_at hl 0 rfl) ?_
    refine gX_X11_32 hx hb htg hown hK hP dX11_morning_28 ?_
    refine lv_iconst (v := (-1)) hx hb dX11_morning_31 (by decide) ?_
    have z_5 : (fv_4 30).toInt = (fv 30).toInt := congrArg Int32.toInt ((congrFun efv_4 30))
    have z_6 : 0 ≤ (fv_4 30).toInt ∧ (fv_4 30).toInt ≤ 10 := hF_fv_4 30
    have z_7 : (fv_4 30).toInt = (fv 30).toInt := congrArg Int32.toInt ((congrFun efv_4 30))
    have z_8 : 0 ≤ (fv_4 30).toInt ∧ (fv_4 30).toInt ≤ 10 := hF_fv_4 30
    have z_9 : (fv_4 30).toInt = (fv 30).toInt := congrArg Int32.toInt ((congrFun efv_4 30))
    have z_10 : 0 ≤ (fv_4 30).toInt ∧ (fv_4 30).toInt ≤ 10 := hF_fv_4 30
    have z_11 : (fv_4 7).toInt = (fv 7).toInt := congrArg Int32.toInt ((congrFun efv_4 7))
    have z_12 : 0 ≤ (fv_4 7).toInt ∧ (fv_4 7).toInt ≤ 199 := hF_fv_4 7
    have z_13 : (fv_4 10).toInt = (fv 10).toInt := congrArg Int32.toInt ((congrFun efv_4 10))
    have z_14 : 0 ≤ (fv_4 10).toInt ∧ (fv_4 10).toInt ≤ 40 := hF_fv_4 10
    have z_15 : (fv_4 11).toInt = (fv 11).toInt := congrArg Int32.toInt ((congrFun efv_4 11))
    have z_16 : 0 ≤ (fv_4 11).toInt ∧ (fv_4 11).toInt ≤ 20 := hF_fv_4 11
    have z_17 : (fv_4 30).toInt = (fv 30).toInt := congrArg Int32.toInt ((congrFun efv_4 30))
    have z_18 : 0 ≤ (fv_4 30).toInt ∧ (fv_4 30).toInt ≤ 10 := hF_fv_4 30
    refine va_calli (va_runV (As := [.int (-1)]) (rest := []) ⟨hx, hb, hml, hown, hts⟩ (x_leadE l dC dI H.size ob ad cA hd fv_4 wd ar hF_fv_4 hA_ar gla gfr gra grc gln gcn glr ce ef (-1) (fun i9 h9 => hgds i9 (by rw [show fv_4 30 = fv 30 from ((fM_put (fM_rf [3] _) efv_4 (by decide)) 30 rfl)] at h9; exact h9)) (fun i9 h9 => hAs i9 (by rw [show fv_4 30 = fv 30 from ((fM_put (fM_rf [3] _) efv_4 (by decide)) 30 rfl)] at h9; exact h9)) (mx_R_fr hp_mR (fM_put (fM_rf [3] _) efv_4 (by decide)) (fA_rf [] _) rfl rfl rfl rfl rfl rfl rfl rfl rfl rfl rfl rfl rfl rfl rfl rfl rfl rfl rfl rfl rfl rfl rfl rfl rfl rfl rfl) hp_f01) (cwV 1 hts (gV kw_5_49 kw_5_50 kw_5_51 kw_1_12 kw_5_52) rfl rfl rfl (by decide +kernel) ⟨Nat.le_of_ble_eq_true rfl, Nat.le_of_ble_eq_true rfl⟩) ⟨fun a U g mk q => ⟨q.1, ⟨q.2.1.1, q.2.1.2.1, va_K.moved (u := U) (U := U.calling g mk a) (Vm.Alike.refl U.vm) q.2.1.2.2⟩, ls_mv (U := U.calling g mk a) rfl (Vm.Alike.refl U.vm) q.2.2⟩, va_recv hK hP (ci := 2) (q0 := 8) rfl rfl, fun U hU hW => ⟨rfl, ⟨by rw [hU], by rw [hU]; exact hP, va_K.moved hW.alike hK⟩, ls_eq (ls_pass hG hS hU hW.alike) (congrArg Int32.toInt ((congrFun efv_4 30))) rfl⟩⟩ rfl rfl hl.1 rfl (lv_room (Nat.le_of_ble_eq_true rfl)) dX11_morning_32 ⟨Nat.le_of_ble_eq_true rfl, Nat.le_of_ble_eq_true rfl⟩) hS (fun q _ h9 => aX_up hS q h9) (aX_up hS) (fun r_19 u t H1 locs ht _ hw hB _ hk1 hS => ?_)
    obtain ⟨fv_28, wd_29, ar_30⟩ := u
    obtain ⟨hF_fv_28, hA_ar_30, fr_31, fa_32, p_20, p_21, p_22, p_23, p_24, p_25, p_26, p_27, -⟩ := hw
    have hP : va_P (dC, dI) vwCl (wsX ob ad cA fv_28 wd_29 ar_30) H1 := by have h9 := hB.1; rw [ht] at h9; exact h9
    have fr_31 : fM [6, 22, 23, 24] fv_4 fv_28 := fr_31
    have fa_32 : fA [4, 44, 45, 46, 47, 48, 49, 50, 51, 52, 53, 54, 55, 56, 57, 58, 59, 60, 61, 62, 63, 64] ar ar_30 := fa_32
    have p_26 : mx_R fv_28 ar_30 := p_26
    have p_27 : mx_f01 ar_30 := p_27
    have p_20 : wd_29.2.2.2 = wd.2.2.2 := p_20
    have p_21 : wd_29.2.1 = wd.2.1 := p_21
    have p_22 : ∃ z : Nat, (z : Int) ≤ (fv_4 30).toInt ∧ wd_29.2.2.1 = gla z ∧ z = ((cd_nw (fun i => (gfr i).toInt) (fv_4 7).toInt ((fv_4 30).toInt.toNat)).1) := p_22
    have p_23 : ∃ S9 : Nat → Nat → Int32, S9 13 0 = fv_4 8 ∧ mx_S fv_28 ar_30 = mo_xd (mx_D fv_28 ar_30) (mx_G ar) (mo_A (mx_D fv_28 ar_30) (cd_Wf (cd_gX (glr ((cd_nw (fun i => (gfr i).toInt) (fv_4 7).toInt ((fv_4 30).toInt.toNat)).1))) (gln ((cd_nw (fun i => (gfr i).toInt) (fv_4 7).toInt ((fv_4 30).toInt.toNat)).1)) 0)) ((fv_4 10).toInt.toNat) ((fv_4 11).toInt.toNat) (mo_st (mx_D fv_28 ar_30) ar ((fv_4 10).toInt.toNat) ((fv_4 11).toInt.toNat) S9) 840 := p_23
    have p_24 : r_19.toInt = mo_ot (mx_D fv_28 ar_30) (mx_S fv_28 ar_30) ((fv_4 10).toInt.toNat) := p_24
    have p_25 : fv_28 22 = ((-1) : Int32) := p_25
    generalize H1 = H at hP hS ⊢
    obtain ⟨z9, hz9, hlr, hzz⟩ := p_22
    have hz8 : (z9 : Int) ≤ (fv 30).toInt := by omega
    have hL := (hG.2.1 z9 hz8).2
    have hlq := (hG.2.1 z9 hz8).1
    refine lv_istore_n (lv' := [(1, .int r_19), (0, .ref (ob 0))]) hx hb dX11_morning_35 rfl hl (by decide) rfl (fun ls hl => ?_)
    refine lv_aload_n hx hb dX11_morning_36 rfl (lv_at hl 1 rfl) ?_
    refine gX_X11_32 hx hb htg hown hK hP dX11_morning_37 ?_
    have z_34 : (fv_28 10).toInt = (fv 10).toInt := congrArg Int32.toInt ((fr_31 10 rfl).trans ((congrFun efv_4 10)))
    have z_35 : 0 ≤ (fv_28 10).toInt ∧ (fv_28 10).toInt ≤ 40 := hF_fv_28 10
    have z_36 : (fv_28 11).toInt = (fv 11).toInt := congrArg Int32.toInt ((fr_31 11 rfl).trans ((congrFun efv_4 11)))
    have z_37 : 0 ≤ (fv_28 11).toInt ∧ (fv_28 11).toInt ≤ 20 := hF_fv_28 11
    have z_38 : (fv_28 12).toInt = (fv 12).toInt := congrArg Int32.toInt ((fr_31 12 rfl).trans ((congrFun efv_4 12)))
    have z_39 : 0 ≤ (fv_28 12).toInt ∧ (fv_28 12).toInt ≤ 80 := hF_fv_28 12
    refine va_callv (va_runV (As := []) (rest := []) ⟨hx, hb, hml, hown, hts⟩ (x_settleE l dC dI H.size ob ad cA hd fv_28 wd_29 ar_30 hF_fv_28 hA_ar_30 (gla z9) (gfr z9) (gra z9) (grc z9) (gln z9) (gcn z9) (glr z9) hlq hlr (hgds z9 (by omega)) p_27) (cwV 0 hts (gV kw_5_211 kw_5_212 kw_5_213 kw_1_12 kw_5_214) rfl rfl rfl (by decide +kernel) ⟨Nat.le_of_ble_eq_true rfl, Nat.le_of_ble_eq_true rfl⟩) ⟨fun a U g mk q => ⟨q.1, ⟨q.2.1.1, q.2.1.2.1, va_K.moved (u := U) (U := U.calling g mk a) (Vm.Alike.refl U.vm) q.2.1.2.2⟩, ⟨q.2.2.1, va_K.moved (u := U) (U := U.calling g mk a) (Vm.Alike.refl U.vm) q.2.2.2.1, q.2.2.2.2⟩⟩, va_recv hK hP (ci := 2) (q0 := 8) rfl rfl, fun U hU hW => ⟨rfl, ⟨by rw [hU], by rw [hU]; exact hP, va_K.moved hW.alike hK⟩, lw_pass hL hS hU hW.alike⟩⟩ rfl rfl hl.1 rfl (lv_room (Nat.le_of_ble_eq_true rfl)) dX11_morning_40 ⟨Nat.le_of_ble_eq_true rfl, Nat.le_of_ble_eq_true rfl⟩) hS (fun q _ h9 => aX_up hS q h9) (aX_up hS) (fun u t H1 locs ht _ hw hB _ hk1 hS => ?_)
    obtain ⟨fv_48, wd_49, ar_50⟩ := u
    obtain ⟨hF_fv_48, hA_ar_50, fr_51, fa_52, wf_53, p_41, p_42, p_43, p_44, p_45, p_46, p_47, -⟩ := hw
    have wf_53 : wd_49.2 = wd_29.2 := wf_53
    have hP : va_P (dC, dI) vwCl (wsX ob ad cA fv_48 wd_49 ar_50) H1 := by have h9 := hB.1; rw [ht] at h9; exact h9
    have fr_51 : fM [8] fv_28 fv_48 := fr_51
    have fa_52 : fA [12, 13, 15, 16, 17, 18, 19, 24, 25, 26, 27, 35] ar_30 ar_50 := fa_52
    have p_41 : mx_sp ar_30 ar_50 (mo_dkv (cd_f (ar_30 4)) (cd_Wf (cd_gX (glr z9)) (gln z9) 0)) ((fv_28 10).toInt.toNat) := p_41
    have p_42 : mx_c1 (ar_30 51) (ar_30 24) (ar_50 24) ((fv_28 11).toInt.toNat) := p_42
    have p_43 : mx_c1 (ar_30 52) (ar_30 25) (ar_50 25) ((fv_28 11).toInt.toNat) := p_43
    have p_44 : mx_c1 (ar_30 53) (ar_30 26) (ar_50 26) ((fv_28 11).toInt.toNat) := p_44
    have p_45 : mx_c1 (ar_30 54) (ar_30 27) (ar_50 27) ((fv_28 11).toInt.toNat) := p_45
    have p_46 : mx_c1 (ar_30 56) (ar_30 35) (ar_50 35) ((fv_28 12).toInt.toNat) := p_46
    have p_47 : fv_48 8 = fv_28 23 := p_47
    generalize H1 = H at hP hS ⊢
    have hp_54 : mx_R fv_48 ar_50 := mx_R_set p_26 (fM_call (fM_rf [8] _) fr_51 (by decide)) (fA_call (fA_rf [12, 13, 15, 16, 17, 18, 19, 24, 25, 26, 27, 35] _) fa_52 (by decide)) rfl rfl
    refine lv_iload_n hx hb dX11_morning_43 rfl (lv_at hl 0 rfl) ?_
    exact W.iret (v := r_19) hx hb hr (fun t ht hW => ⟨⟨r_19, (fv_48, wd_49, ar_50), rfl, ⟨hF_fv_48, hA_ar_50, (fM_call (fM_call (fM_put (fM_rf [3, 6, 8, 22, 23, 24] _) efv_4 (by decide)) fr_31 (by decide)) fr_51 (by decide)), (fA_call (fA_call (fA_rf [4, 12, 13, 15, 16, 17, 18, 19, 24, 25, 26, 27, 35, 44, 45, 46, 47, 48, 49, 50, 51, 52, 53, 54, 55, 56, 57, 58, 59, 60, 61, 62, 63, 64] _) fa_32 (by decide)) fa_52 (by decide)), (show wd_49.2.2.2 = wd.2.2.2 from ((congrArg (fun z => z.2.2) wf_53)).trans (p_20)), (show wd_49.2.1 = wd.2.1 from ((congrArg (fun z => z.1) wf_53)).trans (p_21)), (show ((fv 3).toInt = (fv 7).toInt ∧ r_19 = -1 ∧ fv_48 = fv ∧ ar_50 = ar) ∨ (¬ ((fv 3).toInt = (fv 7).toInt) ∧ fv_48 3 = fv 7 ∧ ∃ (fL : Nat → Int32) (aL : Nat → Nat → Int32) (S9 : Nat → Nat → Int32), fM [3, 6, 22, 23, 24] fv fL ∧ fA [4, 44, 45, 46, 47, 48, 49, 50, 51, 52, 53, 54, 55, 56, 57, 58, 59, 60, 61, 62, 63, 64] ar aL ∧ fL 22 = -1 ∧ S9 13 0 = fv 8 ∧ mx_S fL aL = mo_xd (mx_D fL aL) (mx_G ar) (mo_A (mx_D fL aL) (cd_Wf (cd_gX (glr ((cd_nw (fun i => (gfr i).toInt) (fv 7).toInt ((fv 30).toInt.toNat)).1))) (gln ((cd_nw (fun i => (gfr i).toInt) (fv 7).toInt ((fv 30).toInt.toNat)).1)) 0)) ((fv 10).toInt.toNat) ((fv 11).toInt.toNat) (mo_st (mx_D fL aL) ar ((fv 10).toInt.toNat) ((fv 11).toInt.toNat) S9) 840 ∧ r_19.toInt = mo_ot (mx_D fL aL) (mx_S fL aL) ((fv 10).toInt.toNat) ∧ mx_sp aL ar_50 (mo_dkv (cd_f (aL 4)) (cd_Wf (cd_gX (glr ((cd_nw (fun i => (gfr i).toInt) (fv 7).toInt ((fv 30).toInt.toNat)).1))) (gln ((cd_nw (fun i => (gfr i).toInt) (fv 7).toInt ((fv 30).toInt.toNat)).1)) 0)) ((fv 10).toInt.toNat) ∧ mx_c1 (aL 51) (aL 24) (ar_50 24) ((fv 11).toInt.toNat) ∧ mx_c1 (aL 52) (aL 25) (ar_50 25) ((fv 11).toInt.toNat) ∧ mx_c1 (aL 53) (aL 26) (ar_50 26) ((fv 11).toInt.toNat) ∧ mx_c1 (aL 54) (aL 27) (ar_50 27) ((fv 11).toInt.toNat) ∧ mx_c1 (aL 56) (aL 35) (ar_50 35) ((fv 12).toInt.toNat) ∧ fv_48 8 = fL 23) from by have hz9e := (show z9 = ((cd_nw (fun i => (gfr i).toInt) (fv 7).toInt ((fv 30).toInt.toNat)).1) from (by have h9 := hzz; simp only [show fv_4 7 = fv 7 from ((fM_put (fM_rf [3] _) efv_4 (by decide)) 7 rfl), show fv_4 30 = fv 30 from ((fM_put (fM_rf [3] _) efv_4 (by decide)) 30 rfl)] at h9; exact h9)); obtain ⟨S9, hS9, hS8⟩ := p_23; (try rw [show fv_4 8 = fv 8 from ((fM_put (fM_rf [3] _) efv_4 (by decide)) 8 rfl)] at hS9); (try rw [show fv_4 8 = fv 8 from ((fM_put (fM_rf [3] _) efv_4 (by decide)) 8 rfl)] at hS8); (try rw [show fv_4 10 = fv 10 from ((fM_put (fM_rf [3] _) efv_4 (by decide)) 10 rfl)] at hS9); (try rw [show fv_4 10 = fv 10 from ((fM_put (fM_rf [3] _) efv_4 (by decide)) 10 rfl)] at hS8); (try rw [show fv_4 11 = fv 11 from ((fM_put (fM_rf [3] _) efv_4 (by decide)) 11 rfl)] at hS9); (try rw [show fv_4 11 = fv 11 from ((fM_put (fM_rf [3] _) efv_4 (by decide)) 11 rfl)] at hS8); (try rw [show fv_4 12 = fv 12 from ((fM_put (fM_rf [3] _) efv_4 (by decide)) 12 rfl)] at hS9); (try rw [show fv_4 12 = fv 12 from ((fM_put (fM_rf [3] _) efv_4 (by decide)) 12 rfl)] at hS8); (try rw [show fv_4 7 = fv 7 from ((fM_put (fM_rf [3] _) efv_4 (by decide)) 7 rfl)] at hS9); (try rw [show fv_4 7 = fv 7 from ((fM_put (fM_rf [3] _) efv_4 (by decide)) 7 rfl)] at hS8); (try rw [show fv_4 30 = fv 30 from ((fM_put (fM_rf [3] _) efv_4 (by decide)) 30 rfl)] at hS9); (try rw [show fv_4 30 = fv 30 from ((fM_put (fM_rf [3] _) efv_4 (by decide)) 30 rfl)] at hS8); exact Or.inr ⟨by omega, (show fv_48 3 = fv 7 from (fr_51 3 rfl).trans ((fr_31 3 rfl).trans ((congrFun efv_4 3)))), fv_28, ar_30, S9, (fM_call (fM_put (fM_rf [3, 6, 22, 23, 24] _) efv_4 (by decide)) fr_31 (by decide)), (fA_call (fA_rf [4, 44, 45, 46, 47, 48, 49, 50, 51, 52, 53, 54, 55, 56, 57, 58, 59, 60, 61, 62, 63, 64] _) fa_32 (by decide)), p_25, hS9, hS8, (by have h9 := p_24; simp only [show fv_4 10 = fv 10 from ((fM_put (fM_rf [3] _) efv_4 (by decide)) 10 rfl)] at h9; exact h9), (by have h9 := p_41; rw [show fv_28 10 = fv 10 from ((fM_call (fM_put (fM_rf [3, 6, 22, 23, 24] _) efv_4 (by decide)) fr_31 (by decide)) 10 rfl)] at h9; rw [← hz9e]; exact h9), (by have h9 := p_42; rw [show fv_28 11 = fv 11 from ((fM_call (fM_put (fM_rf [3, 6, 22, 23, 24] _) efv_4 (by decide)) fr_31 (by decide)) 11 rfl)] at h9; exact h9), (by have h9 := p_43; rw [show fv_28 11 = fv 11 from ((fM_call (fM_put (fM_rf [3, 6, 22, 23, 24] _) efv_4 (by decide)) fr_31 (by decide)) 11 rfl)] at h9; exact h9), (by have h9 := p_44; rw [show fv_28 11 = fv 11 from ((fM_call (fM_put (fM_rf [3, 6, 22, 23, 24] _) efv_4 (by decide)) fr_31 (by decide)) 11 rfl)] at h9; exact h9), (by have h9 := p_45; rw [show fv_28 11 = fv 11 from ((fM_call (fM_put (fM_rf [3, 6, 22, 23, 24] _) efv_4 (by decide)) fr_31 (by decide)) 11 rfl)] at h9; exact h9), (by have h9 := p_46; rw [show fv_28 12 = fv 12 from ((fM_call (fM_put (fM_rf [3, 6, 22, 23, 24] _) efv_4 (by decide)) fr_31 (by decide)) 12 rfl)] at h9; exact h9), p_47⟩), hp_54, (mx_f01_fr p_27 (fA_call (fA_rf [12, 13, 15, 16, 17, 18, 19, 24, 25, 26, 27, 35] _) fa_52 (by decide)) rfl), trivial⟩, ⟨by rw [ht]; exact hP, va_K.moved hW.alike hK⟩⟩, hS.F ht⟩) hS.2.2 dX11_morning_44
  · skip
    have i_55 : 0 ≤ (fv 3).toInt ∧ (fv 3).toInt ≤ 199 := iv_eq1 i_1 c_2
    have k_56 := congrArg Int32.toInt c_2
    refine lv_iconst (v := (-1)) hx hb dX11_morning_14 (by decide) ?_
    have z_57 : ((-1) : Int32).toInt = (-1) := by decide
    exact W.iret (v := (-1)) hx hb hr (fun t ht hW => ⟨⟨(-1), (fv, wd, ar), rfl, ⟨hF_fv, hA_ar, (fM_rf [3, 6, 8, 22, 23, 24] _), (fA_rf [4, 12, 13, 15, 16, 17, 18, 19, 24, 25, 26, 27, 35, 44, 45, 46, 47, 48, 49, 50, 51, 52, 53, 54, 55, 56, 57, 58, 59, 60, 61, 62, 63, 64] _), (show wd.2.2.2 = wd.2.2.2 from rfl), (show wd.2.1 = wd.2.1 from rfl), (show ((fv 3).toInt = (fv 7).toInt ∧ ((-1) : Int32) = -1 ∧ fv = fv ∧ ar = ar) ∨ (¬ ((fv 3).toInt = (fv 7).toInt) ∧ fv 3 = fv 7 ∧ ∃ (fL : Nat → Int32) (aL : Nat → Nat → Int32) (S9 : Nat → Nat → Int32), fM [3, 6, 22, 23, 24] fv fL ∧ fA [4, 44, 45, 46, 47, 48, 49, 50, 51, 52, 53, 54, 55, 56, 57, 58, 59, 60, 61, 62, 63, 64] ar aL ∧ fL 22 = -1 ∧ S9 13 0 = fv 8 ∧ mx_S fL aL = mo_xd (mx_D fL aL) (mx_G ar) (mo_A (mx_D fL aL) (cd_Wf (cd_gX (glr ((cd_nw (fun i => (gfr i).toInt) (fv 7).toInt ((fv 30).toInt.toNat)).1))) (gln ((cd_nw (fun i => (gfr i).toInt) (fv 7).toInt ((fv 30).toInt.toNat)).1)) 0)) ((fv 10).toInt.toNat) ((fv 11).toInt.toNat) (mo_st (mx_D fL aL) ar ((fv 10).toInt.toNat) ((fv 11).toInt.toNat) S9) 840 ∧ ((-1) : Int32).toInt = mo_ot (mx_D fL aL) (mx_S fL aL) ((fv 10).toInt.toNat) ∧ mx_sp aL ar (mo_dkv (cd_f (aL 4)) (cd_Wf (cd_gX (glr ((cd_nw (fun i => (gfr i).toInt) (fv 7).toInt ((fv 30).toInt.toNat)).1))) (gln ((cd_nw (fun i => (gfr i).toInt) (fv 7).toInt ((fv 30).toInt.toNat)).1)) 0)) ((fv 10).toInt.toNat) ∧ mx_c1 (aL 51) (aL 24) (ar 24) ((fv 11).toInt.toNat) ∧ mx_c1 (aL 52) (aL 25) (ar 25) ((fv 11).toInt.toNat) ∧ mx_c1 (aL 53) (aL 26) (ar 26) ((fv 11).toInt.toNat) ∧ mx_c1 (aL 54) (aL 27) (ar 27) ((fv 11).toInt.toNat) ∧ mx_c1 (aL 56) (aL 35) (ar 35) ((fv 12).toInt.toNat) ∧ fv 8 = fL 23) from Or.inl ⟨by omega, rfl, rfl, rfl⟩), hp_mR, hp_f01, trivial⟩, ⟨by rw [ht]; exact hP, va_K.moved hW.alike hK⟩⟩, hS.F ht⟩) hS.2.2 dX11_morning_15
set_option maxHeartbeats 4000000 in
set_option maxRecDepth 100000 in
theorem x_triedE (l : Launch) (dC : Nat → ClassId) (dI : Nat → Nat → Nat) (sz : Nat) (ob ad : Nat → Nat) (cA : Nat → ClassId) (hd : dX ob ad) (fv : Nat → Int32) (wd : xT) (ar : Nat → Nat → Int32) (hF_fv : rX fv) (hA_ar : rB ar) (gla : Nat → Nat) (gfr : Nat → Int32) (gra : Nat → Nat → Nat) (grc : Nat → Nat → ClassId) (gln gcn : Nat → Nat) (glr : Nat → Nat → Nat → Int32) (ce : ClassId) (ef : Nat → Option Nat) (a : Int32) (hgds : ∀ i : Nat, (i : Int) ≤ (fv 30).toInt → ∀ j, j < gln i → cd_gd (cd_gX (glr i) j)) (hAs : ∀ i : Nat, (i : Int) ≤ (fv 30).toInt → ∀ (D : Nat → Nat → Int32) (t : Nat) (n ti : Int), 0 ≤ (mo_A D (cd_Wf (cd_gX (glr i)) (gln i) 0) t 3 n ti).toInt) (hp_mR : mx_R fv ar) (hp_f01 : mx_f01 ar) : Met l yX11_tried (.code yX11_tried cX11_tried 2 (some .int) :: lw_good) ({ frames := 9, cells := 0, slots := 0, locals := 213 }) (va_Pc [.ref (ob 0), .int a] (fun U => prX dC dI ob ad cA fv wd ar sz U ∧ lsA dC dI ob ad gla gfr gra grc gln gcn glr ce ef (fv 30).toInt wd.2.2.2 sz U)) (va_Qi (fun (r : Int32) (u : xS) => rX u.1 ∧ rB u.2.2 ∧ fM [6, 22, 23, 24] fv u.1 ∧ fA [4, 44, 45, 46, 47, 48, 49, 50, 51, 52, 53, 54, 55, 56, 57, 58, 59, 60, 61, 62, 63, 64] ar u.2.2 ∧ (u.2.1.2.2.2 = wd.2.2.2) ∧ (u.2.1.2.1 = wd.2.1) ∧ (((a.toInt < 0 ∨ (fv 11).toInt ≤ a.toInt ∨ (fv 3).toInt = (fv 7).toInt) ∧ r = -1 ∧ u.1 = fv ∧ u.2.2 = ar) ∨ (¬ (a.toInt < 0 ∨ (fv 11).toInt ≤ a.toInt ∨ (fv 3).toInt = (fv 7).toInt) ∧ u.1 22 = a ∧ r.toInt = mo_ot (mx_D u.1 u.2.2) (mx_S u.1 u.2.2) ((fv 10).toInt.toNat) ∧ ∃ S9 : Nat → Nat → Int32, S9 13 0 = fv 8 ∧ mx_S u.1 u.2.2 = mo_xd (mx_D u.1 u.2.2) (mx_G ar) (mo_A (mx_D u.1 u.2.2) (cd_Wf (cd_gX (glr ((cd_nw (fun i => (gfr i).toInt) (fv 7).toInt ((fv 30).toInt.toNat)).1))) (gln ((cd_nw (fun i => (gfr i).toInt) (fv 7).toInt ((fv 30).toInt.toNat)).1)) 0)) ((fv 10).toInt.toNat) ((fv 11).toInt.toNat) (mo_st (mx_D u.1 u.2.2) ar ((fv 10).toInt.toNat) ((fv 11).toInt.toNat) S9) 840)) ∧ (mx_R u.1 u.2.2) ∧ (mx_f01 u.2.2) ∧ True) (enX dC dI ob ad cA) (aX ob ad sz)) 0 0 (aX ob ad sz) := by
  refine Met.ofW (cc := cX11_tried) (maxL := 2) (ret := (some .int)) (by decide) rfl ?_
  intro p e s m args below meth c s₁ B hml hv
  obtain ⟨rfl, ⟨hsz, hP, hK⟩, hG⟩ := hv
  have hx := B.exec
  have hb := B.bytes
  have hr := B.returns
  have hts := atoms_spec (ws := (.code yX11_tried cX11_tried 2 (some .int) :: lw_good)) B.pre
  have htg : ∀ w ∈ lw_good, w.before _ s = true := fun w hw => hts w (List.mem_cons_of_mem _ hw)
  have hown : s.vm.findClass RX11 = some m.cls := findClass_of_methodNamed B.named
  have hlocks := B.notSynchronized
  subst hsz
  have hS : va_S (aX ob ad s.heap.size) s.heap s.heap [] := va_S.rf
  have hl := lv_entry ([.ref (ob 0), .int a]) (n := 2) (Nat.le_of_ble_eq_true rfl)
  rw [lg_entry_eq]
  generalize (lg_sl ([.ref (ob 0), .int a]) ++ List.replicate (2 - (lg_sl ([.ref (ob 0), .int a])).length) Slot.unset).toArray = ls at hl ⊢
  have hl : lv_has ls 2 [(0, .ref (ob 0)), (1, .int a)] := hl
  refine lv_aload_n hx hb dX11_tried_0 rfl (lv_at hl 0 rfl) ?_
  refine gX_X11_16 hx hb htg hown hK hP dX11_tried_1 ?_
  refine gX_X11_101 hx hb htg hown hK hP dX11_tried_4 ?_
  refine lv_iload_n hx hb dX11_tried_7 rfl (lv_at hl 1 rfl) ?_
  have z_1 : 0 ≤ (fv 11).toInt ∧ (fv 11).toInt ≤ 20 := hF_fv 11
  refine va_calli (va_runV (As := [.int a]) (rest := []) ⟨hx, hb, hml, hown, hts⟩ (x_wheels_hasE l dC dI s.heap.size ob ad cA hd fv wd ar hF_fv hA_ar a) (cwV 1 hts (gV kw_3_198 kw_3_199 kw_3_200 kw_1_5 kw_3_201) rfl rfl rfl (by decide +kernel) ⟨Nat.le_of_ble_eq_true rfl, Nat.le_of_ble_eq_true rfl⟩) ⟨fun a U g mk q => ⟨q.1, q.2.1, q.2.2.1, va_K.moved (u := U) (U := U.calling g mk a) (Vm.Alike.refl U.vm) q.2.2.2⟩, va_recv hK hP (ci := 10) (q0 := 4) rfl rfl, fun U hU hW => ⟨rfl, by rw [hU], by rw [hU]; exact hP, va_K.moved hW.alike hK⟩⟩ rfl rfl hl.1 rfl (lv_room (Nat.le_of_ble_eq_true rfl)) dX11_tried_8 ⟨Nat.le_of_ble_eq_true rfl, Nat.le_of_ble_eq_true rfl⟩) hS (fun q _ h9 => aX_up hS q h9) (aX_up hS) (fun r_2 u t H1 locs ht _ hw hB _ hk1 hS => ?_)
  obtain ⟨fv_5, wd_6, ar_7⟩ := u
  obtain ⟨hF_fv_5, hA_ar_7, fr_8, fa_9, wf_10, p_3, p_4, -⟩ := hw
  have wf_10 : wd_6.2 = wd.2 := wf_10
  have hP : va_P (dC, dI) vwCl (wsX ob ad cA fv_5 wd_6 ar_7) H1 := by have h9 := hB.1; rw [ht] at h9; exact h9
  have fr_8 : fM [] fv fv_5 := fr_8
  have fa_9 : fA [] ar ar_7 := fa_9
  generalize H1 = H at hP hS ⊢
  rcases p_4 with ⟨rfl, p_4⟩ | ⟨rfl, p_4⟩
  · skip
    have q_11 : a.toInt < 0 ∨ (fv 11).toInt ≤ a.toInt := p_4
    refine lv_if_eq (tgt := 28) hx hb dX11_tried_11 (by decide) (fun c_12 => ?_) (fun c_12 => ?_)
    · skip
      refine lv_iconst (v := (-1)) hx hb dX11_tried_28 (by decide) ?_
      have z_13 : ((-1) : Int32).toInt = (-1) := by decide
      exact W.iret (v := (-1)) hx hb hr (fun t ht hW => ⟨⟨(-1), (fv_5, wd_6, ar_7), rfl, ⟨hF_fv_5, hA_ar_7, (fM_call (fM_rf [6, 22, 23, 24] _) fr_8 (by decide)), (fA_call (fA_rf [4, 44, 45, 46, 47, 48, 49, 50, 51, 52, 53, 54, 55, 56, 57, 58, 59, 60, 61, 62, 63, 64] _) fa_9 (by decide)), (show wd_6.2.2.2 = wd.2.2.2 from congrArg (fun z => z.2.2) wf_10), (show wd_6.2.1 = wd.2.1 from congrArg (fun z => z.1) wf_10), (show ((a.toInt < 0 ∨ (fv 11).toInt ≤ a.toInt ∨ (fv 3).toInt = (fv 7).toInt) ∧ ((-1) : Int32) = -1 ∧ fv_5 = fv ∧ ar_7 = ar) ∨ (¬ (a.toInt < 0 ∨ (fv 11).toInt ≤ a.toInt ∨ (fv 3).toInt = (fv 7).toInt) ∧ fv_5 22 = a ∧ ((-1) : Int32).toInt = mo_ot (mx_D fv_5 ar_7) (mx_S fv_5 ar_7) ((fv 10).toInt.toNat) ∧ ∃ S9 : Nat → Nat → Int32, S9 13 0 = fv 8 ∧ mx_S fv_5 ar_7 = mo_xd (mx_D fv_5 ar_7) (mx_G ar) (mo_A (mx_D fv_5 ar_7) (cd_Wf (cd_gX (glr ((cd_nw (fun i => (gfr i).toInt) (fv 7).toInt ((fv 30).toInt.toNat)).1))) (gln ((cd_nw (fun i => (gfr i).toInt) (fv 7).toInt ((fv 30).toInt.toNat)).1)) 0)) ((fv 10).toInt.toNat) ((fv 11).toInt.toNat) (mo_st (mx_D fv_5 ar_7) ar ((fv 10).toInt.toNat) ((fv 11).toInt.toNat) S9) 840) from Or.inl ⟨by omega, rfl, (mx_f0 (fM_call (fM_rf [] _) fr_8 (by decide))), (mx_a0 (fA_call (fA_rf [] _) fa_9 (by decide)))⟩), (mx_R_fr hp_mR (fM_call (fM_rf [] _) fr_8 (by decide)) (fA_call (fA_rf [] _) fa_9 (by decide)) rfl rfl rfl rfl rfl rfl rfl rfl rfl rfl rfl rfl rfl rfl rfl rfl rfl rfl rfl rfl rfl rfl rfl rfl rfl rfl rfl), (mx_f01_fr hp_f01 (fA_call (fA_rf [] _) fa_9 (by decide)) rfl), trivial⟩, ⟨by rw [ht]; exact hP, va_K.moved hW.alike hK⟩⟩, hS.F ht⟩) hS.2.2 dX11_tried_29
    · skip
      exact absurd c_12 (by decide)
  · skip
    have i_14 : 0 ≤ a.toInt ∧ a.toInt ≤ 2147483647 := ⟨p_4.1, (iv_any a).2⟩
    have i_15 : 0 ≤ a.toInt ∧ a.toInt ≤ 19 := ⟨i_14.1, p_4.2.1⟩
    have q_16 : a.toInt < (fv 11).toInt := p_4.2.2
    refine lv_if_eq (tgt := 28) hx hb dX11_tried_11 (by decide) (fun c_17 => ?_) (fun c_17 => ?_)
    · skip
      exact absurd c_17 (by decide)
    · skip
      refine lv_aload_n hx hb dX11_tried_14 rfl (lv_at hl 0 rfl) ?_
      refine gX_X11_47 hx hb htg hown hK hP dX11_tried_15 ?_
      refine my_ti (y := fv 3) ((fr_8 3 rfl)) ?_
      refine lv_aload_n hx hb dX11_tried_18 rfl (lv_at hl 0 rfl) ?_
      refine gX_X11_16 hx hb htg hown hK hP dX11_tried_19 ?_
      refine gX_X11_57 hx hb htg hown hK hP dX11_tried_22 ?_
      refine my_ti (y := fv 7) ((fr_8 7 rfl)) ?_
      have i_18 : 0 ≤ (fv 7).toInt ∧ (fv 7).toInt ≤ 199 := hF_fv 7
      refine lv_icmp_ne (tgt := 30) hx hb dX11_tried_25 (by decide) (fun c_19 => ?_) (fun c_19 => ?_)
      · skip
        have k_20 : ¬ (fv 3).toInt = (fv 7).toInt := fun q => c_19 (Int32.toInt_inj.mp q)
        refine lv_aload_n hx hb dX11_tried_30 rfl (lv_at hl 0 rfl) ?_
        refine gX_X11_32 hx hb htg hown hK hP dX11_tried_31 ?_
        refine lv_iload_n hx hb dX11_tried_34 rfl (lv_at hl 1 rfl) ?_
        have z_21 : (fv_5 30).toInt = (fv 30).toInt := congrArg Int32.toInt ((fr_8 30 rfl))
        have z_22 : 0 ≤ (fv_5 30).toInt ∧ (fv_5 30).toInt ≤ 10 := hF_fv_5 30
        have z_23 : (fv_5 30).toInt = (fv 30).toInt := congrArg Int32.toInt ((fr_8 30 rfl))
        have z_24 : 0 ≤ (fv_5 30).toInt ∧ (fv_5 30).toInt ≤ 10 := hF_fv_5 30
        have z_25 : (fv_5 30).toInt = (fv 30).toInt := congrArg Int32.toInt ((fr_8 30 rfl))
        have z_26 : 0 ≤ (fv_5 30).toInt ∧ (fv_5 30).toInt ≤ 10 := hF_fv_5 30
        have z_27 : (fv_5 7).toInt = (fv 7).toInt := congrArg Int32.toInt ((fr_8 7 rfl))
        have z_28 : 0 ≤ (fv_5 7).toInt ∧ (fv_5 7).toInt ≤ 199 := hF_fv_5 7
        have z_29 : (fv_5 10).toInt = (fv 10).toInt := congrArg Int32.toInt ((fr_8 10 rfl))
        have z_30 : 0 ≤ (fv_5 10).toInt ∧ (fv_5 10).toInt ≤ 40 := hF_fv_5 10
        have z_31 : (fv_5 11).toInt = (fv 11).toInt := congrArg Int32.toInt ((fr_8 11 rfl))
        have z_32 : 0 ≤ (fv_5 11).toInt ∧ (fv_5 11).toInt ≤ 20 := hF_fv_5 11
        have z_33 : (fv_5 30).toInt = (fv 30).toInt := congrArg Int32.toInt ((fr_8 30 rfl))
        have z_34 : 0 ≤ (fv_5 30).toInt ∧ (fv_5 30).toInt ≤ 10 := hF_fv_5 30
        refine va_calli (va_runV (As := [.int a]) (rest := []) ⟨hx, hb, hml, hown, hts⟩ (x_leadE l dC dI H.size ob ad cA hd fv_5 wd_6 ar_7 hF_fv_5 hA_ar_7 gla gfr gra grc gln gcn glr ce ef a (fun i9 h9 => hgds i9 (by rw [show fv_5 30 = fv 30 from ((fM_call (fM_rf [] _) fr_8 (by decide)) 30 rfl)] at h9; exact h9)) (fun i9 h9 => hAs i9 (by rw [show fv_5 30 = fv 30 from ((fM_call (fM_rf [] _) fr_8 (by decide)) 30 rfl)] at h9; exact h9)) (mx_R_fr hp_mR (fM_call (fM_rf [] _) fr_8 (by decide)) (fA_call (fA_rf [] _) fa_9 (by decide)) rfl rfl rfl rfl rfl rfl rfl rfl rfl rfl rfl rfl rfl rfl rfl rfl rfl rfl rfl rfl rfl rfl rfl rfl rfl rfl rfl) (mx_f01_fr hp_f01 (fA_call (fA_rf [] _) fa_9 (by decide)) rfl)) (cwV 1 hts (gV kw_5_49 kw_5_50 kw_5_51 kw_1_12 kw_5_52) rfl rfl rfl (by decide +kernel) ⟨Nat.le_of_ble_eq_true rfl, Nat.le_of_ble_eq_true rfl⟩) ⟨fun a U g mk q => ⟨q.1, ⟨q.2.1.1, q.2.1.2.1, va_K.moved (u := U) (U := U.calling g mk a) (Vm.Alike.refl U.vm) q.2.1.2.2⟩, ls_mv (U := U.calling g mk a) rfl (Vm.Alike.refl U.vm) q.2.2⟩, va_recv hK hP (ci := 2) (q0 := 8) rfl rfl, fun U hU hW => ⟨rfl, ⟨by rw [hU], by rw [hU]; exact hP, va_K.moved hW.alike hK⟩, ls_eq (ls_pass hG hS hU hW.alike) (congrArg Int32.toInt ((fr_8 30 rfl))) (congrArg (fun z => z.2.2) wf_10)⟩⟩ rfl rfl hl.1 rfl (lv_room (Nat.le_of_ble_eq_true rfl)) dX11_tried_35 ⟨Nat.le_of_ble_eq_true rfl, Nat.le_of_ble_eq_true rfl⟩) hS (fun q _ h9 => aX_up hS q h9) (aX_up hS) (fun r_35 u t H1 locs ht _ hw hB _ hk1 hS => ?_)
        obtain ⟨fv_44, wd_45, ar_46⟩ := u
        obtain ⟨hF_fv_44, hA_ar_46, fr_47, fa_48, p_36, p_37, p_38, p_39, p_40, p_41, p_42, p_43, -⟩ := hw
        have hP : va_P (dC, dI) vwCl (wsX ob ad cA fv_44 wd_45 ar_46) H1 := by have h9 := hB.1; rw [ht] at h9; exact h9
        have fr_47 : fM [6, 22, 23, 24] fv_5 fv_44 := fr_47
        have fa_48 : fA [4, 44, 45, 46, 47, 48, 49, 50, 51, 52, 53, 54, 55, 56, 57, 58, 59, 60, 61, 62, 63, 64] ar_7 ar_46 := fa_48
        have p_42 : mx_R fv_44 ar_46 := p_42
        have p_43 : mx_f01 ar_46 := p_43
        have p_36 : wd_45.2.2.2 = wd_6.2.2.2 := p_36
        have p_37 : wd_45.2.1 = wd_6.2.1 := p_37
        have p_38 : ∃ z : Nat, (z : Int) ≤ (fv_5 30).toInt ∧ wd_45.2.2.1 = gla z ∧ z = ((cd_nw (fun i => (gfr i).toInt) (fv_5 7).toInt ((fv_5 30).toInt.toNat)).1) := p_38
        have p_39 : ∃ S9 : Nat → Nat → Int32, S9 13 0 = fv_5 8 ∧ mx_S fv_44 ar_46 = mo_xd (mx_D fv_44 ar_46) (mx_G ar_7) (mo_A (mx_D fv_44 ar_46) (cd_Wf (cd_gX (glr ((cd_nw (fun i => (gfr i).toInt) (fv_5 7).toInt ((fv_5 30).toInt.toNat)).1))) (gln ((cd_nw (fun i => (gfr i).toInt) (fv_5 7).toInt ((fv_5 30).toInt.toNat)).1)) 0)) ((fv_5 10).toInt.toNat) ((fv_5 11).toInt.toNat) (mo_st (mx_D fv_44 ar_46) ar_7 ((fv_5 10).toInt.toNat) ((fv_5 11).toInt.toNat) S9) 840 := p_39
        have p_40 : r_35.toInt = mo_ot (mx_D fv_44 ar_46) (mx_S fv_44 ar_46) ((fv_5 10).toInt.toNat) := p_40
        have p_41 : fv_44 22 = a := p_41
        generalize H1 = H at hP hS ⊢
        exact W.iret (v := r_35) hx hb hr (fun t ht hW => ⟨⟨r_35, (fv_44, wd_45, ar_46), rfl, ⟨hF_fv_44, hA_ar_46, (fM_call (fM_call (fM_rf [6, 22, 23, 24] _) fr_8 (by decide)) fr_47 (by decide)), (fA_call (fA_call (fA_rf [4, 44, 45, 46, 47, 48, 49, 50, 51, 52, 53, 54, 55, 56, 57, 58, 59, 60, 61, 62, 63, 64] _) fa_9 (by decide)) fa_48 (by decide)), (show wd_45.2.2.2 = wd.2.2.2 from (p_36).trans ((congrArg (fun z => z.2.2) wf_10))), (show wd_45.2.1 = wd.2.1 from (p_37).trans ((congrArg (fun z => z.1) wf_10))), (show ((a.toInt < 0 ∨ (fv 11).toInt ≤ a.toInt ∨ (fv 3).toInt = (fv 7).toInt) ∧ r_35 = -1 ∧ fv_44 = fv ∧ ar_46 = ar) ∨ (¬ (a.toInt < 0 ∨ (fv 11).toInt ≤ a.toInt ∨ (fv 3).toInt = (fv 7).toInt) ∧ fv_44 22 = a ∧ r_35.toInt = mo_ot (mx_D fv_44 ar_46) (mx_S fv_44 ar_46) ((fv 10).toInt.toNat) ∧ ∃ S9 : Nat → Nat → Int32, S9 13 0 = fv 8 ∧ mx_S fv_44 ar_46 = mo_xd (mx_D fv_44 ar_46) (mx_G ar) (mo_A (mx_D fv_44 ar_46) (cd_Wf (cd_gX (glr ((cd_nw (fun i => (gfr i).toInt) (fv 7).toInt ((fv 30).toInt.toNat)).1))) (gln ((cd_nw (fun i => (gfr i).toInt) (fv 7).toInt ((fv 30).toInt.toNat)).1)) 0)) ((fv 10).toInt.toNat) ((fv 11).toInt.toNat) (mo_st (mx_D fv_44 ar_46) ar ((fv 10).toInt.toNat) ((fv 11).toInt.toNat) S9) 840) from by obtain ⟨S9, hS9, hS8⟩ := p_39; have ho9 := p_40; have hf9 : fv_5 = fv := mx_f0 (fM_call (fM_rf [] _) fr_8 (by decide)); rw [hf9] at hS9 hS8 ho9; have ha9 : ar_7 = ar := mx_a0 (fA_call (fA_rf [] _) fa_9 (by decide)); rw [ha9] at hS8; exact Or.inr ⟨by omega, p_41, ho9, S9, hS9, hS8⟩), p_42, p_43, trivial⟩, ⟨by rw [ht]; exact hP, va_K.moved hW.alike hK⟩⟩, hS.F ht⟩) hS.2.2 dX11_tried_38
      · skip
        have i_50 : 0 ≤ (fv 3).toInt ∧ (fv 3).toInt ≤ 199 := iv_eq1 i_18 c_19
        have k_51 := congrArg Int32.toInt c_19
        refine lv_iconst (v := (-1)) hx hb dX11_tried_28 (by decide) ?_
        have z_52 : ((-1) : Int32).toInt = (-1) := by decide
        exact W.iret (v := (-1)) hx hb hr (fun t ht hW => ⟨⟨(-1), (fv_5, wd_6, ar_7), rfl, ⟨hF_fv_5, hA_ar_7, (fM_call (fM_rf [6, 22, 23, 24] _) fr_8 (by decide)), (fA_call (fA_rf [4, 44, 45, 46, 47, 48, 49, 50, 51, 52, 53, 54, 55, 56, 57, 58, 59, 60, 61, 62, 63, 64] _) fa_9 (by decide)), (show wd_6.2.2.2 = wd.2.2.2 from congrArg (fun z => z.2.2) wf_10), (show wd_6.2.1 = wd.2.1 from congrArg (fun z => z.1) wf_10), (show ((a.toInt < 0 ∨ (fv 11).toInt ≤ a.toInt ∨ (fv 3).toInt = (fv 7).toInt) ∧ ((-1) : Int32) = -1 ∧ fv_5 = fv ∧ ar_7 = ar) ∨ (¬ (a.toInt < 0 ∨ (fv 11).toInt ≤ a.toInt ∨ (fv 3).toInt = (fv 7).toInt) ∧ fv_5 22 = a ∧ ((-1) : Int32).toInt = mo_ot (mx_D fv_5 ar_7) (mx_S fv_5 ar_7) ((fv 10).toInt.toNat) ∧ ∃ S9 : Nat → Nat → Int32, S9 13 0 = fv 8 ∧ mx_S fv_5 ar_7 = mo_xd (mx_D fv_5 ar_7) (mx_G ar) (mo_A (mx_D fv_5 ar_7) (cd_Wf (cd_gX (glr ((cd_nw (fun i => (gfr i).toInt) (fv 7).toInt ((fv 30).toInt.toNat)).1))) (gln ((cd_nw (fun i => (gfr i).toInt) (fv 7).toInt ((fv 30).toInt.toNat)).1)) 0)) ((fv 10).toInt.toNat) ((fv 11).toInt.toNat) (mo_st (mx_D fv_5 ar_7) ar ((fv 10).toInt.toNat) ((fv 11).toInt.toNat) S9) 840) from Or.inl ⟨by omega, rfl, (mx_f0 (fM_call (fM_rf [] _) fr_8 (by decide))), (mx_a0 (fA_call (fA_rf [] _) fa_9 (by decide)))⟩), (mx_R_fr hp_mR (fM_call (fM_rf [] _) fr_8 (by decide)) (fA_call (fA_rf [] _) fa_9 (by decide)) rfl rfl rfl rfl rfl rfl rfl rfl rfl rfl rfl rfl rfl rfl rfl rfl rfl rfl rfl rfl rfl rfl rfl rfl rfl rfl rfl), (mx_f01_fr hp_f01 (fA_call (fA_rf [] _) fa_9 (by decide)) rfl), trivial⟩, ⟨by rw [ht]; exact hP, va_K.moved hW.alike hK⟩⟩, hS.F ht⟩) hS.2.2 dX11_tried_29

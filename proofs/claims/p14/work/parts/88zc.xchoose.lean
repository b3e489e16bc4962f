set_option maxHeartbeats 4000000 in
set_option maxRecDepth 100000 in
theorem x_mwalkE (l : Launch) (dC : Nat → ClassId) (dI : Nat → Nat → Nat) (sz : Nat) (ob ad : Nat → Nat) (cA : Nat → ClassId) (hd : dX ob ad) (fv : Nat → Int32) (wd : xT) (ar : Nat → Nat → Int32) (hF_fv : rX fv) (hA_ar : rB ar) (pp : Int32) (a : Int32) (h_pp : 0 ≤ pp.toInt ∧ pp.toInt ≤ 39) (h_a : 0 ≤ a.toInt ∧ a.toInt ≤ 9999999) (hp_mR : mx_R fv ar) (hp_mC : mx_C fv ar) : Met l yX1_walk (.code yX1_walk cX1_walk 5 none :: lw_good) ({ frames := 4, cells := 0, slots := 0, locals := 85 }) (va_Pc [.ref (ob 8), .int pp, .int a] (prX dC dI ob ad cA fv wd ar sz)) (va_Qv (fun (u : xS) => rX u.1 ∧ rB u.2.2 ∧ fM [] fv u.1 ∧ fA [45, 47, 64] ar u.2.2 ∧ u.2.1.2 = wd.2 ∧ (u.2.2 47 = upd (ar 47) (pp.toInt.toNat) (ar 47 (pp.toInt.toNat) + a)) ∧ (∀ i : Nat, u.2.2 45 i = if i = (pp.toInt.toNat) then mo_shoe (ar 45 (pp.toInt.toNat)) (mo_worn (ar 19 (pp.toInt.toNat) + ar 47 (pp.toInt.toNat)) a) else ar 45 i) ∧ (mx_C u.1 u.2.2) ∧ True) (enX dC dI ob ad cA) (aX ob ad sz)) 0 0 (aX ob ad sz) := by
  refine Met.ofW (cc := cX1_walk) (maxL := 5) (ret := none) (by decide) rfl ?_
  intro p e s m args below meth c s₁ B hml hv
  obtain ⟨rfl, hsz, hP, hK⟩ := hv
  have hx := B.exec
  have hb := B.bytes
  have hr := B.returns
  have hts := atoms_spec (ws := (.code yX1_walk cX1_walk 5 none :: lw_good)) B.pre
  have htg : ∀ w ∈ lw_good, w.before _ s = true := fun w hw => hts w (List.mem_cons_of_mem _ hw)
  have hown : s.vm.findClass RX1 = some m.cls := findClass_of_methodNamed B.named
  have hlocks := B.notSynchronized
  subst hsz
  have hS : va_S (aX ob ad s.heap.size) s.heap s.heap [] := va_S.rf
  have hl := lv_entry ([.ref (ob 8), .int pp, .int a]) (n := 5) (Nat.le_of_ble_eq_true rfl)
  rw [lg_entry_eq]
  generalize (lg_sl ([.ref (ob 8), .int pp, .int a]) ++ List.replicate (5 - (lg_sl ([.ref (ob 8), .int pp, .int a])).length) Slot.unset).toArray = ls at hl ⊢
  have hl : lv_has ls 5 [(0, .ref (ob 8)), (1, .int pp), (2, .int a)] := hl
  refine lv_aload_n hx hb dX1_walk_0 rfl (lv_at hl 0 rfl) ?_
  refine gX_X1_9 hx hb htg hown hK hP dX1_walk_1 ?_
  refine gX_X1_129 hx hb htg hown hK hP dX1_walk_4 ?_
  refine gX_X1_217 hx hb htg hown hK hP dX1_walk_7 ?_
  refine lv_iload_n hx hb dX1_walk_10 rfl (lv_at hl 1 rfl) ?_
  refine lX_19 hx hb hK hP (iv_in h_pp (by decide) (by decide)) dX1_walk_11 (fun v_1 ev_1 => ?_)
  refine lv_aload_n hx hb dX1_walk_12 rfl (lv_at hl 0 rfl) ?_
  refine gX_X1_45 hx hb htg hown hK hP dX1_walk_13 ?_
  refine lv_iload_n hx hb dX1_walk_16 rfl (lv_at hl 1 rfl) ?_
  refine lX_47 hx hb hK hP (iv_in h_pp (by decide) (by decide)) dX1_walk_17 (fun v_2 ev_2 => ?_)
  refine lv_iadd hx hb dX1_walk_18 ?_
  refine lv_topi (fun v_3 ev_3 => ?_)
  refine lv_istore_n (lv' := [(3, .int v_3), (0, .ref (ob 8)), (1, .int pp), (2, .int a)]) hx hb dX1_walk_19 rfl hl (by decide) rfl (fun ls hl => ?_)
  refine lv_iload_n hx hb dX1_walk_20 rfl (lv_at hl 0 rfl) ?_
  refine lv_iload_n hx hb dX1_walk_21 rfl (lv_at hl 3 rfl) ?_
  refine lv_iadd hx hb dX1_walk_22 ?_
  refine lv_topi (fun v_4 ev_4 => ?_)
  refine lv_sipush (v := 300) hx hb dX1_walk_23 (by decide) ?_
  refine lv_idiv hx hb dX1_walk_26 (by decide) ?_
  refine lv_topi (fun v_5 ev_5 => ?_)
  refine lv_iload_n hx hb dX1_walk_27 rfl (lv_at hl 0 rfl) ?_
  refine lv_sipush (v := 300) hx hb dX1_walk_28 (by decide) ?_
  refine lv_idiv hx hb dX1_walk_31 (by decide) ?_
  refine lv_topi (fun v_6 ev_6 => ?_)
  refine lv_isub hx hb dX1_walk_32 ?_
  refine lv_topi (fun v_7 ev_7 => ?_)
  refine lv_istore (lv' := [(4, .int v_7), (3, .int v_3), (0, .ref (ob 8)), (1, .int pp), (2, .int a)]) hx hb dX1_walk_33 hl (by decide) rfl (fun ls hl => ?_)
  refine lv_aload_n hx hb dX1_walk_35 rfl (lv_at hl 2 rfl) ?_
  refine gX_X1_45 hx hb htg hown hK hP dX1_walk_36 ?_
  refine lv_iload_n hx hb dX1_walk_39 rfl (lv_at hl 3 rfl) ?_
  refine lv_dup2_11 hx hb dX1_walk_40 rfl rfl ?_
  refine lX_47 hx hb hK hP (iv_in h_pp (by decide) (by decide)) dX1_walk_41 (fun v_8 ev_8 => ?_)
  obtain rfl : v_2 = v_8 := ev_2.trans ev_8.symm
  refine lv_iload_n hx hb dX1_walk_42 rfl (lv_at hl 4 rfl) ?_
  refine lv_iadd hx hb dX1_walk_43 ?_
  refine lv_topi (fun v_9 ev_9 => ?_)
  refine sX_47 hx hb hK hP hS hd (iv_in h_pp (by decide) (by decide)) dX1_walk_44 (fun H locs ar_10 ear_10 hP hS => ?_)
  have hA_ar_10 : rB ar_10 := rB_put hA_ar ear_10 (iv_any _)
  refine lv_iload hx hb dX1_walk_45 (lv_at hl 0 rfl) ?_
  refine lv_if_le (tgt := 83) hx hb dX1_walk_47 (by decide) (fun c_11 => ?_) (fun c_11 => ?_)
  · skip
    have i_12 : (-2147483648) ≤ v_7.toInt ∧ v_7.toInt ≤ 0 := iv_le1 (iv_any v_7) (⟨by decide, by decide⟩ : (0 : Int) ≤ (0 : Int32).toInt ∧ (0 : Int32).toInt ≤ 0) c_11
    exact W.vret hx hb hr (fun t ht hW => ⟨⟨(fv, wd, ar_10), rfl, ⟨hF_fv, hA_ar_10, (fM_rf [] _), (fA_put (fA_rf [45, 47, 64] _) ear_10 (by decide)), rfl, (show ar_10 47 = upd (ar 47) (pp.toInt.toNat) (ar 47 (pp.toInt.toNat) + a) from by rw [← show v_2 = ar 47 (pp.toInt.toNat) from (show v_2 = ar 47 (pp.toInt.toNat) from by rw [ev_2]; exact congrArg (ar 47) (show pp.toInt.toNat = (pp.toInt.toNat) from by omega)), ← ev_9]; exact (by rw [ear_10]; show upd (ar 47) (Int32.toNatClampNeg pp) v_9 = _; rw [show Int32.toNatClampNeg pp = (pp.toInt.toNat) from (show pp.toInt.toNat = (pp.toInt.toNat) from by omega)])), (show ∀ i : Nat, ar_10 45 i = if i = (pp.toInt.toNat) then mo_shoe (ar 45 (pp.toInt.toNat)) (mo_worn (ar 19 (pp.toInt.toNat) + ar 47 (pp.toInt.toNat)) a) else ar 45 i from fun i9 => by rw [show ar_10 45 = ar 45 from ((fA_put (fA_rf [47] _) ear_10 (by decide)) 45 rfl), ← (show v_7 = mo_worn (ar 19 (pp.toInt.toNat) + ar 47 (pp.toInt.toNat)) a from by rw [ev_7, ev_5, ev_6, ev_4, ev_3, show v_1 = ar 19 (pp.toInt.toNat) from (show v_1 = ar 19 (pp.toInt.toNat) from by rw [ev_1]; exact congrArg (ar 19) (show pp.toInt.toNat = (pp.toInt.toNat) from by omega)), show v_2 = ar 47 (pp.toInt.toNat) from (show v_2 = ar 47 (pp.toInt.toNat) from by rw [ev_2]; exact congrArg (ar 47) (show pp.toInt.toNat = (pp.toInt.toNat) from by omega))]; rfl), ← mx_shoe0 (w := v_7) (by omega)]; by_cases c9 : i9 = (pp.toInt.toNat); rw [if_pos c9, c9]; rw [if_neg c9]), (mx_C_fr hp_mC (fM_rf [] _) (fA_put (fA_rf [47] _) ear_10 (by decide)) rfl rfl rfl rfl rfl rfl rfl rfl rfl rfl rfl rfl rfl rfl rfl rfl rfl rfl rfl rfl rfl rfl rfl rfl rfl rfl rfl rfl), trivial⟩, ⟨by rw [ht]; exact hP, va_K.moved hW.alike hK⟩⟩, hS.F ht⟩) hS.2.2 dX1_walk_83
  · skip
    have i_13 : 1 ≤ v_7.toInt ∧ v_7.toInt ≤ 2147483647 := iv_lt2 (⟨by decide, by decide⟩ : (0 : Int) ≤ (0 : Int32).toInt ∧ (0 : Int32).toInt ≤ 0) (iv_any v_7) (Int32.not_le.mp c_11)
    refine lv_aload_n hx hb dX1_walk_50 rfl (lv_at hl 2 rfl) ?_
    refine gX_X1_39 hx hb htg hown hK hP dX1_walk_51 ?_
    refine lv_iload_n hx hb dX1_walk_54 rfl (lv_at hl 3 rfl) ?_
    refine lv_iconst (v := 0) hx hb dX1_walk_55 (by decide) ?_
    refine lv_aload_n hx hb dX1_walk_56 rfl (lv_at hl 2 rfl) ?_
    refine gX_X1_39 hx hb htg hown hK hP dX1_walk_57 ?_
    refine lv_iload_n hx hb dX1_walk_60 rfl (lv_at hl 3 rfl) ?_
    refine lX_45 hx hb hK hP (iv_in h_pp (by decide) (by decide)) dX1_walk_61 (fun v_14 ev_14 => ?_)
    refine lv_iload hx hb dX1_walk_62 (lv_at hl 0 rfl) ?_
    refine lv_isub hx hb dX1_walk_64 ?_
    refine lv_topi (fun v_15 ev_15 => ?_)
    refine va_mmax hx hb (hml.trans hl.1.symm) hown (htg (.methodLink RX1 220 Lib.Math.max.name) kw_5_156) (htg (.static Lib.Math.max.name) kw_4_28) (htg (.initialized RJ9) kw_1_16) (htg (.code Lib.Math.max.name Lib.Math.max.code 2 (some .int)) kw_4_29) (Nat.le_of_ble_eq_true rfl) (Nat.le_of_ble_eq_true rfl) (Nat.le_of_ble_eq_true rfl) (Nat.le_of_ble_eq_true rfl) dX1_walk_65 ?_
    refine lv_topi (fun v_16 ev_16 => ?_)
    have i_17 : 0 ≤ v_16.toInt ∧ v_16.toInt ≤ 2147483647 := ix_max ev_16 (⟨by decide, by decide⟩ : (0 : Int) ≤ (0 : Int32).toInt ∧ (0 : Int32).toInt ≤ 0) (iv_any v_15) (by decide) (by decide)
    refine sX_45 hx hb hK hP hS hd (iv_in h_pp (by decide) (by decide)) dX1_walk_68 (fun H locs ar_18 ear_18 hP hS => ?_)
    have hA_ar_18 : rB ar_18 := rB_put hA_ar_10 ear_18 (iv_any _)
    refine lv_aload_n hx hb dX1_walk_69 rfl (lv_at hl 2 rfl) ?_
    refine gX_X1_20 hx hb htg hown hK hP dX1_walk_70 ?_
    refine lv_iload_n hx hb dX1_walk_73 rfl (lv_at hl 3 rfl) ?_
    refine lv_aload_n hx hb dX1_walk_74 rfl (lv_at hl 2 rfl) ?_
    refine gX_X1_39 hx hb htg hown hK hP dX1_walk_75 ?_
    refine lv_iload_n hx hb dX1_walk_78 rfl (lv_at hl 3 rfl) ?_
    refine lX_45 hx hb hK hP (iv_in h_pp (by decide) (by decide)) dX1_walk_79 (fun v_19 ev_19 => ?_)
    refine va_callv (va_runV (As := [.int pp, .int v_19]) (rest := []) ⟨hx, hb, hml, hown, hts⟩ (x_setPaceE l dC dI H.size ob ad cA hd fv wd ar_18 hF_fv hA_ar_18 pp v_19 h_pp (mx_R_fr hp_mR (fM_rf [] _) (fA_put (fA_put (fA_rf [45, 47] _) ear_10 (by decide)) ear_18 (by decide)) rfl rfl rfl rfl rfl rfl rfl rfl rfl rfl rfl rfl rfl rfl rfl rfl rfl rfl rfl rfl rfl rfl rfl rfl rfl rfl rfl)) (cwV 2 hts (gV kw_5_61 kw_5_62 kw_5_63 kw_1_13 kw_5_64) rfl rfl rfl (by decide +kernel) ⟨Nat.le_of_ble_eq_true rfl, Nat.le_of_ble_eq_true rfl⟩) ⟨fun a U g mk q => ⟨q.1, q.2.1, q.2.2.1, va_K.moved (u := U) (U := U.calling g mk a) (Vm.Alike.refl U.vm) q.2.2.2⟩, va_recv hK hP (ci := 9) (q0 := 9) rfl rfl, fun U hU hW => ⟨rfl, by rw [hU], by rw [hU]; exact hP, va_K.moved hW.alike hK⟩⟩ rfl rfl hl.1 rfl (lv_room (Nat.le_of_ble_eq_true rfl)) dX1_walk_80 ⟨Nat.le_of_ble_eq_true rfl, Nat.le_of_ble_eq_true rfl⟩) hS (fun q _ h9 => aX_up hS q h9) (aX_up hS) (fun u t H1 locs ht _ hw hB _ hk1 hS => ?_)
    obtain ⟨fv_22, wd_23, ar_24⟩ := u
    obtain ⟨hF_fv_22, hA_ar_24, fr_25, fa_26, wf_27, p_21, -⟩ := hw
    have wf_27 : wd_23.2 = wd.2 := wf_27
    have hP : va_P (dC, dI) vwCl (wsX ob ad cA fv_22 wd_23 ar_24) H1 := by have h9 := hB.1; rw [ht] at h9; exact h9
    have fr_25 : fM [] fv fv_22 := fr_25
    have fa_26 : fA [64] ar_18 ar_24 := fa_26
    have p_21 : ∃ v : Int32, v.toInt = mo_pc (mx_D fv ar_18) v_19 (pp.toInt.toNat) ∧ ar_24 64 = upd (ar_18 64) (pp.toInt.toNat) v := p_21
    generalize H1 = H at hP hS ⊢
    obtain ⟨z9, hz9, hz8⟩ := p_21
    have hp_28 : mx_C fv_22 ar_24 := mx_C_st (p := (pp.toInt.toNat)) (s := v_16) (v := z9) hp_mC (mx_D_fr (fM_call (fM_rf [] _) fr_25 (by decide)) (fA_call (fA_put (fA_put (fA_rf [45, 47, 64] _) ear_10 (by decide)) ear_18 (by decide)) fa_26 (by decide)) rfl rfl) ((fM_call (fM_rf [] _) fr_25 (by decide)) 10 rfl) (fun i9 => by rw [show ar_24 45 = ar_18 45 from ((fA_call (fA_rf [64] _) fa_26 (by decide)) 45 rfl), ear_18]; show (if i9 = Int32.toNatClampNeg pp then v_16 else ar_10 45 i9) = _; rw [show ar_10 45 = ar 45 from ((fA_put (fA_rf [47] _) ear_10 (by decide)) 45 rfl)]; rfl) (by rw [hz8, show ar_18 64 = ar 64 from ((fA_put (fA_put (fA_rf [45, 47] _) ear_10 (by decide)) ear_18 (by decide)) 64 rfl)]) (by rw [show mx_D fv ar_18 = mx_D fv ar from (mx_D_fr (fM_rf [] _) (fA_put (fA_put (fA_rf [45, 47] _) ear_10 (by decide)) ear_18 (by decide)) rfl rfl)] at hz9; rw [(show v_19 = v_16 from by rw [ev_19, show ar_18 45 = ar_18 45 from rfl, ear_18]; show (if Int32.toNatClampNeg pp = Int32.toNatClampNeg pp then _ else _) = _; exact if_pos rfl)] at hz9; exact hz9)
    exact W.vret hx hb hr (fun t ht hW => ⟨⟨(fv_22, wd_23, ar_24), rfl, ⟨hF_fv_22, hA_ar_24, (fM_call (fM_rf [] _) fr_25 (by decide)), (fA_call (fA_put (fA_put (fA_rf [45, 47, 64] _) ear_10 (by decide)) ear_18 (by decide)) fa_26 (by decide)), wf_27, (show ar_24 47 = upd (ar 47) (pp.toInt.toNat) (ar 47 (pp.toInt.toNat) + a) from by rw [← show v_2 = ar 47 (pp.toInt.toNat) from (show v_2 = ar 47 (pp.toInt.toNat) from by rw [ev_2]; exact congrArg (ar 47) (show pp.toInt.toNat = (pp.toInt.toNat) from by omega)), ← ev_9]; exact (by rw [show ar_24 47 = ar_10 47 from ((fA_call (fA_put (fA_rf [45, 64] _) ear_18 (by decide)) fa_26 (by decide)) 47 rfl)]; rw [ear_10]; show upd (ar 47) (Int32.toNatClampNeg pp) v_9 = _; rw [show Int32.toNatClampNeg pp = (pp.toInt.toNat) from (show pp.toInt.toNat = (pp.toInt.toNat) from by omega)])), (show ∀ i : Nat, ar_24 45 i = if i = (pp.toInt.toNat) then mo_shoe (ar 45 (pp.toInt.toNat)) (mo_worn (ar 19 (pp.toInt.toNat) + ar 47 (pp.toInt.toNat)) a) else ar 45 i from (fun i9 => by rw [show ar_24 45 = ar_18 45 from ((fA_call (fA_rf [64] _) fa_26 (by decide)) 45 rfl), ear_18]; show (if i9 = Int32.toNatClampNeg pp then v_16 else ar_10 45 i9) = _; rw [show ar_10 45 = ar 45 from ((fA_put (fA_rf [47] _) ear_10 (by decide)) 45 rfl)]; rw [show v_16 = mo_shoe (ar 45 (pp.toInt.toNat)) (mo_worn (ar 19 (pp.toInt.toNat) + ar 47 (pp.toInt.toNat)) a) from (by rw [← show v_14 = ar 45 (pp.toInt.toNat) from (by rw [ev_14, show ar_10 45 = ar 45 from ((fA_put (fA_rf [47] _) ear_10 (by decide)) 45 rfl)]; rfl), ← (show v_7 = mo_worn (ar 19 (pp.toInt.toNat) + ar 47 (pp.toInt.toNat)) a from by rw [ev_7, ev_5, ev_6, ev_4, ev_3, show v_1 = ar 19 (pp.toInt.toNat) from (show v_1 = ar 19 (pp.toInt.toNat) from by rw [ev_1]; exact congrArg (ar 19) (show pp.toInt.toNat = (pp.toInt.toNat) from by omega)), show v_2 = ar 47 (pp.toInt.toNat) from (show v_2 = ar 47 (pp.toInt.toNat) from by rw [ev_2]; exact congrArg (ar 47) (show pp.toInt.toNat = (pp.toInt.toNat) from by omega))]; rfl)]; exact mx_shoe (by omega) ev_15 ev_16)]; rfl)), hp_28, trivial⟩, ⟨by rw [ht]; exact hP, va_K.moved hW.alike hK⟩⟩, hS.F ht⟩) hS.2.2 dX1_walk_83
set_option maxHeartbeats 4000000 in
set_option maxRecDepth 100000 in
theorem x_chooseE (l : Launch) (dC : Nat → ClassId) (dI : Nat → Nat → Nat) (sz : Nat) (ob ad : Nat → Nat) (cA : Nat → ClassId) (hd : dX ob ad) (fv : Nat → Int32) (wd : xT) (ar : Nat → Nat → Int32) (hF_fv : rX fv) (hA_ar : rB ar) (pp : Int32) (a : Int32) (b : Int32) (d : Int32) (h_pp : 0 ≤ pp.toInt ∧ pp.toInt ≤ 39) (h_a : 0 ≤ a.toInt ∧ a.toInt ≤ 11) (h_b : 0 ≤ b.toInt ∧ b.toInt ≤ 839) (hpn : pp.toInt < (fv 10).toInt) (hp_mR : mx_R fv ar) (hp_mY : mx_Y fv ar) (hp_mC : mx_C fv ar) : Met l yX1_choose (.code yX1_choose cX1_choose 10 none :: lw_good) ({ frames := 6, cells := 0, slots := 0, locals := 139 }) (va_Pc [.ref (ob 8), .int pp, .int a, .int b, .int d] (prX dC dI ob ad cA fv wd ar sz)) (va_Qv (fun (u : xS) => rX u.1 ∧ rB u.2.2 ∧ fM [] fv u.1 ∧ fA [45, 46, 47, 49, 62, 63, 64] ar u.2.2 ∧ u.2.1.2 = wd.2 ∧ (mx_S u.1 u.2.2 = mo_xc (mx_D fv ar) (mx_G ar) (mx_S fv ar) (pp.toInt.toNat) (a.toInt.toNat) b.toInt d.toInt) ∧ (mx_C u.1 u.2.2) ∧ True) (enX dC dI ob ad cA) (aX ob ad sz)) 0 0 (aX ob ad sz) := by
  refine Met.ofW (cc := cX1_choose) (maxL := 10) (ret := none) (by decide) rfl ?_
  intro p e s m args below meth c s₁ B hml hv
  obtain ⟨rfl, hsz, hP, hK⟩ := hv
  have hx := B.exec
  have hb := B.bytes
  have hr := B.returns
  have hts := atoms_spec (ws := (.code yX1_choose cX1_choose 10 none :: lw_good)) B.pre
  have htg : ∀ w ∈ lw_good, w.before _ s = true := fun w hw => hts w (List.mem_cons_of_mem _ hw)
  have hown : s.vm.findClass RX1 = some m.cls := findClass_of_methodNamed B.named
  have hlocks := B.notSynchronized
  subst hsz
  have hS : va_S (aX ob ad s.heap.size) s.heap s.heap [] := va_S.rf
  have hl := lv_entry ([.ref (ob 8), .int pp, .int a, .int b, .int d]) (n := 10) (Nat.le_of_ble_eq_true rfl)
  rw [lg_entry_eq]
  generalize (lg_sl ([.ref (ob 8), .int pp, .int a, .int b, .int d]) ++ List.replicate (10 - (lg_sl ([.ref (ob 8), .int pp, .int a, .int b, .int d])).length) Slot.unset).toArray = ls at hl ⊢
  have hl : lv_has ls 10 [(0, .ref (ob 8)), (1, .int pp), (2, .int a), (3, .int b), (4, .int d)] := hl
  refine lv_aload_n hx hb dX1_choose_0 rfl (lv_at hl 0 rfl) ?_
  refine gX_X1_20 hx hb htg hown hK hP dX1_choose_1 ?_
  refine lv_iload_n hx hb dX1_choose_4 rfl (lv_at hl 1 rfl) ?_
  refine lv_iload_n hx hb dX1_choose_5 rfl (lv_at hl 2 rfl) ?_
  refine lv_iload_n hx hb dX1_choose_6 rfl (lv_at hl 3 rfl) ?_
  refine lv_iload hx hb dX1_choose_7 (lv_at hl 4 rfl) ?_
  refine va_calli (va_runV (As := [.int pp, .int a, .int b, .int d]) (rest := []) ⟨hx, hb, hml, hown, hts⟩ (x_firstTripE l dC dI s.heap.size ob ad cA hd fv wd ar hF_fv hA_ar pp a b d h_pp h_a (iv_w h_b (by decide) (by decide)) (by have h9 := (show (ar 64 (pp.toInt.toNat)).toInt = mo_pc (mx_D fv ar) (ar 45 (pp.toInt.toNat)) (pp.toInt.toNat) from hp_mC (pp.toInt.toNat) (by omega)); have h8 := mo_pc_b hp_mR.1 (s := ar 45 (pp.toInt.toNat)) (pp.toInt.toNat); rw [h9]; omega) hp_mR hp_mY) (cwV 4 hts (gV kw_5_126 kw_5_127 kw_5_128 kw_1_13 kw_5_129) rfl rfl rfl (by decide +kernel) ⟨Nat.le_of_ble_eq_true rfl, Nat.le_of_ble_eq_true rfl⟩) ⟨fun a U g mk q => ⟨q.1, q.2.1, q.2.2.1, va_K.moved (u := U) (U := U.calling g mk a) (Vm.Alike.refl U.vm) q.2.2.2⟩, va_recv hK hP (ci := 9) (q0 := 9) rfl rfl, fun U hU hW => ⟨rfl, by rw [hU], by rw [hU]; exact hP, va_K.moved hW.alike hK⟩⟩ rfl rfl hl.1 rfl (lv_room (Nat.le_of_ble_eq_true rfl)) dX1_choose_9 ⟨Nat.le_of_ble_eq_true rfl, Nat.le_of_ble_eq_true rfl⟩) hS (fun q _ h9 => aX_up hS q h9) (aX_up hS) (fun r_1 u t H1 locs ht _ hw hB _ hk1 hS => ?_)
  obtain ⟨fv_4, wd_5, ar_6⟩ := u
  obtain ⟨hF_fv_4, hA_ar_6, fr_7, fa_8, wf_9, p_2, p_3, -⟩ := hw
  have wf_9 : wd_5.2 = wd.2 := wf_9
  have hP : va_P (dC, dI) vwCl (wsX ob ad cA fv_4 wd_5 ar_6) H1 := by have h9 := hB.1; rw [ht] at h9; exact h9
  have fr_7 : fM [] fv fv_4 := fr_7
  have fa_8 : fA [62, 63] ar ar_6 := fa_8
  have p_3 : mo_pk (mx_D fv ar) (mx_G ar) (pp.toInt.toNat) (a.toInt.toNat) (ar 64 (pp.toInt.toNat)).toInt b.toInt d.toInt r_1.toInt := p_3
  generalize H1 = H at hP hS ⊢
  refine lv_istore (lv' := [(5, .int r_1), (0, .ref (ob 8)), (1, .int pp), (2, .int a), (3, .int b), (4, .int d)]) hx hb dX1_choose_12 hl (by decide) rfl (fun ls hl => ?_)
  refine lv_aload_n hx hb dX1_choose_14 rfl (lv_at hl 1 rfl) ?_
  refine gX_X1_9 hx hb htg hown hK hP dX1_choose_15 ?_
  refine gX_X1_129 hx hb htg hown hK hP dX1_choose_18 ?_
  refine gX_X1_196 hx hb htg hown hK hP dX1_choose_21 ?_
  refine lv_iload_n hx hb dX1_choose_24 rfl (lv_at hl 2 rfl) ?_
  refine lX_7 hx hb hK hP (iv_in h_pp (by decide) (by decide)) dX1_choose_25 (fun v_10 ev_10 => ?_)
  have i_11 : 0 ≤ v_10.toInt ∧ v_10.toInt ≤ 11 := ev_10 ▸ hA_ar_6 7 _
  refine lv_istore (lv' := [(6, .int v_10), (5, .int r_1), (0, .ref (ob 8)), (1, .int pp), (2, .int a), (3, .int b), (4, .int d)]) hx hb dX1_choose_26 hl (by decide) rfl (fun ls hl => ?_)
  refine lv_iload hx hb dX1_choose_28 (lv_at hl 1 rfl) ?_
  refine lv_iconst (v := (-1)) hx hb dX1_choose_30 (by decide) ?_
  refine lv_icmp_ne (tgt := 39) hx hb dX1_choose_31 (by decide) (fun c_12 => ?_) (fun c_12 => ?_)
  · skip
    have i_13 : 0 ≤ r_1.toInt ∧ r_1.toInt ≤ 79 := iv_nel p_2 (by decide) c_12
    have k_14 : ¬ r_1.toInt = (-1) := fun q => c_12 (Int32.toInt_inj.mp q)
    refine lv_aload_n hx hb dX1_choose_39 rfl (lv_at hl 2 rfl) ?_
    refine gX_X1_9 hx hb htg hown hK hP dX1_choose_40 ?_
    refine gX_X1_179 hx hb htg hown hK hP dX1_choose_43 ?_
    refine lv_aload_n hx hb dX1_choose_46 rfl (lv_at hl 2 rfl) ?_
    refine gX_X1_9 hx hb htg hown hK hP dX1_choose_47 ?_
    refine gX_X1_157 hx hb htg hown hK hP dX1_choose_50 ?_
    refine gX_X1_189 hx hb htg hown hK hP dX1_choose_53 ?_
    refine lv_iload hx hb dX1_choose_56 (lv_at hl 1 rfl) ?_
    refine lX_29 hx hb hK hP (iv_in i_13 (by decide) (by decide)) dX1_choose_58 (fun v_15 ev_15 => ?_)
    have i_16 : 0 ≤ v_15.toInt ∧ v_15.toInt ≤ 7 := ev_15 ▸ hA_ar_6 29 _
    refine lX_2 hx hb hK hP (iv_in i_16 (by decide) (by decide)) dX1_choose_59 (fun v_17 ev_17 => ?_)
    have i_18 : 0 ≤ v_17.toInt ∧ v_17.toInt ≤ 11 := ev_17 ▸ hA_ar_6 2 _
    refine lv_istore (lv' := [(7, .int v_17), (6, .int v_10), (5, .int r_1), (0, .ref (ob 8)), (1, .int pp), (2, .int a), (3, .int b), (4, .int d)]) hx hb dX1_choose_60 hl (by decide) rfl (fun ls hl => ?_)
    refine lv_aload_n hx hb dX1_choose_62 rfl (lv_at hl 3 rfl) ?_
    refine gX_X1_51 hx hb htg hown hK hP dX1_choose_63 ?_
    refine lv_iload_n hx hb dX1_choose_66 rfl (lv_at hl 4 rfl) ?_
    refine lv_iload hx hb dX1_choose_67 (lv_at hl 2 rfl) ?_
    refine sX_49 hx hb hK hP hS hd (iv_in h_pp (by decide) (by decide)) dX1_choose_69 (fun H locs ar_19 ear_19 hP hS => ?_)
    have hA_ar_19 : rB ar_19 := rB_put hA_ar_6 ear_19 (iv_w i_13 (by decide) (by decide))
    refine lv_aload_n hx hb dX1_choose_70 rfl (lv_at hl 3 rfl) ?_
    refine gX_X1_9 hx hb htg hown hK hP dX1_choose_71 ?_
    refine gX_X1_199 hx hb htg hown hK hP dX1_choose_74 ?_
    refine lv_iload_n hx hb dX1_choose_77 rfl (lv_at hl 5 rfl) ?_
    refine lv_iload hx hb dX1_choose_78 (lv_at hl 0 rfl) ?_
    refine va_calli (va_runV (As := [.int a, .int v_17]) (rest := []) ⟨hx, hb, hml, hown, hts⟩ (x_between l dC dI H.size ob ad cA hd fv_4 wd_5 ar_19 hF_fv_4 hA_ar_19 a v_17) (cwV 2 hts (gV kw_5_149 kw_3_147 kw_3_148 kw_1_3 kw_3_149) rfl rfl rfl (by decide +kernel) ⟨Nat.le_of_ble_eq_true rfl, Nat.le_of_ble_eq_true rfl⟩) ⟨fun a U g mk q => ⟨q.1, q.2.1, q.2.2.1, va_K.moved (u := U) (U := U.calling g mk a) (Vm.Alike.refl U.vm) q.2.2.2⟩, va_recv hK hP (ci := 5) (q0 := 2) rfl rfl, fun U hU hW => ⟨rfl, by rw [hU], by rw [hU]; exact hP, va_K.moved hW.alike hK⟩⟩ rfl rfl hl.1 rfl (lv_room (Nat.le_of_ble_eq_true rfl)) dX1_choose_80 ⟨Nat.le_of_ble_eq_true rfl, Nat.le_of_ble_eq_true rfl⟩) hS (fun q _ h9 => aX_up hS q h9) (aX_up hS) (fun r_20 u t H1 locs ht _ hw hB _ hk1 hS => ?_)
    obtain ⟨fv_23, wd_24, ar_25⟩ := u
    obtain ⟨hF_fv_23, hA_ar_25, fr_26, fa_27, wf_28, p_21, p_22, -⟩ := hw
    have wf_28 : wd_24.2 = wd_5.2 := wf_28
    have hP : va_P (dC, dI) vwCl (wsX ob ad cA fv_23 wd_24 ar_25) H1 := by have h9 := hB.1; rw [ht] at h9; exact h9
    have fr_26 : fM [] fv_4 fv_23 := fr_26
    have fa_27 : fA [] ar_19 ar_25 := fa_27
    have p_22 : wt_bt r_20 a v_17 (ar_19 5) := p_22
    generalize H1 = H at hP hS ⊢
    have k_29 : r_20.toInt = (ar 5 (12 * a.toInt.toNat + v_17.toInt.toNat)).toInt := by have h9 := wt_btv p_22 h_a i_18; rw [show ar_19 5 = ar 5 from ((fA_put (fA_call (fA_rf [49, 62, 63] _) fa_8 (by decide)) ear_19 (by decide)) 5 rfl)] at h9; rw [h9]
    refine lv_istore (lv' := [(8, .int r_20), (7, .int v_17), (6, .int v_10), (5, .int r_1), (0, .ref (ob 8)), (1, .int pp), (2, .int a), (3, .int b), (4, .int d)]) hx hb dX1_choose_83 hl (by decide) rfl (fun ls hl => ?_)
    refine lv_iload hx hb dX1_choose_85 (lv_at hl 0 rfl) ?_
    refine lv_ldc hx hb hown (htg (.constant RX1 209 10000000) kw_5_150) dX1_choose_87 ?_
    refine lv_icmp_lt (tgt := 93) hx hb dX1_choose_89 (by decide) (fun c_30 => ?_) (fun c_30 => ?_)
    · skip
      have i_31 : 0 ≤ r_20.toInt ∧ r_20.toInt ≤ 9999999 := iv_lt1 p_21 (⟨by decide, by decide⟩ : (10000000 : Int) ≤ (10000000 : Int32).toInt ∧ (10000000 : Int32).toInt ≤ 10000000) c_30
      refine lv_iload_n hx hb dX1_choose_93 rfl (lv_at hl 7 rfl) ?_
      refine lv_aload_n hx hb dX1_choose_94 rfl (lv_at hl 4 rfl) ?_
      refine gX_X1_20 hx hb htg hown hK hP dX1_choose_95 ?_
      refine lv_iload_n hx hb dX1_choose_98 rfl (lv_at hl 5 rfl) ?_
      refine lv_iload_n hx hb dX1_choose_99 rfl (lv_at hl 6 rfl) ?_
      refine lv_iload hx hb dX1_choose_100 (lv_at hl 1 rfl) ?_
      refine va_calli (va_runV (As := [.int pp, .int a, .int v_17]) (rest := [.int b]) ⟨hx, hb, hml, hown, hts⟩ (x_walkMinutesE l dC dI H.size ob ad cA hd fv_23 wd_24 ar_25 hF_fv_23 hA_ar_25 pp a v_17 h_pp h_a i_18 (by have h9 := (show (ar 64 (pp.toInt.toNat)).toInt = mo_pc (mx_D fv ar) (ar 45 (pp.toInt.toNat)) (pp.toInt.toNat) from hp_mC (pp.toInt.toNat) (by omega)); have h8 := mo_pc_b hp_mR.1 (s := ar 45 (pp.toInt.toNat)) (pp.toInt.toNat); rw [show ar_25 64 = ar 64 from ((fA_call (fA_put (fA_call (fA_rf [49, 62, 63] _) fa_8 (by decide)) ear_19 (by decide)) fa_27 (by decide)) 64 rfl)]; rw [h9]; omega)) (cwV 3 hts (gV kw_5_151 kw_5_135 kw_5_136 kw_1_13 kw_5_137) rfl rfl rfl (by decide +kernel) ⟨Nat.le_of_ble_eq_true rfl, Nat.le_of_ble_eq_true rfl⟩) ⟨fun a U g mk q => ⟨q.1, q.2.1, q.2.2.1, va_K.moved (u := U) (U := U.calling g mk a) (Vm.Alike.refl U.vm) q.2.2.2⟩, va_recv hK hP (ci := 9) (q0 := 9) rfl rfl, fun U hU hW => ⟨rfl, by rw [hU], by rw [hU]; exact hP, va_K.moved hW.alike hK⟩⟩ rfl rfl hl.1 rfl (lv_room (Nat.le_of_ble_eq_true rfl)) dX1_choose_102 ⟨Nat.le_of_ble_eq_true rfl, Nat.le_of_ble_eq_true rfl⟩) hS (fun q _ h9 => aX_up hS q h9) (aX_up hS) (fun r_32 u t H1 locs ht _ hw hB _ hk1 hS => ?_)
      obtain ⟨fv_35, wd_36, ar_37⟩ := u
      obtain ⟨hF_fv_35, hA_ar_37, fr_38, fa_39, wf_40, p_33, p_34, -⟩ := hw
      have wf_40 : wd_36.2 = wd_24.2 := wf_40
      have hP : va_P (dC, dI) vwCl (wsX ob ad cA fv_35 wd_36 ar_37) H1 := by have h9 := hB.1; rw [ht] at h9; exact h9
      have fr_38 : fM [] fv_23 fv_35 := fr_38
      have fa_39 : fA [] ar_25 ar_37 := fa_39
      have p_34 : r_32.toInt = mo_wk (mx_G ar_25) (ar_25 64 (pp.toInt.toNat)).toInt a.toInt.toNat v_17.toInt.toNat := p_34
      generalize H1 = H at hP hS ⊢
      have k_41 : r_32.toInt = mo_wk (mx_G ar) (ar 64 (pp.toInt.toNat)).toInt a.toInt.toNat v_17.toInt.toNat := by have h9 := p_34; rw [show mx_G ar_25 = mx_G ar from by unfold mx_G; rw [show ar_25 5 = ar 5 from ((fA_call (fA_put (fA_call (fA_rf [49, 62, 63] _) fa_8 (by decide)) ear_19 (by decide)) fa_27 (by decide)) 5 rfl)], show ar_25 64 = ar 64 from ((fA_call (fA_put (fA_call (fA_rf [49, 62, 63] _) fa_8 (by decide)) ear_19 (by decide)) fa_27 (by decide)) 64 rfl)] at h9; exact h9
      refine lv_iadd hx hb dX1_choose_105 ?_
      refine lv_topi (fun v_42 ev_42 => ?_)
      have t_43 : v_42.toInt = b.toInt + r_32.toInt ∧ 0 ≤ v_42.toInt ∧ v_42.toInt ≤ 50000839 := iv_add ev_42 h_b p_33 (by decide) (by decide)
      refine lv_istore (lv' := [(9, .int v_42), (8, .int r_20), (7, .int v_17), (6, .int v_10), (5, .int r_1), (0, .ref (ob 8)), (1, .int pp), (2, .int a), (3, .int b), (4, .int d)]) hx hb dX1_choose_106 hl (by decide) rfl (fun ls hl => ?_)
      refine lv_iload hx hb dX1_choose_108 (lv_at hl 4 rfl) ?_
      refine lv_iconst (v := (-1)) hx hb dX1_choose_110 (by decide) ?_
      refine lv_icmp_ne (tgt := 130) hx hb dX1_choose_111 (by decide) (fun c_45 => ?_) (fun c_45 => ?_)
      · skip
        have k_46 : ¬ r_1.toInt = (-1) := fun q => c_45 (Int32.toInt_inj.mp q)
        refine lv_aload_n hx hb dX1_choose_130 rfl (lv_at hl 5 rfl) ?_
        refine lv_iload_n hx hb dX1_choose_131 rfl (lv_at hl 6 rfl) ?_
        refine lv_iload hx hb dX1_choose_132 (lv_at hl 1 rfl) ?_
        refine va_callv (va_runV (As := [.int pp, .int r_20]) (rest := []) ⟨hx, hb, hml, hown, hts⟩ (x_mwalkE l dC dI H.size ob ad cA hd fv_35 wd_36 ar_37 hF_fv_35 hA_ar_37 pp r_20 h_pp i_31 (mx_R_fr hp_mR (fM_call (fM_call (fM_call (fM_rf [] _) fr_7 (by decide)) fr_26 (by decide)) fr_38 (by decide)) (fA_call (fA_call (fA_put (fA_call (fA_rf [49, 62, 63] _) fa_8 (by decide)) ear_19 (by decide)) fa_27 (by decide)) fa_39 (by decide)) rfl rfl rfl rfl rfl rfl rfl rfl rfl rfl rfl rfl rfl rfl rfl rfl rfl rfl rfl rfl rfl rfl rfl rfl rfl rfl rfl) (mx_C_fr hp_mC (fM_call (fM_call (fM_call (fM_rf [] _) fr_7 (by decide)) fr_26 (by decide)) fr_38 (by decide)) (fA_call (fA_call (fA_put (fA_call (fA_rf [49, 62, 63] _) fa_8 (by decide)) ear_19 (by decide)) fa_27 (by decide)) fa_39 (by decide)) rfl rfl rfl rfl rfl rfl rfl rfl rfl rfl rfl rfl rfl rfl rfl rfl rfl rfl rfl rfl rfl rfl rfl rfl rfl rfl rfl rfl)) (cwV 2 hts (gV kw_5_152 kw_5_154 kw_p_33 kw_1_12 kw_5_155) rfl rfl rfl (by decide +kernel) ⟨Nat.le_of_ble_eq_true rfl, Nat.le_of_ble_eq_true rfl⟩) ⟨fun a U g mk q => ⟨q.1, q.2.1, q.2.2.1, va_K.moved (u := U) (U := U.calling g mk a) (Vm.Alike.refl U.vm) q.2.2.2⟩, va_recv hK hP (ci := 2) (q0 := 8) rfl rfl, fun U hU hW => ⟨rfl, by rw [hU], by rw [hU]; exact hP, va_K.moved hW.alike hK⟩⟩ rfl rfl hl.1 rfl (lv_room (Nat.le_of_ble_eq_true rfl)) dX1_choose_134 ⟨Nat.le_of_ble_eq_true rfl, Nat.le_of_ble_eq_true rfl⟩) hS (fun q _ h9 => aX_up hS q h9) (aX_up hS) (fun u t H1 locs ht _ hw hB _ hk1 hS => ?_)
        obtain ⟨fv_51, wd_52, ar_53⟩ := u
        obtain ⟨hF_fv_51, hA_ar_53, fr_54, fa_55, wf_56, p_48, p_49, p_50, -⟩ := hw
        have wf_56 : wd_52.2 = wd_36.2 := wf_56
        have hP : va_P (dC, dI) vwCl (wsX ob ad cA fv_51 wd_52 ar_53) H1 := by have h9 := hB.1; rw [ht] at h9; exact h9
        have fr_54 : fM [] fv_35 fv_51 := fr_54
        have fa_55 : fA [45, 47, 64] ar_37 ar_53 := fa_55
        have p_50 : mx_C fv_51 ar_53 := p_50
        have p_48 : ar_53 47 = upd (ar_37 47) (pp.toInt.toNat) (ar_37 47 (pp.toInt.toNat) + r_20) := p_48
        have p_49 : ∀ i : Nat, ar_53 45 i = if i = (pp.toInt.toNat) then mo_shoe (ar_37 45 (pp.toInt.toNat)) (mo_worn (ar_37 19 (pp.toInt.toNat) + ar_37 47 (pp.toInt.toNat)) r_20) else ar_37 45 i := p_49
        generalize H1 = H at hP hS ⊢
        exact W.vret hx hb hr (fun t ht hW => ⟨⟨(fv_51, wd_52, ar_53), rfl, ⟨hF_fv_51, hA_ar_53, (fM_call (fM_call (fM_call (fM_call (fM_rf [] _) fr_7 (by decide)) fr_26 (by decide)) fr_38 (by decide)) fr_54 (by decide)), (fA_call (fA_call (fA_call (fA_put (fA_call (fA_rf [45, 46, 47, 49, 62, 63, 64] _) fa_8 (by decide)) ear_19 (by decide)) fa_27 (by decide)) fa_39 (by decide)) fa_55 (by decide)), (wf_56.trans (wf_40.trans (wf_28.trans wf_9))), (show mx_S fv_51 ar_53 = mo_xc (mx_D fv ar) (mx_G ar) (mx_S fv ar) (pp.toInt.toNat) (a.toInt.toNat) b.toInt d.toInt from by have hpc9 := (show (ar 64 (pp.toInt.toNat)).toInt = mo_pc (mx_D fv ar) (ar 45 (pp.toInt.toNat)) (pp.toInt.toNat) from hp_mC (pp.toInt.toNat) (by omega)); have hpk := p_3; have ht := mo_t_eq (fun k => (hp_mR.1.2.2.1 k).2) hpk; rw [hpc9] at ht; show mx_S fv_51 ar_53 = mo_go (mx_D fv ar) (mx_G ar) (mx_S fv ar) (pp.toInt.toNat) (a.toInt.toNat) b.toInt (mo_t (mx_D fv ar) (mx_G ar) (pp.toInt.toNat) (a.toInt.toNat) (mo_pc (mx_D fv ar) (ar 45 (pp.toInt.toNat)) (pp.toInt.toNat)) b.toInt d.toInt); rw [ht]; exact mx_go_y (len := r_20.toInt) (wk := r_32.toInt) (x2 := (ar 46 (pp.toInt.toNat))) (x1 := mo_shoe (ar 45 (pp.toInt.toNat)) (mo_worn (ar 19 (pp.toInt.toNat) + ar 47 (pp.toInt.toNat)) r_20)) (fA_all (fA_call (fA_call (fA_call (fA_put (fA_call (fA_rf [45, 47, 49, 62, 63, 64] _) fa_8 (by decide)) ear_19 (by decide)) fa_27 (by decide)) fa_39 (by decide)) fa_55 (by decide)) rfl) ((fM_call (fM_call (fM_call (fM_call (fM_rf [] _) fr_7 (by decide)) fr_26 (by decide)) fr_38 (by decide)) fr_54 (by decide)) 23 rfl) (by rw [mo_i32i]; exact (by rw [show ar_53 49 = ar_19 49 from ((fA_call (fA_call (fA_call (fA_rf [45, 47, 64] _) fa_27 (by decide)) fa_39 (by decide)) fa_55 (by decide)) 49 rfl)]; rw [ear_19]; show upd (ar_6 49) (Int32.toNatClampNeg pp) r_1 = _; rw [show ar_6 49 = ar 49 from ((fA_call (fA_rf [62, 63] _) fa_8 (by decide)) 49 rfl)]; rw [show Int32.toNatClampNeg pp = (pp.toInt.toNat) from (show pp.toInt.toNat = (pp.toInt.toNat) from by omega)])) (fun i9 => by rw [show ar_53 46 = ar 46 from ((fA_call (fA_call (fA_call (fA_put (fA_call (fA_rf [45, 47, 49, 62, 63, 64] _) fa_8 (by decide)) ear_19 (by decide)) fa_27 (by decide)) fa_39 (by decide)) fa_55 (by decide)) 46 rfl)]; by_cases c9 : i9 = (pp.toInt.toNat); rw [if_pos c9, c9]; rw [if_neg c9]) (fun i9 => by rw [p_48, show ar_37 47 = ar 47 from ((fA_call (fA_call (fA_put (fA_call (fA_rf [49, 62, 63] _) fa_8 (by decide)) ear_19 (by decide)) fa_27 (by decide)) fa_39 (by decide)) 47 rfl), mo_i32i]; rfl) (fun i9 => by have h9 := p_49 i9; rw [show ar_37 47 = ar 47 from ((fA_call (fA_call (fA_put (fA_call (fA_rf [49, 62, 63] _) fa_8 (by decide)) ear_19 (by decide)) fa_27 (by decide)) fa_39 (by decide)) 47 rfl), show ar_37 45 = ar 45 from ((fA_call (fA_call (fA_put (fA_call (fA_rf [49, 62, 63] _) fa_8 (by decide)) ear_19 (by decide)) fa_27 (by decide)) fa_39 (by decide)) 45 rfl), show ar_37 19 = ar 19 from ((fA_call (fA_call (fA_put (fA_call (fA_rf [49, 62, 63] _) fa_8 (by decide)) ear_19 (by decide)) fa_27 (by decide)) fa_39 (by decide)) 19 rfl)] at h9; exact h9) (by rw [(show mo_goal (mx_D fv ar) (pp.toInt.toNat) r_1.toInt = v_17.toInt.toNat from by unfold mo_goal; rw [if_neg (by omega)]; show (ar 2 ((ar 29 (r_1.toInt.toNat)).toInt.toNat)).toInt.toNat = _; rw [show ar 29 (r_1.toInt.toNat) = v_15 from ((show v_15 = ar 29 (r_1.toInt.toNat) from by rw [ev_15, show ar_6 29 = ar 29 from ((fA_call (fA_rf [62, 63] _) fa_8 (by decide)) 29 rfl)]; exact congrArg (ar 29) (show r_1.toInt.toNat = (r_1.toInt.toNat) from by omega))).symm, show ar 2 (v_15.toInt.toNat) = v_17 from ((show v_17 = ar 2 (v_15.toInt.toNat) from by rw [ev_17, show ar_6 2 = ar 2 from ((fA_call (fA_rf [62, 63] _) fa_8 (by decide)) 2 rfl)]; exact congrArg (ar 2) (show v_15.toInt.toNat = (v_15.toInt.toNat) from by omega))).symm])]; exact (k_29).symm) (by rw [(show mo_goal (mx_D fv ar) (pp.toInt.toNat) r_1.toInt = v_17.toInt.toNat from by unfold mo_goal; rw [if_neg (by omega)]; show (ar 2 ((ar 29 (r_1.toInt.toNat)).toInt.toNat)).toInt.toNat = _; rw [show ar 29 (r_1.toInt.toNat) = v_15 from ((show v_15 = ar 29 (r_1.toInt.toNat) from by rw [ev_15, show ar_6 29 = ar 29 from ((fA_call (fA_rf [62, 63] _) fa_8 (by decide)) 29 rfl)]; exact congrArg (ar 29) (show r_1.toInt.toNat = (r_1.toInt.toNat) from by omega))).symm, show ar 2 (v_15.toInt.toNat) = v_17 from ((show v_17 = ar 2 (v_15.toInt.toNat) from by rw [ev_17, show ar_6 2 = ar 2 from ((fA_call (fA_rf [62, 63] _) fa_8 (by decide)) 2 rfl)]; exact congrArg (ar 2) (show v_15.toInt.toNat = (v_15.toInt.toNat) from by omega))).symm]), ← hpc9]; exact (k_41).symm) (by rw [if_neg (fun w => by omega)]) (by rw [mo_i32i]) (by omega)), p_50, trivial⟩, ⟨by rw [ht]; exact hP, va_K.moved hW.alike hK⟩⟩, hS.F ht⟩) hS.2.2 dX1_choose_137
      · skip
        exact absurd True.intro (by have h7 := i_13; have h8 := (⟨by decide, by decide⟩ : (-1 : Int) ≤ ((-1) : Int32).toInt ∧ ((-1) : Int32).toInt ≤ -1); have h9 := congrArg Int32.toInt c_45; exfalso; omega)
    · skip
      have i_57 : 10000000 ≤ r_20.toInt ∧ r_20.toInt ≤ 10000000 := iv_le2 (⟨by decide, by decide⟩ : (10000000 : Int) ≤ (10000000 : Int32).toInt ∧ (10000000 : Int32).toInt ≤ 10000000) p_21 (Int32.not_lt.mp c_30)
      exact W.vret hx hb hr (fun t ht hW => ⟨⟨(fv_23, wd_24, ar_25), rfl, ⟨hF_fv_23, hA_ar_25, (fM_call (fM_call (fM_rf [] _) fr_7 (by decide)) fr_26 (by decide)), (fA_call (fA_put (fA_call (fA_rf [45, 46, 47, 49, 62, 63, 64] _) fa_8 (by decide)) ear_19 (by decide)) fa_27 (by decide)), (wf_28.trans wf_9), (show mx_S fv_23 ar_25 = mo_xc (mx_D fv ar) (mx_G ar) (mx_S fv ar) (pp.toInt.toNat) (a.toInt.toNat) b.toInt d.toInt from by have hpc9 := (show (ar 64 (pp.toInt.toNat)).toInt = mo_pc (mx_D fv ar) (ar 45 (pp.toInt.toNat)) (pp.toInt.toNat) from hp_mC (pp.toInt.toNat) (by omega)); have hpk := p_3; have ht := mo_t_eq (fun k => (hp_mR.1.2.2.1 k).2) hpk; rw [hpc9] at ht; show mx_S fv_23 ar_25 = mo_go (mx_D fv ar) (mx_G ar) (mx_S fv ar) (pp.toInt.toNat) (a.toInt.toNat) b.toInt (mo_t (mx_D fv ar) (mx_G ar) (pp.toInt.toNat) (a.toInt.toNat) (mo_pc (mx_D fv ar) (ar 45 (pp.toInt.toNat)) (pp.toInt.toNat)) b.toInt d.toInt); rw [ht]; exact mx_go_n (fA_all (fA_call (fA_put (fA_call (fA_rf [49, 62, 63] _) fa_8 (by decide)) ear_19 (by decide)) fa_27 (by decide)) rfl) ((fM_call (fM_call (fM_rf [] _) fr_7 (by decide)) fr_26 (by decide)) 23 rfl) (by rw [mo_i32i]; exact (by rw [show ar_25 49 = ar_19 49 from ((fA_call (fA_rf [] _) fa_27 (by decide)) 49 rfl)]; rw [ear_19]; show upd (ar_6 49) (Int32.toNatClampNeg pp) r_1 = _; rw [show ar_6 49 = ar 49 from ((fA_call (fA_rf [62, 63] _) fa_8 (by decide)) 49 rfl)]; rw [show Int32.toNatClampNeg pp = (pp.toInt.toNat) from (show pp.toInt.toNat = (pp.toInt.toNat) from by omega)])) (by rw [(show mo_goal (mx_D fv ar) (pp.toInt.toNat) r_1.toInt = v_17.toInt.toNat from by unfold mo_goal; rw [if_neg (by omega)]; show (ar 2 ((ar 29 (r_1.toInt.toNat)).toInt.toNat)).toInt.toNat = _; rw [show ar 29 (r_1.toInt.toNat) = v_15 from ((show v_15 = ar 29 (r_1.toInt.toNat) from by rw [ev_15, show ar_6 29 = ar 29 from ((fA_call (fA_rf [62, 63] _) fa_8 (by decide)) 29 rfl)]; exact congrArg (ar 29) (show r_1.toInt.toNat = (r_1.toInt.toNat) from by omega))).symm, show ar 2 (v_15.toInt.toNat) = v_17 from ((show v_17 = ar 2 (v_15.toInt.toNat) from by rw [ev_17, show ar_6 2 = ar 2 from ((fA_call (fA_rf [62, 63] _) fa_8 (by decide)) 2 rfl)]; exact congrArg (ar 2) (show v_15.toInt.toNat = (v_15.toInt.toNat) from by omega))).symm])]; show 10000000 ≤ (ar 5 _).toInt; rw [← k_29]; omega)), (mx_C_fr hp_mC (fM_call (fM_call (fM_rf [] _) fr_7 (by decide)) fr_26 (by decide)) (fA_call (fA_put (fA_call (fA_rf [49, 62, 63] _) fa_8 (by decide)) ear_19 (by decide)) fa_27 (by decide)) rfl rfl rfl rfl rfl rfl rfl rfl rfl rfl rfl rfl rfl rfl rfl rfl rfl rfl rfl rfl rfl rfl rfl rfl rfl rfl rfl rfl), trivial⟩, ⟨by rw [ht]; exact hP, va_K.moved hW.alike hK⟩⟩, hS.F ht⟩) hS.2.2 dX1_choose_92
  · skip
    have i_58 : (-1) ≤ r_1.toInt ∧ r_1.toInt ≤ (-1) := iv_eq1 (⟨by decide, by decide⟩ : (-1 : Int) ≤ ((-1) : Int32).toInt ∧ ((-1) : Int32).toInt ≤ -1) c_12
    refine lv_iload hx hb dX1_choose_34 (lv_at hl 0 rfl) ?_
    refine lv_goto (tgt := 60) hx hb dX1_choose_36 (by decide) ?_
    refine lv_istore (lv' := [(7, .int v_10), (6, .int v_10), (5, .int r_1), (0, .ref (ob 8)), (1, .int pp), (2, .int a), (3, .int b), (4, .int d)]) hx hb dX1_choose_60 hl (by decide) rfl (fun ls hl => ?_)
    refine lv_aload_n hx hb dX1_choose_62 rfl (lv_at hl 3 rfl) ?_
    refine gX_X1_51 hx hb htg hown hK hP dX1_choose_63 ?_
    refine lv_iload_n hx hb dX1_choose_66 rfl (lv_at hl 4 rfl) ?_
    refine lv_iload hx hb dX1_choose_67 (lv_at hl 2 rfl) ?_
    refine sX_49 hx hb hK hP hS hd (iv_in h_pp (by decide) (by decide)) dX1_choose_69 (fun H locs ar_60 ear_60 hP hS => ?_)
    have hA_ar_60 : rB ar_60 := rB_put hA_ar_6 ear_60 (iv_w i_58 (by decide) (by decide))
    refine lv_aload_n hx hb dX1_choose_70 rfl (lv_at hl 3 rfl) ?_
    refine gX_X1_9 hx hb htg hown hK hP dX1_choose_71 ?_
    refine gX_X1_199 hx hb htg hown hK hP dX1_choose_74 ?_
    refine lv_iload_n hx hb dX1_choose_77 rfl (lv_at hl 5 rfl) ?_
    refine lv_iload hx hb dX1_choose_78 (lv_at hl 0 rfl) ?_
    refine va_calli (va_runV (As := [.int a, .int v_10]) (rest := []) ⟨hx, hb, hml, hown, hts⟩ (x_between l dC dI H.size ob ad cA hd fv_4 wd_5 ar_60 hF_fv_4 hA_ar_60 a v_10) (cwV 2 hts (gV kw_5_149 kw_3_147 kw_3_148 kw_1_3 kw_3_149) rfl rfl rfl (by decide +kernel) ⟨Nat.le_of_ble_eq_true rfl, Nat.le_of_ble_eq_true rfl⟩) ⟨fun a U g mk q => ⟨q.1, q.2.1, q.2.2.1, va_K.moved (u := U) (U := U.calling g mk a) (Vm.Alike.refl U.vm) q.2.2.2⟩, va_recv hK hP (ci := 5) (q0 := 2) rfl rfl, fun U hU hW => ⟨rfl, by rw [hU], by rw [hU]; exact hP, va_K.moved hW.alike hK⟩⟩ rfl rfl hl.1 rfl (lv_room (Nat.le_of_ble_eq_true rfl)) dX1_choose_80 ⟨Nat.le_of_ble_eq_true rfl, Nat.le_of_ble_eq_true rfl⟩) hS (fun q _ h9 => aX_up hS q h9) (aX_up hS) (fun r_61 u t H1 locs ht _ hw hB _ hk1 hS => ?_)
    obtain ⟨fv_64, wd_65, ar_66⟩ := u
    obtain ⟨hF_fv_64, hA_ar_66, fr_67, fa_68, wf_69, p_62, p_63, -⟩ := hw
    have wf_69 : wd_65.2 = wd_5.2 := wf_69
    have hP : va_P (dC, dI) vwCl (wsX ob ad cA fv_64 wd_65 ar_66) H1 := by have h9 := hB.1; rw [ht] at h9; exact h9
    have fr_67 : fM [] fv_4 fv_64 := fr_67
    have fa_68 : fA [] ar_60 ar_66 := fa_68
    have p_63 : wt_bt r_61 a v_10 (ar_60 5) := p_63
    generalize H1 = H at hP hS ⊢
    have k_70 : r_61.toInt = (ar 5 (12 * a.toInt.toNat + v_10.toInt.toNat)).toInt := by have h9 := wt_btv p_63 h_a i_11; rw [show ar_60 5 = ar 5 from ((fA_put (fA_call (fA_rf [49, 62, 63] _) fa_8 (by decide)) ear_60 (by decide)) 5 rfl)] at h9; rw [h9]
    refine lv_istore (lv' := [(8, .int r_61), (7, .int v_10), (6, .int v_10), (5, .int r_1), (0, .ref (ob 8)), (1, .int pp), (2, .int a), (3, .int b), (4, .int d)]) hx hb dX1_choose_83 hl (by decide) rfl (fun ls hl => ?_)
    refine lv_iload hx hb dX1_choose_85 (lv_at hl 0 rfl) ?_
    refine lv_ldc hx hb hown (htg (.constant RX1 209 10000000) kw_5_150) dX1_choose_87 ?_
    refine lv_icmp_lt (tgt := 93) hx hb dX1_choose_89 (by decide) (fun c_71 => ?_) (fun c_71 => ?_)
    · skip
      have i_72 : 0 ≤ r_61.toInt ∧ r_61.toInt ≤ 9999999 := iv_lt1 p_62 (⟨by decide, by decide⟩ : (10000000 : Int) ≤ (10000000 : Int32).toInt ∧ (10000000 : Int32).toInt ≤ 10000000) c_71
      refine lv_iload_n hx hb dX1_choose_93 rfl (lv_at hl 7 rfl) ?_
      refine lv_aload_n hx hb dX1_choose_94 rfl (lv_at hl 4 rfl) ?_
      refine gX_X1_20 hx hb htg hown hK hP dX1_choose_95 ?_
      refine lv_iload_n hx hb dX1_choose_98 rfl (lv_at hl 5 rfl) ?_
      refine lv_iload_n hx hb dX1_choose_99 rfl (lv_at hl 6 rfl) ?_
      refine lv_iload hx hb dX1_choose_100 (lv_at hl 1 rfl) ?_
      refine va_calli (va_runV (As := [.int pp, .int a, .int v_10]) (rest := [.int b]) ⟨hx, hb, hml, hown, hts⟩ (x_walkMinutesE l dC dI H.size ob ad cA hd fv_64 wd_65 ar_66 hF_fv_64 hA_ar_66 pp a v_10 h_pp h_a i_11 (by have h9 := (show (ar 64 (pp.toInt.toNat)).toInt = mo_pc (mx_D fv ar) (ar 45 (pp.toInt.toNat)) (pp.toInt.toNat) from hp_mC (pp.toInt.toNat) (by omega)); have h8 := mo_pc_b hp_mR.1 (s := ar 45 (pp.toInt.toNat)) (pp.toInt.toNat); rw [show ar_66 64 = ar 64 from ((fA_call (fA_put (fA_call (fA_rf [49, 62, 63] _) fa_8 (by decide)) ear_60 (by decide)) fa_68 (by decide)) 64 rfl)]; rw [h9]; omega)) (cwV 3 hts (gV kw_5_151 kw_5_135 kw_5_136 kw_1_13 kw_5_137) rfl rfl rfl (by decide +kernel) ⟨Nat.le_of_ble_eq_true rfl, Nat.le_of_ble_eq_true rfl⟩) ⟨fun a U g mk q => ⟨q.1, q.2.1, q.2.2.1, va_K.moved (u := U) (U := U.calling g mk a) (Vm.Alike.refl U.vm) q.2.2.2⟩, va_recv hK hP (ci := 9) (q0 := 9) rfl rfl, fun U hU hW => ⟨rfl, by rw [hU], by rw [hU]; exact hP, va_K.moved hW.alike hK⟩⟩ rfl rfl hl.1 rfl (lv_room (Nat.le_of_ble_eq_true rfl)) dX1_choose_102 ⟨Nat.le_of_ble_eq_true rfl, Nat.le_of_ble_eq_true rfl⟩) hS (fun q _ h9 => aX_up hS q h9) (aX_up hS) (fun r_73 u t H1 locs ht _ hw hB _ hk1 hS => ?_)
      obtain ⟨fv_76, wd_77, ar_78⟩ := u
      obtain ⟨hF_fv_76, hA_ar_78, fr_79, fa_80, wf_81, p_74, p_75, -⟩ := hw
      have wf_81 : wd_77.2 = wd_65.2 := wf_81
      have hP : va_P (dC, dI) vwCl (wsX ob ad cA fv_76 wd_77 ar_78) H1 := by have h9 := hB.1; rw [ht] at h9; exact h9
      have fr_79 : fM [] fv_64 fv_76 := fr_79
      have fa_80 : fA [] ar_66 ar_78 := fa_80
      have p_75 : r_73.toInt = mo_wk (mx_G ar_66) (ar_66 64 (pp.toInt.toNat)).toInt a.toInt.toNat v_10.toInt.toNat := p_75
      generalize H1 = H at hP hS ⊢
      have k_82 : r_73.toInt = mo_wk (mx_G ar) (ar 64 (pp.toInt.toNat)).toInt a.toInt.toNat v_10.toInt.toNat := by have h9 := p_75; rw [show mx_G ar_66 = mx_G ar from by unfold mx_G; rw [show ar_66 5 = ar 5 from ((fA_call (fA_put (fA_call (fA_rf [49, 62, 63] _) fa_8 (by decide)) ear_60 (by decide)) fa_68 (by decide)) 5 rfl)], show ar_66 64 = ar 64 from ((fA_call (fA_put (fA_call (fA_rf [49, 62, 63] _) fa_8 (by decide)) ear_60 (by decide)) fa_68 (by decide)) 64 rfl)] at h9; exact h9
      refine lv_iadd hx hb dX1_choose_105 ?_
      refine lv_topi (fun v_83 ev_83 => ?_)
      have t_84 : v_83.toInt = b.toInt + r_73.toInt ∧ 0 ≤ v_83.toInt ∧ v_83.toInt ≤ 50000839 := iv_add ev_83 h_b p_74 (by decide) (by decide)
      refine lv_istore (lv' := [(9, .int v_83), (8, .int r_61), (7, .int v_10), (6, .int v_10), (5, .int r_1), (0, .ref (ob 8)), (1, .int pp), (2, .int a), (3, .int b), (4, .int d)]) hx hb dX1_choose_106 hl (by decide) rfl (fun ls hl => ?_)
      refine lv_iload hx hb dX1_choose_108 (lv_at hl 4 rfl) ?_
      refine lv_iconst (v := (-1)) hx hb dX1_choose_110 (by decide) ?_
      refine lv_icmp_ne (tgt := 130) hx hb dX1_choose_111 (by decide) (fun c_86 => ?_) (fun c_86 => ?_)
      · skip
        exact absurd True.intro (by have h7 := i_58; have h8 := (⟨by decide, by decide⟩ : (-1 : Int) ≤ ((-1) : Int32).toInt ∧ ((-1) : Int32).toInt ≤ -1); have h9 : ¬ _ := fun q => c_86 (Int32.toInt_inj.mp q); exfalso; omega)
      · skip
        refine lv_iload hx hb dX1_choose_114 (lv_at hl 0 rfl) ?_
        refine lv_sipush (v := 840) hx hb dX1_choose_116 (by decide) ?_
        refine lv_icmp_ge (tgt := 130) hx hb dX1_choose_119 (by decide) (fun c_88 => ?_) (fun c_88 => ?_)
        · skip
          have i_89 : 840 ≤ v_83.toInt ∧ v_83.toInt ≤ 50000839 := iv_le2 (⟨by decide, by decide⟩ : (840 : Int) ≤ (840 : Int32).toInt ∧ (840 : Int32).toInt ≤ 840) t_84.2 c_88
          refine lv_aload_n hx hb dX1_choose_130 rfl (lv_at hl 5 rfl) ?_
          refine lv_iload_n hx hb dX1_choose_131 rfl (lv_at hl 6 rfl) ?_
          refine lv_iload hx hb dX1_choose_132 (lv_at hl 1 rfl) ?_
          refine va_callv (va_runV (As := [.int pp, .int r_61]) (rest := []) ⟨hx, hb, hml, hown, hts⟩ (x_mwalkE l dC dI H.size ob ad cA hd fv_76 wd_77 ar_78 hF_fv_76 hA_ar_78 pp r_61 h_pp i_72 (mx_R_fr hp_mR (fM_call (fM_call (fM_call (fM_rf [] _) fr_7 (by decide)) fr_67 (by decide)) fr_79 (by decide)) (fA_call (fA_call (fA_put (fA_call (fA_rf [49, 62, 63] _) fa_8 (by decide)) ear_60 (by decide)) fa_68 (by decide)) fa_80 (by decide)) rfl rfl rfl rfl rfl rfl rfl rfl rfl rfl rfl rfl rfl rfl rfl rfl rfl rfl rfl rfl rfl rfl rfl rfl rfl rfl rfl) (mx_C_fr hp_mC (fM_call (fM_call (fM_call (fM_rf [] _) fr_7 (by decide)) fr_67 (by decide)) fr_79 (by decide)) (fA_call (fA_call (fA_put (fA_call (fA_rf [49, 62, 63] _) fa_8 (by decide)) ear_60 (by decide)) fa_68 (by decide)) fa_80 (by decide)) rfl rfl rfl rfl rfl rfl rfl rfl rfl rfl rfl rfl rfl rfl rfl rfl rfl rfl rfl rfl rfl rfl rfl rfl rfl rfl rfl rfl)) (cwV 2 hts (gV kw_5_152 kw_5_154 kw_p_33 kw_1_12 kw_5_155) rfl rfl rfl (by decide +kernel) ⟨Nat.le_of_ble_eq_true rfl, Nat.le_of_ble_eq_true rfl⟩) ⟨fun a U g mk q => ⟨q.1, q.2.1, q.2.2.1, va_K.moved (u := U) (U := U.calling g mk a) (Vm.Alike.refl U.vm) q.2.2.2⟩, va_recv hK hP (ci := 2) (q0 := 8) rfl rfl, fun U hU hW => ⟨rfl, by rw [hU], by rw [hU]; exact hP, va_K.moved hW.alike hK⟩⟩ rfl rfl hl.1 rfl (lv_room (Nat.le_of_ble_eq_true rfl)) dX1_choose_134 ⟨Nat.le_of_ble_eq_true rfl, Nat.le_of_ble_eq_true rfl⟩) hS (fun q _ h9 => aX_up hS q h9) (aX_up hS) (fun u t H1 locs ht _ hw hB _ hk1 hS => ?_)
          obtain ⟨fv_94, wd_95, ar_96⟩ := u
          obtain ⟨hF_fv_94, hA_ar_96, fr_97, fa_98, wf_99, p_91, p_92, p_93, -⟩ := hw
          have wf_99 : wd_95.2 = wd_77.2 := wf_99
          have hP : va_P (dC, dI) vwCl (wsX ob ad cA fv_94 wd_95 ar_96) H1 := by have h9 := hB.1; rw [ht] at h9; exact h9
          have fr_97 : fM [] fv_76 fv_94 := fr_97
          have fa_98 : fA [45, 47, 64] ar_78 ar_96 := fa_98
          have p_93 : mx_C fv_94 ar_96 := p_93
          have p_91 : ar_96 47 = upd (ar_78 47) (pp.toInt.toNat) (ar_78 47 (pp.toInt.toNat) + r_61) := p_91
          have p_92 : ∀ i : Nat, ar_96 45 i = if i = (pp.toInt.toNat) then mo_shoe (ar_78 45 (pp.toInt.toNat)) (mo_worn (ar_78 19 (pp.toInt.toNat) + ar_78 47 (pp.toInt.toNat)) r_61) else ar_78 45 i := p_92
          generalize H1 = H at hP hS ⊢
          exact W.vret hx hb hr (fun t ht hW => ⟨⟨(fv_94, wd_95, ar_96), rfl, ⟨hF_fv_94, hA_ar_96, (fM_call (fM_call (fM_call (fM_call (fM_rf [] _) fr_7 (by decide)) fr_67 (by decide)) fr_79 (by decide)) fr_97 (by decide)), (fA_call (fA_call (fA_call (fA_put (fA_call (fA_rf [45, 46, 47, 49, 62, 63, 64] _) fa_8 (by decide)) ear_60 (by decide)) fa_68 (by decide)) fa_80 (by decide)) fa_98 (by decide)), (wf_99.trans (wf_81.trans (wf_69.trans wf_9))), (show mx_S fv_94 ar_96 = mo_xc (mx_D fv ar) (mx_G ar) (mx_S fv ar) (pp.toInt.toNat) (a.toInt.toNat) b.toInt d.toInt from by have hpc9 := (show (ar 64 (pp.toInt.toNat)).toInt = mo_pc (mx_D fv ar) (ar 45 (pp.toInt.toNat)) (pp.toInt.toNat) from hp_mC (pp.toInt.toNat) (by omega)); have hpk := p_3; have ht := mo_t_eq (fun k => (hp_mR.1.2.2.1 k).2) hpk; rw [hpc9] at ht; show mx_S fv_94 ar_96 = mo_go (mx_D fv ar) (mx_G ar) (mx_S fv ar) (pp.toInt.toNat) (a.toInt.toNat) b.toInt (mo_t (mx_D fv ar) (mx_G ar) (pp.toInt.toNat) (a.toInt.toNat) (mo_pc (mx_D fv ar) (ar 45 (pp.toInt.toNat)) (pp.toInt.toNat)) b.toInt d.toInt); rw [ht]; exact mx_go_y (len := r_61.toInt) (wk := r_73.toInt) (x2 := (ar 46 (pp.toInt.toNat))) (x1 := mo_shoe (ar 45 (pp.toInt.toNat)) (mo_worn (ar 19 (pp.toInt.toNat) + ar 47 (pp.toInt.toNat)) r_61)) (fA_all (fA_call (fA_call (fA_call (fA_put (fA_call (fA_rf [45, 47, 49, 62, 63, 64] _) fa_8 (by decide)) ear_60 (by decide)) fa_68 (by decide)) fa_80 (by decide)) fa_98 (by decide)) rfl) ((fM_call (fM_call (fM_call (fM_call (fM_rf [] _) fr_7 (by decide)) fr_67 (by decide)) fr_79 (by decide)) fr_97 (by decide)) 23 rfl) (by rw [mo_i32i]; exact (by rw [show ar_96 49 = ar_60 49 from ((fA_call (fA_call (fA_call (fA_rf [45, 47, 64] _) fa_68 (by decide)) fa_80 (by decide)) fa_98 (by decide)) 49 rfl)]; rw [ear_60]; show upd (ar_6 49) (Int32.toNatClampNeg pp) r_1 = _; rw [show ar_6 49 = ar 49 from ((fA_call (fA_rf [62, 63] _) fa_8 (by decide)) 49 rfl)]; rw [show Int32.toNatClampNeg pp = (pp.toInt.toNat) from (show pp.toInt.toNat = (pp.toInt.toNat) from by omega)])) (fun i9 => by rw [show ar_96 46 = ar 46 from ((fA_call (fA_call (fA_call (fA_put (fA_call (fA_rf [45, 47, 49, 62, 63, 64] _) fa_8 (by decide)) ear_60 (by decide)) fa_68 (by decide)) fa_80 (by decide)) fa_98 (by decide)) 46 rfl)]; by_cases c9 : i9 = (pp.toInt.toNat); rw [if_pos c9, c9]; rw [if_neg c9]) (fun i9 => by rw [p_91, show ar_78 47 = ar 47 from ((fA_call (fA_call (fA_put (fA_call (fA_rf [49, 62, 63] _) fa_8 (by decide)) ear_60 (by decide)) fa_68 (by decide)) fa_80 (by decide)) 47 rfl), mo_i32i]; rfl) (fun i9 => by have h9 := p_92 i9; rw [show ar_78 47 = ar 47 from ((fA_call (fA_call (fA_put (fA_call (fA_rf [49, 62, 63] _) fa_8 (by decide)) ear_60 (by decide)) fa_68 (by decide)) fa_80 (by decide)) 47 rfl), show ar_78 45 = ar 45 from ((fA_call (fA_call (fA_put (fA_call (fA_rf [49, 62, 63] _) fa_8 (by decide)) ear_60 (by decide)) fa_68 (by decide)) fa_80 (by decide)) 45 rfl), show ar_78 19 = ar 19 from ((fA_call (fA_call (fA_put (fA_call (fA_rf [49, 62, 63] _) fa_8 (by decide)) ear_60 (by decide)) fa_68 (by decide)) fa_80 (by decide)) 19 rfl)] at h9; exact h9) (by rw [(show mo_goal (mx_D fv ar) (pp.toInt.toNat) r_1.toInt = v_10.toInt.toNat from by unfold mo_goal; rw [if_pos (by omega)]; show (ar 7 (pp.toInt.toNat)).toInt.toNat = _; rw [show ar 7 (pp.toInt.toNat) = v_10 from ((show v_10 = ar 7 (pp.toInt.toNat) from by rw [ev_10, show ar_6 7 = ar 7 from ((fA_call (fA_rf [62, 63] _) fa_8 (by decide)) 7 rfl)]; exact congrArg (ar 7) (show pp.toInt.toNat = (pp.toInt.toNat) from by omega))).symm])]; exact (k_70).symm) (by rw [(show mo_goal (mx_D fv ar) (pp.toInt.toNat) r_1.toInt = v_10.toInt.toNat from by unfold mo_goal; rw [if_pos (by omega)]; show (ar 7 (pp.toInt.toNat)).toInt.toNat = _; rw [show ar 7 (pp.toInt.toNat) = v_10 from ((show v_10 = ar 7 (pp.toInt.toNat) from by rw [ev_10, show ar_6 7 = ar 7 from ((fA_call (fA_rf [62, 63] _) fa_8 (by decide)) 7 rfl)]; exact congrArg (ar 7) (show pp.toInt.toNat = (pp.toInt.toNat) from by omega))).symm]), ← hpc9]; exact (k_82).symm) (by rw [if_neg (fun w => by omega)]) (by rw [mo_i32i]) (by omega)), p_93, trivial⟩, ⟨by rw [ht]; exact hP, va_K.moved hW.alike hK⟩⟩, hS.F ht⟩) hS.2.2 dX1_choose_137
        · skip
          have i_100 : 0 ≤ v_83.toInt ∧ v_83.toInt ≤ 839 := iv_lt1 t_84.2 (⟨by decide, by decide⟩ : (840 : Int) ≤ (840 : Int32).toInt ∧ (840 : Int32).toInt ≤ 840) (Int32.not_le.mp c_88)
          refine lv_aload_n hx hb dX1_choose_122 rfl (lv_at hl 5 rfl) ?_
          refine gX_X1_42 hx hb htg hown hK hP dX1_choose_123 ?_
          refine lv_iload_n hx hb dX1_choose_126 rfl (lv_at hl 6 rfl) ?_
          refine lv_iload hx hb dX1_choose_127 (lv_at hl 0 rfl) ?_
          refine sX_46 hx hb hK hP hS hd (iv_in h_pp (by decide) (by decide)) dX1_choose_129 (fun H locs ar_101 ear_101 hP hS => ?_)
          have hA_ar_101 : rB ar_101 := rB_put hA_ar_78 ear_101 (iv_any _)
          refine lv_aload_n hx hb dX1_choose_130 rfl (lv_at hl 5 rfl) ?_
          refine lv_iload_n hx hb dX1_choose_131 rfl (lv_at hl 6 rfl) ?_
          refine lv_iload hx hb dX1_choose_132 (lv_at hl 1 rfl) ?_
          refine va_callv (va_runV (As := [.int pp, .int r_61]) (rest := []) ⟨hx, hb, hml, hown, hts⟩ (x_mwalkE l dC dI H.size ob ad cA hd fv_76 wd_77 ar_101 hF_fv_76 hA_ar_101 pp r_61 h_pp i_72 (mx_R_fr hp_mR (fM_call (fM_call (fM_call (fM_rf [] _) fr_7 (by decide)) fr_67 (by decide)) fr_79 (by decide)) (fA_put (fA_call (fA_call (fA_put (fA_call (fA_rf [46, 49, 62, 63] _) fa_8 (by decide)) ear_60 (by decide)) fa_68 (by decide)) fa_80 (by decide)) ear_101 (by decide)) rfl rfl rfl rfl rfl rfl rfl rfl rfl rfl rfl rfl rfl rfl rfl rfl rfl rfl rfl rfl rfl rfl rfl rfl rfl rfl rfl) (mx_C_fr hp_mC (fM_call (fM_call (fM_call (fM_rf [] _) fr_7 (by decide)) fr_67 (by decide)) fr_79 (by decide)) (fA_put (fA_call (fA_call (fA_put (fA_call (fA_rf [46, 49, 62, 63] _) fa_8 (by decide)) ear_60 (by decide)) fa_68 (by decide)) fa_80 (by decide)) ear_101 (by decide)) rfl rfl rfl rfl rfl rfl rfl rfl rfl rfl rfl rfl rfl rfl rfl rfl rfl rfl rfl rfl rfl rfl rfl rfl rfl rfl rfl rfl)) (cwV 2 hts (gV kw_5_152 kw_5_154 kw_p_33 kw_1_12 kw_5_155) rfl rfl rfl (by decide +kernel) ⟨Nat.le_of_ble_eq_true rfl, Nat.le_of_ble_eq_true rfl⟩) ⟨fun a U g mk q => ⟨q.1, q.2.1, q.2.2.1, va_K.moved (u := U) (U := U.calling g mk a) (Vm.Alike.refl U.vm) q.2.2.2⟩, va_recv hK hP (ci := 2) (q0 := 8) rfl rfl, fun U hU hW => ⟨rfl, by rw [hU], by rw [hU]; exact hP, va_K.moved hW.alike hK⟩⟩ rfl rfl hl.1 rfl (lv_room (Nat.le_of_ble_eq_true rfl)) dX1_choose_134 ⟨Nat.le_of_ble_eq_true rfl, Nat.le_of_ble_eq_true rfl⟩) hS (fun q _ h9 => aX_up hS q h9) (aX_up hS) (fun u t H1 locs ht _ hw hB _ hk1 hS => ?_)
          obtain ⟨fv_106, wd_107, ar_108⟩ := u
          obtain ⟨hF_fv_106, hA_ar_108, fr_109, fa_110, wf_111, p_103, p_104, p_105, -⟩ := hw
          have wf_111 : wd_107.2 = wd_77.2 := wf_111
          have hP : va_P (dC, dI) vwCl (wsX ob ad cA fv_106 wd_107 ar_108) H1 := by have h9 := hB.1; rw [ht] at h9; exact h9
          have fr_109 : fM [] fv_76 fv_106 := fr_109
          have fa_110 : fA [45, 47, 64] ar_101 ar_108 := fa_110
          have p_105 : mx_C fv_106 ar_108 := p_105
          have p_103 : ar_108 47 = upd (ar_101 47) (pp.toInt.toNat) (ar_101 47 (pp.toInt.toNat) + r_61) := p_103
          have p_104 : ∀ i : Nat, ar_108 45 i = if i = (pp.toInt.toNat) then mo_shoe (ar_101 45 (pp.toInt.toNat)) (mo_worn (ar_101 19 (pp.toInt.toNat) + ar_101 47 (pp.toInt.toNat)) r_61) else ar_101 45 i := p_104
          generalize H1 = H at hP hS ⊢
          exact W.vret hx hb hr (fun t ht hW => ⟨⟨(fv_106, wd_107, ar_108), rfl, ⟨hF_fv_106, hA_ar_108, (fM_call (fM_call (fM_call (fM_call (fM_rf [] _) fr_7 (by decide)) fr_67 (by decide)) fr_79 (by decide)) fr_109 (by decide)), (fA_call (fA_put (fA_call (fA_call (fA_put (fA_call (fA_rf [45, 46, 47, 49, 62, 63, 64] _) fa_8 (by decide)) ear_60 (by decide)) fa_68 (by decide)) fa_80 (by decide)) ear_101 (by decide)) fa_110 (by decide)), (wf_111.trans (wf_81.trans (wf_69.trans wf_9))), (show mx_S fv_106 ar_108 = mo_xc (mx_D fv ar) (mx_G ar) (mx_S fv ar) (pp.toInt.toNat) (a.toInt.toNat) b.toInt d.toInt from by have hpc9 := (show (ar 64 (pp.toInt.toNat)).toInt = mo_pc (mx_D fv ar) (ar 45 (pp.toInt.toNat)) (pp.toInt.toNat) from hp_mC (pp.toInt.toNat) (by omega)); have hpk := p_3; have ht := mo_t_eq (fun k => (hp_mR.1.2.2.1 k).2) hpk; rw [hpc9] at ht; show mx_S fv_106 ar_108 = mo_go (mx_D fv ar) (mx_G ar) (mx_S fv ar) (pp.toInt.toNat) (a.toInt.toNat) b.toInt (mo_t (mx_D fv ar) (mx_G ar) (pp.toInt.toNat) (a.toInt.toNat) (mo_pc (mx_D fv ar) (ar 45 (pp.toInt.toNat)) (pp.toInt.toNat)) b.toInt d.toInt); rw [ht]; exact mx_go_y (len := r_61.toInt) (wk := r_73.toInt) (x2 := v_83) (x1 := mo_shoe (ar 45 (pp.toInt.toNat)) (mo_worn (ar 19 (pp.toInt.toNat) + ar 47 (pp.toInt.toNat)) r_61)) (fA_all (fA_call (fA_put (fA_call (fA_call (fA_put (fA_call (fA_rf [45, 46, 47, 49, 62, 63, 64] _) fa_8 (by decide)) ear_60 (by decide)) fa_68 (by decide)) fa_80 (by decide)) ear_101 (by decide)) fa_110 (by decide)) rfl) ((fM_call (fM_call (fM_call (fM_call (fM_rf [] _) fr_7 (by decide)) fr_67 (by decide)) fr_79 (by decide)) fr_109 (by decide)) 23 rfl) (by rw [mo_i32i]; exact (by rw [show ar_108 49 = ar_60 49 from ((fA_call (fA_put (fA_call (fA_call (fA_rf [45, 46, 47, 64] _) fa_68 (by decide)) fa_80 (by decide)) ear_101 (by decide)) fa_110 (by decide)) 49 rfl)]; rw [ear_60]; show upd (ar_6 49) (Int32.toNatClampNeg pp) r_1 = _; rw [show ar_6 49 = ar 49 from ((fA_call (fA_rf [62, 63] _) fa_8 (by decide)) 49 rfl)]; rw [show Int32.toNatClampNeg pp = (pp.toInt.toNat) from (show pp.toInt.toNat = (pp.toInt.toNat) from by omega)])) (fun i9 => by rw [show ar_108 46 = ar_101 46 from ((fA_call (fA_rf [45, 47, 64] _) fa_110 (by decide)) 46 rfl), ear_101]; show (if i9 = Int32.toNatClampNeg pp then v_83 else ar_78 46 i9) = _; rw [show ar_78 46 = ar 46 from ((fA_call (fA_call (fA_put (fA_call (fA_rf [49, 62, 63] _) fa_8 (by decide)) ear_60 (by decide)) fa_68 (by decide)) fa_80 (by decide)) 46 rfl)]; rfl) (fun i9 => by rw [p_103, show ar_101 47 = ar 47 from ((fA_put (fA_call (fA_call (fA_put (fA_call (fA_rf [46, 49, 62, 63] _) fa_8 (by decide)) ear_60 (by decide)) fa_68 (by decide)) fa_80 (by decide)) ear_101 (by decide)) 47 rfl), mo_i32i]; rfl) (fun i9 => by have h9 := p_104 i9; rw [show ar_101 47 = ar 47 from ((fA_put (fA_call (fA_call (fA_put (fA_call (fA_rf [46, 49, 62, 63] _) fa_8 (by decide)) ear_60 (by decide)) fa_68 (by decide)) fa_80 (by decide)) ear_101 (by decide)) 47 rfl), show ar_101 45 = ar 45 from ((fA_put (fA_call (fA_call (fA_put (fA_call (fA_rf [46, 49, 62, 63] _) fa_8 (by decide)) ear_60 (by decide)) fa_68 (by decide)) fa_80 (by decide)) ear_101 (by decide)) 45 rfl), show ar_101 19 = ar 19 from ((fA_put (fA_call (fA_call (fA_put (fA_call (fA_rf [46, 49, 62, 63] _) fa_8 (by decide)) ear_60 (by decide)) fa_68 (by decide)) fa_80 (by decide)) ear_101 (by decide)) 19 rfl)] at h9; exact h9) (by rw [(show mo_goal (mx_D fv ar) (pp.toInt.toNat) r_1.toInt = v_10.toInt.toNat from by unfold mo_goal; rw [if_pos (by omega)]; show (ar 7 (pp.toInt.toNat)).toInt.toNat = _; rw [show ar 7 (pp.toInt.toNat) = v_10 from ((show v_10 = ar 7 (pp.toInt.toNat) from by rw [ev_10, show ar_6 7 = ar 7 from ((fA_call (fA_rf [62, 63] _) fa_8 (by decide)) 7 rfl)]; exact congrArg (ar 7) (show pp.toInt.toNat = (pp.toInt.toNat) from by omega))).symm])]; exact (k_70).symm) (by rw [(show mo_goal (mx_D fv ar) (pp.toInt.toNat) r_1.toInt = v_10.toInt.toNat from by unfold mo_goal; rw [if_pos (by omega)]; show (ar 7 (pp.toInt.toNat)).toInt.toNat = _; rw [show ar 7 (pp.toInt.toNat) = v_10 from ((show v_10 = ar 7 (pp.toInt.toNat) from by rw [ev_10, show ar_6 7 = ar 7 from ((fA_call (fA_rf [62, 63] _) fa_8 (by decide)) 7 rfl)]; exact congrArg (ar 7) (show pp.toInt.toNat = (pp.toInt.toNat) from by omega))).symm]), ← hpc9]; exact (k_82).symm) (by rw [if_pos ⟨by omega, by omega⟩, show b.toInt + r_73.toInt = v_83.toInt from by omega, mo_i32i]) (by rw [mo_i32i]) (by omega)), p_105, trivial⟩, ⟨by rw [ht]; exact hP, va_K.moved hW.alike hK⟩⟩, hS.F ht⟩) hS.2.2 dX1_choose_137
    · skip
      have i_112 : 10000000 ≤ r_61.toInt ∧ r_61.toInt ≤ 10000000 := iv_le2 (⟨by decide, by decide⟩ : (10000000 : Int) ≤ (10000000 : Int32).toInt ∧ (10000000 : Int32).toInt ≤ 10000000) p_62 (Int32.not_lt.mp c_71)
      exact W.vret hx hb hr (fun t ht hW => ⟨⟨(fv_64, wd_65, ar_66), rfl, ⟨hF_fv_64, hA_ar_66, (fM_call (fM_call (fM_rf [] _) fr_7 (by decide)) fr_67 (by decide)), (fA_call (fA_put (fA_call (fA_rf [45, 46, 47, 49, 62, 63, 64] _) fa_8 (by decide)) ear_60 (by decide)) fa_68 (by decide)), (wf_69.trans wf_9), (show mx_S fv_64 ar_66 = mo_xc (mx_D fv ar) (mx_G ar) (mx_S fv ar) (pp.toInt.toNat) (a.toInt.toNat) b.toInt d.toInt from by have hpc9 := (show (ar 64 (pp.toInt.toNat)).toInt = mo_pc (mx_D fv ar) (ar 45 (pp.toInt.toNat)) (pp.toInt.toNat) from hp_mC (pp.toInt.toNat) (by omega)); have hpk := p_3; have ht := mo_t_eq (fun k => (hp_mR.1.2.2.1 k).2) hpk; rw [hpc9] at ht; show mx_S fv_64 ar_66 = mo_go (mx_D fv ar) (mx_G ar) (mx_S fv ar) (pp.toInt.toNat) (a.toInt.toNat) b.toInt (mo_t (mx_D fv ar) (mx_G ar) (pp.toInt.toNat) (a.toInt.toNat) (mo_pc (mx_D fv ar) (ar 45 (pp.toInt.toNat)) (pp.toInt.toNat)) b.toInt d.toInt); rw [ht]; exact mx_go_n (fA_all (fA_call (fA_put (fA_call (fA_rf [49, 62, 63] _) fa_8 (by decide)) ear_60 (by decide)) fa_68 (by decide)) rfl) ((fM_call (fM_call (fM_rf [] _) fr_7 (by decide)) fr_67 (by decide)) 23 rfl) (by rw [mo_i32i]; exact (by rw [show ar_66 49 = ar_60 49 from ((fA_call (fA_rf [] _) fa_68 (by decide)) 49 rfl)]; rw [ear_60]; show upd (ar_6 49) (Int32.toNatClampNeg pp) r_1 = _; rw [show ar_6 49 = ar 49 from ((fA_call (fA_rf [62, 63] _) fa_8 (by decide)) 49 rfl)]; rw [show Int32.toNatClampNeg pp = (pp.toInt.toNat) from (show pp.toInt.toNat = (pp.toInt.toNat) from by omega)])) (by rw [(show mo_goal (mx_D fv ar) (pp.toInt.toNat) r_1.toInt = v_10.toInt.toNat from by unfold mo_goal; rw [if_pos (by omega)]; show (ar 7 (pp.toInt.toNat)).toInt.toNat = _; rw [show ar 7 (pp.toInt.toNat) = v_10 from ((show v_10 = ar 7 (pp.toInt.toNat) from by rw [ev_10, show ar_6 7 = ar 7 from ((fA_call (fA_rf [62, 63] _) fa_8 (by decide)) 7 rfl)]; exact congrArg (ar 7) (show pp.toInt.toNat = (pp.toInt.toNat) from by omega))).symm])]; show 10000000 ≤ (ar 5 _).toInt; rw [← k_70]; omega)), (mx_C_fr hp_mC (fM_call (fM_call (fM_rf [] _) fr_7 (by decide)) fr_67 (by decide)) (fA_call (fA_put (fA_call (fA_rf [49, 62, 63] _) fa_8 (by decide)) ear_60 (by decide)) fa_68 (by decide)) rfl rfl rfl rfl rfl rfl rfl rfl rfl rfl rfl rfl rfl rfl rfl rfl rfl rfl rfl rfl rfl rfl rfl rfl rfl rfl rfl rfl), trivial⟩, ⟨by rw [ht]; exact hP, va_K.moved hW.alike hK⟩⟩, hS.F ht⟩) hS.2.2 dX1_choose_92

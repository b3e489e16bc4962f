set_option maxHeartbeats 4000000 in
set_option maxRecDepth 100000 in
theorem x_tjoinS (l : Launch) (dC : Nat → ClassId) (dI : Nat → Nat → Nat) (sz : Nat) (ob ad : Nat → Nat) (cA : Nat → ClassId) (hd : dX ob ad) (fv : Nat → Int32) (wd : xT) (ar : Nat → Nat → Int32) (hF_fv : rX fv) (hA_ar : rB ar) (ww : Int32) (fr_ : Int32) (to_ : Int32) (b : Int32) (h_ww : 0 ≤ ww.toInt ∧ ww.toInt ≤ 19) (h_fr_ : 0 ≤ fr_.toInt ∧ fr_.toInt ≤ 7) (h_to_ : 0 ≤ to_.toInt ∧ to_.toInt ≤ 7) (hz : (fv 12).toInt ≤ 79) : Met l yX8_join (.code yX8_join cX8_join 5 (some .int) :: lw_good) ({ frames := 2, cells := 0, slots := 0, locals := 40 }) (va_Pc [.ref (ob 5), .int ww, .int fr_, .int to_, .int b] (prX dC dI ob ad cA fv wd ar sz)) (va_Qi (fun (r : Int32) (u : xS) => rX u.1 ∧ rB u.2.2 ∧ fM [12] fv u.1 ∧ fA [28, 29, 30, 31, 35] ar u.2.2 ∧ u.2.1.2 = wd.2 ∧ (0 ≤ r.toInt ∧ r.toInt ≤ 79) ∧ (r.toInt = (fv 12).toInt ∧ (u.1 12).toInt = (fv 12).toInt + 1) ∧ (u.2.2 28 = upd (ar 28) ((fv 12).toInt.toNat) ww) ∧ (u.2.2 29 = upd (ar 29) ((fv 12).toInt.toNat) fr_) ∧ (u.2.2 30 = upd (ar 30) ((fv 12).toInt.toNat) to_) ∧ (u.2.2 31 = upd (ar 31) ((fv 12).toInt.toNat) b) ∧ (u.2.2 35 = upd (ar 35) ((fv 12).toInt.toNat) (-1)) ∧ True) (enX dC dI ob ad cA) (aX ob ad sz)) 0 0 (aX ob ad sz) := by
  refine Met.ofW (cc := cX8_join) (maxL := 5) (ret := (some .int)) (by decide) rfl ?_
  intro p e s m args below meth c s₁ B hml hv
  obtain ⟨rfl, hsz, hP, hK⟩ := hv
  have hx := B.exec
  have hb := B.bytes
  have hr := B.returns
  have hts := atoms_spec (ws := (.code yX8_join cX8_join 5 (some .int) :: lw_good)) B.pre
  have htg : ∀ w ∈ lw_good, w.before _ s = true := fun w hw => hts w (List.mem_cons_of_mem _ hw)
  have hown : s.vm.findClass RX8 = some m.cls := findClass_of_methodNamed B.named
  have hlocks := B.notSynchronized
  subst hsz
  have hS : va_S (aX ob ad s.heap.size) s.heap s.heap [] := va_S.rf
  have hl := lv_entry ([.ref (ob 5), .int ww, .int fr_, .int to_, .int b]) (n := 5) (Nat.le_of_ble_eq_true rfl)
  rw [lg_entry_eq]
  generalize (lg_sl ([.ref (ob 5), .int ww, .int fr_, .int to_, .int b]) ++ List.replicate (5 - (lg_sl ([.ref (ob 5), .int ww, .int fr_, .int to_, .int b])).length) Slot.unset).toArray = ls at hl ⊢
  have hl : lv_has ls 5 [(0, .ref (ob 5)), (1, .int ww), (2, .int fr_), (3, .int to_), (4, .int b)] := hl
  have i_1 : 0 ≤ (fv 12).toInt ∧ (fv 12).toInt ≤ 79 := ⟨(hF_fv 12).1, hz⟩
  refine lv_aload_n hx hb dX8_join_0 rfl (lv_at hl 0 rfl) ?_
  refine gX_X8_11 hx hb htg hown hK hP dX8_join_1 ?_
  refine lv_aload_n hx hb dX8_join_4 rfl (lv_at hl 0 rfl) ?_
  refine gX_X8_36 hx hb htg hown hK hP dX8_join_5 ?_
  refine lv_iload_n hx hb dX8_join_8 rfl (lv_at hl 1 rfl) ?_
  refine sX_28 hx hb hK hP hS hd (iv_in i_1 (by decide) (by decide)) dX8_join_9 (fun H locs ar_2 ear_2 hP hS => ?_)
  have hA_ar_2 : rB ar_2 := rB_put hA_ar ear_2 h_ww
  refine lv_aload_n hx hb dX8_join_10 rfl (lv_at hl 0 rfl) ?_
  refine gX_X8_15 hx hb htg hown hK hP dX8_join_11 ?_
  refine lv_aload_n hx hb dX8_join_14 rfl (lv_at hl 0 rfl) ?_
  refine gX_X8_36 hx hb htg hown hK hP dX8_join_15 ?_
  refine lv_iload_n hx hb dX8_join_18 rfl (lv_at hl 2 rfl) ?_
  refine sX_29 hx hb hK hP hS hd (iv_in i_1 (by decide) (by decide)) dX8_join_19 (fun H locs ar_3 ear_3 hP hS => ?_)
  have hA_ar_3 : rB ar_3 := rB_put hA_ar_2 ear_3 h_fr_
  refine lv_aload_n hx hb dX8_join_20 rfl (lv_at hl 0 rfl) ?_
  refine gX_X8_18 hx hb htg hown hK hP dX8_join_21 ?_
  refine lv_aload_n hx hb dX8_join_24 rfl (lv_at hl 0 rfl) ?_
  refine gX_X8_36 hx hb htg hown hK hP dX8_join_25 ?_
  refine lv_iload_n hx hb dX8_join_28 rfl (lv_at hl 3 rfl) ?_
  refine sX_30 hx hb hK hP hS hd (iv_in i_1 (by decide) (by decide)) dX8_join_29 (fun H locs ar_4 ear_4 hP hS => ?_)
  have hA_ar_4 : rB ar_4 := rB_put hA_ar_3 ear_4 h_to_
  refine lv_aload_n hx hb dX8_join_30 rfl (lv_at hl 0 rfl) ?_
  refine gX_X8_21 hx hb htg hown hK hP dX8_join_31 ?_
  refine lv_aload_n hx hb dX8_join_34 rfl (lv_at hl 0 rfl) ?_
  refine gX_X8_36 hx hb htg hown hK hP dX8_join_35 ?_
  refine lv_iload hx hb dX8_join_38 (lv_at hl 4 rfl) ?_
  refine sX_31 hx hb hK hP hS hd (iv_in i_1 (by decide) (by decide)) dX8_join_40 (fun H locs ar_5 ear_5 hP hS => ?_)
  have hA_ar_5 : rB ar_5 := rB_put hA_ar_4 ear_5 (iv_any _)
  refine lv_aload_n hx hb dX8_join_41 rfl (lv_at hl 0 rfl) ?_
  refine gX_X8_33 hx hb htg hown hK hP dX8_join_42 ?_
  refine lv_aload_n hx hb dX8_join_45 rfl (lv_at hl 0 rfl) ?_
  refine gX_X8_36 hx hb htg hown hK hP dX8_join_46 ?_
  refine lv_iconst (v := (-1)) hx hb dX8_join_49 (by decide) ?_
  refine sX_35 hx hb hK hP hS hd (iv_in i_1 (by decide) (by decide)) dX8_join_50 (fun H locs ar_6 ear_6 hP hS => ?_)
  have hA_ar_6 : rB ar_6 := rB_put hA_ar_5 ear_6 (iv_any _)
  refine lv_aload_n hx hb dX8_join_51 rfl (lv_at hl 0 rfl) ?_
  refine lv_dup hx hb dX8_join_52 rfl ?_
  refine gX_X8_36 hx hb htg hown hK hP dX8_join_53 ?_
  refine lv_iconst (v := 1) hx hb dX8_join_56 (by decide) ?_
  refine lv_iadd hx hb dX8_join_57 ?_
  refine lv_topi (fun v_7 ev_7 => ?_)
  have t_8 : v_7.toInt = (fv 12).toInt + 1 ∧ 1 ≤ v_7.toInt ∧ v_7.toInt ≤ 80 := iv_addc ev_7 i_1 (by decide) (by decide) (by decide)
  refine pX_X8_36 hx hb htg hown hK hP hS hd dX8_join_58 (fun H locs fv_10 efv_10 hP hS => ?_)
  have hF_fv_10 : rX fv_10 := rX_put hF_fv efv_10 (iv_w t_8.2 (by decide) (by decide))
  refine lv_aload_n hx hb dX8_join_61 rfl (lv_at hl 0 rfl) ?_
  refine gX_X8_36 hx hb htg hown hK hP dX8_join_62 ?_
  refine my_ti (y := v_7) ((congrFun efv_10 12)) ?_
  refine lv_iconst (v := 1) hx hb dX8_join_65 (by decide) ?_
  refine lv_isub hx hb dX8_join_66 ?_
  refine lv_topi (fun v_11 ev_11 => ?_)
  have t_12 : v_11.toInt = v_7.toInt - 1 ∧ 0 ≤ v_11.toInt ∧ v_11.toInt ≤ 79 := iv_subc ev_11 t_8.2 (by decide) (by decide) (by decide)
  exact W.iret (v := v_11) hx hb hr (fun t ht hW => ⟨⟨v_11, (fv_10, wd, ar_6), rfl, ⟨hF_fv_10, hA_ar_6, (fM_put (fM_rf [12] _) efv_10 (by decide)), (fA_put (fA_put (fA_put (fA_put (fA_put (fA_rf [28, 29, 30, 31, 35] _) ear_2 (by decide)) ear_3 (by decide)) ear_4 (by decide)) ear_5 (by decide)) ear_6 (by decide)), rfl, t_12.2, (show v_11.toInt = (fv 12).toInt ∧ (fv_10 12).toInt = (fv 12).toInt + 1 from ⟨by omega, by rw [show fv_10 12 = v_7 from (congrFun efv_10 12)]; omega⟩), (show ar_6 28 = upd (ar 28) ((fv 12).toInt.toNat) ww from by have : (fv_10 12).toInt = v_7.toInt := congrArg Int32.toInt (show fv_10 12 = v_7 from congrFun efv_10 12); exact (by rw [show ar_6 28 = ar_2 28 from ((fA_put (fA_put (fA_put (fA_put (fA_rf [29, 30, 31, 35] _) ear_3 (by decide)) ear_4 (by decide)) ear_5 (by decide)) ear_6 (by decide)) 28 rfl)]; rw [ear_2]; show upd (ar 28) (Int32.toNatClampNeg (fv 12)) ww = _; exact congrArg (fun z9 => upd (ar 28) z9 ww) (show (fv 12).toInt.toNat = (fv 12).toInt.toNat from by omega))), (show ar_6 29 = upd (ar 29) ((fv 12).toInt.toNat) fr_ from by have : (fv_10 12).toInt = v_7.toInt := congrArg Int32.toInt (show fv_10 12 = v_7 from congrFun efv_10 12); exact (by rw [show ar_6 29 = ar_3 29 from ((fA_put (fA_put (fA_put (fA_rf [30, 31, 35] _) ear_4 (by decide)) ear_5 (by decide)) ear_6 (by decide)) 29 rfl)]; rw [ear_3]; show upd (ar_2 29) (Int32.toNatClampNeg (fv 12)) fr_ = _; rw [show ar_2 29 = ar 29 from ((fA_put (fA_rf [28] _) ear_2 (by decide)) 29 rfl)]; exact congrArg (fun z9 => upd (ar 29) z9 fr_) (show (fv 12).toInt.toNat = (fv 12).toInt.toNat from by omega))), (show ar_6 30 = upd (ar 30) ((fv 12).toInt.toNat) to_ from by have : (fv_10 12).toInt = v_7.toInt := congrArg Int32.toInt (show fv_10 12 = v_7 from congrFun efv_10 12); exact (by rw [show ar_6 30 = ar_4 30 from ((fA_put (fA_put (fA_rf [31, 35] _) ear_5 (by decide)) ear_6 (by decide)) 30 rfl)]; rw [ear_4]; show upd (ar_3 30) (Int32.toNatClampNeg (fv 12)) to_ = _; rw [show ar_3 30 = ar 30 from ((fA_put (fA_put (fA_rf [28, 29] _) ear_2 (by decide)) ear_3 (by decide)) 30 rfl)]; exact congrArg (fun z9 => upd (ar 30) z9 to_) (show (fv 12).toInt.toNat = (fv 12).toInt.toNat from by omega))), (show ar_6 31 = upd (ar 31) ((fv 12).toInt.toNat) b from by have : (fv_10 12).toInt = v_7.toInt := congrArg Int32.toInt (show fv_10 12 = v_7 from congrFun efv_10 12); exact (by rw [show ar_6 31 = ar_5 31 from ((fA_put (fA_rf [35] _) ear_6 (by decide)) 31 rfl)]; rw [ear_5]; show upd (ar_4 31) (Int32.toNatClampNeg (fv 12)) b = _; rw [show ar_4 31 = ar 31 from ((fA_put (fA_put (fA_put (fA_rf [28, 29, 30] _) ear_2 (by decide)) ear_3 (by decide)) ear_4 (by decide)) 31 rfl)]; exact congrArg (fun z9 => upd (ar 31) z9 b) (show (fv 12).toInt.toNat = (fv 12).toInt.toNat from by omega))), (show ar_6 35 = upd (ar 35) ((fv 12).toInt.toNat) (-1) from by have : (fv_10 12).toInt = v_7.toInt := congrArg Int32.toInt (show fv_10 12 = v_7 from congrFun efv_10 12); exact (by rw [ear_6]; show upd (ar_5 35) (Int32.toNatClampNeg (fv 12)) ((-1) : Int32) = _; rw [show ar_5 35 = ar 35 from ((fA_put (fA_put (fA_put (fA_put (fA_rf [28, 29, 30, 31] _) ear_2 (by decide)) ear_3 (by decide)) ear_4 (by decide)) ear_5 (by decide)) 35 rfl)]; exact congrArg (fun z9 => upd (ar 35) z9 ((-1) : Int32)) (show (fv 12).toInt.toNat = (fv 12).toInt.toNat from by omega))), trivial⟩, ⟨by rw [ht]; exact hP, va_K.moved hW.alike hK⟩⟩, hS.F ht⟩) hS.2.2 dX8_join_67
set_option maxHeartbeats 4000000 in
set_option maxRecDepth 100000 in
theorem x_tripS (l : Launch) (dC : Nat → ClassId) (dI : Nat → Nat → Nat) (sz : Nat) (ob ad : Nat → Nat) (cA : Nat → ClassId) (hd : dX ob ad) (fv : Nat → Int32) (wd : xT) (ar : Nat → Nat → Int32) (hF_fv : rX fv) (hA_ar : rB ar) (a : Int32) (b : Int32) (v : Int32) (d : Int32) (f : Int32) (g : Int32) : Met l yX11_trip (.code yX11_trip cX11_trip 8 (some .int) :: lw_good) ({ frames := 3, cells := 0, slots := 0, locals := 64 }) (va_Pc [.ref (ob 0), .int a, .int b, .int v, .int d, .int f, .int g] (prX dC dI ob ad cA fv wd ar sz)) (va_Qi (fun (r : Int32) (u : xS) => rX u.1 ∧ rB u.2.2 ∧ fM [12] fv u.1 ∧ fA [28, 29, 30, 31, 32, 33, 34, 35] ar u.2.2 ∧ u.2.1.2 = wd.2 ∧ (ps_trip r (u.1 12) (fv 12) (fv 11) (fv 4) (fv 7) a b v d f g) ∧ (wt_ru r (u.2.2 28) (ar 28) (fv 12) a) ∧ (wt_ru r (u.2.2 29) (ar 29) (fv 12) b) ∧ (wt_ru r (u.2.2 30) (ar 30) (fv 12) v) ∧ (wt_ru r (u.2.2 31) (ar 31) (fv 12) d) ∧ (wt_ru r (u.2.2 32) (ar 32) (fv 12) f) ∧ (wt_ru r (u.2.2 33) (ar 33) (fv 12) g) ∧ (wt_ru r (u.2.2 34) (ar 34) (fv 12) (fv 7)) ∧ (wt_ru r (u.2.2 35) (ar 35) (fv 12) (-1)) ∧ True) (enX dC dI ob ad cA) (aX ob ad sz)) 0 0 (aX ob ad sz) := by
  refine Met.ofW (cc := cX11_trip) (maxL := 8) (ret := (some .int)) (by decide) rfl ?_
  intro p e s m args below meth c s₁ B hml hv
  obtain ⟨rfl, hsz, hP, hK⟩ := hv
  have hx := B.exec
  have hb := B.bytes
  have hr := B.returns
  have hts := atoms_spec (ws := (.code yX11_trip cX11_trip 8 (some .int) :: lw_good)) B.pre
  have htg : ∀ w ∈ lw_good, w.before _ s = true := fun w hw => hts w (List.mem_cons_of_mem _ hw)
  have hown : s.vm.findClass RX11 = some m.cls := findClass_of_methodNamed B.named
  have hlocks := B.notSynchronized
  subst hsz
  have hS : va_S (aX ob ad s.heap.size) s.heap s.heap [] := va_S.rf
  have hl := lv_entry ([.ref (ob 0), .int a, .int b, .int v, .int d, .int f, .int g]) (n := 8) (Nat.le_of_ble_eq_true rfl)
  rw [lg_entry_eq]
  generalize (lg_sl ([.ref (ob 0), .int a, .int b, .int v, .int d, .int f, .int g]) ++ List.replicate (8 - (lg_sl ([.ref (ob 0), .int a, .int b, .int v, .int d, .int f, .int g])).length) Slot.unset).toArray = ls at hl ⊢
  have hl : lv_has ls 8 [(0, .ref (ob 0)), (1, .int a), (2, .int b), (3, .int v), (4, .int d), (5, .int f), (6, .int g)] := hl
  refine lv_aload_n hx hb dX11_trip_0 rfl (lv_at hl 0 rfl) ?_
  refine gX_X11_16 hx hb htg hown hK hP dX11_trip_1 ?_
  refine gX_X11_101 hx hb htg hown hK hP dX11_trip_4 ?_
  refine lv_iload_n hx hb dX11_trip_7 rfl (lv_at hl 1 rfl) ?_
  have z_1 : 0 ≤ (fv 11).toInt ∧ (fv 11).toInt ≤ 20 := hF_fv 11
  refine va_calli (va_runV (As := [.int a]) (rest := []) ⟨hx, hb, hml, hown, hts⟩ (x_wheels_hasE l dC dI s.heap.size ob ad cA hd fv wd ar hF_fv hA_ar a) (cwV 1 hts (gV kw_3_198 kw_3_199 kw_3_200 kw_1_5 kw_3_201) rfl rfl rfl (by decide +kernel) ⟨Nat.le_of_ble_eq_true rfl, Nat.le_of_ble_eq_true rfl⟩) ⟨fun a U g mk q => ⟨q.1, q.2.1, q.2.2.1, va_K.moved (u := U) (U := U.calling g mk a) (Vm.Alike.refl U.vm) q.2.2.2⟩, va_recv hK hP (ci := 10) (q0 := 4) rfl rfl, fun U hU hW => ⟨rfl, by rw [hU], by rw [hU]; exact hP, va_K.moved hW.alike hK⟩⟩ rfl rfl hl.1 rfl (lv_room (Nat.le_of_ble_eq_true rfl)) dX11_trip_8 ⟨Nat.le_of_ble_eq_true rfl, Nat.le_of_ble_eq_true rfl⟩) hS (fun q _ h9 => aX_up hS q h9) (aX_up hS) (fun r_2 u t H1 locs ht _ hw hB _ hk1 hS => ?_)
  obtain ⟨fv_5, wd_6, ar_7⟩ := u
  obtain ⟨hF_fv_5, hA_ar_7, fr_8, fa_9, wf_10, p_3, p_4, -⟩ := hw
  have wf_10 : wd_6.2 = wd.2 := wf_10
  have hP : va_P (dC, dI) vwCl (wsX ob ad cA fv_5 wd_6 ar_7) H1 := by have h9 := hB.1; rw [ht] at h9; exact h9
  have fr_8 : fM [] fv fv_5 := fr_8
  have fa_9 : fA [] ar ar_7 := fa_9
  generalize H1 = H at hP hS ⊢
  rcases p_4 with ⟨rfl, p_4⟩ | ⟨rfl, p_4⟩
  · skip
    have q_11 : a.toInt < 0 ∨ (fv 11).toInt ≤ a.toInt := p_4
    refine lv_if_eq (tgt := 41) hx hb dX11_trip_11 (by decide) (fun c_12 => ?_) (fun c_12 => ?_)
    · skip
      refine lv_iconst (v := (-1)) hx hb dX11_trip_41 (by decide) ?_
      have z_13 : ((-1) : Int32).toInt = (-1) := by decide
      exact W.iret (v := (-1)) hx hb hr (fun t ht hW => ⟨⟨(-1), (fv_5, wd_6, ar_7), rfl, ⟨hF_fv_5, hA_ar_7, (fM_call (fM_rf [12] _) fr_8 (by decide)), (fA_call (fA_rf [28, 29, 30, 31, 32, 33, 34, 35] _) fa_9 (by decide)), wf_10, (show ps_trip ((-1) : Int32) (fv_5 12) (fv 12) (fv 11) (fv 4) (fv 7) a b v d f g from Or.inl ⟨rfl, (fr_8 12 rfl), by omega⟩), (show wt_ru ((-1) : Int32) (ar_7 28) (ar 28) (fv 12) a from Or.inl ⟨by decide, ((fA_call (fA_rf [] _) fa_9 (by decide)) 28 rfl)⟩), (show wt_ru ((-1) : Int32) (ar_7 29) (ar 29) (fv 12) b from Or.inl ⟨by decide, ((fA_call (fA_rf [] _) fa_9 (by decide)) 29 rfl)⟩), (show wt_ru ((-1) : Int32) (ar_7 30) (ar 30) (fv 12) v from Or.inl ⟨by decide, ((fA_call (fA_rf [] _) fa_9 (by decide)) 30 rfl)⟩), (show wt_ru ((-1) : Int32) (ar_7 31) (ar 31) (fv 12) d from Or.inl ⟨by decide, ((fA_call (fA_rf [] _) fa_9 (by decide)) 31 rfl)⟩), (show wt_ru ((-1) : Int32) (ar_7 32) (ar 32) (fv 12) f from Or.inl ⟨by decide, ((fA_call (fA_rf [] _) fa_9 (by decide)) 32 rfl)⟩), (show wt_ru ((-1) : Int32) (ar_7 33) (ar 33) (fv 12) g from Or.inl ⟨by decide, ((fA_call (fA_rf [] _) fa_9 (by decide)) 33 rfl)⟩), (show wt_ru ((-1) : Int32) (ar_7 34) (ar 34) (fv 12) (fv 7) from Or.inl ⟨by decide, ((fA_call (fA_rf [] _) fa_9 (by decide)) 34 rfl)⟩), (show wt_ru ((-1) : Int32) (ar_7 35) (ar 35) (fv 12) (-1) from Or.inl ⟨by decide, ((fA_call (fA_rf [] _) fa_9 (by decide)) 35 rfl)⟩), trivial⟩, ⟨by rw [ht]; exact hP, va_K.moved hW.alike hK⟩⟩, hS.F ht⟩) hS.2.2 dX11_trip_42
    · skip
      exact absurd c_12 (by decide)
  · skip
    have i_14 : 0 ≤ a.toInt ∧ a.toInt ≤ 2147483647 := ⟨p_4.1, (iv_any a).2⟩
    have i_15 : 0 ≤ a.toInt ∧ a.toInt ≤ 19 := ⟨i_14.1, p_4.2.1⟩
    have q_16 : a.toInt < (fv 11).toInt := p_4.2.2
    refine lv_if_eq (tgt := 41) hx hb dX11_trip_11 (by decide) (fun c_17 => ?_) (fun c_17 => ?_)
    · skip
      exact absurd c_17 (by decide)
    · skip
      refine lv_aload_n hx hb dX11_trip_14 rfl (lv_at hl 0 rfl) ?_
      refine gX_X11_16 hx hb htg hown hK hP dX11_trip_15 ?_
      refine lv_iload_n hx hb dX11_trip_18 rfl (lv_at hl 2 rfl) ?_
      have z_18 : (fv_5 4).toInt = (fv 4).toInt := congrArg Int32.toInt ((fr_8 4 rfl))
      have z_19 : 0 ≤ (fv_5 4).toInt ∧ (fv_5 4).toInt ≤ 8 := hF_fv_5 4
      refine va_calli (va_runV (As := [.int b]) (rest := []) ⟨hx, hb, hml, hown, hts⟩ (x_isStopE l dC dI H.size ob ad cA hd fv_5 wd_6 ar_7 hF_fv_5 hA_ar_7 b) (cwV 1 hts (gV kw_3_183 kw_3_184 kw_3_185 kw_1_2 kw_3_186) rfl rfl rfl (by decide +kernel) ⟨Nat.le_of_ble_eq_true rfl, Nat.le_of_ble_eq_true rfl⟩) ⟨fun a U g mk q => ⟨q.1, q.2.1, q.2.2.1, va_K.moved (u := U) (U := U.calling g mk a) (Vm.Alike.refl U.vm) q.2.2.2⟩, va_recv hK hP (ci := 7) (q0 := 1) rfl rfl, fun U hU hW => ⟨rfl, by rw [hU], by rw [hU]; exact hP, va_K.moved hW.alike hK⟩⟩ rfl rfl hl.1 rfl (lv_room (Nat.le_of_ble_eq_true rfl)) dX11_trip_19 ⟨Nat.le_of_ble_eq_true rfl, Nat.le_of_ble_eq_true rfl⟩) hS (fun q _ h9 => aX_up hS q h9) (aX_up hS) (fun r_20 u t H1 locs ht _ hw hB _ hk1 hS => ?_)
      obtain ⟨fv_23, wd_24, ar_25⟩ := u
      obtain ⟨hF_fv_23, hA_ar_25, fr_26, fa_27, wf_28, p_21, p_22, -⟩ := hw
      have wf_28 : wd_24.2 = wd_6.2 := wf_28
      have hP : va_P (dC, dI) vwCl (wsX ob ad cA fv_23 wd_24 ar_25) H1 := by have h9 := hB.1; rw [ht] at h9; exact h9
      have fr_26 : fM [] fv_5 fv_23 := fr_26
      have fa_27 : fA [] ar_7 ar_25 := fa_27
      generalize H1 = H at hP hS ⊢
      rcases p_22 with ⟨rfl, p_22⟩ | ⟨rfl, p_22⟩
      · skip
        have q_29 : b.toInt < 0 ∨ (fv_5 4).toInt ≤ b.toInt := p_22
        refine lv_if_eq (tgt := 41) hx hb dX11_trip_22 (by decide) (fun c_30 => ?_) (fun c_30 => ?_)
        · skip
          refine lv_iconst (v := (-1)) hx hb dX11_trip_41 (by decide) ?_
          have z_31 : ((-1) : Int32).toInt = (-1) := by decide
          exact W.iret (v := (-1)) hx hb hr (fun t ht hW => ⟨⟨(-1), (fv_23, wd_24, ar_25), rfl, ⟨hF_fv_23, hA_ar_25, (fM_call (fM_call (fM_rf [12] _) fr_8 (by decide)) fr_26 (by decide)), (fA_call (fA_call (fA_rf [28, 29, 30, 31, 32, 33, 34, 35] _) fa_9 (by decide)) fa_27 (by decide)), (wf_28.trans wf_10), (show ps_trip ((-1) : Int32) (fv_23 12) (fv 12) (fv 11) (fv 4) (fv 7) a b v d f g from Or.inl ⟨rfl, (fr_26 12 rfl).trans ((fr_8 12 rfl)), by omega⟩), (show wt_ru ((-1) : Int32) (ar_25 28) (ar 28) (fv 12) a from Or.inl ⟨by decide, ((fA_call (fA_call (fA_rf [] _) fa_9 (by decide)) fa_27 (by decide)) 28 rfl)⟩), (show wt_ru ((-1) : Int32) (ar_25 29) (ar 29) (fv 12) b from Or.inl ⟨by decide, ((fA_call (fA_call (fA_rf [] _) fa_9 (by decide)) fa_27 (by decide)) 29 rfl)⟩), (show wt_ru ((-1) : Int32) (ar_25 30) (ar 30) (fv 12) v from Or.inl ⟨by decide, ((fA_call (fA_call (fA_rf [] _) fa_9 (by decide)) fa_27 (by decide)) 30 rfl)⟩), (show wt_ru ((-1) : Int32) (ar_25 31) (ar 31) (fv 12) d from Or.inl ⟨by decide, ((fA_call (fA_call (fA_rf [] _) fa_9 (by decide)) fa_27 (by decide)) 31 rfl)⟩), (show wt_ru ((-1) : Int32) (ar_25 32) (ar 32) (fv 12) f from Or.inl ⟨by decide, ((fA_call (fA_call (fA_rf [] _) fa_9 (by decide)) fa_27 (by decide)) 32 rfl)⟩), (show wt_ru ((-1) : Int32) (ar_25 33) (ar 33) (fv 12) g from Or.inl ⟨by decide, ((fA_call (fA_call (fA_rf [] _) fa_9 (by decide)) fa_27 (by decide)) 33 rfl)⟩), (show wt_ru ((-1) : Int32) (ar_25 34) (ar 34) (fv 12) (fv 7) from Or.inl ⟨by decide, ((fA_call (fA_call (fA_rf [] _) fa_9 (by decide)) fa_27 (by decide)) 34 rfl)⟩), (show wt_ru ((-1) : Int32) (ar_25 35) (ar 35) (fv 12) (-1) from Or.inl ⟨by decide, ((fA_call (fA_call (fA_rf [] _) fa_9 (by decide)) fa_27 (by decide)) 35 rfl)⟩), trivial⟩, ⟨by rw [ht]; exact hP, va_K.moved hW.alike hK⟩⟩, hS.F ht⟩) hS.2.2 dX11_trip_42
        · skip
          exact absurd c_30 (by decide)
      · skip
        have i_32 : 0 ≤ b.toInt ∧ b.toInt ≤ 2147483647 := ⟨p_22.1, (iv_any b).2⟩
        have i_33 : 0 ≤ b.toInt ∧ b.toInt ≤ 7 := ⟨i_32.1, p_22.2.1⟩
        have q_34 : b.toInt < (fv_5 4).toInt := p_22.2.2
        refine lv_if_eq (tgt := 41) hx hb dX11_trip_22 (by decide) (fun c_35 => ?_) (fun c_35 => ?_)
        · skip
          exact absurd c_35 (by decide)
        · skip
          refine lv_aload_n hx hb dX11_trip_25 rfl (lv_at hl 0 rfl) ?_
          refine gX_X11_16 hx hb htg hown hK hP dX11_trip_26 ?_
          refine lv_iload_n hx hb dX11_trip_29 rfl (lv_at hl 3 rfl) ?_
          have z_36 : (fv_23 4).toInt = (fv 4).toInt := congrArg Int32.toInt ((fr_26 4 rfl).trans ((fr_8 4 rfl)))
          have z_37 : 0 ≤ (fv_23 4).toInt ∧ (fv_23 4).toInt ≤ 8 := hF_fv_23 4
          refine va_calli (va_runV (As := [.int v]) (rest := []) ⟨hx, hb, hml, hown, hts⟩ (x_isStopE l dC dI H.size ob ad cA hd fv_23 wd_24 ar_25 hF_fv_23 hA_ar_25 v) (cwV 1 hts (gV kw_3_183 kw_3_184 kw_3_185 kw_1_2 kw_3_186) rfl rfl rfl (by decide +kernel) ⟨Nat.le_of_ble_eq_true rfl, Nat.le_of_ble_eq_true rfl⟩) ⟨fun a U g mk q => ⟨q.1, q.2.1, q.2.2.1, va_K.moved (u := U) (U := U.calling g mk a) (Vm.Alike.refl U.vm) q.2.2.2⟩, va_recv hK hP (ci := 7) (q0 := 1) rfl rfl, fun U hU hW => ⟨rfl, by rw [hU], by rw [hU]; exact hP, va_K.moved hW.alike hK⟩⟩ rfl rfl hl.1 rfl (lv_room (Nat.le_of_ble_eq_true rfl)) dX11_trip_30 ⟨Nat.le_of_ble_eq_true rfl, Nat.le_of_ble_eq_true rfl⟩) hS (fun q _ h9 => aX_up hS q h9) (aX_up hS) (fun r_38 u t H1 locs ht _ hw hB _ hk1 hS => ?_)
          obtain ⟨fv_41, wd_42, ar_43⟩ := u
          obtain ⟨hF_fv_41, hA_ar_43, fr_44, fa_45, wf_46, p_39, p_40, -⟩ := hw
          have wf_46 : wd_42.2 = wd_24.2 := wf_46
          have hP : va_P (dC, dI) vwCl (wsX ob ad cA fv_41 wd_42 ar_43) H1 := by have h9 := hB.1; rw [ht] at h9; exact h9
          have fr_44 : fM [] fv_23 fv_41 := fr_44
          have fa_45 : fA [] ar_25 ar_43 := fa_45
          generalize H1 = H at hP hS ⊢
          rcases p_40 with ⟨rfl, p_40⟩ | ⟨rfl, p_40⟩
          · skip
            have q_47 : v.toInt < 0 ∨ (fv_23 4).toInt ≤ v.toInt := p_40
            refine lv_if_eq (tgt := 41) hx hb dX11_trip_33 (by decide) (fun c_48 => ?_) (fun c_48 => ?_)
            · skip
              refine lv_iconst (v := (-1)) hx hb dX11_trip_41 (by decide) ?_
              have z_49 : ((-1) : Int32).toInt = (-1) := by decide
              exact W.iret (v := (-1)) hx hb hr (fun t ht hW => ⟨⟨(-1), (fv_41, wd_42, ar_43), rfl, ⟨hF_fv_41, hA_ar_43, (fM_call (fM_call (fM_call (fM_rf [12] _) fr_8 (by decide)) fr_26 (by decide)) fr_44 (by decide)), (fA_call (fA_call (fA_call (fA_rf [28, 29, 30, 31, 32, 33, 34, 35] _) fa_9 (by decide)) fa_27 (by decide)) fa_45 (by decide)), (wf_46.trans (wf_28.trans wf_10)), (show ps_trip ((-1) : Int32) (fv_41 12) (fv 12) (fv 11) (fv 4) (fv 7) a b v d f g from Or.inl ⟨rfl, (fr_44 12 rfl).trans ((fr_26 12 rfl).trans ((fr_8 12 rfl))), by omega⟩), (show wt_ru ((-1) : Int32) (ar_43 28) (ar 28) (fv 12) a from Or.inl ⟨by decide, ((fA_call (fA_call (fA_call (fA_rf [] _) fa_9 (by decide)) fa_27 (by decide)) fa_45 (by decide)) 28 rfl)⟩), (show wt_ru ((-1) : Int32) (ar_43 29) (ar 29) (fv 12) b from Or.inl ⟨by decide, ((fA_call (fA_call (fA_call (fA_rf [] _) fa_9 (by decide)) fa_27 (by decide)) fa_45 (by decide)) 29 rfl)⟩), (show wt_ru ((-1) : Int32) (ar_43 30) (ar 30) (fv 12) v from Or.inl ⟨by decide, ((fA_call (fA_call (fA_call (fA_rf [] _) fa_9 (by decide)) fa_27 (by decide)) fa_45 (by decide)) 30 rfl)⟩), (show wt_ru ((-1) : Int32) (ar_43 31) (ar 31) (fv 12) d from Or.inl ⟨by decide, ((fA_call (fA_call (fA_call (fA_rf [] _) fa_9 (by decide)) fa_27 (by decide)) fa_45 (by decide)) 31 rfl)⟩), (show wt_ru ((-1) : Int32) (ar_43 32) (ar 32) (fv 12) f from Or.inl ⟨by decide, ((fA_call (fA_call (fA_call (fA_rf [] _) fa_9 (by decide)) fa_27 (by decide)) fa_45 (by decide)) 32 rfl)⟩), (show wt_ru ((-1) : Int32) (ar_43 33) (ar 33) (fv 12) g from Or.inl ⟨by decide, ((fA_call (fA_call (fA_call (fA_rf [] _) fa_9 (by decide)) fa_27 (by decide)) fa_45 (by decide)) 33 rfl)⟩), (show wt_ru ((-1) : Int32) (ar_43 34) (ar 34) (fv 12) (fv 7) from Or.inl ⟨by decide, ((fA_call (fA_call (fA_call (fA_rf [] _) fa_9 (by decide)) fa_27 (by decide)) fa_45 (by decide)) 34 rfl)⟩), (show wt_ru ((-1) : Int32) (ar_43 35) (ar 35) (fv 12) (-1) from Or.inl ⟨by decide, ((fA_call (fA_call (fA_call (fA_rf [] _) fa_9 (by decide)) fa_27 (by decide)) fa_45 (by decide)) 35 rfl)⟩), trivial⟩, ⟨by rw [ht]; exact hP, va_K.moved hW.alike hK⟩⟩, hS.F ht⟩) hS.2.2 dX11_trip_42
            · skip
              exact absurd c_48 (by decide)
          · skip
            have i_50 : 0 ≤ v.toInt ∧ v.toInt ≤ 2147483647 := ⟨p_40.1, (iv_any v).2⟩
            have i_51 : 0 ≤ v.toInt ∧ v.toInt ≤ 7 := ⟨i_50.1, p_40.2.1⟩
            have q_52 : v.toInt < (fv_23 4).toInt := p_40.2.2
            refine lv_if_eq (tgt := 41) hx hb dX11_trip_33 (by decide) (fun c_53 => ?_) (fun c_53 => ?_)
            · skip
              exact absurd c_53 (by decide)
            · skip
              refine lv_iload_n hx hb dX11_trip_36 rfl (lv_at hl 2 rfl) ?_
              refine lv_iload_n hx hb dX11_trip_37 rfl (lv_at hl 3 rfl) ?_
              refine lv_icmp_ne (tgt := 43) hx hb dX11_trip_38 (by decide) (fun c_54 => ?_) (fun c_54 => ?_)
              · skip
                have k_55 : ¬ b.toInt = v.toInt := fun q => c_54 (Int32.toInt_inj.mp q)
                refine lv_iload hx hb dX11_trip_43 (lv_at hl 4 rfl) ?_
                refine lv_if_lt (tgt := 56) hx hb dX11_trip_45 (by decide) (fun c_56 => ?_) (fun c_56 => ?_)
                · skip
                  have i_57 : (-2147483648) ≤ d.toInt ∧ d.toInt ≤ (-1) := iv_lt1 (iv_any d) (⟨by decide, by decide⟩ : (0 : Int) ≤ (0 : Int32).toInt ∧ (0 : Int32).toInt ≤ 0) c_56
                  refine lv_iconst (v := (-1)) hx hb dX11_trip_56 (by decide) ?_
                  have z_58 : ((-1) : Int32).toInt = (-1) := by decide
                  exact W.iret (v := (-1)) hx hb hr (fun t ht hW => ⟨⟨(-1), (fv_41, wd_42, ar_43), rfl, ⟨hF_fv_41, hA_ar_43, (fM_call (fM_call (fM_call (fM_rf [12] _) fr_8 (by decide)) fr_26 (by decide)) fr_44 (by decide)), (fA_call (fA_call (fA_call (fA_rf [28, 29, 30, 31, 32, 33, 34, 35] _) fa_9 (by decide)) fa_27 (by decide)) fa_45 (by decide)), (wf_46.trans (wf_28.trans wf_10)), (show ps_trip ((-1) : Int32) (fv_41 12) (fv 12) (fv 11) (fv 4) (fv 7) a b v d f g from Or.inl ⟨rfl, (fr_44 12 rfl).trans ((fr_26 12 rfl).trans ((fr_8 12 rfl))), by omega⟩), (show wt_ru ((-1) : Int32) (ar_43 28) (ar 28) (fv 12) a from Or.inl ⟨by decide, ((fA_call (fA_call (fA_call (fA_rf [] _) fa_9 (by decide)) fa_27 (by decide)) fa_45 (by decide)) 28 rfl)⟩), (show wt_ru ((-1) : Int32) (ar_43 29) (ar 29) (fv 12) b from Or.inl ⟨by decide, ((fA_call (fA_call (fA_call (fA_rf [] _) fa_9 (by decide)) fa_27 (by decide)) fa_45 (by decide)) 29 rfl)⟩), (show wt_ru ((-1) : Int32) (ar_43 30) (ar 30) (fv 12) v from Or.inl ⟨by decide, ((fA_call (fA_call (fA_call (fA_rf [] _) fa_9 (by decide)) fa_27 (by decide)) fa_45 (by decide)) 30 rfl)⟩), (show wt_ru ((-1) : Int32) (ar_43 31) (ar 31) (fv 12) d from Or.inl ⟨by decide, ((fA_call (fA_call (fA_call (fA_rf [] _) fa_9 (by decide)) fa_27 (by decide)) fa_45 (by decide)) 31 rfl)⟩), (show wt_ru ((-1) : Int32) (ar_43 32) (ar 32) (fv 12) f from Or.inl ⟨by decide, ((fA_call (fA_call (fA_call (fA_rf [] _) fa_9 (by decide)) fa_27 (by decide)) fa_45 (by decide)) 32 rfl)⟩), (show wt_ru ((-1) : Int32) (ar_43 33) (ar 33) (fv 12) g from Or.inl ⟨by decide, ((fA_call (fA_call (fA_call (fA_rf [] _) fa_9 (by decide)) fa_27 (by decide)) fa_45 (by decide)) 33 rfl)⟩), (show wt_ru ((-1) : Int32) (ar_43 34) (ar 34) (fv 12) (fv 7) from Or.inl ⟨by decide, ((fA_call (fA_call (fA_call (fA_rf [] _) fa_9 (by decide)) fa_27 (by decide)) fa_45 (by decide)) 34 rfl)⟩), (show wt_ru ((-1) : Int32) (ar_43 35) (ar 35) (fv 12) (-1) from Or.inl ⟨by decide, ((fA_call (fA_call (fA_call (fA_rf [] _) fa_9 (by decide)) fa_27 (by decide)) fa_45 (by decide)) 35 rfl)⟩), trivial⟩, ⟨by rw [ht]; exact hP, va_K.moved hW.alike hK⟩⟩, hS.F ht⟩) hS.2.2 dX11_trip_57
                · skip
                  have i_59 : 0 ≤ d.toInt ∧ d.toInt ≤ 2147483647 := iv_le2 (⟨by decide, by decide⟩ : (0 : Int) ≤ (0 : Int32).toInt ∧ (0 : Int32).toInt ≤ 0) (iv_any d) (Int32.not_lt.mp c_56)
                  refine lv_iload hx hb dX11_trip_48 (lv_at hl 4 rfl) ?_
                  refine lv_sipush (v := 719) hx hb dX11_trip_50 (by decide) ?_
                  refine lv_icmp_le (tgt := 58) hx hb dX11_trip_53 (by decide) (fun c_60 => ?_) (fun c_60 => ?_)
                  · skip
                    have i_61 : 0 ≤ d.toInt ∧ d.toInt ≤ 719 := iv_le1 i_59 (⟨by decide, by decide⟩ : (719 : Int) ≤ (719 : Int32).toInt ∧ (719 : Int32).toInt ≤ 719) c_60
                    refine lv_iload hx hb dX11_trip_58 (lv_at hl 5 rfl) ?_
                    refine lv_aload_n hx hb dX11_trip_60 rfl (lv_at hl 0 rfl) ?_
                    refine gX_X11_16 hx hb htg hown hK hP dX11_trip_61 ?_
                    refine gX_X11_57 hx hb htg hown hK hP dX11_trip_64 ?_
                    refine my_ti (y := fv 7) ((fr_44 7 rfl).trans ((fr_26 7 rfl).trans ((fr_8 7 rfl)))) ?_
                    have i_62 : 0 ≤ (fv 7).toInt ∧ (fv 7).toInt ≤ 199 := hF_fv 7
                    refine lv_icmp_lt (tgt := 98) hx hb dX11_trip_67 (by decide) (fun c_63 => ?_) (fun c_63 => ?_)
                    · skip
                      have i_64 : (-2147483648) ≤ f.toInt ∧ f.toInt ≤ 198 := iv_lt1 (iv_any f) i_62 c_63
                      have k_65 := Int32.lt_iff_toInt_lt.mp c_63
                      refine lv_iconst (v := (-1)) hx hb dX11_trip_98 (by decide) ?_
                      have z_66 : ((-1) : Int32).toInt = (-1) := by decide
                      exact W.iret (v := (-1)) hx hb hr (fun t ht hW => ⟨⟨(-1), (fv_41, wd_42, ar_43), rfl, ⟨hF_fv_41, hA_ar_43, (fM_call (fM_call (fM_call (fM_rf [12] _) fr_8 (by decide)) fr_26 (by decide)) fr_44 (by decide)), (fA_call (fA_call (fA_call (fA_rf [28, 29, 30, 31, 32, 33, 34, 35] _) fa_9 (by decide)) fa_27 (by decide)) fa_45 (by decide)), (wf_46.trans (wf_28.trans wf_10)), (show ps_trip ((-1) : Int32) (fv_41 12) (fv 12) (fv 11) (fv 4) (fv 7) a b v d f g from Or.inl ⟨rfl, (fr_44 12 rfl).trans ((fr_26 12 rfl).trans ((fr_8 12 rfl))), by omega⟩), (show wt_ru ((-1) : Int32) (ar_43 28) (ar 28) (fv 12) a from Or.inl ⟨by decide, ((fA_call (fA_call (fA_call (fA_rf [] _) fa_9 (by decide)) fa_27 (by decide)) fa_45 (by decide)) 28 rfl)⟩), (show wt_ru ((-1) : Int32) (ar_43 29) (ar 29) (fv 12) b from Or.inl ⟨by decide, ((fA_call (fA_call (fA_call (fA_rf [] _) fa_9 (by decide)) fa_27 (by decide)) fa_45 (by decide)) 29 rfl)⟩), (show wt_ru ((-1) : Int32) (ar_43 30) (ar 30) (fv 12) v from Or.inl ⟨by decide, ((fA_call (fA_call (fA_call (fA_rf [] _) fa_9 (by decide)) fa_27 (by decide)) fa_45 (by decide)) 30 rfl)⟩), (show wt_ru ((-1) : Int32) (ar_43 31) (ar 31) (fv 12) d from Or.inl ⟨by decide, ((fA_call (fA_call (fA_call (fA_rf [] _) fa_9 (by decide)) fa_27 (by decide)) fa_45 (by decide)) 31 rfl)⟩), (show wt_ru ((-1) : Int32) (ar_43 32) (ar 32) (fv 12) f from Or.inl ⟨by decide, ((fA_call (fA_call (fA_call (fA_rf [] _) fa_9 (by decide)) fa_27 (by decide)) fa_45 (by decide)) 32 rfl)⟩), (show wt_ru ((-1) : Int32) (ar_43 33) (ar 33) (fv 12) g from Or.inl ⟨by decide, ((fA_call (fA_call (fA_call (fA_rf [] _) fa_9 (by decide)) fa_27 (by decide)) fa_45 (by decide)) 33 rfl)⟩), (show wt_ru ((-1) : Int32) (ar_43 34) (ar 34) (fv 12) (fv 7) from Or.inl ⟨by decide, ((fA_call (fA_call (fA_call (fA_rf [] _) fa_9 (by decide)) fa_27 (by decide)) fa_45 (by decide)) 34 rfl)⟩), (show wt_ru ((-1) : Int32) (ar_43 35) (ar 35) (fv 12) (-1) from Or.inl ⟨by decide, ((fA_call (fA_call (fA_call (fA_rf [] _) fa_9 (by decide)) fa_27 (by decide)) fa_45 (by decide)) 35 rfl)⟩), trivial⟩, ⟨by rw [ht]; exact hP, va_K.moved hW.alike hK⟩⟩, hS.F ht⟩) hS.2.2 dX11_trip_99
                    · skip
                      have i_67 : 0 ≤ f.toInt ∧ f.toInt ≤ 2147483647 := iv_le2 i_62 (iv_any f) (Int32.not_lt.mp c_63)
                      have k_68 := Int32.le_iff_toInt_le.mp (Int32.not_lt.mp c_63)
                      refine lv_iload hx hb dX11_trip_70 (lv_at hl 6 rfl) ?_
                      refine lv_iload hx hb dX11_trip_72 (lv_at hl 5 rfl) ?_
                      refine lv_icmp_lt (tgt := 98) hx hb dX11_trip_74 (by decide) (fun c_69 => ?_) (fun c_69 => ?_)
                      · skip
                        have i_70 : (-2147483648) ≤ g.toInt ∧ g.toInt ≤ 2147483646 := iv_lt1 (iv_any g) i_67 c_69
                        have k_71 := Int32.lt_iff_toInt_lt.mp c_69
                        refine lv_iconst (v := (-1)) hx hb dX11_trip_98 (by decide) ?_
                        have z_72 : ((-1) : Int32).toInt = (-1) := by decide
                        exact W.iret (v := (-1)) hx hb hr (fun t ht hW => ⟨⟨(-1), (fv_41, wd_42, ar_43), rfl, ⟨hF_fv_41, hA_ar_43, (fM_call (fM_call (fM_call (fM_rf [12] _) fr_8 (by decide)) fr_26 (by decide)) fr_44 (by decide)), (fA_call (fA_call (fA_call (fA_rf [28, 29, 30, 31, 32, 33, 34, 35] _) fa_9 (by decide)) fa_27 (by decide)) fa_45 (by decide)), (wf_46.trans (wf_28.trans wf_10)), (show ps_trip ((-1) : Int32) (fv_41 12) (fv 12) (fv 11) (fv 4) (fv 7) a b v d f g from Or.inl ⟨rfl, (fr_44 12 rfl).trans ((fr_26 12 rfl).trans ((fr_8 12 rfl))), by omega⟩), (show wt_ru ((-1) : Int32) (ar_43 28) (ar 28) (fv 12) a from Or.inl ⟨by decide, ((fA_call (fA_call (fA_call (fA_rf [] _) fa_9 (by decide)) fa_27 (by decide)) fa_45 (by decide)) 28 rfl)⟩), (show wt_ru ((-1) : Int32) (ar_43 29) (ar 29) (fv 12) b from Or.inl ⟨by decide, ((fA_call (fA_call (fA_call (fA_rf [] _) fa_9 (by decide)) fa_27 (by decide)) fa_45 (by decide)) 29 rfl)⟩), (show wt_ru ((-1) : Int32) (ar_43 30) (ar 30) (fv 12) v from Or.inl ⟨by decide, ((fA_call (fA_call (fA_call (fA_rf [] _) fa_9 (by decide)) fa_27 (by decide)) fa_45 (by decide)) 30 rfl)⟩), (show wt_ru ((-1) : Int32) (ar_43 31) (ar 31) (fv 12) d from Or.inl ⟨by decide, ((fA_call (fA_call (fA_call (fA_rf [] _) fa_9 (by decide)) fa_27 (by decide)) fa_45 (by decide)) 31 rfl)⟩), (show wt_ru ((-1) : Int32) (ar_43 32) (ar 32) (fv 12) f from Or.inl ⟨by decide, ((fA_call (fA_call (fA_call (fA_rf [] _) fa_9 (by decide)) fa_27 (by decide)) fa_45 (by decide)) 32 rfl)⟩), (show wt_ru ((-1) : Int32) (ar_43 33) (ar 33) (fv 12) g from Or.inl ⟨by decide, ((fA_call (fA_call (fA_call (fA_rf [] _) fa_9 (by decide)) fa_27 (by decide)) fa_45 (by decide)) 33 rfl)⟩), (show wt_ru ((-1) : Int32) (ar_43 34) (ar 34) (fv 12) (fv 7) from Or.inl ⟨by decide, ((fA_call (fA_call (fA_call (fA_rf [] _) fa_9 (by decide)) fa_27 (by decide)) fa_45 (by decide)) 34 rfl)⟩), (show wt_ru ((-1) : Int32) (ar_43 35) (ar 35) (fv 12) (-1) from Or.inl ⟨by decide, ((fA_call (fA_call (fA_call (fA_rf [] _) fa_9 (by decide)) fa_27 (by decide)) fa_45 (by decide)) 35 rfl)⟩), trivial⟩, ⟨by rw [ht]; exact hP, va_K.moved hW.alike hK⟩⟩, hS.F ht⟩) hS.2.2 dX11_trip_99
                      · skip
                        have i_73 : 0 ≤ g.toInt ∧ g.toInt ≤ 2147483647 := iv_le2 i_67 (iv_any g) (Int32.not_lt.mp c_69)
                        have k_74 := Int32.le_iff_toInt_le.mp (Int32.not_lt.mp c_69)
                        refine lv_iload hx hb dX11_trip_77 (lv_at hl 6 rfl) ?_
                        refine lv_sipush (v := 199) hx hb dX11_trip_79 (by decide) ?_
                        refine lv_icmp_gt (tgt := 98) hx hb dX11_trip_82 (by decide) (fun c_75 => ?_) (fun c_75 => ?_)
                        · skip
                          have i_76 : 200 ≤ g.toInt ∧ g.toInt ≤ 2147483647 := iv_lt2 (⟨by decide, by decide⟩ : (199 : Int) ≤ (199 : Int32).toInt ∧ (199 : Int32).toInt ≤ 199) i_73 c_75
                          refine lv_iconst (v := (-1)) hx hb dX11_trip_98 (by decide) ?_
                          have z_77 : ((-1) : Int32).toInt = (-1) := by decide
                          exact W.iret (v := (-1)) hx hb hr (fun t ht hW => ⟨⟨(-1), (fv_41, wd_42, ar_43), rfl, ⟨hF_fv_41, hA_ar_43, (fM_call (fM_call (fM_call (fM_rf [12] _) fr_8 (by decide)) fr_26 (by decide)) fr_44 (by decide)), (fA_call (fA_call (fA_call (fA_rf [28, 29, 30, 31, 32, 33, 34, 35] _) fa_9 (by decide)) fa_27 (by decide)) fa_45 (by decide)), (wf_46.trans (wf_28.trans wf_10)), (show ps_trip ((-1) : Int32) (fv_41 12) (fv 12) (fv 11) (fv 4) (fv 7) a b v d f g from Or.inl ⟨rfl, (fr_44 12 rfl).trans ((fr_26 12 rfl).trans ((fr_8 12 rfl))), by omega⟩), (show wt_ru ((-1) : Int32) (ar_43 28) (ar 28) (fv 12) a from Or.inl ⟨by decide, ((fA_call (fA_call (fA_call (fA_rf [] _) fa_9 (by decide)) fa_27 (by decide)) fa_45 (by decide)) 28 rfl)⟩), (show wt_ru ((-1) : Int32) (ar_43 29) (ar 29) (fv 12) b from Or.inl ⟨by decide, ((fA_call (fA_call (fA_call (fA_rf [] _) fa_9 (by decide)) fa_27 (by decide)) fa_45 (by decide)) 29 rfl)⟩), (show wt_ru ((-1) : Int32) (ar_43 30) (ar 30) (fv 12) v from Or.inl ⟨by decide, ((fA_call (fA_call (fA_call (fA_rf [] _) fa_9 (by decide)) fa_27 (by decide)) fa_45 (by decide)) 30 rfl)⟩), (show wt_ru ((-1) : Int32) (ar_43 31) (ar 31) (fv 12) d from Or.inl ⟨by decide, ((fA_call (fA_call (fA_call (fA_rf [] _) fa_9 (by decide)) fa_27 (by decide)) fa_45 (by decide)) 31 rfl)⟩), (show wt_ru ((-1) : Int32) (ar_43 32) (ar 32) (fv 12) f from Or.inl ⟨by decide, ((fA_call (fA_call (fA_call (fA_rf [] _) fa_9 (by decide)) fa_27 (by decide)) fa_45 (by decide)) 32 rfl)⟩), (show wt_ru ((-1) : Int32) (ar_43 33) (ar 33) (fv 12) g from Or.inl ⟨by decide, ((fA_call (fA_call (fA_call (fA_rf [] _) fa_9 (by decide)) fa_27 (by decide)) fa_45 (by decide)) 33 rfl)⟩), (show wt_ru ((-1) : Int32) (ar_43 34) (ar 34) (fv 12) (fv 7) from Or.inl ⟨by decide, ((fA_call (fA_call (fA_call (fA_rf [] _) fa_9 (by decide)) fa_27 (by decide)) fa_45 (by decide)) 34 rfl)⟩), (show wt_ru ((-1) : Int32) (ar_43 35) (ar 35) (fv 12) (-1) from Or.inl ⟨by decide, ((fA_call (fA_call (fA_call (fA_rf [] _) fa_9 (by decide)) fa_27 (by decide)) fa_45 (by decide)) 35 rfl)⟩), trivial⟩, ⟨by rw [ht]; exact hP, va_K.moved hW.alike hK⟩⟩, hS.F ht⟩) hS.2.2 dX11_trip_99
                        · skip
                          have i_78 : 0 ≤ g.toInt ∧ g.toInt ≤ 199 := iv_le1 i_73 (⟨by decide, by decide⟩ : (199 : Int) ≤ (199 : Int32).toInt ∧ (199 : Int32).toInt ≤ 199) (Int32.not_lt.mp c_75)
                          refine lv_aload_n hx hb dX11_trip_85 rfl (lv_at hl 0 rfl) ?_
                          refine gX_X11_16 hx hb htg hown hK hP dX11_trip_86 ?_
                          refine gX_X11_116 hx hb htg hown hK hP dX11_trip_89 ?_
                          have z_79 : (fv_41 12).toInt = (fv 12).toInt := congrArg Int32.toInt ((fr_44 12 rfl).trans ((fr_26 12 rfl).trans ((fr_8 12 rfl))))
                          have z_80 : 0 ≤ (fv_41 12).toInt ∧ (fv_41 12).toInt ≤ 80 := hF_fv_41 12
                          refine va_calli (va_runV (As := []) (rest := []) ⟨hx, hb, hml, hown, hts⟩ (x_isFullE l dC dI H.size ob ad cA hd fv_41 wd_42 ar_43 hF_fv_41 hA_ar_43) (cwV 0 hts (gV kw_3_206 kw_3_207 kw_3_208 kw_1_6 kw_3_209) rfl rfl rfl (by decide +kernel) ⟨Nat.le_of_ble_eq_true rfl, Nat.le_of_ble_eq_true rfl⟩) ⟨fun a U g mk q => ⟨q.1, q.2.1, q.2.2.1, va_K.moved (u := U) (U := U.calling g mk a) (Vm.Alike.refl U.vm) q.2.2.2⟩, va_recv hK hP (ci := 8) (q0 := 5) rfl rfl, fun U hU hW => ⟨rfl, by rw [hU], by rw [hU]; exact hP, va_K.moved hW.alike hK⟩⟩ rfl rfl hl.1 rfl (lv_room (Nat.le_of_ble_eq_true rfl)) dX11_trip_92 ⟨Nat.le_of_ble_eq_true rfl, Nat.le_of_ble_eq_true rfl⟩) hS (fun q _ h9 => aX_up hS q h9) (aX_up hS) (fun r_81 u t H1 locs ht _ hw hB _ hk1 hS => ?_)
                          obtain ⟨fv_84, wd_85, ar_86⟩ := u
                          obtain ⟨hF_fv_84, hA_ar_86, fr_87, fa_88, wf_89, p_82, p_83, -⟩ := hw
                          have wf_89 : wd_85.2 = wd_42.2 := wf_89
                          have hP : va_P (dC, dI) vwCl (wsX ob ad cA fv_84 wd_85 ar_86) H1 := by have h9 := hB.1; rw [ht] at h9; exact h9
                          have fr_87 : fM [] fv_41 fv_84 := fr_87
                          have fa_88 : fA [] ar_43 ar_86 := fa_88
                          generalize H1 = H at hP hS ⊢
                          rcases p_83 with ⟨rfl, p_83⟩ | ⟨rfl, p_83⟩
                          · skip
                            have q_90 : (fv_41 12).toInt ≤ 79 := p_83
                            refine lv_if_eq (tgt := 100) hx hb dX11_trip_95 (by decide) (fun c_91 => ?_) (fun c_91 => ?_)
                            · skip
                              refine lv_aload_n hx hb dX11_trip_100 rfl (lv_at hl 0 rfl) ?_
                              refine gX_X11_16 hx hb htg hown hK hP dX11_trip_101 ?_
                              refine gX_X11_116 hx hb htg hown hK hP dX11_trip_104 ?_
                              refine lv_iload_n hx hb dX11_trip_107 rfl (lv_at hl 1 rfl) ?_
                              refine lv_iload_n hx hb dX11_trip_108 rfl (lv_at hl 2 rfl) ?_
                              refine lv_iload_n hx hb dX11_trip_109 rfl (lv_at hl 3 rfl) ?_
                              refine lv_iload hx hb dX11_trip_110 (lv_at hl 4 rfl) ?_
                              have z_92 : (fv_84 12).toInt = (fv 12).toInt := congrArg Int32.toInt ((fr_87 12 rfl).trans ((fr_44 12 rfl).trans ((fr_26 12 rfl).trans ((fr_8 12 rfl)))))
                              have z_93 : 0 ≤ (fv_84 12).toInt ∧ (fv_84 12).toInt ≤ 80 := hF_fv_84 12
                              have z_94 : (fv_84 12).toInt = (fv 12).toInt := congrArg Int32.toInt ((fr_87 12 rfl).trans ((fr_44 12 rfl).trans ((fr_26 12 rfl).trans ((fr_8 12 rfl)))))
                              have z_95 : 0 ≤ (fv_84 12).toInt ∧ (fv_84 12).toInt ≤ 80 := hF_fv_84 12
                              refine va_calli (va_runV (As := [.int a, .int b, .int v, .int d]) (rest := []) ⟨hx, hb, hml, hown, hts⟩ (x_tjoinS l dC dI H.size ob ad cA hd fv_84 wd_85 ar_86 hF_fv_84 hA_ar_86 a b v d i_15 i_33 i_51 (by omega)) (cwV 4 hts (gV kw_3_210 kw_3_211 kw_3_212 kw_1_6 kw_3_213) rfl rfl rfl (by decide +kernel) ⟨Nat.le_of_ble_eq_true rfl, Nat.le_of_ble_eq_true rfl⟩) ⟨fun a U g mk q => ⟨q.1, q.2.1, q.2.2.1, va_K.moved (u := U) (U := U.calling g mk a) (Vm.Alike.refl U.vm) q.2.2.2⟩, va_recv hK hP (ci := 8) (q0 := 5) rfl rfl, fun U hU hW => ⟨rfl, by rw [hU], by rw [hU]; exact hP, va_K.moved hW.alike hK⟩⟩ rfl rfl hl.1 rfl (lv_room (Nat.le_of_ble_eq_true rfl)) dX11_trip_112 ⟨Nat.le_of_ble_eq_true rfl, Nat.le_of_ble_eq_true rfl⟩) hS (fun q _ h9 => aX_up hS q h9) (aX_up hS) (fun r_96 u t H1 locs ht _ hw hB _ hk1 hS => ?_)
                              obtain ⟨fv_104, wd_105, ar_106⟩ := u
                              obtain ⟨hF_fv_104, hA_ar_106, fr_107, fa_108, wf_109, p_97, p_98, p_99, p_100, p_101, p_102, p_103, -⟩ := hw
                              have wf_109 : wd_105.2 = wd_85.2 := wf_109
                              have hP : va_P (dC, dI) vwCl (wsX ob ad cA fv_104 wd_105 ar_106) H1 := by have h9 := hB.1; rw [ht] at h9; exact h9
                              have fr_107 : fM [12] fv_84 fv_104 := fr_107
                              have fa_108 : fA [28, 29, 30, 31, 35] ar_86 ar_106 := fa_108
                              have p_98 : r_96.toInt = (fv_84 12).toInt ∧ (fv_104 12).toInt = (fv_84 12).toInt + 1 := p_98
                              have p_99 : ar_106 28 = upd (ar_86 28) ((fv_84 12).toInt.toNat) a := p_99
                              have p_100 : ar_106 29 = upd (ar_86 29) ((fv_84 12).toInt.toNat) b := p_100
                              have p_101 : ar_106 30 = upd (ar_86 30) ((fv_84 12).toInt.toNat) v := p_101
                              have p_102 : ar_106 31 = upd (ar_86 31) ((fv_84 12).toInt.toNat) d := p_102
                              have p_103 : ar_106 35 = upd (ar_86 35) ((fv_84 12).toInt.toNat) (-1) := p_103
                              generalize H1 = H at hP hS ⊢
                              refine lv_istore (lv' := [(7, .int r_96), (0, .ref (ob 0)), (1, .int a), (2, .int b), (3, .int v), (4, .int d), (5, .int f), (6, .int g)]) hx hb dX11_trip_115 hl (by decide) rfl (fun ls hl => ?_)
                              refine lv_aload_n hx hb dX11_trip_117 rfl (lv_at hl 1 rfl) ?_
                              refine gX_X11_16 hx hb htg hown hK hP dX11_trip_118 ?_
                              refine gX_X11_116 hx hb htg hown hK hP dX11_trip_121 ?_
                              refine lv_iload hx hb dX11_trip_124 (lv_at hl 0 rfl) ?_
                              refine lv_iload hx hb dX11_trip_126 (lv_at hl 6 rfl) ?_
                              refine lv_iload hx hb dX11_trip_128 (lv_at hl 7 rfl) ?_
                              refine lv_aload_n hx hb dX11_trip_130 rfl (lv_at hl 1 rfl) ?_
                              refine gX_X11_16 hx hb htg hown hK hP dX11_trip_131 ?_
                              refine gX_X11_57 hx hb htg hown hK hP dX11_trip_134 ?_
                              refine my_ti (y := fv 7) ((fr_107 7 rfl).trans ((fr_87 7 rfl).trans ((fr_44 7 rfl).trans ((fr_26 7 rfl).trans ((fr_8 7 rfl)))))) ?_
                              refine va_callv (va_runV (As := [.int r_96, .int f, .int g, .int (fv 7)]) (rest := []) ⟨hx, hb, hml, hown, hts⟩ (x_setDaysR l dC dI H.size ob ad cA hd fv_104 wd_105 ar_106 hF_fv_104 hA_ar_106 r_96 f g (fv 7) p_97) (cwV 4 hts (gV kw_3_214 kw_3_215 kw_3_216 kw_1_6 kw_3_217) rfl rfl rfl (by decide +kernel) ⟨Nat.le_of_ble_eq_true rfl, Nat.le_of_ble_eq_true rfl⟩) ⟨fun a U g mk q => ⟨q.1, q.2.1, q.2.2.1, va_K.moved (u := U) (U := U.calling g mk a) (Vm.Alike.refl U.vm) q.2.2.2⟩, va_recv hK hP (ci := 8) (q0 := 5) rfl rfl, fun U hU hW => ⟨rfl, by rw [hU], by rw [hU]; exact hP, va_K.moved hW.alike hK⟩⟩ rfl rfl hl.1 rfl (lv_room (Nat.le_of_ble_eq_true rfl)) dX11_trip_137 ⟨Nat.le_of_ble_eq_true rfl, Nat.le_of_ble_eq_true rfl⟩) hS (fun q _ h9 => aX_up hS q h9) (aX_up hS) (fun u t H1 locs ht _ hw hB _ hk1 hS => ?_)
                              obtain ⟨fv_114, wd_115, ar_116⟩ := u
                              obtain ⟨hF_fv_114, hA_ar_116, fr_117, fa_118, wf_119, p_111, p_112, p_113, -⟩ := hw
                              have wf_119 : wd_115.2 = wd_105.2 := wf_119
                              have hP : va_P (dC, dI) vwCl (wsX ob ad cA fv_114 wd_115 ar_116) H1 := by have h9 := hB.1; rw [ht] at h9; exact h9
                              have fr_117 : fM [] fv_104 fv_114 := fr_117
                              have fa_118 : fA [32, 33, 34] ar_106 ar_116 := fa_118
                              have p_111 : ar_116 32 = upd (ar_106 32) (r_96.toInt.toNat) f := p_111
                              have p_112 : ar_116 33 = upd (ar_106 33) (r_96.toInt.toNat) g := p_112
                              have p_113 : ar_116 34 = upd (ar_106 34) (r_96.toInt.toNat) (fv 7) := p_113
                              generalize H1 = H at hP hS ⊢
                              refine lv_iload hx hb dX11_trip_140 (lv_at hl 0 rfl) ?_
                              exact W.iret (v := r_96) hx hb hr (fun t ht hW => ⟨⟨r_96, (fv_114, wd_115, ar_116), rfl, ⟨hF_fv_114, hA_ar_116, (fM_call (fM_call (fM_call (fM_call (fM_call (fM_call (fM_rf [12] _) fr_8 (by decide)) fr_26 (by decide)) fr_44 (by decide)) fr_87 (by decide)) fr_107 (by decide)) fr_117 (by decide)), (fA_call (fA_call (fA_call (fA_call (fA_call (fA_call (fA_rf [28, 29, 30, 31, 32, 33, 34, 35] _) fa_9 (by decide)) fa_27 (by decide)) fa_45 (by decide)) fa_88 (by decide)) fa_108 (by decide)) fa_118 (by decide)), (wf_119.trans (wf_109.trans (wf_89.trans (wf_46.trans (wf_28.trans wf_10))))), (show ps_trip r_96 (fv_114 12) (fv 12) (fv 11) (fv 4) (fv 7) a b v d f g from Or.inr ⟨by omega, by rw [show fv_114 12 = (fv_104 12) from (fr_117 12 rfl)]; omega, by omega⟩), (show wt_ru r_96 (ar_116 28) (ar 28) (fv 12) a from by have h9 := p_99; rw [show ar_86 28 = ar 28 from ((fA_call (fA_call (fA_call (fA_call (fA_rf [] _) fa_9 (by decide)) fa_27 (by decide)) fa_45 (by decide)) fa_88 (by decide)) 28 rfl), show fv_84 12 = fv 12 from ((fM_call (fM_call (fM_call (fM_call (fM_rf [] _) fr_8 (by decide)) fr_26 (by decide)) fr_44 (by decide)) fr_87 (by decide)) 12 rfl)] at h9; rw [show ar_106 28 = ar_116 28 from (((fA_call (fA_rf [32, 33, 34] _) fa_118 (by decide)) 28 rfl)).symm] at h9; exact Or.inr ⟨by omega, h9⟩), (show wt_ru r_96 (ar_116 29) (ar 29) (fv 12) b from by have h9 := p_100; rw [show ar_86 29 = ar 29 from ((fA_call (fA_call (fA_call (fA_call (fA_rf [] _) fa_9 (by decide)) fa_27 (by decide)) fa_45 (by decide)) fa_88 (by decide)) 29 rfl), show fv_84 12 = fv 12 from ((fM_call (fM_call (fM_call (fM_call (fM_rf [] _) fr_8 (by decide)) fr_26 (by decide)) fr_44 (by decide)) fr_87 (by decide)) 12 rfl)] at h9; rw [show ar_106 29 = ar_116 29 from (((fA_call (fA_rf [32, 33, 34] _) fa_118 (by decide)) 29 rfl)).symm] at h9; exact Or.inr ⟨by omega, h9⟩), (show wt_ru r_96 (ar_116 30) (ar 30) (fv 12) v from by have h9 := p_101; rw [show ar_86 30 = ar 30 from ((fA_call (fA_call (fA_call (fA_call (fA_rf [] _) fa_9 (by decide)) fa_27 (by decide)) fa_45 (by decide)) fa_88 (by decide)) 30 rfl), show fv_84 12 = fv 12 from ((fM_call (fM_call (fM_call (fM_call (fM_rf [] _) fr_8 (by decide)) fr_26 (by decide)) fr_44 (by decide)) fr_87 (by decide)) 12 rfl)] at h9; rw [show ar_106 30 = ar_116 30 from (((fA_call (fA_rf [32, 33, 34] _) fa_118 (by decide)) 30 rfl)).symm] at h9; exact Or.inr ⟨by omega, h9⟩), (show wt_ru r_96 (ar_116 31) (ar 31) (fv 12) d from by have h9 := p_102; rw [show ar_86 31 = ar 31 from ((fA_call (fA_call (fA_call (fA_call (fA_rf [] _) fa_9 (by decide)) fa_27 (by decide)) fa_45 (by decide)) fa_88 (by decide)) 31 rfl), show fv_84 12 = fv 12 from ((fM_call (fM_call (fM_call (fM_call (fM_rf [] _) fr_8 (by decide)) fr_26 (by decide)) fr_44 (by decide)) fr_87 (by decide)) 12 rfl)] at h9; rw [show ar_106 31 = ar_116 31 from (((fA_call (fA_rf [32, 33, 34] _) fa_118 (by decide)) 31 rfl)).symm] at h9; exact Or.inr ⟨by omega, h9⟩), (show wt_ru r_96 (ar_116 32) (ar 32) (fv 12) f from by have : (fv_5 12).toInt = (fv 12).toInt := congrArg Int32.toInt ((fM_call (fM_rf [] _) fr_8 (by decide)) 12 rfl); have : (fv_23 12).toInt = (fv_5 12).toInt := congrArg Int32.toInt ((fM_call (fM_rf [] _) fr_26 (by decide)) 12 rfl); have : (fv_41 12).toInt = (fv_23 12).toInt := congrArg Int32.toInt ((fM_call (fM_rf [] _) fr_44 (by decide)) 12 rfl); have : (fv_84 12).toInt = (fv_41 12).toInt := congrArg Int32.toInt ((fM_call (fM_rf [] _) fr_87 (by decide)) 12 rfl); have : (fv_114 12).toInt = (fv_104 12).toInt := congrArg Int32.toInt ((fM_call (fM_rf [] _) fr_117 (by decide)) 12 rfl); have h9 := p_111; rw [show ar_106 32 = ar 32 from ((fA_call (fA_call (fA_call (fA_call (fA_call (fA_rf [28, 29, 30, 31, 35] _) fa_9 (by decide)) fa_27 (by decide)) fa_45 (by decide)) fa_88 (by decide)) fa_108 (by decide)) 32 rfl)] at h9; rw [show (r_96).toInt.toNat = (fv 12).toInt.toNat from by omega] at h9; exact Or.inr ⟨by omega, h9⟩), (show wt_ru r_96 (ar_116 33) (ar 33) (fv 12) g from by have : (fv_5 12).toInt = (fv 12).toInt := congrArg Int32.toInt ((fM_call (fM_rf [] _) fr_8 (by decide)) 12 rfl); have : (fv_23 12).toInt = (fv_5 12).toInt := congrArg Int32.toInt ((fM_call (fM_rf [] _) fr_26 (by decide)) 12 rfl); have : (fv_41 12).toInt = (fv_23 12).toInt := congrArg Int32.toInt ((fM_call (fM_rf [] _) fr_44 (by decide)) 12 rfl); have : (fv_84 12).toInt = (fv_41 12).toInt := congrArg Int32.toInt ((fM_call (fM_rf [] _) fr_87 (by decide)) 12 rfl); have : (fv_114 12).toInt = (fv_104 12).toInt := congrArg Int32.toInt ((fM_call (fM_rf [] _) fr_117 (by decide)) 12 rfl); have h9 := p_112; rw [show ar_106 33 = ar 33 from ((fA_call (fA_call (fA_call (fA_call (fA_call (fA_rf [28, 29, 30, 31, 35] _) fa_9 (by decide)) fa_27 (by decide)) fa_45 (by decide)) fa_88 (by decide)) fa_108 (by decide)) 33 rfl)] at h9; rw [show (r_96).toInt.toNat = (fv 12).toInt.toNat from by omega] at h9; exact Or.inr ⟨by omega, h9⟩), (show wt_ru r_96 (ar_116 34) (ar 34) (fv 12) (fv 7) from by have : (fv_5 12).toInt = (fv 12).toInt := congrArg Int32.toInt ((fM_call (fM_rf [] _) fr_8 (by decide)) 12 rfl); have : (fv_23 12).toInt = (fv_5 12).toInt := congrArg Int32.toInt ((fM_call (fM_rf [] _) fr_26 (by decide)) 12 rfl); have : (fv_41 12).toInt = (fv_23 12).toInt := congrArg Int32.toInt ((fM_call (fM_rf [] _) fr_44 (by decide)) 12 rfl); have : (fv_84 12).toInt = (fv_41 12).toInt := congrArg Int32.toInt ((fM_call (fM_rf [] _) fr_87 (by decide)) 12 rfl); have : (fv_114 12).toInt = (fv_104 12).toInt := congrArg Int32.toInt ((fM_call (fM_rf [] _) fr_117 (by decide)) 12 rfl); have h9 := p_113; rw [show ar_106 34 = ar 34 from ((fA_call (fA_call (fA_call (fA_call (fA_call (fA_rf [28, 29, 30, 31, 35] _) fa_9 (by decide)) fa_27 (by decide)) fa_45 (by decide)) fa_88 (by decide)) fa_108 (by decide)) 34 rfl)] at h9; rw [show (r_96).toInt.toNat = (fv 12).toInt.toNat from by omega] at h9; exact Or.inr ⟨by omega, h9⟩), (show wt_ru r_96 (ar_116 35) (ar 35) (fv 12) (-1) from by have h9 := p_103; rw [show ar_86 35 = ar 35 from ((fA_call (fA_call (fA_call (fA_call (fA_rf [] _) fa_9 (by decide)) fa_27 (by decide)) fa_45 (by decide)) fa_88 (by decide)) 35 rfl), show fv_84 12 = fv 12 from ((fM_call (fM_call (fM_call (fM_call (fM_rf [] _) fr_8 (by decide)) fr_26 (by decide)) fr_44 (by decide)) fr_87 (by decide)) 12 rfl)] at h9; rw [show ar_106 35 = ar_116 35 from (((fA_call (fA_rf [32, 33, 34] _) fa_118 (by decide)) 35 rfl)).symm] at h9; exact Or.inr ⟨by omega, h9⟩), trivial⟩, ⟨by rw [ht]; exact hP, va_K.moved hW.alike hK⟩⟩, hS.F ht⟩) hS.2.2 dX11_trip_142
                            · skip
                              exact absurd c_91 (by decide)
                          · skip
                            have q_120 : 80 ≤ (fv_41 12).toInt := p_83
                            refine lv_if_eq (tgt := 100) hx hb dX11_trip_95 (by decide) (fun c_121 => ?_) (fun c_121 => ?_)
                            · skip
                              exact absurd c_121 (by decide)
                            · skip
                              refine lv_iconst (v := (-1)) hx hb dX11_trip_98 (by decide) ?_
                              have z_122 : ((-1) : Int32).toInt = (-1) := by decide
                              exact W.iret (v := (-1)) hx hb hr (fun t ht hW => ⟨⟨(-1), (fv_84, wd_85, ar_86), rfl, ⟨hF_fv_84, hA_ar_86, (fM_call (fM_call (fM_call (fM_call (fM_rf [12] _) fr_8 (by decide)) fr_26 (by decide)) fr_44 (by decide)) fr_87 (by decide)), (fA_call (fA_call (fA_call (fA_call (fA_rf [28, 29, 30, 31, 32, 33, 34, 35] _) fa_9 (by decide)) fa_27 (by decide)) fa_45 (by decide)) fa_88 (by decide)), (wf_89.trans (wf_46.trans (wf_28.trans wf_10))), (show ps_trip ((-1) : Int32) (fv_84 12) (fv 12) (fv 11) (fv 4) (fv 7) a b v d f g from Or.inl ⟨rfl, (fr_87 12 rfl).trans ((fr_44 12 rfl).trans ((fr_26 12 rfl).trans ((fr_8 12 rfl)))), by omega⟩), (show wt_ru ((-1) : Int32) (ar_86 28) (ar 28) (fv 12) a from Or.inl ⟨by decide, ((fA_call (fA_call (fA_call (fA_call (fA_rf [] _) fa_9 (by decide)) fa_27 (by decide)) fa_45 (by decide)) fa_88 (by decide)) 28 rfl)⟩), (show wt_ru ((-1) : Int32) (ar_86 29) (ar 29) (fv 12) b from Or.inl ⟨by decide, ((fA_call (fA_call (fA_call (fA_call (fA_rf [] _) fa_9 (by decide)) fa_27 (by decide)) fa_45 (by decide)) fa_88 (by decide)) 29 rfl)⟩), (show wt_ru ((-1) : Int32) (ar_86 30) (ar 30) (fv 12) v from Or.inl ⟨by decide, ((fA_call (fA_call (fA_call (fA_call (fA_rf [] _) fa_9 (by decide)) fa_27 (by decide)) fa_45 (by decide)) fa_88 (by decide)) 30 rfl)⟩), (show wt_ru ((-1) : Int32) (ar_86 31) (ar 31) (fv 12) d from Or.inl ⟨by decide, ((fA_call (fA_call (fA_call (fA_call (fA_rf [] _) fa_9 (by decide)) fa_27 (by decide)) fa_45 (by decide)) fa_88 (by decide)) 31 rfl)⟩), (show wt_ru ((-1) : Int32) (ar_86 32) (ar 32) (fv 12) f from Or.inl ⟨by decide, ((fA_call (fA_call (fA_call (fA_call (fA_rf [] _) fa_9 (by decide)) fa_27 (by decide)) fa_45 (by decide)) fa_88 (by decide)) 32 rfl)⟩), (show wt_ru ((-1) : Int32) (ar_86 33) (ar 33) (fv 12) g from Or.inl ⟨by decide, ((fA_call (fA_call (fA_call (fA_call (fA_rf [] _) fa_9 (by decide)) fa_27 (by decide)) fa_45 (by decide)) fa_88 (by decide)) 33 rfl)⟩), (show wt_ru ((-1) : Int32) (ar_86 34) (ar 34) (fv 12) (fv 7) from Or.inl ⟨by decide, ((fA_call (fA_call (fA_call (fA_call (fA_rf [] _) fa_9 (by decide)) fa_27 (by decide)) fa_45 (by decide)) fa_88 (by decide)) 34 rfl)⟩), (show wt_ru ((-1) : Int32) (ar_86 35) (ar 35) (fv 12) (-1) from Or.inl ⟨by decide, ((fA_call (fA_call (fA_call (fA_call (fA_rf [] _) fa_9 (by decide)) fa_27 (by decide)) fa_45 (by decide)) fa_88 (by decide)) 35 rfl)⟩), trivial⟩, ⟨by rw [ht]; exact hP, va_K.moved hW.alike hK⟩⟩, hS.F ht⟩) hS.2.2 dX11_trip_99
                  · skip
                    have i_123 : 720 ≤ d.toInt ∧ d.toInt ≤ 2147483647 := iv_lt2 (⟨by decide, by decide⟩ : (719 : Int) ≤ (719 : Int32).toInt ∧ (719 : Int32).toInt ≤ 719) i_59 (Int32.not_le.mp c_60)
                    refine lv_iconst (v := (-1)) hx hb dX11_trip_56 (by decide) ?_
                    have z_124 : ((-1) : Int32).toInt = (-1) := by decide
                    exact W.iret (v := (-1)) hx hb hr (fun t ht hW => ⟨⟨(-1), (fv_41, wd_42, ar_43), rfl, ⟨hF_fv_41, hA_ar_43, (fM_call (fM_call (fM_call (fM_rf [12] _) fr_8 (by decide)) fr_26 (by decide)) fr_44 (by decide)), (fA_call (fA_call (fA_call (fA_rf [28, 29, 30, 31, 32, 33, 34, 35] _) fa_9 (by decide)) fa_27 (by decide)) fa_45 (by decide)), (wf_46.trans (wf_28.trans wf_10)), (show ps_trip ((-1) : Int32) (fv_41 12) (fv 12) (fv 11) (fv 4) (fv 7) a b v d f g from Or.inl ⟨rfl, (fr_44 12 rfl).trans ((fr_26 12 rfl).trans ((fr_8 12 rfl))), by omega⟩), (show wt_ru ((-1) : Int32) (ar_43 28) (ar 28) (fv 12) a from Or.inl ⟨by decide, ((fA_call (fA_call (fA_call (fA_rf [] _) fa_9 (by decide)) fa_27 (by decide)) fa_45 (by decide)) 28 rfl)⟩), (show wt_ru ((-1) : Int32) (ar_43 29) (ar 29) (fv 12) b from Or.inl ⟨by decide, ((fA_call (fA_call (fA_call (fA_rf [] _) fa_9 (by decide)) fa_27 (by decide)) fa_45 (by decide)) 29 rfl)⟩), (show wt_ru ((-1) : Int32) (ar_43 30) (ar 30) (fv 12) v from Or.inl ⟨by decide, ((fA_call (fA_call (fA_call (fA_rf [] _) fa_9 (by decide)) fa_27 (by decide)) fa_45 (by decide)) 30 rfl)⟩), (show wt_ru ((-1) : Int32) (ar_43 31) (ar 31) (fv 12) d from Or.inl ⟨by decide, ((fA_call (fA_call (fA_call (fA_rf [] _) fa_9 (by decide)) fa_27 (by decide)) fa_45 (by decide)) 31 rfl)⟩), (show wt_ru ((-1) : Int32) (ar_43 32) (ar 32) (fv 12) f from Or.inl ⟨by decide, ((fA_call (fA_call (fA_call (fA_rf [] _) fa_9 (by decide)) fa_27 (by decide)) fa_45 (by decide)) 32 rfl)⟩), (show wt_ru ((-1) : Int32) (ar_43 33) (ar 33) (fv 12) g from Or.inl ⟨by decide, ((fA_call (fA_call (fA_call (fA_rf [] _) fa_9 (by decide)) fa_27 (by decide)) fa_45 (by decide)) 33 rfl)⟩), (show wt_ru ((-1) : Int32) (ar_43 34) (ar 34) (fv 12) (fv 7) from Or.inl ⟨by decide, ((fA_call (fA_call (fA_call (fA_rf [] _) fa_9 (by decide)) fa_27 (by decide)) fa_45 (by decide)) 34 rfl)⟩), (show wt_ru ((-1) : Int32) (ar_43 35) (ar 35) (fv 12) (-1) from Or.inl ⟨by decide, ((fA_call (fA_call (fA_call (fA_rf [] _) fa_9 (by decide)) fa_27 (by decide)) fa_45 (by decide)) 35 rfl)⟩), trivial⟩, ⟨by rw [ht]; exact hP, va_K.moved hW.alike hK⟩⟩, hS.F ht⟩) hS.2.2 dX11_trip_57
              · skip
                have k_125 := congrArg Int32.toInt c_54
                refine lv_iconst (v := (-1)) hx hb dX11_trip_41 (by decide) ?_
                have z_126 : ((-1) : Int32).toInt = (-1) := by decide
                exact W.iret (v := (-1)) hx hb hr (fun t ht hW => ⟨⟨(-1), (fv_41, wd_42, ar_43), rfl, ⟨hF_fv_41, hA_ar_43, (fM_call (fM_call (fM_call (fM_rf [12] _) fr_8 (by decide)) fr_26 (by decide)) fr_44 (by decide)), (fA_call (fA_call (fA_call (fA_rf [28, 29, 30, 31, 32, 33, 34, 35] _) fa_9 (by decide)) fa_27 (by decide)) fa_45 (by decide)), (wf_46.trans (wf_28.trans wf_10)), (show ps_trip ((-1) : Int32) (fv_41 12) (fv 12) (fv 11) (fv 4) (fv 7) a b v d f g from Or.inl ⟨rfl, (fr_44 12 rfl).trans ((fr_26 12 rfl).trans ((fr_8 12 rfl))), by omega⟩), (show wt_ru ((-1) : Int32) (ar_43 28) (ar 28) (fv 12) a from Or.inl ⟨by decide, ((fA_call (fA_call (fA_call (fA_rf [] _) fa_9 (by decide)) fa_27 (by decide)) fa_45 (by decide)) 28 rfl)⟩), (show wt_ru ((-1) : Int32) (ar_43 29) (ar 29) (fv 12) b from Or.inl ⟨by decide, ((fA_call (fA_call (fA_call (fA_rf [] _) fa_9 (by decide)) fa_27 (by decide)) fa_45 (by decide)) 29 rfl)⟩), (show wt_ru ((-1) : Int32) (ar_43 30) (ar 30) (fv 12) v from Or.inl ⟨by decide, ((fA_call (fA_call (fA_call (fA_rf [] _) fa_9 (by decide)) fa_27 (by decide)) fa_45 (by decide)) 30 rfl)⟩), (show wt_ru ((-1) : Int32) (ar_43 31) (ar 31) (fv 12) d from Or.inl ⟨by decide, ((fA_call (fA_call (fA_call (fA_rf [] _) fa_9 (by decide)) fa_27 (by decide)) fa_45 (by decide)) 31 rfl)⟩), (show wt_ru ((-1) : Int32) (ar_43 32) (ar 32) (fv 12) f from Or.inl ⟨by decide, ((fA_call (fA_call (fA_call (fA_rf [] _) fa_9 (by decide)) fa_27 (by decide)) fa_45 (by decide)) 32 rfl)⟩), (show wt_ru ((-1) : Int32) (ar_43 33) (ar 33) (fv 12) g from Or.inl ⟨by decide, ((fA_call (fA_call (fA_call (fA_rf [] _) fa_9 (by decide)) fa_27 (by decide)) fa_45 (by decide)) 33 rfl)⟩), (show wt_ru ((-1) : Int32) (ar_43 34) (ar 34) (fv 12) (fv 7) from Or.inl ⟨by decide, ((fA_call (fA_call (fA_call (fA_rf [] _) fa_9 (by decide)) fa_27 (by decide)) fa_45 (by decide)) 34 rfl)⟩), (show wt_ru ((-1) : Int32) (ar_43 35) (ar 35) (fv 12) (-1) from Or.inl ⟨by decide, ((fA_call (fA_call (fA_call (fA_rf [] _) fa_9 (by decide)) fa_27 (by decide)) fa_45 (by decide)) 35 rfl)⟩), trivial⟩, ⟨by rw [ht]; exact hP, va_K.moved hW.alike hK⟩⟩, hS.F ht⟩) hS.2.2 dX11_trip_42
set_option maxHeartbeats 4000000 in
set_option maxRecDepth 100000 in
theorem x_pjoinR (l : Launch) (dC : Nat → ClassId) (dI : Nat → Nat → Nat) (sz : Nat) (ob ad : Nat → Nat) (cA : Nat → ClassId) (hd : dX ob ad) (fv : Nat → Int32) (wd : xT) (ar : Nat → Nat → Int32) (hF_fv : rX fv) (hA_ar : rB ar) (hh : Int32) (wk : Int32) (b : Int32) (h_hh : 0 ≤ hh.toInt ∧ hh.toInt ≤ 11) (h_wk : 0 ≤ wk.toInt ∧ wk.toInt ≤ 11) : Met l yX2_join (.code yX2_join cX2_join 5 (some .int) :: lw_good) ({ frames := 4, cells := 0, slots := 0, locals := 81 }) (va_Pc [.ref (ob 3), .int hh, .int wk, .int b, .ref (ad 1)] (prX dC dI ob ad cA fv wd ar sz)) (va_Qi (fun (r : Int32) (u : xS) => rX u.1 ∧ rB u.2.2 ∧ fM [10] fv u.1 ∧ fA [6, 7, 8, 9, 10, 11, 12, 13, 14, 15] ar u.2.2 ∧ u.2.1.2 = wd.2 ∧ ((r = -1 ∧ u.1 10 = fv 10 ∧ (40 ≤ (fv 10).toInt ∨ b.toInt < 0 ∨ 9999 < b.toInt ∨ 600 < wt_pr (ar 1) 0 ∨ 719 < wt_pr (ar 1) 1 ∨ wt_pr (ar 1) 2 < 10 ∨ 99 < wt_pr (ar 1) 2 ∨ 9 < wt_pr (ar 1) 3 ∨ 10000 < wt_pr (ar 1) 4 ∨ 9 < wt_pr (ar 1) 5)) ∨ (r.toInt = (fv 10).toInt ∧ (u.1 10).toInt = (fv 10).toInt + 1 ∧ ¬ (40 ≤ (fv 10).toInt ∨ b.toInt < 0 ∨ 9999 < b.toInt ∨ 600 < wt_pr (ar 1) 0 ∨ 719 < wt_pr (ar 1) 1 ∨ wt_pr (ar 1) 2 < 10 ∨ 99 < wt_pr (ar 1) 2 ∨ 9 < wt_pr (ar 1) 3 ∨ 10000 < wt_pr (ar 1) 4 ∨ 9 < wt_pr (ar 1) 5))) ∧ (wt_ru r (u.2.2 6) (ar 6) (fv 10) hh) ∧ (wt_ru r (u.2.2 7) (ar 7) (fv 10) wk) ∧ (wt_ru r (u.2.2 8) (ar 8) (fv 10) b) ∧ (wt_rv r (u.2.2 9) (ar 9) (fv 10) (wt_pr (ar 1) 0)) ∧ (wt_rv r (u.2.2 10) (ar 10) (fv 10) (wt_pr (ar 1) 1)) ∧ (wt_rv r (u.2.2 11) (ar 11) (fv 10) (wt_pr (ar 1) 2)) ∧ (wt_rv r (u.2.2 12) (ar 12) (fv 10) (wt_pr (ar 1) 3)) ∧ (wt_rv r (u.2.2 14) (ar 14) (fv 10) (wt_pr (ar 1) 5)) ∧ (wt_rv r (u.2.2 13) (ar 13) (fv 10) (10 * wt_pr (ar 1) 4)) ∧ (wt_ru r (u.2.2 15) (ar 15) (fv 10) (-1)) ∧ True) (enX dC dI ob ad cA) (aX ob ad sz)) 0 0 (aX ob ad sz) := by
  refine Met.ofW (cc := cX2_join) (maxL := 5) (ret := (some .int)) (by decide) rfl ?_
  intro p e s m args below meth c s₁ B hml hv
  obtain ⟨rfl, hsz, hP, hK⟩ := hv
  have hx := B.exec
  have hb := B.bytes
  have hr := B.returns
  have hts := atoms_spec (ws := (.code yX2_join cX2_join 5 (some .int) :: lw_good)) B.pre
  have htg : ∀ w ∈ lw_good, w.before _ s = true := fun w hw => hts w (List.mem_cons_of_mem _ hw)
  have hown : s.vm.findClass RX2 = some m.cls := findClass_of_methodNamed B.named
  have hlocks := B.notSynchronized
  subst hsz
  have hS : va_S (aX ob ad s.heap.size) s.heap s.heap [] := va_S.rf
  have hl := lv_entry ([.ref (ob 3), .int hh, .int wk, .int b, .ref (ad 1)]) (n := 5) (Nat.le_of_ble_eq_true rfl)
  rw [lg_entry_eq]
  generalize (lg_sl ([.ref (ob 3), .int hh, .int wk, .int b, .ref (ad 1)]) ++ List.replicate (5 - (lg_sl ([.ref (ob 3), .int hh, .int wk, .int b, .ref (ad 1)])).length) Slot.unset).toArray = ls at hl ⊢
  have hl : lv_has ls 5 [(0, .ref (ob 3)), (1, .int hh), (2, .int wk), (3, .int b), (4, .ref (ad 1))] := hl
  refine lv_aload_n hx hb dX2_join_0 rfl (lv_at hl 0 rfl) ?_
  refine gX_X2_54 hx hb htg hown hK hP dX2_join_1 ?_
  have i_1 : 0 ≤ (fv 10).toInt ∧ (fv 10).toInt ≤ 40 := hF_fv 10
  refine lv_bipush (v := 40) hx hb dX2_join_4 (by decide) ?_
  refine lv_icmp_ge (tgt := 28) hx hb dX2_join_6 (by decide) (fun c_2 => ?_) (fun c_2 => ?_)
  · skip
    have i_3 : 40 ≤ (fv 10).toInt ∧ (fv 10).toInt ≤ 40 := iv_le2 (⟨by decide, by decide⟩ : (40 : Int) ≤ (40 : Int32).toInt ∧ (40 : Int32).toInt ≤ 40) i_1 c_2
    refine lv_iconst (v := (-1)) hx hb dX2_join_28 (by decide) ?_
    have z_4 : ((-1) : Int32).toInt = (-1) := by decide
    exact W.iret (v := (-1)) hx hb hr (fun t ht hW => ⟨⟨(-1), (fv, wd, ar), rfl, ⟨hF_fv, hA_ar, (fM_rf [10] _), (fA_rf [6, 7, 8, 9, 10, 11, 12, 13, 14, 15] _), rfl, (show (((-1) : Int32) = -1 ∧ fv 10 = fv 10 ∧ (40 ≤ (fv 10).toInt ∨ b.toInt < 0 ∨ 9999 < b.toInt ∨ 600 < wt_pr (ar 1) 0 ∨ 719 < wt_pr (ar 1) 1 ∨ wt_pr (ar 1) 2 < 10 ∨ 99 < wt_pr (ar 1) 2 ∨ 9 < wt_pr (ar 1) 3 ∨ 10000 < wt_pr (ar 1) 4 ∨ 9 < wt_pr (ar 1) 5)) ∨ (((-1) : Int32).toInt = (fv 10).toInt ∧ (fv 10).toInt = (fv 10).toInt + 1 ∧ ¬ (40 ≤ (fv 10).toInt ∨ b.toInt < 0 ∨ 9999 < b.toInt ∨ 600 < wt_pr (ar 1) 0 ∨ 719 < wt_pr (ar 1) 1 ∨ wt_pr (ar 1) 2 < 10 ∨ 99 < wt_pr (ar 1) 2 ∨ 9 < wt_pr (ar 1) 3 ∨ 10000 < wt_pr (ar 1) 4 ∨ 9 < wt_pr (ar 1) 5)) from Or.inl ⟨rfl, rfl, by omega⟩), (show wt_ru ((-1) : Int32) (ar 6) (ar 6) (fv 10) hh from Or.inl ⟨by decide, rfl⟩), (show wt_ru ((-1) : Int32) (ar 7) (ar 7) (fv 10) wk from Or.inl ⟨by decide, rfl⟩), (show wt_ru ((-1) : Int32) (ar 8) (ar 8) (fv 10) b from Or.inl ⟨by decide, rfl⟩), (show wt_rv ((-1) : Int32) (ar 9) (ar 9) (fv 10) (wt_pr (ar 1) 0) from Or.inl ⟨by decide, rfl⟩), (show wt_rv ((-1) : Int32) (ar 10) (ar 10) (fv 10) (wt_pr (ar 1) 1) from Or.inl ⟨by decide, rfl⟩), (show wt_rv ((-1) : Int32) (ar 11) (ar 11) (fv 10) (wt_pr (ar 1) 2) from Or.inl ⟨by decide, rfl⟩), (show wt_rv ((-1) : Int32) (ar 12) (ar 12) (fv 10) (wt_pr (ar 1) 3) from Or.inl ⟨by decide, rfl⟩), (show wt_rv ((-1) : Int32) (ar 14) (ar 14) (fv 10) (wt_pr (ar 1) 5) from Or.inl ⟨by decide, rfl⟩), (show wt_rv ((-1) : Int32) (ar 13) (ar 13) (fv 10) (10 * wt_pr (ar 1) 4) from Or.inl ⟨by decide, rfl⟩), (show wt_ru ((-1) : Int32) (ar 15) (ar 15) (fv 10) (-1) from Or.inl ⟨by decide, rfl⟩), trivial⟩, ⟨by rw [ht]; exact hP, va_K.moved hW.alike hK⟩⟩, hS.F ht⟩) hS.2.2 dX2_join_29
  · skip
    have i_5 : 0 ≤ (fv 10).toInt ∧ (fv 10).toInt ≤ 39 := iv_lt1 i_1 (⟨by decide, by decide⟩ : (40 : Int) ≤ (40 : Int32).toInt ∧ (40 : Int32).toInt ≤ 40) (Int32.not_le.mp c_2)
    refine lv_iload_n hx hb dX2_join_9 rfl (lv_at hl 3 rfl) ?_
    refine lv_if_lt (tgt := 28) hx hb dX2_join_10 (by decide) (fun c_6 => ?_) (fun c_6 => ?_)
    · skip
      have i_7 : (-2147483648) ≤ b.toInt ∧ b.toInt ≤ (-1) := iv_lt1 (iv_any b) (⟨by decide, by decide⟩ : (0 : Int) ≤ (0 : Int32).toInt ∧ (0 : Int32).toInt ≤ 0) c_6
      refine lv_iconst (v := (-1)) hx hb dX2_join_28 (by decide) ?_
      have z_8 : ((-1) : Int32).toInt = (-1) := by decide
      exact W.iret (v := (-1)) hx hb hr (fun t ht hW => ⟨⟨(-1), (fv, wd, ar), rfl, ⟨hF_fv, hA_ar, (fM_rf [10] _), (fA_rf [6, 7, 8, 9, 10, 11, 12, 13, 14, 15] _), rfl, (show (((-1) : Int32) = -1 ∧ fv 10 = fv 10 ∧ (40 ≤ (fv 10).toInt ∨ b.toInt < 0 ∨ 9999 < b.toInt ∨ 600 < wt_pr (ar 1) 0 ∨ 719 < wt_pr (ar 1) 1 ∨ wt_pr (ar 1) 2 < 10 ∨ 99 < wt_pr (ar 1) 2 ∨ 9 < wt_pr (ar 1) 3 ∨ 10000 < wt_pr (ar 1) 4 ∨ 9 < wt_pr (ar 1) 5)) ∨ (((-1) : Int32).toInt = (fv 10).toInt ∧ (fv 10).toInt = (fv 10).toInt + 1 ∧ ¬ (40 ≤ (fv 10).toInt ∨ b.toInt < 0 ∨ 9999 < b.toInt ∨ 600 < wt_pr (ar 1) 0 ∨ 719 < wt_pr (ar 1) 1 ∨ wt_pr (ar 1) 2 < 10 ∨ 99 < wt_pr (ar 1) 2 ∨ 9 < wt_pr (ar 1) 3 ∨ 10000 < wt_pr (ar 1) 4 ∨ 9 < wt_pr (ar 1) 5)) from Or.inl ⟨rfl, rfl, by omega⟩), (show wt_ru ((-1) : Int32) (ar 6) (ar 6) (fv 10) hh from Or.inl ⟨by decide, rfl⟩), (show wt_ru ((-1) : Int32) (ar 7) (ar 7) (fv 10) wk from Or.inl ⟨by decide, rfl⟩), (show wt_ru ((-1) : Int32) (ar 8) (ar 8) (fv 10) b from Or.inl ⟨by decide, rfl⟩), (show wt_rv ((-1) : Int32) (ar 9) (ar 9) (fv 10) (wt_pr (ar 1) 0) from Or.inl ⟨by decide, rfl⟩), (show wt_rv ((-1) : Int32) (ar 10) (ar 10) (fv 10) (wt_pr (ar 1) 1) from Or.inl ⟨by decide, rfl⟩), (show wt_rv ((-1) : Int32) (ar 11) (ar 11) (fv 10) (wt_pr (ar 1) 2) from Or.inl ⟨by decide, rfl⟩), (show wt_rv ((-1) : Int32) (ar 12) (ar 12) (fv 10) (wt_pr (ar 1) 3) from Or.inl ⟨by decide, rfl⟩), (show wt_rv ((-1) : Int32) (ar 14) (ar 14) (fv 10) (wt_pr (ar 1) 5) from Or.inl ⟨by decide, rfl⟩), (show wt_rv ((-1) : Int32) (ar 13) (ar 13) (fv 10) (10 * wt_pr (ar 1) 4) from Or.inl ⟨by decide, rfl⟩), (show wt_ru ((-1) : Int32) (ar 15) (ar 15) (fv 10) (-1) from Or.inl ⟨by decide, rfl⟩), trivial⟩, ⟨by rw [ht]; exact hP, va_K.moved hW.alike hK⟩⟩, hS.F ht⟩) hS.2.2 dX2_join_29
    · skip
      have i_9 : 0 ≤ b.toInt ∧ b.toInt ≤ 2147483647 := iv_le2 (⟨by decide, by decide⟩ : (0 : Int) ≤ (0 : Int32).toInt ∧ (0 : Int32).toInt ≤ 0) (iv_any b) (Int32.not_lt.mp c_6)
      refine lv_iload_n hx hb dX2_join_13 rfl (lv_at hl 3 rfl) ?_
      refine lv_sipush (v := 9999) hx hb dX2_join_14 (by decide) ?_
      refine lv_icmp_gt (tgt := 28) hx hb dX2_join_17 (by decide) (fun c_10 => ?_) (fun c_10 => ?_)
      · skip
        have i_11 : 10000 ≤ b.toInt ∧ b.toInt ≤ 2147483647 := iv_lt2 (⟨by decide, by decide⟩ : (9999 : Int) ≤ (9999 : Int32).toInt ∧ (9999 : Int32).toInt ≤ 9999) i_9 c_10
        refine lv_iconst (v := (-1)) hx hb dX2_join_28 (by decide) ?_
        have z_12 : ((-1) : Int32).toInt = (-1) := by decide
        exact W.iret (v := (-1)) hx hb hr (fun t ht hW => ⟨⟨(-1), (fv, wd, ar), rfl, ⟨hF_fv, hA_ar, (fM_rf [10] _), (fA_rf [6, 7, 8, 9, 10, 11, 12, 13, 14, 15] _), rfl, (show (((-1) : Int32) = -1 ∧ fv 10 = fv 10 ∧ (40 ≤ (fv 10).toInt ∨ b.toInt < 0 ∨ 9999 < b.toInt ∨ 600 < wt_pr (ar 1) 0 ∨ 719 < wt_pr (ar 1) 1 ∨ wt_pr (ar 1) 2 < 10 ∨ 99 < wt_pr (ar 1) 2 ∨ 9 < wt_pr (ar 1) 3 ∨ 10000 < wt_pr (ar 1) 4 ∨ 9 < wt_pr (ar 1) 5)) ∨ (((-1) : Int32).toInt = (fv 10).toInt ∧ (fv 10).toInt = (fv 10).toInt + 1 ∧ ¬ (40 ≤ (fv 10).toInt ∨ b.toInt < 0 ∨ 9999 < b.toInt ∨ 600 < wt_pr (ar 1) 0 ∨ 719 < wt_pr (ar 1) 1 ∨ wt_pr (ar 1) 2 < 10 ∨ 99 < wt_pr (ar 1) 2 ∨ 9 < wt_pr (ar 1) 3 ∨ 10000 < wt_pr (ar 1) 4 ∨ 9 < wt_pr (ar 1) 5)) from Or.inl ⟨rfl, rfl, by omega⟩), (show wt_ru ((-1) : Int32) (ar 6) (ar 6) (fv 10) hh from Or.inl ⟨by decide, rfl⟩), (show wt_ru ((-1) : Int32) (ar 7) (ar 7) (fv 10) wk from Or.inl ⟨by decide, rfl⟩), (show wt_ru ((-1) : Int32) (ar 8) (ar 8) (fv 10) b from Or.inl ⟨by decide, rfl⟩), (show wt_rv ((-1) : Int32) (ar 9) (ar 9) (fv 10) (wt_pr (ar 1) 0) from Or.inl ⟨by decide, rfl⟩), (show wt_rv ((-1) : Int32) (ar 10) (ar 10) (fv 10) (wt_pr (ar 1) 1) from Or.inl ⟨by decide, rfl⟩), (show wt_rv ((-1) : Int32) (ar 11) (ar 11) (fv 10) (wt_pr (ar 1) 2) from Or.inl ⟨by decide, rfl⟩), (show wt_rv ((-1) : Int32) (ar 12) (ar 12) (fv 10) (wt_pr (ar 1) 3) from Or.inl ⟨by decide, rfl⟩), (show wt_rv ((-1) : Int32) (ar 14) (ar 14) (fv 10) (wt_pr (ar 1) 5) from Or.inl ⟨by decide, rfl⟩), (show wt_rv ((-1) : Int32) (ar 13) (ar 13) (fv 10) (10 * wt_pr (ar 1) 4) from Or.inl ⟨by decide, rfl⟩), (show wt_ru ((-1) : Int32) (ar 15) (ar 15) (fv 10) (-1) from Or.inl ⟨by decide, rfl⟩), trivial⟩, ⟨by rw [ht]; exact hP, va_K.moved hW.alike hK⟩⟩, hS.F ht⟩) hS.2.2 dX2_join_29
      · skip
        have i_13 : 0 ≤ b.toInt ∧ b.toInt ≤ 9999 := iv_le1 i_9 (⟨by decide, by decide⟩ : (9999 : Int) ≤ (9999 : Int32).toInt ∧ (9999 : Int32).toInt ≤ 9999) (Int32.not_lt.mp c_10)
        refine lv_aload hx hb dX2_join_20 (lv_at hl 4 rfl) ?_
        refine va_calli (va_runS (As := [.ref (ad 1)]) (rest := []) ⟨hx, hb, hml, hown, hts⟩ (x_fitsC l dC dI s.heap.size ob ad cA hd fv wd ar hF_fv hA_ar) (va_cwS 1 hts (gS kw_3_168 kw_3_169 kw_1_4 kw_3_170) rfl rfl rfl (by decide +kernel) ⟨Nat.le_of_ble_eq_true rfl, Nat.le_of_ble_eq_true rfl⟩) ⟨fun a U g mk q => ⟨q.1, q.2.1, q.2.2.1, va_K.moved (u := U) (U := U.calling g mk a) (Vm.Alike.refl U.vm) q.2.2.2⟩, fun U hU hW => ⟨rfl, by rw [hU], by rw [hU]; exact hP, va_K.moved hW.alike hK⟩⟩ rfl rfl hl.1 rfl (lv_room (Nat.le_of_ble_eq_true rfl)) dX2_join_22 ⟨Nat.le_of_ble_eq_true rfl, Nat.le_of_ble_eq_true rfl⟩) hS (fun q _ h9 => aX_up hS q h9) (aX_up hS) (fun r_14 u t H1 locs ht _ hw hB _ hk1 hS => ?_)
        obtain ⟨fv_17, wd_18, ar_19⟩ := u
        obtain ⟨hF_fv_17, hA_ar_19, fr_20, fa_21, wf_22, p_15, p_16, -⟩ := hw
        have wf_22 : wd_18.2 = wd.2 := wf_22
        have hP : va_P (dC, dI) vwCl (wsX ob ad cA fv_17 wd_18 ar_19) H1 := by have h9 := hB.1; rw [ht] at h9; exact h9
        have fr_20 : fM [] fv fv_17 := fr_20
        have fa_21 : fA [] ar ar_19 := fa_21
        generalize H1 = H at hP hS ⊢
        rcases p_16 with ⟨rfl, p_16⟩ | ⟨rfl, p_16⟩
        · skip
          have q_23 : 600 < wt_pr (ar 1) 0 ∨ 719 < wt_pr (ar 1) 1 ∨ wt_pr (ar 1) 2 < 10 ∨ 99 < wt_pr (ar 1) 2 ∨ 9 < wt_pr (ar 1) 3 ∨ 10000 < wt_pr (ar 1) 4 ∨ 9 < wt_pr (ar 1) 5 := p_16
          refine lv_if_ne (tgt := 30) hx hb dX2_join_25 (by decide) (fun c_24 => ?_) (fun c_24 => ?_)
          · skip
            exact absurd c_24 (by decide)
          · skip
            refine lv_iconst (v := (-1)) hx hb dX2_join_28 (by decide) ?_
            have z_25 : ((-1) : Int32).toInt = (-1) := by decide
            exact W.iret (v := (-1)) hx hb hr (fun t ht hW => ⟨⟨(-1), (fv_17, wd_18, ar_19), rfl, ⟨hF_fv_17, hA_ar_19, (fM_call (fM_rf [10] _) fr_20 (by decide)), (fA_call (fA_rf [6, 7, 8, 9, 10, 11, 12, 13, 14, 15] _) fa_21 (by decide)), wf_22, (show (((-1) : Int32) = -1 ∧ fv_17 10 = fv 10 ∧ (40 ≤ (fv 10).toInt ∨ b.toInt < 0 ∨ 9999 < b.toInt ∨ 600 < wt_pr (ar 1) 0 ∨ 719 < wt_pr (ar 1) 1 ∨ wt_pr (ar 1) 2 < 10 ∨ 99 < wt_pr (ar 1) 2 ∨ 9 < wt_pr (ar 1) 3 ∨ 10000 < wt_pr (ar 1) 4 ∨ 9 < wt_pr (ar 1) 5)) ∨ (((-1) : Int32).toInt = (fv 10).toInt ∧ (fv_17 10).toInt = (fv 10).toInt + 1 ∧ ¬ (40 ≤ (fv 10).toInt ∨ b.toInt < 0 ∨ 9999 < b.toInt ∨ 600 < wt_pr (ar 1) 0 ∨ 719 < wt_pr (ar 1) 1 ∨ wt_pr (ar 1) 2 < 10 ∨ 99 < wt_pr (ar 1) 2 ∨ 9 < wt_pr (ar 1) 3 ∨ 10000 < wt_pr (ar 1) 4 ∨ 9 < wt_pr (ar 1) 5)) from Or.inl ⟨rfl, (fr_20 10 rfl), by omega⟩), (show wt_ru ((-1) : Int32) (ar_19 6) (ar 6) (fv 10) hh from Or.inl ⟨by decide, ((fA_call (fA_rf [] _) fa_21 (by decide)) 6 rfl)⟩), (show wt_ru ((-1) : Int32) (ar_19 7) (ar 7) (fv 10) wk from Or.inl ⟨by decide, ((fA_call (fA_rf [] _) fa_21 (by decide)) 7 rfl)⟩), (show wt_ru ((-1) : Int32) (ar_19 8) (ar 8) (fv 10) b from Or.inl ⟨by decide, ((fA_call (fA_rf [] _) fa_21 (by decide)) 8 rfl)⟩), (show wt_rv ((-1) : Int32) (ar_19 9) (ar 9) (fv 10) (wt_pr (ar 1) 0) from Or.inl ⟨by decide, ((fA_call (fA_rf [] _) fa_21 (by decide)) 9 rfl)⟩), (show wt_rv ((-1) : Int32) (ar_19 10) (ar 10) (fv 10) (wt_pr (ar 1) 1) from Or.inl ⟨by decide, ((fA_call (fA_rf [] _) fa_21 (by decide)) 10 rfl)⟩), (show wt_rv ((-1) : Int32) (ar_19 11) (ar 11) (fv 10) (wt_pr (ar 1) 2) from Or.inl ⟨by decide, ((fA_call (fA_rf [] _) fa_21 (by decide)) 11 rfl)⟩), (show wt_rv ((-1) : Int32) (ar_19 12) (ar 12) (fv 10) (wt_pr (ar 1) 3) from Or.inl ⟨by decide, ((fA_call (fA_rf [] _) fa_21 (by decide)) 12 rfl)⟩), (show wt_rv ((-1) : Int32) (ar_19 14) (ar 14) (fv 10) (wt_pr (ar 1) 5) from Or.inl ⟨by decide, ((fA_call (fA_rf [] _) fa_21 (by decide)) 14 rfl)⟩), (show wt_rv ((-1) : Int32) (ar_19 13) (ar 13) (fv 10) (10 * wt_pr (ar 1) 4) from Or.inl ⟨by decide, ((fA_call (fA_rf [] _) fa_21 (by decide)) 13 rfl)⟩), (show wt_ru ((-1) : Int32) (ar_19 15) (ar 15) (fv 10) (-1) from Or.inl ⟨by decide, ((fA_call (fA_rf [] _) fa_21 (by decide)) 15 rfl)⟩), trivial⟩, ⟨by rw [ht]; exact hP, va_K.moved hW.alike hK⟩⟩, hS.F ht⟩) hS.2.2 dX2_join_29
        · skip
          have q_26 : ¬ (600 < wt_pr (ar 1) 0 ∨ 719 < wt_pr (ar 1) 1 ∨ wt_pr (ar 1) 2 < 10 ∨ 99 < wt_pr (ar 1) 2 ∨ 9 < wt_pr (ar 1) 3 ∨ 10000 < wt_pr (ar 1) 4 ∨ 9 < wt_pr (ar 1) 5) := p_16
          refine lv_if_ne (tgt := 30) hx hb dX2_join_25 (by decide) (fun c_27 => ?_) (fun c_27 => ?_)
          · skip
            refine lv_aload_n hx hb dX2_join_30 rfl (lv_at hl 0 rfl) ?_
            refine gX_X2_11 hx hb htg hown hK hP dX2_join_31 ?_
            refine lv_aload_n hx hb dX2_join_34 rfl (lv_at hl 0 rfl) ?_
            refine gX_X2_54 hx hb htg hown hK hP dX2_join_35 ?_
            refine my_ti (y := fv 10) ((fr_20 10 rfl)) ?_
            refine lv_iload_n hx hb dX2_join_38 rfl (lv_at hl 1 rfl) ?_
            refine sX_6 hx hb hK hP hS hd (iv_in i_5 (by decide) (by decide)) dX2_join_39 (fun H locs ar_28 ear_28 hP hS => ?_)
            have hA_ar_28 : rB ar_28 := rB_put hA_ar_19 ear_28 h_hh
            refine lv_aload_n hx hb dX2_join_40 rfl (lv_at hl 0 rfl) ?_
            refine gX_X2_15 hx hb htg hown hK hP dX2_join_41 ?_
            refine lv_aload_n hx hb dX2_join_44 rfl (lv_at hl 0 rfl) ?_
            refine gX_X2_54 hx hb htg hown hK hP dX2_join_45 ?_
            refine my_ti (y := fv 10) ((fr_20 10 rfl)) ?_
            refine lv_iload_n hx hb dX2_join_48 rfl (lv_at hl 2 rfl) ?_
            refine sX_7 hx hb hK hP hS hd (iv_in i_5 (by decide) (by decide)) dX2_join_49 (fun H locs ar_29 ear_29 hP hS => ?_)
            have hA_ar_29 : rB ar_29 := rB_put hA_ar_28 ear_29 h_wk
            refine lv_aload_n hx hb dX2_join_50 rfl (lv_at hl 0 rfl) ?_
            refine gX_X2_18 hx hb htg hown hK hP dX2_join_51 ?_
            refine lv_aload_n hx hb dX2_join_54 rfl (lv_at hl 0 rfl) ?_
            refine gX_X2_54 hx hb htg hown hK hP dX2_join_55 ?_
            refine my_ti (y := fv 10) ((fr_20 10 rfl)) ?_
            refine lv_iload_n hx hb dX2_join_58 rfl (lv_at hl 3 rfl) ?_
            refine sX_8 hx hb hK hP hS hd (iv_in i_5 (by decide) (by decide)) dX2_join_59 (fun H locs ar_30 ear_30 hP hS => ?_)
            have hA_ar_30 : rB ar_30 := rB_put hA_ar_29 ear_30 (iv_any _)
            refine lv_aload_n hx hb dX2_join_60 rfl (lv_at hl 0 rfl) ?_
            refine gX_X2_21 hx hb htg hown hK hP dX2_join_61 ?_
            refine lv_aload_n hx hb dX2_join_64 rfl (lv_at hl 0 rfl) ?_
            refine gX_X2_54 hx hb htg hown hK hP dX2_join_65 ?_
            refine my_ti (y := fv 10) ((fr_20 10 rfl)) ?_
            refine lv_aload hx hb dX2_join_68 (lv_at hl 4 rfl) ?_
            refine lv_iconst (v := 0) hx hb dX2_join_70 (by decide) ?_
            refine va_calli (va_runS (As := [.ref (ad 1), .int 0]) (rest := [.int (fv 10), .ref (ad 9)]) ⟨hx, hb, hml, hown, hts⟩ (x_pairC l dC dI H.size ob ad cA hd fv_17 wd_18 ar_30 hF_fv_17 hA_ar_30 0 (iv_w (⟨by decide, by decide⟩ : (0 : Int) ≤ (0 : Int32).toInt ∧ (0 : Int32).toInt ≤ 0) (by decide) (by decide))) (va_cwS 2 hts (gS kw_3_171 kw_3_172 kw_1_4 kw_3_173) rfl rfl rfl (by decide +kernel) ⟨Nat.le_of_ble_eq_true rfl, Nat.le_of_ble_eq_true rfl⟩) ⟨fun a U g mk q => ⟨q.1, q.2.1, q.2.2.1, va_K.moved (u := U) (U := U.calling g mk a) (Vm.Alike.refl U.vm) q.2.2.2⟩, fun U hU hW => ⟨rfl, by rw [hU], by rw [hU]; exact hP, va_K.moved hW.alike hK⟩⟩ rfl rfl hl.1 rfl (lv_room (Nat.le_of_ble_eq_true rfl)) dX2_join_71 ⟨Nat.le_of_ble_eq_true rfl, Nat.le_of_ble_eq_true rfl⟩) hS (fun q _ h9 => aX_up hS q h9) (aX_up hS) (fun r_31 u t H1 locs ht _ hw hB _ hk1 hS => ?_)
            obtain ⟨fv_34, wd_35, ar_36⟩ := u
            obtain ⟨hF_fv_34, hA_ar_36, fr_37, fa_38, wf_39, p_32, p_33, -⟩ := hw
            have wf_39 : wd_35.2 = wd_18.2 := wf_39
            have hP : va_P (dC, dI) vwCl (wsX ob ad cA fv_34 wd_35 ar_36) H1 := by have h9 := hB.1; rw [ht] at h9; exact h9
            have fr_37 : fM [] fv_17 fv_34 := fr_37
            have fa_38 : fA [] ar_30 ar_36 := fa_38
            have p_33 : r_31.toInt = wt_pr (ar_30 1) (0 : Int32).toInt.toNat := p_33
            generalize H1 = H at hP hS ⊢
            have k_40 : r_31.toInt = wt_pr (ar 1) 0 := by have h9 := p_33; rw [show ar_30 1 = ar 1 from ((fA_put (fA_put (fA_put (fA_call (fA_rf [6, 7, 8] _) fa_21 (by decide)) ear_28 (by decide)) ear_29 (by decide)) ear_30 (by decide)) 1 rfl), show (0 : Int32).toInt.toNat = 0 from (by decide)] at h9; exact h9
            refine sX_9 hx hb hK hP hS hd (iv_in i_5 (by decide) (by decide)) dX2_join_74 (fun H locs ar_41 ear_41 hP hS => ?_)
            have hA_ar_41 : rB ar_41 := rB_put hA_ar_36 ear_41 (iv_any _)
            refine lv_aload_n hx hb dX2_join_75 rfl (lv_at hl 0 rfl) ?_
            refine gX_X2_24 hx hb htg hown hK hP dX2_join_76 ?_
            refine lv_aload_n hx hb dX2_join_79 rfl (lv_at hl 0 rfl) ?_
            refine gX_X2_54 hx hb htg hown hK hP dX2_join_80 ?_
            refine my_ti (y := fv 10) ((fr_37 10 rfl).trans ((fr_20 10 rfl))) ?_
            refine lv_aload hx hb dX2_join_83 (lv_at hl 4 rfl) ?_
            refine lv_iconst (v := 1) hx hb dX2_join_85 (by decide) ?_
            refine va_calli (va_runS (As := [.ref (ad 1), .int 1]) (rest := [.int (fv 10), .ref (ad 10)]) ⟨hx, hb, hml, hown, hts⟩ (x_pairC l dC dI H.size ob ad cA hd fv_34 wd_35 ar_41 hF_fv_34 hA_ar_41 1 (iv_w (⟨by decide, by decide⟩ : (1 : Int) ≤ (1 : Int32).toInt ∧ (1 : Int32).toInt ≤ 1) (by decide) (by decide))) (va_cwS 2 hts (gS kw_3_171 kw_3_172 kw_1_4 kw_3_173) rfl rfl rfl (by decide +kernel) ⟨Nat.le_of_ble_eq_true rfl, Nat.le_of_ble_eq_true rfl⟩) ⟨fun a U g mk q => ⟨q.1, q.2.1, q.2.2.1, va_K.moved (u := U) (U := U.calling g mk a) (Vm.Alike.refl U.vm) q.2.2.2⟩, fun U hU hW => ⟨rfl, by rw [hU], by rw [hU]; exact hP, va_K.moved hW.alike hK⟩⟩ rfl rfl hl.1 rfl (lv_room (Nat.le_of_ble_eq_true rfl)) dX2_join_86 ⟨Nat.le_of_ble_eq_true rfl, Nat.le_of_ble_eq_true rfl⟩) hS (fun q _ h9 => aX_up hS q h9) (aX_up hS) (fun r_42 u t H1 locs ht _ hw hB _ hk1 hS => ?_)
            obtain ⟨fv_45, wd_46, ar_47⟩ := u
            obtain ⟨hF_fv_45, hA_ar_47, fr_48, fa_49, wf_50, p_43, p_44, -⟩ := hw
            have wf_50 : wd_46.2 = wd_35.2 := wf_50
            have hP : va_P (dC, dI) vwCl (wsX ob ad cA fv_45 wd_46 ar_47) H1 := by have h9 := hB.1; rw [ht] at h9; exact h9
            have fr_48 : fM [] fv_34 fv_45 := fr_48
            have fa_49 : fA [] ar_41 ar_47 := fa_49
            have p_44 : r_42.toInt = wt_pr (ar_41 1) (1 : Int32).toInt.toNat := p_44
            generalize H1 = H at hP hS ⊢
            have k_51 : r_42.toInt = wt_pr (ar 1) 1 := by have h9 := p_44; rw [show ar_41 1 = ar 1 from ((fA_put (fA_call (fA_put (fA_put (fA_put (fA_call (fA_rf [6, 7, 8, 9] _) fa_21 (by decide)) ear_28 (by decide)) ear_29 (by decide)) ear_30 (by decide)) fa_38 (by decide)) ear_41 (by decide)) 1 rfl), show (1 : Int32).toInt.toNat = 1 from (by decide)] at h9; exact h9
            refine sX_10 hx hb hK hP hS hd (iv_in i_5 (by decide) (by decide)) dX2_join_89 (fun H locs ar_52 ear_52 hP hS => ?_)
            have hA_ar_52 : rB ar_52 := rB_put hA_ar_47 ear_52 (iv_any _)
            refine lv_aload_n hx hb dX2_join_90 rfl (lv_at hl 0 rfl) ?_
            refine gX_X2_27 hx hb htg hown hK hP dX2_join_91 ?_
            refine lv_aload_n hx hb dX2_join_94 rfl (lv_at hl 0 rfl) ?_
            refine gX_X2_54 hx hb htg hown hK hP dX2_join_95 ?_
            refine my_ti (y := fv 10) ((fr_48 10 rfl).trans ((fr_37 10 rfl).trans ((fr_20 10 rfl)))) ?_
            refine lv_aload hx hb dX2_join_98 (lv_at hl 4 rfl) ?_
            refine lv_iconst (v := 2) hx hb dX2_join_100 (by decide) ?_
            refine va_calli (va_runS (As := [.ref (ad 1), .int 2]) (rest := [.int (fv 10), .ref (ad 11)]) ⟨hx, hb, hml, hown, hts⟩ (x_pairC l dC dI H.size ob ad cA hd fv_45 wd_46 ar_52 hF_fv_45 hA_ar_52 2 (iv_w (⟨by decide, by decide⟩ : (2 : Int) ≤ (2 : Int32).toInt ∧ (2 : Int32).toInt ≤ 2) (by decide) (by decide))) (va_cwS 2 hts (gS kw_3_171 kw_3_172 kw_1_4 kw_3_173) rfl rfl rfl (by decide +kernel) ⟨Nat.le_of_ble_eq_true rfl, Nat.le_of_ble_eq_true rfl⟩) ⟨fun a U g mk q => ⟨q.1, q.2.1, q.2.2.1, va_K.moved (u := U) (U := U.calling g mk a) (Vm.Alike.refl U.vm) q.2.2.2⟩, fun U hU hW => ⟨rfl, by rw [hU], by rw [hU]; exact hP, va_K.moved hW.alike hK⟩⟩ rfl rfl hl.1 rfl (lv_room (Nat.le_of_ble_eq_true rfl)) dX2_join_101 ⟨Nat.le_of_ble_eq_true rfl, Nat.le_of_ble_eq_true rfl⟩) hS (fun q _ h9 => aX_up hS q h9) (aX_up hS) (fun r_53 u t H1 locs ht _ hw hB _ hk1 hS => ?_)
            obtain ⟨fv_56, wd_57, ar_58⟩ := u
            obtain ⟨hF_fv_56, hA_ar_58, fr_59, fa_60, wf_61, p_54, p_55, -⟩ := hw
            have wf_61 : wd_57.2 = wd_46.2 := wf_61
            have hP : va_P (dC, dI) vwCl (wsX ob ad cA fv_56 wd_57 ar_58) H1 := by have h9 := hB.1; rw [ht] at h9; exact h9
            have fr_59 : fM [] fv_45 fv_56 := fr_59
            have fa_60 : fA [] ar_52 ar_58 := fa_60
            have p_55 : r_53.toInt = wt_pr (ar_52 1) (2 : Int32).toInt.toNat := p_55
            generalize H1 = H at hP hS ⊢
            have k_62 : r_53.toInt = wt_pr (ar 1) 2 := by have h9 := p_55; rw [show ar_52 1 = ar 1 from ((fA_put (fA_call (fA_put (fA_call (fA_put (fA_put (fA_put (fA_call (fA_rf [6, 7, 8, 9, 10] _) fa_21 (by decide)) ear_28 (by decide)) ear_29 (by decide)) ear_30 (by decide)) fa_38 (by decide)) ear_41 (by decide)) fa_49 (by decide)) ear_52 (by decide)) 1 rfl), show (2 : Int32).toInt.toNat = 2 from (by decide)] at h9; exact h9
            refine sX_11 hx hb hK hP hS hd (iv_in i_5 (by decide) (by decide)) dX2_join_104 (fun H locs ar_63 ear_63 hP hS => ?_)
            have hA_ar_63 : rB ar_63 := rB_put hA_ar_58 ear_63 (iv_any _)
            refine lv_aload_n hx hb dX2_join_105 rfl (lv_at hl 0 rfl) ?_
            refine gX_X2_30 hx hb htg hown hK hP dX2_join_106 ?_
            refine lv_aload_n hx hb dX2_join_109 rfl (lv_at hl 0 rfl) ?_
            refine gX_X2_54 hx hb htg hown hK hP dX2_join_110 ?_
            refine my_ti (y := fv 10) ((fr_59 10 rfl).trans ((fr_48 10 rfl).trans ((fr_37 10 rfl).trans ((fr_20 10 rfl))))) ?_
            refine lv_aload hx hb dX2_join_113 (lv_at hl 4 rfl) ?_
            refine lv_iconst (v := 3) hx hb dX2_join_115 (by decide) ?_
            refine va_calli (va_runS (As := [.ref (ad 1), .int 3]) (rest := [.int (fv 10), .ref (ad 12)]) ⟨hx, hb, hml, hown, hts⟩ (x_pairC l dC dI H.size ob ad cA hd fv_56 wd_57 ar_63 hF_fv_56 hA_ar_63 3 (iv_w (⟨by decide, by decide⟩ : (3 : Int) ≤ (3 : Int32).toInt ∧ (3 : Int32).toInt ≤ 3) (by decide) (by decide))) (va_cwS 2 hts (gS kw_3_171 kw_3_172 kw_1_4 kw_3_173) rfl rfl rfl (by decide +kernel) ⟨Nat.le_of_ble_eq_true rfl, Nat.le_of_ble_eq_true rfl⟩) ⟨fun a U g mk q => ⟨q.1, q.2.1, q.2.2.1, va_K.moved (u := U) (U := U.calling g mk a) (Vm.Alike.refl U.vm) q.2.2.2⟩, fun U hU hW => ⟨rfl, by rw [hU], by rw [hU]; exact hP, va_K.moved hW.alike hK⟩⟩ rfl rfl hl.1 rfl (lv_room (Nat.le_of_ble_eq_true rfl)) dX2_join_116 ⟨Nat.le_of_ble_eq_true rfl, Nat.le_of_ble_eq_true rfl⟩) hS (fun q _ h9 => aX_up hS q h9) (aX_up hS) (fun r_64 u t H1 locs ht _ hw hB _ hk1 hS => ?_)
            obtain ⟨fv_67, wd_68, ar_69⟩ := u
            obtain ⟨hF_fv_67, hA_ar_69, fr_70, fa_71, wf_72, p_65, p_66, -⟩ := hw
            have wf_72 : wd_68.2 = wd_57.2 := wf_72
            have hP : va_P (dC, dI) vwCl (wsX ob ad cA fv_67 wd_68 ar_69) H1 := by have h9 := hB.1; rw [ht] at h9; exact h9
            have fr_70 : fM [] fv_56 fv_67 := fr_70
            have fa_71 : fA [] ar_63 ar_69 := fa_71
            have p_66 : r_64.toInt = wt_pr (ar_63 1) (3 : Int32).toInt.toNat := p_66
            generalize H1 = H at hP hS ⊢
            have k_73 : r_64.toInt = wt_pr (ar 1) 3 := by have h9 := p_66; rw [show ar_63 1 = ar 1 from ((fA_put (fA_call (fA_put (fA_call (fA_put (fA_call (fA_put (fA_put (fA_put (fA_call (fA_rf [6, 7, 8, 9, 10, 11] _) fa_21 (by decide)) ear_28 (by decide)) ear_29 (by decide)) ear_30 (by decide)) fa_38 (by decide)) ear_41 (by decide)) fa_49 (by decide)) ear_52 (by decide)) fa_60 (by decide)) ear_63 (by decide)) 1 rfl), show (3 : Int32).toInt.toNat = 3 from (by decide)] at h9; exact h9
            refine sX_12 hx hb hK hP hS hd (iv_in i_5 (by decide) (by decide)) dX2_join_119 (fun H locs ar_74 ear_74 hP hS => ?_)
            have hA_ar_74 : rB ar_74 := rB_put hA_ar_69 ear_74 (iv_any _)
            refine lv_aload_n hx hb dX2_join_120 rfl (lv_at hl 0 rfl) ?_
            refine gX_X2_33 hx hb htg hown hK hP dX2_join_121 ?_
            refine lv_aload_n hx hb dX2_join_124 rfl (lv_at hl 0 rfl) ?_
            refine gX_X2_54 hx hb htg hown hK hP dX2_join_125 ?_
            refine my_ti (y := fv 10) ((fr_70 10 rfl).trans ((fr_59 10 rfl).trans ((fr_48 10 rfl).trans ((fr_37 10 rfl).trans ((fr_20 10 rfl)))))) ?_
            refine lv_aload hx hb dX2_join_128 (lv_at hl 4 rfl) ?_
            refine lv_iconst (v := 4) hx hb dX2_join_130 (by decide) ?_
            refine va_calli (va_runS (As := [.ref (ad 1), .int 4]) (rest := [.int (fv 10), .ref (ad 13)]) ⟨hx, hb, hml, hown, hts⟩ (x_pairC l dC dI H.size ob ad cA hd fv_67 wd_68 ar_74 hF_fv_67 hA_ar_74 4 (iv_w (⟨by decide, by decide⟩ : (4 : Int) ≤ (4 : Int32).toInt ∧ (4 : Int32).toInt ≤ 4) (by decide) (by decide))) (va_cwS 2 hts (gS kw_3_171 kw_3_172 kw_1_4 kw_3_173) rfl rfl rfl (by decide +kernel) ⟨Nat.le_of_ble_eq_true rfl, Nat.le_of_ble_eq_true rfl⟩) ⟨fun a U g mk q => ⟨q.1, q.2.1, q.2.2.1, va_K.moved (u := U) (U := U.calling g mk a) (Vm.Alike.refl U.vm) q.2.2.2⟩, fun U hU hW => ⟨rfl, by rw [hU], by rw [hU]; exact hP, va_K.moved hW.alike hK⟩⟩ rfl rfl hl.1 rfl (lv_room (Nat.le_of_ble_eq_true rfl)) dX2_join_131 ⟨Nat.le_of_ble_eq_true rfl, Nat.le_of_ble_eq_true rfl⟩) hS (fun q _ h9 => aX_up hS q h9) (aX_up hS) (fun r_75 u t H1 locs ht _ hw hB _ hk1 hS => ?_)
            obtain ⟨fv_78, wd_79, ar_80⟩ := u
            obtain ⟨hF_fv_78, hA_ar_80, fr_81, fa_82, wf_83, p_76, p_77, -⟩ := hw
            have wf_83 : wd_79.2 = wd_68.2 := wf_83
            have hP : va_P (dC, dI) vwCl (wsX ob ad cA fv_78 wd_79 ar_80) H1 := by have h9 := hB.1; rw [ht] at h9; exact h9
            have fr_81 : fM [] fv_67 fv_78 := fr_81
            have fa_82 : fA [] ar_74 ar_80 := fa_82
            have p_77 : r_75.toInt = wt_pr (ar_74 1) (4 : Int32).toInt.toNat := p_77
            generalize H1 = H at hP hS ⊢
            have k_84 : r_75.toInt = wt_pr (ar 1) 4 := by have h9 := p_77; rw [show ar_74 1 = ar 1 from ((fA_put (fA_call (fA_put (fA_call (fA_put (fA_call (fA_put (fA_call (fA_put (fA_put (fA_put (fA_call (fA_rf [6, 7, 8, 9, 10, 11, 12] _) fa_21 (by decide)) ear_28 (by decide)) ear_29 (by decide)) ear_30 (by decide)) fa_38 (by decide)) ear_41 (by decide)) fa_49 (by decide)) ear_52 (by decide)) fa_60 (by decide)) ear_63 (by decide)) fa_71 (by decide)) ear_74 (by decide)) 1 rfl), show (4 : Int32).toInt.toNat = 4 from (by decide)] at h9; exact h9
            refine lv_bipush (v := 10) hx hb dX2_join_134 (by decide) ?_
            refine lv_imul hx hb dX2_join_136 ?_
            refine lv_topi (fun v_85 ev_85 => ?_)
            have t_86 : v_85.toInt = 10 * r_75.toInt ∧ 0 ≤ v_85.toInt ∧ v_85.toInt ≤ 655350 := iv_mulr ev_85 p_76 (by decide) (by decide) (by decide) (by decide)
            refine sX_13 hx hb hK hP hS hd (iv_in i_5 (by decide) (by decide)) dX2_join_137 (fun H locs ar_88 ear_88 hP hS => ?_)
            have hA_ar_88 : rB ar_88 := rB_put hA_ar_80 ear_88 (iv_any _)
            refine lv_aload_n hx hb dX2_join_138 rfl (lv_at hl 0 rfl) ?_
            refine gX_X2_36 hx hb htg hown hK hP dX2_join_139 ?_
            refine lv_aload_n hx hb dX2_join_142 rfl (lv_at hl 0 rfl) ?_
            refine gX_X2_54 hx hb htg hown hK hP dX2_join_143 ?_
            refine my_ti (y := fv 10) ((fr_81 10 rfl).trans ((fr_70 10 rfl).trans ((fr_59 10 rfl).trans ((fr_48 10 rfl).trans ((fr_37 10 rfl).trans ((fr_20 10 rfl))))))) ?_
            refine lv_aload hx hb dX2_join_146 (lv_at hl 4 rfl) ?_
            refine lv_iconst (v := 5) hx hb dX2_join_148 (by decide) ?_
            refine va_calli (va_runS (As := [.ref (ad 1), .int 5]) (rest := [.int (fv 10), .ref (ad 14)]) ⟨hx, hb, hml, hown, hts⟩ (x_pairC l dC dI H.size ob ad cA hd fv_78 wd_79 ar_88 hF_fv_78 hA_ar_88 5 (iv_w (⟨by decide, by decide⟩ : (5 : Int) ≤ (5 : Int32).toInt ∧ (5 : Int32).toInt ≤ 5) (by decide) (by decide))) (va_cwS 2 hts (gS kw_3_171 kw_3_172 kw_1_4 kw_3_173) rfl rfl rfl (by decide +kernel) ⟨Nat.le_of_ble_eq_true rfl, Nat.le_of_ble_eq_true rfl⟩) ⟨fun a U g mk q => ⟨q.1, q.2.1, q.2.2.1, va_K.moved (u := U) (U := U.calling g mk a) (Vm.Alike.refl U.vm) q.2.2.2⟩, fun U hU hW => ⟨rfl, by rw [hU], by rw [hU]; exact hP, va_K.moved hW.alike hK⟩⟩ rfl rfl hl.1 rfl (lv_room (Nat.le_of_ble_eq_true rfl)) dX2_join_149 ⟨Nat.le_of_ble_eq_true rfl, Nat.le_of_ble_eq_true rfl⟩) hS (fun q _ h9 => aX_up hS q h9) (aX_up hS) (fun r_89 u t H1 locs ht _ hw hB _ hk1 hS => ?_)
            obtain ⟨fv_92, wd_93, ar_94⟩ := u
            obtain ⟨hF_fv_92, hA_ar_94, fr_95, fa_96, wf_97, p_90, p_91, -⟩ := hw
            have wf_97 : wd_93.2 = wd_79.2 := wf_97
            have hP : va_P (dC, dI) vwCl (wsX ob ad cA fv_92 wd_93 ar_94) H1 := by have h9 := hB.1; rw [ht] at h9; exact h9
            have fr_95 : fM [] fv_78 fv_92 := fr_95
            have fa_96 : fA [] ar_88 ar_94 := fa_96
            have p_91 : r_89.toInt = wt_pr (ar_88 1) (5 : Int32).toInt.toNat := p_91
            generalize H1 = H at hP hS ⊢
            have k_98 : r_89.toInt = wt_pr (ar 1) 5 := by have h9 := p_91; rw [show ar_88 1 = ar 1 from ((fA_put (fA_call (fA_put (fA_call (fA_put (fA_call (fA_put (fA_call (fA_put (fA_call (fA_put (fA_put (fA_put (fA_call (fA_rf [6, 7, 8, 9, 10, 11, 12, 13] _) fa_21 (by decide)) ear_28 (by decide)) ear_29 (by decide)) ear_30 (by decide)) fa_38 (by decide)) ear_41 (by decide)) fa_49 (by decide)) ear_52 (by decide)) fa_60 (by decide)) ear_63 (by decide)) fa_71 (by decide)) ear_74 (by decide)) fa_82 (by decide)) ear_88 (by decide)) 1 rfl), show (5 : Int32).toInt.toNat = 5 from (by decide)] at h9; exact h9
            refine sX_14 hx hb hK hP hS hd (iv_in i_5 (by decide) (by decide)) dX2_join_152 (fun H locs ar_99 ear_99 hP hS => ?_)
            have hA_ar_99 : rB ar_99 := rB_put hA_ar_94 ear_99 (iv_any _)
            refine lv_aload_n hx hb dX2_join_153 rfl (lv_at hl 0 rfl) ?_
            refine gX_X2_39 hx hb htg hown hK hP dX2_join_154 ?_
            refine lv_aload_n hx hb dX2_join_157 rfl (lv_at hl 0 rfl) ?_
            refine gX_X2_54 hx hb htg hown hK hP dX2_join_158 ?_
            refine my_ti (y := fv 10) ((fr_95 10 rfl).trans ((fr_81 10 rfl).trans ((fr_70 10 rfl).trans ((fr_59 10 rfl).trans ((fr_48 10 rfl).trans ((fr_37 10 rfl).trans ((fr_20 10 rfl)))))))) ?_
            refine lv_iconst (v := (-1)) hx hb dX2_join_161 (by decide) ?_
            refine sX_15 hx hb hK hP hS hd (iv_in i_5 (by decide) (by decide)) dX2_join_162 (fun H locs ar_100 ear_100 hP hS => ?_)
            have hA_ar_100 : rB ar_100 := rB_put hA_ar_99 ear_100 (iv_any _)
            refine lv_aload_n hx hb dX2_join_163 rfl (lv_at hl 0 rfl) ?_
            refine lv_dup hx hb dX2_join_164 rfl ?_
            refine gX_X2_54 hx hb htg hown hK hP dX2_join_165 ?_
            refine my_ti (y := fv 10) ((fr_95 10 rfl).trans ((fr_81 10 rfl).trans ((fr_70 10 rfl).trans ((fr_59 10 rfl).trans ((fr_48 10 rfl).trans ((fr_37 10 rfl).trans ((fr_20 10 rfl)))))))) ?_
            refine lv_iconst (v := 1) hx hb dX2_join_168 (by decide) ?_
            refine lv_iadd hx hb dX2_join_169 ?_
            refine lv_topi (fun v_101 ev_101 => ?_)
            have t_102 : v_101.toInt = (fv 10).toInt + 1 ∧ 1 ≤ v_101.toInt ∧ v_101.toInt ≤ 40 := iv_addc ev_101 i_5 (by decide) (by decide) (by decide)
            refine pX_X2_54 hx hb htg hown hK hP hS hd dX2_join_170 (fun H locs fv_104 efv_104 hP hS => ?_)
            have hF_fv_104 : rX fv_104 := rX_put hF_fv_92 efv_104 (iv_w t_102.2 (by decide) (by decide))
            refine lv_aload_n hx hb dX2_join_173 rfl (lv_at hl 0 rfl) ?_
            refine gX_X2_54 hx hb htg hown hK hP dX2_join_174 ?_
            refine my_ti (y := v_101) ((congrFun efv_104 10)) ?_
            refine lv_iconst (v := 1) hx hb dX2_join_177 (by decide) ?_
            refine lv_isub hx hb dX2_join_178 ?_
            refine lv_topi (fun v_105 ev_105 => ?_)
            have t_106 : v_105.toInt = v_101.toInt - 1 ∧ 0 ≤ v_105.toInt ∧ v_105.toInt ≤ 39 := iv_subc ev_105 t_102.2 (by decide) (by decide) (by decide)
            exact W.iret (v := v_105) hx hb hr (fun t ht hW => ⟨⟨v_105, (fv_104, wd_93, ar_100), rfl, ⟨hF_fv_104, hA_ar_100, (fM_put (fM_call (fM_call (fM_call (fM_call (fM_call (fM_call (fM_call (fM_rf [10] _) fr_20 (by decide)) fr_37 (by decide)) fr_48 (by decide)) fr_59 (by decide)) fr_70 (by decide)) fr_81 (by decide)) fr_95 (by decide)) efv_104 (by decide)), (fA_put (fA_put (fA_call (fA_put (fA_call (fA_put (fA_call (fA_put (fA_call (fA_put (fA_call (fA_put (fA_call (fA_put (fA_put (fA_put (fA_call (fA_rf [6, 7, 8, 9, 10, 11, 12, 13, 14, 15] _) fa_21 (by decide)) ear_28 (by decide)) ear_29 (by decide)) ear_30 (by decide)) fa_38 (by decide)) ear_41 (by decide)) fa_49 (by decide)) ear_52 (by decide)) fa_60 (by decide)) ear_63 (by decide)) fa_71 (by decide)) ear_74 (by decide)) fa_82 (by decide)) ear_88 (by decide)) fa_96 (by decide)) ear_99 (by decide)) ear_100 (by decide)), (wf_97.trans (wf_83.trans (wf_72.trans (wf_61.trans (wf_50.trans (wf_39.trans wf_22)))))), (show (v_105 = -1 ∧ fv_104 10 = fv 10 ∧ (40 ≤ (fv 10).toInt ∨ b.toInt < 0 ∨ 9999 < b.toInt ∨ 600 < wt_pr (ar 1) 0 ∨ 719 < wt_pr (ar 1) 1 ∨ wt_pr (ar 1) 2 < 10 ∨ 99 < wt_pr (ar 1) 2 ∨ 9 < wt_pr (ar 1) 3 ∨ 10000 < wt_pr (ar 1) 4 ∨ 9 < wt_pr (ar 1) 5)) ∨ (v_105.toInt = (fv 10).toInt ∧ (fv_104 10).toInt = (fv 10).toInt + 1 ∧ ¬ (40 ≤ (fv 10).toInt ∨ b.toInt < 0 ∨ 9999 < b.toInt ∨ 600 < wt_pr (ar 1) 0 ∨ 719 < wt_pr (ar 1) 1 ∨ wt_pr (ar 1) 2 < 10 ∨ 99 < wt_pr (ar 1) 2 ∨ 9 < wt_pr (ar 1) 3 ∨ 10000 < wt_pr (ar 1) 4 ∨ 9 < wt_pr (ar 1) 5)) from Or.inr ⟨by omega, by rw [show fv_104 10 = v_101 from (congrFun efv_104 10)]; omega, by omega⟩), (show wt_ru v_105 (ar_100 6) (ar 6) (fv 10) hh from by have : (fv_17 10).toInt = (fv 10).toInt := congrArg Int32.toInt ((fM_call (fM_rf [] _) fr_20 (by decide)) 10 rfl); have : (fv_34 10).toInt = (fv_17 10).toInt := congrArg Int32.toInt ((fM_call (fM_rf [] _) fr_37 (by decide)) 10 rfl); have : (fv_45 10).toInt = (fv_34 10).toInt := congrArg Int32.toInt ((fM_call (fM_rf [] _) fr_48 (by decide)) 10 rfl); have : (fv_56 10).toInt = (fv_45 10).toInt := congrArg Int32.toInt ((fM_call (fM_rf [] _) fr_59 (by decide)) 10 rfl); have : (fv_67 10).toInt = (fv_56 10).toInt := congrArg Int32.toInt ((fM_call (fM_rf [] _) fr_70 (by decide)) 10 rfl); have : (fv_78 10).toInt = (fv_67 10).toInt := congrArg Int32.toInt ((fM_call (fM_rf [] _) fr_81 (by decide)) 10 rfl); have : (fv_92 10).toInt = (fv_78 10).toInt := congrArg Int32.toInt ((fM_call (fM_rf [] _) fr_95 (by decide)) 10 rfl); have : (fv_104 10).toInt = v_101.toInt := congrArg Int32.toInt (show fv_104 10 = v_101 from congrFun efv_104 10); exact Or.inr ⟨by omega, by rw [show ar_100 6 = ar_28 6 from ((fA_put (fA_put (fA_call (fA_put (fA_call (fA_put (fA_call (fA_put (fA_call (fA_put (fA_call (fA_put (fA_call (fA_put (fA_put (fA_rf [7, 8, 9, 10, 11, 12, 13, 14, 15] _) ear_29 (by decide)) ear_30 (by decide)) fa_38 (by decide)) ear_41 (by decide)) fa_49 (by decide)) ear_52 (by decide)) fa_60 (by decide)) ear_63 (by decide)) fa_71 (by decide)) ear_74 (by decide)) fa_82 (by decide)) ear_88 (by decide)) fa_96 (by decide)) ear_99 (by decide)) ear_100 (by decide)) 6 rfl)]; rw [ear_28]; show upd (ar_19 6) (Int32.toNatClampNeg (fv 10)) hh = _; rw [show ar_19 6 = ar 6 from ((fA_call (fA_rf [] _) fa_21 (by decide)) 6 rfl)]; exact congrArg (fun z9 => upd (ar 6) z9 hh) (show (fv 10).toInt.toNat = (fv 10).toInt.toNat from by omega)⟩), (show wt_ru v_105 (ar_100 7) (ar 7) (fv 10) wk from by have : (fv_17 10).toInt = (fv 10).toInt := congrArg Int32.toInt ((fM_call (fM_rf [] _) fr_20 (by decide)) 10 rfl); have : (fv_34 10).toInt = (fv_17 10).toInt := congrArg Int32.toInt ((fM_call (fM_rf [] _) fr_37 (by decide)) 10 rfl); have : (fv_45 10).toInt = (fv_34 10).toInt := congrArg Int32.toInt ((fM_call (fM_rf [] _) fr_48 (by decide)) 10 rfl); have : (fv_56 10).toInt = (fv_45 10).toInt := congrArg Int32.toInt ((fM_call (fM_rf [] _) fr_59 (by decide)) 10 rfl); have : (fv_67 10).toInt = (fv_56 10).toInt := congrArg Int32.toInt ((fM_call (fM_rf [] _) fr_70 (by decide)) 10 rfl); have : (fv_78 10).toInt = (fv_67 10).toInt := congrArg Int32.toInt ((fM_call (fM_rf [] _) fr_81 (by decide)) 10 rfl); have : (fv_92 10).toInt = (fv_78 10).toInt := congrArg Int32.toInt ((fM_call (fM_rf [] _) fr_95 (by decide)) 10 rfl); have : (fv_104 10).toInt = v_101.toInt := congrArg Int32.toInt (show fv_104 10 = v_101 from congrFun efv_104 10); exact Or.inr ⟨by omega, by rw [show ar_100 7 = ar_29 7 from ((fA_put (fA_put (fA_call (fA_put (fA_call (fA_put (fA_call (fA_put (fA_call (fA_put (fA_call (fA_put (fA_call (fA_put (fA_rf [8, 9, 10, 11, 12, 13, 14, 15] _) ear_30 (by decide)) fa_38 (by decide)) ear_41 (by decide)) fa_49 (by decide)) ear_52 (by decide)) fa_60 (by decide)) ear_63 (by decide)) fa_71 (by decide)) ear_74 (by decide)) fa_82 (by decide)) ear_88 (by decide)) fa_96 (by decide)) ear_99 (by decide)) ear_100 (by decide)) 7 rfl)]; rw [ear_29]; show upd (ar_28 7) (Int32.toNatClampNeg (fv 10)) wk = _; rw [show ar_28 7 = ar 7 from ((fA_put (fA_call (fA_rf [6] _) fa_21 (by decide)) ear_28 (by decide)) 7 rfl)]; exact congrArg (fun z9 => upd (ar 7) z9 wk) (show (fv 10).toInt.toNat = (fv 10).toInt.toNat from by omega)⟩), (show wt_ru v_105 (ar_100 8) (ar 8) (fv 10) b from by have : (fv_17 10).toInt = (fv 10).toInt := congrArg Int32.toInt ((fM_call (fM_rf [] _) fr_20 (by decide)) 10 rfl); have : (fv_34 10).toInt = (fv_17 10).toInt := congrArg Int32.toInt ((fM_call (fM_rf [] _) fr_37 (by decide)) 10 rfl); have : (fv_45 10).toInt = (fv_34 10).toInt := congrArg Int32.toInt ((fM_call (fM_rf [] _) fr_48 (by decide)) 10 rfl); have : (fv_56 10).toInt = (fv_45 10).toInt := congrArg Int32.toInt ((fM_call (fM_rf [] _) fr_59 (by decide)) 10 rfl); have : (fv_67 10).toInt = (fv_56 10).toInt := congrArg Int32.toInt ((fM_call (fM_rf [] _) fr_70 (by decide)) 10 rfl); have : (fv_78 10).toInt = (fv_67 10).toInt := congrArg Int32.toInt ((fM_call (fM_rf [] _) fr_81 (by decide)) 10 rfl); have : (fv_92 10).toInt = (fv_78 10).toInt := congrArg Int32.toInt ((fM_call (fM_rf [] _) fr_95 (by decide)) 10 rfl); have : (fv_104 10).toInt = v_101.toInt := congrArg Int32.toInt (show fv_104 10 = v_101 from congrFun efv_104 10); exact Or.inr ⟨by omega, by rw [show ar_100 8 = ar_30 8 from ((fA_put (fA_put (fA_call (fA_put (fA_call (fA_put (fA_call (fA_put (fA_call (fA_put (fA_call (fA_put (fA_call (fA_rf [9, 10, 11, 12, 13, 14, 15] _) fa_38 (by decide)) ear_41 (by decide)) fa_49 (by decide)) ear_52 (by decide)) fa_60 (by decide)) ear_63 (by decide)) fa_71 (by decide)) ear_74 (by decide)) fa_82 (by decide)) ear_88 (by decide)) fa_96 (by decide)) ear_99 (by decide)) ear_100 (by decide)) 8 rfl)]; rw [ear_30]; show upd (ar_29 8) (Int32.toNatClampNeg (fv 10)) b = _; rw [show ar_29 8 = ar 8 from ((fA_put (fA_put (fA_call (fA_rf [6, 7] _) fa_21 (by decide)) ear_28 (by decide)) ear_29 (by decide)) 8 rfl)]; exact congrArg (fun z9 => upd (ar 8) z9 b) (show (fv 10).toInt.toNat = (fv 10).toInt.toNat from by omega)⟩), (show wt_rv v_105 (ar_100 9) (ar 9) (fv 10) (wt_pr (ar 1) 0) from by have : (fv_17 10).toInt = (fv 10).toInt := congrArg Int32.toInt ((fM_call (fM_rf [] _) fr_20 (by decide)) 10 rfl); have : (fv_34 10).toInt = (fv_17 10).toInt := congrArg Int32.toInt ((fM_call (fM_rf [] _) fr_37 (by decide)) 10 rfl); have : (fv_45 10).toInt = (fv_34 10).toInt := congrArg Int32.toInt ((fM_call (fM_rf [] _) fr_48 (by decide)) 10 rfl); have : (fv_56 10).toInt = (fv_45 10).toInt := congrArg Int32.toInt ((fM_call (fM_rf [] _) fr_59 (by decide)) 10 rfl); have : (fv_67 10).toInt = (fv_56 10).toInt := congrArg Int32.toInt ((fM_call (fM_rf [] _) fr_70 (by decide)) 10 rfl); have : (fv_78 10).toInt = (fv_67 10).toInt := congrArg Int32.toInt ((fM_call (fM_rf [] _) fr_81 (by decide)) 10 rfl); have : (fv_92 10).toInt = (fv_78 10).toInt := congrArg Int32.toInt ((fM_call (fM_rf [] _) fr_95 (by decide)) 10 rfl); have : (fv_104 10).toInt = v_101.toInt := congrArg Int32.toInt (show fv_104 10 = v_101 from congrFun efv_104 10); exact Or.inr ⟨by omega, r_31, k_40, by rw [show ar_100 9 = ar_41 9 from ((fA_put (fA_put (fA_call (fA_put (fA_call (fA_put (fA_call (fA_put (fA_call (fA_put (fA_call (fA_rf [10, 11, 12, 13, 14, 15] _) fa_49 (by decide)) ear_52 (by decide)) fa_60 (by decide)) ear_63 (by decide)) fa_71 (by decide)) ear_74 (by decide)) fa_82 (by decide)) ear_88 (by decide)) fa_96 (by decide)) ear_99 (by decide)) ear_100 (by decide)) 9 rfl)]; rw [ear_41]; show upd (ar_36 9) (Int32.toNatClampNeg (fv 10)) r_31 = _; rw [show ar_36 9 = ar 9 from ((fA_call (fA_put (fA_put (fA_put (fA_call (fA_rf [6, 7, 8] _) fa_21 (by decide)) ear_28 (by decide)) ear_29 (by decide)) ear_30 (by decide)) fa_38 (by decide)) 9 rfl)]; exact congrArg (fun z9 => upd (ar 9) z9 r_31) (show (fv 10).toInt.toNat = (fv 10).toInt.toNat from by omega)⟩), (show wt_rv v_105 (ar_100 10) (ar 10) (fv 10) (wt_pr (ar 1) 1) from by have : (fv_17 10).toInt = (fv 10).toInt := congrArg Int32.toInt ((fM_call (fM_rf [] _) fr_20 (by decide)) 10 rfl); have : (fv_34 10).toInt = (fv_17 10).toInt := congrArg Int32.toInt ((fM_call (fM_rf [] _) fr_37 (by decide)) 10 rfl); have : (fv_45 10).toInt = (fv_34 10).toInt := congrArg Int32.toInt ((fM_call (fM_rf [] _) fr_48 (by decide)) 10 rfl); have : (fv_56 10).toInt = (fv_45 10).toInt := congrArg Int32.toInt ((fM_call (fM_rf [] _) fr_59 (by decide)) 10 rfl); have : (fv_67 10).toInt = (fv_56 10).toInt := congrArg Int32.toInt ((fM_call (fM_rf [] _) fr_70 (by decide)) 10 rfl); have : (fv_78 10).toInt = (fv_67 10).toInt := congrArg Int32.toInt ((fM_call (fM_rf [] _) fr_81 (by decide)) 10 rfl); have : (fv_92 10).toInt = (fv_78 10).toInt := congrArg Int32.toInt ((fM_call (fM_rf [] _) fr_95 (by decide)) 10 rfl); have : (fv_104 10).toInt = v_101.toInt := congrArg Int32.toInt (show fv_104 10 = v_101 from congrFun efv_104 10); exact Or.inr ⟨by omega, r_42, k_51, by rw [show ar_100 10 = ar_52 10 from ((fA_put (fA_put (fA_call (fA_put (fA_call (fA_put (fA_call (fA_put (fA_call (fA_rf [11, 12, 13, 14, 15] _) fa_60 (by decide)) ear_63 (by decide)) fa_71 (by decide)) ear_74 (by decide)) fa_82 (by decide)) ear_88 (by decide)) fa_96 (by decide)) ear_99 (by decide)) ear_100 (by decide)) 10 rfl)]; rw [ear_52]; show upd (ar_47 10) (Int32.toNatClampNeg (fv 10)) r_42 = _; rw [show ar_47 10 = ar 10 from ((fA_call (fA_put (fA_call (fA_put (fA_put (fA_put (fA_call (fA_rf [6, 7, 8, 9] _) fa_21 (by decide)) ear_28 (by decide)) ear_29 (by decide)) ear_30 (by decide)) fa_38 (by decide)) ear_41 (by decide)) fa_49 (by decide)) 10 rfl)]; exact congrArg (fun z9 => upd (ar 10) z9 r_42) (show (fv 10).toInt.toNat = (fv 10).toInt.toNat from by omega)⟩), (show wt_rv v_105 (ar_100 11) (ar 11) (fv 10) (wt_pr (ar 1) 2) from by have : (fv_17 10).toInt = (fv 10).toInt := congrArg Int32.toInt ((fM_call (fM_rf [] _) fr_20 (by decide)) 10 rfl); have : (fv_34 10).toInt = (fv_17 10).toInt := congrArg Int32.toInt ((fM_call (fM_rf [] _) fr_37 (by decide)) 10 rfl); have : (fv_45 10).toInt = (fv_34 10).toInt := congrArg Int32.toInt ((fM_call (fM_rf [] _) fr_48 (by decide)) 10 rfl); have : (fv_56 10).toInt = (fv_45 10).toInt := congrArg Int32.toInt ((fM_call (fM_rf [] _) fr_59 (by decide)) 10 rfl); have : (fv_67 10).toInt = (fv_56 10).toInt := congrArg Int32.toInt ((fM_call (fM_rf [] _) fr_70 (by decide)) 10 rfl); have : (fv_78 10).toInt = (fv_67 10).toInt := congrArg Int32.toInt ((fM_call (fM_rf [] _) fr_81 (by decide)) 10 rfl); have : (fv_92 10).toInt = (fv_78 10).toInt := congrArg Int32.toInt ((fM_call (fM_rf [] _) fr_95 (by decide)) 10 rfl); have : (fv_104 10).toInt = v_101.toInt := congrArg Int32.toInt (show fv_104 10 = v_101 from congrFun efv_104 10); exact Or.inr ⟨by omega, r_53, k_62, by rw [show ar_100 11 = ar_63 11 from ((fA_put (fA_put (fA_call (fA_put (fA_call (fA_put (fA_call (fA_rf [12, 13, 14, 15] _) fa_71 (by decide)) ear_74 (by decide)) fa_82 (by decide)) ear_88 (by decide)) fa_96 (by decide)) ear_99 (by decide)) ear_100 (by decide)) 11 rfl)]; rw [ear_63]; show upd (ar_58 11) (Int32.toNatClampNeg (fv 10)) r_53 = _; rw [show ar_58 11 = ar 11 from ((fA_call (fA_put (fA_call (fA_put (fA_call (fA_put (fA_put (fA_put (fA_call (fA_rf [6, 7, 8, 9, 10] _) fa_21 (by decide)) ear_28 (by decide)) ear_29 (by decide)) ear_30 (by decide)) fa_38 (by decide)) ear_41 (by decide)) fa_49 (by decide)) ear_52 (by decide)) fa_60 (by decide)) 11 rfl)]; exact congrArg (fun z9 => upd (ar 11) z9 r_53) (show (fv 10).toInt.toNat = (fv 10).toInt.toNat from by omega)⟩), (show wt_rv v_105 (ar_100 12) (ar 12) (fv 10) (wt_pr (ar 1) 3) from by have : (fv_17 10).toInt = (fv 10).toInt := congrArg Int32.toInt ((fM_call (fM_rf [] _) fr_20 (by decide)) 10 rfl); have : (fv_34 10).toInt = (fv_17 10).toInt := congrArg Int32.toInt ((fM_call (fM_rf [] _) fr_37 (by decide)) 10 rfl); have : (fv_45 10).toInt = (fv_34 10).toInt := congrArg Int32.toInt ((fM_call (fM_rf [] _) fr_48 (by decide)) 10 rfl); have : (fv_56 10).toInt = (fv_45 10).toInt := congrArg Int32.toInt ((fM_call (fM_rf [] _) fr_59 (by decide)) 10 rfl); have : (fv_67 10).toInt = (fv_56 10).toInt := congrArg Int32.toInt ((fM_call (fM_rf [] _) fr_70 (by decide)) 10 rfl); have : (fv_78 10).toInt = (fv_67 10).toInt := congrArg Int32.toInt ((fM_call (fM_rf [] _) fr_81 (by decide)) 10 rfl); have : (fv_92 10).toInt = (fv_78 10).toInt := congrArg Int32.toInt ((fM_call (fM_rf [] _) fr_95 (by decide)) 10 rfl); have : (fv_104 10).toInt = v_101.toInt := congrArg Int32.toInt (show fv_104 10 = v_101 from congrFun efv_104 10); exact Or.inr ⟨by omega, r_64, k_73, by rw [show ar_100 12 = ar_74 12 from ((fA_put (fA_put (fA_call (fA_put (fA_call (fA_rf [13, 14, 15] _) fa_82 (by decide)) ear_88 (by decide)) fa_96 (by decide)) ear_99 (by decide)) ear_100 (by decide)) 12 rfl)]; rw [ear_74]; show upd (ar_69 12) (Int32.toNatClampNeg (fv 10)) r_64 = _; rw [show ar_69 12 = ar 12 from ((fA_call (fA_put (fA_call (fA_put (fA_call (fA_put (fA_call (fA_put (fA_put (fA_put (fA_call (fA_rf [6, 7, 8, 9, 10, 11] _) fa_21 (by decide)) ear_28 (by decide)) ear_29 (by decide)) ear_30 (by decide)) fa_38 (by decide)) ear_41 (by decide)) fa_49 (by decide)) ear_52 (by decide)) fa_60 (by decide)) ear_63 (by decide)) fa_71 (by decide)) 12 rfl)]; exact congrArg (fun z9 => upd (ar 12) z9 r_64) (show (fv 10).toInt.toNat = (fv 10).toInt.toNat from by omega)⟩), (show wt_rv v_105 (ar_100 14) (ar 14) (fv 10) (wt_pr (ar 1) 5) from by have : (fv_17 10).toInt = (fv 10).toInt := congrArg Int32.toInt ((fM_call (fM_rf [] _) fr_20 (by decide)) 10 rfl); have : (fv_34 10).toInt = (fv_17 10).toInt := congrArg Int32.toInt ((fM_call (fM_rf [] _) fr_37 (by decide)) 10 rfl); have : (fv_45 10).toInt = (fv_34 10).toInt := congrArg Int32.toInt ((fM_call (fM_rf [] _) fr_48 (by decide)) 10 rfl); have : (fv_56 10).toInt = (fv_45 10).toInt := congrArg Int32.toInt ((fM_call (fM_rf [] _) fr_59 (by decide)) 10 rfl); have : (fv_67 10).toInt = (fv_56 10).toInt := congrArg Int32.toInt ((fM_call (fM_rf [] _) fr_70 (by decide)) 10 rfl); have : (fv_78 10).toInt = (fv_67 10).toInt := congrArg Int32.toInt ((fM_call (fM_rf [] _) fr_81 (by decide)) 10 rfl); have : (fv_92 10).toInt = (fv_78 10).toInt := congrArg Int32.toInt ((fM_call (fM_rf [] _) fr_95 (by decide)) 10 rfl); have : (fv_104 10).toInt = v_101.toInt := congrArg Int32.toInt (show fv_104 10 = v_101 from congrFun efv_104 10); exact Or.inr ⟨by omega, r_89, k_98, by rw [show ar_100 14 = ar_99 14 from ((fA_put (fA_rf [15] _) ear_100 (by decide)) 14 rfl)]; rw [ear_99]; show upd (ar_94 14) (Int32.toNatClampNeg (fv 10)) r_89 = _; rw [show ar_94 14 = ar 14 from ((fA_call (fA_put (fA_call (fA_put (fA_call (fA_put (fA_call (fA_put (fA_call (fA_put (fA_call (fA_put (fA_put (fA_put (fA_call (fA_rf [6, 7, 8, 9, 10, 11, 12, 13] _) fa_21 (by decide)) ear_28 (by decide)) ear_29 (by decide)) ear_30 (by decide)) fa_38 (by decide)) ear_41 (by decide)) fa_49 (by decide)) ear_52 (by decide)) fa_60 (by decide)) ear_63 (by decide)) fa_71 (by decide)) ear_74 (by decide)) fa_82 (by decide)) ear_88 (by decide)) fa_96 (by decide)) 14 rfl)]; exact congrArg (fun z9 => upd (ar 14) z9 r_89) (show (fv 10).toInt.toNat = (fv 10).toInt.toNat from by omega)⟩), (show wt_rv v_105 (ar_100 13) (ar 13) (fv 10) (10 * wt_pr (ar 1) 4) from by have : (fv_17 10).toInt = (fv 10).toInt := congrArg Int32.toInt ((fM_call (fM_rf [] _) fr_20 (by decide)) 10 rfl); have : (fv_34 10).toInt = (fv_17 10).toInt := congrArg Int32.toInt ((fM_call (fM_rf [] _) fr_37 (by decide)) 10 rfl); have : (fv_45 10).toInt = (fv_34 10).toInt := congrArg Int32.toInt ((fM_call (fM_rf [] _) fr_48 (by decide)) 10 rfl); have : (fv_56 10).toInt = (fv_45 10).toInt := congrArg Int32.toInt ((fM_call (fM_rf [] _) fr_59 (by decide)) 10 rfl); have : (fv_67 10).toInt = (fv_56 10).toInt := congrArg Int32.toInt ((fM_call (fM_rf [] _) fr_70 (by decide)) 10 rfl); have : (fv_78 10).toInt = (fv_67 10).toInt := congrArg Int32.toInt ((fM_call (fM_rf [] _) fr_81 (by decide)) 10 rfl); have : (fv_92 10).toInt = (fv_78 10).toInt := congrArg Int32.toInt ((fM_call (fM_rf [] _) fr_95 (by decide)) 10 rfl); have : (fv_104 10).toInt = v_101.toInt := congrArg Int32.toInt (show fv_104 10 = v_101 from congrFun efv_104 10); exact Or.inr ⟨by omega, v_85, (by rw [← k_84]; omega), by rw [show ar_100 13 = ar_88 13 from ((fA_put (fA_put (fA_call (fA_rf [14, 15] _) fa_96 (by decide)) ear_99 (by decide)) ear_100 (by decide)) 13 rfl)]; rw [ear_88]; show upd (ar_80 13) (Int32.toNatClampNeg (fv 10)) v_85 = _; rw [show ar_80 13 = ar 13 from ((fA_call (fA_put (fA_call (fA_put (fA_call (fA_put (fA_call (fA_put (fA_call (fA_put (fA_put (fA_put (fA_call (fA_rf [6, 7, 8, 9, 10, 11, 12] _) fa_21 (by decide)) ear_28 (by decide)) ear_29 (by decide)) ear_30 (by decide)) fa_38 (by decide)) ear_41 (by decide)) fa_49 (by decide)) ear_52 (by decide)) fa_60 (by decide)) ear_63 (by decide)) fa_71 (by decide)) ear_74 (by decide)) fa_82 (by decide)) 13 rfl)]; exact congrArg (fun z9 => upd (ar 13) z9 v_85) (show (fv 10).toInt.toNat = (fv 10).toInt.toNat from by omega)⟩), (show wt_ru v_105 (ar_100 15) (ar 15) (fv 10) (-1) from by have : (fv_17 10).toInt = (fv 10).toInt := congrArg Int32.toInt ((fM_call (fM_rf [] _) fr_20 (by decide)) 10 rfl); have : (fv_34 10).toInt = (fv_17 10).toInt := congrArg Int32.toInt ((fM_call (fM_rf [] _) fr_37 (by decide)) 10 rfl); have : (fv_45 10).toInt = (fv_34 10).toInt := congrArg Int32.toInt ((fM_call (fM_rf [] _) fr_48 (by decide)) 10 rfl); have : (fv_56 10).toInt = (fv_45 10).toInt := congrArg Int32.toInt ((fM_call (fM_rf [] _) fr_59 (by decide)) 10 rfl); have : (fv_67 10).toInt = (fv_56 10).toInt := congrArg Int32.toInt ((fM_call (fM_rf [] _) fr_70 (by decide)) 10 rfl); have : (fv_78 10).toInt = (fv_67 10).toInt := congrArg Int32.toInt ((fM_call (fM_rf [] _) fr_81 (by decide)) 10 rfl); have : (fv_92 10).toInt = (fv_78 10).toInt := congrArg Int32.toInt ((fM_call (fM_rf [] _) fr_95 (by decide)) 10 rfl); have : (fv_104 10).toInt = v_101.toInt := congrArg Int32.toInt (show fv_104 10 = v_101 from congrFun efv_104 10); exact Or.inr ⟨by omega, by rw [ear_100]; show upd (ar_99 15) (Int32.toNatClampNeg (fv 10)) ((-1) : Int32) = _; rw [show ar_99 15 = ar 15 from ((fA_put (fA_call (fA_put (fA_call (fA_put (fA_call (fA_put (fA_call (fA_put (fA_call (fA_put (fA_call (fA_put (fA_put (fA_put (fA_call (fA_rf [6, 7, 8, 9, 10, 11, 12, 13, 14] _) fa_21 (by decide)) ear_28 (by decide)) ear_29 (by decide)) ear_30 (by decide)) fa_38 (by decide)) ear_41 (by decide)) fa_49 (by decide)) ear_52 (by decide)) fa_60 (by decide)) ear_63 (by decide)) fa_71 (by decide)) ear_74 (by decide)) fa_82 (by decide)) ear_88 (by decide)) fa_96 (by decide)) ear_99 (by decide)) 15 rfl)]; exact congrArg (fun z9 => upd (ar 15) z9 ((-1) : Int32)) (show (fv 10).toInt.toNat = (fv 10).toInt.toNat from by omega)⟩), trivial⟩, ⟨by rw [ht]; exact hP, va_K.moved hW.alike hK⟩⟩, hS.F ht⟩) hS.2.2 dX2_join_179
          · skip
            exact absurd c_27 (by decide)
set_option maxHeartbeats 4000000 in
set_option maxRecDepth 100000 in
theorem x_personR (l : Launch) (dC : Nat → ClassId) (dI : Nat → Nat → Nat) (sz : Nat) (ob ad : Nat → Nat) (cA : Nat → ClassId) (hd : dX ob ad) (fv : Nat → Int32) (wd : xT) (ar : Nat → Nat → Int32) (hF_fv : rX fv) (hA_ar : rB ar) (a : Int32) (b : Int32) (v : Int32) : Met l yX11_person (.code yX11_person cX11_person 5 (some .int) :: lw_good) ({ frames := 5, cells := 0, slots := 0, locals := 105 }) (va_Pc [.ref (ob 0), .int a, .int b, .int v] (prX dC dI ob ad cA fv wd ar sz)) (va_Qi (fun (r : Int32) (u : xS) => rX u.1 ∧ rB u.2.2 ∧ fM [0, 10] fv u.1 ∧ fA [6, 7, 8, 9, 10, 11, 12, 13, 14, 15] ar u.2.2 ∧ u.2.1.2 = wd.2 ∧ (wt_person r (u.1 10) (fv 10) (fv 0) (ar 1) a b v) ∧ ((u.1 0).toInt = 0) ∧ (wt_ru r (u.2.2 6) (ar 6) (fv 10) a) ∧ (wt_ru r (u.2.2 7) (ar 7) (fv 10) b) ∧ (wt_ru r (u.2.2 8) (ar 8) (fv 10) v) ∧ (wt_rv r (u.2.2 9) (ar 9) (fv 10) (wt_pr (ar 1) 0)) ∧ (wt_rv r (u.2.2 10) (ar 10) (fv 10) (wt_pr (ar 1) 1)) ∧ (wt_rv r (u.2.2 11) (ar 11) (fv 10) (wt_pr (ar 1) 2)) ∧ (wt_rv r (u.2.2 12) (ar 12) (fv 10) (wt_pr (ar 1) 3)) ∧ (wt_rv r (u.2.2 14) (ar 14) (fv 10) (wt_pr (ar 1) 5)) ∧ (wt_rv r (u.2.2 13) (ar 13) (fv 10) (10 * wt_pr (ar 1) 4)) ∧ (wt_ru r (u.2.2 15) (ar 15) (fv 10) (-1)) ∧ True) (enX dC dI ob ad cA) (aX ob ad sz)) 0 0 (aX ob ad sz) := by
  refine Met.ofW (cc := cX11_person) (maxL := 5) (ret := (some .int)) (by decide) rfl ?_
  intro p e s m args below meth c s₁ B hml hv
  obtain ⟨rfl, hsz, hP, hK⟩ := hv
  have hx := B.exec
  have hb := B.bytes
  have hr := B.returns
  have hts := atoms_spec (ws := (.code yX11_person cX11_person 5 (some .int) :: lw_good)) B.pre
  have htg : ∀ w ∈ lw_good, w.before _ s = true := fun w hw => hts w (List.mem_cons_of_mem _ hw)
  have hown : s.vm.findClass RX11 = some m.cls := findClass_of_methodNamed B.named
  have hlocks := B.notSynchronized
  subst hsz
  have hS : va_S (aX ob ad s.heap.size) s.heap s.heap [] := va_S.rf
  have hl := lv_entry ([.ref (ob 0), .int a, .int b, .int v]) (n := 5) (Nat.le_of_ble_eq_true rfl)
  rw [lg_entry_eq]
  generalize (lg_sl ([.ref (ob 0), .int a, .int b, .int v]) ++ List.replicate (5 - (lg_sl ([.ref (ob 0), .int a, .int b, .int v])).length) Slot.unset).toArray = ls at hl ⊢
  have hl : lv_has ls 5 [(0, .ref (ob 0)), (1, .int a), (2, .int b), (3, .int v)] := hl
  refine lv_iconst (v := (-1)) hx hb dX11_person_0 (by decide) ?_
  refine lv_istore (lv' := [(4, .int (-1)), (0, .ref (ob 0)), (1, .int a), (2, .int b), (3, .int v)]) hx hb dX11_person_1 hl (by decide) rfl (fun ls hl => ?_)
  refine lv_aload_n hx hb dX11_person_3 rfl (lv_at hl 1 rfl) ?_
  refine gX_X11_50 hx hb htg hown hK hP dX11_person_4 ?_
  have i_1 : 0 ≤ (fv 0).toInt ∧ (fv 0).toInt ≤ 340 := hF_fv 0
  refine lv_bipush (v := 12) hx hb dX11_person_7 (by decide) ?_
  refine lv_icmp_ne (tgt := 45) hx hb dX11_person_9 (by decide) (fun c_2 => ?_) (fun c_2 => ?_)
  · skip
    have k_3 : ¬ (fv 0).toInt = 12 := fun q => c_2 (Int32.toInt_inj.mp q)
    refine lv_aload_n hx hb dX11_person_45 rfl (lv_at hl 1 rfl) ?_
    refine lv_iconst (v := 0) hx hb dX11_person_46 (by decide) ?_
    refine pX_X11_50 hx hb htg hown hK hP hS hd dX11_person_47 (fun H locs fv_4 efv_4 hP hS => ?_)
    have hF_fv_4 : rX fv_4 := rX_put hF_fv efv_4 (iv_w (⟨by decide, by decide⟩ : (0 : Int) ≤ (0 : Int32).toInt ∧ (0 : Int32).toInt ≤ 0) (by decide) (by decide))
    refine lv_iload hx hb dX11_person_50 (lv_at hl 0 rfl) ?_
    have z_5 : ((-1) : Int32).toInt = (-1) := by decide
    exact W.iret (v := (-1)) hx hb hr (fun t ht hW => ⟨⟨(-1), (fv_4, wd, ar), rfl, ⟨hF_fv_4, hA_ar, (fM_put (fM_rf [0, 10] _) efv_4 (by decide)), (fA_rf [6, 7, 8, 9, 10, 11, 12, 13, 14, 15] _), rfl, (show wt_person ((-1) : Int32) (fv_4 10) (fv 10) (fv 0) (ar 1) a b v from Or.inl ⟨rfl, (congrFun efv_4 10), by omega⟩), (show (fv_4 0).toInt = 0 from by rw [show fv_4 0 = (0 : Int32) from (congrFun efv_4 0)]; decide), (show wt_ru ((-1) : Int32) (ar 6) (ar 6) (fv 10) a from Or.inl ⟨by decide, rfl⟩), (show wt_ru ((-1) : Int32) (ar 7) (ar 7) (fv 10) b from Or.inl ⟨by decide, rfl⟩), (show wt_ru ((-1) : Int32) (ar 8) (ar 8) (fv 10) v from Or.inl ⟨by decide, rfl⟩), (show wt_rv ((-1) : Int32) (ar 9) (ar 9) (fv 10) (wt_pr (ar 1) 0) from Or.inl ⟨by decide, rfl⟩), (show wt_rv ((-1) : Int32) (ar 10) (ar 10) (fv 10) (wt_pr (ar 1) 1) from Or.inl ⟨by decide, rfl⟩), (show wt_rv ((-1) : Int32) (ar 11) (ar 11) (fv 10) (wt_pr (ar 1) 2) from Or.inl ⟨by decide, rfl⟩), (show wt_rv ((-1) : Int32) (ar 12) (ar 12) (fv 10) (wt_pr (ar 1) 3) from Or.inl ⟨by decide, rfl⟩), (show wt_rv ((-1) : Int32) (ar 14) (ar 14) (fv 10) (wt_pr (ar 1) 5) from Or.inl ⟨by decide, rfl⟩), (show wt_rv ((-1) : Int32) (ar 13) (ar 13) (fv 10) (10 * wt_pr (ar 1) 4) from Or.inl ⟨by decide, rfl⟩), (show wt_ru ((-1) : Int32) (ar 15) (ar 15) (fv 10) (-1) from Or.inl ⟨by decide, rfl⟩), trivial⟩, ⟨by rw [ht]; exact hP, va_K.moved hW.alike hK⟩⟩, hS.F ht⟩) hS.2.2 dX11_person_52
  · skip
    have i_6 : 12 ≤ (fv 0).toInt ∧ (fv 0).toInt ≤ 12 := iv_eq1 (⟨by decide, by decide⟩ : (12 : Int) ≤ (12 : Int32).toInt ∧ (12 : Int32).toInt ≤ 12) c_2
    refine lv_iload_n hx hb dX11_person_12 rfl (lv_at hl 2 rfl) ?_
    refine va_calli (va_runS (As := [.int a]) (rest := []) ⟨hx, hb, hml, hown, hts⟩ (x_isCorner l s.heap.size a) (va_cwS 1 hts (gS kw_3_157 kw_3_144 kw_1_3 kw_3_145) rfl rfl rfl (by decide +kernel) ⟨Nat.le_of_ble_eq_true rfl, Nat.le_of_ble_eq_true rfl⟩) ⟨fun a U g mk q => ⟨q.1, q.2⟩, fun U hU hW => ⟨rfl, congrArg Array.size hU⟩⟩ rfl rfl hl.1 rfl (lv_room (Nat.le_of_ble_eq_true rfl)) dX11_person_13 ⟨Nat.le_of_ble_eq_true rfl, Nat.le_of_ble_eq_true rfl⟩) hS (fun q _ h9 => nX_up hS q h9) (nX_up hS) (fun r_8 u t H1 locs ht _ hw hB _ hk1 hS => ?_)
    obtain ⟨p_9, p_10, -⟩ := hw
    have hP := my_keepM hP hk1
    generalize H1 = H at hP hS ⊢
    rcases p_10 with ⟨rfl, p_10⟩ | ⟨rfl, p_10⟩
    · skip
      refine lv_if_eq (tgt := 45) hx hb dX11_person_16 (by decide) (fun c_11 => ?_) (fun c_11 => ?_)
      · skip
        refine lv_aload_n hx hb dX11_person_45 rfl (lv_at hl 1 rfl) ?_
        refine lv_iconst (v := 0) hx hb dX11_person_46 (by decide) ?_
        refine pX_X11_50 hx hb htg hown hK hP hS hd dX11_person_47 (fun H locs fv_12 efv_12 hP hS => ?_)
        have hF_fv_12 : rX fv_12 := rX_put hF_fv efv_12 (iv_w (⟨by decide, by decide⟩ : (0 : Int) ≤ (0 : Int32).toInt ∧ (0 : Int32).toInt ≤ 0) (by decide) (by decide))
        refine lv_iload hx hb dX11_person_50 (lv_at hl 0 rfl) ?_
        have z_13 : ((-1) : Int32).toInt = (-1) := by decide
        exact W.iret (v := (-1)) hx hb hr (fun t ht hW => ⟨⟨(-1), (fv_12, wd, ar), rfl, ⟨hF_fv_12, hA_ar, (fM_put (fM_rf [0, 10] _) efv_12 (by decide)), (fA_rf [6, 7, 8, 9, 10, 11, 12, 13, 14, 15] _), rfl, (show wt_person ((-1) : Int32) (fv_12 10) (fv 10) (fv 0) (ar 1) a b v from Or.inl ⟨rfl, (congrFun efv_12 10), by omega⟩), (show (fv_12 0).toInt = 0 from by rw [show fv_12 0 = (0 : Int32) from (congrFun efv_12 0)]; decide), (show wt_ru ((-1) : Int32) (ar 6) (ar 6) (fv 10) a from Or.inl ⟨by decide, rfl⟩), (show wt_ru ((-1) : Int32) (ar 7) (ar 7) (fv 10) b from Or.inl ⟨by decide, rfl⟩), (show wt_ru ((-1) : Int32) (ar 8) (ar 8) (fv 10) v from Or.inl ⟨by decide, rfl⟩), (show wt_rv ((-1) : Int32) (ar 9) (ar 9) (fv 10) (wt_pr (ar 1) 0) from Or.inl ⟨by decide, rfl⟩), (show wt_rv ((-1) : Int32) (ar 10) (ar 10) (fv 10) (wt_pr (ar 1) 1) from Or.inl ⟨by decide, rfl⟩), (show wt_rv ((-1) : Int32) (ar 11) (ar 11) (fv 10) (wt_pr (ar 1) 2) from Or.inl ⟨by decide, rfl⟩), (show wt_rv ((-1) : Int32) (ar 12) (ar 12) (fv 10) (wt_pr (ar 1) 3) from Or.inl ⟨by decide, rfl⟩), (show wt_rv ((-1) : Int32) (ar 14) (ar 14) (fv 10) (wt_pr (ar 1) 5) from Or.inl ⟨by decide, rfl⟩), (show wt_rv ((-1) : Int32) (ar 13) (ar 13) (fv 10) (10 * wt_pr (ar 1) 4) from Or.inl ⟨by decide, rfl⟩), (show wt_ru ((-1) : Int32) (ar 15) (ar 15) (fv 10) (-1) from Or.inl ⟨by decide, rfl⟩), trivial⟩, ⟨by rw [ht]; exact hP, va_K.moved hW.alike hK⟩⟩, hS.F ht⟩) hS.2.2 dX11_person_52
      · skip
        exact absurd c_11 (by decide)
    · skip
      have i_14 : 0 ≤ a.toInt ∧ a.toInt ≤ 2147483647 := ⟨p_10.1, (iv_any a).2⟩
      have i_15 : 0 ≤ a.toInt ∧ a.toInt ≤ 11 := ⟨i_14.1, p_10.2⟩
      refine lv_if_eq (tgt := 45) hx hb dX11_person_16 (by decide) (fun c_16 => ?_) (fun c_16 => ?_)
      · skip
        exact absurd c_16 (by decide)
      · skip
        refine lv_iload_n hx hb dX11_person_19 rfl (lv_at hl 3 rfl) ?_
        refine va_calli (va_runS (As := [.int b]) (rest := []) ⟨hx, hb, hml, hown, hts⟩ (x_isCorner l H.size b) (va_cwS 1 hts (gS kw_3_157 kw_3_144 kw_1_3 kw_3_145) rfl rfl rfl (by decide +kernel) ⟨Nat.le_of_ble_eq_true rfl, Nat.le_of_ble_eq_true rfl⟩) ⟨fun a U g mk q => ⟨q.1, q.2⟩, fun U hU hW => ⟨rfl, congrArg Array.size hU⟩⟩ rfl rfl hl.1 rfl (lv_room (Nat.le_of_ble_eq_true rfl)) dX11_person_20 ⟨Nat.le_of_ble_eq_true rfl, Nat.le_of_ble_eq_true rfl⟩) hS (fun q _ h9 => nX_up hS q h9) (nX_up hS) (fun r_17 u t H1 locs ht _ hw hB _ hk1 hS => ?_)
        obtain ⟨p_18, p_19, -⟩ := hw
        have hP := my_keepM hP hk1
        generalize H1 = H at hP hS ⊢
        rcases p_19 with ⟨rfl, p_19⟩ | ⟨rfl, p_19⟩
        · skip
          refine lv_if_eq (tgt := 45) hx hb dX11_person_23 (by decide) (fun c_20 => ?_) (fun c_20 => ?_)
          · skip
            refine lv_aload_n hx hb dX11_person_45 rfl (lv_at hl 1 rfl) ?_
            refine lv_iconst (v := 0) hx hb dX11_person_46 (by decide) ?_
            refine pX_X11_50 hx hb htg hown hK hP hS hd dX11_person_47 (fun H locs fv_21 efv_21 hP hS => ?_)
            have hF_fv_21 : rX fv_21 := rX_put hF_fv efv_21 (iv_w (⟨by decide, by decide⟩ : (0 : Int) ≤ (0 : Int32).toInt ∧ (0 : Int32).toInt ≤ 0) (by decide) (by decide))
            refine lv_iload hx hb dX11_person_50 (lv_at hl 0 rfl) ?_
            have z_22 : ((-1) : Int32).toInt = (-1) := by decide
            exact W.iret (v := (-1)) hx hb hr (fun t ht hW => ⟨⟨(-1), (fv_21, wd, ar), rfl, ⟨hF_fv_21, hA_ar, (fM_put (fM_rf [0, 10] _) efv_21 (by decide)), (fA_rf [6, 7, 8, 9, 10, 11, 12, 13, 14, 15] _), rfl, (show wt_person ((-1) : Int32) (fv_21 10) (fv 10) (fv 0) (ar 1) a b v from Or.inl ⟨rfl, (congrFun efv_21 10), by omega⟩), (show (fv_21 0).toInt = 0 from by rw [show fv_21 0 = (0 : Int32) from (congrFun efv_21 0)]; decide), (show wt_ru ((-1) : Int32) (ar 6) (ar 6) (fv 10) a from Or.inl ⟨by decide, rfl⟩), (show wt_ru ((-1) : Int32) (ar 7) (ar 7) (fv 10) b from Or.inl ⟨by decide, rfl⟩), (show wt_ru ((-1) : Int32) (ar 8) (ar 8) (fv 10) v from Or.inl ⟨by decide, rfl⟩), (show wt_rv ((-1) : Int32) (ar 9) (ar 9) (fv 10) (wt_pr (ar 1) 0) from Or.inl ⟨by decide, rfl⟩), (show wt_rv ((-1) : Int32) (ar 10) (ar 10) (fv 10) (wt_pr (ar 1) 1) from Or.inl ⟨by decide, rfl⟩), (show wt_rv ((-1) : Int32) (ar 11) (ar 11) (fv 10) (wt_pr (ar 1) 2) from Or.inl ⟨by decide, rfl⟩), (show wt_rv ((-1) : Int32) (ar 12) (ar 12) (fv 10) (wt_pr (ar 1) 3) from Or.inl ⟨by decide, rfl⟩), (show wt_rv ((-1) : Int32) (ar 14) (ar 14) (fv 10) (wt_pr (ar 1) 5) from Or.inl ⟨by decide, rfl⟩), (show wt_rv ((-1) : Int32) (ar 13) (ar 13) (fv 10) (10 * wt_pr (ar 1) 4) from Or.inl ⟨by decide, rfl⟩), (show wt_ru ((-1) : Int32) (ar 15) (ar 15) (fv 10) (-1) from Or.inl ⟨by decide, rfl⟩), trivial⟩, ⟨by rw [ht]; exact hP, va_K.moved hW.alike hK⟩⟩, hS.F ht⟩) hS.2.2 dX11_person_52
          · skip
            exact absurd c_20 (by decide)
        · skip
          have i_23 : 0 ≤ b.toInt ∧ b.toInt ≤ 2147483647 := ⟨p_19.1, (iv_any b).2⟩
          have i_24 : 0 ≤ b.toInt ∧ b.toInt ≤ 11 := ⟨i_23.1, p_19.2⟩
          refine lv_if_eq (tgt := 45) hx hb dX11_person_23 (by decide) (fun c_25 => ?_) (fun c_25 => ?_)
          · skip
            exact absurd c_25 (by decide)
          · skip
            refine lv_aload_n hx hb dX11_person_26 rfl (lv_at hl 1 rfl) ?_
            refine gX_X11_16 hx hb htg hown hK hP dX11_person_27 ?_
            refine gX_X11_79 hx hb htg hown hK hP dX11_person_30 ?_
            refine lv_iload_n hx hb dX11_person_33 rfl (lv_at hl 2 rfl) ?_
            refine lv_iload_n hx hb dX11_person_34 rfl (lv_at hl 3 rfl) ?_
            refine lv_iload_n hx hb dX11_person_35 rfl (lv_at hl 4 rfl) ?_
            refine lv_aload_n hx hb dX11_person_36 rfl (lv_at hl 1 rfl) ?_
            refine gX_X11_9 hx hb htg hown hK hP dX11_person_37 ?_
            have z_26 : 0 ≤ (fv 10).toInt ∧ (fv 10).toInt ≤ 40 := hF_fv 10
            refine va_calli (va_runV (As := [.int a, .int b, .int v, .ref (ad 1)]) (rest := []) ⟨hx, hb, hml, hown, hts⟩ (x_pjoinR l dC dI H.size ob ad cA hd fv wd ar hF_fv hA_ar a b v i_15 i_24) (cwV 4 hts (gV kw_3_164 kw_3_165 kw_3_166 kw_1_4 kw_3_167) rfl rfl rfl (by decide +kernel) ⟨Nat.le_of_ble_eq_true rfl, Nat.le_of_ble_eq_true rfl⟩) ⟨fun a U g mk q => ⟨q.1, q.2.1, q.2.2.1, va_K.moved (u := U) (U := U.calling g mk a) (Vm.Alike.refl U.vm) q.2.2.2⟩, va_recv hK hP (ci := 3) (q0 := 3) rfl rfl, fun U hU hW => ⟨rfl, by rw [hU], by rw [hU]; exact hP, va_K.moved hW.alike hK⟩⟩ rfl rfl hl.1 rfl (lv_room (Nat.le_of_ble_eq_true rfl)) dX11_person_40 ⟨Nat.le_of_ble_eq_true rfl, Nat.le_of_ble_eq_true rfl⟩) hS (fun q _ h9 => aX_up hS q h9) (aX_up hS) (fun r_27 u t H1 locs ht _ hw hB _ hk1 hS => ?_)
            obtain ⟨fv_39, wd_40, ar_41⟩ := u
            obtain ⟨hF_fv_39, hA_ar_41, fr_42, fa_43, wf_44, p_28, p_29, p_30, p_31, p_32, p_33, p_34, p_35, p_36, p_37, p_38, -⟩ := hw
            have wf_44 : wd_40.2 = wd.2 := wf_44
            have hP : va_P (dC, dI) vwCl (wsX ob ad cA fv_39 wd_40 ar_41) H1 := by have h9 := hB.1; rw [ht] at h9; exact h9
            have fr_42 : fM [10] fv fv_39 := fr_42
            have fa_43 : fA [6, 7, 8, 9, 10, 11, 12, 13, 14, 15] ar ar_41 := fa_43
            have p_28 : (r_27 = -1 ∧ fv_39 10 = fv 10 ∧ (40 ≤ (fv 10).toInt ∨ v.toInt < 0 ∨ 9999 < v.toInt ∨ 600 < wt_pr (ar 1) 0 ∨ 719 < wt_pr (ar 1) 1 ∨ wt_pr (ar 1) 2 < 10 ∨ 99 < wt_pr (ar 1) 2 ∨ 9 < wt_pr (ar 1) 3 ∨ 10000 < wt_pr (ar 1) 4 ∨ 9 < wt_pr (ar 1) 5)) ∨ (r_27.toInt = (fv 10).toInt ∧ (fv_39 10).toInt = (fv 10).toInt + 1 ∧ ¬ (40 ≤ (fv 10).toInt ∨ v.toInt < 0 ∨ 9999 < v.toInt ∨ 600 < wt_pr (ar 1) 0 ∨ 719 < wt_pr (ar 1) 1 ∨ wt_pr (ar 1) 2 < 10 ∨ 99 < wt_pr (ar 1) 2 ∨ 9 < wt_pr (ar 1) 3 ∨ 10000 < wt_pr (ar 1) 4 ∨ 9 < wt_pr (ar 1) 5)) := p_28
            have p_29 : wt_ru r_27 (ar_41 6) (ar 6) (fv 10) a := p_29
            have p_30 : wt_ru r_27 (ar_41 7) (ar 7) (fv 10) b := p_30
            have p_31 : wt_ru r_27 (ar_41 8) (ar 8) (fv 10) v := p_31
            have p_32 : wt_rv r_27 (ar_41 9) (ar 9) (fv 10) (wt_pr (ar 1) 0) := p_32
            have p_33 : wt_rv r_27 (ar_41 10) (ar 10) (fv 10) (wt_pr (ar 1) 1) := p_33
            have p_34 : wt_rv r_27 (ar_41 11) (ar 11) (fv 10) (wt_pr (ar 1) 2) := p_34
            have p_35 : wt_rv r_27 (ar_41 12) (ar 12) (fv 10) (wt_pr (ar 1) 3) := p_35
            have p_36 : wt_rv r_27 (ar_41 14) (ar 14) (fv 10) (wt_pr (ar 1) 5) := p_36
            have p_37 : wt_rv r_27 (ar_41 13) (ar 13) (fv 10) (10 * wt_pr (ar 1) 4) := p_37
            have p_38 : wt_ru r_27 (ar_41 15) (ar 15) (fv 10) (-1) := p_38
            generalize H1 = H at hP hS ⊢
            refine lv_istore (lv' := [(4, .int r_27), (0, .ref (ob 0)), (1, .int a), (2, .int b), (3, .int v)]) hx hb dX11_person_43 hl (by decide) rfl (fun ls hl => ?_)
            refine lv_aload_n hx hb dX11_person_45 rfl (lv_at hl 1 rfl) ?_
            refine lv_iconst (v := 0) hx hb dX11_person_46 (by decide) ?_
            refine pX_X11_50 hx hb htg hown hK hP hS hd dX11_person_47 (fun H locs fv_45 efv_45 hP hS => ?_)
            have hF_fv_45 : rX fv_45 := rX_put hF_fv_39 efv_45 (iv_w (⟨by decide, by decide⟩ : (0 : Int) ≤ (0 : Int32).toInt ∧ (0 : Int32).toInt ≤ 0) (by decide) (by decide))
            refine lv_iload hx hb dX11_person_50 (lv_at hl 0 rfl) ?_
            exact W.iret (v := r_27) hx hb hr (fun t ht hW => ⟨⟨r_27, (fv_45, wd_40, ar_41), rfl, ⟨hF_fv_45, hA_ar_41, (fM_put (fM_call (fM_rf [0, 10] _) fr_42 (by decide)) efv_45 (by decide)), (fA_call (fA_rf [6, 7, 8, 9, 10, 11, 12, 13, 14, 15] _) fa_43 (by decide)), wf_44, (show wt_person r_27 (fv_45 10) (fv 10) (fv 0) (ar 1) a b v from by rcases p_28 with ⟨a9, b9, c9⟩ | ⟨a9, b9, c9⟩; exact Or.inl ⟨a9, ((congrFun efv_45 10)).trans b9, by omega⟩; exact Or.inr ⟨by omega, by rw [show fv_45 10 = fv_39 10 from (congrFun efv_45 10)]; omega, by omega⟩), (show (fv_45 0).toInt = 0 from by rw [show fv_45 0 = (0 : Int32) from (congrFun efv_45 0)]; decide), (show wt_ru r_27 (ar_41 6) (ar 6) (fv 10) a from by have h9 := p_29; exact h9), (show wt_ru r_27 (ar_41 7) (ar 7) (fv 10) b from by have h9 := p_30; exact h9), (show wt_ru r_27 (ar_41 8) (ar 8) (fv 10) v from by have h9 := p_31; exact h9), (show wt_rv r_27 (ar_41 9) (ar 9) (fv 10) (wt_pr (ar 1) 0) from by have h9 := p_32; exact h9), (show wt_rv r_27 (ar_41 10) (ar 10) (fv 10) (wt_pr (ar 1) 1) from by have h9 := p_33; exact h9), (show wt_rv r_27 (ar_41 11) (ar 11) (fv 10) (wt_pr (ar 1) 2) from by have h9 := p_34; exact h9), (show wt_rv r_27 (ar_41 12) (ar 12) (fv 10) (wt_pr (ar 1) 3) from by have h9 := p_35; exact h9), (show wt_rv r_27 (ar_41 14) (ar 14) (fv 10) (wt_pr (ar 1) 5) from by have h9 := p_36; exact h9), (show wt_rv r_27 (ar_41 13) (ar 13) (fv 10) (10 * wt_pr (ar 1) 4) from by have h9 := p_37; exact h9), (show wt_ru r_27 (ar_41 15) (ar 15) (fv 10) (-1) from by have h9 := p_38; exact h9), trivial⟩, ⟨by rw [ht]; exact hP, va_K.moved hW.alike hK⟩⟩, hS.F ht⟩) hS.2.2 dX11_person_52
set_option maxHeartbeats 4000000 in
set_option maxRecDepth 100000 in
theorem x_giveE (l : Launch) (dC : Nat → ClassId) (dI : Nat → Nat → Nat) (sz : Nat) (ob ad : Nat → Nat) (cA : Nat → ClassId) (hd : dX ob ad) (fv : Nat → Int32) (wd : xT) (ar : Nat → Nat → Int32) (hF_fv : rX fv) (hA_ar : rB ar) (v : Int32) : Met l yX11_give (.code yX11_give cX11_give 2 (some .int) :: lw_good) ({ frames := 2, cells := 0, slots := 0, locals := 40 }) (va_Pc [.ref (ob 0), .int v] (prX dC dI ob ad cA fv wd ar sz)) (va_Qi (fun (r : Int32) (u : xS) => rX u.1 ∧ rB u.2.2 ∧ fM [8] fv u.1 ∧ fA [] ar u.2.2 ∧ u.2.1.2 = wd.2 ∧ (ps_give r (u.1 8) (fv 8) v) ∧ True) (enX dC dI ob ad cA) (aX ob ad sz)) 0 0 (aX ob ad sz) := by
  refine Met.ofW (cc := cX11_give) (maxL := 2) (ret := (some .int)) (by decide) rfl ?_
  intro p e s m args below meth c s₁ B hml hv
  obtain ⟨rfl, hsz, hP, hK⟩ := hv
  have hx := B.exec
  have hb := B.bytes
  have hr := B.returns
  have hts := atoms_spec (ws := (.code yX11_give cX11_give 2 (some .int) :: lw_good)) B.pre
  have htg : ∀ w ∈ lw_good, w.before _ s = true := fun w hw => hts w (List.mem_cons_of_mem _ hw)
  have hown : s.vm.findClass RX11 = some m.cls := findClass_of_methodNamed B.named
  have hlocks := B.notSynchronized
  subst hsz
  have hS : va_S (aX ob ad s.heap.size) s.heap s.heap [] := va_S.rf
  have hl := lv_entry ([.ref (ob 0), .int v]) (n := 2) (Nat.le_of_ble_eq_true rfl)
  rw [lg_entry_eq]
  generalize (lg_sl ([.ref (ob 0), .int v]) ++ List.replicate (2 - (lg_sl ([.ref (ob 0), .int v])).length) Slot.unset).toArray = ls at hl ⊢
  have hl : lv_has ls 2 [(0, .ref (ob 0)), (1, .int v)] := hl
  refine lv_iload_n hx hb dX11_give_0 rfl (lv_at hl 1 rfl) ?_
  refine lv_iconst (v := 1) hx hb dX11_give_1 (by decide) ?_
  refine lv_icmp_lt (tgt := 11) hx hb dX11_give_2 (by decide) (fun c_1 => ?_) (fun c_1 => ?_)
  · skip
    have i_2 : (-2147483648) ≤ v.toInt ∧ v.toInt ≤ 0 := iv_lt1 (iv_any v) (⟨by decide, by decide⟩ : (1 : Int) ≤ (1 : Int32).toInt ∧ (1 : Int32).toInt ≤ 1) c_1
    refine lv_iconst (v := (-1)) hx hb dX11_give_11 (by decide) ?_
    have z_3 : ((-1) : Int32).toInt = (-1) := by decide
    exact W.iret (v := (-1)) hx hb hr (fun t ht hW => ⟨⟨(-1), (fv, wd, ar), rfl, ⟨hF_fv, hA_ar, (fM_rf [8] _), (fA_rf [] _), rfl, (show ps_give ((-1) : Int32) (fv 8) (fv 8) v from Or.inl ⟨rfl, rfl, by have hz1 : (1 : Int32).toInt = 1 := (by decide); have hz2 : (100000 : Int32).toInt = 100000 := (by decide); omega⟩), trivial⟩, ⟨by rw [ht]; exact hP, va_K.moved hW.alike hK⟩⟩, hS.F ht⟩) hS.2.2 dX11_give_12
  · skip
    have i_4 : 1 ≤ v.toInt ∧ v.toInt ≤ 2147483647 := iv_le2 (⟨by decide, by decide⟩ : (1 : Int) ≤ (1 : Int32).toInt ∧ (1 : Int32).toInt ≤ 1) (iv_any v) (Int32.not_lt.mp c_1)
    refine lv_iload_n hx hb dX11_give_5 rfl (lv_at hl 1 rfl) ?_
    refine lv_ldc hx hb hown (htg (.constant RX11 144 100000) kw_3_238) dX11_give_6 ?_
    refine lv_icmp_le (tgt := 13) hx hb dX11_give_8 (by decide) (fun c_5 => ?_) (fun c_5 => ?_)
    · skip
      have i_6 : 1 ≤ v.toInt ∧ v.toInt ≤ 100000 := iv_le1 i_4 (⟨by decide, by decide⟩ : (100000 : Int) ≤ (100000 : Int32).toInt ∧ (100000 : Int32).toInt ≤ 100000) c_5
      refine lv_aload_n hx hb dX11_give_13 rfl (lv_at hl 0 rfl) ?_
      refine gX_X11_16 hx hb htg hown hK hP dX11_give_14 ?_
      refine lv_aload_n hx hb dX11_give_17 rfl (lv_at hl 0 rfl) ?_
      refine gX_X11_16 hx hb htg hown hK hP dX11_give_18 ?_
      refine gX_X11_145 hx hb htg hown hK hP dX11_give_21 ?_
      refine lv_iload_n hx hb dX11_give_24 rfl (lv_at hl 1 rfl) ?_
      refine lv_iadd hx hb dX11_give_25 ?_
      refine lv_topi (fun v_7 ev_7 => ?_)
      refine lv_ldc hx hb hown (htg (.constant RX11 148 1000000) kw_3_239) dX11_give_26 ?_
      refine va_mmin hx hb (hml.trans hl.1.symm) hown (htg (.methodLink RX11 149 Lib.Math.min.name) kw_4_0) (htg (.static Lib.Math.min.name) kw_3_151) (htg (.initialized RJ9) kw_1_16) (htg (.code Lib.Math.min.name Lib.Math.min.code 2 (some .int)) kw_3_152) (Nat.le_of_ble_eq_true rfl) (Nat.le_of_ble_eq_true rfl) (Nat.le_of_ble_eq_true rfl) (Nat.le_of_ble_eq_true rfl) dX11_give_28 ?_
      refine lv_topi (fun v_8 ev_8 => ?_)
      have i_9 : (-2147483648) ≤ v_8.toInt ∧ v_8.toInt ≤ 1000000 := ix_min ev_8 (iv_any v_7) (⟨by decide, by decide⟩ : (1000000 : Int) ≤ (1000000 : Int32).toInt ∧ (1000000 : Int32).toInt ≤ 1000000) (by decide) (by decide)
      refine pX_X11_145 hx hb htg hown hK hP hS hd dX11_give_31 (fun H locs fv_10 efv_10 hP hS => ?_)
      have hF_fv_10 : rX fv_10 := rX_put hF_fv efv_10 (iv_any _)
      refine lv_aload_n hx hb dX11_give_34 rfl (lv_at hl 0 rfl) ?_
      refine gX_X11_16 hx hb htg hown hK hP dX11_give_35 ?_
      refine gX_X11_145 hx hb htg hown hK hP dX11_give_38 ?_
      refine my_ti (y := v_8) ((congrFun efv_10 8)) ?_
      exact W.iret (v := v_8) hx hb hr (fun t ht hW => ⟨⟨v_8, (fv_10, wd, ar), rfl, ⟨hF_fv_10, hA_ar, (fM_put (fM_rf [8] _) efv_10 (by decide)), (fA_rf [] _), rfl, (show ps_give v_8 (fv_10 8) (fv 8) v from Or.inr ⟨by rw [show fv_10 8 = v_8 from (congrFun efv_10 8)], by rw [show fv_10 8 = v_8 from (congrFun efv_10 8), mx_cut ev_8, ev_7], by have hz1 : (1 : Int32).toInt = 1 := (by decide); have hz2 : (100000 : Int32).toInt = 100000 := (by decide); omega⟩), trivial⟩, ⟨by rw [ht]; exact hP, va_K.moved hW.alike hK⟩⟩, hS.F ht⟩) hS.2.2 dX11_give_41
    · skip
      have i_11 : 100001 ≤ v.toInt ∧ v.toInt ≤ 2147483647 := iv_lt2 (⟨by decide, by decide⟩ : (100000 : Int) ≤ (100000 : Int32).toInt ∧ (100000 : Int32).toInt ≤ 100000) i_4 (Int32.not_le.mp c_5)
      refine lv_iconst (v := (-1)) hx hb dX11_give_11 (by decide) ?_
      have z_12 : ((-1) : Int32).toInt = (-1) := by decide
      exact W.iret (v := (-1)) hx hb hr (fun t ht hW => ⟨⟨(-1), (fv, wd, ar), rfl, ⟨hF_fv, hA_ar, (fM_rf [8] _), (fA_rf [] _), rfl, (show ps_give ((-1) : Int32) (fv 8) (fv 8) v from Or.inl ⟨rfl, rfl, by have hz1 : (1 : Int32).toInt = 1 := (by decide); have hz2 : (100000 : Int32).toInt = 100000 := (by decide); omega⟩), trivial⟩, ⟨by rw [ht]; exact hP, va_K.moved hW.alike hK⟩⟩, hS.F ht⟩) hS.2.2 dX11_give_12

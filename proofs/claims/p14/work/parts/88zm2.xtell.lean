set_option maxHeartbeats 4000000 in
set_option maxRecDepth 100000 in
theorem x_wtellE (l : Launch) (dC : Nat → ClassId) (dI : Nat → Nat → Nat) (sz : Nat) (ob ad : Nat → Nat) (cA : Nat → ClassId) (hd : dX ob ad) (fv : Nat → Int32) (wd : xT) (ar : Nat → Nat → Int32) (hF_fv : rX fv) (hA_ar : rB ar) (ww : Int32) (b : Int32) (h_ww : 0 ≤ ww.toInt ∧ ww.toInt ≤ 19) : Met l yX10_tellOf (.code yX10_tellOf cX10_tellOf 3 (some .int) :: lw_good) ({ frames := 2, cells := 0, slots := 0, locals := 40 }) (va_Pc [.ref (ob 4), .int ww, .int b] (prX dC dI ob ad cA fv wd ar sz)) (va_Qi (fun (r : Int32) (u : xS) => rX u.1 ∧ rB u.2.2 ∧ fM [] fv u.1 ∧ fA [] ar u.2.2 ∧ u.2.1.2 = wd.2 ∧ (r = mo_w4 b.toInt (ar 25 (ww.toInt.toNat)) (ar 26 (ww.toInt.toNat)) (ar 24 (ww.toInt.toNat)) (ar 27 (ww.toInt.toNat))) ∧ True) (enX dC dI ob ad cA) (aX ob ad sz)) 0 0 (aX ob ad sz) := by
  refine Met.ofW (cc := cX10_tellOf) (maxL := 3) (ret := (some .int)) (by decide) rfl ?_
  intro p e s m args below meth c s₁ B hml hv
  obtain ⟨rfl, hsz, hP, hK⟩ := hv
  have hx := B.exec
  have hb := B.bytes
  have hr := B.returns
  have hts := atoms_spec (ws := (.code yX10_tellOf cX10_tellOf 3 (some .int) :: lw_good)) B.pre
  have htg : ∀ w ∈ lw_good, w.before _ s = true := fun w hw => hts w (List.mem_cons_of_mem _ hw)
  have hown : s.vm.findClass RX10 = some m.cls := findClass_of_methodNamed B.named
  have hlocks := B.notSynchronized
  subst hsz
  have hS : va_S (aX ob ad s.heap.size) s.heap s.heap [] := va_S.rf
  have hl := lv_entry ([.ref (ob 4), .int ww, .int b]) (n := 3) (Nat.le_of_ble_eq_true rfl)
  rw [lg_entry_eq]
  generalize (lg_sl ([.ref (ob 4), .int ww, .int b]) ++ List.replicate (3 - (lg_sl ([.ref (ob 4), .int ww, .int b])).length) Slot.unset).toArray = ls at hl ⊢
  have hl : lv_has ls 3 [(0, .ref (ob 4)), (1, .int ww), (2, .int b)] := hl
  refine lv_iload_n hx hb dX10_tellOf_0 rfl (lv_at hl 2 rfl) ?_
  rcases ix_sw_0_4 b with w_1 | w_1 | w_1 | w_1 | w_1 | w_1
  · skip
    refine lv_tableOut (tgt := 60) hx hb dX10_tellOf_1 (Or.inl w_1) (by decide) ?_
    refine lv_iconst (v := (-1)) hx hb dX10_tellOf_60 (by decide) ?_
    have z_2 : ((-1) : Int32).toInt = (-1) := by decide
    exact W.iret (v := (-1)) hx hb hr (fun t ht hW => ⟨⟨(-1), (fv, wd, ar), rfl, ⟨hF_fv, hA_ar, (fM_rf [] _), (fA_rf [] _), rfl, (show ((-1) : Int32) = mo_w4 b.toInt (ar 25 (ww.toInt.toNat)) (ar 26 (ww.toInt.toNat)) (ar 24 (ww.toInt.toNat)) (ar 27 (ww.toInt.toNat)) from by have hz0 : (0 : Int32).toInt = 0 := (by decide); have hz1 : (1 : Int32).toInt = 1 := (by decide); unfold mo_w4; rw [if_neg (by omega), if_neg (by omega), if_neg (by omega), if_neg (by omega)]), trivial⟩, ⟨by rw [ht]; exact hP, va_K.moved hW.alike hK⟩⟩, hS.F ht⟩) hS.2.2 dX10_tellOf_61
  · skip
    refine lv_tableOut (tgt := 60) hx hb dX10_tellOf_1 (Or.inr w_1) (by decide) ?_
    refine lv_iconst (v := (-1)) hx hb dX10_tellOf_60 (by decide) ?_
    have z_3 : ((-1) : Int32).toInt = (-1) := by decide
    exact W.iret (v := (-1)) hx hb hr (fun t ht hW => ⟨⟨(-1), (fv, wd, ar), rfl, ⟨hF_fv, hA_ar, (fM_rf [] _), (fA_rf [] _), rfl, (show ((-1) : Int32) = mo_w4 b.toInt (ar 25 (ww.toInt.toNat)) (ar 26 (ww.toInt.toNat)) (ar 24 (ww.toInt.toNat)) (ar 27 (ww.toInt.toNat)) from by have hz0 : (0 : Int32).toInt = 0 := (by decide); have hz1 : (1 : Int32).toInt = 1 := (by decide); unfold mo_w4; rw [if_neg (by omega), if_neg (by omega), if_neg (by omega), if_neg (by omega)]), trivial⟩, ⟨by rw [ht]; exact hP, va_K.moved hW.alike hK⟩⟩, hS.F ht⟩) hS.2.2 dX10_tellOf_61
  · skip
    refine lv_tableIn (off := 31) (tgt := 32) hx hb dX10_tellOf_1 (by rw [w_1]; decide) (by rw [w_1]; decide) (by rw [w_1]; rfl) (by decide) ?_
    refine lv_aload_n hx hb dX10_tellOf_32 rfl (lv_at hl 0 rfl) ?_
    refine gX_X10_27 hx hb htg hown hK hP dX10_tellOf_33 ?_
    refine lv_iload_n hx hb dX10_tellOf_36 rfl (lv_at hl 1 rfl) ?_
    refine lX_25 hx hb hK hP (iv_in h_ww (by decide) (by decide)) dX10_tellOf_37 (fun v_4 ev_4 => ?_)
    exact W.iret (v := v_4) hx hb hr (fun t ht hW => ⟨⟨v_4, (fv, wd, ar), rfl, ⟨hF_fv, hA_ar, (fM_rf [] _), (fA_rf [] _), rfl, (show v_4 = mo_w4 b.toInt (ar 25 (ww.toInt.toNat)) (ar 26 (ww.toInt.toNat)) (ar 24 (ww.toInt.toNat)) (ar 27 (ww.toInt.toNat)) from by have hz0 : (0 : Int32).toInt = 0 := (by decide); have hz1 : (1 : Int32).toInt = 1 := (by decide); have hk9 : b.toInt = 0 := (congrArg Int32.toInt (by assumption : b = (0 : Int32))).trans (by decide); unfold mo_w4; rw [if_pos (by omega)]; exact (show v_4 = ar 25 (ww.toInt.toNat) from by rw [ev_4]; exact congrArg (ar 25) (show ww.toInt.toNat = (ww.toInt.toNat) from by omega))), trivial⟩, ⟨by rw [ht]; exact hP, va_K.moved hW.alike hK⟩⟩, hS.F ht⟩) hS.2.2 dX10_tellOf_38
  · skip
    refine lv_tableIn (off := 38) (tgt := 39) hx hb dX10_tellOf_1 (by rw [w_1]; decide) (by rw [w_1]; decide) (by rw [w_1]; rfl) (by decide) ?_
    refine lv_aload_n hx hb dX10_tellOf_39 rfl (lv_at hl 0 rfl) ?_
    refine gX_X10_30 hx hb htg hown hK hP dX10_tellOf_40 ?_
    refine lv_iload_n hx hb dX10_tellOf_43 rfl (lv_at hl 1 rfl) ?_
    refine lX_26 hx hb hK hP (iv_in h_ww (by decide) (by decide)) dX10_tellOf_44 (fun v_5 ev_5 => ?_)
    exact W.iret (v := v_5) hx hb hr (fun t ht hW => ⟨⟨v_5, (fv, wd, ar), rfl, ⟨hF_fv, hA_ar, (fM_rf [] _), (fA_rf [] _), rfl, (show v_5 = mo_w4 b.toInt (ar 25 (ww.toInt.toNat)) (ar 26 (ww.toInt.toNat)) (ar 24 (ww.toInt.toNat)) (ar 27 (ww.toInt.toNat)) from by have hz0 : (0 : Int32).toInt = 0 := (by decide); have hz1 : (1 : Int32).toInt = 1 := (by decide); have hk9 : b.toInt = 1 := (congrArg Int32.toInt (by assumption : b = (1 : Int32))).trans (by decide); unfold mo_w4; rw [if_neg (by omega), if_pos (by omega)]; exact (show v_5 = ar 26 (ww.toInt.toNat) from by rw [ev_5]; exact congrArg (ar 26) (show ww.toInt.toNat = (ww.toInt.toNat) from by omega))), trivial⟩, ⟨by rw [ht]; exact hP, va_K.moved hW.alike hK⟩⟩, hS.F ht⟩) hS.2.2 dX10_tellOf_45
  · skip
    refine lv_tableIn (off := 45) (tgt := 46) hx hb dX10_tellOf_1 (by rw [w_1]; decide) (by rw [w_1]; decide) (by rw [w_1]; rfl) (by decide) ?_
    refine lv_aload_n hx hb dX10_tellOf_46 rfl (lv_at hl 0 rfl) ?_
    refine gX_X10_24 hx hb htg hown hK hP dX10_tellOf_47 ?_
    refine lv_iload_n hx hb dX10_tellOf_50 rfl (lv_at hl 1 rfl) ?_
    refine lX_24 hx hb hK hP (iv_in h_ww (by decide) (by decide)) dX10_tellOf_51 (fun v_6 ev_6 => ?_)
    exact W.iret (v := v_6) hx hb hr (fun t ht hW => ⟨⟨v_6, (fv, wd, ar), rfl, ⟨hF_fv, hA_ar, (fM_rf [] _), (fA_rf [] _), rfl, (show v_6 = mo_w4 b.toInt (ar 25 (ww.toInt.toNat)) (ar 26 (ww.toInt.toNat)) (ar 24 (ww.toInt.toNat)) (ar 27 (ww.toInt.toNat)) from by have hz0 : (0 : Int32).toInt = 0 := (by decide); have hz1 : (1 : Int32).toInt = 1 := (by decide); have hk9 : b.toInt = 2 := (congrArg Int32.toInt (by assumption : b = (2 : Int32))).trans (by decide); unfold mo_w4; rw [if_neg (by omega), if_neg (by omega), if_pos (by omega)]; exact (show v_6 = ar 24 (ww.toInt.toNat) from by rw [ev_6]; exact congrArg (ar 24) (show ww.toInt.toNat = (ww.toInt.toNat) from by omega))), trivial⟩, ⟨by rw [ht]; exact hP, va_K.moved hW.alike hK⟩⟩, hS.F ht⟩) hS.2.2 dX10_tellOf_52
  · skip
    refine lv_tableIn (off := 52) (tgt := 53) hx hb dX10_tellOf_1 (by rw [w_1]; decide) (by rw [w_1]; decide) (by rw [w_1]; rfl) (by decide) ?_
    refine lv_aload_n hx hb dX10_tellOf_53 rfl (lv_at hl 0 rfl) ?_
    refine gX_X10_33 hx hb htg hown hK hP dX10_tellOf_54 ?_
    refine lv_iload_n hx hb dX10_tellOf_57 rfl (lv_at hl 1 rfl) ?_
    refine lX_27 hx hb hK hP (iv_in h_ww (by decide) (by decide)) dX10_tellOf_58 (fun v_7 ev_7 => ?_)
    exact W.iret (v := v_7) hx hb hr (fun t ht hW => ⟨⟨v_7, (fv, wd, ar), rfl, ⟨hF_fv, hA_ar, (fM_rf [] _), (fA_rf [] _), rfl, (show v_7 = mo_w4 b.toInt (ar 25 (ww.toInt.toNat)) (ar 26 (ww.toInt.toNat)) (ar 24 (ww.toInt.toNat)) (ar 27 (ww.toInt.toNat)) from by have hz0 : (0 : Int32).toInt = 0 := (by decide); have hz1 : (1 : Int32).toInt = 1 := (by decide); have hk9 : b.toInt = 3 := (congrArg Int32.toInt (by assumption : b = (3 : Int32))).trans (by decide); unfold mo_w4; rw [if_neg (by omega), if_neg (by omega), if_neg (by omega), if_pos (by omega)]; exact (show v_7 = ar 27 (ww.toInt.toNat) from by rw [ev_7]; exact congrArg (ar 27) (show ww.toInt.toNat = (ww.toInt.toNat) from by omega))), trivial⟩, ⟨by rw [ht]; exact hP, va_K.moved hW.alike hK⟩⟩, hS.F ht⟩) hS.2.2 dX10_tellOf_59
set_option maxHeartbeats 4000000 in
set_option maxRecDepth 100000 in
theorem x_wheeledE (l : Launch) (dC : Nat → ClassId) (dI : Nat → Nat → Nat) (sz : Nat) (ob ad : Nat → Nat) (cA : Nat → ClassId) (hd : dX ob ad) (fv : Nat → Int32) (wd : xT) (ar : Nat → Nat → Int32) (hF_fv : rX fv) (hA_ar : rB ar) (a : Int32) (b : Int32) : Met l yX11_wheeled (.code yX11_wheeled cX11_wheeled 3 (some .int) :: lw_good) ({ frames := 3, cells := 0, slots := 0, locals := 62 }) (va_Pc [.ref (ob 0), .int a, .int b] (prX dC dI ob ad cA fv wd ar sz)) (va_Qi (fun (r : Int32) (u : xS) => rX u.1 ∧ rB u.2.2 ∧ fM [] fv u.1 ∧ fA [] ar u.2.2 ∧ u.2.1.2 = wd.2 ∧ (((a.toInt < 0 ∨ (fv 11).toInt ≤ a.toInt) ∧ r = -1) ∨ (¬ (a.toInt < 0 ∨ (fv 11).toInt ≤ a.toInt) ∧ r = mo_w4 b.toInt (ar 25 (a.toInt.toNat)) (ar 26 (a.toInt.toNat)) (ar 24 (a.toInt.toNat)) (ar 27 (a.toInt.toNat)))) ∧ True) (enX dC dI ob ad cA) (aX ob ad sz)) 0 0 (aX ob ad sz) := by
  refine Met.ofW (cc := cX11_wheeled) (maxL := 3) (ret := (some .int)) (by decide) rfl ?_
  intro p e s m args below meth c s₁ B hml hv
  obtain ⟨rfl, hsz, hP, hK⟩ := hv
  have hx := B.exec
  have hb := B.bytes
  have hr := B.returns
  have hts := atoms_spec (ws := (.code yX11_wheeled cX11_wheeled 3 (some .int) :: lw_good)) B.pre
  have htg : ∀ w ∈ lw_good, w.before _ s = true := fun w hw => hts w (List.mem_cons_of_mem _ hw)
  have hown : s.vm.findClass RX11 = some m.cls := findClass_of_methodNamed B.named
  have hlocks := B.notSynchronized
  subst hsz
  have hS : va_S (aX ob ad s.heap.size) s.heap s.heap [] := va_S.rf
  have hl := lv_entry ([.ref (ob 0), .int a, .int b]) (n := 3) (Nat.le_of_ble_eq_true rfl)
  rw [lg_entry_eq]
  generalize (lg_sl ([.ref (ob 0), .int a, .int b]) ++ List.replicate (3 - (lg_sl ([.ref (ob 0), .int a, .int b])).length) Slot.unset).toArray = ls at hl ⊢
  have hl : lv_has ls 3 [(0, .ref (ob 0)), (1, .int a), (2, .int b)] := hl
  refine lv_aload_n hx hb dX11_wheeled_0 rfl (lv_at hl 0 rfl) ?_
  refine gX_X11_16 hx hb htg hown hK hP dX11_wheeled_1 ?_
  refine gX_X11_101 hx hb htg hown hK hP dX11_wheeled_4 ?_
  refine lv_iload_n hx hb dX11_wheeled_7 rfl (lv_at hl 1 rfl) ?_
  have z_1 : 0 ≤ (fv 11).toInt ∧ (fv 11).toInt ≤ 20 := hF_fv 11
  refine va_calli (va_runV (As := [.int a]) (rest := []) ⟨hx, hb, hml, hown, hts⟩ (x_wheels_hasE l dC dI s.heap.size ob ad cA hd fv wd ar hF_fv hA_ar a) (cwV 1 hts (gV kw_3_198 kw_3_199 kw_3_200 kw_1_5 kw_3_201) rfl rfl rfl (by decide +kernel) ⟨Nat.le_of_ble_eq_true rfl, Nat.le_of_ble_eq_true rfl⟩) ⟨fun a U g mk q => ⟨q.1, q.2.1, q.2.2.1, va_K.moved (u := U) (U := U.calling g mk a) (Vm.Alike.refl U.vm) q.2.2.2⟩, va_recv hK hP (ci := 10) (q0 := 4) rfl rfl, fun U hU hW => ⟨rfl, by rw [hU], by rw [hU]; exact hP, va_K.moved hW.alike hK⟩⟩ rfl rfl hl.1 rfl (lv_room (Nat.le_of_ble_eq_true rfl)) dX11_wheeled_8 ⟨Nat.le_of_ble_eq_true rfl, Nat.le_of_ble_eq_true rfl⟩) hS (fun q _ h9 => aX_up hS q h9) (aX_up hS) (fun r_2 u t H1 locs ht _ hw hB _ hk1 hS => ?_)
  obtain ⟨fv_5, wd_6, ar_7⟩ := u
  obtain ⟨hF_fv_5, hA_ar_7, fr_8, fa_9, wf_10, p_3, p_4, -⟩ := hw
  have wf_10 : wd_6.2 = wd.2 := wf_10
  have hP : va_P (dC, dI) vwCl (wsX ob ad cA fv_5 wd_6 ar_7) H1 := by have h9 := hB.1; rw [ht] at h9; exact h9
  have fr_8 : fM [] fv fv_5 := fr_8
  have fa_9 : fA [] ar ar_7 := fa_9
  generalize H1 = H at hP hS ⊢
  rcases p_4 with ⟨rfl, p_4⟩ | ⟨rfl, p_4⟩
  · skip
    have q_11 : a.toInt < 0 ∨ (fv 11).toInt ≤ a.toInt := p_4
    refine lv_if_eq (tgt := 29) hx hb dX11_wheeled_11 (by decide) (fun c_12 => ?_) (fun c_12 => ?_)
    · skip
      refine lv_iconst (v := (-1)) hx hb dX11_wheeled_29 (by decide) ?_
      have z_13 : ((-1) : Int32).toInt = (-1) := by decide
      exact W.iret (v := (-1)) hx hb hr (fun t ht hW => ⟨⟨(-1), (fv_5, wd_6, ar_7), rfl, ⟨hF_fv_5, hA_ar_7, (fM_call (fM_rf [] _) fr_8 (by decide)), (fA_call (fA_rf [] _) fa_9 (by decide)), wf_10, (show ((a.toInt < 0 ∨ (fv 11).toInt ≤ a.toInt) ∧ ((-1) : Int32) = -1) ∨ (¬ (a.toInt < 0 ∨ (fv 11).toInt ≤ a.toInt) ∧ ((-1) : Int32) = mo_w4 b.toInt (ar 25 (a.toInt.toNat)) (ar 26 (a.toInt.toNat)) (ar 24 (a.toInt.toNat)) (ar 27 (a.toInt.toNat))) from by have hz0 : (0 : Int32).toInt = 0 := (by decide); have hz1 : (1 : Int32).toInt = 1 := (by decide); exact Or.inl ⟨by omega, rfl⟩), trivial⟩, ⟨by rw [ht]; exact hP, va_K.moved hW.alike hK⟩⟩, hS.F ht⟩) hS.2.2 dX11_wheeled_30
    · skip
      exact absurd c_12 (by decide)
  · skip
    have i_14 : 0 ≤ a.toInt ∧ a.toInt ≤ 2147483647 := ⟨p_4.1, (iv_any a).2⟩
    have i_15 : 0 ≤ a.toInt ∧ a.toInt ≤ 19 := ⟨i_14.1, p_4.2.1⟩
    have q_16 : a.toInt < (fv 11).toInt := p_4.2.2
    refine lv_if_eq (tgt := 29) hx hb dX11_wheeled_11 (by decide) (fun c_17 => ?_) (fun c_17 => ?_)
    · skip
      exact absurd c_17 (by decide)
    · skip
      refine lv_aload_n hx hb dX11_wheeled_14 rfl (lv_at hl 0 rfl) ?_
      refine gX_X11_16 hx hb htg hown hK hP dX11_wheeled_15 ?_
      refine gX_X11_101 hx hb htg hown hK hP dX11_wheeled_18 ?_
      refine lv_iload_n hx hb dX11_wheeled_21 rfl (lv_at hl 1 rfl) ?_
      refine lv_iload_n hx hb dX11_wheeled_22 rfl (lv_at hl 2 rfl) ?_
      refine va_calli (va_runV (As := [.int a, .int b]) (rest := []) ⟨hx, hb, hml, hown, hts⟩ (x_wtellE l dC dI H.size ob ad cA hd fv_5 wd_6 ar_7 hF_fv_5 hA_ar_7 a b i_15) (cwV 2 hts (gV kw_5_229 kw_5_230 kw_5_231 kw_1_5 kw_5_232) rfl rfl rfl (by decide +kernel) ⟨Nat.le_of_ble_eq_true rfl, Nat.le_of_ble_eq_true rfl⟩) ⟨fun a U g mk q => ⟨q.1, q.2.1, q.2.2.1, va_K.moved (u := U) (U := U.calling g mk a) (Vm.Alike.refl U.vm) q.2.2.2⟩, va_recv hK hP (ci := 10) (q0 := 4) rfl rfl, fun U hU hW => ⟨rfl, by rw [hU], by rw [hU]; exact hP, va_K.moved hW.alike hK⟩⟩ rfl rfl hl.1 rfl (lv_room (Nat.le_of_ble_eq_true rfl)) dX11_wheeled_23 ⟨Nat.le_of_ble_eq_true rfl, Nat.le_of_ble_eq_true rfl⟩) hS (fun q _ h9 => aX_up hS q h9) (aX_up hS) (fun r_18 u t H1 locs ht _ hw hB _ hk1 hS => ?_)
      obtain ⟨fv_20, wd_21, ar_22⟩ := u
      obtain ⟨hF_fv_20, hA_ar_22, fr_23, fa_24, wf_25, p_19, -⟩ := hw
      have wf_25 : wd_21.2 = wd_6.2 := wf_25
      have hP : va_P (dC, dI) vwCl (wsX ob ad cA fv_20 wd_21 ar_22) H1 := by have h9 := hB.1; rw [ht] at h9; exact h9
      have fr_23 : fM [] fv_5 fv_20 := fr_23
      have fa_24 : fA [] ar_7 ar_22 := fa_24
      have p_19 : r_18 = mo_w4 b.toInt (ar_7 25 (a.toInt.toNat)) (ar_7 26 (a.toInt.toNat)) (ar_7 24 (a.toInt.toNat)) (ar_7 27 (a.toInt.toNat)) := p_19
      generalize H1 = H at hP hS ⊢
      refine lv_goto (tgt := 30) hx hb dX11_wheeled_26 (by decide) ?_
      exact W.iret (v := r_18) hx hb hr (fun t ht hW => ⟨⟨r_18, (fv_20, wd_21, ar_22), rfl, ⟨hF_fv_20, hA_ar_22, (fM_call (fM_call (fM_rf [] _) fr_8 (by decide)) fr_23 (by decide)), (fA_call (fA_call (fA_rf [] _) fa_9 (by decide)) fa_24 (by decide)), (wf_25.trans wf_10), (show ((a.toInt < 0 ∨ (fv 11).toInt ≤ a.toInt) ∧ r_18 = -1) ∨ (¬ (a.toInt < 0 ∨ (fv 11).toInt ≤ a.toInt) ∧ r_18 = mo_w4 b.toInt (ar 25 (a.toInt.toNat)) (ar 26 (a.toInt.toNat)) (ar 24 (a.toInt.toNat)) (ar 27 (a.toInt.toNat))) from by have hz0 : (0 : Int32).toInt = 0 := (by decide); have hz1 : (1 : Int32).toInt = 1 := (by decide); exact Or.inr ⟨by omega, by have h9 := p_19; rw [show ar_7 25 = ar 25 from ((fA_call (fA_rf [] _) fa_9 (by decide)) 25 rfl), show ar_7 26 = ar 26 from ((fA_call (fA_rf [] _) fa_9 (by decide)) 26 rfl), show ar_7 24 = ar 24 from ((fA_call (fA_rf [] _) fa_9 (by decide)) 24 rfl), show ar_7 27 = ar 27 from ((fA_call (fA_rf [] _) fa_9 (by decide)) 27 rfl)] at h9; exact h9⟩), trivial⟩, ⟨by rw [ht]; exact hP, va_K.moved hW.alike hK⟩⟩, hS.F ht⟩) hS.2.2 dX11_wheeled_30
set_option maxHeartbeats 4000000 in
set_option maxRecDepth 100000 in
theorem x_rodeE (l : Launch) (dC : Nat → ClassId) (dI : Nat → Nat → Nat) (sz : Nat) (ob ad : Nat → Nat) (cA : Nat → ClassId) (hd : dX ob ad) (fv : Nat → Int32) (wd : xT) (ar : Nat → Nat → Int32) (hF_fv : rX fv) (hA_ar : rB ar) (a : Int32) : Met l yX11_rode (.code yX11_rode cX11_rode 2 (some .int) :: lw_good) ({ frames := 3, cells := 0, slots := 0, locals := 61 }) (va_Pc [.ref (ob 0), .int a] (prX dC dI ob ad cA fv wd ar sz)) (va_Qi (fun (r : Int32) (u : xS) => rX u.1 ∧ rB u.2.2 ∧ fM [] fv u.1 ∧ fA [] ar u.2.2 ∧ u.2.1.2 = wd.2 ∧ (((a.toInt < 0 ∨ (fv 12).toInt ≤ a.toInt) ∧ r = -1) ∨ (¬ (a.toInt < 0 ∨ (fv 12).toInt ≤ a.toInt) ∧ r = ar 35 (a.toInt.toNat))) ∧ True) (enX dC dI ob ad cA) (aX ob ad sz)) 0 0 (aX ob ad sz) := by
  refine Met.ofW (cc := cX11_rode) (maxL := 2) (ret := (some .int)) (by decide) rfl ?_
  intro p e s m args below meth c s₁ B hml hv
  obtain ⟨rfl, hsz, hP, hK⟩ := hv
  have hx := B.exec
  have hb := B.bytes
  have hr := B.returns
  have hts := atoms_spec (ws := (.code yX11_rode cX11_rode 2 (some .int) :: lw_good)) B.pre
  have htg : ∀ w ∈ lw_good, w.before _ s = true := fun w hw => hts w (List.mem_cons_of_mem _ hw)
  have hown : s.vm.findClass RX11 = some m.cls := findClass_of_methodNamed B.named
  have hlocks := B.notSynchronized
  subst hsz
  have hS : va_S (aX ob ad s.heap.size) s.heap s.heap [] := va_S.rf
  have hl := lv_entry ([.ref (ob 0), .int a]) (n := 2) (Nat.le_of_ble_eq_true rfl)
  rw [lg_entry_eq]
  generalize (lg_sl ([.ref (ob 0), .int a]) ++ List.replicate (2 - (lg_sl ([.ref (ob 0), .int a])).length) Slot.unset).toArray = ls at hl ⊢
  have hl : lv_has ls 2 [(0, .ref (ob 0)), (1, .int a)] := hl
  refine lv_aload_n hx hb dX11_rode_0 rfl (lv_at hl 0 rfl) ?_
  refine gX_X11_16 hx hb htg hown hK hP dX11_rode_1 ?_
  refine gX_X11_116 hx hb htg hown hK hP dX11_rode_4 ?_
  refine lv_iload_n hx hb dX11_rode_7 rfl (lv_at hl 1 rfl) ?_
  have z_1 : 0 ≤ (fv 12).toInt ∧ (fv 12).toInt ≤ 80 := hF_fv 12
  refine va_calli (va_runV (As := [.int a]) (rest := []) ⟨hx, hb, hml, hown, hts⟩ (x_trips_hasE l dC dI s.heap.size ob ad cA hd fv wd ar hF_fv hA_ar a) (cwV 1 hts (gV kw_4_237 kw_4_238 kw_4_239 kw_1_6 kw_5_0) rfl rfl rfl (by decide +kernel) ⟨Nat.le_of_ble_eq_true rfl, Nat.le_of_ble_eq_true rfl⟩) ⟨fun a U g mk q => ⟨q.1, q.2.1, q.2.2.1, va_K.moved (u := U) (U := U.calling g mk a) (Vm.Alike.refl U.vm) q.2.2.2⟩, va_recv hK hP (ci := 8) (q0 := 5) rfl rfl, fun U hU hW => ⟨rfl, by rw [hU], by rw [hU]; exact hP, va_K.moved hW.alike hK⟩⟩ rfl rfl hl.1 rfl (lv_room (Nat.le_of_ble_eq_true rfl)) dX11_rode_8 ⟨Nat.le_of_ble_eq_true rfl, Nat.le_of_ble_eq_true rfl⟩) hS (fun q _ h9 => aX_up hS q h9) (aX_up hS) (fun r_2 u t H1 locs ht _ hw hB _ hk1 hS => ?_)
  obtain ⟨fv_5, wd_6, ar_7⟩ := u
  obtain ⟨hF_fv_5, hA_ar_7, fr_8, fa_9, wf_10, p_3, p_4, -⟩ := hw
  have wf_10 : wd_6.2 = wd.2 := wf_10
  have hP : va_P (dC, dI) vwCl (wsX ob ad cA fv_5 wd_6 ar_7) H1 := by have h9 := hB.1; rw [ht] at h9; exact h9
  have fr_8 : fM [] fv fv_5 := fr_8
  have fa_9 : fA [] ar ar_7 := fa_9
  generalize H1 = H at hP hS ⊢
  rcases p_4 with ⟨rfl, p_4⟩ | ⟨rfl, p_4⟩
  · skip
    have q_11 : a.toInt < 0 ∨ (fv 12).toInt ≤ a.toInt := p_4
    refine lv_if_eq (tgt := 29) hx hb dX11_rode_11 (by decide) (fun c_12 => ?_) (fun c_12 => ?_)
    · skip
      refine lv_iconst (v := (-1)) hx hb dX11_rode_29 (by decide) ?_
      have z_13 : ((-1) : Int32).toInt = (-1) := by decide
      exact W.iret (v := (-1)) hx hb hr (fun t ht hW => ⟨⟨(-1), (fv_5, wd_6, ar_7), rfl, ⟨hF_fv_5, hA_ar_7, (fM_call (fM_rf [] _) fr_8 (by decide)), (fA_call (fA_rf [] _) fa_9 (by decide)), wf_10, (show ((a.toInt < 0 ∨ (fv 12).toInt ≤ a.toInt) ∧ ((-1) : Int32) = -1) ∨ (¬ (a.toInt < 0 ∨ (fv 12).toInt ≤ a.toInt) ∧ ((-1) : Int32) = ar 35 (a.toInt.toNat)) from by have hz0 : (0 : Int32).toInt = 0 := (by decide); have hz1 : (1 : Int32).toInt = 1 := (by decide); exact Or.inl ⟨by omega, rfl⟩), trivial⟩, ⟨by rw [ht]; exact hP, va_K.moved hW.alike hK⟩⟩, hS.F ht⟩) hS.2.2 dX11_rode_30
    · skip
      exact absurd c_12 (by decide)
  · skip
    have i_14 : 0 ≤ a.toInt ∧ a.toInt ≤ 2147483647 := ⟨p_4.1, (iv_any a).2⟩
    have i_15 : 0 ≤ a.toInt ∧ a.toInt ≤ 79 := ⟨i_14.1, p_4.2.1⟩
    have q_16 : a.toInt < (fv 12).toInt := p_4.2.2
    refine lv_if_eq (tgt := 29) hx hb dX11_rode_11 (by decide) (fun c_17 => ?_) (fun c_17 => ?_)
    · skip
      exact absurd c_17 (by decide)
    · skip
      refine lv_aload_n hx hb dX11_rode_14 rfl (lv_at hl 0 rfl) ?_
      refine gX_X11_16 hx hb htg hown hK hP dX11_rode_15 ?_
      refine gX_X11_116 hx hb htg hown hK hP dX11_rode_18 ?_
      refine gX_X11_217 hx hb htg hown hK hP dX11_rode_21 ?_
      refine lv_iload_n hx hb dX11_rode_24 rfl (lv_at hl 1 rfl) ?_
      refine lX_35 hx hb hK hP (iv_in i_15 (by decide) (by decide)) dX11_rode_25 (fun v_18 ev_18 => ?_)
      refine lv_goto (tgt := 30) hx hb dX11_rode_26 (by decide) ?_
      exact W.iret (v := v_18) hx hb hr (fun t ht hW => ⟨⟨v_18, (fv_5, wd_6, ar_7), rfl, ⟨hF_fv_5, hA_ar_7, (fM_call (fM_rf [] _) fr_8 (by decide)), (fA_call (fA_rf [] _) fa_9 (by decide)), wf_10, (show ((a.toInt < 0 ∨ (fv 12).toInt ≤ a.toInt) ∧ v_18 = -1) ∨ (¬ (a.toInt < 0 ∨ (fv 12).toInt ≤ a.toInt) ∧ v_18 = ar 35 (a.toInt.toNat)) from by have hz0 : (0 : Int32).toInt = 0 := (by decide); have hz1 : (1 : Int32).toInt = 1 := (by decide); exact Or.inr ⟨by omega, (show v_18 = ar 35 (a.toInt.toNat) from by rw [ev_18, show ar_7 35 = ar 35 from ((fA_call (fA_rf [] _) fa_9 (by decide)) 35 rfl)]; exact congrArg (ar 35) (show a.toInt.toNat = (a.toInt.toNat) from by omega))⟩), trivial⟩, ⟨by rw [ht]; exact hP, va_K.moved hW.alike hK⟩⟩, hS.F ht⟩) hS.2.2 dX11_rode_30
set_option maxHeartbeats 4000000 in
set_option maxRecDepth 100000 in
theorem x_countE (l : Launch) (dC : Nat → ClassId) (dI : Nat → Nat → Nat) (sz : Nat) (ob ad : Nat → Nat) (cA : Nat → ClassId) (hd : dX ob ad) (fv : Nat → Int32) (wd : xT) (ar : Nat → Nat → Int32) (hF_fv : rX fv) (hA_ar : rB ar) (a : Int32) : Met l yX11_count (.code yX11_count cX11_count 2 (some .int) :: lw_good) ({ frames := 3, cells := 0, slots := 0, locals := 60 }) (va_Pc [.ref (ob 0), .int a] (prX dC dI ob ad cA fv wd ar sz)) (va_Qi (fun (r : Int32) (u : xS) => rX u.1 ∧ rB u.2.2 ∧ fM [] fv u.1 ∧ fA [] ar u.2.2 ∧ u.2.1.2 = wd.2 ∧ (r = mo_c8 a.toInt (fv 7) (fv 10) (fv 4) (fv 11) (fv 12) (fv 30) (fv 8) (fv 0)) ∧ True) (enX dC dI ob ad cA) (aX ob ad sz)) 0 0 (aX ob ad sz) := by
  refine Met.ofW (cc := cX11_count) (maxL := 2) (ret := (some .int)) (by decide) rfl ?_
  intro p e s m args below meth c s₁ B hml hv
  obtain ⟨rfl, hsz, hP, hK⟩ := hv
  have hx := B.exec
  have hb := B.bytes
  have hr := B.returns
  have hts := atoms_spec (ws := (.code yX11_count cX11_count 2 (some .int) :: lw_good)) B.pre
  have htg : ∀ w ∈ lw_good, w.before _ s = true := fun w hw => hts w (List.mem_cons_of_mem _ hw)
  have hown : s.vm.findClass RX11 = some m.cls := findClass_of_methodNamed B.named
  have hlocks := B.notSynchronized
  subst hsz
  have hS : va_S (aX ob ad s.heap.size) s.heap s.heap [] := va_S.rf
  have hl := lv_entry ([.ref (ob 0), .int a]) (n := 2) (Nat.le_of_ble_eq_true rfl)
  rw [lg_entry_eq]
  generalize (lg_sl ([.ref (ob 0), .int a]) ++ List.replicate (2 - (lg_sl ([.ref (ob 0), .int a])).length) Slot.unset).toArray = ls at hl ⊢
  have hl : lv_has ls 2 [(0, .ref (ob 0)), (1, .int a)] := hl
  refine lv_iload_n hx hb dX11_count_0 rfl (lv_at hl 1 rfl) ?_
  rcases ix_sw_0_8 a with w_1 | w_1 | w_1 | w_1 | w_1 | w_1 | w_1 | w_1 | w_1 | w_1
  · skip
    refine lv_tableOut (tgt := 121) hx hb dX11_count_1 (Or.inl w_1) (by decide) ?_
    refine lv_iconst (v := (-1)) hx hb dX11_count_121 (by decide) ?_
    have z_2 : ((-1) : Int32).toInt = (-1) := by decide
    exact W.iret (v := (-1)) hx hb hr (fun t ht hW => ⟨⟨(-1), (fv, wd, ar), rfl, ⟨hF_fv, hA_ar, (fM_rf [] _), (fA_rf [] _), rfl, (show ((-1) : Int32) = mo_c8 a.toInt (fv 7) (fv 10) (fv 4) (fv 11) (fv 12) (fv 30) (fv 8) (fv 0) from by have hz0 : (0 : Int32).toInt = 0 := (by decide); have hz1 : (1 : Int32).toInt = 1 := (by decide); unfold mo_c8; rw [if_neg (by omega), if_neg (by omega), if_neg (by omega), if_neg (by omega), if_neg (by omega), if_neg (by omega), if_neg (by omega), if_neg (by omega)]), trivial⟩, ⟨by rw [ht]; exact hP, va_K.moved hW.alike hK⟩⟩, hS.F ht⟩) hS.2.2 dX11_count_122
  · skip
    refine lv_tableOut (tgt := 121) hx hb dX11_count_1 (Or.inr w_1) (by decide) ?_
    refine lv_iconst (v := (-1)) hx hb dX11_count_121 (by decide) ?_
    have z_3 : ((-1) : Int32).toInt = (-1) := by decide
    exact W.iret (v := (-1)) hx hb hr (fun t ht hW => ⟨⟨(-1), (fv, wd, ar), rfl, ⟨hF_fv, hA_ar, (fM_rf [] _), (fA_rf [] _), rfl, (show ((-1) : Int32) = mo_c8 a.toInt (fv 7) (fv 10) (fv 4) (fv 11) (fv 12) (fv 30) (fv 8) (fv 0) from by have hz0 : (0 : Int32).toInt = 0 := (by decide); have hz1 : (1 : Int32).toInt = 1 := (by decide); unfold mo_c8; rw [if_neg (by omega), if_neg (by omega), if_neg (by omega), if_neg (by omega), if_neg (by omega), if_neg (by omega), if_neg (by omega), if_neg (by omega)]), trivial⟩, ⟨by rw [ht]; exact hP, va_K.moved hW.alike hK⟩⟩, hS.F ht⟩) hS.2.2 dX11_count_122
  · skip
    refine lv_tableIn (off := 47) (tgt := 48) hx hb dX11_count_1 (by rw [w_1]; decide) (by rw [w_1]; decide) (by rw [w_1]; rfl) (by decide) ?_
    refine lv_aload_n hx hb dX11_count_48 rfl (lv_at hl 0 rfl) ?_
    refine gX_X11_16 hx hb htg hown hK hP dX11_count_49 ?_
    refine gX_X11_57 hx hb htg hown hK hP dX11_count_52 ?_
    have i_4 : 0 ≤ (fv 7).toInt ∧ (fv 7).toInt ≤ 199 := hF_fv 7
    exact W.iret (v := fv 7) hx hb hr (fun t ht hW => ⟨⟨fv 7, (fv, wd, ar), rfl, ⟨hF_fv, hA_ar, (fM_rf [] _), (fA_rf [] _), rfl, (show (fv 7) = mo_c8 a.toInt (fv 7) (fv 10) (fv 4) (fv 11) (fv 12) (fv 30) (fv 8) (fv 0) from by have hz0 : (0 : Int32).toInt = 0 := (by decide); have hz1 : (1 : Int32).toInt = 1 := (by decide); have hk9 : a.toInt = 0 := (congrArg Int32.toInt (by assumption : a = (0 : Int32))).trans (by decide); unfold mo_c8; rw [if_pos (by omega)]), trivial⟩, ⟨by rw [ht]; exact hP, va_K.moved hW.alike hK⟩⟩, hS.F ht⟩) hS.2.2 dX11_count_55
  · skip
    refine lv_tableIn (off := 55) (tgt := 56) hx hb dX11_count_1 (by rw [w_1]; decide) (by rw [w_1]; decide) (by rw [w_1]; rfl) (by decide) ?_
    refine lv_aload_n hx hb dX11_count_56 rfl (lv_at hl 0 rfl) ?_
    refine gX_X11_16 hx hb htg hown hK hP dX11_count_57 ?_
    refine gX_X11_79 hx hb htg hown hK hP dX11_count_60 ?_
    refine gX_X11_236 hx hb htg hown hK hP dX11_count_63 ?_
    have i_5 : 0 ≤ (fv 10).toInt ∧ (fv 10).toInt ≤ 40 := hF_fv 10
    exact W.iret (v := fv 10) hx hb hr (fun t ht hW => ⟨⟨fv 10, (fv, wd, ar), rfl, ⟨hF_fv, hA_ar, (fM_rf [] _), (fA_rf [] _), rfl, (show (fv 10) = mo_c8 a.toInt (fv 7) (fv 10) (fv 4) (fv 11) (fv 12) (fv 30) (fv 8) (fv 0) from by have hz0 : (0 : Int32).toInt = 0 := (by decide); have hz1 : (1 : Int32).toInt = 1 := (by decide); have hk9 : a.toInt = 1 := (congrArg Int32.toInt (by assumption : a = (1 : Int32))).trans (by decide); unfold mo_c8; rw [if_neg (by omega), if_pos (by omega)]), trivial⟩, ⟨by rw [ht]; exact hP, va_K.moved hW.alike hK⟩⟩, hS.F ht⟩) hS.2.2 dX11_count_66
  · skip
    refine lv_tableIn (off := 66) (tgt := 67) hx hb dX11_count_1 (by rw [w_1]; decide) (by rw [w_1]; decide) (by rw [w_1]; rfl) (by decide) ?_
    refine lv_aload_n hx hb dX11_count_67 rfl (lv_at hl 0 rfl) ?_
    refine gX_X11_16 hx hb htg hown hK hP dX11_count_68 ?_
    refine gX_X11_89 hx hb htg hown hK hP dX11_count_71 ?_
    have i_6 : 0 ≤ (fv 4).toInt ∧ (fv 4).toInt ≤ 8 := hF_fv 4
    exact W.iret (v := fv 4) hx hb hr (fun t ht hW => ⟨⟨fv 4, (fv, wd, ar), rfl, ⟨hF_fv, hA_ar, (fM_rf [] _), (fA_rf [] _), rfl, (show (fv 4) = mo_c8 a.toInt (fv 7) (fv 10) (fv 4) (fv 11) (fv 12) (fv 30) (fv 8) (fv 0) from by have hz0 : (0 : Int32).toInt = 0 := (by decide); have hz1 : (1 : Int32).toInt = 1 := (by decide); have hk9 : a.toInt = 2 := (congrArg Int32.toInt (by assumption : a = (2 : Int32))).trans (by decide); unfold mo_c8; rw [if_neg (by omega), if_neg (by omega), if_pos (by omega)]), trivial⟩, ⟨by rw [ht]; exact hP, va_K.moved hW.alike hK⟩⟩, hS.F ht⟩) hS.2.2 dX11_count_74
  · skip
    refine lv_tableIn (off := 74) (tgt := 75) hx hb dX11_count_1 (by rw [w_1]; decide) (by rw [w_1]; decide) (by rw [w_1]; rfl) (by decide) ?_
    refine lv_aload_n hx hb dX11_count_75 rfl (lv_at hl 0 rfl) ?_
    refine gX_X11_16 hx hb htg hown hK hP dX11_count_76 ?_
    refine gX_X11_101 hx hb htg hown hK hP dX11_count_79 ?_
    refine gX_X11_237 hx hb htg hown hK hP dX11_count_82 ?_
    have i_7 : 0 ≤ (fv 11).toInt ∧ (fv 11).toInt ≤ 20 := hF_fv 11
    exact W.iret (v := fv 11) hx hb hr (fun t ht hW => ⟨⟨fv 11, (fv, wd, ar), rfl, ⟨hF_fv, hA_ar, (fM_rf [] _), (fA_rf [] _), rfl, (show (fv 11) = mo_c8 a.toInt (fv 7) (fv 10) (fv 4) (fv 11) (fv 12) (fv 30) (fv 8) (fv 0) from by have hz0 : (0 : Int32).toInt = 0 := (by decide); have hz1 : (1 : Int32).toInt = 1 := (by decide); have hk9 : a.toInt = 3 := (congrArg Int32.toInt (by assumption : a = (3 : Int32))).trans (by decide); unfold mo_c8; rw [if_neg (by omega), if_neg (by omega), if_neg (by omega), if_pos (by omega)]), trivial⟩, ⟨by rw [ht]; exact hP, va_K.moved hW.alike hK⟩⟩, hS.F ht⟩) hS.2.2 dX11_count_85
  · skip
    refine lv_tableIn (off := 85) (tgt := 86) hx hb dX11_count_1 (by rw [w_1]; decide) (by rw [w_1]; decide) (by rw [w_1]; rfl) (by decide) ?_
    refine lv_aload_n hx hb dX11_count_86 rfl (lv_at hl 0 rfl) ?_
    refine gX_X11_16 hx hb htg hown hK hP dX11_count_87 ?_
    refine gX_X11_116 hx hb htg hown hK hP dX11_count_90 ?_
    refine gX_X11_238 hx hb htg hown hK hP dX11_count_93 ?_
    have i_8 : 0 ≤ (fv 12).toInt ∧ (fv 12).toInt ≤ 80 := hF_fv 12
    exact W.iret (v := fv 12) hx hb hr (fun t ht hW => ⟨⟨fv 12, (fv, wd, ar), rfl, ⟨hF_fv, hA_ar, (fM_rf [] _), (fA_rf [] _), rfl, (show (fv 12) = mo_c8 a.toInt (fv 7) (fv 10) (fv 4) (fv 11) (fv 12) (fv 30) (fv 8) (fv 0) from by have hz0 : (0 : Int32).toInt = 0 := (by decide); have hz1 : (1 : Int32).toInt = 1 := (by decide); have hk9 : a.toInt = 4 := (congrArg Int32.toInt (by assumption : a = (4 : Int32))).trans (by decide); unfold mo_c8; rw [if_neg (by omega), if_neg (by omega), if_neg (by omega), if_neg (by omega), if_pos (by omega)]), trivial⟩, ⟨by rw [ht]; exact hP, va_K.moved hW.alike hK⟩⟩, hS.F ht⟩) hS.2.2 dX11_count_96
  · skip
    refine lv_tableIn (off := 96) (tgt := 97) hx hb dX11_count_1 (by rw [w_1]; decide) (by rw [w_1]; decide) (by rw [w_1]; rfl) (by decide) ?_
    refine lv_aload_n hx hb dX11_count_97 rfl (lv_at hl 0 rfl) ?_
    refine gX_X11_16 hx hb htg hown hK hP dX11_count_98 ?_
    refine gX_X11_154 hx hb htg hown hK hP dX11_count_101 ?_
    have z_9 : 0 ≤ (fv 30).toInt ∧ (fv 30).toInt ≤ 10 := hF_fv 30
    refine va_calli (va_runV (As := []) (rest := []) ⟨hx, hb, hml, hown, hts⟩ (x_alsize l dC dI s.heap.size ob ad cA hd fv wd ar hF_fv hA_ar) (cwV 0 hts (gV kw_4_5 kw_4_6 kw_4_7 kw_1_9 kw_4_8) rfl rfl rfl (by decide +kernel) ⟨Nat.le_of_ble_eq_true rfl, Nat.le_of_ble_eq_true rfl⟩) ⟨fun a U g mk q => ⟨q.1, q.2.1, q.2.2.1, va_K.moved (u := U) (U := U.calling g mk a) (Vm.Alike.refl U.vm) q.2.2.2⟩, va_recv hK hP (ci := 0) (q0 := 11) rfl rfl, fun U hU hW => ⟨rfl, by rw [hU], by rw [hU]; exact hP, va_K.moved hW.alike hK⟩⟩ rfl rfl hl.1 rfl (lv_room (Nat.le_of_ble_eq_true rfl)) dX11_count_104 ⟨Nat.le_of_ble_eq_true rfl, Nat.le_of_ble_eq_true rfl⟩) hS (fun q _ h9 => aX_up hS q h9) (aX_up hS) (fun r_10 u t H1 locs ht _ hw hB _ hk1 hS => ?_)
    obtain ⟨fv_13, wd_14, ar_15⟩ := u
    obtain ⟨hF_fv_13, hA_ar_15, fr_16, fa_17, wf_18, p_11, p_12, -⟩ := hw
    have wf_18 : wd_14.2 = wd.2 := wf_18
    have hP : va_P (dC, dI) vwCl (wsX ob ad cA fv_13 wd_14 ar_15) H1 := by have h9 := hB.1; rw [ht] at h9; exact h9
    have fr_16 : fM [] fv fv_13 := fr_16
    have fa_17 : fA [] ar ar_15 := fa_17
    have p_12 : r_10.toInt = (fv 30).toInt := p_12
    generalize H1 = H at hP hS ⊢
    exact W.iret (v := r_10) hx hb hr (fun t ht hW => ⟨⟨r_10, (fv_13, wd_14, ar_15), rfl, ⟨hF_fv_13, hA_ar_15, (fM_call (fM_rf [] _) fr_16 (by decide)), (fA_call (fA_rf [] _) fa_17 (by decide)), wf_18, (show r_10 = mo_c8 a.toInt (fv 7) (fv 10) (fv 4) (fv 11) (fv 12) (fv 30) (fv 8) (fv 0) from by have hz0 : (0 : Int32).toInt = 0 := (by decide); have hz1 : (1 : Int32).toInt = 1 := (by decide); have hk9 : a.toInt = 5 := (congrArg Int32.toInt (by assumption : a = (5 : Int32))).trans (by decide); unfold mo_c8; rw [if_neg (by omega), if_neg (by omega), if_neg (by omega), if_neg (by omega), if_neg (by omega), if_pos (by omega)]; exact Int32.toInt_inj.mp p_12), trivial⟩, ⟨by rw [ht]; exact hP, va_K.moved hW.alike hK⟩⟩, hS.F ht⟩) hS.2.2 dX11_count_107
  · skip
    refine lv_tableIn (off := 107) (tgt := 108) hx hb dX11_count_1 (by rw [w_1]; decide) (by rw [w_1]; decide) (by rw [w_1]; rfl) (by decide) ?_
    refine lv_aload_n hx hb dX11_count_108 rfl (lv_at hl 0 rfl) ?_
    refine gX_X11_16 hx hb htg hown hK hP dX11_count_109 ?_
    refine gX_X11_145 hx hb htg hown hK hP dX11_count_112 ?_
    exact W.iret (v := fv 8) hx hb hr (fun t ht hW => ⟨⟨fv 8, (fv, wd, ar), rfl, ⟨hF_fv, hA_ar, (fM_rf [] _), (fA_rf [] _), rfl, (show (fv 8) = mo_c8 a.toInt (fv 7) (fv 10) (fv 4) (fv 11) (fv 12) (fv 30) (fv 8) (fv 0) from by have hz0 : (0 : Int32).toInt = 0 := (by decide); have hz1 : (1 : Int32).toInt = 1 := (by decide); have hk9 : a.toInt = 6 := (congrArg Int32.toInt (by assumption : a = (6 : Int32))).trans (by decide); unfold mo_c8; rw [if_neg (by omega), if_neg (by omega), if_neg (by omega), if_neg (by omega), if_neg (by omega), if_neg (by omega), if_pos (by omega)]), trivial⟩, ⟨by rw [ht]; exact hP, va_K.moved hW.alike hK⟩⟩, hS.F ht⟩) hS.2.2 dX11_count_115
  · skip
    refine lv_tableIn (off := 115) (tgt := 116) hx hb dX11_count_1 (by rw [w_1]; decide) (by rw [w_1]; decide) (by rw [w_1]; rfl) (by decide) ?_
    refine lv_aload_n hx hb dX11_count_116 rfl (lv_at hl 0 rfl) ?_
    refine gX_X11_50 hx hb htg hown hK hP dX11_count_117 ?_
    have i_19 : 0 ≤ (fv 0).toInt ∧ (fv 0).toInt ≤ 340 := hF_fv 0
    exact W.iret (v := fv 0) hx hb hr (fun t ht hW => ⟨⟨fv 0, (fv, wd, ar), rfl, ⟨hF_fv, hA_ar, (fM_rf [] _), (fA_rf [] _), rfl, (show (fv 0) = mo_c8 a.toInt (fv 7) (fv 10) (fv 4) (fv 11) (fv 12) (fv 30) (fv 8) (fv 0) from by have hz0 : (0 : Int32).toInt = 0 := (by decide); have hz1 : (1 : Int32).toInt = 1 := (by decide); have hk9 : a.toInt = 7 := (congrArg Int32.toInt (by assumption : a = (7 : Int32))).trans (by decide); unfold mo_c8; rw [if_neg (by omega), if_neg (by omega), if_neg (by omega), if_neg (by omega), if_neg (by omega), if_neg (by omega), if_neg (by omega), if_pos (by omega)]), trivial⟩, ⟨by rw [ht]; exact hP, va_K.moved hW.alike hK⟩⟩, hS.F ht⟩) hS.2.2 dX11_count_120

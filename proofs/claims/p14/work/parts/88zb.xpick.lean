set_option maxHeartbeats 4000000 in
set_option maxRecDepth 100000 in
theorem x_reachesE (l : Launch) (dC : Nat → ClassId) (dI : Nat → Nat → Nat) (sz : Nat) (ob ad : Nat → Nat) (cA : Nat → ClassId) (hd : dX ob ad) (fv : Nat → Int32) (wd : xT) (ar : Nat → Nat → Int32) (hF_fv : rX fv) (hA_ar : rB ar) (pp : Int32) (a : Int32) (b : Int32) (kk : Int32) (h_pp : 0 ≤ pp.toInt ∧ pp.toInt ≤ 39) (h_a : 0 ≤ a.toInt ∧ a.toInt ≤ 11) (h_b : 0 ≤ b.toInt ∧ b.toInt ≤ 840) (h_kk : 0 ≤ kk.toInt ∧ kk.toInt ≤ 79) (hpc : 0 ≤ (ar 64 (pp.toInt.toNat)).toInt ∧ (ar 64 (pp.toInt.toNat)).toInt ≤ 50) (hp_mR : mx_R fv ar) : Met l yX9_reaches (.code yX9_reaches cX9_reaches 6 (some .boolean) :: lw_good) ({ frames := 4, cells := 0, slots := 0, locals := 85 }) (va_Pc [.ref (ob 9), .int pp, .int a, .int b, .int kk] (prX dC dI ob ad cA fv wd ar sz)) (va_Qi (fun (r : Int32) (u : xS) => rX u.1 ∧ rB u.2.2 ∧ fM [] fv u.1 ∧ fA [] ar u.2.2 ∧ u.2.1.2 = wd.2 ∧ (0 ≤ r.toInt ∧ r.toInt ≤ 1) ∧ ((r = 0 ∧ (¬ (mo_hd (mx_D fv ar) (pp.toInt.toNat) (kk.toInt.toNat) ∧ b.toInt + mo_wk (mx_G ar) (ar 64 (pp.toInt.toNat)).toInt a.toInt.toNat (mo_cf (mx_D fv ar) (kk.toInt.toNat)) ≤ ((mx_D fv ar) 14 (kk.toInt.toNat)).toInt))) ∨ (r = 1 ∧ (mo_hd (mx_D fv ar) (pp.toInt.toNat) (kk.toInt.toNat) ∧ b.toInt + mo_wk (mx_G ar) (ar 64 (pp.toInt.toNat)).toInt a.toInt.toNat (mo_cf (mx_D fv ar) (kk.toInt.toNat)) ≤ ((mx_D fv ar) 14 (kk.toInt.toNat)).toInt))) ∧ True) (enX dC dI ob ad cA) (aX ob ad sz)) 0 0 (aX ob ad sz) := by
  refine Met.ofW (cc := cX9_reaches) (maxL := 6) (ret := (some .boolean)) (by decide) rfl ?_
  intro p e s m args below meth c s₁ B hml hv
  obtain ⟨rfl, hsz, hP, hK⟩ := hv
  have hx := B.exec
  have hb := B.bytes
  have hr := B.returns
  have hts := atoms_spec (ws := (.code yX9_reaches cX9_reaches 6 (some .boolean) :: lw_good)) B.pre
  have htg : ∀ w ∈ lw_good, w.before _ s = true := fun w hw => hts w (List.mem_cons_of_mem _ hw)
  have hown : s.vm.findClass RX9 = some m.cls := findClass_of_methodNamed B.named
  have hlocks := B.notSynchronized
  subst hsz
  have hS : va_S (aX ob ad s.heap.size) s.heap s.heap [] := va_S.rf
  have hl := lv_entry ([.ref (ob 9), .int pp, .int a, .int b, .int kk]) (n := 6) (Nat.le_of_ble_eq_true rfl)
  rw [lg_entry_eq]
  generalize (lg_sl ([.ref (ob 9), .int pp, .int a, .int b, .int kk]) ++ List.replicate (6 - (lg_sl ([.ref (ob 9), .int pp, .int a, .int b, .int kk])).length) Slot.unset).toArray = ls at hl ⊢
  have hl : lv_has ls 6 [(0, .ref (ob 9)), (1, .int pp), (2, .int a), (3, .int b), (4, .int kk)] := hl
  refine lv_aload_n hx hb dX9_reaches_0 rfl (lv_at hl 0 rfl) ?_
  refine lv_iload_n hx hb dX9_reaches_1 rfl (lv_at hl 1 rfl) ?_
  refine lv_iload_n hx hb dX9_reaches_2 rfl (lv_at hl 2 rfl) ?_
  refine lv_aload_n hx hb dX9_reaches_3 rfl (lv_at hl 0 rfl) ?_
  refine gX_X9_9 hx hb htg hown hK hP dX9_reaches_4 ?_
  refine gX_X9_131 hx hb htg hown hK hP dX9_reaches_7 ?_
  refine lv_aload_n hx hb dX9_reaches_10 rfl (lv_at hl 0 rfl) ?_
  refine gX_X9_9 hx hb htg hown hK hP dX9_reaches_11 ?_
  refine gX_X9_54 hx hb htg hown hK hP dX9_reaches_14 ?_
  refine gX_X9_81 hx hb htg hown hK hP dX9_reaches_17 ?_
  refine lv_iload hx hb dX9_reaches_20 (lv_at hl 4 rfl) ?_
  refine lX_29 hx hb hK hP (iv_in h_kk (by decide) (by decide)) dX9_reaches_22 (fun v_1 ev_1 => ?_)
  have i_2 : 0 ≤ v_1.toInt ∧ v_1.toInt ≤ 7 := ev_1 ▸ hA_ar 29 _
  refine lX_2 hx hb hK hP (iv_in i_2 (by decide) (by decide)) dX9_reaches_23 (fun v_3 ev_3 => ?_)
  have i_4 : 0 ≤ v_3.toInt ∧ v_3.toInt ≤ 11 := ev_3 ▸ hA_ar 2 _
  refine va_calli (va_runV (As := [.int pp, .int a, .int v_3]) (rest := []) ⟨hx, hb, hml, hown, hts⟩ (x_walkMinutesE l dC dI s.heap.size ob ad cA hd fv wd ar hF_fv hA_ar pp a v_3 h_pp h_a i_4 hpc) (cwV 3 hts (gV kw_5_134 kw_5_135 kw_5_136 kw_1_13 kw_5_137) rfl rfl rfl (by decide +kernel) ⟨Nat.le_of_ble_eq_true rfl, Nat.le_of_ble_eq_true rfl⟩) ⟨fun a U g mk q => ⟨q.1, q.2.1, q.2.2.1, va_K.moved (u := U) (U := U.calling g mk a) (Vm.Alike.refl U.vm) q.2.2.2⟩, va_recv hK hP (ci := 9) (q0 := 9) rfl rfl, fun U hU hW => ⟨rfl, by rw [hU], by rw [hU]; exact hP, va_K.moved hW.alike hK⟩⟩ rfl rfl hl.1 rfl (lv_room (Nat.le_of_ble_eq_true rfl)) dX9_reaches_24 ⟨Nat.le_of_ble_eq_true rfl, Nat.le_of_ble_eq_true rfl⟩) hS (fun q _ h9 => aX_up hS q h9) (aX_up hS) (fun r_5 u t H1 locs ht _ hw hB _ hk1 hS => ?_)
  obtain ⟨fv_8, wd_9, ar_10⟩ := u
  obtain ⟨hF_fv_8, hA_ar_10, fr_11, fa_12, wf_13, p_6, p_7, -⟩ := hw
  have wf_13 : wd_9.2 = wd.2 := wf_13
  have hP : va_P (dC, dI) vwCl (wsX ob ad cA fv_8 wd_9 ar_10) H1 := by have h9 := hB.1; rw [ht] at h9; exact h9
  have fr_11 : fM [] fv fv_8 := fr_11
  have fa_12 : fA [] ar ar_10 := fa_12
  have p_7 : r_5.toInt = mo_wk (mx_G ar) (ar 64 (pp.toInt.toNat)).toInt a.toInt.toNat v_3.toInt.toNat := p_7
  generalize H1 = H at hP hS ⊢
  have k_14 : r_5.toInt = mo_wk (mx_G ar) (ar 64 (pp.toInt.toNat)).toInt a.toInt.toNat v_3.toInt.toNat := by have h9 := p_7; exact h9
  refine lv_istore (lv' := [(5, .int r_5), (0, .ref (ob 9)), (1, .int pp), (2, .int a), (3, .int b), (4, .int kk)]) hx hb dX9_reaches_27 hl (by decide) rfl (fun ls hl => ?_)
  refine lv_aload_n hx hb dX9_reaches_29 rfl (lv_at hl 1 rfl) ?_
  refine lv_iload_n hx hb dX9_reaches_30 rfl (lv_at hl 2 rfl) ?_
  refine lv_iload hx hb dX9_reaches_31 (lv_at hl 5 rfl) ?_
  refine va_calli (va_runV (As := [.int pp, .int kk]) (rest := []) ⟨hx, hb, hml, hown, hts⟩ (x_hasHeardE l dC dI H.size ob ad cA hd fv_8 wd_9 ar_10 hF_fv_8 hA_ar_10 pp kk h_pp h_kk (mx_R_fr hp_mR (fM_call (fM_rf [] _) fr_11 (by decide)) (fA_call (fA_rf [] _) fa_12 (by decide)) rfl rfl rfl rfl rfl rfl rfl rfl rfl rfl rfl rfl rfl rfl rfl rfl rfl rfl rfl rfl rfl rfl rfl rfl rfl rfl rfl)) (cwV 2 hts (gV kw_5_141 kw_5_143 kw_p_31 kw_1_13 kw_5_144) rfl rfl rfl (by decide +kernel) ⟨Nat.le_of_ble_eq_true rfl, Nat.le_of_ble_eq_true rfl⟩) ⟨fun a U g mk q => ⟨q.1, q.2.1, q.2.2.1, va_K.moved (u := U) (U := U.calling g mk a) (Vm.Alike.refl U.vm) q.2.2.2⟩, va_recv hK hP (ci := 9) (q0 := 9) rfl rfl, fun U hU hW => ⟨rfl, by rw [hU], by rw [hU]; exact hP, va_K.moved hW.alike hK⟩⟩ rfl rfl hl.1 rfl (lv_room (Nat.le_of_ble_eq_true rfl)) dX9_reaches_33 ⟨Nat.le_of_ble_eq_true rfl, Nat.le_of_ble_eq_true rfl⟩) hS (fun q _ h9 => aX_up hS q h9) (aX_up hS) (fun r_15 u t H1 locs ht _ hw hB _ hk1 hS => ?_)
  obtain ⟨fv_18, wd_19, ar_20⟩ := u
  obtain ⟨hF_fv_18, hA_ar_20, fr_21, fa_22, wf_23, p_16, p_17, -⟩ := hw
  have wf_23 : wd_19.2 = wd_9.2 := wf_23
  have hP : va_P (dC, dI) vwCl (wsX ob ad cA fv_18 wd_19 ar_20) H1 := by have h9 := hB.1; rw [ht] at h9; exact h9
  have fr_21 : fM [] fv_8 fv_18 := fr_21
  have fa_22 : fA [] ar_10 ar_20 := fa_22
  generalize H1 = H at hP hS ⊢
  rcases p_17 with ⟨rfl, p_17⟩ | ⟨rfl, p_17⟩
  · skip
    have q_24 : ¬ mo_hd (mx_D fv_8 ar_10) (pp.toInt.toNat) (kk.toInt.toNat) := p_17
    refine lv_if_eq (tgt := 63) hx hb dX9_reaches_36 (by decide) (fun c_25 => ?_) (fun c_25 => ?_)
    · skip
      refine lv_iconst (v := 0) hx hb dX9_reaches_63 (by decide) ?_
      exact W.zret (v := 0) hx hb hr (by decide) (fun t ht hW => ⟨⟨0, (fv_18, wd_19, ar_20), rfl, ⟨hF_fv_18, hA_ar_20, (fM_call (fM_call (fM_rf [] _) fr_11 (by decide)) fr_21 (by decide)), (fA_call (fA_call (fA_rf [] _) fa_12 (by decide)) fa_22 (by decide)), (wf_23.trans wf_13), (iv_w (⟨by decide, by decide⟩ : (0 : Int) ≤ (0 : Int32).toInt ∧ (0 : Int32).toInt ≤ 0) (by decide) (by decide)), (Or.inl ⟨rfl, (show ¬ (mo_hd (mx_D fv ar) (pp.toInt.toNat) (kk.toInt.toNat) ∧ b.toInt + mo_wk (mx_G ar) (ar 64 (pp.toInt.toNat)).toInt a.toInt.toNat (mo_cf (mx_D fv ar) (kk.toInt.toNat)) ≤ ((mx_D fv ar) 14 (kk.toInt.toNat)).toInt) from fun w => absurd w.1 (by have h9 := q_24; rw [show mx_D fv_8 ar_10 = mx_D fv ar from (mx_D_fr (fM_call (fM_rf [] _) fr_11 (by decide)) (fA_call (fA_rf [] _) fa_12 (by decide)) rfl rfl)] at h9; exact h9))⟩), trivial⟩, ⟨by rw [ht]; exact hP, va_K.moved hW.alike hK⟩⟩, hS.F ht⟩) hS.2.2 dX9_reaches_64
    · skip
      exact absurd c_25 (by decide)
  · skip
    have q_26 : mo_hd (mx_D fv_8 ar_10) (pp.toInt.toNat) (kk.toInt.toNat) := p_17
    refine lv_if_eq (tgt := 63) hx hb dX9_reaches_36 (by decide) (fun c_27 => ?_) (fun c_27 => ?_)
    · skip
      exact absurd c_27 (by decide)
    · skip
      refine lv_iload_n hx hb dX9_reaches_39 rfl (lv_at hl 4 rfl) ?_
      refine lv_iload hx hb dX9_reaches_40 (lv_at hl 0 rfl) ?_
      refine lv_iadd hx hb dX9_reaches_42 ?_
      refine lv_topi (fun v_28 ev_28 => ?_)
      have t_29 : v_28.toInt = b.toInt + r_5.toInt ∧ 0 ≤ v_28.toInt ∧ v_28.toInt ≤ 50000840 := iv_add ev_28 h_b p_6 (by decide) (by decide)
      refine lv_aload_n hx hb dX9_reaches_43 rfl (lv_at hl 1 rfl) ?_
      refine gX_X9_9 hx hb htg hown hK hP dX9_reaches_44 ?_
      refine gX_X9_54 hx hb htg hown hK hP dX9_reaches_47 ?_
      refine gX_X9_74 hx hb htg hown hK hP dX9_reaches_50 ?_
      refine lv_iload hx hb dX9_reaches_53 (lv_at hl 5 rfl) ?_
      refine lX_31 hx hb hK hP (iv_in h_kk (by decide) (by decide)) dX9_reaches_55 (fun v_31 ev_31 => ?_)
      refine lv_icmp_gt (tgt := 63) hx hb dX9_reaches_56 (by decide) (fun c_32 => ?_) (fun c_32 => ?_)
      · skip
        have i_33 : (-2147483648) ≤ v_31.toInt ∧ v_31.toInt ≤ 50000839 := iv_lt1 (iv_any v_31) t_29.2 c_32
        have k_34 := Int32.lt_iff_toInt_lt.mp c_32
        refine lv_iconst (v := 0) hx hb dX9_reaches_63 (by decide) ?_
        exact W.zret (v := 0) hx hb hr (by decide) (fun t ht hW => ⟨⟨0, (fv_18, wd_19, ar_20), rfl, ⟨hF_fv_18, hA_ar_20, (fM_call (fM_call (fM_rf [] _) fr_11 (by decide)) fr_21 (by decide)), (fA_call (fA_call (fA_rf [] _) fa_12 (by decide)) fa_22 (by decide)), (wf_23.trans wf_13), (iv_w (⟨by decide, by decide⟩ : (0 : Int) ≤ (0 : Int32).toInt ∧ (0 : Int32).toInt ≤ 0) (by decide) (by decide)), (Or.inl ⟨rfl, (show ¬ (mo_hd (mx_D fv ar) (pp.toInt.toNat) (kk.toInt.toNat) ∧ b.toInt + mo_wk (mx_G ar) (ar 64 (pp.toInt.toNat)).toInt a.toInt.toNat (mo_cf (mx_D fv ar) (kk.toInt.toNat)) ≤ ((mx_D fv ar) 14 (kk.toInt.toNat)).toInt) from fun w => by have w2 := w.2; have hw := k_14; have hcf : v_3.toInt.toNat = (mo_cf (mx_D fv ar) (kk.toInt.toNat)) := (by show _ = (ar 2 ((ar 29 (kk.toInt.toNat)).toInt.toNat)).toInt.toNat; rw [show ar 29 (kk.toInt.toNat) = v_1 from ev_1.symm, show ar 2 (v_1.toInt.toNat) = v_3 from ev_3.symm]); rw [hcf] at hw; have hm : ((mx_D fv ar) 14 (kk.toInt.toNat)) = v_31 := (by show ar 31 (kk.toInt.toNat) = v_31; exact ((show v_31 = ar 31 (kk.toInt.toNat) from by rw [ev_31, show ar_20 31 = ar 31 from ((fA_call (fA_call (fA_rf [] _) fa_12 (by decide)) fa_22 (by decide)) 31 rfl)]; exact congrArg (ar 31) (show kk.toInt.toNat = (kk.toInt.toNat) from by omega))).symm); rw [← hw, hm] at w2; omega)⟩), trivial⟩, ⟨by rw [ht]; exact hP, va_K.moved hW.alike hK⟩⟩, hS.F ht⟩) hS.2.2 dX9_reaches_64
      · skip
        have i_35 : 0 ≤ v_31.toInt ∧ v_31.toInt ≤ 2147483647 := iv_le2 t_29.2 (iv_any v_31) (Int32.not_lt.mp c_32)
        have k_36 := Int32.le_iff_toInt_le.mp (Int32.not_lt.mp c_32)
        refine lv_iconst (v := 1) hx hb dX9_reaches_59 (by decide) ?_
        refine lv_goto (tgt := 64) hx hb dX9_reaches_60 (by decide) ?_
        exact W.zret (v := 1) hx hb hr (by decide) (fun t ht hW => ⟨⟨1, (fv_18, wd_19, ar_20), rfl, ⟨hF_fv_18, hA_ar_20, (fM_call (fM_call (fM_rf [] _) fr_11 (by decide)) fr_21 (by decide)), (fA_call (fA_call (fA_rf [] _) fa_12 (by decide)) fa_22 (by decide)), (wf_23.trans wf_13), (iv_w (⟨by decide, by decide⟩ : (1 : Int) ≤ (1 : Int32).toInt ∧ (1 : Int32).toInt ≤ 1) (by decide) (by decide)), (Or.inr (⟨rfl, (show mo_hd (mx_D fv ar) (pp.toInt.toNat) (kk.toInt.toNat) ∧ b.toInt + mo_wk (mx_G ar) (ar 64 (pp.toInt.toNat)).toInt a.toInt.toNat (mo_cf (mx_D fv ar) (kk.toInt.toNat)) ≤ ((mx_D fv ar) 14 (kk.toInt.toNat)).toInt from ⟨(by have h9 := q_26; rw [show mx_D fv_8 ar_10 = mx_D fv ar from (mx_D_fr (fM_call (fM_rf [] _) fr_11 (by decide)) (fA_call (fA_rf [] _) fa_12 (by decide)) rfl rfl)] at h9; exact h9), by have hw := k_14; have hcf : v_3.toInt.toNat = (mo_cf (mx_D fv ar) (kk.toInt.toNat)) := (by show _ = (ar 2 ((ar 29 (kk.toInt.toNat)).toInt.toNat)).toInt.toNat; rw [show ar 29 (kk.toInt.toNat) = v_1 from ev_1.symm, show ar 2 (v_1.toInt.toNat) = v_3 from ev_3.symm]); rw [hcf] at hw; have hm : ((mx_D fv ar) 14 (kk.toInt.toNat)) = v_31 := (by show ar 31 (kk.toInt.toNat) = v_31; exact ((show v_31 = ar 31 (kk.toInt.toNat) from by rw [ev_31, show ar_20 31 = ar 31 from ((fA_call (fA_call (fA_rf [] _) fa_12 (by decide)) fa_22 (by decide)) 31 rfl)]; exact congrArg (ar 31) (show kk.toInt.toNat = (kk.toInt.toNat) from by omega))).symm); rw [← hw, hm]; omega⟩)⟩)), trivial⟩, ⟨by rw [ht]; exact hP, va_K.moved hW.alike hK⟩⟩, hS.F ht⟩) hS.2.2 dX9_reaches_64
set_option maxHeartbeats 4000000 in
set_option maxRecDepth 100000 in
theorem x_lastAheadE (l : Launch) (dC : Nat → ClassId) (dI : Nat → Nat → Nat) (sz : Nat) (ob ad : Nat → Nat) (cA : Nat → ClassId) (hd : dX ob ad) (fv : Nat → Int32) (wd : xT) (ar : Nat → Nat → Int32) (hF_fv : rX fv) (hA_ar : rB ar) (pl : Int32) (a : Int32) (b : Int32) (h_pl : 0 ≤ pl.toInt ∧ pl.toInt ≤ 79) : Met l yX9_lastAhead (.code yX9_lastAhead cX9_lastAhead 5 (some .int) :: lw_good) ({ frames := 2, cells := 0, slots := 0, locals := 40 }) (va_Pc [.ref (ob 9), .int pl, .int a, .int b] (prX dC dI ob ad cA fv wd ar sz)) (va_Qi (fun (r : Int32) (u : xS) => rX u.1 ∧ rB u.2.2 ∧ fM [] fv u.1 ∧ fA [] ar u.2.2 ∧ u.2.1.2 = wd.2 ∧ ((-1) ≤ r.toInt ∧ r.toInt ≤ 79) ∧ (mo_la (mx_D fv ar) (ar 58) (pl.toInt.toNat) a.toInt b.toInt r.toInt) ∧ True) (enX dC dI ob ad cA) (aX ob ad sz)) 0 0 (aX ob ad sz) := by
  refine Met.ofW (cc := cX9_lastAhead) (maxL := 5) (ret := (some .int)) (by decide) rfl ?_
  intro p e s m args below meth c s₁ B hml hv
  obtain ⟨rfl, hsz, hP, hK⟩ := hv
  have hx := B.exec
  have hb := B.bytes
  have hr := B.returns
  have hts := atoms_spec (ws := (.code yX9_lastAhead cX9_lastAhead 5 (some .int) :: lw_good)) B.pre
  have htg : ∀ w ∈ lw_good, w.before _ s = true := fun w hw => hts w (List.mem_cons_of_mem _ hw)
  have hown : s.vm.findClass RX9 = some m.cls := findClass_of_methodNamed B.named
  have hlocks := B.notSynchronized
  subst hsz
  have hS : va_S (aX ob ad s.heap.size) s.heap s.heap [] := va_S.rf
  have hl := lv_entry ([.ref (ob 9), .int pl, .int a, .int b]) (n := 5) (Nat.le_of_ble_eq_true rfl)
  rw [lg_entry_eq]
  generalize (lg_sl ([.ref (ob 9), .int pl, .int a, .int b]) ++ List.replicate (5 - (lg_sl ([.ref (ob 9), .int pl, .int a, .int b])).length) Slot.unset).toArray = ls at hl ⊢
  have hl : lv_has ls 5 [(0, .ref (ob 9)), (1, .int pl), (2, .int a), (3, .int b)] := hl
  refine lv_iload_n hx hb dX9_lastAhead_0 rfl (lv_at hl 1 rfl) ?_
  refine lv_iconst (v := 1) hx hb dX9_lastAhead_1 (by decide) ?_
  refine lv_isub hx hb dX9_lastAhead_2 ?_
  refine lv_topi (fun v_1 ev_1 => ?_)
  have t_2 : v_1.toInt = pl.toInt - 1 ∧ (-1) ≤ v_1.toInt ∧ v_1.toInt ≤ 78 := iv_subc ev_1 h_pl (by decide) (by decide) (by decide)
  refine lv_istore (lv' := [(4, .int v_1), (0, .ref (ob 9)), (1, .int pl), (2, .int a), (3, .int b)]) hx hb dX9_lastAhead_3 hl (by decide) rfl (fun ls hl => ?_)
  refine my_cut (P := fun R9 a9 Q9 => ∀ (n_7 : Nat) (x_4 : Int32) (H : Heap) (locs : List Loc) (ls : Array Slot), x_4.toInt - (-1) < (n_7 : Int) → ((-1) ≤ x_4.toInt ∧ x_4.toInt ≤ 78) → (∀ q : Nat, x_4.toInt < (q : Int) → q < (pl.toInt.toNat) → ¬ (((mx_D fv ar) 12 ((ar 58 q).toInt.toNat)).toInt = a.toInt ∧ b.toInt ≤ ((mx_D fv ar) 14 ((ar 58 q).toInt.toNat)).toInt)) → (x_4.toInt < pl.toInt) → va_P (dC, dI) vwCl (wsX ob ad cA fv wd ar) H → va_S (aX ob ad s.heap.size) s.heap H locs → lv_has ls 5 [(0, .ref (ob 9)), (2, .int a), (3, .int b), (4, .int x_4)] → W p l e R9 s m a9 below meth c H locs 0 0 Q9 (F0 m 5 ls [])) ?_ (fun hj_9 => ?_)
  · intro n_7
    induction n_7 with
    | zero => intro x_4 H locs ls fu_8 i_x_4 q_5 q_6; exfalso; omega
    | succ n_7 ih_7 =>
      intro x_4 H locs ls fu_8 i_x_4 q_5 q_6 hP hS hl
      refine lv_iload hx hb dX9_lastAhead_5 (lv_at hl 3 rfl) ?_
      refine lv_if_lt (tgt := 63) hx hb dX9_lastAhead_7 (by decide) (fun c_10 => ?_) (fun c_10 => ?_)
      · skip
        have i_11 : (-1) ≤ x_4.toInt ∧ x_4.toInt ≤ (-1) := iv_lt1 i_x_4 (⟨by decide, by decide⟩ : (0 : Int) ≤ (0 : Int32).toInt ∧ (0 : Int32).toInt ≤ 0) c_10
        refine lv_iconst (v := (-1)) hx hb dX9_lastAhead_63 (by decide) ?_
        have z_12 : ((-1) : Int32).toInt = (-1) := by decide
        exact W.iret (v := (-1)) hx hb hr (fun t ht hW => ⟨⟨(-1), (fv, wd, ar), rfl, ⟨hF_fv, hA_ar, (fM_rf [] _), (fA_rf [] _), rfl, (iv_w (⟨by decide, by decide⟩ : (-1 : Int) ≤ ((-1) : Int32).toInt ∧ ((-1) : Int32).toInt ≤ -1) (by decide) (by decide)), (show mo_la (mx_D fv ar) (ar 58) (pl.toInt.toNat) a.toInt b.toInt ((-1) : Int32).toInt from Or.inl ⟨by decide, fun j h => q_5 j (by omega) h⟩), trivial⟩, ⟨by rw [ht]; exact hP, va_K.moved hW.alike hK⟩⟩, hS.F ht⟩) hS.2.2 dX9_lastAhead_64
      · skip
        have i_13 : 0 ≤ x_4.toInt ∧ x_4.toInt ≤ 78 := iv_le2 (⟨by decide, by decide⟩ : (0 : Int) ≤ (0 : Int32).toInt ∧ (0 : Int32).toInt ≤ 0) i_x_4 (Int32.not_lt.mp c_10)
        refine lv_aload_n hx hb dX9_lastAhead_10 rfl (lv_at hl 0 rfl) ?_
        refine gX_X9_9 hx hb htg hown hK hP dX9_lastAhead_11 ?_
        refine gX_X9_54 hx hb htg hown hK hP dX9_lastAhead_14 ?_
        refine gX_X9_81 hx hb htg hown hK hP dX9_lastAhead_17 ?_
        refine lv_aload_n hx hb dX9_lastAhead_20 rfl (lv_at hl 0 rfl) ?_
        refine gX_X9_17 hx hb htg hown hK hP dX9_lastAhead_21 ?_
        refine lv_iload hx hb dX9_lastAhead_24 (lv_at hl 3 rfl) ?_
        refine lX_58 hx hb hK hP (iv_in i_13 (by decide) (by decide)) dX9_lastAhead_26 (fun v_14 ev_14 => ?_)
        have i_15 : 0 ≤ v_14.toInt ∧ v_14.toInt ≤ 79 := ev_14 ▸ hA_ar 58 _
        refine lX_29 hx hb hK hP (iv_in i_15 (by decide) (by decide)) dX9_lastAhead_27 (fun v_16 ev_16 => ?_)
        have i_17 : 0 ≤ v_16.toInt ∧ v_16.toInt ≤ 7 := ev_16 ▸ hA_ar 29 _
        refine lv_iload_n hx hb dX9_lastAhead_28 rfl (lv_at hl 1 rfl) ?_
        refine lv_icmp_ne (tgt := 57) hx hb dX9_lastAhead_29 (by decide) (fun c_18 => ?_) (fun c_18 => ?_)
        · skip
          have k_19 : ¬ v_16.toInt = a.toInt := fun q => c_18 (Int32.toInt_inj.mp q)
          obtain ⟨v_20, ev_20⟩ : ∃ z : Int32, z = x_4 + (-1) := ⟨_, rfl⟩
          refine lv_iinc (v := v_20) (lv' := [(4, .int v_20), (0, .ref (ob 9)), (2, .int a), (3, .int b)]) hx hb dX9_lastAhead_57 hl (k := 3) rfl (by rw [ev_20]; rfl) (by decide) rfl (fun ls hl => ?_)
          have t_21 : v_20.toInt = x_4.toInt + (-1) ∧ (-1) ≤ v_20.toInt ∧ v_20.toInt ≤ 77 := iv_addc ev_20 i_13 (by decide) (by decide) (by decide)
          refine lv_goto (tgt := 5) hx hb dX9_lastAhead_60 (by decide) ?_
          exact ih_7 v_20 _ _ ls (by omega) (iv_w t_21.2 (by decide) (by decide)) (fun q h1 h2 => by by_cases c9 : (q : Int) = x_4.toInt; have ht9 : ar 58 (x_4.toInt.toNat) = v_14 := ev_14.symm; have hf9 : (mx_D fv ar) 12 (v_14.toInt.toNat) = v_16 := ev_16.symm; have e9 : q = x_4.toInt.toNat := (by omega); rw [e9, ht9]; intro w; have w1 := w.1; have w2 := w.2; rw [hf9] at w1; omega; exact q_5 q (by omega) h2) (by omega) hP hS (lv_sub hl [1, 2, 3, 0] rfl)
        · skip
          have i_23 : 0 ≤ a.toInt ∧ a.toInt ≤ 7 := iv_eq1 i_17 c_18.symm
          have k_24 := congrArg Int32.toInt c_18
          refine lv_aload_n hx hb dX9_lastAhead_32 rfl (lv_at hl 0 rfl) ?_
          refine gX_X9_9 hx hb htg hown hK hP dX9_lastAhead_33 ?_
          refine gX_X9_54 hx hb htg hown hK hP dX9_lastAhead_36 ?_
          refine gX_X9_74 hx hb htg hown hK hP dX9_lastAhead_39 ?_
          refine lv_aload_n hx hb dX9_lastAhead_42 rfl (lv_at hl 0 rfl) ?_
          refine gX_X9_17 hx hb htg hown hK hP dX9_lastAhead_43 ?_
          refine lv_iload hx hb dX9_lastAhead_46 (lv_at hl 3 rfl) ?_
          refine lX_58 hx hb hK hP (iv_in i_13 (by decide) (by decide)) dX9_lastAhead_48 (fun v_25 ev_25 => ?_)
          obtain rfl : v_14 = v_25 := ev_14.trans ev_25.symm
          refine lX_31 hx hb hK hP (iv_in i_15 (by decide) (by decide)) dX9_lastAhead_49 (fun v_26 ev_26 => ?_)
          refine lv_iload_n hx hb dX9_lastAhead_50 rfl (lv_at hl 2 rfl) ?_
          refine lv_icmp_lt (tgt := 57) hx hb dX9_lastAhead_51 (by decide) (fun c_27 => ?_) (fun c_27 => ?_)
          · skip
            have i_28 : (-2147483648) ≤ v_26.toInt ∧ v_26.toInt ≤ 2147483646 := iv_lt1 (iv_any v_26) (iv_any b) c_27
            have i_29 : (-2147483647) ≤ b.toInt ∧ b.toInt ≤ 2147483647 := iv_lt2 (iv_any v_26) (iv_any b) c_27
            have k_30 := Int32.lt_iff_toInt_lt.mp c_27
            obtain ⟨v_31, ev_31⟩ : ∃ z : Int32, z = x_4 + (-1) := ⟨_, rfl⟩
            refine lv_iinc (v := v_31) (lv' := [(4, .int v_31), (0, .ref (ob 9)), (2, .int a), (3, .int b)]) hx hb dX9_lastAhead_57 hl (k := 3) rfl (by rw [ev_31]; rfl) (by decide) rfl (fun ls hl => ?_)
            have t_32 : v_31.toInt = x_4.toInt + (-1) ∧ (-1) ≤ v_31.toInt ∧ v_31.toInt ≤ 77 := iv_addc ev_31 i_13 (by decide) (by decide) (by decide)
            refine lv_goto (tgt := 5) hx hb dX9_lastAhead_60 (by decide) ?_
            exact ih_7 v_31 _ _ ls (by omega) (iv_w t_32.2 (by decide) (by decide)) (fun q h1 h2 => by by_cases c9 : (q : Int) = x_4.toInt; have ht9 : ar 58 (x_4.toInt.toNat) = v_14 := ev_14.symm; have hf9 : (mx_D fv ar) 12 (v_14.toInt.toNat) = v_16 := ev_16.symm; have hm9 : (mx_D fv ar) 14 (v_14.toInt.toNat) = v_26 := ev_26.symm; have e9 : q = x_4.toInt.toNat := (by omega); rw [e9, ht9]; intro w; have w1 := w.1; have w2 := w.2; rw [hf9] at w1; rw [hm9] at w2; omega; exact q_5 q (by omega) h2) (by omega) hP hS (lv_sub hl [1, 2, 3, 0] rfl)
          · skip
            have k_34 := Int32.le_iff_toInt_le.mp (Int32.not_lt.mp c_27)
            refine lv_iload hx hb dX9_lastAhead_54 (lv_at hl 3 rfl) ?_
            exact W.iret (v := x_4) hx hb hr (fun t ht hW => ⟨⟨x_4, (fv, wd, ar), rfl, ⟨hF_fv, hA_ar, (fM_rf [] _), (fA_rf [] _), rfl, (iv_w i_13 (by decide) (by decide)), (show mo_la (mx_D fv ar) (ar 58) (pl.toInt.toNat) a.toInt b.toInt x_4.toInt from by have ht9 : ar 58 (x_4.toInt.toNat) = v_14 := ev_14.symm; have hf9 : (mx_D fv ar) 12 (v_14.toInt.toNat) = v_16 := ev_16.symm; have hm9 : (mx_D fv ar) 14 (v_14.toInt.toNat) = v_26 := ev_26.symm; exact Or.inr ⟨x_4.toInt.toNat, by omega, by omega, by rw [ht9, hf9]; omega, by rw [ht9, hm9]; omega, fun q9 h1 h2 => q_5 q9 (by omega) h2⟩), trivial⟩, ⟨by rw [ht]; exact hP, va_K.moved hW.alike hK⟩⟩, hS.F ht⟩) hS.2.2 dX9_lastAhead_56
  · skip
    exact hj_9 80 v_1 _ _ ls (by omega) t_2.2 (fun q h1 h2 => by exfalso; omega) (by omega) hP hS (lv_sub hl [1, 3, 4, 0] rfl)
set_option maxHeartbeats 4000000 in
set_option maxRecDepth 100000 in
theorem x_weighE (l : Launch) (dC : Nat → ClassId) (dI : Nat → Nat → Nat) (sz : Nat) (ob ad : Nat → Nat) (cA : Nat → ClassId) (hd : dX ob ad) (fv : Nat → Int32) (wd : xT) (ar : Nat → Nat → Int32) (hF_fv : rX fv) (hA_ar : rB ar) (pp : Int32) (h_pp : 0 ≤ pp.toInt ∧ pp.toInt ≤ 39) (hpc : 0 ≤ (ar 64 (pp.toInt.toNat)).toInt ∧ (ar 64 (pp.toInt.toNat)).toInt ≤ 50) (hp_mR : mx_R fv ar) (hp_mY : mx_Y fv ar) : Met l yX9_weigh (.code yX9_weigh cX9_weigh 6 none :: lw_good) ({ frames := 4, cells := 0, slots := 0, locals := 85 }) (va_Pc [.ref (ob 9), .int pp] (prX dC dI ob ad cA fv wd ar sz)) (va_Qv (fun (u : xS) => rX u.1 ∧ rB u.2.2 ∧ fM [] fv u.1 ∧ fA [62, 63] ar u.2.2 ∧ u.2.1.2 = wd.2 ∧ (mo_we (mx_D fv ar) (mx_G ar) (pp.toInt.toNat) (ar 64 (pp.toInt.toNat)).toInt ((fv 24).toInt.toNat) (ar 58) (ar 60) (ar 61) (u.2.2 62) (u.2.2 63)) ∧ True) (enX dC dI ob ad cA) (aX ob ad sz)) 0 0 (aX ob ad sz) := by
  refine Met.ofW (cc := cX9_weigh) (maxL := 6) (ret := none) (by decide) rfl ?_
  intro p e s m args below meth c s₁ B hml hv
  obtain ⟨rfl, hsz, hP, hK⟩ := hv
  have hx := B.exec
  have hb := B.bytes
  have hr := B.returns
  have hts := atoms_spec (ws := (.code yX9_weigh cX9_weigh 6 none :: lw_good)) B.pre
  have htg : ∀ w ∈ lw_good, w.before _ s = true := fun w hw => hts w (List.mem_cons_of_mem _ hw)
  have hown : s.vm.findClass RX9 = some m.cls := findClass_of_methodNamed B.named
  have hlocks := B.notSynchronized
  subst hsz
  have hS : va_S (aX ob ad s.heap.size) s.heap s.heap [] := va_S.rf
  have hl := lv_entry ([.ref (ob 9), .int pp]) (n := 6) (Nat.le_of_ble_eq_true rfl)
  rw [lg_entry_eq]
  generalize (lg_sl ([.ref (ob 9), .int pp]) ++ List.replicate (6 - (lg_sl ([.ref (ob 9), .int pp])).length) Slot.unset).toArray = ls at hl ⊢
  have hl : lv_has ls 6 [(0, .ref (ob 9)), (1, .int pp)] := hl
  refine lv_iconst (v := 0) hx hb dX9_weigh_0 (by decide) ?_
  refine lv_istore_n (lv' := [(2, .int 0), (0, .ref (ob 9)), (1, .int pp)]) hx hb dX9_weigh_1 rfl hl (by decide) rfl (fun ls hl => ?_)
  refine my_cut (P := fun R9 a9 Q9 => ∀ (n_12 : Nat) (x_1 : Int32) (fv_2 : Nat → Int32) (ar_4 : Nat → Nat → Int32) (wd_6 : xT) (H : Heap) (locs : List Loc) (ls : Array Slot), 80 - x_1.toInt < (n_12 : Int) → (0 ≤ x_1.toInt ∧ x_1.toInt ≤ 80) → rX fv_2 → fM [] fv fv_2 → rB ar_4 → fA [62, 63] ar ar_4 → wd_6.2 = wd.2 → mx_R fv_2 ar_4 → mx_Y fv_2 ar_4 → (mo_we (mx_D fv ar) (mx_G ar) (pp.toInt.toNat) (ar 64 (pp.toInt.toNat)).toInt (x_1.toInt.toNat) (ar 58) (ar 60) (ar 61) (ar_4 62) (ar_4 63)) → (x_1.toInt ≤ (fv 24).toInt) → va_P (dC, dI) vwCl (wsX ob ad cA fv_2 wd_6 ar_4) H → va_S (aX ob ad s.heap.size) s.heap H locs → lv_has ls 6 [(0, .ref (ob 9)), (1, .int pp), (2, .int x_1)] → W p l e R9 s m a9 below meth c H locs 0 0 Q9 (F0 m 2 ls [])) ?_ (fun hj_14 => ?_)
  · intro n_12
    induction n_12 with
    | zero => intro x_1 fv_2 ar_4 wd_6 H locs ls fu_13 i_x_1 hF_fv_2 fr_3 hA_ar_4 fa_5 wf_7 hp_8 hp_9 q_10 q_11; exfalso; omega
    | succ n_12 ih_12 =>
      intro x_1 fv_2 ar_4 wd_6 H locs ls fu_13 i_x_1 hF_fv_2 fr_3 hA_ar_4 fa_5 wf_7 hp_8 hp_9 q_10 q_11 hP hS hl
      refine lv_iload_n hx hb dX9_weigh_2 rfl (lv_at hl 2 rfl) ?_
      refine lv_aload_n hx hb dX9_weigh_3 rfl (lv_at hl 0 rfl) ?_
      refine gX_X9_51 hx hb htg hown hK hP dX9_weigh_4 ?_
      refine my_ti (y := fv 24) ((fr_3 24 rfl)) ?_
      have i_15 : 0 ≤ (fv 24).toInt ∧ (fv 24).toInt ≤ 80 := hF_fv 24
      refine lv_icmp_ge (tgt := 177) hx hb dX9_weigh_7 (by decide) (fun c_16 => ?_) (fun c_16 => ?_)
      · skip
        have k_17 := Int32.le_iff_toInt_le.mp c_16
        exact W.vret hx hb hr (fun t ht hW => ⟨⟨(fv_2, wd_6, ar_4), rfl, ⟨hF_fv_2, hA_ar_4, (fM_call (fM_rf [] _) fr_3 (by decide)), (fA_call (fA_rf [62, 63] _) fa_5 (by decide)), wf_7, (show mo_we (mx_D fv ar) (mx_G ar) (pp.toInt.toNat) (ar 64 (pp.toInt.toNat)).toInt ((fv 24).toInt.toNat) (ar 58) (ar 60) (ar 61) (ar_4 62) (ar_4 63) from by have h9 := q_10; rw [show (x_1).toInt.toNat = (fv 24).toInt.toNat from by omega] at h9; exact h9), trivial⟩, ⟨by rw [ht]; exact hP, va_K.moved hW.alike hK⟩⟩, hS.F ht⟩) hS.2.2 dX9_weigh_177
      · skip
        have i_18 : 0 ≤ x_1.toInt ∧ x_1.toInt ≤ 79 := iv_lt1 i_x_1 i_15 (Int32.not_le.mp c_16)
        have i_19 : 1 ≤ (fv 24).toInt ∧ (fv 24).toInt ≤ 80 := iv_lt2 i_x_1 i_15 (Int32.not_le.mp c_16)
        have k_20 := Int32.lt_iff_toInt_lt.mp (Int32.not_le.mp c_16)
        refine lv_aload_n hx hb dX9_weigh_10 rfl (lv_at hl 0 rfl) ?_
        refine gX_X9_9 hx hb htg hown hK hP dX9_weigh_11 ?_
        refine gX_X9_131 hx hb htg hown hK hP dX9_weigh_14 ?_
        refine lv_aload_n hx hb dX9_weigh_17 rfl (lv_at hl 0 rfl) ?_
        refine gX_X9_9 hx hb htg hown hK hP dX9_weigh_18 ?_
        refine gX_X9_54 hx hb htg hown hK hP dX9_weigh_21 ?_
        refine gX_X9_88 hx hb htg hown hK hP dX9_weigh_24 ?_
        refine lv_aload_n hx hb dX9_weigh_27 rfl (lv_at hl 0 rfl) ?_
        refine gX_X9_17 hx hb htg hown hK hP dX9_weigh_28 ?_
        refine lv_iload_n hx hb dX9_weigh_31 rfl (lv_at hl 2 rfl) ?_
        refine lX_58 hx hb hK hP (iv_in i_18 (by decide) (by decide)) dX9_weigh_32 (fun v_21 ev_21 => ?_)
        have i_22 : 0 ≤ v_21.toInt ∧ v_21.toInt ≤ 79 := ev_21 ▸ hA_ar_4 58 _
        refine lX_30 hx hb hK hP (iv_in i_22 (by decide) (by decide)) dX9_weigh_33 (fun v_23 ev_23 => ?_)
        have i_24 : 0 ≤ v_23.toInt ∧ v_23.toInt ≤ 7 := ev_23 ▸ hA_ar_4 30 _
        refine lX_2 hx hb hK hP (iv_in i_24 (by decide) (by decide)) dX9_weigh_34 (fun v_25 ev_25 => ?_)
        have i_26 : 0 ≤ v_25.toInt ∧ v_25.toInt ≤ 11 := ev_25 ▸ hA_ar_4 2 _
        refine lv_istore_n (lv' := [(3, .int v_25), (0, .ref (ob 9)), (1, .int pp), (2, .int x_1)]) hx hb dX9_weigh_35 rfl hl (by decide) rfl (fun ls hl => ?_)
        refine lv_aload_n hx hb dX9_weigh_36 rfl (lv_at hl 1 rfl) ?_
        refine gX_X9_21 hx hb htg hown hK hP dX9_weigh_37 ?_
        refine lv_iload_n hx hb dX9_weigh_40 rfl (lv_at hl 3 rfl) ?_
        refine lX_59 hx hb hK hP (iv_in i_18 (by decide) (by decide)) dX9_weigh_41 (fun v_27 ev_27 => ?_)
        have i_28 : 0 ≤ v_27.toInt ∧ v_27.toInt ≤ 1265 := (by rw [ev_27, show ar_4 59 = ar 59 from ((fA_call (fA_rf [62, 63] _) fa_5 (by decide)) 59 rfl)]; exact mx_cm_b hp_mR hp_mY (by show ((x_1.toInt.toNat : Nat) : Int) < _; omega))
        refine lv_aload_n hx hb dX9_weigh_42 rfl (lv_at hl 1 rfl) ?_
        refine lv_iload_n hx hb dX9_weigh_43 rfl (lv_at hl 2 rfl) ?_
        refine lv_iload_n hx hb dX9_weigh_44 rfl (lv_at hl 0 rfl) ?_
        refine lv_aload_n hx hb dX9_weigh_45 rfl (lv_at hl 1 rfl) ?_
        refine gX_X9_9 hx hb htg hown hK hP dX9_weigh_46 ?_
        refine gX_X9_91 hx hb htg hown hK hP dX9_weigh_49 ?_
        refine gX_X9_116 hx hb htg hown hK hP dX9_weigh_52 ?_
        refine lv_iload_n hx hb dX9_weigh_55 rfl (lv_at hl 2 rfl) ?_
        refine lX_7 hx hb hK hP (iv_in h_pp (by decide) (by decide)) dX9_weigh_56 (fun v_29 ev_29 => ?_)
        have i_30 : 0 ≤ v_29.toInt ∧ v_29.toInt ≤ 11 := ev_29 ▸ hA_ar_4 7 _
        refine va_calli (va_runV (As := [.int pp, .int v_25, .int v_29]) (rest := [.int v_27]) ⟨hx, hb, hml, hown, hts⟩ (x_walkMinutesE l dC dI H.size ob ad cA hd fv_2 wd_6 ar_4 hF_fv_2 hA_ar_4 pp v_25 v_29 h_pp i_26 i_30 (by rw [show ar_4 64 = ar 64 from ((fA_call (fA_rf [62, 63] _) fa_5 (by decide)) 64 rfl)]; exact hpc)) (cwV 3 hts (gV kw_5_134 kw_5_135 kw_5_136 kw_1_13 kw_5_137) rfl rfl rfl (by decide +kernel) ⟨Nat.le_of_ble_eq_true rfl, Nat.le_of_ble_eq_true rfl⟩) ⟨fun a U g mk q => ⟨q.1, q.2.1, q.2.2.1, va_K.moved (u := U) (U := U.calling g mk a) (Vm.Alike.refl U.vm) q.2.2.2⟩, va_recv hK hP (ci := 9) (q0 := 9) rfl rfl, fun U hU hW => ⟨rfl, by rw [hU], by rw [hU]; exact hP, va_K.moved hW.alike hK⟩⟩ rfl rfl hl.1 rfl (lv_room (Nat.le_of_ble_eq_true rfl)) dX9_weigh_57 ⟨Nat.le_of_ble_eq_true rfl, Nat.le_of_ble_eq_true rfl⟩) hS (fun q _ h9 => aX_up hS q h9) (aX_up hS) (fun r_31 u t H1 locs ht _ hw hB _ hk1 hS => ?_)
        obtain ⟨fv_34, wd_35, ar_36⟩ := u
        obtain ⟨hF_fv_34, hA_ar_36, fr_37, fa_38, wf_39, p_32, p_33, -⟩ := hw
        have wf_39 : wd_35.2 = wd_6.2 := wf_39
        have hP : va_P (dC, dI) vwCl (wsX ob ad cA fv_34 wd_35 ar_36) H1 := by have h9 := hB.1; rw [ht] at h9; exact h9
        have fr_37 : fM [] fv_2 fv_34 := fr_37
        have fa_38 : fA [] ar_4 ar_36 := fa_38
        have p_33 : r_31.toInt = mo_wk (mx_G ar_4) (ar_4 64 (pp.toInt.toNat)).toInt v_25.toInt.toNat v_29.toInt.toNat := p_33
        generalize H1 = H at hP hS ⊢
        have k_40 : r_31.toInt = mo_wk (mx_G ar) (ar 64 (pp.toInt.toNat)).toInt v_25.toInt.toNat v_29.toInt.toNat := by have h9 := p_33; rw [show mx_G ar_4 = mx_G ar from by unfold mx_G; rw [show ar_4 5 = ar 5 from ((fA_call (fA_rf [62, 63] _) fa_5 (by decide)) 5 rfl)], show ar_4 64 = ar 64 from ((fA_call (fA_rf [62, 63] _) fa_5 (by decide)) 64 rfl)] at h9; exact h9
        refine lv_iadd hx hb dX9_weigh_60 ?_
        refine lv_topi (fun v_41 ev_41 => ?_)
        have t_42 : v_41.toInt = v_27.toInt + r_31.toInt ∧ 0 ≤ v_41.toInt ∧ v_41.toInt ≤ 50001265 := iv_add ev_41 i_28 p_32 (by decide) (by decide)
        refine lv_istore (lv' := [(4, .int v_41), (3, .int v_25), (0, .ref (ob 9)), (1, .int pp), (2, .int x_1)]) hx hb dX9_weigh_61 hl (by decide) rfl (fun ls hl => ?_)
        refine lv_aload_n hx hb dX9_weigh_63 rfl (lv_at hl 2 rfl) ?_
        refine gX_X9_27 hx hb htg hown hK hP dX9_weigh_64 ?_
        refine lv_iload_n hx hb dX9_weigh_67 rfl (lv_at hl 4 rfl) ?_
        refine lX_61 hx hb hK hP (iv_in i_18 (by decide) (by decide)) dX9_weigh_68 (fun v_44 ev_44 => ?_)
        have i_45 : (-1) ≤ v_44.toInt ∧ v_44.toInt ≤ 79 := ev_44 ▸ hA_ar_36 61 _
        refine lv_iconst (v := (-1)) hx hb dX9_weigh_69 (by decide) ?_
        refine lv_icmp_ne (tgt := 78) hx hb dX9_weigh_70 (by decide) (fun c_46 => ?_) (fun c_46 => ?_)
        · skip
          have i_47 : 0 ≤ v_44.toInt ∧ v_44.toInt ≤ 79 := iv_nel i_45 (by decide) c_46
          have k_48 : ¬ v_44.toInt = (-1) := fun q => c_46 (Int32.toInt_inj.mp q)
          refine lv_aload_n hx hb dX9_weigh_78 rfl (lv_at hl 2 rfl) ?_
          refine gX_X9_33 hx hb htg hown hK hP dX9_weigh_79 ?_
          refine lv_aload_n hx hb dX9_weigh_82 rfl (lv_at hl 2 rfl) ?_
          refine gX_X9_27 hx hb htg hown hK hP dX9_weigh_83 ?_
          refine lv_iload_n hx hb dX9_weigh_86 rfl (lv_at hl 4 rfl) ?_
          refine lX_61 hx hb hK hP (iv_in i_18 (by decide) (by decide)) dX9_weigh_87 (fun v_49 ev_49 => ?_)
          obtain rfl : v_44 = v_49 := ev_44.trans ev_49.symm
          refine lX_63 hx hb hK hP (iv_in i_47 (by decide) (by decide)) dX9_weigh_88 (fun v_50 ev_50 => ?_)
          refine lv_istore (lv' := [(5, .int v_50), (4, .int v_41), (3, .int v_25), (0, .ref (ob 9)), (1, .int pp), (2, .int x_1)]) hx hb dX9_weigh_89 hl (by decide) rfl (fun ls hl => ?_)
          refine lv_aload_n hx hb dX9_weigh_91 rfl (lv_at hl 3 rfl) ?_
          refine gX_X9_30 hx hb htg hown hK hP dX9_weigh_92 ?_
          refine lv_iload_n hx hb dX9_weigh_95 rfl (lv_at hl 5 rfl) ?_
          refine lv_iload hx hb dX9_weigh_96 (lv_at hl 1 rfl) ?_
          refine lv_iload hx hb dX9_weigh_98 (lv_at hl 0 rfl) ?_
          refine va_mmin hx hb (hml.trans hl.1.symm) hown (htg (.methodLink RX9 122 Lib.Math.min.name) kw_5_140) (htg (.static Lib.Math.min.name) kw_3_151) (htg (.initialized RJ9) kw_1_16) (htg (.code Lib.Math.min.name Lib.Math.min.code 2 (some .int)) kw_3_152) (Nat.le_of_ble_eq_true rfl) (Nat.le_of_ble_eq_true rfl) (Nat.le_of_ble_eq_true rfl) (Nat.le_of_ble_eq_true rfl) dX9_weigh_100 ?_
          refine lv_topi (fun v_51 ev_51 => ?_)
          have i_52 : (-2147483648) ≤ v_51.toInt ∧ v_51.toInt ≤ 50001265 := ix_min ev_51 t_42.2 (iv_any v_50) (by decide) (by decide)
          refine sX_62 hx hb hK hP hS hd (iv_in i_18 (by decide) (by decide)) dX9_weigh_103 (fun H locs ar_53 ear_53 hP hS => ?_)
          have hA_ar_53 : rB ar_53 := rB_put hA_ar_36 ear_53 (iv_any _)
          refine lv_aload_n hx hb dX9_weigh_104 rfl (lv_at hl 3 rfl) ?_
          refine gX_X9_33 hx hb htg hown hK hP dX9_weigh_105 ?_
          refine lv_iload_n hx hb dX9_weigh_108 rfl (lv_at hl 5 rfl) ?_
          refine lv_aload_n hx hb dX9_weigh_109 rfl (lv_at hl 3 rfl) ?_
          refine gX_X9_24 hx hb htg hown hK hP dX9_weigh_110 ?_
          refine lv_iload_n hx hb dX9_weigh_113 rfl (lv_at hl 5 rfl) ?_
          refine lX_60 hx hb hK hP (iv_in i_18 (by decide) (by decide)) dX9_weigh_114 (fun v_54 ev_54 => ?_)
          have i_55 : (-1) ≤ v_54.toInt ∧ v_54.toInt ≤ 79 := ev_54 ▸ hA_ar_53 60 _
          refine lv_iconst (v := (-1)) hx hb dX9_weigh_115 (by decide) ?_
          refine lv_icmp_ne (tgt := 124) hx hb dX9_weigh_116 (by decide) (fun c_56 => ?_) (fun c_56 => ?_)
          · skip
            have i_57 : 0 ≤ v_54.toInt ∧ v_54.toInt ≤ 79 := iv_nel i_55 (by decide) c_56
            have k_58 : ¬ v_54.toInt = (-1) := fun q => c_56 (Int32.toInt_inj.mp q)
            refine lv_aload_n hx hb dX9_weigh_124 rfl (lv_at hl 3 rfl) ?_
            refine gX_X9_33 hx hb htg hown hK hP dX9_weigh_125 ?_
            refine lv_aload_n hx hb dX9_weigh_128 rfl (lv_at hl 3 rfl) ?_
            refine gX_X9_24 hx hb htg hown hK hP dX9_weigh_129 ?_
            refine lv_iload_n hx hb dX9_weigh_132 rfl (lv_at hl 5 rfl) ?_
            refine lX_60 hx hb hK hP (iv_in i_18 (by decide) (by decide)) dX9_weigh_133 (fun v_59 ev_59 => ?_)
            obtain rfl : v_54 = v_59 := ev_54.trans ev_59.symm
            refine lX_63 hx hb hK hP (iv_in i_57 (by decide) (by decide)) dX9_weigh_134 (fun v_60 ev_60 => ?_)
            refine sX_63 hx hb hK hP hS hd (iv_in i_18 (by decide) (by decide)) dX9_weigh_135 (fun H locs ar_61 ear_61 hP hS => ?_)
            have hA_ar_61 : rB ar_61 := rB_put hA_ar_53 ear_61 (iv_any _)
            refine lv_aload_n hx hb dX9_weigh_136 rfl (lv_at hl 3 rfl) ?_
            refine lv_iload_n hx hb dX9_weigh_137 rfl (lv_at hl 4 rfl) ?_
            refine lv_aload_n hx hb dX9_weigh_138 rfl (lv_at hl 3 rfl) ?_
            refine gX_X9_17 hx hb htg hown hK hP dX9_weigh_139 ?_
            refine lv_iload_n hx hb dX9_weigh_142 rfl (lv_at hl 5 rfl) ?_
            refine lX_58 hx hb hK hP (iv_in i_18 (by decide) (by decide)) dX9_weigh_143 (fun v_62 ev_62 => ?_)
            obtain rfl : v_21 = v_62 := ev_21.trans ((congrFun ((fA_put (fA_put (fA_call (fA_rf [62, 63] _) fa_38 (by decide)) ear_53 (by decide)) ear_61 (by decide)) 58 rfl) _).symm.trans ev_62.symm)
            refine va_calli (va_runV (As := [.int pp, .int v_21]) (rest := []) ⟨hx, hb, hml, hown, hts⟩ (x_hasHeardE l dC dI H.size ob ad cA hd fv_34 wd_35 ar_61 hF_fv_34 hA_ar_61 pp v_21 h_pp i_22 (mx_R_fr hp_8 (fM_call (fM_rf [] _) fr_37 (by decide)) (fA_put (fA_put (fA_call (fA_rf [62, 63] _) fa_38 (by decide)) ear_53 (by decide)) ear_61 (by decide)) rfl rfl rfl rfl rfl rfl rfl rfl rfl rfl rfl rfl rfl rfl rfl rfl rfl rfl rfl rfl rfl rfl rfl rfl rfl rfl rfl)) (cwV 2 hts (gV kw_5_141 kw_5_143 kw_p_31 kw_1_13 kw_5_144) rfl rfl rfl (by decide +kernel) ⟨Nat.le_of_ble_eq_true rfl, Nat.le_of_ble_eq_true rfl⟩) ⟨fun a U g mk q => ⟨q.1, q.2.1, q.2.2.1, va_K.moved (u := U) (U := U.calling g mk a) (Vm.Alike.refl U.vm) q.2.2.2⟩, va_recv hK hP (ci := 9) (q0 := 9) rfl rfl, fun U hU hW => ⟨rfl, by rw [hU], by rw [hU]; exact hP, va_K.moved hW.alike hK⟩⟩ rfl rfl hl.1 rfl (lv_room (Nat.le_of_ble_eq_true rfl)) dX9_weigh_144 ⟨Nat.le_of_ble_eq_true rfl, Nat.le_of_ble_eq_true rfl⟩) hS (fun q _ h9 => aX_up hS q h9) (aX_up hS) (fun r_63 u t H1 locs ht _ hw hB _ hk1 hS => ?_)
            obtain ⟨fv_66, wd_67, ar_68⟩ := u
            obtain ⟨hF_fv_66, hA_ar_68, fr_69, fa_70, wf_71, p_64, p_65, -⟩ := hw
            have wf_71 : wd_67.2 = wd_35.2 := wf_71
            have hP : va_P (dC, dI) vwCl (wsX ob ad cA fv_66 wd_67 ar_68) H1 := by have h9 := hB.1; rw [ht] at h9; exact h9
            have fr_69 : fM [] fv_34 fv_66 := fr_69
            have fa_70 : fA [] ar_61 ar_68 := fa_70
            generalize H1 = H at hP hS ⊢
            rcases p_65 with ⟨rfl, p_65⟩ | ⟨rfl, p_65⟩
            · skip
              have q_72 : ¬ mo_hd (mx_D fv_34 ar_61) (pp.toInt.toNat) (v_21.toInt.toNat) := p_65
              refine lv_if_eq (tgt := 171) hx hb dX9_weigh_147 (by decide) (fun c_73 => ?_) (fun c_73 => ?_)
              · skip
                obtain ⟨v_74, ev_74⟩ : ∃ z : Int32, z = x_1 + 1 := ⟨_, rfl⟩
                refine lv_iinc (v := v_74) (lv' := [(2, .int v_74), (5, .int v_50), (4, .int v_41), (3, .int v_25), (0, .ref (ob 9)), (1, .int pp)]) hx hb dX9_weigh_171 hl (k := 5) rfl (by rw [ev_74]; rfl) (by decide) rfl (fun ls hl => ?_)
                have t_75 : v_74.toInt = x_1.toInt + 1 ∧ 1 ≤ v_74.toInt ∧ v_74.toInt ≤ 80 := iv_addc ev_74 i_18 (by decide) (by decide) (by decide)
                refine lv_goto (tgt := 2) hx hb dX9_weigh_174 (by decide) ?_
                have z_177 : (fv_66 24).toInt = (fv 24).toInt := congrArg Int32.toInt ((fr_69 24 rfl).trans ((fr_37 24 rfl).trans ((fr_3 24 rfl))))
                have z_178 : 0 ≤ (fv_66 24).toInt ∧ (fv_66 24).toInt ≤ 80 := hF_fv_66 24
                exact ih_12 v_74 fv_66 ar_68 wd_67 _ _ ls (by omega) (iv_w t_75.2 (by decide) (by decide)) hF_fv_66 (fM_call (fM_call (fM_call (fM_rf [] _) fr_3 (by decide)) fr_37 (by decide)) fr_69 (by decide)) hA_ar_68 (fA_call (fA_put (fA_put (fA_call (fA_call (fA_rf [62, 63] _) fa_5 (by decide)) fa_38 (by decide)) ear_53 (by decide)) ear_61 (by decide)) fa_70 (by decide)) (wf_71.trans (wf_39.trans wf_7)) (mx_R_fr hp_8 (fM_call (fM_call (fM_rf [] _) fr_37 (by decide)) fr_69 (by decide)) (fA_call (fA_put (fA_put (fA_call (fA_rf [62, 63] _) fa_38 (by decide)) ear_53 (by decide)) ear_61 (by decide)) fa_70 (by decide)) rfl rfl rfl rfl rfl rfl rfl rfl rfl rfl rfl rfl rfl rfl rfl rfl rfl rfl rfl rfl rfl rfl rfl rfl rfl rfl rfl) (mx_Y_fr hp_9 (fM_call (fM_call (fM_rf [] _) fr_37 (by decide)) fr_69 (by decide)) (fA_call (fA_put (fA_put (fA_call (fA_rf [62, 63] _) fa_38 (by decide)) ear_53 (by decide)) ear_61 (by decide)) fa_70 (by decide)) rfl rfl rfl rfl rfl rfl rfl rfl rfl rfl rfl rfl rfl rfl rfl rfl rfl rfl rfl rfl rfl rfl rfl rfl rfl rfl rfl rfl rfl rfl rfl rfl) (by have p62 : ∀ i9 : Nat, ar_68 62 i9 = if i9 = (x_1.toInt.toNat) then v_51 else ar_4 62 i9 := (fun i9 => by rw [show ar_68 62 = ar_53 62 from ((fA_call (fA_put (fA_rf [63] _) ear_61 (by decide)) fa_70 (by decide)) 62 rfl), ear_53]; show (if i9 = Int32.toNatClampNeg x_1 then v_51 else ar_36 62 i9) = _; rw [show ar_36 62 = ar_4 62 from ((fA_call (fA_rf [] _) fa_38 (by decide)) 62 rfl)]; rfl); have p63 : ∀ i9 : Nat, ar_68 63 i9 = if i9 = (x_1.toInt.toNat) then v_60 else ar_4 63 i9 := (fun i9 => by rw [show ar_68 63 = ar_61 63 from ((fA_call (fA_rf [] _) fa_70 (by decide)) 63 rfl), ear_61]; show (if i9 = Int32.toNatClampNeg x_1 then v_60 else ar_53 63 i9) = _; rw [show ar_53 63 = ar_4 63 from ((fA_put (fA_call (fA_rf [62] _) fa_38 (by decide)) ear_53 (by decide)) 63 rfl)]; rfl); have ht9 : v_21 = ar 58 (x_1.toInt.toNat) := (show v_21 = ar 58 (x_1.toInt.toNat) from by rw [ev_21, show ar_4 58 = ar 58 from ((fA_call (fA_rf [62, 63] _) fa_5 (by decide)) 58 rfl)]; exact congrArg (ar 58) (show x_1.toInt.toNat = (x_1.toInt.toNat) from by omega)); have hc9 : v_27 = ar 59 (x_1.toInt.toNat) := (show v_27 = ar 59 (x_1.toInt.toNat) from by rw [ev_27, show ar_4 59 = ar 59 from ((fA_call (fA_rf [62, 63] _) fa_5 (by decide)) 59 rfl)]; exact congrArg (ar 59) (show x_1.toInt.toNat = (x_1.toInt.toNat) from by omega)); have ho9 : v_44 = ar 61 (x_1.toInt.toNat) := (show v_44 = ar 61 (x_1.toInt.toNat) from by rw [ev_44, show ar_36 61 = ar 61 from ((fA_call (fA_call (fA_rf [62, 63] _) fa_5 (by decide)) fa_38 (by decide)) 61 rfl)]; exact congrArg (ar 61) (show x_1.toInt.toNat = (x_1.toInt.toNat) from by omega)); have hh9 : v_54 = ar 60 (x_1.toInt.toNat) := (show v_54 = ar 60 (x_1.toInt.toNat) from by rw [ev_54, show ar_53 60 = ar 60 from ((fA_put (fA_call (fA_call (fA_rf [62, 63] _) fa_5 (by decide)) fa_38 (by decide)) ear_53 (by decide)) 60 rfl)]; exact congrArg (ar 60) (show x_1.toInt.toNat = (x_1.toInt.toNat) from by omega)); have h30 : v_23 = ar 30 (v_21.toInt.toNat) := (show v_23 = ar 30 (v_21.toInt.toNat) from by rw [ev_23, show ar_4 30 = ar 30 from ((fA_call (fA_rf [62, 63] _) fa_5 (by decide)) 30 rfl)]; exact congrArg (ar 30) (show v_21.toInt.toNat = (v_21.toInt.toNat) from by omega)); have h2 : v_25 = ar 2 (v_23.toInt.toNat) := (show v_25 = ar 2 (v_23.toInt.toNat) from by rw [ev_25, show ar_4 2 = ar 2 from ((fA_call (fA_rf [62, 63] _) fa_5 (by decide)) 2 rfl)]; exact congrArg (ar 2) (show v_23.toInt.toNat = (v_23.toInt.toNat) from by omega)); have h7 : v_29 = ar 7 (pp.toInt.toNat) := (show v_29 = ar 7 (pp.toInt.toNat) from by rw [ev_29, show ar_4 7 = ar 7 from ((fA_call (fA_rf [62, 63] _) fa_5 (by decide)) 7 rfl)]; exact congrArg (ar 7) (show pp.toInt.toNat = (pp.toInt.toNat) from by omega)); have hY9 := hp_mY; have hn9 : (x_1.toInt.toNat) < (fv 24).toInt.toNat := (by omega); have hft : mo_ft (mx_D fv ar) (mx_G ar) (pp.toInt.toNat) (ar 64 (pp.toInt.toNat)).toInt ((ar 58 (x_1.toInt.toNat)).toInt.toNat) = v_27.toInt + r_31.toInt := (by rw [k_40]; show mo_cm (mx_D fv ar) (mx_G ar) _ + mo_wk (mx_G ar) (ar 64 (pp.toInt.toNat)).toInt (mo_ct (mx_D fv ar) _) _ = _; rw [← (hY9.2 (x_1.toInt.toNat) hn9).1, ← hc9]; congr 1; show mo_wk (mx_G ar) (ar 64 (pp.toInt.toNat)).toInt ((ar 2 ((ar 30 ((ar 58 (x_1.toInt.toNat)).toInt.toNat)).toInt.toNat)).toInt.toNat) ((ar 7 (pp.toInt.toNat)).toInt.toNat) = _; rw [← ht9, ← h30, ← h2, ← h7]); have hri : (if (ar 61 (x_1.toInt.toNat)).toInt = -1 then 10000000 else (ar_4 63 ((ar 61 (x_1.toInt.toNat)).toInt.toNat)).toInt) = v_50.toInt := (by rw [← ho9, if_neg (by omega), ev_50, show ar_36 63 = ar_4 63 from ((fA_call (fA_rf [] _) fa_38 (by decide)) 63 rfl)]; rfl); have hxv := mo_mnI ev_51; have hxw : v_51.toInt = mo_mn (mo_ft (mx_D fv ar) (mx_G ar) (pp.toInt.toNat) (ar 64 (pp.toInt.toNat)).toInt ((ar 58 (x_1.toInt.toNat)).toInt.toNat)) (if (ar 61 (x_1.toInt.toNat)).toInt = -1 then 10000000 else (ar_4 63 ((ar 61 (x_1.toInt.toNat)).toInt.toNat)).toInt) := (by rw [hft, hri, hxv, mo_mn_comm]; congr 1; omega); have hb0 : mo_b0 (ar 60) (ar_4 63) (x_1.toInt.toNat) = v_60.toInt := (by unfold mo_b0; rw [← hh9, if_neg (by omega), ev_60, show ar_53 63 = ar_4 63 from ((fA_put (fA_call (fA_rf [62] _) fa_38 (by decide)) ear_53 (by decide)) 63 rfl)]; rfl); have hq9 : ¬ mo_hd (mx_D fv ar) (pp.toInt.toNat) ((ar 58 (x_1.toInt.toNat)).toInt.toNat) := (by rw [← ht9]; exact (by have h9 := q_72; rw [show mx_D fv_34 ar_61 = mx_D fv ar from (mx_D_fr (fM_call (fM_call (fM_rf [] _) fr_3 (by decide)) fr_37 (by decide)) (fA_put (fA_put (fA_call (fA_call (fA_rf [62, 63] _) fa_5 (by decide)) fa_38 (by decide)) ear_53 (by decide)) ear_61 (by decide)) rfl rfl)] at h9; exact h9)); have hyv : (ar_68 63 (x_1.toInt.toNat)).toInt = mo_b0 (ar 60) (ar_4 63) (x_1.toInt.toNat) := (by rw [p63, if_pos rfl, hb0]); rw [show v_74.toInt.toNat = (x_1.toInt.toNat) + 1 from by omega]; exact mo_we_s hY9 hn9 q_10 (fun j9 c9 => by rw [p62, if_neg c9]) (fun j9 c9 => by rw [p63, if_neg c9]) (by rw [p62]; exact if_pos rfl) hxw (fun w => absurd w hq9) (fun _ => hyv)) (by omega) hP hS (lv_sub hl [4, 5, 0] rfl)
              · skip
                exact absurd c_73 (by decide)
            · skip
              have q_77 : mo_hd (mx_D fv_34 ar_61) (pp.toInt.toNat) (v_21.toInt.toNat) := p_65
              refine lv_if_eq (tgt := 171) hx hb dX9_weigh_147 (by decide) (fun c_78 => ?_) (fun c_78 => ?_)
              · skip
                exact absurd c_78 (by decide)
              · skip
                refine lv_aload_n hx hb dX9_weigh_150 rfl (lv_at hl 3 rfl) ?_
                refine gX_X9_33 hx hb htg hown hK hP dX9_weigh_151 ?_
                refine lv_iload_n hx hb dX9_weigh_154 rfl (lv_at hl 5 rfl) ?_
                refine lv_aload_n hx hb dX9_weigh_155 rfl (lv_at hl 3 rfl) ?_
                refine gX_X9_33 hx hb htg hown hK hP dX9_weigh_156 ?_
                refine lv_iload_n hx hb dX9_weigh_159 rfl (lv_at hl 5 rfl) ?_
                refine lX_63 hx hb hK hP (iv_in i_18 (by decide) (by decide)) dX9_weigh_160 (fun v_79 ev_79 => ?_)
                refine lv_aload_n hx hb dX9_weigh_161 rfl (lv_at hl 3 rfl) ?_
                refine gX_X9_30 hx hb htg hown hK hP dX9_weigh_162 ?_
                refine lv_iload_n hx hb dX9_weigh_165 rfl (lv_at hl 5 rfl) ?_
                refine lX_62 hx hb hK hP (iv_in i_18 (by decide) (by decide)) dX9_weigh_166 (fun v_80 ev_80 => ?_)
                refine va_mmin hx hb (hml.trans hl.1.symm) hown (htg (.methodLink RX9 122 Lib.Math.min.name) kw_5_140) (htg (.static Lib.Math.min.name) kw_3_151) (htg (.initialized RJ9) kw_1_16) (htg (.code Lib.Math.min.name Lib.Math.min.code 2 (some .int)) kw_3_152) (Nat.le_of_ble_eq_true rfl) (Nat.le_of_ble_eq_true rfl) (Nat.le_of_ble_eq_true rfl) (Nat.le_of_ble_eq_true rfl) dX9_weigh_167 ?_
                refine lv_topi (fun v_81 ev_81 => ?_)
                refine sX_63 hx hb hK hP hS hd (iv_in i_18 (by decide) (by decide)) dX9_weigh_170 (fun H locs ar_82 ear_82 hP hS => ?_)
                have hA_ar_82 : rB ar_82 := rB_put hA_ar_68 ear_82 (iv_any _)
                obtain ⟨v_83, ev_83⟩ : ∃ z : Int32, z = x_1 + 1 := ⟨_, rfl⟩
                refine lv_iinc (v := v_83) (lv' := [(2, .int v_83), (5, .int v_50), (4, .int v_41), (3, .int v_25), (0, .ref (ob 9)), (1, .int pp)]) hx hb dX9_weigh_171 hl (k := 5) rfl (by rw [ev_83]; rfl) (by decide) rfl (fun ls hl => ?_)
                have t_84 : v_83.toInt = x_1.toInt + 1 ∧ 1 ≤ v_83.toInt ∧ v_83.toInt ≤ 80 := iv_addc ev_83 i_18 (by decide) (by decide) (by decide)
                refine lv_goto (tgt := 2) hx hb dX9_weigh_174 (by decide) ?_
                have z_179 : (fv_66 24).toInt = (fv 24).toInt := congrArg Int32.toInt ((fr_69 24 rfl).trans ((fr_37 24 rfl).trans ((fr_3 24 rfl))))
                have z_180 : 0 ≤ (fv_66 24).toInt ∧ (fv_66 24).toInt ≤ 80 := hF_fv_66 24
                exact ih_12 v_83 fv_66 ar_82 wd_67 _ _ ls (by omega) (iv_w t_84.2 (by decide) (by decide)) hF_fv_66 (fM_call (fM_call (fM_call (fM_rf [] _) fr_3 (by decide)) fr_37 (by decide)) fr_69 (by decide)) hA_ar_82 (fA_put (fA_call (fA_put (fA_put (fA_call (fA_call (fA_rf [62, 63] _) fa_5 (by decide)) fa_38 (by decide)) ear_53 (by decide)) ear_61 (by decide)) fa_70 (by decide)) ear_82 (by decide)) (wf_71.trans (wf_39.trans wf_7)) (mx_R_fr hp_8 (fM_call (fM_call (fM_rf [] _) fr_37 (by decide)) fr_69 (by decide)) (fA_put (fA_call (fA_put (fA_put (fA_call (fA_rf [62, 63] _) fa_38 (by decide)) ear_53 (by decide)) ear_61 (by decide)) fa_70 (by decide)) ear_82 (by decide)) rfl rfl rfl rfl rfl rfl rfl rfl rfl rfl rfl rfl rfl rfl rfl rfl rfl rfl rfl rfl rfl rfl rfl rfl rfl rfl rfl) (mx_Y_fr hp_9 (fM_call (fM_call (fM_rf [] _) fr_37 (by decide)) fr_69 (by decide)) (fA_put (fA_call (fA_put (fA_put (fA_call (fA_rf [62, 63] _) fa_38 (by decide)) ear_53 (by decide)) ear_61 (by decide)) fa_70 (by decide)) ear_82 (by decide)) rfl rfl rfl rfl rfl rfl rfl rfl rfl rfl rfl rfl rfl rfl rfl rfl rfl rfl rfl rfl rfl rfl rfl rfl rfl rfl rfl rfl rfl rfl rfl rfl) (by have p62 : ∀ i9 : Nat, ar_82 62 i9 = if i9 = (x_1.toInt.toNat) then v_51 else ar_4 62 i9 := (fun i9 => by rw [show ar_82 62 = ar_53 62 from ((fA_put (fA_call (fA_put (fA_rf [63] _) ear_61 (by decide)) fa_70 (by decide)) ear_82 (by decide)) 62 rfl), ear_53]; show (if i9 = Int32.toNatClampNeg x_1 then v_51 else ar_36 62 i9) = _; rw [show ar_36 62 = ar_4 62 from ((fA_call (fA_rf [] _) fa_38 (by decide)) 62 rfl)]; rfl); have p63 : ∀ i9 : Nat, ar_82 63 i9 = if i9 = (x_1.toInt.toNat) then v_81 else ar_4 63 i9 := (fun i9 => by rw [show ar_82 63 = ar_82 63 from rfl, ear_82]; show (if i9 = Int32.toNatClampNeg x_1 then v_81 else ar_68 63 i9) = _; rw [show ar_68 63 = ar_61 63 from ((fA_call (fA_rf [] _) fa_70 (by decide)) 63 rfl), ear_61]; show (if i9 = (x_1.toInt.toNat) then v_81 else if i9 = (x_1.toInt.toNat) then v_60 else ar_53 63 i9) = _; by_cases c9 : i9 = (x_1.toInt.toNat); rw [if_pos c9, if_pos c9]; rw [if_neg c9, if_neg c9, if_neg c9, show ar_53 63 = ar_4 63 from ((fA_put (fA_call (fA_rf [62] _) fa_38 (by decide)) ear_53 (by decide)) 63 rfl)]); have ht9 : v_21 = ar 58 (x_1.toInt.toNat) := (show v_21 = ar 58 (x_1.toInt.toNat) from by rw [ev_21, show ar_4 58 = ar 58 from ((fA_call (fA_rf [62, 63] _) fa_5 (by decide)) 58 rfl)]; exact congrArg (ar 58) (show x_1.toInt.toNat = (x_1.toInt.toNat) from by omega)); have hc9 : v_27 = ar 59 (x_1.toInt.toNat) := (show v_27 = ar 59 (x_1.toInt.toNat) from by rw [ev_27, show ar_4 59 = ar 59 from ((fA_call (fA_rf [62, 63] _) fa_5 (by decide)) 59 rfl)]; exact congrArg (ar 59) (show x_1.toInt.toNat = (x_1.toInt.toNat) from by omega)); have ho9 : v_44 = ar 61 (x_1.toInt.toNat) := (show v_44 = ar 61 (x_1.toInt.toNat) from by rw [ev_44, show ar_36 61 = ar 61 from ((fA_call (fA_call (fA_rf [62, 63] _) fa_5 (by decide)) fa_38 (by decide)) 61 rfl)]; exact congrArg (ar 61) (show x_1.toInt.toNat = (x_1.toInt.toNat) from by omega)); have hh9 : v_54 = ar 60 (x_1.toInt.toNat) := (show v_54 = ar 60 (x_1.toInt.toNat) from by rw [ev_54, show ar_53 60 = ar 60 from ((fA_put (fA_call (fA_call (fA_rf [62, 63] _) fa_5 (by decide)) fa_38 (by decide)) ear_53 (by decide)) 60 rfl)]; exact congrArg (ar 60) (show x_1.toInt.toNat = (x_1.toInt.toNat) from by omega)); have h30 : v_23 = ar 30 (v_21.toInt.toNat) := (show v_23 = ar 30 (v_21.toInt.toNat) from by rw [ev_23, show ar_4 30 = ar 30 from ((fA_call (fA_rf [62, 63] _) fa_5 (by decide)) 30 rfl)]; exact congrArg (ar 30) (show v_21.toInt.toNat = (v_21.toInt.toNat) from by omega)); have h2 : v_25 = ar 2 (v_23.toInt.toNat) := (show v_25 = ar 2 (v_23.toInt.toNat) from by rw [ev_25, show ar_4 2 = ar 2 from ((fA_call (fA_rf [62, 63] _) fa_5 (by decide)) 2 rfl)]; exact congrArg (ar 2) (show v_23.toInt.toNat = (v_23.toInt.toNat) from by omega)); have h7 : v_29 = ar 7 (pp.toInt.toNat) := (show v_29 = ar 7 (pp.toInt.toNat) from by rw [ev_29, show ar_4 7 = ar 7 from ((fA_call (fA_rf [62, 63] _) fa_5 (by decide)) 7 rfl)]; exact congrArg (ar 7) (show pp.toInt.toNat = (pp.toInt.toNat) from by omega)); have hY9 := hp_mY; have hn9 : (x_1.toInt.toNat) < (fv 24).toInt.toNat := (by omega); have hft : mo_ft (mx_D fv ar) (mx_G ar) (pp.toInt.toNat) (ar 64 (pp.toInt.toNat)).toInt ((ar 58 (x_1.toInt.toNat)).toInt.toNat) = v_27.toInt + r_31.toInt := (by rw [k_40]; show mo_cm (mx_D fv ar) (mx_G ar) _ + mo_wk (mx_G ar) (ar 64 (pp.toInt.toNat)).toInt (mo_ct (mx_D fv ar) _) _ = _; rw [← (hY9.2 (x_1.toInt.toNat) hn9).1, ← hc9]; congr 1; show mo_wk (mx_G ar) (ar 64 (pp.toInt.toNat)).toInt ((ar 2 ((ar 30 ((ar 58 (x_1.toInt.toNat)).toInt.toNat)).toInt.toNat)).toInt.toNat) ((ar 7 (pp.toInt.toNat)).toInt.toNat) = _; rw [← ht9, ← h30, ← h2, ← h7]); have hri : (if (ar 61 (x_1.toInt.toNat)).toInt = -1 then 10000000 else (ar_4 63 ((ar 61 (x_1.toInt.toNat)).toInt.toNat)).toInt) = v_50.toInt := (by rw [← ho9, if_neg (by omega), ev_50, show ar_36 63 = ar_4 63 from ((fA_call (fA_rf [] _) fa_38 (by decide)) 63 rfl)]; rfl); have hxv := mo_mnI ev_51; have hxw : v_51.toInt = mo_mn (mo_ft (mx_D fv ar) (mx_G ar) (pp.toInt.toNat) (ar 64 (pp.toInt.toNat)).toInt ((ar 58 (x_1.toInt.toNat)).toInt.toNat)) (if (ar 61 (x_1.toInt.toNat)).toInt = -1 then 10000000 else (ar_4 63 ((ar 61 (x_1.toInt.toNat)).toInt.toNat)).toInt) := (by rw [hft, hri, hxv, mo_mn_comm]; congr 1; omega); have hb0 : mo_b0 (ar 60) (ar_4 63) (x_1.toInt.toNat) = v_60.toInt := (by unfold mo_b0; rw [← hh9, if_neg (by omega), ev_60, show ar_53 63 = ar_4 63 from ((fA_put (fA_call (fA_rf [62] _) fa_38 (by decide)) ear_53 (by decide)) 63 rfl)]; rfl); have hq9 : mo_hd (mx_D fv ar) (pp.toInt.toNat) ((ar 58 (x_1.toInt.toNat)).toInt.toNat) := (by rw [← ht9]; exact (by have h9 := q_77; rw [show mx_D fv_34 ar_61 = mx_D fv ar from (mx_D_fr (fM_call (fM_call (fM_rf [] _) fr_3 (by decide)) fr_37 (by decide)) (fA_put (fA_put (fA_call (fA_call (fA_rf [62, 63] _) fa_5 (by decide)) fa_38 (by decide)) ear_53 (by decide)) ear_61 (by decide)) rfl rfl)] at h9; exact h9)); have hby := mo_mnI ev_81; have hyv : (ar_82 63 (x_1.toInt.toNat)).toInt = mo_mn (mo_b0 (ar 60) (ar_4 63) (x_1.toInt.toNat)) v_51.toInt := (by rw [p63, if_pos rfl, hby, hb0, mo_mn_comm]; rw [(show v_79 = v_60 from by rw [ev_79, show ar_68 63 = ar_61 63 from ((fA_call (fA_rf [] _) fa_70 (by decide)) 63 rfl), ear_61]; show (if Int32.toNatClampNeg x_1 = Int32.toNatClampNeg x_1 then _ else _) = _; exact if_pos rfl), (show v_80 = v_51 from by rw [ev_80, show ar_68 62 = ar_53 62 from ((fA_call (fA_put (fA_rf [63] _) ear_61 (by decide)) fa_70 (by decide)) 62 rfl), ear_53]; show (if Int32.toNatClampNeg x_1 = Int32.toNatClampNeg x_1 then _ else _) = _; exact if_pos rfl)]); rw [show v_83.toInt.toNat = (x_1.toInt.toNat) + 1 from by omega]; exact mo_we_s hY9 hn9 q_10 (fun j9 c9 => by rw [p62, if_neg c9]) (fun j9 c9 => by rw [p63, if_neg c9]) (by rw [p62]; exact if_pos rfl) hxw (fun _ => hyv) (fun w => absurd hq9 w)) (by omega) hP hS (lv_sub hl [4, 5, 0] rfl)
          · skip
            have i_86 : (-1) ≤ v_54.toInt ∧ v_54.toInt ≤ (-1) := iv_eq1 (⟨by decide, by decide⟩ : (-1 : Int) ≤ ((-1) : Int32).toInt ∧ ((-1) : Int32).toInt ≤ -1) c_56
            refine lv_ldc hx hb hown (htg (.constant RX9 69 10000000) kw_5_99) dX9_weigh_119 ?_
            refine lv_goto (tgt := 135) hx hb dX9_weigh_121 (by decide) ?_
            refine sX_63 hx hb hK hP hS hd (iv_in i_18 (by decide) (by decide)) dX9_weigh_135 (fun H locs ar_88 ear_88 hP hS => ?_)
            have hA_ar_88 : rB ar_88 := rB_put hA_ar_53 ear_88 (iv_any _)
            refine lv_aload_n hx hb dX9_weigh_136 rfl (lv_at hl 3 rfl) ?_
            refine lv_iload_n hx hb dX9_weigh_137 rfl (lv_at hl 4 rfl) ?_
            refine lv_aload_n hx hb dX9_weigh_138 rfl (lv_at hl 3 rfl) ?_
            refine gX_X9_17 hx hb htg hown hK hP dX9_weigh_139 ?_
            refine lv_iload_n hx hb dX9_weigh_142 rfl (lv_at hl 5 rfl) ?_
            refine lX_58 hx hb hK hP (iv_in i_18 (by decide) (by decide)) dX9_weigh_143 (fun v_89 ev_89 => ?_)
            obtain rfl : v_21 = v_89 := ev_21.trans ((congrFun ((fA_put (fA_put (fA_call (fA_rf [62, 63] _) fa_38 (by decide)) ear_53 (by decide)) ear_88 (by decide)) 58 rfl) _).symm.trans ev_89.symm)
            refine va_calli (va_runV (As := [.int pp, .int v_21]) (rest := []) ⟨hx, hb, hml, hown, hts⟩ (x_hasHeardE l dC dI H.size ob ad cA hd fv_34 wd_35 ar_88 hF_fv_34 hA_ar_88 pp v_21 h_pp i_22 (mx_R_fr hp_8 (fM_call (fM_rf [] _) fr_37 (by decide)) (fA_put (fA_put (fA_call (fA_rf [62, 63] _) fa_38 (by decide)) ear_53 (by decide)) ear_88 (by decide)) rfl rfl rfl rfl rfl rfl rfl rfl rfl rfl rfl rfl rfl rfl rfl rfl rfl rfl rfl rfl rfl rfl rfl rfl rfl rfl rfl)) (cwV 2 hts (gV kw_5_141 kw_5_143 kw_p_31 kw_1_13 kw_5_144) rfl rfl rfl (by decide +kernel) ⟨Nat.le_of_ble_eq_true rfl, Nat.le_of_ble_eq_true rfl⟩) ⟨fun a U g mk q => ⟨q.1, q.2.1, q.2.2.1, va_K.moved (u := U) (U := U.calling g mk a) (Vm.Alike.refl U.vm) q.2.2.2⟩, va_recv hK hP (ci := 9) (q0 := 9) rfl rfl, fun U hU hW => ⟨rfl, by rw [hU], by rw [hU]; exact hP, va_K.moved hW.alike hK⟩⟩ rfl rfl hl.1 rfl (lv_room (Nat.le_of_ble_eq_true rfl)) dX9_weigh_144 ⟨Nat.le_of_ble_eq_true rfl, Nat.le_of_ble_eq_true rfl⟩) hS (fun q _ h9 => aX_up hS q h9) (aX_up hS) (fun r_90 u t H1 locs ht _ hw hB _ hk1 hS => ?_)
            obtain ⟨fv_93, wd_94, ar_95⟩ := u
            obtain ⟨hF_fv_93, hA_ar_95, fr_96, fa_97, wf_98, p_91, p_92, -⟩ := hw
            have wf_98 : wd_94.2 = wd_35.2 := wf_98
            have hP : va_P (dC, dI) vwCl (wsX ob ad cA fv_93 wd_94 ar_95) H1 := by have h9 := hB.1; rw [ht] at h9; exact h9
            have fr_96 : fM [] fv_34 fv_93 := fr_96
            have fa_97 : fA [] ar_88 ar_95 := fa_97
            generalize H1 = H at hP hS ⊢
            rcases p_92 with ⟨rfl, p_92⟩ | ⟨rfl, p_92⟩
            · skip
              have q_99 : ¬ mo_hd (mx_D fv_34 ar_88) (pp.toInt.toNat) (v_21.toInt.toNat) := p_92
              refine lv_if_eq (tgt := 171) hx hb dX9_weigh_147 (by decide) (fun c_100 => ?_) (fun c_100 => ?_)
              · skip
                obtain ⟨v_101, ev_101⟩ : ∃ z : Int32, z = x_1 + 1 := ⟨_, rfl⟩
                refine lv_iinc (v := v_101) (lv' := [(2, .int v_101), (5, .int v_50), (4, .int v_41), (3, .int v_25), (0, .ref (ob 9)), (1, .int pp)]) hx hb dX9_weigh_171 hl (k := 5) rfl (by rw [ev_101]; rfl) (by decide) rfl (fun ls hl => ?_)
                have t_102 : v_101.toInt = x_1.toInt + 1 ∧ 1 ≤ v_101.toInt ∧ v_101.toInt ≤ 80 := iv_addc ev_101 i_18 (by decide) (by decide) (by decide)
                refine lv_goto (tgt := 2) hx hb dX9_weigh_174 (by decide) ?_
                have z_181 : (fv_93 24).toInt = (fv 24).toInt := congrArg Int32.toInt ((fr_96 24 rfl).trans ((fr_37 24 rfl).trans ((fr_3 24 rfl))))
                have z_182 : 0 ≤ (fv_93 24).toInt ∧ (fv_93 24).toInt ≤ 80 := hF_fv_93 24
                exact ih_12 v_101 fv_93 ar_95 wd_94 _ _ ls (by omega) (iv_w t_102.2 (by decide) (by decide)) hF_fv_93 (fM_call (fM_call (fM_call (fM_rf [] _) fr_3 (by decide)) fr_37 (by decide)) fr_96 (by decide)) hA_ar_95 (fA_call (fA_put (fA_put (fA_call (fA_call (fA_rf [62, 63] _) fa_5 (by decide)) fa_38 (by decide)) ear_53 (by decide)) ear_88 (by decide)) fa_97 (by decide)) (wf_98.trans (wf_39.trans wf_7)) (mx_R_fr hp_8 (fM_call (fM_call (fM_rf [] _) fr_37 (by decide)) fr_96 (by decide)) (fA_call (fA_put (fA_put (fA_call (fA_rf [62, 63] _) fa_38 (by decide)) ear_53 (by decide)) ear_88 (by decide)) fa_97 (by decide)) rfl rfl rfl rfl rfl rfl rfl rfl rfl rfl rfl rfl rfl rfl rfl rfl rfl rfl rfl rfl rfl rfl rfl rfl rfl rfl rfl) (mx_Y_fr hp_9 (fM_call (fM_call (fM_rf [] _) fr_37 (by decide)) fr_96 (by decide)) (fA_call (fA_put (fA_put (fA_call (fA_rf [62, 63] _) fa_38 (by decide)) ear_53 (by decide)) ear_88 (by decide)) fa_97 (by decide)) rfl rfl rfl rfl rfl rfl rfl rfl rfl rfl rfl rfl rfl rfl rfl rfl rfl rfl rfl rfl rfl rfl rfl rfl rfl rfl rfl rfl rfl rfl rfl rfl) (by have p62 : ∀ i9 : Nat, ar_95 62 i9 = if i9 = (x_1.toInt.toNat) then v_51 else ar_4 62 i9 := (fun i9 => by rw [show ar_95 62 = ar_53 62 from ((fA_call (fA_put (fA_rf [63] _) ear_88 (by decide)) fa_97 (by decide)) 62 rfl), ear_53]; show (if i9 = Int32.toNatClampNeg x_1 then v_51 else ar_36 62 i9) = _; rw [show ar_36 62 = ar_4 62 from ((fA_call (fA_rf [] _) fa_38 (by decide)) 62 rfl)]; rfl); have p63 : ∀ i9 : Nat, ar_95 63 i9 = if i9 = (x_1.toInt.toNat) then (10000000 : Int32) else ar_4 63 i9 := (fun i9 => by rw [show ar_95 63 = ar_88 63 from ((fA_call (fA_rf [] _) fa_97 (by decide)) 63 rfl), ear_88]; show (if i9 = Int32.toNatClampNeg x_1 then (10000000 : Int32) else ar_53 63 i9) = _; rw [show ar_53 63 = ar_4 63 from ((fA_put (fA_call (fA_rf [62] _) fa_38 (by decide)) ear_53 (by decide)) 63 rfl)]; rfl); have ht9 : v_21 = ar 58 (x_1.toInt.toNat) := (show v_21 = ar 58 (x_1.toInt.toNat) from by rw [ev_21, show ar_4 58 = ar 58 from ((fA_call (fA_rf [62, 63] _) fa_5 (by decide)) 58 rfl)]; exact congrArg (ar 58) (show x_1.toInt.toNat = (x_1.toInt.toNat) from by omega)); have hc9 : v_27 = ar 59 (x_1.toInt.toNat) := (show v_27 = ar 59 (x_1.toInt.toNat) from by rw [ev_27, show ar_4 59 = ar 59 from ((fA_call (fA_rf [62, 63] _) fa_5 (by decide)) 59 rfl)]; exact congrArg (ar 59) (show x_1.toInt.toNat = (x_1.toInt.toNat) from by omega)); have ho9 : v_44 = ar 61 (x_1.toInt.toNat) := (show v_44 = ar 61 (x_1.toInt.toNat) from by rw [ev_44, show ar_36 61 = ar 61 from ((fA_call (fA_call (fA_rf [62, 63] _) fa_5 (by decide)) fa_38 (by decide)) 61 rfl)]; exact congrArg (ar 61) (show x_1.toInt.toNat = (x_1.toInt.toNat) from by omega)); have hh9 : v_54 = ar 60 (x_1.toInt.toNat) := (show v_54 = ar 60 (x_1.toInt.toNat) from by rw [ev_54, show ar_53 60 = ar 60 from ((fA_put (fA_call (fA_call (fA_rf [62, 63] _) fa_5 (by decide)) fa_38 (by decide)) ear_53 (by decide)) 60 rfl)]; exact congrArg (ar 60) (show x_1.toInt.toNat = (x_1.toInt.toNat) from by omega)); have h30 : v_23 = ar 30 (v_21.toInt.toNat) := (show v_23 = ar 30 (v_21.toInt.toNat) from by rw [ev_23, show ar_4 30 = ar 30 from ((fA_call (fA_rf [62, 63] _) fa_5 (by decide)) 30 rfl)]; exact congrArg (ar 30) (show v_21.toInt.toNat = (v_21.toInt.toNat) from by omega)); have h2 : v_25 = ar 2 (v_23.toInt.toNat) := (show v_25 = ar 2 (v_23.toInt.toNat) from by rw [ev_25, show ar_4 2 = ar 2 from ((fA_call (fA_rf [62, 63] _) fa_5 (by decide)) 2 rfl)]; exact congrArg (ar 2) (show v_23.toInt.toNat = (v_23.toInt.toNat) from by omega)); have h7 : v_29 = ar 7 (pp.toInt.toNat) := (show v_29 = ar 7 (pp.toInt.toNat) from by rw [ev_29, show ar_4 7 = ar 7 from ((fA_call (fA_rf [62, 63] _) fa_5 (by decide)) 7 rfl)]; exact congrArg (ar 7) (show pp.toInt.toNat = (pp.toInt.toNat) from by omega)); have hY9 := hp_mY; have hn9 : (x_1.toInt.toNat) < (fv 24).toInt.toNat := (by omega); have hft : mo_ft (mx_D fv ar) (mx_G ar) (pp.toInt.toNat) (ar 64 (pp.toInt.toNat)).toInt ((ar 58 (x_1.toInt.toNat)).toInt.toNat) = v_27.toInt + r_31.toInt := (by rw [k_40]; show mo_cm (mx_D fv ar) (mx_G ar) _ + mo_wk (mx_G ar) (ar 64 (pp.toInt.toNat)).toInt (mo_ct (mx_D fv ar) _) _ = _; rw [← (hY9.2 (x_1.toInt.toNat) hn9).1, ← hc9]; congr 1; show mo_wk (mx_G ar) (ar 64 (pp.toInt.toNat)).toInt ((ar 2 ((ar 30 ((ar 58 (x_1.toInt.toNat)).toInt.toNat)).toInt.toNat)).toInt.toNat) ((ar 7 (pp.toInt.toNat)).toInt.toNat) = _; rw [← ht9, ← h30, ← h2, ← h7]); have hri : (if (ar 61 (x_1.toInt.toNat)).toInt = -1 then 10000000 else (ar_4 63 ((ar 61 (x_1.toInt.toNat)).toInt.toNat)).toInt) = v_50.toInt := (by rw [← ho9, if_neg (by omega), ev_50, show ar_36 63 = ar_4 63 from ((fA_call (fA_rf [] _) fa_38 (by decide)) 63 rfl)]; rfl); have hxv := mo_mnI ev_51; have hxw : v_51.toInt = mo_mn (mo_ft (mx_D fv ar) (mx_G ar) (pp.toInt.toNat) (ar 64 (pp.toInt.toNat)).toInt ((ar 58 (x_1.toInt.toNat)).toInt.toNat)) (if (ar 61 (x_1.toInt.toNat)).toInt = -1 then 10000000 else (ar_4 63 ((ar 61 (x_1.toInt.toNat)).toInt.toNat)).toInt) := (by rw [hft, hri, hxv, mo_mn_comm]; congr 1; omega); have hb0 : mo_b0 (ar 60) (ar_4 63) (x_1.toInt.toNat) = (10000000 : Int32).toInt := (by unfold mo_b0; rw [← hh9, if_pos (by omega)]; decide); have hq9 : ¬ mo_hd (mx_D fv ar) (pp.toInt.toNat) ((ar 58 (x_1.toInt.toNat)).toInt.toNat) := (by rw [← ht9]; exact (by have h9 := q_99; rw [show mx_D fv_34 ar_88 = mx_D fv ar from (mx_D_fr (fM_call (fM_call (fM_rf [] _) fr_3 (by decide)) fr_37 (by decide)) (fA_put (fA_put (fA_call (fA_call (fA_rf [62, 63] _) fa_5 (by decide)) fa_38 (by decide)) ear_53 (by decide)) ear_88 (by decide)) rfl rfl)] at h9; exact h9)); have hyv : (ar_95 63 (x_1.toInt.toNat)).toInt = mo_b0 (ar 60) (ar_4 63) (x_1.toInt.toNat) := (by rw [p63, if_pos rfl, hb0]); rw [show v_101.toInt.toNat = (x_1.toInt.toNat) + 1 from by omega]; exact mo_we_s hY9 hn9 q_10 (fun j9 c9 => by rw [p62, if_neg c9]) (fun j9 c9 => by rw [p63, if_neg c9]) (by rw [p62]; exact if_pos rfl) hxw (fun w => absurd w hq9) (fun _ => hyv)) (by omega) hP hS (lv_sub hl [4, 5, 0] rfl)
              · skip
                exact absurd c_100 (by decide)
            · skip
              have q_104 : mo_hd (mx_D fv_34 ar_88) (pp.toInt.toNat) (v_21.toInt.toNat) := p_92
              refine lv_if_eq (tgt := 171) hx hb dX9_weigh_147 (by decide) (fun c_105 => ?_) (fun c_105 => ?_)
              · skip
                exact absurd c_105 (by decide)
              · skip
                refine lv_aload_n hx hb dX9_weigh_150 rfl (lv_at hl 3 rfl) ?_
                refine gX_X9_33 hx hb htg hown hK hP dX9_weigh_151 ?_
                refine lv_iload_n hx hb dX9_weigh_154 rfl (lv_at hl 5 rfl) ?_
                refine lv_aload_n hx hb dX9_weigh_155 rfl (lv_at hl 3 rfl) ?_
                refine gX_X9_33 hx hb htg hown hK hP dX9_weigh_156 ?_
                refine lv_iload_n hx hb dX9_weigh_159 rfl (lv_at hl 5 rfl) ?_
                refine lX_63 hx hb hK hP (iv_in i_18 (by decide) (by decide)) dX9_weigh_160 (fun v_106 ev_106 => ?_)
                refine lv_aload_n hx hb dX9_weigh_161 rfl (lv_at hl 3 rfl) ?_
                refine gX_X9_30 hx hb htg hown hK hP dX9_weigh_162 ?_
                refine lv_iload_n hx hb dX9_weigh_165 rfl (lv_at hl 5 rfl) ?_
                refine lX_62 hx hb hK hP (iv_in i_18 (by decide) (by decide)) dX9_weigh_166 (fun v_107 ev_107 => ?_)
                refine va_mmin hx hb (hml.trans hl.1.symm) hown (htg (.methodLink RX9 122 Lib.Math.min.name) kw_5_140) (htg (.static Lib.Math.min.name) kw_3_151) (htg (.initialized RJ9) kw_1_16) (htg (.code Lib.Math.min.name Lib.Math.min.code 2 (some .int)) kw_3_152) (Nat.le_of_ble_eq_true rfl) (Nat.le_of_ble_eq_true rfl) (Nat.le_of_ble_eq_true rfl) (Nat.le_of_ble_eq_true rfl) dX9_weigh_167 ?_
                refine lv_topi (fun v_108 ev_108 => ?_)
                refine sX_63 hx hb hK hP hS hd (iv_in i_18 (by decide) (by decide)) dX9_weigh_170 (fun H locs ar_109 ear_109 hP hS => ?_)
                have hA_ar_109 : rB ar_109 := rB_put hA_ar_95 ear_109 (iv_any _)
                obtain ⟨v_110, ev_110⟩ : ∃ z : Int32, z = x_1 + 1 := ⟨_, rfl⟩
                refine lv_iinc (v := v_110) (lv' := [(2, .int v_110), (5, .int v_50), (4, .int v_41), (3, .int v_25), (0, .ref (ob 9)), (1, .int pp)]) hx hb dX9_weigh_171 hl (k := 5) rfl (by rw [ev_110]; rfl) (by decide) rfl (fun ls hl => ?_)
                have t_111 : v_110.toInt = x_1.toInt + 1 ∧ 1 ≤ v_110.toInt ∧ v_110.toInt ≤ 80 := iv_addc ev_110 i_18 (by decide) (by decide) (by decide)
                refine lv_goto (tgt := 2) hx hb dX9_weigh_174 (by decide) ?_
                have z_183 : (fv_93 24).toInt = (fv 24).toInt := congrArg Int32.toInt ((fr_96 24 rfl).trans ((fr_37 24 rfl).trans ((fr_3 24 rfl))))
                have z_184 : 0 ≤ (fv_93 24).toInt ∧ (fv_93 24).toInt ≤ 80 := hF_fv_93 24
                exact ih_12 v_110 fv_93 ar_109 wd_94 _ _ ls (by omega) (iv_w t_111.2 (by decide) (by decide)) hF_fv_93 (fM_call (fM_call (fM_call (fM_rf [] _) fr_3 (by decide)) fr_37 (by decide)) fr_96 (by decide)) hA_ar_109 (fA_put (fA_call (fA_put (fA_put (fA_call (fA_call (fA_rf [62, 63] _) fa_5 (by decide)) fa_38 (by decide)) ear_53 (by decide)) ear_88 (by decide)) fa_97 (by decide)) ear_109 (by decide)) (wf_98.trans (wf_39.trans wf_7)) (mx_R_fr hp_8 (fM_call (fM_call (fM_rf [] _) fr_37 (by decide)) fr_96 (by decide)) (fA_put (fA_call (fA_put (fA_put (fA_call (fA_rf [62, 63] _) fa_38 (by decide)) ear_53 (by decide)) ear_88 (by decide)) fa_97 (by decide)) ear_109 (by decide)) rfl rfl rfl rfl rfl rfl rfl rfl rfl rfl rfl rfl rfl rfl rfl rfl rfl rfl rfl rfl rfl rfl rfl rfl rfl rfl rfl) (mx_Y_fr hp_9 (fM_call (fM_call (fM_rf [] _) fr_37 (by decide)) fr_96 (by decide)) (fA_put (fA_call (fA_put (fA_put (fA_call (fA_rf [62, 63] _) fa_38 (by decide)) ear_53 (by decide)) ear_88 (by decide)) fa_97 (by decide)) ear_109 (by decide)) rfl rfl rfl rfl rfl rfl rfl rfl rfl rfl rfl rfl rfl rfl rfl rfl rfl rfl rfl rfl rfl rfl rfl rfl rfl rfl rfl rfl rfl rfl rfl rfl) (by have p62 : ∀ i9 : Nat, ar_109 62 i9 = if i9 = (x_1.toInt.toNat) then v_51 else ar_4 62 i9 := (fun i9 => by rw [show ar_109 62 = ar_53 62 from ((fA_put (fA_call (fA_put (fA_rf [63] _) ear_88 (by decide)) fa_97 (by decide)) ear_109 (by decide)) 62 rfl), ear_53]; show (if i9 = Int32.toNatClampNeg x_1 then v_51 else ar_36 62 i9) = _; rw [show ar_36 62 = ar_4 62 from ((fA_call (fA_rf [] _) fa_38 (by decide)) 62 rfl)]; rfl); have p63 : ∀ i9 : Nat, ar_109 63 i9 = if i9 = (x_1.toInt.toNat) then v_108 else ar_4 63 i9 := (fun i9 => by rw [show ar_109 63 = ar_109 63 from rfl, ear_109]; show (if i9 = Int32.toNatClampNeg x_1 then v_108 else ar_95 63 i9) = _; rw [show ar_95 63 = ar_88 63 from ((fA_call (fA_rf [] _) fa_97 (by decide)) 63 rfl), ear_88]; show (if i9 = (x_1.toInt.toNat) then v_108 else if i9 = (x_1.toInt.toNat) then (10000000 : Int32) else ar_53 63 i9) = _; by_cases c9 : i9 = (x_1.toInt.toNat); rw [if_pos c9, if_pos c9]; rw [if_neg c9, if_neg c9, if_neg c9, show ar_53 63 = ar_4 63 from ((fA_put (fA_call (fA_rf [62] _) fa_38 (by decide)) ear_53 (by decide)) 63 rfl)]); have ht9 : v_21 = ar 58 (x_1.toInt.toNat) := (show v_21 = ar 58 (x_1.toInt.toNat) from by rw [ev_21, show ar_4 58 = ar 58 from ((fA_call (fA_rf [62, 63] _) fa_5 (by decide)) 58 rfl)]; exact congrArg (ar 58) (show x_1.toInt.toNat = (x_1.toInt.toNat) from by omega)); have hc9 : v_27 = ar 59 (x_1.toInt.toNat) := (show v_27 = ar 59 (x_1.toInt.toNat) from by rw [ev_27, show ar_4 59 = ar 59 from ((fA_call (fA_rf [62, 63] _) fa_5 (by decide)) 59 rfl)]; exact congrArg (ar 59) (show x_1.toInt.toNat = (x_1.toInt.toNat) from by omega)); have ho9 : v_44 = ar 61 (x_1.toInt.toNat) := (show v_44 = ar 61 (x_1.toInt.toNat) from by rw [ev_44, show ar_36 61 = ar 61 from ((fA_call (fA_call (fA_rf [62, 63] _) fa_5 (by decide)) fa_38 (by decide)) 61 rfl)]; exact congrArg (ar 61) (show x_1.toInt.toNat = (x_1.toInt.toNat) from by omega)); have hh9 : v_54 = ar 60 (x_1.toInt.toNat) := (show v_54 = ar 60 (x_1.toInt.toNat) from by rw [ev_54, show ar_53 60 = ar 60 from ((fA_put (fA_call (fA_call (fA_rf [62, 63] _) fa_5 (by decide)) fa_38 (by decide)) ear_53 (by decide)) 60 rfl)]; exact congrArg (ar 60) (show x_1.toInt.toNat = (x_1.toInt.toNat) from by omega)); have h30 : v_23 = ar 30 (v_21.toInt.toNat) := (show v_23 = ar 30 (v_21.toInt.toNat) from by rw [ev_23, show ar_4 30 = ar 30 from ((fA_call (fA_rf [62, 63] _) fa_5 (by decide)) 30 rfl)]; exact congrArg (ar 30) (show v_21.toInt.toNat = (v_21.toInt.toNat) from by omega)); have h2 : v_25 = ar 2 (v_23.toInt.toNat) := (show v_25 = ar 2 (v_23.toInt.toNat) from by rw [ev_25, show ar_4 2 = ar 2 from ((fA_call (fA_rf [62, 63] _) fa_5 (by decide)) 2 rfl)]; exact congrArg (ar 2) (show v_23.toInt.toNat = (v_23.toInt.toNat) from by omega)); have h7 : v_29 = ar 7 (pp.toInt.toNat) := (show v_29 = ar 7 (pp.toInt.toNat) from by rw [ev_29, show ar_4 7 = ar 7 from ((fA_call (fA_rf [62, 63] _) fa_5 (by decide)) 7 rfl)]; exact congrArg (ar 7) (show pp.toInt.toNat = (pp.toInt.toNat) from by omega)); have hY9 := hp_mY; have hn9 : (x_1.toInt.toNat) < (fv 24).toInt.toNat := (by omega); have hft : mo_ft (mx_D fv ar) (mx_G ar) (pp.toInt.toNat) (ar 64 (pp.toInt.toNat)).toInt ((ar 58 (x_1.toInt.toNat)).toInt.toNat) = v_27.toInt + r_31.toInt := (by rw [k_40]; show mo_cm (mx_D fv ar) (mx_G ar) _ + mo_wk (mx_G ar) (ar 64 (pp.toInt.toNat)).toInt (mo_ct (mx_D fv ar) _) _ = _; rw [← (hY9.2 (x_1.toInt.toNat) hn9).1, ← hc9]; congr 1; show mo_wk (mx_G ar) (ar 64 (pp.toInt.toNat)).toInt ((ar 2 ((ar 30 ((ar 58 (x_1.toInt.toNat)).toInt.toNat)).toInt.toNat)).toInt.toNat) ((ar 7 (pp.toInt.toNat)).toInt.toNat) = _; rw [← ht9, ← h30, ← h2, ← h7]); have hri : (if (ar 61 (x_1.toInt.toNat)).toInt = -1 then 10000000 else (ar_4 63 ((ar 61 (x_1.toInt.toNat)).toInt.toNat)).toInt) = v_50.toInt := (by rw [← ho9, if_neg (by omega), ev_50, show ar_36 63 = ar_4 63 from ((fA_call (fA_rf [] _) fa_38 (by decide)) 63 rfl)]; rfl); have hxv := mo_mnI ev_51; have hxw : v_51.toInt = mo_mn (mo_ft (mx_D fv ar) (mx_G ar) (pp.toInt.toNat) (ar 64 (pp.toInt.toNat)).toInt ((ar 58 (x_1.toInt.toNat)).toInt.toNat)) (if (ar 61 (x_1.toInt.toNat)).toInt = -1 then 10000000 else (ar_4 63 ((ar 61 (x_1.toInt.toNat)).toInt.toNat)).toInt) := (by rw [hft, hri, hxv, mo_mn_comm]; congr 1; omega); have hb0 : mo_b0 (ar 60) (ar_4 63) (x_1.toInt.toNat) = (10000000 : Int32).toInt := (by unfold mo_b0; rw [← hh9, if_pos (by omega)]; decide); have hq9 : mo_hd (mx_D fv ar) (pp.toInt.toNat) ((ar 58 (x_1.toInt.toNat)).toInt.toNat) := (by rw [← ht9]; exact (by have h9 := q_104; rw [show mx_D fv_34 ar_88 = mx_D fv ar from (mx_D_fr (fM_call (fM_call (fM_rf [] _) fr_3 (by decide)) fr_37 (by decide)) (fA_put (fA_put (fA_call (fA_call (fA_rf [62, 63] _) fa_5 (by decide)) fa_38 (by decide)) ear_53 (by decide)) ear_88 (by decide)) rfl rfl)] at h9; exact h9)); have hby := mo_mnI ev_108; have hyv : (ar_109 63 (x_1.toInt.toNat)).toInt = mo_mn (mo_b0 (ar 60) (ar_4 63) (x_1.toInt.toNat)) v_51.toInt := (by rw [p63, if_pos rfl, hby, hb0, mo_mn_comm]; rw [(show v_106 = (10000000 : Int32) from by rw [ev_106, show ar_95 63 = ar_88 63 from ((fA_call (fA_rf [] _) fa_97 (by decide)) 63 rfl), ear_88]; show (if Int32.toNatClampNeg x_1 = Int32.toNatClampNeg x_1 then _ else _) = _; exact if_pos rfl), (show v_107 = v_51 from by rw [ev_107, show ar_95 62 = ar_53 62 from ((fA_call (fA_put (fA_rf [63] _) ear_88 (by decide)) fa_97 (by decide)) 62 rfl), ear_53]; show (if Int32.toNatClampNeg x_1 = Int32.toNatClampNeg x_1 then _ else _) = _; exact if_pos rfl)]); rw [show v_110.toInt.toNat = (x_1.toInt.toNat) + 1 from by omega]; exact mo_we_s hY9 hn9 q_10 (fun j9 c9 => by rw [p62, if_neg c9]) (fun j9 c9 => by rw [p63, if_neg c9]) (by rw [p62]; exact if_pos rfl) hxw (fun _ => hyv) (fun w => absurd hq9 w)) (by omega) hP hS (lv_sub hl [4, 5, 0] rfl)
        · skip
          have i_113 : (-1) ≤ v_44.toInt ∧ v_44.toInt ≤ (-1) := iv_eq1 (⟨by decide, by decide⟩ : (-1 : Int) ≤ ((-1) : Int32).toInt ∧ ((-1) : Int32).toInt ≤ -1) c_46
          refine lv_ldc hx hb hown (htg (.constant RX9 69 10000000) kw_5_99) dX9_weigh_73 ?_
          refine lv_goto (tgt := 89) hx hb dX9_weigh_75 (by decide) ?_
          refine lv_istore (lv' := [(5, .int 10000000), (4, .int v_41), (3, .int v_25), (0, .ref (ob 9)), (1, .int pp), (2, .int x_1)]) hx hb dX9_weigh_89 hl (by decide) rfl (fun ls hl => ?_)
          refine lv_aload_n hx hb dX9_weigh_91 rfl (lv_at hl 3 rfl) ?_
          refine gX_X9_30 hx hb htg hown hK hP dX9_weigh_92 ?_
          refine lv_iload_n hx hb dX9_weigh_95 rfl (lv_at hl 5 rfl) ?_
          refine lv_iload hx hb dX9_weigh_96 (lv_at hl 1 rfl) ?_
          refine lv_iload hx hb dX9_weigh_98 (lv_at hl 0 rfl) ?_
          refine va_mmin hx hb (hml.trans hl.1.symm) hown (htg (.methodLink RX9 122 Lib.Math.min.name) kw_5_140) (htg (.static Lib.Math.min.name) kw_3_151) (htg (.initialized RJ9) kw_1_16) (htg (.code Lib.Math.min.name Lib.Math.min.code 2 (some .int)) kw_3_152) (Nat.le_of_ble_eq_true rfl) (Nat.le_of_ble_eq_true rfl) (Nat.le_of_ble_eq_true rfl) (Nat.le_of_ble_eq_true rfl) dX9_weigh_100 ?_
          refine lv_topi (fun v_115 ev_115 => ?_)
          have i_116 : 0 ≤ v_115.toInt ∧ v_115.toInt ≤ 10000000 := ix_min ev_115 t_42.2 (⟨by decide, by decide⟩ : (10000000 : Int) ≤ (10000000 : Int32).toInt ∧ (10000000 : Int32).toInt ≤ 10000000) (by decide) (by decide)
          refine sX_62 hx hb hK hP hS hd (iv_in i_18 (by decide) (by decide)) dX9_weigh_103 (fun H locs ar_117 ear_117 hP hS => ?_)
          have hA_ar_117 : rB ar_117 := rB_put hA_ar_36 ear_117 (iv_any _)
          refine lv_aload_n hx hb dX9_weigh_104 rfl (lv_at hl 3 rfl) ?_
          refine gX_X9_33 hx hb htg hown hK hP dX9_weigh_105 ?_
          refine lv_iload_n hx hb dX9_weigh_108 rfl (lv_at hl 5 rfl) ?_
          refine lv_aload_n hx hb dX9_weigh_109 rfl (lv_at hl 3 rfl) ?_
          refine gX_X9_24 hx hb htg hown hK hP dX9_weigh_110 ?_
          refine lv_iload_n hx hb dX9_weigh_113 rfl (lv_at hl 5 rfl) ?_
          refine lX_60 hx hb hK hP (iv_in i_18 (by decide) (by decide)) dX9_weigh_114 (fun v_118 ev_118 => ?_)
          have i_119 : (-1) ≤ v_118.toInt ∧ v_118.toInt ≤ 79 := ev_118 ▸ hA_ar_117 60 _
          refine lv_iconst (v := (-1)) hx hb dX9_weigh_115 (by decide) ?_
          refine lv_icmp_ne (tgt := 124) hx hb dX9_weigh_116 (by decide) (fun c_120 => ?_) (fun c_120 => ?_)
          · skip
            have i_121 : 0 ≤ v_118.toInt ∧ v_118.toInt ≤ 79 := iv_nel i_119 (by decide) c_120
            have k_122 : ¬ v_118.toInt = (-1) := fun q => c_120 (Int32.toInt_inj.mp q)
            refine lv_aload_n hx hb dX9_weigh_124 rfl (lv_at hl 3 rfl) ?_
            refine gX_X9_33 hx hb htg hown hK hP dX9_weigh_125 ?_
            refine lv_aload_n hx hb dX9_weigh_128 rfl (lv_at hl 3 rfl) ?_
            refine gX_X9_24 hx hb htg hown hK hP dX9_weigh_129 ?_
            refine lv_iload_n hx hb dX9_weigh_132 rfl (lv_at hl 5 rfl) ?_
            refine lX_60 hx hb hK hP (iv_in i_18 (by decide) (by decide)) dX9_weigh_133 (fun v_123 ev_123 => ?_)
            obtain rfl : v_118 = v_123 := ev_118.trans ev_123.symm
            refine lX_63 hx hb hK hP (iv_in i_121 (by decide) (by decide)) dX9_weigh_134 (fun v_124 ev_124 => ?_)
            refine sX_63 hx hb hK hP hS hd (iv_in i_18 (by decide) (by decide)) dX9_weigh_135 (fun H locs ar_125 ear_125 hP hS => ?_)
            have hA_ar_125 : rB ar_125 := rB_put hA_ar_117 ear_125 (iv_any _)
            refine lv_aload_n hx hb dX9_weigh_136 rfl (lv_at hl 3 rfl) ?_
            refine lv_iload_n hx hb dX9_weigh_137 rfl (lv_at hl 4 rfl) ?_
            refine lv_aload_n hx hb dX9_weigh_138 rfl (lv_at hl 3 rfl) ?_
            refine gX_X9_17 hx hb htg hown hK hP dX9_weigh_139 ?_
            refine lv_iload_n hx hb dX9_weigh_142 rfl (lv_at hl 5 rfl) ?_
            refine lX_58 hx hb hK hP (iv_in i_18 (by decide) (by decide)) dX9_weigh_143 (fun v_126 ev_126 => ?_)
            obtain rfl : v_21 = v_126 := ev_21.trans ((congrFun ((fA_put (fA_put (fA_call (fA_rf [62, 63] _) fa_38 (by decide)) ear_117 (by decide)) ear_125 (by decide)) 58 rfl) _).symm.trans ev_126.symm)
            refine va_calli (va_runV (As := [.int pp, .int v_21]) (rest := []) ⟨hx, hb, hml, hown, hts⟩ (x_hasHeardE l dC dI H.size ob ad cA hd fv_34 wd_35 ar_125 hF_fv_34 hA_ar_125 pp v_21 h_pp i_22 (mx_R_fr hp_8 (fM_call (fM_rf [] _) fr_37 (by decide)) (fA_put (fA_put (fA_call (fA_rf [62, 63] _) fa_38 (by decide)) ear_117 (by decide)) ear_125 (by decide)) rfl rfl rfl rfl rfl rfl rfl rfl rfl rfl rfl rfl rfl rfl rfl rfl rfl rfl rfl rfl rfl rfl rfl rfl rfl rfl rfl)) (cwV 2 hts (gV kw_5_141 kw_5_143 kw_p_31 kw_1_13 kw_5_144) rfl rfl rfl (by decide +kernel) ⟨Nat.le_of_ble_eq_true rfl, Nat.le_of_ble_eq_true rfl⟩) ⟨fun a U g mk q => ⟨q.1, q.2.1, q.2.2.1, va_K.moved (u := U) (U := U.calling g mk a) (Vm.Alike.refl U.vm) q.2.2.2⟩, va_recv hK hP (ci := 9) (q0 := 9) rfl rfl, fun U hU hW => ⟨rfl, by rw [hU], by rw [hU]; exact hP, va_K.moved hW.alike hK⟩⟩ rfl rfl hl.1 rfl (lv_room (Nat.le_of_ble_eq_true rfl)) dX9_weigh_144 ⟨Nat.le_of_ble_eq_true rfl, Nat.le_of_ble_eq_true rfl⟩) hS (fun q _ h9 => aX_up hS q h9) (aX_up hS) (fun r_127 u t H1 locs ht _ hw hB _ hk1 hS => ?_)
            obtain ⟨fv_130, wd_131, ar_132⟩ := u
            obtain ⟨hF_fv_130, hA_ar_132, fr_133, fa_134, wf_135, p_128, p_129, -⟩ := hw
            have wf_135 : wd_131.2 = wd_35.2 := wf_135
            have hP : va_P (dC, dI) vwCl (wsX ob ad cA fv_130 wd_131 ar_132) H1 := by have h9 := hB.1; rw [ht] at h9; exact h9
            have fr_133 : fM [] fv_34 fv_130 := fr_133
            have fa_134 : fA [] ar_125 ar_132 := fa_134
            generalize H1 = H at hP hS ⊢
            rcases p_129 with ⟨rfl, p_129⟩ | ⟨rfl, p_129⟩
            · skip
              have q_136 : ¬ mo_hd (mx_D fv_34 ar_125) (pp.toInt.toNat) (v_21.toInt.toNat) := p_129
              refine lv_if_eq (tgt := 171) hx hb dX9_weigh_147 (by decide) (fun c_137 => ?_) (fun c_137 => ?_)
              · skip
                obtain ⟨v_138, ev_138⟩ : ∃ z : Int32, z = x_1 + 1 := ⟨_, rfl⟩
                refine lv_iinc (v := v_138) (lv' := [(2, .int v_138), (5, .int 10000000), (4, .int v_41), (3, .int v_25), (0, .ref (ob 9)), (1, .int pp)]) hx hb dX9_weigh_171 hl (k := 5) rfl (by rw [ev_138]; rfl) (by decide) rfl (fun ls hl => ?_)
                have t_139 : v_138.toInt = x_1.toInt + 1 ∧ 1 ≤ v_138.toInt ∧ v_138.toInt ≤ 80 := iv_addc ev_138 i_18 (by decide) (by decide) (by decide)
                refine lv_goto (tgt := 2) hx hb dX9_weigh_174 (by decide) ?_
                have z_185 : (fv_130 24).toInt = (fv 24).toInt := congrArg Int32.toInt ((fr_133 24 rfl).trans ((fr_37 24 rfl).trans ((fr_3 24 rfl))))
                have z_186 : 0 ≤ (fv_130 24).toInt ∧ (fv_130 24).toInt ≤ 80 := hF_fv_130 24
                exact ih_12 v_138 fv_130 ar_132 wd_131 _ _ ls (by omega) (iv_w t_139.2 (by decide) (by decide)) hF_fv_130 (fM_call (fM_call (fM_call (fM_rf [] _) fr_3 (by decide)) fr_37 (by decide)) fr_133 (by decide)) hA_ar_132 (fA_call (fA_put (fA_put (fA_call (fA_call (fA_rf [62, 63] _) fa_5 (by decide)) fa_38 (by decide)) ear_117 (by decide)) ear_125 (by decide)) fa_134 (by decide)) (wf_135.trans (wf_39.trans wf_7)) (mx_R_fr hp_8 (fM_call (fM_call (fM_rf [] _) fr_37 (by decide)) fr_133 (by decide)) (fA_call (fA_put (fA_put (fA_call (fA_rf [62, 63] _) fa_38 (by decide)) ear_117 (by decide)) ear_125 (by decide)) fa_134 (by decide)) rfl rfl rfl rfl rfl rfl rfl rfl rfl rfl rfl rfl rfl rfl rfl rfl rfl rfl rfl rfl rfl rfl rfl rfl rfl rfl rfl) (mx_Y_fr hp_9 (fM_call (fM_call (fM_rf [] _) fr_37 (by decide)) fr_133 (by decide)) (fA_call (fA_put (fA_put (fA_call (fA_rf [62, 63] _) fa_38 (by decide)) ear_117 (by decide)) ear_125 (by decide)) fa_134 (by decide)) rfl rfl rfl rfl rfl rfl rfl rfl rfl rfl rfl rfl rfl rfl rfl rfl rfl rfl rfl rfl rfl rfl rfl rfl rfl rfl rfl rfl rfl rfl rfl rfl) (by have p62 : ∀ i9 : Nat, ar_132 62 i9 = if i9 = (x_1.toInt.toNat) then v_115 else ar_4 62 i9 := (fun i9 => by rw [show ar_132 62 = ar_117 62 from ((fA_call (fA_put (fA_rf [63] _) ear_125 (by decide)) fa_134 (by decide)) 62 rfl), ear_117]; show (if i9 = Int32.toNatClampNeg x_1 then v_115 else ar_36 62 i9) = _; rw [show ar_36 62 = ar_4 62 from ((fA_call (fA_rf [] _) fa_38 (by decide)) 62 rfl)]; rfl); have p63 : ∀ i9 : Nat, ar_132 63 i9 = if i9 = (x_1.toInt.toNat) then v_124 else ar_4 63 i9 := (fun i9 => by rw [show ar_132 63 = ar_125 63 from ((fA_call (fA_rf [] _) fa_134 (by decide)) 63 rfl), ear_125]; show (if i9 = Int32.toNatClampNeg x_1 then v_124 else ar_117 63 i9) = _; rw [show ar_117 63 = ar_4 63 from ((fA_put (fA_call (fA_rf [62] _) fa_38 (by decide)) ear_117 (by decide)) 63 rfl)]; rfl); have ht9 : v_21 = ar 58 (x_1.toInt.toNat) := (show v_21 = ar 58 (x_1.toInt.toNat) from by rw [ev_21, show ar_4 58 = ar 58 from ((fA_call (fA_rf [62, 63] _) fa_5 (by decide)) 58 rfl)]; exact congrArg (ar 58) (show x_1.toInt.toNat = (x_1.toInt.toNat) from by omega)); have hc9 : v_27 = ar 59 (x_1.toInt.toNat) := (show v_27 = ar 59 (x_1.toInt.toNat) from by rw [ev_27, show ar_4 59 = ar 59 from ((fA_call (fA_rf [62, 63] _) fa_5 (by decide)) 59 rfl)]; exact congrArg (ar 59) (show x_1.toInt.toNat = (x_1.toInt.toNat) from by omega)); have ho9 : v_44 = ar 61 (x_1.toInt.toNat) := (show v_44 = ar 61 (x_1.toInt.toNat) from by rw [ev_44, show ar_36 61 = ar 61 from ((fA_call (fA_call (fA_rf [62, 63] _) fa_5 (by decide)) fa_38 (by decide)) 61 rfl)]; exact congrArg (ar 61) (show x_1.toInt.toNat = (x_1.toInt.toNat) from by omega)); have hh9 : v_118 = ar 60 (x_1.toInt.toNat) := (show v_118 = ar 60 (x_1.toInt.toNat) from by rw [ev_118, show ar_117 60 = ar 60 from ((fA_put (fA_call (fA_call (fA_rf [62, 63] _) fa_5 (by decide)) fa_38 (by decide)) ear_117 (by decide)) 60 rfl)]; exact congrArg (ar 60) (show x_1.toInt.toNat = (x_1.toInt.toNat) from by omega)); have h30 : v_23 = ar 30 (v_21.toInt.toNat) := (show v_23 = ar 30 (v_21.toInt.toNat) from by rw [ev_23, show ar_4 30 = ar 30 from ((fA_call (fA_rf [62, 63] _) fa_5 (by decide)) 30 rfl)]; exact congrArg (ar 30) (show v_21.toInt.toNat = (v_21.toInt.toNat) from by omega)); have h2 : v_25 = ar 2 (v_23.toInt.toNat) := (show v_25 = ar 2 (v_23.toInt.toNat) from by rw [ev_25, show ar_4 2 = ar 2 from ((fA_call (fA_rf [62, 63] _) fa_5 (by decide)) 2 rfl)]; exact congrArg (ar 2) (show v_23.toInt.toNat = (v_23.toInt.toNat) from by omega)); have h7 : v_29 = ar 7 (pp.toInt.toNat) := (show v_29 = ar 7 (pp.toInt.toNat) from by rw [ev_29, show ar_4 7 = ar 7 from ((fA_call (fA_rf [62, 63] _) fa_5 (by decide)) 7 rfl)]; exact congrArg (ar 7) (show pp.toInt.toNat = (pp.toInt.toNat) from by omega)); have hY9 := hp_mY; have hn9 : (x_1.toInt.toNat) < (fv 24).toInt.toNat := (by omega); have hft : mo_ft (mx_D fv ar) (mx_G ar) (pp.toInt.toNat) (ar 64 (pp.toInt.toNat)).toInt ((ar 58 (x_1.toInt.toNat)).toInt.toNat) = v_27.toInt + r_31.toInt := (by rw [k_40]; show mo_cm (mx_D fv ar) (mx_G ar) _ + mo_wk (mx_G ar) (ar 64 (pp.toInt.toNat)).toInt (mo_ct (mx_D fv ar) _) _ = _; rw [← (hY9.2 (x_1.toInt.toNat) hn9).1, ← hc9]; congr 1; show mo_wk (mx_G ar) (ar 64 (pp.toInt.toNat)).toInt ((ar 2 ((ar 30 ((ar 58 (x_1.toInt.toNat)).toInt.toNat)).toInt.toNat)).toInt.toNat) ((ar 7 (pp.toInt.toNat)).toInt.toNat) = _; rw [← ht9, ← h30, ← h2, ← h7]); have hri : (if (ar 61 (x_1.toInt.toNat)).toInt = -1 then 10000000 else (ar_4 63 ((ar 61 (x_1.toInt.toNat)).toInt.toNat)).toInt) = (10000000 : Int32).toInt := (by rw [← ho9, if_pos (by omega)]; decide); have hxv := mo_mnI ev_115; have hxw : v_115.toInt = mo_mn (mo_ft (mx_D fv ar) (mx_G ar) (pp.toInt.toNat) (ar 64 (pp.toInt.toNat)).toInt ((ar 58 (x_1.toInt.toNat)).toInt.toNat)) (if (ar 61 (x_1.toInt.toNat)).toInt = -1 then 10000000 else (ar_4 63 ((ar 61 (x_1.toInt.toNat)).toInt.toNat)).toInt) := (by rw [hft, hri, hxv, mo_mn_comm]; congr 1; omega); have hb0 : mo_b0 (ar 60) (ar_4 63) (x_1.toInt.toNat) = v_124.toInt := (by unfold mo_b0; rw [← hh9, if_neg (by omega), ev_124, show ar_117 63 = ar_4 63 from ((fA_put (fA_call (fA_rf [62] _) fa_38 (by decide)) ear_117 (by decide)) 63 rfl)]; rfl); have hq9 : ¬ mo_hd (mx_D fv ar) (pp.toInt.toNat) ((ar 58 (x_1.toInt.toNat)).toInt.toNat) := (by rw [← ht9]; exact (by have h9 := q_136; rw [show mx_D fv_34 ar_125 = mx_D fv ar from (mx_D_fr (fM_call (fM_call (fM_rf [] _) fr_3 (by decide)) fr_37 (by decide)) (fA_put (fA_put (fA_call (fA_call (fA_rf [62, 63] _) fa_5 (by decide)) fa_38 (by decide)) ear_117 (by decide)) ear_125 (by decide)) rfl rfl)] at h9; exact h9)); have hyv : (ar_132 63 (x_1.toInt.toNat)).toInt = mo_b0 (ar 60) (ar_4 63) (x_1.toInt.toNat) := (by rw [p63, if_pos rfl, hb0]); rw [show v_138.toInt.toNat = (x_1.toInt.toNat) + 1 from by omega]; exact mo_we_s hY9 hn9 q_10 (fun j9 c9 => by rw [p62, if_neg c9]) (fun j9 c9 => by rw [p63, if_neg c9]) (by rw [p62]; exact if_pos rfl) hxw (fun w => absurd w hq9) (fun _ => hyv)) (by omega) hP hS (lv_sub hl [4, 5, 0] rfl)
              · skip
                exact absurd c_137 (by decide)
            · skip
              have q_141 : mo_hd (mx_D fv_34 ar_125) (pp.toInt.toNat) (v_21.toInt.toNat) := p_129
              refine lv_if_eq (tgt := 171) hx hb dX9_weigh_147 (by decide) (fun c_142 => ?_) (fun c_142 => ?_)
              · skip
                exact absurd c_142 (by decide)
              · skip
                refine lv_aload_n hx hb dX9_weigh_150 rfl (lv_at hl 3 rfl) ?_
                refine gX_X9_33 hx hb htg hown hK hP dX9_weigh_151 ?_
                refine lv_iload_n hx hb dX9_weigh_154 rfl (lv_at hl 5 rfl) ?_
                refine lv_aload_n hx hb dX9_weigh_155 rfl (lv_at hl 3 rfl) ?_
                refine gX_X9_33 hx hb htg hown hK hP dX9_weigh_156 ?_
                refine lv_iload_n hx hb dX9_weigh_159 rfl (lv_at hl 5 rfl) ?_
                refine lX_63 hx hb hK hP (iv_in i_18 (by decide) (by decide)) dX9_weigh_160 (fun v_143 ev_143 => ?_)
                refine lv_aload_n hx hb dX9_weigh_161 rfl (lv_at hl 3 rfl) ?_
                refine gX_X9_30 hx hb htg hown hK hP dX9_weigh_162 ?_
                refine lv_iload_n hx hb dX9_weigh_165 rfl (lv_at hl 5 rfl) ?_
                refine lX_62 hx hb hK hP (iv_in i_18 (by decide) (by decide)) dX9_weigh_166 (fun v_144 ev_144 => ?_)
                refine va_mmin hx hb (hml.trans hl.1.symm) hown (htg (.methodLink RX9 122 Lib.Math.min.name) kw_5_140) (htg (.static Lib.Math.min.name) kw_3_151) (htg (.initialized RJ9) kw_1_16) (htg (.code Lib.Math.min.name Lib.Math.min.code 2 (some .int)) kw_3_152) (Nat.le_of_ble_eq_true rfl) (Nat.le_of_ble_eq_true rfl) (Nat.le_of_ble_eq_true rfl) (Nat.le_of_ble_eq_true rfl) dX9_weigh_167 ?_
                refine lv_topi (fun v_145 ev_145 => ?_)
                refine sX_63 hx hb hK hP hS hd (iv_in i_18 (by decide) (by decide)) dX9_weigh_170 (fun H locs ar_146 ear_146 hP hS => ?_)
                have hA_ar_146 : rB ar_146 := rB_put hA_ar_132 ear_146 (iv_any _)
                obtain ⟨v_147, ev_147⟩ : ∃ z : Int32, z = x_1 + 1 := ⟨_, rfl⟩
                refine lv_iinc (v := v_147) (lv' := [(2, .int v_147), (5, .int 10000000), (4, .int v_41), (3, .int v_25), (0, .ref (ob 9)), (1, .int pp)]) hx hb dX9_weigh_171 hl (k := 5) rfl (by rw [ev_147]; rfl) (by decide) rfl (fun ls hl => ?_)
                have t_148 : v_147.toInt = x_1.toInt + 1 ∧ 1 ≤ v_147.toInt ∧ v_147.toInt ≤ 80 := iv_addc ev_147 i_18 (by decide) (by decide) (by decide)
                refine lv_goto (tgt := 2) hx hb dX9_weigh_174 (by decide) ?_
                have z_187 : (fv_130 24).toInt = (fv 24).toInt := congrArg Int32.toInt ((fr_133 24 rfl).trans ((fr_37 24 rfl).trans ((fr_3 24 rfl))))
                have z_188 : 0 ≤ (fv_130 24).toInt ∧ (fv_130 24).toInt ≤ 80 := hF_fv_130 24
                exact ih_12 v_147 fv_130 ar_146 wd_131 _ _ ls (by omega) (iv_w t_148.2 (by decide) (by decide)) hF_fv_130 (fM_call (fM_call (fM_call (fM_rf [] _) fr_3 (by decide)) fr_37 (by decide)) fr_133 (by decide)) hA_ar_146 (fA_put (fA_call (fA_put (fA_put (fA_call (fA_call (fA_rf [62, 63] _) fa_5 (by decide)) fa_38 (by decide)) ear_117 (by decide)) ear_125 (by decide)) fa_134 (by decide)) ear_146 (by decide)) (wf_135.trans (wf_39.trans wf_7)) (mx_R_fr hp_8 (fM_call (fM_call (fM_rf [] _) fr_37 (by decide)) fr_133 (by decide)) (fA_put (fA_call (fA_put (fA_put (fA_call (fA_rf [62, 63] _) fa_38 (by decide)) ear_117 (by decide)) ear_125 (by decide)) fa_134 (by decide)) ear_146 (by decide)) rfl rfl rfl rfl rfl rfl rfl rfl rfl rfl rfl rfl rfl rfl rfl rfl rfl rfl rfl rfl rfl rfl rfl rfl rfl rfl rfl) (mx_Y_fr hp_9 (fM_call (fM_call (fM_rf [] _) fr_37 (by decide)) fr_133 (by decide)) (fA_put (fA_call (fA_put (fA_put (fA_call (fA_rf [62, 63] _) fa_38 (by decide)) ear_117 (by decide)) ear_125 (by decide)) fa_134 (by decide)) ear_146 (by decide)) rfl rfl rfl rfl rfl rfl rfl rfl rfl rfl rfl rfl rfl rfl rfl rfl rfl rfl rfl rfl rfl rfl rfl rfl rfl rfl rfl rfl rfl rfl rfl rfl) (by have p62 : ∀ i9 : Nat, ar_146 62 i9 = if i9 = (x_1.toInt.toNat) then v_115 else ar_4 62 i9 := (fun i9 => by rw [show ar_146 62 = ar_117 62 from ((fA_put (fA_call (fA_put (fA_rf [63] _) ear_125 (by decide)) fa_134 (by decide)) ear_146 (by decide)) 62 rfl), ear_117]; show (if i9 = Int32.toNatClampNeg x_1 then v_115 else ar_36 62 i9) = _; rw [show ar_36 62 = ar_4 62 from ((fA_call (fA_rf [] _) fa_38 (by decide)) 62 rfl)]; rfl); have p63 : ∀ i9 : Nat, ar_146 63 i9 = if i9 = (x_1.toInt.toNat) then v_145 else ar_4 63 i9 := (fun i9 => by rw [show ar_146 63 = ar_146 63 from rfl, ear_146]; show (if i9 = Int32.toNatClampNeg x_1 then v_145 else ar_132 63 i9) = _; rw [show ar_132 63 = ar_125 63 from ((fA_call (fA_rf [] _) fa_134 (by decide)) 63 rfl), ear_125]; show (if i9 = (x_1.toInt.toNat) then v_145 else if i9 = (x_1.toInt.toNat) then v_124 else ar_117 63 i9) = _; by_cases c9 : i9 = (x_1.toInt.toNat); rw [if_pos c9, if_pos c9]; rw [if_neg c9, if_neg c9, if_neg c9, show ar_117 63 = ar_4 63 from ((fA_put (fA_call (fA_rf [62] _) fa_38 (by decide)) ear_117 (by decide)) 63 rfl)]); have ht9 : v_21 = ar 58 (x_1.toInt.toNat) := (show v_21 = ar 58 (x_1.toInt.toNat) from by rw [ev_21, show ar_4 58 = ar 58 from ((fA_call (fA_rf [62, 63] _) fa_5 (by decide)) 58 rfl)]; exact congrArg (ar 58) (show x_1.toInt.toNat = (x_1.toInt.toNat) from by omega)); have hc9 : v_27 = ar 59 (x_1.toInt.toNat) := (show v_27 = ar 59 (x_1.toInt.toNat) from by rw [ev_27, show ar_4 59 = ar 59 from ((fA_call (fA_rf [62, 63] _) fa_5 (by decide)) 59 rfl)]; exact congrArg (ar 59) (show x_1.toInt.toNat = (x_1.toInt.toNat) from by omega)); have ho9 : v_44 = ar 61 (x_1.toInt.toNat) := (show v_44 = ar 61 (x_1.toInt.toNat) from by rw [ev_44, show ar_36 61 = ar 61 from ((fA_call (fA_call (fA_rf [62, 63] _) fa_5 (by decide)) fa_38 (by decide)) 61 rfl)]; exact congrArg (ar 61) (show x_1.toInt.toNat = (x_1.toInt.toNat) from by omega)); have hh9 : v_118 = ar 60 (x_1.toInt.toNat) := (show v_118 = ar 60 (x_1.toInt.toNat) from by rw [ev_118, show ar_117 60 = ar 60 from ((fA_put (fA_call (fA_call (fA_rf [62, 63] _) fa_5 (by decide)) fa_38 (by decide)) ear_117 (by decide)) 60 rfl)]; exact congrArg (ar 60) (show x_1.toInt.toNat = (x_1.toInt.toNat) from by omega)); have h30 : v_23 = ar 30 (v_21.toInt.toNat) := (show v_23 = ar 30 (v_21.toInt.toNat) from by rw [ev_23, show ar_4 30 = ar 30 from ((fA_call (fA_rf [62, 63] _) fa_5 (by decide)) 30 rfl)]; exact congrArg (ar 30) (show v_21.toInt.toNat = (v_21.toInt.toNat) from by omega)); have h2 : v_25 = ar 2 (v_23.toInt.toNat) := (show v_25 = ar 2 (v_23.toInt.toNat) from by rw [ev_25, show ar_4 2 = ar 2 from ((fA_call (fA_rf [62, 63] _) fa_5 (by decide)) 2 rfl)]; exact congrArg (ar 2) (show v_23.toInt.toNat = (v_23.toInt.toNat) from by omega)); have h7 : v_29 = ar 7 (pp.toInt.toNat) := (show v_29 = ar 7 (pp.toInt.toNat) from by rw [ev_29, show ar_4 7 = ar 7 from ((fA_call (fA_rf [62, 63] _) fa_5 (by decide)) 7 rfl)]; exact congrArg (ar 7) (show pp.toInt.toNat = (pp.toInt.toNat) from by omega)); have hY9 := hp_mY; have hn9 : (x_1.toInt.toNat) < (fv 24).toInt.toNat := (by omega); have hft : mo_ft (mx_D fv ar) (mx_G ar) (pp.toInt.toNat) (ar 64 (pp.toInt.toNat)).toInt ((ar 58 (x_1.toInt.toNat)).toInt.toNat) = v_27.toInt + r_31.toInt := (by rw [k_40]; show mo_cm (mx_D fv ar) (mx_G ar) _ + mo_wk (mx_G ar) (ar 64 (pp.toInt.toNat)).toInt (mo_ct (mx_D fv ar) _) _ = _; rw [← (hY9.2 (x_1.toInt.toNat) hn9).1, ← hc9]; congr 1; show mo_wk (mx_G ar) (ar 64 (pp.toInt.toNat)).toInt ((ar 2 ((ar 30 ((ar 58 (x_1.toInt.toNat)).toInt.toNat)).toInt.toNat)).toInt.toNat) ((ar 7 (pp.toInt.toNat)).toInt.toNat) = _; rw [← ht9, ← h30, ← h2, ← h7]); have hri : (if (ar 61 (x_1.toInt.toNat)).toInt = -1 then 10000000 else (ar_4 63 ((ar 61 (x_1.toInt.toNat)).toInt.toNat)).toInt) = (10000000 : Int32).toInt := (by rw [← ho9, if_pos (by omega)]; decide); have hxv := mo_mnI ev_115; have hxw : v_115.toInt = mo_mn (mo_ft (mx_D fv ar) (mx_G ar) (pp.toInt.toNat) (ar 64 (pp.toInt.toNat)).toInt ((ar 58 (x_1.toInt.toNat)).toInt.toNat)) (if (ar 61 (x_1.toInt.toNat)).toInt = -1 then 10000000 else (ar_4 63 ((ar 61 (x_1.toInt.toNat)).toInt.toNat)).toInt) := (by rw [hft, hri, hxv, mo_mn_comm]; congr 1; omega); have hb0 : mo_b0 (ar 60) (ar_4 63) (x_1.toInt.toNat) = v_124.toInt := (by unfold mo_b0; rw [← hh9, if_neg (by omega), ev_124, show ar_117 63 = ar_4 63 from ((fA_put (fA_call (fA_rf [62] _) fa_38 (by decide)) ear_117 (by decide)) 63 rfl)]; rfl); have hq9 : mo_hd (mx_D fv ar) (pp.toInt.toNat) ((ar 58 (x_1.toInt.toNat)).toInt.toNat) := (by rw [← ht9]; exact (by have h9 := q_141; rw [show mx_D fv_34 ar_125 = mx_D fv ar from (mx_D_fr (fM_call (fM_call (fM_rf [] _) fr_3 (by decide)) fr_37 (by decide)) (fA_put (fA_put (fA_call (fA_call (fA_rf [62, 63] _) fa_5 (by decide)) fa_38 (by decide)) ear_117 (by decide)) ear_125 (by decide)) rfl rfl)] at h9; exact h9)); have hby := mo_mnI ev_145; have hyv : (ar_146 63 (x_1.toInt.toNat)).toInt = mo_mn (mo_b0 (ar 60) (ar_4 63) (x_1.toInt.toNat)) v_115.toInt := (by rw [p63, if_pos rfl, hby, hb0, mo_mn_comm]; rw [(show v_143 = v_124 from by rw [ev_143, show ar_132 63 = ar_125 63 from ((fA_call (fA_rf [] _) fa_134 (by decide)) 63 rfl), ear_125]; show (if Int32.toNatClampNeg x_1 = Int32.toNatClampNeg x_1 then _ else _) = _; exact if_pos rfl), (show v_144 = v_115 from by rw [ev_144, show ar_132 62 = ar_117 62 from ((fA_call (fA_put (fA_rf [63] _) ear_125 (by decide)) fa_134 (by decide)) 62 rfl), ear_117]; show (if Int32.toNatClampNeg x_1 = Int32.toNatClampNeg x_1 then _ else _) = _; exact if_pos rfl)]); rw [show v_147.toInt.toNat = (x_1.toInt.toNat) + 1 from by omega]; exact mo_we_s hY9 hn9 q_10 (fun j9 c9 => by rw [p62, if_neg c9]) (fun j9 c9 => by rw [p63, if_neg c9]) (by rw [p62]; exact if_pos rfl) hxw (fun _ => hyv) (fun w => absurd hq9 w)) (by omega) hP hS (lv_sub hl [4, 5, 0] rfl)
          · skip
            have i_150 : (-1) ≤ v_118.toInt ∧ v_118.toInt ≤ (-1) := iv_eq1 (⟨by decide, by decide⟩ : (-1 : Int) ≤ ((-1) : Int32).toInt ∧ ((-1) : Int32).toInt ≤ -1) c_120
            refine lv_ldc hx hb hown (htg (.constant RX9 69 10000000) kw_5_99) dX9_weigh_119 ?_
            refine lv_goto (tgt := 135) hx hb dX9_weigh_121 (by decide) ?_
            refine sX_63 hx hb hK hP hS hd (iv_in i_18 (by decide) (by decide)) dX9_weigh_135 (fun H locs ar_152 ear_152 hP hS => ?_)
            have hA_ar_152 : rB ar_152 := rB_put hA_ar_117 ear_152 (iv_any _)
            refine lv_aload_n hx hb dX9_weigh_136 rfl (lv_at hl 3 rfl) ?_
            refine lv_iload_n hx hb dX9_weigh_137 rfl (lv_at hl 4 rfl) ?_
            refine lv_aload_n hx hb dX9_weigh_138 rfl (lv_at hl 3 rfl) ?_
            refine gX_X9_17 hx hb htg hown hK hP dX9_weigh_139 ?_
            refine lv_iload_n hx hb dX9_weigh_142 rfl (lv_at hl 5 rfl) ?_
            refine lX_58 hx hb hK hP (iv_in i_18 (by decide) (by decide)) dX9_weigh_143 (fun v_153 ev_153 => ?_)
            obtain rfl : v_21 = v_153 := ev_21.trans ((congrFun ((fA_put (fA_put (fA_call (fA_rf [62, 63] _) fa_38 (by decide)) ear_117 (by decide)) ear_152 (by decide)) 58 rfl) _).symm.trans ev_153.symm)
            refine va_calli (va_runV (As := [.int pp, .int v_21]) (rest := []) ⟨hx, hb, hml, hown, hts⟩ (x_hasHeardE l dC dI H.size ob ad cA hd fv_34 wd_35 ar_152 hF_fv_34 hA_ar_152 pp v_21 h_pp i_22 (mx_R_fr hp_8 (fM_call (fM_rf [] _) fr_37 (by decide)) (fA_put (fA_put (fA_call (fA_rf [62, 63] _) fa_38 (by decide)) ear_117 (by decide)) ear_152 (by decide)) rfl rfl rfl rfl rfl rfl rfl rfl rfl rfl rfl rfl rfl rfl rfl rfl rfl rfl rfl rfl rfl rfl rfl rfl rfl rfl rfl)) (cwV 2 hts (gV kw_5_141 kw_5_143 kw_p_31 kw_1_13 kw_5_144) rfl rfl rfl (by decide +kernel) ⟨Nat.le_of_ble_eq_true rfl, Nat.le_of_ble_eq_true rfl⟩) ⟨fun a U g mk q => ⟨q.1, q.2.1, q.2.2.1, va_K.moved (u := U) (U := U.calling g mk a) (Vm.Alike.refl U.vm) q.2.2.2⟩, va_recv hK hP (ci := 9) (q0 := 9) rfl rfl, fun U hU hW => ⟨rfl, by rw [hU], by rw [hU]; exact hP, va_K.moved hW.alike hK⟩⟩ rfl rfl hl.1 rfl (lv_room (Nat.le_of_ble_eq_true rfl)) dX9_weigh_144 ⟨Nat.le_of_ble_eq_true rfl, Nat.le_of_ble_eq_true rfl⟩) hS (fun q _ h9 => aX_up hS q h9) (aX_up hS) (fun r_154 u t H1 locs ht _ hw hB _ hk1 hS => ?_)
            obtain ⟨fv_157, wd_158, ar_159⟩ := u
            obtain ⟨hF_fv_157, hA_ar_159, fr_160, fa_161, wf_162, p_155, p_156, -⟩ := hw
            have wf_162 : wd_158.2 = wd_35.2 := wf_162
            have hP : va_P (dC, dI) vwCl (wsX ob ad cA fv_157 wd_158 ar_159) H1 := by have h9 := hB.1; rw [ht] at h9; exact h9
            have fr_160 : fM [] fv_34 fv_157 := fr_160
            have fa_161 : fA [] ar_152 ar_159 := fa_161
            generalize H1 = H at hP hS ⊢
            rcases p_156 with ⟨rfl, p_156⟩ | ⟨rfl, p_156⟩
            · skip
              have q_163 : ¬ mo_hd (mx_D fv_34 ar_152) (pp.toInt.toNat) (v_21.toInt.toNat) := p_156
              refine lv_if_eq (tgt := 171) hx hb dX9_weigh_147 (by decide) (fun c_164 => ?_) (fun c_164 => ?_)
              · skip
                obtain ⟨v_165, ev_165⟩ : ∃ z : Int32, z = x_1 + 1 := ⟨_, rfl⟩
                refine lv_iinc (v := v_165) (lv' := [(2, .int v_165), (5, .int 10000000), (4, .int v_41), (3, .int v_25), (0, .ref (ob 9)), (1, .int pp)]) hx hb dX9_weigh_171 hl (k := 5) rfl (by rw [ev_165]; rfl) (by decide) rfl (fun ls hl => ?_)
                have t_166 : v_165.toInt = x_1.toInt + 1 ∧ 1 ≤ v_165.toInt ∧ v_165.toInt ≤ 80 := iv_addc ev_165 i_18 (by decide) (by decide) (by decide)
                refine lv_goto (tgt := 2) hx hb dX9_weigh_174 (by decide) ?_
                have z_189 : (fv_157 24).toInt = (fv 24).toInt := congrArg Int32.toInt ((fr_160 24 rfl).trans ((fr_37 24 rfl).trans ((fr_3 24 rfl))))
                have z_190 : 0 ≤ (fv_157 24).toInt ∧ (fv_157 24).toInt ≤ 80 := hF_fv_157 24
                exact ih_12 v_165 fv_157 ar_159 wd_158 _ _ ls (by omega) (iv_w t_166.2 (by decide) (by decide)) hF_fv_157 (fM_call (fM_call (fM_call (fM_rf [] _) fr_3 (by decide)) fr_37 (by decide)) fr_160 (by decide)) hA_ar_159 (fA_call (fA_put (fA_put (fA_call (fA_call (fA_rf [62, 63] _) fa_5 (by decide)) fa_38 (by decide)) ear_117 (by decide)) ear_152 (by decide)) fa_161 (by decide)) (wf_162.trans (wf_39.trans wf_7)) (mx_R_fr hp_8 (fM_call (fM_call (fM_rf [] _) fr_37 (by decide)) fr_160 (by decide)) (fA_call (fA_put (fA_put (fA_call (fA_rf [62, 63] _) fa_38 (by decide)) ear_117 (by decide)) ear_152 (by decide)) fa_161 (by decide)) rfl rfl rfl rfl rfl rfl rfl rfl rfl rfl rfl rfl rfl rfl rfl rfl rfl rfl rfl rfl rfl rfl rfl rfl rfl rfl rfl) (mx_Y_fr hp_9 (fM_call (fM_call (fM_rf [] _) fr_37 (by decide)) fr_160 (by decide)) (fA_call (fA_put (fA_put (fA_call (fA_rf [62, 63] _) fa_38 (by decide)) ear_117 (by decide)) ear_152 (by decide)) fa_161 (by decide)) rfl rfl rfl rfl rfl rfl rfl rfl rfl rfl rfl rfl rfl rfl rfl rfl rfl rfl rfl rfl rfl rfl rfl rfl rfl rfl rfl rfl rfl rfl rfl rfl) (by have p62 : ∀ i9 : Nat, ar_159 62 i9 = if i9 = (x_1.toInt.toNat) then v_115 else ar_4 62 i9 := (fun i9 => by rw [show ar_159 62 = ar_117 62 from ((fA_call (fA_put (fA_rf [63] _) ear_152 (by decide)) fa_161 (by decide)) 62 rfl), ear_117]; show (if i9 = Int32.toNatClampNeg x_1 then v_115 else ar_36 62 i9) = _; rw [show ar_36 62 = ar_4 62 from ((fA_call (fA_rf [] _) fa_38 (by decide)) 62 rfl)]; rfl); have p63 : ∀ i9 : Nat, ar_159 63 i9 = if i9 = (x_1.toInt.toNat) then (10000000 : Int32) else ar_4 63 i9 := (fun i9 => by rw [show ar_159 63 = ar_152 63 from ((fA_call (fA_rf [] _) fa_161 (by decide)) 63 rfl), ear_152]; show (if i9 = Int32.toNatClampNeg x_1 then (10000000 : Int32) else ar_117 63 i9) = _; rw [show ar_117 63 = ar_4 63 from ((fA_put (fA_call (fA_rf [62] _) fa_38 (by decide)) ear_117 (by decide)) 63 rfl)]; rfl); have ht9 : v_21 = ar 58 (x_1.toInt.toNat) := (show v_21 = ar 58 (x_1.toInt.toNat) from by rw [ev_21, show ar_4 58 = ar 58 from ((fA_call (fA_rf [62, 63] _) fa_5 (by decide)) 58 rfl)]; exact congrArg (ar 58) (show x_1.toInt.toNat = (x_1.toInt.toNat) from by omega)); have hc9 : v_27 = ar 59 (x_1.toInt.toNat) := (show v_27 = ar 59 (x_1.toInt.toNat) from by rw [ev_27, show ar_4 59 = ar 59 from ((fA_call (fA_rf [62, 63] _) fa_5 (by decide)) 59 rfl)]; exact congrArg (ar 59) (show x_1.toInt.toNat = (x_1.toInt.toNat) from by omega)); have ho9 : v_44 = ar 61 (x_1.toInt.toNat) := (show v_44 = ar 61 (x_1.toInt.toNat) from by rw [ev_44, show ar_36 61 = ar 61 from ((fA_call (fA_call (fA_rf [62, 63] _) fa_5 (by decide)) fa_38 (by decide)) 61 rfl)]; exact congrArg (ar 61) (show x_1.toInt.toNat = (x_1.toInt.toNat) from by omega)); have hh9 : v_118 = ar 60 (x_1.toInt.toNat) := (show v_118 = ar 60 (x_1.toInt.toNat) from by rw [ev_118, show ar_117 60 = ar 60 from ((fA_put (fA_call (fA_call (fA_rf [62, 63] _) fa_5 (by decide)) fa_38 (by decide)) ear_117 (by decide)) 60 rfl)]; exact congrArg (ar 60) (show x_1.toInt.toNat = (x_1.toInt.toNat) from by omega)); have h30 : v_23 = ar 30 (v_21.toInt.toNat) := (show v_23 = ar 30 (v_21.toInt.toNat) from by rw [ev_23, show ar_4 30 = ar 30 from ((fA_call (fA_rf [62, 63] _) fa_5 (by decide)) 30 rfl)]; exact congrArg (ar 30) (show v_21.toInt.toNat = (v_21.toInt.toNat) from by omega)); have h2 : v_25 = ar 2 (v_23.toInt.toNat) := (show v_25 = ar 2 (v_23.toInt.toNat) from by rw [ev_25, show ar_4 2 = ar 2 from ((fA_call (fA_rf [62, 63] _) fa_5 (by decide)) 2 rfl)]; exact congrArg (ar 2) (show v_23.toInt.toNat = (v_23.toInt.toNat) from by omega)); have h7 : v_29 = ar 7 (pp.toInt.toNat) := (show v_29 = ar 7 (pp.toInt.toNat) from by rw [ev_29, show ar_4 7 = ar 7 from ((fA_call (fA_rf [62, 63] _) fa_5 (by decide)) 7 rfl)]; exact congrArg (ar 7) (show pp.toInt.toNat = (pp.toInt.toNat) from by omega)); have hY9 := hp_mY; have hn9 : (x_1.toInt.toNat) < (fv 24).toInt.toNat := (by omega); have hft : mo_ft (mx_D fv ar) (mx_G ar) (pp.toInt.toNat) (ar 64 (pp.toInt.toNat)).toInt ((ar 58 (x_1.toInt.toNat)).toInt.toNat) = v_27.toInt + r_31.toInt := (by rw [k_40]; show mo_cm (mx_D fv ar) (mx_G ar) _ + mo_wk (mx_G ar) (ar 64 (pp.toInt.toNat)).toInt (mo_ct (mx_D fv ar) _) _ = _; rw [← (hY9.2 (x_1.toInt.toNat) hn9).1, ← hc9]; congr 1; show mo_wk (mx_G ar) (ar 64 (pp.toInt.toNat)).toInt ((ar 2 ((ar 30 ((ar 58 (x_1.toInt.toNat)).toInt.toNat)).toInt.toNat)).toInt.toNat) ((ar 7 (pp.toInt.toNat)).toInt.toNat) = _; rw [← ht9, ← h30, ← h2, ← h7]); have hri : (if (ar 61 (x_1.toInt.toNat)).toInt = -1 then 10000000 else (ar_4 63 ((ar 61 (x_1.toInt.toNat)).toInt.toNat)).toInt) = (10000000 : Int32).toInt := (by rw [← ho9, if_pos (by omega)]; decide); have hxv := mo_mnI ev_115; have hxw : v_115.toInt = mo_mn (mo_ft (mx_D fv ar) (mx_G ar) (pp.toInt.toNat) (ar 64 (pp.toInt.toNat)).toInt ((ar 58 (x_1.toInt.toNat)).toInt.toNat)) (if (ar 61 (x_1.toInt.toNat)).toInt = -1 then 10000000 else (ar_4 63 ((ar 61 (x_1.toInt.toNat)).toInt.toNat)).toInt) := (by rw [hft, hri, hxv, mo_mn_comm]; congr 1; omega); have hb0 : mo_b0 (ar 60) (ar_4 63) (x_1.toInt.toNat) = (10000000 : Int32).toInt := (by unfold mo_b0; rw [← hh9, if_pos (by omega)]; decide); have hq9 : ¬ mo_hd (mx_D fv ar) (pp.toInt.toNat) ((ar 58 (x_1.toInt.toNat)).toInt.toNat) := (by rw [← ht9]; exact (by have h9 := q_163; rw [show mx_D fv_34 ar_152 = mx_D fv ar from (mx_D_fr (fM_call (fM_call (fM_rf [] _) fr_3 (by decide)) fr_37 (by decide)) (fA_put (fA_put (fA_call (fA_call (fA_rf [62, 63] _) fa_5 (by decide)) fa_38 (by decide)) ear_117 (by decide)) ear_152 (by decide)) rfl rfl)] at h9; exact h9)); have hyv : (ar_159 63 (x_1.toInt.toNat)).toInt = mo_b0 (ar 60) (ar_4 63) (x_1.toInt.toNat) := (by rw [p63, if_pos rfl, hb0]); rw [show v_165.toInt.toNat = (x_1.toInt.toNat) + 1 from by omega]; exact mo_we_s hY9 hn9 q_10 (fun j9 c9 => by rw [p62, if_neg c9]) (fun j9 c9 => by rw [p63, if_neg c9]) (by rw [p62]; exact if_pos rfl) hxw (fun w => absurd w hq9) (fun _ => hyv)) (by omega) hP hS (lv_sub hl [4, 5, 0] rfl)
              · skip
                exact absurd c_164 (by decide)
            · skip
              have q_168 : mo_hd (mx_D fv_34 ar_152) (pp.toInt.toNat) (v_21.toInt.toNat) := p_156
              refine lv_if_eq (tgt := 171) hx hb dX9_weigh_147 (by decide) (fun c_169 => ?_) (fun c_169 => ?_)
              · skip
                exact absurd c_169 (by decide)
              · skip
                refine lv_aload_n hx hb dX9_weigh_150 rfl (lv_at hl 3 rfl) ?_
                refine gX_X9_33 hx hb htg hown hK hP dX9_weigh_151 ?_
                refine lv_iload_n hx hb dX9_weigh_154 rfl (lv_at hl 5 rfl) ?_
                refine lv_aload_n hx hb dX9_weigh_155 rfl (lv_at hl 3 rfl) ?_
                refine gX_X9_33 hx hb htg hown hK hP dX9_weigh_156 ?_
                refine lv_iload_n hx hb dX9_weigh_159 rfl (lv_at hl 5 rfl) ?_
                refine lX_63 hx hb hK hP (iv_in i_18 (by decide) (by decide)) dX9_weigh_160 (fun v_170 ev_170 => ?_)
                refine lv_aload_n hx hb dX9_weigh_161 rfl (lv_at hl 3 rfl) ?_
                refine gX_X9_30 hx hb htg hown hK hP dX9_weigh_162 ?_
                refine lv_iload_n hx hb dX9_weigh_165 rfl (lv_at hl 5 rfl) ?_
                refine lX_62 hx hb hK hP (iv_in i_18 (by decide) (by decide)) dX9_weigh_166 (fun v_171 ev_171 => ?_)
                refine va_mmin hx hb (hml.trans hl.1.symm) hown (htg (.methodLink RX9 122 Lib.Math.min.name) kw_5_140) (htg (.static Lib.Math.min.name) kw_3_151) (htg (.initialized RJ9) kw_1_16) (htg (.code Lib.Math.min.name Lib.Math.min.code 2 (some .int)) kw_3_152) (Nat.le_of_ble_eq_true rfl) (Nat.le_of_ble_eq_true rfl) (Nat.le_of_ble_eq_true rfl) (Nat.le_of_ble_eq_true rfl) dX9_weigh_167 ?_
                refine lv_topi (fun v_172 ev_172 => ?_)
                refine sX_63 hx hb hK hP hS hd (iv_in i_18 (by decide) (by decide)) dX9_weigh_170 (fun H locs ar_173 ear_173 hP hS => ?_)
                have hA_ar_173 : rB ar_173 := rB_put hA_ar_159 ear_173 (iv_any _)
                obtain ⟨v_174, ev_174⟩ : ∃ z : Int32, z = x_1 + 1 := ⟨_, rfl⟩
                refine lv_iinc (v := v_174) (lv' := [(2, .int v_174), (5, .int 10000000), (4, .int v_41), (3, .int v_25), (0, .ref (ob 9)), (1, .int pp)]) hx hb dX9_weigh_171 hl (k := 5) rfl (by rw [ev_174]; rfl) (by decide) rfl (fun ls hl => ?_)
                have t_175 : v_174.toInt = x_1.toInt + 1 ∧ 1 ≤ v_174.toInt ∧ v_174.toInt ≤ 80 := iv_addc ev_174 i_18 (by decide) (by decide) (by decide)
                refine lv_goto (tgt := 2) hx hb dX9_weigh_174 (by decide) ?_
                have z_191 : (fv_157 24).toInt = (fv 24).toInt := congrArg Int32.toInt ((fr_160 24 rfl).trans ((fr_37 24 rfl).trans ((fr_3 24 rfl))))
                have z_192 : 0 ≤ (fv_157 24).toInt ∧ (fv_157 24).toInt ≤ 80 := hF_fv_157 24
                exact ih_12 v_174 fv_157 ar_173 wd_158 _ _ ls (by omega) (iv_w t_175.2 (by decide) (by decide)) hF_fv_157 (fM_call (fM_call (fM_call (fM_rf [] _) fr_3 (by decide)) fr_37 (by decide)) fr_160 (by decide)) hA_ar_173 (fA_put (fA_call (fA_put (fA_put (fA_call (fA_call (fA_rf [62, 63] _) fa_5 (by decide)) fa_38 (by decide)) ear_117 (by decide)) ear_152 (by decide)) fa_161 (by decide)) ear_173 (by decide)) (wf_162.trans (wf_39.trans wf_7)) (mx_R_fr hp_8 (fM_call (fM_call (fM_rf [] _) fr_37 (by decide)) fr_160 (by decide)) (fA_put (fA_call (fA_put (fA_put (fA_call (fA_rf [62, 63] _) fa_38 (by decide)) ear_117 (by decide)) ear_152 (by decide)) fa_161 (by decide)) ear_173 (by decide)) rfl rfl rfl rfl rfl rfl rfl rfl rfl rfl rfl rfl rfl rfl rfl rfl rfl rfl rfl rfl rfl rfl rfl rfl rfl rfl rfl) (mx_Y_fr hp_9 (fM_call (fM_call (fM_rf [] _) fr_37 (by decide)) fr_160 (by decide)) (fA_put (fA_call (fA_put (fA_put (fA_call (fA_rf [62, 63] _) fa_38 (by decide)) ear_117 (by decide)) ear_152 (by decide)) fa_161 (by decide)) ear_173 (by decide)) rfl rfl rfl rfl rfl rfl rfl rfl rfl rfl rfl rfl rfl rfl rfl rfl rfl rfl rfl rfl rfl rfl rfl rfl rfl rfl rfl rfl rfl rfl rfl rfl) (by have p62 : ∀ i9 : Nat, ar_173 62 i9 = if i9 = (x_1.toInt.toNat) then v_115 else ar_4 62 i9 := (fun i9 => by rw [show ar_173 62 = ar_117 62 from ((fA_put (fA_call (fA_put (fA_rf [63] _) ear_152 (by decide)) fa_161 (by decide)) ear_173 (by decide)) 62 rfl), ear_117]; show (if i9 = Int32.toNatClampNeg x_1 then v_115 else ar_36 62 i9) = _; rw [show ar_36 62 = ar_4 62 from ((fA_call (fA_rf [] _) fa_38 (by decide)) 62 rfl)]; rfl); have p63 : ∀ i9 : Nat, ar_173 63 i9 = if i9 = (x_1.toInt.toNat) then v_172 else ar_4 63 i9 := (fun i9 => by rw [show ar_173 63 = ar_173 63 from rfl, ear_173]; show (if i9 = Int32.toNatClampNeg x_1 then v_172 else ar_159 63 i9) = _; rw [show ar_159 63 = ar_152 63 from ((fA_call (fA_rf [] _) fa_161 (by decide)) 63 rfl), ear_152]; show (if i9 = (x_1.toInt.toNat) then v_172 else if i9 = (x_1.toInt.toNat) then (10000000 : Int32) else ar_117 63 i9) = _; by_cases c9 : i9 = (x_1.toInt.toNat); rw [if_pos c9, if_pos c9]; rw [if_neg c9, if_neg c9, if_neg c9, show ar_117 63 = ar_4 63 from ((fA_put (fA_call (fA_rf [62] _) fa_38 (by decide)) ear_117 (by decide)) 63 rfl)]); have ht9 : v_21 = ar 58 (x_1.toInt.toNat) := (show v_21 = ar 58 (x_1.toInt.toNat) from by rw [ev_21, show ar_4 58 = ar 58 from ((fA_call (fA_rf [62, 63] _) fa_5 (by decide)) 58 rfl)]; exact congrArg (ar 58) (show x_1.toInt.toNat = (x_1.toInt.toNat) from by omega)); have hc9 : v_27 = ar 59 (x_1.toInt.toNat) := (show v_27 = ar 59 (x_1.toInt.toNat) from by rw [ev_27, show ar_4 59 = ar 59 from ((fA_call (fA_rf [62, 63] _) fa_5 (by decide)) 59 rfl)]; exact congrArg (ar 59) (show x_1.toInt.toNat = (x_1.toInt.toNat) from by omega)); have ho9 : v_44 = ar 61 (x_1.toInt.toNat) := (show v_44 = ar 61 (x_1.toInt.toNat) from by rw [ev_44, show ar_36 61 = ar 61 from ((fA_call (fA_call (fA_rf [62, 63] _) fa_5 (by decide)) fa_38 (by decide)) 61 rfl)]; exact congrArg (ar 61) (show x_1.toInt.toNat = (x_1.toInt.toNat) from by omega)); have hh9 : v_118 = ar 60 (x_1.toInt.toNat) := (show v_118 = ar 60 (x_1.toInt.toNat) from by rw [ev_118, show ar_117 60 = ar 60 from ((fA_put (fA_call (fA_call (fA_rf [62, 63] _) fa_5 (by decide)) fa_38 (by decide)) ear_117 (by decide)) 60 rfl)]; exact congrArg (ar 60) (show x_1.toInt.toNat = (x_1.toInt.toNat) from by omega)); have h30 : v_23 = ar 30 (v_21.toInt.toNat) := (show v_23 = ar 30 (v_21.toInt.toNat) from by rw [ev_23, show ar_4 30 = ar 30 from ((fA_call (fA_rf [62, 63] _) fa_5 (by decide)) 30 rfl)]; exact congrArg (ar 30) (show v_21.toInt.toNat = (v_21.toInt.toNat) from by omega)); have h2 : v_25 = ar 2 (v_23.toInt.toNat) := (show v_25 = ar 2 (v_23.toInt.toNat) from by rw [ev_25, show ar_4 2 = ar 2 from ((fA_call (fA_rf [62, 63] _) fa_5 (by decide)) 2 rfl)]; exact congrArg (ar 2) (show v_23.toInt.toNat = (v_23.toInt.toNat) from by omega)); have h7 : v_29 = ar 7 (pp.toInt.toNat) := (show v_29 = ar 7 (pp.toInt.toNat) from by rw [ev_29, show ar_4 7 = ar 7 from ((fA_call (fA_rf [62, 63] _) fa_5 (by decide)) 7 rfl)]; exact congrArg (ar 7) (show pp.toInt.toNat = (pp.toInt.toNat) from by omega)); have hY9 := hp_mY; have hn9 : (x_1.toInt.toNat) < (fv 24).toInt.toNat := (by omega); have hft : mo_ft (mx_D fv ar) (mx_G ar) (pp.toInt.toNat) (ar 64 (pp.toInt.toNat)).toInt ((ar 58 (x_1.toInt.toNat)).toInt.toNat) = v_27.toInt + r_31.toInt := (by rw [k_40]; show mo_cm (mx_D fv ar) (mx_G ar) _ + mo_wk (mx_G ar) (ar 64 (pp.toInt.toNat)).toInt (mo_ct (mx_D fv ar) _) _ = _; rw [← (hY9.2 (x_1.toInt.toNat) hn9).1, ← hc9]; congr 1; show mo_wk (mx_G ar) (ar 64 (pp.toInt.toNat)).toInt ((ar 2 ((ar 30 ((ar 58 (x_1.toInt.toNat)).toInt.toNat)).toInt.toNat)).toInt.toNat) ((ar 7 (pp.toInt.toNat)).toInt.toNat) = _; rw [← ht9, ← h30, ← h2, ← h7]); have hri : (if (ar 61 (x_1.toInt.toNat)).toInt = -1 then 10000000 else (ar_4 63 ((ar 61 (x_1.toInt.toNat)).toInt.toNat)).toInt) = (10000000 : Int32).toInt := (by rw [← ho9, if_pos (by omega)]; decide); have hxv := mo_mnI ev_115; have hxw : v_115.toInt = mo_mn (mo_ft (mx_D fv ar) (mx_G ar) (pp.toInt.toNat) (ar 64 (pp.toInt.toNat)).toInt ((ar 58 (x_1.toInt.toNat)).toInt.toNat)) (if (ar 61 (x_1.toInt.toNat)).toInt = -1 then 10000000 else (ar_4 63 ((ar 61 (x_1.toInt.toNat)).toInt.toNat)).toInt) := (by rw [hft, hri, hxv, mo_mn_comm]; congr 1; omega); have hb0 : mo_b0 (ar 60) (ar_4 63) (x_1.toInt.toNat) = (10000000 : Int32).toInt := (by unfold mo_b0; rw [← hh9, if_pos (by omega)]; decide); have hq9 : mo_hd (mx_D fv ar) (pp.toInt.toNat) ((ar 58 (x_1.toInt.toNat)).toInt.toNat) := (by rw [← ht9]; exact (by have h9 := q_168; rw [show mx_D fv_34 ar_152 = mx_D fv ar from (mx_D_fr (fM_call (fM_call (fM_rf [] _) fr_3 (by decide)) fr_37 (by decide)) (fA_put (fA_put (fA_call (fA_call (fA_rf [62, 63] _) fa_5 (by decide)) fa_38 (by decide)) ear_117 (by decide)) ear_152 (by decide)) rfl rfl)] at h9; exact h9)); have hby := mo_mnI ev_172; have hyv : (ar_173 63 (x_1.toInt.toNat)).toInt = mo_mn (mo_b0 (ar 60) (ar_4 63) (x_1.toInt.toNat)) v_115.toInt := (by rw [p63, if_pos rfl, hby, hb0, mo_mn_comm]; rw [(show v_170 = (10000000 : Int32) from by rw [ev_170, show ar_159 63 = ar_152 63 from ((fA_call (fA_rf [] _) fa_161 (by decide)) 63 rfl), ear_152]; show (if Int32.toNatClampNeg x_1 = Int32.toNatClampNeg x_1 then _ else _) = _; exact if_pos rfl), (show v_171 = v_115 from by rw [ev_171, show ar_159 62 = ar_117 62 from ((fA_call (fA_put (fA_rf [63] _) ear_152 (by decide)) fa_161 (by decide)) 62 rfl), ear_117]; show (if Int32.toNatClampNeg x_1 = Int32.toNatClampNeg x_1 then _ else _) = _; exact if_pos rfl)]); rw [show v_174.toInt.toNat = (x_1.toInt.toNat) + 1 from by omega]; exact mo_we_s hY9 hn9 q_10 (fun j9 c9 => by rw [p62, if_neg c9]) (fun j9 c9 => by rw [p63, if_neg c9]) (by rw [p62]; exact if_pos rfl) hxw (fun _ => hyv) (fun w => absurd hq9 w)) (by omega) hP hS (lv_sub hl [4, 5, 0] rfl)
  · skip
    have z_193 : (0 : Int32).toInt = 0 := by decide
    have z_194 : 0 ≤ (fv 24).toInt ∧ (fv 24).toInt ≤ 80 := hF_fv 24
    exact hj_14 81 0 fv ar wd _ _ ls (by first | decide | omega) (iv_w (⟨by decide, by decide⟩ : (0 : Int) ≤ (0 : Int32).toInt ∧ (0 : Int32).toInt ≤ 0) (by decide) (by decide)) hF_fv (fM_rf [] _) hA_ar (fA_rf [62, 63] _) rfl hp_mR hp_mY (by intro i9 hi9; exact absurd hi9 (by rw [show (0 : Int32).toInt.toNat = 0 from by decide]; omega)) (by omega) hP hS (lv_sub hl [1, 2, 0] rfl)
set_option maxHeartbeats 4000000 in
set_option maxRecDepth 100000 in
theorem x_firstTripE (l : Launch) (dC : Nat → ClassId) (dI : Nat → Nat → Nat) (sz : Nat) (ob ad : Nat → Nat) (cA : Nat → ClassId) (hd : dX ob ad) (fv : Nat → Int32) (wd : xT) (ar : Nat → Nat → Int32) (hF_fv : rX fv) (hA_ar : rB ar) (pp : Int32) (a : Int32) (b : Int32) (d : Int32) (h_pp : 0 ≤ pp.toInt ∧ pp.toInt ≤ 39) (h_a : 0 ≤ a.toInt ∧ a.toInt ≤ 11) (h_b : 0 ≤ b.toInt ∧ b.toInt ≤ 840) (hpc : 0 ≤ (ar 64 (pp.toInt.toNat)).toInt ∧ (ar 64 (pp.toInt.toNat)).toInt ≤ 50) (hp_mR : mx_R fv ar) (hp_mY : mx_Y fv ar) : Met l yX9_firstTrip (.code yX9_firstTrip cX9_firstTrip 10 (some .int) :: lw_good) ({ frames := 5, cells := 0, slots := 0, locals := 110 }) (va_Pc [.ref (ob 9), .int pp, .int a, .int b, .int d] (prX dC dI ob ad cA fv wd ar sz)) (va_Qi (fun (r : Int32) (u : xS) => rX u.1 ∧ rB u.2.2 ∧ fM [] fv u.1 ∧ fA [62, 63] ar u.2.2 ∧ u.2.1.2 = wd.2 ∧ ((-1) ≤ r.toInt ∧ r.toInt ≤ 79) ∧ (mo_pk (mx_D fv ar) (mx_G ar) (pp.toInt.toNat) (a.toInt.toNat) (ar 64 (pp.toInt.toNat)).toInt b.toInt d.toInt r.toInt) ∧ True) (enX dC dI ob ad cA) (aX ob ad sz)) 0 0 (aX ob ad sz) := by
  refine Met.ofW (cc := cX9_firstTrip) (maxL := 10) (ret := (some .int)) (by decide) rfl ?_
  intro p e s m args below meth c s₁ B hml hv
  obtain ⟨rfl, hsz, hP, hK⟩ := hv
  have hx := B.exec
  have hb := B.bytes
  have hr := B.returns
  have hts := atoms_spec (ws := (.code yX9_firstTrip cX9_firstTrip 10 (some .int) :: lw_good)) B.pre
  have htg : ∀ w ∈ lw_good, w.before _ s = true := fun w hw => hts w (List.mem_cons_of_mem _ hw)
  have hown : s.vm.findClass RX9 = some m.cls := findClass_of_methodNamed B.named
  have hlocks := B.notSynchronized
  subst hsz
  have hS : va_S (aX ob ad s.heap.size) s.heap s.heap [] := va_S.rf
  have hl := lv_entry ([.ref (ob 9), .int pp, .int a, .int b, .int d]) (n := 10) (Nat.le_of_ble_eq_true rfl)
  rw [lg_entry_eq]
  generalize (lg_sl ([.ref (ob 9), .int pp, .int a, .int b, .int d]) ++ List.replicate (10 - (lg_sl ([.ref (ob 9), .int pp, .int a, .int b, .int d])).length) Slot.unset).toArray = ls at hl ⊢
  have hl : lv_has ls 10 [(0, .ref (ob 9)), (1, .int pp), (2, .int a), (3, .int b), (4, .int d)] := hl
  refine lv_aload_n hx hb dX9_firstTrip_0 rfl (lv_at hl 0 rfl) ?_
  refine lv_iload_n hx hb dX9_firstTrip_1 rfl (lv_at hl 1 rfl) ?_
  have z_1 : 0 ≤ (fv 24).toInt ∧ (fv 24).toInt ≤ 80 := hF_fv 24
  refine va_callv (va_runV (As := [.int pp]) (rest := []) ⟨hx, hb, hml, hown, hts⟩ (x_weighE l dC dI s.heap.size ob ad cA hd fv wd ar hF_fv hA_ar pp h_pp hpc hp_mR hp_mY) (cwV 1 hts (gV kw_5_130 kw_5_132 kw_p_30 kw_1_13 kw_5_133) rfl rfl rfl (by decide +kernel) ⟨Nat.le_of_ble_eq_true rfl, Nat.le_of_ble_eq_true rfl⟩) ⟨fun a U g mk q => ⟨q.1, q.2.1, q.2.2.1, va_K.moved (u := U) (U := U.calling g mk a) (Vm.Alike.refl U.vm) q.2.2.2⟩, va_recv hK hP (ci := 9) (q0 := 9) rfl rfl, fun U hU hW => ⟨rfl, by rw [hU], by rw [hU]; exact hP, va_K.moved hW.alike hK⟩⟩ rfl rfl hl.1 rfl (lv_room (Nat.le_of_ble_eq_true rfl)) dX9_firstTrip_2 ⟨Nat.le_of_ble_eq_true rfl, Nat.le_of_ble_eq_true rfl⟩) hS (fun q _ h9 => aX_up hS q h9) (aX_up hS) (fun u t H1 locs ht _ hw hB _ hk1 hS => ?_)
  obtain ⟨fv_4, wd_5, ar_6⟩ := u
  obtain ⟨hF_fv_4, hA_ar_6, fr_7, fa_8, wf_9, p_3, -⟩ := hw
  have wf_9 : wd_5.2 = wd.2 := wf_9
  have hP : va_P (dC, dI) vwCl (wsX ob ad cA fv_4 wd_5 ar_6) H1 := by have h9 := hB.1; rw [ht] at h9; exact h9
  have fr_7 : fM [] fv fv_4 := fr_7
  have fa_8 : fA [62, 63] ar ar_6 := fa_8
  have p_3 : mo_we (mx_D fv ar) (mx_G ar) (pp.toInt.toNat) (ar 64 (pp.toInt.toNat)).toInt ((fv 24).toInt.toNat) (ar 58) (ar 60) (ar 61) (ar_6 62) (ar_6 63) := p_3
  generalize H1 = H at hP hS ⊢
  refine lv_ldc hx hb hown (htg (.constant RX9 69 10000000) kw_5_99) dX9_firstTrip_5 ?_
  refine lv_iload_n hx hb dX9_firstTrip_7 rfl (lv_at hl 3 rfl) ?_
  refine lv_aload_n hx hb dX9_firstTrip_8 rfl (lv_at hl 0 rfl) ?_
  refine lv_iload_n hx hb dX9_firstTrip_9 rfl (lv_at hl 1 rfl) ?_
  refine lv_iload_n hx hb dX9_firstTrip_10 rfl (lv_at hl 2 rfl) ?_
  refine lv_aload_n hx hb dX9_firstTrip_11 rfl (lv_at hl 0 rfl) ?_
  refine gX_X9_9 hx hb htg hown hK hP dX9_firstTrip_12 ?_
  refine gX_X9_91 hx hb htg hown hK hP dX9_firstTrip_15 ?_
  refine gX_X9_116 hx hb htg hown hK hP dX9_firstTrip_18 ?_
  refine lv_iload_n hx hb dX9_firstTrip_21 rfl (lv_at hl 1 rfl) ?_
  refine lX_7 hx hb hK hP (iv_in h_pp (by decide) (by decide)) dX9_firstTrip_22 (fun v_10 ev_10 => ?_)
  have i_11 : 0 ≤ v_10.toInt ∧ v_10.toInt ≤ 11 := ev_10 ▸ hA_ar_6 7 _
  refine va_calli (va_runV (As := [.int pp, .int a, .int v_10]) (rest := [.int b, .int 10000000]) ⟨hx, hb, hml, hown, hts⟩ (x_walkMinutesE l dC dI H.size ob ad cA hd fv_4 wd_5 ar_6 hF_fv_4 hA_ar_6 pp a v_10 h_pp h_a i_11 (by rw [show ar_6 64 = ar 64 from ((fA_call (fA_rf [62, 63] _) fa_8 (by decide)) 64 rfl)]; exact hpc)) (cwV 3 hts (gV kw_5_134 kw_5_135 kw_5_136 kw_1_13 kw_5_137) rfl rfl rfl (by decide +kernel) ⟨Nat.le_of_ble_eq_true rfl, Nat.le_of_ble_eq_true rfl⟩) ⟨fun a U g mk q => ⟨q.1, q.2.1, q.2.2.1, va_K.moved (u := U) (U := U.calling g mk a) (Vm.Alike.refl U.vm) q.2.2.2⟩, va_recv hK hP (ci := 9) (q0 := 9) rfl rfl, fun U hU hW => ⟨rfl, by rw [hU], by rw [hU]; exact hP, va_K.moved hW.alike hK⟩⟩ rfl rfl hl.1 rfl (lv_room (Nat.le_of_ble_eq_true rfl)) dX9_firstTrip_23 ⟨Nat.le_of_ble_eq_true rfl, Nat.le_of_ble_eq_true rfl⟩) hS (fun q _ h9 => aX_up hS q h9) (aX_up hS) (fun r_12 u t H1 locs ht _ hw hB _ hk1 hS => ?_)
  obtain ⟨fv_15, wd_16, ar_17⟩ := u
  obtain ⟨hF_fv_15, hA_ar_17, fr_18, fa_19, wf_20, p_13, p_14, -⟩ := hw
  have wf_20 : wd_16.2 = wd_5.2 := wf_20
  have hP : va_P (dC, dI) vwCl (wsX ob ad cA fv_15 wd_16 ar_17) H1 := by have h9 := hB.1; rw [ht] at h9; exact h9
  have fr_18 : fM [] fv_4 fv_15 := fr_18
  have fa_19 : fA [] ar_6 ar_17 := fa_19
  have p_14 : r_12.toInt = mo_wk (mx_G ar_6) (ar_6 64 (pp.toInt.toNat)).toInt a.toInt.toNat v_10.toInt.toNat := p_14
  generalize H1 = H at hP hS ⊢
  have k_21 : r_12.toInt = mo_wk (mx_G ar) (ar 64 (pp.toInt.toNat)).toInt a.toInt.toNat v_10.toInt.toNat := by have h9 := p_14; rw [show mx_G ar_6 = mx_G ar from by unfold mx_G; rw [show ar_6 5 = ar 5 from ((fA_call (fA_rf [62, 63] _) fa_8 (by decide)) 5 rfl)], show ar_6 64 = ar 64 from ((fA_call (fA_rf [62, 63] _) fa_8 (by decide)) 64 rfl)] at h9; exact h9
  refine lv_iadd hx hb dX9_firstTrip_26 ?_
  refine lv_topi (fun v_22 ev_22 => ?_)
  have t_23 : v_22.toInt = b.toInt + r_12.toInt ∧ 0 ≤ v_22.toInt ∧ v_22.toInt ≤ 50000840 := iv_add ev_22 h_b p_13 (by decide) (by decide)
  refine va_mmin hx hb (hml.trans hl.1.symm) hown (htg (.methodLink RX9 122 Lib.Math.min.name) kw_5_140) (htg (.static Lib.Math.min.name) kw_3_151) (htg (.initialized RJ9) kw_1_16) (htg (.code Lib.Math.min.name Lib.Math.min.code 2 (some .int)) kw_3_152) (Nat.le_of_ble_eq_true rfl) (Nat.le_of_ble_eq_true rfl) (Nat.le_of_ble_eq_true rfl) (Nat.le_of_ble_eq_true rfl) dX9_firstTrip_27 ?_
  refine lv_topi (fun v_25 ev_25 => ?_)
  have i_26 : 0 ≤ v_25.toInt ∧ v_25.toInt ≤ 10000000 := ix_min ev_25 (⟨by decide, by decide⟩ : (10000000 : Int) ≤ (10000000 : Int32).toInt ∧ (10000000 : Int32).toInt ≤ 10000000) t_23.2 (by decide) (by decide)
  refine lv_istore (lv' := [(5, .int v_25), (0, .ref (ob 9)), (1, .int pp), (2, .int a), (3, .int b), (4, .int d)]) hx hb dX9_firstTrip_30 hl (by decide) rfl (fun ls hl => ?_)
  refine lv_iconst (v := (-1)) hx hb dX9_firstTrip_32 (by decide) ?_
  refine lv_istore (lv' := [(6, .int (-1)), (5, .int v_25), (0, .ref (ob 9)), (1, .int pp), (2, .int a), (3, .int b), (4, .int d)]) hx hb dX9_firstTrip_33 hl (by decide) rfl (fun ls hl => ?_)
  refine lv_iconst (v := 0) hx hb dX9_firstTrip_35 (by decide) ?_
  refine lv_istore (lv' := [(7, .int 0), (6, .int (-1)), (5, .int v_25), (0, .ref (ob 9)), (1, .int pp), (2, .int a), (3, .int b), (4, .int d)]) hx hb dX9_firstTrip_36 hl (by decide) rfl (fun ls hl => ?_)
  refine my_cut (P := fun R9 a9 Q9 => ∀ (n_40 : Nat) (x_27 : Int32) (x_28 : Int32) (x_29 : Int32) (fv_30 : Nat → Int32) (ar_32 : Nat → Nat → Int32) (wd_34 : xT) (H : Heap) (locs : List Loc) (ls : Array Slot), 80 - x_29.toInt < (n_40 : Int) → ((-2147483648) ≤ x_27.toInt ∧ x_27.toInt ≤ 10000000) → ((-1) ≤ x_28.toInt ∧ x_28.toInt ≤ 79) → (0 ≤ x_29.toInt ∧ x_29.toInt ≤ 80) → rX fv_30 → fM [] fv_15 fv_30 → rB ar_32 → fA [] ar_17 ar_32 → wd_34.2 = wd_16.2 → mx_R fv_30 ar_32 → mx_Y fv_30 ar_32 → (mo_sk (mx_D fv ar) (mo_cd (mx_D fv ar) (mx_G ar) (pp.toInt.toNat) (a.toInt.toNat) (ar 64 (pp.toInt.toNat)).toInt b.toInt d.toInt) (mo_mn (b.toInt + mo_wk (mx_G ar) (ar 64 (pp.toInt.toNat)).toInt a.toInt.toNat ((ar 7 (pp.toInt.toNat)).toInt.toNat)) 10000000) (x_29.toInt.toNat) (ar 58) (ar_6 62) x_27.toInt x_28.toInt) → (x_29.toInt ≤ (fv 24).toInt) → va_P (dC, dI) vwCl (wsX ob ad cA fv_30 wd_34 ar_32) H → va_S (aX ob ad s.heap.size) s.heap H locs → lv_has ls 10 [(0, .ref (ob 9)), (1, .int pp), (2, .int a), (3, .int b), (4, .int d), (5, .int x_27), (6, .int x_28), (7, .int x_29)] → W p l e R9 s m a9 below meth c H locs 0 0 Q9 (F0 m 38 ls [])) ?_ (fun hj_42 => ?_)
  · intro n_40
    induction n_40 with
    | zero => intro x_27 x_28 x_29 fv_30 ar_32 wd_34 H locs ls fu_41 i_x_27 i_x_28 i_x_29 hF_fv_30 fr_31 hA_ar_32 fa_33 wf_35 hp_36 hp_37 q_38 q_39; exfalso; omega
    | succ n_40 ih_40 =>
      intro x_27 x_28 x_29 fv_30 ar_32 wd_34 H locs ls fu_41 i_x_27 i_x_28 i_x_29 hF_fv_30 fr_31 hA_ar_32 fa_33 wf_35 hp_36 hp_37 q_38 q_39 hP hS hl
      refine lv_iload hx hb dX9_firstTrip_38 (lv_at hl 7 rfl) ?_
      refine lv_aload_n hx hb dX9_firstTrip_40 rfl (lv_at hl 0 rfl) ?_
      refine gX_X9_51 hx hb htg hown hK hP dX9_firstTrip_41 ?_
      refine my_ti (y := fv 24) ((fr_31 24 rfl).trans ((fr_18 24 rfl).trans ((fr_7 24 rfl)))) ?_
      have i_43 : 0 ≤ (fv 24).toInt ∧ (fv 24).toInt ≤ 80 := hF_fv 24
      refine lv_icmp_ge (tgt := 148) hx hb dX9_firstTrip_44 (by decide) (fun c_44 => ?_) (fun c_44 => ?_)
      · skip
        have k_45 := Int32.le_iff_toInt_le.mp c_44
        refine lv_iload hx hb dX9_firstTrip_148 (lv_at hl 6 rfl) ?_
        exact W.iret (v := x_28) hx hb hr (fun t ht hW => ⟨⟨x_28, (fv_30, wd_34, ar_32), rfl, ⟨hF_fv_30, hA_ar_32, (fM_call (fM_call (fM_call (fM_rf [] _) fr_7 (by decide)) fr_18 (by decide)) fr_31 (by decide)), (fA_call (fA_call (fA_call (fA_rf [62, 63] _) fa_8 (by decide)) fa_19 (by decide)) fa_33 (by decide)), (wf_35.trans (wf_20.trans wf_9)), i_x_28, (show mo_pk (mx_D fv ar) (mx_G ar) (pp.toInt.toNat) (a.toInt.toNat) (ar 64 (pp.toInt.toNat)).toInt b.toInt d.toInt x_28.toInt from by have h9 := q_38; rw [show (x_29).toInt.toNat = (fv 24).toInt.toNat from by omega] at h9; exact mo_x_pk (cm := ar 59) (fun k => (hp_mR.1.2.2.1 k).1) hp_mY (by have h9 := p_3; exact h9) (fun x9 hx9 => by rw [mo_mn_le]; constructor; (intro w; rcases w with w | w; exact w; exfalso; omega); exact Or.inl) (by have h8 := mo_mn_or (b.toInt + mo_wk (mx_G ar) (ar 64 (pp.toInt.toNat)).toInt a.toInt.toNat ((ar 7 (pp.toInt.toNat)).toInt.toNat)) 10000000; rcases h8 with h8 | h8; (have h7 := (mo_mn_le (b.toInt + mo_wk (mx_G ar) (ar 64 (pp.toInt.toNat)).toInt a.toInt.toNat ((ar 7 (pp.toInt.toNat)).toInt.toNat)) 10000000 10000000).mpr (Or.inr (Int.le_refl _)); exact h7); omega) (fun i9 hi9 => by have h8 := (mo_we_fin hp_mR.1 hp_mR.2.1 hpc.1 hpc.2 hp_mY (by have h9 := p_3; exact h9) i9 hi9).1; omega) h9), trivial⟩, ⟨by rw [ht]; exact hP, va_K.moved hW.alike hK⟩⟩, hS.F ht⟩) hS.2.2 dX9_firstTrip_150
      · skip
        have i_46 : 0 ≤ x_29.toInt ∧ x_29.toInt ≤ 79 := iv_lt1 i_x_29 i_43 (Int32.not_le.mp c_44)
        have i_47 : 1 ≤ (fv 24).toInt ∧ (fv 24).toInt ≤ 80 := iv_lt2 i_x_29 i_43 (Int32.not_le.mp c_44)
        have k_48 := Int32.lt_iff_toInt_lt.mp (Int32.not_le.mp c_44)
        refine lv_aload_n hx hb dX9_firstTrip_47 rfl (lv_at hl 0 rfl) ?_
        refine gX_X9_17 hx hb htg hown hK hP dX9_firstTrip_48 ?_
        refine lv_iload hx hb dX9_firstTrip_51 (lv_at hl 7 rfl) ?_
        refine lX_58 hx hb hK hP (iv_in i_46 (by decide) (by decide)) dX9_firstTrip_53 (fun v_49 ev_49 => ?_)
        have i_50 : 0 ≤ v_49.toInt ∧ v_49.toInt ≤ 79 := ev_49 ▸ hA_ar_32 58 _
        refine lv_istore (lv' := [(8, .int v_49), (0, .ref (ob 9)), (1, .int pp), (2, .int a), (3, .int b), (4, .int d), (5, .int x_27), (6, .int x_28), (7, .int x_29)]) hx hb dX9_firstTrip_54 hl (by decide) rfl (fun ls hl => ?_)
        refine lv_aload_n hx hb dX9_firstTrip_56 rfl (lv_at hl 1 rfl) ?_
        refine gX_X9_30 hx hb htg hown hK hP dX9_firstTrip_57 ?_
        refine lv_iload hx hb dX9_firstTrip_60 (lv_at hl 8 rfl) ?_
        refine lX_62 hx hb hK hP (iv_in i_46 (by decide) (by decide)) dX9_firstTrip_62 (fun v_51 ev_51 => ?_)
        refine lv_iload hx hb dX9_firstTrip_63 (lv_at hl 6 rfl) ?_
        refine lv_icmp_lt (tgt := 87) hx hb dX9_firstTrip_65 (by decide) (fun c_52 => ?_) (fun c_52 => ?_)
        · skip
          have i_53 : (-2147483648) ≤ v_51.toInt ∧ v_51.toInt ≤ 9999999 := iv_lt1 (iv_any v_51) i_x_27 c_52
          have i_54 : (-2147483647) ≤ x_27.toInt ∧ x_27.toInt ≤ 10000000 := iv_lt2 (iv_any v_51) i_x_27 c_52
          have k_55 := Int32.lt_iff_toInt_lt.mp c_52
          refine lv_iconst (v := 1) hx hb dX9_firstTrip_87 (by decide) ?_
          refine lv_goto (tgt := 92) hx hb dX9_firstTrip_88 (by decide) ?_
          refine lv_istore (lv' := [(9, .int 1), (8, .int v_49), (0, .ref (ob 9)), (1, .int pp), (2, .int a), (3, .int b), (4, .int d), (5, .int x_27), (6, .int x_28), (7, .int x_29)]) hx hb dX9_firstTrip_92 hl (by decide) rfl (fun ls hl => ?_)
          refine lv_iload hx hb dX9_firstTrip_94 (lv_at hl 0 rfl) ?_
          refine lv_if_eq (tgt := 142) hx hb dX9_firstTrip_96 (by decide) (fun c_56 => ?_) (fun c_56 => ?_)
          · skip
            exact absurd c_56 (by decide)
          · skip
            refine lv_aload_n hx hb dX9_firstTrip_99 rfl (lv_at hl 2 rfl) ?_
            refine lv_iload_n hx hb dX9_firstTrip_100 rfl (lv_at hl 3 rfl) ?_
            refine lv_iload_n hx hb dX9_firstTrip_101 rfl (lv_at hl 4 rfl) ?_
            refine lv_iload_n hx hb dX9_firstTrip_102 rfl (lv_at hl 5 rfl) ?_
            refine lv_iload hx hb dX9_firstTrip_103 (lv_at hl 1 rfl) ?_
            refine va_calli (va_runV (As := [.int pp, .int a, .int b, .int v_49]) (rest := []) ⟨hx, hb, hml, hown, hts⟩ (x_reachesE l dC dI H.size ob ad cA hd fv_30 wd_34 ar_32 hF_fv_30 hA_ar_32 pp a b v_49 h_pp h_a h_b i_50 (by rw [show ar_32 64 = ar 64 from ((fA_call (fA_call (fA_call (fA_rf [62, 63] _) fa_8 (by decide)) fa_19 (by decide)) fa_33 (by decide)) 64 rfl)]; exact hpc) hp_36) (cwV 4 hts (gV kw_5_145 kw_5_147 kw_p_32 kw_1_13 kw_5_148) rfl rfl rfl (by decide +kernel) ⟨Nat.le_of_ble_eq_true rfl, Nat.le_of_ble_eq_true rfl⟩) ⟨fun a U g mk q => ⟨q.1, q.2.1, q.2.2.1, va_K.moved (u := U) (U := U.calling g mk a) (Vm.Alike.refl U.vm) q.2.2.2⟩, va_recv hK hP (ci := 9) (q0 := 9) rfl rfl, fun U hU hW => ⟨rfl, by rw [hU], by rw [hU]; exact hP, va_K.moved hW.alike hK⟩⟩ rfl rfl hl.1 rfl (lv_room (Nat.le_of_ble_eq_true rfl)) dX9_firstTrip_105 ⟨Nat.le_of_ble_eq_true rfl, Nat.le_of_ble_eq_true rfl⟩) hS (fun q _ h9 => aX_up hS q h9) (aX_up hS) (fun r_57 u t H1 locs ht _ hw hB _ hk1 hS => ?_)
            obtain ⟨fv_60, wd_61, ar_62⟩ := u
            obtain ⟨hF_fv_60, hA_ar_62, fr_63, fa_64, wf_65, p_58, p_59, -⟩ := hw
            have wf_65 : wd_61.2 = wd_34.2 := wf_65
            have hP : va_P (dC, dI) vwCl (wsX ob ad cA fv_60 wd_61 ar_62) H1 := by have h9 := hB.1; rw [ht] at h9; exact h9
            have fr_63 : fM [] fv_30 fv_60 := fr_63
            have fa_64 : fA [] ar_32 ar_62 := fa_64
            generalize H1 = H at hP hS ⊢
            rcases p_59 with ⟨rfl, p_59⟩ | ⟨rfl, p_59⟩
            · skip
              have q_66 : ¬ (mo_hd (mx_D fv_30 ar_32) (pp.toInt.toNat) (v_49.toInt.toNat) ∧ b.toInt + mo_wk (mx_G ar_32) (ar_32 64 (pp.toInt.toNat)).toInt a.toInt.toNat (mo_cf (mx_D fv_30 ar_32) (v_49.toInt.toNat)) ≤ ((mx_D fv_30 ar_32) 14 (v_49.toInt.toNat)).toInt) := p_59
              refine lv_if_eq (tgt := 142) hx hb dX9_firstTrip_108 (by decide) (fun c_67 => ?_) (fun c_67 => ?_)
              · skip
                obtain ⟨v_68, ev_68⟩ : ∃ z : Int32, z = x_29 + 1 := ⟨_, rfl⟩
                refine lv_iinc (v := v_68) (lv' := [(7, .int v_68), (9, .int 1), (8, .int v_49), (0, .ref (ob 9)), (1, .int pp), (2, .int a), (3, .int b), (4, .int d), (5, .int x_27), (6, .int x_28)]) hx hb dX9_firstTrip_142 hl (k := 9) rfl (by rw [ev_68]; rfl) (by decide) rfl (fun ls hl => ?_)
                have t_69 : v_68.toInt = x_29.toInt + 1 ∧ 1 ≤ v_68.toInt ∧ v_68.toInt ≤ 80 := iv_addc ev_68 i_46 (by decide) (by decide) (by decide)
                refine lv_goto (tgt := 38) hx hb dX9_firstTrip_145 (by decide) ?_
                have z_135 : (fv_60 24).toInt = (fv 24).toInt := congrArg Int32.toInt ((fr_63 24 rfl).trans ((fr_31 24 rfl).trans ((fr_18 24 rfl).trans ((fr_7 24 rfl)))))
                have z_136 : 0 ≤ (fv_60 24).toInt ∧ (fv_60 24).toInt ≤ 80 := hF_fv_60 24
                exact ih_40 x_27 x_28 v_68 fv_60 ar_62 wd_61 _ _ ls (by omega) (iv_w i_54 (by decide) (by decide)) i_x_28 (iv_w t_69.2 (by decide) (by decide)) hF_fv_60 (fM_call (fM_call (fM_rf [] _) fr_31 (by decide)) fr_63 (by decide)) hA_ar_62 (fA_call (fA_call (fA_rf [] _) fa_33 (by decide)) fa_64 (by decide)) (wf_65.trans wf_35) (mx_R_fr hp_36 (fM_call (fM_rf [] _) fr_63 (by decide)) (fA_call (fA_rf [] _) fa_64 (by decide)) rfl rfl rfl rfl rfl rfl rfl rfl rfl rfl rfl rfl rfl rfl rfl rfl rfl rfl rfl rfl rfl rfl rfl rfl rfl rfl rfl) (mx_Y_fr hp_37 (fM_call (fM_rf [] _) fr_63 (by decide)) (fA_call (fA_rf [] _) fa_64 (by decide)) rfl rfl rfl rfl rfl rfl rfl rfl rfl rfl rfl rfl rfl rfl rfl rfl rfl rfl rfl rfl rfl rfl rfl rfl rfl rfl rfl rfl rfl rfl rfl rfl) (by have ht9 : v_49 = ar 58 (x_29.toInt.toNat) := (show v_49 = ar 58 (x_29.toInt.toNat) from by rw [ev_49, show ar_32 58 = ar 58 from ((fA_call (fA_call (fA_call (fA_rf [62, 63] _) fa_8 (by decide)) fa_19 (by decide)) fa_33 (by decide)) 58 rfl)]; exact congrArg (ar 58) (show x_29.toInt.toNat = (x_29.toInt.toNat) from by omega)); have ha9 : v_51 = ar_6 62 (x_29.toInt.toNat) := (show v_51 = ar_6 62 (x_29.toInt.toNat) from by rw [ev_51, show ar_32 62 = ar_6 62 from ((fA_call (fA_call (fA_rf [] _) fa_19 (by decide)) fa_33 (by decide)) 62 rfl)]; exact congrArg (ar_6 62) (show x_29.toInt.toNat = (x_29.toInt.toNat) from by omega)); rw [show v_68.toInt.toNat = (x_29.toInt.toNat) + 1 from by omega]; exact mo_sk_n q_38 (by rw [← ht9]; omega) (Or.inl (by rw [← ht9]; intro w; exact absurd (show mo_hd (mx_D fv ar) (pp.toInt.toNat) (v_49.toInt.toNat) ∧ b.toInt + mo_wk (mx_G ar) (ar 64 (pp.toInt.toNat)).toInt a.toInt.toNat (mo_cf (mx_D fv ar) (v_49.toInt.toNat)) ≤ ((mx_D fv ar) 14 (v_49.toInt.toNat)).toInt from ⟨w.1.2, w.2.2⟩) (by have h9 := q_66; rw [show mx_D fv_30 ar_32 = mx_D fv ar from (mx_D_fr (fM_call (fM_call (fM_call (fM_rf [] _) fr_7 (by decide)) fr_18 (by decide)) fr_31 (by decide)) (fA_call (fA_call (fA_call (fA_rf [62, 63] _) fa_8 (by decide)) fa_19 (by decide)) fa_33 (by decide)) rfl rfl), show mx_G ar_32 = mx_G ar from by unfold mx_G; rw [show ar_32 5 = ar 5 from ((fA_call (fA_call (fA_call (fA_rf [62, 63] _) fa_8 (by decide)) fa_19 (by decide)) fa_33 (by decide)) 5 rfl)], show ar_32 64 = ar 64 from ((fA_call (fA_call (fA_call (fA_rf [62, 63] _) fa_8 (by decide)) fa_19 (by decide)) fa_33 (by decide)) 64 rfl)] at h9; exact h9)))) (by omega) hP hS (lv_sub hl [3, 4, 5, 6, 7, 8, 9, 0] rfl)
              · skip
                exact absurd c_67 (by decide)
            · skip
              have q_71 : mo_hd (mx_D fv_30 ar_32) (pp.toInt.toNat) (v_49.toInt.toNat) ∧ b.toInt + mo_wk (mx_G ar_32) (ar_32 64 (pp.toInt.toNat)).toInt a.toInt.toNat (mo_cf (mx_D fv_30 ar_32) (v_49.toInt.toNat)) ≤ ((mx_D fv_30 ar_32) 14 (v_49.toInt.toNat)).toInt := p_59
              refine lv_if_eq (tgt := 142) hx hb dX9_firstTrip_108 (by decide) (fun c_72 => ?_) (fun c_72 => ?_)
              · skip
                exact absurd c_72 (by decide)
              · skip
                refine lv_aload_n hx hb dX9_firstTrip_111 rfl (lv_at hl 2 rfl) ?_
                refine gX_X9_9 hx hb htg hown hK hP dX9_firstTrip_112 ?_
                refine gX_X9_54 hx hb htg hown hK hP dX9_firstTrip_115 ?_
                refine gX_X9_74 hx hb htg hown hK hP dX9_firstTrip_118 ?_
                refine lv_iload hx hb dX9_firstTrip_121 (lv_at hl 1 rfl) ?_
                refine lX_31 hx hb hK hP (iv_in i_50 (by decide) (by decide)) dX9_firstTrip_123 (fun v_73 ev_73 => ?_)
                refine lv_iload hx hb dX9_firstTrip_124 (lv_at hl 6 rfl) ?_
                refine lv_icmp_lt (tgt := 142) hx hb dX9_firstTrip_126 (by decide) (fun c_74 => ?_) (fun c_74 => ?_)
                · skip
                  have i_75 : (-2147483648) ≤ v_73.toInt ∧ v_73.toInt ≤ 2147483646 := iv_lt1 (iv_any v_73) (iv_any d) c_74
                  have i_76 : (-2147483647) ≤ d.toInt ∧ d.toInt ≤ 2147483647 := iv_lt2 (iv_any v_73) (iv_any d) c_74
                  have k_77 := Int32.lt_iff_toInt_lt.mp c_74
                  obtain ⟨v_78, ev_78⟩ : ∃ z : Int32, z = x_29 + 1 := ⟨_, rfl⟩
                  refine lv_iinc (v := v_78) (lv' := [(7, .int v_78), (9, .int 1), (8, .int v_49), (0, .ref (ob 9)), (1, .int pp), (2, .int a), (3, .int b), (4, .int d), (5, .int x_27), (6, .int x_28)]) hx hb dX9_firstTrip_142 hl (k := 9) rfl (by rw [ev_78]; rfl) (by decide) rfl (fun ls hl => ?_)
                  have t_79 : v_78.toInt = x_29.toInt + 1 ∧ 1 ≤ v_78.toInt ∧ v_78.toInt ≤ 80 := iv_addc ev_78 i_46 (by decide) (by decide) (by decide)
                  refine lv_goto (tgt := 38) hx hb dX9_firstTrip_145 (by decide) ?_
                  have z_137 : (fv_60 24).toInt = (fv 24).toInt := congrArg Int32.toInt ((fr_63 24 rfl).trans ((fr_31 24 rfl).trans ((fr_18 24 rfl).trans ((fr_7 24 rfl)))))
                  have z_138 : 0 ≤ (fv_60 24).toInt ∧ (fv_60 24).toInt ≤ 80 := hF_fv_60 24
                  exact ih_40 x_27 x_28 v_78 fv_60 ar_62 wd_61 _ _ ls (by omega) (iv_w i_54 (by decide) (by decide)) i_x_28 (iv_w t_79.2 (by decide) (by decide)) hF_fv_60 (fM_call (fM_call (fM_rf [] _) fr_31 (by decide)) fr_63 (by decide)) hA_ar_62 (fA_call (fA_call (fA_rf [] _) fa_33 (by decide)) fa_64 (by decide)) (wf_65.trans wf_35) (mx_R_fr hp_36 (fM_call (fM_rf [] _) fr_63 (by decide)) (fA_call (fA_rf [] _) fa_64 (by decide)) rfl rfl rfl rfl rfl rfl rfl rfl rfl rfl rfl rfl rfl rfl rfl rfl rfl rfl rfl rfl rfl rfl rfl rfl rfl rfl rfl) (mx_Y_fr hp_37 (fM_call (fM_rf [] _) fr_63 (by decide)) (fA_call (fA_rf [] _) fa_64 (by decide)) rfl rfl rfl rfl rfl rfl rfl rfl rfl rfl rfl rfl rfl rfl rfl rfl rfl rfl rfl rfl rfl rfl rfl rfl rfl rfl rfl rfl rfl rfl rfl rfl) (by have ht9 : v_49 = ar 58 (x_29.toInt.toNat) := (show v_49 = ar 58 (x_29.toInt.toNat) from by rw [ev_49, show ar_32 58 = ar 58 from ((fA_call (fA_call (fA_call (fA_rf [62, 63] _) fa_8 (by decide)) fa_19 (by decide)) fa_33 (by decide)) 58 rfl)]; exact congrArg (ar 58) (show x_29.toInt.toNat = (x_29.toInt.toNat) from by omega)); have ha9 : v_51 = ar_6 62 (x_29.toInt.toNat) := (show v_51 = ar_6 62 (x_29.toInt.toNat) from by rw [ev_51, show ar_32 62 = ar_6 62 from ((fA_call (fA_call (fA_rf [] _) fa_19 (by decide)) fa_33 (by decide)) 62 rfl)]; exact congrArg (ar_6 62) (show x_29.toInt.toNat = (x_29.toInt.toNat) from by omega)); have hm9 : v_73 = ar 31 (v_49.toInt.toNat) := (show v_73 = ar 31 (v_49.toInt.toNat) from by rw [ev_73, show ar_62 31 = ar 31 from ((fA_call (fA_call (fA_call (fA_call (fA_rf [62, 63] _) fa_8 (by decide)) fa_19 (by decide)) fa_33 (by decide)) fa_64 (by decide)) 31 rfl)]; exact congrArg (ar 31) (show v_49.toInt.toNat = (v_49.toInt.toNat) from by omega)); rw [show v_78.toInt.toNat = (x_29.toInt.toNat) + 1 from by omega]; exact mo_sk_n q_38 (by rw [← ht9]; omega) (Or.inl (by rw [← ht9]; intro w; have w1 : d.toInt ≤ (ar 31 (v_49.toInt.toNat)).toInt := w.2.1; rw [← hm9] at w1; omega))) (by omega) hP hS (lv_sub hl [3, 4, 5, 6, 7, 8, 9, 0] rfl)
                · skip
                  have k_81 := Int32.le_iff_toInt_le.mp (Int32.not_lt.mp c_74)
                  refine lv_aload_n hx hb dX9_firstTrip_129 rfl (lv_at hl 2 rfl) ?_
                  refine gX_X9_30 hx hb htg hown hK hP dX9_firstTrip_130 ?_
                  refine lv_iload hx hb dX9_firstTrip_133 (lv_at hl 9 rfl) ?_
                  refine lX_62 hx hb hK hP (iv_in i_46 (by decide) (by decide)) dX9_firstTrip_135 (fun v_82 ev_82 => ?_)
                  obtain rfl : v_51 = v_82 := ev_51.trans ((congrFun ((fA_call (fA_rf [] _) fa_64 (by decide)) 62 rfl) _).symm.trans ev_82.symm)
                  refine lv_istore (lv' := [(5, .int v_51), (9, .int 1), (8, .int v_49), (0, .ref (ob 9)), (1, .int pp), (2, .int a), (3, .int b), (4, .int d), (6, .int x_28), (7, .int x_29)]) hx hb dX9_firstTrip_136 hl (by decide) rfl (fun ls hl => ?_)
                  refine lv_iload hx hb dX9_firstTrip_138 (lv_at hl 2 rfl) ?_
                  refine lv_istore (lv' := [(6, .int v_49), (5, .int v_51), (9, .int 1), (8, .int v_49), (0, .ref (ob 9)), (1, .int pp), (2, .int a), (3, .int b), (4, .int d), (7, .int x_29)]) hx hb dX9_firstTrip_140 hl (by decide) rfl (fun ls hl => ?_)
                  obtain ⟨v_83, ev_83⟩ : ∃ z : Int32, z = x_29 + 1 := ⟨_, rfl⟩
                  refine lv_iinc (v := v_83) (lv' := [(7, .int v_83), (6, .int v_49), (5, .int v_51), (9, .int 1), (8, .int v_49), (0, .ref (ob 9)), (1, .int pp), (2, .int a), (3, .int b), (4, .int d)]) hx hb dX9_firstTrip_142 hl (k := 9) rfl (by rw [ev_83]; rfl) (by decide) rfl (fun ls hl => ?_)
                  have t_84 : v_83.toInt = x_29.toInt + 1 ∧ 1 ≤ v_83.toInt ∧ v_83.toInt ≤ 80 := iv_addc ev_83 i_46 (by decide) (by decide) (by decide)
                  refine lv_goto (tgt := 38) hx hb dX9_firstTrip_145 (by decide) ?_
                  have z_139 : (fv_60 24).toInt = (fv 24).toInt := congrArg Int32.toInt ((fr_63 24 rfl).trans ((fr_31 24 rfl).trans ((fr_18 24 rfl).trans ((fr_7 24 rfl)))))
                  have z_140 : 0 ≤ (fv_60 24).toInt ∧ (fv_60 24).toInt ≤ 80 := hF_fv_60 24
                  exact ih_40 v_51 v_49 v_83 fv_60 ar_62 wd_61 _ _ ls (by omega) (iv_w i_53 (by decide) (by decide)) (iv_w i_50 (by decide) (by decide)) (iv_w t_84.2 (by decide) (by decide)) hF_fv_60 (fM_call (fM_call (fM_rf [] _) fr_31 (by decide)) fr_63 (by decide)) hA_ar_62 (fA_call (fA_call (fA_rf [] _) fa_33 (by decide)) fa_64 (by decide)) (wf_65.trans wf_35) (mx_R_fr hp_36 (fM_call (fM_rf [] _) fr_63 (by decide)) (fA_call (fA_rf [] _) fa_64 (by decide)) rfl rfl rfl rfl rfl rfl rfl rfl rfl rfl rfl rfl rfl rfl rfl rfl rfl rfl rfl rfl rfl rfl rfl rfl rfl rfl rfl) (mx_Y_fr hp_37 (fM_call (fM_rf [] _) fr_63 (by decide)) (fA_call (fA_rf [] _) fa_64 (by decide)) rfl rfl rfl rfl rfl rfl rfl rfl rfl rfl rfl rfl rfl rfl rfl rfl rfl rfl rfl rfl rfl rfl rfl rfl rfl rfl rfl rfl rfl rfl rfl rfl) (by have ht9 : v_49 = ar 58 (x_29.toInt.toNat) := (show v_49 = ar 58 (x_29.toInt.toNat) from by rw [ev_49, show ar_32 58 = ar 58 from ((fA_call (fA_call (fA_call (fA_rf [62, 63] _) fa_8 (by decide)) fa_19 (by decide)) fa_33 (by decide)) 58 rfl)]; exact congrArg (ar 58) (show x_29.toInt.toNat = (x_29.toInt.toNat) from by omega)); have ha9 : v_51 = ar_6 62 (x_29.toInt.toNat) := (show v_51 = ar_6 62 (x_29.toInt.toNat) from by rw [ev_51, show ar_32 62 = ar_6 62 from ((fA_call (fA_call (fA_rf [] _) fa_19 (by decide)) fa_33 (by decide)) 62 rfl)]; exact congrArg (ar_6 62) (show x_29.toInt.toNat = (x_29.toInt.toNat) from by omega)); have hm9 : v_73 = ar 31 (v_49.toInt.toNat) := (show v_73 = ar 31 (v_49.toInt.toNat) from by rw [ev_73, show ar_62 31 = ar 31 from ((fA_call (fA_call (fA_call (fA_call (fA_rf [62, 63] _) fa_8 (by decide)) fa_19 (by decide)) fa_33 (by decide)) fa_64 (by decide)) 31 rfl)]; exact congrArg (ar 31) (show v_49.toInt.toNat = (v_49.toInt.toNat) from by omega)); have hr9 := (by have h9 := q_71; rw [show mx_D fv_30 ar_32 = mx_D fv ar from (mx_D_fr (fM_call (fM_call (fM_call (fM_rf [] _) fr_7 (by decide)) fr_18 (by decide)) fr_31 (by decide)) (fA_call (fA_call (fA_call (fA_rf [62, 63] _) fa_8 (by decide)) fa_19 (by decide)) fa_33 (by decide)) rfl rfl), show mx_G ar_32 = mx_G ar from by unfold mx_G; rw [show ar_32 5 = ar 5 from ((fA_call (fA_call (fA_call (fA_rf [62, 63] _) fa_8 (by decide)) fa_19 (by decide)) fa_33 (by decide)) 5 rfl)], show ar_32 64 = ar 64 from ((fA_call (fA_call (fA_call (fA_rf [62, 63] _) fa_8 (by decide)) fa_19 (by decide)) fa_33 (by decide)) 64 rfl)] at h9; exact h9); have hrn : mo_rn (mx_D fv ar) (mx_G ar) (v_49.toInt.toNat) := (by rw [ht9]; exact (hp_mY.1.1 (x_29.toInt.toNat) (by omega)).2.2); have hcd : (mo_cd (mx_D fv ar) (mx_G ar) (pp.toInt.toNat) (a.toInt.toNat) (ar 64 (pp.toInt.toNat)).toInt b.toInt d.toInt) ((ar 58 (x_29.toInt.toNat)).toInt.toNat) := (by rw [← ht9]; exact ⟨⟨hrn, hr9.1⟩, (show d.toInt ≤ (ar 31 (v_49.toInt.toNat)).toInt from by rw [← hm9]; omega), hr9.2⟩); rw [show v_83.toInt.toNat = (x_29.toInt.toNat) + 1 from by omega]; have hsk := mo_sk_y q_38 hcd (by rw [← ht9]; omega) (by rw [← ht9, ← ha9]; omega); rw [← ht9, ← ha9] at hsk; exact hsk) (by omega) hP hS (lv_sub hl [5, 6, 7, 8, 9, 2, 1, 0] rfl)
        · skip
          have k_86 := Int32.le_iff_toInt_le.mp (Int32.not_lt.mp c_52)
          refine lv_aload_n hx hb dX9_firstTrip_68 rfl (lv_at hl 1 rfl) ?_
          refine gX_X9_30 hx hb htg hown hK hP dX9_firstTrip_69 ?_
          refine lv_iload hx hb dX9_firstTrip_72 (lv_at hl 8 rfl) ?_
          refine lX_62 hx hb hK hP (iv_in i_46 (by decide) (by decide)) dX9_firstTrip_74 (fun v_87 ev_87 => ?_)
          obtain rfl : v_51 = v_87 := ev_51.trans ev_87.symm
          refine lv_iload hx hb dX9_firstTrip_75 (lv_at hl 6 rfl) ?_
          refine lv_icmp_ne (tgt := 91) hx hb dX9_firstTrip_77 (by decide) (fun c_88 => ?_) (fun c_88 => ?_)
          · skip
            have k_89 : ¬ v_51.toInt = x_27.toInt := fun q => c_88 (Int32.toInt_inj.mp q)
            refine lv_iconst (v := 0) hx hb dX9_firstTrip_91 (by decide) ?_
            refine lv_istore (lv' := [(9, .int 0), (8, .int v_49), (0, .ref (ob 9)), (1, .int pp), (2, .int a), (3, .int b), (4, .int d), (5, .int x_27), (6, .int x_28), (7, .int x_29)]) hx hb dX9_firstTrip_92 hl (by decide) rfl (fun ls hl => ?_)
            refine lv_iload hx hb dX9_firstTrip_94 (lv_at hl 0 rfl) ?_
            refine lv_if_eq (tgt := 142) hx hb dX9_firstTrip_96 (by decide) (fun c_90 => ?_) (fun c_90 => ?_)
            · skip
              obtain ⟨v_91, ev_91⟩ : ∃ z : Int32, z = x_29 + 1 := ⟨_, rfl⟩
              refine lv_iinc (v := v_91) (lv' := [(7, .int v_91), (9, .int 0), (8, .int v_49), (0, .ref (ob 9)), (1, .int pp), (2, .int a), (3, .int b), (4, .int d), (5, .int x_27), (6, .int x_28)]) hx hb dX9_firstTrip_142 hl (k := 9) rfl (by rw [ev_91]; rfl) (by decide) rfl (fun ls hl => ?_)
              have t_92 : v_91.toInt = x_29.toInt + 1 ∧ 1 ≤ v_91.toInt ∧ v_91.toInt ≤ 80 := iv_addc ev_91 i_46 (by decide) (by decide) (by decide)
              refine lv_goto (tgt := 38) hx hb dX9_firstTrip_145 (by decide) ?_
              have z_141 : (fv_30 24).toInt = (fv 24).toInt := congrArg Int32.toInt ((fr_31 24 rfl).trans ((fr_18 24 rfl).trans ((fr_7 24 rfl))))
              have z_142 : 0 ≤ (fv_30 24).toInt ∧ (fv_30 24).toInt ≤ 80 := hF_fv_30 24
              exact ih_40 x_27 x_28 v_91 fv_30 ar_32 wd_34 _ _ ls (by omega) i_x_27 i_x_28 (iv_w t_92.2 (by decide) (by decide)) hF_fv_30 (fM_call (fM_rf [] _) fr_31 (by decide)) hA_ar_32 (fA_call (fA_rf [] _) fa_33 (by decide)) wf_35 hp_36 hp_37 (by have ht9 : v_49 = ar 58 (x_29.toInt.toNat) := (show v_49 = ar 58 (x_29.toInt.toNat) from by rw [ev_49, show ar_32 58 = ar 58 from ((fA_call (fA_call (fA_call (fA_rf [62, 63] _) fa_8 (by decide)) fa_19 (by decide)) fa_33 (by decide)) 58 rfl)]; exact congrArg (ar 58) (show x_29.toInt.toNat = (x_29.toInt.toNat) from by omega)); have ha9 : v_51 = ar_6 62 (x_29.toInt.toNat) := (show v_51 = ar_6 62 (x_29.toInt.toNat) from by rw [ev_51, show ar_32 62 = ar_6 62 from ((fA_call (fA_call (fA_rf [] _) fa_19 (by decide)) fa_33 (by decide)) 62 rfl)]; exact congrArg (ar_6 62) (show x_29.toInt.toNat = (x_29.toInt.toNat) from by omega)); rw [show v_91.toInt.toNat = (x_29.toInt.toNat) + 1 from by omega]; exact mo_sk_n q_38 (by rw [← ht9]; omega) (Or.inr (by rw [← ht9, ← ha9]; omega))) (by omega) hP hS (lv_sub hl [3, 4, 5, 6, 7, 8, 9, 0] rfl)
            · skip
              exact absurd c_90 (by decide)
          · skip
            have i_94 : (-2147483648) ≤ v_51.toInt ∧ v_51.toInt ≤ 10000000 := iv_eq1 i_x_27 c_88
            have k_95 := congrArg Int32.toInt c_88
            refine lv_iload hx hb dX9_firstTrip_80 (lv_at hl 7 rfl) ?_
            refine lv_iload hx hb dX9_firstTrip_82 (lv_at hl 0 rfl) ?_
            refine lv_icmp_le (tgt := 91) hx hb dX9_firstTrip_84 (by decide) (fun c_96 => ?_) (fun c_96 => ?_)
            · skip
              have k_97 := Int32.le_iff_toInt_le.mp c_96
              refine lv_iconst (v := 0) hx hb dX9_firstTrip_91 (by decide) ?_
              refine lv_istore (lv' := [(9, .int 0), (8, .int v_49), (0, .ref (ob 9)), (1, .int pp), (2, .int a), (3, .int b), (4, .int d), (5, .int x_27), (6, .int x_28), (7, .int x_29)]) hx hb dX9_firstTrip_92 hl (by decide) rfl (fun ls hl => ?_)
              refine lv_iload hx hb dX9_firstTrip_94 (lv_at hl 0 rfl) ?_
              refine lv_if_eq (tgt := 142) hx hb dX9_firstTrip_96 (by decide) (fun c_98 => ?_) (fun c_98 => ?_)
              · skip
                obtain ⟨v_99, ev_99⟩ : ∃ z : Int32, z = x_29 + 1 := ⟨_, rfl⟩
                refine lv_iinc (v := v_99) (lv' := [(7, .int v_99), (9, .int 0), (8, .int v_49), (0, .ref (ob 9)), (1, .int pp), (2, .int a), (3, .int b), (4, .int d), (5, .int x_27), (6, .int x_28)]) hx hb dX9_firstTrip_142 hl (k := 9) rfl (by rw [ev_99]; rfl) (by decide) rfl (fun ls hl => ?_)
                have t_100 : v_99.toInt = x_29.toInt + 1 ∧ 1 ≤ v_99.toInt ∧ v_99.toInt ≤ 80 := iv_addc ev_99 i_46 (by decide) (by decide) (by decide)
                refine lv_goto (tgt := 38) hx hb dX9_firstTrip_145 (by decide) ?_
                have z_143 : (fv_30 24).toInt = (fv 24).toInt := congrArg Int32.toInt ((fr_31 24 rfl).trans ((fr_18 24 rfl).trans ((fr_7 24 rfl))))
                have z_144 : 0 ≤ (fv_30 24).toInt ∧ (fv_30 24).toInt ≤ 80 := hF_fv_30 24
                exact ih_40 x_27 x_28 v_99 fv_30 ar_32 wd_34 _ _ ls (by omega) i_x_27 i_x_28 (iv_w t_100.2 (by decide) (by decide)) hF_fv_30 (fM_call (fM_rf [] _) fr_31 (by decide)) hA_ar_32 (fA_call (fA_rf [] _) fa_33 (by decide)) wf_35 hp_36 hp_37 (by have ht9 : v_49 = ar 58 (x_29.toInt.toNat) := (show v_49 = ar 58 (x_29.toInt.toNat) from by rw [ev_49, show ar_32 58 = ar 58 from ((fA_call (fA_call (fA_call (fA_rf [62, 63] _) fa_8 (by decide)) fa_19 (by decide)) fa_33 (by decide)) 58 rfl)]; exact congrArg (ar 58) (show x_29.toInt.toNat = (x_29.toInt.toNat) from by omega)); have ha9 : v_51 = ar_6 62 (x_29.toInt.toNat) := (show v_51 = ar_6 62 (x_29.toInt.toNat) from by rw [ev_51, show ar_32 62 = ar_6 62 from ((fA_call (fA_call (fA_rf [] _) fa_19 (by decide)) fa_33 (by decide)) 62 rfl)]; exact congrArg (ar_6 62) (show x_29.toInt.toNat = (x_29.toInt.toNat) from by omega)); rw [show v_99.toInt.toNat = (x_29.toInt.toNat) + 1 from by omega]; exact mo_sk_n q_38 (by rw [← ht9]; omega) (Or.inr (by rw [← ht9, ← ha9]; omega))) (by omega) hP hS (lv_sub hl [3, 4, 5, 6, 7, 8, 9, 0] rfl)
              · skip
                exact absurd c_98 (by decide)
            · skip
              have i_102 : 0 ≤ v_49.toInt ∧ v_49.toInt ≤ 78 := iv_lt1 i_50 i_x_28 (Int32.not_le.mp c_96)
              have i_103 : 1 ≤ x_28.toInt ∧ x_28.toInt ≤ 79 := iv_lt2 i_50 i_x_28 (Int32.not_le.mp c_96)
              have k_104 := Int32.lt_iff_toInt_lt.mp (Int32.not_le.mp c_96)
              refine lv_iconst (v := 1) hx hb dX9_firstTrip_87 (by decide) ?_
              refine lv_goto (tgt := 92) hx hb dX9_firstTrip_88 (by decide) ?_
              refine lv_istore (lv' := [(9, .int 1), (8, .int v_49), (0, .ref (ob 9)), (1, .int pp), (2, .int a), (3, .int b), (4, .int d), (5, .int x_27), (6, .int x_28), (7, .int x_29)]) hx hb dX9_firstTrip_92 hl (by decide) rfl (fun ls hl => ?_)
              refine lv_iload hx hb dX9_firstTrip_94 (lv_at hl 0 rfl) ?_
              refine lv_if_eq (tgt := 142) hx hb dX9_firstTrip_96 (by decide) (fun c_105 => ?_) (fun c_105 => ?_)
              · skip
                exact absurd c_105 (by decide)
              · skip
                refine lv_aload_n hx hb dX9_firstTrip_99 rfl (lv_at hl 2 rfl) ?_
                refine lv_iload_n hx hb dX9_firstTrip_100 rfl (lv_at hl 3 rfl) ?_
                refine lv_iload_n hx hb dX9_firstTrip_101 rfl (lv_at hl 4 rfl) ?_
                refine lv_iload_n hx hb dX9_firstTrip_102 rfl (lv_at hl 5 rfl) ?_
                refine lv_iload hx hb dX9_firstTrip_103 (lv_at hl 1 rfl) ?_
                refine va_calli (va_runV (As := [.int pp, .int a, .int b, .int v_49]) (rest := []) ⟨hx, hb, hml, hown, hts⟩ (x_reachesE l dC dI H.size ob ad cA hd fv_30 wd_34 ar_32 hF_fv_30 hA_ar_32 pp a b v_49 h_pp h_a h_b (iv_w i_102 (by decide) (by decide)) (by rw [show ar_32 64 = ar 64 from ((fA_call (fA_call (fA_call (fA_rf [62, 63] _) fa_8 (by decide)) fa_19 (by decide)) fa_33 (by decide)) 64 rfl)]; exact hpc) hp_36) (cwV 4 hts (gV kw_5_145 kw_5_147 kw_p_32 kw_1_13 kw_5_148) rfl rfl rfl (by decide +kernel) ⟨Nat.le_of_ble_eq_true rfl, Nat.le_of_ble_eq_true rfl⟩) ⟨fun a U g mk q => ⟨q.1, q.2.1, q.2.2.1, va_K.moved (u := U) (U := U.calling g mk a) (Vm.Alike.refl U.vm) q.2.2.2⟩, va_recv hK hP (ci := 9) (q0 := 9) rfl rfl, fun U hU hW => ⟨rfl, by rw [hU], by rw [hU]; exact hP, va_K.moved hW.alike hK⟩⟩ rfl rfl hl.1 rfl (lv_room (Nat.le_of_ble_eq_true rfl)) dX9_firstTrip_105 ⟨Nat.le_of_ble_eq_true rfl, Nat.le_of_ble_eq_true rfl⟩) hS (fun q _ h9 => aX_up hS q h9) (aX_up hS) (fun r_106 u t H1 locs ht _ hw hB _ hk1 hS => ?_)
                obtain ⟨fv_109, wd_110, ar_111⟩ := u
                obtain ⟨hF_fv_109, hA_ar_111, fr_112, fa_113, wf_114, p_107, p_108, -⟩ := hw
                have wf_114 : wd_110.2 = wd_34.2 := wf_114
                have hP : va_P (dC, dI) vwCl (wsX ob ad cA fv_109 wd_110 ar_111) H1 := by have h9 := hB.1; rw [ht] at h9; exact h9
                have fr_112 : fM [] fv_30 fv_109 := fr_112
                have fa_113 : fA [] ar_32 ar_111 := fa_113
                generalize H1 = H at hP hS ⊢
                rcases p_108 with ⟨rfl, p_108⟩ | ⟨rfl, p_108⟩
                · skip
                  have q_115 : ¬ (mo_hd (mx_D fv_30 ar_32) (pp.toInt.toNat) (v_49.toInt.toNat) ∧ b.toInt + mo_wk (mx_G ar_32) (ar_32 64 (pp.toInt.toNat)).toInt a.toInt.toNat (mo_cf (mx_D fv_30 ar_32) (v_49.toInt.toNat)) ≤ ((mx_D fv_30 ar_32) 14 (v_49.toInt.toNat)).toInt) := p_108
                  refine lv_if_eq (tgt := 142) hx hb dX9_firstTrip_108 (by decide) (fun c_116 => ?_) (fun c_116 => ?_)
                  · skip
                    obtain ⟨v_117, ev_117⟩ : ∃ z : Int32, z = x_29 + 1 := ⟨_, rfl⟩
                    refine lv_iinc (v := v_117) (lv' := [(7, .int v_117), (9, .int 1), (8, .int v_49), (0, .ref (ob 9)), (1, .int pp), (2, .int a), (3, .int b), (4, .int d), (5, .int x_27), (6, .int x_28)]) hx hb dX9_firstTrip_142 hl (k := 9) rfl (by rw [ev_117]; rfl) (by decide) rfl (fun ls hl => ?_)
                    have t_118 : v_117.toInt = x_29.toInt + 1 ∧ 1 ≤ v_117.toInt ∧ v_117.toInt ≤ 80 := iv_addc ev_117 i_46 (by decide) (by decide) (by decide)
                    refine lv_goto (tgt := 38) hx hb dX9_firstTrip_145 (by decide) ?_
                    have z_145 : (fv_109 24).toInt = (fv 24).toInt := congrArg Int32.toInt ((fr_112 24 rfl).trans ((fr_31 24 rfl).trans ((fr_18 24 rfl).trans ((fr_7 24 rfl)))))
                    have z_146 : 0 ≤ (fv_109 24).toInt ∧ (fv_109 24).toInt ≤ 80 := hF_fv_109 24
                    exact ih_40 x_27 x_28 v_117 fv_109 ar_111 wd_110 _ _ ls (by omega) i_x_27 (iv_w i_103 (by decide) (by decide)) (iv_w t_118.2 (by decide) (by decide)) hF_fv_109 (fM_call (fM_call (fM_rf [] _) fr_31 (by decide)) fr_112 (by decide)) hA_ar_111 (fA_call (fA_call (fA_rf [] _) fa_33 (by decide)) fa_113 (by decide)) (wf_114.trans wf_35) (mx_R_fr hp_36 (fM_call (fM_rf [] _) fr_112 (by decide)) (fA_call (fA_rf [] _) fa_113 (by decide)) rfl rfl rfl rfl rfl rfl rfl rfl rfl rfl rfl rfl rfl rfl rfl rfl rfl rfl rfl rfl rfl rfl rfl rfl rfl rfl rfl) (mx_Y_fr hp_37 (fM_call (fM_rf [] _) fr_112 (by decide)) (fA_call (fA_rf [] _) fa_113 (by decide)) rfl rfl rfl rfl rfl rfl rfl rfl rfl rfl rfl rfl rfl rfl rfl rfl rfl rfl rfl rfl rfl rfl rfl rfl rfl rfl rfl rfl rfl rfl rfl rfl) (by have ht9 : v_49 = ar 58 (x_29.toInt.toNat) := (show v_49 = ar 58 (x_29.toInt.toNat) from by rw [ev_49, show ar_32 58 = ar 58 from ((fA_call (fA_call (fA_call (fA_rf [62, 63] _) fa_8 (by decide)) fa_19 (by decide)) fa_33 (by decide)) 58 rfl)]; exact congrArg (ar 58) (show x_29.toInt.toNat = (x_29.toInt.toNat) from by omega)); have ha9 : v_51 = ar_6 62 (x_29.toInt.toNat) := (show v_51 = ar_6 62 (x_29.toInt.toNat) from by rw [ev_51, show ar_32 62 = ar_6 62 from ((fA_call (fA_call (fA_rf [] _) fa_19 (by decide)) fa_33 (by decide)) 62 rfl)]; exact congrArg (ar_6 62) (show x_29.toInt.toNat = (x_29.toInt.toNat) from by omega)); rw [show v_117.toInt.toNat = (x_29.toInt.toNat) + 1 from by omega]; exact mo_sk_n q_38 (by rw [← ht9]; omega) (Or.inl (by rw [← ht9]; intro w; exact absurd (show mo_hd (mx_D fv ar) (pp.toInt.toNat) (v_49.toInt.toNat) ∧ b.toInt + mo_wk (mx_G ar) (ar 64 (pp.toInt.toNat)).toInt a.toInt.toNat (mo_cf (mx_D fv ar) (v_49.toInt.toNat)) ≤ ((mx_D fv ar) 14 (v_49.toInt.toNat)).toInt from ⟨w.1.2, w.2.2⟩) (by have h9 := q_115; rw [show mx_D fv_30 ar_32 = mx_D fv ar from (mx_D_fr (fM_call (fM_call (fM_call (fM_rf [] _) fr_7 (by decide)) fr_18 (by decide)) fr_31 (by decide)) (fA_call (fA_call (fA_call (fA_rf [62, 63] _) fa_8 (by decide)) fa_19 (by decide)) fa_33 (by decide)) rfl rfl), show mx_G ar_32 = mx_G ar from by unfold mx_G; rw [show ar_32 5 = ar 5 from ((fA_call (fA_call (fA_call (fA_rf [62, 63] _) fa_8 (by decide)) fa_19 (by decide)) fa_33 (by decide)) 5 rfl)], show ar_32 64 = ar 64 from ((fA_call (fA_call (fA_call (fA_rf [62, 63] _) fa_8 (by decide)) fa_19 (by decide)) fa_33 (by decide)) 64 rfl)] at h9; exact h9)))) (by omega) hP hS (lv_sub hl [3, 4, 5, 6, 7, 8, 9, 0] rfl)
                  · skip
                    exact absurd c_116 (by decide)
                · skip
                  have q_120 : mo_hd (mx_D fv_30 ar_32) (pp.toInt.toNat) (v_49.toInt.toNat) ∧ b.toInt + mo_wk (mx_G ar_32) (ar_32 64 (pp.toInt.toNat)).toInt a.toInt.toNat (mo_cf (mx_D fv_30 ar_32) (v_49.toInt.toNat)) ≤ ((mx_D fv_30 ar_32) 14 (v_49.toInt.toNat)).toInt := p_108
                  refine lv_if_eq (tgt := 142) hx hb dX9_firstTrip_108 (by decide) (fun c_121 => ?_) (fun c_121 => ?_)
                  · skip
                    exact absurd c_121 (by decide)
                  · skip
                    refine lv_aload_n hx hb dX9_firstTrip_111 rfl (lv_at hl 2 rfl) ?_
                    refine gX_X9_9 hx hb htg hown hK hP dX9_firstTrip_112 ?_
                    refine gX_X9_54 hx hb htg hown hK hP dX9_firstTrip_115 ?_
                    refine gX_X9_74 hx hb htg hown hK hP dX9_firstTrip_118 ?_
                    refine lv_iload hx hb dX9_firstTrip_121 (lv_at hl 1 rfl) ?_
                    refine lX_31 hx hb hK hP (iv_in i_102 (by decide) (by decide)) dX9_firstTrip_123 (fun v_122 ev_122 => ?_)
                    refine lv_iload hx hb dX9_firstTrip_124 (lv_at hl 6 rfl) ?_
                    refine lv_icmp_lt (tgt := 142) hx hb dX9_firstTrip_126 (by decide) (fun c_123 => ?_) (fun c_123 => ?_)
                    · skip
                      have i_124 : (-2147483648) ≤ v_122.toInt ∧ v_122.toInt ≤ 2147483646 := iv_lt1 (iv_any v_122) (iv_any d) c_123
                      have i_125 : (-2147483647) ≤ d.toInt ∧ d.toInt ≤ 2147483647 := iv_lt2 (iv_any v_122) (iv_any d) c_123
                      have k_126 := Int32.lt_iff_toInt_lt.mp c_123
                      obtain ⟨v_127, ev_127⟩ : ∃ z : Int32, z = x_29 + 1 := ⟨_, rfl⟩
                      refine lv_iinc (v := v_127) (lv' := [(7, .int v_127), (9, .int 1), (8, .int v_49), (0, .ref (ob 9)), (1, .int pp), (2, .int a), (3, .int b), (4, .int d), (5, .int x_27), (6, .int x_28)]) hx hb dX9_firstTrip_142 hl (k := 9) rfl (by rw [ev_127]; rfl) (by decide) rfl (fun ls hl => ?_)
                      have t_128 : v_127.toInt = x_29.toInt + 1 ∧ 1 ≤ v_127.toInt ∧ v_127.toInt ≤ 80 := iv_addc ev_127 i_46 (by decide) (by decide) (by decide)
                      refine lv_goto (tgt := 38) hx hb dX9_firstTrip_145 (by decide) ?_
                      have z_147 : (fv_109 24).toInt = (fv 24).toInt := congrArg Int32.toInt ((fr_112 24 rfl).trans ((fr_31 24 rfl).trans ((fr_18 24 rfl).trans ((fr_7 24 rfl)))))
                      have z_148 : 0 ≤ (fv_109 24).toInt ∧ (fv_109 24).toInt ≤ 80 := hF_fv_109 24
                      exact ih_40 x_27 x_28 v_127 fv_109 ar_111 wd_110 _ _ ls (by omega) i_x_27 (iv_w i_103 (by decide) (by decide)) (iv_w t_128.2 (by decide) (by decide)) hF_fv_109 (fM_call (fM_call (fM_rf [] _) fr_31 (by decide)) fr_112 (by decide)) hA_ar_111 (fA_call (fA_call (fA_rf [] _) fa_33 (by decide)) fa_113 (by decide)) (wf_114.trans wf_35) (mx_R_fr hp_36 (fM_call (fM_rf [] _) fr_112 (by decide)) (fA_call (fA_rf [] _) fa_113 (by decide)) rfl rfl rfl rfl rfl rfl rfl rfl rfl rfl rfl rfl rfl rfl rfl rfl rfl rfl rfl rfl rfl rfl rfl rfl rfl rfl rfl) (mx_Y_fr hp_37 (fM_call (fM_rf [] _) fr_112 (by decide)) (fA_call (fA_rf [] _) fa_113 (by decide)) rfl rfl rfl rfl rfl rfl rfl rfl rfl rfl rfl rfl rfl rfl rfl rfl rfl rfl rfl rfl rfl rfl rfl rfl rfl rfl rfl rfl rfl rfl rfl rfl) (by have ht9 : v_49 = ar 58 (x_29.toInt.toNat) := (show v_49 = ar 58 (x_29.toInt.toNat) from by rw [ev_49, show ar_32 58 = ar 58 from ((fA_call (fA_call (fA_call (fA_rf [62, 63] _) fa_8 (by decide)) fa_19 (by decide)) fa_33 (by decide)) 58 rfl)]; exact congrArg (ar 58) (show x_29.toInt.toNat = (x_29.toInt.toNat) from by omega)); have ha9 : v_51 = ar_6 62 (x_29.toInt.toNat) := (show v_51 = ar_6 62 (x_29.toInt.toNat) from by rw [ev_51, show ar_32 62 = ar_6 62 from ((fA_call (fA_call (fA_rf [] _) fa_19 (by decide)) fa_33 (by decide)) 62 rfl)]; exact congrArg (ar_6 62) (show x_29.toInt.toNat = (x_29.toInt.toNat) from by omega)); have hm9 : v_122 = ar 31 (v_49.toInt.toNat) := (show v_122 = ar 31 (v_49.toInt.toNat) from by rw [ev_122, show ar_111 31 = ar 31 from ((fA_call (fA_call (fA_call (fA_call (fA_rf [62, 63] _) fa_8 (by decide)) fa_19 (by decide)) fa_33 (by decide)) fa_113 (by decide)) 31 rfl)]; exact congrArg (ar 31) (show v_49.toInt.toNat = (v_49.toInt.toNat) from by omega)); rw [show v_127.toInt.toNat = (x_29.toInt.toNat) + 1 from by omega]; exact mo_sk_n q_38 (by rw [← ht9]; omega) (Or.inl (by rw [← ht9]; intro w; have w1 : d.toInt ≤ (ar 31 (v_49.toInt.toNat)).toInt := w.2.1; rw [← hm9] at w1; omega))) (by omega) hP hS (lv_sub hl [3, 4, 5, 6, 7, 8, 9, 0] rfl)
                    · skip
                      have k_130 := Int32.le_iff_toInt_le.mp (Int32.not_lt.mp c_123)
                      refine lv_aload_n hx hb dX9_firstTrip_129 rfl (lv_at hl 2 rfl) ?_
                      refine gX_X9_30 hx hb htg hown hK hP dX9_firstTrip_130 ?_
                      refine lv_iload hx hb dX9_firstTrip_133 (lv_at hl 9 rfl) ?_
                      refine lX_62 hx hb hK hP (iv_in i_46 (by decide) (by decide)) dX9_firstTrip_135 (fun v_131 ev_131 => ?_)
                      obtain rfl : v_51 = v_131 := ev_51.trans ((congrFun ((fA_call (fA_rf [] _) fa_113 (by decide)) 62 rfl) _).symm.trans ev_131.symm)
                      refine lv_istore (lv' := [(5, .int v_51), (9, .int 1), (8, .int v_49), (0, .ref (ob 9)), (1, .int pp), (2, .int a), (3, .int b), (4, .int d), (6, .int x_28), (7, .int x_29)]) hx hb dX9_firstTrip_136 hl (by decide) rfl (fun ls hl => ?_)
                      refine lv_iload hx hb dX9_firstTrip_138 (lv_at hl 2 rfl) ?_
                      refine lv_istore (lv' := [(6, .int v_49), (5, .int v_51), (9, .int 1), (8, .int v_49), (0, .ref (ob 9)), (1, .int pp), (2, .int a), (3, .int b), (4, .int d), (7, .int x_29)]) hx hb dX9_firstTrip_140 hl (by decide) rfl (fun ls hl => ?_)
                      obtain ⟨v_132, ev_132⟩ : ∃ z : Int32, z = x_29 + 1 := ⟨_, rfl⟩
                      refine lv_iinc (v := v_132) (lv' := [(7, .int v_132), (6, .int v_49), (5, .int v_51), (9, .int 1), (8, .int v_49), (0, .ref (ob 9)), (1, .int pp), (2, .int a), (3, .int b), (4, .int d)]) hx hb dX9_firstTrip_142 hl (k := 9) rfl (by rw [ev_132]; rfl) (by decide) rfl (fun ls hl => ?_)
                      have t_133 : v_132.toInt = x_29.toInt + 1 ∧ 1 ≤ v_132.toInt ∧ v_132.toInt ≤ 80 := iv_addc ev_132 i_46 (by decide) (by decide) (by decide)
                      refine lv_goto (tgt := 38) hx hb dX9_firstTrip_145 (by decide) ?_
                      have z_149 : (fv_109 24).toInt = (fv 24).toInt := congrArg Int32.toInt ((fr_112 24 rfl).trans ((fr_31 24 rfl).trans ((fr_18 24 rfl).trans ((fr_7 24 rfl)))))
                      have z_150 : 0 ≤ (fv_109 24).toInt ∧ (fv_109 24).toInt ≤ 80 := hF_fv_109 24
                      exact ih_40 v_51 v_49 v_132 fv_109 ar_111 wd_110 _ _ ls (by omega) i_94 (iv_w i_102 (by decide) (by decide)) (iv_w t_133.2 (by decide) (by decide)) hF_fv_109 (fM_call (fM_call (fM_rf [] _) fr_31 (by decide)) fr_112 (by decide)) hA_ar_111 (fA_call (fA_call (fA_rf [] _) fa_33 (by decide)) fa_113 (by decide)) (wf_114.trans wf_35) (mx_R_fr hp_36 (fM_call (fM_rf [] _) fr_112 (by decide)) (fA_call (fA_rf [] _) fa_113 (by decide)) rfl rfl rfl rfl rfl rfl rfl rfl rfl rfl rfl rfl rfl rfl rfl rfl rfl rfl rfl rfl rfl rfl rfl rfl rfl rfl rfl) (mx_Y_fr hp_37 (fM_call (fM_rf [] _) fr_112 (by decide)) (fA_call (fA_rf [] _) fa_113 (by decide)) rfl rfl rfl rfl rfl rfl rfl rfl rfl rfl rfl rfl rfl rfl rfl rfl rfl rfl rfl rfl rfl rfl rfl rfl rfl rfl rfl rfl rfl rfl rfl rfl) (by have ht9 : v_49 = ar 58 (x_29.toInt.toNat) := (show v_49 = ar 58 (x_29.toInt.toNat) from by rw [ev_49, show ar_32 58 = ar 58 from ((fA_call (fA_call (fA_call (fA_rf [62, 63] _) fa_8 (by decide)) fa_19 (by decide)) fa_33 (by decide)) 58 rfl)]; exact congrArg (ar 58) (show x_29.toInt.toNat = (x_29.toInt.toNat) from by omega)); have ha9 : v_51 = ar_6 62 (x_29.toInt.toNat) := (show v_51 = ar_6 62 (x_29.toInt.toNat) from by rw [ev_51, show ar_32 62 = ar_6 62 from ((fA_call (fA_call (fA_rf [] _) fa_19 (by decide)) fa_33 (by decide)) 62 rfl)]; exact congrArg (ar_6 62) (show x_29.toInt.toNat = (x_29.toInt.toNat) from by omega)); have hm9 : v_122 = ar 31 (v_49.toInt.toNat) := (show v_122 = ar 31 (v_49.toInt.toNat) from by rw [ev_122, show ar_111 31 = ar 31 from ((fA_call (fA_call (fA_call (fA_call (fA_rf [62, 63] _) fa_8 (by decide)) fa_19 (by decide)) fa_33 (by decide)) fa_113 (by decide)) 31 rfl)]; exact congrArg (ar 31) (show v_49.toInt.toNat = (v_49.toInt.toNat) from by omega)); have hr9 := (by have h9 := q_120; rw [show mx_D fv_30 ar_32 = mx_D fv ar from (mx_D_fr (fM_call (fM_call (fM_call (fM_rf [] _) fr_7 (by decide)) fr_18 (by decide)) fr_31 (by decide)) (fA_call (fA_call (fA_call (fA_rf [62, 63] _) fa_8 (by decide)) fa_19 (by decide)) fa_33 (by decide)) rfl rfl), show mx_G ar_32 = mx_G ar from by unfold mx_G; rw [show ar_32 5 = ar 5 from ((fA_call (fA_call (fA_call (fA_rf [62, 63] _) fa_8 (by decide)) fa_19 (by decide)) fa_33 (by decide)) 5 rfl)], show ar_32 64 = ar 64 from ((fA_call (fA_call (fA_call (fA_rf [62, 63] _) fa_8 (by decide)) fa_19 (by decide)) fa_33 (by decide)) 64 rfl)] at h9; exact h9); have hrn : mo_rn (mx_D fv ar) (mx_G ar) (v_49.toInt.toNat) := (by rw [ht9]; exact (hp_mY.1.1 (x_29.toInt.toNat) (by omega)).2.2); have hcd : (mo_cd (mx_D fv ar) (mx_G ar) (pp.toInt.toNat) (a.toInt.toNat) (ar 64 (pp.toInt.toNat)).toInt b.toInt d.toInt) ((ar 58 (x_29.toInt.toNat)).toInt.toNat) := (by rw [← ht9]; exact ⟨⟨hrn, hr9.1⟩, (show d.toInt ≤ (ar 31 (v_49.toInt.toNat)).toInt from by rw [← hm9]; omega), hr9.2⟩); rw [show v_132.toInt.toNat = (x_29.toInt.toNat) + 1 from by omega]; have hsk := mo_sk_y q_38 hcd (by rw [← ht9]; omega) (by rw [← ht9, ← ha9]; omega); rw [← ht9, ← ha9] at hsk; exact hsk) (by omega) hP hS (lv_sub hl [5, 6, 7, 8, 9, 2, 1, 0] rfl)
  · skip
    have z_151 : ((-1) : Int32).toInt = (-1) := by decide
    have z_152 : (0 : Int32).toInt = 0 := by decide
    have z_153 : (fv_15 24).toInt = (fv 24).toInt := congrArg Int32.toInt ((fr_18 24 rfl).trans ((fr_7 24 rfl)))
    have z_154 : 0 ≤ (fv_15 24).toInt ∧ (fv_15 24).toInt ≤ 80 := hF_fv_15 24
    exact hj_42 81 v_25 (-1) 0 fv_15 ar_17 wd_16 _ _ ls (by first | decide | omega) (iv_w i_26 (by decide) (by decide)) (iv_w (⟨by decide, by decide⟩ : (-1 : Int) ≤ ((-1) : Int32).toInt ∧ ((-1) : Int32).toInt ≤ -1) (by decide) (by decide)) (iv_w (⟨by decide, by decide⟩ : (0 : Int) ≤ (0 : Int32).toInt ∧ (0 : Int32).toInt ≤ 0) (by decide) (by decide)) hF_fv_15 (fM_rf [] _) hA_ar_17 (fA_rf [] _) rfl (mx_R_fr hp_mR (fM_call (fM_call (fM_rf [] _) fr_7 (by decide)) fr_18 (by decide)) (fA_call (fA_call (fA_rf [62, 63] _) fa_8 (by decide)) fa_19 (by decide)) rfl rfl rfl rfl rfl rfl rfl rfl rfl rfl rfl rfl rfl rfl rfl rfl rfl rfl rfl rfl rfl rfl rfl rfl rfl rfl rfl) (mx_Y_fr hp_mY (fM_call (fM_call (fM_rf [] _) fr_7 (by decide)) fr_18 (by decide)) (fA_call (fA_call (fA_rf [62, 63] _) fa_8 (by decide)) fa_19 (by decide)) rfl rfl rfl rfl rfl rfl rfl rfl rfl rfl rfl rfl rfl rfl rfl rfl rfl rfl rfl rfl rfl rfl rfl rfl rfl rfl rfl rfl rfl rfl rfl rfl) (by rw [show (0 : Int32).toInt.toNat = 0 from by decide, show ((-1) : Int32).toInt = -1 from by decide]; have h1 := mo_mnI ev_25; have h2 := k_21; rw [show v_10 = ar 7 (pp.toInt.toNat) from (show v_10 = ar 7 (pp.toInt.toNat) from by rw [ev_10, show ar_6 7 = ar 7 from ((fA_call (fA_rf [62, 63] _) fa_8 (by decide)) 7 rfl)]; exact congrArg (ar 7) (show pp.toInt.toNat = (pp.toInt.toNat) from by omega))] at h2; have h3 : v_25.toInt = (mo_mn (b.toInt + mo_wk (mx_G ar) (ar 64 (pp.toInt.toNat)).toInt a.toInt.toNat ((ar 7 (pp.toInt.toNat)).toInt.toNat)) 10000000) := (by rw [h1, ← h2, show (10000000 : Int32).toInt = 10000000 from by decide]; congr 1; omega); rw [h3]; exact mo_sk0 (mx_D fv ar) (mo_cd (mx_D fv ar) (mx_G ar) (pp.toInt.toNat) (a.toInt.toNat) (ar 64 (pp.toInt.toNat)).toInt b.toInt d.toInt) _ _ _) (by omega) hP hS (lv_sub hl [3, 4, 5, 6, 7, 2, 1, 0] rfl)

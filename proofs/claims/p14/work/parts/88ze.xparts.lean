set_option maxHeartbeats 4000000 in
set_option maxRecDepth 100000 in
theorem x_runsE (l : Launch) (dC : Nat → ClassId) (dI : Nat → Nat → Nat) (sz : Nat) (ob ad : Nat → Nat) (cA : Nat → ClassId) (hd : dX ob ad) (fv : Nat → Int32) (wd : xT) (ar : Nat → Nat → Int32) (hF_fv : rX fv) (hA_ar : rB ar) (kk : Int32) (b : Int32) (h_kk : 0 ≤ kk.toInt ∧ kk.toInt ≤ 79) : Met l yX8_runs (.code yX8_runs cX8_runs 3 (some .boolean) :: lw_good) ({ frames := 2, cells := 0, slots := 0, locals := 40 }) (va_Pc [.ref (ob 5), .int kk, .int b] (prX dC dI ob ad cA fv wd ar sz)) (va_Qi (fun (r : Int32) (u : xS) => rX u.1 ∧ rB u.2.2 ∧ fM [] fv u.1 ∧ fA [] ar u.2.2 ∧ u.2.1.2 = wd.2 ∧ (0 ≤ r.toInt ∧ r.toInt ≤ 1) ∧ ((r = 0 ∧ (¬ ((ar 32 (kk.toInt.toNat)).toInt ≤ b.toInt ∧ b.toInt ≤ (ar 33 (kk.toInt.toNat)).toInt))) ∨ (r = 1 ∧ ((ar 32 (kk.toInt.toNat)).toInt ≤ b.toInt ∧ b.toInt ≤ (ar 33 (kk.toInt.toNat)).toInt))) ∧ True) (enX dC dI ob ad cA) (aX ob ad sz)) 0 0 (aX ob ad sz) := by
  refine Met.ofW (cc := cX8_runs) (maxL := 3) (ret := (some .boolean)) (by decide) rfl ?_
  intro p e s m args below meth c s₁ B hml hv
  obtain ⟨rfl, hsz, hP, hK⟩ := hv
  have hx := B.exec
  have hb := B.bytes
  have hr := B.returns
  have hts := atoms_spec (ws := (.code yX8_runs cX8_runs 3 (some .boolean) :: lw_good)) B.pre
  have htg : ∀ w ∈ lw_good, w.before _ s = true := fun w hw => hts w (List.mem_cons_of_mem _ hw)
  have hown : s.vm.findClass RX8 = some m.cls := findClass_of_methodNamed B.named
  have hlocks := B.notSynchronized
  subst hsz
  have hS : va_S (aX ob ad s.heap.size) s.heap s.heap [] := va_S.rf
  have hl := lv_entry ([.ref (ob 5), .int kk, .int b]) (n := 3) (Nat.le_of_ble_eq_true rfl)
  rw [lg_entry_eq]
  generalize (lg_sl ([.ref (ob 5), .int kk, .int b]) ++ List.replicate (3 - (lg_sl ([.ref (ob 5), .int kk, .int b])).length) Slot.unset).toArray = ls at hl ⊢
  have hl : lv_has ls 3 [(0, .ref (ob 5)), (1, .int kk), (2, .int b)] := hl
  refine lv_aload_n hx hb dX8_runs_0 rfl (lv_at hl 0 rfl) ?_
  refine gX_X8_24 hx hb htg hown hK hP dX8_runs_1 ?_
  refine lv_iload_n hx hb dX8_runs_4 rfl (lv_at hl 1 rfl) ?_
  refine lX_32 hx hb hK hP (iv_in h_kk (by decide) (by decide)) dX8_runs_5 (fun v_1 ev_1 => ?_)
  refine lv_iload_n hx hb dX8_runs_6 rfl (lv_at hl 2 rfl) ?_
  refine lv_icmp_gt (tgt := 24) hx hb dX8_runs_7 (by decide) (fun c_2 => ?_) (fun c_2 => ?_)
  · skip
    have i_3 : (-2147483648) ≤ b.toInt ∧ b.toInt ≤ 2147483646 := iv_lt1 (iv_any b) (iv_any v_1) c_2
    have i_4 : (-2147483647) ≤ v_1.toInt ∧ v_1.toInt ≤ 2147483647 := iv_lt2 (iv_any b) (iv_any v_1) c_2
    have k_5 := Int32.lt_iff_toInt_lt.mp c_2
    refine lv_iconst (v := 0) hx hb dX8_runs_24 (by decide) ?_
    exact W.zret (v := 0) hx hb hr (by decide) (fun t ht hW => ⟨⟨0, (fv, wd, ar), rfl, ⟨hF_fv, hA_ar, (fM_rf [] _), (fA_rf [] _), rfl, (iv_w (⟨by decide, by decide⟩ : (0 : Int) ≤ (0 : Int32).toInt ∧ (0 : Int32).toInt ≤ 0) (by decide) (by decide)), (Or.inl ⟨rfl, (show ¬ ((ar 32 (kk.toInt.toNat)).toInt ≤ b.toInt ∧ b.toInt ≤ (ar 33 (kk.toInt.toNat)).toInt) from by have hr32 : ar 32 (kk.toInt.toNat) = v_1 := ((show v_1 = ar 32 (kk.toInt.toNat) from by rw [ev_1]; exact congrArg (ar 32) (show kk.toInt.toNat = (kk.toInt.toNat) from by omega))).symm; intro w; have w1 := w.1; have w2 := w.2; rw [hr32] at w1; omega)⟩), trivial⟩, ⟨by rw [ht]; exact hP, va_K.moved hW.alike hK⟩⟩, hS.F ht⟩) hS.2.2 dX8_runs_25
  · skip
    have k_6 := Int32.le_iff_toInt_le.mp (Int32.not_lt.mp c_2)
    refine lv_iload_n hx hb dX8_runs_10 rfl (lv_at hl 2 rfl) ?_
    refine lv_aload_n hx hb dX8_runs_11 rfl (lv_at hl 0 rfl) ?_
    refine gX_X8_27 hx hb htg hown hK hP dX8_runs_12 ?_
    refine lv_iload_n hx hb dX8_runs_15 rfl (lv_at hl 1 rfl) ?_
    refine lX_33 hx hb hK hP (iv_in h_kk (by decide) (by decide)) dX8_runs_16 (fun v_7 ev_7 => ?_)
    refine lv_icmp_gt (tgt := 24) hx hb dX8_runs_17 (by decide) (fun c_8 => ?_) (fun c_8 => ?_)
    · skip
      have i_9 : (-2147483648) ≤ v_7.toInt ∧ v_7.toInt ≤ 2147483646 := iv_lt1 (iv_any v_7) (iv_any b) c_8
      have i_10 : (-2147483647) ≤ b.toInt ∧ b.toInt ≤ 2147483647 := iv_lt2 (iv_any v_7) (iv_any b) c_8
      have k_11 := Int32.lt_iff_toInt_lt.mp c_8
      refine lv_iconst (v := 0) hx hb dX8_runs_24 (by decide) ?_
      exact W.zret (v := 0) hx hb hr (by decide) (fun t ht hW => ⟨⟨0, (fv, wd, ar), rfl, ⟨hF_fv, hA_ar, (fM_rf [] _), (fA_rf [] _), rfl, (iv_w (⟨by decide, by decide⟩ : (0 : Int) ≤ (0 : Int32).toInt ∧ (0 : Int32).toInt ≤ 0) (by decide) (by decide)), (Or.inl ⟨rfl, (show ¬ ((ar 32 (kk.toInt.toNat)).toInt ≤ b.toInt ∧ b.toInt ≤ (ar 33 (kk.toInt.toNat)).toInt) from by have hr32 : ar 32 (kk.toInt.toNat) = v_1 := ((show v_1 = ar 32 (kk.toInt.toNat) from by rw [ev_1]; exact congrArg (ar 32) (show kk.toInt.toNat = (kk.toInt.toNat) from by omega))).symm; have hr33 : ar 33 (kk.toInt.toNat) = v_7 := ((show v_7 = ar 33 (kk.toInt.toNat) from by rw [ev_7]; exact congrArg (ar 33) (show kk.toInt.toNat = (kk.toInt.toNat) from by omega))).symm; intro w; have w1 := w.1; have w2 := w.2; rw [hr32] at w1; rw [hr33] at w2; omega)⟩), trivial⟩, ⟨by rw [ht]; exact hP, va_K.moved hW.alike hK⟩⟩, hS.F ht⟩) hS.2.2 dX8_runs_25
    · skip
      have k_12 := Int32.le_iff_toInt_le.mp (Int32.not_lt.mp c_8)
      refine lv_iconst (v := 1) hx hb dX8_runs_20 (by decide) ?_
      refine lv_goto (tgt := 25) hx hb dX8_runs_21 (by decide) ?_
      exact W.zret (v := 1) hx hb hr (by decide) (fun t ht hW => ⟨⟨1, (fv, wd, ar), rfl, ⟨hF_fv, hA_ar, (fM_rf [] _), (fA_rf [] _), rfl, (iv_w (⟨by decide, by decide⟩ : (1 : Int) ≤ (1 : Int32).toInt ∧ (1 : Int32).toInt ≤ 1) (by decide) (by decide)), (Or.inr (⟨rfl, (show (ar 32 (kk.toInt.toNat)).toInt ≤ b.toInt ∧ b.toInt ≤ (ar 33 (kk.toInt.toNat)).toInt from by have hr32 : ar 32 (kk.toInt.toNat) = v_1 := ((show v_1 = ar 32 (kk.toInt.toNat) from by rw [ev_1]; exact congrArg (ar 32) (show kk.toInt.toNat = (kk.toInt.toNat) from by omega))).symm; have hr33 : ar 33 (kk.toInt.toNat) = v_7 := ((show v_7 = ar 33 (kk.toInt.toNat) from by rw [ev_7]; exact congrArg (ar 33) (show kk.toInt.toNat = (kk.toInt.toNat) from by omega))).symm; rw [hr32, hr33]; exact ⟨by omega, by omega⟩)⟩)), trivial⟩, ⟨by rw [ht]; exact hP, va_K.moved hW.alike hK⟩⟩, hS.F ht⟩) hS.2.2 dX8_runs_25
set_option maxHeartbeats 4000000 in
set_option maxRecDepth 100000 in
theorem x_goesTodayE (l : Launch) (dC : Nat → ClassId) (dI : Nat → Nat → Nat) (sz : Nat) (ob ad : Nat → Nat) (cA : Nat → ClassId) (hd : dX ob ad) (fv : Nat → Int32) (wd : xT) (ar : Nat → Nat → Int32) (hF_fv : rX fv) (hA_ar : rB ar) (kk : Int32) (h_kk : 0 ≤ kk.toInt ∧ kk.toInt ≤ 79) : Met l yX1_goesToday (.code yX1_goesToday cX1_goesToday 2 (some .boolean) :: lw_good) ({ frames := 3, cells := 0, slots := 0, locals := 62 }) (va_Pc [.ref (ob 8), .int kk] (prX dC dI ob ad cA fv wd ar sz)) (va_Qi (fun (r : Int32) (u : xS) => rX u.1 ∧ rB u.2.2 ∧ fM [] fv u.1 ∧ fA [] ar u.2.2 ∧ u.2.1.2 = wd.2 ∧ (0 ≤ r.toInt ∧ r.toInt ≤ 1) ∧ ((r = 0 ∧ (¬ mo_gt (mx_D fv ar) (kk.toInt.toNat))) ∨ (r = 1 ∧ (mo_gt (mx_D fv ar) (kk.toInt.toNat)))) ∧ True) (enX dC dI ob ad cA) (aX ob ad sz)) 0 0 (aX ob ad sz) := by
  refine Met.ofW (cc := cX1_goesToday) (maxL := 2) (ret := (some .boolean)) (by decide) rfl ?_
  intro p e s m args below meth c s₁ B hml hv
  obtain ⟨rfl, hsz, hP, hK⟩ := hv
  have hx := B.exec
  have hb := B.bytes
  have hr := B.returns
  have hts := atoms_spec (ws := (.code yX1_goesToday cX1_goesToday 2 (some .boolean) :: lw_good)) B.pre
  have htg : ∀ w ∈ lw_good, w.before _ s = true := fun w hw => hts w (List.mem_cons_of_mem _ hw)
  have hown : s.vm.findClass RX1 = some m.cls := findClass_of_methodNamed B.named
  have hlocks := B.notSynchronized
  subst hsz
  have hS : va_S (aX ob ad s.heap.size) s.heap s.heap [] := va_S.rf
  have hl := lv_entry ([.ref (ob 8), .int kk]) (n := 2) (Nat.le_of_ble_eq_true rfl)
  rw [lg_entry_eq]
  generalize (lg_sl ([.ref (ob 8), .int kk]) ++ List.replicate (2 - (lg_sl ([.ref (ob 8), .int kk])).length) Slot.unset).toArray = ls at hl ⊢
  have hl : lv_has ls 2 [(0, .ref (ob 8)), (1, .int kk)] := hl
  refine lv_aload_n hx hb dX1_goesToday_0 rfl (lv_at hl 0 rfl) ?_
  refine gX_X1_9 hx hb htg hown hK hP dX1_goesToday_1 ?_
  refine gX_X1_157 hx hb htg hown hK hP dX1_goesToday_4 ?_
  refine lv_iload_n hx hb dX1_goesToday_7 rfl (lv_at hl 1 rfl) ?_
  refine lv_aload_n hx hb dX1_goesToday_8 rfl (lv_at hl 0 rfl) ?_
  refine gX_X1_9 hx hb htg hown hK hP dX1_goesToday_9 ?_
  refine gX_X1_169 hx hb htg hown hK hP dX1_goesToday_12 ?_
  have i_1 : 0 ≤ (fv 7).toInt ∧ (fv 7).toInt ≤ 199 := hF_fv 7
  refine va_calli (va_runV (As := [.int kk, .int (fv 7)]) (rest := []) ⟨hx, hb, hml, hown, hts⟩ (x_runsE l dC dI s.heap.size ob ad cA hd fv wd ar hF_fv hA_ar kk (fv 7) h_kk) (cwV 2 hts (gV kw_5_85 kw_5_86 kw_5_87 kw_1_6 kw_5_88) rfl rfl rfl (by decide +kernel) ⟨Nat.le_of_ble_eq_true rfl, Nat.le_of_ble_eq_true rfl⟩) ⟨fun a U g mk q => ⟨q.1, q.2.1, q.2.2.1, va_K.moved (u := U) (U := U.calling g mk a) (Vm.Alike.refl U.vm) q.2.2.2⟩, va_recv hK hP (ci := 8) (q0 := 5) rfl rfl, fun U hU hW => ⟨rfl, by rw [hU], by rw [hU]; exact hP, va_K.moved hW.alike hK⟩⟩ rfl rfl hl.1 rfl (lv_room (Nat.le_of_ble_eq_true rfl)) dX1_goesToday_15 ⟨Nat.le_of_ble_eq_true rfl, Nat.le_of_ble_eq_true rfl⟩) hS (fun q _ h9 => aX_up hS q h9) (aX_up hS) (fun r_2 u t H1 locs ht _ hw hB _ hk1 hS => ?_)
  obtain ⟨fv_5, wd_6, ar_7⟩ := u
  obtain ⟨hF_fv_5, hA_ar_7, fr_8, fa_9, wf_10, p_3, p_4, -⟩ := hw
  have wf_10 : wd_6.2 = wd.2 := wf_10
  have hP : va_P (dC, dI) vwCl (wsX ob ad cA fv_5 wd_6 ar_7) H1 := by have h9 := hB.1; rw [ht] at h9; exact h9
  have fr_8 : fM [] fv fv_5 := fr_8
  have fa_9 : fA [] ar ar_7 := fa_9
  generalize H1 = H at hP hS ⊢
  rcases p_4 with ⟨rfl, p_4⟩ | ⟨rfl, p_4⟩
  · skip
    have q_11 : ¬ ((ar 32 (kk.toInt.toNat)).toInt ≤ (fv 7).toInt ∧ (fv 7).toInt ≤ (ar 33 (kk.toInt.toNat)).toInt) := p_4
    refine lv_if_eq (tgt := 44) hx hb dX1_goesToday_18 (by decide) (fun c_12 => ?_) (fun c_12 => ?_)
    · skip
      refine lv_iconst (v := 0) hx hb dX1_goesToday_44 (by decide) ?_
      exact W.zret (v := 0) hx hb hr (by decide) (fun t ht hW => ⟨⟨0, (fv_5, wd_6, ar_7), rfl, ⟨hF_fv_5, hA_ar_7, (fM_call (fM_rf [] _) fr_8 (by decide)), (fA_call (fA_rf [] _) fa_9 (by decide)), wf_10, (iv_w (⟨by decide, by decide⟩ : (0 : Int) ≤ (0 : Int32).toInt ∧ (0 : Int32).toInt ≤ 0) (by decide) (by decide)), (Or.inl ⟨rfl, (show ¬ (mo_gt (mx_D fv ar) (kk.toInt.toNat)) from fun w => absurd (show (ar 32 (kk.toInt.toNat)).toInt ≤ (fv 7).toInt ∧ (fv 7).toInt ≤ (ar 33 (kk.toInt.toNat)).toInt from ⟨w.1, w.2.1⟩) (by have h9 := q_11; exact h9))⟩), trivial⟩, ⟨by rw [ht]; exact hP, va_K.moved hW.alike hK⟩⟩, hS.F ht⟩) hS.2.2 dX1_goesToday_45
    · skip
      exact absurd c_12 (by decide)
  · skip
    have q_13 : (ar 32 (kk.toInt.toNat)).toInt ≤ (fv 7).toInt ∧ (fv 7).toInt ≤ (ar 33 (kk.toInt.toNat)).toInt := p_4
    refine lv_if_eq (tgt := 44) hx hb dX1_goesToday_18 (by decide) (fun c_14 => ?_) (fun c_14 => ?_)
    · skip
      exact absurd c_14 (by decide)
    · skip
      refine lv_aload_n hx hb dX1_goesToday_21 rfl (lv_at hl 0 rfl) ?_
      refine gX_X1_9 hx hb htg hown hK hP dX1_goesToday_22 ?_
      refine gX_X1_157 hx hb htg hown hK hP dX1_goesToday_25 ?_
      refine gX_X1_176 hx hb htg hown hK hP dX1_goesToday_28 ?_
      refine lv_iload_n hx hb dX1_goesToday_31 rfl (lv_at hl 1 rfl) ?_
      refine lX_28 hx hb hK hP (iv_in h_kk (by decide) (by decide)) dX1_goesToday_32 (fun v_15 ev_15 => ?_)
      have i_16 : 0 ≤ v_15.toInt ∧ v_15.toInt ≤ 19 := ev_15 ▸ hA_ar_7 28 _
      refine lv_aload_n hx hb dX1_goesToday_33 rfl (lv_at hl 0 rfl) ?_
      refine gX_X1_82 hx hb htg hown hK hP dX1_goesToday_34 ?_
      refine my_ti (y := fv 22) ((fr_8 22 rfl)) ?_
      refine lv_icmp_eq (tgt := 44) hx hb dX1_goesToday_37 (by decide) (fun c_17 => ?_) (fun c_17 => ?_)
      · skip
        have i_18 : 0 ≤ (fv 22).toInt ∧ (fv 22).toInt ≤ 19 := iv_eq1 i_16 c_17.symm
        have k_19 := congrArg Int32.toInt c_17
        refine lv_iconst (v := 0) hx hb dX1_goesToday_44 (by decide) ?_
        exact W.zret (v := 0) hx hb hr (by decide) (fun t ht hW => ⟨⟨0, (fv_5, wd_6, ar_7), rfl, ⟨hF_fv_5, hA_ar_7, (fM_call (fM_rf [] _) fr_8 (by decide)), (fA_call (fA_rf [] _) fa_9 (by decide)), wf_10, (iv_w (⟨by decide, by decide⟩ : (0 : Int) ≤ (0 : Int32).toInt ∧ (0 : Int32).toInt ≤ 0) (by decide) (by decide)), (Or.inl ⟨rfl, (show ¬ (mo_gt (mx_D fv ar) (kk.toInt.toNat)) from fun w => by have w2 : (ar 28 (kk.toInt.toNat)).toInt ≠ (fv 22).toInt := w.2.2; rw [show ar 28 (kk.toInt.toNat) = v_15 from ((show v_15 = ar 28 (kk.toInt.toNat) from by rw [ev_15, show ar_7 28 = ar 28 from ((fA_call (fA_rf [] _) fa_9 (by decide)) 28 rfl)]; exact congrArg (ar 28) (show kk.toInt.toNat = (kk.toInt.toNat) from by omega))).symm] at w2; omega)⟩), trivial⟩, ⟨by rw [ht]; exact hP, va_K.moved hW.alike hK⟩⟩, hS.F ht⟩) hS.2.2 dX1_goesToday_45
      · skip
        have k_20 : ¬ v_15.toInt = (fv 22).toInt := fun q => c_17 (Int32.toInt_inj.mp q)
        refine lv_iconst (v := 1) hx hb dX1_goesToday_40 (by decide) ?_
        refine lv_goto (tgt := 45) hx hb dX1_goesToday_41 (by decide) ?_
        exact W.zret (v := 1) hx hb hr (by decide) (fun t ht hW => ⟨⟨1, (fv_5, wd_6, ar_7), rfl, ⟨hF_fv_5, hA_ar_7, (fM_call (fM_rf [] _) fr_8 (by decide)), (fA_call (fA_rf [] _) fa_9 (by decide)), wf_10, (iv_w (⟨by decide, by decide⟩ : (1 : Int) ≤ (1 : Int32).toInt ∧ (1 : Int32).toInt ≤ 1) (by decide) (by decide)), (Or.inr (⟨rfl, (show mo_gt (mx_D fv ar) (kk.toInt.toNat) from by have h8 := q_13; exact ⟨h8.1, h8.2, by show (ar 28 (kk.toInt.toNat)).toInt ≠ (fv 22).toInt; rw [show ar 28 (kk.toInt.toNat) = v_15 from ((show v_15 = ar 28 (kk.toInt.toNat) from by rw [ev_15, show ar_7 28 = ar 28 from ((fA_call (fA_rf [] _) fa_9 (by decide)) 28 rfl)]; exact congrArg (ar 28) (show kk.toInt.toNat = (kk.toInt.toNat) from by omega))).symm]; omega⟩)⟩)), trivial⟩, ⟨by rw [ht]; exact hP, va_K.moved hW.alike hK⟩⟩, hS.F ht⟩) hS.2.2 dX1_goesToday_45
set_option maxHeartbeats 4000000 in
set_option maxRecDepth 100000 in
theorem x_markBusyE (l : Launch) (dC : Nat → ClassId) (dI : Nat → Nat → Nat) (sz : Nat) (ob ad : Nat → Nat) (cA : Nat → ClassId) (hd : dX ob ad) (fv : Nat → Int32) (wd : xT) (ar : Nat → Nat → Int32) (hF_fv : rX fv) (hA_ar : rB ar) (a : Int32) : Met l yX1_markBusy (.code yX1_markBusy cX1_markBusy 2 none :: lw_good) ({ frames := 2, cells := 0, slots := 0, locals := 40 }) (va_Pc [.ref (ob 8), .int a] (prX dC dI ob ad cA fv wd ar sz)) (va_Qv (fun (u : xS) => rX u.1 ∧ rB u.2.2 ∧ fM [] fv u.1 ∧ fA [57] ar u.2.2 ∧ u.2.1.2 = wd.2 ∧ (mx_S u.1 u.2.2 = mo_mk (mx_S fv ar) a) ∧ True) (enX dC dI ob ad cA) (aX ob ad sz)) 0 0 (aX ob ad sz) := by
  refine Met.ofW (cc := cX1_markBusy) (maxL := 2) (ret := none) (by decide) rfl ?_
  intro p e s m args below meth c s₁ B hml hv
  obtain ⟨rfl, hsz, hP, hK⟩ := hv
  have hx := B.exec
  have hb := B.bytes
  have hr := B.returns
  have hts := atoms_spec (ws := (.code yX1_markBusy cX1_markBusy 2 none :: lw_good)) B.pre
  have htg : ∀ w ∈ lw_good, w.before _ s = true := fun w hw => hts w (List.mem_cons_of_mem _ hw)
  have hown : s.vm.findClass RX1 = some m.cls := findClass_of_methodNamed B.named
  have hlocks := B.notSynchronized
  subst hsz
  have hS : va_S (aX ob ad s.heap.size) s.heap s.heap [] := va_S.rf
  have hl := lv_entry ([.ref (ob 8), .int a]) (n := 2) (Nat.le_of_ble_eq_true rfl)
  rw [lg_entry_eq]
  generalize (lg_sl ([.ref (ob 8), .int a]) ++ List.replicate (2 - (lg_sl ([.ref (ob 8), .int a])).length) Slot.unset).toArray = ls at hl ⊢
  have hl : lv_has ls 2 [(0, .ref (ob 8)), (1, .int a)] := hl
  refine lv_iload_n hx hb dX1_markBusy_0 rfl (lv_at hl 1 rfl) ?_
  refine lv_if_lt (tgt := 18) hx hb dX1_markBusy_1 (by decide) (fun c_1 => ?_) (fun c_1 => ?_)
  · skip
    have i_2 : (-2147483648) ≤ a.toInt ∧ a.toInt ≤ (-1) := iv_lt1 (iv_any a) (⟨by decide, by decide⟩ : (0 : Int) ≤ (0 : Int32).toInt ∧ (0 : Int32).toInt ≤ 0) c_1
    exact W.vret hx hb hr (fun t ht hW => ⟨⟨(fv, wd, ar), rfl, ⟨hF_fv, hA_ar, (fM_rf [] _), (fA_rf [57] _), rfl, (show mx_S fv ar = mo_mk (mx_S fv ar) a from by unfold mo_mk; rw [if_neg (fun w => by omega)]), trivial⟩, ⟨by rw [ht]; exact hP, va_K.moved hW.alike hK⟩⟩, hS.F ht⟩) hS.2.2 dX1_markBusy_18
  · skip
    have i_3 : 0 ≤ a.toInt ∧ a.toInt ≤ 2147483647 := iv_le2 (⟨by decide, by decide⟩ : (0 : Int) ≤ (0 : Int32).toInt ∧ (0 : Int32).toInt ≤ 0) (iv_any a) (Int32.not_lt.mp c_1)
    refine lv_iload_n hx hb dX1_markBusy_4 rfl (lv_at hl 1 rfl) ?_
    refine lv_sipush (v := 840) hx hb dX1_markBusy_5 (by decide) ?_
    refine lv_icmp_ge (tgt := 18) hx hb dX1_markBusy_8 (by decide) (fun c_4 => ?_) (fun c_4 => ?_)
    · skip
      have i_5 : 840 ≤ a.toInt ∧ a.toInt ≤ 2147483647 := iv_le2 (⟨by decide, by decide⟩ : (840 : Int) ≤ (840 : Int32).toInt ∧ (840 : Int32).toInt ≤ 840) i_3 c_4
      exact W.vret hx hb hr (fun t ht hW => ⟨⟨(fv, wd, ar), rfl, ⟨hF_fv, hA_ar, (fM_rf [] _), (fA_rf [57] _), rfl, (show mx_S fv ar = mo_mk (mx_S fv ar) a from by unfold mo_mk; rw [if_neg (fun w => by omega)]), trivial⟩, ⟨by rw [ht]; exact hP, va_K.moved hW.alike hK⟩⟩, hS.F ht⟩) hS.2.2 dX1_markBusy_18
    · skip
      have i_6 : 0 ≤ a.toInt ∧ a.toInt ≤ 839 := iv_lt1 i_3 (⟨by decide, by decide⟩ : (840 : Int) ≤ (840 : Int32).toInt ∧ (840 : Int32).toInt ≤ 840) (Int32.not_le.mp c_4)
      refine lv_aload_n hx hb dX1_markBusy_11 rfl (lv_at hl 0 rfl) ?_
      refine gX_X1_79 hx hb htg hown hK hP dX1_markBusy_12 ?_
      refine lv_iload_n hx hb dX1_markBusy_15 rfl (lv_at hl 1 rfl) ?_
      refine lv_iconst (v := 1) hx hb dX1_markBusy_16 (by decide) ?_
      refine sX_57 hx hb hK hP hS hd (iv_in i_6 (by decide) (by decide)) dX1_markBusy_17 (fun H locs ar_7 ear_7 hP hS => ?_)
      have hA_ar_7 : rB ar_7 := rB_put hA_ar ear_7 (iv_any _)
      exact W.vret hx hb hr (fun t ht hW => ⟨⟨(fv, wd, ar_7), rfl, ⟨hF_fv, hA_ar_7, (fM_rf [] _), (fA_put (fA_rf [57] _) ear_7 (by decide)), rfl, (show mx_S fv ar_7 = mo_mk (mx_S fv ar) a from by unfold mo_mk; rw [if_pos ⟨by omega, by omega⟩]; exact mx_S_busy ear_7), trivial⟩, ⟨by rw [ht]; exact hP, va_K.moved hW.alike hK⟩⟩, hS.F ht⟩) hS.2.2 dX1_markBusy_18
set_option maxHeartbeats 4000000 in
set_option maxRecDepth 100000 in
theorem x_standsReadyE (l : Launch) (dC : Nat → ClassId) (dI : Nat → Nat → Nat) (sz : Nat) (ob ad : Nat → Nat) (cA : Nat → ClassId) (hd : dX ob ad) (fv : Nat → Int32) (wd : xT) (ar : Nat → Nat → Int32) (hF_fv : rX fv) (hA_ar : rB ar) (kk : Int32) (h_kk : 0 ≤ kk.toInt ∧ kk.toInt ≤ 79) (hp_mR : mx_R fv ar) : Met l yX1_standsReady (.code yX1_standsReady cX1_standsReady 3 (some .boolean) :: lw_good) ({ frames := 4, cells := 0, slots := 0, locals := 83 }) (va_Pc [.ref (ob 8), .int kk] (prX dC dI ob ad cA fv wd ar sz)) (va_Qi (fun (r : Int32) (u : xS) => rX u.1 ∧ rB u.2.2 ∧ fM [] fv u.1 ∧ fA [] ar u.2.2 ∧ u.2.1.2 = wd.2 ∧ (0 ≤ r.toInt ∧ r.toInt ≤ 1) ∧ ((r = 0 ∧ (¬ (mo_rdy (mx_D fv ar) (mx_G ar) (mx_S fv ar) (kk.toInt.toNat)))) ∨ (r = 1 ∧ (mo_rdy (mx_D fv ar) (mx_G ar) (mx_S fv ar) (kk.toInt.toNat)))) ∧ True) (enX dC dI ob ad cA) (aX ob ad sz)) 0 0 (aX ob ad sz) := by
  refine Met.ofW (cc := cX1_standsReady) (maxL := 3) (ret := (some .boolean)) (by decide) rfl ?_
  intro p e s m args below meth c s₁ B hml hv
  obtain ⟨rfl, hsz, hP, hK⟩ := hv
  have hx := B.exec
  have hb := B.bytes
  have hr := B.returns
  have hts := atoms_spec (ws := (.code yX1_standsReady cX1_standsReady 3 (some .boolean) :: lw_good)) B.pre
  have htg : ∀ w ∈ lw_good, w.before _ s = true := fun w hw => hts w (List.mem_cons_of_mem _ hw)
  have hown : s.vm.findClass RX1 = some m.cls := findClass_of_methodNamed B.named
  have hlocks := B.notSynchronized
  subst hsz
  have hS : va_S (aX ob ad s.heap.size) s.heap s.heap [] := va_S.rf
  have hl := lv_entry ([.ref (ob 8), .int kk]) (n := 3) (Nat.le_of_ble_eq_true rfl)
  rw [lg_entry_eq]
  generalize (lg_sl ([.ref (ob 8), .int kk]) ++ List.replicate (3 - (lg_sl ([.ref (ob 8), .int kk])).length) Slot.unset).toArray = ls at hl ⊢
  have hl : lv_has ls 3 [(0, .ref (ob 8)), (1, .int kk)] := hl
  refine lv_aload_n hx hb dX1_standsReady_0 rfl (lv_at hl 0 rfl) ?_
  refine gX_X1_9 hx hb htg hown hK hP dX1_standsReady_1 ?_
  refine gX_X1_157 hx hb htg hown hK hP dX1_standsReady_4 ?_
  refine gX_X1_176 hx hb htg hown hK hP dX1_standsReady_7 ?_
  refine lv_iload_n hx hb dX1_standsReady_10 rfl (lv_at hl 1 rfl) ?_
  refine lX_28 hx hb hK hP (iv_in h_kk (by decide) (by decide)) dX1_standsReady_11 (fun v_1 ev_1 => ?_)
  have i_2 : 0 ≤ v_1.toInt ∧ v_1.toInt ≤ 19 := ev_1 ▸ hA_ar 28 _
  refine lv_istore_n (lv' := [(2, .int v_1), (0, .ref (ob 8)), (1, .int kk)]) hx hb dX1_standsReady_12 rfl hl (by decide) rfl (fun ls hl => ?_)
  refine lv_aload_n hx hb dX1_standsReady_13 rfl (lv_at hl 1 rfl) ?_
  refine gX_X1_71 hx hb htg hown hK hP dX1_standsReady_14 ?_
  refine lv_iload_n hx hb dX1_standsReady_17 rfl (lv_at hl 0 rfl) ?_
  refine lX_55 hx hb hK hP (iv_in i_2 (by decide) (by decide)) dX1_standsReady_18 (fun v_3 ev_3 => ?_)
  refine lv_iconst (v := (-1)) hx hb dX1_standsReady_19 (by decide) ?_
  refine lv_icmp_ne (tgt := 70) hx hb dX1_standsReady_20 (by decide) (fun c_4 => ?_) (fun c_4 => ?_)
  · skip
    have k_5 : ¬ v_3.toInt = (-1) := fun q => c_4 (Int32.toInt_inj.mp q)
    refine lv_iconst (v := 0) hx hb dX1_standsReady_70 (by decide) ?_
    exact W.zret (v := 0) hx hb hr (by decide) (fun t ht hW => ⟨⟨0, (fv, wd, ar), rfl, ⟨hF_fv, hA_ar, (fM_rf [] _), (fA_rf [] _), rfl, (iv_w (⟨by decide, by decide⟩ : (0 : Int) ≤ (0 : Int32).toInt ∧ (0 : Int32).toInt ≤ 0) (by decide) (by decide)), (Or.inl ⟨rfl, (show ¬ (mo_rdy (mx_D fv ar) (mx_G ar) (mx_S fv ar) (kk.toInt.toNat)) from by have hw9 : mo_w (mx_D fv ar) (kk.toInt.toNat) = (v_1.toInt.toNat) := (by show (ar 28 (kk.toInt.toNat)).toInt.toNat = _; rw [show ar 28 (kk.toInt.toNat) = v_1 from ((show v_1 = ar 28 (kk.toInt.toNat) from by rw [ev_1]; exact congrArg (ar 28) (show kk.toInt.toNat = (kk.toInt.toNat) from by omega))).symm]); have hs11 : (mx_S fv ar) 11 (v_1.toInt.toNat) = v_3 := (by show ar 55 _ = _; exact ((show v_3 = ar 55 (v_1.toInt.toNat) from by rw [ev_3]; exact congrArg (ar 55) (show v_1.toInt.toNat = (v_1.toInt.toNat) from by omega))).symm); rintro ⟨w1, w2, w3, w4⟩; rw [hw9, hs11] at w1; omega)⟩), trivial⟩, ⟨by rw [ht]; exact hP, va_K.moved hW.alike hK⟩⟩, hS.F ht⟩) hS.2.2 dX1_standsReady_71
  · skip
    have i_6 : (-1) ≤ v_3.toInt ∧ v_3.toInt ≤ (-1) := iv_eq1 (⟨by decide, by decide⟩ : (-1 : Int) ≤ ((-1) : Int32).toInt ∧ ((-1) : Int32).toInt ≤ -1) c_4
    refine lv_aload_n hx hb dX1_standsReady_23 rfl (lv_at hl 1 rfl) ?_
    refine gX_X1_68 hx hb htg hown hK hP dX1_standsReady_24 ?_
    refine lv_iload_n hx hb dX1_standsReady_27 rfl (lv_at hl 0 rfl) ?_
    refine lX_54 hx hb hK hP (iv_in i_2 (by decide) (by decide)) dX1_standsReady_28 (fun v_8 ev_8 => ?_)
    have i_9 : 0 ≤ v_8.toInt ∧ v_8.toInt ≤ 7 := ev_8 ▸ hA_ar 54 _
    refine lv_aload_n hx hb dX1_standsReady_29 rfl (lv_at hl 1 rfl) ?_
    refine gX_X1_9 hx hb htg hown hK hP dX1_standsReady_30 ?_
    refine gX_X1_157 hx hb htg hown hK hP dX1_standsReady_33 ?_
    refine gX_X1_189 hx hb htg hown hK hP dX1_standsReady_36 ?_
    refine lv_iload_n hx hb dX1_standsReady_39 rfl (lv_at hl 2 rfl) ?_
    refine lX_29 hx hb hK hP (iv_in h_kk (by decide) (by decide)) dX1_standsReady_40 (fun v_10 ev_10 => ?_)
    have i_11 : 0 ≤ v_10.toInt ∧ v_10.toInt ≤ 7 := ev_10 ▸ hA_ar 29 _
    refine lv_icmp_ne (tgt := 70) hx hb dX1_standsReady_41 (by decide) (fun c_12 => ?_) (fun c_12 => ?_)
    · skip
      have k_13 : ¬ v_8.toInt = v_10.toInt := fun q => c_12 (Int32.toInt_inj.mp q)
      refine lv_iconst (v := 0) hx hb dX1_standsReady_70 (by decide) ?_
      exact W.zret (v := 0) hx hb hr (by decide) (fun t ht hW => ⟨⟨0, (fv, wd, ar), rfl, ⟨hF_fv, hA_ar, (fM_rf [] _), (fA_rf [] _), rfl, (iv_w (⟨by decide, by decide⟩ : (0 : Int) ≤ (0 : Int32).toInt ∧ (0 : Int32).toInt ≤ 0) (by decide) (by decide)), (Or.inl ⟨rfl, (show ¬ (mo_rdy (mx_D fv ar) (mx_G ar) (mx_S fv ar) (kk.toInt.toNat)) from by have hw9 : mo_w (mx_D fv ar) (kk.toInt.toNat) = (v_1.toInt.toNat) := (by show (ar 28 (kk.toInt.toNat)).toInt.toNat = _; rw [show ar 28 (kk.toInt.toNat) = v_1 from ((show v_1 = ar 28 (kk.toInt.toNat) from by rw [ev_1]; exact congrArg (ar 28) (show kk.toInt.toNat = (kk.toInt.toNat) from by omega))).symm]); have hs11 : (mx_S fv ar) 11 (v_1.toInt.toNat) = v_3 := (by show ar 55 _ = _; exact ((show v_3 = ar 55 (v_1.toInt.toNat) from by rw [ev_3]; exact congrArg (ar 55) (show v_1.toInt.toNat = (v_1.toInt.toNat) from by omega))).symm); have hs10 : (mx_S fv ar) 10 (v_1.toInt.toNat) = v_8 := (by show ar 54 _ = _; exact ((show v_8 = ar 54 (v_1.toInt.toNat) from by rw [ev_8]; exact congrArg (ar 54) (show v_1.toInt.toNat = (v_1.toInt.toNat) from by omega))).symm); have hd12 : (mx_D fv ar) 12 (kk.toInt.toNat) = v_10 := (by show ar 29 _ = _; exact ((show v_10 = ar 29 (kk.toInt.toNat) from by rw [ev_10]; exact congrArg (ar 29) (show kk.toInt.toNat = (kk.toInt.toNat) from by omega))).symm); rintro ⟨w1, w2, w3, w4⟩; rw [hw9, hs11] at w1; rw [hw9, hs10, hd12] at w2; omega)⟩), trivial⟩, ⟨by rw [ht]; exact hP, va_K.moved hW.alike hK⟩⟩, hS.F ht⟩) hS.2.2 dX1_standsReady_71
    · skip
      have k_14 := congrArg Int32.toInt c_12
      refine lv_aload_n hx hb dX1_standsReady_44 rfl (lv_at hl 1 rfl) ?_
      refine gX_X1_65 hx hb htg hown hK hP dX1_standsReady_45 ?_
      refine lv_iload_n hx hb dX1_standsReady_48 rfl (lv_at hl 0 rfl) ?_
      refine lX_53 hx hb hK hP (iv_in i_2 (by decide) (by decide)) dX1_standsReady_49 (fun v_15 ev_15 => ?_)
      refine lv_if_ne (tgt := 70) hx hb dX1_standsReady_50 (by decide) (fun c_16 => ?_) (fun c_16 => ?_)
      · skip
        have k_17 : ¬ v_15.toInt = 0 := fun q => c_16 (Int32.toInt_inj.mp q)
        refine lv_iconst (v := 0) hx hb dX1_standsReady_70 (by decide) ?_
        exact W.zret (v := 0) hx hb hr (by decide) (fun t ht hW => ⟨⟨0, (fv, wd, ar), rfl, ⟨hF_fv, hA_ar, (fM_rf [] _), (fA_rf [] _), rfl, (iv_w (⟨by decide, by decide⟩ : (0 : Int) ≤ (0 : Int32).toInt ∧ (0 : Int32).toInt ≤ 0) (by decide) (by decide)), (Or.inl ⟨rfl, (show ¬ (mo_rdy (mx_D fv ar) (mx_G ar) (mx_S fv ar) (kk.toInt.toNat)) from by have hw9 : mo_w (mx_D fv ar) (kk.toInt.toNat) = (v_1.toInt.toNat) := (by show (ar 28 (kk.toInt.toNat)).toInt.toNat = _; rw [show ar 28 (kk.toInt.toNat) = v_1 from ((show v_1 = ar 28 (kk.toInt.toNat) from by rw [ev_1]; exact congrArg (ar 28) (show kk.toInt.toNat = (kk.toInt.toNat) from by omega))).symm]); have hs11 : (mx_S fv ar) 11 (v_1.toInt.toNat) = v_3 := (by show ar 55 _ = _; exact ((show v_3 = ar 55 (v_1.toInt.toNat) from by rw [ev_3]; exact congrArg (ar 55) (show v_1.toInt.toNat = (v_1.toInt.toNat) from by omega))).symm); have hs10 : (mx_S fv ar) 10 (v_1.toInt.toNat) = v_8 := (by show ar 54 _ = _; exact ((show v_8 = ar 54 (v_1.toInt.toNat) from by rw [ev_8]; exact congrArg (ar 54) (show v_1.toInt.toNat = (v_1.toInt.toNat) from by omega))).symm); have hs9 : (mx_S fv ar) 9 (v_1.toInt.toNat) = v_15 := (by show ar 53 _ = _; exact ((show v_15 = ar 53 (v_1.toInt.toNat) from by rw [ev_15]; exact congrArg (ar 53) (show v_1.toInt.toNat = (v_1.toInt.toNat) from by omega))).symm); have hd12 : (mx_D fv ar) 12 (kk.toInt.toNat) = v_10 := (by show ar 29 _ = _; exact ((show v_10 = ar 29 (kk.toInt.toNat) from by rw [ev_10]; exact congrArg (ar 29) (show kk.toInt.toNat = (kk.toInt.toNat) from by omega))).symm); rintro ⟨w1, w2, w3, w4⟩; rw [hw9, hs11] at w1; rw [hw9, hs10, hd12] at w2; rw [hw9, hs9] at w3; omega)⟩), trivial⟩, ⟨by rw [ht]; exact hP, va_K.moved hW.alike hK⟩⟩, hS.F ht⟩) hS.2.2 dX1_standsReady_71
      · skip
        have i_18 : 0 ≤ v_15.toInt ∧ v_15.toInt ≤ 0 := iv_eq1 (⟨by decide, by decide⟩ : (0 : Int) ≤ (0 : Int32).toInt ∧ (0 : Int32).toInt ≤ 0) c_16
        refine lv_aload_n hx hb dX1_standsReady_53 rfl (lv_at hl 1 rfl) ?_
        refine gX_X1_9 hx hb htg hown hK hP dX1_standsReady_54 ?_
        refine lv_iload_n hx hb dX1_standsReady_57 rfl (lv_at hl 2 rfl) ?_
        refine va_calli (va_runV (As := [.int kk]) (rest := []) ⟨hx, hb, hml, hown, hts⟩ (x_lengthOfE l dC dI s.heap.size ob ad cA hd fv wd ar hF_fv hA_ar kk h_kk hp_mR) (cwV 1 hts (gV kw_5_174 kw_5_95 kw_5_96 kw_1_2 kw_5_97) rfl rfl rfl (by decide +kernel) ⟨Nat.le_of_ble_eq_true rfl, Nat.le_of_ble_eq_true rfl⟩) ⟨fun a U g mk q => ⟨q.1, q.2.1, q.2.2.1, va_K.moved (u := U) (U := U.calling g mk a) (Vm.Alike.refl U.vm) q.2.2.2⟩, va_recv hK hP (ci := 7) (q0 := 1) rfl rfl, fun U hU hW => ⟨rfl, by rw [hU], by rw [hU]; exact hP, va_K.moved hW.alike hK⟩⟩ rfl rfl hl.1 rfl (lv_room (Nat.le_of_ble_eq_true rfl)) dX1_standsReady_58 ⟨Nat.le_of_ble_eq_true rfl, Nat.le_of_ble_eq_true rfl⟩) hS (fun q _ h9 => aX_up hS q h9) (aX_up hS) (fun r_20 u t H1 locs ht _ hw hB _ hk1 hS => ?_)
        obtain ⟨fv_23, wd_24, ar_25⟩ := u
        obtain ⟨hF_fv_23, hA_ar_25, fr_26, fa_27, wf_28, p_21, p_22, -⟩ := hw
        have wf_28 : wd_24.2 = wd.2 := wf_28
        have hP : va_P (dC, dI) vwCl (wsX ob ad cA fv_23 wd_24 ar_25) H1 := by have h9 := hB.1; rw [ht] at h9; exact h9
        have fr_26 : fM [] fv fv_23 := fr_26
        have fa_27 : fA [] ar ar_25 := fa_27
        have p_22 : r_20.toInt = mo_ln (mx_D fv ar) (mx_G ar) (kk.toInt.toNat) := p_22
        generalize H1 = H at hP hS ⊢
        have ln_29 : r_20.toInt = mo_ln (mx_D fv ar) (mx_G ar) (kk.toInt.toNat) := by have h9 := p_22; exact h9
        refine lv_ldc hx hb hown (htg (.constant RX1 209 10000000) kw_5_150) dX1_standsReady_61 ?_
        refine lv_icmp_ge (tgt := 70) hx hb dX1_standsReady_63 (by decide) (fun c_30 => ?_) (fun c_30 => ?_)
        · skip
          have i_31 : 10000000 ≤ r_20.toInt ∧ r_20.toInt ≤ 10000000 := iv_le2 (⟨by decide, by decide⟩ : (10000000 : Int) ≤ (10000000 : Int32).toInt ∧ (10000000 : Int32).toInt ≤ 10000000) p_21 c_30
          refine lv_iconst (v := 0) hx hb dX1_standsReady_70 (by decide) ?_
          exact W.zret (v := 0) hx hb hr (by decide) (fun t ht hW => ⟨⟨0, (fv_23, wd_24, ar_25), rfl, ⟨hF_fv_23, hA_ar_25, (fM_call (fM_rf [] _) fr_26 (by decide)), (fA_call (fA_rf [] _) fa_27 (by decide)), wf_28, (iv_w (⟨by decide, by decide⟩ : (0 : Int) ≤ (0 : Int32).toInt ∧ (0 : Int32).toInt ≤ 0) (by decide) (by decide)), (Or.inl ⟨rfl, (show ¬ (mo_rdy (mx_D fv ar) (mx_G ar) (mx_S fv ar) (kk.toInt.toNat)) from by have hw9 : mo_w (mx_D fv ar) (kk.toInt.toNat) = (v_1.toInt.toNat) := (by show (ar 28 (kk.toInt.toNat)).toInt.toNat = _; rw [show ar 28 (kk.toInt.toNat) = v_1 from ((show v_1 = ar 28 (kk.toInt.toNat) from by rw [ev_1]; exact congrArg (ar 28) (show kk.toInt.toNat = (kk.toInt.toNat) from by omega))).symm]); have hs11 : (mx_S fv ar) 11 (v_1.toInt.toNat) = v_3 := (by show ar 55 _ = _; exact ((show v_3 = ar 55 (v_1.toInt.toNat) from by rw [ev_3]; exact congrArg (ar 55) (show v_1.toInt.toNat = (v_1.toInt.toNat) from by omega))).symm); have hs10 : (mx_S fv ar) 10 (v_1.toInt.toNat) = v_8 := (by show ar 54 _ = _; exact ((show v_8 = ar 54 (v_1.toInt.toNat) from by rw [ev_8]; exact congrArg (ar 54) (show v_1.toInt.toNat = (v_1.toInt.toNat) from by omega))).symm); have hs9 : (mx_S fv ar) 9 (v_1.toInt.toNat) = v_15 := (by show ar 53 _ = _; exact ((show v_15 = ar 53 (v_1.toInt.toNat) from by rw [ev_15]; exact congrArg (ar 53) (show v_1.toInt.toNat = (v_1.toInt.toNat) from by omega))).symm); have hd12 : (mx_D fv ar) 12 (kk.toInt.toNat) = v_10 := (by show ar 29 _ = _; exact ((show v_10 = ar 29 (kk.toInt.toNat) from by rw [ev_10]; exact congrArg (ar 29) (show kk.toInt.toNat = (kk.toInt.toNat) from by omega))).symm); rintro ⟨w1, w2, w3, w4⟩; rw [hw9, hs11] at w1; rw [hw9, hs10, hd12] at w2; rw [hw9, hs9] at w3; rw [← ln_29] at w4; omega)⟩), trivial⟩, ⟨by rw [ht]; exact hP, va_K.moved hW.alike hK⟩⟩, hS.F ht⟩) hS.2.2 dX1_standsReady_71
        · skip
          have i_32 : 0 ≤ r_20.toInt ∧ r_20.toInt ≤ 9999999 := iv_lt1 p_21 (⟨by decide, by decide⟩ : (10000000 : Int) ≤ (10000000 : Int32).toInt ∧ (10000000 : Int32).toInt ≤ 10000000) (Int32.not_le.mp c_30)
          refine lv_iconst (v := 1) hx hb dX1_standsReady_66 (by decide) ?_
          refine lv_goto (tgt := 71) hx hb dX1_standsReady_67 (by decide) ?_
          exact W.zret (v := 1) hx hb hr (by decide) (fun t ht hW => ⟨⟨1, (fv_23, wd_24, ar_25), rfl, ⟨hF_fv_23, hA_ar_25, (fM_call (fM_rf [] _) fr_26 (by decide)), (fA_call (fA_rf [] _) fa_27 (by decide)), wf_28, (iv_w (⟨by decide, by decide⟩ : (1 : Int) ≤ (1 : Int32).toInt ∧ (1 : Int32).toInt ≤ 1) (by decide) (by decide)), (Or.inr (⟨rfl, (show mo_rdy (mx_D fv ar) (mx_G ar) (mx_S fv ar) (kk.toInt.toNat) from by have hw9 : mo_w (mx_D fv ar) (kk.toInt.toNat) = (v_1.toInt.toNat) := (by show (ar 28 (kk.toInt.toNat)).toInt.toNat = _; rw [show ar 28 (kk.toInt.toNat) = v_1 from ((show v_1 = ar 28 (kk.toInt.toNat) from by rw [ev_1]; exact congrArg (ar 28) (show kk.toInt.toNat = (kk.toInt.toNat) from by omega))).symm]); have hs11 : (mx_S fv ar) 11 (v_1.toInt.toNat) = v_3 := (by show ar 55 _ = _; exact ((show v_3 = ar 55 (v_1.toInt.toNat) from by rw [ev_3]; exact congrArg (ar 55) (show v_1.toInt.toNat = (v_1.toInt.toNat) from by omega))).symm); have hs10 : (mx_S fv ar) 10 (v_1.toInt.toNat) = v_8 := (by show ar 54 _ = _; exact ((show v_8 = ar 54 (v_1.toInt.toNat) from by rw [ev_8]; exact congrArg (ar 54) (show v_1.toInt.toNat = (v_1.toInt.toNat) from by omega))).symm); have hs9 : (mx_S fv ar) 9 (v_1.toInt.toNat) = v_15 := (by show ar 53 _ = _; exact ((show v_15 = ar 53 (v_1.toInt.toNat) from by rw [ev_15]; exact congrArg (ar 53) (show v_1.toInt.toNat = (v_1.toInt.toNat) from by omega))).symm); have hd12 : (mx_D fv ar) 12 (kk.toInt.toNat) = v_10 := (by show ar 29 _ = _; exact ((show v_10 = ar 29 (kk.toInt.toNat) from by rw [ev_10]; exact congrArg (ar 29) (show kk.toInt.toNat = (kk.toInt.toNat) from by omega))).symm); unfold mo_rdy; rw [hw9, hs11, hs10, hs9, hd12, ← ln_29]; exact ⟨by omega, by omega, by omega, by omega⟩)⟩)), trivial⟩, ⟨by rw [ht]; exact hP, va_K.moved hW.alike hK⟩⟩, hS.F ht⟩) hS.2.2 dX1_standsReady_71
set_option maxHeartbeats 4000000 in
set_option maxRecDepth 100000 in
theorem x_firstInLineE (l : Launch) (dC : Nat → ClassId) (dI : Nat → Nat → Nat) (sz : Nat) (ob ad : Nat → Nat) (cA : Nat → ClassId) (hd : dX ob ad) (fv : Nat → Int32) (wd : xT) (ar : Nat → Nat → Int32) (hF_fv : rX fv) (hA_ar : rB ar) (kk : Int32) (b : Int32) (h_kk : 0 ≤ kk.toInt ∧ kk.toInt ≤ 79) : Met l yX1_firstInLine (.code yX1_firstInLine cX1_firstInLine 5 (some .int) :: lw_good) ({ frames := 2, cells := 0, slots := 0, locals := 40 }) (va_Pc [.ref (ob 8), .int kk, .int b] (prX dC dI ob ad cA fv wd ar sz)) (va_Qi (fun (r : Int32) (u : xS) => rX u.1 ∧ rB u.2.2 ∧ fM [] fv u.1 ∧ fA [] ar u.2.2 ∧ u.2.1.2 = wd.2 ∧ ((-1) ≤ r.toInt ∧ r.toInt ≤ 39) ∧ (r.toInt = mo_fi (mx_D fv ar) (mx_S fv ar) (kk.toInt.toNat) b ((fv 10).toInt.toNat)) ∧ True) (enX dC dI ob ad cA) (aX ob ad sz)) 0 0 (aX ob ad sz) := by
  refine Met.ofW (cc := cX1_firstInLine) (maxL := 5) (ret := (some .int)) (by decide) rfl ?_
  intro p e s m args below meth c s₁ B hml hv
  obtain ⟨rfl, hsz, hP, hK⟩ := hv
  have hx := B.exec
  have hb := B.bytes
  have hr := B.returns
  have hts := atoms_spec (ws := (.code yX1_firstInLine cX1_firstInLine 5 (some .int) :: lw_good)) B.pre
  have htg : ∀ w ∈ lw_good, w.before _ s = true := fun w hw => hts w (List.mem_cons_of_mem _ hw)
  have hown : s.vm.findClass RX1 = some m.cls := findClass_of_methodNamed B.named
  have hlocks := B.notSynchronized
  subst hsz
  have hS : va_S (aX ob ad s.heap.size) s.heap s.heap [] := va_S.rf
  have hl := lv_entry ([.ref (ob 8), .int kk, .int b]) (n := 5) (Nat.le_of_ble_eq_true rfl)
  rw [lg_entry_eq]
  generalize (lg_sl ([.ref (ob 8), .int kk, .int b]) ++ List.replicate (5 - (lg_sl ([.ref (ob 8), .int kk, .int b])).length) Slot.unset).toArray = ls at hl ⊢
  have hl : lv_has ls 5 [(0, .ref (ob 8)), (1, .int kk), (2, .int b)] := hl
  refine lv_iconst (v := (-1)) hx hb dX1_firstInLine_0 (by decide) ?_
  refine lv_istore_n (lv' := [(3, .int (-1)), (0, .ref (ob 8)), (1, .int kk), (2, .int b)]) hx hb dX1_firstInLine_1 rfl hl (by decide) rfl (fun ls hl => ?_)
  refine lv_iconst (v := 0) hx hb dX1_firstInLine_2 (by decide) ?_
  refine lv_istore (lv' := [(4, .int 0), (3, .int (-1)), (0, .ref (ob 8)), (1, .int kk), (2, .int b)]) hx hb dX1_firstInLine_3 hl (by decide) rfl (fun ls hl => ?_)
  refine my_cut (P := fun R9 a9 Q9 => ∀ (n_5 : Nat) (x_1 : Int32) (x_2 : Int32) (H : Heap) (locs : List Loc) (ls : Array Slot), 40 - x_2.toInt < (n_5 : Int) → ((-1) ≤ x_1.toInt ∧ x_1.toInt ≤ 39) → (0 ≤ x_2.toInt ∧ x_2.toInt ≤ 40) → (x_1.toInt = mo_fi (mx_D fv ar) (mx_S fv ar) (kk.toInt.toNat) b (x_2.toInt.toNat)) → (x_2.toInt ≤ (fv 10).toInt) → va_P (dC, dI) vwCl (wsX ob ad cA fv wd ar) H → va_S (aX ob ad s.heap.size) s.heap H locs → lv_has ls 5 [(0, .ref (ob 8)), (1, .int kk), (2, .int b), (3, .int x_1), (4, .int x_2)] → W p l e R9 s m a9 below meth c H locs 0 0 Q9 (F0 m 5 ls [])) ?_ (fun hj_7 => ?_)
  · intro n_5
    induction n_5 with
    | zero => intro x_1 x_2 H locs ls fu_6 i_x_1 i_x_2 q_3 q_4; exfalso; omega
    | succ n_5 ih_5 =>
      intro x_1 x_2 H locs ls fu_6 i_x_1 i_x_2 q_3 q_4 hP hS hl
      refine lv_iload hx hb dX1_firstInLine_5 (lv_at hl 4 rfl) ?_
      refine lv_aload_n hx hb dX1_firstInLine_7 rfl (lv_at hl 0 rfl) ?_
      refine gX_X1_9 hx hb htg hown hK hP dX1_firstInLine_8 ?_
      refine gX_X1_129 hx hb htg hown hK hP dX1_firstInLine_11 ?_
      refine gX_X1_133 hx hb htg hown hK hP dX1_firstInLine_14 ?_
      have i_8 : 0 ≤ (fv 10).toInt ∧ (fv 10).toInt ≤ 40 := hF_fv 10
      refine lv_icmp_ge (tgt := 84) hx hb dX1_firstInLine_17 (by decide) (fun c_9 => ?_) (fun c_9 => ?_)
      · skip
        have k_10 := Int32.le_iff_toInt_le.mp c_9
        refine lv_iload_n hx hb dX1_firstInLine_84 rfl (lv_at hl 3 rfl) ?_
        exact W.iret (v := x_1) hx hb hr (fun t ht hW => ⟨⟨x_1, (fv, wd, ar), rfl, ⟨hF_fv, hA_ar, (fM_rf [] _), (fA_rf [] _), rfl, i_x_1, (show x_1.toInt = mo_fi (mx_D fv ar) (mx_S fv ar) (kk.toInt.toNat) b ((fv 10).toInt.toNat) from by have h9 := q_3; rw [show x_2.toInt.toNat = (fv 10).toInt.toNat from by omega] at h9; exact h9), trivial⟩, ⟨by rw [ht]; exact hP, va_K.moved hW.alike hK⟩⟩, hS.F ht⟩) hS.2.2 dX1_firstInLine_85
      · skip
        have i_11 : 0 ≤ x_2.toInt ∧ x_2.toInt ≤ 39 := iv_lt1 i_x_2 i_8 (Int32.not_le.mp c_9)
        have i_12 : 1 ≤ (fv 10).toInt ∧ (fv 10).toInt ≤ 40 := iv_lt2 i_x_2 i_8 (Int32.not_le.mp c_9)
        have k_13 := Int32.lt_iff_toInt_lt.mp (Int32.not_le.mp c_9)
        refine lv_aload_n hx hb dX1_firstInLine_20 rfl (lv_at hl 0 rfl) ?_
        refine gX_X1_51 hx hb htg hown hK hP dX1_firstInLine_21 ?_
        refine lv_iload hx hb dX1_firstInLine_24 (lv_at hl 4 rfl) ?_
        refine lX_49 hx hb hK hP (iv_in i_11 (by decide) (by decide)) dX1_firstInLine_26 (fun v_14 ev_14 => ?_)
        have i_15 : (-1) ≤ v_14.toInt ∧ v_14.toInt ≤ 79 := ev_14 ▸ hA_ar 49 _
        refine lv_iload_n hx hb dX1_firstInLine_27 rfl (lv_at hl 1 rfl) ?_
        refine lv_icmp_ne (tgt := 78) hx hb dX1_firstInLine_28 (by decide) (fun c_16 => ?_) (fun c_16 => ?_)
        · skip
          have k_17 : ¬ v_14.toInt = kk.toInt := fun q => c_16 (Int32.toInt_inj.mp q)
          obtain ⟨v_18, ev_18⟩ : ∃ z : Int32, z = x_2 + 1 := ⟨_, rfl⟩
          refine lv_iinc (v := v_18) (lv' := [(4, .int v_18), (0, .ref (ob 8)), (1, .int kk), (2, .int b), (3, .int x_1)]) hx hb dX1_firstInLine_78 hl (k := 4) rfl (by rw [ev_18]; rfl) (by decide) rfl (fun ls hl => ?_)
          have t_19 : v_18.toInt = x_2.toInt + 1 ∧ 1 ≤ v_18.toInt ∧ v_18.toInt ≤ 40 := iv_addc ev_18 i_11 (by decide) (by decide) (by decide)
          refine lv_goto (tgt := 5) hx hb dX1_firstInLine_81 (by decide) ?_
          have z_53 : 0 ≤ (fv 10).toInt ∧ (fv 10).toInt ≤ 40 := hF_fv 10
          exact ih_5 x_1 v_18 _ _ ls (by omega) i_x_1 (iv_w t_19.2 (by decide) (by decide)) (by have h49 : (mx_S fv ar) 5 (x_2.toInt.toNat) = v_14 := (by show ar 49 _ = _; exact ((show v_14 = ar 49 (x_2.toInt.toNat) from by rw [ev_14]; exact congrArg (ar 49) (show x_2.toInt.toNat = (x_2.toInt.toNat) from by omega))).symm); rw [show v_18.toInt.toNat = (x_2.toInt.toNat) + 1 from by omega]; show _ = (if (((mx_S fv ar) 5 (x_2.toInt.toNat)).toInt = (((kk.toInt.toNat) : Nat) : Int) ∧ b.toInt ≤ ((mx_S fv ar) 0 (x_2.toInt.toNat)).toInt) ∧ (mo_fi (mx_D fv ar) (mx_S fv ar) (kk.toInt.toNat) b ((x_2.toInt.toNat)) = -1 ∨ ((mx_D fv ar) 3 (x_2.toInt.toNat)).toInt < ((mx_D fv ar) 3 (mo_fi (mx_D fv ar) (mx_S fv ar) (kk.toInt.toNat) b ((x_2.toInt.toNat))).toNat).toInt) then (((x_2.toInt.toNat) : Nat) : Int) else mo_fi (mx_D fv ar) (mx_S fv ar) (kk.toInt.toNat) b ((x_2.toInt.toNat))); rw [← q_3, h49]; rw [if_neg (by rintro ⟨⟨w1, w2⟩, w3⟩; omega)]) (by omega) hP hS (lv_sub hl [1, 2, 3, 4, 0] rfl)
        · skip
          have i_21 : 0 ≤ v_14.toInt ∧ v_14.toInt ≤ 79 := iv_eq1 h_kk c_16
          have k_22 := congrArg Int32.toInt c_16
          refine lv_aload_n hx hb dX1_firstInLine_31 rfl (lv_at hl 0 rfl) ?_
          refine gX_X1_35 hx hb htg hown hK hP dX1_firstInLine_32 ?_
          refine lv_iload hx hb dX1_firstInLine_35 (lv_at hl 4 rfl) ?_
          refine lX_44 hx hb hK hP (iv_in i_11 (by decide) (by decide)) dX1_firstInLine_37 (fun v_23 ev_23 => ?_)
          refine lv_iload_n hx hb dX1_firstInLine_38 rfl (lv_at hl 2 rfl) ?_
          refine lv_icmp_lt (tgt := 78) hx hb dX1_firstInLine_39 (by decide) (fun c_24 => ?_) (fun c_24 => ?_)
          · skip
            have i_25 : (-2147483648) ≤ v_23.toInt ∧ v_23.toInt ≤ 2147483646 := iv_lt1 (iv_any v_23) (iv_any b) c_24
            have i_26 : (-2147483647) ≤ b.toInt ∧ b.toInt ≤ 2147483647 := iv_lt2 (iv_any v_23) (iv_any b) c_24
            have k_27 := Int32.lt_iff_toInt_lt.mp c_24
            obtain ⟨v_28, ev_28⟩ : ∃ z : Int32, z = x_2 + 1 := ⟨_, rfl⟩
            refine lv_iinc (v := v_28) (lv' := [(4, .int v_28), (0, .ref (ob 8)), (1, .int kk), (2, .int b), (3, .int x_1)]) hx hb dX1_firstInLine_78 hl (k := 4) rfl (by rw [ev_28]; rfl) (by decide) rfl (fun ls hl => ?_)
            have t_29 : v_28.toInt = x_2.toInt + 1 ∧ 1 ≤ v_28.toInt ∧ v_28.toInt ≤ 40 := iv_addc ev_28 i_11 (by decide) (by decide) (by decide)
            refine lv_goto (tgt := 5) hx hb dX1_firstInLine_81 (by decide) ?_
            have z_54 : 0 ≤ (fv 10).toInt ∧ (fv 10).toInt ≤ 40 := hF_fv 10
            exact ih_5 x_1 v_28 _ _ ls (by omega) i_x_1 (iv_w t_29.2 (by decide) (by decide)) (by have h49 : (mx_S fv ar) 5 (x_2.toInt.toNat) = v_14 := (by show ar 49 _ = _; exact ((show v_14 = ar 49 (x_2.toInt.toNat) from by rw [ev_14]; exact congrArg (ar 49) (show x_2.toInt.toNat = (x_2.toInt.toNat) from by omega))).symm); have h44 : (mx_S fv ar) 0 (x_2.toInt.toNat) = v_23 := (by show ar 44 _ = _; exact ((show v_23 = ar 44 (x_2.toInt.toNat) from by rw [ev_23]; exact congrArg (ar 44) (show x_2.toInt.toNat = (x_2.toInt.toNat) from by omega))).symm); rw [show v_28.toInt.toNat = (x_2.toInt.toNat) + 1 from by omega]; show _ = (if (((mx_S fv ar) 5 (x_2.toInt.toNat)).toInt = (((kk.toInt.toNat) : Nat) : Int) ∧ b.toInt ≤ ((mx_S fv ar) 0 (x_2.toInt.toNat)).toInt) ∧ (mo_fi (mx_D fv ar) (mx_S fv ar) (kk.toInt.toNat) b ((x_2.toInt.toNat)) = -1 ∨ ((mx_D fv ar) 3 (x_2.toInt.toNat)).toInt < ((mx_D fv ar) 3 (mo_fi (mx_D fv ar) (mx_S fv ar) (kk.toInt.toNat) b ((x_2.toInt.toNat))).toNat).toInt) then (((x_2.toInt.toNat) : Nat) : Int) else mo_fi (mx_D fv ar) (mx_S fv ar) (kk.toInt.toNat) b ((x_2.toInt.toNat))); rw [← q_3, h49, h44]; rw [if_neg (by rintro ⟨⟨w1, w2⟩, w3⟩; omega)]) (by omega) hP hS (lv_sub hl [1, 2, 3, 4, 0] rfl)
          · skip
            have k_31 := Int32.le_iff_toInt_le.mp (Int32.not_lt.mp c_24)
            refine lv_iload_n hx hb dX1_firstInLine_42 rfl (lv_at hl 3 rfl) ?_
            refine lv_iconst (v := (-1)) hx hb dX1_firstInLine_43 (by decide) ?_
            refine lv_icmp_eq (tgt := 75) hx hb dX1_firstInLine_44 (by decide) (fun c_32 => ?_) (fun c_32 => ?_)
            · skip
              have i_33 : (-1) ≤ x_1.toInt ∧ x_1.toInt ≤ (-1) := iv_eq1 (⟨by decide, by decide⟩ : (-1 : Int) ≤ ((-1) : Int32).toInt ∧ ((-1) : Int32).toInt ≤ -1) c_32
              refine lv_iload hx hb dX1_firstInLine_75 (lv_at hl 4 rfl) ?_
              refine lv_istore_n (lv' := [(3, .int x_2), (0, .ref (ob 8)), (1, .int kk), (2, .int b), (4, .int x_2)]) hx hb dX1_firstInLine_77 rfl hl (by decide) rfl (fun ls hl => ?_)
              obtain ⟨v_35, ev_35⟩ : ∃ z : Int32, z = x_2 + 1 := ⟨_, rfl⟩
              refine lv_iinc (v := v_35) (lv' := [(4, .int v_35), (3, .int x_2), (0, .ref (ob 8)), (1, .int kk), (2, .int b)]) hx hb dX1_firstInLine_78 hl (k := 4) rfl (by rw [ev_35]; rfl) (by decide) rfl (fun ls hl => ?_)
              have t_36 : v_35.toInt = x_2.toInt + 1 ∧ 1 ≤ v_35.toInt ∧ v_35.toInt ≤ 40 := iv_addc ev_35 i_11 (by decide) (by decide) (by decide)
              refine lv_goto (tgt := 5) hx hb dX1_firstInLine_81 (by decide) ?_
              have z_55 : 0 ≤ (fv 10).toInt ∧ (fv 10).toInt ≤ 40 := hF_fv 10
              exact ih_5 x_2 v_35 _ _ ls (by omega) (iv_w i_11 (by decide) (by decide)) (iv_w t_36.2 (by decide) (by decide)) (by have h49 : (mx_S fv ar) 5 (x_2.toInt.toNat) = v_14 := (by show ar 49 _ = _; exact ((show v_14 = ar 49 (x_2.toInt.toNat) from by rw [ev_14]; exact congrArg (ar 49) (show x_2.toInt.toNat = (x_2.toInt.toNat) from by omega))).symm); have h44 : (mx_S fv ar) 0 (x_2.toInt.toNat) = v_23 := (by show ar 44 _ = _; exact ((show v_23 = ar 44 (x_2.toInt.toNat) from by rw [ev_23]; exact congrArg (ar 44) (show x_2.toInt.toNat = (x_2.toInt.toNat) from by omega))).symm); rw [show v_35.toInt.toNat = (x_2.toInt.toNat) + 1 from by omega]; show _ = (if (((mx_S fv ar) 5 (x_2.toInt.toNat)).toInt = (((kk.toInt.toNat) : Nat) : Int) ∧ b.toInt ≤ ((mx_S fv ar) 0 (x_2.toInt.toNat)).toInt) ∧ (mo_fi (mx_D fv ar) (mx_S fv ar) (kk.toInt.toNat) b ((x_2.toInt.toNat)) = -1 ∨ ((mx_D fv ar) 3 (x_2.toInt.toNat)).toInt < ((mx_D fv ar) 3 (mo_fi (mx_D fv ar) (mx_S fv ar) (kk.toInt.toNat) b ((x_2.toInt.toNat))).toNat).toInt) then (((x_2.toInt.toNat) : Nat) : Int) else mo_fi (mx_D fv ar) (mx_S fv ar) (kk.toInt.toNat) b ((x_2.toInt.toNat))); rw [← q_3, h49, h44]; rw [if_pos ⟨⟨by omega, by omega⟩, Or.inl (by omega)⟩]; omega) (by omega) hP hS (lv_sub hl [2, 3, 4, 1, 0] rfl)
            · skip
              have i_38 : 0 ≤ x_1.toInt ∧ x_1.toInt ≤ 39 := iv_nel i_x_1 (by decide) c_32
              have k_39 : ¬ x_1.toInt = (-1) := fun q => c_32 (Int32.toInt_inj.mp q)
              refine lv_aload_n hx hb dX1_firstInLine_47 rfl (lv_at hl 0 rfl) ?_
              refine gX_X1_9 hx hb htg hown hK hP dX1_firstInLine_48 ?_
              refine gX_X1_129 hx hb htg hown hK hP dX1_firstInLine_51 ?_
              refine gX_X1_259 hx hb htg hown hK hP dX1_firstInLine_54 ?_
              refine lv_iload hx hb dX1_firstInLine_57 (lv_at hl 4 rfl) ?_
              refine lX_10 hx hb hK hP (iv_in i_11 (by decide) (by decide)) dX1_firstInLine_59 (fun v_40 ev_40 => ?_)
              refine lv_aload_n hx hb dX1_firstInLine_60 rfl (lv_at hl 0 rfl) ?_
              refine gX_X1_9 hx hb htg hown hK hP dX1_firstInLine_61 ?_
              refine gX_X1_129 hx hb htg hown hK hP dX1_firstInLine_64 ?_
              refine gX_X1_259 hx hb htg hown hK hP dX1_firstInLine_67 ?_
              refine lv_iload_n hx hb dX1_firstInLine_70 rfl (lv_at hl 3 rfl) ?_
              refine lX_10 hx hb hK hP (iv_in i_38 (by decide) (by decide)) dX1_firstInLine_71 (fun v_41 ev_41 => ?_)
              refine lv_icmp_ge (tgt := 78) hx hb dX1_firstInLine_72 (by decide) (fun c_42 => ?_) (fun c_42 => ?_)
              · skip
                have k_43 := Int32.le_iff_toInt_le.mp c_42
                obtain ⟨v_44, ev_44⟩ : ∃ z : Int32, z = x_2 + 1 := ⟨_, rfl⟩
                refine lv_iinc (v := v_44) (lv' := [(4, .int v_44), (0, .ref (ob 8)), (1, .int kk), (2, .int b), (3, .int x_1)]) hx hb dX1_firstInLine_78 hl (k := 4) rfl (by rw [ev_44]; rfl) (by decide) rfl (fun ls hl => ?_)
                have t_45 : v_44.toInt = x_2.toInt + 1 ∧ 1 ≤ v_44.toInt ∧ v_44.toInt ≤ 40 := iv_addc ev_44 i_11 (by decide) (by decide) (by decide)
                refine lv_goto (tgt := 5) hx hb dX1_firstInLine_81 (by decide) ?_
                have z_56 : 0 ≤ (fv 10).toInt ∧ (fv 10).toInt ≤ 40 := hF_fv 10
                exact ih_5 x_1 v_44 _ _ ls (by omega) (iv_w i_38 (by decide) (by decide)) (iv_w t_45.2 (by decide) (by decide)) (by have h49 : (mx_S fv ar) 5 (x_2.toInt.toNat) = v_14 := (by show ar 49 _ = _; exact ((show v_14 = ar 49 (x_2.toInt.toNat) from by rw [ev_14]; exact congrArg (ar 49) (show x_2.toInt.toNat = (x_2.toInt.toNat) from by omega))).symm); have h44 : (mx_S fv ar) 0 (x_2.toInt.toNat) = v_23 := (by show ar 44 _ = _; exact ((show v_23 = ar 44 (x_2.toInt.toNat) from by rw [ev_23]; exact congrArg (ar 44) (show x_2.toInt.toNat = (x_2.toInt.toNat) from by omega))).symm); have h10 : (mx_D fv ar) 3 (x_2.toInt.toNat) = v_40 := (by show ar 10 _ = _; exact ((show v_40 = ar 10 (x_2.toInt.toNat) from by rw [ev_40]; exact congrArg (ar 10) (show x_2.toInt.toNat = (x_2.toInt.toNat) from by omega))).symm); have g10 : (mx_D fv ar) 3 (x_1.toInt.toNat) = v_41 := (by show ar 10 _ = _; exact ((show v_41 = ar 10 (x_1.toInt.toNat) from by rw [ev_41]; exact congrArg (ar 10) (show x_1.toInt.toNat = (x_1.toInt.toNat) from by omega))).symm); rw [show v_44.toInt.toNat = (x_2.toInt.toNat) + 1 from by omega]; show _ = (if (((mx_S fv ar) 5 (x_2.toInt.toNat)).toInt = (((kk.toInt.toNat) : Nat) : Int) ∧ b.toInt ≤ ((mx_S fv ar) 0 (x_2.toInt.toNat)).toInt) ∧ (mo_fi (mx_D fv ar) (mx_S fv ar) (kk.toInt.toNat) b ((x_2.toInt.toNat)) = -1 ∨ ((mx_D fv ar) 3 (x_2.toInt.toNat)).toInt < ((mx_D fv ar) 3 (mo_fi (mx_D fv ar) (mx_S fv ar) (kk.toInt.toNat) b ((x_2.toInt.toNat))).toNat).toInt) then (((x_2.toInt.toNat) : Nat) : Int) else mo_fi (mx_D fv ar) (mx_S fv ar) (kk.toInt.toNat) b ((x_2.toInt.toNat))); rw [← q_3, h49, h44, h10, show x_1.toInt.toNat = x_1.toInt.toNat from rfl, g10]; rw [if_neg (by rintro ⟨⟨w1, w2⟩, w3⟩; omega)]) (by omega) hP hS (lv_sub hl [1, 2, 3, 4, 0] rfl)
              · skip
                have i_47 : (-2147483648) ≤ v_40.toInt ∧ v_40.toInt ≤ 2147483646 := iv_lt1 (iv_any v_40) (iv_any v_41) (Int32.not_le.mp c_42)
                have i_48 : (-2147483647) ≤ v_41.toInt ∧ v_41.toInt ≤ 2147483647 := iv_lt2 (iv_any v_40) (iv_any v_41) (Int32.not_le.mp c_42)
                have k_49 := Int32.lt_iff_toInt_lt.mp (Int32.not_le.mp c_42)
                refine lv_iload hx hb dX1_firstInLine_75 (lv_at hl 4 rfl) ?_
                refine lv_istore_n (lv' := [(3, .int x_2), (0, .ref (ob 8)), (1, .int kk), (2, .int b), (4, .int x_2)]) hx hb dX1_firstInLine_77 rfl hl (by decide) rfl (fun ls hl => ?_)
                obtain ⟨v_50, ev_50⟩ : ∃ z : Int32, z = x_2 + 1 := ⟨_, rfl⟩
                refine lv_iinc (v := v_50) (lv' := [(4, .int v_50), (3, .int x_2), (0, .ref (ob 8)), (1, .int kk), (2, .int b)]) hx hb dX1_firstInLine_78 hl (k := 4) rfl (by rw [ev_50]; rfl) (by decide) rfl (fun ls hl => ?_)
                have t_51 : v_50.toInt = x_2.toInt + 1 ∧ 1 ≤ v_50.toInt ∧ v_50.toInt ≤ 40 := iv_addc ev_50 i_11 (by decide) (by decide) (by decide)
                refine lv_goto (tgt := 5) hx hb dX1_firstInLine_81 (by decide) ?_
                have z_57 : 0 ≤ (fv 10).toInt ∧ (fv 10).toInt ≤ 40 := hF_fv 10
                exact ih_5 x_2 v_50 _ _ ls (by omega) (iv_w i_11 (by decide) (by decide)) (iv_w t_51.2 (by decide) (by decide)) (by have h49 : (mx_S fv ar) 5 (x_2.toInt.toNat) = v_14 := (by show ar 49 _ = _; exact ((show v_14 = ar 49 (x_2.toInt.toNat) from by rw [ev_14]; exact congrArg (ar 49) (show x_2.toInt.toNat = (x_2.toInt.toNat) from by omega))).symm); have h44 : (mx_S fv ar) 0 (x_2.toInt.toNat) = v_23 := (by show ar 44 _ = _; exact ((show v_23 = ar 44 (x_2.toInt.toNat) from by rw [ev_23]; exact congrArg (ar 44) (show x_2.toInt.toNat = (x_2.toInt.toNat) from by omega))).symm); have h10 : (mx_D fv ar) 3 (x_2.toInt.toNat) = v_40 := (by show ar 10 _ = _; exact ((show v_40 = ar 10 (x_2.toInt.toNat) from by rw [ev_40]; exact congrArg (ar 10) (show x_2.toInt.toNat = (x_2.toInt.toNat) from by omega))).symm); have g10 : (mx_D fv ar) 3 (x_1.toInt.toNat) = v_41 := (by show ar 10 _ = _; exact ((show v_41 = ar 10 (x_1.toInt.toNat) from by rw [ev_41]; exact congrArg (ar 10) (show x_1.toInt.toNat = (x_1.toInt.toNat) from by omega))).symm); rw [show v_50.toInt.toNat = (x_2.toInt.toNat) + 1 from by omega]; show _ = (if (((mx_S fv ar) 5 (x_2.toInt.toNat)).toInt = (((kk.toInt.toNat) : Nat) : Int) ∧ b.toInt ≤ ((mx_S fv ar) 0 (x_2.toInt.toNat)).toInt) ∧ (mo_fi (mx_D fv ar) (mx_S fv ar) (kk.toInt.toNat) b ((x_2.toInt.toNat)) = -1 ∨ ((mx_D fv ar) 3 (x_2.toInt.toNat)).toInt < ((mx_D fv ar) 3 (mo_fi (mx_D fv ar) (mx_S fv ar) (kk.toInt.toNat) b ((x_2.toInt.toNat))).toNat).toInt) then (((x_2.toInt.toNat) : Nat) : Int) else mo_fi (mx_D fv ar) (mx_S fv ar) (kk.toInt.toNat) b ((x_2.toInt.toNat))); rw [← q_3, h49, h44, h10, show x_1.toInt.toNat = x_1.toInt.toNat from rfl, g10]; rw [if_pos ⟨⟨by omega, by omega⟩, Or.inr (by omega)⟩]; omega) (by omega) hP hS (lv_sub hl [2, 3, 4, 1, 0] rfl)
  · skip
    have z_58 : ((-1) : Int32).toInt = (-1) := by decide
    have z_59 : (0 : Int32).toInt = 0 := by decide
    have z_60 : 0 ≤ (fv 10).toInt ∧ (fv 10).toInt ≤ 40 := hF_fv 10
    exact hj_7 41 (-1) 0 _ _ ls (by first | decide | omega) (iv_w (⟨by decide, by decide⟩ : (-1 : Int) ≤ ((-1) : Int32).toInt ∧ ((-1) : Int32).toInt ≤ -1) (by decide) (by decide)) (iv_w (⟨by decide, by decide⟩ : (0 : Int) ≤ (0 : Int32).toInt ∧ (0 : Int32).toInt ≤ 0) (by decide) (by decide)) (by rw [show (0 : Int32).toInt.toNat = 0 from by decide]; show ((-1) : Int32).toInt = -1; decide) (by omega) hP hS (lv_sub hl [2, 3, 4, 1, 0] rfl)
set_option maxHeartbeats 4000000 in
set_option maxRecDepth 100000 in
theorem x_earnE (l : Launch) (dC : Nat → ClassId) (dI : Nat → Nat → Nat) (sz : Nat) (ob ad : Nat → Nat) (cA : Nat → ClassId) (hd : dX ob ad) (fv : Nat → Int32) (wd : xT) (ar : Nat → Nat → Int32) (hF_fv : rX fv) (hA_ar : rB ar) (ww : Int32) (b : Int32) (h_ww : 0 ≤ ww.toInt ∧ ww.toInt ≤ 19) : Met l yX1_earn (.code yX1_earn cX1_earn 3 none :: lw_good) ({ frames := 2, cells := 0, slots := 0, locals := 40 }) (va_Pc [.ref (ob 8), .int ww, .int b] (prX dC dI ob ad cA fv wd ar sz)) (va_Qv (fun (u : xS) => rX u.1 ∧ rB u.2.2 ∧ fM [23] fv u.1 ∧ fA [51] ar u.2.2 ∧ u.2.1.2 = wd.2 ∧ (mx_S u.1 u.2.2 = mo_ea (mx_D fv ar) (mx_S fv ar) (ww.toInt.toNat) b) ∧ True) (enX dC dI ob ad cA) (aX ob ad sz)) 0 0 (aX ob ad sz) := by
  refine Met.ofW (cc := cX1_earn) (maxL := 3) (ret := none) (by decide) rfl ?_
  intro p e s m args below meth c s₁ B hml hv
  obtain ⟨rfl, hsz, hP, hK⟩ := hv
  have hx := B.exec
  have hb := B.bytes
  have hr := B.returns
  have hts := atoms_spec (ws := (.code yX1_earn cX1_earn 3 none :: lw_good)) B.pre
  have htg : ∀ w ∈ lw_good, w.before _ s = true := fun w hw => hts w (List.mem_cons_of_mem _ hw)
  have hown : s.vm.findClass RX1 = some m.cls := findClass_of_methodNamed B.named
  have hlocks := B.notSynchronized
  subst hsz
  have hS : va_S (aX ob ad s.heap.size) s.heap s.heap [] := va_S.rf
  have hl := lv_entry ([.ref (ob 8), .int ww, .int b]) (n := 3) (Nat.le_of_ble_eq_true rfl)
  rw [lg_entry_eq]
  generalize (lg_sl ([.ref (ob 8), .int ww, .int b]) ++ List.replicate (3 - (lg_sl ([.ref (ob 8), .int ww, .int b])).length) Slot.unset).toArray = ls at hl ⊢
  have hl : lv_has ls 3 [(0, .ref (ob 8)), (1, .int ww), (2, .int b)] := hl
  refine lv_aload_n hx hb dX1_earn_0 rfl (lv_at hl 0 rfl) ?_
  refine gX_X1_9 hx hb htg hown hK hP dX1_earn_1 ?_
  refine gX_X1_148 hx hb htg hown hK hP dX1_earn_4 ?_
  refine gX_X1_262 hx hb htg hown hK hP dX1_earn_7 ?_
  refine lv_iload_n hx hb dX1_earn_10 rfl (lv_at hl 1 rfl) ?_
  refine lX_20 hx hb hK hP (iv_in h_ww (by decide) (by decide)) dX1_earn_11 (fun v_1 ev_1 => ?_)
  refine lv_iconst (v := 2) hx hb dX1_earn_12 (by decide) ?_
  refine lv_icmp_ne (tgt := 39) hx hb dX1_earn_13 (by decide) (fun c_2 => ?_) (fun c_2 => ?_)
  · skip
    have k_3 : ¬ v_1.toInt = 2 := fun q => c_2 (Int32.toInt_inj.mp q)
    refine lv_aload_n hx hb dX1_earn_39 rfl (lv_at hl 0 rfl) ?_
    refine lv_aload_n hx hb dX1_earn_40 rfl (lv_at hl 0 rfl) ?_
    refine gX_X1_93 hx hb htg hown hK hP dX1_earn_41 ?_
    refine lv_iload_n hx hb dX1_earn_44 rfl (lv_at hl 2 rfl) ?_
    refine lv_iadd hx hb dX1_earn_45 ?_
    refine lv_topi (fun v_4 ev_4 => ?_)
    refine lv_ldcw hx hb hown (htg (.constant RX1 265 1000000) kw_5_187) dX1_earn_46 ?_
    refine va_mmin hx hb (hml.trans hl.1.symm) hown (htg (.methodLink RX1 266 Lib.Math.min.name) kw_5_188) (htg (.static Lib.Math.min.name) kw_3_151) (htg (.initialized RJ9) kw_1_16) (htg (.code Lib.Math.min.name Lib.Math.min.code 2 (some .int)) kw_3_152) (Nat.le_of_ble_eq_true rfl) (Nat.le_of_ble_eq_true rfl) (Nat.le_of_ble_eq_true rfl) (Nat.le_of_ble_eq_true rfl) dX1_earn_49 ?_
    refine lv_topi (fun v_5 ev_5 => ?_)
    have i_6 : (-2147483648) ≤ v_5.toInt ∧ v_5.toInt ≤ 1000000 := ix_min ev_5 (iv_any v_4) (⟨by decide, by decide⟩ : (1000000 : Int) ≤ (1000000 : Int32).toInt ∧ (1000000 : Int32).toInt ≤ 1000000) (by decide) (by decide)
    refine pX_X1_93 hx hb htg hown hK hP hS hd dX1_earn_52 (fun H locs fv_7 efv_7 hP hS => ?_)
    have hF_fv_7 : rX fv_7 := rX_put hF_fv efv_7 (iv_any _)
    exact W.vret hx hb hr (fun t ht hW => ⟨⟨(fv_7, wd, ar), rfl, ⟨hF_fv_7, hA_ar, (fM_put (fM_rf [23] _) efv_7 (by decide)), (fA_rf [51] _), rfl, (show mx_S fv_7 ar = mo_ea (mx_D fv ar) (mx_S fv ar) (ww.toInt.toNat) b from by have hk9 : (mx_D fv ar) 7 (ww.toInt.toNat) = v_1 := (by show ar 20 _ = _; exact ((show v_1 = ar 20 (ww.toInt.toNat) from by rw [ev_1]; exact congrArg (ar 20) (show ww.toInt.toNat = (ww.toInt.toNat) from by omega))).symm); unfold mo_ea; rw [hk9]; rw [if_neg (by omega), show mo_cut ((mx_S fv ar) 13 0 + b) = v_5 from by show mo_cut (fv 23 + b) = _; rw [← ev_4]; exact (mx_cut ev_5).symm]; exact mx_S_fund efv_7), trivial⟩, ⟨by rw [ht]; exact hP, va_K.moved hW.alike hK⟩⟩, hS.F ht⟩) hS.2.2 dX1_earn_55
  · skip
    have i_8 : 2 ≤ v_1.toInt ∧ v_1.toInt ≤ 2 := iv_eq1 (⟨by decide, by decide⟩ : (2 : Int) ≤ (2 : Int32).toInt ∧ (2 : Int32).toInt ≤ 2) c_2
    refine lv_aload_n hx hb dX1_earn_16 rfl (lv_at hl 0 rfl) ?_
    refine gX_X1_59 hx hb htg hown hK hP dX1_earn_17 ?_
    refine lv_iload_n hx hb dX1_earn_20 rfl (lv_at hl 1 rfl) ?_
    refine lv_aload_n hx hb dX1_earn_21 rfl (lv_at hl 0 rfl) ?_
    refine gX_X1_59 hx hb htg hown hK hP dX1_earn_22 ?_
    refine lv_iload_n hx hb dX1_earn_25 rfl (lv_at hl 1 rfl) ?_
    refine lX_51 hx hb hK hP (iv_in h_ww (by decide) (by decide)) dX1_earn_26 (fun v_10 ev_10 => ?_)
    refine lv_iload_n hx hb dX1_earn_27 rfl (lv_at hl 2 rfl) ?_
    refine lv_iadd hx hb dX1_earn_28 ?_
    refine lv_topi (fun v_11 ev_11 => ?_)
    refine lv_ldcw hx hb hown (htg (.constant RX1 265 1000000) kw_5_187) dX1_earn_29 ?_
    refine va_mmin hx hb (hml.trans hl.1.symm) hown (htg (.methodLink RX1 266 Lib.Math.min.name) kw_5_188) (htg (.static Lib.Math.min.name) kw_3_151) (htg (.initialized RJ9) kw_1_16) (htg (.code Lib.Math.min.name Lib.Math.min.code 2 (some .int)) kw_3_152) (Nat.le_of_ble_eq_true rfl) (Nat.le_of_ble_eq_true rfl) (Nat.le_of_ble_eq_true rfl) (Nat.le_of_ble_eq_true rfl) dX1_earn_32 ?_
    refine lv_topi (fun v_12 ev_12 => ?_)
    have i_13 : (-2147483648) ≤ v_12.toInt ∧ v_12.toInt ≤ 1000000 := ix_min ev_12 (iv_any v_11) (⟨by decide, by decide⟩ : (1000000 : Int) ≤ (1000000 : Int32).toInt ∧ (1000000 : Int32).toInt ≤ 1000000) (by decide) (by decide)
    refine sX_51 hx hb hK hP hS hd (iv_in h_ww (by decide) (by decide)) dX1_earn_35 (fun H locs ar_14 ear_14 hP hS => ?_)
    have hA_ar_14 : rB ar_14 := rB_put hA_ar ear_14 (iv_any _)
    refine lv_goto (tgt := 55) hx hb dX1_earn_36 (by decide) ?_
    exact W.vret hx hb hr (fun t ht hW => ⟨⟨(fv, wd, ar_14), rfl, ⟨hF_fv, hA_ar_14, (fM_rf [23] _), (fA_put (fA_rf [51] _) ear_14 (by decide)), rfl, (show mx_S fv ar_14 = mo_ea (mx_D fv ar) (mx_S fv ar) (ww.toInt.toNat) b from by have hk9 : (mx_D fv ar) 7 (ww.toInt.toNat) = v_1 := (by show ar 20 _ = _; exact ((show v_1 = ar 20 (ww.toInt.toNat) from by rw [ev_1]; exact congrArg (ar 20) (show ww.toInt.toNat = (ww.toInt.toNat) from by omega))).symm); unfold mo_ea; rw [hk9]; rw [if_pos (by omega), show mo_cut ((mx_S fv ar) 7 (ww.toInt.toNat) + b) = v_12 from by show mo_cut (ar 51 (ww.toInt.toNat) + b) = _; rw [show ar 51 (ww.toInt.toNat) = v_10 from ((show v_10 = ar 51 (ww.toInt.toNat) from by rw [ev_10]; exact congrArg (ar 51) (show ww.toInt.toNat = (ww.toInt.toNat) from by omega))).symm, ← ev_11]; exact (mx_cut ev_12).symm]; exact mx_S_put (r := 7) (by decide) ear_14), trivial⟩, ⟨by rw [ht]; exact hP, va_K.moved hW.alike hK⟩⟩, hS.F ht⟩) hS.2.2 dX1_earn_55
set_option maxHeartbeats 4000000 in
set_option maxRecDepth 100000 in
theorem x_paysE (l : Launch) (dC : Nat → ClassId) (dI : Nat → Nat → Nat) (sz : Nat) (ob ad : Nat → Nat) (cA : Nat → ClassId) (hd : dX ob ad) (fv : Nat → Int32) (wd : xT) (ar : Nat → Nat → Int32) (hF_fv : rX fv) (hA_ar : rB ar) (ww : Int32) (b : Int32) (h_ww : 0 ≤ ww.toInt ∧ ww.toInt ≤ 19) : Met l yX1_pays (.code yX1_pays cX1_pays 4 (some .boolean) :: lw_good) ({ frames := 2, cells := 0, slots := 0, locals := 40 }) (va_Pc [.ref (ob 8), .int ww, .int b] (prX dC dI ob ad cA fv wd ar sz)) (va_Qi (fun (r : Int32) (u : xS) => rX u.1 ∧ rB u.2.2 ∧ fM [23] fv u.1 ∧ fA [51] ar u.2.2 ∧ u.2.1.2 = wd.2 ∧ (0 ≤ r.toInt ∧ r.toInt ≤ 1) ∧ ((r = 0 ∧ ¬ (b.toInt ≤ (mo_pay (mx_D fv ar) (mx_S fv ar) (ww.toInt.toNat)).toInt) ∧ mx_S u.1 u.2.2 = (mx_S fv ar)) ∨ (r = 1 ∧ b.toInt ≤ (mo_pay (mx_D fv ar) (mx_S fv ar) (ww.toInt.toNat)).toInt ∧ mx_S u.1 u.2.2 = mo_xp (mx_D fv ar) (ww.toInt.toNat) b (mx_S fv ar))) ∧ True) (enX dC dI ob ad cA) (aX ob ad sz)) 0 0 (aX ob ad sz) := by
  refine Met.ofW (cc := cX1_pays) (maxL := 4) (ret := (some .boolean)) (by decide) rfl ?_
  intro p e s m args below meth c s₁ B hml hv
  obtain ⟨rfl, hsz, hP, hK⟩ := hv
  have hx := B.exec
  have hb := B.bytes
  have hr := B.returns
  have hts := atoms_spec (ws := (.code yX1_pays cX1_pays 4 (some .boolean) :: lw_good)) B.pre
  have htg : ∀ w ∈ lw_good, w.before _ s = true := fun w hw => hts w (List.mem_cons_of_mem _ hw)
  have hown : s.vm.findClass RX1 = some m.cls := findClass_of_methodNamed B.named
  have hlocks := B.notSynchronized
  subst hsz
  have hS : va_S (aX ob ad s.heap.size) s.heap s.heap [] := va_S.rf
  have hl := lv_entry ([.ref (ob 8), .int ww, .int b]) (n := 4) (Nat.le_of_ble_eq_true rfl)
  rw [lg_entry_eq]
  generalize (lg_sl ([.ref (ob 8), .int ww, .int b]) ++ List.replicate (4 - (lg_sl ([.ref (ob 8), .int ww, .int b])).length) Slot.unset).toArray = ls at hl ⊢
  have hl : lv_has ls 4 [(0, .ref (ob 8)), (1, .int ww), (2, .int b)] := hl
  refine lv_aload_n hx hb dX1_pays_0 rfl (lv_at hl 0 rfl) ?_
  refine gX_X1_9 hx hb htg hown hK hP dX1_pays_1 ?_
  refine gX_X1_148 hx hb htg hown hK hP dX1_pays_4 ?_
  refine gX_X1_262 hx hb htg hown hK hP dX1_pays_7 ?_
  refine lv_iload_n hx hb dX1_pays_10 rfl (lv_at hl 1 rfl) ?_
  refine lX_20 hx hb hK hP (iv_in h_ww (by decide) (by decide)) dX1_pays_11 (fun v_1 ev_1 => ?_)
  refine lv_iconst (v := 2) hx hb dX1_pays_12 (by decide) ?_
  refine lv_icmp_ne (tgt := 20) hx hb dX1_pays_13 (by decide) (fun c_2 => ?_) (fun c_2 => ?_)
  · skip
    have k_3 : ¬ v_1.toInt = 2 := fun q => c_2 (Int32.toInt_inj.mp q)
    refine lv_iconst (v := 0) hx hb dX1_pays_20 (by decide) ?_
    refine lv_istore_n (lv' := [(3, .int 0), (0, .ref (ob 8)), (1, .int ww), (2, .int b)]) hx hb dX1_pays_21 rfl hl (by decide) rfl (fun ls hl => ?_)
    refine lv_iload_n hx hb dX1_pays_22 rfl (lv_at hl 3 rfl) ?_
    refine lv_iload_n hx hb dX1_pays_23 rfl (lv_at hl 0 rfl) ?_
    refine lv_if_eq (tgt := 36) hx hb dX1_pays_24 (by decide) (fun c_4 => ?_) (fun c_4 => ?_)
    · skip
      refine lv_aload_n hx hb dX1_pays_36 rfl (lv_at hl 1 rfl) ?_
      refine gX_X1_93 hx hb htg hown hK hP dX1_pays_37 ?_
      refine lv_icmp_le (tgt := 45) hx hb dX1_pays_40 (by decide) (fun c_5 => ?_) (fun c_5 => ?_)
      · skip
        have k_6 := Int32.le_iff_toInt_le.mp c_5
        refine lv_iload_n hx hb dX1_pays_45 rfl (lv_at hl 0 rfl) ?_
        refine lv_if_eq (tgt := 62) hx hb dX1_pays_46 (by decide) (fun c_7 => ?_) (fun c_7 => ?_)
        · skip
          refine lv_aload_n hx hb dX1_pays_62 rfl (lv_at hl 1 rfl) ?_
          refine lv_dup hx hb dX1_pays_63 rfl ?_
          refine gX_X1_93 hx hb htg hown hK hP dX1_pays_64 ?_
          refine lv_iload_n hx hb dX1_pays_67 rfl (lv_at hl 3 rfl) ?_
          refine lv_isub hx hb dX1_pays_68 ?_
          refine lv_topi (fun v_8 ev_8 => ?_)
          refine pX_X1_93 hx hb htg hown hK hP hS hd dX1_pays_69 (fun H locs fv_9 efv_9 hP hS => ?_)
          have hF_fv_9 : rX fv_9 := rX_put hF_fv efv_9 (iv_any v_8)
          refine lv_iconst (v := 1) hx hb dX1_pays_72 (by decide) ?_
          have z_10 : (1 : Int32).toInt = 1 := by decide
          exact W.zret (v := 1) hx hb hr (by decide) (fun t ht hW => ⟨⟨1, (fv_9, wd, ar), rfl, ⟨hF_fv_9, hA_ar, (fM_put (fM_rf [23] _) efv_9 (by decide)), (fA_rf [51] _), rfl, (iv_w (⟨by decide, by decide⟩ : (1 : Int) ≤ (1 : Int32).toInt ∧ (1 : Int32).toInt ≤ 1) (by decide) (by decide)), (show ((1 : Int32) = 0 ∧ ¬ (b.toInt ≤ (mo_pay (mx_D fv ar) (mx_S fv ar) (ww.toInt.toNat)).toInt) ∧ mx_S fv_9 ar = (mx_S fv ar)) ∨ ((1 : Int32) = 1 ∧ b.toInt ≤ (mo_pay (mx_D fv ar) (mx_S fv ar) (ww.toInt.toNat)).toInt ∧ mx_S fv_9 ar = mo_xp (mx_D fv ar) (ww.toInt.toNat) b (mx_S fv ar)) from by have hk9 : (mx_D fv ar) 7 (ww.toInt.toNat) = v_1 := (by show ar 20 _ = _; exact ((show v_1 = ar 20 (ww.toInt.toNat) from by rw [ev_1]; exact congrArg (ar 20) (show ww.toInt.toNat = (ww.toInt.toNat) from by omega))).symm); have hp9 : mo_pay (mx_D fv ar) (mx_S fv ar) (ww.toInt.toNat) = fv 23 := (by unfold mo_pay; rw [hk9, if_neg (by omega)]; rfl); exact Or.inr ⟨rfl, by rw [hp9]; omega, by unfold mo_xp; rw [hk9, if_neg (by omega), show (mx_S fv ar) 13 0 - b = v_8 from by show fv 23 - b = _; exact ev_8.symm]; exact mx_S_fund efv_9⟩), trivial⟩, ⟨by rw [ht]; exact hP, va_K.moved hW.alike hK⟩⟩, hS.F ht⟩) hS.2.2 dX1_pays_73
        · skip
          exact absurd c_7 (by decide)
      · skip
        have i_11 : (-2147483648) ≤ (fv 23).toInt ∧ (fv 23).toInt ≤ 2147483646 := iv_lt1 (iv_any (fv 23)) (iv_any b) (Int32.not_le.mp c_5)
        have i_12 : (-2147483647) ≤ b.toInt ∧ b.toInt ≤ 2147483647 := iv_lt2 (iv_any (fv 23)) (iv_any b) (Int32.not_le.mp c_5)
        have k_13 := Int32.lt_iff_toInt_lt.mp (Int32.not_le.mp c_5)
        refine lv_iconst (v := 0) hx hb dX1_pays_43 (by decide) ?_
        have z_14 : (0 : Int32).toInt = 0 := by decide
        exact W.zret (v := 0) hx hb hr (by decide) (fun t ht hW => ⟨⟨0, (fv, wd, ar), rfl, ⟨hF_fv, hA_ar, (fM_rf [23] _), (fA_rf [51] _), rfl, (iv_w (⟨by decide, by decide⟩ : (0 : Int) ≤ (0 : Int32).toInt ∧ (0 : Int32).toInt ≤ 0) (by decide) (by decide)), (show ((0 : Int32) = 0 ∧ ¬ (b.toInt ≤ (mo_pay (mx_D fv ar) (mx_S fv ar) (ww.toInt.toNat)).toInt) ∧ mx_S fv ar = (mx_S fv ar)) ∨ ((0 : Int32) = 1 ∧ b.toInt ≤ (mo_pay (mx_D fv ar) (mx_S fv ar) (ww.toInt.toNat)).toInt ∧ mx_S fv ar = mo_xp (mx_D fv ar) (ww.toInt.toNat) b (mx_S fv ar)) from by have hk9 : (mx_D fv ar) 7 (ww.toInt.toNat) = v_1 := (by show ar 20 _ = _; exact ((show v_1 = ar 20 (ww.toInt.toNat) from by rw [ev_1]; exact congrArg (ar 20) (show ww.toInt.toNat = (ww.toInt.toNat) from by omega))).symm); have hp9 : mo_pay (mx_D fv ar) (mx_S fv ar) (ww.toInt.toNat) = fv 23 := (by unfold mo_pay; rw [hk9, if_neg (by omega)]; rfl); exact Or.inl ⟨rfl, by rw [hp9]; omega, rfl⟩), trivial⟩, ⟨by rw [ht]; exact hP, va_K.moved hW.alike hK⟩⟩, hS.F ht⟩) hS.2.2 dX1_pays_44
    · skip
      exact absurd c_4 (by decide)
  · skip
    have i_15 : 2 ≤ v_1.toInt ∧ v_1.toInt ≤ 2 := iv_eq1 (⟨by decide, by decide⟩ : (2 : Int) ≤ (2 : Int32).toInt ∧ (2 : Int32).toInt ≤ 2) c_2
    refine lv_iconst (v := 1) hx hb dX1_pays_16 (by decide) ?_
    refine lv_goto (tgt := 21) hx hb dX1_pays_17 (by decide) ?_
    refine lv_istore_n (lv' := [(3, .int 1), (0, .ref (ob 8)), (1, .int ww), (2, .int b)]) hx hb dX1_pays_21 rfl hl (by decide) rfl (fun ls hl => ?_)
    refine lv_iload_n hx hb dX1_pays_22 rfl (lv_at hl 3 rfl) ?_
    refine lv_iload_n hx hb dX1_pays_23 rfl (lv_at hl 0 rfl) ?_
    refine lv_if_eq (tgt := 36) hx hb dX1_pays_24 (by decide) (fun c_17 => ?_) (fun c_17 => ?_)
    · skip
      exact absurd c_17 (by decide)
    · skip
      refine lv_aload_n hx hb dX1_pays_27 rfl (lv_at hl 1 rfl) ?_
      refine gX_X1_59 hx hb htg hown hK hP dX1_pays_28 ?_
      refine lv_iload_n hx hb dX1_pays_31 rfl (lv_at hl 2 rfl) ?_
      refine lX_51 hx hb hK hP (iv_in h_ww (by decide) (by decide)) dX1_pays_32 (fun v_18 ev_18 => ?_)
      refine lv_goto (tgt := 40) hx hb dX1_pays_33 (by decide) ?_
      refine lv_icmp_le (tgt := 45) hx hb dX1_pays_40 (by decide) (fun c_19 => ?_) (fun c_19 => ?_)
      · skip
        have k_20 := Int32.le_iff_toInt_le.mp c_19
        refine lv_iload_n hx hb dX1_pays_45 rfl (lv_at hl 0 rfl) ?_
        refine lv_if_eq (tgt := 62) hx hb dX1_pays_46 (by decide) (fun c_21 => ?_) (fun c_21 => ?_)
        · skip
          exact absurd c_21 (by decide)
        · skip
          refine lv_aload_n hx hb dX1_pays_49 rfl (lv_at hl 1 rfl) ?_
          refine gX_X1_59 hx hb htg hown hK hP dX1_pays_50 ?_
          refine lv_iload_n hx hb dX1_pays_53 rfl (lv_at hl 2 rfl) ?_
          refine lv_dup2_11 hx hb dX1_pays_54 rfl rfl ?_
          refine lX_51 hx hb hK hP (iv_in h_ww (by decide) (by decide)) dX1_pays_55 (fun v_22 ev_22 => ?_)
          obtain rfl : v_18 = v_22 := ev_18.trans ev_22.symm
          refine lv_iload_n hx hb dX1_pays_56 rfl (lv_at hl 3 rfl) ?_
          refine lv_isub hx hb dX1_pays_57 ?_
          refine lv_topi (fun v_23 ev_23 => ?_)
          refine sX_51 hx hb hK hP hS hd (iv_in h_ww (by decide) (by decide)) dX1_pays_58 (fun H locs ar_24 ear_24 hP hS => ?_)
          have hA_ar_24 : rB ar_24 := rB_put hA_ar ear_24 (iv_any _)
          refine lv_goto (tgt := 72) hx hb dX1_pays_59 (by decide) ?_
          refine lv_iconst (v := 1) hx hb dX1_pays_72 (by decide) ?_
          have z_25 : (1 : Int32).toInt = 1 := by decide
          exact W.zret (v := 1) hx hb hr (by decide) (fun t ht hW => ⟨⟨1, (fv, wd, ar_24), rfl, ⟨hF_fv, hA_ar_24, (fM_rf [23] _), (fA_put (fA_rf [51] _) ear_24 (by decide)), rfl, (iv_w (⟨by decide, by decide⟩ : (1 : Int) ≤ (1 : Int32).toInt ∧ (1 : Int32).toInt ≤ 1) (by decide) (by decide)), (show ((1 : Int32) = 0 ∧ ¬ (b.toInt ≤ (mo_pay (mx_D fv ar) (mx_S fv ar) (ww.toInt.toNat)).toInt) ∧ mx_S fv ar_24 = (mx_S fv ar)) ∨ ((1 : Int32) = 1 ∧ b.toInt ≤ (mo_pay (mx_D fv ar) (mx_S fv ar) (ww.toInt.toNat)).toInt ∧ mx_S fv ar_24 = mo_xp (mx_D fv ar) (ww.toInt.toNat) b (mx_S fv ar)) from by have hk9 : (mx_D fv ar) 7 (ww.toInt.toNat) = v_1 := (by show ar 20 _ = _; exact ((show v_1 = ar 20 (ww.toInt.toNat) from by rw [ev_1]; exact congrArg (ar 20) (show ww.toInt.toNat = (ww.toInt.toNat) from by omega))).symm); have hp9 : mo_pay (mx_D fv ar) (mx_S fv ar) (ww.toInt.toNat) = v_18 := (by unfold mo_pay; rw [hk9, if_pos (by omega)]; show ar 51 (ww.toInt.toNat) = _; exact ((show v_18 = ar 51 (ww.toInt.toNat) from by rw [ev_18]; exact congrArg (ar 51) (show ww.toInt.toNat = (ww.toInt.toNat) from by omega))).symm); exact Or.inr ⟨rfl, by rw [hp9]; omega, by unfold mo_xp; rw [hk9, if_pos (by omega), show (mx_S fv ar) 7 (ww.toInt.toNat) - b = v_23 from by show ar 51 (ww.toInt.toNat) - b = _; rw [show ar 51 (ww.toInt.toNat) = v_18 from ((show v_18 = ar 51 (ww.toInt.toNat) from by rw [ev_18]; exact congrArg (ar 51) (show ww.toInt.toNat = (ww.toInt.toNat) from by omega))).symm]; exact ev_23.symm]; exact mx_S_put (r := 7) (by decide) ear_24⟩), trivial⟩, ⟨by rw [ht]; exact hP, va_K.moved hW.alike hK⟩⟩, hS.F ht⟩) hS.2.2 dX1_pays_73
      · skip
        have i_26 : (-2147483648) ≤ v_18.toInt ∧ v_18.toInt ≤ 2147483646 := iv_lt1 (iv_any v_18) (iv_any b) (Int32.not_le.mp c_19)
        have i_27 : (-2147483647) ≤ b.toInt ∧ b.toInt ≤ 2147483647 := iv_lt2 (iv_any v_18) (iv_any b) (Int32.not_le.mp c_19)
        have k_28 := Int32.lt_iff_toInt_lt.mp (Int32.not_le.mp c_19)
        refine lv_iconst (v := 0) hx hb dX1_pays_43 (by decide) ?_
        have z_29 : (0 : Int32).toInt = 0 := by decide
        exact W.zret (v := 0) hx hb hr (by decide) (fun t ht hW => ⟨⟨0, (fv, wd, ar), rfl, ⟨hF_fv, hA_ar, (fM_rf [23] _), (fA_rf [51] _), rfl, (iv_w (⟨by decide, by decide⟩ : (0 : Int) ≤ (0 : Int32).toInt ∧ (0 : Int32).toInt ≤ 0) (by decide) (by decide)), (show ((0 : Int32) = 0 ∧ ¬ (b.toInt ≤ (mo_pay (mx_D fv ar) (mx_S fv ar) (ww.toInt.toNat)).toInt) ∧ mx_S fv ar = (mx_S fv ar)) ∨ ((0 : Int32) = 1 ∧ b.toInt ≤ (mo_pay (mx_D fv ar) (mx_S fv ar) (ww.toInt.toNat)).toInt ∧ mx_S fv ar = mo_xp (mx_D fv ar) (ww.toInt.toNat) b (mx_S fv ar)) from by have hk9 : (mx_D fv ar) 7 (ww.toInt.toNat) = v_1 := (by show ar 20 _ = _; exact ((show v_1 = ar 20 (ww.toInt.toNat) from by rw [ev_1]; exact congrArg (ar 20) (show ww.toInt.toNat = (ww.toInt.toNat) from by omega))).symm); have hp9 : mo_pay (mx_D fv ar) (mx_S fv ar) (ww.toInt.toNat) = v_18 := (by unfold mo_pay; rw [hk9, if_pos (by omega)]; show ar 51 (ww.toInt.toNat) = _; exact ((show v_18 = ar 51 (ww.toInt.toNat) from by rw [ev_18]; exact congrArg (ar 51) (show ww.toInt.toNat = (ww.toInt.toNat) from by omega))).symm); exact Or.inl ⟨rfl, by rw [hp9]; omega, rfl⟩), trivial⟩, ⟨by rw [ht]; exact hP, va_K.moved hW.alike hK⟩⟩, hS.F ht⟩) hS.2.2 dX1_pays_44

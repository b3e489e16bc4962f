def wt_ru (r : Int32) (g1 g : Nat → Int32) (n x : Int32) : Prop := (r.toInt < 0 ∧ g1 = g) ∨ (0 ≤ r.toInt ∧ g1 = upd g n.toInt.toNat x)
theorem wt_ru_det {r : Int32} {g1 g2 g : Nat → Int32} {n x : Int32} (h1 : wt_ru r g1 g n x) (h2 : wt_ru r g2 g n x) : g1 = g2 := by
  rcases h1 with ⟨a9, b9⟩ | ⟨a9, b9⟩ <;> rcases h2 with ⟨a8, b8⟩ | ⟨a8, b8⟩
  · exact b9.trans b8.symm
  · omega
  · omega
  · exact b9.trans b8.symm
def wt_rz (r : Int32) (g1 g : Nat → Int32) (n x : Int32) : Prop := (r = 0 ∧ g1 = g) ∨ (r = 1 ∧ g1 = upd g n.toInt.toNat x)
theorem wt_rz_det {r : Int32} {g1 g2 g : Nat → Int32} {n x : Int32} (h1 : wt_rz r g1 g n x) (h2 : wt_rz r g2 g n x) : g1 = g2 := by
  rcases h1 with ⟨a9, b9⟩ | ⟨a9, b9⟩ <;> rcases h2 with ⟨a8, b8⟩ | ⟨a8, b8⟩
  · exact b9.trans b8.symm
  · exact absurd (a9.symm.trans a8) (by decide)
  · exact absurd (a8.symm.trans a9) (by decide)
  · exact b9.trans b8.symm
set_option maxHeartbeats 4000000 in
set_option maxRecDepth 100000 in
theorem x_insureR (l : Launch) (dC : Nat → ClassId) (dI : Nat → Nat → Nat) (sz : Nat) (ob ad : Nat → Nat) (cA : Nat → ClassId) (hd : dX ob ad) (fv : Nat → Int32) (wd : xT) (ar : Nat → Nat → Int32) (hF_fv : rX fv) (hA_ar : rB ar) (a : Int32) (b : Int32) : Met l yX11_insure (.code yX11_insure cX11_insure 3 (some .boolean) :: lw_good) ({ frames := 3, cells := 0, slots := 0, locals := 61 }) (va_Pc [.ref (ob 0), .int a, .int b] (prX dC dI ob ad cA fv wd ar sz)) (va_Qi (fun (r : Int32) (u : xS) => rX u.1 ∧ rB u.2.2 ∧ fM [] fv u.1 ∧ fA [23] ar u.2.2 ∧ u.2.1.2 = wd.2 ∧ (0 ≤ r.toInt ∧ r.toInt ≤ 1) ∧ (ps_insure r (fv 11) a b) ∧ (wt_rz r (u.2.2 23) (ar 23) a b) ∧ True) (enX dC dI ob ad cA) (aX ob ad sz)) 0 0 (aX ob ad sz) := by
  refine Met.ofW (cc := cX11_insure) (maxL := 3) (ret := (some .boolean)) (by decide) rfl ?_
  intro p e s m args below meth c s₁ B hml hv
  obtain ⟨rfl, hsz, hP, hK⟩ := hv
  have hx := B.exec
  have hb := B.bytes
  have hr := B.returns
  have hts := atoms_spec (ws := (.code yX11_insure cX11_insure 3 (some .boolean) :: lw_good)) B.pre
  have htg : ∀ w ∈ lw_good, w.before _ s = true := fun w hw => hts w (List.mem_cons_of_mem _ hw)
  have hown : s.vm.findClass RX11 = some m.cls := findClass_of_methodNamed B.named
  have hlocks := B.notSynchronized
  subst hsz
  have hS : va_S (aX ob ad s.heap.size) s.heap s.heap [] := va_S.rf
  have hl := lv_entry ([.ref (ob 0), .int a, .int b]) (n := 3) (Nat.le_of_ble_eq_true rfl)
  rw [lg_entry_eq]
  generalize (lg_sl ([.ref (ob 0), .int a, .int b]) ++ List.replicate (3 - (lg_sl ([.ref (ob 0), .int a, .int b])).length) Slot.unset).toArray = ls at hl ⊢
  have hl : lv_has ls 3 [(0, .ref (ob 0)), (1, .int a), (2, .int b)] := hl
  refine lv_aload_n hx hb dX11_insure_0 rfl (lv_at hl 0 rfl) ?_
  refine gX_X11_16 hx hb htg hown hK hP dX11_insure_1 ?_
  refine gX_X11_101 hx hb htg hown hK hP dX11_insure_4 ?_
  refine lv_iload_n hx hb dX11_insure_7 rfl (lv_at hl 1 rfl) ?_
  have z_1 : 0 ≤ (fv 11).toInt ∧ (fv 11).toInt ≤ 20 := hF_fv 11
  refine va_calli (va_runV (As := [.int a]) (rest := []) ⟨hx, hb, hml, hown, hts⟩ (x_wheels_hasE l dC dI s.heap.size ob ad cA hd fv wd ar hF_fv hA_ar a) (cwV 1 hts (gV kw_3_198 kw_3_199 kw_3_200 kw_1_5 kw_3_201) rfl rfl rfl (by decide +kernel) ⟨Nat.le_of_ble_eq_true rfl, Nat.le_of_ble_eq_true rfl⟩) ⟨fun a U g mk q => ⟨q.1, q.2.1, q.2.2.1, va_K.moved (u := U) (U := U.calling g mk a) (Vm.Alike.refl U.vm) q.2.2.2⟩, va_recv hK hP (ci := 10) (q0 := 4) rfl rfl, fun U hU hW => ⟨rfl, by rw [hU], by rw [hU]; exact hP, va_K.moved hW.alike hK⟩⟩ rfl rfl hl.1 rfl (lv_room (Nat.le_of_ble_eq_true rfl)) dX11_insure_8 ⟨Nat.le_of_ble_eq_true rfl, Nat.le_of_ble_eq_true rfl⟩) hS (fun q _ h9 => aX_up hS q h9) (aX_up hS) (fun r_2 u t H1 locs ht _ hw hB _ hk1 hS => ?_)
  obtain ⟨fv_5, wd_6, ar_7⟩ := u
  obtain ⟨hF_fv_5, hA_ar_7, fr_8, fa_9, wf_10, p_3, p_4, -⟩ := hw
  have wf_10 : wd_6.2 = wd.2 := wf_10
  have hP : va_P (dC, dI) vwCl (wsX ob ad cA fv_5 wd_6 ar_7) H1 := by have h9 := hB.1; rw [ht] at h9; exact h9
  have fr_8 : fM [] fv fv_5 := fr_8
  have fa_9 : fA [] ar ar_7 := fa_9
  generalize H1 = H at hP hS ⊢
  rcases p_4 with ⟨rfl, p_4⟩ | ⟨rfl, p_4⟩
  · skip
    have q_11 : a.toInt < 0 ∨ (fv 11).toInt ≤ a.toInt := p_4
    refine lv_if_eq (tgt := 21) hx hb dX11_insure_11 (by decide) (fun c_12 => ?_) (fun c_12 => ?_)
    · skip
      refine lv_iconst (v := 0) hx hb dX11_insure_21 (by decide) ?_
      have z_13 : (0 : Int32).toInt = 0 := by decide
      exact W.zret (v := 0) hx hb hr (by decide) (fun t ht hW => ⟨⟨0, (fv_5, wd_6, ar_7), rfl, ⟨hF_fv_5, hA_ar_7, (fM_call (fM_rf [] _) fr_8 (by decide)), (fA_call (fA_rf [23] _) fa_9 (by decide)), wf_10, (iv_w (⟨by decide, by decide⟩ : (0 : Int) ≤ (0 : Int32).toInt ∧ (0 : Int32).toInt ≤ 0) (by decide) (by decide)), (show ps_insure (0 : Int32) (fv 11) a b from Or.inl ⟨rfl, by omega⟩), (show wt_rz (0 : Int32) (ar_7 23) (ar 23) a b from Or.inl ⟨rfl, ((fA_call (fA_rf [] _) fa_9 (by decide)) 23 rfl)⟩), trivial⟩, ⟨by rw [ht]; exact hP, va_K.moved hW.alike hK⟩⟩, hS.F ht⟩) hS.2.2 dX11_insure_22
    · skip
      exact absurd c_12 (by decide)
  · skip
    have i_14 : 0 ≤ a.toInt ∧ a.toInt ≤ 2147483647 := ⟨p_4.1, (iv_any a).2⟩
    have i_15 : 0 ≤ a.toInt ∧ a.toInt ≤ 19 := ⟨i_14.1, p_4.2.1⟩
    have q_16 : a.toInt < (fv 11).toInt := p_4.2.2
    refine lv_if_eq (tgt := 21) hx hb dX11_insure_11 (by decide) (fun c_17 => ?_) (fun c_17 => ?_)
    · skip
      exact absurd c_17 (by decide)
    · skip
      refine lv_iload_n hx hb dX11_insure_14 rfl (lv_at hl 2 rfl) ?_
      refine va_calli (va_runS (As := [.int b]) (rest := []) ⟨hx, hb, hml, hown, hts⟩ (x_isDayOrNever l H.size b) (va_cwS 1 hts (gS kw_3_187 kw_3_188 kw_1_1 kw_3_189) rfl rfl rfl (by decide +kernel) ⟨Nat.le_of_ble_eq_true rfl, Nat.le_of_ble_eq_true rfl⟩) ⟨fun a U g mk q => ⟨q.1, q.2⟩, fun U hU hW => ⟨rfl, congrArg Array.size hU⟩⟩ rfl rfl hl.1 rfl (lv_room (Nat.le_of_ble_eq_true rfl)) dX11_insure_15 ⟨Nat.le_of_ble_eq_true rfl, Nat.le_of_ble_eq_true rfl⟩) hS (fun q _ h9 => nX_up hS q h9) (nX_up hS) (fun r_18 u t H1 locs ht _ hw hB _ hk1 hS => ?_)
      obtain ⟨p_19, p_20, -⟩ := hw
      have hP := my_keepM hP hk1
      generalize H1 = H at hP hS ⊢
      rcases p_20 with ⟨rfl, p_20⟩ | ⟨rfl, p_20⟩
      · skip
        refine lv_if_ne (tgt := 23) hx hb dX11_insure_18 (by decide) (fun c_21 => ?_) (fun c_21 => ?_)
        · skip
          exact absurd c_21 (by decide)
        · skip
          refine lv_iconst (v := 0) hx hb dX11_insure_21 (by decide) ?_
          have z_22 : (0 : Int32).toInt = 0 := by decide
          exact W.zret (v := 0) hx hb hr (by decide) (fun t ht hW => ⟨⟨0, (fv_5, wd_6, ar_7), rfl, ⟨hF_fv_5, hA_ar_7, (fM_call (fM_rf [] _) fr_8 (by decide)), (fA_call (fA_rf [23] _) fa_9 (by decide)), wf_10, (iv_w (⟨by decide, by decide⟩ : (0 : Int) ≤ (0 : Int32).toInt ∧ (0 : Int32).toInt ≤ 0) (by decide) (by decide)), (show ps_insure (0 : Int32) (fv 11) a b from Or.inl ⟨rfl, by omega⟩), (show wt_rz (0 : Int32) (ar_7 23) (ar 23) a b from Or.inl ⟨rfl, ((fA_call (fA_rf [] _) fa_9 (by decide)) 23 rfl)⟩), trivial⟩, ⟨by rw [ht]; exact hP, va_K.moved hW.alike hK⟩⟩, hS.F ht⟩) hS.2.2 dX11_insure_22
      · skip
        have i_23 : (-1) ≤ b.toInt ∧ b.toInt ≤ 2147483647 := ⟨p_20.1, (iv_any b).2⟩
        have i_24 : (-1) ≤ b.toInt ∧ b.toInt ≤ 199 := ⟨i_23.1, p_20.2⟩
        refine lv_if_ne (tgt := 23) hx hb dX11_insure_18 (by decide) (fun c_25 => ?_) (fun c_25 => ?_)
        · skip
          refine lv_aload_n hx hb dX11_insure_23 rfl (lv_at hl 0 rfl) ?_
          refine gX_X11_16 hx hb htg hown hK hP dX11_insure_24 ?_
          refine gX_X11_101 hx hb htg hown hK hP dX11_insure_27 ?_
          refine gX_X11_113 hx hb htg hown hK hP dX11_insure_30 ?_
          refine lv_iload_n hx hb dX11_insure_33 rfl (lv_at hl 1 rfl) ?_
          refine lv_iload_n hx hb dX11_insure_34 rfl (lv_at hl 2 rfl) ?_
          refine sX_23 hx hb hK hP hS hd (iv_in i_15 (by decide) (by decide)) dX11_insure_35 (fun H locs ar_26 ear_26 hP hS => ?_)
          have hA_ar_26 : rB ar_26 := rB_put hA_ar_7 ear_26 (iv_any _)
          refine lv_iconst (v := 1) hx hb dX11_insure_36 (by decide) ?_
          have z_27 : (1 : Int32).toInt = 1 := by decide
          exact W.zret (v := 1) hx hb hr (by decide) (fun t ht hW => ⟨⟨1, (fv_5, wd_6, ar_26), rfl, ⟨hF_fv_5, hA_ar_26, (fM_call (fM_rf [] _) fr_8 (by decide)), (fA_put (fA_call (fA_rf [23] _) fa_9 (by decide)) ear_26 (by decide)), wf_10, (iv_w (⟨by decide, by decide⟩ : (1 : Int) ≤ (1 : Int32).toInt ∧ (1 : Int32).toInt ≤ 1) (by decide) (by decide)), (show ps_insure (1 : Int32) (fv 11) a b from Or.inr ⟨rfl, by omega⟩), (show wt_rz (1 : Int32) (ar_26 23) (ar 23) a b from Or.inr ⟨rfl, by rw [ear_26]; show upd (ar_7 23) (Int32.toNatClampNeg a) b = _; rw [show ar_7 23 = ar 23 from ((fA_call (fA_rf [] _) fa_9 (by decide)) 23 rfl)]; exact congrArg (fun z9 => upd (ar 23) z9 b) (show a.toInt.toNat = a.toInt.toNat from by omega)⟩), trivial⟩, ⟨by rw [ht]; exact hP, va_K.moved hW.alike hK⟩⟩, hS.F ht⟩) hS.2.2 dX11_insure_37
        · skip
          exact absurd c_25 (by decide)
set_option maxHeartbeats 4000000 in
set_option maxRecDepth 100000 in
theorem x_setDaysR (l : Launch) (dC : Nat → ClassId) (dI : Nat → Nat → Nat) (sz : Nat) (ob ad : Nat → Nat) (cA : Nat → ClassId) (hd : dX ob ad) (fv : Nat → Int32) (wd : xT) (ar : Nat → Nat → Int32) (hF_fv : rX fv) (hA_ar : rB ar) (kk : Int32) (b : Int32) (d : Int32) (f : Int32) (h_kk : 0 ≤ kk.toInt ∧ kk.toInt ≤ 79) : Met l yX8_setDays (.code yX8_setDays cX8_setDays 5 none :: lw_good) ({ frames := 2, cells := 0, slots := 0, locals := 40 }) (va_Pc [.ref (ob 5), .int kk, .int b, .int d, .int f] (prX dC dI ob ad cA fv wd ar sz)) (va_Qv (fun (u : xS) => rX u.1 ∧ rB u.2.2 ∧ fM [] fv u.1 ∧ fA [32, 33, 34] ar u.2.2 ∧ u.2.1.2 = wd.2 ∧ (u.2.2 32 = upd (ar 32) (kk.toInt.toNat) b) ∧ (u.2.2 33 = upd (ar 33) (kk.toInt.toNat) d) ∧ (u.2.2 34 = upd (ar 34) (kk.toInt.toNat) f) ∧ True) (enX dC dI ob ad cA) (aX ob ad sz)) 0 0 (aX ob ad sz) := by
  refine Met.ofW (cc := cX8_setDays) (maxL := 5) (ret := none) (by decide) rfl ?_
  intro p e s m args below meth c s₁ B hml hv
  obtain ⟨rfl, hsz, hP, hK⟩ := hv
  have hx := B.exec
  have hb := B.bytes
  have hr := B.returns
  have hts := atoms_spec (ws := (.code yX8_setDays cX8_setDays 5 none :: lw_good)) B.pre
  have htg : ∀ w ∈ lw_good, w.before _ s = true := fun w hw => hts w (List.mem_cons_of_mem _ hw)
  have hown : s.vm.findClass RX8 = some m.cls := findClass_of_methodNamed B.named
  have hlocks := B.notSynchronized
  subst hsz
  have hS : va_S (aX ob ad s.heap.size) s.heap s.heap [] := va_S.rf
  have hl := lv_entry ([.ref (ob 5), .int kk, .int b, .int d, .int f]) (n := 5) (Nat.le_of_ble_eq_true rfl)
  rw [lg_entry_eq]
  generalize (lg_sl ([.ref (ob 5), .int kk, .int b, .int d, .int f]) ++ List.replicate (5 - (lg_sl ([.ref (ob 5), .int kk, .int b, .int d, .int f])).length) Slot.unset).toArray = ls at hl ⊢
  have hl : lv_has ls 5 [(0, .ref (ob 5)), (1, .int kk), (2, .int b), (3, .int d), (4, .int f)] := hl
  refine lv_aload_n hx hb dX8_setDays_0 rfl (lv_at hl 0 rfl) ?_
  refine gX_X8_24 hx hb htg hown hK hP dX8_setDays_1 ?_
  refine lv_iload_n hx hb dX8_setDays_4 rfl (lv_at hl 1 rfl) ?_
  refine lv_iload_n hx hb dX8_setDays_5 rfl (lv_at hl 2 rfl) ?_
  refine sX_32 hx hb hK hP hS hd (iv_in h_kk (by decide) (by decide)) dX8_setDays_6 (fun H locs ar_1 ear_1 hP hS => ?_)
  have hA_ar_1 : rB ar_1 := rB_put hA_ar ear_1 (iv_any _)
  refine lv_aload_n hx hb dX8_setDays_7 rfl (lv_at hl 0 rfl) ?_
  refine gX_X8_27 hx hb htg hown hK hP dX8_setDays_8 ?_
  refine lv_iload_n hx hb dX8_setDays_11 rfl (lv_at hl 1 rfl) ?_
  refine lv_iload_n hx hb dX8_setDays_12 rfl (lv_at hl 3 rfl) ?_
  refine sX_33 hx hb hK hP hS hd (iv_in h_kk (by decide) (by decide)) dX8_setDays_13 (fun H locs ar_2 ear_2 hP hS => ?_)
  have hA_ar_2 : rB ar_2 := rB_put hA_ar_1 ear_2 (iv_any _)
  refine lv_aload_n hx hb dX8_setDays_14 rfl (lv_at hl 0 rfl) ?_
  refine gX_X8_30 hx hb htg hown hK hP dX8_setDays_15 ?_
  refine lv_iload_n hx hb dX8_setDays_18 rfl (lv_at hl 1 rfl) ?_
  refine lv_iload hx hb dX8_setDays_19 (lv_at hl 4 rfl) ?_
  refine sX_34 hx hb hK hP hS hd (iv_in h_kk (by decide) (by decide)) dX8_setDays_21 (fun H locs ar_3 ear_3 hP hS => ?_)
  have hA_ar_3 : rB ar_3 := rB_put hA_ar_2 ear_3 (iv_any _)
  exact W.vret hx hb hr (fun t ht hW => ⟨⟨(fv, wd, ar_3), rfl, ⟨hF_fv, hA_ar_3, (fM_rf [] _), (fA_put (fA_put (fA_put (fA_rf [32, 33, 34] _) ear_1 (by decide)) ear_2 (by decide)) ear_3 (by decide)), rfl, (show ar_3 32 = upd (ar 32) (kk.toInt.toNat) b from by exact (by rw [show ar_3 32 = ar_1 32 from ((fA_put (fA_put (fA_rf [33, 34] _) ear_2 (by decide)) ear_3 (by decide)) 32 rfl)]; rw [ear_1]; show upd (ar 32) (Int32.toNatClampNeg kk) b = _; exact congrArg (fun z9 => upd (ar 32) z9 b) (show kk.toInt.toNat = kk.toInt.toNat from by omega))), (show ar_3 33 = upd (ar 33) (kk.toInt.toNat) d from by exact (by rw [show ar_3 33 = ar_2 33 from ((fA_put (fA_rf [34] _) ear_3 (by decide)) 33 rfl)]; rw [ear_2]; show upd (ar_1 33) (Int32.toNatClampNeg kk) d = _; rw [show ar_1 33 = ar 33 from ((fA_put (fA_rf [32] _) ear_1 (by decide)) 33 rfl)]; exact congrArg (fun z9 => upd (ar 33) z9 d) (show kk.toInt.toNat = kk.toInt.toNat from by omega))), (show ar_3 34 = upd (ar 34) (kk.toInt.toNat) f from by exact (by rw [ear_3]; show upd (ar_2 34) (Int32.toNatClampNeg kk) f = _; rw [show ar_2 34 = ar 34 from ((fA_put (fA_put (fA_rf [32, 33] _) ear_1 (by decide)) ear_2 (by decide)) 34 rfl)]; exact congrArg (fun z9 => upd (ar 34) z9 f) (show kk.toInt.toNat = kk.toInt.toNat from by omega))), trivial⟩, ⟨by rw [ht]; exact hP, va_K.moved hW.alike hK⟩⟩, hS.F ht⟩) hS.2.2 dX8_setDays_22

set_option maxHeartbeats 4000000 in
set_option maxRecDepth 100000 in
theorem x_stopE (l : Launch) (dC : Nat → ClassId) (dI : Nat → Nat → Nat) (sz : Nat) (ob ad : Nat → Nat) (cA : Nat → ClassId) (hd : dX ob ad) (fv : Nat → Int32) (wd : xT) (ar : Nat → Nat → Int32) (hF_fv : rX fv) (hA_ar : rB ar) (v : Int32) : Met l yX11_stop (.code yX11_stop cX11_stop 2 (some .int) :: lw_good) ({ frames := 3, cells := 0, slots := 0, locals := 60 }) (va_Pc [.ref (ob 0), .int v] (prX dC dI ob ad cA fv wd ar sz)) (va_Qi (fun (r : Int32) (u : xS) => rX u.1 ∧ rB u.2.2 ∧ fM [4] fv u.1 ∧ fA [2] ar u.2.2 ∧ u.2.1.2 = wd.2 ∧ ((r = -1 ∧ u.1 4 = fv 4 ∧ (v.toInt < 0 ∨ 11 < v.toInt ∨ 8 ≤ (fv 4).toInt)) ∨ (r.toInt = (fv 4).toInt ∧ (u.1 4).toInt = (fv 4).toInt + 1 ∧ ¬ (v.toInt < 0 ∨ 11 < v.toInt ∨ 8 ≤ (fv 4).toInt))) ∧ True) (enX dC dI ob ad cA) (aX ob ad sz)) 0 0 (aX ob ad sz) := by
  refine Met.ofW (cc := cX11_stop) (maxL := 2) (ret := (some .int)) (by decide) rfl ?_
  intro p e s m args below meth c s₁ B hml hv
  obtain ⟨rfl, hsz, hP, hK⟩ := hv
  have hx := B.exec
  have hb := B.bytes
  have hr := B.returns
  have hts := atoms_spec (ws := (.code yX11_stop cX11_stop 2 (some .int) :: lw_good)) B.pre
  have htg : ∀ w ∈ lw_good, w.before _ s = true := fun w hw => hts w (List.mem_cons_of_mem _ hw)
  have hown : s.vm.findClass RX11 = some m.cls := findClass_of_methodNamed B.named
  have hlocks := B.notSynchronized
  subst hsz
  have hS : va_S (aX ob ad s.heap.size) s.heap s.heap [] := va_S.rf
  have hl := lv_entry ([.ref (ob 0), .int v]) (n := 2) (Nat.le_of_ble_eq_true rfl)
  rw [lg_entry_eq]
  generalize (lg_sl ([.ref (ob 0), .int v]) ++ List.replicate (2 - (lg_sl ([.ref (ob 0), .int v])).length) Slot.unset).toArray = ls at hl ⊢
  have hl : lv_has ls 2 [(0, .ref (ob 0)), (1, .int v)] := hl
  refine lv_aload_n hx hb dX11_stop_0 rfl (lv_at hl 0 rfl) ?_
  refine gX_X11_16 hx hb htg hown hK hP dX11_stop_1 ?_
  refine gX_X11_89 hx hb htg hown hK hP dX11_stop_4 ?_
  have i_1 : 0 ≤ (fv 4).toInt ∧ (fv 4).toInt ≤ 8 := hF_fv 4
  refine lv_bipush (v := 8) hx hb dX11_stop_7 (by decide) ?_
  refine lv_icmp_ge (tgt := 19) hx hb dX11_stop_9 (by decide) (fun c_2 => ?_) (fun c_2 => ?_)
  · skip
    have i_3 : 8 ≤ (fv 4).toInt ∧ (fv 4).toInt ≤ 8 := iv_le2 (⟨by decide, by decide⟩ : (8 : Int) ≤ (8 : Int32).toInt ∧ (8 : Int32).toInt ≤ 8) i_1 c_2
    refine lv_iconst (v := (-1)) hx hb dX11_stop_19 (by decide) ?_
    have z_4 : ((-1) : Int32).toInt = (-1) := by decide
    exact W.iret (v := (-1)) hx hb hr (fun t ht hW => ⟨⟨(-1), (fv, wd, ar), rfl, ⟨hF_fv, hA_ar, (fM_rf [4] _), (fA_rf [2] _), rfl, (show (((-1) : Int32) = -1 ∧ fv 4 = fv 4 ∧ (v.toInt < 0 ∨ 11 < v.toInt ∨ 8 ≤ (fv 4).toInt)) ∨ (((-1) : Int32).toInt = (fv 4).toInt ∧ (fv 4).toInt = (fv 4).toInt + 1 ∧ ¬ (v.toInt < 0 ∨ 11 < v.toInt ∨ 8 ≤ (fv 4).toInt)) from Or.inl ⟨rfl, rfl, by omega⟩), trivial⟩, ⟨by rw [ht]; exact hP, va_K.moved hW.alike hK⟩⟩, hS.F ht⟩) hS.2.2 dX11_stop_20
  · skip
    have i_5 : 0 ≤ (fv 4).toInt ∧ (fv 4).toInt ≤ 7 := iv_lt1 i_1 (⟨by decide, by decide⟩ : (8 : Int) ≤ (8 : Int32).toInt ∧ (8 : Int32).toInt ≤ 8) (Int32.not_le.mp c_2)
    refine lv_iload_n hx hb dX11_stop_12 rfl (lv_at hl 1 rfl) ?_
    refine va_calli (va_runS (As := [.int v]) (rest := []) ⟨hx, hb, hml, hown, hts⟩ (x_isCorner l s.heap.size v) (va_cwS 1 hts (gS kw_3_157 kw_3_144 kw_1_3 kw_3_145) rfl rfl rfl (by decide +kernel) ⟨Nat.le_of_ble_eq_true rfl, Nat.le_of_ble_eq_true rfl⟩) ⟨fun a U g mk q => ⟨q.1, q.2⟩, fun U hU hW => ⟨rfl, congrArg Array.size hU⟩⟩ rfl rfl hl.1 rfl (lv_room (Nat.le_of_ble_eq_true rfl)) dX11_stop_13 ⟨Nat.le_of_ble_eq_true rfl, Nat.le_of_ble_eq_true rfl⟩) hS (fun q _ h9 => nX_up hS q h9) (nX_up hS) (fun r_6 u t H1 locs ht _ hw hB _ hk1 hS => ?_)
    obtain ⟨p_7, p_8, -⟩ := hw
    have hP := my_keepM hP hk1
    generalize H1 = H at hP hS ⊢
    rcases p_8 with ⟨rfl, p_8⟩ | ⟨rfl, p_8⟩
    · skip
      refine lv_if_ne (tgt := 21) hx hb dX11_stop_16 (by decide) (fun c_9 => ?_) (fun c_9 => ?_)
      · skip
        exact absurd c_9 (by decide)
      · skip
        refine lv_iconst (v := (-1)) hx hb dX11_stop_19 (by decide) ?_
        have z_10 : ((-1) : Int32).toInt = (-1) := by decide
        exact W.iret (v := (-1)) hx hb hr (fun t ht hW => ⟨⟨(-1), (fv, wd, ar), rfl, ⟨hF_fv, hA_ar, (fM_rf [4] _), (fA_rf [2] _), rfl, (show (((-1) : Int32) = -1 ∧ fv 4 = fv 4 ∧ (v.toInt < 0 ∨ 11 < v.toInt ∨ 8 ≤ (fv 4).toInt)) ∨ (((-1) : Int32).toInt = (fv 4).toInt ∧ (fv 4).toInt = (fv 4).toInt + 1 ∧ ¬ (v.toInt < 0 ∨ 11 < v.toInt ∨ 8 ≤ (fv 4).toInt)) from Or.inl ⟨rfl, rfl, by omega⟩), trivial⟩, ⟨by rw [ht]; exact hP, va_K.moved hW.alike hK⟩⟩, hS.F ht⟩) hS.2.2 dX11_stop_20
    · skip
      have i_11 : 0 ≤ v.toInt ∧ v.toInt ≤ 2147483647 := ⟨p_8.1, (iv_any v).2⟩
      have i_12 : 0 ≤ v.toInt ∧ v.toInt ≤ 11 := ⟨i_11.1, p_8.2⟩
      refine lv_if_ne (tgt := 21) hx hb dX11_stop_16 (by decide) (fun c_13 => ?_) (fun c_13 => ?_)
      · skip
        refine lv_aload_n hx hb dX11_stop_21 rfl (lv_at hl 0 rfl) ?_
        refine gX_X11_16 hx hb htg hown hK hP dX11_stop_22 ?_
        refine gX_X11_92 hx hb htg hown hK hP dX11_stop_25 ?_
        refine lv_aload_n hx hb dX11_stop_28 rfl (lv_at hl 0 rfl) ?_
        refine gX_X11_16 hx hb htg hown hK hP dX11_stop_29 ?_
        refine gX_X11_89 hx hb htg hown hK hP dX11_stop_32 ?_
        refine lv_iload_n hx hb dX11_stop_35 rfl (lv_at hl 1 rfl) ?_
        refine sX_2 hx hb hK hP hS hd (iv_in i_5 (by decide) (by decide)) dX11_stop_36 (fun H locs ar_14 ear_14 hP hS => ?_)
        have hA_ar_14 : rB ar_14 := rB_put hA_ar ear_14 i_12
        refine lv_aload_n hx hb dX11_stop_37 rfl (lv_at hl 0 rfl) ?_
        refine gX_X11_16 hx hb htg hown hK hP dX11_stop_38 ?_
        refine lv_dup hx hb dX11_stop_41 rfl ?_
        refine gX_X11_89 hx hb htg hown hK hP dX11_stop_42 ?_
        refine lv_iconst (v := 1) hx hb dX11_stop_45 (by decide) ?_
        refine lv_iadd hx hb dX11_stop_46 ?_
        refine lv_topi (fun v_15 ev_15 => ?_)
        have t_16 : v_15.toInt = (fv 4).toInt + 1 ∧ 1 ≤ v_15.toInt ∧ v_15.toInt ≤ 8 := iv_addc ev_15 i_5 (by decide) (by decide) (by decide)
        refine pX_X11_89 hx hb htg hown hK hP hS hd dX11_stop_47 (fun H locs fv_18 efv_18 hP hS => ?_)
        have hF_fv_18 : rX fv_18 := rX_put hF_fv efv_18 (iv_w t_16.2 (by decide) (by decide))
        refine lv_aload_n hx hb dX11_stop_50 rfl (lv_at hl 0 rfl) ?_
        refine gX_X11_16 hx hb htg hown hK hP dX11_stop_51 ?_
        refine gX_X11_89 hx hb htg hown hK hP dX11_stop_54 ?_
        refine my_ti (y := v_15) ((congrFun efv_18 4)) ?_
        refine lv_iconst (v := 1) hx hb dX11_stop_57 (by decide) ?_
        refine lv_isub hx hb dX11_stop_58 ?_
        refine lv_topi (fun v_19 ev_19 => ?_)
        have t_20 : v_19.toInt = v_15.toInt - 1 ∧ 0 ≤ v_19.toInt ∧ v_19.toInt ≤ 7 := iv_subc ev_19 t_16.2 (by decide) (by decide) (by decide)
        exact W.iret (v := v_19) hx hb hr (fun t ht hW => ⟨⟨v_19, (fv_18, wd, ar_14), rfl, ⟨hF_fv_18, hA_ar_14, (fM_put (fM_rf [4] _) efv_18 (by decide)), (fA_put (fA_rf [2] _) ear_14 (by decide)), rfl, (show (v_19 = -1 ∧ fv_18 4 = fv 4 ∧ (v.toInt < 0 ∨ 11 < v.toInt ∨ 8 ≤ (fv 4).toInt)) ∨ (v_19.toInt = (fv 4).toInt ∧ (fv_18 4).toInt = (fv 4).toInt + 1 ∧ ¬ (v.toInt < 0 ∨ 11 < v.toInt ∨ 8 ≤ (fv 4).toInt)) from Or.inr ⟨by omega, by rw [show fv_18 4 = v_15 from (congrFun efv_18 4)]; omega, by omega⟩), trivial⟩, ⟨by rw [ht]; exact hP, va_K.moved hW.alike hK⟩⟩, hS.F ht⟩) hS.2.2 dX11_stop_59
      · skip
        exact absurd c_13 (by decide)

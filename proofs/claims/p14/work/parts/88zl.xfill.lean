set_option maxHeartbeats 4000000 in
set_option maxRecDepth 100000 in
theorem x_stopR (l : Launch) (dC : Nat → ClassId) (dI : Nat → Nat → Nat) (sz : Nat) (ob ad : Nat → Nat) (cA : Nat → ClassId) (hd : dX ob ad) (fv : Nat → Int32) (wd : xT) (ar : Nat → Nat → Int32) (hF_fv : rX fv) (hA_ar : rB ar) (v : Int32) : Met l yX11_stop (.code yX11_stop cX11_stop 2 (some .int) :: lw_good) ({ frames := 3, cells := 0, slots := 0, locals := 60 }) (va_Pc [.ref (ob 0), .int v] (prX dC dI ob ad cA fv wd ar sz)) (va_Qi (fun (r : Int32) (u : xS) => rX u.1 ∧ rB u.2.2 ∧ fM [4] fv u.1 ∧ fA [2] ar u.2.2 ∧ u.2.1.2 = wd.2 ∧ ((r = -1 ∧ u.1 4 = fv 4 ∧ (v.toInt < 0 ∨ 11 < v.toInt ∨ 8 ≤ (fv 4).toInt)) ∨ (r.toInt = (fv 4).toInt ∧ (u.1 4).toInt = (fv 4).toInt + 1 ∧ ¬ (v.toInt < 0 ∨ 11 < v.toInt ∨ 8 ≤ (fv 4).toInt))) ∧ (wt_ru r (u.2.2 2) (ar 2) (fv 4) v) ∧ True) (enX dC dI ob ad cA) (aX ob ad sz)) 0 0 (aX ob ad sz) := by
  refine Met.ofW (cc := cX11_stop) (maxL := 2) (ret := (some .int)) (by decide) rfl ?_
  intro p e s m args below meth c s₁ B hml hv
  obtain ⟨rfl, hsz, hP, hK⟩ := hv
  have hx := B.exec
  have hb := B.bytes
  have hr := B.returns
  have hts := atoms_spec (ws := (.code yX11_stop cX11_stop 2 (some .int) :: lw_good)) B.pre
  have htg : ∀ w ∈ lw_good, w.before _ s = true := fun w hw => hts w (List.mem_cons_of_mem _ hw)
  have hown : s.vm.findClass RX11 = some m.cls := findClass_of_methodNamed B.named
  have hlocks := B.notSynchronized
  subst hsz
  have hS : va_S (aX ob ad s.heap.size) s.heap s.heap [] := va_S.rf
  have hl := lv_entry ([.ref (ob 0), .int v]) (n := 2) (Nat.le_of_ble_eq_true rfl)
  rw [lg_entry_eq]
  generalize (lg_sl ([.ref (ob 0), .int v]) ++ List.replicate (2 - (lg_sl ([.ref (ob 0), .int v])).length) Slot.unset).toArray = ls at hl ⊢
  have hl : lv_has ls 2 [(0, .ref (ob 0)), (1, .int v)] := hl
  refine lv_aload_n hx hb dX11_stop_0 rfl (lv_at hl 0 rfl) ?_
  refine gX_X11_16 hx hb htg hown hK hP dX11_stop_1 ?_
  refine gX_X11_89 hx hb htg hown hK hP dX11_stop_4 ?_
  have i_1 : 0 ≤ (fv 4).toInt ∧ (fv 4).toInt ≤ 8 := hF_fv 4
  refine lv_bipush (v := 8) hx hb dX11_stop_7 (by decide) ?_
  refine lv_icmp_ge (tgt := 19) hx hb dX11_stop_9 (by decide) (fun c_2 => ?_) (fun c_2 => ?_)
  · skip
    have i_3 : 8 ≤ (fv 4).toInt ∧ (fv 4).toInt ≤ 8 := iv_le2 (⟨by decide, by decide⟩ : (8 : Int) ≤ (8 : Int32).toInt ∧ (8 : Int32).toInt ≤ 8) i_1 c_2
    refine lv_iconst (v := (-1)) hx hb dX11_stop_19 (by decide) ?_
    have z_4 : ((-1) : Int32).toInt = (-1) := by decide
    exact W.iret (v := (-1)) hx hb hr (fun t ht hW => ⟨⟨(-1), (fv, wd, ar), rfl, ⟨hF_fv, hA_ar, (fM_rf [4] _), (fA_rf [2] _), rfl, (show (((-1) : Int32) = -1 ∧ fv 4 = fv 4 ∧ (v.toInt < 0 ∨ 11 < v.toInt ∨ 8 ≤ (fv 4).toInt)) ∨ (((-1) : Int32).toInt = (fv 4).toInt ∧ (fv 4).toInt = (fv 4).toInt + 1 ∧ ¬ (v.toInt < 0 ∨ 11 < v.toInt ∨ 8 ≤ (fv 4).toInt)) from Or.inl ⟨rfl, rfl, by omega⟩), (show wt_ru ((-1) : Int32) (ar 2) (ar 2) (fv 4) v from Or.inl ⟨by decide, rfl⟩), trivial⟩, ⟨by rw [ht]; exact hP, va_K.moved hW.alike hK⟩⟩, hS.F ht⟩) hS.2.2 dX11_stop_20
  · skip
    have i_5 : 0 ≤ (fv 4).toInt ∧ (fv 4).toInt ≤ 7 := iv_lt1 i_1 (⟨by decide, by decide⟩ : (8 : Int) ≤ (8 : Int32).toInt ∧ (8 : Int32).toInt ≤ 8) (Int32.not_le.mp c_2)
    refine lv_iload_n hx hb dX11_stop_12 rfl (lv_at hl 1 rfl) ?_
    refine va_calli (va_runS (As := [.int v]) (rest := []) ⟨hx, hb, hml, hown, hts⟩ (x_isCorner l s.heap.size v) (va_cwS 1 hts (gS kw_3_157 kw_3_144 kw_1_3 kw_3_145) rfl rfl rfl (by decide +kernel) ⟨Nat.le_of_ble_eq_true rfl, Nat.le_of_ble_eq_true rfl⟩) ⟨fun a U g mk q => ⟨q.1, q.2⟩, fun U hU hW => ⟨rfl, congrArg Array.size hU⟩⟩ rfl rfl hl.1 rfl (lv_room (Nat.le_of_ble_eq_true rfl)) dX11_stop_13 ⟨Nat.le_of_ble_eq_true rfl, Nat.le_of_ble_eq_true rfl⟩) hS (fun q _ h9 => nX_up hS q h9) (nX_up hS) (fun r_6 u t H1 locs ht _ hw hB _ hk1 hS => ?_)
    obtain ⟨p_7, p_8, -⟩ := hw
    have hP := my_keepM hP hk1
    generalize H1 = H at hP hS ⊢
    rcases p_8 with ⟨rfl, p_8⟩ | ⟨rfl, p_8⟩
    · skip
      refine lv_if_ne (tgt := 21) hx hb dX11_stop_16 (by decide) (fun c_9 => ?_) (fun c_9 => ?_)
      · skip
        exact absurd c_9 (by decide)
      · skip
        refine lv_iconst (v := (-1)) hx hb dX11_stop_19 (by decide) ?_
        have z_10 : ((-1) : Int32).toInt = (-1) := by decide
        exact W.iret (v := (-1)) hx hb hr (fun t ht hW => ⟨⟨(-1), (fv, wd, ar), rfl, ⟨hF_fv, hA_ar, (fM_rf [4] _), (fA_rf [2] _), rfl, (show (((-1) : Int32) = -1 ∧ fv 4 = fv 4 ∧ (v.toInt < 0 ∨ 11 < v.toInt ∨ 8 ≤ (fv 4).toInt)) ∨ (((-1) : Int32).toInt = (fv 4).toInt ∧ (fv 4).toInt = (fv 4).toInt + 1 ∧ ¬ (v.toInt < 0 ∨ 11 < v.toInt ∨ 8 ≤ (fv 4).toInt)) from Or.inl ⟨rfl, rfl, by omega⟩), (show wt_ru ((-1) : Int32) (ar 2) (ar 2) (fv 4) v from Or.inl ⟨by decide, rfl⟩), trivial⟩, ⟨by rw [ht]; exact hP, va_K.moved hW.alike hK⟩⟩, hS.F ht⟩) hS.2.2 dX11_stop_20
    · skip
      have i_11 : 0 ≤ v.toInt ∧ v.toInt ≤ 2147483647 := ⟨p_8.1, (iv_any v).2⟩
      have i_12 : 0 ≤ v.toInt ∧ v.toInt ≤ 11 := ⟨i_11.1, p_8.2⟩
      refine lv_if_ne (tgt := 21) hx hb dX11_stop_16 (by decide) (fun c_13 => ?_) (fun c_13 => ?_)
      · skip
        refine lv_aload_n hx hb dX11_stop_21 rfl (lv_at hl 0 rfl) ?_
        refine gX_X11_16 hx hb htg hown hK hP dX11_stop_22 ?_
        refine gX_X11_92 hx hb htg hown hK hP dX11_stop_25 ?_
        refine lv_aload_n hx hb dX11_stop_28 rfl (lv_at hl 0 rfl) ?_
        refine gX_X11_16 hx hb htg hown hK hP dX11_stop_29 ?_
        refine gX_X11_89 hx hb htg hown hK hP dX11_stop_32 ?_
        refine lv_iload_n hx hb dX11_stop_35 rfl (lv_at hl 1 rfl) ?_
        refine sX_2 hx hb hK hP hS hd (iv_in i_5 (by decide) (by decide)) dX11_stop_36 (fun H locs ar_14 ear_14 hP hS => ?_)
        have hA_ar_14 : rB ar_14 := rB_put hA_ar ear_14 i_12
        refine lv_aload_n hx hb dX11_stop_37 rfl (lv_at hl 0 rfl) ?_
        refine gX_X11_16 hx hb htg hown hK hP dX11_stop_38 ?_
        refine lv_dup hx hb dX11_stop_41 rfl ?_
        refine gX_X11_89 hx hb htg hown hK hP dX11_stop_42 ?_
        refine lv_iconst (v := 1) hx hb dX11_stop_45 (by decide) ?_
        refine lv_iadd hx hb dX11_stop_46 ?_
        refine lv_topi (fun v_15 ev_15 => ?_)
        have t_16 : v_15.toInt = (fv 4).toInt + 1 ∧ 1 ≤ v_15.toInt ∧ v_15.toInt ≤ 8 := iv_addc ev_15 i_5 (by decide) (by decide) (by decide)
        refine pX_X11_89 hx hb htg hown hK hP hS hd dX11_stop_47 (fun H locs fv_18 efv_18 hP hS => ?_)
        have hF_fv_18 : rX fv_18 := rX_put hF_fv efv_18 (iv_w t_16.2 (by decide) (by decide))
        refine lv_aload_n hx hb dX11_stop_50 rfl (lv_at hl 0 rfl) ?_
        refine gX_X11_16 hx hb htg hown hK hP dX11_stop_51 ?_
        refine gX_X11_89 hx hb htg hown hK hP dX11_stop_54 ?_
        refine my_ti (y := v_15) ((congrFun efv_18 4)) ?_
        refine lv_iconst (v := 1) hx hb dX11_stop_57 (by decide) ?_
        refine lv_isub hx hb dX11_stop_58 ?_
        refine lv_topi (fun v_19 ev_19 => ?_)
        have t_20 : v_19.toInt = v_15.toInt - 1 ∧ 0 ≤ v_19.toInt ∧ v_19.toInt ≤ 7 := iv_subc ev_19 t_16.2 (by decide) (by decide) (by decide)
        exact W.iret (v := v_19) hx hb hr (fun t ht hW => ⟨⟨v_19, (fv_18, wd, ar_14), rfl, ⟨hF_fv_18, hA_ar_14, (fM_put (fM_rf [4] _) efv_18 (by decide)), (fA_put (fA_rf [2] _) ear_14 (by decide)), rfl, (show (v_19 = -1 ∧ fv_18 4 = fv 4 ∧ (v.toInt < 0 ∨ 11 < v.toInt ∨ 8 ≤ (fv 4).toInt)) ∨ (v_19.toInt = (fv 4).toInt ∧ (fv_18 4).toInt = (fv 4).toInt + 1 ∧ ¬ (v.toInt < 0 ∨ 11 < v.toInt ∨ 8 ≤ (fv 4).toInt)) from Or.inr ⟨by omega, by rw [show fv_18 4 = v_15 from (congrFun efv_18 4)]; omega, by omega⟩), (show wt_ru v_19 (ar_14 2) (ar 2) (fv 4) v from by have : (fv_18 4).toInt = v_15.toInt := congrArg Int32.toInt (show fv_18 4 = v_15 from congrFun efv_18 4); exact Or.inr ⟨by omega, by rw [ear_14]; show upd (ar 2) (Int32.toNatClampNeg (fv 4)) v = _; exact congrArg (fun z9 => upd (ar 2) z9 v) (show (fv 4).toInt.toNat = (fv 4).toInt.toNat from by omega)⟩), trivial⟩, ⟨by rw [ht]; exact hP, va_K.moved hW.alike hK⟩⟩, hS.F ht⟩) hS.2.2 dX11_stop_59
      · skip
        exact absurd c_13 (by decide)
set_option maxHeartbeats 4000000 in
set_option maxRecDepth 100000 in
theorem x_wjoinS (l : Launch) (dC : Nat → ClassId) (dI : Nat → Nat → Nat) (sz : Nat) (ob ad : Nat → Nat) (cA : Nat → ClassId) (hd : dX ob ad) (fv : Nat → Int32) (wd : xT) (ar : Nat → Nat → Int32) (hF_fv : rX fv) (hA_ar : rB ar) (a : Int32) (bs : Int32) (b : Int32) (d : Int32) (h_bs : 0 ≤ bs.toInt ∧ bs.toInt ≤ 7) : Met l yX10_join (.code yX10_join cX10_join 5 (some .int) :: lw_good) ({ frames := 2, cells := 0, slots := 0, locals := 40 }) (va_Pc [.ref (ob 4), .int a, .int bs, .int b, .int d] (prX dC dI ob ad cA fv wd ar sz)) (va_Qi (fun (r : Int32) (u : xS) => rX u.1 ∧ rB u.2.2 ∧ fM [11] fv u.1 ∧ fA [20, 21, 22, 23, 27] ar u.2.2 ∧ u.2.1.2 = wd.2 ∧ ((r = -1 ∧ u.1 11 = fv 11 ∧ (20 ≤ (fv 11).toInt ∨ a.toInt < 0 ∨ 2 < a.toInt ∨ b.toInt < 1 ∨ 9 < b.toInt)) ∨ (r.toInt = (fv 11).toInt ∧ (u.1 11).toInt = (fv 11).toInt + 1 ∧ ¬ (20 ≤ (fv 11).toInt ∨ a.toInt < 0 ∨ 2 < a.toInt ∨ b.toInt < 1 ∨ 9 < b.toInt))) ∧ (wt_ru r (u.2.2 20) (ar 20) (fv 11) a) ∧ (wt_ru r (u.2.2 21) (ar 21) (fv 11) bs) ∧ (wt_ru r (u.2.2 22) (ar 22) (fv 11) b) ∧ (wt_ru r (u.2.2 23) (ar 23) (fv 11) d) ∧ (wt_ru r (u.2.2 27) (ar 27) (fv 11) bs) ∧ True) (enX dC dI ob ad cA) (aX ob ad sz)) 0 0 (aX ob ad sz) := by
  refine Met.ofW (cc := cX10_join) (maxL := 5) (ret := (some .int)) (by decide) rfl ?_
  intro p e s m args below meth c s₁ B hml hv
  obtain ⟨rfl, hsz, hP, hK⟩ := hv
  have hx := B.exec
  have hb := B.bytes
  have hr := B.returns
  have hts := atoms_spec (ws := (.code yX10_join cX10_join 5 (some .int) :: lw_good)) B.pre
  have htg : ∀ w ∈ lw_good, w.before _ s = true := fun w hw => hts w (List.mem_cons_of_mem _ hw)
  have hown : s.vm.findClass RX10 = some m.cls := findClass_of_methodNamed B.named
  have hlocks := B.notSynchronized
  subst hsz
  have hS : va_S (aX ob ad s.heap.size) s.heap s.heap [] := va_S.rf
  have hl := lv_entry ([.ref (ob 4), .int a, .int bs, .int b, .int d]) (n := 5) (Nat.le_of_ble_eq_true rfl)
  rw [lg_entry_eq]
  generalize (lg_sl ([.ref (ob 4), .int a, .int bs, .int b, .int d]) ++ List.replicate (5 - (lg_sl ([.ref (ob 4), .int a, .int bs, .int b, .int d])).length) Slot.unset).toArray = ls at hl ⊢
  have hl : lv_has ls 5 [(0, .ref (ob 4)), (1, .int a), (2, .int bs), (3, .int b), (4, .int d)] := hl
  refine lv_aload_n hx hb dX10_join_0 rfl (lv_at hl 0 rfl) ?_
  refine gX_X10_36 hx hb htg hown hK hP dX10_join_1 ?_
  have i_1 : 0 ≤ (fv 11).toInt ∧ (fv 11).toInt ≤ 20 := hF_fv 11
  refine lv_bipush (v := 20) hx hb dX10_join_4 (by decide) ?_
  refine lv_icmp_ge (tgt := 29) hx hb dX10_join_6 (by decide) (fun c_2 => ?_) (fun c_2 => ?_)
  · skip
    have i_3 : 20 ≤ (fv 11).toInt ∧ (fv 11).toInt ≤ 20 := iv_le2 (⟨by decide, by decide⟩ : (20 : Int) ≤ (20 : Int32).toInt ∧ (20 : Int32).toInt ≤ 20) i_1 c_2
    refine lv_iconst (v := (-1)) hx hb dX10_join_29 (by decide) ?_
    have z_4 : ((-1) : Int32).toInt = (-1) := by decide
    exact W.iret (v := (-1)) hx hb hr (fun t ht hW => ⟨⟨(-1), (fv, wd, ar), rfl, ⟨hF_fv, hA_ar, (fM_rf [11] _), (fA_rf [20, 21, 22, 23, 27] _), rfl, (show (((-1) : Int32) = -1 ∧ fv 11 = fv 11 ∧ (20 ≤ (fv 11).toInt ∨ a.toInt < 0 ∨ 2 < a.toInt ∨ b.toInt < 1 ∨ 9 < b.toInt)) ∨ (((-1) : Int32).toInt = (fv 11).toInt ∧ (fv 11).toInt = (fv 11).toInt + 1 ∧ ¬ (20 ≤ (fv 11).toInt ∨ a.toInt < 0 ∨ 2 < a.toInt ∨ b.toInt < 1 ∨ 9 < b.toInt)) from Or.inl ⟨rfl, rfl, by omega⟩), (show wt_ru ((-1) : Int32) (ar 20) (ar 20) (fv 11) a from Or.inl ⟨by decide, rfl⟩), (show wt_ru ((-1) : Int32) (ar 21) (ar 21) (fv 11) bs from Or.inl ⟨by decide, rfl⟩), (show wt_ru ((-1) : Int32) (ar 22) (ar 22) (fv 11) b from Or.inl ⟨by decide, rfl⟩), (show wt_ru ((-1) : Int32) (ar 23) (ar 23) (fv 11) d from Or.inl ⟨by decide, rfl⟩), (show wt_ru ((-1) : Int32) (ar 27) (ar 27) (fv 11) bs from Or.inl ⟨by decide, rfl⟩), trivial⟩, ⟨by rw [ht]; exact hP, va_K.moved hW.alike hK⟩⟩, hS.F ht⟩) hS.2.2 dX10_join_30
  · skip
    have i_5 : 0 ≤ (fv 11).toInt ∧ (fv 11).toInt ≤ 19 := iv_lt1 i_1 (⟨by decide, by decide⟩ : (20 : Int) ≤ (20 : Int32).toInt ∧ (20 : Int32).toInt ≤ 20) (Int32.not_le.mp c_2)
    refine lv_iload_n hx hb dX10_join_9 rfl (lv_at hl 1 rfl) ?_
    refine lv_if_lt (tgt := 29) hx hb dX10_join_10 (by decide) (fun c_6 => ?_) (fun c_6 => ?_)
    · skip
      have i_7 : (-2147483648) ≤ a.toInt ∧ a.toInt ≤ (-1) := iv_lt1 (iv_any a) (⟨by decide, by decide⟩ : (0 : Int) ≤ (0 : Int32).toInt ∧ (0 : Int32).toInt ≤ 0) c_6
      refine lv_iconst (v := (-1)) hx hb dX10_join_29 (by decide) ?_
      have z_8 : ((-1) : Int32).toInt = (-1) := by decide
      exact W.iret (v := (-1)) hx hb hr (fun t ht hW => ⟨⟨(-1), (fv, wd, ar), rfl, ⟨hF_fv, hA_ar, (fM_rf [11] _), (fA_rf [20, 21, 22, 23, 27] _), rfl, (show (((-1) : Int32) = -1 ∧ fv 11 = fv 11 ∧ (20 ≤ (fv 11).toInt ∨ a.toInt < 0 ∨ 2 < a.toInt ∨ b.toInt < 1 ∨ 9 < b.toInt)) ∨ (((-1) : Int32).toInt = (fv 11).toInt ∧ (fv 11).toInt = (fv 11).toInt + 1 ∧ ¬ (20 ≤ (fv 11).toInt ∨ a.toInt < 0 ∨ 2 < a.toInt ∨ b.toInt < 1 ∨ 9 < b.toInt)) from Or.inl ⟨rfl, rfl, by omega⟩), (show wt_ru ((-1) : Int32) (ar 20) (ar 20) (fv 11) a from Or.inl ⟨by decide, rfl⟩), (show wt_ru ((-1) : Int32) (ar 21) (ar 21) (fv 11) bs from Or.inl ⟨by decide, rfl⟩), (show wt_ru ((-1) : Int32) (ar 22) (ar 22) (fv 11) b from Or.inl ⟨by decide, rfl⟩), (show wt_ru ((-1) : Int32) (ar 23) (ar 23) (fv 11) d from Or.inl ⟨by decide, rfl⟩), (show wt_ru ((-1) : Int32) (ar 27) (ar 27) (fv 11) bs from Or.inl ⟨by decide, rfl⟩), trivial⟩, ⟨by rw [ht]; exact hP, va_K.moved hW.alike hK⟩⟩, hS.F ht⟩) hS.2.2 dX10_join_30
    · skip
      have i_9 : 0 ≤ a.toInt ∧ a.toInt ≤ 2147483647 := iv_le2 (⟨by decide, by decide⟩ : (0 : Int) ≤ (0 : Int32).toInt ∧ (0 : Int32).toInt ≤ 0) (iv_any a) (Int32.not_lt.mp c_6)
      refine lv_iload_n hx hb dX10_join_13 rfl (lv_at hl 1 rfl) ?_
      refine lv_iconst (v := 2) hx hb dX10_join_14 (by decide) ?_
      refine lv_icmp_gt (tgt := 29) hx hb dX10_join_15 (by decide) (fun c_10 => ?_) (fun c_10 => ?_)
      · skip
        have i_11 : 3 ≤ a.toInt ∧ a.toInt ≤ 2147483647 := iv_lt2 (⟨by decide, by decide⟩ : (2 : Int) ≤ (2 : Int32).toInt ∧ (2 : Int32).toInt ≤ 2) i_9 c_10
        refine lv_iconst (v := (-1)) hx hb dX10_join_29 (by decide) ?_
        have z_12 : ((-1) : Int32).toInt = (-1) := by decide
        exact W.iret (v := (-1)) hx hb hr (fun t ht hW => ⟨⟨(-1), (fv, wd, ar), rfl, ⟨hF_fv, hA_ar, (fM_rf [11] _), (fA_rf [20, 21, 22, 23, 27] _), rfl, (show (((-1) : Int32) = -1 ∧ fv 11 = fv 11 ∧ (20 ≤ (fv 11).toInt ∨ a.toInt < 0 ∨ 2 < a.toInt ∨ b.toInt < 1 ∨ 9 < b.toInt)) ∨ (((-1) : Int32).toInt = (fv 11).toInt ∧ (fv 11).toInt = (fv 11).toInt + 1 ∧ ¬ (20 ≤ (fv 11).toInt ∨ a.toInt < 0 ∨ 2 < a.toInt ∨ b.toInt < 1 ∨ 9 < b.toInt)) from Or.inl ⟨rfl, rfl, by omega⟩), (show wt_ru ((-1) : Int32) (ar 20) (ar 20) (fv 11) a from Or.inl ⟨by decide, rfl⟩), (show wt_ru ((-1) : Int32) (ar 21) (ar 21) (fv 11) bs from Or.inl ⟨by decide, rfl⟩), (show wt_ru ((-1) : Int32) (ar 22) (ar 22) (fv 11) b from Or.inl ⟨by decide, rfl⟩), (show wt_ru ((-1) : Int32) (ar 23) (ar 23) (fv 11) d from Or.inl ⟨by decide, rfl⟩), (show wt_ru ((-1) : Int32) (ar 27) (ar 27) (fv 11) bs from Or.inl ⟨by decide, rfl⟩), trivial⟩, ⟨by rw [ht]; exact hP, va_K.moved hW.alike hK⟩⟩, hS.F ht⟩) hS.2.2 dX10_join_30
      · skip
        have i_13 : 0 ≤ a.toInt ∧ a.toInt ≤ 2 := iv_le1 i_9 (⟨by decide, by decide⟩ : (2 : Int) ≤ (2 : Int32).toInt ∧ (2 : Int32).toInt ≤ 2) (Int32.not_lt.mp c_10)
        refine lv_iload_n hx hb dX10_join_18 rfl (lv_at hl 3 rfl) ?_
        refine lv_iconst (v := 1) hx hb dX10_join_19 (by decide) ?_
        refine lv_icmp_lt (tgt := 29) hx hb dX10_join_20 (by decide) (fun c_14 => ?_) (fun c_14 => ?_)
        · skip
          have i_15 : (-2147483648) ≤ b.toInt ∧ b.toInt ≤ 0 := iv_lt1 (iv_any b) (⟨by decide, by decide⟩ : (1 : Int) ≤ (1 : Int32).toInt ∧ (1 : Int32).toInt ≤ 1) c_14
          refine lv_iconst (v := (-1)) hx hb dX10_join_29 (by decide) ?_
          have z_16 : ((-1) : Int32).toInt = (-1) := by decide
          exact W.iret (v := (-1)) hx hb hr (fun t ht hW => ⟨⟨(-1), (fv, wd, ar), rfl, ⟨hF_fv, hA_ar, (fM_rf [11] _), (fA_rf [20, 21, 22, 23, 27] _), rfl, (show (((-1) : Int32) = -1 ∧ fv 11 = fv 11 ∧ (20 ≤ (fv 11).toInt ∨ a.toInt < 0 ∨ 2 < a.toInt ∨ b.toInt < 1 ∨ 9 < b.toInt)) ∨ (((-1) : Int32).toInt = (fv 11).toInt ∧ (fv 11).toInt = (fv 11).toInt + 1 ∧ ¬ (20 ≤ (fv 11).toInt ∨ a.toInt < 0 ∨ 2 < a.toInt ∨ b.toInt < 1 ∨ 9 < b.toInt)) from Or.inl ⟨rfl, rfl, by omega⟩), (show wt_ru ((-1) : Int32) (ar 20) (ar 20) (fv 11) a from Or.inl ⟨by decide, rfl⟩), (show wt_ru ((-1) : Int32) (ar 21) (ar 21) (fv 11) bs from Or.inl ⟨by decide, rfl⟩), (show wt_ru ((-1) : Int32) (ar 22) (ar 22) (fv 11) b from Or.inl ⟨by decide, rfl⟩), (show wt_ru ((-1) : Int32) (ar 23) (ar 23) (fv 11) d from Or.inl ⟨by decide, rfl⟩), (show wt_ru ((-1) : Int32) (ar 27) (ar 27) (fv 11) bs from Or.inl ⟨by decide, rfl⟩), trivial⟩, ⟨by rw [ht]; exact hP, va_K.moved hW.alike hK⟩⟩, hS.F ht⟩) hS.2.2 dX10_join_30
        · skip
          have i_17 : 1 ≤ b.toInt ∧ b.toInt ≤ 2147483647 := iv_le2 (⟨by decide, by decide⟩ : (1 : Int) ≤ (1 : Int32).toInt ∧ (1 : Int32).toInt ≤ 1) (iv_any b) (Int32.not_lt.mp c_14)
          refine lv_iload_n hx hb dX10_join_23 rfl (lv_at hl 3 rfl) ?_
          refine lv_bipush (v := 9) hx hb dX10_join_24 (by decide) ?_
          refine lv_icmp_le (tgt := 31) hx hb dX10_join_26 (by decide) (fun c_18 => ?_) (fun c_18 => ?_)
          · skip
            have i_19 : 1 ≤ b.toInt ∧ b.toInt ≤ 9 := iv_le1 i_17 (⟨by decide, by decide⟩ : (9 : Int) ≤ (9 : Int32).toInt ∧ (9 : Int32).toInt ≤ 9) c_18
            refine lv_aload_n hx hb dX10_join_31 rfl (lv_at hl 0 rfl) ?_
            refine gX_X10_11 hx hb htg hown hK hP dX10_join_32 ?_
            refine lv_aload_n hx hb dX10_join_35 rfl (lv_at hl 0 rfl) ?_
            refine gX_X10_36 hx hb htg hown hK hP dX10_join_36 ?_
            refine lv_iload_n hx hb dX10_join_39 rfl (lv_at hl 1 rfl) ?_
            refine sX_20 hx hb hK hP hS hd (iv_in i_5 (by decide) (by decide)) dX10_join_40 (fun H locs ar_20 ear_20 hP hS => ?_)
            have hA_ar_20 : rB ar_20 := rB_put hA_ar ear_20 (iv_any _)
            refine lv_aload_n hx hb dX10_join_41 rfl (lv_at hl 0 rfl) ?_
            refine gX_X10_15 hx hb htg hown hK hP dX10_join_42 ?_
            refine lv_aload_n hx hb dX10_join_45 rfl (lv_at hl 0 rfl) ?_
            refine gX_X10_36 hx hb htg hown hK hP dX10_join_46 ?_
            refine lv_iload_n hx hb dX10_join_49 rfl (lv_at hl 2 rfl) ?_
            refine sX_21 hx hb hK hP hS hd (iv_in i_5 (by decide) (by decide)) dX10_join_50 (fun H locs ar_21 ear_21 hP hS => ?_)
            have hA_ar_21 : rB ar_21 := rB_put hA_ar_20 ear_21 h_bs
            refine lv_aload_n hx hb dX10_join_51 rfl (lv_at hl 0 rfl) ?_
            refine gX_X10_18 hx hb htg hown hK hP dX10_join_52 ?_
            refine lv_aload_n hx hb dX10_join_55 rfl (lv_at hl 0 rfl) ?_
            refine gX_X10_36 hx hb htg hown hK hP dX10_join_56 ?_
            refine lv_iload_n hx hb dX10_join_59 rfl (lv_at hl 3 rfl) ?_
            refine sX_22 hx hb hK hP hS hd (iv_in i_5 (by decide) (by decide)) dX10_join_60 (fun H locs ar_22 ear_22 hP hS => ?_)
            have hA_ar_22 : rB ar_22 := rB_put hA_ar_21 ear_22 (iv_w i_19 (by decide) (by decide))
            refine lv_aload_n hx hb dX10_join_61 rfl (lv_at hl 0 rfl) ?_
            refine gX_X10_21 hx hb htg hown hK hP dX10_join_62 ?_
            refine lv_aload_n hx hb dX10_join_65 rfl (lv_at hl 0 rfl) ?_
            refine gX_X10_36 hx hb htg hown hK hP dX10_join_66 ?_
            refine lv_iload hx hb dX10_join_69 (lv_at hl 4 rfl) ?_
            refine sX_23 hx hb hK hP hS hd (iv_in i_5 (by decide) (by decide)) dX10_join_71 (fun H locs ar_23 ear_23 hP hS => ?_)
            have hA_ar_23 : rB ar_23 := rB_put hA_ar_22 ear_23 (iv_any _)
            refine lv_aload_n hx hb dX10_join_72 rfl (lv_at hl 0 rfl) ?_
            refine gX_X10_33 hx hb htg hown hK hP dX10_join_73 ?_
            refine lv_aload_n hx hb dX10_join_76 rfl (lv_at hl 0 rfl) ?_
            refine gX_X10_36 hx hb htg hown hK hP dX10_join_77 ?_
            refine lv_iload_n hx hb dX10_join_80 rfl (lv_at hl 2 rfl) ?_
            refine sX_27 hx hb hK hP hS hd (iv_in i_5 (by decide) (by decide)) dX10_join_81 (fun H locs ar_24 ear_24 hP hS => ?_)
            have hA_ar_24 : rB ar_24 := rB_put hA_ar_23 ear_24 (iv_any _)
            refine lv_aload_n hx hb dX10_join_82 rfl (lv_at hl 0 rfl) ?_
            refine lv_dup hx hb dX10_join_83 rfl ?_
            refine gX_X10_36 hx hb htg hown hK hP dX10_join_84 ?_
            refine lv_iconst (v := 1) hx hb dX10_join_87 (by decide) ?_
            refine lv_iadd hx hb dX10_join_88 ?_
            refine lv_topi (fun v_25 ev_25 => ?_)
            have t_26 : v_25.toInt = (fv 11).toInt + 1 ∧ 1 ≤ v_25.toInt ∧ v_25.toInt ≤ 20 := iv_addc ev_25 i_5 (by decide) (by decide) (by decide)
            refine pX_X10_36 hx hb htg hown hK hP hS hd dX10_join_89 (fun H locs fv_28 efv_28 hP hS => ?_)
            have hF_fv_28 : rX fv_28 := rX_put hF_fv efv_28 (iv_w t_26.2 (by decide) (by decide))
            refine lv_aload_n hx hb dX10_join_92 rfl (lv_at hl 0 rfl) ?_
            refine gX_X10_36 hx hb htg hown hK hP dX10_join_93 ?_
            refine my_ti (y := v_25) ((congrFun efv_28 11)) ?_
            refine lv_iconst (v := 1) hx hb dX10_join_96 (by decide) ?_
            refine lv_isub hx hb dX10_join_97 ?_
            refine lv_topi (fun v_29 ev_29 => ?_)
            have t_30 : v_29.toInt = v_25.toInt - 1 ∧ 0 ≤ v_29.toInt ∧ v_29.toInt ≤ 19 := iv_subc ev_29 t_26.2 (by decide) (by decide) (by decide)
            exact W.iret (v := v_29) hx hb hr (fun t ht hW => ⟨⟨v_29, (fv_28, wd, ar_24), rfl, ⟨hF_fv_28, hA_ar_24, (fM_put (fM_rf [11] _) efv_28 (by decide)), (fA_put (fA_put (fA_put (fA_put (fA_put (fA_rf [20, 21, 22, 23, 27] _) ear_20 (by decide)) ear_21 (by decide)) ear_22 (by decide)) ear_23 (by decide)) ear_24 (by decide)), rfl, (show (v_29 = -1 ∧ fv_28 11 = fv 11 ∧ (20 ≤ (fv 11).toInt ∨ a.toInt < 0 ∨ 2 < a.toInt ∨ b.toInt < 1 ∨ 9 < b.toInt)) ∨ (v_29.toInt = (fv 11).toInt ∧ (fv_28 11).toInt = (fv 11).toInt + 1 ∧ ¬ (20 ≤ (fv 11).toInt ∨ a.toInt < 0 ∨ 2 < a.toInt ∨ b.toInt < 1 ∨ 9 < b.toInt)) from Or.inr ⟨by omega, by rw [show fv_28 11 = v_25 from (congrFun efv_28 11)]; omega, by omega⟩), (show wt_ru v_29 (ar_24 20) (ar 20) (fv 11) a from by have : (fv_28 11).toInt = v_25.toInt := congrArg Int32.toInt (show fv_28 11 = v_25 from congrFun efv_28 11); exact Or.inr ⟨by omega, by rw [show ar_24 20 = ar_20 20 from ((fA_put (fA_put (fA_put (fA_put (fA_rf [21, 22, 23, 27] _) ear_21 (by decide)) ear_22 (by decide)) ear_23 (by decide)) ear_24 (by decide)) 20 rfl)]; rw [ear_20]; show upd (ar 20) (Int32.toNatClampNeg (fv 11)) a = _; exact congrArg (fun z9 => upd (ar 20) z9 a) (show (fv 11).toInt.toNat = (fv 11).toInt.toNat from by omega)⟩), (show wt_ru v_29 (ar_24 21) (ar 21) (fv 11) bs from by have : (fv_28 11).toInt = v_25.toInt := congrArg Int32.toInt (show fv_28 11 = v_25 from congrFun efv_28 11); exact Or.inr ⟨by omega, by rw [show ar_24 21 = ar_21 21 from ((fA_put (fA_put (fA_put (fA_rf [22, 23, 27] _) ear_22 (by decide)) ear_23 (by decide)) ear_24 (by decide)) 21 rfl)]; rw [ear_21]; show upd (ar_20 21) (Int32.toNatClampNeg (fv 11)) bs = _; rw [show ar_20 21 = ar 21 from ((fA_put (fA_rf [20] _) ear_20 (by decide)) 21 rfl)]; exact congrArg (fun z9 => upd (ar 21) z9 bs) (show (fv 11).toInt.toNat = (fv 11).toInt.toNat from by omega)⟩), (show wt_ru v_29 (ar_24 22) (ar 22) (fv 11) b from by have : (fv_28 11).toInt = v_25.toInt := congrArg Int32.toInt (show fv_28 11 = v_25 from congrFun efv_28 11); exact Or.inr ⟨by omega, by rw [show ar_24 22 = ar_22 22 from ((fA_put (fA_put (fA_rf [23, 27] _) ear_23 (by decide)) ear_24 (by decide)) 22 rfl)]; rw [ear_22]; show upd (ar_21 22) (Int32.toNatClampNeg (fv 11)) b = _; rw [show ar_21 22 = ar 22 from ((fA_put (fA_put (fA_rf [20, 21] _) ear_20 (by decide)) ear_21 (by decide)) 22 rfl)]; exact congrArg (fun z9 => upd (ar 22) z9 b) (show (fv 11).toInt.toNat = (fv 11).toInt.toNat from by omega)⟩), (show wt_ru v_29 (ar_24 23) (ar 23) (fv 11) d from by have : (fv_28 11).toInt = v_25.toInt := congrArg Int32.toInt (show fv_28 11 = v_25 from congrFun efv_28 11); exact Or.inr ⟨by omega, by rw [show ar_24 23 = ar_23 23 from ((fA_put (fA_rf [27] _) ear_24 (by decide)) 23 rfl)]; rw [ear_23]; show upd (ar_22 23) (Int32.toNatClampNeg (fv 11)) d = _; rw [show ar_22 23 = ar 23 from ((fA_put (fA_put (fA_put (fA_rf [20, 21, 22] _) ear_20 (by decide)) ear_21 (by decide)) ear_22 (by decide)) 23 rfl)]; exact congrArg (fun z9 => upd (ar 23) z9 d) (show (fv 11).toInt.toNat = (fv 11).toInt.toNat from by omega)⟩), (show wt_ru v_29 (ar_24 27) (ar 27) (fv 11) bs from by have : (fv_28 11).toInt = v_25.toInt := congrArg Int32.toInt (show fv_28 11 = v_25 from congrFun efv_28 11); exact Or.inr ⟨by omega, by rw [ear_24]; show upd (ar_23 27) (Int32.toNatClampNeg (fv 11)) bs = _; rw [show ar_23 27 = ar 27 from ((fA_put (fA_put (fA_put (fA_put (fA_rf [20, 21, 22, 23] _) ear_20 (by decide)) ear_21 (by decide)) ear_22 (by decide)) ear_23 (by decide)) 27 rfl)]; exact congrArg (fun z9 => upd (ar 27) z9 bs) (show (fv 11).toInt.toNat = (fv 11).toInt.toNat from by omega)⟩), trivial⟩, ⟨by rw [ht]; exact hP, va_K.moved hW.alike hK⟩⟩, hS.F ht⟩) hS.2.2 dX10_join_98
          · skip
            have i_32 : 10 ≤ b.toInt ∧ b.toInt ≤ 2147483647 := iv_lt2 (⟨by decide, by decide⟩ : (9 : Int) ≤ (9 : Int32).toInt ∧ (9 : Int32).toInt ≤ 9) i_17 (Int32.not_le.mp c_18)
            refine lv_iconst (v := (-1)) hx hb dX10_join_29 (by decide) ?_
            have z_33 : ((-1) : Int32).toInt = (-1) := by decide
            exact W.iret (v := (-1)) hx hb hr (fun t ht hW => ⟨⟨(-1), (fv, wd, ar), rfl, ⟨hF_fv, hA_ar, (fM_rf [11] _), (fA_rf [20, 21, 22, 23, 27] _), rfl, (show (((-1) : Int32) = -1 ∧ fv 11 = fv 11 ∧ (20 ≤ (fv 11).toInt ∨ a.toInt < 0 ∨ 2 < a.toInt ∨ b.toInt < 1 ∨ 9 < b.toInt)) ∨ (((-1) : Int32).toInt = (fv 11).toInt ∧ (fv 11).toInt = (fv 11).toInt + 1 ∧ ¬ (20 ≤ (fv 11).toInt ∨ a.toInt < 0 ∨ 2 < a.toInt ∨ b.toInt < 1 ∨ 9 < b.toInt)) from Or.inl ⟨rfl, rfl, by omega⟩), (show wt_ru ((-1) : Int32) (ar 20) (ar 20) (fv 11) a from Or.inl ⟨by decide, rfl⟩), (show wt_ru ((-1) : Int32) (ar 21) (ar 21) (fv 11) bs from Or.inl ⟨by decide, rfl⟩), (show wt_ru ((-1) : Int32) (ar 22) (ar 22) (fv 11) b from Or.inl ⟨by decide, rfl⟩), (show wt_ru ((-1) : Int32) (ar 23) (ar 23) (fv 11) d from Or.inl ⟨by decide, rfl⟩), (show wt_ru ((-1) : Int32) (ar 27) (ar 27) (fv 11) bs from Or.inl ⟨by decide, rfl⟩), trivial⟩, ⟨by rw [ht]; exact hP, va_K.moved hW.alike hK⟩⟩, hS.F ht⟩) hS.2.2 dX10_join_30
set_option maxHeartbeats 4000000 in
set_option maxRecDepth 100000 in
theorem x_wheelS (l : Launch) (dC : Nat → ClassId) (dI : Nat → Nat → Nat) (sz : Nat) (ob ad : Nat → Nat) (cA : Nat → ClassId) (hd : dX ob ad) (fv : Nat → Int32) (wd : xT) (ar : Nat → Nat → Int32) (hF_fv : rX fv) (hA_ar : rB ar) (a : Int32) (b : Int32) (v : Int32) (d : Int32) : Met l yX11_wheel (.code yX11_wheel cX11_wheel 5 (some .int) :: lw_good) ({ frames := 3, cells := 0, slots := 0, locals := 64 }) (va_Pc [.ref (ob 0), .int a, .int b, .int v, .int d] (prX dC dI ob ad cA fv wd ar sz)) (va_Qi (fun (r : Int32) (u : xS) => rX u.1 ∧ rB u.2.2 ∧ fM [11] fv u.1 ∧ fA [20, 21, 22, 23, 27] ar u.2.2 ∧ u.2.1.2 = wd.2 ∧ (ps_wheel r (u.1 11) (fv 11) (fv 4) a b v d) ∧ (wt_ru r (u.2.2 20) (ar 20) (fv 11) a) ∧ (wt_ru r (u.2.2 21) (ar 21) (fv 11) b) ∧ (wt_ru r (u.2.2 22) (ar 22) (fv 11) v) ∧ (wt_ru r (u.2.2 23) (ar 23) (fv 11) d) ∧ (wt_ru r (u.2.2 27) (ar 27) (fv 11) b) ∧ True) (enX dC dI ob ad cA) (aX ob ad sz)) 0 0 (aX ob ad sz) := by
  refine Met.ofW (cc := cX11_wheel) (maxL := 5) (ret := (some .int)) (by decide) rfl ?_
  intro p e s m args below meth c s₁ B hml hv
  obtain ⟨rfl, hsz, hP, hK⟩ := hv
  have hx := B.exec
  have hb := B.bytes
  have hr := B.returns
  have hts := atoms_spec (ws := (.code yX11_wheel cX11_wheel 5 (some .int) :: lw_good)) B.pre
  have htg : ∀ w ∈ lw_good, w.before _ s = true := fun w hw => hts w (List.mem_cons_of_mem _ hw)
  have hown : s.vm.findClass RX11 = some m.cls := findClass_of_methodNamed B.named
  have hlocks := B.notSynchronized
  subst hsz
  have hS : va_S (aX ob ad s.heap.size) s.heap s.heap [] := va_S.rf
  have hl := lv_entry ([.ref (ob 0), .int a, .int b, .int v, .int d]) (n := 5) (Nat.le_of_ble_eq_true rfl)
  rw [lg_entry_eq]
  generalize (lg_sl ([.ref (ob 0), .int a, .int b, .int v, .int d]) ++ List.replicate (5 - (lg_sl ([.ref (ob 0), .int a, .int b, .int v, .int d])).length) Slot.unset).toArray = ls at hl ⊢
  have hl : lv_has ls 5 [(0, .ref (ob 0)), (1, .int a), (2, .int b), (3, .int v), (4, .int d)] := hl
  refine lv_aload_n hx hb dX11_wheel_0 rfl (lv_at hl 0 rfl) ?_
  refine gX_X11_16 hx hb htg hown hK hP dX11_wheel_1 ?_
  refine lv_iload_n hx hb dX11_wheel_4 rfl (lv_at hl 2 rfl) ?_
  have z_1 : 0 ≤ (fv 4).toInt ∧ (fv 4).toInt ≤ 8 := hF_fv 4
  refine va_calli (va_runV (As := [.int b]) (rest := []) ⟨hx, hb, hml, hown, hts⟩ (x_isStopE l dC dI s.heap.size ob ad cA hd fv wd ar hF_fv hA_ar b) (cwV 1 hts (gV kw_3_183 kw_3_184 kw_3_185 kw_1_2 kw_3_186) rfl rfl rfl (by decide +kernel) ⟨Nat.le_of_ble_eq_true rfl, Nat.le_of_ble_eq_true rfl⟩) ⟨fun a U g mk q => ⟨q.1, q.2.1, q.2.2.1, va_K.moved (u := U) (U := U.calling g mk a) (Vm.Alike.refl U.vm) q.2.2.2⟩, va_recv hK hP (ci := 7) (q0 := 1) rfl rfl, fun U hU hW => ⟨rfl, by rw [hU], by rw [hU]; exact hP, va_K.moved hW.alike hK⟩⟩ rfl rfl hl.1 rfl (lv_room (Nat.le_of_ble_eq_true rfl)) dX11_wheel_5 ⟨Nat.le_of_ble_eq_true rfl, Nat.le_of_ble_eq_true rfl⟩) hS (fun q _ h9 => aX_up hS q h9) (aX_up hS) (fun r_2 u t H1 locs ht _ hw hB _ hk1 hS => ?_)
  obtain ⟨fv_5, wd_6, ar_7⟩ := u
  obtain ⟨hF_fv_5, hA_ar_7, fr_8, fa_9, wf_10, p_3, p_4, -⟩ := hw
  have wf_10 : wd_6.2 = wd.2 := wf_10
  have hP : va_P (dC, dI) vwCl (wsX ob ad cA fv_5 wd_6 ar_7) H1 := by have h9 := hB.1; rw [ht] at h9; exact h9
  have fr_8 : fM [] fv fv_5 := fr_8
  have fa_9 : fA [] ar ar_7 := fa_9
  generalize H1 = H at hP hS ⊢
  rcases p_4 with ⟨rfl, p_4⟩ | ⟨rfl, p_4⟩
  · skip
    have q_11 : b.toInt < 0 ∨ (fv 4).toInt ≤ b.toInt := p_4
    refine lv_if_eq (tgt := 19) hx hb dX11_wheel_8 (by decide) (fun c_12 => ?_) (fun c_12 => ?_)
    · skip
      refine lv_iconst (v := (-1)) hx hb dX11_wheel_19 (by decide) ?_
      have z_13 : ((-1) : Int32).toInt = (-1) := by decide
      exact W.iret (v := (-1)) hx hb hr (fun t ht hW => ⟨⟨(-1), (fv_5, wd_6, ar_7), rfl, ⟨hF_fv_5, hA_ar_7, (fM_call (fM_rf [11] _) fr_8 (by decide)), (fA_call (fA_rf [20, 21, 22, 23, 27] _) fa_9 (by decide)), wf_10, (show ps_wheel ((-1) : Int32) (fv_5 11) (fv 11) (fv 4) a b v d from Or.inl ⟨rfl, (fr_8 11 rfl), by omega⟩), (show wt_ru ((-1) : Int32) (ar_7 20) (ar 20) (fv 11) a from Or.inl ⟨by decide, ((fA_call (fA_rf [] _) fa_9 (by decide)) 20 rfl)⟩), (show wt_ru ((-1) : Int32) (ar_7 21) (ar 21) (fv 11) b from Or.inl ⟨by decide, ((fA_call (fA_rf [] _) fa_9 (by decide)) 21 rfl)⟩), (show wt_ru ((-1) : Int32) (ar_7 22) (ar 22) (fv 11) v from Or.inl ⟨by decide, ((fA_call (fA_rf [] _) fa_9 (by decide)) 22 rfl)⟩), (show wt_ru ((-1) : Int32) (ar_7 23) (ar 23) (fv 11) d from Or.inl ⟨by decide, ((fA_call (fA_rf [] _) fa_9 (by decide)) 23 rfl)⟩), (show wt_ru ((-1) : Int32) (ar_7 27) (ar 27) (fv 11) b from Or.inl ⟨by decide, ((fA_call (fA_rf [] _) fa_9 (by decide)) 27 rfl)⟩), trivial⟩, ⟨by rw [ht]; exact hP, va_K.moved hW.alike hK⟩⟩, hS.F ht⟩) hS.2.2 dX11_wheel_20
    · skip
      exact absurd c_12 (by decide)
  · skip
    have i_14 : 0 ≤ b.toInt ∧ b.toInt ≤ 2147483647 := ⟨p_4.1, (iv_any b).2⟩
    have i_15 : 0 ≤ b.toInt ∧ b.toInt ≤ 7 := ⟨i_14.1, p_4.2.1⟩
    have q_16 : b.toInt < (fv 4).toInt := p_4.2.2
    refine lv_if_eq (tgt := 19) hx hb dX11_wheel_8 (by decide) (fun c_17 => ?_) (fun c_17 => ?_)
    · skip
      exact absurd c_17 (by decide)
    · skip
      refine lv_iload hx hb dX11_wheel_11 (lv_at hl 4 rfl) ?_
      refine va_calli (va_runS (As := [.int d]) (rest := []) ⟨hx, hb, hml, hown, hts⟩ (x_isDayOrNever l H.size d) (va_cwS 1 hts (gS kw_3_187 kw_3_188 kw_1_1 kw_3_189) rfl rfl rfl (by decide +kernel) ⟨Nat.le_of_ble_eq_true rfl, Nat.le_of_ble_eq_true rfl⟩) ⟨fun a U g mk q => ⟨q.1, q.2⟩, fun U hU hW => ⟨rfl, congrArg Array.size hU⟩⟩ rfl rfl hl.1 rfl (lv_room (Nat.le_of_ble_eq_true rfl)) dX11_wheel_13 ⟨Nat.le_of_ble_eq_true rfl, Nat.le_of_ble_eq_true rfl⟩) hS (fun q _ h9 => nX_up hS q h9) (nX_up hS) (fun r_18 u t H1 locs ht _ hw hB _ hk1 hS => ?_)
      obtain ⟨p_19, p_20, -⟩ := hw
      have hP := my_keepM hP hk1
      generalize H1 = H at hP hS ⊢
      rcases p_20 with ⟨rfl, p_20⟩ | ⟨rfl, p_20⟩
      · skip
        refine lv_if_ne (tgt := 21) hx hb dX11_wheel_16 (by decide) (fun c_21 => ?_) (fun c_21 => ?_)
        · skip
          exact absurd c_21 (by decide)
        · skip
          refine lv_iconst (v := (-1)) hx hb dX11_wheel_19 (by decide) ?_
          have z_22 : ((-1) : Int32).toInt = (-1) := by decide
          exact W.iret (v := (-1)) hx hb hr (fun t ht hW => ⟨⟨(-1), (fv_5, wd_6, ar_7), rfl, ⟨hF_fv_5, hA_ar_7, (fM_call (fM_rf [11] _) fr_8 (by decide)), (fA_call (fA_rf [20, 21, 22, 23, 27] _) fa_9 (by decide)), wf_10, (show ps_wheel ((-1) : Int32) (fv_5 11) (fv 11) (fv 4) a b v d from Or.inl ⟨rfl, (fr_8 11 rfl), by omega⟩), (show wt_ru ((-1) : Int32) (ar_7 20) (ar 20) (fv 11) a from Or.inl ⟨by decide, ((fA_call (fA_rf [] _) fa_9 (by decide)) 20 rfl)⟩), (show wt_ru ((-1) : Int32) (ar_7 21) (ar 21) (fv 11) b from Or.inl ⟨by decide, ((fA_call (fA_rf [] _) fa_9 (by decide)) 21 rfl)⟩), (show wt_ru ((-1) : Int32) (ar_7 22) (ar 22) (fv 11) v from Or.inl ⟨by decide, ((fA_call (fA_rf [] _) fa_9 (by decide)) 22 rfl)⟩), (show wt_ru ((-1) : Int32) (ar_7 23) (ar 23) (fv 11) d from Or.inl ⟨by decide, ((fA_call (fA_rf [] _) fa_9 (by decide)) 23 rfl)⟩), (show wt_ru ((-1) : Int32) (ar_7 27) (ar 27) (fv 11) b from Or.inl ⟨by decide, ((fA_call (fA_rf [] _) fa_9 (by decide)) 27 rfl)⟩), trivial⟩, ⟨by rw [ht]; exact hP, va_K.moved hW.alike hK⟩⟩, hS.F ht⟩) hS.2.2 dX11_wheel_20
      · skip
        have i_23 : (-1) ≤ d.toInt ∧ d.toInt ≤ 2147483647 := ⟨p_20.1, (iv_any d).2⟩
        have i_24 : (-1) ≤ d.toInt ∧ d.toInt ≤ 199 := ⟨i_23.1, p_20.2⟩
        refine lv_if_ne (tgt := 21) hx hb dX11_wheel_16 (by decide) (fun c_25 => ?_) (fun c_25 => ?_)
        · skip
          refine lv_aload_n hx hb dX11_wheel_21 rfl (lv_at hl 0 rfl) ?_
          refine gX_X11_16 hx hb htg hown hK hP dX11_wheel_22 ?_
          refine gX_X11_101 hx hb htg hown hK hP dX11_wheel_25 ?_
          refine lv_iload_n hx hb dX11_wheel_28 rfl (lv_at hl 1 rfl) ?_
          refine lv_iload_n hx hb dX11_wheel_29 rfl (lv_at hl 2 rfl) ?_
          refine lv_iload_n hx hb dX11_wheel_30 rfl (lv_at hl 3 rfl) ?_
          refine lv_iload hx hb dX11_wheel_31 (lv_at hl 4 rfl) ?_
          have hk11 : (fv_5 11).toInt = (fv 11).toInt := congrArg Int32.toInt ((fr_8 11 rfl))
          have z_26 : (fv_5 11).toInt = (fv 11).toInt := congrArg Int32.toInt ((fr_8 11 rfl))
          have z_27 : 0 ≤ (fv_5 11).toInt ∧ (fv_5 11).toInt ≤ 20 := hF_fv_5 11
          refine va_calli (va_runV (As := [.int a, .int b, .int v, .int d]) (rest := []) ⟨hx, hb, hml, hown, hts⟩ (x_wjoinS l dC dI H.size ob ad cA hd fv_5 wd_6 ar_7 hF_fv_5 hA_ar_7 a b v d i_15) (cwV 4 hts (gV kw_3_190 kw_3_191 kw_3_192 kw_1_5 kw_3_193) rfl rfl rfl (by decide +kernel) ⟨Nat.le_of_ble_eq_true rfl, Nat.le_of_ble_eq_true rfl⟩) ⟨fun a U g mk q => ⟨q.1, q.2.1, q.2.2.1, va_K.moved (u := U) (U := U.calling g mk a) (Vm.Alike.refl U.vm) q.2.2.2⟩, va_recv hK hP (ci := 10) (q0 := 4) rfl rfl, fun U hU hW => ⟨rfl, by rw [hU], by rw [hU]; exact hP, va_K.moved hW.alike hK⟩⟩ rfl rfl hl.1 rfl (lv_room (Nat.le_of_ble_eq_true rfl)) dX11_wheel_33 ⟨Nat.le_of_ble_eq_true rfl, Nat.le_of_ble_eq_true rfl⟩) hS (fun q _ h9 => aX_up hS q h9) (aX_up hS) (fun r_28 u t H1 locs ht _ hw hB _ hk1 hS => ?_)
          obtain ⟨fv_35, wd_36, ar_37⟩ := u
          obtain ⟨hF_fv_35, hA_ar_37, fr_38, fa_39, wf_40, p_29, p_30, p_31, p_32, p_33, p_34, -⟩ := hw
          have wf_40 : wd_36.2 = wd_6.2 := wf_40
          have hP : va_P (dC, dI) vwCl (wsX ob ad cA fv_35 wd_36 ar_37) H1 := by have h9 := hB.1; rw [ht] at h9; exact h9
          have fr_38 : fM [11] fv_5 fv_35 := fr_38
          have fa_39 : fA [20, 21, 22, 23, 27] ar_7 ar_37 := fa_39
          have p_29 : (r_28 = -1 ∧ fv_35 11 = fv_5 11 ∧ (20 ≤ (fv_5 11).toInt ∨ a.toInt < 0 ∨ 2 < a.toInt ∨ v.toInt < 1 ∨ 9 < v.toInt)) ∨ (r_28.toInt = (fv_5 11).toInt ∧ (fv_35 11).toInt = (fv_5 11).toInt + 1 ∧ ¬ (20 ≤ (fv_5 11).toInt ∨ a.toInt < 0 ∨ 2 < a.toInt ∨ v.toInt < 1 ∨ 9 < v.toInt)) := p_29
          have p_30 : wt_ru r_28 (ar_37 20) (ar_7 20) (fv_5 11) a := p_30
          have p_31 : wt_ru r_28 (ar_37 21) (ar_7 21) (fv_5 11) b := p_31
          have p_32 : wt_ru r_28 (ar_37 22) (ar_7 22) (fv_5 11) v := p_32
          have p_33 : wt_ru r_28 (ar_37 23) (ar_7 23) (fv_5 11) d := p_33
          have p_34 : wt_ru r_28 (ar_37 27) (ar_7 27) (fv_5 11) b := p_34
          generalize H1 = H at hP hS ⊢
          exact W.iret (v := r_28) hx hb hr (fun t ht hW => ⟨⟨r_28, (fv_35, wd_36, ar_37), rfl, ⟨hF_fv_35, hA_ar_37, (fM_call (fM_call (fM_rf [11] _) fr_8 (by decide)) fr_38 (by decide)), (fA_call (fA_call (fA_rf [20, 21, 22, 23, 27] _) fa_9 (by decide)) fa_39 (by decide)), (wf_40.trans wf_10), (show ps_wheel r_28 (fv_35 11) (fv 11) (fv 4) a b v d from by rcases p_29 with ⟨a9, b9, c9⟩ | ⟨a9, b9, c9⟩; exact Or.inl ⟨a9, b9.trans ((fr_8 11 rfl)), by omega⟩; exact Or.inr ⟨by omega, by omega, by omega⟩), (show wt_ru r_28 (ar_37 20) (ar 20) (fv 11) a from by have h9 := p_30; rw [show ar_7 20 = ar 20 from ((fA_call (fA_rf [] _) fa_9 (by decide)) 20 rfl), show fv_5 11 = fv 11 from ((fM_call (fM_rf [] _) fr_8 (by decide)) 11 rfl)] at h9; exact h9), (show wt_ru r_28 (ar_37 21) (ar 21) (fv 11) b from by have h9 := p_31; rw [show ar_7 21 = ar 21 from ((fA_call (fA_rf [] _) fa_9 (by decide)) 21 rfl), show fv_5 11 = fv 11 from ((fM_call (fM_rf [] _) fr_8 (by decide)) 11 rfl)] at h9; exact h9), (show wt_ru r_28 (ar_37 22) (ar 22) (fv 11) v from by have h9 := p_32; rw [show ar_7 22 = ar 22 from ((fA_call (fA_rf [] _) fa_9 (by decide)) 22 rfl), show fv_5 11 = fv 11 from ((fM_call (fM_rf [] _) fr_8 (by decide)) 11 rfl)] at h9; exact h9), (show wt_ru r_28 (ar_37 23) (ar 23) (fv 11) d from by have h9 := p_33; rw [show ar_7 23 = ar 23 from ((fA_call (fA_rf [] _) fa_9 (by decide)) 23 rfl), show fv_5 11 = fv 11 from ((fM_call (fM_rf [] _) fr_8 (by decide)) 11 rfl)] at h9; exact h9), (show wt_ru r_28 (ar_37 27) (ar 27) (fv 11) b from by have h9 := p_34; rw [show ar_7 27 = ar 27 from ((fA_call (fA_rf [] _) fa_9 (by decide)) 27 rfl), show fv_5 11 = fv 11 from ((fM_call (fM_rf [] _) fr_8 (by decide)) 11 rfl)] at h9; exact h9), trivial⟩, ⟨by rw [ht]; exact hP, va_K.moved hW.alike hK⟩⟩, hS.F ht⟩) hS.2.2 dX11_wheel_36
        · skip
          exact absurd c_25 (by decide)

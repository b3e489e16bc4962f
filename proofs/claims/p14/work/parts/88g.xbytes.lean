set_option maxHeartbeats 4000000 in
set_option maxRecDepth 100000 in
theorem x_putC (l : Launch) (dC : Nat → ClassId) (dI : Nat → Nat → Nat) (sz : Nat) (ob ad : Nat → Nat) (cA : Nat → ClassId) (hd : dX ob ad) (fv : Nat → Int32) (wd : xT) (ar : Nat → Nat → Int32) (hF_fv : rX fv) (hA_ar : rB ar) (a : Int32) (ht : (fv 0).toInt ≤ 336) : Met l yX11_putOnTape (.code yX11_putOnTape cX11_putOnTape 3 none :: lw_good) ({ frames := 2, cells := 0, slots := 0, locals := 40 }) (va_Pc [.ref (ob 0), .int a] (prX dC dI ob ad cA fv wd ar sz)) (va_Qv (fun (u : xS) => rX u.1 ∧ rB u.2.2 ∧ fM [0] fv u.1 ∧ fA [1] ar u.2.2 ∧ u.2.1.2 = wd.2 ∧ ((u.1 0).toInt = (fv 0).toInt + 4) ∧ (u.2.2 1 = wt_tpw (ar 1) ((fv 0).toInt.toNat) a) ∧ True) (enX dC dI ob ad cA) (aX ob ad sz)) 0 0 (aX ob ad sz) := by
  refine Met.ofW (cc := cX11_putOnTape) (maxL := 3) (ret := none) (by decide) rfl ?_
  intro p e s m args below meth c s₁ B hml hv
  obtain ⟨rfl, hsz, hP, hK⟩ := hv
  have hx := B.exec
  have hb := B.bytes
  have hr := B.returns
  have hts := atoms_spec (ws := (.code yX11_putOnTape cX11_putOnTape 3 none :: lw_good)) B.pre
  have htg : ∀ w ∈ lw_good, w.before _ s = true := fun w hw => hts w (List.mem_cons_of_mem _ hw)
  have hown : s.vm.findClass RX11 = some m.cls := findClass_of_methodNamed B.named
  have hlocks := B.notSynchronized
  subst hsz
  have hS : va_S (aX ob ad s.heap.size) s.heap s.heap [] := va_S.rf
  have hl := lv_entry ([.ref (ob 0), .int a]) (n := 3) (Nat.le_of_ble_eq_true rfl)
  rw [lg_entry_eq]
  generalize (lg_sl ([.ref (ob 0), .int a]) ++ List.replicate (3 - (lg_sl ([.ref (ob 0), .int a])).length) Slot.unset).toArray = ls at hl ⊢
  have hl : lv_has ls 3 [(0, .ref (ob 0)), (1, .int a)] := hl
  have i_1 : 0 ≤ (fv 0).toInt ∧ (fv 0).toInt ≤ 336 := ⟨(hF_fv 0).1, ht⟩
  refine lv_bipush (v := 24) hx hb dX11_putOnTape_0 (by decide) ?_
  refine lv_istore_n (lv' := [(2, .int 24), (0, .ref (ob 0)), (1, .int a)]) hx hb dX11_putOnTape_2 rfl hl (by decide) rfl (fun ls hl => ?_)
  refine lv_iload_n hx hb dX11_putOnTape_3 rfl (lv_at hl 0 rfl) ?_
  refine lv_if_lt (tgt := 49) hx hb dX11_putOnTape_4 (by decide) (fun c_2 => ?_) (fun c_2 => ?_)
  · skip
    exact absurd c_2 (by decide)
  · skip
    refine lv_aload_n hx hb dX11_putOnTape_7 rfl (lv_at hl 1 rfl) ?_
    refine gX_X11_50 hx hb htg hown hK hP dX11_putOnTape_8 ?_
    refine lv_sipush (v := 340) hx hb dX11_putOnTape_11 (by decide) ?_
    refine lv_icmp_ge (tgt := 49) hx hb dX11_putOnTape_14 (by decide) (fun c_3 => ?_) (fun c_3 => ?_)
    · skip
      exact absurd True.intro (by have h7 := (⟨by decide, by decide⟩ : (340 : Int) ≤ (340 : Int32).toInt ∧ (340 : Int32).toInt ≤ 340); have h8 := i_1; have h9 := Int32.le_iff_toInt_le.mp c_3; exfalso; omega)
    · skip
      refine lv_aload_n hx hb dX11_putOnTape_17 rfl (lv_at hl 1 rfl) ?_
      refine gX_X11_9 hx hb htg hown hK hP dX11_putOnTape_18 ?_
      refine lv_aload_n hx hb dX11_putOnTape_21 rfl (lv_at hl 1 rfl) ?_
      refine gX_X11_50 hx hb htg hown hK hP dX11_putOnTape_22 ?_
      refine lv_iload_n hx hb dX11_putOnTape_25 rfl (lv_at hl 2 rfl) ?_
      refine lv_iload_n hx hb dX11_putOnTape_26 rfl (lv_at hl 0 rfl) ?_
      refine lv_ishr hx hb dX11_putOnTape_27 ?_
      refine lv_topi (fun v_4 ev_4 => ?_)
      refine lv_sipush (v := 255) hx hb dX11_putOnTape_28 (by decide) ?_
      refine lv_iand hx hb dX11_putOnTape_31 ?_
      refine lv_topi (fun v_5 ev_5 => ?_)
      have i_6 : 0 ≤ v_5.toInt ∧ v_5.toInt ≤ 255 := iv_and ev_5
      refine sX_1 hx hb hK hP hS hd (iv_in i_1 (by decide) (by decide)) dX11_putOnTape_32 (fun H locs ar_7 ear_7 hP hS => ?_)
      have hA_ar_7 : rB ar_7 := rB_put hA_ar ear_7 i_6
      refine lv_aload_n hx hb dX11_putOnTape_33 rfl (lv_at hl 1 rfl) ?_
      refine lv_dup hx hb dX11_putOnTape_34 rfl ?_
      refine gX_X11_50 hx hb htg hown hK hP dX11_putOnTape_35 ?_
      refine lv_iconst (v := 1) hx hb dX11_putOnTape_38 (by decide) ?_
      refine lv_iadd hx hb dX11_putOnTape_39 ?_
      refine lv_topi (fun v_8 ev_8 => ?_)
      have t_9 : v_8.toInt = (fv 0).toInt + 1 ∧ 1 ≤ v_8.toInt ∧ v_8.toInt ≤ 337 := iv_addc ev_8 i_1 (by decide) (by decide) (by decide)
      refine pX_X11_50 hx hb htg hown hK hP hS hd dX11_putOnTape_40 (fun H locs fv_11 efv_11 hP hS => ?_)
      have hF_fv_11 : rX fv_11 := rX_put hF_fv efv_11 (iv_w t_9.2 (by decide) (by decide))
      refine lv_iinc (v := 16) (lv' := [(2, .int 16), (0, .ref (ob 0)), (1, .int a)]) hx hb dX11_putOnTape_43 hl (k := 0) rfl (by decide) (by decide) rfl (fun ls hl => ?_)
      refine lv_goto (tgt := 3) hx hb dX11_putOnTape_46 (by decide) ?_
      refine lv_iload_n hx hb dX11_putOnTape_3 rfl (lv_at hl 0 rfl) ?_
      refine lv_if_lt (tgt := 49) hx hb dX11_putOnTape_4 (by decide) (fun c_12 => ?_) (fun c_12 => ?_)
      · skip
        exact absurd c_12 (by decide)
      · skip
        refine lv_aload_n hx hb dX11_putOnTape_7 rfl (lv_at hl 1 rfl) ?_
        refine gX_X11_50 hx hb htg hown hK hP dX11_putOnTape_8 ?_
        refine my_ti (y := v_8) ((congrFun efv_11 0)) ?_
        refine lv_sipush (v := 340) hx hb dX11_putOnTape_11 (by decide) ?_
        refine lv_icmp_ge (tgt := 49) hx hb dX11_putOnTape_14 (by decide) (fun c_13 => ?_) (fun c_13 => ?_)
        · skip
          exact absurd True.intro (by have h7 := (⟨by decide, by decide⟩ : (340 : Int) ≤ (340 : Int32).toInt ∧ (340 : Int32).toInt ≤ 340); have h8 := t_9.2; have h9 := Int32.le_iff_toInt_le.mp c_13; exfalso; omega)
        · skip
          refine lv_aload_n hx hb dX11_putOnTape_17 rfl (lv_at hl 1 rfl) ?_
          refine gX_X11_9 hx hb htg hown hK hP dX11_putOnTape_18 ?_
          refine lv_aload_n hx hb dX11_putOnTape_21 rfl (lv_at hl 1 rfl) ?_
          refine gX_X11_50 hx hb htg hown hK hP dX11_putOnTape_22 ?_
          refine my_ti (y := v_8) ((congrFun efv_11 0)) ?_
          refine lv_iload_n hx hb dX11_putOnTape_25 rfl (lv_at hl 2 rfl) ?_
          refine lv_iload_n hx hb dX11_putOnTape_26 rfl (lv_at hl 0 rfl) ?_
          refine lv_ishr hx hb dX11_putOnTape_27 ?_
          refine lv_topi (fun v_14 ev_14 => ?_)
          refine lv_sipush (v := 255) hx hb dX11_putOnTape_28 (by decide) ?_
          refine lv_iand hx hb dX11_putOnTape_31 ?_
          refine lv_topi (fun v_15 ev_15 => ?_)
          have i_16 : 0 ≤ v_15.toInt ∧ v_15.toInt ≤ 255 := iv_and ev_15
          refine sX_1 hx hb hK hP hS hd (iv_in t_9.2 (by decide) (by decide)) dX11_putOnTape_32 (fun H locs ar_17 ear_17 hP hS => ?_)
          have hA_ar_17 : rB ar_17 := rB_put hA_ar_7 ear_17 i_16
          refine lv_aload_n hx hb dX11_putOnTape_33 rfl (lv_at hl 1 rfl) ?_
          refine lv_dup hx hb dX11_putOnTape_34 rfl ?_
          refine gX_X11_50 hx hb htg hown hK hP dX11_putOnTape_35 ?_
          refine my_ti (y := v_8) ((congrFun efv_11 0)) ?_
          refine lv_iconst (v := 1) hx hb dX11_putOnTape_38 (by decide) ?_
          refine lv_iadd hx hb dX11_putOnTape_39 ?_
          refine lv_topi (fun v_18 ev_18 => ?_)
          have t_19 : v_18.toInt = v_8.toInt + 1 ∧ 2 ≤ v_18.toInt ∧ v_18.toInt ≤ 338 := iv_addc ev_18 t_9.2 (by decide) (by decide) (by decide)
          refine pX_X11_50 hx hb htg hown hK hP hS hd dX11_putOnTape_40 (fun H locs fv_21 efv_21 hP hS => ?_)
          have hF_fv_21 : rX fv_21 := rX_put hF_fv_11 efv_21 (iv_w t_19.2 (by decide) (by decide))
          refine lv_iinc (v := 8) (lv' := [(2, .int 8), (0, .ref (ob 0)), (1, .int a)]) hx hb dX11_putOnTape_43 hl (k := 0) rfl (by decide) (by decide) rfl (fun ls hl => ?_)
          refine lv_goto (tgt := 3) hx hb dX11_putOnTape_46 (by decide) ?_
          refine lv_iload_n hx hb dX11_putOnTape_3 rfl (lv_at hl 0 rfl) ?_
          refine lv_if_lt (tgt := 49) hx hb dX11_putOnTape_4 (by decide) (fun c_22 => ?_) (fun c_22 => ?_)
          · skip
            exact absurd c_22 (by decide)
          · skip
            refine lv_aload_n hx hb dX11_putOnTape_7 rfl (lv_at hl 1 rfl) ?_
            refine gX_X11_50 hx hb htg hown hK hP dX11_putOnTape_8 ?_
            refine my_ti (y := v_18) ((congrFun efv_21 0)) ?_
            refine lv_sipush (v := 340) hx hb dX11_putOnTape_11 (by decide) ?_
            refine lv_icmp_ge (tgt := 49) hx hb dX11_putOnTape_14 (by decide) (fun c_23 => ?_) (fun c_23 => ?_)
            · skip
              exact absurd True.intro (by have h7 := (⟨by decide, by decide⟩ : (340 : Int) ≤ (340 : Int32).toInt ∧ (340 : Int32).toInt ≤ 340); have h8 := t_19.2; have h9 := Int32.le_iff_toInt_le.mp c_23; exfalso; omega)
            · skip
              refine lv_aload_n hx hb dX11_putOnTape_17 rfl (lv_at hl 1 rfl) ?_
              refine gX_X11_9 hx hb htg hown hK hP dX11_putOnTape_18 ?_
              refine lv_aload_n hx hb dX11_putOnTape_21 rfl (lv_at hl 1 rfl) ?_
              refine gX_X11_50 hx hb htg hown hK hP dX11_putOnTape_22 ?_
              refine my_ti (y := v_18) ((congrFun efv_21 0)) ?_
              refine lv_iload_n hx hb dX11_putOnTape_25 rfl (lv_at hl 2 rfl) ?_
              refine lv_iload_n hx hb dX11_putOnTape_26 rfl (lv_at hl 0 rfl) ?_
              refine lv_ishr hx hb dX11_putOnTape_27 ?_
              refine lv_topi (fun v_24 ev_24 => ?_)
              refine lv_sipush (v := 255) hx hb dX11_putOnTape_28 (by decide) ?_
              refine lv_iand hx hb dX11_putOnTape_31 ?_
              refine lv_topi (fun v_25 ev_25 => ?_)
              have i_26 : 0 ≤ v_25.toInt ∧ v_25.toInt ≤ 255 := iv_and ev_25
              refine sX_1 hx hb hK hP hS hd (iv_in t_19.2 (by decide) (by decide)) dX11_putOnTape_32 (fun H locs ar_27 ear_27 hP hS => ?_)
              have hA_ar_27 : rB ar_27 := rB_put hA_ar_17 ear_27 i_26
              refine lv_aload_n hx hb dX11_putOnTape_33 rfl (lv_at hl 1 rfl) ?_
              refine lv_dup hx hb dX11_putOnTape_34 rfl ?_
              refine gX_X11_50 hx hb htg hown hK hP dX11_putOnTape_35 ?_
              refine my_ti (y := v_18) ((congrFun efv_21 0)) ?_
              refine lv_iconst (v := 1) hx hb dX11_putOnTape_38 (by decide) ?_
              refine lv_iadd hx hb dX11_putOnTape_39 ?_
              refine lv_topi (fun v_28 ev_28 => ?_)
              have t_29 : v_28.toInt = v_18.toInt + 1 ∧ 3 ≤ v_28.toInt ∧ v_28.toInt ≤ 339 := iv_addc ev_28 t_19.2 (by decide) (by decide) (by decide)
              refine pX_X11_50 hx hb htg hown hK hP hS hd dX11_putOnTape_40 (fun H locs fv_31 efv_31 hP hS => ?_)
              have hF_fv_31 : rX fv_31 := rX_put hF_fv_21 efv_31 (iv_w t_29.2 (by decide) (by decide))
              refine lv_iinc (v := 0) (lv' := [(2, .int 0), (0, .ref (ob 0)), (1, .int a)]) hx hb dX11_putOnTape_43 hl (k := 0) rfl (by decide) (by decide) rfl (fun ls hl => ?_)
              refine lv_goto (tgt := 3) hx hb dX11_putOnTape_46 (by decide) ?_
              refine lv_iload_n hx hb dX11_putOnTape_3 rfl (lv_at hl 0 rfl) ?_
              refine lv_if_lt (tgt := 49) hx hb dX11_putOnTape_4 (by decide) (fun c_32 => ?_) (fun c_32 => ?_)
              · skip
                exact absurd c_32 (by decide)
              · skip
                refine lv_aload_n hx hb dX11_putOnTape_7 rfl (lv_at hl 1 rfl) ?_
                refine gX_X11_50 hx hb htg hown hK hP dX11_putOnTape_8 ?_
                refine my_ti (y := v_28) ((congrFun efv_31 0)) ?_
                refine lv_sipush (v := 340) hx hb dX11_putOnTape_11 (by decide) ?_
                refine lv_icmp_ge (tgt := 49) hx hb dX11_putOnTape_14 (by decide) (fun c_33 => ?_) (fun c_33 => ?_)
                · skip
                  exact absurd True.intro (by have h7 := (⟨by decide, by decide⟩ : (340 : Int) ≤ (340 : Int32).toInt ∧ (340 : Int32).toInt ≤ 340); have h8 := t_29.2; have h9 := Int32.le_iff_toInt_le.mp c_33; exfalso; omega)
                · skip
                  refine lv_aload_n hx hb dX11_putOnTape_17 rfl (lv_at hl 1 rfl) ?_
                  refine gX_X11_9 hx hb htg hown hK hP dX11_putOnTape_18 ?_
                  refine lv_aload_n hx hb dX11_putOnTape_21 rfl (lv_at hl 1 rfl) ?_
                  refine gX_X11_50 hx hb htg hown hK hP dX11_putOnTape_22 ?_
                  refine my_ti (y := v_28) ((congrFun efv_31 0)) ?_
                  refine lv_iload_n hx hb dX11_putOnTape_25 rfl (lv_at hl 2 rfl) ?_
                  refine lv_iload_n hx hb dX11_putOnTape_26 rfl (lv_at hl 0 rfl) ?_
                  refine lv_ishr hx hb dX11_putOnTape_27 ?_
                  refine lv_topi (fun v_34 ev_34 => ?_)
                  refine lv_sipush (v := 255) hx hb dX11_putOnTape_28 (by decide) ?_
                  refine lv_iand hx hb dX11_putOnTape_31 ?_
                  refine lv_topi (fun v_35 ev_35 => ?_)
                  have i_36 : 0 ≤ v_35.toInt ∧ v_35.toInt ≤ 255 := iv_and ev_35
                  refine sX_1 hx hb hK hP hS hd (iv_in t_29.2 (by decide) (by decide)) dX11_putOnTape_32 (fun H locs ar_37 ear_37 hP hS => ?_)
                  have hA_ar_37 : rB ar_37 := rB_put hA_ar_27 ear_37 i_36
                  refine lv_aload_n hx hb dX11_putOnTape_33 rfl (lv_at hl 1 rfl) ?_
                  refine lv_dup hx hb dX11_putOnTape_34 rfl ?_
                  refine gX_X11_50 hx hb htg hown hK hP dX11_putOnTape_35 ?_
                  refine my_ti (y := v_28) ((congrFun efv_31 0)) ?_
                  refine lv_iconst (v := 1) hx hb dX11_putOnTape_38 (by decide) ?_
                  refine lv_iadd hx hb dX11_putOnTape_39 ?_
                  refine lv_topi (fun v_38 ev_38 => ?_)
                  have t_39 : v_38.toInt = v_28.toInt + 1 ∧ 4 ≤ v_38.toInt ∧ v_38.toInt ≤ 340 := iv_addc ev_38 t_29.2 (by decide) (by decide) (by decide)
                  refine pX_X11_50 hx hb htg hown hK hP hS hd dX11_putOnTape_40 (fun H locs fv_41 efv_41 hP hS => ?_)
                  have hF_fv_41 : rX fv_41 := rX_put hF_fv_31 efv_41 (iv_w t_39.2 (by decide) (by decide))
                  refine lv_iinc (v := (-8)) (lv' := [(2, .int (-8)), (0, .ref (ob 0)), (1, .int a)]) hx hb dX11_putOnTape_43 hl (k := 0) rfl (by decide) (by decide) rfl (fun ls hl => ?_)
                  refine lv_goto (tgt := 3) hx hb dX11_putOnTape_46 (by decide) ?_
                  refine lv_iload_n hx hb dX11_putOnTape_3 rfl (lv_at hl 0 rfl) ?_
                  refine lv_if_lt (tgt := 49) hx hb dX11_putOnTape_4 (by decide) (fun c_42 => ?_) (fun c_42 => ?_)
                  · skip
                    exact W.vret hx hb hr (fun t ht hW => ⟨⟨(fv_41, wd, ar_37), rfl, ⟨hF_fv_41, hA_ar_37, (fM_put (fM_put (fM_put (fM_put (fM_rf [0] _) efv_11 (by decide)) efv_21 (by decide)) efv_31 (by decide)) efv_41 (by decide)), (fA_put (fA_put (fA_put (fA_put (fA_rf [1] _) ear_7 (by decide)) ear_17 (by decide)) ear_27 (by decide)) ear_37 (by decide)), rfl, (show (fv_41 0).toInt = (fv 0).toInt + 4 from by rw [show fv_41 0 = v_38 from (congrFun efv_41 0)]; omega), (show ar_37 1 = wt_tpw (ar 1) ((fv 0).toInt.toNat) a from by rw [ear_37, ear_27, ear_17, ear_7]; show upd (upd (upd (upd (ar 1) (Int32.toNatClampNeg (fv 0)) v_5) (Int32.toNatClampNeg v_8) v_15) (Int32.toNatClampNeg v_18) v_25) (Int32.toNatClampNeg v_28) v_35 = _; rw [show Int32.toNatClampNeg v_8 = (fv 0).toInt.toNat + 1 from (by show v_8.toInt.toNat = _; omega), show Int32.toNatClampNeg v_18 = (fv 0).toInt.toNat + 2 from (by show v_18.toInt.toNat = _; omega), show Int32.toNatClampNeg v_28 = (fv 0).toInt.toNat + 3 from (by show v_28.toInt.toNat = _; omega)]; rw [ev_5, ev_4, ev_15, ev_14, ev_25, ev_24, ev_35, ev_34]; rfl), trivial⟩, ⟨by rw [ht]; exact hP, va_K.moved hW.alike hK⟩⟩, hS.F ht⟩) hS.2.2 dX11_putOnTape_49
                  · skip
                    exact absurd (Int32.not_lt.mp c_42) (by decide)
set_option maxHeartbeats 4000000 in
set_option maxRecDepth 100000 in
theorem x_feedC (l : Launch) (dC : Nat → ClassId) (dI : Nat → Nat → Nat) (sz : Nat) (ob ad : Nat → Nat) (cA : Nat → ClassId) (hd : dX ob ad) (fv : Nat → Int32) (wd : xT) (ar : Nat → Nat → Int32) (hF_fv : rX fv) (hA_ar : rB ar) (a : Int32) (b : Int32) (v : Int32) (d : Int32) (f : Int32) : Met l yX11_feed (.code yX11_feed cX11_feed 6 (some .int) :: lw_good) ({ frames := 3, cells := 0, slots := 0, locals := 62 }) (va_Pc [.ref (ob 0), .int a, .int b, .int v, .int d, .int f] (prX dC dI ob ad cA fv wd ar sz)) (va_Qi (fun (r : Int32) (u : xS) => rX u.1 ∧ rB u.2.2 ∧ fM [0] fv u.1 ∧ fA [1] ar u.2.2 ∧ u.2.1.2 = wd.2 ∧ (ps_feed r (u.1 0) (fv 0)) ∧ (wt_tpU (u.2.2 1) (ar 1) (fv 0) a b v d f) ∧ True) (enX dC dI ob ad cA) (aX ob ad sz)) 0 0 (aX ob ad sz) := by
  refine Met.ofW (cc := cX11_feed) (maxL := 6) (ret := (some .int)) (by decide) rfl ?_
  intro p e s m args below meth c s₁ B hml hv
  obtain ⟨rfl, hsz, hP, hK⟩ := hv
  have hx := B.exec
  have hb := B.bytes
  have hr := B.returns
  have hts := atoms_spec (ws := (.code yX11_feed cX11_feed 6 (some .int) :: lw_good)) B.pre
  have htg : ∀ w ∈ lw_good, w.before _ s = true := fun w hw => hts w (List.mem_cons_of_mem _ hw)
  have hown : s.vm.findClass RX11 = some m.cls := findClass_of_methodNamed B.named
  have hlocks := B.notSynchronized
  subst hsz
  have hS : va_S (aX ob ad s.heap.size) s.heap s.heap [] := va_S.rf
  have hl := lv_entry ([.ref (ob 0), .int a, .int b, .int v, .int d, .int f]) (n := 6) (Nat.le_of_ble_eq_true rfl)
  rw [lg_entry_eq]
  generalize (lg_sl ([.ref (ob 0), .int a, .int b, .int v, .int d, .int f]) ++ List.replicate (6 - (lg_sl ([.ref (ob 0), .int a, .int b, .int v, .int d, .int f])).length) Slot.unset).toArray = ls at hl ⊢
  have hl : lv_has ls 6 [(0, .ref (ob 0)), (1, .int a), (2, .int b), (3, .int v), (4, .int d), (5, .int f)] := hl
  refine lv_aload_n hx hb dX11_feed_0 rfl (lv_at hl 0 rfl) ?_
  refine gX_X11_50 hx hb htg hown hK hP dX11_feed_1 ?_
  have i_1 : 0 ≤ (fv 0).toInt ∧ (fv 0).toInt ≤ 340 := hF_fv 0
  refine lv_bipush (v := 20) hx hb dX11_feed_4 (by decide) ?_
  refine lv_iadd hx hb dX11_feed_6 ?_
  refine lv_topi (fun v_2 ev_2 => ?_)
  have t_3 : v_2.toInt = (fv 0).toInt + 20 ∧ 20 ≤ v_2.toInt ∧ v_2.toInt ≤ 360 := iv_addc ev_2 i_1 (by decide) (by decide) (by decide)
  refine lv_sipush (v := 340) hx hb dX11_feed_7 (by decide) ?_
  refine lv_icmp_le (tgt := 15) hx hb dX11_feed_10 (by decide) (fun c_5 => ?_) (fun c_5 => ?_)
  · skip
    have i_6 : 20 ≤ v_2.toInt ∧ v_2.toInt ≤ 340 := iv_le1 t_3.2 (⟨by decide, by decide⟩ : (340 : Int) ≤ (340 : Int32).toInt ∧ (340 : Int32).toInt ≤ 340) c_5
    refine lv_aload_n hx hb dX11_feed_15 rfl (lv_at hl 0 rfl) ?_
    refine lv_iload_n hx hb dX11_feed_16 rfl (lv_at hl 1 rfl) ?_
    have z_7 : 0 ≤ (fv 0).toInt ∧ (fv 0).toInt ≤ 340 := hF_fv 0
    have z_8 : 0 ≤ (fv 0).toInt ∧ (fv 0).toInt ≤ 340 := hF_fv 0
    refine va_callv (va_runV (As := [.int a]) (rest := []) ⟨hx, hb, hml, hown, hts⟩ (x_putC l dC dI s.heap.size ob ad cA hd fv wd ar hF_fv hA_ar a (by omega)) (cwV 1 hts (gV kw_3_123 kw_3_125 kw_p_0 kw_1_1 kw_3_126) rfl rfl rfl (by decide +kernel) ⟨Nat.le_of_ble_eq_true rfl, Nat.le_of_ble_eq_true rfl⟩) ⟨fun a U g mk q => ⟨q.1, q.2.1, q.2.2.1, va_K.moved (u := U) (U := U.calling g mk a) (Vm.Alike.refl U.vm) q.2.2.2⟩, va_recv hK hP (ci := 11) (q0 := 0) rfl rfl, fun U hU hW => ⟨rfl, by rw [hU], by rw [hU]; exact hP, va_K.moved hW.alike hK⟩⟩ rfl rfl hl.1 rfl (lv_room (Nat.le_of_ble_eq_true rfl)) dX11_feed_17 ⟨Nat.le_of_ble_eq_true rfl, Nat.le_of_ble_eq_true rfl⟩) hS (fun q _ h9 => aX_up hS q h9) (aX_up hS) (fun u t H1 locs ht _ hw hB _ hk1 hS => ?_)
    obtain ⟨fv_12, wd_13, ar_14⟩ := u
    obtain ⟨hF_fv_12, hA_ar_14, fr_15, fa_16, wf_17, p_10, p_11, -⟩ := hw
    have wf_17 : wd_13.2 = wd.2 := wf_17
    have hP : va_P (dC, dI) vwCl (wsX ob ad cA fv_12 wd_13 ar_14) H1 := by have h9 := hB.1; rw [ht] at h9; exact h9
    have fr_15 : fM [0] fv fv_12 := fr_15
    have fa_16 : fA [1] ar ar_14 := fa_16
    have p_10 : (fv_12 0).toInt = (fv 0).toInt + 4 := p_10
    have p_11 : ar_14 1 = wt_tpw (ar 1) ((fv 0).toInt.toNat) a := p_11
    generalize H1 = H at hP hS ⊢
    refine lv_aload_n hx hb dX11_feed_20 rfl (lv_at hl 0 rfl) ?_
    refine lv_iload_n hx hb dX11_feed_21 rfl (lv_at hl 2 rfl) ?_
    have z_18 : 0 ≤ (fv_12 0).toInt ∧ (fv_12 0).toInt ≤ 340 := hF_fv_12 0
    have z_19 : 0 ≤ (fv_12 0).toInt ∧ (fv_12 0).toInt ≤ 340 := hF_fv_12 0
    refine va_callv (va_runV (As := [.int b]) (rest := []) ⟨hx, hb, hml, hown, hts⟩ (x_putC l dC dI H.size ob ad cA hd fv_12 wd_13 ar_14 hF_fv_12 hA_ar_14 b (by omega)) (cwV 1 hts (gV kw_3_123 kw_3_125 kw_p_0 kw_1_1 kw_3_126) rfl rfl rfl (by decide +kernel) ⟨Nat.le_of_ble_eq_true rfl, Nat.le_of_ble_eq_true rfl⟩) ⟨fun a U g mk q => ⟨q.1, q.2.1, q.2.2.1, va_K.moved (u := U) (U := U.calling g mk a) (Vm.Alike.refl U.vm) q.2.2.2⟩, va_recv hK hP (ci := 11) (q0 := 0) rfl rfl, fun U hU hW => ⟨rfl, by rw [hU], by rw [hU]; exact hP, va_K.moved hW.alike hK⟩⟩ rfl rfl hl.1 rfl (lv_room (Nat.le_of_ble_eq_true rfl)) dX11_feed_22 ⟨Nat.le_of_ble_eq_true rfl, Nat.le_of_ble_eq_true rfl⟩) hS (fun q _ h9 => aX_up hS q h9) (aX_up hS) (fun u t H1 locs ht _ hw hB _ hk1 hS => ?_)
    obtain ⟨fv_23, wd_24, ar_25⟩ := u
    obtain ⟨hF_fv_23, hA_ar_25, fr_26, fa_27, wf_28, p_21, p_22, -⟩ := hw
    have wf_28 : wd_24.2 = wd_13.2 := wf_28
    have hP : va_P (dC, dI) vwCl (wsX ob ad cA fv_23 wd_24 ar_25) H1 := by have h9 := hB.1; rw [ht] at h9; exact h9
    have fr_26 : fM [0] fv_12 fv_23 := fr_26
    have fa_27 : fA [1] ar_14 ar_25 := fa_27
    have p_21 : (fv_23 0).toInt = (fv_12 0).toInt + 4 := p_21
    have p_22 : ar_25 1 = wt_tpw (ar_14 1) ((fv_12 0).toInt.toNat) b := p_22
    generalize H1 = H at hP hS ⊢
    refine lv_aload_n hx hb dX11_feed_25 rfl (lv_at hl 0 rfl) ?_
    refine lv_iload_n hx hb dX11_feed_26 rfl (lv_at hl 3 rfl) ?_
    have z_29 : 0 ≤ (fv_23 0).toInt ∧ (fv_23 0).toInt ≤ 340 := hF_fv_23 0
    have z_30 : 0 ≤ (fv_23 0).toInt ∧ (fv_23 0).toInt ≤ 340 := hF_fv_23 0
    refine va_callv (va_runV (As := [.int v]) (rest := []) ⟨hx, hb, hml, hown, hts⟩ (x_putC l dC dI H.size ob ad cA hd fv_23 wd_24 ar_25 hF_fv_23 hA_ar_25 v (by omega)) (cwV 1 hts (gV kw_3_123 kw_3_125 kw_p_0 kw_1_1 kw_3_126) rfl rfl rfl (by decide +kernel) ⟨Nat.le_of_ble_eq_true rfl, Nat.le_of_ble_eq_true rfl⟩) ⟨fun a U g mk q => ⟨q.1, q.2.1, q.2.2.1, va_K.moved (u := U) (U := U.calling g mk a) (Vm.Alike.refl U.vm) q.2.2.2⟩, va_recv hK hP (ci := 11) (q0 := 0) rfl rfl, fun U hU hW => ⟨rfl, by rw [hU], by rw [hU]; exact hP, va_K.moved hW.alike hK⟩⟩ rfl rfl hl.1 rfl (lv_room (Nat.le_of_ble_eq_true rfl)) dX11_feed_27 ⟨Nat.le_of_ble_eq_true rfl, Nat.le_of_ble_eq_true rfl⟩) hS (fun q _ h9 => aX_up hS q h9) (aX_up hS) (fun u t H1 locs ht _ hw hB _ hk1 hS => ?_)
    obtain ⟨fv_34, wd_35, ar_36⟩ := u
    obtain ⟨hF_fv_34, hA_ar_36, fr_37, fa_38, wf_39, p_32, p_33, -⟩ := hw
    have wf_39 : wd_35.2 = wd_24.2 := wf_39
    have hP : va_P (dC, dI) vwCl (wsX ob ad cA fv_34 wd_35 ar_36) H1 := by have h9 := hB.1; rw [ht] at h9; exact h9
    have fr_37 : fM [0] fv_23 fv_34 := fr_37
    have fa_38 : fA [1] ar_25 ar_36 := fa_38
    have p_32 : (fv_34 0).toInt = (fv_23 0).toInt + 4 := p_32
    have p_33 : ar_36 1 = wt_tpw (ar_25 1) ((fv_23 0).toInt.toNat) v := p_33
    generalize H1 = H at hP hS ⊢
    refine lv_aload_n hx hb dX11_feed_30 rfl (lv_at hl 0 rfl) ?_
    refine lv_iload hx hb dX11_feed_31 (lv_at hl 4 rfl) ?_
    have z_40 : 0 ≤ (fv_34 0).toInt ∧ (fv_34 0).toInt ≤ 340 := hF_fv_34 0
    have z_41 : 0 ≤ (fv_34 0).toInt ∧ (fv_34 0).toInt ≤ 340 := hF_fv_34 0
    refine va_callv (va_runV (As := [.int d]) (rest := []) ⟨hx, hb, hml, hown, hts⟩ (x_putC l dC dI H.size ob ad cA hd fv_34 wd_35 ar_36 hF_fv_34 hA_ar_36 d (by omega)) (cwV 1 hts (gV kw_3_123 kw_3_125 kw_p_0 kw_1_1 kw_3_126) rfl rfl rfl (by decide +kernel) ⟨Nat.le_of_ble_eq_true rfl, Nat.le_of_ble_eq_true rfl⟩) ⟨fun a U g mk q => ⟨q.1, q.2.1, q.2.2.1, va_K.moved (u := U) (U := U.calling g mk a) (Vm.Alike.refl U.vm) q.2.2.2⟩, va_recv hK hP (ci := 11) (q0 := 0) rfl rfl, fun U hU hW => ⟨rfl, by rw [hU], by rw [hU]; exact hP, va_K.moved hW.alike hK⟩⟩ rfl rfl hl.1 rfl (lv_room (Nat.le_of_ble_eq_true rfl)) dX11_feed_33 ⟨Nat.le_of_ble_eq_true rfl, Nat.le_of_ble_eq_true rfl⟩) hS (fun q _ h9 => aX_up hS q h9) (aX_up hS) (fun u t H1 locs ht _ hw hB _ hk1 hS => ?_)
    obtain ⟨fv_45, wd_46, ar_47⟩ := u
    obtain ⟨hF_fv_45, hA_ar_47, fr_48, fa_49, wf_50, p_43, p_44, -⟩ := hw
    have wf_50 : wd_46.2 = wd_35.2 := wf_50
    have hP : va_P (dC, dI) vwCl (wsX ob ad cA fv_45 wd_46 ar_47) H1 := by have h9 := hB.1; rw [ht] at h9; exact h9
    have fr_48 : fM [0] fv_34 fv_45 := fr_48
    have fa_49 : fA [1] ar_36 ar_47 := fa_49
    have p_43 : (fv_45 0).toInt = (fv_34 0).toInt + 4 := p_43
    have p_44 : ar_47 1 = wt_tpw (ar_36 1) ((fv_34 0).toInt.toNat) d := p_44
    generalize H1 = H at hP hS ⊢
    refine lv_aload_n hx hb dX11_feed_36 rfl (lv_at hl 0 rfl) ?_
    refine lv_iload hx hb dX11_feed_37 (lv_at hl 5 rfl) ?_
    have z_51 : 0 ≤ (fv_45 0).toInt ∧ (fv_45 0).toInt ≤ 340 := hF_fv_45 0
    have z_52 : 0 ≤ (fv_45 0).toInt ∧ (fv_45 0).toInt ≤ 340 := hF_fv_45 0
    refine va_callv (va_runV (As := [.int f]) (rest := []) ⟨hx, hb, hml, hown, hts⟩ (x_putC l dC dI H.size ob ad cA hd fv_45 wd_46 ar_47 hF_fv_45 hA_ar_47 f (by omega)) (cwV 1 hts (gV kw_3_123 kw_3_125 kw_p_0 kw_1_1 kw_3_126) rfl rfl rfl (by decide +kernel) ⟨Nat.le_of_ble_eq_true rfl, Nat.le_of_ble_eq_true rfl⟩) ⟨fun a U g mk q => ⟨q.1, q.2.1, q.2.2.1, va_K.moved (u := U) (U := U.calling g mk a) (Vm.Alike.refl U.vm) q.2.2.2⟩, va_recv hK hP (ci := 11) (q0 := 0) rfl rfl, fun U hU hW => ⟨rfl, by rw [hU], by rw [hU]; exact hP, va_K.moved hW.alike hK⟩⟩ rfl rfl hl.1 rfl (lv_room (Nat.le_of_ble_eq_true rfl)) dX11_feed_39 ⟨Nat.le_of_ble_eq_true rfl, Nat.le_of_ble_eq_true rfl⟩) hS (fun q _ h9 => aX_up hS q h9) (aX_up hS) (fun u t H1 locs ht _ hw hB _ hk1 hS => ?_)
    obtain ⟨fv_56, wd_57, ar_58⟩ := u
    obtain ⟨hF_fv_56, hA_ar_58, fr_59, fa_60, wf_61, p_54, p_55, -⟩ := hw
    have wf_61 : wd_57.2 = wd_46.2 := wf_61
    have hP : va_P (dC, dI) vwCl (wsX ob ad cA fv_56 wd_57 ar_58) H1 := by have h9 := hB.1; rw [ht] at h9; exact h9
    have fr_59 : fM [0] fv_45 fv_56 := fr_59
    have fa_60 : fA [1] ar_47 ar_58 := fa_60
    have p_54 : (fv_56 0).toInt = (fv_45 0).toInt + 4 := p_54
    have p_55 : ar_58 1 = wt_tpw (ar_47 1) ((fv_45 0).toInt.toNat) f := p_55
    generalize H1 = H at hP hS ⊢
    refine lv_aload_n hx hb dX11_feed_42 rfl (lv_at hl 0 rfl) ?_
    refine gX_X11_50 hx hb htg hown hK hP dX11_feed_43 ?_
    have i_62 : 0 ≤ (fv_56 0).toInt ∧ (fv_56 0).toInt ≤ 340 := hF_fv_56 0
    exact W.iret (v := fv_56 0) hx hb hr (fun t ht hW => ⟨⟨fv_56 0, (fv_56, wd_57, ar_58), rfl, ⟨hF_fv_56, hA_ar_58, (fM_call (fM_call (fM_call (fM_call (fM_call (fM_rf [0] _) fr_15 (by decide)) fr_26 (by decide)) fr_37 (by decide)) fr_48 (by decide)) fr_59 (by decide)), (fA_call (fA_call (fA_call (fA_call (fA_call (fA_rf [1] _) fa_16 (by decide)) fa_27 (by decide)) fa_38 (by decide)) fa_49 (by decide)) fa_60 (by decide)), (wf_61.trans (wf_50.trans (wf_39.trans (wf_28.trans wf_17)))), (show ps_feed (fv_56 0) (fv_56 0) (fv 0) from Or.inr ⟨by first | rfl | omega, by omega, by omega⟩), (show wt_tpU (ar_58 1) (ar 1) (fv 0) a b v d f from by exact Or.inr ⟨by omega, by rw [p_55, p_44, p_33, p_22, p_11, show (fv_12 0).toInt.toNat = (fv 0).toInt.toNat + 4 from (by omega), show (fv_23 0).toInt.toNat = (fv 0).toInt.toNat + 8 from (by omega), show (fv_34 0).toInt.toNat = (fv 0).toInt.toNat + 12 from (by omega), show (fv_45 0).toInt.toNat = (fv 0).toInt.toNat + 16 from (by omega)]; rfl⟩), trivial⟩, ⟨by rw [ht]; exact hP, va_K.moved hW.alike hK⟩⟩, hS.F ht⟩) hS.2.2 dX11_feed_46
  · skip
    have i_63 : 341 ≤ v_2.toInt ∧ v_2.toInt ≤ 360 := iv_lt2 (⟨by decide, by decide⟩ : (340 : Int) ≤ (340 : Int32).toInt ∧ (340 : Int32).toInt ≤ 340) t_3.2 (Int32.not_le.mp c_5)
    refine lv_iconst (v := (-1)) hx hb dX11_feed_13 (by decide) ?_
    have z_64 : ((-1) : Int32).toInt = (-1) := by decide
    exact W.iret (v := (-1)) hx hb hr (fun t ht hW => ⟨⟨(-1), (fv, wd, ar), rfl, ⟨hF_fv, hA_ar, (fM_rf [0] _), (fA_rf [1] _), rfl, (show ps_feed ((-1) : Int32) (fv 0) (fv 0) from Or.inl ⟨rfl, rfl, by omega⟩), (show wt_tpU (ar 1) (ar 1) (fv 0) a b v d f from by exact Or.inl ⟨by omega, rfl⟩), trivial⟩, ⟨by rw [ht]; exact hP, va_K.moved hW.alike hK⟩⟩, hS.F ht⟩) hS.2.2 dX11_feed_14
set_option maxHeartbeats 4000000 in
set_option maxRecDepth 100000 in
theorem x_pairC (l : Launch) (dC : Nat → ClassId) (dI : Nat → Nat → Nat) (sz : Nat) (ob ad : Nat → Nat) (cA : Nat → ClassId) (hd : dX ob ad) (fv : Nat → Int32) (wd : xT) (ar : Nat → Nat → Int32) (hF_fv : rX fv) (hA_ar : rB ar) (kk : Int32) (h_kk : 0 ≤ kk.toInt ∧ kk.toInt ≤ 5) : Met l yX2_pair (.code yX2_pair cX2_pair 2 (some .int) :: lw_good) ({ frames := 2, cells := 0, slots := 0, locals := 40 }) (va_Pc [.ref (ad 1), .int kk] (prX dC dI ob ad cA fv wd ar sz)) (va_Qi (fun (r : Int32) (u : xS) => rX u.1 ∧ rB u.2.2 ∧ fM [] fv u.1 ∧ fA [] ar u.2.2 ∧ u.2.1.2 = wd.2 ∧ (0 ≤ r.toInt ∧ r.toInt ≤ 65535) ∧ (r.toInt = wt_pr (ar 1) kk.toInt.toNat) ∧ True) (enX dC dI ob ad cA) (aX ob ad sz)) 0 0 (aX ob ad sz) := by
  refine Met.ofW (cc := cX2_pair) (maxL := 2) (ret := (some .int)) (by decide) rfl ?_
  intro p e s m args below meth c s₁ B hml hv
  obtain ⟨rfl, hsz, hP, hK⟩ := hv
  have hx := B.exec
  have hb := B.bytes
  have hr := B.returns
  have hts := atoms_spec (ws := (.code yX2_pair cX2_pair 2 (some .int) :: lw_good)) B.pre
  have htg : ∀ w ∈ lw_good, w.before _ s = true := fun w hw => hts w (List.mem_cons_of_mem _ hw)
  have hown : s.vm.findClass RX2 = some m.cls := findClass_of_methodNamed B.named
  have hlocks := B.notSynchronized
  subst hsz
  have hS : va_S (aX ob ad s.heap.size) s.heap s.heap [] := va_S.rf
  have hl := lv_entry ([.ref (ad 1), .int kk]) (n := 2) (Nat.le_of_ble_eq_true rfl)
  rw [lg_entry_eq]
  generalize (lg_sl ([.ref (ad 1), .int kk]) ++ List.replicate (2 - (lg_sl ([.ref (ad 1), .int kk])).length) Slot.unset).toArray = ls at hl ⊢
  have hl : lv_has ls 2 [(0, .ref (ad 1)), (1, .int kk)] := hl
  refine lv_aload_n hx hb dX2_pair_0 rfl (lv_at hl 0 rfl) ?_
  refine lv_iconst (v := 2) hx hb dX2_pair_1 (by decide) ?_
  refine lv_iload_n hx hb dX2_pair_2 rfl (lv_at hl 1 rfl) ?_
  refine lv_imul hx hb dX2_pair_3 ?_
  refine lv_topi (fun v_1 ev_1 => ?_)
  have t_2 : v_1.toInt = 2 * kk.toInt ∧ 0 ≤ v_1.toInt ∧ v_1.toInt ≤ 10 := iv_mulc ev_1 h_kk (by decide) (by decide) (by decide) (by decide)
  refine lX_1 hx hb hK hP (iv_in t_2.2 (by decide) (by decide)) dX2_pair_4 (fun v_4 ev_4 => ?_)
  have i_5 : 0 ≤ v_4.toInt ∧ v_4.toInt ≤ 255 := ev_4 ▸ hA_ar 1 _
  refine lv_sipush (v := 256) hx hb dX2_pair_5 (by decide) ?_
  refine lv_imul hx hb dX2_pair_8 ?_
  refine lv_topi (fun v_6 ev_6 => ?_)
  have t_7 : v_6.toInt = 256 * v_4.toInt ∧ 0 ≤ v_6.toInt ∧ v_6.toInt ≤ 65280 := iv_mulr ev_6 i_5 (by decide) (by decide) (by decide) (by decide)
  refine lv_aload_n hx hb dX2_pair_9 rfl (lv_at hl 0 rfl) ?_
  refine lv_iconst (v := 2) hx hb dX2_pair_10 (by decide) ?_
  refine lv_iload_n hx hb dX2_pair_11 rfl (lv_at hl 1 rfl) ?_
  refine lv_imul hx hb dX2_pair_12 ?_
  refine my_ti (y := v_1) ev_1.symm ?_
  refine lv_iconst (v := 1) hx hb dX2_pair_13 (by decide) ?_
  refine lv_iadd hx hb dX2_pair_14 ?_
  refine lv_topi (fun v_9 ev_9 => ?_)
  have t_10 : v_9.toInt = v_1.toInt + 1 ∧ 1 ≤ v_9.toInt ∧ v_9.toInt ≤ 11 := iv_addc ev_9 t_2.2 (by decide) (by decide) (by decide)
  refine lX_1 hx hb hK hP (iv_in t_10.2 (by decide) (by decide)) dX2_pair_15 (fun v_12 ev_12 => ?_)
  have i_13 : 0 ≤ v_12.toInt ∧ v_12.toInt ≤ 255 := ev_12 ▸ hA_ar 1 _
  refine lv_iadd hx hb dX2_pair_16 ?_
  refine lv_topi (fun v_14 ev_14 => ?_)
  have t_15 : v_14.toInt = v_6.toInt + v_12.toInt ∧ 0 ≤ v_14.toInt ∧ v_14.toInt ≤ 65535 := iv_add ev_14 t_7.2 i_13 (by decide) (by decide)
  exact W.iret (v := v_14) hx hb hr (fun t ht hW => ⟨⟨v_14, (fv, wd, ar), rfl, ⟨hF_fv, hA_ar, (fM_rf [] _), (fA_rf [] _), rfl, t_15.2, (show v_14.toInt = wt_pr (ar 1) kk.toInt.toNat from by have h1 : v_4 = ar 1 (2 * kk.toInt.toNat) := (by rw [ev_4]; show ar 1 (v_1.toInt.toNat) = _; rw [show v_1.toInt.toNat = 2 * kk.toInt.toNat from (by omega)]); have h2 : v_12 = ar 1 (2 * kk.toInt.toNat + 1) := (by rw [ev_12]; show ar 1 (v_9.toInt.toNat) = _; rw [show v_9.toInt.toNat = 2 * kk.toInt.toNat + 1 from (by omega)]); unfold wt_pr; rw [← h1, ← h2]; omega), trivial⟩, ⟨by rw [ht]; exact hP, va_K.moved hW.alike hK⟩⟩, hS.F ht⟩) hS.2.2 dX2_pair_17
set_option maxHeartbeats 4000000 in
set_option maxRecDepth 100000 in
theorem x_fitsC (l : Launch) (dC : Nat → ClassId) (dI : Nat → Nat → Nat) (sz : Nat) (ob ad : Nat → Nat) (cA : Nat → ClassId) (hd : dX ob ad) (fv : Nat → Int32) (wd : xT) (ar : Nat → Nat → Int32) (hF_fv : rX fv) (hA_ar : rB ar) : Met l yX2_fits (.code yX2_fits cX2_fits 1 (some .boolean) :: lw_good) ({ frames := 3, cells := 0, slots := 0, locals := 61 }) (va_Pc [.ref (ad 1)] (prX dC dI ob ad cA fv wd ar sz)) (va_Qi (fun (r : Int32) (u : xS) => rX u.1 ∧ rB u.2.2 ∧ fM [] fv u.1 ∧ fA [] ar u.2.2 ∧ u.2.1.2 = wd.2 ∧ (0 ≤ r.toInt ∧ r.toInt ≤ 1) ∧ ((r = 0 ∧ (600 < wt_pr (ar 1) 0 ∨ 719 < wt_pr (ar 1) 1 ∨ wt_pr (ar 1) 2 < 10 ∨ 99 < wt_pr (ar 1) 2 ∨ 9 < wt_pr (ar 1) 3 ∨ 10000 < wt_pr (ar 1) 4 ∨ 9 < wt_pr (ar 1) 5)) ∨ (r = 1 ∧ (¬ (600 < wt_pr (ar 1) 0 ∨ 719 < wt_pr (ar 1) 1 ∨ wt_pr (ar 1) 2 < 10 ∨ 99 < wt_pr (ar 1) 2 ∨ 9 < wt_pr (ar 1) 3 ∨ 10000 < wt_pr (ar 1) 4 ∨ 9 < wt_pr (ar 1) 5)))) ∧ True) (enX dC dI ob ad cA) (aX ob ad sz)) 0 0 (aX ob ad sz) := by
  refine Met.ofW (cc := cX2_fits) (maxL := 1) (ret := (some .boolean)) (by decide) rfl ?_
  intro p e s m args below meth c s₁ B hml hv
  obtain ⟨rfl, hsz, hP, hK⟩ := hv
  have hx := B.exec
  have hb := B.bytes
  have hr := B.returns
  have hts := atoms_spec (ws := (.code yX2_fits cX2_fits 1 (some .boolean) :: lw_good)) B.pre
  have htg : ∀ w ∈ lw_good, w.before _ s = true := fun w hw => hts w (List.mem_cons_of_mem _ hw)
  have hown : s.vm.findClass RX2 = some m.cls := findClass_of_methodNamed B.named
  have hlocks := B.notSynchronized
  subst hsz
  have hS : va_S (aX ob ad s.heap.size) s.heap s.heap [] := va_S.rf
  have hl := lv_entry ([.ref (ad 1)]) (n := 1) (Nat.le_of_ble_eq_true rfl)
  rw [lg_entry_eq]
  generalize (lg_sl ([.ref (ad 1)]) ++ List.replicate (1 - (lg_sl ([.ref (ad 1)])).length) Slot.unset).toArray = ls at hl ⊢
  have hl : lv_has ls 1 [(0, .ref (ad 1))] := hl
  refine lv_aload_n hx hb dX2_fits_0 rfl (lv_at hl 0 rfl) ?_
  refine lv_iconst (v := 0) hx hb dX2_fits_1 (by decide) ?_
  refine va_calli (va_runS (As := [.ref (ad 1), .int 0]) (rest := []) ⟨hx, hb, hml, hown, hts⟩ (x_pairC l dC dI s.heap.size ob ad cA hd fv wd ar hF_fv hA_ar 0 (iv_w (⟨by decide, by decide⟩ : (0 : Int) ≤ (0 : Int32).toInt ∧ (0 : Int32).toInt ≤ 0) (by decide) (by decide))) (va_cwS 2 hts (gS kw_3_171 kw_3_172 kw_1_4 kw_3_173) rfl rfl rfl (by decide +kernel) ⟨Nat.le_of_ble_eq_true rfl, Nat.le_of_ble_eq_true rfl⟩) ⟨fun a U g mk q => ⟨q.1, q.2.1, q.2.2.1, va_K.moved (u := U) (U := U.calling g mk a) (Vm.Alike.refl U.vm) q.2.2.2⟩, fun U hU hW => ⟨rfl, by rw [hU], by rw [hU]; exact hP, va_K.moved hW.alike hK⟩⟩ rfl rfl hl.1 rfl (lv_room (Nat.le_of_ble_eq_true rfl)) dX2_fits_2 ⟨Nat.le_of_ble_eq_true rfl, Nat.le_of_ble_eq_true rfl⟩) hS (fun q _ h9 => aX_up hS q h9) (aX_up hS) (fun r_1 u t H1 locs ht _ hw hB _ hk1 hS => ?_)
  obtain ⟨fv_4, wd_5, ar_6⟩ := u
  obtain ⟨hF_fv_4, hA_ar_6, fr_7, fa_8, wf_9, p_2, p_3, -⟩ := hw
  have wf_9 : wd_5.2 = wd.2 := wf_9
  have hP : va_P (dC, dI) vwCl (wsX ob ad cA fv_4 wd_5 ar_6) H1 := by have h9 := hB.1; rw [ht] at h9; exact h9
  have fr_7 : fM [] fv fv_4 := fr_7
  have fa_8 : fA [] ar ar_6 := fa_8
  have p_3 : r_1.toInt = wt_pr (ar 1) (0 : Int32).toInt.toNat := p_3
  generalize H1 = H at hP hS ⊢
  have k_10 : r_1.toInt = wt_pr (ar 1) 0 := by have h9 := p_3; rw [show (0 : Int32).toInt.toNat = 0 from (by decide)] at h9; exact h9
  refine lv_sipush (v := 600) hx hb dX2_fits_5 (by decide) ?_
  refine lv_icmp_gt (tgt := 79) hx hb dX2_fits_8 (by decide) (fun c_11 => ?_) (fun c_11 => ?_)
  · skip
    have i_12 : 601 ≤ r_1.toInt ∧ r_1.toInt ≤ 65535 := iv_lt2 (⟨by decide, by decide⟩ : (600 : Int) ≤ (600 : Int32).toInt ∧ (600 : Int32).toInt ≤ 600) p_2 c_11
    refine lv_iconst (v := 0) hx hb dX2_fits_79 (by decide) ?_
    exact W.zret (v := 0) hx hb hr (by decide) (fun t ht hW => ⟨⟨0, (fv_4, wd_5, ar_6), rfl, ⟨hF_fv_4, hA_ar_6, (fM_call (fM_rf [] _) fr_7 (by decide)), (fA_call (fA_rf [] _) fa_8 (by decide)), wf_9, (iv_w (⟨by decide, by decide⟩ : (0 : Int) ≤ (0 : Int32).toInt ∧ (0 : Int32).toInt ≤ 0) (by decide) (by decide)), (Or.inl ⟨rfl, by omega⟩), trivial⟩, ⟨by rw [ht]; exact hP, va_K.moved hW.alike hK⟩⟩, hS.F ht⟩) hS.2.2 dX2_fits_80
  · skip
    have i_13 : 0 ≤ r_1.toInt ∧ r_1.toInt ≤ 600 := iv_le1 p_2 (⟨by decide, by decide⟩ : (600 : Int) ≤ (600 : Int32).toInt ∧ (600 : Int32).toInt ≤ 600) (Int32.not_lt.mp c_11)
    refine lv_aload_n hx hb dX2_fits_11 rfl (lv_at hl 0 rfl) ?_
    refine lv_iconst (v := 1) hx hb dX2_fits_12 (by decide) ?_
    refine va_calli (va_runS (As := [.ref (ad 1), .int 1]) (rest := []) ⟨hx, hb, hml, hown, hts⟩ (x_pairC l dC dI H.size ob ad cA hd fv_4 wd_5 ar_6 hF_fv_4 hA_ar_6 1 (iv_w (⟨by decide, by decide⟩ : (1 : Int) ≤ (1 : Int32).toInt ∧ (1 : Int32).toInt ≤ 1) (by decide) (by decide))) (va_cwS 2 hts (gS kw_3_171 kw_3_172 kw_1_4 kw_3_173) rfl rfl rfl (by decide +kernel) ⟨Nat.le_of_ble_eq_true rfl, Nat.le_of_ble_eq_true rfl⟩) ⟨fun a U g mk q => ⟨q.1, q.2.1, q.2.2.1, va_K.moved (u := U) (U := U.calling g mk a) (Vm.Alike.refl U.vm) q.2.2.2⟩, fun U hU hW => ⟨rfl, by rw [hU], by rw [hU]; exact hP, va_K.moved hW.alike hK⟩⟩ rfl rfl hl.1 rfl (lv_room (Nat.le_of_ble_eq_true rfl)) dX2_fits_13 ⟨Nat.le_of_ble_eq_true rfl, Nat.le_of_ble_eq_true rfl⟩) hS (fun q _ h9 => aX_up hS q h9) (aX_up hS) (fun r_14 u t H1 locs ht _ hw hB _ hk1 hS => ?_)
    obtain ⟨fv_17, wd_18, ar_19⟩ := u
    obtain ⟨hF_fv_17, hA_ar_19, fr_20, fa_21, wf_22, p_15, p_16, -⟩ := hw
    have wf_22 : wd_18.2 = wd_5.2 := wf_22
    have hP : va_P (dC, dI) vwCl (wsX ob ad cA fv_17 wd_18 ar_19) H1 := by have h9 := hB.1; rw [ht] at h9; exact h9
    have fr_20 : fM [] fv_4 fv_17 := fr_20
    have fa_21 : fA [] ar_6 ar_19 := fa_21
    have p_16 : r_14.toInt = wt_pr (ar_6 1) (1 : Int32).toInt.toNat := p_16
    generalize H1 = H at hP hS ⊢
    have k_23 : r_14.toInt = wt_pr (ar 1) 1 := by have h9 := p_16; rw [show ar_6 1 = ar 1 from ((fA_call (fA_rf [] _) fa_8 (by decide)) 1 rfl), show (1 : Int32).toInt.toNat = 1 from (by decide)] at h9; exact h9
    refine lv_sipush (v := 719) hx hb dX2_fits_16 (by decide) ?_
    refine lv_icmp_gt (tgt := 79) hx hb dX2_fits_19 (by decide) (fun c_24 => ?_) (fun c_24 => ?_)
    · skip
      have i_25 : 720 ≤ r_14.toInt ∧ r_14.toInt ≤ 65535 := iv_lt2 (⟨by decide, by decide⟩ : (719 : Int) ≤ (719 : Int32).toInt ∧ (719 : Int32).toInt ≤ 719) p_15 c_24
      refine lv_iconst (v := 0) hx hb dX2_fits_79 (by decide) ?_
      exact W.zret (v := 0) hx hb hr (by decide) (fun t ht hW => ⟨⟨0, (fv_17, wd_18, ar_19), rfl, ⟨hF_fv_17, hA_ar_19, (fM_call (fM_call (fM_rf [] _) fr_7 (by decide)) fr_20 (by decide)), (fA_call (fA_call (fA_rf [] _) fa_8 (by decide)) fa_21 (by decide)), (wf_22.trans wf_9), (iv_w (⟨by decide, by decide⟩ : (0 : Int) ≤ (0 : Int32).toInt ∧ (0 : Int32).toInt ≤ 0) (by decide) (by decide)), (Or.inl ⟨rfl, by omega⟩), trivial⟩, ⟨by rw [ht]; exact hP, va_K.moved hW.alike hK⟩⟩, hS.F ht⟩) hS.2.2 dX2_fits_80
    · skip
      have i_26 : 0 ≤ r_14.toInt ∧ r_14.toInt ≤ 719 := iv_le1 p_15 (⟨by decide, by decide⟩ : (719 : Int) ≤ (719 : Int32).toInt ∧ (719 : Int32).toInt ≤ 719) (Int32.not_lt.mp c_24)
      refine lv_aload_n hx hb dX2_fits_22 rfl (lv_at hl 0 rfl) ?_
      refine lv_iconst (v := 2) hx hb dX2_fits_23 (by decide) ?_
      refine va_calli (va_runS (As := [.ref (ad 1), .int 2]) (rest := []) ⟨hx, hb, hml, hown, hts⟩ (x_pairC l dC dI H.size ob ad cA hd fv_17 wd_18 ar_19 hF_fv_17 hA_ar_19 2 (iv_w (⟨by decide, by decide⟩ : (2 : Int) ≤ (2 : Int32).toInt ∧ (2 : Int32).toInt ≤ 2) (by decide) (by decide))) (va_cwS 2 hts (gS kw_3_171 kw_3_172 kw_1_4 kw_3_173) rfl rfl rfl (by decide +kernel) ⟨Nat.le_of_ble_eq_true rfl, Nat.le_of_ble_eq_true rfl⟩) ⟨fun a U g mk q => ⟨q.1, q.2.1, q.2.2.1, va_K.moved (u := U) (U := U.calling g mk a) (Vm.Alike.refl U.vm) q.2.2.2⟩, fun U hU hW => ⟨rfl, by rw [hU], by rw [hU]; exact hP, va_K.moved hW.alike hK⟩⟩ rfl rfl hl.1 rfl (lv_room (Nat.le_of_ble_eq_true rfl)) dX2_fits_24 ⟨Nat.le_of_ble_eq_true rfl, Nat.le_of_ble_eq_true rfl⟩) hS (fun q _ h9 => aX_up hS q h9) (aX_up hS) (fun r_27 u t H1 locs ht _ hw hB _ hk1 hS => ?_)
      obtain ⟨fv_30, wd_31, ar_32⟩ := u
      obtain ⟨hF_fv_30, hA_ar_32, fr_33, fa_34, wf_35, p_28, p_29, -⟩ := hw
      have wf_35 : wd_31.2 = wd_18.2 := wf_35
      have hP : va_P (dC, dI) vwCl (wsX ob ad cA fv_30 wd_31 ar_32) H1 := by have h9 := hB.1; rw [ht] at h9; exact h9
      have fr_33 : fM [] fv_17 fv_30 := fr_33
      have fa_34 : fA [] ar_19 ar_32 := fa_34
      have p_29 : r_27.toInt = wt_pr (ar_19 1) (2 : Int32).toInt.toNat := p_29
      generalize H1 = H at hP hS ⊢
      have k_36 : r_27.toInt = wt_pr (ar 1) 2 := by have h9 := p_29; rw [show ar_19 1 = ar 1 from ((fA_call (fA_call (fA_rf [] _) fa_8 (by decide)) fa_21 (by decide)) 1 rfl), show (2 : Int32).toInt.toNat = 2 from (by decide)] at h9; exact h9
      refine lv_bipush (v := 10) hx hb dX2_fits_27 (by decide) ?_
      refine lv_icmp_lt (tgt := 79) hx hb dX2_fits_29 (by decide) (fun c_37 => ?_) (fun c_37 => ?_)
      · skip
        have i_38 : 0 ≤ r_27.toInt ∧ r_27.toInt ≤ 9 := iv_lt1 p_28 (⟨by decide, by decide⟩ : (10 : Int) ≤ (10 : Int32).toInt ∧ (10 : Int32).toInt ≤ 10) c_37
        refine lv_iconst (v := 0) hx hb dX2_fits_79 (by decide) ?_
        exact W.zret (v := 0) hx hb hr (by decide) (fun t ht hW => ⟨⟨0, (fv_30, wd_31, ar_32), rfl, ⟨hF_fv_30, hA_ar_32, (fM_call (fM_call (fM_call (fM_rf [] _) fr_7 (by decide)) fr_20 (by decide)) fr_33 (by decide)), (fA_call (fA_call (fA_call (fA_rf [] _) fa_8 (by decide)) fa_21 (by decide)) fa_34 (by decide)), (wf_35.trans (wf_22.trans wf_9)), (iv_w (⟨by decide, by decide⟩ : (0 : Int) ≤ (0 : Int32).toInt ∧ (0 : Int32).toInt ≤ 0) (by decide) (by decide)), (Or.inl ⟨rfl, by omega⟩), trivial⟩, ⟨by rw [ht]; exact hP, va_K.moved hW.alike hK⟩⟩, hS.F ht⟩) hS.2.2 dX2_fits_80
      · skip
        have i_39 : 10 ≤ r_27.toInt ∧ r_27.toInt ≤ 65535 := iv_le2 (⟨by decide, by decide⟩ : (10 : Int) ≤ (10 : Int32).toInt ∧ (10 : Int32).toInt ≤ 10) p_28 (Int32.not_lt.mp c_37)
        refine lv_aload_n hx hb dX2_fits_32 rfl (lv_at hl 0 rfl) ?_
        refine lv_iconst (v := 2) hx hb dX2_fits_33 (by decide) ?_
        refine va_calli (va_runS (As := [.ref (ad 1), .int 2]) (rest := []) ⟨hx, hb, hml, hown, hts⟩ (x_pairC l dC dI H.size ob ad cA hd fv_30 wd_31 ar_32 hF_fv_30 hA_ar_32 2 (iv_w (⟨by decide, by decide⟩ : (2 : Int) ≤ (2 : Int32).toInt ∧ (2 : Int32).toInt ≤ 2) (by decide) (by decide))) (va_cwS 2 hts (gS kw_3_171 kw_3_172 kw_1_4 kw_3_173) rfl rfl rfl (by decide +kernel) ⟨Nat.le_of_ble_eq_true rfl, Nat.le_of_ble_eq_true rfl⟩) ⟨fun a U g mk q => ⟨q.1, q.2.1, q.2.2.1, va_K.moved (u := U) (U := U.calling g mk a) (Vm.Alike.refl U.vm) q.2.2.2⟩, fun U hU hW => ⟨rfl, by rw [hU], by rw [hU]; exact hP, va_K.moved hW.alike hK⟩⟩ rfl rfl hl.1 rfl (lv_room (Nat.le_of_ble_eq_true rfl)) dX2_fits_34 ⟨Nat.le_of_ble_eq_true rfl, Nat.le_of_ble_eq_true rfl⟩) hS (fun q _ h9 => aX_up hS q h9) (aX_up hS) (fun r_40 u t H1 locs ht _ hw hB _ hk1 hS => ?_)
        obtain ⟨fv_43, wd_44, ar_45⟩ := u
        obtain ⟨hF_fv_43, hA_ar_45, fr_46, fa_47, wf_48, p_41, p_42, -⟩ := hw
        have wf_48 : wd_44.2 = wd_31.2 := wf_48
        have hP : va_P (dC, dI) vwCl (wsX ob ad cA fv_43 wd_44 ar_45) H1 := by have h9 := hB.1; rw [ht] at h9; exact h9
        have fr_46 : fM [] fv_30 fv_43 := fr_46
        have fa_47 : fA [] ar_32 ar_45 := fa_47
        have p_42 : r_40.toInt = wt_pr (ar_32 1) (2 : Int32).toInt.toNat := p_42
        generalize H1 = H at hP hS ⊢
        have k_49 : r_40.toInt = wt_pr (ar 1) 2 := by have h9 := p_42; rw [show ar_32 1 = ar 1 from ((fA_call (fA_call (fA_call (fA_rf [] _) fa_8 (by decide)) fa_21 (by decide)) fa_34 (by decide)) 1 rfl), show (2 : Int32).toInt.toNat = 2 from (by decide)] at h9; exact h9
        refine lv_bipush (v := 99) hx hb dX2_fits_37 (by decide) ?_
        refine lv_icmp_gt (tgt := 79) hx hb dX2_fits_39 (by decide) (fun c_50 => ?_) (fun c_50 => ?_)
        · skip
          have i_51 : 100 ≤ r_40.toInt ∧ r_40.toInt ≤ 65535 := iv_lt2 (⟨by decide, by decide⟩ : (99 : Int) ≤ (99 : Int32).toInt ∧ (99 : Int32).toInt ≤ 99) p_41 c_50
          refine lv_iconst (v := 0) hx hb dX2_fits_79 (by decide) ?_
          exact W.zret (v := 0) hx hb hr (by decide) (fun t ht hW => ⟨⟨0, (fv_43, wd_44, ar_45), rfl, ⟨hF_fv_43, hA_ar_45, (fM_call (fM_call (fM_call (fM_call (fM_rf [] _) fr_7 (by decide)) fr_20 (by decide)) fr_33 (by decide)) fr_46 (by decide)), (fA_call (fA_call (fA_call (fA_call (fA_rf [] _) fa_8 (by decide)) fa_21 (by decide)) fa_34 (by decide)) fa_47 (by decide)), (wf_48.trans (wf_35.trans (wf_22.trans wf_9))), (iv_w (⟨by decide, by decide⟩ : (0 : Int) ≤ (0 : Int32).toInt ∧ (0 : Int32).toInt ≤ 0) (by decide) (by decide)), (Or.inl ⟨rfl, by omega⟩), trivial⟩, ⟨by rw [ht]; exact hP, va_K.moved hW.alike hK⟩⟩, hS.F ht⟩) hS.2.2 dX2_fits_80
        · skip
          have i_52 : 0 ≤ r_40.toInt ∧ r_40.toInt ≤ 99 := iv_le1 p_41 (⟨by decide, by decide⟩ : (99 : Int) ≤ (99 : Int32).toInt ∧ (99 : Int32).toInt ≤ 99) (Int32.not_lt.mp c_50)
          refine lv_aload_n hx hb dX2_fits_42 rfl (lv_at hl 0 rfl) ?_
          refine lv_iconst (v := 3) hx hb dX2_fits_43 (by decide) ?_
          refine va_calli (va_runS (As := [.ref (ad 1), .int 3]) (rest := []) ⟨hx, hb, hml, hown, hts⟩ (x_pairC l dC dI H.size ob ad cA hd fv_43 wd_44 ar_45 hF_fv_43 hA_ar_45 3 (iv_w (⟨by decide, by decide⟩ : (3 : Int) ≤ (3 : Int32).toInt ∧ (3 : Int32).toInt ≤ 3) (by decide) (by decide))) (va_cwS 2 hts (gS kw_3_171 kw_3_172 kw_1_4 kw_3_173) rfl rfl rfl (by decide +kernel) ⟨Nat.le_of_ble_eq_true rfl, Nat.le_of_ble_eq_true rfl⟩) ⟨fun a U g mk q => ⟨q.1, q.2.1, q.2.2.1, va_K.moved (u := U) (U := U.calling g mk a) (Vm.Alike.refl U.vm) q.2.2.2⟩, fun U hU hW => ⟨rfl, by rw [hU], by rw [hU]; exact hP, va_K.moved hW.alike hK⟩⟩ rfl rfl hl.1 rfl (lv_room (Nat.le_of_ble_eq_true rfl)) dX2_fits_44 ⟨Nat.le_of_ble_eq_true rfl, Nat.le_of_ble_eq_true rfl⟩) hS (fun q _ h9 => aX_up hS q h9) (aX_up hS) (fun r_53 u t H1 locs ht _ hw hB _ hk1 hS => ?_)
          obtain ⟨fv_56, wd_57, ar_58⟩ := u
          obtain ⟨hF_fv_56, hA_ar_58, fr_59, fa_60, wf_61, p_54, p_55, -⟩ := hw
          have wf_61 : wd_57.2 = wd_44.2 := wf_61
          have hP : va_P (dC, dI) vwCl (wsX ob ad cA fv_56 wd_57 ar_58) H1 := by have h9 := hB.1; rw [ht] at h9; exact h9
          have fr_59 : fM [] fv_43 fv_56 := fr_59
          have fa_60 : fA [] ar_45 ar_58 := fa_60
          have p_55 : r_53.toInt = wt_pr (ar_45 1) (3 : Int32).toInt.toNat := p_55
          generalize H1 = H at hP hS ⊢
          have k_62 : r_53.toInt = wt_pr (ar 1) 3 := by have h9 := p_55; rw [show ar_45 1 = ar 1 from ((fA_call (fA_call (fA_call (fA_call (fA_rf [] _) fa_8 (by decide)) fa_21 (by decide)) fa_34 (by decide)) fa_47 (by decide)) 1 rfl), show (3 : Int32).toInt.toNat = 3 from (by decide)] at h9; exact h9
          refine lv_bipush (v := 9) hx hb dX2_fits_47 (by decide) ?_
          refine lv_icmp_gt (tgt := 79) hx hb dX2_fits_49 (by decide) (fun c_63 => ?_) (fun c_63 => ?_)
          · skip
            have i_64 : 10 ≤ r_53.toInt ∧ r_53.toInt ≤ 65535 := iv_lt2 (⟨by decide, by decide⟩ : (9 : Int) ≤ (9 : Int32).toInt ∧ (9 : Int32).toInt ≤ 9) p_54 c_63
            refine lv_iconst (v := 0) hx hb dX2_fits_79 (by decide) ?_
            exact W.zret (v := 0) hx hb hr (by decide) (fun t ht hW => ⟨⟨0, (fv_56, wd_57, ar_58), rfl, ⟨hF_fv_56, hA_ar_58, (fM_call (fM_call (fM_call (fM_call (fM_call (fM_rf [] _) fr_7 (by decide)) fr_20 (by decide)) fr_33 (by decide)) fr_46 (by decide)) fr_59 (by decide)), (fA_call (fA_call (fA_call (fA_call (fA_call (fA_rf [] _) fa_8 (by decide)) fa_21 (by decide)) fa_34 (by decide)) fa_47 (by decide)) fa_60 (by decide)), (wf_61.trans (wf_48.trans (wf_35.trans (wf_22.trans wf_9)))), (iv_w (⟨by decide, by decide⟩ : (0 : Int) ≤ (0 : Int32).toInt ∧ (0 : Int32).toInt ≤ 0) (by decide) (by decide)), (Or.inl ⟨rfl, by omega⟩), trivial⟩, ⟨by rw [ht]; exact hP, va_K.moved hW.alike hK⟩⟩, hS.F ht⟩) hS.2.2 dX2_fits_80
          · skip
            have i_65 : 0 ≤ r_53.toInt ∧ r_53.toInt ≤ 9 := iv_le1 p_54 (⟨by decide, by decide⟩ : (9 : Int) ≤ (9 : Int32).toInt ∧ (9 : Int32).toInt ≤ 9) (Int32.not_lt.mp c_63)
            refine lv_aload_n hx hb dX2_fits_52 rfl (lv_at hl 0 rfl) ?_
            refine lv_iconst (v := 4) hx hb dX2_fits_53 (by decide) ?_
            refine va_calli (va_runS (As := [.ref (ad 1), .int 4]) (rest := []) ⟨hx, hb, hml, hown, hts⟩ (x_pairC l dC dI H.size ob ad cA hd fv_56 wd_57 ar_58 hF_fv_56 hA_ar_58 4 (iv_w (⟨by decide, by decide⟩ : (4 : Int) ≤ (4 : Int32).toInt ∧ (4 : Int32).toInt ≤ 4) (by decide) (by decide))) (va_cwS 2 hts (gS kw_3_171 kw_3_172 kw_1_4 kw_3_173) rfl rfl rfl (by decide +kernel) ⟨Nat.le_of_ble_eq_true rfl, Nat.le_of_ble_eq_true rfl⟩) ⟨fun a U g mk q => ⟨q.1, q.2.1, q.2.2.1, va_K.moved (u := U) (U := U.calling g mk a) (Vm.Alike.refl U.vm) q.2.2.2⟩, fun U hU hW => ⟨rfl, by rw [hU], by rw [hU]; exact hP, va_K.moved hW.alike hK⟩⟩ rfl rfl hl.1 rfl (lv_room (Nat.le_of_ble_eq_true rfl)) dX2_fits_54 ⟨Nat.le_of_ble_eq_true rfl, Nat.le_of_ble_eq_true rfl⟩) hS (fun q _ h9 => aX_up hS q h9) (aX_up hS) (fun r_66 u t H1 locs ht _ hw hB _ hk1 hS => ?_)
            obtain ⟨fv_69, wd_70, ar_71⟩ := u
            obtain ⟨hF_fv_69, hA_ar_71, fr_72, fa_73, wf_74, p_67, p_68, -⟩ := hw
            have wf_74 : wd_70.2 = wd_57.2 := wf_74
            have hP : va_P (dC, dI) vwCl (wsX ob ad cA fv_69 wd_70 ar_71) H1 := by have h9 := hB.1; rw [ht] at h9; exact h9
            have fr_72 : fM [] fv_56 fv_69 := fr_72
            have fa_73 : fA [] ar_58 ar_71 := fa_73
            have p_68 : r_66.toInt = wt_pr (ar_58 1) (4 : Int32).toInt.toNat := p_68
            generalize H1 = H at hP hS ⊢
            have k_75 : r_66.toInt = wt_pr (ar 1) 4 := by have h9 := p_68; rw [show ar_58 1 = ar 1 from ((fA_call (fA_call (fA_call (fA_call (fA_call (fA_rf [] _) fa_8 (by decide)) fa_21 (by decide)) fa_34 (by decide)) fa_47 (by decide)) fa_60 (by decide)) 1 rfl), show (4 : Int32).toInt.toNat = 4 from (by decide)] at h9; exact h9
            refine lv_bipush (v := 10) hx hb dX2_fits_57 (by decide) ?_
            refine lv_imul hx hb dX2_fits_59 ?_
            refine lv_topi (fun v_76 ev_76 => ?_)
            have t_77 : v_76.toInt = 10 * r_66.toInt ∧ 0 ≤ v_76.toInt ∧ v_76.toInt ≤ 655350 := iv_mulr ev_76 p_67 (by decide) (by decide) (by decide) (by decide)
            refine lv_ldc hx hb hown (htg (.constant RX2 66 100000) kw_3_174) dX2_fits_60 ?_
            refine lv_icmp_gt (tgt := 79) hx hb dX2_fits_62 (by decide) (fun c_79 => ?_) (fun c_79 => ?_)
            · skip
              have i_80 : 100001 ≤ v_76.toInt ∧ v_76.toInt ≤ 655350 := iv_lt2 (⟨by decide, by decide⟩ : (100000 : Int) ≤ (100000 : Int32).toInt ∧ (100000 : Int32).toInt ≤ 100000) t_77.2 c_79
              refine lv_iconst (v := 0) hx hb dX2_fits_79 (by decide) ?_
              exact W.zret (v := 0) hx hb hr (by decide) (fun t ht hW => ⟨⟨0, (fv_69, wd_70, ar_71), rfl, ⟨hF_fv_69, hA_ar_71, (fM_call (fM_call (fM_call (fM_call (fM_call (fM_call (fM_rf [] _) fr_7 (by decide)) fr_20 (by decide)) fr_33 (by decide)) fr_46 (by decide)) fr_59 (by decide)) fr_72 (by decide)), (fA_call (fA_call (fA_call (fA_call (fA_call (fA_call (fA_rf [] _) fa_8 (by decide)) fa_21 (by decide)) fa_34 (by decide)) fa_47 (by decide)) fa_60 (by decide)) fa_73 (by decide)), (wf_74.trans (wf_61.trans (wf_48.trans (wf_35.trans (wf_22.trans wf_9))))), (iv_w (⟨by decide, by decide⟩ : (0 : Int) ≤ (0 : Int32).toInt ∧ (0 : Int32).toInt ≤ 0) (by decide) (by decide)), (Or.inl ⟨rfl, by omega⟩), trivial⟩, ⟨by rw [ht]; exact hP, va_K.moved hW.alike hK⟩⟩, hS.F ht⟩) hS.2.2 dX2_fits_80
            · skip
              have i_81 : 0 ≤ v_76.toInt ∧ v_76.toInt ≤ 100000 := iv_le1 t_77.2 (⟨by decide, by decide⟩ : (100000 : Int) ≤ (100000 : Int32).toInt ∧ (100000 : Int32).toInt ≤ 100000) (Int32.not_lt.mp c_79)
              refine lv_aload_n hx hb dX2_fits_65 rfl (lv_at hl 0 rfl) ?_
              refine lv_iconst (v := 5) hx hb dX2_fits_66 (by decide) ?_
              refine va_calli (va_runS (As := [.ref (ad 1), .int 5]) (rest := []) ⟨hx, hb, hml, hown, hts⟩ (x_pairC l dC dI H.size ob ad cA hd fv_69 wd_70 ar_71 hF_fv_69 hA_ar_71 5 (iv_w (⟨by decide, by decide⟩ : (5 : Int) ≤ (5 : Int32).toInt ∧ (5 : Int32).toInt ≤ 5) (by decide) (by decide))) (va_cwS 2 hts (gS kw_3_171 kw_3_172 kw_1_4 kw_3_173) rfl rfl rfl (by decide +kernel) ⟨Nat.le_of_ble_eq_true rfl, Nat.le_of_ble_eq_true rfl⟩) ⟨fun a U g mk q => ⟨q.1, q.2.1, q.2.2.1, va_K.moved (u := U) (U := U.calling g mk a) (Vm.Alike.refl U.vm) q.2.2.2⟩, fun U hU hW => ⟨rfl, by rw [hU], by rw [hU]; exact hP, va_K.moved hW.alike hK⟩⟩ rfl rfl hl.1 rfl (lv_room (Nat.le_of_ble_eq_true rfl)) dX2_fits_67 ⟨Nat.le_of_ble_eq_true rfl, Nat.le_of_ble_eq_true rfl⟩) hS (fun q _ h9 => aX_up hS q h9) (aX_up hS) (fun r_82 u t H1 locs ht _ hw hB _ hk1 hS => ?_)
              obtain ⟨fv_85, wd_86, ar_87⟩ := u
              obtain ⟨hF_fv_85, hA_ar_87, fr_88, fa_89, wf_90, p_83, p_84, -⟩ := hw
              have wf_90 : wd_86.2 = wd_70.2 := wf_90
              have hP : va_P (dC, dI) vwCl (wsX ob ad cA fv_85 wd_86 ar_87) H1 := by have h9 := hB.1; rw [ht] at h9; exact h9
              have fr_88 : fM [] fv_69 fv_85 := fr_88
              have fa_89 : fA [] ar_71 ar_87 := fa_89
              have p_84 : r_82.toInt = wt_pr (ar_71 1) (5 : Int32).toInt.toNat := p_84
              generalize H1 = H at hP hS ⊢
              have k_91 : r_82.toInt = wt_pr (ar 1) 5 := by have h9 := p_84; rw [show ar_71 1 = ar 1 from ((fA_call (fA_call (fA_call (fA_call (fA_call (fA_call (fA_rf [] _) fa_8 (by decide)) fa_21 (by decide)) fa_34 (by decide)) fa_47 (by decide)) fa_60 (by decide)) fa_73 (by decide)) 1 rfl), show (5 : Int32).toInt.toNat = 5 from (by decide)] at h9; exact h9
              refine lv_bipush (v := 9) hx hb dX2_fits_70 (by decide) ?_
              refine lv_icmp_gt (tgt := 79) hx hb dX2_fits_72 (by decide) (fun c_92 => ?_) (fun c_92 => ?_)
              · skip
                have i_93 : 10 ≤ r_82.toInt ∧ r_82.toInt ≤ 65535 := iv_lt2 (⟨by decide, by decide⟩ : (9 : Int) ≤ (9 : Int32).toInt ∧ (9 : Int32).toInt ≤ 9) p_83 c_92
                refine lv_iconst (v := 0) hx hb dX2_fits_79 (by decide) ?_
                exact W.zret (v := 0) hx hb hr (by decide) (fun t ht hW => ⟨⟨0, (fv_85, wd_86, ar_87), rfl, ⟨hF_fv_85, hA_ar_87, (fM_call (fM_call (fM_call (fM_call (fM_call (fM_call (fM_call (fM_rf [] _) fr_7 (by decide)) fr_20 (by decide)) fr_33 (by decide)) fr_46 (by decide)) fr_59 (by decide)) fr_72 (by decide)) fr_88 (by decide)), (fA_call (fA_call (fA_call (fA_call (fA_call (fA_call (fA_call (fA_rf [] _) fa_8 (by decide)) fa_21 (by decide)) fa_34 (by decide)) fa_47 (by decide)) fa_60 (by decide)) fa_73 (by decide)) fa_89 (by decide)), (wf_90.trans (wf_74.trans (wf_61.trans (wf_48.trans (wf_35.trans (wf_22.trans wf_9)))))), (iv_w (⟨by decide, by decide⟩ : (0 : Int) ≤ (0 : Int32).toInt ∧ (0 : Int32).toInt ≤ 0) (by decide) (by decide)), (Or.inl ⟨rfl, by omega⟩), trivial⟩, ⟨by rw [ht]; exact hP, va_K.moved hW.alike hK⟩⟩, hS.F ht⟩) hS.2.2 dX2_fits_80
              · skip
                have i_94 : 0 ≤ r_82.toInt ∧ r_82.toInt ≤ 9 := iv_le1 p_83 (⟨by decide, by decide⟩ : (9 : Int) ≤ (9 : Int32).toInt ∧ (9 : Int32).toInt ≤ 9) (Int32.not_lt.mp c_92)
                refine lv_iconst (v := 1) hx hb dX2_fits_75 (by decide) ?_
                refine lv_goto (tgt := 80) hx hb dX2_fits_76 (by decide) ?_
                exact W.zret (v := 1) hx hb hr (by decide) (fun t ht hW => ⟨⟨1, (fv_85, wd_86, ar_87), rfl, ⟨hF_fv_85, hA_ar_87, (fM_call (fM_call (fM_call (fM_call (fM_call (fM_call (fM_call (fM_rf [] _) fr_7 (by decide)) fr_20 (by decide)) fr_33 (by decide)) fr_46 (by decide)) fr_59 (by decide)) fr_72 (by decide)) fr_88 (by decide)), (fA_call (fA_call (fA_call (fA_call (fA_call (fA_call (fA_call (fA_rf [] _) fa_8 (by decide)) fa_21 (by decide)) fa_34 (by decide)) fa_47 (by decide)) fa_60 (by decide)) fa_73 (by decide)) fa_89 (by decide)), (wf_90.trans (wf_74.trans (wf_61.trans (wf_48.trans (wf_35.trans (wf_22.trans wf_9)))))), (iv_w (⟨by decide, by decide⟩ : (1 : Int) ≤ (1 : Int32).toInt ∧ (1 : Int32).toInt ≤ 1) (by decide) (by decide)), (Or.inr (⟨rfl, by omega⟩)), trivial⟩, ⟨by rw [ht]; exact hP, va_K.moved hW.alike hK⟩⟩, hS.F ht⟩) hS.2.2 dX2_fits_80
set_option maxHeartbeats 4000000 in
set_option maxRecDepth 100000 in
theorem x_tapeIsRainC (l : Launch) (dC : Nat → ClassId) (dI : Nat → Nat → Nat) (sz : Nat) (ob ad : Nat → Nat) (cA : Nat → ClassId) (hd : dX ob ad) (fv : Nat → Int32) (wd : xT) (ar : Nat → Nat → Int32) (hF_fv : rX fv) (hA_ar : rB ar) : Met l yX11_tapeIsRain (.code yX11_tapeIsRain cX11_tapeIsRain 2 (some .boolean) :: lw_good) ({ frames := 2, cells := 0, slots := 0, locals := 40 }) (va_Pc [.ref (ob 0)] (prX dC dI ob ad cA fv wd ar sz)) (va_Qi (fun (r : Int32) (u : xS) => rX u.1 ∧ rB u.2.2 ∧ fM [] fv u.1 ∧ fA [] ar u.2.2 ∧ u.2.1.2 = wd.2 ∧ (0 ≤ r.toInt ∧ r.toInt ≤ 1) ∧ ((r = 0 ∧ (¬ wt_ok (fv 0).toInt (ar 1))) ∨ (r = 1 ∧ (wt_ok (fv 0).toInt (ar 1)) ∧ ((fv 0).toInt ≤ 200))) ∧ True) (enX dC dI ob ad cA) (aX ob ad sz)) 0 0 (aX ob ad sz) := by
  refine Met.ofW (cc := cX11_tapeIsRain) (maxL := 2) (ret := (some .boolean)) (by decide) rfl ?_
  intro p e s m args below meth c s₁ B hml hv
  obtain ⟨rfl, hsz, hP, hK⟩ := hv
  have hx := B.exec
  have hb := B.bytes
  have hr := B.returns
  have hts := atoms_spec (ws := (.code yX11_tapeIsRain cX11_tapeIsRain 2 (some .boolean) :: lw_good)) B.pre
  have htg : ∀ w ∈ lw_good, w.before _ s = true := fun w hw => hts w (List.mem_cons_of_mem _ hw)
  have hown : s.vm.findClass RX11 = some m.cls := findClass_of_methodNamed B.named
  have hlocks := B.notSynchronized
  subst hsz
  have hS : va_S (aX ob ad s.heap.size) s.heap s.heap [] := va_S.rf
  have hl := lv_entry ([.ref (ob 0)]) (n := 2) (Nat.le_of_ble_eq_true rfl)
  rw [lg_entry_eq]
  generalize (lg_sl ([.ref (ob 0)]) ++ List.replicate (2 - (lg_sl ([.ref (ob 0)])).length) Slot.unset).toArray = ls at hl ⊢
  have hl : lv_has ls 2 [(0, .ref (ob 0))] := hl
  refine lv_aload_n hx hb dX11_tapeIsRain_0 rfl (lv_at hl 0 rfl) ?_
  refine gX_X11_50 hx hb htg hown hK hP dX11_tapeIsRain_1 ?_
  have i_1 : 0 ≤ (fv 0).toInt ∧ (fv 0).toInt ≤ 340 := hF_fv 0
  refine lv_iconst (v := 1) hx hb dX11_tapeIsRain_4 (by decide) ?_
  refine lv_icmp_lt (tgt := 18) hx hb dX11_tapeIsRain_5 (by decide) (fun c_2 => ?_) (fun c_2 => ?_)
  · skip
    have i_3 : 0 ≤ (fv 0).toInt ∧ (fv 0).toInt ≤ 0 := iv_lt1 i_1 (⟨by decide, by decide⟩ : (1 : Int) ≤ (1 : Int32).toInt ∧ (1 : Int32).toInt ≤ 1) c_2
    refine lv_iconst (v := 0) hx hb dX11_tapeIsRain_18 (by decide) ?_
    exact W.zret (v := 0) hx hb hr (by decide) (fun t ht hW => ⟨⟨0, (fv, wd, ar), rfl, ⟨hF_fv, hA_ar, (fM_rf [] _), (fA_rf [] _), rfl, (iv_w (⟨by decide, by decide⟩ : (0 : Int) ≤ (0 : Int32).toInt ∧ (0 : Int32).toInt ≤ 0) (by decide) (by decide)), (Or.inl ⟨rfl, (fun w => by have h1 := w.1; have h2 := w.2.1; omega)⟩), trivial⟩, ⟨by rw [ht]; exact hP, va_K.moved hW.alike hK⟩⟩, hS.F ht⟩) hS.2.2 dX11_tapeIsRain_19
  · skip
    have i_4 : 1 ≤ (fv 0).toInt ∧ (fv 0).toInt ≤ 340 := iv_le2 (⟨by decide, by decide⟩ : (1 : Int) ≤ (1 : Int32).toInt ∧ (1 : Int32).toInt ≤ 1) i_1 (Int32.not_lt.mp c_2)
    refine lv_aload_n hx hb dX11_tapeIsRain_8 rfl (lv_at hl 0 rfl) ?_
    refine gX_X11_50 hx hb htg hown hK hP dX11_tapeIsRain_9 ?_
    refine lv_sipush (v := 200) hx hb dX11_tapeIsRain_12 (by decide) ?_
    refine lv_icmp_le (tgt := 20) hx hb dX11_tapeIsRain_15 (by decide) (fun c_5 => ?_) (fun c_5 => ?_)
    · skip
      have i_6 : 1 ≤ (fv 0).toInt ∧ (fv 0).toInt ≤ 200 := iv_le1 i_4 (⟨by decide, by decide⟩ : (200 : Int) ≤ (200 : Int32).toInt ∧ (200 : Int32).toInt ≤ 200) c_5
      refine lv_iconst (v := 0) hx hb dX11_tapeIsRain_20 (by decide) ?_
      refine lv_istore_n (lv' := [(1, .int 0), (0, .ref (ob 0))]) hx hb dX11_tapeIsRain_21 rfl hl (by decide) rfl (fun ls hl => ?_)
      refine my_cut (P := fun R9 a9 Q9 => ∀ (n_9 : Nat) (x_7 : Int32) (H : Heap) (locs : List Loc) (ls : Array Slot), 200 - x_7.toInt < (n_9 : Int) → (0 ≤ x_7.toInt ∧ x_7.toInt ≤ 200) → (∀ j : Nat, (j : Int) < x_7.toInt → (ar 1 j).toInt ≤ 9 ∨ (ar 1 j).toInt = 255) → va_P (dC, dI) vwCl (wsX ob ad cA fv wd ar) H → va_S (aX ob ad s.heap.size) s.heap H locs → lv_has ls 2 [(0, .ref (ob 0)), (1, .int x_7)] → W p l e R9 s m a9 below meth c H locs 0 0 Q9 (F0 m 22 ls [])) ?_ (fun hj_11 => ?_)
      · intro n_9
        induction n_9 with
        | zero => intro x_7 H locs ls fu_10 i_x_7 q_8; exfalso; omega
        | succ n_9 ih_9 =>
          intro x_7 H locs ls fu_10 i_x_7 q_8 hP hS hl
          refine lv_iload_n hx hb dX11_tapeIsRain_22 rfl (lv_at hl 1 rfl) ?_
          refine lv_aload_n hx hb dX11_tapeIsRain_23 rfl (lv_at hl 0 rfl) ?_
          refine gX_X11_50 hx hb htg hown hK hP dX11_tapeIsRain_24 ?_
          refine lv_icmp_ge (tgt := 61) hx hb dX11_tapeIsRain_27 (by decide) (fun c_12 => ?_) (fun c_12 => ?_)
          · skip
            have i_13 : 1 ≤ x_7.toInt ∧ x_7.toInt ≤ 200 := iv_le2 i_6 i_x_7 c_12
            have k_14 := Int32.le_iff_toInt_le.mp c_12
            refine lv_iconst (v := 1) hx hb dX11_tapeIsRain_61 (by decide) ?_
            exact W.zret (v := 1) hx hb hr (by decide) (fun t ht hW => ⟨⟨1, (fv, wd, ar), rfl, ⟨hF_fv, hA_ar, (fM_rf [] _), (fA_rf [] _), rfl, (iv_w (⟨by decide, by decide⟩ : (1 : Int) ≤ (1 : Int32).toInt ∧ (1 : Int32).toInt ≤ 1) (by decide) (by decide)), (Or.inr (⟨rfl, ⟨(⟨by omega, by omega, fun j hj => q_8 j (by omega)⟩), by omega⟩⟩)), trivial⟩, ⟨by rw [ht]; exact hP, va_K.moved hW.alike hK⟩⟩, hS.F ht⟩) hS.2.2 dX11_tapeIsRain_62
          · skip
            have i_15 : 0 ≤ x_7.toInt ∧ x_7.toInt ≤ 199 := iv_lt1 i_x_7 i_6 (Int32.not_le.mp c_12)
            have k_16 := Int32.lt_iff_toInt_lt.mp (Int32.not_le.mp c_12)
            refine lv_aload_n hx hb dX11_tapeIsRain_30 rfl (lv_at hl 0 rfl) ?_
            refine gX_X11_9 hx hb htg hown hK hP dX11_tapeIsRain_31 ?_
            refine lv_iload_n hx hb dX11_tapeIsRain_34 rfl (lv_at hl 1 rfl) ?_
            refine lX_1 hx hb hK hP (iv_in i_15 (by decide) (by decide)) dX11_tapeIsRain_35 (fun v_17 ev_17 => ?_)
            have i_18 : 0 ≤ v_17.toInt ∧ v_17.toInt ≤ 255 := ev_17 ▸ hA_ar 1 _
            refine lv_bipush (v := 9) hx hb dX11_tapeIsRain_36 (by decide) ?_
            refine lv_icmp_le (tgt := 55) hx hb dX11_tapeIsRain_38 (by decide) (fun c_19 => ?_) (fun c_19 => ?_)
            · skip
              have i_20 : 0 ≤ v_17.toInt ∧ v_17.toInt ≤ 9 := iv_le1 i_18 (⟨by decide, by decide⟩ : (9 : Int) ≤ (9 : Int32).toInt ∧ (9 : Int32).toInt ≤ 9) c_19
              obtain ⟨v_21, ev_21⟩ : ∃ z : Int32, z = x_7 + 1 := ⟨_, rfl⟩
              refine lv_iinc (v := v_21) (lv' := [(1, .int v_21), (0, .ref (ob 0))]) hx hb dX11_tapeIsRain_55 hl (k := 1) rfl (by rw [ev_21]; rfl) (by decide) rfl (fun ls hl => ?_)
              have t_22 : v_21.toInt = x_7.toInt + 1 ∧ 1 ≤ v_21.toInt ∧ v_21.toInt ≤ 200 := iv_addc ev_21 i_15 (by decide) (by decide) (by decide)
              refine lv_goto (tgt := 22) hx hb dX11_tapeIsRain_58 (by decide) ?_
              exact ih_9 v_21 _ _ ls (by omega) (iv_w t_22.2 (by decide) (by decide)) (fun j hj => by by_cases h9 : (j : Int) < x_7.toInt; exact q_8 j h9; have h8 : j = x_7.toInt.toNat := (by omega); have h7 : ar 1 (x_7.toInt.toNat) = v_17 := ev_17.symm; rw [h8, h7]; omega) hP hS (lv_sub hl [1, 0] rfl)
            · skip
              have i_24 : 10 ≤ v_17.toInt ∧ v_17.toInt ≤ 255 := iv_lt2 (⟨by decide, by decide⟩ : (9 : Int) ≤ (9 : Int32).toInt ∧ (9 : Int32).toInt ≤ 9) i_18 (Int32.not_le.mp c_19)
              refine lv_aload_n hx hb dX11_tapeIsRain_41 rfl (lv_at hl 0 rfl) ?_
              refine gX_X11_9 hx hb htg hown hK hP dX11_tapeIsRain_42 ?_
              refine lv_iload_n hx hb dX11_tapeIsRain_45 rfl (lv_at hl 1 rfl) ?_
              refine lX_1 hx hb hK hP (iv_in i_15 (by decide) (by decide)) dX11_tapeIsRain_46 (fun v_25 ev_25 => ?_)
              obtain rfl : v_17 = v_25 := ev_17.trans ev_25.symm
              refine lv_sipush (v := 255) hx hb dX11_tapeIsRain_47 (by decide) ?_
              refine lv_icmp_eq (tgt := 55) hx hb dX11_tapeIsRain_50 (by decide) (fun c_26 => ?_) (fun c_26 => ?_)
              · skip
                have i_27 : 255 ≤ v_17.toInt ∧ v_17.toInt ≤ 255 := iv_eq1 (⟨by decide, by decide⟩ : (255 : Int) ≤ (255 : Int32).toInt ∧ (255 : Int32).toInt ≤ 255) c_26
                obtain ⟨v_29, ev_29⟩ : ∃ z : Int32, z = x_7 + 1 := ⟨_, rfl⟩
                refine lv_iinc (v := v_29) (lv' := [(1, .int v_29), (0, .ref (ob 0))]) hx hb dX11_tapeIsRain_55 hl (k := 1) rfl (by rw [ev_29]; rfl) (by decide) rfl (fun ls hl => ?_)
                have t_30 : v_29.toInt = x_7.toInt + 1 ∧ 1 ≤ v_29.toInt ∧ v_29.toInt ≤ 200 := iv_addc ev_29 i_15 (by decide) (by decide) (by decide)
                refine lv_goto (tgt := 22) hx hb dX11_tapeIsRain_58 (by decide) ?_
                exact ih_9 v_29 _ _ ls (by omega) (iv_w t_30.2 (by decide) (by decide)) (fun j hj => by by_cases h9 : (j : Int) < x_7.toInt; exact q_8 j h9; have h8 : j = x_7.toInt.toNat := (by omega); have h7 : ar 1 (x_7.toInt.toNat) = v_17 := ev_17.symm; rw [h8, h7]; omega) hP hS (lv_sub hl [1, 0] rfl)
              · skip
                have i_32 : 10 ≤ v_17.toInt ∧ v_17.toInt ≤ 254 := iv_neh i_24 (by decide) c_26
                have k_33 : ¬ v_17.toInt = 255 := fun q => c_26 (Int32.toInt_inj.mp q)
                refine lv_iconst (v := 0) hx hb dX11_tapeIsRain_53 (by decide) ?_
                exact W.zret (v := 0) hx hb hr (by decide) (fun t ht hW => ⟨⟨0, (fv, wd, ar), rfl, ⟨hF_fv, hA_ar, (fM_rf [] _), (fA_rf [] _), rfl, (iv_w (⟨by decide, by decide⟩ : (0 : Int) ≤ (0 : Int32).toInt ∧ (0 : Int32).toInt ≤ 0) (by decide) (by decide)), (Or.inl ⟨rfl, (fun w => by have h1 := w.2.2 (x_7.toInt.toNat) (by omega); have h2 : ar 1 (x_7.toInt.toNat) = v_17 := ev_17.symm; rw [h2] at h1; omega)⟩), trivial⟩, ⟨by rw [ht]; exact hP, va_K.moved hW.alike hK⟩⟩, hS.F ht⟩) hS.2.2 dX11_tapeIsRain_54
      · skip
        have z_34 : (0 : Int32).toInt = 0 := by decide
        exact hj_11 201 0 _ _ ls (by first | decide | omega) (iv_w (⟨by decide, by decide⟩ : (0 : Int) ≤ (0 : Int32).toInt ∧ (0 : Int32).toInt ≤ 0) (by decide) (by decide)) (fun j hj => absurd hj (by have h9 : (0 : Int32).toInt = 0 := (by decide); omega)) hP hS (lv_sub hl [1, 0] rfl)
    · skip
      have i_35 : 201 ≤ (fv 0).toInt ∧ (fv 0).toInt ≤ 340 := iv_lt2 (⟨by decide, by decide⟩ : (200 : Int) ≤ (200 : Int32).toInt ∧ (200 : Int32).toInt ≤ 200) i_4 (Int32.not_le.mp c_5)
      refine lv_iconst (v := 0) hx hb dX11_tapeIsRain_18 (by decide) ?_
      exact W.zret (v := 0) hx hb hr (by decide) (fun t ht hW => ⟨⟨0, (fv, wd, ar), rfl, ⟨hF_fv, hA_ar, (fM_rf [] _), (fA_rf [] _), rfl, (iv_w (⟨by decide, by decide⟩ : (0 : Int) ≤ (0 : Int32).toInt ∧ (0 : Int32).toInt ≤ 0) (by decide) (by decide)), (Or.inl ⟨rfl, (fun w => by have h1 := w.1; have h2 := w.2.1; omega)⟩), trivial⟩, ⟨by rw [ht]; exact hP, va_K.moved hW.alike hK⟩⟩, hS.F ht⟩) hS.2.2 dX11_tapeIsRain_19
set_option maxHeartbeats 4000000 in
set_option maxRecDepth 100000 in
theorem x_rainC (l : Launch) (dC : Nat → ClassId) (dI : Nat → Nat → Nat) (sz : Nat) (ob ad : Nat → Nat) (cA : Nat → ClassId) (hd : dX ob ad) (fv : Nat → Int32) (wd : xT) (ar : Nat → Nat → Int32) (hF_fv : rX fv) (hA_ar : rB ar) : Met l yX11_rain (.code yX11_rain cX11_rain 4 (some .boolean) :: lw_good) ({ frames := 3, cells := 0, slots := 0, locals := 61 }) (va_Pc [.ref (ob 0)] (prX dC dI ob ad cA fv wd ar sz)) (va_Qi (fun (r : Int32) (u : xS) => rX u.1 ∧ rB u.2.2 ∧ fM [0, 5] fv u.1 ∧ fA [3] ar u.2.2 ∧ u.2.1.2 = wd.2 ∧ (0 ≤ r.toInt ∧ r.toInt ≤ 1) ∧ (wt_rain r (u.1 5) (fv 5) (fv 0) (u.2.2 3) (ar 3) (ar 1)) ∧ ((u.1 0).toInt = 0) ∧ True) (enX dC dI ob ad cA) (aX ob ad sz)) 0 0 (aX ob ad sz) := by
  refine Met.ofW (cc := cX11_rain) (maxL := 4) (ret := (some .boolean)) (by decide) rfl ?_
  intro p e s m args below meth c s₁ B hml hv
  obtain ⟨rfl, hsz, hP, hK⟩ := hv
  have hx := B.exec
  have hb := B.bytes
  have hr := B.returns
  have hts := atoms_spec (ws := (.code yX11_rain cX11_rain 4 (some .boolean) :: lw_good)) B.pre
  have htg : ∀ w ∈ lw_good, w.before _ s = true := fun w hw => hts w (List.mem_cons_of_mem _ hw)
  have hown : s.vm.findClass RX11 = some m.cls := findClass_of_methodNamed B.named
  have hlocks := B.notSynchronized
  subst hsz
  have hS : va_S (aX ob ad s.heap.size) s.heap s.heap [] := va_S.rf
  have hl := lv_entry ([.ref (ob 0)]) (n := 4) (Nat.le_of_ble_eq_true rfl)
  rw [lg_entry_eq]
  generalize (lg_sl ([.ref (ob 0)]) ++ List.replicate (4 - (lg_sl ([.ref (ob 0)])).length) Slot.unset).toArray = ls at hl ⊢
  have hl : lv_has ls 4 [(0, .ref (ob 0))] := hl
  refine lv_aload_n hx hb dX11_rain_0 rfl (lv_at hl 0 rfl) ?_
  have z_1 : 0 ≤ (fv 0).toInt ∧ (fv 0).toInt ≤ 340 := hF_fv 0
  refine va_calli (va_runV (As := []) (rest := []) ⟨hx, hb, hml, hown, hts⟩ (x_tapeIsRainC l dC dI s.heap.size ob ad cA hd fv wd ar hF_fv hA_ar) (cwV 0 hts (gV kw_3_222 kw_3_224 kw_p_1 kw_1_1 kw_3_225) rfl rfl rfl (by decide +kernel) ⟨Nat.le_of_ble_eq_true rfl, Nat.le_of_ble_eq_true rfl⟩) ⟨fun a U g mk q => ⟨q.1, q.2.1, q.2.2.1, va_K.moved (u := U) (U := U.calling g mk a) (Vm.Alike.refl U.vm) q.2.2.2⟩, va_recv hK hP (ci := 11) (q0 := 0) rfl rfl, fun U hU hW => ⟨rfl, by rw [hU], by rw [hU]; exact hP, va_K.moved hW.alike hK⟩⟩ rfl rfl hl.1 rfl (lv_room (Nat.le_of_ble_eq_true rfl)) dX11_rain_1 ⟨Nat.le_of_ble_eq_true rfl, Nat.le_of_ble_eq_true rfl⟩) hS (fun q _ h9 => aX_up hS q h9) (aX_up hS) (fun r_2 u t H1 locs ht _ hw hB _ hk1 hS => ?_)
  obtain ⟨fv_5, wd_6, ar_7⟩ := u
  obtain ⟨hF_fv_5, hA_ar_7, fr_8, fa_9, wf_10, p_3, p_4, -⟩ := hw
  have wf_10 : wd_6.2 = wd.2 := wf_10
  have hP : va_P (dC, dI) vwCl (wsX ob ad cA fv_5 wd_6 ar_7) H1 := by have h9 := hB.1; rw [ht] at h9; exact h9
  have fr_8 : fM [] fv fv_5 := fr_8
  have fa_9 : fA [] ar ar_7 := fa_9
  generalize H1 = H at hP hS ⊢
  rcases p_4 with ⟨rfl, p_4⟩ | ⟨rfl, p_4⟩
  · skip
    have q_11 : ¬ wt_ok (fv 0).toInt (ar 1) := p_4
    refine lv_istore_n (lv' := [(1, .int 0), (0, .ref (ob 0))]) hx hb dX11_rain_4 rfl hl (by decide) rfl (fun ls hl => ?_)
    refine lv_iload_n hx hb dX11_rain_5 rfl (lv_at hl 0 rfl) ?_
    refine lv_if_eq (tgt := 87) hx hb dX11_rain_6 (by decide) (fun c_12 => ?_) (fun c_12 => ?_)
    · skip
      refine lv_aload_n hx hb dX11_rain_87 rfl (lv_at hl 1 rfl) ?_
      refine lv_iconst (v := 0) hx hb dX11_rain_88 (by decide) ?_
      refine pX_X11_50 hx hb htg hown hK hP hS hd dX11_rain_89 (fun H locs fv_13 efv_13 hP hS => ?_)
      have hF_fv_13 : rX fv_13 := rX_put hF_fv_5 efv_13 (iv_w (⟨by decide, by decide⟩ : (0 : Int) ≤ (0 : Int32).toInt ∧ (0 : Int32).toInt ≤ 0) (by decide) (by decide))
      refine lv_iload_n hx hb dX11_rain_92 rfl (lv_at hl 0 rfl) ?_
      have z_14 : (0 : Int32).toInt = 0 := by decide
      exact W.zret (v := 0) hx hb hr (by decide) (fun t ht hW => ⟨⟨0, (fv_13, wd_6, ar_7), rfl, ⟨hF_fv_13, hA_ar_7, (fM_put (fM_call (fM_rf [0, 5] _) fr_8 (by decide)) efv_13 (by decide)), (fA_call (fA_rf [3] _) fa_9 (by decide)), wf_10, (iv_w (⟨by decide, by decide⟩ : (0 : Int) ≤ (0 : Int32).toInt ∧ (0 : Int32).toInt ≤ 0) (by decide) (by decide)), (show wt_rain (0 : Int32) (fv_13 5) (fv 5) (fv 0) (ar_7 3) (ar 3) (ar 1) from Or.inl ⟨rfl, (congrFun efv_13 5).trans ((fr_8 5 rfl)), ((fA_call (fA_rf [] _) fa_9 (by decide)) 3 rfl), q_11⟩), (show (fv_13 0).toInt = 0 from by rw [show fv_13 0 = (0 : Int32) from (congrFun efv_13 0)]; decide), trivial⟩, ⟨by rw [ht]; exact hP, va_K.moved hW.alike hK⟩⟩, hS.F ht⟩) hS.2.2 dX11_rain_93
    · skip
      exact absurd c_12 (by decide)
  · skip
    have q_15 : wt_ok (fv 0).toInt (ar 1) := p_4.1
    have q_16 : (fv 0).toInt ≤ 200 := p_4.2
    have i_17 : 0 ≤ (fv 0).toInt ∧ (fv 0).toInt ≤ 200 := ⟨(hF_fv 0).1, p_4.2⟩
    refine lv_istore_n (lv' := [(1, .int 1), (0, .ref (ob 0))]) hx hb dX11_rain_4 rfl hl (by decide) rfl (fun ls hl => ?_)
    refine lv_iload_n hx hb dX11_rain_5 rfl (lv_at hl 0 rfl) ?_
    refine lv_if_eq (tgt := 87) hx hb dX11_rain_6 (by decide) (fun c_18 => ?_) (fun c_18 => ?_)
    · skip
      exact absurd c_18 (by decide)
    · skip
      refine lv_iconst (v := 0) hx hb dX11_rain_9 (by decide) ?_
      refine lv_istore_n (lv' := [(2, .int 0), (1, .int 1), (0, .ref (ob 0))]) hx hb dX11_rain_10 rfl hl (by decide) rfl (fun ls hl => ?_)
      refine my_cut (P := fun R9 a9 Q9 => ∀ (n_24 : Nat) (x_19 : Int32) (ar_20 : Nat → Nat → Int32) (H : Heap) (locs : List Loc) (ls : Array Slot), 200 - x_19.toInt < (n_24 : Int) → (0 ≤ x_19.toInt ∧ x_19.toInt ≤ 200) → rB ar_20 → fA [3] ar_7 ar_20 → (ar_20 3 = wt_rn x_19.toInt.toNat (ar 3) (ar 1)) → (x_19.toInt ≤ (fv 0).toInt) → va_P (dC, dI) vwCl (wsX ob ad cA fv_5 wd_6 ar_20) H → va_S (aX ob ad s.heap.size) s.heap H locs → lv_has ls 4 [(0, .ref (ob 0)), (1, .int 1), (2, .int x_19)] → W p l e R9 s m a9 below meth c H locs 0 0 Q9 (F0 m 11 ls [])) ?_ (fun hj_26 => ?_)
      · intro n_24
        induction n_24 with
        | zero => intro x_19 ar_20 H locs ls fu_25 i_x_19 hA_ar_20 fa_21 q_22 q_23; exfalso; omega
        | succ n_24 ih_24 =>
          intro x_19 ar_20 H locs ls fu_25 i_x_19 hA_ar_20 fa_21 q_22 q_23 hP hS hl
          refine lv_iload_n hx hb dX11_rain_11 rfl (lv_at hl 2 rfl) ?_
          refine lv_aload_n hx hb dX11_rain_12 rfl (lv_at hl 0 rfl) ?_
          refine gX_X11_50 hx hb htg hown hK hP dX11_rain_13 ?_
          refine my_ti (y := fv 0) ((fr_8 0 rfl)) ?_
          refine lv_icmp_ge (tgt := 76) hx hb dX11_rain_16 (by decide) (fun c_27 => ?_) (fun c_27 => ?_)
          · skip
            have k_28 := Int32.le_iff_toInt_le.mp c_27
            refine lv_aload_n hx hb dX11_rain_76 rfl (lv_at hl 0 rfl) ?_
            refine gX_X11_16 hx hb htg hown hK hP dX11_rain_77 ?_
            refine lv_aload_n hx hb dX11_rain_80 rfl (lv_at hl 0 rfl) ?_
            refine gX_X11_50 hx hb htg hown hK hP dX11_rain_81 ?_
            refine my_ti (y := fv 0) ((fr_8 0 rfl)) ?_
            refine pX_X11_137 hx hb htg hown hK hP hS hd dX11_rain_84 (fun H locs fv_73 efv_73 hP hS => ?_)
            have hF_fv_73 : rX fv_73 := rX_put hF_fv_5 efv_73 i_17
            refine lv_aload_n hx hb dX11_rain_87 rfl (lv_at hl 0 rfl) ?_
            refine lv_iconst (v := 0) hx hb dX11_rain_88 (by decide) ?_
            refine pX_X11_50 hx hb htg hown hK hP hS hd dX11_rain_89 (fun H locs fv_74 efv_74 hP hS => ?_)
            have hF_fv_74 : rX fv_74 := rX_put hF_fv_73 efv_74 (iv_w (⟨by decide, by decide⟩ : (0 : Int) ≤ (0 : Int32).toInt ∧ (0 : Int32).toInt ≤ 0) (by decide) (by decide))
            refine lv_iload_n hx hb dX11_rain_92 rfl (lv_at hl 1 rfl) ?_
            have z_75 : (1 : Int32).toInt = 1 := by decide
            exact W.zret (v := 1) hx hb hr (by decide) (fun t ht hW => ⟨⟨1, (fv_74, wd_6, ar_20), rfl, ⟨hF_fv_74, hA_ar_20, (fM_put (fM_put (fM_call (fM_rf [0, 5] _) fr_8 (by decide)) efv_73 (by decide)) efv_74 (by decide)), (fA_call (fA_call (fA_rf [3] _) fa_9 (by decide)) fa_21 (by decide)), wf_10, (iv_w (⟨by decide, by decide⟩ : (1 : Int) ≤ (1 : Int32).toInt ∧ (1 : Int32).toInt ≤ 1) (by decide) (by decide)), (show wt_rain (1 : Int32) (fv_74 5) (fv 5) (fv 0) (ar_20 3) (ar 3) (ar 1) from Or.inr ⟨rfl, (congrFun efv_74 5).trans ((congrFun efv_73 5)), by rw [q_22, show x_19.toInt.toNat = (fv 0).toInt.toNat from (by omega)], q_15⟩), (show (fv_74 0).toInt = 0 from by rw [show fv_74 0 = (0 : Int32) from (congrFun efv_74 0)]; decide), trivial⟩, ⟨by rw [ht]; exact hP, va_K.moved hW.alike hK⟩⟩, hS.F ht⟩) hS.2.2 dX11_rain_93
          · skip
            have i_29 : 0 ≤ x_19.toInt ∧ x_19.toInt ≤ 199 := iv_lt1 i_x_19 i_17 (Int32.not_le.mp c_27)
            have i_30 : 1 ≤ (fv 0).toInt ∧ (fv 0).toInt ≤ 200 := iv_lt2 i_x_19 i_17 (Int32.not_le.mp c_27)
            have k_31 := Int32.lt_iff_toInt_lt.mp (Int32.not_le.mp c_27)
            refine lv_iload_n hx hb dX11_rain_19 rfl (lv_at hl 2 rfl) ?_
            refine lv_if_ne (tgt := 27) hx hb dX11_rain_20 (by decide) (fun c_32 => ?_) (fun c_32 => ?_)
            · skip
              have i_33 : 1 ≤ x_19.toInt ∧ x_19.toInt ≤ 199 := iv_nel i_29 (by decide) c_32
              have k_34 : ¬ x_19.toInt = 0 := fun q => c_32 (Int32.toInt_inj.mp q)
              refine lv_aload_n hx hb dX11_rain_27 rfl (lv_at hl 0 rfl) ?_
              refine gX_X11_16 hx hb htg hown hK hP dX11_rain_28 ?_
              refine gX_X11_134 hx hb htg hown hK hP dX11_rain_31 ?_
              refine lv_iload_n hx hb dX11_rain_34 rfl (lv_at hl 2 rfl) ?_
              refine lv_iconst (v := 1) hx hb dX11_rain_35 (by decide) ?_
              refine lv_isub hx hb dX11_rain_36 ?_
              refine lv_topi (fun v_35 ev_35 => ?_)
              have t_36 : v_35.toInt = x_19.toInt - 1 ∧ 0 ≤ v_35.toInt ∧ v_35.toInt ≤ 198 := iv_subc ev_35 i_33 (by decide) (by decide) (by decide)
              refine lX_3 hx hb hK hP (iv_in t_36.2 (by decide) (by decide)) dX11_rain_37 (fun v_38 ev_38 => ?_)
              refine lv_istore_n (lv' := [(3, .int v_38), (0, .ref (ob 0)), (1, .int 1), (2, .int x_19)]) hx hb dX11_rain_38 rfl hl (by decide) rfl (fun ls hl => ?_)
              refine lv_aload_n hx hb dX11_rain_39 rfl (lv_at hl 1 rfl) ?_
              refine gX_X11_16 hx hb htg hown hK hP dX11_rain_40 ?_
              refine gX_X11_134 hx hb htg hown hK hP dX11_rain_43 ?_
              refine lv_iload_n hx hb dX11_rain_46 rfl (lv_at hl 3 rfl) ?_
              refine lv_aload_n hx hb dX11_rain_47 rfl (lv_at hl 1 rfl) ?_
              refine gX_X11_9 hx hb htg hown hK hP dX11_rain_48 ?_
              refine lv_iload_n hx hb dX11_rain_51 rfl (lv_at hl 3 rfl) ?_
              refine lX_1 hx hb hK hP (iv_in i_33 (by decide) (by decide)) dX11_rain_52 (fun v_39 ev_39 => ?_)
              have i_40 : 0 ≤ v_39.toInt ∧ v_39.toInt ≤ 255 := ev_39 ▸ hA_ar_20 1 _
              refine lv_sipush (v := 255) hx hb dX11_rain_53 (by decide) ?_
              refine lv_icmp_ne (tgt := 63) hx hb dX11_rain_56 (by decide) (fun c_41 => ?_) (fun c_41 => ?_)
              · skip
                have i_42 : 0 ≤ v_39.toInt ∧ v_39.toInt ≤ 254 := iv_neh i_40 (by decide) c_41
                have k_43 : ¬ v_39.toInt = 255 := fun q => c_41 (Int32.toInt_inj.mp q)
                refine lv_aload_n hx hb dX11_rain_63 rfl (lv_at hl 1 rfl) ?_
                refine gX_X11_9 hx hb htg hown hK hP dX11_rain_64 ?_
                refine lv_iload_n hx hb dX11_rain_67 rfl (lv_at hl 3 rfl) ?_
                refine lX_1 hx hb hK hP (iv_in i_33 (by decide) (by decide)) dX11_rain_68 (fun v_44 ev_44 => ?_)
                obtain rfl : v_39 = v_44 := ev_39.trans ev_44.symm
                refine sX_3 hx hb hK hP hS hd (iv_in i_33 (by decide) (by decide)) dX11_rain_69 (fun H locs ar_45 ear_45 hP hS => ?_)
                have hA_ar_45 : rB ar_45 := rB_put hA_ar_20 ear_45 (iv_any _)
                obtain ⟨v_46, ev_46⟩ : ∃ z : Int32, z = x_19 + 1 := ⟨_, rfl⟩
                refine lv_iinc (v := v_46) (lv' := [(2, .int v_46), (3, .int v_38), (0, .ref (ob 0)), (1, .int 1)]) hx hb dX11_rain_70 hl (k := 3) rfl (by rw [ev_46]; rfl) (by decide) rfl (fun ls hl => ?_)
                have t_47 : v_46.toInt = x_19.toInt + 1 ∧ 2 ≤ v_46.toInt ∧ v_46.toInt ≤ 200 := iv_addc ev_46 i_33 (by decide) (by decide) (by decide)
                refine lv_goto (tgt := 11) hx hb dX11_rain_73 (by decide) ?_
                exact ih_24 v_46 ar_45 _ _ ls (by omega) (iv_w t_47.2 (by decide) (by decide)) hA_ar_45 (fA_put (fA_call (fA_rf [3] _) fa_21 (by decide)) ear_45 (by decide)) (by have hT : ar 1 (x_19.toInt.toNat) = v_39 := (congrFun (((fA_call (fA_call (fA_rf [3] _) fa_9 (by decide)) fa_21 (by decide)) 1 rfl)) _).symm.trans ev_39.symm; rw [show v_46.toInt.toNat = x_19.toInt.toNat + 1 from (by omega)]; exact wt_rs q_22 (show ar_45 3 = upd (ar_20 3) (x_19.toInt.toNat) v_39 from by rw [ear_45]; rfl) (Or.inr (Or.inr ⟨by rw [hT]; omega, hT.symm⟩))) (by omega) hP hS (lv_sub hl [2, 3, 0] rfl)
              · skip
                have i_49 : 255 ≤ v_39.toInt ∧ v_39.toInt ≤ 255 := iv_eq1 (⟨by decide, by decide⟩ : (255 : Int) ≤ (255 : Int32).toInt ∧ (255 : Int32).toInt ≤ 255) c_41
                refine lv_iload_n hx hb dX11_rain_59 rfl (lv_at hl 0 rfl) ?_
                refine lv_goto (tgt := 69) hx hb dX11_rain_60 (by decide) ?_
                refine sX_3 hx hb hK hP hS hd (iv_in i_33 (by decide) (by decide)) dX11_rain_69 (fun H locs ar_51 ear_51 hP hS => ?_)
                have hA_ar_51 : rB ar_51 := rB_put hA_ar_20 ear_51 (iv_any _)
                obtain ⟨v_52, ev_52⟩ : ∃ z : Int32, z = x_19 + 1 := ⟨_, rfl⟩
                refine lv_iinc (v := v_52) (lv' := [(2, .int v_52), (3, .int v_38), (0, .ref (ob 0)), (1, .int 1)]) hx hb dX11_rain_70 hl (k := 3) rfl (by rw [ev_52]; rfl) (by decide) rfl (fun ls hl => ?_)
                have t_53 : v_52.toInt = x_19.toInt + 1 ∧ 2 ≤ v_52.toInt ∧ v_52.toInt ≤ 200 := iv_addc ev_52 i_33 (by decide) (by decide) (by decide)
                refine lv_goto (tgt := 11) hx hb dX11_rain_73 (by decide) ?_
                exact ih_24 v_52 ar_51 _ _ ls (by omega) (iv_w t_53.2 (by decide) (by decide)) hA_ar_51 (fA_put (fA_call (fA_rf [3] _) fa_21 (by decide)) ear_51 (by decide)) (by have hT : ar 1 (x_19.toInt.toNat) = v_39 := (congrFun (((fA_call (fA_call (fA_rf [3] _) fa_9 (by decide)) fa_21 (by decide)) 1 rfl)) _).symm.trans ev_39.symm; rw [show v_52.toInt.toNat = x_19.toInt.toNat + 1 from (by omega)]; exact wt_rs q_22 (show ar_51 3 = upd (ar_20 3) (x_19.toInt.toNat) v_38 from by rw [ear_51]; rfl) (Or.inr (Or.inl ⟨by rw [hT]; omega, by omega, by rw [ev_38]; show ar_20 3 (v_35.toInt.toNat) = _; rw [show v_35.toInt.toNat = x_19.toInt.toNat - 1 from (by omega)]⟩))) (by omega) hP hS (lv_sub hl [2, 3, 0] rfl)
            · skip
              have i_55 : 0 ≤ x_19.toInt ∧ x_19.toInt ≤ 0 := iv_eq1 (⟨by decide, by decide⟩ : (0 : Int) ≤ (0 : Int32).toInt ∧ (0 : Int32).toInt ≤ 0) c_32
              refine lv_iconst (v := 0) hx hb dX11_rain_23 (by decide) ?_
              refine lv_goto (tgt := 38) hx hb dX11_rain_24 (by decide) ?_
              refine lv_istore_n (lv' := [(3, .int 0), (0, .ref (ob 0)), (1, .int 1), (2, .int x_19)]) hx hb dX11_rain_38 rfl hl (by decide) rfl (fun ls hl => ?_)
              refine lv_aload_n hx hb dX11_rain_39 rfl (lv_at hl 1 rfl) ?_
              refine gX_X11_16 hx hb htg hown hK hP dX11_rain_40 ?_
              refine gX_X11_134 hx hb htg hown hK hP dX11_rain_43 ?_
              refine lv_iload_n hx hb dX11_rain_46 rfl (lv_at hl 3 rfl) ?_
              refine lv_aload_n hx hb dX11_rain_47 rfl (lv_at hl 1 rfl) ?_
              refine gX_X11_9 hx hb htg hown hK hP dX11_rain_48 ?_
              refine lv_iload_n hx hb dX11_rain_51 rfl (lv_at hl 3 rfl) ?_
              refine lX_1 hx hb hK hP (iv_in i_55 (by decide) (by decide)) dX11_rain_52 (fun v_57 ev_57 => ?_)
              have i_58 : 0 ≤ v_57.toInt ∧ v_57.toInt ≤ 255 := ev_57 ▸ hA_ar_20 1 _
              refine lv_sipush (v := 255) hx hb dX11_rain_53 (by decide) ?_
              refine lv_icmp_ne (tgt := 63) hx hb dX11_rain_56 (by decide) (fun c_59 => ?_) (fun c_59 => ?_)
              · skip
                have i_60 : 0 ≤ v_57.toInt ∧ v_57.toInt ≤ 254 := iv_neh i_58 (by decide) c_59
                have k_61 : ¬ v_57.toInt = 255 := fun q => c_59 (Int32.toInt_inj.mp q)
                refine lv_aload_n hx hb dX11_rain_63 rfl (lv_at hl 1 rfl) ?_
                refine gX_X11_9 hx hb htg hown hK hP dX11_rain_64 ?_
                refine lv_iload_n hx hb dX11_rain_67 rfl (lv_at hl 3 rfl) ?_
                refine lX_1 hx hb hK hP (iv_in i_55 (by decide) (by decide)) dX11_rain_68 (fun v_62 ev_62 => ?_)
                obtain rfl : v_57 = v_62 := ev_57.trans ev_62.symm
                refine sX_3 hx hb hK hP hS hd (iv_in i_55 (by decide) (by decide)) dX11_rain_69 (fun H locs ar_63 ear_63 hP hS => ?_)
                have hA_ar_63 : rB ar_63 := rB_put hA_ar_20 ear_63 (iv_any _)
                obtain ⟨v_64, ev_64⟩ : ∃ z : Int32, z = x_19 + 1 := ⟨_, rfl⟩
                refine lv_iinc (v := v_64) (lv' := [(2, .int v_64), (3, .int 0), (0, .ref (ob 0)), (1, .int 1)]) hx hb dX11_rain_70 hl (k := 3) rfl (by rw [ev_64]; rfl) (by decide) rfl (fun ls hl => ?_)
                have t_65 : v_64.toInt = x_19.toInt + 1 ∧ 1 ≤ v_64.toInt ∧ v_64.toInt ≤ 1 := iv_addc ev_64 i_55 (by decide) (by decide) (by decide)
                refine lv_goto (tgt := 11) hx hb dX11_rain_73 (by decide) ?_
                exact ih_24 v_64 ar_63 _ _ ls (by omega) (iv_w t_65.2 (by decide) (by decide)) hA_ar_63 (fA_put (fA_call (fA_rf [3] _) fa_21 (by decide)) ear_63 (by decide)) (by have hT : ar 1 (x_19.toInt.toNat) = v_57 := (congrFun (((fA_call (fA_call (fA_rf [3] _) fa_9 (by decide)) fa_21 (by decide)) 1 rfl)) _).symm.trans ev_57.symm; rw [show v_64.toInt.toNat = x_19.toInt.toNat + 1 from (by omega)]; exact wt_rs q_22 (show ar_63 3 = upd (ar_20 3) (x_19.toInt.toNat) v_57 from by rw [ear_63]; rfl) (Or.inr (Or.inr ⟨by rw [hT]; omega, hT.symm⟩))) (by omega) hP hS (lv_sub hl [2, 3, 0] rfl)
              · skip
                have i_67 : 255 ≤ v_57.toInt ∧ v_57.toInt ≤ 255 := iv_eq1 (⟨by decide, by decide⟩ : (255 : Int) ≤ (255 : Int32).toInt ∧ (255 : Int32).toInt ≤ 255) c_59
                refine lv_iload_n hx hb dX11_rain_59 rfl (lv_at hl 0 rfl) ?_
                refine lv_goto (tgt := 69) hx hb dX11_rain_60 (by decide) ?_
                refine sX_3 hx hb hK hP hS hd (iv_in i_55 (by decide) (by decide)) dX11_rain_69 (fun H locs ar_69 ear_69 hP hS => ?_)
                have hA_ar_69 : rB ar_69 := rB_put hA_ar_20 ear_69 (iv_any _)
                obtain ⟨v_70, ev_70⟩ : ∃ z : Int32, z = x_19 + 1 := ⟨_, rfl⟩
                refine lv_iinc (v := v_70) (lv' := [(2, .int v_70), (3, .int 0), (0, .ref (ob 0)), (1, .int 1)]) hx hb dX11_rain_70 hl (k := 3) rfl (by rw [ev_70]; rfl) (by decide) rfl (fun ls hl => ?_)
                have t_71 : v_70.toInt = x_19.toInt + 1 ∧ 1 ≤ v_70.toInt ∧ v_70.toInt ≤ 1 := iv_addc ev_70 i_55 (by decide) (by decide) (by decide)
                refine lv_goto (tgt := 11) hx hb dX11_rain_73 (by decide) ?_
                exact ih_24 v_70 ar_69 _ _ ls (by omega) (iv_w t_71.2 (by decide) (by decide)) hA_ar_69 (fA_put (fA_call (fA_rf [3] _) fa_21 (by decide)) ear_69 (by decide)) (by have hT : ar 1 (x_19.toInt.toNat) = v_57 := (congrFun (((fA_call (fA_call (fA_rf [3] _) fa_9 (by decide)) fa_21 (by decide)) 1 rfl)) _).symm.trans ev_57.symm; rw [show v_70.toInt.toNat = x_19.toInt.toNat + 1 from (by omega)]; exact wt_rs q_22 (show ar_69 3 = upd (ar_20 3) (x_19.toInt.toNat) 0 from by rw [ear_69]; rfl) (Or.inl ⟨by rw [hT]; omega, by omega, rfl⟩)) (by omega) hP hS (lv_sub hl [2, 3, 0] rfl)
      · skip
        have z_76 : (0 : Int32).toInt = 0 := by decide
        exact hj_26 201 0 ar_7 _ _ ls (by first | decide | omega) (iv_w (⟨by decide, by decide⟩ : (0 : Int) ≤ (0 : Int32).toInt ∧ (0 : Int32).toInt ≤ 0) (by decide) (by decide)) hA_ar_7 (fA_rf [3] _) (by rw [show (0 : Int32).toInt.toNat = 0 from (by decide), show ar_7 3 = ar 3 from ((fA_call (fA_rf [] _) fa_9 (by decide)) 3 rfl)]; rfl) (by omega) hP hS (lv_sub hl [2, 1, 0] rfl)
set_option maxHeartbeats 4000000 in
set_option maxRecDepth 100000 in
theorem x_rainOnC (l : Launch) (dC : Nat → ClassId) (dI : Nat → Nat → Nat) (sz : Nat) (ob ad : Nat → Nat) (cA : Nat → ClassId) (hd : dX ob ad) (fv : Nat → Int32) (wd : xT) (ar : Nat → Nat → Int32) (hF_fv : rX fv) (hA_ar : rB ar) (dd : Int32) (h_dd : 0 ≤ dd.toInt ∧ dd.toInt ≤ 199) : Met l yX7_rainOn (.code yX7_rainOn cX7_rainOn 2 (some .int) :: lw_good) ({ frames := 2, cells := 0, slots := 0, locals := 40 }) (va_Pc [.ref (ob 1), .int dd] (prX dC dI ob ad cA fv wd ar sz)) (va_Qi (fun (r : Int32) (u : xS) => rX u.1 ∧ rB u.2.2 ∧ fM [] fv u.1 ∧ fA [] ar u.2.2 ∧ u.2.1.2 = wd.2 ∧ (wt_on r dd (fv 5) (ar 3)) ∧ True) (enX dC dI ob ad cA) (aX ob ad sz)) 0 0 (aX ob ad sz) := by
  refine Met.ofW (cc := cX7_rainOn) (maxL := 2) (ret := (some .int)) (by decide) rfl ?_
  intro p e s m args below meth c s₁ B hml hv
  obtain ⟨rfl, hsz, hP, hK⟩ := hv
  have hx := B.exec
  have hb := B.bytes
  have hr := B.returns
  have hts := atoms_spec (ws := (.code yX7_rainOn cX7_rainOn 2 (some .int) :: lw_good)) B.pre
  have htg : ∀ w ∈ lw_good, w.before _ s = true := fun w hw => hts w (List.mem_cons_of_mem _ hw)
  have hown : s.vm.findClass RX7 = some m.cls := findClass_of_methodNamed B.named
  have hlocks := B.notSynchronized
  subst hsz
  have hS : va_S (aX ob ad s.heap.size) s.heap s.heap [] := va_S.rf
  have hl := lv_entry ([.ref (ob 1), .int dd]) (n := 2) (Nat.le_of_ble_eq_true rfl)
  rw [lg_entry_eq]
  generalize (lg_sl ([.ref (ob 1), .int dd]) ++ List.replicate (2 - (lg_sl ([.ref (ob 1), .int dd])).length) Slot.unset).toArray = ls at hl ⊢
  have hl : lv_has ls 2 [(0, .ref (ob 1)), (1, .int dd)] := hl
  refine lv_aload_n hx hb dX7_rainOn_0 rfl (lv_at hl 0 rfl) ?_
  refine gX_X7_69 hx hb htg hown hK hP dX7_rainOn_1 ?_
  have i_1 : 0 ≤ (fv 5).toInt ∧ (fv 5).toInt ≤ 200 := hF_fv 5
  refine lv_if_ne (tgt := 9) hx hb dX7_rainOn_4 (by decide) (fun c_2 => ?_) (fun c_2 => ?_)
  · skip
    have i_3 : 1 ≤ (fv 5).toInt ∧ (fv 5).toInt ≤ 200 := iv_nel i_1 (by decide) c_2
    have k_4 : ¬ (fv 5).toInt = 0 := fun q => c_2 (Int32.toInt_inj.mp q)
    refine lv_iload_n hx hb dX7_rainOn_9 rfl (lv_at hl 1 rfl) ?_
    refine lv_aload_n hx hb dX7_rainOn_10 rfl (lv_at hl 0 rfl) ?_
    refine gX_X7_69 hx hb htg hown hK hP dX7_rainOn_11 ?_
    refine lv_icmp_ge (tgt := 26) hx hb dX7_rainOn_14 (by decide) (fun c_5 => ?_) (fun c_5 => ?_)
    · skip
      have i_6 : 1 ≤ (fv 5).toInt ∧ (fv 5).toInt ≤ 199 := iv_le1 i_3 h_dd c_5
      have i_7 : 1 ≤ dd.toInt ∧ dd.toInt ≤ 199 := iv_le2 i_3 h_dd c_5
      have k_8 := Int32.le_iff_toInt_le.mp c_5
      refine lv_bipush (v := 9) hx hb dX7_rainOn_26 (by decide) ?_
      have z_9 : (9 : Int32).toInt = 9 := by decide
      exact W.iret (v := 9) hx hb hr (fun t ht hW => ⟨⟨9, (fv, wd, ar), rfl, ⟨hF_fv, hA_ar, (fM_rf [] _), (fA_rf [] _), rfl, (show wt_on (9 : Int32) dd (fv 5) (ar 3) from Or.inr (Or.inr ⟨by omega, by omega, rfl⟩)), trivial⟩, ⟨by rw [ht]; exact hP, va_K.moved hW.alike hK⟩⟩, hS.F ht⟩) hS.2.2 dX7_rainOn_28
    · skip
      have k_10 := Int32.lt_iff_toInt_lt.mp (Int32.not_le.mp c_5)
      refine lv_aload_n hx hb dX7_rainOn_17 rfl (lv_at hl 0 rfl) ?_
      refine gX_X7_59 hx hb htg hown hK hP dX7_rainOn_18 ?_
      refine lv_iload_n hx hb dX7_rainOn_21 rfl (lv_at hl 1 rfl) ?_
      refine lX_3 hx hb hK hP (iv_in h_dd (by decide) (by decide)) dX7_rainOn_22 (fun v_11 ev_11 => ?_)
      refine lv_goto (tgt := 28) hx hb dX7_rainOn_23 (by decide) ?_
      exact W.iret (v := v_11) hx hb hr (fun t ht hW => ⟨⟨v_11, (fv, wd, ar), rfl, ⟨hF_fv, hA_ar, (fM_rf [] _), (fA_rf [] _), rfl, (show wt_on v_11 dd (fv 5) (ar 3) from Or.inr (Or.inl ⟨by omega, by omega, ev_11⟩)), trivial⟩, ⟨by rw [ht]; exact hP, va_K.moved hW.alike hK⟩⟩, hS.F ht⟩) hS.2.2 dX7_rainOn_28
  · skip
    have i_12 : 0 ≤ (fv 5).toInt ∧ (fv 5).toInt ≤ 0 := iv_eq1 (⟨by decide, by decide⟩ : (0 : Int) ≤ (0 : Int32).toInt ∧ (0 : Int32).toInt ≤ 0) c_2
    refine lv_iconst (v := 0) hx hb dX7_rainOn_7 (by decide) ?_
    have z_14 : (0 : Int32).toInt = 0 := by decide
    exact W.iret (v := 0) hx hb hr (fun t ht hW => ⟨⟨0, (fv, wd, ar), rfl, ⟨hF_fv, hA_ar, (fM_rf [] _), (fA_rf [] _), rfl, (show wt_on (0 : Int32) dd (fv 5) (ar 3) from Or.inl ⟨by omega, rfl⟩), trivial⟩, ⟨by rw [ht]; exact hP, va_K.moved hW.alike hK⟩⟩, hS.F ht⟩) hS.2.2 dX7_rainOn_8
set_option maxHeartbeats 4000000 in
set_option maxRecDepth 100000 in
theorem x_wetC (l : Launch) (dC : Nat → ClassId) (dI : Nat → Nat → Nat) (sz : Nat) (ob ad : Nat → Nat) (cA : Nat → ClassId) (hd : dX ob ad) (fv : Nat → Int32) (wd : xT) (ar : Nat → Nat → Int32) (hF_fv : rX fv) (hA_ar : rB ar) (a : Int32) : Met l yX11_wet (.code yX11_wet cX11_wet 2 (some .int) :: lw_good) ({ frames := 3, cells := 0, slots := 0, locals := 61 }) (va_Pc [.ref (ob 0), .int a] (prX dC dI ob ad cA fv wd ar sz)) (va_Qi (fun (r : Int32) (u : xS) => rX u.1 ∧ rB u.2.2 ∧ fM [] fv u.1 ∧ fA [] ar u.2.2 ∧ u.2.1.2 = wd.2 ∧ (wt_wet r a (fv 5) (ar 3)) ∧ True) (enX dC dI ob ad cA) (aX ob ad sz)) 0 0 (aX ob ad sz) := by
  refine Met.ofW (cc := cX11_wet) (maxL := 2) (ret := (some .int)) (by decide) rfl ?_
  intro p e s m args below meth c s₁ B hml hv
  obtain ⟨rfl, hsz, hP, hK⟩ := hv
  have hx := B.exec
  have hb := B.bytes
  have hr := B.returns
  have hts := atoms_spec (ws := (.code yX11_wet cX11_wet 2 (some .int) :: lw_good)) B.pre
  have htg : ∀ w ∈ lw_good, w.before _ s = true := fun w hw => hts w (List.mem_cons_of_mem _ hw)
  have hown : s.vm.findClass RX11 = some m.cls := findClass_of_methodNamed B.named
  have hlocks := B.notSynchronized
  subst hsz
  have hS : va_S (aX ob ad s.heap.size) s.heap s.heap [] := va_S.rf
  have hl := lv_entry ([.ref (ob 0), .int a]) (n := 2) (Nat.le_of_ble_eq_true rfl)
  rw [lg_entry_eq]
  generalize (lg_sl ([.ref (ob 0), .int a]) ++ List.replicate (2 - (lg_sl ([.ref (ob 0), .int a])).length) Slot.unset).toArray = ls at hl ⊢
  have hl : lv_has ls 2 [(0, .ref (ob 0)), (1, .int a)] := hl
  refine lv_iload_n hx hb dX11_wet_0 rfl (lv_at hl 1 rfl) ?_
  refine lv_if_lt (tgt := 11) hx hb dX11_wet_1 (by decide) (fun c_1 => ?_) (fun c_1 => ?_)
  · skip
    have i_2 : (-2147483648) ≤ a.toInt ∧ a.toInt ≤ (-1) := iv_lt1 (iv_any a) (⟨by decide, by decide⟩ : (0 : Int) ≤ (0 : Int32).toInt ∧ (0 : Int32).toInt ≤ 0) c_1
    refine lv_iconst (v := (-1)) hx hb dX11_wet_11 (by decide) ?_
    refine lv_goto (tgt := 23) hx hb dX11_wet_12 (by decide) ?_
    have z_3 : ((-1) : Int32).toInt = (-1) := by decide
    exact W.iret (v := (-1)) hx hb hr (fun t ht hW => ⟨⟨(-1), (fv, wd, ar), rfl, ⟨hF_fv, hA_ar, (fM_rf [] _), (fA_rf [] _), rfl, (show wt_wet ((-1) : Int32) a (fv 5) (ar 3) from Or.inl ⟨by omega, rfl⟩), trivial⟩, ⟨by rw [ht]; exact hP, va_K.moved hW.alike hK⟩⟩, hS.F ht⟩) hS.2.2 dX11_wet_23
  · skip
    have i_4 : 0 ≤ a.toInt ∧ a.toInt ≤ 2147483647 := iv_le2 (⟨by decide, by decide⟩ : (0 : Int) ≤ (0 : Int32).toInt ∧ (0 : Int32).toInt ≤ 0) (iv_any a) (Int32.not_lt.mp c_1)
    refine lv_iload_n hx hb dX11_wet_4 rfl (lv_at hl 1 rfl) ?_
    refine lv_sipush (v := 199) hx hb dX11_wet_5 (by decide) ?_
    refine lv_icmp_le (tgt := 15) hx hb dX11_wet_8 (by decide) (fun c_5 => ?_) (fun c_5 => ?_)
    · skip
      have i_6 : 0 ≤ a.toInt ∧ a.toInt ≤ 199 := iv_le1 i_4 (⟨by decide, by decide⟩ : (199 : Int) ≤ (199 : Int32).toInt ∧ (199 : Int32).toInt ≤ 199) c_5
      refine lv_aload_n hx hb dX11_wet_15 rfl (lv_at hl 0 rfl) ?_
      refine gX_X11_16 hx hb htg hown hK hP dX11_wet_16 ?_
      refine lv_iload_n hx hb dX11_wet_19 rfl (lv_at hl 1 rfl) ?_
      have z_7 : 0 ≤ (fv 5).toInt ∧ (fv 5).toInt ≤ 200 := hF_fv 5
      refine va_calli (va_runV (As := [.int a]) (rest := []) ⟨hx, hb, hml, hown, hts⟩ (x_rainOnC l dC dI s.heap.size ob ad cA hd fv wd ar hF_fv hA_ar a i_6) (cwV 1 hts (gV kw_3_230 kw_3_231 kw_3_232 kw_1_2 kw_3_233) rfl rfl rfl (by decide +kernel) ⟨Nat.le_of_ble_eq_true rfl, Nat.le_of_ble_eq_true rfl⟩) ⟨fun a U g mk q => ⟨q.1, q.2.1, q.2.2.1, va_K.moved (u := U) (U := U.calling g mk a) (Vm.Alike.refl U.vm) q.2.2.2⟩, va_recv hK hP (ci := 7) (q0 := 1) rfl rfl, fun U hU hW => ⟨rfl, by rw [hU], by rw [hU]; exact hP, va_K.moved hW.alike hK⟩⟩ rfl rfl hl.1 rfl (lv_room (Nat.le_of_ble_eq_true rfl)) dX11_wet_20 ⟨Nat.le_of_ble_eq_true rfl, Nat.le_of_ble_eq_true rfl⟩) hS (fun q _ h9 => aX_up hS q h9) (aX_up hS) (fun r_8 u t H1 locs ht _ hw hB _ hk1 hS => ?_)
      obtain ⟨fv_10, wd_11, ar_12⟩ := u
      obtain ⟨hF_fv_10, hA_ar_12, fr_13, fa_14, wf_15, p_9, -⟩ := hw
      have wf_15 : wd_11.2 = wd.2 := wf_15
      have hP : va_P (dC, dI) vwCl (wsX ob ad cA fv_10 wd_11 ar_12) H1 := by have h9 := hB.1; rw [ht] at h9; exact h9
      have fr_13 : fM [] fv fv_10 := fr_13
      have fa_14 : fA [] ar ar_12 := fa_14
      have p_9 : wt_on r_8 a (fv 5) (ar 3) := p_9
      generalize H1 = H at hP hS ⊢
      exact W.iret (v := r_8) hx hb hr (fun t ht hW => ⟨⟨r_8, (fv_10, wd_11, ar_12), rfl, ⟨hF_fv_10, hA_ar_12, (fM_call (fM_rf [] _) fr_13 (by decide)), (fA_call (fA_rf [] _) fa_14 (by decide)), wf_15, (show wt_wet r_8 a (fv 5) (ar 3) from Or.inr ⟨by omega, p_9⟩), trivial⟩, ⟨by rw [ht]; exact hP, va_K.moved hW.alike hK⟩⟩, hS.F ht⟩) hS.2.2 dX11_wet_23
    · skip
      have i_16 : 200 ≤ a.toInt ∧ a.toInt ≤ 2147483647 := iv_lt2 (⟨by decide, by decide⟩ : (199 : Int) ≤ (199 : Int32).toInt ∧ (199 : Int32).toInt ≤ 199) i_4 (Int32.not_le.mp c_5)
      refine lv_iconst (v := (-1)) hx hb dX11_wet_11 (by decide) ?_
      refine lv_goto (tgt := 23) hx hb dX11_wet_12 (by decide) ?_
      have z_17 : ((-1) : Int32).toInt = (-1) := by decide
      exact W.iret (v := (-1)) hx hb hr (fun t ht hW => ⟨⟨(-1), (fv, wd, ar), rfl, ⟨hF_fv, hA_ar, (fM_rf [] _), (fA_rf [] _), rfl, (show wt_wet ((-1) : Int32) a (fv 5) (ar 3) from Or.inl ⟨by omega, rfl⟩), trivial⟩, ⟨by rw [ht]; exact hP, va_K.moved hW.alike hK⟩⟩, hS.F ht⟩) hS.2.2 dX11_wet_23

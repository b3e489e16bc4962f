set_option maxHeartbeats 4000000 in
set_option maxRecDepth 100000 in
theorem m_comeC (l : Launch) (dC : Nat → ClassId) (dI : Nat → Nat → Nat) (sz h : Nat) (ad : Nat → Nat) (cA : Nat → ClassId) (hd : dM h ad) (fv : Nat → Int32) (wd : Int64) (ar : Nat → Nat → Int32) (hF_fv : rF fv) (hA_ar : rA ar) (a : Int32) (ht : (fv 2).toInt ≤ 336) : Met l yX12_come (.code yX12_come cX12_come 3 none :: lw_good) ({ frames := 2, cells := 0, slots := 0, locals := 40 }) (va_Pc [.ref h, .int a] (prM dC dI h ad cA fv wd ar sz)) (va_Qv (fun (u : mS) => rF u.1 ∧ rA u.2.2 ∧ fM [2] fv u.1 ∧ fA [1] ar u.2.2 ∧ ((u.1 2).toInt = (fv 2).toInt + 4) ∧ (u.2.2 1 = wt_tpw (ar 1) ((fv 2).toInt.toNat) a) ∧ True) (enM dC dI h ad cA) (aM h ad sz)) 0 0 (aM h ad sz) := by
  refine Met.ofW (cc := cX12_come) (maxL := 3) (ret := none) (by decide) rfl ?_
  intro p e s m args below meth c s₁ B hml hv
  obtain ⟨rfl, hsz, hP, hK⟩ := hv
  have hx := B.exec
  have hb := B.bytes
  have hr := B.returns
  have hts := atoms_spec (ws := (.code yX12_come cX12_come 3 none :: lw_good)) B.pre
  have htg : ∀ w ∈ lw_good, w.before _ s = true := fun w hw => hts w (List.mem_cons_of_mem _ hw)
  have hown : s.vm.findClass RX12 = some m.cls := findClass_of_methodNamed B.named
  have hlocks := B.notSynchronized
  subst hsz
  have hS : va_S (aM h ad s.heap.size) s.heap s.heap [] := va_S.rf
  have hl := lv_entry ([.ref h, .int a]) (n := 3) (Nat.le_of_ble_eq_true rfl)
  rw [lg_entry_eq]
  generalize (lg_sl ([.ref h, .int a]) ++ List.replicate (3 - (lg_sl ([.ref h, .int a])).length) Slot.unset).toArray = ls at hl ⊢
  have hl : lv_has ls 3 [(0, .ref h), (1, .int a)] := hl
  have i_1 : 0 ≤ (fv 2).toInt ∧ (fv 2).toInt ≤ 336 := ⟨(hF_fv 2).1, ht⟩
  refine lv_bipush (v := 24) hx hb dX12_come_0 (by decide) ?_
  refine lv_istore_n (lv' := [(2, .int 24), (0, .ref h), (1, .int a)]) hx hb dX12_come_2 rfl hl (by decide) rfl (fun ls hl => ?_)
  refine lv_iload_n hx hb dX12_come_3 rfl (lv_at hl 0 rfl) ?_
  refine lv_if_lt (tgt := 39) hx hb dX12_come_4 (by decide) (fun c_2 => ?_) (fun c_2 => ?_)
  · skip
    exact absurd c_2 (by decide)
  · skip
    refine lv_aload_n hx hb dX12_come_7 rfl (lv_at hl 1 rfl) ?_
    refine gM_1 hx hb htg hown hK hP dX12_come_8 ?_
    refine lv_aload_n hx hb dX12_come_11 rfl (lv_at hl 1 rfl) ?_
    refine gM_2 hx hb htg hown hK hP dX12_come_12 ?_
    refine lv_iload_n hx hb dX12_come_15 rfl (lv_at hl 2 rfl) ?_
    refine lv_iload_n hx hb dX12_come_16 rfl (lv_at hl 0 rfl) ?_
    refine lv_iushr hx hb dX12_come_17 rfl ?_
    refine lv_topi (fun v_3 ev_3 => ?_)
    refine lv_sipush (v := 255) hx hb dX12_come_18 (by decide) ?_
    refine lv_iand hx hb dX12_come_21 ?_
    refine lv_topi (fun v_4 ev_4 => ?_)
    have i_5 : 0 ≤ v_4.toInt ∧ v_4.toInt ≤ 255 := iv_and ev_4
    refine sM_1 hx hb hK hP hS hd (iv_in i_1 (by decide) (by decide)) dX12_come_22 (fun H locs ar_6 ear_6 hP hS => ?_)
    have hA_ar_6 : rA ar_6 := rA_put hA_ar ear_6 i_5
    refine lv_aload_n hx hb dX12_come_23 rfl (lv_at hl 1 rfl) ?_
    refine lv_dup hx hb dX12_come_24 rfl ?_
    refine gM_2 hx hb htg hown hK hP dX12_come_25 ?_
    refine lv_iconst (v := 1) hx hb dX12_come_28 (by decide) ?_
    refine lv_iadd hx hb dX12_come_29 ?_
    refine lv_topi (fun v_7 ev_7 => ?_)
    have t_8 : v_7.toInt = (fv 2).toInt + 1 ∧ 1 ≤ v_7.toInt ∧ v_7.toInt ≤ 337 := iv_addc ev_7 i_1 (by decide) (by decide) (by decide)
    refine pM_2 hx hb htg hown hK hP hS hd dX12_come_30 (fun H locs fv_10 efv_10 hP hS => ?_)
    have hF_fv_10 : rF fv_10 := rF_put hF_fv efv_10 (iv_w t_8.2 (by decide) (by decide))
    refine lv_iinc (v := 16) (lv' := [(2, .int 16), (0, .ref h), (1, .int a)]) hx hb dX12_come_33 hl (k := 0) rfl (by decide) (by decide) rfl (fun ls hl => ?_)
    refine lv_goto (tgt := 3) hx hb dX12_come_36 (by decide) ?_
    refine lv_iload_n hx hb dX12_come_3 rfl (lv_at hl 0 rfl) ?_
    refine lv_if_lt (tgt := 39) hx hb dX12_come_4 (by decide) (fun c_11 => ?_) (fun c_11 => ?_)
    · skip
      exact absurd c_11 (by decide)
    · skip
      refine lv_aload_n hx hb dX12_come_7 rfl (lv_at hl 1 rfl) ?_
      refine gM_1 hx hb htg hown hK hP dX12_come_8 ?_
      refine lv_aload_n hx hb dX12_come_11 rfl (lv_at hl 1 rfl) ?_
      refine gM_2 hx hb htg hown hK hP dX12_come_12 ?_
      refine my_ti (y := v_7) ((congrFun efv_10 2)) ?_
      refine lv_iload_n hx hb dX12_come_15 rfl (lv_at hl 2 rfl) ?_
      refine lv_iload_n hx hb dX12_come_16 rfl (lv_at hl 0 rfl) ?_
      refine lv_iushr hx hb dX12_come_17 rfl ?_
      refine lv_topi (fun v_12 ev_12 => ?_)
      refine lv_sipush (v := 255) hx hb dX12_come_18 (by decide) ?_
      refine lv_iand hx hb dX12_come_21 ?_
      refine lv_topi (fun v_13 ev_13 => ?_)
      have i_14 : 0 ≤ v_13.toInt ∧ v_13.toInt ≤ 255 := iv_and ev_13
      refine sM_1 hx hb hK hP hS hd (iv_in t_8.2 (by decide) (by decide)) dX12_come_22 (fun H locs ar_15 ear_15 hP hS => ?_)
      have hA_ar_15 : rA ar_15 := rA_put hA_ar_6 ear_15 i_14
      refine lv_aload_n hx hb dX12_come_23 rfl (lv_at hl 1 rfl) ?_
      refine lv_dup hx hb dX12_come_24 rfl ?_
      refine gM_2 hx hb htg hown hK hP dX12_come_25 ?_
      refine my_ti (y := v_7) ((congrFun efv_10 2)) ?_
      refine lv_iconst (v := 1) hx hb dX12_come_28 (by decide) ?_
      refine lv_iadd hx hb dX12_come_29 ?_
      refine lv_topi (fun v_16 ev_16 => ?_)
      have t_17 : v_16.toInt = v_7.toInt + 1 ∧ 2 ≤ v_16.toInt ∧ v_16.toInt ≤ 338 := iv_addc ev_16 t_8.2 (by decide) (by decide) (by decide)
      refine pM_2 hx hb htg hown hK hP hS hd dX12_come_30 (fun H locs fv_19 efv_19 hP hS => ?_)
      have hF_fv_19 : rF fv_19 := rF_put hF_fv_10 efv_19 (iv_w t_17.2 (by decide) (by decide))
      refine lv_iinc (v := 8) (lv' := [(2, .int 8), (0, .ref h), (1, .int a)]) hx hb dX12_come_33 hl (k := 0) rfl (by decide) (by decide) rfl (fun ls hl => ?_)
      refine lv_goto (tgt := 3) hx hb dX12_come_36 (by decide) ?_
      refine lv_iload_n hx hb dX12_come_3 rfl (lv_at hl 0 rfl) ?_
      refine lv_if_lt (tgt := 39) hx hb dX12_come_4 (by decide) (fun c_20 => ?_) (fun c_20 => ?_)
      · skip
        exact absurd c_20 (by decide)
      · skip
        refine lv_aload_n hx hb dX12_come_7 rfl (lv_at hl 1 rfl) ?_
        refine gM_1 hx hb htg hown hK hP dX12_come_8 ?_
        refine lv_aload_n hx hb dX12_come_11 rfl (lv_at hl 1 rfl) ?_
        refine gM_2 hx hb htg hown hK hP dX12_come_12 ?_
        refine my_ti (y := v_16) ((congrFun efv_19 2)) ?_
        refine lv_iload_n hx hb dX12_come_15 rfl (lv_at hl 2 rfl) ?_
        refine lv_iload_n hx hb dX12_come_16 rfl (lv_at hl 0 rfl) ?_
        refine lv_iushr hx hb dX12_come_17 rfl ?_
        refine lv_topi (fun v_21 ev_21 => ?_)
        refine lv_sipush (v := 255) hx hb dX12_come_18 (by decide) ?_
        refine lv_iand hx hb dX12_come_21 ?_
        refine lv_topi (fun v_22 ev_22 => ?_)
        have i_23 : 0 ≤ v_22.toInt ∧ v_22.toInt ≤ 255 := iv_and ev_22
        refine sM_1 hx hb hK hP hS hd (iv_in t_17.2 (by decide) (by decide)) dX12_come_22 (fun H locs ar_24 ear_24 hP hS => ?_)
        have hA_ar_24 : rA ar_24 := rA_put hA_ar_15 ear_24 i_23
        refine lv_aload_n hx hb dX12_come_23 rfl (lv_at hl 1 rfl) ?_
        refine lv_dup hx hb dX12_come_24 rfl ?_
        refine gM_2 hx hb htg hown hK hP dX12_come_25 ?_
        refine my_ti (y := v_16) ((congrFun efv_19 2)) ?_
        refine lv_iconst (v := 1) hx hb dX12_come_28 (by decide) ?_
        refine lv_iadd hx hb dX12_come_29 ?_
        refine lv_topi (fun v_25 ev_25 => ?_)
        have t_26 : v_25.toInt = v_16.toInt + 1 ∧ 3 ≤ v_25.toInt ∧ v_25.toInt ≤ 339 := iv_addc ev_25 t_17.2 (by decide) (by decide) (by decide)
        refine pM_2 hx hb htg hown hK hP hS hd dX12_come_30 (fun H locs fv_28 efv_28 hP hS => ?_)
        have hF_fv_28 : rF fv_28 := rF_put hF_fv_19 efv_28 (iv_w t_26.2 (by decide) (by decide))
        refine lv_iinc (v := 0) (lv' := [(2, .int 0), (0, .ref h), (1, .int a)]) hx hb dX12_come_33 hl (k := 0) rfl (by decide) (by decide) rfl (fun ls hl => ?_)
        refine lv_goto (tgt := 3) hx hb dX12_come_36 (by decide) ?_
        refine lv_iload_n hx hb dX12_come_3 rfl (lv_at hl 0 rfl) ?_
        refine lv_if_lt (tgt := 39) hx hb dX12_come_4 (by decide) (fun c_29 => ?_) (fun c_29 => ?_)
        · skip
          exact absurd c_29 (by decide)
        · skip
          refine lv_aload_n hx hb dX12_come_7 rfl (lv_at hl 1 rfl) ?_
          refine gM_1 hx hb htg hown hK hP dX12_come_8 ?_
          refine lv_aload_n hx hb dX12_come_11 rfl (lv_at hl 1 rfl) ?_
          refine gM_2 hx hb htg hown hK hP dX12_come_12 ?_
          refine my_ti (y := v_25) ((congrFun efv_28 2)) ?_
          refine lv_iload_n hx hb dX12_come_15 rfl (lv_at hl 2 rfl) ?_
          refine lv_iload_n hx hb dX12_come_16 rfl (lv_at hl 0 rfl) ?_
          refine lv_iushr hx hb dX12_come_17 rfl ?_
          refine lv_topi (fun v_30 ev_30 => ?_)
          refine lv_sipush (v := 255) hx hb dX12_come_18 (by decide) ?_
          refine lv_iand hx hb dX12_come_21 ?_
          refine lv_topi (fun v_31 ev_31 => ?_)
          have i_32 : 0 ≤ v_31.toInt ∧ v_31.toInt ≤ 255 := iv_and ev_31
          refine sM_1 hx hb hK hP hS hd (iv_in t_26.2 (by decide) (by decide)) dX12_come_22 (fun H locs ar_33 ear_33 hP hS => ?_)
          have hA_ar_33 : rA ar_33 := rA_put hA_ar_24 ear_33 i_32
          refine lv_aload_n hx hb dX12_come_23 rfl (lv_at hl 1 rfl) ?_
          refine lv_dup hx hb dX12_come_24 rfl ?_
          refine gM_2 hx hb htg hown hK hP dX12_come_25 ?_
          refine my_ti (y := v_25) ((congrFun efv_28 2)) ?_
          refine lv_iconst (v := 1) hx hb dX12_come_28 (by decide) ?_
          refine lv_iadd hx hb dX12_come_29 ?_
          refine lv_topi (fun v_34 ev_34 => ?_)
          have t_35 : v_34.toInt = v_25.toInt + 1 ∧ 4 ≤ v_34.toInt ∧ v_34.toInt ≤ 340 := iv_addc ev_34 t_26.2 (by decide) (by decide) (by decide)
          refine pM_2 hx hb htg hown hK hP hS hd dX12_come_30 (fun H locs fv_37 efv_37 hP hS => ?_)
          have hF_fv_37 : rF fv_37 := rF_put hF_fv_28 efv_37 (iv_w t_35.2 (by decide) (by decide))
          refine lv_iinc (v := (-8)) (lv' := [(2, .int (-8)), (0, .ref h), (1, .int a)]) hx hb dX12_come_33 hl (k := 0) rfl (by decide) (by decide) rfl (fun ls hl => ?_)
          refine lv_goto (tgt := 3) hx hb dX12_come_36 (by decide) ?_
          refine lv_iload_n hx hb dX12_come_3 rfl (lv_at hl 0 rfl) ?_
          refine lv_if_lt (tgt := 39) hx hb dX12_come_4 (by decide) (fun c_38 => ?_) (fun c_38 => ?_)
          · skip
            exact W.vret hx hb hr (fun t ht hW => ⟨⟨(fv_37, wd, ar_33), rfl, ⟨hF_fv_37, hA_ar_33, (fM_put (fM_put (fM_put (fM_put (fM_rf [2] _) efv_10 (by decide)) efv_19 (by decide)) efv_28 (by decide)) efv_37 (by decide)), (fA_put (fA_put (fA_put (fA_put (fA_rf [1] _) ear_6 (by decide)) ear_15 (by decide)) ear_24 (by decide)) ear_33 (by decide)), (show (fv_37 2).toInt = (fv 2).toInt + 4 from by rw [show fv_37 2 = v_34 from (congrFun efv_37 2)]; omega), (show ar_33 1 = wt_tpw (ar 1) ((fv 2).toInt.toNat) a from by rw [ear_33, ear_24, ear_15, ear_6]; show upd (upd (upd (upd (ar 1) (Int32.toNatClampNeg (fv 2)) v_4) (Int32.toNatClampNeg v_7) v_13) (Int32.toNatClampNeg v_16) v_22) (Int32.toNatClampNeg v_25) v_31 = _; rw [show Int32.toNatClampNeg v_7 = (fv 2).toInt.toNat + 1 from (by show v_7.toInt.toNat = _; omega), show Int32.toNatClampNeg v_16 = (fv 2).toInt.toNat + 2 from (by show v_16.toInt.toNat = _; omega), show Int32.toNatClampNeg v_25 = (fv 2).toInt.toNat + 3 from (by show v_25.toInt.toNat = _; omega)]; rw [ev_4, ev_3, ev_13, ev_12, ev_22, ev_21, ev_31, ev_30]; exact wt_tpwM _ _ _), trivial⟩, ⟨by rw [ht]; exact hP, va_K.moved hW.alike hK⟩⟩, hS.F ht⟩) hS.2.2 dX12_come_39
          · skip
            exact absurd (Int32.not_lt.mp c_38) (by decide)
set_option maxHeartbeats 4000000 in
set_option maxRecDepth 100000 in
theorem m_feedC (l : Launch) (dC : Nat → ClassId) (dI : Nat → Nat → Nat) (sz h : Nat) (ad : Nat → Nat) (cA : Nat → ClassId) (hd : dM h ad) (fv : Nat → Int32) (wd : Int64) (ar : Nat → Nat → Int32) (hF_fv : rF fv) (hA_ar : rA ar) (a : Int32) (b : Int32) (v : Int32) (d : Int32) (f : Int32) : Met l yX12_feed (.code yX12_feed cX12_feed 6 (some .int) :: lw_good) ({ frames := 3, cells := 0, slots := 0, locals := 62 }) (va_Pc [.ref h, .int a, .int b, .int v, .int d, .int f] (prM dC dI h ad cA fv wd ar sz)) (va_Qi (fun (r : Int32) (u : mS) => rF u.1 ∧ rA u.2.2 ∧ fM [0, 2] fv u.1 ∧ fA [1] ar u.2.2 ∧ (ps_feed r (u.1 2) (fv 2)) ∧ (wt_tpU (u.2.2 1) (ar 1) (fv 2) a b v d f) ∧ True) (enM dC dI h ad cA) (aM h ad sz)) 0 0 (aM h ad sz) := by
  refine Met.ofW (cc := cX12_feed) (maxL := 6) (ret := (some .int)) (by decide) rfl ?_
  intro p e s m args below meth c s₁ B hml hv
  obtain ⟨rfl, hsz, hP, hK⟩ := hv
  have hx := B.exec
  have hb := B.bytes
  have hr := B.returns
  have hts := atoms_spec (ws := (.code yX12_feed cX12_feed 6 (some .int) :: lw_good)) B.pre
  have htg : ∀ w ∈ lw_good, w.before _ s = true := fun w hw => hts w (List.mem_cons_of_mem _ hw)
  have hown : s.vm.findClass RX12 = some m.cls := findClass_of_methodNamed B.named
  have hlocks := B.notSynchronized
  subst hsz
  have hS : va_S (aM h ad s.heap.size) s.heap s.heap [] := va_S.rf
  have hl := lv_entry ([.ref h, .int a, .int b, .int v, .int d, .int f]) (n := 6) (Nat.le_of_ble_eq_true rfl)
  rw [lg_entry_eq]
  generalize (lg_sl ([.ref h, .int a, .int b, .int v, .int d, .int f]) ++ List.replicate (6 - (lg_sl ([.ref h, .int a, .int b, .int v, .int d, .int f])).length) Slot.unset).toArray = ls at hl ⊢
  have hl : lv_has ls 6 [(0, .ref h), (1, .int a), (2, .int b), (3, .int v), (4, .int d), (5, .int f)] := hl
  have zc0 : (0 : Int32).toInt = 0 := by decide
  have zc1 : (1 : Int32).toInt = 1 := by decide
  have zc10 : (10 : Int32).toInt = 10 := by decide
  have zc99 : (99 : Int32).toInt = 99 := by decide
  have zc200 : (200 : Int32).toInt = 200 := by decide
  have zc9999 : (9999 : Int32).toInt = 9999 := by decide
  have zcm1 : ((-1) : Int32).toInt = (-1) := by decide
  refine lv_aload_n hx hb dX12_feed_0 rfl (lv_at hl 0 rfl) ?_
  refine lv_iconst (v := 0) hx hb dX12_feed_1 (by decide) ?_
  refine pM_0 hx hb htg hown hK hP hS hd dX12_feed_2 (fun H locs fv_1 efv_1 hP hS => ?_)
  have hF_fv_1 : rF fv_1 := rF_put hF_fv efv_1 (iv_any _)
  refine lv_aload_n hx hb dX12_feed_5 rfl (lv_at hl 0 rfl) ?_
  refine gM_2 hx hb htg hown hK hP dX12_feed_6 ?_
  refine my_ti (y := fv 2) ((congrFun efv_1 2)) ?_
  have i_2 : 0 ≤ (fv 2).toInt ∧ (fv 2).toInt ≤ 340 := hF_fv 2
  refine lv_bipush (v := 20) hx hb dX12_feed_9 (by decide) ?_
  refine lv_iadd hx hb dX12_feed_11 ?_
  refine lv_topi (fun v_3 ev_3 => ?_)
  have t_4 : v_3.toInt = (fv 2).toInt + 20 ∧ 20 ≤ v_3.toInt ∧ v_3.toInt ≤ 360 := iv_addc ev_3 i_2 (by decide) (by decide) (by decide)
  refine lv_sipush (v := 340) hx hb dX12_feed_12 (by decide) ?_
  refine lv_icmp_le (tgt := 20) hx hb dX12_feed_15 (by decide) (fun c_6 => ?_) (fun c_6 => ?_)
  · skip
    have i_7 : 20 ≤ v_3.toInt ∧ v_3.toInt ≤ 340 := iv_le1 t_4.2 (⟨by decide, by decide⟩ : (340 : Int) ≤ (340 : Int32).toInt ∧ (340 : Int32).toInt ≤ 340) c_6
    refine lv_aload_n hx hb dX12_feed_20 rfl (lv_at hl 0 rfl) ?_
    refine lv_iload_n hx hb dX12_feed_21 rfl (lv_at hl 1 rfl) ?_
    have z_8 : (fv_1 2).toInt = (fv 2).toInt := congrArg Int32.toInt ((congrFun efv_1 2))
    have z_9 : 0 ≤ (fv_1 2).toInt ∧ (fv_1 2).toInt ≤ 340 := hF_fv_1 2
    have z_10 : (fv_1 2).toInt = (fv 2).toInt := congrArg Int32.toInt ((congrFun efv_1 2))
    have z_11 : 0 ≤ (fv_1 2).toInt ∧ (fv_1 2).toInt ≤ 340 := hF_fv_1 2
    refine va_callv (va_runV (As := [.int a]) (rest := []) ⟨hx, hb, hml, hown, hts⟩ (m_comeC l dC dI H.size h ad cA hd fv_1 wd ar hF_fv_1 hA_ar a (by omega)) (cwV 1 hts (gV kw_7_206 kw_7_208 kw_p_57 kw_1_15 kw_7_209) rfl rfl rfl (by decide +kernel) ⟨Nat.le_of_ble_eq_true rfl, Nat.le_of_ble_eq_true rfl⟩) ⟨fun a U g mk q => ⟨q.1, q.2.1, q.2.2.1, va_K.moved (u := U) (U := U.calling g mk a) (Vm.Alike.refl U.vm) q.2.2.2⟩, va_recv hK hP (ci := 12) (q0 := 0) rfl rfl, fun U hU hW => ⟨rfl, by rw [hU], by rw [hU]; exact hP, va_K.moved hW.alike hK⟩⟩ rfl rfl hl.1 rfl (lv_room (Nat.le_of_ble_eq_true rfl)) dX12_feed_22 ⟨Nat.le_of_ble_eq_true rfl, Nat.le_of_ble_eq_true rfl⟩) hS (fun q _ h9 => aM_up hS q h9) (aM_up hS) (fun u t H1 locs ht _ hw hB _ hk1 hS => ?_)
    obtain ⟨fv_15, wd_16, ar_17⟩ := u
    obtain ⟨hF_fv_15, hA_ar_17, fr_18, fa_19, p_13, p_14, -⟩ := hw
    have hP : va_P (dC, dI) vwCl (wsM h ad cA fv_15 wd_16 ar_17) H1 := by have h9 := hB.1; rw [ht] at h9; exact h9
    have fr_18 : fM [2] fv_1 fv_15 := fr_18
    have fa_19 : fA [1] ar ar_17 := fa_19
    have p_13 : (fv_15 2).toInt = (fv_1 2).toInt + 4 := p_13
    have p_14 : ar_17 1 = wt_tpw (ar 1) ((fv_1 2).toInt.toNat) a := p_14
    generalize H1 = H at hP hS ⊢
    refine lv_aload_n hx hb dX12_feed_25 rfl (lv_at hl 0 rfl) ?_
    refine lv_iload_n hx hb dX12_feed_26 rfl (lv_at hl 2 rfl) ?_
    have z_20 : 0 ≤ (fv_15 2).toInt ∧ (fv_15 2).toInt ≤ 340 := hF_fv_15 2
    have z_21 : 0 ≤ (fv_15 2).toInt ∧ (fv_15 2).toInt ≤ 340 := hF_fv_15 2
    refine va_callv (va_runV (As := [.int b]) (rest := []) ⟨hx, hb, hml, hown, hts⟩ (m_comeC l dC dI H.size h ad cA hd fv_15 wd_16 ar_17 hF_fv_15 hA_ar_17 b (by omega)) (cwV 1 hts (gV kw_7_206 kw_7_208 kw_p_57 kw_1_15 kw_7_209) rfl rfl rfl (by decide +kernel) ⟨Nat.le_of_ble_eq_true rfl, Nat.le_of_ble_eq_true rfl⟩) ⟨fun a U g mk q => ⟨q.1, q.2.1, q.2.2.1, va_K.moved (u := U) (U := U.calling g mk a) (Vm.Alike.refl U.vm) q.2.2.2⟩, va_recv hK hP (ci := 12) (q0 := 0) rfl rfl, fun U hU hW => ⟨rfl, by rw [hU], by rw [hU]; exact hP, va_K.moved hW.alike hK⟩⟩ rfl rfl hl.1 rfl (lv_room (Nat.le_of_ble_eq_true rfl)) dX12_feed_27 ⟨Nat.le_of_ble_eq_true rfl, Nat.le_of_ble_eq_true rfl⟩) hS (fun q _ h9 => aM_up hS q h9) (aM_up hS) (fun u t H1 locs ht _ hw hB _ hk1 hS => ?_)
    obtain ⟨fv_25, wd_26, ar_27⟩ := u
    obtain ⟨hF_fv_25, hA_ar_27, fr_28, fa_29, p_23, p_24, -⟩ := hw
    have hP : va_P (dC, dI) vwCl (wsM h ad cA fv_25 wd_26 ar_27) H1 := by have h9 := hB.1; rw [ht] at h9; exact h9
    have fr_28 : fM [2] fv_15 fv_25 := fr_28
    have fa_29 : fA [1] ar_17 ar_27 := fa_29
    have p_23 : (fv_25 2).toInt = (fv_15 2).toInt + 4 := p_23
    have p_24 : ar_27 1 = wt_tpw (ar_17 1) ((fv_15 2).toInt.toNat) b := p_24
    generalize H1 = H at hP hS ⊢
    refine lv_aload_n hx hb dX12_feed_30 rfl (lv_at hl 0 rfl) ?_
    refine lv_iload_n hx hb dX12_feed_31 rfl (lv_at hl 3 rfl) ?_
    have z_30 : 0 ≤ (fv_25 2).toInt ∧ (fv_25 2).toInt ≤ 340 := hF_fv_25 2
    have z_31 : 0 ≤ (fv_25 2).toInt ∧ (fv_25 2).toInt ≤ 340 := hF_fv_25 2
    refine va_callv (va_runV (As := [.int v]) (rest := []) ⟨hx, hb, hml, hown, hts⟩ (m_comeC l dC dI H.size h ad cA hd fv_25 wd_26 ar_27 hF_fv_25 hA_ar_27 v (by omega)) (cwV 1 hts (gV kw_7_206 kw_7_208 kw_p_57 kw_1_15 kw_7_209) rfl rfl rfl (by decide +kernel) ⟨Nat.le_of_ble_eq_true rfl, Nat.le_of_ble_eq_true rfl⟩) ⟨fun a U g mk q => ⟨q.1, q.2.1, q.2.2.1, va_K.moved (u := U) (U := U.calling g mk a) (Vm.Alike.refl U.vm) q.2.2.2⟩, va_recv hK hP (ci := 12) (q0 := 0) rfl rfl, fun U hU hW => ⟨rfl, by rw [hU], by rw [hU]; exact hP, va_K.moved hW.alike hK⟩⟩ rfl rfl hl.1 rfl (lv_room (Nat.le_of_ble_eq_true rfl)) dX12_feed_32 ⟨Nat.le_of_ble_eq_true rfl, Nat.le_of_ble_eq_true rfl⟩) hS (fun q _ h9 => aM_up hS q h9) (aM_up hS) (fun u t H1 locs ht _ hw hB _ hk1 hS => ?_)
    obtain ⟨fv_35, wd_36, ar_37⟩ := u
    obtain ⟨hF_fv_35, hA_ar_37, fr_38, fa_39, p_33, p_34, -⟩ := hw
    have hP : va_P (dC, dI) vwCl (wsM h ad cA fv_35 wd_36 ar_37) H1 := by have h9 := hB.1; rw [ht] at h9; exact h9
    have fr_38 : fM [2] fv_25 fv_35 := fr_38
    have fa_39 : fA [1] ar_27 ar_37 := fa_39
    have p_33 : (fv_35 2).toInt = (fv_25 2).toInt + 4 := p_33
    have p_34 : ar_37 1 = wt_tpw (ar_27 1) ((fv_25 2).toInt.toNat) v := p_34
    generalize H1 = H at hP hS ⊢
    refine lv_aload_n hx hb dX12_feed_35 rfl (lv_at hl 0 rfl) ?_
    refine lv_iload hx hb dX12_feed_36 (lv_at hl 4 rfl) ?_
    have z_40 : 0 ≤ (fv_35 2).toInt ∧ (fv_35 2).toInt ≤ 340 := hF_fv_35 2
    have z_41 : 0 ≤ (fv_35 2).toInt ∧ (fv_35 2).toInt ≤ 340 := hF_fv_35 2
    refine va_callv (va_runV (As := [.int d]) (rest := []) ⟨hx, hb, hml, hown, hts⟩ (m_comeC l dC dI H.size h ad cA hd fv_35 wd_36 ar_37 hF_fv_35 hA_ar_37 d (by omega)) (cwV 1 hts (gV kw_7_206 kw_7_208 kw_p_57 kw_1_15 kw_7_209) rfl rfl rfl (by decide +kernel) ⟨Nat.le_of_ble_eq_true rfl, Nat.le_of_ble_eq_true rfl⟩) ⟨fun a U g mk q => ⟨q.1, q.2.1, q.2.2.1, va_K.moved (u := U) (U := U.calling g mk a) (Vm.Alike.refl U.vm) q.2.2.2⟩, va_recv hK hP (ci := 12) (q0 := 0) rfl rfl, fun U hU hW => ⟨rfl, by rw [hU], by rw [hU]; exact hP, va_K.moved hW.alike hK⟩⟩ rfl rfl hl.1 rfl (lv_room (Nat.le_of_ble_eq_true rfl)) dX12_feed_38 ⟨Nat.le_of_ble_eq_true rfl, Nat.le_of_ble_eq_true rfl⟩) hS (fun q _ h9 => aM_up hS q h9) (aM_up hS) (fun u t H1 locs ht _ hw hB _ hk1 hS => ?_)
    obtain ⟨fv_45, wd_46, ar_47⟩ := u
    obtain ⟨hF_fv_45, hA_ar_47, fr_48, fa_49, p_43, p_44, -⟩ := hw
    have hP : va_P (dC, dI) vwCl (wsM h ad cA fv_45 wd_46 ar_47) H1 := by have h9 := hB.1; rw [ht] at h9; exact h9
    have fr_48 : fM [2] fv_35 fv_45 := fr_48
    have fa_49 : fA [1] ar_37 ar_47 := fa_49
    have p_43 : (fv_45 2).toInt = (fv_35 2).toInt + 4 := p_43
    have p_44 : ar_47 1 = wt_tpw (ar_37 1) ((fv_35 2).toInt.toNat) d := p_44
    generalize H1 = H at hP hS ⊢
    refine lv_aload_n hx hb dX12_feed_41 rfl (lv_at hl 0 rfl) ?_
    refine lv_iload hx hb dX12_feed_42 (lv_at hl 5 rfl) ?_
    have z_50 : 0 ≤ (fv_45 2).toInt ∧ (fv_45 2).toInt ≤ 340 := hF_fv_45 2
    have z_51 : 0 ≤ (fv_45 2).toInt ∧ (fv_45 2).toInt ≤ 340 := hF_fv_45 2
    refine va_callv (va_runV (As := [.int f]) (rest := []) ⟨hx, hb, hml, hown, hts⟩ (m_comeC l dC dI H.size h ad cA hd fv_45 wd_46 ar_47 hF_fv_45 hA_ar_47 f (by omega)) (cwV 1 hts (gV kw_7_206 kw_7_208 kw_p_57 kw_1_15 kw_7_209) rfl rfl rfl (by decide +kernel) ⟨Nat.le_of_ble_eq_true rfl, Nat.le_of_ble_eq_true rfl⟩) ⟨fun a U g mk q => ⟨q.1, q.2.1, q.2.2.1, va_K.moved (u := U) (U := U.calling g mk a) (Vm.Alike.refl U.vm) q.2.2.2⟩, va_recv hK hP (ci := 12) (q0 := 0) rfl rfl, fun U hU hW => ⟨rfl, by rw [hU], by rw [hU]; exact hP, va_K.moved hW.alike hK⟩⟩ rfl rfl hl.1 rfl (lv_room (Nat.le_of_ble_eq_true rfl)) dX12_feed_44 ⟨Nat.le_of_ble_eq_true rfl, Nat.le_of_ble_eq_true rfl⟩) hS (fun q _ h9 => aM_up hS q h9) (aM_up hS) (fun u t H1 locs ht _ hw hB _ hk1 hS => ?_)
    obtain ⟨fv_55, wd_56, ar_57⟩ := u
    obtain ⟨hF_fv_55, hA_ar_57, fr_58, fa_59, p_53, p_54, -⟩ := hw
    have hP : va_P (dC, dI) vwCl (wsM h ad cA fv_55 wd_56 ar_57) H1 := by have h9 := hB.1; rw [ht] at h9; exact h9
    have fr_58 : fM [2] fv_45 fv_55 := fr_58
    have fa_59 : fA [1] ar_47 ar_57 := fa_59
    have p_53 : (fv_55 2).toInt = (fv_45 2).toInt + 4 := p_53
    have p_54 : ar_57 1 = wt_tpw (ar_47 1) ((fv_45 2).toInt.toNat) f := p_54
    generalize H1 = H at hP hS ⊢
    refine lv_aload_n hx hb dX12_feed_47 rfl (lv_at hl 0 rfl) ?_
    refine gM_2 hx hb htg hown hK hP dX12_feed_48 ?_
    have i_60 : 0 ≤ (fv_55 2).toInt ∧ (fv_55 2).toInt ≤ 340 := hF_fv_55 2
    exact W.iret (v := fv_55 2) hx hb hr (fun t ht hW => ⟨⟨fv_55 2, (fv_55, wd_56, ar_57), rfl, ⟨hF_fv_55, hA_ar_57, (fM_call (fM_call (fM_call (fM_call (fM_call (fM_put (fM_rf [0, 2] _) efv_1 (by decide)) fr_18 (by decide)) fr_28 (by decide)) fr_38 (by decide)) fr_48 (by decide)) fr_58 (by decide)), (fA_call (fA_call (fA_call (fA_call (fA_call (fA_rf [1] _) fa_19 (by decide)) fa_29 (by decide)) fa_39 (by decide)) fa_49 (by decide)) fa_59 (by decide)), (show ps_feed (fv_55 2) (fv_55 2) (fv 2) from by have q_fv_1_33 : (fv_1 33).toInt = (fv 33).toInt := congrArg Int32.toInt ((fM_put (fM_rf [0] _) efv_1 (by decide)) 33 rfl); have q_fv_1_3 : (fv_1 3).toInt = (fv 3).toInt := congrArg Int32.toInt ((fM_put (fM_rf [0] _) efv_1 (by decide)) 3 rfl); have q_fv_1_6 : (fv_1 6).toInt = (fv 6).toInt := congrArg Int32.toInt ((fM_put (fM_rf [0] _) efv_1 (by decide)) 6 rfl); have q_fv_1_34 : (fv_1 34).toInt = (fv 34).toInt := congrArg Int32.toInt ((fM_put (fM_rf [0] _) efv_1 (by decide)) 34 rfl); have q_fv_1_35 : (fv_1 35).toInt = (fv 35).toInt := congrArg Int32.toInt ((fM_put (fM_rf [0] _) efv_1 (by decide)) 35 rfl); have q_fv_1_2 : (fv_1 2).toInt = (fv 2).toInt := congrArg Int32.toInt ((fM_put (fM_rf [0] _) efv_1 (by decide)) 2 rfl); have q_fv_15_33 : (fv_15 33).toInt = (fv 33).toInt := congrArg Int32.toInt ((fM_call (fM_put (fM_rf [0, 2] _) efv_1 (by decide)) fr_18 (by decide)) 33 rfl); have q_fv_15_3 : (fv_15 3).toInt = (fv 3).toInt := congrArg Int32.toInt ((fM_call (fM_put (fM_rf [0, 2] _) efv_1 (by decide)) fr_18 (by decide)) 3 rfl); have q_fv_15_6 : (fv_15 6).toInt = (fv 6).toInt := congrArg Int32.toInt ((fM_call (fM_put (fM_rf [0, 2] _) efv_1 (by decide)) fr_18 (by decide)) 6 rfl); have q_fv_15_34 : (fv_15 34).toInt = (fv 34).toInt := congrArg Int32.toInt ((fM_call (fM_put (fM_rf [0, 2] _) efv_1 (by decide)) fr_18 (by decide)) 34 rfl); have q_fv_15_35 : (fv_15 35).toInt = (fv 35).toInt := congrArg Int32.toInt ((fM_call (fM_put (fM_rf [0, 2] _) efv_1 (by decide)) fr_18 (by decide)) 35 rfl); have q_fv_25_33 : (fv_25 33).toInt = (fv 33).toInt := congrArg Int32.toInt ((fM_call (fM_call (fM_put (fM_rf [0, 2] _) efv_1 (by decide)) fr_18 (by decide)) fr_28 (by decide)) 33 rfl); have q_fv_25_3 : (fv_25 3).toInt = (fv 3).toInt := congrArg Int32.toInt ((fM_call (fM_call (fM_put (fM_rf [0, 2] _) efv_1 (by decide)) fr_18 (by decide)) fr_28 (by decide)) 3 rfl); have q_fv_25_6 : (fv_25 6).toInt = (fv 6).toInt := congrArg Int32.toInt ((fM_call (fM_call (fM_put (fM_rf [0, 2] _) efv_1 (by decide)) fr_18 (by decide)) fr_28 (by decide)) 6 rfl); have q_fv_25_34 : (fv_25 34).toInt = (fv 34).toInt := congrArg Int32.toInt ((fM_call (fM_call (fM_put (fM_rf [0, 2] _) efv_1 (by decide)) fr_18 (by decide)) fr_28 (by decide)) 34 rfl); have q_fv_25_35 : (fv_25 35).toInt = (fv 35).toInt := congrArg Int32.toInt ((fM_call (fM_call (fM_put (fM_rf [0, 2] _) efv_1 (by decide)) fr_18 (by decide)) fr_28 (by decide)) 35 rfl); have q_fv_35_33 : (fv_35 33).toInt = (fv 33).toInt := congrArg Int32.toInt ((fM_call (fM_call (fM_call (fM_put (fM_rf [0, 2] _) efv_1 (by decide)) fr_18 (by decide)) fr_28 (by decide)) fr_38 (by decide)) 33 rfl); have q_fv_35_3 : (fv_35 3).toInt = (fv 3).toInt := congrArg Int32.toInt ((fM_call (fM_call (fM_call (fM_put (fM_rf [0, 2] _) efv_1 (by decide)) fr_18 (by decide)) fr_28 (by decide)) fr_38 (by decide)) 3 rfl); have q_fv_35_6 : (fv_35 6).toInt = (fv 6).toInt := congrArg Int32.toInt ((fM_call (fM_call (fM_call (fM_put (fM_rf [0, 2] _) efv_1 (by decide)) fr_18 (by decide)) fr_28 (by decide)) fr_38 (by decide)) 6 rfl); have q_fv_35_34 : (fv_35 34).toInt = (fv 34).toInt := congrArg Int32.toInt ((fM_call (fM_call (fM_call (fM_put (fM_rf [0, 2] _) efv_1 (by decide)) fr_18 (by decide)) fr_28 (by decide)) fr_38 (by decide)) 34 rfl); have q_fv_35_35 : (fv_35 35).toInt = (fv 35).toInt := congrArg Int32.toInt ((fM_call (fM_call (fM_call (fM_put (fM_rf [0, 2] _) efv_1 (by decide)) fr_18 (by decide)) fr_28 (by decide)) fr_38 (by decide)) 35 rfl); have q_fv_45_33 : (fv_45 33).toInt = (fv 33).toInt := congrArg Int32.toInt ((fM_call (fM_call (fM_call (fM_call (fM_put (fM_rf [0, 2] _) efv_1 (by decide)) fr_18 (by decide)) fr_28 (by decide)) fr_38 (by decide)) fr_48 (by decide)) 33 rfl); have q_fv_45_3 : (fv_45 3).toInt = (fv 3).toInt := congrArg Int32.toInt ((fM_call (fM_call (fM_call (fM_call (fM_put (fM_rf [0, 2] _) efv_1 (by decide)) fr_18 (by decide)) fr_28 (by decide)) fr_38 (by decide)) fr_48 (by decide)) 3 rfl); have q_fv_45_6 : (fv_45 6).toInt = (fv 6).toInt := congrArg Int32.toInt ((fM_call (fM_call (fM_call (fM_call (fM_put (fM_rf [0, 2] _) efv_1 (by decide)) fr_18 (by decide)) fr_28 (by decide)) fr_38 (by decide)) fr_48 (by decide)) 6 rfl); have q_fv_45_34 : (fv_45 34).toInt = (fv 34).toInt := congrArg Int32.toInt ((fM_call (fM_call (fM_call (fM_call (fM_put (fM_rf [0, 2] _) efv_1 (by decide)) fr_18 (by decide)) fr_28 (by decide)) fr_38 (by decide)) fr_48 (by decide)) 34 rfl); have q_fv_45_35 : (fv_45 35).toInt = (fv 35).toInt := congrArg Int32.toInt ((fM_call (fM_call (fM_call (fM_call (fM_put (fM_rf [0, 2] _) efv_1 (by decide)) fr_18 (by decide)) fr_28 (by decide)) fr_38 (by decide)) fr_48 (by decide)) 35 rfl); have q_fv_55_33 : (fv_55 33).toInt = (fv 33).toInt := congrArg Int32.toInt ((fM_call (fM_call (fM_call (fM_call (fM_call (fM_put (fM_rf [0, 2] _) efv_1 (by decide)) fr_18 (by decide)) fr_28 (by decide)) fr_38 (by decide)) fr_48 (by decide)) fr_58 (by decide)) 33 rfl); have q_fv_55_3 : (fv_55 3).toInt = (fv 3).toInt := congrArg Int32.toInt ((fM_call (fM_call (fM_call (fM_call (fM_call (fM_put (fM_rf [0, 2] _) efv_1 (by decide)) fr_18 (by decide)) fr_28 (by decide)) fr_38 (by decide)) fr_48 (by decide)) fr_58 (by decide)) 3 rfl); have q_fv_55_6 : (fv_55 6).toInt = (fv 6).toInt := congrArg Int32.toInt ((fM_call (fM_call (fM_call (fM_call (fM_call (fM_put (fM_rf [0, 2] _) efv_1 (by decide)) fr_18 (by decide)) fr_28 (by decide)) fr_38 (by decide)) fr_48 (by decide)) fr_58 (by decide)) 6 rfl); have q_fv_55_34 : (fv_55 34).toInt = (fv 34).toInt := congrArg Int32.toInt ((fM_call (fM_call (fM_call (fM_call (fM_call (fM_put (fM_rf [0, 2] _) efv_1 (by decide)) fr_18 (by decide)) fr_28 (by decide)) fr_38 (by decide)) fr_48 (by decide)) fr_58 (by decide)) 34 rfl); have q_fv_55_35 : (fv_55 35).toInt = (fv 35).toInt := congrArg Int32.toInt ((fM_call (fM_call (fM_call (fM_call (fM_call (fM_put (fM_rf [0, 2] _) efv_1 (by decide)) fr_18 (by decide)) fr_28 (by decide)) fr_38 (by decide)) fr_48 (by decide)) fr_58 (by decide)) 35 rfl); exact Or.inr ⟨by first | rfl | omega, by omega, by omega⟩), (show wt_tpU (ar_57 1) (ar 1) (fv 2) a b v d f from by have q_fv_1_33 : (fv_1 33).toInt = (fv 33).toInt := congrArg Int32.toInt ((fM_put (fM_rf [0] _) efv_1 (by decide)) 33 rfl); have q_fv_1_3 : (fv_1 3).toInt = (fv 3).toInt := congrArg Int32.toInt ((fM_put (fM_rf [0] _) efv_1 (by decide)) 3 rfl); have q_fv_1_6 : (fv_1 6).toInt = (fv 6).toInt := congrArg Int32.toInt ((fM_put (fM_rf [0] _) efv_1 (by decide)) 6 rfl); have q_fv_1_34 : (fv_1 34).toInt = (fv 34).toInt := congrArg Int32.toInt ((fM_put (fM_rf [0] _) efv_1 (by decide)) 34 rfl); have q_fv_1_35 : (fv_1 35).toInt = (fv 35).toInt := congrArg Int32.toInt ((fM_put (fM_rf [0] _) efv_1 (by decide)) 35 rfl); have q_fv_1_2 : (fv_1 2).toInt = (fv 2).toInt := congrArg Int32.toInt ((fM_put (fM_rf [0] _) efv_1 (by decide)) 2 rfl); have q_fv_15_33 : (fv_15 33).toInt = (fv 33).toInt := congrArg Int32.toInt ((fM_call (fM_put (fM_rf [0, 2] _) efv_1 (by decide)) fr_18 (by decide)) 33 rfl); have q_fv_15_3 : (fv_15 3).toInt = (fv 3).toInt := congrArg Int32.toInt ((fM_call (fM_put (fM_rf [0, 2] _) efv_1 (by decide)) fr_18 (by decide)) 3 rfl); have q_fv_15_6 : (fv_15 6).toInt = (fv 6).toInt := congrArg Int32.toInt ((fM_call (fM_put (fM_rf [0, 2] _) efv_1 (by decide)) fr_18 (by decide)) 6 rfl); have q_fv_15_34 : (fv_15 34).toInt = (fv 34).toInt := congrArg Int32.toInt ((fM_call (fM_put (fM_rf [0, 2] _) efv_1 (by decide)) fr_18 (by decide)) 34 rfl); have q_fv_15_35 : (fv_15 35).toInt = (fv 35).toInt := congrArg Int32.toInt ((fM_call (fM_put (fM_rf [0, 2] _) efv_1 (by decide)) fr_18 (by decide)) 35 rfl); have q_fv_25_33 : (fv_25 33).toInt = (fv 33).toInt := congrArg Int32.toInt ((fM_call (fM_call (fM_put (fM_rf [0, 2] _) efv_1 (by decide)) fr_18 (by decide)) fr_28 (by decide)) 33 rfl); have q_fv_25_3 : (fv_25 3).toInt = (fv 3).toInt := congrArg Int32.toInt ((fM_call (fM_call (fM_put (fM_rf [0, 2] _) efv_1 (by decide)) fr_18 (by decide)) fr_28 (by decide)) 3 rfl); have q_fv_25_6 : (fv_25 6).toInt = (fv 6).toInt := congrArg Int32.toInt ((fM_call (fM_call (fM_put (fM_rf [0, 2] _) efv_1 (by decide)) fr_18 (by decide)) fr_28 (by decide)) 6 rfl); have q_fv_25_34 : (fv_25 34).toInt = (fv 34).toInt := congrArg Int32.toInt ((fM_call (fM_call (fM_put (fM_rf [0, 2] _) efv_1 (by decide)) fr_18 (by decide)) fr_28 (by decide)) 34 rfl); have q_fv_25_35 : (fv_25 35).toInt = (fv 35).toInt := congrArg Int32.toInt ((fM_call (fM_call (fM_put (fM_rf [0, 2] _) efv_1 (by decide)) fr_18 (by decide)) fr_28 (by decide)) 35 rfl); have q_fv_35_33 : (fv_35 33).toInt = (fv 33).toInt := congrArg Int32.toInt ((fM_call (fM_call (fM_call (fM_put (fM_rf [0, 2] _) efv_1 (by decide)) fr_18 (by decide)) fr_28 (by decide)) fr_38 (by decide)) 33 rfl); have q_fv_35_3 : (fv_35 3).toInt = (fv 3).toInt := congrArg Int32.toInt ((fM_call (fM_call (fM_call (fM_put (fM_rf [0, 2] _) efv_1 (by decide)) fr_18 (by decide)) fr_28 (by decide)) fr_38 (by decide)) 3 rfl); have q_fv_35_6 : (fv_35 6).toInt = (fv 6).toInt := congrArg Int32.toInt ((fM_call (fM_call (fM_call (fM_put (fM_rf [0, 2] _) efv_1 (by decide)) fr_18 (by decide)) fr_28 (by decide)) fr_38 (by decide)) 6 rfl); have q_fv_35_34 : (fv_35 34).toInt = (fv 34).toInt := congrArg Int32.toInt ((fM_call (fM_call (fM_call (fM_put (fM_rf [0, 2] _) efv_1 (by decide)) fr_18 (by decide)) fr_28 (by decide)) fr_38 (by decide)) 34 rfl); have q_fv_35_35 : (fv_35 35).toInt = (fv 35).toInt := congrArg Int32.toInt ((fM_call (fM_call (fM_call (fM_put (fM_rf [0, 2] _) efv_1 (by decide)) fr_18 (by decide)) fr_28 (by decide)) fr_38 (by decide)) 35 rfl); have q_fv_45_33 : (fv_45 33).toInt = (fv 33).toInt := congrArg Int32.toInt ((fM_call (fM_call (fM_call (fM_call (fM_put (fM_rf [0, 2] _) efv_1 (by decide)) fr_18 (by decide)) fr_28 (by decide)) fr_38 (by decide)) fr_48 (by decide)) 33 rfl); have q_fv_45_3 : (fv_45 3).toInt = (fv 3).toInt := congrArg Int32.toInt ((fM_call (fM_call (fM_call (fM_call (fM_put (fM_rf [0, 2] _) efv_1 (by decide)) fr_18 (by decide)) fr_28 (by decide)) fr_38 (by decide)) fr_48 (by decide)) 3 rfl); have q_fv_45_6 : (fv_45 6).toInt = (fv 6).toInt := congrArg Int32.toInt ((fM_call (fM_call (fM_call (fM_call (fM_put (fM_rf [0, 2] _) efv_1 (by decide)) fr_18 (by decide)) fr_28 (by decide)) fr_38 (by decide)) fr_48 (by decide)) 6 rfl); have q_fv_45_34 : (fv_45 34).toInt = (fv 34).toInt := congrArg Int32.toInt ((fM_call (fM_call (fM_call (fM_call (fM_put (fM_rf [0, 2] _) efv_1 (by decide)) fr_18 (by decide)) fr_28 (by decide)) fr_38 (by decide)) fr_48 (by decide)) 34 rfl); have q_fv_45_35 : (fv_45 35).toInt = (fv 35).toInt := congrArg Int32.toInt ((fM_call (fM_call (fM_call (fM_call (fM_put (fM_rf [0, 2] _) efv_1 (by decide)) fr_18 (by decide)) fr_28 (by decide)) fr_38 (by decide)) fr_48 (by decide)) 35 rfl); have q_fv_55_33 : (fv_55 33).toInt = (fv 33).toInt := congrArg Int32.toInt ((fM_call (fM_call (fM_call (fM_call (fM_call (fM_put (fM_rf [0, 2] _) efv_1 (by decide)) fr_18 (by decide)) fr_28 (by decide)) fr_38 (by decide)) fr_48 (by decide)) fr_58 (by decide)) 33 rfl); have q_fv_55_3 : (fv_55 3).toInt = (fv 3).toInt := congrArg Int32.toInt ((fM_call (fM_call (fM_call (fM_call (fM_call (fM_put (fM_rf [0, 2] _) efv_1 (by decide)) fr_18 (by decide)) fr_28 (by decide)) fr_38 (by decide)) fr_48 (by decide)) fr_58 (by decide)) 3 rfl); have q_fv_55_6 : (fv_55 6).toInt = (fv 6).toInt := congrArg Int32.toInt ((fM_call (fM_call (fM_call (fM_call (fM_call (fM_put (fM_rf [0, 2] _) efv_1 (by decide)) fr_18 (by decide)) fr_28 (by decide)) fr_38 (by decide)) fr_48 (by decide)) fr_58 (by decide)) 6 rfl); have q_fv_55_34 : (fv_55 34).toInt = (fv 34).toInt := congrArg Int32.toInt ((fM_call (fM_call (fM_call (fM_call (fM_call (fM_put (fM_rf [0, 2] _) efv_1 (by decide)) fr_18 (by decide)) fr_28 (by decide)) fr_38 (by decide)) fr_48 (by decide)) fr_58 (by decide)) 34 rfl); have q_fv_55_35 : (fv_55 35).toInt = (fv 35).toInt := congrArg Int32.toInt ((fM_call (fM_call (fM_call (fM_call (fM_call (fM_put (fM_rf [0, 2] _) efv_1 (by decide)) fr_18 (by decide)) fr_28 (by decide)) fr_38 (by decide)) fr_48 (by decide)) fr_58 (by decide)) 35 rfl); exact Or.inr ⟨by omega, by rw [p_54, p_44, p_34, p_24, p_14, show (fv_1 2).toInt.toNat = (fv 2).toInt.toNat from (by omega), show (fv_15 2).toInt.toNat = (fv 2).toInt.toNat + 4 from (by omega), show (fv_25 2).toInt.toNat = (fv 2).toInt.toNat + 8 from (by omega), show (fv_35 2).toInt.toNat = (fv 2).toInt.toNat + 12 from (by omega), show (fv_45 2).toInt.toNat = (fv 2).toInt.toNat + 16 from (by omega)]; rfl⟩), trivial⟩, ⟨by rw [ht]; exact hP, va_K.moved hW.alike hK⟩⟩, hS.F ht⟩) hS.2.2 dX12_feed_51
  · skip
    have i_61 : 341 ≤ v_3.toInt ∧ v_3.toInt ≤ 360 := iv_lt2 (⟨by decide, by decide⟩ : (340 : Int) ≤ (340 : Int32).toInt ∧ (340 : Int32).toInt ≤ 340) t_4.2 (Int32.not_le.mp c_6)
    refine lv_iconst (v := (-1)) hx hb dX12_feed_18 (by decide) ?_
    have z_62 : ((-1) : Int32).toInt = (-1) := by decide
    exact W.iret (v := (-1)) hx hb hr (fun t ht hW => ⟨⟨(-1), (fv_1, wd, ar), rfl, ⟨hF_fv_1, hA_ar, (fM_put (fM_rf [0, 2] _) efv_1 (by decide)), (fA_rf [1] _), (show ps_feed ((-1) : Int32) (fv_1 2) (fv 2) from by have q_fv_1_33 : (fv_1 33).toInt = (fv 33).toInt := congrArg Int32.toInt ((fM_put (fM_rf [0] _) efv_1 (by decide)) 33 rfl); have q_fv_1_3 : (fv_1 3).toInt = (fv 3).toInt := congrArg Int32.toInt ((fM_put (fM_rf [0] _) efv_1 (by decide)) 3 rfl); have q_fv_1_6 : (fv_1 6).toInt = (fv 6).toInt := congrArg Int32.toInt ((fM_put (fM_rf [0] _) efv_1 (by decide)) 6 rfl); have q_fv_1_34 : (fv_1 34).toInt = (fv 34).toInt := congrArg Int32.toInt ((fM_put (fM_rf [0] _) efv_1 (by decide)) 34 rfl); have q_fv_1_35 : (fv_1 35).toInt = (fv 35).toInt := congrArg Int32.toInt ((fM_put (fM_rf [0] _) efv_1 (by decide)) 35 rfl); have q_fv_1_2 : (fv_1 2).toInt = (fv 2).toInt := congrArg Int32.toInt ((fM_put (fM_rf [0] _) efv_1 (by decide)) 2 rfl); exact Or.inl ⟨rfl, (congrFun efv_1 2), by omega⟩), (show wt_tpU (ar 1) (ar 1) (fv 2) a b v d f from by have q_fv_1_33 : (fv_1 33).toInt = (fv 33).toInt := congrArg Int32.toInt ((fM_put (fM_rf [0] _) efv_1 (by decide)) 33 rfl); have q_fv_1_3 : (fv_1 3).toInt = (fv 3).toInt := congrArg Int32.toInt ((fM_put (fM_rf [0] _) efv_1 (by decide)) 3 rfl); have q_fv_1_6 : (fv_1 6).toInt = (fv 6).toInt := congrArg Int32.toInt ((fM_put (fM_rf [0] _) efv_1 (by decide)) 6 rfl); have q_fv_1_34 : (fv_1 34).toInt = (fv 34).toInt := congrArg Int32.toInt ((fM_put (fM_rf [0] _) efv_1 (by decide)) 34 rfl); have q_fv_1_35 : (fv_1 35).toInt = (fv 35).toInt := congrArg Int32.toInt ((fM_put (fM_rf [0] _) efv_1 (by decide)) 35 rfl); have q_fv_1_2 : (fv_1 2).toInt = (fv 2).toInt := congrArg Int32.toInt ((fM_put (fM_rf [0] _) efv_1 (by decide)) 2 rfl); exact Or.inl ⟨by omega, rfl⟩), trivial⟩, ⟨by rw [ht]; exact hP, va_K.moved hW.alike hK⟩⟩, hS.F ht⟩) hS.2.2 dX12_feed_19
set_option maxHeartbeats 4000000 in
set_option maxRecDepth 100000 in
theorem m_takeC (l : Launch) (dC : Nat → ClassId) (dI : Nat → Nat → Nat) (sz h : Nat) (ad : Nat → Nat) (cA : Nat → ClassId) (hd : dM h ad) (fv : Nat → Int32) (wd : Int64) (ar : Nat → Nat → Int32) (hF_fv : rF fv) (hA_ar : rA ar) : Met l yX12_take (.code yX12_take cX12_take 2 (some .int) :: lw_good) ({ frames := 2, cells := 0, slots := 0, locals := 40 }) (va_Pc [.ref h] (prM dC dI h ad cA fv wd ar sz)) (va_Qi (fun (r : Int32) (u : mS) => rF u.1 ∧ rA u.2.2 ∧ fM [2] fv u.1 ∧ fA [] ar u.2.2 ∧ (0 ≤ r.toInt ∧ r.toInt ≤ 340) ∧ (r = fv 2) ∧ ((u.1 2).toInt = 0) ∧ True) (enM dC dI h ad cA) (aM h ad sz)) 0 0 (aM h ad sz) := by
  refine Met.ofW (cc := cX12_take) (maxL := 2) (ret := (some .int)) (by decide) rfl ?_
  intro p e s m args below meth c s₁ B hml hv
  obtain ⟨rfl, hsz, hP, hK⟩ := hv
  have hx := B.exec
  have hb := B.bytes
  have hr := B.returns
  have hts := atoms_spec (ws := (.code yX12_take cX12_take 2 (some .int) :: lw_good)) B.pre
  have htg : ∀ w ∈ lw_good, w.before _ s = true := fun w hw => hts w (List.mem_cons_of_mem _ hw)
  have hown : s.vm.findClass RX12 = some m.cls := findClass_of_methodNamed B.named
  have hlocks := B.notSynchronized
  subst hsz
  have hS : va_S (aM h ad s.heap.size) s.heap s.heap [] := va_S.rf
  have hl := lv_entry ([.ref h]) (n := 2) (Nat.le_of_ble_eq_true rfl)
  rw [lg_entry_eq]
  generalize (lg_sl ([.ref h]) ++ List.replicate (2 - (lg_sl ([.ref h])).length) Slot.unset).toArray = ls at hl ⊢
  have hl : lv_has ls 2 [(0, .ref h)] := hl
  refine lv_aload_n hx hb dX12_take_0 rfl (lv_at hl 0 rfl) ?_
  refine gM_2 hx hb htg hown hK hP dX12_take_1 ?_
  have i_1 : 0 ≤ (fv 2).toInt ∧ (fv 2).toInt ≤ 340 := hF_fv 2
  refine lv_istore_n (lv' := [(1, .int (fv 2)), (0, .ref h)]) hx hb dX12_take_4 rfl hl (by decide) rfl (fun ls hl => ?_)
  refine lv_aload_n hx hb dX12_take_5 rfl (lv_at hl 1 rfl) ?_
  refine lv_iconst (v := 0) hx hb dX12_take_6 (by decide) ?_
  refine pM_2 hx hb htg hown hK hP hS hd dX12_take_7 (fun H locs fv_2 efv_2 hP hS => ?_)
  have hF_fv_2 : rF fv_2 := rF_put hF_fv efv_2 (iv_w (⟨by decide, by decide⟩ : (0 : Int) ≤ (0 : Int32).toInt ∧ (0 : Int32).toInt ≤ 0) (by decide) (by decide))
  refine lv_iload_n hx hb dX12_take_10 rfl (lv_at hl 0 rfl) ?_
  exact W.iret (v := fv 2) hx hb hr (fun t ht hW => ⟨⟨fv 2, (fv_2, wd, ar), rfl, ⟨hF_fv_2, hA_ar, (fM_put (fM_rf [2] _) efv_2 (by decide)), (fA_rf [] _), i_1, (show (fv 2) = fv 2 from rfl), (show (fv_2 2).toInt = 0 from by rw [show fv_2 2 = (0 : Int32) from (congrFun efv_2 2)]; decide), trivial⟩, ⟨by rw [ht]; exact hP, va_K.moved hW.alike hK⟩⟩, hS.F ht⟩) hS.2.2 dX12_take_11
set_option maxHeartbeats 4000000 in
set_option maxRecDepth 100000 in
theorem m_twoC (l : Launch) (dC : Nat → ClassId) (dI : Nat → Nat → Nat) (sz h : Nat) (ad : Nat → Nat) (cA : Nat → ClassId) (hd : dM h ad) (fv : Nat → Int32) (wd : Int64) (ar : Nat → Nat → Int32) (hF_fv : rF fv) (hA_ar : rA ar) (a : Int32) (h_a : 0 ≤ a.toInt ∧ a.toInt ≤ 5) : Met l yX12_two (.code yX12_two cX12_two 2 (some .int) :: lw_good) ({ frames := 2, cells := 0, slots := 0, locals := 40 }) (va_Pc [.ref h, .int a] (prM dC dI h ad cA fv wd ar sz)) (va_Qi (fun (r : Int32) (u : mS) => rF u.1 ∧ rA u.2.2 ∧ fM [] fv u.1 ∧ fA [] ar u.2.2 ∧ (0 ≤ r.toInt ∧ r.toInt ≤ 65535) ∧ (r.toInt = wt_pr (ar 1) a.toInt.toNat) ∧ True) (enM dC dI h ad cA) (aM h ad sz)) 0 0 (aM h ad sz) := by
  refine Met.ofW (cc := cX12_two) (maxL := 2) (ret := (some .int)) (by decide) rfl ?_
  intro p e s m args below meth c s₁ B hml hv
  obtain ⟨rfl, hsz, hP, hK⟩ := hv
  have hx := B.exec
  have hb := B.bytes
  have hr := B.returns
  have hts := atoms_spec (ws := (.code yX12_two cX12_two 2 (some .int) :: lw_good)) B.pre
  have htg : ∀ w ∈ lw_good, w.before _ s = true := fun w hw => hts w (List.mem_cons_of_mem _ hw)
  have hown : s.vm.findClass RX12 = some m.cls := findClass_of_methodNamed B.named
  have hlocks := B.notSynchronized
  subst hsz
  have hS : va_S (aM h ad s.heap.size) s.heap s.heap [] := va_S.rf
  have hl := lv_entry ([.ref h, .int a]) (n := 2) (Nat.le_of_ble_eq_true rfl)
  rw [lg_entry_eq]
  generalize (lg_sl ([.ref h, .int a]) ++ List.replicate (2 - (lg_sl ([.ref h, .int a])).length) Slot.unset).toArray = ls at hl ⊢
  have hl : lv_has ls 2 [(0, .ref h), (1, .int a)] := hl
  refine lv_sipush (v := 256) hx hb dX12_two_0 (by decide) ?_
  refine lv_aload_n hx hb dX12_two_3 rfl (lv_at hl 0 rfl) ?_
  refine gM_1 hx hb htg hown hK hP dX12_two_4 ?_
  refine lv_iconst (v := 2) hx hb dX12_two_7 (by decide) ?_
  refine lv_iload_n hx hb dX12_two_8 rfl (lv_at hl 1 rfl) ?_
  refine lv_imul hx hb dX12_two_9 ?_
  refine lv_topi (fun v_1 ev_1 => ?_)
  have t_2 : v_1.toInt = 2 * a.toInt ∧ 0 ≤ v_1.toInt ∧ v_1.toInt ≤ 10 := iv_mulc ev_1 h_a (by decide) (by decide) (by decide) (by decide)
  refine lM_1 hx hb hK hP (iv_in t_2.2 (by decide) (by decide)) dX12_two_10 (fun v_4 ev_4 => ?_)
  have i_5 : 0 ≤ v_4.toInt ∧ v_4.toInt ≤ 255 := ev_4 ▸ hA_ar 1 _
  refine lv_imul hx hb dX12_two_11 ?_
  refine lv_topi (fun v_6 ev_6 => ?_)
  have t_7 : v_6.toInt = 256 * v_4.toInt ∧ 0 ≤ v_6.toInt ∧ v_6.toInt ≤ 65280 := iv_mulc ev_6 i_5 (by decide) (by decide) (by decide) (by decide)
  refine lv_aload_n hx hb dX12_two_12 rfl (lv_at hl 0 rfl) ?_
  refine gM_1 hx hb htg hown hK hP dX12_two_13 ?_
  refine lv_iconst (v := 2) hx hb dX12_two_16 (by decide) ?_
  refine lv_iload_n hx hb dX12_two_17 rfl (lv_at hl 1 rfl) ?_
  refine lv_imul hx hb dX12_two_18 ?_
  refine my_ti (y := v_1) ev_1.symm ?_
  refine lv_iconst (v := 1) hx hb dX12_two_19 (by decide) ?_
  refine lv_iadd hx hb dX12_two_20 ?_
  refine lv_topi (fun v_9 ev_9 => ?_)
  have t_10 : v_9.toInt = v_1.toInt + 1 ∧ 1 ≤ v_9.toInt ∧ v_9.toInt ≤ 11 := iv_addc ev_9 t_2.2 (by decide) (by decide) (by decide)
  refine lM_1 hx hb hK hP (iv_in t_10.2 (by decide) (by decide)) dX12_two_21 (fun v_12 ev_12 => ?_)
  have i_13 : 0 ≤ v_12.toInt ∧ v_12.toInt ≤ 255 := ev_12 ▸ hA_ar 1 _
  refine lv_iadd hx hb dX12_two_22 ?_
  refine lv_topi (fun v_14 ev_14 => ?_)
  have t_15 : v_14.toInt = v_6.toInt + v_12.toInt ∧ 0 ≤ v_14.toInt ∧ v_14.toInt ≤ 65535 := iv_add ev_14 t_7.2 i_13 (by decide) (by decide)
  exact W.iret (v := v_14) hx hb hr (fun t ht hW => ⟨⟨v_14, (fv, wd, ar), rfl, ⟨hF_fv, hA_ar, (fM_rf [] _), (fA_rf [] _), t_15.2, (show v_14.toInt = wt_pr (ar 1) a.toInt.toNat from by have h1 : v_4 = ar 1 (2 * a.toInt.toNat) := (by rw [ev_4]; show ar 1 (v_1.toInt.toNat) = _; rw [show v_1.toInt.toNat = 2 * a.toInt.toNat from (by omega)]); have h2 : v_12 = ar 1 (2 * a.toInt.toNat + 1) := (by rw [ev_12]; show ar 1 (v_9.toInt.toNat) = _; rw [show v_9.toInt.toNat = 2 * a.toInt.toNat + 1 from (by omega)]); unfold wt_pr; rw [← h1, ← h2]; omega), trivial⟩, ⟨by rw [ht]; exact hP, va_K.moved hW.alike hK⟩⟩, hS.F ht⟩) hS.2.2 dX12_two_23
set_option maxHeartbeats 4000000 in
set_option maxRecDepth 100000 in
theorem m_rainC (l : Launch) (dC : Nat → ClassId) (dI : Nat → Nat → Nat) (sz h : Nat) (ad : Nat → Nat) (cA : Nat → ClassId) (hd : dM h ad) (fv : Nat → Int32) (wd : Int64) (ar : Nat → Nat → Int32) (hF_fv : rF fv) (hA_ar : rA ar) : Met l yX12_rain (.code yX12_rain cX12_rain 3 (some .boolean) :: lw_good) ({ frames := 3, cells := 0, slots := 0, locals := 62 }) (va_Pc [.ref h] (prM dC dI h ad cA fv wd ar sz)) (va_Qi (fun (r : Int32) (u : mS) => rF u.1 ∧ rA u.2.2 ∧ fM [0, 2, 7] fv u.1 ∧ fA [5] ar u.2.2 ∧ (0 ≤ r.toInt ∧ r.toInt ≤ 1) ∧ (wt_rain r (u.1 7) (fv 7) (fv 2) (u.2.2 5) (ar 5) (ar 1)) ∧ ((u.1 2).toInt = 0) ∧ True) (enM dC dI h ad cA) (aM h ad sz)) 0 0 (aM h ad sz) := by
  refine Met.ofW (cc := cX12_rain) (maxL := 3) (ret := (some .boolean)) (by decide) rfl ?_
  intro p e s m args below meth c s₁ B hml hv
  obtain ⟨rfl, hsz, hP, hK⟩ := hv
  have hx := B.exec
  have hb := B.bytes
  have hr := B.returns
  have hts := atoms_spec (ws := (.code yX12_rain cX12_rain 3 (some .boolean) :: lw_good)) B.pre
  have htg : ∀ w ∈ lw_good, w.before _ s = true := fun w hw => hts w (List.mem_cons_of_mem _ hw)
  have hown : s.vm.findClass RX12 = some m.cls := findClass_of_methodNamed B.named
  have hlocks := B.notSynchronized
  subst hsz
  have hS : va_S (aM h ad s.heap.size) s.heap s.heap [] := va_S.rf
  have hl := lv_entry ([.ref h]) (n := 3) (Nat.le_of_ble_eq_true rfl)
  rw [lg_entry_eq]
  generalize (lg_sl ([.ref h]) ++ List.replicate (3 - (lg_sl ([.ref h])).length) Slot.unset).toArray = ls at hl ⊢
  have hl : lv_has ls 3 [(0, .ref h)] := hl
  have zc0 : (0 : Int32).toInt = 0 := by decide
  have zc1 : (1 : Int32).toInt = 1 := by decide
  have zc10 : (10 : Int32).toInt = 10 := by decide
  have zc99 : (99 : Int32).toInt = 99 := by decide
  have zc200 : (200 : Int32).toInt = 200 := by decide
  have zc9999 : (9999 : Int32).toInt = 9999 := by decide
  have zcm1 : ((-1) : Int32).toInt = (-1) := by decide
  refine lv_aload_n hx hb dX12_rain_0 rfl (lv_at hl 0 rfl) ?_
  refine lv_iconst (v := 0) hx hb dX12_rain_1 (by decide) ?_
  refine pM_0 hx hb htg hown hK hP hS hd dX12_rain_2 (fun H locs fv_1 efv_1 hP hS => ?_)
  have hF_fv_1 : rF fv_1 := rF_put hF_fv efv_1 (iv_any _)
  refine lv_aload_n hx hb dX12_rain_5 rfl (lv_at hl 0 rfl) ?_
  refine va_calli (va_runV (As := []) (rest := []) ⟨hx, hb, hml, hown, hts⟩ (m_takeC l dC dI H.size h ad cA hd fv_1 wd ar hF_fv_1 hA_ar) (cwV 0 hts (gV kw_8_5 kw_8_7 kw_p_60 kw_1_15 kw_8_8) rfl rfl rfl (by decide +kernel) ⟨Nat.le_of_ble_eq_true rfl, Nat.le_of_ble_eq_true rfl⟩) ⟨fun a U g mk q => ⟨q.1, q.2.1, q.2.2.1, va_K.moved (u := U) (U := U.calling g mk a) (Vm.Alike.refl U.vm) q.2.2.2⟩, va_recv hK hP (ci := 12) (q0 := 0) rfl rfl, fun U hU hW => ⟨rfl, by rw [hU], by rw [hU]; exact hP, va_K.moved hW.alike hK⟩⟩ rfl rfl hl.1 rfl (lv_room (Nat.le_of_ble_eq_true rfl)) dX12_rain_6 ⟨Nat.le_of_ble_eq_true rfl, Nat.le_of_ble_eq_true rfl⟩) hS (fun q _ h9 => aM_up hS q h9) (aM_up hS) (fun r_2 u t H1 locs ht _ hw hB _ hk1 hS => ?_)
  obtain ⟨fv_6, wd_7, ar_8⟩ := u
  obtain ⟨hF_fv_6, hA_ar_8, fr_9, fa_10, p_3, p_4, p_5, -⟩ := hw
  have hP : va_P (dC, dI) vwCl (wsM h ad cA fv_6 wd_7 ar_8) H1 := by have h9 := hB.1; rw [ht] at h9; exact h9
  have fr_9 : fM [2] fv_1 fv_6 := fr_9
  have fa_10 : fA [] ar ar_8 := fa_10
  have p_4 : r_2 = fv_1 2 := p_4
  have p_5 : (fv_6 2).toInt = 0 := p_5
  generalize H1 = H at hP hS ⊢
  have k_11 : r_2 = fv 2 := p_4.trans ((fM_put (fM_rf [0] _) efv_1 (by decide)) 2 rfl)
  have k_12 : r_2.toInt = (fv 2).toInt := congrArg Int32.toInt k_11
  refine lv_istore_n (lv' := [(1, .int r_2), (0, .ref h)]) hx hb dX12_rain_9 rfl hl (by decide) rfl (fun ls hl => ?_)
  refine lv_iload_n hx hb dX12_rain_10 rfl (lv_at hl 0 rfl) ?_
  refine lv_iconst (v := 1) hx hb dX12_rain_11 (by decide) ?_
  refine lv_sipush (v := 200) hx hb dX12_rain_12 (by decide) ?_
  refine va_calli (va_runS (As := [.int r_2, .int 1, .int 200]) (rest := []) ⟨hx, hb, hml, hown, hts⟩ (m_isIn l H.size r_2 1 200) (va_cwS 3 hts (gS kw_7_218 kw_7_219 kw_1_15 kw_7_220) rfl rfl rfl (by decide +kernel) ⟨Nat.le_of_ble_eq_true rfl, Nat.le_of_ble_eq_true rfl⟩) ⟨fun a U g mk q => ⟨q.1, q.2⟩, fun U hU hW => ⟨rfl, congrArg Array.size hU⟩⟩ rfl rfl hl.1 rfl (lv_room (Nat.le_of_ble_eq_true rfl)) dX12_rain_15 ⟨Nat.le_of_ble_eq_true rfl, Nat.le_of_ble_eq_true rfl⟩) hS (fun q _ h9 => nM_up hS q h9) (nM_up hS) (fun r_13 u t H1 locs ht _ hw hB _ hk1 hS => ?_)
  obtain ⟨p_14, p_15, -⟩ := hw
  have hP := my_keepM hP hk1
  generalize H1 = H at hP hS ⊢
  rcases p_15 with ⟨rfl, p_15⟩ | ⟨rfl, p_15⟩
  · skip
    refine lv_if_ne (tgt := 23) hx hb dX12_rain_18 (by decide) (fun c_16 => ?_) (fun c_16 => ?_)
    · skip
      exact absurd c_16 (by decide)
    · skip
      refine lv_iconst (v := 0) hx hb dX12_rain_21 (by decide) ?_
      have z_17 : (0 : Int32).toInt = 0 := by decide
      exact W.zret (v := 0) hx hb hr (by decide) (fun t ht hW => ⟨⟨0, (fv_6, wd_7, ar_8), rfl, ⟨hF_fv_6, hA_ar_8, (fM_call (fM_put (fM_rf [0, 2, 7] _) efv_1 (by decide)) fr_9 (by decide)), (fA_call (fA_rf [5] _) fa_10 (by decide)), (iv_w (⟨by decide, by decide⟩ : (0 : Int) ≤ (0 : Int32).toInt ∧ (0 : Int32).toInt ≤ 0) (by decide) (by decide)), (show wt_rain (0 : Int32) (fv_6 7) (fv 7) (fv 2) (ar_8 5) (ar 5) (ar 1) from Or.inl ⟨rfl, (fr_9 7 rfl).trans ((congrFun efv_1 7)), ((fA_call (fA_rf [] _) fa_10 (by decide)) 5 rfl), (fun w => by have h1 := w.1; have h2 := w.2.1; omega)⟩), (show (fv_6 2).toInt = 0 from by rw [show fv_6 2 = (fv_6 2) from rfl]; omega), trivial⟩, ⟨by rw [ht]; exact hP, va_K.moved hW.alike hK⟩⟩, hS.F ht⟩) hS.2.2 dX12_rain_22
  · skip
    have i_18 : 1 ≤ r_2.toInt ∧ r_2.toInt ≤ 340 := iv_le2 (⟨by decide, by decide⟩ : (1 : Int) ≤ (1 : Int32).toInt ∧ (1 : Int32).toInt ≤ 1) p_3 (Int32.le_iff_toInt_le.mpr p_15.1)
    have i_19 : 1 ≤ r_2.toInt ∧ r_2.toInt ≤ 200 := iv_le1 i_18 (⟨by decide, by decide⟩ : (200 : Int) ≤ (200 : Int32).toInt ∧ (200 : Int32).toInt ≤ 200) (Int32.le_iff_toInt_le.mpr p_15.2)
    refine lv_if_ne (tgt := 23) hx hb dX12_rain_18 (by decide) (fun c_20 => ?_) (fun c_20 => ?_)
    · skip
      refine lv_iconst (v := 0) hx hb dX12_rain_23 (by decide) ?_
      refine lv_istore_n (lv' := [(2, .int 0), (1, .int r_2), (0, .ref h)]) hx hb dX12_rain_24 rfl hl (by decide) rfl (fun ls hl => ?_)
      refine my_cut (P := fun R9 a9 Q9 => ∀ (n_23 : Nat) (x_21 : Int32) (H : Heap) (locs : List Loc) (ls : Array Slot), 200 - x_21.toInt < (n_23 : Int) → (0 ≤ x_21.toInt ∧ x_21.toInt ≤ 200) → (∀ j : Nat, (j : Int) < x_21.toInt → (ar 1 j).toInt ≤ 9 ∨ (ar 1 j).toInt = 255) → va_P (dC, dI) vwCl (wsM h ad cA fv_6 wd_7 ar_8) H → va_S (aM h ad s.heap.size) s.heap H locs → lv_has ls 3 [(0, .ref h), (1, .int r_2), (2, .int x_21)] → W p l e R9 s m a9 below meth c H locs 0 0 Q9 (F0 m 25 ls [])) ?_ (fun hj_25 => ?_)
      · intro n_23
        induction n_23 with
        | zero => intro x_21 H locs ls fu_24 i_x_21 q_22; exfalso; omega
        | succ n_23 ih_23 =>
          intro x_21 H locs ls fu_24 i_x_21 q_22 hP hS hl
          refine lv_iload_n hx hb dX12_rain_25 rfl (lv_at hl 2 rfl) ?_
          refine lv_iload_n hx hb dX12_rain_26 rfl (lv_at hl 1 rfl) ?_
          refine lv_icmp_ge (tgt := 61) hx hb dX12_rain_27 (by decide) (fun c_26 => ?_) (fun c_26 => ?_)
          · skip
            have i_27 : 1 ≤ x_21.toInt ∧ x_21.toInt ≤ 200 := iv_le2 i_19 i_x_21 c_26
            have k_28 := Int32.le_iff_toInt_le.mp c_26
            refine lv_iconst (v := 0) hx hb dX12_rain_61 (by decide) ?_
            refine lv_istore_n (lv' := [(2, .int 0), (0, .ref h), (1, .int r_2)]) hx hb dX12_rain_62 rfl hl (by decide) rfl (fun ls hl => ?_)
            refine my_cut (P := fun R9 a9 Q9 => ∀ (n_34 : Nat) (x_29 : Int32) (ar_30 : Nat → Nat → Int32) (H : Heap) (locs : List Loc) (ls : Array Slot), 200 - x_29.toInt < (n_34 : Int) → (0 ≤ x_29.toInt ∧ x_29.toInt ≤ 200) → rA ar_30 → fA [5] ar_8 ar_30 → (ar_30 5 = wt_rn x_29.toInt.toNat (ar 5) (ar 1)) → (x_29.toInt ≤ (fv 2).toInt) → va_P (dC, dI) vwCl (wsM h ad cA fv_6 wd_7 ar_30) H → va_S (aM h ad s.heap.size) s.heap H locs → lv_has ls 3 [(0, .ref h), (1, .int r_2), (2, .int x_29)] → W p l e R9 s m a9 below meth c H locs 0 0 Q9 (F0 m 63 ls [])) ?_ (fun hj_36 => ?_)
            · intro n_34
              induction n_34 with
              | zero => intro x_29 ar_30 H locs ls fu_35 i_x_29 hA_ar_30 fa_31 q_32 q_33; exfalso; omega
              | succ n_34 ih_34 =>
                intro x_29 ar_30 H locs ls fu_35 i_x_29 hA_ar_30 fa_31 q_32 q_33 hP hS hl
                refine lv_iload_n hx hb dX12_rain_63 rfl (lv_at hl 2 rfl) ?_
                refine lv_iload_n hx hb dX12_rain_64 rfl (lv_at hl 1 rfl) ?_
                refine lv_icmp_ge (tgt := 116) hx hb dX12_rain_65 (by decide) (fun c_37 => ?_) (fun c_37 => ?_)
                · skip
                  have i_38 : 1 ≤ x_29.toInt ∧ x_29.toInt ≤ 200 := iv_le2 i_19 i_x_29 c_37
                  have k_39 := Int32.le_iff_toInt_le.mp c_37
                  refine lv_aload_n hx hb dX12_rain_116 rfl (lv_at hl 0 rfl) ?_
                  refine lv_iload_n hx hb dX12_rain_117 rfl (lv_at hl 1 rfl) ?_
                  refine pM_7 hx hb htg hown hK hP hS hd dX12_rain_118 (fun H locs fv_40 efv_40 hP hS => ?_)
                  have hF_fv_40 : rF fv_40 := rF_put hF_fv_6 efv_40 (iv_w i_19 (by decide) (by decide))
                  refine lv_iconst (v := 1) hx hb dX12_rain_121 (by decide) ?_
                  have z_41 : (1 : Int32).toInt = 1 := by decide
                  exact W.zret (v := 1) hx hb hr (by decide) (fun t ht hW => ⟨⟨1, (fv_40, wd_7, ar_30), rfl, ⟨hF_fv_40, hA_ar_30, (fM_put (fM_call (fM_put (fM_rf [0, 2, 7] _) efv_1 (by decide)) fr_9 (by decide)) efv_40 (by decide)), (fA_call (fA_call (fA_rf [5] _) fa_10 (by decide)) fa_31 (by decide)), (iv_w (⟨by decide, by decide⟩ : (1 : Int) ≤ (1 : Int32).toInt ∧ (1 : Int32).toInt ≤ 1) (by decide) (by decide)), (show wt_rain (1 : Int32) (fv_40 7) (fv 7) (fv 2) (ar_30 5) (ar 5) (ar 1) from Or.inr ⟨rfl, ((congrFun efv_40 7)).trans k_11, by rw [q_32, show x_29.toInt.toNat = (fv 2).toInt.toNat from (by omega)], ⟨by omega, by omega, fun j hj => q_22 j (by omega)⟩⟩), (show (fv_40 2).toInt = 0 from by rw [show fv_40 2 = (fv_6 2) from (congrFun efv_40 2)]; omega), trivial⟩, ⟨by rw [ht]; exact hP, va_K.moved hW.alike hK⟩⟩, hS.F ht⟩) hS.2.2 dX12_rain_122
                · skip
                  have i_42 : 0 ≤ x_29.toInt ∧ x_29.toInt ≤ 199 := iv_lt1 i_x_29 i_19 (Int32.not_le.mp c_37)
                  have k_43 := Int32.lt_iff_toInt_lt.mp (Int32.not_le.mp c_37)
                  refine lv_aload_n hx hb dX12_rain_68 rfl (lv_at hl 0 rfl) ?_
                  refine gM_5 hx hb htg hown hK hP dX12_rain_69 ?_
                  refine lv_iload_n hx hb dX12_rain_72 rfl (lv_at hl 2 rfl) ?_
                  refine lv_aload_n hx hb dX12_rain_73 rfl (lv_at hl 0 rfl) ?_
                  refine gM_1 hx hb htg hown hK hP dX12_rain_74 ?_
                  refine lv_iload_n hx hb dX12_rain_77 rfl (lv_at hl 2 rfl) ?_
                  refine lM_1 hx hb hK hP (iv_in i_42 (by decide) (by decide)) dX12_rain_78 (fun v_44 ev_44 => ?_)
                  have i_45 : 0 ≤ v_44.toInt ∧ v_44.toInt ≤ 255 := ev_44 ▸ hA_ar_30 1 _
                  refine lv_bipush (v := 10) hx hb dX12_rain_79 (by decide) ?_
                  refine lv_icmp_ge (tgt := 93) hx hb dX12_rain_81 (by decide) (fun c_46 => ?_) (fun c_46 => ?_)
                  · skip
                    have i_47 : 10 ≤ v_44.toInt ∧ v_44.toInt ≤ 255 := iv_le2 (⟨by decide, by decide⟩ : (10 : Int) ≤ (10 : Int32).toInt ∧ (10 : Int32).toInt ≤ 10) i_45 c_46
                    refine lv_iload_n hx hb dX12_rain_93 rfl (lv_at hl 2 rfl) ?_
                    refine lv_if_ne (tgt := 101) hx hb dX12_rain_94 (by decide) (fun c_48 => ?_) (fun c_48 => ?_)
                    · skip
                      have i_49 : 1 ≤ x_29.toInt ∧ x_29.toInt ≤ 199 := iv_nel i_42 (by decide) c_48
                      have k_50 : ¬ x_29.toInt = 0 := fun q => c_48 (Int32.toInt_inj.mp q)
                      refine lv_aload_n hx hb dX12_rain_101 rfl (lv_at hl 0 rfl) ?_
                      refine gM_5 hx hb htg hown hK hP dX12_rain_102 ?_
                      refine lv_iload_n hx hb dX12_rain_105 rfl (lv_at hl 2 rfl) ?_
                      refine lv_iconst (v := 1) hx hb dX12_rain_106 (by decide) ?_
                      refine lv_isub hx hb dX12_rain_107 ?_
                      refine lv_topi (fun v_51 ev_51 => ?_)
                      have t_52 : v_51.toInt = x_29.toInt - 1 ∧ 0 ≤ v_51.toInt ∧ v_51.toInt ≤ 198 := iv_subc ev_51 i_49 (by decide) (by decide) (by decide)
                      refine lM_5 hx hb hK hP (iv_in t_52.2 (by decide) (by decide)) dX12_rain_108 (fun v_54 ev_54 => ?_)
                      refine sM_5 hx hb hK hP hS hd (iv_in i_49 (by decide) (by decide)) dX12_rain_109 (fun H locs ar_55 ear_55 hP hS => ?_)
                      have hA_ar_55 : rA ar_55 := rA_put hA_ar_30 ear_55 (iv_any _)
                      obtain ⟨v_56, ev_56⟩ : ∃ z : Int32, z = x_29 + 1 := ⟨_, rfl⟩
                      refine lv_iinc (v := v_56) (lv' := [(2, .int v_56), (0, .ref h), (1, .int r_2)]) hx hb dX12_rain_110 hl (k := 2) rfl (by rw [ev_56]; rfl) (by decide) rfl (fun ls hl => ?_)
                      have t_57 : v_56.toInt = x_29.toInt + 1 ∧ 2 ≤ v_56.toInt ∧ v_56.toInt ≤ 200 := iv_addc ev_56 i_49 (by decide) (by decide) (by decide)
                      refine lv_goto (tgt := 63) hx hb dX12_rain_113 (by decide) ?_
                      exact ih_34 v_56 ar_55 _ _ ls (by omega) (iv_w t_57.2 (by decide) (by decide)) hA_ar_55 (fA_put (fA_call (fA_rf [5] _) fa_31 (by decide)) ear_55 (by decide)) (by have hT : ar 1 (x_29.toInt.toNat) = v_44 := (congrFun (((fA_call (fA_call (fA_rf [5] _) fa_10 (by decide)) fa_31 (by decide)) 1 rfl)) _).symm.trans ev_44.symm; have hq : v_44.toInt ≤ 9 ∨ v_44.toInt = 255 := (by have h9 := q_22 (x_29.toInt.toNat) (by omega); rw [hT] at h9; exact h9); rw [show v_56.toInt.toNat = x_29.toInt.toNat + 1 from (by omega)]; exact wt_rs q_32 (show ar_55 5 = upd (ar_30 5) (x_29.toInt.toNat) v_54 from by rw [ear_55]; rfl) (Or.inr (Or.inl ⟨by rw [hT]; omega, by omega, by rw [ev_54]; show ar_30 5 (v_51.toInt.toNat) = _; rw [show v_51.toInt.toNat = x_29.toInt.toNat - 1 from (by omega)]⟩))) (by omega) hP hS (lv_sub hl [1, 2, 0] rfl)
                    · skip
                      have i_59 : 0 ≤ x_29.toInt ∧ x_29.toInt ≤ 0 := iv_eq1 (⟨by decide, by decide⟩ : (0 : Int) ≤ (0 : Int32).toInt ∧ (0 : Int32).toInt ≤ 0) c_48
                      refine lv_iconst (v := 0) hx hb dX12_rain_97 (by decide) ?_
                      refine lv_goto (tgt := 109) hx hb dX12_rain_98 (by decide) ?_
                      refine sM_5 hx hb hK hP hS hd (iv_in i_59 (by decide) (by decide)) dX12_rain_109 (fun H locs ar_61 ear_61 hP hS => ?_)
                      have hA_ar_61 : rA ar_61 := rA_put hA_ar_30 ear_61 (iv_any _)
                      obtain ⟨v_62, ev_62⟩ : ∃ z : Int32, z = x_29 + 1 := ⟨_, rfl⟩
                      refine lv_iinc (v := v_62) (lv' := [(2, .int v_62), (0, .ref h), (1, .int r_2)]) hx hb dX12_rain_110 hl (k := 2) rfl (by rw [ev_62]; rfl) (by decide) rfl (fun ls hl => ?_)
                      have t_63 : v_62.toInt = x_29.toInt + 1 ∧ 1 ≤ v_62.toInt ∧ v_62.toInt ≤ 1 := iv_addc ev_62 i_59 (by decide) (by decide) (by decide)
                      refine lv_goto (tgt := 63) hx hb dX12_rain_113 (by decide) ?_
                      exact ih_34 v_62 ar_61 _ _ ls (by omega) (iv_w t_63.2 (by decide) (by decide)) hA_ar_61 (fA_put (fA_call (fA_rf [5] _) fa_31 (by decide)) ear_61 (by decide)) (by have hT : ar 1 (x_29.toInt.toNat) = v_44 := (congrFun (((fA_call (fA_call (fA_rf [5] _) fa_10 (by decide)) fa_31 (by decide)) 1 rfl)) _).symm.trans ev_44.symm; have hq : v_44.toInt ≤ 9 ∨ v_44.toInt = 255 := (by have h9 := q_22 (x_29.toInt.toNat) (by omega); rw [hT] at h9; exact h9); rw [show v_62.toInt.toNat = x_29.toInt.toNat + 1 from (by omega)]; exact wt_rs q_32 (show ar_61 5 = upd (ar_30 5) (x_29.toInt.toNat) 0 from by rw [ear_61]; rfl) (Or.inl ⟨by rw [hT]; omega, by omega, rfl⟩)) (by omega) hP hS (lv_sub hl [1, 2, 0] rfl)
                  · skip
                    have i_65 : 0 ≤ v_44.toInt ∧ v_44.toInt ≤ 9 := iv_lt1 i_45 (⟨by decide, by decide⟩ : (10 : Int) ≤ (10 : Int32).toInt ∧ (10 : Int32).toInt ≤ 10) (Int32.not_le.mp c_46)
                    refine lv_aload_n hx hb dX12_rain_84 rfl (lv_at hl 0 rfl) ?_
                    refine gM_1 hx hb htg hown hK hP dX12_rain_85 ?_
                    refine lv_iload_n hx hb dX12_rain_88 rfl (lv_at hl 2 rfl) ?_
                    refine lM_1 hx hb hK hP (iv_in i_42 (by decide) (by decide)) dX12_rain_89 (fun v_66 ev_66 => ?_)
                    obtain rfl : v_44 = v_66 := ev_44.trans ev_66.symm
                    refine lv_goto (tgt := 109) hx hb dX12_rain_90 (by decide) ?_
                    refine sM_5 hx hb hK hP hS hd (iv_in i_42 (by decide) (by decide)) dX12_rain_109 (fun H locs ar_67 ear_67 hP hS => ?_)
                    have hA_ar_67 : rA ar_67 := rA_put hA_ar_30 ear_67 (iv_any _)
                    obtain ⟨v_68, ev_68⟩ : ∃ z : Int32, z = x_29 + 1 := ⟨_, rfl⟩
                    refine lv_iinc (v := v_68) (lv' := [(2, .int v_68), (0, .ref h), (1, .int r_2)]) hx hb dX12_rain_110 hl (k := 2) rfl (by rw [ev_68]; rfl) (by decide) rfl (fun ls hl => ?_)
                    have t_69 : v_68.toInt = x_29.toInt + 1 ∧ 1 ≤ v_68.toInt ∧ v_68.toInt ≤ 200 := iv_addc ev_68 i_42 (by decide) (by decide) (by decide)
                    refine lv_goto (tgt := 63) hx hb dX12_rain_113 (by decide) ?_
                    exact ih_34 v_68 ar_67 _ _ ls (by omega) (iv_w t_69.2 (by decide) (by decide)) hA_ar_67 (fA_put (fA_call (fA_rf [5] _) fa_31 (by decide)) ear_67 (by decide)) (by have hT : ar 1 (x_29.toInt.toNat) = v_44 := (congrFun (((fA_call (fA_call (fA_rf [5] _) fa_10 (by decide)) fa_31 (by decide)) 1 rfl)) _).symm.trans ev_44.symm; have hq : v_44.toInt ≤ 9 ∨ v_44.toInt = 255 := (by have h9 := q_22 (x_29.toInt.toNat) (by omega); rw [hT] at h9; exact h9); rw [show v_68.toInt.toNat = x_29.toInt.toNat + 1 from (by omega)]; exact wt_rs q_32 (show ar_67 5 = upd (ar_30 5) (x_29.toInt.toNat) v_44 from by rw [ear_67]; rfl) (Or.inr (Or.inr ⟨by rw [hT]; omega, hT.symm⟩))) (by omega) hP hS (lv_sub hl [1, 2, 0] rfl)
            · skip
              have z_71 : (0 : Int32).toInt = 0 := by decide
              exact hj_36 201 0 ar_8 _ _ ls (by first | decide | omega) (iv_w (⟨by decide, by decide⟩ : (0 : Int) ≤ (0 : Int32).toInt ∧ (0 : Int32).toInt ≤ 0) (by decide) (by decide)) hA_ar_8 (fA_rf [5] _) (by rw [show (0 : Int32).toInt.toNat = 0 from (by decide), show ar_8 5 = ar 5 from ((fA_call (fA_rf [] _) fa_10 (by decide)) 5 rfl)]; rfl) (by omega) hP hS (lv_sub hl [1, 2, 0] rfl)
          · skip
            have i_72 : 0 ≤ x_21.toInt ∧ x_21.toInt ≤ 199 := iv_lt1 i_x_21 i_19 (Int32.not_le.mp c_26)
            have k_73 := Int32.lt_iff_toInt_lt.mp (Int32.not_le.mp c_26)
            refine lv_aload_n hx hb dX12_rain_30 rfl (lv_at hl 0 rfl) ?_
            refine gM_1 hx hb htg hown hK hP dX12_rain_31 ?_
            refine lv_iload_n hx hb dX12_rain_34 rfl (lv_at hl 2 rfl) ?_
            refine lM_1 hx hb hK hP (iv_in i_72 (by decide) (by decide)) dX12_rain_35 (fun v_74 ev_74 => ?_)
            have i_75 : 0 ≤ v_74.toInt ∧ v_74.toInt ≤ 255 := ev_74 ▸ hA_ar_8 1 _
            refine lv_bipush (v := 9) hx hb dX12_rain_36 (by decide) ?_
            refine lv_icmp_le (tgt := 55) hx hb dX12_rain_38 (by decide) (fun c_76 => ?_) (fun c_76 => ?_)
            · skip
              have i_77 : 0 ≤ v_74.toInt ∧ v_74.toInt ≤ 9 := iv_le1 i_75 (⟨by decide, by decide⟩ : (9 : Int) ≤ (9 : Int32).toInt ∧ (9 : Int32).toInt ≤ 9) c_76
              obtain ⟨v_78, ev_78⟩ : ∃ z : Int32, z = x_21 + 1 := ⟨_, rfl⟩
              refine lv_iinc (v := v_78) (lv' := [(2, .int v_78), (0, .ref h), (1, .int r_2)]) hx hb dX12_rain_55 hl (k := 2) rfl (by rw [ev_78]; rfl) (by decide) rfl (fun ls hl => ?_)
              have t_79 : v_78.toInt = x_21.toInt + 1 ∧ 1 ≤ v_78.toInt ∧ v_78.toInt ≤ 200 := iv_addc ev_78 i_72 (by decide) (by decide) (by decide)
              refine lv_goto (tgt := 25) hx hb dX12_rain_58 (by decide) ?_
              exact ih_23 v_78 _ _ ls (by omega) (iv_w t_79.2 (by decide) (by decide)) (fun j hj => by by_cases h9 : (j : Int) < x_21.toInt; exact q_22 j h9; have h8 : j = x_21.toInt.toNat := (by omega); have h7 : ar 1 (x_21.toInt.toNat) = v_74 := (congrFun (((fA_call (fA_rf [] _) fa_10 (by decide)) 1 rfl)) _).symm.trans ev_74.symm; rw [h8, h7]; omega) hP hS (lv_sub hl [1, 2, 0] rfl)
            · skip
              have i_81 : 10 ≤ v_74.toInt ∧ v_74.toInt ≤ 255 := iv_lt2 (⟨by decide, by decide⟩ : (9 : Int) ≤ (9 : Int32).toInt ∧ (9 : Int32).toInt ≤ 9) i_75 (Int32.not_le.mp c_76)
              refine lv_aload_n hx hb dX12_rain_41 rfl (lv_at hl 0 rfl) ?_
              refine gM_1 hx hb htg hown hK hP dX12_rain_42 ?_
              refine lv_iload_n hx hb dX12_rain_45 rfl (lv_at hl 2 rfl) ?_
              refine lM_1 hx hb hK hP (iv_in i_72 (by decide) (by decide)) dX12_rain_46 (fun v_82 ev_82 => ?_)
              obtain rfl : v_74 = v_82 := ev_74.trans ev_82.symm
              refine lv_sipush (v := 255) hx hb dX12_rain_47 (by decide) ?_
              refine lv_icmp_eq (tgt := 55) hx hb dX12_rain_50 (by decide) (fun c_83 => ?_) (fun c_83 => ?_)
              · skip
                have i_84 : 255 ≤ v_74.toInt ∧ v_74.toInt ≤ 255 := iv_eq1 (⟨by decide, by decide⟩ : (255 : Int) ≤ (255 : Int32).toInt ∧ (255 : Int32).toInt ≤ 255) c_83
                obtain ⟨v_86, ev_86⟩ : ∃ z : Int32, z = x_21 + 1 := ⟨_, rfl⟩
                refine lv_iinc (v := v_86) (lv' := [(2, .int v_86), (0, .ref h), (1, .int r_2)]) hx hb dX12_rain_55 hl (k := 2) rfl (by rw [ev_86]; rfl) (by decide) rfl (fun ls hl => ?_)
                have t_87 : v_86.toInt = x_21.toInt + 1 ∧ 1 ≤ v_86.toInt ∧ v_86.toInt ≤ 200 := iv_addc ev_86 i_72 (by decide) (by decide) (by decide)
                refine lv_goto (tgt := 25) hx hb dX12_rain_58 (by decide) ?_
                exact ih_23 v_86 _ _ ls (by omega) (iv_w t_87.2 (by decide) (by decide)) (fun j hj => by by_cases h9 : (j : Int) < x_21.toInt; exact q_22 j h9; have h8 : j = x_21.toInt.toNat := (by omega); have h7 : ar 1 (x_21.toInt.toNat) = v_74 := (congrFun (((fA_call (fA_rf [] _) fa_10 (by decide)) 1 rfl)) _).symm.trans ev_74.symm; rw [h8, h7]; omega) hP hS (lv_sub hl [1, 2, 0] rfl)
              · skip
                have i_89 : 10 ≤ v_74.toInt ∧ v_74.toInt ≤ 254 := iv_neh i_81 (by decide) c_83
                have k_90 : ¬ v_74.toInt = 255 := fun q => c_83 (Int32.toInt_inj.mp q)
                refine lv_iconst (v := 0) hx hb dX12_rain_53 (by decide) ?_
                have z_91 : (0 : Int32).toInt = 0 := by decide
                exact W.zret (v := 0) hx hb hr (by decide) (fun t ht hW => ⟨⟨0, (fv_6, wd_7, ar_8), rfl, ⟨hF_fv_6, hA_ar_8, (fM_call (fM_put (fM_rf [0, 2, 7] _) efv_1 (by decide)) fr_9 (by decide)), (fA_call (fA_rf [5] _) fa_10 (by decide)), (iv_w (⟨by decide, by decide⟩ : (0 : Int) ≤ (0 : Int32).toInt ∧ (0 : Int32).toInt ≤ 0) (by decide) (by decide)), (show wt_rain (0 : Int32) (fv_6 7) (fv 7) (fv 2) (ar_8 5) (ar 5) (ar 1) from Or.inl ⟨rfl, (fr_9 7 rfl).trans ((congrFun efv_1 7)), ((fA_call (fA_rf [] _) fa_10 (by decide)) 5 rfl), (fun w => by have h1 := w.2.2 (x_21.toInt.toNat) (by omega); have h2 : ar 1 (x_21.toInt.toNat) = v_74 := (congrFun (((fA_call (fA_rf [] _) fa_10 (by decide)) 1 rfl)) _).symm.trans ev_74.symm; rw [h2] at h1; omega)⟩), (show (fv_6 2).toInt = 0 from by rw [show fv_6 2 = (fv_6 2) from rfl]; omega), trivial⟩, ⟨by rw [ht]; exact hP, va_K.moved hW.alike hK⟩⟩, hS.F ht⟩) hS.2.2 dX12_rain_54
      · skip
        have z_92 : (0 : Int32).toInt = 0 := by decide
        exact hj_25 201 0 _ _ ls (by first | decide | omega) (iv_w (⟨by decide, by decide⟩ : (0 : Int) ≤ (0 : Int32).toInt ∧ (0 : Int32).toInt ≤ 0) (by decide) (by decide)) (fun j hj => absurd hj (by have h9 : (0 : Int32).toInt = 0 := (by decide); omega)) hP hS (lv_sub hl [2, 1, 0] rfl)
    · skip
      exact absurd c_20 (by decide)
set_option maxHeartbeats 4000000 in
set_option maxRecDepth 100000 in
theorem m_rainOfC (l : Launch) (dC : Nat → ClassId) (dI : Nat → Nat → Nat) (sz h : Nat) (ad : Nat → Nat) (cA : Nat → ClassId) (hd : dM h ad) (fv : Nat → Int32) (wd : Int64) (ar : Nat → Nat → Int32) (hF_fv : rF fv) (hA_ar : rA ar) (a : Int32) (h_a : 0 ≤ a.toInt ∧ a.toInt ≤ 199) : Met l yX12_rainOf (.code yX12_rainOf cX12_rainOf 2 (some .int) :: lw_good) ({ frames := 2, cells := 0, slots := 0, locals := 40 }) (va_Pc [.ref h, .int a] (prM dC dI h ad cA fv wd ar sz)) (va_Qi (fun (r : Int32) (u : mS) => rF u.1 ∧ rA u.2.2 ∧ fM [] fv u.1 ∧ fA [] ar u.2.2 ∧ (wt_on r a (fv 7) (ar 5)) ∧ True) (enM dC dI h ad cA) (aM h ad sz)) 0 0 (aM h ad sz) := by
  refine Met.ofW (cc := cX12_rainOf) (maxL := 2) (ret := (some .int)) (by decide) rfl ?_
  intro p e s m args below meth c s₁ B hml hv
  obtain ⟨rfl, hsz, hP, hK⟩ := hv
  have hx := B.exec
  have hb := B.bytes
  have hr := B.returns
  have hts := atoms_spec (ws := (.code yX12_rainOf cX12_rainOf 2 (some .int) :: lw_good)) B.pre
  have htg : ∀ w ∈ lw_good, w.before _ s = true := fun w hw => hts w (List.mem_cons_of_mem _ hw)
  have hown : s.vm.findClass RX12 = some m.cls := findClass_of_methodNamed B.named
  have hlocks := B.notSynchronized
  subst hsz
  have hS : va_S (aM h ad s.heap.size) s.heap s.heap [] := va_S.rf
  have hl := lv_entry ([.ref h, .int a]) (n := 2) (Nat.le_of_ble_eq_true rfl)
  rw [lg_entry_eq]
  generalize (lg_sl ([.ref h, .int a]) ++ List.replicate (2 - (lg_sl ([.ref h, .int a])).length) Slot.unset).toArray = ls at hl ⊢
  have hl : lv_has ls 2 [(0, .ref h), (1, .int a)] := hl
  refine lv_aload_n hx hb dX12_rainOf_0 rfl (lv_at hl 0 rfl) ?_
  refine gM_7 hx hb htg hown hK hP dX12_rainOf_1 ?_
  have i_1 : 0 ≤ (fv 7).toInt ∧ (fv 7).toInt ≤ 200 := hF_fv 7
  refine lv_if_ne (tgt := 11) hx hb dX12_rainOf_4 (by decide) (fun c_2 => ?_) (fun c_2 => ?_)
  · skip
    have i_3 : 1 ≤ (fv 7).toInt ∧ (fv 7).toInt ≤ 200 := iv_nel i_1 (by decide) c_2
    have k_4 : ¬ (fv 7).toInt = 0 := fun q => c_2 (Int32.toInt_inj.mp q)
    refine lv_iload_n hx hb dX12_rainOf_11 rfl (lv_at hl 1 rfl) ?_
    refine lv_aload_n hx hb dX12_rainOf_12 rfl (lv_at hl 0 rfl) ?_
    refine gM_7 hx hb htg hown hK hP dX12_rainOf_13 ?_
    refine lv_icmp_lt (tgt := 24) hx hb dX12_rainOf_16 (by decide) (fun c_5 => ?_) (fun c_5 => ?_)
    · skip
      have k_6 := Int32.lt_iff_toInt_lt.mp c_5
      refine lv_aload_n hx hb dX12_rainOf_24 rfl (lv_at hl 0 rfl) ?_
      refine gM_5 hx hb htg hown hK hP dX12_rainOf_25 ?_
      refine lv_iload_n hx hb dX12_rainOf_28 rfl (lv_at hl 1 rfl) ?_
      refine lM_5 hx hb hK hP (iv_in h_a (by decide) (by decide)) dX12_rainOf_29 (fun v_7 ev_7 => ?_)
      exact W.iret (v := v_7) hx hb hr (fun t ht hW => ⟨⟨v_7, (fv, wd, ar), rfl, ⟨hF_fv, hA_ar, (fM_rf [] _), (fA_rf [] _), (show wt_on v_7 a (fv 7) (ar 5) from Or.inr (Or.inl ⟨by omega, by omega, ev_7⟩)), trivial⟩, ⟨by rw [ht]; exact hP, va_K.moved hW.alike hK⟩⟩, hS.F ht⟩) hS.2.2 dX12_rainOf_30
    · skip
      have i_8 : 1 ≤ (fv 7).toInt ∧ (fv 7).toInt ≤ 199 := iv_le1 i_3 h_a (Int32.not_lt.mp c_5)
      have i_9 : 1 ≤ a.toInt ∧ a.toInt ≤ 199 := iv_le2 i_3 h_a (Int32.not_lt.mp c_5)
      have k_10 := Int32.le_iff_toInt_le.mp (Int32.not_lt.mp c_5)
      refine lv_bipush (v := 9) hx hb dX12_rainOf_19 (by decide) ?_
      refine lv_goto (tgt := 30) hx hb dX12_rainOf_21 (by decide) ?_
      have z_11 : (9 : Int32).toInt = 9 := by decide
      exact W.iret (v := 9) hx hb hr (fun t ht hW => ⟨⟨9, (fv, wd, ar), rfl, ⟨hF_fv, hA_ar, (fM_rf [] _), (fA_rf [] _), (show wt_on (9 : Int32) a (fv 7) (ar 5) from Or.inr (Or.inr ⟨by omega, by omega, rfl⟩)), trivial⟩, ⟨by rw [ht]; exact hP, va_K.moved hW.alike hK⟩⟩, hS.F ht⟩) hS.2.2 dX12_rainOf_30
  · skip
    have i_12 : 0 ≤ (fv 7).toInt ∧ (fv 7).toInt ≤ 0 := iv_eq1 (⟨by decide, by decide⟩ : (0 : Int) ≤ (0 : Int32).toInt ∧ (0 : Int32).toInt ≤ 0) c_2
    refine lv_iconst (v := 0) hx hb dX12_rainOf_7 (by decide) ?_
    refine lv_goto (tgt := 30) hx hb dX12_rainOf_8 (by decide) ?_
    have z_14 : (0 : Int32).toInt = 0 := by decide
    exact W.iret (v := 0) hx hb hr (fun t ht hW => ⟨⟨0, (fv, wd, ar), rfl, ⟨hF_fv, hA_ar, (fM_rf [] _), (fA_rf [] _), (show wt_on (0 : Int32) a (fv 7) (ar 5) from Or.inl ⟨by omega, rfl⟩), trivial⟩, ⟨by rw [ht]; exact hP, va_K.moved hW.alike hK⟩⟩, hS.F ht⟩) hS.2.2 dX12_rainOf_30
set_option maxHeartbeats 4000000 in
set_option maxRecDepth 100000 in
theorem m_wetC (l : Launch) (dC : Nat → ClassId) (dI : Nat → Nat → Nat) (sz h : Nat) (ad : Nat → Nat) (cA : Nat → ClassId) (hd : dM h ad) (fv : Nat → Int32) (wd : Int64) (ar : Nat → Nat → Int32) (hF_fv : rF fv) (hA_ar : rA ar) (a : Int32) : Met l yX12_wet (.code yX12_wet cX12_wet 2 (some .int) :: lw_good) ({ frames := 3, cells := 0, slots := 0, locals := 61 }) (va_Pc [.ref h, .int a] (prM dC dI h ad cA fv wd ar sz)) (va_Qi (fun (r : Int32) (u : mS) => rF u.1 ∧ rA u.2.2 ∧ fM [0] fv u.1 ∧ fA [] ar u.2.2 ∧ (wt_wet r a (fv 7) (ar 5)) ∧ True) (enM dC dI h ad cA) (aM h ad sz)) 0 0 (aM h ad sz) := by
  refine Met.ofW (cc := cX12_wet) (maxL := 2) (ret := (some .int)) (by decide) rfl ?_
  intro p e s m args below meth c s₁ B hml hv
  obtain ⟨rfl, hsz, hP, hK⟩ := hv
  have hx := B.exec
  have hb := B.bytes
  have hr := B.returns
  have hts := atoms_spec (ws := (.code yX12_wet cX12_wet 2 (some .int) :: lw_good)) B.pre
  have htg : ∀ w ∈ lw_good, w.before _ s = true := fun w hw => hts w (List.mem_cons_of_mem _ hw)
  have hown : s.vm.findClass RX12 = some m.cls := findClass_of_methodNamed B.named
  have hlocks := B.notSynchronized
  subst hsz
  have hS : va_S (aM h ad s.heap.size) s.heap s.heap [] := va_S.rf
  have hl := lv_entry ([.ref h, .int a]) (n := 2) (Nat.le_of_ble_eq_true rfl)
  rw [lg_entry_eq]
  generalize (lg_sl ([.ref h, .int a]) ++ List.replicate (2 - (lg_sl ([.ref h, .int a])).length) Slot.unset).toArray = ls at hl ⊢
  have hl : lv_has ls 2 [(0, .ref h), (1, .int a)] := hl
  refine lv_aload_n hx hb dX12_wet_0 rfl (lv_at hl 0 rfl) ?_
  refine lv_iconst (v := 0) hx hb dX12_wet_1 (by decide) ?_
  refine pM_0 hx hb htg hown hK hP hS hd dX12_wet_2 (fun H locs fv_1 efv_1 hP hS => ?_)
  have hF_fv_1 : rF fv_1 := rF_put hF_fv efv_1 (iv_any _)
  refine lv_iload_n hx hb dX12_wet_5 rfl (lv_at hl 1 rfl) ?_
  refine va_calli (va_runS (As := [.int a]) (rest := []) ⟨hx, hb, hml, hown, hts⟩ (m_isDay l H.size a) (va_cwS 1 hts (gS kw_8_13 kw_8_14 kw_1_15 kw_8_15) rfl rfl rfl (by decide +kernel) ⟨Nat.le_of_ble_eq_true rfl, Nat.le_of_ble_eq_true rfl⟩) ⟨fun a U g mk q => ⟨q.1, q.2⟩, fun U hU hW => ⟨rfl, congrArg Array.size hU⟩⟩ rfl rfl hl.1 rfl (lv_room (Nat.le_of_ble_eq_true rfl)) dX12_wet_6 ⟨Nat.le_of_ble_eq_true rfl, Nat.le_of_ble_eq_true rfl⟩) hS (fun q _ h9 => nM_up hS q h9) (nM_up hS) (fun r_2 u t H1 locs ht _ hw hB _ hk1 hS => ?_)
  obtain ⟨p_3, p_4, -⟩ := hw
  have hP := my_keepM hP hk1
  generalize H1 = H at hP hS ⊢
  rcases p_4 with ⟨rfl, p_4⟩ | ⟨rfl, p_4⟩
  · skip
    refine lv_if_eq (tgt := 20) hx hb dX12_wet_9 (by decide) (fun c_5 => ?_) (fun c_5 => ?_)
    · skip
      refine lv_iconst (v := (-1)) hx hb dX12_wet_20 (by decide) ?_
      have z_6 : ((-1) : Int32).toInt = (-1) := by decide
      exact W.iret (v := (-1)) hx hb hr (fun t ht hW => ⟨⟨(-1), (fv_1, wd, ar), rfl, ⟨hF_fv_1, hA_ar, (fM_put (fM_rf [0] _) efv_1 (by decide)), (fA_rf [] _), (show wt_wet ((-1) : Int32) a (fv 7) (ar 5) from Or.inl ⟨by omega, rfl⟩), trivial⟩, ⟨by rw [ht]; exact hP, va_K.moved hW.alike hK⟩⟩, hS.F ht⟩) hS.2.2 dX12_wet_21
    · skip
      exact absurd c_5 (by decide)
  · skip
    have i_7 : 0 ≤ a.toInt ∧ a.toInt ≤ 2147483647 := ⟨p_4.1, (iv_any a).2⟩
    have i_8 : 0 ≤ a.toInt ∧ a.toInt ≤ 199 := ⟨i_7.1, p_4.2⟩
    refine lv_if_eq (tgt := 20) hx hb dX12_wet_9 (by decide) (fun c_9 => ?_) (fun c_9 => ?_)
    · skip
      exact absurd c_9 (by decide)
    · skip
      refine lv_aload_n hx hb dX12_wet_12 rfl (lv_at hl 0 rfl) ?_
      refine lv_iload_n hx hb dX12_wet_13 rfl (lv_at hl 1 rfl) ?_
      have z_10 : (fv_1 7).toInt = (fv 7).toInt := congrArg Int32.toInt ((congrFun efv_1 7))
      have z_11 : 0 ≤ (fv_1 7).toInt ∧ (fv_1 7).toInt ≤ 200 := hF_fv_1 7
      refine va_calli (va_runV (As := [.int a]) (rest := []) ⟨hx, hb, hml, hown, hts⟩ (m_rainOfC l dC dI H.size h ad cA hd fv_1 wd ar hF_fv_1 hA_ar a i_8) (cwV 1 hts (gV kw_8_16 kw_8_18 kw_p_61 kw_1_15 kw_8_19) rfl rfl rfl (by decide +kernel) ⟨Nat.le_of_ble_eq_true rfl, Nat.le_of_ble_eq_true rfl⟩) ⟨fun a U g mk q => ⟨q.1, q.2.1, q.2.2.1, va_K.moved (u := U) (U := U.calling g mk a) (Vm.Alike.refl U.vm) q.2.2.2⟩, va_recv hK hP (ci := 12) (q0 := 0) rfl rfl, fun U hU hW => ⟨rfl, by rw [hU], by rw [hU]; exact hP, va_K.moved hW.alike hK⟩⟩ rfl rfl hl.1 rfl (lv_room (Nat.le_of_ble_eq_true rfl)) dX12_wet_14 ⟨Nat.le_of_ble_eq_true rfl, Nat.le_of_ble_eq_true rfl⟩) hS (fun q _ h9 => aM_up hS q h9) (aM_up hS) (fun r_12 u t H1 locs ht _ hw hB _ hk1 hS => ?_)
      obtain ⟨fv_14, wd_15, ar_16⟩ := u
      obtain ⟨hF_fv_14, hA_ar_16, fr_17, fa_18, p_13, -⟩ := hw
      have hP : va_P (dC, dI) vwCl (wsM h ad cA fv_14 wd_15 ar_16) H1 := by have h9 := hB.1; rw [ht] at h9; exact h9
      have fr_17 : fM [] fv_1 fv_14 := fr_17
      have fa_18 : fA [] ar ar_16 := fa_18
      have p_13 : wt_on r_12 a (fv_1 7) (ar 5) := p_13
      generalize H1 = H at hP hS ⊢
      refine lv_goto (tgt := 21) hx hb dX12_wet_17 (by decide) ?_
      exact W.iret (v := r_12) hx hb hr (fun t ht hW => ⟨⟨r_12, (fv_14, wd_15, ar_16), rfl, ⟨hF_fv_14, hA_ar_16, (fM_call (fM_put (fM_rf [0] _) efv_1 (by decide)) fr_17 (by decide)), (fA_call (fA_rf [] _) fa_18 (by decide)), (show wt_wet r_12 a (fv 7) (ar 5) from Or.inr ⟨by omega, by have h9 := p_13; rw [show fv_1 7 = fv 7 from ((fM_put (fM_rf [0] _) efv_1 (by decide)) 7 rfl)] at h9; exact h9⟩), trivial⟩, ⟨by rw [ht]; exact hP, va_K.moved hW.alike hK⟩⟩, hS.F ht⟩) hS.2.2 dX12_wet_21
